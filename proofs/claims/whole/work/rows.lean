section
-- ===== PART A: goes FIRST, ahead of the names: the tables' words, and 'selects' of the private methods out of them =====
/-- a private method of a class that the tables say can be made, by its rows of tables_1 -/
def lw_okq (q : MethodName × Nat) : Prop := (q.1.cls ≠ "java/lang/invoke/MethodHandle" ∧ q.1.cls ≠ "java/lang/invoke/VarHandle") ∧ Cond.instantiable q.1.cls q.2 ∈ tables_1 ∧ Cond.privateMethod q.1 ∈ tables_1 ∧ Cond.instanceMethod q.1 ∈ tables_1
theorem lw_p0 : lw_okq (⟨"MatchFinders", "forgetRows", "()V"⟩, 4) := ⟨⟨by decide +kernel, by decide +kernel⟩, List.mem_of_getElem? (i := 13) (by decide +kernel), List.mem_of_getElem? (i := 177) (by decide +kernel), List.mem_of_getElem? (i := 178) (by decide +kernel)⟩
theorem lw_p1 : lw_okq (⟨"MatchFinders", "filling", "(III)I"⟩, 4) := ⟨⟨by decide +kernel, by decide +kernel⟩, List.mem_of_getElem? (i := 13) (by decide +kernel), List.mem_of_getElem? (i := 186) (by decide +kernel), List.mem_of_getElem? (i := 187) (by decide +kernel)⟩
theorem lw_p2 : lw_okq (⟨"MatchFinders", "isPlace", "(I)Z"⟩, 4) := ⟨⟨by decide +kernel, by decide +kernel⟩, List.mem_of_getElem? (i := 13) (by decide +kernel), List.mem_of_getElem? (i := 219) (by decide +kernel), List.mem_of_getElem? (i := 220) (by decide +kernel)⟩
theorem lw_p3 : lw_okq (⟨"MatchFinders", "rowOf", "(I)LMatchFinders$Row;"⟩, 4) := ⟨⟨by decide +kernel, by decide +kernel⟩, List.mem_of_getElem? (i := 13) (by decide +kernel), List.mem_of_getElem? (i := 268) (by decide +kernel), List.mem_of_getElem? (i := 269) (by decide +kernel)⟩
theorem lw_p4 : lw_okq (⟨"MatchFinders", "choose", "(II)V"⟩, 4) := ⟨⟨by decide +kernel, by decide +kernel⟩, List.mem_of_getElem? (i := 13) (by decide +kernel), List.mem_of_getElem? (i := 288) (by decide +kernel), List.mem_of_getElem? (i := 289) (by decide +kernel)⟩
theorem lw_p5 : lw_okq (⟨"java/lang/Throwable", "fillInStackTrace", "(I)Ljava/lang/Throwable;"⟩, 6) := ⟨⟨by decide +kernel, by decide +kernel⟩, List.mem_of_getElem? (i := 370) (by decide +kernel), List.mem_of_getElem? (i := 368) (by decide +kernel), List.mem_of_getElem? (i := 369) (by decide +kernel)⟩
theorem lw_p6 : lw_okq (⟨"MatchFindersModel", "lay", "(I)V"⟩, 16) := ⟨⟨by decide +kernel, by decide +kernel⟩, List.mem_of_getElem? (i := 400) (by decide +kernel), List.mem_of_getElem? (i := 467) (by decide +kernel), List.mem_of_getElem? (i := 468) (by decide +kernel)⟩
theorem lw_p7 : lw_okq (⟨"MatchFindersModel", "forget", "()V"⟩, 16) := ⟨⟨by decide +kernel, by decide +kernel⟩, List.mem_of_getElem? (i := 400) (by decide +kernel), List.mem_of_getElem? (i := 471) (by decide +kernel), List.mem_of_getElem? (i := 472) (by decide +kernel)⟩
theorem lw_p8 : lw_okq (⟨"MatchFindersModel", "told", "(III)I"⟩, 16) := ⟨⟨by decide +kernel, by decide +kernel⟩, List.mem_of_getElem? (i := 400) (by decide +kernel), List.mem_of_getElem? (i := 500) (by decide +kernel), List.mem_of_getElem? (i := 501) (by decide +kernel)⟩
theorem lw_p9 : lw_okq (⟨"MatchFindersModel", "find", "(II)V"⟩, 16) := ⟨⟨by decide +kernel, by decide +kernel⟩, List.mem_of_getElem? (i := 400) (by decide +kernel), List.mem_of_getElem? (i := 504) (by decide +kernel), List.mem_of_getElem? (i := 505) (by decide +kernel)⟩
theorem lw_p10 : lw_okq (⟨"MatchFindersModel", "longAt", "(II)I"⟩, 16) := ⟨⟨by decide +kernel, by decide +kernel⟩, List.mem_of_getElem? (i := 400) (by decide +kernel), List.mem_of_getElem? (i := 508) (by decide +kernel), List.mem_of_getElem? (i := 509) (by decide +kernel)⟩
theorem lw_p11 : lw_okq (⟨"MatchFindersModel", "make", "(I)V"⟩, 16) := ⟨⟨by decide +kernel, by decide +kernel⟩, List.mem_of_getElem? (i := 400) (by decide +kernel), List.mem_of_getElem? (i := 527) (by decide +kernel), List.mem_of_getElem? (i := 528) (by decide +kernel)⟩
theorem lw_p12 : lw_okq (⟨"MatchFindersModel", "makeLeast", "()V"⟩, 16) := ⟨⟨by decide +kernel, by decide +kernel⟩, List.mem_of_getElem? (i := 400) (by decide +kernel), List.mem_of_getElem? (i := 531) (by decide +kernel), List.mem_of_getElem? (i := 532) (by decide +kernel)⟩
theorem lw_p13 : lw_okq (⟨"MatchFindersModel", "findLeast", "(I)V"⟩, 16) := ⟨⟨by decide +kernel, by decide +kernel⟩, List.mem_of_getElem? (i := 400) (by decide +kernel), List.mem_of_getElem? (i := 535) (by decide +kernel), List.mem_of_getElem? (i := 536) (by decide +kernel)⟩
theorem lw_p14 : lw_okq (⟨"MatchFindersModel", "choose", "(I)I"⟩, 16) := ⟨⟨by decide +kernel, by decide +kernel⟩, List.mem_of_getElem? (i := 400) (by decide +kernel), List.mem_of_getElem? (i := 539) (by decide +kernel), List.mem_of_getElem? (i := 540) (by decide +kernel)⟩
theorem lw_p15 : lw_okq (⟨"MatchFindersModel", "lay", "(IIII)V"⟩, 16) := ⟨⟨by decide +kernel, by decide +kernel⟩, List.mem_of_getElem? (i := 400) (by decide +kernel), List.mem_of_getElem? (i := 546) (by decide +kernel), List.mem_of_getElem? (i := 547) (by decide +kernel)⟩
def lw_privs_1 : List (MethodName × Nat) := [(⟨"MatchFinders", "forgetRows", "()V"⟩, 4), (⟨"MatchFinders", "filling", "(III)I"⟩, 4), (⟨"MatchFinders", "isPlace", "(I)Z"⟩, 4), (⟨"MatchFinders", "rowOf", "(I)LMatchFinders$Row;"⟩, 4), (⟨"MatchFinders", "choose", "(II)V"⟩, 4), (⟨"java/lang/Throwable", "fillInStackTrace", "(I)Ljava/lang/Throwable;"⟩, 6), (⟨"MatchFindersModel", "lay", "(I)V"⟩, 16), (⟨"MatchFindersModel", "forget", "()V"⟩, 16), (⟨"MatchFindersModel", "told", "(III)I"⟩, 16), (⟨"MatchFindersModel", "find", "(II)V"⟩, 16), (⟨"MatchFindersModel", "longAt", "(II)I"⟩, 16), (⟨"MatchFindersModel", "make", "(I)V"⟩, 16), (⟨"MatchFindersModel", "makeLeast", "()V"⟩, 16), (⟨"MatchFindersModel", "findLeast", "(I)V"⟩, 16), (⟨"MatchFindersModel", "choose", "(I)I"⟩, 16), (⟨"MatchFindersModel", "lay", "(IIII)V"⟩, 16)]
theorem lw_r1 : ∀ q ∈ lw_privs_1, lw_okq q := List.forall_mem_cons.mpr ⟨lw_p0, List.forall_mem_cons.mpr ⟨lw_p1, List.forall_mem_cons.mpr ⟨lw_p2, List.forall_mem_cons.mpr ⟨lw_p3, List.forall_mem_cons.mpr ⟨lw_p4, List.forall_mem_cons.mpr ⟨lw_p5, List.forall_mem_cons.mpr ⟨lw_p6, List.forall_mem_cons.mpr ⟨lw_p7, List.forall_mem_cons.mpr ⟨lw_p8, List.forall_mem_cons.mpr ⟨lw_p9, List.forall_mem_cons.mpr ⟨lw_p10, List.forall_mem_cons.mpr ⟨lw_p11, List.forall_mem_cons.mpr ⟨lw_p12, List.forall_mem_cons.mpr ⟨lw_p13, List.forall_mem_cons.mpr ⟨lw_p14, List.forall_mem_cons.mpr ⟨lw_p15, fun _ h => absurd h List.not_mem_nil⟩⟩⟩⟩⟩⟩⟩⟩⟩⟩⟩⟩⟩⟩⟩⟩
theorem lw_p16 : lw_okq (⟨"MatchFindersModel", "bitsOf", "(IZ)I"⟩, 16) := ⟨⟨by decide +kernel, by decide +kernel⟩, List.mem_of_getElem? (i := 400) (by decide +kernel), List.mem_of_getElem? (i := 558) (by decide +kernel), List.mem_of_getElem? (i := 559) (by decide +kernel)⟩
def lw_privs_2 : List (MethodName × Nat) := [(⟨"MatchFindersModel", "bitsOf", "(IZ)I"⟩, 16)]
theorem lw_r2 : ∀ q ∈ lw_privs_2, lw_okq q := List.forall_mem_cons.mpr ⟨lw_p16, fun _ h => absurd h List.not_mem_nil⟩
def lw_privs : List (MethodName × Nat) := lw_privs_1 ++ (lw_privs_2)
def lw_tbl : List Cond := k2_sels lw_privs ++ tables_1
theorem lw_privs_ok : ∀ q ∈ lw_privs, lw_okq q := by
  show ∀ q ∈ lw_privs_1 ++ (lw_privs_2), lw_okq q
  exact List.forall_mem_append.mpr ⟨lw_r1, lw_r2⟩
end
section
/-! ===== BEGIN words of one list among another's, by their places ===== -/
theorem goodIn_r {big : List Cond} (ws : List Cond) (ps : List Nat) (hp : ws = ps.filterMap (fun i => big[i]?)) (h : ws.all goodWord = true) : GoodIn big ws := by
  intro w hw
  have h1 := List.all_eq_true.mp h w hw
  rw [hp] at hw
  obtain ⟨i, -, hi⟩ := List.mem_filterMap.mp hw
  have hm : w ∈ big := by first | exact List.mem_of_getElem? hi | exact List.getElem?_mem hi
  exact ⟨hm, good_of_word h1⟩
theorem goodIn_app {big a b : List Cond} (ha : GoodIn big a) (hb : GoodIn big b) : GoodIn big (a ++ b) := fun w h => (List.mem_append.mp h).elim (ha w) (hb w)
theorem goodIn_ca {big a b : List Cond} {c : Cond} (ha : GoodIn big (c :: a)) (hb : GoodIn big b) : GoodIn big (c :: (a ++ b)) := fun w h => (List.mem_cons.mp h).elim (fun e => ha w (List.mem_cons.mpr (Or.inl e))) (fun h => (List.mem_append.mp h).elim (fun h => ha w (List.mem_cons.mpr (Or.inr h))) (hb w))
theorem goodIn_sub {big ws : List Cond} (hm : ∀ w ∈ ws, w ∈ big) (h : ws.all goodWord = true) : GoodIn big ws := fun w hw => ⟨hm w hw, good_of_word (List.all_eq_true.mp h w hw)⟩
/-! ===== END ===== -/

def vx_no (w : Cond) : Bool := decide (w ≠ .isRef (.static Bundle.tN "UNASSIGNED_STACK" Bundle.steD)) && decide (w ≠ .isRef (.static Bundle.tN "SUPPRESSED_SENTINEL" Bundle.listD)) && decide (w ≠ .laysStatic Bundle.tN "UNASSIGNED_STACK" Bundle.steD) && decide (w ≠ .laysStatic Bundle.tN "SUPPRESSED_SENTINEL" Bundle.listD)
def vx_at0 (own : String) (ic : Nat) (X : String) (names : List String) : List Cond := (Bundle.ownAtoms0 own ic X names).filter vx_no
def vx_atS (own : String) (ic : Nat) (X : String) (names : List String) : List Cond := (Bundle.ownAtoms own ic X names).filter vx_no
end
section
/-! ===== BEGIN printed: names, fields, word lists, decode rows ===== -/
def RX0 : String := "MatchFinders$Finder"
def TX0 : u_T := fun k => match k with
  | 0 => ("MatchFinders$Finder", "text", "LMatchFinders$Text;", true)
  | 1 => ("MatchFinders$Finder", "span", "I", true)
  | 2 => ("MatchFinders$Finder", "depth", "I", true)
  | 3 => ("MatchFinders$Finder", "frontLengths", "[I", true)
  | 4 => ("MatchFinders$Finder", "frontDistances", "[I", true)
  | 5 => ("MatchFinders$Finder", "frontCount", "I", false)
  | 6 => ("MatchFinders$Finder", "length", "I", false)
  | _ => ("MatchFinders$Finder", "distance", "I", false)
def tyX0 : Nat → FieldType := fun k => match k with
  | 0 => .object "MatchFinders$Text"
  | 1 => .int
  | 2 => .int
  | 3 => .array .int
  | 4 => .array .int
  | 5 => .int
  | 6 => .int
  | _ => .int
abbrev wsX00 : List Cond := u_ws RX0 TX0 8
theorem nmX0 : ∀ a, a < 8 → ∀ b, b < 8 → a ≠ b → (TX0 a).2.1 ≠ (TX0 b).2.1 := by decide +kernel
theorem tyX0_ok : ∀ k, k < 8 → parseFieldDescriptor (TX0 k).2.2.1 = some (tyX0 k) := by decide +kernel
abbrev cX0_init : ByteArray := prog_2_method_1_code
def yX0_init : MethodName := ⟨RX0, "<init>", "(LMatchFinders$Text;II)V"⟩
abbrev cX0_take : ByteArray := prog_2_method_2_code
def yX0_take : MethodName := ⟨RX0, "take", "(II)V"⟩
abbrev cX0_gatherFront : ByteArray := prog_2_method_3_code
def yX0_gatherFront : MethodName := ⟨RX0, "gatherFront", "(I)V"⟩
abbrev cX0_seekLongest : ByteArray := prog_2_method_4_code
def yX0_seekLongest : MethodName := ⟨RX0, "seekLongest", "(I)V"⟩
abbrev cX0_seekChained : ByteArray := prog_2_method_5_code
def yX0_seekChained : MethodName := ⟨RX0, "seekChained", "(I)V"⟩
abbrev cX0_seekLookingAhead : ByteArray := prog_2_method_6_code
def yX0_seekLookingAhead : MethodName := ⟨RX0, "seekLookingAhead", "(I)V"⟩
def RX1 : String := "MatchFinders$Plan"
def TX1 : u_T := fun k => match k with
  | 0 => ("MatchFinders$Plan", "costs", "[I", true)
  | 1 => ("MatchFinders$Plan", "lengths", "[I", true)
  | _ => ("MatchFinders$Plan", "distances", "[I", true)
def tyX1 : Nat → FieldType := fun k => match k with
  | 0 => .array .int
  | 1 => .array .int
  | _ => .array .int
abbrev wsX10 : List Cond := u_ws RX1 TX1 3
theorem nmX1 : ∀ a, a < 3 → ∀ b, b < 3 → a ≠ b → (TX1 a).2.1 ≠ (TX1 b).2.1 := by decide +kernel
theorem tyX1_ok : ∀ k, k < 3 → parseFieldDescriptor (TX1 k).2.2.1 = some (tyX1 k) := by decide +kernel
abbrev cX1_init : ByteArray := prog_3_method_1_code
def yX1_init : MethodName := ⟨RX1, "<init>", "()V"⟩
abbrev cX1_make : ByteArray := prog_3_method_2_code
def yX1_make : MethodName := ⟨RX1, "make", "(LMatchFinders$Finder;)V"⟩
abbrev cX1_weighMatches : ByteArray := prog_3_method_3_code
def yX1_weighMatches : MethodName := ⟨RX1, "weighMatches", "(ILMatchFinders$Finder;)V"⟩
def RX2 : String := "MatchFinders$Row"
def TX2 : u_T := fun k => match k with
  | 0 => ("MatchFinders$Row", "places", "[I", true)
  | 1 => ("MatchFinders$Row", "lengths", "[I", true)
  | 2 => ("MatchFinders$Row", "distances", "[I", true)
  | 3 => ("MatchFinders$Row", "count", "I", false)
  | 4 => ("MatchFinders$Row", "plainBits", "I", false)
  | 5 => ("MatchFinders$Row", "bitsWithRepeats", "I", false)
  | 6 => ("MatchFinders$Row", "repeatCount", "I", false)
  | 7 => ("MatchFinders$Row", "told", "Z", false)
  | 8 => ("MatchFinders$Row", "latest", "I", false)
  | 9 => ("MatchFinders$Row", "second", "I", false)
  | _ => ("MatchFinders$Row", "third", "I", false)
def tyX2 : Nat → FieldType := fun k => match k with
  | 0 => .array .int
  | 1 => .array .int
  | 2 => .array .int
  | 3 => .int
  | 4 => .int
  | 5 => .int
  | 6 => .int
  | 7 => .boolean
  | 8 => .int
  | 9 => .int
  | _ => .int
abbrev wsX20 : List Cond := u_ws RX2 TX2 11
theorem nmX2 : ∀ a, a < 11 → ∀ b, b < 11 → a ≠ b → (TX2 a).2.1 ≠ (TX2 b).2.1 := by decide +kernel
theorem tyX2_ok : ∀ k, k < 11 → parseFieldDescriptor (TX2 k).2.2.1 = some (tyX2 k) := by decide +kernel
abbrev cX2_init : ByteArray := prog_4_method_1_code
def yX2_init : MethodName := ⟨RX2, "<init>", "()V"⟩
abbrev cX2_begin : ByteArray := prog_4_method_2_code
def yX2_begin : MethodName := ⟨RX2, "begin", "()V"⟩
abbrev cX2_put : ByteArray := prog_4_method_3_code
def yX2_put : MethodName := ⟨RX2, "put", "(III)V"⟩
abbrev cX2_countMatch : ByteArray := prog_4_method_4_code
def yX2_countMatch : MethodName := ⟨RX2, "countMatch", "(II)V"⟩
abbrev cX2_remember : ByteArray := prog_4_method_5_code
def yX2_remember : MethodName := ⟨RX2, "remember", "(I)V"⟩
def RX3 : String := "MatchFinders$Text"
def TX3 : u_T := fun k => match k with
  | 0 => ("MatchFinders$Text", "bytes", "[I", true)
  | 1 => ("MatchFinders$Text", "ahead", "I", false)
  | _ => ("MatchFinders$Text", "size", "I", false)
def tyX3 : Nat → FieldType := fun k => match k with
  | 0 => .array .int
  | 1 => .int
  | _ => .int
abbrev wsX30 : List Cond := u_ws RX3 TX3 3
theorem nmX3 : ∀ a, a < 3 → ∀ b, b < 3 → a ≠ b → (TX3 a).2.1 ≠ (TX3 b).2.1 := by decide +kernel
theorem tyX3_ok : ∀ k, k < 3 → parseFieldDescriptor (TX3 k).2.2.1 = some (tyX3 k) := by decide +kernel
abbrev cX3_init : ByteArray := prog_5_method_1_code
def yX3_init : MethodName := ⟨RX3, "<init>", "()V"⟩
abbrev cX3_put : ByteArray := prog_5_method_2_code
def yX3_put : MethodName := ⟨RX3, "put", "(I)V"⟩
abbrev cX3_becomeDictionary : ByteArray := prog_5_method_3_code
def yX3_becomeDictionary : MethodName := ⟨RX3, "becomeDictionary", "()V"⟩
abbrev cX3_at : ByteArray := prog_5_method_4_code
def yX3_at : MethodName := ⟨RX3, "at", "(I)I"⟩
abbrev cX3_farthest : ByteArray := prog_5_method_5_code
def yX3_farthest : MethodName := ⟨RX3, "farthest", "(I)I"⟩
abbrev cX3_mostLength : ByteArray := prog_5_method_6_code
def yX3_mostLength : MethodName := ⟨RX3, "mostLength", "(I)I"⟩
abbrev cX3_reach : ByteArray := prog_5_method_7_code
def yX3_reach : MethodName := ⟨RX3, "reach", "(III)I"⟩
def RX4 : String := "MatchFinders"
def TX4 : u_T := fun k => match k with
  | 0 => ("MatchFinders", "text", "LMatchFinders$Text;", true)
  | 1 => ("MatchFinders", "finder", "LMatchFinders$Finder;", true)
  | 2 => ("MatchFinders", "plan", "LMatchFinders$Plan;", true)
  | _ => ("MatchFinders", "rows", "[LMatchFinders$Row;", true)
def tyX4 : Nat → FieldType := fun k => match k with
  | 0 => .object "MatchFinders$Text"
  | 1 => .object "MatchFinders$Finder"
  | 2 => .object "MatchFinders$Plan"
  | _ => .array (.object "MatchFinders$Row")
abbrev wsX40 : List Cond := u_ws RX4 TX4 4
theorem nmX4 : ∀ a, a < 4 → ∀ b, b < 4 → a ≠ b → (TX4 a).2.1 ≠ (TX4 b).2.1 := by decide +kernel
theorem tyX4_ok : ∀ k, k < 4 → parseFieldDescriptor (TX4 k).2.2.1 = some (tyX4 k) := by decide +kernel
abbrev cX4_init : ByteArray := prog_1_method_1_code
def yX4_init : MethodName := ⟨RX4, "<init>", "(II)V"⟩
abbrev cX4_add : ByteArray := prog_1_method_2_code
def yX4_add : MethodName := ⟨RX4, "add", "(I)I"⟩
abbrev cX4_fill : ByteArray := prog_1_method_3_code
def yX4_fill : MethodName := ⟨RX4, "fill", "(III)I"⟩
abbrev cX4_clear : ByteArray := prog_1_method_4_code
def yX4_clear : MethodName := ⟨RX4, "clear", "()I"⟩
abbrev cX4_dictionary : ByteArray := prog_1_method_5_code
def yX4_dictionary : MethodName := ⟨RX4, "dictionary", "()I"⟩
abbrev cX4_size : ByteArray := prog_1_method_6_code
def yX4_size : MethodName := ⟨RX4, "size", "(I)I"⟩
abbrev cX4_octet : ByteArray := prog_1_method_7_code
def yX4_octet : MethodName := ⟨RX4, "octet", "(I)I"⟩
abbrev cX4_longest : ByteArray := prog_1_method_8_code
def yX4_longest : MethodName := ⟨RX4, "longest", "(II)I"⟩
abbrev cX4_chained : ByteArray := prog_1_method_9_code
def yX4_chained : MethodName := ⟨RX4, "chained", "(II)I"⟩
abbrev cX4_front : ByteArray := prog_1_method_10_code
def yX4_front : MethodName := ⟨RX4, "front", "(III)I"⟩
abbrev cX4_pieces : ByteArray := prog_1_method_11_code
def yX4_pieces : MethodName := ⟨RX4, "pieces", "(I)I"⟩
abbrev cX4_piece : ByteArray := prog_1_method_12_code
def yX4_piece : MethodName := ⟨RX4, "piece", "(III)I"⟩
abbrev cX4_bits : ByteArray := prog_1_method_13_code
def yX4_bits : MethodName := ⟨RX4, "bits", "(II)I"⟩
abbrev cX4_repeats : ByteArray := prog_1_method_14_code
def yX4_repeats : MethodName := ⟨RX4, "repeats", "(I)I"⟩
abbrev cX4_share : ByteArray := prog_1_method_15_code
def yX4_share : MethodName := ⟨RX4, "share", "(I)I"⟩
abbrev cX4_nearest : ByteArray := prog_1_method_16_code
def yX4_nearest : MethodName := ⟨RX4, "nearest", "(II)I"⟩
abbrev cX4_gammaBits : ByteArray := prog_1_method_17_code
def yX4_gammaBits : MethodName := ⟨RX4, "gammaBits", "(I)I"⟩
abbrev cX4_isPlace : ByteArray := prog_1_method_18_code
def yX4_isPlace : MethodName := ⟨RX4, "isPlace", "(I)Z"⟩
abbrev cX4_isWay : ByteArray := prog_1_method_19_code
def yX4_isWay : MethodName := ⟨RX4, "isWay", "(I)Z"⟩
abbrev cX4_filling : ByteArray := prog_1_method_20_code
def yX4_filling : MethodName := ⟨RX4, "filling", "(III)I"⟩
abbrev cX4_forgetRows : ByteArray := prog_1_method_21_code
def yX4_forgetRows : MethodName := ⟨RX4, "forgetRows", "()V"⟩
abbrev cX4_rowOf : ByteArray := prog_1_method_22_code
def yX4_rowOf : MethodName := ⟨RX4, "rowOf", "(I)LMatchFinders$Row;"⟩
abbrev cX4_choose : ByteArray := prog_1_method_23_code
def yX4_choose : MethodName := ⟨RX4, "choose", "(II)V"⟩
def RX5 : String := "MatchFindersModel"
def TX5 : u_T := fun k => match k with
  | 0 => ("MatchFindersModel", "thrown", "I", false)
  | 1 => ("MatchFindersModel", "span", "I", true)
  | 2 => ("MatchFindersModel", "depth", "I", true)
  | 3 => ("MatchFindersModel", "bytes", "[I", true)
  | 4 => ("MatchFindersModel", "size", "I", false)
  | 5 => ("MatchFindersModel", "ahead", "I", false)
  | 6 => ("MatchFindersModel", "isMade", "[Z", true)
  | 7 => ("MatchFindersModel", "pieces", "[I", true)
  | 8 => ("MatchFindersModel", "place", "[I", true)
  | 9 => ("MatchFindersModel", "length", "[I", true)
  | 10 => ("MatchFindersModel", "distance", "[I", true)
  | 11 => ("MatchFindersModel", "cost", "[I", true)
  | 12 => ("MatchFindersModel", "least", "[I", true)
  | 13 => ("MatchFindersModel", "bestLength", "I", false)
  | 14 => ("MatchFindersModel", "bestDistance", "I", false)
  | _ => ("MatchFindersModel", "repeats", "I", false)
def tyX5 : Nat → FieldType := fun k => match k with
  | 0 => .int
  | 1 => .int
  | 2 => .int
  | 3 => .array .int
  | 4 => .int
  | 5 => .int
  | 6 => .array .boolean
  | 7 => .array .int
  | 8 => .array .int
  | 9 => .array .int
  | 10 => .array .int
  | 11 => .array .int
  | 12 => .array .int
  | 13 => .int
  | 14 => .int
  | _ => .int
abbrev wsX50 : List Cond := u_ws RX5 TX5 16
theorem nmX5 : ∀ a, a < 16 → ∀ b, b < 16 → a ≠ b → (TX5 a).2.1 ≠ (TX5 b).2.1 := by decide +kernel
theorem tyX5_ok : ∀ k, k < 16 → parseFieldDescriptor (TX5 k).2.2.1 = some (tyX5 k) := by decide +kernel
abbrev cX5_init : ByteArray := prog_7_method_1_code
def yX5_init : MethodName := ⟨RX5, "<init>", "(II)V"⟩
abbrev cX5_thrown : ByteArray := prog_7_method_2_code
def yX5_thrown : MethodName := ⟨RX5, "thrown", "()I"⟩
abbrev cX5_in : ByteArray := prog_7_method_3_code
def yX5_in : MethodName := ⟨RX5, "in", "(III)Z"⟩
abbrev cX5_forget : ByteArray := prog_7_method_4_code
def yX5_forget : MethodName := ⟨RX5, "forget", "()V"⟩
abbrev cX5_lay : ByteArray := prog_7_method_5_code
def yX5_lay : MethodName := ⟨RX5, "lay", "(I)V"⟩
abbrev cX5_add : ByteArray := prog_7_method_6_code
def yX5_add : MethodName := ⟨RX5, "add", "(I)I"⟩
abbrev cX5_fill : ByteArray := prog_7_method_7_code
def yX5_fill : MethodName := ⟨RX5, "fill", "(III)I"⟩
abbrev cX5_clear : ByteArray := prog_7_method_8_code
def yX5_clear : MethodName := ⟨RX5, "clear", "()I"⟩
abbrev cX5_dictionary : ByteArray := prog_7_method_9_code
def yX5_dictionary : MethodName := ⟨RX5, "dictionary", "()I"⟩
abbrev cX5_size : ByteArray := prog_7_method_10_code
def yX5_size : MethodName := ⟨RX5, "size", "(I)I"⟩
abbrev cX5_octet : ByteArray := prog_7_method_11_code
def yX5_octet : MethodName := ⟨RX5, "octet", "(I)I"⟩
abbrev cX5_longAt : ByteArray := prog_7_method_12_code
def yX5_longAt : MethodName := ⟨RX5, "longAt", "(II)I"⟩
abbrev cX5_find : ByteArray := prog_7_method_13_code
def yX5_find : MethodName := ⟨RX5, "find", "(II)V"⟩
abbrev cX5_told : ByteArray := prog_7_method_14_code
def yX5_told : MethodName := ⟨RX5, "told", "(III)I"⟩
abbrev cX5_longest : ByteArray := prog_7_method_15_code
def yX5_longest : MethodName := ⟨RX5, "longest", "(II)I"⟩
abbrev cX5_chained : ByteArray := prog_7_method_16_code
def yX5_chained : MethodName := ⟨RX5, "chained", "(II)I"⟩
abbrev cX5_front : ByteArray := prog_7_method_17_code
def yX5_front : MethodName := ⟨RX5, "front", "(III)I"⟩
abbrev cX5_g : ByteArray := prog_7_method_18_code
def yX5_g : MethodName := ⟨RX5, "g", "(I)I"⟩
abbrev cX5_lay_ : ByteArray := prog_7_method_19_code
def yX5_lay_ : MethodName := ⟨RX5, "lay", "(IIII)V"⟩
abbrev cX5_make : ByteArray := prog_7_method_20_code
def yX5_make : MethodName := ⟨RX5, "make", "(I)V"⟩
abbrev cX5_findLeast : ByteArray := prog_7_method_21_code
def yX5_findLeast : MethodName := ⟨RX5, "findLeast", "(I)V"⟩
abbrev cX5_choose : ByteArray := prog_7_method_22_code
def yX5_choose : MethodName := ⟨RX5, "choose", "(I)I"⟩
abbrev cX5_makeLeast : ByteArray := prog_7_method_23_code
def yX5_makeLeast : MethodName := ⟨RX5, "makeLeast", "()V"⟩
abbrev cX5_isWay : ByteArray := prog_7_method_24_code
def yX5_isWay : MethodName := ⟨RX5, "isWay", "(I)Z"⟩
abbrev cX5_pieces : ByteArray := prog_7_method_25_code
def yX5_pieces : MethodName := ⟨RX5, "pieces", "(I)I"⟩
abbrev cX5_piece : ByteArray := prog_7_method_26_code
def yX5_piece : MethodName := ⟨RX5, "piece", "(III)I"⟩
abbrev cX5_bitsOf : ByteArray := prog_7_method_27_code
def yX5_bitsOf : MethodName := ⟨RX5, "bitsOf", "(IZ)I"⟩
abbrev cX5_bits : ByteArray := prog_7_method_28_code
def yX5_bits : MethodName := ⟨RX5, "bits", "(II)I"⟩
abbrev cX5_repeats : ByteArray := prog_7_method_29_code
def yX5_repeats : MethodName := ⟨RX5, "repeats", "(I)I"⟩
abbrev cX5_share : ByteArray := prog_7_method_30_code
def yX5_share : MethodName := ⟨RX5, "share", "(I)I"⟩
def RJ9 : String := "java/lang/Math"
def TJ9 : u_T := fun k => match k with
  | _ => ("", "", "", false)
def tyJ9 : Nat → FieldType := fun k => match k with
  | _ => .int
abbrev wsJ90 : List Cond := u_ws RJ9 TJ9 0
theorem nmJ9 : ∀ a, a < 0 → ∀ b, b < 0 → a ≠ b → (TJ9 a).2.1 ≠ (TJ9 b).2.1 := by decide +kernel
theorem tyJ9_ok : ∀ k, k < 0 → parseFieldDescriptor (TJ9 k).2.2.1 = some (tyJ9 k) := by decide +kernel
abbrev cJ9_max_7cf53 : ByteArray := prog_10_method_65_code
def yJ9_max_7cf53 : MethodName := ⟨RJ9, "max", "(II)I"⟩
abbrev cJ9_min_7cf53 : ByteArray := prog_10_method_69_code
def yJ9_min_7cf53 : MethodName := ⟨RJ9, "min", "(II)I"⟩
def RJ0 : String := "java/lang/String"
def TJ0 : u_T := fun k => match k with
  | _ => ("", "", "", false)
def tyJ0 : Nat → FieldType := fun k => match k with
  | _ => .int
abbrev wsJ00 : List Cond := u_ws RJ0 TJ0 0
theorem nmJ0 : ∀ a, a < 0 → ∀ b, b < 0 → a ≠ b → (TJ0 a).2.1 ≠ (TJ0 b).2.1 := by decide +kernel
theorem tyJ0_ok : ∀ k, k < 0 → parseFieldDescriptor (TJ0 k).2.2.1 = some (tyJ0 k) := by decide +kernel
def RL : String := "MatchFindersLaw"
abbrev cL_share : ByteArray := method_3_code
def yL_share : MethodName := ⟨RL, "share", "(LMatchFinders;I[J)I"⟩
def wsX0_init : List Cond := .code yX0_init cX0_init 4 none :: ([.methodLink RX0 3 objectInit, .instanceMethod objectInit, .code objectInit ⟨#[0xb1]⟩ 1 none, .arrayClass .int, .fieldLink RX0 9 "MatchFinders$Finder" "frontLengths" "[I", .fieldLink RX0 15 "MatchFinders$Finder" "frontDistances" "[I", .fieldLink RX0 18 "MatchFinders$Finder" "text" "LMatchFinders$Text;", .fieldLink RX0 22 "MatchFinders$Finder" "span" "I", .fieldLink RX0 26 "MatchFinders$Finder" "depth" "I"] ++ wsX00)
def wsX0_take : List Cond := .code yX0_take cX0_take 3 none :: ([.fieldLink RX0 29 "MatchFinders$Finder" "length" "I", .fieldLink RX0 32 "MatchFinders$Finder" "distance" "I"] ++ wsX00)
def wsX3_mostLength : List Cond := .code yX3_mostLength cX3_mostLength 2 (some .int) :: ([.fieldLink RX3 15 "MatchFinders$Text" "size" "I", .methodLink RX3 22 Lib.Math.min.name, .static Lib.Math.min.name, .initialized "java/lang/Math", .code Lib.Math.min.name Lib.Math.min.code 2 (some .int)] ++ wsX30)
def wsX3_farthest : List Cond := .code yX3_farthest cX3_farthest 2 (some .int) :: ([.fieldLink RX3 19 "MatchFinders$Text" "ahead" "I"] ++ wsX30)
def wsX3_reach : List Cond := .code yX3_reach cX3_reach 7 (some .int) :: ([.fieldLink RX3 19 "MatchFinders$Text" "ahead" "I", .fieldLink RX3 9 "MatchFinders$Text" "bytes" "[I"] ++ wsX30)
def wsX0_gatherFront_r1 : List Cond := [Cond.fieldLink RX0 35 "MatchFinders$Finder" "frontCount" "I", Cond.fieldLink RX0 18 "MatchFinders$Finder" "text" "LMatchFinders$Text;", Cond.fieldLink RX0 22 "MatchFinders$Finder" "span" "I", Cond.methodLink RX0 47 Lib.Math.min.name, Cond.static Lib.Math.min.name, Cond.initialized "java/lang/Math", Cond.code Lib.Math.min.name Lib.Math.min.code 2 (some .int), Cond.fieldLink RX0 9 "MatchFinders$Finder" "frontLengths" "[I", Cond.fieldLink RX0 15 "MatchFinders$Finder" "frontDistances" "[I", Cond.methodLink RX0 38 yX3_mostLength, Cond.instanceMethod yX3_mostLength, Cond.selects RX3 yX3_mostLength yX3_mostLength, Cond.initialized RX3, Cond.code yX3_mostLength cX3_mostLength 2 (some .int), Cond.fieldLink RX3 15 "MatchFinders$Text" "size" "I", Cond.methodLink RX3 22 Lib.Math.min.name, Cond.methodLink RX0 44 yX3_farthest, Cond.instanceMethod yX3_farthest, Cond.selects RX3 yX3_farthest yX3_farthest, Cond.code yX3_farthest cX3_farthest 2 (some .int), Cond.fieldLink RX3 19 "MatchFinders$Text" "ahead" "I", Cond.methodLink RX0 53 yX3_reach, Cond.instanceMethod yX3_reach, Cond.selects RX3 yX3_reach yX3_reach]
def wsX0_gatherFront_r2 : List Cond := [Cond.code yX3_reach cX3_reach 7 (some .int), Cond.fieldLink RX3 9 "MatchFinders$Text" "bytes" "[I"]
def wsX0_gatherFront : List Cond := .code yX0_gatherFront cX0_gatherFront 7 none :: ((wsX0_gatherFront_r1 ++ wsX0_gatherFront_r2) ++ wsX00 ++ wsX30)
def wsX0_seekLongest_r1 : List Cond := [Cond.fieldLink RX0 35 "MatchFinders$Finder" "frontCount" "I", Cond.fieldLink RX0 9 "MatchFinders$Finder" "frontLengths" "[I", Cond.fieldLink RX0 15 "MatchFinders$Finder" "frontDistances" "[I", Cond.methodLink RX0 57 yX0_gatherFront, Cond.instanceMethod yX0_gatherFront, Cond.selects RX0 yX0_gatherFront yX0_gatherFront, Cond.initialized RX0, Cond.code yX0_gatherFront cX0_gatherFront 7 none, Cond.fieldLink RX0 18 "MatchFinders$Finder" "text" "LMatchFinders$Text;", Cond.fieldLink RX0 22 "MatchFinders$Finder" "span" "I", Cond.methodLink RX0 47 Lib.Math.min.name, Cond.static Lib.Math.min.name, Cond.initialized "java/lang/Math", Cond.code Lib.Math.min.name Lib.Math.min.code 2 (some .int), Cond.methodLink RX0 38 yX3_mostLength, Cond.instanceMethod yX3_mostLength, Cond.selects RX3 yX3_mostLength yX3_mostLength, Cond.initialized RX3, Cond.code yX3_mostLength cX3_mostLength 2 (some .int), Cond.fieldLink RX3 15 "MatchFinders$Text" "size" "I", Cond.methodLink RX3 22 Lib.Math.min.name, Cond.methodLink RX0 44 yX3_farthest, Cond.instanceMethod yX3_farthest, Cond.selects RX3 yX3_farthest yX3_farthest]
def wsX0_seekLongest_r2 : List Cond := [Cond.code yX3_farthest cX3_farthest 2 (some .int), Cond.fieldLink RX3 19 "MatchFinders$Text" "ahead" "I", Cond.methodLink RX0 53 yX3_reach, Cond.instanceMethod yX3_reach, Cond.selects RX3 yX3_reach yX3_reach, Cond.code yX3_reach cX3_reach 7 (some .int), Cond.fieldLink RX3 9 "MatchFinders$Text" "bytes" "[I", Cond.methodLink RX0 61 yX0_take, Cond.instanceMethod yX0_take, Cond.selects RX0 yX0_take yX0_take, Cond.code yX0_take cX0_take 3 none, Cond.fieldLink RX0 29 "MatchFinders$Finder" "length" "I", Cond.fieldLink RX0 32 "MatchFinders$Finder" "distance" "I"]
def wsX0_seekLongest : List Cond := .code yX0_seekLongest cX0_seekLongest 2 none :: ((wsX0_seekLongest_r1 ++ wsX0_seekLongest_r2) ++ wsX00 ++ wsX30)
def wsX0_seekChained_r1 : List Cond := [Cond.fieldLink RX0 18 "MatchFinders$Finder" "text" "LMatchFinders$Text;", Cond.fieldLink RX0 22 "MatchFinders$Finder" "span" "I", Cond.methodLink RX0 47 Lib.Math.min.name, Cond.static Lib.Math.min.name, Cond.initialized "java/lang/Math", Cond.code Lib.Math.min.name Lib.Math.min.code 2 (some .int), Cond.fieldLink RX0 26 "MatchFinders$Finder" "depth" "I", Cond.fieldLink RX0 29 "MatchFinders$Finder" "length" "I", Cond.methodLink RX0 61 yX0_take, Cond.instanceMethod yX0_take, Cond.selects RX0 yX0_take yX0_take, Cond.initialized RX0, Cond.code yX0_take cX0_take 3 none, Cond.fieldLink RX0 32 "MatchFinders$Finder" "distance" "I", Cond.methodLink RX0 38 yX3_mostLength, Cond.instanceMethod yX3_mostLength, Cond.selects RX3 yX3_mostLength yX3_mostLength, Cond.initialized RX3, Cond.code yX3_mostLength cX3_mostLength 2 (some .int), Cond.fieldLink RX3 15 "MatchFinders$Text" "size" "I", Cond.methodLink RX3 22 Lib.Math.min.name, Cond.methodLink RX0 44 yX3_farthest, Cond.instanceMethod yX3_farthest, Cond.selects RX3 yX3_farthest yX3_farthest]
def wsX0_seekChained_r2 : List Cond := [Cond.code yX3_farthest cX3_farthest 2 (some .int), Cond.fieldLink RX3 19 "MatchFinders$Text" "ahead" "I", Cond.methodLink RX0 53 yX3_reach, Cond.instanceMethod yX3_reach, Cond.selects RX3 yX3_reach yX3_reach, Cond.code yX3_reach cX3_reach 7 (some .int), Cond.fieldLink RX3 9 "MatchFinders$Text" "bytes" "[I"]
def wsX0_seekChained : List Cond := .code yX0_seekChained cX0_seekChained 7 none :: ((wsX0_seekChained_r1 ++ wsX0_seekChained_r2) ++ wsX00 ++ wsX30)
def wsX0_seekLookingAhead_r1 : List Cond := [Cond.fieldLink RX0 29 "MatchFinders$Finder" "length" "I", Cond.methodLink RX0 65 yX0_seekLongest, Cond.instanceMethod yX0_seekLongest, Cond.selects RX0 yX0_seekLongest yX0_seekLongest, Cond.initialized RX0, Cond.code yX0_seekLongest cX0_seekLongest 2 none, Cond.fieldLink RX0 35 "MatchFinders$Finder" "frontCount" "I", Cond.fieldLink RX0 9 "MatchFinders$Finder" "frontLengths" "[I", Cond.fieldLink RX0 15 "MatchFinders$Finder" "frontDistances" "[I", Cond.methodLink RX0 57 yX0_gatherFront, Cond.instanceMethod yX0_gatherFront, Cond.selects RX0 yX0_gatherFront yX0_gatherFront, Cond.code yX0_gatherFront cX0_gatherFront 7 none, Cond.fieldLink RX0 18 "MatchFinders$Finder" "text" "LMatchFinders$Text;", Cond.fieldLink RX0 22 "MatchFinders$Finder" "span" "I", Cond.methodLink RX0 47 Lib.Math.min.name, Cond.static Lib.Math.min.name, Cond.initialized "java/lang/Math", Cond.code Lib.Math.min.name Lib.Math.min.code 2 (some .int), Cond.methodLink RX0 38 yX3_mostLength, Cond.instanceMethod yX3_mostLength, Cond.selects RX3 yX3_mostLength yX3_mostLength, Cond.initialized RX3, Cond.code yX3_mostLength cX3_mostLength 2 (some .int)]
def wsX0_seekLookingAhead_r2 : List Cond := [Cond.fieldLink RX3 15 "MatchFinders$Text" "size" "I", Cond.methodLink RX3 22 Lib.Math.min.name, Cond.methodLink RX0 44 yX3_farthest, Cond.instanceMethod yX3_farthest, Cond.selects RX3 yX3_farthest yX3_farthest, Cond.code yX3_farthest cX3_farthest 2 (some .int), Cond.fieldLink RX3 19 "MatchFinders$Text" "ahead" "I", Cond.methodLink RX0 53 yX3_reach, Cond.instanceMethod yX3_reach, Cond.selects RX3 yX3_reach yX3_reach, Cond.code yX3_reach cX3_reach 7 (some .int), Cond.fieldLink RX3 9 "MatchFinders$Text" "bytes" "[I", Cond.methodLink RX0 61 yX0_take, Cond.instanceMethod yX0_take, Cond.selects RX0 yX0_take yX0_take, Cond.code yX0_take cX0_take 3 none, Cond.fieldLink RX0 32 "MatchFinders$Finder" "distance" "I"]
def wsX0_seekLookingAhead : List Cond := .code yX0_seekLookingAhead cX0_seekLookingAhead 3 none :: ((wsX0_seekLookingAhead_r1 ++ wsX0_seekLookingAhead_r2) ++ wsX00 ++ wsX30)
def wsX1_init : List Cond := .code yX1_init cX1_init 1 none :: ([.methodLink RX1 3 objectInit, .instanceMethod objectInit, .code objectInit ⟨#[0xb1]⟩ 1 none, .arrayClass .int, .fieldLink RX1 9 "MatchFinders$Plan" "costs" "[I", .fieldLink RX1 15 "MatchFinders$Plan" "lengths" "[I", .fieldLink RX1 18 "MatchFinders$Plan" "distances" "[I"] ++ wsX10)
def wsX4_gammaBits : List Cond := .code yX4_gammaBits cX4_gammaBits 3 (some .int) :: ([])
def wsX1_weighMatches : List Cond := .code yX1_weighMatches cX1_weighMatches 8 none :: ([.fieldLink RX1 41 "MatchFinders$Finder" "frontCount" "I", .fieldLink RX1 44 "MatchFinders$Finder" "frontDistances" "[I", .fieldLink RX1 51 "MatchFinders$Finder" "frontLengths" "[I", .fieldLink RX1 9 "MatchFinders$Plan" "costs" "[I", .fieldLink RX1 15 "MatchFinders$Plan" "lengths" "[I", .fieldLink RX1 18 "MatchFinders$Plan" "distances" "[I", .static yX4_gammaBits, .initialized RX4, .code yX4_gammaBits cX4_gammaBits 3 (some .int)] ++ wsX00 ++ wsX10)
def wsX1_make_r1 : List Cond := [Cond.fieldLink RX1 21 "MatchFinders$Finder" "text" "LMatchFinders$Text;", Cond.fieldLink RX1 27 "MatchFinders$Text" "size" "I", Cond.fieldLink RX1 9 "MatchFinders$Plan" "costs" "[I", Cond.fieldLink RX1 15 "MatchFinders$Plan" "lengths" "[I", Cond.fieldLink RX1 18 "MatchFinders$Plan" "distances" "[I", Cond.methodLink RX1 33 yX0_gatherFront, Cond.instanceMethod yX0_gatherFront, Cond.selects RX0 yX0_gatherFront yX0_gatherFront, Cond.initialized RX0, Cond.code yX0_gatherFront cX0_gatherFront 7 none, Cond.fieldLink RX0 35 "MatchFinders$Finder" "frontCount" "I", Cond.fieldLink RX0 18 "MatchFinders$Finder" "text" "LMatchFinders$Text;", Cond.fieldLink RX0 22 "MatchFinders$Finder" "span" "I", Cond.methodLink RX0 47 Lib.Math.min.name, Cond.static Lib.Math.min.name, Cond.initialized "java/lang/Math", Cond.code Lib.Math.min.name Lib.Math.min.code 2 (some .int), Cond.fieldLink RX0 9 "MatchFinders$Finder" "frontLengths" "[I", Cond.fieldLink RX0 15 "MatchFinders$Finder" "frontDistances" "[I", Cond.methodLink RX0 38 yX3_mostLength, Cond.instanceMethod yX3_mostLength, Cond.selects RX3 yX3_mostLength yX3_mostLength, Cond.initialized RX3, Cond.code yX3_mostLength cX3_mostLength 2 (some .int)]
def wsX1_make_r2 : List Cond := [Cond.fieldLink RX3 15 "MatchFinders$Text" "size" "I", Cond.methodLink RX3 22 Lib.Math.min.name, Cond.methodLink RX0 44 yX3_farthest, Cond.instanceMethod yX3_farthest, Cond.selects RX3 yX3_farthest yX3_farthest, Cond.code yX3_farthest cX3_farthest 2 (some .int), Cond.fieldLink RX3 19 "MatchFinders$Text" "ahead" "I", Cond.methodLink RX0 53 yX3_reach, Cond.instanceMethod yX3_reach, Cond.selects RX3 yX3_reach yX3_reach, Cond.code yX3_reach cX3_reach 7 (some .int), Cond.fieldLink RX3 9 "MatchFinders$Text" "bytes" "[I", Cond.methodLink RX1 37 yX1_weighMatches, Cond.instanceMethod yX1_weighMatches, Cond.selects RX1 yX1_weighMatches yX1_weighMatches, Cond.initialized RX1, Cond.code yX1_weighMatches cX1_weighMatches 8 none, Cond.fieldLink RX1 41 "MatchFinders$Finder" "frontCount" "I", Cond.fieldLink RX1 44 "MatchFinders$Finder" "frontDistances" "[I", Cond.fieldLink RX1 51 "MatchFinders$Finder" "frontLengths" "[I", Cond.static yX4_gammaBits, Cond.initialized RX4, Cond.code yX4_gammaBits cX4_gammaBits 3 (some .int)]
def wsX1_make : List Cond := .code yX1_make cX1_make 4 none :: ((wsX1_make_r1 ++ wsX1_make_r2) ++ wsX00 ++ wsX30 ++ wsX10)
def wsX2_init : List Cond := .code yX2_init cX2_init 1 none :: ([.methodLink RX2 3 objectInit, .instanceMethod objectInit, .code objectInit ⟨#[0xb1]⟩ 1 none, .arrayClass .int, .fieldLink RX2 9 "MatchFinders$Row" "places" "[I", .fieldLink RX2 15 "MatchFinders$Row" "lengths" "[I", .fieldLink RX2 18 "MatchFinders$Row" "distances" "[I"] ++ wsX20)
def wsX2_begin : List Cond := .code yX2_begin cX2_begin 1 none :: ([.fieldLink RX2 21 "MatchFinders$Row" "count" "I", .fieldLink RX2 25 "MatchFinders$Row" "plainBits" "I", .fieldLink RX2 28 "MatchFinders$Row" "bitsWithRepeats" "I", .fieldLink RX2 31 "MatchFinders$Row" "repeatCount" "I", .fieldLink RX2 34 "MatchFinders$Row" "latest" "I", .fieldLink RX2 37 "MatchFinders$Row" "second" "I", .fieldLink RX2 40 "MatchFinders$Row" "third" "I"] ++ wsX20)
def wsX2_remember : List Cond := .code yX2_remember cX2_remember 2 none :: ([.fieldLink RX2 34 "MatchFinders$Row" "latest" "I", .fieldLink RX2 37 "MatchFinders$Row" "second" "I", .fieldLink RX2 40 "MatchFinders$Row" "third" "I"] ++ wsX20)
def wsX2_countMatch : List Cond := .code yX2_countMatch cX2_countMatch 5 none :: ([.fieldLink RX2 25 "MatchFinders$Row" "plainBits" "I", .fieldLink RX2 34 "MatchFinders$Row" "latest" "I", .fieldLink RX2 37 "MatchFinders$Row" "second" "I", .fieldLink RX2 40 "MatchFinders$Row" "third" "I", .fieldLink RX2 31 "MatchFinders$Row" "repeatCount" "I", .fieldLink RX2 28 "MatchFinders$Row" "bitsWithRepeats" "I", .static yX4_gammaBits, .initialized RX4, .code yX4_gammaBits cX4_gammaBits 3 (some .int), .methodLink RX2 51 yX2_remember, .instanceMethod yX2_remember, .selects RX2 yX2_remember yX2_remember, .initialized RX2, .code yX2_remember cX2_remember 2 none] ++ wsX20)
def wsX2_put : List Cond := .code yX2_put cX2_put 4 none :: ([.fieldLink RX2 21 "MatchFinders$Row" "count" "I", .fieldLink RX2 9 "MatchFinders$Row" "places" "[I", .fieldLink RX2 15 "MatchFinders$Row" "lengths" "[I", .fieldLink RX2 18 "MatchFinders$Row" "distances" "[I", .fieldLink RX2 25 "MatchFinders$Row" "plainBits" "I", .fieldLink RX2 28 "MatchFinders$Row" "bitsWithRepeats" "I", .methodLink RX2 43 yX2_countMatch, .instanceMethod yX2_countMatch, .selects RX2 yX2_countMatch yX2_countMatch, .initialized RX2, .code yX2_countMatch cX2_countMatch 5 none, .fieldLink RX2 34 "MatchFinders$Row" "latest" "I", .fieldLink RX2 37 "MatchFinders$Row" "second" "I", .fieldLink RX2 40 "MatchFinders$Row" "third" "I", .fieldLink RX2 31 "MatchFinders$Row" "repeatCount" "I", .static yX4_gammaBits, .initialized RX4, .code yX4_gammaBits cX4_gammaBits 3 (some .int), .methodLink RX2 51 yX2_remember, .instanceMethod yX2_remember, .selects RX2 yX2_remember yX2_remember, .code yX2_remember cX2_remember 2 none] ++ wsX20)
def wsX3_init : List Cond := .code yX3_init cX3_init 1 none :: ([.methodLink RX3 3 objectInit, .instanceMethod objectInit, .code objectInit ⟨#[0xb1]⟩ 1 none, .arrayClass .int, .fieldLink RX3 9 "MatchFinders$Text" "bytes" "[I"] ++ wsX30)
def wsX3_put : List Cond := .code yX3_put cX3_put 2 none :: ([.fieldLink RX3 15 "MatchFinders$Text" "size" "I", .fieldLink RX3 9 "MatchFinders$Text" "bytes" "[I", .fieldLink RX3 19 "MatchFinders$Text" "ahead" "I"] ++ wsX30)
def wsX3_becomeDictionary : List Cond := .code yX3_becomeDictionary cX3_becomeDictionary 4 none :: ([.fieldLink RX3 15 "MatchFinders$Text" "size" "I", .methodLink RX3 22 Lib.Math.min.name, .static Lib.Math.min.name, .initialized "java/lang/Math", .code Lib.Math.min.name Lib.Math.min.code 2 (some .int), .fieldLink RX3 19 "MatchFinders$Text" "ahead" "I", .fieldLink RX3 9 "MatchFinders$Text" "bytes" "[I"] ++ wsX30)
def wsX3_at : List Cond := .code yX3_at cX3_at 2 (some .int) :: ([.fieldLink RX3 19 "MatchFinders$Text" "ahead" "I", .fieldLink RX3 15 "MatchFinders$Text" "size" "I", .fieldLink RX3 9 "MatchFinders$Text" "bytes" "[I"] ++ wsX30)
def wsX4_nearest : List Cond := .code yX4_nearest cX4_nearest 2 (some .int) :: ([.methodLink RX4 133 Lib.Math.min.name, .static Lib.Math.min.name, .initialized "java/lang/Math", .code Lib.Math.min.name Lib.Math.min.code 2 (some .int), .methodLink RX4 138 Lib.Math.max.name, .static Lib.Math.max.name, .code Lib.Math.max.name Lib.Math.max.code 2 (some .int)])
def wsX4_init_r1 : List Cond := [Cond.methodLink RX4 3 objectInit, Cond.instanceMethod objectInit, Cond.code objectInit ⟨#[0xb1]⟩ 1 none, Cond.classLink RX4 9 RX3, Cond.instantiable RX3 3, Cond.initialized RX3, Cond.fieldLink RX4 12 "MatchFinders" "text" "LMatchFinders$Text;", Cond.classLink RX4 16 RX0, Cond.instantiable RX0 8, Cond.initialized RX0, Cond.fieldLink RX4 25 "MatchFinders" "finder" "LMatchFinders$Finder;", Cond.classLink RX4 29 RX1, Cond.instantiable RX1 3, Cond.initialized RX1, Cond.fieldLink RX4 32 "MatchFinders" "plan" "LMatchFinders$Plan;", Cond.classLink RX4 36 RX2, Cond.fieldLink RX4 38 "MatchFinders" "rows" "[LMatchFinders$Row;", Cond.instantiable RX2 11, Cond.initialized RX2, Cond.instanceMethod yX3_init, Cond.code yX3_init cX3_init 1 none, Cond.methodLink RX3 3 objectInit, Cond.arrayClass .int, Cond.fieldLink RX3 9 "MatchFinders$Text" "bytes" "[I"]
def wsX4_init_r2 : List Cond := [Cond.methodLink RX4 18 yX4_nearest, Cond.static yX4_nearest, Cond.initialized RX4, Cond.code yX4_nearest cX4_nearest 2 (some .int), Cond.methodLink RX4 133 Lib.Math.min.name, Cond.static Lib.Math.min.name, Cond.initialized "java/lang/Math", Cond.code Lib.Math.min.name Lib.Math.min.code 2 (some .int), Cond.methodLink RX4 138 Lib.Math.max.name, Cond.static Lib.Math.max.name, Cond.code Lib.Math.max.name Lib.Math.max.code 2 (some .int), Cond.methodLink RX4 22 yX0_init, Cond.instanceMethod yX0_init, Cond.code yX0_init cX0_init 4 none, Cond.methodLink RX0 3 objectInit, Cond.fieldLink RX0 9 "MatchFinders$Finder" "frontLengths" "[I", Cond.fieldLink RX0 15 "MatchFinders$Finder" "frontDistances" "[I", Cond.fieldLink RX0 18 "MatchFinders$Finder" "text" "LMatchFinders$Text;", Cond.fieldLink RX0 22 "MatchFinders$Finder" "span" "I", Cond.fieldLink RX0 26 "MatchFinders$Finder" "depth" "I", Cond.instanceMethod yX1_init, Cond.code yX1_init cX1_init 1 none, Cond.methodLink RX1 3 objectInit, Cond.fieldLink RX1 9 "MatchFinders$Plan" "costs" "[I"]
def wsX4_init_r3 : List Cond := [Cond.fieldLink RX1 15 "MatchFinders$Plan" "lengths" "[I", Cond.fieldLink RX1 18 "MatchFinders$Plan" "distances" "[I", Cond.instanceMethod yX2_init, Cond.code yX2_init cX2_init 1 none, Cond.methodLink RX2 3 objectInit, Cond.fieldLink RX2 9 "MatchFinders$Row" "places" "[I", Cond.fieldLink RX2 15 "MatchFinders$Row" "lengths" "[I", Cond.fieldLink RX2 18 "MatchFinders$Row" "distances" "[I"]
def wsX4_init : List Cond := .code yX4_init cX4_init 4 none :: ((wsX4_init_r1 ++ (wsX4_init_r2 ++ wsX4_init_r3)) ++ wsX30 ++ wsX40 ++ wsX00 ++ wsX10 ++ wsX20)
def wsX4_forgetRows : List Cond := .code yX4_forgetRows cX4_forgetRows 2 none :: ([.fieldLink RX4 38 "MatchFinders" "rows" "[LMatchFinders$Row;", .fieldLink RX4 141 "MatchFinders$Row" "told" "Z"] ++ wsX40 ++ wsX20)
def wsX4_add : List Cond := .code yX4_add cX4_add 2 (some .int) :: ([.fieldLink RX4 12 "MatchFinders" "text" "LMatchFinders$Text;", .fieldLink RX4 43 "MatchFinders$Text" "size" "I", .methodLink RX4 47 yX3_put, .instanceMethod yX3_put, .selects RX3 yX3_put yX3_put, .initialized RX3, .code yX3_put cX3_put 2 none, .fieldLink RX3 15 "MatchFinders$Text" "size" "I", .fieldLink RX3 9 "MatchFinders$Text" "bytes" "[I", .fieldLink RX3 19 "MatchFinders$Text" "ahead" "I", .methodLink RX4 51 yX4_forgetRows, .instanceMethod yX4_forgetRows, .selects RX4 yX4_forgetRows yX4_forgetRows, .initialized RX4, .code yX4_forgetRows cX4_forgetRows 2 none, .fieldLink RX4 38 "MatchFinders" "rows" "[LMatchFinders$Row;", .fieldLink RX4 141 "MatchFinders$Row" "told" "Z"] ++ wsX40 ++ wsX30 ++ wsX20)
def wsX4_filling : List Cond := .code yX4_filling cX4_filling 5 (some .int) :: ([.fieldLink RX4 12 "MatchFinders" "text" "LMatchFinders$Text;", .fieldLink RX4 43 "MatchFinders$Text" "size" "I", .methodLink RX4 65 yX3_at, .instanceMethod yX3_at, .selects RX3 yX3_at yX3_at, .initialized RX3, .code yX3_at cX3_at 2 (some .int), .fieldLink RX3 19 "MatchFinders$Text" "ahead" "I", .fieldLink RX3 15 "MatchFinders$Text" "size" "I", .fieldLink RX3 9 "MatchFinders$Text" "bytes" "[I"] ++ wsX40 ++ wsX30)
def wsX4_fill_r1 : List Cond := [Cond.fieldLink RX4 12 "MatchFinders" "text" "LMatchFinders$Text;", Cond.fieldLink RX4 43 "MatchFinders$Text" "size" "I", Cond.constant RX4 54 (1103515245), Cond.methodLink RX4 55 yX4_filling, Cond.instanceMethod yX4_filling, Cond.selects RX4 yX4_filling yX4_filling, Cond.initialized RX4, Cond.code yX4_filling cX4_filling 5 (some .int), Cond.methodLink RX4 65 yX3_at, Cond.instanceMethod yX3_at, Cond.selects RX3 yX3_at yX3_at, Cond.initialized RX3, Cond.code yX3_at cX3_at 2 (some .int), Cond.fieldLink RX3 19 "MatchFinders$Text" "ahead" "I", Cond.fieldLink RX3 15 "MatchFinders$Text" "size" "I", Cond.fieldLink RX3 9 "MatchFinders$Text" "bytes" "[I", Cond.methodLink RX4 47 yX3_put, Cond.instanceMethod yX3_put, Cond.selects RX3 yX3_put yX3_put, Cond.code yX3_put cX3_put 2 none, Cond.methodLink RX4 51 yX4_forgetRows, Cond.instanceMethod yX4_forgetRows, Cond.selects RX4 yX4_forgetRows yX4_forgetRows, Cond.code yX4_forgetRows cX4_forgetRows 2 none]
def wsX4_fill_r2 : List Cond := [Cond.fieldLink RX4 38 "MatchFinders" "rows" "[LMatchFinders$Row;", Cond.fieldLink RX4 141 "MatchFinders$Row" "told" "Z"]
def wsX4_fill : List Cond := .code yX4_fill cX4_fill 7 (some .int) :: ((wsX4_fill_r1 ++ wsX4_fill_r2) ++ wsX40 ++ wsX30 ++ wsX20)
def wsX4_clear : List Cond := .code yX4_clear cX4_clear 2 (some .int) :: ([.fieldLink RX4 12 "MatchFinders" "text" "LMatchFinders$Text;", .fieldLink RX4 43 "MatchFinders$Text" "size" "I", .methodLink RX4 51 yX4_forgetRows, .instanceMethod yX4_forgetRows, .selects RX4 yX4_forgetRows yX4_forgetRows, .initialized RX4, .code yX4_forgetRows cX4_forgetRows 2 none, .fieldLink RX4 38 "MatchFinders" "rows" "[LMatchFinders$Row;", .fieldLink RX4 141 "MatchFinders$Row" "told" "Z"] ++ wsX40 ++ wsX30 ++ wsX20)
def wsX4_dictionary : List Cond := .code yX4_dictionary cX4_dictionary 1 (some .int) :: ([.fieldLink RX4 12 "MatchFinders" "text" "LMatchFinders$Text;", .fieldLink RX4 62 "MatchFinders$Text" "ahead" "I", .methodLink RX4 59 yX3_becomeDictionary, .instanceMethod yX3_becomeDictionary, .selects RX3 yX3_becomeDictionary yX3_becomeDictionary, .initialized RX3, .code yX3_becomeDictionary cX3_becomeDictionary 4 none, .fieldLink RX3 15 "MatchFinders$Text" "size" "I", .methodLink RX3 22 Lib.Math.min.name, .static Lib.Math.min.name, .initialized "java/lang/Math", .code Lib.Math.min.name Lib.Math.min.code 2 (some .int), .fieldLink RX3 19 "MatchFinders$Text" "ahead" "I", .fieldLink RX3 9 "MatchFinders$Text" "bytes" "[I", .methodLink RX4 51 yX4_forgetRows, .instanceMethod yX4_forgetRows, .selects RX4 yX4_forgetRows yX4_forgetRows, .initialized RX4, .code yX4_forgetRows cX4_forgetRows 2 none, .fieldLink RX4 38 "MatchFinders" "rows" "[LMatchFinders$Row;", .fieldLink RX4 141 "MatchFinders$Row" "told" "Z"] ++ wsX40 ++ wsX30 ++ wsX20)
def wsX4_size : List Cond := .code yX4_size cX4_size 2 (some .int) :: ([.fieldLink RX4 12 "MatchFinders" "text" "LMatchFinders$Text;", .fieldLink RX4 43 "MatchFinders$Text" "size" "I", .fieldLink RX4 62 "MatchFinders$Text" "ahead" "I"] ++ wsX40 ++ wsX30)
def wsX4_octet : List Cond := .code yX4_octet cX4_octet 2 (some .int) :: ([.fieldLink RX4 12 "MatchFinders" "text" "LMatchFinders$Text;", .methodLink RX4 65 yX3_at, .instanceMethod yX3_at, .selects RX3 yX3_at yX3_at, .initialized RX3, .code yX3_at cX3_at 2 (some .int), .fieldLink RX3 19 "MatchFinders$Text" "ahead" "I", .fieldLink RX3 15 "MatchFinders$Text" "size" "I", .fieldLink RX3 9 "MatchFinders$Text" "bytes" "[I"] ++ wsX40 ++ wsX30)
def wsX4_isPlace : List Cond := .code yX4_isPlace cX4_isPlace 2 (some .boolean) :: ([.fieldLink RX4 12 "MatchFinders" "text" "LMatchFinders$Text;", .fieldLink RX4 43 "MatchFinders$Text" "size" "I"] ++ wsX40 ++ wsX30)
def wsX4_longest_r1 : List Cond := [Cond.fieldLink RX4 25 "MatchFinders" "finder" "LMatchFinders$Finder;", Cond.fieldLink RX4 76 "MatchFinders$Finder" "length" "I", Cond.fieldLink RX4 79 "MatchFinders$Finder" "distance" "I", Cond.methodLink RX4 69 yX4_isPlace, Cond.instanceMethod yX4_isPlace, Cond.selects RX4 yX4_isPlace yX4_isPlace, Cond.initialized RX4, Cond.code yX4_isPlace cX4_isPlace 2 (some .boolean), Cond.fieldLink RX4 12 "MatchFinders" "text" "LMatchFinders$Text;", Cond.fieldLink RX4 43 "MatchFinders$Text" "size" "I", Cond.methodLink RX4 73 yX0_seekLongest, Cond.instanceMethod yX0_seekLongest, Cond.selects RX0 yX0_seekLongest yX0_seekLongest, Cond.initialized RX0, Cond.code yX0_seekLongest cX0_seekLongest 2 none, Cond.fieldLink RX0 35 "MatchFinders$Finder" "frontCount" "I", Cond.fieldLink RX0 9 "MatchFinders$Finder" "frontLengths" "[I", Cond.fieldLink RX0 15 "MatchFinders$Finder" "frontDistances" "[I", Cond.methodLink RX0 57 yX0_gatherFront, Cond.instanceMethod yX0_gatherFront, Cond.selects RX0 yX0_gatherFront yX0_gatherFront, Cond.code yX0_gatherFront cX0_gatherFront 7 none, Cond.fieldLink RX0 18 "MatchFinders$Finder" "text" "LMatchFinders$Text;", Cond.fieldLink RX0 22 "MatchFinders$Finder" "span" "I"]
def wsX4_longest_r2 : List Cond := [Cond.methodLink RX0 47 Lib.Math.min.name, Cond.static Lib.Math.min.name, Cond.initialized "java/lang/Math", Cond.code Lib.Math.min.name Lib.Math.min.code 2 (some .int), Cond.methodLink RX0 38 yX3_mostLength, Cond.instanceMethod yX3_mostLength, Cond.selects RX3 yX3_mostLength yX3_mostLength, Cond.initialized RX3, Cond.code yX3_mostLength cX3_mostLength 2 (some .int), Cond.fieldLink RX3 15 "MatchFinders$Text" "size" "I", Cond.methodLink RX3 22 Lib.Math.min.name, Cond.methodLink RX0 44 yX3_farthest, Cond.instanceMethod yX3_farthest, Cond.selects RX3 yX3_farthest yX3_farthest, Cond.code yX3_farthest cX3_farthest 2 (some .int), Cond.fieldLink RX3 19 "MatchFinders$Text" "ahead" "I", Cond.methodLink RX0 53 yX3_reach, Cond.instanceMethod yX3_reach, Cond.selects RX3 yX3_reach yX3_reach, Cond.code yX3_reach cX3_reach 7 (some .int), Cond.fieldLink RX3 9 "MatchFinders$Text" "bytes" "[I", Cond.methodLink RX0 61 yX0_take, Cond.instanceMethod yX0_take, Cond.selects RX0 yX0_take yX0_take]
def wsX4_longest_r3 : List Cond := [Cond.code yX0_take cX0_take 3 none, Cond.fieldLink RX0 29 "MatchFinders$Finder" "length" "I", Cond.fieldLink RX0 32 "MatchFinders$Finder" "distance" "I"]
def wsX4_longest : List Cond := .code yX4_longest cX4_longest 3 (some .int) :: ((wsX4_longest_r1 ++ (wsX4_longest_r2 ++ wsX4_longest_r3)) ++ wsX40 ++ wsX00 ++ wsX30)
def wsX4_chained_r1 : List Cond := [Cond.fieldLink RX4 25 "MatchFinders" "finder" "LMatchFinders$Finder;", Cond.fieldLink RX4 76 "MatchFinders$Finder" "length" "I", Cond.fieldLink RX4 79 "MatchFinders$Finder" "distance" "I", Cond.methodLink RX4 69 yX4_isPlace, Cond.instanceMethod yX4_isPlace, Cond.selects RX4 yX4_isPlace yX4_isPlace, Cond.initialized RX4, Cond.code yX4_isPlace cX4_isPlace 2 (some .boolean), Cond.fieldLink RX4 12 "MatchFinders" "text" "LMatchFinders$Text;", Cond.fieldLink RX4 43 "MatchFinders$Text" "size" "I", Cond.methodLink RX4 82 yX0_seekChained, Cond.instanceMethod yX0_seekChained, Cond.selects RX0 yX0_seekChained yX0_seekChained, Cond.initialized RX0, Cond.code yX0_seekChained cX0_seekChained 7 none, Cond.fieldLink RX0 18 "MatchFinders$Finder" "text" "LMatchFinders$Text;", Cond.fieldLink RX0 22 "MatchFinders$Finder" "span" "I", Cond.methodLink RX0 47 Lib.Math.min.name, Cond.static Lib.Math.min.name, Cond.initialized "java/lang/Math", Cond.code Lib.Math.min.name Lib.Math.min.code 2 (some .int), Cond.fieldLink RX0 26 "MatchFinders$Finder" "depth" "I", Cond.fieldLink RX0 29 "MatchFinders$Finder" "length" "I", Cond.methodLink RX0 61 yX0_take]
def wsX4_chained_r2 : List Cond := [Cond.instanceMethod yX0_take, Cond.selects RX0 yX0_take yX0_take, Cond.code yX0_take cX0_take 3 none, Cond.fieldLink RX0 32 "MatchFinders$Finder" "distance" "I", Cond.methodLink RX0 38 yX3_mostLength, Cond.instanceMethod yX3_mostLength, Cond.selects RX3 yX3_mostLength yX3_mostLength, Cond.initialized RX3, Cond.code yX3_mostLength cX3_mostLength 2 (some .int), Cond.fieldLink RX3 15 "MatchFinders$Text" "size" "I", Cond.methodLink RX3 22 Lib.Math.min.name, Cond.methodLink RX0 44 yX3_farthest, Cond.instanceMethod yX3_farthest, Cond.selects RX3 yX3_farthest yX3_farthest, Cond.code yX3_farthest cX3_farthest 2 (some .int), Cond.fieldLink RX3 19 "MatchFinders$Text" "ahead" "I", Cond.methodLink RX0 53 yX3_reach, Cond.instanceMethod yX3_reach, Cond.selects RX3 yX3_reach yX3_reach, Cond.code yX3_reach cX3_reach 7 (some .int), Cond.fieldLink RX3 9 "MatchFinders$Text" "bytes" "[I"]
def wsX4_chained : List Cond := .code yX4_chained cX4_chained 3 (some .int) :: ((wsX4_chained_r1 ++ wsX4_chained_r2) ++ wsX40 ++ wsX00 ++ wsX30)
def wsX4_front_r1 : List Cond := [Cond.fieldLink RX4 25 "MatchFinders" "finder" "LMatchFinders$Finder;", Cond.fieldLink RX4 88 "MatchFinders$Finder" "frontCount" "I", Cond.fieldLink RX4 91 "MatchFinders$Finder" "frontLengths" "[I", Cond.fieldLink RX4 95 "MatchFinders$Finder" "frontDistances" "[I", Cond.methodLink RX4 69 yX4_isPlace, Cond.instanceMethod yX4_isPlace, Cond.selects RX4 yX4_isPlace yX4_isPlace, Cond.initialized RX4, Cond.code yX4_isPlace cX4_isPlace 2 (some .boolean), Cond.fieldLink RX4 12 "MatchFinders" "text" "LMatchFinders$Text;", Cond.fieldLink RX4 43 "MatchFinders$Text" "size" "I", Cond.methodLink RX4 85 yX0_gatherFront, Cond.instanceMethod yX0_gatherFront, Cond.selects RX0 yX0_gatherFront yX0_gatherFront, Cond.initialized RX0, Cond.code yX0_gatherFront cX0_gatherFront 7 none, Cond.fieldLink RX0 35 "MatchFinders$Finder" "frontCount" "I", Cond.fieldLink RX0 18 "MatchFinders$Finder" "text" "LMatchFinders$Text;", Cond.fieldLink RX0 22 "MatchFinders$Finder" "span" "I", Cond.methodLink RX0 47 Lib.Math.min.name, Cond.static Lib.Math.min.name, Cond.initialized "java/lang/Math", Cond.code Lib.Math.min.name Lib.Math.min.code 2 (some .int), Cond.fieldLink RX0 9 "MatchFinders$Finder" "frontLengths" "[I"]
def wsX4_front_r2 : List Cond := [Cond.fieldLink RX0 15 "MatchFinders$Finder" "frontDistances" "[I", Cond.methodLink RX0 38 yX3_mostLength, Cond.instanceMethod yX3_mostLength, Cond.selects RX3 yX3_mostLength yX3_mostLength, Cond.initialized RX3, Cond.code yX3_mostLength cX3_mostLength 2 (some .int), Cond.fieldLink RX3 15 "MatchFinders$Text" "size" "I", Cond.methodLink RX3 22 Lib.Math.min.name, Cond.methodLink RX0 44 yX3_farthest, Cond.instanceMethod yX3_farthest, Cond.selects RX3 yX3_farthest yX3_farthest, Cond.code yX3_farthest cX3_farthest 2 (some .int), Cond.fieldLink RX3 19 "MatchFinders$Text" "ahead" "I", Cond.methodLink RX0 53 yX3_reach, Cond.instanceMethod yX3_reach, Cond.selects RX3 yX3_reach yX3_reach, Cond.code yX3_reach cX3_reach 7 (some .int), Cond.fieldLink RX3 9 "MatchFinders$Text" "bytes" "[I"]
def wsX4_front : List Cond := .code yX4_front cX4_front 4 (some .int) :: ((wsX4_front_r1 ++ wsX4_front_r2) ++ wsX40 ++ wsX00 ++ wsX30)
def wsX4_isWay : List Cond := .code yX4_isWay cX4_isWay 1 (some .boolean) :: ([])
def wsX4_choose_r1 : List Cond := [Cond.fieldLink RX4 25 "MatchFinders" "finder" "LMatchFinders$Finder;", Cond.fieldLink RX4 32 "MatchFinders" "plan" "LMatchFinders$Plan;", Cond.fieldLink RX4 162 "MatchFinders$Plan" "lengths" "[I", Cond.fieldLink RX4 163 "MatchFinders$Plan" "distances" "[I", Cond.methodLink RX4 73 yX0_seekLongest, Cond.instanceMethod yX0_seekLongest, Cond.selects RX0 yX0_seekLongest yX0_seekLongest, Cond.initialized RX0, Cond.code yX0_seekLongest cX0_seekLongest 2 none, Cond.fieldLink RX0 35 "MatchFinders$Finder" "frontCount" "I", Cond.fieldLink RX0 9 "MatchFinders$Finder" "frontLengths" "[I", Cond.fieldLink RX0 15 "MatchFinders$Finder" "frontDistances" "[I", Cond.methodLink RX0 57 yX0_gatherFront, Cond.instanceMethod yX0_gatherFront, Cond.selects RX0 yX0_gatherFront yX0_gatherFront, Cond.code yX0_gatherFront cX0_gatherFront 7 none, Cond.fieldLink RX0 18 "MatchFinders$Finder" "text" "LMatchFinders$Text;", Cond.fieldLink RX0 22 "MatchFinders$Finder" "span" "I", Cond.methodLink RX0 47 Lib.Math.min.name, Cond.static Lib.Math.min.name, Cond.initialized "java/lang/Math", Cond.code Lib.Math.min.name Lib.Math.min.code 2 (some .int), Cond.methodLink RX0 38 yX3_mostLength, Cond.instanceMethod yX3_mostLength]
def wsX4_choose_r2 : List Cond := [Cond.selects RX3 yX3_mostLength yX3_mostLength, Cond.initialized RX3, Cond.code yX3_mostLength cX3_mostLength 2 (some .int), Cond.fieldLink RX3 15 "MatchFinders$Text" "size" "I", Cond.methodLink RX3 22 Lib.Math.min.name, Cond.methodLink RX0 44 yX3_farthest, Cond.instanceMethod yX3_farthest, Cond.selects RX3 yX3_farthest yX3_farthest, Cond.code yX3_farthest cX3_farthest 2 (some .int), Cond.fieldLink RX3 19 "MatchFinders$Text" "ahead" "I", Cond.methodLink RX0 53 yX3_reach, Cond.instanceMethod yX3_reach, Cond.selects RX3 yX3_reach yX3_reach, Cond.code yX3_reach cX3_reach 7 (some .int), Cond.fieldLink RX3 9 "MatchFinders$Text" "bytes" "[I", Cond.methodLink RX0 61 yX0_take, Cond.instanceMethod yX0_take, Cond.selects RX0 yX0_take yX0_take, Cond.code yX0_take cX0_take 3 none, Cond.fieldLink RX0 29 "MatchFinders$Finder" "length" "I", Cond.fieldLink RX0 32 "MatchFinders$Finder" "distance" "I", Cond.methodLink RX4 82 yX0_seekChained, Cond.instanceMethod yX0_seekChained, Cond.selects RX0 yX0_seekChained yX0_seekChained]
def wsX4_choose_r3 : List Cond := [Cond.code yX0_seekChained cX0_seekChained 7 none, Cond.fieldLink RX0 26 "MatchFinders$Finder" "depth" "I", Cond.methodLink RX4 159 yX0_seekLookingAhead, Cond.instanceMethod yX0_seekLookingAhead, Cond.selects RX0 yX0_seekLookingAhead yX0_seekLookingAhead, Cond.code yX0_seekLookingAhead cX0_seekLookingAhead 3 none, Cond.methodLink RX0 65 yX0_seekLongest, Cond.methodLink RX4 164 yX0_take]
def wsX4_choose : List Cond := .code yX4_choose cX4_choose 3 none :: ((wsX4_choose_r1 ++ (wsX4_choose_r2 ++ wsX4_choose_r3)) ++ wsX40 ++ wsX10 ++ wsX00 ++ wsX30)
def wsX4_rowOf_r1 : List Cond := [Cond.fieldLink RX4 38 "MatchFinders" "rows" "[LMatchFinders$Row;", Cond.fieldLink RX4 141 "MatchFinders$Row" "told" "Z", Cond.fieldLink RX4 32 "MatchFinders" "plan" "LMatchFinders$Plan;", Cond.fieldLink RX4 25 "MatchFinders" "finder" "LMatchFinders$Finder;", Cond.fieldLink RX4 12 "MatchFinders" "text" "LMatchFinders$Text;", Cond.fieldLink RX4 43 "MatchFinders$Text" "size" "I", Cond.fieldLink RX4 76 "MatchFinders$Finder" "length" "I", Cond.fieldLink RX4 79 "MatchFinders$Finder" "distance" "I", Cond.methodLink RX4 145 yX1_make, Cond.instanceMethod yX1_make, Cond.selects RX1 yX1_make yX1_make, Cond.initialized RX1, Cond.code yX1_make cX1_make 4 none, Cond.fieldLink RX1 21 "MatchFinders$Finder" "text" "LMatchFinders$Text;", Cond.fieldLink RX1 27 "MatchFinders$Text" "size" "I", Cond.fieldLink RX1 9 "MatchFinders$Plan" "costs" "[I", Cond.fieldLink RX1 15 "MatchFinders$Plan" "lengths" "[I", Cond.fieldLink RX1 18 "MatchFinders$Plan" "distances" "[I", Cond.methodLink RX1 33 yX0_gatherFront, Cond.instanceMethod yX0_gatherFront, Cond.selects RX0 yX0_gatherFront yX0_gatherFront, Cond.initialized RX0, Cond.code yX0_gatherFront cX0_gatherFront 7 none, Cond.fieldLink RX0 35 "MatchFinders$Finder" "frontCount" "I"]
def wsX4_rowOf_r2 : List Cond := [Cond.fieldLink RX0 18 "MatchFinders$Finder" "text" "LMatchFinders$Text;", Cond.fieldLink RX0 22 "MatchFinders$Finder" "span" "I", Cond.methodLink RX0 47 Lib.Math.min.name, Cond.static Lib.Math.min.name, Cond.initialized "java/lang/Math", Cond.code Lib.Math.min.name Lib.Math.min.code 2 (some .int), Cond.fieldLink RX0 9 "MatchFinders$Finder" "frontLengths" "[I", Cond.fieldLink RX0 15 "MatchFinders$Finder" "frontDistances" "[I", Cond.methodLink RX0 38 yX3_mostLength, Cond.instanceMethod yX3_mostLength, Cond.selects RX3 yX3_mostLength yX3_mostLength, Cond.initialized RX3, Cond.code yX3_mostLength cX3_mostLength 2 (some .int), Cond.fieldLink RX3 15 "MatchFinders$Text" "size" "I", Cond.methodLink RX3 22 Lib.Math.min.name, Cond.methodLink RX0 44 yX3_farthest, Cond.instanceMethod yX3_farthest, Cond.selects RX3 yX3_farthest yX3_farthest, Cond.code yX3_farthest cX3_farthest 2 (some .int), Cond.fieldLink RX3 19 "MatchFinders$Text" "ahead" "I", Cond.methodLink RX0 53 yX3_reach, Cond.instanceMethod yX3_reach, Cond.selects RX3 yX3_reach yX3_reach, Cond.code yX3_reach cX3_reach 7 (some .int)]
def wsX4_rowOf_r3 : List Cond := [Cond.fieldLink RX3 9 "MatchFinders$Text" "bytes" "[I", Cond.methodLink RX1 37 yX1_weighMatches, Cond.instanceMethod yX1_weighMatches, Cond.selects RX1 yX1_weighMatches yX1_weighMatches, Cond.code yX1_weighMatches cX1_weighMatches 8 none, Cond.fieldLink RX1 41 "MatchFinders$Finder" "frontCount" "I", Cond.fieldLink RX1 44 "MatchFinders$Finder" "frontDistances" "[I", Cond.fieldLink RX1 51 "MatchFinders$Finder" "frontLengths" "[I", Cond.static yX4_gammaBits, Cond.initialized RX4, Cond.code yX4_gammaBits cX4_gammaBits 3 (some .int), Cond.methodLink RX4 149 yX2_begin, Cond.instanceMethod yX2_begin, Cond.selects RX2 yX2_begin yX2_begin, Cond.initialized RX2, Cond.code yX2_begin cX2_begin 1 none, Cond.fieldLink RX2 21 "MatchFinders$Row" "count" "I", Cond.fieldLink RX2 25 "MatchFinders$Row" "plainBits" "I", Cond.fieldLink RX2 28 "MatchFinders$Row" "bitsWithRepeats" "I", Cond.fieldLink RX2 31 "MatchFinders$Row" "repeatCount" "I", Cond.fieldLink RX2 34 "MatchFinders$Row" "latest" "I", Cond.fieldLink RX2 37 "MatchFinders$Row" "second" "I", Cond.fieldLink RX2 40 "MatchFinders$Row" "third" "I", Cond.methodLink RX4 152 yX4_choose]
def wsX4_rowOf_r4 : List Cond := [Cond.instanceMethod yX4_choose, Cond.selects RX4 yX4_choose yX4_choose, Cond.code yX4_choose cX4_choose 3 none, Cond.fieldLink RX4 162 "MatchFinders$Plan" "lengths" "[I", Cond.fieldLink RX4 163 "MatchFinders$Plan" "distances" "[I", Cond.methodLink RX4 73 yX0_seekLongest, Cond.instanceMethod yX0_seekLongest, Cond.selects RX0 yX0_seekLongest yX0_seekLongest, Cond.code yX0_seekLongest cX0_seekLongest 2 none, Cond.methodLink RX0 57 yX0_gatherFront, Cond.methodLink RX0 61 yX0_take, Cond.instanceMethod yX0_take, Cond.selects RX0 yX0_take yX0_take, Cond.code yX0_take cX0_take 3 none, Cond.fieldLink RX0 29 "MatchFinders$Finder" "length" "I", Cond.fieldLink RX0 32 "MatchFinders$Finder" "distance" "I", Cond.methodLink RX4 82 yX0_seekChained, Cond.instanceMethod yX0_seekChained, Cond.selects RX0 yX0_seekChained yX0_seekChained, Cond.code yX0_seekChained cX0_seekChained 7 none, Cond.fieldLink RX0 26 "MatchFinders$Finder" "depth" "I", Cond.methodLink RX4 159 yX0_seekLookingAhead, Cond.instanceMethod yX0_seekLookingAhead, Cond.selects RX0 yX0_seekLookingAhead yX0_seekLookingAhead]
def wsX4_rowOf_r5 : List Cond := [Cond.code yX0_seekLookingAhead cX0_seekLookingAhead 3 none, Cond.methodLink RX0 65 yX0_seekLongest, Cond.methodLink RX4 164 yX0_take, Cond.methodLink RX4 156 yX2_put, Cond.instanceMethod yX2_put, Cond.selects RX2 yX2_put yX2_put, Cond.code yX2_put cX2_put 4 none, Cond.fieldLink RX2 9 "MatchFinders$Row" "places" "[I", Cond.fieldLink RX2 15 "MatchFinders$Row" "lengths" "[I", Cond.fieldLink RX2 18 "MatchFinders$Row" "distances" "[I", Cond.methodLink RX2 43 yX2_countMatch, Cond.instanceMethod yX2_countMatch, Cond.selects RX2 yX2_countMatch yX2_countMatch, Cond.code yX2_countMatch cX2_countMatch 5 none, Cond.methodLink RX2 51 yX2_remember, Cond.instanceMethod yX2_remember, Cond.selects RX2 yX2_remember yX2_remember, Cond.code yX2_remember cX2_remember 2 none]
def wsX4_rowOf : List Cond := .code yX4_rowOf cX4_rowOf 6 (some (.object "MatchFinders$Row")) :: ((wsX4_rowOf_r1 ++ (wsX4_rowOf_r2 ++ (wsX4_rowOf_r3 ++ (wsX4_rowOf_r4 ++ wsX4_rowOf_r5)))) ++ wsX40 ++ wsX20 ++ wsX30 ++ wsX00 ++ wsX10)
def wsX4_pieces_r1 : List Cond := [Cond.fieldLink RX4 105 "MatchFinders$Row" "count" "I", Cond.methodLink RX4 98 yX4_isWay, Cond.static yX4_isWay, Cond.initialized RX4, Cond.code yX4_isWay cX4_isWay 1 (some .boolean), Cond.methodLink RX4 101 yX4_rowOf, Cond.instanceMethod yX4_rowOf, Cond.selects RX4 yX4_rowOf yX4_rowOf, Cond.code yX4_rowOf cX4_rowOf 6 (some (.object "MatchFinders$Row")), Cond.fieldLink RX4 38 "MatchFinders" "rows" "[LMatchFinders$Row;", Cond.fieldLink RX4 141 "MatchFinders$Row" "told" "Z", Cond.fieldLink RX4 32 "MatchFinders" "plan" "LMatchFinders$Plan;", Cond.fieldLink RX4 25 "MatchFinders" "finder" "LMatchFinders$Finder;", Cond.fieldLink RX4 12 "MatchFinders" "text" "LMatchFinders$Text;", Cond.fieldLink RX4 43 "MatchFinders$Text" "size" "I", Cond.fieldLink RX4 76 "MatchFinders$Finder" "length" "I", Cond.fieldLink RX4 79 "MatchFinders$Finder" "distance" "I", Cond.methodLink RX4 145 yX1_make, Cond.instanceMethod yX1_make, Cond.selects RX1 yX1_make yX1_make, Cond.initialized RX1, Cond.code yX1_make cX1_make 4 none, Cond.fieldLink RX1 21 "MatchFinders$Finder" "text" "LMatchFinders$Text;", Cond.fieldLink RX1 27 "MatchFinders$Text" "size" "I"]
def wsX4_pieces_r2 : List Cond := [Cond.fieldLink RX1 9 "MatchFinders$Plan" "costs" "[I", Cond.fieldLink RX1 15 "MatchFinders$Plan" "lengths" "[I", Cond.fieldLink RX1 18 "MatchFinders$Plan" "distances" "[I", Cond.methodLink RX1 33 yX0_gatherFront, Cond.instanceMethod yX0_gatherFront, Cond.selects RX0 yX0_gatherFront yX0_gatherFront, Cond.initialized RX0, Cond.code yX0_gatherFront cX0_gatherFront 7 none, Cond.fieldLink RX0 35 "MatchFinders$Finder" "frontCount" "I", Cond.fieldLink RX0 18 "MatchFinders$Finder" "text" "LMatchFinders$Text;", Cond.fieldLink RX0 22 "MatchFinders$Finder" "span" "I", Cond.methodLink RX0 47 Lib.Math.min.name, Cond.static Lib.Math.min.name, Cond.initialized "java/lang/Math", Cond.code Lib.Math.min.name Lib.Math.min.code 2 (some .int), Cond.fieldLink RX0 9 "MatchFinders$Finder" "frontLengths" "[I", Cond.fieldLink RX0 15 "MatchFinders$Finder" "frontDistances" "[I", Cond.methodLink RX0 38 yX3_mostLength, Cond.instanceMethod yX3_mostLength, Cond.selects RX3 yX3_mostLength yX3_mostLength, Cond.initialized RX3, Cond.code yX3_mostLength cX3_mostLength 2 (some .int), Cond.fieldLink RX3 15 "MatchFinders$Text" "size" "I", Cond.methodLink RX3 22 Lib.Math.min.name]
def wsX4_pieces_r3 : List Cond := [Cond.methodLink RX0 44 yX3_farthest, Cond.instanceMethod yX3_farthest, Cond.selects RX3 yX3_farthest yX3_farthest, Cond.code yX3_farthest cX3_farthest 2 (some .int), Cond.fieldLink RX3 19 "MatchFinders$Text" "ahead" "I", Cond.methodLink RX0 53 yX3_reach, Cond.instanceMethod yX3_reach, Cond.selects RX3 yX3_reach yX3_reach, Cond.code yX3_reach cX3_reach 7 (some .int), Cond.fieldLink RX3 9 "MatchFinders$Text" "bytes" "[I", Cond.methodLink RX1 37 yX1_weighMatches, Cond.instanceMethod yX1_weighMatches, Cond.selects RX1 yX1_weighMatches yX1_weighMatches, Cond.code yX1_weighMatches cX1_weighMatches 8 none, Cond.fieldLink RX1 41 "MatchFinders$Finder" "frontCount" "I", Cond.fieldLink RX1 44 "MatchFinders$Finder" "frontDistances" "[I", Cond.fieldLink RX1 51 "MatchFinders$Finder" "frontLengths" "[I", Cond.static yX4_gammaBits, Cond.code yX4_gammaBits cX4_gammaBits 3 (some .int), Cond.methodLink RX4 149 yX2_begin, Cond.instanceMethod yX2_begin, Cond.selects RX2 yX2_begin yX2_begin, Cond.initialized RX2, Cond.code yX2_begin cX2_begin 1 none]
def wsX4_pieces_r4 : List Cond := [Cond.fieldLink RX2 21 "MatchFinders$Row" "count" "I", Cond.fieldLink RX2 25 "MatchFinders$Row" "plainBits" "I", Cond.fieldLink RX2 28 "MatchFinders$Row" "bitsWithRepeats" "I", Cond.fieldLink RX2 31 "MatchFinders$Row" "repeatCount" "I", Cond.fieldLink RX2 34 "MatchFinders$Row" "latest" "I", Cond.fieldLink RX2 37 "MatchFinders$Row" "second" "I", Cond.fieldLink RX2 40 "MatchFinders$Row" "third" "I", Cond.methodLink RX4 152 yX4_choose, Cond.instanceMethod yX4_choose, Cond.selects RX4 yX4_choose yX4_choose, Cond.code yX4_choose cX4_choose 3 none, Cond.fieldLink RX4 162 "MatchFinders$Plan" "lengths" "[I", Cond.fieldLink RX4 163 "MatchFinders$Plan" "distances" "[I", Cond.methodLink RX4 73 yX0_seekLongest, Cond.instanceMethod yX0_seekLongest, Cond.selects RX0 yX0_seekLongest yX0_seekLongest, Cond.code yX0_seekLongest cX0_seekLongest 2 none, Cond.methodLink RX0 57 yX0_gatherFront, Cond.methodLink RX0 61 yX0_take, Cond.instanceMethod yX0_take, Cond.selects RX0 yX0_take yX0_take, Cond.code yX0_take cX0_take 3 none, Cond.fieldLink RX0 29 "MatchFinders$Finder" "length" "I", Cond.fieldLink RX0 32 "MatchFinders$Finder" "distance" "I"]
def wsX4_pieces_r5 : List Cond := [Cond.methodLink RX4 82 yX0_seekChained, Cond.instanceMethod yX0_seekChained, Cond.selects RX0 yX0_seekChained yX0_seekChained, Cond.code yX0_seekChained cX0_seekChained 7 none, Cond.fieldLink RX0 26 "MatchFinders$Finder" "depth" "I", Cond.methodLink RX4 159 yX0_seekLookingAhead, Cond.instanceMethod yX0_seekLookingAhead, Cond.selects RX0 yX0_seekLookingAhead yX0_seekLookingAhead, Cond.code yX0_seekLookingAhead cX0_seekLookingAhead 3 none, Cond.methodLink RX0 65 yX0_seekLongest, Cond.methodLink RX4 164 yX0_take, Cond.methodLink RX4 156 yX2_put, Cond.instanceMethod yX2_put, Cond.selects RX2 yX2_put yX2_put, Cond.code yX2_put cX2_put 4 none, Cond.fieldLink RX2 9 "MatchFinders$Row" "places" "[I", Cond.fieldLink RX2 15 "MatchFinders$Row" "lengths" "[I", Cond.fieldLink RX2 18 "MatchFinders$Row" "distances" "[I", Cond.methodLink RX2 43 yX2_countMatch, Cond.instanceMethod yX2_countMatch, Cond.selects RX2 yX2_countMatch yX2_countMatch, Cond.code yX2_countMatch cX2_countMatch 5 none, Cond.methodLink RX2 51 yX2_remember, Cond.instanceMethod yX2_remember]
def wsX4_pieces_r6 : List Cond := [Cond.selects RX2 yX2_remember yX2_remember, Cond.code yX2_remember cX2_remember 2 none]
def wsX4_pieces : List Cond := .code yX4_pieces cX4_pieces 2 (some .int) :: ((wsX4_pieces_r1 ++ (wsX4_pieces_r2 ++ (wsX4_pieces_r3 ++ (wsX4_pieces_r4 ++ (wsX4_pieces_r5 ++ wsX4_pieces_r6))))) ++ wsX20 ++ wsX40 ++ wsX30 ++ wsX00 ++ wsX10)
def wsX4_piece_r1 : List Cond := [Cond.fieldLink RX4 105 "MatchFinders$Row" "count" "I", Cond.fieldLink RX4 108 "MatchFinders$Row" "places" "[I", Cond.fieldLink RX4 111 "MatchFinders$Row" "lengths" "[I", Cond.fieldLink RX4 114 "MatchFinders$Row" "distances" "[I", Cond.methodLink RX4 98 yX4_isWay, Cond.static yX4_isWay, Cond.initialized RX4, Cond.code yX4_isWay cX4_isWay 1 (some .boolean), Cond.methodLink RX4 101 yX4_rowOf, Cond.instanceMethod yX4_rowOf, Cond.selects RX4 yX4_rowOf yX4_rowOf, Cond.code yX4_rowOf cX4_rowOf 6 (some (.object "MatchFinders$Row")), Cond.fieldLink RX4 38 "MatchFinders" "rows" "[LMatchFinders$Row;", Cond.fieldLink RX4 141 "MatchFinders$Row" "told" "Z", Cond.fieldLink RX4 32 "MatchFinders" "plan" "LMatchFinders$Plan;", Cond.fieldLink RX4 25 "MatchFinders" "finder" "LMatchFinders$Finder;", Cond.fieldLink RX4 12 "MatchFinders" "text" "LMatchFinders$Text;", Cond.fieldLink RX4 43 "MatchFinders$Text" "size" "I", Cond.fieldLink RX4 76 "MatchFinders$Finder" "length" "I", Cond.fieldLink RX4 79 "MatchFinders$Finder" "distance" "I", Cond.methodLink RX4 145 yX1_make, Cond.instanceMethod yX1_make, Cond.selects RX1 yX1_make yX1_make, Cond.initialized RX1]
def wsX4_piece_r2 : List Cond := [Cond.code yX1_make cX1_make 4 none, Cond.fieldLink RX1 21 "MatchFinders$Finder" "text" "LMatchFinders$Text;", Cond.fieldLink RX1 27 "MatchFinders$Text" "size" "I", Cond.fieldLink RX1 9 "MatchFinders$Plan" "costs" "[I", Cond.fieldLink RX1 15 "MatchFinders$Plan" "lengths" "[I", Cond.fieldLink RX1 18 "MatchFinders$Plan" "distances" "[I", Cond.methodLink RX1 33 yX0_gatherFront, Cond.instanceMethod yX0_gatherFront, Cond.selects RX0 yX0_gatherFront yX0_gatherFront, Cond.initialized RX0, Cond.code yX0_gatherFront cX0_gatherFront 7 none, Cond.fieldLink RX0 35 "MatchFinders$Finder" "frontCount" "I", Cond.fieldLink RX0 18 "MatchFinders$Finder" "text" "LMatchFinders$Text;", Cond.fieldLink RX0 22 "MatchFinders$Finder" "span" "I", Cond.methodLink RX0 47 Lib.Math.min.name, Cond.static Lib.Math.min.name, Cond.initialized "java/lang/Math", Cond.code Lib.Math.min.name Lib.Math.min.code 2 (some .int), Cond.fieldLink RX0 9 "MatchFinders$Finder" "frontLengths" "[I", Cond.fieldLink RX0 15 "MatchFinders$Finder" "frontDistances" "[I", Cond.methodLink RX0 38 yX3_mostLength, Cond.instanceMethod yX3_mostLength, Cond.selects RX3 yX3_mostLength yX3_mostLength, Cond.initialized RX3]
def wsX4_piece_r3 : List Cond := [Cond.code yX3_mostLength cX3_mostLength 2 (some .int), Cond.fieldLink RX3 15 "MatchFinders$Text" "size" "I", Cond.methodLink RX3 22 Lib.Math.min.name, Cond.methodLink RX0 44 yX3_farthest, Cond.instanceMethod yX3_farthest, Cond.selects RX3 yX3_farthest yX3_farthest, Cond.code yX3_farthest cX3_farthest 2 (some .int), Cond.fieldLink RX3 19 "MatchFinders$Text" "ahead" "I", Cond.methodLink RX0 53 yX3_reach, Cond.instanceMethod yX3_reach, Cond.selects RX3 yX3_reach yX3_reach, Cond.code yX3_reach cX3_reach 7 (some .int), Cond.fieldLink RX3 9 "MatchFinders$Text" "bytes" "[I", Cond.methodLink RX1 37 yX1_weighMatches, Cond.instanceMethod yX1_weighMatches, Cond.selects RX1 yX1_weighMatches yX1_weighMatches, Cond.code yX1_weighMatches cX1_weighMatches 8 none, Cond.fieldLink RX1 41 "MatchFinders$Finder" "frontCount" "I", Cond.fieldLink RX1 44 "MatchFinders$Finder" "frontDistances" "[I", Cond.fieldLink RX1 51 "MatchFinders$Finder" "frontLengths" "[I", Cond.static yX4_gammaBits, Cond.code yX4_gammaBits cX4_gammaBits 3 (some .int), Cond.methodLink RX4 149 yX2_begin, Cond.instanceMethod yX2_begin]
def wsX4_piece_r4 : List Cond := [Cond.selects RX2 yX2_begin yX2_begin, Cond.initialized RX2, Cond.code yX2_begin cX2_begin 1 none, Cond.fieldLink RX2 21 "MatchFinders$Row" "count" "I", Cond.fieldLink RX2 25 "MatchFinders$Row" "plainBits" "I", Cond.fieldLink RX2 28 "MatchFinders$Row" "bitsWithRepeats" "I", Cond.fieldLink RX2 31 "MatchFinders$Row" "repeatCount" "I", Cond.fieldLink RX2 34 "MatchFinders$Row" "latest" "I", Cond.fieldLink RX2 37 "MatchFinders$Row" "second" "I", Cond.fieldLink RX2 40 "MatchFinders$Row" "third" "I", Cond.methodLink RX4 152 yX4_choose, Cond.instanceMethod yX4_choose, Cond.selects RX4 yX4_choose yX4_choose, Cond.code yX4_choose cX4_choose 3 none, Cond.fieldLink RX4 162 "MatchFinders$Plan" "lengths" "[I", Cond.fieldLink RX4 163 "MatchFinders$Plan" "distances" "[I", Cond.methodLink RX4 73 yX0_seekLongest, Cond.instanceMethod yX0_seekLongest, Cond.selects RX0 yX0_seekLongest yX0_seekLongest, Cond.code yX0_seekLongest cX0_seekLongest 2 none, Cond.methodLink RX0 57 yX0_gatherFront, Cond.methodLink RX0 61 yX0_take, Cond.instanceMethod yX0_take, Cond.selects RX0 yX0_take yX0_take]
def wsX4_piece_r5 : List Cond := [Cond.code yX0_take cX0_take 3 none, Cond.fieldLink RX0 29 "MatchFinders$Finder" "length" "I", Cond.fieldLink RX0 32 "MatchFinders$Finder" "distance" "I", Cond.methodLink RX4 82 yX0_seekChained, Cond.instanceMethod yX0_seekChained, Cond.selects RX0 yX0_seekChained yX0_seekChained, Cond.code yX0_seekChained cX0_seekChained 7 none, Cond.fieldLink RX0 26 "MatchFinders$Finder" "depth" "I", Cond.methodLink RX4 159 yX0_seekLookingAhead, Cond.instanceMethod yX0_seekLookingAhead, Cond.selects RX0 yX0_seekLookingAhead yX0_seekLookingAhead, Cond.code yX0_seekLookingAhead cX0_seekLookingAhead 3 none, Cond.methodLink RX0 65 yX0_seekLongest, Cond.methodLink RX4 164 yX0_take, Cond.methodLink RX4 156 yX2_put, Cond.instanceMethod yX2_put, Cond.selects RX2 yX2_put yX2_put, Cond.code yX2_put cX2_put 4 none, Cond.fieldLink RX2 9 "MatchFinders$Row" "places" "[I", Cond.fieldLink RX2 15 "MatchFinders$Row" "lengths" "[I", Cond.fieldLink RX2 18 "MatchFinders$Row" "distances" "[I", Cond.methodLink RX2 43 yX2_countMatch, Cond.instanceMethod yX2_countMatch, Cond.selects RX2 yX2_countMatch yX2_countMatch]
def wsX4_piece_r6 : List Cond := [Cond.code yX2_countMatch cX2_countMatch 5 none, Cond.methodLink RX2 51 yX2_remember, Cond.instanceMethod yX2_remember, Cond.selects RX2 yX2_remember yX2_remember, Cond.code yX2_remember cX2_remember 2 none]
def wsX4_piece : List Cond := .code yX4_piece cX4_piece 5 (some .int) :: ((wsX4_piece_r1 ++ (wsX4_piece_r2 ++ (wsX4_piece_r3 ++ (wsX4_piece_r4 ++ (wsX4_piece_r5 ++ wsX4_piece_r6))))) ++ wsX20 ++ wsX40 ++ wsX30 ++ wsX00 ++ wsX10)
def wsX4_bits_r1 : List Cond := [Cond.fieldLink RX4 117 "MatchFinders$Row" "plainBits" "I", Cond.fieldLink RX4 120 "MatchFinders$Row" "bitsWithRepeats" "I", Cond.methodLink RX4 98 yX4_isWay, Cond.static yX4_isWay, Cond.initialized RX4, Cond.code yX4_isWay cX4_isWay 1 (some .boolean), Cond.methodLink RX4 101 yX4_rowOf, Cond.instanceMethod yX4_rowOf, Cond.selects RX4 yX4_rowOf yX4_rowOf, Cond.code yX4_rowOf cX4_rowOf 6 (some (.object "MatchFinders$Row")), Cond.fieldLink RX4 38 "MatchFinders" "rows" "[LMatchFinders$Row;", Cond.fieldLink RX4 141 "MatchFinders$Row" "told" "Z", Cond.fieldLink RX4 32 "MatchFinders" "plan" "LMatchFinders$Plan;", Cond.fieldLink RX4 25 "MatchFinders" "finder" "LMatchFinders$Finder;", Cond.fieldLink RX4 12 "MatchFinders" "text" "LMatchFinders$Text;", Cond.fieldLink RX4 43 "MatchFinders$Text" "size" "I", Cond.fieldLink RX4 76 "MatchFinders$Finder" "length" "I", Cond.fieldLink RX4 79 "MatchFinders$Finder" "distance" "I", Cond.methodLink RX4 145 yX1_make, Cond.instanceMethod yX1_make, Cond.selects RX1 yX1_make yX1_make, Cond.initialized RX1, Cond.code yX1_make cX1_make 4 none, Cond.fieldLink RX1 21 "MatchFinders$Finder" "text" "LMatchFinders$Text;"]
def wsX4_bits_r2 : List Cond := [Cond.fieldLink RX1 27 "MatchFinders$Text" "size" "I", Cond.fieldLink RX1 9 "MatchFinders$Plan" "costs" "[I", Cond.fieldLink RX1 15 "MatchFinders$Plan" "lengths" "[I", Cond.fieldLink RX1 18 "MatchFinders$Plan" "distances" "[I", Cond.methodLink RX1 33 yX0_gatherFront, Cond.instanceMethod yX0_gatherFront, Cond.selects RX0 yX0_gatherFront yX0_gatherFront, Cond.initialized RX0, Cond.code yX0_gatherFront cX0_gatherFront 7 none, Cond.fieldLink RX0 35 "MatchFinders$Finder" "frontCount" "I", Cond.fieldLink RX0 18 "MatchFinders$Finder" "text" "LMatchFinders$Text;", Cond.fieldLink RX0 22 "MatchFinders$Finder" "span" "I", Cond.methodLink RX0 47 Lib.Math.min.name, Cond.static Lib.Math.min.name, Cond.initialized "java/lang/Math", Cond.code Lib.Math.min.name Lib.Math.min.code 2 (some .int), Cond.fieldLink RX0 9 "MatchFinders$Finder" "frontLengths" "[I", Cond.fieldLink RX0 15 "MatchFinders$Finder" "frontDistances" "[I", Cond.methodLink RX0 38 yX3_mostLength, Cond.instanceMethod yX3_mostLength, Cond.selects RX3 yX3_mostLength yX3_mostLength, Cond.initialized RX3, Cond.code yX3_mostLength cX3_mostLength 2 (some .int), Cond.fieldLink RX3 15 "MatchFinders$Text" "size" "I"]
def wsX4_bits_r3 : List Cond := [Cond.methodLink RX3 22 Lib.Math.min.name, Cond.methodLink RX0 44 yX3_farthest, Cond.instanceMethod yX3_farthest, Cond.selects RX3 yX3_farthest yX3_farthest, Cond.code yX3_farthest cX3_farthest 2 (some .int), Cond.fieldLink RX3 19 "MatchFinders$Text" "ahead" "I", Cond.methodLink RX0 53 yX3_reach, Cond.instanceMethod yX3_reach, Cond.selects RX3 yX3_reach yX3_reach, Cond.code yX3_reach cX3_reach 7 (some .int), Cond.fieldLink RX3 9 "MatchFinders$Text" "bytes" "[I", Cond.methodLink RX1 37 yX1_weighMatches, Cond.instanceMethod yX1_weighMatches, Cond.selects RX1 yX1_weighMatches yX1_weighMatches, Cond.code yX1_weighMatches cX1_weighMatches 8 none, Cond.fieldLink RX1 41 "MatchFinders$Finder" "frontCount" "I", Cond.fieldLink RX1 44 "MatchFinders$Finder" "frontDistances" "[I", Cond.fieldLink RX1 51 "MatchFinders$Finder" "frontLengths" "[I", Cond.static yX4_gammaBits, Cond.code yX4_gammaBits cX4_gammaBits 3 (some .int), Cond.methodLink RX4 149 yX2_begin, Cond.instanceMethod yX2_begin, Cond.selects RX2 yX2_begin yX2_begin, Cond.initialized RX2]
def wsX4_bits_r4 : List Cond := [Cond.code yX2_begin cX2_begin 1 none, Cond.fieldLink RX2 21 "MatchFinders$Row" "count" "I", Cond.fieldLink RX2 25 "MatchFinders$Row" "plainBits" "I", Cond.fieldLink RX2 28 "MatchFinders$Row" "bitsWithRepeats" "I", Cond.fieldLink RX2 31 "MatchFinders$Row" "repeatCount" "I", Cond.fieldLink RX2 34 "MatchFinders$Row" "latest" "I", Cond.fieldLink RX2 37 "MatchFinders$Row" "second" "I", Cond.fieldLink RX2 40 "MatchFinders$Row" "third" "I", Cond.methodLink RX4 152 yX4_choose, Cond.instanceMethod yX4_choose, Cond.selects RX4 yX4_choose yX4_choose, Cond.code yX4_choose cX4_choose 3 none, Cond.fieldLink RX4 162 "MatchFinders$Plan" "lengths" "[I", Cond.fieldLink RX4 163 "MatchFinders$Plan" "distances" "[I", Cond.methodLink RX4 73 yX0_seekLongest, Cond.instanceMethod yX0_seekLongest, Cond.selects RX0 yX0_seekLongest yX0_seekLongest, Cond.code yX0_seekLongest cX0_seekLongest 2 none, Cond.methodLink RX0 57 yX0_gatherFront, Cond.methodLink RX0 61 yX0_take, Cond.instanceMethod yX0_take, Cond.selects RX0 yX0_take yX0_take, Cond.code yX0_take cX0_take 3 none, Cond.fieldLink RX0 29 "MatchFinders$Finder" "length" "I"]
def wsX4_bits_r5 : List Cond := [Cond.fieldLink RX0 32 "MatchFinders$Finder" "distance" "I", Cond.methodLink RX4 82 yX0_seekChained, Cond.instanceMethod yX0_seekChained, Cond.selects RX0 yX0_seekChained yX0_seekChained, Cond.code yX0_seekChained cX0_seekChained 7 none, Cond.fieldLink RX0 26 "MatchFinders$Finder" "depth" "I", Cond.methodLink RX4 159 yX0_seekLookingAhead, Cond.instanceMethod yX0_seekLookingAhead, Cond.selects RX0 yX0_seekLookingAhead yX0_seekLookingAhead, Cond.code yX0_seekLookingAhead cX0_seekLookingAhead 3 none, Cond.methodLink RX0 65 yX0_seekLongest, Cond.methodLink RX4 164 yX0_take, Cond.methodLink RX4 156 yX2_put, Cond.instanceMethod yX2_put, Cond.selects RX2 yX2_put yX2_put, Cond.code yX2_put cX2_put 4 none, Cond.fieldLink RX2 9 "MatchFinders$Row" "places" "[I", Cond.fieldLink RX2 15 "MatchFinders$Row" "lengths" "[I", Cond.fieldLink RX2 18 "MatchFinders$Row" "distances" "[I", Cond.methodLink RX2 43 yX2_countMatch, Cond.instanceMethod yX2_countMatch, Cond.selects RX2 yX2_countMatch yX2_countMatch, Cond.code yX2_countMatch cX2_countMatch 5 none, Cond.methodLink RX2 51 yX2_remember]
def wsX4_bits_r6 : List Cond := [Cond.instanceMethod yX2_remember, Cond.selects RX2 yX2_remember yX2_remember, Cond.code yX2_remember cX2_remember 2 none]
def wsX4_bits : List Cond := .code yX4_bits cX4_bits 4 (some .int) :: ((wsX4_bits_r1 ++ (wsX4_bits_r2 ++ (wsX4_bits_r3 ++ (wsX4_bits_r4 ++ (wsX4_bits_r5 ++ wsX4_bits_r6))))) ++ wsX20 ++ wsX40 ++ wsX30 ++ wsX00 ++ wsX10)
def wsX4_repeats_r1 : List Cond := [Cond.fieldLink RX4 123 "MatchFinders$Row" "repeatCount" "I", Cond.methodLink RX4 98 yX4_isWay, Cond.static yX4_isWay, Cond.initialized RX4, Cond.code yX4_isWay cX4_isWay 1 (some .boolean), Cond.methodLink RX4 101 yX4_rowOf, Cond.instanceMethod yX4_rowOf, Cond.selects RX4 yX4_rowOf yX4_rowOf, Cond.code yX4_rowOf cX4_rowOf 6 (some (.object "MatchFinders$Row")), Cond.fieldLink RX4 38 "MatchFinders" "rows" "[LMatchFinders$Row;", Cond.fieldLink RX4 141 "MatchFinders$Row" "told" "Z", Cond.fieldLink RX4 32 "MatchFinders" "plan" "LMatchFinders$Plan;", Cond.fieldLink RX4 25 "MatchFinders" "finder" "LMatchFinders$Finder;", Cond.fieldLink RX4 12 "MatchFinders" "text" "LMatchFinders$Text;", Cond.fieldLink RX4 43 "MatchFinders$Text" "size" "I", Cond.fieldLink RX4 76 "MatchFinders$Finder" "length" "I", Cond.fieldLink RX4 79 "MatchFinders$Finder" "distance" "I", Cond.methodLink RX4 145 yX1_make, Cond.instanceMethod yX1_make, Cond.selects RX1 yX1_make yX1_make, Cond.initialized RX1, Cond.code yX1_make cX1_make 4 none, Cond.fieldLink RX1 21 "MatchFinders$Finder" "text" "LMatchFinders$Text;", Cond.fieldLink RX1 27 "MatchFinders$Text" "size" "I"]
def wsX4_repeats_r2 : List Cond := [Cond.fieldLink RX1 9 "MatchFinders$Plan" "costs" "[I", Cond.fieldLink RX1 15 "MatchFinders$Plan" "lengths" "[I", Cond.fieldLink RX1 18 "MatchFinders$Plan" "distances" "[I", Cond.methodLink RX1 33 yX0_gatherFront, Cond.instanceMethod yX0_gatherFront, Cond.selects RX0 yX0_gatherFront yX0_gatherFront, Cond.initialized RX0, Cond.code yX0_gatherFront cX0_gatherFront 7 none, Cond.fieldLink RX0 35 "MatchFinders$Finder" "frontCount" "I", Cond.fieldLink RX0 18 "MatchFinders$Finder" "text" "LMatchFinders$Text;", Cond.fieldLink RX0 22 "MatchFinders$Finder" "span" "I", Cond.methodLink RX0 47 Lib.Math.min.name, Cond.static Lib.Math.min.name, Cond.initialized "java/lang/Math", Cond.code Lib.Math.min.name Lib.Math.min.code 2 (some .int), Cond.fieldLink RX0 9 "MatchFinders$Finder" "frontLengths" "[I", Cond.fieldLink RX0 15 "MatchFinders$Finder" "frontDistances" "[I", Cond.methodLink RX0 38 yX3_mostLength, Cond.instanceMethod yX3_mostLength, Cond.selects RX3 yX3_mostLength yX3_mostLength, Cond.initialized RX3, Cond.code yX3_mostLength cX3_mostLength 2 (some .int), Cond.fieldLink RX3 15 "MatchFinders$Text" "size" "I", Cond.methodLink RX3 22 Lib.Math.min.name]
def wsX4_repeats_r3 : List Cond := [Cond.methodLink RX0 44 yX3_farthest, Cond.instanceMethod yX3_farthest, Cond.selects RX3 yX3_farthest yX3_farthest, Cond.code yX3_farthest cX3_farthest 2 (some .int), Cond.fieldLink RX3 19 "MatchFinders$Text" "ahead" "I", Cond.methodLink RX0 53 yX3_reach, Cond.instanceMethod yX3_reach, Cond.selects RX3 yX3_reach yX3_reach, Cond.code yX3_reach cX3_reach 7 (some .int), Cond.fieldLink RX3 9 "MatchFinders$Text" "bytes" "[I", Cond.methodLink RX1 37 yX1_weighMatches, Cond.instanceMethod yX1_weighMatches, Cond.selects RX1 yX1_weighMatches yX1_weighMatches, Cond.code yX1_weighMatches cX1_weighMatches 8 none, Cond.fieldLink RX1 41 "MatchFinders$Finder" "frontCount" "I", Cond.fieldLink RX1 44 "MatchFinders$Finder" "frontDistances" "[I", Cond.fieldLink RX1 51 "MatchFinders$Finder" "frontLengths" "[I", Cond.static yX4_gammaBits, Cond.code yX4_gammaBits cX4_gammaBits 3 (some .int), Cond.methodLink RX4 149 yX2_begin, Cond.instanceMethod yX2_begin, Cond.selects RX2 yX2_begin yX2_begin, Cond.initialized RX2, Cond.code yX2_begin cX2_begin 1 none]
def wsX4_repeats_r4 : List Cond := [Cond.fieldLink RX2 21 "MatchFinders$Row" "count" "I", Cond.fieldLink RX2 25 "MatchFinders$Row" "plainBits" "I", Cond.fieldLink RX2 28 "MatchFinders$Row" "bitsWithRepeats" "I", Cond.fieldLink RX2 31 "MatchFinders$Row" "repeatCount" "I", Cond.fieldLink RX2 34 "MatchFinders$Row" "latest" "I", Cond.fieldLink RX2 37 "MatchFinders$Row" "second" "I", Cond.fieldLink RX2 40 "MatchFinders$Row" "third" "I", Cond.methodLink RX4 152 yX4_choose, Cond.instanceMethod yX4_choose, Cond.selects RX4 yX4_choose yX4_choose, Cond.code yX4_choose cX4_choose 3 none, Cond.fieldLink RX4 162 "MatchFinders$Plan" "lengths" "[I", Cond.fieldLink RX4 163 "MatchFinders$Plan" "distances" "[I", Cond.methodLink RX4 73 yX0_seekLongest, Cond.instanceMethod yX0_seekLongest, Cond.selects RX0 yX0_seekLongest yX0_seekLongest, Cond.code yX0_seekLongest cX0_seekLongest 2 none, Cond.methodLink RX0 57 yX0_gatherFront, Cond.methodLink RX0 61 yX0_take, Cond.instanceMethod yX0_take, Cond.selects RX0 yX0_take yX0_take, Cond.code yX0_take cX0_take 3 none, Cond.fieldLink RX0 29 "MatchFinders$Finder" "length" "I", Cond.fieldLink RX0 32 "MatchFinders$Finder" "distance" "I"]
def wsX4_repeats_r5 : List Cond := [Cond.methodLink RX4 82 yX0_seekChained, Cond.instanceMethod yX0_seekChained, Cond.selects RX0 yX0_seekChained yX0_seekChained, Cond.code yX0_seekChained cX0_seekChained 7 none, Cond.fieldLink RX0 26 "MatchFinders$Finder" "depth" "I", Cond.methodLink RX4 159 yX0_seekLookingAhead, Cond.instanceMethod yX0_seekLookingAhead, Cond.selects RX0 yX0_seekLookingAhead yX0_seekLookingAhead, Cond.code yX0_seekLookingAhead cX0_seekLookingAhead 3 none, Cond.methodLink RX0 65 yX0_seekLongest, Cond.methodLink RX4 164 yX0_take, Cond.methodLink RX4 156 yX2_put, Cond.instanceMethod yX2_put, Cond.selects RX2 yX2_put yX2_put, Cond.code yX2_put cX2_put 4 none, Cond.fieldLink RX2 9 "MatchFinders$Row" "places" "[I", Cond.fieldLink RX2 15 "MatchFinders$Row" "lengths" "[I", Cond.fieldLink RX2 18 "MatchFinders$Row" "distances" "[I", Cond.methodLink RX2 43 yX2_countMatch, Cond.instanceMethod yX2_countMatch, Cond.selects RX2 yX2_countMatch yX2_countMatch, Cond.code yX2_countMatch cX2_countMatch 5 none, Cond.methodLink RX2 51 yX2_remember, Cond.instanceMethod yX2_remember]
def wsX4_repeats_r6 : List Cond := [Cond.selects RX2 yX2_remember yX2_remember, Cond.code yX2_remember cX2_remember 2 none]
def wsX4_repeats : List Cond := .code yX4_repeats cX4_repeats 2 (some .int) :: ((wsX4_repeats_r1 ++ (wsX4_repeats_r2 ++ (wsX4_repeats_r3 ++ (wsX4_repeats_r4 ++ (wsX4_repeats_r5 ++ wsX4_repeats_r6))))) ++ wsX20 ++ wsX40 ++ wsX30 ++ wsX00 ++ wsX10)
def wsX4_share_r1 : List Cond := [Cond.classLink RX4 126 "java/lang/ArithmeticException", Cond.initialized "java/lang/ArithmeticException", Cond.fieldLink RX4 12 "MatchFinders" "text" "LMatchFinders$Text;", Cond.fieldLink RX4 43 "MatchFinders$Text" "size" "I", Cond.fieldLink RX4 120 "MatchFinders$Row" "bitsWithRepeats" "I", Cond.methodLink RX4 98 yX4_isWay, Cond.static yX4_isWay, Cond.initialized RX4, Cond.code yX4_isWay cX4_isWay 1 (some .boolean), Cond.methodLink RX4 101 yX4_rowOf, Cond.instanceMethod yX4_rowOf, Cond.selects RX4 yX4_rowOf yX4_rowOf, Cond.code yX4_rowOf cX4_rowOf 6 (some (.object "MatchFinders$Row")), Cond.fieldLink RX4 38 "MatchFinders" "rows" "[LMatchFinders$Row;", Cond.fieldLink RX4 141 "MatchFinders$Row" "told" "Z", Cond.fieldLink RX4 32 "MatchFinders" "plan" "LMatchFinders$Plan;", Cond.fieldLink RX4 25 "MatchFinders" "finder" "LMatchFinders$Finder;", Cond.fieldLink RX4 76 "MatchFinders$Finder" "length" "I", Cond.fieldLink RX4 79 "MatchFinders$Finder" "distance" "I", Cond.methodLink RX4 145 yX1_make, Cond.instanceMethod yX1_make, Cond.selects RX1 yX1_make yX1_make, Cond.initialized RX1, Cond.code yX1_make cX1_make 4 none]
def wsX4_share_r2 : List Cond := [Cond.fieldLink RX1 21 "MatchFinders$Finder" "text" "LMatchFinders$Text;", Cond.fieldLink RX1 27 "MatchFinders$Text" "size" "I", Cond.fieldLink RX1 9 "MatchFinders$Plan" "costs" "[I", Cond.fieldLink RX1 15 "MatchFinders$Plan" "lengths" "[I", Cond.fieldLink RX1 18 "MatchFinders$Plan" "distances" "[I", Cond.methodLink RX1 33 yX0_gatherFront, Cond.instanceMethod yX0_gatherFront, Cond.selects RX0 yX0_gatherFront yX0_gatherFront, Cond.initialized RX0, Cond.code yX0_gatherFront cX0_gatherFront 7 none, Cond.fieldLink RX0 35 "MatchFinders$Finder" "frontCount" "I", Cond.fieldLink RX0 18 "MatchFinders$Finder" "text" "LMatchFinders$Text;", Cond.fieldLink RX0 22 "MatchFinders$Finder" "span" "I", Cond.methodLink RX0 47 Lib.Math.min.name, Cond.static Lib.Math.min.name, Cond.initialized "java/lang/Math", Cond.code Lib.Math.min.name Lib.Math.min.code 2 (some .int), Cond.fieldLink RX0 9 "MatchFinders$Finder" "frontLengths" "[I", Cond.fieldLink RX0 15 "MatchFinders$Finder" "frontDistances" "[I", Cond.methodLink RX0 38 yX3_mostLength, Cond.instanceMethod yX3_mostLength, Cond.selects RX3 yX3_mostLength yX3_mostLength, Cond.initialized RX3, Cond.code yX3_mostLength cX3_mostLength 2 (some .int)]
def wsX4_share_r3 : List Cond := [Cond.fieldLink RX3 15 "MatchFinders$Text" "size" "I", Cond.methodLink RX3 22 Lib.Math.min.name, Cond.methodLink RX0 44 yX3_farthest, Cond.instanceMethod yX3_farthest, Cond.selects RX3 yX3_farthest yX3_farthest, Cond.code yX3_farthest cX3_farthest 2 (some .int), Cond.fieldLink RX3 19 "MatchFinders$Text" "ahead" "I", Cond.methodLink RX0 53 yX3_reach, Cond.instanceMethod yX3_reach, Cond.selects RX3 yX3_reach yX3_reach, Cond.code yX3_reach cX3_reach 7 (some .int), Cond.fieldLink RX3 9 "MatchFinders$Text" "bytes" "[I", Cond.methodLink RX1 37 yX1_weighMatches, Cond.instanceMethod yX1_weighMatches, Cond.selects RX1 yX1_weighMatches yX1_weighMatches, Cond.code yX1_weighMatches cX1_weighMatches 8 none, Cond.fieldLink RX1 41 "MatchFinders$Finder" "frontCount" "I", Cond.fieldLink RX1 44 "MatchFinders$Finder" "frontDistances" "[I", Cond.fieldLink RX1 51 "MatchFinders$Finder" "frontLengths" "[I", Cond.static yX4_gammaBits, Cond.code yX4_gammaBits cX4_gammaBits 3 (some .int), Cond.methodLink RX4 149 yX2_begin, Cond.instanceMethod yX2_begin, Cond.selects RX2 yX2_begin yX2_begin]
def wsX4_share_r4 : List Cond := [Cond.initialized RX2, Cond.code yX2_begin cX2_begin 1 none, Cond.fieldLink RX2 21 "MatchFinders$Row" "count" "I", Cond.fieldLink RX2 25 "MatchFinders$Row" "plainBits" "I", Cond.fieldLink RX2 28 "MatchFinders$Row" "bitsWithRepeats" "I", Cond.fieldLink RX2 31 "MatchFinders$Row" "repeatCount" "I", Cond.fieldLink RX2 34 "MatchFinders$Row" "latest" "I", Cond.fieldLink RX2 37 "MatchFinders$Row" "second" "I", Cond.fieldLink RX2 40 "MatchFinders$Row" "third" "I", Cond.methodLink RX4 152 yX4_choose, Cond.instanceMethod yX4_choose, Cond.selects RX4 yX4_choose yX4_choose, Cond.code yX4_choose cX4_choose 3 none, Cond.fieldLink RX4 162 "MatchFinders$Plan" "lengths" "[I", Cond.fieldLink RX4 163 "MatchFinders$Plan" "distances" "[I", Cond.methodLink RX4 73 yX0_seekLongest, Cond.instanceMethod yX0_seekLongest, Cond.selects RX0 yX0_seekLongest yX0_seekLongest, Cond.code yX0_seekLongest cX0_seekLongest 2 none, Cond.methodLink RX0 57 yX0_gatherFront, Cond.methodLink RX0 61 yX0_take, Cond.instanceMethod yX0_take, Cond.selects RX0 yX0_take yX0_take, Cond.code yX0_take cX0_take 3 none]
def wsX4_share_r5 : List Cond := [Cond.fieldLink RX0 29 "MatchFinders$Finder" "length" "I", Cond.fieldLink RX0 32 "MatchFinders$Finder" "distance" "I", Cond.methodLink RX4 82 yX0_seekChained, Cond.instanceMethod yX0_seekChained, Cond.selects RX0 yX0_seekChained yX0_seekChained, Cond.code yX0_seekChained cX0_seekChained 7 none, Cond.fieldLink RX0 26 "MatchFinders$Finder" "depth" "I", Cond.methodLink RX4 159 yX0_seekLookingAhead, Cond.instanceMethod yX0_seekLookingAhead, Cond.selects RX0 yX0_seekLookingAhead yX0_seekLookingAhead, Cond.code yX0_seekLookingAhead cX0_seekLookingAhead 3 none, Cond.methodLink RX0 65 yX0_seekLongest, Cond.methodLink RX4 164 yX0_take, Cond.methodLink RX4 156 yX2_put, Cond.instanceMethod yX2_put, Cond.selects RX2 yX2_put yX2_put, Cond.code yX2_put cX2_put 4 none, Cond.fieldLink RX2 9 "MatchFinders$Row" "places" "[I", Cond.fieldLink RX2 15 "MatchFinders$Row" "lengths" "[I", Cond.fieldLink RX2 18 "MatchFinders$Row" "distances" "[I", Cond.methodLink RX2 43 yX2_countMatch, Cond.instanceMethod yX2_countMatch, Cond.selects RX2 yX2_countMatch yX2_countMatch, Cond.code yX2_countMatch cX2_countMatch 5 none]
def wsX4_share_r6 : List Cond := [Cond.methodLink RX2 51 yX2_remember, Cond.instanceMethod yX2_remember, Cond.selects RX2 yX2_remember yX2_remember, Cond.code yX2_remember cX2_remember 2 none]
def wsX4_share : List Cond := .code yX4_share cX4_share 2 (some .int) :: ((wsX4_share_r1 ++ (wsX4_share_r2 ++ (wsX4_share_r3 ++ (wsX4_share_r4 ++ (wsX4_share_r5 ++ wsX4_share_r6))))) ++ wsX40 ++ wsX30 ++ wsX20 ++ wsX00 ++ wsX10 ++ (vx_atS RX4 130 "java/lang/ArithmeticException" ["java/lang/RuntimeException", "java/lang/Exception"]).filter goodWord)
def wsX5_init : List Cond := .code yX5_init cX5_init 3 none :: ([.methodLink RX5 1 objectInit, .instanceMethod objectInit, .code objectInit ⟨#[0xb1]⟩ 1 none, .arrayClass .int, .fieldLink RX5 7 "MatchFindersModel" "bytes" "[I", .arrayClass .boolean, .fieldLink RX5 13 "MatchFindersModel" "isMade" "[Z", .fieldLink RX5 17 "MatchFindersModel" "pieces" "[I", .fieldLink RX5 20 "MatchFindersModel" "place" "[I", .fieldLink RX5 23 "MatchFindersModel" "length" "[I", .fieldLink RX5 26 "MatchFindersModel" "distance" "[I", .fieldLink RX5 29 "MatchFindersModel" "cost" "[I", .fieldLink RX5 32 "MatchFindersModel" "least" "[I", .fieldLink RX5 35 "MatchFindersModel" "span" "I", .fieldLink RX5 39 "MatchFindersModel" "depth" "I"] ++ wsX50)
def wsX5_thrown : List Cond := .code yX5_thrown cX5_thrown 1 (some .int) :: ([.fieldLink RX5 42 "MatchFindersModel" "thrown" "I"] ++ wsX50)
def wsX5_in : List Cond := .code yX5_in cX5_in 3 (some .boolean) :: ([])
def wsX5_forget : List Cond := .code yX5_forget cX5_forget 2 none :: ([.fieldLink RX5 13 "MatchFindersModel" "isMade" "[Z"] ++ wsX50)
def wsX5_lay : List Cond := .code yX5_lay cX5_lay 2 none :: ([.fieldLink RX5 7 "MatchFindersModel" "bytes" "[I", .fieldLink RX5 45 "MatchFindersModel" "size" "I"] ++ wsX50)
def wsX5_add : List Cond := .code yX5_add cX5_add 2 (some .int) :: ([.fieldLink RX5 42 "MatchFindersModel" "thrown" "I", .fieldLink RX5 45 "MatchFindersModel" "size" "I", .methodLink RX5 48 yX5_in, .static yX5_in, .initialized RX5, .code yX5_in cX5_in 3 (some .boolean), .methodLink RX5 52 yX5_lay, .instanceMethod yX5_lay, .selects RX5 yX5_lay yX5_lay, .code yX5_lay cX5_lay 2 none, .fieldLink RX5 7 "MatchFindersModel" "bytes" "[I", .methodLink RX5 56 yX5_forget, .instanceMethod yX5_forget, .selects RX5 yX5_forget yX5_forget, .code yX5_forget cX5_forget 2 none, .fieldLink RX5 13 "MatchFindersModel" "isMade" "[Z"] ++ wsX50)
def wsX5_fill : List Cond := .code yX5_fill cX5_fill 8 (some .int) :: ([.fieldLink RX5 42 "MatchFindersModel" "thrown" "I", .fieldLink RX5 45 "MatchFindersModel" "size" "I", .constant RX5 59 (1103515245), .fieldLink RX5 7 "MatchFindersModel" "bytes" "[I", .methodLink RX5 48 yX5_in, .static yX5_in, .initialized RX5, .code yX5_in cX5_in 3 (some .boolean), .methodLink RX5 52 yX5_lay, .instanceMethod yX5_lay, .selects RX5 yX5_lay yX5_lay, .code yX5_lay cX5_lay 2 none, .methodLink RX5 56 yX5_forget, .instanceMethod yX5_forget, .selects RX5 yX5_forget yX5_forget, .code yX5_forget cX5_forget 2 none, .fieldLink RX5 13 "MatchFindersModel" "isMade" "[Z"] ++ wsX50)
def wsX5_clear : List Cond := .code yX5_clear cX5_clear 2 (some .int) :: ([.fieldLink RX5 42 "MatchFindersModel" "thrown" "I", .fieldLink RX5 45 "MatchFindersModel" "size" "I", .methodLink RX5 56 yX5_forget, .instanceMethod yX5_forget, .selects RX5 yX5_forget yX5_forget, .initialized RX5, .code yX5_forget cX5_forget 2 none, .fieldLink RX5 13 "MatchFindersModel" "isMade" "[Z"] ++ wsX50)
def wsX5_dictionary : List Cond := .code yX5_dictionary cX5_dictionary 2 (some .int) :: ([.fieldLink RX5 42 "MatchFindersModel" "thrown" "I", .fieldLink RX5 45 "MatchFindersModel" "size" "I", .fieldLink RX5 60 "MatchFindersModel" "ahead" "I", .fieldLink RX5 7 "MatchFindersModel" "bytes" "[I", .methodLink RX5 56 yX5_forget, .instanceMethod yX5_forget, .selects RX5 yX5_forget yX5_forget, .initialized RX5, .code yX5_forget cX5_forget 2 none, .fieldLink RX5 13 "MatchFindersModel" "isMade" "[Z"] ++ wsX50)
def wsX5_size : List Cond := .code yX5_size cX5_size 2 (some .int) :: ([.fieldLink RX5 42 "MatchFindersModel" "thrown" "I", .fieldLink RX5 45 "MatchFindersModel" "size" "I", .fieldLink RX5 60 "MatchFindersModel" "ahead" "I"] ++ wsX50)
def wsX5_octet : List Cond := .code yX5_octet cX5_octet 2 (some .int) :: ([.fieldLink RX5 42 "MatchFindersModel" "thrown" "I", .fieldLink RX5 60 "MatchFindersModel" "ahead" "I", .fieldLink RX5 45 "MatchFindersModel" "size" "I", .fieldLink RX5 7 "MatchFindersModel" "bytes" "[I", .methodLink RX5 48 yX5_in, .static yX5_in, .initialized RX5, .code yX5_in cX5_in 3 (some .boolean)] ++ wsX50)
def wsX5_longAt : List Cond := .code yX5_longAt cX5_longAt 4 (some .int) :: ([.fieldLink RX5 60 "MatchFindersModel" "ahead" "I", .fieldLink RX5 45 "MatchFindersModel" "size" "I", .fieldLink RX5 7 "MatchFindersModel" "bytes" "[I"] ++ wsX50)
def wsX5_find : List Cond := .code yX5_find cX5_find 6 none :: ([.fieldLink RX5 63 "MatchFindersModel" "bestLength" "I", .fieldLink RX5 66 "MatchFindersModel" "bestDistance" "I", .fieldLink RX5 35 "MatchFindersModel" "span" "I", .methodLink RX5 69 yX5_longAt, .instanceMethod yX5_longAt, .selects RX5 yX5_longAt yX5_longAt, .initialized RX5, .code yX5_longAt cX5_longAt 4 (some .int), .fieldLink RX5 60 "MatchFindersModel" "ahead" "I", .fieldLink RX5 45 "MatchFindersModel" "size" "I", .fieldLink RX5 7 "MatchFindersModel" "bytes" "[I"] ++ wsX50)
def wsX5_told : List Cond := .code yX5_told cX5_told 4 (some .int) :: ([.fieldLink RX5 45 "MatchFindersModel" "size" "I", .fieldLink RX5 63 "MatchFindersModel" "bestLength" "I", .fieldLink RX5 66 "MatchFindersModel" "bestDistance" "I", .methodLink RX5 48 yX5_in, .static yX5_in, .initialized RX5, .code yX5_in cX5_in 3 (some .boolean), .methodLink RX5 73 yX5_find, .instanceMethod yX5_find, .selects RX5 yX5_find yX5_find, .code yX5_find cX5_find 6 none, .fieldLink RX5 35 "MatchFindersModel" "span" "I", .methodLink RX5 69 yX5_longAt, .instanceMethod yX5_longAt, .selects RX5 yX5_longAt yX5_longAt, .code yX5_longAt cX5_longAt 4 (some .int), .fieldLink RX5 60 "MatchFindersModel" "ahead" "I", .fieldLink RX5 7 "MatchFindersModel" "bytes" "[I"] ++ wsX50)
def wsX5_longest : List Cond := .code yX5_longest cX5_longest 3 (some .int) :: ([.fieldLink RX5 42 "MatchFindersModel" "thrown" "I", .methodLink RX5 77 yX5_told, .instanceMethod yX5_told, .selects RX5 yX5_told yX5_told, .initialized RX5, .code yX5_told cX5_told 4 (some .int), .fieldLink RX5 45 "MatchFindersModel" "size" "I", .fieldLink RX5 63 "MatchFindersModel" "bestLength" "I", .fieldLink RX5 66 "MatchFindersModel" "bestDistance" "I", .methodLink RX5 48 yX5_in, .static yX5_in, .code yX5_in cX5_in 3 (some .boolean), .methodLink RX5 73 yX5_find, .instanceMethod yX5_find, .selects RX5 yX5_find yX5_find, .code yX5_find cX5_find 6 none, .fieldLink RX5 35 "MatchFindersModel" "span" "I", .methodLink RX5 69 yX5_longAt, .instanceMethod yX5_longAt, .selects RX5 yX5_longAt yX5_longAt, .code yX5_longAt cX5_longAt 4 (some .int), .fieldLink RX5 60 "MatchFindersModel" "ahead" "I", .fieldLink RX5 7 "MatchFindersModel" "bytes" "[I"] ++ wsX50)
def wsX5_chained : List Cond := .code yX5_chained cX5_chained 3 (some .int) :: ([.fieldLink RX5 42 "MatchFindersModel" "thrown" "I", .fieldLink RX5 39 "MatchFindersModel" "depth" "I", .methodLink RX5 77 yX5_told, .instanceMethod yX5_told, .selects RX5 yX5_told yX5_told, .initialized RX5, .code yX5_told cX5_told 4 (some .int), .fieldLink RX5 45 "MatchFindersModel" "size" "I", .fieldLink RX5 63 "MatchFindersModel" "bestLength" "I", .fieldLink RX5 66 "MatchFindersModel" "bestDistance" "I", .methodLink RX5 48 yX5_in, .static yX5_in, .code yX5_in cX5_in 3 (some .boolean), .methodLink RX5 73 yX5_find, .instanceMethod yX5_find, .selects RX5 yX5_find yX5_find, .code yX5_find cX5_find 6 none, .fieldLink RX5 35 "MatchFindersModel" "span" "I", .methodLink RX5 69 yX5_longAt, .instanceMethod yX5_longAt, .selects RX5 yX5_longAt yX5_longAt, .code yX5_longAt cX5_longAt 4 (some .int), .fieldLink RX5 60 "MatchFindersModel" "ahead" "I", .fieldLink RX5 7 "MatchFindersModel" "bytes" "[I"] ++ wsX50)
def wsX5_front : List Cond := .code yX5_front cX5_front 9 (some .int) :: ([.fieldLink RX5 42 "MatchFindersModel" "thrown" "I", .fieldLink RX5 45 "MatchFindersModel" "size" "I", .fieldLink RX5 35 "MatchFindersModel" "span" "I", .methodLink RX5 48 yX5_in, .static yX5_in, .initialized RX5, .code yX5_in cX5_in 3 (some .boolean), .methodLink RX5 69 yX5_longAt, .instanceMethod yX5_longAt, .selects RX5 yX5_longAt yX5_longAt, .code yX5_longAt cX5_longAt 4 (some .int), .fieldLink RX5 60 "MatchFindersModel" "ahead" "I", .fieldLink RX5 7 "MatchFindersModel" "bytes" "[I"] ++ wsX50)
def wsX5_g : List Cond := .code yX5_g cX5_g 3 (some .int) :: ([])
def wsX5_lay_ : List Cond := .code yX5_lay_ cX5_lay_ 6 none :: ([.fieldLink RX5 17 "MatchFindersModel" "pieces" "[I", .fieldLink RX5 20 "MatchFindersModel" "place" "[I", .fieldLink RX5 23 "MatchFindersModel" "length" "[I", .fieldLink RX5 26 "MatchFindersModel" "distance" "[I"] ++ wsX50)
def wsX5_findLeast : List Cond := .code yX5_findLeast cX5_findLeast 5 none :: ([.fieldLink RX5 32 "MatchFindersModel" "least" "[I", .fieldLink RX5 35 "MatchFindersModel" "span" "I", .methodLink RX5 69 yX5_longAt, .instanceMethod yX5_longAt, .selects RX5 yX5_longAt yX5_longAt, .initialized RX5, .code yX5_longAt cX5_longAt 4 (some .int), .fieldLink RX5 60 "MatchFindersModel" "ahead" "I", .fieldLink RX5 45 "MatchFindersModel" "size" "I", .fieldLink RX5 7 "MatchFindersModel" "bytes" "[I"] ++ wsX50)
def wsX5_choose : List Cond := .code yX5_choose cX5_choose 5 (some .int) :: ([.fieldLink RX5 29 "MatchFindersModel" "cost" "[I", .fieldLink RX5 32 "MatchFindersModel" "least" "[I", .methodLink RX5 87 yX5_g, .static yX5_g, .initialized RX5, .code yX5_g cX5_g 3 (some .int)] ++ wsX50)
def wsX5_makeLeast_r1 : List Cond := [Cond.fieldLink RX5 29 "MatchFindersModel" "cost" "[I", Cond.fieldLink RX5 45 "MatchFindersModel" "size" "I", Cond.fieldLink RX5 32 "MatchFindersModel" "least" "[I", Cond.methodLink RX5 91 yX5_findLeast, Cond.instanceMethod yX5_findLeast, Cond.selects RX5 yX5_findLeast yX5_findLeast, Cond.initialized RX5, Cond.code yX5_findLeast cX5_findLeast 5 none, Cond.fieldLink RX5 35 "MatchFindersModel" "span" "I", Cond.methodLink RX5 69 yX5_longAt, Cond.instanceMethod yX5_longAt, Cond.selects RX5 yX5_longAt yX5_longAt, Cond.code yX5_longAt cX5_longAt 4 (some .int), Cond.fieldLink RX5 60 "MatchFindersModel" "ahead" "I", Cond.fieldLink RX5 7 "MatchFindersModel" "bytes" "[I", Cond.methodLink RX5 94 yX5_choose, Cond.instanceMethod yX5_choose, Cond.selects RX5 yX5_choose yX5_choose, Cond.code yX5_choose cX5_choose 5 (some .int), Cond.methodLink RX5 87 yX5_g, Cond.static yX5_g, Cond.code yX5_g cX5_g 3 (some .int), Cond.methodLink RX5 84 yX5_lay_, Cond.instanceMethod yX5_lay_]
def wsX5_makeLeast_r2 : List Cond := [Cond.selects RX5 yX5_lay_ yX5_lay_, Cond.code yX5_lay_ cX5_lay_ 6 none, Cond.fieldLink RX5 17 "MatchFindersModel" "pieces" "[I", Cond.fieldLink RX5 20 "MatchFindersModel" "place" "[I", Cond.fieldLink RX5 23 "MatchFindersModel" "length" "[I", Cond.fieldLink RX5 26 "MatchFindersModel" "distance" "[I"]
def wsX5_makeLeast : List Cond := .code yX5_makeLeast cX5_makeLeast 3 none :: ((wsX5_makeLeast_r1 ++ wsX5_makeLeast_r2) ++ wsX50)
def wsX5_make_r1 : List Cond := [Cond.fieldLink RX5 13 "MatchFindersModel" "isMade" "[Z", Cond.fieldLink RX5 17 "MatchFindersModel" "pieces" "[I", Cond.fieldLink RX5 45 "MatchFindersModel" "size" "I", Cond.fieldLink RX5 39 "MatchFindersModel" "depth" "I", Cond.fieldLink RX5 63 "MatchFindersModel" "bestLength" "I", Cond.fieldLink RX5 66 "MatchFindersModel" "bestDistance" "I", Cond.methodLink RX5 81 yX5_makeLeast, Cond.instanceMethod yX5_makeLeast, Cond.selects RX5 yX5_makeLeast yX5_makeLeast, Cond.initialized RX5, Cond.code yX5_makeLeast cX5_makeLeast 3 none, Cond.fieldLink RX5 29 "MatchFindersModel" "cost" "[I", Cond.fieldLink RX5 32 "MatchFindersModel" "least" "[I", Cond.methodLink RX5 91 yX5_findLeast, Cond.instanceMethod yX5_findLeast, Cond.selects RX5 yX5_findLeast yX5_findLeast, Cond.code yX5_findLeast cX5_findLeast 5 none, Cond.fieldLink RX5 35 "MatchFindersModel" "span" "I", Cond.methodLink RX5 69 yX5_longAt, Cond.instanceMethod yX5_longAt, Cond.selects RX5 yX5_longAt yX5_longAt, Cond.code yX5_longAt cX5_longAt 4 (some .int), Cond.fieldLink RX5 60 "MatchFindersModel" "ahead" "I", Cond.fieldLink RX5 7 "MatchFindersModel" "bytes" "[I"]
def wsX5_make_r2 : List Cond := [Cond.methodLink RX5 94 yX5_choose, Cond.instanceMethod yX5_choose, Cond.selects RX5 yX5_choose yX5_choose, Cond.code yX5_choose cX5_choose 5 (some .int), Cond.methodLink RX5 87 yX5_g, Cond.static yX5_g, Cond.code yX5_g cX5_g 3 (some .int), Cond.methodLink RX5 84 yX5_lay_, Cond.instanceMethod yX5_lay_, Cond.selects RX5 yX5_lay_ yX5_lay_, Cond.code yX5_lay_ cX5_lay_ 6 none, Cond.fieldLink RX5 20 "MatchFindersModel" "place" "[I", Cond.fieldLink RX5 23 "MatchFindersModel" "length" "[I", Cond.fieldLink RX5 26 "MatchFindersModel" "distance" "[I", Cond.methodLink RX5 73 yX5_find, Cond.instanceMethod yX5_find, Cond.selects RX5 yX5_find yX5_find, Cond.code yX5_find cX5_find 6 none]
def wsX5_make : List Cond := .code yX5_make cX5_make 5 none :: ((wsX5_make_r1 ++ wsX5_make_r2) ++ wsX50)
def wsX5_isWay : List Cond := .code yX5_isWay cX5_isWay 1 (some .boolean) :: ([.methodLink RX5 48 yX5_in, .static yX5_in, .initialized RX5, .code yX5_in cX5_in 3 (some .boolean)])
def wsX5_pieces_r1 : List Cond := [Cond.fieldLink RX5 42 "MatchFindersModel" "thrown" "I", Cond.fieldLink RX5 17 "MatchFindersModel" "pieces" "[I", Cond.methodLink RX5 97 yX5_isWay, Cond.static yX5_isWay, Cond.initialized RX5, Cond.code yX5_isWay cX5_isWay 1 (some .boolean), Cond.methodLink RX5 48 yX5_in, Cond.static yX5_in, Cond.code yX5_in cX5_in 3 (some .boolean), Cond.methodLink RX5 101 yX5_make, Cond.instanceMethod yX5_make, Cond.selects RX5 yX5_make yX5_make, Cond.code yX5_make cX5_make 5 none, Cond.fieldLink RX5 13 "MatchFindersModel" "isMade" "[Z", Cond.fieldLink RX5 45 "MatchFindersModel" "size" "I", Cond.fieldLink RX5 39 "MatchFindersModel" "depth" "I", Cond.fieldLink RX5 63 "MatchFindersModel" "bestLength" "I", Cond.fieldLink RX5 66 "MatchFindersModel" "bestDistance" "I", Cond.methodLink RX5 81 yX5_makeLeast, Cond.instanceMethod yX5_makeLeast, Cond.selects RX5 yX5_makeLeast yX5_makeLeast, Cond.code yX5_makeLeast cX5_makeLeast 3 none, Cond.fieldLink RX5 29 "MatchFindersModel" "cost" "[I", Cond.fieldLink RX5 32 "MatchFindersModel" "least" "[I"]
def wsX5_pieces_r2 : List Cond := [Cond.methodLink RX5 91 yX5_findLeast, Cond.instanceMethod yX5_findLeast, Cond.selects RX5 yX5_findLeast yX5_findLeast, Cond.code yX5_findLeast cX5_findLeast 5 none, Cond.fieldLink RX5 35 "MatchFindersModel" "span" "I", Cond.methodLink RX5 69 yX5_longAt, Cond.instanceMethod yX5_longAt, Cond.selects RX5 yX5_longAt yX5_longAt, Cond.code yX5_longAt cX5_longAt 4 (some .int), Cond.fieldLink RX5 60 "MatchFindersModel" "ahead" "I", Cond.fieldLink RX5 7 "MatchFindersModel" "bytes" "[I", Cond.methodLink RX5 94 yX5_choose, Cond.instanceMethod yX5_choose, Cond.selects RX5 yX5_choose yX5_choose, Cond.code yX5_choose cX5_choose 5 (some .int), Cond.methodLink RX5 87 yX5_g, Cond.static yX5_g, Cond.code yX5_g cX5_g 3 (some .int), Cond.methodLink RX5 84 yX5_lay_, Cond.instanceMethod yX5_lay_, Cond.selects RX5 yX5_lay_ yX5_lay_, Cond.code yX5_lay_ cX5_lay_ 6 none, Cond.fieldLink RX5 20 "MatchFindersModel" "place" "[I", Cond.fieldLink RX5 23 "MatchFindersModel" "length" "[I"]
def wsX5_pieces_r3 : List Cond := [Cond.fieldLink RX5 26 "MatchFindersModel" "distance" "[I", Cond.methodLink RX5 73 yX5_find, Cond.instanceMethod yX5_find, Cond.selects RX5 yX5_find yX5_find, Cond.code yX5_find cX5_find 6 none]
def wsX5_pieces : List Cond := .code yX5_pieces cX5_pieces 2 (some .int) :: ((wsX5_pieces_r1 ++ (wsX5_pieces_r2 ++ wsX5_pieces_r3)) ++ wsX50)
def wsX5_piece_r1 : List Cond := [Cond.fieldLink RX5 42 "MatchFindersModel" "thrown" "I", Cond.fieldLink RX5 17 "MatchFindersModel" "pieces" "[I", Cond.fieldLink RX5 20 "MatchFindersModel" "place" "[I", Cond.fieldLink RX5 23 "MatchFindersModel" "length" "[I", Cond.fieldLink RX5 26 "MatchFindersModel" "distance" "[I", Cond.methodLink RX5 97 yX5_isWay, Cond.static yX5_isWay, Cond.initialized RX5, Cond.code yX5_isWay cX5_isWay 1 (some .boolean), Cond.methodLink RX5 48 yX5_in, Cond.static yX5_in, Cond.code yX5_in cX5_in 3 (some .boolean), Cond.methodLink RX5 101 yX5_make, Cond.instanceMethod yX5_make, Cond.selects RX5 yX5_make yX5_make, Cond.code yX5_make cX5_make 5 none, Cond.fieldLink RX5 13 "MatchFindersModel" "isMade" "[Z", Cond.fieldLink RX5 45 "MatchFindersModel" "size" "I", Cond.fieldLink RX5 39 "MatchFindersModel" "depth" "I", Cond.fieldLink RX5 63 "MatchFindersModel" "bestLength" "I", Cond.fieldLink RX5 66 "MatchFindersModel" "bestDistance" "I", Cond.methodLink RX5 81 yX5_makeLeast, Cond.instanceMethod yX5_makeLeast, Cond.selects RX5 yX5_makeLeast yX5_makeLeast]
def wsX5_piece_r2 : List Cond := [Cond.code yX5_makeLeast cX5_makeLeast 3 none, Cond.fieldLink RX5 29 "MatchFindersModel" "cost" "[I", Cond.fieldLink RX5 32 "MatchFindersModel" "least" "[I", Cond.methodLink RX5 91 yX5_findLeast, Cond.instanceMethod yX5_findLeast, Cond.selects RX5 yX5_findLeast yX5_findLeast, Cond.code yX5_findLeast cX5_findLeast 5 none, Cond.fieldLink RX5 35 "MatchFindersModel" "span" "I", Cond.methodLink RX5 69 yX5_longAt, Cond.instanceMethod yX5_longAt, Cond.selects RX5 yX5_longAt yX5_longAt, Cond.code yX5_longAt cX5_longAt 4 (some .int), Cond.fieldLink RX5 60 "MatchFindersModel" "ahead" "I", Cond.fieldLink RX5 7 "MatchFindersModel" "bytes" "[I", Cond.methodLink RX5 94 yX5_choose, Cond.instanceMethod yX5_choose, Cond.selects RX5 yX5_choose yX5_choose, Cond.code yX5_choose cX5_choose 5 (some .int), Cond.methodLink RX5 87 yX5_g, Cond.static yX5_g, Cond.code yX5_g cX5_g 3 (some .int), Cond.methodLink RX5 84 yX5_lay_, Cond.instanceMethod yX5_lay_, Cond.selects RX5 yX5_lay_ yX5_lay_]
def wsX5_piece_r3 : List Cond := [Cond.code yX5_lay_ cX5_lay_ 6 none, Cond.methodLink RX5 73 yX5_find, Cond.instanceMethod yX5_find, Cond.selects RX5 yX5_find yX5_find, Cond.code yX5_find cX5_find 6 none]
def wsX5_piece : List Cond := .code yX5_piece cX5_piece 5 (some .int) :: ((wsX5_piece_r1 ++ (wsX5_piece_r2 ++ wsX5_piece_r3)) ++ wsX50)
def wsX5_bitsOf_r1 : List Cond := [Cond.fieldLink RX5 104 "MatchFindersModel" "repeats" "I", Cond.fieldLink RX5 17 "MatchFindersModel" "pieces" "[I", Cond.fieldLink RX5 26 "MatchFindersModel" "distance" "[I", Cond.fieldLink RX5 23 "MatchFindersModel" "length" "[I", Cond.methodLink RX5 101 yX5_make, Cond.instanceMethod yX5_make, Cond.selects RX5 yX5_make yX5_make, Cond.initialized RX5, Cond.code yX5_make cX5_make 5 none, Cond.fieldLink RX5 13 "MatchFindersModel" "isMade" "[Z", Cond.fieldLink RX5 45 "MatchFindersModel" "size" "I", Cond.fieldLink RX5 39 "MatchFindersModel" "depth" "I", Cond.fieldLink RX5 63 "MatchFindersModel" "bestLength" "I", Cond.fieldLink RX5 66 "MatchFindersModel" "bestDistance" "I", Cond.methodLink RX5 81 yX5_makeLeast, Cond.instanceMethod yX5_makeLeast, Cond.selects RX5 yX5_makeLeast yX5_makeLeast, Cond.code yX5_makeLeast cX5_makeLeast 3 none, Cond.fieldLink RX5 29 "MatchFindersModel" "cost" "[I", Cond.fieldLink RX5 32 "MatchFindersModel" "least" "[I", Cond.methodLink RX5 91 yX5_findLeast, Cond.instanceMethod yX5_findLeast, Cond.selects RX5 yX5_findLeast yX5_findLeast, Cond.code yX5_findLeast cX5_findLeast 5 none]
def wsX5_bitsOf_r2 : List Cond := [Cond.fieldLink RX5 35 "MatchFindersModel" "span" "I", Cond.methodLink RX5 69 yX5_longAt, Cond.instanceMethod yX5_longAt, Cond.selects RX5 yX5_longAt yX5_longAt, Cond.code yX5_longAt cX5_longAt 4 (some .int), Cond.fieldLink RX5 60 "MatchFindersModel" "ahead" "I", Cond.fieldLink RX5 7 "MatchFindersModel" "bytes" "[I", Cond.methodLink RX5 94 yX5_choose, Cond.instanceMethod yX5_choose, Cond.selects RX5 yX5_choose yX5_choose, Cond.code yX5_choose cX5_choose 5 (some .int), Cond.methodLink RX5 87 yX5_g, Cond.static yX5_g, Cond.code yX5_g cX5_g 3 (some .int), Cond.methodLink RX5 84 yX5_lay_, Cond.instanceMethod yX5_lay_, Cond.selects RX5 yX5_lay_ yX5_lay_, Cond.code yX5_lay_ cX5_lay_ 6 none, Cond.fieldLink RX5 20 "MatchFindersModel" "place" "[I", Cond.methodLink RX5 73 yX5_find, Cond.instanceMethod yX5_find, Cond.selects RX5 yX5_find yX5_find, Cond.code yX5_find cX5_find 6 none]
def wsX5_bitsOf : List Cond := .code yX5_bitsOf cX5_bitsOf 10 (some .int) :: ((wsX5_bitsOf_r1 ++ wsX5_bitsOf_r2) ++ wsX50)
def wsX5_bits_r1 : List Cond := [Cond.fieldLink RX5 42 "MatchFindersModel" "thrown" "I", Cond.methodLink RX5 97 yX5_isWay, Cond.static yX5_isWay, Cond.initialized RX5, Cond.code yX5_isWay cX5_isWay 1 (some .boolean), Cond.methodLink RX5 48 yX5_in, Cond.static yX5_in, Cond.code yX5_in cX5_in 3 (some .boolean), Cond.methodLink RX5 107 yX5_bitsOf, Cond.instanceMethod yX5_bitsOf, Cond.selects RX5 yX5_bitsOf yX5_bitsOf, Cond.code yX5_bitsOf cX5_bitsOf 10 (some .int), Cond.fieldLink RX5 104 "MatchFindersModel" "repeats" "I", Cond.fieldLink RX5 17 "MatchFindersModel" "pieces" "[I", Cond.fieldLink RX5 26 "MatchFindersModel" "distance" "[I", Cond.fieldLink RX5 23 "MatchFindersModel" "length" "[I", Cond.methodLink RX5 101 yX5_make, Cond.instanceMethod yX5_make, Cond.selects RX5 yX5_make yX5_make, Cond.code yX5_make cX5_make 5 none, Cond.fieldLink RX5 13 "MatchFindersModel" "isMade" "[Z", Cond.fieldLink RX5 45 "MatchFindersModel" "size" "I", Cond.fieldLink RX5 39 "MatchFindersModel" "depth" "I", Cond.fieldLink RX5 63 "MatchFindersModel" "bestLength" "I"]
def wsX5_bits_r2 : List Cond := [Cond.fieldLink RX5 66 "MatchFindersModel" "bestDistance" "I", Cond.methodLink RX5 81 yX5_makeLeast, Cond.instanceMethod yX5_makeLeast, Cond.selects RX5 yX5_makeLeast yX5_makeLeast, Cond.code yX5_makeLeast cX5_makeLeast 3 none, Cond.fieldLink RX5 29 "MatchFindersModel" "cost" "[I", Cond.fieldLink RX5 32 "MatchFindersModel" "least" "[I", Cond.methodLink RX5 91 yX5_findLeast, Cond.instanceMethod yX5_findLeast, Cond.selects RX5 yX5_findLeast yX5_findLeast, Cond.code yX5_findLeast cX5_findLeast 5 none, Cond.fieldLink RX5 35 "MatchFindersModel" "span" "I", Cond.methodLink RX5 69 yX5_longAt, Cond.instanceMethod yX5_longAt, Cond.selects RX5 yX5_longAt yX5_longAt, Cond.code yX5_longAt cX5_longAt 4 (some .int), Cond.fieldLink RX5 60 "MatchFindersModel" "ahead" "I", Cond.fieldLink RX5 7 "MatchFindersModel" "bytes" "[I", Cond.methodLink RX5 94 yX5_choose, Cond.instanceMethod yX5_choose, Cond.selects RX5 yX5_choose yX5_choose, Cond.code yX5_choose cX5_choose 5 (some .int), Cond.methodLink RX5 87 yX5_g, Cond.static yX5_g]
def wsX5_bits_r3 : List Cond := [Cond.code yX5_g cX5_g 3 (some .int), Cond.methodLink RX5 84 yX5_lay_, Cond.instanceMethod yX5_lay_, Cond.selects RX5 yX5_lay_ yX5_lay_, Cond.code yX5_lay_ cX5_lay_ 6 none, Cond.fieldLink RX5 20 "MatchFindersModel" "place" "[I", Cond.methodLink RX5 73 yX5_find, Cond.instanceMethod yX5_find, Cond.selects RX5 yX5_find yX5_find, Cond.code yX5_find cX5_find 6 none]
def wsX5_bits : List Cond := .code yX5_bits cX5_bits 3 (some .int) :: ((wsX5_bits_r1 ++ (wsX5_bits_r2 ++ wsX5_bits_r3)) ++ wsX50)
def wsX5_repeats_r1 : List Cond := [Cond.fieldLink RX5 42 "MatchFindersModel" "thrown" "I", Cond.fieldLink RX5 104 "MatchFindersModel" "repeats" "I", Cond.methodLink RX5 97 yX5_isWay, Cond.static yX5_isWay, Cond.initialized RX5, Cond.code yX5_isWay cX5_isWay 1 (some .boolean), Cond.methodLink RX5 48 yX5_in, Cond.static yX5_in, Cond.code yX5_in cX5_in 3 (some .boolean), Cond.methodLink RX5 107 yX5_bitsOf, Cond.instanceMethod yX5_bitsOf, Cond.selects RX5 yX5_bitsOf yX5_bitsOf, Cond.code yX5_bitsOf cX5_bitsOf 10 (some .int), Cond.fieldLink RX5 17 "MatchFindersModel" "pieces" "[I", Cond.fieldLink RX5 26 "MatchFindersModel" "distance" "[I", Cond.fieldLink RX5 23 "MatchFindersModel" "length" "[I", Cond.methodLink RX5 101 yX5_make, Cond.instanceMethod yX5_make, Cond.selects RX5 yX5_make yX5_make, Cond.code yX5_make cX5_make 5 none, Cond.fieldLink RX5 13 "MatchFindersModel" "isMade" "[Z", Cond.fieldLink RX5 45 "MatchFindersModel" "size" "I", Cond.fieldLink RX5 39 "MatchFindersModel" "depth" "I", Cond.fieldLink RX5 63 "MatchFindersModel" "bestLength" "I"]
def wsX5_repeats_r2 : List Cond := [Cond.fieldLink RX5 66 "MatchFindersModel" "bestDistance" "I", Cond.methodLink RX5 81 yX5_makeLeast, Cond.instanceMethod yX5_makeLeast, Cond.selects RX5 yX5_makeLeast yX5_makeLeast, Cond.code yX5_makeLeast cX5_makeLeast 3 none, Cond.fieldLink RX5 29 "MatchFindersModel" "cost" "[I", Cond.fieldLink RX5 32 "MatchFindersModel" "least" "[I", Cond.methodLink RX5 91 yX5_findLeast, Cond.instanceMethod yX5_findLeast, Cond.selects RX5 yX5_findLeast yX5_findLeast, Cond.code yX5_findLeast cX5_findLeast 5 none, Cond.fieldLink RX5 35 "MatchFindersModel" "span" "I", Cond.methodLink RX5 69 yX5_longAt, Cond.instanceMethod yX5_longAt, Cond.selects RX5 yX5_longAt yX5_longAt, Cond.code yX5_longAt cX5_longAt 4 (some .int), Cond.fieldLink RX5 60 "MatchFindersModel" "ahead" "I", Cond.fieldLink RX5 7 "MatchFindersModel" "bytes" "[I", Cond.methodLink RX5 94 yX5_choose, Cond.instanceMethod yX5_choose, Cond.selects RX5 yX5_choose yX5_choose, Cond.code yX5_choose cX5_choose 5 (some .int), Cond.methodLink RX5 87 yX5_g, Cond.static yX5_g]
def wsX5_repeats_r3 : List Cond := [Cond.code yX5_g cX5_g 3 (some .int), Cond.methodLink RX5 84 yX5_lay_, Cond.instanceMethod yX5_lay_, Cond.selects RX5 yX5_lay_ yX5_lay_, Cond.code yX5_lay_ cX5_lay_ 6 none, Cond.fieldLink RX5 20 "MatchFindersModel" "place" "[I", Cond.methodLink RX5 73 yX5_find, Cond.instanceMethod yX5_find, Cond.selects RX5 yX5_find yX5_find, Cond.code yX5_find cX5_find 6 none]
def wsX5_repeats : List Cond := .code yX5_repeats cX5_repeats 3 (some .int) :: ((wsX5_repeats_r1 ++ (wsX5_repeats_r2 ++ wsX5_repeats_r3)) ++ wsX50)
def wsX5_share_r1 : List Cond := [Cond.fieldLink RX5 42 "MatchFindersModel" "thrown" "I", Cond.fieldLink RX5 45 "MatchFindersModel" "size" "I", Cond.methodLink RX5 97 yX5_isWay, Cond.static yX5_isWay, Cond.initialized RX5, Cond.code yX5_isWay cX5_isWay 1 (some .boolean), Cond.methodLink RX5 48 yX5_in, Cond.static yX5_in, Cond.code yX5_in cX5_in 3 (some .boolean), Cond.methodLink RX5 107 yX5_bitsOf, Cond.instanceMethod yX5_bitsOf, Cond.selects RX5 yX5_bitsOf yX5_bitsOf, Cond.code yX5_bitsOf cX5_bitsOf 10 (some .int), Cond.fieldLink RX5 104 "MatchFindersModel" "repeats" "I", Cond.fieldLink RX5 17 "MatchFindersModel" "pieces" "[I", Cond.fieldLink RX5 26 "MatchFindersModel" "distance" "[I", Cond.fieldLink RX5 23 "MatchFindersModel" "length" "[I", Cond.methodLink RX5 101 yX5_make, Cond.instanceMethod yX5_make, Cond.selects RX5 yX5_make yX5_make, Cond.code yX5_make cX5_make 5 none, Cond.fieldLink RX5 13 "MatchFindersModel" "isMade" "[Z", Cond.fieldLink RX5 39 "MatchFindersModel" "depth" "I", Cond.fieldLink RX5 63 "MatchFindersModel" "bestLength" "I"]
def wsX5_share_r2 : List Cond := [Cond.fieldLink RX5 66 "MatchFindersModel" "bestDistance" "I", Cond.methodLink RX5 81 yX5_makeLeast, Cond.instanceMethod yX5_makeLeast, Cond.selects RX5 yX5_makeLeast yX5_makeLeast, Cond.code yX5_makeLeast cX5_makeLeast 3 none, Cond.fieldLink RX5 29 "MatchFindersModel" "cost" "[I", Cond.fieldLink RX5 32 "MatchFindersModel" "least" "[I", Cond.methodLink RX5 91 yX5_findLeast, Cond.instanceMethod yX5_findLeast, Cond.selects RX5 yX5_findLeast yX5_findLeast, Cond.code yX5_findLeast cX5_findLeast 5 none, Cond.fieldLink RX5 35 "MatchFindersModel" "span" "I", Cond.methodLink RX5 69 yX5_longAt, Cond.instanceMethod yX5_longAt, Cond.selects RX5 yX5_longAt yX5_longAt, Cond.code yX5_longAt cX5_longAt 4 (some .int), Cond.fieldLink RX5 60 "MatchFindersModel" "ahead" "I", Cond.fieldLink RX5 7 "MatchFindersModel" "bytes" "[I", Cond.methodLink RX5 94 yX5_choose, Cond.instanceMethod yX5_choose, Cond.selects RX5 yX5_choose yX5_choose, Cond.code yX5_choose cX5_choose 5 (some .int), Cond.methodLink RX5 87 yX5_g, Cond.static yX5_g]
def wsX5_share_r3 : List Cond := [Cond.code yX5_g cX5_g 3 (some .int), Cond.methodLink RX5 84 yX5_lay_, Cond.instanceMethod yX5_lay_, Cond.selects RX5 yX5_lay_ yX5_lay_, Cond.code yX5_lay_ cX5_lay_ 6 none, Cond.fieldLink RX5 20 "MatchFindersModel" "place" "[I", Cond.methodLink RX5 73 yX5_find, Cond.instanceMethod yX5_find, Cond.selects RX5 yX5_find yX5_find, Cond.code yX5_find cX5_find 6 none]
def wsX5_share : List Cond := .code yX5_share cX5_share 2 (some .int) :: ((wsX5_share_r1 ++ (wsX5_share_r2 ++ wsX5_share_r3)) ++ wsX50)
def wsJ9_max_7cf53 : List Cond := .code yJ9_max_7cf53 cJ9_max_7cf53 2 (some .int) :: ([])
def wsJ9_min_7cf53 : List Cond := .code yJ9_min_7cf53 cJ9_min_7cf53 2 (some .int) :: ([])
theorem inJ9 : ∀ w ∈ wsJ90, w ∈ lw_tbl := by decide +kernel
theorem inJ0 : ∀ w ∈ wsJ00, w ∈ lw_tbl := by decide +kernel
theorem dX0_init_0 : decode cX0_init 0 = .ok (.aload_n 0, 1) := by decide +kernel
theorem dX0_init_1 : decode cX0_init 1 = .ok (.invokespecial 3, 3) := by decide +kernel
theorem dX0_init_4 : decode cX0_init 4 = .ok (.aload_n 0, 1) := by decide +kernel
theorem dX0_init_5 : decode cX0_init 5 = .ok (.bipush 38, 2) := by decide +kernel
theorem dX0_init_7 : decode cX0_init 7 = .ok (.newarray .int, 2) := by decide +kernel
theorem dX0_init_9 : decode cX0_init 9 = .ok (.putfield 9, 3) := by decide +kernel
theorem dX0_init_12 : decode cX0_init 12 = .ok (.aload_n 0, 1) := by decide +kernel
theorem dX0_init_13 : decode cX0_init 13 = .ok (.bipush 38, 2) := by decide +kernel
theorem dX0_init_15 : decode cX0_init 15 = .ok (.newarray .int, 2) := by decide +kernel
theorem dX0_init_17 : decode cX0_init 17 = .ok (.putfield 15, 3) := by decide +kernel
theorem dX0_init_20 : decode cX0_init 20 = .ok (.aload_n 0, 1) := by decide +kernel
theorem dX0_init_21 : decode cX0_init 21 = .ok (.aload_n 1, 1) := by decide +kernel
theorem dX0_init_22 : decode cX0_init 22 = .ok (.putfield 18, 3) := by decide +kernel
theorem dX0_init_25 : decode cX0_init 25 = .ok (.aload_n 0, 1) := by decide +kernel
theorem dX0_init_26 : decode cX0_init 26 = .ok (.iload_n 2, 1) := by decide +kernel
theorem dX0_init_27 : decode cX0_init 27 = .ok (.putfield 22, 3) := by decide +kernel
theorem dX0_init_30 : decode cX0_init 30 = .ok (.aload_n 0, 1) := by decide +kernel
theorem dX0_init_31 : decode cX0_init 31 = .ok (.iload_n 3, 1) := by decide +kernel
theorem dX0_init_32 : decode cX0_init 32 = .ok (.putfield 26, 3) := by decide +kernel
theorem dX0_init_35 : decode cX0_init 35 = .ok (.return_, 1) := by decide +kernel
theorem dX0_take_0 : decode cX0_take 0 = .ok (.aload_n 0, 1) := by decide +kernel
theorem dX0_take_1 : decode cX0_take 1 = .ok (.iload_n 1, 1) := by decide +kernel
theorem dX0_take_2 : decode cX0_take 2 = .ok (.putfield 29, 3) := by decide +kernel
theorem dX0_take_5 : decode cX0_take 5 = .ok (.aload_n 0, 1) := by decide +kernel
theorem dX0_take_6 : decode cX0_take 6 = .ok (.iload_n 2, 1) := by decide +kernel
theorem dX0_take_7 : decode cX0_take 7 = .ok (.putfield 32, 3) := by decide +kernel
theorem dX0_take_10 : decode cX0_take 10 = .ok (.return_, 1) := by decide +kernel
set_option maxRecDepth 20000 in
theorem ggX0_gatherFront_X3_mostLength : GoodIn wsX0_gatherFront wsX3_mostLength := goodIn_r _ [14, 15, 16, 5, 6, 7, 35, 36, 37] (by decide +kernel) (by decide +kernel)
set_option maxRecDepth 20000 in
theorem gX0_gatherFront_X3_mostLength : GoodIn wsX0_gatherFront (wsV RX0 38 RX3 yX3_mostLength wsX3_mostLength) := goodIn_app (goodIn_of _ (by decide +kernel)) ggX0_gatherFront_X3_mostLength
set_option maxRecDepth 20000 in
theorem ggX0_gatherFront_X3_farthest : GoodIn wsX0_gatherFront wsX3_farthest := goodIn_r _ [20, 21, 35, 36, 37] (by decide +kernel) (by decide +kernel)
set_option maxRecDepth 20000 in
theorem gX0_gatherFront_X3_farthest : GoodIn wsX0_gatherFront (wsV RX0 44 RX3 yX3_farthest wsX3_farthest) := goodIn_app (goodIn_of _ (by decide +kernel)) ggX0_gatherFront_X3_farthest
set_option maxRecDepth 20000 in
theorem ggX0_gatherFront_X3_reach : GoodIn wsX0_gatherFront wsX3_reach := goodIn_r _ [25, 21, 26, 35, 36, 37] (by decide +kernel) (by decide +kernel)
set_option maxRecDepth 20000 in
theorem gX0_gatherFront_X3_reach : GoodIn wsX0_gatherFront (wsV RX0 53 RX3 yX3_reach wsX3_reach) := goodIn_app (goodIn_of _ (by decide +kernel)) ggX0_gatherFront_X3_reach
theorem dX0_gatherFront_0 : decode cX0_gatherFront 0 = .ok (.aload_n 0, 1) := by decide +kernel
theorem dX0_gatherFront_1 : decode cX0_gatherFront 1 = .ok (.iconst 0, 1) := by decide +kernel
theorem dX0_gatherFront_2 : decode cX0_gatherFront 2 = .ok (.putfield 35, 3) := by decide +kernel
theorem dX0_gatherFront_5 : decode cX0_gatherFront 5 = .ok (.aload_n 0, 1) := by decide +kernel
theorem dX0_gatherFront_6 : decode cX0_gatherFront 6 = .ok (.getfield 18, 3) := by decide +kernel
theorem dX0_gatherFront_9 : decode cX0_gatherFront 9 = .ok (.iload_n 1, 1) := by decide +kernel
theorem dX0_gatherFront_10 : decode cX0_gatherFront 10 = .ok (.invokevirtual 38, 3) := by decide +kernel
theorem dX0_gatherFront_13 : decode cX0_gatherFront 13 = .ok (.istore_n 2, 1) := by decide +kernel
theorem dX0_gatherFront_14 : decode cX0_gatherFront 14 = .ok (.aload_n 0, 1) := by decide +kernel
theorem dX0_gatherFront_15 : decode cX0_gatherFront 15 = .ok (.getfield 22, 3) := by decide +kernel
theorem dX0_gatherFront_18 : decode cX0_gatherFront 18 = .ok (.aload_n 0, 1) := by decide +kernel
theorem dX0_gatherFront_19 : decode cX0_gatherFront 19 = .ok (.getfield 18, 3) := by decide +kernel
theorem dX0_gatherFront_22 : decode cX0_gatherFront 22 = .ok (.iload_n 1, 1) := by decide +kernel
theorem dX0_gatherFront_23 : decode cX0_gatherFront 23 = .ok (.invokevirtual 44, 3) := by decide +kernel
theorem dX0_gatherFront_26 : decode cX0_gatherFront 26 = .ok (.invokestatic 47, 3) := by decide +kernel
theorem dX0_gatherFront_29 : decode cX0_gatherFront 29 = .ok (.istore_n 3, 1) := by decide +kernel
theorem dX0_gatherFront_30 : decode cX0_gatherFront 30 = .ok (.iconst 2, 1) := by decide +kernel
theorem dX0_gatherFront_31 : decode cX0_gatherFront 31 = .ok (.istore 4, 2) := by decide +kernel
theorem dX0_gatherFront_33 : decode cX0_gatherFront 33 = .ok (.iconst 1, 1) := by decide +kernel
theorem dX0_gatherFront_34 : decode cX0_gatherFront 34 = .ok (.istore 5, 2) := by decide +kernel
theorem dX0_gatherFront_36 : decode cX0_gatherFront 36 = .ok (.iload 5, 2) := by decide +kernel
theorem dX0_gatherFront_38 : decode cX0_gatherFront 38 = .ok (.iload_n 3, 1) := by decide +kernel
theorem dX0_gatherFront_39 : decode cX0_gatherFront 39 = .ok (.if_icmp .gt 80, 3) := by decide +kernel
theorem dX0_gatherFront_42 : decode cX0_gatherFront 42 = .ok (.iload 4, 2) := by decide +kernel
theorem dX0_gatherFront_44 : decode cX0_gatherFront 44 = .ok (.iload_n 2, 1) := by decide +kernel
theorem dX0_gatherFront_45 : decode cX0_gatherFront 45 = .ok (.if_icmp .ge 74, 3) := by decide +kernel
theorem dX0_gatherFront_48 : decode cX0_gatherFront 48 = .ok (.aload_n 0, 1) := by decide +kernel
theorem dX0_gatherFront_49 : decode cX0_gatherFront 49 = .ok (.getfield 18, 3) := by decide +kernel
theorem dX0_gatherFront_52 : decode cX0_gatherFront 52 = .ok (.iload_n 1, 1) := by decide +kernel
theorem dX0_gatherFront_53 : decode cX0_gatherFront 53 = .ok (.iload 5, 2) := by decide +kernel
theorem dX0_gatherFront_55 : decode cX0_gatherFront 55 = .ok (.iload_n 2, 1) := by decide +kernel
theorem dX0_gatherFront_56 : decode cX0_gatherFront 56 = .ok (.invokevirtual 53, 3) := by decide +kernel
theorem dX0_gatherFront_59 : decode cX0_gatherFront 59 = .ok (.istore 6, 2) := by decide +kernel
theorem dX0_gatherFront_61 : decode cX0_gatherFront 61 = .ok (.iload 6, 2) := by decide +kernel
theorem dX0_gatherFront_63 : decode cX0_gatherFront 63 = .ok (.iload 4, 2) := by decide +kernel
theorem dX0_gatherFront_65 : decode cX0_gatherFront 65 = .ok (.if_icmp .le 48, 3) := by decide +kernel
theorem dX0_gatherFront_68 : decode cX0_gatherFront 68 = .ok (.aload_n 0, 1) := by decide +kernel
theorem dX0_gatherFront_69 : decode cX0_gatherFront 69 = .ok (.getfield 35, 3) := by decide +kernel
theorem dX0_gatherFront_72 : decode cX0_gatherFront 72 = .ok (.bipush 38, 2) := by decide +kernel
theorem dX0_gatherFront_74 : decode cX0_gatherFront 74 = .ok (.if_icmp .ge 39, 3) := by decide +kernel
theorem dX0_gatherFront_77 : decode cX0_gatherFront 77 = .ok (.aload_n 0, 1) := by decide +kernel
theorem dX0_gatherFront_78 : decode cX0_gatherFront 78 = .ok (.getfield 9, 3) := by decide +kernel
theorem dX0_gatherFront_81 : decode cX0_gatherFront 81 = .ok (.aload_n 0, 1) := by decide +kernel
theorem dX0_gatherFront_82 : decode cX0_gatherFront 82 = .ok (.getfield 35, 3) := by decide +kernel
theorem dX0_gatherFront_85 : decode cX0_gatherFront 85 = .ok (.iload 6, 2) := by decide +kernel
theorem dX0_gatherFront_87 : decode cX0_gatherFront 87 = .ok (.iastore, 1) := by decide +kernel
theorem dX0_gatherFront_88 : decode cX0_gatherFront 88 = .ok (.aload_n 0, 1) := by decide +kernel
theorem dX0_gatherFront_89 : decode cX0_gatherFront 89 = .ok (.getfield 15, 3) := by decide +kernel
theorem dX0_gatherFront_92 : decode cX0_gatherFront 92 = .ok (.aload_n 0, 1) := by decide +kernel
theorem dX0_gatherFront_93 : decode cX0_gatherFront 93 = .ok (.getfield 35, 3) := by decide +kernel
theorem dX0_gatherFront_96 : decode cX0_gatherFront 96 = .ok (.iload 5, 2) := by decide +kernel
theorem dX0_gatherFront_98 : decode cX0_gatherFront 98 = .ok (.iastore, 1) := by decide +kernel
theorem dX0_gatherFront_99 : decode cX0_gatherFront 99 = .ok (.aload_n 0, 1) := by decide +kernel
theorem dX0_gatherFront_100 : decode cX0_gatherFront 100 = .ok (.dup, 1) := by decide +kernel
theorem dX0_gatherFront_101 : decode cX0_gatherFront 101 = .ok (.getfield 35, 3) := by decide +kernel
theorem dX0_gatherFront_104 : decode cX0_gatherFront 104 = .ok (.iconst 1, 1) := by decide +kernel
theorem dX0_gatherFront_105 : decode cX0_gatherFront 105 = .ok (.iadd, 1) := by decide +kernel
theorem dX0_gatherFront_106 : decode cX0_gatherFront 106 = .ok (.putfield 35, 3) := by decide +kernel
theorem dX0_gatherFront_109 : decode cX0_gatherFront 109 = .ok (.iload 6, 2) := by decide +kernel
theorem dX0_gatherFront_111 : decode cX0_gatherFront 111 = .ok (.istore 4, 2) := by decide +kernel
theorem dX0_gatherFront_113 : decode cX0_gatherFront 113 = .ok (.iinc 5 1, 3) := by decide +kernel
theorem dX0_gatherFront_116 : decode cX0_gatherFront 116 = .ok (.goto (-80), 3) := by decide +kernel
theorem dX0_gatherFront_119 : decode cX0_gatherFront 119 = .ok (.return_, 1) := by decide +kernel
set_option maxRecDepth 20000 in
theorem ggX0_seekLongest_X0_gatherFront : GoodIn wsX0_seekLongest wsX0_gatherFront := goodIn_r _ [8, 1, 9, 10, 11, 12, 13, 14, 2, 3, 15, 16, 17, 18, 19, 20, 21, 22, 23, 24, 25, 26, 27, 28, 29, 30, 31, 38, 39, 40, 41, 42, 43, 44, 45, 46, 47, 48] (by decide +kernel) (by decide +kernel)
set_option maxRecDepth 20000 in
theorem gX0_seekLongest_X0_gatherFront : GoodIn wsX0_seekLongest (wsV RX0 57 RX0 yX0_gatherFront wsX0_gatherFront) := goodIn_app (goodIn_of _ (by decide +kernel)) ggX0_seekLongest_X0_gatherFront
set_option maxRecDepth 20000 in
theorem ggX0_seekLongest_X0_take : GoodIn wsX0_seekLongest wsX0_take := goodIn_r _ [35, 36, 37, 38, 39, 40, 41, 42, 43, 44, 45] (by decide +kernel) (by decide +kernel)
set_option maxRecDepth 20000 in
theorem gX0_seekLongest_X0_take : GoodIn wsX0_seekLongest (wsV RX0 61 RX0 yX0_take wsX0_take) := goodIn_app (goodIn_of _ (by decide +kernel)) ggX0_seekLongest_X0_take
theorem dX0_seekLongest_0 : decode cX0_seekLongest 0 = .ok (.aload_n 0, 1) := by decide +kernel
theorem dX0_seekLongest_1 : decode cX0_seekLongest 1 = .ok (.iload_n 1, 1) := by decide +kernel
theorem dX0_seekLongest_2 : decode cX0_seekLongest 2 = .ok (.invokevirtual 57, 3) := by decide +kernel
theorem dX0_seekLongest_5 : decode cX0_seekLongest 5 = .ok (.aload_n 0, 1) := by decide +kernel
theorem dX0_seekLongest_6 : decode cX0_seekLongest 6 = .ok (.iconst 0, 1) := by decide +kernel
theorem dX0_seekLongest_7 : decode cX0_seekLongest 7 = .ok (.iconst 0, 1) := by decide +kernel
theorem dX0_seekLongest_8 : decode cX0_seekLongest 8 = .ok (.invokevirtual 61, 3) := by decide +kernel
theorem dX0_seekLongest_11 : decode cX0_seekLongest 11 = .ok (.aload_n 0, 1) := by decide +kernel
theorem dX0_seekLongest_12 : decode cX0_seekLongest 12 = .ok (.getfield 35, 3) := by decide +kernel
theorem dX0_seekLongest_15 : decode cX0_seekLongest 15 = .ok (.ifCond .le 29, 3) := by decide +kernel
theorem dX0_seekLongest_18 : decode cX0_seekLongest 18 = .ok (.aload_n 0, 1) := by decide +kernel
theorem dX0_seekLongest_19 : decode cX0_seekLongest 19 = .ok (.aload_n 0, 1) := by decide +kernel
theorem dX0_seekLongest_20 : decode cX0_seekLongest 20 = .ok (.getfield 9, 3) := by decide +kernel
theorem dX0_seekLongest_23 : decode cX0_seekLongest 23 = .ok (.aload_n 0, 1) := by decide +kernel
theorem dX0_seekLongest_24 : decode cX0_seekLongest 24 = .ok (.getfield 35, 3) := by decide +kernel
theorem dX0_seekLongest_27 : decode cX0_seekLongest 27 = .ok (.iconst 1, 1) := by decide +kernel
theorem dX0_seekLongest_28 : decode cX0_seekLongest 28 = .ok (.isub, 1) := by decide +kernel
theorem dX0_seekLongest_29 : decode cX0_seekLongest 29 = .ok (.iaload, 1) := by decide +kernel
theorem dX0_seekLongest_30 : decode cX0_seekLongest 30 = .ok (.aload_n 0, 1) := by decide +kernel
theorem dX0_seekLongest_31 : decode cX0_seekLongest 31 = .ok (.getfield 15, 3) := by decide +kernel
theorem dX0_seekLongest_34 : decode cX0_seekLongest 34 = .ok (.aload_n 0, 1) := by decide +kernel
theorem dX0_seekLongest_35 : decode cX0_seekLongest 35 = .ok (.getfield 35, 3) := by decide +kernel
theorem dX0_seekLongest_38 : decode cX0_seekLongest 38 = .ok (.iconst 1, 1) := by decide +kernel
theorem dX0_seekLongest_39 : decode cX0_seekLongest 39 = .ok (.isub, 1) := by decide +kernel
theorem dX0_seekLongest_40 : decode cX0_seekLongest 40 = .ok (.iaload, 1) := by decide +kernel
theorem dX0_seekLongest_41 : decode cX0_seekLongest 41 = .ok (.invokevirtual 61, 3) := by decide +kernel
theorem dX0_seekLongest_44 : decode cX0_seekLongest 44 = .ok (.return_, 1) := by decide +kernel
set_option maxRecDepth 20000 in
theorem ggX0_seekChained_X0_take : GoodIn wsX0_seekChained wsX0_take := goodIn_r _ [13, 8, 14, 32, 33, 34, 35, 36, 37, 38, 39] (by decide +kernel) (by decide +kernel)
set_option maxRecDepth 20000 in
theorem gX0_seekChained_X0_take : GoodIn wsX0_seekChained (wsV RX0 61 RX0 yX0_take wsX0_take) := goodIn_app (goodIn_of _ (by decide +kernel)) ggX0_seekChained_X0_take
set_option maxRecDepth 20000 in
theorem ggX0_seekChained_X3_mostLength : GoodIn wsX0_seekChained wsX3_mostLength := goodIn_r _ [19, 20, 21, 4, 5, 6, 40, 41, 42] (by decide +kernel) (by decide +kernel)
set_option maxRecDepth 20000 in
theorem gX0_seekChained_X3_mostLength : GoodIn wsX0_seekChained (wsV RX0 38 RX3 yX3_mostLength wsX3_mostLength) := goodIn_app (goodIn_of _ (by decide +kernel)) ggX0_seekChained_X3_mostLength
set_option maxRecDepth 20000 in
theorem ggX0_seekChained_X3_farthest : GoodIn wsX0_seekChained wsX3_farthest := goodIn_r _ [25, 26, 40, 41, 42] (by decide +kernel) (by decide +kernel)
set_option maxRecDepth 20000 in
theorem gX0_seekChained_X3_farthest : GoodIn wsX0_seekChained (wsV RX0 44 RX3 yX3_farthest wsX3_farthest) := goodIn_app (goodIn_of _ (by decide +kernel)) ggX0_seekChained_X3_farthest
set_option maxRecDepth 20000 in
theorem ggX0_seekChained_X3_reach : GoodIn wsX0_seekChained wsX3_reach := goodIn_r _ [30, 26, 31, 40, 41, 42] (by decide +kernel) (by decide +kernel)
set_option maxRecDepth 20000 in
theorem gX0_seekChained_X3_reach : GoodIn wsX0_seekChained (wsV RX0 53 RX3 yX3_reach wsX3_reach) := goodIn_app (goodIn_of _ (by decide +kernel)) ggX0_seekChained_X3_reach
theorem dX0_seekChained_0 : decode cX0_seekChained 0 = .ok (.aload_n 0, 1) := by decide +kernel
theorem dX0_seekChained_1 : decode cX0_seekChained 1 = .ok (.iconst 0, 1) := by decide +kernel
theorem dX0_seekChained_2 : decode cX0_seekChained 2 = .ok (.iconst 0, 1) := by decide +kernel
theorem dX0_seekChained_3 : decode cX0_seekChained 3 = .ok (.invokevirtual 61, 3) := by decide +kernel
theorem dX0_seekChained_6 : decode cX0_seekChained 6 = .ok (.aload_n 0, 1) := by decide +kernel
theorem dX0_seekChained_7 : decode cX0_seekChained 7 = .ok (.getfield 18, 3) := by decide +kernel
theorem dX0_seekChained_10 : decode cX0_seekChained 10 = .ok (.iload_n 1, 1) := by decide +kernel
theorem dX0_seekChained_11 : decode cX0_seekChained 11 = .ok (.invokevirtual 38, 3) := by decide +kernel
theorem dX0_seekChained_14 : decode cX0_seekChained 14 = .ok (.istore_n 2, 1) := by decide +kernel
theorem dX0_seekChained_15 : decode cX0_seekChained 15 = .ok (.aload_n 0, 1) := by decide +kernel
theorem dX0_seekChained_16 : decode cX0_seekChained 16 = .ok (.getfield 22, 3) := by decide +kernel
theorem dX0_seekChained_19 : decode cX0_seekChained 19 = .ok (.aload_n 0, 1) := by decide +kernel
theorem dX0_seekChained_20 : decode cX0_seekChained 20 = .ok (.getfield 18, 3) := by decide +kernel
theorem dX0_seekChained_23 : decode cX0_seekChained 23 = .ok (.iload_n 1, 1) := by decide +kernel
theorem dX0_seekChained_24 : decode cX0_seekChained 24 = .ok (.invokevirtual 44, 3) := by decide +kernel
theorem dX0_seekChained_27 : decode cX0_seekChained 27 = .ok (.invokestatic 47, 3) := by decide +kernel
theorem dX0_seekChained_30 : decode cX0_seekChained 30 = .ok (.istore_n 3, 1) := by decide +kernel
theorem dX0_seekChained_31 : decode cX0_seekChained 31 = .ok (.iconst 0, 1) := by decide +kernel
theorem dX0_seekChained_32 : decode cX0_seekChained 32 = .ok (.istore 4, 2) := by decide +kernel
theorem dX0_seekChained_34 : decode cX0_seekChained 34 = .ok (.iconst 1, 1) := by decide +kernel
theorem dX0_seekChained_35 : decode cX0_seekChained 35 = .ok (.istore 5, 2) := by decide +kernel
theorem dX0_seekChained_37 : decode cX0_seekChained 37 = .ok (.iload 5, 2) := by decide +kernel
theorem dX0_seekChained_39 : decode cX0_seekChained 39 = .ok (.iload_n 3, 1) := by decide +kernel
theorem dX0_seekChained_40 : decode cX0_seekChained 40 = .ok (.if_icmp .gt 57, 3) := by decide +kernel
theorem dX0_seekChained_43 : decode cX0_seekChained 43 = .ok (.iload 4, 2) := by decide +kernel
theorem dX0_seekChained_45 : decode cX0_seekChained 45 = .ok (.aload_n 0, 1) := by decide +kernel
theorem dX0_seekChained_46 : decode cX0_seekChained 46 = .ok (.getfield 26, 3) := by decide +kernel
theorem dX0_seekChained_49 : decode cX0_seekChained 49 = .ok (.if_icmp .ge 48, 3) := by decide +kernel
theorem dX0_seekChained_52 : decode cX0_seekChained 52 = .ok (.aload_n 0, 1) := by decide +kernel
theorem dX0_seekChained_53 : decode cX0_seekChained 53 = .ok (.getfield 18, 3) := by decide +kernel
theorem dX0_seekChained_56 : decode cX0_seekChained 56 = .ok (.iload_n 1, 1) := by decide +kernel
theorem dX0_seekChained_57 : decode cX0_seekChained 57 = .ok (.iload 5, 2) := by decide +kernel
theorem dX0_seekChained_59 : decode cX0_seekChained 59 = .ok (.iload_n 2, 1) := by decide +kernel
theorem dX0_seekChained_60 : decode cX0_seekChained 60 = .ok (.invokevirtual 53, 3) := by decide +kernel
theorem dX0_seekChained_63 : decode cX0_seekChained 63 = .ok (.istore 6, 2) := by decide +kernel
theorem dX0_seekChained_65 : decode cX0_seekChained 65 = .ok (.iload 6, 2) := by decide +kernel
theorem dX0_seekChained_67 : decode cX0_seekChained 67 = .ok (.iconst 3, 1) := by decide +kernel
theorem dX0_seekChained_68 : decode cX0_seekChained 68 = .ok (.if_icmp .lt 23, 3) := by decide +kernel
theorem dX0_seekChained_71 : decode cX0_seekChained 71 = .ok (.iinc 4 1, 3) := by decide +kernel
theorem dX0_seekChained_74 : decode cX0_seekChained 74 = .ok (.iload 6, 2) := by decide +kernel
theorem dX0_seekChained_76 : decode cX0_seekChained 76 = .ok (.aload_n 0, 1) := by decide +kernel
theorem dX0_seekChained_77 : decode cX0_seekChained 77 = .ok (.getfield 29, 3) := by decide +kernel
theorem dX0_seekChained_80 : decode cX0_seekChained 80 = .ok (.if_icmp .le 11, 3) := by decide +kernel
theorem dX0_seekChained_83 : decode cX0_seekChained 83 = .ok (.aload_n 0, 1) := by decide +kernel
theorem dX0_seekChained_84 : decode cX0_seekChained 84 = .ok (.iload 6, 2) := by decide +kernel
theorem dX0_seekChained_86 : decode cX0_seekChained 86 = .ok (.iload 5, 2) := by decide +kernel
theorem dX0_seekChained_88 : decode cX0_seekChained 88 = .ok (.invokevirtual 61, 3) := by decide +kernel
theorem dX0_seekChained_91 : decode cX0_seekChained 91 = .ok (.iinc 5 1, 3) := by decide +kernel
theorem dX0_seekChained_94 : decode cX0_seekChained 94 = .ok (.goto (-57), 3) := by decide +kernel
theorem dX0_seekChained_97 : decode cX0_seekChained 97 = .ok (.return_, 1) := by decide +kernel
set_option maxRecDepth 20000 in
theorem ggX0_seekLookingAhead_X0_seekLongest : GoodIn wsX0_seekLookingAhead wsX0_seekLongest := goodIn_r _ [6, 7, 8, 9, 10, 11, 12, 5, 13, 14, 15, 16, 17, 18, 19, 20, 21, 22, 23, 24, 25, 26, 27, 28, 29, 30, 31, 32, 33, 34, 35, 36, 37, 38, 39, 40, 1, 41, 42, 43, 44, 45, 46, 47, 48, 49, 50, 51, 52] (by decide +kernel) (by decide +kernel)
set_option maxRecDepth 20000 in
theorem gX0_seekLookingAhead_X0_seekLongest : GoodIn wsX0_seekLookingAhead (wsV RX0 65 RX0 yX0_seekLongest wsX0_seekLongest) := goodIn_app (goodIn_of _ (by decide +kernel)) ggX0_seekLookingAhead_X0_seekLongest
set_option maxRecDepth 20000 in
theorem ggX0_seekLookingAhead_X0_take : GoodIn wsX0_seekLookingAhead wsX0_take := goodIn_r _ [40, 1, 41, 42, 43, 44, 45, 46, 47, 48, 49] (by decide +kernel) (by decide +kernel)
set_option maxRecDepth 20000 in
theorem gX0_seekLookingAhead_X0_take : GoodIn wsX0_seekLookingAhead (wsV RX0 61 RX0 yX0_take wsX0_take) := goodIn_app (goodIn_of _ (by decide +kernel)) ggX0_seekLookingAhead_X0_take
theorem dX0_seekLookingAhead_0 : decode cX0_seekLookingAhead 0 = .ok (.aload_n 0, 1) := by decide +kernel
theorem dX0_seekLookingAhead_1 : decode cX0_seekLookingAhead 1 = .ok (.iload_n 1, 1) := by decide +kernel
theorem dX0_seekLookingAhead_2 : decode cX0_seekLookingAhead 2 = .ok (.iconst 1, 1) := by decide +kernel
theorem dX0_seekLookingAhead_3 : decode cX0_seekLookingAhead 3 = .ok (.iadd, 1) := by decide +kernel
theorem dX0_seekLookingAhead_4 : decode cX0_seekLookingAhead 4 = .ok (.invokevirtual 65, 3) := by decide +kernel
theorem dX0_seekLookingAhead_7 : decode cX0_seekLookingAhead 7 = .ok (.aload_n 0, 1) := by decide +kernel
theorem dX0_seekLookingAhead_8 : decode cX0_seekLookingAhead 8 = .ok (.getfield 29, 3) := by decide +kernel
theorem dX0_seekLookingAhead_11 : decode cX0_seekLookingAhead 11 = .ok (.istore_n 2, 1) := by decide +kernel
theorem dX0_seekLookingAhead_12 : decode cX0_seekLookingAhead 12 = .ok (.aload_n 0, 1) := by decide +kernel
theorem dX0_seekLookingAhead_13 : decode cX0_seekLookingAhead 13 = .ok (.iload_n 1, 1) := by decide +kernel
theorem dX0_seekLookingAhead_14 : decode cX0_seekLookingAhead 14 = .ok (.invokevirtual 65, 3) := by decide +kernel
theorem dX0_seekLookingAhead_17 : decode cX0_seekLookingAhead 17 = .ok (.iload_n 2, 1) := by decide +kernel
theorem dX0_seekLookingAhead_18 : decode cX0_seekLookingAhead 18 = .ok (.aload_n 0, 1) := by decide +kernel
theorem dX0_seekLookingAhead_19 : decode cX0_seekLookingAhead 19 = .ok (.getfield 29, 3) := by decide +kernel
theorem dX0_seekLookingAhead_22 : decode cX0_seekLookingAhead 22 = .ok (.if_icmp .le 9, 3) := by decide +kernel
theorem dX0_seekLookingAhead_25 : decode cX0_seekLookingAhead 25 = .ok (.aload_n 0, 1) := by decide +kernel
theorem dX0_seekLookingAhead_26 : decode cX0_seekLookingAhead 26 = .ok (.iconst 0, 1) := by decide +kernel
theorem dX0_seekLookingAhead_27 : decode cX0_seekLookingAhead 27 = .ok (.iconst 0, 1) := by decide +kernel
theorem dX0_seekLookingAhead_28 : decode cX0_seekLookingAhead 28 = .ok (.invokevirtual 61, 3) := by decide +kernel
theorem dX0_seekLookingAhead_31 : decode cX0_seekLookingAhead 31 = .ok (.return_, 1) := by decide +kernel
theorem dX1_init_0 : decode cX1_init 0 = .ok (.aload_n 0, 1) := by decide +kernel
theorem dX1_init_1 : decode cX1_init 1 = .ok (.invokespecial 3, 3) := by decide +kernel
theorem dX1_init_4 : decode cX1_init 4 = .ok (.aload_n 0, 1) := by decide +kernel
theorem dX1_init_5 : decode cX1_init 5 = .ok (.sipush 301, 3) := by decide +kernel
theorem dX1_init_8 : decode cX1_init 8 = .ok (.newarray .int, 2) := by decide +kernel
theorem dX1_init_10 : decode cX1_init 10 = .ok (.putfield 9, 3) := by decide +kernel
theorem dX1_init_13 : decode cX1_init 13 = .ok (.aload_n 0, 1) := by decide +kernel
theorem dX1_init_14 : decode cX1_init 14 = .ok (.sipush 300, 3) := by decide +kernel
theorem dX1_init_17 : decode cX1_init 17 = .ok (.newarray .int, 2) := by decide +kernel
theorem dX1_init_19 : decode cX1_init 19 = .ok (.putfield 15, 3) := by decide +kernel
theorem dX1_init_22 : decode cX1_init 22 = .ok (.aload_n 0, 1) := by decide +kernel
theorem dX1_init_23 : decode cX1_init 23 = .ok (.sipush 300, 3) := by decide +kernel
theorem dX1_init_26 : decode cX1_init 26 = .ok (.newarray .int, 2) := by decide +kernel
theorem dX1_init_28 : decode cX1_init 28 = .ok (.putfield 18, 3) := by decide +kernel
theorem dX1_init_31 : decode cX1_init 31 = .ok (.return_, 1) := by decide +kernel
set_option maxRecDepth 20000 in
theorem ggX1_make_X0_gatherFront : GoodIn wsX1_make wsX0_gatherFront := goodIn_r _ [10, 11, 12, 13, 14, 15, 16, 17, 18, 19, 20, 21, 22, 23, 24, 25, 26, 27, 28, 29, 30, 31, 32, 33, 34, 35, 36, 48, 49, 50, 51, 52, 53, 54, 55, 56, 57, 58] (by decide +kernel) (by decide +kernel)
set_option maxRecDepth 20000 in
theorem gX1_make_X0_gatherFront : GoodIn wsX1_make (wsV RX1 33 RX0 yX0_gatherFront wsX0_gatherFront) := goodIn_app (goodIn_of _ (by decide +kernel)) ggX1_make_X0_gatherFront
set_option maxRecDepth 20000 in
theorem ggX1_make_X1_weighMatches : GoodIn wsX1_make wsX1_weighMatches := goodIn_r _ [41, 42, 43, 44, 3, 4, 5, 45, 46, 47, 48, 49, 50, 51, 52, 53, 54, 55, 59, 60, 61] (by decide +kernel) (by decide +kernel)
set_option maxRecDepth 20000 in
theorem gX1_make_X1_weighMatches : GoodIn wsX1_make (wsV RX1 37 RX1 yX1_weighMatches wsX1_weighMatches) := goodIn_app (goodIn_of _ (by decide +kernel)) ggX1_make_X1_weighMatches
theorem dX1_make_0 : decode cX1_make 0 = .ok (.aload_n 1, 1) := by decide +kernel
theorem dX1_make_1 : decode cX1_make 1 = .ok (.getfield 21, 3) := by decide +kernel
theorem dX1_make_4 : decode cX1_make 4 = .ok (.getfield 27, 3) := by decide +kernel
theorem dX1_make_7 : decode cX1_make 7 = .ok (.istore_n 2, 1) := by decide +kernel
theorem dX1_make_8 : decode cX1_make 8 = .ok (.aload_n 0, 1) := by decide +kernel
theorem dX1_make_9 : decode cX1_make 9 = .ok (.getfield 9, 3) := by decide +kernel
theorem dX1_make_12 : decode cX1_make 12 = .ok (.iload_n 2, 1) := by decide +kernel
theorem dX1_make_13 : decode cX1_make 13 = .ok (.iconst 0, 1) := by decide +kernel
theorem dX1_make_14 : decode cX1_make 14 = .ok (.iastore, 1) := by decide +kernel
theorem dX1_make_15 : decode cX1_make 15 = .ok (.iload_n 2, 1) := by decide +kernel
theorem dX1_make_16 : decode cX1_make 16 = .ok (.iconst 1, 1) := by decide +kernel
theorem dX1_make_17 : decode cX1_make 17 = .ok (.isub, 1) := by decide +kernel
theorem dX1_make_18 : decode cX1_make 18 = .ok (.istore_n 3, 1) := by decide +kernel
theorem dX1_make_19 : decode cX1_make 19 = .ok (.iload_n 3, 1) := by decide +kernel
theorem dX1_make_20 : decode cX1_make 20 = .ok (.ifCond .lt 51, 3) := by decide +kernel
theorem dX1_make_23 : decode cX1_make 23 = .ok (.aload_n 0, 1) := by decide +kernel
theorem dX1_make_24 : decode cX1_make 24 = .ok (.getfield 9, 3) := by decide +kernel
theorem dX1_make_27 : decode cX1_make 27 = .ok (.iload_n 3, 1) := by decide +kernel
theorem dX1_make_28 : decode cX1_make 28 = .ok (.bipush 9, 2) := by decide +kernel
theorem dX1_make_30 : decode cX1_make 30 = .ok (.aload_n 0, 1) := by decide +kernel
theorem dX1_make_31 : decode cX1_make 31 = .ok (.getfield 9, 3) := by decide +kernel
theorem dX1_make_34 : decode cX1_make 34 = .ok (.iload_n 3, 1) := by decide +kernel
theorem dX1_make_35 : decode cX1_make 35 = .ok (.iconst 1, 1) := by decide +kernel
theorem dX1_make_36 : decode cX1_make 36 = .ok (.iadd, 1) := by decide +kernel
theorem dX1_make_37 : decode cX1_make 37 = .ok (.iaload, 1) := by decide +kernel
theorem dX1_make_38 : decode cX1_make 38 = .ok (.iadd, 1) := by decide +kernel
theorem dX1_make_39 : decode cX1_make 39 = .ok (.iastore, 1) := by decide +kernel
theorem dX1_make_40 : decode cX1_make 40 = .ok (.aload_n 0, 1) := by decide +kernel
theorem dX1_make_41 : decode cX1_make 41 = .ok (.getfield 15, 3) := by decide +kernel
theorem dX1_make_44 : decode cX1_make 44 = .ok (.iload_n 3, 1) := by decide +kernel
theorem dX1_make_45 : decode cX1_make 45 = .ok (.iconst 1, 1) := by decide +kernel
theorem dX1_make_46 : decode cX1_make 46 = .ok (.iastore, 1) := by decide +kernel
theorem dX1_make_47 : decode cX1_make 47 = .ok (.aload_n 0, 1) := by decide +kernel
theorem dX1_make_48 : decode cX1_make 48 = .ok (.getfield 18, 3) := by decide +kernel
theorem dX1_make_51 : decode cX1_make 51 = .ok (.iload_n 3, 1) := by decide +kernel
theorem dX1_make_52 : decode cX1_make 52 = .ok (.iconst 0, 1) := by decide +kernel
theorem dX1_make_53 : decode cX1_make 53 = .ok (.iastore, 1) := by decide +kernel
theorem dX1_make_54 : decode cX1_make 54 = .ok (.aload_n 1, 1) := by decide +kernel
theorem dX1_make_55 : decode cX1_make 55 = .ok (.iload_n 3, 1) := by decide +kernel
theorem dX1_make_56 : decode cX1_make 56 = .ok (.invokevirtual 33, 3) := by decide +kernel
theorem dX1_make_59 : decode cX1_make 59 = .ok (.aload_n 0, 1) := by decide +kernel
theorem dX1_make_60 : decode cX1_make 60 = .ok (.iload_n 3, 1) := by decide +kernel
theorem dX1_make_61 : decode cX1_make 61 = .ok (.aload_n 1, 1) := by decide +kernel
theorem dX1_make_62 : decode cX1_make 62 = .ok (.invokevirtual 37, 3) := by decide +kernel
theorem dX1_make_65 : decode cX1_make 65 = .ok (.iinc 3 (-1), 3) := by decide +kernel
theorem dX1_make_68 : decode cX1_make 68 = .ok (.goto (-49), 3) := by decide +kernel
theorem dX1_make_71 : decode cX1_make 71 = .ok (.return_, 1) := by decide +kernel
set_option maxRecDepth 20000 in
theorem ggX1_weighMatches_X4_gammaBits : GoodIn wsX1_weighMatches wsX4_gammaBits := goodIn_r _ [9] (by decide +kernel) (by decide +kernel)
set_option maxRecDepth 20000 in
theorem gX1_weighMatches_X4_gammaBits_n47 : GoodIn wsX1_weighMatches (wsX4_gammaBits) := ggX1_weighMatches_X4_gammaBits
theorem dX1_weighMatches_0 : decode cX1_weighMatches 0 = .ok (.iconst 3, 1) := by decide +kernel
theorem dX1_weighMatches_1 : decode cX1_weighMatches 1 = .ok (.istore_n 3, 1) := by decide +kernel
theorem dX1_weighMatches_2 : decode cX1_weighMatches 2 = .ok (.iconst 0, 1) := by decide +kernel
theorem dX1_weighMatches_3 : decode cX1_weighMatches 3 = .ok (.istore 4, 2) := by decide +kernel
theorem dX1_weighMatches_5 : decode cX1_weighMatches 5 = .ok (.iload 4, 2) := by decide +kernel
theorem dX1_weighMatches_7 : decode cX1_weighMatches 7 = .ok (.aload_n 2, 1) := by decide +kernel
theorem dX1_weighMatches_8 : decode cX1_weighMatches 8 = .ok (.getfield 41, 3) := by decide +kernel
theorem dX1_weighMatches_11 : decode cX1_weighMatches 11 = .ok (.if_icmp .ge 98, 3) := by decide +kernel
theorem dX1_weighMatches_14 : decode cX1_weighMatches 14 = .ok (.aload_n 2, 1) := by decide +kernel
theorem dX1_weighMatches_15 : decode cX1_weighMatches 15 = .ok (.getfield 44, 3) := by decide +kernel
theorem dX1_weighMatches_18 : decode cX1_weighMatches 18 = .ok (.iload 4, 2) := by decide +kernel
theorem dX1_weighMatches_20 : decode cX1_weighMatches 20 = .ok (.iaload, 1) := by decide +kernel
theorem dX1_weighMatches_21 : decode cX1_weighMatches 21 = .ok (.istore 5, 2) := by decide +kernel
theorem dX1_weighMatches_23 : decode cX1_weighMatches 23 = .ok (.iconst 2, 1) := by decide +kernel
theorem dX1_weighMatches_24 : decode cX1_weighMatches 24 = .ok (.iload 5, 2) := by decide +kernel
theorem dX1_weighMatches_26 : decode cX1_weighMatches 26 = .ok (.invokestatic 47, 3) := by decide +kernel
theorem dX1_weighMatches_29 : decode cX1_weighMatches 29 = .ok (.iadd, 1) := by decide +kernel
theorem dX1_weighMatches_30 : decode cX1_weighMatches 30 = .ok (.istore 6, 2) := by decide +kernel
theorem dX1_weighMatches_32 : decode cX1_weighMatches 32 = .ok (.iload_n 3, 1) := by decide +kernel
theorem dX1_weighMatches_33 : decode cX1_weighMatches 33 = .ok (.aload_n 2, 1) := by decide +kernel
theorem dX1_weighMatches_34 : decode cX1_weighMatches 34 = .ok (.getfield 51, 3) := by decide +kernel
theorem dX1_weighMatches_37 : decode cX1_weighMatches 37 = .ok (.iload 4, 2) := by decide +kernel
theorem dX1_weighMatches_39 : decode cX1_weighMatches 39 = .ok (.iaload, 1) := by decide +kernel
theorem dX1_weighMatches_40 : decode cX1_weighMatches 40 = .ok (.if_icmp .gt 63, 3) := by decide +kernel
theorem dX1_weighMatches_43 : decode cX1_weighMatches 43 = .ok (.iload 6, 2) := by decide +kernel
theorem dX1_weighMatches_45 : decode cX1_weighMatches 45 = .ok (.iload_n 3, 1) := by decide +kernel
theorem dX1_weighMatches_46 : decode cX1_weighMatches 46 = .ok (.iconst 2, 1) := by decide +kernel
theorem dX1_weighMatches_47 : decode cX1_weighMatches 47 = .ok (.isub, 1) := by decide +kernel
theorem dX1_weighMatches_48 : decode cX1_weighMatches 48 = .ok (.invokestatic 47, 3) := by decide +kernel
theorem dX1_weighMatches_51 : decode cX1_weighMatches 51 = .ok (.iadd, 1) := by decide +kernel
theorem dX1_weighMatches_52 : decode cX1_weighMatches 52 = .ok (.aload_n 0, 1) := by decide +kernel
theorem dX1_weighMatches_53 : decode cX1_weighMatches 53 = .ok (.getfield 9, 3) := by decide +kernel
theorem dX1_weighMatches_56 : decode cX1_weighMatches 56 = .ok (.iload_n 1, 1) := by decide +kernel
theorem dX1_weighMatches_57 : decode cX1_weighMatches 57 = .ok (.iload_n 3, 1) := by decide +kernel
theorem dX1_weighMatches_58 : decode cX1_weighMatches 58 = .ok (.iadd, 1) := by decide +kernel
theorem dX1_weighMatches_59 : decode cX1_weighMatches 59 = .ok (.iaload, 1) := by decide +kernel
theorem dX1_weighMatches_60 : decode cX1_weighMatches 60 = .ok (.iadd, 1) := by decide +kernel
theorem dX1_weighMatches_61 : decode cX1_weighMatches 61 = .ok (.istore 7, 2) := by decide +kernel
theorem dX1_weighMatches_63 : decode cX1_weighMatches 63 = .ok (.iload 7, 2) := by decide +kernel
theorem dX1_weighMatches_65 : decode cX1_weighMatches 65 = .ok (.aload_n 0, 1) := by decide +kernel
theorem dX1_weighMatches_66 : decode cX1_weighMatches 66 = .ok (.getfield 9, 3) := by decide +kernel
theorem dX1_weighMatches_69 : decode cX1_weighMatches 69 = .ok (.iload_n 1, 1) := by decide +kernel
theorem dX1_weighMatches_70 : decode cX1_weighMatches 70 = .ok (.iaload, 1) := by decide +kernel
theorem dX1_weighMatches_71 : decode cX1_weighMatches 71 = .ok (.if_icmp .gt 26, 3) := by decide +kernel
theorem dX1_weighMatches_74 : decode cX1_weighMatches 74 = .ok (.aload_n 0, 1) := by decide +kernel
theorem dX1_weighMatches_75 : decode cX1_weighMatches 75 = .ok (.getfield 9, 3) := by decide +kernel
theorem dX1_weighMatches_78 : decode cX1_weighMatches 78 = .ok (.iload_n 1, 1) := by decide +kernel
theorem dX1_weighMatches_79 : decode cX1_weighMatches 79 = .ok (.iload 7, 2) := by decide +kernel
theorem dX1_weighMatches_81 : decode cX1_weighMatches 81 = .ok (.iastore, 1) := by decide +kernel
theorem dX1_weighMatches_82 : decode cX1_weighMatches 82 = .ok (.aload_n 0, 1) := by decide +kernel
theorem dX1_weighMatches_83 : decode cX1_weighMatches 83 = .ok (.getfield 15, 3) := by decide +kernel
theorem dX1_weighMatches_86 : decode cX1_weighMatches 86 = .ok (.iload_n 1, 1) := by decide +kernel
theorem dX1_weighMatches_87 : decode cX1_weighMatches 87 = .ok (.iload_n 3, 1) := by decide +kernel
theorem dX1_weighMatches_88 : decode cX1_weighMatches 88 = .ok (.iastore, 1) := by decide +kernel
theorem dX1_weighMatches_89 : decode cX1_weighMatches 89 = .ok (.aload_n 0, 1) := by decide +kernel
theorem dX1_weighMatches_90 : decode cX1_weighMatches 90 = .ok (.getfield 18, 3) := by decide +kernel
theorem dX1_weighMatches_93 : decode cX1_weighMatches 93 = .ok (.iload_n 1, 1) := by decide +kernel
theorem dX1_weighMatches_94 : decode cX1_weighMatches 94 = .ok (.iload 5, 2) := by decide +kernel
theorem dX1_weighMatches_96 : decode cX1_weighMatches 96 = .ok (.iastore, 1) := by decide +kernel
theorem dX1_weighMatches_97 : decode cX1_weighMatches 97 = .ok (.iinc 3 1, 3) := by decide +kernel
theorem dX1_weighMatches_100 : decode cX1_weighMatches 100 = .ok (.goto (-68), 3) := by decide +kernel
theorem dX1_weighMatches_103 : decode cX1_weighMatches 103 = .ok (.iinc 4 1, 3) := by decide +kernel
theorem dX1_weighMatches_106 : decode cX1_weighMatches 106 = .ok (.goto (-101), 3) := by decide +kernel
theorem dX1_weighMatches_109 : decode cX1_weighMatches 109 = .ok (.return_, 1) := by decide +kernel
theorem dX2_init_0 : decode cX2_init 0 = .ok (.aload_n 0, 1) := by decide +kernel
theorem dX2_init_1 : decode cX2_init 1 = .ok (.invokespecial 3, 3) := by decide +kernel
theorem dX2_init_4 : decode cX2_init 4 = .ok (.aload_n 0, 1) := by decide +kernel
theorem dX2_init_5 : decode cX2_init 5 = .ok (.sipush 300, 3) := by decide +kernel
theorem dX2_init_8 : decode cX2_init 8 = .ok (.newarray .int, 2) := by decide +kernel
theorem dX2_init_10 : decode cX2_init 10 = .ok (.putfield 9, 3) := by decide +kernel
theorem dX2_init_13 : decode cX2_init 13 = .ok (.aload_n 0, 1) := by decide +kernel
theorem dX2_init_14 : decode cX2_init 14 = .ok (.sipush 300, 3) := by decide +kernel
theorem dX2_init_17 : decode cX2_init 17 = .ok (.newarray .int, 2) := by decide +kernel
theorem dX2_init_19 : decode cX2_init 19 = .ok (.putfield 15, 3) := by decide +kernel
theorem dX2_init_22 : decode cX2_init 22 = .ok (.aload_n 0, 1) := by decide +kernel
theorem dX2_init_23 : decode cX2_init 23 = .ok (.sipush 300, 3) := by decide +kernel
theorem dX2_init_26 : decode cX2_init 26 = .ok (.newarray .int, 2) := by decide +kernel
theorem dX2_init_28 : decode cX2_init 28 = .ok (.putfield 18, 3) := by decide +kernel
theorem dX2_init_31 : decode cX2_init 31 = .ok (.return_, 1) := by decide +kernel
theorem dX2_begin_0 : decode cX2_begin 0 = .ok (.aload_n 0, 1) := by decide +kernel
theorem dX2_begin_1 : decode cX2_begin 1 = .ok (.iconst 0, 1) := by decide +kernel
theorem dX2_begin_2 : decode cX2_begin 2 = .ok (.putfield 21, 3) := by decide +kernel
theorem dX2_begin_5 : decode cX2_begin 5 = .ok (.aload_n 0, 1) := by decide +kernel
theorem dX2_begin_6 : decode cX2_begin 6 = .ok (.iconst 0, 1) := by decide +kernel
theorem dX2_begin_7 : decode cX2_begin 7 = .ok (.putfield 25, 3) := by decide +kernel
theorem dX2_begin_10 : decode cX2_begin 10 = .ok (.aload_n 0, 1) := by decide +kernel
theorem dX2_begin_11 : decode cX2_begin 11 = .ok (.iconst 0, 1) := by decide +kernel
theorem dX2_begin_12 : decode cX2_begin 12 = .ok (.putfield 28, 3) := by decide +kernel
theorem dX2_begin_15 : decode cX2_begin 15 = .ok (.aload_n 0, 1) := by decide +kernel
theorem dX2_begin_16 : decode cX2_begin 16 = .ok (.iconst 0, 1) := by decide +kernel
theorem dX2_begin_17 : decode cX2_begin 17 = .ok (.putfield 31, 3) := by decide +kernel
theorem dX2_begin_20 : decode cX2_begin 20 = .ok (.aload_n 0, 1) := by decide +kernel
theorem dX2_begin_21 : decode cX2_begin 21 = .ok (.iconst 0, 1) := by decide +kernel
theorem dX2_begin_22 : decode cX2_begin 22 = .ok (.putfield 34, 3) := by decide +kernel
theorem dX2_begin_25 : decode cX2_begin 25 = .ok (.aload_n 0, 1) := by decide +kernel
theorem dX2_begin_26 : decode cX2_begin 26 = .ok (.iconst 0, 1) := by decide +kernel
theorem dX2_begin_27 : decode cX2_begin 27 = .ok (.putfield 37, 3) := by decide +kernel
theorem dX2_begin_30 : decode cX2_begin 30 = .ok (.aload_n 0, 1) := by decide +kernel
theorem dX2_begin_31 : decode cX2_begin 31 = .ok (.iconst 0, 1) := by decide +kernel
theorem dX2_begin_32 : decode cX2_begin 32 = .ok (.putfield 40, 3) := by decide +kernel
theorem dX2_begin_35 : decode cX2_begin 35 = .ok (.return_, 1) := by decide +kernel
set_option maxRecDepth 20000 in
theorem ggX2_put_X2_countMatch : GoodIn wsX2_put wsX2_countMatch := goodIn_r _ [11, 5, 12, 13, 14, 15, 6, 16, 17, 18, 19, 20, 21, 10, 22, 23, 24, 25, 26, 27, 28, 29, 30, 31, 32, 33] (by decide +kernel) (by decide +kernel)
set_option maxRecDepth 20000 in
theorem gX2_put_X2_countMatch : GoodIn wsX2_put (wsV RX2 43 RX2 yX2_countMatch wsX2_countMatch) := goodIn_app (goodIn_of _ (by decide +kernel)) ggX2_put_X2_countMatch
theorem dX2_put_0 : decode cX2_put 0 = .ok (.aload_n 0, 1) := by decide +kernel
theorem dX2_put_1 : decode cX2_put 1 = .ok (.getfield 21, 3) := by decide +kernel
theorem dX2_put_4 : decode cX2_put 4 = .ok (.sipush 300, 3) := by decide +kernel
theorem dX2_put_7 : decode cX2_put 7 = .ok (.if_icmp .lt 4, 3) := by decide +kernel
theorem dX2_put_10 : decode cX2_put 10 = .ok (.return_, 1) := by decide +kernel
theorem dX2_put_11 : decode cX2_put 11 = .ok (.aload_n 0, 1) := by decide +kernel
theorem dX2_put_12 : decode cX2_put 12 = .ok (.getfield 9, 3) := by decide +kernel
theorem dX2_put_15 : decode cX2_put 15 = .ok (.aload_n 0, 1) := by decide +kernel
theorem dX2_put_16 : decode cX2_put 16 = .ok (.getfield 21, 3) := by decide +kernel
theorem dX2_put_19 : decode cX2_put 19 = .ok (.iload_n 1, 1) := by decide +kernel
theorem dX2_put_20 : decode cX2_put 20 = .ok (.iastore, 1) := by decide +kernel
theorem dX2_put_21 : decode cX2_put 21 = .ok (.aload_n 0, 1) := by decide +kernel
theorem dX2_put_22 : decode cX2_put 22 = .ok (.getfield 15, 3) := by decide +kernel
theorem dX2_put_25 : decode cX2_put 25 = .ok (.aload_n 0, 1) := by decide +kernel
theorem dX2_put_26 : decode cX2_put 26 = .ok (.getfield 21, 3) := by decide +kernel
theorem dX2_put_29 : decode cX2_put 29 = .ok (.iload_n 2, 1) := by decide +kernel
theorem dX2_put_30 : decode cX2_put 30 = .ok (.iastore, 1) := by decide +kernel
theorem dX2_put_31 : decode cX2_put 31 = .ok (.aload_n 0, 1) := by decide +kernel
theorem dX2_put_32 : decode cX2_put 32 = .ok (.getfield 18, 3) := by decide +kernel
theorem dX2_put_35 : decode cX2_put 35 = .ok (.aload_n 0, 1) := by decide +kernel
theorem dX2_put_36 : decode cX2_put 36 = .ok (.getfield 21, 3) := by decide +kernel
theorem dX2_put_39 : decode cX2_put 39 = .ok (.iload_n 3, 1) := by decide +kernel
theorem dX2_put_40 : decode cX2_put 40 = .ok (.iastore, 1) := by decide +kernel
theorem dX2_put_41 : decode cX2_put 41 = .ok (.aload_n 0, 1) := by decide +kernel
theorem dX2_put_42 : decode cX2_put 42 = .ok (.dup, 1) := by decide +kernel
theorem dX2_put_43 : decode cX2_put 43 = .ok (.getfield 21, 3) := by decide +kernel
theorem dX2_put_46 : decode cX2_put 46 = .ok (.iconst 1, 1) := by decide +kernel
theorem dX2_put_47 : decode cX2_put 47 = .ok (.iadd, 1) := by decide +kernel
theorem dX2_put_48 : decode cX2_put 48 = .ok (.putfield 21, 3) := by decide +kernel
theorem dX2_put_51 : decode cX2_put 51 = .ok (.iload_n 3, 1) := by decide +kernel
theorem dX2_put_52 : decode cX2_put 52 = .ok (.ifCond .ne 28, 3) := by decide +kernel
theorem dX2_put_55 : decode cX2_put 55 = .ok (.aload_n 0, 1) := by decide +kernel
theorem dX2_put_56 : decode cX2_put 56 = .ok (.dup, 1) := by decide +kernel
end
section
theorem dX2_put_57 : decode cX2_put 57 = .ok (.getfield 25, 3) := by decide +kernel
theorem dX2_put_60 : decode cX2_put 60 = .ok (.bipush 9, 2) := by decide +kernel
theorem dX2_put_62 : decode cX2_put 62 = .ok (.iadd, 1) := by decide +kernel
theorem dX2_put_63 : decode cX2_put 63 = .ok (.putfield 25, 3) := by decide +kernel
theorem dX2_put_66 : decode cX2_put 66 = .ok (.aload_n 0, 1) := by decide +kernel
theorem dX2_put_67 : decode cX2_put 67 = .ok (.dup, 1) := by decide +kernel
theorem dX2_put_68 : decode cX2_put 68 = .ok (.getfield 28, 3) := by decide +kernel
theorem dX2_put_71 : decode cX2_put 71 = .ok (.bipush 9, 2) := by decide +kernel
theorem dX2_put_73 : decode cX2_put 73 = .ok (.iadd, 1) := by decide +kernel
theorem dX2_put_74 : decode cX2_put 74 = .ok (.putfield 28, 3) := by decide +kernel
theorem dX2_put_77 : decode cX2_put 77 = .ok (.goto 9, 3) := by decide +kernel
theorem dX2_put_80 : decode cX2_put 80 = .ok (.aload_n 0, 1) := by decide +kernel
theorem dX2_put_81 : decode cX2_put 81 = .ok (.iload_n 2, 1) := by decide +kernel
theorem dX2_put_82 : decode cX2_put 82 = .ok (.iload_n 3, 1) := by decide +kernel
theorem dX2_put_83 : decode cX2_put 83 = .ok (.invokevirtual 43, 3) := by decide +kernel
theorem dX2_put_86 : decode cX2_put 86 = .ok (.return_, 1) := by decide +kernel
set_option maxRecDepth 20000 in
theorem ggX2_countMatch_X4_gammaBits : GoodIn wsX2_countMatch wsX4_gammaBits := goodIn_r _ [9] (by decide +kernel) (by decide +kernel)
set_option maxRecDepth 20000 in
theorem gX2_countMatch_X4_gammaBits_n47 : GoodIn wsX2_countMatch (wsX4_gammaBits) := ggX2_countMatch_X4_gammaBits
set_option maxRecDepth 20000 in
theorem ggX2_countMatch_X2_remember : GoodIn wsX2_countMatch wsX2_remember := goodIn_r _ [14, 2, 3, 4, 15, 16, 17, 18, 19, 20, 21, 22, 23, 24, 25] (by decide +kernel) (by decide +kernel)
set_option maxRecDepth 20000 in
theorem gX2_countMatch_X2_remember : GoodIn wsX2_countMatch (wsV RX2 51 RX2 yX2_remember wsX2_remember) := goodIn_app (goodIn_of _ (by decide +kernel)) ggX2_countMatch_X2_remember
theorem dX2_countMatch_0 : decode cX2_countMatch 0 = .ok (.iload_n 1, 1) := by decide +kernel
theorem dX2_countMatch_1 : decode cX2_countMatch 1 = .ok (.iconst 2, 1) := by decide +kernel
theorem dX2_countMatch_2 : decode cX2_countMatch 2 = .ok (.isub, 1) := by decide +kernel
theorem dX2_countMatch_3 : decode cX2_countMatch 3 = .ok (.invokestatic 47, 3) := by decide +kernel
theorem dX2_countMatch_6 : decode cX2_countMatch 6 = .ok (.istore_n 3, 1) := by decide +kernel
theorem dX2_countMatch_7 : decode cX2_countMatch 7 = .ok (.iconst 2, 1) := by decide +kernel
theorem dX2_countMatch_8 : decode cX2_countMatch 8 = .ok (.iload_n 3, 1) := by decide +kernel
theorem dX2_countMatch_9 : decode cX2_countMatch 9 = .ok (.iadd, 1) := by decide +kernel
theorem dX2_countMatch_10 : decode cX2_countMatch 10 = .ok (.iload_n 2, 1) := by decide +kernel
theorem dX2_countMatch_11 : decode cX2_countMatch 11 = .ok (.invokestatic 47, 3) := by decide +kernel
theorem dX2_countMatch_14 : decode cX2_countMatch 14 = .ok (.iadd, 1) := by decide +kernel
theorem dX2_countMatch_15 : decode cX2_countMatch 15 = .ok (.istore 4, 2) := by decide +kernel
theorem dX2_countMatch_17 : decode cX2_countMatch 17 = .ok (.aload_n 0, 1) := by decide +kernel
theorem dX2_countMatch_18 : decode cX2_countMatch 18 = .ok (.dup, 1) := by decide +kernel
theorem dX2_countMatch_19 : decode cX2_countMatch 19 = .ok (.getfield 25, 3) := by decide +kernel
theorem dX2_countMatch_22 : decode cX2_countMatch 22 = .ok (.iload 4, 2) := by decide +kernel
theorem dX2_countMatch_24 : decode cX2_countMatch 24 = .ok (.iadd, 1) := by decide +kernel
theorem dX2_countMatch_25 : decode cX2_countMatch 25 = .ok (.putfield 25, 3) := by decide +kernel
theorem dX2_countMatch_28 : decode cX2_countMatch 28 = .ok (.iload_n 2, 1) := by decide +kernel
theorem dX2_countMatch_29 : decode cX2_countMatch 29 = .ok (.aload_n 0, 1) := by decide +kernel
theorem dX2_countMatch_30 : decode cX2_countMatch 30 = .ok (.getfield 34, 3) := by decide +kernel
theorem dX2_countMatch_33 : decode cX2_countMatch 33 = .ok (.if_icmp .eq 19, 3) := by decide +kernel
theorem dX2_countMatch_36 : decode cX2_countMatch 36 = .ok (.iload_n 2, 1) := by decide +kernel
theorem dX2_countMatch_37 : decode cX2_countMatch 37 = .ok (.aload_n 0, 1) := by decide +kernel
theorem dX2_countMatch_38 : decode cX2_countMatch 38 = .ok (.getfield 37, 3) := by decide +kernel
theorem dX2_countMatch_41 : decode cX2_countMatch 41 = .ok (.if_icmp .eq 11, 3) := by decide +kernel
theorem dX2_countMatch_44 : decode cX2_countMatch 44 = .ok (.iload_n 2, 1) := by decide +kernel
theorem dX2_countMatch_45 : decode cX2_countMatch 45 = .ok (.aload_n 0, 1) := by decide +kernel
theorem dX2_countMatch_46 : decode cX2_countMatch 46 = .ok (.getfield 40, 3) := by decide +kernel
theorem dX2_countMatch_49 : decode cX2_countMatch 49 = .ok (.if_icmp .ne 28, 3) := by decide +kernel
theorem dX2_countMatch_52 : decode cX2_countMatch 52 = .ok (.aload_n 0, 1) := by decide +kernel
theorem dX2_countMatch_53 : decode cX2_countMatch 53 = .ok (.dup, 1) := by decide +kernel
theorem dX2_countMatch_54 : decode cX2_countMatch 54 = .ok (.getfield 31, 3) := by decide +kernel
theorem dX2_countMatch_57 : decode cX2_countMatch 57 = .ok (.iconst 1, 1) := by decide +kernel
theorem dX2_countMatch_58 : decode cX2_countMatch 58 = .ok (.iadd, 1) := by decide +kernel
theorem dX2_countMatch_59 : decode cX2_countMatch 59 = .ok (.putfield 31, 3) := by decide +kernel
theorem dX2_countMatch_62 : decode cX2_countMatch 62 = .ok (.aload_n 0, 1) := by decide +kernel
theorem dX2_countMatch_63 : decode cX2_countMatch 63 = .ok (.dup, 1) := by decide +kernel
theorem dX2_countMatch_64 : decode cX2_countMatch 64 = .ok (.getfield 28, 3) := by decide +kernel
theorem dX2_countMatch_67 : decode cX2_countMatch 67 = .ok (.iconst 4, 1) := by decide +kernel
theorem dX2_countMatch_68 : decode cX2_countMatch 68 = .ok (.iload_n 3, 1) := by decide +kernel
theorem dX2_countMatch_69 : decode cX2_countMatch 69 = .ok (.iadd, 1) := by decide +kernel
theorem dX2_countMatch_70 : decode cX2_countMatch 70 = .ok (.iadd, 1) := by decide +kernel
theorem dX2_countMatch_71 : decode cX2_countMatch 71 = .ok (.putfield 28, 3) := by decide +kernel
theorem dX2_countMatch_74 : decode cX2_countMatch 74 = .ok (.goto 14, 3) := by decide +kernel
theorem dX2_countMatch_77 : decode cX2_countMatch 77 = .ok (.aload_n 0, 1) := by decide +kernel
theorem dX2_countMatch_78 : decode cX2_countMatch 78 = .ok (.dup, 1) := by decide +kernel
theorem dX2_countMatch_79 : decode cX2_countMatch 79 = .ok (.getfield 28, 3) := by decide +kernel
theorem dX2_countMatch_82 : decode cX2_countMatch 82 = .ok (.iload 4, 2) := by decide +kernel
theorem dX2_countMatch_84 : decode cX2_countMatch 84 = .ok (.iadd, 1) := by decide +kernel
theorem dX2_countMatch_85 : decode cX2_countMatch 85 = .ok (.putfield 28, 3) := by decide +kernel
theorem dX2_countMatch_88 : decode cX2_countMatch 88 = .ok (.aload_n 0, 1) := by decide +kernel
theorem dX2_countMatch_89 : decode cX2_countMatch 89 = .ok (.iload_n 2, 1) := by decide +kernel
theorem dX2_countMatch_90 : decode cX2_countMatch 90 = .ok (.invokevirtual 51, 3) := by decide +kernel
theorem dX2_countMatch_93 : decode cX2_countMatch 93 = .ok (.return_, 1) := by decide +kernel
theorem dX2_remember_0 : decode cX2_remember 0 = .ok (.iload_n 1, 1) := by decide +kernel
theorem dX2_remember_1 : decode cX2_remember 1 = .ok (.aload_n 0, 1) := by decide +kernel
theorem dX2_remember_2 : decode cX2_remember 2 = .ok (.getfield 34, 3) := by decide +kernel
theorem dX2_remember_5 : decode cX2_remember 5 = .ok (.if_icmp .ne 4, 3) := by decide +kernel
theorem dX2_remember_8 : decode cX2_remember 8 = .ok (.return_, 1) := by decide +kernel
theorem dX2_remember_9 : decode cX2_remember 9 = .ok (.iload_n 1, 1) := by decide +kernel
theorem dX2_remember_10 : decode cX2_remember 10 = .ok (.aload_n 0, 1) := by decide +kernel
theorem dX2_remember_11 : decode cX2_remember 11 = .ok (.getfield 37, 3) := by decide +kernel
theorem dX2_remember_14 : decode cX2_remember 14 = .ok (.if_icmp .eq 11, 3) := by decide +kernel
theorem dX2_remember_17 : decode cX2_remember 17 = .ok (.aload_n 0, 1) := by decide +kernel
theorem dX2_remember_18 : decode cX2_remember 18 = .ok (.aload_n 0, 1) := by decide +kernel
theorem dX2_remember_19 : decode cX2_remember 19 = .ok (.getfield 37, 3) := by decide +kernel
theorem dX2_remember_22 : decode cX2_remember 22 = .ok (.putfield 40, 3) := by decide +kernel
theorem dX2_remember_25 : decode cX2_remember 25 = .ok (.aload_n 0, 1) := by decide +kernel
theorem dX2_remember_26 : decode cX2_remember 26 = .ok (.aload_n 0, 1) := by decide +kernel
theorem dX2_remember_27 : decode cX2_remember 27 = .ok (.getfield 34, 3) := by decide +kernel
theorem dX2_remember_30 : decode cX2_remember 30 = .ok (.putfield 37, 3) := by decide +kernel
theorem dX2_remember_33 : decode cX2_remember 33 = .ok (.aload_n 0, 1) := by decide +kernel
theorem dX2_remember_34 : decode cX2_remember 34 = .ok (.iload_n 1, 1) := by decide +kernel
theorem dX2_remember_35 : decode cX2_remember 35 = .ok (.putfield 34, 3) := by decide +kernel
theorem dX2_remember_38 : decode cX2_remember 38 = .ok (.return_, 1) := by decide +kernel
theorem dX3_init_0 : decode cX3_init 0 = .ok (.aload_n 0, 1) := by decide +kernel
theorem dX3_init_1 : decode cX3_init 1 = .ok (.invokespecial 3, 3) := by decide +kernel
theorem dX3_init_4 : decode cX3_init 4 = .ok (.aload_n 0, 1) := by decide +kernel
theorem dX3_init_5 : decode cX3_init 5 = .ok (.sipush 360, 3) := by decide +kernel
theorem dX3_init_8 : decode cX3_init 8 = .ok (.newarray .int, 2) := by decide +kernel
theorem dX3_init_10 : decode cX3_init 10 = .ok (.putfield 9, 3) := by decide +kernel
theorem dX3_init_13 : decode cX3_init 13 = .ok (.return_, 1) := by decide +kernel
theorem dX3_put_0 : decode cX3_put 0 = .ok (.aload_n 0, 1) := by decide +kernel
theorem dX3_put_1 : decode cX3_put 1 = .ok (.getfield 15, 3) := by decide +kernel
theorem dX3_put_4 : decode cX3_put 4 = .ok (.sipush 300, 3) := by decide +kernel
theorem dX3_put_7 : decode cX3_put 7 = .ok (.if_icmp .ge 28, 3) := by decide +kernel
theorem dX3_put_10 : decode cX3_put 10 = .ok (.aload_n 0, 1) := by decide +kernel
theorem dX3_put_11 : decode cX3_put 11 = .ok (.getfield 9, 3) := by decide +kernel
theorem dX3_put_14 : decode cX3_put 14 = .ok (.aload_n 0, 1) := by decide +kernel
theorem dX3_put_15 : decode cX3_put 15 = .ok (.getfield 19, 3) := by decide +kernel
theorem dX3_put_18 : decode cX3_put 18 = .ok (.aload_n 0, 1) := by decide +kernel
theorem dX3_put_19 : decode cX3_put 19 = .ok (.getfield 15, 3) := by decide +kernel
theorem dX3_put_22 : decode cX3_put 22 = .ok (.iadd, 1) := by decide +kernel
theorem dX3_put_23 : decode cX3_put 23 = .ok (.iload_n 1, 1) := by decide +kernel
theorem dX3_put_24 : decode cX3_put 24 = .ok (.iastore, 1) := by decide +kernel
theorem dX3_put_25 : decode cX3_put 25 = .ok (.aload_n 0, 1) := by decide +kernel
theorem dX3_put_26 : decode cX3_put 26 = .ok (.dup, 1) := by decide +kernel
theorem dX3_put_27 : decode cX3_put 27 = .ok (.getfield 15, 3) := by decide +kernel
theorem dX3_put_30 : decode cX3_put 30 = .ok (.iconst 1, 1) := by decide +kernel
theorem dX3_put_31 : decode cX3_put 31 = .ok (.iadd, 1) := by decide +kernel
theorem dX3_put_32 : decode cX3_put 32 = .ok (.putfield 15, 3) := by decide +kernel
theorem dX3_put_35 : decode cX3_put 35 = .ok (.return_, 1) := by decide +kernel
theorem dX3_becomeDictionary_0 : decode cX3_becomeDictionary 0 = .ok (.bipush 60, 2) := by decide +kernel
theorem dX3_becomeDictionary_2 : decode cX3_becomeDictionary 2 = .ok (.aload_n 0, 1) := by decide +kernel
theorem dX3_becomeDictionary_3 : decode cX3_becomeDictionary 3 = .ok (.getfield 15, 3) := by decide +kernel
theorem dX3_becomeDictionary_6 : decode cX3_becomeDictionary 6 = .ok (.invokestatic 22, 3) := by decide +kernel
theorem dX3_becomeDictionary_9 : decode cX3_becomeDictionary 9 = .ok (.istore_n 1, 1) := by decide +kernel
theorem dX3_becomeDictionary_10 : decode cX3_becomeDictionary 10 = .ok (.aload_n 0, 1) := by decide +kernel
theorem dX3_becomeDictionary_11 : decode cX3_becomeDictionary 11 = .ok (.getfield 19, 3) := by decide +kernel
theorem dX3_becomeDictionary_14 : decode cX3_becomeDictionary 14 = .ok (.aload_n 0, 1) := by decide +kernel
theorem dX3_becomeDictionary_15 : decode cX3_becomeDictionary 15 = .ok (.getfield 15, 3) := by decide +kernel
theorem dX3_becomeDictionary_18 : decode cX3_becomeDictionary 18 = .ok (.iadd, 1) := by decide +kernel
theorem dX3_becomeDictionary_19 : decode cX3_becomeDictionary 19 = .ok (.iload_n 1, 1) := by decide +kernel
theorem dX3_becomeDictionary_20 : decode cX3_becomeDictionary 20 = .ok (.isub, 1) := by decide +kernel
theorem dX3_becomeDictionary_21 : decode cX3_becomeDictionary 21 = .ok (.istore_n 2, 1) := by decide +kernel
theorem dX3_becomeDictionary_22 : decode cX3_becomeDictionary 22 = .ok (.iconst 0, 1) := by decide +kernel
theorem dX3_becomeDictionary_23 : decode cX3_becomeDictionary 23 = .ok (.istore_n 3, 1) := by decide +kernel
theorem dX3_becomeDictionary_24 : decode cX3_becomeDictionary 24 = .ok (.iload_n 3, 1) := by decide +kernel
theorem dX3_becomeDictionary_25 : decode cX3_becomeDictionary 25 = .ok (.iload_n 1, 1) := by decide +kernel
theorem dX3_becomeDictionary_26 : decode cX3_becomeDictionary 26 = .ok (.if_icmp .ge 23, 3) := by decide +kernel
theorem dX3_becomeDictionary_29 : decode cX3_becomeDictionary 29 = .ok (.aload_n 0, 1) := by decide +kernel
theorem dX3_becomeDictionary_30 : decode cX3_becomeDictionary 30 = .ok (.getfield 9, 3) := by decide +kernel
theorem dX3_becomeDictionary_33 : decode cX3_becomeDictionary 33 = .ok (.iload_n 3, 1) := by decide +kernel
theorem dX3_becomeDictionary_34 : decode cX3_becomeDictionary 34 = .ok (.aload_n 0, 1) := by decide +kernel
theorem dX3_becomeDictionary_35 : decode cX3_becomeDictionary 35 = .ok (.getfield 9, 3) := by decide +kernel
theorem dX3_becomeDictionary_38 : decode cX3_becomeDictionary 38 = .ok (.iload_n 2, 1) := by decide +kernel
theorem dX3_becomeDictionary_39 : decode cX3_becomeDictionary 39 = .ok (.iload_n 3, 1) := by decide +kernel
theorem dX3_becomeDictionary_40 : decode cX3_becomeDictionary 40 = .ok (.iadd, 1) := by decide +kernel
theorem dX3_becomeDictionary_41 : decode cX3_becomeDictionary 41 = .ok (.iaload, 1) := by decide +kernel
theorem dX3_becomeDictionary_42 : decode cX3_becomeDictionary 42 = .ok (.iastore, 1) := by decide +kernel
theorem dX3_becomeDictionary_43 : decode cX3_becomeDictionary 43 = .ok (.iinc 3 1, 3) := by decide +kernel
theorem dX3_becomeDictionary_46 : decode cX3_becomeDictionary 46 = .ok (.goto (-22), 3) := by decide +kernel
theorem dX3_becomeDictionary_49 : decode cX3_becomeDictionary 49 = .ok (.aload_n 0, 1) := by decide +kernel
theorem dX3_becomeDictionary_50 : decode cX3_becomeDictionary 50 = .ok (.iload_n 1, 1) := by decide +kernel
theorem dX3_becomeDictionary_51 : decode cX3_becomeDictionary 51 = .ok (.putfield 19, 3) := by decide +kernel
theorem dX3_becomeDictionary_54 : decode cX3_becomeDictionary 54 = .ok (.aload_n 0, 1) := by decide +kernel
theorem dX3_becomeDictionary_55 : decode cX3_becomeDictionary 55 = .ok (.iconst 0, 1) := by decide +kernel
theorem dX3_becomeDictionary_56 : decode cX3_becomeDictionary 56 = .ok (.putfield 15, 3) := by decide +kernel
theorem dX3_becomeDictionary_59 : decode cX3_becomeDictionary 59 = .ok (.return_, 1) := by decide +kernel
theorem dX3_at_0 : decode cX3_at 0 = .ok (.iload_n 1, 1) := by decide +kernel
theorem dX3_at_1 : decode cX3_at 1 = .ok (.aload_n 0, 1) := by decide +kernel
theorem dX3_at_2 : decode cX3_at 2 = .ok (.getfield 19, 3) := by decide +kernel
theorem dX3_at_5 : decode cX3_at 5 = .ok (.ineg, 1) := by decide +kernel
theorem dX3_at_6 : decode cX3_at 6 = .ok (.if_icmp .lt 25, 3) := by decide +kernel
theorem dX3_at_9 : decode cX3_at 9 = .ok (.iload_n 1, 1) := by decide +kernel
theorem dX3_at_10 : decode cX3_at 10 = .ok (.aload_n 0, 1) := by decide +kernel
theorem dX3_at_11 : decode cX3_at 11 = .ok (.getfield 15, 3) := by decide +kernel
theorem dX3_at_14 : decode cX3_at 14 = .ok (.if_icmp .ge 17, 3) := by decide +kernel
theorem dX3_at_17 : decode cX3_at 17 = .ok (.aload_n 0, 1) := by decide +kernel
theorem dX3_at_18 : decode cX3_at 18 = .ok (.getfield 9, 3) := by decide +kernel
theorem dX3_at_21 : decode cX3_at 21 = .ok (.aload_n 0, 1) := by decide +kernel
theorem dX3_at_22 : decode cX3_at 22 = .ok (.getfield 19, 3) := by decide +kernel
theorem dX3_at_25 : decode cX3_at 25 = .ok (.iload_n 1, 1) := by decide +kernel
theorem dX3_at_26 : decode cX3_at 26 = .ok (.iadd, 1) := by decide +kernel
theorem dX3_at_27 : decode cX3_at 27 = .ok (.iaload, 1) := by decide +kernel
theorem dX3_at_28 : decode cX3_at 28 = .ok (.goto 4, 3) := by decide +kernel
theorem dX3_at_31 : decode cX3_at 31 = .ok (.iconst (-1), 1) := by decide +kernel
theorem dX3_at_32 : decode cX3_at 32 = .ok (.ireturn, 1) := by decide +kernel
theorem dX3_farthest_0 : decode cX3_farthest 0 = .ok (.aload_n 0, 1) := by decide +kernel
theorem dX3_farthest_1 : decode cX3_farthest 1 = .ok (.getfield 19, 3) := by decide +kernel
theorem dX3_farthest_4 : decode cX3_farthest 4 = .ok (.iload_n 1, 1) := by decide +kernel
theorem dX3_farthest_5 : decode cX3_farthest 5 = .ok (.iadd, 1) := by decide +kernel
theorem dX3_farthest_6 : decode cX3_farthest 6 = .ok (.ireturn, 1) := by decide +kernel
theorem dX3_mostLength_0 : decode cX3_mostLength 0 = .ok (.bipush 40, 2) := by decide +kernel
theorem dX3_mostLength_2 : decode cX3_mostLength 2 = .ok (.aload_n 0, 1) := by decide +kernel
theorem dX3_mostLength_3 : decode cX3_mostLength 3 = .ok (.getfield 15, 3) := by decide +kernel
theorem dX3_mostLength_6 : decode cX3_mostLength 6 = .ok (.iload_n 1, 1) := by decide +kernel
theorem dX3_mostLength_7 : decode cX3_mostLength 7 = .ok (.isub, 1) := by decide +kernel
theorem dX3_mostLength_8 : decode cX3_mostLength 8 = .ok (.invokestatic 22, 3) := by decide +kernel
theorem dX3_mostLength_11 : decode cX3_mostLength 11 = .ok (.ireturn, 1) := by decide +kernel
theorem dX3_reach_0 : decode cX3_reach 0 = .ok (.aload_n 0, 1) := by decide +kernel
theorem dX3_reach_1 : decode cX3_reach 1 = .ok (.getfield 19, 3) := by decide +kernel
theorem dX3_reach_4 : decode cX3_reach 4 = .ok (.iload_n 1, 1) := by decide +kernel
theorem dX3_reach_5 : decode cX3_reach 5 = .ok (.iadd, 1) := by decide +kernel
theorem dX3_reach_6 : decode cX3_reach 6 = .ok (.istore 4, 2) := by decide +kernel
theorem dX3_reach_8 : decode cX3_reach 8 = .ok (.iload 4, 2) := by decide +kernel
theorem dX3_reach_10 : decode cX3_reach 10 = .ok (.iload_n 2, 1) := by decide +kernel
theorem dX3_reach_11 : decode cX3_reach 11 = .ok (.isub, 1) := by decide +kernel
theorem dX3_reach_12 : decode cX3_reach 12 = .ok (.istore 5, 2) := by decide +kernel
theorem dX3_reach_14 : decode cX3_reach 14 = .ok (.iload 5, 2) := by decide +kernel
theorem dX3_reach_16 : decode cX3_reach 16 = .ok (.ifCond .lt 22, 3) := by decide +kernel
theorem dX3_reach_19 : decode cX3_reach 19 = .ok (.iload 5, 2) := by decide +kernel
theorem dX3_reach_21 : decode cX3_reach 21 = .ok (.iload 4, 2) := by decide +kernel
theorem dX3_reach_23 : decode cX3_reach 23 = .ok (.if_icmp .ge 15, 3) := by decide +kernel
theorem dX3_reach_26 : decode cX3_reach 26 = .ok (.iload 4, 2) := by decide +kernel
theorem dX3_reach_28 : decode cX3_reach 28 = .ok (.iload_n 3, 1) := by decide +kernel
theorem dX3_reach_29 : decode cX3_reach 29 = .ok (.iadd, 1) := by decide +kernel
theorem dX3_reach_30 : decode cX3_reach 30 = .ok (.aload_n 0, 1) := by decide +kernel
theorem dX3_reach_31 : decode cX3_reach 31 = .ok (.getfield 9, 3) := by decide +kernel
theorem dX3_reach_34 : decode cX3_reach 34 = .ok (.arraylength, 1) := by decide +kernel
theorem dX3_reach_35 : decode cX3_reach 35 = .ok (.if_icmp .le 5, 3) := by decide +kernel
theorem dX3_reach_38 : decode cX3_reach 38 = .ok (.iconst 0, 1) := by decide +kernel
theorem dX3_reach_39 : decode cX3_reach 39 = .ok (.ireturn, 1) := by decide +kernel
theorem dX3_reach_40 : decode cX3_reach 40 = .ok (.iconst 0, 1) := by decide +kernel
theorem dX3_reach_41 : decode cX3_reach 41 = .ok (.istore 6, 2) := by decide +kernel
theorem dX3_reach_43 : decode cX3_reach 43 = .ok (.iload 6, 2) := by decide +kernel
theorem dX3_reach_45 : decode cX3_reach 45 = .ok (.iload_n 3, 1) := by decide +kernel
theorem dX3_reach_46 : decode cX3_reach 46 = .ok (.if_icmp .ge 32, 3) := by decide +kernel
theorem dX3_reach_49 : decode cX3_reach 49 = .ok (.aload_n 0, 1) := by decide +kernel
theorem dX3_reach_50 : decode cX3_reach 50 = .ok (.getfield 9, 3) := by decide +kernel
theorem dX3_reach_53 : decode cX3_reach 53 = .ok (.iload 4, 2) := by decide +kernel
theorem dX3_reach_55 : decode cX3_reach 55 = .ok (.iload 6, 2) := by decide +kernel
theorem dX3_reach_57 : decode cX3_reach 57 = .ok (.iadd, 1) := by decide +kernel
theorem dX3_reach_58 : decode cX3_reach 58 = .ok (.iaload, 1) := by decide +kernel
theorem dX3_reach_59 : decode cX3_reach 59 = .ok (.aload_n 0, 1) := by decide +kernel
theorem dX3_reach_60 : decode cX3_reach 60 = .ok (.getfield 9, 3) := by decide +kernel
theorem dX3_reach_63 : decode cX3_reach 63 = .ok (.iload 5, 2) := by decide +kernel
theorem dX3_reach_65 : decode cX3_reach 65 = .ok (.iload 6, 2) := by decide +kernel
theorem dX3_reach_67 : decode cX3_reach 67 = .ok (.iadd, 1) := by decide +kernel
theorem dX3_reach_68 : decode cX3_reach 68 = .ok (.iaload, 1) := by decide +kernel
theorem dX3_reach_69 : decode cX3_reach 69 = .ok (.if_icmp .ne 9, 3) := by decide +kernel
theorem dX3_reach_72 : decode cX3_reach 72 = .ok (.iinc 6 1, 3) := by decide +kernel
theorem dX3_reach_75 : decode cX3_reach 75 = .ok (.goto (-32), 3) := by decide +kernel
theorem dX3_reach_78 : decode cX3_reach 78 = .ok (.iload 6, 2) := by decide +kernel
theorem dX3_reach_80 : decode cX3_reach 80 = .ok (.ireturn, 1) := by decide +kernel
set_option maxRecDepth 20000 in
theorem ggX4_init_X3_init : GoodIn wsX4_init wsX3_init := goodIn_r _ [21, 22, 2, 3, 23, 24, 57, 58, 59] (by decide +kernel) (by decide +kernel)
set_option maxRecDepth 20000 in
theorem gX4_init_X3_init_n11 : GoodIn wsX4_init (wsX3_init) := ggX4_init_X3_init
set_option maxRecDepth 20000 in
theorem ggX4_init_X4_nearest : GoodIn wsX4_init wsX4_nearest := goodIn_r _ [28, 29, 30, 31, 32, 33, 34, 35] (by decide +kernel) (by decide +kernel)
set_option maxRecDepth 20000 in
theorem gX4_init_X4_nearest : GoodIn wsX4_init (va_wsS RX4 18 yX4_nearest wsX4_nearest) := goodIn_app (goodIn_of _ (by decide +kernel)) ggX4_init_X4_nearest
set_option maxRecDepth 20000 in
theorem ggX4_init_X0_init : GoodIn wsX4_init wsX0_init := goodIn_r _ [38, 39, 2, 3, 23, 40, 41, 42, 43, 44, 64, 65, 66, 67, 68, 69, 70, 71] (by decide +kernel) (by decide +kernel)
set_option maxRecDepth 20000 in
theorem gX4_init_X0_init : GoodIn wsX4_init (wsX0_init) := ggX4_init_X0_init
set_option maxRecDepth 20000 in
theorem ggX4_init_X1_init : GoodIn wsX4_init wsX1_init := goodIn_r _ [46, 47, 2, 3, 23, 48, 49, 50, 72, 73, 74] (by decide +kernel) (by decide +kernel)
set_option maxRecDepth 20000 in
theorem gX4_init_X1_init_n31 : GoodIn wsX4_init (wsX1_init) := ggX4_init_X1_init
set_option maxRecDepth 20000 in
theorem ggX4_init_X2_init : GoodIn wsX4_init wsX2_init := goodIn_r _ [52, 53, 2, 3, 23, 54, 55, 56, 75, 76, 77, 78, 79, 80, 81, 82, 83, 84, 85] (by decide +kernel) (by decide +kernel)
set_option maxRecDepth 20000 in
theorem gX4_init_X2_init_n42 : GoodIn wsX4_init (wsX2_init) := ggX4_init_X2_init
theorem dX4_init_0 : decode cX4_init 0 = .ok (.aload_n 0, 1) := by decide +kernel
theorem dX4_init_1 : decode cX4_init 1 = .ok (.invokespecial 3, 3) := by decide +kernel
theorem dX4_init_4 : decode cX4_init 4 = .ok (.aload_n 0, 1) := by decide +kernel
theorem dX4_init_5 : decode cX4_init 5 = .ok (.new 9, 3) := by decide +kernel
theorem dX4_init_8 : decode cX4_init 8 = .ok (.dup, 1) := by decide +kernel
theorem dX4_init_9 : decode cX4_init 9 = .ok (.invokespecial 11, 3) := by decide +kernel
theorem dX4_init_12 : decode cX4_init 12 = .ok (.putfield 12, 3) := by decide +kernel
theorem dX4_init_15 : decode cX4_init 15 = .ok (.aload_n 0, 1) := by decide +kernel
theorem dX4_init_16 : decode cX4_init 16 = .ok (.new 16, 3) := by decide +kernel
theorem dX4_init_19 : decode cX4_init 19 = .ok (.dup, 1) := by decide +kernel
theorem dX4_init_20 : decode cX4_init 20 = .ok (.aload_n 0, 1) := by decide +kernel
theorem dX4_init_21 : decode cX4_init 21 = .ok (.getfield 12, 3) := by decide +kernel
theorem dX4_init_24 : decode cX4_init 24 = .ok (.iload_n 1, 1) := by decide +kernel
theorem dX4_init_25 : decode cX4_init 25 = .ok (.sipush 300, 3) := by decide +kernel
theorem dX4_init_28 : decode cX4_init 28 = .ok (.invokestatic 18, 3) := by decide +kernel
theorem dX4_init_31 : decode cX4_init 31 = .ok (.iload_n 2, 1) := by decide +kernel
theorem dX4_init_32 : decode cX4_init 32 = .ok (.bipush 64, 2) := by decide +kernel
theorem dX4_init_34 : decode cX4_init 34 = .ok (.invokestatic 18, 3) := by decide +kernel
theorem dX4_init_37 : decode cX4_init 37 = .ok (.invokespecial 22, 3) := by decide +kernel
theorem dX4_init_40 : decode cX4_init 40 = .ok (.putfield 25, 3) := by decide +kernel
theorem dX4_init_43 : decode cX4_init 43 = .ok (.aload_n 0, 1) := by decide +kernel
theorem dX4_init_44 : decode cX4_init 44 = .ok (.new 29, 3) := by decide +kernel
theorem dX4_init_47 : decode cX4_init 47 = .ok (.dup, 1) := by decide +kernel
theorem dX4_init_48 : decode cX4_init 48 = .ok (.invokespecial 31, 3) := by decide +kernel
theorem dX4_init_51 : decode cX4_init 51 = .ok (.putfield 32, 3) := by decide +kernel
theorem dX4_init_54 : decode cX4_init 54 = .ok (.aload_n 0, 1) := by decide +kernel
theorem dX4_init_55 : decode cX4_init 55 = .ok (.iconst 4, 1) := by decide +kernel
theorem dX4_init_56 : decode cX4_init 56 = .ok (.anewarray 36, 3) := by decide +kernel
theorem dX4_init_59 : decode cX4_init 59 = .ok (.putfield 38, 3) := by decide +kernel
theorem dX4_init_62 : decode cX4_init 62 = .ok (.iconst 0, 1) := by decide +kernel
theorem dX4_init_63 : decode cX4_init 63 = .ok (.istore_n 3, 1) := by decide +kernel
theorem dX4_init_64 : decode cX4_init 64 = .ok (.iload_n 3, 1) := by decide +kernel
theorem dX4_init_65 : decode cX4_init 65 = .ok (.iconst 4, 1) := by decide +kernel
theorem dX4_init_66 : decode cX4_init 66 = .ok (.if_icmp .ge 22, 3) := by decide +kernel
theorem dX4_init_69 : decode cX4_init 69 = .ok (.aload_n 0, 1) := by decide +kernel
theorem dX4_init_70 : decode cX4_init 70 = .ok (.getfield 38, 3) := by decide +kernel
theorem dX4_init_73 : decode cX4_init 73 = .ok (.iload_n 3, 1) := by decide +kernel
theorem dX4_init_74 : decode cX4_init 74 = .ok (.new 36, 3) := by decide +kernel
theorem dX4_init_77 : decode cX4_init 77 = .ok (.dup, 1) := by decide +kernel
theorem dX4_init_78 : decode cX4_init 78 = .ok (.invokespecial 42, 3) := by decide +kernel
theorem dX4_init_81 : decode cX4_init 81 = .ok (.aastore, 1) := by decide +kernel
theorem dX4_init_82 : decode cX4_init 82 = .ok (.iinc 3 1, 3) := by decide +kernel
theorem dX4_init_85 : decode cX4_init 85 = .ok (.goto (-21), 3) := by decide +kernel
theorem dX4_init_88 : decode cX4_init 88 = .ok (.return_, 1) := by decide +kernel
set_option maxRecDepth 20000 in
theorem ggX4_add_X3_put : GoodIn wsX4_add wsX3_put := goodIn_r _ [7, 8, 9, 10, 22, 23, 24] (by decide +kernel) (by decide +kernel)
set_option maxRecDepth 20000 in
theorem gX4_add_X3_put : GoodIn wsX4_add (wsV RX4 47 RX3 yX3_put wsX3_put) := goodIn_app (goodIn_of _ (by decide +kernel)) ggX4_add_X3_put
set_option maxRecDepth 20000 in
theorem ggX4_add_X4_forgetRows : GoodIn wsX4_add wsX4_forgetRows := goodIn_r _ [15, 16, 17, 18, 19, 20, 21, 25, 26, 27, 28, 29, 30, 31, 32, 33, 34, 35] (by decide +kernel) (by decide +kernel)
set_option maxRecDepth 20000 in
theorem gX4_add_X4_forgetRows : GoodIn wsX4_add (wsV RX4 51 RX4 yX4_forgetRows wsX4_forgetRows) := goodIn_app (goodIn_of _ (by decide +kernel)) ggX4_add_X4_forgetRows
theorem dX4_add_0 : decode cX4_add 0 = .ok (.iload_n 1, 1) := by decide +kernel
theorem dX4_add_1 : decode cX4_add 1 = .ok (.ifCond .lt 10, 3) := by decide +kernel
theorem dX4_add_4 : decode cX4_add 4 = .ok (.iload_n 1, 1) := by decide +kernel
theorem dX4_add_5 : decode cX4_add 5 = .ok (.sipush 255, 3) := by decide +kernel
theorem dX4_add_8 : decode cX4_add 8 = .ok (.if_icmp .le 6, 3) := by decide +kernel
theorem dX4_add_11 : decode cX4_add 11 = .ok (.bipush (-2), 2) := by decide +kernel
theorem dX4_add_13 : decode cX4_add 13 = .ok (.ireturn, 1) := by decide +kernel
theorem dX4_add_14 : decode cX4_add 14 = .ok (.aload_n 0, 1) := by decide +kernel
theorem dX4_add_15 : decode cX4_add 15 = .ok (.getfield 12, 3) := by decide +kernel
theorem dX4_add_18 : decode cX4_add 18 = .ok (.getfield 43, 3) := by decide +kernel
theorem dX4_add_21 : decode cX4_add 21 = .ok (.sipush 300, 3) := by decide +kernel
theorem dX4_add_24 : decode cX4_add 24 = .ok (.if_icmp .lt 6, 3) := by decide +kernel
theorem dX4_add_27 : decode cX4_add 27 = .ok (.bipush (-4), 2) := by decide +kernel
theorem dX4_add_29 : decode cX4_add 29 = .ok (.ireturn, 1) := by decide +kernel
theorem dX4_add_30 : decode cX4_add 30 = .ok (.aload_n 0, 1) := by decide +kernel
theorem dX4_add_31 : decode cX4_add 31 = .ok (.getfield 12, 3) := by decide +kernel
theorem dX4_add_34 : decode cX4_add 34 = .ok (.iload_n 1, 1) := by decide +kernel
theorem dX4_add_35 : decode cX4_add 35 = .ok (.invokevirtual 47, 3) := by decide +kernel
theorem dX4_add_38 : decode cX4_add 38 = .ok (.aload_n 0, 1) := by decide +kernel
theorem dX4_add_39 : decode cX4_add 39 = .ok (.invokevirtual 51, 3) := by decide +kernel
theorem dX4_add_42 : decode cX4_add 42 = .ok (.aload_n 0, 1) := by decide +kernel
theorem dX4_add_43 : decode cX4_add 43 = .ok (.getfield 12, 3) := by decide +kernel
theorem dX4_add_46 : decode cX4_add 46 = .ok (.getfield 43, 3) := by decide +kernel
theorem dX4_add_49 : decode cX4_add 49 = .ok (.ireturn, 1) := by decide +kernel
set_option maxRecDepth 20000 in
theorem ggX4_fill_X4_filling : GoodIn wsX4_fill wsX4_filling := goodIn_r _ [8, 1, 2, 9, 10, 11, 12, 13, 14, 15, 16, 27, 28, 29, 30, 31, 32, 33] (by decide +kernel) (by decide +kernel)
set_option maxRecDepth 20000 in
theorem gX4_fill_X4_filling : GoodIn wsX4_fill (wsV RX4 55 RX4 yX4_filling wsX4_filling) := goodIn_app (goodIn_of _ (by decide +kernel)) ggX4_fill_X4_filling
set_option maxRecDepth 20000 in
theorem ggX4_fill_X3_put : GoodIn wsX4_fill wsX3_put := goodIn_r _ [20, 15, 16, 14, 31, 32, 33] (by decide +kernel) (by decide +kernel)
set_option maxRecDepth 20000 in
theorem gX4_fill_X3_put : GoodIn wsX4_fill (wsV RX4 47 RX3 yX3_put wsX3_put) := goodIn_app (goodIn_of _ (by decide +kernel)) ggX4_fill_X3_put
set_option maxRecDepth 20000 in
theorem ggX4_fill_X4_forgetRows : GoodIn wsX4_fill wsX4_forgetRows := goodIn_r _ [24, 25, 26, 27, 28, 29, 30, 34, 35, 36, 37, 38, 39, 40, 41, 42, 43, 44] (by decide +kernel) (by decide +kernel)
set_option maxRecDepth 20000 in
theorem gX4_fill_X4_forgetRows : GoodIn wsX4_fill (wsV RX4 51 RX4 yX4_forgetRows wsX4_forgetRows) := goodIn_app (goodIn_of _ (by decide +kernel)) ggX4_fill_X4_forgetRows
theorem dX4_fill_0 : decode cX4_fill 0 = .ok (.iload_n 1, 1) := by decide +kernel
theorem dX4_fill_1 : decode cX4_fill 1 = .ok (.iconst 1, 1) := by decide +kernel
theorem dX4_fill_2 : decode cX4_fill 2 = .ok (.if_icmp .lt 19, 3) := by decide +kernel
theorem dX4_fill_5 : decode cX4_fill 5 = .ok (.iload_n 1, 1) := by decide +kernel
theorem dX4_fill_6 : decode cX4_fill 6 = .ok (.sipush 300, 3) := by decide +kernel
theorem dX4_fill_9 : decode cX4_fill 9 = .ok (.if_icmp .gt 12, 3) := by decide +kernel
theorem dX4_fill_12 : decode cX4_fill 12 = .ok (.iload_n 3, 1) := by decide +kernel
theorem dX4_fill_13 : decode cX4_fill 13 = .ok (.ifCond .lt 8, 3) := by decide +kernel
theorem dX4_fill_16 : decode cX4_fill 16 = .ok (.iload_n 3, 1) := by decide +kernel
theorem dX4_fill_17 : decode cX4_fill 17 = .ok (.iconst 2, 1) := by decide +kernel
theorem dX4_fill_18 : decode cX4_fill 18 = .ok (.if_icmp .le 6, 3) := by decide +kernel
theorem dX4_fill_21 : decode cX4_fill 21 = .ok (.bipush (-2), 2) := by decide +kernel
theorem dX4_fill_23 : decode cX4_fill 23 = .ok (.ireturn, 1) := by decide +kernel
theorem dX4_fill_24 : decode cX4_fill 24 = .ok (.iload_n 1, 1) := by decide +kernel
theorem dX4_fill_25 : decode cX4_fill 25 = .ok (.sipush 300, 3) := by decide +kernel
theorem dX4_fill_28 : decode cX4_fill 28 = .ok (.aload_n 0, 1) := by decide +kernel
theorem dX4_fill_29 : decode cX4_fill 29 = .ok (.getfield 12, 3) := by decide +kernel
theorem dX4_fill_32 : decode cX4_fill 32 = .ok (.getfield 43, 3) := by decide +kernel
theorem dX4_fill_35 : decode cX4_fill 35 = .ok (.isub, 1) := by decide +kernel
theorem dX4_fill_36 : decode cX4_fill 36 = .ok (.if_icmp .le 6, 3) := by decide +kernel
theorem dX4_fill_39 : decode cX4_fill 39 = .ok (.bipush (-4), 2) := by decide +kernel
theorem dX4_fill_41 : decode cX4_fill 41 = .ok (.ireturn, 1) := by decide +kernel
theorem dX4_fill_42 : decode cX4_fill 42 = .ok (.iconst 1, 1) := by decide +kernel
theorem dX4_fill_43 : decode cX4_fill 43 = .ok (.iload_n 2, 1) := by decide +kernel
theorem dX4_fill_44 : decode cX4_fill 44 = .ok (.bipush 27, 2) := by decide +kernel
theorem dX4_fill_46 : decode cX4_fill 46 = .ok (.iushr, 1) := by decide +kernel
theorem dX4_fill_47 : decode cX4_fill 47 = .ok (.iadd, 1) := by decide +kernel
theorem dX4_fill_48 : decode cX4_fill 48 = .ok (.istore 4, 2) := by decide +kernel
theorem dX4_fill_50 : decode cX4_fill 50 = .ok (.iload_n 2, 1) := by decide +kernel
theorem dX4_fill_51 : decode cX4_fill 51 = .ok (.istore 5, 2) := by decide +kernel
theorem dX4_fill_53 : decode cX4_fill 53 = .ok (.iconst 0, 1) := by decide +kernel
theorem dX4_fill_54 : decode cX4_fill 54 = .ok (.istore 6, 2) := by decide +kernel
theorem dX4_fill_56 : decode cX4_fill 56 = .ok (.iload 6, 2) := by decide +kernel
theorem dX4_fill_58 : decode cX4_fill 58 = .ok (.iload_n 1, 1) := by decide +kernel
theorem dX4_fill_59 : decode cX4_fill 59 = .ok (.if_icmp .ge 39, 3) := by decide +kernel
theorem dX4_fill_62 : decode cX4_fill 62 = .ok (.iload 5, 2) := by decide +kernel
theorem dX4_fill_64 : decode cX4_fill 64 = .ok (.ldc 54, 2) := by decide +kernel
theorem dX4_fill_66 : decode cX4_fill 66 = .ok (.imul, 1) := by decide +kernel
theorem dX4_fill_67 : decode cX4_fill 67 = .ok (.sipush 12345, 3) := by decide +kernel
theorem dX4_fill_70 : decode cX4_fill 70 = .ok (.iadd, 1) := by decide +kernel
theorem dX4_fill_71 : decode cX4_fill 71 = .ok (.istore 5, 2) := by decide +kernel
theorem dX4_fill_73 : decode cX4_fill 73 = .ok (.aload_n 0, 1) := by decide +kernel
theorem dX4_fill_74 : decode cX4_fill 74 = .ok (.getfield 12, 3) := by decide +kernel
theorem dX4_fill_77 : decode cX4_fill 77 = .ok (.aload_n 0, 1) := by decide +kernel
theorem dX4_fill_78 : decode cX4_fill 78 = .ok (.iload 5, 2) := by decide +kernel
theorem dX4_fill_80 : decode cX4_fill 80 = .ok (.bipush 16, 2) := by decide +kernel
theorem dX4_fill_82 : decode cX4_fill 82 = .ok (.iushr, 1) := by decide +kernel
theorem dX4_fill_83 : decode cX4_fill 83 = .ok (.iload_n 3, 1) := by decide +kernel
theorem dX4_fill_84 : decode cX4_fill 84 = .ok (.iload 4, 2) := by decide +kernel
theorem dX4_fill_86 : decode cX4_fill 86 = .ok (.invokevirtual 55, 3) := by decide +kernel
theorem dX4_fill_89 : decode cX4_fill 89 = .ok (.invokevirtual 47, 3) := by decide +kernel
theorem dX4_fill_92 : decode cX4_fill 92 = .ok (.iinc 6 1, 3) := by decide +kernel
theorem dX4_fill_95 : decode cX4_fill 95 = .ok (.goto (-39), 3) := by decide +kernel
theorem dX4_fill_98 : decode cX4_fill 98 = .ok (.aload_n 0, 1) := by decide +kernel
theorem dX4_fill_99 : decode cX4_fill 99 = .ok (.invokevirtual 51, 3) := by decide +kernel
theorem dX4_fill_102 : decode cX4_fill 102 = .ok (.aload_n 0, 1) := by decide +kernel
theorem dX4_fill_103 : decode cX4_fill 103 = .ok (.getfield 12, 3) := by decide +kernel
theorem dX4_fill_106 : decode cX4_fill 106 = .ok (.getfield 43, 3) := by decide +kernel
theorem dX4_fill_109 : decode cX4_fill 109 = .ok (.ireturn, 1) := by decide +kernel
set_option maxRecDepth 20000 in
theorem ggX4_clear_X4_forgetRows : GoodIn wsX4_clear wsX4_forgetRows := goodIn_r _ [7, 8, 9, 10, 11, 12, 13, 17, 18, 19, 20, 21, 22, 23, 24, 25, 26, 27] (by decide +kernel) (by decide +kernel)
set_option maxRecDepth 20000 in
theorem gX4_clear_X4_forgetRows : GoodIn wsX4_clear (wsV RX4 51 RX4 yX4_forgetRows wsX4_forgetRows) := goodIn_app (goodIn_of _ (by decide +kernel)) ggX4_clear_X4_forgetRows
theorem dX4_clear_0 : decode cX4_clear 0 = .ok (.aload_n 0, 1) := by decide +kernel
theorem dX4_clear_1 : decode cX4_clear 1 = .ok (.getfield 12, 3) := by decide +kernel
theorem dX4_clear_4 : decode cX4_clear 4 = .ok (.getfield 43, 3) := by decide +kernel
theorem dX4_clear_7 : decode cX4_clear 7 = .ok (.istore_n 1, 1) := by decide +kernel
theorem dX4_clear_8 : decode cX4_clear 8 = .ok (.aload_n 0, 1) := by decide +kernel
theorem dX4_clear_9 : decode cX4_clear 9 = .ok (.getfield 12, 3) := by decide +kernel
theorem dX4_clear_12 : decode cX4_clear 12 = .ok (.iconst 0, 1) := by decide +kernel
theorem dX4_clear_13 : decode cX4_clear 13 = .ok (.putfield 43, 3) := by decide +kernel
theorem dX4_clear_16 : decode cX4_clear 16 = .ok (.aload_n 0, 1) := by decide +kernel
theorem dX4_clear_17 : decode cX4_clear 17 = .ok (.invokevirtual 51, 3) := by decide +kernel
theorem dX4_clear_20 : decode cX4_clear 20 = .ok (.iload_n 1, 1) := by decide +kernel
theorem dX4_clear_21 : decode cX4_clear 21 = .ok (.ireturn, 1) := by decide +kernel
set_option maxRecDepth 20000 in
theorem ggX4_dictionary_X3_becomeDictionary : GoodIn wsX4_dictionary wsX3_becomeDictionary := goodIn_r _ [7, 8, 9, 10, 11, 12, 13, 14, 26, 27, 28] (by decide +kernel) (by decide +kernel)
set_option maxRecDepth 20000 in
theorem gX4_dictionary_X3_becomeDictionary : GoodIn wsX4_dictionary (wsV RX4 59 RX3 yX3_becomeDictionary wsX3_becomeDictionary) := goodIn_app (goodIn_of _ (by decide +kernel)) ggX4_dictionary_X3_becomeDictionary
set_option maxRecDepth 20000 in
theorem ggX4_dictionary_X4_forgetRows : GoodIn wsX4_dictionary wsX4_forgetRows := goodIn_r _ [19, 20, 21, 22, 23, 24, 25, 29, 30, 31, 32, 33, 34, 35, 36, 37, 38, 39] (by decide +kernel) (by decide +kernel)
set_option maxRecDepth 20000 in
theorem gX4_dictionary_X4_forgetRows : GoodIn wsX4_dictionary (wsV RX4 51 RX4 yX4_forgetRows wsX4_forgetRows) := goodIn_app (goodIn_of _ (by decide +kernel)) ggX4_dictionary_X4_forgetRows
theorem dX4_dictionary_0 : decode cX4_dictionary 0 = .ok (.aload_n 0, 1) := by decide +kernel
theorem dX4_dictionary_1 : decode cX4_dictionary 1 = .ok (.getfield 12, 3) := by decide +kernel
theorem dX4_dictionary_4 : decode cX4_dictionary 4 = .ok (.invokevirtual 59, 3) := by decide +kernel
theorem dX4_dictionary_7 : decode cX4_dictionary 7 = .ok (.aload_n 0, 1) := by decide +kernel
theorem dX4_dictionary_8 : decode cX4_dictionary 8 = .ok (.invokevirtual 51, 3) := by decide +kernel
theorem dX4_dictionary_11 : decode cX4_dictionary 11 = .ok (.aload_n 0, 1) := by decide +kernel
theorem dX4_dictionary_12 : decode cX4_dictionary 12 = .ok (.getfield 12, 3) := by decide +kernel
theorem dX4_dictionary_15 : decode cX4_dictionary 15 = .ok (.getfield 62, 3) := by decide +kernel
theorem dX4_dictionary_18 : decode cX4_dictionary 18 = .ok (.ireturn, 1) := by decide +kernel
theorem dX4_size_0 : decode cX4_size 0 = .ok (.iload_n 1, 1) := by decide +kernel
theorem dX4_size_1 : decode cX4_size 1 = .ok (.ifCond .ne 11, 3) := by decide +kernel
theorem dX4_size_4 : decode cX4_size 4 = .ok (.aload_n 0, 1) := by decide +kernel
theorem dX4_size_5 : decode cX4_size 5 = .ok (.getfield 12, 3) := by decide +kernel
theorem dX4_size_8 : decode cX4_size 8 = .ok (.getfield 43, 3) := by decide +kernel
theorem dX4_size_11 : decode cX4_size 11 = .ok (.ireturn, 1) := by decide +kernel
theorem dX4_size_12 : decode cX4_size 12 = .ok (.iload_n 1, 1) := by decide +kernel
theorem dX4_size_13 : decode cX4_size 13 = .ok (.iconst 1, 1) := by decide +kernel
theorem dX4_size_14 : decode cX4_size 14 = .ok (.if_icmp .ne 13, 3) := by decide +kernel
theorem dX4_size_17 : decode cX4_size 17 = .ok (.aload_n 0, 1) := by decide +kernel
theorem dX4_size_18 : decode cX4_size 18 = .ok (.getfield 12, 3) := by decide +kernel
theorem dX4_size_21 : decode cX4_size 21 = .ok (.getfield 62, 3) := by decide +kernel
theorem dX4_size_24 : decode cX4_size 24 = .ok (.goto 5, 3) := by decide +kernel
theorem dX4_size_27 : decode cX4_size 27 = .ok (.bipush (-2), 2) := by decide +kernel
theorem dX4_size_29 : decode cX4_size 29 = .ok (.ireturn, 1) := by decide +kernel
set_option maxRecDepth 20000 in
theorem ggX4_octet_X3_at : GoodIn wsX4_octet wsX3_at := goodIn_r _ [6, 7, 8, 9, 14, 15, 16] (by decide +kernel) (by decide +kernel)
set_option maxRecDepth 20000 in
theorem gX4_octet_X3_at : GoodIn wsX4_octet (wsV RX4 65 RX3 yX3_at wsX3_at) := goodIn_app (goodIn_of _ (by decide +kernel)) ggX4_octet_X3_at
theorem dX4_octet_0 : decode cX4_octet 0 = .ok (.aload_n 0, 1) := by decide +kernel
theorem dX4_octet_1 : decode cX4_octet 1 = .ok (.getfield 12, 3) := by decide +kernel
theorem dX4_octet_4 : decode cX4_octet 4 = .ok (.iload_n 1, 1) := by decide +kernel
theorem dX4_octet_5 : decode cX4_octet 5 = .ok (.invokevirtual 65, 3) := by decide +kernel
theorem dX4_octet_8 : decode cX4_octet 8 = .ok (.ireturn, 1) := by decide +kernel
set_option maxRecDepth 20000 in
theorem ggX4_longest_X4_isPlace : GoodIn wsX4_longest wsX4_isPlace := goodIn_r _ [8, 9, 10, 52, 53, 54, 55, 64, 65, 66] (by decide +kernel) (by decide +kernel)
set_option maxRecDepth 20000 in
theorem gX4_longest_X4_isPlace : GoodIn wsX4_longest (wsV RX4 69 RX4 yX4_isPlace wsX4_isPlace) := goodIn_app (goodIn_of _ (by decide +kernel)) ggX4_longest_X4_isPlace
set_option maxRecDepth 20000 in
theorem ggX4_longest_X0_seekLongest : GoodIn wsX4_longest wsX0_seekLongest := goodIn_r _ [15, 16, 17, 18, 19, 20, 21, 14, 22, 23, 24, 25, 26, 27, 28, 29, 30, 31, 32, 33, 34, 35, 36, 37, 38, 39, 40, 41, 42, 43, 44, 45, 46, 47, 48, 49, 50, 51, 56, 57, 58, 59, 60, 61, 62, 63, 64, 65, 66] (by decide +kernel) (by decide +kernel)
set_option maxRecDepth 20000 in
theorem gX4_longest_X0_seekLongest : GoodIn wsX4_longest (wsV RX4 73 RX0 yX0_seekLongest wsX0_seekLongest) := goodIn_app (goodIn_of _ (by decide +kernel)) ggX4_longest_X0_seekLongest
theorem dX4_longest_0 : decode cX4_longest 0 = .ok (.aload_n 0, 1) := by decide +kernel
theorem dX4_longest_1 : decode cX4_longest 1 = .ok (.iload_n 1, 1) := by decide +kernel
theorem dX4_longest_2 : decode cX4_longest 2 = .ok (.invokevirtual 69, 3) := by decide +kernel
theorem dX4_longest_5 : decode cX4_longest 5 = .ok (.ifCond .ne 5, 3) := by decide +kernel
theorem dX4_longest_8 : decode cX4_longest 8 = .ok (.iconst (-1), 1) := by decide +kernel
theorem dX4_longest_9 : decode cX4_longest 9 = .ok (.ireturn, 1) := by decide +kernel
theorem dX4_longest_10 : decode cX4_longest 10 = .ok (.iload_n 2, 1) := by decide +kernel
theorem dX4_longest_11 : decode cX4_longest 11 = .ok (.ifCond .lt 8, 3) := by decide +kernel
theorem dX4_longest_14 : decode cX4_longest 14 = .ok (.iload_n 2, 1) := by decide +kernel
theorem dX4_longest_15 : decode cX4_longest 15 = .ok (.iconst 1, 1) := by decide +kernel
theorem dX4_longest_16 : decode cX4_longest 16 = .ok (.if_icmp .le 6, 3) := by decide +kernel
theorem dX4_longest_19 : decode cX4_longest 19 = .ok (.bipush (-2), 2) := by decide +kernel
theorem dX4_longest_21 : decode cX4_longest 21 = .ok (.ireturn, 1) := by decide +kernel
theorem dX4_longest_22 : decode cX4_longest 22 = .ok (.aload_n 0, 1) := by decide +kernel
theorem dX4_longest_23 : decode cX4_longest 23 = .ok (.getfield 25, 3) := by decide +kernel
theorem dX4_longest_26 : decode cX4_longest 26 = .ok (.iload_n 1, 1) := by decide +kernel
theorem dX4_longest_27 : decode cX4_longest 27 = .ok (.invokevirtual 73, 3) := by decide +kernel
theorem dX4_longest_30 : decode cX4_longest 30 = .ok (.iload_n 2, 1) := by decide +kernel
theorem dX4_longest_31 : decode cX4_longest 31 = .ok (.ifCond .ne 13, 3) := by decide +kernel
theorem dX4_longest_34 : decode cX4_longest 34 = .ok (.aload_n 0, 1) := by decide +kernel
theorem dX4_longest_35 : decode cX4_longest 35 = .ok (.getfield 25, 3) := by decide +kernel
theorem dX4_longest_38 : decode cX4_longest 38 = .ok (.getfield 76, 3) := by decide +kernel
theorem dX4_longest_41 : decode cX4_longest 41 = .ok (.goto 10, 3) := by decide +kernel
theorem dX4_longest_44 : decode cX4_longest 44 = .ok (.aload_n 0, 1) := by decide +kernel
theorem dX4_longest_45 : decode cX4_longest 45 = .ok (.getfield 25, 3) := by decide +kernel
theorem dX4_longest_48 : decode cX4_longest 48 = .ok (.getfield 79, 3) := by decide +kernel
theorem dX4_longest_51 : decode cX4_longest 51 = .ok (.ireturn, 1) := by decide +kernel
set_option maxRecDepth 20000 in
theorem ggX4_chained_X4_isPlace : GoodIn wsX4_chained wsX4_isPlace := goodIn_r _ [8, 9, 10, 46, 47, 48, 49, 58, 59, 60] (by decide +kernel) (by decide +kernel)
set_option maxRecDepth 20000 in
theorem gX4_chained_X4_isPlace : GoodIn wsX4_chained (wsV RX4 69 RX4 yX4_isPlace wsX4_isPlace) := goodIn_app (goodIn_of _ (by decide +kernel)) ggX4_chained_X4_isPlace
set_option maxRecDepth 20000 in
theorem ggX4_chained_X0_seekChained : GoodIn wsX4_chained wsX0_seekChained := goodIn_r _ [15, 16, 17, 18, 19, 20, 21, 22, 23, 24, 25, 26, 14, 27, 28, 29, 30, 31, 32, 33, 34, 35, 36, 37, 38, 39, 40, 41, 42, 43, 44, 45, 50, 51, 52, 53, 54, 55, 56, 57, 58, 59, 60] (by decide +kernel) (by decide +kernel)
set_option maxRecDepth 20000 in
theorem gX4_chained_X0_seekChained : GoodIn wsX4_chained (wsV RX4 82 RX0 yX0_seekChained wsX0_seekChained) := goodIn_app (goodIn_of _ (by decide +kernel)) ggX4_chained_X0_seekChained
theorem dX4_chained_0 : decode cX4_chained 0 = .ok (.aload_n 0, 1) := by decide +kernel
theorem dX4_chained_1 : decode cX4_chained 1 = .ok (.iload_n 1, 1) := by decide +kernel
theorem dX4_chained_2 : decode cX4_chained 2 = .ok (.invokevirtual 69, 3) := by decide +kernel
theorem dX4_chained_5 : decode cX4_chained 5 = .ok (.ifCond .ne 5, 3) := by decide +kernel
theorem dX4_chained_8 : decode cX4_chained 8 = .ok (.iconst (-1), 1) := by decide +kernel
theorem dX4_chained_9 : decode cX4_chained 9 = .ok (.ireturn, 1) := by decide +kernel
theorem dX4_chained_10 : decode cX4_chained 10 = .ok (.iload_n 2, 1) := by decide +kernel
theorem dX4_chained_11 : decode cX4_chained 11 = .ok (.ifCond .lt 8, 3) := by decide +kernel
theorem dX4_chained_14 : decode cX4_chained 14 = .ok (.iload_n 2, 1) := by decide +kernel
theorem dX4_chained_15 : decode cX4_chained 15 = .ok (.iconst 1, 1) := by decide +kernel
theorem dX4_chained_16 : decode cX4_chained 16 = .ok (.if_icmp .le 6, 3) := by decide +kernel
theorem dX4_chained_19 : decode cX4_chained 19 = .ok (.bipush (-2), 2) := by decide +kernel
theorem dX4_chained_21 : decode cX4_chained 21 = .ok (.ireturn, 1) := by decide +kernel
theorem dX4_chained_22 : decode cX4_chained 22 = .ok (.aload_n 0, 1) := by decide +kernel
theorem dX4_chained_23 : decode cX4_chained 23 = .ok (.getfield 25, 3) := by decide +kernel
theorem dX4_chained_26 : decode cX4_chained 26 = .ok (.iload_n 1, 1) := by decide +kernel
theorem dX4_chained_27 : decode cX4_chained 27 = .ok (.invokevirtual 82, 3) := by decide +kernel
theorem dX4_chained_30 : decode cX4_chained 30 = .ok (.iload_n 2, 1) := by decide +kernel
theorem dX4_chained_31 : decode cX4_chained 31 = .ok (.ifCond .ne 13, 3) := by decide +kernel
theorem dX4_chained_34 : decode cX4_chained 34 = .ok (.aload_n 0, 1) := by decide +kernel
theorem dX4_chained_35 : decode cX4_chained 35 = .ok (.getfield 25, 3) := by decide +kernel
theorem dX4_chained_38 : decode cX4_chained 38 = .ok (.getfield 76, 3) := by decide +kernel
theorem dX4_chained_41 : decode cX4_chained 41 = .ok (.goto 10, 3) := by decide +kernel
theorem dX4_chained_44 : decode cX4_chained 44 = .ok (.aload_n 0, 1) := by decide +kernel
theorem dX4_chained_45 : decode cX4_chained 45 = .ok (.getfield 25, 3) := by decide +kernel
theorem dX4_chained_48 : decode cX4_chained 48 = .ok (.getfield 79, 3) := by decide +kernel
theorem dX4_chained_51 : decode cX4_chained 51 = .ok (.ireturn, 1) := by decide +kernel
set_option maxRecDepth 20000 in
theorem ggX4_front_X4_isPlace : GoodIn wsX4_front wsX4_isPlace := goodIn_r _ [9, 10, 11, 43, 44, 45, 46, 55, 56, 57] (by decide +kernel) (by decide +kernel)
set_option maxRecDepth 20000 in
theorem gX4_front_X4_isPlace : GoodIn wsX4_front (wsV RX4 69 RX4 yX4_isPlace wsX4_isPlace) := goodIn_app (goodIn_of _ (by decide +kernel)) ggX4_front_X4_isPlace
set_option maxRecDepth 20000 in
theorem ggX4_front_X0_gatherFront : GoodIn wsX4_front wsX0_gatherFront := goodIn_r _ [16, 17, 18, 19, 20, 21, 22, 23, 24, 25, 26, 27, 28, 29, 30, 31, 32, 33, 34, 35, 36, 37, 38, 39, 40, 41, 42, 47, 48, 49, 50, 51, 52, 53, 54, 55, 56, 57] (by decide +kernel) (by decide +kernel)
set_option maxRecDepth 20000 in
theorem gX4_front_X0_gatherFront : GoodIn wsX4_front (wsV RX4 85 RX0 yX0_gatherFront wsX0_gatherFront) := goodIn_app (goodIn_of _ (by decide +kernel)) ggX4_front_X0_gatherFront
theorem dX4_front_0 : decode cX4_front 0 = .ok (.aload_n 0, 1) := by decide +kernel
theorem dX4_front_1 : decode cX4_front 1 = .ok (.iload_n 1, 1) := by decide +kernel
theorem dX4_front_2 : decode cX4_front 2 = .ok (.invokevirtual 69, 3) := by decide +kernel
theorem dX4_front_5 : decode cX4_front 5 = .ok (.ifCond .ne 5, 3) := by decide +kernel
theorem dX4_front_8 : decode cX4_front 8 = .ok (.iconst (-1), 1) := by decide +kernel
theorem dX4_front_9 : decode cX4_front 9 = .ok (.ireturn, 1) := by decide +kernel
theorem dX4_front_10 : decode cX4_front 10 = .ok (.aload_n 0, 1) := by decide +kernel
theorem dX4_front_11 : decode cX4_front 11 = .ok (.getfield 25, 3) := by decide +kernel
theorem dX4_front_14 : decode cX4_front 14 = .ok (.iload_n 1, 1) := by decide +kernel
theorem dX4_front_15 : decode cX4_front 15 = .ok (.invokevirtual 85, 3) := by decide +kernel
theorem dX4_front_18 : decode cX4_front 18 = .ok (.iload_n 2, 1) := by decide +kernel
theorem dX4_front_19 : decode cX4_front 19 = .ok (.iconst (-1), 1) := by decide +kernel
theorem dX4_front_20 : decode cX4_front 20 = .ok (.if_icmp .lt 14, 3) := by decide +kernel
theorem dX4_front_23 : decode cX4_front 23 = .ok (.iload_n 2, 1) := by decide +kernel
theorem dX4_front_24 : decode cX4_front 24 = .ok (.aload_n 0, 1) := by decide +kernel
theorem dX4_front_25 : decode cX4_front 25 = .ok (.getfield 25, 3) := by decide +kernel
theorem dX4_front_28 : decode cX4_front 28 = .ok (.getfield 88, 3) := by decide +kernel
theorem dX4_front_31 : decode cX4_front 31 = .ok (.if_icmp .lt 5, 3) := by decide +kernel
theorem dX4_front_34 : decode cX4_front 34 = .ok (.iconst (-1), 1) := by decide +kernel
theorem dX4_front_35 : decode cX4_front 35 = .ok (.ireturn, 1) := by decide +kernel
theorem dX4_front_36 : decode cX4_front 36 = .ok (.iload_n 3, 1) := by decide +kernel
theorem dX4_front_37 : decode cX4_front 37 = .ok (.ifCond .lt 8, 3) := by decide +kernel
theorem dX4_front_40 : decode cX4_front 40 = .ok (.iload_n 3, 1) := by decide +kernel
theorem dX4_front_41 : decode cX4_front 41 = .ok (.iconst 1, 1) := by decide +kernel
theorem dX4_front_42 : decode cX4_front 42 = .ok (.if_icmp .le 6, 3) := by decide +kernel
theorem dX4_front_45 : decode cX4_front 45 = .ok (.bipush (-2), 2) := by decide +kernel
theorem dX4_front_47 : decode cX4_front 47 = .ok (.ireturn, 1) := by decide +kernel
theorem dX4_front_48 : decode cX4_front 48 = .ok (.iload_n 2, 1) := by decide +kernel
theorem dX4_front_49 : decode cX4_front 49 = .ok (.iconst (-1), 1) := by decide +kernel
theorem dX4_front_50 : decode cX4_front 50 = .ok (.if_icmp .ne 11, 3) := by decide +kernel
theorem dX4_front_53 : decode cX4_front 53 = .ok (.aload_n 0, 1) := by decide +kernel
theorem dX4_front_54 : decode cX4_front 54 = .ok (.getfield 25, 3) := by decide +kernel
theorem dX4_front_57 : decode cX4_front 57 = .ok (.getfield 88, 3) := by decide +kernel
theorem dX4_front_60 : decode cX4_front 60 = .ok (.ireturn, 1) := by decide +kernel
theorem dX4_front_61 : decode cX4_front 61 = .ok (.iload_n 3, 1) := by decide +kernel
theorem dX4_front_62 : decode cX4_front 62 = .ok (.ifCond .ne 15, 3) := by decide +kernel
theorem dX4_front_65 : decode cX4_front 65 = .ok (.aload_n 0, 1) := by decide +kernel
theorem dX4_front_66 : decode cX4_front 66 = .ok (.getfield 25, 3) := by decide +kernel
theorem dX4_front_69 : decode cX4_front 69 = .ok (.getfield 91, 3) := by decide +kernel
theorem dX4_front_72 : decode cX4_front 72 = .ok (.iload_n 2, 1) := by decide +kernel
theorem dX4_front_73 : decode cX4_front 73 = .ok (.iaload, 1) := by decide +kernel
theorem dX4_front_74 : decode cX4_front 74 = .ok (.goto 12, 3) := by decide +kernel
theorem dX4_front_77 : decode cX4_front 77 = .ok (.aload_n 0, 1) := by decide +kernel
theorem dX4_front_78 : decode cX4_front 78 = .ok (.getfield 25, 3) := by decide +kernel
theorem dX4_front_81 : decode cX4_front 81 = .ok (.getfield 95, 3) := by decide +kernel
theorem dX4_front_84 : decode cX4_front 84 = .ok (.iload_n 2, 1) := by decide +kernel
theorem dX4_front_85 : decode cX4_front 85 = .ok (.iaload, 1) := by decide +kernel
theorem dX4_front_86 : decode cX4_front 86 = .ok (.ireturn, 1) := by decide +kernel
set_option maxRecDepth 20000 in
theorem ggX4_pieces_X4_isWay : GoodIn wsX4_pieces wsX4_isWay := goodIn_r _ [5] (by decide +kernel) (by decide +kernel)
set_option maxRecDepth 20000 in
theorem gX4_pieces_X4_isWay : GoodIn wsX4_pieces (va_wsS RX4 98 yX4_isWay wsX4_isWay) := goodIn_app (goodIn_of _ (by decide +kernel)) ggX4_pieces_X4_isWay
set_option maxRecDepth 20000 in
theorem ggX4_pieces_X4_rowOf : GoodIn wsX4_pieces wsX4_rowOf := goodIn_r _ [9, 10, 11, 12, 13, 14, 15, 16, 17, 18, 19, 20, 21, 22, 23, 24, 25, 26, 27, 28, 29, 30, 31, 32, 33, 34, 35, 36, 37, 38, 39, 40, 41, 42, 43, 44, 45, 46, 47, 48, 49, 50, 51, 52, 53, 54, 55, 56, 57, 58, 59, 60, 61, 62, 63, 64, 65, 66, 4, 67, 68, 69, 70, 71, 72, 73, 74, 75, 76, 77, 78, 79, 80, 81, 82, 83, 84, 85, 86, 87, 88, 89, 90, 91, 92, 93, 94, 95, 96, 97, 98, 99, 100, 101, 102, 103, 104, 105, 106, 107, 108, 109, 110, 111, 112, 113, 114, 115, 116, 117, 118, 119, 120, 121, 122, 134, 135, 136, 137, 123, 124, 125, 126, 127, 128, 129, 130, 131, 132, 133, 138, 139, 140, 141, 142, 143, 144, 145, 146, 147, 148, 149, 150, 151] (by decide +kernel) (by decide +kernel)
set_option maxRecDepth 20000 in
theorem gX4_pieces_X4_rowOf : GoodIn wsX4_pieces (wsV RX4 101 RX4 yX4_rowOf wsX4_rowOf) := goodIn_app (goodIn_of _ (by decide +kernel)) ggX4_pieces_X4_rowOf
theorem dX4_pieces_0 : decode cX4_pieces 0 = .ok (.iload_n 1, 1) := by decide +kernel
theorem dX4_pieces_1 : decode cX4_pieces 1 = .ok (.invokestatic 98, 3) := by decide +kernel
theorem dX4_pieces_4 : decode cX4_pieces 4 = .ok (.ifCond .ne 5, 3) := by decide +kernel
theorem dX4_pieces_7 : decode cX4_pieces 7 = .ok (.iconst (-1), 1) := by decide +kernel
theorem dX4_pieces_8 : decode cX4_pieces 8 = .ok (.ireturn, 1) := by decide +kernel
theorem dX4_pieces_9 : decode cX4_pieces 9 = .ok (.aload_n 0, 1) := by decide +kernel
theorem dX4_pieces_10 : decode cX4_pieces 10 = .ok (.iload_n 1, 1) := by decide +kernel
theorem dX4_pieces_11 : decode cX4_pieces 11 = .ok (.invokevirtual 101, 3) := by decide +kernel
theorem dX4_pieces_14 : decode cX4_pieces 14 = .ok (.getfield 105, 3) := by decide +kernel
theorem dX4_pieces_17 : decode cX4_pieces 17 = .ok (.ireturn, 1) := by decide +kernel
set_option maxRecDepth 20000 in
theorem ggX4_piece_X4_isWay : GoodIn wsX4_piece wsX4_isWay := goodIn_r _ [8] (by decide +kernel) (by decide +kernel)
set_option maxRecDepth 20000 in
theorem gX4_piece_X4_isWay : GoodIn wsX4_piece (va_wsS RX4 98 yX4_isWay wsX4_isWay) := goodIn_app (goodIn_of _ (by decide +kernel)) ggX4_piece_X4_isWay
set_option maxRecDepth 20000 in
theorem ggX4_piece_X4_rowOf : GoodIn wsX4_piece wsX4_rowOf := goodIn_r _ [12, 13, 14, 15, 16, 17, 18, 19, 20, 21, 22, 23, 24, 25, 26, 27, 28, 29, 30, 31, 32, 33, 34, 35, 36, 37, 38, 39, 40, 41, 42, 43, 44, 45, 46, 47, 48, 49, 50, 51, 52, 53, 54, 55, 56, 57, 58, 59, 60, 61, 62, 63, 64, 65, 66, 67, 68, 69, 7, 70, 71, 72, 73, 74, 75, 76, 77, 78, 79, 80, 81, 82, 83, 84, 85, 86, 87, 88, 89, 90, 91, 92, 93, 94, 95, 96, 97, 98, 99, 100, 101, 102, 103, 104, 105, 106, 107, 108, 109, 110, 111, 112, 113, 114, 115, 116, 117, 118, 119, 120, 121, 122, 123, 124, 125, 137, 138, 139, 140, 126, 127, 128, 129, 130, 131, 132, 133, 134, 135, 136, 141, 142, 143, 144, 145, 146, 147, 148, 149, 150, 151, 152, 153, 154] (by decide +kernel) (by decide +kernel)
set_option maxRecDepth 20000 in
theorem gX4_piece_X4_rowOf : GoodIn wsX4_piece (wsV RX4 101 RX4 yX4_rowOf wsX4_rowOf) := goodIn_app (goodIn_of _ (by decide +kernel)) ggX4_piece_X4_rowOf
theorem dX4_piece_0 : decode cX4_piece 0 = .ok (.iload_n 1, 1) := by decide +kernel
theorem dX4_piece_1 : decode cX4_piece 1 = .ok (.invokestatic 98, 3) := by decide +kernel
theorem dX4_piece_4 : decode cX4_piece 4 = .ok (.ifCond .ne 5, 3) := by decide +kernel
theorem dX4_piece_7 : decode cX4_piece 7 = .ok (.iconst (-1), 1) := by decide +kernel
theorem dX4_piece_8 : decode cX4_piece 8 = .ok (.ireturn, 1) := by decide +kernel
theorem dX4_piece_9 : decode cX4_piece 9 = .ok (.aload_n 0, 1) := by decide +kernel
theorem dX4_piece_10 : decode cX4_piece 10 = .ok (.iload_n 1, 1) := by decide +kernel
theorem dX4_piece_11 : decode cX4_piece 11 = .ok (.invokevirtual 101, 3) := by decide +kernel
theorem dX4_piece_14 : decode cX4_piece 14 = .ok (.astore 4, 2) := by decide +kernel
theorem dX4_piece_16 : decode cX4_piece 16 = .ok (.iload_n 2, 1) := by decide +kernel
theorem dX4_piece_17 : decode cX4_piece 17 = .ok (.ifCond .lt 12, 3) := by decide +kernel
theorem dX4_piece_20 : decode cX4_piece 20 = .ok (.iload_n 2, 1) := by decide +kernel
theorem dX4_piece_21 : decode cX4_piece 21 = .ok (.aload 4, 2) := by decide +kernel
theorem dX4_piece_23 : decode cX4_piece 23 = .ok (.getfield 105, 3) := by decide +kernel
theorem dX4_piece_26 : decode cX4_piece 26 = .ok (.if_icmp .lt 5, 3) := by decide +kernel
theorem dX4_piece_29 : decode cX4_piece 29 = .ok (.iconst (-1), 1) := by decide +kernel
theorem dX4_piece_30 : decode cX4_piece 30 = .ok (.ireturn, 1) := by decide +kernel
theorem dX4_piece_31 : decode cX4_piece 31 = .ok (.iload_n 3, 1) := by decide +kernel
theorem dX4_piece_32 : decode cX4_piece 32 = .ok (.tableswitch 52 0 2 #[28, 36, 44], 28) := by decide +kernel
theorem dX4_piece_60 : decode cX4_piece 60 = .ok (.aload 4, 2) := by decide +kernel
theorem dX4_piece_62 : decode cX4_piece 62 = .ok (.getfield 108, 3) := by decide +kernel
theorem dX4_piece_65 : decode cX4_piece 65 = .ok (.iload_n 2, 1) := by decide +kernel
theorem dX4_piece_66 : decode cX4_piece 66 = .ok (.iaload, 1) := by decide +kernel
theorem dX4_piece_67 : decode cX4_piece 67 = .ok (.ireturn, 1) := by decide +kernel
theorem dX4_piece_68 : decode cX4_piece 68 = .ok (.aload 4, 2) := by decide +kernel
theorem dX4_piece_70 : decode cX4_piece 70 = .ok (.getfield 111, 3) := by decide +kernel
theorem dX4_piece_73 : decode cX4_piece 73 = .ok (.iload_n 2, 1) := by decide +kernel
theorem dX4_piece_74 : decode cX4_piece 74 = .ok (.iaload, 1) := by decide +kernel
theorem dX4_piece_75 : decode cX4_piece 75 = .ok (.ireturn, 1) := by decide +kernel
theorem dX4_piece_76 : decode cX4_piece 76 = .ok (.aload 4, 2) := by decide +kernel
theorem dX4_piece_78 : decode cX4_piece 78 = .ok (.getfield 114, 3) := by decide +kernel
theorem dX4_piece_81 : decode cX4_piece 81 = .ok (.iload_n 2, 1) := by decide +kernel
theorem dX4_piece_82 : decode cX4_piece 82 = .ok (.iaload, 1) := by decide +kernel
theorem dX4_piece_83 : decode cX4_piece 83 = .ok (.ireturn, 1) := by decide +kernel
theorem dX4_piece_84 : decode cX4_piece 84 = .ok (.bipush (-2), 2) := by decide +kernel
theorem dX4_piece_86 : decode cX4_piece 86 = .ok (.ireturn, 1) := by decide +kernel
set_option maxRecDepth 20000 in
theorem ggX4_bits_X4_isWay : GoodIn wsX4_bits wsX4_isWay := goodIn_r _ [6] (by decide +kernel) (by decide +kernel)
set_option maxRecDepth 20000 in
theorem gX4_bits_X4_isWay : GoodIn wsX4_bits (va_wsS RX4 98 yX4_isWay wsX4_isWay) := goodIn_app (goodIn_of _ (by decide +kernel)) ggX4_bits_X4_isWay
set_option maxRecDepth 20000 in
theorem ggX4_bits_X4_rowOf : GoodIn wsX4_bits wsX4_rowOf := goodIn_r _ [10, 11, 12, 13, 14, 15, 16, 17, 18, 19, 20, 21, 22, 23, 24, 25, 26, 27, 28, 29, 30, 31, 32, 33, 34, 35, 36, 37, 38, 39, 40, 41, 42, 43, 44, 45, 46, 47, 48, 49, 50, 51, 52, 53, 54, 55, 56, 57, 58, 59, 60, 61, 62, 63, 64, 65, 66, 67, 5, 68, 69, 70, 71, 72, 73, 74, 75, 76, 77, 78, 79, 80, 81, 82, 83, 84, 85, 86, 87, 88, 89, 90, 91, 92, 93, 94, 95, 96, 97, 98, 99, 100, 101, 102, 103, 104, 105, 106, 107, 108, 109, 110, 111, 112, 113, 114, 115, 116, 117, 118, 119, 120, 121, 122, 123, 135, 136, 137, 138, 124, 125, 126, 127, 128, 129, 130, 131, 132, 133, 134, 139, 140, 141, 142, 143, 144, 145, 146, 147, 148, 149, 150, 151, 152] (by decide +kernel) (by decide +kernel)
set_option maxRecDepth 20000 in
theorem gX4_bits_X4_rowOf : GoodIn wsX4_bits (wsV RX4 101 RX4 yX4_rowOf wsX4_rowOf) := goodIn_app (goodIn_of _ (by decide +kernel)) ggX4_bits_X4_rowOf
theorem dX4_bits_0 : decode cX4_bits 0 = .ok (.iload_n 1, 1) := by decide +kernel
theorem dX4_bits_1 : decode cX4_bits 1 = .ok (.invokestatic 98, 3) := by decide +kernel
theorem dX4_bits_4 : decode cX4_bits 4 = .ok (.ifCond .ne 5, 3) := by decide +kernel
theorem dX4_bits_7 : decode cX4_bits 7 = .ok (.iconst (-1), 1) := by decide +kernel
theorem dX4_bits_8 : decode cX4_bits 8 = .ok (.ireturn, 1) := by decide +kernel
theorem dX4_bits_9 : decode cX4_bits 9 = .ok (.iload_n 2, 1) := by decide +kernel
theorem dX4_bits_10 : decode cX4_bits 10 = .ok (.ifCond .lt 8, 3) := by decide +kernel
theorem dX4_bits_13 : decode cX4_bits 13 = .ok (.iload_n 2, 1) := by decide +kernel
theorem dX4_bits_14 : decode cX4_bits 14 = .ok (.iconst 1, 1) := by decide +kernel
theorem dX4_bits_15 : decode cX4_bits 15 = .ok (.if_icmp .le 6, 3) := by decide +kernel
theorem dX4_bits_18 : decode cX4_bits 18 = .ok (.bipush (-2), 2) := by decide +kernel
theorem dX4_bits_20 : decode cX4_bits 20 = .ok (.ireturn, 1) := by decide +kernel
theorem dX4_bits_21 : decode cX4_bits 21 = .ok (.aload_n 0, 1) := by decide +kernel
theorem dX4_bits_22 : decode cX4_bits 22 = .ok (.iload_n 1, 1) := by decide +kernel
theorem dX4_bits_23 : decode cX4_bits 23 = .ok (.invokevirtual 101, 3) := by decide +kernel
theorem dX4_bits_26 : decode cX4_bits 26 = .ok (.astore_n 3, 1) := by decide +kernel
theorem dX4_bits_27 : decode cX4_bits 27 = .ok (.iload_n 2, 1) := by decide +kernel
theorem dX4_bits_28 : decode cX4_bits 28 = .ok (.ifCond .ne 10, 3) := by decide +kernel
theorem dX4_bits_31 : decode cX4_bits 31 = .ok (.aload_n 3, 1) := by decide +kernel
theorem dX4_bits_32 : decode cX4_bits 32 = .ok (.getfield 117, 3) := by decide +kernel
theorem dX4_bits_35 : decode cX4_bits 35 = .ok (.goto 7, 3) := by decide +kernel
theorem dX4_bits_38 : decode cX4_bits 38 = .ok (.aload_n 3, 1) := by decide +kernel
theorem dX4_bits_39 : decode cX4_bits 39 = .ok (.getfield 120, 3) := by decide +kernel
theorem dX4_bits_42 : decode cX4_bits 42 = .ok (.ireturn, 1) := by decide +kernel
set_option maxRecDepth 20000 in
theorem ggX4_repeats_X4_isWay : GoodIn wsX4_repeats wsX4_isWay := goodIn_r _ [5] (by decide +kernel) (by decide +kernel)
set_option maxRecDepth 20000 in
theorem gX4_repeats_X4_isWay : GoodIn wsX4_repeats (va_wsS RX4 98 yX4_isWay wsX4_isWay) := goodIn_app (goodIn_of _ (by decide +kernel)) ggX4_repeats_X4_isWay
set_option maxRecDepth 20000 in
theorem ggX4_repeats_X4_rowOf : GoodIn wsX4_repeats wsX4_rowOf := goodIn_r _ [9, 10, 11, 12, 13, 14, 15, 16, 17, 18, 19, 20, 21, 22, 23, 24, 25, 26, 27, 28, 29, 30, 31, 32, 33, 34, 35, 36, 37, 38, 39, 40, 41, 42, 43, 44, 45, 46, 47, 48, 49, 50, 51, 52, 53, 54, 55, 56, 57, 58, 59, 60, 61, 62, 63, 64, 65, 66, 4, 67, 68, 69, 70, 71, 72, 73, 74, 75, 76, 77, 78, 79, 80, 81, 82, 83, 84, 85, 86, 87, 88, 89, 90, 91, 92, 93, 94, 95, 96, 97, 98, 99, 100, 101, 102, 103, 104, 105, 106, 107, 108, 109, 110, 111, 112, 113, 114, 115, 116, 117, 118, 119, 120, 121, 122, 134, 135, 136, 137, 123, 124, 125, 126, 127, 128, 129, 130, 131, 132, 133, 138, 139, 140, 141, 142, 143, 144, 145, 146, 147, 148, 149, 150, 151] (by decide +kernel) (by decide +kernel)
set_option maxRecDepth 20000 in
theorem gX4_repeats_X4_rowOf : GoodIn wsX4_repeats (wsV RX4 101 RX4 yX4_rowOf wsX4_rowOf) := goodIn_app (goodIn_of _ (by decide +kernel)) ggX4_repeats_X4_rowOf
theorem dX4_repeats_0 : decode cX4_repeats 0 = .ok (.iload_n 1, 1) := by decide +kernel
theorem dX4_repeats_1 : decode cX4_repeats 1 = .ok (.invokestatic 98, 3) := by decide +kernel
theorem dX4_repeats_4 : decode cX4_repeats 4 = .ok (.ifCond .ne 5, 3) := by decide +kernel
theorem dX4_repeats_7 : decode cX4_repeats 7 = .ok (.iconst (-1), 1) := by decide +kernel
theorem dX4_repeats_8 : decode cX4_repeats 8 = .ok (.ireturn, 1) := by decide +kernel
theorem dX4_repeats_9 : decode cX4_repeats 9 = .ok (.aload_n 0, 1) := by decide +kernel
theorem dX4_repeats_10 : decode cX4_repeats 10 = .ok (.iload_n 1, 1) := by decide +kernel
theorem dX4_repeats_11 : decode cX4_repeats 11 = .ok (.invokevirtual 101, 3) := by decide +kernel
theorem dX4_repeats_14 : decode cX4_repeats 14 = .ok (.getfield 123, 3) := by decide +kernel
theorem dX4_repeats_17 : decode cX4_repeats 17 = .ok (.ireturn, 1) := by decide +kernel
set_option maxRecDepth 20000 in
theorem ggX4_share_X4_isWay : GoodIn wsX4_share wsX4_isWay := goodIn_r _ [9] (by decide +kernel) (by decide +kernel)
set_option maxRecDepth 20000 in
theorem gX4_share_X4_isWay : GoodIn wsX4_share (va_wsS RX4 98 yX4_isWay wsX4_isWay) := goodIn_app (goodIn_of _ (by decide +kernel)) ggX4_share_X4_isWay
set_option maxRecDepth 20000 in
theorem ggX4_share_X4_rowOf : GoodIn wsX4_share wsX4_rowOf := goodIn_r _ [13, 14, 15, 16, 17, 3, 4, 18, 19, 20, 21, 22, 23, 24, 25, 26, 27, 28, 29, 30, 31, 32, 33, 34, 35, 36, 37, 38, 39, 40, 41, 42, 43, 44, 45, 46, 47, 48, 49, 50, 51, 52, 53, 54, 55, 56, 57, 58, 59, 60, 61, 62, 63, 64, 65, 66, 67, 68, 8, 69, 70, 71, 72, 73, 74, 75, 76, 77, 78, 79, 80, 81, 82, 83, 84, 85, 86, 87, 88, 89, 90, 91, 92, 93, 94, 95, 96, 97, 98, 99, 100, 101, 102, 103, 104, 105, 106, 107, 108, 109, 110, 111, 112, 113, 114, 115, 116, 117, 118, 119, 120, 121, 122, 123, 124, 125, 126, 127, 128, 132, 133, 134, 135, 136, 137, 138, 139, 140, 141, 142, 129, 130, 131, 143, 144, 145, 146, 147, 148, 149, 150, 151, 152, 153] (by decide +kernel) (by decide +kernel)
set_option maxRecDepth 20000 in
theorem gX4_share_X4_rowOf : GoodIn wsX4_share (wsV RX4 101 RX4 yX4_rowOf wsX4_rowOf) := goodIn_app (goodIn_of _ (by decide +kernel)) ggX4_share_X4_rowOf
theorem dX4_share_0 : decode cX4_share 0 = .ok (.iload_n 1, 1) := by decide +kernel
theorem dX4_share_1 : decode cX4_share 1 = .ok (.invokestatic 98, 3) := by decide +kernel
theorem dX4_share_4 : decode cX4_share 4 = .ok (.ifCond .ne 5, 3) := by decide +kernel
theorem dX4_share_7 : decode cX4_share 7 = .ok (.iconst (-1), 1) := by decide +kernel
theorem dX4_share_8 : decode cX4_share 8 = .ok (.ireturn, 1) := by decide +kernel
theorem dX4_share_9 : decode cX4_share 9 = .ok (.aload_n 0, 1) := by decide +kernel
theorem dX4_share_10 : decode cX4_share 10 = .ok (.getfield 12, 3) := by decide +kernel
theorem dX4_share_13 : decode cX4_share 13 = .ok (.getfield 43, 3) := by decide +kernel
theorem dX4_share_16 : decode cX4_share 16 = .ok (.ifCond .gt 13, 3) := by decide +kernel
theorem dX4_share_19 : decode cX4_share 19 = .ok (.new 126, 3) := by decide +kernel
theorem dX4_share_22 : decode cX4_share 22 = .ok (.dup, 1) := by decide +kernel
theorem dX4_share_23 : decode cX4_share 23 = .ok (.ldc 128, 2) := by decide +kernel
theorem dX4_share_25 : decode cX4_share 25 = .ok (.invokespecial 130, 3) := by decide +kernel
theorem dX4_share_28 : decode cX4_share 28 = .ok (.athrow, 1) := by decide +kernel
theorem dX4_share_29 : decode cX4_share 29 = .ok (.sipush 1000, 3) := by decide +kernel
theorem dX4_share_32 : decode cX4_share 32 = .ok (.aload_n 0, 1) := by decide +kernel
theorem dX4_share_33 : decode cX4_share 33 = .ok (.iload_n 1, 1) := by decide +kernel
theorem dX4_share_34 : decode cX4_share 34 = .ok (.invokevirtual 101, 3) := by decide +kernel
theorem dX4_share_37 : decode cX4_share 37 = .ok (.getfield 120, 3) := by decide +kernel
theorem dX4_share_40 : decode cX4_share 40 = .ok (.imul, 1) := by decide +kernel
theorem dX4_share_41 : decode cX4_share 41 = .ok (.bipush 8, 2) := by decide +kernel
theorem dX4_share_43 : decode cX4_share 43 = .ok (.aload_n 0, 1) := by decide +kernel
theorem dX4_share_44 : decode cX4_share 44 = .ok (.getfield 12, 3) := by decide +kernel
theorem dX4_share_47 : decode cX4_share 47 = .ok (.getfield 43, 3) := by decide +kernel
theorem dX4_share_50 : decode cX4_share 50 = .ok (.imul, 1) := by decide +kernel
theorem dX4_share_51 : decode cX4_share 51 = .ok (.idiv, 1) := by decide +kernel
theorem dX4_share_52 : decode cX4_share 52 = .ok (.ireturn, 1) := by decide +kernel
theorem dX4_nearest_0 : decode cX4_nearest 0 = .ok (.iconst 1, 1) := by decide +kernel
theorem dX4_nearest_1 : decode cX4_nearest 1 = .ok (.iload_n 1, 1) := by decide +kernel
theorem dX4_nearest_2 : decode cX4_nearest 2 = .ok (.iload_n 0, 1) := by decide +kernel
theorem dX4_nearest_3 : decode cX4_nearest 3 = .ok (.invokestatic 133, 3) := by decide +kernel
theorem dX4_nearest_6 : decode cX4_nearest 6 = .ok (.invokestatic 138, 3) := by decide +kernel
theorem dX4_nearest_9 : decode cX4_nearest 9 = .ok (.ireturn, 1) := by decide +kernel
theorem dX4_gammaBits_0 : decode cX4_gammaBits 0 = .ok (.iconst 1, 1) := by decide +kernel
theorem dX4_gammaBits_1 : decode cX4_gammaBits 1 = .ok (.istore_n 1, 1) := by decide +kernel
theorem dX4_gammaBits_2 : decode cX4_gammaBits 2 = .ok (.iload_n 0, 1) := by decide +kernel
theorem dX4_gammaBits_3 : decode cX4_gammaBits 3 = .ok (.istore_n 2, 1) := by decide +kernel
theorem dX4_gammaBits_4 : decode cX4_gammaBits 4 = .ok (.iload_n 2, 1) := by decide +kernel
theorem dX4_gammaBits_5 : decode cX4_gammaBits 5 = .ok (.iconst 1, 1) := by decide +kernel
theorem dX4_gammaBits_6 : decode cX4_gammaBits 6 = .ok (.if_icmp .le 13, 3) := by decide +kernel
theorem dX4_gammaBits_9 : decode cX4_gammaBits 9 = .ok (.iinc 1 2, 3) := by decide +kernel
theorem dX4_gammaBits_12 : decode cX4_gammaBits 12 = .ok (.iload_n 2, 1) := by decide +kernel
theorem dX4_gammaBits_13 : decode cX4_gammaBits 13 = .ok (.iconst 1, 1) := by decide +kernel
theorem dX4_gammaBits_14 : decode cX4_gammaBits 14 = .ok (.ishr, 1) := by decide +kernel
theorem dX4_gammaBits_15 : decode cX4_gammaBits 15 = .ok (.istore_n 2, 1) := by decide +kernel
theorem dX4_gammaBits_16 : decode cX4_gammaBits 16 = .ok (.goto (-12), 3) := by decide +kernel
theorem dX4_gammaBits_19 : decode cX4_gammaBits 19 = .ok (.iload_n 1, 1) := by decide +kernel
theorem dX4_gammaBits_20 : decode cX4_gammaBits 20 = .ok (.ireturn, 1) := by decide +kernel
theorem dX4_isPlace_0 : decode cX4_isPlace 0 = .ok (.iload_n 1, 1) := by decide +kernel
theorem dX4_isPlace_1 : decode cX4_isPlace 1 = .ok (.ifCond .lt 18, 3) := by decide +kernel
theorem dX4_isPlace_4 : decode cX4_isPlace 4 = .ok (.iload_n 1, 1) := by decide +kernel
theorem dX4_isPlace_5 : decode cX4_isPlace 5 = .ok (.aload_n 0, 1) := by decide +kernel
theorem dX4_isPlace_6 : decode cX4_isPlace 6 = .ok (.getfield 12, 3) := by decide +kernel
theorem dX4_isPlace_9 : decode cX4_isPlace 9 = .ok (.getfield 43, 3) := by decide +kernel
theorem dX4_isPlace_12 : decode cX4_isPlace 12 = .ok (.if_icmp .ge 7, 3) := by decide +kernel
theorem dX4_isPlace_15 : decode cX4_isPlace 15 = .ok (.iconst 1, 1) := by decide +kernel
theorem dX4_isPlace_16 : decode cX4_isPlace 16 = .ok (.goto 4, 3) := by decide +kernel
theorem dX4_isPlace_19 : decode cX4_isPlace 19 = .ok (.iconst 0, 1) := by decide +kernel
theorem dX4_isPlace_20 : decode cX4_isPlace 20 = .ok (.ireturn, 1) := by decide +kernel
theorem dX4_isWay_0 : decode cX4_isWay 0 = .ok (.iload_n 0, 1) := by decide +kernel
theorem dX4_isWay_1 : decode cX4_isWay 1 = .ok (.ifCond .lt 12, 3) := by decide +kernel
theorem dX4_isWay_4 : decode cX4_isWay 4 = .ok (.iload_n 0, 1) := by decide +kernel
theorem dX4_isWay_5 : decode cX4_isWay 5 = .ok (.iconst 4, 1) := by decide +kernel
theorem dX4_isWay_6 : decode cX4_isWay 6 = .ok (.if_icmp .ge 7, 3) := by decide +kernel
theorem dX4_isWay_9 : decode cX4_isWay 9 = .ok (.iconst 1, 1) := by decide +kernel
theorem dX4_isWay_10 : decode cX4_isWay 10 = .ok (.goto 4, 3) := by decide +kernel
theorem dX4_isWay_13 : decode cX4_isWay 13 = .ok (.iconst 0, 1) := by decide +kernel
theorem dX4_isWay_14 : decode cX4_isWay 14 = .ok (.ireturn, 1) := by decide +kernel
set_option maxRecDepth 20000 in
theorem ggX4_filling_X3_at : GoodIn wsX4_filling wsX3_at := goodIn_r _ [7, 8, 9, 10, 15, 16, 17] (by decide +kernel) (by decide +kernel)
set_option maxRecDepth 20000 in
theorem gX4_filling_X3_at : GoodIn wsX4_filling (wsV RX4 65 RX3 yX3_at wsX3_at) := goodIn_app (goodIn_of _ (by decide +kernel)) ggX4_filling_X3_at
theorem dX4_filling_0 : decode cX4_filling 0 = .ok (.iload_n 2, 1) := by decide +kernel
theorem dX4_filling_1 : decode cX4_filling 1 = .ok (.ifCond .ne 9, 3) := by decide +kernel
theorem dX4_filling_4 : decode cX4_filling 4 = .ok (.iload_n 1, 1) := by decide +kernel
theorem dX4_filling_5 : decode cX4_filling 5 = .ok (.sipush 256, 3) := by decide +kernel
theorem dX4_filling_8 : decode cX4_filling 8 = .ok (.irem, 1) := by decide +kernel
theorem dX4_filling_9 : decode cX4_filling 9 = .ok (.ireturn, 1) := by decide +kernel
theorem dX4_filling_10 : decode cX4_filling 10 = .ok (.iload_n 2, 1) := by decide +kernel
theorem dX4_filling_11 : decode cX4_filling 11 = .ok (.iconst 1, 1) := by decide +kernel
theorem dX4_filling_12 : decode cX4_filling 12 = .ok (.if_icmp .ne 7, 3) := by decide +kernel
theorem dX4_filling_15 : decode cX4_filling 15 = .ok (.iload_n 1, 1) := by decide +kernel
theorem dX4_filling_16 : decode cX4_filling 16 = .ok (.iconst 3, 1) := by decide +kernel
theorem dX4_filling_17 : decode cX4_filling 17 = .ok (.irem, 1) := by decide +kernel
theorem dX4_filling_18 : decode cX4_filling 18 = .ok (.ireturn, 1) := by decide +kernel
theorem dX4_filling_19 : decode cX4_filling 19 = .ok (.aload_n 0, 1) := by decide +kernel
theorem dX4_filling_20 : decode cX4_filling 20 = .ok (.getfield 12, 3) := by decide +kernel
theorem dX4_filling_23 : decode cX4_filling 23 = .ok (.getfield 43, 3) := by decide +kernel
theorem dX4_filling_26 : decode cX4_filling 26 = .ok (.iload_n 3, 1) := by decide +kernel
theorem dX4_filling_27 : decode cX4_filling 27 = .ok (.isub, 1) := by decide +kernel
theorem dX4_filling_28 : decode cX4_filling 28 = .ok (.istore 4, 2) := by decide +kernel
theorem dX4_filling_30 : decode cX4_filling 30 = .ok (.iload_n 1, 1) := by decide +kernel
theorem dX4_filling_31 : decode cX4_filling 31 = .ok (.bipush 8, 2) := by decide +kernel
theorem dX4_filling_33 : decode cX4_filling 33 = .ok (.irem, 1) := by decide +kernel
theorem dX4_filling_34 : decode cX4_filling 34 = .ok (.ifCond .eq 20, 3) := by decide +kernel
theorem dX4_filling_37 : decode cX4_filling 37 = .ok (.iload 4, 2) := by decide +kernel
theorem dX4_filling_39 : decode cX4_filling 39 = .ok (.ifCond .lt 15, 3) := by decide +kernel
theorem dX4_filling_42 : decode cX4_filling 42 = .ok (.aload_n 0, 1) := by decide +kernel
theorem dX4_filling_43 : decode cX4_filling 43 = .ok (.getfield 12, 3) := by decide +kernel
theorem dX4_filling_46 : decode cX4_filling 46 = .ok (.iload 4, 2) := by decide +kernel
theorem dX4_filling_48 : decode cX4_filling 48 = .ok (.invokevirtual 65, 3) := by decide +kernel
theorem dX4_filling_51 : decode cX4_filling 51 = .ok (.goto 6, 3) := by decide +kernel
theorem dX4_filling_54 : decode cX4_filling 54 = .ok (.iload_n 1, 1) := by decide +kernel
theorem dX4_filling_55 : decode cX4_filling 55 = .ok (.iconst 4, 1) := by decide +kernel
theorem dX4_filling_56 : decode cX4_filling 56 = .ok (.irem, 1) := by decide +kernel
theorem dX4_filling_57 : decode cX4_filling 57 = .ok (.ireturn, 1) := by decide +kernel
theorem dX4_forgetRows_0 : decode cX4_forgetRows 0 = .ok (.iconst 0, 1) := by decide +kernel
theorem dX4_forgetRows_1 : decode cX4_forgetRows 1 = .ok (.istore_n 1, 1) := by decide +kernel
theorem dX4_forgetRows_2 : decode cX4_forgetRows 2 = .ok (.iload_n 1, 1) := by decide +kernel
theorem dX4_forgetRows_3 : decode cX4_forgetRows 3 = .ok (.iconst 4, 1) := by decide +kernel
theorem dX4_forgetRows_4 : decode cX4_forgetRows 4 = .ok (.if_icmp .ge 19, 3) := by decide +kernel
theorem dX4_forgetRows_7 : decode cX4_forgetRows 7 = .ok (.aload_n 0, 1) := by decide +kernel
theorem dX4_forgetRows_8 : decode cX4_forgetRows 8 = .ok (.getfield 38, 3) := by decide +kernel
theorem dX4_forgetRows_11 : decode cX4_forgetRows 11 = .ok (.iload_n 1, 1) := by decide +kernel
theorem dX4_forgetRows_12 : decode cX4_forgetRows 12 = .ok (.aaload, 1) := by decide +kernel
theorem dX4_forgetRows_13 : decode cX4_forgetRows 13 = .ok (.iconst 0, 1) := by decide +kernel
theorem dX4_forgetRows_14 : decode cX4_forgetRows 14 = .ok (.putfield 141, 3) := by decide +kernel
theorem dX4_forgetRows_17 : decode cX4_forgetRows 17 = .ok (.iinc 1 1, 3) := by decide +kernel
theorem dX4_forgetRows_20 : decode cX4_forgetRows 20 = .ok (.goto (-18), 3) := by decide +kernel
theorem dX4_forgetRows_23 : decode cX4_forgetRows 23 = .ok (.return_, 1) := by decide +kernel
set_option maxRecDepth 20000 in
theorem ggX4_rowOf_X1_make : GoodIn wsX4_rowOf wsX1_make := goodIn_r _ [13, 14, 15, 16, 17, 18, 19, 20, 21, 22, 23, 24, 25, 26, 27, 28, 29, 30, 31, 32, 33, 34, 35, 36, 37, 38, 39, 40, 41, 42, 43, 44, 45, 46, 47, 48, 49, 50, 51, 52, 12, 53, 54, 55, 56, 57, 58, 59, 133, 134, 135, 136, 137, 138, 139, 140, 130, 131, 132, 141, 142, 143] (by decide +kernel) (by decide +kernel)
set_option maxRecDepth 20000 in
theorem gX4_rowOf_X1_make : GoodIn wsX4_rowOf (wsV RX4 145 RX1 yX1_make wsX1_make) := goodIn_app (goodIn_of _ (by decide +kernel)) ggX4_rowOf_X1_make
set_option maxRecDepth 20000 in
theorem ggX4_rowOf_X2_begin : GoodIn wsX4_rowOf wsX2_begin := goodIn_r _ [64, 65, 66, 67, 68, 69, 70, 71, 119, 120, 121, 122, 123, 124, 125, 126, 127, 128, 129] (by decide +kernel) (by decide +kernel)
set_option maxRecDepth 20000 in
theorem gX4_rowOf_X2_begin : GoodIn wsX4_rowOf (wsV RX4 149 RX2 yX2_begin wsX2_begin) := goodIn_app (goodIn_of _ (by decide +kernel)) ggX4_rowOf_X2_begin
set_option maxRecDepth 20000 in
theorem ggX4_rowOf_X4_choose : GoodIn wsX4_rowOf wsX4_choose := goodIn_r _ [75, 4, 3, 76, 77, 78, 79, 80, 22, 81, 24, 31, 32, 82, 20, 21, 23, 25, 26, 27, 28, 29, 30, 33, 34, 35, 36, 37, 38, 39, 40, 41, 42, 43, 44, 45, 46, 47, 48, 49, 83, 84, 85, 86, 87, 88, 89, 90, 91, 92, 93, 94, 95, 96, 97, 98, 99, 115, 116, 117, 118, 141, 142, 143, 133, 134, 135, 136, 137, 138, 139, 140, 130, 131, 132] (by decide +kernel) (by decide +kernel)
set_option maxRecDepth 20000 in
theorem gX4_rowOf_X4_choose : GoodIn wsX4_rowOf (wsV RX4 152 RX4 yX4_choose wsX4_choose) := goodIn_app (goodIn_of _ (by decide +kernel)) ggX4_rowOf_X4_choose
set_option maxRecDepth 20000 in
theorem ggX4_rowOf_X2_put : GoodIn wsX4_rowOf wsX2_put := goodIn_r _ [103, 65, 104, 105, 106, 66, 67, 107, 108, 109, 63, 110, 69, 70, 71, 68, 57, 58, 59, 111, 112, 113, 114, 119, 120, 121, 122, 123, 124, 125, 126, 127, 128, 129] (by decide +kernel) (by decide +kernel)
set_option maxRecDepth 20000 in
theorem gX4_rowOf_X2_put : GoodIn wsX4_rowOf (wsV RX4 156 RX2 yX2_put wsX2_put) := goodIn_app (goodIn_of _ (by decide +kernel)) ggX4_rowOf_X2_put
theorem dX4_rowOf_0 : decode cX4_rowOf 0 = .ok (.aload_n 0, 1) := by decide +kernel
theorem dX4_rowOf_1 : decode cX4_rowOf 1 = .ok (.getfield 38, 3) := by decide +kernel
theorem dX4_rowOf_4 : decode cX4_rowOf 4 = .ok (.iload_n 1, 1) := by decide +kernel
theorem dX4_rowOf_5 : decode cX4_rowOf 5 = .ok (.aaload, 1) := by decide +kernel
theorem dX4_rowOf_6 : decode cX4_rowOf 6 = .ok (.astore_n 2, 1) := by decide +kernel
theorem dX4_rowOf_7 : decode cX4_rowOf 7 = .ok (.aload_n 2, 1) := by decide +kernel
theorem dX4_rowOf_8 : decode cX4_rowOf 8 = .ok (.getfield 141, 3) := by decide +kernel
theorem dX4_rowOf_11 : decode cX4_rowOf 11 = .ok (.ifCond .eq 5, 3) := by decide +kernel
theorem dX4_rowOf_14 : decode cX4_rowOf 14 = .ok (.aload_n 2, 1) := by decide +kernel
theorem dX4_rowOf_15 : decode cX4_rowOf 15 = .ok (.areturn, 1) := by decide +kernel
theorem dX4_rowOf_16 : decode cX4_rowOf 16 = .ok (.iload_n 1, 1) := by decide +kernel
theorem dX4_rowOf_17 : decode cX4_rowOf 17 = .ok (.iconst 3, 1) := by decide +kernel
theorem dX4_rowOf_18 : decode cX4_rowOf 18 = .ok (.if_icmp .ne 14, 3) := by decide +kernel
theorem dX4_rowOf_21 : decode cX4_rowOf 21 = .ok (.aload_n 0, 1) := by decide +kernel
theorem dX4_rowOf_22 : decode cX4_rowOf 22 = .ok (.getfield 32, 3) := by decide +kernel
theorem dX4_rowOf_25 : decode cX4_rowOf 25 = .ok (.aload_n 0, 1) := by decide +kernel
theorem dX4_rowOf_26 : decode cX4_rowOf 26 = .ok (.getfield 25, 3) := by decide +kernel
theorem dX4_rowOf_29 : decode cX4_rowOf 29 = .ok (.invokevirtual 145, 3) := by decide +kernel
theorem dX4_rowOf_32 : decode cX4_rowOf 32 = .ok (.aload_n 2, 1) := by decide +kernel
theorem dX4_rowOf_33 : decode cX4_rowOf 33 = .ok (.invokevirtual 149, 3) := by decide +kernel
theorem dX4_rowOf_36 : decode cX4_rowOf 36 = .ok (.iconst 0, 1) := by decide +kernel
theorem dX4_rowOf_37 : decode cX4_rowOf 37 = .ok (.istore_n 3, 1) := by decide +kernel
theorem dX4_rowOf_38 : decode cX4_rowOf 38 = .ok (.iload_n 3, 1) := by decide +kernel
theorem dX4_rowOf_39 : decode cX4_rowOf 39 = .ok (.aload_n 0, 1) := by decide +kernel
theorem dX4_rowOf_40 : decode cX4_rowOf 40 = .ok (.getfield 12, 3) := by decide +kernel
theorem dX4_rowOf_43 : decode cX4_rowOf 43 = .ok (.getfield 43, 3) := by decide +kernel
theorem dX4_rowOf_46 : decode cX4_rowOf 46 = .ok (.if_icmp .ge 76, 3) := by decide +kernel
theorem dX4_rowOf_49 : decode cX4_rowOf 49 = .ok (.aload_n 0, 1) := by decide +kernel
theorem dX4_rowOf_50 : decode cX4_rowOf 50 = .ok (.iload_n 1, 1) := by decide +kernel
theorem dX4_rowOf_51 : decode cX4_rowOf 51 = .ok (.iload_n 3, 1) := by decide +kernel
theorem dX4_rowOf_52 : decode cX4_rowOf 52 = .ok (.invokevirtual 152, 3) := by decide +kernel
theorem dX4_rowOf_55 : decode cX4_rowOf 55 = .ok (.aload_n 0, 1) := by decide +kernel
theorem dX4_rowOf_56 : decode cX4_rowOf 56 = .ok (.getfield 25, 3) := by decide +kernel
theorem dX4_rowOf_59 : decode cX4_rowOf 59 = .ok (.getfield 76, 3) := by decide +kernel
theorem dX4_rowOf_62 : decode cX4_rowOf 62 = .ok (.iconst 3, 1) := by decide +kernel
theorem dX4_rowOf_63 : decode cX4_rowOf 63 = .ok (.if_icmp .lt 7, 3) := by decide +kernel
theorem dX4_rowOf_66 : decode cX4_rowOf 66 = .ok (.iconst 1, 1) := by decide +kernel
theorem dX4_rowOf_67 : decode cX4_rowOf 67 = .ok (.goto 4, 3) := by decide +kernel
theorem dX4_rowOf_70 : decode cX4_rowOf 70 = .ok (.iconst 0, 1) := by decide +kernel
theorem dX4_rowOf_71 : decode cX4_rowOf 71 = .ok (.istore 4, 2) := by decide +kernel
theorem dX4_rowOf_73 : decode cX4_rowOf 73 = .ok (.iload 4, 2) := by decide +kernel
theorem dX4_rowOf_75 : decode cX4_rowOf 75 = .ok (.ifCond .eq 13, 3) := by decide +kernel
theorem dX4_rowOf_78 : decode cX4_rowOf 78 = .ok (.aload_n 0, 1) := by decide +kernel
theorem dX4_rowOf_79 : decode cX4_rowOf 79 = .ok (.getfield 25, 3) := by decide +kernel
theorem dX4_rowOf_82 : decode cX4_rowOf 82 = .ok (.getfield 76, 3) := by decide +kernel
theorem dX4_rowOf_85 : decode cX4_rowOf 85 = .ok (.goto 4, 3) := by decide +kernel
theorem dX4_rowOf_88 : decode cX4_rowOf 88 = .ok (.iconst 1, 1) := by decide +kernel
theorem dX4_rowOf_89 : decode cX4_rowOf 89 = .ok (.istore 5, 2) := by decide +kernel
theorem dX4_rowOf_91 : decode cX4_rowOf 91 = .ok (.aload_n 2, 1) := by decide +kernel
theorem dX4_rowOf_92 : decode cX4_rowOf 92 = .ok (.iload_n 3, 1) := by decide +kernel
theorem dX4_rowOf_93 : decode cX4_rowOf 93 = .ok (.iload 5, 2) := by decide +kernel
theorem dX4_rowOf_95 : decode cX4_rowOf 95 = .ok (.iload 4, 2) := by decide +kernel
theorem dX4_rowOf_97 : decode cX4_rowOf 97 = .ok (.ifCond .eq 13, 3) := by decide +kernel
theorem dX4_rowOf_100 : decode cX4_rowOf 100 = .ok (.aload_n 0, 1) := by decide +kernel
end
section
theorem dX4_rowOf_101 : decode cX4_rowOf 101 = .ok (.getfield 25, 3) := by decide +kernel
theorem dX4_rowOf_104 : decode cX4_rowOf 104 = .ok (.getfield 79, 3) := by decide +kernel
theorem dX4_rowOf_107 : decode cX4_rowOf 107 = .ok (.goto 4, 3) := by decide +kernel
theorem dX4_rowOf_110 : decode cX4_rowOf 110 = .ok (.iconst 0, 1) := by decide +kernel
theorem dX4_rowOf_111 : decode cX4_rowOf 111 = .ok (.invokevirtual 156, 3) := by decide +kernel
theorem dX4_rowOf_114 : decode cX4_rowOf 114 = .ok (.iload_n 3, 1) := by decide +kernel
theorem dX4_rowOf_115 : decode cX4_rowOf 115 = .ok (.iload 5, 2) := by decide +kernel
theorem dX4_rowOf_117 : decode cX4_rowOf 117 = .ok (.iadd, 1) := by decide +kernel
theorem dX4_rowOf_118 : decode cX4_rowOf 118 = .ok (.istore_n 3, 1) := by decide +kernel
theorem dX4_rowOf_119 : decode cX4_rowOf 119 = .ok (.goto (-81), 3) := by decide +kernel
theorem dX4_rowOf_122 : decode cX4_rowOf 122 = .ok (.aload_n 2, 1) := by decide +kernel
theorem dX4_rowOf_123 : decode cX4_rowOf 123 = .ok (.iconst 1, 1) := by decide +kernel
theorem dX4_rowOf_124 : decode cX4_rowOf 124 = .ok (.putfield 141, 3) := by decide +kernel
theorem dX4_rowOf_127 : decode cX4_rowOf 127 = .ok (.aload_n 2, 1) := by decide +kernel
theorem dX4_rowOf_128 : decode cX4_rowOf 128 = .ok (.areturn, 1) := by decide +kernel
set_option maxRecDepth 20000 in
theorem ggX4_choose_X0_seekLongest : GoodIn wsX4_choose wsX0_seekLongest := goodIn_r _ [9, 10, 11, 12, 13, 14, 15, 8, 16, 17, 18, 19, 20, 21, 22, 23, 24, 25, 26, 27, 28, 29, 30, 31, 32, 33, 34, 35, 36, 37, 38, 39, 40, 41, 42, 43, 44, 45, 64, 65, 66, 67, 68, 69, 70, 71, 72, 73, 74] (by decide +kernel) (by decide +kernel)
set_option maxRecDepth 20000 in
theorem gX4_choose_X0_seekLongest : GoodIn wsX4_choose (wsV RX4 73 RX0 yX0_seekLongest wsX0_seekLongest) := goodIn_app (goodIn_of _ (by decide +kernel)) ggX4_choose_X0_seekLongest
set_option maxRecDepth 20000 in
theorem ggX4_choose_X0_seekChained : GoodIn wsX4_choose wsX0_seekChained := goodIn_r _ [49, 17, 18, 19, 20, 21, 22, 50, 44, 40, 41, 42, 8, 43, 45, 23, 24, 25, 26, 27, 28, 29, 30, 31, 32, 33, 34, 35, 36, 37, 38, 39, 64, 65, 66, 67, 68, 69, 70, 71, 72, 73, 74] (by decide +kernel) (by decide +kernel)
set_option maxRecDepth 20000 in
theorem gX4_choose_X0_seekChained : GoodIn wsX4_choose (wsV RX4 82 RX0 yX0_seekChained wsX0_seekChained) := goodIn_app (goodIn_of _ (by decide +kernel)) ggX4_choose_X0_seekChained
set_option maxRecDepth 20000 in
theorem ggX4_choose_X0_seekLookingAhead : GoodIn wsX4_choose wsX0_seekLookingAhead := goodIn_r _ [54, 44, 55, 6, 7, 8, 9, 10, 11, 12, 13, 14, 15, 16, 17, 18, 19, 20, 21, 22, 23, 24, 25, 26, 27, 28, 29, 30, 31, 32, 33, 34, 35, 36, 37, 38, 39, 40, 41, 42, 43, 45, 64, 65, 66, 67, 68, 69, 70, 71, 72, 73, 74] (by decide +kernel) (by decide +kernel)
set_option maxRecDepth 20000 in
theorem gX4_choose_X0_seekLookingAhead : GoodIn wsX4_choose (wsV RX4 159 RX0 yX0_seekLookingAhead wsX0_seekLookingAhead) := goodIn_app (goodIn_of _ (by decide +kernel)) ggX4_choose_X0_seekLookingAhead
set_option maxRecDepth 20000 in
theorem ggX4_choose_X0_take : GoodIn wsX4_choose wsX0_take := goodIn_r _ [43, 44, 45, 64, 65, 66, 67, 68, 69, 70, 71] (by decide +kernel) (by decide +kernel)
set_option maxRecDepth 20000 in
theorem gX4_choose_X0_take : GoodIn wsX4_choose (wsV RX4 164 RX0 yX0_take wsX0_take) := goodIn_app (goodIn_of _ (by decide +kernel)) ggX4_choose_X0_take
theorem dX4_choose_0 : decode cX4_choose 0 = .ok (.iload_n 1, 1) := by decide +kernel
theorem dX4_choose_1 : decode cX4_choose 1 = .ok (.tableswitch 60 0 2 #[27, 38, 49], 27) := by decide +kernel
theorem dX4_choose_28 : decode cX4_choose 28 = .ok (.aload_n 0, 1) := by decide +kernel
theorem dX4_choose_29 : decode cX4_choose 29 = .ok (.getfield 25, 3) := by decide +kernel
theorem dX4_choose_32 : decode cX4_choose 32 = .ok (.iload_n 2, 1) := by decide +kernel
theorem dX4_choose_33 : decode cX4_choose 33 = .ok (.invokevirtual 73, 3) := by decide +kernel
theorem dX4_choose_36 : decode cX4_choose 36 = .ok (.goto 50, 3) := by decide +kernel
theorem dX4_choose_39 : decode cX4_choose 39 = .ok (.aload_n 0, 1) := by decide +kernel
theorem dX4_choose_40 : decode cX4_choose 40 = .ok (.getfield 25, 3) := by decide +kernel
theorem dX4_choose_43 : decode cX4_choose 43 = .ok (.iload_n 2, 1) := by decide +kernel
theorem dX4_choose_44 : decode cX4_choose 44 = .ok (.invokevirtual 82, 3) := by decide +kernel
theorem dX4_choose_47 : decode cX4_choose 47 = .ok (.goto 39, 3) := by decide +kernel
theorem dX4_choose_50 : decode cX4_choose 50 = .ok (.aload_n 0, 1) := by decide +kernel
theorem dX4_choose_51 : decode cX4_choose 51 = .ok (.getfield 25, 3) := by decide +kernel
theorem dX4_choose_54 : decode cX4_choose 54 = .ok (.iload_n 2, 1) := by decide +kernel
theorem dX4_choose_55 : decode cX4_choose 55 = .ok (.invokevirtual 159, 3) := by decide +kernel
theorem dX4_choose_58 : decode cX4_choose 58 = .ok (.goto 28, 3) := by decide +kernel
theorem dX4_choose_61 : decode cX4_choose 61 = .ok (.aload_n 0, 1) := by decide +kernel
theorem dX4_choose_62 : decode cX4_choose 62 = .ok (.getfield 25, 3) := by decide +kernel
theorem dX4_choose_65 : decode cX4_choose 65 = .ok (.aload_n 0, 1) := by decide +kernel
theorem dX4_choose_66 : decode cX4_choose 66 = .ok (.getfield 32, 3) := by decide +kernel
theorem dX4_choose_69 : decode cX4_choose 69 = .ok (.getfield 162, 3) := by decide +kernel
theorem dX4_choose_72 : decode cX4_choose 72 = .ok (.iload_n 2, 1) := by decide +kernel
theorem dX4_choose_73 : decode cX4_choose 73 = .ok (.iaload, 1) := by decide +kernel
theorem dX4_choose_74 : decode cX4_choose 74 = .ok (.aload_n 0, 1) := by decide +kernel
theorem dX4_choose_75 : decode cX4_choose 75 = .ok (.getfield 32, 3) := by decide +kernel
theorem dX4_choose_78 : decode cX4_choose 78 = .ok (.getfield 163, 3) := by decide +kernel
theorem dX4_choose_81 : decode cX4_choose 81 = .ok (.iload_n 2, 1) := by decide +kernel
theorem dX4_choose_82 : decode cX4_choose 82 = .ok (.iaload, 1) := by decide +kernel
theorem dX4_choose_83 : decode cX4_choose 83 = .ok (.invokevirtual 164, 3) := by decide +kernel
theorem dX4_choose_86 : decode cX4_choose 86 = .ok (.return_, 1) := by decide +kernel
theorem dX5_init_0 : decode cX5_init 0 = .ok (.aload_n 0, 1) := by decide +kernel
theorem dX5_init_1 : decode cX5_init 1 = .ok (.invokespecial 1, 3) := by decide +kernel
theorem dX5_init_4 : decode cX5_init 4 = .ok (.aload_n 0, 1) := by decide +kernel
theorem dX5_init_5 : decode cX5_init 5 = .ok (.sipush 360, 3) := by decide +kernel
theorem dX5_init_8 : decode cX5_init 8 = .ok (.newarray .int, 2) := by decide +kernel
theorem dX5_init_10 : decode cX5_init 10 = .ok (.putfield 7, 3) := by decide +kernel
theorem dX5_init_13 : decode cX5_init 13 = .ok (.aload_n 0, 1) := by decide +kernel
theorem dX5_init_14 : decode cX5_init 14 = .ok (.iconst 4, 1) := by decide +kernel
theorem dX5_init_15 : decode cX5_init 15 = .ok (.newarray .boolean, 2) := by decide +kernel
theorem dX5_init_17 : decode cX5_init 17 = .ok (.putfield 13, 3) := by decide +kernel
theorem dX5_init_20 : decode cX5_init 20 = .ok (.aload_n 0, 1) := by decide +kernel
theorem dX5_init_21 : decode cX5_init 21 = .ok (.iconst 4, 1) := by decide +kernel
theorem dX5_init_22 : decode cX5_init 22 = .ok (.newarray .int, 2) := by decide +kernel
theorem dX5_init_24 : decode cX5_init 24 = .ok (.putfield 17, 3) := by decide +kernel
theorem dX5_init_27 : decode cX5_init 27 = .ok (.aload_n 0, 1) := by decide +kernel
theorem dX5_init_28 : decode cX5_init 28 = .ok (.sipush 1200, 3) := by decide +kernel
theorem dX5_init_31 : decode cX5_init 31 = .ok (.newarray .int, 2) := by decide +kernel
theorem dX5_init_33 : decode cX5_init 33 = .ok (.putfield 20, 3) := by decide +kernel
theorem dX5_init_36 : decode cX5_init 36 = .ok (.aload_n 0, 1) := by decide +kernel
theorem dX5_init_37 : decode cX5_init 37 = .ok (.sipush 1200, 3) := by decide +kernel
theorem dX5_init_40 : decode cX5_init 40 = .ok (.newarray .int, 2) := by decide +kernel
theorem dX5_init_42 : decode cX5_init 42 = .ok (.putfield 23, 3) := by decide +kernel
theorem dX5_init_45 : decode cX5_init 45 = .ok (.aload_n 0, 1) := by decide +kernel
theorem dX5_init_46 : decode cX5_init 46 = .ok (.sipush 1200, 3) := by decide +kernel
theorem dX5_init_49 : decode cX5_init 49 = .ok (.newarray .int, 2) := by decide +kernel
theorem dX5_init_51 : decode cX5_init 51 = .ok (.putfield 26, 3) := by decide +kernel
theorem dX5_init_54 : decode cX5_init 54 = .ok (.aload_n 0, 1) := by decide +kernel
theorem dX5_init_55 : decode cX5_init 55 = .ok (.sipush 301, 3) := by decide +kernel
theorem dX5_init_58 : decode cX5_init 58 = .ok (.newarray .int, 2) := by decide +kernel
theorem dX5_init_60 : decode cX5_init 60 = .ok (.putfield 29, 3) := by decide +kernel
theorem dX5_init_63 : decode cX5_init 63 = .ok (.aload_n 0, 1) := by decide +kernel
theorem dX5_init_64 : decode cX5_init 64 = .ok (.bipush 41, 2) := by decide +kernel
theorem dX5_init_66 : decode cX5_init 66 = .ok (.newarray .int, 2) := by decide +kernel
theorem dX5_init_68 : decode cX5_init 68 = .ok (.putfield 32, 3) := by decide +kernel
theorem dX5_init_71 : decode cX5_init 71 = .ok (.aload_n 0, 1) := by decide +kernel
theorem dX5_init_72 : decode cX5_init 72 = .ok (.iload_n 1, 1) := by decide +kernel
theorem dX5_init_73 : decode cX5_init 73 = .ok (.iconst 1, 1) := by decide +kernel
theorem dX5_init_74 : decode cX5_init 74 = .ok (.if_icmp .ge 7, 3) := by decide +kernel
theorem dX5_init_77 : decode cX5_init 77 = .ok (.iconst 1, 1) := by decide +kernel
theorem dX5_init_78 : decode cX5_init 78 = .ok (.goto 17, 3) := by decide +kernel
theorem dX5_init_81 : decode cX5_init 81 = .ok (.iload_n 1, 1) := by decide +kernel
theorem dX5_init_82 : decode cX5_init 82 = .ok (.sipush 300, 3) := by decide +kernel
theorem dX5_init_85 : decode cX5_init 85 = .ok (.if_icmp .le 9, 3) := by decide +kernel
theorem dX5_init_88 : decode cX5_init 88 = .ok (.sipush 300, 3) := by decide +kernel
theorem dX5_init_91 : decode cX5_init 91 = .ok (.goto 4, 3) := by decide +kernel
theorem dX5_init_94 : decode cX5_init 94 = .ok (.iload_n 1, 1) := by decide +kernel
theorem dX5_init_95 : decode cX5_init 95 = .ok (.putfield 35, 3) := by decide +kernel
theorem dX5_init_98 : decode cX5_init 98 = .ok (.aload_n 0, 1) := by decide +kernel
theorem dX5_init_99 : decode cX5_init 99 = .ok (.iload_n 2, 1) := by decide +kernel
theorem dX5_init_100 : decode cX5_init 100 = .ok (.iconst 1, 1) := by decide +kernel
theorem dX5_init_101 : decode cX5_init 101 = .ok (.if_icmp .ge 7, 3) := by decide +kernel
theorem dX5_init_104 : decode cX5_init 104 = .ok (.iconst 1, 1) := by decide +kernel
theorem dX5_init_105 : decode cX5_init 105 = .ok (.goto 15, 3) := by decide +kernel
theorem dX5_init_108 : decode cX5_init 108 = .ok (.iload_n 2, 1) := by decide +kernel
theorem dX5_init_109 : decode cX5_init 109 = .ok (.bipush 64, 2) := by decide +kernel
theorem dX5_init_111 : decode cX5_init 111 = .ok (.if_icmp .le 8, 3) := by decide +kernel
theorem dX5_init_114 : decode cX5_init 114 = .ok (.bipush 64, 2) := by decide +kernel
theorem dX5_init_116 : decode cX5_init 116 = .ok (.goto 4, 3) := by decide +kernel
theorem dX5_init_119 : decode cX5_init 119 = .ok (.iload_n 2, 1) := by decide +kernel
theorem dX5_init_120 : decode cX5_init 120 = .ok (.putfield 39, 3) := by decide +kernel
theorem dX5_init_123 : decode cX5_init 123 = .ok (.return_, 1) := by decide +kernel
theorem dX5_thrown_0 : decode cX5_thrown 0 = .ok (.aload_n 0, 1) := by decide +kernel
theorem dX5_thrown_1 : decode cX5_thrown 1 = .ok (.getfield 42, 3) := by decide +kernel
theorem dX5_thrown_4 : decode cX5_thrown 4 = .ok (.ireturn, 1) := by decide +kernel
theorem dX5_in_0 : decode cX5_in 0 = .ok (.iload_n 0, 1) := by decide +kernel
theorem dX5_in_1 : decode cX5_in 1 = .ok (.iload_n 1, 1) := by decide +kernel
theorem dX5_in_2 : decode cX5_in 2 = .ok (.if_icmp .lt 12, 3) := by decide +kernel
theorem dX5_in_5 : decode cX5_in 5 = .ok (.iload_n 0, 1) := by decide +kernel
theorem dX5_in_6 : decode cX5_in 6 = .ok (.iload_n 2, 1) := by decide +kernel
theorem dX5_in_7 : decode cX5_in 7 = .ok (.if_icmp .gt 7, 3) := by decide +kernel
theorem dX5_in_10 : decode cX5_in 10 = .ok (.iconst 1, 1) := by decide +kernel
theorem dX5_in_11 : decode cX5_in 11 = .ok (.goto 4, 3) := by decide +kernel
theorem dX5_in_14 : decode cX5_in 14 = .ok (.iconst 0, 1) := by decide +kernel
theorem dX5_in_15 : decode cX5_in 15 = .ok (.ireturn, 1) := by decide +kernel
theorem dX5_forget_0 : decode cX5_forget 0 = .ok (.iconst 0, 1) := by decide +kernel
theorem dX5_forget_1 : decode cX5_forget 1 = .ok (.istore_n 1, 1) := by decide +kernel
theorem dX5_forget_2 : decode cX5_forget 2 = .ok (.iload_n 1, 1) := by decide +kernel
theorem dX5_forget_3 : decode cX5_forget 3 = .ok (.iconst 4, 1) := by decide +kernel
theorem dX5_forget_4 : decode cX5_forget 4 = .ok (.if_icmp .ge 16, 3) := by decide +kernel
theorem dX5_forget_7 : decode cX5_forget 7 = .ok (.aload_n 0, 1) := by decide +kernel
theorem dX5_forget_8 : decode cX5_forget 8 = .ok (.getfield 13, 3) := by decide +kernel
theorem dX5_forget_11 : decode cX5_forget 11 = .ok (.iload_n 1, 1) := by decide +kernel
theorem dX5_forget_12 : decode cX5_forget 12 = .ok (.iconst 0, 1) := by decide +kernel
theorem dX5_forget_13 : decode cX5_forget 13 = .ok (.bastore, 1) := by decide +kernel
theorem dX5_forget_14 : decode cX5_forget 14 = .ok (.iinc 1 1, 3) := by decide +kernel
theorem dX5_forget_17 : decode cX5_forget 17 = .ok (.goto (-15), 3) := by decide +kernel
theorem dX5_forget_20 : decode cX5_forget 20 = .ok (.return_, 1) := by decide +kernel
theorem dX5_lay_0 : decode cX5_lay 0 = .ok (.aload_n 0, 1) := by decide +kernel
theorem dX5_lay_1 : decode cX5_lay 1 = .ok (.getfield 7, 3) := by decide +kernel
theorem dX5_lay_4 : decode cX5_lay 4 = .ok (.bipush 60, 2) := by decide +kernel
theorem dX5_lay_6 : decode cX5_lay 6 = .ok (.aload_n 0, 1) := by decide +kernel
theorem dX5_lay_7 : decode cX5_lay 7 = .ok (.getfield 45, 3) := by decide +kernel
theorem dX5_lay_10 : decode cX5_lay 10 = .ok (.iadd, 1) := by decide +kernel
theorem dX5_lay_11 : decode cX5_lay 11 = .ok (.iload_n 1, 1) := by decide +kernel
theorem dX5_lay_12 : decode cX5_lay 12 = .ok (.iastore, 1) := by decide +kernel
theorem dX5_lay_13 : decode cX5_lay 13 = .ok (.aload_n 0, 1) := by decide +kernel
theorem dX5_lay_14 : decode cX5_lay 14 = .ok (.dup, 1) := by decide +kernel
theorem dX5_lay_15 : decode cX5_lay 15 = .ok (.getfield 45, 3) := by decide +kernel
theorem dX5_lay_18 : decode cX5_lay 18 = .ok (.iconst 1, 1) := by decide +kernel
theorem dX5_lay_19 : decode cX5_lay 19 = .ok (.iadd, 1) := by decide +kernel
theorem dX5_lay_20 : decode cX5_lay 20 = .ok (.putfield 45, 3) := by decide +kernel
theorem dX5_lay_23 : decode cX5_lay 23 = .ok (.return_, 1) := by decide +kernel
set_option maxRecDepth 20000 in
theorem ggX5_add_X5_in : GoodIn wsX5_add wsX5_in := goodIn_r _ [6] (by decide +kernel) (by decide +kernel)
set_option maxRecDepth 20000 in
theorem gX5_add_X5_in : GoodIn wsX5_add (va_wsS RX5 48 yX5_in wsX5_in) := goodIn_app (goodIn_of _ (by decide +kernel)) ggX5_add_X5_in
set_option maxRecDepth 20000 in
theorem ggX5_add_X5_lay : GoodIn wsX5_add wsX5_lay := goodIn_r _ [10, 11, 2, 17, 18, 19, 20, 21, 22, 23, 24, 25, 26, 27, 28, 29, 30, 31, 32] (by decide +kernel) (by decide +kernel)
set_option maxRecDepth 20000 in
theorem gX5_add_X5_lay : GoodIn wsX5_add (wsV RX5 52 RX5 yX5_lay wsX5_lay) := goodIn_app (goodIn_of _ (by decide +kernel)) ggX5_add_X5_lay
set_option maxRecDepth 20000 in
theorem ggX5_add_X5_forget : GoodIn wsX5_add wsX5_forget := goodIn_r _ [15, 16, 17, 18, 19, 20, 21, 22, 23, 24, 25, 26, 27, 28, 29, 30, 31, 32] (by decide +kernel) (by decide +kernel)
set_option maxRecDepth 20000 in
theorem gX5_add_X5_forget : GoodIn wsX5_add (wsV RX5 56 RX5 yX5_forget wsX5_forget) := goodIn_app (goodIn_of _ (by decide +kernel)) ggX5_add_X5_forget
theorem dX5_add_0 : decode cX5_add 0 = .ok (.aload_n 0, 1) := by decide +kernel
theorem dX5_add_1 : decode cX5_add 1 = .ok (.iconst 0, 1) := by decide +kernel
theorem dX5_add_2 : decode cX5_add 2 = .ok (.putfield 42, 3) := by decide +kernel
theorem dX5_add_5 : decode cX5_add 5 = .ok (.iload_n 1, 1) := by decide +kernel
theorem dX5_add_6 : decode cX5_add 6 = .ok (.iconst 0, 1) := by decide +kernel
theorem dX5_add_7 : decode cX5_add 7 = .ok (.sipush 255, 3) := by decide +kernel
theorem dX5_add_10 : decode cX5_add 10 = .ok (.invokestatic 48, 3) := by decide +kernel
theorem dX5_add_13 : decode cX5_add 13 = .ok (.ifCond .ne 6, 3) := by decide +kernel
theorem dX5_add_16 : decode cX5_add 16 = .ok (.bipush (-2), 2) := by decide +kernel
theorem dX5_add_18 : decode cX5_add 18 = .ok (.ireturn, 1) := by decide +kernel
theorem dX5_add_19 : decode cX5_add 19 = .ok (.aload_n 0, 1) := by decide +kernel
theorem dX5_add_20 : decode cX5_add 20 = .ok (.getfield 45, 3) := by decide +kernel
theorem dX5_add_23 : decode cX5_add 23 = .ok (.sipush 300, 3) := by decide +kernel
theorem dX5_add_26 : decode cX5_add 26 = .ok (.if_icmp .ne 6, 3) := by decide +kernel
theorem dX5_add_29 : decode cX5_add 29 = .ok (.bipush (-4), 2) := by decide +kernel
theorem dX5_add_31 : decode cX5_add 31 = .ok (.ireturn, 1) := by decide +kernel
theorem dX5_add_32 : decode cX5_add 32 = .ok (.aload_n 0, 1) := by decide +kernel
theorem dX5_add_33 : decode cX5_add 33 = .ok (.iload_n 1, 1) := by decide +kernel
theorem dX5_add_34 : decode cX5_add 34 = .ok (.invokevirtual 52, 3) := by decide +kernel
theorem dX5_add_37 : decode cX5_add 37 = .ok (.aload_n 0, 1) := by decide +kernel
theorem dX5_add_38 : decode cX5_add 38 = .ok (.invokevirtual 56, 3) := by decide +kernel
theorem dX5_add_41 : decode cX5_add 41 = .ok (.aload_n 0, 1) := by decide +kernel
theorem dX5_add_42 : decode cX5_add 42 = .ok (.getfield 45, 3) := by decide +kernel
theorem dX5_add_45 : decode cX5_add 45 = .ok (.ireturn, 1) := by decide +kernel
set_option maxRecDepth 20000 in
theorem ggX5_fill_X5_in : GoodIn wsX5_fill wsX5_in := goodIn_r _ [8] (by decide +kernel) (by decide +kernel)
set_option maxRecDepth 20000 in
theorem gX5_fill_X5_in : GoodIn wsX5_fill (va_wsS RX5 48 yX5_in wsX5_in) := goodIn_app (goodIn_of _ (by decide +kernel)) ggX5_fill_X5_in
set_option maxRecDepth 20000 in
theorem ggX5_fill_X5_lay : GoodIn wsX5_fill wsX5_lay := goodIn_r _ [12, 4, 2, 18, 19, 20, 21, 22, 23, 24, 25, 26, 27, 28, 29, 30, 31, 32, 33] (by decide +kernel) (by decide +kernel)
set_option maxRecDepth 20000 in
theorem gX5_fill_X5_lay : GoodIn wsX5_fill (wsV RX5 52 RX5 yX5_lay wsX5_lay) := goodIn_app (goodIn_of _ (by decide +kernel)) ggX5_fill_X5_lay
set_option maxRecDepth 20000 in
theorem ggX5_fill_X5_forget : GoodIn wsX5_fill wsX5_forget := goodIn_r _ [16, 17, 18, 19, 20, 21, 22, 23, 24, 25, 26, 27, 28, 29, 30, 31, 32, 33] (by decide +kernel) (by decide +kernel)
set_option maxRecDepth 20000 in
theorem gX5_fill_X5_forget : GoodIn wsX5_fill (wsV RX5 56 RX5 yX5_forget wsX5_forget) := goodIn_app (goodIn_of _ (by decide +kernel)) ggX5_fill_X5_forget
theorem dX5_fill_0 : decode cX5_fill 0 = .ok (.aload_n 0, 1) := by decide +kernel
theorem dX5_fill_1 : decode cX5_fill 1 = .ok (.iconst 0, 1) := by decide +kernel
theorem dX5_fill_2 : decode cX5_fill 2 = .ok (.putfield 42, 3) := by decide +kernel
theorem dX5_fill_5 : decode cX5_fill 5 = .ok (.iload_n 1, 1) := by decide +kernel
theorem dX5_fill_6 : decode cX5_fill 6 = .ok (.iconst 1, 1) := by decide +kernel
theorem dX5_fill_7 : decode cX5_fill 7 = .ok (.sipush 300, 3) := by decide +kernel
theorem dX5_fill_10 : decode cX5_fill 10 = .ok (.invokestatic 48, 3) := by decide +kernel
theorem dX5_fill_13 : decode cX5_fill 13 = .ok (.ifCond .eq 12, 3) := by decide +kernel
theorem dX5_fill_16 : decode cX5_fill 16 = .ok (.iload_n 3, 1) := by decide +kernel
theorem dX5_fill_17 : decode cX5_fill 17 = .ok (.iconst 0, 1) := by decide +kernel
theorem dX5_fill_18 : decode cX5_fill 18 = .ok (.iconst 2, 1) := by decide +kernel
theorem dX5_fill_19 : decode cX5_fill 19 = .ok (.invokestatic 48, 3) := by decide +kernel
theorem dX5_fill_22 : decode cX5_fill 22 = .ok (.ifCond .ne 6, 3) := by decide +kernel
theorem dX5_fill_25 : decode cX5_fill 25 = .ok (.bipush (-2), 2) := by decide +kernel
theorem dX5_fill_27 : decode cX5_fill 27 = .ok (.ireturn, 1) := by decide +kernel
theorem dX5_fill_28 : decode cX5_fill 28 = .ok (.aload_n 0, 1) := by decide +kernel
theorem dX5_fill_29 : decode cX5_fill 29 = .ok (.getfield 45, 3) := by decide +kernel
theorem dX5_fill_32 : decode cX5_fill 32 = .ok (.iload_n 1, 1) := by decide +kernel
theorem dX5_fill_33 : decode cX5_fill 33 = .ok (.iadd, 1) := by decide +kernel
theorem dX5_fill_34 : decode cX5_fill 34 = .ok (.sipush 300, 3) := by decide +kernel
theorem dX5_fill_37 : decode cX5_fill 37 = .ok (.if_icmp .le 6, 3) := by decide +kernel
theorem dX5_fill_40 : decode cX5_fill 40 = .ok (.bipush (-4), 2) := by decide +kernel
theorem dX5_fill_42 : decode cX5_fill 42 = .ok (.ireturn, 1) := by decide +kernel
theorem dX5_fill_43 : decode cX5_fill 43 = .ok (.iload_n 2, 1) := by decide +kernel
theorem dX5_fill_44 : decode cX5_fill 44 = .ok (.istore 4, 2) := by decide +kernel
theorem dX5_fill_46 : decode cX5_fill 46 = .ok (.iconst 1, 1) := by decide +kernel
theorem dX5_fill_47 : decode cX5_fill 47 = .ok (.iload_n 2, 1) := by decide +kernel
theorem dX5_fill_48 : decode cX5_fill 48 = .ok (.bipush 27, 2) := by decide +kernel
theorem dX5_fill_50 : decode cX5_fill 50 = .ok (.iushr, 1) := by decide +kernel
theorem dX5_fill_51 : decode cX5_fill 51 = .ok (.iadd, 1) := by decide +kernel
theorem dX5_fill_52 : decode cX5_fill 52 = .ok (.istore 5, 2) := by decide +kernel
theorem dX5_fill_54 : decode cX5_fill 54 = .ok (.iconst 0, 1) := by decide +kernel
theorem dX5_fill_55 : decode cX5_fill 55 = .ok (.istore 6, 2) := by decide +kernel
theorem dX5_fill_57 : decode cX5_fill 57 = .ok (.iload 6, 2) := by decide +kernel
theorem dX5_fill_59 : decode cX5_fill 59 = .ok (.iload_n 1, 1) := by decide +kernel
theorem dX5_fill_60 : decode cX5_fill 60 = .ok (.if_icmp .ge 95, 3) := by decide +kernel
theorem dX5_fill_63 : decode cX5_fill 63 = .ok (.iload 4, 2) := by decide +kernel
theorem dX5_fill_65 : decode cX5_fill 65 = .ok (.ldc 59, 2) := by decide +kernel
theorem dX5_fill_67 : decode cX5_fill 67 = .ok (.imul, 1) := by decide +kernel
theorem dX5_fill_68 : decode cX5_fill 68 = .ok (.sipush 12345, 3) := by decide +kernel
theorem dX5_fill_71 : decode cX5_fill 71 = .ok (.iadd, 1) := by decide +kernel
theorem dX5_fill_72 : decode cX5_fill 72 = .ok (.istore 4, 2) := by decide +kernel
theorem dX5_fill_74 : decode cX5_fill 74 = .ok (.iload 4, 2) := by decide +kernel
theorem dX5_fill_76 : decode cX5_fill 76 = .ok (.bipush 16, 2) := by decide +kernel
theorem dX5_fill_78 : decode cX5_fill 78 = .ok (.iushr, 1) := by decide +kernel
theorem dX5_fill_79 : decode cX5_fill 79 = .ok (.istore 7, 2) := by decide +kernel
theorem dX5_fill_81 : decode cX5_fill 81 = .ok (.aload_n 0, 1) := by decide +kernel
theorem dX5_fill_82 : decode cX5_fill 82 = .ok (.iload_n 3, 1) := by decide +kernel
theorem dX5_fill_83 : decode cX5_fill 83 = .ok (.ifCond .ne 12, 3) := by decide +kernel
theorem dX5_fill_86 : decode cX5_fill 86 = .ok (.iload 7, 2) := by decide +kernel
theorem dX5_fill_88 : decode cX5_fill 88 = .ok (.sipush 256, 3) := by decide +kernel
theorem dX5_fill_91 : decode cX5_fill 91 = .ok (.irem, 1) := by decide +kernel
theorem dX5_fill_92 : decode cX5_fill 92 = .ok (.goto 54, 3) := by decide +kernel
theorem dX5_fill_95 : decode cX5_fill 95 = .ok (.iload_n 3, 1) := by decide +kernel
theorem dX5_fill_96 : decode cX5_fill 96 = .ok (.iconst 1, 1) := by decide +kernel
theorem dX5_fill_97 : decode cX5_fill 97 = .ok (.if_icmp .ne 10, 3) := by decide +kernel
theorem dX5_fill_100 : decode cX5_fill 100 = .ok (.iload 7, 2) := by decide +kernel
theorem dX5_fill_102 : decode cX5_fill 102 = .ok (.iconst 3, 1) := by decide +kernel
theorem dX5_fill_103 : decode cX5_fill 103 = .ok (.irem, 1) := by decide +kernel
theorem dX5_fill_104 : decode cX5_fill 104 = .ok (.goto 42, 3) := by decide +kernel
theorem dX5_fill_107 : decode cX5_fill 107 = .ok (.iload 7, 2) := by decide +kernel
theorem dX5_fill_109 : decode cX5_fill 109 = .ok (.bipush 8, 2) := by decide +kernel
theorem dX5_fill_111 : decode cX5_fill 111 = .ok (.irem, 1) := by decide +kernel
theorem dX5_fill_112 : decode cX5_fill 112 = .ok (.ifCond .eq 30, 3) := by decide +kernel
theorem dX5_fill_115 : decode cX5_fill 115 = .ok (.aload_n 0, 1) := by decide +kernel
theorem dX5_fill_116 : decode cX5_fill 116 = .ok (.getfield 45, 3) := by decide +kernel
theorem dX5_fill_119 : decode cX5_fill 119 = .ok (.iload 5, 2) := by decide +kernel
theorem dX5_fill_121 : decode cX5_fill 121 = .ok (.if_icmp .lt 21, 3) := by decide +kernel
theorem dX5_fill_124 : decode cX5_fill 124 = .ok (.aload_n 0, 1) := by decide +kernel
theorem dX5_fill_125 : decode cX5_fill 125 = .ok (.getfield 7, 3) := by decide +kernel
theorem dX5_fill_128 : decode cX5_fill 128 = .ok (.bipush 60, 2) := by decide +kernel
theorem dX5_fill_130 : decode cX5_fill 130 = .ok (.aload_n 0, 1) := by decide +kernel
theorem dX5_fill_131 : decode cX5_fill 131 = .ok (.getfield 45, 3) := by decide +kernel
theorem dX5_fill_134 : decode cX5_fill 134 = .ok (.iadd, 1) := by decide +kernel
theorem dX5_fill_135 : decode cX5_fill 135 = .ok (.iload 5, 2) := by decide +kernel
theorem dX5_fill_137 : decode cX5_fill 137 = .ok (.isub, 1) := by decide +kernel
theorem dX5_fill_138 : decode cX5_fill 138 = .ok (.iaload, 1) := by decide +kernel
theorem dX5_fill_139 : decode cX5_fill 139 = .ok (.goto 7, 3) := by decide +kernel
theorem dX5_fill_142 : decode cX5_fill 142 = .ok (.iload 7, 2) := by decide +kernel
theorem dX5_fill_144 : decode cX5_fill 144 = .ok (.iconst 4, 1) := by decide +kernel
theorem dX5_fill_145 : decode cX5_fill 145 = .ok (.irem, 1) := by decide +kernel
theorem dX5_fill_146 : decode cX5_fill 146 = .ok (.invokevirtual 52, 3) := by decide +kernel
theorem dX5_fill_149 : decode cX5_fill 149 = .ok (.iinc 6 1, 3) := by decide +kernel
theorem dX5_fill_152 : decode cX5_fill 152 = .ok (.goto (-95), 3) := by decide +kernel
theorem dX5_fill_155 : decode cX5_fill 155 = .ok (.aload_n 0, 1) := by decide +kernel
theorem dX5_fill_156 : decode cX5_fill 156 = .ok (.invokevirtual 56, 3) := by decide +kernel
theorem dX5_fill_159 : decode cX5_fill 159 = .ok (.aload_n 0, 1) := by decide +kernel
theorem dX5_fill_160 : decode cX5_fill 160 = .ok (.getfield 45, 3) := by decide +kernel
theorem dX5_fill_163 : decode cX5_fill 163 = .ok (.ireturn, 1) := by decide +kernel
set_option maxRecDepth 20000 in
theorem ggX5_clear_X5_forget : GoodIn wsX5_clear wsX5_forget := goodIn_r _ [7, 8, 9, 10, 11, 12, 13, 14, 15, 16, 17, 18, 19, 20, 21, 22, 23, 24] (by decide +kernel) (by decide +kernel)
set_option maxRecDepth 20000 in
theorem gX5_clear_X5_forget : GoodIn wsX5_clear (wsV RX5 56 RX5 yX5_forget wsX5_forget) := goodIn_app (goodIn_of _ (by decide +kernel)) ggX5_clear_X5_forget
theorem dX5_clear_0 : decode cX5_clear 0 = .ok (.aload_n 0, 1) := by decide +kernel
theorem dX5_clear_1 : decode cX5_clear 1 = .ok (.iconst 0, 1) := by decide +kernel
theorem dX5_clear_2 : decode cX5_clear 2 = .ok (.putfield 42, 3) := by decide +kernel
theorem dX5_clear_5 : decode cX5_clear 5 = .ok (.aload_n 0, 1) := by decide +kernel
theorem dX5_clear_6 : decode cX5_clear 6 = .ok (.getfield 45, 3) := by decide +kernel
theorem dX5_clear_9 : decode cX5_clear 9 = .ok (.istore_n 1, 1) := by decide +kernel
theorem dX5_clear_10 : decode cX5_clear 10 = .ok (.aload_n 0, 1) := by decide +kernel
theorem dX5_clear_11 : decode cX5_clear 11 = .ok (.iconst 0, 1) := by decide +kernel
theorem dX5_clear_12 : decode cX5_clear 12 = .ok (.putfield 45, 3) := by decide +kernel
theorem dX5_clear_15 : decode cX5_clear 15 = .ok (.aload_n 0, 1) := by decide +kernel
theorem dX5_clear_16 : decode cX5_clear 16 = .ok (.invokevirtual 56, 3) := by decide +kernel
theorem dX5_clear_19 : decode cX5_clear 19 = .ok (.iload_n 1, 1) := by decide +kernel
theorem dX5_clear_20 : decode cX5_clear 20 = .ok (.ireturn, 1) := by decide +kernel
set_option maxRecDepth 20000 in
theorem ggX5_dictionary_X5_forget : GoodIn wsX5_dictionary wsX5_forget := goodIn_r _ [9, 10, 11, 12, 13, 14, 15, 16, 17, 18, 19, 20, 21, 22, 23, 24, 25, 26] (by decide +kernel) (by decide +kernel)
set_option maxRecDepth 20000 in
theorem gX5_dictionary_X5_forget : GoodIn wsX5_dictionary (wsV RX5 56 RX5 yX5_forget wsX5_forget) := goodIn_app (goodIn_of _ (by decide +kernel)) ggX5_dictionary_X5_forget
theorem dX5_dictionary_0 : decode cX5_dictionary 0 = .ok (.aload_n 0, 1) := by decide +kernel
theorem dX5_dictionary_1 : decode cX5_dictionary 1 = .ok (.iconst 0, 1) := by decide +kernel
theorem dX5_dictionary_2 : decode cX5_dictionary 2 = .ok (.putfield 42, 3) := by decide +kernel
theorem dX5_dictionary_5 : decode cX5_dictionary 5 = .ok (.aload_n 0, 1) := by decide +kernel
theorem dX5_dictionary_6 : decode cX5_dictionary 6 = .ok (.aload_n 0, 1) := by decide +kernel
theorem dX5_dictionary_7 : decode cX5_dictionary 7 = .ok (.getfield 45, 3) := by decide +kernel
theorem dX5_dictionary_10 : decode cX5_dictionary 10 = .ok (.bipush 60, 2) := by decide +kernel
theorem dX5_dictionary_12 : decode cX5_dictionary 12 = .ok (.if_icmp .le 8, 3) := by decide +kernel
theorem dX5_dictionary_15 : decode cX5_dictionary 15 = .ok (.bipush 60, 2) := by decide +kernel
theorem dX5_dictionary_17 : decode cX5_dictionary 17 = .ok (.goto 7, 3) := by decide +kernel
theorem dX5_dictionary_20 : decode cX5_dictionary 20 = .ok (.aload_n 0, 1) := by decide +kernel
theorem dX5_dictionary_21 : decode cX5_dictionary 21 = .ok (.getfield 45, 3) := by decide +kernel
theorem dX5_dictionary_24 : decode cX5_dictionary 24 = .ok (.putfield 60, 3) := by decide +kernel
theorem dX5_dictionary_27 : decode cX5_dictionary 27 = .ok (.iconst 0, 1) := by decide +kernel
theorem dX5_dictionary_28 : decode cX5_dictionary 28 = .ok (.istore_n 1, 1) := by decide +kernel
theorem dX5_dictionary_29 : decode cX5_dictionary 29 = .ok (.iload_n 1, 1) := by decide +kernel
theorem dX5_dictionary_30 : decode cX5_dictionary 30 = .ok (.aload_n 0, 1) := by decide +kernel
theorem dX5_dictionary_31 : decode cX5_dictionary 31 = .ok (.getfield 60, 3) := by decide +kernel
theorem dX5_dictionary_34 : decode cX5_dictionary 34 = .ok (.if_icmp .ge 42, 3) := by decide +kernel
theorem dX5_dictionary_37 : decode cX5_dictionary 37 = .ok (.aload_n 0, 1) := by decide +kernel
theorem dX5_dictionary_38 : decode cX5_dictionary 38 = .ok (.getfield 7, 3) := by decide +kernel
theorem dX5_dictionary_41 : decode cX5_dictionary 41 = .ok (.bipush 60, 2) := by decide +kernel
theorem dX5_dictionary_43 : decode cX5_dictionary 43 = .ok (.aload_n 0, 1) := by decide +kernel
theorem dX5_dictionary_44 : decode cX5_dictionary 44 = .ok (.getfield 60, 3) := by decide +kernel
theorem dX5_dictionary_47 : decode cX5_dictionary 47 = .ok (.isub, 1) := by decide +kernel
theorem dX5_dictionary_48 : decode cX5_dictionary 48 = .ok (.iload_n 1, 1) := by decide +kernel
theorem dX5_dictionary_49 : decode cX5_dictionary 49 = .ok (.iadd, 1) := by decide +kernel
theorem dX5_dictionary_50 : decode cX5_dictionary 50 = .ok (.aload_n 0, 1) := by decide +kernel
theorem dX5_dictionary_51 : decode cX5_dictionary 51 = .ok (.getfield 7, 3) := by decide +kernel
theorem dX5_dictionary_54 : decode cX5_dictionary 54 = .ok (.bipush 60, 2) := by decide +kernel
theorem dX5_dictionary_56 : decode cX5_dictionary 56 = .ok (.aload_n 0, 1) := by decide +kernel
theorem dX5_dictionary_57 : decode cX5_dictionary 57 = .ok (.getfield 45, 3) := by decide +kernel
theorem dX5_dictionary_60 : decode cX5_dictionary 60 = .ok (.iadd, 1) := by decide +kernel
theorem dX5_dictionary_61 : decode cX5_dictionary 61 = .ok (.aload_n 0, 1) := by decide +kernel
theorem dX5_dictionary_62 : decode cX5_dictionary 62 = .ok (.getfield 60, 3) := by decide +kernel
theorem dX5_dictionary_65 : decode cX5_dictionary 65 = .ok (.isub, 1) := by decide +kernel
theorem dX5_dictionary_66 : decode cX5_dictionary 66 = .ok (.iload_n 1, 1) := by decide +kernel
theorem dX5_dictionary_67 : decode cX5_dictionary 67 = .ok (.iadd, 1) := by decide +kernel
theorem dX5_dictionary_68 : decode cX5_dictionary 68 = .ok (.iaload, 1) := by decide +kernel
theorem dX5_dictionary_69 : decode cX5_dictionary 69 = .ok (.iastore, 1) := by decide +kernel
theorem dX5_dictionary_70 : decode cX5_dictionary 70 = .ok (.iinc 1 1, 3) := by decide +kernel
theorem dX5_dictionary_73 : decode cX5_dictionary 73 = .ok (.goto (-44), 3) := by decide +kernel
theorem dX5_dictionary_76 : decode cX5_dictionary 76 = .ok (.aload_n 0, 1) := by decide +kernel
theorem dX5_dictionary_77 : decode cX5_dictionary 77 = .ok (.iconst 0, 1) := by decide +kernel
theorem dX5_dictionary_78 : decode cX5_dictionary 78 = .ok (.putfield 45, 3) := by decide +kernel
theorem dX5_dictionary_81 : decode cX5_dictionary 81 = .ok (.aload_n 0, 1) := by decide +kernel
theorem dX5_dictionary_82 : decode cX5_dictionary 82 = .ok (.invokevirtual 56, 3) := by decide +kernel
theorem dX5_dictionary_85 : decode cX5_dictionary 85 = .ok (.aload_n 0, 1) := by decide +kernel
theorem dX5_dictionary_86 : decode cX5_dictionary 86 = .ok (.getfield 60, 3) := by decide +kernel
theorem dX5_dictionary_89 : decode cX5_dictionary 89 = .ok (.ireturn, 1) := by decide +kernel
theorem dX5_size_0 : decode cX5_size 0 = .ok (.aload_n 0, 1) := by decide +kernel
theorem dX5_size_1 : decode cX5_size 1 = .ok (.iconst 0, 1) := by decide +kernel
theorem dX5_size_2 : decode cX5_size 2 = .ok (.putfield 42, 3) := by decide +kernel
theorem dX5_size_5 : decode cX5_size 5 = .ok (.iload_n 1, 1) := by decide +kernel
theorem dX5_size_6 : decode cX5_size 6 = .ok (.ifCond .ne 10, 3) := by decide +kernel
theorem dX5_size_9 : decode cX5_size 9 = .ok (.aload_n 0, 1) := by decide +kernel
theorem dX5_size_10 : decode cX5_size 10 = .ok (.getfield 45, 3) := by decide +kernel
theorem dX5_size_13 : decode cX5_size 13 = .ok (.goto 17, 3) := by decide +kernel
theorem dX5_size_16 : decode cX5_size 16 = .ok (.iload_n 1, 1) := by decide +kernel
theorem dX5_size_17 : decode cX5_size 17 = .ok (.iconst 1, 1) := by decide +kernel
theorem dX5_size_18 : decode cX5_size 18 = .ok (.if_icmp .ne 10, 3) := by decide +kernel
theorem dX5_size_21 : decode cX5_size 21 = .ok (.aload_n 0, 1) := by decide +kernel
theorem dX5_size_22 : decode cX5_size 22 = .ok (.getfield 60, 3) := by decide +kernel
theorem dX5_size_25 : decode cX5_size 25 = .ok (.goto 5, 3) := by decide +kernel
theorem dX5_size_28 : decode cX5_size 28 = .ok (.bipush (-2), 2) := by decide +kernel
theorem dX5_size_30 : decode cX5_size 30 = .ok (.ireturn, 1) := by decide +kernel
set_option maxRecDepth 20000 in
theorem ggX5_octet_X5_in : GoodIn wsX5_octet wsX5_in := goodIn_r _ [8] (by decide +kernel) (by decide +kernel)
set_option maxRecDepth 20000 in
theorem gX5_octet_X5_in : GoodIn wsX5_octet (va_wsS RX5 48 yX5_in wsX5_in) := goodIn_app (goodIn_of _ (by decide +kernel)) ggX5_octet_X5_in
theorem dX5_octet_0 : decode cX5_octet 0 = .ok (.aload_n 0, 1) := by decide +kernel
theorem dX5_octet_1 : decode cX5_octet 1 = .ok (.iconst 0, 1) := by decide +kernel
theorem dX5_octet_2 : decode cX5_octet 2 = .ok (.putfield 42, 3) := by decide +kernel
theorem dX5_octet_5 : decode cX5_octet 5 = .ok (.iload_n 1, 1) := by decide +kernel
theorem dX5_octet_6 : decode cX5_octet 6 = .ok (.aload_n 0, 1) := by decide +kernel
theorem dX5_octet_7 : decode cX5_octet 7 = .ok (.getfield 60, 3) := by decide +kernel
theorem dX5_octet_10 : decode cX5_octet 10 = .ok (.ineg, 1) := by decide +kernel
theorem dX5_octet_11 : decode cX5_octet 11 = .ok (.aload_n 0, 1) := by decide +kernel
theorem dX5_octet_12 : decode cX5_octet 12 = .ok (.getfield 45, 3) := by decide +kernel
theorem dX5_octet_15 : decode cX5_octet 15 = .ok (.iconst 1, 1) := by decide +kernel
theorem dX5_octet_16 : decode cX5_octet 16 = .ok (.isub, 1) := by decide +kernel
theorem dX5_octet_17 : decode cX5_octet 17 = .ok (.invokestatic 48, 3) := by decide +kernel
theorem dX5_octet_20 : decode cX5_octet 20 = .ok (.ifCond .eq 15, 3) := by decide +kernel
theorem dX5_octet_23 : decode cX5_octet 23 = .ok (.aload_n 0, 1) := by decide +kernel
theorem dX5_octet_24 : decode cX5_octet 24 = .ok (.getfield 7, 3) := by decide +kernel
theorem dX5_octet_27 : decode cX5_octet 27 = .ok (.bipush 60, 2) := by decide +kernel
theorem dX5_octet_29 : decode cX5_octet 29 = .ok (.iload_n 1, 1) := by decide +kernel
theorem dX5_octet_30 : decode cX5_octet 30 = .ok (.iadd, 1) := by decide +kernel
theorem dX5_octet_31 : decode cX5_octet 31 = .ok (.iaload, 1) := by decide +kernel
theorem dX5_octet_32 : decode cX5_octet 32 = .ok (.goto 4, 3) := by decide +kernel
theorem dX5_octet_35 : decode cX5_octet 35 = .ok (.iconst (-1), 1) := by decide +kernel
theorem dX5_octet_36 : decode cX5_octet 36 = .ok (.ireturn, 1) := by decide +kernel
theorem dX5_longAt_0 : decode cX5_longAt 0 = .ok (.iload_n 2, 1) := by decide +kernel
theorem dX5_longAt_1 : decode cX5_longAt 1 = .ok (.iload_n 1, 1) := by decide +kernel
theorem dX5_longAt_2 : decode cX5_longAt 2 = .ok (.aload_n 0, 1) := by decide +kernel
theorem dX5_longAt_3 : decode cX5_longAt 3 = .ok (.getfield 60, 3) := by decide +kernel
theorem dX5_longAt_6 : decode cX5_longAt 6 = .ok (.iadd, 1) := by decide +kernel
theorem dX5_longAt_7 : decode cX5_longAt 7 = .ok (.if_icmp .le 5, 3) := by decide +kernel
theorem dX5_longAt_10 : decode cX5_longAt 10 = .ok (.iconst 0, 1) := by decide +kernel
theorem dX5_longAt_11 : decode cX5_longAt 11 = .ok (.ireturn, 1) := by decide +kernel
theorem dX5_longAt_12 : decode cX5_longAt 12 = .ok (.iconst 0, 1) := by decide +kernel
theorem dX5_longAt_13 : decode cX5_longAt 13 = .ok (.istore_n 3, 1) := by decide +kernel
theorem dX5_longAt_14 : decode cX5_longAt 14 = .ok (.iload_n 3, 1) := by decide +kernel
theorem dX5_longAt_15 : decode cX5_longAt 15 = .ok (.bipush 40, 2) := by decide +kernel
theorem dX5_longAt_17 : decode cX5_longAt 17 = .ok (.if_icmp .ge 46, 3) := by decide +kernel
theorem dX5_longAt_20 : decode cX5_longAt 20 = .ok (.iload_n 1, 1) := by decide +kernel
theorem dX5_longAt_21 : decode cX5_longAt 21 = .ok (.iload_n 3, 1) := by decide +kernel
theorem dX5_longAt_22 : decode cX5_longAt 22 = .ok (.iadd, 1) := by decide +kernel
theorem dX5_longAt_23 : decode cX5_longAt 23 = .ok (.aload_n 0, 1) := by decide +kernel
theorem dX5_longAt_24 : decode cX5_longAt 24 = .ok (.getfield 45, 3) := by decide +kernel
theorem dX5_longAt_27 : decode cX5_longAt 27 = .ok (.if_icmp .ge 36, 3) := by decide +kernel
theorem dX5_longAt_30 : decode cX5_longAt 30 = .ok (.aload_n 0, 1) := by decide +kernel
theorem dX5_longAt_31 : decode cX5_longAt 31 = .ok (.getfield 7, 3) := by decide +kernel
theorem dX5_longAt_34 : decode cX5_longAt 34 = .ok (.bipush 60, 2) := by decide +kernel
theorem dX5_longAt_36 : decode cX5_longAt 36 = .ok (.iload_n 1, 1) := by decide +kernel
theorem dX5_longAt_37 : decode cX5_longAt 37 = .ok (.iadd, 1) := by decide +kernel
theorem dX5_longAt_38 : decode cX5_longAt 38 = .ok (.iload_n 3, 1) := by decide +kernel
theorem dX5_longAt_39 : decode cX5_longAt 39 = .ok (.iadd, 1) := by decide +kernel
theorem dX5_longAt_40 : decode cX5_longAt 40 = .ok (.iaload, 1) := by decide +kernel
theorem dX5_longAt_41 : decode cX5_longAt 41 = .ok (.aload_n 0, 1) := by decide +kernel
theorem dX5_longAt_42 : decode cX5_longAt 42 = .ok (.getfield 7, 3) := by decide +kernel
theorem dX5_longAt_45 : decode cX5_longAt 45 = .ok (.bipush 60, 2) := by decide +kernel
theorem dX5_longAt_47 : decode cX5_longAt 47 = .ok (.iload_n 1, 1) := by decide +kernel
theorem dX5_longAt_48 : decode cX5_longAt 48 = .ok (.iadd, 1) := by decide +kernel
theorem dX5_longAt_49 : decode cX5_longAt 49 = .ok (.iload_n 3, 1) := by decide +kernel
theorem dX5_longAt_50 : decode cX5_longAt 50 = .ok (.iadd, 1) := by decide +kernel
theorem dX5_longAt_51 : decode cX5_longAt 51 = .ok (.iload_n 2, 1) := by decide +kernel
theorem dX5_longAt_52 : decode cX5_longAt 52 = .ok (.isub, 1) := by decide +kernel
theorem dX5_longAt_53 : decode cX5_longAt 53 = .ok (.iaload, 1) := by decide +kernel
theorem dX5_longAt_54 : decode cX5_longAt 54 = .ok (.if_icmp .ne 9, 3) := by decide +kernel
theorem dX5_longAt_57 : decode cX5_longAt 57 = .ok (.iinc 3 1, 3) := by decide +kernel
theorem dX5_longAt_60 : decode cX5_longAt 60 = .ok (.goto (-46), 3) := by decide +kernel
theorem dX5_longAt_63 : decode cX5_longAt 63 = .ok (.iload_n 3, 1) := by decide +kernel
theorem dX5_longAt_64 : decode cX5_longAt 64 = .ok (.iconst 3, 1) := by decide +kernel
theorem dX5_longAt_65 : decode cX5_longAt 65 = .ok (.if_icmp .ge 7, 3) := by decide +kernel
theorem dX5_longAt_68 : decode cX5_longAt 68 = .ok (.iconst 0, 1) := by decide +kernel
theorem dX5_longAt_69 : decode cX5_longAt 69 = .ok (.goto 4, 3) := by decide +kernel
theorem dX5_longAt_72 : decode cX5_longAt 72 = .ok (.iload_n 3, 1) := by decide +kernel
theorem dX5_longAt_73 : decode cX5_longAt 73 = .ok (.ireturn, 1) := by decide +kernel
set_option maxRecDepth 20000 in
theorem ggX5_find_X5_longAt : GoodIn wsX5_find wsX5_longAt := goodIn_r _ [8, 9, 10, 11, 12, 13, 14, 15, 16, 17, 18, 19, 20, 21, 22, 23, 24, 25, 26, 27] (by decide +kernel) (by decide +kernel)
set_option maxRecDepth 20000 in
theorem gX5_find_X5_longAt : GoodIn wsX5_find (wsV RX5 69 RX5 yX5_longAt wsX5_longAt) := goodIn_app (goodIn_of _ (by decide +kernel)) ggX5_find_X5_longAt
theorem dX5_find_0 : decode cX5_find 0 = .ok (.aload_n 0, 1) := by decide +kernel
theorem dX5_find_1 : decode cX5_find 1 = .ok (.iconst 0, 1) := by decide +kernel
theorem dX5_find_2 : decode cX5_find 2 = .ok (.putfield 63, 3) := by decide +kernel
theorem dX5_find_5 : decode cX5_find 5 = .ok (.aload_n 0, 1) := by decide +kernel
theorem dX5_find_6 : decode cX5_find 6 = .ok (.iconst 0, 1) := by decide +kernel
theorem dX5_find_7 : decode cX5_find 7 = .ok (.putfield 66, 3) := by decide +kernel
theorem dX5_find_10 : decode cX5_find 10 = .ok (.iconst 0, 1) := by decide +kernel
theorem dX5_find_11 : decode cX5_find 11 = .ok (.istore_n 3, 1) := by decide +kernel
theorem dX5_find_12 : decode cX5_find 12 = .ok (.iconst 1, 1) := by decide +kernel
theorem dX5_find_13 : decode cX5_find 13 = .ok (.istore 4, 2) := by decide +kernel
theorem dX5_find_15 : decode cX5_find 15 = .ok (.iload 4, 2) := by decide +kernel
theorem dX5_find_17 : decode cX5_find 17 = .ok (.aload_n 0, 1) := by decide +kernel
theorem dX5_find_18 : decode cX5_find 18 = .ok (.getfield 35, 3) := by decide +kernel
theorem dX5_find_21 : decode cX5_find 21 = .ok (.if_icmp .gt 57, 3) := by decide +kernel
theorem dX5_find_24 : decode cX5_find 24 = .ok (.iload_n 3, 1) := by decide +kernel
theorem dX5_find_25 : decode cX5_find 25 = .ok (.iload_n 2, 1) := by decide +kernel
theorem dX5_find_26 : decode cX5_find 26 = .ok (.if_icmp .ge 52, 3) := by decide +kernel
theorem dX5_find_29 : decode cX5_find 29 = .ok (.aload_n 0, 1) := by decide +kernel
theorem dX5_find_30 : decode cX5_find 30 = .ok (.iload_n 1, 1) := by decide +kernel
theorem dX5_find_31 : decode cX5_find 31 = .ok (.iload 4, 2) := by decide +kernel
theorem dX5_find_33 : decode cX5_find 33 = .ok (.invokevirtual 69, 3) := by decide +kernel
theorem dX5_find_36 : decode cX5_find 36 = .ok (.istore 5, 2) := by decide +kernel
theorem dX5_find_38 : decode cX5_find 38 = .ok (.iload_n 3, 1) := by decide +kernel
theorem dX5_find_39 : decode cX5_find 39 = .ok (.iload 5, 2) := by decide +kernel
theorem dX5_find_41 : decode cX5_find 41 = .ok (.ifCond .le 7, 3) := by decide +kernel
theorem dX5_find_44 : decode cX5_find 44 = .ok (.iconst 1, 1) := by decide +kernel
theorem dX5_find_45 : decode cX5_find 45 = .ok (.goto 4, 3) := by decide +kernel
theorem dX5_find_48 : decode cX5_find 48 = .ok (.iconst 0, 1) := by decide +kernel
theorem dX5_find_49 : decode cX5_find 49 = .ok (.iadd, 1) := by decide +kernel
theorem dX5_find_50 : decode cX5_find 50 = .ok (.istore_n 3, 1) := by decide +kernel
theorem dX5_find_51 : decode cX5_find 51 = .ok (.iload 5, 2) := by decide +kernel
theorem dX5_find_53 : decode cX5_find 53 = .ok (.aload_n 0, 1) := by decide +kernel
theorem dX5_find_54 : decode cX5_find 54 = .ok (.getfield 63, 3) := by decide +kernel
theorem dX5_find_57 : decode cX5_find 57 = .ok (.if_icmp .le 15, 3) := by decide +kernel
theorem dX5_find_60 : decode cX5_find 60 = .ok (.aload_n 0, 1) := by decide +kernel
theorem dX5_find_61 : decode cX5_find 61 = .ok (.iload 5, 2) := by decide +kernel
theorem dX5_find_63 : decode cX5_find 63 = .ok (.putfield 63, 3) := by decide +kernel
theorem dX5_find_66 : decode cX5_find 66 = .ok (.aload_n 0, 1) := by decide +kernel
theorem dX5_find_67 : decode cX5_find 67 = .ok (.iload 4, 2) := by decide +kernel
theorem dX5_find_69 : decode cX5_find 69 = .ok (.putfield 66, 3) := by decide +kernel
theorem dX5_find_72 : decode cX5_find 72 = .ok (.iinc 4 1, 3) := by decide +kernel
theorem dX5_find_75 : decode cX5_find 75 = .ok (.goto (-60), 3) := by decide +kernel
theorem dX5_find_78 : decode cX5_find 78 = .ok (.return_, 1) := by decide +kernel
set_option maxRecDepth 20000 in
theorem ggX5_told_X5_in : GoodIn wsX5_told wsX5_in := goodIn_r _ [7] (by decide +kernel) (by decide +kernel)
set_option maxRecDepth 20000 in
theorem gX5_told_X5_in : GoodIn wsX5_told (va_wsS RX5 48 yX5_in wsX5_in) := goodIn_app (goodIn_of _ (by decide +kernel)) ggX5_told_X5_in
set_option maxRecDepth 20000 in
theorem ggX5_told_X5_find : GoodIn wsX5_told wsX5_find := goodIn_r _ [11, 2, 3, 12, 13, 14, 15, 6, 16, 17, 1, 18, 19, 20, 21, 22, 23, 24, 25, 26, 27, 28, 29, 30, 31, 32, 33, 34] (by decide +kernel) (by decide +kernel)
set_option maxRecDepth 20000 in
theorem gX5_told_X5_find : GoodIn wsX5_told (wsV RX5 73 RX5 yX5_find wsX5_find) := goodIn_app (goodIn_of _ (by decide +kernel)) ggX5_told_X5_find
theorem dX5_told_0 : decode cX5_told 0 = .ok (.iload_n 1, 1) := by decide +kernel
theorem dX5_told_1 : decode cX5_told 1 = .ok (.iconst 0, 1) := by decide +kernel
theorem dX5_told_2 : decode cX5_told 2 = .ok (.aload_n 0, 1) := by decide +kernel
theorem dX5_told_3 : decode cX5_told 3 = .ok (.getfield 45, 3) := by decide +kernel
theorem dX5_told_6 : decode cX5_told 6 = .ok (.iconst 1, 1) := by decide +kernel
theorem dX5_told_7 : decode cX5_told 7 = .ok (.isub, 1) := by decide +kernel
theorem dX5_told_8 : decode cX5_told 8 = .ok (.invokestatic 48, 3) := by decide +kernel
theorem dX5_told_11 : decode cX5_told 11 = .ok (.ifCond .ne 5, 3) := by decide +kernel
theorem dX5_told_14 : decode cX5_told 14 = .ok (.iconst (-1), 1) := by decide +kernel
theorem dX5_told_15 : decode cX5_told 15 = .ok (.ireturn, 1) := by decide +kernel
theorem dX5_told_16 : decode cX5_told 16 = .ok (.iload_n 2, 1) := by decide +kernel
theorem dX5_told_17 : decode cX5_told 17 = .ok (.iconst 0, 1) := by decide +kernel
theorem dX5_told_18 : decode cX5_told 18 = .ok (.iconst 1, 1) := by decide +kernel
theorem dX5_told_19 : decode cX5_told 19 = .ok (.invokestatic 48, 3) := by decide +kernel
theorem dX5_told_22 : decode cX5_told 22 = .ok (.ifCond .ne 6, 3) := by decide +kernel
theorem dX5_told_25 : decode cX5_told 25 = .ok (.bipush (-2), 2) := by decide +kernel
theorem dX5_told_27 : decode cX5_told 27 = .ok (.ireturn, 1) := by decide +kernel
theorem dX5_told_28 : decode cX5_told 28 = .ok (.aload_n 0, 1) := by decide +kernel
theorem dX5_told_29 : decode cX5_told 29 = .ok (.iload_n 1, 1) := by decide +kernel
theorem dX5_told_30 : decode cX5_told 30 = .ok (.iload_n 3, 1) := by decide +kernel
theorem dX5_told_31 : decode cX5_told 31 = .ok (.invokevirtual 73, 3) := by decide +kernel
theorem dX5_told_34 : decode cX5_told 34 = .ok (.iload_n 2, 1) := by decide +kernel
theorem dX5_told_35 : decode cX5_told 35 = .ok (.ifCond .ne 10, 3) := by decide +kernel
theorem dX5_told_38 : decode cX5_told 38 = .ok (.aload_n 0, 1) := by decide +kernel
theorem dX5_told_39 : decode cX5_told 39 = .ok (.getfield 63, 3) := by decide +kernel
theorem dX5_told_42 : decode cX5_told 42 = .ok (.goto 7, 3) := by decide +kernel
theorem dX5_told_45 : decode cX5_told 45 = .ok (.aload_n 0, 1) := by decide +kernel
theorem dX5_told_46 : decode cX5_told 46 = .ok (.getfield 66, 3) := by decide +kernel
theorem dX5_told_49 : decode cX5_told 49 = .ok (.ireturn, 1) := by decide +kernel
set_option maxRecDepth 20000 in
theorem ggX5_longest_X5_told : GoodIn wsX5_longest wsX5_told := goodIn_r _ [6, 7, 8, 9, 10, 11, 5, 12, 13, 14, 15, 16, 17, 18, 19, 20, 21, 22, 23, 24, 25, 26, 27, 28, 29, 30, 31, 32, 33, 34, 35, 36, 37, 38, 39] (by decide +kernel) (by decide +kernel)
set_option maxRecDepth 20000 in
theorem gX5_longest_X5_told : GoodIn wsX5_longest (wsV RX5 77 RX5 yX5_told wsX5_told) := goodIn_app (goodIn_of _ (by decide +kernel)) ggX5_longest_X5_told
theorem dX5_longest_0 : decode cX5_longest 0 = .ok (.aload_n 0, 1) := by decide +kernel
theorem dX5_longest_1 : decode cX5_longest 1 = .ok (.iconst 0, 1) := by decide +kernel
theorem dX5_longest_2 : decode cX5_longest 2 = .ok (.putfield 42, 3) := by decide +kernel
theorem dX5_longest_5 : decode cX5_longest 5 = .ok (.aload_n 0, 1) := by decide +kernel
theorem dX5_longest_6 : decode cX5_longest 6 = .ok (.iload_n 1, 1) := by decide +kernel
theorem dX5_longest_7 : decode cX5_longest 7 = .ok (.iload_n 2, 1) := by decide +kernel
theorem dX5_longest_8 : decode cX5_longest 8 = .ok (.sipush 301, 3) := by decide +kernel
theorem dX5_longest_11 : decode cX5_longest 11 = .ok (.invokevirtual 77, 3) := by decide +kernel
theorem dX5_longest_14 : decode cX5_longest 14 = .ok (.ireturn, 1) := by decide +kernel
set_option maxRecDepth 20000 in
theorem ggX5_chained_X5_told : GoodIn wsX5_chained wsX5_told := goodIn_r _ [7, 8, 9, 10, 11, 12, 6, 13, 14, 15, 16, 17, 18, 19, 20, 21, 22, 23, 24, 25, 26, 27, 28, 29, 30, 31, 32, 33, 34, 35, 36, 37, 38, 39, 40] (by decide +kernel) (by decide +kernel)
set_option maxRecDepth 20000 in
theorem gX5_chained_X5_told : GoodIn wsX5_chained (wsV RX5 77 RX5 yX5_told wsX5_told) := goodIn_app (goodIn_of _ (by decide +kernel)) ggX5_chained_X5_told
theorem dX5_chained_0 : decode cX5_chained 0 = .ok (.aload_n 0, 1) := by decide +kernel
theorem dX5_chained_1 : decode cX5_chained 1 = .ok (.iconst 0, 1) := by decide +kernel
theorem dX5_chained_2 : decode cX5_chained 2 = .ok (.putfield 42, 3) := by decide +kernel
theorem dX5_chained_5 : decode cX5_chained 5 = .ok (.aload_n 0, 1) := by decide +kernel
theorem dX5_chained_6 : decode cX5_chained 6 = .ok (.iload_n 1, 1) := by decide +kernel
theorem dX5_chained_7 : decode cX5_chained 7 = .ok (.iload_n 2, 1) := by decide +kernel
theorem dX5_chained_8 : decode cX5_chained 8 = .ok (.aload_n 0, 1) := by decide +kernel
theorem dX5_chained_9 : decode cX5_chained 9 = .ok (.getfield 39, 3) := by decide +kernel
theorem dX5_chained_12 : decode cX5_chained 12 = .ok (.invokevirtual 77, 3) := by decide +kernel
theorem dX5_chained_15 : decode cX5_chained 15 = .ok (.ireturn, 1) := by decide +kernel
set_option maxRecDepth 20000 in
theorem ggX5_front_X5_in : GoodIn wsX5_front wsX5_in := goodIn_r _ [7] (by decide +kernel) (by decide +kernel)
set_option maxRecDepth 20000 in
theorem gX5_front_X5_in : GoodIn wsX5_front (va_wsS RX5 48 yX5_in wsX5_in) := goodIn_app (goodIn_of _ (by decide +kernel)) ggX5_front_X5_in
set_option maxRecDepth 20000 in
theorem ggX5_front_X5_longAt : GoodIn wsX5_front wsX5_longAt := goodIn_r _ [11, 12, 2, 13, 14, 15, 16, 17, 18, 19, 20, 21, 22, 23, 24, 25, 26, 27, 28, 29] (by decide +kernel) (by decide +kernel)
set_option maxRecDepth 20000 in
theorem gX5_front_X5_longAt : GoodIn wsX5_front (wsV RX5 69 RX5 yX5_longAt wsX5_longAt) := goodIn_app (goodIn_of _ (by decide +kernel)) ggX5_front_X5_longAt
theorem dX5_front_0 : decode cX5_front 0 = .ok (.aload_n 0, 1) := by decide +kernel
theorem dX5_front_1 : decode cX5_front 1 = .ok (.iconst 0, 1) := by decide +kernel
theorem dX5_front_2 : decode cX5_front 2 = .ok (.putfield 42, 3) := by decide +kernel
theorem dX5_front_5 : decode cX5_front 5 = .ok (.iload_n 1, 1) := by decide +kernel
theorem dX5_front_6 : decode cX5_front 6 = .ok (.iconst 0, 1) := by decide +kernel
theorem dX5_front_7 : decode cX5_front 7 = .ok (.aload_n 0, 1) := by decide +kernel
theorem dX5_front_8 : decode cX5_front 8 = .ok (.getfield 45, 3) := by decide +kernel
theorem dX5_front_11 : decode cX5_front 11 = .ok (.iconst 1, 1) := by decide +kernel
theorem dX5_front_12 : decode cX5_front 12 = .ok (.isub, 1) := by decide +kernel
theorem dX5_front_13 : decode cX5_front 13 = .ok (.invokestatic 48, 3) := by decide +kernel
theorem dX5_front_16 : decode cX5_front 16 = .ok (.ifCond .eq 8, 3) := by decide +kernel
theorem dX5_front_19 : decode cX5_front 19 = .ok (.iload_n 2, 1) := by decide +kernel
theorem dX5_front_20 : decode cX5_front 20 = .ok (.iconst (-1), 1) := by decide +kernel
theorem dX5_front_21 : decode cX5_front 21 = .ok (.if_icmp .ge 5, 3) := by decide +kernel
theorem dX5_front_24 : decode cX5_front 24 = .ok (.iconst (-1), 1) := by decide +kernel
theorem dX5_front_25 : decode cX5_front 25 = .ok (.ireturn, 1) := by decide +kernel
theorem dX5_front_26 : decode cX5_front 26 = .ok (.iconst 0, 1) := by decide +kernel
theorem dX5_front_27 : decode cX5_front 27 = .ok (.istore 4, 2) := by decide +kernel
theorem dX5_front_29 : decode cX5_front 29 = .ok (.iconst 0, 1) := by decide +kernel
theorem dX5_front_30 : decode cX5_front 30 = .ok (.istore 5, 2) := by decide +kernel
theorem dX5_front_32 : decode cX5_front 32 = .ok (.iconst (-1), 1) := by decide +kernel
theorem dX5_front_33 : decode cX5_front 33 = .ok (.istore 6, 2) := by decide +kernel
theorem dX5_front_35 : decode cX5_front 35 = .ok (.iconst 1, 1) := by decide +kernel
theorem dX5_front_36 : decode cX5_front 36 = .ok (.istore 7, 2) := by decide +kernel
theorem dX5_front_38 : decode cX5_front 38 = .ok (.iload 7, 2) := by decide +kernel
theorem dX5_front_40 : decode cX5_front 40 = .ok (.aload_n 0, 1) := by decide +kernel
theorem dX5_front_41 : decode cX5_front 41 = .ok (.getfield 35, 3) := by decide +kernel
theorem dX5_front_44 : decode cX5_front 44 = .ok (.if_icmp .gt 56, 3) := by decide +kernel
theorem dX5_front_47 : decode cX5_front 47 = .ok (.aload_n 0, 1) := by decide +kernel
theorem dX5_front_48 : decode cX5_front 48 = .ok (.iload_n 1, 1) := by decide +kernel
theorem dX5_front_49 : decode cX5_front 49 = .ok (.iload 7, 2) := by decide +kernel
theorem dX5_front_51 : decode cX5_front 51 = .ok (.invokevirtual 69, 3) := by decide +kernel
theorem dX5_front_54 : decode cX5_front 54 = .ok (.istore 8, 2) := by decide +kernel
theorem dX5_front_56 : decode cX5_front 56 = .ok (.iload 8, 2) := by decide +kernel
theorem dX5_front_58 : decode cX5_front 58 = .ok (.iload 5, 2) := by decide +kernel
theorem dX5_front_60 : decode cX5_front 60 = .ok (.if_icmp .le 34, 3) := by decide +kernel
theorem dX5_front_63 : decode cX5_front 63 = .ok (.iload 8, 2) := by decide +kernel
theorem dX5_front_65 : decode cX5_front 65 = .ok (.istore 5, 2) := by decide +kernel
theorem dX5_front_67 : decode cX5_front 67 = .ok (.iload 4, 2) := by decide +kernel
theorem dX5_front_69 : decode cX5_front 69 = .ok (.iload_n 2, 1) := by decide +kernel
theorem dX5_front_70 : decode cX5_front 70 = .ok (.if_icmp .ne 17, 3) := by decide +kernel
theorem dX5_front_73 : decode cX5_front 73 = .ok (.iload_n 3, 1) := by decide +kernel
theorem dX5_front_74 : decode cX5_front 74 = .ok (.ifCond .ne 8, 3) := by decide +kernel
theorem dX5_front_77 : decode cX5_front 77 = .ok (.iload 8, 2) := by decide +kernel
theorem dX5_front_79 : decode cX5_front 79 = .ok (.goto 10, 3) := by decide +kernel
theorem dX5_front_82 : decode cX5_front 82 = .ok (.iload 7, 2) := by decide +kernel
theorem dX5_front_84 : decode cX5_front 84 = .ok (.goto 5, 3) := by decide +kernel
theorem dX5_front_87 : decode cX5_front 87 = .ok (.iload 6, 2) := by decide +kernel
theorem dX5_front_89 : decode cX5_front 89 = .ok (.istore 6, 2) := by decide +kernel
theorem dX5_front_91 : decode cX5_front 91 = .ok (.iinc 4 1, 3) := by decide +kernel
theorem dX5_front_94 : decode cX5_front 94 = .ok (.iinc 7 1, 3) := by decide +kernel
theorem dX5_front_97 : decode cX5_front 97 = .ok (.goto (-59), 3) := by decide +kernel
theorem dX5_front_100 : decode cX5_front 100 = .ok (.iload_n 2, 1) := by decide +kernel
theorem dX5_front_101 : decode cX5_front 101 = .ok (.iload 4, 2) := by decide +kernel
theorem dX5_front_103 : decode cX5_front 103 = .ok (.if_icmp .lt 5, 3) := by decide +kernel
theorem dX5_front_106 : decode cX5_front 106 = .ok (.iconst (-1), 1) := by decide +kernel
theorem dX5_front_107 : decode cX5_front 107 = .ok (.ireturn, 1) := by decide +kernel
theorem dX5_front_108 : decode cX5_front 108 = .ok (.iload_n 3, 1) := by decide +kernel
theorem dX5_front_109 : decode cX5_front 109 = .ok (.iconst 0, 1) := by decide +kernel
theorem dX5_front_110 : decode cX5_front 110 = .ok (.iconst 1, 1) := by decide +kernel
theorem dX5_front_111 : decode cX5_front 111 = .ok (.invokestatic 48, 3) := by decide +kernel
theorem dX5_front_114 : decode cX5_front 114 = .ok (.ifCond .ne 8, 3) := by decide +kernel
theorem dX5_front_117 : decode cX5_front 117 = .ok (.bipush (-2), 2) := by decide +kernel
theorem dX5_front_119 : decode cX5_front 119 = .ok (.goto 14, 3) := by decide +kernel
theorem dX5_front_122 : decode cX5_front 122 = .ok (.iload_n 2, 1) := by decide +kernel
theorem dX5_front_123 : decode cX5_front 123 = .ok (.ifCond .ge 8, 3) := by decide +kernel
theorem dX5_front_126 : decode cX5_front 126 = .ok (.iload 4, 2) := by decide +kernel
theorem dX5_front_128 : decode cX5_front 128 = .ok (.goto 5, 3) := by decide +kernel
theorem dX5_front_131 : decode cX5_front 131 = .ok (.iload 6, 2) := by decide +kernel
theorem dX5_front_133 : decode cX5_front 133 = .ok (.ireturn, 1) := by decide +kernel
theorem dX5_g_0 : decode cX5_g 0 = .ok (.iconst 1, 1) := by decide +kernel
theorem dX5_g_1 : decode cX5_g 1 = .ok (.istore_n 1, 1) := by decide +kernel
theorem dX5_g_2 : decode cX5_g 2 = .ok (.iload_n 0, 1) := by decide +kernel
theorem dX5_g_3 : decode cX5_g 3 = .ok (.istore_n 2, 1) := by decide +kernel
theorem dX5_g_4 : decode cX5_g 4 = .ok (.iload_n 2, 1) := by decide +kernel
theorem dX5_g_5 : decode cX5_g 5 = .ok (.iconst 1, 1) := by decide +kernel
theorem dX5_g_6 : decode cX5_g 6 = .ok (.if_icmp .le 13, 3) := by decide +kernel
theorem dX5_g_9 : decode cX5_g 9 = .ok (.iinc 1 2, 3) := by decide +kernel
theorem dX5_g_12 : decode cX5_g 12 = .ok (.iload_n 2, 1) := by decide +kernel
theorem dX5_g_13 : decode cX5_g 13 = .ok (.iconst 2, 1) := by decide +kernel
theorem dX5_g_14 : decode cX5_g 14 = .ok (.idiv, 1) := by decide +kernel
theorem dX5_g_15 : decode cX5_g 15 = .ok (.istore_n 2, 1) := by decide +kernel
theorem dX5_g_16 : decode cX5_g 16 = .ok (.goto (-12), 3) := by decide +kernel
theorem dX5_g_19 : decode cX5_g 19 = .ok (.iload_n 1, 1) := by decide +kernel
theorem dX5_g_20 : decode cX5_g 20 = .ok (.ireturn, 1) := by decide +kernel
theorem dX5_lay__0 : decode cX5_lay_ 0 = .ok (.sipush 300, 3) := by decide +kernel
theorem dX5_lay__3 : decode cX5_lay_ 3 = .ok (.iload_n 1, 1) := by decide +kernel
theorem dX5_lay__4 : decode cX5_lay_ 4 = .ok (.imul, 1) := by decide +kernel
theorem dX5_lay__5 : decode cX5_lay_ 5 = .ok (.aload_n 0, 1) := by decide +kernel
theorem dX5_lay__6 : decode cX5_lay_ 6 = .ok (.getfield 17, 3) := by decide +kernel
theorem dX5_lay__9 : decode cX5_lay_ 9 = .ok (.iload_n 1, 1) := by decide +kernel
theorem dX5_lay__10 : decode cX5_lay_ 10 = .ok (.iaload, 1) := by decide +kernel
theorem dX5_lay__11 : decode cX5_lay_ 11 = .ok (.iadd, 1) := by decide +kernel
theorem dX5_lay__12 : decode cX5_lay_ 12 = .ok (.istore 5, 2) := by decide +kernel
theorem dX5_lay__14 : decode cX5_lay_ 14 = .ok (.aload_n 0, 1) := by decide +kernel
theorem dX5_lay__15 : decode cX5_lay_ 15 = .ok (.getfield 20, 3) := by decide +kernel
theorem dX5_lay__18 : decode cX5_lay_ 18 = .ok (.iload 5, 2) := by decide +kernel
theorem dX5_lay__20 : decode cX5_lay_ 20 = .ok (.iload_n 2, 1) := by decide +kernel
theorem dX5_lay__21 : decode cX5_lay_ 21 = .ok (.iastore, 1) := by decide +kernel
theorem dX5_lay__22 : decode cX5_lay_ 22 = .ok (.aload_n 0, 1) := by decide +kernel
theorem dX5_lay__23 : decode cX5_lay_ 23 = .ok (.getfield 23, 3) := by decide +kernel
theorem dX5_lay__26 : decode cX5_lay_ 26 = .ok (.iload 5, 2) := by decide +kernel
theorem dX5_lay__28 : decode cX5_lay_ 28 = .ok (.iload_n 3, 1) := by decide +kernel
theorem dX5_lay__29 : decode cX5_lay_ 29 = .ok (.iastore, 1) := by decide +kernel
theorem dX5_lay__30 : decode cX5_lay_ 30 = .ok (.aload_n 0, 1) := by decide +kernel
theorem dX5_lay__31 : decode cX5_lay_ 31 = .ok (.getfield 26, 3) := by decide +kernel
theorem dX5_lay__34 : decode cX5_lay_ 34 = .ok (.iload 5, 2) := by decide +kernel
theorem dX5_lay__36 : decode cX5_lay_ 36 = .ok (.iload 4, 2) := by decide +kernel
theorem dX5_lay__38 : decode cX5_lay_ 38 = .ok (.iastore, 1) := by decide +kernel
theorem dX5_lay__39 : decode cX5_lay_ 39 = .ok (.aload_n 0, 1) := by decide +kernel
theorem dX5_lay__40 : decode cX5_lay_ 40 = .ok (.getfield 17, 3) := by decide +kernel
theorem dX5_lay__43 : decode cX5_lay_ 43 = .ok (.iload_n 1, 1) := by decide +kernel
theorem dX5_lay__44 : decode cX5_lay_ 44 = .ok (.dup2, 1) := by decide +kernel
theorem dX5_lay__45 : decode cX5_lay_ 45 = .ok (.iaload, 1) := by decide +kernel
theorem dX5_lay__46 : decode cX5_lay_ 46 = .ok (.iconst 1, 1) := by decide +kernel
theorem dX5_lay__47 : decode cX5_lay_ 47 = .ok (.iadd, 1) := by decide +kernel
theorem dX5_lay__48 : decode cX5_lay_ 48 = .ok (.iastore, 1) := by decide +kernel
theorem dX5_lay__49 : decode cX5_lay_ 49 = .ok (.return_, 1) := by decide +kernel
set_option maxRecDepth 20000 in
theorem ggX5_make_X5_makeLeast : GoodIn wsX5_make wsX5_makeLeast := goodIn_r _ [11, 12, 3, 13, 14, 15, 16, 10, 17, 18, 19, 20, 21, 22, 23, 24, 25, 26, 27, 28, 29, 30, 31, 32, 33, 34, 35, 2, 36, 37, 38, 43, 44, 45, 46, 47, 48, 49, 50, 51, 52, 53, 54, 55, 56, 57, 58] (by decide +kernel) (by decide +kernel)
set_option maxRecDepth 20000 in
theorem gX5_make_X5_makeLeast : GoodIn wsX5_make (wsV RX5 81 RX5 yX5_makeLeast wsX5_makeLeast) := goodIn_app (goodIn_of _ (by decide +kernel)) ggX5_make_X5_makeLeast
set_option maxRecDepth 20000 in
theorem ggX5_make_X5_find : GoodIn wsX5_make wsX5_find := goodIn_r _ [42, 5, 6, 18, 19, 20, 21, 10, 22, 23, 3, 24, 43, 44, 45, 46, 47, 48, 49, 50, 51, 52, 53, 54, 55, 56, 57, 58] (by decide +kernel) (by decide +kernel)
set_option maxRecDepth 20000 in
theorem gX5_make_X5_find : GoodIn wsX5_make (wsV RX5 73 RX5 yX5_find wsX5_find) := goodIn_app (goodIn_of _ (by decide +kernel)) ggX5_make_X5_find
set_option maxRecDepth 20000 in
theorem ggX5_make_X5_lay_ : GoodIn wsX5_make wsX5_lay_ := goodIn_r _ [35, 2, 36, 37, 38, 43, 44, 45, 46, 47, 48, 49, 50, 51, 52, 53, 54, 55, 56, 57, 58] (by decide +kernel) (by decide +kernel)
set_option maxRecDepth 20000 in
theorem gX5_make_X5_lay_ : GoodIn wsX5_make (wsV RX5 84 RX5 yX5_lay_ wsX5_lay_) := goodIn_app (goodIn_of _ (by decide +kernel)) ggX5_make_X5_lay_
theorem dX5_make_0 : decode cX5_make 0 = .ok (.aload_n 0, 1) := by decide +kernel
theorem dX5_make_1 : decode cX5_make 1 = .ok (.getfield 13, 3) := by decide +kernel
theorem dX5_make_4 : decode cX5_make 4 = .ok (.iload_n 1, 1) := by decide +kernel
theorem dX5_make_5 : decode cX5_make 5 = .ok (.baload, 1) := by decide +kernel
theorem dX5_make_6 : decode cX5_make 6 = .ok (.ifCond .eq 4, 3) := by decide +kernel
theorem dX5_make_9 : decode cX5_make 9 = .ok (.return_, 1) := by decide +kernel
theorem dX5_make_10 : decode cX5_make 10 = .ok (.aload_n 0, 1) := by decide +kernel
theorem dX5_make_11 : decode cX5_make 11 = .ok (.getfield 13, 3) := by decide +kernel
theorem dX5_make_14 : decode cX5_make 14 = .ok (.iload_n 1, 1) := by decide +kernel
theorem dX5_make_15 : decode cX5_make 15 = .ok (.iconst 1, 1) := by decide +kernel
theorem dX5_make_16 : decode cX5_make 16 = .ok (.bastore, 1) := by decide +kernel
theorem dX5_make_17 : decode cX5_make 17 = .ok (.aload_n 0, 1) := by decide +kernel
theorem dX5_make_18 : decode cX5_make 18 = .ok (.getfield 17, 3) := by decide +kernel
theorem dX5_make_21 : decode cX5_make 21 = .ok (.iload_n 1, 1) := by decide +kernel
theorem dX5_make_22 : decode cX5_make 22 = .ok (.iconst 0, 1) := by decide +kernel
theorem dX5_make_23 : decode cX5_make 23 = .ok (.iastore, 1) := by decide +kernel
theorem dX5_make_24 : decode cX5_make 24 = .ok (.iload_n 1, 1) := by decide +kernel
theorem dX5_make_25 : decode cX5_make 25 = .ok (.iconst 3, 1) := by decide +kernel
theorem dX5_make_26 : decode cX5_make 26 = .ok (.if_icmp .ne 8, 3) := by decide +kernel
theorem dX5_make_29 : decode cX5_make 29 = .ok (.aload_n 0, 1) := by decide +kernel
theorem dX5_make_30 : decode cX5_make 30 = .ok (.invokevirtual 81, 3) := by decide +kernel
theorem dX5_make_33 : decode cX5_make 33 = .ok (.return_, 1) := by decide +kernel
theorem dX5_make_34 : decode cX5_make 34 = .ok (.iconst 0, 1) := by decide +kernel
theorem dX5_make_35 : decode cX5_make 35 = .ok (.istore_n 2, 1) := by decide +kernel
theorem dX5_make_36 : decode cX5_make 36 = .ok (.iload_n 2, 1) := by decide +kernel
theorem dX5_make_37 : decode cX5_make 37 = .ok (.aload_n 0, 1) := by decide +kernel
theorem dX5_make_38 : decode cX5_make 38 = .ok (.getfield 45, 3) := by decide +kernel
theorem dX5_make_41 : decode cX5_make 41 = .ok (.if_icmp .ge 117, 3) := by decide +kernel
theorem dX5_make_44 : decode cX5_make 44 = .ok (.aload_n 0, 1) := by decide +kernel
theorem dX5_make_45 : decode cX5_make 45 = .ok (.iload_n 2, 1) := by decide +kernel
theorem dX5_make_46 : decode cX5_make 46 = .ok (.iload_n 1, 1) := by decide +kernel
theorem dX5_make_47 : decode cX5_make 47 = .ok (.iconst 1, 1) := by decide +kernel
theorem dX5_make_48 : decode cX5_make 48 = .ok (.if_icmp .ne 10, 3) := by decide +kernel
theorem dX5_make_51 : decode cX5_make 51 = .ok (.aload_n 0, 1) := by decide +kernel
theorem dX5_make_52 : decode cX5_make 52 = .ok (.getfield 39, 3) := by decide +kernel
theorem dX5_make_55 : decode cX5_make 55 = .ok (.goto 6, 3) := by decide +kernel
theorem dX5_make_58 : decode cX5_make 58 = .ok (.sipush 301, 3) := by decide +kernel
theorem dX5_make_61 : decode cX5_make 61 = .ok (.invokevirtual 73, 3) := by decide +kernel
theorem dX5_make_64 : decode cX5_make 64 = .ok (.aload_n 0, 1) := by decide +kernel
theorem dX5_make_65 : decode cX5_make 65 = .ok (.getfield 63, 3) := by decide +kernel
theorem dX5_make_68 : decode cX5_make 68 = .ok (.istore_n 3, 1) := by decide +kernel
theorem dX5_make_69 : decode cX5_make 69 = .ok (.aload_n 0, 1) := by decide +kernel
theorem dX5_make_70 : decode cX5_make 70 = .ok (.getfield 66, 3) := by decide +kernel
theorem dX5_make_73 : decode cX5_make 73 = .ok (.istore 4, 2) := by decide +kernel
theorem dX5_make_75 : decode cX5_make 75 = .ok (.iload_n 1, 1) := by decide +kernel
theorem dX5_make_76 : decode cX5_make 76 = .ok (.iconst 2, 1) := by decide +kernel
theorem dX5_make_77 : decode cX5_make 77 = .ok (.if_icmp .ne 41, 3) := by decide +kernel
theorem dX5_make_80 : decode cX5_make 80 = .ok (.iload_n 3, 1) := by decide +kernel
theorem dX5_make_81 : decode cX5_make 81 = .ok (.ifCond .le 37, 3) := by decide +kernel
theorem dX5_make_84 : decode cX5_make 84 = .ok (.iload_n 2, 1) := by decide +kernel
theorem dX5_make_85 : decode cX5_make 85 = .ok (.iconst 1, 1) := by decide +kernel
theorem dX5_make_86 : decode cX5_make 86 = .ok (.iadd, 1) := by decide +kernel
theorem dX5_make_87 : decode cX5_make 87 = .ok (.aload_n 0, 1) := by decide +kernel
theorem dX5_make_88 : decode cX5_make 88 = .ok (.getfield 45, 3) := by decide +kernel
theorem dX5_make_91 : decode cX5_make 91 = .ok (.if_icmp .ge 27, 3) := by decide +kernel
theorem dX5_make_94 : decode cX5_make 94 = .ok (.aload_n 0, 1) := by decide +kernel
theorem dX5_make_95 : decode cX5_make 95 = .ok (.iload_n 2, 1) := by decide +kernel
theorem dX5_make_96 : decode cX5_make 96 = .ok (.iconst 1, 1) := by decide +kernel
theorem dX5_make_97 : decode cX5_make 97 = .ok (.iadd, 1) := by decide +kernel
theorem dX5_make_98 : decode cX5_make 98 = .ok (.sipush 301, 3) := by decide +kernel
theorem dX5_make_101 : decode cX5_make 101 = .ok (.invokevirtual 73, 3) := by decide +kernel
theorem dX5_make_104 : decode cX5_make 104 = .ok (.aload_n 0, 1) := by decide +kernel
theorem dX5_make_105 : decode cX5_make 105 = .ok (.getfield 63, 3) := by decide +kernel
theorem dX5_make_108 : decode cX5_make 108 = .ok (.iload_n 3, 1) := by decide +kernel
theorem dX5_make_109 : decode cX5_make 109 = .ok (.if_icmp .le 7, 3) := by decide +kernel
theorem dX5_make_112 : decode cX5_make 112 = .ok (.iconst 0, 1) := by decide +kernel
theorem dX5_make_113 : decode cX5_make 113 = .ok (.goto 4, 3) := by decide +kernel
theorem dX5_make_116 : decode cX5_make 116 = .ok (.iload_n 3, 1) := by decide +kernel
theorem dX5_make_117 : decode cX5_make 117 = .ok (.istore_n 3, 1) := by decide +kernel
theorem dX5_make_118 : decode cX5_make 118 = .ok (.aload_n 0, 1) := by decide +kernel
theorem dX5_make_119 : decode cX5_make 119 = .ok (.iload_n 1, 1) := by decide +kernel
theorem dX5_make_120 : decode cX5_make 120 = .ok (.iload_n 2, 1) := by decide +kernel
theorem dX5_make_121 : decode cX5_make 121 = .ok (.iload_n 3, 1) := by decide +kernel
theorem dX5_make_122 : decode cX5_make 122 = .ok (.ifCond .ne 7, 3) := by decide +kernel
theorem dX5_make_125 : decode cX5_make 125 = .ok (.iconst 1, 1) := by decide +kernel
theorem dX5_make_126 : decode cX5_make 126 = .ok (.goto 4, 3) := by decide +kernel
theorem dX5_make_129 : decode cX5_make 129 = .ok (.iload_n 3, 1) := by decide +kernel
theorem dX5_make_130 : decode cX5_make 130 = .ok (.iload_n 3, 1) := by decide +kernel
theorem dX5_make_131 : decode cX5_make 131 = .ok (.ifCond .ne 7, 3) := by decide +kernel
theorem dX5_make_134 : decode cX5_make 134 = .ok (.iconst 0, 1) := by decide +kernel
theorem dX5_make_135 : decode cX5_make 135 = .ok (.goto 5, 3) := by decide +kernel
theorem dX5_make_138 : decode cX5_make 138 = .ok (.iload 4, 2) := by decide +kernel
theorem dX5_make_140 : decode cX5_make 140 = .ok (.invokevirtual 84, 3) := by decide +kernel
theorem dX5_make_143 : decode cX5_make 143 = .ok (.iload_n 2, 1) := by decide +kernel
theorem dX5_make_144 : decode cX5_make 144 = .ok (.iload_n 3, 1) := by decide +kernel
theorem dX5_make_145 : decode cX5_make 145 = .ok (.ifCond .ne 7, 3) := by decide +kernel
theorem dX5_make_148 : decode cX5_make 148 = .ok (.iconst 1, 1) := by decide +kernel
theorem dX5_make_149 : decode cX5_make 149 = .ok (.goto 4, 3) := by decide +kernel
theorem dX5_make_152 : decode cX5_make 152 = .ok (.iload_n 3, 1) := by decide +kernel
theorem dX5_make_153 : decode cX5_make 153 = .ok (.iadd, 1) := by decide +kernel
theorem dX5_make_154 : decode cX5_make 154 = .ok (.istore_n 2, 1) := by decide +kernel
theorem dX5_make_155 : decode cX5_make 155 = .ok (.goto (-119), 3) := by decide +kernel
theorem dX5_make_158 : decode cX5_make 158 = .ok (.return_, 1) := by decide +kernel
set_option maxRecDepth 20000 in
theorem ggX5_findLeast_X5_longAt : GoodIn wsX5_findLeast wsX5_longAt := goodIn_r _ [7, 8, 9, 10, 11, 12, 13, 14, 15, 16, 17, 18, 19, 20, 21, 22, 23, 24, 25, 26] (by decide +kernel) (by decide +kernel)
set_option maxRecDepth 20000 in
theorem gX5_findLeast_X5_longAt : GoodIn wsX5_findLeast (wsV RX5 69 RX5 yX5_longAt wsX5_longAt) := goodIn_app (goodIn_of _ (by decide +kernel)) ggX5_findLeast_X5_longAt
theorem dX5_findLeast_0 : decode cX5_findLeast 0 = .ok (.iconst 0, 1) := by decide +kernel
theorem dX5_findLeast_1 : decode cX5_findLeast 1 = .ok (.istore_n 2, 1) := by decide +kernel
theorem dX5_findLeast_2 : decode cX5_findLeast 2 = .ok (.iload_n 2, 1) := by decide +kernel
theorem dX5_findLeast_3 : decode cX5_findLeast 3 = .ok (.bipush 40, 2) := by decide +kernel
theorem dX5_findLeast_5 : decode cX5_findLeast 5 = .ok (.if_icmp .gt 16, 3) := by decide +kernel
theorem dX5_findLeast_8 : decode cX5_findLeast 8 = .ok (.aload_n 0, 1) := by decide +kernel
theorem dX5_findLeast_9 : decode cX5_findLeast 9 = .ok (.getfield 32, 3) := by decide +kernel
theorem dX5_findLeast_12 : decode cX5_findLeast 12 = .ok (.iload_n 2, 1) := by decide +kernel
theorem dX5_findLeast_13 : decode cX5_findLeast 13 = .ok (.iconst 0, 1) := by decide +kernel
theorem dX5_findLeast_14 : decode cX5_findLeast 14 = .ok (.iastore, 1) := by decide +kernel
theorem dX5_findLeast_15 : decode cX5_findLeast 15 = .ok (.iinc 2 1, 3) := by decide +kernel
theorem dX5_findLeast_18 : decode cX5_findLeast 18 = .ok (.goto (-16), 3) := by decide +kernel
theorem dX5_findLeast_21 : decode cX5_findLeast 21 = .ok (.aload_n 0, 1) := by decide +kernel
theorem dX5_findLeast_22 : decode cX5_findLeast 22 = .ok (.getfield 35, 3) := by decide +kernel
theorem dX5_findLeast_25 : decode cX5_findLeast 25 = .ok (.istore_n 2, 1) := by decide +kernel
theorem dX5_findLeast_26 : decode cX5_findLeast 26 = .ok (.iload_n 2, 1) := by decide +kernel
theorem dX5_findLeast_27 : decode cX5_findLeast 27 = .ok (.iconst 1, 1) := by decide +kernel
theorem dX5_findLeast_28 : decode cX5_findLeast 28 = .ok (.if_icmp .lt 39, 3) := by decide +kernel
theorem dX5_findLeast_31 : decode cX5_findLeast 31 = .ok (.aload_n 0, 1) := by decide +kernel
theorem dX5_findLeast_32 : decode cX5_findLeast 32 = .ok (.iload_n 1, 1) := by decide +kernel
theorem dX5_findLeast_33 : decode cX5_findLeast 33 = .ok (.iload_n 2, 1) := by decide +kernel
theorem dX5_findLeast_34 : decode cX5_findLeast 34 = .ok (.invokevirtual 69, 3) := by decide +kernel
theorem dX5_findLeast_37 : decode cX5_findLeast 37 = .ok (.istore_n 3, 1) := by decide +kernel
theorem dX5_findLeast_38 : decode cX5_findLeast 38 = .ok (.iconst 3, 1) := by decide +kernel
theorem dX5_findLeast_39 : decode cX5_findLeast 39 = .ok (.istore 4, 2) := by decide +kernel
theorem dX5_findLeast_41 : decode cX5_findLeast 41 = .ok (.iload 4, 2) := by decide +kernel
theorem dX5_findLeast_43 : decode cX5_findLeast 43 = .ok (.iload_n 3, 1) := by decide +kernel
theorem dX5_findLeast_44 : decode cX5_findLeast 44 = .ok (.if_icmp .gt 17, 3) := by decide +kernel
theorem dX5_findLeast_47 : decode cX5_findLeast 47 = .ok (.aload_n 0, 1) := by decide +kernel
theorem dX5_findLeast_48 : decode cX5_findLeast 48 = .ok (.getfield 32, 3) := by decide +kernel
theorem dX5_findLeast_51 : decode cX5_findLeast 51 = .ok (.iload 4, 2) := by decide +kernel
theorem dX5_findLeast_53 : decode cX5_findLeast 53 = .ok (.iload_n 2, 1) := by decide +kernel
theorem dX5_findLeast_54 : decode cX5_findLeast 54 = .ok (.iastore, 1) := by decide +kernel
theorem dX5_findLeast_55 : decode cX5_findLeast 55 = .ok (.iinc 4 1, 3) := by decide +kernel
theorem dX5_findLeast_58 : decode cX5_findLeast 58 = .ok (.goto (-17), 3) := by decide +kernel
theorem dX5_findLeast_61 : decode cX5_findLeast 61 = .ok (.iinc 2 (-1), 3) := by decide +kernel
theorem dX5_findLeast_64 : decode cX5_findLeast 64 = .ok (.goto (-38), 3) := by decide +kernel
theorem dX5_findLeast_67 : decode cX5_findLeast 67 = .ok (.return_, 1) := by decide +kernel
set_option maxRecDepth 20000 in
theorem ggX5_choose_X5_g : GoodIn wsX5_choose wsX5_g := goodIn_r _ [6] (by decide +kernel) (by decide +kernel)
set_option maxRecDepth 20000 in
theorem gX5_choose_X5_g : GoodIn wsX5_choose (va_wsS RX5 87 yX5_g wsX5_g) := goodIn_app (goodIn_of _ (by decide +kernel)) ggX5_choose_X5_g
theorem dX5_choose_0 : decode cX5_choose 0 = .ok (.iconst 1, 1) := by decide +kernel
theorem dX5_choose_1 : decode cX5_choose 1 = .ok (.istore_n 2, 1) := by decide +kernel
theorem dX5_choose_2 : decode cX5_choose 2 = .ok (.aload_n 0, 1) := by decide +kernel
theorem dX5_choose_3 : decode cX5_choose 3 = .ok (.getfield 29, 3) := by decide +kernel
theorem dX5_choose_6 : decode cX5_choose 6 = .ok (.iload_n 1, 1) := by decide +kernel
theorem dX5_choose_7 : decode cX5_choose 7 = .ok (.bipush 9, 2) := by decide +kernel
theorem dX5_choose_9 : decode cX5_choose 9 = .ok (.aload_n 0, 1) := by decide +kernel
theorem dX5_choose_10 : decode cX5_choose 10 = .ok (.getfield 29, 3) := by decide +kernel
theorem dX5_choose_13 : decode cX5_choose 13 = .ok (.iload_n 1, 1) := by decide +kernel
theorem dX5_choose_14 : decode cX5_choose 14 = .ok (.iconst 1, 1) := by decide +kernel
theorem dX5_choose_15 : decode cX5_choose 15 = .ok (.iadd, 1) := by decide +kernel
theorem dX5_choose_16 : decode cX5_choose 16 = .ok (.iaload, 1) := by decide +kernel
theorem dX5_choose_17 : decode cX5_choose 17 = .ok (.iadd, 1) := by decide +kernel
theorem dX5_choose_18 : decode cX5_choose 18 = .ok (.iastore, 1) := by decide +kernel
theorem dX5_choose_19 : decode cX5_choose 19 = .ok (.iconst 3, 1) := by decide +kernel
theorem dX5_choose_20 : decode cX5_choose 20 = .ok (.istore_n 3, 1) := by decide +kernel
theorem dX5_choose_21 : decode cX5_choose 21 = .ok (.iload_n 3, 1) := by decide +kernel
theorem dX5_choose_22 : decode cX5_choose 22 = .ok (.bipush 40, 2) := by decide +kernel
theorem dX5_choose_24 : decode cX5_choose 24 = .ok (.if_icmp .gt 92, 3) := by decide +kernel
theorem dX5_choose_27 : decode cX5_choose 27 = .ok (.aload_n 0, 1) := by decide +kernel
theorem dX5_choose_28 : decode cX5_choose 28 = .ok (.getfield 32, 3) := by decide +kernel
theorem dX5_choose_31 : decode cX5_choose 31 = .ok (.iload_n 3, 1) := by decide +kernel
theorem dX5_choose_32 : decode cX5_choose 32 = .ok (.iaload, 1) := by decide +kernel
theorem dX5_choose_33 : decode cX5_choose 33 = .ok (.ifCond .le 77, 3) := by decide +kernel
theorem dX5_choose_36 : decode cX5_choose 36 = .ok (.iconst 2, 1) := by decide +kernel
theorem dX5_choose_37 : decode cX5_choose 37 = .ok (.iload_n 3, 1) := by decide +kernel
theorem dX5_choose_38 : decode cX5_choose 38 = .ok (.iconst 2, 1) := by decide +kernel
theorem dX5_choose_39 : decode cX5_choose 39 = .ok (.isub, 1) := by decide +kernel
theorem dX5_choose_40 : decode cX5_choose 40 = .ok (.invokestatic 87, 3) := by decide +kernel
theorem dX5_choose_43 : decode cX5_choose 43 = .ok (.iadd, 1) := by decide +kernel
theorem dX5_choose_44 : decode cX5_choose 44 = .ok (.aload_n 0, 1) := by decide +kernel
theorem dX5_choose_45 : decode cX5_choose 45 = .ok (.getfield 32, 3) := by decide +kernel
theorem dX5_choose_48 : decode cX5_choose 48 = .ok (.iload_n 3, 1) := by decide +kernel
theorem dX5_choose_49 : decode cX5_choose 49 = .ok (.iaload, 1) := by decide +kernel
theorem dX5_choose_50 : decode cX5_choose 50 = .ok (.invokestatic 87, 3) := by decide +kernel
theorem dX5_choose_53 : decode cX5_choose 53 = .ok (.iadd, 1) := by decide +kernel
theorem dX5_choose_54 : decode cX5_choose 54 = .ok (.aload_n 0, 1) := by decide +kernel
theorem dX5_choose_55 : decode cX5_choose 55 = .ok (.getfield 29, 3) := by decide +kernel
theorem dX5_choose_58 : decode cX5_choose 58 = .ok (.iload_n 1, 1) := by decide +kernel
theorem dX5_choose_59 : decode cX5_choose 59 = .ok (.iload_n 3, 1) := by decide +kernel
theorem dX5_choose_60 : decode cX5_choose 60 = .ok (.iadd, 1) := by decide +kernel
theorem dX5_choose_61 : decode cX5_choose 61 = .ok (.iaload, 1) := by decide +kernel
theorem dX5_choose_62 : decode cX5_choose 62 = .ok (.iadd, 1) := by decide +kernel
theorem dX5_choose_63 : decode cX5_choose 63 = .ok (.istore 4, 2) := by decide +kernel
theorem dX5_choose_65 : decode cX5_choose 65 = .ok (.iload 4, 2) := by decide +kernel
theorem dX5_choose_67 : decode cX5_choose 67 = .ok (.aload_n 0, 1) := by decide +kernel
theorem dX5_choose_68 : decode cX5_choose 68 = .ok (.getfield 29, 3) := by decide +kernel
theorem dX5_choose_71 : decode cX5_choose 71 = .ok (.iload_n 1, 1) := by decide +kernel
theorem dX5_choose_72 : decode cX5_choose 72 = .ok (.iaload, 1) := by decide +kernel
theorem dX5_choose_73 : decode cX5_choose 73 = .ok (.if_icmp .gt 7, 3) := by decide +kernel
theorem dX5_choose_76 : decode cX5_choose 76 = .ok (.iload_n 3, 1) := by decide +kernel
end
section
theorem dX5_choose_77 : decode cX5_choose 77 = .ok (.goto 4, 3) := by decide +kernel
theorem dX5_choose_80 : decode cX5_choose 80 = .ok (.iload_n 2, 1) := by decide +kernel
theorem dX5_choose_81 : decode cX5_choose 81 = .ok (.istore_n 2, 1) := by decide +kernel
theorem dX5_choose_82 : decode cX5_choose 82 = .ok (.aload_n 0, 1) := by decide +kernel
theorem dX5_choose_83 : decode cX5_choose 83 = .ok (.getfield 29, 3) := by decide +kernel
theorem dX5_choose_86 : decode cX5_choose 86 = .ok (.iload_n 1, 1) := by decide +kernel
theorem dX5_choose_87 : decode cX5_choose 87 = .ok (.iload 4, 2) := by decide +kernel
theorem dX5_choose_89 : decode cX5_choose 89 = .ok (.aload_n 0, 1) := by decide +kernel
theorem dX5_choose_90 : decode cX5_choose 90 = .ok (.getfield 29, 3) := by decide +kernel
theorem dX5_choose_93 : decode cX5_choose 93 = .ok (.iload_n 1, 1) := by decide +kernel
theorem dX5_choose_94 : decode cX5_choose 94 = .ok (.iaload, 1) := by decide +kernel
theorem dX5_choose_95 : decode cX5_choose 95 = .ok (.if_icmp .ge 8, 3) := by decide +kernel
theorem dX5_choose_98 : decode cX5_choose 98 = .ok (.iload 4, 2) := by decide +kernel
theorem dX5_choose_100 : decode cX5_choose 100 = .ok (.goto 9, 3) := by decide +kernel
theorem dX5_choose_103 : decode cX5_choose 103 = .ok (.aload_n 0, 1) := by decide +kernel
theorem dX5_choose_104 : decode cX5_choose 104 = .ok (.getfield 29, 3) := by decide +kernel
theorem dX5_choose_107 : decode cX5_choose 107 = .ok (.iload_n 1, 1) := by decide +kernel
theorem dX5_choose_108 : decode cX5_choose 108 = .ok (.iaload, 1) := by decide +kernel
theorem dX5_choose_109 : decode cX5_choose 109 = .ok (.iastore, 1) := by decide +kernel
theorem dX5_choose_110 : decode cX5_choose 110 = .ok (.iinc 3 1, 3) := by decide +kernel
theorem dX5_choose_113 : decode cX5_choose 113 = .ok (.goto (-92), 3) := by decide +kernel
theorem dX5_choose_116 : decode cX5_choose 116 = .ok (.iload_n 2, 1) := by decide +kernel
theorem dX5_choose_117 : decode cX5_choose 117 = .ok (.ireturn, 1) := by decide +kernel
set_option maxRecDepth 20000 in
theorem ggX5_makeLeast_X5_findLeast : GoodIn wsX5_makeLeast wsX5_findLeast := goodIn_r _ [8, 3, 9, 10, 11, 12, 7, 13, 14, 2, 15, 31, 32, 33, 34, 35, 36, 37, 38, 39, 40, 41, 42, 43, 44, 45, 46] (by decide +kernel) (by decide +kernel)
set_option maxRecDepth 20000 in
theorem gX5_makeLeast_X5_findLeast : GoodIn wsX5_makeLeast (wsV RX5 91 RX5 yX5_findLeast wsX5_findLeast) := goodIn_app (goodIn_of _ (by decide +kernel)) ggX5_makeLeast_X5_findLeast
set_option maxRecDepth 20000 in
theorem ggX5_makeLeast_X5_choose : GoodIn wsX5_makeLeast wsX5_choose := goodIn_r _ [19, 1, 3, 20, 21, 7, 22, 31, 32, 33, 34, 35, 36, 37, 38, 39, 40, 41, 42, 43, 44, 45, 46] (by decide +kernel) (by decide +kernel)
set_option maxRecDepth 20000 in
theorem gX5_makeLeast_X5_choose : GoodIn wsX5_makeLeast (wsV RX5 94 RX5 yX5_choose wsX5_choose) := goodIn_app (goodIn_of _ (by decide +kernel)) ggX5_makeLeast_X5_choose
set_option maxRecDepth 20000 in
theorem ggX5_makeLeast_X5_lay_ : GoodIn wsX5_makeLeast wsX5_lay_ := goodIn_r _ [26, 27, 28, 29, 30, 31, 32, 33, 34, 35, 36, 37, 38, 39, 40, 41, 42, 43, 44, 45, 46] (by decide +kernel) (by decide +kernel)
set_option maxRecDepth 20000 in
theorem gX5_makeLeast_X5_lay_ : GoodIn wsX5_makeLeast (wsV RX5 84 RX5 yX5_lay_ wsX5_lay_) := goodIn_app (goodIn_of _ (by decide +kernel)) ggX5_makeLeast_X5_lay_
theorem dX5_makeLeast_0 : decode cX5_makeLeast 0 = .ok (.aload_n 0, 1) := by decide +kernel
theorem dX5_makeLeast_1 : decode cX5_makeLeast 1 = .ok (.getfield 29, 3) := by decide +kernel
theorem dX5_makeLeast_4 : decode cX5_makeLeast 4 = .ok (.aload_n 0, 1) := by decide +kernel
theorem dX5_makeLeast_5 : decode cX5_makeLeast 5 = .ok (.getfield 45, 3) := by decide +kernel
theorem dX5_makeLeast_8 : decode cX5_makeLeast 8 = .ok (.iconst 0, 1) := by decide +kernel
theorem dX5_makeLeast_9 : decode cX5_makeLeast 9 = .ok (.iastore, 1) := by decide +kernel
theorem dX5_makeLeast_10 : decode cX5_makeLeast 10 = .ok (.aload_n 0, 1) := by decide +kernel
theorem dX5_makeLeast_11 : decode cX5_makeLeast 11 = .ok (.getfield 45, 3) := by decide +kernel
theorem dX5_makeLeast_14 : decode cX5_makeLeast 14 = .ok (.iconst 1, 1) := by decide +kernel
theorem dX5_makeLeast_15 : decode cX5_makeLeast 15 = .ok (.isub, 1) := by decide +kernel
theorem dX5_makeLeast_16 : decode cX5_makeLeast 16 = .ok (.istore_n 1, 1) := by decide +kernel
theorem dX5_makeLeast_17 : decode cX5_makeLeast 17 = .ok (.iload_n 1, 1) := by decide +kernel
theorem dX5_makeLeast_18 : decode cX5_makeLeast 18 = .ok (.ifCond .lt 20, 3) := by decide +kernel
theorem dX5_makeLeast_21 : decode cX5_makeLeast 21 = .ok (.aload_n 0, 1) := by decide +kernel
theorem dX5_makeLeast_22 : decode cX5_makeLeast 22 = .ok (.iload_n 1, 1) := by decide +kernel
theorem dX5_makeLeast_23 : decode cX5_makeLeast 23 = .ok (.invokevirtual 91, 3) := by decide +kernel
theorem dX5_makeLeast_26 : decode cX5_makeLeast 26 = .ok (.aload_n 0, 1) := by decide +kernel
theorem dX5_makeLeast_27 : decode cX5_makeLeast 27 = .ok (.iload_n 1, 1) := by decide +kernel
theorem dX5_makeLeast_28 : decode cX5_makeLeast 28 = .ok (.invokevirtual 94, 3) := by decide +kernel
theorem dX5_makeLeast_31 : decode cX5_makeLeast 31 = .ok (.istore_n 2, 1) := by decide +kernel
theorem dX5_makeLeast_32 : decode cX5_makeLeast 32 = .ok (.iinc 1 (-1), 3) := by decide +kernel
theorem dX5_makeLeast_35 : decode cX5_makeLeast 35 = .ok (.goto (-18), 3) := by decide +kernel
theorem dX5_makeLeast_38 : decode cX5_makeLeast 38 = .ok (.iconst 0, 1) := by decide +kernel
theorem dX5_makeLeast_39 : decode cX5_makeLeast 39 = .ok (.istore_n 1, 1) := by decide +kernel
theorem dX5_makeLeast_40 : decode cX5_makeLeast 40 = .ok (.iload_n 1, 1) := by decide +kernel
theorem dX5_makeLeast_41 : decode cX5_makeLeast 41 = .ok (.aload_n 0, 1) := by decide +kernel
theorem dX5_makeLeast_42 : decode cX5_makeLeast 42 = .ok (.getfield 45, 3) := by decide +kernel
theorem dX5_makeLeast_45 : decode cX5_makeLeast 45 = .ok (.if_icmp .ge 43, 3) := by decide +kernel
theorem dX5_makeLeast_48 : decode cX5_makeLeast 48 = .ok (.aload_n 0, 1) := by decide +kernel
theorem dX5_makeLeast_49 : decode cX5_makeLeast 49 = .ok (.iload_n 1, 1) := by decide +kernel
theorem dX5_makeLeast_50 : decode cX5_makeLeast 50 = .ok (.invokevirtual 91, 3) := by decide +kernel
theorem dX5_makeLeast_53 : decode cX5_makeLeast 53 = .ok (.aload_n 0, 1) := by decide +kernel
theorem dX5_makeLeast_54 : decode cX5_makeLeast 54 = .ok (.iload_n 1, 1) := by decide +kernel
theorem dX5_makeLeast_55 : decode cX5_makeLeast 55 = .ok (.invokevirtual 94, 3) := by decide +kernel
theorem dX5_makeLeast_58 : decode cX5_makeLeast 58 = .ok (.istore_n 2, 1) := by decide +kernel
theorem dX5_makeLeast_59 : decode cX5_makeLeast 59 = .ok (.aload_n 0, 1) := by decide +kernel
theorem dX5_makeLeast_60 : decode cX5_makeLeast 60 = .ok (.iconst 3, 1) := by decide +kernel
theorem dX5_makeLeast_61 : decode cX5_makeLeast 61 = .ok (.iload_n 1, 1) := by decide +kernel
theorem dX5_makeLeast_62 : decode cX5_makeLeast 62 = .ok (.iload_n 2, 1) := by decide +kernel
theorem dX5_makeLeast_63 : decode cX5_makeLeast 63 = .ok (.iload_n 2, 1) := by decide +kernel
theorem dX5_makeLeast_64 : decode cX5_makeLeast 64 = .ok (.iconst 1, 1) := by decide +kernel
theorem dX5_makeLeast_65 : decode cX5_makeLeast 65 = .ok (.if_icmp .ne 7, 3) := by decide +kernel
theorem dX5_makeLeast_68 : decode cX5_makeLeast 68 = .ok (.iconst 0, 1) := by decide +kernel
theorem dX5_makeLeast_69 : decode cX5_makeLeast 69 = .ok (.goto 9, 3) := by decide +kernel
theorem dX5_makeLeast_72 : decode cX5_makeLeast 72 = .ok (.aload_n 0, 1) := by decide +kernel
theorem dX5_makeLeast_73 : decode cX5_makeLeast 73 = .ok (.getfield 32, 3) := by decide +kernel
theorem dX5_makeLeast_76 : decode cX5_makeLeast 76 = .ok (.iload_n 2, 1) := by decide +kernel
theorem dX5_makeLeast_77 : decode cX5_makeLeast 77 = .ok (.iaload, 1) := by decide +kernel
theorem dX5_makeLeast_78 : decode cX5_makeLeast 78 = .ok (.invokevirtual 84, 3) := by decide +kernel
theorem dX5_makeLeast_81 : decode cX5_makeLeast 81 = .ok (.iload_n 1, 1) := by decide +kernel
theorem dX5_makeLeast_82 : decode cX5_makeLeast 82 = .ok (.iload_n 2, 1) := by decide +kernel
theorem dX5_makeLeast_83 : decode cX5_makeLeast 83 = .ok (.iadd, 1) := by decide +kernel
theorem dX5_makeLeast_84 : decode cX5_makeLeast 84 = .ok (.istore_n 1, 1) := by decide +kernel
theorem dX5_makeLeast_85 : decode cX5_makeLeast 85 = .ok (.goto (-45), 3) := by decide +kernel
theorem dX5_makeLeast_88 : decode cX5_makeLeast 88 = .ok (.return_, 1) := by decide +kernel
set_option maxRecDepth 20000 in
theorem ggX5_isWay_X5_in : GoodIn wsX5_isWay wsX5_in := goodIn_r _ [4] (by decide +kernel) (by decide +kernel)
set_option maxRecDepth 20000 in
theorem gX5_isWay_X5_in : GoodIn wsX5_isWay (va_wsS RX5 48 yX5_in wsX5_in) := goodIn_app (goodIn_of _ (by decide +kernel)) ggX5_isWay_X5_in
theorem dX5_isWay_0 : decode cX5_isWay 0 = .ok (.iload_n 0, 1) := by decide +kernel
theorem dX5_isWay_1 : decode cX5_isWay 1 = .ok (.iconst 0, 1) := by decide +kernel
theorem dX5_isWay_2 : decode cX5_isWay 2 = .ok (.iconst 3, 1) := by decide +kernel
theorem dX5_isWay_3 : decode cX5_isWay 3 = .ok (.invokestatic 48, 3) := by decide +kernel
theorem dX5_isWay_6 : decode cX5_isWay 6 = .ok (.ireturn, 1) := by decide +kernel
set_option maxRecDepth 20000 in
theorem ggX5_pieces_X5_isWay : GoodIn wsX5_pieces wsX5_isWay := goodIn_r _ [6, 7, 8, 5, 9] (by decide +kernel) (by decide +kernel)
set_option maxRecDepth 20000 in
theorem gX5_pieces_X5_isWay : GoodIn wsX5_pieces (va_wsS RX5 97 yX5_isWay wsX5_isWay) := goodIn_app (goodIn_of _ (by decide +kernel)) ggX5_pieces_X5_isWay
set_option maxRecDepth 20000 in
theorem ggX5_pieces_X5_make : GoodIn wsX5_pieces wsX5_make := goodIn_r _ [13, 14, 2, 15, 16, 17, 18, 19, 20, 21, 5, 22, 23, 24, 25, 26, 27, 28, 29, 30, 31, 32, 33, 34, 35, 36, 37, 38, 39, 40, 41, 42, 43, 44, 45, 46, 47, 48, 49, 50, 51, 52, 53, 54, 55, 56, 57, 58, 59, 60, 61, 62, 63, 64, 65, 66, 67, 68, 69] (by decide +kernel) (by decide +kernel)
set_option maxRecDepth 20000 in
theorem gX5_pieces_X5_make : GoodIn wsX5_pieces (wsV RX5 101 RX5 yX5_make wsX5_make) := goodIn_app (goodIn_of _ (by decide +kernel)) ggX5_pieces_X5_make
theorem dX5_pieces_0 : decode cX5_pieces 0 = .ok (.aload_n 0, 1) := by decide +kernel
theorem dX5_pieces_1 : decode cX5_pieces 1 = .ok (.iconst 0, 1) := by decide +kernel
theorem dX5_pieces_2 : decode cX5_pieces 2 = .ok (.putfield 42, 3) := by decide +kernel
theorem dX5_pieces_5 : decode cX5_pieces 5 = .ok (.iload_n 1, 1) := by decide +kernel
theorem dX5_pieces_6 : decode cX5_pieces 6 = .ok (.invokestatic 97, 3) := by decide +kernel
theorem dX5_pieces_9 : decode cX5_pieces 9 = .ok (.ifCond .ne 5, 3) := by decide +kernel
theorem dX5_pieces_12 : decode cX5_pieces 12 = .ok (.iconst (-1), 1) := by decide +kernel
theorem dX5_pieces_13 : decode cX5_pieces 13 = .ok (.ireturn, 1) := by decide +kernel
theorem dX5_pieces_14 : decode cX5_pieces 14 = .ok (.aload_n 0, 1) := by decide +kernel
theorem dX5_pieces_15 : decode cX5_pieces 15 = .ok (.iload_n 1, 1) := by decide +kernel
theorem dX5_pieces_16 : decode cX5_pieces 16 = .ok (.invokevirtual 101, 3) := by decide +kernel
theorem dX5_pieces_19 : decode cX5_pieces 19 = .ok (.aload_n 0, 1) := by decide +kernel
theorem dX5_pieces_20 : decode cX5_pieces 20 = .ok (.getfield 17, 3) := by decide +kernel
theorem dX5_pieces_23 : decode cX5_pieces 23 = .ok (.iload_n 1, 1) := by decide +kernel
theorem dX5_pieces_24 : decode cX5_pieces 24 = .ok (.iaload, 1) := by decide +kernel
theorem dX5_pieces_25 : decode cX5_pieces 25 = .ok (.ireturn, 1) := by decide +kernel
set_option maxRecDepth 20000 in
theorem ggX5_piece_X5_isWay : GoodIn wsX5_piece wsX5_isWay := goodIn_r _ [9, 10, 11, 8, 12] (by decide +kernel) (by decide +kernel)
set_option maxRecDepth 20000 in
theorem gX5_piece_X5_isWay : GoodIn wsX5_piece (va_wsS RX5 97 yX5_isWay wsX5_isWay) := goodIn_app (goodIn_of _ (by decide +kernel)) ggX5_piece_X5_isWay
set_option maxRecDepth 20000 in
theorem ggX5_piece_X5_make : GoodIn wsX5_piece wsX5_make := goodIn_r _ [16, 17, 2, 18, 19, 20, 21, 22, 23, 24, 8, 25, 26, 27, 28, 29, 30, 31, 32, 33, 34, 35, 36, 37, 38, 39, 40, 41, 42, 43, 44, 45, 46, 47, 48, 49, 3, 4, 5, 50, 51, 52, 53, 54, 55, 56, 57, 58, 59, 60, 61, 62, 63, 64, 65, 66, 67, 68, 69] (by decide +kernel) (by decide +kernel)
set_option maxRecDepth 20000 in
theorem gX5_piece_X5_make : GoodIn wsX5_piece (wsV RX5 101 RX5 yX5_make wsX5_make) := goodIn_app (goodIn_of _ (by decide +kernel)) ggX5_piece_X5_make
set_option maxRecDepth 20000 in
theorem ggX5_piece_X5_in : GoodIn wsX5_piece wsX5_in := goodIn_r _ [12] (by decide +kernel) (by decide +kernel)
set_option maxRecDepth 20000 in
theorem gX5_piece_X5_in : GoodIn wsX5_piece (va_wsS RX5 48 yX5_in wsX5_in) := goodIn_app (goodIn_of _ (by decide +kernel)) ggX5_piece_X5_in
theorem dX5_piece_0 : decode cX5_piece 0 = .ok (.aload_n 0, 1) := by decide +kernel
theorem dX5_piece_1 : decode cX5_piece 1 = .ok (.iconst 0, 1) := by decide +kernel
theorem dX5_piece_2 : decode cX5_piece 2 = .ok (.putfield 42, 3) := by decide +kernel
theorem dX5_piece_5 : decode cX5_piece 5 = .ok (.iload_n 1, 1) := by decide +kernel
theorem dX5_piece_6 : decode cX5_piece 6 = .ok (.invokestatic 97, 3) := by decide +kernel
theorem dX5_piece_9 : decode cX5_piece 9 = .ok (.ifCond .ne 5, 3) := by decide +kernel
theorem dX5_piece_12 : decode cX5_piece 12 = .ok (.iconst (-1), 1) := by decide +kernel
theorem dX5_piece_13 : decode cX5_piece 13 = .ok (.ireturn, 1) := by decide +kernel
theorem dX5_piece_14 : decode cX5_piece 14 = .ok (.aload_n 0, 1) := by decide +kernel
theorem dX5_piece_15 : decode cX5_piece 15 = .ok (.iload_n 1, 1) := by decide +kernel
theorem dX5_piece_16 : decode cX5_piece 16 = .ok (.invokevirtual 101, 3) := by decide +kernel
theorem dX5_piece_19 : decode cX5_piece 19 = .ok (.iload_n 2, 1) := by decide +kernel
theorem dX5_piece_20 : decode cX5_piece 20 = .ok (.iconst 0, 1) := by decide +kernel
theorem dX5_piece_21 : decode cX5_piece 21 = .ok (.aload_n 0, 1) := by decide +kernel
theorem dX5_piece_22 : decode cX5_piece 22 = .ok (.getfield 17, 3) := by decide +kernel
theorem dX5_piece_25 : decode cX5_piece 25 = .ok (.iload_n 1, 1) := by decide +kernel
theorem dX5_piece_26 : decode cX5_piece 26 = .ok (.iaload, 1) := by decide +kernel
theorem dX5_piece_27 : decode cX5_piece 27 = .ok (.iconst 1, 1) := by decide +kernel
theorem dX5_piece_28 : decode cX5_piece 28 = .ok (.isub, 1) := by decide +kernel
theorem dX5_piece_29 : decode cX5_piece 29 = .ok (.invokestatic 48, 3) := by decide +kernel
theorem dX5_piece_32 : decode cX5_piece 32 = .ok (.ifCond .ne 5, 3) := by decide +kernel
theorem dX5_piece_35 : decode cX5_piece 35 = .ok (.iconst (-1), 1) := by decide +kernel
theorem dX5_piece_36 : decode cX5_piece 36 = .ok (.ireturn, 1) := by decide +kernel
theorem dX5_piece_37 : decode cX5_piece 37 = .ok (.sipush 300, 3) := by decide +kernel
theorem dX5_piece_40 : decode cX5_piece 40 = .ok (.iload_n 1, 1) := by decide +kernel
theorem dX5_piece_41 : decode cX5_piece 41 = .ok (.imul, 1) := by decide +kernel
theorem dX5_piece_42 : decode cX5_piece 42 = .ok (.iload_n 2, 1) := by decide +kernel
theorem dX5_piece_43 : decode cX5_piece 43 = .ok (.iadd, 1) := by decide +kernel
theorem dX5_piece_44 : decode cX5_piece 44 = .ok (.istore 4, 2) := by decide +kernel
theorem dX5_piece_46 : decode cX5_piece 46 = .ok (.iload_n 3, 1) := by decide +kernel
theorem dX5_piece_47 : decode cX5_piece 47 = .ok (.ifCond .ne 13, 3) := by decide +kernel
theorem dX5_piece_50 : decode cX5_piece 50 = .ok (.aload_n 0, 1) := by decide +kernel
theorem dX5_piece_51 : decode cX5_piece 51 = .ok (.getfield 20, 3) := by decide +kernel
theorem dX5_piece_54 : decode cX5_piece 54 = .ok (.iload 4, 2) := by decide +kernel
theorem dX5_piece_56 : decode cX5_piece 56 = .ok (.iaload, 1) := by decide +kernel
theorem dX5_piece_57 : decode cX5_piece 57 = .ok (.goto 35, 3) := by decide +kernel
theorem dX5_piece_60 : decode cX5_piece 60 = .ok (.iload_n 3, 1) := by decide +kernel
theorem dX5_piece_61 : decode cX5_piece 61 = .ok (.iconst 1, 1) := by decide +kernel
theorem dX5_piece_62 : decode cX5_piece 62 = .ok (.if_icmp .ne 13, 3) := by decide +kernel
theorem dX5_piece_65 : decode cX5_piece 65 = .ok (.aload_n 0, 1) := by decide +kernel
theorem dX5_piece_66 : decode cX5_piece 66 = .ok (.getfield 23, 3) := by decide +kernel
theorem dX5_piece_69 : decode cX5_piece 69 = .ok (.iload 4, 2) := by decide +kernel
theorem dX5_piece_71 : decode cX5_piece 71 = .ok (.iaload, 1) := by decide +kernel
theorem dX5_piece_72 : decode cX5_piece 72 = .ok (.goto 20, 3) := by decide +kernel
theorem dX5_piece_75 : decode cX5_piece 75 = .ok (.iload_n 3, 1) := by decide +kernel
theorem dX5_piece_76 : decode cX5_piece 76 = .ok (.iconst 2, 1) := by decide +kernel
theorem dX5_piece_77 : decode cX5_piece 77 = .ok (.if_icmp .ne 13, 3) := by decide +kernel
theorem dX5_piece_80 : decode cX5_piece 80 = .ok (.aload_n 0, 1) := by decide +kernel
theorem dX5_piece_81 : decode cX5_piece 81 = .ok (.getfield 26, 3) := by decide +kernel
theorem dX5_piece_84 : decode cX5_piece 84 = .ok (.iload 4, 2) := by decide +kernel
theorem dX5_piece_86 : decode cX5_piece 86 = .ok (.iaload, 1) := by decide +kernel
theorem dX5_piece_87 : decode cX5_piece 87 = .ok (.goto 5, 3) := by decide +kernel
theorem dX5_piece_90 : decode cX5_piece 90 = .ok (.bipush (-2), 2) := by decide +kernel
theorem dX5_piece_92 : decode cX5_piece 92 = .ok (.ireturn, 1) := by decide +kernel
set_option maxRecDepth 20000 in
theorem ggX5_bitsOf_X5_make : GoodIn wsX5_bitsOf wsX5_make := goodIn_r _ [9, 10, 2, 11, 12, 13, 14, 15, 16, 17, 8, 18, 19, 20, 21, 22, 23, 24, 25, 26, 27, 28, 29, 30, 31, 32, 33, 34, 35, 36, 37, 38, 39, 40, 41, 42, 43, 4, 3, 44, 45, 46, 47, 48, 49, 50, 51, 52, 53, 54, 55, 56, 57, 58, 59, 60, 61, 62, 63] (by decide +kernel) (by decide +kernel)
set_option maxRecDepth 20000 in
theorem gX5_bitsOf_X5_make : GoodIn wsX5_bitsOf (wsV RX5 101 RX5 yX5_make wsX5_make) := goodIn_app (goodIn_of _ (by decide +kernel)) ggX5_bitsOf_X5_make
set_option maxRecDepth 20000 in
theorem ggX5_bitsOf_X5_g : GoodIn wsX5_bitsOf wsX5_g := goodIn_r _ [38] (by decide +kernel) (by decide +kernel)
set_option maxRecDepth 20000 in
theorem gX5_bitsOf_X5_g : GoodIn wsX5_bitsOf (va_wsS RX5 87 yX5_g wsX5_g) := goodIn_app (goodIn_of _ (by decide +kernel)) ggX5_bitsOf_X5_g
theorem dX5_bitsOf_0 : decode cX5_bitsOf 0 = .ok (.aload_n 0, 1) := by decide +kernel
theorem dX5_bitsOf_1 : decode cX5_bitsOf 1 = .ok (.iload_n 1, 1) := by decide +kernel
theorem dX5_bitsOf_2 : decode cX5_bitsOf 2 = .ok (.invokevirtual 101, 3) := by decide +kernel
theorem dX5_bitsOf_5 : decode cX5_bitsOf 5 = .ok (.iconst 0, 1) := by decide +kernel
theorem dX5_bitsOf_6 : decode cX5_bitsOf 6 = .ok (.istore_n 3, 1) := by decide +kernel
theorem dX5_bitsOf_7 : decode cX5_bitsOf 7 = .ok (.iconst 0, 1) := by decide +kernel
theorem dX5_bitsOf_8 : decode cX5_bitsOf 8 = .ok (.istore 4, 2) := by decide +kernel
theorem dX5_bitsOf_10 : decode cX5_bitsOf 10 = .ok (.iconst 0, 1) := by decide +kernel
theorem dX5_bitsOf_11 : decode cX5_bitsOf 11 = .ok (.istore 5, 2) := by decide +kernel
theorem dX5_bitsOf_13 : decode cX5_bitsOf 13 = .ok (.iconst 0, 1) := by decide +kernel
theorem dX5_bitsOf_14 : decode cX5_bitsOf 14 = .ok (.istore 6, 2) := by decide +kernel
theorem dX5_bitsOf_16 : decode cX5_bitsOf 16 = .ok (.aload_n 0, 1) := by decide +kernel
theorem dX5_bitsOf_17 : decode cX5_bitsOf 17 = .ok (.iconst 0, 1) := by decide +kernel
theorem dX5_bitsOf_18 : decode cX5_bitsOf 18 = .ok (.putfield 104, 3) := by decide +kernel
theorem dX5_bitsOf_21 : decode cX5_bitsOf 21 = .ok (.sipush 300, 3) := by decide +kernel
theorem dX5_bitsOf_24 : decode cX5_bitsOf 24 = .ok (.iload_n 1, 1) := by decide +kernel
theorem dX5_bitsOf_25 : decode cX5_bitsOf 25 = .ok (.imul, 1) := by decide +kernel
theorem dX5_bitsOf_26 : decode cX5_bitsOf 26 = .ok (.istore 7, 2) := by decide +kernel
theorem dX5_bitsOf_28 : decode cX5_bitsOf 28 = .ok (.iload 7, 2) := by decide +kernel
theorem dX5_bitsOf_30 : decode cX5_bitsOf 30 = .ok (.sipush 300, 3) := by decide +kernel
theorem dX5_bitsOf_33 : decode cX5_bitsOf 33 = .ok (.iload_n 1, 1) := by decide +kernel
theorem dX5_bitsOf_34 : decode cX5_bitsOf 34 = .ok (.imul, 1) := by decide +kernel
theorem dX5_bitsOf_35 : decode cX5_bitsOf 35 = .ok (.aload_n 0, 1) := by decide +kernel
theorem dX5_bitsOf_36 : decode cX5_bitsOf 36 = .ok (.getfield 17, 3) := by decide +kernel
theorem dX5_bitsOf_39 : decode cX5_bitsOf 39 = .ok (.iload_n 1, 1) := by decide +kernel
theorem dX5_bitsOf_40 : decode cX5_bitsOf 40 = .ok (.iaload, 1) := by decide +kernel
theorem dX5_bitsOf_41 : decode cX5_bitsOf 41 = .ok (.iadd, 1) := by decide +kernel
theorem dX5_bitsOf_42 : decode cX5_bitsOf 42 = .ok (.if_icmp .ge 168, 3) := by decide +kernel
theorem dX5_bitsOf_45 : decode cX5_bitsOf 45 = .ok (.aload_n 0, 1) := by decide +kernel
theorem dX5_bitsOf_46 : decode cX5_bitsOf 46 = .ok (.getfield 26, 3) := by decide +kernel
theorem dX5_bitsOf_49 : decode cX5_bitsOf 49 = .ok (.iload 7, 2) := by decide +kernel
theorem dX5_bitsOf_51 : decode cX5_bitsOf 51 = .ok (.iaload, 1) := by decide +kernel
theorem dX5_bitsOf_52 : decode cX5_bitsOf 52 = .ok (.istore 8, 2) := by decide +kernel
theorem dX5_bitsOf_54 : decode cX5_bitsOf 54 = .ok (.iload 8, 2) := by decide +kernel
theorem dX5_bitsOf_56 : decode cX5_bitsOf 56 = .ok (.ifCond .ne 9, 3) := by decide +kernel
theorem dX5_bitsOf_59 : decode cX5_bitsOf 59 = .ok (.iinc 3 9, 3) := by decide +kernel
theorem dX5_bitsOf_62 : decode cX5_bitsOf 62 = .ok (.goto 142, 3) := by decide +kernel
theorem dX5_bitsOf_65 : decode cX5_bitsOf 65 = .ok (.iload 8, 2) := by decide +kernel
theorem dX5_bitsOf_67 : decode cX5_bitsOf 67 = .ok (.iload 4, 2) := by decide +kernel
theorem dX5_bitsOf_69 : decode cX5_bitsOf 69 = .ok (.if_icmp .eq 17, 3) := by decide +kernel
theorem dX5_bitsOf_72 : decode cX5_bitsOf 72 = .ok (.iload 8, 2) := by decide +kernel
theorem dX5_bitsOf_74 : decode cX5_bitsOf 74 = .ok (.iload 5, 2) := by decide +kernel
theorem dX5_bitsOf_76 : decode cX5_bitsOf 76 = .ok (.if_icmp .eq 10, 3) := by decide +kernel
theorem dX5_bitsOf_79 : decode cX5_bitsOf 79 = .ok (.iload 8, 2) := by decide +kernel
theorem dX5_bitsOf_81 : decode cX5_bitsOf 81 = .ok (.iload 6, 2) := by decide +kernel
theorem dX5_bitsOf_83 : decode cX5_bitsOf 83 = .ok (.if_icmp .ne 7, 3) := by decide +kernel
theorem dX5_bitsOf_86 : decode cX5_bitsOf 86 = .ok (.iconst 1, 1) := by decide +kernel
theorem dX5_bitsOf_87 : decode cX5_bitsOf 87 = .ok (.goto 4, 3) := by decide +kernel
theorem dX5_bitsOf_90 : decode cX5_bitsOf 90 = .ok (.iconst 0, 1) := by decide +kernel
theorem dX5_bitsOf_91 : decode cX5_bitsOf 91 = .ok (.istore 9, 2) := by decide +kernel
theorem dX5_bitsOf_93 : decode cX5_bitsOf 93 = .ok (.aload_n 0, 1) := by decide +kernel
theorem dX5_bitsOf_94 : decode cX5_bitsOf 94 = .ok (.dup, 1) := by decide +kernel
theorem dX5_bitsOf_95 : decode cX5_bitsOf 95 = .ok (.getfield 104, 3) := by decide +kernel
theorem dX5_bitsOf_98 : decode cX5_bitsOf 98 = .ok (.iload 9, 2) := by decide +kernel
theorem dX5_bitsOf_100 : decode cX5_bitsOf 100 = .ok (.ifCond .eq 7, 3) := by decide +kernel
theorem dX5_bitsOf_103 : decode cX5_bitsOf 103 = .ok (.iconst 1, 1) := by decide +kernel
theorem dX5_bitsOf_104 : decode cX5_bitsOf 104 = .ok (.goto 4, 3) := by decide +kernel
theorem dX5_bitsOf_107 : decode cX5_bitsOf 107 = .ok (.iconst 0, 1) := by decide +kernel
theorem dX5_bitsOf_108 : decode cX5_bitsOf 108 = .ok (.iadd, 1) := by decide +kernel
theorem dX5_bitsOf_109 : decode cX5_bitsOf 109 = .ok (.putfield 104, 3) := by decide +kernel
theorem dX5_bitsOf_112 : decode cX5_bitsOf 112 = .ok (.iload_n 3, 1) := by decide +kernel
theorem dX5_bitsOf_113 : decode cX5_bitsOf 113 = .ok (.iload 9, 2) := by decide +kernel
theorem dX5_bitsOf_115 : decode cX5_bitsOf 115 = .ok (.ifCond .eq 24, 3) := by decide +kernel
theorem dX5_bitsOf_118 : decode cX5_bitsOf 118 = .ok (.iload_n 2, 1) := by decide +kernel
theorem dX5_bitsOf_119 : decode cX5_bitsOf 119 = .ok (.ifCond .eq 20, 3) := by decide +kernel
theorem dX5_bitsOf_122 : decode cX5_bitsOf 122 = .ok (.iconst 4, 1) := by decide +kernel
theorem dX5_bitsOf_123 : decode cX5_bitsOf 123 = .ok (.aload_n 0, 1) := by decide +kernel
theorem dX5_bitsOf_124 : decode cX5_bitsOf 124 = .ok (.getfield 23, 3) := by decide +kernel
theorem dX5_bitsOf_127 : decode cX5_bitsOf 127 = .ok (.iload 7, 2) := by decide +kernel
theorem dX5_bitsOf_129 : decode cX5_bitsOf 129 = .ok (.iaload, 1) := by decide +kernel
theorem dX5_bitsOf_130 : decode cX5_bitsOf 130 = .ok (.iconst 2, 1) := by decide +kernel
theorem dX5_bitsOf_131 : decode cX5_bitsOf 131 = .ok (.isub, 1) := by decide +kernel
theorem dX5_bitsOf_132 : decode cX5_bitsOf 132 = .ok (.invokestatic 87, 3) := by decide +kernel
theorem dX5_bitsOf_135 : decode cX5_bitsOf 135 = .ok (.iadd, 1) := by decide +kernel
theorem dX5_bitsOf_136 : decode cX5_bitsOf 136 = .ok (.goto 23, 3) := by decide +kernel
theorem dX5_bitsOf_139 : decode cX5_bitsOf 139 = .ok (.iconst 2, 1) := by decide +kernel
theorem dX5_bitsOf_140 : decode cX5_bitsOf 140 = .ok (.aload_n 0, 1) := by decide +kernel
theorem dX5_bitsOf_141 : decode cX5_bitsOf 141 = .ok (.getfield 23, 3) := by decide +kernel
theorem dX5_bitsOf_144 : decode cX5_bitsOf 144 = .ok (.iload 7, 2) := by decide +kernel
theorem dX5_bitsOf_146 : decode cX5_bitsOf 146 = .ok (.iaload, 1) := by decide +kernel
theorem dX5_bitsOf_147 : decode cX5_bitsOf 147 = .ok (.iconst 2, 1) := by decide +kernel
theorem dX5_bitsOf_148 : decode cX5_bitsOf 148 = .ok (.isub, 1) := by decide +kernel
theorem dX5_bitsOf_149 : decode cX5_bitsOf 149 = .ok (.invokestatic 87, 3) := by decide +kernel
theorem dX5_bitsOf_152 : decode cX5_bitsOf 152 = .ok (.iadd, 1) := by decide +kernel
theorem dX5_bitsOf_153 : decode cX5_bitsOf 153 = .ok (.iload 8, 2) := by decide +kernel
theorem dX5_bitsOf_155 : decode cX5_bitsOf 155 = .ok (.invokestatic 87, 3) := by decide +kernel
theorem dX5_bitsOf_158 : decode cX5_bitsOf 158 = .ok (.iadd, 1) := by decide +kernel
theorem dX5_bitsOf_159 : decode cX5_bitsOf 159 = .ok (.iadd, 1) := by decide +kernel
theorem dX5_bitsOf_160 : decode cX5_bitsOf 160 = .ok (.istore_n 3, 1) := by decide +kernel
theorem dX5_bitsOf_161 : decode cX5_bitsOf 161 = .ok (.iload 8, 2) := by decide +kernel
theorem dX5_bitsOf_163 : decode cX5_bitsOf 163 = .ok (.iload 4, 2) := by decide +kernel
theorem dX5_bitsOf_165 : decode cX5_bitsOf 165 = .ok (.if_icmp .eq 10, 3) := by decide +kernel
theorem dX5_bitsOf_168 : decode cX5_bitsOf 168 = .ok (.iload 8, 2) := by decide +kernel
theorem dX5_bitsOf_170 : decode cX5_bitsOf 170 = .ok (.iload 5, 2) := by decide +kernel
theorem dX5_bitsOf_172 : decode cX5_bitsOf 172 = .ok (.if_icmp .ne 8, 3) := by decide +kernel
theorem dX5_bitsOf_175 : decode cX5_bitsOf 175 = .ok (.iload 6, 2) := by decide +kernel
theorem dX5_bitsOf_177 : decode cX5_bitsOf 177 = .ok (.goto 5, 3) := by decide +kernel
theorem dX5_bitsOf_180 : decode cX5_bitsOf 180 = .ok (.iload 5, 2) := by decide +kernel
theorem dX5_bitsOf_182 : decode cX5_bitsOf 182 = .ok (.istore 6, 2) := by decide +kernel
theorem dX5_bitsOf_184 : decode cX5_bitsOf 184 = .ok (.iload 8, 2) := by decide +kernel
theorem dX5_bitsOf_186 : decode cX5_bitsOf 186 = .ok (.iload 4, 2) := by decide +kernel
theorem dX5_bitsOf_188 : decode cX5_bitsOf 188 = .ok (.if_icmp .ne 8, 3) := by decide +kernel
theorem dX5_bitsOf_191 : decode cX5_bitsOf 191 = .ok (.iload 5, 2) := by decide +kernel
theorem dX5_bitsOf_193 : decode cX5_bitsOf 193 = .ok (.goto 5, 3) := by decide +kernel
theorem dX5_bitsOf_196 : decode cX5_bitsOf 196 = .ok (.iload 4, 2) := by decide +kernel
theorem dX5_bitsOf_198 : decode cX5_bitsOf 198 = .ok (.istore 5, 2) := by decide +kernel
theorem dX5_bitsOf_200 : decode cX5_bitsOf 200 = .ok (.iload 8, 2) := by decide +kernel
theorem dX5_bitsOf_202 : decode cX5_bitsOf 202 = .ok (.istore 4, 2) := by decide +kernel
theorem dX5_bitsOf_204 : decode cX5_bitsOf 204 = .ok (.iinc 7 1, 3) := by decide +kernel
theorem dX5_bitsOf_207 : decode cX5_bitsOf 207 = .ok (.goto (-179), 3) := by decide +kernel
theorem dX5_bitsOf_210 : decode cX5_bitsOf 210 = .ok (.iload_n 3, 1) := by decide +kernel
theorem dX5_bitsOf_211 : decode cX5_bitsOf 211 = .ok (.ireturn, 1) := by decide +kernel
set_option maxRecDepth 20000 in
theorem ggX5_bits_X5_isWay : GoodIn wsX5_bits wsX5_isWay := goodIn_r _ [5, 6, 7, 4, 8] (by decide +kernel) (by decide +kernel)
set_option maxRecDepth 20000 in
theorem gX5_bits_X5_isWay : GoodIn wsX5_bits (va_wsS RX5 97 yX5_isWay wsX5_isWay) := goodIn_app (goodIn_of _ (by decide +kernel)) ggX5_bits_X5_isWay
set_option maxRecDepth 20000 in
theorem ggX5_bits_X5_in : GoodIn wsX5_bits wsX5_in := goodIn_r _ [8] (by decide +kernel) (by decide +kernel)
set_option maxRecDepth 20000 in
theorem gX5_bits_X5_in : GoodIn wsX5_bits (va_wsS RX5 48 yX5_in wsX5_in) := goodIn_app (goodIn_of _ (by decide +kernel)) ggX5_bits_X5_in
set_option maxRecDepth 20000 in
theorem ggX5_bits_X5_bitsOf : GoodIn wsX5_bits wsX5_bitsOf := goodIn_r _ [12, 13, 14, 15, 16, 17, 18, 19, 4, 20, 21, 22, 23, 24, 25, 26, 27, 28, 29, 30, 31, 32, 33, 34, 35, 36, 37, 38, 39, 40, 41, 42, 43, 44, 45, 46, 47, 48, 49, 50, 51, 52, 53, 54, 55, 56, 57, 58, 59, 60, 61, 62, 63, 64, 65, 66, 67, 68, 69, 70, 71, 72, 73, 74] (by decide +kernel) (by decide +kernel)
set_option maxRecDepth 20000 in
theorem gX5_bits_X5_bitsOf : GoodIn wsX5_bits (wsV RX5 107 RX5 yX5_bitsOf wsX5_bitsOf) := goodIn_app (goodIn_of _ (by decide +kernel)) ggX5_bits_X5_bitsOf
theorem dX5_bits_0 : decode cX5_bits 0 = .ok (.aload_n 0, 1) := by decide +kernel
theorem dX5_bits_1 : decode cX5_bits 1 = .ok (.iconst 0, 1) := by decide +kernel
theorem dX5_bits_2 : decode cX5_bits 2 = .ok (.putfield 42, 3) := by decide +kernel
theorem dX5_bits_5 : decode cX5_bits 5 = .ok (.iload_n 1, 1) := by decide +kernel
theorem dX5_bits_6 : decode cX5_bits 6 = .ok (.invokestatic 97, 3) := by decide +kernel
theorem dX5_bits_9 : decode cX5_bits 9 = .ok (.ifCond .ne 5, 3) := by decide +kernel
theorem dX5_bits_12 : decode cX5_bits 12 = .ok (.iconst (-1), 1) := by decide +kernel
theorem dX5_bits_13 : decode cX5_bits 13 = .ok (.ireturn, 1) := by decide +kernel
theorem dX5_bits_14 : decode cX5_bits 14 = .ok (.iload_n 2, 1) := by decide +kernel
theorem dX5_bits_15 : decode cX5_bits 15 = .ok (.iconst 0, 1) := by decide +kernel
theorem dX5_bits_16 : decode cX5_bits 16 = .ok (.iconst 1, 1) := by decide +kernel
theorem dX5_bits_17 : decode cX5_bits 17 = .ok (.invokestatic 48, 3) := by decide +kernel
theorem dX5_bits_20 : decode cX5_bits 20 = .ok (.ifCond .eq 21, 3) := by decide +kernel
theorem dX5_bits_23 : decode cX5_bits 23 = .ok (.aload_n 0, 1) := by decide +kernel
theorem dX5_bits_24 : decode cX5_bits 24 = .ok (.iload_n 1, 1) := by decide +kernel
theorem dX5_bits_25 : decode cX5_bits 25 = .ok (.iload_n 2, 1) := by decide +kernel
theorem dX5_bits_26 : decode cX5_bits 26 = .ok (.iconst 1, 1) := by decide +kernel
theorem dX5_bits_27 : decode cX5_bits 27 = .ok (.if_icmp .ne 7, 3) := by decide +kernel
theorem dX5_bits_30 : decode cX5_bits 30 = .ok (.iconst 1, 1) := by decide +kernel
theorem dX5_bits_31 : decode cX5_bits 31 = .ok (.goto 4, 3) := by decide +kernel
theorem dX5_bits_34 : decode cX5_bits 34 = .ok (.iconst 0, 1) := by decide +kernel
theorem dX5_bits_35 : decode cX5_bits 35 = .ok (.invokevirtual 107, 3) := by decide +kernel
theorem dX5_bits_38 : decode cX5_bits 38 = .ok (.goto 5, 3) := by decide +kernel
theorem dX5_bits_41 : decode cX5_bits 41 = .ok (.bipush (-2), 2) := by decide +kernel
theorem dX5_bits_43 : decode cX5_bits 43 = .ok (.ireturn, 1) := by decide +kernel
set_option maxRecDepth 20000 in
theorem ggX5_repeats_X5_isWay : GoodIn wsX5_repeats wsX5_isWay := goodIn_r _ [6, 7, 8, 5, 9] (by decide +kernel) (by decide +kernel)
set_option maxRecDepth 20000 in
theorem gX5_repeats_X5_isWay : GoodIn wsX5_repeats (va_wsS RX5 97 yX5_isWay wsX5_isWay) := goodIn_app (goodIn_of _ (by decide +kernel)) ggX5_repeats_X5_isWay
set_option maxRecDepth 20000 in
theorem ggX5_repeats_X5_bitsOf : GoodIn wsX5_repeats wsX5_bitsOf := goodIn_r _ [13, 2, 14, 15, 16, 17, 18, 19, 5, 20, 21, 22, 23, 24, 25, 26, 27, 28, 29, 30, 31, 32, 33, 34, 35, 36, 37, 38, 39, 40, 41, 42, 43, 44, 45, 46, 47, 48, 49, 50, 51, 52, 53, 54, 55, 56, 57, 58, 59, 60, 61, 62, 63, 64, 65, 66, 67, 68, 69, 70, 71, 72, 73, 74] (by decide +kernel) (by decide +kernel)
set_option maxRecDepth 20000 in
theorem gX5_repeats_X5_bitsOf : GoodIn wsX5_repeats (wsV RX5 107 RX5 yX5_bitsOf wsX5_bitsOf) := goodIn_app (goodIn_of _ (by decide +kernel)) ggX5_repeats_X5_bitsOf
theorem dX5_repeats_0 : decode cX5_repeats 0 = .ok (.aload_n 0, 1) := by decide +kernel
theorem dX5_repeats_1 : decode cX5_repeats 1 = .ok (.iconst 0, 1) := by decide +kernel
theorem dX5_repeats_2 : decode cX5_repeats 2 = .ok (.putfield 42, 3) := by decide +kernel
theorem dX5_repeats_5 : decode cX5_repeats 5 = .ok (.iload_n 1, 1) := by decide +kernel
theorem dX5_repeats_6 : decode cX5_repeats 6 = .ok (.invokestatic 97, 3) := by decide +kernel
theorem dX5_repeats_9 : decode cX5_repeats 9 = .ok (.ifCond .ne 5, 3) := by decide +kernel
theorem dX5_repeats_12 : decode cX5_repeats 12 = .ok (.iconst (-1), 1) := by decide +kernel
theorem dX5_repeats_13 : decode cX5_repeats 13 = .ok (.ireturn, 1) := by decide +kernel
theorem dX5_repeats_14 : decode cX5_repeats 14 = .ok (.aload_n 0, 1) := by decide +kernel
theorem dX5_repeats_15 : decode cX5_repeats 15 = .ok (.iload_n 1, 1) := by decide +kernel
theorem dX5_repeats_16 : decode cX5_repeats 16 = .ok (.iconst 1, 1) := by decide +kernel
theorem dX5_repeats_17 : decode cX5_repeats 17 = .ok (.invokevirtual 107, 3) := by decide +kernel
theorem dX5_repeats_20 : decode cX5_repeats 20 = .ok (.istore_n 2, 1) := by decide +kernel
theorem dX5_repeats_21 : decode cX5_repeats 21 = .ok (.aload_n 0, 1) := by decide +kernel
theorem dX5_repeats_22 : decode cX5_repeats 22 = .ok (.getfield 104, 3) := by decide +kernel
theorem dX5_repeats_25 : decode cX5_repeats 25 = .ok (.ireturn, 1) := by decide +kernel
set_option maxRecDepth 20000 in
theorem ggX5_share_X5_isWay : GoodIn wsX5_share wsX5_isWay := goodIn_r _ [6, 7, 8, 5, 9] (by decide +kernel) (by decide +kernel)
set_option maxRecDepth 20000 in
theorem gX5_share_X5_isWay : GoodIn wsX5_share (va_wsS RX5 97 yX5_isWay wsX5_isWay) := goodIn_app (goodIn_of _ (by decide +kernel)) ggX5_share_X5_isWay
set_option maxRecDepth 20000 in
theorem ggX5_share_X5_bitsOf : GoodIn wsX5_share wsX5_bitsOf := goodIn_r _ [13, 14, 15, 16, 17, 18, 19, 20, 5, 21, 22, 2, 23, 24, 25, 26, 27, 28, 29, 30, 31, 32, 33, 34, 35, 36, 37, 38, 39, 40, 41, 42, 43, 44, 45, 46, 47, 48, 49, 50, 51, 52, 53, 54, 55, 56, 57, 58, 59, 60, 61, 62, 63, 64, 65, 66, 67, 68, 69, 70, 71, 72, 73, 74] (by decide +kernel) (by decide +kernel)
set_option maxRecDepth 20000 in
theorem gX5_share_X5_bitsOf : GoodIn wsX5_share (wsV RX5 107 RX5 yX5_bitsOf wsX5_bitsOf) := goodIn_app (goodIn_of _ (by decide +kernel)) ggX5_share_X5_bitsOf
theorem dX5_share_0 : decode cX5_share 0 = .ok (.aload_n 0, 1) := by decide +kernel
theorem dX5_share_1 : decode cX5_share 1 = .ok (.iconst 0, 1) := by decide +kernel
theorem dX5_share_2 : decode cX5_share 2 = .ok (.putfield 42, 3) := by decide +kernel
theorem dX5_share_5 : decode cX5_share 5 = .ok (.iload_n 1, 1) := by decide +kernel
theorem dX5_share_6 : decode cX5_share 6 = .ok (.invokestatic 97, 3) := by decide +kernel
theorem dX5_share_9 : decode cX5_share 9 = .ok (.ifCond .ne 5, 3) := by decide +kernel
theorem dX5_share_12 : decode cX5_share 12 = .ok (.iconst (-1), 1) := by decide +kernel
theorem dX5_share_13 : decode cX5_share 13 = .ok (.ireturn, 1) := by decide +kernel
theorem dX5_share_14 : decode cX5_share 14 = .ok (.aload_n 0, 1) := by decide +kernel
theorem dX5_share_15 : decode cX5_share 15 = .ok (.getfield 45, 3) := by decide +kernel
theorem dX5_share_18 : decode cX5_share 18 = .ok (.ifCond .ne 10, 3) := by decide +kernel
theorem dX5_share_21 : decode cX5_share 21 = .ok (.aload_n 0, 1) := by decide +kernel
theorem dX5_share_22 : decode cX5_share 22 = .ok (.iconst 1, 1) := by decide +kernel
theorem dX5_share_23 : decode cX5_share 23 = .ok (.putfield 42, 3) := by decide +kernel
theorem dX5_share_26 : decode cX5_share 26 = .ok (.iconst 0, 1) := by decide +kernel
theorem dX5_share_27 : decode cX5_share 27 = .ok (.ireturn, 1) := by decide +kernel
theorem dX5_share_28 : decode cX5_share 28 = .ok (.sipush 1000, 3) := by decide +kernel
theorem dX5_share_31 : decode cX5_share 31 = .ok (.aload_n 0, 1) := by decide +kernel
theorem dX5_share_32 : decode cX5_share 32 = .ok (.iload_n 1, 1) := by decide +kernel
theorem dX5_share_33 : decode cX5_share 33 = .ok (.iconst 1, 1) := by decide +kernel
theorem dX5_share_34 : decode cX5_share 34 = .ok (.invokevirtual 107, 3) := by decide +kernel
theorem dX5_share_37 : decode cX5_share 37 = .ok (.imul, 1) := by decide +kernel
theorem dX5_share_38 : decode cX5_share 38 = .ok (.bipush 8, 2) := by decide +kernel
theorem dX5_share_40 : decode cX5_share 40 = .ok (.aload_n 0, 1) := by decide +kernel
theorem dX5_share_41 : decode cX5_share 41 = .ok (.getfield 45, 3) := by decide +kernel
theorem dX5_share_44 : decode cX5_share 44 = .ok (.imul, 1) := by decide +kernel
theorem dX5_share_45 : decode cX5_share 45 = .ok (.idiv, 1) := by decide +kernel
theorem dX5_share_46 : decode cX5_share 46 = .ok (.ireturn, 1) := by decide +kernel
theorem dJ9_max_7cf53_0 : decode cJ9_max_7cf53 0 = .ok (.iload_n 0, 1) := by decide +kernel
theorem dJ9_max_7cf53_1 : decode cJ9_max_7cf53 1 = .ok (.iload_n 1, 1) := by decide +kernel
theorem dJ9_max_7cf53_2 : decode cJ9_max_7cf53 2 = .ok (.if_icmp .lt 7, 3) := by decide +kernel
theorem dJ9_max_7cf53_5 : decode cJ9_max_7cf53 5 = .ok (.iload_n 0, 1) := by decide +kernel
theorem dJ9_max_7cf53_6 : decode cJ9_max_7cf53 6 = .ok (.goto 4, 3) := by decide +kernel
theorem dJ9_max_7cf53_9 : decode cJ9_max_7cf53 9 = .ok (.iload_n 1, 1) := by decide +kernel
theorem dJ9_max_7cf53_10 : decode cJ9_max_7cf53 10 = .ok (.ireturn, 1) := by decide +kernel
theorem dJ9_min_7cf53_0 : decode cJ9_min_7cf53 0 = .ok (.iload_n 0, 1) := by decide +kernel
theorem dJ9_min_7cf53_1 : decode cJ9_min_7cf53 1 = .ok (.iload_n 1, 1) := by decide +kernel
theorem dJ9_min_7cf53_2 : decode cJ9_min_7cf53 2 = .ok (.if_icmp .gt 7, 3) := by decide +kernel
theorem dJ9_min_7cf53_5 : decode cJ9_min_7cf53 5 = .ok (.iload_n 0, 1) := by decide +kernel
theorem dJ9_min_7cf53_6 : decode cJ9_min_7cf53 6 = .ok (.goto 4, 3) := by decide +kernel
theorem dJ9_min_7cf53_9 : decode cJ9_min_7cf53 9 = .ok (.iload_n 1, 1) := by decide +kernel
theorem dJ9_min_7cf53_10 : decode cJ9_min_7cf53 10 = .ok (.ireturn, 1) := by decide +kernel
abbrev vwCl : List vw_C := [(RX0, TX0, 8), (RX1, TX1, 3), (RX2, TX2, 11), (RX3, TX3, 3), (RX4, TX4, 4), (RX5, TX5, 16)]
end
section
/-! My rows for contracts: a method that only reads (zk_Rd), one that writes cells that are there (zk_Wv, zk_Wi, zk_Wr); entries, ends, calls. -/
section ZKA
/-- what the tables say of private members of nest mates -/
def zk_N (U : State) : Prop := va_Nw (.methodLinkNest RX1 47 yX4_gammaBits RX4) U ∧ va_Nw (.methodLinkNest RX2 47 yX4_gammaBits RX4) U ∧ va_Nw (.methodLinkNest RX4 11 yX3_init RX4) U ∧ va_Nw (.methodLinkNest RX4 31 yX1_init RX4) U ∧ va_Nw (.methodLinkNest RX4 42 yX2_init RX4) U
theorem zk_N.warm {s U : State} (hW : s.WarmedH U.vm) (h : zk_N s) : zk_N U := ⟨va_Nw.warmM hW h.1, va_Nw.warmM hW h.2.1, va_Nw.warmM hW h.2.2.1, va_Nw.warmM hW h.2.2.2.1, va_Nw.warmM hW h.2.2.2.2⟩
theorem zk_N.same {s U : State} (hW : s.vm = U.vm) (h : zk_N s) : zk_N U := ⟨va_Nw.same rfl hW h.1, va_Nw.same rfl hW h.2.1, va_Nw.same rfl hW h.2.2.1, va_Nw.same rfl hW h.2.2.2.1, va_Nw.same rfl hW h.2.2.2.2⟩
def zk_Pre (D : va_G) (tys : List (ClassId × FieldType)) (w : va_W) (U : State) : Prop := va_P D vwCl w U.heap ∧ va_K D vwCl tys U ∧ va_D (fun _ => True) w ∧ zk_N U
def zk_Rd (l : Launch) (y : MethodName) (wd : List Cond) (rm : Room) (D : va_G) (tys : List (ClassId × FieldType)) (as : List Value) (w : va_W) (r : Int32) : Prop :=
  Met l y wd rm (va_Pc as (zk_Pre D tys w)) (QcRead r) 0 0 (fun _ => False)
def zk_Wv {S : Type} (l : Launch) (y : MethodName) (wd : List Cond) (rm : Room) (D : va_G) (tys : List (ClassId × FieldType)) (as : List Value) (w : va_W) (post : S → Prop) (w' : S → va_W) : Prop :=
  ∀ sz : Nat, Met l y wd rm (va_Pc as (fun U => U.heap.size = sz ∧ zk_Pre D tys w U)) (va_Qv post (fun u t => va_P D vwCl (w' u) t.heap) (va_A w sz)) 0 0 (va_A w sz)
def zk_Wi {S : Type} (l : Launch) (y : MethodName) (wd : List Cond) (rm : Room) (D : va_G) (tys : List (ClassId × FieldType)) (as : List Value) (w : va_W) (post : Int32 → S → Prop) (w' : S → va_W) : Prop :=
  ∀ sz : Nat, Met l y wd rm (va_Pc as (fun U => U.heap.size = sz ∧ zk_Pre D tys w U)) (va_Qi post (fun u t => va_P D vwCl (w' u) t.heap) (va_A w sz)) 0 0 (va_A w sz)
def zk_Wr {S : Type} (l : Launch) (y : MethodName) (wd : List Cond) (rm : Room) (D : va_G) (tys : List (ClassId × FieldType)) (as : List Value) (w : va_W) (r : Nat) (post : S → Prop) (w' : S → va_W) : Prop :=
  ∀ sz : Nat, Met l y wd rm (va_Pc as (fun U => U.heap.size = sz ∧ zk_Pre D tys w U)) (va_Qr post (fun u a t => a = r ∧ va_P D vwCl (w' u) t.heap) (va_A w sz)) 0 0 (va_A w sz)
theorem zk_blind {D : va_G} {tys : List (ClassId × FieldType)} {w : va_W} {as : List Value} : FrameBlind (va_Pc as (zk_Pre D tys w)) := fun a U g mk q => by
  obtain ⟨q0, qP, qK, qD, qN⟩ := q
  exact ⟨q0, qP, va_K.moved (u := U) (U := U.calling g mk a) (Vm.Alike.refl U.vm) qK, qD, zk_N.same (s := U) (U := U.calling g mk a) rfl qN⟩
theorem zk_blindW {D : va_G} {tys : List (ClassId × FieldType)} {w : va_W} {as : List Value} {sz : Nat} : FrameBlind (va_Pc as (fun U => U.heap.size = sz ∧ zk_Pre D tys w U)) := fun a U g mk q => by
  obtain ⟨q0, q1, qP, qK, qD, qN⟩ := q
  exact ⟨q0, q1, qP, va_K.moved (u := U) (U := U.calling g mk a) (Vm.Alike.refl U.vm) qK, qD, zk_N.same (s := U) (U := U.calling g mk a) rfl qN⟩
theorem zk_key {ws w : va_W} {is : List Nat} (hs : is.map (fun i => ws[i]?) = w.map some) (k : Nat) (q : Nat × va_E) (hk : w[k]? = some q) : ∃ i, is[k]? = some i ∧ ws[i]? = some q := by
  have h1 : (is.map (fun i => ws[i]?))[k]? = some (some q) := by rw [hs, List.getElem?_map, hk]; rfl
  rw [List.getElem?_map] at h1
  cases hi : is[k]? with
  | none => rw [hi] at h1; cases h1
  | some i => rw [hi] at h1; exact ⟨i, rfl, Option.some.inj h1⟩
theorem zk_subP {D : va_G} {cl : List vw_C} {ws w : va_W} {H : Heap} (h : va_P D cl ws H) (is : List Nat) (hs : is.map (fun i => ws[i]?) = w.map some) : va_P D cl w H := by
  intro k q hk
  obtain ⟨i, -, h2⟩ := zk_key hs k q hk
  exact h i q h2
theorem zk_D {A : Nat → Prop} {ws ws' : va_W} (h : va_D A ws) (ha : ws'.map Prod.fst = ws.map Prod.fst) : va_D A ws' := by
  have key : ∀ (k : Nat) (q : Nat × va_E), ws'[k]? = some q → ∃ q0 : Nat × va_E, ws[k]? = some q0 ∧ q0.1 = q.1 := by
    intro k q hk
    have h1 : (ws'.map Prod.fst)[k]? = some q.1 := by rw [List.getElem?_map, hk]; rfl
    rw [ha, List.getElem?_map] at h1
    cases hi : ws[k]? with
    | none => rw [hi] at h1; cases h1
    | some q0 => rw [hi] at h1; exact ⟨q0, rfl, Option.some.inj h1⟩
  refine ⟨fun i j x y hi hj hxy => ?_, fun k q hk => ?_⟩
  · obtain ⟨x0, h1, h2⟩ := key i x hi
    obtain ⟨y0, h3, h4⟩ := key j y hj
    exact h.1 i j x0 y0 h1 h3 (h2.trans (hxy.trans h4.symm))
  · obtain ⟨q0, h1, h2⟩ := key k q hk
    rw [← h2]
    exact h.2 k q0 h1
/-- a world with some cells' contents exchanged -/
def zk_put : va_W → List Nat → va_W → va_W
  | ws, i :: is, e :: es => zk_put (ws.set i e) is es
  | ws, _, _ => ws
theorem zk_put_at : ∀ (is : List Nat) (w' ws : va_W), is.length = w'.length → ∀ (k : Nat) (q : Nat × va_E), (zk_put ws is w')[k]? = some q → (∃ j : Nat, w'[j]? = some q) ∨ (ws[k]? = some q ∧ k ∉ is)
  | [], w', ws, _, k, q, h => Or.inr ⟨by cases w' <;> exact h, List.not_mem_nil⟩
  | i :: is, [], ws, hl, k, q, h => by simp at hl
  | i :: is, e :: es, ws, hl, k, q, h => by
    rcases zk_put_at is es (ws.set i e) (by simpa using hl) k q h with ⟨j, hj⟩ | ⟨h1, h2⟩
    · exact Or.inl ⟨j + 1, by rw [List.getElem?_cons_succ]; exact hj⟩
    · by_cases hk : k = i
      · subst hk
        by_cases hlt : k < ws.length
        · rw [List.getElem?_set_self hlt] at h1
          exact Or.inl ⟨0, by rw [List.getElem?_cons_zero]; exact h1⟩
        · have h9 : (ws.set k e)[k]? = none := List.getElem?_eq_none (by rw [List.length_set]; omega)
          rw [h9] at h1; cases h1
      · rw [List.getElem?_set_ne (Ne.symm hk)] at h1
        refine Or.inr ⟨h1, fun hm => ?_⟩
        rcases List.mem_cons.mp hm with h3 | h3
        · exact hk h3
        · exact h2 h3
theorem zk_putP {A : Nat → Prop} {D : va_G} {cl : List vw_C} {ws w w' : va_W} {H H1 : Heap} {is : List Nat} (hP : va_P D cl ws H) (hD : va_D A ws) (hC : is.map (fun i => ws[i]?) = w.map some) (hl : is.length = w'.length)
    (hk : ∀ q : Nat, q < H.size → ¬ va_A w H.size q → H1[q]? = H[q]?) (hP1 : va_P D cl w' H1) : va_P D cl (zk_put ws is w') H1 := by
  intro k q hq
  rcases zk_put_at is w' ws hl k q hq with ⟨j, hj⟩ | ⟨h1, h2⟩
  · exact hP1 j q hj
  · have hlt := (hP k q h1).lt
    refine (hP k q h1).kept (hk q.1 hlt (fun h => ?_))
    rcases h with ⟨k2, e, h⟩ | h
    · obtain ⟨j, h3, h4⟩ := zk_key hC k2 (q.1, e) h
      have hij := hD.1 k j q (q.1, e) h1 h4 rfl
      subst hij
      exact h2 (List.mem_of_getElem? h3)
    · omega
end ZKA
section ZKC
variable {p : Program} {l : Launch} {e : Env} {R : Room} {s : State} {m : MethodId} {args : Array Value} {below : List Frame} {meth : Method} {c : Code} {H : Heap} {locs : List Loc} {cells slots : Nat} {Q : State → Prop}
variable {pc : Nat} {ls : Array Slot} {rest st0 : List Value} {cc : ByteArray} {D : va_G} {A : Nat → Prop} {H0 : Heap} {tys : List (ClassId × FieldType)} {ws w : va_W}
-- calls of methods that only read
variable {y : MethodName} {bytes : ByteArray} {maxL nL n index : Nat} {ret : Option FieldType} {wd Ts : List Cond} {rm : Room} {own C host : String} {b : Addr} {As : List Value}
theorem zk_runOf {mc ms : Nat} {g : JFrame} {Qa : State → Outcome → State → Prop} {free : Addr → Prop} (h : va_Run p l e R s m args below meth c H locs cells slots mc ms g rest Qa free) : CallRun p l e R s m args below meth c H locs cells slots mc ms g rest Qa free := fun T hT X => by
  obtain ⟨v, st₀, t, T', L, h0, X', hL, e1, -, hq, st⟩ := h T hT X
  exact ⟨v, st₀, t, T', L, h0, X', hL, e1, hq, st⟩
theorem zk_rdV {r : Int32} (S : CallFix p m c cc nL s args Ts own) (hN : zk_N s) (hM : zk_Rd l y wd rm D tys (.ref b :: As) w r) (cw : CallW R s args own C index y bytes maxL ret wd rm 0 0 n)
    (hK : va_K D vwCl tys s) (hP : va_P D vwCl ws H) (hD : va_D A ws) (isC : List Nat) (hC : isC.map (fun i => ws[i]?) = w.map some) (hnd : va_nd isC = true) {ci : Nat} {q : vw_C} {fs : List Value} (hc : vwCl[ci]? = some q) (hq : q.1 = C) (he : w[0]? = some (b, .inr (ci, fs)))
    (hn : As.length = n) (hsz : ls.size = nL) (hst : st0 = As.reverse ++ .ref b :: rest) (hrm : (rest.map fun v => v.category).sum ≤ 8) (hdg : decode cc pc = .ok (.invokevirtual index, 3)) (hf : cells ≤ R.cells ∧ slots ≤ R.slots)
    (kk : W p l e R s m args below meth c H locs cells slots Q (F0 m (pc + 3) ls (.int r :: rest))) : W p l e R s m args below meth c H locs cells slots Q (F0 m pc ls st0) := by
  subst hq
  have hPc : va_P D vwCl w H := zk_subP hP isC hC
  have hDc : va_D (fun _ => True) w := (hD.sub isC hnd hC).weaken (fun _ _ _ _ => trivial)
  exact W.callR (W.runV S hM cw ⟨zk_blind, va_recv hK hPc hc he, fun U hU hW => ⟨rfl, by rw [hU]; exact hPc, va_K.moved hW.alike hK, hDc, hN.warm hW⟩⟩ rfl hn hsz hst (lv_room hrm) hdg hf) kk
theorem zk_rdS {r : Int32} (S : CallFix p m c cc nL s args Ts own) (hN : zk_N s) (hM : zk_Rd l y wd rm D tys As w r) (cw : CallB R s args own index y bytes maxL ret wd rm 0 0 n ∧ (Cond.static y).before args s = true)
    (hK : va_K D vwCl tys s) (hP : va_P D vwCl ws H) (hD : va_D A ws) (isC : List Nat) (hC : isC.map (fun i => ws[i]?) = w.map some) (hnd : va_nd isC = true)
    (hn : As.length = n) (hsz : ls.size = nL) (hst : st0 = As.reverse ++ rest) (hrm : (rest.map fun v => v.category).sum ≤ 8) (hdg : decode cc pc = .ok (.invokestatic index, 3)) (hf : cells ≤ R.cells ∧ slots ≤ R.slots)
    (kk : W p l e R s m args below meth c H locs cells slots Q (F0 m (pc + 3) ls (.int r :: rest))) : W p l e R s m args below meth c H locs cells slots Q (F0 m pc ls st0) := by
  have hPc : va_P D vwCl w H := zk_subP hP isC hC
  have hDc : va_D (fun _ => True) w := (hD.sub isC hnd hC).weaken (fun _ _ _ _ => trivial)
  exact W.callR (W.runS S hM cw ⟨zk_blind, fun U hU hW => ⟨rfl, by rw [hU]; exact hPc, va_K.moved hW.alike hK, hDc, hN.warm hW⟩⟩ rfl hn hsz hst (lv_room hrm) hdg hf) kk
theorem zk_rdSN {r : Int32} (S : CallFix p m c cc nL s args Ts own) (hN : zk_N s) (hM : zk_Rd l y wd rm D tys As w r) (cw : va_CN R s args own index y host bytes maxL ret wd rm 0 0 n ∧ (Cond.static y).before args s = true ∧ True)
    (hK : va_K D vwCl tys s) (hP : va_P D vwCl ws H) (hD : va_D A ws) (isC : List Nat) (hC : isC.map (fun i => ws[i]?) = w.map some) (hnd : va_nd isC = true)
    (hn : As.length = n) (hsz : ls.size = nL) (hst : st0 = As.reverse ++ rest) (hrm : (rest.map fun v => v.category).sum ≤ 8) (hdg : decode cc pc = .ok (.invokestatic index, 3)) (hf : cells ≤ R.cells ∧ slots ≤ R.slots)
    (kk : W p l e R s m args below meth c H locs cells slots Q (F0 m (pc + 3) ls (.int r :: rest))) : W p l e R s m args below meth c H locs cells slots Q (F0 m pc ls st0) := by
  have hPc : va_P D vwCl w H := zk_subP hP isC hC
  have hDc : va_D (fun _ => True) w := (hD.sub isC hnd hC).weaken (fun _ _ _ _ => trivial)
  exact W.callR (zk_runOf (va_runSN S hM cw ⟨zk_blind, fun U hU hW => ⟨rfl, by rw [hU]; exact hPc, va_K.moved hW.alike hK, hDc, hN.warm hW⟩⟩ rfl hn hsz hst (lv_room hrm) hdg hf)) kk
-- calls of methods that write
theorem zk_preV (hN : zk_N s) (hK : va_K D vwCl tys s) (hP : va_P D vwCl ws H) (hD : va_D A ws) (isC : List Nat) (hC : isC.map (fun i => ws[i]?) = w.map some) (hnd : va_nd isC = true) {ci : Nat} {q : vw_C} {fs : List Value} (hc : vwCl[ci]? = some q) (he : w[0]? = some (b, .inr (ci, fs))) :
    PreV s H q.1 b (va_Pc (.ref b :: As) (fun U => U.heap.size = H.size ∧ zk_Pre D tys w U)) As := by
  have hPc : va_P D vwCl w H := zk_subP hP isC hC
  have hDc : va_D (fun _ => True) w := (hD.sub isC hnd hC).weaken (fun _ _ _ _ => trivial)
  exact ⟨zk_blindW, va_recv hK hPc hc he, fun U hU hW => ⟨rfl, by rw [hU], by rw [hU]; exact hPc, va_K.moved hW.alike hK, hDc, hN.warm hW⟩⟩
theorem zk_wrV {S : Type} {post : S → Prop} {w' : S → va_W} (F : CallFix p m c cc nL s args Ts own) (hN : zk_N s) (hM : zk_Wv l y wd rm D tys (.ref b :: As) w post w') (cw : CallW R s args own C index y bytes maxL ret wd rm 0 0 n)
    (hK : va_K D vwCl tys s) (hP : va_P D vwCl ws H) (hD : va_D A ws) (hS : va_S A H0 H locs) (hA : ∀ q, H0.size ≤ q → A q) (isC : List Nat) (hC : isC.map (fun i => ws[i]?) = w.map some) (hnd : va_nd isC = true) (hlw : ∀ u, isC.length = (w' u).length) {ci : Nat} {q : vw_C} {fs : List Value} (hc : vwCl[ci]? = some q) (hq : q.1 = C) (he : w[0]? = some (b, .inr (ci, fs)))
    (hn : As.length = n) (hsz : ls.size = nL) (hst : st0 = As.reverse ++ .ref b :: rest) (hrm : (rest.map fun v => v.category).sum ≤ 8) (hdg : decode cc pc = .ok (.invokevirtual index, 3)) (hf : cells ≤ R.cells ∧ slots ≤ R.slots)
    (kk : ∀ (u : S) (H1 : Heap) (locs1 : List Loc), post u → va_P D vwCl (zk_put ws isC (w' u)) H1 → va_S A H0 H1 locs1 → W p l e R s m args below meth c H1 locs1 cells slots Q (F0 m (pc + 3) ls rest)) : W p l e R s m args below meth c H locs cells slots Q (F0 m pc ls st0) := by
  subst hq
  have hFc := va_free hD hS hA isC hC
  exact va_callv (va_runV F (hM H.size) cw (zk_preV hN hK hP hD isC hC hnd hc he) rfl hn hsz hst (lv_room hrm) hdg hf) hS (fun q _ h => hFc q h) hFc (fun u t H1 locs1 ht hvm hw hB hz hk hS1 => kk u H1 locs1 hw (zk_putP hP hD hC (hlw u) hk (by rw [← ht]; exact hB)) hS1)
theorem zk_wrI {S : Type} {post : Int32 → S → Prop} {w' : S → va_W} (F : CallFix p m c cc nL s args Ts own) (hN : zk_N s) (hM : zk_Wi l y wd rm D tys (.ref b :: As) w post w') (cw : CallW R s args own C index y bytes maxL ret wd rm 0 0 n)
    (hK : va_K D vwCl tys s) (hP : va_P D vwCl ws H) (hD : va_D A ws) (hS : va_S A H0 H locs) (hA : ∀ q, H0.size ≤ q → A q) (isC : List Nat) (hC : isC.map (fun i => ws[i]?) = w.map some) (hnd : va_nd isC = true) (hlw : ∀ u, isC.length = (w' u).length) {ci : Nat} {q : vw_C} {fs : List Value} (hc : vwCl[ci]? = some q) (hq : q.1 = C) (he : w[0]? = some (b, .inr (ci, fs)))
    (hn : As.length = n) (hsz : ls.size = nL) (hst : st0 = As.reverse ++ .ref b :: rest) (hrm : (rest.map fun v => v.category).sum ≤ 8) (hdg : decode cc pc = .ok (.invokevirtual index, 3)) (hf : cells ≤ R.cells ∧ slots ≤ R.slots)
    (kk : ∀ (r : Int32) (u : S) (H1 : Heap) (locs1 : List Loc), post r u → va_P D vwCl (zk_put ws isC (w' u)) H1 → va_S A H0 H1 locs1 → W p l e R s m args below meth c H1 locs1 cells slots Q (F0 m (pc + 3) ls (.int r :: rest))) : W p l e R s m args below meth c H locs cells slots Q (F0 m pc ls st0) := by
  subst hq
  have hFc := va_free hD hS hA isC hC
  exact va_calli (va_runV F (hM H.size) cw (zk_preV hN hK hP hD isC hC hnd hc he) rfl hn hsz hst (lv_room hrm) hdg hf) hS (fun q _ h => hFc q h) hFc (fun r u t H1 locs1 ht hvm hw hB hz hk hS1 => kk r u H1 locs1 hw (zk_putP hP hD hC (hlw u) hk (by rw [← ht]; exact hB)) hS1)
theorem zk_wrA {S : Type} {post : S → Prop} {w' : S → va_W} {r : Nat} (F : CallFix p m c cc nL s args Ts own) (hN : zk_N s) (hM : zk_Wr l y wd rm D tys (.ref b :: As) w r post w') (cw : CallW R s args own C index y bytes maxL ret wd rm 0 0 n)
    (hK : va_K D vwCl tys s) (hP : va_P D vwCl ws H) (hD : va_D A ws) (hS : va_S A H0 H locs) (hA : ∀ q, H0.size ≤ q → A q) (isC : List Nat) (hC : isC.map (fun i => ws[i]?) = w.map some) (hnd : va_nd isC = true) (hlw : ∀ u, isC.length = (w' u).length) {ci : Nat} {q : vw_C} {fs : List Value} (hc : vwCl[ci]? = some q) (hq : q.1 = C) (he : w[0]? = some (b, .inr (ci, fs)))
    (hn : As.length = n) (hsz : ls.size = nL) (hst : st0 = As.reverse ++ .ref b :: rest) (hrm : (rest.map fun v => v.category).sum ≤ 8) (hdg : decode cc pc = .ok (.invokevirtual index, 3)) (hf : cells ≤ R.cells ∧ slots ≤ R.slots)
    (kk : ∀ (u : S) (H1 : Heap) (locs1 : List Loc), post u → va_P D vwCl (zk_put ws isC (w' u)) H1 → va_S A H0 H1 locs1 → W p l e R s m args below meth c H1 locs1 cells slots Q (F0 m (pc + 3) ls (.ref r :: rest))) : W p l e R s m args below meth c H locs cells slots Q (F0 m pc ls st0) := by
  subst hq
  have hFc := va_free hD hS hA isC hC
  exact va_callr (va_runV F (hM H.size) cw (zk_preV hN hK hP hD isC hC hnd hc he) rfl hn hsz hst (lv_room hrm) hdg hf) hS (fun q _ h => hFc q h) hFc (fun u ra t H1 locs1 ht hvm hw hB hz hk hS1 => by rw [hB.1]; exact kk u H1 locs1 hw (zk_putP hP hD hC (hlw u) hk (by rw [← ht]; exact hB.2)) hS1)
end ZKC
section ZKB
theorem zk_enterR {l : Launch} {y : MethodName} {wd wd' : List Cond} {rm : Room} {D : va_G} {tys : List (ClassId × FieldType)} {as : List Value} {w : va_W} {r : Int32} (own : String) (cc : ByteArray) (maxL : Nat) (ret : FieldType)
    (hy : plainName y.cls = true) (hyc : y.cls = own) (hw : wd = Cond.code y cc maxL (some ret) :: wd') (hn : (lg_sl as).length ≤ maxL) (hret : ret = .int ∨ (ret = .boolean ∧ narrow .boolean (.int r) = .int r))
    (body : ∀ (p : Program) (e : Env) (s : State) (m : MethodId) (args : Array Value) (below : List Frame) (meth : Method) (c : Code) (ls : Array Slot) (Q : State → Prop), p.tables.exec = Jvm.exec → c.code = cc → c.maxLocals = maxL → s.vm.findClass own = some m.cls →
      (∀ w ∈ wd, w.before args s = true) → va_P D vwCl w s.heap → va_K D vwCl tys s → va_D (fun _ => True) w → zk_N s → lv_has ls maxL (lv_args 0 as) →
      (∀ (pc : Nat) (ls : Array Slot) (v : Int32), decode cc pc = .ok (.ireturn, 1) → v = r → W p l e rm s m args below meth c s.heap [] 0 0 Q (F0 m pc ls [.int v])) →
      W p l e rm s m args below meth c s.heap [] 0 0 Q (F0 m 0 ls [])) : zk_Rd l y wd rm D tys as w r := by
  refine Met.ofW (cc := cc) (maxL := maxL) (ret := some ret) hy hw ?_
  intro p e s m args below meth c s₁ B hml hv
  obtain ⟨rfl, hP, hK, hD, hN⟩ := hv
  have hl := lv_entry as (n := maxL) hn
  rw [lg_entry_eq]
  refine body p e s m _ below meth c _ _ B.exec B.bytes hml (hyc ▸ findClass_of_methodNamed B.named) (atoms_spec (ws := wd) B.pre) hP hK hD hN hl ?_
  intro pc ls v hdg hv
  subst hv
  rcases hret with rfl | ⟨rfl, hz⟩
  · exact W.iret B.exec B.bytes B.returns (fun t ht _ => ⟨rfl, ht⟩) (fun _ h => by cases h) hdg B.notSynchronized
  · exact W.zret B.exec B.bytes B.returns hz (fun t ht _ => ⟨rfl, ht⟩) (fun _ h => by cases h) hdg B.notSynchronized
/-- the entry of a method that writes; its end is told by Z -/
theorem zk_enterG {l : Launch} {y : MethodName} {wd wd' : List Cond} {rm : Room} {D : va_G} {tys : List (ClassId × FieldType)} {as : List Value} {w : va_W} {sz : Nat} {Qc : (Nat → Prop) → Array Value → State → Outcome → State → Prop} (own : String) (cc : ByteArray) (maxL : Nat) (ret : Option FieldType) {mc ms : Nat}
    (hy : plainName y.cls = true) (hyc : y.cls = own) (hw : wd = Cond.code y cc maxL ret :: wd') (hn : (lg_sl as).length ≤ maxL)
    (body : ∀ (p : Program) (e : Env) (s : State) (m : MethodId) (args : Array Value) (below : List Frame) (meth : Method) (c : Code) (ls : Array Slot) (A : Nat → Prop), p.tables.exec = Jvm.exec → c.code = cc → c.maxLocals = maxL → s.vm.findClass own = some m.cls → meth.sig.returnType = ret → meth.locks = false → meth.name = y.name →
      (∀ w ∈ wd, w.before args s = true) → va_P D vwCl w s.heap → va_K D vwCl tys s → va_D A w → zk_N s → lv_has ls maxL (lv_args 0 as) → (∀ q : Nat, s.heap.size ≤ q → A q) → va_S A s.heap s.heap [] →
      W p l e rm s m args below meth c s.heap [] 0 0 (MQ below (Qc A) args s mc ms A) (F0 m 0 ls [])) : Met l y wd rm (va_Pc as (fun U => U.heap.size = sz ∧ zk_Pre D tys w U)) (Qc (va_A w sz)) mc ms (va_A w sz) := by
  refine Met.ofW (cc := cc) (maxL := maxL) (ret := ret) hy hw ?_
  intro p e s m args below meth c s₁ B hml hv
  obtain ⟨rfl, hsz, hP, hK, hD, hN⟩ := hv
  subst hsz
  have hl := lv_entry as (n := maxL) hn
  rw [lg_entry_eq]
  exact body p e s m _ below meth c _ (va_A w s.heap.size) B.exec B.bytes hml (hyc ▸ findClass_of_methodNamed B.named) B.returns B.notSynchronized (name_of_methodNamed B.named B.method).1 (atoms_spec (ws := wd) B.pre) hP hK hD.self hN hl (fun q h => Or.inr h) va_S.rf
theorem zk_enterV {S : Type} {l : Launch} {y : MethodName} {wd wd' : List Cond} {rm : Room} {D : va_G} {tys : List (ClassId × FieldType)} {as : List Value} {w : va_W} {post : S → Prop} {w' : S → va_W} (own : String) (cc : ByteArray) (maxL : Nat)
    (hy : plainName y.cls = true) (hyc : y.cls = own) (hw : wd = Cond.code y cc maxL none :: wd') (hn : (lg_sl as).length ≤ maxL)
    (body : ∀ (p : Program) (e : Env) (s : State) (m : MethodId) (args : Array Value) (below : List Frame) (meth : Method) (c : Code) (ls : Array Slot) (A : Nat → Prop) (Q : State → Prop), p.tables.exec = Jvm.exec → c.code = cc → c.maxLocals = maxL → s.vm.findClass own = some m.cls →
      (∀ w ∈ wd, w.before args s = true) → va_P D vwCl w s.heap → va_K D vwCl tys s → va_D A w → zk_N s → lv_has ls maxL (lv_args 0 as) → (∀ q : Nat, s.heap.size ≤ q → A q) → va_S A s.heap s.heap [] →
      (∀ (pc : Nat) (ls : Array Slot) (H : Heap) (locs : List Loc) (u : S), decode cc pc = .ok (.return_, 1) → post u → va_P D vwCl (w' u) H → va_S A s.heap H locs → W p l e rm s m args below meth c H locs 0 0 Q (F0 m pc ls [])) →
      W p l e rm s m args below meth c s.heap [] 0 0 Q (F0 m 0 ls [])) : zk_Wv l y wd rm D tys as w post w' := by
  intro sz
  refine zk_enterG (Qc := fun A => va_Qv post (fun u t => va_P D vwCl (w' u) t.heap) A) own cc maxL none hy hyc hw hn ?_
  intro p e s m args below meth c ls A hx hb hml hown hr hlk hin hts hP hK hD hN hl hA hS
  exact body p e s m args below meth c ls A _ hx hb hml hown hts hP hK hD hN hl hA hS (fun pc ls H locs u hdg hp hP hS => W.vret hx hb hr (fun t ht _ => ⟨⟨u, rfl, hp, by show va_P D vwCl (w' u) t.heap; rw [ht]; exact hP⟩, hS.F ht⟩) hS.2.2 hdg hlk)
theorem zk_enterI {S : Type} {l : Launch} {y : MethodName} {wd wd' : List Cond} {rm : Room} {D : va_G} {tys : List (ClassId × FieldType)} {as : List Value} {w : va_W} {post : Int32 → S → Prop} {w' : S → va_W} (own : String) (cc : ByteArray) (maxL : Nat)
    (hy : plainName y.cls = true) (hyc : y.cls = own) (hw : wd = Cond.code y cc maxL (some .int) :: wd') (hn : (lg_sl as).length ≤ maxL)
    (body : ∀ (p : Program) (e : Env) (s : State) (m : MethodId) (args : Array Value) (below : List Frame) (meth : Method) (c : Code) (ls : Array Slot) (A : Nat → Prop) (Q : State → Prop), p.tables.exec = Jvm.exec → c.code = cc → c.maxLocals = maxL → s.vm.findClass own = some m.cls →
      (∀ w ∈ wd, w.before args s = true) → va_P D vwCl w s.heap → va_K D vwCl tys s → va_D A w → zk_N s → lv_has ls maxL (lv_args 0 as) → (∀ q : Nat, s.heap.size ≤ q → A q) → va_S A s.heap s.heap [] →
      (∀ (pc : Nat) (ls : Array Slot) (H : Heap) (locs : List Loc) (v : Int32) (u : S), decode cc pc = .ok (.ireturn, 1) → post v u → va_P D vwCl (w' u) H → va_S A s.heap H locs → W p l e rm s m args below meth c H locs 0 0 Q (F0 m pc ls [.int v])) →
      W p l e rm s m args below meth c s.heap [] 0 0 Q (F0 m 0 ls [])) : zk_Wi l y wd rm D tys as w post w' := by
  intro sz
  refine zk_enterG (Qc := fun A => va_Qi post (fun u t => va_P D vwCl (w' u) t.heap) A) own cc maxL (some .int) hy hyc hw hn ?_
  intro p e s m args below meth c ls A hx hb hml hown hr hlk hin hts hP hK hD hN hl hA hS
  exact body p e s m args below meth c ls A _ hx hb hml hown hts hP hK hD hN hl hA hS (fun pc ls H locs v u hdg hp hP hS => W.iret hx hb hr (fun t ht _ => ⟨⟨v, u, rfl, hp, by show va_P D vwCl (w' u) t.heap; rw [ht]; exact hP⟩, hS.F ht⟩) hS.2.2 hdg hlk)
theorem zk_enterA {S : Type} {l : Launch} {y : MethodName} {wd wd' : List Cond} {rm : Room} {D : va_G} {tys : List (ClassId × FieldType)} {as : List Value} {w : va_W} {r : Nat} {post : S → Prop} {w' : S → va_W} (own : String) (cc : ByteArray) (maxL : Nat) (cn : String)
    (hy : plainName y.cls = true) (hyc : y.cls = own) (hw : wd = Cond.code y cc maxL (some (.object cn)) :: wd') (hn : (lg_sl as).length ≤ maxL)
    (body : ∀ (p : Program) (e : Env) (s : State) (m : MethodId) (args : Array Value) (below : List Frame) (meth : Method) (c : Code) (ls : Array Slot) (A : Nat → Prop) (Q : State → Prop), p.tables.exec = Jvm.exec → c.code = cc → c.maxLocals = maxL → s.vm.findClass own = some m.cls →
      (∀ w ∈ wd, w.before args s = true) → va_P D vwCl w s.heap → va_K D vwCl tys s → va_D A w → zk_N s → lv_has ls maxL (lv_args 0 as) → (∀ q : Nat, s.heap.size ≤ q → A q) → va_S A s.heap s.heap [] →
      (∀ (pc : Nat) (ls : Array Slot) (H : Heap) (locs : List Loc) (u : S), decode cc pc = .ok (.areturn, 1) → post u → va_P D vwCl (w' u) H → va_S A s.heap H locs → W p l e rm s m args below meth c H locs 0 0 Q (F0 m pc ls [.ref r])) →
      W p l e rm s m args below meth c s.heap [] 0 0 Q (F0 m 0 ls [])) : zk_Wr l y wd rm D tys as w r post w' := by
  intro sz
  refine zk_enterG (Qc := fun A => va_Qr post (fun u a t => a = r ∧ va_P D vwCl (w' u) t.heap) A) own cc maxL (some (.object cn)) hy hyc hw hn ?_
  intro p e s m args below meth c ls A hx hb hml hown hr hlk hin hts hP hK hD hN hl hA hS
  exact body p e s m args below meth c ls A _ hx hb hml hown hts hP hK hD hN hl hA hS (fun pc ls H locs u hdg hp hP hS => W.aret hx hb hr (Or.inl ⟨_, rfl⟩) (Or.inr ⟨_, rfl⟩) (fun t ht _ => ⟨⟨u, r, rfl, hp, rfl, by show va_P D vwCl (w' u) t.heap; rw [ht]; exact hP⟩, hS.F ht⟩) hS.2.2 hdg hlk)
end ZKB
section ZKD
variable {p : Program} {l : Launch} {e : Env} {R : Room} {s : State} {m : MethodId} {args : Array Value} {below : List Frame} {meth : Method} {c : Code} {H : Heap} {locs : List Loc} {cells slots : Nat} {Q : State → Prop}
variable {pc : Nat} {ls : Array Slot} {rest : List Value} {cc : ByteArray} {D : va_G} {cl : List vw_C} {A : Nat → Prop} {H0 : Heap} {tys : List (ClassId × FieldType)} {ws : va_W}
/-- an array of ints that are all 0 or more -/
abbrev zk_a (cA : ClassId) (n : Nat) (g : Nat → Nat) : va_E := .inl (cA, n, .inl (fun j => nI (g j)))
def zk_up (g : Nat → Nat) (i x : Nat) : Nat → Nat := fun j => if j = i then x else g j
theorem zk_up_eq (g : Nat → Nat) (i x : Nat) : zk_up g i x i = x := by simp [zk_up]
theorem zk_up_ne {g : Nat → Nat} {i x j : Nat} (h : j ≠ i) : zk_up g i x j = g j := by simp [zk_up, h]
theorem zk_updI {g : Nat → Nat} {i x : Nat} (h : i < 2 ^ 31) : upd (fun j => nI (g j)) (nI i).toNatClampNeg (nI x) = fun j => nI (zk_up g i x j) := by
  rw [nI_clamp h]
  funext j
  by_cases h : j = i
  · subst h; simp [upd, zk_up]
  · simp [upd, zk_up, h]
theorem zk_ild (hx : p.tables.exec = Jvm.exec) (hb : c.code = cc) (hK : va_K D cl tys s) (hP : va_P D cl ws H) (q0 t0 : Nat) {a : Nat} {cA : ClassId} {n i v : Nat} {g : Nat → Nat} (ha : ws[q0]? = some (a, zk_a cA n g)) (ht : tys[t0]? = some (cA, .int)) (hi : i < n) (hn : n < 2 ^ 31) (hv : g i = v) (hdg : decode cc pc = .ok (.iaload, 1))
    (kk : W p l e R s m args below meth c H locs cells slots Q (F0 m (pc + 1) ls (.int (nI v) :: rest))) : W p l e R s m args below meth c H locs cells slots Q (F0 m pc ls (.int (nI i) :: .ref a :: rest)) := by
  subst hv
  refine va_iald hx hb hK hP q0 t0 ha ht (vp_in_nI hi hn) hdg ?_
  rw [nI_clamp (by omega)]
  exact kk
theorem zk_zld (hx : p.tables.exec = Jvm.exec) (hb : c.code = cc) (hK : va_K D cl tys s) (hP : va_P D cl ws H) (q0 t0 : Nat) {a : Nat} {cA : ClassId} {n i v : Nat} {g : Nat → Nat} (ha : ws[q0]? = some (a, zk_a cA n g)) (ht : tys[t0]? = some (cA, .boolean)) (hi : i < n) (hn : n < 2 ^ 31) (hv : g i = v) (hdg : decode cc pc = .ok (.baload, 1))
    (kk : W p l e R s m args below meth c H locs cells slots Q (F0 m (pc + 1) ls (.int (nI v) :: rest))) : W p l e R s m args below meth c H locs cells slots Q (F0 m pc ls (.int (nI i) :: .ref a :: rest)) := by
  subst hv
  refine va_zald hx hb hK hP q0 t0 ha ht (vp_in_nI hi hn) hdg ?_
  rw [nI_clamp (by omega)]
  exact kk
theorem zk_ist (hx : p.tables.exec = Jvm.exec) (hb : c.code = cc) (hK : va_K D cl tys s) (hP : va_P D cl ws H) (hD : va_D A ws) (hS : va_S A H0 H locs) (q0 t0 : Nat) {a : Nat} {cA : ClassId} {n i x : Nat} {g : Nat → Nat} (ha : ws[q0]? = some (a, zk_a cA n g)) (ht : tys[t0]? = some (cA, .int)) (hi : i < n) (hn : n < 2 ^ 31) (hdg : decode cc pc = .ok (.iastore, 1))
    (kk : ∀ (H1 : Heap) (locs1 : List Loc), va_P D cl (ws.set q0 (a, zk_a cA n (zk_up g i x))) H1 → va_S A H0 H1 locs1 → W p l e R s m args below meth c H1 locs1 cells slots Q (F0 m (pc + 1) ls rest)) : W p l e R s m args below meth c H locs cells slots Q (F0 m pc ls (.int (nI x) :: .int (nI i) :: .ref a :: rest)) := by
  refine va_iast hx hb hK hP hD hS q0 t0 ha ht (vp_in_nI hi hn) hdg fun H1 locs1 hP1 _ hS1 => kk H1 locs1 ?_ hS1
  rw [zk_updI (by omega)] at hP1
  exact hP1
theorem zk_add {x y v : Nat} (hx : p.tables.exec = Jvm.exec) (hb : c.code = cc) (hv : x + y = v) (hdg : decode cc pc = .ok (.iadd, 1)) (k : W p l e R s m args below meth c H locs cells slots Q (F0 m (pc + 1) ls (.int (nI v) :: rest))) : W p l e R s m args below meth c H locs cells slots Q (F0 m pc ls (.int (nI y) :: .int (nI x) :: rest)) :=
  lv_iadd hx hb hdg (by rw [nI_add, hv]; exact k)
theorem zk_sub {x y v : Nat} (hx : p.tables.exec = Jvm.exec) (hb : c.code = cc) (hv : v + y = x) (hdg : decode cc pc = .ok (.isub, 1)) (k : W p l e R s m args below meth c H locs cells slots Q (F0 m (pc + 1) ls (.int (nI v) :: rest))) : W p l e R s m args below meth c H locs cells slots Q (F0 m pc ls (.int (nI y) :: .int (nI x) :: rest)) :=
  lv_isub hx hb hdg (by rw [pk_sub (by omega), show x - y = v by omega]; exact k)
theorem zk_mul {x y v : Nat} (hx : p.tables.exec = Jvm.exec) (hb : c.code = cc) (hv : x * y = v) (hdg : decode cc pc = .ok (.imul, 1)) (k : W p l e R s m args below meth c H locs cells slots Q (F0 m (pc + 1) ls (.int (nI v) :: rest))) : W p l e R s m args below meth c H locs cells slots Q (F0 m pc ls (.int (nI y) :: .int (nI x) :: rest)) :=
  lv_imul hx hb hdg (by rw [pk_mul, hv]; exact k)
theorem zk_div {x y v : Nat} (hx : p.tables.exec = Jvm.exec) (hb : c.code = cc) (h0 : 0 < y) (h1 : x < 2 ^ 31) (h2 : y < 2 ^ 31) (hv : x / y = v) (hdg : decode cc pc = .ok (.idiv, 1)) (k : W p l e R s m args below meth c H locs cells slots Q (F0 m (pc + 1) ls (.int (nI v) :: rest))) : W p l e R s m args below meth c H locs cells slots Q (F0 m pc ls (.int (nI y) :: .int (nI x) :: rest)) :=
  lv_idiv hx hb hdg (nI_ne0 h0 h2) (by rw [pk_div h1 h0 h2, hv]; exact k)
theorem zk_rem {x y v : Nat} (hx : p.tables.exec = Jvm.exec) (hb : c.code = cc) (h0 : 0 < y) (h1 : x < 2 ^ 31) (h2 : y < 2 ^ 31) (hv : x % y = v) (hdg : decode cc pc = .ok (.irem, 1)) (k : W p l e R s m args below meth c H locs cells slots Q (F0 m (pc + 1) ls (.int (nI v) :: rest))) : W p l e R s m args below meth c H locs cells slots Q (F0 m pc ls (.int (nI y) :: .int (nI x) :: rest)) :=
  lv_irem hx hb hdg (nI_ne0 h0 h2) (by rw [pk_rem h1 h0 h2, hv]; exact k)
theorem zk_top {x v : Int32} (h : x = v) (k : W p l e R s m args below meth c H locs cells slots Q (F0 m pc ls (.int v :: rest))) : W p l e R s m args below meth c H locs cells slots Q (F0 m pc ls (.int x :: rest)) := by rw [h]; exact k
section ZKCMP
variable {x y tgt : Nat} {off : Int}
theorem zk_icmp_lt (hx : p.tables.exec = Jvm.exec) (hb : c.code = cc) (h1 : x < 2 ^ 31) (h2 : y < 2 ^ 31) (hdg : decode cc pc = .ok (.if_icmp .lt off, 3)) (ht : (pc : Int) + off = (tgt : Int)) (kt : x < y → W p l e R s m args below meth c H locs cells slots Q (F0 m tgt ls rest)) (kf : y ≤ x → W p l e R s m args below meth c H locs cells slots Q (F0 m (pc + 3) ls rest)) : W p l e R s m args below meth c H locs cells slots Q (F0 m pc ls (.int (nI y) :: .int (nI x) :: rest)) :=
  lv_icmp_lt hx hb hdg ht (fun h => kt ((nI_ltI h1 h2).mp h)) (fun h => kf (by have h9 := mt (nI_ltI h1 h2).mpr h; omega))
theorem zk_icmp_ge (hx : p.tables.exec = Jvm.exec) (hb : c.code = cc) (h1 : x < 2 ^ 31) (h2 : y < 2 ^ 31) (hdg : decode cc pc = .ok (.if_icmp .ge off, 3)) (ht : (pc : Int) + off = (tgt : Int)) (kt : y ≤ x → W p l e R s m args below meth c H locs cells slots Q (F0 m tgt ls rest)) (kf : x < y → W p l e R s m args below meth c H locs cells slots Q (F0 m (pc + 3) ls rest)) : W p l e R s m args below meth c H locs cells slots Q (F0 m pc ls (.int (nI y) :: .int (nI x) :: rest)) :=
  lv_icmp_ge hx hb hdg ht (fun h => kt ((nI_leI h2 h1).mp h)) (fun h => kf (by have h9 := mt (nI_leI h2 h1).mpr h; omega))
theorem zk_icmp_gt (hx : p.tables.exec = Jvm.exec) (hb : c.code = cc) (h1 : x < 2 ^ 31) (h2 : y < 2 ^ 31) (hdg : decode cc pc = .ok (.if_icmp .gt off, 3)) (ht : (pc : Int) + off = (tgt : Int)) (kt : y < x → W p l e R s m args below meth c H locs cells slots Q (F0 m tgt ls rest)) (kf : x ≤ y → W p l e R s m args below meth c H locs cells slots Q (F0 m (pc + 3) ls rest)) : W p l e R s m args below meth c H locs cells slots Q (F0 m pc ls (.int (nI y) :: .int (nI x) :: rest)) :=
  lv_icmp_gt hx hb hdg ht (fun h => kt ((nI_ltI h2 h1).mp h)) (fun h => kf (by have h9 := mt (nI_ltI h2 h1).mpr h; omega))
theorem zk_icmp_le (hx : p.tables.exec = Jvm.exec) (hb : c.code = cc) (h1 : x < 2 ^ 31) (h2 : y < 2 ^ 31) (hdg : decode cc pc = .ok (.if_icmp .le off, 3)) (ht : (pc : Int) + off = (tgt : Int)) (kt : x ≤ y → W p l e R s m args below meth c H locs cells slots Q (F0 m tgt ls rest)) (kf : y < x → W p l e R s m args below meth c H locs cells slots Q (F0 m (pc + 3) ls rest)) : W p l e R s m args below meth c H locs cells slots Q (F0 m pc ls (.int (nI y) :: .int (nI x) :: rest)) :=
  lv_icmp_le hx hb hdg ht (fun h => kt ((nI_leI h1 h2).mp h)) (fun h => kf (by have h9 := mt (nI_leI h1 h2).mpr h; omega))
theorem zk_icmp_eq (hx : p.tables.exec = Jvm.exec) (hb : c.code = cc) (h1 : x < 2 ^ 31) (h2 : y < 2 ^ 31) (hdg : decode cc pc = .ok (.if_icmp .eq off, 3)) (ht : (pc : Int) + off = (tgt : Int)) (kt : x = y → W p l e R s m args below meth c H locs cells slots Q (F0 m tgt ls rest)) (kf : x ≠ y → W p l e R s m args below meth c H locs cells slots Q (F0 m (pc + 3) ls rest)) : W p l e R s m args below meth c H locs cells slots Q (F0 m pc ls (.int (nI y) :: .int (nI x) :: rest)) :=
  lv_icmp_eq hx hb hdg ht (fun h => kt ((nI_eq h1 h2).mp h)) (fun h => kf (mt (nI_eq h1 h2).mpr h))
theorem zk_icmp_ne (hx : p.tables.exec = Jvm.exec) (hb : c.code = cc) (h1 : x < 2 ^ 31) (h2 : y < 2 ^ 31) (hdg : decode cc pc = .ok (.if_icmp .ne off, 3)) (ht : (pc : Int) + off = (tgt : Int)) (kt : x ≠ y → W p l e R s m args below meth c H locs cells slots Q (F0 m tgt ls rest)) (kf : x = y → W p l e R s m args below meth c H locs cells slots Q (F0 m (pc + 3) ls rest)) : W p l e R s m args below meth c H locs cells slots Q (F0 m pc ls (.int (nI y) :: .int (nI x) :: rest)) :=
  lv_icmp_ne hx hb hdg ht (fun h => kt (mt (nI_eq h1 h2).mpr h)) (fun h => kf ((nI_eq h1 h2).mp h))
theorem zk_if_gt (hx : p.tables.exec = Jvm.exec) (hb : c.code = cc) (h1 : x < 2 ^ 31) (hdg : decode cc pc = .ok (.ifCond .gt off, 3)) (ht : (pc : Int) + off = (tgt : Int)) (kt : 0 < x → W p l e R s m args below meth c H locs cells slots Q (F0 m tgt ls rest)) (kf : x = 0 → W p l e R s m args below meth c H locs cells slots Q (F0 m (pc + 3) ls rest)) : W p l e R s m args below meth c H locs cells slots Q (F0 m pc ls (.int (nI x) :: rest)) :=
  lv_if_gt hx hb hdg ht (fun h => kt (by rw [← nI_0] at h; exact (nI_ltI (by decide) h1).mp h)) (fun h => kf (by rw [← nI_0] at h; exact by have h9 := mt (nI_ltI (by decide) h1).mpr h; omega))
theorem zk_if_le (hx : p.tables.exec = Jvm.exec) (hb : c.code = cc) (h1 : x < 2 ^ 31) (hdg : decode cc pc = .ok (.ifCond .le off, 3)) (ht : (pc : Int) + off = (tgt : Int)) (kt : x = 0 → W p l e R s m args below meth c H locs cells slots Q (F0 m tgt ls rest)) (kf : 0 < x → W p l e R s m args below meth c H locs cells slots Q (F0 m (pc + 3) ls rest)) : W p l e R s m args below meth c H locs cells slots Q (F0 m pc ls (.int (nI x) :: rest)) :=
  lv_if_le hx hb hdg ht (fun h => kt (by rw [← nI_0] at h; exact by have h9 := (nI_leI h1 (by decide)).mp h; omega)) (fun h => kf (by rw [← nI_0] at h; exact by have h9 := mt (nI_leI h1 (by decide)).mpr h; omega))
theorem zk_if_eq (hx : p.tables.exec = Jvm.exec) (hb : c.code = cc) (h1 : x < 2 ^ 31) (hdg : decode cc pc = .ok (.ifCond .eq off, 3)) (ht : (pc : Int) + off = (tgt : Int)) (kt : x = 0 → W p l e R s m args below meth c H locs cells slots Q (F0 m tgt ls rest)) (kf : 0 < x → W p l e R s m args below meth c H locs cells slots Q (F0 m (pc + 3) ls rest)) : W p l e R s m args below meth c H locs cells slots Q (F0 m pc ls (.int (nI x) :: rest)) :=
  lv_if_eq hx hb hdg ht (fun h => kt (by rw [← nI_0] at h; exact (nI_eq h1 (by decide)).mp h)) (fun h => kf (by rw [← nI_0] at h; exact by have h9 := mt (nI_eq h1 (by decide)).mpr h; omega))
theorem zk_if_ne (hx : p.tables.exec = Jvm.exec) (hb : c.code = cc) (h1 : x < 2 ^ 31) (hdg : decode cc pc = .ok (.ifCond .ne off, 3)) (ht : (pc : Int) + off = (tgt : Int)) (kt : 0 < x → W p l e R s m args below meth c H locs cells slots Q (F0 m tgt ls rest)) (kf : x = 0 → W p l e R s m args below meth c H locs cells slots Q (F0 m (pc + 3) ls rest)) : W p l e R s m args below meth c H locs cells slots Q (F0 m pc ls (.int (nI x) :: rest)) :=
  lv_if_ne hx hb hdg ht (fun h => kt (by rw [← nI_0] at h; exact by have h9 := mt (nI_eq h1 (by decide)).mpr h; omega)) (fun h => kf (by rw [← nI_0] at h; exact (nI_eq h1 (by decide)).mp h))
theorem zk_if_lt (hx : p.tables.exec = Jvm.exec) (hb : c.code = cc) (h1 : x < 2 ^ 31) (hdg : decode cc pc = .ok (.ifCond .lt off, 3)) (ht : (pc : Int) + off = (tgt : Int)) (kf : W p l e R s m args below meth c H locs cells slots Q (F0 m (pc + 3) ls rest)) : W p l e R s m args below meth c H locs cells slots Q (F0 m pc ls (.int (nI x) :: rest)) :=
  lv_if_lt hx hb hdg ht (fun h => absurd h (nI_pos h1)) (fun _ => kf)
theorem zk_if_ge (hx : p.tables.exec = Jvm.exec) (hb : c.code = cc) (h1 : x < 2 ^ 31) (hdg : decode cc pc = .ok (.ifCond .ge off, 3)) (ht : (pc : Int) + off = (tgt : Int)) (kt : W p l e R s m args below meth c H locs cells slots Q (F0 m tgt ls rest)) : W p l e R s m args below meth c H locs cells slots Q (F0 m pc ls (.int (nI x) :: rest)) :=
  lv_if_ge hx hb hdg ht (fun _ => kt) (fun h => absurd (nI_pos' h1) h)
end ZKCMP
/-- Math.min, Math.max of two that are 0 or more -/
theorem zk_minN {x y : Nat} (h1 : x < 2 ^ 31) (h2 : y < 2 ^ 31) : (if nI y < nI x then nI y else nI x) = nI (min x y) := by
  by_cases h : y < x
  · rw [if_pos ((nI_ltI h2 h1).mpr h), Nat.min_eq_right (by omega)]
  · rw [if_neg (mt (nI_ltI h2 h1).mp h), Nat.min_eq_left (by omega)]
end ZKD
end
section
/-! The words of the text: how far two places agree. -/
abbrev zk_t (cI cZ cR : ClassId) : List (ClassId × FieldType) := [(cI, .int), (cZ, .boolean), (cR, .object RX2)]
section ZKE
variable {p : Program} {l : Launch} {e : Env} {R : Room} {s : State} {m : MethodId} {args : Array Value} {below : List Frame} {meth : Method} {c : Code} {H : Heap} {locs : List Loc} {cells slots : Nat} {Q : State → Prop}
variable {pc : Nat} {ls : Array Slot} {rest : List Value}
theorem zk_nm {x : Nat} (k : ∀ y : Nat, y = x → W p l e R s m args below meth c H locs cells slots Q (F0 m pc ls (.int (nI y) :: rest))) : W p l e R s m args below meth c H locs cells slots Q (F0 m pc ls (.int (nI x) :: rest)) := k x rfl
end ZKE
/-- how many bytes from a on, n at most, are those from b on -/
def zr_reach (g : Nat → Nat) : Nat → Nat → Nat → Nat
  | _, _, 0 => 0
  | a, b, n + 1 => if g a = g b then zr_reach g (a + 1) (b + 1) n + 1 else 0
theorem zr_reach_le (g : Nat → Nat) : ∀ (n a b : Nat), zr_reach g a b n ≤ n
  | 0, _, _ => Nat.le_refl _
  | n + 1, a, b => by
    unfold zr_reach
    split
    · have h := zr_reach_le g n (a + 1) (b + 1); omega
    · omega
theorem zr_reach_end {g : Nat → Nat} {a b n : Nat} (h : n = 0) : zr_reach g a b n = 0 := by subst h; rfl
theorem zr_reach_ne {g : Nat → Nat} {a b n : Nat} (h : g a ≠ g b) : zr_reach g a b n = 0 := by
  cases n with
  | zero => rfl
  | succ n => unfold zr_reach; rw [if_neg h]
theorem zr_reach_eq {g : Nat → Nat} {a b n m : Nat} (h : g a = g b) (hn : n = m + 1) : zr_reach g a b n = zr_reach g (a + 1) (b + 1) m + 1 := by
  subst hn
  rw [zr_reach, if_pos h]
/-- the byte at a place, as the code tests it -/
def zr_at (g : Nat → Nat) (ah sz : Nat) (x : Int32) : Int32 := if x < -(nI ah) then -1 else if nI sz ≤ x then -1 else nI (g (x.toInt + ah).toNat)
theorem zr_negT {w : Nat} (h : w < 2 ^ 31) : (-nI w).toInt = -(w : Int) := sb_negT h
theorem zr_at_in {ah sz : Nat} {x : Int32} (ha : ah ≤ 60) (hs : sz ≤ 300) (h1 : ¬ x < -(nI ah)) (h2 : ¬ nI sz ≤ x) : nI ah + x = nI (x.toInt + ah).toNat ∧ (x.toInt + ah).toNat < ah + sz := by
  rw [Int32.lt_iff_toInt_lt, zr_negT (by omega)] at h1
  rw [Int32.le_iff_toInt_le, nI_toInt (by omega)] at h2
  have h3 : (x.toInt + ah).toNat < ah + sz := by omega
  refine ⟨?_, h3⟩
  apply Int32.toInt_inj.mp
  rw [nI_toInt (by omega), Int32.toInt_add, nI_toInt (by omega), Int.bmod_def]
  omega
/-- the first i places taken from fr on -/
def zr_cp (g : Nat → Nat) (fr i : Nat) : Nat → Nat := fun j => if j < i then g (fr + j) else g j
theorem zr_cp_0 (g : Nat → Nat) (fr : Nat) : zr_cp g fr 0 = g := by funext j; simp [zr_cp]
theorem zr_cp_s (g : Nat → Nat) (fr i : Nat) : zk_up (zr_cp g fr i) i (zr_cp g fr i (fr + i)) = zr_cp g fr (i + 1) := by
  funext j
  by_cases h : j = i
  · subst h
    have h1 : ¬ fr + j < j := by omega
    simp [zk_up, zr_cp, h1]
  · by_cases h2 : j < i
    · have h3 : j < i + 1 := by omega
      simp [zk_up, zr_cp, h, h2, h3]
    · have h3 : ¬ j < i + 1 := by omega
      simp [zk_up, zr_cp, h, h2, h3]
def rmX3_farthest : Room := { frames := 0, cells := 0, slots := 0, locals := 0 }
set_option maxRecDepth 20000 in
theorem ziX3_farthest_3 : ∀ w ∈ wsX30, w ∈ wsX3_farthest := by decide +kernel
set_option maxHeartbeats 4000000 in
set_option maxRecDepth 100000 in
/-- Text.farthest -/
theorem c_farthest (l : Launch) (D : va_G) (cI cZ cR : ClassId) (t : Nat) (b : Nat) (ah : Nat) (sz : Nat) (g : Nat → Nat) (p_ : Nat) : zk_Rd l yX3_farthest wsX3_farthest rmX3_farthest D (zk_t cI cZ cR) [.ref t, .int (nI p_)] [(t, .inr (3, [.ref b, .int (nI ah), .int (nI sz)])), (b, zk_a cI 360 g)] (nI (ah + p_)) := by
  refine zk_enterR RX3 cX3_farthest 2 .int (by decide) rfl rfl (Nat.le_of_ble_eq_true rfl) (Or.inl rfl) ?_
  intro p e s m args below meth c ls Q hx hb hml hown hts hP hK hD hN hl hret
  have hl : lv_has ls 2 [(0, .ref t), (1, .int (nI p_))] := hl
  have f19 := hts (.fieldLink RX3 19 "MatchFinders$Text" "ahead" "I") (by decide +kernel)
  refine lv_aload_n hx hb dX3_farthest_0 rfl (lv_at hl 0 rfl) ?_
  refine va_get (D := D) (ci := 3) (v := .int (nI ah)) (C := RX3) (T := TX3) (N := 3) hx hb hts ziX3_farthest_3 hown hK hP 0 rfl rfl 1 (by decide) f19 (fun _ h9 => h9) rfl dX3_farthest_1 ?_
  refine lv_iload_n hx hb dX3_farthest_4 rfl (lv_at hl 1 rfl) ?_
  refine zk_add (v := ah + p_) hx hb (rfl) dX3_farthest_5 ?_
  exact hret _ ls _ dX3_farthest_6 rfl
def rmX3_mostLength : Room := { frames := 1, cells := 0, slots := 0, locals := 21 }
set_option maxRecDepth 20000 in
theorem ziX3_mostLength_3 : ∀ w ∈ wsX30, w ∈ wsX3_mostLength := by decide +kernel
set_option maxHeartbeats 4000000 in
set_option maxRecDepth 100000 in
/-- Text.mostLength -/
theorem c_mostLength (l : Launch) (D : va_G) (cI cZ cR : ClassId) (t : Nat) (b : Nat) (ah : Nat) (sz : Nat) (g : Nat → Nat) (p_ : Nat) (h0 : p_ ≤ sz) (h1 : sz ≤ 300) : zk_Rd l yX3_mostLength wsX3_mostLength rmX3_mostLength D (zk_t cI cZ cR) [.ref t, .int (nI p_)] [(t, .inr (3, [.ref b, .int (nI ah), .int (nI sz)])), (b, zk_a cI 360 g)] (nI (min 40 (sz - p_))) := by
  refine zk_enterR RX3 cX3_mostLength 2 .int (by decide) rfl rfl (Nat.le_of_ble_eq_true rfl) (Or.inl rfl) ?_
  intro p e s m args below meth c ls Q hx hb hml hown hts hP hK hD hN hl hret
  have hl : lv_has ls 2 [(0, .ref t), (1, .int (nI p_))] := hl
  have f15 := hts (.fieldLink RX3 15 "MatchFinders$Text" "size" "I") (by decide +kernel)
  refine lv_bipush (v := (nI 40)) hx hb dX3_mostLength_0 (by decide +kernel) ?_
  refine lv_aload_n hx hb dX3_mostLength_2 rfl (lv_at hl 0 rfl) ?_
  refine va_get (D := D) (ci := 3) (v := .int (nI sz)) (C := RX3) (T := TX3) (N := 3) hx hb hts ziX3_mostLength_3 hown hK hP 0 rfl rfl 2 (by decide) f15 (fun _ h9 => h9) rfl dX3_mostLength_3 ?_
  refine lv_iload_n hx hb dX3_mostLength_6 rfl (lv_at hl 1 rfl) ?_
  refine zk_sub (v := sz - p_) hx hb (by omega) dX3_mostLength_7 ?_
  refine va_mmin hx hb (by rw [hml]; exact hl.1.symm) hown (hts (.methodLink RX3 22 Lib.Math.min.name) (by decide +kernel)) (hts (.static Lib.Math.min.name) (by decide +kernel)) (hts (.initialized "java/lang/Math") (by decide +kernel)) (hts (.code Lib.Math.min.name Lib.Math.min.code 2 (some .int)) (by decide +kernel)) (Nat.le_of_ble_eq_true rfl) (Nat.le_of_ble_eq_true rfl) (Nat.zero_le _) (Nat.zero_le _) dX3_mostLength_8 ?_
  refine zk_top (zk_minN (by omega) (by omega)) ?_
  exact hret _ ls _ dX3_mostLength_11 rfl
def rmX3_reach : Room := { frames := 0, cells := 0, slots := 0, locals := 0 }
set_option maxRecDepth 20000 in
theorem ziX3_reach_3 : ∀ w ∈ wsX30, w ∈ wsX3_reach := by decide +kernel
set_option maxHeartbeats 4000000 in
set_option maxRecDepth 100000 in
/-- Text.reach -/
theorem c_reach (l : Launch) (D : va_G) (cI cZ cR : ClassId) (t : Nat) (b : Nat) (ah : Nat) (sz : Nat) (g : Nat → Nat) (p_ : Nat) (d_ : Nat) (mo : Nat) (h0 : 1 ≤ d_) (h1 : d_ ≤ ah + p_) (h2 : ah + p_ + mo ≤ 360) (h3 : ∀ j, g j < 256) : zk_Rd l yX3_reach wsX3_reach rmX3_reach D (zk_t cI cZ cR) [.ref t, .int (nI p_), .int (nI d_), .int (nI mo)] [(t, .inr (3, [.ref b, .int (nI ah), .int (nI sz)])), (b, zk_a cI 360 g)] (nI (zr_reach g (ah + p_) (ah + p_ - d_) mo)) := by
  refine zk_enterR RX3 cX3_reach 7 .int (by decide) rfl rfl (Nat.le_of_ble_eq_true rfl) (Or.inl rfl) ?_
  intro p e s m args below meth c ls Q hx hb hml hown hts hP hK hD hN hl hret
  have hl : lv_has ls 7 [(0, .ref t), (1, .int (nI p_)), (2, .int (nI d_)), (3, .int (nI mo))] := hl
  have f9 := hts (.fieldLink RX3 9 "MatchFinders$Text" "bytes" "[I") (by decide +kernel)
  have f19 := hts (.fieldLink RX3 19 "MatchFinders$Text" "ahead" "I") (by decide +kernel)
  refine lv_aload_n hx hb dX3_reach_0 rfl (lv_at hl 0 rfl) ?_
  refine va_get (D := D) (ci := 3) (v := .int (nI ah)) (C := RX3) (T := TX3) (N := 3) hx hb hts ziX3_reach_3 hown hK hP 0 rfl rfl 1 (by decide) f19 (fun _ h9 => h9) rfl dX3_reach_1 ?_
  refine lv_iload_n hx hb dX3_reach_4 rfl (lv_at hl 1 rfl) ?_
  refine zk_add (v := ah + p_) hx hb (rfl) dX3_reach_5 ?_
  refine zk_nm (fun he h_he => ?_)
  refine lv_istore (lv' := [(4, .int (nI he)), (0, .ref t), (1, .int (nI p_)), (2, .int (nI d_)), (3, .int (nI mo))]) hx hb dX3_reach_6 hl (by decide) rfl (fun ls hl => ?_)
  refine lv_iload hx hb dX3_reach_8 (lv_at hl 0 rfl) ?_
  refine lv_iload_n hx hb dX3_reach_10 rfl (lv_at hl 3 rfl) ?_
  refine zk_sub (v := he - d_) hx hb (by omega) dX3_reach_11 ?_
  refine zk_nm (fun th h_th => ?_)
  refine lv_istore (lv' := [(5, .int (nI th)), (4, .int (nI he)), (0, .ref t), (1, .int (nI p_)), (2, .int (nI d_)), (3, .int (nI mo))]) hx hb dX3_reach_12 hl (by decide) rfl (fun ls hl => ?_)
  refine lv_iload hx hb dX3_reach_14 (lv_at hl 0 rfl) ?_
  refine zk_if_lt (tgt := 38) hx hb (by omega) dX3_reach_16 (by decide) ?_
  refine lv_iload hx hb dX3_reach_19 (lv_at hl 0 rfl) ?_
  refine lv_iload hx hb dX3_reach_21 (lv_at hl 1 rfl) ?_
  refine zk_icmp_ge (tgt := 38) hx hb (by omega) (by omega) dX3_reach_23 (by decide) (fun c_2 => absurd c_2 (by omega)) (fun c_2 => ?_)
  refine lv_iload hx hb dX3_reach_26 (lv_at hl 1 rfl) ?_
  refine lv_iload_n hx hb dX3_reach_28 rfl (lv_at hl 5 rfl) ?_
  refine zk_add (v := he + mo) hx hb (rfl) dX3_reach_29 ?_
  refine lv_aload_n hx hb dX3_reach_30 rfl (lv_at hl 2 rfl) ?_
  refine va_get (D := D) (ci := 3) (v := .ref b) (C := RX3) (T := TX3) (N := 3) hx hb hts ziX3_reach_3 hown hK hP 0 rfl rfl 0 (by decide) f9 (fun _ h9 => h9) rfl dX3_reach_31 ?_
  refine va_alen (v := nI 360) hx hb hK hP 1 0 rfl rfl rfl dX3_reach_34 ?_
  refine zk_icmp_le (tgt := 40) hx hb (by omega) (by omega) dX3_reach_35 (by decide) (fun c_3 => ?_) (fun c_3 => absurd c_3 (by omega))
  refine lv_iconst (v := (nI 0)) hx hb dX3_reach_40 (by decide +kernel) ?_
  refine lv_istore (lv' := [(6, .int (nI 0)), (5, .int (nI th)), (4, .int (nI he)), (0, .ref t), (1, .int (nI p_)), (2, .int (nI d_)), (3, .int (nI mo))]) hx hb dX3_reach_41 hl (by decide) rfl (fun ls hl => ?_)
  have L43 : ∀ (n : Nat) (i : Nat) (ls : Array Slot), (i ≤ mo) → (i + zr_reach g (he + i) (th + i) (mo - i) = zr_reach g (ah + p_) (ah + p_ - d_) mo) → (mo - i) < n → lv_has ls 7 [(0, .ref t), (1, .int (nI p_)), (2, .int (nI d_)), (3, .int (nI mo)), (4, .int (nI he)), (5, .int (nI th)), (6, .int (nI i))] → W p l e rmX3_reach s m args below meth c s.heap [] 0 0 Q (F0 m 43 ls []) := by
    intro n
    induction n with
    | zero => intro i ls g43_0 g43_1 hm hl; exact absurd hm (by omega)
    | succ n ih43 =>
      intro i ls g43_0 g43_1 hm hl
      refine lv_iload hx hb dX3_reach_43 (lv_at hl 6 rfl) ?_
      refine lv_iload_n hx hb dX3_reach_45 rfl (lv_at hl 3 rfl) ?_
      refine zk_icmp_ge (tgt := 78) hx hb (by omega) (by omega) dX3_reach_46 (by decide) (fun c_4 => ?_) (fun c_4 => ?_)
      · skip
        have hfin : i = zr_reach g (ah + p_) (ah + p_ - d_) mo := by rw [← g43_1, zr_reach_end (n := mo - i) (by omega)]; rfl
        refine lv_iload hx hb dX3_reach_78 (lv_at hl 6 rfl) ?_
        exact hret _ ls _ dX3_reach_80 (by rw [hfin])
      · skip
        refine lv_aload_n hx hb dX3_reach_49 rfl (lv_at hl 0 rfl) ?_
        refine va_get (D := D) (ci := 3) (v := .ref b) (C := RX3) (T := TX3) (N := 3) hx hb hts ziX3_reach_3 hown hK hP 0 rfl rfl 0 (by decide) f9 (fun _ h9 => h9) rfl dX3_reach_50 ?_
        refine lv_iload hx hb dX3_reach_53 (lv_at hl 4 rfl) ?_
        refine lv_iload hx hb dX3_reach_55 (lv_at hl 6 rfl) ?_
        refine zk_add (v := he + i) hx hb (rfl) dX3_reach_57 ?_
        refine zk_ild (v := g (he + i)) hx hb hK hP 1 0 (i := he + i) (g := g) rfl rfl (by omega) (by decide) rfl dX3_reach_58 ?_
        refine lv_aload_n hx hb dX3_reach_59 rfl (lv_at hl 0 rfl) ?_
        refine va_get (D := D) (ci := 3) (v := .ref b) (C := RX3) (T := TX3) (N := 3) hx hb hts ziX3_reach_3 hown hK hP 0 rfl rfl 0 (by decide) f9 (fun _ h9 => h9) rfl dX3_reach_60 ?_
        refine lv_iload hx hb dX3_reach_63 (lv_at hl 5 rfl) ?_
        refine lv_iload hx hb dX3_reach_65 (lv_at hl 6 rfl) ?_
        refine zk_add (v := th + i) hx hb (rfl) dX3_reach_67 ?_
        refine zk_ild (v := g (th + i)) hx hb hK hP 1 0 (i := th + i) (g := g) rfl rfl (by omega) (by decide) rfl dX3_reach_68 ?_
        have b1 := h3 (he + i)
        have b2 := h3 (th + i)
        refine zk_icmp_ne (tgt := 78) hx hb (by omega) (by omega) dX3_reach_69 (by decide) (fun c_5 => ?_) (fun c_5 => ?_)
        · skip
          have hfin : i = zr_reach g (ah + p_) (ah + p_ - d_) mo := by rw [← g43_1, zr_reach_ne c_5]; rfl
          refine lv_iload hx hb dX3_reach_78 (lv_at hl 6 rfl) ?_
          exact hret _ ls _ dX3_reach_80 (by rw [hfin])
        · skip
          refine lv_iinc (v := (nI (i + 1))) (lv' := [(6, .int (nI (i + 1))), (0, .ref t), (1, .int (nI p_)), (2, .int (nI d_)), (3, .int (nI mo)), (4, .int (nI he)), (5, .int (nI th))]) hx hb dX3_reach_72 hl (k := 6) rfl (by rw [show Int32.ofInt 1 = (1 : Int32) from rfl, nI_1]) (by decide) rfl (fun ls hl => ?_)
          refine lv_goto (tgt := 43) hx hb dX3_reach_75 (by decide) ?_
          exact ih43 (i + 1) ls (by omega) (by show i + 1 + zr_reach g (he + i + 1) (th + i + 1) (mo - (i + 1)) = _; rw [← g43_1, zr_reach_eq (n := mo - i) (m := mo - (i + 1)) c_5 (by omega)]; omega) (by omega) (lv_sub hl [1, 2, 3, 4, 5, 6, 0] rfl)
  exact L43 (mo - 0 + 1) 0 ls (by omega) (by rw [h_he, h_th, h_he]; exact Nat.zero_add _) (by omega) (lv_sub hl [3, 4, 5, 6, 2, 1, 0] rfl)
def rmX3_at : Room := { frames := 0, cells := 0, slots := 0, locals := 0 }
set_option maxRecDepth 20000 in
theorem ziX3_at_3 : ∀ w ∈ wsX30, w ∈ wsX3_at := by decide +kernel
set_option maxHeartbeats 4000000 in
set_option maxRecDepth 100000 in
/-- Text.at -/
theorem c_at (l : Launch) (D : va_G) (cI cZ cR : ClassId) (t : Nat) (b : Nat) (ah : Nat) (sz : Nat) (g : Nat → Nat) (x_ : Int32) (h0 : ah ≤ 60) (h1 : sz ≤ 300) : zk_Rd l yX3_at wsX3_at rmX3_at D (zk_t cI cZ cR) [.ref t, .int x_] [(t, .inr (3, [.ref b, .int (nI ah), .int (nI sz)])), (b, zk_a cI 360 g)] (zr_at g ah sz x_) := by
  refine zk_enterR RX3 cX3_at 2 .int (by decide) rfl rfl (Nat.le_of_ble_eq_true rfl) (Or.inl rfl) ?_
  intro p e s m args below meth c ls Q hx hb hml hown hts hP hK hD hN hl hret
  have hl : lv_has ls 2 [(0, .ref t), (1, .int x_)] := hl
  have f9 := hts (.fieldLink RX3 9 "MatchFinders$Text" "bytes" "[I") (by decide +kernel)
  have f15 := hts (.fieldLink RX3 15 "MatchFinders$Text" "size" "I") (by decide +kernel)
  have f19 := hts (.fieldLink RX3 19 "MatchFinders$Text" "ahead" "I") (by decide +kernel)
  refine lv_iload_n hx hb dX3_at_0 rfl (lv_at hl 1 rfl) ?_
  refine lv_aload_n hx hb dX3_at_1 rfl (lv_at hl 0 rfl) ?_
  refine va_get (D := D) (ci := 3) (v := .int (nI ah)) (C := RX3) (T := TX3) (N := 3) hx hb hts ziX3_at_3 hown hK hP 0 rfl rfl 1 (by decide) f19 (fun _ h9 => h9) rfl dX3_at_2 ?_
  refine lv_ineg hx hb dX3_at_5 ?_
  refine lv_icmp_lt (tgt := 31) hx hb dX3_at_6 (by decide) (fun c_1 => ?_) (fun c_1 => ?_)
  · skip
    have hfin : zr_at g ah sz x_ = -1 := by rw [zr_at, if_pos c_1]
    refine lv_iconst (v := (-1)) hx hb dX3_at_31 (by decide +kernel) ?_
    exact hret _ ls _ dX3_at_32 hfin.symm
  · skip
    refine lv_iload_n hx hb dX3_at_9 rfl (lv_at hl 1 rfl) ?_
    refine lv_aload_n hx hb dX3_at_10 rfl (lv_at hl 0 rfl) ?_
    refine va_get (D := D) (ci := 3) (v := .int (nI sz)) (C := RX3) (T := TX3) (N := 3) hx hb hts ziX3_at_3 hown hK hP 0 rfl rfl 2 (by decide) f15 (fun _ h9 => h9) rfl dX3_at_11 ?_
    refine lv_icmp_ge (tgt := 31) hx hb dX3_at_14 (by decide) (fun c_2 => ?_) (fun c_2 => ?_)
    · skip
      have hfin : zr_at g ah sz x_ = -1 := by rw [zr_at, if_neg c_1, if_pos c_2]
      refine lv_iconst (v := (-1)) hx hb dX3_at_31 (by decide +kernel) ?_
      exact hret _ ls _ dX3_at_32 hfin.symm
    · skip
      have hfin : zr_at g ah sz x_ = nI (g (x_.toInt + ah).toNat) := by rw [zr_at, if_neg c_1, if_neg c_2]
      refine lv_aload_n hx hb dX3_at_17 rfl (lv_at hl 0 rfl) ?_
      refine va_get (D := D) (ci := 3) (v := .ref b) (C := RX3) (T := TX3) (N := 3) hx hb hts ziX3_at_3 hown hK hP 0 rfl rfl 0 (by decide) f9 (fun _ h9 => h9) rfl dX3_at_18 ?_
      refine lv_aload_n hx hb dX3_at_21 rfl (lv_at hl 0 rfl) ?_
      refine va_get (D := D) (ci := 3) (v := .int (nI ah)) (C := RX3) (T := TX3) (N := 3) hx hb hts ziX3_at_3 hown hK hP 0 rfl rfl 1 (by decide) f19 (fun _ h9 => h9) rfl dX3_at_22 ?_
      refine lv_iload_n hx hb dX3_at_25 rfl (lv_at hl 1 rfl) ?_
      refine lv_iadd hx hb dX3_at_26 ?_
      obtain ⟨e1, e2⟩ := zr_at_in h0 h1 c_1 c_2
      refine zk_top e1 ?_
      refine zk_ild (v := g ((x_.toInt + ah).toNat)) hx hb hK hP 1 0 (i := (x_.toInt + ah).toNat) (g := g) rfl rfl (by omega) (by decide) rfl dX3_at_27 ?_
      refine lv_goto (tgt := 32) hx hb dX3_at_28 (by decide) ?_
      exact hret _ ls _ dX3_at_32 hfin.symm
def rmX3_put : Room := { frames := 0, cells := 0, slots := 0, locals := 0 }
set_option maxRecDepth 20000 in
theorem ziX3_put_3 : ∀ w ∈ wsX30, w ∈ wsX3_put := by decide +kernel
set_option maxHeartbeats 4000000 in
set_option maxRecDepth 100000 in
/-- Text.put -/
theorem c_put (l : Launch) (D : va_G) (cI cZ cR : ClassId) (t : Nat) (b : Nat) (ah : Nat) (sz : Nat) (g : Nat → Nat) (x_ : Nat) (h0 : ah ≤ 60) (h1 : sz < 300) : zk_Wv l yX3_put wsX3_put rmX3_put D (zk_t cI cZ cR) [.ref t, .int (nI x_)] [(t, .inr (3, [.ref b, .int (nI ah), .int (nI sz)])), (b, zk_a cI 360 g)] (fun _ : Unit => True) (fun _ => [(t, .inr (3, [.ref b, .int (nI ah), .int (nI (sz + 1))])), (b, zk_a cI 360 (zk_up g (ah + sz) x_))]) := by
  refine zk_enterV RX3 cX3_put 2 (by decide) rfl rfl (Nat.le_of_ble_eq_true rfl) ?_
  intro p e s m args below meth c ls A Q hx hb hml hown hts hP hK hD hN hl hA hS hret
  have hl : lv_has ls 2 [(0, .ref t), (1, .int (nI x_))] := hl
  have f9 := hts (.fieldLink RX3 9 "MatchFinders$Text" "bytes" "[I") (by decide +kernel)
  have f15 := hts (.fieldLink RX3 15 "MatchFinders$Text" "size" "I") (by decide +kernel)
  have f19 := hts (.fieldLink RX3 19 "MatchFinders$Text" "ahead" "I") (by decide +kernel)
  refine lv_aload_n hx hb dX3_put_0 rfl (lv_at hl 0 rfl) ?_
  refine va_get (D := D) (ci := 3) (v := .int (nI sz)) (C := RX3) (T := TX3) (N := 3) hx hb hts ziX3_put_3 hown hK hP 0 rfl rfl 2 (by decide) f15 (fun _ h9 => h9) rfl dX3_put_1 ?_
  refine lv_sipush (v := (nI 300)) hx hb dX3_put_4 (by decide +kernel) ?_
  refine zk_icmp_ge (tgt := 35) hx hb (by omega) (by omega) dX3_put_7 (by decide) (fun c_1 => absurd c_1 (by omega)) (fun c_1 => ?_)
  refine lv_aload_n hx hb dX3_put_10 rfl (lv_at hl 0 rfl) ?_
  refine va_get (D := D) (ci := 3) (v := .ref b) (C := RX3) (T := TX3) (N := 3) hx hb hts ziX3_put_3 hown hK hP 0 rfl rfl 0 (by decide) f9 (fun _ h9 => h9) rfl dX3_put_11 ?_
  refine lv_aload_n hx hb dX3_put_14 rfl (lv_at hl 0 rfl) ?_
  refine va_get (D := D) (ci := 3) (v := .int (nI ah)) (C := RX3) (T := TX3) (N := 3) hx hb hts ziX3_put_3 hown hK hP 0 rfl rfl 1 (by decide) f19 (fun _ h9 => h9) rfl dX3_put_15 ?_
  refine lv_aload_n hx hb dX3_put_18 rfl (lv_at hl 0 rfl) ?_
  refine va_get (D := D) (ci := 3) (v := .int (nI sz)) (C := RX3) (T := TX3) (N := 3) hx hb hts ziX3_put_3 hown hK hP 0 rfl rfl 2 (by decide) f15 (fun _ h9 => h9) rfl dX3_put_19 ?_
  refine zk_add (v := ah + sz) hx hb (rfl) dX3_put_22 ?_
  refine lv_iload_n hx hb dX3_put_23 rfl (lv_at hl 1 rfl) ?_
  refine zk_ist (i := ah + sz) (x := x_) (g := g) hx hb hK hP (zk_D hD rfl) hS 1 0 rfl rfl (by omega) (by decide) dX3_put_24 (fun H locs hP hS => ?_)
  have hP : va_P D vwCl [(t, .inr (3, [.ref b, .int (nI ah), .int (nI sz)])), (b, zk_a cI 360 (zk_up g (ah + sz) x_))] H := hP
  refine lv_aload_n hx hb dX3_put_25 rfl (lv_at hl 0 rfl) ?_
  refine lv_dup hx hb dX3_put_26 rfl ?_
  refine va_get (D := D) (ci := 3) (v := .int (nI sz)) (C := RX3) (T := TX3) (N := 3) hx hb hts ziX3_put_3 hown hK hP 0 rfl rfl 2 (by decide) f15 (fun _ h9 => h9) rfl dX3_put_27 ?_
  refine lv_iconst (v := (nI 1)) hx hb dX3_put_30 (by decide +kernel) ?_
  refine zk_add (v := sz + 1) hx hb (rfl) dX3_put_31 ?_
  refine va_put (D := D) (ci := 3) (v := .int (nI (sz + 1))) (ty := .int) (C := RX3) (T := TX3) (N := 3) hx hb hts ziX3_put_3 tyX3 tyX3_ok nmX3 hown hK hP (zk_D hD rfl) hS 0 rfl rfl 2 (by decide) f15 (fun _ h9 => h9) rfl (by decide +kernel) rfl rfl (Nat.le_of_ble_eq_true rfl) dX3_put_32 (fun H locs hP _ hS => ?_)
  have hP : va_P D vwCl [(t, .inr (3, [.ref b, .int (nI ah), .int (nI (sz + 1))])), (b, zk_a cI 360 (zk_up g (ah + sz) x_))] H := hP
  exact hret _ ls _ _ () dX3_put_35 trivial hP hS
def rmX3_becomeDictionary : Room := { frames := 1, cells := 0, slots := 0, locals := 21 }
set_option maxRecDepth 20000 in
theorem ziX3_becomeDictionary_3 : ∀ w ∈ wsX30, w ∈ wsX3_becomeDictionary := by decide +kernel
set_option maxHeartbeats 4000000 in
set_option maxRecDepth 100000 in
/-- Text.becomeDictionary -/
theorem c_becomeDictionary (l : Launch) (D : va_G) (cI cZ cR : ClassId) (t : Nat) (b : Nat) (ah : Nat) (sz : Nat) (g : Nat → Nat) (h0 : ah ≤ 60) (h1 : sz ≤ 300) : zk_Wv l yX3_becomeDictionary wsX3_becomeDictionary rmX3_becomeDictionary D (zk_t cI cZ cR) [.ref t] [(t, .inr (3, [.ref b, .int (nI ah), .int (nI sz)])), (b, zk_a cI 360 g)] (fun _ : Unit => True) (fun _ => [(t, .inr (3, [.ref b, .int (nI (min 60 sz)), .int (nI 0)])), (b, zk_a cI 360 (zr_cp g (ah + sz - min 60 sz) (min 60 sz)))]) := by
  refine zk_enterV RX3 cX3_becomeDictionary 4 (by decide) rfl rfl (Nat.le_of_ble_eq_true rfl) ?_
  intro p e s m args below meth c ls A Q hx hb hml hown hts hP hK hD hN hl hA hS hret
  have hl : lv_has ls 4 [(0, .ref t)] := hl
  have f9 := hts (.fieldLink RX3 9 "MatchFinders$Text" "bytes" "[I") (by decide +kernel)
  have f15 := hts (.fieldLink RX3 15 "MatchFinders$Text" "size" "I") (by decide +kernel)
  have f19 := hts (.fieldLink RX3 19 "MatchFinders$Text" "ahead" "I") (by decide +kernel)
  refine lv_bipush (v := (nI 60)) hx hb dX3_becomeDictionary_0 (by decide +kernel) ?_
  refine lv_aload_n hx hb dX3_becomeDictionary_2 rfl (lv_at hl 0 rfl) ?_
  refine va_get (D := D) (ci := 3) (v := .int (nI sz)) (C := RX3) (T := TX3) (N := 3) hx hb hts ziX3_becomeDictionary_3 hown hK hP 0 rfl rfl 2 (by decide) f15 (fun _ h9 => h9) rfl dX3_becomeDictionary_3 ?_
  refine va_mmin hx hb (by rw [hml]; exact hl.1.symm) hown (hts (.methodLink RX3 22 Lib.Math.min.name) (by decide +kernel)) (hts (.static Lib.Math.min.name) (by decide +kernel)) (hts (.initialized "java/lang/Math") (by decide +kernel)) (hts (.code Lib.Math.min.name Lib.Math.min.code 2 (some .int)) (by decide +kernel)) (Nat.le_of_ble_eq_true rfl) (Nat.le_of_ble_eq_true rfl) (Nat.zero_le _) (Nat.zero_le _) dX3_becomeDictionary_6 ?_
  refine zk_top (zk_minN (by omega) (by omega)) ?_
  refine zk_nm (fun ke h_ke => ?_)
  refine lv_istore_n (lv' := [(1, .int (nI ke)), (0, .ref t)]) hx hb dX3_becomeDictionary_9 rfl hl (by decide) rfl (fun ls hl => ?_)
  refine lv_aload_n hx hb dX3_becomeDictionary_10 rfl (lv_at hl 1 rfl) ?_
  refine va_get (D := D) (ci := 3) (v := .int (nI ah)) (C := RX3) (T := TX3) (N := 3) hx hb hts ziX3_becomeDictionary_3 hown hK hP 0 rfl rfl 1 (by decide) f19 (fun _ h9 => h9) rfl dX3_becomeDictionary_11 ?_
  refine lv_aload_n hx hb dX3_becomeDictionary_14 rfl (lv_at hl 1 rfl) ?_
  refine va_get (D := D) (ci := 3) (v := .int (nI sz)) (C := RX3) (T := TX3) (N := 3) hx hb hts ziX3_becomeDictionary_3 hown hK hP 0 rfl rfl 2 (by decide) f15 (fun _ h9 => h9) rfl dX3_becomeDictionary_15 ?_
  refine zk_add (v := ah + sz) hx hb (rfl) dX3_becomeDictionary_18 ?_
  refine lv_iload_n hx hb dX3_becomeDictionary_19 rfl (lv_at hl 0 rfl) ?_
  refine zk_sub (v := ah + sz - ke) hx hb (by omega) dX3_becomeDictionary_20 ?_
  refine zk_nm (fun fr h_fr => ?_)
  refine lv_istore_n (lv' := [(2, .int (nI fr)), (1, .int (nI ke)), (0, .ref t)]) hx hb dX3_becomeDictionary_21 rfl hl (by decide) rfl (fun ls hl => ?_)
  refine lv_iconst (v := (nI 0)) hx hb dX3_becomeDictionary_22 (by decide +kernel) ?_
  refine lv_istore_n (lv' := [(3, .int (nI 0)), (2, .int (nI fr)), (1, .int (nI ke)), (0, .ref t)]) hx hb dX3_becomeDictionary_23 rfl hl (by decide) rfl (fun ls hl => ?_)
  have hP : va_P D vwCl [(t, .inr (3, [.ref b, .int (nI ah), .int (nI sz)])), (b, zk_a cI 360 (zr_cp g fr 0))] s.heap := by rw [zr_cp_0]; exact hP
  have L24 : ∀ (n : Nat) (i : Nat) (ls : Array Slot) (H : Heap) (locs : List Loc), (i ≤ ke) → (ke - i) < n → va_P D vwCl [(t, .inr (3, [.ref b, .int (nI ah), .int (nI sz)])), (b, zk_a cI 360 (zr_cp g fr i))] H → va_S A s.heap H locs → lv_has ls 4 [(0, .ref t), (1, .int (nI ke)), (2, .int (nI fr)), (3, .int (nI i))] → W p l e rmX3_becomeDictionary s m args below meth c H locs 0 0 Q (F0 m 24 ls []) := by
    intro n
    induction n with
    | zero => intro i ls H locs g24_0 hm hP hS hl; exact absurd hm (by omega)
    | succ n ih24 =>
      intro i ls H locs g24_0 hm hP hS hl
      refine lv_iload_n hx hb dX3_becomeDictionary_24 rfl (lv_at hl 3 rfl) ?_
      refine lv_iload_n hx hb dX3_becomeDictionary_25 rfl (lv_at hl 1 rfl) ?_
      refine zk_icmp_ge (tgt := 49) hx hb (by omega) (by omega) dX3_becomeDictionary_26 (by decide) (fun c_1 => ?_) (fun c_1 => ?_)
      · skip
        refine lv_aload_n hx hb dX3_becomeDictionary_49 rfl (lv_at hl 0 rfl) ?_
        refine lv_iload_n hx hb dX3_becomeDictionary_50 rfl (lv_at hl 1 rfl) ?_
        refine va_put (D := D) (ci := 3) (v := .int (nI ke)) (ty := .int) (C := RX3) (T := TX3) (N := 3) hx hb hts ziX3_becomeDictionary_3 tyX3 tyX3_ok nmX3 hown hK hP (zk_D hD rfl) hS 0 rfl rfl 1 (by decide) f19 (fun _ h9 => h9) rfl (by decide +kernel) rfl rfl (Nat.le_of_ble_eq_true rfl) dX3_becomeDictionary_51 (fun H locs hP _ hS => ?_)
        have hP : va_P D vwCl [(t, .inr (3, [.ref b, .int (nI ke), .int (nI sz)])), (b, zk_a cI 360 (zr_cp g fr i))] H := hP
        refine lv_aload_n hx hb dX3_becomeDictionary_54 rfl (lv_at hl 0 rfl) ?_
        refine lv_iconst (v := (nI 0)) hx hb dX3_becomeDictionary_55 (by decide +kernel) ?_
        refine va_put (D := D) (ci := 3) (v := .int (nI 0)) (ty := .int) (C := RX3) (T := TX3) (N := 3) hx hb hts ziX3_becomeDictionary_3 tyX3 tyX3_ok nmX3 hown hK hP (zk_D hD rfl) hS 0 rfl rfl 2 (by decide) f15 (fun _ h9 => h9) rfl (by decide +kernel) rfl rfl (Nat.le_of_ble_eq_true rfl) dX3_becomeDictionary_56 (fun H locs hP _ hS => ?_)
        have hP : va_P D vwCl [(t, .inr (3, [.ref b, .int (nI ke), .int (nI 0)])), (b, zk_a cI 360 (zr_cp g fr i))] H := hP
        exact hret _ ls _ _ () dX3_becomeDictionary_59 trivial (by rw [show i = ke from by omega, h_fr, h_ke] at hP; exact hP) hS
      · skip
        refine lv_aload_n hx hb dX3_becomeDictionary_29 rfl (lv_at hl 0 rfl) ?_
        refine va_get (D := D) (ci := 3) (v := .ref b) (C := RX3) (T := TX3) (N := 3) hx hb hts ziX3_becomeDictionary_3 hown hK hP 0 rfl rfl 0 (by decide) f9 (fun _ h9 => h9) rfl dX3_becomeDictionary_30 ?_
        refine lv_iload_n hx hb dX3_becomeDictionary_33 rfl (lv_at hl 3 rfl) ?_
        refine lv_aload_n hx hb dX3_becomeDictionary_34 rfl (lv_at hl 0 rfl) ?_
        refine va_get (D := D) (ci := 3) (v := .ref b) (C := RX3) (T := TX3) (N := 3) hx hb hts ziX3_becomeDictionary_3 hown hK hP 0 rfl rfl 0 (by decide) f9 (fun _ h9 => h9) rfl dX3_becomeDictionary_35 ?_
        refine lv_iload_n hx hb dX3_becomeDictionary_38 rfl (lv_at hl 2 rfl) ?_
        refine lv_iload_n hx hb dX3_becomeDictionary_39 rfl (lv_at hl 3 rfl) ?_
        refine zk_add (v := fr + i) hx hb (rfl) dX3_becomeDictionary_40 ?_
        refine zk_ild (v := (zr_cp g fr i) (fr + i)) hx hb hK hP 1 0 (i := fr + i) (g := zr_cp g fr i) rfl rfl (by omega) (by decide) rfl dX3_becomeDictionary_41 ?_
        refine zk_ist (i := i) (x := (zr_cp g fr i) (fr + i)) (g := zr_cp g fr i) hx hb hK hP (zk_D hD rfl) hS 1 0 rfl rfl (by omega) (by decide) dX3_becomeDictionary_42 (fun H locs hP hS => ?_)
        have hP : va_P D vwCl [(t, .inr (3, [.ref b, .int (nI ah), .int (nI sz)])), (b, zk_a cI 360 (zk_up (zr_cp g fr i) i ((zr_cp g fr i) (fr + i))))] H := hP
        rw [zr_cp_s] at hP
        have hP : va_P D vwCl [(t, .inr (3, [.ref b, .int (nI ah), .int (nI sz)])), (b, zk_a cI 360 (zr_cp g fr (i + 1)))] H := hP
        refine lv_iinc (v := (nI (i + 1))) (lv' := [(3, .int (nI (i + 1))), (0, .ref t), (1, .int (nI ke)), (2, .int (nI fr))]) hx hb dX3_becomeDictionary_43 hl (k := 3) rfl (by rw [show Int32.ofInt 1 = (1 : Int32) from rfl, nI_1]) (by decide) rfl (fun ls hl => ?_)
        refine lv_goto (tgt := 24) hx hb dX3_becomeDictionary_46 (by decide) ?_
        exact ih24 (i + 1) ls _ _ (by omega) (by omega) hP hS (lv_sub hl [1, 2, 3, 0] rfl)
  exact L24 (ke - 0 + 1) 0 ls _ _ (by omega) (by omega) hP hS (lv_sub hl [3, 2, 1, 0] rfl)
end
section
/-! FRONT, the longest, the chained, over the lengths R d by their distances d. -/
def zr_fr (Rr : Nat → Nat) (mo : Nat) : Nat → Nat → Nat → List (Nat × Nat)
  | 0, _, _ => []
  | n + 1, d, be => if be < mo then (if be < Rr d then (Rr d, d) :: zr_fr Rr mo n (d + 1) (Rr d) else zr_fr Rr mo n (d + 1) be) else []
def zr_F (g : Nat → Nat) (h mo far : Nat) : List (Nat × Nat) := zr_fr (fun d => zr_reach g h (h - d) mo) mo far 1 2
theorem zr_fr_0 {Rr : Nat → Nat} {mo n d be : Nat} (h : n = 0) : zr_fr Rr mo n d be = [] := by subst h; rfl
theorem zr_fr_big {Rr : Nat → Nat} {mo n d be : Nat} (h : mo ≤ be) : zr_fr Rr mo n d be = [] := by
  cases n with
  | zero => rfl
  | succ n => rw [zr_fr, if_neg (by omega)]
theorem zr_fr_take {Rr : Nat → Nat} {mo n k d be r : Nat} (h : be < mo) (hr : r = Rr d) (h2 : be < r) (hn : n = k + 1) : zr_fr Rr mo n d be = (r, d) :: zr_fr Rr mo k (d + 1) r := by
  subst hn; subst hr
  rw [zr_fr, if_pos h, if_pos h2]
theorem zr_fr_skip {Rr : Nat → Nat} {mo n k d be r : Nat} (h : be < mo) (hr : r = Rr d) (h2 : r ≤ be) (hn : n = k + 1) : zr_fr Rr mo n d be = zr_fr Rr mo k (d + 1) be := by
  subst hn; subst hr
  rw [zr_fr, if_pos h, if_neg (by omega)]
/-- two rows of numbers hold a list of pairs -/
def zr_is (F : List (Nat × Nat)) (fl fd : Nat → Nat) (n : Nat) : Prop := F.length = n ∧ ∀ k, k < n → F[k]? = some (fl k, fd k)
theorem zr_is_0 {fl fd : Nat → Nat} : zr_is [] fl fd 0 := ⟨rfl, fun k h => by omega⟩
theorem zr_is_push {F : List (Nat × Nat)} {fl fd : Nat → Nat} {n r d : Nat} (h : zr_is F fl fd n) : zr_is (F ++ [(r, d)]) (zk_up fl n r) (zk_up fd n d) (n + 1) := by
  obtain ⟨h1, h2⟩ := h
  refine ⟨by rw [List.length_append, h1]; rfl, fun k hk => ?_⟩
  by_cases hkn : k = n
  · subst hkn
    rw [List.getElem?_append_right (by omega), h1, Nat.sub_self, zk_up_eq, zk_up_eq]
    rfl
  · rw [List.getElem?_append_left (by omega), zk_up_ne hkn, zk_up_ne hkn]
    exact h2 k (by omega)
/-- what FRONT's pairs keep to -/
theorem zr_fr_mem {Rr : Nat → Nat} {mo : Nat} : ∀ (n d be : Nat) (x : Nat × Nat), x ∈ zr_fr Rr mo n d be → be < x.1 ∧ x.1 = Rr x.2 ∧ d ≤ x.2 ∧ x.2 < d + n
  | 0, d, be, x, h => by simp [zr_fr] at h
  | n + 1, d, be, x, h => by
    unfold zr_fr at h
    split at h
    · split at h
      · rcases List.mem_cons.mp h with h1 | h1
        · subst h1; exact ⟨by assumption, rfl, Nat.le_refl _, by omega⟩
        · have h2 := zr_fr_mem n (d + 1) _ x h1
          exact ⟨by omega, h2.2.1, by omega, by omega⟩
      · have h2 := zr_fr_mem n (d + 1) be x h
        exact ⟨h2.1, h2.2.1, by omega, by omega⟩
    · simp at h
theorem zr_F_mem {g : Nat → Nat} {h mo far : Nat} {x : Nat × Nat} (hx : x ∈ zr_F g h mo far) : 3 ≤ x.1 ∧ x.1 ≤ mo ∧ 1 ≤ x.2 ∧ x.2 ≤ far ∧ x.1 = zr_reach g h (h - x.2) mo := by
  have h1 := zr_fr_mem far 1 2 x hx
  have h2 := zr_reach_le g mo h (h - x.2)
  have h3 : x.1 = zr_reach g h (h - x.2) mo := h1.2.1
  exact ⟨by omega, by omega, h1.2.2.1, by omega, h3⟩
theorem zr_is_mem {F : List (Nat × Nat)} {fl fd : Nat → Nat} {n k : Nat} (h : zr_is F fl fd n) (hk : k < n) : (fl k, fd k) ∈ F := List.mem_of_getElem? (h.2 k hk)
/-- the last of a list of pairs, (0, 0) of none -/
def zr_last (F : List (Nat × Nat)) : Nat × Nat := match F.getLast? with
  | none => (0, 0)
  | some x => x
theorem zr_last_0 {F : List (Nat × Nat)} {fl fd : Nat → Nat} {n : Nat} (h : zr_is F fl fd n) (hn : n = 0) : zr_last F = (0, 0) := by
  subst hn
  have h1 : F = [] := List.eq_nil_of_length_eq_zero h.1
  subst h1
  rfl
theorem zr_last_s {F : List (Nat × Nat)} {fl fd : Nat → Nat} {n : Nat} (h : zr_is F fl fd n) (hn : 0 < n) : zr_last F = (fl (n - 1), fd (n - 1)) := by
  have h1 : F.getLast? = some (fl (n - 1), fd (n - 1)) := by
    rw [List.getLast?_eq_getElem?, h.1]
    exact h.2 (n - 1) (by omega)
  rw [zr_last, h1]
theorem zr_last_mem {F : List (Nat × Nat)} (h : zr_last F ≠ (0, 0)) : zr_last F ∈ F := by
  unfold zr_last at h ⊢
  cases hg : F.getLast? with
  | none => rw [hg] at h; exact absurd rfl h
  | some x => exact List.mem_of_getLast? hg
def zr_ch (Rr : Nat → Nat) (dp : Nat) : Nat → Nat → Nat → Nat → Nat → Nat × Nat
  | 0, _, _, le, di => (le, di)
  | n + 1, d, se, le, di => if se < dp then (if 3 ≤ Rr d then (if le < Rr d then zr_ch Rr dp n (d + 1) (se + 1) (Rr d) d else zr_ch Rr dp n (d + 1) (se + 1) le di) else zr_ch Rr dp n (d + 1) se le di) else (le, di)
theorem zr_ch_0 {Rr : Nat → Nat} {dp n d se le di : Nat} (h : n = 0) : zr_ch Rr dp n d se le di = (le, di) := by subst h; rfl
theorem zr_ch_big {Rr : Nat → Nat} {dp n d se le di : Nat} (h : dp ≤ se) : zr_ch Rr dp n d se le di = (le, di) := by
  cases n with
  | zero => rfl
  | succ n => rw [zr_ch, if_neg (by omega)]
theorem zr_ch_no {Rr : Nat → Nat} {dp n k d se le di r : Nat} (h : se < dp) (hr : r = Rr d) (h2 : r < 3) (hn : n = k + 1) : zr_ch Rr dp n d se le di = zr_ch Rr dp k (d + 1) se le di := by
  subst hn; subst hr
  rw [zr_ch, if_pos h, if_neg (by omega)]
theorem zr_ch_in {Rr : Nat → Nat} {dp n k d se le di r : Nat} (h : se < dp) (hr : r = Rr d) (h2 : 3 ≤ r) (h3 : r ≤ le) (hn : n = k + 1) : zr_ch Rr dp n d se le di = zr_ch Rr dp k (d + 1) (se + 1) le di := by
  subst hn; subst hr
  rw [zr_ch, if_pos h, if_pos h2, if_neg (by omega)]
theorem zr_ch_up {Rr : Nat → Nat} {dp n k d se le di r : Nat} (h : se < dp) (hr : r = Rr d) (h2 : 3 ≤ r) (h3 : le < r) (hn : n = k + 1) : zr_ch Rr dp n d se le di = zr_ch Rr dp k (d + 1) (se + 1) r d := by
  subst hn; subst hr
  rw [zr_ch, if_pos h, if_pos h2, if_pos h3]
theorem zr_fr_len {Rr : Nat → Nat} {mo : Nat} (hR : ∀ d, Rr d ≤ mo) : ∀ (n d be : Nat), (zr_fr Rr mo n d be).length ≤ mo - be
  | 0, _, _ => by simp [zr_fr]
  | n + 1, d, be => by
    unfold zr_fr
    split
    · split
      · have h1 := zr_fr_len hR n (d + 1) (Rr d)
        have h2 := hR d
        rw [List.length_cons]
        omega
      · exact zr_fr_len hR n (d + 1) be
    · simp
theorem zr_is_len {g : Nat → Nat} {h k far fc : Nat} {fl fd : Nat → Nat} (hi : zr_is (zr_F g h (min 40 k) far) fl fd fc) : fc ≤ 38 := by
  rw [← hi.1]
  have h1 := zr_fr_len (Rr := fun d => zr_reach g h (h - d) (min 40 k)) (mo := min 40 k) (fun d => zr_reach_le g _ _ _) far 1 2
  have h2 : (zr_F g h (min 40 k) far).length ≤ min 40 k - 2 := h1
  omega
theorem zr_last_le {g : Nat → Nat} {h k far le di : Nat} (hi : zr_last (zr_F g h (min 40 k) far) = (le, di)) : le ≤ 40 := by
  by_cases h0 : zr_last (zr_F g h (min 40 k) far) = (0, 0)
  · rw [h0] at hi; cases hi; omega
  · have h1 := zr_F_mem (zr_last_mem h0)
    rw [hi] at h1
    have h2 : le ≤ min 40 k := h1.2.1
    omega
def rmX0_take : Room := { frames := 0, cells := 0, slots := 0, locals := 0 }
set_option maxRecDepth 20000 in
theorem ziX0_take_0 : ∀ w ∈ wsX00, w ∈ wsX0_take := by decide +kernel
set_option maxHeartbeats 4000000 in
set_option maxRecDepth 100000 in
/-- Finder.take -/
theorem c_take (l : Launch) (D : va_G) (cI cZ cR : ClassId) (f : Nat) (t : Nat) (sp : Nat) (dp : Nat) (fa : Nat) (fb : Nat) (fc : Nat) (le : Nat) (di : Nat) (x_ : Nat) (y_ : Nat) : zk_Wv l yX0_take wsX0_take rmX0_take D (zk_t cI cZ cR) [.ref f, .int (nI x_), .int (nI y_)] [(f, .inr (0, [.ref t, .int (nI sp), .int (nI dp), .ref fa, .ref fb, .int (nI fc), .int (nI le), .int (nI di)]))] (fun _ : Unit => True) (fun _ => [(f, .inr (0, [.ref t, .int (nI sp), .int (nI dp), .ref fa, .ref fb, .int (nI fc), .int (nI x_), .int (nI y_)]))]) := by
  refine zk_enterV RX0 cX0_take 3 (by decide) rfl rfl (Nat.le_of_ble_eq_true rfl) ?_
  intro p e s m args below meth c ls A Q hx hb hml hown hts hP hK hD hN hl hA hS hret
  have hl : lv_has ls 3 [(0, .ref f), (1, .int (nI x_)), (2, .int (nI y_))] := hl
  have f29 := hts (.fieldLink RX0 29 "MatchFinders$Finder" "length" "I") (by decide +kernel)
  have f32 := hts (.fieldLink RX0 32 "MatchFinders$Finder" "distance" "I") (by decide +kernel)
  refine lv_aload_n hx hb dX0_take_0 rfl (lv_at hl 0 rfl) ?_
  refine lv_iload_n hx hb dX0_take_1 rfl (lv_at hl 1 rfl) ?_
  refine va_put (D := D) (ci := 0) (v := .int (nI x_)) (ty := .int) (C := RX0) (T := TX0) (N := 8) hx hb hts ziX0_take_0 tyX0 tyX0_ok nmX0 hown hK hP (zk_D hD rfl) hS 0 rfl rfl 6 (by decide) f29 (fun _ h9 => h9) rfl (by decide +kernel) rfl rfl (Nat.le_of_ble_eq_true rfl) dX0_take_2 (fun H locs hP _ hS => ?_)
  have hP : va_P D vwCl [(f, .inr (0, [.ref t, .int (nI sp), .int (nI dp), .ref fa, .ref fb, .int (nI fc), .int (nI x_), .int (nI di)]))] H := hP
  refine lv_aload_n hx hb dX0_take_5 rfl (lv_at hl 0 rfl) ?_
  refine lv_iload_n hx hb dX0_take_6 rfl (lv_at hl 2 rfl) ?_
  refine va_put (D := D) (ci := 0) (v := .int (nI y_)) (ty := .int) (C := RX0) (T := TX0) (N := 8) hx hb hts ziX0_take_0 tyX0 tyX0_ok nmX0 hown hK hP (zk_D hD rfl) hS 0 rfl rfl 7 (by decide) f32 (fun _ h9 => h9) rfl (by decide +kernel) rfl rfl (Nat.le_of_ble_eq_true rfl) dX0_take_7 (fun H locs hP _ hS => ?_)
  have hP : va_P D vwCl [(f, .inr (0, [.ref t, .int (nI sp), .int (nI dp), .ref fa, .ref fb, .int (nI fc), .int (nI x_), .int (nI y_)]))] H := hP
  exact hret _ ls _ _ () dX0_take_10 trivial hP hS
def rmX0_gatherFront : Room := { frames := 2, cells := 0, slots := 0, locals := 42 }
set_option maxRecDepth 20000 in
theorem ziX0_gatherFront_0 : ∀ w ∈ wsX00, w ∈ wsX0_gatherFront := by decide +kernel
set_option maxHeartbeats 4000000 in
set_option maxRecDepth 100000 in
/-- Finder.gatherFront -/
theorem c_gatherFront (l : Launch) (D : va_G) (cI cZ cR : ClassId) (f : Nat) (sp : Nat) (dp : Nat) (fa : Nat) (fb : Nat) (fc : Nat) (le : Nat) (di : Nat) (fl : Nat → Nat) (fd : Nat → Nat) (t : Nat) (b : Nat) (ah : Nat) (sz : Nat) (g : Nat → Nat) (p_ : Nat) (h0 : ah ≤ 60) (h1 : sz ≤ 300) (h2 : sp ≤ 300) (h3 : p_ ≤ sz) (h4 : ∀ j, g j < 256) : zk_Wv l yX0_gatherFront wsX0_gatherFront rmX0_gatherFront D (zk_t cI cZ cR) [.ref f, .int (nI p_)] [(f, .inr (0, [.ref t, .int (nI sp), .int (nI dp), .ref fa, .ref fb, .int (nI fc), .int (nI le), .int (nI di)])), (fa, zk_a cI 38 fl), (fb, zk_a cI 38 fd), (t, .inr (3, [.ref b, .int (nI ah), .int (nI sz)])), (b, zk_a cI 360 g)] (fun u : (Nat → Nat) × (Nat → Nat) × Nat => match u with | (fl2, fd2, fc2) => zr_is (zr_F g (ah + p_) (min 40 (sz - p_)) (min sp (ah + p_))) fl2 fd2 fc2) (fun u => match u with | (fl2, fd2, fc2) => [(f, .inr (0, [.ref t, .int (nI sp), .int (nI dp), .ref fa, .ref fb, .int (nI fc2), .int (nI le), .int (nI di)])), (fa, zk_a cI 38 fl2), (fb, zk_a cI 38 fd2), (t, .inr (3, [.ref b, .int (nI ah), .int (nI sz)])), (b, zk_a cI 360 g)]) := by
  refine zk_enterV RX0 cX0_gatherFront 7 (by decide) rfl rfl (Nat.le_of_ble_eq_true rfl) ?_
  intro p e s m args below meth c ls A Q hx hb hml hown hts hP hK hD hN hl hA hS hret
  have hl : lv_has ls 7 [(0, .ref f), (1, .int (nI p_))] := hl
  have f9 := hts (.fieldLink RX0 9 "MatchFinders$Finder" "frontLengths" "[I") (by decide +kernel)
  have f15 := hts (.fieldLink RX0 15 "MatchFinders$Finder" "frontDistances" "[I") (by decide +kernel)
  have f18 := hts (.fieldLink RX0 18 "MatchFinders$Finder" "text" "LMatchFinders$Text;") (by decide +kernel)
  have f22 := hts (.fieldLink RX0 22 "MatchFinders$Finder" "span" "I") (by decide +kernel)
  have f35 := hts (.fieldLink RX0 35 "MatchFinders$Finder" "frontCount" "I") (by decide +kernel)
  refine lv_aload_n hx hb dX0_gatherFront_0 rfl (lv_at hl 0 rfl) ?_
  refine lv_iconst (v := (nI 0)) hx hb dX0_gatherFront_1 (by decide +kernel) ?_
  refine va_put (D := D) (ci := 0) (v := .int (nI 0)) (ty := .int) (C := RX0) (T := TX0) (N := 8) hx hb hts ziX0_gatherFront_0 tyX0 tyX0_ok nmX0 hown hK hP (zk_D hD rfl) hS 0 rfl rfl 5 (by decide) f35 (fun _ h9 => h9) rfl (by decide +kernel) rfl rfl (Nat.le_of_ble_eq_true rfl) dX0_gatherFront_2 (fun H locs hP _ hS => ?_)
  have hP : va_P D vwCl [(f, .inr (0, [.ref t, .int (nI sp), .int (nI dp), .ref fa, .ref fb, .int (nI 0), .int (nI le), .int (nI di)])), (fa, zk_a cI 38 fl), (fb, zk_a cI 38 fd), (t, .inr (3, [.ref b, .int (nI ah), .int (nI sz)])), (b, zk_a cI 360 g)] H := hP
  refine lv_aload_n hx hb dX0_gatherFront_5 rfl (lv_at hl 0 rfl) ?_
  refine va_get (D := D) (ci := 0) (v := .ref t) (C := RX0) (T := TX0) (N := 8) hx hb hts ziX0_gatherFront_0 hown hK hP 0 rfl rfl 0 (by decide) f18 (fun _ h9 => h9) rfl dX0_gatherFront_6 ?_
  refine lv_iload_n hx hb dX0_gatherFront_9 rfl (lv_at hl 1 rfl) ?_
  refine zk_rdV (As := [.int (nI p_)]) (rest := []) ⟨hx, hb, hml, hown, hts⟩ hN (c_mostLength l D cI cZ cR t b ah sz g p_ (by omega) (by omega)) (cwV 1 hts gX0_gatherFront_X3_mostLength rfl rfl rfl (by decide +kernel) ⟨Nat.le_of_ble_eq_true rfl, Nat.le_of_ble_eq_true rfl⟩) hK hP (zk_D hD rfl) [3, 4] rfl (by decide) rfl rfl rfl rfl hl.1 rfl (Nat.le_of_ble_eq_true rfl) dX0_gatherFront_10 ⟨Nat.zero_le _, Nat.zero_le _⟩ ?_
  refine zk_nm (fun mo h_mo => ?_)
  refine lv_istore_n (lv' := [(2, .int (nI mo)), (0, .ref f), (1, .int (nI p_))]) hx hb dX0_gatherFront_13 rfl hl (by decide) rfl (fun ls hl => ?_)
  refine lv_aload_n hx hb dX0_gatherFront_14 rfl (lv_at hl 1 rfl) ?_
  refine va_get (D := D) (ci := 0) (v := .int (nI sp)) (C := RX0) (T := TX0) (N := 8) hx hb hts ziX0_gatherFront_0 hown hK hP 0 rfl rfl 1 (by decide) f22 (fun _ h9 => h9) rfl dX0_gatherFront_15 ?_
  refine lv_aload_n hx hb dX0_gatherFront_18 rfl (lv_at hl 1 rfl) ?_
  refine va_get (D := D) (ci := 0) (v := .ref t) (C := RX0) (T := TX0) (N := 8) hx hb hts ziX0_gatherFront_0 hown hK hP 0 rfl rfl 0 (by decide) f18 (fun _ h9 => h9) rfl dX0_gatherFront_19 ?_
  refine lv_iload_n hx hb dX0_gatherFront_22 rfl (lv_at hl 2 rfl) ?_
  refine zk_rdV (As := [.int (nI p_)]) (rest := [.int (nI sp)]) ⟨hx, hb, hml, hown, hts⟩ hN (c_farthest l D cI cZ cR t b ah sz g p_) (cwV 1 hts gX0_gatherFront_X3_farthest rfl rfl rfl (by decide +kernel) ⟨Nat.le_of_ble_eq_true rfl, Nat.le_of_ble_eq_true rfl⟩) hK hP (zk_D hD rfl) [3, 4] rfl (by decide) rfl rfl rfl rfl hl.1 rfl (Nat.le_of_ble_eq_true rfl) dX0_gatherFront_23 ⟨Nat.zero_le _, Nat.zero_le _⟩ ?_
  refine va_mmin hx hb (by rw [hml]; exact hl.1.symm) hown (hts (.methodLink RX0 47 Lib.Math.min.name) (by decide +kernel)) (hts (.static Lib.Math.min.name) (by decide +kernel)) (hts (.initialized "java/lang/Math") (by decide +kernel)) (hts (.code Lib.Math.min.name Lib.Math.min.code 2 (some .int)) (by decide +kernel)) (Nat.le_of_ble_eq_true rfl) (Nat.le_of_ble_eq_true rfl) (Nat.zero_le _) (Nat.zero_le _) dX0_gatherFront_26 ?_
  refine zk_top (zk_minN (by omega) (by omega)) ?_
  refine zk_nm (fun far h_far => ?_)
  refine lv_istore_n (lv' := [(3, .int (nI far)), (2, .int (nI mo)), (0, .ref f), (1, .int (nI p_))]) hx hb dX0_gatherFront_29 rfl hl (by decide) rfl (fun ls hl => ?_)
  refine lv_iconst (v := (nI 2)) hx hb dX0_gatherFront_30 (by decide +kernel) ?_
  refine lv_istore (lv' := [(4, .int (nI 2)), (3, .int (nI far)), (2, .int (nI mo)), (0, .ref f), (1, .int (nI p_))]) hx hb dX0_gatherFront_31 hl (by decide) rfl (fun ls hl => ?_)
  refine lv_iconst (v := (nI 1)) hx hb dX0_gatherFront_33 (by decide +kernel) ?_
  refine lv_istore (lv' := [(5, .int (nI 1)), (4, .int (nI 2)), (3, .int (nI far)), (2, .int (nI mo)), (0, .ref f), (1, .int (nI p_))]) hx hb dX0_gatherFront_34 hl (by decide) rfl (fun ls hl => ?_)
  have L36 : ∀ (n : Nat) (d : Nat) (be : Nat) (fc1 : Nat) (fl1 : Nat → Nat) (fd1 : Nat → Nat) (P : List (Nat × Nat)) (ls : Array Slot) (H : Heap) (locs : List Loc), (1 ≤ d) → (d ≤ far + 1) → (fc1 + 2 ≤ be) → (be ≤ 40) → (zr_is P fl1 fd1 fc1) → (P ++ zr_fr (fun d => zr_reach g (ah + p_) (ah + p_ - d) mo) mo (far + 1 - d) d be = zr_F g (ah + p_) (min 40 (sz - p_)) (min sp (ah + p_))) → (far + 1 - d) < n → va_P D vwCl [(f, .inr (0, [.ref t, .int (nI sp), .int (nI dp), .ref fa, .ref fb, .int (nI fc1), .int (nI le), .int (nI di)])), (fa, zk_a cI 38 fl1), (fb, zk_a cI 38 fd1), (t, .inr (3, [.ref b, .int (nI ah), .int (nI sz)])), (b, zk_a cI 360 g)] H → va_S A s.heap H locs → lv_has ls 7 [(0, .ref f), (1, .int (nI p_)), (2, .int (nI mo)), (3, .int (nI far)), (4, .int (nI be)), (5, .int (nI d))] → W p l e rmX0_gatherFront s m args below meth c H locs 0 0 Q (F0 m 36 ls []) := by
    intro n
    induction n with
    | zero => intro d be fc1 fl1 fd1 P ls H locs g36_0 g36_1 g36_2 g36_3 g36_4 g36_5 hm hP hS hl; exact absurd hm (by omega)
    | succ n ih36 =>
      intro d be fc1 fl1 fd1 P ls H locs g36_0 g36_1 g36_2 g36_3 g36_4 g36_5 hm hP hS hl
      refine lv_iload hx hb dX0_gatherFront_36 (lv_at hl 5 rfl) ?_
      refine lv_iload_n hx hb dX0_gatherFront_38 rfl (lv_at hl 3 rfl) ?_
      refine zk_icmp_gt (tgt := 119) hx hb (by omega) (by omega) dX0_gatherFront_39 (by decide) (fun c_1 => ?_) (fun c_1 => ?_)
      · skip
        exact hret _ ls _ _ (fl1, fd1, fc1) dX0_gatherFront_119 (by rw [← g36_5, zr_fr_0 (n := far + 1 - d) (by omega), List.append_nil]; exact g36_4) hP hS
      · skip
        refine lv_iload hx hb dX0_gatherFront_42 (lv_at hl 4 rfl) ?_
        refine lv_iload_n hx hb dX0_gatherFront_44 rfl (lv_at hl 2 rfl) ?_
        refine zk_icmp_ge (tgt := 119) hx hb (by omega) (by omega) dX0_gatherFront_45 (by decide) (fun c_2 => ?_) (fun c_2 => ?_)
        · skip
          exact hret _ ls _ _ (fl1, fd1, fc1) dX0_gatherFront_119 (by rw [← g36_5, zr_fr_big (by omega), List.append_nil]; exact g36_4) hP hS
        · skip
          refine lv_aload_n hx hb dX0_gatherFront_48 rfl (lv_at hl 0 rfl) ?_
          refine va_get (D := D) (ci := 0) (v := .ref t) (C := RX0) (T := TX0) (N := 8) hx hb hts ziX0_gatherFront_0 hown hK hP 0 rfl rfl 0 (by decide) f18 (fun _ h9 => h9) rfl dX0_gatherFront_49 ?_
          refine lv_iload_n hx hb dX0_gatherFront_52 rfl (lv_at hl 1 rfl) ?_
          refine lv_iload hx hb dX0_gatherFront_53 (lv_at hl 5 rfl) ?_
          refine lv_iload_n hx hb dX0_gatherFront_55 rfl (lv_at hl 2 rfl) ?_
          refine zk_rdV (As := [.int (nI p_), .int (nI d), .int (nI mo)]) (rest := []) ⟨hx, hb, hml, hown, hts⟩ hN (c_reach l D cI cZ cR t b ah sz g p_ d mo (by omega) (by omega) (by omega) h4) (cwV 3 hts gX0_gatherFront_X3_reach rfl rfl rfl (by decide +kernel) ⟨Nat.le_of_ble_eq_true rfl, Nat.le_of_ble_eq_true rfl⟩) hK hP (zk_D hD rfl) [3, 4] rfl (by decide) rfl rfl rfl rfl hl.1 rfl (Nat.le_of_ble_eq_true rfl) dX0_gatherFront_56 ⟨Nat.zero_le _, Nat.zero_le _⟩ ?_
          refine zk_nm (fun rr h_rr => ?_)
          have hrl := zr_reach_le g mo (ah + p_) (ah + p_ - d)
          refine lv_istore (lv' := [(6, .int (nI rr)), (0, .ref f), (1, .int (nI p_)), (2, .int (nI mo)), (3, .int (nI far)), (4, .int (nI be)), (5, .int (nI d))]) hx hb dX0_gatherFront_59 hl (by decide) rfl (fun ls hl => ?_)
          refine lv_iload hx hb dX0_gatherFront_61 (lv_at hl 0 rfl) ?_
          refine lv_iload hx hb dX0_gatherFront_63 (lv_at hl 5 rfl) ?_
          refine zk_icmp_le (tgt := 113) hx hb (by omega) (by omega) dX0_gatherFront_65 (by decide) (fun c_3 => ?_) (fun c_3 => ?_)
          · skip
            refine lv_iinc (v := (nI (d + 1))) (lv' := [(5, .int (nI (d + 1))), (6, .int (nI rr)), (0, .ref f), (1, .int (nI p_)), (2, .int (nI mo)), (3, .int (nI far)), (4, .int (nI be))]) hx hb dX0_gatherFront_113 hl (k := 6) rfl (by rw [show Int32.ofInt 1 = (1 : Int32) from rfl, nI_1]) (by decide) rfl (fun ls hl => ?_)
            refine lv_goto (tgt := 36) hx hb dX0_gatherFront_116 (by decide) ?_
            exact ih36 (d + 1) be fc1 fl1 fd1 P ls _ _ (by omega) (by omega) (by omega) (by omega) g36_4 (by rw [← g36_5, zr_fr_skip (Rr := (fun d => zr_reach g (ah + p_) (ah + p_ - d) mo)) (d := d) (n := far + 1 - d) (k := far + 1 - (d + 1)) (r := rr) (by omega) h_rr (by omega) (by omega)]) (by omega) hP hS (lv_sub hl [2, 3, 4, 5, 6, 0] rfl)
          · skip
            refine lv_aload_n hx hb dX0_gatherFront_68 rfl (lv_at hl 1 rfl) ?_
            refine va_get (D := D) (ci := 0) (v := .int (nI fc1)) (C := RX0) (T := TX0) (N := 8) hx hb hts ziX0_gatherFront_0 hown hK hP 0 rfl rfl 5 (by decide) f35 (fun _ h9 => h9) rfl dX0_gatherFront_69 ?_
            refine lv_bipush (v := (nI 38)) hx hb dX0_gatherFront_72 (by decide +kernel) ?_
            refine zk_icmp_ge (tgt := 113) hx hb (by omega) (by omega) dX0_gatherFront_74 (by decide) (fun c_4 => absurd c_4 (by omega)) (fun c_4 => ?_)
            refine lv_aload_n hx hb dX0_gatherFront_77 rfl (lv_at hl 1 rfl) ?_
            refine va_get (D := D) (ci := 0) (v := .ref fa) (C := RX0) (T := TX0) (N := 8) hx hb hts ziX0_gatherFront_0 hown hK hP 0 rfl rfl 3 (by decide) f9 (fun _ h9 => h9) rfl dX0_gatherFront_78 ?_
            refine lv_aload_n hx hb dX0_gatherFront_81 rfl (lv_at hl 1 rfl) ?_
            refine va_get (D := D) (ci := 0) (v := .int (nI fc1)) (C := RX0) (T := TX0) (N := 8) hx hb hts ziX0_gatherFront_0 hown hK hP 0 rfl rfl 5 (by decide) f35 (fun _ h9 => h9) rfl dX0_gatherFront_82 ?_
            refine lv_iload hx hb dX0_gatherFront_85 (lv_at hl 0 rfl) ?_
            refine zk_ist (i := fc1) (x := rr) (g := fl1) hx hb hK hP (zk_D hD rfl) hS 1 0 rfl rfl (by omega) (by decide) dX0_gatherFront_87 (fun H locs hP hS => ?_)
            have hP : va_P D vwCl [(f, .inr (0, [.ref t, .int (nI sp), .int (nI dp), .ref fa, .ref fb, .int (nI fc1), .int (nI le), .int (nI di)])), (fa, zk_a cI 38 (zk_up fl1 fc1 rr)), (fb, zk_a cI 38 fd1), (t, .inr (3, [.ref b, .int (nI ah), .int (nI sz)])), (b, zk_a cI 360 g)] H := hP
            refine lv_aload_n hx hb dX0_gatherFront_88 rfl (lv_at hl 1 rfl) ?_
            refine va_get (D := D) (ci := 0) (v := .ref fb) (C := RX0) (T := TX0) (N := 8) hx hb hts ziX0_gatherFront_0 hown hK hP 0 rfl rfl 4 (by decide) f15 (fun _ h9 => h9) rfl dX0_gatherFront_89 ?_
            refine lv_aload_n hx hb dX0_gatherFront_92 rfl (lv_at hl 1 rfl) ?_
            refine va_get (D := D) (ci := 0) (v := .int (nI fc1)) (C := RX0) (T := TX0) (N := 8) hx hb hts ziX0_gatherFront_0 hown hK hP 0 rfl rfl 5 (by decide) f35 (fun _ h9 => h9) rfl dX0_gatherFront_93 ?_
            refine lv_iload hx hb dX0_gatherFront_96 (lv_at hl 6 rfl) ?_
            refine zk_ist (i := fc1) (x := d) (g := fd1) hx hb hK hP (zk_D hD rfl) hS 2 0 rfl rfl (by omega) (by decide) dX0_gatherFront_98 (fun H locs hP hS => ?_)
            have hP : va_P D vwCl [(f, .inr (0, [.ref t, .int (nI sp), .int (nI dp), .ref fa, .ref fb, .int (nI fc1), .int (nI le), .int (nI di)])), (fa, zk_a cI 38 (zk_up fl1 fc1 rr)), (fb, zk_a cI 38 (zk_up fd1 fc1 d)), (t, .inr (3, [.ref b, .int (nI ah), .int (nI sz)])), (b, zk_a cI 360 g)] H := hP
            refine lv_aload_n hx hb dX0_gatherFront_99 rfl (lv_at hl 1 rfl) ?_
            refine lv_dup hx hb dX0_gatherFront_100 rfl ?_
            refine va_get (D := D) (ci := 0) (v := .int (nI fc1)) (C := RX0) (T := TX0) (N := 8) hx hb hts ziX0_gatherFront_0 hown hK hP 0 rfl rfl 5 (by decide) f35 (fun _ h9 => h9) rfl dX0_gatherFront_101 ?_
            refine lv_iconst (v := (nI 1)) hx hb dX0_gatherFront_104 (by decide +kernel) ?_
            refine zk_add (v := fc1 + 1) hx hb (rfl) dX0_gatherFront_105 ?_
            refine va_put (D := D) (ci := 0) (v := .int (nI (fc1 + 1))) (ty := .int) (C := RX0) (T := TX0) (N := 8) hx hb hts ziX0_gatherFront_0 tyX0 tyX0_ok nmX0 hown hK hP (zk_D hD rfl) hS 0 rfl rfl 5 (by decide) f35 (fun _ h9 => h9) rfl (by decide +kernel) rfl rfl (Nat.le_of_ble_eq_true rfl) dX0_gatherFront_106 (fun H locs hP _ hS => ?_)
            have hP : va_P D vwCl [(f, .inr (0, [.ref t, .int (nI sp), .int (nI dp), .ref fa, .ref fb, .int (nI (fc1 + 1)), .int (nI le), .int (nI di)])), (fa, zk_a cI 38 (zk_up fl1 fc1 rr)), (fb, zk_a cI 38 (zk_up fd1 fc1 d)), (t, .inr (3, [.ref b, .int (nI ah), .int (nI sz)])), (b, zk_a cI 360 g)] H := hP
            refine lv_iload hx hb dX0_gatherFront_109 (lv_at hl 0 rfl) ?_
            refine lv_istore (lv' := [(4, .int (nI rr)), (6, .int (nI rr)), (0, .ref f), (1, .int (nI p_)), (2, .int (nI mo)), (3, .int (nI far)), (5, .int (nI d))]) hx hb dX0_gatherFront_111 hl (by decide) rfl (fun ls hl => ?_)
            refine lv_iinc (v := (nI (d + 1))) (lv' := [(5, .int (nI (d + 1))), (4, .int (nI rr)), (6, .int (nI rr)), (0, .ref f), (1, .int (nI p_)), (2, .int (nI mo)), (3, .int (nI far))]) hx hb dX0_gatherFront_113 hl (k := 6) rfl (by rw [show Int32.ofInt 1 = (1 : Int32) from rfl, nI_1]) (by decide) rfl (fun ls hl => ?_)
            refine lv_goto (tgt := 36) hx hb dX0_gatherFront_116 (by decide) ?_
            exact ih36 (d + 1) rr (fc1 + 1) (zk_up fl1 fc1 rr) (zk_up fd1 fc1 d) (P ++ [(rr, d)]) ls _ _ (by omega) (by omega) (by omega) (by omega) (zr_is_push g36_4) (by rw [← g36_5, zr_fr_take (Rr := (fun d => zr_reach g (ah + p_) (ah + p_ - d) mo)) (d := d) (n := far + 1 - d) (k := far + 1 - (d + 1)) (r := rr) (by omega) h_rr (by omega) (by omega), List.append_assoc]; rfl) (by omega) hP hS (lv_sub hl [3, 4, 5, 6, 1, 0] rfl)
  exact L36 (far + 1 - 1 + 1) 1 2 0 fl fd ([]) ls _ _ (by omega) (by omega) (by omega) (by omega) zr_is_0 (by rw [h_mo, h_far]; rfl) (by omega) hP hS (lv_sub hl [4, 5, 3, 2, 1, 0] rfl)
def rmX0_seekLongest : Room := { frames := 3, cells := 0, slots := 0, locals := 68 }
set_option maxRecDepth 20000 in
theorem ziX0_seekLongest_0 : ∀ w ∈ wsX00, w ∈ wsX0_seekLongest := by decide +kernel
set_option maxHeartbeats 4000000 in
set_option maxRecDepth 100000 in
/-- Finder.seekLongest -/
theorem c_seekLongest (l : Launch) (D : va_G) (cI cZ cR : ClassId) (f : Nat) (sp : Nat) (dp : Nat) (fa : Nat) (fb : Nat) (fc : Nat) (le : Nat) (di : Nat) (fl : Nat → Nat) (fd : Nat → Nat) (t : Nat) (b : Nat) (ah : Nat) (sz : Nat) (g : Nat → Nat) (p_ : Nat) (h0 : ah ≤ 60) (h1 : sz ≤ 300) (h2 : sp ≤ 300) (h3 : p_ ≤ sz) (h4 : ∀ j, g j < 256) : zk_Wv l yX0_seekLongest wsX0_seekLongest rmX0_seekLongest D (zk_t cI cZ cR) [.ref f, .int (nI p_)] [(f, .inr (0, [.ref t, .int (nI sp), .int (nI dp), .ref fa, .ref fb, .int (nI fc), .int (nI le), .int (nI di)])), (fa, zk_a cI 38 fl), (fb, zk_a cI 38 fd), (t, .inr (3, [.ref b, .int (nI ah), .int (nI sz)])), (b, zk_a cI 360 g)] (fun u : (Nat → Nat) × (Nat → Nat) × Nat × Nat × Nat => match u with | (fl2, fd2, fc2, le2, di2) => zr_last (zr_F g (ah + p_) (min 40 (sz - p_)) (min sp (ah + p_))) = (le2, di2)) (fun u => match u with | (fl2, fd2, fc2, le2, di2) => [(f, .inr (0, [.ref t, .int (nI sp), .int (nI dp), .ref fa, .ref fb, .int (nI fc2), .int (nI le2), .int (nI di2)])), (fa, zk_a cI 38 fl2), (fb, zk_a cI 38 fd2), (t, .inr (3, [.ref b, .int (nI ah), .int (nI sz)])), (b, zk_a cI 360 g)]) := by
  refine zk_enterV RX0 cX0_seekLongest 2 (by decide) rfl rfl (Nat.le_of_ble_eq_true rfl) ?_
  intro p e s m args below meth c ls A Q hx hb hml hown hts hP hK hD hN hl hA hS hret
  have hl : lv_has ls 2 [(0, .ref f), (1, .int (nI p_))] := hl
  have f9 := hts (.fieldLink RX0 9 "MatchFinders$Finder" "frontLengths" "[I") (by decide +kernel)
  have f15 := hts (.fieldLink RX0 15 "MatchFinders$Finder" "frontDistances" "[I") (by decide +kernel)
  have f35 := hts (.fieldLink RX0 35 "MatchFinders$Finder" "frontCount" "I") (by decide +kernel)
  refine lv_aload_n hx hb dX0_seekLongest_0 rfl (lv_at hl 0 rfl) ?_
  refine lv_iload_n hx hb dX0_seekLongest_1 rfl (lv_at hl 1 rfl) ?_
  refine zk_wrV (As := [.int (nI p_)]) (rest := []) ⟨hx, hb, hml, hown, hts⟩ hN (c_gatherFront l D cI cZ cR f sp dp fa fb fc le di fl fd t b ah sz g p_ (by omega) (by omega) (by omega) (by omega) h4) (cwV 1 hts gX0_seekLongest_X0_gatherFront rfl rfl rfl (by decide +kernel) ⟨Nat.le_of_ble_eq_true rfl, Nat.le_of_ble_eq_true rfl⟩) hK hP (zk_D hD rfl) hS hA [0, 1, 2, 3, 4] rfl (by decide) (fun _ => rfl) rfl rfl rfl rfl hl.1 rfl (Nat.le_of_ble_eq_true rfl) dX0_seekLongest_2 ⟨Nat.zero_le _, Nat.zero_le _⟩ (fun u H locs hu hP hS => ?_)
  obtain ⟨fl9, fd9, fc9⟩ := u
  have hu : zr_is (zr_F g (ah + p_) (min 40 (sz - p_)) (min sp (ah + p_))) fl9 fd9 fc9 := hu
  have hP : va_P D vwCl [(f, .inr (0, [.ref t, .int (nI sp), .int (nI dp), .ref fa, .ref fb, .int (nI fc9), .int (nI le), .int (nI di)])), (fa, zk_a cI 38 fl9), (fb, zk_a cI 38 fd9), (t, .inr (3, [.ref b, .int (nI ah), .int (nI sz)])), (b, zk_a cI 360 g)] H := hP
  refine lv_aload_n hx hb dX0_seekLongest_5 rfl (lv_at hl 0 rfl) ?_
  refine lv_iconst (v := (nI 0)) hx hb dX0_seekLongest_6 (by decide +kernel) ?_
  refine lv_iconst (v := (nI 0)) hx hb dX0_seekLongest_7 (by decide +kernel) ?_
  refine zk_wrV (As := [.int (nI 0), .int (nI 0)]) (rest := []) ⟨hx, hb, hml, hown, hts⟩ hN (c_take l D cI cZ cR f t sp dp fa fb fc9 le di 0 0) (cwV 2 hts gX0_seekLongest_X0_take rfl rfl rfl (by decide +kernel) ⟨Nat.le_of_ble_eq_true rfl, Nat.le_of_ble_eq_true rfl⟩) hK hP (zk_D hD rfl) hS hA [0] rfl (by decide) (fun _ => rfl) rfl rfl rfl rfl hl.1 rfl (Nat.le_of_ble_eq_true rfl) dX0_seekLongest_8 ⟨Nat.zero_le _, Nat.zero_le _⟩ (fun u H locs hu1 hP hS => ?_)
  have hP : va_P D vwCl [(f, .inr (0, [.ref t, .int (nI sp), .int (nI dp), .ref fa, .ref fb, .int (nI fc9), .int (nI 0), .int (nI 0)])), (fa, zk_a cI 38 fl9), (fb, zk_a cI 38 fd9), (t, .inr (3, [.ref b, .int (nI ah), .int (nI sz)])), (b, zk_a cI 360 g)] H := hP
  refine lv_aload_n hx hb dX0_seekLongest_11 rfl (lv_at hl 0 rfl) ?_
  have hfc : fc9 ≤ 38 := zr_is_len hu
  refine va_get (D := D) (ci := 0) (v := .int (nI fc9)) (C := RX0) (T := TX0) (N := 8) hx hb hts ziX0_seekLongest_0 hown hK hP 0 rfl rfl 5 (by decide) f35 (fun _ h9 => h9) rfl dX0_seekLongest_12 ?_
  refine zk_if_le (tgt := 44) hx hb (by omega) dX0_seekLongest_15 (by decide) (fun c_1 => ?_) (fun c_1 => ?_)
  · skip
    exact hret _ ls _ _ (fl9, fd9, fc9, _, _) dX0_seekLongest_44 (zr_last_0 hu c_1) hP hS
  · skip
    have hm := zr_F_mem (zr_is_mem hu (k := fc9 - 1) (by omega))
    have hfc : fc9 ≤ 38 := zr_is_len hu
    refine lv_aload_n hx hb dX0_seekLongest_18 rfl (lv_at hl 0 rfl) ?_
    refine lv_aload_n hx hb dX0_seekLongest_19 rfl (lv_at hl 0 rfl) ?_
    refine va_get (D := D) (ci := 0) (v := .ref fa) (C := RX0) (T := TX0) (N := 8) hx hb hts ziX0_seekLongest_0 hown hK hP 0 rfl rfl 3 (by decide) f9 (fun _ h9 => h9) rfl dX0_seekLongest_20 ?_
    refine lv_aload_n hx hb dX0_seekLongest_23 rfl (lv_at hl 0 rfl) ?_
    refine va_get (D := D) (ci := 0) (v := .int (nI fc9)) (C := RX0) (T := TX0) (N := 8) hx hb hts ziX0_seekLongest_0 hown hK hP 0 rfl rfl 5 (by decide) f35 (fun _ h9 => h9) rfl dX0_seekLongest_24 ?_
    refine lv_iconst (v := (nI 1)) hx hb dX0_seekLongest_27 (by decide +kernel) ?_
    refine zk_sub (v := fc9 - 1) hx hb (by omega) dX0_seekLongest_28 ?_
    refine zk_ild (v := fl9 (fc9 - 1)) hx hb hK hP 1 0 (i := fc9 - 1) (g := fl9) rfl rfl (by omega) (by decide) rfl dX0_seekLongest_29 ?_
    refine lv_aload_n hx hb dX0_seekLongest_30 rfl (lv_at hl 0 rfl) ?_
    refine va_get (D := D) (ci := 0) (v := .ref fb) (C := RX0) (T := TX0) (N := 8) hx hb hts ziX0_seekLongest_0 hown hK hP 0 rfl rfl 4 (by decide) f15 (fun _ h9 => h9) rfl dX0_seekLongest_31 ?_
    refine lv_aload_n hx hb dX0_seekLongest_34 rfl (lv_at hl 0 rfl) ?_
    refine va_get (D := D) (ci := 0) (v := .int (nI fc9)) (C := RX0) (T := TX0) (N := 8) hx hb hts ziX0_seekLongest_0 hown hK hP 0 rfl rfl 5 (by decide) f35 (fun _ h9 => h9) rfl dX0_seekLongest_35 ?_
    refine lv_iconst (v := (nI 1)) hx hb dX0_seekLongest_38 (by decide +kernel) ?_
    refine zk_sub (v := fc9 - 1) hx hb (by omega) dX0_seekLongest_39 ?_
    refine zk_ild (v := fd9 (fc9 - 1)) hx hb hK hP 2 0 (i := fc9 - 1) (g := fd9) rfl rfl (by omega) (by decide) rfl dX0_seekLongest_40 ?_
    refine zk_wrV (As := [.int (nI (fl9 (fc9 - 1))), .int (nI (fd9 (fc9 - 1)))]) (rest := []) ⟨hx, hb, hml, hown, hts⟩ hN (c_take l D cI cZ cR f t sp dp fa fb fc9 0 0 (fl9 (fc9 - 1)) (fd9 (fc9 - 1))) (cwV 2 hts gX0_seekLongest_X0_take rfl rfl rfl (by decide +kernel) ⟨Nat.le_of_ble_eq_true rfl, Nat.le_of_ble_eq_true rfl⟩) hK hP (zk_D hD rfl) hS hA [0] rfl (by decide) (fun _ => rfl) rfl rfl rfl rfl hl.1 rfl (Nat.le_of_ble_eq_true rfl) dX0_seekLongest_41 ⟨Nat.zero_le _, Nat.zero_le _⟩ (fun u H locs hu2 hP hS => ?_)
    have hP : va_P D vwCl [(f, .inr (0, [.ref t, .int (nI sp), .int (nI dp), .ref fa, .ref fb, .int (nI fc9), .int (nI (fl9 (fc9 - 1))), .int (nI (fd9 (fc9 - 1)))])), (fa, zk_a cI 38 fl9), (fb, zk_a cI 38 fd9), (t, .inr (3, [.ref b, .int (nI ah), .int (nI sz)])), (b, zk_a cI 360 g)] H := hP
    exact hret _ ls _ _ (fl9, fd9, fc9, _, _) dX0_seekLongest_44 (zr_last_s hu c_1) hP hS
def rmX0_seekChained : Room := { frames := 2, cells := 0, slots := 0, locals := 42 }
set_option maxRecDepth 20000 in
theorem ziX0_seekChained_0 : ∀ w ∈ wsX00, w ∈ wsX0_seekChained := by decide +kernel
set_option maxHeartbeats 4000000 in
set_option maxRecDepth 100000 in
/-- Finder.seekChained -/
theorem c_seekChained (l : Launch) (D : va_G) (cI cZ cR : ClassId) (f : Nat) (sp : Nat) (dp : Nat) (fa : Nat) (fb : Nat) (fc : Nat) (le : Nat) (di : Nat) (fl : Nat → Nat) (fd : Nat → Nat) (t : Nat) (b : Nat) (ah : Nat) (sz : Nat) (g : Nat → Nat) (p_ : Nat) (h0 : ah ≤ 60) (h1 : sz ≤ 300) (h2 : sp ≤ 300) (h3 : p_ ≤ sz) (h4 : ∀ j, g j < 256) (h5 : dp ≤ 64) : zk_Wv l yX0_seekChained wsX0_seekChained rmX0_seekChained D (zk_t cI cZ cR) [.ref f, .int (nI p_)] [(f, .inr (0, [.ref t, .int (nI sp), .int (nI dp), .ref fa, .ref fb, .int (nI fc), .int (nI le), .int (nI di)])), (fa, zk_a cI 38 fl), (fb, zk_a cI 38 fd), (t, .inr (3, [.ref b, .int (nI ah), .int (nI sz)])), (b, zk_a cI 360 g)] (fun u : Nat × Nat => match u with | (le2, di2) => zr_ch (fun d => zr_reach g (ah + p_) (ah + p_ - d) (min 40 (sz - p_))) dp (min sp (ah + p_)) 1 0 0 0 = (le2, di2)) (fun u => match u with | (le2, di2) => [(f, .inr (0, [.ref t, .int (nI sp), .int (nI dp), .ref fa, .ref fb, .int (nI fc), .int (nI le2), .int (nI di2)])), (fa, zk_a cI 38 fl), (fb, zk_a cI 38 fd), (t, .inr (3, [.ref b, .int (nI ah), .int (nI sz)])), (b, zk_a cI 360 g)]) := by
  refine zk_enterV RX0 cX0_seekChained 7 (by decide) rfl rfl (Nat.le_of_ble_eq_true rfl) ?_
  intro p e s m args below meth c ls A Q hx hb hml hown hts hP hK hD hN hl hA hS hret
  have hl : lv_has ls 7 [(0, .ref f), (1, .int (nI p_))] := hl
  have f18 := hts (.fieldLink RX0 18 "MatchFinders$Finder" "text" "LMatchFinders$Text;") (by decide +kernel)
  have f22 := hts (.fieldLink RX0 22 "MatchFinders$Finder" "span" "I") (by decide +kernel)
  have f26 := hts (.fieldLink RX0 26 "MatchFinders$Finder" "depth" "I") (by decide +kernel)
  have f29 := hts (.fieldLink RX0 29 "MatchFinders$Finder" "length" "I") (by decide +kernel)
  refine lv_aload_n hx hb dX0_seekChained_0 rfl (lv_at hl 0 rfl) ?_
  refine lv_iconst (v := (nI 0)) hx hb dX0_seekChained_1 (by decide +kernel) ?_
  refine lv_iconst (v := (nI 0)) hx hb dX0_seekChained_2 (by decide +kernel) ?_
  refine zk_wrV (As := [.int (nI 0), .int (nI 0)]) (rest := []) ⟨hx, hb, hml, hown, hts⟩ hN (c_take l D cI cZ cR f t sp dp fa fb fc le di 0 0) (cwV 2 hts gX0_seekChained_X0_take rfl rfl rfl (by decide +kernel) ⟨Nat.le_of_ble_eq_true rfl, Nat.le_of_ble_eq_true rfl⟩) hK hP (zk_D hD rfl) hS hA [0] rfl (by decide) (fun _ => rfl) rfl rfl rfl rfl hl.1 rfl (Nat.le_of_ble_eq_true rfl) dX0_seekChained_3 ⟨Nat.zero_le _, Nat.zero_le _⟩ (fun u H locs hu1 hP hS => ?_)
  have hP : va_P D vwCl [(f, .inr (0, [.ref t, .int (nI sp), .int (nI dp), .ref fa, .ref fb, .int (nI fc), .int (nI 0), .int (nI 0)])), (fa, zk_a cI 38 fl), (fb, zk_a cI 38 fd), (t, .inr (3, [.ref b, .int (nI ah), .int (nI sz)])), (b, zk_a cI 360 g)] H := hP
  refine lv_aload_n hx hb dX0_seekChained_6 rfl (lv_at hl 0 rfl) ?_
  refine va_get (D := D) (ci := 0) (v := .ref t) (C := RX0) (T := TX0) (N := 8) hx hb hts ziX0_seekChained_0 hown hK hP 0 rfl rfl 0 (by decide) f18 (fun _ h9 => h9) rfl dX0_seekChained_7 ?_
  refine lv_iload_n hx hb dX0_seekChained_10 rfl (lv_at hl 1 rfl) ?_
  refine zk_rdV (As := [.int (nI p_)]) (rest := []) ⟨hx, hb, hml, hown, hts⟩ hN (c_mostLength l D cI cZ cR t b ah sz g p_ (by omega) (by omega)) (cwV 1 hts gX0_seekChained_X3_mostLength rfl rfl rfl (by decide +kernel) ⟨Nat.le_of_ble_eq_true rfl, Nat.le_of_ble_eq_true rfl⟩) hK hP (zk_D hD rfl) [3, 4] rfl (by decide) rfl rfl rfl rfl hl.1 rfl (Nat.le_of_ble_eq_true rfl) dX0_seekChained_11 ⟨Nat.zero_le _, Nat.zero_le _⟩ ?_
  refine zk_nm (fun mo h_mo => ?_)
  refine lv_istore_n (lv' := [(2, .int (nI mo)), (0, .ref f), (1, .int (nI p_))]) hx hb dX0_seekChained_14 rfl hl (by decide) rfl (fun ls hl => ?_)
  refine lv_aload_n hx hb dX0_seekChained_15 rfl (lv_at hl 1 rfl) ?_
  refine va_get (D := D) (ci := 0) (v := .int (nI sp)) (C := RX0) (T := TX0) (N := 8) hx hb hts ziX0_seekChained_0 hown hK hP 0 rfl rfl 1 (by decide) f22 (fun _ h9 => h9) rfl dX0_seekChained_16 ?_
  refine lv_aload_n hx hb dX0_seekChained_19 rfl (lv_at hl 1 rfl) ?_
  refine va_get (D := D) (ci := 0) (v := .ref t) (C := RX0) (T := TX0) (N := 8) hx hb hts ziX0_seekChained_0 hown hK hP 0 rfl rfl 0 (by decide) f18 (fun _ h9 => h9) rfl dX0_seekChained_20 ?_
  refine lv_iload_n hx hb dX0_seekChained_23 rfl (lv_at hl 2 rfl) ?_
  refine zk_rdV (As := [.int (nI p_)]) (rest := [.int (nI sp)]) ⟨hx, hb, hml, hown, hts⟩ hN (c_farthest l D cI cZ cR t b ah sz g p_) (cwV 1 hts gX0_seekChained_X3_farthest rfl rfl rfl (by decide +kernel) ⟨Nat.le_of_ble_eq_true rfl, Nat.le_of_ble_eq_true rfl⟩) hK hP (zk_D hD rfl) [3, 4] rfl (by decide) rfl rfl rfl rfl hl.1 rfl (Nat.le_of_ble_eq_true rfl) dX0_seekChained_24 ⟨Nat.zero_le _, Nat.zero_le _⟩ ?_
  refine va_mmin hx hb (by rw [hml]; exact hl.1.symm) hown (hts (.methodLink RX0 47 Lib.Math.min.name) (by decide +kernel)) (hts (.static Lib.Math.min.name) (by decide +kernel)) (hts (.initialized "java/lang/Math") (by decide +kernel)) (hts (.code Lib.Math.min.name Lib.Math.min.code 2 (some .int)) (by decide +kernel)) (Nat.le_of_ble_eq_true rfl) (Nat.le_of_ble_eq_true rfl) (Nat.zero_le _) (Nat.zero_le _) dX0_seekChained_27 ?_
  refine zk_top (zk_minN (by omega) (by omega)) ?_
  refine zk_nm (fun far h_far => ?_)
  refine lv_istore_n (lv' := [(3, .int (nI far)), (2, .int (nI mo)), (0, .ref f), (1, .int (nI p_))]) hx hb dX0_seekChained_30 rfl hl (by decide) rfl (fun ls hl => ?_)
  refine lv_iconst (v := (nI 0)) hx hb dX0_seekChained_31 (by decide +kernel) ?_
  refine lv_istore (lv' := [(4, .int (nI 0)), (3, .int (nI far)), (2, .int (nI mo)), (0, .ref f), (1, .int (nI p_))]) hx hb dX0_seekChained_32 hl (by decide) rfl (fun ls hl => ?_)
  refine lv_iconst (v := (nI 1)) hx hb dX0_seekChained_34 (by decide +kernel) ?_
  refine lv_istore (lv' := [(5, .int (nI 1)), (4, .int (nI 0)), (3, .int (nI far)), (2, .int (nI mo)), (0, .ref f), (1, .int (nI p_))]) hx hb dX0_seekChained_35 hl (by decide) rfl (fun ls hl => ?_)
  have L37 : ∀ (n : Nat) (d : Nat) (se : Nat) (le1 : Nat) (di1 : Nat) (ls : Array Slot) (H : Heap) (locs : List Loc), (1 ≤ d) → (d ≤ far + 1) → (se ≤ dp) → (le1 ≤ 40) → (zr_ch (fun d => zr_reach g (ah + p_) (ah + p_ - d) mo) dp (far + 1 - d) d se le1 di1 = zr_ch (fun d => zr_reach g (ah + p_) (ah + p_ - d) (min 40 (sz - p_))) dp (min sp (ah + p_)) 1 0 0 0) → (far + 1 - d) < n → va_P D vwCl [(f, .inr (0, [.ref t, .int (nI sp), .int (nI dp), .ref fa, .ref fb, .int (nI fc), .int (nI le1), .int (nI di1)])), (fa, zk_a cI 38 fl), (fb, zk_a cI 38 fd), (t, .inr (3, [.ref b, .int (nI ah), .int (nI sz)])), (b, zk_a cI 360 g)] H → va_S A s.heap H locs → lv_has ls 7 [(0, .ref f), (1, .int (nI p_)), (2, .int (nI mo)), (3, .int (nI far)), (4, .int (nI se)), (5, .int (nI d))] → W p l e rmX0_seekChained s m args below meth c H locs 0 0 Q (F0 m 37 ls []) := by
    intro n
    induction n with
    | zero => intro d se le1 di1 ls H locs g37_0 g37_1 g37_2 g37_3 g37_4 hm hP hS hl; exact absurd hm (by omega)
    | succ n ih37 =>
      intro d se le1 di1 ls H locs g37_0 g37_1 g37_2 g37_3 g37_4 hm hP hS hl
      refine lv_iload hx hb dX0_seekChained_37 (lv_at hl 5 rfl) ?_
      refine lv_iload_n hx hb dX0_seekChained_39 rfl (lv_at hl 3 rfl) ?_
      refine zk_icmp_gt (tgt := 97) hx hb (by omega) (by omega) dX0_seekChained_40 (by decide) (fun c_1 => ?_) (fun c_1 => ?_)
      · skip
        exact hret _ ls _ _ (le1, di1) dX0_seekChained_97 (by rw [← g37_4, zr_ch_0 (n := far + 1 - d) (by omega)]) hP hS
      · skip
        refine lv_iload hx hb dX0_seekChained_43 (lv_at hl 4 rfl) ?_
        refine lv_aload_n hx hb dX0_seekChained_45 rfl (lv_at hl 0 rfl) ?_
        refine va_get (D := D) (ci := 0) (v := .int (nI dp)) (C := RX0) (T := TX0) (N := 8) hx hb hts ziX0_seekChained_0 hown hK hP 0 rfl rfl 2 (by decide) f26 (fun _ h9 => h9) rfl dX0_seekChained_46 ?_
        refine zk_icmp_ge (tgt := 97) hx hb (by omega) (by omega) dX0_seekChained_49 (by decide) (fun c_2 => ?_) (fun c_2 => ?_)
        · skip
          exact hret _ ls _ _ (le1, di1) dX0_seekChained_97 (by rw [← g37_4, zr_ch_big (by omega)]) hP hS
        · skip
          refine lv_aload_n hx hb dX0_seekChained_52 rfl (lv_at hl 0 rfl) ?_
          refine va_get (D := D) (ci := 0) (v := .ref t) (C := RX0) (T := TX0) (N := 8) hx hb hts ziX0_seekChained_0 hown hK hP 0 rfl rfl 0 (by decide) f18 (fun _ h9 => h9) rfl dX0_seekChained_53 ?_
          refine lv_iload_n hx hb dX0_seekChained_56 rfl (lv_at hl 1 rfl) ?_
          refine lv_iload hx hb dX0_seekChained_57 (lv_at hl 5 rfl) ?_
          refine lv_iload_n hx hb dX0_seekChained_59 rfl (lv_at hl 2 rfl) ?_
          refine zk_rdV (As := [.int (nI p_), .int (nI d), .int (nI mo)]) (rest := []) ⟨hx, hb, hml, hown, hts⟩ hN (c_reach l D cI cZ cR t b ah sz g p_ d mo (by omega) (by omega) (by omega) h4) (cwV 3 hts gX0_seekChained_X3_reach rfl rfl rfl (by decide +kernel) ⟨Nat.le_of_ble_eq_true rfl, Nat.le_of_ble_eq_true rfl⟩) hK hP (zk_D hD rfl) [3, 4] rfl (by decide) rfl rfl rfl rfl hl.1 rfl (Nat.le_of_ble_eq_true rfl) dX0_seekChained_60 ⟨Nat.zero_le _, Nat.zero_le _⟩ ?_
          refine zk_nm (fun rr h_rr => ?_)
          have hrl := zr_reach_le g mo (ah + p_) (ah + p_ - d)
          refine lv_istore (lv' := [(6, .int (nI rr)), (0, .ref f), (1, .int (nI p_)), (2, .int (nI mo)), (3, .int (nI far)), (4, .int (nI se)), (5, .int (nI d))]) hx hb dX0_seekChained_63 hl (by decide) rfl (fun ls hl => ?_)
          refine lv_iload hx hb dX0_seekChained_65 (lv_at hl 0 rfl) ?_
          refine lv_iconst (v := (nI 3)) hx hb dX0_seekChained_67 (by decide +kernel) ?_
          refine zk_icmp_lt (tgt := 91) hx hb (by omega) (by omega) dX0_seekChained_68 (by decide) (fun c_3 => ?_) (fun c_3 => ?_)
          · skip
            refine lv_iinc (v := (nI (d + 1))) (lv' := [(5, .int (nI (d + 1))), (6, .int (nI rr)), (0, .ref f), (1, .int (nI p_)), (2, .int (nI mo)), (3, .int (nI far)), (4, .int (nI se))]) hx hb dX0_seekChained_91 hl (k := 6) rfl (by rw [show Int32.ofInt 1 = (1 : Int32) from rfl, nI_1]) (by decide) rfl (fun ls hl => ?_)
            refine lv_goto (tgt := 37) hx hb dX0_seekChained_94 (by decide) ?_
            exact ih37 (d + 1) se le1 di1 ls _ _ (by omega) (by omega) (by omega) (by omega) (by rw [← g37_4, zr_ch_no (Rr := (fun d => zr_reach g (ah + p_) (ah + p_ - d) mo)) (d := d) (n := far + 1 - d) (k := far + 1 - (d + 1)) (r := rr) (by omega) h_rr (by omega) (by omega)]) (by omega) hP hS (lv_sub hl [2, 3, 4, 5, 6, 0] rfl)
          · skip
            refine lv_iinc (v := (nI (se + 1))) (lv' := [(4, .int (nI (se + 1))), (6, .int (nI rr)), (0, .ref f), (1, .int (nI p_)), (2, .int (nI mo)), (3, .int (nI far)), (5, .int (nI d))]) hx hb dX0_seekChained_71 hl (k := 5) rfl (by rw [show Int32.ofInt 1 = (1 : Int32) from rfl, nI_1]) (by decide) rfl (fun ls hl => ?_)
            refine lv_iload hx hb dX0_seekChained_74 (lv_at hl 1 rfl) ?_
            refine lv_aload_n hx hb dX0_seekChained_76 rfl (lv_at hl 2 rfl) ?_
            refine va_get (D := D) (ci := 0) (v := .int (nI le1)) (C := RX0) (T := TX0) (N := 8) hx hb hts ziX0_seekChained_0 hown hK hP 0 rfl rfl 6 (by decide) f29 (fun _ h9 => h9) rfl dX0_seekChained_77 ?_
            refine zk_icmp_le (tgt := 91) hx hb (by omega) (by omega) dX0_seekChained_80 (by decide) (fun c_4 => ?_) (fun c_4 => ?_)
            · skip
              refine lv_iinc (v := (nI (d + 1))) (lv' := [(5, .int (nI (d + 1))), (4, .int (nI (se + 1))), (6, .int (nI rr)), (0, .ref f), (1, .int (nI p_)), (2, .int (nI mo)), (3, .int (nI far))]) hx hb dX0_seekChained_91 hl (k := 6) rfl (by rw [show Int32.ofInt 1 = (1 : Int32) from rfl, nI_1]) (by decide) rfl (fun ls hl => ?_)
              refine lv_goto (tgt := 37) hx hb dX0_seekChained_94 (by decide) ?_
              exact ih37 (d + 1) (se + 1) le1 di1 ls _ _ (by omega) (by omega) (by omega) (by omega) (by rw [← g37_4, zr_ch_in (Rr := (fun d => zr_reach g (ah + p_) (ah + p_ - d) mo)) (d := d) (n := far + 1 - d) (k := far + 1 - (d + 1)) (r := rr) (by omega) h_rr (by omega) (by omega) (by omega)]) (by omega) hP hS (lv_sub hl [3, 4, 5, 6, 1, 0] rfl)
            · skip
              refine lv_aload_n hx hb dX0_seekChained_83 rfl (lv_at hl 2 rfl) ?_
              refine lv_iload hx hb dX0_seekChained_84 (lv_at hl 1 rfl) ?_
              refine lv_iload hx hb dX0_seekChained_86 (lv_at hl 6 rfl) ?_
              refine zk_wrV (As := [.int (nI rr), .int (nI d)]) (rest := []) ⟨hx, hb, hml, hown, hts⟩ hN (c_take l D cI cZ cR f t sp dp fa fb fc le1 di1 rr d) (cwV 2 hts gX0_seekChained_X0_take rfl rfl rfl (by decide +kernel) ⟨Nat.le_of_ble_eq_true rfl, Nat.le_of_ble_eq_true rfl⟩) hK hP (zk_D hD rfl) hS hA [0] rfl (by decide) (fun _ => rfl) rfl rfl rfl rfl hl.1 rfl (Nat.le_of_ble_eq_true rfl) dX0_seekChained_88 ⟨Nat.zero_le _, Nat.zero_le _⟩ (fun u H locs hu2 hP hS => ?_)
              have hP : va_P D vwCl [(f, .inr (0, [.ref t, .int (nI sp), .int (nI dp), .ref fa, .ref fb, .int (nI fc), .int (nI rr), .int (nI d)])), (fa, zk_a cI 38 fl), (fb, zk_a cI 38 fd), (t, .inr (3, [.ref b, .int (nI ah), .int (nI sz)])), (b, zk_a cI 360 g)] H := hP
              refine lv_iinc (v := (nI (d + 1))) (lv' := [(5, .int (nI (d + 1))), (4, .int (nI (se + 1))), (6, .int (nI rr)), (0, .ref f), (1, .int (nI p_)), (2, .int (nI mo)), (3, .int (nI far))]) hx hb dX0_seekChained_91 hl (k := 6) rfl (by rw [show Int32.ofInt 1 = (1 : Int32) from rfl, nI_1]) (by decide) rfl (fun ls hl => ?_)
              refine lv_goto (tgt := 37) hx hb dX0_seekChained_94 (by decide) ?_
              exact ih37 (d + 1) (se + 1) rr d ls _ _ (by omega) (by omega) (by omega) (by omega) (by rw [← g37_4, zr_ch_up (Rr := (fun d => zr_reach g (ah + p_) (ah + p_ - d) mo)) (d := d) (n := far + 1 - d) (k := far + 1 - (d + 1)) (r := rr) (by omega) h_rr (by omega) (by omega) (by omega)]) (by omega) hP hS (lv_sub hl [3, 4, 5, 6, 1, 0] rfl)
  exact L37 (far + 1 - 1 + 1) 1 0 0 0 ls _ _ (by omega) (by omega) (by omega) (by omega) (by rw [h_mo, h_far]; rfl) (by omega) hP hS (lv_sub hl [4, 5, 3, 2, 1, 0] rfl)
def rmX0_seekLookingAhead : Room := { frames := 4, cells := 0, slots := 0, locals := 89 }
set_option maxRecDepth 20000 in
theorem ziX0_seekLookingAhead_0 : ∀ w ∈ wsX00, w ∈ wsX0_seekLookingAhead := by decide +kernel
set_option maxHeartbeats 4000000 in
set_option maxRecDepth 100000 in
/-- Finder.seekLookingAhead -/
theorem c_seekLookingAhead (l : Launch) (D : va_G) (cI cZ cR : ClassId) (f : Nat) (sp : Nat) (dp : Nat) (fa : Nat) (fb : Nat) (fc : Nat) (le : Nat) (di : Nat) (fl : Nat → Nat) (fd : Nat → Nat) (t : Nat) (b : Nat) (ah : Nat) (sz : Nat) (g : Nat → Nat) (p_ : Nat) (h0 : ah ≤ 60) (h1 : sz ≤ 300) (h2 : sp ≤ 300) (h3 : p_ + 1 ≤ sz) (h4 : ∀ j, g j < 256) : zk_Wv l yX0_seekLookingAhead wsX0_seekLookingAhead rmX0_seekLookingAhead D (zk_t cI cZ cR) [.ref f, .int (nI p_)] [(f, .inr (0, [.ref t, .int (nI sp), .int (nI dp), .ref fa, .ref fb, .int (nI fc), .int (nI le), .int (nI di)])), (fa, zk_a cI 38 fl), (fb, zk_a cI 38 fd), (t, .inr (3, [.ref b, .int (nI ah), .int (nI sz)])), (b, zk_a cI 360 g)] (fun u : (Nat → Nat) × (Nat → Nat) × Nat × Nat × Nat => match u with | (fl2, fd2, fc2, le2, di2) => (if (zr_last (zr_F g (ah + p_) (min 40 (sz - p_)) (min sp (ah + p_)))).1 < (zr_last (zr_F g (ah + (p_ + 1)) (min 40 (sz - (p_ + 1))) (min sp (ah + (p_ + 1))))).1 then (0, 0) else zr_last (zr_F g (ah + p_) (min 40 (sz - p_)) (min sp (ah + p_)))) = (le2, di2)) (fun u => match u with | (fl2, fd2, fc2, le2, di2) => [(f, .inr (0, [.ref t, .int (nI sp), .int (nI dp), .ref fa, .ref fb, .int (nI fc2), .int (nI le2), .int (nI di2)])), (fa, zk_a cI 38 fl2), (fb, zk_a cI 38 fd2), (t, .inr (3, [.ref b, .int (nI ah), .int (nI sz)])), (b, zk_a cI 360 g)]) := by
  refine zk_enterV RX0 cX0_seekLookingAhead 3 (by decide) rfl rfl (Nat.le_of_ble_eq_true rfl) ?_
  intro p e s m args below meth c ls A Q hx hb hml hown hts hP hK hD hN hl hA hS hret
  have hl : lv_has ls 3 [(0, .ref f), (1, .int (nI p_))] := hl
  have f29 := hts (.fieldLink RX0 29 "MatchFinders$Finder" "length" "I") (by decide +kernel)
  refine lv_aload_n hx hb dX0_seekLookingAhead_0 rfl (lv_at hl 0 rfl) ?_
  refine lv_iload_n hx hb dX0_seekLookingAhead_1 rfl (lv_at hl 1 rfl) ?_
  refine lv_iconst (v := (nI 1)) hx hb dX0_seekLookingAhead_2 (by decide +kernel) ?_
  refine zk_add (v := p_ + 1) hx hb (rfl) dX0_seekLookingAhead_3 ?_
  refine zk_wrV (As := [.int (nI (p_ + 1))]) (rest := []) ⟨hx, hb, hml, hown, hts⟩ hN (c_seekLongest l D cI cZ cR f sp dp fa fb fc le di fl fd t b ah sz g (p_ + 1) (by omega) (by omega) (by omega) (by omega) h4) (cwV 1 hts gX0_seekLookingAhead_X0_seekLongest rfl rfl rfl (by decide +kernel) ⟨Nat.le_of_ble_eq_true rfl, Nat.le_of_ble_eq_true rfl⟩) hK hP (zk_D hD rfl) hS hA [0, 1, 2, 3, 4] rfl (by decide) (fun _ => rfl) rfl rfl rfl rfl hl.1 rfl (Nat.le_of_ble_eq_true rfl) dX0_seekLookingAhead_4 ⟨Nat.zero_le _, Nat.zero_le _⟩ (fun u H locs hu1 hP hS => ?_)
  obtain ⟨fl8, fd8, fc8, le8, di8⟩ := u
  have hu1 : zr_last (zr_F g (ah + (p_ + 1)) (min 40 (sz - (p_ + 1))) (min sp (ah + (p_ + 1)))) = (le8, di8) := hu1
  have hP : va_P D vwCl [(f, .inr (0, [.ref t, .int (nI sp), .int (nI dp), .ref fa, .ref fb, .int (nI fc8), .int (nI le8), .int (nI di8)])), (fa, zk_a cI 38 fl8), (fb, zk_a cI 38 fd8), (t, .inr (3, [.ref b, .int (nI ah), .int (nI sz)])), (b, zk_a cI 360 g)] H := hP
  have hb1 : le8 ≤ 40 := zr_last_le hu1
  refine lv_aload_n hx hb dX0_seekLookingAhead_7 rfl (lv_at hl 0 rfl) ?_
  refine va_get (D := D) (ci := 0) (v := .int (nI le8)) (C := RX0) (T := TX0) (N := 8) hx hb hts ziX0_seekLookingAhead_0 hown hK hP 0 rfl rfl 6 (by decide) f29 (fun _ h9 => h9) rfl dX0_seekLookingAhead_8 ?_
  refine lv_istore_n (lv' := [(2, .int (nI le8)), (0, .ref f), (1, .int (nI p_))]) hx hb dX0_seekLookingAhead_11 rfl hl (by decide) rfl (fun ls hl => ?_)
  refine lv_aload_n hx hb dX0_seekLookingAhead_12 rfl (lv_at hl 1 rfl) ?_
  refine lv_iload_n hx hb dX0_seekLookingAhead_13 rfl (lv_at hl 2 rfl) ?_
  refine zk_wrV (As := [.int (nI p_)]) (rest := []) ⟨hx, hb, hml, hown, hts⟩ hN (c_seekLongest l D cI cZ cR f sp dp fa fb fc8 le8 di8 fl8 fd8 t b ah sz g p_ (by omega) (by omega) (by omega) (by omega) h4) (cwV 1 hts gX0_seekLookingAhead_X0_seekLongest rfl rfl rfl (by decide +kernel) ⟨Nat.le_of_ble_eq_true rfl, Nat.le_of_ble_eq_true rfl⟩) hK hP (zk_D hD rfl) hS hA [0, 1, 2, 3, 4] rfl (by decide) (fun _ => rfl) rfl rfl rfl rfl hl.1 rfl (Nat.le_of_ble_eq_true rfl) dX0_seekLookingAhead_14 ⟨Nat.zero_le _, Nat.zero_le _⟩ (fun u H locs hu2 hP hS => ?_)
  obtain ⟨fl9, fd9, fc9, le9, di9⟩ := u
  have hu2 : zr_last (zr_F g (ah + p_) (min 40 (sz - p_)) (min sp (ah + p_))) = (le9, di9) := hu2
  have hP : va_P D vwCl [(f, .inr (0, [.ref t, .int (nI sp), .int (nI dp), .ref fa, .ref fb, .int (nI fc9), .int (nI le9), .int (nI di9)])), (fa, zk_a cI 38 fl9), (fb, zk_a cI 38 fd9), (t, .inr (3, [.ref b, .int (nI ah), .int (nI sz)])), (b, zk_a cI 360 g)] H := hP
  have hb2 : le9 ≤ 40 := zr_last_le hu2
  refine lv_iload_n hx hb dX0_seekLookingAhead_17 rfl (lv_at hl 0 rfl) ?_
  refine lv_aload_n hx hb dX0_seekLookingAhead_18 rfl (lv_at hl 1 rfl) ?_
  refine va_get (D := D) (ci := 0) (v := .int (nI le9)) (C := RX0) (T := TX0) (N := 8) hx hb hts ziX0_seekLookingAhead_0 hown hK hP 0 rfl rfl 6 (by decide) f29 (fun _ h9 => h9) rfl dX0_seekLookingAhead_19 ?_
  refine zk_icmp_le (tgt := 31) hx hb (by omega) (by omega) dX0_seekLookingAhead_22 (by decide) (fun c_1 => ?_) (fun c_1 => ?_)
  · skip
    exact hret _ ls _ _ (_, _, _, _, _) dX0_seekLookingAhead_31 (by rw [hu1, hu2, if_neg (by omega)]) hP hS
  · skip
    refine lv_aload_n hx hb dX0_seekLookingAhead_25 rfl (lv_at hl 1 rfl) ?_
    refine lv_iconst (v := (nI 0)) hx hb dX0_seekLookingAhead_26 (by decide +kernel) ?_
    refine lv_iconst (v := (nI 0)) hx hb dX0_seekLookingAhead_27 (by decide +kernel) ?_
    refine zk_wrV (As := [.int (nI 0), .int (nI 0)]) (rest := []) ⟨hx, hb, hml, hown, hts⟩ hN (c_take l D cI cZ cR f t sp dp fa fb fc9 le9 di9 0 0) (cwV 2 hts gX0_seekLookingAhead_X0_take rfl rfl rfl (by decide +kernel) ⟨Nat.le_of_ble_eq_true rfl, Nat.le_of_ble_eq_true rfl⟩) hK hP (zk_D hD rfl) hS hA [0] rfl (by decide) (fun _ => rfl) rfl rfl rfl rfl hl.1 rfl (Nat.le_of_ble_eq_true rfl) dX0_seekLookingAhead_28 ⟨Nat.zero_le _, Nat.zero_le _⟩ (fun u H locs hu3 hP hS => ?_)
    have hP : va_P D vwCl [(f, .inr (0, [.ref t, .int (nI sp), .int (nI dp), .ref fa, .ref fb, .int (nI fc9), .int (nI 0), .int (nI 0)])), (fa, zk_a cI 38 fl9), (fb, zk_a cI 38 fd9), (t, .inr (3, [.ref b, .int (nI ah), .int (nI sz)])), (b, zk_a cI 360 g)] H := hP
    exact hret _ ls _ _ (_, _, _, _, _) dX0_seekLookingAhead_31 (by rw [hu1, hu2, if_pos (by omega)]) hP hS
end
section
/-! The bits of pieces. -/
/-- G of the document -/
def zr_G (x : Nat) : Nat := if h : 1 < x then zr_G (x / 2) + 2 else 1
termination_by x
decreasing_by omega
theorem zr_G_s {x : Nat} (h : 1 < x) : zr_G x = zr_G (x / 2) + 2 := by rw [zr_G, dif_pos h]
theorem zr_G_1 {x : Nat} (h : x ≤ 1) : zr_G x = 1 := by rw [zr_G, dif_neg (by omega)]
theorem zk_shr1 {n : Nat} (h : n < 2 ^ 31) : nI n >>> (nI 1 &&& 31) = nI (n / 2) := pk_shrN h _ 1 (by decide +kernel)
theorem zk_inc2 (n : Nat) : nI n + Int32.ofInt 2 = nI (n + 2) := by rw [show Int32.ofInt 2 = nI 2 from by decide +kernel, nI_add]
/-- the last three unlike distances -/
def zr_rem (d la se th : Nat) : Nat × Nat × Nat := if d = la then (la, se, th) else if d = se then (d, la, th) else (d, la, se)
/-- bits, bits with repeats, repeats, the three distances: a match more -/
def zr_cm (ln ds pb bw rc la se th : Nat) : Nat × Nat × Nat × Nat × Nat × Nat :=
  if ds = la ∨ ds = se ∨ ds = th then (pb + (2 + zr_G (ln - 2) + zr_G ds), bw + (4 + zr_G (ln - 2)), rc + 1, (zr_rem ds la se th).1, (zr_rem ds la se th).2.1, (zr_rem ds la se th).2.2)
  else (pb + (2 + zr_G (ln - 2) + zr_G ds), bw + (2 + zr_G (ln - 2) + zr_G ds), rc, (zr_rem ds la se th).1, (zr_rem ds la se th).2.1, (zr_rem ds la se th).2.2)
/-- .. a piece more -/
def zr_pc (ln ds pb bw rc la se th : Nat) : Nat × Nat × Nat × Nat × Nat × Nat :=
  if ds = 0 then (pb + 9, bw + 9, rc, la, se, th) else zr_cm ln ds pb bw rc la se th
def rmX4_gammaBits : Room := { frames := 0, cells := 0, slots := 0, locals := 0 }
set_option maxHeartbeats 4000000 in
set_option maxRecDepth 100000 in
/-- gammaBits -/
theorem c_gammaBits (l : Launch) (D : va_G) (cI cZ cR : ClassId) (x_ : Nat) (h0 : x_ < 65536) : zk_Rd l yX4_gammaBits wsX4_gammaBits rmX4_gammaBits D (zk_t cI cZ cR) [.int (nI x_)] [] (nI (zr_G x_)) := by
  refine zk_enterR RX4 cX4_gammaBits 3 .int (by decide) rfl rfl (Nat.le_of_ble_eq_true rfl) (Or.inl rfl) ?_
  intro p e s m args below meth c ls Q hx hb hml hown hts hP hK hD hN hl hret
  have hl : lv_has ls 3 [(0, .int (nI x_))] := hl
  refine lv_iconst (v := (nI 1)) hx hb dX4_gammaBits_0 (by decide +kernel) ?_
  refine lv_istore_n (lv' := [(1, .int (nI 1)), (0, .int (nI x_))]) hx hb dX4_gammaBits_1 rfl hl (by decide) rfl (fun ls hl => ?_)
  refine lv_iload_n hx hb dX4_gammaBits_2 rfl (lv_at hl 1 rfl) ?_
  refine lv_istore_n (lv' := [(2, .int (nI x_)), (1, .int (nI 1)), (0, .int (nI x_))]) hx hb dX4_gammaBits_3 rfl hl (by decide) rfl (fun ls hl => ?_)
  have L4 : ∀ (n : Nat) (bi : Nat) (re : Nat) (ls : Array Slot), (re < 65536) → (bi + zr_G re = zr_G x_ + 1) → (re) < n → lv_has ls 3 [(0, .int (nI x_)), (1, .int (nI bi)), (2, .int (nI re))] → W p l e rmX4_gammaBits s m args below meth c s.heap [] 0 0 Q (F0 m 4 ls []) := by
    intro n
    induction n with
    | zero => intro bi re ls g4_0 g4_1 hm hl; exact absurd hm (by omega)
    | succ n ih4 =>
      intro bi re ls g4_0 g4_1 hm hl
      refine lv_iload_n hx hb dX4_gammaBits_4 rfl (lv_at hl 2 rfl) ?_
      refine lv_iconst (v := (nI 1)) hx hb dX4_gammaBits_5 (by decide +kernel) ?_
      refine zk_icmp_le (tgt := 19) hx hb (by omega) (by omega) dX4_gammaBits_6 (by decide) (fun c_1 => ?_) (fun c_1 => ?_)
      · skip
        rw [zr_G_1 (x := re) c_1] at g4_1
        refine lv_iload_n hx hb dX4_gammaBits_19 rfl (lv_at hl 1 rfl) ?_
        exact hret _ ls _ dX4_gammaBits_20 (by rw [show bi = zr_G x_ by omega])
      · skip
        refine lv_iinc (v := (nI (bi + 2))) (lv' := [(1, .int (nI (bi + 2))), (0, .int (nI x_)), (2, .int (nI re))]) hx hb dX4_gammaBits_9 hl (k := 1) rfl (zk_inc2 bi) (by decide) rfl (fun ls hl => ?_)
        refine lv_iload_n hx hb dX4_gammaBits_12 rfl (lv_at hl 2 rfl) ?_
        refine lv_iconst (v := (nI 1)) hx hb dX4_gammaBits_13 (by decide +kernel) ?_
        refine lv_ishr hx hb dX4_gammaBits_14 ?_
        refine zk_top (zk_shr1 (by omega)) ?_
        refine lv_istore_n (lv' := [(2, .int (nI (re / 2))), (1, .int (nI (bi + 2))), (0, .int (nI x_))]) hx hb dX4_gammaBits_15 rfl hl (by decide) rfl (fun ls hl => ?_)
        refine lv_goto (tgt := 4) hx hb dX4_gammaBits_16 (by decide) ?_
        exact ih4 (bi + 2) (re / 2) ls (by omega) (by rw [zr_G_s c_1] at g4_1; omega) (by omega) (lv_sub hl [2, 1, 0] rfl)
  exact L4 (x_ + 1) 1 x_ ls (by omega) (by omega) (by omega) (lv_sub hl [2, 1, 0] rfl)
def rmX2_begin : Room := { frames := 0, cells := 0, slots := 0, locals := 0 }
set_option maxRecDepth 20000 in
theorem ziX2_begin_2 : ∀ w ∈ wsX20, w ∈ wsX2_begin := by decide +kernel
set_option maxHeartbeats 4000000 in
set_option maxRecDepth 100000 in
/-- Row.begin -/
theorem c_begin (l : Launch) (D : va_G) (cI cZ cR : ClassId) (r_ : Nat) (ra : Nat) (rb : Nat) (rd : Nat) (ct : Nat) (pb : Nat) (bw : Nat) (rc : Nat) (to : Nat) (la : Nat) (se : Nat) (th : Nat) : zk_Wv l yX2_begin wsX2_begin rmX2_begin D (zk_t cI cZ cR) [.ref r_] [(r_, .inr (2, [.ref ra, .ref rb, .ref rd, .int (nI ct), .int (nI pb), .int (nI bw), .int (nI rc), .int (nI to), .int (nI la), .int (nI se), .int (nI th)]))] (fun _ : Unit => True) (fun _ => [(r_, .inr (2, [.ref ra, .ref rb, .ref rd, .int (nI 0), .int (nI 0), .int (nI 0), .int (nI 0), .int (nI to), .int (nI 0), .int (nI 0), .int (nI 0)]))]) := by
  refine zk_enterV RX2 cX2_begin 1 (by decide) rfl rfl (Nat.le_of_ble_eq_true rfl) ?_
  intro p e s m args below meth c ls A Q hx hb hml hown hts hP hK hD hN hl hA hS hret
  have hl : lv_has ls 1 [(0, .ref r_)] := hl
  have f21 := hts (.fieldLink RX2 21 "MatchFinders$Row" "count" "I") (by decide +kernel)
  have f25 := hts (.fieldLink RX2 25 "MatchFinders$Row" "plainBits" "I") (by decide +kernel)
  have f28 := hts (.fieldLink RX2 28 "MatchFinders$Row" "bitsWithRepeats" "I") (by decide +kernel)
  have f31 := hts (.fieldLink RX2 31 "MatchFinders$Row" "repeatCount" "I") (by decide +kernel)
  have f34 := hts (.fieldLink RX2 34 "MatchFinders$Row" "latest" "I") (by decide +kernel)
  have f37 := hts (.fieldLink RX2 37 "MatchFinders$Row" "second" "I") (by decide +kernel)
  have f40 := hts (.fieldLink RX2 40 "MatchFinders$Row" "third" "I") (by decide +kernel)
  refine lv_aload_n hx hb dX2_begin_0 rfl (lv_at hl 0 rfl) ?_
  refine lv_iconst (v := (nI 0)) hx hb dX2_begin_1 (by decide +kernel) ?_
  refine va_put (D := D) (ci := 2) (v := .int (nI 0)) (ty := .int) (C := RX2) (T := TX2) (N := 11) hx hb hts ziX2_begin_2 tyX2 tyX2_ok nmX2 hown hK hP (zk_D hD rfl) hS 0 rfl rfl 3 (by decide) f21 (fun _ h9 => h9) rfl (by decide +kernel) rfl rfl (Nat.le_of_ble_eq_true rfl) dX2_begin_2 (fun H locs hP _ hS => ?_)
  have hP : va_P D vwCl [(r_, .inr (2, [.ref ra, .ref rb, .ref rd, .int (nI 0), .int (nI pb), .int (nI bw), .int (nI rc), .int (nI to), .int (nI la), .int (nI se), .int (nI th)]))] H := hP
  refine lv_aload_n hx hb dX2_begin_5 rfl (lv_at hl 0 rfl) ?_
  refine lv_iconst (v := (nI 0)) hx hb dX2_begin_6 (by decide +kernel) ?_
  refine va_put (D := D) (ci := 2) (v := .int (nI 0)) (ty := .int) (C := RX2) (T := TX2) (N := 11) hx hb hts ziX2_begin_2 tyX2 tyX2_ok nmX2 hown hK hP (zk_D hD rfl) hS 0 rfl rfl 4 (by decide) f25 (fun _ h9 => h9) rfl (by decide +kernel) rfl rfl (Nat.le_of_ble_eq_true rfl) dX2_begin_7 (fun H locs hP _ hS => ?_)
  have hP : va_P D vwCl [(r_, .inr (2, [.ref ra, .ref rb, .ref rd, .int (nI 0), .int (nI 0), .int (nI bw), .int (nI rc), .int (nI to), .int (nI la), .int (nI se), .int (nI th)]))] H := hP
  refine lv_aload_n hx hb dX2_begin_10 rfl (lv_at hl 0 rfl) ?_
  refine lv_iconst (v := (nI 0)) hx hb dX2_begin_11 (by decide +kernel) ?_
  refine va_put (D := D) (ci := 2) (v := .int (nI 0)) (ty := .int) (C := RX2) (T := TX2) (N := 11) hx hb hts ziX2_begin_2 tyX2 tyX2_ok nmX2 hown hK hP (zk_D hD rfl) hS 0 rfl rfl 5 (by decide) f28 (fun _ h9 => h9) rfl (by decide +kernel) rfl rfl (Nat.le_of_ble_eq_true rfl) dX2_begin_12 (fun H locs hP _ hS => ?_)
  have hP : va_P D vwCl [(r_, .inr (2, [.ref ra, .ref rb, .ref rd, .int (nI 0), .int (nI 0), .int (nI 0), .int (nI rc), .int (nI to), .int (nI la), .int (nI se), .int (nI th)]))] H := hP
  refine lv_aload_n hx hb dX2_begin_15 rfl (lv_at hl 0 rfl) ?_
  refine lv_iconst (v := (nI 0)) hx hb dX2_begin_16 (by decide +kernel) ?_
  refine va_put (D := D) (ci := 2) (v := .int (nI 0)) (ty := .int) (C := RX2) (T := TX2) (N := 11) hx hb hts ziX2_begin_2 tyX2 tyX2_ok nmX2 hown hK hP (zk_D hD rfl) hS 0 rfl rfl 6 (by decide) f31 (fun _ h9 => h9) rfl (by decide +kernel) rfl rfl (Nat.le_of_ble_eq_true rfl) dX2_begin_17 (fun H locs hP _ hS => ?_)
  have hP : va_P D vwCl [(r_, .inr (2, [.ref ra, .ref rb, .ref rd, .int (nI 0), .int (nI 0), .int (nI 0), .int (nI 0), .int (nI to), .int (nI la), .int (nI se), .int (nI th)]))] H := hP
  refine lv_aload_n hx hb dX2_begin_20 rfl (lv_at hl 0 rfl) ?_
  refine lv_iconst (v := (nI 0)) hx hb dX2_begin_21 (by decide +kernel) ?_
  refine va_put (D := D) (ci := 2) (v := .int (nI 0)) (ty := .int) (C := RX2) (T := TX2) (N := 11) hx hb hts ziX2_begin_2 tyX2 tyX2_ok nmX2 hown hK hP (zk_D hD rfl) hS 0 rfl rfl 8 (by decide) f34 (fun _ h9 => h9) rfl (by decide +kernel) rfl rfl (Nat.le_of_ble_eq_true rfl) dX2_begin_22 (fun H locs hP _ hS => ?_)
  have hP : va_P D vwCl [(r_, .inr (2, [.ref ra, .ref rb, .ref rd, .int (nI 0), .int (nI 0), .int (nI 0), .int (nI 0), .int (nI to), .int (nI 0), .int (nI se), .int (nI th)]))] H := hP
  refine lv_aload_n hx hb dX2_begin_25 rfl (lv_at hl 0 rfl) ?_
  refine lv_iconst (v := (nI 0)) hx hb dX2_begin_26 (by decide +kernel) ?_
  refine va_put (D := D) (ci := 2) (v := .int (nI 0)) (ty := .int) (C := RX2) (T := TX2) (N := 11) hx hb hts ziX2_begin_2 tyX2 tyX2_ok nmX2 hown hK hP (zk_D hD rfl) hS 0 rfl rfl 9 (by decide) f37 (fun _ h9 => h9) rfl (by decide +kernel) rfl rfl (Nat.le_of_ble_eq_true rfl) dX2_begin_27 (fun H locs hP _ hS => ?_)
  have hP : va_P D vwCl [(r_, .inr (2, [.ref ra, .ref rb, .ref rd, .int (nI 0), .int (nI 0), .int (nI 0), .int (nI 0), .int (nI to), .int (nI 0), .int (nI 0), .int (nI th)]))] H := hP
  refine lv_aload_n hx hb dX2_begin_30 rfl (lv_at hl 0 rfl) ?_
  refine lv_iconst (v := (nI 0)) hx hb dX2_begin_31 (by decide +kernel) ?_
  refine va_put (D := D) (ci := 2) (v := .int (nI 0)) (ty := .int) (C := RX2) (T := TX2) (N := 11) hx hb hts ziX2_begin_2 tyX2 tyX2_ok nmX2 hown hK hP (zk_D hD rfl) hS 0 rfl rfl 10 (by decide) f40 (fun _ h9 => h9) rfl (by decide +kernel) rfl rfl (Nat.le_of_ble_eq_true rfl) dX2_begin_32 (fun H locs hP _ hS => ?_)
  have hP : va_P D vwCl [(r_, .inr (2, [.ref ra, .ref rb, .ref rd, .int (nI 0), .int (nI 0), .int (nI 0), .int (nI 0), .int (nI to), .int (nI 0), .int (nI 0), .int (nI 0)]))] H := hP
  exact hret _ ls _ _ () dX2_begin_35 trivial hP hS
def rmX2_remember : Room := { frames := 0, cells := 0, slots := 0, locals := 0 }
set_option maxRecDepth 20000 in
theorem ziX2_remember_2 : ∀ w ∈ wsX20, w ∈ wsX2_remember := by decide +kernel
set_option maxHeartbeats 4000000 in
set_option maxRecDepth 100000 in
/-- Row.remember -/
theorem c_remember (l : Launch) (D : va_G) (cI cZ cR : ClassId) (r_ : Nat) (ra : Nat) (rb : Nat) (rd : Nat) (ct : Nat) (pb : Nat) (bw : Nat) (rc : Nat) (to : Nat) (la : Nat) (se : Nat) (th : Nat) (d_ : Nat) (h0 : d_ ≤ 300) (h1 : la ≤ 300) (h2 : se ≤ 300) (h3 : th ≤ 300) : zk_Wv l yX2_remember wsX2_remember rmX2_remember D (zk_t cI cZ cR) [.ref r_, .int (nI d_)] [(r_, .inr (2, [.ref ra, .ref rb, .ref rd, .int (nI ct), .int (nI pb), .int (nI bw), .int (nI rc), .int (nI to), .int (nI la), .int (nI se), .int (nI th)]))] (fun u : Nat × Nat × Nat => match u with | (la2, se2, th2) => zr_rem d_ la se th = (la2, se2, th2)) (fun u => match u with | (la2, se2, th2) => [(r_, .inr (2, [.ref ra, .ref rb, .ref rd, .int (nI ct), .int (nI pb), .int (nI bw), .int (nI rc), .int (nI to), .int (nI la2), .int (nI se2), .int (nI th2)]))]) := by
  refine zk_enterV RX2 cX2_remember 2 (by decide) rfl rfl (Nat.le_of_ble_eq_true rfl) ?_
  intro p e s m args below meth c ls A Q hx hb hml hown hts hP hK hD hN hl hA hS hret
  have hl : lv_has ls 2 [(0, .ref r_), (1, .int (nI d_))] := hl
  have f34 := hts (.fieldLink RX2 34 "MatchFinders$Row" "latest" "I") (by decide +kernel)
  have f37 := hts (.fieldLink RX2 37 "MatchFinders$Row" "second" "I") (by decide +kernel)
  have f40 := hts (.fieldLink RX2 40 "MatchFinders$Row" "third" "I") (by decide +kernel)
  refine lv_iload_n hx hb dX2_remember_0 rfl (lv_at hl 1 rfl) ?_
  refine lv_aload_n hx hb dX2_remember_1 rfl (lv_at hl 0 rfl) ?_
  refine va_get (D := D) (ci := 2) (v := .int (nI la)) (C := RX2) (T := TX2) (N := 11) hx hb hts ziX2_remember_2 hown hK hP 0 rfl rfl 8 (by decide) f34 (fun _ h9 => h9) rfl dX2_remember_2 ?_
  refine zk_icmp_ne (tgt := 9) hx hb (by omega) (by omega) dX2_remember_5 (by decide) (fun c_1 => ?_) (fun c_1 => ?_)
  · skip
    refine lv_iload_n hx hb dX2_remember_9 rfl (lv_at hl 1 rfl) ?_
    refine lv_aload_n hx hb dX2_remember_10 rfl (lv_at hl 0 rfl) ?_
    refine va_get (D := D) (ci := 2) (v := .int (nI se)) (C := RX2) (T := TX2) (N := 11) hx hb hts ziX2_remember_2 hown hK hP 0 rfl rfl 9 (by decide) f37 (fun _ h9 => h9) rfl dX2_remember_11 ?_
    refine zk_icmp_eq (tgt := 25) hx hb (by omega) (by omega) dX2_remember_14 (by decide) (fun c_2 => ?_) (fun c_2 => ?_)
    · skip
      refine lv_aload_n hx hb dX2_remember_25 rfl (lv_at hl 0 rfl) ?_
      refine lv_aload_n hx hb dX2_remember_26 rfl (lv_at hl 0 rfl) ?_
      refine va_get (D := D) (ci := 2) (v := .int (nI la)) (C := RX2) (T := TX2) (N := 11) hx hb hts ziX2_remember_2 hown hK hP 0 rfl rfl 8 (by decide) f34 (fun _ h9 => h9) rfl dX2_remember_27 ?_
      refine va_put (D := D) (ci := 2) (v := .int (nI la)) (ty := .int) (C := RX2) (T := TX2) (N := 11) hx hb hts ziX2_remember_2 tyX2 tyX2_ok nmX2 hown hK hP (zk_D hD rfl) hS 0 rfl rfl 9 (by decide) f37 (fun _ h9 => h9) rfl (by decide +kernel) rfl rfl (Nat.le_of_ble_eq_true rfl) dX2_remember_30 (fun H locs hP _ hS => ?_)
      have hP : va_P D vwCl [(r_, .inr (2, [.ref ra, .ref rb, .ref rd, .int (nI ct), .int (nI pb), .int (nI bw), .int (nI rc), .int (nI to), .int (nI la), .int (nI la), .int (nI th)]))] H := hP
      refine lv_aload_n hx hb dX2_remember_33 rfl (lv_at hl 0 rfl) ?_
      refine lv_iload_n hx hb dX2_remember_34 rfl (lv_at hl 1 rfl) ?_
      refine va_put (D := D) (ci := 2) (v := .int (nI d_)) (ty := .int) (C := RX2) (T := TX2) (N := 11) hx hb hts ziX2_remember_2 tyX2 tyX2_ok nmX2 hown hK hP (zk_D hD rfl) hS 0 rfl rfl 8 (by decide) f34 (fun _ h9 => h9) rfl (by decide +kernel) rfl rfl (Nat.le_of_ble_eq_true rfl) dX2_remember_35 (fun H locs hP _ hS => ?_)
      have hP : va_P D vwCl [(r_, .inr (2, [.ref ra, .ref rb, .ref rd, .int (nI ct), .int (nI pb), .int (nI bw), .int (nI rc), .int (nI to), .int (nI d_), .int (nI la), .int (nI th)]))] H := hP
      exact hret _ ls _ _ (d_, la, th) dX2_remember_38 (by rw [zr_rem, if_neg c_1, if_pos c_2]) hP hS
    · skip
      refine lv_aload_n hx hb dX2_remember_17 rfl (lv_at hl 0 rfl) ?_
      refine lv_aload_n hx hb dX2_remember_18 rfl (lv_at hl 0 rfl) ?_
      refine va_get (D := D) (ci := 2) (v := .int (nI se)) (C := RX2) (T := TX2) (N := 11) hx hb hts ziX2_remember_2 hown hK hP 0 rfl rfl 9 (by decide) f37 (fun _ h9 => h9) rfl dX2_remember_19 ?_
      refine va_put (D := D) (ci := 2) (v := .int (nI se)) (ty := .int) (C := RX2) (T := TX2) (N := 11) hx hb hts ziX2_remember_2 tyX2 tyX2_ok nmX2 hown hK hP (zk_D hD rfl) hS 0 rfl rfl 10 (by decide) f40 (fun _ h9 => h9) rfl (by decide +kernel) rfl rfl (Nat.le_of_ble_eq_true rfl) dX2_remember_22 (fun H locs hP _ hS => ?_)
      have hP : va_P D vwCl [(r_, .inr (2, [.ref ra, .ref rb, .ref rd, .int (nI ct), .int (nI pb), .int (nI bw), .int (nI rc), .int (nI to), .int (nI la), .int (nI se), .int (nI se)]))] H := hP
      refine lv_aload_n hx hb dX2_remember_25 rfl (lv_at hl 0 rfl) ?_
      refine lv_aload_n hx hb dX2_remember_26 rfl (lv_at hl 0 rfl) ?_
      refine va_get (D := D) (ci := 2) (v := .int (nI la)) (C := RX2) (T := TX2) (N := 11) hx hb hts ziX2_remember_2 hown hK hP 0 rfl rfl 8 (by decide) f34 (fun _ h9 => h9) rfl dX2_remember_27 ?_
      refine va_put (D := D) (ci := 2) (v := .int (nI la)) (ty := .int) (C := RX2) (T := TX2) (N := 11) hx hb hts ziX2_remember_2 tyX2 tyX2_ok nmX2 hown hK hP (zk_D hD rfl) hS 0 rfl rfl 9 (by decide) f37 (fun _ h9 => h9) rfl (by decide +kernel) rfl rfl (Nat.le_of_ble_eq_true rfl) dX2_remember_30 (fun H locs hP _ hS => ?_)
      have hP : va_P D vwCl [(r_, .inr (2, [.ref ra, .ref rb, .ref rd, .int (nI ct), .int (nI pb), .int (nI bw), .int (nI rc), .int (nI to), .int (nI la), .int (nI la), .int (nI se)]))] H := hP
      refine lv_aload_n hx hb dX2_remember_33 rfl (lv_at hl 0 rfl) ?_
      refine lv_iload_n hx hb dX2_remember_34 rfl (lv_at hl 1 rfl) ?_
      refine va_put (D := D) (ci := 2) (v := .int (nI d_)) (ty := .int) (C := RX2) (T := TX2) (N := 11) hx hb hts ziX2_remember_2 tyX2 tyX2_ok nmX2 hown hK hP (zk_D hD rfl) hS 0 rfl rfl 8 (by decide) f34 (fun _ h9 => h9) rfl (by decide +kernel) rfl rfl (Nat.le_of_ble_eq_true rfl) dX2_remember_35 (fun H locs hP _ hS => ?_)
      have hP : va_P D vwCl [(r_, .inr (2, [.ref ra, .ref rb, .ref rd, .int (nI ct), .int (nI pb), .int (nI bw), .int (nI rc), .int (nI to), .int (nI d_), .int (nI la), .int (nI se)]))] H := hP
      exact hret _ ls _ _ (d_, la, se) dX2_remember_38 (by rw [zr_rem, if_neg c_1, if_neg c_2]) hP hS
  · skip
    exact hret _ ls _ _ (la, se, th) dX2_remember_8 (by rw [zr_rem, if_pos c_1]) hP hS
def rmX2_countMatch : Room := { frames := 1, cells := 0, slots := 0, locals := 22 }
set_option maxRecDepth 20000 in
theorem ziX2_countMatch_2 : ∀ w ∈ wsX20, w ∈ wsX2_countMatch := by decide +kernel
set_option maxHeartbeats 4000000 in
set_option maxRecDepth 100000 in
/-- Row.countMatch -/
theorem c_countMatch (l : Launch) (D : va_G) (cI cZ cR : ClassId) (r_ : Nat) (ra : Nat) (rb : Nat) (rd : Nat) (ct : Nat) (pb : Nat) (bw : Nat) (rc : Nat) (to : Nat) (la : Nat) (se : Nat) (th : Nat) (l_ : Nat) (d_ : Nat) (h0 : 2 ≤ l_) (h1 : l_ ≤ 300) (h2 : d_ ≤ 300) (h3 : la ≤ 300) (h4 : se ≤ 300) (h5 : th ≤ 300) : zk_Wv l yX2_countMatch wsX2_countMatch rmX2_countMatch D (zk_t cI cZ cR) [.ref r_, .int (nI l_), .int (nI d_)] [(r_, .inr (2, [.ref ra, .ref rb, .ref rd, .int (nI ct), .int (nI pb), .int (nI bw), .int (nI rc), .int (nI to), .int (nI la), .int (nI se), .int (nI th)]))] (fun u : Nat × Nat × Nat × Nat × Nat × Nat => match u with | (pb2, bw2, rc2, la2, se2, th2) => zr_cm l_ d_ pb bw rc la se th = (pb2, bw2, rc2, la2, se2, th2)) (fun u => match u with | (pb2, bw2, rc2, la2, se2, th2) => [(r_, .inr (2, [.ref ra, .ref rb, .ref rd, .int (nI ct), .int (nI pb2), .int (nI bw2), .int (nI rc2), .int (nI to), .int (nI la2), .int (nI se2), .int (nI th2)]))]) := by
  refine zk_enterV RX2 cX2_countMatch 5 (by decide) rfl rfl (Nat.le_of_ble_eq_true rfl) ?_
  intro p e s m args below meth c ls A Q hx hb hml hown hts hP hK hD hN hl hA hS hret
  have hl : lv_has ls 5 [(0, .ref r_), (1, .int (nI l_)), (2, .int (nI d_))] := hl
  have f25 := hts (.fieldLink RX2 25 "MatchFinders$Row" "plainBits" "I") (by decide +kernel)
  have f28 := hts (.fieldLink RX2 28 "MatchFinders$Row" "bitsWithRepeats" "I") (by decide +kernel)
  have f31 := hts (.fieldLink RX2 31 "MatchFinders$Row" "repeatCount" "I") (by decide +kernel)
  have f34 := hts (.fieldLink RX2 34 "MatchFinders$Row" "latest" "I") (by decide +kernel)
  have f37 := hts (.fieldLink RX2 37 "MatchFinders$Row" "second" "I") (by decide +kernel)
  have f40 := hts (.fieldLink RX2 40 "MatchFinders$Row" "third" "I") (by decide +kernel)
  refine lv_iload_n hx hb dX2_countMatch_0 rfl (lv_at hl 1 rfl) ?_
  refine lv_iconst (v := (nI 2)) hx hb dX2_countMatch_1 (by decide +kernel) ?_
  refine zk_sub (v := l_ - 2) hx hb (by omega) dX2_countMatch_2 ?_
  refine zk_rdSN (As := [.int (nI (l_ - 2))]) (rest := []) ⟨hx, hb, hml, hown, hts⟩ hN (c_gammaBits l D cI cZ cR (l_ - 2) (by omega)) ⟨va_cnB 1 hts gX2_countMatch_X4_gammaBits_n47 rfl rfl rfl hN.2.1 (hts (.initialized RX4) (by decide +kernel)) (by decide +kernel) ⟨Nat.le_of_ble_eq_true rfl, Nat.le_of_ble_eq_true rfl⟩, hts (.static yX4_gammaBits) (by decide +kernel), trivial⟩ hK hP (zk_D hD rfl) [] rfl (by decide) rfl hl.1 rfl (Nat.le_of_ble_eq_true rfl) dX2_countMatch_3 ⟨Nat.zero_le _, Nat.zero_le _⟩ ?_
  refine lv_istore_n (lv' := [(3, .int (nI (zr_G (l_ - 2)))), (0, .ref r_), (1, .int (nI l_)), (2, .int (nI d_))]) hx hb dX2_countMatch_6 rfl hl (by decide) rfl (fun ls hl => ?_)
  refine lv_iconst (v := (nI 2)) hx hb dX2_countMatch_7 (by decide +kernel) ?_
  refine lv_iload_n hx hb dX2_countMatch_8 rfl (lv_at hl 0 rfl) ?_
  refine zk_add (v := 2 + (zr_G (l_ - 2))) hx hb (rfl) dX2_countMatch_9 ?_
  refine lv_iload_n hx hb dX2_countMatch_10 rfl (lv_at hl 3 rfl) ?_
  refine zk_rdSN (As := [.int (nI d_)]) (rest := [.int (nI (2 + (zr_G (l_ - 2))))]) ⟨hx, hb, hml, hown, hts⟩ hN (c_gammaBits l D cI cZ cR d_ (by omega)) ⟨va_cnB 1 hts gX2_countMatch_X4_gammaBits_n47 rfl rfl rfl hN.2.1 (hts (.initialized RX4) (by decide +kernel)) (by decide +kernel) ⟨Nat.le_of_ble_eq_true rfl, Nat.le_of_ble_eq_true rfl⟩, hts (.static yX4_gammaBits) (by decide +kernel), trivial⟩ hK hP (zk_D hD rfl) [] rfl (by decide) rfl hl.1 rfl (Nat.le_of_ble_eq_true rfl) dX2_countMatch_11 ⟨Nat.zero_le _, Nat.zero_le _⟩ ?_
  refine zk_add (v := (2 + (zr_G (l_ - 2))) + (zr_G d_)) hx hb (rfl) dX2_countMatch_14 ?_
  refine lv_istore (lv' := [(4, .int (nI ((2 + (zr_G (l_ - 2))) + (zr_G d_)))), (3, .int (nI (zr_G (l_ - 2)))), (0, .ref r_), (1, .int (nI l_)), (2, .int (nI d_))]) hx hb dX2_countMatch_15 hl (by decide) rfl (fun ls hl => ?_)
  refine lv_aload_n hx hb dX2_countMatch_17 rfl (lv_at hl 2 rfl) ?_
  refine lv_dup hx hb dX2_countMatch_18 rfl ?_
  refine va_get (D := D) (ci := 2) (v := .int (nI pb)) (C := RX2) (T := TX2) (N := 11) hx hb hts ziX2_countMatch_2 hown hK hP 0 rfl rfl 4 (by decide) f25 (fun _ h9 => h9) rfl dX2_countMatch_19 ?_
  refine lv_iload hx hb dX2_countMatch_22 (lv_at hl 0 rfl) ?_
  refine zk_add (v := pb + ((2 + (zr_G (l_ - 2))) + (zr_G d_))) hx hb (rfl) dX2_countMatch_24 ?_
  refine va_put (D := D) (ci := 2) (v := .int (nI (pb + ((2 + (zr_G (l_ - 2))) + (zr_G d_))))) (ty := .int) (C := RX2) (T := TX2) (N := 11) hx hb hts ziX2_countMatch_2 tyX2 tyX2_ok nmX2 hown hK hP (zk_D hD rfl) hS 0 rfl rfl 4 (by decide) f25 (fun _ h9 => h9) rfl (by decide +kernel) rfl rfl (Nat.le_of_ble_eq_true rfl) dX2_countMatch_25 (fun H locs hP _ hS => ?_)
  have hP : va_P D vwCl [(r_, .inr (2, [.ref ra, .ref rb, .ref rd, .int (nI ct), .int (nI (pb + ((2 + (zr_G (l_ - 2))) + (zr_G d_)))), .int (nI bw), .int (nI rc), .int (nI to), .int (nI la), .int (nI se), .int (nI th)]))] H := hP
  refine lv_iload_n hx hb dX2_countMatch_28 rfl (lv_at hl 4 rfl) ?_
  refine lv_aload_n hx hb dX2_countMatch_29 rfl (lv_at hl 2 rfl) ?_
  refine va_get (D := D) (ci := 2) (v := .int (nI la)) (C := RX2) (T := TX2) (N := 11) hx hb hts ziX2_countMatch_2 hown hK hP 0 rfl rfl 8 (by decide) f34 (fun _ h9 => h9) rfl dX2_countMatch_30 ?_
  refine zk_icmp_eq (tgt := 52) hx hb (by omega) (by omega) dX2_countMatch_33 (by decide) (fun c_1 => ?_) (fun c_1 => ?_)
  · skip
    refine lv_aload_n hx hb dX2_countMatch_52 rfl (lv_at hl 2 rfl) ?_
    refine lv_dup hx hb dX2_countMatch_53 rfl ?_
    refine va_get (D := D) (ci := 2) (v := .int (nI rc)) (C := RX2) (T := TX2) (N := 11) hx hb hts ziX2_countMatch_2 hown hK hP 0 rfl rfl 6 (by decide) f31 (fun _ h9 => h9) rfl dX2_countMatch_54 ?_
    refine lv_iconst (v := (nI 1)) hx hb dX2_countMatch_57 (by decide +kernel) ?_
    refine zk_add (v := rc + 1) hx hb (rfl) dX2_countMatch_58 ?_
    refine va_put (D := D) (ci := 2) (v := .int (nI (rc + 1))) (ty := .int) (C := RX2) (T := TX2) (N := 11) hx hb hts ziX2_countMatch_2 tyX2 tyX2_ok nmX2 hown hK hP (zk_D hD rfl) hS 0 rfl rfl 6 (by decide) f31 (fun _ h9 => h9) rfl (by decide +kernel) rfl rfl (Nat.le_of_ble_eq_true rfl) dX2_countMatch_59 (fun H locs hP _ hS => ?_)
    have hP : va_P D vwCl [(r_, .inr (2, [.ref ra, .ref rb, .ref rd, .int (nI ct), .int (nI (pb + ((2 + (zr_G (l_ - 2))) + (zr_G d_)))), .int (nI bw), .int (nI (rc + 1)), .int (nI to), .int (nI la), .int (nI se), .int (nI th)]))] H := hP
    refine lv_aload_n hx hb dX2_countMatch_62 rfl (lv_at hl 2 rfl) ?_
    refine lv_dup hx hb dX2_countMatch_63 rfl ?_
    refine va_get (D := D) (ci := 2) (v := .int (nI bw)) (C := RX2) (T := TX2) (N := 11) hx hb hts ziX2_countMatch_2 hown hK hP 0 rfl rfl 5 (by decide) f28 (fun _ h9 => h9) rfl dX2_countMatch_64 ?_
    refine lv_iconst (v := (nI 4)) hx hb dX2_countMatch_67 (by decide +kernel) ?_
    refine lv_iload_n hx hb dX2_countMatch_68 rfl (lv_at hl 1 rfl) ?_
    refine zk_add (v := 4 + (zr_G (l_ - 2))) hx hb (rfl) dX2_countMatch_69 ?_
    refine zk_add (v := bw + (4 + (zr_G (l_ - 2)))) hx hb (rfl) dX2_countMatch_70 ?_
    refine va_put (D := D) (ci := 2) (v := .int (nI (bw + (4 + (zr_G (l_ - 2)))))) (ty := .int) (C := RX2) (T := TX2) (N := 11) hx hb hts ziX2_countMatch_2 tyX2 tyX2_ok nmX2 hown hK hP (zk_D hD rfl) hS 0 rfl rfl 5 (by decide) f28 (fun _ h9 => h9) rfl (by decide +kernel) rfl rfl (Nat.le_of_ble_eq_true rfl) dX2_countMatch_71 (fun H locs hP _ hS => ?_)
    have hP : va_P D vwCl [(r_, .inr (2, [.ref ra, .ref rb, .ref rd, .int (nI ct), .int (nI (pb + ((2 + (zr_G (l_ - 2))) + (zr_G d_)))), .int (nI (bw + (4 + (zr_G (l_ - 2))))), .int (nI (rc + 1)), .int (nI to), .int (nI la), .int (nI se), .int (nI th)]))] H := hP
    refine lv_goto (tgt := 88) hx hb dX2_countMatch_74 (by decide) ?_
    refine lv_aload_n hx hb dX2_countMatch_88 rfl (lv_at hl 2 rfl) ?_
    refine lv_iload_n hx hb dX2_countMatch_89 rfl (lv_at hl 4 rfl) ?_
    refine zk_wrV (As := [.int (nI d_)]) (rest := []) ⟨hx, hb, hml, hown, hts⟩ hN (c_remember l D cI cZ cR r_ ra rb rd ct (pb + ((2 + (zr_G (l_ - 2))) + (zr_G d_))) (bw + (4 + (zr_G (l_ - 2)))) (rc + 1) to la se th d_ (by omega) (by omega) (by omega) (by omega)) (cwV 1 hts gX2_countMatch_X2_remember rfl rfl rfl (by decide +kernel) ⟨Nat.le_of_ble_eq_true rfl, Nat.le_of_ble_eq_true rfl⟩) hK hP (zk_D hD rfl) hS hA [0] rfl (by decide) (fun _ => rfl) rfl rfl rfl rfl hl.1 rfl (Nat.le_of_ble_eq_true rfl) dX2_countMatch_90 ⟨Nat.zero_le _, Nat.zero_le _⟩ (fun u H locs hu hP hS => ?_)
    obtain ⟨la9, se9, th9⟩ := u
    have hu : zr_rem d_ la se th = (la9, se9, th9) := hu
    have hP : va_P D vwCl [(r_, .inr (2, [.ref ra, .ref rb, .ref rd, .int (nI ct), .int (nI (pb + ((2 + (zr_G (l_ - 2))) + (zr_G d_)))), .int (nI (bw + (4 + (zr_G (l_ - 2))))), .int (nI (rc + 1)), .int (nI to), .int (nI la9), .int (nI se9), .int (nI th9)]))] H := hP
    exact hret _ ls _ _ ((pb + ((2 + (zr_G (l_ - 2))) + (zr_G d_))), (bw + (4 + (zr_G (l_ - 2)))), (rc + 1), la9, se9, th9) dX2_countMatch_93 (by rw [zr_cm, if_pos (Or.inl c_1), hu]) hP hS
  · skip
    refine lv_iload_n hx hb dX2_countMatch_36 rfl (lv_at hl 4 rfl) ?_
    refine lv_aload_n hx hb dX2_countMatch_37 rfl (lv_at hl 2 rfl) ?_
    refine va_get (D := D) (ci := 2) (v := .int (nI se)) (C := RX2) (T := TX2) (N := 11) hx hb hts ziX2_countMatch_2 hown hK hP 0 rfl rfl 9 (by decide) f37 (fun _ h9 => h9) rfl dX2_countMatch_38 ?_
    refine zk_icmp_eq (tgt := 52) hx hb (by omega) (by omega) dX2_countMatch_41 (by decide) (fun c_2 => ?_) (fun c_2 => ?_)
    · skip
      refine lv_aload_n hx hb dX2_countMatch_52 rfl (lv_at hl 2 rfl) ?_
      refine lv_dup hx hb dX2_countMatch_53 rfl ?_
      refine va_get (D := D) (ci := 2) (v := .int (nI rc)) (C := RX2) (T := TX2) (N := 11) hx hb hts ziX2_countMatch_2 hown hK hP 0 rfl rfl 6 (by decide) f31 (fun _ h9 => h9) rfl dX2_countMatch_54 ?_
      refine lv_iconst (v := (nI 1)) hx hb dX2_countMatch_57 (by decide +kernel) ?_
      refine zk_add (v := rc + 1) hx hb (rfl) dX2_countMatch_58 ?_
      refine va_put (D := D) (ci := 2) (v := .int (nI (rc + 1))) (ty := .int) (C := RX2) (T := TX2) (N := 11) hx hb hts ziX2_countMatch_2 tyX2 tyX2_ok nmX2 hown hK hP (zk_D hD rfl) hS 0 rfl rfl 6 (by decide) f31 (fun _ h9 => h9) rfl (by decide +kernel) rfl rfl (Nat.le_of_ble_eq_true rfl) dX2_countMatch_59 (fun H locs hP _ hS => ?_)
      have hP : va_P D vwCl [(r_, .inr (2, [.ref ra, .ref rb, .ref rd, .int (nI ct), .int (nI (pb + ((2 + (zr_G (l_ - 2))) + (zr_G d_)))), .int (nI bw), .int (nI (rc + 1)), .int (nI to), .int (nI la), .int (nI se), .int (nI th)]))] H := hP
      refine lv_aload_n hx hb dX2_countMatch_62 rfl (lv_at hl 2 rfl) ?_
      refine lv_dup hx hb dX2_countMatch_63 rfl ?_
      refine va_get (D := D) (ci := 2) (v := .int (nI bw)) (C := RX2) (T := TX2) (N := 11) hx hb hts ziX2_countMatch_2 hown hK hP 0 rfl rfl 5 (by decide) f28 (fun _ h9 => h9) rfl dX2_countMatch_64 ?_
      refine lv_iconst (v := (nI 4)) hx hb dX2_countMatch_67 (by decide +kernel) ?_
      refine lv_iload_n hx hb dX2_countMatch_68 rfl (lv_at hl 1 rfl) ?_
      refine zk_add (v := 4 + (zr_G (l_ - 2))) hx hb (rfl) dX2_countMatch_69 ?_
      refine zk_add (v := bw + (4 + (zr_G (l_ - 2)))) hx hb (rfl) dX2_countMatch_70 ?_
      refine va_put (D := D) (ci := 2) (v := .int (nI (bw + (4 + (zr_G (l_ - 2)))))) (ty := .int) (C := RX2) (T := TX2) (N := 11) hx hb hts ziX2_countMatch_2 tyX2 tyX2_ok nmX2 hown hK hP (zk_D hD rfl) hS 0 rfl rfl 5 (by decide) f28 (fun _ h9 => h9) rfl (by decide +kernel) rfl rfl (Nat.le_of_ble_eq_true rfl) dX2_countMatch_71 (fun H locs hP _ hS => ?_)
      have hP : va_P D vwCl [(r_, .inr (2, [.ref ra, .ref rb, .ref rd, .int (nI ct), .int (nI (pb + ((2 + (zr_G (l_ - 2))) + (zr_G d_)))), .int (nI (bw + (4 + (zr_G (l_ - 2))))), .int (nI (rc + 1)), .int (nI to), .int (nI la), .int (nI se), .int (nI th)]))] H := hP
      refine lv_goto (tgt := 88) hx hb dX2_countMatch_74 (by decide) ?_
      refine lv_aload_n hx hb dX2_countMatch_88 rfl (lv_at hl 2 rfl) ?_
      refine lv_iload_n hx hb dX2_countMatch_89 rfl (lv_at hl 4 rfl) ?_
      refine zk_wrV (As := [.int (nI d_)]) (rest := []) ⟨hx, hb, hml, hown, hts⟩ hN (c_remember l D cI cZ cR r_ ra rb rd ct (pb + ((2 + (zr_G (l_ - 2))) + (zr_G d_))) (bw + (4 + (zr_G (l_ - 2)))) (rc + 1) to la se th d_ (by omega) (by omega) (by omega) (by omega)) (cwV 1 hts gX2_countMatch_X2_remember rfl rfl rfl (by decide +kernel) ⟨Nat.le_of_ble_eq_true rfl, Nat.le_of_ble_eq_true rfl⟩) hK hP (zk_D hD rfl) hS hA [0] rfl (by decide) (fun _ => rfl) rfl rfl rfl rfl hl.1 rfl (Nat.le_of_ble_eq_true rfl) dX2_countMatch_90 ⟨Nat.zero_le _, Nat.zero_le _⟩ (fun u H locs hu hP hS => ?_)
      obtain ⟨la9, se9, th9⟩ := u
      have hu : zr_rem d_ la se th = (la9, se9, th9) := hu
      have hP : va_P D vwCl [(r_, .inr (2, [.ref ra, .ref rb, .ref rd, .int (nI ct), .int (nI (pb + ((2 + (zr_G (l_ - 2))) + (zr_G d_)))), .int (nI (bw + (4 + (zr_G (l_ - 2))))), .int (nI (rc + 1)), .int (nI to), .int (nI la9), .int (nI se9), .int (nI th9)]))] H := hP
      exact hret _ ls _ _ ((pb + ((2 + (zr_G (l_ - 2))) + (zr_G d_))), (bw + (4 + (zr_G (l_ - 2)))), (rc + 1), la9, se9, th9) dX2_countMatch_93 (by rw [zr_cm, if_pos (Or.inr (Or.inl c_2)), hu]) hP hS
    · skip
      refine lv_iload_n hx hb dX2_countMatch_44 rfl (lv_at hl 4 rfl) ?_
      refine lv_aload_n hx hb dX2_countMatch_45 rfl (lv_at hl 2 rfl) ?_
      refine va_get (D := D) (ci := 2) (v := .int (nI th)) (C := RX2) (T := TX2) (N := 11) hx hb hts ziX2_countMatch_2 hown hK hP 0 rfl rfl 10 (by decide) f40 (fun _ h9 => h9) rfl dX2_countMatch_46 ?_
      refine zk_icmp_ne (tgt := 77) hx hb (by omega) (by omega) dX2_countMatch_49 (by decide) (fun c_3 => ?_) (fun c_3 => ?_)
      · skip
        refine lv_aload_n hx hb dX2_countMatch_77 rfl (lv_at hl 2 rfl) ?_
        refine lv_dup hx hb dX2_countMatch_78 rfl ?_
        refine va_get (D := D) (ci := 2) (v := .int (nI bw)) (C := RX2) (T := TX2) (N := 11) hx hb hts ziX2_countMatch_2 hown hK hP 0 rfl rfl 5 (by decide) f28 (fun _ h9 => h9) rfl dX2_countMatch_79 ?_
        refine lv_iload hx hb dX2_countMatch_82 (lv_at hl 0 rfl) ?_
        refine zk_add (v := bw + ((2 + (zr_G (l_ - 2))) + (zr_G d_))) hx hb (rfl) dX2_countMatch_84 ?_
        refine va_put (D := D) (ci := 2) (v := .int (nI (bw + ((2 + (zr_G (l_ - 2))) + (zr_G d_))))) (ty := .int) (C := RX2) (T := TX2) (N := 11) hx hb hts ziX2_countMatch_2 tyX2 tyX2_ok nmX2 hown hK hP (zk_D hD rfl) hS 0 rfl rfl 5 (by decide) f28 (fun _ h9 => h9) rfl (by decide +kernel) rfl rfl (Nat.le_of_ble_eq_true rfl) dX2_countMatch_85 (fun H locs hP _ hS => ?_)
        have hP : va_P D vwCl [(r_, .inr (2, [.ref ra, .ref rb, .ref rd, .int (nI ct), .int (nI (pb + ((2 + (zr_G (l_ - 2))) + (zr_G d_)))), .int (nI (bw + ((2 + (zr_G (l_ - 2))) + (zr_G d_)))), .int (nI rc), .int (nI to), .int (nI la), .int (nI se), .int (nI th)]))] H := hP
        refine lv_aload_n hx hb dX2_countMatch_88 rfl (lv_at hl 2 rfl) ?_
        refine lv_iload_n hx hb dX2_countMatch_89 rfl (lv_at hl 4 rfl) ?_
        refine zk_wrV (As := [.int (nI d_)]) (rest := []) ⟨hx, hb, hml, hown, hts⟩ hN (c_remember l D cI cZ cR r_ ra rb rd ct (pb + ((2 + (zr_G (l_ - 2))) + (zr_G d_))) (bw + ((2 + (zr_G (l_ - 2))) + (zr_G d_))) rc to la se th d_ (by omega) (by omega) (by omega) (by omega)) (cwV 1 hts gX2_countMatch_X2_remember rfl rfl rfl (by decide +kernel) ⟨Nat.le_of_ble_eq_true rfl, Nat.le_of_ble_eq_true rfl⟩) hK hP (zk_D hD rfl) hS hA [0] rfl (by decide) (fun _ => rfl) rfl rfl rfl rfl hl.1 rfl (Nat.le_of_ble_eq_true rfl) dX2_countMatch_90 ⟨Nat.zero_le _, Nat.zero_le _⟩ (fun u H locs hu hP hS => ?_)
        obtain ⟨la9, se9, th9⟩ := u
        have hu : zr_rem d_ la se th = (la9, se9, th9) := hu
        have hP : va_P D vwCl [(r_, .inr (2, [.ref ra, .ref rb, .ref rd, .int (nI ct), .int (nI (pb + ((2 + (zr_G (l_ - 2))) + (zr_G d_)))), .int (nI (bw + ((2 + (zr_G (l_ - 2))) + (zr_G d_)))), .int (nI rc), .int (nI to), .int (nI la9), .int (nI se9), .int (nI th9)]))] H := hP
        exact hret _ ls _ _ ((pb + ((2 + (zr_G (l_ - 2))) + (zr_G d_))), (bw + ((2 + (zr_G (l_ - 2))) + (zr_G d_))), rc, la9, se9, th9) dX2_countMatch_93 (by rw [zr_cm, if_neg (by omega), hu]) hP hS
      · skip
        refine lv_aload_n hx hb dX2_countMatch_52 rfl (lv_at hl 2 rfl) ?_
        refine lv_dup hx hb dX2_countMatch_53 rfl ?_
        refine va_get (D := D) (ci := 2) (v := .int (nI rc)) (C := RX2) (T := TX2) (N := 11) hx hb hts ziX2_countMatch_2 hown hK hP 0 rfl rfl 6 (by decide) f31 (fun _ h9 => h9) rfl dX2_countMatch_54 ?_
        refine lv_iconst (v := (nI 1)) hx hb dX2_countMatch_57 (by decide +kernel) ?_
        refine zk_add (v := rc + 1) hx hb (rfl) dX2_countMatch_58 ?_
        refine va_put (D := D) (ci := 2) (v := .int (nI (rc + 1))) (ty := .int) (C := RX2) (T := TX2) (N := 11) hx hb hts ziX2_countMatch_2 tyX2 tyX2_ok nmX2 hown hK hP (zk_D hD rfl) hS 0 rfl rfl 6 (by decide) f31 (fun _ h9 => h9) rfl (by decide +kernel) rfl rfl (Nat.le_of_ble_eq_true rfl) dX2_countMatch_59 (fun H locs hP _ hS => ?_)
        have hP : va_P D vwCl [(r_, .inr (2, [.ref ra, .ref rb, .ref rd, .int (nI ct), .int (nI (pb + ((2 + (zr_G (l_ - 2))) + (zr_G d_)))), .int (nI bw), .int (nI (rc + 1)), .int (nI to), .int (nI la), .int (nI se), .int (nI th)]))] H := hP
        refine lv_aload_n hx hb dX2_countMatch_62 rfl (lv_at hl 2 rfl) ?_
        refine lv_dup hx hb dX2_countMatch_63 rfl ?_
        refine va_get (D := D) (ci := 2) (v := .int (nI bw)) (C := RX2) (T := TX2) (N := 11) hx hb hts ziX2_countMatch_2 hown hK hP 0 rfl rfl 5 (by decide) f28 (fun _ h9 => h9) rfl dX2_countMatch_64 ?_
        refine lv_iconst (v := (nI 4)) hx hb dX2_countMatch_67 (by decide +kernel) ?_
        refine lv_iload_n hx hb dX2_countMatch_68 rfl (lv_at hl 1 rfl) ?_
        refine zk_add (v := 4 + (zr_G (l_ - 2))) hx hb (rfl) dX2_countMatch_69 ?_
        refine zk_add (v := bw + (4 + (zr_G (l_ - 2)))) hx hb (rfl) dX2_countMatch_70 ?_
        refine va_put (D := D) (ci := 2) (v := .int (nI (bw + (4 + (zr_G (l_ - 2)))))) (ty := .int) (C := RX2) (T := TX2) (N := 11) hx hb hts ziX2_countMatch_2 tyX2 tyX2_ok nmX2 hown hK hP (zk_D hD rfl) hS 0 rfl rfl 5 (by decide) f28 (fun _ h9 => h9) rfl (by decide +kernel) rfl rfl (Nat.le_of_ble_eq_true rfl) dX2_countMatch_71 (fun H locs hP _ hS => ?_)
        have hP : va_P D vwCl [(r_, .inr (2, [.ref ra, .ref rb, .ref rd, .int (nI ct), .int (nI (pb + ((2 + (zr_G (l_ - 2))) + (zr_G d_)))), .int (nI (bw + (4 + (zr_G (l_ - 2))))), .int (nI (rc + 1)), .int (nI to), .int (nI la), .int (nI se), .int (nI th)]))] H := hP
        refine lv_goto (tgt := 88) hx hb dX2_countMatch_74 (by decide) ?_
        refine lv_aload_n hx hb dX2_countMatch_88 rfl (lv_at hl 2 rfl) ?_
        refine lv_iload_n hx hb dX2_countMatch_89 rfl (lv_at hl 4 rfl) ?_
        refine zk_wrV (As := [.int (nI d_)]) (rest := []) ⟨hx, hb, hml, hown, hts⟩ hN (c_remember l D cI cZ cR r_ ra rb rd ct (pb + ((2 + (zr_G (l_ - 2))) + (zr_G d_))) (bw + (4 + (zr_G (l_ - 2)))) (rc + 1) to la se th d_ (by omega) (by omega) (by omega) (by omega)) (cwV 1 hts gX2_countMatch_X2_remember rfl rfl rfl (by decide +kernel) ⟨Nat.le_of_ble_eq_true rfl, Nat.le_of_ble_eq_true rfl⟩) hK hP (zk_D hD rfl) hS hA [0] rfl (by decide) (fun _ => rfl) rfl rfl rfl rfl hl.1 rfl (Nat.le_of_ble_eq_true rfl) dX2_countMatch_90 ⟨Nat.zero_le _, Nat.zero_le _⟩ (fun u H locs hu hP hS => ?_)
        obtain ⟨la9, se9, th9⟩ := u
        have hu : zr_rem d_ la se th = (la9, se9, th9) := hu
        have hP : va_P D vwCl [(r_, .inr (2, [.ref ra, .ref rb, .ref rd, .int (nI ct), .int (nI (pb + ((2 + (zr_G (l_ - 2))) + (zr_G d_)))), .int (nI (bw + (4 + (zr_G (l_ - 2))))), .int (nI (rc + 1)), .int (nI to), .int (nI la9), .int (nI se9), .int (nI th9)]))] H := hP
        exact hret _ ls _ _ ((pb + ((2 + (zr_G (l_ - 2))) + (zr_G d_))), (bw + (4 + (zr_G (l_ - 2)))), (rc + 1), la9, se9, th9) dX2_countMatch_93 (by rw [zr_cm, if_pos (Or.inr (Or.inr c_3)), hu]) hP hS
def rmX2_put : Room := { frames := 2, cells := 0, slots := 0, locals := 46 }
set_option maxRecDepth 20000 in
theorem ziX2_put_2 : ∀ w ∈ wsX20, w ∈ wsX2_put := by decide +kernel
set_option maxHeartbeats 4000000 in
set_option maxRecDepth 100000 in
/-- Row.put -/
theorem c_rput (l : Launch) (D : va_G) (cI cZ cR : ClassId) (r_ : Nat) (ra : Nat) (rb : Nat) (rd : Nat) (ct : Nat) (pb : Nat) (bw : Nat) (rc : Nat) (to : Nat) (la : Nat) (se : Nat) (th : Nat) (pl : Nat → Nat) (ln : Nat → Nat) (ds : Nat → Nat) (p_ : Nat) (l_ : Nat) (d_ : Nat) (h0 : ct < 300) (h1 : d_ = 0 ∨ 2 ≤ l_) (h2 : l_ ≤ 300) (h3 : d_ ≤ 300) (h4 : la ≤ 300) (h5 : se ≤ 300) (h6 : th ≤ 300) : zk_Wv l yX2_put wsX2_put rmX2_put D (zk_t cI cZ cR) [.ref r_, .int (nI p_), .int (nI l_), .int (nI d_)] [(r_, .inr (2, [.ref ra, .ref rb, .ref rd, .int (nI ct), .int (nI pb), .int (nI bw), .int (nI rc), .int (nI to), .int (nI la), .int (nI se), .int (nI th)])), (ra, zk_a cI 300 pl), (rb, zk_a cI 300 ln), (rd, zk_a cI 300 ds)] (fun u : Nat × Nat × Nat × Nat × Nat × Nat => match u with | (pb2, bw2, rc2, la2, se2, th2) => zr_pc l_ d_ pb bw rc la se th = (pb2, bw2, rc2, la2, se2, th2)) (fun u => match u with | (pb2, bw2, rc2, la2, se2, th2) => [(r_, .inr (2, [.ref ra, .ref rb, .ref rd, .int (nI (ct + 1)), .int (nI pb2), .int (nI bw2), .int (nI rc2), .int (nI to), .int (nI la2), .int (nI se2), .int (nI th2)])), (ra, zk_a cI 300 (zk_up pl ct p_)), (rb, zk_a cI 300 (zk_up ln ct l_)), (rd, zk_a cI 300 (zk_up ds ct d_))]) := by
  refine zk_enterV RX2 cX2_put 4 (by decide) rfl rfl (Nat.le_of_ble_eq_true rfl) ?_
  intro p e s m args below meth c ls A Q hx hb hml hown hts hP hK hD hN hl hA hS hret
  have hl : lv_has ls 4 [(0, .ref r_), (1, .int (nI p_)), (2, .int (nI l_)), (3, .int (nI d_))] := hl
  have f9 := hts (.fieldLink RX2 9 "MatchFinders$Row" "places" "[I") (by decide +kernel)
  have f15 := hts (.fieldLink RX2 15 "MatchFinders$Row" "lengths" "[I") (by decide +kernel)
  have f18 := hts (.fieldLink RX2 18 "MatchFinders$Row" "distances" "[I") (by decide +kernel)
  have f21 := hts (.fieldLink RX2 21 "MatchFinders$Row" "count" "I") (by decide +kernel)
  have f25 := hts (.fieldLink RX2 25 "MatchFinders$Row" "plainBits" "I") (by decide +kernel)
  have f28 := hts (.fieldLink RX2 28 "MatchFinders$Row" "bitsWithRepeats" "I") (by decide +kernel)
  refine lv_aload_n hx hb dX2_put_0 rfl (lv_at hl 0 rfl) ?_
  refine va_get (D := D) (ci := 2) (v := .int (nI ct)) (C := RX2) (T := TX2) (N := 11) hx hb hts ziX2_put_2 hown hK hP 0 rfl rfl 3 (by decide) f21 (fun _ h9 => h9) rfl dX2_put_1 ?_
  refine lv_sipush (v := (nI 300)) hx hb dX2_put_4 (by decide +kernel) ?_
  refine zk_icmp_lt (tgt := 11) hx hb (by omega) (by omega) dX2_put_7 (by decide) (fun c_1 => ?_) (fun c_1 => absurd c_1 (by omega))
  refine lv_aload_n hx hb dX2_put_11 rfl (lv_at hl 0 rfl) ?_
  refine va_get (D := D) (ci := 2) (v := .ref ra) (C := RX2) (T := TX2) (N := 11) hx hb hts ziX2_put_2 hown hK hP 0 rfl rfl 0 (by decide) f9 (fun _ h9 => h9) rfl dX2_put_12 ?_
  refine lv_aload_n hx hb dX2_put_15 rfl (lv_at hl 0 rfl) ?_
  refine va_get (D := D) (ci := 2) (v := .int (nI ct)) (C := RX2) (T := TX2) (N := 11) hx hb hts ziX2_put_2 hown hK hP 0 rfl rfl 3 (by decide) f21 (fun _ h9 => h9) rfl dX2_put_16 ?_
  refine lv_iload_n hx hb dX2_put_19 rfl (lv_at hl 1 rfl) ?_
  refine zk_ist (i := ct) (x := p_) (g := pl) hx hb hK hP (zk_D hD rfl) hS 1 0 rfl rfl (by omega) (by decide) dX2_put_20 (fun H locs hP hS => ?_)
  have hP : va_P D vwCl [(r_, .inr (2, [.ref ra, .ref rb, .ref rd, .int (nI ct), .int (nI pb), .int (nI bw), .int (nI rc), .int (nI to), .int (nI la), .int (nI se), .int (nI th)])), (ra, zk_a cI 300 (zk_up pl ct p_)), (rb, zk_a cI 300 ln), (rd, zk_a cI 300 ds)] H := hP
  refine lv_aload_n hx hb dX2_put_21 rfl (lv_at hl 0 rfl) ?_
  refine va_get (D := D) (ci := 2) (v := .ref rb) (C := RX2) (T := TX2) (N := 11) hx hb hts ziX2_put_2 hown hK hP 0 rfl rfl 1 (by decide) f15 (fun _ h9 => h9) rfl dX2_put_22 ?_
  refine lv_aload_n hx hb dX2_put_25 rfl (lv_at hl 0 rfl) ?_
  refine va_get (D := D) (ci := 2) (v := .int (nI ct)) (C := RX2) (T := TX2) (N := 11) hx hb hts ziX2_put_2 hown hK hP 0 rfl rfl 3 (by decide) f21 (fun _ h9 => h9) rfl dX2_put_26 ?_
  refine lv_iload_n hx hb dX2_put_29 rfl (lv_at hl 2 rfl) ?_
  refine zk_ist (i := ct) (x := l_) (g := ln) hx hb hK hP (zk_D hD rfl) hS 2 0 rfl rfl (by omega) (by decide) dX2_put_30 (fun H locs hP hS => ?_)
  have hP : va_P D vwCl [(r_, .inr (2, [.ref ra, .ref rb, .ref rd, .int (nI ct), .int (nI pb), .int (nI bw), .int (nI rc), .int (nI to), .int (nI la), .int (nI se), .int (nI th)])), (ra, zk_a cI 300 (zk_up pl ct p_)), (rb, zk_a cI 300 (zk_up ln ct l_)), (rd, zk_a cI 300 ds)] H := hP
  refine lv_aload_n hx hb dX2_put_31 rfl (lv_at hl 0 rfl) ?_
  refine va_get (D := D) (ci := 2) (v := .ref rd) (C := RX2) (T := TX2) (N := 11) hx hb hts ziX2_put_2 hown hK hP 0 rfl rfl 2 (by decide) f18 (fun _ h9 => h9) rfl dX2_put_32 ?_
  refine lv_aload_n hx hb dX2_put_35 rfl (lv_at hl 0 rfl) ?_
  refine va_get (D := D) (ci := 2) (v := .int (nI ct)) (C := RX2) (T := TX2) (N := 11) hx hb hts ziX2_put_2 hown hK hP 0 rfl rfl 3 (by decide) f21 (fun _ h9 => h9) rfl dX2_put_36 ?_
  refine lv_iload_n hx hb dX2_put_39 rfl (lv_at hl 3 rfl) ?_
  refine zk_ist (i := ct) (x := d_) (g := ds) hx hb hK hP (zk_D hD rfl) hS 3 0 rfl rfl (by omega) (by decide) dX2_put_40 (fun H locs hP hS => ?_)
  have hP : va_P D vwCl [(r_, .inr (2, [.ref ra, .ref rb, .ref rd, .int (nI ct), .int (nI pb), .int (nI bw), .int (nI rc), .int (nI to), .int (nI la), .int (nI se), .int (nI th)])), (ra, zk_a cI 300 (zk_up pl ct p_)), (rb, zk_a cI 300 (zk_up ln ct l_)), (rd, zk_a cI 300 (zk_up ds ct d_))] H := hP
  refine lv_aload_n hx hb dX2_put_41 rfl (lv_at hl 0 rfl) ?_
  refine lv_dup hx hb dX2_put_42 rfl ?_
  refine va_get (D := D) (ci := 2) (v := .int (nI ct)) (C := RX2) (T := TX2) (N := 11) hx hb hts ziX2_put_2 hown hK hP 0 rfl rfl 3 (by decide) f21 (fun _ h9 => h9) rfl dX2_put_43 ?_
  refine lv_iconst (v := (nI 1)) hx hb dX2_put_46 (by decide +kernel) ?_
  refine zk_add (v := ct + 1) hx hb (rfl) dX2_put_47 ?_
  refine va_put (D := D) (ci := 2) (v := .int (nI (ct + 1))) (ty := .int) (C := RX2) (T := TX2) (N := 11) hx hb hts ziX2_put_2 tyX2 tyX2_ok nmX2 hown hK hP (zk_D hD rfl) hS 0 rfl rfl 3 (by decide) f21 (fun _ h9 => h9) rfl (by decide +kernel) rfl rfl (Nat.le_of_ble_eq_true rfl) dX2_put_48 (fun H locs hP _ hS => ?_)
  have hP : va_P D vwCl [(r_, .inr (2, [.ref ra, .ref rb, .ref rd, .int (nI (ct + 1)), .int (nI pb), .int (nI bw), .int (nI rc), .int (nI to), .int (nI la), .int (nI se), .int (nI th)])), (ra, zk_a cI 300 (zk_up pl ct p_)), (rb, zk_a cI 300 (zk_up ln ct l_)), (rd, zk_a cI 300 (zk_up ds ct d_))] H := hP
  refine lv_iload_n hx hb dX2_put_51 rfl (lv_at hl 3 rfl) ?_
  refine zk_if_ne (tgt := 80) hx hb (by omega) dX2_put_52 (by decide) (fun c_2 => ?_) (fun c_2 => ?_)
  · skip
    refine lv_aload_n hx hb dX2_put_80 rfl (lv_at hl 0 rfl) ?_
    refine lv_iload_n hx hb dX2_put_81 rfl (lv_at hl 2 rfl) ?_
    refine lv_iload_n hx hb dX2_put_82 rfl (lv_at hl 3 rfl) ?_
    refine zk_wrV (As := [.int (nI l_), .int (nI d_)]) (rest := []) ⟨hx, hb, hml, hown, hts⟩ hN (c_countMatch l D cI cZ cR r_ ra rb rd (ct + 1) pb bw rc to la se th l_ d_ (by omega) (by omega) (by omega) (by omega) (by omega) (by omega)) (cwV 2 hts gX2_put_X2_countMatch rfl rfl rfl (by decide +kernel) ⟨Nat.le_of_ble_eq_true rfl, Nat.le_of_ble_eq_true rfl⟩) hK hP (zk_D hD rfl) hS hA [0] rfl (by decide) (fun _ => rfl) rfl rfl rfl rfl hl.1 rfl (Nat.le_of_ble_eq_true rfl) dX2_put_83 ⟨Nat.zero_le _, Nat.zero_le _⟩ (fun u H locs hu hP hS => ?_)
    obtain ⟨pb9, bw9, rc9, la9, se9, th9⟩ := u
    have hu : zr_cm l_ d_ pb bw rc la se th = (pb9, bw9, rc9, la9, se9, th9) := hu
    have hP : va_P D vwCl [(r_, .inr (2, [.ref ra, .ref rb, .ref rd, .int (nI (ct + 1)), .int (nI pb9), .int (nI bw9), .int (nI rc9), .int (nI to), .int (nI la9), .int (nI se9), .int (nI th9)])), (ra, zk_a cI 300 (zk_up pl ct p_)), (rb, zk_a cI 300 (zk_up ln ct l_)), (rd, zk_a cI 300 (zk_up ds ct d_))] H := hP
    exact hret _ ls _ _ (pb9, bw9, rc9, la9, se9, th9) dX2_put_86 (by rw [zr_pc, if_neg (by omega)]; exact hu) hP hS
  · skip
    refine lv_aload_n hx hb dX2_put_55 rfl (lv_at hl 0 rfl) ?_
    refine lv_dup hx hb dX2_put_56 rfl ?_
    refine va_get (D := D) (ci := 2) (v := .int (nI pb)) (C := RX2) (T := TX2) (N := 11) hx hb hts ziX2_put_2 hown hK hP 0 rfl rfl 4 (by decide) f25 (fun _ h9 => h9) rfl dX2_put_57 ?_
    refine lv_bipush (v := (nI 9)) hx hb dX2_put_60 (by decide +kernel) ?_
    refine zk_add (v := pb + 9) hx hb (rfl) dX2_put_62 ?_
    refine va_put (D := D) (ci := 2) (v := .int (nI (pb + 9))) (ty := .int) (C := RX2) (T := TX2) (N := 11) hx hb hts ziX2_put_2 tyX2 tyX2_ok nmX2 hown hK hP (zk_D hD rfl) hS 0 rfl rfl 4 (by decide) f25 (fun _ h9 => h9) rfl (by decide +kernel) rfl rfl (Nat.le_of_ble_eq_true rfl) dX2_put_63 (fun H locs hP _ hS => ?_)
    have hP : va_P D vwCl [(r_, .inr (2, [.ref ra, .ref rb, .ref rd, .int (nI (ct + 1)), .int (nI (pb + 9)), .int (nI bw), .int (nI rc), .int (nI to), .int (nI la), .int (nI se), .int (nI th)])), (ra, zk_a cI 300 (zk_up pl ct p_)), (rb, zk_a cI 300 (zk_up ln ct l_)), (rd, zk_a cI 300 (zk_up ds ct d_))] H := hP
    refine lv_aload_n hx hb dX2_put_66 rfl (lv_at hl 0 rfl) ?_
    refine lv_dup hx hb dX2_put_67 rfl ?_
    refine va_get (D := D) (ci := 2) (v := .int (nI bw)) (C := RX2) (T := TX2) (N := 11) hx hb hts ziX2_put_2 hown hK hP 0 rfl rfl 5 (by decide) f28 (fun _ h9 => h9) rfl dX2_put_68 ?_
    refine lv_bipush (v := (nI 9)) hx hb dX2_put_71 (by decide +kernel) ?_
    refine zk_add (v := bw + 9) hx hb (rfl) dX2_put_73 ?_
    refine va_put (D := D) (ci := 2) (v := .int (nI (bw + 9))) (ty := .int) (C := RX2) (T := TX2) (N := 11) hx hb hts ziX2_put_2 tyX2 tyX2_ok nmX2 hown hK hP (zk_D hD rfl) hS 0 rfl rfl 5 (by decide) f28 (fun _ h9 => h9) rfl (by decide +kernel) rfl rfl (Nat.le_of_ble_eq_true rfl) dX2_put_74 (fun H locs hP _ hS => ?_)
    have hP : va_P D vwCl [(r_, .inr (2, [.ref ra, .ref rb, .ref rd, .int (nI (ct + 1)), .int (nI (pb + 9)), .int (nI (bw + 9)), .int (nI rc), .int (nI to), .int (nI la), .int (nI se), .int (nI th)])), (ra, zk_a cI 300 (zk_up pl ct p_)), (rb, zk_a cI 300 (zk_up ln ct l_)), (rd, zk_a cI 300 (zk_up ds ct d_))] H := hP
    refine lv_goto (tgt := 86) hx hb dX2_put_77 (by decide) ?_
    exact hret _ ls _ _ (pb + 9, bw + 9, rc, la, se, th) dX2_put_86 (by rw [zr_pc, if_pos c_2]) hP hS
end
section
/-! The fewest bits from a place on. -/
/-- the distance of the first pair that reaches so far; 0: none -/
def zr_ls : List (Nat × Nat) → Nat → Nat
  | [], _ => 0
  | x :: F, l => if l ≤ x.1 then x.2 else zr_ls F l
theorem zr_ls_at : ∀ (F : List (Nat × Nat)) (l k : Nat) (x : Nat × Nat), F[k]? = some x → l ≤ x.1 → (∀ j, j < k → ∀ y, F[j]? = some y → y.1 < l) → zr_ls F l = x.2
  | [], l, k, x, h, _, _ => by simp at h
  | a :: F, l, 0, x, h, h1, _ => by
    rw [List.getElem?_cons_zero] at h
    cases h
    rw [zr_ls, if_pos h1]
  | a :: F, l, k + 1, x, h, h1, h2 => by
    rw [List.getElem?_cons_succ] at h
    have h3 := h2 0 (by omega) a (List.getElem?_cons_zero ..)
    rw [zr_ls, if_neg (by omega)]
    exact zr_ls_at F l k x h h1 (fun j hj y hy => h2 (j + 1) (by omega) y (by rw [List.getElem?_cons_succ]; exact hy))
theorem zr_ls_no : ∀ (F : List (Nat × Nat)) (l : Nat), (∀ x, x ∈ F → x.1 < l) → zr_ls F l = 0
  | [], _, _ => rfl
  | a :: F, l, h => by
    have h1 := h a List.mem_cons_self
    rw [zr_ls, if_neg (by omega)]
    exact zr_ls_no F l (fun x hx => h x (List.mem_cons_of_mem _ hx))
def zr_w (co : Nat → Nat) (p : Nat) (ls : Nat → Nat) : Nat → Nat → Nat → Nat → Nat → Nat × Nat × Nat
  | 0, _, cs, ln, ds => (cs, ln, ds)
  | n + 1, l, cs, ln, ds => if 0 < ls l then (if 2 + zr_G (ls l) + zr_G (l - 2) + co (p + l) ≤ cs then zr_w co p ls n (l + 1) (2 + zr_G (ls l) + zr_G (l - 2) + co (p + l)) l (ls l) else zr_w co p ls n (l + 1) cs ln ds) else zr_w co p ls n (l + 1) cs ln ds
theorem zr_w_no {co : Nat → Nat} {p : Nat} {ls : Nat → Nat} : ∀ (n l cs ln ds : Nat), (∀ i, l ≤ i → ls i = 0) → zr_w co p ls n l cs ln ds = (cs, ln, ds)
  | 0, _, _, _, _, _ => rfl
  | n + 1, l, cs, ln, ds, h => by
    rw [zr_w, if_neg (by rw [h l (Nat.le_refl _)]; omega)]
    exact zr_w_no n (l + 1) cs ln ds (fun i hi => h i (by omega))
theorem zr_w_up {co : Nat → Nat} {p : Nat} {ls : Nat → Nat} {n k l cs ln ds d c : Nat} (hd : ls l = d) (h0 : 0 < d) (hc : c = 2 + zr_G d + zr_G (l - 2) + co (p + l)) (h : c ≤ cs) (hn : n = k + 1) : zr_w co p ls n l cs ln ds = zr_w co p ls k (l + 1) c l d := by
  subst hn; subst hd; subst hc
  rw [zr_w, if_pos h0, if_pos h]
theorem zr_w_kp {co : Nat → Nat} {p : Nat} {ls : Nat → Nat} {n k l cs ln ds d c : Nat} (hd : ls l = d) (h0 : 0 < d) (hc : c = 2 + zr_G d + zr_G (l - 2) + co (p + l)) (h : cs < c) (hn : n = k + 1) : zr_w co p ls n l cs ln ds = zr_w co p ls k (l + 1) cs ln ds := by
  subst hn; subst hd; subst hc
  rw [zr_w, if_pos h0, if_neg (by omega)]
theorem zr_w_co {co co' : Nat → Nat} {p : Nat} {ls : Nat → Nat} (h : ∀ i, 1 ≤ i → co (p + i) = co' (p + i)) : ∀ (n l cs ln ds : Nat), 1 ≤ l → zr_w co p ls n l cs ln ds = zr_w co' p ls n l cs ln ds
  | 0, _, _, _, _, _ => rfl
  | n + 1, l, cs, ln, ds, hl => by
    rw [zr_w, zr_w, h l hl]
    rw [zr_w_co h n (l + 1) cs ln ds (by omega), zr_w_co h n (l + 1) _ _ _ (by omega)]
theorem zr_w_cs {co : Nat → Nat} {p : Nat} {ls : Nat → Nat} : ∀ (n l cs ln ds : Nat), (zr_w co p ls n l cs ln ds).1 ≤ cs
  | 0, _, cs, _, _ => Nat.le_refl cs
  | n + 1, l, cs, ln, ds => by
    unfold zr_w
    split
    · split
      · exact Nat.le_trans (zr_w_cs n _ _ _ _) (by assumption)
      · exact zr_w_cs n _ _ _ _
    · exact zr_w_cs n _ _ _ _
theorem zr_G_le : ∀ (n x : Nat), x ≤ n → zr_G x ≤ 2 * x + 1
  | 0, x, h => by rw [zr_G_1 (by omega)]; omega
  | n + 1, x, h => by
    by_cases h1 : 1 < x
    · rw [zr_G_s h1]
      have h2 := zr_G_le n (x / 2) (by omega)
      omega
    · rw [zr_G_1 (by omega)]; omega
theorem zr_Gb (x : Nat) : zr_G x ≤ 2 * x + 1 := zr_G_le x x (Nat.le_refl _)
theorem zk_up_self (g : Nat → Nat) (i : Nat) : zk_up g i (g i) = g := by
  funext j
  by_cases h : j = i
  · subst h; simp [zk_up]
  · simp [zk_up, h]
theorem zk_up_up (g : Nat → Nat) (i x y : Nat) : zk_up (zk_up g i x) i y = zk_up g i y := by
  funext j
  by_cases h : j = i
  · subst h; simp [zk_up]
  · simp [zk_up, h]
/-- from the end back: each place's bits, and its first piece -/
def zr_DP (Fp : Nat → List (Nat × Nat)) (sz lo : Nat) (co ln ds : Nat → Nat) : Prop := co sz = 0 ∧ ∀ p, lo ≤ p → p < sz → zr_w co p (zr_ls (Fp p)) 38 3 (9 + co (p + 1)) 1 0 = (co p, ln p, ds p)
theorem zr_DP_le {Fp : Nat → List (Nat × Nat)} {sz lo : Nat} {co ln ds : Nat → Nat} (h : zr_DP Fp sz lo co ln ds) : ∀ (n p : Nat), sz - p = n → lo ≤ p → p ≤ sz → co p ≤ 9 * n
  | 0, p, hn, _, h2 => by
    have h3 : p = sz := by omega
    subst h3
    rw [h.1]; omega
  | n + 1, p, hn, h1, h2 => by
    have h3 := zr_DP_le h n (p + 1) (by omega) (by omega) (by omega)
    have h4 := h.2 p h1 (by omega)
    have h5 := zr_w_cs (co := co) (p := p) (ls := zr_ls (Fp p)) 38 3 (9 + co (p + 1)) 1 0
    rw [h4] at h5
    have h6 : co p ≤ 9 + co (p + 1) := h5
    omega
theorem zr_DP_up {Fp : Nat → List (Nat × Nat)} {sz p : Nat} {co ln ds : Nat → Nat} {c l d : Nat} (h : zr_DP Fp sz (p + 1) co ln ds) (hp : p < sz) (hw : zr_w co p (zr_ls (Fp p)) 38 3 (9 + co (p + 1)) 1 0 = (c, l, d)) : zr_DP Fp sz p (zk_up co p c) (zk_up ln p l) (zk_up ds p d) := by
  have e : ∀ q i, p ≤ q → 1 ≤ i → zk_up co p c (q + i) = co (q + i) := fun q i h1 h2 => zk_up_ne (by omega)
  refine ⟨by rw [zk_up_ne (by omega)]; exact h.1, fun q h1 h2 => ?_⟩
  rw [zr_w_co (co' := co) (fun i hi => e q i h1 hi) 38 3 _ 1 0 (by omega), e q 1 h1 (by omega)]
  by_cases hq : q = p
  · subst hq
    rw [zk_up_eq, zk_up_eq, zk_up_eq]
    exact hw
  · rw [zk_up_ne hq, zk_up_ne hq, zk_up_ne hq]
    exact h.2 q (by omega) h2
theorem zk_dec (x : Int32) : x + Int32.ofInt (-1) = x - nI 1 := by rw [Int32.sub_eq_add_neg]; rfl
theorem zk_pr_lt {q : Nat} (h : q < 2 ^ 30) (h1 : nI q - nI 1 < 0) : q = 0 := by
  rw [Int32.lt_iff_toInt_lt, pk_sub_toInt h (by decide), Int32.toInt_zero] at h1
  omega
theorem zk_pr_ge {q : Nat} (h : q < 2 ^ 30) (h1 : ¬ nI q - nI 1 < 0) : 0 < q := by
  rw [Int32.lt_iff_toInt_lt, pk_sub_toInt h (by decide), Int32.toInt_zero] at h1
  omega
theorem zk_pr_s (p : Nat) : nI (p + 1) - nI 1 = nI p := pk_sub (by omega)
theorem zk_lts {f : Nat → Nat} {k a b : Nat} (h : ∀ j, j < k → f j < a) (hab : a ≤ b) (hk : f k < b) : ∀ j, j < k + 1 → f j < b := fun j hj => by
  by_cases h1 : j = k
  · subst h1; exact hk
  · have h2 := h j (by omega); omega
theorem zk_isb {F : List (Nat × Nat)} {fl fd : Nat → Nat} {n i : Nat} (h0 : zr_is F fl fd n) (hb : ∀ j, j < n → fl j < i) : ∀ x, x ∈ F → x.1 < i := fun x hx => by
  obtain ⟨j, hj⟩ := List.getElem?_of_mem hx
  have hj2 : j < n := by rw [← h0.1]; exact (List.getElem?_eq_some_iff.mp hj).1
  have h8 := h0.2 j hj2
  rw [hj] at h8
  cases h8
  exact hb j hj2
theorem zr_ls_is {F : List (Nat × Nat)} {fl fd : Nat → Nat} {n k l : Nat} (h0 : zr_is F fl fd n) (hk : k < n) (hl : l ≤ fl k) (hb : ∀ j, j < k → fl j < l) : zr_ls F l = fd k := by
  refine zr_ls_at F l k (fl k, fd k) (h0.2 k hk) hl (fun j hj y hy => ?_)
  have h8 := h0.2 j (by omega)
  rw [hy] at h8
  cases h8
  exact hb j hj
def rmX1_weighMatches : Room := { frames := 1, cells := 0, slots := 0, locals := 22 }
set_option maxRecDepth 20000 in
theorem ziX1_weighMatches_0 : ∀ w ∈ wsX00, w ∈ wsX1_weighMatches := by decide +kernel
set_option maxRecDepth 20000 in
theorem ziX1_weighMatches_1 : ∀ w ∈ wsX10, w ∈ wsX1_weighMatches := by decide +kernel
set_option maxHeartbeats 4000000 in
set_option maxRecDepth 100000 in
/-- Plan.weighMatches -/
theorem c_weighMatches (l : Launch) (D : va_G) (cI cZ cR : ClassId) (k_ : Nat) (ka : Nat) (kb : Nat) (kd : Nat) (co : Nat → Nat) (pn : Nat → Nat) (pd : Nat → Nat) (f : Nat) (sp : Nat) (dp : Nat) (fa : Nat) (fb : Nat) (fc : Nat) (le : Nat) (di : Nat) (fl : Nat → Nat) (fd : Nat → Nat) (t : Nat) (p_ : Nat) (mo : Nat) (F : List (Nat × Nat)) (h0 : zr_is F fl fd fc) (h1 : ∀ x, x ∈ F → 3 ≤ x.1 ∧ x.1 ≤ mo ∧ 1 ≤ x.2 ∧ x.2 ≤ 300) (h2 : p_ + mo ≤ 300) (h3 : mo ≤ 40) (h4 : p_ < 300) (h5 : fc ≤ 38) (h6 : ∀ i, i ≤ mo → co (p_ + i) ≤ 3000) : zk_Wv l yX1_weighMatches wsX1_weighMatches rmX1_weighMatches D (zk_t cI cZ cR) [.ref k_, .int (nI p_), .ref f] [(k_, .inr (1, [.ref ka, .ref kb, .ref kd])), (ka, zk_a cI 301 co), (kb, zk_a cI 300 pn), (kd, zk_a cI 300 pd), (f, .inr (0, [.ref t, .int (nI sp), .int (nI dp), .ref fa, .ref fb, .int (nI fc), .int (nI le), .int (nI di)])), (fa, zk_a cI 38 fl), (fb, zk_a cI 38 fd)] (fun u : Nat × Nat × Nat => match u with | (c2, l2, d2) => zr_w co p_ (zr_ls F) 38 3 (co p_) (pn p_) (pd p_) = (c2, l2, d2)) (fun u => match u with | (c2, l2, d2) => [(k_, .inr (1, [.ref ka, .ref kb, .ref kd])), (ka, zk_a cI 301 (zk_up co p_ c2)), (kb, zk_a cI 300 (zk_up pn p_ l2)), (kd, zk_a cI 300 (zk_up pd p_ d2)), (f, .inr (0, [.ref t, .int (nI sp), .int (nI dp), .ref fa, .ref fb, .int (nI fc), .int (nI le), .int (nI di)])), (fa, zk_a cI 38 fl), (fb, zk_a cI 38 fd)]) := by
  refine zk_enterV RX1 cX1_weighMatches 8 (by decide) rfl rfl (Nat.le_of_ble_eq_true rfl) ?_
  intro p e s m args below meth c ls A Q hx hb hml hown hts hP hK hD hN hl hA hS hret
  have hl : lv_has ls 8 [(0, .ref k_), (1, .int (nI p_)), (2, .ref f)] := hl
  have f9 := hts (.fieldLink RX1 9 "MatchFinders$Plan" "costs" "[I") (by decide +kernel)
  have f15 := hts (.fieldLink RX1 15 "MatchFinders$Plan" "lengths" "[I") (by decide +kernel)
  have f18 := hts (.fieldLink RX1 18 "MatchFinders$Plan" "distances" "[I") (by decide +kernel)
  have f41 := hts (.fieldLink RX1 41 "MatchFinders$Finder" "frontCount" "I") (by decide +kernel)
  have f44 := hts (.fieldLink RX1 44 "MatchFinders$Finder" "frontDistances" "[I") (by decide +kernel)
  have f51 := hts (.fieldLink RX1 51 "MatchFinders$Finder" "frontLengths" "[I") (by decide +kernel)
  refine lv_iconst (v := (nI 3)) hx hb dX1_weighMatches_0 (by decide +kernel) ?_
  refine lv_istore_n (lv' := [(3, .int (nI 3)), (0, .ref k_), (1, .int (nI p_)), (2, .ref f)]) hx hb dX1_weighMatches_1 rfl hl (by decide) rfl (fun ls hl => ?_)
  refine lv_iconst (v := (nI 0)) hx hb dX1_weighMatches_2 (by decide +kernel) ?_
  refine lv_istore (lv' := [(4, .int (nI 0)), (3, .int (nI 3)), (0, .ref k_), (1, .int (nI p_)), (2, .ref f)]) hx hb dX1_weighMatches_3 hl (by decide) rfl (fun ls hl => ?_)
  have hP : va_P D vwCl [(k_, .inr (1, [.ref ka, .ref kb, .ref kd])), (ka, zk_a cI 301 (zk_up co p_ (co p_))), (kb, zk_a cI 300 (zk_up pn p_ (pn p_))), (kd, zk_a cI 300 (zk_up pd p_ (pd p_))), (f, .inr (0, [.ref t, .int (nI sp), .int (nI dp), .ref fa, .ref fb, .int (nI fc), .int (nI le), .int (nI di)])), (fa, zk_a cI 38 fl), (fb, zk_a cI 38 fd)] s.heap := by rw [zk_up_self, zk_up_self, zk_up_self]; exact hP
  have L5 : ∀ (n : Nat) (l1 : Nat) (k1 : Nat) (cs : Nat) (ln1 : Nat) (ds1 : Nat) (ls : Array Slot) (H : Heap) (locs : List Loc), (∀ j, j < k1 → fl j < l1) → (k1 ≤ fc) → (3 ≤ l1) → (l1 ≤ 41) → (cs ≤ 3000) → (zr_w co p_ (zr_ls F) (41 - l1) l1 cs ln1 ds1 = zr_w co p_ (zr_ls F) 38 3 (co p_) (pn p_) (pd p_)) → (fc - k1) < n → va_P D vwCl [(k_, .inr (1, [.ref ka, .ref kb, .ref kd])), (ka, zk_a cI 301 (zk_up co p_ cs)), (kb, zk_a cI 300 (zk_up pn p_ ln1)), (kd, zk_a cI 300 (zk_up pd p_ ds1)), (f, .inr (0, [.ref t, .int (nI sp), .int (nI dp), .ref fa, .ref fb, .int (nI fc), .int (nI le), .int (nI di)])), (fa, zk_a cI 38 fl), (fb, zk_a cI 38 fd)] H → va_S A s.heap H locs → lv_has ls 8 [(0, .ref k_), (1, .int (nI p_)), (2, .ref f), (3, .int (nI l1)), (4, .int (nI k1))] → W p l e rmX1_weighMatches s m args below meth c H locs 0 0 Q (F0 m 5 ls []) := by
    intro n
    induction n with
    | zero => intro l1 k1 cs ln1 ds1 ls H locs g5_0 g5_1 g5_2 g5_3 g5_4 g5_5 hm hP hS hl; exact absurd hm (by omega)
    | succ n ih5 =>
      intro l1 k1 cs ln1 ds1 ls H locs g5_0 g5_1 g5_2 g5_3 g5_4 g5_5 hm hP hS hl
      refine lv_iload hx hb dX1_weighMatches_5 (lv_at hl 4 rfl) ?_
      refine lv_aload_n hx hb dX1_weighMatches_7 rfl (lv_at hl 2 rfl) ?_
      refine va_get (D := D) (ci := 0) (v := .int (nI fc)) (C := RX0) (T := TX0) (N := 8) hx hb hts ziX1_weighMatches_0 hown hK hP 4 rfl rfl 5 (by decide) f41 (fun _ h9 => h9) rfl dX1_weighMatches_8 ?_
      refine zk_icmp_ge (tgt := 109) hx hb (by omega) (by omega) dX1_weighMatches_11 (by decide) (fun c_1 => ?_) (fun c_1 => ?_)
      · skip
        have hkf : k1 = fc := by omega
        subst hkf
        have hno : ∀ i, l1 ≤ i → zr_ls F i = 0 := fun i hi => zr_ls_no F i (zk_isb h0 (fun j hj => Nat.lt_of_lt_of_le (g5_0 j hj) hi))
        exact hret _ ls _ _ (cs, ln1, ds1) dX1_weighMatches_109 (by rw [← g5_5]; exact zr_w_no _ _ _ _ _ hno) hP hS
      · skip
        have hx1 := h1 _ (zr_is_mem h0 (k := k1) (by omega))
        have hx2 : fl k1 ≤ mo := hx1.2.1
        have hx3 : 1 ≤ fd k1 := hx1.2.2.1
        have hx4 : fd k1 ≤ 300 := hx1.2.2.2
        refine lv_aload_n hx hb dX1_weighMatches_14 rfl (lv_at hl 2 rfl) ?_
        refine va_get (D := D) (ci := 0) (v := .ref fb) (C := RX0) (T := TX0) (N := 8) hx hb hts ziX1_weighMatches_0 hown hK hP 4 rfl rfl 4 (by decide) f44 (fun _ h9 => h9) rfl dX1_weighMatches_15 ?_
        refine lv_iload hx hb dX1_weighMatches_18 (lv_at hl 4 rfl) ?_
        refine zk_ild (v := fd k1) hx hb hK hP 6 0 (i := k1) (g := fd) rfl rfl (by omega) (by decide) rfl dX1_weighMatches_20 ?_
        refine zk_nm (fun dd h_dd => ?_)
        refine lv_istore (lv' := [(5, .int (nI dd)), (0, .ref k_), (1, .int (nI p_)), (2, .ref f), (3, .int (nI l1)), (4, .int (nI k1))]) hx hb dX1_weighMatches_21 hl (by decide) rfl (fun ls hl => ?_)
        refine lv_iconst (v := (nI 2)) hx hb dX1_weighMatches_23 (by decide +kernel) ?_
        refine lv_iload hx hb dX1_weighMatches_24 (lv_at hl 0 rfl) ?_
        refine zk_rdSN (As := [.int (nI dd)]) (rest := [.int (nI 2)]) ⟨hx, hb, hml, hown, hts⟩ hN (c_gammaBits l D cI cZ cR dd (by omega)) ⟨va_cnB 1 hts gX1_weighMatches_X4_gammaBits_n47 rfl rfl rfl hN.1 (hts (.initialized RX4) (by decide +kernel)) (by decide +kernel) ⟨Nat.le_of_ble_eq_true rfl, Nat.le_of_ble_eq_true rfl⟩, hts (.static yX4_gammaBits) (by decide +kernel), trivial⟩ hK hP (zk_D hD rfl) [] rfl (by decide) rfl hl.1 rfl (Nat.le_of_ble_eq_true rfl) dX1_weighMatches_26 ⟨Nat.zero_le _, Nat.zero_le _⟩ ?_
        refine zk_add (v := 2 + (zr_G dd)) hx hb (rfl) dX1_weighMatches_29 ?_
        refine zk_nm (fun db h_db => ?_)
        have hgd := zr_Gb dd
        refine lv_istore (lv' := [(6, .int (nI db)), (5, .int (nI dd)), (0, .ref k_), (1, .int (nI p_)), (2, .ref f), (3, .int (nI l1)), (4, .int (nI k1))]) hx hb dX1_weighMatches_30 hl (by decide) rfl (fun ls hl => ?_)
        have L32 : ∀ (n : Nat) (l2 : Nat) (cs2 : Nat) (ln2 : Nat) (ds2 : Nat) (ls : Array Slot) (H : Heap) (locs : List Loc), (l1 ≤ l2) → (3 ≤ l2) → (l2 ≤ 41) → (cs2 ≤ 3000) → (zr_w co p_ (zr_ls F) (41 - l2) l2 cs2 ln2 ds2 = zr_w co p_ (zr_ls F) 38 3 (co p_) (pn p_) (pd p_)) → (41 - l2) < n → va_P D vwCl [(k_, .inr (1, [.ref ka, .ref kb, .ref kd])), (ka, zk_a cI 301 (zk_up co p_ cs2)), (kb, zk_a cI 300 (zk_up pn p_ ln2)), (kd, zk_a cI 300 (zk_up pd p_ ds2)), (f, .inr (0, [.ref t, .int (nI sp), .int (nI dp), .ref fa, .ref fb, .int (nI fc), .int (nI le), .int (nI di)])), (fa, zk_a cI 38 fl), (fb, zk_a cI 38 fd)] H → va_S A s.heap H locs → lv_has ls 8 [(0, .ref k_), (1, .int (nI p_)), (2, .ref f), (3, .int (nI l2)), (4, .int (nI k1)), (5, .int (nI dd)), (6, .int (nI db))] → W p l e rmX1_weighMatches s m args below meth c H locs 0 0 Q (F0 m 32 ls []) := by
          intro n
          induction n with
          | zero => intro l2 cs2 ln2 ds2 ls H locs g32_0 g32_1 g32_2 g32_3 g32_4 hm hP hS hl; exact absurd hm (by omega)
          | succ n ih32 =>
            intro l2 cs2 ln2 ds2 ls H locs g32_0 g32_1 g32_2 g32_3 g32_4 hm hP hS hl
            refine lv_iload_n hx hb dX1_weighMatches_32 rfl (lv_at hl 3 rfl) ?_
            refine lv_aload_n hx hb dX1_weighMatches_33 rfl (lv_at hl 2 rfl) ?_
            refine va_get (D := D) (ci := 0) (v := .ref fa) (C := RX0) (T := TX0) (N := 8) hx hb hts ziX1_weighMatches_0 hown hK hP 4 rfl rfl 3 (by decide) f51 (fun _ h9 => h9) rfl dX1_weighMatches_34 ?_
            refine lv_iload hx hb dX1_weighMatches_37 (lv_at hl 4 rfl) ?_
            refine zk_ild (v := fl k1) hx hb hK hP 5 0 (i := k1) (g := fl) rfl rfl (by omega) (by decide) rfl dX1_weighMatches_39 ?_
            refine zk_icmp_gt (tgt := 103) hx hb (by omega) (by omega) dX1_weighMatches_40 (by decide) (fun c_2 => ?_) (fun c_2 => ?_)
            · skip
              refine lv_iinc (v := (nI (k1 + 1))) (lv' := [(4, .int (nI (k1 + 1))), (0, .ref k_), (1, .int (nI p_)), (2, .ref f), (3, .int (nI l2)), (5, .int (nI dd)), (6, .int (nI db))]) hx hb dX1_weighMatches_103 hl (k := 4) rfl (by rw [show Int32.ofInt 1 = (1 : Int32) from rfl, nI_1]) (by decide) rfl (fun ls hl => ?_)
              refine lv_goto (tgt := 5) hx hb dX1_weighMatches_106 (by decide) ?_
              exact ih5 l2 (k1 + 1) cs2 ln2 ds2 ls _ _ (zk_lts g5_0 (by omega) (by omega)) (by omega) (by omega) (by omega) (by omega) g32_4 (by omega) hP hS (lv_sub hl [1, 2, 3, 4, 0] rfl)
            · skip
              have hls : zr_ls F l2 = dd := by rw [h_dd]; exact zr_ls_is h0 (by omega) (by omega) (fun j hj => Nat.lt_of_lt_of_le (g5_0 j hj) g32_0)
              have hg1 := zr_Gb dd
              have hg2 := zr_Gb (l2 - 2)
              have hco := h6 l2 (by omega)
              refine lv_iload hx hb dX1_weighMatches_43 (lv_at hl 6 rfl) ?_
              refine lv_iload_n hx hb dX1_weighMatches_45 rfl (lv_at hl 3 rfl) ?_
              refine lv_iconst (v := (nI 2)) hx hb dX1_weighMatches_46 (by decide +kernel) ?_
              refine zk_sub (v := l2 - 2) hx hb (by omega) dX1_weighMatches_47 ?_
              refine zk_rdSN (As := [.int (nI (l2 - 2))]) (rest := [.int (nI db)]) ⟨hx, hb, hml, hown, hts⟩ hN (c_gammaBits l D cI cZ cR (l2 - 2) (by omega)) ⟨va_cnB 1 hts gX1_weighMatches_X4_gammaBits_n47 rfl rfl rfl hN.1 (hts (.initialized RX4) (by decide +kernel)) (by decide +kernel) ⟨Nat.le_of_ble_eq_true rfl, Nat.le_of_ble_eq_true rfl⟩, hts (.static yX4_gammaBits) (by decide +kernel), trivial⟩ hK hP (zk_D hD rfl) [] rfl (by decide) rfl hl.1 rfl (Nat.le_of_ble_eq_true rfl) dX1_weighMatches_48 ⟨Nat.zero_le _, Nat.zero_le _⟩ ?_
              refine zk_add (v := db + (zr_G (l2 - 2))) hx hb (rfl) dX1_weighMatches_51 ?_
              refine lv_aload_n hx hb dX1_weighMatches_52 rfl (lv_at hl 0 rfl) ?_
              refine va_get (D := D) (ci := 1) (v := .ref ka) (C := RX1) (T := TX1) (N := 3) hx hb hts ziX1_weighMatches_1 hown hK hP 0 rfl rfl 0 (by decide) f9 (fun _ h9 => h9) rfl dX1_weighMatches_53 ?_
              refine lv_iload_n hx hb dX1_weighMatches_56 rfl (lv_at hl 1 rfl) ?_
              refine lv_iload_n hx hb dX1_weighMatches_57 rfl (lv_at hl 3 rfl) ?_
              refine zk_add (v := p_ + l2) hx hb (rfl) dX1_weighMatches_58 ?_
              refine zk_ild (v := (zk_up co p_ cs2) (p_ + l2)) hx hb hK hP 1 0 (i := p_ + l2) (g := zk_up co p_ cs2) rfl rfl (by omega) (by decide) rfl dX1_weighMatches_59 ?_
              refine zk_top (congrArg nI (zk_up_ne (g := co) (x := cs2) (show p_ + l2 ≠ p_ by omega))) ?_
              refine zk_add (v := (db + (zr_G (l2 - 2))) + (co (p_ + l2))) hx hb (rfl) dX1_weighMatches_60 ?_
              refine zk_nm (fun cc h_cc => ?_)
              refine lv_istore (lv' := [(7, .int (nI cc)), (0, .ref k_), (1, .int (nI p_)), (2, .ref f), (3, .int (nI l2)), (4, .int (nI k1)), (5, .int (nI dd)), (6, .int (nI db))]) hx hb dX1_weighMatches_61 hl (by decide) rfl (fun ls hl => ?_)
              refine lv_iload hx hb dX1_weighMatches_63 (lv_at hl 0 rfl) ?_
              refine lv_aload_n hx hb dX1_weighMatches_65 rfl (lv_at hl 1 rfl) ?_
              refine va_get (D := D) (ci := 1) (v := .ref ka) (C := RX1) (T := TX1) (N := 3) hx hb hts ziX1_weighMatches_1 hown hK hP 0 rfl rfl 0 (by decide) f9 (fun _ h9 => h9) rfl dX1_weighMatches_66 ?_
              refine lv_iload_n hx hb dX1_weighMatches_69 rfl (lv_at hl 2 rfl) ?_
              refine zk_ild (v := (zk_up co p_ cs2) p_) hx hb hK hP 1 0 (i := p_) (g := zk_up co p_ cs2) rfl rfl (by omega) (by decide) rfl dX1_weighMatches_70 ?_
              refine zk_top (congrArg nI (zk_up_eq co p_ cs2)) ?_
              refine zk_icmp_gt (tgt := 97) hx hb (by omega) (by omega) dX1_weighMatches_71 (by decide) (fun c_3 => ?_) (fun c_3 => ?_)
              · skip
                refine lv_iinc (v := (nI (l2 + 1))) (lv' := [(3, .int (nI (l2 + 1))), (7, .int (nI cc)), (0, .ref k_), (1, .int (nI p_)), (2, .ref f), (4, .int (nI k1)), (5, .int (nI dd)), (6, .int (nI db))]) hx hb dX1_weighMatches_97 hl (k := 4) rfl (by rw [show Int32.ofInt 1 = (1 : Int32) from rfl, nI_1]) (by decide) rfl (fun ls hl => ?_)
                refine lv_goto (tgt := 32) hx hb dX1_weighMatches_100 (by decide) ?_
                exact ih32 (l2 + 1) cs2 ln2 ds2 ls _ _ (by omega) (by omega) (by omega) (by omega) (by rw [← g32_4, zr_w_kp (n := 41 - l2) (k := 41 - (l2 + 1)) (d := dd) (c := cc) hls (by omega) (by omega) (by omega) (by omega)]) (by omega) hP hS (lv_sub hl [2, 3, 4, 0, 5, 6, 7] rfl)
              · skip
                refine lv_aload_n hx hb dX1_weighMatches_74 rfl (lv_at hl 1 rfl) ?_
                refine va_get (D := D) (ci := 1) (v := .ref ka) (C := RX1) (T := TX1) (N := 3) hx hb hts ziX1_weighMatches_1 hown hK hP 0 rfl rfl 0 (by decide) f9 (fun _ h9 => h9) rfl dX1_weighMatches_75 ?_
                refine lv_iload_n hx hb dX1_weighMatches_78 rfl (lv_at hl 2 rfl) ?_
                refine lv_iload hx hb dX1_weighMatches_79 (lv_at hl 0 rfl) ?_
                refine zk_ist (i := p_) (x := cc) (g := zk_up co p_ cs2) hx hb hK hP (zk_D hD rfl) hS 1 0 rfl rfl (by omega) (by decide) dX1_weighMatches_81 (fun H locs hP hS => ?_)
                have hP : va_P D vwCl [(k_, .inr (1, [.ref ka, .ref kb, .ref kd])), (ka, zk_a cI 301 (zk_up (zk_up co p_ cs2) p_ cc)), (kb, zk_a cI 300 (zk_up pn p_ ln2)), (kd, zk_a cI 300 (zk_up pd p_ ds2)), (f, .inr (0, [.ref t, .int (nI sp), .int (nI dp), .ref fa, .ref fb, .int (nI fc), .int (nI le), .int (nI di)])), (fa, zk_a cI 38 fl), (fb, zk_a cI 38 fd)] H := hP
                rw [zk_up_up] at hP
                have hP : va_P D vwCl [(k_, .inr (1, [.ref ka, .ref kb, .ref kd])), (ka, zk_a cI 301 (zk_up co p_ cc)), (kb, zk_a cI 300 (zk_up pn p_ ln2)), (kd, zk_a cI 300 (zk_up pd p_ ds2)), (f, .inr (0, [.ref t, .int (nI sp), .int (nI dp), .ref fa, .ref fb, .int (nI fc), .int (nI le), .int (nI di)])), (fa, zk_a cI 38 fl), (fb, zk_a cI 38 fd)] H := hP
                refine lv_aload_n hx hb dX1_weighMatches_82 rfl (lv_at hl 1 rfl) ?_
                refine va_get (D := D) (ci := 1) (v := .ref kb) (C := RX1) (T := TX1) (N := 3) hx hb hts ziX1_weighMatches_1 hown hK hP 0 rfl rfl 1 (by decide) f15 (fun _ h9 => h9) rfl dX1_weighMatches_83 ?_
                refine lv_iload_n hx hb dX1_weighMatches_86 rfl (lv_at hl 2 rfl) ?_
                refine lv_iload_n hx hb dX1_weighMatches_87 rfl (lv_at hl 4 rfl) ?_
                refine zk_ist (i := p_) (x := l2) (g := zk_up pn p_ ln2) hx hb hK hP (zk_D hD rfl) hS 2 0 rfl rfl (by omega) (by decide) dX1_weighMatches_88 (fun H locs hP hS => ?_)
                have hP : va_P D vwCl [(k_, .inr (1, [.ref ka, .ref kb, .ref kd])), (ka, zk_a cI 301 (zk_up co p_ cc)), (kb, zk_a cI 300 (zk_up (zk_up pn p_ ln2) p_ l2)), (kd, zk_a cI 300 (zk_up pd p_ ds2)), (f, .inr (0, [.ref t, .int (nI sp), .int (nI dp), .ref fa, .ref fb, .int (nI fc), .int (nI le), .int (nI di)])), (fa, zk_a cI 38 fl), (fb, zk_a cI 38 fd)] H := hP
                rw [zk_up_up] at hP
                have hP : va_P D vwCl [(k_, .inr (1, [.ref ka, .ref kb, .ref kd])), (ka, zk_a cI 301 (zk_up co p_ cc)), (kb, zk_a cI 300 (zk_up pn p_ l2)), (kd, zk_a cI 300 (zk_up pd p_ ds2)), (f, .inr (0, [.ref t, .int (nI sp), .int (nI dp), .ref fa, .ref fb, .int (nI fc), .int (nI le), .int (nI di)])), (fa, zk_a cI 38 fl), (fb, zk_a cI 38 fd)] H := hP
                refine lv_aload_n hx hb dX1_weighMatches_89 rfl (lv_at hl 1 rfl) ?_
                refine va_get (D := D) (ci := 1) (v := .ref kd) (C := RX1) (T := TX1) (N := 3) hx hb hts ziX1_weighMatches_1 hown hK hP 0 rfl rfl 2 (by decide) f18 (fun _ h9 => h9) rfl dX1_weighMatches_90 ?_
                refine lv_iload_n hx hb dX1_weighMatches_93 rfl (lv_at hl 2 rfl) ?_
                refine lv_iload hx hb dX1_weighMatches_94 (lv_at hl 6 rfl) ?_
                refine zk_ist (i := p_) (x := dd) (g := zk_up pd p_ ds2) hx hb hK hP (zk_D hD rfl) hS 3 0 rfl rfl (by omega) (by decide) dX1_weighMatches_96 (fun H locs hP hS => ?_)
                have hP : va_P D vwCl [(k_, .inr (1, [.ref ka, .ref kb, .ref kd])), (ka, zk_a cI 301 (zk_up co p_ cc)), (kb, zk_a cI 300 (zk_up pn p_ l2)), (kd, zk_a cI 300 (zk_up (zk_up pd p_ ds2) p_ dd)), (f, .inr (0, [.ref t, .int (nI sp), .int (nI dp), .ref fa, .ref fb, .int (nI fc), .int (nI le), .int (nI di)])), (fa, zk_a cI 38 fl), (fb, zk_a cI 38 fd)] H := hP
                rw [zk_up_up] at hP
                have hP : va_P D vwCl [(k_, .inr (1, [.ref ka, .ref kb, .ref kd])), (ka, zk_a cI 301 (zk_up co p_ cc)), (kb, zk_a cI 300 (zk_up pn p_ l2)), (kd, zk_a cI 300 (zk_up pd p_ dd)), (f, .inr (0, [.ref t, .int (nI sp), .int (nI dp), .ref fa, .ref fb, .int (nI fc), .int (nI le), .int (nI di)])), (fa, zk_a cI 38 fl), (fb, zk_a cI 38 fd)] H := hP
                refine lv_iinc (v := (nI (l2 + 1))) (lv' := [(3, .int (nI (l2 + 1))), (7, .int (nI cc)), (0, .ref k_), (1, .int (nI p_)), (2, .ref f), (4, .int (nI k1)), (5, .int (nI dd)), (6, .int (nI db))]) hx hb dX1_weighMatches_97 hl (k := 4) rfl (by rw [show Int32.ofInt 1 = (1 : Int32) from rfl, nI_1]) (by decide) rfl (fun ls hl => ?_)
                refine lv_goto (tgt := 32) hx hb dX1_weighMatches_100 (by decide) ?_
                exact ih32 (l2 + 1) cc l2 dd ls _ _ (by omega) (by omega) (by omega) (by omega) (by rw [← g32_4, zr_w_up (n := 41 - l2) (k := 41 - (l2 + 1)) (d := dd) (c := cc) hls (by omega) (by omega) (by omega) (by omega)]) (by omega) hP hS (lv_sub hl [2, 3, 4, 0, 5, 6, 7] rfl)
        exact L32 (41 - l1 + 1) l1 cs ln1 ds1 ls _ _ (by omega) (by omega) (by omega) (by omega) g5_5 (by omega) hP hS (lv_sub hl [2, 3, 4, 5, 6, 1, 0] rfl)
  exact L5 (fc - 0 + 1) 3 0 (co p_) (pn p_) (pd p_) ls _ _ (fun j hj => absurd hj (by omega)) (by omega) (by omega) (by omega) (show co p_ ≤ 3000 from h6 0 (by omega)) rfl (by omega) hP hS (lv_sub hl [2, 3, 4, 1, 0] rfl)
def rmX1_make : Room := { frames := 3, cells := 0, slots := 0, locals := 68 }
set_option maxRecDepth 20000 in
theorem ziX1_make_0 : ∀ w ∈ wsX00, w ∈ wsX1_make := by decide +kernel
set_option maxRecDepth 20000 in
theorem ziX1_make_1 : ∀ w ∈ wsX10, w ∈ wsX1_make := by decide +kernel
set_option maxRecDepth 20000 in
theorem ziX1_make_3 : ∀ w ∈ wsX30, w ∈ wsX1_make := by decide +kernel
set_option maxHeartbeats 4000000 in
set_option maxRecDepth 100000 in
/-- Plan.make -/
theorem c_make (l : Launch) (D : va_G) (cI cZ cR : ClassId) (k_ : Nat) (ka : Nat) (kb : Nat) (kd : Nat) (co : Nat → Nat) (pn : Nat → Nat) (pd : Nat → Nat) (f : Nat) (sp : Nat) (dp : Nat) (fa : Nat) (fb : Nat) (fc : Nat) (le : Nat) (di : Nat) (fl : Nat → Nat) (fd : Nat → Nat) (t : Nat) (b : Nat) (ah : Nat) (sz : Nat) (g : Nat → Nat) (h0 : ah ≤ 60) (h1 : sz ≤ 300) (h2 : sp ≤ 300) (h3 : ∀ j, g j < 256) : zk_Wv l yX1_make wsX1_make rmX1_make D (zk_t cI cZ cR) [.ref k_, .ref f] [(k_, .inr (1, [.ref ka, .ref kb, .ref kd])), (ka, zk_a cI 301 co), (kb, zk_a cI 300 pn), (kd, zk_a cI 300 pd), (f, .inr (0, [.ref t, .int (nI sp), .int (nI dp), .ref fa, .ref fb, .int (nI fc), .int (nI le), .int (nI di)])), (fa, zk_a cI 38 fl), (fb, zk_a cI 38 fd), (t, .inr (3, [.ref b, .int (nI ah), .int (nI sz)])), (b, zk_a cI 360 g)] (fun u : (Nat → Nat) × (Nat → Nat) × (Nat → Nat) × (Nat → Nat) × (Nat → Nat) × Nat => match u with | (co2, pn2, pd2, fl2, fd2, fc2) => zr_DP (fun q => zr_F g (ah + q) (min 40 (sz - q)) (min sp (ah + q))) sz 0 co2 pn2 pd2) (fun u => match u with | (co2, pn2, pd2, fl2, fd2, fc2) => [(k_, .inr (1, [.ref ka, .ref kb, .ref kd])), (ka, zk_a cI 301 co2), (kb, zk_a cI 300 pn2), (kd, zk_a cI 300 pd2), (f, .inr (0, [.ref t, .int (nI sp), .int (nI dp), .ref fa, .ref fb, .int (nI fc2), .int (nI le), .int (nI di)])), (fa, zk_a cI 38 fl2), (fb, zk_a cI 38 fd2), (t, .inr (3, [.ref b, .int (nI ah), .int (nI sz)])), (b, zk_a cI 360 g)]) := by
  refine zk_enterV RX1 cX1_make 4 (by decide) rfl rfl (Nat.le_of_ble_eq_true rfl) ?_
  intro p e s m args below meth c ls A Q hx hb hml hown hts hP hK hD hN hl hA hS hret
  have hl : lv_has ls 4 [(0, .ref k_), (1, .ref f)] := hl
  have f9 := hts (.fieldLink RX1 9 "MatchFinders$Plan" "costs" "[I") (by decide +kernel)
  have f15 := hts (.fieldLink RX1 15 "MatchFinders$Plan" "lengths" "[I") (by decide +kernel)
  have f18 := hts (.fieldLink RX1 18 "MatchFinders$Plan" "distances" "[I") (by decide +kernel)
  have f21 := hts (.fieldLink RX1 21 "MatchFinders$Finder" "text" "LMatchFinders$Text;") (by decide +kernel)
  have f27 := hts (.fieldLink RX1 27 "MatchFinders$Text" "size" "I") (by decide +kernel)
  refine lv_aload_n hx hb dX1_make_0 rfl (lv_at hl 1 rfl) ?_
  refine va_get (D := D) (ci := 0) (v := .ref t) (C := RX0) (T := TX0) (N := 8) hx hb hts ziX1_make_0 hown hK hP 4 rfl rfl 0 (by decide) f21 (fun _ h9 => h9) rfl dX1_make_1 ?_
  refine va_get (D := D) (ci := 3) (v := .int (nI sz)) (C := RX3) (T := TX3) (N := 3) hx hb hts ziX1_make_3 hown hK hP 7 rfl rfl 2 (by decide) f27 (fun _ h9 => h9) rfl dX1_make_4 ?_
  refine lv_istore_n (lv' := [(2, .int (nI sz)), (0, .ref k_), (1, .ref f)]) hx hb dX1_make_7 rfl hl (by decide) rfl (fun ls hl => ?_)
  refine lv_aload_n hx hb dX1_make_8 rfl (lv_at hl 1 rfl) ?_
  refine va_get (D := D) (ci := 1) (v := .ref ka) (C := RX1) (T := TX1) (N := 3) hx hb hts ziX1_make_1 hown hK hP 0 rfl rfl 0 (by decide) f9 (fun _ h9 => h9) rfl dX1_make_9 ?_
  refine lv_iload_n hx hb dX1_make_12 rfl (lv_at hl 0 rfl) ?_
  refine lv_iconst (v := (nI 0)) hx hb dX1_make_13 (by decide +kernel) ?_
  refine zk_ist (i := sz) (x := 0) (g := co) hx hb hK hP (zk_D hD rfl) hS 1 0 rfl rfl (by omega) (by decide) dX1_make_14 (fun H locs hP hS => ?_)
  have hP : va_P D vwCl [(k_, .inr (1, [.ref ka, .ref kb, .ref kd])), (ka, zk_a cI 301 (zk_up co sz 0)), (kb, zk_a cI 300 pn), (kd, zk_a cI 300 pd), (f, .inr (0, [.ref t, .int (nI sp), .int (nI dp), .ref fa, .ref fb, .int (nI fc), .int (nI le), .int (nI di)])), (fa, zk_a cI 38 fl), (fb, zk_a cI 38 fd), (t, .inr (3, [.ref b, .int (nI ah), .int (nI sz)])), (b, zk_a cI 360 g)] H := hP
  refine lv_iload_n hx hb dX1_make_15 rfl (lv_at hl 0 rfl) ?_
  refine lv_iconst (v := (nI 1)) hx hb dX1_make_16 (by decide +kernel) ?_
  refine lv_isub hx hb dX1_make_17 ?_
  refine lv_istore_n (lv' := [(3, .int ((nI sz) - (nI 1))), (2, .int (nI sz)), (0, .ref k_), (1, .ref f)]) hx hb dX1_make_18 rfl hl (by decide) rfl (fun ls hl => ?_)
  have L19 : ∀ (n : Nat) (q : Nat) (co1 : Nat → Nat) (pn1 : Nat → Nat) (pd1 : Nat → Nat) (fl1 : Nat → Nat) (fd1 : Nat → Nat) (fc1 : Nat) (ls : Array Slot) (H : Heap) (locs : List Loc), (q ≤ sz) → (zr_DP (fun q => zr_F g (ah + q) (min 40 (sz - q)) (min sp (ah + q))) sz q co1 pn1 pd1) → (q) < n → va_P D vwCl [(k_, .inr (1, [.ref ka, .ref kb, .ref kd])), (ka, zk_a cI 301 co1), (kb, zk_a cI 300 pn1), (kd, zk_a cI 300 pd1), (f, .inr (0, [.ref t, .int (nI sp), .int (nI dp), .ref fa, .ref fb, .int (nI fc1), .int (nI le), .int (nI di)])), (fa, zk_a cI 38 fl1), (fb, zk_a cI 38 fd1), (t, .inr (3, [.ref b, .int (nI ah), .int (nI sz)])), (b, zk_a cI 360 g)] H → va_S A s.heap H locs → lv_has ls 4 [(0, .ref k_), (1, .ref f), (2, .int (nI sz)), (3, .int ((nI q) - (nI 1)))] → W p l e rmX1_make s m args below meth c H locs 0 0 Q (F0 m 19 ls []) := by
    intro n
    induction n with
    | zero => intro q co1 pn1 pd1 fl1 fd1 fc1 ls H locs g19_0 g19_1 hm hP hS hl; exact absurd hm (by omega)
    | succ n ih19 =>
      intro q co1 pn1 pd1 fl1 fd1 fc1 ls H locs g19_0 g19_1 hm hP hS hl
      refine lv_iload_n hx hb dX1_make_19 rfl (lv_at hl 3 rfl) ?_
      refine lv_if_lt (tgt := 71) hx hb dX1_make_20 (by decide) (fun c_1 => ?_) (fun c_1 => ?_)
      · skip
        have hq := zk_pr_lt (by omega) c_1
        subst hq
        exact hret _ ls _ _ (co1, pn1, pd1, fl1, fd1, fc1) dX1_make_71 g19_1 hP hS
      · skip
        have hq := zk_pr_ge (by omega) c_1
        obtain ⟨p, rfl⟩ : ∃ p, q = p + 1 := ⟨q - 1, by omega⟩
        rw [zk_pr_s] at hl
        refine lv_aload_n hx hb dX1_make_23 rfl (lv_at hl 0 rfl) ?_
        refine va_get (D := D) (ci := 1) (v := .ref ka) (C := RX1) (T := TX1) (N := 3) hx hb hts ziX1_make_1 hown hK hP 0 rfl rfl 0 (by decide) f9 (fun _ h9 => h9) rfl dX1_make_24 ?_
        refine lv_iload_n hx hb dX1_make_27 rfl (lv_at hl 3 rfl) ?_
        refine lv_bipush (v := (nI 9)) hx hb dX1_make_28 (by decide +kernel) ?_
        refine lv_aload_n hx hb dX1_make_30 rfl (lv_at hl 0 rfl) ?_
        refine va_get (D := D) (ci := 1) (v := .ref ka) (C := RX1) (T := TX1) (N := 3) hx hb hts ziX1_make_1 hown hK hP 0 rfl rfl 0 (by decide) f9 (fun _ h9 => h9) rfl dX1_make_31 ?_
        refine lv_iload_n hx hb dX1_make_34 rfl (lv_at hl 3 rfl) ?_
        refine lv_iconst (v := (nI 1)) hx hb dX1_make_35 (by decide +kernel) ?_
        refine zk_add (v := p + 1) hx hb (rfl) dX1_make_36 ?_
        refine zk_ild (v := co1 (p + 1)) hx hb hK hP 1 0 (i := p + 1) (g := co1) rfl rfl (by omega) (by decide) rfl dX1_make_37 ?_
        refine zk_add (v := 9 + (co1 (p + 1))) hx hb (rfl) dX1_make_38 ?_
        refine zk_ist (i := p) (x := 9 + (co1 (p + 1))) (g := co1) hx hb hK hP (zk_D hD rfl) hS 1 0 rfl rfl (by omega) (by decide) dX1_make_39 (fun H locs hP hS => ?_)
        have hP : va_P D vwCl [(k_, .inr (1, [.ref ka, .ref kb, .ref kd])), (ka, zk_a cI 301 (zk_up co1 p (9 + (co1 (p + 1))))), (kb, zk_a cI 300 pn1), (kd, zk_a cI 300 pd1), (f, .inr (0, [.ref t, .int (nI sp), .int (nI dp), .ref fa, .ref fb, .int (nI fc1), .int (nI le), .int (nI di)])), (fa, zk_a cI 38 fl1), (fb, zk_a cI 38 fd1), (t, .inr (3, [.ref b, .int (nI ah), .int (nI sz)])), (b, zk_a cI 360 g)] H := hP
        refine lv_aload_n hx hb dX1_make_40 rfl (lv_at hl 0 rfl) ?_
        refine va_get (D := D) (ci := 1) (v := .ref kb) (C := RX1) (T := TX1) (N := 3) hx hb hts ziX1_make_1 hown hK hP 0 rfl rfl 1 (by decide) f15 (fun _ h9 => h9) rfl dX1_make_41 ?_
        refine lv_iload_n hx hb dX1_make_44 rfl (lv_at hl 3 rfl) ?_
        refine lv_iconst (v := (nI 1)) hx hb dX1_make_45 (by decide +kernel) ?_
        refine zk_ist (i := p) (x := 1) (g := pn1) hx hb hK hP (zk_D hD rfl) hS 2 0 rfl rfl (by omega) (by decide) dX1_make_46 (fun H locs hP hS => ?_)
        have hP : va_P D vwCl [(k_, .inr (1, [.ref ka, .ref kb, .ref kd])), (ka, zk_a cI 301 (zk_up co1 p (9 + (co1 (p + 1))))), (kb, zk_a cI 300 (zk_up pn1 p 1)), (kd, zk_a cI 300 pd1), (f, .inr (0, [.ref t, .int (nI sp), .int (nI dp), .ref fa, .ref fb, .int (nI fc1), .int (nI le), .int (nI di)])), (fa, zk_a cI 38 fl1), (fb, zk_a cI 38 fd1), (t, .inr (3, [.ref b, .int (nI ah), .int (nI sz)])), (b, zk_a cI 360 g)] H := hP
        refine lv_aload_n hx hb dX1_make_47 rfl (lv_at hl 0 rfl) ?_
        refine va_get (D := D) (ci := 1) (v := .ref kd) (C := RX1) (T := TX1) (N := 3) hx hb hts ziX1_make_1 hown hK hP 0 rfl rfl 2 (by decide) f18 (fun _ h9 => h9) rfl dX1_make_48 ?_
        refine lv_iload_n hx hb dX1_make_51 rfl (lv_at hl 3 rfl) ?_
        refine lv_iconst (v := (nI 0)) hx hb dX1_make_52 (by decide +kernel) ?_
        refine zk_ist (i := p) (x := 0) (g := pd1) hx hb hK hP (zk_D hD rfl) hS 3 0 rfl rfl (by omega) (by decide) dX1_make_53 (fun H locs hP hS => ?_)
        have hP : va_P D vwCl [(k_, .inr (1, [.ref ka, .ref kb, .ref kd])), (ka, zk_a cI 301 (zk_up co1 p (9 + (co1 (p + 1))))), (kb, zk_a cI 300 (zk_up pn1 p 1)), (kd, zk_a cI 300 (zk_up pd1 p 0)), (f, .inr (0, [.ref t, .int (nI sp), .int (nI dp), .ref fa, .ref fb, .int (nI fc1), .int (nI le), .int (nI di)])), (fa, zk_a cI 38 fl1), (fb, zk_a cI 38 fd1), (t, .inr (3, [.ref b, .int (nI ah), .int (nI sz)])), (b, zk_a cI 360 g)] H := hP
        refine lv_aload_n hx hb dX1_make_54 rfl (lv_at hl 1 rfl) ?_
        refine lv_iload_n hx hb dX1_make_55 rfl (lv_at hl 3 rfl) ?_
        refine zk_wrV (As := [.int (nI p)]) (rest := []) ⟨hx, hb, hml, hown, hts⟩ hN (c_gatherFront l D cI cZ cR f sp dp fa fb fc1 le di fl1 fd1 t b ah sz g p (by omega) (by omega) (by omega) (by omega) h3) (cwV 1 hts gX1_make_X0_gatherFront rfl rfl rfl (by decide +kernel) ⟨Nat.le_of_ble_eq_true rfl, Nat.le_of_ble_eq_true rfl⟩) hK hP (zk_D hD rfl) hS hA [4, 5, 6, 7, 8] rfl (by decide) (fun _ => rfl) rfl rfl rfl rfl hl.1 rfl (Nat.le_of_ble_eq_true rfl) dX1_make_56 ⟨Nat.zero_le _, Nat.zero_le _⟩ (fun u H locs hu1 hP hS => ?_)
        obtain ⟨fl9, fd9, fc9⟩ := u
        have hu1 : zr_is (zr_F g (ah + p) (min 40 (sz - p)) (min sp (ah + p))) fl9 fd9 fc9 := hu1
        have hP : va_P D vwCl [(k_, .inr (1, [.ref ka, .ref kb, .ref kd])), (ka, zk_a cI 301 (zk_up co1 p (9 + (co1 (p + 1))))), (kb, zk_a cI 300 (zk_up pn1 p 1)), (kd, zk_a cI 300 (zk_up pd1 p 0)), (f, .inr (0, [.ref t, .int (nI sp), .int (nI dp), .ref fa, .ref fb, .int (nI fc9), .int (nI le), .int (nI di)])), (fa, zk_a cI 38 fl9), (fb, zk_a cI 38 fd9), (t, .inr (3, [.ref b, .int (nI ah), .int (nI sz)])), (b, zk_a cI 360 g)] H := hP
        refine lv_aload_n hx hb dX1_make_59 rfl (lv_at hl 0 rfl) ?_
        refine lv_iload_n hx hb dX1_make_60 rfl (lv_at hl 3 rfl) ?_
        refine lv_aload_n hx hb dX1_make_61 rfl (lv_at hl 1 rfl) ?_
        have hFm : ∀ x, x ∈ zr_F g (ah + p) (min 40 (sz - p)) (min sp (ah + p)) → 3 ≤ x.1 ∧ x.1 ≤ min 40 (sz - p) ∧ 1 ≤ x.2 ∧ x.2 ≤ 300 := fun x hx => by
          have h9 := zr_F_mem hx
          exact ⟨h9.1, h9.2.1, h9.2.2.1, by have h8 := h9.2.2.2.1; omega⟩
        have hfc := zr_is_len hu1
        have hcb : ∀ i, i ≤ min 40 (sz - p) → zk_up co1 p (9 + co1 (p + 1)) (p + i) ≤ 3000 := fun i hi => by
          by_cases hi0 : i = 0
          · subst hi0; show zk_up co1 p (9 + co1 (p + 1)) p ≤ 3000; rw [zk_up_eq]; have h8 := zr_DP_le g19_1 _ (p + 1) rfl (by omega) (by omega); omega
          · rw [zk_up_ne (by omega)]; have h8 := zr_DP_le g19_1 _ (p + i) rfl (by omega) (by omega); omega
        refine zk_wrV (As := [.int (nI p), .ref f]) (rest := []) ⟨hx, hb, hml, hown, hts⟩ hN (c_weighMatches l D cI cZ cR k_ ka kb kd (zk_up co1 p (9 + (co1 (p + 1)))) (zk_up pn1 p 1) (zk_up pd1 p 0) f sp dp fa fb fc9 le di fl9 fd9 t p (min 40 (sz - p)) (zr_F g (ah + p) (min 40 (sz - p)) (min sp (ah + p))) hu1 hFm (by omega) (by omega) (by omega) (by omega) hcb) (cwV 2 hts gX1_make_X1_weighMatches rfl rfl rfl (by decide +kernel) ⟨Nat.le_of_ble_eq_true rfl, Nat.le_of_ble_eq_true rfl⟩) hK hP (zk_D hD rfl) hS hA [0, 1, 2, 3, 4, 5, 6] rfl (by decide) (fun _ => rfl) rfl rfl rfl rfl hl.1 rfl (Nat.le_of_ble_eq_true rfl) dX1_make_62 ⟨Nat.zero_le _, Nat.zero_le _⟩ (fun u H locs hu2 hP hS => ?_)
        obtain ⟨c9, l9, d9⟩ := u
        have hu2 : zr_w (zk_up co1 p (9 + (co1 (p + 1)))) p (zr_ls (zr_F g (ah + p) (min 40 (sz - p)) (min sp (ah + p)))) 38 3 ((zk_up co1 p (9 + (co1 (p + 1)))) p) ((zk_up pn1 p 1) p) ((zk_up pd1 p 0) p) = (c9, l9, d9) := hu2
        have hP : va_P D vwCl [(k_, .inr (1, [.ref ka, .ref kb, .ref kd])), (ka, zk_a cI 301 (zk_up (zk_up co1 p (9 + (co1 (p + 1)))) p c9)), (kb, zk_a cI 300 (zk_up (zk_up pn1 p 1) p l9)), (kd, zk_a cI 300 (zk_up (zk_up pd1 p 0) p d9)), (f, .inr (0, [.ref t, .int (nI sp), .int (nI dp), .ref fa, .ref fb, .int (nI fc9), .int (nI le), .int (nI di)])), (fa, zk_a cI 38 fl9), (fb, zk_a cI 38 fd9), (t, .inr (3, [.ref b, .int (nI ah), .int (nI sz)])), (b, zk_a cI 360 g)] H := hP
        rw [zk_up_up, zk_up_up, zk_up_up] at hP
        have hP : va_P D vwCl [(k_, .inr (1, [.ref ka, .ref kb, .ref kd])), (ka, zk_a cI 301 (zk_up co1 p c9)), (kb, zk_a cI 300 (zk_up pn1 p l9)), (kd, zk_a cI 300 (zk_up pd1 p d9)), (f, .inr (0, [.ref t, .int (nI sp), .int (nI dp), .ref fa, .ref fb, .int (nI fc9), .int (nI le), .int (nI di)])), (fa, zk_a cI 38 fl9), (fb, zk_a cI 38 fd9), (t, .inr (3, [.ref b, .int (nI ah), .int (nI sz)])), (b, zk_a cI 360 g)] H := hP
        have hdp : zr_DP (fun q => zr_F g (ah + q) (min 40 (sz - q)) (min sp (ah + q))) sz p (zk_up co1 p c9) (zk_up pn1 p l9) (zk_up pd1 p d9) := zr_DP_up g19_1 (by omega) (by
          rw [zk_up_eq, zk_up_eq, zk_up_eq] at hu2
          rw [← hu2]
          exact zr_w_co (fun i hi => (zk_up_ne (by omega)).symm) 38 3 _ 1 0 (by omega))
        refine lv_iinc (v := ((nI p) - (nI 1))) (lv' := [(3, .int ((nI p) - (nI 1))), (0, .ref k_), (1, .ref f), (2, .int (nI sz))]) hx hb dX1_make_65 hl (k := 3) rfl (zk_dec _) (by decide) rfl (fun ls hl => ?_)
        refine lv_goto (tgt := 19) hx hb dX1_make_68 (by decide) ?_
        exact ih19 p (zk_up co1 p c9) (zk_up pn1 p l9) (zk_up pd1 p d9) fl9 fd9 fc9 ls _ _ (by omega) hdp (by omega) hP hS (lv_sub hl [1, 2, 3, 0] rfl)
  exact L19 (sz + 1) sz (zk_up co sz 0) pn pd fl fd fc ls _ _ (by omega) ⟨zk_up_eq _ _ _, fun p h1 h2 => absurd h1 (by omega)⟩ (by omega) hP hS (lv_sub hl [2, 3, 1, 0] rfl)
end
section
/-! What a way takes at a place; the row of pieces; its bits. -/
section ZKF
variable {p : Program} {l : Launch} {e : Env} {R : Room} {s : State} {m : MethodId} {args : Array Value} {below : List Frame} {meth : Method} {c : Code} {H : Heap} {locs : List Loc} {cells slots : Nat} {Q : State → Prop}
variable {pc : Nat} {ls : Array Slot} {rest : List Value} {cc : ByteArray} {D : va_G} {cl : List vw_C} {tys : List (ClassId × FieldType)} {ws : va_W}
theorem zk_ald (hx : p.tables.exec = Jvm.exec) (hb : c.code = cc) (hK : va_K D cl tys s) (hP : va_P D cl ws H) (q0 t0 : Nat) {a : Nat} {cA : ClassId} {C : String} {n i y : Nat} {f : Nat → Option Nat} (ha : ws[q0]? = some (a, .inl (cA, n, .inr (.inr (.inr (.inr f)))))) (ht : tys[t0]? = some (cA, .object C)) (hi : i < n) (hn : n < 2 ^ 31) (hf : f i = some y) (hdg : decode cc pc = .ok (.aaload, 1))
    (kk : W p l e R s m args below meth c H locs cells slots Q (F0 m (pc + 1) ls (.ref y :: rest))) : W p l e R s m args below meth c H locs cells slots Q (F0 m pc ls (.int (nI i) :: .ref a :: rest)) := by
  refine va_aldq hx hb hK hP q0 t0 ha ht (vp_in_nI hi hn) hdg ?_
  rw [nI_clamp (by omega), hf]
  exact kk
end ZKF
def zr_Fp (g : Nat → Nat) (ah sz sp q : Nat) : List (Nat × Nat) := zr_F g (ah + q) (min 40 (sz - q)) (min sp (ah + q))
def zr_s0 (g : Nat → Nat) (ah sz sp q : Nat) : Nat × Nat := zr_last (zr_Fp g ah sz sp q)
def zr_s1 (g : Nat → Nat) (ah sz sp dp q : Nat) : Nat × Nat := zr_ch (fun d => zr_reach g (ah + q) (ah + q - d) (min 40 (sz - q))) dp (min sp (ah + q)) 1 0 0 0
def zr_s2 (g : Nat → Nat) (ah sz sp q : Nat) : Nat × Nat := if (zr_s0 g ah sz sp q).1 < (zr_s0 g ah sz sp (q + 1)).1 then (0, 0) else zr_s0 g ah sz sp q
def zr_sel (w : Nat) (g : Nat → Nat) (ah sz sp dp : Nat) (pn pd : Nat → Nat) (q : Nat) : Nat × Nat := if w = 0 then zr_s0 g ah sz sp q else if w = 1 then zr_s1 g ah sz sp dp q else if w = 2 then zr_s2 g ah sz sp q else (pn q, pd q)
/-- sel is what the way takes -/
def zr_ok (w : Nat) (g : Nat → Nat) (ah sz sp dp : Nat) (sel : Nat → Nat × Nat) : Prop := if w = 3 then ∃ co, zr_DP (zr_Fp g ah sz sp) sz 0 co (fun q => (sel q).1) (fun q => (sel q).2) else ∀ q, q < sz → sel q = zr_sel w g ah sz sp dp (fun _ => 0) (fun _ => 0) q
theorem zr_ok_lt {w : Nat} {g : Nat → Nat} {ah sz sp dp : Nat} {pn pd : Nat → Nat} (h : w ≤ 3) (h3 : w ≠ 3) : zr_ok w g ah sz sp dp (zr_sel w g ah sz sp dp pn pd) := by
  rw [zr_ok, if_neg h3]
  intro q _
  unfold zr_sel
  by_cases h0 : w = 0
  · rw [if_pos h0, if_pos h0]
  · by_cases h1 : w = 1
    · rw [if_neg h0, if_neg h0, if_pos h1, if_pos h1]
    · rw [if_neg h0, if_neg h0, if_neg h1, if_neg h1, if_pos (by omega), if_pos (by omega)]
theorem zr_ok_3 {w : Nat} {g : Nat → Nat} {ah sz sp dp : Nat} {co pn pd : Nat → Nat} (h3 : w = 3) (hd : zr_DP (fun q => zr_F g (ah + q) (min 40 (sz - q)) (min sp (ah + q))) sz 0 co pn pd) : zr_ok w g ah sz sp dp (zr_sel w g ah sz sp dp pn pd) := by
  subst h3
  rw [zr_ok, if_pos rfl]
  exact ⟨co, hd⟩
theorem zr_last_in {g : Nat → Nat} {ah sz sp q : Nat} (h : 3 ≤ (zr_s0 g ah sz sp q).1) : (zr_s0 g ah sz sp q).1 ≤ min 40 (sz - q) ∧ 1 ≤ (zr_s0 g ah sz sp q).2 ∧ (zr_s0 g ah sz sp q).2 ≤ sp := by
  have h0 : zr_last (zr_Fp g ah sz sp q) ≠ (0, 0) := fun h1 => by
    unfold zr_s0 at h
    rw [h1] at h
    omega
  have h1 := zr_F_mem (zr_last_mem h0)
  exact ⟨h1.2.1, h1.2.2.1, by have h2 : (zr_s0 g ah sz sp q).2 ≤ min sp (ah + q) := h1.2.2.2.1; omega⟩
theorem zr_ch_b {Rr : Nat → Nat} {mo dp : Nat} (hR : ∀ d, Rr d ≤ mo) : ∀ (n d se le di b : Nat), d + n ≤ b + 1 → (3 ≤ le → le ≤ mo ∧ 1 ≤ di ∧ di ≤ b) → 1 ≤ d → 3 ≤ (zr_ch Rr dp n d se le di).1 → (zr_ch Rr dp n d se le di).1 ≤ mo ∧ 1 ≤ (zr_ch Rr dp n d se le di).2 ∧ (zr_ch Rr dp n d se le di).2 ≤ b
  | 0, d, se, le, di, b, _, h, _, h3 => h h3
  | n + 1, d, se, le, di, b, hb, h, hd, h3 => by
    unfold zr_ch at h3 ⊢
    split
    · rename_i c1
      rw [if_pos c1] at h3
      split
      · rename_i c2
        rw [if_pos c2] at h3
        split
        · rename_i c3
          rw [if_pos c3] at h3
          exact zr_ch_b hR n (d + 1) (se + 1) (Rr d) d b (by omega) (fun _ => ⟨hR d, hd, by omega⟩) (by omega) h3
        · rename_i c3
          rw [if_neg c3] at h3
          exact zr_ch_b hR n (d + 1) (se + 1) le di b (by omega) h (by omega) h3
      · rename_i c2
        rw [if_neg c2] at h3
        exact zr_ch_b hR n (d + 1) se le di b (by omega) h (by omega) h3
    · rename_i c1
      rw [if_neg c1] at h3
      exact h h3
theorem zr_s1_in {g : Nat → Nat} {ah sz sp dp q : Nat} (h : 3 ≤ (zr_s1 g ah sz sp dp q).1) : (zr_s1 g ah sz sp dp q).1 ≤ min 40 (sz - q) ∧ 1 ≤ (zr_s1 g ah sz sp dp q).2 ∧ (zr_s1 g ah sz sp dp q).2 ≤ sp := by
  have h1 := zr_ch_b (Rr := fun d => zr_reach g (ah + q) (ah + q - d) (min 40 (sz - q))) (mo := min 40 (sz - q)) (dp := dp) (fun d => zr_reach_le g _ _ _) (min sp (ah + q)) 1 0 0 0 (min sp (ah + q)) (by omega) (fun h => absurd h (by omega)) (by omega) h
  exact ⟨h1.1, h1.2.1, by have h2 : (zr_s1 g ah sz sp dp q).2 ≤ min sp (ah + q) := h1.2.2; omega⟩
theorem zr_ls_mem : ∀ (F : List (Nat × Nat)) (l : Nat), 0 < zr_ls F l → ∃ x, x ∈ F ∧ l ≤ x.1 ∧ zr_ls F l = x.2
  | [], l, h => by simp [zr_ls] at h
  | a :: F, l, h => by
    unfold zr_ls at h ⊢
    split
    · rename_i c1
      exact ⟨a, List.mem_cons_self, c1, rfl⟩
    · rename_i c1
      rw [if_neg c1] at h
      obtain ⟨x, h1, h2, h3⟩ := zr_ls_mem F l h
      exact ⟨x, List.mem_cons_of_mem _ h1, h2, h3⟩
theorem zr_w_in {co : Nat → Nat} {p : Nat} {ls : Nat → Nat} {P : Nat → Nat → Prop} (hP : ∀ l, 0 < ls l → P l (ls l)) : ∀ (n l cs ln ds : Nat), P ln ds → P (zr_w co p ls n l cs ln ds).2.1 (zr_w co p ls n l cs ln ds).2.2
  | 0, _, _, _, _, h => h
  | n + 1, l, cs, ln, ds, h => by
    unfold zr_w
    split
    · split
      · rename_i c1 c2
        exact zr_w_in hP n (l + 1) _ _ _ (hP l c1)
      · exact zr_w_in hP n (l + 1) _ _ _ h
    · exact zr_w_in hP n (l + 1) _ _ _ h
theorem zr_ok_in {w : Nat} {g : Nat → Nat} {ah sz sp dp : Nat} {sel : Nat → Nat × Nat} (hw : w ≤ 3) (h : zr_ok w g ah sz sp dp sel) {q : Nat} (hq : q < sz) (h3 : 3 ≤ (sel q).1) : (sel q).1 ≤ min 40 (sz - q) ∧ 1 ≤ (sel q).2 ∧ (sel q).2 ≤ sp := by
  unfold zr_ok at h
  by_cases hw3 : w = 3
  · rw [if_pos hw3] at h
    obtain ⟨co, hd⟩ := h
    have h4 := hd.2 q (by omega) hq
    have h5 := zr_w_in (co := co) (p := q) (ls := zr_ls (zr_Fp g ah sz sp q)) (P := fun l d => 3 ≤ l → l ≤ min 40 (sz - q) ∧ 1 ≤ d ∧ d ≤ sp) (fun l hl _ => by
      obtain ⟨x, h6, h7, h8⟩ := zr_ls_mem _ _ hl
      have h9 := zr_F_mem h6
      rw [h8]
      exact ⟨by omega, h9.2.2.1, by have h10 := h9.2.2.2.1; omega⟩) 38 3 (9 + co (q + 1)) 1 0 (fun h => absurd h (by omega))
    rw [h4] at h5
    exact h5 h3
  · rw [if_neg hw3] at h
    have h4 := h q hq
    rw [h4] at h3 ⊢
    unfold zr_sel at h3 ⊢
    split
    · rename_i c1
      rw [if_pos c1] at h3
      exact zr_last_in h3
    · rename_i c1
      rw [if_neg c1] at h3
      split
      · rename_i c2
        rw [if_pos c2] at h3
        exact zr_s1_in h3
      · rename_i c2
        rw [if_neg c2] at h3
        rw [if_pos (by omega)] at h3 ⊢
        unfold zr_s2 at h3 ⊢
        split
        · rename_i c3
          rw [if_pos c3] at h3
          exact absurd h3 (by decide)
        · rename_i c3
          rw [if_neg c3] at h3
          exact zr_last_in h3
/-- the pieces from a place on -/
def zr_pcs (sel : Nat → Nat × Nat) (sz : Nat) : Nat → Nat → List (Nat × Nat × Nat)
  | 0, _ => []
  | n + 1, q => if q < sz then (if 3 ≤ (sel q).1 then (q, (sel q).1, (sel q).2) :: zr_pcs sel sz n (q + (sel q).1) else (q, 1, 0) :: zr_pcs sel sz n (q + 1)) else []
theorem zr_pcs_end {sel : Nat → Nat × Nat} {sz n q : Nat} (h : sz ≤ q) : zr_pcs sel sz n q = [] := by
  cases n with
  | zero => rfl
  | succ n => rw [zr_pcs, if_neg (by omega)]
theorem zr_pcs_m {sel : Nat → Nat × Nat} {sz n k q le di : Nat} (hq : q < sz) (hs : sel q = (le, di)) (h3 : 3 ≤ le) (hn : n = k + 1) : zr_pcs sel sz n q = (q, le, di) :: zr_pcs sel sz k (q + le) := by
  subst hn
  rw [zr_pcs, if_pos hq, hs, if_pos h3]
theorem zr_pcs_l {sel : Nat → Nat × Nat} {sz n k q le di : Nat} (hq : q < sz) (hs : sel q = (le, di)) (h3 : le < 3) (hn : n = k + 1) : zr_pcs sel sz n q = (q, 1, 0) :: zr_pcs sel sz k (q + 1) := by
  subst hn
  rw [zr_pcs, if_pos hq, hs, if_neg (by omega)]
abbrev zr_T : Type := Nat × Nat × Nat × Nat × Nat × Nat
def zr_st (s : zr_T) (x : Nat × Nat × Nat) : zr_T := zr_pc x.2.1 x.2.2 s.1 s.2.1 s.2.2.1 s.2.2.2.1 s.2.2.2.2.1 s.2.2.2.2.2
def zr_bits (L : List (Nat × Nat × Nat)) : zr_T := L.foldl zr_st (0, 0, 0, 0, 0, 0)
theorem zr_bits_push {L : List (Nat × Nat × Nat)} {q ln ds a b c d e f : Nat} {t : zr_T} (h : zr_bits L = (a, b, c, d, e, f)) (h2 : zr_pc ln ds a b c d e f = t) : zr_bits (L ++ [(q, ln, ds)]) = t := by
  unfold zr_bits at h ⊢
  rw [List.foldl_append, h]
  exact h2
/-- three rows of numbers hold a list of pieces -/
def zr_holds (L : List (Nat × Nat × Nat)) (pl ln ds : Nat → Nat) (n : Nat) : Prop := L.length = n ∧ ∀ k, k < n → L[k]? = some (pl k, ln k, ds k)
theorem zr_holds_0 {pl ln ds : Nat → Nat} : zr_holds [] pl ln ds 0 := ⟨rfl, fun k h => by omega⟩
theorem zr_holds_push {L : List (Nat × Nat × Nat)} {pl ln ds : Nat → Nat} {n q x y : Nat} (h : zr_holds L pl ln ds n) : zr_holds (L ++ [(q, x, y)]) (zk_up pl n q) (zk_up ln n x) (zk_up ds n y) (n + 1) := by
  obtain ⟨h1, h2⟩ := h
  refine ⟨by rw [List.length_append, h1]; rfl, fun k hk => ?_⟩
  by_cases hkn : k = n
  · subst hkn
    rw [List.getElem?_append_right (by omega), h1, Nat.sub_self, zk_up_eq, zk_up_eq, zk_up_eq]
    rfl
  · rw [List.getElem?_append_left (by omega), zk_up_ne hkn, zk_up_ne hkn, zk_up_ne hkn]
    exact h2 k (by omega)
/-- a row object holds the row of a way -/
def zr_row (w : Nat) (g : Nat → Nat) (ah sz sp dp : Nat) (ct pb bw rc : Nat) (pl ln ds : Nat → Nat) : Prop :=
  ∃ sel la se th, zr_ok w g ah sz sp dp sel ∧ zr_holds (zr_pcs sel sz sz 0) pl ln ds ct ∧ zr_bits (zr_pcs sel sz sz 0) = (pb, bw, rc, la, se, th)
theorem zr_pc_b {ln ds a b c d e f a2 b2 c2 d2 e2 f2 : Nat} (h : zr_pc ln ds a b c d e f = (a2, b2, c2, d2, e2, f2)) (h1 : ds ≤ 300) (h2 : d ≤ 300) (h3 : e ≤ 300) (h4 : f ≤ 300) : d2 ≤ 300 ∧ e2 ≤ 300 ∧ f2 ≤ 300 := by
  unfold zr_pc zr_cm zr_rem at h
  split at h
  · cases h; exact ⟨h2, h3, h4⟩
  · split at h <;> split at h <;> (try split at h) <;> cases h <;> exact ⟨by omega, by omega, by omega⟩
theorem zk_wz (a b : Prop) [Decidable a] [Decidable b] : narrow .boolean (.int (if a then nI 0 else if b then nI 0 else nI 1)) = .int (if a then nI 0 else if b then nI 0 else nI 1) := by
  by_cases h : a
  · rw [if_pos h]; decide +kernel
  · by_cases h2 : b
    · rw [if_neg h, if_pos h2]; decide +kernel
    · rw [if_neg h, if_neg h2]; decide +kernel
theorem zr_sel_le {w : Nat} {g : Nat → Nat} {ah sz sp dp : Nat} {sel : Nat → Nat × Nat} (hw : w ≤ 3) (h : zr_ok w g ah sz sp dp sel) {q le di : Nat} (hq : q < sz) (hs : sel q = (le, di)) : le ≤ 40 := by
  by_cases h3 : 3 ≤ le
  · have h1 := zr_ok_in hw h hq (by rw [hs]; exact h3)
    rw [hs] at h1
    have h2 : le ≤ min 40 (sz - q) := h1.1
    omega
  · omega
def rmX4_isWay : Room := { frames := 0, cells := 0, slots := 0, locals := 0 }
set_option maxHeartbeats 4000000 in
set_option maxRecDepth 100000 in
/-- isWay -/
theorem c_isWay (l : Launch) (D : va_G) (cI cZ cR : ClassId) (w_ : Int32) : zk_Rd l yX4_isWay wsX4_isWay rmX4_isWay D (zk_t cI cZ cR) [.int w_] [] (if w_ < 0 then nI 0 else if nI 4 ≤ w_ then nI 0 else nI 1) := by
  refine zk_enterR RX4 cX4_isWay 1 .boolean (by decide) rfl rfl (Nat.le_of_ble_eq_true rfl) (Or.inr ⟨rfl, zk_wz _ _⟩) ?_
  intro p e s m args below meth c ls Q hx hb hml hown hts hP hK hD hN hl hret
  have hl : lv_has ls 1 [(0, .int w_)] := hl
  refine lv_iload_n hx hb dX4_isWay_0 rfl (lv_at hl 0 rfl) ?_
  refine lv_if_lt (tgt := 13) hx hb dX4_isWay_1 (by decide) (fun c_1 => ?_) (fun c_1 => ?_)
  · skip
    refine lv_iconst (v := (nI 0)) hx hb dX4_isWay_13 (by decide +kernel) ?_
    exact hret _ ls _ dX4_isWay_14 (by rw [if_pos c_1])
  · skip
    refine lv_iload_n hx hb dX4_isWay_4 rfl (lv_at hl 0 rfl) ?_
    refine lv_iconst (v := (nI 4)) hx hb dX4_isWay_5 (by decide +kernel) ?_
    refine lv_icmp_ge (tgt := 13) hx hb dX4_isWay_6 (by decide) (fun c_2 => ?_) (fun c_2 => ?_)
    · skip
      refine lv_iconst (v := (nI 0)) hx hb dX4_isWay_13 (by decide +kernel) ?_
      exact hret _ ls _ dX4_isWay_14 (by rw [if_neg c_1, if_pos c_2])
    · skip
      refine lv_iconst (v := (nI 1)) hx hb dX4_isWay_9 (by decide +kernel) ?_
      refine lv_goto (tgt := 14) hx hb dX4_isWay_10 (by decide) ?_
      exact hret _ ls _ dX4_isWay_14 (by rw [if_neg c_1, if_neg c_2])
def rmX4_isPlace : Room := { frames := 0, cells := 0, slots := 0, locals := 0 }
set_option maxRecDepth 20000 in
theorem ziX4_isPlace_3 : ∀ w ∈ wsX30, w ∈ wsX4_isPlace := by decide +kernel
set_option maxRecDepth 20000 in
theorem ziX4_isPlace_4 : ∀ w ∈ wsX40, w ∈ wsX4_isPlace := by decide +kernel
set_option maxHeartbeats 4000000 in
set_option maxRecDepth 100000 in
/-- isPlace -/
theorem c_isPlace (l : Launch) (D : va_G) (cI cZ cR : ClassId) (x_ : Nat) (q_ : Nat) (f : Nat) (k_ : Nat) (t : Nat) (b : Nat) (ah : Nat) (sz : Nat) (g : Nat → Nat) (p_ : Int32) : zk_Rd l yX4_isPlace wsX4_isPlace rmX4_isPlace D (zk_t cI cZ cR) [.ref x_, .int p_] [(x_, .inr (4, [.ref t, .ref f, .ref k_, .ref q_])), (t, .inr (3, [.ref b, .int (nI ah), .int (nI sz)])), (b, zk_a cI 360 g)] (if p_ < 0 then nI 0 else if nI sz ≤ p_ then nI 0 else nI 1) := by
  refine zk_enterR RX4 cX4_isPlace 2 .boolean (by decide) rfl rfl (Nat.le_of_ble_eq_true rfl) (Or.inr ⟨rfl, zk_wz _ _⟩) ?_
  intro p e s m args below meth c ls Q hx hb hml hown hts hP hK hD hN hl hret
  have hl : lv_has ls 2 [(0, .ref x_), (1, .int p_)] := hl
  have f12 := hts (.fieldLink RX4 12 "MatchFinders" "text" "LMatchFinders$Text;") (by decide +kernel)
  have f43 := hts (.fieldLink RX4 43 "MatchFinders$Text" "size" "I") (by decide +kernel)
  refine lv_iload_n hx hb dX4_isPlace_0 rfl (lv_at hl 1 rfl) ?_
  refine lv_if_lt (tgt := 19) hx hb dX4_isPlace_1 (by decide) (fun c_1 => ?_) (fun c_1 => ?_)
  · skip
    refine lv_iconst (v := (nI 0)) hx hb dX4_isPlace_19 (by decide +kernel) ?_
    exact hret _ ls _ dX4_isPlace_20 (by rw [if_pos c_1])
  · skip
    refine lv_iload_n hx hb dX4_isPlace_4 rfl (lv_at hl 1 rfl) ?_
    refine lv_aload_n hx hb dX4_isPlace_5 rfl (lv_at hl 0 rfl) ?_
    refine va_get (D := D) (ci := 4) (v := .ref t) (C := RX4) (T := TX4) (N := 4) hx hb hts ziX4_isPlace_4 hown hK hP 0 rfl rfl 0 (by decide) f12 (fun _ h9 => h9) rfl dX4_isPlace_6 ?_
    refine va_get (D := D) (ci := 3) (v := .int (nI sz)) (C := RX3) (T := TX3) (N := 3) hx hb hts ziX4_isPlace_3 hown hK hP 1 rfl rfl 2 (by decide) f43 (fun _ h9 => h9) rfl dX4_isPlace_9 ?_
    refine lv_icmp_ge (tgt := 19) hx hb dX4_isPlace_12 (by decide) (fun c_2 => ?_) (fun c_2 => ?_)
    · skip
      refine lv_iconst (v := (nI 0)) hx hb dX4_isPlace_19 (by decide +kernel) ?_
      exact hret _ ls _ dX4_isPlace_20 (by rw [if_neg c_1, if_pos c_2])
    · skip
      refine lv_iconst (v := (nI 1)) hx hb dX4_isPlace_15 (by decide +kernel) ?_
      refine lv_goto (tgt := 20) hx hb dX4_isPlace_16 (by decide) ?_
      exact hret _ ls _ dX4_isPlace_20 (by rw [if_neg c_1, if_neg c_2])
def rmX4_forgetRows : Room := { frames := 0, cells := 0, slots := 0, locals := 0 }
set_option maxRecDepth 20000 in
theorem ziX4_forgetRows_2 : ∀ w ∈ wsX20, w ∈ wsX4_forgetRows := by decide +kernel
set_option maxRecDepth 20000 in
theorem ziX4_forgetRows_4 : ∀ w ∈ wsX40, w ∈ wsX4_forgetRows := by decide +kernel
set_option maxHeartbeats 4000000 in
set_option maxRecDepth 100000 in
/-- forgetRows -/
theorem c_forgetRows (l : Launch) (D : va_G) (cI cZ cR : ClassId) (x_ : Nat) (q_ : Nat) (t : Nat) (f : Nat) (k_ : Nat) (rf : Nat → Option Nat) (r0 : Nat) (ra0 : Nat) (rb0 : Nat) (rd0 : Nat) (ct0 : Nat) (pb0 : Nat) (bw0 : Nat) (rc0 : Nat) (to0 : Nat) (la0 : Nat) (se0 : Nat) (th0 : Nat) (r1 : Nat) (ra1 : Nat) (rb1 : Nat) (rd1 : Nat) (ct1 : Nat) (pb1 : Nat) (bw1 : Nat) (rc1 : Nat) (to1 : Nat) (la1 : Nat) (se1 : Nat) (th1 : Nat) (r2 : Nat) (ra2 : Nat) (rb2 : Nat) (rd2 : Nat) (ct2 : Nat) (pb2 : Nat) (bw2 : Nat) (rc2 : Nat) (to2 : Nat) (la2 : Nat) (se2 : Nat) (th2 : Nat) (r3 : Nat) (ra3 : Nat) (rb3 : Nat) (rd3 : Nat) (ct3 : Nat) (pb3 : Nat) (bw3 : Nat) (rc3 : Nat) (to3 : Nat) (la3 : Nat) (se3 : Nat) (th3 : Nat) (h0 : rf 0 = some r0) (h1 : rf 1 = some r1) (h2 : rf 2 = some r2) (h3 : rf 3 = some r3) : zk_Wv l yX4_forgetRows wsX4_forgetRows rmX4_forgetRows D (zk_t cI cZ cR) [.ref x_] [(x_, .inr (4, [.ref t, .ref f, .ref k_, .ref q_])), (q_, .inl (cR, 4, .inr (.inr (.inr (.inr rf))))), (r0, .inr (2, [.ref ra0, .ref rb0, .ref rd0, .int (nI ct0), .int (nI pb0), .int (nI bw0), .int (nI rc0), .int (nI to0), .int (nI la0), .int (nI se0), .int (nI th0)])), (r1, .inr (2, [.ref ra1, .ref rb1, .ref rd1, .int (nI ct1), .int (nI pb1), .int (nI bw1), .int (nI rc1), .int (nI to1), .int (nI la1), .int (nI se1), .int (nI th1)])), (r2, .inr (2, [.ref ra2, .ref rb2, .ref rd2, .int (nI ct2), .int (nI pb2), .int (nI bw2), .int (nI rc2), .int (nI to2), .int (nI la2), .int (nI se2), .int (nI th2)])), (r3, .inr (2, [.ref ra3, .ref rb3, .ref rd3, .int (nI ct3), .int (nI pb3), .int (nI bw3), .int (nI rc3), .int (nI to3), .int (nI la3), .int (nI se3), .int (nI th3)]))] (fun _ : Unit => True) (fun _ => [(x_, .inr (4, [.ref t, .ref f, .ref k_, .ref q_])), (q_, .inl (cR, 4, .inr (.inr (.inr (.inr rf))))), (r0, .inr (2, [.ref ra0, .ref rb0, .ref rd0, .int (nI ct0), .int (nI pb0), .int (nI bw0), .int (nI rc0), .int (nI 0), .int (nI la0), .int (nI se0), .int (nI th0)])), (r1, .inr (2, [.ref ra1, .ref rb1, .ref rd1, .int (nI ct1), .int (nI pb1), .int (nI bw1), .int (nI rc1), .int (nI 0), .int (nI la1), .int (nI se1), .int (nI th1)])), (r2, .inr (2, [.ref ra2, .ref rb2, .ref rd2, .int (nI ct2), .int (nI pb2), .int (nI bw2), .int (nI rc2), .int (nI 0), .int (nI la2), .int (nI se2), .int (nI th2)])), (r3, .inr (2, [.ref ra3, .ref rb3, .ref rd3, .int (nI ct3), .int (nI pb3), .int (nI bw3), .int (nI rc3), .int (nI 0), .int (nI la3), .int (nI se3), .int (nI th3)]))]) := by
  refine zk_enterV RX4 cX4_forgetRows 2 (by decide) rfl rfl (Nat.le_of_ble_eq_true rfl) ?_
  intro p e s m args below meth c ls A Q hx hb hml hown hts hP hK hD hN hl hA hS hret
  have hl : lv_has ls 2 [(0, .ref x_)] := hl
  have f38 := hts (.fieldLink RX4 38 "MatchFinders" "rows" "[LMatchFinders$Row;") (by decide +kernel)
  have f141 := hts (.fieldLink RX4 141 "MatchFinders$Row" "told" "Z") (by decide +kernel)
  refine lv_iconst (v := (nI 0)) hx hb dX4_forgetRows_0 (by decide +kernel) ?_
  refine lv_istore_n (lv' := [(1, .int (nI 0)), (0, .ref x_)]) hx hb dX4_forgetRows_1 rfl hl (by decide) rfl (fun ls hl => ?_)
  refine lv_iload_n hx hb dX4_forgetRows_2 rfl (lv_at hl 0 rfl) ?_
  refine lv_iconst (v := (nI 4)) hx hb dX4_forgetRows_3 (by decide +kernel) ?_
  refine zk_icmp_ge (tgt := 23) hx hb (by omega) (by omega) dX4_forgetRows_4 (by decide) (fun c_1 => absurd c_1 (by omega)) (fun c_1 => ?_)
  refine lv_aload_n hx hb dX4_forgetRows_7 rfl (lv_at hl 1 rfl) ?_
  refine va_get (D := D) (ci := 4) (v := .ref q_) (C := RX4) (T := TX4) (N := 4) hx hb hts ziX4_forgetRows_4 hown hK hP 0 rfl rfl 3 (by decide) f38 (fun _ h9 => h9) rfl dX4_forgetRows_8 ?_
  refine lv_iload_n hx hb dX4_forgetRows_11 rfl (lv_at hl 0 rfl) ?_
  refine zk_ald (i := 0) (y := r0) hx hb hK hP 1 2 rfl rfl (by omega) (by decide) h0 dX4_forgetRows_12 ?_
  refine lv_iconst (v := (nI 0)) hx hb dX4_forgetRows_13 (by decide +kernel) ?_
  refine va_put (D := D) (ci := 2) (v := .int (nI 0)) (ty := .boolean) (C := RX2) (T := TX2) (N := 11) hx hb hts ziX4_forgetRows_2 tyX2 tyX2_ok nmX2 hown hK hP (zk_D hD rfl) hS 2 rfl rfl 7 (by decide) f141 (fun _ h9 => h9) rfl (by decide +kernel) (by decide +kernel) (by decide +kernel) (Nat.le_of_ble_eq_true rfl) dX4_forgetRows_14 (fun H locs hP _ hS => ?_)
  have hP : va_P D vwCl [(x_, .inr (4, [.ref t, .ref f, .ref k_, .ref q_])), (q_, .inl (cR, 4, .inr (.inr (.inr (.inr rf))))), (r0, .inr (2, [.ref ra0, .ref rb0, .ref rd0, .int (nI ct0), .int (nI pb0), .int (nI bw0), .int (nI rc0), .int (nI 0), .int (nI la0), .int (nI se0), .int (nI th0)])), (r1, .inr (2, [.ref ra1, .ref rb1, .ref rd1, .int (nI ct1), .int (nI pb1), .int (nI bw1), .int (nI rc1), .int (nI to1), .int (nI la1), .int (nI se1), .int (nI th1)])), (r2, .inr (2, [.ref ra2, .ref rb2, .ref rd2, .int (nI ct2), .int (nI pb2), .int (nI bw2), .int (nI rc2), .int (nI to2), .int (nI la2), .int (nI se2), .int (nI th2)])), (r3, .inr (2, [.ref ra3, .ref rb3, .ref rd3, .int (nI ct3), .int (nI pb3), .int (nI bw3), .int (nI rc3), .int (nI to3), .int (nI la3), .int (nI se3), .int (nI th3)]))] H := hP
  refine lv_iinc (v := (nI 1)) (lv' := [(1, .int (nI 1)), (0, .ref x_)]) hx hb dX4_forgetRows_17 hl (k := 0) rfl (by rw [show Int32.ofInt 1 = (1 : Int32) from rfl, nI_1]) (by decide) rfl (fun ls hl => ?_)
  refine lv_goto (tgt := 2) hx hb dX4_forgetRows_20 (by decide) ?_
  refine lv_iload_n hx hb dX4_forgetRows_2 rfl (lv_at hl 0 rfl) ?_
  refine lv_iconst (v := (nI 4)) hx hb dX4_forgetRows_3 (by decide +kernel) ?_
  refine zk_icmp_ge (tgt := 23) hx hb (by omega) (by omega) dX4_forgetRows_4 (by decide) (fun c_2 => absurd c_2 (by omega)) (fun c_2 => ?_)
  refine lv_aload_n hx hb dX4_forgetRows_7 rfl (lv_at hl 1 rfl) ?_
  refine va_get (D := D) (ci := 4) (v := .ref q_) (C := RX4) (T := TX4) (N := 4) hx hb hts ziX4_forgetRows_4 hown hK hP 0 rfl rfl 3 (by decide) f38 (fun _ h9 => h9) rfl dX4_forgetRows_8 ?_
  refine lv_iload_n hx hb dX4_forgetRows_11 rfl (lv_at hl 0 rfl) ?_
  refine zk_ald (i := 1) (y := r1) hx hb hK hP 1 2 rfl rfl (by omega) (by decide) h1 dX4_forgetRows_12 ?_
  refine lv_iconst (v := (nI 0)) hx hb dX4_forgetRows_13 (by decide +kernel) ?_
  refine va_put (D := D) (ci := 2) (v := .int (nI 0)) (ty := .boolean) (C := RX2) (T := TX2) (N := 11) hx hb hts ziX4_forgetRows_2 tyX2 tyX2_ok nmX2 hown hK hP (zk_D hD rfl) hS 3 rfl rfl 7 (by decide) f141 (fun _ h9 => h9) rfl (by decide +kernel) (by decide +kernel) (by decide +kernel) (Nat.le_of_ble_eq_true rfl) dX4_forgetRows_14 (fun H locs hP _ hS => ?_)
  have hP : va_P D vwCl [(x_, .inr (4, [.ref t, .ref f, .ref k_, .ref q_])), (q_, .inl (cR, 4, .inr (.inr (.inr (.inr rf))))), (r0, .inr (2, [.ref ra0, .ref rb0, .ref rd0, .int (nI ct0), .int (nI pb0), .int (nI bw0), .int (nI rc0), .int (nI 0), .int (nI la0), .int (nI se0), .int (nI th0)])), (r1, .inr (2, [.ref ra1, .ref rb1, .ref rd1, .int (nI ct1), .int (nI pb1), .int (nI bw1), .int (nI rc1), .int (nI 0), .int (nI la1), .int (nI se1), .int (nI th1)])), (r2, .inr (2, [.ref ra2, .ref rb2, .ref rd2, .int (nI ct2), .int (nI pb2), .int (nI bw2), .int (nI rc2), .int (nI to2), .int (nI la2), .int (nI se2), .int (nI th2)])), (r3, .inr (2, [.ref ra3, .ref rb3, .ref rd3, .int (nI ct3), .int (nI pb3), .int (nI bw3), .int (nI rc3), .int (nI to3), .int (nI la3), .int (nI se3), .int (nI th3)]))] H := hP
  refine lv_iinc (v := (nI 2)) (lv' := [(1, .int (nI 2)), (0, .ref x_)]) hx hb dX4_forgetRows_17 hl (k := 0) rfl (by rw [show Int32.ofInt 1 = (1 : Int32) from rfl, nI_1]) (by decide) rfl (fun ls hl => ?_)
  refine lv_goto (tgt := 2) hx hb dX4_forgetRows_20 (by decide) ?_
  refine lv_iload_n hx hb dX4_forgetRows_2 rfl (lv_at hl 0 rfl) ?_
  refine lv_iconst (v := (nI 4)) hx hb dX4_forgetRows_3 (by decide +kernel) ?_
  refine zk_icmp_ge (tgt := 23) hx hb (by omega) (by omega) dX4_forgetRows_4 (by decide) (fun c_3 => absurd c_3 (by omega)) (fun c_3 => ?_)
  refine lv_aload_n hx hb dX4_forgetRows_7 rfl (lv_at hl 1 rfl) ?_
  refine va_get (D := D) (ci := 4) (v := .ref q_) (C := RX4) (T := TX4) (N := 4) hx hb hts ziX4_forgetRows_4 hown hK hP 0 rfl rfl 3 (by decide) f38 (fun _ h9 => h9) rfl dX4_forgetRows_8 ?_
  refine lv_iload_n hx hb dX4_forgetRows_11 rfl (lv_at hl 0 rfl) ?_
  refine zk_ald (i := 2) (y := r2) hx hb hK hP 1 2 rfl rfl (by omega) (by decide) h2 dX4_forgetRows_12 ?_
  refine lv_iconst (v := (nI 0)) hx hb dX4_forgetRows_13 (by decide +kernel) ?_
  refine va_put (D := D) (ci := 2) (v := .int (nI 0)) (ty := .boolean) (C := RX2) (T := TX2) (N := 11) hx hb hts ziX4_forgetRows_2 tyX2 tyX2_ok nmX2 hown hK hP (zk_D hD rfl) hS 4 rfl rfl 7 (by decide) f141 (fun _ h9 => h9) rfl (by decide +kernel) (by decide +kernel) (by decide +kernel) (Nat.le_of_ble_eq_true rfl) dX4_forgetRows_14 (fun H locs hP _ hS => ?_)
  have hP : va_P D vwCl [(x_, .inr (4, [.ref t, .ref f, .ref k_, .ref q_])), (q_, .inl (cR, 4, .inr (.inr (.inr (.inr rf))))), (r0, .inr (2, [.ref ra0, .ref rb0, .ref rd0, .int (nI ct0), .int (nI pb0), .int (nI bw0), .int (nI rc0), .int (nI 0), .int (nI la0), .int (nI se0), .int (nI th0)])), (r1, .inr (2, [.ref ra1, .ref rb1, .ref rd1, .int (nI ct1), .int (nI pb1), .int (nI bw1), .int (nI rc1), .int (nI 0), .int (nI la1), .int (nI se1), .int (nI th1)])), (r2, .inr (2, [.ref ra2, .ref rb2, .ref rd2, .int (nI ct2), .int (nI pb2), .int (nI bw2), .int (nI rc2), .int (nI 0), .int (nI la2), .int (nI se2), .int (nI th2)])), (r3, .inr (2, [.ref ra3, .ref rb3, .ref rd3, .int (nI ct3), .int (nI pb3), .int (nI bw3), .int (nI rc3), .int (nI to3), .int (nI la3), .int (nI se3), .int (nI th3)]))] H := hP
  refine lv_iinc (v := (nI 3)) (lv' := [(1, .int (nI 3)), (0, .ref x_)]) hx hb dX4_forgetRows_17 hl (k := 0) rfl (by rw [show Int32.ofInt 1 = (1 : Int32) from rfl, nI_1]) (by decide) rfl (fun ls hl => ?_)
  refine lv_goto (tgt := 2) hx hb dX4_forgetRows_20 (by decide) ?_
  refine lv_iload_n hx hb dX4_forgetRows_2 rfl (lv_at hl 0 rfl) ?_
  refine lv_iconst (v := (nI 4)) hx hb dX4_forgetRows_3 (by decide +kernel) ?_
  refine zk_icmp_ge (tgt := 23) hx hb (by omega) (by omega) dX4_forgetRows_4 (by decide) (fun c_4 => absurd c_4 (by omega)) (fun c_4 => ?_)
  refine lv_aload_n hx hb dX4_forgetRows_7 rfl (lv_at hl 1 rfl) ?_
  refine va_get (D := D) (ci := 4) (v := .ref q_) (C := RX4) (T := TX4) (N := 4) hx hb hts ziX4_forgetRows_4 hown hK hP 0 rfl rfl 3 (by decide) f38 (fun _ h9 => h9) rfl dX4_forgetRows_8 ?_
  refine lv_iload_n hx hb dX4_forgetRows_11 rfl (lv_at hl 0 rfl) ?_
  refine zk_ald (i := 3) (y := r3) hx hb hK hP 1 2 rfl rfl (by omega) (by decide) h3 dX4_forgetRows_12 ?_
  refine lv_iconst (v := (nI 0)) hx hb dX4_forgetRows_13 (by decide +kernel) ?_
  refine va_put (D := D) (ci := 2) (v := .int (nI 0)) (ty := .boolean) (C := RX2) (T := TX2) (N := 11) hx hb hts ziX4_forgetRows_2 tyX2 tyX2_ok nmX2 hown hK hP (zk_D hD rfl) hS 5 rfl rfl 7 (by decide) f141 (fun _ h9 => h9) rfl (by decide +kernel) (by decide +kernel) (by decide +kernel) (Nat.le_of_ble_eq_true rfl) dX4_forgetRows_14 (fun H locs hP _ hS => ?_)
  have hP : va_P D vwCl [(x_, .inr (4, [.ref t, .ref f, .ref k_, .ref q_])), (q_, .inl (cR, 4, .inr (.inr (.inr (.inr rf))))), (r0, .inr (2, [.ref ra0, .ref rb0, .ref rd0, .int (nI ct0), .int (nI pb0), .int (nI bw0), .int (nI rc0), .int (nI 0), .int (nI la0), .int (nI se0), .int (nI th0)])), (r1, .inr (2, [.ref ra1, .ref rb1, .ref rd1, .int (nI ct1), .int (nI pb1), .int (nI bw1), .int (nI rc1), .int (nI 0), .int (nI la1), .int (nI se1), .int (nI th1)])), (r2, .inr (2, [.ref ra2, .ref rb2, .ref rd2, .int (nI ct2), .int (nI pb2), .int (nI bw2), .int (nI rc2), .int (nI 0), .int (nI la2), .int (nI se2), .int (nI th2)])), (r3, .inr (2, [.ref ra3, .ref rb3, .ref rd3, .int (nI ct3), .int (nI pb3), .int (nI bw3), .int (nI rc3), .int (nI 0), .int (nI la3), .int (nI se3), .int (nI th3)]))] H := hP
  refine lv_iinc (v := (nI 4)) (lv' := [(1, .int (nI 4)), (0, .ref x_)]) hx hb dX4_forgetRows_17 hl (k := 0) rfl (by rw [show Int32.ofInt 1 = (1 : Int32) from rfl, nI_1]) (by decide) rfl (fun ls hl => ?_)
  refine lv_goto (tgt := 2) hx hb dX4_forgetRows_20 (by decide) ?_
  refine lv_iload_n hx hb dX4_forgetRows_2 rfl (lv_at hl 0 rfl) ?_
  refine lv_iconst (v := (nI 4)) hx hb dX4_forgetRows_3 (by decide +kernel) ?_
  refine zk_icmp_ge (tgt := 23) hx hb (by omega) (by omega) dX4_forgetRows_4 (by decide) (fun c_5 => ?_) (fun c_5 => absurd c_5 (by omega))
  exact hret _ ls _ _ () dX4_forgetRows_23 trivial hP hS
def rmX4_choose : Room := { frames := 5, cells := 0, slots := 0, locals := 111 }
set_option maxRecDepth 20000 in
theorem ziX4_choose_1 : ∀ w ∈ wsX10, w ∈ wsX4_choose := by decide +kernel
set_option maxRecDepth 20000 in
theorem ziX4_choose_4 : ∀ w ∈ wsX40, w ∈ wsX4_choose := by decide +kernel
set_option maxHeartbeats 4000000 in
set_option maxRecDepth 100000 in
/-- choose -/
theorem c_choose (l : Launch) (D : va_G) (cI cZ cR : ClassId) (x_ : Nat) (q_ : Nat) (f : Nat) (sp : Nat) (dp : Nat) (fa : Nat) (fb : Nat) (fc : Nat) (le : Nat) (di : Nat) (fl : Nat → Nat) (fd : Nat → Nat) (t : Nat) (b : Nat) (ah : Nat) (sz : Nat) (g : Nat → Nat) (k_ : Nat) (ka : Nat) (kb : Nat) (kd : Nat) (co : Nat → Nat) (pn : Nat → Nat) (pd : Nat → Nat) (w_ : Nat) (p_ : Nat) (h0 : ah ≤ 60) (h1 : sz ≤ 300) (h2 : sp ≤ 300) (h3 : dp ≤ 64) (h4 : ∀ j, g j < 256) (h5 : w_ ≤ 3) (h6 : p_ < sz) : zk_Wv l yX4_choose wsX4_choose rmX4_choose D (zk_t cI cZ cR) [.ref x_, .int (nI w_), .int (nI p_)] [(x_, .inr (4, [.ref t, .ref f, .ref k_, .ref q_])), (f, .inr (0, [.ref t, .int (nI sp), .int (nI dp), .ref fa, .ref fb, .int (nI fc), .int (nI le), .int (nI di)])), (fa, zk_a cI 38 fl), (fb, zk_a cI 38 fd), (t, .inr (3, [.ref b, .int (nI ah), .int (nI sz)])), (b, zk_a cI 360 g), (k_, .inr (1, [.ref ka, .ref kb, .ref kd])), (ka, zk_a cI 301 co), (kb, zk_a cI 300 pn), (kd, zk_a cI 300 pd)] (fun u : (Nat → Nat) × (Nat → Nat) × Nat × Nat × Nat => match u with | (fl2, fd2, fc2, le2, di2) => zr_sel w_ g ah sz sp dp pn pd p_ = (le2, di2)) (fun u => match u with | (fl2, fd2, fc2, le2, di2) => [(x_, .inr (4, [.ref t, .ref f, .ref k_, .ref q_])), (f, .inr (0, [.ref t, .int (nI sp), .int (nI dp), .ref fa, .ref fb, .int (nI fc2), .int (nI le2), .int (nI di2)])), (fa, zk_a cI 38 fl2), (fb, zk_a cI 38 fd2), (t, .inr (3, [.ref b, .int (nI ah), .int (nI sz)])), (b, zk_a cI 360 g), (k_, .inr (1, [.ref ka, .ref kb, .ref kd])), (ka, zk_a cI 301 co), (kb, zk_a cI 300 pn), (kd, zk_a cI 300 pd)]) := by
  refine zk_enterV RX4 cX4_choose 3 (by decide) rfl rfl (Nat.le_of_ble_eq_true rfl) ?_
  intro p e s m args below meth c ls A Q hx hb hml hown hts hP hK hD hN hl hA hS hret
  have hl : lv_has ls 3 [(0, .ref x_), (1, .int (nI w_)), (2, .int (nI p_))] := hl
  have f25 := hts (.fieldLink RX4 25 "MatchFinders" "finder" "LMatchFinders$Finder;") (by decide +kernel)
  have f32 := hts (.fieldLink RX4 32 "MatchFinders" "plan" "LMatchFinders$Plan;") (by decide +kernel)
  have f162 := hts (.fieldLink RX4 162 "MatchFinders$Plan" "lengths" "[I") (by decide +kernel)
  have f163 := hts (.fieldLink RX4 163 "MatchFinders$Plan" "distances" "[I") (by decide +kernel)
  refine lv_iload_n hx hb dX4_choose_0 rfl (lv_at hl 1 rfl) ?_
  rcases (show w_ = 0 ∨ w_ = 1 ∨ w_ = 2 ∨ w_ = 3 by omega) with hw | hw | hw | hw
  · subst hw
    refine lv_tableIn (off := 27) (tgt := 28) hx hb dX4_choose_1 (by decide +kernel) (by decide +kernel) (by decide +kernel) (by decide) ?_
    refine lv_aload_n hx hb dX4_choose_28 rfl (lv_at hl 0 rfl) ?_
    refine va_get (D := D) (ci := 4) (v := .ref f) (C := RX4) (T := TX4) (N := 4) hx hb hts ziX4_choose_4 hown hK hP 0 rfl rfl 1 (by decide) f25 (fun _ h9 => h9) rfl dX4_choose_29 ?_
    refine lv_iload_n hx hb dX4_choose_32 rfl (lv_at hl 2 rfl) ?_
    refine zk_wrV (As := [.int (nI p_)]) (rest := []) ⟨hx, hb, hml, hown, hts⟩ hN (c_seekLongest l D cI cZ cR f sp dp fa fb fc le di fl fd t b ah sz g p_ (by omega) (by omega) (by omega) (by omega) h4) (cwV 1 hts gX4_choose_X0_seekLongest rfl rfl rfl (by decide +kernel) ⟨Nat.le_of_ble_eq_true rfl, Nat.le_of_ble_eq_true rfl⟩) hK hP (zk_D hD rfl) hS hA [1, 2, 3, 4, 5] rfl (by decide) (fun _ => rfl) rfl rfl rfl rfl hl.1 rfl (Nat.le_of_ble_eq_true rfl) dX4_choose_33 ⟨Nat.zero_le _, Nat.zero_le _⟩ (fun u H locs hu hP hS => ?_)
    obtain ⟨fl2_1, fd2_2, fc2_3, le2_4, di2_5⟩ := u
    have hu : zr_last (zr_F g (ah + p_) (min 40 (sz - p_)) (min sp (ah + p_))) = (le2_4, di2_5) := hu
    have hP : va_P D vwCl [(x_, .inr (4, [.ref t, .ref f, .ref k_, .ref q_])), (f, .inr (0, [.ref t, .int (nI sp), .int (nI dp), .ref fa, .ref fb, .int (nI fc2_3), .int (nI le2_4), .int (nI di2_5)])), (fa, zk_a cI 38 fl2_1), (fb, zk_a cI 38 fd2_2), (t, .inr (3, [.ref b, .int (nI ah), .int (nI sz)])), (b, zk_a cI 360 g), (k_, .inr (1, [.ref ka, .ref kb, .ref kd])), (ka, zk_a cI 301 co), (kb, zk_a cI 300 pn), (kd, zk_a cI 300 pd)] H := hP
    refine lv_goto (tgt := 86) hx hb dX4_choose_36 (by decide) ?_
    exact hret _ ls _ _ (fl2_1, fd2_2, fc2_3, le2_4, di2_5) dX4_choose_86 (by rw [zr_sel, if_pos rfl]; exact hu) hP hS
  · subst hw
    refine lv_tableIn (off := 38) (tgt := 39) hx hb dX4_choose_1 (by decide +kernel) (by decide +kernel) (by decide +kernel) (by decide) ?_
    refine lv_aload_n hx hb dX4_choose_39 rfl (lv_at hl 0 rfl) ?_
    refine va_get (D := D) (ci := 4) (v := .ref f) (C := RX4) (T := TX4) (N := 4) hx hb hts ziX4_choose_4 hown hK hP 0 rfl rfl 1 (by decide) f25 (fun _ h9 => h9) rfl dX4_choose_40 ?_
    refine lv_iload_n hx hb dX4_choose_43 rfl (lv_at hl 2 rfl) ?_
    refine zk_wrV (As := [.int (nI p_)]) (rest := []) ⟨hx, hb, hml, hown, hts⟩ hN (c_seekChained l D cI cZ cR f sp dp fa fb fc le di fl fd t b ah sz g p_ (by omega) (by omega) (by omega) (by omega) h4 (by omega)) (cwV 1 hts gX4_choose_X0_seekChained rfl rfl rfl (by decide +kernel) ⟨Nat.le_of_ble_eq_true rfl, Nat.le_of_ble_eq_true rfl⟩) hK hP (zk_D hD rfl) hS hA [1, 2, 3, 4, 5] rfl (by decide) (fun _ => rfl) rfl rfl rfl rfl hl.1 rfl (Nat.le_of_ble_eq_true rfl) dX4_choose_44 ⟨Nat.zero_le _, Nat.zero_le _⟩ (fun u H locs hu hP hS => ?_)
    obtain ⟨le2_6, di2_7⟩ := u
    have hu : zr_ch (fun d => zr_reach g (ah + p_) (ah + p_ - d) (min 40 (sz - p_))) dp (min sp (ah + p_)) 1 0 0 0 = (le2_6, di2_7) := hu
    have hP : va_P D vwCl [(x_, .inr (4, [.ref t, .ref f, .ref k_, .ref q_])), (f, .inr (0, [.ref t, .int (nI sp), .int (nI dp), .ref fa, .ref fb, .int (nI fc), .int (nI le2_6), .int (nI di2_7)])), (fa, zk_a cI 38 fl), (fb, zk_a cI 38 fd), (t, .inr (3, [.ref b, .int (nI ah), .int (nI sz)])), (b, zk_a cI 360 g), (k_, .inr (1, [.ref ka, .ref kb, .ref kd])), (ka, zk_a cI 301 co), (kb, zk_a cI 300 pn), (kd, zk_a cI 300 pd)] H := hP
    refine lv_goto (tgt := 86) hx hb dX4_choose_47 (by decide) ?_
    exact hret _ ls _ _ (fl, fd, fc, le2_6, di2_7) dX4_choose_86 (by rw [zr_sel, if_neg (by decide), if_pos rfl]; exact hu) hP hS
  · subst hw
    refine lv_tableIn (off := 49) (tgt := 50) hx hb dX4_choose_1 (by decide +kernel) (by decide +kernel) (by decide +kernel) (by decide) ?_
    refine lv_aload_n hx hb dX4_choose_50 rfl (lv_at hl 0 rfl) ?_
    refine va_get (D := D) (ci := 4) (v := .ref f) (C := RX4) (T := TX4) (N := 4) hx hb hts ziX4_choose_4 hown hK hP 0 rfl rfl 1 (by decide) f25 (fun _ h9 => h9) rfl dX4_choose_51 ?_
    refine lv_iload_n hx hb dX4_choose_54 rfl (lv_at hl 2 rfl) ?_
    refine zk_wrV (As := [.int (nI p_)]) (rest := []) ⟨hx, hb, hml, hown, hts⟩ hN (c_seekLookingAhead l D cI cZ cR f sp dp fa fb fc le di fl fd t b ah sz g p_ (by omega) (by omega) (by omega) (by omega) h4) (cwV 1 hts gX4_choose_X0_seekLookingAhead rfl rfl rfl (by decide +kernel) ⟨Nat.le_of_ble_eq_true rfl, Nat.le_of_ble_eq_true rfl⟩) hK hP (zk_D hD rfl) hS hA [1, 2, 3, 4, 5] rfl (by decide) (fun _ => rfl) rfl rfl rfl rfl hl.1 rfl (Nat.le_of_ble_eq_true rfl) dX4_choose_55 ⟨Nat.zero_le _, Nat.zero_le _⟩ (fun u H locs hu hP hS => ?_)
    obtain ⟨fl2_8, fd2_9, fc2_10, le2_11, di2_12⟩ := u
    have hu : (if (zr_last (zr_F g (ah + p_) (min 40 (sz - p_)) (min sp (ah + p_)))).1 < (zr_last (zr_F g (ah + (p_ + 1)) (min 40 (sz - (p_ + 1))) (min sp (ah + (p_ + 1))))).1 then (0, 0) else zr_last (zr_F g (ah + p_) (min 40 (sz - p_)) (min sp (ah + p_)))) = (le2_11, di2_12) := hu
    have hP : va_P D vwCl [(x_, .inr (4, [.ref t, .ref f, .ref k_, .ref q_])), (f, .inr (0, [.ref t, .int (nI sp), .int (nI dp), .ref fa, .ref fb, .int (nI fc2_10), .int (nI le2_11), .int (nI di2_12)])), (fa, zk_a cI 38 fl2_8), (fb, zk_a cI 38 fd2_9), (t, .inr (3, [.ref b, .int (nI ah), .int (nI sz)])), (b, zk_a cI 360 g), (k_, .inr (1, [.ref ka, .ref kb, .ref kd])), (ka, zk_a cI 301 co), (kb, zk_a cI 300 pn), (kd, zk_a cI 300 pd)] H := hP
    refine lv_goto (tgt := 86) hx hb dX4_choose_58 (by decide) ?_
    exact hret _ ls _ _ (fl2_8, fd2_9, fc2_10, le2_11, di2_12) dX4_choose_86 (by rw [zr_sel, if_neg (by decide), if_neg (by decide), if_pos rfl]; exact hu) hP hS
  · subst hw
    refine lv_tableOut (tgt := 61) hx hb dX4_choose_1 (Or.inr (by decide +kernel)) (by decide) ?_
    refine lv_aload_n hx hb dX4_choose_61 rfl (lv_at hl 0 rfl) ?_
    refine va_get (D := D) (ci := 4) (v := .ref f) (C := RX4) (T := TX4) (N := 4) hx hb hts ziX4_choose_4 hown hK hP 0 rfl rfl 1 (by decide) f25 (fun _ h9 => h9) rfl dX4_choose_62 ?_
    refine lv_aload_n hx hb dX4_choose_65 rfl (lv_at hl 0 rfl) ?_
    refine va_get (D := D) (ci := 4) (v := .ref k_) (C := RX4) (T := TX4) (N := 4) hx hb hts ziX4_choose_4 hown hK hP 0 rfl rfl 2 (by decide) f32 (fun _ h9 => h9) rfl dX4_choose_66 ?_
    refine va_get (D := D) (ci := 1) (v := .ref kb) (C := RX1) (T := TX1) (N := 3) hx hb hts ziX4_choose_1 hown hK hP 6 rfl rfl 1 (by decide) f162 (fun _ h9 => h9) rfl dX4_choose_69 ?_
    refine lv_iload_n hx hb dX4_choose_72 rfl (lv_at hl 2 rfl) ?_
    refine zk_ild (v := pn p_) hx hb hK hP 8 0 (i := p_) (g := pn) rfl rfl (by omega) (by decide) rfl dX4_choose_73 ?_
    refine lv_aload_n hx hb dX4_choose_74 rfl (lv_at hl 0 rfl) ?_
    refine va_get (D := D) (ci := 4) (v := .ref k_) (C := RX4) (T := TX4) (N := 4) hx hb hts ziX4_choose_4 hown hK hP 0 rfl rfl 2 (by decide) f32 (fun _ h9 => h9) rfl dX4_choose_75 ?_
    refine va_get (D := D) (ci := 1) (v := .ref kd) (C := RX1) (T := TX1) (N := 3) hx hb hts ziX4_choose_1 hown hK hP 6 rfl rfl 2 (by decide) f163 (fun _ h9 => h9) rfl dX4_choose_78 ?_
    refine lv_iload_n hx hb dX4_choose_81 rfl (lv_at hl 2 rfl) ?_
    refine zk_ild (v := pd p_) hx hb hK hP 9 0 (i := p_) (g := pd) rfl rfl (by omega) (by decide) rfl dX4_choose_82 ?_
    refine zk_wrV (As := [.int (nI (pn p_)), .int (nI (pd p_))]) (rest := []) ⟨hx, hb, hml, hown, hts⟩ hN (c_take l D cI cZ cR f t sp dp fa fb fc le di (pn p_) (pd p_)) (cwV 2 hts gX4_choose_X0_take rfl rfl rfl (by decide +kernel) ⟨Nat.le_of_ble_eq_true rfl, Nat.le_of_ble_eq_true rfl⟩) hK hP (zk_D hD rfl) hS hA [1] rfl (by decide) (fun _ => rfl) rfl rfl rfl rfl hl.1 rfl (Nat.le_of_ble_eq_true rfl) dX4_choose_83 ⟨Nat.zero_le _, Nat.zero_le _⟩ (fun u H locs hu9 hP hS => ?_)
    have hP : va_P D vwCl [(x_, .inr (4, [.ref t, .ref f, .ref k_, .ref q_])), (f, .inr (0, [.ref t, .int (nI sp), .int (nI dp), .ref fa, .ref fb, .int (nI fc), .int (nI (pn p_)), .int (nI (pd p_))])), (fa, zk_a cI 38 fl), (fb, zk_a cI 38 fd), (t, .inr (3, [.ref b, .int (nI ah), .int (nI sz)])), (b, zk_a cI 360 g), (k_, .inr (1, [.ref ka, .ref kb, .ref kd])), (ka, zk_a cI 301 co), (kb, zk_a cI 300 pn), (kd, zk_a cI 300 pd)] H := hP
    exact hret _ ls _ _ (fl, fd, fc, (pn p_), (pd p_)) dX4_choose_86 (by rw [zr_sel, if_neg (by decide), if_neg (by decide), if_neg (by decide)]) hP hS
def rmX4_rowOf : Room := { frames := 6, cells := 0, slots := 0, locals := 133 }
set_option maxRecDepth 20000 in
theorem ziX4_rowOf_0 : ∀ w ∈ wsX00, w ∈ wsX4_rowOf := by decide +kernel
set_option maxRecDepth 20000 in
theorem ziX4_rowOf_2 : ∀ w ∈ wsX20, w ∈ wsX4_rowOf := by decide +kernel
set_option maxRecDepth 20000 in
theorem ziX4_rowOf_3 : ∀ w ∈ wsX30, w ∈ wsX4_rowOf := by decide +kernel
set_option maxRecDepth 20000 in
theorem ziX4_rowOf_4 : ∀ w ∈ wsX40, w ∈ wsX4_rowOf := by decide +kernel
set_option maxHeartbeats 4000000 in
set_option maxRecDepth 100000 in
/-- rowOf -/
theorem c_rowOf (l : Launch) (D : va_G) (cI cZ cR : ClassId) (x_ : Nat) (q_ : Nat) (f : Nat) (sp : Nat) (dp : Nat) (fa : Nat) (fb : Nat) (fc : Nat) (le : Nat) (di : Nat) (fl : Nat → Nat) (fd : Nat → Nat) (t : Nat) (b : Nat) (ah : Nat) (sz : Nat) (g : Nat → Nat) (k_ : Nat) (ka : Nat) (kb : Nat) (kd : Nat) (co : Nat → Nat) (pn : Nat → Nat) (pd : Nat → Nat) (rf : Nat → Option Nat) (r_ : Nat) (ra : Nat) (rb : Nat) (rd : Nat) (ct : Nat) (pb : Nat) (bw : Nat) (rc : Nat) (to : Nat) (la : Nat) (se : Nat) (th : Nat) (pl : Nat → Nat) (ln : Nat → Nat) (ds : Nat → Nat) (w_ : Nat) (h0 : ah ≤ 60) (h1 : sz ≤ 300) (h2 : sp ≤ 300) (h3 : dp ≤ 64) (h4 : ∀ j, g j < 256) (h5 : w_ ≤ 3) (h6 : rf w_ = some r_) (h7 : to = 0 ∨ (to = 1 ∧ zr_row w_ g ah sz sp dp ct pb bw rc pl ln ds)) : zk_Wr l yX4_rowOf wsX4_rowOf rmX4_rowOf D (zk_t cI cZ cR) [.ref x_, .int (nI w_)] [(x_, .inr (4, [.ref t, .ref f, .ref k_, .ref q_])), (f, .inr (0, [.ref t, .int (nI sp), .int (nI dp), .ref fa, .ref fb, .int (nI fc), .int (nI le), .int (nI di)])), (fa, zk_a cI 38 fl), (fb, zk_a cI 38 fd), (t, .inr (3, [.ref b, .int (nI ah), .int (nI sz)])), (b, zk_a cI 360 g), (k_, .inr (1, [.ref ka, .ref kb, .ref kd])), (ka, zk_a cI 301 co), (kb, zk_a cI 300 pn), (kd, zk_a cI 300 pd), (q_, .inl (cR, 4, .inr (.inr (.inr (.inr rf))))), (r_, .inr (2, [.ref ra, .ref rb, .ref rd, .int (nI ct), .int (nI pb), .int (nI bw), .int (nI rc), .int (nI to), .int (nI la), .int (nI se), .int (nI th)])), (ra, zk_a cI 300 pl), (rb, zk_a cI 300 ln), (rd, zk_a cI 300 ds)] r_ (fun u : (Nat → Nat) × (Nat → Nat) × (Nat → Nat) × (Nat → Nat) × (Nat → Nat) × Nat × Nat × Nat × (Nat → Nat) × (Nat → Nat) × (Nat → Nat) × Nat × Nat × Nat × Nat × Nat × Nat × Nat => match u with | (co2, pn2, pd2, fl2, fd2, fc2, le2, di2, pl2, ln2, ds2, ct2, pb2, bw2, rc2, la2, se2, th2) => zr_row w_ g ah sz sp dp ct2 pb2 bw2 rc2 pl2 ln2 ds2) (fun u => match u with | (co2, pn2, pd2, fl2, fd2, fc2, le2, di2, pl2, ln2, ds2, ct2, pb2, bw2, rc2, la2, se2, th2) => [(x_, .inr (4, [.ref t, .ref f, .ref k_, .ref q_])), (f, .inr (0, [.ref t, .int (nI sp), .int (nI dp), .ref fa, .ref fb, .int (nI fc2), .int (nI le2), .int (nI di2)])), (fa, zk_a cI 38 fl2), (fb, zk_a cI 38 fd2), (t, .inr (3, [.ref b, .int (nI ah), .int (nI sz)])), (b, zk_a cI 360 g), (k_, .inr (1, [.ref ka, .ref kb, .ref kd])), (ka, zk_a cI 301 co2), (kb, zk_a cI 300 pn2), (kd, zk_a cI 300 pd2), (q_, .inl (cR, 4, .inr (.inr (.inr (.inr rf))))), (r_, .inr (2, [.ref ra, .ref rb, .ref rd, .int (nI ct2), .int (nI pb2), .int (nI bw2), .int (nI rc2), .int (nI 1), .int (nI la2), .int (nI se2), .int (nI th2)])), (ra, zk_a cI 300 pl2), (rb, zk_a cI 300 ln2), (rd, zk_a cI 300 ds2)]) := by
  refine zk_enterA RX4 cX4_rowOf 6 "MatchFinders$Row" (by decide) rfl rfl (Nat.le_of_ble_eq_true rfl) ?_
  intro p e s m args below meth c ls A Q hx hb hml hown hts hP hK hD hN hl hA hS hret
  have hl : lv_has ls 6 [(0, .ref x_), (1, .int (nI w_))] := hl
  have f12 := hts (.fieldLink RX4 12 "MatchFinders" "text" "LMatchFinders$Text;") (by decide +kernel)
  have f25 := hts (.fieldLink RX4 25 "MatchFinders" "finder" "LMatchFinders$Finder;") (by decide +kernel)
  have f32 := hts (.fieldLink RX4 32 "MatchFinders" "plan" "LMatchFinders$Plan;") (by decide +kernel)
  have f38 := hts (.fieldLink RX4 38 "MatchFinders" "rows" "[LMatchFinders$Row;") (by decide +kernel)
  have f43 := hts (.fieldLink RX4 43 "MatchFinders$Text" "size" "I") (by decide +kernel)
  have f76 := hts (.fieldLink RX4 76 "MatchFinders$Finder" "length" "I") (by decide +kernel)
  have f79 := hts (.fieldLink RX4 79 "MatchFinders$Finder" "distance" "I") (by decide +kernel)
  have f141 := hts (.fieldLink RX4 141 "MatchFinders$Row" "told" "Z") (by decide +kernel)
  refine lv_aload_n hx hb dX4_rowOf_0 rfl (lv_at hl 0 rfl) ?_
  refine va_get (D := D) (ci := 4) (v := .ref q_) (C := RX4) (T := TX4) (N := 4) hx hb hts ziX4_rowOf_4 hown hK hP 0 rfl rfl 3 (by decide) f38 (fun _ h9 => h9) rfl dX4_rowOf_1 ?_
  refine lv_iload_n hx hb dX4_rowOf_4 rfl (lv_at hl 1 rfl) ?_
  refine zk_ald (i := w_) (y := r_) hx hb hK hP 10 2 rfl rfl (by omega) (by decide) h6 dX4_rowOf_5 ?_
  refine lv_astore_n (lv' := [(2, .ref r_), (0, .ref x_), (1, .int (nI w_))]) hx hb dX4_rowOf_6 rfl hl (by decide) rfl (fun ls hl => ?_)
  refine lv_aload_n hx hb dX4_rowOf_7 rfl (lv_at hl 0 rfl) ?_
  refine va_get (D := D) (ci := 2) (v := .int (nI to)) (C := RX2) (T := TX2) (N := 11) hx hb hts ziX4_rowOf_2 hown hK hP 11 rfl rfl 7 (by decide) f141 (fun _ h9 => h9) rfl dX4_rowOf_8 ?_
  refine zk_if_eq (tgt := 16) hx hb (by omega) dX4_rowOf_11 (by decide) (fun c_1 => ?_) (fun c_1 => ?_)
  · skip
    subst c_1
    have L32 : ∀  (co1 : Nat → Nat) (pn1 : Nat → Nat) (pd1 : Nat → Nat) (fl0 : Nat → Nat) (fd0 : Nat → Nat) (fc0 : Nat) (ls : Array Slot) (H : Heap) (locs : List Loc), (zr_ok w_ g ah sz sp dp (zr_sel w_ g ah sz sp dp pn1 pd1)) → va_P D vwCl [(x_, .inr (4, [.ref t, .ref f, .ref k_, .ref q_])), (f, .inr (0, [.ref t, .int (nI sp), .int (nI dp), .ref fa, .ref fb, .int (nI fc0), .int (nI le), .int (nI di)])), (fa, zk_a cI 38 fl0), (fb, zk_a cI 38 fd0), (t, .inr (3, [.ref b, .int (nI ah), .int (nI sz)])), (b, zk_a cI 360 g), (k_, .inr (1, [.ref ka, .ref kb, .ref kd])), (ka, zk_a cI 301 co1), (kb, zk_a cI 300 pn1), (kd, zk_a cI 300 pd1), (q_, .inl (cR, 4, .inr (.inr (.inr (.inr rf))))), (r_, .inr (2, [.ref ra, .ref rb, .ref rd, .int (nI ct), .int (nI pb), .int (nI bw), .int (nI rc), .int (nI 0), .int (nI la), .int (nI se), .int (nI th)])), (ra, zk_a cI 300 pl), (rb, zk_a cI 300 ln), (rd, zk_a cI 300 ds)] H → va_S A s.heap H locs → lv_has ls 6 [(0, .ref x_), (1, .int (nI w_)), (2, .ref r_)] → W p l e rmX4_rowOf s m args below meth c H locs 0 0 Q (F0 m 32 ls []) := by
      intro co1 pn1 pd1 fl0 fd0 fc0 ls H locs g32_0 hP hS hl
      refine lv_aload_n hx hb dX4_rowOf_32 rfl (lv_at hl 2 rfl) ?_
      refine zk_wrV (As := []) (rest := []) ⟨hx, hb, hml, hown, hts⟩ hN (c_begin l D cI cZ cR r_ ra rb rd ct pb bw rc 0 la se th) (cwV 0 hts gX4_rowOf_X2_begin rfl rfl rfl (by decide +kernel) ⟨Nat.le_of_ble_eq_true rfl, Nat.le_of_ble_eq_true rfl⟩) hK hP (zk_D hD rfl) hS hA [11] rfl (by decide) (fun _ => rfl) rfl rfl rfl rfl hl.1 rfl (Nat.le_of_ble_eq_true rfl) dX4_rowOf_33 ⟨Nat.zero_le _, Nat.zero_le _⟩ (fun u H locs hu1 hP hS => ?_)
      have hP : va_P D vwCl [(x_, .inr (4, [.ref t, .ref f, .ref k_, .ref q_])), (f, .inr (0, [.ref t, .int (nI sp), .int (nI dp), .ref fa, .ref fb, .int (nI fc0), .int (nI le), .int (nI di)])), (fa, zk_a cI 38 fl0), (fb, zk_a cI 38 fd0), (t, .inr (3, [.ref b, .int (nI ah), .int (nI sz)])), (b, zk_a cI 360 g), (k_, .inr (1, [.ref ka, .ref kb, .ref kd])), (ka, zk_a cI 301 co1), (kb, zk_a cI 300 pn1), (kd, zk_a cI 300 pd1), (q_, .inl (cR, 4, .inr (.inr (.inr (.inr rf))))), (r_, .inr (2, [.ref ra, .ref rb, .ref rd, .int (nI 0), .int (nI 0), .int (nI 0), .int (nI 0), .int (nI 0), .int (nI 0), .int (nI 0), .int (nI 0)])), (ra, zk_a cI 300 pl), (rb, zk_a cI 300 ln), (rd, zk_a cI 300 ds)] H := hP
      refine lv_iconst (v := (nI 0)) hx hb dX4_rowOf_36 (by decide +kernel) ?_
      refine lv_istore_n (lv' := [(3, .int (nI 0)), (0, .ref x_), (1, .int (nI w_)), (2, .ref r_)]) hx hb dX4_rowOf_37 rfl hl (by decide) rfl (fun ls hl => ?_)
      have L38 : ∀ (n : Nat) (pp : Nat) (fl1 : Nat → Nat) (fd1 : Nat → Nat) (fc1 : Nat) (le1 : Nat) (di1 : Nat) (ct1 : Nat) (pb1 : Nat) (bw1 : Nat) (rc1 : Nat) (la1 : Nat) (se1 : Nat) (th1 : Nat) (pl1 : Nat → Nat) (ln1 : Nat → Nat) (ds1 : Nat → Nat) (P : List (Nat × Nat × Nat)) (ls : Array Slot) (H : Heap) (locs : List Loc), (pp ≤ sz) → (ct1 ≤ pp) → (P ++ zr_pcs (zr_sel w_ g ah sz sp dp pn1 pd1) sz (sz - ct1) pp = zr_pcs (zr_sel w_ g ah sz sp dp pn1 pd1) sz sz 0) → (zr_holds P pl1 ln1 ds1 ct1) → (zr_bits P = (pb1, bw1, rc1, la1, se1, th1)) → (la1 ≤ 300) → (se1 ≤ 300) → (th1 ≤ 300) → (sz - pp) < n → va_P D vwCl [(x_, .inr (4, [.ref t, .ref f, .ref k_, .ref q_])), (f, .inr (0, [.ref t, .int (nI sp), .int (nI dp), .ref fa, .ref fb, .int (nI fc1), .int (nI le1), .int (nI di1)])), (fa, zk_a cI 38 fl1), (fb, zk_a cI 38 fd1), (t, .inr (3, [.ref b, .int (nI ah), .int (nI sz)])), (b, zk_a cI 360 g), (k_, .inr (1, [.ref ka, .ref kb, .ref kd])), (ka, zk_a cI 301 co1), (kb, zk_a cI 300 pn1), (kd, zk_a cI 300 pd1), (q_, .inl (cR, 4, .inr (.inr (.inr (.inr rf))))), (r_, .inr (2, [.ref ra, .ref rb, .ref rd, .int (nI ct1), .int (nI pb1), .int (nI bw1), .int (nI rc1), .int (nI 0), .int (nI la1), .int (nI se1), .int (nI th1)])), (ra, zk_a cI 300 pl1), (rb, zk_a cI 300 ln1), (rd, zk_a cI 300 ds1)] H → va_S A s.heap H locs → lv_has ls 6 [(0, .ref x_), (1, .int (nI w_)), (2, .ref r_), (3, .int (nI pp))] → W p l e rmX4_rowOf s m args below meth c H locs 0 0 Q (F0 m 38 ls []) := by
        intro n
        induction n with
        | zero => intro pp fl1 fd1 fc1 le1 di1 ct1 pb1 bw1 rc1 la1 se1 th1 pl1 ln1 ds1 P ls H locs g38_0 g38_1 g38_2 g38_3 g38_4 g38_5 g38_6 g38_7 hm hP hS hl; exact absurd hm (by omega)
        | succ n ih38 =>
          intro pp fl1 fd1 fc1 le1 di1 ct1 pb1 bw1 rc1 la1 se1 th1 pl1 ln1 ds1 P ls H locs g38_0 g38_1 g38_2 g38_3 g38_4 g38_5 g38_6 g38_7 hm hP hS hl
          refine lv_iload_n hx hb dX4_rowOf_38 rfl (lv_at hl 3 rfl) ?_
          refine lv_aload_n hx hb dX4_rowOf_39 rfl (lv_at hl 0 rfl) ?_
          refine va_get (D := D) (ci := 4) (v := .ref t) (C := RX4) (T := TX4) (N := 4) hx hb hts ziX4_rowOf_4 hown hK hP 0 rfl rfl 0 (by decide) f12 (fun _ h9 => h9) rfl dX4_rowOf_40 ?_
          refine va_get (D := D) (ci := 3) (v := .int (nI sz)) (C := RX3) (T := TX3) (N := 3) hx hb hts ziX4_rowOf_3 hown hK hP 4 rfl rfl 2 (by decide) f43 (fun _ h9 => h9) rfl dX4_rowOf_43 ?_
          refine zk_icmp_ge (tgt := 122) hx hb (by omega) (by omega) dX4_rowOf_46 (by decide) (fun c_2 => ?_) (fun c_2 => ?_)
          · skip
            refine lv_aload_n hx hb dX4_rowOf_122 rfl (lv_at hl 2 rfl) ?_
            refine lv_iconst (v := (nI 1)) hx hb dX4_rowOf_123 (by decide +kernel) ?_
            refine va_put (D := D) (ci := 2) (v := .int (nI 1)) (ty := .boolean) (C := RX2) (T := TX2) (N := 11) hx hb hts ziX4_rowOf_2 tyX2 tyX2_ok nmX2 hown hK hP (zk_D hD rfl) hS 11 rfl rfl 7 (by decide) f141 (fun _ h9 => h9) rfl (by decide +kernel) (by decide +kernel) (by decide +kernel) (Nat.le_of_ble_eq_true rfl) dX4_rowOf_124 (fun H locs hP _ hS => ?_)
            have hP : va_P D vwCl [(x_, .inr (4, [.ref t, .ref f, .ref k_, .ref q_])), (f, .inr (0, [.ref t, .int (nI sp), .int (nI dp), .ref fa, .ref fb, .int (nI fc1), .int (nI le1), .int (nI di1)])), (fa, zk_a cI 38 fl1), (fb, zk_a cI 38 fd1), (t, .inr (3, [.ref b, .int (nI ah), .int (nI sz)])), (b, zk_a cI 360 g), (k_, .inr (1, [.ref ka, .ref kb, .ref kd])), (ka, zk_a cI 301 co1), (kb, zk_a cI 300 pn1), (kd, zk_a cI 300 pd1), (q_, .inl (cR, 4, .inr (.inr (.inr (.inr rf))))), (r_, .inr (2, [.ref ra, .ref rb, .ref rd, .int (nI ct1), .int (nI pb1), .int (nI bw1), .int (nI rc1), .int (nI 1), .int (nI la1), .int (nI se1), .int (nI th1)])), (ra, zk_a cI 300 pl1), (rb, zk_a cI 300 ln1), (rd, zk_a cI 300 ds1)] H := hP
            refine lv_aload_n hx hb dX4_rowOf_127 rfl (lv_at hl 2 rfl) ?_
            exact hret _ ls _ _ (co1, pn1, pd1, fl1, fd1, fc1, le1, di1, pl1, ln1, ds1, ct1, pb1, bw1, rc1, la1, se1, th1) dX4_rowOf_128 ⟨_, la1, se1, th1, g32_0, by rw [← g38_2, zr_pcs_end (by omega), List.append_nil]; exact g38_3, by rw [← g38_2, zr_pcs_end (by omega), List.append_nil]; exact g38_4⟩ hP hS
          · skip
            refine lv_aload_n hx hb dX4_rowOf_49 rfl (lv_at hl 0 rfl) ?_
            refine lv_iload_n hx hb dX4_rowOf_50 rfl (lv_at hl 1 rfl) ?_
            refine lv_iload_n hx hb dX4_rowOf_51 rfl (lv_at hl 3 rfl) ?_
            refine zk_wrV (As := [.int (nI w_), .int (nI pp)]) (rest := []) ⟨hx, hb, hml, hown, hts⟩ hN (c_choose l D cI cZ cR x_ q_ f sp dp fa fb fc1 le1 di1 fl1 fd1 t b ah sz g k_ ka kb kd co1 pn1 pd1 w_ pp (by omega) (by omega) (by omega) (by omega) h4 (by omega) (by omega)) (cwV 2 hts gX4_rowOf_X4_choose rfl rfl rfl (by decide +kernel) ⟨Nat.le_of_ble_eq_true rfl, Nat.le_of_ble_eq_true rfl⟩) hK hP (zk_D hD rfl) hS hA [0, 1, 2, 3, 4, 5, 6, 7, 8, 9] rfl (by decide) (fun _ => rfl) rfl rfl rfl rfl hl.1 rfl (Nat.le_of_ble_eq_true rfl) dX4_rowOf_52 ⟨Nat.zero_le _, Nat.zero_le _⟩ (fun u H locs hu hP hS => ?_)
            obtain ⟨fl9, fd9, fc9, le9, di9⟩ := u
            have hu : zr_sel w_ g ah sz sp dp pn1 pd1 pp = (le9, di9) := hu
            have hP : va_P D vwCl [(x_, .inr (4, [.ref t, .ref f, .ref k_, .ref q_])), (f, .inr (0, [.ref t, .int (nI sp), .int (nI dp), .ref fa, .ref fb, .int (nI fc9), .int (nI le9), .int (nI di9)])), (fa, zk_a cI 38 fl9), (fb, zk_a cI 38 fd9), (t, .inr (3, [.ref b, .int (nI ah), .int (nI sz)])), (b, zk_a cI 360 g), (k_, .inr (1, [.ref ka, .ref kb, .ref kd])), (ka, zk_a cI 301 co1), (kb, zk_a cI 300 pn1), (kd, zk_a cI 300 pd1), (q_, .inl (cR, 4, .inr (.inr (.inr (.inr rf))))), (r_, .inr (2, [.ref ra, .ref rb, .ref rd, .int (nI ct1), .int (nI pb1), .int (nI bw1), .int (nI rc1), .int (nI 0), .int (nI la1), .int (nI se1), .int (nI th1)])), (ra, zk_a cI 300 pl1), (rb, zk_a cI 300 ln1), (rd, zk_a cI 300 ds1)] H := hP
            refine lv_aload_n hx hb dX4_rowOf_55 rfl (lv_at hl 0 rfl) ?_
            refine va_get (D := D) (ci := 4) (v := .ref f) (C := RX4) (T := TX4) (N := 4) hx hb hts ziX4_rowOf_4 hown hK hP 0 rfl rfl 1 (by decide) f25 (fun _ h9 => h9) rfl dX4_rowOf_56 ?_
            refine va_get (D := D) (ci := 0) (v := .int (nI le9)) (C := RX0) (T := TX0) (N := 8) hx hb hts ziX4_rowOf_0 hown hK hP 1 rfl rfl 6 (by decide) f76 (fun _ h9 => h9) rfl dX4_rowOf_59 ?_
            refine lv_iconst (v := (nI 3)) hx hb dX4_rowOf_62 (by decide +kernel) ?_
            have hle := zr_sel_le (by omega) g32_0 (q := pp) (by omega) hu
            refine zk_icmp_lt (tgt := 70) hx hb (by omega) (by omega) dX4_rowOf_63 (by decide) (fun c_3 => ?_) (fun c_3 => ?_)
            · skip
              have hse : (zr_sel w_ g ah sz sp dp pn1 pd1) pp = (le9, di9) := hu
              refine lv_iconst (v := (nI 0)) hx hb dX4_rowOf_70 (by decide +kernel) ?_
              refine lv_istore (lv' := [(4, .int (nI 0)), (0, .ref x_), (1, .int (nI w_)), (2, .ref r_), (3, .int (nI pp))]) hx hb dX4_rowOf_71 hl (by decide) rfl (fun ls hl => ?_)
              refine lv_iload hx hb dX4_rowOf_73 (lv_at hl 0 rfl) ?_
              refine zk_if_eq (tgt := 88) hx hb (by omega) dX4_rowOf_75 (by decide) (fun c_4 => ?_) (fun c_4 => absurd c_4 (by omega))
              refine lv_iconst (v := (nI 1)) hx hb dX4_rowOf_88 (by decide +kernel) ?_
              refine lv_istore (lv' := [(5, .int (nI 1)), (4, .int (nI 0)), (0, .ref x_), (1, .int (nI w_)), (2, .ref r_), (3, .int (nI pp))]) hx hb dX4_rowOf_89 hl (by decide) rfl (fun ls hl => ?_)
              refine lv_aload_n hx hb dX4_rowOf_91 rfl (lv_at hl 4 rfl) ?_
              refine lv_iload_n hx hb dX4_rowOf_92 rfl (lv_at hl 5 rfl) ?_
              refine lv_iload hx hb dX4_rowOf_93 (lv_at hl 0 rfl) ?_
              refine lv_iload hx hb dX4_rowOf_95 (lv_at hl 1 rfl) ?_
              refine zk_if_eq (tgt := 110) hx hb (by omega) dX4_rowOf_97 (by decide) (fun c_5 => ?_) (fun c_5 => absurd c_5 (by omega))
              refine lv_iconst (v := (nI 0)) hx hb dX4_rowOf_110 (by decide +kernel) ?_
              refine zk_wrV (As := [.int (nI pp), .int (nI 1), .int (nI 0)]) (rest := []) ⟨hx, hb, hml, hown, hts⟩ hN (c_rput l D cI cZ cR r_ ra rb rd ct1 pb1 bw1 rc1 0 la1 se1 th1 pl1 ln1 ds1 pp 1 0 (by omega) (by omega) (by omega) (by omega) (by omega) (by omega) (by omega)) (cwV 3 hts gX4_rowOf_X2_put rfl rfl rfl (by decide +kernel) ⟨Nat.le_of_ble_eq_true rfl, Nat.le_of_ble_eq_true rfl⟩) hK hP (zk_D hD rfl) hS hA [11, 12, 13, 14] rfl (by decide) (fun _ => rfl) rfl rfl rfl rfl hl.1 rfl (Nat.le_of_ble_eq_true rfl) dX4_rowOf_111 ⟨Nat.zero_le _, Nat.zero_le _⟩ (fun u H locs hu3 hP hS => ?_)
              obtain ⟨pb9, bw9, rc9, la9, se9, th9⟩ := u
              have hu3 : zr_pc 1 0 pb1 bw1 rc1 la1 se1 th1 = (pb9, bw9, rc9, la9, se9, th9) := hu3
              have hP : va_P D vwCl [(x_, .inr (4, [.ref t, .ref f, .ref k_, .ref q_])), (f, .inr (0, [.ref t, .int (nI sp), .int (nI dp), .ref fa, .ref fb, .int (nI fc9), .int (nI le9), .int (nI di9)])), (fa, zk_a cI 38 fl9), (fb, zk_a cI 38 fd9), (t, .inr (3, [.ref b, .int (nI ah), .int (nI sz)])), (b, zk_a cI 360 g), (k_, .inr (1, [.ref ka, .ref kb, .ref kd])), (ka, zk_a cI 301 co1), (kb, zk_a cI 300 pn1), (kd, zk_a cI 300 pd1), (q_, .inl (cR, 4, .inr (.inr (.inr (.inr rf))))), (r_, .inr (2, [.ref ra, .ref rb, .ref rd, .int (nI (ct1 + 1)), .int (nI pb9), .int (nI bw9), .int (nI rc9), .int (nI 0), .int (nI la9), .int (nI se9), .int (nI th9)])), (ra, zk_a cI 300 (zk_up pl1 ct1 pp)), (rb, zk_a cI 300 (zk_up ln1 ct1 1)), (rd, zk_a cI 300 (zk_up ds1 ct1 0))] H := hP
              have hpb := zr_pc_b hu3 (by omega) (by omega) (by omega) (by omega)
              refine lv_iload_n hx hb dX4_rowOf_114 rfl (lv_at hl 5 rfl) ?_
              refine lv_iload hx hb dX4_rowOf_115 (lv_at hl 0 rfl) ?_
              refine zk_add (v := pp + 1) hx hb (rfl) dX4_rowOf_117 ?_
              refine lv_istore_n (lv' := [(3, .int (nI (pp + 1))), (5, .int (nI 1)), (4, .int (nI 0)), (0, .ref x_), (1, .int (nI w_)), (2, .ref r_)]) hx hb dX4_rowOf_118 rfl hl (by decide) rfl (fun ls hl => ?_)
              refine lv_goto (tgt := 38) hx hb dX4_rowOf_119 (by decide) ?_
              exact ih38 (pp + 1) fl9 fd9 fc9 le9 di9 (ct1 + 1) pb9 bw9 rc9 la9 se9 th9 (zk_up pl1 ct1 pp) (zk_up ln1 ct1 1) (zk_up ds1 ct1 0) (P ++ [(pp, 1, 0)]) ls _ _ (by omega) (by omega) (by rw [← g38_2, zr_pcs_l (n := sz - ct1) (k := sz - (ct1 + 1)) (by omega) hse (by omega) (by omega), List.append_assoc]; rfl) (zr_holds_push g38_3) (zr_bits_push g38_4 hu3) hpb.1 hpb.2.1 hpb.2.2 (by omega) hP hS (lv_sub hl [3, 4, 5, 0] rfl)
            · skip
              have hse : (zr_sel w_ g ah sz sp dp pn1 pd1) pp = (le9, di9) := hu
              have hin := zr_ok_in (by omega) g32_0 (q := pp) (by omega) (by rw [hse]; exact c_3)
              rw [hse] at hin
              have hi1 : le9 ≤ min 40 (sz - pp) := hin.1
              have hi2 : 1 ≤ di9 := hin.2.1
              have hi3 : di9 ≤ sp := hin.2.2
              refine lv_iconst (v := (nI 1)) hx hb dX4_rowOf_66 (by decide +kernel) ?_
              refine lv_goto (tgt := 71) hx hb dX4_rowOf_67 (by decide) ?_
              refine lv_istore (lv' := [(4, .int (nI 1)), (0, .ref x_), (1, .int (nI w_)), (2, .ref r_), (3, .int (nI pp))]) hx hb dX4_rowOf_71 hl (by decide) rfl (fun ls hl => ?_)
              refine lv_iload hx hb dX4_rowOf_73 (lv_at hl 0 rfl) ?_
              refine zk_if_eq (tgt := 88) hx hb (by omega) dX4_rowOf_75 (by decide) (fun c_6 => absurd c_6 (by omega)) (fun c_6 => ?_)
              refine lv_aload_n hx hb dX4_rowOf_78 rfl (lv_at hl 1 rfl) ?_
              refine va_get (D := D) (ci := 4) (v := .ref f) (C := RX4) (T := TX4) (N := 4) hx hb hts ziX4_rowOf_4 hown hK hP 0 rfl rfl 1 (by decide) f25 (fun _ h9 => h9) rfl dX4_rowOf_79 ?_
              refine va_get (D := D) (ci := 0) (v := .int (nI le9)) (C := RX0) (T := TX0) (N := 8) hx hb hts ziX4_rowOf_0 hown hK hP 1 rfl rfl 6 (by decide) f76 (fun _ h9 => h9) rfl dX4_rowOf_82 ?_
              refine lv_goto (tgt := 89) hx hb dX4_rowOf_85 (by decide) ?_
              refine lv_istore (lv' := [(5, .int (nI le9)), (4, .int (nI 1)), (0, .ref x_), (1, .int (nI w_)), (2, .ref r_), (3, .int (nI pp))]) hx hb dX4_rowOf_89 hl (by decide) rfl (fun ls hl => ?_)
              refine lv_aload_n hx hb dX4_rowOf_91 rfl (lv_at hl 4 rfl) ?_
              refine lv_iload_n hx hb dX4_rowOf_92 rfl (lv_at hl 5 rfl) ?_
              refine lv_iload hx hb dX4_rowOf_93 (lv_at hl 0 rfl) ?_
              refine lv_iload hx hb dX4_rowOf_95 (lv_at hl 1 rfl) ?_
              refine zk_if_eq (tgt := 110) hx hb (by omega) dX4_rowOf_97 (by decide) (fun c_7 => absurd c_7 (by omega)) (fun c_7 => ?_)
              refine lv_aload_n hx hb dX4_rowOf_100 rfl (lv_at hl 2 rfl) ?_
              refine va_get (D := D) (ci := 4) (v := .ref f) (C := RX4) (T := TX4) (N := 4) hx hb hts ziX4_rowOf_4 hown hK hP 0 rfl rfl 1 (by decide) f25 (fun _ h9 => h9) rfl dX4_rowOf_101 ?_
              refine va_get (D := D) (ci := 0) (v := .int (nI di9)) (C := RX0) (T := TX0) (N := 8) hx hb hts ziX4_rowOf_0 hown hK hP 1 rfl rfl 7 (by decide) f79 (fun _ h9 => h9) rfl dX4_rowOf_104 ?_
              refine lv_goto (tgt := 111) hx hb dX4_rowOf_107 (by decide) ?_
              refine zk_wrV (As := [.int (nI pp), .int (nI le9), .int (nI di9)]) (rest := []) ⟨hx, hb, hml, hown, hts⟩ hN (c_rput l D cI cZ cR r_ ra rb rd ct1 pb1 bw1 rc1 0 la1 se1 th1 pl1 ln1 ds1 pp le9 di9 (by omega) (by omega) (by omega) (by omega) (by omega) (by omega) (by omega)) (cwV 3 hts gX4_rowOf_X2_put rfl rfl rfl (by decide +kernel) ⟨Nat.le_of_ble_eq_true rfl, Nat.le_of_ble_eq_true rfl⟩) hK hP (zk_D hD rfl) hS hA [11, 12, 13, 14] rfl (by decide) (fun _ => rfl) rfl rfl rfl rfl hl.1 rfl (Nat.le_of_ble_eq_true rfl) dX4_rowOf_111 ⟨Nat.zero_le _, Nat.zero_le _⟩ (fun u H locs hu3 hP hS => ?_)
              obtain ⟨pb9, bw9, rc9, la9, se9, th9⟩ := u
              have hu3 : zr_pc le9 di9 pb1 bw1 rc1 la1 se1 th1 = (pb9, bw9, rc9, la9, se9, th9) := hu3
              have hP : va_P D vwCl [(x_, .inr (4, [.ref t, .ref f, .ref k_, .ref q_])), (f, .inr (0, [.ref t, .int (nI sp), .int (nI dp), .ref fa, .ref fb, .int (nI fc9), .int (nI le9), .int (nI di9)])), (fa, zk_a cI 38 fl9), (fb, zk_a cI 38 fd9), (t, .inr (3, [.ref b, .int (nI ah), .int (nI sz)])), (b, zk_a cI 360 g), (k_, .inr (1, [.ref ka, .ref kb, .ref kd])), (ka, zk_a cI 301 co1), (kb, zk_a cI 300 pn1), (kd, zk_a cI 300 pd1), (q_, .inl (cR, 4, .inr (.inr (.inr (.inr rf))))), (r_, .inr (2, [.ref ra, .ref rb, .ref rd, .int (nI (ct1 + 1)), .int (nI pb9), .int (nI bw9), .int (nI rc9), .int (nI 0), .int (nI la9), .int (nI se9), .int (nI th9)])), (ra, zk_a cI 300 (zk_up pl1 ct1 pp)), (rb, zk_a cI 300 (zk_up ln1 ct1 le9)), (rd, zk_a cI 300 (zk_up ds1 ct1 di9))] H := hP
              have hpb := zr_pc_b hu3 (by omega) (by omega) (by omega) (by omega)
              refine lv_iload_n hx hb dX4_rowOf_114 rfl (lv_at hl 5 rfl) ?_
              refine lv_iload hx hb dX4_rowOf_115 (lv_at hl 0 rfl) ?_
              refine zk_add (v := pp + le9) hx hb (rfl) dX4_rowOf_117 ?_
              refine lv_istore_n (lv' := [(3, .int (nI (pp + le9))), (5, .int (nI le9)), (4, .int (nI 1)), (0, .ref x_), (1, .int (nI w_)), (2, .ref r_)]) hx hb dX4_rowOf_118 rfl hl (by decide) rfl (fun ls hl => ?_)
              refine lv_goto (tgt := 38) hx hb dX4_rowOf_119 (by decide) ?_
              exact ih38 (pp + le9) fl9 fd9 fc9 le9 di9 (ct1 + 1) pb9 bw9 rc9 la9 se9 th9 (zk_up pl1 ct1 pp) (zk_up ln1 ct1 le9) (zk_up ds1 ct1 di9) (P ++ [(pp, le9, di9)]) ls _ _ (by omega) (by omega) (by rw [← g38_2, zr_pcs_m (n := sz - ct1) (k := sz - (ct1 + 1)) (by omega) hse (by omega) (by omega), List.append_assoc]; rfl) (zr_holds_push g38_3) (zr_bits_push g38_4 hu3) hpb.1 hpb.2.1 hpb.2.2 (by omega) hP hS (lv_sub hl [3, 4, 5, 0] rfl)
      exact L38 (sz - 0 + 1) 0 fl0 fd0 fc0 le di 0 0 0 0 0 0 0 pl ln ds ([]) ls _ _ (by omega) (by omega) rfl zr_holds_0 rfl (by omega) (by omega) (by omega) (by omega) hP hS (lv_sub hl [1, 2, 3, 0] rfl)
    refine lv_iload_n hx hb dX4_rowOf_16 rfl (lv_at hl 2 rfl) ?_
    refine lv_iconst (v := (nI 3)) hx hb dX4_rowOf_17 (by decide +kernel) ?_
    refine zk_icmp_ne (tgt := 32) hx hb (by omega) (by omega) dX4_rowOf_18 (by decide) (fun c_8 => ?_) (fun c_8 => ?_)
    · skip
      exact L32 co pn pd fl fd fc ls _ _ (zr_ok_lt (by omega) c_8) hP hS (lv_sub hl [1, 2, 0] rfl)
    · skip
      refine lv_aload_n hx hb dX4_rowOf_21 rfl (lv_at hl 1 rfl) ?_
      refine va_get (D := D) (ci := 4) (v := .ref k_) (C := RX4) (T := TX4) (N := 4) hx hb hts ziX4_rowOf_4 hown hK hP 0 rfl rfl 2 (by decide) f32 (fun _ h9 => h9) rfl dX4_rowOf_22 ?_
      refine lv_aload_n hx hb dX4_rowOf_25 rfl (lv_at hl 1 rfl) ?_
      refine va_get (D := D) (ci := 4) (v := .ref f) (C := RX4) (T := TX4) (N := 4) hx hb hts ziX4_rowOf_4 hown hK hP 0 rfl rfl 1 (by decide) f25 (fun _ h9 => h9) rfl dX4_rowOf_26 ?_
      refine zk_wrV (As := [.ref f]) (rest := []) ⟨hx, hb, hml, hown, hts⟩ hN (c_make l D cI cZ cR k_ ka kb kd co pn pd f sp dp fa fb fc le di fl fd t b ah sz g (by omega) (by omega) (by omega) h4) (cwV 1 hts gX4_rowOf_X1_make rfl rfl rfl (by decide +kernel) ⟨Nat.le_of_ble_eq_true rfl, Nat.le_of_ble_eq_true rfl⟩) hK hP (zk_D hD rfl) hS hA [6, 7, 8, 9, 1, 2, 3, 4, 5] rfl (by decide) (fun _ => rfl) rfl rfl rfl rfl hl.1 rfl (Nat.le_of_ble_eq_true rfl) dX4_rowOf_29 ⟨Nat.zero_le _, Nat.zero_le _⟩ (fun u H locs hu hP hS => ?_)
      obtain ⟨co9, pn9, pd9, fl9, fd9, fc9⟩ := u
      have hu : zr_DP (fun q => zr_F g (ah + q) (min 40 (sz - q)) (min sp (ah + q))) sz 0 co9 pn9 pd9 := hu
      have hP : va_P D vwCl [(x_, .inr (4, [.ref t, .ref f, .ref k_, .ref q_])), (f, .inr (0, [.ref t, .int (nI sp), .int (nI dp), .ref fa, .ref fb, .int (nI fc9), .int (nI le), .int (nI di)])), (fa, zk_a cI 38 fl9), (fb, zk_a cI 38 fd9), (t, .inr (3, [.ref b, .int (nI ah), .int (nI sz)])), (b, zk_a cI 360 g), (k_, .inr (1, [.ref ka, .ref kb, .ref kd])), (ka, zk_a cI 301 co9), (kb, zk_a cI 300 pn9), (kd, zk_a cI 300 pd9), (q_, .inl (cR, 4, .inr (.inr (.inr (.inr rf))))), (r_, .inr (2, [.ref ra, .ref rb, .ref rd, .int (nI ct), .int (nI pb), .int (nI bw), .int (nI rc), .int (nI 0), .int (nI la), .int (nI se), .int (nI th)])), (ra, zk_a cI 300 pl), (rb, zk_a cI 300 ln), (rd, zk_a cI 300 ds)] H := hP
      exact L32 co9 pn9 pd9 fl9 fd9 fc9 ls _ _ (zr_ok_3 c_8 hu) hP hS (lv_sub hl [1, 2, 0] rfl)
  · skip
    rcases h7 with h7 | ⟨h7, h8⟩
    · omega
    subst h7
    refine lv_aload_n hx hb dX4_rowOf_14 rfl (lv_at hl 0 rfl) ?_
    exact hret _ ls _ _ (co, pn, pd, fl, fd, fc, le, di, pl, ln, ds, ct, pb, bw, rc, la, se, th) dX4_rowOf_15 h8 hP hS
end
section
/-! The answers of the calls, as functions of the text; the same for the class and for the reference. -/
theorem zk_wz2 {x : Int32} {n : Nat} (hn : n < 2 ^ 31) (h : ¬ (if x < 0 then nI 0 else if nI n ≤ x then nI 0 else nI 1) = 0) : ∃ j : Nat, j < n ∧ x = nI j := by
  by_cases h1 : x < 0
  · rw [if_pos h1] at h; exact absurd rfl h
  · by_cases h2 : nI n ≤ x
    · rw [if_neg h1, if_pos h2] at h; exact absurd rfl h
    · rcases pk_ix x hn with h3 | h3 | h3
      · exact absurd h3 h1
      · exact absurd h3 h2
      · exact h3
theorem zk_wz0 {x : Int32} {n : Nat} (h : (if x < 0 then nI 0 else if nI n ≤ x then nI 0 else nI 1) = 0) : x < 0 ∨ nI n ≤ x := by
  by_cases h1 : x < 0
  · exact Or.inl h1
  · by_cases h2 : nI n ≤ x
    · exact Or.inr h2
    · rw [if_neg h1, if_neg h2] at h; exact absurd h (by decide +kernel)
theorem zk_inv {α : Type} {x : Int32} {n : Nat} {a b : α} (h : x < 0 ∨ nI n ≤ x) : (if x < 0 then a else if nI n ≤ x then a else b) = a := by
  by_cases h1 : x < 0
  · rw [if_pos h1]
  · rw [if_neg h1, if_pos (h.resolve_left h1)]
theorem zk_val {α : Type} {j n : Nat} {a a' b : α} (hj : j < n) (hn : n < 2 ^ 31) : (if nI j < 0 then a else if nI n ≤ nI j then a' else b) = b := by
  rw [if_neg (nI_pos (by omega)), if_neg (nI_ge hj hn)]
/-- within 0 .. n, else -2 -/
theorem zk_win {α : Type} {j n : Nat} {a a' b : α} (hj : j ≤ n) (hn : n < 2 ^ 31) : (if nI j < 0 then a else if nI j ≤ nI n then b else a') = b := by
  rw [if_neg (nI_pos (by omega)), if_pos (nI_le hj hn)]
theorem zk_wout {α : Type} {x : Int32} {n : Nat} {a b : α} (h : x < 0 ∨ ¬ x ≤ nI n) : (if x < 0 then a else if x ≤ nI n then b else a) = a := by
  by_cases h1 : x < 0
  · rw [if_pos h1]
  · rw [if_neg h1, if_neg (h.resolve_left h1)]
theorem zk_wof {x : Int32} {n : Nat} (hn : n < 2 ^ 31) (h1 : ¬ x < 0) (h2 : x ≤ nI n) : ∃ j : Nat, j ≤ n ∧ x = nI j := nI_of2 (nI_toInt hn) h1 h2
def zT_add (b : Int32) (g : Nat → Nat) (ah sz : Nat) : Int32 × (Nat → Nat) × Nat × Nat := if b < 0 then (-2, g, ah, sz) else if b ≤ nI 255 then (if sz < 300 then (nI (sz + 1), zk_up g (ah + sz) b.toNatClampNeg, ah, sz + 1) else (-4, g, ah, sz)) else (-2, g, ah, sz)
/-- the number behind a place of a fill: x times 1103515245 and 12345 -/
def zr_nx (x : Int32) : Int32 := x * 1103515245 + nI 12345
def zr_hi (x : Int32) : Nat := x.toBitVec.toNat / 65536
/-- a byte of a fill -/
def zr_fb (z how bk : Nat) (g : Nat → Nat) (ah sz : Nat) : Nat := if how = 0 then z % 256 else if how = 1 then z % 3 else if z % 8 = 0 then z % 4 else if bk ≤ sz then g (ah + (sz - bk)) else z % 4
def zr_fl (how bk ah : Nat) : Nat → Int32 → (Nat → Nat) → Nat → (Nat → Nat) × Nat
  | 0, _, g, sz => (g, sz)
  | n + 1, x, g, sz => zr_fl how bk ah n (zr_nx x) (zk_up g (ah + sz) (zr_fb (zr_hi (zr_nx x)) how bk g ah sz)) (sz + 1)
def zT_fill (n seed how : Int32) (g : Nat → Nat) (ah sz : Nat) : Int32 × (Nat → Nat) × Nat × Nat :=
  if n < nI 1 then (-2, g, ah, sz) else if nI 300 < n then (-2, g, ah, sz) else if how < 0 then (-2, g, ah, sz) else if how ≤ nI 2 then
    (if n.toNatClampNeg + sz ≤ 300 then (nI (sz + n.toNatClampNeg), (zr_fl how.toNatClampNeg (1 + seed.toBitVec.toNat / 134217728) ah n.toNatClampNeg seed g sz).1, ah, sz + n.toNatClampNeg) else (-4, g, ah, sz)) else (-2, g, ah, sz)
def zA_size (w : Int32) (ah sz : Nat) : Int32 := if w = 0 then nI sz else if w = nI 1 then nI ah else -2
def zA_pick (pl w : Int32) (sz : Nat) (S : Nat → Nat × Nat) : Int32 := if pl < 0 then -1 else if nI sz ≤ pl then -1 else if w < 0 then -2 else if w ≤ nI 1 then (if w = 0 then nI (S pl.toNatClampNeg).1 else nI (S pl.toNatClampNeg).2) else -2
def zA_front (pl k w : Int32) (sz : Nat) (F : Nat → List (Nat × Nat)) : Int32 := if pl < 0 then -1 else if nI sz ≤ pl then -1 else if k < -1 then -1 else if nI (F pl.toNatClampNeg).length ≤ k then -1 else if w < 0 then -2 else if w ≤ nI 1 then (if k = -1 then nI (F pl.toNatClampNeg).length else if w = 0 then nI ((F pl.toNatClampNeg).getD k.toNatClampNeg (0, 0)).1 else nI ((F pl.toNatClampNeg).getD k.toNatClampNeg (0, 0)).2) else -2
def zA_way (w : Int32) (X : Nat → Int32) : Int32 := if w < 0 then -1 else if nI 4 ≤ w then -1 else X w.toNatClampNeg
def zA_what (w a b : Int32) : Int32 := if w < 0 then -2 else if w ≤ nI 1 then (if w = 0 then a else b) else -2
def zA_piece (i w : Int32) (ct : Nat) (pl ln ds : Nat → Nat) : Int32 := if i < 0 then -1 else if nI ct ≤ i then -1 else if w = nI 0 then nI (pl i.toNatClampNeg) else if w = nI 1 then nI (ln i.toNatClampNeg) else if w = nI 2 then nI (ds i.toNatClampNeg) else -2
def zr_rows (g : Nat → Nat) (ah sz sp dp : Nat) (to ct pb bw rc : Nat → Nat) (pl ln ds : Nat → Nat → Nat) : Prop := ∀ i, i < 4 → to i = 0 ∨ (to i = 1 ∧ zr_row i g ah sz sp dp (ct i) (pb i) (bw i) (rc i) (pl i) (ln i) (ds i))
theorem zr_rows_0 {g : Nat → Nat} {ah sz sp dp : Nat} {ct pb bw rc : Nat → Nat} {pl ln ds : Nat → Nat → Nat} : zr_rows g ah sz sp dp (fun _ => 0) ct pb bw rc pl ln ds := fun _ _ => Or.inl rfl
def zk_upF (g : Nat → Nat → Nat) (i : Nat) (x : Nat → Nat) : Nat → Nat → Nat := fun j => if j = i then x else g j
theorem zr_rows_up {g : Nat → Nat} {ah sz sp dp w : Nat} {to ct pb bw rc : Nat → Nat} {pl ln ds : Nat → Nat → Nat} {a b c d : Nat} {x y z : Nat → Nat} (h : zr_rows g ah sz sp dp to ct pb bw rc pl ln ds) (hr : zr_row w g ah sz sp dp a b c d x y z) : zr_rows g ah sz sp dp (zk_up to w 1) (zk_up ct w a) (zk_up pb w b) (zk_up bw w c) (zk_up rc w d) (zk_upF pl w x) (zk_upF ln w y) (zk_upF ds w z) := fun i hi => by
  by_cases hw : i = w
  · subst hw
    refine Or.inr ⟨zk_up_eq _ _ _, ?_⟩
    simp only [zk_up_eq, zk_upF, if_true]
    exact hr
  · rw [zk_up_ne hw, zk_up_ne hw, zk_up_ne hw, zk_up_ne hw, zk_up_ne hw]
    simp only [zk_upF, if_neg hw]
    exact h i hi
theorem zr_irem {z n : Nat} (hz : z < 65536) (h0 : 0 < n) (hn : n < 2 ^ 31) : nI z - nI z / nI n * nI n = nI (z % n) := pk_rem (by omega) h0 hn
theorem zr_at_nat {g : Nat → Nat} {ah sz j : Nat} (hs : sz ≤ 300) (ha : ah ≤ 60) (hj : j < sz) : zr_at g ah sz (nI j) = nI (g (ah + j)) := by
  rw [zr_at, if_neg, if_neg (nI_ge hj (by omega)), nI_toInt (by omega)]
  · congr 2; omega
  · rw [Int32.lt_iff_toInt_lt, zr_negT (by omega), nI_toInt (by omega)]; omega
theorem zr_ush16 (x : Int32) : (x.toUInt32 >>> ((nI 16).toUInt32 &&& Int32.toUInt32 31)).toInt32 = nI (zr_hi x) := by
  obtain ⟨n, hn, rfl⟩ : ∃ n : Nat, n < 2 ^ 32 ∧ x = nI n := ⟨x.toBitVec.toNat, x.toBitVec.isLt, by apply Int32.toBitVec_inj.mp; simp [nI, Int32.ofNat]⟩
  rw [pk_ushrN hn _ 16 (by decide +kernel), zr_hi, pk_tn hn]
theorem zr_ush27 (x : Int32) : (x.toUInt32 >>> ((nI 27).toUInt32 &&& Int32.toUInt32 31)).toInt32 = nI (x.toBitVec.toNat / 134217728) := by
  obtain ⟨n, hn, rfl⟩ : ∃ n : Nat, n < 2 ^ 32 ∧ x = nI n := ⟨x.toBitVec.toNat, x.toBitVec.isLt, by apply Int32.toBitVec_inj.mp; simp [nI, Int32.ofNat]⟩
  rw [pk_ushrN hn _ 27 (by decide +kernel), pk_tn hn]
theorem zr_hi_lt (x : Int32) : zr_hi x < 65536 := by
  have h := x.toBitVec.isLt
  unfold zr_hi
  omega
theorem zr_bk_lt (x : Int32) : x.toBitVec.toNat / 134217728 < 32 := by
  have h := x.toBitVec.isLt
  omega
theorem zr_fb_lt {z how bk : Nat} {g : Nat → Nat} {ah sz : Nat} (hg : ∀ j, g j < 256) : zr_fb z how bk g ah sz < 256 := by
  unfold zr_fb
  split
  · omega
  · split
    · omega
    · split
      · omega
      · split
        · exact hg _
        · omega
theorem zk_up_lt {g : Nat → Nat} {i x : Nat} (hg : ∀ j, g j < 256) (hx : x < 256) : ∀ j, zk_up g i x j < 256 := fun j => by
  by_cases h : j = i
  · subst h; rw [zk_up_eq]; exact hx
  · rw [zk_up_ne h]; exact hg j
theorem zr_fl_sz (how bk ah : Nat) : ∀ (n : Nat) (x : Int32) (g : Nat → Nat) (sz : Nat), (zr_fl how bk ah n x g sz).2 = sz + n
  | 0, _, _, _ => rfl
  | n + 1, x, g, sz => by rw [zr_fl, zr_fl_sz how bk ah n]; omega
theorem zr_fl_s {how bk ah n m : Nat} {x : Int32} {g : Nat → Nat} {sz : Nat} (hn : n = m + 1) : zr_fl how bk ah n x g sz = zr_fl how bk ah m (zr_nx x) (zk_up g (ah + sz) (zr_fb (zr_hi (zr_nx x)) how bk g ah sz)) (sz + 1) := by
  subst hn; rfl
theorem zk_fn {x : Int32} (h1 : ¬ x < nI 1) (h2 : ¬ nI 300 < x) : ∃ j : Nat, 1 ≤ j ∧ j ≤ 300 ∧ x = nI j := by
  rw [Int32.lt_iff_toInt_lt, nI_toInt (by decide)] at h1 h2
  refine ⟨x.toInt.toNat, by omega, by omega, ?_⟩
  apply Int32.toInt_inj.mp
  rw [nI_toInt (by omega)]
  omega
theorem zk_nlt1 {n : Nat} (h1 : 1 ≤ n) (h2 : n ≤ 300) : ¬ nI n < nI 1 := nI_nlt h1 (by omega)
def rmX4_add : Room := { frames := 1, cells := 0, slots := 0, locals := 21 }
set_option maxRecDepth 20000 in
theorem ziX4_add_3 : ∀ w ∈ wsX30, w ∈ wsX4_add := by decide +kernel
set_option maxRecDepth 20000 in
theorem ziX4_add_4 : ∀ w ∈ wsX40, w ∈ wsX4_add := by decide +kernel
set_option maxHeartbeats 4000000 in
set_option maxRecDepth 100000 in
/-- add -/
theorem c_add (l : Launch) (D : va_G) (cI cZ cR : ClassId) (x_ : Nat) (q_ : Nat) (t : Nat) (f : Nat) (k_ : Nat) (rf : Nat → Option Nat) (sp : Nat) (dp : Nat) (fa : Nat) (fb : Nat) (b : Nat) (ka : Nat) (kb : Nat) (kd : Nat) (r : Nat → Nat) (ra : Nat → Nat) (rb : Nat → Nat) (rd : Nat → Nat) (fl : Nat → Nat) (fd : Nat → Nat) (fc : Nat) (le : Nat) (di : Nat) (g : Nat → Nat) (ah : Nat) (sz : Nat) (co : Nat → Nat) (pn : Nat → Nat) (pd : Nat → Nat) (ct : Nat → Nat) (pb : Nat → Nat) (bw : Nat → Nat) (rc : Nat → Nat) (to : Nat → Nat) (la : Nat → Nat) (se : Nat → Nat) (th : Nat → Nat) (pl : Nat → Nat → Nat) (ln : Nat → Nat → Nat) (ds : Nat → Nat → Nat) (b_ : Int32) (h0 : ah ≤ 60) (h1 : sz ≤ 300) (h2 : sp ≤ 300) (h3 : dp ≤ 64) (h4 : ∀ j, g j < 256) (h5 : ∀ i, i < 4 → rf i = some (r i)) (h6 : zr_rows g ah sz sp dp to ct pb bw rc pl ln ds) : zk_Wi l yX4_add wsX4_add rmX4_add D (zk_t cI cZ cR) [.ref x_, .int b_] [(x_, .inr (4, [.ref t, .ref f, .ref k_, .ref q_])), (f, .inr (0, [.ref t, .int (nI sp), .int (nI dp), .ref fa, .ref fb, .int (nI fc), .int (nI le), .int (nI di)])), (fa, zk_a cI 38 fl), (fb, zk_a cI 38 fd), (t, .inr (3, [.ref b, .int (nI ah), .int (nI sz)])), (b, zk_a cI 360 g), (k_, .inr (1, [.ref ka, .ref kb, .ref kd])), (ka, zk_a cI 301 co), (kb, zk_a cI 300 pn), (kd, zk_a cI 300 pd), (q_, .inl (cR, 4, .inr (.inr (.inr (.inr rf))))), (r 0, .inr (2, [.ref (ra 0), .ref (rb 0), .ref (rd 0), .int (nI (ct 0)), .int (nI (pb 0)), .int (nI (bw 0)), .int (nI (rc 0)), .int (nI (to 0)), .int (nI (la 0)), .int (nI (se 0)), .int (nI (th 0))])), (ra 0, zk_a cI 300 (pl 0)), (rb 0, zk_a cI 300 (ln 0)), (rd 0, zk_a cI 300 (ds 0)), (r 1, .inr (2, [.ref (ra 1), .ref (rb 1), .ref (rd 1), .int (nI (ct 1)), .int (nI (pb 1)), .int (nI (bw 1)), .int (nI (rc 1)), .int (nI (to 1)), .int (nI (la 1)), .int (nI (se 1)), .int (nI (th 1))])), (ra 1, zk_a cI 300 (pl 1)), (rb 1, zk_a cI 300 (ln 1)), (rd 1, zk_a cI 300 (ds 1)), (r 2, .inr (2, [.ref (ra 2), .ref (rb 2), .ref (rd 2), .int (nI (ct 2)), .int (nI (pb 2)), .int (nI (bw 2)), .int (nI (rc 2)), .int (nI (to 2)), .int (nI (la 2)), .int (nI (se 2)), .int (nI (th 2))])), (ra 2, zk_a cI 300 (pl 2)), (rb 2, zk_a cI 300 (ln 2)), (rd 2, zk_a cI 300 (ds 2)), (r 3, .inr (2, [.ref (ra 3), .ref (rb 3), .ref (rd 3), .int (nI (ct 3)), .int (nI (pb 3)), .int (nI (bw 3)), .int (nI (rc 3)), .int (nI (to 3)), .int (nI (la 3)), .int (nI (se 3)), .int (nI (th 3))])), (ra 3, zk_a cI 300 (pl 3)), (rb 3, zk_a cI 300 (ln 3)), (rd 3, zk_a cI 300 (ds 3))] (fun (r : Int32) (u : (Nat → Nat) × Nat × Nat × (Nat → Nat)) => match u with | (g2, ah2, sz2, to2) => zT_add b_ g ah sz = (r, g2, ah2, sz2) ∧ zr_rows g2 ah2 sz2 sp dp to2 ct pb bw rc pl ln ds) (fun u => match u with | (g2, ah2, sz2, to2) => [(x_, .inr (4, [.ref t, .ref f, .ref k_, .ref q_])), (f, .inr (0, [.ref t, .int (nI sp), .int (nI dp), .ref fa, .ref fb, .int (nI fc), .int (nI le), .int (nI di)])), (fa, zk_a cI 38 fl), (fb, zk_a cI 38 fd), (t, .inr (3, [.ref b, .int (nI ah2), .int (nI sz2)])), (b, zk_a cI 360 g2), (k_, .inr (1, [.ref ka, .ref kb, .ref kd])), (ka, zk_a cI 301 co), (kb, zk_a cI 300 pn), (kd, zk_a cI 300 pd), (q_, .inl (cR, 4, .inr (.inr (.inr (.inr rf))))), (r 0, .inr (2, [.ref (ra 0), .ref (rb 0), .ref (rd 0), .int (nI (ct 0)), .int (nI (pb 0)), .int (nI (bw 0)), .int (nI (rc 0)), .int (nI (to2 0)), .int (nI (la 0)), .int (nI (se 0)), .int (nI (th 0))])), (ra 0, zk_a cI 300 (pl 0)), (rb 0, zk_a cI 300 (ln 0)), (rd 0, zk_a cI 300 (ds 0)), (r 1, .inr (2, [.ref (ra 1), .ref (rb 1), .ref (rd 1), .int (nI (ct 1)), .int (nI (pb 1)), .int (nI (bw 1)), .int (nI (rc 1)), .int (nI (to2 1)), .int (nI (la 1)), .int (nI (se 1)), .int (nI (th 1))])), (ra 1, zk_a cI 300 (pl 1)), (rb 1, zk_a cI 300 (ln 1)), (rd 1, zk_a cI 300 (ds 1)), (r 2, .inr (2, [.ref (ra 2), .ref (rb 2), .ref (rd 2), .int (nI (ct 2)), .int (nI (pb 2)), .int (nI (bw 2)), .int (nI (rc 2)), .int (nI (to2 2)), .int (nI (la 2)), .int (nI (se 2)), .int (nI (th 2))])), (ra 2, zk_a cI 300 (pl 2)), (rb 2, zk_a cI 300 (ln 2)), (rd 2, zk_a cI 300 (ds 2)), (r 3, .inr (2, [.ref (ra 3), .ref (rb 3), .ref (rd 3), .int (nI (ct 3)), .int (nI (pb 3)), .int (nI (bw 3)), .int (nI (rc 3)), .int (nI (to2 3)), .int (nI (la 3)), .int (nI (se 3)), .int (nI (th 3))])), (ra 3, zk_a cI 300 (pl 3)), (rb 3, zk_a cI 300 (ln 3)), (rd 3, zk_a cI 300 (ds 3))]) := by
  refine zk_enterI RX4 cX4_add 2 (by decide) rfl rfl (Nat.le_of_ble_eq_true rfl) ?_
  intro p e s m args below meth c ls A Q hx hb hml hown hts hP hK hD hN hl hA hS hret
  have hl : lv_has ls 2 [(0, .ref x_), (1, .int b_)] := hl
  have f12 := hts (.fieldLink RX4 12 "MatchFinders" "text" "LMatchFinders$Text;") (by decide +kernel)
  have f43 := hts (.fieldLink RX4 43 "MatchFinders$Text" "size" "I") (by decide +kernel)
  refine lv_iload_n hx hb dX4_add_0 rfl (lv_at hl 1 rfl) ?_
  refine lv_if_lt (tgt := 11) hx hb dX4_add_1 (by decide) (fun c_1 => ?_) (fun c_1 => ?_)
  · skip
    refine lv_bipush (v := (-2)) hx hb dX4_add_11 (by decide +kernel) ?_
    exact hret _ ls _ _ _ (g, ah, sz, to) dX4_add_13 ⟨by rw [zT_add, if_pos c_1], h6⟩ hP hS
  · skip
    refine lv_iload_n hx hb dX4_add_4 rfl (lv_at hl 1 rfl) ?_
    refine lv_sipush (v := (nI 255)) hx hb dX4_add_5 (by decide +kernel) ?_
    refine lv_icmp_le (tgt := 14) hx hb dX4_add_8 (by decide) (fun c_2 => ?_) (fun c_2 => ?_)
    · skip
      obtain ⟨j, hj, hbj⟩ := zk_wof (n := 255) (by decide) c_1 c_2
      subst hbj
      refine lv_aload_n hx hb dX4_add_14 rfl (lv_at hl 0 rfl) ?_
      refine va_get (D := D) (ci := 4) (v := .ref t) (C := RX4) (T := TX4) (N := 4) hx hb hts ziX4_add_4 hown hK hP 0 rfl rfl 0 (by decide) f12 (fun _ h9 => h9) rfl dX4_add_15 ?_
      refine va_get (D := D) (ci := 3) (v := .int (nI sz)) (C := RX3) (T := TX3) (N := 3) hx hb hts ziX4_add_3 hown hK hP 4 rfl rfl 2 (by decide) f43 (fun _ h9 => h9) rfl dX4_add_18 ?_
      refine lv_sipush (v := (nI 300)) hx hb dX4_add_21 (by decide +kernel) ?_
      refine zk_icmp_lt (tgt := 30) hx hb (by omega) (by omega) dX4_add_24 (by decide) (fun c_3 => ?_) (fun c_3 => ?_)
      · skip
        refine lv_aload_n hx hb dX4_add_30 rfl (lv_at hl 0 rfl) ?_
        refine va_get (D := D) (ci := 4) (v := .ref t) (C := RX4) (T := TX4) (N := 4) hx hb hts ziX4_add_4 hown hK hP 0 rfl rfl 0 (by decide) f12 (fun _ h9 => h9) rfl dX4_add_31 ?_
        refine lv_iload_n hx hb dX4_add_34 rfl (lv_at hl 1 rfl) ?_
        refine zk_wrV (As := [.int (nI j)]) (rest := []) ⟨hx, hb, hml, hown, hts⟩ hN (c_put l D cI cZ cR t b ah sz g j (by omega) (by omega)) (cwV 1 hts gX4_add_X3_put rfl rfl rfl (by decide +kernel) ⟨Nat.le_of_ble_eq_true rfl, Nat.le_of_ble_eq_true rfl⟩) hK hP (zk_D hD rfl) hS hA [4, 5] rfl (by decide) (fun _ => rfl) rfl rfl rfl rfl hl.1 rfl (Nat.le_of_ble_eq_true rfl) dX4_add_35 ⟨Nat.zero_le _, Nat.zero_le _⟩ (fun u H locs hu1 hP hS => ?_)
        have hP : va_P D vwCl [(x_, .inr (4, [.ref t, .ref f, .ref k_, .ref q_])), (f, .inr (0, [.ref t, .int (nI sp), .int (nI dp), .ref fa, .ref fb, .int (nI fc), .int (nI le), .int (nI di)])), (fa, zk_a cI 38 fl), (fb, zk_a cI 38 fd), (t, .inr (3, [.ref b, .int (nI ah), .int (nI (sz + 1))])), (b, zk_a cI 360 (zk_up g (ah + sz) j)), (k_, .inr (1, [.ref ka, .ref kb, .ref kd])), (ka, zk_a cI 301 co), (kb, zk_a cI 300 pn), (kd, zk_a cI 300 pd), (q_, .inl (cR, 4, .inr (.inr (.inr (.inr rf))))), (r 0, .inr (2, [.ref (ra 0), .ref (rb 0), .ref (rd 0), .int (nI (ct 0)), .int (nI (pb 0)), .int (nI (bw 0)), .int (nI (rc 0)), .int (nI (to 0)), .int (nI (la 0)), .int (nI (se 0)), .int (nI (th 0))])), (ra 0, zk_a cI 300 (pl 0)), (rb 0, zk_a cI 300 (ln 0)), (rd 0, zk_a cI 300 (ds 0)), (r 1, .inr (2, [.ref (ra 1), .ref (rb 1), .ref (rd 1), .int (nI (ct 1)), .int (nI (pb 1)), .int (nI (bw 1)), .int (nI (rc 1)), .int (nI (to 1)), .int (nI (la 1)), .int (nI (se 1)), .int (nI (th 1))])), (ra 1, zk_a cI 300 (pl 1)), (rb 1, zk_a cI 300 (ln 1)), (rd 1, zk_a cI 300 (ds 1)), (r 2, .inr (2, [.ref (ra 2), .ref (rb 2), .ref (rd 2), .int (nI (ct 2)), .int (nI (pb 2)), .int (nI (bw 2)), .int (nI (rc 2)), .int (nI (to 2)), .int (nI (la 2)), .int (nI (se 2)), .int (nI (th 2))])), (ra 2, zk_a cI 300 (pl 2)), (rb 2, zk_a cI 300 (ln 2)), (rd 2, zk_a cI 300 (ds 2)), (r 3, .inr (2, [.ref (ra 3), .ref (rb 3), .ref (rd 3), .int (nI (ct 3)), .int (nI (pb 3)), .int (nI (bw 3)), .int (nI (rc 3)), .int (nI (to 3)), .int (nI (la 3)), .int (nI (se 3)), .int (nI (th 3))])), (ra 3, zk_a cI 300 (pl 3)), (rb 3, zk_a cI 300 (ln 3)), (rd 3, zk_a cI 300 (ds 3))] H := hP
        refine lv_aload_n hx hb dX4_add_38 rfl (lv_at hl 0 rfl) ?_
        refine zk_wrV (As := []) (rest := []) ⟨hx, hb, hml, hown, hts⟩ hN (c_forgetRows l D cI cZ cR x_ q_ t f k_ rf (r 0) (ra 0) (rb 0) (rd 0) (ct 0) (pb 0) (bw 0) (rc 0) (to 0) (la 0) (se 0) (th 0) (r 1) (ra 1) (rb 1) (rd 1) (ct 1) (pb 1) (bw 1) (rc 1) (to 1) (la 1) (se 1) (th 1) (r 2) (ra 2) (rb 2) (rd 2) (ct 2) (pb 2) (bw 2) (rc 2) (to 2) (la 2) (se 2) (th 2) (r 3) (ra 3) (rb 3) (rd 3) (ct 3) (pb 3) (bw 3) (rc 3) (to 3) (la 3) (se 3) (th 3) (h5 0 (by omega)) (h5 1 (by omega)) (h5 2 (by omega)) (h5 3 (by omega))) (cwV 0 hts gX4_add_X4_forgetRows rfl rfl rfl (by decide +kernel) ⟨Nat.le_of_ble_eq_true rfl, Nat.le_of_ble_eq_true rfl⟩) hK hP (zk_D hD rfl) hS hA [0, 10, 11, 15, 19, 23] rfl (by decide) (fun _ => rfl) rfl rfl rfl rfl hl.1 rfl (Nat.le_of_ble_eq_true rfl) dX4_add_39 ⟨Nat.zero_le _, Nat.zero_le _⟩ (fun u H locs hu2 hP hS => ?_)
        have hP : va_P D vwCl [(x_, .inr (4, [.ref t, .ref f, .ref k_, .ref q_])), (f, .inr (0, [.ref t, .int (nI sp), .int (nI dp), .ref fa, .ref fb, .int (nI fc), .int (nI le), .int (nI di)])), (fa, zk_a cI 38 fl), (fb, zk_a cI 38 fd), (t, .inr (3, [.ref b, .int (nI ah), .int (nI (sz + 1))])), (b, zk_a cI 360 (zk_up g (ah + sz) j)), (k_, .inr (1, [.ref ka, .ref kb, .ref kd])), (ka, zk_a cI 301 co), (kb, zk_a cI 300 pn), (kd, zk_a cI 300 pd), (q_, .inl (cR, 4, .inr (.inr (.inr (.inr rf))))), (r 0, .inr (2, [.ref (ra 0), .ref (rb 0), .ref (rd 0), .int (nI (ct 0)), .int (nI (pb 0)), .int (nI (bw 0)), .int (nI (rc 0)), .int (nI 0), .int (nI (la 0)), .int (nI (se 0)), .int (nI (th 0))])), (ra 0, zk_a cI 300 (pl 0)), (rb 0, zk_a cI 300 (ln 0)), (rd 0, zk_a cI 300 (ds 0)), (r 1, .inr (2, [.ref (ra 1), .ref (rb 1), .ref (rd 1), .int (nI (ct 1)), .int (nI (pb 1)), .int (nI (bw 1)), .int (nI (rc 1)), .int (nI 0), .int (nI (la 1)), .int (nI (se 1)), .int (nI (th 1))])), (ra 1, zk_a cI 300 (pl 1)), (rb 1, zk_a cI 300 (ln 1)), (rd 1, zk_a cI 300 (ds 1)), (r 2, .inr (2, [.ref (ra 2), .ref (rb 2), .ref (rd 2), .int (nI (ct 2)), .int (nI (pb 2)), .int (nI (bw 2)), .int (nI (rc 2)), .int (nI 0), .int (nI (la 2)), .int (nI (se 2)), .int (nI (th 2))])), (ra 2, zk_a cI 300 (pl 2)), (rb 2, zk_a cI 300 (ln 2)), (rd 2, zk_a cI 300 (ds 2)), (r 3, .inr (2, [.ref (ra 3), .ref (rb 3), .ref (rd 3), .int (nI (ct 3)), .int (nI (pb 3)), .int (nI (bw 3)), .int (nI (rc 3)), .int (nI 0), .int (nI (la 3)), .int (nI (se 3)), .int (nI (th 3))])), (ra 3, zk_a cI 300 (pl 3)), (rb 3, zk_a cI 300 (ln 3)), (rd 3, zk_a cI 300 (ds 3))] H := hP
        refine lv_aload_n hx hb dX4_add_42 rfl (lv_at hl 0 rfl) ?_
        refine va_get (D := D) (ci := 4) (v := .ref t) (C := RX4) (T := TX4) (N := 4) hx hb hts ziX4_add_4 hown hK hP 0 rfl rfl 0 (by decide) f12 (fun _ h9 => h9) rfl dX4_add_43 ?_
        refine va_get (D := D) (ci := 3) (v := .int (nI (sz + 1))) (C := RX3) (T := TX3) (N := 3) hx hb hts ziX4_add_3 hown hK hP 4 rfl rfl 2 (by decide) f43 (fun _ h9 => h9) rfl dX4_add_46 ?_
        exact hret _ ls _ _ _ (_, _, _, fun _ => 0) dX4_add_49 ⟨by rw [zT_add, zk_win hj (by decide), if_pos (by omega), nI_clamp (by omega)], zr_rows_0⟩ hP hS
      · skip
        refine lv_bipush (v := (-4)) hx hb dX4_add_27 (by decide +kernel) ?_
        exact hret _ ls _ _ _ (g, ah, sz, to) dX4_add_29 ⟨by rw [zT_add, zk_win hj (by decide), if_neg (by omega)], h6⟩ hP hS
    · skip
      refine lv_bipush (v := (-2)) hx hb dX4_add_11 (by decide +kernel) ?_
      exact hret _ ls _ _ _ (g, ah, sz, to) dX4_add_13 ⟨by rw [zT_add, if_neg c_1, if_neg c_2], h6⟩ hP hS
def rmX4_clear : Room := { frames := 1, cells := 0, slots := 0, locals := 21 }
set_option maxRecDepth 20000 in
theorem ziX4_clear_3 : ∀ w ∈ wsX30, w ∈ wsX4_clear := by decide +kernel
set_option maxRecDepth 20000 in
theorem ziX4_clear_4 : ∀ w ∈ wsX40, w ∈ wsX4_clear := by decide +kernel
set_option maxHeartbeats 4000000 in
set_option maxRecDepth 100000 in
/-- clear -/
theorem c_clear (l : Launch) (D : va_G) (cI cZ cR : ClassId) (x_ : Nat) (q_ : Nat) (t : Nat) (f : Nat) (k_ : Nat) (rf : Nat → Option Nat) (sp : Nat) (dp : Nat) (fa : Nat) (fb : Nat) (b : Nat) (ka : Nat) (kb : Nat) (kd : Nat) (r : Nat → Nat) (ra : Nat → Nat) (rb : Nat → Nat) (rd : Nat → Nat) (fl : Nat → Nat) (fd : Nat → Nat) (fc : Nat) (le : Nat) (di : Nat) (g : Nat → Nat) (ah : Nat) (sz : Nat) (co : Nat → Nat) (pn : Nat → Nat) (pd : Nat → Nat) (ct : Nat → Nat) (pb : Nat → Nat) (bw : Nat → Nat) (rc : Nat → Nat) (to : Nat → Nat) (la : Nat → Nat) (se : Nat → Nat) (th : Nat → Nat) (pl : Nat → Nat → Nat) (ln : Nat → Nat → Nat) (ds : Nat → Nat → Nat) (h0 : ah ≤ 60) (h1 : sz ≤ 300) (h2 : sp ≤ 300) (h3 : dp ≤ 64) (h4 : ∀ j, g j < 256) (h5 : ∀ i, i < 4 → rf i = some (r i)) (h6 : zr_rows g ah sz sp dp to ct pb bw rc pl ln ds) : zk_Wi l yX4_clear wsX4_clear rmX4_clear D (zk_t cI cZ cR) [.ref x_] [(x_, .inr (4, [.ref t, .ref f, .ref k_, .ref q_])), (f, .inr (0, [.ref t, .int (nI sp), .int (nI dp), .ref fa, .ref fb, .int (nI fc), .int (nI le), .int (nI di)])), (fa, zk_a cI 38 fl), (fb, zk_a cI 38 fd), (t, .inr (3, [.ref b, .int (nI ah), .int (nI sz)])), (b, zk_a cI 360 g), (k_, .inr (1, [.ref ka, .ref kb, .ref kd])), (ka, zk_a cI 301 co), (kb, zk_a cI 300 pn), (kd, zk_a cI 300 pd), (q_, .inl (cR, 4, .inr (.inr (.inr (.inr rf))))), (r 0, .inr (2, [.ref (ra 0), .ref (rb 0), .ref (rd 0), .int (nI (ct 0)), .int (nI (pb 0)), .int (nI (bw 0)), .int (nI (rc 0)), .int (nI (to 0)), .int (nI (la 0)), .int (nI (se 0)), .int (nI (th 0))])), (ra 0, zk_a cI 300 (pl 0)), (rb 0, zk_a cI 300 (ln 0)), (rd 0, zk_a cI 300 (ds 0)), (r 1, .inr (2, [.ref (ra 1), .ref (rb 1), .ref (rd 1), .int (nI (ct 1)), .int (nI (pb 1)), .int (nI (bw 1)), .int (nI (rc 1)), .int (nI (to 1)), .int (nI (la 1)), .int (nI (se 1)), .int (nI (th 1))])), (ra 1, zk_a cI 300 (pl 1)), (rb 1, zk_a cI 300 (ln 1)), (rd 1, zk_a cI 300 (ds 1)), (r 2, .inr (2, [.ref (ra 2), .ref (rb 2), .ref (rd 2), .int (nI (ct 2)), .int (nI (pb 2)), .int (nI (bw 2)), .int (nI (rc 2)), .int (nI (to 2)), .int (nI (la 2)), .int (nI (se 2)), .int (nI (th 2))])), (ra 2, zk_a cI 300 (pl 2)), (rb 2, zk_a cI 300 (ln 2)), (rd 2, zk_a cI 300 (ds 2)), (r 3, .inr (2, [.ref (ra 3), .ref (rb 3), .ref (rd 3), .int (nI (ct 3)), .int (nI (pb 3)), .int (nI (bw 3)), .int (nI (rc 3)), .int (nI (to 3)), .int (nI (la 3)), .int (nI (se 3)), .int (nI (th 3))])), (ra 3, zk_a cI 300 (pl 3)), (rb 3, zk_a cI 300 (ln 3)), (rd 3, zk_a cI 300 (ds 3))] (fun (r : Int32) (u : (Nat → Nat) × Nat × Nat × (Nat → Nat)) => match u with | (g2, ah2, sz2, to2) => (nI sz, g, ah, 0) = (r, g2, ah2, sz2) ∧ zr_rows g2 ah2 sz2 sp dp to2 ct pb bw rc pl ln ds) (fun u => match u with | (g2, ah2, sz2, to2) => [(x_, .inr (4, [.ref t, .ref f, .ref k_, .ref q_])), (f, .inr (0, [.ref t, .int (nI sp), .int (nI dp), .ref fa, .ref fb, .int (nI fc), .int (nI le), .int (nI di)])), (fa, zk_a cI 38 fl), (fb, zk_a cI 38 fd), (t, .inr (3, [.ref b, .int (nI ah2), .int (nI sz2)])), (b, zk_a cI 360 g2), (k_, .inr (1, [.ref ka, .ref kb, .ref kd])), (ka, zk_a cI 301 co), (kb, zk_a cI 300 pn), (kd, zk_a cI 300 pd), (q_, .inl (cR, 4, .inr (.inr (.inr (.inr rf))))), (r 0, .inr (2, [.ref (ra 0), .ref (rb 0), .ref (rd 0), .int (nI (ct 0)), .int (nI (pb 0)), .int (nI (bw 0)), .int (nI (rc 0)), .int (nI (to2 0)), .int (nI (la 0)), .int (nI (se 0)), .int (nI (th 0))])), (ra 0, zk_a cI 300 (pl 0)), (rb 0, zk_a cI 300 (ln 0)), (rd 0, zk_a cI 300 (ds 0)), (r 1, .inr (2, [.ref (ra 1), .ref (rb 1), .ref (rd 1), .int (nI (ct 1)), .int (nI (pb 1)), .int (nI (bw 1)), .int (nI (rc 1)), .int (nI (to2 1)), .int (nI (la 1)), .int (nI (se 1)), .int (nI (th 1))])), (ra 1, zk_a cI 300 (pl 1)), (rb 1, zk_a cI 300 (ln 1)), (rd 1, zk_a cI 300 (ds 1)), (r 2, .inr (2, [.ref (ra 2), .ref (rb 2), .ref (rd 2), .int (nI (ct 2)), .int (nI (pb 2)), .int (nI (bw 2)), .int (nI (rc 2)), .int (nI (to2 2)), .int (nI (la 2)), .int (nI (se 2)), .int (nI (th 2))])), (ra 2, zk_a cI 300 (pl 2)), (rb 2, zk_a cI 300 (ln 2)), (rd 2, zk_a cI 300 (ds 2)), (r 3, .inr (2, [.ref (ra 3), .ref (rb 3), .ref (rd 3), .int (nI (ct 3)), .int (nI (pb 3)), .int (nI (bw 3)), .int (nI (rc 3)), .int (nI (to2 3)), .int (nI (la 3)), .int (nI (se 3)), .int (nI (th 3))])), (ra 3, zk_a cI 300 (pl 3)), (rb 3, zk_a cI 300 (ln 3)), (rd 3, zk_a cI 300 (ds 3))]) := by
  refine zk_enterI RX4 cX4_clear 2 (by decide) rfl rfl (Nat.le_of_ble_eq_true rfl) ?_
  intro p e s m args below meth c ls A Q hx hb hml hown hts hP hK hD hN hl hA hS hret
  have hl : lv_has ls 2 [(0, .ref x_)] := hl
  have f12 := hts (.fieldLink RX4 12 "MatchFinders" "text" "LMatchFinders$Text;") (by decide +kernel)
  have f43 := hts (.fieldLink RX4 43 "MatchFinders$Text" "size" "I") (by decide +kernel)
  refine lv_aload_n hx hb dX4_clear_0 rfl (lv_at hl 0 rfl) ?_
  refine va_get (D := D) (ci := 4) (v := .ref t) (C := RX4) (T := TX4) (N := 4) hx hb hts ziX4_clear_4 hown hK hP 0 rfl rfl 0 (by decide) f12 (fun _ h9 => h9) rfl dX4_clear_1 ?_
  refine va_get (D := D) (ci := 3) (v := .int (nI sz)) (C := RX3) (T := TX3) (N := 3) hx hb hts ziX4_clear_3 hown hK hP 4 rfl rfl 2 (by decide) f43 (fun _ h9 => h9) rfl dX4_clear_4 ?_
  refine lv_istore_n (lv' := [(1, .int (nI sz)), (0, .ref x_)]) hx hb dX4_clear_7 rfl hl (by decide) rfl (fun ls hl => ?_)
  refine lv_aload_n hx hb dX4_clear_8 rfl (lv_at hl 1 rfl) ?_
  refine va_get (D := D) (ci := 4) (v := .ref t) (C := RX4) (T := TX4) (N := 4) hx hb hts ziX4_clear_4 hown hK hP 0 rfl rfl 0 (by decide) f12 (fun _ h9 => h9) rfl dX4_clear_9 ?_
  refine lv_iconst (v := (nI 0)) hx hb dX4_clear_12 (by decide +kernel) ?_
  refine va_put (D := D) (ci := 3) (v := .int (nI 0)) (ty := .int) (C := RX3) (T := TX3) (N := 3) hx hb hts ziX4_clear_3 tyX3 tyX3_ok nmX3 hown hK hP (zk_D hD rfl) hS 4 rfl rfl 2 (by decide) f43 (fun _ h9 => h9) rfl (by decide +kernel) rfl rfl (Nat.le_of_ble_eq_true rfl) dX4_clear_13 (fun H locs hP _ hS => ?_)
  have hP : va_P D vwCl [(x_, .inr (4, [.ref t, .ref f, .ref k_, .ref q_])), (f, .inr (0, [.ref t, .int (nI sp), .int (nI dp), .ref fa, .ref fb, .int (nI fc), .int (nI le), .int (nI di)])), (fa, zk_a cI 38 fl), (fb, zk_a cI 38 fd), (t, .inr (3, [.ref b, .int (nI ah), .int (nI 0)])), (b, zk_a cI 360 g), (k_, .inr (1, [.ref ka, .ref kb, .ref kd])), (ka, zk_a cI 301 co), (kb, zk_a cI 300 pn), (kd, zk_a cI 300 pd), (q_, .inl (cR, 4, .inr (.inr (.inr (.inr rf))))), (r 0, .inr (2, [.ref (ra 0), .ref (rb 0), .ref (rd 0), .int (nI (ct 0)), .int (nI (pb 0)), .int (nI (bw 0)), .int (nI (rc 0)), .int (nI (to 0)), .int (nI (la 0)), .int (nI (se 0)), .int (nI (th 0))])), (ra 0, zk_a cI 300 (pl 0)), (rb 0, zk_a cI 300 (ln 0)), (rd 0, zk_a cI 300 (ds 0)), (r 1, .inr (2, [.ref (ra 1), .ref (rb 1), .ref (rd 1), .int (nI (ct 1)), .int (nI (pb 1)), .int (nI (bw 1)), .int (nI (rc 1)), .int (nI (to 1)), .int (nI (la 1)), .int (nI (se 1)), .int (nI (th 1))])), (ra 1, zk_a cI 300 (pl 1)), (rb 1, zk_a cI 300 (ln 1)), (rd 1, zk_a cI 300 (ds 1)), (r 2, .inr (2, [.ref (ra 2), .ref (rb 2), .ref (rd 2), .int (nI (ct 2)), .int (nI (pb 2)), .int (nI (bw 2)), .int (nI (rc 2)), .int (nI (to 2)), .int (nI (la 2)), .int (nI (se 2)), .int (nI (th 2))])), (ra 2, zk_a cI 300 (pl 2)), (rb 2, zk_a cI 300 (ln 2)), (rd 2, zk_a cI 300 (ds 2)), (r 3, .inr (2, [.ref (ra 3), .ref (rb 3), .ref (rd 3), .int (nI (ct 3)), .int (nI (pb 3)), .int (nI (bw 3)), .int (nI (rc 3)), .int (nI (to 3)), .int (nI (la 3)), .int (nI (se 3)), .int (nI (th 3))])), (ra 3, zk_a cI 300 (pl 3)), (rb 3, zk_a cI 300 (ln 3)), (rd 3, zk_a cI 300 (ds 3))] H := hP
  refine lv_aload_n hx hb dX4_clear_16 rfl (lv_at hl 1 rfl) ?_
  refine zk_wrV (As := []) (rest := []) ⟨hx, hb, hml, hown, hts⟩ hN (c_forgetRows l D cI cZ cR x_ q_ t f k_ rf (r 0) (ra 0) (rb 0) (rd 0) (ct 0) (pb 0) (bw 0) (rc 0) (to 0) (la 0) (se 0) (th 0) (r 1) (ra 1) (rb 1) (rd 1) (ct 1) (pb 1) (bw 1) (rc 1) (to 1) (la 1) (se 1) (th 1) (r 2) (ra 2) (rb 2) (rd 2) (ct 2) (pb 2) (bw 2) (rc 2) (to 2) (la 2) (se 2) (th 2) (r 3) (ra 3) (rb 3) (rd 3) (ct 3) (pb 3) (bw 3) (rc 3) (to 3) (la 3) (se 3) (th 3) (h5 0 (by omega)) (h5 1 (by omega)) (h5 2 (by omega)) (h5 3 (by omega))) (cwV 0 hts gX4_clear_X4_forgetRows rfl rfl rfl (by decide +kernel) ⟨Nat.le_of_ble_eq_true rfl, Nat.le_of_ble_eq_true rfl⟩) hK hP (zk_D hD rfl) hS hA [0, 10, 11, 15, 19, 23] rfl (by decide) (fun _ => rfl) rfl rfl rfl rfl hl.1 rfl (Nat.le_of_ble_eq_true rfl) dX4_clear_17 ⟨Nat.zero_le _, Nat.zero_le _⟩ (fun u H locs hu2 hP hS => ?_)
  have hP : va_P D vwCl [(x_, .inr (4, [.ref t, .ref f, .ref k_, .ref q_])), (f, .inr (0, [.ref t, .int (nI sp), .int (nI dp), .ref fa, .ref fb, .int (nI fc), .int (nI le), .int (nI di)])), (fa, zk_a cI 38 fl), (fb, zk_a cI 38 fd), (t, .inr (3, [.ref b, .int (nI ah), .int (nI 0)])), (b, zk_a cI 360 g), (k_, .inr (1, [.ref ka, .ref kb, .ref kd])), (ka, zk_a cI 301 co), (kb, zk_a cI 300 pn), (kd, zk_a cI 300 pd), (q_, .inl (cR, 4, .inr (.inr (.inr (.inr rf))))), (r 0, .inr (2, [.ref (ra 0), .ref (rb 0), .ref (rd 0), .int (nI (ct 0)), .int (nI (pb 0)), .int (nI (bw 0)), .int (nI (rc 0)), .int (nI 0), .int (nI (la 0)), .int (nI (se 0)), .int (nI (th 0))])), (ra 0, zk_a cI 300 (pl 0)), (rb 0, zk_a cI 300 (ln 0)), (rd 0, zk_a cI 300 (ds 0)), (r 1, .inr (2, [.ref (ra 1), .ref (rb 1), .ref (rd 1), .int (nI (ct 1)), .int (nI (pb 1)), .int (nI (bw 1)), .int (nI (rc 1)), .int (nI 0), .int (nI (la 1)), .int (nI (se 1)), .int (nI (th 1))])), (ra 1, zk_a cI 300 (pl 1)), (rb 1, zk_a cI 300 (ln 1)), (rd 1, zk_a cI 300 (ds 1)), (r 2, .inr (2, [.ref (ra 2), .ref (rb 2), .ref (rd 2), .int (nI (ct 2)), .int (nI (pb 2)), .int (nI (bw 2)), .int (nI (rc 2)), .int (nI 0), .int (nI (la 2)), .int (nI (se 2)), .int (nI (th 2))])), (ra 2, zk_a cI 300 (pl 2)), (rb 2, zk_a cI 300 (ln 2)), (rd 2, zk_a cI 300 (ds 2)), (r 3, .inr (2, [.ref (ra 3), .ref (rb 3), .ref (rd 3), .int (nI (ct 3)), .int (nI (pb 3)), .int (nI (bw 3)), .int (nI (rc 3)), .int (nI 0), .int (nI (la 3)), .int (nI (se 3)), .int (nI (th 3))])), (ra 3, zk_a cI 300 (pl 3)), (rb 3, zk_a cI 300 (ln 3)), (rd 3, zk_a cI 300 (ds 3))] H := hP
  refine lv_iload_n hx hb dX4_clear_20 rfl (lv_at hl 0 rfl) ?_
  exact hret _ ls _ _ _ (g, ah, 0, fun _ => 0) dX4_clear_21 ⟨rfl, zr_rows_0⟩ hP hS
def rmX4_dictionary : Room := { frames := 2, cells := 0, slots := 0, locals := 44 }
set_option maxRecDepth 20000 in
theorem ziX4_dictionary_3 : ∀ w ∈ wsX30, w ∈ wsX4_dictionary := by decide +kernel
set_option maxRecDepth 20000 in
theorem ziX4_dictionary_4 : ∀ w ∈ wsX40, w ∈ wsX4_dictionary := by decide +kernel
set_option maxHeartbeats 4000000 in
set_option maxRecDepth 100000 in
/-- dictionary -/
theorem c_dictionary (l : Launch) (D : va_G) (cI cZ cR : ClassId) (x_ : Nat) (q_ : Nat) (t : Nat) (f : Nat) (k_ : Nat) (rf : Nat → Option Nat) (sp : Nat) (dp : Nat) (fa : Nat) (fb : Nat) (b : Nat) (ka : Nat) (kb : Nat) (kd : Nat) (r : Nat → Nat) (ra : Nat → Nat) (rb : Nat → Nat) (rd : Nat → Nat) (fl : Nat → Nat) (fd : Nat → Nat) (fc : Nat) (le : Nat) (di : Nat) (g : Nat → Nat) (ah : Nat) (sz : Nat) (co : Nat → Nat) (pn : Nat → Nat) (pd : Nat → Nat) (ct : Nat → Nat) (pb : Nat → Nat) (bw : Nat → Nat) (rc : Nat → Nat) (to : Nat → Nat) (la : Nat → Nat) (se : Nat → Nat) (th : Nat → Nat) (pl : Nat → Nat → Nat) (ln : Nat → Nat → Nat) (ds : Nat → Nat → Nat) (h0 : ah ≤ 60) (h1 : sz ≤ 300) (h2 : sp ≤ 300) (h3 : dp ≤ 64) (h4 : ∀ j, g j < 256) (h5 : ∀ i, i < 4 → rf i = some (r i)) (h6 : zr_rows g ah sz sp dp to ct pb bw rc pl ln ds) : zk_Wi l yX4_dictionary wsX4_dictionary rmX4_dictionary D (zk_t cI cZ cR) [.ref x_] [(x_, .inr (4, [.ref t, .ref f, .ref k_, .ref q_])), (f, .inr (0, [.ref t, .int (nI sp), .int (nI dp), .ref fa, .ref fb, .int (nI fc), .int (nI le), .int (nI di)])), (fa, zk_a cI 38 fl), (fb, zk_a cI 38 fd), (t, .inr (3, [.ref b, .int (nI ah), .int (nI sz)])), (b, zk_a cI 360 g), (k_, .inr (1, [.ref ka, .ref kb, .ref kd])), (ka, zk_a cI 301 co), (kb, zk_a cI 300 pn), (kd, zk_a cI 300 pd), (q_, .inl (cR, 4, .inr (.inr (.inr (.inr rf))))), (r 0, .inr (2, [.ref (ra 0), .ref (rb 0), .ref (rd 0), .int (nI (ct 0)), .int (nI (pb 0)), .int (nI (bw 0)), .int (nI (rc 0)), .int (nI (to 0)), .int (nI (la 0)), .int (nI (se 0)), .int (nI (th 0))])), (ra 0, zk_a cI 300 (pl 0)), (rb 0, zk_a cI 300 (ln 0)), (rd 0, zk_a cI 300 (ds 0)), (r 1, .inr (2, [.ref (ra 1), .ref (rb 1), .ref (rd 1), .int (nI (ct 1)), .int (nI (pb 1)), .int (nI (bw 1)), .int (nI (rc 1)), .int (nI (to 1)), .int (nI (la 1)), .int (nI (se 1)), .int (nI (th 1))])), (ra 1, zk_a cI 300 (pl 1)), (rb 1, zk_a cI 300 (ln 1)), (rd 1, zk_a cI 300 (ds 1)), (r 2, .inr (2, [.ref (ra 2), .ref (rb 2), .ref (rd 2), .int (nI (ct 2)), .int (nI (pb 2)), .int (nI (bw 2)), .int (nI (rc 2)), .int (nI (to 2)), .int (nI (la 2)), .int (nI (se 2)), .int (nI (th 2))])), (ra 2, zk_a cI 300 (pl 2)), (rb 2, zk_a cI 300 (ln 2)), (rd 2, zk_a cI 300 (ds 2)), (r 3, .inr (2, [.ref (ra 3), .ref (rb 3), .ref (rd 3), .int (nI (ct 3)), .int (nI (pb 3)), .int (nI (bw 3)), .int (nI (rc 3)), .int (nI (to 3)), .int (nI (la 3)), .int (nI (se 3)), .int (nI (th 3))])), (ra 3, zk_a cI 300 (pl 3)), (rb 3, zk_a cI 300 (ln 3)), (rd 3, zk_a cI 300 (ds 3))] (fun (r : Int32) (u : (Nat → Nat) × Nat × Nat × (Nat → Nat)) => match u with | (g2, ah2, sz2, to2) => (nI (min 60 sz), zr_cp g (ah + sz - min 60 sz) (min 60 sz), min 60 sz, 0) = (r, g2, ah2, sz2) ∧ zr_rows g2 ah2 sz2 sp dp to2 ct pb bw rc pl ln ds) (fun u => match u with | (g2, ah2, sz2, to2) => [(x_, .inr (4, [.ref t, .ref f, .ref k_, .ref q_])), (f, .inr (0, [.ref t, .int (nI sp), .int (nI dp), .ref fa, .ref fb, .int (nI fc), .int (nI le), .int (nI di)])), (fa, zk_a cI 38 fl), (fb, zk_a cI 38 fd), (t, .inr (3, [.ref b, .int (nI ah2), .int (nI sz2)])), (b, zk_a cI 360 g2), (k_, .inr (1, [.ref ka, .ref kb, .ref kd])), (ka, zk_a cI 301 co), (kb, zk_a cI 300 pn), (kd, zk_a cI 300 pd), (q_, .inl (cR, 4, .inr (.inr (.inr (.inr rf))))), (r 0, .inr (2, [.ref (ra 0), .ref (rb 0), .ref (rd 0), .int (nI (ct 0)), .int (nI (pb 0)), .int (nI (bw 0)), .int (nI (rc 0)), .int (nI (to2 0)), .int (nI (la 0)), .int (nI (se 0)), .int (nI (th 0))])), (ra 0, zk_a cI 300 (pl 0)), (rb 0, zk_a cI 300 (ln 0)), (rd 0, zk_a cI 300 (ds 0)), (r 1, .inr (2, [.ref (ra 1), .ref (rb 1), .ref (rd 1), .int (nI (ct 1)), .int (nI (pb 1)), .int (nI (bw 1)), .int (nI (rc 1)), .int (nI (to2 1)), .int (nI (la 1)), .int (nI (se 1)), .int (nI (th 1))])), (ra 1, zk_a cI 300 (pl 1)), (rb 1, zk_a cI 300 (ln 1)), (rd 1, zk_a cI 300 (ds 1)), (r 2, .inr (2, [.ref (ra 2), .ref (rb 2), .ref (rd 2), .int (nI (ct 2)), .int (nI (pb 2)), .int (nI (bw 2)), .int (nI (rc 2)), .int (nI (to2 2)), .int (nI (la 2)), .int (nI (se 2)), .int (nI (th 2))])), (ra 2, zk_a cI 300 (pl 2)), (rb 2, zk_a cI 300 (ln 2)), (rd 2, zk_a cI 300 (ds 2)), (r 3, .inr (2, [.ref (ra 3), .ref (rb 3), .ref (rd 3), .int (nI (ct 3)), .int (nI (pb 3)), .int (nI (bw 3)), .int (nI (rc 3)), .int (nI (to2 3)), .int (nI (la 3)), .int (nI (se 3)), .int (nI (th 3))])), (ra 3, zk_a cI 300 (pl 3)), (rb 3, zk_a cI 300 (ln 3)), (rd 3, zk_a cI 300 (ds 3))]) := by
  refine zk_enterI RX4 cX4_dictionary 1 (by decide) rfl rfl (Nat.le_of_ble_eq_true rfl) ?_
  intro p e s m args below meth c ls A Q hx hb hml hown hts hP hK hD hN hl hA hS hret
  have hl : lv_has ls 1 [(0, .ref x_)] := hl
  have f12 := hts (.fieldLink RX4 12 "MatchFinders" "text" "LMatchFinders$Text;") (by decide +kernel)
  have f62 := hts (.fieldLink RX4 62 "MatchFinders$Text" "ahead" "I") (by decide +kernel)
  refine lv_aload_n hx hb dX4_dictionary_0 rfl (lv_at hl 0 rfl) ?_
  refine va_get (D := D) (ci := 4) (v := .ref t) (C := RX4) (T := TX4) (N := 4) hx hb hts ziX4_dictionary_4 hown hK hP 0 rfl rfl 0 (by decide) f12 (fun _ h9 => h9) rfl dX4_dictionary_1 ?_
  refine zk_wrV (As := []) (rest := []) ⟨hx, hb, hml, hown, hts⟩ hN (c_becomeDictionary l D cI cZ cR t b ah sz g (by omega) (by omega)) (cwV 0 hts gX4_dictionary_X3_becomeDictionary rfl rfl rfl (by decide +kernel) ⟨Nat.le_of_ble_eq_true rfl, Nat.le_of_ble_eq_true rfl⟩) hK hP (zk_D hD rfl) hS hA [4, 5] rfl (by decide) (fun _ => rfl) rfl rfl rfl rfl hl.1 rfl (Nat.le_of_ble_eq_true rfl) dX4_dictionary_4 ⟨Nat.zero_le _, Nat.zero_le _⟩ (fun u H locs hu1 hP hS => ?_)
  have hP : va_P D vwCl [(x_, .inr (4, [.ref t, .ref f, .ref k_, .ref q_])), (f, .inr (0, [.ref t, .int (nI sp), .int (nI dp), .ref fa, .ref fb, .int (nI fc), .int (nI le), .int (nI di)])), (fa, zk_a cI 38 fl), (fb, zk_a cI 38 fd), (t, .inr (3, [.ref b, .int (nI (min 60 sz)), .int (nI 0)])), (b, zk_a cI 360 (zr_cp g (ah + sz - min 60 sz) (min 60 sz))), (k_, .inr (1, [.ref ka, .ref kb, .ref kd])), (ka, zk_a cI 301 co), (kb, zk_a cI 300 pn), (kd, zk_a cI 300 pd), (q_, .inl (cR, 4, .inr (.inr (.inr (.inr rf))))), (r 0, .inr (2, [.ref (ra 0), .ref (rb 0), .ref (rd 0), .int (nI (ct 0)), .int (nI (pb 0)), .int (nI (bw 0)), .int (nI (rc 0)), .int (nI (to 0)), .int (nI (la 0)), .int (nI (se 0)), .int (nI (th 0))])), (ra 0, zk_a cI 300 (pl 0)), (rb 0, zk_a cI 300 (ln 0)), (rd 0, zk_a cI 300 (ds 0)), (r 1, .inr (2, [.ref (ra 1), .ref (rb 1), .ref (rd 1), .int (nI (ct 1)), .int (nI (pb 1)), .int (nI (bw 1)), .int (nI (rc 1)), .int (nI (to 1)), .int (nI (la 1)), .int (nI (se 1)), .int (nI (th 1))])), (ra 1, zk_a cI 300 (pl 1)), (rb 1, zk_a cI 300 (ln 1)), (rd 1, zk_a cI 300 (ds 1)), (r 2, .inr (2, [.ref (ra 2), .ref (rb 2), .ref (rd 2), .int (nI (ct 2)), .int (nI (pb 2)), .int (nI (bw 2)), .int (nI (rc 2)), .int (nI (to 2)), .int (nI (la 2)), .int (nI (se 2)), .int (nI (th 2))])), (ra 2, zk_a cI 300 (pl 2)), (rb 2, zk_a cI 300 (ln 2)), (rd 2, zk_a cI 300 (ds 2)), (r 3, .inr (2, [.ref (ra 3), .ref (rb 3), .ref (rd 3), .int (nI (ct 3)), .int (nI (pb 3)), .int (nI (bw 3)), .int (nI (rc 3)), .int (nI (to 3)), .int (nI (la 3)), .int (nI (se 3)), .int (nI (th 3))])), (ra 3, zk_a cI 300 (pl 3)), (rb 3, zk_a cI 300 (ln 3)), (rd 3, zk_a cI 300 (ds 3))] H := hP
  refine lv_aload_n hx hb dX4_dictionary_7 rfl (lv_at hl 0 rfl) ?_
  refine zk_wrV (As := []) (rest := []) ⟨hx, hb, hml, hown, hts⟩ hN (c_forgetRows l D cI cZ cR x_ q_ t f k_ rf (r 0) (ra 0) (rb 0) (rd 0) (ct 0) (pb 0) (bw 0) (rc 0) (to 0) (la 0) (se 0) (th 0) (r 1) (ra 1) (rb 1) (rd 1) (ct 1) (pb 1) (bw 1) (rc 1) (to 1) (la 1) (se 1) (th 1) (r 2) (ra 2) (rb 2) (rd 2) (ct 2) (pb 2) (bw 2) (rc 2) (to 2) (la 2) (se 2) (th 2) (r 3) (ra 3) (rb 3) (rd 3) (ct 3) (pb 3) (bw 3) (rc 3) (to 3) (la 3) (se 3) (th 3) (h5 0 (by omega)) (h5 1 (by omega)) (h5 2 (by omega)) (h5 3 (by omega))) (cwV 0 hts gX4_dictionary_X4_forgetRows rfl rfl rfl (by decide +kernel) ⟨Nat.le_of_ble_eq_true rfl, Nat.le_of_ble_eq_true rfl⟩) hK hP (zk_D hD rfl) hS hA [0, 10, 11, 15, 19, 23] rfl (by decide) (fun _ => rfl) rfl rfl rfl rfl hl.1 rfl (Nat.le_of_ble_eq_true rfl) dX4_dictionary_8 ⟨Nat.zero_le _, Nat.zero_le _⟩ (fun u H locs hu2 hP hS => ?_)
  have hP : va_P D vwCl [(x_, .inr (4, [.ref t, .ref f, .ref k_, .ref q_])), (f, .inr (0, [.ref t, .int (nI sp), .int (nI dp), .ref fa, .ref fb, .int (nI fc), .int (nI le), .int (nI di)])), (fa, zk_a cI 38 fl), (fb, zk_a cI 38 fd), (t, .inr (3, [.ref b, .int (nI (min 60 sz)), .int (nI 0)])), (b, zk_a cI 360 (zr_cp g (ah + sz - min 60 sz) (min 60 sz))), (k_, .inr (1, [.ref ka, .ref kb, .ref kd])), (ka, zk_a cI 301 co), (kb, zk_a cI 300 pn), (kd, zk_a cI 300 pd), (q_, .inl (cR, 4, .inr (.inr (.inr (.inr rf))))), (r 0, .inr (2, [.ref (ra 0), .ref (rb 0), .ref (rd 0), .int (nI (ct 0)), .int (nI (pb 0)), .int (nI (bw 0)), .int (nI (rc 0)), .int (nI 0), .int (nI (la 0)), .int (nI (se 0)), .int (nI (th 0))])), (ra 0, zk_a cI 300 (pl 0)), (rb 0, zk_a cI 300 (ln 0)), (rd 0, zk_a cI 300 (ds 0)), (r 1, .inr (2, [.ref (ra 1), .ref (rb 1), .ref (rd 1), .int (nI (ct 1)), .int (nI (pb 1)), .int (nI (bw 1)), .int (nI (rc 1)), .int (nI 0), .int (nI (la 1)), .int (nI (se 1)), .int (nI (th 1))])), (ra 1, zk_a cI 300 (pl 1)), (rb 1, zk_a cI 300 (ln 1)), (rd 1, zk_a cI 300 (ds 1)), (r 2, .inr (2, [.ref (ra 2), .ref (rb 2), .ref (rd 2), .int (nI (ct 2)), .int (nI (pb 2)), .int (nI (bw 2)), .int (nI (rc 2)), .int (nI 0), .int (nI (la 2)), .int (nI (se 2)), .int (nI (th 2))])), (ra 2, zk_a cI 300 (pl 2)), (rb 2, zk_a cI 300 (ln 2)), (rd 2, zk_a cI 300 (ds 2)), (r 3, .inr (2, [.ref (ra 3), .ref (rb 3), .ref (rd 3), .int (nI (ct 3)), .int (nI (pb 3)), .int (nI (bw 3)), .int (nI (rc 3)), .int (nI 0), .int (nI (la 3)), .int (nI (se 3)), .int (nI (th 3))])), (ra 3, zk_a cI 300 (pl 3)), (rb 3, zk_a cI 300 (ln 3)), (rd 3, zk_a cI 300 (ds 3))] H := hP
  refine lv_aload_n hx hb dX4_dictionary_11 rfl (lv_at hl 0 rfl) ?_
  refine va_get (D := D) (ci := 4) (v := .ref t) (C := RX4) (T := TX4) (N := 4) hx hb hts ziX4_dictionary_4 hown hK hP 0 rfl rfl 0 (by decide) f12 (fun _ h9 => h9) rfl dX4_dictionary_12 ?_
  refine va_get (D := D) (ci := 3) (v := .int (nI (min 60 sz))) (C := RX3) (T := TX3) (N := 3) hx hb hts ziX4_dictionary_3 hown hK hP 4 rfl rfl 1 (by decide) f62 (fun _ h9 => h9) rfl dX4_dictionary_15 ?_
  exact hret _ ls _ _ _ (_, _, _, fun _ => 0) dX4_dictionary_18 ⟨rfl, zr_rows_0⟩ hP hS
def rmX4_size : Room := { frames := 0, cells := 0, slots := 0, locals := 0 }
set_option maxRecDepth 20000 in
theorem ziX4_size_3 : ∀ w ∈ wsX30, w ∈ wsX4_size := by decide +kernel
set_option maxRecDepth 20000 in
theorem ziX4_size_4 : ∀ w ∈ wsX40, w ∈ wsX4_size := by decide +kernel
set_option maxHeartbeats 4000000 in
set_option maxRecDepth 100000 in
/-- size -/
theorem c_size (l : Launch) (D : va_G) (cI cZ cR : ClassId) (x_ : Nat) (q_ : Nat) (f : Nat) (k_ : Nat) (t : Nat) (b : Nat) (ah : Nat) (sz : Nat) (g : Nat → Nat) (w_ : Int32) : zk_Rd l yX4_size wsX4_size rmX4_size D (zk_t cI cZ cR) [.ref x_, .int w_] [(x_, .inr (4, [.ref t, .ref f, .ref k_, .ref q_])), (t, .inr (3, [.ref b, .int (nI ah), .int (nI sz)])), (b, zk_a cI 360 g)] (zA_size w_ ah sz) := by
  refine zk_enterR RX4 cX4_size 2 .int (by decide) rfl rfl (Nat.le_of_ble_eq_true rfl) (Or.inl rfl) ?_
  intro p e s m args below meth c ls Q hx hb hml hown hts hP hK hD hN hl hret
  have hl : lv_has ls 2 [(0, .ref x_), (1, .int w_)] := hl
  have f12 := hts (.fieldLink RX4 12 "MatchFinders" "text" "LMatchFinders$Text;") (by decide +kernel)
  have f43 := hts (.fieldLink RX4 43 "MatchFinders$Text" "size" "I") (by decide +kernel)
  have f62 := hts (.fieldLink RX4 62 "MatchFinders$Text" "ahead" "I") (by decide +kernel)
  refine lv_iload_n hx hb dX4_size_0 rfl (lv_at hl 1 rfl) ?_
  refine lv_if_ne (tgt := 12) hx hb dX4_size_1 (by decide) (fun c_1 => ?_) (fun c_1 => ?_)
  · skip
    refine lv_iload_n hx hb dX4_size_12 rfl (lv_at hl 1 rfl) ?_
    refine lv_iconst (v := (nI 1)) hx hb dX4_size_13 (by decide +kernel) ?_
    refine lv_icmp_ne (tgt := 27) hx hb dX4_size_14 (by decide) (fun c_2 => ?_) (fun c_2 => ?_)
    · skip
      refine lv_bipush (v := (-2)) hx hb dX4_size_27 (by decide +kernel) ?_
      exact hret _ ls _ dX4_size_29 (by rw [zA_size, if_neg c_1, if_neg c_2])
    · skip
      refine lv_aload_n hx hb dX4_size_17 rfl (lv_at hl 0 rfl) ?_
      refine va_get (D := D) (ci := 4) (v := .ref t) (C := RX4) (T := TX4) (N := 4) hx hb hts ziX4_size_4 hown hK hP 0 rfl rfl 0 (by decide) f12 (fun _ h9 => h9) rfl dX4_size_18 ?_
      refine va_get (D := D) (ci := 3) (v := .int (nI ah)) (C := RX3) (T := TX3) (N := 3) hx hb hts ziX4_size_3 hown hK hP 1 rfl rfl 1 (by decide) f62 (fun _ h9 => h9) rfl dX4_size_21 ?_
      refine lv_goto (tgt := 29) hx hb dX4_size_24 (by decide) ?_
      exact hret _ ls _ dX4_size_29 (by rw [zA_size, if_neg c_1, if_pos c_2])
  · skip
    refine lv_aload_n hx hb dX4_size_4 rfl (lv_at hl 0 rfl) ?_
    refine va_get (D := D) (ci := 4) (v := .ref t) (C := RX4) (T := TX4) (N := 4) hx hb hts ziX4_size_4 hown hK hP 0 rfl rfl 0 (by decide) f12 (fun _ h9 => h9) rfl dX4_size_5 ?_
    refine va_get (D := D) (ci := 3) (v := .int (nI sz)) (C := RX3) (T := TX3) (N := 3) hx hb hts ziX4_size_3 hown hK hP 1 rfl rfl 2 (by decide) f43 (fun _ h9 => h9) rfl dX4_size_8 ?_
    exact hret _ ls _ dX4_size_11 (by rw [zA_size, if_pos c_1])
def rmX4_octet : Room := { frames := 1, cells := 0, slots := 0, locals := 21 }
set_option maxRecDepth 20000 in
theorem ziX4_octet_4 : ∀ w ∈ wsX40, w ∈ wsX4_octet := by decide +kernel
set_option maxHeartbeats 4000000 in
set_option maxRecDepth 100000 in
/-- octet -/
theorem c_octet (l : Launch) (D : va_G) (cI cZ cR : ClassId) (x_ : Nat) (q_ : Nat) (f : Nat) (k_ : Nat) (t : Nat) (b : Nat) (ah : Nat) (sz : Nat) (g : Nat → Nat) (i_ : Int32) (h0 : ah ≤ 60) (h1 : sz ≤ 300) : zk_Rd l yX4_octet wsX4_octet rmX4_octet D (zk_t cI cZ cR) [.ref x_, .int i_] [(x_, .inr (4, [.ref t, .ref f, .ref k_, .ref q_])), (t, .inr (3, [.ref b, .int (nI ah), .int (nI sz)])), (b, zk_a cI 360 g)] (zr_at g ah sz i_) := by
  refine zk_enterR RX4 cX4_octet 2 .int (by decide) rfl rfl (Nat.le_of_ble_eq_true rfl) (Or.inl rfl) ?_
  intro p e s m args below meth c ls Q hx hb hml hown hts hP hK hD hN hl hret
  have hl : lv_has ls 2 [(0, .ref x_), (1, .int i_)] := hl
  have f12 := hts (.fieldLink RX4 12 "MatchFinders" "text" "LMatchFinders$Text;") (by decide +kernel)
  refine lv_aload_n hx hb dX4_octet_0 rfl (lv_at hl 0 rfl) ?_
  refine va_get (D := D) (ci := 4) (v := .ref t) (C := RX4) (T := TX4) (N := 4) hx hb hts ziX4_octet_4 hown hK hP 0 rfl rfl 0 (by decide) f12 (fun _ h9 => h9) rfl dX4_octet_1 ?_
  refine lv_iload_n hx hb dX4_octet_4 rfl (lv_at hl 1 rfl) ?_
  refine zk_rdV (As := [.int i_]) (rest := []) ⟨hx, hb, hml, hown, hts⟩ hN (c_at l D cI cZ cR t b ah sz g i_ (by omega) (by omega)) (cwV 1 hts gX4_octet_X3_at rfl rfl rfl (by decide +kernel) ⟨Nat.le_of_ble_eq_true rfl, Nat.le_of_ble_eq_true rfl⟩) hK hP hD [1, 2] rfl (by decide) rfl rfl rfl rfl hl.1 rfl (Nat.le_of_ble_eq_true rfl) dX4_octet_5 ⟨Nat.zero_le _, Nat.zero_le _⟩ ?_
  exact hret _ ls _ dX4_octet_8 rfl
def rmX4_filling : Room := { frames := 1, cells := 0, slots := 0, locals := 21 }
set_option maxRecDepth 20000 in
theorem ziX4_filling_3 : ∀ w ∈ wsX30, w ∈ wsX4_filling := by decide +kernel
set_option maxRecDepth 20000 in
theorem ziX4_filling_4 : ∀ w ∈ wsX40, w ∈ wsX4_filling := by decide +kernel
set_option maxHeartbeats 4000000 in
set_option maxRecDepth 100000 in
/-- filling -/
theorem c_filling (l : Launch) (D : va_G) (cI cZ cR : ClassId) (x_ : Nat) (q_ : Nat) (f : Nat) (k_ : Nat) (t : Nat) (b : Nat) (ah : Nat) (sz : Nat) (g : Nat → Nat) (z_ : Nat) (o_ : Nat) (k2 : Nat) (h0 : ah ≤ 60) (h1 : sz ≤ 300) (h2 : z_ < 65536) (h3 : o_ ≤ 2) (h4 : k2 ≤ 32) (h5 : 1 ≤ k2) : zk_Rd l yX4_filling wsX4_filling rmX4_filling D (zk_t cI cZ cR) [.ref x_, .int (nI z_), .int (nI o_), .int (nI k2)] [(x_, .inr (4, [.ref t, .ref f, .ref k_, .ref q_])), (t, .inr (3, [.ref b, .int (nI ah), .int (nI sz)])), (b, zk_a cI 360 g)] (nI (zr_fb z_ o_ k2 g ah sz)) := by
  refine zk_enterR RX4 cX4_filling 5 .int (by decide) rfl rfl (Nat.le_of_ble_eq_true rfl) (Or.inl rfl) ?_
  intro p e s m args below meth c ls Q hx hb hml hown hts hP hK hD hN hl hret
  have hl : lv_has ls 5 [(0, .ref x_), (1, .int (nI z_)), (2, .int (nI o_)), (3, .int (nI k2))] := hl
  have f12 := hts (.fieldLink RX4 12 "MatchFinders" "text" "LMatchFinders$Text;") (by decide +kernel)
  have f43 := hts (.fieldLink RX4 43 "MatchFinders$Text" "size" "I") (by decide +kernel)
  refine lv_iload_n hx hb dX4_filling_0 rfl (lv_at hl 2 rfl) ?_
  refine zk_if_ne (tgt := 10) hx hb (by omega) dX4_filling_1 (by decide) (fun c_1 => ?_) (fun c_1 => ?_)
  · skip
    refine lv_iload_n hx hb dX4_filling_10 rfl (lv_at hl 2 rfl) ?_
    refine lv_iconst (v := (nI 1)) hx hb dX4_filling_11 (by decide +kernel) ?_
    refine zk_icmp_ne (tgt := 19) hx hb (by omega) (by omega) dX4_filling_12 (by decide) (fun c_2 => ?_) (fun c_2 => ?_)
    · skip
      refine lv_aload_n hx hb dX4_filling_19 rfl (lv_at hl 0 rfl) ?_
      refine va_get (D := D) (ci := 4) (v := .ref t) (C := RX4) (T := TX4) (N := 4) hx hb hts ziX4_filling_4 hown hK hP 0 rfl rfl 0 (by decide) f12 (fun _ h9 => h9) rfl dX4_filling_20 ?_
      refine va_get (D := D) (ci := 3) (v := .int (nI sz)) (C := RX3) (T := TX3) (N := 3) hx hb hts ziX4_filling_3 hown hK hP 1 rfl rfl 2 (by decide) f43 (fun _ h9 => h9) rfl dX4_filling_23 ?_
      refine lv_iload_n hx hb dX4_filling_26 rfl (lv_at hl 3 rfl) ?_
      refine lv_isub hx hb dX4_filling_27 ?_
      refine lv_istore (lv' := [(4, .int ((nI sz) - (nI k2))), (0, .ref x_), (1, .int (nI z_)), (2, .int (nI o_)), (3, .int (nI k2))]) hx hb dX4_filling_28 hl (by decide) rfl (fun ls hl => ?_)
      refine lv_iload_n hx hb dX4_filling_30 rfl (lv_at hl 2 rfl) ?_
      refine lv_bipush (v := (nI 8)) hx hb dX4_filling_31 (by decide +kernel) ?_
      refine zk_rem (v := z_ % 8) hx hb (by omega) (by omega) (by omega) rfl dX4_filling_33 ?_
      refine zk_if_eq (tgt := 54) hx hb (by omega) dX4_filling_34 (by decide) (fun c_3 => ?_) (fun c_3 => ?_)
      · skip
        refine lv_iload_n hx hb dX4_filling_54 rfl (lv_at hl 2 rfl) ?_
        refine lv_iconst (v := (nI 4)) hx hb dX4_filling_55 (by decide +kernel) ?_
        refine zk_rem (v := z_ % 4) hx hb (by omega) (by omega) (by omega) rfl dX4_filling_56 ?_
        exact hret _ ls _ dX4_filling_57 (by rw [zr_fb, if_neg (by omega), if_neg (by omega), if_pos c_3])
      · skip
        refine lv_iload hx hb dX4_filling_37 (lv_at hl 0 rfl) ?_
        refine lv_if_lt (tgt := 54) hx hb dX4_filling_39 (by decide) (fun c_4 => ?_) (fun c_4 => ?_)
        · skip
          have hb9 : ¬ k2 ≤ sz := fun h9 => by rw [pk_sub h9] at c_4; exact nI_pos (by omega) c_4
          refine lv_iload_n hx hb dX4_filling_54 rfl (lv_at hl 2 rfl) ?_
          refine lv_iconst (v := (nI 4)) hx hb dX4_filling_55 (by decide +kernel) ?_
          refine zk_rem (v := z_ % 4) hx hb (by omega) (by omega) (by omega) rfl dX4_filling_56 ?_
          exact hret _ ls _ dX4_filling_57 (by rw [zr_fb, if_neg (by omega), if_neg (by omega), if_neg (by omega), if_neg hb9])
        · skip
          have hb9 : k2 ≤ sz := Nat.le_of_not_lt (fun h9 => c_4 (pk_sneg (by omega) h9))
          rw [pk_sub hb9] at hl
          refine lv_aload_n hx hb dX4_filling_42 rfl (lv_at hl 1 rfl) ?_
          refine va_get (D := D) (ci := 4) (v := .ref t) (C := RX4) (T := TX4) (N := 4) hx hb hts ziX4_filling_4 hown hK hP 0 rfl rfl 0 (by decide) f12 (fun _ h9 => h9) rfl dX4_filling_43 ?_
          refine lv_iload hx hb dX4_filling_46 (lv_at hl 0 rfl) ?_
          refine zk_rdV (As := [.int (nI (sz - k2))]) (rest := []) ⟨hx, hb, hml, hown, hts⟩ hN (c_at l D cI cZ cR t b ah sz g (nI (sz - k2)) (by omega) (by omega)) (cwV 1 hts gX4_filling_X3_at rfl rfl rfl (by decide +kernel) ⟨Nat.le_of_ble_eq_true rfl, Nat.le_of_ble_eq_true rfl⟩) hK hP hD [1, 2] rfl (by decide) rfl rfl rfl rfl hl.1 rfl (Nat.le_of_ble_eq_true rfl) dX4_filling_48 ⟨Nat.zero_le _, Nat.zero_le _⟩ ?_
          refine zk_top (zr_at_nat h1 h0 (by omega)) ?_
          refine lv_goto (tgt := 57) hx hb dX4_filling_51 (by decide) ?_
          exact hret _ ls _ dX4_filling_57 (by rw [zr_fb, if_neg (by omega), if_neg (by omega), if_neg (by omega), if_pos hb9])
    · skip
      refine lv_iload_n hx hb dX4_filling_15 rfl (lv_at hl 1 rfl) ?_
      refine lv_iconst (v := (nI 3)) hx hb dX4_filling_16 (by decide +kernel) ?_
      refine zk_rem (v := z_ % 3) hx hb (by omega) (by omega) (by omega) rfl dX4_filling_17 ?_
      exact hret _ ls _ dX4_filling_18 (by rw [zr_fb, if_neg (by omega), if_pos c_2])
  · skip
    refine lv_iload_n hx hb dX4_filling_4 rfl (lv_at hl 1 rfl) ?_
    refine lv_sipush (v := (nI 256)) hx hb dX4_filling_5 (by decide +kernel) ?_
    refine zk_rem (v := z_ % 256) hx hb (by omega) (by omega) (by omega) rfl dX4_filling_8 ?_
    exact hret _ ls _ dX4_filling_9 (by rw [zr_fb, if_pos c_1])
def rmX4_fill : Room := { frames := 2, cells := 0, slots := 0, locals := 45 }
set_option maxRecDepth 20000 in
theorem ziX4_fill_3 : ∀ w ∈ wsX30, w ∈ wsX4_fill := by decide +kernel
set_option maxRecDepth 20000 in
theorem ziX4_fill_4 : ∀ w ∈ wsX40, w ∈ wsX4_fill := by decide +kernel
set_option maxHeartbeats 4000000 in
set_option maxRecDepth 100000 in
/-- fill -/
theorem c_fill (l : Launch) (D : va_G) (cI cZ cR : ClassId) (x_ : Nat) (q_ : Nat) (t : Nat) (f : Nat) (k_ : Nat) (rf : Nat → Option Nat) (sp : Nat) (dp : Nat) (fa : Nat) (fb : Nat) (b : Nat) (ka : Nat) (kb : Nat) (kd : Nat) (r : Nat → Nat) (ra : Nat → Nat) (rb : Nat → Nat) (rd : Nat → Nat) (fl : Nat → Nat) (fd : Nat → Nat) (fc : Nat) (le : Nat) (di : Nat) (g : Nat → Nat) (ah : Nat) (sz : Nat) (co : Nat → Nat) (pn : Nat → Nat) (pd : Nat → Nat) (ct : Nat → Nat) (pb : Nat → Nat) (bw : Nat → Nat) (rc : Nat → Nat) (to : Nat → Nat) (la : Nat → Nat) (se : Nat → Nat) (th : Nat → Nat) (pl : Nat → Nat → Nat) (ln : Nat → Nat → Nat) (ds : Nat → Nat → Nat) (n_ : Int32) (s_ : Int32) (o_ : Int32) (h0 : ah ≤ 60) (h1 : sz ≤ 300) (h2 : sp ≤ 300) (h3 : dp ≤ 64) (h4 : ∀ j, g j < 256) (h5 : ∀ i, i < 4 → rf i = some (r i)) (h6 : zr_rows g ah sz sp dp to ct pb bw rc pl ln ds) : zk_Wi l yX4_fill wsX4_fill rmX4_fill D (zk_t cI cZ cR) [.ref x_, .int n_, .int s_, .int o_] [(x_, .inr (4, [.ref t, .ref f, .ref k_, .ref q_])), (f, .inr (0, [.ref t, .int (nI sp), .int (nI dp), .ref fa, .ref fb, .int (nI fc), .int (nI le), .int (nI di)])), (fa, zk_a cI 38 fl), (fb, zk_a cI 38 fd), (t, .inr (3, [.ref b, .int (nI ah), .int (nI sz)])), (b, zk_a cI 360 g), (k_, .inr (1, [.ref ka, .ref kb, .ref kd])), (ka, zk_a cI 301 co), (kb, zk_a cI 300 pn), (kd, zk_a cI 300 pd), (q_, .inl (cR, 4, .inr (.inr (.inr (.inr rf))))), (r 0, .inr (2, [.ref (ra 0), .ref (rb 0), .ref (rd 0), .int (nI (ct 0)), .int (nI (pb 0)), .int (nI (bw 0)), .int (nI (rc 0)), .int (nI (to 0)), .int (nI (la 0)), .int (nI (se 0)), .int (nI (th 0))])), (ra 0, zk_a cI 300 (pl 0)), (rb 0, zk_a cI 300 (ln 0)), (rd 0, zk_a cI 300 (ds 0)), (r 1, .inr (2, [.ref (ra 1), .ref (rb 1), .ref (rd 1), .int (nI (ct 1)), .int (nI (pb 1)), .int (nI (bw 1)), .int (nI (rc 1)), .int (nI (to 1)), .int (nI (la 1)), .int (nI (se 1)), .int (nI (th 1))])), (ra 1, zk_a cI 300 (pl 1)), (rb 1, zk_a cI 300 (ln 1)), (rd 1, zk_a cI 300 (ds 1)), (r 2, .inr (2, [.ref (ra 2), .ref (rb 2), .ref (rd 2), .int (nI (ct 2)), .int (nI (pb 2)), .int (nI (bw 2)), .int (nI (rc 2)), .int (nI (to 2)), .int (nI (la 2)), .int (nI (se 2)), .int (nI (th 2))])), (ra 2, zk_a cI 300 (pl 2)), (rb 2, zk_a cI 300 (ln 2)), (rd 2, zk_a cI 300 (ds 2)), (r 3, .inr (2, [.ref (ra 3), .ref (rb 3), .ref (rd 3), .int (nI (ct 3)), .int (nI (pb 3)), .int (nI (bw 3)), .int (nI (rc 3)), .int (nI (to 3)), .int (nI (la 3)), .int (nI (se 3)), .int (nI (th 3))])), (ra 3, zk_a cI 300 (pl 3)), (rb 3, zk_a cI 300 (ln 3)), (rd 3, zk_a cI 300 (ds 3))] (fun (r : Int32) (u : (Nat → Nat) × Nat × Nat × (Nat → Nat)) => match u with | (g2, ah2, sz2, to2) => zT_fill n_ s_ o_ g ah sz = (r, g2, ah2, sz2) ∧ zr_rows g2 ah2 sz2 sp dp to2 ct pb bw rc pl ln ds) (fun u => match u with | (g2, ah2, sz2, to2) => [(x_, .inr (4, [.ref t, .ref f, .ref k_, .ref q_])), (f, .inr (0, [.ref t, .int (nI sp), .int (nI dp), .ref fa, .ref fb, .int (nI fc), .int (nI le), .int (nI di)])), (fa, zk_a cI 38 fl), (fb, zk_a cI 38 fd), (t, .inr (3, [.ref b, .int (nI ah2), .int (nI sz2)])), (b, zk_a cI 360 g2), (k_, .inr (1, [.ref ka, .ref kb, .ref kd])), (ka, zk_a cI 301 co), (kb, zk_a cI 300 pn), (kd, zk_a cI 300 pd), (q_, .inl (cR, 4, .inr (.inr (.inr (.inr rf))))), (r 0, .inr (2, [.ref (ra 0), .ref (rb 0), .ref (rd 0), .int (nI (ct 0)), .int (nI (pb 0)), .int (nI (bw 0)), .int (nI (rc 0)), .int (nI (to2 0)), .int (nI (la 0)), .int (nI (se 0)), .int (nI (th 0))])), (ra 0, zk_a cI 300 (pl 0)), (rb 0, zk_a cI 300 (ln 0)), (rd 0, zk_a cI 300 (ds 0)), (r 1, .inr (2, [.ref (ra 1), .ref (rb 1), .ref (rd 1), .int (nI (ct 1)), .int (nI (pb 1)), .int (nI (bw 1)), .int (nI (rc 1)), .int (nI (to2 1)), .int (nI (la 1)), .int (nI (se 1)), .int (nI (th 1))])), (ra 1, zk_a cI 300 (pl 1)), (rb 1, zk_a cI 300 (ln 1)), (rd 1, zk_a cI 300 (ds 1)), (r 2, .inr (2, [.ref (ra 2), .ref (rb 2), .ref (rd 2), .int (nI (ct 2)), .int (nI (pb 2)), .int (nI (bw 2)), .int (nI (rc 2)), .int (nI (to2 2)), .int (nI (la 2)), .int (nI (se 2)), .int (nI (th 2))])), (ra 2, zk_a cI 300 (pl 2)), (rb 2, zk_a cI 300 (ln 2)), (rd 2, zk_a cI 300 (ds 2)), (r 3, .inr (2, [.ref (ra 3), .ref (rb 3), .ref (rd 3), .int (nI (ct 3)), .int (nI (pb 3)), .int (nI (bw 3)), .int (nI (rc 3)), .int (nI (to2 3)), .int (nI (la 3)), .int (nI (se 3)), .int (nI (th 3))])), (ra 3, zk_a cI 300 (pl 3)), (rb 3, zk_a cI 300 (ln 3)), (rd 3, zk_a cI 300 (ds 3))]) := by
  refine zk_enterI RX4 cX4_fill 7 (by decide) rfl rfl (Nat.le_of_ble_eq_true rfl) ?_
  intro p e s m args below meth c ls A Q hx hb hml hown hts hP hK hD hN hl hA hS hret
  have hl : lv_has ls 7 [(0, .ref x_), (1, .int n_), (2, .int s_), (3, .int o_)] := hl
  have f12 := hts (.fieldLink RX4 12 "MatchFinders" "text" "LMatchFinders$Text;") (by decide +kernel)
  have f43 := hts (.fieldLink RX4 43 "MatchFinders$Text" "size" "I") (by decide +kernel)
  refine lv_iload_n hx hb dX4_fill_0 rfl (lv_at hl 1 rfl) ?_
  refine lv_iconst (v := (nI 1)) hx hb dX4_fill_1 (by decide +kernel) ?_
  refine lv_icmp_lt (tgt := 21) hx hb dX4_fill_2 (by decide) (fun c_1 => ?_) (fun c_1 => ?_)
  · skip
    refine lv_bipush (v := (-2)) hx hb dX4_fill_21 (by decide +kernel) ?_
    exact hret _ ls _ _ _ (g, ah, sz, to) dX4_fill_23 ⟨by rw [zT_fill, if_pos c_1], h6⟩ hP hS
  · skip
    refine lv_iload_n hx hb dX4_fill_5 rfl (lv_at hl 1 rfl) ?_
    refine lv_sipush (v := (nI 300)) hx hb dX4_fill_6 (by decide +kernel) ?_
    refine lv_icmp_gt (tgt := 21) hx hb dX4_fill_9 (by decide) (fun c_2 => ?_) (fun c_2 => ?_)
    · skip
      refine lv_bipush (v := (-2)) hx hb dX4_fill_21 (by decide +kernel) ?_
      exact hret _ ls _ _ _ (g, ah, sz, to) dX4_fill_23 ⟨by rw [zT_fill, if_neg c_1, if_pos c_2], h6⟩ hP hS
    · skip
      refine lv_iload_n hx hb dX4_fill_12 rfl (lv_at hl 3 rfl) ?_
      refine lv_if_lt (tgt := 21) hx hb dX4_fill_13 (by decide) (fun c_3 => ?_) (fun c_3 => ?_)
      · skip
        refine lv_bipush (v := (-2)) hx hb dX4_fill_21 (by decide +kernel) ?_
        exact hret _ ls _ _ _ (g, ah, sz, to) dX4_fill_23 ⟨by rw [zT_fill, if_neg c_1, if_neg c_2, if_pos c_3], h6⟩ hP hS
      · skip
        refine lv_iload_n hx hb dX4_fill_16 rfl (lv_at hl 3 rfl) ?_
        refine lv_iconst (v := (nI 2)) hx hb dX4_fill_17 (by decide +kernel) ?_
        refine lv_icmp_le (tgt := 24) hx hb dX4_fill_18 (by decide) (fun c_4 => ?_) (fun c_4 => ?_)
        · skip
          obtain ⟨oo, ho, hoe⟩ := zk_wof (n := 2) (by decide) c_3 c_4
          subst hoe
          obtain ⟨nn, hn1, hn2, hne⟩ := zk_fn c_1 c_2
          subst hne
          refine lv_iload_n hx hb dX4_fill_24 rfl (lv_at hl 1 rfl) ?_
          refine lv_sipush (v := (nI 300)) hx hb dX4_fill_25 (by decide +kernel) ?_
          refine lv_aload_n hx hb dX4_fill_28 rfl (lv_at hl 0 rfl) ?_
          refine va_get (D := D) (ci := 4) (v := .ref t) (C := RX4) (T := TX4) (N := 4) hx hb hts ziX4_fill_4 hown hK hP 0 rfl rfl 0 (by decide) f12 (fun _ h9 => h9) rfl dX4_fill_29 ?_
          refine va_get (D := D) (ci := 3) (v := .int (nI sz)) (C := RX3) (T := TX3) (N := 3) hx hb hts ziX4_fill_3 hown hK hP 4 rfl rfl 2 (by decide) f43 (fun _ h9 => h9) rfl dX4_fill_32 ?_
          refine zk_sub (v := 300 - sz) hx hb (by omega) dX4_fill_35 ?_
          refine zk_icmp_le (tgt := 42) hx hb (by omega) (by omega) dX4_fill_36 (by decide) (fun c_5 => ?_) (fun c_5 => ?_)
          · skip
            refine lv_iconst (v := (nI 1)) hx hb dX4_fill_42 (by decide +kernel) ?_
            refine lv_iload_n hx hb dX4_fill_43 rfl (lv_at hl 2 rfl) ?_
            refine lv_bipush (v := (nI 27)) hx hb dX4_fill_44 (by decide +kernel) ?_
            refine lv_iushr hx hb dX4_fill_46 (zr_ush27 s_) ?_
            have hbk := zr_bk_lt s_
            refine zk_add (v := 1 + (s_.toBitVec.toNat / 134217728)) hx hb (rfl) dX4_fill_47 ?_
            refine zk_nm (fun bk h_bk => ?_)
            refine lv_istore (lv' := [(4, .int (nI bk)), (0, .ref x_), (1, .int (nI nn)), (2, .int s_), (3, .int (nI oo))]) hx hb dX4_fill_48 hl (by decide) rfl (fun ls hl => ?_)
            refine lv_iload_n hx hb dX4_fill_50 rfl (lv_at hl 3 rfl) ?_
            refine lv_istore (lv' := [(5, .int s_), (4, .int (nI bk)), (0, .ref x_), (1, .int (nI nn)), (2, .int s_), (3, .int (nI oo))]) hx hb dX4_fill_51 hl (by decide) rfl (fun ls hl => ?_)
            refine lv_iconst (v := (nI 0)) hx hb dX4_fill_53 (by decide +kernel) ?_
            refine lv_istore (lv' := [(6, .int (nI 0)), (5, .int s_), (4, .int (nI bk)), (0, .ref x_), (1, .int (nI nn)), (2, .int s_), (3, .int (nI oo))]) hx hb dX4_fill_54 hl (by decide) rfl (fun ls hl => ?_)
            have hP : va_P D vwCl [(x_, .inr (4, [.ref t, .ref f, .ref k_, .ref q_])), (f, .inr (0, [.ref t, .int (nI sp), .int (nI dp), .ref fa, .ref fb, .int (nI fc), .int (nI le), .int (nI di)])), (fa, zk_a cI 38 fl), (fb, zk_a cI 38 fd), (t, .inr (3, [.ref b, .int (nI ah), .int (nI (sz + 0))])), (b, zk_a cI 360 g), (k_, .inr (1, [.ref ka, .ref kb, .ref kd])), (ka, zk_a cI 301 co), (kb, zk_a cI 300 pn), (kd, zk_a cI 300 pd), (q_, .inl (cR, 4, .inr (.inr (.inr (.inr rf))))), (r 0, .inr (2, [.ref (ra 0), .ref (rb 0), .ref (rd 0), .int (nI (ct 0)), .int (nI (pb 0)), .int (nI (bw 0)), .int (nI (rc 0)), .int (nI (to 0)), .int (nI (la 0)), .int (nI (se 0)), .int (nI (th 0))])), (ra 0, zk_a cI 300 (pl 0)), (rb 0, zk_a cI 300 (ln 0)), (rd 0, zk_a cI 300 (ds 0)), (r 1, .inr (2, [.ref (ra 1), .ref (rb 1), .ref (rd 1), .int (nI (ct 1)), .int (nI (pb 1)), .int (nI (bw 1)), .int (nI (rc 1)), .int (nI (to 1)), .int (nI (la 1)), .int (nI (se 1)), .int (nI (th 1))])), (ra 1, zk_a cI 300 (pl 1)), (rb 1, zk_a cI 300 (ln 1)), (rd 1, zk_a cI 300 (ds 1)), (r 2, .inr (2, [.ref (ra 2), .ref (rb 2), .ref (rd 2), .int (nI (ct 2)), .int (nI (pb 2)), .int (nI (bw 2)), .int (nI (rc 2)), .int (nI (to 2)), .int (nI (la 2)), .int (nI (se 2)), .int (nI (th 2))])), (ra 2, zk_a cI 300 (pl 2)), (rb 2, zk_a cI 300 (ln 2)), (rd 2, zk_a cI 300 (ds 2)), (r 3, .inr (2, [.ref (ra 3), .ref (rb 3), .ref (rd 3), .int (nI (ct 3)), .int (nI (pb 3)), .int (nI (bw 3)), .int (nI (rc 3)), .int (nI (to 3)), .int (nI (la 3)), .int (nI (se 3)), .int (nI (th 3))])), (ra 3, zk_a cI 300 (pl 3)), (rb 3, zk_a cI 300 (ln 3)), (rd 3, zk_a cI 300 (ds 3))] s.heap := hP
            have L56 : ∀ (n : Nat) (i : Nat) (xx : Int32) (g1 : Nat → Nat) (ls : Array Slot) (H : Heap) (locs : List Loc), (i ≤ nn) → (zr_fl oo bk ah (nn - i) xx g1 (sz + i) = (zr_fl oo bk ah nn s_ g sz)) → (∀ j, g1 j < 256) → (nn - i) < n → va_P D vwCl [(x_, .inr (4, [.ref t, .ref f, .ref k_, .ref q_])), (f, .inr (0, [.ref t, .int (nI sp), .int (nI dp), .ref fa, .ref fb, .int (nI fc), .int (nI le), .int (nI di)])), (fa, zk_a cI 38 fl), (fb, zk_a cI 38 fd), (t, .inr (3, [.ref b, .int (nI ah), .int (nI (sz + i))])), (b, zk_a cI 360 g1), (k_, .inr (1, [.ref ka, .ref kb, .ref kd])), (ka, zk_a cI 301 co), (kb, zk_a cI 300 pn), (kd, zk_a cI 300 pd), (q_, .inl (cR, 4, .inr (.inr (.inr (.inr rf))))), (r 0, .inr (2, [.ref (ra 0), .ref (rb 0), .ref (rd 0), .int (nI (ct 0)), .int (nI (pb 0)), .int (nI (bw 0)), .int (nI (rc 0)), .int (nI (to 0)), .int (nI (la 0)), .int (nI (se 0)), .int (nI (th 0))])), (ra 0, zk_a cI 300 (pl 0)), (rb 0, zk_a cI 300 (ln 0)), (rd 0, zk_a cI 300 (ds 0)), (r 1, .inr (2, [.ref (ra 1), .ref (rb 1), .ref (rd 1), .int (nI (ct 1)), .int (nI (pb 1)), .int (nI (bw 1)), .int (nI (rc 1)), .int (nI (to 1)), .int (nI (la 1)), .int (nI (se 1)), .int (nI (th 1))])), (ra 1, zk_a cI 300 (pl 1)), (rb 1, zk_a cI 300 (ln 1)), (rd 1, zk_a cI 300 (ds 1)), (r 2, .inr (2, [.ref (ra 2), .ref (rb 2), .ref (rd 2), .int (nI (ct 2)), .int (nI (pb 2)), .int (nI (bw 2)), .int (nI (rc 2)), .int (nI (to 2)), .int (nI (la 2)), .int (nI (se 2)), .int (nI (th 2))])), (ra 2, zk_a cI 300 (pl 2)), (rb 2, zk_a cI 300 (ln 2)), (rd 2, zk_a cI 300 (ds 2)), (r 3, .inr (2, [.ref (ra 3), .ref (rb 3), .ref (rd 3), .int (nI (ct 3)), .int (nI (pb 3)), .int (nI (bw 3)), .int (nI (rc 3)), .int (nI (to 3)), .int (nI (la 3)), .int (nI (se 3)), .int (nI (th 3))])), (ra 3, zk_a cI 300 (pl 3)), (rb 3, zk_a cI 300 (ln 3)), (rd 3, zk_a cI 300 (ds 3))] H → va_S A s.heap H locs → lv_has ls 7 [(0, .ref x_), (1, .int (nI nn)), (2, .int s_), (3, .int (nI oo)), (4, .int (nI bk)), (5, .int xx), (6, .int (nI i))] → W p l e rmX4_fill s m args below meth c H locs 0 0 Q (F0 m 56 ls []) := by
              intro n
              induction n with
              | zero => intro i xx g1 ls H locs g56_0 g56_1 g56_2 hm hP hS hl; exact absurd hm (by omega)
              | succ n ih56 =>
                intro i xx g1 ls H locs g56_0 g56_1 g56_2 hm hP hS hl
                refine lv_iload hx hb dX4_fill_56 (lv_at hl 6 rfl) ?_
                refine lv_iload_n hx hb dX4_fill_58 rfl (lv_at hl 1 rfl) ?_
                refine zk_icmp_ge (tgt := 98) hx hb (by omega) (by omega) dX4_fill_59 (by decide) (fun c_6 => ?_) (fun c_6 => ?_)
                · skip
                  refine lv_aload_n hx hb dX4_fill_98 rfl (lv_at hl 0 rfl) ?_
                  refine zk_wrV (As := []) (rest := []) ⟨hx, hb, hml, hown, hts⟩ hN (c_forgetRows l D cI cZ cR x_ q_ t f k_ rf (r 0) (ra 0) (rb 0) (rd 0) (ct 0) (pb 0) (bw 0) (rc 0) (to 0) (la 0) (se 0) (th 0) (r 1) (ra 1) (rb 1) (rd 1) (ct 1) (pb 1) (bw 1) (rc 1) (to 1) (la 1) (se 1) (th 1) (r 2) (ra 2) (rb 2) (rd 2) (ct 2) (pb 2) (bw 2) (rc 2) (to 2) (la 2) (se 2) (th 2) (r 3) (ra 3) (rb 3) (rd 3) (ct 3) (pb 3) (bw 3) (rc 3) (to 3) (la 3) (se 3) (th 3) (h5 0 (by omega)) (h5 1 (by omega)) (h5 2 (by omega)) (h5 3 (by omega))) (cwV 0 hts gX4_fill_X4_forgetRows rfl rfl rfl (by decide +kernel) ⟨Nat.le_of_ble_eq_true rfl, Nat.le_of_ble_eq_true rfl⟩) hK hP (zk_D hD rfl) hS hA [0, 10, 11, 15, 19, 23] rfl (by decide) (fun _ => rfl) rfl rfl rfl rfl hl.1 rfl (Nat.le_of_ble_eq_true rfl) dX4_fill_99 ⟨Nat.zero_le _, Nat.zero_le _⟩ (fun u H locs hu2 hP hS => ?_)
                  have hP : va_P D vwCl [(x_, .inr (4, [.ref t, .ref f, .ref k_, .ref q_])), (f, .inr (0, [.ref t, .int (nI sp), .int (nI dp), .ref fa, .ref fb, .int (nI fc), .int (nI le), .int (nI di)])), (fa, zk_a cI 38 fl), (fb, zk_a cI 38 fd), (t, .inr (3, [.ref b, .int (nI ah), .int (nI (sz + i))])), (b, zk_a cI 360 g1), (k_, .inr (1, [.ref ka, .ref kb, .ref kd])), (ka, zk_a cI 301 co), (kb, zk_a cI 300 pn), (kd, zk_a cI 300 pd), (q_, .inl (cR, 4, .inr (.inr (.inr (.inr rf))))), (r 0, .inr (2, [.ref (ra 0), .ref (rb 0), .ref (rd 0), .int (nI (ct 0)), .int (nI (pb 0)), .int (nI (bw 0)), .int (nI (rc 0)), .int (nI 0), .int (nI (la 0)), .int (nI (se 0)), .int (nI (th 0))])), (ra 0, zk_a cI 300 (pl 0)), (rb 0, zk_a cI 300 (ln 0)), (rd 0, zk_a cI 300 (ds 0)), (r 1, .inr (2, [.ref (ra 1), .ref (rb 1), .ref (rd 1), .int (nI (ct 1)), .int (nI (pb 1)), .int (nI (bw 1)), .int (nI (rc 1)), .int (nI 0), .int (nI (la 1)), .int (nI (se 1)), .int (nI (th 1))])), (ra 1, zk_a cI 300 (pl 1)), (rb 1, zk_a cI 300 (ln 1)), (rd 1, zk_a cI 300 (ds 1)), (r 2, .inr (2, [.ref (ra 2), .ref (rb 2), .ref (rd 2), .int (nI (ct 2)), .int (nI (pb 2)), .int (nI (bw 2)), .int (nI (rc 2)), .int (nI 0), .int (nI (la 2)), .int (nI (se 2)), .int (nI (th 2))])), (ra 2, zk_a cI 300 (pl 2)), (rb 2, zk_a cI 300 (ln 2)), (rd 2, zk_a cI 300 (ds 2)), (r 3, .inr (2, [.ref (ra 3), .ref (rb 3), .ref (rd 3), .int (nI (ct 3)), .int (nI (pb 3)), .int (nI (bw 3)), .int (nI (rc 3)), .int (nI 0), .int (nI (la 3)), .int (nI (se 3)), .int (nI (th 3))])), (ra 3, zk_a cI 300 (pl 3)), (rb 3, zk_a cI 300 (ln 3)), (rd 3, zk_a cI 300 (ds 3))] H := hP
                  refine lv_aload_n hx hb dX4_fill_102 rfl (lv_at hl 0 rfl) ?_
                  refine va_get (D := D) (ci := 4) (v := .ref t) (C := RX4) (T := TX4) (N := 4) hx hb hts ziX4_fill_4 hown hK hP 0 rfl rfl 0 (by decide) f12 (fun _ h9 => h9) rfl dX4_fill_103 ?_
                  refine va_get (D := D) (ci := 3) (v := .int (nI (sz + i))) (C := RX3) (T := TX3) (N := 3) hx hb hts ziX4_fill_3 hown hK hP 4 rfl rfl 2 (by decide) f43 (fun _ h9 => h9) rfl dX4_fill_106 ?_
                  exact hret _ ls _ _ _ (g1, ah, sz + i, fun _ => 0) dX4_fill_109 ⟨by rw [zT_fill, if_neg (zk_nlt1 hn1 hn2), if_neg (nI_nlt hn2 (by decide)), zk_win ho (by decide), nI_clamp (show nn < 2 ^ 31 by omega), if_pos (by omega), nI_clamp (show oo < 2 ^ 31 by omega), ← h_bk, ← g56_1, show nn - i = 0 by omega, show i = nn by omega]; rfl, zr_rows_0⟩ hP hS
                · skip
                  refine lv_iload hx hb dX4_fill_62 (lv_at hl 5 rfl) ?_
                  refine lv_ldc hx hb hown (hts (.constant RX4 54 (1103515245)) (by decide +kernel)) dX4_fill_64 ?_
                  refine lv_imul hx hb dX4_fill_66 ?_
                  refine lv_sipush (v := (nI 12345)) hx hb dX4_fill_67 (by decide +kernel) ?_
                  refine lv_iadd hx hb dX4_fill_70 ?_
                  refine zk_top (v := zr_nx xx) rfl ?_
                  refine lv_istore (lv' := [(5, .int (zr_nx xx)), (0, .ref x_), (1, .int (nI nn)), (2, .int s_), (3, .int (nI oo)), (4, .int (nI bk)), (6, .int (nI i))]) hx hb dX4_fill_71 hl (by decide) rfl (fun ls hl => ?_)
                  refine lv_aload_n hx hb dX4_fill_73 rfl (lv_at hl 1 rfl) ?_
                  refine va_get (D := D) (ci := 4) (v := .ref t) (C := RX4) (T := TX4) (N := 4) hx hb hts ziX4_fill_4 hown hK hP 0 rfl rfl 0 (by decide) f12 (fun _ h9 => h9) rfl dX4_fill_74 ?_
                  refine lv_aload_n hx hb dX4_fill_77 rfl (lv_at hl 1 rfl) ?_
                  refine lv_iload hx hb dX4_fill_78 (lv_at hl 0 rfl) ?_
                  refine lv_bipush (v := (nI 16)) hx hb dX4_fill_80 (by decide +kernel) ?_
                  refine lv_iushr hx hb dX4_fill_82 (zr_ush16 (zr_nx xx)) ?_
                  have hz16 := zr_hi_lt (zr_nx xx)
                  refine lv_iload_n hx hb dX4_fill_83 rfl (lv_at hl 4 rfl) ?_
                  refine lv_iload hx hb dX4_fill_84 (lv_at hl 5 rfl) ?_
                  refine zk_rdV (As := [.int (nI (zr_hi (zr_nx xx))), .int (nI oo), .int (nI bk)]) (rest := [.ref t]) ⟨hx, hb, hml, hown, hts⟩ hN (c_filling l D cI cZ cR x_ q_ f k_ t b ah (sz + i) g1 (zr_hi (zr_nx xx)) oo bk (by omega) (by omega) (by omega) (by omega) (by omega) (by omega)) (cwV 3 hts gX4_fill_X4_filling rfl rfl rfl (by decide +kernel) ⟨Nat.le_of_ble_eq_true rfl, Nat.le_of_ble_eq_true rfl⟩) hK hP (zk_D hD rfl) [0, 4, 5] rfl (by decide) rfl rfl rfl rfl hl.1 rfl (Nat.le_of_ble_eq_true rfl) dX4_fill_86 ⟨Nat.zero_le _, Nat.zero_le _⟩ ?_
                  refine zk_wrV (As := [.int (nI (zr_fb (zr_hi (zr_nx xx)) oo bk g1 ah (sz + i)))]) (rest := []) ⟨hx, hb, hml, hown, hts⟩ hN (c_put l D cI cZ cR t b ah (sz + i) g1 (zr_fb (zr_hi (zr_nx xx)) oo bk g1 ah (sz + i)) (by omega) (by omega)) (cwV 1 hts gX4_fill_X3_put rfl rfl rfl (by decide +kernel) ⟨Nat.le_of_ble_eq_true rfl, Nat.le_of_ble_eq_true rfl⟩) hK hP (zk_D hD rfl) hS hA [4, 5] rfl (by decide) (fun _ => rfl) rfl rfl rfl rfl hl.1 rfl (Nat.le_of_ble_eq_true rfl) dX4_fill_89 ⟨Nat.zero_le _, Nat.zero_le _⟩ (fun u H locs hu1 hP hS => ?_)
                  have hP : va_P D vwCl [(x_, .inr (4, [.ref t, .ref f, .ref k_, .ref q_])), (f, .inr (0, [.ref t, .int (nI sp), .int (nI dp), .ref fa, .ref fb, .int (nI fc), .int (nI le), .int (nI di)])), (fa, zk_a cI 38 fl), (fb, zk_a cI 38 fd), (t, .inr (3, [.ref b, .int (nI ah), .int (nI ((sz + i) + 1))])), (b, zk_a cI 360 (zk_up g1 (ah + (sz + i)) (zr_fb (zr_hi (zr_nx xx)) oo bk g1 ah (sz + i)))), (k_, .inr (1, [.ref ka, .ref kb, .ref kd])), (ka, zk_a cI 301 co), (kb, zk_a cI 300 pn), (kd, zk_a cI 300 pd), (q_, .inl (cR, 4, .inr (.inr (.inr (.inr rf))))), (r 0, .inr (2, [.ref (ra 0), .ref (rb 0), .ref (rd 0), .int (nI (ct 0)), .int (nI (pb 0)), .int (nI (bw 0)), .int (nI (rc 0)), .int (nI (to 0)), .int (nI (la 0)), .int (nI (se 0)), .int (nI (th 0))])), (ra 0, zk_a cI 300 (pl 0)), (rb 0, zk_a cI 300 (ln 0)), (rd 0, zk_a cI 300 (ds 0)), (r 1, .inr (2, [.ref (ra 1), .ref (rb 1), .ref (rd 1), .int (nI (ct 1)), .int (nI (pb 1)), .int (nI (bw 1)), .int (nI (rc 1)), .int (nI (to 1)), .int (nI (la 1)), .int (nI (se 1)), .int (nI (th 1))])), (ra 1, zk_a cI 300 (pl 1)), (rb 1, zk_a cI 300 (ln 1)), (rd 1, zk_a cI 300 (ds 1)), (r 2, .inr (2, [.ref (ra 2), .ref (rb 2), .ref (rd 2), .int (nI (ct 2)), .int (nI (pb 2)), .int (nI (bw 2)), .int (nI (rc 2)), .int (nI (to 2)), .int (nI (la 2)), .int (nI (se 2)), .int (nI (th 2))])), (ra 2, zk_a cI 300 (pl 2)), (rb 2, zk_a cI 300 (ln 2)), (rd 2, zk_a cI 300 (ds 2)), (r 3, .inr (2, [.ref (ra 3), .ref (rb 3), .ref (rd 3), .int (nI (ct 3)), .int (nI (pb 3)), .int (nI (bw 3)), .int (nI (rc 3)), .int (nI (to 3)), .int (nI (la 3)), .int (nI (se 3)), .int (nI (th 3))])), (ra 3, zk_a cI 300 (pl 3)), (rb 3, zk_a cI 300 (ln 3)), (rd 3, zk_a cI 300 (ds 3))] H := hP
                  refine lv_iinc (v := (nI (i + 1))) (lv' := [(6, .int (nI (i + 1))), (5, .int (zr_nx xx)), (0, .ref x_), (1, .int (nI nn)), (2, .int s_), (3, .int (nI oo)), (4, .int (nI bk))]) hx hb dX4_fill_92 hl (k := 6) rfl (by rw [show Int32.ofInt 1 = (1 : Int32) from rfl, nI_1]) (by decide) rfl (fun ls hl => ?_)
                  refine lv_goto (tgt := 56) hx hb dX4_fill_95 (by decide) ?_
                  have hP : va_P D vwCl [(x_, .inr (4, [.ref t, .ref f, .ref k_, .ref q_])), (f, .inr (0, [.ref t, .int (nI sp), .int (nI dp), .ref fa, .ref fb, .int (nI fc), .int (nI le), .int (nI di)])), (fa, zk_a cI 38 fl), (fb, zk_a cI 38 fd), (t, .inr (3, [.ref b, .int (nI ah), .int (nI (sz + (i + 1)))])), (b, zk_a cI 360 (zk_up g1 (ah + (sz + i)) (zr_fb (zr_hi (zr_nx xx)) oo bk g1 ah (sz + i)))), (k_, .inr (1, [.ref ka, .ref kb, .ref kd])), (ka, zk_a cI 301 co), (kb, zk_a cI 300 pn), (kd, zk_a cI 300 pd), (q_, .inl (cR, 4, .inr (.inr (.inr (.inr rf))))), (r 0, .inr (2, [.ref (ra 0), .ref (rb 0), .ref (rd 0), .int (nI (ct 0)), .int (nI (pb 0)), .int (nI (bw 0)), .int (nI (rc 0)), .int (nI (to 0)), .int (nI (la 0)), .int (nI (se 0)), .int (nI (th 0))])), (ra 0, zk_a cI 300 (pl 0)), (rb 0, zk_a cI 300 (ln 0)), (rd 0, zk_a cI 300 (ds 0)), (r 1, .inr (2, [.ref (ra 1), .ref (rb 1), .ref (rd 1), .int (nI (ct 1)), .int (nI (pb 1)), .int (nI (bw 1)), .int (nI (rc 1)), .int (nI (to 1)), .int (nI (la 1)), .int (nI (se 1)), .int (nI (th 1))])), (ra 1, zk_a cI 300 (pl 1)), (rb 1, zk_a cI 300 (ln 1)), (rd 1, zk_a cI 300 (ds 1)), (r 2, .inr (2, [.ref (ra 2), .ref (rb 2), .ref (rd 2), .int (nI (ct 2)), .int (nI (pb 2)), .int (nI (bw 2)), .int (nI (rc 2)), .int (nI (to 2)), .int (nI (la 2)), .int (nI (se 2)), .int (nI (th 2))])), (ra 2, zk_a cI 300 (pl 2)), (rb 2, zk_a cI 300 (ln 2)), (rd 2, zk_a cI 300 (ds 2)), (r 3, .inr (2, [.ref (ra 3), .ref (rb 3), .ref (rd 3), .int (nI (ct 3)), .int (nI (pb 3)), .int (nI (bw 3)), .int (nI (rc 3)), .int (nI (to 3)), .int (nI (la 3)), .int (nI (se 3)), .int (nI (th 3))])), (ra 3, zk_a cI 300 (pl 3)), (rb 3, zk_a cI 300 (ln 3)), (rd 3, zk_a cI 300 (ds 3))] H := hP
                  exact ih56 (i + 1) (zr_nx xx) (zk_up g1 (ah + (sz + i)) (zr_fb (zr_hi (zr_nx xx)) oo bk g1 ah (sz + i))) ls _ _ (by omega) (by rw [← g56_1, zr_fl_s (n := nn - i) (m := nn - (i + 1)) (by omega)]; rfl) (zk_up_lt g56_2 (zr_fb_lt g56_2)) (by omega) hP hS (lv_sub hl [2, 3, 4, 5, 6, 1, 0] rfl)
            exact L56 (nn - 0 + 1) 0 s_ g ls _ _ (by omega) rfl h4 (by omega) hP hS (lv_sub hl [3, 4, 5, 6, 2, 1, 0] rfl)
          · skip
            refine lv_bipush (v := (-4)) hx hb dX4_fill_39 (by decide +kernel) ?_
            exact hret _ ls _ _ _ (g, ah, sz, to) dX4_fill_41 ⟨by rw [zT_fill, if_neg (zk_nlt1 hn1 hn2), if_neg (nI_nlt hn2 (by decide)), zk_win ho (by decide), nI_clamp (show nn < 2 ^ 31 by omega), if_neg (by omega)], h6⟩ hP hS
        · skip
          refine lv_bipush (v := (-2)) hx hb dX4_fill_21 (by decide +kernel) ?_
          exact hret _ ls _ _ _ (g, ah, sz, to) dX4_fill_23 ⟨by rw [zT_fill, if_neg c_1, if_neg c_2, if_neg c_3, if_neg c_4], h6⟩ hP hS
end
section
theorem zk_nl {k : Int32} {n : Nat} (h : ¬ k < nI n) : nI n ≤ k := by
  rw [Int32.lt_iff_toInt_lt] at h
  rw [Int32.le_iff_toInt_le]
  omega
theorem zk_ln {k : Int32} {n : Nat} (h : k < nI n) : ¬ nI n ≤ k := by
  rw [Int32.lt_iff_toInt_lt] at h
  rw [Int32.le_iff_toInt_le]
  omega
theorem zk_ii {k : Int32} {n : Nat} (h0 : ¬ k < 0) (h : k < nI n) (hn : n ≤ 300) : ∃ j : Nat, j < n ∧ k = nI j := by
  rcases pk_ix k (show n < 2 ^ 31 by omega) with h3 | h3 | h3
  · exact absurd h3 h0
  · exact absurd h3 (zk_ln h)
  · exact h3
theorem zk_kn {k : Int32} {n : Nat} (h1 : ¬ k < -1) (h2 : ¬ k = -1) (h3 : k < nI n) (hn : n < 2 ^ 31) : ∃ j : Nat, j < n ∧ k = nI j := by
  have h0 : ¬ k < 0 := fun h => by
    rw [Int32.lt_iff_toInt_lt] at h h1
    have e1 : (-1 : Int32).toInt = -1 := by decide +kernel
    rw [e1] at h1
    rw [Int32.toInt_zero] at h
    exact h2 (Int32.toInt_inj.mp (by rw [e1]; omega))
  rcases pk_ix k hn with h4 | h4 | h4
  · exact absurd h4 h0
  · exact absurd h4 (zk_ln h3)
  · exact h4
theorem zr_is_getD {F : List (Nat × Nat)} {fl fd : Nat → Nat} {n k : Nat} (h : zr_is F fl fd n) (hk : k < n) : F.getD k (0, 0) = (fl k, fd k) := by
  rw [List.getD_eq_getElem?_getD, h.2 k hk]
  rfl
theorem zk_wno {w : Int32} {j : Nat} (hj : j < 4) (he : w = nI j) : ¬ (w < 0 ∨ nI 4 ≤ w) := fun h => by
  subst he
  rcases h with h | h
  · exact nI_pos (by omega) h
  · exact nI_ge hj (by decide) h
theorem zk_upE (f : Nat → Nat) (w x : Nat) : (fun j => nI (zk_up f w x j)) w = nI x := by show nI (zk_up f w x w) = nI x; rw [zk_up_eq]
theorem zr_pcs_len {sel : Nat → Nat × Nat} {sz : Nat} : ∀ (n q : Nat), (zr_pcs sel sz n q).length ≤ n
  | 0, _ => Nat.le_refl _
  | n + 1, q => by
    unfold zr_pcs
    split
    · split
      · rw [List.length_cons]; have h := zr_pcs_len (sel := sel) (sz := sz) n (q + (sel q).1); omega
      · rw [List.length_cons]; have h := zr_pcs_len (sel := sel) (sz := sz) n (q + 1); omega
    · simp
theorem zr_row_ct {w : Nat} {g : Nat → Nat} {ah sz sp dp ct pb bw rc : Nat} {pl ln ds : Nat → Nat} (h : zr_row w g ah sz sp dp ct pb bw rc pl ln ds) (hs : sz ≤ 300) : ct ≤ 300 := by
  obtain ⟨sel, la, se, th, h1, h2, h3⟩ := h
  have h4 := zr_pcs_len (sel := sel) (sz := sz) sz 0
  rw [h2.1] at h4
  omega
theorem zk_out3 {v : Int32} (h0 : ¬ v = nI 0) (h1 : ¬ v = nI 1) (h2 : ¬ v = nI 2) : v.toInt < 0 ∨ 2 < v.toInt := by
  have e : ∀ n : Nat, n < 2 ^ 31 → ¬ v = nI n → ¬ v.toInt = (n : Int) := fun n hn h q => h (Int32.toInt_inj.mp (by rw [q, nI_toInt hn]))
  have a0 := e 0 (by decide) h0
  have a1 := e 1 (by decide) h1
  have a2 := e 2 (by decide) h2
  omega
section ZKP
variable {i v ct ct0 : Nat} {w : Nat} {cts : Nat → Nat} {pls lns dss : Nat → Nat → Nat} {pl ln ds : Nat → Nat}
theorem zk_pc0 (hi : i < ct) (hc : ct < 2 ^ 31) : (fun j => zA_piece (nI i) (nI 0) (zk_up cts w ct j) (zk_upF pls w pl j) (zk_upF lns w ln j) (zk_upF dss w ds j)) w = nI (pl i) := by
  show zA_piece (nI i) (nI 0) (zk_up cts w ct w) (zk_upF pls w pl w) (zk_upF lns w ln w) (zk_upF dss w ds w) = _
  rw [zk_up_eq, zA_piece, zk_val hi hc, if_pos rfl, nI_clamp (by omega), zk_upF, if_pos rfl]
theorem zk_pc1 (hi : i < ct) (hc : ct < 2 ^ 31) : (fun j => zA_piece (nI i) (nI 1) (zk_up cts w ct j) (zk_upF pls w pl j) (zk_upF lns w ln j) (zk_upF dss w ds j)) w = nI (ln i) := by
  show zA_piece (nI i) (nI 1) (zk_up cts w ct w) (zk_upF pls w pl w) (zk_upF lns w ln w) (zk_upF dss w ds w) = _
  rw [zk_up_eq, zA_piece, zk_val hi hc, if_neg (by decide +kernel), if_pos rfl, nI_clamp (by omega), show zk_upF lns w ln w = ln from if_pos rfl]
theorem zk_pc2 (hi : i < ct) (hc : ct < 2 ^ 31) : (fun j => zA_piece (nI i) (nI 2) (zk_up cts w ct j) (zk_upF pls w pl j) (zk_upF lns w ln j) (zk_upF dss w ds j)) w = nI (ds i) := by
  show zA_piece (nI i) (nI 2) (zk_up cts w ct w) (zk_upF pls w pl w) (zk_upF lns w ln w) (zk_upF dss w ds w) = _
  rw [zk_up_eq, zA_piece, zk_val hi hc, if_neg (by decide +kernel), if_neg (by decide +kernel), if_pos rfl, nI_clamp (by omega), show zk_upF dss w ds w = ds from if_pos rfl]
theorem zk_pc3 {x : Int32} (hi : i < ct) (hc : ct < 2 ^ 31) (h0 : ¬ x = nI 0) (h1 : ¬ x = nI 1) (h2 : ¬ x = nI 2) : (fun j => zA_piece (nI i) x (zk_up cts w ct j) (zk_upF pls w pl j) (zk_upF lns w ln j) (zk_upF dss w ds j)) w = -2 := by
  show zA_piece (nI i) x (zk_up cts w ct w) (zk_upF pls w pl w) (zk_upF lns w ln w) (zk_upF dss w ds w) = _
  rw [zk_up_eq, zA_piece, zk_val hi hc, if_neg h0, if_neg h1, if_neg h2]
theorem zk_pcn {k x : Int32} (h : k < 0 ∨ nI ct ≤ k) : (fun j => zA_piece k x (zk_up cts w ct j) (zk_upF pls w pl j) (zk_upF lns w ln j) (zk_upF dss w ds j)) w = -1 := by
  show zA_piece k x (zk_up cts w ct w) (zk_upF pls w pl w) (zk_upF lns w ln w) (zk_upF dss w ds w) = _
  rw [zk_up_eq, zA_piece, zk_inv h]
end ZKP
def rmX4_longest : Room := { frames := 4, cells := 0, slots := 0, locals := 89 }
set_option maxRecDepth 20000 in
theorem ziX4_longest_0 : ∀ w ∈ wsX00, w ∈ wsX4_longest := by decide +kernel
set_option maxRecDepth 20000 in
theorem ziX4_longest_4 : ∀ w ∈ wsX40, w ∈ wsX4_longest := by decide +kernel
set_option maxHeartbeats 4000000 in
set_option maxRecDepth 100000 in
/-- longest -/
theorem c_longest (l : Launch) (D : va_G) (cI cZ cR : ClassId) (x_ : Nat) (q_ : Nat) (t : Nat) (f : Nat) (k_ : Nat) (rf : Nat → Option Nat) (sp : Nat) (dp : Nat) (fa : Nat) (fb : Nat) (b : Nat) (ka : Nat) (kb : Nat) (kd : Nat) (r : Nat → Nat) (ra : Nat → Nat) (rb : Nat → Nat) (rd : Nat → Nat) (fl : Nat → Nat) (fd : Nat → Nat) (fc : Nat) (le : Nat) (di : Nat) (g : Nat → Nat) (ah : Nat) (sz : Nat) (co : Nat → Nat) (pn : Nat → Nat) (pd : Nat → Nat) (ct : Nat → Nat) (pb : Nat → Nat) (bw : Nat → Nat) (rc : Nat → Nat) (to : Nat → Nat) (la : Nat → Nat) (se : Nat → Nat) (th : Nat → Nat) (pl : Nat → Nat → Nat) (ln : Nat → Nat → Nat) (ds : Nat → Nat → Nat) (p_ : Int32) (w_ : Int32) (h0 : ah ≤ 60) (h1 : sz ≤ 300) (h2 : sp ≤ 300) (h3 : dp ≤ 64) (h4 : ∀ j, g j < 256) (h5 : ∀ i, i < 4 → rf i = some (r i)) (h6 : zr_rows g ah sz sp dp to ct pb bw rc pl ln ds) : zk_Wi l yX4_longest wsX4_longest rmX4_longest D (zk_t cI cZ cR) [.ref x_, .int p_, .int w_] [(x_, .inr (4, [.ref t, .ref f, .ref k_, .ref q_])), (f, .inr (0, [.ref t, .int (nI sp), .int (nI dp), .ref fa, .ref fb, .int (nI fc), .int (nI le), .int (nI di)])), (fa, zk_a cI 38 fl), (fb, zk_a cI 38 fd), (t, .inr (3, [.ref b, .int (nI ah), .int (nI sz)])), (b, zk_a cI 360 g), (k_, .inr (1, [.ref ka, .ref kb, .ref kd])), (ka, zk_a cI 301 co), (kb, zk_a cI 300 pn), (kd, zk_a cI 300 pd), (q_, .inl (cR, 4, .inr (.inr (.inr (.inr rf))))), (r 0, .inr (2, [.ref (ra 0), .ref (rb 0), .ref (rd 0), .int (nI (ct 0)), .int (nI (pb 0)), .int (nI (bw 0)), .int (nI (rc 0)), .int (nI (to 0)), .int (nI (la 0)), .int (nI (se 0)), .int (nI (th 0))])), (ra 0, zk_a cI 300 (pl 0)), (rb 0, zk_a cI 300 (ln 0)), (rd 0, zk_a cI 300 (ds 0)), (r 1, .inr (2, [.ref (ra 1), .ref (rb 1), .ref (rd 1), .int (nI (ct 1)), .int (nI (pb 1)), .int (nI (bw 1)), .int (nI (rc 1)), .int (nI (to 1)), .int (nI (la 1)), .int (nI (se 1)), .int (nI (th 1))])), (ra 1, zk_a cI 300 (pl 1)), (rb 1, zk_a cI 300 (ln 1)), (rd 1, zk_a cI 300 (ds 1)), (r 2, .inr (2, [.ref (ra 2), .ref (rb 2), .ref (rd 2), .int (nI (ct 2)), .int (nI (pb 2)), .int (nI (bw 2)), .int (nI (rc 2)), .int (nI (to 2)), .int (nI (la 2)), .int (nI (se 2)), .int (nI (th 2))])), (ra 2, zk_a cI 300 (pl 2)), (rb 2, zk_a cI 300 (ln 2)), (rd 2, zk_a cI 300 (ds 2)), (r 3, .inr (2, [.ref (ra 3), .ref (rb 3), .ref (rd 3), .int (nI (ct 3)), .int (nI (pb 3)), .int (nI (bw 3)), .int (nI (rc 3)), .int (nI (to 3)), .int (nI (la 3)), .int (nI (se 3)), .int (nI (th 3))])), (ra 3, zk_a cI 300 (pl 3)), (rb 3, zk_a cI 300 (ln 3)), (rd 3, zk_a cI 300 (ds 3))] (fun (r : Int32) (u : (Nat → Nat) × (Nat → Nat) × Nat × Nat × Nat) => match u with | (fl2, fd2, fc2, le2, di2) => r = zA_pick p_ w_ sz (zr_s0 g ah sz sp)) (fun u => match u with | (fl2, fd2, fc2, le2, di2) => [(x_, .inr (4, [.ref t, .ref f, .ref k_, .ref q_])), (f, .inr (0, [.ref t, .int (nI sp), .int (nI dp), .ref fa, .ref fb, .int (nI fc2), .int (nI le2), .int (nI di2)])), (fa, zk_a cI 38 fl2), (fb, zk_a cI 38 fd2), (t, .inr (3, [.ref b, .int (nI ah), .int (nI sz)])), (b, zk_a cI 360 g), (k_, .inr (1, [.ref ka, .ref kb, .ref kd])), (ka, zk_a cI 301 co), (kb, zk_a cI 300 pn), (kd, zk_a cI 300 pd), (q_, .inl (cR, 4, .inr (.inr (.inr (.inr rf))))), (r 0, .inr (2, [.ref (ra 0), .ref (rb 0), .ref (rd 0), .int (nI (ct 0)), .int (nI (pb 0)), .int (nI (bw 0)), .int (nI (rc 0)), .int (nI (to 0)), .int (nI (la 0)), .int (nI (se 0)), .int (nI (th 0))])), (ra 0, zk_a cI 300 (pl 0)), (rb 0, zk_a cI 300 (ln 0)), (rd 0, zk_a cI 300 (ds 0)), (r 1, .inr (2, [.ref (ra 1), .ref (rb 1), .ref (rd 1), .int (nI (ct 1)), .int (nI (pb 1)), .int (nI (bw 1)), .int (nI (rc 1)), .int (nI (to 1)), .int (nI (la 1)), .int (nI (se 1)), .int (nI (th 1))])), (ra 1, zk_a cI 300 (pl 1)), (rb 1, zk_a cI 300 (ln 1)), (rd 1, zk_a cI 300 (ds 1)), (r 2, .inr (2, [.ref (ra 2), .ref (rb 2), .ref (rd 2), .int (nI (ct 2)), .int (nI (pb 2)), .int (nI (bw 2)), .int (nI (rc 2)), .int (nI (to 2)), .int (nI (la 2)), .int (nI (se 2)), .int (nI (th 2))])), (ra 2, zk_a cI 300 (pl 2)), (rb 2, zk_a cI 300 (ln 2)), (rd 2, zk_a cI 300 (ds 2)), (r 3, .inr (2, [.ref (ra 3), .ref (rb 3), .ref (rd 3), .int (nI (ct 3)), .int (nI (pb 3)), .int (nI (bw 3)), .int (nI (rc 3)), .int (nI (to 3)), .int (nI (la 3)), .int (nI (se 3)), .int (nI (th 3))])), (ra 3, zk_a cI 300 (pl 3)), (rb 3, zk_a cI 300 (ln 3)), (rd 3, zk_a cI 300 (ds 3))]) := by
  refine zk_enterI RX4 cX4_longest 3 (by decide) rfl rfl (Nat.le_of_ble_eq_true rfl) ?_
  intro p e s m args below meth c ls A Q hx hb hml hown hts hP hK hD hN hl hA hS hret
  have hl : lv_has ls 3 [(0, .ref x_), (1, .int p_), (2, .int w_)] := hl
  have f25 := hts (.fieldLink RX4 25 "MatchFinders" "finder" "LMatchFinders$Finder;") (by decide +kernel)
  have f76 := hts (.fieldLink RX4 76 "MatchFinders$Finder" "length" "I") (by decide +kernel)
  have f79 := hts (.fieldLink RX4 79 "MatchFinders$Finder" "distance" "I") (by decide +kernel)
  refine lv_aload_n hx hb dX4_longest_0 rfl (lv_at hl 0 rfl) ?_
  refine lv_iload_n hx hb dX4_longest_1 rfl (lv_at hl 1 rfl) ?_
  refine zk_rdV (As := [.int p_]) (rest := []) ⟨hx, hb, hml, hown, hts⟩ hN (c_isPlace l D cI cZ cR x_ q_ f k_ t b ah sz g p_) (cwV 1 hts gX4_longest_X4_isPlace rfl rfl rfl (by decide +kernel) ⟨Nat.le_of_ble_eq_true rfl, Nat.le_of_ble_eq_true rfl⟩) hK hP (zk_D hD rfl) [0, 4, 5] rfl (by decide) rfl rfl rfl rfl hl.1 rfl (Nat.le_of_ble_eq_true rfl) dX4_longest_2 ⟨Nat.zero_le _, Nat.zero_le _⟩ ?_
  refine lv_if_ne (tgt := 10) hx hb dX4_longest_5 (by decide) (fun c_1 => ?_) (fun c_1 => ?_)
  · skip
    obtain ⟨pp, hpp, hpe⟩ := zk_wz2 (by omega) c_1
    subst hpe
    refine lv_iload_n hx hb dX4_longest_10 rfl (lv_at hl 2 rfl) ?_
    refine lv_if_lt (tgt := 19) hx hb dX4_longest_11 (by decide) (fun c_2 => ?_) (fun c_2 => ?_)
    · skip
      refine lv_bipush (v := (-2)) hx hb dX4_longest_19 (by decide +kernel) ?_
      exact hret _ ls _ _ _ (fl, fd, fc, le, di) dX4_longest_21 (by rw [zA_pick, zk_val hpp (by omega), zk_wout (n := 1) (Or.inl c_2)]) hP hS
    · skip
      refine lv_iload_n hx hb dX4_longest_14 rfl (lv_at hl 2 rfl) ?_
      refine lv_iconst (v := (nI 1)) hx hb dX4_longest_15 (by decide +kernel) ?_
      refine lv_icmp_le (tgt := 22) hx hb dX4_longest_16 (by decide) (fun c_3 => ?_) (fun c_3 => ?_)
      · skip
        obtain ⟨v, hv, hve⟩ := zk_wof (n := 1) (by decide) c_2 c_3
        subst hve
        rcases (show v = 0 ∨ v = 1 by omega) with hv0 | hv0
        · subst hv0
          refine lv_aload_n hx hb dX4_longest_22 rfl (lv_at hl 0 rfl) ?_
          refine va_get (D := D) (ci := 4) (v := .ref f) (C := RX4) (T := TX4) (N := 4) hx hb hts ziX4_longest_4 hown hK hP 0 rfl rfl 1 (by decide) f25 (fun _ h9 => h9) rfl dX4_longest_23 ?_
          refine lv_iload_n hx hb dX4_longest_26 rfl (lv_at hl 1 rfl) ?_
          refine zk_wrV (As := [.int (nI pp)]) (rest := []) ⟨hx, hb, hml, hown, hts⟩ hN (c_seekLongest l D cI cZ cR f sp dp fa fb fc le di fl fd t b ah sz g pp (by omega) (by omega) (by omega) (by omega) h4) (cwV 1 hts gX4_longest_X0_seekLongest rfl rfl rfl (by decide +kernel) ⟨Nat.le_of_ble_eq_true rfl, Nat.le_of_ble_eq_true rfl⟩) hK hP (zk_D hD rfl) hS hA [1, 2, 3, 4, 5] rfl (by decide) (fun _ => rfl) rfl rfl rfl rfl hl.1 rfl (Nat.le_of_ble_eq_true rfl) dX4_longest_27 ⟨Nat.zero_le _, Nat.zero_le _⟩ (fun u H locs hu hP hS => ?_)
          obtain ⟨fl9, fd9, fc9, le9, di9⟩ := u
          have hu : zr_last (zr_F g (ah + pp) (min 40 (sz - pp)) (min sp (ah + pp))) = (le9, di9) := hu
          have hP : va_P D vwCl [(x_, .inr (4, [.ref t, .ref f, .ref k_, .ref q_])), (f, .inr (0, [.ref t, .int (nI sp), .int (nI dp), .ref fa, .ref fb, .int (nI fc9), .int (nI le9), .int (nI di9)])), (fa, zk_a cI 38 fl9), (fb, zk_a cI 38 fd9), (t, .inr (3, [.ref b, .int (nI ah), .int (nI sz)])), (b, zk_a cI 360 g), (k_, .inr (1, [.ref ka, .ref kb, .ref kd])), (ka, zk_a cI 301 co), (kb, zk_a cI 300 pn), (kd, zk_a cI 300 pd), (q_, .inl (cR, 4, .inr (.inr (.inr (.inr rf))))), (r 0, .inr (2, [.ref (ra 0), .ref (rb 0), .ref (rd 0), .int (nI (ct 0)), .int (nI (pb 0)), .int (nI (bw 0)), .int (nI (rc 0)), .int (nI (to 0)), .int (nI (la 0)), .int (nI (se 0)), .int (nI (th 0))])), (ra 0, zk_a cI 300 (pl 0)), (rb 0, zk_a cI 300 (ln 0)), (rd 0, zk_a cI 300 (ds 0)), (r 1, .inr (2, [.ref (ra 1), .ref (rb 1), .ref (rd 1), .int (nI (ct 1)), .int (nI (pb 1)), .int (nI (bw 1)), .int (nI (rc 1)), .int (nI (to 1)), .int (nI (la 1)), .int (nI (se 1)), .int (nI (th 1))])), (ra 1, zk_a cI 300 (pl 1)), (rb 1, zk_a cI 300 (ln 1)), (rd 1, zk_a cI 300 (ds 1)), (r 2, .inr (2, [.ref (ra 2), .ref (rb 2), .ref (rd 2), .int (nI (ct 2)), .int (nI (pb 2)), .int (nI (bw 2)), .int (nI (rc 2)), .int (nI (to 2)), .int (nI (la 2)), .int (nI (se 2)), .int (nI (th 2))])), (ra 2, zk_a cI 300 (pl 2)), (rb 2, zk_a cI 300 (ln 2)), (rd 2, zk_a cI 300 (ds 2)), (r 3, .inr (2, [.ref (ra 3), .ref (rb 3), .ref (rd 3), .int (nI (ct 3)), .int (nI (pb 3)), .int (nI (bw 3)), .int (nI (rc 3)), .int (nI (to 3)), .int (nI (la 3)), .int (nI (se 3)), .int (nI (th 3))])), (ra 3, zk_a cI 300 (pl 3)), (rb 3, zk_a cI 300 (ln 3)), (rd 3, zk_a cI 300 (ds 3))] H := hP
          have hS9 : (zr_s0 g ah sz sp) pp = (le9, di9) := hu
          refine lv_iload_n hx hb dX4_longest_30 rfl (lv_at hl 2 rfl) ?_
          refine zk_if_ne (tgt := 44) hx hb (by omega) dX4_longest_31 (by decide) (fun c_4 => absurd c_4 (by omega)) (fun c_4 => ?_)
          refine lv_aload_n hx hb dX4_longest_34 rfl (lv_at hl 0 rfl) ?_
          refine va_get (D := D) (ci := 4) (v := .ref f) (C := RX4) (T := TX4) (N := 4) hx hb hts ziX4_longest_4 hown hK hP 0 rfl rfl 1 (by decide) f25 (fun _ h9 => h9) rfl dX4_longest_35 ?_
          refine va_get (D := D) (ci := 0) (v := .int (nI le9)) (C := RX0) (T := TX0) (N := 8) hx hb hts ziX4_longest_0 hown hK hP 1 rfl rfl 6 (by decide) f76 (fun _ h9 => h9) rfl dX4_longest_38 ?_
          refine lv_goto (tgt := 51) hx hb dX4_longest_41 (by decide) ?_
          exact hret _ ls _ _ _ (fl9, fd9, fc9, le9, di9) dX4_longest_51 (by rw [zA_pick, zk_val hpp (by omega), zk_win (by omega) (by decide), if_pos nI_0, nI_clamp (show pp < 2 ^ 31 by omega), hS9]) hP hS
        · subst hv0
          refine lv_aload_n hx hb dX4_longest_22 rfl (lv_at hl 0 rfl) ?_
          refine va_get (D := D) (ci := 4) (v := .ref f) (C := RX4) (T := TX4) (N := 4) hx hb hts ziX4_longest_4 hown hK hP 0 rfl rfl 1 (by decide) f25 (fun _ h9 => h9) rfl dX4_longest_23 ?_
          refine lv_iload_n hx hb dX4_longest_26 rfl (lv_at hl 1 rfl) ?_
          refine zk_wrV (As := [.int (nI pp)]) (rest := []) ⟨hx, hb, hml, hown, hts⟩ hN (c_seekLongest l D cI cZ cR f sp dp fa fb fc le di fl fd t b ah sz g pp (by omega) (by omega) (by omega) (by omega) h4) (cwV 1 hts gX4_longest_X0_seekLongest rfl rfl rfl (by decide +kernel) ⟨Nat.le_of_ble_eq_true rfl, Nat.le_of_ble_eq_true rfl⟩) hK hP (zk_D hD rfl) hS hA [1, 2, 3, 4, 5] rfl (by decide) (fun _ => rfl) rfl rfl rfl rfl hl.1 rfl (Nat.le_of_ble_eq_true rfl) dX4_longest_27 ⟨Nat.zero_le _, Nat.zero_le _⟩ (fun u H locs hu hP hS => ?_)
          obtain ⟨fl9, fd9, fc9, le9, di9⟩ := u
          have hu : zr_last (zr_F g (ah + pp) (min 40 (sz - pp)) (min sp (ah + pp))) = (le9, di9) := hu
          have hP : va_P D vwCl [(x_, .inr (4, [.ref t, .ref f, .ref k_, .ref q_])), (f, .inr (0, [.ref t, .int (nI sp), .int (nI dp), .ref fa, .ref fb, .int (nI fc9), .int (nI le9), .int (nI di9)])), (fa, zk_a cI 38 fl9), (fb, zk_a cI 38 fd9), (t, .inr (3, [.ref b, .int (nI ah), .int (nI sz)])), (b, zk_a cI 360 g), (k_, .inr (1, [.ref ka, .ref kb, .ref kd])), (ka, zk_a cI 301 co), (kb, zk_a cI 300 pn), (kd, zk_a cI 300 pd), (q_, .inl (cR, 4, .inr (.inr (.inr (.inr rf))))), (r 0, .inr (2, [.ref (ra 0), .ref (rb 0), .ref (rd 0), .int (nI (ct 0)), .int (nI (pb 0)), .int (nI (bw 0)), .int (nI (rc 0)), .int (nI (to 0)), .int (nI (la 0)), .int (nI (se 0)), .int (nI (th 0))])), (ra 0, zk_a cI 300 (pl 0)), (rb 0, zk_a cI 300 (ln 0)), (rd 0, zk_a cI 300 (ds 0)), (r 1, .inr (2, [.ref (ra 1), .ref (rb 1), .ref (rd 1), .int (nI (ct 1)), .int (nI (pb 1)), .int (nI (bw 1)), .int (nI (rc 1)), .int (nI (to 1)), .int (nI (la 1)), .int (nI (se 1)), .int (nI (th 1))])), (ra 1, zk_a cI 300 (pl 1)), (rb 1, zk_a cI 300 (ln 1)), (rd 1, zk_a cI 300 (ds 1)), (r 2, .inr (2, [.ref (ra 2), .ref (rb 2), .ref (rd 2), .int (nI (ct 2)), .int (nI (pb 2)), .int (nI (bw 2)), .int (nI (rc 2)), .int (nI (to 2)), .int (nI (la 2)), .int (nI (se 2)), .int (nI (th 2))])), (ra 2, zk_a cI 300 (pl 2)), (rb 2, zk_a cI 300 (ln 2)), (rd 2, zk_a cI 300 (ds 2)), (r 3, .inr (2, [.ref (ra 3), .ref (rb 3), .ref (rd 3), .int (nI (ct 3)), .int (nI (pb 3)), .int (nI (bw 3)), .int (nI (rc 3)), .int (nI (to 3)), .int (nI (la 3)), .int (nI (se 3)), .int (nI (th 3))])), (ra 3, zk_a cI 300 (pl 3)), (rb 3, zk_a cI 300 (ln 3)), (rd 3, zk_a cI 300 (ds 3))] H := hP
          have hS9 : (zr_s0 g ah sz sp) pp = (le9, di9) := hu
          refine lv_iload_n hx hb dX4_longest_30 rfl (lv_at hl 2 rfl) ?_
          refine zk_if_ne (tgt := 44) hx hb (by omega) dX4_longest_31 (by decide) (fun c_5 => ?_) (fun c_5 => absurd c_5 (by omega))
          refine lv_aload_n hx hb dX4_longest_44 rfl (lv_at hl 0 rfl) ?_
          refine va_get (D := D) (ci := 4) (v := .ref f) (C := RX4) (T := TX4) (N := 4) hx hb hts ziX4_longest_4 hown hK hP 0 rfl rfl 1 (by decide) f25 (fun _ h9 => h9) rfl dX4_longest_45 ?_
          refine va_get (D := D) (ci := 0) (v := .int (nI di9)) (C := RX0) (T := TX0) (N := 8) hx hb hts ziX4_longest_0 hown hK hP 1 rfl rfl 7 (by decide) f79 (fun _ h9 => h9) rfl dX4_longest_48 ?_
          exact hret _ ls _ _ _ (fl9, fd9, fc9, le9, di9) dX4_longest_51 (by rw [zA_pick, zk_val hpp (by omega), zk_win (by omega) (by decide), if_neg (by decide +kernel), nI_clamp (show pp < 2 ^ 31 by omega), hS9]) hP hS
      · skip
        refine lv_bipush (v := (-2)) hx hb dX4_longest_19 (by decide +kernel) ?_
        exact hret _ ls _ _ _ (fl, fd, fc, le, di) dX4_longest_21 (by rw [zA_pick, zk_val hpp (by omega), zk_wout (n := 1) (Or.inr c_3)]) hP hS
  · skip
    have hno := zk_wz0 c_1
    refine lv_iconst (v := (-1)) hx hb dX4_longest_8 (by decide +kernel) ?_
    exact hret _ ls _ _ _ (fl, fd, fc, le, di) dX4_longest_9 (by rw [zA_pick, zk_inv hno]) hP hS
def rmX4_chained : Room := { frames := 3, cells := 0, slots := 0, locals := 68 }
set_option maxRecDepth 20000 in
theorem ziX4_chained_0 : ∀ w ∈ wsX00, w ∈ wsX4_chained := by decide +kernel
set_option maxRecDepth 20000 in
theorem ziX4_chained_4 : ∀ w ∈ wsX40, w ∈ wsX4_chained := by decide +kernel
set_option maxHeartbeats 4000000 in
set_option maxRecDepth 100000 in
/-- chained -/
theorem c_chained (l : Launch) (D : va_G) (cI cZ cR : ClassId) (x_ : Nat) (q_ : Nat) (t : Nat) (f : Nat) (k_ : Nat) (rf : Nat → Option Nat) (sp : Nat) (dp : Nat) (fa : Nat) (fb : Nat) (b : Nat) (ka : Nat) (kb : Nat) (kd : Nat) (r : Nat → Nat) (ra : Nat → Nat) (rb : Nat → Nat) (rd : Nat → Nat) (fl : Nat → Nat) (fd : Nat → Nat) (fc : Nat) (le : Nat) (di : Nat) (g : Nat → Nat) (ah : Nat) (sz : Nat) (co : Nat → Nat) (pn : Nat → Nat) (pd : Nat → Nat) (ct : Nat → Nat) (pb : Nat → Nat) (bw : Nat → Nat) (rc : Nat → Nat) (to : Nat → Nat) (la : Nat → Nat) (se : Nat → Nat) (th : Nat → Nat) (pl : Nat → Nat → Nat) (ln : Nat → Nat → Nat) (ds : Nat → Nat → Nat) (p_ : Int32) (w_ : Int32) (h0 : ah ≤ 60) (h1 : sz ≤ 300) (h2 : sp ≤ 300) (h3 : dp ≤ 64) (h4 : ∀ j, g j < 256) (h5 : ∀ i, i < 4 → rf i = some (r i)) (h6 : zr_rows g ah sz sp dp to ct pb bw rc pl ln ds) : zk_Wi l yX4_chained wsX4_chained rmX4_chained D (zk_t cI cZ cR) [.ref x_, .int p_, .int w_] [(x_, .inr (4, [.ref t, .ref f, .ref k_, .ref q_])), (f, .inr (0, [.ref t, .int (nI sp), .int (nI dp), .ref fa, .ref fb, .int (nI fc), .int (nI le), .int (nI di)])), (fa, zk_a cI 38 fl), (fb, zk_a cI 38 fd), (t, .inr (3, [.ref b, .int (nI ah), .int (nI sz)])), (b, zk_a cI 360 g), (k_, .inr (1, [.ref ka, .ref kb, .ref kd])), (ka, zk_a cI 301 co), (kb, zk_a cI 300 pn), (kd, zk_a cI 300 pd), (q_, .inl (cR, 4, .inr (.inr (.inr (.inr rf))))), (r 0, .inr (2, [.ref (ra 0), .ref (rb 0), .ref (rd 0), .int (nI (ct 0)), .int (nI (pb 0)), .int (nI (bw 0)), .int (nI (rc 0)), .int (nI (to 0)), .int (nI (la 0)), .int (nI (se 0)), .int (nI (th 0))])), (ra 0, zk_a cI 300 (pl 0)), (rb 0, zk_a cI 300 (ln 0)), (rd 0, zk_a cI 300 (ds 0)), (r 1, .inr (2, [.ref (ra 1), .ref (rb 1), .ref (rd 1), .int (nI (ct 1)), .int (nI (pb 1)), .int (nI (bw 1)), .int (nI (rc 1)), .int (nI (to 1)), .int (nI (la 1)), .int (nI (se 1)), .int (nI (th 1))])), (ra 1, zk_a cI 300 (pl 1)), (rb 1, zk_a cI 300 (ln 1)), (rd 1, zk_a cI 300 (ds 1)), (r 2, .inr (2, [.ref (ra 2), .ref (rb 2), .ref (rd 2), .int (nI (ct 2)), .int (nI (pb 2)), .int (nI (bw 2)), .int (nI (rc 2)), .int (nI (to 2)), .int (nI (la 2)), .int (nI (se 2)), .int (nI (th 2))])), (ra 2, zk_a cI 300 (pl 2)), (rb 2, zk_a cI 300 (ln 2)), (rd 2, zk_a cI 300 (ds 2)), (r 3, .inr (2, [.ref (ra 3), .ref (rb 3), .ref (rd 3), .int (nI (ct 3)), .int (nI (pb 3)), .int (nI (bw 3)), .int (nI (rc 3)), .int (nI (to 3)), .int (nI (la 3)), .int (nI (se 3)), .int (nI (th 3))])), (ra 3, zk_a cI 300 (pl 3)), (rb 3, zk_a cI 300 (ln 3)), (rd 3, zk_a cI 300 (ds 3))] (fun (r : Int32) (u : (Nat → Nat) × (Nat → Nat) × Nat × Nat × Nat) => match u with | (fl2, fd2, fc2, le2, di2) => r = zA_pick p_ w_ sz (zr_s1 g ah sz sp dp)) (fun u => match u with | (fl2, fd2, fc2, le2, di2) => [(x_, .inr (4, [.ref t, .ref f, .ref k_, .ref q_])), (f, .inr (0, [.ref t, .int (nI sp), .int (nI dp), .ref fa, .ref fb, .int (nI fc2), .int (nI le2), .int (nI di2)])), (fa, zk_a cI 38 fl2), (fb, zk_a cI 38 fd2), (t, .inr (3, [.ref b, .int (nI ah), .int (nI sz)])), (b, zk_a cI 360 g), (k_, .inr (1, [.ref ka, .ref kb, .ref kd])), (ka, zk_a cI 301 co), (kb, zk_a cI 300 pn), (kd, zk_a cI 300 pd), (q_, .inl (cR, 4, .inr (.inr (.inr (.inr rf))))), (r 0, .inr (2, [.ref (ra 0), .ref (rb 0), .ref (rd 0), .int (nI (ct 0)), .int (nI (pb 0)), .int (nI (bw 0)), .int (nI (rc 0)), .int (nI (to 0)), .int (nI (la 0)), .int (nI (se 0)), .int (nI (th 0))])), (ra 0, zk_a cI 300 (pl 0)), (rb 0, zk_a cI 300 (ln 0)), (rd 0, zk_a cI 300 (ds 0)), (r 1, .inr (2, [.ref (ra 1), .ref (rb 1), .ref (rd 1), .int (nI (ct 1)), .int (nI (pb 1)), .int (nI (bw 1)), .int (nI (rc 1)), .int (nI (to 1)), .int (nI (la 1)), .int (nI (se 1)), .int (nI (th 1))])), (ra 1, zk_a cI 300 (pl 1)), (rb 1, zk_a cI 300 (ln 1)), (rd 1, zk_a cI 300 (ds 1)), (r 2, .inr (2, [.ref (ra 2), .ref (rb 2), .ref (rd 2), .int (nI (ct 2)), .int (nI (pb 2)), .int (nI (bw 2)), .int (nI (rc 2)), .int (nI (to 2)), .int (nI (la 2)), .int (nI (se 2)), .int (nI (th 2))])), (ra 2, zk_a cI 300 (pl 2)), (rb 2, zk_a cI 300 (ln 2)), (rd 2, zk_a cI 300 (ds 2)), (r 3, .inr (2, [.ref (ra 3), .ref (rb 3), .ref (rd 3), .int (nI (ct 3)), .int (nI (pb 3)), .int (nI (bw 3)), .int (nI (rc 3)), .int (nI (to 3)), .int (nI (la 3)), .int (nI (se 3)), .int (nI (th 3))])), (ra 3, zk_a cI 300 (pl 3)), (rb 3, zk_a cI 300 (ln 3)), (rd 3, zk_a cI 300 (ds 3))]) := by
  refine zk_enterI RX4 cX4_chained 3 (by decide) rfl rfl (Nat.le_of_ble_eq_true rfl) ?_
  intro p e s m args below meth c ls A Q hx hb hml hown hts hP hK hD hN hl hA hS hret
  have hl : lv_has ls 3 [(0, .ref x_), (1, .int p_), (2, .int w_)] := hl
  have f25 := hts (.fieldLink RX4 25 "MatchFinders" "finder" "LMatchFinders$Finder;") (by decide +kernel)
  have f76 := hts (.fieldLink RX4 76 "MatchFinders$Finder" "length" "I") (by decide +kernel)
  have f79 := hts (.fieldLink RX4 79 "MatchFinders$Finder" "distance" "I") (by decide +kernel)
  refine lv_aload_n hx hb dX4_chained_0 rfl (lv_at hl 0 rfl) ?_
  refine lv_iload_n hx hb dX4_chained_1 rfl (lv_at hl 1 rfl) ?_
  refine zk_rdV (As := [.int p_]) (rest := []) ⟨hx, hb, hml, hown, hts⟩ hN (c_isPlace l D cI cZ cR x_ q_ f k_ t b ah sz g p_) (cwV 1 hts gX4_chained_X4_isPlace rfl rfl rfl (by decide +kernel) ⟨Nat.le_of_ble_eq_true rfl, Nat.le_of_ble_eq_true rfl⟩) hK hP (zk_D hD rfl) [0, 4, 5] rfl (by decide) rfl rfl rfl rfl hl.1 rfl (Nat.le_of_ble_eq_true rfl) dX4_chained_2 ⟨Nat.zero_le _, Nat.zero_le _⟩ ?_
  refine lv_if_ne (tgt := 10) hx hb dX4_chained_5 (by decide) (fun c_1 => ?_) (fun c_1 => ?_)
  · skip
    obtain ⟨pp, hpp, hpe⟩ := zk_wz2 (by omega) c_1
    subst hpe
    refine lv_iload_n hx hb dX4_chained_10 rfl (lv_at hl 2 rfl) ?_
    refine lv_if_lt (tgt := 19) hx hb dX4_chained_11 (by decide) (fun c_2 => ?_) (fun c_2 => ?_)
    · skip
      refine lv_bipush (v := (-2)) hx hb dX4_chained_19 (by decide +kernel) ?_
      exact hret _ ls _ _ _ (fl, fd, fc, le, di) dX4_chained_21 (by rw [zA_pick, zk_val hpp (by omega), zk_wout (n := 1) (Or.inl c_2)]) hP hS
    · skip
      refine lv_iload_n hx hb dX4_chained_14 rfl (lv_at hl 2 rfl) ?_
      refine lv_iconst (v := (nI 1)) hx hb dX4_chained_15 (by decide +kernel) ?_
      refine lv_icmp_le (tgt := 22) hx hb dX4_chained_16 (by decide) (fun c_3 => ?_) (fun c_3 => ?_)
      · skip
        obtain ⟨v, hv, hve⟩ := zk_wof (n := 1) (by decide) c_2 c_3
        subst hve
        rcases (show v = 0 ∨ v = 1 by omega) with hv0 | hv0
        · subst hv0
          refine lv_aload_n hx hb dX4_chained_22 rfl (lv_at hl 0 rfl) ?_
          refine va_get (D := D) (ci := 4) (v := .ref f) (C := RX4) (T := TX4) (N := 4) hx hb hts ziX4_chained_4 hown hK hP 0 rfl rfl 1 (by decide) f25 (fun _ h9 => h9) rfl dX4_chained_23 ?_
          refine lv_iload_n hx hb dX4_chained_26 rfl (lv_at hl 1 rfl) ?_
          refine zk_wrV (As := [.int (nI pp)]) (rest := []) ⟨hx, hb, hml, hown, hts⟩ hN (c_seekChained l D cI cZ cR f sp dp fa fb fc le di fl fd t b ah sz g pp (by omega) (by omega) (by omega) (by omega) h4 (by omega)) (cwV 1 hts gX4_chained_X0_seekChained rfl rfl rfl (by decide +kernel) ⟨Nat.le_of_ble_eq_true rfl, Nat.le_of_ble_eq_true rfl⟩) hK hP (zk_D hD rfl) hS hA [1, 2, 3, 4, 5] rfl (by decide) (fun _ => rfl) rfl rfl rfl rfl hl.1 rfl (Nat.le_of_ble_eq_true rfl) dX4_chained_27 ⟨Nat.zero_le _, Nat.zero_le _⟩ (fun u H locs hu hP hS => ?_)
          obtain ⟨le9, di9⟩ := u
          have hu : zr_ch (fun d => zr_reach g (ah + pp) (ah + pp - d) (min 40 (sz - pp))) dp (min sp (ah + pp)) 1 0 0 0 = (le9, di9) := hu
          have hP : va_P D vwCl [(x_, .inr (4, [.ref t, .ref f, .ref k_, .ref q_])), (f, .inr (0, [.ref t, .int (nI sp), .int (nI dp), .ref fa, .ref fb, .int (nI fc), .int (nI le9), .int (nI di9)])), (fa, zk_a cI 38 fl), (fb, zk_a cI 38 fd), (t, .inr (3, [.ref b, .int (nI ah), .int (nI sz)])), (b, zk_a cI 360 g), (k_, .inr (1, [.ref ka, .ref kb, .ref kd])), (ka, zk_a cI 301 co), (kb, zk_a cI 300 pn), (kd, zk_a cI 300 pd), (q_, .inl (cR, 4, .inr (.inr (.inr (.inr rf))))), (r 0, .inr (2, [.ref (ra 0), .ref (rb 0), .ref (rd 0), .int (nI (ct 0)), .int (nI (pb 0)), .int (nI (bw 0)), .int (nI (rc 0)), .int (nI (to 0)), .int (nI (la 0)), .int (nI (se 0)), .int (nI (th 0))])), (ra 0, zk_a cI 300 (pl 0)), (rb 0, zk_a cI 300 (ln 0)), (rd 0, zk_a cI 300 (ds 0)), (r 1, .inr (2, [.ref (ra 1), .ref (rb 1), .ref (rd 1), .int (nI (ct 1)), .int (nI (pb 1)), .int (nI (bw 1)), .int (nI (rc 1)), .int (nI (to 1)), .int (nI (la 1)), .int (nI (se 1)), .int (nI (th 1))])), (ra 1, zk_a cI 300 (pl 1)), (rb 1, zk_a cI 300 (ln 1)), (rd 1, zk_a cI 300 (ds 1)), (r 2, .inr (2, [.ref (ra 2), .ref (rb 2), .ref (rd 2), .int (nI (ct 2)), .int (nI (pb 2)), .int (nI (bw 2)), .int (nI (rc 2)), .int (nI (to 2)), .int (nI (la 2)), .int (nI (se 2)), .int (nI (th 2))])), (ra 2, zk_a cI 300 (pl 2)), (rb 2, zk_a cI 300 (ln 2)), (rd 2, zk_a cI 300 (ds 2)), (r 3, .inr (2, [.ref (ra 3), .ref (rb 3), .ref (rd 3), .int (nI (ct 3)), .int (nI (pb 3)), .int (nI (bw 3)), .int (nI (rc 3)), .int (nI (to 3)), .int (nI (la 3)), .int (nI (se 3)), .int (nI (th 3))])), (ra 3, zk_a cI 300 (pl 3)), (rb 3, zk_a cI 300 (ln 3)), (rd 3, zk_a cI 300 (ds 3))] H := hP
          have hS9 : (zr_s1 g ah sz sp dp) pp = (le9, di9) := hu
          refine lv_iload_n hx hb dX4_chained_30 rfl (lv_at hl 2 rfl) ?_
          refine zk_if_ne (tgt := 44) hx hb (by omega) dX4_chained_31 (by decide) (fun c_4 => absurd c_4 (by omega)) (fun c_4 => ?_)
          refine lv_aload_n hx hb dX4_chained_34 rfl (lv_at hl 0 rfl) ?_
          refine va_get (D := D) (ci := 4) (v := .ref f) (C := RX4) (T := TX4) (N := 4) hx hb hts ziX4_chained_4 hown hK hP 0 rfl rfl 1 (by decide) f25 (fun _ h9 => h9) rfl dX4_chained_35 ?_
          refine va_get (D := D) (ci := 0) (v := .int (nI le9)) (C := RX0) (T := TX0) (N := 8) hx hb hts ziX4_chained_0 hown hK hP 1 rfl rfl 6 (by decide) f76 (fun _ h9 => h9) rfl dX4_chained_38 ?_
          refine lv_goto (tgt := 51) hx hb dX4_chained_41 (by decide) ?_
          exact hret _ ls _ _ _ (fl, fd, fc, le9, di9) dX4_chained_51 (by rw [zA_pick, zk_val hpp (by omega), zk_win (by omega) (by decide), if_pos nI_0, nI_clamp (show pp < 2 ^ 31 by omega), hS9]) hP hS
        · subst hv0
          refine lv_aload_n hx hb dX4_chained_22 rfl (lv_at hl 0 rfl) ?_
          refine va_get (D := D) (ci := 4) (v := .ref f) (C := RX4) (T := TX4) (N := 4) hx hb hts ziX4_chained_4 hown hK hP 0 rfl rfl 1 (by decide) f25 (fun _ h9 => h9) rfl dX4_chained_23 ?_
          refine lv_iload_n hx hb dX4_chained_26 rfl (lv_at hl 1 rfl) ?_
          refine zk_wrV (As := [.int (nI pp)]) (rest := []) ⟨hx, hb, hml, hown, hts⟩ hN (c_seekChained l D cI cZ cR f sp dp fa fb fc le di fl fd t b ah sz g pp (by omega) (by omega) (by omega) (by omega) h4 (by omega)) (cwV 1 hts gX4_chained_X0_seekChained rfl rfl rfl (by decide +kernel) ⟨Nat.le_of_ble_eq_true rfl, Nat.le_of_ble_eq_true rfl⟩) hK hP (zk_D hD rfl) hS hA [1, 2, 3, 4, 5] rfl (by decide) (fun _ => rfl) rfl rfl rfl rfl hl.1 rfl (Nat.le_of_ble_eq_true rfl) dX4_chained_27 ⟨Nat.zero_le _, Nat.zero_le _⟩ (fun u H locs hu hP hS => ?_)
          obtain ⟨le9, di9⟩ := u
          have hu : zr_ch (fun d => zr_reach g (ah + pp) (ah + pp - d) (min 40 (sz - pp))) dp (min sp (ah + pp)) 1 0 0 0 = (le9, di9) := hu
          have hP : va_P D vwCl [(x_, .inr (4, [.ref t, .ref f, .ref k_, .ref q_])), (f, .inr (0, [.ref t, .int (nI sp), .int (nI dp), .ref fa, .ref fb, .int (nI fc), .int (nI le9), .int (nI di9)])), (fa, zk_a cI 38 fl), (fb, zk_a cI 38 fd), (t, .inr (3, [.ref b, .int (nI ah), .int (nI sz)])), (b, zk_a cI 360 g), (k_, .inr (1, [.ref ka, .ref kb, .ref kd])), (ka, zk_a cI 301 co), (kb, zk_a cI 300 pn), (kd, zk_a cI 300 pd), (q_, .inl (cR, 4, .inr (.inr (.inr (.inr rf))))), (r 0, .inr (2, [.ref (ra 0), .ref (rb 0), .ref (rd 0), .int (nI (ct 0)), .int (nI (pb 0)), .int (nI (bw 0)), .int (nI (rc 0)), .int (nI (to 0)), .int (nI (la 0)), .int (nI (se 0)), .int (nI (th 0))])), (ra 0, zk_a cI 300 (pl 0)), (rb 0, zk_a cI 300 (ln 0)), (rd 0, zk_a cI 300 (ds 0)), (r 1, .inr (2, [.ref (ra 1), .ref (rb 1), .ref (rd 1), .int (nI (ct 1)), .int (nI (pb 1)), .int (nI (bw 1)), .int (nI (rc 1)), .int (nI (to 1)), .int (nI (la 1)), .int (nI (se 1)), .int (nI (th 1))])), (ra 1, zk_a cI 300 (pl 1)), (rb 1, zk_a cI 300 (ln 1)), (rd 1, zk_a cI 300 (ds 1)), (r 2, .inr (2, [.ref (ra 2), .ref (rb 2), .ref (rd 2), .int (nI (ct 2)), .int (nI (pb 2)), .int (nI (bw 2)), .int (nI (rc 2)), .int (nI (to 2)), .int (nI (la 2)), .int (nI (se 2)), .int (nI (th 2))])), (ra 2, zk_a cI 300 (pl 2)), (rb 2, zk_a cI 300 (ln 2)), (rd 2, zk_a cI 300 (ds 2)), (r 3, .inr (2, [.ref (ra 3), .ref (rb 3), .ref (rd 3), .int (nI (ct 3)), .int (nI (pb 3)), .int (nI (bw 3)), .int (nI (rc 3)), .int (nI (to 3)), .int (nI (la 3)), .int (nI (se 3)), .int (nI (th 3))])), (ra 3, zk_a cI 300 (pl 3)), (rb 3, zk_a cI 300 (ln 3)), (rd 3, zk_a cI 300 (ds 3))] H := hP
          have hS9 : (zr_s1 g ah sz sp dp) pp = (le9, di9) := hu
          refine lv_iload_n hx hb dX4_chained_30 rfl (lv_at hl 2 rfl) ?_
          refine zk_if_ne (tgt := 44) hx hb (by omega) dX4_chained_31 (by decide) (fun c_5 => ?_) (fun c_5 => absurd c_5 (by omega))
          refine lv_aload_n hx hb dX4_chained_44 rfl (lv_at hl 0 rfl) ?_
          refine va_get (D := D) (ci := 4) (v := .ref f) (C := RX4) (T := TX4) (N := 4) hx hb hts ziX4_chained_4 hown hK hP 0 rfl rfl 1 (by decide) f25 (fun _ h9 => h9) rfl dX4_chained_45 ?_
          refine va_get (D := D) (ci := 0) (v := .int (nI di9)) (C := RX0) (T := TX0) (N := 8) hx hb hts ziX4_chained_0 hown hK hP 1 rfl rfl 7 (by decide) f79 (fun _ h9 => h9) rfl dX4_chained_48 ?_
          exact hret _ ls _ _ _ (fl, fd, fc, le9, di9) dX4_chained_51 (by rw [zA_pick, zk_val hpp (by omega), zk_win (by omega) (by decide), if_neg (by decide +kernel), nI_clamp (show pp < 2 ^ 31 by omega), hS9]) hP hS
      · skip
        refine lv_bipush (v := (-2)) hx hb dX4_chained_19 (by decide +kernel) ?_
        exact hret _ ls _ _ _ (fl, fd, fc, le, di) dX4_chained_21 (by rw [zA_pick, zk_val hpp (by omega), zk_wout (n := 1) (Or.inr c_3)]) hP hS
  · skip
    have hno := zk_wz0 c_1
    refine lv_iconst (v := (-1)) hx hb dX4_chained_8 (by decide +kernel) ?_
    exact hret _ ls _ _ _ (fl, fd, fc, le, di) dX4_chained_9 (by rw [zA_pick, zk_inv hno]) hP hS
def rmX4_front : Room := { frames := 3, cells := 0, slots := 0, locals := 68 }
set_option maxRecDepth 20000 in
theorem ziX4_front_0 : ∀ w ∈ wsX00, w ∈ wsX4_front := by decide +kernel
set_option maxRecDepth 20000 in
theorem ziX4_front_4 : ∀ w ∈ wsX40, w ∈ wsX4_front := by decide +kernel
set_option maxHeartbeats 4000000 in
set_option maxRecDepth 100000 in
/-- front -/
theorem c_front (l : Launch) (D : va_G) (cI cZ cR : ClassId) (x_ : Nat) (q_ : Nat) (t : Nat) (f : Nat) (k_ : Nat) (rf : Nat → Option Nat) (sp : Nat) (dp : Nat) (fa : Nat) (fb : Nat) (b : Nat) (ka : Nat) (kb : Nat) (kd : Nat) (r : Nat → Nat) (ra : Nat → Nat) (rb : Nat → Nat) (rd : Nat → Nat) (fl : Nat → Nat) (fd : Nat → Nat) (fc : Nat) (le : Nat) (di : Nat) (g : Nat → Nat) (ah : Nat) (sz : Nat) (co : Nat → Nat) (pn : Nat → Nat) (pd : Nat → Nat) (ct : Nat → Nat) (pb : Nat → Nat) (bw : Nat → Nat) (rc : Nat → Nat) (to : Nat → Nat) (la : Nat → Nat) (se : Nat → Nat) (th : Nat → Nat) (pl : Nat → Nat → Nat) (ln : Nat → Nat → Nat) (ds : Nat → Nat → Nat) (p_ : Int32) (k9 : Int32) (w_ : Int32) (h0 : ah ≤ 60) (h1 : sz ≤ 300) (h2 : sp ≤ 300) (h3 : dp ≤ 64) (h4 : ∀ j, g j < 256) (h5 : ∀ i, i < 4 → rf i = some (r i)) (h6 : zr_rows g ah sz sp dp to ct pb bw rc pl ln ds) : zk_Wi l yX4_front wsX4_front rmX4_front D (zk_t cI cZ cR) [.ref x_, .int p_, .int k9, .int w_] [(x_, .inr (4, [.ref t, .ref f, .ref k_, .ref q_])), (f, .inr (0, [.ref t, .int (nI sp), .int (nI dp), .ref fa, .ref fb, .int (nI fc), .int (nI le), .int (nI di)])), (fa, zk_a cI 38 fl), (fb, zk_a cI 38 fd), (t, .inr (3, [.ref b, .int (nI ah), .int (nI sz)])), (b, zk_a cI 360 g), (k_, .inr (1, [.ref ka, .ref kb, .ref kd])), (ka, zk_a cI 301 co), (kb, zk_a cI 300 pn), (kd, zk_a cI 300 pd), (q_, .inl (cR, 4, .inr (.inr (.inr (.inr rf))))), (r 0, .inr (2, [.ref (ra 0), .ref (rb 0), .ref (rd 0), .int (nI (ct 0)), .int (nI (pb 0)), .int (nI (bw 0)), .int (nI (rc 0)), .int (nI (to 0)), .int (nI (la 0)), .int (nI (se 0)), .int (nI (th 0))])), (ra 0, zk_a cI 300 (pl 0)), (rb 0, zk_a cI 300 (ln 0)), (rd 0, zk_a cI 300 (ds 0)), (r 1, .inr (2, [.ref (ra 1), .ref (rb 1), .ref (rd 1), .int (nI (ct 1)), .int (nI (pb 1)), .int (nI (bw 1)), .int (nI (rc 1)), .int (nI (to 1)), .int (nI (la 1)), .int (nI (se 1)), .int (nI (th 1))])), (ra 1, zk_a cI 300 (pl 1)), (rb 1, zk_a cI 300 (ln 1)), (rd 1, zk_a cI 300 (ds 1)), (r 2, .inr (2, [.ref (ra 2), .ref (rb 2), .ref (rd 2), .int (nI (ct 2)), .int (nI (pb 2)), .int (nI (bw 2)), .int (nI (rc 2)), .int (nI (to 2)), .int (nI (la 2)), .int (nI (se 2)), .int (nI (th 2))])), (ra 2, zk_a cI 300 (pl 2)), (rb 2, zk_a cI 300 (ln 2)), (rd 2, zk_a cI 300 (ds 2)), (r 3, .inr (2, [.ref (ra 3), .ref (rb 3), .ref (rd 3), .int (nI (ct 3)), .int (nI (pb 3)), .int (nI (bw 3)), .int (nI (rc 3)), .int (nI (to 3)), .int (nI (la 3)), .int (nI (se 3)), .int (nI (th 3))])), (ra 3, zk_a cI 300 (pl 3)), (rb 3, zk_a cI 300 (ln 3)), (rd 3, zk_a cI 300 (ds 3))] (fun (r : Int32) (u : (Nat → Nat) × (Nat → Nat) × Nat) => match u with | (fl2, fd2, fc2) => r = zA_front p_ k9 w_ sz (zr_Fp g ah sz sp)) (fun u => match u with | (fl2, fd2, fc2) => [(x_, .inr (4, [.ref t, .ref f, .ref k_, .ref q_])), (f, .inr (0, [.ref t, .int (nI sp), .int (nI dp), .ref fa, .ref fb, .int (nI fc2), .int (nI le), .int (nI di)])), (fa, zk_a cI 38 fl2), (fb, zk_a cI 38 fd2), (t, .inr (3, [.ref b, .int (nI ah), .int (nI sz)])), (b, zk_a cI 360 g), (k_, .inr (1, [.ref ka, .ref kb, .ref kd])), (ka, zk_a cI 301 co), (kb, zk_a cI 300 pn), (kd, zk_a cI 300 pd), (q_, .inl (cR, 4, .inr (.inr (.inr (.inr rf))))), (r 0, .inr (2, [.ref (ra 0), .ref (rb 0), .ref (rd 0), .int (nI (ct 0)), .int (nI (pb 0)), .int (nI (bw 0)), .int (nI (rc 0)), .int (nI (to 0)), .int (nI (la 0)), .int (nI (se 0)), .int (nI (th 0))])), (ra 0, zk_a cI 300 (pl 0)), (rb 0, zk_a cI 300 (ln 0)), (rd 0, zk_a cI 300 (ds 0)), (r 1, .inr (2, [.ref (ra 1), .ref (rb 1), .ref (rd 1), .int (nI (ct 1)), .int (nI (pb 1)), .int (nI (bw 1)), .int (nI (rc 1)), .int (nI (to 1)), .int (nI (la 1)), .int (nI (se 1)), .int (nI (th 1))])), (ra 1, zk_a cI 300 (pl 1)), (rb 1, zk_a cI 300 (ln 1)), (rd 1, zk_a cI 300 (ds 1)), (r 2, .inr (2, [.ref (ra 2), .ref (rb 2), .ref (rd 2), .int (nI (ct 2)), .int (nI (pb 2)), .int (nI (bw 2)), .int (nI (rc 2)), .int (nI (to 2)), .int (nI (la 2)), .int (nI (se 2)), .int (nI (th 2))])), (ra 2, zk_a cI 300 (pl 2)), (rb 2, zk_a cI 300 (ln 2)), (rd 2, zk_a cI 300 (ds 2)), (r 3, .inr (2, [.ref (ra 3), .ref (rb 3), .ref (rd 3), .int (nI (ct 3)), .int (nI (pb 3)), .int (nI (bw 3)), .int (nI (rc 3)), .int (nI (to 3)), .int (nI (la 3)), .int (nI (se 3)), .int (nI (th 3))])), (ra 3, zk_a cI 300 (pl 3)), (rb 3, zk_a cI 300 (ln 3)), (rd 3, zk_a cI 300 (ds 3))]) := by
  refine zk_enterI RX4 cX4_front 4 (by decide) rfl rfl (Nat.le_of_ble_eq_true rfl) ?_
  intro p e s m args below meth c ls A Q hx hb hml hown hts hP hK hD hN hl hA hS hret
  have hl : lv_has ls 4 [(0, .ref x_), (1, .int p_), (2, .int k9), (3, .int w_)] := hl
  have f25 := hts (.fieldLink RX4 25 "MatchFinders" "finder" "LMatchFinders$Finder;") (by decide +kernel)
  have f88 := hts (.fieldLink RX4 88 "MatchFinders$Finder" "frontCount" "I") (by decide +kernel)
  have f91 := hts (.fieldLink RX4 91 "MatchFinders$Finder" "frontLengths" "[I") (by decide +kernel)
  have f95 := hts (.fieldLink RX4 95 "MatchFinders$Finder" "frontDistances" "[I") (by decide +kernel)
  refine lv_aload_n hx hb dX4_front_0 rfl (lv_at hl 0 rfl) ?_
  refine lv_iload_n hx hb dX4_front_1 rfl (lv_at hl 1 rfl) ?_
  refine zk_rdV (As := [.int p_]) (rest := []) ⟨hx, hb, hml, hown, hts⟩ hN (c_isPlace l D cI cZ cR x_ q_ f k_ t b ah sz g p_) (cwV 1 hts gX4_front_X4_isPlace rfl rfl rfl (by decide +kernel) ⟨Nat.le_of_ble_eq_true rfl, Nat.le_of_ble_eq_true rfl⟩) hK hP (zk_D hD rfl) [0, 4, 5] rfl (by decide) rfl rfl rfl rfl hl.1 rfl (Nat.le_of_ble_eq_true rfl) dX4_front_2 ⟨Nat.zero_le _, Nat.zero_le _⟩ ?_
  refine lv_if_ne (tgt := 10) hx hb dX4_front_5 (by decide) (fun c_1 => ?_) (fun c_1 => ?_)
  · skip
    obtain ⟨pp, hpp, hpe⟩ := zk_wz2 (by omega) c_1
    subst hpe
    refine lv_aload_n hx hb dX4_front_10 rfl (lv_at hl 0 rfl) ?_
    refine va_get (D := D) (ci := 4) (v := .ref f) (C := RX4) (T := TX4) (N := 4) hx hb hts ziX4_front_4 hown hK hP 0 rfl rfl 1 (by decide) f25 (fun _ h9 => h9) rfl dX4_front_11 ?_
    refine lv_iload_n hx hb dX4_front_14 rfl (lv_at hl 1 rfl) ?_
    refine zk_wrV (As := [.int (nI pp)]) (rest := []) ⟨hx, hb, hml, hown, hts⟩ hN (c_gatherFront l D cI cZ cR f sp dp fa fb fc le di fl fd t b ah sz g pp (by omega) (by omega) (by omega) (by omega) h4) (cwV 1 hts gX4_front_X0_gatherFront rfl rfl rfl (by decide +kernel) ⟨Nat.le_of_ble_eq_true rfl, Nat.le_of_ble_eq_true rfl⟩) hK hP (zk_D hD rfl) hS hA [1, 2, 3, 4, 5] rfl (by decide) (fun _ => rfl) rfl rfl rfl rfl hl.1 rfl (Nat.le_of_ble_eq_true rfl) dX4_front_15 ⟨Nat.zero_le _, Nat.zero_le _⟩ (fun u H locs hu hP hS => ?_)
    obtain ⟨fl9, fd9, fc9⟩ := u
    have hu : zr_is (zr_F g (ah + pp) (min 40 (sz - pp)) (min sp (ah + pp))) fl9 fd9 fc9 := hu
    have hP : va_P D vwCl [(x_, .inr (4, [.ref t, .ref f, .ref k_, .ref q_])), (f, .inr (0, [.ref t, .int (nI sp), .int (nI dp), .ref fa, .ref fb, .int (nI fc9), .int (nI le), .int (nI di)])), (fa, zk_a cI 38 fl9), (fb, zk_a cI 38 fd9), (t, .inr (3, [.ref b, .int (nI ah), .int (nI sz)])), (b, zk_a cI 360 g), (k_, .inr (1, [.ref ka, .ref kb, .ref kd])), (ka, zk_a cI 301 co), (kb, zk_a cI 300 pn), (kd, zk_a cI 300 pd), (q_, .inl (cR, 4, .inr (.inr (.inr (.inr rf))))), (r 0, .inr (2, [.ref (ra 0), .ref (rb 0), .ref (rd 0), .int (nI (ct 0)), .int (nI (pb 0)), .int (nI (bw 0)), .int (nI (rc 0)), .int (nI (to 0)), .int (nI (la 0)), .int (nI (se 0)), .int (nI (th 0))])), (ra 0, zk_a cI 300 (pl 0)), (rb 0, zk_a cI 300 (ln 0)), (rd 0, zk_a cI 300 (ds 0)), (r 1, .inr (2, [.ref (ra 1), .ref (rb 1), .ref (rd 1), .int (nI (ct 1)), .int (nI (pb 1)), .int (nI (bw 1)), .int (nI (rc 1)), .int (nI (to 1)), .int (nI (la 1)), .int (nI (se 1)), .int (nI (th 1))])), (ra 1, zk_a cI 300 (pl 1)), (rb 1, zk_a cI 300 (ln 1)), (rd 1, zk_a cI 300 (ds 1)), (r 2, .inr (2, [.ref (ra 2), .ref (rb 2), .ref (rd 2), .int (nI (ct 2)), .int (nI (pb 2)), .int (nI (bw 2)), .int (nI (rc 2)), .int (nI (to 2)), .int (nI (la 2)), .int (nI (se 2)), .int (nI (th 2))])), (ra 2, zk_a cI 300 (pl 2)), (rb 2, zk_a cI 300 (ln 2)), (rd 2, zk_a cI 300 (ds 2)), (r 3, .inr (2, [.ref (ra 3), .ref (rb 3), .ref (rd 3), .int (nI (ct 3)), .int (nI (pb 3)), .int (nI (bw 3)), .int (nI (rc 3)), .int (nI (to 3)), .int (nI (la 3)), .int (nI (se 3)), .int (nI (th 3))])), (ra 3, zk_a cI 300 (pl 3)), (rb 3, zk_a cI 300 (ln 3)), (rd 3, zk_a cI 300 (ds 3))] H := hP
    have hF : zr_is (zr_Fp g ah sz sp pp) fl9 fd9 fc9 := hu
    have hfc := zr_is_len hu
    refine lv_iload_n hx hb dX4_front_18 rfl (lv_at hl 2 rfl) ?_
    refine lv_iconst (v := (-1)) hx hb dX4_front_19 (by decide +kernel) ?_
    refine lv_icmp_lt (tgt := 34) hx hb dX4_front_20 (by decide) (fun c_2 => ?_) (fun c_2 => ?_)
    · skip
      refine lv_iconst (v := (-1)) hx hb dX4_front_34 (by decide +kernel) ?_
      exact hret _ ls _ _ _ (fl9, fd9, fc9) dX4_front_35 (by rw [zA_front, zk_val hpp (by omega), nI_clamp (show pp < 2 ^ 31 by omega), if_pos c_2]) hP hS
    · skip
      refine lv_iload_n hx hb dX4_front_23 rfl (lv_at hl 2 rfl) ?_
      refine lv_aload_n hx hb dX4_front_24 rfl (lv_at hl 0 rfl) ?_
      refine va_get (D := D) (ci := 4) (v := .ref f) (C := RX4) (T := TX4) (N := 4) hx hb hts ziX4_front_4 hown hK hP 0 rfl rfl 1 (by decide) f25 (fun _ h9 => h9) rfl dX4_front_25 ?_
      refine va_get (D := D) (ci := 0) (v := .int (nI fc9)) (C := RX0) (T := TX0) (N := 8) hx hb hts ziX4_front_0 hown hK hP 1 rfl rfl 5 (by decide) f88 (fun _ h9 => h9) rfl dX4_front_28 ?_
      refine lv_icmp_lt (tgt := 36) hx hb dX4_front_31 (by decide) (fun c_3 => ?_) (fun c_3 => ?_)
      · skip
        refine lv_iload_n hx hb dX4_front_36 rfl (lv_at hl 3 rfl) ?_
        refine lv_if_lt (tgt := 45) hx hb dX4_front_37 (by decide) (fun c_4 => ?_) (fun c_4 => ?_)
        · skip
          refine lv_bipush (v := (-2)) hx hb dX4_front_45 (by decide +kernel) ?_
          exact hret _ ls _ _ _ (fl9, fd9, fc9) dX4_front_47 (by rw [zA_front, zk_val hpp (by omega), nI_clamp (show pp < 2 ^ 31 by omega), if_neg c_2, hF.1, if_neg (zk_ln c_3), zk_wout (n := 1) (Or.inl c_4)]) hP hS
        · skip
          refine lv_iload_n hx hb dX4_front_40 rfl (lv_at hl 3 rfl) ?_
          refine lv_iconst (v := (nI 1)) hx hb dX4_front_41 (by decide +kernel) ?_
          refine lv_icmp_le (tgt := 48) hx hb dX4_front_42 (by decide) (fun c_5 => ?_) (fun c_5 => ?_)
          · skip
            obtain ⟨v, hv, hve⟩ := zk_wof (n := 1) (by decide) c_4 c_5
            subst hve
            rcases (show v = 0 ∨ v = 1 by omega) with hv0 | hv0
            · subst hv0
              refine lv_iload_n hx hb dX4_front_48 rfl (lv_at hl 2 rfl) ?_
              refine lv_iconst (v := (-1)) hx hb dX4_front_49 (by decide +kernel) ?_
              refine lv_icmp_ne (tgt := 61) hx hb dX4_front_50 (by decide) (fun c_6 => ?_) (fun c_6 => ?_)
              · skip
                obtain ⟨kk, hkk, hke⟩ := zk_kn c_2 c_6 c_3 (by omega)
                subst hke
                have hm := zr_F_mem (zr_is_mem hF hkk)
                refine lv_iload_n hx hb dX4_front_61 rfl (lv_at hl 3 rfl) ?_
                refine zk_if_ne (tgt := 77) hx hb (by omega) dX4_front_62 (by decide) (fun c_7 => absurd c_7 (by omega)) (fun c_7 => ?_)
                refine lv_aload_n hx hb dX4_front_65 rfl (lv_at hl 0 rfl) ?_
                refine va_get (D := D) (ci := 4) (v := .ref f) (C := RX4) (T := TX4) (N := 4) hx hb hts ziX4_front_4 hown hK hP 0 rfl rfl 1 (by decide) f25 (fun _ h9 => h9) rfl dX4_front_66 ?_
                refine va_get (D := D) (ci := 0) (v := .ref fa) (C := RX0) (T := TX0) (N := 8) hx hb hts ziX4_front_0 hown hK hP 1 rfl rfl 3 (by decide) f91 (fun _ h9 => h9) rfl dX4_front_69 ?_
                refine lv_iload_n hx hb dX4_front_72 rfl (lv_at hl 2 rfl) ?_
                refine zk_ild (v := fl9 kk) hx hb hK hP 2 0 (i := kk) (g := fl9) rfl rfl (by omega) (by decide) rfl dX4_front_73 ?_
                refine lv_goto (tgt := 86) hx hb dX4_front_74 (by decide) ?_
                exact hret _ ls _ _ _ (fl9, fd9, fc9) dX4_front_86 (by rw [zA_front, zk_val hpp (by omega), nI_clamp (show pp < 2 ^ 31 by omega), if_neg c_2, hF.1, if_neg (zk_ln c_3), zk_win (by omega) (by decide), if_neg c_6, if_pos nI_0, nI_clamp (show kk < 2 ^ 31 by omega), zr_is_getD hF hkk]) hP hS
              · skip
                refine lv_aload_n hx hb dX4_front_53 rfl (lv_at hl 0 rfl) ?_
                refine va_get (D := D) (ci := 4) (v := .ref f) (C := RX4) (T := TX4) (N := 4) hx hb hts ziX4_front_4 hown hK hP 0 rfl rfl 1 (by decide) f25 (fun _ h9 => h9) rfl dX4_front_54 ?_
                refine va_get (D := D) (ci := 0) (v := .int (nI fc9)) (C := RX0) (T := TX0) (N := 8) hx hb hts ziX4_front_0 hown hK hP 1 rfl rfl 5 (by decide) f88 (fun _ h9 => h9) rfl dX4_front_57 ?_
                exact hret _ ls _ _ _ (fl9, fd9, fc9) dX4_front_60 (by rw [zA_front, zk_val hpp (by omega), nI_clamp (show pp < 2 ^ 31 by omega), if_neg c_2, hF.1, if_neg (zk_ln c_3), zk_win (by omega) (by decide), if_pos c_6]) hP hS
            · subst hv0
              refine lv_iload_n hx hb dX4_front_48 rfl (lv_at hl 2 rfl) ?_
              refine lv_iconst (v := (-1)) hx hb dX4_front_49 (by decide +kernel) ?_
              refine lv_icmp_ne (tgt := 61) hx hb dX4_front_50 (by decide) (fun c_8 => ?_) (fun c_8 => ?_)
              · skip
                obtain ⟨kk, hkk, hke⟩ := zk_kn c_2 c_8 c_3 (by omega)
                subst hke
                have hm := zr_F_mem (zr_is_mem hF hkk)
                refine lv_iload_n hx hb dX4_front_61 rfl (lv_at hl 3 rfl) ?_
                refine zk_if_ne (tgt := 77) hx hb (by omega) dX4_front_62 (by decide) (fun c_9 => ?_) (fun c_9 => absurd c_9 (by omega))
                refine lv_aload_n hx hb dX4_front_77 rfl (lv_at hl 0 rfl) ?_
                refine va_get (D := D) (ci := 4) (v := .ref f) (C := RX4) (T := TX4) (N := 4) hx hb hts ziX4_front_4 hown hK hP 0 rfl rfl 1 (by decide) f25 (fun _ h9 => h9) rfl dX4_front_78 ?_
                refine va_get (D := D) (ci := 0) (v := .ref fb) (C := RX0) (T := TX0) (N := 8) hx hb hts ziX4_front_0 hown hK hP 1 rfl rfl 4 (by decide) f95 (fun _ h9 => h9) rfl dX4_front_81 ?_
                refine lv_iload_n hx hb dX4_front_84 rfl (lv_at hl 2 rfl) ?_
                refine zk_ild (v := fd9 kk) hx hb hK hP 3 0 (i := kk) (g := fd9) rfl rfl (by omega) (by decide) rfl dX4_front_85 ?_
                exact hret _ ls _ _ _ (fl9, fd9, fc9) dX4_front_86 (by rw [zA_front, zk_val hpp (by omega), nI_clamp (show pp < 2 ^ 31 by omega), if_neg c_2, hF.1, if_neg (zk_ln c_3), zk_win (by omega) (by decide), if_neg c_8, if_neg (by decide +kernel), nI_clamp (show kk < 2 ^ 31 by omega), zr_is_getD hF hkk]) hP hS
              · skip
                refine lv_aload_n hx hb dX4_front_53 rfl (lv_at hl 0 rfl) ?_
                refine va_get (D := D) (ci := 4) (v := .ref f) (C := RX4) (T := TX4) (N := 4) hx hb hts ziX4_front_4 hown hK hP 0 rfl rfl 1 (by decide) f25 (fun _ h9 => h9) rfl dX4_front_54 ?_
                refine va_get (D := D) (ci := 0) (v := .int (nI fc9)) (C := RX0) (T := TX0) (N := 8) hx hb hts ziX4_front_0 hown hK hP 1 rfl rfl 5 (by decide) f88 (fun _ h9 => h9) rfl dX4_front_57 ?_
                exact hret _ ls _ _ _ (fl9, fd9, fc9) dX4_front_60 (by rw [zA_front, zk_val hpp (by omega), nI_clamp (show pp < 2 ^ 31 by omega), if_neg c_2, hF.1, if_neg (zk_ln c_3), zk_win (by omega) (by decide), if_pos c_8]) hP hS
          · skip
            refine lv_bipush (v := (-2)) hx hb dX4_front_45 (by decide +kernel) ?_
            exact hret _ ls _ _ _ (fl9, fd9, fc9) dX4_front_47 (by rw [zA_front, zk_val hpp (by omega), nI_clamp (show pp < 2 ^ 31 by omega), if_neg c_2, hF.1, if_neg (zk_ln c_3), zk_wout (n := 1) (Or.inr c_5)]) hP hS
      · skip
        refine lv_iconst (v := (-1)) hx hb dX4_front_34 (by decide +kernel) ?_
        exact hret _ ls _ _ _ (fl9, fd9, fc9) dX4_front_35 (by rw [zA_front, zk_val hpp (by omega), nI_clamp (show pp < 2 ^ 31 by omega), if_neg c_2, hF.1, if_pos (zk_nl c_3)]) hP hS
  · skip
    have hno := zk_wz0 c_1
    refine lv_iconst (v := (-1)) hx hb dX4_front_8 (by decide +kernel) ?_
    exact hret _ ls _ _ _ (fl, fd, fc) dX4_front_9 (by rw [zA_front, zk_inv hno]) hP hS
end
section
def rmX4_pieces : Room := { frames := 7, cells := 0, slots := 0, locals := 158 }
set_option maxRecDepth 20000 in
theorem ziX4_pieces_2 : ∀ w ∈ wsX20, w ∈ wsX4_pieces := by decide +kernel
set_option maxHeartbeats 4000000 in
set_option maxRecDepth 100000 in
/-- pieces -/
theorem c_pieces (l : Launch) (D : va_G) (cI cZ cR : ClassId) (x_ : Nat) (q_ : Nat) (t : Nat) (f : Nat) (k_ : Nat) (rf : Nat → Option Nat) (sp : Nat) (dp : Nat) (fa : Nat) (fb : Nat) (b : Nat) (ka : Nat) (kb : Nat) (kd : Nat) (r : Nat → Nat) (ra : Nat → Nat) (rb : Nat → Nat) (rd : Nat → Nat) (fl : Nat → Nat) (fd : Nat → Nat) (fc : Nat) (le : Nat) (di : Nat) (g : Nat → Nat) (ah : Nat) (sz : Nat) (co : Nat → Nat) (pn : Nat → Nat) (pd : Nat → Nat) (ct : Nat → Nat) (pb : Nat → Nat) (bw : Nat → Nat) (rc : Nat → Nat) (to : Nat → Nat) (la : Nat → Nat) (se : Nat → Nat) (th : Nat → Nat) (pl : Nat → Nat → Nat) (ln : Nat → Nat → Nat) (ds : Nat → Nat → Nat) (w_ : Int32) (h0 : ah ≤ 60) (h1 : sz ≤ 300) (h2 : sp ≤ 300) (h3 : dp ≤ 64) (h4 : ∀ j, g j < 256) (h5 : ∀ i, i < 4 → rf i = some (r i)) (h6 : zr_rows g ah sz sp dp to ct pb bw rc pl ln ds) : zk_Wi l yX4_pieces wsX4_pieces rmX4_pieces D (zk_t cI cZ cR) [.ref x_, .int w_] [(x_, .inr (4, [.ref t, .ref f, .ref k_, .ref q_])), (f, .inr (0, [.ref t, .int (nI sp), .int (nI dp), .ref fa, .ref fb, .int (nI fc), .int (nI le), .int (nI di)])), (fa, zk_a cI 38 fl), (fb, zk_a cI 38 fd), (t, .inr (3, [.ref b, .int (nI ah), .int (nI sz)])), (b, zk_a cI 360 g), (k_, .inr (1, [.ref ka, .ref kb, .ref kd])), (ka, zk_a cI 301 co), (kb, zk_a cI 300 pn), (kd, zk_a cI 300 pd), (q_, .inl (cR, 4, .inr (.inr (.inr (.inr rf))))), (r 0, .inr (2, [.ref (ra 0), .ref (rb 0), .ref (rd 0), .int (nI (ct 0)), .int (nI (pb 0)), .int (nI (bw 0)), .int (nI (rc 0)), .int (nI (to 0)), .int (nI (la 0)), .int (nI (se 0)), .int (nI (th 0))])), (ra 0, zk_a cI 300 (pl 0)), (rb 0, zk_a cI 300 (ln 0)), (rd 0, zk_a cI 300 (ds 0)), (r 1, .inr (2, [.ref (ra 1), .ref (rb 1), .ref (rd 1), .int (nI (ct 1)), .int (nI (pb 1)), .int (nI (bw 1)), .int (nI (rc 1)), .int (nI (to 1)), .int (nI (la 1)), .int (nI (se 1)), .int (nI (th 1))])), (ra 1, zk_a cI 300 (pl 1)), (rb 1, zk_a cI 300 (ln 1)), (rd 1, zk_a cI 300 (ds 1)), (r 2, .inr (2, [.ref (ra 2), .ref (rb 2), .ref (rd 2), .int (nI (ct 2)), .int (nI (pb 2)), .int (nI (bw 2)), .int (nI (rc 2)), .int (nI (to 2)), .int (nI (la 2)), .int (nI (se 2)), .int (nI (th 2))])), (ra 2, zk_a cI 300 (pl 2)), (rb 2, zk_a cI 300 (ln 2)), (rd 2, zk_a cI 300 (ds 2)), (r 3, .inr (2, [.ref (ra 3), .ref (rb 3), .ref (rd 3), .int (nI (ct 3)), .int (nI (pb 3)), .int (nI (bw 3)), .int (nI (rc 3)), .int (nI (to 3)), .int (nI (la 3)), .int (nI (se 3)), .int (nI (th 3))])), (ra 3, zk_a cI 300 (pl 3)), (rb 3, zk_a cI 300 (ln 3)), (rd 3, zk_a cI 300 (ds 3))] (fun (r : Int32) (u : (Nat → Nat) × (Nat → Nat) × Nat × Nat × Nat × (Nat → Nat) × (Nat → Nat) × (Nat → Nat) × (Nat → Nat) × (Nat → Nat) × (Nat → Nat) × (Nat → Nat) × (Nat → Nat) × (Nat → Nat) × (Nat → Nat) × (Nat → Nat) × (Nat → Nat → Nat) × (Nat → Nat → Nat) × (Nat → Nat → Nat)) => match u with | (fl2, fd2, fc2, le2, di2, co2, pn2, pd2, ct2, pb2, bw2, rc2, to2, la2, se2, th2, pl2, ln2, ds2) => r = zA_way w_ (fun j => nI (ct2 j)) ∧ (∀ j, j < 4 → w_ = nI j → to2 j = 1) ∧ zr_rows g ah sz sp dp to2 ct2 pb2 bw2 rc2 pl2 ln2 ds2) (fun u => match u with | (fl2, fd2, fc2, le2, di2, co2, pn2, pd2, ct2, pb2, bw2, rc2, to2, la2, se2, th2, pl2, ln2, ds2) => [(x_, .inr (4, [.ref t, .ref f, .ref k_, .ref q_])), (f, .inr (0, [.ref t, .int (nI sp), .int (nI dp), .ref fa, .ref fb, .int (nI fc2), .int (nI le2), .int (nI di2)])), (fa, zk_a cI 38 fl2), (fb, zk_a cI 38 fd2), (t, .inr (3, [.ref b, .int (nI ah), .int (nI sz)])), (b, zk_a cI 360 g), (k_, .inr (1, [.ref ka, .ref kb, .ref kd])), (ka, zk_a cI 301 co2), (kb, zk_a cI 300 pn2), (kd, zk_a cI 300 pd2), (q_, .inl (cR, 4, .inr (.inr (.inr (.inr rf))))), (r 0, .inr (2, [.ref (ra 0), .ref (rb 0), .ref (rd 0), .int (nI (ct2 0)), .int (nI (pb2 0)), .int (nI (bw2 0)), .int (nI (rc2 0)), .int (nI (to2 0)), .int (nI (la2 0)), .int (nI (se2 0)), .int (nI (th2 0))])), (ra 0, zk_a cI 300 (pl2 0)), (rb 0, zk_a cI 300 (ln2 0)), (rd 0, zk_a cI 300 (ds2 0)), (r 1, .inr (2, [.ref (ra 1), .ref (rb 1), .ref (rd 1), .int (nI (ct2 1)), .int (nI (pb2 1)), .int (nI (bw2 1)), .int (nI (rc2 1)), .int (nI (to2 1)), .int (nI (la2 1)), .int (nI (se2 1)), .int (nI (th2 1))])), (ra 1, zk_a cI 300 (pl2 1)), (rb 1, zk_a cI 300 (ln2 1)), (rd 1, zk_a cI 300 (ds2 1)), (r 2, .inr (2, [.ref (ra 2), .ref (rb 2), .ref (rd 2), .int (nI (ct2 2)), .int (nI (pb2 2)), .int (nI (bw2 2)), .int (nI (rc2 2)), .int (nI (to2 2)), .int (nI (la2 2)), .int (nI (se2 2)), .int (nI (th2 2))])), (ra 2, zk_a cI 300 (pl2 2)), (rb 2, zk_a cI 300 (ln2 2)), (rd 2, zk_a cI 300 (ds2 2)), (r 3, .inr (2, [.ref (ra 3), .ref (rb 3), .ref (rd 3), .int (nI (ct2 3)), .int (nI (pb2 3)), .int (nI (bw2 3)), .int (nI (rc2 3)), .int (nI (to2 3)), .int (nI (la2 3)), .int (nI (se2 3)), .int (nI (th2 3))])), (ra 3, zk_a cI 300 (pl2 3)), (rb 3, zk_a cI 300 (ln2 3)), (rd 3, zk_a cI 300 (ds2 3))]) := by
  refine zk_enterI RX4 cX4_pieces 2 (by decide) rfl rfl (Nat.le_of_ble_eq_true rfl) ?_
  intro p e s m args below meth c ls A Q hx hb hml hown hts hP hK hD hN hl hA hS hret
  have hl : lv_has ls 2 [(0, .ref x_), (1, .int w_)] := hl
  have f105 := hts (.fieldLink RX4 105 "MatchFinders$Row" "count" "I") (by decide +kernel)
  refine lv_iload_n hx hb dX4_pieces_0 rfl (lv_at hl 1 rfl) ?_
  refine zk_rdS (As := [.int w_]) (rest := []) ⟨hx, hb, hml, hown, hts⟩ hN (c_isWay l D cI cZ cR w_) (va_cwS 1 hts gX4_pieces_X4_isWay rfl rfl rfl (by decide +kernel) ⟨Nat.le_of_ble_eq_true rfl, Nat.le_of_ble_eq_true rfl⟩) hK hP (zk_D hD rfl) [] rfl (by decide) rfl hl.1 rfl (Nat.le_of_ble_eq_true rfl) dX4_pieces_1 ⟨Nat.zero_le _, Nat.zero_le _⟩ ?_
  refine lv_if_ne (tgt := 9) hx hb dX4_pieces_4 (by decide) (fun c_1 => ?_) (fun c_1 => ?_)
  · skip
    obtain ⟨j, hj, hje⟩ := zk_wz2 (by decide) c_1
    subst hje
    rcases (show j = 0 ∨ j = 1 ∨ j = 2 ∨ j = 3 by omega) with hw | hw | hw | hw
    · subst hw
      refine lv_aload_n hx hb dX4_pieces_9 rfl (lv_at hl 0 rfl) ?_
      refine lv_iload_n hx hb dX4_pieces_10 rfl (lv_at hl 1 rfl) ?_
      refine zk_wrA (As := [.int (nI 0)]) (rest := []) ⟨hx, hb, hml, hown, hts⟩ hN (c_rowOf l D cI cZ cR x_ q_ f sp dp fa fb fc le di fl fd t b ah sz g k_ ka kb kd co pn pd rf (r 0) (ra 0) (rb 0) (rd 0) (ct 0) (pb 0) (bw 0) (rc 0) (to 0) (la 0) (se 0) (th 0) (pl 0) (ln 0) (ds 0) 0 (by omega) (by omega) (by omega) (by omega) h4 (by decide) (h5 0 (by decide)) (h6 0 (by decide))) (cwV 1 hts gX4_pieces_X4_rowOf rfl rfl rfl (by decide +kernel) ⟨Nat.le_of_ble_eq_true rfl, Nat.le_of_ble_eq_true rfl⟩) hK hP (zk_D hD rfl) hS hA [0, 1, 2, 3, 4, 5, 6, 7, 8, 9, 10, 11, 12, 13, 14] rfl (by decide) (fun _ => rfl) rfl rfl rfl rfl hl.1 rfl (Nat.le_of_ble_eq_true rfl) dX4_pieces_11 ⟨Nat.zero_le _, Nat.zero_le _⟩ (fun u H locs hu hP hS => ?_)
      obtain ⟨co9, pn9, pd9, fl9, fd9, fc9, le9, di9, pl9, ln9, ds9, ct9, pb9, bw9, rc9, la9, se9, th9⟩ := u
      have hu : zr_row 0 g ah sz sp dp ct9 pb9 bw9 rc9 pl9 ln9 ds9 := hu
      have hP : va_P D vwCl [(x_, .inr (4, [.ref t, .ref f, .ref k_, .ref q_])), (f, .inr (0, [.ref t, .int (nI sp), .int (nI dp), .ref fa, .ref fb, .int (nI fc9), .int (nI le9), .int (nI di9)])), (fa, zk_a cI 38 fl9), (fb, zk_a cI 38 fd9), (t, .inr (3, [.ref b, .int (nI ah), .int (nI sz)])), (b, zk_a cI 360 g), (k_, .inr (1, [.ref ka, .ref kb, .ref kd])), (ka, zk_a cI 301 co9), (kb, zk_a cI 300 pn9), (kd, zk_a cI 300 pd9), (q_, .inl (cR, 4, .inr (.inr (.inr (.inr rf))))), (r 0, .inr (2, [.ref (ra 0), .ref (rb 0), .ref (rd 0), .int (nI ct9), .int (nI pb9), .int (nI bw9), .int (nI rc9), .int (nI 1), .int (nI la9), .int (nI se9), .int (nI th9)])), (ra 0, zk_a cI 300 pl9), (rb 0, zk_a cI 300 ln9), (rd 0, zk_a cI 300 ds9), (r 1, .inr (2, [.ref (ra 1), .ref (rb 1), .ref (rd 1), .int (nI (ct 1)), .int (nI (pb 1)), .int (nI (bw 1)), .int (nI (rc 1)), .int (nI (to 1)), .int (nI (la 1)), .int (nI (se 1)), .int (nI (th 1))])), (ra 1, zk_a cI 300 (pl 1)), (rb 1, zk_a cI 300 (ln 1)), (rd 1, zk_a cI 300 (ds 1)), (r 2, .inr (2, [.ref (ra 2), .ref (rb 2), .ref (rd 2), .int (nI (ct 2)), .int (nI (pb 2)), .int (nI (bw 2)), .int (nI (rc 2)), .int (nI (to 2)), .int (nI (la 2)), .int (nI (se 2)), .int (nI (th 2))])), (ra 2, zk_a cI 300 (pl 2)), (rb 2, zk_a cI 300 (ln 2)), (rd 2, zk_a cI 300 (ds 2)), (r 3, .inr (2, [.ref (ra 3), .ref (rb 3), .ref (rd 3), .int (nI (ct 3)), .int (nI (pb 3)), .int (nI (bw 3)), .int (nI (rc 3)), .int (nI (to 3)), .int (nI (la 3)), .int (nI (se 3)), .int (nI (th 3))])), (ra 3, zk_a cI 300 (pl 3)), (rb 3, zk_a cI 300 (ln 3)), (rd 3, zk_a cI 300 (ds 3))] H := hP
      refine va_get (D := D) (ci := 2) (v := .int (nI ct9)) (C := RX2) (T := TX2) (N := 11) hx hb hts ziX4_pieces_2 hown hK hP 11 rfl rfl 3 (by decide) f105 (fun _ h9 => h9) rfl dX4_pieces_14 ?_
      exact hret _ ls _ _ _ (fl9, fd9, fc9, le9, di9, co9, pn9, pd9, zk_up ct 0 ct9, zk_up pb 0 pb9, zk_up bw 0 bw9, zk_up rc 0 rc9, zk_up to 0 1, zk_up la 0 la9, zk_up se 0 se9, zk_up th 0 th9, zk_upF pl 0 pl9, zk_upF ln 0 ln9, zk_upF ds 0 ds9) dX4_pieces_17 ⟨by rw [zA_way, zk_val (n := 4) (by decide) (by decide)]; rfl, fun j hj he => by rw [(nI_eq (by omega) (by decide)).mp he.symm]; exact zk_up_eq _ _ _, zr_rows_up h6 hu⟩ hP hS
    · subst hw
      refine lv_aload_n hx hb dX4_pieces_9 rfl (lv_at hl 0 rfl) ?_
      refine lv_iload_n hx hb dX4_pieces_10 rfl (lv_at hl 1 rfl) ?_
      refine zk_wrA (As := [.int (nI 1)]) (rest := []) ⟨hx, hb, hml, hown, hts⟩ hN (c_rowOf l D cI cZ cR x_ q_ f sp dp fa fb fc le di fl fd t b ah sz g k_ ka kb kd co pn pd rf (r 1) (ra 1) (rb 1) (rd 1) (ct 1) (pb 1) (bw 1) (rc 1) (to 1) (la 1) (se 1) (th 1) (pl 1) (ln 1) (ds 1) 1 (by omega) (by omega) (by omega) (by omega) h4 (by decide) (h5 1 (by decide)) (h6 1 (by decide))) (cwV 1 hts gX4_pieces_X4_rowOf rfl rfl rfl (by decide +kernel) ⟨Nat.le_of_ble_eq_true rfl, Nat.le_of_ble_eq_true rfl⟩) hK hP (zk_D hD rfl) hS hA [0, 1, 2, 3, 4, 5, 6, 7, 8, 9, 10, 15, 16, 17, 18] rfl (by decide) (fun _ => rfl) rfl rfl rfl rfl hl.1 rfl (Nat.le_of_ble_eq_true rfl) dX4_pieces_11 ⟨Nat.zero_le _, Nat.zero_le _⟩ (fun u H locs hu hP hS => ?_)
      obtain ⟨co9, pn9, pd9, fl9, fd9, fc9, le9, di9, pl9, ln9, ds9, ct9, pb9, bw9, rc9, la9, se9, th9⟩ := u
      have hu : zr_row 1 g ah sz sp dp ct9 pb9 bw9 rc9 pl9 ln9 ds9 := hu
      have hP : va_P D vwCl [(x_, .inr (4, [.ref t, .ref f, .ref k_, .ref q_])), (f, .inr (0, [.ref t, .int (nI sp), .int (nI dp), .ref fa, .ref fb, .int (nI fc9), .int (nI le9), .int (nI di9)])), (fa, zk_a cI 38 fl9), (fb, zk_a cI 38 fd9), (t, .inr (3, [.ref b, .int (nI ah), .int (nI sz)])), (b, zk_a cI 360 g), (k_, .inr (1, [.ref ka, .ref kb, .ref kd])), (ka, zk_a cI 301 co9), (kb, zk_a cI 300 pn9), (kd, zk_a cI 300 pd9), (q_, .inl (cR, 4, .inr (.inr (.inr (.inr rf))))), (r 0, .inr (2, [.ref (ra 0), .ref (rb 0), .ref (rd 0), .int (nI (ct 0)), .int (nI (pb 0)), .int (nI (bw 0)), .int (nI (rc 0)), .int (nI (to 0)), .int (nI (la 0)), .int (nI (se 0)), .int (nI (th 0))])), (ra 0, zk_a cI 300 (pl 0)), (rb 0, zk_a cI 300 (ln 0)), (rd 0, zk_a cI 300 (ds 0)), (r 1, .inr (2, [.ref (ra 1), .ref (rb 1), .ref (rd 1), .int (nI ct9), .int (nI pb9), .int (nI bw9), .int (nI rc9), .int (nI 1), .int (nI la9), .int (nI se9), .int (nI th9)])), (ra 1, zk_a cI 300 pl9), (rb 1, zk_a cI 300 ln9), (rd 1, zk_a cI 300 ds9), (r 2, .inr (2, [.ref (ra 2), .ref (rb 2), .ref (rd 2), .int (nI (ct 2)), .int (nI (pb 2)), .int (nI (bw 2)), .int (nI (rc 2)), .int (nI (to 2)), .int (nI (la 2)), .int (nI (se 2)), .int (nI (th 2))])), (ra 2, zk_a cI 300 (pl 2)), (rb 2, zk_a cI 300 (ln 2)), (rd 2, zk_a cI 300 (ds 2)), (r 3, .inr (2, [.ref (ra 3), .ref (rb 3), .ref (rd 3), .int (nI (ct 3)), .int (nI (pb 3)), .int (nI (bw 3)), .int (nI (rc 3)), .int (nI (to 3)), .int (nI (la 3)), .int (nI (se 3)), .int (nI (th 3))])), (ra 3, zk_a cI 300 (pl 3)), (rb 3, zk_a cI 300 (ln 3)), (rd 3, zk_a cI 300 (ds 3))] H := hP
      refine va_get (D := D) (ci := 2) (v := .int (nI ct9)) (C := RX2) (T := TX2) (N := 11) hx hb hts ziX4_pieces_2 hown hK hP 15 rfl rfl 3 (by decide) f105 (fun _ h9 => h9) rfl dX4_pieces_14 ?_
      exact hret _ ls _ _ _ (fl9, fd9, fc9, le9, di9, co9, pn9, pd9, zk_up ct 1 ct9, zk_up pb 1 pb9, zk_up bw 1 bw9, zk_up rc 1 rc9, zk_up to 1 1, zk_up la 1 la9, zk_up se 1 se9, zk_up th 1 th9, zk_upF pl 1 pl9, zk_upF ln 1 ln9, zk_upF ds 1 ds9) dX4_pieces_17 ⟨by rw [zA_way, zk_val (n := 4) (by decide) (by decide)]; rfl, fun j hj he => by rw [(nI_eq (by omega) (by decide)).mp he.symm]; exact zk_up_eq _ _ _, zr_rows_up h6 hu⟩ hP hS
    · subst hw
      refine lv_aload_n hx hb dX4_pieces_9 rfl (lv_at hl 0 rfl) ?_
      refine lv_iload_n hx hb dX4_pieces_10 rfl (lv_at hl 1 rfl) ?_
      refine zk_wrA (As := [.int (nI 2)]) (rest := []) ⟨hx, hb, hml, hown, hts⟩ hN (c_rowOf l D cI cZ cR x_ q_ f sp dp fa fb fc le di fl fd t b ah sz g k_ ka kb kd co pn pd rf (r 2) (ra 2) (rb 2) (rd 2) (ct 2) (pb 2) (bw 2) (rc 2) (to 2) (la 2) (se 2) (th 2) (pl 2) (ln 2) (ds 2) 2 (by omega) (by omega) (by omega) (by omega) h4 (by decide) (h5 2 (by decide)) (h6 2 (by decide))) (cwV 1 hts gX4_pieces_X4_rowOf rfl rfl rfl (by decide +kernel) ⟨Nat.le_of_ble_eq_true rfl, Nat.le_of_ble_eq_true rfl⟩) hK hP (zk_D hD rfl) hS hA [0, 1, 2, 3, 4, 5, 6, 7, 8, 9, 10, 19, 20, 21, 22] rfl (by decide) (fun _ => rfl) rfl rfl rfl rfl hl.1 rfl (Nat.le_of_ble_eq_true rfl) dX4_pieces_11 ⟨Nat.zero_le _, Nat.zero_le _⟩ (fun u H locs hu hP hS => ?_)
      obtain ⟨co9, pn9, pd9, fl9, fd9, fc9, le9, di9, pl9, ln9, ds9, ct9, pb9, bw9, rc9, la9, se9, th9⟩ := u
      have hu : zr_row 2 g ah sz sp dp ct9 pb9 bw9 rc9 pl9 ln9 ds9 := hu
      have hP : va_P D vwCl [(x_, .inr (4, [.ref t, .ref f, .ref k_, .ref q_])), (f, .inr (0, [.ref t, .int (nI sp), .int (nI dp), .ref fa, .ref fb, .int (nI fc9), .int (nI le9), .int (nI di9)])), (fa, zk_a cI 38 fl9), (fb, zk_a cI 38 fd9), (t, .inr (3, [.ref b, .int (nI ah), .int (nI sz)])), (b, zk_a cI 360 g), (k_, .inr (1, [.ref ka, .ref kb, .ref kd])), (ka, zk_a cI 301 co9), (kb, zk_a cI 300 pn9), (kd, zk_a cI 300 pd9), (q_, .inl (cR, 4, .inr (.inr (.inr (.inr rf))))), (r 0, .inr (2, [.ref (ra 0), .ref (rb 0), .ref (rd 0), .int (nI (ct 0)), .int (nI (pb 0)), .int (nI (bw 0)), .int (nI (rc 0)), .int (nI (to 0)), .int (nI (la 0)), .int (nI (se 0)), .int (nI (th 0))])), (ra 0, zk_a cI 300 (pl 0)), (rb 0, zk_a cI 300 (ln 0)), (rd 0, zk_a cI 300 (ds 0)), (r 1, .inr (2, [.ref (ra 1), .ref (rb 1), .ref (rd 1), .int (nI (ct 1)), .int (nI (pb 1)), .int (nI (bw 1)), .int (nI (rc 1)), .int (nI (to 1)), .int (nI (la 1)), .int (nI (se 1)), .int (nI (th 1))])), (ra 1, zk_a cI 300 (pl 1)), (rb 1, zk_a cI 300 (ln 1)), (rd 1, zk_a cI 300 (ds 1)), (r 2, .inr (2, [.ref (ra 2), .ref (rb 2), .ref (rd 2), .int (nI ct9), .int (nI pb9), .int (nI bw9), .int (nI rc9), .int (nI 1), .int (nI la9), .int (nI se9), .int (nI th9)])), (ra 2, zk_a cI 300 pl9), (rb 2, zk_a cI 300 ln9), (rd 2, zk_a cI 300 ds9), (r 3, .inr (2, [.ref (ra 3), .ref (rb 3), .ref (rd 3), .int (nI (ct 3)), .int (nI (pb 3)), .int (nI (bw 3)), .int (nI (rc 3)), .int (nI (to 3)), .int (nI (la 3)), .int (nI (se 3)), .int (nI (th 3))])), (ra 3, zk_a cI 300 (pl 3)), (rb 3, zk_a cI 300 (ln 3)), (rd 3, zk_a cI 300 (ds 3))] H := hP
      refine va_get (D := D) (ci := 2) (v := .int (nI ct9)) (C := RX2) (T := TX2) (N := 11) hx hb hts ziX4_pieces_2 hown hK hP 19 rfl rfl 3 (by decide) f105 (fun _ h9 => h9) rfl dX4_pieces_14 ?_
      exact hret _ ls _ _ _ (fl9, fd9, fc9, le9, di9, co9, pn9, pd9, zk_up ct 2 ct9, zk_up pb 2 pb9, zk_up bw 2 bw9, zk_up rc 2 rc9, zk_up to 2 1, zk_up la 2 la9, zk_up se 2 se9, zk_up th 2 th9, zk_upF pl 2 pl9, zk_upF ln 2 ln9, zk_upF ds 2 ds9) dX4_pieces_17 ⟨by rw [zA_way, zk_val (n := 4) (by decide) (by decide)]; rfl, fun j hj he => by rw [(nI_eq (by omega) (by decide)).mp he.symm]; exact zk_up_eq _ _ _, zr_rows_up h6 hu⟩ hP hS
    · subst hw
      refine lv_aload_n hx hb dX4_pieces_9 rfl (lv_at hl 0 rfl) ?_
      refine lv_iload_n hx hb dX4_pieces_10 rfl (lv_at hl 1 rfl) ?_
      refine zk_wrA (As := [.int (nI 3)]) (rest := []) ⟨hx, hb, hml, hown, hts⟩ hN (c_rowOf l D cI cZ cR x_ q_ f sp dp fa fb fc le di fl fd t b ah sz g k_ ka kb kd co pn pd rf (r 3) (ra 3) (rb 3) (rd 3) (ct 3) (pb 3) (bw 3) (rc 3) (to 3) (la 3) (se 3) (th 3) (pl 3) (ln 3) (ds 3) 3 (by omega) (by omega) (by omega) (by omega) h4 (by decide) (h5 3 (by decide)) (h6 3 (by decide))) (cwV 1 hts gX4_pieces_X4_rowOf rfl rfl rfl (by decide +kernel) ⟨Nat.le_of_ble_eq_true rfl, Nat.le_of_ble_eq_true rfl⟩) hK hP (zk_D hD rfl) hS hA [0, 1, 2, 3, 4, 5, 6, 7, 8, 9, 10, 23, 24, 25, 26] rfl (by decide) (fun _ => rfl) rfl rfl rfl rfl hl.1 rfl (Nat.le_of_ble_eq_true rfl) dX4_pieces_11 ⟨Nat.zero_le _, Nat.zero_le _⟩ (fun u H locs hu hP hS => ?_)
      obtain ⟨co9, pn9, pd9, fl9, fd9, fc9, le9, di9, pl9, ln9, ds9, ct9, pb9, bw9, rc9, la9, se9, th9⟩ := u
      have hu : zr_row 3 g ah sz sp dp ct9 pb9 bw9 rc9 pl9 ln9 ds9 := hu
      have hP : va_P D vwCl [(x_, .inr (4, [.ref t, .ref f, .ref k_, .ref q_])), (f, .inr (0, [.ref t, .int (nI sp), .int (nI dp), .ref fa, .ref fb, .int (nI fc9), .int (nI le9), .int (nI di9)])), (fa, zk_a cI 38 fl9), (fb, zk_a cI 38 fd9), (t, .inr (3, [.ref b, .int (nI ah), .int (nI sz)])), (b, zk_a cI 360 g), (k_, .inr (1, [.ref ka, .ref kb, .ref kd])), (ka, zk_a cI 301 co9), (kb, zk_a cI 300 pn9), (kd, zk_a cI 300 pd9), (q_, .inl (cR, 4, .inr (.inr (.inr (.inr rf))))), (r 0, .inr (2, [.ref (ra 0), .ref (rb 0), .ref (rd 0), .int (nI (ct 0)), .int (nI (pb 0)), .int (nI (bw 0)), .int (nI (rc 0)), .int (nI (to 0)), .int (nI (la 0)), .int (nI (se 0)), .int (nI (th 0))])), (ra 0, zk_a cI 300 (pl 0)), (rb 0, zk_a cI 300 (ln 0)), (rd 0, zk_a cI 300 (ds 0)), (r 1, .inr (2, [.ref (ra 1), .ref (rb 1), .ref (rd 1), .int (nI (ct 1)), .int (nI (pb 1)), .int (nI (bw 1)), .int (nI (rc 1)), .int (nI (to 1)), .int (nI (la 1)), .int (nI (se 1)), .int (nI (th 1))])), (ra 1, zk_a cI 300 (pl 1)), (rb 1, zk_a cI 300 (ln 1)), (rd 1, zk_a cI 300 (ds 1)), (r 2, .inr (2, [.ref (ra 2), .ref (rb 2), .ref (rd 2), .int (nI (ct 2)), .int (nI (pb 2)), .int (nI (bw 2)), .int (nI (rc 2)), .int (nI (to 2)), .int (nI (la 2)), .int (nI (se 2)), .int (nI (th 2))])), (ra 2, zk_a cI 300 (pl 2)), (rb 2, zk_a cI 300 (ln 2)), (rd 2, zk_a cI 300 (ds 2)), (r 3, .inr (2, [.ref (ra 3), .ref (rb 3), .ref (rd 3), .int (nI ct9), .int (nI pb9), .int (nI bw9), .int (nI rc9), .int (nI 1), .int (nI la9), .int (nI se9), .int (nI th9)])), (ra 3, zk_a cI 300 pl9), (rb 3, zk_a cI 300 ln9), (rd 3, zk_a cI 300 ds9)] H := hP
      refine va_get (D := D) (ci := 2) (v := .int (nI ct9)) (C := RX2) (T := TX2) (N := 11) hx hb hts ziX4_pieces_2 hown hK hP 23 rfl rfl 3 (by decide) f105 (fun _ h9 => h9) rfl dX4_pieces_14 ?_
      exact hret _ ls _ _ _ (fl9, fd9, fc9, le9, di9, co9, pn9, pd9, zk_up ct 3 ct9, zk_up pb 3 pb9, zk_up bw 3 bw9, zk_up rc 3 rc9, zk_up to 3 1, zk_up la 3 la9, zk_up se 3 se9, zk_up th 3 th9, zk_upF pl 3 pl9, zk_upF ln 3 ln9, zk_upF ds 3 ds9) dX4_pieces_17 ⟨by rw [zA_way, zk_val (n := 4) (by decide) (by decide)]; rfl, fun j hj he => by rw [(nI_eq (by omega) (by decide)).mp he.symm]; exact zk_up_eq _ _ _, zr_rows_up h6 hu⟩ hP hS
  · skip
    have hno := zk_wz0 c_1
    refine lv_iconst (v := (-1)) hx hb dX4_pieces_7 (by decide +kernel) ?_
    exact hret _ ls _ _ _ (fl, fd, fc, le, di, co, pn, pd, ct, pb, bw, rc, to, la, se, th, pl, ln, ds) dX4_pieces_8 ⟨by rw [zA_way, zk_inv hno], fun j hj he => absurd hno (zk_wno hj he), h6⟩ hP hS
def rmX4_repeats : Room := { frames := 7, cells := 0, slots := 0, locals := 158 }
set_option maxRecDepth 20000 in
theorem ziX4_repeats_2 : ∀ w ∈ wsX20, w ∈ wsX4_repeats := by decide +kernel
set_option maxHeartbeats 4000000 in
set_option maxRecDepth 100000 in
/-- repeats -/
theorem c_repeats (l : Launch) (D : va_G) (cI cZ cR : ClassId) (x_ : Nat) (q_ : Nat) (t : Nat) (f : Nat) (k_ : Nat) (rf : Nat → Option Nat) (sp : Nat) (dp : Nat) (fa : Nat) (fb : Nat) (b : Nat) (ka : Nat) (kb : Nat) (kd : Nat) (r : Nat → Nat) (ra : Nat → Nat) (rb : Nat → Nat) (rd : Nat → Nat) (fl : Nat → Nat) (fd : Nat → Nat) (fc : Nat) (le : Nat) (di : Nat) (g : Nat → Nat) (ah : Nat) (sz : Nat) (co : Nat → Nat) (pn : Nat → Nat) (pd : Nat → Nat) (ct : Nat → Nat) (pb : Nat → Nat) (bw : Nat → Nat) (rc : Nat → Nat) (to : Nat → Nat) (la : Nat → Nat) (se : Nat → Nat) (th : Nat → Nat) (pl : Nat → Nat → Nat) (ln : Nat → Nat → Nat) (ds : Nat → Nat → Nat) (w_ : Int32) (h0 : ah ≤ 60) (h1 : sz ≤ 300) (h2 : sp ≤ 300) (h3 : dp ≤ 64) (h4 : ∀ j, g j < 256) (h5 : ∀ i, i < 4 → rf i = some (r i)) (h6 : zr_rows g ah sz sp dp to ct pb bw rc pl ln ds) : zk_Wi l yX4_repeats wsX4_repeats rmX4_repeats D (zk_t cI cZ cR) [.ref x_, .int w_] [(x_, .inr (4, [.ref t, .ref f, .ref k_, .ref q_])), (f, .inr (0, [.ref t, .int (nI sp), .int (nI dp), .ref fa, .ref fb, .int (nI fc), .int (nI le), .int (nI di)])), (fa, zk_a cI 38 fl), (fb, zk_a cI 38 fd), (t, .inr (3, [.ref b, .int (nI ah), .int (nI sz)])), (b, zk_a cI 360 g), (k_, .inr (1, [.ref ka, .ref kb, .ref kd])), (ka, zk_a cI 301 co), (kb, zk_a cI 300 pn), (kd, zk_a cI 300 pd), (q_, .inl (cR, 4, .inr (.inr (.inr (.inr rf))))), (r 0, .inr (2, [.ref (ra 0), .ref (rb 0), .ref (rd 0), .int (nI (ct 0)), .int (nI (pb 0)), .int (nI (bw 0)), .int (nI (rc 0)), .int (nI (to 0)), .int (nI (la 0)), .int (nI (se 0)), .int (nI (th 0))])), (ra 0, zk_a cI 300 (pl 0)), (rb 0, zk_a cI 300 (ln 0)), (rd 0, zk_a cI 300 (ds 0)), (r 1, .inr (2, [.ref (ra 1), .ref (rb 1), .ref (rd 1), .int (nI (ct 1)), .int (nI (pb 1)), .int (nI (bw 1)), .int (nI (rc 1)), .int (nI (to 1)), .int (nI (la 1)), .int (nI (se 1)), .int (nI (th 1))])), (ra 1, zk_a cI 300 (pl 1)), (rb 1, zk_a cI 300 (ln 1)), (rd 1, zk_a cI 300 (ds 1)), (r 2, .inr (2, [.ref (ra 2), .ref (rb 2), .ref (rd 2), .int (nI (ct 2)), .int (nI (pb 2)), .int (nI (bw 2)), .int (nI (rc 2)), .int (nI (to 2)), .int (nI (la 2)), .int (nI (se 2)), .int (nI (th 2))])), (ra 2, zk_a cI 300 (pl 2)), (rb 2, zk_a cI 300 (ln 2)), (rd 2, zk_a cI 300 (ds 2)), (r 3, .inr (2, [.ref (ra 3), .ref (rb 3), .ref (rd 3), .int (nI (ct 3)), .int (nI (pb 3)), .int (nI (bw 3)), .int (nI (rc 3)), .int (nI (to 3)), .int (nI (la 3)), .int (nI (se 3)), .int (nI (th 3))])), (ra 3, zk_a cI 300 (pl 3)), (rb 3, zk_a cI 300 (ln 3)), (rd 3, zk_a cI 300 (ds 3))] (fun (r : Int32) (u : (Nat → Nat) × (Nat → Nat) × Nat × Nat × Nat × (Nat → Nat) × (Nat → Nat) × (Nat → Nat) × (Nat → Nat) × (Nat → Nat) × (Nat → Nat) × (Nat → Nat) × (Nat → Nat) × (Nat → Nat) × (Nat → Nat) × (Nat → Nat) × (Nat → Nat → Nat) × (Nat → Nat → Nat) × (Nat → Nat → Nat)) => match u with | (fl2, fd2, fc2, le2, di2, co2, pn2, pd2, ct2, pb2, bw2, rc2, to2, la2, se2, th2, pl2, ln2, ds2) => r = zA_way w_ (fun j => nI (rc2 j)) ∧ (∀ j, j < 4 → w_ = nI j → to2 j = 1) ∧ zr_rows g ah sz sp dp to2 ct2 pb2 bw2 rc2 pl2 ln2 ds2) (fun u => match u with | (fl2, fd2, fc2, le2, di2, co2, pn2, pd2, ct2, pb2, bw2, rc2, to2, la2, se2, th2, pl2, ln2, ds2) => [(x_, .inr (4, [.ref t, .ref f, .ref k_, .ref q_])), (f, .inr (0, [.ref t, .int (nI sp), .int (nI dp), .ref fa, .ref fb, .int (nI fc2), .int (nI le2), .int (nI di2)])), (fa, zk_a cI 38 fl2), (fb, zk_a cI 38 fd2), (t, .inr (3, [.ref b, .int (nI ah), .int (nI sz)])), (b, zk_a cI 360 g), (k_, .inr (1, [.ref ka, .ref kb, .ref kd])), (ka, zk_a cI 301 co2), (kb, zk_a cI 300 pn2), (kd, zk_a cI 300 pd2), (q_, .inl (cR, 4, .inr (.inr (.inr (.inr rf))))), (r 0, .inr (2, [.ref (ra 0), .ref (rb 0), .ref (rd 0), .int (nI (ct2 0)), .int (nI (pb2 0)), .int (nI (bw2 0)), .int (nI (rc2 0)), .int (nI (to2 0)), .int (nI (la2 0)), .int (nI (se2 0)), .int (nI (th2 0))])), (ra 0, zk_a cI 300 (pl2 0)), (rb 0, zk_a cI 300 (ln2 0)), (rd 0, zk_a cI 300 (ds2 0)), (r 1, .inr (2, [.ref (ra 1), .ref (rb 1), .ref (rd 1), .int (nI (ct2 1)), .int (nI (pb2 1)), .int (nI (bw2 1)), .int (nI (rc2 1)), .int (nI (to2 1)), .int (nI (la2 1)), .int (nI (se2 1)), .int (nI (th2 1))])), (ra 1, zk_a cI 300 (pl2 1)), (rb 1, zk_a cI 300 (ln2 1)), (rd 1, zk_a cI 300 (ds2 1)), (r 2, .inr (2, [.ref (ra 2), .ref (rb 2), .ref (rd 2), .int (nI (ct2 2)), .int (nI (pb2 2)), .int (nI (bw2 2)), .int (nI (rc2 2)), .int (nI (to2 2)), .int (nI (la2 2)), .int (nI (se2 2)), .int (nI (th2 2))])), (ra 2, zk_a cI 300 (pl2 2)), (rb 2, zk_a cI 300 (ln2 2)), (rd 2, zk_a cI 300 (ds2 2)), (r 3, .inr (2, [.ref (ra 3), .ref (rb 3), .ref (rd 3), .int (nI (ct2 3)), .int (nI (pb2 3)), .int (nI (bw2 3)), .int (nI (rc2 3)), .int (nI (to2 3)), .int (nI (la2 3)), .int (nI (se2 3)), .int (nI (th2 3))])), (ra 3, zk_a cI 300 (pl2 3)), (rb 3, zk_a cI 300 (ln2 3)), (rd 3, zk_a cI 300 (ds2 3))]) := by
  refine zk_enterI RX4 cX4_repeats 2 (by decide) rfl rfl (Nat.le_of_ble_eq_true rfl) ?_
  intro p e s m args below meth c ls A Q hx hb hml hown hts hP hK hD hN hl hA hS hret
  have hl : lv_has ls 2 [(0, .ref x_), (1, .int w_)] := hl
  have f123 := hts (.fieldLink RX4 123 "MatchFinders$Row" "repeatCount" "I") (by decide +kernel)
  refine lv_iload_n hx hb dX4_repeats_0 rfl (lv_at hl 1 rfl) ?_
  refine zk_rdS (As := [.int w_]) (rest := []) ⟨hx, hb, hml, hown, hts⟩ hN (c_isWay l D cI cZ cR w_) (va_cwS 1 hts gX4_repeats_X4_isWay rfl rfl rfl (by decide +kernel) ⟨Nat.le_of_ble_eq_true rfl, Nat.le_of_ble_eq_true rfl⟩) hK hP (zk_D hD rfl) [] rfl (by decide) rfl hl.1 rfl (Nat.le_of_ble_eq_true rfl) dX4_repeats_1 ⟨Nat.zero_le _, Nat.zero_le _⟩ ?_
  refine lv_if_ne (tgt := 9) hx hb dX4_repeats_4 (by decide) (fun c_1 => ?_) (fun c_1 => ?_)
  · skip
    obtain ⟨j, hj, hje⟩ := zk_wz2 (by decide) c_1
    subst hje
    rcases (show j = 0 ∨ j = 1 ∨ j = 2 ∨ j = 3 by omega) with hw | hw | hw | hw
    · subst hw
      refine lv_aload_n hx hb dX4_repeats_9 rfl (lv_at hl 0 rfl) ?_
      refine lv_iload_n hx hb dX4_repeats_10 rfl (lv_at hl 1 rfl) ?_
      refine zk_wrA (As := [.int (nI 0)]) (rest := []) ⟨hx, hb, hml, hown, hts⟩ hN (c_rowOf l D cI cZ cR x_ q_ f sp dp fa fb fc le di fl fd t b ah sz g k_ ka kb kd co pn pd rf (r 0) (ra 0) (rb 0) (rd 0) (ct 0) (pb 0) (bw 0) (rc 0) (to 0) (la 0) (se 0) (th 0) (pl 0) (ln 0) (ds 0) 0 (by omega) (by omega) (by omega) (by omega) h4 (by decide) (h5 0 (by decide)) (h6 0 (by decide))) (cwV 1 hts gX4_repeats_X4_rowOf rfl rfl rfl (by decide +kernel) ⟨Nat.le_of_ble_eq_true rfl, Nat.le_of_ble_eq_true rfl⟩) hK hP (zk_D hD rfl) hS hA [0, 1, 2, 3, 4, 5, 6, 7, 8, 9, 10, 11, 12, 13, 14] rfl (by decide) (fun _ => rfl) rfl rfl rfl rfl hl.1 rfl (Nat.le_of_ble_eq_true rfl) dX4_repeats_11 ⟨Nat.zero_le _, Nat.zero_le _⟩ (fun u H locs hu hP hS => ?_)
      obtain ⟨co9, pn9, pd9, fl9, fd9, fc9, le9, di9, pl9, ln9, ds9, ct9, pb9, bw9, rc9, la9, se9, th9⟩ := u
      have hu : zr_row 0 g ah sz sp dp ct9 pb9 bw9 rc9 pl9 ln9 ds9 := hu
      have hP : va_P D vwCl [(x_, .inr (4, [.ref t, .ref f, .ref k_, .ref q_])), (f, .inr (0, [.ref t, .int (nI sp), .int (nI dp), .ref fa, .ref fb, .int (nI fc9), .int (nI le9), .int (nI di9)])), (fa, zk_a cI 38 fl9), (fb, zk_a cI 38 fd9), (t, .inr (3, [.ref b, .int (nI ah), .int (nI sz)])), (b, zk_a cI 360 g), (k_, .inr (1, [.ref ka, .ref kb, .ref kd])), (ka, zk_a cI 301 co9), (kb, zk_a cI 300 pn9), (kd, zk_a cI 300 pd9), (q_, .inl (cR, 4, .inr (.inr (.inr (.inr rf))))), (r 0, .inr (2, [.ref (ra 0), .ref (rb 0), .ref (rd 0), .int (nI ct9), .int (nI pb9), .int (nI bw9), .int (nI rc9), .int (nI 1), .int (nI la9), .int (nI se9), .int (nI th9)])), (ra 0, zk_a cI 300 pl9), (rb 0, zk_a cI 300 ln9), (rd 0, zk_a cI 300 ds9), (r 1, .inr (2, [.ref (ra 1), .ref (rb 1), .ref (rd 1), .int (nI (ct 1)), .int (nI (pb 1)), .int (nI (bw 1)), .int (nI (rc 1)), .int (nI (to 1)), .int (nI (la 1)), .int (nI (se 1)), .int (nI (th 1))])), (ra 1, zk_a cI 300 (pl 1)), (rb 1, zk_a cI 300 (ln 1)), (rd 1, zk_a cI 300 (ds 1)), (r 2, .inr (2, [.ref (ra 2), .ref (rb 2), .ref (rd 2), .int (nI (ct 2)), .int (nI (pb 2)), .int (nI (bw 2)), .int (nI (rc 2)), .int (nI (to 2)), .int (nI (la 2)), .int (nI (se 2)), .int (nI (th 2))])), (ra 2, zk_a cI 300 (pl 2)), (rb 2, zk_a cI 300 (ln 2)), (rd 2, zk_a cI 300 (ds 2)), (r 3, .inr (2, [.ref (ra 3), .ref (rb 3), .ref (rd 3), .int (nI (ct 3)), .int (nI (pb 3)), .int (nI (bw 3)), .int (nI (rc 3)), .int (nI (to 3)), .int (nI (la 3)), .int (nI (se 3)), .int (nI (th 3))])), (ra 3, zk_a cI 300 (pl 3)), (rb 3, zk_a cI 300 (ln 3)), (rd 3, zk_a cI 300 (ds 3))] H := hP
      refine va_get (D := D) (ci := 2) (v := .int (nI rc9)) (C := RX2) (T := TX2) (N := 11) hx hb hts ziX4_repeats_2 hown hK hP 11 rfl rfl 6 (by decide) f123 (fun _ h9 => h9) rfl dX4_repeats_14 ?_
      exact hret _ ls _ _ _ (fl9, fd9, fc9, le9, di9, co9, pn9, pd9, zk_up ct 0 ct9, zk_up pb 0 pb9, zk_up bw 0 bw9, zk_up rc 0 rc9, zk_up to 0 1, zk_up la 0 la9, zk_up se 0 se9, zk_up th 0 th9, zk_upF pl 0 pl9, zk_upF ln 0 ln9, zk_upF ds 0 ds9) dX4_repeats_17 ⟨by rw [zA_way, zk_val (n := 4) (by decide) (by decide)]; rfl, fun j hj he => by rw [(nI_eq (by omega) (by decide)).mp he.symm]; exact zk_up_eq _ _ _, zr_rows_up h6 hu⟩ hP hS
    · subst hw
      refine lv_aload_n hx hb dX4_repeats_9 rfl (lv_at hl 0 rfl) ?_
      refine lv_iload_n hx hb dX4_repeats_10 rfl (lv_at hl 1 rfl) ?_
      refine zk_wrA (As := [.int (nI 1)]) (rest := []) ⟨hx, hb, hml, hown, hts⟩ hN (c_rowOf l D cI cZ cR x_ q_ f sp dp fa fb fc le di fl fd t b ah sz g k_ ka kb kd co pn pd rf (r 1) (ra 1) (rb 1) (rd 1) (ct 1) (pb 1) (bw 1) (rc 1) (to 1) (la 1) (se 1) (th 1) (pl 1) (ln 1) (ds 1) 1 (by omega) (by omega) (by omega) (by omega) h4 (by decide) (h5 1 (by decide)) (h6 1 (by decide))) (cwV 1 hts gX4_repeats_X4_rowOf rfl rfl rfl (by decide +kernel) ⟨Nat.le_of_ble_eq_true rfl, Nat.le_of_ble_eq_true rfl⟩) hK hP (zk_D hD rfl) hS hA [0, 1, 2, 3, 4, 5, 6, 7, 8, 9, 10, 15, 16, 17, 18] rfl (by decide) (fun _ => rfl) rfl rfl rfl rfl hl.1 rfl (Nat.le_of_ble_eq_true rfl) dX4_repeats_11 ⟨Nat.zero_le _, Nat.zero_le _⟩ (fun u H locs hu hP hS => ?_)
      obtain ⟨co9, pn9, pd9, fl9, fd9, fc9, le9, di9, pl9, ln9, ds9, ct9, pb9, bw9, rc9, la9, se9, th9⟩ := u
      have hu : zr_row 1 g ah sz sp dp ct9 pb9 bw9 rc9 pl9 ln9 ds9 := hu
      have hP : va_P D vwCl [(x_, .inr (4, [.ref t, .ref f, .ref k_, .ref q_])), (f, .inr (0, [.ref t, .int (nI sp), .int (nI dp), .ref fa, .ref fb, .int (nI fc9), .int (nI le9), .int (nI di9)])), (fa, zk_a cI 38 fl9), (fb, zk_a cI 38 fd9), (t, .inr (3, [.ref b, .int (nI ah), .int (nI sz)])), (b, zk_a cI 360 g), (k_, .inr (1, [.ref ka, .ref kb, .ref kd])), (ka, zk_a cI 301 co9), (kb, zk_a cI 300 pn9), (kd, zk_a cI 300 pd9), (q_, .inl (cR, 4, .inr (.inr (.inr (.inr rf))))), (r 0, .inr (2, [.ref (ra 0), .ref (rb 0), .ref (rd 0), .int (nI (ct 0)), .int (nI (pb 0)), .int (nI (bw 0)), .int (nI (rc 0)), .int (nI (to 0)), .int (nI (la 0)), .int (nI (se 0)), .int (nI (th 0))])), (ra 0, zk_a cI 300 (pl 0)), (rb 0, zk_a cI 300 (ln 0)), (rd 0, zk_a cI 300 (ds 0)), (r 1, .inr (2, [.ref (ra 1), .ref (rb 1), .ref (rd 1), .int (nI ct9), .int (nI pb9), .int (nI bw9), .int (nI rc9), .int (nI 1), .int (nI la9), .int (nI se9), .int (nI th9)])), (ra 1, zk_a cI 300 pl9), (rb 1, zk_a cI 300 ln9), (rd 1, zk_a cI 300 ds9), (r 2, .inr (2, [.ref (ra 2), .ref (rb 2), .ref (rd 2), .int (nI (ct 2)), .int (nI (pb 2)), .int (nI (bw 2)), .int (nI (rc 2)), .int (nI (to 2)), .int (nI (la 2)), .int (nI (se 2)), .int (nI (th 2))])), (ra 2, zk_a cI 300 (pl 2)), (rb 2, zk_a cI 300 (ln 2)), (rd 2, zk_a cI 300 (ds 2)), (r 3, .inr (2, [.ref (ra 3), .ref (rb 3), .ref (rd 3), .int (nI (ct 3)), .int (nI (pb 3)), .int (nI (bw 3)), .int (nI (rc 3)), .int (nI (to 3)), .int (nI (la 3)), .int (nI (se 3)), .int (nI (th 3))])), (ra 3, zk_a cI 300 (pl 3)), (rb 3, zk_a cI 300 (ln 3)), (rd 3, zk_a cI 300 (ds 3))] H := hP
      refine va_get (D := D) (ci := 2) (v := .int (nI rc9)) (C := RX2) (T := TX2) (N := 11) hx hb hts ziX4_repeats_2 hown hK hP 15 rfl rfl 6 (by decide) f123 (fun _ h9 => h9) rfl dX4_repeats_14 ?_
      exact hret _ ls _ _ _ (fl9, fd9, fc9, le9, di9, co9, pn9, pd9, zk_up ct 1 ct9, zk_up pb 1 pb9, zk_up bw 1 bw9, zk_up rc 1 rc9, zk_up to 1 1, zk_up la 1 la9, zk_up se 1 se9, zk_up th 1 th9, zk_upF pl 1 pl9, zk_upF ln 1 ln9, zk_upF ds 1 ds9) dX4_repeats_17 ⟨by rw [zA_way, zk_val (n := 4) (by decide) (by decide)]; rfl, fun j hj he => by rw [(nI_eq (by omega) (by decide)).mp he.symm]; exact zk_up_eq _ _ _, zr_rows_up h6 hu⟩ hP hS
    · subst hw
      refine lv_aload_n hx hb dX4_repeats_9 rfl (lv_at hl 0 rfl) ?_
      refine lv_iload_n hx hb dX4_repeats_10 rfl (lv_at hl 1 rfl) ?_
      refine zk_wrA (As := [.int (nI 2)]) (rest := []) ⟨hx, hb, hml, hown, hts⟩ hN (c_rowOf l D cI cZ cR x_ q_ f sp dp fa fb fc le di fl fd t b ah sz g k_ ka kb kd co pn pd rf (r 2) (ra 2) (rb 2) (rd 2) (ct 2) (pb 2) (bw 2) (rc 2) (to 2) (la 2) (se 2) (th 2) (pl 2) (ln 2) (ds 2) 2 (by omega) (by omega) (by omega) (by omega) h4 (by decide) (h5 2 (by decide)) (h6 2 (by decide))) (cwV 1 hts gX4_repeats_X4_rowOf rfl rfl rfl (by decide +kernel) ⟨Nat.le_of_ble_eq_true rfl, Nat.le_of_ble_eq_true rfl⟩) hK hP (zk_D hD rfl) hS hA [0, 1, 2, 3, 4, 5, 6, 7, 8, 9, 10, 19, 20, 21, 22] rfl (by decide) (fun _ => rfl) rfl rfl rfl rfl hl.1 rfl (Nat.le_of_ble_eq_true rfl) dX4_repeats_11 ⟨Nat.zero_le _, Nat.zero_le _⟩ (fun u H locs hu hP hS => ?_)
      obtain ⟨co9, pn9, pd9, fl9, fd9, fc9, le9, di9, pl9, ln9, ds9, ct9, pb9, bw9, rc9, la9, se9, th9⟩ := u
      have hu : zr_row 2 g ah sz sp dp ct9 pb9 bw9 rc9 pl9 ln9 ds9 := hu
      have hP : va_P D vwCl [(x_, .inr (4, [.ref t, .ref f, .ref k_, .ref q_])), (f, .inr (0, [.ref t, .int (nI sp), .int (nI dp), .ref fa, .ref fb, .int (nI fc9), .int (nI le9), .int (nI di9)])), (fa, zk_a cI 38 fl9), (fb, zk_a cI 38 fd9), (t, .inr (3, [.ref b, .int (nI ah), .int (nI sz)])), (b, zk_a cI 360 g), (k_, .inr (1, [.ref ka, .ref kb, .ref kd])), (ka, zk_a cI 301 co9), (kb, zk_a cI 300 pn9), (kd, zk_a cI 300 pd9), (q_, .inl (cR, 4, .inr (.inr (.inr (.inr rf))))), (r 0, .inr (2, [.ref (ra 0), .ref (rb 0), .ref (rd 0), .int (nI (ct 0)), .int (nI (pb 0)), .int (nI (bw 0)), .int (nI (rc 0)), .int (nI (to 0)), .int (nI (la 0)), .int (nI (se 0)), .int (nI (th 0))])), (ra 0, zk_a cI 300 (pl 0)), (rb 0, zk_a cI 300 (ln 0)), (rd 0, zk_a cI 300 (ds 0)), (r 1, .inr (2, [.ref (ra 1), .ref (rb 1), .ref (rd 1), .int (nI (ct 1)), .int (nI (pb 1)), .int (nI (bw 1)), .int (nI (rc 1)), .int (nI (to 1)), .int (nI (la 1)), .int (nI (se 1)), .int (nI (th 1))])), (ra 1, zk_a cI 300 (pl 1)), (rb 1, zk_a cI 300 (ln 1)), (rd 1, zk_a cI 300 (ds 1)), (r 2, .inr (2, [.ref (ra 2), .ref (rb 2), .ref (rd 2), .int (nI ct9), .int (nI pb9), .int (nI bw9), .int (nI rc9), .int (nI 1), .int (nI la9), .int (nI se9), .int (nI th9)])), (ra 2, zk_a cI 300 pl9), (rb 2, zk_a cI 300 ln9), (rd 2, zk_a cI 300 ds9), (r 3, .inr (2, [.ref (ra 3), .ref (rb 3), .ref (rd 3), .int (nI (ct 3)), .int (nI (pb 3)), .int (nI (bw 3)), .int (nI (rc 3)), .int (nI (to 3)), .int (nI (la 3)), .int (nI (se 3)), .int (nI (th 3))])), (ra 3, zk_a cI 300 (pl 3)), (rb 3, zk_a cI 300 (ln 3)), (rd 3, zk_a cI 300 (ds 3))] H := hP
      refine va_get (D := D) (ci := 2) (v := .int (nI rc9)) (C := RX2) (T := TX2) (N := 11) hx hb hts ziX4_repeats_2 hown hK hP 19 rfl rfl 6 (by decide) f123 (fun _ h9 => h9) rfl dX4_repeats_14 ?_
      exact hret _ ls _ _ _ (fl9, fd9, fc9, le9, di9, co9, pn9, pd9, zk_up ct 2 ct9, zk_up pb 2 pb9, zk_up bw 2 bw9, zk_up rc 2 rc9, zk_up to 2 1, zk_up la 2 la9, zk_up se 2 se9, zk_up th 2 th9, zk_upF pl 2 pl9, zk_upF ln 2 ln9, zk_upF ds 2 ds9) dX4_repeats_17 ⟨by rw [zA_way, zk_val (n := 4) (by decide) (by decide)]; rfl, fun j hj he => by rw [(nI_eq (by omega) (by decide)).mp he.symm]; exact zk_up_eq _ _ _, zr_rows_up h6 hu⟩ hP hS
    · subst hw
      refine lv_aload_n hx hb dX4_repeats_9 rfl (lv_at hl 0 rfl) ?_
      refine lv_iload_n hx hb dX4_repeats_10 rfl (lv_at hl 1 rfl) ?_
      refine zk_wrA (As := [.int (nI 3)]) (rest := []) ⟨hx, hb, hml, hown, hts⟩ hN (c_rowOf l D cI cZ cR x_ q_ f sp dp fa fb fc le di fl fd t b ah sz g k_ ka kb kd co pn pd rf (r 3) (ra 3) (rb 3) (rd 3) (ct 3) (pb 3) (bw 3) (rc 3) (to 3) (la 3) (se 3) (th 3) (pl 3) (ln 3) (ds 3) 3 (by omega) (by omega) (by omega) (by omega) h4 (by decide) (h5 3 (by decide)) (h6 3 (by decide))) (cwV 1 hts gX4_repeats_X4_rowOf rfl rfl rfl (by decide +kernel) ⟨Nat.le_of_ble_eq_true rfl, Nat.le_of_ble_eq_true rfl⟩) hK hP (zk_D hD rfl) hS hA [0, 1, 2, 3, 4, 5, 6, 7, 8, 9, 10, 23, 24, 25, 26] rfl (by decide) (fun _ => rfl) rfl rfl rfl rfl hl.1 rfl (Nat.le_of_ble_eq_true rfl) dX4_repeats_11 ⟨Nat.zero_le _, Nat.zero_le _⟩ (fun u H locs hu hP hS => ?_)
      obtain ⟨co9, pn9, pd9, fl9, fd9, fc9, le9, di9, pl9, ln9, ds9, ct9, pb9, bw9, rc9, la9, se9, th9⟩ := u
      have hu : zr_row 3 g ah sz sp dp ct9 pb9 bw9 rc9 pl9 ln9 ds9 := hu
      have hP : va_P D vwCl [(x_, .inr (4, [.ref t, .ref f, .ref k_, .ref q_])), (f, .inr (0, [.ref t, .int (nI sp), .int (nI dp), .ref fa, .ref fb, .int (nI fc9), .int (nI le9), .int (nI di9)])), (fa, zk_a cI 38 fl9), (fb, zk_a cI 38 fd9), (t, .inr (3, [.ref b, .int (nI ah), .int (nI sz)])), (b, zk_a cI 360 g), (k_, .inr (1, [.ref ka, .ref kb, .ref kd])), (ka, zk_a cI 301 co9), (kb, zk_a cI 300 pn9), (kd, zk_a cI 300 pd9), (q_, .inl (cR, 4, .inr (.inr (.inr (.inr rf))))), (r 0, .inr (2, [.ref (ra 0), .ref (rb 0), .ref (rd 0), .int (nI (ct 0)), .int (nI (pb 0)), .int (nI (bw 0)), .int (nI (rc 0)), .int (nI (to 0)), .int (nI (la 0)), .int (nI (se 0)), .int (nI (th 0))])), (ra 0, zk_a cI 300 (pl 0)), (rb 0, zk_a cI 300 (ln 0)), (rd 0, zk_a cI 300 (ds 0)), (r 1, .inr (2, [.ref (ra 1), .ref (rb 1), .ref (rd 1), .int (nI (ct 1)), .int (nI (pb 1)), .int (nI (bw 1)), .int (nI (rc 1)), .int (nI (to 1)), .int (nI (la 1)), .int (nI (se 1)), .int (nI (th 1))])), (ra 1, zk_a cI 300 (pl 1)), (rb 1, zk_a cI 300 (ln 1)), (rd 1, zk_a cI 300 (ds 1)), (r 2, .inr (2, [.ref (ra 2), .ref (rb 2), .ref (rd 2), .int (nI (ct 2)), .int (nI (pb 2)), .int (nI (bw 2)), .int (nI (rc 2)), .int (nI (to 2)), .int (nI (la 2)), .int (nI (se 2)), .int (nI (th 2))])), (ra 2, zk_a cI 300 (pl 2)), (rb 2, zk_a cI 300 (ln 2)), (rd 2, zk_a cI 300 (ds 2)), (r 3, .inr (2, [.ref (ra 3), .ref (rb 3), .ref (rd 3), .int (nI ct9), .int (nI pb9), .int (nI bw9), .int (nI rc9), .int (nI 1), .int (nI la9), .int (nI se9), .int (nI th9)])), (ra 3, zk_a cI 300 pl9), (rb 3, zk_a cI 300 ln9), (rd 3, zk_a cI 300 ds9)] H := hP
      refine va_get (D := D) (ci := 2) (v := .int (nI rc9)) (C := RX2) (T := TX2) (N := 11) hx hb hts ziX4_repeats_2 hown hK hP 23 rfl rfl 6 (by decide) f123 (fun _ h9 => h9) rfl dX4_repeats_14 ?_
      exact hret _ ls _ _ _ (fl9, fd9, fc9, le9, di9, co9, pn9, pd9, zk_up ct 3 ct9, zk_up pb 3 pb9, zk_up bw 3 bw9, zk_up rc 3 rc9, zk_up to 3 1, zk_up la 3 la9, zk_up se 3 se9, zk_up th 3 th9, zk_upF pl 3 pl9, zk_upF ln 3 ln9, zk_upF ds 3 ds9) dX4_repeats_17 ⟨by rw [zA_way, zk_val (n := 4) (by decide) (by decide)]; rfl, fun j hj he => by rw [(nI_eq (by omega) (by decide)).mp he.symm]; exact zk_up_eq _ _ _, zr_rows_up h6 hu⟩ hP hS
  · skip
    have hno := zk_wz0 c_1
    refine lv_iconst (v := (-1)) hx hb dX4_repeats_7 (by decide +kernel) ?_
    exact hret _ ls _ _ _ (fl, fd, fc, le, di, co, pn, pd, ct, pb, bw, rc, to, la, se, th, pl, ln, ds) dX4_repeats_8 ⟨by rw [zA_way, zk_inv hno], fun j hj he => absurd hno (zk_wno hj he), h6⟩ hP hS
def rmX4_bits : Room := { frames := 7, cells := 0, slots := 0, locals := 158 }
set_option maxRecDepth 20000 in
theorem ziX4_bits_2 : ∀ w ∈ wsX20, w ∈ wsX4_bits := by decide +kernel
set_option maxHeartbeats 4000000 in
set_option maxRecDepth 100000 in
/-- bits -/
theorem c_bits (l : Launch) (D : va_G) (cI cZ cR : ClassId) (x_ : Nat) (q_ : Nat) (t : Nat) (f : Nat) (k_ : Nat) (rf : Nat → Option Nat) (sp : Nat) (dp : Nat) (fa : Nat) (fb : Nat) (b : Nat) (ka : Nat) (kb : Nat) (kd : Nat) (r : Nat → Nat) (ra : Nat → Nat) (rb : Nat → Nat) (rd : Nat → Nat) (fl : Nat → Nat) (fd : Nat → Nat) (fc : Nat) (le : Nat) (di : Nat) (g : Nat → Nat) (ah : Nat) (sz : Nat) (co : Nat → Nat) (pn : Nat → Nat) (pd : Nat → Nat) (ct : Nat → Nat) (pb : Nat → Nat) (bw : Nat → Nat) (rc : Nat → Nat) (to : Nat → Nat) (la : Nat → Nat) (se : Nat → Nat) (th : Nat → Nat) (pl : Nat → Nat → Nat) (ln : Nat → Nat → Nat) (ds : Nat → Nat → Nat) (w_ : Int32) (v_ : Int32) (h0 : ah ≤ 60) (h1 : sz ≤ 300) (h2 : sp ≤ 300) (h3 : dp ≤ 64) (h4 : ∀ j, g j < 256) (h5 : ∀ i, i < 4 → rf i = some (r i)) (h6 : zr_rows g ah sz sp dp to ct pb bw rc pl ln ds) : zk_Wi l yX4_bits wsX4_bits rmX4_bits D (zk_t cI cZ cR) [.ref x_, .int w_, .int v_] [(x_, .inr (4, [.ref t, .ref f, .ref k_, .ref q_])), (f, .inr (0, [.ref t, .int (nI sp), .int (nI dp), .ref fa, .ref fb, .int (nI fc), .int (nI le), .int (nI di)])), (fa, zk_a cI 38 fl), (fb, zk_a cI 38 fd), (t, .inr (3, [.ref b, .int (nI ah), .int (nI sz)])), (b, zk_a cI 360 g), (k_, .inr (1, [.ref ka, .ref kb, .ref kd])), (ka, zk_a cI 301 co), (kb, zk_a cI 300 pn), (kd, zk_a cI 300 pd), (q_, .inl (cR, 4, .inr (.inr (.inr (.inr rf))))), (r 0, .inr (2, [.ref (ra 0), .ref (rb 0), .ref (rd 0), .int (nI (ct 0)), .int (nI (pb 0)), .int (nI (bw 0)), .int (nI (rc 0)), .int (nI (to 0)), .int (nI (la 0)), .int (nI (se 0)), .int (nI (th 0))])), (ra 0, zk_a cI 300 (pl 0)), (rb 0, zk_a cI 300 (ln 0)), (rd 0, zk_a cI 300 (ds 0)), (r 1, .inr (2, [.ref (ra 1), .ref (rb 1), .ref (rd 1), .int (nI (ct 1)), .int (nI (pb 1)), .int (nI (bw 1)), .int (nI (rc 1)), .int (nI (to 1)), .int (nI (la 1)), .int (nI (se 1)), .int (nI (th 1))])), (ra 1, zk_a cI 300 (pl 1)), (rb 1, zk_a cI 300 (ln 1)), (rd 1, zk_a cI 300 (ds 1)), (r 2, .inr (2, [.ref (ra 2), .ref (rb 2), .ref (rd 2), .int (nI (ct 2)), .int (nI (pb 2)), .int (nI (bw 2)), .int (nI (rc 2)), .int (nI (to 2)), .int (nI (la 2)), .int (nI (se 2)), .int (nI (th 2))])), (ra 2, zk_a cI 300 (pl 2)), (rb 2, zk_a cI 300 (ln 2)), (rd 2, zk_a cI 300 (ds 2)), (r 3, .inr (2, [.ref (ra 3), .ref (rb 3), .ref (rd 3), .int (nI (ct 3)), .int (nI (pb 3)), .int (nI (bw 3)), .int (nI (rc 3)), .int (nI (to 3)), .int (nI (la 3)), .int (nI (se 3)), .int (nI (th 3))])), (ra 3, zk_a cI 300 (pl 3)), (rb 3, zk_a cI 300 (ln 3)), (rd 3, zk_a cI 300 (ds 3))] (fun (r : Int32) (u : (Nat → Nat) × (Nat → Nat) × Nat × Nat × Nat × (Nat → Nat) × (Nat → Nat) × (Nat → Nat) × (Nat → Nat) × (Nat → Nat) × (Nat → Nat) × (Nat → Nat) × (Nat → Nat) × (Nat → Nat) × (Nat → Nat) × (Nat → Nat) × (Nat → Nat → Nat) × (Nat → Nat → Nat) × (Nat → Nat → Nat)) => match u with | (fl2, fd2, fc2, le2, di2, co2, pn2, pd2, ct2, pb2, bw2, rc2, to2, la2, se2, th2, pl2, ln2, ds2) => r = zA_way w_ (fun j => zA_what v_ (nI (pb2 j)) (nI (bw2 j))) ∧ (∀ j, j < 4 → w_ = nI j → ¬ v_ < 0 → v_ ≤ nI 1 → to2 j = 1) ∧ zr_rows g ah sz sp dp to2 ct2 pb2 bw2 rc2 pl2 ln2 ds2) (fun u => match u with | (fl2, fd2, fc2, le2, di2, co2, pn2, pd2, ct2, pb2, bw2, rc2, to2, la2, se2, th2, pl2, ln2, ds2) => [(x_, .inr (4, [.ref t, .ref f, .ref k_, .ref q_])), (f, .inr (0, [.ref t, .int (nI sp), .int (nI dp), .ref fa, .ref fb, .int (nI fc2), .int (nI le2), .int (nI di2)])), (fa, zk_a cI 38 fl2), (fb, zk_a cI 38 fd2), (t, .inr (3, [.ref b, .int (nI ah), .int (nI sz)])), (b, zk_a cI 360 g), (k_, .inr (1, [.ref ka, .ref kb, .ref kd])), (ka, zk_a cI 301 co2), (kb, zk_a cI 300 pn2), (kd, zk_a cI 300 pd2), (q_, .inl (cR, 4, .inr (.inr (.inr (.inr rf))))), (r 0, .inr (2, [.ref (ra 0), .ref (rb 0), .ref (rd 0), .int (nI (ct2 0)), .int (nI (pb2 0)), .int (nI (bw2 0)), .int (nI (rc2 0)), .int (nI (to2 0)), .int (nI (la2 0)), .int (nI (se2 0)), .int (nI (th2 0))])), (ra 0, zk_a cI 300 (pl2 0)), (rb 0, zk_a cI 300 (ln2 0)), (rd 0, zk_a cI 300 (ds2 0)), (r 1, .inr (2, [.ref (ra 1), .ref (rb 1), .ref (rd 1), .int (nI (ct2 1)), .int (nI (pb2 1)), .int (nI (bw2 1)), .int (nI (rc2 1)), .int (nI (to2 1)), .int (nI (la2 1)), .int (nI (se2 1)), .int (nI (th2 1))])), (ra 1, zk_a cI 300 (pl2 1)), (rb 1, zk_a cI 300 (ln2 1)), (rd 1, zk_a cI 300 (ds2 1)), (r 2, .inr (2, [.ref (ra 2), .ref (rb 2), .ref (rd 2), .int (nI (ct2 2)), .int (nI (pb2 2)), .int (nI (bw2 2)), .int (nI (rc2 2)), .int (nI (to2 2)), .int (nI (la2 2)), .int (nI (se2 2)), .int (nI (th2 2))])), (ra 2, zk_a cI 300 (pl2 2)), (rb 2, zk_a cI 300 (ln2 2)), (rd 2, zk_a cI 300 (ds2 2)), (r 3, .inr (2, [.ref (ra 3), .ref (rb 3), .ref (rd 3), .int (nI (ct2 3)), .int (nI (pb2 3)), .int (nI (bw2 3)), .int (nI (rc2 3)), .int (nI (to2 3)), .int (nI (la2 3)), .int (nI (se2 3)), .int (nI (th2 3))])), (ra 3, zk_a cI 300 (pl2 3)), (rb 3, zk_a cI 300 (ln2 3)), (rd 3, zk_a cI 300 (ds2 3))]) := by
  refine zk_enterI RX4 cX4_bits 4 (by decide) rfl rfl (Nat.le_of_ble_eq_true rfl) ?_
  intro p e s m args below meth c ls A Q hx hb hml hown hts hP hK hD hN hl hA hS hret
  have hl : lv_has ls 4 [(0, .ref x_), (1, .int w_), (2, .int v_)] := hl
  have f117 := hts (.fieldLink RX4 117 "MatchFinders$Row" "plainBits" "I") (by decide +kernel)
  have f120 := hts (.fieldLink RX4 120 "MatchFinders$Row" "bitsWithRepeats" "I") (by decide +kernel)
  refine lv_iload_n hx hb dX4_bits_0 rfl (lv_at hl 1 rfl) ?_
  refine zk_rdS (As := [.int w_]) (rest := []) ⟨hx, hb, hml, hown, hts⟩ hN (c_isWay l D cI cZ cR w_) (va_cwS 1 hts gX4_bits_X4_isWay rfl rfl rfl (by decide +kernel) ⟨Nat.le_of_ble_eq_true rfl, Nat.le_of_ble_eq_true rfl⟩) hK hP (zk_D hD rfl) [] rfl (by decide) rfl hl.1 rfl (Nat.le_of_ble_eq_true rfl) dX4_bits_1 ⟨Nat.zero_le _, Nat.zero_le _⟩ ?_
  refine lv_if_ne (tgt := 9) hx hb dX4_bits_4 (by decide) (fun c_1 => ?_) (fun c_1 => ?_)
  · skip
    obtain ⟨j, hj, hje⟩ := zk_wz2 (by decide) c_1
    subst hje
    rcases (show j = 0 ∨ j = 1 ∨ j = 2 ∨ j = 3 by omega) with hw | hw | hw | hw
    · subst hw
      refine lv_iload_n hx hb dX4_bits_9 rfl (lv_at hl 2 rfl) ?_
      refine lv_if_lt (tgt := 18) hx hb dX4_bits_10 (by decide) (fun c_2 => ?_) (fun c_2 => ?_)
      · skip
        refine lv_bipush (v := (-2)) hx hb dX4_bits_18 (by decide +kernel) ?_
        exact hret _ ls _ _ _ (fl, fd, fc, le, di, co, pn, pd, ct, pb, bw, rc, to, la, se, th, pl, ln, ds) dX4_bits_20 ⟨by rw [zA_way, zk_val (n := 4) (by decide) (by decide), zA_what, zk_wout (n := 1) (Or.inl c_2)], fun j hj he h7 _ => absurd c_2 h7, h6⟩ hP hS
      · skip
        refine lv_iload_n hx hb dX4_bits_13 rfl (lv_at hl 2 rfl) ?_
        refine lv_iconst (v := (nI 1)) hx hb dX4_bits_14 (by decide +kernel) ?_
        refine lv_icmp_le (tgt := 21) hx hb dX4_bits_15 (by decide) (fun c_3 => ?_) (fun c_3 => ?_)
        · skip
          obtain ⟨v, hv, hve⟩ := zk_wof (n := 1) (by decide) c_2 c_3
          subst hve
          rcases (show v = 0 ∨ v = 1 by omega) with hv0 | hv0
          · subst hv0
            refine lv_aload_n hx hb dX4_bits_21 rfl (lv_at hl 0 rfl) ?_
            refine lv_iload_n hx hb dX4_bits_22 rfl (lv_at hl 1 rfl) ?_
            refine zk_wrA (As := [.int (nI 0)]) (rest := []) ⟨hx, hb, hml, hown, hts⟩ hN (c_rowOf l D cI cZ cR x_ q_ f sp dp fa fb fc le di fl fd t b ah sz g k_ ka kb kd co pn pd rf (r 0) (ra 0) (rb 0) (rd 0) (ct 0) (pb 0) (bw 0) (rc 0) (to 0) (la 0) (se 0) (th 0) (pl 0) (ln 0) (ds 0) 0 (by omega) (by omega) (by omega) (by omega) h4 (by decide) (h5 0 (by decide)) (h6 0 (by decide))) (cwV 1 hts gX4_bits_X4_rowOf rfl rfl rfl (by decide +kernel) ⟨Nat.le_of_ble_eq_true rfl, Nat.le_of_ble_eq_true rfl⟩) hK hP (zk_D hD rfl) hS hA [0, 1, 2, 3, 4, 5, 6, 7, 8, 9, 10, 11, 12, 13, 14] rfl (by decide) (fun _ => rfl) rfl rfl rfl rfl hl.1 rfl (Nat.le_of_ble_eq_true rfl) dX4_bits_23 ⟨Nat.zero_le _, Nat.zero_le _⟩ (fun u H locs hu hP hS => ?_)
            obtain ⟨co9, pn9, pd9, fl9, fd9, fc9, le9, di9, pl9, ln9, ds9, ct9, pb9, bw9, rc9, la9, se9, th9⟩ := u
            have hu : zr_row 0 g ah sz sp dp ct9 pb9 bw9 rc9 pl9 ln9 ds9 := hu
            have hP : va_P D vwCl [(x_, .inr (4, [.ref t, .ref f, .ref k_, .ref q_])), (f, .inr (0, [.ref t, .int (nI sp), .int (nI dp), .ref fa, .ref fb, .int (nI fc9), .int (nI le9), .int (nI di9)])), (fa, zk_a cI 38 fl9), (fb, zk_a cI 38 fd9), (t, .inr (3, [.ref b, .int (nI ah), .int (nI sz)])), (b, zk_a cI 360 g), (k_, .inr (1, [.ref ka, .ref kb, .ref kd])), (ka, zk_a cI 301 co9), (kb, zk_a cI 300 pn9), (kd, zk_a cI 300 pd9), (q_, .inl (cR, 4, .inr (.inr (.inr (.inr rf))))), (r 0, .inr (2, [.ref (ra 0), .ref (rb 0), .ref (rd 0), .int (nI ct9), .int (nI pb9), .int (nI bw9), .int (nI rc9), .int (nI 1), .int (nI la9), .int (nI se9), .int (nI th9)])), (ra 0, zk_a cI 300 pl9), (rb 0, zk_a cI 300 ln9), (rd 0, zk_a cI 300 ds9), (r 1, .inr (2, [.ref (ra 1), .ref (rb 1), .ref (rd 1), .int (nI (ct 1)), .int (nI (pb 1)), .int (nI (bw 1)), .int (nI (rc 1)), .int (nI (to 1)), .int (nI (la 1)), .int (nI (se 1)), .int (nI (th 1))])), (ra 1, zk_a cI 300 (pl 1)), (rb 1, zk_a cI 300 (ln 1)), (rd 1, zk_a cI 300 (ds 1)), (r 2, .inr (2, [.ref (ra 2), .ref (rb 2), .ref (rd 2), .int (nI (ct 2)), .int (nI (pb 2)), .int (nI (bw 2)), .int (nI (rc 2)), .int (nI (to 2)), .int (nI (la 2)), .int (nI (se 2)), .int (nI (th 2))])), (ra 2, zk_a cI 300 (pl 2)), (rb 2, zk_a cI 300 (ln 2)), (rd 2, zk_a cI 300 (ds 2)), (r 3, .inr (2, [.ref (ra 3), .ref (rb 3), .ref (rd 3), .int (nI (ct 3)), .int (nI (pb 3)), .int (nI (bw 3)), .int (nI (rc 3)), .int (nI (to 3)), .int (nI (la 3)), .int (nI (se 3)), .int (nI (th 3))])), (ra 3, zk_a cI 300 (pl 3)), (rb 3, zk_a cI 300 (ln 3)), (rd 3, zk_a cI 300 (ds 3))] H := hP
            refine lv_astore_n (lv' := [(3, .ref (r 0)), (0, .ref x_), (1, .int (nI 0)), (2, .int (nI 0))]) hx hb dX4_bits_26 rfl hl (by decide) rfl (fun ls hl => ?_)
            refine lv_iload_n hx hb dX4_bits_27 rfl (lv_at hl 3 rfl) ?_
            refine zk_if_ne (tgt := 38) hx hb (by omega) dX4_bits_28 (by decide) (fun c_4 => absurd c_4 (by omega)) (fun c_4 => ?_)
            refine lv_aload_n hx hb dX4_bits_31 rfl (lv_at hl 0 rfl) ?_
            refine va_get (D := D) (ci := 2) (v := .int (nI pb9)) (C := RX2) (T := TX2) (N := 11) hx hb hts ziX4_bits_2 hown hK hP 11 rfl rfl 4 (by decide) f117 (fun _ h9 => h9) rfl dX4_bits_32 ?_
            refine lv_goto (tgt := 42) hx hb dX4_bits_35 (by decide) ?_
            exact hret _ ls _ _ _ (fl9, fd9, fc9, le9, di9, co9, pn9, pd9, zk_up ct 0 ct9, zk_up pb 0 pb9, zk_up bw 0 bw9, zk_up rc 0 rc9, zk_up to 0 1, zk_up la 0 la9, zk_up se 0 se9, zk_up th 0 th9, zk_upF pl 0 pl9, zk_upF ln 0 ln9, zk_upF ds 0 ds9) dX4_bits_42 ⟨by rw [zA_way, zk_val (n := 4) (by decide) (by decide), zA_what, zk_win (by omega) (by decide), if_pos nI_0]; rfl, fun j hj he _ _ => by rw [(nI_eq (by omega) (by decide)).mp he.symm]; exact zk_up_eq _ _ _, zr_rows_up h6 hu⟩ hP hS
          · subst hv0
            refine lv_aload_n hx hb dX4_bits_21 rfl (lv_at hl 0 rfl) ?_
            refine lv_iload_n hx hb dX4_bits_22 rfl (lv_at hl 1 rfl) ?_
            refine zk_wrA (As := [.int (nI 0)]) (rest := []) ⟨hx, hb, hml, hown, hts⟩ hN (c_rowOf l D cI cZ cR x_ q_ f sp dp fa fb fc le di fl fd t b ah sz g k_ ka kb kd co pn pd rf (r 0) (ra 0) (rb 0) (rd 0) (ct 0) (pb 0) (bw 0) (rc 0) (to 0) (la 0) (se 0) (th 0) (pl 0) (ln 0) (ds 0) 0 (by omega) (by omega) (by omega) (by omega) h4 (by decide) (h5 0 (by decide)) (h6 0 (by decide))) (cwV 1 hts gX4_bits_X4_rowOf rfl rfl rfl (by decide +kernel) ⟨Nat.le_of_ble_eq_true rfl, Nat.le_of_ble_eq_true rfl⟩) hK hP (zk_D hD rfl) hS hA [0, 1, 2, 3, 4, 5, 6, 7, 8, 9, 10, 11, 12, 13, 14] rfl (by decide) (fun _ => rfl) rfl rfl rfl rfl hl.1 rfl (Nat.le_of_ble_eq_true rfl) dX4_bits_23 ⟨Nat.zero_le _, Nat.zero_le _⟩ (fun u H locs hu hP hS => ?_)
            obtain ⟨co9, pn9, pd9, fl9, fd9, fc9, le9, di9, pl9, ln9, ds9, ct9, pb9, bw9, rc9, la9, se9, th9⟩ := u
            have hu : zr_row 0 g ah sz sp dp ct9 pb9 bw9 rc9 pl9 ln9 ds9 := hu
            have hP : va_P D vwCl [(x_, .inr (4, [.ref t, .ref f, .ref k_, .ref q_])), (f, .inr (0, [.ref t, .int (nI sp), .int (nI dp), .ref fa, .ref fb, .int (nI fc9), .int (nI le9), .int (nI di9)])), (fa, zk_a cI 38 fl9), (fb, zk_a cI 38 fd9), (t, .inr (3, [.ref b, .int (nI ah), .int (nI sz)])), (b, zk_a cI 360 g), (k_, .inr (1, [.ref ka, .ref kb, .ref kd])), (ka, zk_a cI 301 co9), (kb, zk_a cI 300 pn9), (kd, zk_a cI 300 pd9), (q_, .inl (cR, 4, .inr (.inr (.inr (.inr rf))))), (r 0, .inr (2, [.ref (ra 0), .ref (rb 0), .ref (rd 0), .int (nI ct9), .int (nI pb9), .int (nI bw9), .int (nI rc9), .int (nI 1), .int (nI la9), .int (nI se9), .int (nI th9)])), (ra 0, zk_a cI 300 pl9), (rb 0, zk_a cI 300 ln9), (rd 0, zk_a cI 300 ds9), (r 1, .inr (2, [.ref (ra 1), .ref (rb 1), .ref (rd 1), .int (nI (ct 1)), .int (nI (pb 1)), .int (nI (bw 1)), .int (nI (rc 1)), .int (nI (to 1)), .int (nI (la 1)), .int (nI (se 1)), .int (nI (th 1))])), (ra 1, zk_a cI 300 (pl 1)), (rb 1, zk_a cI 300 (ln 1)), (rd 1, zk_a cI 300 (ds 1)), (r 2, .inr (2, [.ref (ra 2), .ref (rb 2), .ref (rd 2), .int (nI (ct 2)), .int (nI (pb 2)), .int (nI (bw 2)), .int (nI (rc 2)), .int (nI (to 2)), .int (nI (la 2)), .int (nI (se 2)), .int (nI (th 2))])), (ra 2, zk_a cI 300 (pl 2)), (rb 2, zk_a cI 300 (ln 2)), (rd 2, zk_a cI 300 (ds 2)), (r 3, .inr (2, [.ref (ra 3), .ref (rb 3), .ref (rd 3), .int (nI (ct 3)), .int (nI (pb 3)), .int (nI (bw 3)), .int (nI (rc 3)), .int (nI (to 3)), .int (nI (la 3)), .int (nI (se 3)), .int (nI (th 3))])), (ra 3, zk_a cI 300 (pl 3)), (rb 3, zk_a cI 300 (ln 3)), (rd 3, zk_a cI 300 (ds 3))] H := hP
            refine lv_astore_n (lv' := [(3, .ref (r 0)), (0, .ref x_), (1, .int (nI 0)), (2, .int (nI 1))]) hx hb dX4_bits_26 rfl hl (by decide) rfl (fun ls hl => ?_)
            refine lv_iload_n hx hb dX4_bits_27 rfl (lv_at hl 3 rfl) ?_
            refine zk_if_ne (tgt := 38) hx hb (by omega) dX4_bits_28 (by decide) (fun c_5 => ?_) (fun c_5 => absurd c_5 (by omega))
            refine lv_aload_n hx hb dX4_bits_38 rfl (lv_at hl 0 rfl) ?_
            refine va_get (D := D) (ci := 2) (v := .int (nI bw9)) (C := RX2) (T := TX2) (N := 11) hx hb hts ziX4_bits_2 hown hK hP 11 rfl rfl 5 (by decide) f120 (fun _ h9 => h9) rfl dX4_bits_39 ?_
            exact hret _ ls _ _ _ (fl9, fd9, fc9, le9, di9, co9, pn9, pd9, zk_up ct 0 ct9, zk_up pb 0 pb9, zk_up bw 0 bw9, zk_up rc 0 rc9, zk_up to 0 1, zk_up la 0 la9, zk_up se 0 se9, zk_up th 0 th9, zk_upF pl 0 pl9, zk_upF ln 0 ln9, zk_upF ds 0 ds9) dX4_bits_42 ⟨by rw [zA_way, zk_val (n := 4) (by decide) (by decide), zA_what, zk_win (by omega) (by decide), if_neg (by decide +kernel)]; rfl, fun j hj he _ _ => by rw [(nI_eq (by omega) (by decide)).mp he.symm]; exact zk_up_eq _ _ _, zr_rows_up h6 hu⟩ hP hS
        · skip
          refine lv_bipush (v := (-2)) hx hb dX4_bits_18 (by decide +kernel) ?_
          exact hret _ ls _ _ _ (fl, fd, fc, le, di, co, pn, pd, ct, pb, bw, rc, to, la, se, th, pl, ln, ds) dX4_bits_20 ⟨by rw [zA_way, zk_val (n := 4) (by decide) (by decide), zA_what, zk_wout (n := 1) (Or.inr c_3)], fun j hj he _ h7 => absurd h7 c_3, h6⟩ hP hS
    · subst hw
      refine lv_iload_n hx hb dX4_bits_9 rfl (lv_at hl 2 rfl) ?_
      refine lv_if_lt (tgt := 18) hx hb dX4_bits_10 (by decide) (fun c_6 => ?_) (fun c_6 => ?_)
      · skip
        refine lv_bipush (v := (-2)) hx hb dX4_bits_18 (by decide +kernel) ?_
        exact hret _ ls _ _ _ (fl, fd, fc, le, di, co, pn, pd, ct, pb, bw, rc, to, la, se, th, pl, ln, ds) dX4_bits_20 ⟨by rw [zA_way, zk_val (n := 4) (by decide) (by decide), zA_what, zk_wout (n := 1) (Or.inl c_6)], fun j hj he h7 _ => absurd c_6 h7, h6⟩ hP hS
      · skip
        refine lv_iload_n hx hb dX4_bits_13 rfl (lv_at hl 2 rfl) ?_
        refine lv_iconst (v := (nI 1)) hx hb dX4_bits_14 (by decide +kernel) ?_
        refine lv_icmp_le (tgt := 21) hx hb dX4_bits_15 (by decide) (fun c_7 => ?_) (fun c_7 => ?_)
        · skip
          obtain ⟨v, hv, hve⟩ := zk_wof (n := 1) (by decide) c_6 c_7
          subst hve
          rcases (show v = 0 ∨ v = 1 by omega) with hv0 | hv0
          · subst hv0
            refine lv_aload_n hx hb dX4_bits_21 rfl (lv_at hl 0 rfl) ?_
            refine lv_iload_n hx hb dX4_bits_22 rfl (lv_at hl 1 rfl) ?_
            refine zk_wrA (As := [.int (nI 1)]) (rest := []) ⟨hx, hb, hml, hown, hts⟩ hN (c_rowOf l D cI cZ cR x_ q_ f sp dp fa fb fc le di fl fd t b ah sz g k_ ka kb kd co pn pd rf (r 1) (ra 1) (rb 1) (rd 1) (ct 1) (pb 1) (bw 1) (rc 1) (to 1) (la 1) (se 1) (th 1) (pl 1) (ln 1) (ds 1) 1 (by omega) (by omega) (by omega) (by omega) h4 (by decide) (h5 1 (by decide)) (h6 1 (by decide))) (cwV 1 hts gX4_bits_X4_rowOf rfl rfl rfl (by decide +kernel) ⟨Nat.le_of_ble_eq_true rfl, Nat.le_of_ble_eq_true rfl⟩) hK hP (zk_D hD rfl) hS hA [0, 1, 2, 3, 4, 5, 6, 7, 8, 9, 10, 15, 16, 17, 18] rfl (by decide) (fun _ => rfl) rfl rfl rfl rfl hl.1 rfl (Nat.le_of_ble_eq_true rfl) dX4_bits_23 ⟨Nat.zero_le _, Nat.zero_le _⟩ (fun u H locs hu hP hS => ?_)
            obtain ⟨co9, pn9, pd9, fl9, fd9, fc9, le9, di9, pl9, ln9, ds9, ct9, pb9, bw9, rc9, la9, se9, th9⟩ := u
            have hu : zr_row 1 g ah sz sp dp ct9 pb9 bw9 rc9 pl9 ln9 ds9 := hu
            have hP : va_P D vwCl [(x_, .inr (4, [.ref t, .ref f, .ref k_, .ref q_])), (f, .inr (0, [.ref t, .int (nI sp), .int (nI dp), .ref fa, .ref fb, .int (nI fc9), .int (nI le9), .int (nI di9)])), (fa, zk_a cI 38 fl9), (fb, zk_a cI 38 fd9), (t, .inr (3, [.ref b, .int (nI ah), .int (nI sz)])), (b, zk_a cI 360 g), (k_, .inr (1, [.ref ka, .ref kb, .ref kd])), (ka, zk_a cI 301 co9), (kb, zk_a cI 300 pn9), (kd, zk_a cI 300 pd9), (q_, .inl (cR, 4, .inr (.inr (.inr (.inr rf))))), (r 0, .inr (2, [.ref (ra 0), .ref (rb 0), .ref (rd 0), .int (nI (ct 0)), .int (nI (pb 0)), .int (nI (bw 0)), .int (nI (rc 0)), .int (nI (to 0)), .int (nI (la 0)), .int (nI (se 0)), .int (nI (th 0))])), (ra 0, zk_a cI 300 (pl 0)), (rb 0, zk_a cI 300 (ln 0)), (rd 0, zk_a cI 300 (ds 0)), (r 1, .inr (2, [.ref (ra 1), .ref (rb 1), .ref (rd 1), .int (nI ct9), .int (nI pb9), .int (nI bw9), .int (nI rc9), .int (nI 1), .int (nI la9), .int (nI se9), .int (nI th9)])), (ra 1, zk_a cI 300 pl9), (rb 1, zk_a cI 300 ln9), (rd 1, zk_a cI 300 ds9), (r 2, .inr (2, [.ref (ra 2), .ref (rb 2), .ref (rd 2), .int (nI (ct 2)), .int (nI (pb 2)), .int (nI (bw 2)), .int (nI (rc 2)), .int (nI (to 2)), .int (nI (la 2)), .int (nI (se 2)), .int (nI (th 2))])), (ra 2, zk_a cI 300 (pl 2)), (rb 2, zk_a cI 300 (ln 2)), (rd 2, zk_a cI 300 (ds 2)), (r 3, .inr (2, [.ref (ra 3), .ref (rb 3), .ref (rd 3), .int (nI (ct 3)), .int (nI (pb 3)), .int (nI (bw 3)), .int (nI (rc 3)), .int (nI (to 3)), .int (nI (la 3)), .int (nI (se 3)), .int (nI (th 3))])), (ra 3, zk_a cI 300 (pl 3)), (rb 3, zk_a cI 300 (ln 3)), (rd 3, zk_a cI 300 (ds 3))] H := hP
            refine lv_astore_n (lv' := [(3, .ref (r 1)), (0, .ref x_), (1, .int (nI 1)), (2, .int (nI 0))]) hx hb dX4_bits_26 rfl hl (by decide) rfl (fun ls hl => ?_)
            refine lv_iload_n hx hb dX4_bits_27 rfl (lv_at hl 3 rfl) ?_
            refine zk_if_ne (tgt := 38) hx hb (by omega) dX4_bits_28 (by decide) (fun c_8 => absurd c_8 (by omega)) (fun c_8 => ?_)
            refine lv_aload_n hx hb dX4_bits_31 rfl (lv_at hl 0 rfl) ?_
            refine va_get (D := D) (ci := 2) (v := .int (nI pb9)) (C := RX2) (T := TX2) (N := 11) hx hb hts ziX4_bits_2 hown hK hP 15 rfl rfl 4 (by decide) f117 (fun _ h9 => h9) rfl dX4_bits_32 ?_
            refine lv_goto (tgt := 42) hx hb dX4_bits_35 (by decide) ?_
            exact hret _ ls _ _ _ (fl9, fd9, fc9, le9, di9, co9, pn9, pd9, zk_up ct 1 ct9, zk_up pb 1 pb9, zk_up bw 1 bw9, zk_up rc 1 rc9, zk_up to 1 1, zk_up la 1 la9, zk_up se 1 se9, zk_up th 1 th9, zk_upF pl 1 pl9, zk_upF ln 1 ln9, zk_upF ds 1 ds9) dX4_bits_42 ⟨by rw [zA_way, zk_val (n := 4) (by decide) (by decide), zA_what, zk_win (by omega) (by decide), if_pos nI_0]; rfl, fun j hj he _ _ => by rw [(nI_eq (by omega) (by decide)).mp he.symm]; exact zk_up_eq _ _ _, zr_rows_up h6 hu⟩ hP hS
          · subst hv0
            refine lv_aload_n hx hb dX4_bits_21 rfl (lv_at hl 0 rfl) ?_
            refine lv_iload_n hx hb dX4_bits_22 rfl (lv_at hl 1 rfl) ?_
            refine zk_wrA (As := [.int (nI 1)]) (rest := []) ⟨hx, hb, hml, hown, hts⟩ hN (c_rowOf l D cI cZ cR x_ q_ f sp dp fa fb fc le di fl fd t b ah sz g k_ ka kb kd co pn pd rf (r 1) (ra 1) (rb 1) (rd 1) (ct 1) (pb 1) (bw 1) (rc 1) (to 1) (la 1) (se 1) (th 1) (pl 1) (ln 1) (ds 1) 1 (by omega) (by omega) (by omega) (by omega) h4 (by decide) (h5 1 (by decide)) (h6 1 (by decide))) (cwV 1 hts gX4_bits_X4_rowOf rfl rfl rfl (by decide +kernel) ⟨Nat.le_of_ble_eq_true rfl, Nat.le_of_ble_eq_true rfl⟩) hK hP (zk_D hD rfl) hS hA [0, 1, 2, 3, 4, 5, 6, 7, 8, 9, 10, 15, 16, 17, 18] rfl (by decide) (fun _ => rfl) rfl rfl rfl rfl hl.1 rfl (Nat.le_of_ble_eq_true rfl) dX4_bits_23 ⟨Nat.zero_le _, Nat.zero_le _⟩ (fun u H locs hu hP hS => ?_)
            obtain ⟨co9, pn9, pd9, fl9, fd9, fc9, le9, di9, pl9, ln9, ds9, ct9, pb9, bw9, rc9, la9, se9, th9⟩ := u
            have hu : zr_row 1 g ah sz sp dp ct9 pb9 bw9 rc9 pl9 ln9 ds9 := hu
            have hP : va_P D vwCl [(x_, .inr (4, [.ref t, .ref f, .ref k_, .ref q_])), (f, .inr (0, [.ref t, .int (nI sp), .int (nI dp), .ref fa, .ref fb, .int (nI fc9), .int (nI le9), .int (nI di9)])), (fa, zk_a cI 38 fl9), (fb, zk_a cI 38 fd9), (t, .inr (3, [.ref b, .int (nI ah), .int (nI sz)])), (b, zk_a cI 360 g), (k_, .inr (1, [.ref ka, .ref kb, .ref kd])), (ka, zk_a cI 301 co9), (kb, zk_a cI 300 pn9), (kd, zk_a cI 300 pd9), (q_, .inl (cR, 4, .inr (.inr (.inr (.inr rf))))), (r 0, .inr (2, [.ref (ra 0), .ref (rb 0), .ref (rd 0), .int (nI (ct 0)), .int (nI (pb 0)), .int (nI (bw 0)), .int (nI (rc 0)), .int (nI (to 0)), .int (nI (la 0)), .int (nI (se 0)), .int (nI (th 0))])), (ra 0, zk_a cI 300 (pl 0)), (rb 0, zk_a cI 300 (ln 0)), (rd 0, zk_a cI 300 (ds 0)), (r 1, .inr (2, [.ref (ra 1), .ref (rb 1), .ref (rd 1), .int (nI ct9), .int (nI pb9), .int (nI bw9), .int (nI rc9), .int (nI 1), .int (nI la9), .int (nI se9), .int (nI th9)])), (ra 1, zk_a cI 300 pl9), (rb 1, zk_a cI 300 ln9), (rd 1, zk_a cI 300 ds9), (r 2, .inr (2, [.ref (ra 2), .ref (rb 2), .ref (rd 2), .int (nI (ct 2)), .int (nI (pb 2)), .int (nI (bw 2)), .int (nI (rc 2)), .int (nI (to 2)), .int (nI (la 2)), .int (nI (se 2)), .int (nI (th 2))])), (ra 2, zk_a cI 300 (pl 2)), (rb 2, zk_a cI 300 (ln 2)), (rd 2, zk_a cI 300 (ds 2)), (r 3, .inr (2, [.ref (ra 3), .ref (rb 3), .ref (rd 3), .int (nI (ct 3)), .int (nI (pb 3)), .int (nI (bw 3)), .int (nI (rc 3)), .int (nI (to 3)), .int (nI (la 3)), .int (nI (se 3)), .int (nI (th 3))])), (ra 3, zk_a cI 300 (pl 3)), (rb 3, zk_a cI 300 (ln 3)), (rd 3, zk_a cI 300 (ds 3))] H := hP
            refine lv_astore_n (lv' := [(3, .ref (r 1)), (0, .ref x_), (1, .int (nI 1)), (2, .int (nI 1))]) hx hb dX4_bits_26 rfl hl (by decide) rfl (fun ls hl => ?_)
            refine lv_iload_n hx hb dX4_bits_27 rfl (lv_at hl 3 rfl) ?_
            refine zk_if_ne (tgt := 38) hx hb (by omega) dX4_bits_28 (by decide) (fun c_9 => ?_) (fun c_9 => absurd c_9 (by omega))
            refine lv_aload_n hx hb dX4_bits_38 rfl (lv_at hl 0 rfl) ?_
            refine va_get (D := D) (ci := 2) (v := .int (nI bw9)) (C := RX2) (T := TX2) (N := 11) hx hb hts ziX4_bits_2 hown hK hP 15 rfl rfl 5 (by decide) f120 (fun _ h9 => h9) rfl dX4_bits_39 ?_
            exact hret _ ls _ _ _ (fl9, fd9, fc9, le9, di9, co9, pn9, pd9, zk_up ct 1 ct9, zk_up pb 1 pb9, zk_up bw 1 bw9, zk_up rc 1 rc9, zk_up to 1 1, zk_up la 1 la9, zk_up se 1 se9, zk_up th 1 th9, zk_upF pl 1 pl9, zk_upF ln 1 ln9, zk_upF ds 1 ds9) dX4_bits_42 ⟨by rw [zA_way, zk_val (n := 4) (by decide) (by decide), zA_what, zk_win (by omega) (by decide), if_neg (by decide +kernel)]; rfl, fun j hj he _ _ => by rw [(nI_eq (by omega) (by decide)).mp he.symm]; exact zk_up_eq _ _ _, zr_rows_up h6 hu⟩ hP hS
        · skip
          refine lv_bipush (v := (-2)) hx hb dX4_bits_18 (by decide +kernel) ?_
          exact hret _ ls _ _ _ (fl, fd, fc, le, di, co, pn, pd, ct, pb, bw, rc, to, la, se, th, pl, ln, ds) dX4_bits_20 ⟨by rw [zA_way, zk_val (n := 4) (by decide) (by decide), zA_what, zk_wout (n := 1) (Or.inr c_7)], fun j hj he _ h7 => absurd h7 c_7, h6⟩ hP hS
    · subst hw
      refine lv_iload_n hx hb dX4_bits_9 rfl (lv_at hl 2 rfl) ?_
      refine lv_if_lt (tgt := 18) hx hb dX4_bits_10 (by decide) (fun c_10 => ?_) (fun c_10 => ?_)
      · skip
        refine lv_bipush (v := (-2)) hx hb dX4_bits_18 (by decide +kernel) ?_
        exact hret _ ls _ _ _ (fl, fd, fc, le, di, co, pn, pd, ct, pb, bw, rc, to, la, se, th, pl, ln, ds) dX4_bits_20 ⟨by rw [zA_way, zk_val (n := 4) (by decide) (by decide), zA_what, zk_wout (n := 1) (Or.inl c_10)], fun j hj he h7 _ => absurd c_10 h7, h6⟩ hP hS
      · skip
        refine lv_iload_n hx hb dX4_bits_13 rfl (lv_at hl 2 rfl) ?_
        refine lv_iconst (v := (nI 1)) hx hb dX4_bits_14 (by decide +kernel) ?_
        refine lv_icmp_le (tgt := 21) hx hb dX4_bits_15 (by decide) (fun c_11 => ?_) (fun c_11 => ?_)
        · skip
          obtain ⟨v, hv, hve⟩ := zk_wof (n := 1) (by decide) c_10 c_11
          subst hve
          rcases (show v = 0 ∨ v = 1 by omega) with hv0 | hv0
          · subst hv0
            refine lv_aload_n hx hb dX4_bits_21 rfl (lv_at hl 0 rfl) ?_
            refine lv_iload_n hx hb dX4_bits_22 rfl (lv_at hl 1 rfl) ?_
            refine zk_wrA (As := [.int (nI 2)]) (rest := []) ⟨hx, hb, hml, hown, hts⟩ hN (c_rowOf l D cI cZ cR x_ q_ f sp dp fa fb fc le di fl fd t b ah sz g k_ ka kb kd co pn pd rf (r 2) (ra 2) (rb 2) (rd 2) (ct 2) (pb 2) (bw 2) (rc 2) (to 2) (la 2) (se 2) (th 2) (pl 2) (ln 2) (ds 2) 2 (by omega) (by omega) (by omega) (by omega) h4 (by decide) (h5 2 (by decide)) (h6 2 (by decide))) (cwV 1 hts gX4_bits_X4_rowOf rfl rfl rfl (by decide +kernel) ⟨Nat.le_of_ble_eq_true rfl, Nat.le_of_ble_eq_true rfl⟩) hK hP (zk_D hD rfl) hS hA [0, 1, 2, 3, 4, 5, 6, 7, 8, 9, 10, 19, 20, 21, 22] rfl (by decide) (fun _ => rfl) rfl rfl rfl rfl hl.1 rfl (Nat.le_of_ble_eq_true rfl) dX4_bits_23 ⟨Nat.zero_le _, Nat.zero_le _⟩ (fun u H locs hu hP hS => ?_)
            obtain ⟨co9, pn9, pd9, fl9, fd9, fc9, le9, di9, pl9, ln9, ds9, ct9, pb9, bw9, rc9, la9, se9, th9⟩ := u
            have hu : zr_row 2 g ah sz sp dp ct9 pb9 bw9 rc9 pl9 ln9 ds9 := hu
            have hP : va_P D vwCl [(x_, .inr (4, [.ref t, .ref f, .ref k_, .ref q_])), (f, .inr (0, [.ref t, .int (nI sp), .int (nI dp), .ref fa, .ref fb, .int (nI fc9), .int (nI le9), .int (nI di9)])), (fa, zk_a cI 38 fl9), (fb, zk_a cI 38 fd9), (t, .inr (3, [.ref b, .int (nI ah), .int (nI sz)])), (b, zk_a cI 360 g), (k_, .inr (1, [.ref ka, .ref kb, .ref kd])), (ka, zk_a cI 301 co9), (kb, zk_a cI 300 pn9), (kd, zk_a cI 300 pd9), (q_, .inl (cR, 4, .inr (.inr (.inr (.inr rf))))), (r 0, .inr (2, [.ref (ra 0), .ref (rb 0), .ref (rd 0), .int (nI (ct 0)), .int (nI (pb 0)), .int (nI (bw 0)), .int (nI (rc 0)), .int (nI (to 0)), .int (nI (la 0)), .int (nI (se 0)), .int (nI (th 0))])), (ra 0, zk_a cI 300 (pl 0)), (rb 0, zk_a cI 300 (ln 0)), (rd 0, zk_a cI 300 (ds 0)), (r 1, .inr (2, [.ref (ra 1), .ref (rb 1), .ref (rd 1), .int (nI (ct 1)), .int (nI (pb 1)), .int (nI (bw 1)), .int (nI (rc 1)), .int (nI (to 1)), .int (nI (la 1)), .int (nI (se 1)), .int (nI (th 1))])), (ra 1, zk_a cI 300 (pl 1)), (rb 1, zk_a cI 300 (ln 1)), (rd 1, zk_a cI 300 (ds 1)), (r 2, .inr (2, [.ref (ra 2), .ref (rb 2), .ref (rd 2), .int (nI ct9), .int (nI pb9), .int (nI bw9), .int (nI rc9), .int (nI 1), .int (nI la9), .int (nI se9), .int (nI th9)])), (ra 2, zk_a cI 300 pl9), (rb 2, zk_a cI 300 ln9), (rd 2, zk_a cI 300 ds9), (r 3, .inr (2, [.ref (ra 3), .ref (rb 3), .ref (rd 3), .int (nI (ct 3)), .int (nI (pb 3)), .int (nI (bw 3)), .int (nI (rc 3)), .int (nI (to 3)), .int (nI (la 3)), .int (nI (se 3)), .int (nI (th 3))])), (ra 3, zk_a cI 300 (pl 3)), (rb 3, zk_a cI 300 (ln 3)), (rd 3, zk_a cI 300 (ds 3))] H := hP
            refine lv_astore_n (lv' := [(3, .ref (r 2)), (0, .ref x_), (1, .int (nI 2)), (2, .int (nI 0))]) hx hb dX4_bits_26 rfl hl (by decide) rfl (fun ls hl => ?_)
            refine lv_iload_n hx hb dX4_bits_27 rfl (lv_at hl 3 rfl) ?_
            refine zk_if_ne (tgt := 38) hx hb (by omega) dX4_bits_28 (by decide) (fun c_12 => absurd c_12 (by omega)) (fun c_12 => ?_)
            refine lv_aload_n hx hb dX4_bits_31 rfl (lv_at hl 0 rfl) ?_
            refine va_get (D := D) (ci := 2) (v := .int (nI pb9)) (C := RX2) (T := TX2) (N := 11) hx hb hts ziX4_bits_2 hown hK hP 19 rfl rfl 4 (by decide) f117 (fun _ h9 => h9) rfl dX4_bits_32 ?_
            refine lv_goto (tgt := 42) hx hb dX4_bits_35 (by decide) ?_
            exact hret _ ls _ _ _ (fl9, fd9, fc9, le9, di9, co9, pn9, pd9, zk_up ct 2 ct9, zk_up pb 2 pb9, zk_up bw 2 bw9, zk_up rc 2 rc9, zk_up to 2 1, zk_up la 2 la9, zk_up se 2 se9, zk_up th 2 th9, zk_upF pl 2 pl9, zk_upF ln 2 ln9, zk_upF ds 2 ds9) dX4_bits_42 ⟨by rw [zA_way, zk_val (n := 4) (by decide) (by decide), zA_what, zk_win (by omega) (by decide), if_pos nI_0]; rfl, fun j hj he _ _ => by rw [(nI_eq (by omega) (by decide)).mp he.symm]; exact zk_up_eq _ _ _, zr_rows_up h6 hu⟩ hP hS
          · subst hv0
            refine lv_aload_n hx hb dX4_bits_21 rfl (lv_at hl 0 rfl) ?_
            refine lv_iload_n hx hb dX4_bits_22 rfl (lv_at hl 1 rfl) ?_
            refine zk_wrA (As := [.int (nI 2)]) (rest := []) ⟨hx, hb, hml, hown, hts⟩ hN (c_rowOf l D cI cZ cR x_ q_ f sp dp fa fb fc le di fl fd t b ah sz g k_ ka kb kd co pn pd rf (r 2) (ra 2) (rb 2) (rd 2) (ct 2) (pb 2) (bw 2) (rc 2) (to 2) (la 2) (se 2) (th 2) (pl 2) (ln 2) (ds 2) 2 (by omega) (by omega) (by omega) (by omega) h4 (by decide) (h5 2 (by decide)) (h6 2 (by decide))) (cwV 1 hts gX4_bits_X4_rowOf rfl rfl rfl (by decide +kernel) ⟨Nat.le_of_ble_eq_true rfl, Nat.le_of_ble_eq_true rfl⟩) hK hP (zk_D hD rfl) hS hA [0, 1, 2, 3, 4, 5, 6, 7, 8, 9, 10, 19, 20, 21, 22] rfl (by decide) (fun _ => rfl) rfl rfl rfl rfl hl.1 rfl (Nat.le_of_ble_eq_true rfl) dX4_bits_23 ⟨Nat.zero_le _, Nat.zero_le _⟩ (fun u H locs hu hP hS => ?_)
            obtain ⟨co9, pn9, pd9, fl9, fd9, fc9, le9, di9, pl9, ln9, ds9, ct9, pb9, bw9, rc9, la9, se9, th9⟩ := u
            have hu : zr_row 2 g ah sz sp dp ct9 pb9 bw9 rc9 pl9 ln9 ds9 := hu
            have hP : va_P D vwCl [(x_, .inr (4, [.ref t, .ref f, .ref k_, .ref q_])), (f, .inr (0, [.ref t, .int (nI sp), .int (nI dp), .ref fa, .ref fb, .int (nI fc9), .int (nI le9), .int (nI di9)])), (fa, zk_a cI 38 fl9), (fb, zk_a cI 38 fd9), (t, .inr (3, [.ref b, .int (nI ah), .int (nI sz)])), (b, zk_a cI 360 g), (k_, .inr (1, [.ref ka, .ref kb, .ref kd])), (ka, zk_a cI 301 co9), (kb, zk_a cI 300 pn9), (kd, zk_a cI 300 pd9), (q_, .inl (cR, 4, .inr (.inr (.inr (.inr rf))))), (r 0, .inr (2, [.ref (ra 0), .ref (rb 0), .ref (rd 0), .int (nI (ct 0)), .int (nI (pb 0)), .int (nI (bw 0)), .int (nI (rc 0)), .int (nI (to 0)), .int (nI (la 0)), .int (nI (se 0)), .int (nI (th 0))])), (ra 0, zk_a cI 300 (pl 0)), (rb 0, zk_a cI 300 (ln 0)), (rd 0, zk_a cI 300 (ds 0)), (r 1, .inr (2, [.ref (ra 1), .ref (rb 1), .ref (rd 1), .int (nI (ct 1)), .int (nI (pb 1)), .int (nI (bw 1)), .int (nI (rc 1)), .int (nI (to 1)), .int (nI (la 1)), .int (nI (se 1)), .int (nI (th 1))])), (ra 1, zk_a cI 300 (pl 1)), (rb 1, zk_a cI 300 (ln 1)), (rd 1, zk_a cI 300 (ds 1)), (r 2, .inr (2, [.ref (ra 2), .ref (rb 2), .ref (rd 2), .int (nI ct9), .int (nI pb9), .int (nI bw9), .int (nI rc9), .int (nI 1), .int (nI la9), .int (nI se9), .int (nI th9)])), (ra 2, zk_a cI 300 pl9), (rb 2, zk_a cI 300 ln9), (rd 2, zk_a cI 300 ds9), (r 3, .inr (2, [.ref (ra 3), .ref (rb 3), .ref (rd 3), .int (nI (ct 3)), .int (nI (pb 3)), .int (nI (bw 3)), .int (nI (rc 3)), .int (nI (to 3)), .int (nI (la 3)), .int (nI (se 3)), .int (nI (th 3))])), (ra 3, zk_a cI 300 (pl 3)), (rb 3, zk_a cI 300 (ln 3)), (rd 3, zk_a cI 300 (ds 3))] H := hP
            refine lv_astore_n (lv' := [(3, .ref (r 2)), (0, .ref x_), (1, .int (nI 2)), (2, .int (nI 1))]) hx hb dX4_bits_26 rfl hl (by decide) rfl (fun ls hl => ?_)
            refine lv_iload_n hx hb dX4_bits_27 rfl (lv_at hl 3 rfl) ?_
            refine zk_if_ne (tgt := 38) hx hb (by omega) dX4_bits_28 (by decide) (fun c_13 => ?_) (fun c_13 => absurd c_13 (by omega))
            refine lv_aload_n hx hb dX4_bits_38 rfl (lv_at hl 0 rfl) ?_
            refine va_get (D := D) (ci := 2) (v := .int (nI bw9)) (C := RX2) (T := TX2) (N := 11) hx hb hts ziX4_bits_2 hown hK hP 19 rfl rfl 5 (by decide) f120 (fun _ h9 => h9) rfl dX4_bits_39 ?_
            exact hret _ ls _ _ _ (fl9, fd9, fc9, le9, di9, co9, pn9, pd9, zk_up ct 2 ct9, zk_up pb 2 pb9, zk_up bw 2 bw9, zk_up rc 2 rc9, zk_up to 2 1, zk_up la 2 la9, zk_up se 2 se9, zk_up th 2 th9, zk_upF pl 2 pl9, zk_upF ln 2 ln9, zk_upF ds 2 ds9) dX4_bits_42 ⟨by rw [zA_way, zk_val (n := 4) (by decide) (by decide), zA_what, zk_win (by omega) (by decide), if_neg (by decide +kernel)]; rfl, fun j hj he _ _ => by rw [(nI_eq (by omega) (by decide)).mp he.symm]; exact zk_up_eq _ _ _, zr_rows_up h6 hu⟩ hP hS
        · skip
          refine lv_bipush (v := (-2)) hx hb dX4_bits_18 (by decide +kernel) ?_
          exact hret _ ls _ _ _ (fl, fd, fc, le, di, co, pn, pd, ct, pb, bw, rc, to, la, se, th, pl, ln, ds) dX4_bits_20 ⟨by rw [zA_way, zk_val (n := 4) (by decide) (by decide), zA_what, zk_wout (n := 1) (Or.inr c_11)], fun j hj he _ h7 => absurd h7 c_11, h6⟩ hP hS
    · subst hw
      refine lv_iload_n hx hb dX4_bits_9 rfl (lv_at hl 2 rfl) ?_
      refine lv_if_lt (tgt := 18) hx hb dX4_bits_10 (by decide) (fun c_14 => ?_) (fun c_14 => ?_)
      · skip
        refine lv_bipush (v := (-2)) hx hb dX4_bits_18 (by decide +kernel) ?_
        exact hret _ ls _ _ _ (fl, fd, fc, le, di, co, pn, pd, ct, pb, bw, rc, to, la, se, th, pl, ln, ds) dX4_bits_20 ⟨by rw [zA_way, zk_val (n := 4) (by decide) (by decide), zA_what, zk_wout (n := 1) (Or.inl c_14)], fun j hj he h7 _ => absurd c_14 h7, h6⟩ hP hS
      · skip
        refine lv_iload_n hx hb dX4_bits_13 rfl (lv_at hl 2 rfl) ?_
        refine lv_iconst (v := (nI 1)) hx hb dX4_bits_14 (by decide +kernel) ?_
        refine lv_icmp_le (tgt := 21) hx hb dX4_bits_15 (by decide) (fun c_15 => ?_) (fun c_15 => ?_)
        · skip
          obtain ⟨v, hv, hve⟩ := zk_wof (n := 1) (by decide) c_14 c_15
          subst hve
          rcases (show v = 0 ∨ v = 1 by omega) with hv0 | hv0
          · subst hv0
            refine lv_aload_n hx hb dX4_bits_21 rfl (lv_at hl 0 rfl) ?_
            refine lv_iload_n hx hb dX4_bits_22 rfl (lv_at hl 1 rfl) ?_
            refine zk_wrA (As := [.int (nI 3)]) (rest := []) ⟨hx, hb, hml, hown, hts⟩ hN (c_rowOf l D cI cZ cR x_ q_ f sp dp fa fb fc le di fl fd t b ah sz g k_ ka kb kd co pn pd rf (r 3) (ra 3) (rb 3) (rd 3) (ct 3) (pb 3) (bw 3) (rc 3) (to 3) (la 3) (se 3) (th 3) (pl 3) (ln 3) (ds 3) 3 (by omega) (by omega) (by omega) (by omega) h4 (by decide) (h5 3 (by decide)) (h6 3 (by decide))) (cwV 1 hts gX4_bits_X4_rowOf rfl rfl rfl (by decide +kernel) ⟨Nat.le_of_ble_eq_true rfl, Nat.le_of_ble_eq_true rfl⟩) hK hP (zk_D hD rfl) hS hA [0, 1, 2, 3, 4, 5, 6, 7, 8, 9, 10, 23, 24, 25, 26] rfl (by decide) (fun _ => rfl) rfl rfl rfl rfl hl.1 rfl (Nat.le_of_ble_eq_true rfl) dX4_bits_23 ⟨Nat.zero_le _, Nat.zero_le _⟩ (fun u H locs hu hP hS => ?_)
            obtain ⟨co9, pn9, pd9, fl9, fd9, fc9, le9, di9, pl9, ln9, ds9, ct9, pb9, bw9, rc9, la9, se9, th9⟩ := u
            have hu : zr_row 3 g ah sz sp dp ct9 pb9 bw9 rc9 pl9 ln9 ds9 := hu
            have hP : va_P D vwCl [(x_, .inr (4, [.ref t, .ref f, .ref k_, .ref q_])), (f, .inr (0, [.ref t, .int (nI sp), .int (nI dp), .ref fa, .ref fb, .int (nI fc9), .int (nI le9), .int (nI di9)])), (fa, zk_a cI 38 fl9), (fb, zk_a cI 38 fd9), (t, .inr (3, [.ref b, .int (nI ah), .int (nI sz)])), (b, zk_a cI 360 g), (k_, .inr (1, [.ref ka, .ref kb, .ref kd])), (ka, zk_a cI 301 co9), (kb, zk_a cI 300 pn9), (kd, zk_a cI 300 pd9), (q_, .inl (cR, 4, .inr (.inr (.inr (.inr rf))))), (r 0, .inr (2, [.ref (ra 0), .ref (rb 0), .ref (rd 0), .int (nI (ct 0)), .int (nI (pb 0)), .int (nI (bw 0)), .int (nI (rc 0)), .int (nI (to 0)), .int (nI (la 0)), .int (nI (se 0)), .int (nI (th 0))])), (ra 0, zk_a cI 300 (pl 0)), (rb 0, zk_a cI 300 (ln 0)), (rd 0, zk_a cI 300 (ds 0)), (r 1, .inr (2, [.ref (ra 1), .ref (rb 1), .ref (rd 1), .int (nI (ct 1)), .int (nI (pb 1)), .int (nI (bw 1)), .int (nI (rc 1)), .int (nI (to 1)), .int (nI (la 1)), .int (nI (se 1)), .int (nI (th 1))])), (ra 1, zk_a cI 300 (pl 1)), (rb 1, zk_a cI 300 (ln 1)), (rd 1, zk_a cI 300 (ds 1)), (r 2, .inr (2, [.ref (ra 2), .ref (rb 2), .ref (rd 2), .int (nI (ct 2)), .int (nI (pb 2)), .int (nI (bw 2)), .int (nI (rc 2)), .int (nI (to 2)), .int (nI (la 2)), .int (nI (se 2)), .int (nI (th 2))])), (ra 2, zk_a cI 300 (pl 2)), (rb 2, zk_a cI 300 (ln 2)), (rd 2, zk_a cI 300 (ds 2)), (r 3, .inr (2, [.ref (ra 3), .ref (rb 3), .ref (rd 3), .int (nI ct9), .int (nI pb9), .int (nI bw9), .int (nI rc9), .int (nI 1), .int (nI la9), .int (nI se9), .int (nI th9)])), (ra 3, zk_a cI 300 pl9), (rb 3, zk_a cI 300 ln9), (rd 3, zk_a cI 300 ds9)] H := hP
            refine lv_astore_n (lv' := [(3, .ref (r 3)), (0, .ref x_), (1, .int (nI 3)), (2, .int (nI 0))]) hx hb dX4_bits_26 rfl hl (by decide) rfl (fun ls hl => ?_)
            refine lv_iload_n hx hb dX4_bits_27 rfl (lv_at hl 3 rfl) ?_
            refine zk_if_ne (tgt := 38) hx hb (by omega) dX4_bits_28 (by decide) (fun c_16 => absurd c_16 (by omega)) (fun c_16 => ?_)
            refine lv_aload_n hx hb dX4_bits_31 rfl (lv_at hl 0 rfl) ?_
            refine va_get (D := D) (ci := 2) (v := .int (nI pb9)) (C := RX2) (T := TX2) (N := 11) hx hb hts ziX4_bits_2 hown hK hP 23 rfl rfl 4 (by decide) f117 (fun _ h9 => h9) rfl dX4_bits_32 ?_
            refine lv_goto (tgt := 42) hx hb dX4_bits_35 (by decide) ?_
            exact hret _ ls _ _ _ (fl9, fd9, fc9, le9, di9, co9, pn9, pd9, zk_up ct 3 ct9, zk_up pb 3 pb9, zk_up bw 3 bw9, zk_up rc 3 rc9, zk_up to 3 1, zk_up la 3 la9, zk_up se 3 se9, zk_up th 3 th9, zk_upF pl 3 pl9, zk_upF ln 3 ln9, zk_upF ds 3 ds9) dX4_bits_42 ⟨by rw [zA_way, zk_val (n := 4) (by decide) (by decide), zA_what, zk_win (by omega) (by decide), if_pos nI_0]; rfl, fun j hj he _ _ => by rw [(nI_eq (by omega) (by decide)).mp he.symm]; exact zk_up_eq _ _ _, zr_rows_up h6 hu⟩ hP hS
          · subst hv0
            refine lv_aload_n hx hb dX4_bits_21 rfl (lv_at hl 0 rfl) ?_
            refine lv_iload_n hx hb dX4_bits_22 rfl (lv_at hl 1 rfl) ?_
            refine zk_wrA (As := [.int (nI 3)]) (rest := []) ⟨hx, hb, hml, hown, hts⟩ hN (c_rowOf l D cI cZ cR x_ q_ f sp dp fa fb fc le di fl fd t b ah sz g k_ ka kb kd co pn pd rf (r 3) (ra 3) (rb 3) (rd 3) (ct 3) (pb 3) (bw 3) (rc 3) (to 3) (la 3) (se 3) (th 3) (pl 3) (ln 3) (ds 3) 3 (by omega) (by omega) (by omega) (by omega) h4 (by decide) (h5 3 (by decide)) (h6 3 (by decide))) (cwV 1 hts gX4_bits_X4_rowOf rfl rfl rfl (by decide +kernel) ⟨Nat.le_of_ble_eq_true rfl, Nat.le_of_ble_eq_true rfl⟩) hK hP (zk_D hD rfl) hS hA [0, 1, 2, 3, 4, 5, 6, 7, 8, 9, 10, 23, 24, 25, 26] rfl (by decide) (fun _ => rfl) rfl rfl rfl rfl hl.1 rfl (Nat.le_of_ble_eq_true rfl) dX4_bits_23 ⟨Nat.zero_le _, Nat.zero_le _⟩ (fun u H locs hu hP hS => ?_)
            obtain ⟨co9, pn9, pd9, fl9, fd9, fc9, le9, di9, pl9, ln9, ds9, ct9, pb9, bw9, rc9, la9, se9, th9⟩ := u
            have hu : zr_row 3 g ah sz sp dp ct9 pb9 bw9 rc9 pl9 ln9 ds9 := hu
            have hP : va_P D vwCl [(x_, .inr (4, [.ref t, .ref f, .ref k_, .ref q_])), (f, .inr (0, [.ref t, .int (nI sp), .int (nI dp), .ref fa, .ref fb, .int (nI fc9), .int (nI le9), .int (nI di9)])), (fa, zk_a cI 38 fl9), (fb, zk_a cI 38 fd9), (t, .inr (3, [.ref b, .int (nI ah), .int (nI sz)])), (b, zk_a cI 360 g), (k_, .inr (1, [.ref ka, .ref kb, .ref kd])), (ka, zk_a cI 301 co9), (kb, zk_a cI 300 pn9), (kd, zk_a cI 300 pd9), (q_, .inl (cR, 4, .inr (.inr (.inr (.inr rf))))), (r 0, .inr (2, [.ref (ra 0), .ref (rb 0), .ref (rd 0), .int (nI (ct 0)), .int (nI (pb 0)), .int (nI (bw 0)), .int (nI (rc 0)), .int (nI (to 0)), .int (nI (la 0)), .int (nI (se 0)), .int (nI (th 0))])), (ra 0, zk_a cI 300 (pl 0)), (rb 0, zk_a cI 300 (ln 0)), (rd 0, zk_a cI 300 (ds 0)), (r 1, .inr (2, [.ref (ra 1), .ref (rb 1), .ref (rd 1), .int (nI (ct 1)), .int (nI (pb 1)), .int (nI (bw 1)), .int (nI (rc 1)), .int (nI (to 1)), .int (nI (la 1)), .int (nI (se 1)), .int (nI (th 1))])), (ra 1, zk_a cI 300 (pl 1)), (rb 1, zk_a cI 300 (ln 1)), (rd 1, zk_a cI 300 (ds 1)), (r 2, .inr (2, [.ref (ra 2), .ref (rb 2), .ref (rd 2), .int (nI (ct 2)), .int (nI (pb 2)), .int (nI (bw 2)), .int (nI (rc 2)), .int (nI (to 2)), .int (nI (la 2)), .int (nI (se 2)), .int (nI (th 2))])), (ra 2, zk_a cI 300 (pl 2)), (rb 2, zk_a cI 300 (ln 2)), (rd 2, zk_a cI 300 (ds 2)), (r 3, .inr (2, [.ref (ra 3), .ref (rb 3), .ref (rd 3), .int (nI ct9), .int (nI pb9), .int (nI bw9), .int (nI rc9), .int (nI 1), .int (nI la9), .int (nI se9), .int (nI th9)])), (ra 3, zk_a cI 300 pl9), (rb 3, zk_a cI 300 ln9), (rd 3, zk_a cI 300 ds9)] H := hP
            refine lv_astore_n (lv' := [(3, .ref (r 3)), (0, .ref x_), (1, .int (nI 3)), (2, .int (nI 1))]) hx hb dX4_bits_26 rfl hl (by decide) rfl (fun ls hl => ?_)
            refine lv_iload_n hx hb dX4_bits_27 rfl (lv_at hl 3 rfl) ?_
            refine zk_if_ne (tgt := 38) hx hb (by omega) dX4_bits_28 (by decide) (fun c_17 => ?_) (fun c_17 => absurd c_17 (by omega))
            refine lv_aload_n hx hb dX4_bits_38 rfl (lv_at hl 0 rfl) ?_
            refine va_get (D := D) (ci := 2) (v := .int (nI bw9)) (C := RX2) (T := TX2) (N := 11) hx hb hts ziX4_bits_2 hown hK hP 23 rfl rfl 5 (by decide) f120 (fun _ h9 => h9) rfl dX4_bits_39 ?_
            exact hret _ ls _ _ _ (fl9, fd9, fc9, le9, di9, co9, pn9, pd9, zk_up ct 3 ct9, zk_up pb 3 pb9, zk_up bw 3 bw9, zk_up rc 3 rc9, zk_up to 3 1, zk_up la 3 la9, zk_up se 3 se9, zk_up th 3 th9, zk_upF pl 3 pl9, zk_upF ln 3 ln9, zk_upF ds 3 ds9) dX4_bits_42 ⟨by rw [zA_way, zk_val (n := 4) (by decide) (by decide), zA_what, zk_win (by omega) (by decide), if_neg (by decide +kernel)]; rfl, fun j hj he _ _ => by rw [(nI_eq (by omega) (by decide)).mp he.symm]; exact zk_up_eq _ _ _, zr_rows_up h6 hu⟩ hP hS
        · skip
          refine lv_bipush (v := (-2)) hx hb dX4_bits_18 (by decide +kernel) ?_
          exact hret _ ls _ _ _ (fl, fd, fc, le, di, co, pn, pd, ct, pb, bw, rc, to, la, se, th, pl, ln, ds) dX4_bits_20 ⟨by rw [zA_way, zk_val (n := 4) (by decide) (by decide), zA_what, zk_wout (n := 1) (Or.inr c_15)], fun j hj he _ h7 => absurd h7 c_15, h6⟩ hP hS
  · skip
    have hno := zk_wz0 c_1
    refine lv_iconst (v := (-1)) hx hb dX4_bits_7 (by decide +kernel) ?_
    exact hret _ ls _ _ _ (fl, fd, fc, le, di, co, pn, pd, ct, pb, bw, rc, to, la, se, th, pl, ln, ds) dX4_bits_8 ⟨by rw [zA_way, zk_inv hno], fun j hj he _ _ => absurd hno (zk_wno hj he), h6⟩ hP hS
end
section
def rmX4_piece : Room := { frames := 7, cells := 0, slots := 0, locals := 158 }
set_option maxRecDepth 20000 in
theorem ziX4_piece_2 : ∀ w ∈ wsX20, w ∈ wsX4_piece := by decide +kernel
set_option maxHeartbeats 4000000 in
set_option maxRecDepth 100000 in
/-- piece -/
theorem c_piece (l : Launch) (D : va_G) (cI cZ cR : ClassId) (x_ : Nat) (q_ : Nat) (t : Nat) (f : Nat) (k_ : Nat) (rf : Nat → Option Nat) (sp : Nat) (dp : Nat) (fa : Nat) (fb : Nat) (b : Nat) (ka : Nat) (kb : Nat) (kd : Nat) (r : Nat → Nat) (ra : Nat → Nat) (rb : Nat → Nat) (rd : Nat → Nat) (fl : Nat → Nat) (fd : Nat → Nat) (fc : Nat) (le : Nat) (di : Nat) (g : Nat → Nat) (ah : Nat) (sz : Nat) (co : Nat → Nat) (pn : Nat → Nat) (pd : Nat → Nat) (ct : Nat → Nat) (pb : Nat → Nat) (bw : Nat → Nat) (rc : Nat → Nat) (to : Nat → Nat) (la : Nat → Nat) (se : Nat → Nat) (th : Nat → Nat) (pl : Nat → Nat → Nat) (ln : Nat → Nat → Nat) (ds : Nat → Nat → Nat) (w_ : Int32) (i_ : Int32) (v_ : Int32) (h0 : ah ≤ 60) (h1 : sz ≤ 300) (h2 : sp ≤ 300) (h3 : dp ≤ 64) (h4 : ∀ j, g j < 256) (h5 : ∀ i, i < 4 → rf i = some (r i)) (h6 : zr_rows g ah sz sp dp to ct pb bw rc pl ln ds) : zk_Wi l yX4_piece wsX4_piece rmX4_piece D (zk_t cI cZ cR) [.ref x_, .int w_, .int i_, .int v_] [(x_, .inr (4, [.ref t, .ref f, .ref k_, .ref q_])), (f, .inr (0, [.ref t, .int (nI sp), .int (nI dp), .ref fa, .ref fb, .int (nI fc), .int (nI le), .int (nI di)])), (fa, zk_a cI 38 fl), (fb, zk_a cI 38 fd), (t, .inr (3, [.ref b, .int (nI ah), .int (nI sz)])), (b, zk_a cI 360 g), (k_, .inr (1, [.ref ka, .ref kb, .ref kd])), (ka, zk_a cI 301 co), (kb, zk_a cI 300 pn), (kd, zk_a cI 300 pd), (q_, .inl (cR, 4, .inr (.inr (.inr (.inr rf))))), (r 0, .inr (2, [.ref (ra 0), .ref (rb 0), .ref (rd 0), .int (nI (ct 0)), .int (nI (pb 0)), .int (nI (bw 0)), .int (nI (rc 0)), .int (nI (to 0)), .int (nI (la 0)), .int (nI (se 0)), .int (nI (th 0))])), (ra 0, zk_a cI 300 (pl 0)), (rb 0, zk_a cI 300 (ln 0)), (rd 0, zk_a cI 300 (ds 0)), (r 1, .inr (2, [.ref (ra 1), .ref (rb 1), .ref (rd 1), .int (nI (ct 1)), .int (nI (pb 1)), .int (nI (bw 1)), .int (nI (rc 1)), .int (nI (to 1)), .int (nI (la 1)), .int (nI (se 1)), .int (nI (th 1))])), (ra 1, zk_a cI 300 (pl 1)), (rb 1, zk_a cI 300 (ln 1)), (rd 1, zk_a cI 300 (ds 1)), (r 2, .inr (2, [.ref (ra 2), .ref (rb 2), .ref (rd 2), .int (nI (ct 2)), .int (nI (pb 2)), .int (nI (bw 2)), .int (nI (rc 2)), .int (nI (to 2)), .int (nI (la 2)), .int (nI (se 2)), .int (nI (th 2))])), (ra 2, zk_a cI 300 (pl 2)), (rb 2, zk_a cI 300 (ln 2)), (rd 2, zk_a cI 300 (ds 2)), (r 3, .inr (2, [.ref (ra 3), .ref (rb 3), .ref (rd 3), .int (nI (ct 3)), .int (nI (pb 3)), .int (nI (bw 3)), .int (nI (rc 3)), .int (nI (to 3)), .int (nI (la 3)), .int (nI (se 3)), .int (nI (th 3))])), (ra 3, zk_a cI 300 (pl 3)), (rb 3, zk_a cI 300 (ln 3)), (rd 3, zk_a cI 300 (ds 3))] (fun (r : Int32) (u : (Nat → Nat) × (Nat → Nat) × Nat × Nat × Nat × (Nat → Nat) × (Nat → Nat) × (Nat → Nat) × (Nat → Nat) × (Nat → Nat) × (Nat → Nat) × (Nat → Nat) × (Nat → Nat) × (Nat → Nat) × (Nat → Nat) × (Nat → Nat) × (Nat → Nat → Nat) × (Nat → Nat → Nat) × (Nat → Nat → Nat)) => match u with | (fl2, fd2, fc2, le2, di2, co2, pn2, pd2, ct2, pb2, bw2, rc2, to2, la2, se2, th2, pl2, ln2, ds2) => r = zA_way w_ (fun j => zA_piece i_ v_ (ct2 j) (pl2 j) (ln2 j) (ds2 j)) ∧ (∀ j, j < 4 → w_ = nI j → to2 j = 1) ∧ zr_rows g ah sz sp dp to2 ct2 pb2 bw2 rc2 pl2 ln2 ds2) (fun u => match u with | (fl2, fd2, fc2, le2, di2, co2, pn2, pd2, ct2, pb2, bw2, rc2, to2, la2, se2, th2, pl2, ln2, ds2) => [(x_, .inr (4, [.ref t, .ref f, .ref k_, .ref q_])), (f, .inr (0, [.ref t, .int (nI sp), .int (nI dp), .ref fa, .ref fb, .int (nI fc2), .int (nI le2), .int (nI di2)])), (fa, zk_a cI 38 fl2), (fb, zk_a cI 38 fd2), (t, .inr (3, [.ref b, .int (nI ah), .int (nI sz)])), (b, zk_a cI 360 g), (k_, .inr (1, [.ref ka, .ref kb, .ref kd])), (ka, zk_a cI 301 co2), (kb, zk_a cI 300 pn2), (kd, zk_a cI 300 pd2), (q_, .inl (cR, 4, .inr (.inr (.inr (.inr rf))))), (r 0, .inr (2, [.ref (ra 0), .ref (rb 0), .ref (rd 0), .int (nI (ct2 0)), .int (nI (pb2 0)), .int (nI (bw2 0)), .int (nI (rc2 0)), .int (nI (to2 0)), .int (nI (la2 0)), .int (nI (se2 0)), .int (nI (th2 0))])), (ra 0, zk_a cI 300 (pl2 0)), (rb 0, zk_a cI 300 (ln2 0)), (rd 0, zk_a cI 300 (ds2 0)), (r 1, .inr (2, [.ref (ra 1), .ref (rb 1), .ref (rd 1), .int (nI (ct2 1)), .int (nI (pb2 1)), .int (nI (bw2 1)), .int (nI (rc2 1)), .int (nI (to2 1)), .int (nI (la2 1)), .int (nI (se2 1)), .int (nI (th2 1))])), (ra 1, zk_a cI 300 (pl2 1)), (rb 1, zk_a cI 300 (ln2 1)), (rd 1, zk_a cI 300 (ds2 1)), (r 2, .inr (2, [.ref (ra 2), .ref (rb 2), .ref (rd 2), .int (nI (ct2 2)), .int (nI (pb2 2)), .int (nI (bw2 2)), .int (nI (rc2 2)), .int (nI (to2 2)), .int (nI (la2 2)), .int (nI (se2 2)), .int (nI (th2 2))])), (ra 2, zk_a cI 300 (pl2 2)), (rb 2, zk_a cI 300 (ln2 2)), (rd 2, zk_a cI 300 (ds2 2)), (r 3, .inr (2, [.ref (ra 3), .ref (rb 3), .ref (rd 3), .int (nI (ct2 3)), .int (nI (pb2 3)), .int (nI (bw2 3)), .int (nI (rc2 3)), .int (nI (to2 3)), .int (nI (la2 3)), .int (nI (se2 3)), .int (nI (th2 3))])), (ra 3, zk_a cI 300 (pl2 3)), (rb 3, zk_a cI 300 (ln2 3)), (rd 3, zk_a cI 300 (ds2 3))]) := by
  refine zk_enterI RX4 cX4_piece 5 (by decide) rfl rfl (Nat.le_of_ble_eq_true rfl) ?_
  intro p e s m args below meth c ls A Q hx hb hml hown hts hP hK hD hN hl hA hS hret
  have hl : lv_has ls 5 [(0, .ref x_), (1, .int w_), (2, .int i_), (3, .int v_)] := hl
  have f105 := hts (.fieldLink RX4 105 "MatchFinders$Row" "count" "I") (by decide +kernel)
  have f108 := hts (.fieldLink RX4 108 "MatchFinders$Row" "places" "[I") (by decide +kernel)
  have f111 := hts (.fieldLink RX4 111 "MatchFinders$Row" "lengths" "[I") (by decide +kernel)
  have f114 := hts (.fieldLink RX4 114 "MatchFinders$Row" "distances" "[I") (by decide +kernel)
  refine lv_iload_n hx hb dX4_piece_0 rfl (lv_at hl 1 rfl) ?_
  refine zk_rdS (As := [.int w_]) (rest := []) ⟨hx, hb, hml, hown, hts⟩ hN (c_isWay l D cI cZ cR w_) (va_cwS 1 hts gX4_piece_X4_isWay rfl rfl rfl (by decide +kernel) ⟨Nat.le_of_ble_eq_true rfl, Nat.le_of_ble_eq_true rfl⟩) hK hP (zk_D hD rfl) [] rfl (by decide) rfl hl.1 rfl (Nat.le_of_ble_eq_true rfl) dX4_piece_1 ⟨Nat.zero_le _, Nat.zero_le _⟩ ?_
  refine lv_if_ne (tgt := 9) hx hb dX4_piece_4 (by decide) (fun c_1 => ?_) (fun c_1 => ?_)
  · skip
    obtain ⟨j, hj, hje⟩ := zk_wz2 (by decide) c_1
    subst hje
    rcases (show j = 0 ∨ j = 1 ∨ j = 2 ∨ j = 3 by omega) with hw | hw | hw | hw
    · subst hw
      refine lv_aload_n hx hb dX4_piece_9 rfl (lv_at hl 0 rfl) ?_
      refine lv_iload_n hx hb dX4_piece_10 rfl (lv_at hl 1 rfl) ?_
      refine zk_wrA (As := [.int (nI 0)]) (rest := []) ⟨hx, hb, hml, hown, hts⟩ hN (c_rowOf l D cI cZ cR x_ q_ f sp dp fa fb fc le di fl fd t b ah sz g k_ ka kb kd co pn pd rf (r 0) (ra 0) (rb 0) (rd 0) (ct 0) (pb 0) (bw 0) (rc 0) (to 0) (la 0) (se 0) (th 0) (pl 0) (ln 0) (ds 0) 0 (by omega) (by omega) (by omega) (by omega) h4 (by decide) (h5 0 (by decide)) (h6 0 (by decide))) (cwV 1 hts gX4_piece_X4_rowOf rfl rfl rfl (by decide +kernel) ⟨Nat.le_of_ble_eq_true rfl, Nat.le_of_ble_eq_true rfl⟩) hK hP (zk_D hD rfl) hS hA [0, 1, 2, 3, 4, 5, 6, 7, 8, 9, 10, 11, 12, 13, 14] rfl (by decide) (fun _ => rfl) rfl rfl rfl rfl hl.1 rfl (Nat.le_of_ble_eq_true rfl) dX4_piece_11 ⟨Nat.zero_le _, Nat.zero_le _⟩ (fun u H locs hu hP hS => ?_)
      obtain ⟨co9, pn9, pd9, fl9, fd9, fc9, le9, di9, pl9, ln9, ds9, ct9, pb9, bw9, rc9, la9, se9, th9⟩ := u
      have hu : zr_row 0 g ah sz sp dp ct9 pb9 bw9 rc9 pl9 ln9 ds9 := hu
      have hP : va_P D vwCl [(x_, .inr (4, [.ref t, .ref f, .ref k_, .ref q_])), (f, .inr (0, [.ref t, .int (nI sp), .int (nI dp), .ref fa, .ref fb, .int (nI fc9), .int (nI le9), .int (nI di9)])), (fa, zk_a cI 38 fl9), (fb, zk_a cI 38 fd9), (t, .inr (3, [.ref b, .int (nI ah), .int (nI sz)])), (b, zk_a cI 360 g), (k_, .inr (1, [.ref ka, .ref kb, .ref kd])), (ka, zk_a cI 301 co9), (kb, zk_a cI 300 pn9), (kd, zk_a cI 300 pd9), (q_, .inl (cR, 4, .inr (.inr (.inr (.inr rf))))), (r 0, .inr (2, [.ref (ra 0), .ref (rb 0), .ref (rd 0), .int (nI ct9), .int (nI pb9), .int (nI bw9), .int (nI rc9), .int (nI 1), .int (nI la9), .int (nI se9), .int (nI th9)])), (ra 0, zk_a cI 300 pl9), (rb 0, zk_a cI 300 ln9), (rd 0, zk_a cI 300 ds9), (r 1, .inr (2, [.ref (ra 1), .ref (rb 1), .ref (rd 1), .int (nI (ct 1)), .int (nI (pb 1)), .int (nI (bw 1)), .int (nI (rc 1)), .int (nI (to 1)), .int (nI (la 1)), .int (nI (se 1)), .int (nI (th 1))])), (ra 1, zk_a cI 300 (pl 1)), (rb 1, zk_a cI 300 (ln 1)), (rd 1, zk_a cI 300 (ds 1)), (r 2, .inr (2, [.ref (ra 2), .ref (rb 2), .ref (rd 2), .int (nI (ct 2)), .int (nI (pb 2)), .int (nI (bw 2)), .int (nI (rc 2)), .int (nI (to 2)), .int (nI (la 2)), .int (nI (se 2)), .int (nI (th 2))])), (ra 2, zk_a cI 300 (pl 2)), (rb 2, zk_a cI 300 (ln 2)), (rd 2, zk_a cI 300 (ds 2)), (r 3, .inr (2, [.ref (ra 3), .ref (rb 3), .ref (rd 3), .int (nI (ct 3)), .int (nI (pb 3)), .int (nI (bw 3)), .int (nI (rc 3)), .int (nI (to 3)), .int (nI (la 3)), .int (nI (se 3)), .int (nI (th 3))])), (ra 3, zk_a cI 300 (pl 3)), (rb 3, zk_a cI 300 (ln 3)), (rd 3, zk_a cI 300 (ds 3))] H := hP
      refine lv_astore (lv' := [(4, .ref (r 0)), (0, .ref x_), (1, .int (nI 0)), (2, .int i_), (3, .int v_)]) hx hb dX4_piece_14 hl (by decide) rfl (fun ls hl => ?_)
      refine lv_iload_n hx hb dX4_piece_16 rfl (lv_at hl 3 rfl) ?_
      refine lv_if_lt (tgt := 29) hx hb dX4_piece_17 (by decide) (fun c_2 => ?_) (fun c_2 => ?_)
      · skip
        refine lv_iconst (v := (-1)) hx hb dX4_piece_29 (by decide +kernel) ?_
        exact hret _ ls _ _ _ (fl9, fd9, fc9, le9, di9, co9, pn9, pd9, zk_up ct 0 ct9, zk_up pb 0 pb9, zk_up bw 0 bw9, zk_up rc 0 rc9, zk_up to 0 1, zk_up la 0 la9, zk_up se 0 se9, zk_up th 0 th9, zk_upF pl 0 pl9, zk_upF ln 0 ln9, zk_upF ds 0 ds9) dX4_piece_30 ⟨by rw [zA_way, zk_val (n := 4) (by decide) (by decide)]; exact (zk_pcn (Or.inl c_2)).symm, fun j hj he => by rw [(nI_eq (by omega) (by decide)).mp he.symm]; exact zk_up_eq _ _ _, zr_rows_up h6 hu⟩ hP hS
      · skip
        refine lv_iload_n hx hb dX4_piece_20 rfl (lv_at hl 3 rfl) ?_
        refine lv_aload hx hb dX4_piece_21 (lv_at hl 0 rfl) ?_
        refine va_get (D := D) (ci := 2) (v := .int (nI ct9)) (C := RX2) (T := TX2) (N := 11) hx hb hts ziX4_piece_2 hown hK hP 11 rfl rfl 3 (by decide) f105 (fun _ h9 => h9) rfl dX4_piece_23 ?_
        refine lv_icmp_lt (tgt := 31) hx hb dX4_piece_26 (by decide) (fun c_3 => ?_) (fun c_3 => ?_)
        · skip
          obtain ⟨ii, hii, hie⟩ := zk_ii c_2 c_3 (zr_row_ct hu h1)
          subst hie
          have hct := zr_row_ct hu h1
          refine lv_iload_n hx hb dX4_piece_31 rfl (lv_at hl 4 rfl) ?_
          by_cases hv0 : v_ = nI 0
          · subst hv0
            refine lv_tableIn (off := 28) (tgt := 60) hx hb dX4_piece_32 (by decide +kernel) (by decide +kernel) (by decide +kernel) (by decide) ?_
            refine lv_aload hx hb dX4_piece_60 (lv_at hl 0 rfl) ?_
            refine va_get (D := D) (ci := 2) (v := .ref (ra 0)) (C := RX2) (T := TX2) (N := 11) hx hb hts ziX4_piece_2 hown hK hP 11 rfl rfl 0 (by decide) f108 (fun _ h9 => h9) rfl dX4_piece_62 ?_
            refine lv_iload_n hx hb dX4_piece_65 rfl (lv_at hl 3 rfl) ?_
            refine zk_ild (v := pl9 ii) hx hb hK hP 12 0 (i := ii) (g := pl9) rfl rfl (by omega) (by decide) rfl dX4_piece_66 ?_
            exact hret _ ls _ _ _ (fl9, fd9, fc9, le9, di9, co9, pn9, pd9, zk_up ct 0 ct9, zk_up pb 0 pb9, zk_up bw 0 bw9, zk_up rc 0 rc9, zk_up to 0 1, zk_up la 0 la9, zk_up se 0 se9, zk_up th 0 th9, zk_upF pl 0 pl9, zk_upF ln 0 ln9, zk_upF ds 0 ds9) dX4_piece_67 ⟨by rw [zA_way, zk_val (n := 4) (by decide) (by decide)]; exact (zk_pc0 hii (by omega)).symm, fun j hj he => by rw [(nI_eq (by omega) (by decide)).mp he.symm]; exact zk_up_eq _ _ _, zr_rows_up h6 hu⟩ hP hS
          · skip
            have hz0 := hv0
            clear hv0
            by_cases hv0 : v_ = nI 1
            · subst hv0
              refine lv_tableIn (off := 36) (tgt := 68) hx hb dX4_piece_32 (by decide +kernel) (by decide +kernel) (by decide +kernel) (by decide) ?_
              refine lv_aload hx hb dX4_piece_68 (lv_at hl 0 rfl) ?_
              refine va_get (D := D) (ci := 2) (v := .ref (rb 0)) (C := RX2) (T := TX2) (N := 11) hx hb hts ziX4_piece_2 hown hK hP 11 rfl rfl 1 (by decide) f111 (fun _ h9 => h9) rfl dX4_piece_70 ?_
              refine lv_iload_n hx hb dX4_piece_73 rfl (lv_at hl 3 rfl) ?_
              refine zk_ild (v := ln9 ii) hx hb hK hP 13 0 (i := ii) (g := ln9) rfl rfl (by omega) (by decide) rfl dX4_piece_74 ?_
              exact hret _ ls _ _ _ (fl9, fd9, fc9, le9, di9, co9, pn9, pd9, zk_up ct 0 ct9, zk_up pb 0 pb9, zk_up bw 0 bw9, zk_up rc 0 rc9, zk_up to 0 1, zk_up la 0 la9, zk_up se 0 se9, zk_up th 0 th9, zk_upF pl 0 pl9, zk_upF ln 0 ln9, zk_upF ds 0 ds9) dX4_piece_75 ⟨by rw [zA_way, zk_val (n := 4) (by decide) (by decide)]; exact (zk_pc1 hii (by omega)).symm, fun j hj he => by rw [(nI_eq (by omega) (by decide)).mp he.symm]; exact zk_up_eq _ _ _, zr_rows_up h6 hu⟩ hP hS
            · skip
              have hz1 := hv0
              clear hv0
              by_cases hv0 : v_ = nI 2
              · subst hv0
                refine lv_tableIn (off := 44) (tgt := 76) hx hb dX4_piece_32 (by decide +kernel) (by decide +kernel) (by decide +kernel) (by decide) ?_
                refine lv_aload hx hb dX4_piece_76 (lv_at hl 0 rfl) ?_
                refine va_get (D := D) (ci := 2) (v := .ref (rd 0)) (C := RX2) (T := TX2) (N := 11) hx hb hts ziX4_piece_2 hown hK hP 11 rfl rfl 2 (by decide) f114 (fun _ h9 => h9) rfl dX4_piece_78 ?_
                refine lv_iload_n hx hb dX4_piece_81 rfl (lv_at hl 3 rfl) ?_
                refine zk_ild (v := ds9 ii) hx hb hK hP 14 0 (i := ii) (g := ds9) rfl rfl (by omega) (by decide) rfl dX4_piece_82 ?_
                exact hret _ ls _ _ _ (fl9, fd9, fc9, le9, di9, co9, pn9, pd9, zk_up ct 0 ct9, zk_up pb 0 pb9, zk_up bw 0 bw9, zk_up rc 0 rc9, zk_up to 0 1, zk_up la 0 la9, zk_up se 0 se9, zk_up th 0 th9, zk_upF pl 0 pl9, zk_upF ln 0 ln9, zk_upF ds 0 ds9) dX4_piece_83 ⟨by rw [zA_way, zk_val (n := 4) (by decide) (by decide)]; exact (zk_pc2 hii (by omega)).symm, fun j hj he => by rw [(nI_eq (by omega) (by decide)).mp he.symm]; exact zk_up_eq _ _ _, zr_rows_up h6 hu⟩ hP hS
              · skip
                refine lv_tableOut (tgt := 84) hx hb dX4_piece_32 (zk_out3 hz0 hz1 hv0) (by decide) ?_
                refine lv_bipush (v := (-2)) hx hb dX4_piece_84 (by decide +kernel) ?_
                exact hret _ ls _ _ _ (fl9, fd9, fc9, le9, di9, co9, pn9, pd9, zk_up ct 0 ct9, zk_up pb 0 pb9, zk_up bw 0 bw9, zk_up rc 0 rc9, zk_up to 0 1, zk_up la 0 la9, zk_up se 0 se9, zk_up th 0 th9, zk_upF pl 0 pl9, zk_upF ln 0 ln9, zk_upF ds 0 ds9) dX4_piece_86 ⟨by rw [zA_way, zk_val (n := 4) (by decide) (by decide)]; exact (zk_pc3 hii (by omega) hz0 hz1 hv0).symm, fun j hj he => by rw [(nI_eq (by omega) (by decide)).mp he.symm]; exact zk_up_eq _ _ _, zr_rows_up h6 hu⟩ hP hS
        · skip
          refine lv_iconst (v := (-1)) hx hb dX4_piece_29 (by decide +kernel) ?_
          exact hret _ ls _ _ _ (fl9, fd9, fc9, le9, di9, co9, pn9, pd9, zk_up ct 0 ct9, zk_up pb 0 pb9, zk_up bw 0 bw9, zk_up rc 0 rc9, zk_up to 0 1, zk_up la 0 la9, zk_up se 0 se9, zk_up th 0 th9, zk_upF pl 0 pl9, zk_upF ln 0 ln9, zk_upF ds 0 ds9) dX4_piece_30 ⟨by rw [zA_way, zk_val (n := 4) (by decide) (by decide)]; exact (zk_pcn (Or.inr (zk_nl c_3))).symm, fun j hj he => by rw [(nI_eq (by omega) (by decide)).mp he.symm]; exact zk_up_eq _ _ _, zr_rows_up h6 hu⟩ hP hS
    · subst hw
      refine lv_aload_n hx hb dX4_piece_9 rfl (lv_at hl 0 rfl) ?_
      refine lv_iload_n hx hb dX4_piece_10 rfl (lv_at hl 1 rfl) ?_
      refine zk_wrA (As := [.int (nI 1)]) (rest := []) ⟨hx, hb, hml, hown, hts⟩ hN (c_rowOf l D cI cZ cR x_ q_ f sp dp fa fb fc le di fl fd t b ah sz g k_ ka kb kd co pn pd rf (r 1) (ra 1) (rb 1) (rd 1) (ct 1) (pb 1) (bw 1) (rc 1) (to 1) (la 1) (se 1) (th 1) (pl 1) (ln 1) (ds 1) 1 (by omega) (by omega) (by omega) (by omega) h4 (by decide) (h5 1 (by decide)) (h6 1 (by decide))) (cwV 1 hts gX4_piece_X4_rowOf rfl rfl rfl (by decide +kernel) ⟨Nat.le_of_ble_eq_true rfl, Nat.le_of_ble_eq_true rfl⟩) hK hP (zk_D hD rfl) hS hA [0, 1, 2, 3, 4, 5, 6, 7, 8, 9, 10, 15, 16, 17, 18] rfl (by decide) (fun _ => rfl) rfl rfl rfl rfl hl.1 rfl (Nat.le_of_ble_eq_true rfl) dX4_piece_11 ⟨Nat.zero_le _, Nat.zero_le _⟩ (fun u H locs hu hP hS => ?_)
      obtain ⟨co9, pn9, pd9, fl9, fd9, fc9, le9, di9, pl9, ln9, ds9, ct9, pb9, bw9, rc9, la9, se9, th9⟩ := u
      have hu : zr_row 1 g ah sz sp dp ct9 pb9 bw9 rc9 pl9 ln9 ds9 := hu
      have hP : va_P D vwCl [(x_, .inr (4, [.ref t, .ref f, .ref k_, .ref q_])), (f, .inr (0, [.ref t, .int (nI sp), .int (nI dp), .ref fa, .ref fb, .int (nI fc9), .int (nI le9), .int (nI di9)])), (fa, zk_a cI 38 fl9), (fb, zk_a cI 38 fd9), (t, .inr (3, [.ref b, .int (nI ah), .int (nI sz)])), (b, zk_a cI 360 g), (k_, .inr (1, [.ref ka, .ref kb, .ref kd])), (ka, zk_a cI 301 co9), (kb, zk_a cI 300 pn9), (kd, zk_a cI 300 pd9), (q_, .inl (cR, 4, .inr (.inr (.inr (.inr rf))))), (r 0, .inr (2, [.ref (ra 0), .ref (rb 0), .ref (rd 0), .int (nI (ct 0)), .int (nI (pb 0)), .int (nI (bw 0)), .int (nI (rc 0)), .int (nI (to 0)), .int (nI (la 0)), .int (nI (se 0)), .int (nI (th 0))])), (ra 0, zk_a cI 300 (pl 0)), (rb 0, zk_a cI 300 (ln 0)), (rd 0, zk_a cI 300 (ds 0)), (r 1, .inr (2, [.ref (ra 1), .ref (rb 1), .ref (rd 1), .int (nI ct9), .int (nI pb9), .int (nI bw9), .int (nI rc9), .int (nI 1), .int (nI la9), .int (nI se9), .int (nI th9)])), (ra 1, zk_a cI 300 pl9), (rb 1, zk_a cI 300 ln9), (rd 1, zk_a cI 300 ds9), (r 2, .inr (2, [.ref (ra 2), .ref (rb 2), .ref (rd 2), .int (nI (ct 2)), .int (nI (pb 2)), .int (nI (bw 2)), .int (nI (rc 2)), .int (nI (to 2)), .int (nI (la 2)), .int (nI (se 2)), .int (nI (th 2))])), (ra 2, zk_a cI 300 (pl 2)), (rb 2, zk_a cI 300 (ln 2)), (rd 2, zk_a cI 300 (ds 2)), (r 3, .inr (2, [.ref (ra 3), .ref (rb 3), .ref (rd 3), .int (nI (ct 3)), .int (nI (pb 3)), .int (nI (bw 3)), .int (nI (rc 3)), .int (nI (to 3)), .int (nI (la 3)), .int (nI (se 3)), .int (nI (th 3))])), (ra 3, zk_a cI 300 (pl 3)), (rb 3, zk_a cI 300 (ln 3)), (rd 3, zk_a cI 300 (ds 3))] H := hP
      refine lv_astore (lv' := [(4, .ref (r 1)), (0, .ref x_), (1, .int (nI 1)), (2, .int i_), (3, .int v_)]) hx hb dX4_piece_14 hl (by decide) rfl (fun ls hl => ?_)
      refine lv_iload_n hx hb dX4_piece_16 rfl (lv_at hl 3 rfl) ?_
      refine lv_if_lt (tgt := 29) hx hb dX4_piece_17 (by decide) (fun c_4 => ?_) (fun c_4 => ?_)
      · skip
        refine lv_iconst (v := (-1)) hx hb dX4_piece_29 (by decide +kernel) ?_
        exact hret _ ls _ _ _ (fl9, fd9, fc9, le9, di9, co9, pn9, pd9, zk_up ct 1 ct9, zk_up pb 1 pb9, zk_up bw 1 bw9, zk_up rc 1 rc9, zk_up to 1 1, zk_up la 1 la9, zk_up se 1 se9, zk_up th 1 th9, zk_upF pl 1 pl9, zk_upF ln 1 ln9, zk_upF ds 1 ds9) dX4_piece_30 ⟨by rw [zA_way, zk_val (n := 4) (by decide) (by decide)]; exact (zk_pcn (Or.inl c_4)).symm, fun j hj he => by rw [(nI_eq (by omega) (by decide)).mp he.symm]; exact zk_up_eq _ _ _, zr_rows_up h6 hu⟩ hP hS
      · skip
        refine lv_iload_n hx hb dX4_piece_20 rfl (lv_at hl 3 rfl) ?_
        refine lv_aload hx hb dX4_piece_21 (lv_at hl 0 rfl) ?_
        refine va_get (D := D) (ci := 2) (v := .int (nI ct9)) (C := RX2) (T := TX2) (N := 11) hx hb hts ziX4_piece_2 hown hK hP 15 rfl rfl 3 (by decide) f105 (fun _ h9 => h9) rfl dX4_piece_23 ?_
        refine lv_icmp_lt (tgt := 31) hx hb dX4_piece_26 (by decide) (fun c_5 => ?_) (fun c_5 => ?_)
        · skip
          obtain ⟨ii, hii, hie⟩ := zk_ii c_4 c_5 (zr_row_ct hu h1)
          subst hie
          have hct := zr_row_ct hu h1
          refine lv_iload_n hx hb dX4_piece_31 rfl (lv_at hl 4 rfl) ?_
          by_cases hv0 : v_ = nI 0
          · subst hv0
            refine lv_tableIn (off := 28) (tgt := 60) hx hb dX4_piece_32 (by decide +kernel) (by decide +kernel) (by decide +kernel) (by decide) ?_
            refine lv_aload hx hb dX4_piece_60 (lv_at hl 0 rfl) ?_
            refine va_get (D := D) (ci := 2) (v := .ref (ra 1)) (C := RX2) (T := TX2) (N := 11) hx hb hts ziX4_piece_2 hown hK hP 15 rfl rfl 0 (by decide) f108 (fun _ h9 => h9) rfl dX4_piece_62 ?_
            refine lv_iload_n hx hb dX4_piece_65 rfl (lv_at hl 3 rfl) ?_
            refine zk_ild (v := pl9 ii) hx hb hK hP 16 0 (i := ii) (g := pl9) rfl rfl (by omega) (by decide) rfl dX4_piece_66 ?_
            exact hret _ ls _ _ _ (fl9, fd9, fc9, le9, di9, co9, pn9, pd9, zk_up ct 1 ct9, zk_up pb 1 pb9, zk_up bw 1 bw9, zk_up rc 1 rc9, zk_up to 1 1, zk_up la 1 la9, zk_up se 1 se9, zk_up th 1 th9, zk_upF pl 1 pl9, zk_upF ln 1 ln9, zk_upF ds 1 ds9) dX4_piece_67 ⟨by rw [zA_way, zk_val (n := 4) (by decide) (by decide)]; exact (zk_pc0 hii (by omega)).symm, fun j hj he => by rw [(nI_eq (by omega) (by decide)).mp he.symm]; exact zk_up_eq _ _ _, zr_rows_up h6 hu⟩ hP hS
          · skip
            have hz0 := hv0
            clear hv0
            by_cases hv0 : v_ = nI 1
            · subst hv0
              refine lv_tableIn (off := 36) (tgt := 68) hx hb dX4_piece_32 (by decide +kernel) (by decide +kernel) (by decide +kernel) (by decide) ?_
              refine lv_aload hx hb dX4_piece_68 (lv_at hl 0 rfl) ?_
              refine va_get (D := D) (ci := 2) (v := .ref (rb 1)) (C := RX2) (T := TX2) (N := 11) hx hb hts ziX4_piece_2 hown hK hP 15 rfl rfl 1 (by decide) f111 (fun _ h9 => h9) rfl dX4_piece_70 ?_
              refine lv_iload_n hx hb dX4_piece_73 rfl (lv_at hl 3 rfl) ?_
              refine zk_ild (v := ln9 ii) hx hb hK hP 17 0 (i := ii) (g := ln9) rfl rfl (by omega) (by decide) rfl dX4_piece_74 ?_
              exact hret _ ls _ _ _ (fl9, fd9, fc9, le9, di9, co9, pn9, pd9, zk_up ct 1 ct9, zk_up pb 1 pb9, zk_up bw 1 bw9, zk_up rc 1 rc9, zk_up to 1 1, zk_up la 1 la9, zk_up se 1 se9, zk_up th 1 th9, zk_upF pl 1 pl9, zk_upF ln 1 ln9, zk_upF ds 1 ds9) dX4_piece_75 ⟨by rw [zA_way, zk_val (n := 4) (by decide) (by decide)]; exact (zk_pc1 hii (by omega)).symm, fun j hj he => by rw [(nI_eq (by omega) (by decide)).mp he.symm]; exact zk_up_eq _ _ _, zr_rows_up h6 hu⟩ hP hS
            · skip
              have hz1 := hv0
              clear hv0
              by_cases hv0 : v_ = nI 2
              · subst hv0
                refine lv_tableIn (off := 44) (tgt := 76) hx hb dX4_piece_32 (by decide +kernel) (by decide +kernel) (by decide +kernel) (by decide) ?_
                refine lv_aload hx hb dX4_piece_76 (lv_at hl 0 rfl) ?_
                refine va_get (D := D) (ci := 2) (v := .ref (rd 1)) (C := RX2) (T := TX2) (N := 11) hx hb hts ziX4_piece_2 hown hK hP 15 rfl rfl 2 (by decide) f114 (fun _ h9 => h9) rfl dX4_piece_78 ?_
                refine lv_iload_n hx hb dX4_piece_81 rfl (lv_at hl 3 rfl) ?_
                refine zk_ild (v := ds9 ii) hx hb hK hP 18 0 (i := ii) (g := ds9) rfl rfl (by omega) (by decide) rfl dX4_piece_82 ?_
                exact hret _ ls _ _ _ (fl9, fd9, fc9, le9, di9, co9, pn9, pd9, zk_up ct 1 ct9, zk_up pb 1 pb9, zk_up bw 1 bw9, zk_up rc 1 rc9, zk_up to 1 1, zk_up la 1 la9, zk_up se 1 se9, zk_up th 1 th9, zk_upF pl 1 pl9, zk_upF ln 1 ln9, zk_upF ds 1 ds9) dX4_piece_83 ⟨by rw [zA_way, zk_val (n := 4) (by decide) (by decide)]; exact (zk_pc2 hii (by omega)).symm, fun j hj he => by rw [(nI_eq (by omega) (by decide)).mp he.symm]; exact zk_up_eq _ _ _, zr_rows_up h6 hu⟩ hP hS
              · skip
                refine lv_tableOut (tgt := 84) hx hb dX4_piece_32 (zk_out3 hz0 hz1 hv0) (by decide) ?_
                refine lv_bipush (v := (-2)) hx hb dX4_piece_84 (by decide +kernel) ?_
                exact hret _ ls _ _ _ (fl9, fd9, fc9, le9, di9, co9, pn9, pd9, zk_up ct 1 ct9, zk_up pb 1 pb9, zk_up bw 1 bw9, zk_up rc 1 rc9, zk_up to 1 1, zk_up la 1 la9, zk_up se 1 se9, zk_up th 1 th9, zk_upF pl 1 pl9, zk_upF ln 1 ln9, zk_upF ds 1 ds9) dX4_piece_86 ⟨by rw [zA_way, zk_val (n := 4) (by decide) (by decide)]; exact (zk_pc3 hii (by omega) hz0 hz1 hv0).symm, fun j hj he => by rw [(nI_eq (by omega) (by decide)).mp he.symm]; exact zk_up_eq _ _ _, zr_rows_up h6 hu⟩ hP hS
        · skip
          refine lv_iconst (v := (-1)) hx hb dX4_piece_29 (by decide +kernel) ?_
          exact hret _ ls _ _ _ (fl9, fd9, fc9, le9, di9, co9, pn9, pd9, zk_up ct 1 ct9, zk_up pb 1 pb9, zk_up bw 1 bw9, zk_up rc 1 rc9, zk_up to 1 1, zk_up la 1 la9, zk_up se 1 se9, zk_up th 1 th9, zk_upF pl 1 pl9, zk_upF ln 1 ln9, zk_upF ds 1 ds9) dX4_piece_30 ⟨by rw [zA_way, zk_val (n := 4) (by decide) (by decide)]; exact (zk_pcn (Or.inr (zk_nl c_5))).symm, fun j hj he => by rw [(nI_eq (by omega) (by decide)).mp he.symm]; exact zk_up_eq _ _ _, zr_rows_up h6 hu⟩ hP hS
    · subst hw
      refine lv_aload_n hx hb dX4_piece_9 rfl (lv_at hl 0 rfl) ?_
      refine lv_iload_n hx hb dX4_piece_10 rfl (lv_at hl 1 rfl) ?_
      refine zk_wrA (As := [.int (nI 2)]) (rest := []) ⟨hx, hb, hml, hown, hts⟩ hN (c_rowOf l D cI cZ cR x_ q_ f sp dp fa fb fc le di fl fd t b ah sz g k_ ka kb kd co pn pd rf (r 2) (ra 2) (rb 2) (rd 2) (ct 2) (pb 2) (bw 2) (rc 2) (to 2) (la 2) (se 2) (th 2) (pl 2) (ln 2) (ds 2) 2 (by omega) (by omega) (by omega) (by omega) h4 (by decide) (h5 2 (by decide)) (h6 2 (by decide))) (cwV 1 hts gX4_piece_X4_rowOf rfl rfl rfl (by decide +kernel) ⟨Nat.le_of_ble_eq_true rfl, Nat.le_of_ble_eq_true rfl⟩) hK hP (zk_D hD rfl) hS hA [0, 1, 2, 3, 4, 5, 6, 7, 8, 9, 10, 19, 20, 21, 22] rfl (by decide) (fun _ => rfl) rfl rfl rfl rfl hl.1 rfl (Nat.le_of_ble_eq_true rfl) dX4_piece_11 ⟨Nat.zero_le _, Nat.zero_le _⟩ (fun u H locs hu hP hS => ?_)
      obtain ⟨co9, pn9, pd9, fl9, fd9, fc9, le9, di9, pl9, ln9, ds9, ct9, pb9, bw9, rc9, la9, se9, th9⟩ := u
      have hu : zr_row 2 g ah sz sp dp ct9 pb9 bw9 rc9 pl9 ln9 ds9 := hu
      have hP : va_P D vwCl [(x_, .inr (4, [.ref t, .ref f, .ref k_, .ref q_])), (f, .inr (0, [.ref t, .int (nI sp), .int (nI dp), .ref fa, .ref fb, .int (nI fc9), .int (nI le9), .int (nI di9)])), (fa, zk_a cI 38 fl9), (fb, zk_a cI 38 fd9), (t, .inr (3, [.ref b, .int (nI ah), .int (nI sz)])), (b, zk_a cI 360 g), (k_, .inr (1, [.ref ka, .ref kb, .ref kd])), (ka, zk_a cI 301 co9), (kb, zk_a cI 300 pn9), (kd, zk_a cI 300 pd9), (q_, .inl (cR, 4, .inr (.inr (.inr (.inr rf))))), (r 0, .inr (2, [.ref (ra 0), .ref (rb 0), .ref (rd 0), .int (nI (ct 0)), .int (nI (pb 0)), .int (nI (bw 0)), .int (nI (rc 0)), .int (nI (to 0)), .int (nI (la 0)), .int (nI (se 0)), .int (nI (th 0))])), (ra 0, zk_a cI 300 (pl 0)), (rb 0, zk_a cI 300 (ln 0)), (rd 0, zk_a cI 300 (ds 0)), (r 1, .inr (2, [.ref (ra 1), .ref (rb 1), .ref (rd 1), .int (nI (ct 1)), .int (nI (pb 1)), .int (nI (bw 1)), .int (nI (rc 1)), .int (nI (to 1)), .int (nI (la 1)), .int (nI (se 1)), .int (nI (th 1))])), (ra 1, zk_a cI 300 (pl 1)), (rb 1, zk_a cI 300 (ln 1)), (rd 1, zk_a cI 300 (ds 1)), (r 2, .inr (2, [.ref (ra 2), .ref (rb 2), .ref (rd 2), .int (nI ct9), .int (nI pb9), .int (nI bw9), .int (nI rc9), .int (nI 1), .int (nI la9), .int (nI se9), .int (nI th9)])), (ra 2, zk_a cI 300 pl9), (rb 2, zk_a cI 300 ln9), (rd 2, zk_a cI 300 ds9), (r 3, .inr (2, [.ref (ra 3), .ref (rb 3), .ref (rd 3), .int (nI (ct 3)), .int (nI (pb 3)), .int (nI (bw 3)), .int (nI (rc 3)), .int (nI (to 3)), .int (nI (la 3)), .int (nI (se 3)), .int (nI (th 3))])), (ra 3, zk_a cI 300 (pl 3)), (rb 3, zk_a cI 300 (ln 3)), (rd 3, zk_a cI 300 (ds 3))] H := hP
      refine lv_astore (lv' := [(4, .ref (r 2)), (0, .ref x_), (1, .int (nI 2)), (2, .int i_), (3, .int v_)]) hx hb dX4_piece_14 hl (by decide) rfl (fun ls hl => ?_)
      refine lv_iload_n hx hb dX4_piece_16 rfl (lv_at hl 3 rfl) ?_
      refine lv_if_lt (tgt := 29) hx hb dX4_piece_17 (by decide) (fun c_6 => ?_) (fun c_6 => ?_)
      · skip
        refine lv_iconst (v := (-1)) hx hb dX4_piece_29 (by decide +kernel) ?_
        exact hret _ ls _ _ _ (fl9, fd9, fc9, le9, di9, co9, pn9, pd9, zk_up ct 2 ct9, zk_up pb 2 pb9, zk_up bw 2 bw9, zk_up rc 2 rc9, zk_up to 2 1, zk_up la 2 la9, zk_up se 2 se9, zk_up th 2 th9, zk_upF pl 2 pl9, zk_upF ln 2 ln9, zk_upF ds 2 ds9) dX4_piece_30 ⟨by rw [zA_way, zk_val (n := 4) (by decide) (by decide)]; exact (zk_pcn (Or.inl c_6)).symm, fun j hj he => by rw [(nI_eq (by omega) (by decide)).mp he.symm]; exact zk_up_eq _ _ _, zr_rows_up h6 hu⟩ hP hS
      · skip
        refine lv_iload_n hx hb dX4_piece_20 rfl (lv_at hl 3 rfl) ?_
        refine lv_aload hx hb dX4_piece_21 (lv_at hl 0 rfl) ?_
        refine va_get (D := D) (ci := 2) (v := .int (nI ct9)) (C := RX2) (T := TX2) (N := 11) hx hb hts ziX4_piece_2 hown hK hP 19 rfl rfl 3 (by decide) f105 (fun _ h9 => h9) rfl dX4_piece_23 ?_
        refine lv_icmp_lt (tgt := 31) hx hb dX4_piece_26 (by decide) (fun c_7 => ?_) (fun c_7 => ?_)
        · skip
          obtain ⟨ii, hii, hie⟩ := zk_ii c_6 c_7 (zr_row_ct hu h1)
          subst hie
          have hct := zr_row_ct hu h1
          refine lv_iload_n hx hb dX4_piece_31 rfl (lv_at hl 4 rfl) ?_
          by_cases hv0 : v_ = nI 0
          · subst hv0
            refine lv_tableIn (off := 28) (tgt := 60) hx hb dX4_piece_32 (by decide +kernel) (by decide +kernel) (by decide +kernel) (by decide) ?_
            refine lv_aload hx hb dX4_piece_60 (lv_at hl 0 rfl) ?_
            refine va_get (D := D) (ci := 2) (v := .ref (ra 2)) (C := RX2) (T := TX2) (N := 11) hx hb hts ziX4_piece_2 hown hK hP 19 rfl rfl 0 (by decide) f108 (fun _ h9 => h9) rfl dX4_piece_62 ?_
            refine lv_iload_n hx hb dX4_piece_65 rfl (lv_at hl 3 rfl) ?_
            refine zk_ild (v := pl9 ii) hx hb hK hP 20 0 (i := ii) (g := pl9) rfl rfl (by omega) (by decide) rfl dX4_piece_66 ?_
            exact hret _ ls _ _ _ (fl9, fd9, fc9, le9, di9, co9, pn9, pd9, zk_up ct 2 ct9, zk_up pb 2 pb9, zk_up bw 2 bw9, zk_up rc 2 rc9, zk_up to 2 1, zk_up la 2 la9, zk_up se 2 se9, zk_up th 2 th9, zk_upF pl 2 pl9, zk_upF ln 2 ln9, zk_upF ds 2 ds9) dX4_piece_67 ⟨by rw [zA_way, zk_val (n := 4) (by decide) (by decide)]; exact (zk_pc0 hii (by omega)).symm, fun j hj he => by rw [(nI_eq (by omega) (by decide)).mp he.symm]; exact zk_up_eq _ _ _, zr_rows_up h6 hu⟩ hP hS
          · skip
            have hz0 := hv0
            clear hv0
            by_cases hv0 : v_ = nI 1
            · subst hv0
              refine lv_tableIn (off := 36) (tgt := 68) hx hb dX4_piece_32 (by decide +kernel) (by decide +kernel) (by decide +kernel) (by decide) ?_
              refine lv_aload hx hb dX4_piece_68 (lv_at hl 0 rfl) ?_
              refine va_get (D := D) (ci := 2) (v := .ref (rb 2)) (C := RX2) (T := TX2) (N := 11) hx hb hts ziX4_piece_2 hown hK hP 19 rfl rfl 1 (by decide) f111 (fun _ h9 => h9) rfl dX4_piece_70 ?_
              refine lv_iload_n hx hb dX4_piece_73 rfl (lv_at hl 3 rfl) ?_
              refine zk_ild (v := ln9 ii) hx hb hK hP 21 0 (i := ii) (g := ln9) rfl rfl (by omega) (by decide) rfl dX4_piece_74 ?_
              exact hret _ ls _ _ _ (fl9, fd9, fc9, le9, di9, co9, pn9, pd9, zk_up ct 2 ct9, zk_up pb 2 pb9, zk_up bw 2 bw9, zk_up rc 2 rc9, zk_up to 2 1, zk_up la 2 la9, zk_up se 2 se9, zk_up th 2 th9, zk_upF pl 2 pl9, zk_upF ln 2 ln9, zk_upF ds 2 ds9) dX4_piece_75 ⟨by rw [zA_way, zk_val (n := 4) (by decide) (by decide)]; exact (zk_pc1 hii (by omega)).symm, fun j hj he => by rw [(nI_eq (by omega) (by decide)).mp he.symm]; exact zk_up_eq _ _ _, zr_rows_up h6 hu⟩ hP hS
            · skip
              have hz1 := hv0
              clear hv0
              by_cases hv0 : v_ = nI 2
              · subst hv0
                refine lv_tableIn (off := 44) (tgt := 76) hx hb dX4_piece_32 (by decide +kernel) (by decide +kernel) (by decide +kernel) (by decide) ?_
                refine lv_aload hx hb dX4_piece_76 (lv_at hl 0 rfl) ?_
                refine va_get (D := D) (ci := 2) (v := .ref (rd 2)) (C := RX2) (T := TX2) (N := 11) hx hb hts ziX4_piece_2 hown hK hP 19 rfl rfl 2 (by decide) f114 (fun _ h9 => h9) rfl dX4_piece_78 ?_
                refine lv_iload_n hx hb dX4_piece_81 rfl (lv_at hl 3 rfl) ?_
                refine zk_ild (v := ds9 ii) hx hb hK hP 22 0 (i := ii) (g := ds9) rfl rfl (by omega) (by decide) rfl dX4_piece_82 ?_
                exact hret _ ls _ _ _ (fl9, fd9, fc9, le9, di9, co9, pn9, pd9, zk_up ct 2 ct9, zk_up pb 2 pb9, zk_up bw 2 bw9, zk_up rc 2 rc9, zk_up to 2 1, zk_up la 2 la9, zk_up se 2 se9, zk_up th 2 th9, zk_upF pl 2 pl9, zk_upF ln 2 ln9, zk_upF ds 2 ds9) dX4_piece_83 ⟨by rw [zA_way, zk_val (n := 4) (by decide) (by decide)]; exact (zk_pc2 hii (by omega)).symm, fun j hj he => by rw [(nI_eq (by omega) (by decide)).mp he.symm]; exact zk_up_eq _ _ _, zr_rows_up h6 hu⟩ hP hS
              · skip
                refine lv_tableOut (tgt := 84) hx hb dX4_piece_32 (zk_out3 hz0 hz1 hv0) (by decide) ?_
                refine lv_bipush (v := (-2)) hx hb dX4_piece_84 (by decide +kernel) ?_
                exact hret _ ls _ _ _ (fl9, fd9, fc9, le9, di9, co9, pn9, pd9, zk_up ct 2 ct9, zk_up pb 2 pb9, zk_up bw 2 bw9, zk_up rc 2 rc9, zk_up to 2 1, zk_up la 2 la9, zk_up se 2 se9, zk_up th 2 th9, zk_upF pl 2 pl9, zk_upF ln 2 ln9, zk_upF ds 2 ds9) dX4_piece_86 ⟨by rw [zA_way, zk_val (n := 4) (by decide) (by decide)]; exact (zk_pc3 hii (by omega) hz0 hz1 hv0).symm, fun j hj he => by rw [(nI_eq (by omega) (by decide)).mp he.symm]; exact zk_up_eq _ _ _, zr_rows_up h6 hu⟩ hP hS
        · skip
          refine lv_iconst (v := (-1)) hx hb dX4_piece_29 (by decide +kernel) ?_
          exact hret _ ls _ _ _ (fl9, fd9, fc9, le9, di9, co9, pn9, pd9, zk_up ct 2 ct9, zk_up pb 2 pb9, zk_up bw 2 bw9, zk_up rc 2 rc9, zk_up to 2 1, zk_up la 2 la9, zk_up se 2 se9, zk_up th 2 th9, zk_upF pl 2 pl9, zk_upF ln 2 ln9, zk_upF ds 2 ds9) dX4_piece_30 ⟨by rw [zA_way, zk_val (n := 4) (by decide) (by decide)]; exact (zk_pcn (Or.inr (zk_nl c_7))).symm, fun j hj he => by rw [(nI_eq (by omega) (by decide)).mp he.symm]; exact zk_up_eq _ _ _, zr_rows_up h6 hu⟩ hP hS
    · subst hw
      refine lv_aload_n hx hb dX4_piece_9 rfl (lv_at hl 0 rfl) ?_
      refine lv_iload_n hx hb dX4_piece_10 rfl (lv_at hl 1 rfl) ?_
      refine zk_wrA (As := [.int (nI 3)]) (rest := []) ⟨hx, hb, hml, hown, hts⟩ hN (c_rowOf l D cI cZ cR x_ q_ f sp dp fa fb fc le di fl fd t b ah sz g k_ ka kb kd co pn pd rf (r 3) (ra 3) (rb 3) (rd 3) (ct 3) (pb 3) (bw 3) (rc 3) (to 3) (la 3) (se 3) (th 3) (pl 3) (ln 3) (ds 3) 3 (by omega) (by omega) (by omega) (by omega) h4 (by decide) (h5 3 (by decide)) (h6 3 (by decide))) (cwV 1 hts gX4_piece_X4_rowOf rfl rfl rfl (by decide +kernel) ⟨Nat.le_of_ble_eq_true rfl, Nat.le_of_ble_eq_true rfl⟩) hK hP (zk_D hD rfl) hS hA [0, 1, 2, 3, 4, 5, 6, 7, 8, 9, 10, 23, 24, 25, 26] rfl (by decide) (fun _ => rfl) rfl rfl rfl rfl hl.1 rfl (Nat.le_of_ble_eq_true rfl) dX4_piece_11 ⟨Nat.zero_le _, Nat.zero_le _⟩ (fun u H locs hu hP hS => ?_)
      obtain ⟨co9, pn9, pd9, fl9, fd9, fc9, le9, di9, pl9, ln9, ds9, ct9, pb9, bw9, rc9, la9, se9, th9⟩ := u
      have hu : zr_row 3 g ah sz sp dp ct9 pb9 bw9 rc9 pl9 ln9 ds9 := hu
      have hP : va_P D vwCl [(x_, .inr (4, [.ref t, .ref f, .ref k_, .ref q_])), (f, .inr (0, [.ref t, .int (nI sp), .int (nI dp), .ref fa, .ref fb, .int (nI fc9), .int (nI le9), .int (nI di9)])), (fa, zk_a cI 38 fl9), (fb, zk_a cI 38 fd9), (t, .inr (3, [.ref b, .int (nI ah), .int (nI sz)])), (b, zk_a cI 360 g), (k_, .inr (1, [.ref ka, .ref kb, .ref kd])), (ka, zk_a cI 301 co9), (kb, zk_a cI 300 pn9), (kd, zk_a cI 300 pd9), (q_, .inl (cR, 4, .inr (.inr (.inr (.inr rf))))), (r 0, .inr (2, [.ref (ra 0), .ref (rb 0), .ref (rd 0), .int (nI (ct 0)), .int (nI (pb 0)), .int (nI (bw 0)), .int (nI (rc 0)), .int (nI (to 0)), .int (nI (la 0)), .int (nI (se 0)), .int (nI (th 0))])), (ra 0, zk_a cI 300 (pl 0)), (rb 0, zk_a cI 300 (ln 0)), (rd 0, zk_a cI 300 (ds 0)), (r 1, .inr (2, [.ref (ra 1), .ref (rb 1), .ref (rd 1), .int (nI (ct 1)), .int (nI (pb 1)), .int (nI (bw 1)), .int (nI (rc 1)), .int (nI (to 1)), .int (nI (la 1)), .int (nI (se 1)), .int (nI (th 1))])), (ra 1, zk_a cI 300 (pl 1)), (rb 1, zk_a cI 300 (ln 1)), (rd 1, zk_a cI 300 (ds 1)), (r 2, .inr (2, [.ref (ra 2), .ref (rb 2), .ref (rd 2), .int (nI (ct 2)), .int (nI (pb 2)), .int (nI (bw 2)), .int (nI (rc 2)), .int (nI (to 2)), .int (nI (la 2)), .int (nI (se 2)), .int (nI (th 2))])), (ra 2, zk_a cI 300 (pl 2)), (rb 2, zk_a cI 300 (ln 2)), (rd 2, zk_a cI 300 (ds 2)), (r 3, .inr (2, [.ref (ra 3), .ref (rb 3), .ref (rd 3), .int (nI ct9), .int (nI pb9), .int (nI bw9), .int (nI rc9), .int (nI 1), .int (nI la9), .int (nI se9), .int (nI th9)])), (ra 3, zk_a cI 300 pl9), (rb 3, zk_a cI 300 ln9), (rd 3, zk_a cI 300 ds9)] H := hP
      refine lv_astore (lv' := [(4, .ref (r 3)), (0, .ref x_), (1, .int (nI 3)), (2, .int i_), (3, .int v_)]) hx hb dX4_piece_14 hl (by decide) rfl (fun ls hl => ?_)
      refine lv_iload_n hx hb dX4_piece_16 rfl (lv_at hl 3 rfl) ?_
      refine lv_if_lt (tgt := 29) hx hb dX4_piece_17 (by decide) (fun c_8 => ?_) (fun c_8 => ?_)
      · skip
        refine lv_iconst (v := (-1)) hx hb dX4_piece_29 (by decide +kernel) ?_
        exact hret _ ls _ _ _ (fl9, fd9, fc9, le9, di9, co9, pn9, pd9, zk_up ct 3 ct9, zk_up pb 3 pb9, zk_up bw 3 bw9, zk_up rc 3 rc9, zk_up to 3 1, zk_up la 3 la9, zk_up se 3 se9, zk_up th 3 th9, zk_upF pl 3 pl9, zk_upF ln 3 ln9, zk_upF ds 3 ds9) dX4_piece_30 ⟨by rw [zA_way, zk_val (n := 4) (by decide) (by decide)]; exact (zk_pcn (Or.inl c_8)).symm, fun j hj he => by rw [(nI_eq (by omega) (by decide)).mp he.symm]; exact zk_up_eq _ _ _, zr_rows_up h6 hu⟩ hP hS
      · skip
        refine lv_iload_n hx hb dX4_piece_20 rfl (lv_at hl 3 rfl) ?_
        refine lv_aload hx hb dX4_piece_21 (lv_at hl 0 rfl) ?_
        refine va_get (D := D) (ci := 2) (v := .int (nI ct9)) (C := RX2) (T := TX2) (N := 11) hx hb hts ziX4_piece_2 hown hK hP 23 rfl rfl 3 (by decide) f105 (fun _ h9 => h9) rfl dX4_piece_23 ?_
        refine lv_icmp_lt (tgt := 31) hx hb dX4_piece_26 (by decide) (fun c_9 => ?_) (fun c_9 => ?_)
        · skip
          obtain ⟨ii, hii, hie⟩ := zk_ii c_8 c_9 (zr_row_ct hu h1)
          subst hie
          have hct := zr_row_ct hu h1
          refine lv_iload_n hx hb dX4_piece_31 rfl (lv_at hl 4 rfl) ?_
          by_cases hv0 : v_ = nI 0
          · subst hv0
            refine lv_tableIn (off := 28) (tgt := 60) hx hb dX4_piece_32 (by decide +kernel) (by decide +kernel) (by decide +kernel) (by decide) ?_
            refine lv_aload hx hb dX4_piece_60 (lv_at hl 0 rfl) ?_
            refine va_get (D := D) (ci := 2) (v := .ref (ra 3)) (C := RX2) (T := TX2) (N := 11) hx hb hts ziX4_piece_2 hown hK hP 23 rfl rfl 0 (by decide) f108 (fun _ h9 => h9) rfl dX4_piece_62 ?_
            refine lv_iload_n hx hb dX4_piece_65 rfl (lv_at hl 3 rfl) ?_
            refine zk_ild (v := pl9 ii) hx hb hK hP 24 0 (i := ii) (g := pl9) rfl rfl (by omega) (by decide) rfl dX4_piece_66 ?_
            exact hret _ ls _ _ _ (fl9, fd9, fc9, le9, di9, co9, pn9, pd9, zk_up ct 3 ct9, zk_up pb 3 pb9, zk_up bw 3 bw9, zk_up rc 3 rc9, zk_up to 3 1, zk_up la 3 la9, zk_up se 3 se9, zk_up th 3 th9, zk_upF pl 3 pl9, zk_upF ln 3 ln9, zk_upF ds 3 ds9) dX4_piece_67 ⟨by rw [zA_way, zk_val (n := 4) (by decide) (by decide)]; exact (zk_pc0 hii (by omega)).symm, fun j hj he => by rw [(nI_eq (by omega) (by decide)).mp he.symm]; exact zk_up_eq _ _ _, zr_rows_up h6 hu⟩ hP hS
          · skip
            have hz0 := hv0
            clear hv0
            by_cases hv0 : v_ = nI 1
            · subst hv0
              refine lv_tableIn (off := 36) (tgt := 68) hx hb dX4_piece_32 (by decide +kernel) (by decide +kernel) (by decide +kernel) (by decide) ?_
              refine lv_aload hx hb dX4_piece_68 (lv_at hl 0 rfl) ?_
              refine va_get (D := D) (ci := 2) (v := .ref (rb 3)) (C := RX2) (T := TX2) (N := 11) hx hb hts ziX4_piece_2 hown hK hP 23 rfl rfl 1 (by decide) f111 (fun _ h9 => h9) rfl dX4_piece_70 ?_
              refine lv_iload_n hx hb dX4_piece_73 rfl (lv_at hl 3 rfl) ?_
              refine zk_ild (v := ln9 ii) hx hb hK hP 25 0 (i := ii) (g := ln9) rfl rfl (by omega) (by decide) rfl dX4_piece_74 ?_
              exact hret _ ls _ _ _ (fl9, fd9, fc9, le9, di9, co9, pn9, pd9, zk_up ct 3 ct9, zk_up pb 3 pb9, zk_up bw 3 bw9, zk_up rc 3 rc9, zk_up to 3 1, zk_up la 3 la9, zk_up se 3 se9, zk_up th 3 th9, zk_upF pl 3 pl9, zk_upF ln 3 ln9, zk_upF ds 3 ds9) dX4_piece_75 ⟨by rw [zA_way, zk_val (n := 4) (by decide) (by decide)]; exact (zk_pc1 hii (by omega)).symm, fun j hj he => by rw [(nI_eq (by omega) (by decide)).mp he.symm]; exact zk_up_eq _ _ _, zr_rows_up h6 hu⟩ hP hS
            · skip
              have hz1 := hv0
              clear hv0
              by_cases hv0 : v_ = nI 2
              · subst hv0
                refine lv_tableIn (off := 44) (tgt := 76) hx hb dX4_piece_32 (by decide +kernel) (by decide +kernel) (by decide +kernel) (by decide) ?_
                refine lv_aload hx hb dX4_piece_76 (lv_at hl 0 rfl) ?_
                refine va_get (D := D) (ci := 2) (v := .ref (rd 3)) (C := RX2) (T := TX2) (N := 11) hx hb hts ziX4_piece_2 hown hK hP 23 rfl rfl 2 (by decide) f114 (fun _ h9 => h9) rfl dX4_piece_78 ?_
                refine lv_iload_n hx hb dX4_piece_81 rfl (lv_at hl 3 rfl) ?_
                refine zk_ild (v := ds9 ii) hx hb hK hP 26 0 (i := ii) (g := ds9) rfl rfl (by omega) (by decide) rfl dX4_piece_82 ?_
                exact hret _ ls _ _ _ (fl9, fd9, fc9, le9, di9, co9, pn9, pd9, zk_up ct 3 ct9, zk_up pb 3 pb9, zk_up bw 3 bw9, zk_up rc 3 rc9, zk_up to 3 1, zk_up la 3 la9, zk_up se 3 se9, zk_up th 3 th9, zk_upF pl 3 pl9, zk_upF ln 3 ln9, zk_upF ds 3 ds9) dX4_piece_83 ⟨by rw [zA_way, zk_val (n := 4) (by decide) (by decide)]; exact (zk_pc2 hii (by omega)).symm, fun j hj he => by rw [(nI_eq (by omega) (by decide)).mp he.symm]; exact zk_up_eq _ _ _, zr_rows_up h6 hu⟩ hP hS
              · skip
                refine lv_tableOut (tgt := 84) hx hb dX4_piece_32 (zk_out3 hz0 hz1 hv0) (by decide) ?_
                refine lv_bipush (v := (-2)) hx hb dX4_piece_84 (by decide +kernel) ?_
                exact hret _ ls _ _ _ (fl9, fd9, fc9, le9, di9, co9, pn9, pd9, zk_up ct 3 ct9, zk_up pb 3 pb9, zk_up bw 3 bw9, zk_up rc 3 rc9, zk_up to 3 1, zk_up la 3 la9, zk_up se 3 se9, zk_up th 3 th9, zk_upF pl 3 pl9, zk_upF ln 3 ln9, zk_upF ds 3 ds9) dX4_piece_86 ⟨by rw [zA_way, zk_val (n := 4) (by decide) (by decide)]; exact (zk_pc3 hii (by omega) hz0 hz1 hv0).symm, fun j hj he => by rw [(nI_eq (by omega) (by decide)).mp he.symm]; exact zk_up_eq _ _ _, zr_rows_up h6 hu⟩ hP hS
        · skip
          refine lv_iconst (v := (-1)) hx hb dX4_piece_29 (by decide +kernel) ?_
          exact hret _ ls _ _ _ (fl9, fd9, fc9, le9, di9, co9, pn9, pd9, zk_up ct 3 ct9, zk_up pb 3 pb9, zk_up bw 3 bw9, zk_up rc 3 rc9, zk_up to 3 1, zk_up la 3 la9, zk_up se 3 se9, zk_up th 3 th9, zk_upF pl 3 pl9, zk_upF ln 3 ln9, zk_upF ds 3 ds9) dX4_piece_30 ⟨by rw [zA_way, zk_val (n := 4) (by decide) (by decide)]; exact (zk_pcn (Or.inr (zk_nl c_9))).symm, fun j hj he => by rw [(nI_eq (by omega) (by decide)).mp he.symm]; exact zk_up_eq _ _ _, zr_rows_up h6 hu⟩ hP hS
  · skip
    have hno := zk_wz0 c_1
    refine lv_iconst (v := (-1)) hx hb dX4_piece_7 (by decide +kernel) ?_
    exact hret _ ls _ _ _ (fl, fd, fc, le, di, co, pn, pd, ct, pb, bw, rc, to, la, se, th, pl, ln, ds) dX4_piece_8 ⟨by rw [zA_way, zk_inv hno], fun j hj he => absurd hno (zk_wno hj he), h6⟩ hP hS
end

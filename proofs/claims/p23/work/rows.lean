section
-- ===== PART A: goes FIRST, ahead of the names: the tables' words, and 'selects' of the private methods out of them =====
/-- a private method of a class that the tables say can be made, by its rows of tables_1 -/
def lw_okq (q : MethodName × Nat) : Prop := (q.1.cls ≠ "java/lang/invoke/MethodHandle" ∧ q.1.cls ≠ "java/lang/invoke/VarHandle") ∧ Cond.instantiable q.1.cls q.2 ∈ tables_1 ∧ Cond.privateMethod q.1 ∈ tables_1 ∧ Cond.instanceMethod q.1 ∈ tables_1
theorem lw_p0 : lw_okq (⟨"BellWords$Tower", "nextTime", "()I"⟩, 6) := ⟨⟨by decide +kernel, by decide +kernel⟩, List.mem_of_getElem? (i := 21) (by decide +kernel), List.mem_of_getElem? (i := 322) (by decide +kernel), List.mem_of_getElem? (i := 323) (by decide +kernel)⟩
theorem lw_p1 : lw_okq (⟨"BellWords$History", "stateAt", "(I)LBellWords$Tower;"⟩, 3) := ⟨⟨by decide +kernel, by decide +kernel⟩, List.mem_of_getElem? (i := 71) (by decide +kernel), List.mem_of_getElem? (i := 331) (by decide +kernel), List.mem_of_getElem? (i := 332) (by decide +kernel)⟩
theorem lw_p2 : lw_okq (⟨"BellWords$Tower", "ringGroup", "(II)V"⟩, 6) := ⟨⟨by decide +kernel, by decide +kernel⟩, List.mem_of_getElem? (i := 21) (by decide +kernel), List.mem_of_getElem? (i := 352) (by decide +kernel), List.mem_of_getElem? (i := 353) (by decide +kernel)⟩
theorem lw_p3 : lw_okq (⟨"BellWords$Reading", "noteGap", "(IILBellWords$Tower;)V"⟩, 9) := ⟨⟨by decide +kernel, by decide +kernel⟩, List.mem_of_getElem? (i := 91) (by decide +kernel), List.mem_of_getElem? (i := 368) (by decide +kernel), List.mem_of_getElem? (i := 369) (by decide +kernel)⟩
theorem lw_p4 : lw_okq (⟨"BellWords$Reading", "caseOf", "(II)I"⟩, 9) := ⟨⟨by decide +kernel, by decide +kernel⟩, List.mem_of_getElem? (i := 91) (by decide +kernel), List.mem_of_getElem? (i := 372) (by decide +kernel), List.mem_of_getElem? (i := 373) (by decide +kernel)⟩
theorem lw_p5 : lw_okq (⟨"BellWords$Reading", "goOn", "(I)V"⟩, 9) := ⟨⟨by decide +kernel, by decide +kernel⟩, List.mem_of_getElem? (i := 91) (by decide +kernel), List.mem_of_getElem? (i := 376) (by decide +kernel), List.mem_of_getElem? (i := 377) (by decide +kernel)⟩
theorem lw_p6 : lw_okq (⟨"BellWords$Reading", "beginLetter", "()V"⟩, 9) := ⟨⟨by decide +kernel, by decide +kernel⟩, List.mem_of_getElem? (i := 91) (by decide +kernel), List.mem_of_getElem? (i := 398) (by decide +kernel), List.mem_of_getElem? (i := 399) (by decide +kernel)⟩
theorem lw_p7 : lw_okq (⟨"BellWords$Reading", "notePlace", "(I)V"⟩, 9) := ⟨⟨by decide +kernel, by decide +kernel⟩, List.mem_of_getElem? (i := 91) (by decide +kernel), List.mem_of_getElem? (i := 411) (by decide +kernel), List.mem_of_getElem? (i := 412) (by decide +kernel)⟩
theorem lw_p8 : lw_okq (⟨"BellWords$Letters", "letterBy", "(II)I"⟩, 6) := ⟨⟨by decide +kernel, by decide +kernel⟩, List.mem_of_getElem? (i := 97) (by decide +kernel), List.mem_of_getElem? (i := 431) (by decide +kernel), List.mem_of_getElem? (i := 432) (by decide +kernel)⟩
theorem lw_p9 : lw_okq (⟨"BellWords$Reading", "sumUp", "()V"⟩, 9) := ⟨⟨by decide +kernel, by decide +kernel⟩, List.mem_of_getElem? (i := 91) (by decide +kernel), List.mem_of_getElem? (i := 435) (by decide +kernel), List.mem_of_getElem? (i := 436) (by decide +kernel)⟩
theorem lw_p10 : lw_okq (⟨"BellWords$Letters", "bitOf", "(I)I"⟩, 6) := ⟨⟨by decide +kernel, by decide +kernel⟩, List.mem_of_getElem? (i := 97) (by decide +kernel), List.mem_of_getElem? (i := 489) (by decide +kernel), List.mem_of_getElem? (i := 490) (by decide +kernel)⟩
theorem lw_p11 : lw_okq (⟨"BellWords", "countOfState", "(I)I"⟩, 7) := ⟨⟨by decide +kernel, by decide +kernel⟩, List.mem_of_getElem? (i := 13) (by decide +kernel), List.mem_of_getElem? (i := 522) (by decide +kernel), List.mem_of_getElem? (i := 523) (by decide +kernel)⟩
theorem lw_p12 : lw_okq (⟨"BellWords$Corrections", "search", "(LBellWords$Reading;II)V"⟩, 5) := ⟨⟨by decide +kernel, by decide +kernel⟩, List.mem_of_getElem? (i := 211) (by decide +kernel), List.mem_of_getElem? (i := 643) (by decide +kernel), List.mem_of_getElem? (i := 644) (by decide +kernel)⟩
theorem lw_p13 : lw_okq (⟨"BellWords$Corrections", "consider", "(LBellWords$Reading;IIIII)V"⟩, 5) := ⟨⟨by decide +kernel, by decide +kernel⟩, List.mem_of_getElem? (i := 211) (by decide +kernel), List.mem_of_getElem? (i := 648) (by decide +kernel), List.mem_of_getElem? (i := 649) (by decide +kernel)⟩
def lw_privs_1 : List (MethodName × Nat) := [(⟨"BellWords$Tower", "nextTime", "()I"⟩, 6), (⟨"BellWords$History", "stateAt", "(I)LBellWords$Tower;"⟩, 3), (⟨"BellWords$Tower", "ringGroup", "(II)V"⟩, 6), (⟨"BellWords$Reading", "noteGap", "(IILBellWords$Tower;)V"⟩, 9), (⟨"BellWords$Reading", "caseOf", "(II)I"⟩, 9), (⟨"BellWords$Reading", "goOn", "(I)V"⟩, 9), (⟨"BellWords$Reading", "beginLetter", "()V"⟩, 9), (⟨"BellWords$Reading", "notePlace", "(I)V"⟩, 9), (⟨"BellWords$Letters", "letterBy", "(II)I"⟩, 6), (⟨"BellWords$Reading", "sumUp", "()V"⟩, 9), (⟨"BellWords$Letters", "bitOf", "(I)I"⟩, 6), (⟨"BellWords", "countOfState", "(I)I"⟩, 7), (⟨"BellWords$Corrections", "search", "(LBellWords$Reading;II)V"⟩, 5), (⟨"BellWords$Corrections", "consider", "(LBellWords$Reading;IIIII)V"⟩, 5)]
theorem lw_r1 : ∀ q ∈ lw_privs_1, lw_okq q := List.forall_mem_cons.mpr ⟨lw_p0, List.forall_mem_cons.mpr ⟨lw_p1, List.forall_mem_cons.mpr ⟨lw_p2, List.forall_mem_cons.mpr ⟨lw_p3, List.forall_mem_cons.mpr ⟨lw_p4, List.forall_mem_cons.mpr ⟨lw_p5, List.forall_mem_cons.mpr ⟨lw_p6, List.forall_mem_cons.mpr ⟨lw_p7, List.forall_mem_cons.mpr ⟨lw_p8, List.forall_mem_cons.mpr ⟨lw_p9, List.forall_mem_cons.mpr ⟨lw_p10, List.forall_mem_cons.mpr ⟨lw_p11, List.forall_mem_cons.mpr ⟨lw_p12, List.forall_mem_cons.mpr ⟨lw_p13, fun _ h => absurd h List.not_mem_nil⟩⟩⟩⟩⟩⟩⟩⟩⟩⟩⟩⟩⟩⟩
def lw_privs : List (MethodName × Nat) := lw_privs_1
def lw_tbl : List Cond := k2_sels lw_privs ++ tables_1
theorem lw_privs_ok : ∀ q ∈ lw_privs, lw_okq q := lw_r1

def RX0 : String := "BellWords$Ballot"
def TX0 : u_T := fun k => match k with
  | 0 => ("BellWords$Ballot", "votes", "LBellWords$Row;", true)
  | 1 => ("BellWords$Ballot", "winner", "I", false)
  | 2 => ("BellWords$Ballot", "most", "I", false)
  | _ => ("BellWords$Ballot", "doubtful", "Z", false)
def tyX0 : Nat → FieldType := fun k => match k with
  | 0 => .object "BellWords$Row"
  | 1 => .int
  | 2 => .int
  | _ => .boolean
theorem nmX0 : ∀ a, a < 4 → ∀ b, b < 4 → a ≠ b → (TX0 a).2.1 ≠ (TX0 b).2.1 := by decide +kernel
theorem tyX0_ok : ∀ k, k < 4 → parseFieldDescriptor (TX0 k).2.2.1 = some (tyX0 k) := by decide +kernel
abbrev cX0_init : ByteArray := prog_2_method_1_code
def yX0_init : MethodName := ⟨RX0, "<init>", "()V"⟩
def RX1 : String := "BellWords$Corrections"
def TX1 : u_T := fun k => match k with
  | 0 => ("BellWords$Corrections", "place", "I", false)
  | 1 => ("BellWords$Corrections", "group", "I", false)
  | 2 => ("BellWords$Corrections", "step", "I", false)
  | 3 => ("BellWords$Corrections", "letter", "I", false)
  | _ => ("BellWords$Corrections", "found", "I", false)
def tyX1 : Nat → FieldType := fun k => match k with
  | 0 => .int
  | 1 => .int
  | 2 => .int
  | 3 => .int
  | _ => .int
theorem nmX1 : ∀ a, a < 5 → ∀ b, b < 5 → a ≠ b → (TX1 a).2.1 ≠ (TX1 b).2.1 := by decide +kernel
theorem tyX1_ok : ∀ k, k < 5 → parseFieldDescriptor (TX1 k).2.2.1 = some (tyX1 k) := by decide +kernel
abbrev cX1_init : ByteArray := prog_3_method_1_code
def yX1_init : MethodName := ⟨RX1, "<init>", "()V"⟩
abbrev cX1_fitting : ByteArray := prog_3_method_2_code
def yX1_fitting : MethodName := ⟨RX1, "fitting", "(LBellWords$Reading;I)I"⟩
abbrev cX1_search : ByteArray := prog_3_method_5_code
def yX1_search : MethodName := ⟨RX1, "search", "(LBellWords$Reading;II)V"⟩
abbrev cX1_consider : ByteArray := prog_3_method_6_code
def yX1_consider : MethodName := ⟨RX1, "consider", "(LBellWords$Reading;IIIII)V"⟩
def RX2 : String := "BellWords$History"
def TX2 : u_T := fun k => match k with
  | 0 => ("BellWords$History", "slots", "[LBellWords$Tower;", true)
  | 1 => ("BellWords$History", "oldest", "I", false)
  | _ => ("BellWords$History", "size", "I", false)
def tyX2 : Nat → FieldType := fun k => match k with
  | 0 => .array (.object "BellWords$Tower")
  | 1 => .int
  | _ => .int
theorem nmX2 : ∀ a, a < 3 → ∀ b, b < 3 → a ≠ b → (TX2 a).2.1 ≠ (TX2 b).2.1 := by decide +kernel
theorem tyX2_ok : ∀ k, k < 3 → parseFieldDescriptor (TX2 k).2.2.1 = some (tyX2 k) := by decide +kernel
abbrev cX2_init : ByteArray := prog_4_method_1_code
def yX2_init : MethodName := ⟨RX2, "<init>", "()V"⟩
abbrev cX2_record : ByteArray := prog_4_method_2_code
def yX2_record : MethodName := ⟨RX2, "record", "(LBellWords$Tower;)V"⟩
abbrev cX2_stateAt : ByteArray := prog_4_method_4_code
def yX2_stateAt : MethodName := ⟨RX2, "stateAt", "(I)LBellWords$Tower;"⟩
def RX3 : String := "BellWords$Letters"
def TX3 : u_T := fun k => match k with
  | 0 => ("BellWords$Letters", "groups", "LBellWords$Row;", true)
  | 1 => ("BellWords$Letters", "firstCounts", "LBellWords$Row;", true)
  | 2 => ("BellWords$Letters", "secondCounts", "LBellWords$Row;", true)
  | 3 => ("BellWords$Letters", "values", "LBellWords$Row;", true)
  | 4 => ("BellWords$Letters", "letterOfCell", "LBellWords$Row;", true)
  | _ => ("BellWords$Letters", "number", "I", false)
def tyX3 : Nat → FieldType := fun k => match k with
  | 0 => .object "BellWords$Row"
  | 1 => .object "BellWords$Row"
  | 2 => .object "BellWords$Row"
  | 3 => .object "BellWords$Row"
  | 4 => .object "BellWords$Row"
  | _ => .int
theorem nmX3 : ∀ a, a < 6 → ∀ b, b < 6 → a ≠ b → (TX3 a).2.1 ≠ (TX3 b).2.1 := by decide +kernel
theorem tyX3_ok : ∀ k, k < 6 → parseFieldDescriptor (TX3 k).2.2.1 = some (tyX3 k) := by decide +kernel
abbrev cX3_init : ByteArray := prog_5_method_1_code
def yX3_init : MethodName := ⟨RX3, "<init>", "()V"⟩
abbrev cX3_restart : ByteArray := prog_5_method_2_code
def yX3_restart : MethodName := ⟨RX3, "restart", "(LBellWords$Tower;)V"⟩
abbrev cX3_begin : ByteArray := prog_5_method_3_code
def yX3_begin : MethodName := ⟨RX3, "begin", "()V"⟩
abbrev cX3_beginGroup : ByteArray := prog_5_method_4_code
def yX3_beginGroup : MethodName := ⟨RX3, "beginGroup", "()V"⟩
abbrev cX3_lengthen : ByteArray := prog_5_method_5_code
def yX3_lengthen : MethodName := ⟨RX3, "lengthen", "(I)V"⟩
abbrev cX3_settle : ByteArray := prog_5_method_6_code
def yX3_settle : MethodName := ⟨RX3, "settle", "()V"⟩
abbrev cX3_letterWith : ByteArray := prog_5_method_7_code
def yX3_letterWith : MethodName := ⟨RX3, "letterWith", "(III)I"⟩
abbrev cX3_withOneMore : ByteArray := prog_5_method_8_code
def yX3_withOneMore : MethodName := ⟨RX3, "withOneMore", "(I)I"⟩
abbrev cX3_bitOf : ByteArray := prog_5_method_9_code
def yX3_bitOf : MethodName := ⟨RX3, "bitOf", "(I)I"⟩
abbrev cX3_letterBy : ByteArray := prog_5_method_10_code
def yX3_letterBy : MethodName := ⟨RX3, "letterBy", "(II)I"⟩
def RX4 : String := "BellWords$Messages"
def TX4 : u_T := fun k => match k with
  | 0 => ("BellWords$Messages", "firstStrokes", "LBellWords$Row;", true)
  | 1 => ("BellWords$Messages", "firstLetters", "LBellWords$Row;", true)
  | 2 => ("BellWords$Messages", "lengths", "LBellWords$Row;", true)
  | 3 => ("BellWords$Messages", "placed", "LBellWords$Row;", true)
  | 4 => ("BellWords$Messages", "doubtful", "LBellWords$Row;", true)
  | 5 => ("BellWords$Messages", "unreadable", "LBellWords$Row;", true)
  | 6 => ("BellWords$Messages", "sums", "LBellWords$Row;", true)
  | _ => ("BellWords$Messages", "number", "I", false)
def tyX4 : Nat → FieldType := fun k => match k with
  | 0 => .object "BellWords$Row"
  | 1 => .object "BellWords$Row"
  | 2 => .object "BellWords$Row"
  | 3 => .object "BellWords$Row"
  | 4 => .object "BellWords$Row"
  | 5 => .object "BellWords$Row"
  | 6 => .object "BellWords$Row"
  | _ => .int
theorem nmX4 : ∀ a, a < 8 → ∀ b, b < 8 → a ≠ b → (TX4 a).2.1 ≠ (TX4 b).2.1 := by decide +kernel
theorem tyX4_ok : ∀ k, k < 8 → parseFieldDescriptor (TX4 k).2.2.1 = some (tyX4 k) := by decide +kernel
abbrev cX4_init : ByteArray := prog_6_method_1_code
def yX4_init : MethodName := ⟨RX4, "<init>", "()V"⟩
abbrev cX4_begin : ByteArray := prog_6_method_2_code
def yX4_begin : MethodName := ⟨RX4, "begin", "(II)V"⟩
abbrev cX4_addTo : ByteArray := prog_6_method_3_code
def yX4_addTo : MethodName := ⟨RX4, "addTo", "(LBellWords$Row;)V"⟩
abbrev cX4_totalOf : ByteArray := prog_6_method_4_code
def yX4_totalOf : MethodName := ⟨RX4, "totalOf", "(LBellWords$Row;)I"⟩
def RX5 : String := "BellWords$Orders"
def TX5 : u_T := fun k => match k with
  | 0 => ("BellWords$Orders", "signs", "LBellWords$Row;", true)
  | 1 => ("BellWords$Orders", "length", "I", false)
  | 2 => ("BellWords$Orders", "start", "I", false)
  | _ => ("BellWords$Orders", "reason", "I", false)
def tyX5 : Nat → FieldType := fun k => match k with
  | 0 => .object "BellWords$Row"
  | 1 => .int
  | 2 => .int
  | _ => .int
theorem nmX5 : ∀ a, a < 4 → ∀ b, b < 4 → a ≠ b → (TX5 a).2.1 ≠ (TX5 b).2.1 := by decide +kernel
theorem tyX5_ok : ∀ k, k < 4 → parseFieldDescriptor (TX5 k).2.2.1 = some (tyX5 k) := by decide +kernel
abbrev cX5_init : ByteArray := prog_7_method_1_code
def yX5_init : MethodName := ⟨RX5, "<init>", "()V"⟩
def RX6 : String := "BellWords$Reading"
def TX6 : u_T := fun k => match k with
  | 0 => ("BellWords$Reading", "letters", "LBellWords$Letters;", true)
  | 1 => ("BellWords$Reading", "messages", "LBellWords$Messages;", true)
  | 2 => ("BellWords$Reading", "gaps", "LBellWords$Row;", true)
  | 3 => ("BellWords$Reading", "cases", "LBellWords$Row;", true)
  | 4 => ("BellWords$Reading", "doubts", "LBellWords$Row;", true)
  | 5 => ("BellWords$Reading", "messageNumbers", "LBellWords$Row;", true)
  | 6 => ("BellWords$Reading", "letterPlaces", "LBellWords$Row;", true)
  | 7 => ("BellWords$Reading", "groupNumbers", "LBellWords$Row;", true)
  | _ => ("BellWords$Reading", "leftOut", "I", false)
def tyX6 : Nat → FieldType := fun k => match k with
  | 0 => .object "BellWords$Letters"
  | 1 => .object "BellWords$Messages"
  | 2 => .object "BellWords$Row"
  | 3 => .object "BellWords$Row"
  | 4 => .object "BellWords$Row"
  | 5 => .object "BellWords$Row"
  | 6 => .object "BellWords$Row"
  | 7 => .object "BellWords$Row"
  | _ => .int
theorem nmX6 : ∀ a, a < 9 → ∀ b, b < 9 → a ≠ b → (TX6 a).2.1 ≠ (TX6 b).2.1 := by decide +kernel
theorem tyX6_ok : ∀ k, k < 9 → parseFieldDescriptor (TX6 k).2.2.1 = some (tyX6 k) := by decide +kernel
abbrev cX6_init : ByteArray := prog_8_method_1_code
def yX6_init : MethodName := ⟨RX6, "<init>", "()V"⟩
abbrev cX6_refresh : ByteArray := prog_8_method_2_code
def yX6_refresh : MethodName := ⟨RX6, "refresh", "(LBellWords$Tower;)V"⟩
abbrev cX6_noteGap : ByteArray := prog_8_method_3_code
def yX6_noteGap : MethodName := ⟨RX6, "noteGap", "(IILBellWords$Tower;)V"⟩
abbrev cX6_caseOf : ByteArray := prog_8_method_4_code
def yX6_caseOf : MethodName := ⟨RX6, "caseOf", "(II)I"⟩
abbrev cX6_goOn : ByteArray := prog_8_method_5_code
def yX6_goOn : MethodName := ⟨RX6, "goOn", "(I)V"⟩
abbrev cX6_beginLetter : ByteArray := prog_8_method_6_code
def yX6_beginLetter : MethodName := ⟨RX6, "beginLetter", "()V"⟩
abbrev cX6_notePlace : ByteArray := prog_8_method_7_code
def yX6_notePlace : MethodName := ⟨RX6, "notePlace", "(I)V"⟩
abbrev cX6_sumUp : ByteArray := prog_8_method_8_code
def yX6_sumUp : MethodName := ⟨RX6, "sumUp", "()V"⟩
abbrev cX6_isLeftOut : ByteArray := prog_8_method_9_code
def yX6_isLeftOut : MethodName := ⟨RX6, "isLeftOut", "(I)Z"⟩
abbrev cX6_gapDetail : ByteArray := prog_8_method_10_code
def yX6_gapDetail : MethodName := ⟨RX6, "gapDetail", "(II)I"⟩
abbrev cX6_placeDetail : ByteArray := prog_8_method_11_code
def yX6_placeDetail : MethodName := ⟨RX6, "placeDetail", "(II)I"⟩
abbrev cX6_hasMessage : ByteArray := prog_8_method_12_code
def yX6_hasMessage : MethodName := ⟨RX6, "hasMessage", "(I)Z"⟩
abbrev cX6_lengthOf : ByteArray := prog_8_method_13_code
def yX6_lengthOf : MethodName := ⟨RX6, "lengthOf", "(I)I"⟩
abbrev cX6_indexOf : ByteArray := prog_8_method_14_code
def yX6_indexOf : MethodName := ⟨RX6, "indexOf", "(II)I"⟩
abbrev cX6_letterIn : ByteArray := prog_8_method_15_code
def yX6_letterIn : MethodName := ⟨RX6, "letterIn", "(II)I"⟩
abbrev cX6_isRight : ByteArray := prog_8_method_16_code
def yX6_isRight : MethodName := ⟨RX6, "isRight", "(I)Z"⟩
abbrev cX6_isRightWith : ByteArray := prog_8_method_17_code
def yX6_isRightWith : MethodName := ⟨RX6, "isRightWith", "(III)Z"⟩
abbrev cX6_rightOnes : ByteArray := prog_8_method_19_code
def yX6_rightOnes : MethodName := ⟨RX6, "rightOnes", "()I"⟩
def RX7 : String := "BellWords$Row"
def TX7 : u_T := fun k => match k with
  | _ => ("BellWords$Row", "cells", "[I", true)
def tyX7 : Nat → FieldType := fun k => match k with
  | _ => .array .int
theorem nmX7 : ∀ a, a < 1 → ∀ b, b < 1 → a ≠ b → (TX7 a).2.1 ≠ (TX7 b).2.1 := by decide +kernel
theorem tyX7_ok : ∀ k, k < 1 → parseFieldDescriptor (TX7 k).2.2.1 = some (tyX7 k) := by decide +kernel
abbrev cX7_init : ByteArray := prog_9_method_1_code
def yX7_init : MethodName := ⟨RX7, "<init>", "(I)V"⟩
abbrev cX7_at : ByteArray := prog_9_method_2_code
def yX7_at : MethodName := ⟨RX7, "at", "(I)I"⟩
abbrev cX7_put : ByteArray := prog_9_method_3_code
def yX7_put : MethodName := ⟨RX7, "put", "(II)V"⟩
abbrev cX7_add : ByteArray := prog_9_method_4_code
def yX7_add : MethodName := ⟨RX7, "add", "(II)V"⟩
abbrev cX7_copy : ByteArray := prog_9_method_6_code
def yX7_copy : MethodName := ⟨RX7, "copy", "(LBellWords$Row;I)V"⟩
def RX8 : String := "BellWords$Tower"
def TX8 : u_T := fun k => match k with
  | 0 => ("BellWords$Tower", "times", "LBellWords$Row;", true)
  | 1 => ("BellWords$Tower", "cellOf", "LBellWords$Row;", true)
  | 2 => ("BellWords$Tower", "strokes", "I", false)
  | 3 => ("BellWords$Tower", "beat", "I", false)
  | 4 => ("BellWords$Tower", "tolerance", "I", false)
  | _ => ("BellWords$Tower", "paused", "Z", false)
def tyX8 : Nat → FieldType := fun k => match k with
  | 0 => .object "BellWords$Row"
  | 1 => .object "BellWords$Row"
  | 2 => .int
  | 3 => .int
  | 4 => .int
  | _ => .boolean
theorem nmX8 : ∀ a, a < 6 → ∀ b, b < 6 → a ≠ b → (TX8 a).2.1 ≠ (TX8 b).2.1 := by decide +kernel
theorem tyX8_ok : ∀ k, k < 6 → parseFieldDescriptor (TX8 k).2.2.1 = some (tyX8 k) := by decide +kernel
abbrev cX8_init : ByteArray := prog_10_method_1_code
def yX8_init : MethodName := ⟨RX8, "<init>", "()V"⟩
abbrev cX8_become : ByteArray := prog_10_method_2_code
def yX8_become : MethodName := ⟨RX8, "become", "(LBellWords$Tower;)V"⟩
abbrev cX8_exchange : ByteArray := prog_10_method_3_code
def yX8_exchange : MethodName := ⟨RX8, "exchange", "(II)V"⟩
abbrev cX8_rowOf : ByteArray := prog_10_method_4_code
def yX8_rowOf : MethodName := ⟨RX8, "rowOf", "(I)I"⟩
abbrev cX8_columnOf : ByteArray := prog_10_method_5_code
def yX8_columnOf : MethodName := ⟨RX8, "columnOf", "(I)I"⟩
abbrev cX8_tablePlace : ByteArray := prog_10_method_6_code
def yX8_tablePlace : MethodName := ⟨RX8, "tablePlace", "(I)I"⟩
abbrev cX8_hasStroke : ByteArray := prog_10_method_7_code
def yX8_hasStroke : MethodName := ⟨RX8, "hasStroke", "(I)Z"⟩
abbrev cX8_isFull : ByteArray := prog_10_method_8_code
def yX8_isFull : MethodName := ⟨RX8, "isFull", "()Z"⟩
abbrev cX8_lastTime : ByteArray := prog_10_method_9_code
def yX8_lastTime : MethodName := ⟨RX8, "lastTime", "()I"⟩
abbrev cX8_strokesAhead : ByteArray := prog_10_method_10_code
def yX8_strokesAhead : MethodName := ⟨RX8, "strokesAhead", "(I)I"⟩
abbrev cX8_hasStrokeAt : ByteArray := prog_10_method_11_code
def yX8_hasStrokeAt : MethodName := ⟨RX8, "hasStrokeAt", "(I)Z"⟩
abbrev cX8_addStroke : ByteArray := prog_10_method_12_code
def yX8_addStroke : MethodName := ⟨RX8, "addStroke", "(I)I"⟩
abbrev cX8_removeStroke : ByteArray := prog_10_method_13_code
def yX8_removeStroke : MethodName := ⟨RX8, "removeStroke", "(I)V"⟩
abbrev cX8_nextTime : ByteArray := prog_10_method_14_code
def yX8_nextTime : MethodName := ⟨RX8, "nextTime", "()I"⟩
abbrev cX8_hasRoomFor : ByteArray := prog_10_method_15_code
def yX8_hasRoomFor : MethodName := ⟨RX8, "hasRoomFor", "(I)Z"⟩
abbrev cX8_ringLetter : ByteArray := prog_10_method_16_code
def yX8_ringLetter : MethodName := ⟨RX8, "ringLetter", "(I)V"⟩
abbrev cX8_ringGroup : ByteArray := prog_10_method_17_code
def yX8_ringGroup : MethodName := ⟨RX8, "ringGroup", "(II)V"⟩
def RX9 : String := "BellWords"
def TX9 : u_T := fun k => match k with
  | 0 => ("BellWords", "tower", "LBellWords$Tower;", true)
  | 1 => ("BellWords", "rehearsal", "LBellWords$Tower;", true)
  | 2 => ("BellWords", "history", "LBellWords$History;", true)
  | 3 => ("BellWords", "reading", "LBellWords$Reading;", true)
  | 4 => ("BellWords", "corrections", "LBellWords$Corrections;", true)
  | 5 => ("BellWords", "ballot", "LBellWords$Ballot;", true)
  | _ => ("BellWords", "orders", "LBellWords$Orders;", true)
def tyX9 : Nat → FieldType := fun k => match k with
  | 0 => .object "BellWords$Tower"
  | 1 => .object "BellWords$Tower"
  | 2 => .object "BellWords$History"
  | 3 => .object "BellWords$Reading"
  | 4 => .object "BellWords$Corrections"
  | 5 => .object "BellWords$Ballot"
  | _ => .object "BellWords$Orders"
theorem nmX9 : ∀ a, a < 7 → ∀ b, b < 7 → a ≠ b → (TX9 a).2.1 ≠ (TX9 b).2.1 := by decide +kernel
theorem tyX9_ok : ∀ k, k < 7 → parseFieldDescriptor (TX9 k).2.2.1 = some (tyX9 k) := by decide +kernel
abbrev cX9_init : ByteArray := prog_1_method_1_code
def yX9_init : MethodName := ⟨RX9, "<init>", "()V"⟩
abbrev cX9_set : ByteArray := prog_1_method_2_code
def yX9_set : MethodName := ⟨RX9, "set", "(II)I"⟩
abbrev cX9_swap : ByteArray := prog_1_method_3_code
def yX9_swap : MethodName := ⟨RX9, "swap", "(II)I"⟩
abbrev cX9_ring : ByteArray := prog_1_method_4_code
def yX9_ring : MethodName := ⟨RX9, "ring", "(I)I"⟩
abbrev cX9_pause : ByteArray := prog_1_method_5_code
def yX9_pause : MethodName := ⟨RX9, "pause", "()I"⟩
abbrev cX9_strike : ByteArray := prog_1_method_6_code
def yX9_strike : MethodName := ⟨RX9, "strike", "(I)I"⟩
abbrev cX9_mute : ByteArray := prog_1_method_7_code
def yX9_mute : MethodName := ⟨RX9, "mute", "(I)I"⟩
abbrev cX9_shift : ByteArray := prog_1_method_8_code
def yX9_shift : MethodName := ⟨RX9, "shift", "(II)I"⟩
abbrev cX9_strokeOf : ByteArray := prog_1_method_9_code
def yX9_strokeOf : MethodName := ⟨RX9, "strokeOf", "(II)I"⟩
abbrev cX9_messageOf : ByteArray := prog_1_method_10_code
def yX9_messageOf : MethodName := ⟨RX9, "messageOf", "(II)I"⟩
abbrev cX9_letterOf : ByteArray := prog_1_method_11_code
def yX9_letterOf : MethodName := ⟨RX9, "letterOf", "(III)I"⟩
abbrev cX9_tableOf : ByteArray := prog_1_method_15_code
def yX9_tableOf : MethodName := ⟨RX9, "tableOf", "(I)I"⟩
abbrev cX9_count : ByteArray := prog_1_method_16_code
def yX9_count : MethodName := ⟨RX9, "count", "(I)I"⟩
abbrev cX9_isLetter : ByteArray := prog_1_method_22_code
def yX9_isLetter : MethodName := ⟨RX9, "isLetter", "(I)Z"⟩
abbrev cX9_orNotFound : ByteArray := prog_1_method_23_code
def yX9_orNotFound : MethodName := ⟨RX9, "orNotFound", "(I)I"⟩
abbrev cX9_countOfState : ByteArray := prog_1_method_24_code
def yX9_countOfState : MethodName := ⟨RX9, "countOfState", "(I)I"⟩
def RX10 : String := "BellWordsModel"
def TX10 : u_T := fun k => match k with
  | _ => ("", "", "", false)
def tyX10 : Nat → FieldType := fun k => match k with
  | _ => .int
theorem nmX10 : ∀ a, a < 0 → ∀ b, b < 0 → a ≠ b → (TX10 a).2.1 ≠ (TX10 b).2.1 := by decide +kernel
theorem tyX10_ok : ∀ k, k < 0 → parseFieldDescriptor (TX10 k).2.2.1 = some (tyX10 k) := by decide +kernel
def RJ9 : String := "java/lang/Math"
def TJ9 : u_T := fun k => match k with
  | _ => ("", "", "", false)
def tyJ9 : Nat → FieldType := fun k => match k with
  | _ => .int
theorem nmJ9 : ∀ a, a < 0 → ∀ b, b < 0 → a ≠ b → (TJ9 a).2.1 ≠ (TJ9 b).2.1 := by decide +kernel
theorem tyJ9_ok : ∀ k, k < 0 → parseFieldDescriptor (TJ9 k).2.2.1 = some (tyJ9 k) := by decide +kernel
abbrev cJ9_floorMod_7cf53 : ByteArray := prog_13_method_50_code
def yJ9_floorMod_7cf53 : MethodName := ⟨RJ9, "floorMod", "(II)I"⟩
def RL : String := "BellWordsLaw"
abbrev cL_cell : ByteArray := method_2_code
def yL_cell : MethodName := ⟨RL, "cell", "([II)I"⟩
abbrev cL_low : ByteArray := method_3_code
def yL_low : MethodName := ⟨RL, "low", "(II)I"⟩
abbrev cL_at : ByteArray := method_4_code
def yL_at : MethodName := ⟨RL, "at", "([III)I"⟩
abbrev cL_kind : ByteArray := method_5_code
def yL_kind : MethodName := ⟨RL, "kind", "([II)I"⟩
abbrev cL_doubt : ByteArray := method_6_code
def yL_doubt : MethodName := ⟨RL, "doubt", "([II)Z"⟩
abbrev cL_read : ByteArray := method_7_code
def yL_read : MethodName := ⟨RL, "read", "([I[I[I[I[I[I[I[I[I)I"⟩
abbrev cL_one : ByteArray := method_8_code
def yL_one : MethodName := ⟨RL, "one", "(I)I"⟩
abbrev cL_two : ByteArray := method_9_code
def yL_two : MethodName := ⟨RL, "two", "(I)I"⟩
abbrev cL_good : ByteArray := method_10_code
def yL_good : MethodName := ⟨RL, "good", "(I)Z"⟩
abbrev cL_letter : ByteArray := method_11_code
def yL_letter : MethodName := ⟨RL, "letter", "([II)I"⟩
abbrev cL_first : ByteArray := method_12_code
def yL_first : MethodName := ⟨RL, "first", "([III)I"⟩
abbrev cL_right : ByteArray := method_13_code
def yL_right : MethodName := ⟨RL, "right", "([I[III)Z"⟩
abbrev cL_put : ByteArray := method_14_code
def yL_put : MethodName := ⟨RL, "put", "([I[II)V"⟩
abbrev cL_place : ByteArray := method_15_code
def yL_place : MethodName := ⟨RL, "place", "([I[II)I"⟩
abbrev cL_mute : ByteArray := method_16_code
def yL_mute : MethodName := ⟨RL, "mute", "([I[II)I"⟩
abbrev cL_ring : ByteArray := method_17_code
def yL_ring : MethodName := ⟨RL, "ring", "([I[I[II)V"⟩
abbrev cL_acts : ByteArray := method_18_code
def yL_acts : MethodName := ⟨RL, "acts", "(LBellWords;[I[I[II)Z"⟩
abbrev cL_isSo : ByteArray := method_19_code
def yL_isSo : MethodName := ⟨RL, "isSo", "(LBellWords;[I[I[I)Z"⟩
abbrev cL_law : ByteArray := code
def yL_law : MethodName := ⟨RL, "law", "([I)Z"⟩
abbrev vwCl : List vw_C := [(RX0, TX0, 4), (RX1, TX1, 5), (RX2, TX2, 3), (RX3, TX3, 6), (RX4, TX4, 8), (RX5, TX5, 4), (RX6, TX6, 9), (RX7, TX7, 1), (RX8, TX8, 6), (RX9, TX9, 7)]
end
section
theorem dX0_init_0 : decode cX0_init 0 = .ok (.aload_n 0, 1) := by decide +kernel
theorem dX0_init_1 : decode cX0_init 1 = .ok (.invokespecial 3, 3) := by decide +kernel
theorem dX0_init_4 : decode cX0_init 4 = .ok (.aload_n 0, 1) := by decide +kernel
theorem dX0_init_5 : decode cX0_init 5 = .ok (.new 9, 3) := by decide +kernel
theorem dX0_init_8 : decode cX0_init 8 = .ok (.dup, 1) := by decide +kernel
theorem dX0_init_9 : decode cX0_init 9 = .ok (.bipush 25, 2) := by decide +kernel
theorem dX0_init_11 : decode cX0_init 11 = .ok (.invokespecial 11, 3) := by decide +kernel
theorem dX0_init_14 : decode cX0_init 14 = .ok (.putfield 14, 3) := by decide +kernel
theorem dX0_init_17 : decode cX0_init 17 = .ok (.aload_n 0, 1) := by decide +kernel
theorem dX0_init_18 : decode cX0_init 18 = .ok (.iconst (-1), 1) := by decide +kernel
theorem dX0_init_19 : decode cX0_init 19 = .ok (.putfield 20, 3) := by decide +kernel
theorem dX0_init_22 : decode cX0_init 22 = .ok (.aload_n 0, 1) := by decide +kernel
theorem dX0_init_23 : decode cX0_init 23 = .ok (.iconst 0, 1) := by decide +kernel
theorem dX0_init_24 : decode cX0_init 24 = .ok (.putfield 24, 3) := by decide +kernel
theorem dX0_init_27 : decode cX0_init 27 = .ok (.aload_n 0, 1) := by decide +kernel
theorem dX0_init_28 : decode cX0_init 28 = .ok (.iconst 0, 1) := by decide +kernel
theorem dX0_init_29 : decode cX0_init 29 = .ok (.putfield 27, 3) := by decide +kernel
theorem dX0_init_32 : decode cX0_init 32 = .ok (.return_, 1) := by decide +kernel
theorem dX1_init_0 : decode cX1_init 0 = .ok (.aload_n 0, 1) := by decide +kernel
theorem dX1_init_1 : decode cX1_init 1 = .ok (.invokespecial 3, 3) := by decide +kernel
theorem dX1_init_4 : decode cX1_init 4 = .ok (.aload_n 0, 1) := by decide +kernel
theorem dX1_init_5 : decode cX1_init 5 = .ok (.iconst (-1), 1) := by decide +kernel
theorem dX1_init_6 : decode cX1_init 6 = .ok (.putfield 9, 3) := by decide +kernel
theorem dX1_init_9 : decode cX1_init 9 = .ok (.aload_n 0, 1) := by decide +kernel
theorem dX1_init_10 : decode cX1_init 10 = .ok (.iconst (-1), 1) := by decide +kernel
theorem dX1_init_11 : decode cX1_init 11 = .ok (.putfield 15, 3) := by decide +kernel
theorem dX1_init_14 : decode cX1_init 14 = .ok (.aload_n 0, 1) := by decide +kernel
theorem dX1_init_15 : decode cX1_init 15 = .ok (.iconst 0, 1) := by decide +kernel
theorem dX1_init_16 : decode cX1_init 16 = .ok (.putfield 18, 3) := by decide +kernel
theorem dX1_init_19 : decode cX1_init 19 = .ok (.aload_n 0, 1) := by decide +kernel
theorem dX1_init_20 : decode cX1_init 20 = .ok (.iconst (-1), 1) := by decide +kernel
theorem dX1_init_21 : decode cX1_init 21 = .ok (.putfield 21, 3) := by decide +kernel
theorem dX1_init_24 : decode cX1_init 24 = .ok (.aload_n 0, 1) := by decide +kernel
theorem dX1_init_25 : decode cX1_init 25 = .ok (.iconst 0, 1) := by decide +kernel
theorem dX1_init_26 : decode cX1_init 26 = .ok (.putfield 24, 3) := by decide +kernel
theorem dX1_init_29 : decode cX1_init 29 = .ok (.return_, 1) := by decide +kernel
theorem dX1_fitting_0 : decode cX1_fitting 0 = .ok (.aload_n 0, 1) := by decide +kernel
theorem dX1_fitting_1 : decode cX1_fitting 1 = .ok (.aload_n 1, 1) := by decide +kernel
theorem dX1_fitting_2 : decode cX1_fitting 2 = .ok (.iload_n 2, 1) := by decide +kernel
theorem dX1_fitting_3 : decode cX1_fitting 3 = .ok (.iconst (-1), 1) := by decide +kernel
theorem dX1_fitting_4 : decode cX1_fitting 4 = .ok (.invokevirtual 27, 3) := by decide +kernel
theorem dX1_fitting_7 : decode cX1_fitting 7 = .ok (.aload_n 0, 1) := by decide +kernel
theorem dX1_fitting_8 : decode cX1_fitting 8 = .ok (.getfield 24, 3) := by decide +kernel
theorem dX1_fitting_11 : decode cX1_fitting 11 = .ok (.ireturn, 1) := by decide +kernel
theorem dX1_search_0 : decode cX1_search 0 = .ok (.aload_n 0, 1) := by decide +kernel
theorem dX1_search_1 : decode cX1_search 1 = .ok (.iconst 0, 1) := by decide +kernel
theorem dX1_search_2 : decode cX1_search 2 = .ok (.putfield 24, 3) := by decide +kernel
theorem dX1_search_5 : decode cX1_search 5 = .ok (.iconst 0, 1) := by decide +kernel
theorem dX1_search_6 : decode cX1_search 6 = .ok (.istore 4, 2) := by decide +kernel
theorem dX1_search_8 : decode cX1_search 8 = .ok (.iload 4, 2) := by decide +kernel
theorem dX1_search_10 : decode cX1_search 10 = .ok (.aload_n 1, 1) := by decide +kernel
theorem dX1_search_11 : decode cX1_search 11 = .ok (.iload_n 2, 1) := by decide +kernel
theorem dX1_search_12 : decode cX1_search 12 = .ok (.invokevirtual 42, 3) := by decide +kernel
theorem dX1_search_15 : decode cX1_search 15 = .ok (.if_icmp .ge 48, 3) := by decide +kernel
theorem dX1_search_18 : decode cX1_search 18 = .ok (.iconst 0, 1) := by decide +kernel
theorem dX1_search_19 : decode cX1_search 19 = .ok (.istore 5, 2) := by decide +kernel
theorem dX1_search_21 : decode cX1_search 21 = .ok (.iload 5, 2) := by decide +kernel
theorem dX1_search_23 : decode cX1_search 23 = .ok (.iconst 2, 1) := by decide +kernel
theorem dX1_search_24 : decode cX1_search 24 = .ok (.if_icmp .ge 33, 3) := by decide +kernel
theorem dX1_search_27 : decode cX1_search 27 = .ok (.aload_n 0, 1) := by decide +kernel
theorem dX1_search_28 : decode cX1_search 28 = .ok (.aload_n 1, 1) := by decide +kernel
theorem dX1_search_29 : decode cX1_search 29 = .ok (.iload_n 2, 1) := by decide +kernel
theorem dX1_search_30 : decode cX1_search 30 = .ok (.iload 4, 2) := by decide +kernel
theorem dX1_search_32 : decode cX1_search 32 = .ok (.iload 5, 2) := by decide +kernel
theorem dX1_search_34 : decode cX1_search 34 = .ok (.iconst 1, 1) := by decide +kernel
theorem dX1_search_35 : decode cX1_search 35 = .ok (.iload_n 3, 1) := by decide +kernel
theorem dX1_search_36 : decode cX1_search 36 = .ok (.invokevirtual 46, 3) := by decide +kernel
theorem dX1_search_39 : decode cX1_search 39 = .ok (.aload_n 0, 1) := by decide +kernel
theorem dX1_search_40 : decode cX1_search 40 = .ok (.aload_n 1, 1) := by decide +kernel
theorem dX1_search_41 : decode cX1_search 41 = .ok (.iload_n 2, 1) := by decide +kernel
theorem dX1_search_42 : decode cX1_search 42 = .ok (.iload 4, 2) := by decide +kernel
theorem dX1_search_44 : decode cX1_search 44 = .ok (.iload 5, 2) := by decide +kernel
theorem dX1_search_46 : decode cX1_search 46 = .ok (.iconst (-1), 1) := by decide +kernel
theorem dX1_search_47 : decode cX1_search 47 = .ok (.iload_n 3, 1) := by decide +kernel
theorem dX1_search_48 : decode cX1_search 48 = .ok (.invokevirtual 46, 3) := by decide +kernel
theorem dX1_search_51 : decode cX1_search 51 = .ok (.iinc 5 1, 3) := by decide +kernel
theorem dX1_search_54 : decode cX1_search 54 = .ok (.goto (-33), 3) := by decide +kernel
theorem dX1_search_57 : decode cX1_search 57 = .ok (.iinc 4 1, 3) := by decide +kernel
theorem dX1_search_60 : decode cX1_search 60 = .ok (.goto (-52), 3) := by decide +kernel
theorem dX1_search_63 : decode cX1_search 63 = .ok (.return_, 1) := by decide +kernel
theorem dX1_consider_0 : decode cX1_consider 0 = .ok (.aload_n 1, 1) := by decide +kernel
theorem dX1_consider_1 : decode cX1_consider 1 = .ok (.getfield 50, 3) := by decide +kernel
theorem dX1_consider_4 : decode cX1_consider 4 = .ok (.aload_n 1, 1) := by decide +kernel
theorem dX1_consider_5 : decode cX1_consider 5 = .ok (.iload_n 2, 1) := by decide +kernel
theorem dX1_consider_6 : decode cX1_consider 6 = .ok (.iload_n 3, 1) := by decide +kernel
theorem dX1_consider_7 : decode cX1_consider 7 = .ok (.invokevirtual 54, 3) := by decide +kernel
theorem dX1_consider_10 : decode cX1_consider 10 = .ok (.iload 4, 2) := by decide +kernel
theorem dX1_consider_12 : decode cX1_consider 12 = .ok (.iload 5, 2) := by decide +kernel
theorem dX1_consider_14 : decode cX1_consider 14 = .ok (.invokevirtual 58, 3) := by decide +kernel
theorem dX1_consider_17 : decode cX1_consider 17 = .ok (.istore 7, 2) := by decide +kernel
theorem dX1_consider_19 : decode cX1_consider 19 = .ok (.iload 7, 2) := by decide +kernel
theorem dX1_consider_21 : decode cX1_consider 21 = .ok (.iconst (-1), 1) := by decide +kernel
theorem dX1_consider_22 : decode cX1_consider 22 = .ok (.if_icmp .eq 14, 3) := by decide +kernel
theorem dX1_consider_25 : decode cX1_consider 25 = .ok (.aload_n 1, 1) := by decide +kernel
theorem dX1_consider_26 : decode cX1_consider 26 = .ok (.iload_n 2, 1) := by decide +kernel
theorem dX1_consider_27 : decode cX1_consider 27 = .ok (.iload_n 3, 1) := by decide +kernel
theorem dX1_consider_28 : decode cX1_consider 28 = .ok (.iload 7, 2) := by decide +kernel
theorem dX1_consider_30 : decode cX1_consider 30 = .ok (.invokevirtual 64, 3) := by decide +kernel
theorem dX1_consider_33 : decode cX1_consider 33 = .ok (.ifCond .ne 4, 3) := by decide +kernel
theorem dX1_consider_36 : decode cX1_consider 36 = .ok (.return_, 1) := by decide +kernel
theorem dX1_consider_37 : decode cX1_consider 37 = .ok (.aload_n 0, 1) := by decide +kernel
theorem dX1_consider_38 : decode cX1_consider 38 = .ok (.getfield 24, 3) := by decide +kernel
theorem dX1_consider_41 : decode cX1_consider 41 = .ok (.iload 6, 2) := by decide +kernel
theorem dX1_consider_43 : decode cX1_consider 43 = .ok (.if_icmp .ne 26, 3) := by decide +kernel
theorem dX1_consider_46 : decode cX1_consider 46 = .ok (.aload_n 0, 1) := by decide +kernel
theorem dX1_consider_47 : decode cX1_consider 47 = .ok (.iload_n 3, 1) := by decide +kernel
theorem dX1_consider_48 : decode cX1_consider 48 = .ok (.putfield 9, 3) := by decide +kernel
theorem dX1_consider_51 : decode cX1_consider 51 = .ok (.aload_n 0, 1) := by decide +kernel
theorem dX1_consider_52 : decode cX1_consider 52 = .ok (.iload 4, 2) := by decide +kernel
theorem dX1_consider_54 : decode cX1_consider 54 = .ok (.putfield 15, 3) := by decide +kernel
theorem dX1_consider_57 : decode cX1_consider 57 = .ok (.aload_n 0, 1) := by decide +kernel
theorem dX1_consider_58 : decode cX1_consider 58 = .ok (.iload 5, 2) := by decide +kernel
theorem dX1_consider_60 : decode cX1_consider 60 = .ok (.putfield 18, 3) := by decide +kernel
theorem dX1_consider_63 : decode cX1_consider 63 = .ok (.aload_n 0, 1) := by decide +kernel
theorem dX1_consider_64 : decode cX1_consider 64 = .ok (.iload 7, 2) := by decide +kernel
theorem dX1_consider_66 : decode cX1_consider 66 = .ok (.putfield 21, 3) := by decide +kernel
theorem dX1_consider_69 : decode cX1_consider 69 = .ok (.aload_n 0, 1) := by decide +kernel
theorem dX1_consider_70 : decode cX1_consider 70 = .ok (.dup, 1) := by decide +kernel
theorem dX1_consider_71 : decode cX1_consider 71 = .ok (.getfield 24, 3) := by decide +kernel
theorem dX1_consider_74 : decode cX1_consider 74 = .ok (.iconst 1, 1) := by decide +kernel
theorem dX1_consider_75 : decode cX1_consider 75 = .ok (.iadd, 1) := by decide +kernel
theorem dX1_consider_76 : decode cX1_consider 76 = .ok (.putfield 24, 3) := by decide +kernel
theorem dX1_consider_79 : decode cX1_consider 79 = .ok (.return_, 1) := by decide +kernel
theorem dX2_init_0 : decode cX2_init 0 = .ok (.aload_n 0, 1) := by decide +kernel
theorem dX2_init_1 : decode cX2_init 1 = .ok (.invokespecial 3, 3) := by decide +kernel
theorem dX2_init_4 : decode cX2_init 4 = .ok (.aload_n 0, 1) := by decide +kernel
theorem dX2_init_5 : decode cX2_init 5 = .ok (.iconst 4, 1) := by decide +kernel
theorem dX2_init_6 : decode cX2_init 6 = .ok (.anewarray 9, 3) := by decide +kernel
theorem dX2_init_9 : decode cX2_init 9 = .ok (.putfield 11, 3) := by decide +kernel
theorem dX2_init_12 : decode cX2_init 12 = .ok (.aload_n 0, 1) := by decide +kernel
theorem dX2_init_13 : decode cX2_init 13 = .ok (.iconst 0, 1) := by decide +kernel
theorem dX2_init_14 : decode cX2_init 14 = .ok (.putfield 17, 3) := by decide +kernel
theorem dX2_init_17 : decode cX2_init 17 = .ok (.aload_n 0, 1) := by decide +kernel
theorem dX2_init_18 : decode cX2_init 18 = .ok (.iconst 0, 1) := by decide +kernel
theorem dX2_init_19 : decode cX2_init 19 = .ok (.putfield 21, 3) := by decide +kernel
theorem dX2_init_22 : decode cX2_init 22 = .ok (.iconst 0, 1) := by decide +kernel
theorem dX2_init_23 : decode cX2_init 23 = .ok (.istore_n 1, 1) := by decide +kernel
theorem dX2_init_24 : decode cX2_init 24 = .ok (.iload_n 1, 1) := by decide +kernel
theorem dX2_init_25 : decode cX2_init 25 = .ok (.aload_n 0, 1) := by decide +kernel
theorem dX2_init_26 : decode cX2_init 26 = .ok (.getfield 11, 3) := by decide +kernel
theorem dX2_init_29 : decode cX2_init 29 = .ok (.arraylength, 1) := by decide +kernel
theorem dX2_init_30 : decode cX2_init 30 = .ok (.if_icmp .ge 22, 3) := by decide +kernel
theorem dX2_init_33 : decode cX2_init 33 = .ok (.aload_n 0, 1) := by decide +kernel
theorem dX2_init_34 : decode cX2_init 34 = .ok (.getfield 11, 3) := by decide +kernel
theorem dX2_init_37 : decode cX2_init 37 = .ok (.iload_n 1, 1) := by decide +kernel
theorem dX2_init_38 : decode cX2_init 38 = .ok (.new 9, 3) := by decide +kernel
theorem dX2_init_41 : decode cX2_init 41 = .ok (.dup, 1) := by decide +kernel
theorem dX2_init_42 : decode cX2_init 42 = .ok (.invokespecial 24, 3) := by decide +kernel
theorem dX2_init_45 : decode cX2_init 45 = .ok (.aastore, 1) := by decide +kernel
theorem dX2_init_46 : decode cX2_init 46 = .ok (.iinc 1 1, 3) := by decide +kernel
theorem dX2_init_49 : decode cX2_init 49 = .ok (.goto (-25), 3) := by decide +kernel
theorem dX2_init_52 : decode cX2_init 52 = .ok (.return_, 1) := by decide +kernel
theorem dX2_record_0 : decode cX2_record 0 = .ok (.aload_n 0, 1) := by decide +kernel
theorem dX2_record_1 : decode cX2_record 1 = .ok (.getfield 21, 3) := by decide +kernel
theorem dX2_record_4 : decode cX2_record 4 = .ok (.iconst 4, 1) := by decide +kernel
theorem dX2_record_5 : decode cX2_record 5 = .ok (.if_icmp .ne 25, 3) := by decide +kernel
theorem dX2_record_8 : decode cX2_record 8 = .ok (.aload_n 0, 1) := by decide +kernel
theorem dX2_record_9 : decode cX2_record 9 = .ok (.aload_n 0, 1) := by decide +kernel
theorem dX2_record_10 : decode cX2_record 10 = .ok (.getfield 17, 3) := by decide +kernel
theorem dX2_record_13 : decode cX2_record 13 = .ok (.iconst 1, 1) := by decide +kernel
theorem dX2_record_14 : decode cX2_record 14 = .ok (.iadd, 1) := by decide +kernel
theorem dX2_record_15 : decode cX2_record 15 = .ok (.iconst 4, 1) := by decide +kernel
theorem dX2_record_16 : decode cX2_record 16 = .ok (.irem, 1) := by decide +kernel
theorem dX2_record_17 : decode cX2_record 17 = .ok (.putfield 17, 3) := by decide +kernel
theorem dX2_record_20 : decode cX2_record 20 = .ok (.aload_n 0, 1) := by decide +kernel
theorem dX2_record_21 : decode cX2_record 21 = .ok (.dup, 1) := by decide +kernel
theorem dX2_record_22 : decode cX2_record 22 = .ok (.getfield 21, 3) := by decide +kernel
theorem dX2_record_25 : decode cX2_record 25 = .ok (.iconst 1, 1) := by decide +kernel
theorem dX2_record_26 : decode cX2_record 26 = .ok (.isub, 1) := by decide +kernel
theorem dX2_record_27 : decode cX2_record 27 = .ok (.putfield 21, 3) := by decide +kernel
theorem dX2_record_30 : decode cX2_record 30 = .ok (.aload_n 0, 1) := by decide +kernel
theorem dX2_record_31 : decode cX2_record 31 = .ok (.aload_n 0, 1) := by decide +kernel
theorem dX2_record_32 : decode cX2_record 32 = .ok (.getfield 21, 3) := by decide +kernel
theorem dX2_record_35 : decode cX2_record 35 = .ok (.invokevirtual 25, 3) := by decide +kernel
theorem dX2_record_38 : decode cX2_record 38 = .ok (.astore_n 2, 1) := by decide +kernel
theorem dX2_record_39 : decode cX2_record 39 = .ok (.aload_n 2, 1) := by decide +kernel
theorem dX2_record_40 : decode cX2_record 40 = .ok (.ifnull 18, 3) := by decide +kernel
theorem dX2_record_43 : decode cX2_record 43 = .ok (.aload_n 2, 1) := by decide +kernel
theorem dX2_record_44 : decode cX2_record 44 = .ok (.aload_n 1, 1) := by decide +kernel
theorem dX2_record_45 : decode cX2_record 45 = .ok (.invokevirtual 29, 3) := by decide +kernel
theorem dX2_record_48 : decode cX2_record 48 = .ok (.aload_n 0, 1) := by decide +kernel
theorem dX2_record_49 : decode cX2_record 49 = .ok (.dup, 1) := by decide +kernel
theorem dX2_record_50 : decode cX2_record 50 = .ok (.getfield 21, 3) := by decide +kernel
theorem dX2_record_53 : decode cX2_record 53 = .ok (.iconst 1, 1) := by decide +kernel
theorem dX2_record_54 : decode cX2_record 54 = .ok (.iadd, 1) := by decide +kernel
theorem dX2_record_55 : decode cX2_record 55 = .ok (.putfield 21, 3) := by decide +kernel
theorem dX2_record_58 : decode cX2_record 58 = .ok (.return_, 1) := by decide +kernel
theorem dX2_stateAt_0 : decode cX2_stateAt 0 = .ok (.aload_n 0, 1) := by decide +kernel
theorem dX2_stateAt_1 : decode cX2_stateAt 1 = .ok (.getfield 17, 3) := by decide +kernel
theorem dX2_stateAt_4 : decode cX2_stateAt 4 = .ok (.iload_n 1, 1) := by decide +kernel
theorem dX2_stateAt_5 : decode cX2_stateAt 5 = .ok (.iadd, 1) := by decide +kernel
theorem dX2_stateAt_6 : decode cX2_stateAt 6 = .ok (.iconst 4, 1) := by decide +kernel
theorem dX2_stateAt_7 : decode cX2_stateAt 7 = .ok (.invokestatic 33, 3) := by decide +kernel
theorem dX2_stateAt_10 : decode cX2_stateAt 10 = .ok (.istore_n 2, 1) := by decide +kernel
theorem dX2_stateAt_11 : decode cX2_stateAt 11 = .ok (.iload_n 2, 1) := by decide +kernel
theorem dX2_stateAt_12 : decode cX2_stateAt 12 = .ok (.aload_n 0, 1) := by decide +kernel
theorem dX2_stateAt_13 : decode cX2_stateAt 13 = .ok (.getfield 11, 3) := by decide +kernel
theorem dX2_stateAt_16 : decode cX2_stateAt 16 = .ok (.arraylength, 1) := by decide +kernel
theorem dX2_stateAt_17 : decode cX2_stateAt 17 = .ok (.if_icmp .ge 12, 3) := by decide +kernel
theorem dX2_stateAt_20 : decode cX2_stateAt 20 = .ok (.aload_n 0, 1) := by decide +kernel
theorem dX2_stateAt_21 : decode cX2_stateAt 21 = .ok (.getfield 11, 3) := by decide +kernel
theorem dX2_stateAt_24 : decode cX2_stateAt 24 = .ok (.iload_n 2, 1) := by decide +kernel
theorem dX2_stateAt_25 : decode cX2_stateAt 25 = .ok (.aaload, 1) := by decide +kernel
theorem dX2_stateAt_26 : decode cX2_stateAt 26 = .ok (.goto 4, 3) := by decide +kernel
theorem dX2_stateAt_29 : decode cX2_stateAt 29 = .ok (.aconst_null, 1) := by decide +kernel
theorem dX2_stateAt_30 : decode cX2_stateAt 30 = .ok (.areturn, 1) := by decide +kernel
theorem dX3_init_0 : decode cX3_init 0 = .ok (.aload_n 0, 1) := by decide +kernel
theorem dX3_init_1 : decode cX3_init 1 = .ok (.invokespecial 3, 3) := by decide +kernel
theorem dX3_init_4 : decode cX3_init 4 = .ok (.aload_n 0, 1) := by decide +kernel
theorem dX3_init_5 : decode cX3_init 5 = .ok (.new 9, 3) := by decide +kernel
theorem dX3_init_8 : decode cX3_init 8 = .ok (.dup, 1) := by decide +kernel
theorem dX3_init_9 : decode cX3_init 9 = .ok (.sipush 160, 3) := by decide +kernel
theorem dX3_init_12 : decode cX3_init 12 = .ok (.invokespecial 11, 3) := by decide +kernel
theorem dX3_init_15 : decode cX3_init 15 = .ok (.putfield 14, 3) := by decide +kernel
theorem dX3_init_18 : decode cX3_init 18 = .ok (.aload_n 0, 1) := by decide +kernel
theorem dX3_init_19 : decode cX3_init 19 = .ok (.new 9, 3) := by decide +kernel
theorem dX3_init_22 : decode cX3_init 22 = .ok (.dup, 1) := by decide +kernel
theorem dX3_init_23 : decode cX3_init 23 = .ok (.sipush 160, 3) := by decide +kernel
theorem dX3_init_26 : decode cX3_init 26 = .ok (.invokespecial 11, 3) := by decide +kernel
theorem dX3_init_29 : decode cX3_init 29 = .ok (.putfield 20, 3) := by decide +kernel
theorem dX3_init_32 : decode cX3_init 32 = .ok (.aload_n 0, 1) := by decide +kernel
theorem dX3_init_33 : decode cX3_init 33 = .ok (.new 9, 3) := by decide +kernel
theorem dX3_init_36 : decode cX3_init 36 = .ok (.dup, 1) := by decide +kernel
theorem dX3_init_37 : decode cX3_init 37 = .ok (.sipush 160, 3) := by decide +kernel
theorem dX3_init_40 : decode cX3_init 40 = .ok (.invokespecial 11, 3) := by decide +kernel
theorem dX3_init_43 : decode cX3_init 43 = .ok (.putfield 23, 3) := by decide +kernel
theorem dX3_init_46 : decode cX3_init 46 = .ok (.aload_n 0, 1) := by decide +kernel
theorem dX3_init_47 : decode cX3_init 47 = .ok (.new 9, 3) := by decide +kernel
theorem dX3_init_50 : decode cX3_init 50 = .ok (.dup, 1) := by decide +kernel
theorem dX3_init_51 : decode cX3_init 51 = .ok (.sipush 160, 3) := by decide +kernel
theorem dX3_init_54 : decode cX3_init 54 = .ok (.invokespecial 11, 3) := by decide +kernel
theorem dX3_init_57 : decode cX3_init 57 = .ok (.putfield 26, 3) := by decide +kernel
theorem dX3_init_60 : decode cX3_init 60 = .ok (.aload_n 0, 1) := by decide +kernel
theorem dX3_init_61 : decode cX3_init 61 = .ok (.new 9, 3) := by decide +kernel
theorem dX3_init_64 : decode cX3_init 64 = .ok (.dup, 1) := by decide +kernel
theorem dX3_init_65 : decode cX3_init 65 = .ok (.bipush 25, 2) := by decide +kernel
theorem dX3_init_67 : decode cX3_init 67 = .ok (.invokespecial 11, 3) := by decide +kernel
theorem dX3_init_70 : decode cX3_init 70 = .ok (.putfield 29, 3) := by decide +kernel
theorem dX3_init_73 : decode cX3_init 73 = .ok (.aload_n 0, 1) := by decide +kernel
theorem dX3_init_74 : decode cX3_init 74 = .ok (.iconst 0, 1) := by decide +kernel
theorem dX3_init_75 : decode cX3_init 75 = .ok (.putfield 32, 3) := by decide +kernel
theorem dX3_init_78 : decode cX3_init 78 = .ok (.return_, 1) := by decide +kernel
theorem dX3_restart_0 : decode cX3_restart 0 = .ok (.aload_n 0, 1) := by decide +kernel
theorem dX3_restart_1 : decode cX3_restart 1 = .ok (.iconst 0, 1) := by decide +kernel
theorem dX3_restart_2 : decode cX3_restart 2 = .ok (.putfield 32, 3) := by decide +kernel
theorem dX3_restart_5 : decode cX3_restart 5 = .ok (.iconst 0, 1) := by decide +kernel
theorem dX3_restart_6 : decode cX3_restart 6 = .ok (.istore_n 2, 1) := by decide +kernel
theorem dX3_restart_7 : decode cX3_restart 7 = .ok (.iload_n 2, 1) := by decide +kernel
theorem dX3_restart_8 : decode cX3_restart 8 = .ok (.bipush 25, 2) := by decide +kernel
theorem dX3_restart_10 : decode cX3_restart 10 = .ok (.if_icmp .ge 25, 3) := by decide +kernel
theorem dX3_restart_13 : decode cX3_restart 13 = .ok (.aload_n 0, 1) := by decide +kernel
theorem dX3_restart_14 : decode cX3_restart 14 = .ok (.getfield 29, 3) := by decide +kernel
theorem dX3_restart_17 : decode cX3_restart 17 = .ok (.aload_n 1, 1) := by decide +kernel
theorem dX3_restart_18 : decode cX3_restart 18 = .ok (.getfield 36, 3) := by decide +kernel
theorem dX3_restart_21 : decode cX3_restart 21 = .ok (.iload_n 2, 1) := by decide +kernel
theorem dX3_restart_22 : decode cX3_restart 22 = .ok (.invokevirtual 41, 3) := by decide +kernel
theorem dX3_restart_25 : decode cX3_restart 25 = .ok (.iload_n 2, 1) := by decide +kernel
theorem dX3_restart_26 : decode cX3_restart 26 = .ok (.invokevirtual 45, 3) := by decide +kernel
theorem dX3_restart_29 : decode cX3_restart 29 = .ok (.iinc 2 1, 3) := by decide +kernel
theorem dX3_restart_32 : decode cX3_restart 32 = .ok (.goto (-25), 3) := by decide +kernel
theorem dX3_restart_35 : decode cX3_restart 35 = .ok (.return_, 1) := by decide +kernel
theorem dX3_begin_0 : decode cX3_begin 0 = .ok (.aload_n 0, 1) := by decide +kernel
theorem dX3_begin_1 : decode cX3_begin 1 = .ok (.getfield 14, 3) := by decide +kernel
theorem dX3_begin_4 : decode cX3_begin 4 = .ok (.aload_n 0, 1) := by decide +kernel
theorem dX3_begin_5 : decode cX3_begin 5 = .ok (.getfield 32, 3) := by decide +kernel
theorem dX3_begin_8 : decode cX3_begin 8 = .ok (.iconst 1, 1) := by decide +kernel
theorem dX3_begin_9 : decode cX3_begin 9 = .ok (.invokevirtual 45, 3) := by decide +kernel
theorem dX3_begin_12 : decode cX3_begin 12 = .ok (.aload_n 0, 1) := by decide +kernel
theorem dX3_begin_13 : decode cX3_begin 13 = .ok (.getfield 20, 3) := by decide +kernel
theorem dX3_begin_16 : decode cX3_begin 16 = .ok (.aload_n 0, 1) := by decide +kernel
theorem dX3_begin_17 : decode cX3_begin 17 = .ok (.getfield 32, 3) := by decide +kernel
theorem dX3_begin_20 : decode cX3_begin 20 = .ok (.iconst 1, 1) := by decide +kernel
theorem dX3_begin_21 : decode cX3_begin 21 = .ok (.invokevirtual 45, 3) := by decide +kernel
theorem dX3_begin_24 : decode cX3_begin 24 = .ok (.aload_n 0, 1) := by decide +kernel
theorem dX3_begin_25 : decode cX3_begin 25 = .ok (.getfield 23, 3) := by decide +kernel
theorem dX3_begin_28 : decode cX3_begin 28 = .ok (.aload_n 0, 1) := by decide +kernel
theorem dX3_begin_29 : decode cX3_begin 29 = .ok (.getfield 32, 3) := by decide +kernel
theorem dX3_begin_32 : decode cX3_begin 32 = .ok (.iconst 0, 1) := by decide +kernel
theorem dX3_begin_33 : decode cX3_begin 33 = .ok (.invokevirtual 45, 3) := by decide +kernel
theorem dX3_begin_36 : decode cX3_begin 36 = .ok (.aload_n 0, 1) := by decide +kernel
theorem dX3_begin_37 : decode cX3_begin 37 = .ok (.dup, 1) := by decide +kernel
theorem dX3_begin_38 : decode cX3_begin 38 = .ok (.getfield 32, 3) := by decide +kernel
theorem dX3_begin_41 : decode cX3_begin 41 = .ok (.iconst 1, 1) := by decide +kernel
theorem dX3_begin_42 : decode cX3_begin 42 = .ok (.iadd, 1) := by decide +kernel
theorem dX3_begin_43 : decode cX3_begin 43 = .ok (.putfield 32, 3) := by decide +kernel
theorem dX3_begin_46 : decode cX3_begin 46 = .ok (.return_, 1) := by decide +kernel
theorem dX3_beginGroup_0 : decode cX3_beginGroup 0 = .ok (.aload_n 0, 1) := by decide +kernel
theorem dX3_beginGroup_1 : decode cX3_beginGroup 1 = .ok (.getfield 14, 3) := by decide +kernel
theorem dX3_beginGroup_4 : decode cX3_beginGroup 4 = .ok (.aload_n 0, 1) := by decide +kernel
theorem dX3_beginGroup_5 : decode cX3_beginGroup 5 = .ok (.getfield 32, 3) := by decide +kernel
theorem dX3_beginGroup_8 : decode cX3_beginGroup 8 = .ok (.iconst 1, 1) := by decide +kernel
theorem dX3_beginGroup_9 : decode cX3_beginGroup 9 = .ok (.isub, 1) := by decide +kernel
theorem dX3_beginGroup_10 : decode cX3_beginGroup 10 = .ok (.iconst 1, 1) := by decide +kernel
theorem dX3_beginGroup_11 : decode cX3_beginGroup 11 = .ok (.invokevirtual 49, 3) := by decide +kernel
theorem dX3_beginGroup_14 : decode cX3_beginGroup 14 = .ok (.aload_n 0, 1) := by decide +kernel
theorem dX3_beginGroup_15 : decode cX3_beginGroup 15 = .ok (.iconst 1, 1) := by decide +kernel
theorem dX3_beginGroup_16 : decode cX3_beginGroup 16 = .ok (.invokevirtual 52, 3) := by decide +kernel
theorem dX3_beginGroup_19 : decode cX3_beginGroup 19 = .ok (.return_, 1) := by decide +kernel
theorem dX3_lengthen_0 : decode cX3_lengthen 0 = .ok (.aload_n 0, 1) := by decide +kernel
theorem dX3_lengthen_1 : decode cX3_lengthen 1 = .ok (.getfield 32, 3) := by decide +kernel
theorem dX3_lengthen_4 : decode cX3_lengthen 4 = .ok (.iconst 1, 1) := by decide +kernel
theorem dX3_lengthen_5 : decode cX3_lengthen 5 = .ok (.isub, 1) := by decide +kernel
theorem dX3_lengthen_6 : decode cX3_lengthen 6 = .ok (.istore_n 2, 1) := by decide +kernel
theorem dX3_lengthen_7 : decode cX3_lengthen 7 = .ok (.aload_n 0, 1) := by decide +kernel
theorem dX3_lengthen_8 : decode cX3_lengthen 8 = .ok (.getfield 14, 3) := by decide +kernel
theorem dX3_lengthen_11 : decode cX3_lengthen 11 = .ok (.iload_n 2, 1) := by decide +kernel
theorem dX3_lengthen_12 : decode cX3_lengthen 12 = .ok (.invokevirtual 41, 3) := by decide +kernel
theorem dX3_lengthen_15 : decode cX3_lengthen 15 = .ok (.iconst 1, 1) := by decide +kernel
theorem dX3_lengthen_16 : decode cX3_lengthen 16 = .ok (.if_icmp .ne 15, 3) := by decide +kernel
theorem dX3_lengthen_19 : decode cX3_lengthen 19 = .ok (.aload_n 0, 1) := by decide +kernel
theorem dX3_lengthen_20 : decode cX3_lengthen 20 = .ok (.getfield 20, 3) := by decide +kernel
theorem dX3_lengthen_23 : decode cX3_lengthen 23 = .ok (.iload_n 2, 1) := by decide +kernel
theorem dX3_lengthen_24 : decode cX3_lengthen 24 = .ok (.iload_n 1, 1) := by decide +kernel
theorem dX3_lengthen_25 : decode cX3_lengthen 25 = .ok (.invokevirtual 49, 3) := by decide +kernel
theorem dX3_lengthen_28 : decode cX3_lengthen 28 = .ok (.goto 24, 3) := by decide +kernel
theorem dX3_lengthen_31 : decode cX3_lengthen 31 = .ok (.aload_n 0, 1) := by decide +kernel
theorem dX3_lengthen_32 : decode cX3_lengthen 32 = .ok (.getfield 14, 3) := by decide +kernel
theorem dX3_lengthen_35 : decode cX3_lengthen 35 = .ok (.iload_n 2, 1) := by decide +kernel
theorem dX3_lengthen_36 : decode cX3_lengthen 36 = .ok (.invokevirtual 41, 3) := by decide +kernel
theorem dX3_lengthen_39 : decode cX3_lengthen 39 = .ok (.iconst 2, 1) := by decide +kernel
theorem dX3_lengthen_40 : decode cX3_lengthen 40 = .ok (.if_icmp .ne 12, 3) := by decide +kernel
theorem dX3_lengthen_43 : decode cX3_lengthen 43 = .ok (.aload_n 0, 1) := by decide +kernel
theorem dX3_lengthen_44 : decode cX3_lengthen 44 = .ok (.getfield 23, 3) := by decide +kernel
theorem dX3_lengthen_47 : decode cX3_lengthen 47 = .ok (.iload_n 2, 1) := by decide +kernel
theorem dX3_lengthen_48 : decode cX3_lengthen 48 = .ok (.iload_n 1, 1) := by decide +kernel
theorem dX3_lengthen_49 : decode cX3_lengthen 49 = .ok (.invokevirtual 49, 3) := by decide +kernel
theorem dX3_lengthen_52 : decode cX3_lengthen 52 = .ok (.return_, 1) := by decide +kernel
theorem dX3_settle_0 : decode cX3_settle 0 = .ok (.iconst 0, 1) := by decide +kernel
theorem dX3_settle_1 : decode cX3_settle 1 = .ok (.istore_n 1, 1) := by decide +kernel
theorem dX3_settle_2 : decode cX3_settle 2 = .ok (.iload_n 1, 1) := by decide +kernel
theorem dX3_settle_3 : decode cX3_settle 3 = .ok (.aload_n 0, 1) := by decide +kernel
theorem dX3_settle_4 : decode cX3_settle 4 = .ok (.getfield 32, 3) := by decide +kernel
theorem dX3_settle_7 : decode cX3_settle 7 = .ok (.if_icmp .ge 24, 3) := by decide +kernel
theorem dX3_settle_10 : decode cX3_settle 10 = .ok (.aload_n 0, 1) := by decide +kernel
theorem dX3_settle_11 : decode cX3_settle 11 = .ok (.getfield 26, 3) := by decide +kernel
theorem dX3_settle_14 : decode cX3_settle 14 = .ok (.iload_n 1, 1) := by decide +kernel
theorem dX3_settle_15 : decode cX3_settle 15 = .ok (.aload_n 0, 1) := by decide +kernel
theorem dX3_settle_16 : decode cX3_settle 16 = .ok (.iload_n 1, 1) := by decide +kernel
theorem dX3_settle_17 : decode cX3_settle 17 = .ok (.iconst 0, 1) := by decide +kernel
theorem dX3_settle_18 : decode cX3_settle 18 = .ok (.iconst 0, 1) := by decide +kernel
theorem dX3_settle_19 : decode cX3_settle 19 = .ok (.invokevirtual 55, 3) := by decide +kernel
theorem dX3_settle_22 : decode cX3_settle 22 = .ok (.invokevirtual 45, 3) := by decide +kernel
theorem dX3_settle_25 : decode cX3_settle 25 = .ok (.iinc 1 1, 3) := by decide +kernel
theorem dX3_settle_28 : decode cX3_settle 28 = .ok (.goto (-26), 3) := by decide +kernel
theorem dX3_settle_31 : decode cX3_settle 31 = .ok (.return_, 1) := by decide +kernel
theorem dX3_letterWith_0 : decode cX3_letterWith 0 = .ok (.aload_n 0, 1) := by decide +kernel
theorem dX3_letterWith_1 : decode cX3_letterWith 1 = .ok (.getfield 14, 3) := by decide +kernel
theorem dX3_letterWith_4 : decode cX3_letterWith 4 = .ok (.iload_n 1, 1) := by decide +kernel
theorem dX3_letterWith_5 : decode cX3_letterWith 5 = .ok (.invokevirtual 41, 3) := by decide +kernel
theorem dX3_letterWith_8 : decode cX3_letterWith 8 = .ok (.iconst 2, 1) := by decide +kernel
theorem dX3_letterWith_9 : decode cX3_letterWith 9 = .ok (.if_icmp .eq 5, 3) := by decide +kernel
theorem dX3_letterWith_12 : decode cX3_letterWith 12 = .ok (.iconst (-1), 1) := by decide +kernel
theorem dX3_letterWith_13 : decode cX3_letterWith 13 = .ok (.ireturn, 1) := by decide +kernel
theorem dX3_letterWith_14 : decode cX3_letterWith 14 = .ok (.aload_n 0, 1) := by decide +kernel
theorem dX3_letterWith_15 : decode cX3_letterWith 15 = .ok (.getfield 20, 3) := by decide +kernel
theorem dX3_letterWith_18 : decode cX3_letterWith 18 = .ok (.iload_n 1, 1) := by decide +kernel
theorem dX3_letterWith_19 : decode cX3_letterWith 19 = .ok (.invokevirtual 41, 3) := by decide +kernel
theorem dX3_letterWith_22 : decode cX3_letterWith 22 = .ok (.iload_n 2, 1) := by decide +kernel
theorem dX3_letterWith_23 : decode cX3_letterWith 23 = .ok (.ifCond .ne 7, 3) := by decide +kernel
theorem dX3_letterWith_26 : decode cX3_letterWith 26 = .ok (.iload_n 3, 1) := by decide +kernel
theorem dX3_letterWith_27 : decode cX3_letterWith 27 = .ok (.goto 4, 3) := by decide +kernel
theorem dX3_letterWith_30 : decode cX3_letterWith 30 = .ok (.iconst 0, 1) := by decide +kernel
theorem dX3_letterWith_31 : decode cX3_letterWith 31 = .ok (.iadd, 1) := by decide +kernel
theorem dX3_letterWith_32 : decode cX3_letterWith 32 = .ok (.istore 4, 2) := by decide +kernel
theorem dX3_letterWith_34 : decode cX3_letterWith 34 = .ok (.aload_n 0, 1) := by decide +kernel
theorem dX3_letterWith_35 : decode cX3_letterWith 35 = .ok (.getfield 23, 3) := by decide +kernel
theorem dX3_letterWith_38 : decode cX3_letterWith 38 = .ok (.iload_n 1, 1) := by decide +kernel
theorem dX3_letterWith_39 : decode cX3_letterWith 39 = .ok (.invokevirtual 41, 3) := by decide +kernel
theorem dX3_letterWith_42 : decode cX3_letterWith 42 = .ok (.iload_n 2, 1) := by decide +kernel
theorem dX3_letterWith_43 : decode cX3_letterWith 43 = .ok (.iconst 1, 1) := by decide +kernel
theorem dX3_letterWith_44 : decode cX3_letterWith 44 = .ok (.if_icmp .ne 7, 3) := by decide +kernel
theorem dX3_letterWith_47 : decode cX3_letterWith 47 = .ok (.iload_n 3, 1) := by decide +kernel
theorem dX3_letterWith_48 : decode cX3_letterWith 48 = .ok (.goto 4, 3) := by decide +kernel
theorem dX3_letterWith_51 : decode cX3_letterWith 51 = .ok (.iconst 0, 1) := by decide +kernel
theorem dX3_letterWith_52 : decode cX3_letterWith 52 = .ok (.iadd, 1) := by decide +kernel
theorem dX3_letterWith_53 : decode cX3_letterWith 53 = .ok (.istore 5, 2) := by decide +kernel
theorem dX3_letterWith_55 : decode cX3_letterWith 55 = .ok (.aload_n 0, 1) := by decide +kernel
theorem dX3_letterWith_56 : decode cX3_letterWith 56 = .ok (.iload 4, 2) := by decide +kernel
theorem dX3_letterWith_58 : decode cX3_letterWith 58 = .ok (.iload 5, 2) := by decide +kernel
theorem dX3_letterWith_60 : decode cX3_letterWith 60 = .ok (.invokevirtual 59, 3) := by decide +kernel
theorem dX3_letterWith_63 : decode cX3_letterWith 63 = .ok (.ireturn, 1) := by decide +kernel
theorem dX3_withOneMore_0 : decode cX3_withOneMore 0 = .ok (.aload_n 0, 1) := by decide +kernel
theorem dX3_withOneMore_1 : decode cX3_withOneMore 1 = .ok (.aload_n 0, 1) := by decide +kernel
theorem dX3_withOneMore_2 : decode cX3_withOneMore 2 = .ok (.iload_n 1, 1) := by decide +kernel
theorem dX3_withOneMore_3 : decode cX3_withOneMore 3 = .ok (.iconst 0, 1) := by decide +kernel
theorem dX3_withOneMore_4 : decode cX3_withOneMore 4 = .ok (.iconst 1, 1) := by decide +kernel
theorem dX3_withOneMore_5 : decode cX3_withOneMore 5 = .ok (.invokevirtual 55, 3) := by decide +kernel
theorem dX3_withOneMore_8 : decode cX3_withOneMore 8 = .ok (.invokevirtual 63, 3) := by decide +kernel
theorem dX3_withOneMore_11 : decode cX3_withOneMore 11 = .ok (.aload_n 0, 1) := by decide +kernel
theorem dX3_withOneMore_12 : decode cX3_withOneMore 12 = .ok (.aload_n 0, 1) := by decide +kernel
theorem dX3_withOneMore_13 : decode cX3_withOneMore 13 = .ok (.iload_n 1, 1) := by decide +kernel
theorem dX3_withOneMore_14 : decode cX3_withOneMore 14 = .ok (.iconst 1, 1) := by decide +kernel
theorem dX3_withOneMore_15 : decode cX3_withOneMore 15 = .ok (.iconst 1, 1) := by decide +kernel
theorem dX3_withOneMore_16 : decode cX3_withOneMore 16 = .ok (.invokevirtual 55, 3) := by decide +kernel
theorem dX3_withOneMore_19 : decode cX3_withOneMore 19 = .ok (.invokevirtual 63, 3) := by decide +kernel
theorem dX3_withOneMore_22 : decode cX3_withOneMore 22 = .ok (.ior, 1) := by decide +kernel
theorem dX3_withOneMore_23 : decode cX3_withOneMore 23 = .ok (.ireturn, 1) := by decide +kernel
theorem dX3_bitOf_0 : decode cX3_bitOf 0 = .ok (.iload_n 1, 1) := by decide +kernel
theorem dX3_bitOf_1 : decode cX3_bitOf 1 = .ok (.iconst (-1), 1) := by decide +kernel
theorem dX3_bitOf_2 : decode cX3_bitOf 2 = .ok (.if_icmp .ne 7, 3) := by decide +kernel
theorem dX3_bitOf_5 : decode cX3_bitOf 5 = .ok (.iconst 0, 1) := by decide +kernel
theorem dX3_bitOf_6 : decode cX3_bitOf 6 = .ok (.goto 6, 3) := by decide +kernel
theorem dX3_bitOf_9 : decode cX3_bitOf 9 = .ok (.iconst 1, 1) := by decide +kernel
theorem dX3_bitOf_10 : decode cX3_bitOf 10 = .ok (.iload_n 1, 1) := by decide +kernel
theorem dX3_bitOf_11 : decode cX3_bitOf 11 = .ok (.ishl, 1) := by decide +kernel
theorem dX3_bitOf_12 : decode cX3_bitOf 12 = .ok (.ireturn, 1) := by decide +kernel
theorem dX3_letterBy_0 : decode cX3_letterBy 0 = .ok (.iload_n 1, 1) := by decide +kernel
theorem dX3_letterBy_1 : decode cX3_letterBy 1 = .ok (.iconst 1, 1) := by decide +kernel
theorem dX3_letterBy_2 : decode cX3_letterBy 2 = .ok (.if_icmp .lt 18, 3) := by decide +kernel
theorem dX3_letterBy_5 : decode cX3_letterBy 5 = .ok (.iload_n 1, 1) := by decide +kernel
theorem dX3_letterBy_6 : decode cX3_letterBy 6 = .ok (.iconst 5, 1) := by decide +kernel
theorem dX3_letterBy_7 : decode cX3_letterBy 7 = .ok (.if_icmp .gt 13, 3) := by decide +kernel
theorem dX3_letterBy_10 : decode cX3_letterBy 10 = .ok (.iload_n 2, 1) := by decide +kernel
theorem dX3_letterBy_11 : decode cX3_letterBy 11 = .ok (.iconst 1, 1) := by decide +kernel
theorem dX3_letterBy_12 : decode cX3_letterBy 12 = .ok (.if_icmp .lt 8, 3) := by decide +kernel
theorem dX3_letterBy_15 : decode cX3_letterBy 15 = .ok (.iload_n 2, 1) := by decide +kernel
theorem dX3_letterBy_16 : decode cX3_letterBy 16 = .ok (.iconst 5, 1) := by decide +kernel
theorem dX3_letterBy_17 : decode cX3_letterBy 17 = .ok (.if_icmp .le 5, 3) := by decide +kernel
theorem dX3_letterBy_20 : decode cX3_letterBy 20 = .ok (.iconst (-1), 1) := by decide +kernel
theorem dX3_letterBy_21 : decode cX3_letterBy 21 = .ok (.ireturn, 1) := by decide +kernel
theorem dX3_letterBy_22 : decode cX3_letterBy 22 = .ok (.aload_n 0, 1) := by decide +kernel
theorem dX3_letterBy_23 : decode cX3_letterBy 23 = .ok (.getfield 29, 3) := by decide +kernel
theorem dX3_letterBy_26 : decode cX3_letterBy 26 = .ok (.iconst 5, 1) := by decide +kernel
theorem dX3_letterBy_27 : decode cX3_letterBy 27 = .ok (.iload_n 1, 1) := by decide +kernel
theorem dX3_letterBy_28 : decode cX3_letterBy 28 = .ok (.iconst 1, 1) := by decide +kernel
theorem dX3_letterBy_29 : decode cX3_letterBy 29 = .ok (.isub, 1) := by decide +kernel
theorem dX3_letterBy_30 : decode cX3_letterBy 30 = .ok (.imul, 1) := by decide +kernel
theorem dX3_letterBy_31 : decode cX3_letterBy 31 = .ok (.iload_n 2, 1) := by decide +kernel
theorem dX3_letterBy_32 : decode cX3_letterBy 32 = .ok (.iadd, 1) := by decide +kernel
theorem dX3_letterBy_33 : decode cX3_letterBy 33 = .ok (.iconst 1, 1) := by decide +kernel
theorem dX3_letterBy_34 : decode cX3_letterBy 34 = .ok (.isub, 1) := by decide +kernel
theorem dX3_letterBy_35 : decode cX3_letterBy 35 = .ok (.invokevirtual 41, 3) := by decide +kernel
theorem dX3_letterBy_38 : decode cX3_letterBy 38 = .ok (.ireturn, 1) := by decide +kernel
theorem dX4_init_0 : decode cX4_init 0 = .ok (.aload_n 0, 1) := by decide +kernel
theorem dX4_init_1 : decode cX4_init 1 = .ok (.invokespecial 3, 3) := by decide +kernel
theorem dX4_init_4 : decode cX4_init 4 = .ok (.aload_n 0, 1) := by decide +kernel
theorem dX4_init_5 : decode cX4_init 5 = .ok (.new 9, 3) := by decide +kernel
theorem dX4_init_8 : decode cX4_init 8 = .ok (.dup, 1) := by decide +kernel
theorem dX4_init_9 : decode cX4_init 9 = .ok (.sipush 160, 3) := by decide +kernel
theorem dX4_init_12 : decode cX4_init 12 = .ok (.invokespecial 11, 3) := by decide +kernel
theorem dX4_init_15 : decode cX4_init 15 = .ok (.putfield 14, 3) := by decide +kernel
theorem dX4_init_18 : decode cX4_init 18 = .ok (.aload_n 0, 1) := by decide +kernel
theorem dX4_init_19 : decode cX4_init 19 = .ok (.new 9, 3) := by decide +kernel
theorem dX4_init_22 : decode cX4_init 22 = .ok (.dup, 1) := by decide +kernel
theorem dX4_init_23 : decode cX4_init 23 = .ok (.sipush 160, 3) := by decide +kernel
theorem dX4_init_26 : decode cX4_init 26 = .ok (.invokespecial 11, 3) := by decide +kernel
theorem dX4_init_29 : decode cX4_init 29 = .ok (.putfield 20, 3) := by decide +kernel
theorem dX4_init_32 : decode cX4_init 32 = .ok (.aload_n 0, 1) := by decide +kernel
theorem dX4_init_33 : decode cX4_init 33 = .ok (.new 9, 3) := by decide +kernel
theorem dX4_init_36 : decode cX4_init 36 = .ok (.dup, 1) := by decide +kernel
theorem dX4_init_37 : decode cX4_init 37 = .ok (.sipush 160, 3) := by decide +kernel
theorem dX4_init_40 : decode cX4_init 40 = .ok (.invokespecial 11, 3) := by decide +kernel
theorem dX4_init_43 : decode cX4_init 43 = .ok (.putfield 23, 3) := by decide +kernel
theorem dX4_init_46 : decode cX4_init 46 = .ok (.aload_n 0, 1) := by decide +kernel
theorem dX4_init_47 : decode cX4_init 47 = .ok (.new 9, 3) := by decide +kernel
theorem dX4_init_50 : decode cX4_init 50 = .ok (.dup, 1) := by decide +kernel
theorem dX4_init_51 : decode cX4_init 51 = .ok (.sipush 160, 3) := by decide +kernel
theorem dX4_init_54 : decode cX4_init 54 = .ok (.invokespecial 11, 3) := by decide +kernel
theorem dX4_init_57 : decode cX4_init 57 = .ok (.putfield 26, 3) := by decide +kernel
theorem dX4_init_60 : decode cX4_init 60 = .ok (.aload_n 0, 1) := by decide +kernel
theorem dX4_init_61 : decode cX4_init 61 = .ok (.new 9, 3) := by decide +kernel
theorem dX4_init_64 : decode cX4_init 64 = .ok (.dup, 1) := by decide +kernel
theorem dX4_init_65 : decode cX4_init 65 = .ok (.sipush 160, 3) := by decide +kernel
theorem dX4_init_68 : decode cX4_init 68 = .ok (.invokespecial 11, 3) := by decide +kernel
theorem dX4_init_71 : decode cX4_init 71 = .ok (.putfield 29, 3) := by decide +kernel
theorem dX4_init_74 : decode cX4_init 74 = .ok (.aload_n 0, 1) := by decide +kernel
theorem dX4_init_75 : decode cX4_init 75 = .ok (.new 9, 3) := by decide +kernel
theorem dX4_init_78 : decode cX4_init 78 = .ok (.dup, 1) := by decide +kernel
theorem dX4_init_79 : decode cX4_init 79 = .ok (.sipush 160, 3) := by decide +kernel
theorem dX4_init_82 : decode cX4_init 82 = .ok (.invokespecial 11, 3) := by decide +kernel
theorem dX4_init_85 : decode cX4_init 85 = .ok (.putfield 32, 3) := by decide +kernel
theorem dX4_init_88 : decode cX4_init 88 = .ok (.aload_n 0, 1) := by decide +kernel
theorem dX4_init_89 : decode cX4_init 89 = .ok (.new 9, 3) := by decide +kernel
theorem dX4_init_92 : decode cX4_init 92 = .ok (.dup, 1) := by decide +kernel
theorem dX4_init_93 : decode cX4_init 93 = .ok (.sipush 160, 3) := by decide +kernel
theorem dX4_init_96 : decode cX4_init 96 = .ok (.invokespecial 11, 3) := by decide +kernel
theorem dX4_init_99 : decode cX4_init 99 = .ok (.putfield 35, 3) := by decide +kernel
theorem dX4_init_102 : decode cX4_init 102 = .ok (.aload_n 0, 1) := by decide +kernel
theorem dX4_init_103 : decode cX4_init 103 = .ok (.iconst 0, 1) := by decide +kernel
theorem dX4_init_104 : decode cX4_init 104 = .ok (.putfield 38, 3) := by decide +kernel
theorem dX4_init_107 : decode cX4_init 107 = .ok (.return_, 1) := by decide +kernel
theorem dX4_begin_0 : decode cX4_begin 0 = .ok (.aload_n 0, 1) := by decide +kernel
theorem dX4_begin_1 : decode cX4_begin 1 = .ok (.getfield 14, 3) := by decide +kernel
theorem dX4_begin_4 : decode cX4_begin 4 = .ok (.aload_n 0, 1) := by decide +kernel
theorem dX4_begin_5 : decode cX4_begin 5 = .ok (.getfield 38, 3) := by decide +kernel
theorem dX4_begin_8 : decode cX4_begin 8 = .ok (.iload_n 1, 1) := by decide +kernel
theorem dX4_begin_9 : decode cX4_begin 9 = .ok (.invokevirtual 42, 3) := by decide +kernel
theorem dX4_begin_12 : decode cX4_begin 12 = .ok (.aload_n 0, 1) := by decide +kernel
theorem dX4_begin_13 : decode cX4_begin 13 = .ok (.getfield 20, 3) := by decide +kernel
theorem dX4_begin_16 : decode cX4_begin 16 = .ok (.aload_n 0, 1) := by decide +kernel
theorem dX4_begin_17 : decode cX4_begin 17 = .ok (.getfield 38, 3) := by decide +kernel
theorem dX4_begin_20 : decode cX4_begin 20 = .ok (.iload_n 2, 1) := by decide +kernel
theorem dX4_begin_21 : decode cX4_begin 21 = .ok (.invokevirtual 42, 3) := by decide +kernel
theorem dX4_begin_24 : decode cX4_begin 24 = .ok (.aload_n 0, 1) := by decide +kernel
theorem dX4_begin_25 : decode cX4_begin 25 = .ok (.getfield 23, 3) := by decide +kernel
theorem dX4_begin_28 : decode cX4_begin 28 = .ok (.aload_n 0, 1) := by decide +kernel
theorem dX4_begin_29 : decode cX4_begin 29 = .ok (.getfield 38, 3) := by decide +kernel
theorem dX4_begin_32 : decode cX4_begin 32 = .ok (.iconst 0, 1) := by decide +kernel
theorem dX4_begin_33 : decode cX4_begin 33 = .ok (.invokevirtual 42, 3) := by decide +kernel
theorem dX4_begin_36 : decode cX4_begin 36 = .ok (.aload_n 0, 1) := by decide +kernel
theorem dX4_begin_37 : decode cX4_begin 37 = .ok (.getfield 26, 3) := by decide +kernel
theorem dX4_begin_40 : decode cX4_begin 40 = .ok (.aload_n 0, 1) := by decide +kernel
theorem dX4_begin_41 : decode cX4_begin 41 = .ok (.getfield 38, 3) := by decide +kernel
theorem dX4_begin_44 : decode cX4_begin 44 = .ok (.iconst 0, 1) := by decide +kernel
theorem dX4_begin_45 : decode cX4_begin 45 = .ok (.invokevirtual 42, 3) := by decide +kernel
theorem dX4_begin_48 : decode cX4_begin 48 = .ok (.aload_n 0, 1) := by decide +kernel
theorem dX4_begin_49 : decode cX4_begin 49 = .ok (.getfield 29, 3) := by decide +kernel
theorem dX4_begin_52 : decode cX4_begin 52 = .ok (.aload_n 0, 1) := by decide +kernel
theorem dX4_begin_53 : decode cX4_begin 53 = .ok (.getfield 38, 3) := by decide +kernel
theorem dX4_begin_56 : decode cX4_begin 56 = .ok (.iconst 0, 1) := by decide +kernel
theorem dX4_begin_57 : decode cX4_begin 57 = .ok (.invokevirtual 42, 3) := by decide +kernel
theorem dX4_begin_60 : decode cX4_begin 60 = .ok (.aload_n 0, 1) := by decide +kernel
theorem dX4_begin_61 : decode cX4_begin 61 = .ok (.getfield 32, 3) := by decide +kernel
theorem dX4_begin_64 : decode cX4_begin 64 = .ok (.aload_n 0, 1) := by decide +kernel
theorem dX4_begin_65 : decode cX4_begin 65 = .ok (.getfield 38, 3) := by decide +kernel
theorem dX4_begin_68 : decode cX4_begin 68 = .ok (.iconst 0, 1) := by decide +kernel
theorem dX4_begin_69 : decode cX4_begin 69 = .ok (.invokevirtual 42, 3) := by decide +kernel
theorem dX4_begin_72 : decode cX4_begin 72 = .ok (.aload_n 0, 1) := by decide +kernel
theorem dX4_begin_73 : decode cX4_begin 73 = .ok (.getfield 35, 3) := by decide +kernel
theorem dX4_begin_76 : decode cX4_begin 76 = .ok (.aload_n 0, 1) := by decide +kernel
theorem dX4_begin_77 : decode cX4_begin 77 = .ok (.getfield 38, 3) := by decide +kernel
theorem dX4_begin_80 : decode cX4_begin 80 = .ok (.iconst 0, 1) := by decide +kernel
theorem dX4_begin_81 : decode cX4_begin 81 = .ok (.invokevirtual 42, 3) := by decide +kernel
theorem dX4_begin_84 : decode cX4_begin 84 = .ok (.aload_n 0, 1) := by decide +kernel
theorem dX4_begin_85 : decode cX4_begin 85 = .ok (.dup, 1) := by decide +kernel
theorem dX4_begin_86 : decode cX4_begin 86 = .ok (.getfield 38, 3) := by decide +kernel
theorem dX4_begin_89 : decode cX4_begin 89 = .ok (.iconst 1, 1) := by decide +kernel
theorem dX4_begin_90 : decode cX4_begin 90 = .ok (.iadd, 1) := by decide +kernel
theorem dX4_begin_91 : decode cX4_begin 91 = .ok (.putfield 38, 3) := by decide +kernel
theorem dX4_begin_94 : decode cX4_begin 94 = .ok (.return_, 1) := by decide +kernel
theorem dX4_addTo_0 : decode cX4_addTo 0 = .ok (.aload_n 1, 1) := by decide +kernel
theorem dX4_addTo_1 : decode cX4_addTo 1 = .ok (.aload_n 0, 1) := by decide +kernel
theorem dX4_addTo_2 : decode cX4_addTo 2 = .ok (.getfield 38, 3) := by decide +kernel
theorem dX4_addTo_5 : decode cX4_addTo 5 = .ok (.iconst 1, 1) := by decide +kernel
theorem dX4_addTo_6 : decode cX4_addTo 6 = .ok (.isub, 1) := by decide +kernel
theorem dX4_addTo_7 : decode cX4_addTo 7 = .ok (.iconst 1, 1) := by decide +kernel
theorem dX4_addTo_8 : decode cX4_addTo 8 = .ok (.invokevirtual 46, 3) := by decide +kernel
theorem dX4_addTo_11 : decode cX4_addTo 11 = .ok (.return_, 1) := by decide +kernel
theorem dX4_totalOf_0 : decode cX4_totalOf 0 = .ok (.iconst 0, 1) := by decide +kernel
theorem dX4_totalOf_1 : decode cX4_totalOf 1 = .ok (.istore_n 2, 1) := by decide +kernel
theorem dX4_totalOf_2 : decode cX4_totalOf 2 = .ok (.iconst 0, 1) := by decide +kernel
theorem dX4_totalOf_3 : decode cX4_totalOf 3 = .ok (.istore_n 3, 1) := by decide +kernel
theorem dX4_totalOf_4 : decode cX4_totalOf 4 = .ok (.iload_n 3, 1) := by decide +kernel
theorem dX4_totalOf_5 : decode cX4_totalOf 5 = .ok (.aload_n 0, 1) := by decide +kernel
theorem dX4_totalOf_6 : decode cX4_totalOf 6 = .ok (.getfield 38, 3) := by decide +kernel
theorem dX4_totalOf_9 : decode cX4_totalOf 9 = .ok (.if_icmp .ge 17, 3) := by decide +kernel
theorem dX4_totalOf_12 : decode cX4_totalOf 12 = .ok (.iload_n 2, 1) := by decide +kernel
theorem dX4_totalOf_13 : decode cX4_totalOf 13 = .ok (.aload_n 1, 1) := by decide +kernel
theorem dX4_totalOf_14 : decode cX4_totalOf 14 = .ok (.iload_n 3, 1) := by decide +kernel
theorem dX4_totalOf_15 : decode cX4_totalOf 15 = .ok (.invokevirtual 49, 3) := by decide +kernel
theorem dX4_totalOf_18 : decode cX4_totalOf 18 = .ok (.iadd, 1) := by decide +kernel
theorem dX4_totalOf_19 : decode cX4_totalOf 19 = .ok (.istore_n 2, 1) := by decide +kernel
theorem dX4_totalOf_20 : decode cX4_totalOf 20 = .ok (.iinc 3 1, 3) := by decide +kernel
theorem dX4_totalOf_23 : decode cX4_totalOf 23 = .ok (.goto (-19), 3) := by decide +kernel
theorem dX4_totalOf_26 : decode cX4_totalOf 26 = .ok (.iload_n 2, 1) := by decide +kernel
theorem dX4_totalOf_27 : decode cX4_totalOf 27 = .ok (.ireturn, 1) := by decide +kernel
theorem dX5_init_0 : decode cX5_init 0 = .ok (.aload_n 0, 1) := by decide +kernel
theorem dX5_init_1 : decode cX5_init 1 = .ok (.invokespecial 3, 3) := by decide +kernel
theorem dX5_init_4 : decode cX5_init 4 = .ok (.aload_n 0, 1) := by decide +kernel
theorem dX5_init_5 : decode cX5_init 5 = .ok (.new 9, 3) := by decide +kernel
theorem dX5_init_8 : decode cX5_init 8 = .ok (.dup, 1) := by decide +kernel
theorem dX5_init_9 : decode cX5_init 9 = .ok (.bipush 60, 2) := by decide +kernel
theorem dX5_init_11 : decode cX5_init 11 = .ok (.invokespecial 11, 3) := by decide +kernel
theorem dX5_init_14 : decode cX5_init 14 = .ok (.putfield 14, 3) := by decide +kernel
theorem dX5_init_17 : decode cX5_init 17 = .ok (.aload_n 0, 1) := by decide +kernel
theorem dX5_init_18 : decode cX5_init 18 = .ok (.iconst 0, 1) := by decide +kernel
theorem dX5_init_19 : decode cX5_init 19 = .ok (.putfield 20, 3) := by decide +kernel
theorem dX5_init_22 : decode cX5_init 22 = .ok (.aload_n 0, 1) := by decide +kernel
theorem dX5_init_23 : decode cX5_init 23 = .ok (.iconst 0, 1) := by decide +kernel
theorem dX5_init_24 : decode cX5_init 24 = .ok (.putfield 24, 3) := by decide +kernel
theorem dX5_init_27 : decode cX5_init 27 = .ok (.aload_n 0, 1) := by decide +kernel
theorem dX5_init_28 : decode cX5_init 28 = .ok (.iconst 0, 1) := by decide +kernel
theorem dX5_init_29 : decode cX5_init 29 = .ok (.putfield 27, 3) := by decide +kernel
theorem dX5_init_32 : decode cX5_init 32 = .ok (.return_, 1) := by decide +kernel
theorem dX6_init_0 : decode cX6_init 0 = .ok (.aload_n 0, 1) := by decide +kernel
theorem dX6_init_1 : decode cX6_init 1 = .ok (.invokespecial 3, 3) := by decide +kernel
theorem dX6_init_4 : decode cX6_init 4 = .ok (.aload_n 0, 1) := by decide +kernel
theorem dX6_init_5 : decode cX6_init 5 = .ok (.new 9, 3) := by decide +kernel
theorem dX6_init_8 : decode cX6_init 8 = .ok (.dup, 1) := by decide +kernel
theorem dX6_init_9 : decode cX6_init 9 = .ok (.invokespecial 11, 3) := by decide +kernel
theorem dX6_init_12 : decode cX6_init 12 = .ok (.putfield 12, 3) := by decide +kernel
theorem dX6_init_15 : decode cX6_init 15 = .ok (.aload_n 0, 1) := by decide +kernel
theorem dX6_init_16 : decode cX6_init 16 = .ok (.new 18, 3) := by decide +kernel
theorem dX6_init_19 : decode cX6_init 19 = .ok (.dup, 1) := by decide +kernel
theorem dX6_init_20 : decode cX6_init 20 = .ok (.invokespecial 20, 3) := by decide +kernel
theorem dX6_init_23 : decode cX6_init 23 = .ok (.putfield 21, 3) := by decide +kernel
theorem dX6_init_26 : decode cX6_init 26 = .ok (.aload_n 0, 1) := by decide +kernel
theorem dX6_init_27 : decode cX6_init 27 = .ok (.new 25, 3) := by decide +kernel
theorem dX6_init_30 : decode cX6_init 30 = .ok (.dup, 1) := by decide +kernel
theorem dX6_init_31 : decode cX6_init 31 = .ok (.sipush 160, 3) := by decide +kernel
theorem dX6_init_34 : decode cX6_init 34 = .ok (.invokespecial 27, 3) := by decide +kernel
theorem dX6_init_37 : decode cX6_init 37 = .ok (.putfield 30, 3) := by decide +kernel
theorem dX6_init_40 : decode cX6_init 40 = .ok (.aload_n 0, 1) := by decide +kernel
theorem dX6_init_41 : decode cX6_init 41 = .ok (.new 25, 3) := by decide +kernel
theorem dX6_init_44 : decode cX6_init 44 = .ok (.dup, 1) := by decide +kernel
theorem dX6_init_45 : decode cX6_init 45 = .ok (.sipush 160, 3) := by decide +kernel
theorem dX6_init_48 : decode cX6_init 48 = .ok (.invokespecial 27, 3) := by decide +kernel
theorem dX6_init_51 : decode cX6_init 51 = .ok (.putfield 34, 3) := by decide +kernel
theorem dX6_init_54 : decode cX6_init 54 = .ok (.aload_n 0, 1) := by decide +kernel
theorem dX6_init_55 : decode cX6_init 55 = .ok (.new 25, 3) := by decide +kernel
theorem dX6_init_58 : decode cX6_init 58 = .ok (.dup, 1) := by decide +kernel
theorem dX6_init_59 : decode cX6_init 59 = .ok (.sipush 160, 3) := by decide +kernel
theorem dX6_init_62 : decode cX6_init 62 = .ok (.invokespecial 27, 3) := by decide +kernel
theorem dX6_init_65 : decode cX6_init 65 = .ok (.putfield 37, 3) := by decide +kernel
theorem dX6_init_68 : decode cX6_init 68 = .ok (.aload_n 0, 1) := by decide +kernel
theorem dX6_init_69 : decode cX6_init 69 = .ok (.new 25, 3) := by decide +kernel
theorem dX6_init_72 : decode cX6_init 72 = .ok (.dup, 1) := by decide +kernel
theorem dX6_init_73 : decode cX6_init 73 = .ok (.sipush 160, 3) := by decide +kernel
theorem dX6_init_76 : decode cX6_init 76 = .ok (.invokespecial 27, 3) := by decide +kernel
theorem dX6_init_79 : decode cX6_init 79 = .ok (.putfield 40, 3) := by decide +kernel
theorem dX6_init_82 : decode cX6_init 82 = .ok (.aload_n 0, 1) := by decide +kernel
theorem dX6_init_83 : decode cX6_init 83 = .ok (.new 25, 3) := by decide +kernel
theorem dX6_init_86 : decode cX6_init 86 = .ok (.dup, 1) := by decide +kernel
theorem dX6_init_87 : decode cX6_init 87 = .ok (.sipush 160, 3) := by decide +kernel
theorem dX6_init_90 : decode cX6_init 90 = .ok (.invokespecial 27, 3) := by decide +kernel
theorem dX6_init_93 : decode cX6_init 93 = .ok (.putfield 43, 3) := by decide +kernel
theorem dX6_init_96 : decode cX6_init 96 = .ok (.aload_n 0, 1) := by decide +kernel
theorem dX6_init_97 : decode cX6_init 97 = .ok (.new 25, 3) := by decide +kernel
theorem dX6_init_100 : decode cX6_init 100 = .ok (.dup, 1) := by decide +kernel
theorem dX6_init_101 : decode cX6_init 101 = .ok (.sipush 160, 3) := by decide +kernel
theorem dX6_init_104 : decode cX6_init 104 = .ok (.invokespecial 27, 3) := by decide +kernel
theorem dX6_init_107 : decode cX6_init 107 = .ok (.putfield 46, 3) := by decide +kernel
theorem dX6_init_110 : decode cX6_init 110 = .ok (.aload_n 0, 1) := by decide +kernel
theorem dX6_init_111 : decode cX6_init 111 = .ok (.iconst 0, 1) := by decide +kernel
theorem dX6_init_112 : decode cX6_init 112 = .ok (.putfield 49, 3) := by decide +kernel
theorem dX6_init_115 : decode cX6_init 115 = .ok (.return_, 1) := by decide +kernel
theorem dX6_refresh_0 : decode cX6_refresh 0 = .ok (.aload_n 0, 1) := by decide +kernel
theorem dX6_refresh_1 : decode cX6_refresh 1 = .ok (.getfield 12, 3) := by decide +kernel
theorem dX6_refresh_4 : decode cX6_refresh 4 = .ok (.aload_n 1, 1) := by decide +kernel
theorem dX6_refresh_5 : decode cX6_refresh 5 = .ok (.invokevirtual 53, 3) := by decide +kernel
theorem dX6_refresh_8 : decode cX6_refresh 8 = .ok (.aload_n 0, 1) := by decide +kernel
theorem dX6_refresh_9 : decode cX6_refresh 9 = .ok (.getfield 21, 3) := by decide +kernel
theorem dX6_refresh_12 : decode cX6_refresh 12 = .ok (.iconst 0, 1) := by decide +kernel
theorem dX6_refresh_13 : decode cX6_refresh 13 = .ok (.putfield 57, 3) := by decide +kernel
theorem dX6_refresh_16 : decode cX6_refresh 16 = .ok (.aload_n 0, 1) := by decide +kernel
theorem dX6_refresh_17 : decode cX6_refresh 17 = .ok (.iconst 0, 1) := by decide +kernel
theorem dX6_refresh_18 : decode cX6_refresh 18 = .ok (.putfield 49, 3) := by decide +kernel
theorem dX6_refresh_21 : decode cX6_refresh 21 = .ok (.iconst 0, 1) := by decide +kernel
theorem dX6_refresh_22 : decode cX6_refresh 22 = .ok (.istore_n 2, 1) := by decide +kernel
theorem dX6_refresh_23 : decode cX6_refresh 23 = .ok (.iconst 0, 1) := by decide +kernel
theorem dX6_refresh_24 : decode cX6_refresh 24 = .ok (.istore_n 3, 1) := by decide +kernel
theorem dX6_refresh_25 : decode cX6_refresh 25 = .ok (.iload_n 3, 1) := by decide +kernel
theorem dX6_refresh_26 : decode cX6_refresh 26 = .ok (.aload_n 1, 1) := by decide +kernel
theorem dX6_refresh_27 : decode cX6_refresh 27 = .ok (.getfield 60, 3) := by decide +kernel
theorem dX6_refresh_30 : decode cX6_refresh 30 = .ok (.if_icmp .ge 66, 3) := by decide +kernel
theorem dX6_refresh_33 : decode cX6_refresh 33 = .ok (.aload_n 1, 1) := by decide +kernel
theorem dX6_refresh_34 : decode cX6_refresh 34 = .ok (.getfield 65, 3) := by decide +kernel
theorem dX6_refresh_37 : decode cX6_refresh 37 = .ok (.iload_n 3, 1) := by decide +kernel
theorem dX6_refresh_38 : decode cX6_refresh 38 = .ok (.invokevirtual 68, 3) := by decide +kernel
theorem dX6_refresh_41 : decode cX6_refresh 41 = .ok (.istore 4, 2) := by decide +kernel
theorem dX6_refresh_43 : decode cX6_refresh 43 = .ok (.iload_n 3, 1) := by decide +kernel
theorem dX6_refresh_44 : decode cX6_refresh 44 = .ok (.ifCond .ne 15, 3) := by decide +kernel
theorem dX6_refresh_47 : decode cX6_refresh 47 = .ok (.aload_n 0, 1) := by decide +kernel
theorem dX6_refresh_48 : decode cX6_refresh 48 = .ok (.getfield 34, 3) := by decide +kernel
theorem dX6_refresh_51 : decode cX6_refresh 51 = .ok (.iload_n 3, 1) := by decide +kernel
theorem dX6_refresh_52 : decode cX6_refresh 52 = .ok (.iconst 5, 1) := by decide +kernel
theorem dX6_refresh_53 : decode cX6_refresh 53 = .ok (.invokevirtual 72, 3) := by decide +kernel
theorem dX6_refresh_56 : decode cX6_refresh 56 = .ok (.goto 13, 3) := by decide +kernel
theorem dX6_refresh_59 : decode cX6_refresh 59 = .ok (.aload_n 0, 1) := by decide +kernel
theorem dX6_refresh_60 : decode cX6_refresh 60 = .ok (.iload_n 3, 1) := by decide +kernel
theorem dX6_refresh_61 : decode cX6_refresh 61 = .ok (.iload 4, 2) := by decide +kernel
theorem dX6_refresh_63 : decode cX6_refresh 63 = .ok (.iload_n 2, 1) := by decide +kernel
theorem dX6_refresh_64 : decode cX6_refresh 64 = .ok (.isub, 1) := by decide +kernel
theorem dX6_refresh_65 : decode cX6_refresh 65 = .ok (.aload_n 1, 1) := by decide +kernel
theorem dX6_refresh_66 : decode cX6_refresh 66 = .ok (.invokevirtual 76, 3) := by decide +kernel
theorem dX6_refresh_69 : decode cX6_refresh 69 = .ok (.aload_n 0, 1) := by decide +kernel
theorem dX6_refresh_70 : decode cX6_refresh 70 = .ok (.iload_n 3, 1) := by decide +kernel
theorem dX6_refresh_71 : decode cX6_refresh 71 = .ok (.invokevirtual 80, 3) := by decide +kernel
theorem dX6_refresh_74 : decode cX6_refresh 74 = .ok (.aload_n 0, 1) := by decide +kernel
theorem dX6_refresh_75 : decode cX6_refresh 75 = .ok (.iload_n 3, 1) := by decide +kernel
theorem dX6_refresh_76 : decode cX6_refresh 76 = .ok (.invokevirtual 83, 3) := by decide +kernel
theorem dX6_refresh_79 : decode cX6_refresh 79 = .ok (.aload_n 0, 1) := by decide +kernel
theorem dX6_refresh_80 : decode cX6_refresh 80 = .ok (.iload_n 3, 1) := by decide +kernel
theorem dX6_refresh_81 : decode cX6_refresh 81 = .ok (.invokevirtual 86, 3) := by decide +kernel
theorem dX6_refresh_84 : decode cX6_refresh 84 = .ok (.ifCond .ne 6, 3) := by decide +kernel
theorem dX6_refresh_87 : decode cX6_refresh 87 = .ok (.iload 4, 2) := by decide +kernel
theorem dX6_refresh_89 : decode cX6_refresh 89 = .ok (.istore_n 2, 1) := by decide +kernel
theorem dX6_refresh_90 : decode cX6_refresh 90 = .ok (.iinc 3 1, 3) := by decide +kernel
theorem dX6_refresh_93 : decode cX6_refresh 93 = .ok (.goto (-68), 3) := by decide +kernel
theorem dX6_refresh_96 : decode cX6_refresh 96 = .ok (.aload_n 0, 1) := by decide +kernel
theorem dX6_refresh_97 : decode cX6_refresh 97 = .ok (.getfield 12, 3) := by decide +kernel
theorem dX6_refresh_100 : decode cX6_refresh 100 = .ok (.invokevirtual 90, 3) := by decide +kernel
theorem dX6_refresh_103 : decode cX6_refresh 103 = .ok (.aload_n 0, 1) := by decide +kernel
theorem dX6_refresh_104 : decode cX6_refresh 104 = .ok (.invokevirtual 93, 3) := by decide +kernel
theorem dX6_refresh_107 : decode cX6_refresh 107 = .ok (.return_, 1) := by decide +kernel
theorem dX6_noteGap_0 : decode cX6_noteGap 0 = .ok (.aload_n 0, 1) := by decide +kernel
theorem dX6_noteGap_1 : decode cX6_noteGap 1 = .ok (.iload_n 2, 1) := by decide +kernel
theorem dX6_noteGap_2 : decode cX6_noteGap 2 = .ok (.aload_n 3, 1) := by decide +kernel
theorem dX6_noteGap_3 : decode cX6_noteGap 3 = .ok (.getfield 96, 3) := by decide +kernel
theorem dX6_noteGap_6 : decode cX6_noteGap 6 = .ok (.invokevirtual 99, 3) := by decide +kernel
theorem dX6_noteGap_9 : decode cX6_noteGap 9 = .ok (.istore 4, 2) := by decide +kernel
theorem dX6_noteGap_11 : decode cX6_noteGap 11 = .ok (.iload 4, 2) := by decide +kernel
theorem dX6_noteGap_13 : decode cX6_noteGap 13 = .ok (.aload_n 0, 1) := by decide +kernel
theorem dX6_noteGap_14 : decode cX6_noteGap 14 = .ok (.iload_n 2, 1) := by decide +kernel
theorem dX6_noteGap_15 : decode cX6_noteGap 15 = .ok (.aload_n 3, 1) := by decide +kernel
theorem dX6_noteGap_16 : decode cX6_noteGap 16 = .ok (.getfield 103, 3) := by decide +kernel
theorem dX6_noteGap_19 : decode cX6_noteGap 19 = .ok (.isub, 1) := by decide +kernel
theorem dX6_noteGap_20 : decode cX6_noteGap 20 = .ok (.aload_n 3, 1) := by decide +kernel
theorem dX6_noteGap_21 : decode cX6_noteGap 21 = .ok (.getfield 96, 3) := by decide +kernel
theorem dX6_noteGap_24 : decode cX6_noteGap 24 = .ok (.invokevirtual 99, 3) := by decide +kernel
theorem dX6_noteGap_27 : decode cX6_noteGap 27 = .ok (.if_icmp .ne 22, 3) := by decide +kernel
theorem dX6_noteGap_30 : decode cX6_noteGap 30 = .ok (.iload 4, 2) := by decide +kernel
theorem dX6_noteGap_32 : decode cX6_noteGap 32 = .ok (.aload_n 0, 1) := by decide +kernel
theorem dX6_noteGap_33 : decode cX6_noteGap 33 = .ok (.iload_n 2, 1) := by decide +kernel
theorem dX6_noteGap_34 : decode cX6_noteGap 34 = .ok (.aload_n 3, 1) := by decide +kernel
theorem dX6_noteGap_35 : decode cX6_noteGap 35 = .ok (.getfield 103, 3) := by decide +kernel
theorem dX6_noteGap_38 : decode cX6_noteGap 38 = .ok (.iadd, 1) := by decide +kernel
theorem dX6_noteGap_39 : decode cX6_noteGap 39 = .ok (.aload_n 3, 1) := by decide +kernel
theorem dX6_noteGap_40 : decode cX6_noteGap 40 = .ok (.getfield 96, 3) := by decide +kernel
theorem dX6_noteGap_43 : decode cX6_noteGap 43 = .ok (.invokevirtual 99, 3) := by decide +kernel
theorem dX6_noteGap_46 : decode cX6_noteGap 46 = .ok (.if_icmp .eq 7, 3) := by decide +kernel
theorem dX6_noteGap_49 : decode cX6_noteGap 49 = .ok (.iconst 1, 1) := by decide +kernel
theorem dX6_noteGap_50 : decode cX6_noteGap 50 = .ok (.goto 4, 3) := by decide +kernel
theorem dX6_noteGap_53 : decode cX6_noteGap 53 = .ok (.iconst 0, 1) := by decide +kernel
theorem dX6_noteGap_54 : decode cX6_noteGap 54 = .ok (.istore 5, 2) := by decide +kernel
theorem dX6_noteGap_56 : decode cX6_noteGap 56 = .ok (.aload_n 0, 1) := by decide +kernel
theorem dX6_noteGap_57 : decode cX6_noteGap 57 = .ok (.getfield 30, 3) := by decide +kernel
theorem dX6_noteGap_60 : decode cX6_noteGap 60 = .ok (.iload_n 1, 1) := by decide +kernel
theorem dX6_noteGap_61 : decode cX6_noteGap 61 = .ok (.iload_n 2, 1) := by decide +kernel
theorem dX6_noteGap_62 : decode cX6_noteGap 62 = .ok (.invokevirtual 72, 3) := by decide +kernel
theorem dX6_noteGap_65 : decode cX6_noteGap 65 = .ok (.aload_n 0, 1) := by decide +kernel
theorem dX6_noteGap_66 : decode cX6_noteGap 66 = .ok (.getfield 34, 3) := by decide +kernel
theorem dX6_noteGap_69 : decode cX6_noteGap 69 = .ok (.iload_n 1, 1) := by decide +kernel
theorem dX6_noteGap_70 : decode cX6_noteGap 70 = .ok (.iload 4, 2) := by decide +kernel
theorem dX6_noteGap_72 : decode cX6_noteGap 72 = .ok (.invokevirtual 72, 3) := by decide +kernel
theorem dX6_noteGap_75 : decode cX6_noteGap 75 = .ok (.aload_n 0, 1) := by decide +kernel
theorem dX6_noteGap_76 : decode cX6_noteGap 76 = .ok (.getfield 37, 3) := by decide +kernel
theorem dX6_noteGap_79 : decode cX6_noteGap 79 = .ok (.iload_n 1, 1) := by decide +kernel
theorem dX6_noteGap_80 : decode cX6_noteGap 80 = .ok (.iload 5, 2) := by decide +kernel
theorem dX6_noteGap_82 : decode cX6_noteGap 82 = .ok (.ifCond .eq 7, 3) := by decide +kernel
theorem dX6_noteGap_85 : decode cX6_noteGap 85 = .ok (.iconst 1, 1) := by decide +kernel
theorem dX6_noteGap_86 : decode cX6_noteGap 86 = .ok (.goto 4, 3) := by decide +kernel
theorem dX6_noteGap_89 : decode cX6_noteGap 89 = .ok (.iconst 0, 1) := by decide +kernel
theorem dX6_noteGap_90 : decode cX6_noteGap 90 = .ok (.invokevirtual 72, 3) := by decide +kernel
theorem dX6_noteGap_93 : decode cX6_noteGap 93 = .ok (.return_, 1) := by decide +kernel
theorem dX6_caseOf_0 : decode cX6_caseOf 0 = .ok (.iconst 4, 1) := by decide +kernel
theorem dX6_caseOf_1 : decode cX6_caseOf 1 = .ok (.iload_n 1, 1) := by decide +kernel
theorem dX6_caseOf_2 : decode cX6_caseOf 2 = .ok (.imul, 1) := by decide +kernel
theorem dX6_caseOf_3 : decode cX6_caseOf 3 = .ok (.istore_n 3, 1) := by decide +kernel
theorem dX6_caseOf_4 : decode cX6_caseOf 4 = .ok (.iload_n 3, 1) := by decide +kernel
theorem dX6_caseOf_5 : decode cX6_caseOf 5 = .ok (.iconst 3, 1) := by decide +kernel
theorem dX6_caseOf_6 : decode cX6_caseOf 6 = .ok (.iload_n 2, 1) := by decide +kernel
theorem dX6_caseOf_7 : decode cX6_caseOf 7 = .ok (.imul, 1) := by decide +kernel
theorem dX6_caseOf_8 : decode cX6_caseOf 8 = .ok (.if_icmp .ge 5, 3) := by decide +kernel
theorem dX6_caseOf_11 : decode cX6_caseOf 11 = .ok (.iconst 0, 1) := by decide +kernel
theorem dX6_caseOf_12 : decode cX6_caseOf 12 = .ok (.ireturn, 1) := by decide +kernel
theorem dX6_caseOf_13 : decode cX6_caseOf 13 = .ok (.iload_n 3, 1) := by decide +kernel
theorem dX6_caseOf_14 : decode cX6_caseOf 14 = .ok (.bipush 6, 2) := by decide +kernel
theorem dX6_caseOf_16 : decode cX6_caseOf 16 = .ok (.iload_n 2, 1) := by decide +kernel
theorem dX6_caseOf_17 : decode cX6_caseOf 17 = .ok (.imul, 1) := by decide +kernel
theorem dX6_caseOf_18 : decode cX6_caseOf 18 = .ok (.if_icmp .ge 5, 3) := by decide +kernel
theorem dX6_caseOf_21 : decode cX6_caseOf 21 = .ok (.iconst 1, 1) := by decide +kernel
theorem dX6_caseOf_22 : decode cX6_caseOf 22 = .ok (.ireturn, 1) := by decide +kernel
theorem dX6_caseOf_23 : decode cX6_caseOf 23 = .ok (.iload_n 3, 1) := by decide +kernel
theorem dX6_caseOf_24 : decode cX6_caseOf 24 = .ok (.bipush 10, 2) := by decide +kernel
theorem dX6_caseOf_26 : decode cX6_caseOf 26 = .ok (.iload_n 2, 1) := by decide +kernel
theorem dX6_caseOf_27 : decode cX6_caseOf 27 = .ok (.imul, 1) := by decide +kernel
theorem dX6_caseOf_28 : decode cX6_caseOf 28 = .ok (.if_icmp .ge 5, 3) := by decide +kernel
theorem dX6_caseOf_31 : decode cX6_caseOf 31 = .ok (.iconst 2, 1) := by decide +kernel
theorem dX6_caseOf_32 : decode cX6_caseOf 32 = .ok (.ireturn, 1) := by decide +kernel
theorem dX6_caseOf_33 : decode cX6_caseOf 33 = .ok (.iload_n 3, 1) := by decide +kernel
theorem dX6_caseOf_34 : decode cX6_caseOf 34 = .ok (.bipush 18, 2) := by decide +kernel
theorem dX6_caseOf_36 : decode cX6_caseOf 36 = .ok (.iload_n 2, 1) := by decide +kernel
theorem dX6_caseOf_37 : decode cX6_caseOf 37 = .ok (.imul, 1) := by decide +kernel
theorem dX6_caseOf_38 : decode cX6_caseOf 38 = .ok (.if_icmp .ge 5, 3) := by decide +kernel
theorem dX6_caseOf_41 : decode cX6_caseOf 41 = .ok (.iconst 3, 1) := by decide +kernel
theorem dX6_caseOf_42 : decode cX6_caseOf 42 = .ok (.ireturn, 1) := by decide +kernel
theorem dX6_caseOf_43 : decode cX6_caseOf 43 = .ok (.iload_n 3, 1) := by decide +kernel
theorem dX6_caseOf_44 : decode cX6_caseOf 44 = .ok (.bipush 32, 2) := by decide +kernel
theorem dX6_caseOf_46 : decode cX6_caseOf 46 = .ok (.iload_n 2, 1) := by decide +kernel
theorem dX6_caseOf_47 : decode cX6_caseOf 47 = .ok (.imul, 1) := by decide +kernel
theorem dX6_caseOf_48 : decode cX6_caseOf 48 = .ok (.if_icmp .ge 7, 3) := by decide +kernel
theorem dX6_caseOf_51 : decode cX6_caseOf 51 = .ok (.iconst 4, 1) := by decide +kernel
theorem dX6_caseOf_52 : decode cX6_caseOf 52 = .ok (.goto 4, 3) := by decide +kernel
theorem dX6_caseOf_55 : decode cX6_caseOf 55 = .ok (.iconst 5, 1) := by decide +kernel
theorem dX6_caseOf_56 : decode cX6_caseOf 56 = .ok (.ireturn, 1) := by decide +kernel
theorem dX6_goOn_0 : decode cX6_goOn 0 = .ok (.aload_n 0, 1) := by decide +kernel
theorem dX6_goOn_1 : decode cX6_goOn 1 = .ok (.getfield 34, 3) := by decide +kernel
theorem dX6_goOn_4 : decode cX6_goOn 4 = .ok (.iload_n 1, 1) := by decide +kernel
theorem dX6_goOn_5 : decode cX6_goOn 5 = .ok (.invokevirtual 68, 3) := by decide +kernel
theorem dX6_goOn_8 : decode cX6_goOn 8 = .ok (.tableswitch 102 0 4 #[36, 49, 60, 85, 95], 36) := by decide +kernel
theorem dX6_goOn_44 : decode cX6_goOn 44 = .ok (.aload_n 0, 1) := by decide +kernel
theorem dX6_goOn_45 : decode cX6_goOn 45 = .ok (.dup, 1) := by decide +kernel
theorem dX6_goOn_46 : decode cX6_goOn 46 = .ok (.getfield 49, 3) := by decide +kernel
theorem dX6_goOn_49 : decode cX6_goOn 49 = .ok (.iconst 1, 1) := by decide +kernel
theorem dX6_goOn_50 : decode cX6_goOn 50 = .ok (.iadd, 1) := by decide +kernel
theorem dX6_goOn_51 : decode cX6_goOn 51 = .ok (.putfield 49, 3) := by decide +kernel
theorem dX6_goOn_54 : decode cX6_goOn 54 = .ok (.goto 75, 3) := by decide +kernel
theorem dX6_goOn_57 : decode cX6_goOn 57 = .ok (.aload_n 0, 1) := by decide +kernel
theorem dX6_goOn_58 : decode cX6_goOn 58 = .ok (.getfield 12, 3) := by decide +kernel
theorem dX6_goOn_61 : decode cX6_goOn 61 = .ok (.iconst 1, 1) := by decide +kernel
theorem dX6_goOn_62 : decode cX6_goOn 62 = .ok (.invokevirtual 106, 3) := by decide +kernel
theorem dX6_goOn_65 : decode cX6_goOn 65 = .ok (.goto 64, 3) := by decide +kernel
theorem dX6_goOn_68 : decode cX6_goOn 68 = .ok (.aload_n 0, 1) := by decide +kernel
theorem dX6_goOn_69 : decode cX6_goOn 69 = .ok (.getfield 12, 3) := by decide +kernel
theorem dX6_goOn_72 : decode cX6_goOn 72 = .ok (.iconst 2, 1) := by decide +kernel
theorem dX6_goOn_73 : decode cX6_goOn 73 = .ok (.invokevirtual 106, 3) := by decide +kernel
theorem dX6_goOn_76 : decode cX6_goOn 76 = .ok (.aload_n 0, 1) := by decide +kernel
theorem dX6_goOn_77 : decode cX6_goOn 77 = .ok (.getfield 21, 3) := by decide +kernel
theorem dX6_goOn_80 : decode cX6_goOn 80 = .ok (.aload_n 0, 1) := by decide +kernel
theorem dX6_goOn_81 : decode cX6_goOn 81 = .ok (.getfield 21, 3) := by decide +kernel
theorem dX6_goOn_84 : decode cX6_goOn 84 = .ok (.getfield 109, 3) := by decide +kernel
theorem dX6_goOn_87 : decode cX6_goOn 87 = .ok (.invokevirtual 112, 3) := by decide +kernel
theorem dX6_goOn_90 : decode cX6_goOn 90 = .ok (.goto 39, 3) := by decide +kernel
theorem dX6_goOn_93 : decode cX6_goOn 93 = .ok (.aload_n 0, 1) := by decide +kernel
theorem dX6_goOn_94 : decode cX6_goOn 94 = .ok (.getfield 12, 3) := by decide +kernel
theorem dX6_goOn_97 : decode cX6_goOn 97 = .ok (.invokevirtual 116, 3) := by decide +kernel
theorem dX6_goOn_100 : decode cX6_goOn 100 = .ok (.goto 29, 3) := by decide +kernel
theorem dX6_goOn_103 : decode cX6_goOn 103 = .ok (.aload_n 0, 1) := by decide +kernel
theorem dX6_goOn_104 : decode cX6_goOn 104 = .ok (.invokevirtual 119, 3) := by decide +kernel
theorem dX6_goOn_107 : decode cX6_goOn 107 = .ok (.goto 22, 3) := by decide +kernel
theorem dX6_goOn_110 : decode cX6_goOn 110 = .ok (.aload_n 0, 1) := by decide +kernel
theorem dX6_goOn_111 : decode cX6_goOn 111 = .ok (.getfield 21, 3) := by decide +kernel
theorem dX6_goOn_114 : decode cX6_goOn 114 = .ok (.iload_n 1, 1) := by decide +kernel
theorem dX6_goOn_115 : decode cX6_goOn 115 = .ok (.aload_n 0, 1) := by decide +kernel
theorem dX6_goOn_116 : decode cX6_goOn 116 = .ok (.getfield 12, 3) := by decide +kernel
theorem dX6_goOn_119 : decode cX6_goOn 119 = .ok (.getfield 122, 3) := by decide +kernel
theorem dX6_goOn_122 : decode cX6_goOn 122 = .ok (.invokevirtual 123, 3) := by decide +kernel
theorem dX6_goOn_125 : decode cX6_goOn 125 = .ok (.aload_n 0, 1) := by decide +kernel
theorem dX6_goOn_126 : decode cX6_goOn 126 = .ok (.invokevirtual 119, 3) := by decide +kernel
theorem dX6_goOn_129 : decode cX6_goOn 129 = .ok (.return_, 1) := by decide +kernel
theorem dX6_beginLetter_0 : decode cX6_beginLetter 0 = .ok (.aload_n 0, 1) := by decide +kernel
theorem dX6_beginLetter_1 : decode cX6_beginLetter 1 = .ok (.getfield 12, 3) := by decide +kernel
theorem dX6_beginLetter_4 : decode cX6_beginLetter 4 = .ok (.invokevirtual 126, 3) := by decide +kernel
theorem dX6_beginLetter_7 : decode cX6_beginLetter 7 = .ok (.aload_n 0, 1) := by decide +kernel
theorem dX6_beginLetter_8 : decode cX6_beginLetter 8 = .ok (.getfield 21, 3) := by decide +kernel
theorem dX6_beginLetter_11 : decode cX6_beginLetter 11 = .ok (.aload_n 0, 1) := by decide +kernel
theorem dX6_beginLetter_12 : decode cX6_beginLetter 12 = .ok (.getfield 21, 3) := by decide +kernel
theorem dX6_beginLetter_15 : decode cX6_beginLetter 15 = .ok (.getfield 128, 3) := by decide +kernel
theorem dX6_beginLetter_18 : decode cX6_beginLetter 18 = .ok (.invokevirtual 112, 3) := by decide +kernel
theorem dX6_beginLetter_21 : decode cX6_beginLetter 21 = .ok (.return_, 1) := by decide +kernel
theorem dX6_notePlace_0 : decode cX6_notePlace 0 = .ok (.aload_n 0, 1) := by decide +kernel
theorem dX6_notePlace_1 : decode cX6_notePlace 1 = .ok (.getfield 21, 3) := by decide +kernel
theorem dX6_notePlace_4 : decode cX6_notePlace 4 = .ok (.getfield 57, 3) := by decide +kernel
theorem dX6_notePlace_7 : decode cX6_notePlace 7 = .ok (.iconst 1, 1) := by decide +kernel
theorem dX6_notePlace_8 : decode cX6_notePlace 8 = .ok (.isub, 1) := by decide +kernel
theorem dX6_notePlace_9 : decode cX6_notePlace 9 = .ok (.istore_n 2, 1) := by decide +kernel
theorem dX6_notePlace_10 : decode cX6_notePlace 10 = .ok (.aload_n 0, 1) := by decide +kernel
theorem dX6_notePlace_11 : decode cX6_notePlace 11 = .ok (.getfield 40, 3) := by decide +kernel
theorem dX6_notePlace_14 : decode cX6_notePlace 14 = .ok (.iload_n 1, 1) := by decide +kernel
theorem dX6_notePlace_15 : decode cX6_notePlace 15 = .ok (.iload_n 2, 1) := by decide +kernel
theorem dX6_notePlace_16 : decode cX6_notePlace 16 = .ok (.invokevirtual 72, 3) := by decide +kernel
theorem dX6_notePlace_19 : decode cX6_notePlace 19 = .ok (.aload_n 0, 1) := by decide +kernel
theorem dX6_notePlace_20 : decode cX6_notePlace 20 = .ok (.getfield 43, 3) := by decide +kernel
theorem dX6_notePlace_23 : decode cX6_notePlace 23 = .ok (.iload_n 1, 1) := by decide +kernel
theorem dX6_notePlace_24 : decode cX6_notePlace 24 = .ok (.aload_n 0, 1) := by decide +kernel
theorem dX6_notePlace_25 : decode cX6_notePlace 25 = .ok (.iload_n 2, 1) := by decide +kernel
theorem dX6_notePlace_26 : decode cX6_notePlace 26 = .ok (.invokevirtual 131, 3) := by decide +kernel
theorem dX6_notePlace_29 : decode cX6_notePlace 29 = .ok (.iconst 1, 1) := by decide +kernel
theorem dX6_notePlace_30 : decode cX6_notePlace 30 = .ok (.isub, 1) := by decide +kernel
theorem dX6_notePlace_31 : decode cX6_notePlace 31 = .ok (.invokevirtual 72, 3) := by decide +kernel
theorem dX6_notePlace_34 : decode cX6_notePlace 34 = .ok (.aload_n 0, 1) := by decide +kernel
theorem dX6_notePlace_35 : decode cX6_notePlace 35 = .ok (.getfield 46, 3) := by decide +kernel
theorem dX6_notePlace_38 : decode cX6_notePlace 38 = .ok (.iload_n 1, 1) := by decide +kernel
theorem dX6_notePlace_39 : decode cX6_notePlace 39 = .ok (.aload_n 0, 1) := by decide +kernel
theorem dX6_notePlace_40 : decode cX6_notePlace 40 = .ok (.getfield 12, 3) := by decide +kernel
theorem dX6_notePlace_43 : decode cX6_notePlace 43 = .ok (.getfield 134, 3) := by decide +kernel
theorem dX6_notePlace_46 : decode cX6_notePlace 46 = .ok (.aload_n 0, 1) := by decide +kernel
theorem dX6_notePlace_47 : decode cX6_notePlace 47 = .ok (.getfield 12, 3) := by decide +kernel
theorem dX6_notePlace_50 : decode cX6_notePlace 50 = .ok (.getfield 122, 3) := by decide +kernel
theorem dX6_notePlace_53 : decode cX6_notePlace 53 = .ok (.iconst 1, 1) := by decide +kernel
theorem dX6_notePlace_54 : decode cX6_notePlace 54 = .ok (.isub, 1) := by decide +kernel
theorem dX6_notePlace_55 : decode cX6_notePlace 55 = .ok (.invokevirtual 68, 3) := by decide +kernel
theorem dX6_notePlace_58 : decode cX6_notePlace 58 = .ok (.iconst 1, 1) := by decide +kernel
theorem dX6_notePlace_59 : decode cX6_notePlace 59 = .ok (.isub, 1) := by decide +kernel
theorem dX6_notePlace_60 : decode cX6_notePlace 60 = .ok (.invokevirtual 72, 3) := by decide +kernel
theorem dX6_notePlace_63 : decode cX6_notePlace 63 = .ok (.aload_n 0, 1) := by decide +kernel
theorem dX6_notePlace_64 : decode cX6_notePlace 64 = .ok (.getfield 37, 3) := by decide +kernel
theorem dX6_notePlace_67 : decode cX6_notePlace 67 = .ok (.iload_n 1, 1) := by decide +kernel
theorem dX6_notePlace_68 : decode cX6_notePlace 68 = .ok (.invokevirtual 68, 3) := by decide +kernel
theorem dX6_notePlace_71 : decode cX6_notePlace 71 = .ok (.iconst 1, 1) := by decide +kernel
theorem dX6_notePlace_72 : decode cX6_notePlace 72 = .ok (.if_icmp .ne 17, 3) := by decide +kernel
theorem dX6_notePlace_75 : decode cX6_notePlace 75 = .ok (.aload_n 0, 1) := by decide +kernel
theorem dX6_notePlace_76 : decode cX6_notePlace 76 = .ok (.getfield 21, 3) := by decide +kernel
theorem dX6_notePlace_79 : decode cX6_notePlace 79 = .ok (.aload_n 0, 1) := by decide +kernel
theorem dX6_notePlace_80 : decode cX6_notePlace 80 = .ok (.getfield 21, 3) := by decide +kernel
theorem dX6_notePlace_83 : decode cX6_notePlace 83 = .ok (.getfield 137, 3) := by decide +kernel
theorem dX6_notePlace_86 : decode cX6_notePlace 86 = .ok (.invokevirtual 112, 3) := by decide +kernel
theorem dX6_notePlace_89 : decode cX6_notePlace 89 = .ok (.return_, 1) := by decide +kernel
theorem dX6_sumUp_0 : decode cX6_sumUp 0 = .ok (.iconst 0, 1) := by decide +kernel
theorem dX6_sumUp_1 : decode cX6_sumUp 1 = .ok (.istore_n 1, 1) := by decide +kernel
theorem dX6_sumUp_2 : decode cX6_sumUp 2 = .ok (.iload_n 1, 1) := by decide +kernel
theorem dX6_sumUp_3 : decode cX6_sumUp 3 = .ok (.aload_n 0, 1) := by decide +kernel
theorem dX6_sumUp_4 : decode cX6_sumUp 4 = .ok (.getfield 21, 3) := by decide +kernel
theorem dX6_sumUp_7 : decode cX6_sumUp 7 = .ok (.getfield 57, 3) := by decide +kernel
theorem dX6_sumUp_10 : decode cX6_sumUp 10 = .ok (.if_icmp .ge 65, 3) := by decide +kernel
theorem dX6_sumUp_13 : decode cX6_sumUp 13 = .ok (.iconst 0, 1) := by decide +kernel
theorem dX6_sumUp_14 : decode cX6_sumUp 14 = .ok (.istore_n 2, 1) := by decide +kernel
theorem dX6_sumUp_15 : decode cX6_sumUp 15 = .ok (.iload_n 2, 1) := by decide +kernel
theorem dX6_sumUp_16 : decode cX6_sumUp 16 = .ok (.aload_n 0, 1) := by decide +kernel
theorem dX6_sumUp_17 : decode cX6_sumUp 17 = .ok (.iload_n 1, 1) := by decide +kernel
theorem dX6_sumUp_18 : decode cX6_sumUp 18 = .ok (.invokevirtual 131, 3) := by decide +kernel
theorem dX6_sumUp_21 : decode cX6_sumUp 21 = .ok (.if_icmp .ge 48, 3) := by decide +kernel
theorem dX6_sumUp_24 : decode cX6_sumUp 24 = .ok (.aload_n 0, 1) := by decide +kernel
theorem dX6_sumUp_25 : decode cX6_sumUp 25 = .ok (.iload_n 1, 1) := by decide +kernel
theorem dX6_sumUp_26 : decode cX6_sumUp 26 = .ok (.iload_n 2, 1) := by decide +kernel
theorem dX6_sumUp_27 : decode cX6_sumUp 27 = .ok (.invokevirtual 140, 3) := by decide +kernel
theorem dX6_sumUp_30 : decode cX6_sumUp 30 = .ok (.istore_n 3, 1) := by decide +kernel
theorem dX6_sumUp_31 : decode cX6_sumUp 31 = .ok (.iload_n 3, 1) := by decide +kernel
theorem dX6_sumUp_32 : decode cX6_sumUp 32 = .ok (.iconst (-1), 1) := by decide +kernel
theorem dX6_sumUp_33 : decode cX6_sumUp 33 = .ok (.if_icmp .ne 18, 3) := by decide +kernel
theorem dX6_sumUp_36 : decode cX6_sumUp 36 = .ok (.aload_n 0, 1) := by decide +kernel
theorem dX6_sumUp_37 : decode cX6_sumUp 37 = .ok (.getfield 21, 3) := by decide +kernel
theorem dX6_sumUp_40 : decode cX6_sumUp 40 = .ok (.getfield 143, 3) := by decide +kernel
theorem dX6_sumUp_43 : decode cX6_sumUp 43 = .ok (.iload_n 1, 1) := by decide +kernel
theorem dX6_sumUp_44 : decode cX6_sumUp 44 = .ok (.iconst 1, 1) := by decide +kernel
theorem dX6_sumUp_45 : decode cX6_sumUp 45 = .ok (.invokevirtual 146, 3) := by decide +kernel
theorem dX6_sumUp_48 : decode cX6_sumUp 48 = .ok (.goto 15, 3) := by decide +kernel
theorem dX6_sumUp_51 : decode cX6_sumUp 51 = .ok (.aload_n 0, 1) := by decide +kernel
theorem dX6_sumUp_52 : decode cX6_sumUp 52 = .ok (.getfield 21, 3) := by decide +kernel
theorem dX6_sumUp_55 : decode cX6_sumUp 55 = .ok (.getfield 149, 3) := by decide +kernel
theorem dX6_sumUp_58 : decode cX6_sumUp 58 = .ok (.iload_n 1, 1) := by decide +kernel
theorem dX6_sumUp_59 : decode cX6_sumUp 59 = .ok (.iload_n 3, 1) := by decide +kernel
theorem dX6_sumUp_60 : decode cX6_sumUp 60 = .ok (.invokevirtual 146, 3) := by decide +kernel
theorem dX6_sumUp_63 : decode cX6_sumUp 63 = .ok (.iinc 2 1, 3) := by decide +kernel
theorem dX6_sumUp_66 : decode cX6_sumUp 66 = .ok (.goto (-51), 3) := by decide +kernel
theorem dX6_sumUp_69 : decode cX6_sumUp 69 = .ok (.iinc 1 1, 3) := by decide +kernel
theorem dX6_sumUp_72 : decode cX6_sumUp 72 = .ok (.goto (-70), 3) := by decide +kernel
theorem dX6_sumUp_75 : decode cX6_sumUp 75 = .ok (.return_, 1) := by decide +kernel
theorem dX6_isLeftOut_0 : decode cX6_isLeftOut 0 = .ok (.aload_n 0, 1) := by decide +kernel
theorem dX6_isLeftOut_1 : decode cX6_isLeftOut 1 = .ok (.getfield 34, 3) := by decide +kernel
theorem dX6_isLeftOut_4 : decode cX6_isLeftOut 4 = .ok (.iload_n 1, 1) := by decide +kernel
theorem dX6_isLeftOut_5 : decode cX6_isLeftOut 5 = .ok (.invokevirtual 68, 3) := by decide +kernel
theorem dX6_isLeftOut_8 : decode cX6_isLeftOut 8 = .ok (.ifCond .ne 7, 3) := by decide +kernel
theorem dX6_isLeftOut_11 : decode cX6_isLeftOut 11 = .ok (.iconst 1, 1) := by decide +kernel
theorem dX6_isLeftOut_12 : decode cX6_isLeftOut 12 = .ok (.goto 4, 3) := by decide +kernel
theorem dX6_isLeftOut_15 : decode cX6_isLeftOut 15 = .ok (.iconst 0, 1) := by decide +kernel
theorem dX6_isLeftOut_16 : decode cX6_isLeftOut 16 = .ok (.ireturn, 1) := by decide +kernel
theorem dX6_gapDetail_0 : decode cX6_gapDetail 0 = .ok (.iload_n 2, 1) := by decide +kernel
theorem dX6_gapDetail_1 : decode cX6_gapDetail 1 = .ok (.lookupswitch 45 #[(1, 27), (2, 36)], 27) := by decide +kernel
theorem dX6_gapDetail_28 : decode cX6_gapDetail 28 = .ok (.aload_n 0, 1) := by decide +kernel
theorem dX6_gapDetail_29 : decode cX6_gapDetail 29 = .ok (.getfield 30, 3) := by decide +kernel
theorem dX6_gapDetail_32 : decode cX6_gapDetail 32 = .ok (.iload_n 1, 1) := by decide +kernel
theorem dX6_gapDetail_33 : decode cX6_gapDetail 33 = .ok (.invokevirtual 68, 3) := by decide +kernel
theorem dX6_gapDetail_36 : decode cX6_gapDetail 36 = .ok (.ireturn, 1) := by decide +kernel
theorem dX6_gapDetail_37 : decode cX6_gapDetail 37 = .ok (.aload_n 0, 1) := by decide +kernel
theorem dX6_gapDetail_38 : decode cX6_gapDetail 38 = .ok (.getfield 34, 3) := by decide +kernel
theorem dX6_gapDetail_41 : decode cX6_gapDetail 41 = .ok (.iload_n 1, 1) := by decide +kernel
theorem dX6_gapDetail_42 : decode cX6_gapDetail 42 = .ok (.invokevirtual 68, 3) := by decide +kernel
theorem dX6_gapDetail_45 : decode cX6_gapDetail 45 = .ok (.ireturn, 1) := by decide +kernel
theorem dX6_gapDetail_46 : decode cX6_gapDetail 46 = .ok (.aload_n 0, 1) := by decide +kernel
theorem dX6_gapDetail_47 : decode cX6_gapDetail 47 = .ok (.getfield 37, 3) := by decide +kernel
theorem dX6_gapDetail_50 : decode cX6_gapDetail 50 = .ok (.iload_n 1, 1) := by decide +kernel
theorem dX6_gapDetail_51 : decode cX6_gapDetail 51 = .ok (.invokevirtual 68, 3) := by decide +kernel
theorem dX6_gapDetail_54 : decode cX6_gapDetail 54 = .ok (.ireturn, 1) := by decide +kernel
theorem dX6_placeDetail_0 : decode cX6_placeDetail 0 = .ok (.iload_n 2, 1) := by decide +kernel
theorem dX6_placeDetail_1 : decode cX6_placeDetail 1 = .ok (.lookupswitch 45 #[(4, 27), (5, 36)], 27) := by decide +kernel
theorem dX6_placeDetail_28 : decode cX6_placeDetail 28 = .ok (.aload_n 0, 1) := by decide +kernel
theorem dX6_placeDetail_29 : decode cX6_placeDetail 29 = .ok (.getfield 40, 3) := by decide +kernel
theorem dX6_placeDetail_32 : decode cX6_placeDetail 32 = .ok (.iload_n 1, 1) := by decide +kernel
theorem dX6_placeDetail_33 : decode cX6_placeDetail 33 = .ok (.invokevirtual 68, 3) := by decide +kernel
theorem dX6_placeDetail_36 : decode cX6_placeDetail 36 = .ok (.ireturn, 1) := by decide +kernel
theorem dX6_placeDetail_37 : decode cX6_placeDetail 37 = .ok (.aload_n 0, 1) := by decide +kernel
end
section
theorem dX6_placeDetail_38 : decode cX6_placeDetail 38 = .ok (.getfield 43, 3) := by decide +kernel
theorem dX6_placeDetail_41 : decode cX6_placeDetail 41 = .ok (.iload_n 1, 1) := by decide +kernel
theorem dX6_placeDetail_42 : decode cX6_placeDetail 42 = .ok (.invokevirtual 68, 3) := by decide +kernel
theorem dX6_placeDetail_45 : decode cX6_placeDetail 45 = .ok (.ireturn, 1) := by decide +kernel
theorem dX6_placeDetail_46 : decode cX6_placeDetail 46 = .ok (.aload_n 0, 1) := by decide +kernel
theorem dX6_placeDetail_47 : decode cX6_placeDetail 47 = .ok (.getfield 46, 3) := by decide +kernel
theorem dX6_placeDetail_50 : decode cX6_placeDetail 50 = .ok (.iload_n 1, 1) := by decide +kernel
theorem dX6_placeDetail_51 : decode cX6_placeDetail 51 = .ok (.invokevirtual 68, 3) := by decide +kernel
theorem dX6_placeDetail_54 : decode cX6_placeDetail 54 = .ok (.ireturn, 1) := by decide +kernel
theorem dX6_hasMessage_0 : decode cX6_hasMessage 0 = .ok (.iload_n 1, 1) := by decide +kernel
theorem dX6_hasMessage_1 : decode cX6_hasMessage 1 = .ok (.ifCond .lt 18, 3) := by decide +kernel
theorem dX6_hasMessage_4 : decode cX6_hasMessage 4 = .ok (.iload_n 1, 1) := by decide +kernel
theorem dX6_hasMessage_5 : decode cX6_hasMessage 5 = .ok (.aload_n 0, 1) := by decide +kernel
theorem dX6_hasMessage_6 : decode cX6_hasMessage 6 = .ok (.getfield 21, 3) := by decide +kernel
theorem dX6_hasMessage_9 : decode cX6_hasMessage 9 = .ok (.getfield 57, 3) := by decide +kernel
theorem dX6_hasMessage_12 : decode cX6_hasMessage 12 = .ok (.if_icmp .ge 7, 3) := by decide +kernel
theorem dX6_hasMessage_15 : decode cX6_hasMessage 15 = .ok (.iconst 1, 1) := by decide +kernel
theorem dX6_hasMessage_16 : decode cX6_hasMessage 16 = .ok (.goto 4, 3) := by decide +kernel
theorem dX6_hasMessage_19 : decode cX6_hasMessage 19 = .ok (.iconst 0, 1) := by decide +kernel
theorem dX6_hasMessage_20 : decode cX6_hasMessage 20 = .ok (.ireturn, 1) := by decide +kernel
theorem dX6_lengthOf_0 : decode cX6_lengthOf 0 = .ok (.aload_n 0, 1) := by decide +kernel
theorem dX6_lengthOf_1 : decode cX6_lengthOf 1 = .ok (.getfield 21, 3) := by decide +kernel
theorem dX6_lengthOf_4 : decode cX6_lengthOf 4 = .ok (.getfield 128, 3) := by decide +kernel
theorem dX6_lengthOf_7 : decode cX6_lengthOf 7 = .ok (.iload_n 1, 1) := by decide +kernel
theorem dX6_lengthOf_8 : decode cX6_lengthOf 8 = .ok (.invokevirtual 68, 3) := by decide +kernel
theorem dX6_lengthOf_11 : decode cX6_lengthOf 11 = .ok (.ireturn, 1) := by decide +kernel
theorem dX6_indexOf_0 : decode cX6_indexOf 0 = .ok (.aload_n 0, 1) := by decide +kernel
theorem dX6_indexOf_1 : decode cX6_indexOf 1 = .ok (.getfield 21, 3) := by decide +kernel
theorem dX6_indexOf_4 : decode cX6_indexOf 4 = .ok (.getfield 152, 3) := by decide +kernel
theorem dX6_indexOf_7 : decode cX6_indexOf 7 = .ok (.iload_n 1, 1) := by decide +kernel
theorem dX6_indexOf_8 : decode cX6_indexOf 8 = .ok (.invokevirtual 68, 3) := by decide +kernel
theorem dX6_indexOf_11 : decode cX6_indexOf 11 = .ok (.iload_n 2, 1) := by decide +kernel
theorem dX6_indexOf_12 : decode cX6_indexOf 12 = .ok (.iadd, 1) := by decide +kernel
theorem dX6_indexOf_13 : decode cX6_indexOf 13 = .ok (.ireturn, 1) := by decide +kernel
theorem dX6_letterIn_0 : decode cX6_letterIn 0 = .ok (.aload_n 0, 1) := by decide +kernel
theorem dX6_letterIn_1 : decode cX6_letterIn 1 = .ok (.getfield 12, 3) := by decide +kernel
theorem dX6_letterIn_4 : decode cX6_letterIn 4 = .ok (.getfield 155, 3) := by decide +kernel
theorem dX6_letterIn_7 : decode cX6_letterIn 7 = .ok (.aload_n 0, 1) := by decide +kernel
theorem dX6_letterIn_8 : decode cX6_letterIn 8 = .ok (.iload_n 1, 1) := by decide +kernel
theorem dX6_letterIn_9 : decode cX6_letterIn 9 = .ok (.iload_n 2, 1) := by decide +kernel
theorem dX6_letterIn_10 : decode cX6_letterIn 10 = .ok (.invokevirtual 158, 3) := by decide +kernel
theorem dX6_letterIn_13 : decode cX6_letterIn 13 = .ok (.invokevirtual 68, 3) := by decide +kernel
theorem dX6_letterIn_16 : decode cX6_letterIn 16 = .ok (.ireturn, 1) := by decide +kernel
theorem dX6_isRight_0 : decode cX6_isRight 0 = .ok (.aload_n 0, 1) := by decide +kernel
theorem dX6_isRight_1 : decode cX6_isRight 1 = .ok (.iload_n 1, 1) := by decide +kernel
theorem dX6_isRight_2 : decode cX6_isRight 2 = .ok (.iconst 0, 1) := by decide +kernel
theorem dX6_isRight_3 : decode cX6_isRight 3 = .ok (.invokevirtual 140, 3) := by decide +kernel
theorem dX6_isRight_6 : decode cX6_isRight 6 = .ok (.istore_n 2, 1) := by decide +kernel
theorem dX6_isRight_7 : decode cX6_isRight 7 = .ok (.iload_n 2, 1) := by decide +kernel
theorem dX6_isRight_8 : decode cX6_isRight 8 = .ok (.iconst (-1), 1) := by decide +kernel
theorem dX6_isRight_9 : decode cX6_isRight 9 = .ok (.if_icmp .eq 17, 3) := by decide +kernel
theorem dX6_isRight_12 : decode cX6_isRight 12 = .ok (.aload_n 0, 1) := by decide +kernel
theorem dX6_isRight_13 : decode cX6_isRight 13 = .ok (.iload_n 1, 1) := by decide +kernel
theorem dX6_isRight_14 : decode cX6_isRight 14 = .ok (.iconst 0, 1) := by decide +kernel
theorem dX6_isRight_15 : decode cX6_isRight 15 = .ok (.iload_n 2, 1) := by decide +kernel
theorem dX6_isRight_16 : decode cX6_isRight 16 = .ok (.invokevirtual 161, 3) := by decide +kernel
theorem dX6_isRight_19 : decode cX6_isRight 19 = .ok (.ifCond .eq 7, 3) := by decide +kernel
theorem dX6_isRight_22 : decode cX6_isRight 22 = .ok (.iconst 1, 1) := by decide +kernel
theorem dX6_isRight_23 : decode cX6_isRight 23 = .ok (.goto 4, 3) := by decide +kernel
theorem dX6_isRight_26 : decode cX6_isRight 26 = .ok (.iconst 0, 1) := by decide +kernel
theorem dX6_isRight_27 : decode cX6_isRight 27 = .ok (.ireturn, 1) := by decide +kernel
theorem dX6_isRightWith_0 : decode cX6_isRightWith 0 = .ok (.aload_n 0, 1) := by decide +kernel
theorem dX6_isRightWith_1 : decode cX6_isRightWith 1 = .ok (.iload_n 1, 1) := by decide +kernel
theorem dX6_isRightWith_2 : decode cX6_isRightWith 2 = .ok (.iload_n 2, 1) := by decide +kernel
theorem dX6_isRightWith_3 : decode cX6_isRightWith 3 = .ok (.invokevirtual 140, 3) := by decide +kernel
theorem dX6_isRightWith_6 : decode cX6_isRightWith 6 = .ok (.istore 4, 2) := by decide +kernel
theorem dX6_isRightWith_8 : decode cX6_isRightWith 8 = .ok (.aload_n 0, 1) := by decide +kernel
theorem dX6_isRightWith_9 : decode cX6_isRightWith 9 = .ok (.getfield 21, 3) := by decide +kernel
theorem dX6_isRightWith_12 : decode cX6_isRightWith 12 = .ok (.getfield 143, 3) := by decide +kernel
theorem dX6_isRightWith_15 : decode cX6_isRightWith 15 = .ok (.iload_n 1, 1) := by decide +kernel
theorem dX6_isRightWith_16 : decode cX6_isRightWith 16 = .ok (.invokevirtual 68, 3) := by decide +kernel
theorem dX6_isRightWith_19 : decode cX6_isRightWith 19 = .ok (.iload 4, 2) := by decide +kernel
theorem dX6_isRightWith_21 : decode cX6_isRightWith 21 = .ok (.iconst (-1), 1) := by decide +kernel
theorem dX6_isRightWith_22 : decode cX6_isRightWith 22 = .ok (.if_icmp .ne 7, 3) := by decide +kernel
theorem dX6_isRightWith_25 : decode cX6_isRightWith 25 = .ok (.iconst 1, 1) := by decide +kernel
theorem dX6_isRightWith_26 : decode cX6_isRightWith 26 = .ok (.goto 4, 3) := by decide +kernel
theorem dX6_isRightWith_29 : decode cX6_isRightWith 29 = .ok (.iconst 0, 1) := by decide +kernel
theorem dX6_isRightWith_30 : decode cX6_isRightWith 30 = .ok (.isub, 1) := by decide +kernel
theorem dX6_isRightWith_31 : decode cX6_isRightWith 31 = .ok (.istore 5, 2) := by decide +kernel
theorem dX6_isRightWith_33 : decode cX6_isRightWith 33 = .ok (.aload_n 0, 1) := by decide +kernel
theorem dX6_isRightWith_34 : decode cX6_isRightWith 34 = .ok (.iload_n 1, 1) := by decide +kernel
theorem dX6_isRightWith_35 : decode cX6_isRightWith 35 = .ok (.invokevirtual 131, 3) := by decide +kernel
theorem dX6_isRightWith_38 : decode cX6_isRightWith 38 = .ok (.iconst 1, 1) := by decide +kernel
theorem dX6_isRightWith_39 : decode cX6_isRightWith 39 = .ok (.isub, 1) := by decide +kernel
theorem dX6_isRightWith_40 : decode cX6_isRightWith 40 = .ok (.istore 6, 2) := by decide +kernel
theorem dX6_isRightWith_42 : decode cX6_isRightWith 42 = .ok (.iload 5, 2) := by decide +kernel
theorem dX6_isRightWith_44 : decode cX6_isRightWith 44 = .ok (.ifCond .gt 9, 3) := by decide +kernel
theorem dX6_isRightWith_47 : decode cX6_isRightWith 47 = .ok (.iload 6, 2) := by decide +kernel
theorem dX6_isRightWith_49 : decode cX6_isRightWith 49 = .ok (.iconst 1, 1) := by decide +kernel
theorem dX6_isRightWith_50 : decode cX6_isRightWith 50 = .ok (.if_icmp .ge 5, 3) := by decide +kernel
theorem dX6_isRightWith_53 : decode cX6_isRightWith 53 = .ok (.iconst 0, 1) := by decide +kernel
theorem dX6_isRightWith_54 : decode cX6_isRightWith 54 = .ok (.ireturn, 1) := by decide +kernel
theorem dX6_isRightWith_55 : decode cX6_isRightWith 55 = .ok (.iload_n 2, 1) := by decide +kernel
theorem dX6_isRightWith_56 : decode cX6_isRightWith 56 = .ok (.iload 6, 2) := by decide +kernel
theorem dX6_isRightWith_58 : decode cX6_isRightWith 58 = .ok (.if_icmp .ne 7, 3) := by decide +kernel
theorem dX6_isRightWith_61 : decode cX6_isRightWith 61 = .ok (.iload_n 3, 1) := by decide +kernel
theorem dX6_isRightWith_62 : decode cX6_isRightWith 62 = .ok (.goto 10, 3) := by decide +kernel
theorem dX6_isRightWith_65 : decode cX6_isRightWith 65 = .ok (.aload_n 0, 1) := by decide +kernel
theorem dX6_isRightWith_66 : decode cX6_isRightWith 66 = .ok (.iload_n 1, 1) := by decide +kernel
theorem dX6_isRightWith_67 : decode cX6_isRightWith 67 = .ok (.iload 6, 2) := by decide +kernel
theorem dX6_isRightWith_69 : decode cX6_isRightWith 69 = .ok (.invokevirtual 140, 3) := by decide +kernel
theorem dX6_isRightWith_72 : decode cX6_isRightWith 72 = .ok (.istore 7, 2) := by decide +kernel
theorem dX6_isRightWith_74 : decode cX6_isRightWith 74 = .ok (.aload_n 0, 1) := by decide +kernel
theorem dX6_isRightWith_75 : decode cX6_isRightWith 75 = .ok (.getfield 21, 3) := by decide +kernel
theorem dX6_isRightWith_78 : decode cX6_isRightWith 78 = .ok (.getfield 149, 3) := by decide +kernel
theorem dX6_isRightWith_81 : decode cX6_isRightWith 81 = .ok (.iload_n 1, 1) := by decide +kernel
theorem dX6_isRightWith_82 : decode cX6_isRightWith 82 = .ok (.invokevirtual 68, 3) := by decide +kernel
theorem dX6_isRightWith_85 : decode cX6_isRightWith 85 = .ok (.iload 4, 2) := by decide +kernel
theorem dX6_isRightWith_87 : decode cX6_isRightWith 87 = .ok (.iconst (-1), 1) := by decide +kernel
theorem dX6_isRightWith_88 : decode cX6_isRightWith 88 = .ok (.if_icmp .ne 7, 3) := by decide +kernel
theorem dX6_isRightWith_91 : decode cX6_isRightWith 91 = .ok (.iconst 0, 1) := by decide +kernel
theorem dX6_isRightWith_92 : decode cX6_isRightWith 92 = .ok (.goto 5, 3) := by decide +kernel
theorem dX6_isRightWith_95 : decode cX6_isRightWith 95 = .ok (.iload 4, 2) := by decide +kernel
theorem dX6_isRightWith_97 : decode cX6_isRightWith 97 = .ok (.isub, 1) := by decide +kernel
theorem dX6_isRightWith_98 : decode cX6_isRightWith 98 = .ok (.iload_n 3, 1) := by decide +kernel
theorem dX6_isRightWith_99 : decode cX6_isRightWith 99 = .ok (.iadd, 1) := by decide +kernel
theorem dX6_isRightWith_100 : decode cX6_isRightWith 100 = .ok (.istore 8, 2) := by decide +kernel
theorem dX6_isRightWith_102 : decode cX6_isRightWith 102 = .ok (.iload 8, 2) := by decide +kernel
theorem dX6_isRightWith_104 : decode cX6_isRightWith 104 = .ok (.iload 7, 2) := by decide +kernel
theorem dX6_isRightWith_106 : decode cX6_isRightWith 106 = .ok (.isub, 1) := by decide +kernel
theorem dX6_isRightWith_107 : decode cX6_isRightWith 107 = .ok (.bipush 25, 2) := by decide +kernel
theorem dX6_isRightWith_109 : decode cX6_isRightWith 109 = .ok (.irem, 1) := by decide +kernel
theorem dX6_isRightWith_110 : decode cX6_isRightWith 110 = .ok (.iload 7, 2) := by decide +kernel
theorem dX6_isRightWith_112 : decode cX6_isRightWith 112 = .ok (.if_icmp .ne 7, 3) := by decide +kernel
theorem dX6_isRightWith_115 : decode cX6_isRightWith 115 = .ok (.iconst 1, 1) := by decide +kernel
theorem dX6_isRightWith_116 : decode cX6_isRightWith 116 = .ok (.goto 4, 3) := by decide +kernel
theorem dX6_isRightWith_119 : decode cX6_isRightWith 119 = .ok (.iconst 0, 1) := by decide +kernel
theorem dX6_isRightWith_120 : decode cX6_isRightWith 120 = .ok (.ireturn, 1) := by decide +kernel
theorem dX6_rightOnes_0 : decode cX6_rightOnes 0 = .ok (.iconst 0, 1) := by decide +kernel
theorem dX6_rightOnes_1 : decode cX6_rightOnes 1 = .ok (.istore_n 1, 1) := by decide +kernel
theorem dX6_rightOnes_2 : decode cX6_rightOnes 2 = .ok (.iconst 0, 1) := by decide +kernel
theorem dX6_rightOnes_3 : decode cX6_rightOnes 3 = .ok (.istore_n 2, 1) := by decide +kernel
theorem dX6_rightOnes_4 : decode cX6_rightOnes 4 = .ok (.iload_n 2, 1) := by decide +kernel
theorem dX6_rightOnes_5 : decode cX6_rightOnes 5 = .ok (.aload_n 0, 1) := by decide +kernel
theorem dX6_rightOnes_6 : decode cX6_rightOnes 6 = .ok (.getfield 21, 3) := by decide +kernel
theorem dX6_rightOnes_9 : decode cX6_rightOnes 9 = .ok (.getfield 57, 3) := by decide +kernel
theorem dX6_rightOnes_12 : decode cX6_rightOnes 12 = .ok (.if_icmp .ge 20, 3) := by decide +kernel
theorem dX6_rightOnes_15 : decode cX6_rightOnes 15 = .ok (.aload_n 0, 1) := by decide +kernel
theorem dX6_rightOnes_16 : decode cX6_rightOnes 16 = .ok (.iload_n 2, 1) := by decide +kernel
theorem dX6_rightOnes_17 : decode cX6_rightOnes 17 = .ok (.invokevirtual 165, 3) := by decide +kernel
theorem dX6_rightOnes_20 : decode cX6_rightOnes 20 = .ok (.ifCond .eq 6, 3) := by decide +kernel
theorem dX6_rightOnes_23 : decode cX6_rightOnes 23 = .ok (.iinc 1 1, 3) := by decide +kernel
theorem dX6_rightOnes_26 : decode cX6_rightOnes 26 = .ok (.iinc 2 1, 3) := by decide +kernel
theorem dX6_rightOnes_29 : decode cX6_rightOnes 29 = .ok (.goto (-25), 3) := by decide +kernel
theorem dX6_rightOnes_32 : decode cX6_rightOnes 32 = .ok (.iload_n 1, 1) := by decide +kernel
theorem dX6_rightOnes_33 : decode cX6_rightOnes 33 = .ok (.ireturn, 1) := by decide +kernel
theorem dX7_init_0 : decode cX7_init 0 = .ok (.aload_n 0, 1) := by decide +kernel
theorem dX7_init_1 : decode cX7_init 1 = .ok (.invokespecial 1, 3) := by decide +kernel
theorem dX7_init_4 : decode cX7_init 4 = .ok (.aload_n 0, 1) := by decide +kernel
theorem dX7_init_5 : decode cX7_init 5 = .ok (.iload_n 1, 1) := by decide +kernel
theorem dX7_init_6 : decode cX7_init 6 = .ok (.ifCond .le 7, 3) := by decide +kernel
theorem dX7_init_9 : decode cX7_init 9 = .ok (.iload_n 1, 1) := by decide +kernel
theorem dX7_init_10 : decode cX7_init 10 = .ok (.goto 4, 3) := by decide +kernel
theorem dX7_init_13 : decode cX7_init 13 = .ok (.iconst 0, 1) := by decide +kernel
theorem dX7_init_14 : decode cX7_init 14 = .ok (.newarray .int, 2) := by decide +kernel
theorem dX7_init_16 : decode cX7_init 16 = .ok (.putfield 7, 3) := by decide +kernel
theorem dX7_init_19 : decode cX7_init 19 = .ok (.return_, 1) := by decide +kernel
theorem dX7_at_0 : decode cX7_at 0 = .ok (.iload_n 1, 1) := by decide +kernel
theorem dX7_at_1 : decode cX7_at 1 = .ok (.ifCond .lt 21, 3) := by decide +kernel
theorem dX7_at_4 : decode cX7_at 4 = .ok (.iload_n 1, 1) := by decide +kernel
theorem dX7_at_5 : decode cX7_at 5 = .ok (.aload_n 0, 1) := by decide +kernel
theorem dX7_at_6 : decode cX7_at 6 = .ok (.getfield 7, 3) := by decide +kernel
theorem dX7_at_9 : decode cX7_at 9 = .ok (.arraylength, 1) := by decide +kernel
theorem dX7_at_10 : decode cX7_at 10 = .ok (.if_icmp .ge 12, 3) := by decide +kernel
theorem dX7_at_13 : decode cX7_at 13 = .ok (.aload_n 0, 1) := by decide +kernel
theorem dX7_at_14 : decode cX7_at 14 = .ok (.getfield 7, 3) := by decide +kernel
theorem dX7_at_17 : decode cX7_at 17 = .ok (.iload_n 1, 1) := by decide +kernel
theorem dX7_at_18 : decode cX7_at 18 = .ok (.iaload, 1) := by decide +kernel
theorem dX7_at_19 : decode cX7_at 19 = .ok (.goto 4, 3) := by decide +kernel
theorem dX7_at_22 : decode cX7_at 22 = .ok (.iconst 0, 1) := by decide +kernel
theorem dX7_at_23 : decode cX7_at 23 = .ok (.ireturn, 1) := by decide +kernel
theorem dX7_put_0 : decode cX7_put 0 = .ok (.iload_n 1, 1) := by decide +kernel
theorem dX7_put_1 : decode cX7_put 1 = .ok (.ifCond .lt 19, 3) := by decide +kernel
theorem dX7_put_4 : decode cX7_put 4 = .ok (.iload_n 1, 1) := by decide +kernel
theorem dX7_put_5 : decode cX7_put 5 = .ok (.aload_n 0, 1) := by decide +kernel
theorem dX7_put_6 : decode cX7_put 6 = .ok (.getfield 7, 3) := by decide +kernel
theorem dX7_put_9 : decode cX7_put 9 = .ok (.arraylength, 1) := by decide +kernel
theorem dX7_put_10 : decode cX7_put 10 = .ok (.if_icmp .ge 10, 3) := by decide +kernel
theorem dX7_put_13 : decode cX7_put 13 = .ok (.aload_n 0, 1) := by decide +kernel
theorem dX7_put_14 : decode cX7_put 14 = .ok (.getfield 7, 3) := by decide +kernel
theorem dX7_put_17 : decode cX7_put 17 = .ok (.iload_n 1, 1) := by decide +kernel
theorem dX7_put_18 : decode cX7_put 18 = .ok (.iload_n 2, 1) := by decide +kernel
theorem dX7_put_19 : decode cX7_put 19 = .ok (.iastore, 1) := by decide +kernel
theorem dX7_put_20 : decode cX7_put 20 = .ok (.return_, 1) := by decide +kernel
theorem dX7_add_0 : decode cX7_add 0 = .ok (.aload_n 0, 1) := by decide +kernel
theorem dX7_add_1 : decode cX7_add 1 = .ok (.iload_n 1, 1) := by decide +kernel
theorem dX7_add_2 : decode cX7_add 2 = .ok (.aload_n 0, 1) := by decide +kernel
theorem dX7_add_3 : decode cX7_add 3 = .ok (.iload_n 1, 1) := by decide +kernel
theorem dX7_add_4 : decode cX7_add 4 = .ok (.invokevirtual 13, 3) := by decide +kernel
theorem dX7_add_7 : decode cX7_add 7 = .ok (.iload_n 2, 1) := by decide +kernel
theorem dX7_add_8 : decode cX7_add 8 = .ok (.iadd, 1) := by decide +kernel
theorem dX7_add_9 : decode cX7_add 9 = .ok (.invokevirtual 17, 3) := by decide +kernel
theorem dX7_add_12 : decode cX7_add 12 = .ok (.return_, 1) := by decide +kernel
theorem dX7_copy_0 : decode cX7_copy 0 = .ok (.iconst 0, 1) := by decide +kernel
theorem dX7_copy_1 : decode cX7_copy 1 = .ok (.istore_n 3, 1) := by decide +kernel
theorem dX7_copy_2 : decode cX7_copy 2 = .ok (.iload_n 3, 1) := by decide +kernel
theorem dX7_copy_3 : decode cX7_copy 3 = .ok (.iload_n 2, 1) := by decide +kernel
theorem dX7_copy_4 : decode cX7_copy 4 = .ok (.if_icmp .ge 19, 3) := by decide +kernel
theorem dX7_copy_7 : decode cX7_copy 7 = .ok (.aload_n 0, 1) := by decide +kernel
theorem dX7_copy_8 : decode cX7_copy 8 = .ok (.iload_n 3, 1) := by decide +kernel
theorem dX7_copy_9 : decode cX7_copy 9 = .ok (.aload_n 1, 1) := by decide +kernel
theorem dX7_copy_10 : decode cX7_copy 10 = .ok (.iload_n 3, 1) := by decide +kernel
theorem dX7_copy_11 : decode cX7_copy 11 = .ok (.invokevirtual 13, 3) := by decide +kernel
theorem dX7_copy_14 : decode cX7_copy 14 = .ok (.invokevirtual 17, 3) := by decide +kernel
theorem dX7_copy_17 : decode cX7_copy 17 = .ok (.iinc 3 1, 3) := by decide +kernel
theorem dX7_copy_20 : decode cX7_copy 20 = .ok (.goto (-18), 3) := by decide +kernel
theorem dX7_copy_23 : decode cX7_copy 23 = .ok (.return_, 1) := by decide +kernel
theorem dX8_init_0 : decode cX8_init 0 = .ok (.aload_n 0, 1) := by decide +kernel
theorem dX8_init_1 : decode cX8_init 1 = .ok (.invokespecial 3, 3) := by decide +kernel
theorem dX8_init_4 : decode cX8_init 4 = .ok (.aload_n 0, 1) := by decide +kernel
theorem dX8_init_5 : decode cX8_init 5 = .ok (.new 9, 3) := by decide +kernel
theorem dX8_init_8 : decode cX8_init 8 = .ok (.dup, 1) := by decide +kernel
theorem dX8_init_9 : decode cX8_init 9 = .ok (.sipush 160, 3) := by decide +kernel
theorem dX8_init_12 : decode cX8_init 12 = .ok (.invokespecial 11, 3) := by decide +kernel
theorem dX8_init_15 : decode cX8_init 15 = .ok (.putfield 14, 3) := by decide +kernel
theorem dX8_init_18 : decode cX8_init 18 = .ok (.aload_n 0, 1) := by decide +kernel
theorem dX8_init_19 : decode cX8_init 19 = .ok (.new 9, 3) := by decide +kernel
theorem dX8_init_22 : decode cX8_init 22 = .ok (.dup, 1) := by decide +kernel
theorem dX8_init_23 : decode cX8_init 23 = .ok (.bipush 25, 2) := by decide +kernel
theorem dX8_init_25 : decode cX8_init 25 = .ok (.invokespecial 11, 3) := by decide +kernel
theorem dX8_init_28 : decode cX8_init 28 = .ok (.putfield 20, 3) := by decide +kernel
theorem dX8_init_31 : decode cX8_init 31 = .ok (.aload_n 0, 1) := by decide +kernel
theorem dX8_init_32 : decode cX8_init 32 = .ok (.iconst 0, 1) := by decide +kernel
theorem dX8_init_33 : decode cX8_init 33 = .ok (.putfield 23, 3) := by decide +kernel
theorem dX8_init_36 : decode cX8_init 36 = .ok (.aload_n 0, 1) := by decide +kernel
theorem dX8_init_37 : decode cX8_init 37 = .ok (.bipush 8, 2) := by decide +kernel
theorem dX8_init_39 : decode cX8_init 39 = .ok (.putfield 27, 3) := by decide +kernel
theorem dX8_init_42 : decode cX8_init 42 = .ok (.aload_n 0, 1) := by decide +kernel
theorem dX8_init_43 : decode cX8_init 43 = .ok (.iconst 1, 1) := by decide +kernel
theorem dX8_init_44 : decode cX8_init 44 = .ok (.putfield 30, 3) := by decide +kernel
theorem dX8_init_47 : decode cX8_init 47 = .ok (.aload_n 0, 1) := by decide +kernel
theorem dX8_init_48 : decode cX8_init 48 = .ok (.iconst 0, 1) := by decide +kernel
theorem dX8_init_49 : decode cX8_init 49 = .ok (.putfield 33, 3) := by decide +kernel
theorem dX8_init_52 : decode cX8_init 52 = .ok (.iconst 0, 1) := by decide +kernel
theorem dX8_init_53 : decode cX8_init 53 = .ok (.istore_n 1, 1) := by decide +kernel
theorem dX8_init_54 : decode cX8_init 54 = .ok (.iload_n 1, 1) := by decide +kernel
theorem dX8_init_55 : decode cX8_init 55 = .ok (.bipush 25, 2) := by decide +kernel
theorem dX8_init_57 : decode cX8_init 57 = .ok (.if_icmp .ge 18, 3) := by decide +kernel
theorem dX8_init_60 : decode cX8_init 60 = .ok (.aload_n 0, 1) := by decide +kernel
theorem dX8_init_61 : decode cX8_init 61 = .ok (.getfield 20, 3) := by decide +kernel
theorem dX8_init_64 : decode cX8_init 64 = .ok (.iload_n 1, 1) := by decide +kernel
theorem dX8_init_65 : decode cX8_init 65 = .ok (.iload_n 1, 1) := by decide +kernel
theorem dX8_init_66 : decode cX8_init 66 = .ok (.invokevirtual 37, 3) := by decide +kernel
theorem dX8_init_69 : decode cX8_init 69 = .ok (.iinc 1 1, 3) := by decide +kernel
theorem dX8_init_72 : decode cX8_init 72 = .ok (.goto (-18), 3) := by decide +kernel
theorem dX8_init_75 : decode cX8_init 75 = .ok (.return_, 1) := by decide +kernel
theorem dX8_become_0 : decode cX8_become 0 = .ok (.aload_n 0, 1) := by decide +kernel
theorem dX8_become_1 : decode cX8_become 1 = .ok (.getfield 14, 3) := by decide +kernel
theorem dX8_become_4 : decode cX8_become 4 = .ok (.aload_n 1, 1) := by decide +kernel
theorem dX8_become_5 : decode cX8_become 5 = .ok (.getfield 14, 3) := by decide +kernel
theorem dX8_become_8 : decode cX8_become 8 = .ok (.aload_n 1, 1) := by decide +kernel
theorem dX8_become_9 : decode cX8_become 9 = .ok (.getfield 23, 3) := by decide +kernel
theorem dX8_become_12 : decode cX8_become 12 = .ok (.invokevirtual 41, 3) := by decide +kernel
theorem dX8_become_15 : decode cX8_become 15 = .ok (.aload_n 0, 1) := by decide +kernel
theorem dX8_become_16 : decode cX8_become 16 = .ok (.getfield 20, 3) := by decide +kernel
theorem dX8_become_19 : decode cX8_become 19 = .ok (.aload_n 1, 1) := by decide +kernel
theorem dX8_become_20 : decode cX8_become 20 = .ok (.getfield 20, 3) := by decide +kernel
theorem dX8_become_23 : decode cX8_become 23 = .ok (.bipush 25, 2) := by decide +kernel
theorem dX8_become_25 : decode cX8_become 25 = .ok (.invokevirtual 41, 3) := by decide +kernel
theorem dX8_become_28 : decode cX8_become 28 = .ok (.aload_n 0, 1) := by decide +kernel
theorem dX8_become_29 : decode cX8_become 29 = .ok (.aload_n 1, 1) := by decide +kernel
theorem dX8_become_30 : decode cX8_become 30 = .ok (.getfield 23, 3) := by decide +kernel
theorem dX8_become_33 : decode cX8_become 33 = .ok (.putfield 23, 3) := by decide +kernel
theorem dX8_become_36 : decode cX8_become 36 = .ok (.aload_n 0, 1) := by decide +kernel
theorem dX8_become_37 : decode cX8_become 37 = .ok (.aload_n 1, 1) := by decide +kernel
theorem dX8_become_38 : decode cX8_become 38 = .ok (.getfield 27, 3) := by decide +kernel
theorem dX8_become_41 : decode cX8_become 41 = .ok (.putfield 27, 3) := by decide +kernel
theorem dX8_become_44 : decode cX8_become 44 = .ok (.aload_n 0, 1) := by decide +kernel
theorem dX8_become_45 : decode cX8_become 45 = .ok (.aload_n 1, 1) := by decide +kernel
theorem dX8_become_46 : decode cX8_become 46 = .ok (.getfield 30, 3) := by decide +kernel
theorem dX8_become_49 : decode cX8_become 49 = .ok (.putfield 30, 3) := by decide +kernel
theorem dX8_become_52 : decode cX8_become 52 = .ok (.aload_n 0, 1) := by decide +kernel
theorem dX8_become_53 : decode cX8_become 53 = .ok (.aload_n 1, 1) := by decide +kernel
theorem dX8_become_54 : decode cX8_become 54 = .ok (.getfield 33, 3) := by decide +kernel
theorem dX8_become_57 : decode cX8_become 57 = .ok (.putfield 33, 3) := by decide +kernel
theorem dX8_become_60 : decode cX8_become 60 = .ok (.return_, 1) := by decide +kernel
theorem dX8_exchange_0 : decode cX8_exchange 0 = .ok (.aload_n 0, 1) := by decide +kernel
theorem dX8_exchange_1 : decode cX8_exchange 1 = .ok (.getfield 20, 3) := by decide +kernel
theorem dX8_exchange_4 : decode cX8_exchange 4 = .ok (.iload_n 1, 1) := by decide +kernel
theorem dX8_exchange_5 : decode cX8_exchange 5 = .ok (.invokevirtual 45, 3) := by decide +kernel
theorem dX8_exchange_8 : decode cX8_exchange 8 = .ok (.istore_n 3, 1) := by decide +kernel
theorem dX8_exchange_9 : decode cX8_exchange 9 = .ok (.aload_n 0, 1) := by decide +kernel
theorem dX8_exchange_10 : decode cX8_exchange 10 = .ok (.getfield 20, 3) := by decide +kernel
theorem dX8_exchange_13 : decode cX8_exchange 13 = .ok (.iload_n 1, 1) := by decide +kernel
theorem dX8_exchange_14 : decode cX8_exchange 14 = .ok (.aload_n 0, 1) := by decide +kernel
theorem dX8_exchange_15 : decode cX8_exchange 15 = .ok (.getfield 20, 3) := by decide +kernel
theorem dX8_exchange_18 : decode cX8_exchange 18 = .ok (.iload_n 2, 1) := by decide +kernel
theorem dX8_exchange_19 : decode cX8_exchange 19 = .ok (.invokevirtual 45, 3) := by decide +kernel
theorem dX8_exchange_22 : decode cX8_exchange 22 = .ok (.invokevirtual 37, 3) := by decide +kernel
theorem dX8_exchange_25 : decode cX8_exchange 25 = .ok (.aload_n 0, 1) := by decide +kernel
theorem dX8_exchange_26 : decode cX8_exchange 26 = .ok (.getfield 20, 3) := by decide +kernel
theorem dX8_exchange_29 : decode cX8_exchange 29 = .ok (.iload_n 2, 1) := by decide +kernel
theorem dX8_exchange_30 : decode cX8_exchange 30 = .ok (.iload_n 3, 1) := by decide +kernel
theorem dX8_exchange_31 : decode cX8_exchange 31 = .ok (.invokevirtual 37, 3) := by decide +kernel
theorem dX8_exchange_34 : decode cX8_exchange 34 = .ok (.return_, 1) := by decide +kernel
theorem dX8_rowOf_0 : decode cX8_rowOf 0 = .ok (.aload_n 0, 1) := by decide +kernel
theorem dX8_rowOf_1 : decode cX8_rowOf 1 = .ok (.getfield 20, 3) := by decide +kernel
theorem dX8_rowOf_4 : decode cX8_rowOf 4 = .ok (.iload_n 1, 1) := by decide +kernel
theorem dX8_rowOf_5 : decode cX8_rowOf 5 = .ok (.invokevirtual 45, 3) := by decide +kernel
theorem dX8_rowOf_8 : decode cX8_rowOf 8 = .ok (.iconst 5, 1) := by decide +kernel
theorem dX8_rowOf_9 : decode cX8_rowOf 9 = .ok (.idiv, 1) := by decide +kernel
theorem dX8_rowOf_10 : decode cX8_rowOf 10 = .ok (.iconst 1, 1) := by decide +kernel
theorem dX8_rowOf_11 : decode cX8_rowOf 11 = .ok (.iadd, 1) := by decide +kernel
theorem dX8_rowOf_12 : decode cX8_rowOf 12 = .ok (.ireturn, 1) := by decide +kernel
theorem dX8_columnOf_0 : decode cX8_columnOf 0 = .ok (.aload_n 0, 1) := by decide +kernel
theorem dX8_columnOf_1 : decode cX8_columnOf 1 = .ok (.getfield 20, 3) := by decide +kernel
theorem dX8_columnOf_4 : decode cX8_columnOf 4 = .ok (.iload_n 1, 1) := by decide +kernel
theorem dX8_columnOf_5 : decode cX8_columnOf 5 = .ok (.invokevirtual 45, 3) := by decide +kernel
theorem dX8_columnOf_8 : decode cX8_columnOf 8 = .ok (.iconst 5, 1) := by decide +kernel
theorem dX8_columnOf_9 : decode cX8_columnOf 9 = .ok (.irem, 1) := by decide +kernel
theorem dX8_columnOf_10 : decode cX8_columnOf 10 = .ok (.iconst 1, 1) := by decide +kernel
theorem dX8_columnOf_11 : decode cX8_columnOf 11 = .ok (.iadd, 1) := by decide +kernel
theorem dX8_columnOf_12 : decode cX8_columnOf 12 = .ok (.ireturn, 1) := by decide +kernel
theorem dX8_tablePlace_0 : decode cX8_tablePlace 0 = .ok (.bipush 10, 2) := by decide +kernel
theorem dX8_tablePlace_2 : decode cX8_tablePlace 2 = .ok (.aload_n 0, 1) := by decide +kernel
theorem dX8_tablePlace_3 : decode cX8_tablePlace 3 = .ok (.iload_n 1, 1) := by decide +kernel
theorem dX8_tablePlace_4 : decode cX8_tablePlace 4 = .ok (.invokevirtual 49, 3) := by decide +kernel
theorem dX8_tablePlace_7 : decode cX8_tablePlace 7 = .ok (.imul, 1) := by decide +kernel
theorem dX8_tablePlace_8 : decode cX8_tablePlace 8 = .ok (.aload_n 0, 1) := by decide +kernel
theorem dX8_tablePlace_9 : decode cX8_tablePlace 9 = .ok (.iload_n 1, 1) := by decide +kernel
theorem dX8_tablePlace_10 : decode cX8_tablePlace 10 = .ok (.invokevirtual 52, 3) := by decide +kernel
theorem dX8_tablePlace_13 : decode cX8_tablePlace 13 = .ok (.iadd, 1) := by decide +kernel
theorem dX8_tablePlace_14 : decode cX8_tablePlace 14 = .ok (.ireturn, 1) := by decide +kernel
theorem dX8_hasStroke_0 : decode cX8_hasStroke 0 = .ok (.iload_n 1, 1) := by decide +kernel
theorem dX8_hasStroke_1 : decode cX8_hasStroke 1 = .ok (.ifCond .lt 15, 3) := by decide +kernel
theorem dX8_hasStroke_4 : decode cX8_hasStroke 4 = .ok (.iload_n 1, 1) := by decide +kernel
theorem dX8_hasStroke_5 : decode cX8_hasStroke 5 = .ok (.aload_n 0, 1) := by decide +kernel
theorem dX8_hasStroke_6 : decode cX8_hasStroke 6 = .ok (.getfield 23, 3) := by decide +kernel
theorem dX8_hasStroke_9 : decode cX8_hasStroke 9 = .ok (.if_icmp .ge 7, 3) := by decide +kernel
theorem dX8_hasStroke_12 : decode cX8_hasStroke 12 = .ok (.iconst 1, 1) := by decide +kernel
theorem dX8_hasStroke_13 : decode cX8_hasStroke 13 = .ok (.goto 4, 3) := by decide +kernel
theorem dX8_hasStroke_16 : decode cX8_hasStroke 16 = .ok (.iconst 0, 1) := by decide +kernel
theorem dX8_hasStroke_17 : decode cX8_hasStroke 17 = .ok (.ireturn, 1) := by decide +kernel
theorem dX8_isFull_0 : decode cX8_isFull 0 = .ok (.aload_n 0, 1) := by decide +kernel
theorem dX8_isFull_1 : decode cX8_isFull 1 = .ok (.getfield 23, 3) := by decide +kernel
theorem dX8_isFull_4 : decode cX8_isFull 4 = .ok (.sipush 160, 3) := by decide +kernel
theorem dX8_isFull_7 : decode cX8_isFull 7 = .ok (.if_icmp .lt 7, 3) := by decide +kernel
theorem dX8_isFull_10 : decode cX8_isFull 10 = .ok (.iconst 1, 1) := by decide +kernel
theorem dX8_isFull_11 : decode cX8_isFull 11 = .ok (.goto 4, 3) := by decide +kernel
theorem dX8_isFull_14 : decode cX8_isFull 14 = .ok (.iconst 0, 1) := by decide +kernel
theorem dX8_isFull_15 : decode cX8_isFull 15 = .ok (.ireturn, 1) := by decide +kernel
theorem dX8_lastTime_0 : decode cX8_lastTime 0 = .ok (.aload_n 0, 1) := by decide +kernel
theorem dX8_lastTime_1 : decode cX8_lastTime 1 = .ok (.getfield 14, 3) := by decide +kernel
theorem dX8_lastTime_4 : decode cX8_lastTime 4 = .ok (.aload_n 0, 1) := by decide +kernel
theorem dX8_lastTime_5 : decode cX8_lastTime 5 = .ok (.getfield 23, 3) := by decide +kernel
theorem dX8_lastTime_8 : decode cX8_lastTime 8 = .ok (.iconst 1, 1) := by decide +kernel
theorem dX8_lastTime_9 : decode cX8_lastTime 9 = .ok (.isub, 1) := by decide +kernel
theorem dX8_lastTime_10 : decode cX8_lastTime 10 = .ok (.invokevirtual 45, 3) := by decide +kernel
theorem dX8_lastTime_13 : decode cX8_lastTime 13 = .ok (.ireturn, 1) := by decide +kernel
theorem dX8_strokesAhead_0 : decode cX8_strokesAhead 0 = .ok (.iconst 0, 1) := by decide +kernel
theorem dX8_strokesAhead_1 : decode cX8_strokesAhead 1 = .ok (.istore_n 2, 1) := by decide +kernel
theorem dX8_strokesAhead_2 : decode cX8_strokesAhead 2 = .ok (.iload_n 2, 1) := by decide +kernel
theorem dX8_strokesAhead_3 : decode cX8_strokesAhead 3 = .ok (.aload_n 0, 1) := by decide +kernel
theorem dX8_strokesAhead_4 : decode cX8_strokesAhead 4 = .ok (.getfield 23, 3) := by decide +kernel
theorem dX8_strokesAhead_7 : decode cX8_strokesAhead 7 = .ok (.if_icmp .ge 21, 3) := by decide +kernel
theorem dX8_strokesAhead_10 : decode cX8_strokesAhead 10 = .ok (.aload_n 0, 1) := by decide +kernel
theorem dX8_strokesAhead_11 : decode cX8_strokesAhead 11 = .ok (.getfield 14, 3) := by decide +kernel
theorem dX8_strokesAhead_14 : decode cX8_strokesAhead 14 = .ok (.iload_n 2, 1) := by decide +kernel
theorem dX8_strokesAhead_15 : decode cX8_strokesAhead 15 = .ok (.invokevirtual 45, 3) := by decide +kernel
theorem dX8_strokesAhead_18 : decode cX8_strokesAhead 18 = .ok (.iload_n 1, 1) := by decide +kernel
theorem dX8_strokesAhead_19 : decode cX8_strokesAhead 19 = .ok (.if_icmp .ge 9, 3) := by decide +kernel
theorem dX8_strokesAhead_22 : decode cX8_strokesAhead 22 = .ok (.iinc 2 1, 3) := by decide +kernel
theorem dX8_strokesAhead_25 : decode cX8_strokesAhead 25 = .ok (.goto (-23), 3) := by decide +kernel
theorem dX8_strokesAhead_28 : decode cX8_strokesAhead 28 = .ok (.iload_n 2, 1) := by decide +kernel
theorem dX8_strokesAhead_29 : decode cX8_strokesAhead 29 = .ok (.ireturn, 1) := by decide +kernel
theorem dX8_hasStrokeAt_0 : decode cX8_hasStrokeAt 0 = .ok (.aload_n 0, 1) := by decide +kernel
theorem dX8_hasStrokeAt_1 : decode cX8_hasStrokeAt 1 = .ok (.iload_n 1, 1) := by decide +kernel
theorem dX8_hasStrokeAt_2 : decode cX8_hasStrokeAt 2 = .ok (.invokevirtual 55, 3) := by decide +kernel
theorem dX8_hasStrokeAt_5 : decode cX8_hasStrokeAt 5 = .ok (.istore_n 2, 1) := by decide +kernel
theorem dX8_hasStrokeAt_6 : decode cX8_hasStrokeAt 6 = .ok (.iload_n 2, 1) := by decide +kernel
theorem dX8_hasStrokeAt_7 : decode cX8_hasStrokeAt 7 = .ok (.aload_n 0, 1) := by decide +kernel
theorem dX8_hasStrokeAt_8 : decode cX8_hasStrokeAt 8 = .ok (.getfield 23, 3) := by decide +kernel
theorem dX8_hasStrokeAt_11 : decode cX8_hasStrokeAt 11 = .ok (.if_icmp .ge 19, 3) := by decide +kernel
theorem dX8_hasStrokeAt_14 : decode cX8_hasStrokeAt 14 = .ok (.aload_n 0, 1) := by decide +kernel
theorem dX8_hasStrokeAt_15 : decode cX8_hasStrokeAt 15 = .ok (.getfield 14, 3) := by decide +kernel
theorem dX8_hasStrokeAt_18 : decode cX8_hasStrokeAt 18 = .ok (.iload_n 2, 1) := by decide +kernel
theorem dX8_hasStrokeAt_19 : decode cX8_hasStrokeAt 19 = .ok (.invokevirtual 45, 3) := by decide +kernel
theorem dX8_hasStrokeAt_22 : decode cX8_hasStrokeAt 22 = .ok (.iload_n 1, 1) := by decide +kernel
theorem dX8_hasStrokeAt_23 : decode cX8_hasStrokeAt 23 = .ok (.if_icmp .ne 7, 3) := by decide +kernel
theorem dX8_hasStrokeAt_26 : decode cX8_hasStrokeAt 26 = .ok (.iconst 1, 1) := by decide +kernel
theorem dX8_hasStrokeAt_27 : decode cX8_hasStrokeAt 27 = .ok (.goto 4, 3) := by decide +kernel
theorem dX8_hasStrokeAt_30 : decode cX8_hasStrokeAt 30 = .ok (.iconst 0, 1) := by decide +kernel
theorem dX8_hasStrokeAt_31 : decode cX8_hasStrokeAt 31 = .ok (.ireturn, 1) := by decide +kernel
theorem dX8_addStroke_0 : decode cX8_addStroke 0 = .ok (.aload_n 0, 1) := by decide +kernel
theorem dX8_addStroke_1 : decode cX8_addStroke 1 = .ok (.iload_n 1, 1) := by decide +kernel
theorem dX8_addStroke_2 : decode cX8_addStroke 2 = .ok (.invokevirtual 55, 3) := by decide +kernel
theorem dX8_addStroke_5 : decode cX8_addStroke 5 = .ok (.istore_n 2, 1) := by decide +kernel
theorem dX8_addStroke_6 : decode cX8_addStroke 6 = .ok (.aload_n 0, 1) := by decide +kernel
theorem dX8_addStroke_7 : decode cX8_addStroke 7 = .ok (.getfield 23, 3) := by decide +kernel
theorem dX8_addStroke_10 : decode cX8_addStroke 10 = .ok (.istore_n 3, 1) := by decide +kernel
theorem dX8_addStroke_11 : decode cX8_addStroke 11 = .ok (.iload_n 3, 1) := by decide +kernel
theorem dX8_addStroke_12 : decode cX8_addStroke 12 = .ok (.iload_n 2, 1) := by decide +kernel
theorem dX8_addStroke_13 : decode cX8_addStroke 13 = .ok (.if_icmp .le 27, 3) := by decide +kernel
theorem dX8_addStroke_16 : decode cX8_addStroke 16 = .ok (.aload_n 0, 1) := by decide +kernel
theorem dX8_addStroke_17 : decode cX8_addStroke 17 = .ok (.getfield 14, 3) := by decide +kernel
theorem dX8_addStroke_20 : decode cX8_addStroke 20 = .ok (.iload_n 3, 1) := by decide +kernel
theorem dX8_addStroke_21 : decode cX8_addStroke 21 = .ok (.aload_n 0, 1) := by decide +kernel
theorem dX8_addStroke_22 : decode cX8_addStroke 22 = .ok (.getfield 14, 3) := by decide +kernel
theorem dX8_addStroke_25 : decode cX8_addStroke 25 = .ok (.iload_n 3, 1) := by decide +kernel
theorem dX8_addStroke_26 : decode cX8_addStroke 26 = .ok (.iconst 1, 1) := by decide +kernel
theorem dX8_addStroke_27 : decode cX8_addStroke 27 = .ok (.isub, 1) := by decide +kernel
theorem dX8_addStroke_28 : decode cX8_addStroke 28 = .ok (.invokevirtual 45, 3) := by decide +kernel
theorem dX8_addStroke_31 : decode cX8_addStroke 31 = .ok (.invokevirtual 37, 3) := by decide +kernel
theorem dX8_addStroke_34 : decode cX8_addStroke 34 = .ok (.iinc 3 (-1), 3) := by decide +kernel
theorem dX8_addStroke_37 : decode cX8_addStroke 37 = .ok (.goto (-26), 3) := by decide +kernel
theorem dX8_addStroke_40 : decode cX8_addStroke 40 = .ok (.aload_n 0, 1) := by decide +kernel
theorem dX8_addStroke_41 : decode cX8_addStroke 41 = .ok (.getfield 14, 3) := by decide +kernel
theorem dX8_addStroke_44 : decode cX8_addStroke 44 = .ok (.iload_n 2, 1) := by decide +kernel
theorem dX8_addStroke_45 : decode cX8_addStroke 45 = .ok (.iload_n 1, 1) := by decide +kernel
theorem dX8_addStroke_46 : decode cX8_addStroke 46 = .ok (.invokevirtual 37, 3) := by decide +kernel
theorem dX8_addStroke_49 : decode cX8_addStroke 49 = .ok (.aload_n 0, 1) := by decide +kernel
theorem dX8_addStroke_50 : decode cX8_addStroke 50 = .ok (.dup, 1) := by decide +kernel
theorem dX8_addStroke_51 : decode cX8_addStroke 51 = .ok (.getfield 23, 3) := by decide +kernel
theorem dX8_addStroke_54 : decode cX8_addStroke 54 = .ok (.iconst 1, 1) := by decide +kernel
theorem dX8_addStroke_55 : decode cX8_addStroke 55 = .ok (.iadd, 1) := by decide +kernel
theorem dX8_addStroke_56 : decode cX8_addStroke 56 = .ok (.putfield 23, 3) := by decide +kernel
theorem dX8_addStroke_59 : decode cX8_addStroke 59 = .ok (.iload_n 2, 1) := by decide +kernel
theorem dX8_addStroke_60 : decode cX8_addStroke 60 = .ok (.ireturn, 1) := by decide +kernel
theorem dX8_removeStroke_0 : decode cX8_removeStroke 0 = .ok (.iload_n 1, 1) := by decide +kernel
theorem dX8_removeStroke_1 : decode cX8_removeStroke 1 = .ok (.istore_n 2, 1) := by decide +kernel
theorem dX8_removeStroke_2 : decode cX8_removeStroke 2 = .ok (.iload_n 2, 1) := by decide +kernel
theorem dX8_removeStroke_3 : decode cX8_removeStroke 3 = .ok (.aload_n 0, 1) := by decide +kernel
theorem dX8_removeStroke_4 : decode cX8_removeStroke 4 = .ok (.getfield 23, 3) := by decide +kernel
theorem dX8_removeStroke_7 : decode cX8_removeStroke 7 = .ok (.iconst 1, 1) := by decide +kernel
theorem dX8_removeStroke_8 : decode cX8_removeStroke 8 = .ok (.isub, 1) := by decide +kernel
theorem dX8_removeStroke_9 : decode cX8_removeStroke 9 = .ok (.if_icmp .ge 27, 3) := by decide +kernel
theorem dX8_removeStroke_12 : decode cX8_removeStroke 12 = .ok (.aload_n 0, 1) := by decide +kernel
theorem dX8_removeStroke_13 : decode cX8_removeStroke 13 = .ok (.getfield 14, 3) := by decide +kernel
theorem dX8_removeStroke_16 : decode cX8_removeStroke 16 = .ok (.iload_n 2, 1) := by decide +kernel
theorem dX8_removeStroke_17 : decode cX8_removeStroke 17 = .ok (.aload_n 0, 1) := by decide +kernel
theorem dX8_removeStroke_18 : decode cX8_removeStroke 18 = .ok (.getfield 14, 3) := by decide +kernel
theorem dX8_removeStroke_21 : decode cX8_removeStroke 21 = .ok (.iload_n 2, 1) := by decide +kernel
theorem dX8_removeStroke_22 : decode cX8_removeStroke 22 = .ok (.iconst 1, 1) := by decide +kernel
theorem dX8_removeStroke_23 : decode cX8_removeStroke 23 = .ok (.iadd, 1) := by decide +kernel
theorem dX8_removeStroke_24 : decode cX8_removeStroke 24 = .ok (.invokevirtual 45, 3) := by decide +kernel
theorem dX8_removeStroke_27 : decode cX8_removeStroke 27 = .ok (.invokevirtual 37, 3) := by decide +kernel
theorem dX8_removeStroke_30 : decode cX8_removeStroke 30 = .ok (.iinc 2 1, 3) := by decide +kernel
theorem dX8_removeStroke_33 : decode cX8_removeStroke 33 = .ok (.goto (-31), 3) := by decide +kernel
theorem dX8_removeStroke_36 : decode cX8_removeStroke 36 = .ok (.aload_n 0, 1) := by decide +kernel
theorem dX8_removeStroke_37 : decode cX8_removeStroke 37 = .ok (.dup, 1) := by decide +kernel
theorem dX8_removeStroke_38 : decode cX8_removeStroke 38 = .ok (.getfield 23, 3) := by decide +kernel
theorem dX8_removeStroke_41 : decode cX8_removeStroke 41 = .ok (.iconst 1, 1) := by decide +kernel
theorem dX8_removeStroke_42 : decode cX8_removeStroke 42 = .ok (.isub, 1) := by decide +kernel
theorem dX8_removeStroke_43 : decode cX8_removeStroke 43 = .ok (.putfield 23, 3) := by decide +kernel
theorem dX8_removeStroke_46 : decode cX8_removeStroke 46 = .ok (.return_, 1) := by decide +kernel
theorem dX8_nextTime_0 : decode cX8_nextTime 0 = .ok (.aload_n 0, 1) := by decide +kernel
theorem dX8_nextTime_1 : decode cX8_nextTime 1 = .ok (.getfield 23, 3) := by decide +kernel
theorem dX8_nextTime_4 : decode cX8_nextTime 4 = .ok (.ifCond .ne 7, 3) := by decide +kernel
theorem dX8_nextTime_7 : decode cX8_nextTime 7 = .ok (.iconst 0, 1) := by decide +kernel
theorem dX8_nextTime_8 : decode cX8_nextTime 8 = .ok (.goto 36, 3) := by decide +kernel
theorem dX8_nextTime_11 : decode cX8_nextTime 11 = .ok (.aload_n 0, 1) := by decide +kernel
theorem dX8_nextTime_12 : decode cX8_nextTime 12 = .ok (.getfield 14, 3) := by decide +kernel
theorem dX8_nextTime_15 : decode cX8_nextTime 15 = .ok (.aload_n 0, 1) := by decide +kernel
theorem dX8_nextTime_16 : decode cX8_nextTime 16 = .ok (.getfield 23, 3) := by decide +kernel
theorem dX8_nextTime_19 : decode cX8_nextTime 19 = .ok (.iconst 1, 1) := by decide +kernel
theorem dX8_nextTime_20 : decode cX8_nextTime 20 = .ok (.isub, 1) := by decide +kernel
theorem dX8_nextTime_21 : decode cX8_nextTime 21 = .ok (.invokevirtual 45, 3) := by decide +kernel
theorem dX8_nextTime_24 : decode cX8_nextTime 24 = .ok (.aload_n 0, 1) := by decide +kernel
theorem dX8_nextTime_25 : decode cX8_nextTime 25 = .ok (.getfield 33, 3) := by decide +kernel
theorem dX8_nextTime_28 : decode cX8_nextTime 28 = .ok (.ifCond .eq 8, 3) := by decide +kernel
theorem dX8_nextTime_31 : decode cX8_nextTime 31 = .ok (.bipush 12, 2) := by decide +kernel
theorem dX8_nextTime_33 : decode cX8_nextTime 33 = .ok (.goto 5, 3) := by decide +kernel
theorem dX8_nextTime_36 : decode cX8_nextTime 36 = .ok (.bipush 6, 2) := by decide +kernel
theorem dX8_nextTime_38 : decode cX8_nextTime 38 = .ok (.aload_n 0, 1) := by decide +kernel
theorem dX8_nextTime_39 : decode cX8_nextTime 39 = .ok (.getfield 27, 3) := by decide +kernel
theorem dX8_nextTime_42 : decode cX8_nextTime 42 = .ok (.imul, 1) := by decide +kernel
theorem dX8_nextTime_43 : decode cX8_nextTime 43 = .ok (.iadd, 1) := by decide +kernel
theorem dX8_nextTime_44 : decode cX8_nextTime 44 = .ok (.ireturn, 1) := by decide +kernel
theorem dX8_hasRoomFor_0 : decode cX8_hasRoomFor 0 = .ok (.aload_n 0, 1) := by decide +kernel
theorem dX8_hasRoomFor_1 : decode cX8_hasRoomFor 1 = .ok (.iload_n 1, 1) := by decide +kernel
theorem dX8_hasRoomFor_2 : decode cX8_hasRoomFor 2 = .ok (.invokevirtual 49, 3) := by decide +kernel
theorem dX8_hasRoomFor_5 : decode cX8_hasRoomFor 5 = .ok (.aload_n 0, 1) := by decide +kernel
theorem dX8_hasRoomFor_6 : decode cX8_hasRoomFor 6 = .ok (.iload_n 1, 1) := by decide +kernel
theorem dX8_hasRoomFor_7 : decode cX8_hasRoomFor 7 = .ok (.invokevirtual 52, 3) := by decide +kernel
theorem dX8_hasRoomFor_10 : decode cX8_hasRoomFor 10 = .ok (.iadd, 1) := by decide +kernel
theorem dX8_hasRoomFor_11 : decode cX8_hasRoomFor 11 = .ok (.istore_n 2, 1) := by decide +kernel
theorem dX8_hasRoomFor_12 : decode cX8_hasRoomFor 12 = .ok (.aload_n 0, 1) := by decide +kernel
theorem dX8_hasRoomFor_13 : decode cX8_hasRoomFor 13 = .ok (.invokevirtual 58, 3) := by decide +kernel
theorem dX8_hasRoomFor_16 : decode cX8_hasRoomFor 16 = .ok (.iload_n 2, 1) := by decide +kernel
theorem dX8_hasRoomFor_17 : decode cX8_hasRoomFor 17 = .ok (.iconst 1, 1) := by decide +kernel
theorem dX8_hasRoomFor_18 : decode cX8_hasRoomFor 18 = .ok (.iadd, 1) := by decide +kernel
theorem dX8_hasRoomFor_19 : decode cX8_hasRoomFor 19 = .ok (.aload_n 0, 1) := by decide +kernel
theorem dX8_hasRoomFor_20 : decode cX8_hasRoomFor 20 = .ok (.getfield 27, 3) := by decide +kernel
theorem dX8_hasRoomFor_23 : decode cX8_hasRoomFor 23 = .ok (.imul, 1) := by decide +kernel
theorem dX8_hasRoomFor_24 : decode cX8_hasRoomFor 24 = .ok (.iadd, 1) := by decide +kernel
theorem dX8_hasRoomFor_25 : decode cX8_hasRoomFor 25 = .ok (.istore_n 3, 1) := by decide +kernel
theorem dX8_hasRoomFor_26 : decode cX8_hasRoomFor 26 = .ok (.aload_n 0, 1) := by decide +kernel
theorem dX8_hasRoomFor_27 : decode cX8_hasRoomFor 27 = .ok (.getfield 23, 3) := by decide +kernel
theorem dX8_hasRoomFor_30 : decode cX8_hasRoomFor 30 = .ok (.iload_n 2, 1) := by decide +kernel
theorem dX8_hasRoomFor_31 : decode cX8_hasRoomFor 31 = .ok (.iadd, 1) := by decide +kernel
theorem dX8_hasRoomFor_32 : decode cX8_hasRoomFor 32 = .ok (.sipush 160, 3) := by decide +kernel
theorem dX8_hasRoomFor_35 : decode cX8_hasRoomFor 35 = .ok (.if_icmp .gt 14, 3) := by decide +kernel
theorem dX8_hasRoomFor_38 : decode cX8_hasRoomFor 38 = .ok (.iload_n 3, 1) := by decide +kernel
theorem dX8_hasRoomFor_39 : decode cX8_hasRoomFor 39 = .ok (.sipush 9999, 3) := by decide +kernel
theorem dX8_hasRoomFor_42 : decode cX8_hasRoomFor 42 = .ok (.if_icmp .gt 7, 3) := by decide +kernel
theorem dX8_hasRoomFor_45 : decode cX8_hasRoomFor 45 = .ok (.iconst 1, 1) := by decide +kernel
theorem dX8_hasRoomFor_46 : decode cX8_hasRoomFor 46 = .ok (.goto 4, 3) := by decide +kernel
theorem dX8_hasRoomFor_49 : decode cX8_hasRoomFor 49 = .ok (.iconst 0, 1) := by decide +kernel
theorem dX8_hasRoomFor_50 : decode cX8_hasRoomFor 50 = .ok (.ireturn, 1) := by decide +kernel
theorem dX8_ringLetter_0 : decode cX8_ringLetter 0 = .ok (.aload_n 0, 1) := by decide +kernel
theorem dX8_ringLetter_1 : decode cX8_ringLetter 1 = .ok (.invokevirtual 58, 3) := by decide +kernel
theorem dX8_ringLetter_4 : decode cX8_ringLetter 4 = .ok (.istore_n 2, 1) := by decide +kernel
theorem dX8_ringLetter_5 : decode cX8_ringLetter 5 = .ok (.aload_n 0, 1) := by decide +kernel
theorem dX8_ringLetter_6 : decode cX8_ringLetter 6 = .ok (.iload_n 1, 1) := by decide +kernel
theorem dX8_ringLetter_7 : decode cX8_ringLetter 7 = .ok (.invokevirtual 49, 3) := by decide +kernel
theorem dX8_ringLetter_10 : decode cX8_ringLetter 10 = .ok (.istore_n 3, 1) := by decide +kernel
theorem dX8_ringLetter_11 : decode cX8_ringLetter 11 = .ok (.aload_n 0, 1) := by decide +kernel
theorem dX8_ringLetter_12 : decode cX8_ringLetter 12 = .ok (.iload_n 2, 1) := by decide +kernel
theorem dX8_ringLetter_13 : decode cX8_ringLetter 13 = .ok (.iload_n 3, 1) := by decide +kernel
theorem dX8_ringLetter_14 : decode cX8_ringLetter 14 = .ok (.invokevirtual 62, 3) := by decide +kernel
theorem dX8_ringLetter_17 : decode cX8_ringLetter 17 = .ok (.aload_n 0, 1) := by decide +kernel
theorem dX8_ringLetter_18 : decode cX8_ringLetter 18 = .ok (.iload_n 2, 1) := by decide +kernel
theorem dX8_ringLetter_19 : decode cX8_ringLetter 19 = .ok (.iload_n 3, 1) := by decide +kernel
theorem dX8_ringLetter_20 : decode cX8_ringLetter 20 = .ok (.iconst 2, 1) := by decide +kernel
theorem dX8_ringLetter_21 : decode cX8_ringLetter 21 = .ok (.iadd, 1) := by decide +kernel
theorem dX8_ringLetter_22 : decode cX8_ringLetter 22 = .ok (.aload_n 0, 1) := by decide +kernel
theorem dX8_ringLetter_23 : decode cX8_ringLetter 23 = .ok (.getfield 27, 3) := by decide +kernel
theorem dX8_ringLetter_26 : decode cX8_ringLetter 26 = .ok (.imul, 1) := by decide +kernel
theorem dX8_ringLetter_27 : decode cX8_ringLetter 27 = .ok (.iadd, 1) := by decide +kernel
theorem dX8_ringLetter_28 : decode cX8_ringLetter 28 = .ok (.aload_n 0, 1) := by decide +kernel
theorem dX8_ringLetter_29 : decode cX8_ringLetter 29 = .ok (.iload_n 1, 1) := by decide +kernel
theorem dX8_ringLetter_30 : decode cX8_ringLetter 30 = .ok (.invokevirtual 52, 3) := by decide +kernel
theorem dX8_ringLetter_33 : decode cX8_ringLetter 33 = .ok (.invokevirtual 62, 3) := by decide +kernel
theorem dX8_ringLetter_36 : decode cX8_ringLetter 36 = .ok (.aload_n 0, 1) := by decide +kernel
theorem dX8_ringLetter_37 : decode cX8_ringLetter 37 = .ok (.iconst 0, 1) := by decide +kernel
theorem dX8_ringLetter_38 : decode cX8_ringLetter 38 = .ok (.putfield 33, 3) := by decide +kernel
theorem dX8_ringLetter_41 : decode cX8_ringLetter 41 = .ok (.return_, 1) := by decide +kernel
theorem dX8_ringGroup_0 : decode cX8_ringGroup 0 = .ok (.iconst 0, 1) := by decide +kernel
theorem dX8_ringGroup_1 : decode cX8_ringGroup 1 = .ok (.istore_n 3, 1) := by decide +kernel
theorem dX8_ringGroup_2 : decode cX8_ringGroup 2 = .ok (.iload_n 3, 1) := by decide +kernel
theorem dX8_ringGroup_3 : decode cX8_ringGroup 3 = .ok (.iload_n 2, 1) := by decide +kernel
theorem dX8_ringGroup_4 : decode cX8_ringGroup 4 = .ok (.if_icmp .ge 38, 3) := by decide +kernel
theorem dX8_ringGroup_7 : decode cX8_ringGroup 7 = .ok (.aload_n 0, 1) := by decide +kernel
theorem dX8_ringGroup_8 : decode cX8_ringGroup 8 = .ok (.getfield 14, 3) := by decide +kernel
theorem dX8_ringGroup_11 : decode cX8_ringGroup 11 = .ok (.aload_n 0, 1) := by decide +kernel
theorem dX8_ringGroup_12 : decode cX8_ringGroup 12 = .ok (.getfield 23, 3) := by decide +kernel
theorem dX8_ringGroup_15 : decode cX8_ringGroup 15 = .ok (.iload_n 1, 1) := by decide +kernel
theorem dX8_ringGroup_16 : decode cX8_ringGroup 16 = .ok (.iload_n 3, 1) := by decide +kernel
theorem dX8_ringGroup_17 : decode cX8_ringGroup 17 = .ok (.aload_n 0, 1) := by decide +kernel
theorem dX8_ringGroup_18 : decode cX8_ringGroup 18 = .ok (.getfield 27, 3) := by decide +kernel
theorem dX8_ringGroup_21 : decode cX8_ringGroup 21 = .ok (.imul, 1) := by decide +kernel
theorem dX8_ringGroup_22 : decode cX8_ringGroup 22 = .ok (.iadd, 1) := by decide +kernel
theorem dX8_ringGroup_23 : decode cX8_ringGroup 23 = .ok (.invokevirtual 37, 3) := by decide +kernel
theorem dX8_ringGroup_26 : decode cX8_ringGroup 26 = .ok (.aload_n 0, 1) := by decide +kernel
theorem dX8_ringGroup_27 : decode cX8_ringGroup 27 = .ok (.dup, 1) := by decide +kernel
theorem dX8_ringGroup_28 : decode cX8_ringGroup 28 = .ok (.getfield 23, 3) := by decide +kernel
theorem dX8_ringGroup_31 : decode cX8_ringGroup 31 = .ok (.iconst 1, 1) := by decide +kernel
theorem dX8_ringGroup_32 : decode cX8_ringGroup 32 = .ok (.iadd, 1) := by decide +kernel
theorem dX8_ringGroup_33 : decode cX8_ringGroup 33 = .ok (.putfield 23, 3) := by decide +kernel
theorem dX8_ringGroup_36 : decode cX8_ringGroup 36 = .ok (.iinc 3 1, 3) := by decide +kernel
theorem dX8_ringGroup_39 : decode cX8_ringGroup 39 = .ok (.goto (-37), 3) := by decide +kernel
theorem dX8_ringGroup_42 : decode cX8_ringGroup 42 = .ok (.return_, 1) := by decide +kernel
theorem dX9_init_0 : decode cX9_init 0 = .ok (.aload_n 0, 1) := by decide +kernel
theorem dX9_init_1 : decode cX9_init 1 = .ok (.invokespecial 1, 3) := by decide +kernel
theorem dX9_init_4 : decode cX9_init 4 = .ok (.aload_n 0, 1) := by decide +kernel
theorem dX9_init_5 : decode cX9_init 5 = .ok (.new 7, 3) := by decide +kernel
theorem dX9_init_8 : decode cX9_init 8 = .ok (.dup, 1) := by decide +kernel
theorem dX9_init_9 : decode cX9_init 9 = .ok (.invokespecial 9, 3) := by decide +kernel
theorem dX9_init_12 : decode cX9_init 12 = .ok (.putfield 10, 3) := by decide +kernel
theorem dX9_init_15 : decode cX9_init 15 = .ok (.aload_n 0, 1) := by decide +kernel
theorem dX9_init_16 : decode cX9_init 16 = .ok (.new 7, 3) := by decide +kernel
theorem dX9_init_19 : decode cX9_init 19 = .ok (.dup, 1) := by decide +kernel
theorem dX9_init_20 : decode cX9_init 20 = .ok (.invokespecial 9, 3) := by decide +kernel
theorem dX9_init_23 : decode cX9_init 23 = .ok (.putfield 16, 3) := by decide +kernel
theorem dX9_init_26 : decode cX9_init 26 = .ok (.aload_n 0, 1) := by decide +kernel
theorem dX9_init_27 : decode cX9_init 27 = .ok (.new 19, 3) := by decide +kernel
theorem dX9_init_30 : decode cX9_init 30 = .ok (.dup, 1) := by decide +kernel
theorem dX9_init_31 : decode cX9_init 31 = .ok (.invokespecial 21, 3) := by decide +kernel
theorem dX9_init_34 : decode cX9_init 34 = .ok (.putfield 22, 3) := by decide +kernel
theorem dX9_init_37 : decode cX9_init 37 = .ok (.aload_n 0, 1) := by decide +kernel
theorem dX9_init_38 : decode cX9_init 38 = .ok (.new 26, 3) := by decide +kernel
theorem dX9_init_41 : decode cX9_init 41 = .ok (.dup, 1) := by decide +kernel
theorem dX9_init_42 : decode cX9_init 42 = .ok (.invokespecial 28, 3) := by decide +kernel
theorem dX9_init_45 : decode cX9_init 45 = .ok (.putfield 29, 3) := by decide +kernel
theorem dX9_init_48 : decode cX9_init 48 = .ok (.aload_n 0, 1) := by decide +kernel
theorem dX9_init_49 : decode cX9_init 49 = .ok (.new 33, 3) := by decide +kernel
theorem dX9_init_52 : decode cX9_init 52 = .ok (.dup, 1) := by decide +kernel
theorem dX9_init_53 : decode cX9_init 53 = .ok (.invokespecial 35, 3) := by decide +kernel
theorem dX9_init_56 : decode cX9_init 56 = .ok (.putfield 36, 3) := by decide +kernel
theorem dX9_init_59 : decode cX9_init 59 = .ok (.aload_n 0, 1) := by decide +kernel
theorem dX9_init_60 : decode cX9_init 60 = .ok (.new 40, 3) := by decide +kernel
theorem dX9_init_63 : decode cX9_init 63 = .ok (.dup, 1) := by decide +kernel
theorem dX9_init_64 : decode cX9_init 64 = .ok (.invokespecial 42, 3) := by decide +kernel
theorem dX9_init_67 : decode cX9_init 67 = .ok (.putfield 43, 3) := by decide +kernel
theorem dX9_init_70 : decode cX9_init 70 = .ok (.aload_n 0, 1) := by decide +kernel
theorem dX9_init_71 : decode cX9_init 71 = .ok (.new 47, 3) := by decide +kernel
theorem dX9_init_74 : decode cX9_init 74 = .ok (.dup, 1) := by decide +kernel
theorem dX9_init_75 : decode cX9_init 75 = .ok (.invokespecial 49, 3) := by decide +kernel
theorem dX9_init_78 : decode cX9_init 78 = .ok (.putfield 50, 3) := by decide +kernel
theorem dX9_init_81 : decode cX9_init 81 = .ok (.return_, 1) := by decide +kernel
theorem dX9_set_0 : decode cX9_set 0 = .ok (.iload_n 1, 1) := by decide +kernel
theorem dX9_set_1 : decode cX9_set 1 = .ok (.ifCond .ne 54, 3) := by decide +kernel
theorem dX9_set_4 : decode cX9_set 4 = .ok (.iload_n 2, 1) := by decide +kernel
theorem dX9_set_5 : decode cX9_set 5 = .ok (.iconst 4, 1) := by decide +kernel
theorem dX9_set_6 : decode cX9_set 6 = .ok (.if_icmp .lt 49, 3) := by decide +kernel
theorem dX9_set_9 : decode cX9_set 9 = .ok (.iload_n 2, 1) := by decide +kernel
theorem dX9_set_10 : decode cX9_set 10 = .ok (.bipush 20, 2) := by decide +kernel
theorem dX9_set_12 : decode cX9_set 12 = .ok (.if_icmp .gt 43, 3) := by decide +kernel
theorem dX9_set_15 : decode cX9_set 15 = .ok (.aload_n 0, 1) := by decide +kernel
theorem dX9_set_16 : decode cX9_set 16 = .ok (.getfield 10, 3) := by decide +kernel
theorem dX9_set_19 : decode cX9_set 19 = .ok (.getfield 54, 3) := by decide +kernel
theorem dX9_set_22 : decode cX9_set 22 = .ok (.istore_n 3, 1) := by decide +kernel
theorem dX9_set_23 : decode cX9_set 23 = .ok (.aload_n 0, 1) := by decide +kernel
theorem dX9_set_24 : decode cX9_set 24 = .ok (.getfield 22, 3) := by decide +kernel
theorem dX9_set_27 : decode cX9_set 27 = .ok (.aload_n 0, 1) := by decide +kernel
theorem dX9_set_28 : decode cX9_set 28 = .ok (.getfield 10, 3) := by decide +kernel
theorem dX9_set_31 : decode cX9_set 31 = .ok (.invokevirtual 58, 3) := by decide +kernel
theorem dX9_set_34 : decode cX9_set 34 = .ok (.aload_n 0, 1) := by decide +kernel
theorem dX9_set_35 : decode cX9_set 35 = .ok (.getfield 10, 3) := by decide +kernel
theorem dX9_set_38 : decode cX9_set 38 = .ok (.iload_n 2, 1) := by decide +kernel
theorem dX9_set_39 : decode cX9_set 39 = .ok (.putfield 54, 3) := by decide +kernel
theorem dX9_set_42 : decode cX9_set 42 = .ok (.aload_n 0, 1) := by decide +kernel
theorem dX9_set_43 : decode cX9_set 43 = .ok (.getfield 29, 3) := by decide +kernel
theorem dX9_set_46 : decode cX9_set 46 = .ok (.aload_n 0, 1) := by decide +kernel
theorem dX9_set_47 : decode cX9_set 47 = .ok (.getfield 10, 3) := by decide +kernel
theorem dX9_set_50 : decode cX9_set 50 = .ok (.invokevirtual 62, 3) := by decide +kernel
theorem dX9_set_53 : decode cX9_set 53 = .ok (.iload_n 3, 1) := by decide +kernel
theorem dX9_set_54 : decode cX9_set 54 = .ok (.ireturn, 1) := by decide +kernel
theorem dX9_set_55 : decode cX9_set 55 = .ok (.iload_n 1, 1) := by decide +kernel
theorem dX9_set_56 : decode cX9_set 56 = .ok (.iconst 1, 1) := by decide +kernel
theorem dX9_set_57 : decode cX9_set 57 = .ok (.if_icmp .ne 52, 3) := by decide +kernel
theorem dX9_set_60 : decode cX9_set 60 = .ok (.iload_n 2, 1) := by decide +kernel
theorem dX9_set_61 : decode cX9_set 61 = .ok (.ifCond .lt 48, 3) := by decide +kernel
theorem dX9_set_64 : decode cX9_set 64 = .ok (.iload_n 2, 1) := by decide +kernel
theorem dX9_set_65 : decode cX9_set 65 = .ok (.iconst 3, 1) := by decide +kernel
theorem dX9_set_66 : decode cX9_set 66 = .ok (.if_icmp .gt 43, 3) := by decide +kernel
theorem dX9_set_69 : decode cX9_set 69 = .ok (.aload_n 0, 1) := by decide +kernel
theorem dX9_set_70 : decode cX9_set 70 = .ok (.getfield 10, 3) := by decide +kernel
theorem dX9_set_73 : decode cX9_set 73 = .ok (.getfield 65, 3) := by decide +kernel
theorem dX9_set_76 : decode cX9_set 76 = .ok (.istore_n 3, 1) := by decide +kernel
theorem dX9_set_77 : decode cX9_set 77 = .ok (.aload_n 0, 1) := by decide +kernel
theorem dX9_set_78 : decode cX9_set 78 = .ok (.getfield 22, 3) := by decide +kernel
theorem dX9_set_81 : decode cX9_set 81 = .ok (.aload_n 0, 1) := by decide +kernel
theorem dX9_set_82 : decode cX9_set 82 = .ok (.getfield 10, 3) := by decide +kernel
theorem dX9_set_85 : decode cX9_set 85 = .ok (.invokevirtual 58, 3) := by decide +kernel
theorem dX9_set_88 : decode cX9_set 88 = .ok (.aload_n 0, 1) := by decide +kernel
theorem dX9_set_89 : decode cX9_set 89 = .ok (.getfield 10, 3) := by decide +kernel
theorem dX9_set_92 : decode cX9_set 92 = .ok (.iload_n 2, 1) := by decide +kernel
theorem dX9_set_93 : decode cX9_set 93 = .ok (.putfield 65, 3) := by decide +kernel
theorem dX9_set_96 : decode cX9_set 96 = .ok (.aload_n 0, 1) := by decide +kernel
theorem dX9_set_97 : decode cX9_set 97 = .ok (.getfield 29, 3) := by decide +kernel
theorem dX9_set_100 : decode cX9_set 100 = .ok (.aload_n 0, 1) := by decide +kernel
theorem dX9_set_101 : decode cX9_set 101 = .ok (.getfield 10, 3) := by decide +kernel
theorem dX9_set_104 : decode cX9_set 104 = .ok (.invokevirtual 62, 3) := by decide +kernel
theorem dX9_set_107 : decode cX9_set 107 = .ok (.iload_n 3, 1) := by decide +kernel
theorem dX9_set_108 : decode cX9_set 108 = .ok (.ireturn, 1) := by decide +kernel
theorem dX9_set_109 : decode cX9_set 109 = .ok (.ldc 68, 2) := by decide +kernel
theorem dX9_set_111 : decode cX9_set 111 = .ok (.ireturn, 1) := by decide +kernel
theorem dX9_swap_0 : decode cX9_swap 0 = .ok (.iload_n 1, 1) := by decide +kernel
theorem dX9_swap_1 : decode cX9_swap 1 = .ok (.invokestatic 69, 3) := by decide +kernel
theorem dX9_swap_4 : decode cX9_swap 4 = .ok (.ifCond .eq 15, 3) := by decide +kernel
theorem dX9_swap_7 : decode cX9_swap 7 = .ok (.iload_n 2, 1) := by decide +kernel
theorem dX9_swap_8 : decode cX9_swap 8 = .ok (.invokestatic 69, 3) := by decide +kernel
theorem dX9_swap_11 : decode cX9_swap 11 = .ok (.ifCond .eq 8, 3) := by decide +kernel
theorem dX9_swap_14 : decode cX9_swap 14 = .ok (.iload_n 1, 1) := by decide +kernel
theorem dX9_swap_15 : decode cX9_swap 15 = .ok (.iload_n 2, 1) := by decide +kernel
theorem dX9_swap_16 : decode cX9_swap 16 = .ok (.if_icmp .ne 6, 3) := by decide +kernel
theorem dX9_swap_19 : decode cX9_swap 19 = .ok (.ldc 68, 2) := by decide +kernel
theorem dX9_swap_21 : decode cX9_swap 21 = .ok (.ireturn, 1) := by decide +kernel
theorem dX9_swap_22 : decode cX9_swap 22 = .ok (.aload_n 0, 1) := by decide +kernel
theorem dX9_swap_23 : decode cX9_swap 23 = .ok (.getfield 22, 3) := by decide +kernel
theorem dX9_swap_26 : decode cX9_swap 26 = .ok (.aload_n 0, 1) := by decide +kernel
theorem dX9_swap_27 : decode cX9_swap 27 = .ok (.getfield 10, 3) := by decide +kernel
theorem dX9_swap_30 : decode cX9_swap 30 = .ok (.invokevirtual 58, 3) := by decide +kernel
theorem dX9_swap_33 : decode cX9_swap 33 = .ok (.aload_n 0, 1) := by decide +kernel
theorem dX9_swap_34 : decode cX9_swap 34 = .ok (.getfield 10, 3) := by decide +kernel
theorem dX9_swap_37 : decode cX9_swap 37 = .ok (.iload_n 1, 1) := by decide +kernel
theorem dX9_swap_38 : decode cX9_swap 38 = .ok (.iload_n 2, 1) := by decide +kernel
theorem dX9_swap_39 : decode cX9_swap 39 = .ok (.invokevirtual 73, 3) := by decide +kernel
theorem dX9_swap_42 : decode cX9_swap 42 = .ok (.aload_n 0, 1) := by decide +kernel
theorem dX9_swap_43 : decode cX9_swap 43 = .ok (.getfield 29, 3) := by decide +kernel
theorem dX9_swap_46 : decode cX9_swap 46 = .ok (.aload_n 0, 1) := by decide +kernel
theorem dX9_swap_47 : decode cX9_swap 47 = .ok (.getfield 10, 3) := by decide +kernel
theorem dX9_swap_50 : decode cX9_swap 50 = .ok (.invokevirtual 62, 3) := by decide +kernel
theorem dX9_swap_53 : decode cX9_swap 53 = .ok (.aload_n 0, 1) := by decide +kernel
theorem dX9_swap_54 : decode cX9_swap 54 = .ok (.getfield 10, 3) := by decide +kernel
theorem dX9_swap_57 : decode cX9_swap 57 = .ok (.iload_n 1, 1) := by decide +kernel
theorem dX9_swap_58 : decode cX9_swap 58 = .ok (.invokevirtual 77, 3) := by decide +kernel
theorem dX9_swap_61 : decode cX9_swap 61 = .ok (.ireturn, 1) := by decide +kernel
theorem dX9_ring_0 : decode cX9_ring 0 = .ok (.iload_n 1, 1) := by decide +kernel
theorem dX9_ring_1 : decode cX9_ring 1 = .ok (.invokestatic 69, 3) := by decide +kernel
theorem dX9_ring_4 : decode cX9_ring 4 = .ok (.ifCond .ne 6, 3) := by decide +kernel
theorem dX9_ring_7 : decode cX9_ring 7 = .ok (.ldc 68, 2) := by decide +kernel
theorem dX9_ring_9 : decode cX9_ring 9 = .ok (.ireturn, 1) := by decide +kernel
theorem dX9_ring_10 : decode cX9_ring 10 = .ok (.aload_n 0, 1) := by decide +kernel
theorem dX9_ring_11 : decode cX9_ring 11 = .ok (.getfield 10, 3) := by decide +kernel
theorem dX9_ring_14 : decode cX9_ring 14 = .ok (.iload_n 1, 1) := by decide +kernel
theorem dX9_ring_15 : decode cX9_ring 15 = .ok (.invokevirtual 81, 3) := by decide +kernel
theorem dX9_ring_18 : decode cX9_ring 18 = .ok (.ifCond .ne 6, 3) := by decide +kernel
theorem dX9_ring_21 : decode cX9_ring 21 = .ok (.ldc 84, 2) := by decide +kernel
theorem dX9_ring_23 : decode cX9_ring 23 = .ok (.ireturn, 1) := by decide +kernel
theorem dX9_ring_24 : decode cX9_ring 24 = .ok (.aload_n 0, 1) := by decide +kernel
theorem dX9_ring_25 : decode cX9_ring 25 = .ok (.getfield 10, 3) := by decide +kernel
theorem dX9_ring_28 : decode cX9_ring 28 = .ok (.getfield 85, 3) := by decide +kernel
theorem dX9_ring_31 : decode cX9_ring 31 = .ok (.istore_n 2, 1) := by decide +kernel
theorem dX9_ring_32 : decode cX9_ring 32 = .ok (.aload_n 0, 1) := by decide +kernel
theorem dX9_ring_33 : decode cX9_ring 33 = .ok (.getfield 22, 3) := by decide +kernel
theorem dX9_ring_36 : decode cX9_ring 36 = .ok (.aload_n 0, 1) := by decide +kernel
theorem dX9_ring_37 : decode cX9_ring 37 = .ok (.getfield 10, 3) := by decide +kernel
theorem dX9_ring_40 : decode cX9_ring 40 = .ok (.invokevirtual 58, 3) := by decide +kernel
theorem dX9_ring_43 : decode cX9_ring 43 = .ok (.aload_n 0, 1) := by decide +kernel
theorem dX9_ring_44 : decode cX9_ring 44 = .ok (.getfield 10, 3) := by decide +kernel
theorem dX9_ring_47 : decode cX9_ring 47 = .ok (.iload_n 1, 1) := by decide +kernel
theorem dX9_ring_48 : decode cX9_ring 48 = .ok (.invokevirtual 88, 3) := by decide +kernel
theorem dX9_ring_51 : decode cX9_ring 51 = .ok (.aload_n 0, 1) := by decide +kernel
theorem dX9_ring_52 : decode cX9_ring 52 = .ok (.getfield 29, 3) := by decide +kernel
theorem dX9_ring_55 : decode cX9_ring 55 = .ok (.aload_n 0, 1) := by decide +kernel
theorem dX9_ring_56 : decode cX9_ring 56 = .ok (.getfield 10, 3) := by decide +kernel
theorem dX9_ring_59 : decode cX9_ring 59 = .ok (.invokevirtual 62, 3) := by decide +kernel
theorem dX9_ring_62 : decode cX9_ring 62 = .ok (.iload_n 2, 1) := by decide +kernel
theorem dX9_ring_63 : decode cX9_ring 63 = .ok (.ireturn, 1) := by decide +kernel
theorem dX9_pause_0 : decode cX9_pause 0 = .ok (.aload_n 0, 1) := by decide +kernel
theorem dX9_pause_1 : decode cX9_pause 1 = .ok (.getfield 10, 3) := by decide +kernel
theorem dX9_pause_4 : decode cX9_pause 4 = .ok (.getfield 92, 3) := by decide +kernel
theorem dX9_pause_7 : decode cX9_pause 7 = .ok (.ifCond .ne 13, 3) := by decide +kernel
theorem dX9_pause_10 : decode cX9_pause 10 = .ok (.aload_n 0, 1) := by decide +kernel
theorem dX9_pause_11 : decode cX9_pause 11 = .ok (.getfield 10, 3) := by decide +kernel
theorem dX9_pause_14 : decode cX9_pause 14 = .ok (.getfield 85, 3) := by decide +kernel
theorem dX9_pause_17 : decode cX9_pause 17 = .ok (.ifCond .ne 6, 3) := by decide +kernel
theorem dX9_pause_20 : decode cX9_pause 20 = .ok (.ldc 96, 2) := by decide +kernel
theorem dX9_pause_22 : decode cX9_pause 22 = .ok (.ireturn, 1) := by decide +kernel
theorem dX9_pause_23 : decode cX9_pause 23 = .ok (.aload_n 0, 1) := by decide +kernel
theorem dX9_pause_24 : decode cX9_pause 24 = .ok (.getfield 22, 3) := by decide +kernel
theorem dX9_pause_27 : decode cX9_pause 27 = .ok (.aload_n 0, 1) := by decide +kernel
theorem dX9_pause_28 : decode cX9_pause 28 = .ok (.getfield 10, 3) := by decide +kernel
theorem dX9_pause_31 : decode cX9_pause 31 = .ok (.invokevirtual 58, 3) := by decide +kernel
theorem dX9_pause_34 : decode cX9_pause 34 = .ok (.aload_n 0, 1) := by decide +kernel
theorem dX9_pause_35 : decode cX9_pause 35 = .ok (.getfield 10, 3) := by decide +kernel
theorem dX9_pause_38 : decode cX9_pause 38 = .ok (.iconst 1, 1) := by decide +kernel
theorem dX9_pause_39 : decode cX9_pause 39 = .ok (.putfield 92, 3) := by decide +kernel
theorem dX9_pause_42 : decode cX9_pause 42 = .ok (.aload_n 0, 1) := by decide +kernel
theorem dX9_pause_43 : decode cX9_pause 43 = .ok (.getfield 10, 3) := by decide +kernel
theorem dX9_pause_46 : decode cX9_pause 46 = .ok (.getfield 85, 3) := by decide +kernel
theorem dX9_pause_49 : decode cX9_pause 49 = .ok (.ireturn, 1) := by decide +kernel
theorem dX9_strike_0 : decode cX9_strike 0 = .ok (.iload_n 1, 1) := by decide +kernel
theorem dX9_strike_1 : decode cX9_strike 1 = .ok (.ifCond .lt 10, 3) := by decide +kernel
theorem dX9_strike_4 : decode cX9_strike 4 = .ok (.iload_n 1, 1) := by decide +kernel
theorem dX9_strike_5 : decode cX9_strike 5 = .ok (.sipush 9999, 3) := by decide +kernel
theorem dX9_strike_8 : decode cX9_strike 8 = .ok (.if_icmp .le 6, 3) := by decide +kernel
theorem dX9_strike_11 : decode cX9_strike 11 = .ok (.ldc 68, 2) := by decide +kernel
theorem dX9_strike_13 : decode cX9_strike 13 = .ok (.ireturn, 1) := by decide +kernel
theorem dX9_strike_14 : decode cX9_strike 14 = .ok (.aload_n 0, 1) := by decide +kernel
theorem dX9_strike_15 : decode cX9_strike 15 = .ok (.getfield 10, 3) := by decide +kernel
theorem dX9_strike_18 : decode cX9_strike 18 = .ok (.iload_n 1, 1) := by decide +kernel
theorem dX9_strike_19 : decode cX9_strike 19 = .ok (.invokevirtual 97, 3) := by decide +kernel
theorem dX9_strike_22 : decode cX9_strike 22 = .ok (.ifCond .eq 6, 3) := by decide +kernel
theorem dX9_strike_25 : decode cX9_strike 25 = .ok (.ldc 96, 2) := by decide +kernel
theorem dX9_strike_27 : decode cX9_strike 27 = .ok (.ireturn, 1) := by decide +kernel
theorem dX9_strike_28 : decode cX9_strike 28 = .ok (.aload_n 0, 1) := by decide +kernel
theorem dX9_strike_29 : decode cX9_strike 29 = .ok (.getfield 10, 3) := by decide +kernel
theorem dX9_strike_32 : decode cX9_strike 32 = .ok (.invokevirtual 100, 3) := by decide +kernel
theorem dX9_strike_35 : decode cX9_strike 35 = .ok (.ifCond .eq 6, 3) := by decide +kernel
theorem dX9_strike_38 : decode cX9_strike 38 = .ok (.ldc 84, 2) := by decide +kernel
theorem dX9_strike_40 : decode cX9_strike 40 = .ok (.ireturn, 1) := by decide +kernel
theorem dX9_strike_41 : decode cX9_strike 41 = .ok (.aload_n 0, 1) := by decide +kernel
theorem dX9_strike_42 : decode cX9_strike 42 = .ok (.getfield 22, 3) := by decide +kernel
theorem dX9_strike_45 : decode cX9_strike 45 = .ok (.aload_n 0, 1) := by decide +kernel
theorem dX9_strike_46 : decode cX9_strike 46 = .ok (.getfield 10, 3) := by decide +kernel
theorem dX9_strike_49 : decode cX9_strike 49 = .ok (.invokevirtual 58, 3) := by decide +kernel
theorem dX9_strike_52 : decode cX9_strike 52 = .ok (.aload_n 0, 1) := by decide +kernel
theorem dX9_strike_53 : decode cX9_strike 53 = .ok (.getfield 10, 3) := by decide +kernel
theorem dX9_strike_56 : decode cX9_strike 56 = .ok (.iload_n 1, 1) := by decide +kernel
theorem dX9_strike_57 : decode cX9_strike 57 = .ok (.invokevirtual 104, 3) := by decide +kernel
theorem dX9_strike_60 : decode cX9_strike 60 = .ok (.istore_n 2, 1) := by decide +kernel
theorem dX9_strike_61 : decode cX9_strike 61 = .ok (.aload_n 0, 1) := by decide +kernel
theorem dX9_strike_62 : decode cX9_strike 62 = .ok (.getfield 29, 3) := by decide +kernel
theorem dX9_strike_65 : decode cX9_strike 65 = .ok (.aload_n 0, 1) := by decide +kernel
theorem dX9_strike_66 : decode cX9_strike 66 = .ok (.getfield 10, 3) := by decide +kernel
theorem dX9_strike_69 : decode cX9_strike 69 = .ok (.invokevirtual 62, 3) := by decide +kernel
theorem dX9_strike_72 : decode cX9_strike 72 = .ok (.iload_n 2, 1) := by decide +kernel
theorem dX9_strike_73 : decode cX9_strike 73 = .ok (.ireturn, 1) := by decide +kernel
theorem dX9_mute_0 : decode cX9_mute 0 = .ok (.aload_n 0, 1) := by decide +kernel
theorem dX9_mute_1 : decode cX9_mute 1 = .ok (.getfield 10, 3) := by decide +kernel
theorem dX9_mute_4 : decode cX9_mute 4 = .ok (.iload_n 1, 1) := by decide +kernel
theorem dX9_mute_5 : decode cX9_mute 5 = .ok (.invokevirtual 107, 3) := by decide +kernel
theorem dX9_mute_8 : decode cX9_mute 8 = .ok (.ifCond .ne 6, 3) := by decide +kernel
theorem dX9_mute_11 : decode cX9_mute 11 = .ok (.ldc 68, 2) := by decide +kernel
theorem dX9_mute_13 : decode cX9_mute 13 = .ok (.ireturn, 1) := by decide +kernel
theorem dX9_mute_14 : decode cX9_mute 14 = .ok (.aload_n 0, 1) := by decide +kernel
theorem dX9_mute_15 : decode cX9_mute 15 = .ok (.getfield 10, 3) := by decide +kernel
theorem dX9_mute_18 : decode cX9_mute 18 = .ok (.getfield 110, 3) := by decide +kernel
theorem dX9_mute_21 : decode cX9_mute 21 = .ok (.iload_n 1, 1) := by decide +kernel
theorem dX9_mute_22 : decode cX9_mute 22 = .ok (.invokevirtual 114, 3) := by decide +kernel
theorem dX9_mute_25 : decode cX9_mute 25 = .ok (.istore_n 2, 1) := by decide +kernel
theorem dX9_mute_26 : decode cX9_mute 26 = .ok (.aload_n 0, 1) := by decide +kernel
theorem dX9_mute_27 : decode cX9_mute 27 = .ok (.getfield 22, 3) := by decide +kernel
theorem dX9_mute_30 : decode cX9_mute 30 = .ok (.aload_n 0, 1) := by decide +kernel
theorem dX9_mute_31 : decode cX9_mute 31 = .ok (.getfield 10, 3) := by decide +kernel
theorem dX9_mute_34 : decode cX9_mute 34 = .ok (.invokevirtual 58, 3) := by decide +kernel
theorem dX9_mute_37 : decode cX9_mute 37 = .ok (.aload_n 0, 1) := by decide +kernel
theorem dX9_mute_38 : decode cX9_mute 38 = .ok (.getfield 10, 3) := by decide +kernel
theorem dX9_mute_41 : decode cX9_mute 41 = .ok (.iload_n 1, 1) := by decide +kernel
theorem dX9_mute_42 : decode cX9_mute 42 = .ok (.invokevirtual 119, 3) := by decide +kernel
theorem dX9_mute_45 : decode cX9_mute 45 = .ok (.aload_n 0, 1) := by decide +kernel
theorem dX9_mute_46 : decode cX9_mute 46 = .ok (.getfield 29, 3) := by decide +kernel
theorem dX9_mute_49 : decode cX9_mute 49 = .ok (.aload_n 0, 1) := by decide +kernel
theorem dX9_mute_50 : decode cX9_mute 50 = .ok (.getfield 10, 3) := by decide +kernel
theorem dX9_mute_53 : decode cX9_mute 53 = .ok (.invokevirtual 62, 3) := by decide +kernel
theorem dX9_mute_56 : decode cX9_mute 56 = .ok (.iload_n 2, 1) := by decide +kernel
theorem dX9_mute_57 : decode cX9_mute 57 = .ok (.ireturn, 1) := by decide +kernel
theorem dX9_shift_0 : decode cX9_shift 0 = .ok (.aload_n 0, 1) := by decide +kernel
theorem dX9_shift_1 : decode cX9_shift 1 = .ok (.getfield 10, 3) := by decide +kernel
theorem dX9_shift_4 : decode cX9_shift 4 = .ok (.iload_n 1, 1) := by decide +kernel
theorem dX9_shift_5 : decode cX9_shift 5 = .ok (.invokevirtual 107, 3) := by decide +kernel
theorem dX9_shift_8 : decode cX9_shift 8 = .ok (.ifCond .eq 19, 3) := by decide +kernel
theorem dX9_shift_11 : decode cX9_shift 11 = .ok (.iload_n 2, 1) := by decide +kernel
theorem dX9_shift_12 : decode cX9_shift 12 = .ok (.ifCond .eq 15, 3) := by decide +kernel
theorem dX9_shift_15 : decode cX9_shift 15 = .ok (.iload_n 2, 1) := by decide +kernel
theorem dX9_shift_16 : decode cX9_shift 16 = .ok (.bipush (-99), 2) := by decide +kernel
theorem dX9_shift_18 : decode cX9_shift 18 = .ok (.if_icmp .lt 9, 3) := by decide +kernel
theorem dX9_shift_21 : decode cX9_shift 21 = .ok (.iload_n 2, 1) := by decide +kernel
theorem dX9_shift_22 : decode cX9_shift 22 = .ok (.bipush 99, 2) := by decide +kernel
theorem dX9_shift_24 : decode cX9_shift 24 = .ok (.if_icmp .le 6, 3) := by decide +kernel
theorem dX9_shift_27 : decode cX9_shift 27 = .ok (.ldc 68, 2) := by decide +kernel
theorem dX9_shift_29 : decode cX9_shift 29 = .ok (.ireturn, 1) := by decide +kernel
theorem dX9_shift_30 : decode cX9_shift 30 = .ok (.aload_n 0, 1) := by decide +kernel
theorem dX9_shift_31 : decode cX9_shift 31 = .ok (.getfield 10, 3) := by decide +kernel
theorem dX9_shift_34 : decode cX9_shift 34 = .ok (.getfield 110, 3) := by decide +kernel
theorem dX9_shift_37 : decode cX9_shift 37 = .ok (.iload_n 1, 1) := by decide +kernel
theorem dX9_shift_38 : decode cX9_shift 38 = .ok (.invokevirtual 114, 3) := by decide +kernel
theorem dX9_shift_41 : decode cX9_shift 41 = .ok (.iload_n 2, 1) := by decide +kernel
theorem dX9_shift_42 : decode cX9_shift 42 = .ok (.iadd, 1) := by decide +kernel
theorem dX9_shift_43 : decode cX9_shift 43 = .ok (.istore_n 3, 1) := by decide +kernel
theorem dX9_shift_44 : decode cX9_shift 44 = .ok (.iload_n 3, 1) := by decide +kernel
theorem dX9_shift_45 : decode cX9_shift 45 = .ok (.ifCond .lt 21, 3) := by decide +kernel
theorem dX9_shift_48 : decode cX9_shift 48 = .ok (.iload_n 3, 1) := by decide +kernel
theorem dX9_shift_49 : decode cX9_shift 49 = .ok (.sipush 9999, 3) := by decide +kernel
theorem dX9_shift_52 : decode cX9_shift 52 = .ok (.if_icmp .gt 14, 3) := by decide +kernel
theorem dX9_shift_55 : decode cX9_shift 55 = .ok (.aload_n 0, 1) := by decide +kernel
theorem dX9_shift_56 : decode cX9_shift 56 = .ok (.getfield 10, 3) := by decide +kernel
theorem dX9_shift_59 : decode cX9_shift 59 = .ok (.iload_n 3, 1) := by decide +kernel
theorem dX9_shift_60 : decode cX9_shift 60 = .ok (.invokevirtual 97, 3) := by decide +kernel
theorem dX9_shift_63 : decode cX9_shift 63 = .ok (.ifCond .eq 6, 3) := by decide +kernel
theorem dX9_shift_66 : decode cX9_shift 66 = .ok (.ldc 96, 2) := by decide +kernel
theorem dX9_shift_68 : decode cX9_shift 68 = .ok (.ireturn, 1) := by decide +kernel
theorem dX9_shift_69 : decode cX9_shift 69 = .ok (.aload_n 0, 1) := by decide +kernel
theorem dX9_shift_70 : decode cX9_shift 70 = .ok (.getfield 22, 3) := by decide +kernel
theorem dX9_shift_73 : decode cX9_shift 73 = .ok (.aload_n 0, 1) := by decide +kernel
theorem dX9_shift_74 : decode cX9_shift 74 = .ok (.getfield 10, 3) := by decide +kernel
theorem dX9_shift_77 : decode cX9_shift 77 = .ok (.invokevirtual 58, 3) := by decide +kernel
theorem dX9_shift_80 : decode cX9_shift 80 = .ok (.aload_n 0, 1) := by decide +kernel
theorem dX9_shift_81 : decode cX9_shift 81 = .ok (.getfield 10, 3) := by decide +kernel
theorem dX9_shift_84 : decode cX9_shift 84 = .ok (.iload_n 1, 1) := by decide +kernel
theorem dX9_shift_85 : decode cX9_shift 85 = .ok (.invokevirtual 119, 3) := by decide +kernel
theorem dX9_shift_88 : decode cX9_shift 88 = .ok (.aload_n 0, 1) := by decide +kernel
theorem dX9_shift_89 : decode cX9_shift 89 = .ok (.getfield 10, 3) := by decide +kernel
theorem dX9_shift_92 : decode cX9_shift 92 = .ok (.iload_n 3, 1) := by decide +kernel
theorem dX9_shift_93 : decode cX9_shift 93 = .ok (.invokevirtual 104, 3) := by decide +kernel
theorem dX9_shift_96 : decode cX9_shift 96 = .ok (.istore 4, 2) := by decide +kernel
theorem dX9_shift_98 : decode cX9_shift 98 = .ok (.aload_n 0, 1) := by decide +kernel
theorem dX9_shift_99 : decode cX9_shift 99 = .ok (.getfield 29, 3) := by decide +kernel
theorem dX9_shift_102 : decode cX9_shift 102 = .ok (.aload_n 0, 1) := by decide +kernel
theorem dX9_shift_103 : decode cX9_shift 103 = .ok (.getfield 10, 3) := by decide +kernel
theorem dX9_shift_106 : decode cX9_shift 106 = .ok (.invokevirtual 62, 3) := by decide +kernel
theorem dX9_shift_109 : decode cX9_shift 109 = .ok (.iload 4, 2) := by decide +kernel
theorem dX9_shift_111 : decode cX9_shift 111 = .ok (.ireturn, 1) := by decide +kernel
theorem dX9_strokeOf_0 : decode cX9_strokeOf 0 = .ok (.aload_n 0, 1) := by decide +kernel
theorem dX9_strokeOf_1 : decode cX9_strokeOf 1 = .ok (.getfield 10, 3) := by decide +kernel
theorem dX9_strokeOf_4 : decode cX9_strokeOf 4 = .ok (.iload_n 1, 1) := by decide +kernel
theorem dX9_strokeOf_5 : decode cX9_strokeOf 5 = .ok (.invokevirtual 107, 3) := by decide +kernel
theorem dX9_strokeOf_8 : decode cX9_strokeOf 8 = .ok (.ifCond .eq 13, 3) := by decide +kernel
theorem dX9_strokeOf_11 : decode cX9_strokeOf 11 = .ok (.iload_n 2, 1) := by decide +kernel
theorem dX9_strokeOf_12 : decode cX9_strokeOf 12 = .ok (.ifCond .lt 9, 3) := by decide +kernel
theorem dX9_strokeOf_15 : decode cX9_strokeOf 15 = .ok (.iload_n 2, 1) := by decide +kernel
theorem dX9_strokeOf_16 : decode cX9_strokeOf 16 = .ok (.bipush 6, 2) := by decide +kernel
theorem dX9_strokeOf_18 : decode cX9_strokeOf 18 = .ok (.if_icmp .le 6, 3) := by decide +kernel
theorem dX9_strokeOf_21 : decode cX9_strokeOf 21 = .ok (.ldc 68, 2) := by decide +kernel
theorem dX9_strokeOf_23 : decode cX9_strokeOf 23 = .ok (.ireturn, 1) := by decide +kernel
theorem dX9_strokeOf_24 : decode cX9_strokeOf 24 = .ok (.iload_n 2, 1) := by decide +kernel
theorem dX9_strokeOf_25 : decode cX9_strokeOf 25 = .ok (.ifCond .ne 15, 3) := by decide +kernel
theorem dX9_strokeOf_28 : decode cX9_strokeOf 28 = .ok (.aload_n 0, 1) := by decide +kernel
theorem dX9_strokeOf_29 : decode cX9_strokeOf 29 = .ok (.getfield 10, 3) := by decide +kernel
theorem dX9_strokeOf_32 : decode cX9_strokeOf 32 = .ok (.getfield 110, 3) := by decide +kernel
theorem dX9_strokeOf_35 : decode cX9_strokeOf 35 = .ok (.iload_n 1, 1) := by decide +kernel
theorem dX9_strokeOf_36 : decode cX9_strokeOf 36 = .ok (.invokevirtual 114, 3) := by decide +kernel
theorem dX9_strokeOf_39 : decode cX9_strokeOf 39 = .ok (.ireturn, 1) := by decide +kernel
theorem dX9_strokeOf_40 : decode cX9_strokeOf 40 = .ok (.iload_n 2, 1) := by decide +kernel
theorem dX9_strokeOf_41 : decode cX9_strokeOf 41 = .ok (.iconst 3, 1) := by decide +kernel
theorem dX9_strokeOf_42 : decode cX9_strokeOf 42 = .ok (.if_icmp .gt 22, 3) := by decide +kernel
theorem dX9_strokeOf_45 : decode cX9_strokeOf 45 = .ok (.iload_n 1, 1) := by decide +kernel
theorem dX9_strokeOf_46 : decode cX9_strokeOf 46 = .ok (.ifCond .ne 8, 3) := by decide +kernel
theorem dX9_strokeOf_49 : decode cX9_strokeOf 49 = .ok (.ldc 122, 2) := by decide +kernel
theorem dX9_strokeOf_51 : decode cX9_strokeOf 51 = .ok (.goto 12, 3) := by decide +kernel
theorem dX9_strokeOf_54 : decode cX9_strokeOf 54 = .ok (.aload_n 0, 1) := by decide +kernel
theorem dX9_strokeOf_55 : decode cX9_strokeOf 55 = .ok (.getfield 29, 3) := by decide +kernel
theorem dX9_strokeOf_58 : decode cX9_strokeOf 58 = .ok (.iload_n 1, 1) := by decide +kernel
theorem dX9_strokeOf_59 : decode cX9_strokeOf 59 = .ok (.iload_n 2, 1) := by decide +kernel
theorem dX9_strokeOf_60 : decode cX9_strokeOf 60 = .ok (.invokevirtual 123, 3) := by decide +kernel
theorem dX9_strokeOf_63 : decode cX9_strokeOf 63 = .ok (.ireturn, 1) := by decide +kernel
theorem dX9_strokeOf_64 : decode cX9_strokeOf 64 = .ok (.aload_n 0, 1) := by decide +kernel
theorem dX9_strokeOf_65 : decode cX9_strokeOf 65 = .ok (.getfield 29, 3) := by decide +kernel
theorem dX9_strokeOf_68 : decode cX9_strokeOf 68 = .ok (.iload_n 1, 1) := by decide +kernel
theorem dX9_strokeOf_69 : decode cX9_strokeOf 69 = .ok (.invokevirtual 127, 3) := by decide +kernel
theorem dX9_strokeOf_72 : decode cX9_strokeOf 72 = .ok (.ifCond .eq 8, 3) := by decide +kernel
theorem dX9_strokeOf_75 : decode cX9_strokeOf 75 = .ok (.ldc 122, 2) := by decide +kernel
theorem dX9_strokeOf_77 : decode cX9_strokeOf 77 = .ok (.goto 12, 3) := by decide +kernel
theorem dX9_strokeOf_80 : decode cX9_strokeOf 80 = .ok (.aload_n 0, 1) := by decide +kernel
theorem dX9_strokeOf_81 : decode cX9_strokeOf 81 = .ok (.getfield 29, 3) := by decide +kernel
theorem dX9_strokeOf_84 : decode cX9_strokeOf 84 = .ok (.iload_n 1, 1) := by decide +kernel
theorem dX9_strokeOf_85 : decode cX9_strokeOf 85 = .ok (.iload_n 2, 1) := by decide +kernel
theorem dX9_strokeOf_86 : decode cX9_strokeOf 86 = .ok (.invokevirtual 130, 3) := by decide +kernel
theorem dX9_strokeOf_89 : decode cX9_strokeOf 89 = .ok (.ireturn, 1) := by decide +kernel
theorem dX9_messageOf_0 : decode cX9_messageOf 0 = .ok (.aload_n 0, 1) := by decide +kernel
theorem dX9_messageOf_1 : decode cX9_messageOf 1 = .ok (.getfield 29, 3) := by decide +kernel
theorem dX9_messageOf_4 : decode cX9_messageOf 4 = .ok (.iload_n 1, 1) := by decide +kernel
theorem dX9_messageOf_5 : decode cX9_messageOf 5 = .ok (.invokevirtual 133, 3) := by decide +kernel
theorem dX9_messageOf_8 : decode cX9_messageOf 8 = .ok (.ifCond .ne 6, 3) := by decide +kernel
theorem dX9_messageOf_11 : decode cX9_messageOf 11 = .ok (.ldc 68, 2) := by decide +kernel
theorem dX9_messageOf_13 : decode cX9_messageOf 13 = .ok (.ireturn, 1) := by decide +kernel
theorem dX9_messageOf_14 : decode cX9_messageOf 14 = .ok (.iload_n 2, 1) := by decide +kernel
theorem dX9_messageOf_15 : decode cX9_messageOf 15 = .ok (.tableswitch 140 0 6 #[41, 50, 65, 82, 97, 110, 125], 41) := by decide +kernel
theorem dX9_messageOf_56 : decode cX9_messageOf 56 = .ok (.aload_n 0, 1) := by decide +kernel
theorem dX9_messageOf_57 : decode cX9_messageOf 57 = .ok (.getfield 29, 3) := by decide +kernel
theorem dX9_messageOf_60 : decode cX9_messageOf 60 = .ok (.iload_n 1, 1) := by decide +kernel
theorem dX9_messageOf_61 : decode cX9_messageOf 61 = .ok (.invokevirtual 136, 3) := by decide +kernel
theorem dX9_messageOf_64 : decode cX9_messageOf 64 = .ok (.ireturn, 1) := by decide +kernel
theorem dX9_messageOf_65 : decode cX9_messageOf 65 = .ok (.aload_n 0, 1) := by decide +kernel
theorem dX9_messageOf_66 : decode cX9_messageOf 66 = .ok (.getfield 29, 3) := by decide +kernel
theorem dX9_messageOf_69 : decode cX9_messageOf 69 = .ok (.getfield 139, 3) := by decide +kernel
theorem dX9_messageOf_72 : decode cX9_messageOf 72 = .ok (.getfield 143, 3) := by decide +kernel
theorem dX9_messageOf_75 : decode cX9_messageOf 75 = .ok (.iload_n 1, 1) := by decide +kernel
theorem dX9_messageOf_76 : decode cX9_messageOf 76 = .ok (.invokevirtual 114, 3) := by decide +kernel
theorem dX9_messageOf_79 : decode cX9_messageOf 79 = .ok (.ireturn, 1) := by decide +kernel
theorem dX9_messageOf_80 : decode cX9_messageOf 80 = .ok (.aload_n 0, 1) := by decide +kernel
theorem dX9_messageOf_81 : decode cX9_messageOf 81 = .ok (.getfield 29, 3) := by decide +kernel
theorem dX9_messageOf_84 : decode cX9_messageOf 84 = .ok (.iload_n 1, 1) := by decide +kernel
theorem dX9_messageOf_85 : decode cX9_messageOf 85 = .ok (.invokevirtual 148, 3) := by decide +kernel
theorem dX9_messageOf_88 : decode cX9_messageOf 88 = .ok (.ifCond .eq 7, 3) := by decide +kernel
theorem dX9_messageOf_91 : decode cX9_messageOf 91 = .ok (.iconst 1, 1) := by decide +kernel
theorem dX9_messageOf_92 : decode cX9_messageOf 92 = .ok (.goto 4, 3) := by decide +kernel
theorem dX9_messageOf_95 : decode cX9_messageOf 95 = .ok (.iconst 0, 1) := by decide +kernel
theorem dX9_messageOf_96 : decode cX9_messageOf 96 = .ok (.ireturn, 1) := by decide +kernel
theorem dX9_messageOf_97 : decode cX9_messageOf 97 = .ok (.aload_n 0, 1) := by decide +kernel
theorem dX9_messageOf_98 : decode cX9_messageOf 98 = .ok (.getfield 29, 3) := by decide +kernel
theorem dX9_messageOf_101 : decode cX9_messageOf 101 = .ok (.getfield 139, 3) := by decide +kernel
theorem dX9_messageOf_104 : decode cX9_messageOf 104 = .ok (.getfield 151, 3) := by decide +kernel
theorem dX9_messageOf_107 : decode cX9_messageOf 107 = .ok (.iload_n 1, 1) := by decide +kernel
theorem dX9_messageOf_108 : decode cX9_messageOf 108 = .ok (.invokevirtual 114, 3) := by decide +kernel
theorem dX9_messageOf_111 : decode cX9_messageOf 111 = .ok (.ireturn, 1) := by decide +kernel
theorem dX9_messageOf_112 : decode cX9_messageOf 112 = .ok (.aload_n 0, 1) := by decide +kernel
theorem dX9_messageOf_113 : decode cX9_messageOf 113 = .ok (.getfield 36, 3) := by decide +kernel
theorem dX9_messageOf_116 : decode cX9_messageOf 116 = .ok (.aload_n 0, 1) := by decide +kernel
theorem dX9_messageOf_117 : decode cX9_messageOf 117 = .ok (.getfield 29, 3) := by decide +kernel
theorem dX9_messageOf_120 : decode cX9_messageOf 120 = .ok (.iload_n 1, 1) := by decide +kernel
theorem dX9_messageOf_121 : decode cX9_messageOf 121 = .ok (.invokevirtual 154, 3) := by decide +kernel
theorem dX9_messageOf_124 : decode cX9_messageOf 124 = .ok (.ireturn, 1) := by decide +kernel
theorem dX9_messageOf_125 : decode cX9_messageOf 125 = .ok (.aload_n 0, 1) := by decide +kernel
theorem dX9_messageOf_126 : decode cX9_messageOf 126 = .ok (.getfield 29, 3) := by decide +kernel
theorem dX9_messageOf_129 : decode cX9_messageOf 129 = .ok (.getfield 139, 3) := by decide +kernel
theorem dX9_messageOf_132 : decode cX9_messageOf 132 = .ok (.getfield 158, 3) := by decide +kernel
theorem dX9_messageOf_135 : decode cX9_messageOf 135 = .ok (.iload_n 1, 1) := by decide +kernel
theorem dX9_messageOf_136 : decode cX9_messageOf 136 = .ok (.invokevirtual 114, 3) := by decide +kernel
theorem dX9_messageOf_139 : decode cX9_messageOf 139 = .ok (.ireturn, 1) := by decide +kernel
end
section
theorem dX9_messageOf_140 : decode cX9_messageOf 140 = .ok (.aload_n 0, 1) := by decide +kernel
theorem dX9_messageOf_141 : decode cX9_messageOf 141 = .ok (.getfield 29, 3) := by decide +kernel
theorem dX9_messageOf_144 : decode cX9_messageOf 144 = .ok (.getfield 139, 3) := by decide +kernel
theorem dX9_messageOf_147 : decode cX9_messageOf 147 = .ok (.getfield 161, 3) := by decide +kernel
theorem dX9_messageOf_150 : decode cX9_messageOf 150 = .ok (.iload_n 1, 1) := by decide +kernel
theorem dX9_messageOf_151 : decode cX9_messageOf 151 = .ok (.invokevirtual 114, 3) := by decide +kernel
theorem dX9_messageOf_154 : decode cX9_messageOf 154 = .ok (.ireturn, 1) := by decide +kernel
theorem dX9_messageOf_155 : decode cX9_messageOf 155 = .ok (.ldc 68, 2) := by decide +kernel
theorem dX9_messageOf_157 : decode cX9_messageOf 157 = .ok (.ireturn, 1) := by decide +kernel
theorem dX9_letterOf_0 : decode cX9_letterOf 0 = .ok (.aload_n 0, 1) := by decide +kernel
theorem dX9_letterOf_1 : decode cX9_letterOf 1 = .ok (.getfield 29, 3) := by decide +kernel
theorem dX9_letterOf_4 : decode cX9_letterOf 4 = .ok (.iload_n 1, 1) := by decide +kernel
theorem dX9_letterOf_5 : decode cX9_letterOf 5 = .ok (.invokevirtual 133, 3) := by decide +kernel
theorem dX9_letterOf_8 : decode cX9_letterOf 8 = .ok (.ifCond .eq 19, 3) := by decide +kernel
theorem dX9_letterOf_11 : decode cX9_letterOf 11 = .ok (.iload_n 2, 1) := by decide +kernel
theorem dX9_letterOf_12 : decode cX9_letterOf 12 = .ok (.ifCond .lt 15, 3) := by decide +kernel
theorem dX9_letterOf_15 : decode cX9_letterOf 15 = .ok (.iload_n 2, 1) := by decide +kernel
theorem dX9_letterOf_16 : decode cX9_letterOf 16 = .ok (.aload_n 0, 1) := by decide +kernel
theorem dX9_letterOf_17 : decode cX9_letterOf 17 = .ok (.getfield 29, 3) := by decide +kernel
theorem dX9_letterOf_20 : decode cX9_letterOf 20 = .ok (.iload_n 1, 1) := by decide +kernel
theorem dX9_letterOf_21 : decode cX9_letterOf 21 = .ok (.invokevirtual 136, 3) := by decide +kernel
theorem dX9_letterOf_24 : decode cX9_letterOf 24 = .ok (.if_icmp .lt 6, 3) := by decide +kernel
theorem dX9_letterOf_27 : decode cX9_letterOf 27 = .ok (.ldc 68, 2) := by decide +kernel
theorem dX9_letterOf_29 : decode cX9_letterOf 29 = .ok (.ireturn, 1) := by decide +kernel
theorem dX9_letterOf_30 : decode cX9_letterOf 30 = .ok (.aload_n 0, 1) := by decide +kernel
theorem dX9_letterOf_31 : decode cX9_letterOf 31 = .ok (.getfield 29, 3) := by decide +kernel
theorem dX9_letterOf_34 : decode cX9_letterOf 34 = .ok (.getfield 164, 3) := by decide +kernel
theorem dX9_letterOf_37 : decode cX9_letterOf 37 = .ok (.astore 4, 2) := by decide +kernel
theorem dX9_letterOf_39 : decode cX9_letterOf 39 = .ok (.aload_n 0, 1) := by decide +kernel
theorem dX9_letterOf_40 : decode cX9_letterOf 40 = .ok (.getfield 29, 3) := by decide +kernel
theorem dX9_letterOf_43 : decode cX9_letterOf 43 = .ok (.iload_n 1, 1) := by decide +kernel
theorem dX9_letterOf_44 : decode cX9_letterOf 44 = .ok (.iload_n 2, 1) := by decide +kernel
theorem dX9_letterOf_45 : decode cX9_letterOf 45 = .ok (.invokevirtual 168, 3) := by decide +kernel
theorem dX9_letterOf_48 : decode cX9_letterOf 48 = .ok (.istore 5, 2) := by decide +kernel
theorem dX9_letterOf_50 : decode cX9_letterOf 50 = .ok (.aload 4, 2) := by decide +kernel
theorem dX9_letterOf_52 : decode cX9_letterOf 52 = .ok (.getfield 171, 3) := by decide +kernel
theorem dX9_letterOf_55 : decode cX9_letterOf 55 = .ok (.iload 5, 2) := by decide +kernel
theorem dX9_letterOf_57 : decode cX9_letterOf 57 = .ok (.invokevirtual 114, 3) := by decide +kernel
theorem dX9_letterOf_60 : decode cX9_letterOf 60 = .ok (.istore 6, 2) := by decide +kernel
theorem dX9_letterOf_62 : decode cX9_letterOf 62 = .ok (.iload_n 3, 1) := by decide +kernel
theorem dX9_letterOf_63 : decode cX9_letterOf 63 = .ok (.tableswitch 102 0 4 #[33, 47, 50, 61, 83], 33) := by decide +kernel
theorem dX9_letterOf_96 : decode cX9_letterOf 96 = .ok (.aload 4, 2) := by decide +kernel
theorem dX9_letterOf_98 : decode cX9_letterOf 98 = .ok (.getfield 176, 3) := by decide +kernel
theorem dX9_letterOf_101 : decode cX9_letterOf 101 = .ok (.iload 5, 2) := by decide +kernel
theorem dX9_letterOf_103 : decode cX9_letterOf 103 = .ok (.invokevirtual 114, 3) := by decide +kernel
theorem dX9_letterOf_106 : decode cX9_letterOf 106 = .ok (.invokestatic 179, 3) := by decide +kernel
theorem dX9_letterOf_109 : decode cX9_letterOf 109 = .ok (.ireturn, 1) := by decide +kernel
theorem dX9_letterOf_110 : decode cX9_letterOf 110 = .ok (.iload 6, 2) := by decide +kernel
theorem dX9_letterOf_112 : decode cX9_letterOf 112 = .ok (.ireturn, 1) := by decide +kernel
theorem dX9_letterOf_113 : decode cX9_letterOf 113 = .ok (.aload 4, 2) := by decide +kernel
theorem dX9_letterOf_115 : decode cX9_letterOf 115 = .ok (.getfield 182, 3) := by decide +kernel
theorem dX9_letterOf_118 : decode cX9_letterOf 118 = .ok (.iload 5, 2) := by decide +kernel
theorem dX9_letterOf_120 : decode cX9_letterOf 120 = .ok (.invokevirtual 114, 3) := by decide +kernel
theorem dX9_letterOf_123 : decode cX9_letterOf 123 = .ok (.ireturn, 1) := by decide +kernel
theorem dX9_letterOf_124 : decode cX9_letterOf 124 = .ok (.iload 6, 2) := by decide +kernel
theorem dX9_letterOf_126 : decode cX9_letterOf 126 = .ok (.iconst 2, 1) := by decide +kernel
theorem dX9_letterOf_127 : decode cX9_letterOf 127 = .ok (.if_icmp .ge 8, 3) := by decide +kernel
theorem dX9_letterOf_130 : decode cX9_letterOf 130 = .ok (.ldc 122, 2) := by decide +kernel
theorem dX9_letterOf_132 : decode cX9_letterOf 132 = .ok (.goto 13, 3) := by decide +kernel
theorem dX9_letterOf_135 : decode cX9_letterOf 135 = .ok (.aload 4, 2) := by decide +kernel
theorem dX9_letterOf_137 : decode cX9_letterOf 137 = .ok (.getfield 185, 3) := by decide +kernel
theorem dX9_letterOf_140 : decode cX9_letterOf 140 = .ok (.iload 5, 2) := by decide +kernel
theorem dX9_letterOf_142 : decode cX9_letterOf 142 = .ok (.invokevirtual 114, 3) := by decide +kernel
theorem dX9_letterOf_145 : decode cX9_letterOf 145 = .ok (.ireturn, 1) := by decide +kernel
theorem dX9_letterOf_146 : decode cX9_letterOf 146 = .ok (.iload 6, 2) := by decide +kernel
theorem dX9_letterOf_148 : decode cX9_letterOf 148 = .ok (.iconst 2, 1) := by decide +kernel
theorem dX9_letterOf_149 : decode cX9_letterOf 149 = .ok (.if_icmp .eq 8, 3) := by decide +kernel
theorem dX9_letterOf_152 : decode cX9_letterOf 152 = .ok (.ldc 122, 2) := by decide +kernel
theorem dX9_letterOf_154 : decode cX9_letterOf 154 = .ok (.goto 10, 3) := by decide +kernel
theorem dX9_letterOf_157 : decode cX9_letterOf 157 = .ok (.aload 4, 2) := by decide +kernel
theorem dX9_letterOf_159 : decode cX9_letterOf 159 = .ok (.iload 5, 2) := by decide +kernel
theorem dX9_letterOf_161 : decode cX9_letterOf 161 = .ok (.invokevirtual 188, 3) := by decide +kernel
theorem dX9_letterOf_164 : decode cX9_letterOf 164 = .ok (.ireturn, 1) := by decide +kernel
theorem dX9_letterOf_165 : decode cX9_letterOf 165 = .ok (.ldc 68, 2) := by decide +kernel
theorem dX9_letterOf_167 : decode cX9_letterOf 167 = .ok (.ireturn, 1) := by decide +kernel
theorem dX9_tableOf_0 : decode cX9_tableOf 0 = .ok (.iload_n 1, 1) := by decide +kernel
theorem dX9_tableOf_1 : decode cX9_tableOf 1 = .ok (.invokestatic 69, 3) := by decide +kernel
theorem dX9_tableOf_4 : decode cX9_tableOf 4 = .ok (.ifCond .eq 14, 3) := by decide +kernel
theorem dX9_tableOf_7 : decode cX9_tableOf 7 = .ok (.aload_n 0, 1) := by decide +kernel
theorem dX9_tableOf_8 : decode cX9_tableOf 8 = .ok (.getfield 10, 3) := by decide +kernel
theorem dX9_tableOf_11 : decode cX9_tableOf 11 = .ok (.iload_n 1, 1) := by decide +kernel
theorem dX9_tableOf_12 : decode cX9_tableOf 12 = .ok (.invokevirtual 77, 3) := by decide +kernel
theorem dX9_tableOf_15 : decode cX9_tableOf 15 = .ok (.goto 5, 3) := by decide +kernel
theorem dX9_tableOf_18 : decode cX9_tableOf 18 = .ok (.ldc 68, 2) := by decide +kernel
theorem dX9_tableOf_20 : decode cX9_tableOf 20 = .ok (.ireturn, 1) := by decide +kernel
theorem dX9_count_0 : decode cX9_count 0 = .ok (.iload_n 1, 1) := by decide +kernel
theorem dX9_count_1 : decode cX9_count 1 = .ok (.tableswitch 156 0 7 #[47, 55, 66, 77, 98, 106, 127, 148], 47) := by decide +kernel
theorem dX9_count_48 : decode cX9_count 48 = .ok (.aload_n 0, 1) := by decide +kernel
theorem dX9_count_49 : decode cX9_count 49 = .ok (.getfield 10, 3) := by decide +kernel
theorem dX9_count_52 : decode cX9_count 52 = .ok (.getfield 85, 3) := by decide +kernel
theorem dX9_count_55 : decode cX9_count 55 = .ok (.ireturn, 1) := by decide +kernel
theorem dX9_count_56 : decode cX9_count 56 = .ok (.aload_n 0, 1) := by decide +kernel
theorem dX9_count_57 : decode cX9_count 57 = .ok (.getfield 29, 3) := by decide +kernel
theorem dX9_count_60 : decode cX9_count 60 = .ok (.getfield 139, 3) := by decide +kernel
theorem dX9_count_63 : decode cX9_count 63 = .ok (.getfield 236, 3) := by decide +kernel
theorem dX9_count_66 : decode cX9_count 66 = .ok (.ireturn, 1) := by decide +kernel
theorem dX9_count_67 : decode cX9_count 67 = .ok (.aload_n 0, 1) := by decide +kernel
theorem dX9_count_68 : decode cX9_count 68 = .ok (.getfield 29, 3) := by decide +kernel
theorem dX9_count_71 : decode cX9_count 71 = .ok (.getfield 164, 3) := by decide +kernel
theorem dX9_count_74 : decode cX9_count 74 = .ok (.getfield 239, 3) := by decide +kernel
theorem dX9_count_77 : decode cX9_count 77 = .ok (.ireturn, 1) := by decide +kernel
theorem dX9_count_78 : decode cX9_count 78 = .ok (.aload_n 0, 1) := by decide +kernel
theorem dX9_count_79 : decode cX9_count 79 = .ok (.getfield 29, 3) := by decide +kernel
theorem dX9_count_82 : decode cX9_count 82 = .ok (.getfield 139, 3) := by decide +kernel
theorem dX9_count_85 : decode cX9_count 85 = .ok (.aload_n 0, 1) := by decide +kernel
theorem dX9_count_86 : decode cX9_count 86 = .ok (.getfield 29, 3) := by decide +kernel
theorem dX9_count_89 : decode cX9_count 89 = .ok (.getfield 139, 3) := by decide +kernel
theorem dX9_count_92 : decode cX9_count 92 = .ok (.getfield 143, 3) := by decide +kernel
theorem dX9_count_95 : decode cX9_count 95 = .ok (.invokevirtual 240, 3) := by decide +kernel
theorem dX9_count_98 : decode cX9_count 98 = .ok (.ireturn, 1) := by decide +kernel
theorem dX9_count_99 : decode cX9_count 99 = .ok (.aload_n 0, 1) := by decide +kernel
theorem dX9_count_100 : decode cX9_count 100 = .ok (.getfield 29, 3) := by decide +kernel
theorem dX9_count_103 : decode cX9_count 103 = .ok (.getfield 244, 3) := by decide +kernel
theorem dX9_count_106 : decode cX9_count 106 = .ok (.ireturn, 1) := by decide +kernel
theorem dX9_count_107 : decode cX9_count 107 = .ok (.aload_n 0, 1) := by decide +kernel
theorem dX9_count_108 : decode cX9_count 108 = .ok (.getfield 29, 3) := by decide +kernel
theorem dX9_count_111 : decode cX9_count 111 = .ok (.getfield 139, 3) := by decide +kernel
theorem dX9_count_114 : decode cX9_count 114 = .ok (.aload_n 0, 1) := by decide +kernel
theorem dX9_count_115 : decode cX9_count 115 = .ok (.getfield 29, 3) := by decide +kernel
theorem dX9_count_118 : decode cX9_count 118 = .ok (.getfield 139, 3) := by decide +kernel
theorem dX9_count_121 : decode cX9_count 121 = .ok (.getfield 151, 3) := by decide +kernel
theorem dX9_count_124 : decode cX9_count 124 = .ok (.invokevirtual 240, 3) := by decide +kernel
theorem dX9_count_127 : decode cX9_count 127 = .ok (.ireturn, 1) := by decide +kernel
theorem dX9_count_128 : decode cX9_count 128 = .ok (.aload_n 0, 1) := by decide +kernel
theorem dX9_count_129 : decode cX9_count 129 = .ok (.getfield 29, 3) := by decide +kernel
theorem dX9_count_132 : decode cX9_count 132 = .ok (.getfield 139, 3) := by decide +kernel
theorem dX9_count_135 : decode cX9_count 135 = .ok (.aload_n 0, 1) := by decide +kernel
theorem dX9_count_136 : decode cX9_count 136 = .ok (.getfield 29, 3) := by decide +kernel
theorem dX9_count_139 : decode cX9_count 139 = .ok (.getfield 139, 3) := by decide +kernel
theorem dX9_count_142 : decode cX9_count 142 = .ok (.getfield 161, 3) := by decide +kernel
theorem dX9_count_145 : decode cX9_count 145 = .ok (.invokevirtual 240, 3) := by decide +kernel
theorem dX9_count_148 : decode cX9_count 148 = .ok (.ireturn, 1) := by decide +kernel
theorem dX9_count_149 : decode cX9_count 149 = .ok (.aload_n 0, 1) := by decide +kernel
theorem dX9_count_150 : decode cX9_count 150 = .ok (.getfield 29, 3) := by decide +kernel
theorem dX9_count_153 : decode cX9_count 153 = .ok (.invokevirtual 247, 3) := by decide +kernel
theorem dX9_count_156 : decode cX9_count 156 = .ok (.ireturn, 1) := by decide +kernel
theorem dX9_count_157 : decode cX9_count 157 = .ok (.aload_n 0, 1) := by decide +kernel
theorem dX9_count_158 : decode cX9_count 158 = .ok (.iload_n 1, 1) := by decide +kernel
theorem dX9_count_159 : decode cX9_count 159 = .ok (.invokevirtual 250, 3) := by decide +kernel
theorem dX9_count_162 : decode cX9_count 162 = .ok (.ireturn, 1) := by decide +kernel
theorem dX9_isLetter_0 : decode cX9_isLetter 0 = .ok (.iload_n 0, 1) := by decide +kernel
theorem dX9_isLetter_1 : decode cX9_isLetter 1 = .ok (.ifCond .lt 13, 3) := by decide +kernel
theorem dX9_isLetter_4 : decode cX9_isLetter 4 = .ok (.iload_n 0, 1) := by decide +kernel
theorem dX9_isLetter_5 : decode cX9_isLetter 5 = .ok (.bipush 25, 2) := by decide +kernel
theorem dX9_isLetter_7 : decode cX9_isLetter 7 = .ok (.if_icmp .ge 7, 3) := by decide +kernel
theorem dX9_isLetter_10 : decode cX9_isLetter 10 = .ok (.iconst 1, 1) := by decide +kernel
theorem dX9_isLetter_11 : decode cX9_isLetter 11 = .ok (.goto 4, 3) := by decide +kernel
theorem dX9_isLetter_14 : decode cX9_isLetter 14 = .ok (.iconst 0, 1) := by decide +kernel
theorem dX9_isLetter_15 : decode cX9_isLetter 15 = .ok (.ireturn, 1) := by decide +kernel
theorem dX9_orNotFound_0 : decode cX9_orNotFound 0 = .ok (.iload_n 0, 1) := by decide +kernel
theorem dX9_orNotFound_1 : decode cX9_orNotFound 1 = .ok (.iconst (-1), 1) := by decide +kernel
theorem dX9_orNotFound_2 : decode cX9_orNotFound 2 = .ok (.if_icmp .ne 8, 3) := by decide +kernel
theorem dX9_orNotFound_5 : decode cX9_orNotFound 5 = .ok (.ldc 122, 2) := by decide +kernel
theorem dX9_orNotFound_7 : decode cX9_orNotFound 7 = .ok (.goto 4, 3) := by decide +kernel
theorem dX9_orNotFound_10 : decode cX9_orNotFound 10 = .ok (.iload_n 0, 1) := by decide +kernel
theorem dX9_orNotFound_11 : decode cX9_orNotFound 11 = .ok (.ireturn, 1) := by decide +kernel
theorem dX9_countOfState_0 : decode cX9_countOfState 0 = .ok (.iload_n 1, 1) := by decide +kernel
theorem dX9_countOfState_1 : decode cX9_countOfState 1 = .ok (.tableswitch 142 8 21 #[71, 87, 110, 118, 142, 142, 142, 142, 142, 142, 142, 142, 126, 134], 71) := by decide +kernel
theorem dX9_countOfState_72 : decode cX9_countOfState 72 = .ok (.aload_n 0, 1) := by decide +kernel
theorem dX9_countOfState_73 : decode cX9_countOfState 73 = .ok (.getfield 10, 3) := by decide +kernel
theorem dX9_countOfState_76 : decode cX9_countOfState 76 = .ok (.getfield 92, 3) := by decide +kernel
theorem dX9_countOfState_79 : decode cX9_countOfState 79 = .ok (.ifCond .eq 7, 3) := by decide +kernel
theorem dX9_countOfState_82 : decode cX9_countOfState 82 = .ok (.iconst 1, 1) := by decide +kernel
theorem dX9_countOfState_83 : decode cX9_countOfState 83 = .ok (.goto 4, 3) := by decide +kernel
theorem dX9_countOfState_86 : decode cX9_countOfState 86 = .ok (.iconst 0, 1) := by decide +kernel
theorem dX9_countOfState_87 : decode cX9_countOfState 87 = .ok (.ireturn, 1) := by decide +kernel
theorem dX9_countOfState_88 : decode cX9_countOfState 88 = .ok (.aload_n 0, 1) := by decide +kernel
theorem dX9_countOfState_89 : decode cX9_countOfState 89 = .ok (.getfield 10, 3) := by decide +kernel
theorem dX9_countOfState_92 : decode cX9_countOfState 92 = .ok (.getfield 85, 3) := by decide +kernel
theorem dX9_countOfState_95 : decode cX9_countOfState 95 = .ok (.ifCond .ne 8, 3) := by decide +kernel
theorem dX9_countOfState_98 : decode cX9_countOfState 98 = .ok (.ldc 122, 2) := by decide +kernel
theorem dX9_countOfState_100 : decode cX9_countOfState 100 = .ok (.goto 10, 3) := by decide +kernel
theorem dX9_countOfState_103 : decode cX9_countOfState 103 = .ok (.aload_n 0, 1) := by decide +kernel
theorem dX9_countOfState_104 : decode cX9_countOfState 104 = .ok (.getfield 10, 3) := by decide +kernel
theorem dX9_countOfState_107 : decode cX9_countOfState 107 = .ok (.invokevirtual 278, 3) := by decide +kernel
theorem dX9_countOfState_110 : decode cX9_countOfState 110 = .ok (.ireturn, 1) := by decide +kernel
theorem dX9_countOfState_111 : decode cX9_countOfState 111 = .ok (.aload_n 0, 1) := by decide +kernel
theorem dX9_countOfState_112 : decode cX9_countOfState 112 = .ok (.getfield 22, 3) := by decide +kernel
theorem dX9_countOfState_115 : decode cX9_countOfState 115 = .ok (.getfield 253, 3) := by decide +kernel
theorem dX9_countOfState_118 : decode cX9_countOfState 118 = .ok (.ireturn, 1) := by decide +kernel
theorem dX9_countOfState_119 : decode cX9_countOfState 119 = .ok (.aload_n 0, 1) := by decide +kernel
theorem dX9_countOfState_120 : decode cX9_countOfState 120 = .ok (.getfield 50, 3) := by decide +kernel
theorem dX9_countOfState_123 : decode cX9_countOfState 123 = .ok (.getfield 259, 3) := by decide +kernel
theorem dX9_countOfState_126 : decode cX9_countOfState 126 = .ok (.ireturn, 1) := by decide +kernel
theorem dX9_countOfState_127 : decode cX9_countOfState 127 = .ok (.aload_n 0, 1) := by decide +kernel
theorem dX9_countOfState_128 : decode cX9_countOfState 128 = .ok (.getfield 10, 3) := by decide +kernel
theorem dX9_countOfState_131 : decode cX9_countOfState 131 = .ok (.getfield 54, 3) := by decide +kernel
theorem dX9_countOfState_134 : decode cX9_countOfState 134 = .ok (.ireturn, 1) := by decide +kernel
theorem dX9_countOfState_135 : decode cX9_countOfState 135 = .ok (.aload_n 0, 1) := by decide +kernel
theorem dX9_countOfState_136 : decode cX9_countOfState 136 = .ok (.getfield 10, 3) := by decide +kernel
theorem dX9_countOfState_139 : decode cX9_countOfState 139 = .ok (.getfield 65, 3) := by decide +kernel
theorem dX9_countOfState_142 : decode cX9_countOfState 142 = .ok (.ireturn, 1) := by decide +kernel
theorem dX9_countOfState_143 : decode cX9_countOfState 143 = .ok (.ldc 68, 2) := by decide +kernel
theorem dX9_countOfState_145 : decode cX9_countOfState 145 = .ok (.ireturn, 1) := by decide +kernel
theorem dJ9_floorMod_7cf53_0 : decode cJ9_floorMod_7cf53 0 = .ok (.iload_n 0, 1) := by decide +kernel
theorem dJ9_floorMod_7cf53_1 : decode cJ9_floorMod_7cf53 1 = .ok (.iload_n 1, 1) := by decide +kernel
theorem dJ9_floorMod_7cf53_2 : decode cJ9_floorMod_7cf53 2 = .ok (.irem, 1) := by decide +kernel
theorem dJ9_floorMod_7cf53_3 : decode cJ9_floorMod_7cf53 3 = .ok (.istore_n 2, 1) := by decide +kernel
theorem dJ9_floorMod_7cf53_4 : decode cJ9_floorMod_7cf53 4 = .ok (.iload_n 0, 1) := by decide +kernel
theorem dJ9_floorMod_7cf53_5 : decode cJ9_floorMod_7cf53 5 = .ok (.iload_n 1, 1) := by decide +kernel
theorem dJ9_floorMod_7cf53_6 : decode cJ9_floorMod_7cf53 6 = .ok (.ixor, 1) := by decide +kernel
theorem dJ9_floorMod_7cf53_7 : decode cJ9_floorMod_7cf53 7 = .ok (.ifCond .ge 11, 3) := by decide +kernel
theorem dJ9_floorMod_7cf53_10 : decode cJ9_floorMod_7cf53 10 = .ok (.iload_n 2, 1) := by decide +kernel
theorem dJ9_floorMod_7cf53_11 : decode cJ9_floorMod_7cf53 11 = .ok (.ifCond .eq 7, 3) := by decide +kernel
theorem dJ9_floorMod_7cf53_14 : decode cJ9_floorMod_7cf53 14 = .ok (.iload_n 2, 1) := by decide +kernel
theorem dJ9_floorMod_7cf53_15 : decode cJ9_floorMod_7cf53 15 = .ok (.iload_n 1, 1) := by decide +kernel
theorem dJ9_floorMod_7cf53_16 : decode cJ9_floorMod_7cf53 16 = .ok (.iadd, 1) := by decide +kernel
theorem dJ9_floorMod_7cf53_17 : decode cJ9_floorMod_7cf53 17 = .ok (.ireturn, 1) := by decide +kernel
theorem dJ9_floorMod_7cf53_18 : decode cJ9_floorMod_7cf53 18 = .ok (.iload_n 2, 1) := by decide +kernel
theorem dJ9_floorMod_7cf53_19 : decode cJ9_floorMod_7cf53 19 = .ok (.ireturn, 1) := by decide +kernel
theorem dL_cell_0 : decode cL_cell 0 = .ok (.iload_n 1, 1) := by decide +kernel
theorem dL_cell_1 : decode cL_cell 1 = .ok (.aload_n 0, 1) := by decide +kernel
theorem dL_cell_2 : decode cL_cell 2 = .ok (.arraylength, 1) := by decide +kernel
theorem dL_cell_3 : decode cL_cell 3 = .ok (.if_icmp .ge 9, 3) := by decide +kernel
theorem dL_cell_6 : decode cL_cell 6 = .ok (.aload_n 0, 1) := by decide +kernel
theorem dL_cell_7 : decode cL_cell 7 = .ok (.iload_n 1, 1) := by decide +kernel
theorem dL_cell_8 : decode cL_cell 8 = .ok (.iaload, 1) := by decide +kernel
theorem dL_cell_9 : decode cL_cell 9 = .ok (.goto 9, 3) := by decide +kernel
theorem dL_cell_12 : decode cL_cell 12 = .ok (.ldc 7, 2) := by decide +kernel
theorem dL_cell_14 : decode cL_cell 14 = .ok (.iload_n 1, 1) := by decide +kernel
theorem dL_cell_15 : decode cL_cell 15 = .ok (.iconst 3, 1) := by decide +kernel
theorem dL_cell_16 : decode cL_cell 16 = .ok (.iadd, 1) := by decide +kernel
theorem dL_cell_17 : decode cL_cell 17 = .ok (.imul, 1) := by decide +kernel
theorem dL_cell_18 : decode cL_cell 18 = .ok (.ireturn, 1) := by decide +kernel
theorem dL_low_0 : decode cL_low 0 = .ok (.iload_n 0, 1) := by decide +kernel
theorem dL_low_1 : decode cL_low 1 = .ok (.ldc 8, 2) := by decide +kernel
theorem dL_low_3 : decode cL_low 3 = .ok (.iand, 1) := by decide +kernel
theorem dL_low_4 : decode cL_low 4 = .ok (.iload_n 1, 1) := by decide +kernel
theorem dL_low_5 : decode cL_low 5 = .ok (.irem, 1) := by decide +kernel
theorem dL_low_6 : decode cL_low 6 = .ok (.ireturn, 1) := by decide +kernel
theorem dL_at_0 : decode cL_at 0 = .ok (.iconst 0, 1) := by decide +kernel
theorem dL_at_1 : decode cL_at 1 = .ok (.istore_n 3, 1) := by decide +kernel
theorem dL_at_2 : decode cL_at 2 = .ok (.iload_n 3, 1) := by decide +kernel
theorem dL_at_3 : decode cL_at 3 = .ok (.bipush 25, 2) := by decide +kernel
theorem dL_at_5 : decode cL_at 5 = .ok (.if_icmp .ge 25, 3) := by decide +kernel
theorem dL_at_8 : decode cL_at 8 = .ok (.aload_n 0, 1) := by decide +kernel
theorem dL_at_9 : decode cL_at 9 = .ok (.iload_n 3, 1) := by decide +kernel
theorem dL_at_10 : decode cL_at 10 = .ok (.iaload, 1) := by decide +kernel
theorem dL_at_11 : decode cL_at 11 = .ok (.iconst 5, 1) := by decide +kernel
theorem dL_at_12 : decode cL_at 12 = .ok (.iload_n 1, 1) := by decide +kernel
theorem dL_at_13 : decode cL_at 13 = .ok (.imul, 1) := by decide +kernel
theorem dL_at_14 : decode cL_at 14 = .ok (.iload_n 2, 1) := by decide +kernel
theorem dL_at_15 : decode cL_at 15 = .ok (.iadd, 1) := by decide +kernel
theorem dL_at_16 : decode cL_at 16 = .ok (.bipush 6, 2) := by decide +kernel
theorem dL_at_18 : decode cL_at 18 = .ok (.isub, 1) := by decide +kernel
theorem dL_at_19 : decode cL_at 19 = .ok (.if_icmp .ne 5, 3) := by decide +kernel
theorem dL_at_22 : decode cL_at 22 = .ok (.iload_n 3, 1) := by decide +kernel
theorem dL_at_23 : decode cL_at 23 = .ok (.ireturn, 1) := by decide +kernel
theorem dL_at_24 : decode cL_at 24 = .ok (.iinc 3 1, 3) := by decide +kernel
theorem dL_at_27 : decode cL_at 27 = .ok (.goto (-25), 3) := by decide +kernel
theorem dL_at_30 : decode cL_at 30 = .ok (.iconst (-1), 1) := by decide +kernel
theorem dL_at_31 : decode cL_at 31 = .ok (.ireturn, 1) := by decide +kernel
theorem dL_kind_0 : decode cL_kind 0 = .ok (.iconst 4, 1) := by decide +kernel
theorem dL_kind_1 : decode cL_kind 1 = .ok (.iload_n 1, 1) := by decide +kernel
theorem dL_kind_2 : decode cL_kind 2 = .ok (.imul, 1) := by decide +kernel
theorem dL_kind_3 : decode cL_kind 3 = .ok (.istore_n 2, 1) := by decide +kernel
theorem dL_kind_4 : decode cL_kind 4 = .ok (.iload_n 2, 1) := by decide +kernel
theorem dL_kind_5 : decode cL_kind 5 = .ok (.iconst 3, 1) := by decide +kernel
theorem dL_kind_6 : decode cL_kind 6 = .ok (.aload_n 0, 1) := by decide +kernel
theorem dL_kind_7 : decode cL_kind 7 = .ok (.iconst 0, 1) := by decide +kernel
theorem dL_kind_8 : decode cL_kind 8 = .ok (.iaload, 1) := by decide +kernel
theorem dL_kind_9 : decode cL_kind 9 = .ok (.imul, 1) := by decide +kernel
theorem dL_kind_10 : decode cL_kind 10 = .ok (.if_icmp .ge 7, 3) := by decide +kernel
theorem dL_kind_13 : decode cL_kind 13 = .ok (.iconst 0, 1) := by decide +kernel
theorem dL_kind_14 : decode cL_kind 14 = .ok (.goto 60, 3) := by decide +kernel
theorem dL_kind_17 : decode cL_kind 17 = .ok (.iload_n 2, 1) := by decide +kernel
theorem dL_kind_18 : decode cL_kind 18 = .ok (.bipush 6, 2) := by decide +kernel
theorem dL_kind_20 : decode cL_kind 20 = .ok (.aload_n 0, 1) := by decide +kernel
theorem dL_kind_21 : decode cL_kind 21 = .ok (.iconst 0, 1) := by decide +kernel
theorem dL_kind_22 : decode cL_kind 22 = .ok (.iaload, 1) := by decide +kernel
theorem dL_kind_23 : decode cL_kind 23 = .ok (.imul, 1) := by decide +kernel
theorem dL_kind_24 : decode cL_kind 24 = .ok (.if_icmp .ge 7, 3) := by decide +kernel
theorem dL_kind_27 : decode cL_kind 27 = .ok (.iconst 1, 1) := by decide +kernel
theorem dL_kind_28 : decode cL_kind 28 = .ok (.goto 46, 3) := by decide +kernel
theorem dL_kind_31 : decode cL_kind 31 = .ok (.iload_n 2, 1) := by decide +kernel
theorem dL_kind_32 : decode cL_kind 32 = .ok (.bipush 10, 2) := by decide +kernel
theorem dL_kind_34 : decode cL_kind 34 = .ok (.aload_n 0, 1) := by decide +kernel
theorem dL_kind_35 : decode cL_kind 35 = .ok (.iconst 0, 1) := by decide +kernel
theorem dL_kind_36 : decode cL_kind 36 = .ok (.iaload, 1) := by decide +kernel
theorem dL_kind_37 : decode cL_kind 37 = .ok (.imul, 1) := by decide +kernel
theorem dL_kind_38 : decode cL_kind 38 = .ok (.if_icmp .ge 7, 3) := by decide +kernel
theorem dL_kind_41 : decode cL_kind 41 = .ok (.iconst 2, 1) := by decide +kernel
theorem dL_kind_42 : decode cL_kind 42 = .ok (.goto 32, 3) := by decide +kernel
theorem dL_kind_45 : decode cL_kind 45 = .ok (.iload_n 2, 1) := by decide +kernel
theorem dL_kind_46 : decode cL_kind 46 = .ok (.bipush 18, 2) := by decide +kernel
theorem dL_kind_48 : decode cL_kind 48 = .ok (.aload_n 0, 1) := by decide +kernel
theorem dL_kind_49 : decode cL_kind 49 = .ok (.iconst 0, 1) := by decide +kernel
theorem dL_kind_50 : decode cL_kind 50 = .ok (.iaload, 1) := by decide +kernel
theorem dL_kind_51 : decode cL_kind 51 = .ok (.imul, 1) := by decide +kernel
theorem dL_kind_52 : decode cL_kind 52 = .ok (.if_icmp .ge 7, 3) := by decide +kernel
theorem dL_kind_55 : decode cL_kind 55 = .ok (.iconst 3, 1) := by decide +kernel
theorem dL_kind_56 : decode cL_kind 56 = .ok (.goto 18, 3) := by decide +kernel
theorem dL_kind_59 : decode cL_kind 59 = .ok (.iload_n 2, 1) := by decide +kernel
theorem dL_kind_60 : decode cL_kind 60 = .ok (.bipush 32, 2) := by decide +kernel
theorem dL_kind_62 : decode cL_kind 62 = .ok (.aload_n 0, 1) := by decide +kernel
theorem dL_kind_63 : decode cL_kind 63 = .ok (.iconst 0, 1) := by decide +kernel
theorem dL_kind_64 : decode cL_kind 64 = .ok (.iaload, 1) := by decide +kernel
theorem dL_kind_65 : decode cL_kind 65 = .ok (.imul, 1) := by decide +kernel
theorem dL_kind_66 : decode cL_kind 66 = .ok (.if_icmp .ge 7, 3) := by decide +kernel
theorem dL_kind_69 : decode cL_kind 69 = .ok (.iconst 4, 1) := by decide +kernel
theorem dL_kind_70 : decode cL_kind 70 = .ok (.goto 4, 3) := by decide +kernel
theorem dL_kind_73 : decode cL_kind 73 = .ok (.iconst 5, 1) := by decide +kernel
theorem dL_kind_74 : decode cL_kind 74 = .ok (.ireturn, 1) := by decide +kernel
theorem dL_doubt_0 : decode cL_doubt 0 = .ok (.aload_n 0, 1) := by decide +kernel
theorem dL_doubt_1 : decode cL_doubt 1 = .ok (.iload_n 1, 1) := by decide +kernel
theorem dL_doubt_2 : decode cL_doubt 2 = .ok (.invokestatic 9, 3) := by decide +kernel
theorem dL_doubt_5 : decode cL_doubt 5 = .ok (.aload_n 0, 1) := by decide +kernel
theorem dL_doubt_6 : decode cL_doubt 6 = .ok (.iload_n 1, 1) := by decide +kernel
theorem dL_doubt_7 : decode cL_doubt 7 = .ok (.aload_n 0, 1) := by decide +kernel
theorem dL_doubt_8 : decode cL_doubt 8 = .ok (.iconst 1, 1) := by decide +kernel
theorem dL_doubt_9 : decode cL_doubt 9 = .ok (.iaload, 1) := by decide +kernel
theorem dL_doubt_10 : decode cL_doubt 10 = .ok (.isub, 1) := by decide +kernel
theorem dL_doubt_11 : decode cL_doubt 11 = .ok (.invokestatic 9, 3) := by decide +kernel
theorem dL_doubt_14 : decode cL_doubt 14 = .ok (.if_icmp .ne 20, 3) := by decide +kernel
theorem dL_doubt_17 : decode cL_doubt 17 = .ok (.aload_n 0, 1) := by decide +kernel
theorem dL_doubt_18 : decode cL_doubt 18 = .ok (.iload_n 1, 1) := by decide +kernel
theorem dL_doubt_19 : decode cL_doubt 19 = .ok (.invokestatic 9, 3) := by decide +kernel
theorem dL_doubt_22 : decode cL_doubt 22 = .ok (.aload_n 0, 1) := by decide +kernel
theorem dL_doubt_23 : decode cL_doubt 23 = .ok (.iload_n 1, 1) := by decide +kernel
theorem dL_doubt_24 : decode cL_doubt 24 = .ok (.aload_n 0, 1) := by decide +kernel
theorem dL_doubt_25 : decode cL_doubt 25 = .ok (.iconst 1, 1) := by decide +kernel
theorem dL_doubt_26 : decode cL_doubt 26 = .ok (.iaload, 1) := by decide +kernel
theorem dL_doubt_27 : decode cL_doubt 27 = .ok (.iadd, 1) := by decide +kernel
theorem dL_doubt_28 : decode cL_doubt 28 = .ok (.invokestatic 9, 3) := by decide +kernel
theorem dL_doubt_31 : decode cL_doubt 31 = .ok (.if_icmp .eq 7, 3) := by decide +kernel
theorem dL_doubt_34 : decode cL_doubt 34 = .ok (.iconst 1, 1) := by decide +kernel
theorem dL_doubt_35 : decode cL_doubt 35 = .ok (.goto 4, 3) := by decide +kernel
theorem dL_doubt_38 : decode cL_doubt 38 = .ok (.iconst 0, 1) := by decide +kernel
theorem dL_doubt_39 : decode cL_doubt 39 = .ok (.ireturn, 1) := by decide +kernel
theorem dL_read_0 : decode cL_read 0 = .ok (.iconst 0, 1) := by decide +kernel
theorem dL_read_1 : decode cL_read 1 = .ok (.istore 9, 2) := by decide +kernel
theorem dL_read_3 : decode cL_read 3 = .ok (.iconst (-1), 1) := by decide +kernel
theorem dL_read_4 : decode cL_read 4 = .ok (.istore 10, 2) := by decide +kernel
theorem dL_read_6 : decode cL_read 6 = .ok (.iconst 0, 1) := by decide +kernel
theorem dL_read_7 : decode cL_read 7 = .ok (.istore 11, 2) := by decide +kernel
theorem dL_read_9 : decode cL_read 9 = .ok (.iconst 0, 1) := by decide +kernel
theorem dL_read_10 : decode cL_read 10 = .ok (.istore 12, 2) := by decide +kernel
theorem dL_read_12 : decode cL_read 12 = .ok (.iload 12, 2) := by decide +kernel
theorem dL_read_14 : decode cL_read 14 = .ok (.aload_n 0, 1) := by decide +kernel
theorem dL_read_15 : decode cL_read 15 = .ok (.iconst 3, 1) := by decide +kernel
theorem dL_read_16 : decode cL_read 16 = .ok (.iaload, 1) := by decide +kernel
theorem dL_read_17 : decode cL_read 17 = .ok (.if_icmp .ge 202, 3) := by decide +kernel
theorem dL_read_20 : decode cL_read 20 = .ok (.aload_n 3, 1) := by decide +kernel
theorem dL_read_21 : decode cL_read 21 = .ok (.iload 12, 2) := by decide +kernel
theorem dL_read_23 : decode cL_read 23 = .ok (.aload_n 1, 1) := by decide +kernel
theorem dL_read_24 : decode cL_read 24 = .ok (.iload 12, 2) := by decide +kernel
theorem dL_read_26 : decode cL_read 26 = .ok (.iaload, 1) := by decide +kernel
theorem dL_read_27 : decode cL_read 27 = .ok (.iload 11, 2) := by decide +kernel
theorem dL_read_29 : decode cL_read 29 = .ok (.isub, 1) := by decide +kernel
theorem dL_read_30 : decode cL_read 30 = .ok (.iastore, 1) := by decide +kernel
theorem dL_read_31 : decode cL_read 31 = .ok (.aload_n 2, 1) := by decide +kernel
theorem dL_read_32 : decode cL_read 32 = .ok (.iload 12, 2) := by decide +kernel
theorem dL_read_34 : decode cL_read 34 = .ok (.iload 12, 2) := by decide +kernel
theorem dL_read_36 : decode cL_read 36 = .ok (.ifCond .ne 7, 3) := by decide +kernel
theorem dL_read_39 : decode cL_read 39 = .ok (.iconst 5, 1) := by decide +kernel
theorem dL_read_40 : decode cL_read 40 = .ok (.goto 11, 3) := by decide +kernel
theorem dL_read_43 : decode cL_read 43 = .ok (.aload_n 0, 1) := by decide +kernel
theorem dL_read_44 : decode cL_read 44 = .ok (.aload_n 3, 1) := by decide +kernel
theorem dL_read_45 : decode cL_read 45 = .ok (.iload 12, 2) := by decide +kernel
theorem dL_read_47 : decode cL_read 47 = .ok (.iaload, 1) := by decide +kernel
theorem dL_read_48 : decode cL_read 48 = .ok (.invokestatic 9, 3) := by decide +kernel
theorem dL_read_51 : decode cL_read 51 = .ok (.iastore, 1) := by decide +kernel
theorem dL_read_52 : decode cL_read 52 = .ok (.aload 4, 2) := by decide +kernel
theorem dL_read_54 : decode cL_read 54 = .ok (.iload 12, 2) := by decide +kernel
theorem dL_read_56 : decode cL_read 56 = .ok (.iload 10, 2) := by decide +kernel
theorem dL_read_58 : decode cL_read 58 = .ok (.iastore, 1) := by decide +kernel
theorem dL_read_59 : decode cL_read 59 = .ok (.aload_n 2, 1) := by decide +kernel
theorem dL_read_60 : decode cL_read 60 = .ok (.iload 12, 2) := by decide +kernel
theorem dL_read_62 : decode cL_read 62 = .ok (.iaload, 1) := by decide +kernel
theorem dL_read_63 : decode cL_read 63 = .ok (.ifCond .le 150, 3) := by decide +kernel
theorem dL_read_66 : decode cL_read 66 = .ok (.iload 10, 2) := by decide +kernel
theorem dL_read_68 : decode cL_read 68 = .ok (.aload_n 2, 1) := by decide +kernel
theorem dL_read_69 : decode cL_read 69 = .ok (.iload 12, 2) := by decide +kernel
theorem dL_read_71 : decode cL_read 71 = .ok (.iaload, 1) := by decide +kernel
theorem dL_read_72 : decode cL_read 72 = .ok (.iconst 5, 1) := by decide +kernel
theorem dL_read_73 : decode cL_read 73 = .ok (.if_icmp .ne 7, 3) := by decide +kernel
theorem dL_read_76 : decode cL_read 76 = .ok (.iconst 1, 1) := by decide +kernel
theorem dL_read_77 : decode cL_read 77 = .ok (.goto 4, 3) := by decide +kernel
theorem dL_read_80 : decode cL_read 80 = .ok (.iconst 0, 1) := by decide +kernel
theorem dL_read_81 : decode cL_read 81 = .ok (.iadd, 1) := by decide +kernel
theorem dL_read_82 : decode cL_read 82 = .ok (.istore 10, 2) := by decide +kernel
theorem dL_read_84 : decode cL_read 84 = .ok (.aload_n 2, 1) := by decide +kernel
theorem dL_read_85 : decode cL_read 85 = .ok (.iload 12, 2) := by decide +kernel
theorem dL_read_87 : decode cL_read 87 = .ok (.iaload, 1) := by decide +kernel
theorem dL_read_88 : decode cL_read 88 = .ok (.iconst 3, 1) := by decide +kernel
theorem dL_read_89 : decode cL_read 89 = .ok (.if_icmp .le 19, 3) := by decide +kernel
theorem dL_read_92 : decode cL_read 92 = .ok (.aload 7, 2) := by decide +kernel
theorem dL_read_94 : decode cL_read 94 = .ok (.iload 9, 2) := by decide +kernel
theorem dL_read_96 : decode cL_read 96 = .ok (.iload 10, 2) := by decide +kernel
theorem dL_read_98 : decode cL_read 98 = .ok (.iastore, 1) := by decide +kernel
theorem dL_read_99 : decode cL_read 99 = .ok (.aload 8, 2) := by decide +kernel
theorem dL_read_101 : decode cL_read 101 = .ok (.iload 9, 2) := by decide +kernel
theorem dL_read_103 : decode cL_read 103 = .ok (.iconst 0, 1) := by decide +kernel
theorem dL_read_104 : decode cL_read 104 = .ok (.iastore, 1) := by decide +kernel
theorem dL_read_105 : decode cL_read 105 = .ok (.iinc 9 1, 3) := by decide +kernel
theorem dL_read_108 : decode cL_read 108 = .ok (.aload 8, 2) := by decide +kernel
theorem dL_read_110 : decode cL_read 110 = .ok (.iload 9, 2) := by decide +kernel
theorem dL_read_112 : decode cL_read 112 = .ok (.iconst 1, 1) := by decide +kernel
theorem dL_read_113 : decode cL_read 113 = .ok (.isub, 1) := by decide +kernel
theorem dL_read_114 : decode cL_read 114 = .ok (.iaload, 1) := by decide +kernel
theorem dL_read_115 : decode cL_read 115 = .ok (.aload_n 2, 1) := by decide +kernel
theorem dL_read_116 : decode cL_read 116 = .ok (.iload 12, 2) := by decide +kernel
theorem dL_read_118 : decode cL_read 118 = .ok (.iaload, 1) := by decide +kernel
theorem dL_read_119 : decode cL_read 119 = .ok (.iconst 2, 1) := by decide +kernel
theorem dL_read_120 : decode cL_read 120 = .ok (.if_icmp .le 7, 3) := by decide +kernel
theorem dL_read_123 : decode cL_read 123 = .ok (.iconst 1, 1) := by decide +kernel
theorem dL_read_124 : decode cL_read 124 = .ok (.goto 4, 3) := by decide +kernel
theorem dL_read_127 : decode cL_read 127 = .ok (.iconst 0, 1) := by decide +kernel
theorem dL_read_128 : decode cL_read 128 = .ok (.iadd, 1) := by decide +kernel
theorem dL_read_129 : decode cL_read 129 = .ok (.istore 13, 2) := by decide +kernel
theorem dL_read_131 : decode cL_read 131 = .ok (.iload 13, 2) := by decide +kernel
theorem dL_read_133 : decode cL_read 133 = .ok (.sipush 255, 3) := by decide +kernel
theorem dL_read_136 : decode cL_read 136 = .ok (.iand, 1) := by decide +kernel
theorem dL_read_137 : decode cL_read 137 = .ok (.istore 14, 2) := by decide +kernel
theorem dL_read_139 : decode cL_read 139 = .ok (.iload 13, 2) := by decide +kernel
theorem dL_read_141 : decode cL_read 141 = .ok (.iload 14, 2) := by decide +kernel
theorem dL_read_143 : decode cL_read 143 = .ok (.iconst 2, 1) := by decide +kernel
theorem dL_read_144 : decode cL_read 144 = .ok (.if_icmp .le 7, 3) := by decide +kernel
theorem dL_read_147 : decode cL_read 147 = .ok (.iconst 0, 1) := by decide +kernel
theorem dL_read_148 : decode cL_read 148 = .ok (.goto 22, 3) := by decide +kernel
theorem dL_read_151 : decode cL_read 151 = .ok (.aload_n 2, 1) := by decide +kernel
theorem dL_read_152 : decode cL_read 152 = .ok (.iload 12, 2) := by decide +kernel
theorem dL_read_154 : decode cL_read 154 = .ok (.iaload, 1) := by decide +kernel
theorem dL_read_155 : decode cL_read 155 = .ok (.iconst 2, 1) := by decide +kernel
theorem dL_read_156 : decode cL_read 156 = .ok (.if_icmp .ne 7, 3) := by decide +kernel
theorem dL_read_159 : decode cL_read 159 = .ok (.iconst 2, 1) := by decide +kernel
theorem dL_read_160 : decode cL_read 160 = .ok (.goto 4, 3) := by decide +kernel
theorem dL_read_163 : decode cL_read 163 = .ok (.iconst 1, 1) := by decide +kernel
theorem dL_read_164 : decode cL_read 164 = .ok (.bipush 8, 2) := by decide +kernel
theorem dL_read_166 : decode cL_read 166 = .ok (.iload 14, 2) := by decide +kernel
theorem dL_read_168 : decode cL_read 168 = .ok (.imul, 1) := by decide +kernel
theorem dL_read_169 : decode cL_read 169 = .ok (.ishl, 1) := by decide +kernel
theorem dL_read_170 : decode cL_read 170 = .ok (.iadd, 1) := by decide +kernel
theorem dL_read_171 : decode cL_read 171 = .ok (.istore 13, 2) := by decide +kernel
theorem dL_read_173 : decode cL_read 173 = .ok (.aload 8, 2) := by decide +kernel
theorem dL_read_175 : decode cL_read 175 = .ok (.iload 9, 2) := by decide +kernel
theorem dL_read_177 : decode cL_read 177 = .ok (.iconst 1, 1) := by decide +kernel
theorem dL_read_178 : decode cL_read 178 = .ok (.isub, 1) := by decide +kernel
theorem dL_read_179 : decode cL_read 179 = .ok (.iload 13, 2) := by decide +kernel
theorem dL_read_181 : decode cL_read 181 = .ok (.iastore, 1) := by decide +kernel
theorem dL_read_182 : decode cL_read 182 = .ok (.aload 4, 2) := by decide +kernel
theorem dL_read_184 : decode cL_read 184 = .ok (.iload 12, 2) := by decide +kernel
theorem dL_read_186 : decode cL_read 186 = .ok (.iload 10, 2) := by decide +kernel
theorem dL_read_188 : decode cL_read 188 = .ok (.iastore, 1) := by decide +kernel
theorem dL_read_189 : decode cL_read 189 = .ok (.aload 5, 2) := by decide +kernel
theorem dL_read_191 : decode cL_read 191 = .ok (.iload 12, 2) := by decide +kernel
theorem dL_read_193 : decode cL_read 193 = .ok (.iload 9, 2) := by decide +kernel
theorem dL_read_195 : decode cL_read 195 = .ok (.iconst 1, 1) := by decide +kernel
theorem dL_read_196 : decode cL_read 196 = .ok (.isub, 1) := by decide +kernel
theorem dL_read_197 : decode cL_read 197 = .ok (.iastore, 1) := by decide +kernel
theorem dL_read_198 : decode cL_read 198 = .ok (.aload 6, 2) := by decide +kernel
theorem dL_read_200 : decode cL_read 200 = .ok (.iload 12, 2) := by decide +kernel
theorem dL_read_202 : decode cL_read 202 = .ok (.iload 14, 2) := by decide +kernel
theorem dL_read_204 : decode cL_read 204 = .ok (.iconst 1, 1) := by decide +kernel
theorem dL_read_205 : decode cL_read 205 = .ok (.isub, 1) := by decide +kernel
theorem dL_read_206 : decode cL_read 206 = .ok (.iastore, 1) := by decide +kernel
theorem dL_read_207 : decode cL_read 207 = .ok (.aload_n 1, 1) := by decide +kernel
theorem dL_read_208 : decode cL_read 208 = .ok (.iload 12, 2) := by decide +kernel
theorem dL_read_210 : decode cL_read 210 = .ok (.iaload, 1) := by decide +kernel
theorem dL_read_211 : decode cL_read 211 = .ok (.istore 11, 2) := by decide +kernel
theorem dL_read_213 : decode cL_read 213 = .ok (.iinc 12 1, 3) := by decide +kernel
theorem dL_read_216 : decode cL_read 216 = .ok (.goto (-204), 3) := by decide +kernel
theorem dL_read_219 : decode cL_read 219 = .ok (.iload 9, 2) := by decide +kernel
theorem dL_read_221 : decode cL_read 221 = .ok (.ireturn, 1) := by decide +kernel
theorem dL_one_0 : decode cL_one 0 = .ok (.iload_n 0, 1) := by decide +kernel
theorem dL_one_1 : decode cL_one 1 = .ok (.bipush 8, 2) := by decide +kernel
theorem dL_one_3 : decode cL_one 3 = .ok (.ishr, 1) := by decide +kernel
theorem dL_one_4 : decode cL_one 4 = .ok (.sipush 255, 3) := by decide +kernel
theorem dL_one_7 : decode cL_one 7 = .ok (.iand, 1) := by decide +kernel
theorem dL_one_8 : decode cL_one 8 = .ok (.ireturn, 1) := by decide +kernel
theorem dL_two_0 : decode cL_two 0 = .ok (.iload_n 0, 1) := by decide +kernel
theorem dL_two_1 : decode cL_two 1 = .ok (.bipush 16, 2) := by decide +kernel
theorem dL_two_3 : decode cL_two 3 = .ok (.ishr, 1) := by decide +kernel
theorem dL_two_4 : decode cL_two 4 = .ok (.sipush 255, 3) := by decide +kernel
theorem dL_two_7 : decode cL_two 7 = .ok (.iand, 1) := by decide +kernel
theorem dL_two_8 : decode cL_two 8 = .ok (.ireturn, 1) := by decide +kernel
theorem dL_good_0 : decode cL_good 0 = .ok (.iload_n 0, 1) := by decide +kernel
theorem dL_good_1 : decode cL_good 1 = .ok (.sipush 255, 3) := by decide +kernel
theorem dL_good_4 : decode cL_good 4 = .ok (.iand, 1) := by decide +kernel
theorem dL_good_5 : decode cL_good 5 = .ok (.iconst 2, 1) := by decide +kernel
theorem dL_good_6 : decode cL_good 6 = .ok (.if_icmp .ne 39, 3) := by decide +kernel
theorem dL_good_9 : decode cL_good 9 = .ok (.iload_n 0, 1) := by decide +kernel
theorem dL_good_10 : decode cL_good 10 = .ok (.invokestatic 15, 3) := by decide +kernel
theorem dL_good_13 : decode cL_good 13 = .ok (.bipush 6, 2) := by decide +kernel
theorem dL_good_15 : decode cL_good 15 = .ok (.if_icmp .ge 30, 3) := by decide +kernel
theorem dL_good_18 : decode cL_good 18 = .ok (.iload_n 0, 1) := by decide +kernel
theorem dL_good_19 : decode cL_good 19 = .ok (.invokestatic 19, 3) := by decide +kernel
theorem dL_good_22 : decode cL_good 22 = .ok (.bipush 6, 2) := by decide +kernel
theorem dL_good_24 : decode cL_good 24 = .ok (.if_icmp .ge 21, 3) := by decide +kernel
theorem dL_good_27 : decode cL_good 27 = .ok (.iload_n 0, 1) := by decide +kernel
theorem dL_good_28 : decode cL_good 28 = .ok (.invokestatic 15, 3) := by decide +kernel
theorem dL_good_31 : decode cL_good 31 = .ok (.ifCond .le 14, 3) := by decide +kernel
theorem dL_good_34 : decode cL_good 34 = .ok (.iload_n 0, 1) := by decide +kernel
theorem dL_good_35 : decode cL_good 35 = .ok (.invokestatic 19, 3) := by decide +kernel
theorem dL_good_38 : decode cL_good 38 = .ok (.ifCond .le 7, 3) := by decide +kernel
theorem dL_good_41 : decode cL_good 41 = .ok (.iconst 1, 1) := by decide +kernel
theorem dL_good_42 : decode cL_good 42 = .ok (.goto 4, 3) := by decide +kernel
theorem dL_good_45 : decode cL_good 45 = .ok (.iconst 0, 1) := by decide +kernel
theorem dL_good_46 : decode cL_good 46 = .ok (.ireturn, 1) := by decide +kernel
theorem dL_letter_0 : decode cL_letter 0 = .ok (.iload_n 1, 1) := by decide +kernel
theorem dL_letter_1 : decode cL_letter 1 = .ok (.invokestatic 22, 3) := by decide +kernel
theorem dL_letter_4 : decode cL_letter 4 = .ok (.ifCond .eq 18, 3) := by decide +kernel
theorem dL_letter_7 : decode cL_letter 7 = .ok (.aload_n 0, 1) := by decide +kernel
theorem dL_letter_8 : decode cL_letter 8 = .ok (.iload_n 1, 1) := by decide +kernel
theorem dL_letter_9 : decode cL_letter 9 = .ok (.invokestatic 15, 3) := by decide +kernel
theorem dL_letter_12 : decode cL_letter 12 = .ok (.iload_n 1, 1) := by decide +kernel
theorem dL_letter_13 : decode cL_letter 13 = .ok (.invokestatic 19, 3) := by decide +kernel
theorem dL_letter_16 : decode cL_letter 16 = .ok (.invokestatic 26, 3) := by decide +kernel
theorem dL_letter_19 : decode cL_letter 19 = .ok (.goto 5, 3) := by decide +kernel
theorem dL_letter_22 : decode cL_letter 22 = .ok (.ldc 30, 2) := by decide +kernel
theorem dL_letter_24 : decode cL_letter 24 = .ok (.ireturn, 1) := by decide +kernel
theorem dL_first_0 : decode cL_first 0 = .ok (.iconst 0, 1) := by decide +kernel
theorem dL_first_1 : decode cL_first 1 = .ok (.istore_n 3, 1) := by decide +kernel
theorem dL_first_2 : decode cL_first 2 = .ok (.iload_n 3, 1) := by decide +kernel
theorem dL_first_3 : decode cL_first 3 = .ok (.iload_n 1, 1) := by decide +kernel
theorem dL_first_4 : decode cL_first 4 = .ok (.if_icmp .ge 16, 3) := by decide +kernel
theorem dL_first_7 : decode cL_first 7 = .ok (.aload_n 0, 1) := by decide +kernel
theorem dL_first_8 : decode cL_first 8 = .ok (.iload_n 3, 1) := by decide +kernel
theorem dL_first_9 : decode cL_first 9 = .ok (.iaload, 1) := by decide +kernel
theorem dL_first_10 : decode cL_first 10 = .ok (.iload_n 2, 1) := by decide +kernel
theorem dL_first_11 : decode cL_first 11 = .ok (.if_icmp .ge 9, 3) := by decide +kernel
theorem dL_first_14 : decode cL_first 14 = .ok (.iinc 3 1, 3) := by decide +kernel
theorem dL_first_17 : decode cL_first 17 = .ok (.goto (-15), 3) := by decide +kernel
theorem dL_first_20 : decode cL_first 20 = .ok (.iload_n 3, 1) := by decide +kernel
theorem dL_first_21 : decode cL_first 21 = .ok (.ireturn, 1) := by decide +kernel
theorem dL_right_0 : decode cL_right 0 = .ok (.iconst 0, 1) := by decide +kernel
theorem dL_right_1 : decode cL_right 1 = .ok (.istore 4, 2) := by decide +kernel
theorem dL_right_3 : decode cL_right 3 = .ok (.iload_n 3, 1) := by decide +kernel
theorem dL_right_4 : decode cL_right 4 = .ok (.iload_n 2, 1) := by decide +kernel
theorem dL_right_5 : decode cL_right 5 = .ok (.isub, 1) := by decide +kernel
theorem dL_right_6 : decode cL_right 6 = .ok (.iconst 1, 1) := by decide +kernel
theorem dL_right_7 : decode cL_right 7 = .ok (.if_icmp .le 7, 3) := by decide +kernel
theorem dL_right_10 : decode cL_right 10 = .ok (.iconst 1, 1) := by decide +kernel
theorem dL_right_11 : decode cL_right 11 = .ok (.goto 4, 3) := by decide +kernel
theorem dL_right_14 : decode cL_right 14 = .ok (.iconst 0, 1) := by decide +kernel
theorem dL_right_15 : decode cL_right 15 = .ok (.istore 5, 2) := by decide +kernel
theorem dL_right_17 : decode cL_right 17 = .ok (.iload_n 2, 1) := by decide +kernel
theorem dL_right_18 : decode cL_right 18 = .ok (.istore 6, 2) := by decide +kernel
theorem dL_right_20 : decode cL_right 20 = .ok (.iload 6, 2) := by decide +kernel
theorem dL_right_22 : decode cL_right 22 = .ok (.iload_n 3, 1) := by decide +kernel
theorem dL_right_23 : decode cL_right 23 = .ok (.if_icmp .ge 67, 3) := by decide +kernel
theorem dL_right_26 : decode cL_right 26 = .ok (.iload 5, 2) := by decide +kernel
theorem dL_right_28 : decode cL_right 28 = .ok (.ifCond .eq 62, 3) := by decide +kernel
theorem dL_right_31 : decode cL_right 31 = .ok (.aload_n 1, 1) := by decide +kernel
theorem dL_right_32 : decode cL_right 32 = .ok (.iload 6, 2) := by decide +kernel
theorem dL_right_34 : decode cL_right 34 = .ok (.iaload, 1) := by decide +kernel
theorem dL_right_35 : decode cL_right 35 = .ok (.invokestatic 22, 3) := by decide +kernel
theorem dL_right_38 : decode cL_right 38 = .ok (.istore 5, 2) := by decide +kernel
theorem dL_right_40 : decode cL_right 40 = .ok (.iload 4, 2) := by decide +kernel
theorem dL_right_42 : decode cL_right 42 = .ok (.iload 5, 2) := by decide +kernel
theorem dL_right_44 : decode cL_right 44 = .ok (.ifCond .eq 36, 3) := by decide +kernel
theorem dL_right_47 : decode cL_right 47 = .ok (.iload 6, 2) := by decide +kernel
theorem dL_right_49 : decode cL_right 49 = .ok (.iload_n 3, 1) := by decide +kernel
theorem dL_right_50 : decode cL_right 50 = .ok (.iconst 1, 1) := by decide +kernel
theorem dL_right_51 : decode cL_right 51 = .ok (.isub, 1) := by decide +kernel
theorem dL_right_52 : decode cL_right 52 = .ok (.if_icmp .ne 17, 3) := by decide +kernel
theorem dL_right_55 : decode cL_right 55 = .ok (.bipush 25, 2) := by decide +kernel
theorem dL_right_57 : decode cL_right 57 = .ok (.aload_n 0, 1) := by decide +kernel
theorem dL_right_58 : decode cL_right 58 = .ok (.aload_n 1, 1) := by decide +kernel
theorem dL_right_59 : decode cL_right 59 = .ok (.iload 6, 2) := by decide +kernel
theorem dL_right_61 : decode cL_right 61 = .ok (.iaload, 1) := by decide +kernel
theorem dL_right_62 : decode cL_right 62 = .ok (.invokestatic 31, 3) := by decide +kernel
theorem dL_right_65 : decode cL_right 65 = .ok (.isub, 1) := by decide +kernel
theorem dL_right_66 : decode cL_right 66 = .ok (.goto 15, 3) := by decide +kernel
theorem dL_right_69 : decode cL_right 69 = .ok (.aload_n 0, 1) := by decide +kernel
theorem dL_right_70 : decode cL_right 70 = .ok (.aload_n 1, 1) := by decide +kernel
theorem dL_right_71 : decode cL_right 71 = .ok (.iload 6, 2) := by decide +kernel
theorem dL_right_73 : decode cL_right 73 = .ok (.iaload, 1) := by decide +kernel
theorem dL_right_74 : decode cL_right 74 = .ok (.invokestatic 31, 3) := by decide +kernel
theorem dL_right_77 : decode cL_right 77 = .ok (.goto 4, 3) := by decide +kernel
theorem dL_right_80 : decode cL_right 80 = .ok (.iconst 0, 1) := by decide +kernel
theorem dL_right_81 : decode cL_right 81 = .ok (.iadd, 1) := by decide +kernel
theorem dL_right_82 : decode cL_right 82 = .ok (.istore 4, 2) := by decide +kernel
theorem dL_right_84 : decode cL_right 84 = .ok (.iinc 6 1, 3) := by decide +kernel
theorem dL_right_87 : decode cL_right 87 = .ok (.goto (-67), 3) := by decide +kernel
theorem dL_right_90 : decode cL_right 90 = .ok (.iload 5, 2) := by decide +kernel
theorem dL_right_92 : decode cL_right 92 = .ok (.ifCond .eq 15, 3) := by decide +kernel
theorem dL_right_95 : decode cL_right 95 = .ok (.iload 4, 2) := by decide +kernel
theorem dL_right_97 : decode cL_right 97 = .ok (.bipush 25, 2) := by decide +kernel
theorem dL_right_99 : decode cL_right 99 = .ok (.irem, 1) := by decide +kernel
theorem dL_right_100 : decode cL_right 100 = .ok (.ifCond .ne 7, 3) := by decide +kernel
theorem dL_right_103 : decode cL_right 103 = .ok (.iconst 1, 1) := by decide +kernel
theorem dL_right_104 : decode cL_right 104 = .ok (.goto 4, 3) := by decide +kernel
theorem dL_right_107 : decode cL_right 107 = .ok (.iconst 0, 1) := by decide +kernel
theorem dL_right_108 : decode cL_right 108 = .ok (.ireturn, 1) := by decide +kernel
theorem dL_put_0 : decode cL_put 0 = .ok (.aload_n 0, 1) := by decide +kernel
theorem dL_put_1 : decode cL_put 1 = .ok (.iconst 3, 1) := by decide +kernel
theorem dL_put_2 : decode cL_put 2 = .ok (.iaload, 1) := by decide +kernel
theorem dL_put_3 : decode cL_put 3 = .ok (.istore_n 3, 1) := by decide +kernel
theorem dL_put_4 : decode cL_put 4 = .ok (.iload_n 3, 1) := by decide +kernel
theorem dL_put_5 : decode cL_put 5 = .ok (.ifCond .le 26, 3) := by decide +kernel
theorem dL_put_8 : decode cL_put 8 = .ok (.aload_n 1, 1) := by decide +kernel
theorem dL_put_9 : decode cL_put 9 = .ok (.iload_n 3, 1) := by decide +kernel
theorem dL_put_10 : decode cL_put 10 = .ok (.iconst 1, 1) := by decide +kernel
theorem dL_put_11 : decode cL_put 11 = .ok (.isub, 1) := by decide +kernel
theorem dL_put_12 : decode cL_put 12 = .ok (.iaload, 1) := by decide +kernel
theorem dL_put_13 : decode cL_put 13 = .ok (.iload_n 2, 1) := by decide +kernel
theorem dL_put_14 : decode cL_put 14 = .ok (.if_icmp .le 17, 3) := by decide +kernel
theorem dL_put_17 : decode cL_put 17 = .ok (.aload_n 1, 1) := by decide +kernel
theorem dL_put_18 : decode cL_put 18 = .ok (.iload_n 3, 1) := by decide +kernel
theorem dL_put_19 : decode cL_put 19 = .ok (.aload_n 1, 1) := by decide +kernel
theorem dL_put_20 : decode cL_put 20 = .ok (.iload_n 3, 1) := by decide +kernel
theorem dL_put_21 : decode cL_put 21 = .ok (.iconst 1, 1) := by decide +kernel
theorem dL_put_22 : decode cL_put 22 = .ok (.isub, 1) := by decide +kernel
theorem dL_put_23 : decode cL_put 23 = .ok (.iaload, 1) := by decide +kernel
theorem dL_put_24 : decode cL_put 24 = .ok (.iastore, 1) := by decide +kernel
theorem dL_put_25 : decode cL_put 25 = .ok (.iinc 3 (-1), 3) := by decide +kernel
theorem dL_put_28 : decode cL_put 28 = .ok (.goto (-24), 3) := by decide +kernel
theorem dL_put_31 : decode cL_put 31 = .ok (.aload_n 1, 1) := by decide +kernel
theorem dL_put_32 : decode cL_put 32 = .ok (.iload_n 3, 1) := by decide +kernel
theorem dL_put_33 : decode cL_put 33 = .ok (.iload_n 2, 1) := by decide +kernel
theorem dL_put_34 : decode cL_put 34 = .ok (.iastore, 1) := by decide +kernel
theorem dL_put_35 : decode cL_put 35 = .ok (.aload_n 0, 1) := by decide +kernel
theorem dL_put_36 : decode cL_put 36 = .ok (.iconst 3, 1) := by decide +kernel
theorem dL_put_37 : decode cL_put 37 = .ok (.dup2, 1) := by decide +kernel
theorem dL_put_38 : decode cL_put 38 = .ok (.iaload, 1) := by decide +kernel
theorem dL_put_39 : decode cL_put 39 = .ok (.iconst 1, 1) := by decide +kernel
theorem dL_put_40 : decode cL_put 40 = .ok (.iadd, 1) := by decide +kernel
theorem dL_put_41 : decode cL_put 41 = .ok (.iastore, 1) := by decide +kernel
theorem dL_put_42 : decode cL_put 42 = .ok (.return_, 1) := by decide +kernel
theorem dL_place_0 : decode cL_place 0 = .ok (.iconst 0, 1) := by decide +kernel
theorem dL_place_1 : decode cL_place 1 = .ok (.istore_n 3, 1) := by decide +kernel
theorem dL_place_2 : decode cL_place 2 = .ok (.iload_n 3, 1) := by decide +kernel
theorem dL_place_3 : decode cL_place 3 = .ok (.aload_n 0, 1) := by decide +kernel
theorem dL_place_4 : decode cL_place 4 = .ok (.iconst 3, 1) := by decide +kernel
theorem dL_place_5 : decode cL_place 5 = .ok (.iaload, 1) := by decide +kernel
theorem dL_place_6 : decode cL_place 6 = .ok (.if_icmp .ge 18, 3) := by decide +kernel
theorem dL_place_9 : decode cL_place 9 = .ok (.aload_n 1, 1) := by decide +kernel
theorem dL_place_10 : decode cL_place 10 = .ok (.iload_n 3, 1) := by decide +kernel
theorem dL_place_11 : decode cL_place 11 = .ok (.iaload, 1) := by decide +kernel
theorem dL_place_12 : decode cL_place 12 = .ok (.iload_n 2, 1) := by decide +kernel
theorem dL_place_13 : decode cL_place 13 = .ok (.if_icmp .ne 5, 3) := by decide +kernel
theorem dL_place_16 : decode cL_place 16 = .ok (.iload_n 3, 1) := by decide +kernel
theorem dL_place_17 : decode cL_place 17 = .ok (.ireturn, 1) := by decide +kernel
theorem dL_place_18 : decode cL_place 18 = .ok (.iinc 3 1, 3) := by decide +kernel
theorem dL_place_21 : decode cL_place 21 = .ok (.goto (-19), 3) := by decide +kernel
theorem dL_place_24 : decode cL_place 24 = .ok (.iconst (-1), 1) := by decide +kernel
theorem dL_place_25 : decode cL_place 25 = .ok (.ireturn, 1) := by decide +kernel
theorem dL_mute_0 : decode cL_mute 0 = .ok (.aload_n 1, 1) := by decide +kernel
theorem dL_mute_1 : decode cL_mute 1 = .ok (.iload_n 2, 1) := by decide +kernel
theorem dL_mute_2 : decode cL_mute 2 = .ok (.iaload, 1) := by decide +kernel
theorem dL_mute_3 : decode cL_mute 3 = .ok (.istore_n 3, 1) := by decide +kernel
theorem dL_mute_4 : decode cL_mute 4 = .ok (.aload_n 0, 1) := by decide +kernel
theorem dL_mute_5 : decode cL_mute 5 = .ok (.iconst 3, 1) := by decide +kernel
theorem dL_mute_6 : decode cL_mute 6 = .ok (.dup2, 1) := by decide +kernel
theorem dL_mute_7 : decode cL_mute 7 = .ok (.iaload, 1) := by decide +kernel
theorem dL_mute_8 : decode cL_mute 8 = .ok (.iconst 1, 1) := by decide +kernel
theorem dL_mute_9 : decode cL_mute 9 = .ok (.isub, 1) := by decide +kernel
theorem dL_mute_10 : decode cL_mute 10 = .ok (.iastore, 1) := by decide +kernel
theorem dL_mute_11 : decode cL_mute 11 = .ok (.iload_n 2, 1) := by decide +kernel
theorem dL_mute_12 : decode cL_mute 12 = .ok (.istore 4, 2) := by decide +kernel
theorem dL_mute_14 : decode cL_mute 14 = .ok (.iload 4, 2) := by decide +kernel
theorem dL_mute_16 : decode cL_mute 16 = .ok (.aload_n 0, 1) := by decide +kernel
theorem dL_mute_17 : decode cL_mute 17 = .ok (.iconst 3, 1) := by decide +kernel
theorem dL_mute_18 : decode cL_mute 18 = .ok (.iaload, 1) := by decide +kernel
theorem dL_mute_19 : decode cL_mute 19 = .ok (.if_icmp .ge 19, 3) := by decide +kernel
theorem dL_mute_22 : decode cL_mute 22 = .ok (.aload_n 1, 1) := by decide +kernel
theorem dL_mute_23 : decode cL_mute 23 = .ok (.iload 4, 2) := by decide +kernel
theorem dL_mute_25 : decode cL_mute 25 = .ok (.aload_n 1, 1) := by decide +kernel
theorem dL_mute_26 : decode cL_mute 26 = .ok (.iload 4, 2) := by decide +kernel
theorem dL_mute_28 : decode cL_mute 28 = .ok (.iconst 1, 1) := by decide +kernel
theorem dL_mute_29 : decode cL_mute 29 = .ok (.iadd, 1) := by decide +kernel
theorem dL_mute_30 : decode cL_mute 30 = .ok (.iaload, 1) := by decide +kernel
theorem dL_mute_31 : decode cL_mute 31 = .ok (.iastore, 1) := by decide +kernel
theorem dL_mute_32 : decode cL_mute 32 = .ok (.iinc 4 1, 3) := by decide +kernel
theorem dL_mute_35 : decode cL_mute 35 = .ok (.goto (-21), 3) := by decide +kernel
theorem dL_mute_38 : decode cL_mute 38 = .ok (.iload_n 3, 1) := by decide +kernel
theorem dL_mute_39 : decode cL_mute 39 = .ok (.ireturn, 1) := by decide +kernel
theorem dL_ring_0 : decode cL_ring 0 = .ok (.aload_n 0, 1) := by decide +kernel
theorem dL_ring_1 : decode cL_ring 1 = .ok (.iconst 3, 1) := by decide +kernel
theorem dL_ring_2 : decode cL_ring 2 = .ok (.iaload, 1) := by decide +kernel
theorem dL_ring_3 : decode cL_ring 3 = .ok (.ifCond .ne 7, 3) := by decide +kernel
theorem dL_ring_6 : decode cL_ring 6 = .ok (.iconst 0, 1) := by decide +kernel
theorem dL_ring_7 : decode cL_ring 7 = .ok (.goto 28, 3) := by decide +kernel
theorem dL_ring_10 : decode cL_ring 10 = .ok (.aload_n 1, 1) := by decide +kernel
theorem dL_ring_11 : decode cL_ring 11 = .ok (.aload_n 0, 1) := by decide +kernel
theorem dL_ring_12 : decode cL_ring 12 = .ok (.iconst 3, 1) := by decide +kernel
theorem dL_ring_13 : decode cL_ring 13 = .ok (.iaload, 1) := by decide +kernel
theorem dL_ring_14 : decode cL_ring 14 = .ok (.iconst 1, 1) := by decide +kernel
theorem dL_ring_15 : decode cL_ring 15 = .ok (.isub, 1) := by decide +kernel
theorem dL_ring_16 : decode cL_ring 16 = .ok (.iaload, 1) := by decide +kernel
theorem dL_ring_17 : decode cL_ring 17 = .ok (.bipush 6, 2) := by decide +kernel
theorem dL_ring_19 : decode cL_ring 19 = .ok (.aload_n 0, 1) := by decide +kernel
theorem dL_ring_20 : decode cL_ring 20 = .ok (.iconst 0, 1) := by decide +kernel
theorem dL_ring_21 : decode cL_ring 21 = .ok (.iaload, 1) := by decide +kernel
theorem dL_ring_22 : decode cL_ring 22 = .ok (.imul, 1) := by decide +kernel
theorem dL_ring_23 : decode cL_ring 23 = .ok (.iadd, 1) := by decide +kernel
theorem dL_ring_24 : decode cL_ring 24 = .ok (.bipush 6, 2) := by decide +kernel
theorem dL_ring_26 : decode cL_ring 26 = .ok (.aload_n 0, 1) := by decide +kernel
theorem dL_ring_27 : decode cL_ring 27 = .ok (.iconst 0, 1) := by decide +kernel
theorem dL_ring_28 : decode cL_ring 28 = .ok (.iaload, 1) := by decide +kernel
theorem dL_ring_29 : decode cL_ring 29 = .ok (.imul, 1) := by decide +kernel
theorem dL_ring_30 : decode cL_ring 30 = .ok (.aload_n 0, 1) := by decide +kernel
theorem dL_ring_31 : decode cL_ring 31 = .ok (.iconst 2, 1) := by decide +kernel
theorem dL_ring_32 : decode cL_ring 32 = .ok (.iaload, 1) := by decide +kernel
theorem dL_ring_33 : decode cL_ring 33 = .ok (.imul, 1) := by decide +kernel
theorem dL_ring_34 : decode cL_ring 34 = .ok (.iadd, 1) := by decide +kernel
theorem dL_ring_35 : decode cL_ring 35 = .ok (.istore 4, 2) := by decide +kernel
theorem dL_ring_37 : decode cL_ring 37 = .ok (.aload_n 2, 1) := by decide +kernel
theorem dL_ring_38 : decode cL_ring 38 = .ok (.iload_n 3, 1) := by decide +kernel
theorem dL_ring_39 : decode cL_ring 39 = .ok (.iaload, 1) := by decide +kernel
theorem dL_ring_40 : decode cL_ring 40 = .ok (.iconst 5, 1) := by decide +kernel
theorem dL_ring_41 : decode cL_ring 41 = .ok (.idiv, 1) := by decide +kernel
theorem dL_ring_42 : decode cL_ring 42 = .ok (.istore 5, 2) := by decide +kernel
theorem dL_ring_44 : decode cL_ring 44 = .ok (.iload 5, 2) := by decide +kernel
theorem dL_ring_46 : decode cL_ring 46 = .ok (.ifCond .lt 37, 3) := by decide +kernel
theorem dL_ring_49 : decode cL_ring 49 = .ok (.aload_n 0, 1) := by decide +kernel
theorem dL_ring_50 : decode cL_ring 50 = .ok (.aload_n 1, 1) := by decide +kernel
theorem dL_ring_51 : decode cL_ring 51 = .ok (.iload 4, 2) := by decide +kernel
theorem dL_ring_53 : decode cL_ring 53 = .ok (.invokestatic 34, 3) := by decide +kernel
theorem dL_ring_56 : decode cL_ring 56 = .ok (.iload 4, 2) := by decide +kernel
theorem dL_ring_58 : decode cL_ring 58 = .ok (.iload 5, 2) := by decide +kernel
theorem dL_ring_60 : decode cL_ring 60 = .ok (.ifCond .ne 11, 3) := by decide +kernel
theorem dL_ring_63 : decode cL_ring 63 = .ok (.iconst 3, 1) := by decide +kernel
theorem dL_ring_64 : decode cL_ring 64 = .ok (.aload_n 0, 1) := by decide +kernel
theorem dL_ring_65 : decode cL_ring 65 = .ok (.iconst 0, 1) := by decide +kernel
theorem dL_ring_66 : decode cL_ring 66 = .ok (.iaload, 1) := by decide +kernel
theorem dL_ring_67 : decode cL_ring 67 = .ok (.imul, 1) := by decide +kernel
theorem dL_ring_68 : decode cL_ring 68 = .ok (.goto 6, 3) := by decide +kernel
theorem dL_ring_71 : decode cL_ring 71 = .ok (.aload_n 0, 1) := by decide +kernel
theorem dL_ring_72 : decode cL_ring 72 = .ok (.iconst 0, 1) := by decide +kernel
theorem dL_ring_73 : decode cL_ring 73 = .ok (.iaload, 1) := by decide +kernel
theorem dL_ring_74 : decode cL_ring 74 = .ok (.iadd, 1) := by decide +kernel
theorem dL_ring_75 : decode cL_ring 75 = .ok (.istore 4, 2) := by decide +kernel
theorem dL_ring_77 : decode cL_ring 77 = .ok (.iinc 5 (-1), 3) := by decide +kernel
theorem dL_ring_80 : decode cL_ring 80 = .ok (.goto (-36), 3) := by decide +kernel
theorem dL_ring_83 : decode cL_ring 83 = .ok (.aload_n 2, 1) := by decide +kernel
theorem dL_ring_84 : decode cL_ring 84 = .ok (.iload_n 3, 1) := by decide +kernel
theorem dL_ring_85 : decode cL_ring 85 = .ok (.iaload, 1) := by decide +kernel
theorem dL_ring_86 : decode cL_ring 86 = .ok (.iconst 5, 1) := by decide +kernel
theorem dL_ring_87 : decode cL_ring 87 = .ok (.irem, 1) := by decide +kernel
theorem dL_ring_88 : decode cL_ring 88 = .ok (.istore 5, 2) := by decide +kernel
theorem dL_ring_90 : decode cL_ring 90 = .ok (.iload 5, 2) := by decide +kernel
theorem dL_ring_92 : decode cL_ring 92 = .ok (.ifCond .lt 24, 3) := by decide +kernel
theorem dL_ring_95 : decode cL_ring 95 = .ok (.aload_n 0, 1) := by decide +kernel
theorem dL_ring_96 : decode cL_ring 96 = .ok (.aload_n 1, 1) := by decide +kernel
theorem dL_ring_97 : decode cL_ring 97 = .ok (.iload 4, 2) := by decide +kernel
theorem dL_ring_99 : decode cL_ring 99 = .ok (.invokestatic 34, 3) := by decide +kernel
theorem dL_ring_102 : decode cL_ring 102 = .ok (.iload 4, 2) := by decide +kernel
theorem dL_ring_104 : decode cL_ring 104 = .ok (.aload_n 0, 1) := by decide +kernel
theorem dL_ring_105 : decode cL_ring 105 = .ok (.iconst 0, 1) := by decide +kernel
theorem dL_ring_106 : decode cL_ring 106 = .ok (.iaload, 1) := by decide +kernel
theorem dL_ring_107 : decode cL_ring 107 = .ok (.iadd, 1) := by decide +kernel
theorem dL_ring_108 : decode cL_ring 108 = .ok (.istore 4, 2) := by decide +kernel
theorem dL_ring_110 : decode cL_ring 110 = .ok (.iinc 5 (-1), 3) := by decide +kernel
theorem dL_ring_113 : decode cL_ring 113 = .ok (.goto (-23), 3) := by decide +kernel
theorem dL_ring_116 : decode cL_ring 116 = .ok (.aload_n 0, 1) := by decide +kernel
theorem dL_ring_117 : decode cL_ring 117 = .ok (.iconst 2, 1) := by decide +kernel
theorem dL_ring_118 : decode cL_ring 118 = .ok (.iconst 0, 1) := by decide +kernel
theorem dL_ring_119 : decode cL_ring 119 = .ok (.iastore, 1) := by decide +kernel
theorem dL_ring_120 : decode cL_ring 120 = .ok (.return_, 1) := by decide +kernel
theorem dL_acts_0 : decode cL_acts 0 = .ok (.iload 4, 2) := by decide +kernel
theorem dL_acts_2 : decode cL_acts 2 = .ok (.iconst 5, 1) := by decide +kernel
theorem dL_acts_3 : decode cL_acts 3 = .ok (.ishr, 1) := by decide +kernel
theorem dL_acts_4 : decode cL_acts 4 = .ok (.ldc 38, 2) := by decide +kernel
theorem dL_acts_6 : decode cL_acts 6 = .ok (.invokestatic 39, 3) := by decide +kernel
theorem dL_acts_9 : decode cL_acts 9 = .ok (.istore 5, 2) := by decide +kernel
theorem dL_acts_11 : decode cL_acts 11 = .ok (.iload 4, 2) := by decide +kernel
theorem dL_acts_13 : decode cL_acts 13 = .ok (.bipush 24, 2) := by decide +kernel
theorem dL_acts_15 : decode cL_acts 15 = .ok (.invokestatic 39, 3) := by decide +kernel
theorem dL_acts_18 : decode cL_acts 18 = .ok (.istore 6, 2) := by decide +kernel
theorem dL_acts_20 : decode cL_acts 20 = .ok (.iload 6, 2) := by decide +kernel
theorem dL_acts_22 : decode cL_acts 22 = .ok (.ifCond .ne 63, 3) := by decide +kernel
theorem dL_acts_25 : decode cL_acts 25 = .ok (.iload 5, 2) := by decide +kernel
theorem dL_acts_27 : decode cL_acts 27 = .ok (.iconst 2, 1) := by decide +kernel
theorem dL_acts_28 : decode cL_acts 28 = .ok (.irem, 1) := by decide +kernel
theorem dL_acts_29 : decode cL_acts 29 = .ok (.istore 7, 2) := by decide +kernel
theorem dL_acts_31 : decode cL_acts 31 = .ok (.aload_n 1, 1) := by decide +kernel
theorem dL_acts_32 : decode cL_acts 32 = .ok (.iload 7, 2) := by decide +kernel
theorem dL_acts_34 : decode cL_acts 34 = .ok (.iaload, 1) := by decide +kernel
theorem dL_acts_35 : decode cL_acts 35 = .ok (.istore 8, 2) := by decide +kernel
theorem dL_acts_37 : decode cL_acts 37 = .ok (.aload_n 1, 1) := by decide +kernel
theorem dL_acts_38 : decode cL_acts 38 = .ok (.iload 7, 2) := by decide +kernel
theorem dL_acts_40 : decode cL_acts 40 = .ok (.iload 7, 2) := by decide +kernel
theorem dL_acts_42 : decode cL_acts 42 = .ok (.ifCond .ne 15, 3) := by decide +kernel
theorem dL_acts_45 : decode cL_acts 45 = .ok (.iconst 4, 1) := by decide +kernel
theorem dL_acts_46 : decode cL_acts 46 = .ok (.iload 5, 2) := by decide +kernel
theorem dL_acts_48 : decode cL_acts 48 = .ok (.iconst 2, 1) := by decide +kernel
theorem dL_acts_49 : decode cL_acts 49 = .ok (.idiv, 1) := by decide +kernel
theorem dL_acts_50 : decode cL_acts 50 = .ok (.bipush 17, 2) := by decide +kernel
theorem dL_acts_52 : decode cL_acts 52 = .ok (.irem, 1) := by decide +kernel
theorem dL_acts_53 : decode cL_acts 53 = .ok (.iadd, 1) := by decide +kernel
theorem dL_acts_54 : decode cL_acts 54 = .ok (.goto 9, 3) := by decide +kernel
theorem dL_acts_57 : decode cL_acts 57 = .ok (.iload 5, 2) := by decide +kernel
theorem dL_acts_59 : decode cL_acts 59 = .ok (.iconst 2, 1) := by decide +kernel
theorem dL_acts_60 : decode cL_acts 60 = .ok (.idiv, 1) := by decide +kernel
theorem dL_acts_61 : decode cL_acts 61 = .ok (.iconst 4, 1) := by decide +kernel
theorem dL_acts_62 : decode cL_acts 62 = .ok (.irem, 1) := by decide +kernel
theorem dL_acts_63 : decode cL_acts 63 = .ok (.iastore, 1) := by decide +kernel
theorem dL_acts_64 : decode cL_acts 64 = .ok (.aload_n 0, 1) := by decide +kernel
theorem dL_acts_65 : decode cL_acts 65 = .ok (.iload 7, 2) := by decide +kernel
theorem dL_acts_67 : decode cL_acts 67 = .ok (.aload_n 1, 1) := by decide +kernel
theorem dL_acts_68 : decode cL_acts 68 = .ok (.iload 7, 2) := by decide +kernel
theorem dL_acts_70 : decode cL_acts 70 = .ok (.iaload, 1) := by decide +kernel
theorem dL_acts_71 : decode cL_acts 71 = .ok (.invokevirtual 43, 3) := by decide +kernel
theorem dL_acts_74 : decode cL_acts 74 = .ok (.iload 8, 2) := by decide +kernel
theorem dL_acts_76 : decode cL_acts 76 = .ok (.if_icmp .ne 7, 3) := by decide +kernel
theorem dL_acts_79 : decode cL_acts 79 = .ok (.iconst 1, 1) := by decide +kernel
theorem dL_acts_80 : decode cL_acts 80 = .ok (.goto 4, 3) := by decide +kernel
theorem dL_acts_83 : decode cL_acts 83 = .ok (.iconst 0, 1) := by decide +kernel
theorem dL_acts_84 : decode cL_acts 84 = .ok (.ireturn, 1) := by decide +kernel
theorem dL_acts_85 : decode cL_acts 85 = .ok (.iload 6, 2) := by decide +kernel
theorem dL_acts_87 : decode cL_acts 87 = .ok (.iconst 1, 1) := by decide +kernel
theorem dL_acts_88 : decode cL_acts 88 = .ok (.if_icmp .ne 102, 3) := by decide +kernel
theorem dL_acts_91 : decode cL_acts 91 = .ok (.iload 5, 2) := by decide +kernel
theorem dL_acts_93 : decode cL_acts 93 = .ok (.bipush 25, 2) := by decide +kernel
theorem dL_acts_95 : decode cL_acts 95 = .ok (.irem, 1) := by decide +kernel
theorem dL_acts_96 : decode cL_acts 96 = .ok (.istore 7, 2) := by decide +kernel
theorem dL_acts_98 : decode cL_acts 98 = .ok (.iload 5, 2) := by decide +kernel
theorem dL_acts_100 : decode cL_acts 100 = .ok (.bipush 25, 2) := by decide +kernel
theorem dL_acts_102 : decode cL_acts 102 = .ok (.idiv, 1) := by decide +kernel
theorem dL_acts_103 : decode cL_acts 103 = .ok (.bipush 25, 2) := by decide +kernel
theorem dL_acts_105 : decode cL_acts 105 = .ok (.irem, 1) := by decide +kernel
theorem dL_acts_106 : decode cL_acts 106 = .ok (.istore 8, 2) := by decide +kernel
theorem dL_acts_108 : decode cL_acts 108 = .ok (.iload 7, 2) := by decide +kernel
theorem dL_acts_110 : decode cL_acts 110 = .ok (.iload 8, 2) := by decide +kernel
theorem dL_acts_112 : decode cL_acts 112 = .ok (.if_icmp .ne 22, 3) := by decide +kernel
theorem dL_acts_115 : decode cL_acts 115 = .ok (.aload_n 0, 1) := by decide +kernel
theorem dL_acts_116 : decode cL_acts 116 = .ok (.iload 7, 2) := by decide +kernel
theorem dL_acts_118 : decode cL_acts 118 = .ok (.iload 8, 2) := by decide +kernel
theorem dL_acts_120 : decode cL_acts 120 = .ok (.invokevirtual 48, 3) := by decide +kernel
theorem dL_acts_123 : decode cL_acts 123 = .ok (.ldc 51, 2) := by decide +kernel
theorem dL_acts_125 : decode cL_acts 125 = .ok (.if_icmp .ne 7, 3) := by decide +kernel
theorem dL_acts_128 : decode cL_acts 128 = .ok (.iconst 1, 1) := by decide +kernel
theorem dL_acts_129 : decode cL_acts 129 = .ok (.goto 4, 3) := by decide +kernel
theorem dL_acts_132 : decode cL_acts 132 = .ok (.iconst 0, 1) := by decide +kernel
theorem dL_acts_133 : decode cL_acts 133 = .ok (.ireturn, 1) := by decide +kernel
theorem dL_acts_134 : decode cL_acts 134 = .ok (.aload_n 3, 1) := by decide +kernel
theorem dL_acts_135 : decode cL_acts 135 = .ok (.iload 7, 2) := by decide +kernel
theorem dL_acts_137 : decode cL_acts 137 = .ok (.iaload, 1) := by decide +kernel
theorem dL_acts_138 : decode cL_acts 138 = .ok (.istore 9, 2) := by decide +kernel
theorem dL_acts_140 : decode cL_acts 140 = .ok (.aload_n 3, 1) := by decide +kernel
theorem dL_acts_141 : decode cL_acts 141 = .ok (.iload 7, 2) := by decide +kernel
theorem dL_acts_143 : decode cL_acts 143 = .ok (.aload_n 3, 1) := by decide +kernel
theorem dL_acts_144 : decode cL_acts 144 = .ok (.iload 8, 2) := by decide +kernel
theorem dL_acts_146 : decode cL_acts 146 = .ok (.iaload, 1) := by decide +kernel
theorem dL_acts_147 : decode cL_acts 147 = .ok (.iastore, 1) := by decide +kernel
theorem dL_acts_148 : decode cL_acts 148 = .ok (.aload_n 3, 1) := by decide +kernel
theorem dL_acts_149 : decode cL_acts 149 = .ok (.iload 8, 2) := by decide +kernel
theorem dL_acts_151 : decode cL_acts 151 = .ok (.iload 9, 2) := by decide +kernel
theorem dL_acts_153 : decode cL_acts 153 = .ok (.iastore, 1) := by decide +kernel
theorem dL_acts_154 : decode cL_acts 154 = .ok (.aload_n 0, 1) := by decide +kernel
theorem dL_acts_155 : decode cL_acts 155 = .ok (.iload 7, 2) := by decide +kernel
theorem dL_acts_157 : decode cL_acts 157 = .ok (.iload 8, 2) := by decide +kernel
theorem dL_acts_159 : decode cL_acts 159 = .ok (.invokevirtual 48, 3) := by decide +kernel
theorem dL_acts_162 : decode cL_acts 162 = .ok (.bipush 11, 2) := by decide +kernel
theorem dL_acts_164 : decode cL_acts 164 = .ok (.bipush 10, 2) := by decide +kernel
theorem dL_acts_166 : decode cL_acts 166 = .ok (.aload_n 3, 1) := by decide +kernel
theorem dL_acts_167 : decode cL_acts 167 = .ok (.iload 7, 2) := by decide +kernel
theorem dL_acts_169 : decode cL_acts 169 = .ok (.iaload, 1) := by decide +kernel
theorem dL_acts_170 : decode cL_acts 170 = .ok (.iconst 5, 1) := by decide +kernel
theorem dL_acts_171 : decode cL_acts 171 = .ok (.idiv, 1) := by decide +kernel
theorem dL_acts_172 : decode cL_acts 172 = .ok (.imul, 1) := by decide +kernel
theorem dL_acts_173 : decode cL_acts 173 = .ok (.iadd, 1) := by decide +kernel
theorem dL_acts_174 : decode cL_acts 174 = .ok (.aload_n 3, 1) := by decide +kernel
theorem dL_acts_175 : decode cL_acts 175 = .ok (.iload 7, 2) := by decide +kernel
theorem dL_acts_177 : decode cL_acts 177 = .ok (.iaload, 1) := by decide +kernel
theorem dL_acts_178 : decode cL_acts 178 = .ok (.iconst 5, 1) := by decide +kernel
theorem dL_acts_179 : decode cL_acts 179 = .ok (.irem, 1) := by decide +kernel
theorem dL_acts_180 : decode cL_acts 180 = .ok (.iadd, 1) := by decide +kernel
theorem dL_acts_181 : decode cL_acts 181 = .ok (.if_icmp .ne 7, 3) := by decide +kernel
theorem dL_acts_184 : decode cL_acts 184 = .ok (.iconst 1, 1) := by decide +kernel
theorem dL_acts_185 : decode cL_acts 185 = .ok (.goto 4, 3) := by decide +kernel
theorem dL_acts_188 : decode cL_acts 188 = .ok (.iconst 0, 1) := by decide +kernel
theorem dL_acts_189 : decode cL_acts 189 = .ok (.ireturn, 1) := by decide +kernel
theorem dL_acts_190 : decode cL_acts 190 = .ok (.aload_n 1, 1) := by decide +kernel
theorem dL_acts_191 : decode cL_acts 191 = .ok (.iconst 3, 1) := by decide +kernel
theorem dL_acts_192 : decode cL_acts 192 = .ok (.iaload, 1) := by decide +kernel
theorem dL_acts_193 : decode cL_acts 193 = .ok (.bipush 50, 2) := by decide +kernel
theorem dL_acts_195 : decode cL_acts 195 = .ok (.if_icmp .gt 16, 3) := by decide +kernel
theorem dL_acts_198 : decode cL_acts 198 = .ok (.iload 6, 2) := by decide +kernel
theorem dL_acts_200 : decode cL_acts 200 = .ok (.bipush 20, 2) := by decide +kernel
theorem dL_acts_202 : decode cL_acts 202 = .ok (.if_icmp .le 78, 3) := by decide +kernel
theorem dL_acts_205 : decode cL_acts 205 = .ok (.aload_n 1, 1) := by decide +kernel
theorem dL_acts_206 : decode cL_acts 206 = .ok (.iconst 3, 1) := by decide +kernel
theorem dL_acts_207 : decode cL_acts 207 = .ok (.iaload, 1) := by decide +kernel
theorem dL_acts_208 : decode cL_acts 208 = .ok (.ifCond .le 72, 3) := by decide +kernel
theorem dL_acts_211 : decode cL_acts 211 = .ok (.iload 5, 2) := by decide +kernel
theorem dL_acts_213 : decode cL_acts 213 = .ok (.aload_n 1, 1) := by decide +kernel
theorem dL_acts_214 : decode cL_acts 214 = .ok (.iconst 3, 1) := by decide +kernel
theorem dL_acts_215 : decode cL_acts 215 = .ok (.iaload, 1) := by decide +kernel
theorem dL_acts_216 : decode cL_acts 216 = .ok (.iconst 1, 1) := by decide +kernel
theorem dL_acts_217 : decode cL_acts 217 = .ok (.iadd, 1) := by decide +kernel
theorem dL_acts_218 : decode cL_acts 218 = .ok (.irem, 1) := by decide +kernel
theorem dL_acts_219 : decode cL_acts 219 = .ok (.istore 7, 2) := by decide +kernel
theorem dL_acts_221 : decode cL_acts 221 = .ok (.iload 7, 2) := by decide +kernel
theorem dL_acts_223 : decode cL_acts 223 = .ok (.aload_n 1, 1) := by decide +kernel
theorem dL_acts_224 : decode cL_acts 224 = .ok (.iconst 3, 1) := by decide +kernel
theorem dL_acts_225 : decode cL_acts 225 = .ok (.iaload, 1) := by decide +kernel
theorem dL_acts_226 : decode cL_acts 226 = .ok (.if_icmp .ne 32, 3) := by decide +kernel
theorem dL_acts_229 : decode cL_acts 229 = .ok (.aload_n 0, 1) := by decide +kernel
theorem dL_acts_230 : decode cL_acts 230 = .ok (.iload 7, 2) := by decide +kernel
theorem dL_acts_232 : decode cL_acts 232 = .ok (.invokevirtual 52, 3) := by decide +kernel
theorem dL_acts_235 : decode cL_acts 235 = .ok (.ldc 51, 2) := by decide +kernel
theorem dL_acts_237 : decode cL_acts 237 = .ok (.if_icmp .ne 19, 3) := by decide +kernel
theorem dL_acts_240 : decode cL_acts 240 = .ok (.aload_n 0, 1) := by decide +kernel
theorem dL_acts_241 : decode cL_acts 241 = .ok (.iload 7, 2) := by decide +kernel
theorem dL_acts_243 : decode cL_acts 243 = .ok (.iconst 1, 1) := by decide +kernel
theorem dL_acts_244 : decode cL_acts 244 = .ok (.invokevirtual 55, 3) := by decide +kernel
theorem dL_acts_247 : decode cL_acts 247 = .ok (.ldc 51, 2) := by decide +kernel
theorem dL_acts_249 : decode cL_acts 249 = .ok (.if_icmp .ne 7, 3) := by decide +kernel
theorem dL_acts_252 : decode cL_acts 252 = .ok (.iconst 1, 1) := by decide +kernel
theorem dL_acts_253 : decode cL_acts 253 = .ok (.goto 4, 3) := by decide +kernel
theorem dL_acts_256 : decode cL_acts 256 = .ok (.iconst 0, 1) := by decide +kernel
theorem dL_acts_257 : decode cL_acts 257 = .ok (.ireturn, 1) := by decide +kernel
theorem dL_acts_258 : decode cL_acts 258 = .ok (.aload_n 0, 1) := by decide +kernel
theorem dL_acts_259 : decode cL_acts 259 = .ok (.iload 7, 2) := by decide +kernel
theorem dL_acts_261 : decode cL_acts 261 = .ok (.invokevirtual 52, 3) := by decide +kernel
theorem dL_acts_264 : decode cL_acts 264 = .ok (.aload_n 1, 1) := by decide +kernel
theorem dL_acts_265 : decode cL_acts 265 = .ok (.aload_n 2, 1) := by decide +kernel
theorem dL_acts_266 : decode cL_acts 266 = .ok (.iload 7, 2) := by decide +kernel
theorem dL_acts_268 : decode cL_acts 268 = .ok (.invokestatic 58, 3) := by decide +kernel
theorem dL_acts_271 : decode cL_acts 271 = .ok (.if_icmp .ne 7, 3) := by decide +kernel
theorem dL_acts_274 : decode cL_acts 274 = .ok (.iconst 1, 1) := by decide +kernel
theorem dL_acts_275 : decode cL_acts 275 = .ok (.goto 4, 3) := by decide +kernel
theorem dL_acts_278 : decode cL_acts 278 = .ok (.iconst 0, 1) := by decide +kernel
theorem dL_acts_279 : decode cL_acts 279 = .ok (.ireturn, 1) := by decide +kernel
theorem dL_acts_280 : decode cL_acts 280 = .ok (.iload 6, 2) := by decide +kernel
theorem dL_acts_282 : decode cL_acts 282 = .ok (.bipush 10, 2) := by decide +kernel
theorem dL_acts_284 : decode cL_acts 284 = .ok (.if_icmp .ge 84, 3) := by decide +kernel
theorem dL_acts_287 : decode cL_acts 287 = .ok (.aload_n 1, 1) := by decide +kernel
theorem dL_acts_288 : decode cL_acts 288 = .ok (.iconst 3, 1) := by decide +kernel
theorem dL_acts_289 : decode cL_acts 289 = .ok (.iaload, 1) := by decide +kernel
theorem dL_acts_290 : decode cL_acts 290 = .ok (.istore 7, 2) := by decide +kernel
theorem dL_acts_292 : decode cL_acts 292 = .ok (.iload 5, 2) := by decide +kernel
theorem dL_acts_294 : decode cL_acts 294 = .ok (.bipush 25, 2) := by decide +kernel
theorem dL_acts_296 : decode cL_acts 296 = .ok (.irem, 1) := by decide +kernel
theorem dL_acts_297 : decode cL_acts 297 = .ok (.istore 8, 2) := by decide +kernel
theorem dL_acts_299 : decode cL_acts 299 = .ok (.iload 7, 2) := by decide +kernel
theorem dL_acts_301 : decode cL_acts 301 = .ok (.ifCond .le 42, 3) := by decide +kernel
theorem dL_acts_304 : decode cL_acts 304 = .ok (.aload_n 2, 1) := by decide +kernel
theorem dL_acts_305 : decode cL_acts 305 = .ok (.iload 7, 2) := by decide +kernel
theorem dL_acts_307 : decode cL_acts 307 = .ok (.iconst 1, 1) := by decide +kernel
theorem dL_acts_308 : decode cL_acts 308 = .ok (.isub, 1) := by decide +kernel
theorem dL_acts_309 : decode cL_acts 309 = .ok (.iaload, 1) := by decide +kernel
theorem dL_acts_310 : decode cL_acts 310 = .ok (.sipush 8000, 3) := by decide +kernel
theorem dL_acts_313 : decode cL_acts 313 = .ok (.if_icmp .le 30, 3) := by decide +kernel
theorem dL_acts_316 : decode cL_acts 316 = .ok (.aload_n 0, 1) := by decide +kernel
theorem dL_acts_317 : decode cL_acts 317 = .ok (.bipush 25, 2) := by decide +kernel
theorem dL_acts_319 : decode cL_acts 319 = .ok (.invokevirtual 61, 3) := by decide +kernel
theorem dL_acts_322 : decode cL_acts 322 = .ok (.ldc 51, 2) := by decide +kernel
theorem dL_acts_324 : decode cL_acts 324 = .ok (.if_icmp .ne 17, 3) := by decide +kernel
theorem dL_acts_327 : decode cL_acts 327 = .ok (.aload_n 0, 1) := by decide +kernel
theorem dL_acts_328 : decode cL_acts 328 = .ok (.iconst (-1), 1) := by decide +kernel
theorem dL_acts_329 : decode cL_acts 329 = .ok (.invokevirtual 61, 3) := by decide +kernel
theorem dL_acts_332 : decode cL_acts 332 = .ok (.ldc 51, 2) := by decide +kernel
theorem dL_acts_334 : decode cL_acts 334 = .ok (.if_icmp .ne 7, 3) := by decide +kernel
theorem dL_acts_337 : decode cL_acts 337 = .ok (.iconst 1, 1) := by decide +kernel
theorem dL_acts_338 : decode cL_acts 338 = .ok (.goto 4, 3) := by decide +kernel
theorem dL_acts_341 : decode cL_acts 341 = .ok (.iconst 0, 1) := by decide +kernel
theorem dL_acts_342 : decode cL_acts 342 = .ok (.ireturn, 1) := by decide +kernel
theorem dL_acts_343 : decode cL_acts 343 = .ok (.aload_n 1, 1) := by decide +kernel
theorem dL_acts_344 : decode cL_acts 344 = .ok (.aload_n 2, 1) := by decide +kernel
end
section
theorem dL_acts_345 : decode cL_acts 345 = .ok (.aload_n 3, 1) := by decide +kernel
theorem dL_acts_346 : decode cL_acts 346 = .ok (.iload 8, 2) := by decide +kernel
theorem dL_acts_348 : decode cL_acts 348 = .ok (.invokestatic 64, 3) := by decide +kernel
theorem dL_acts_351 : decode cL_acts 351 = .ok (.aload_n 0, 1) := by decide +kernel
theorem dL_acts_352 : decode cL_acts 352 = .ok (.iload 8, 2) := by decide +kernel
theorem dL_acts_354 : decode cL_acts 354 = .ok (.invokevirtual 61, 3) := by decide +kernel
theorem dL_acts_357 : decode cL_acts 357 = .ok (.iload 7, 2) := by decide +kernel
theorem dL_acts_359 : decode cL_acts 359 = .ok (.if_icmp .ne 7, 3) := by decide +kernel
theorem dL_acts_362 : decode cL_acts 362 = .ok (.iconst 1, 1) := by decide +kernel
theorem dL_acts_363 : decode cL_acts 363 = .ok (.goto 4, 3) := by decide +kernel
theorem dL_acts_366 : decode cL_acts 366 = .ok (.iconst 0, 1) := by decide +kernel
theorem dL_acts_367 : decode cL_acts 367 = .ok (.ireturn, 1) := by decide +kernel
theorem dL_acts_368 : decode cL_acts 368 = .ok (.iload 6, 2) := by decide +kernel
theorem dL_acts_370 : decode cL_acts 370 = .ok (.bipush 13, 2) := by decide +kernel
theorem dL_acts_372 : decode cL_acts 372 = .ok (.if_icmp .ge 63, 3) := by decide +kernel
theorem dL_acts_375 : decode cL_acts 375 = .ok (.aload_n 1, 1) := by decide +kernel
theorem dL_acts_376 : decode cL_acts 376 = .ok (.iconst 2, 1) := by decide +kernel
theorem dL_acts_377 : decode cL_acts 377 = .ok (.iaload, 1) := by decide +kernel
theorem dL_acts_378 : decode cL_acts 378 = .ok (.ifCond .ne 13, 3) := by decide +kernel
theorem dL_acts_381 : decode cL_acts 381 = .ok (.aload_n 1, 1) := by decide +kernel
theorem dL_acts_382 : decode cL_acts 382 = .ok (.iconst 3, 1) := by decide +kernel
theorem dL_acts_383 : decode cL_acts 383 = .ok (.iaload, 1) := by decide +kernel
theorem dL_acts_384 : decode cL_acts 384 = .ok (.ifCond .le 7, 3) := by decide +kernel
theorem dL_acts_387 : decode cL_acts 387 = .ok (.iconst 1, 1) := by decide +kernel
theorem dL_acts_388 : decode cL_acts 388 = .ok (.goto 4, 3) := by decide +kernel
theorem dL_acts_391 : decode cL_acts 391 = .ok (.iconst 0, 1) := by decide +kernel
theorem dL_acts_392 : decode cL_acts 392 = .ok (.istore 7, 2) := by decide +kernel
theorem dL_acts_394 : decode cL_acts 394 = .ok (.aload_n 1, 1) := by decide +kernel
theorem dL_acts_395 : decode cL_acts 395 = .ok (.iconst 2, 1) := by decide +kernel
theorem dL_acts_396 : decode cL_acts 396 = .ok (.iload 7, 2) := by decide +kernel
theorem dL_acts_398 : decode cL_acts 398 = .ok (.ifCond .eq 7, 3) := by decide +kernel
theorem dL_acts_401 : decode cL_acts 401 = .ok (.iconst 1, 1) := by decide +kernel
theorem dL_acts_402 : decode cL_acts 402 = .ok (.goto 6, 3) := by decide +kernel
theorem dL_acts_405 : decode cL_acts 405 = .ok (.aload_n 1, 1) := by decide +kernel
theorem dL_acts_406 : decode cL_acts 406 = .ok (.iconst 2, 1) := by decide +kernel
theorem dL_acts_407 : decode cL_acts 407 = .ok (.iaload, 1) := by decide +kernel
theorem dL_acts_408 : decode cL_acts 408 = .ok (.iastore, 1) := by decide +kernel
theorem dL_acts_409 : decode cL_acts 409 = .ok (.aload_n 0, 1) := by decide +kernel
theorem dL_acts_410 : decode cL_acts 410 = .ok (.invokevirtual 67, 3) := by decide +kernel
theorem dL_acts_413 : decode cL_acts 413 = .ok (.iload 7, 2) := by decide +kernel
theorem dL_acts_415 : decode cL_acts 415 = .ok (.ifCond .eq 9, 3) := by decide +kernel
theorem dL_acts_418 : decode cL_acts 418 = .ok (.aload_n 1, 1) := by decide +kernel
theorem dL_acts_419 : decode cL_acts 419 = .ok (.iconst 3, 1) := by decide +kernel
theorem dL_acts_420 : decode cL_acts 420 = .ok (.iaload, 1) := by decide +kernel
theorem dL_acts_421 : decode cL_acts 421 = .ok (.goto 5, 3) := by decide +kernel
theorem dL_acts_424 : decode cL_acts 424 = .ok (.ldc 71, 2) := by decide +kernel
theorem dL_acts_426 : decode cL_acts 426 = .ok (.if_icmp .ne 7, 3) := by decide +kernel
theorem dL_acts_429 : decode cL_acts 429 = .ok (.iconst 1, 1) := by decide +kernel
theorem dL_acts_430 : decode cL_acts 430 = .ok (.goto 4, 3) := by decide +kernel
theorem dL_acts_433 : decode cL_acts 433 = .ok (.iconst 0, 1) := by decide +kernel
theorem dL_acts_434 : decode cL_acts 434 = .ok (.ireturn, 1) := by decide +kernel
theorem dL_acts_435 : decode cL_acts 435 = .ok (.iload 6, 2) := by decide +kernel
theorem dL_acts_437 : decode cL_acts 437 = .ok (.bipush 17, 2) := by decide +kernel
theorem dL_acts_439 : decode cL_acts 439 = .ok (.if_icmp .ge 169, 3) := by decide +kernel
theorem dL_acts_442 : decode cL_acts 442 = .ok (.aload_n 1, 1) := by decide +kernel
theorem dL_acts_443 : decode cL_acts 443 = .ok (.iconst 3, 1) := by decide +kernel
theorem dL_acts_444 : decode cL_acts 444 = .ok (.iaload, 1) := by decide +kernel
theorem dL_acts_445 : decode cL_acts 445 = .ok (.ifCond .le 163, 3) := by decide +kernel
theorem dL_acts_448 : decode cL_acts 448 = .ok (.iload 5, 2) := by decide +kernel
theorem dL_acts_450 : decode cL_acts 450 = .ok (.aload_n 1, 1) := by decide +kernel
theorem dL_acts_451 : decode cL_acts 451 = .ok (.iconst 3, 1) := by decide +kernel
theorem dL_acts_452 : decode cL_acts 452 = .ok (.iaload, 1) := by decide +kernel
theorem dL_acts_453 : decode cL_acts 453 = .ok (.irem, 1) := by decide +kernel
theorem dL_acts_454 : decode cL_acts 454 = .ok (.istore 7, 2) := by decide +kernel
theorem dL_acts_456 : decode cL_acts 456 = .ok (.iload 5, 2) := by decide +kernel
theorem dL_acts_458 : decode cL_acts 458 = .ok (.bipush 64, 2) := by decide +kernel
theorem dL_acts_460 : decode cL_acts 460 = .ok (.idiv, 1) := by decide +kernel
theorem dL_acts_461 : decode cL_acts 461 = .ok (.sipush 199, 3) := by decide +kernel
theorem dL_acts_464 : decode cL_acts 464 = .ok (.irem, 1) := by decide +kernel
theorem dL_acts_465 : decode cL_acts 465 = .ok (.bipush 99, 2) := by decide +kernel
theorem dL_acts_467 : decode cL_acts 467 = .ok (.isub, 1) := by decide +kernel
theorem dL_acts_468 : decode cL_acts 468 = .ok (.istore 8, 2) := by decide +kernel
theorem dL_acts_470 : decode cL_acts 470 = .ok (.iload 5, 2) := by decide +kernel
theorem dL_acts_472 : decode cL_acts 472 = .ok (.iconst 3, 1) := by decide +kernel
theorem dL_acts_473 : decode cL_acts 473 = .ok (.irem, 1) := by decide +kernel
theorem dL_acts_474 : decode cL_acts 474 = .ok (.ifCond .le 11, 3) := by decide +kernel
theorem dL_acts_477 : decode cL_acts 477 = .ok (.iload 8, 2) := by decide +kernel
theorem dL_acts_479 : decode cL_acts 479 = .ok (.bipush 12, 2) := by decide +kernel
theorem dL_acts_481 : decode cL_acts 481 = .ok (.irem, 1) := by decide +kernel
theorem dL_acts_482 : decode cL_acts 482 = .ok (.goto 5, 3) := by decide +kernel
theorem dL_acts_485 : decode cL_acts 485 = .ok (.iload 8, 2) := by decide +kernel
theorem dL_acts_487 : decode cL_acts 487 = .ok (.istore 8, 2) := by decide +kernel
theorem dL_acts_489 : decode cL_acts 489 = .ok (.aload_n 2, 1) := by decide +kernel
theorem dL_acts_490 : decode cL_acts 490 = .ok (.iload 7, 2) := by decide +kernel
theorem dL_acts_492 : decode cL_acts 492 = .ok (.iaload, 1) := by decide +kernel
theorem dL_acts_493 : decode cL_acts 493 = .ok (.iload 8, 2) := by decide +kernel
theorem dL_acts_495 : decode cL_acts 495 = .ok (.iadd, 1) := by decide +kernel
theorem dL_acts_496 : decode cL_acts 496 = .ok (.istore 9, 2) := by decide +kernel
theorem dL_acts_498 : decode cL_acts 498 = .ok (.iload 8, 2) := by decide +kernel
theorem dL_acts_500 : decode cL_acts 500 = .ok (.ifCond .eq 26, 3) := by decide +kernel
theorem dL_acts_503 : decode cL_acts 503 = .ok (.iload 9, 2) := by decide +kernel
theorem dL_acts_505 : decode cL_acts 505 = .ok (.ifCond .lt 21, 3) := by decide +kernel
theorem dL_acts_508 : decode cL_acts 508 = .ok (.iload 9, 2) := by decide +kernel
theorem dL_acts_510 : decode cL_acts 510 = .ok (.sipush 9999, 3) := by decide +kernel
theorem dL_acts_513 : decode cL_acts 513 = .ok (.if_icmp .gt 13, 3) := by decide +kernel
theorem dL_acts_516 : decode cL_acts 516 = .ok (.aload_n 1, 1) := by decide +kernel
theorem dL_acts_517 : decode cL_acts 517 = .ok (.aload_n 2, 1) := by decide +kernel
theorem dL_acts_518 : decode cL_acts 518 = .ok (.iload 9, 2) := by decide +kernel
theorem dL_acts_520 : decode cL_acts 520 = .ok (.invokestatic 72, 3) := by decide +kernel
theorem dL_acts_523 : decode cL_acts 523 = .ok (.ifCond .lt 32, 3) := by decide +kernel
theorem dL_acts_526 : decode cL_acts 526 = .ok (.aload_n 0, 1) := by decide +kernel
theorem dL_acts_527 : decode cL_acts 527 = .ok (.iload 7, 2) := by decide +kernel
theorem dL_acts_529 : decode cL_acts 529 = .ok (.iload 8, 2) := by decide +kernel
theorem dL_acts_531 : decode cL_acts 531 = .ok (.invokevirtual 55, 3) := by decide +kernel
theorem dL_acts_534 : decode cL_acts 534 = .ok (.iload 8, 2) := by decide +kernel
theorem dL_acts_536 : decode cL_acts 536 = .ok (.ifCond .ne 8, 3) := by decide +kernel
theorem dL_acts_539 : decode cL_acts 539 = .ok (.ldc 51, 2) := by decide +kernel
theorem dL_acts_541 : decode cL_acts 541 = .ok (.goto 5, 3) := by decide +kernel
theorem dL_acts_544 : decode cL_acts 544 = .ok (.ldc 71, 2) := by decide +kernel
theorem dL_acts_546 : decode cL_acts 546 = .ok (.if_icmp .ne 7, 3) := by decide +kernel
theorem dL_acts_549 : decode cL_acts 549 = .ok (.iconst 1, 1) := by decide +kernel
theorem dL_acts_550 : decode cL_acts 550 = .ok (.goto 4, 3) := by decide +kernel
theorem dL_acts_553 : decode cL_acts 553 = .ok (.iconst 0, 1) := by decide +kernel
theorem dL_acts_554 : decode cL_acts 554 = .ok (.ireturn, 1) := by decide +kernel
theorem dL_acts_555 : decode cL_acts 555 = .ok (.aload_n 1, 1) := by decide +kernel
theorem dL_acts_556 : decode cL_acts 556 = .ok (.aload_n 2, 1) := by decide +kernel
theorem dL_acts_557 : decode cL_acts 557 = .ok (.iload 7, 2) := by decide +kernel
theorem dL_acts_559 : decode cL_acts 559 = .ok (.invokestatic 58, 3) := by decide +kernel
theorem dL_acts_562 : decode cL_acts 562 = .ok (.ifCond .lt 7, 3) := by decide +kernel
theorem dL_acts_565 : decode cL_acts 565 = .ok (.iconst 1, 1) := by decide +kernel
theorem dL_acts_566 : decode cL_acts 566 = .ok (.goto 4, 3) := by decide +kernel
theorem dL_acts_569 : decode cL_acts 569 = .ok (.iconst 0, 1) := by decide +kernel
theorem dL_acts_570 : decode cL_acts 570 = .ok (.istore 10, 2) := by decide +kernel
theorem dL_acts_572 : decode cL_acts 572 = .ok (.aload_n 1, 1) := by decide +kernel
theorem dL_acts_573 : decode cL_acts 573 = .ok (.aload_n 2, 1) := by decide +kernel
theorem dL_acts_574 : decode cL_acts 574 = .ok (.iload 9, 2) := by decide +kernel
theorem dL_acts_576 : decode cL_acts 576 = .ok (.invokestatic 34, 3) := by decide +kernel
theorem dL_acts_579 : decode cL_acts 579 = .ok (.iload 10, 2) := by decide +kernel
theorem dL_acts_581 : decode cL_acts 581 = .ok (.ifCond .eq 25, 3) := by decide +kernel
theorem dL_acts_584 : decode cL_acts 584 = .ok (.aload_n 0, 1) := by decide +kernel
theorem dL_acts_585 : decode cL_acts 585 = .ok (.iload 7, 2) := by decide +kernel
theorem dL_acts_587 : decode cL_acts 587 = .ok (.iload 8, 2) := by decide +kernel
theorem dL_acts_589 : decode cL_acts 589 = .ok (.invokevirtual 55, 3) := by decide +kernel
theorem dL_acts_592 : decode cL_acts 592 = .ok (.aload_n 1, 1) := by decide +kernel
theorem dL_acts_593 : decode cL_acts 593 = .ok (.aload_n 2, 1) := by decide +kernel
theorem dL_acts_594 : decode cL_acts 594 = .ok (.iload 9, 2) := by decide +kernel
theorem dL_acts_596 : decode cL_acts 596 = .ok (.invokestatic 72, 3) := by decide +kernel
theorem dL_acts_599 : decode cL_acts 599 = .ok (.if_icmp .ne 7, 3) := by decide +kernel
theorem dL_acts_602 : decode cL_acts 602 = .ok (.iconst 1, 1) := by decide +kernel
theorem dL_acts_603 : decode cL_acts 603 = .ok (.goto 4, 3) := by decide +kernel
theorem dL_acts_606 : decode cL_acts 606 = .ok (.iconst 0, 1) := by decide +kernel
theorem dL_acts_607 : decode cL_acts 607 = .ok (.ireturn, 1) := by decide +kernel
theorem dL_acts_608 : decode cL_acts 608 = .ok (.iload 5, 2) := by decide +kernel
theorem dL_acts_610 : decode cL_acts 610 = .ok (.sipush 1500, 3) := by decide +kernel
theorem dL_acts_613 : decode cL_acts 613 = .ok (.irem, 1) := by decide +kernel
theorem dL_acts_614 : decode cL_acts 614 = .ok (.istore 7, 2) := by decide +kernel
theorem dL_acts_616 : decode cL_acts 616 = .ok (.aload_n 1, 1) := by decide +kernel
theorem dL_acts_617 : decode cL_acts 617 = .ok (.aload_n 2, 1) := by decide +kernel
theorem dL_acts_618 : decode cL_acts 618 = .ok (.iload 7, 2) := by decide +kernel
theorem dL_acts_620 : decode cL_acts 620 = .ok (.invokestatic 72, 3) := by decide +kernel
theorem dL_acts_623 : decode cL_acts 623 = .ok (.ifCond .lt 20, 3) := by decide +kernel
theorem dL_acts_626 : decode cL_acts 626 = .ok (.aload_n 0, 1) := by decide +kernel
theorem dL_acts_627 : decode cL_acts 627 = .ok (.iload 7, 2) := by decide +kernel
theorem dL_acts_629 : decode cL_acts 629 = .ok (.invokevirtual 75, 3) := by decide +kernel
theorem dL_acts_632 : decode cL_acts 632 = .ok (.ldc 71, 2) := by decide +kernel
theorem dL_acts_634 : decode cL_acts 634 = .ok (.if_icmp .ne 7, 3) := by decide +kernel
theorem dL_acts_637 : decode cL_acts 637 = .ok (.iconst 1, 1) := by decide +kernel
theorem dL_acts_638 : decode cL_acts 638 = .ok (.goto 4, 3) := by decide +kernel
theorem dL_acts_641 : decode cL_acts 641 = .ok (.iconst 0, 1) := by decide +kernel
theorem dL_acts_642 : decode cL_acts 642 = .ok (.ireturn, 1) := by decide +kernel
theorem dL_acts_643 : decode cL_acts 643 = .ok (.aload_n 1, 1) := by decide +kernel
theorem dL_acts_644 : decode cL_acts 644 = .ok (.aload_n 2, 1) := by decide +kernel
theorem dL_acts_645 : decode cL_acts 645 = .ok (.iload 7, 2) := by decide +kernel
theorem dL_acts_647 : decode cL_acts 647 = .ok (.invokestatic 34, 3) := by decide +kernel
theorem dL_acts_650 : decode cL_acts 650 = .ok (.aload_n 0, 1) := by decide +kernel
theorem dL_acts_651 : decode cL_acts 651 = .ok (.iload 7, 2) := by decide +kernel
theorem dL_acts_653 : decode cL_acts 653 = .ok (.invokevirtual 75, 3) := by decide +kernel
theorem dL_acts_656 : decode cL_acts 656 = .ok (.aload_n 1, 1) := by decide +kernel
theorem dL_acts_657 : decode cL_acts 657 = .ok (.aload_n 2, 1) := by decide +kernel
theorem dL_acts_658 : decode cL_acts 658 = .ok (.iload 7, 2) := by decide +kernel
theorem dL_acts_660 : decode cL_acts 660 = .ok (.invokestatic 72, 3) := by decide +kernel
theorem dL_acts_663 : decode cL_acts 663 = .ok (.if_icmp .ne 7, 3) := by decide +kernel
theorem dL_acts_666 : decode cL_acts 666 = .ok (.iconst 1, 1) := by decide +kernel
theorem dL_acts_667 : decode cL_acts 667 = .ok (.goto 4, 3) := by decide +kernel
theorem dL_acts_670 : decode cL_acts 670 = .ok (.iconst 0, 1) := by decide +kernel
theorem dL_acts_671 : decode cL_acts 671 = .ok (.ireturn, 1) := by decide +kernel
theorem dL_isSo_0 : decode cL_isSo 0 = .ok (.bipush 64, 2) := by decide +kernel
theorem dL_isSo_2 : decode cL_isSo 2 = .ok (.newarray .int, 2) := by decide +kernel
theorem dL_isSo_4 : decode cL_isSo 4 = .ok (.astore 4, 2) := by decide +kernel
theorem dL_isSo_6 : decode cL_isSo 6 = .ok (.bipush 64, 2) := by decide +kernel
theorem dL_isSo_8 : decode cL_isSo 8 = .ok (.newarray .int, 2) := by decide +kernel
theorem dL_isSo_10 : decode cL_isSo 10 = .ok (.astore 5, 2) := by decide +kernel
theorem dL_isSo_12 : decode cL_isSo 12 = .ok (.bipush 64, 2) := by decide +kernel
theorem dL_isSo_14 : decode cL_isSo 14 = .ok (.newarray .int, 2) := by decide +kernel
theorem dL_isSo_16 : decode cL_isSo 16 = .ok (.astore 6, 2) := by decide +kernel
theorem dL_isSo_18 : decode cL_isSo 18 = .ok (.bipush 64, 2) := by decide +kernel
theorem dL_isSo_20 : decode cL_isSo 20 = .ok (.newarray .int, 2) := by decide +kernel
theorem dL_isSo_22 : decode cL_isSo 22 = .ok (.astore 7, 2) := by decide +kernel
theorem dL_isSo_24 : decode cL_isSo 24 = .ok (.bipush 64, 2) := by decide +kernel
theorem dL_isSo_26 : decode cL_isSo 26 = .ok (.newarray .int, 2) := by decide +kernel
theorem dL_isSo_28 : decode cL_isSo 28 = .ok (.astore 8, 2) := by decide +kernel
theorem dL_isSo_30 : decode cL_isSo 30 = .ok (.bipush 64, 2) := by decide +kernel
theorem dL_isSo_32 : decode cL_isSo 32 = .ok (.newarray .int, 2) := by decide +kernel
theorem dL_isSo_34 : decode cL_isSo 34 = .ok (.astore 9, 2) := by decide +kernel
theorem dL_isSo_36 : decode cL_isSo 36 = .ok (.bipush 64, 2) := by decide +kernel
theorem dL_isSo_38 : decode cL_isSo 38 = .ok (.newarray .int, 2) := by decide +kernel
theorem dL_isSo_40 : decode cL_isSo 40 = .ok (.astore 10, 2) := by decide +kernel
theorem dL_isSo_42 : decode cL_isSo 42 = .ok (.aload_n 1, 1) := by decide +kernel
theorem dL_isSo_43 : decode cL_isSo 43 = .ok (.aload_n 2, 1) := by decide +kernel
theorem dL_isSo_44 : decode cL_isSo 44 = .ok (.aload 4, 2) := by decide +kernel
theorem dL_isSo_46 : decode cL_isSo 46 = .ok (.aload 5, 2) := by decide +kernel
theorem dL_isSo_48 : decode cL_isSo 48 = .ok (.aload 6, 2) := by decide +kernel
theorem dL_isSo_50 : decode cL_isSo 50 = .ok (.aload 7, 2) := by decide +kernel
theorem dL_isSo_52 : decode cL_isSo 52 = .ok (.aload 8, 2) := by decide +kernel
theorem dL_isSo_54 : decode cL_isSo 54 = .ok (.aload 9, 2) := by decide +kernel
theorem dL_isSo_56 : decode cL_isSo 56 = .ok (.aload 10, 2) := by decide +kernel
theorem dL_isSo_58 : decode cL_isSo 58 = .ok (.invokestatic 78, 3) := by decide +kernel
theorem dL_isSo_61 : decode cL_isSo 61 = .ok (.istore 11, 2) := by decide +kernel
theorem dL_isSo_63 : decode cL_isSo 63 = .ok (.iload 11, 2) := by decide +kernel
theorem dL_isSo_65 : decode cL_isSo 65 = .ok (.ifCond .ne 7, 3) := by decide +kernel
theorem dL_isSo_68 : decode cL_isSo 68 = .ok (.iconst 0, 1) := by decide +kernel
theorem dL_isSo_69 : decode cL_isSo 69 = .ok (.goto 12, 3) := by decide +kernel
theorem dL_isSo_72 : decode cL_isSo 72 = .ok (.aload 9, 2) := by decide +kernel
theorem dL_isSo_74 : decode cL_isSo 74 = .ok (.iload 11, 2) := by decide +kernel
theorem dL_isSo_76 : decode cL_isSo 76 = .ok (.iconst 1, 1) := by decide +kernel
theorem dL_isSo_77 : decode cL_isSo 77 = .ok (.isub, 1) := by decide +kernel
theorem dL_isSo_78 : decode cL_isSo 78 = .ok (.iaload, 1) := by decide +kernel
theorem dL_isSo_79 : decode cL_isSo 79 = .ok (.iconst 1, 1) := by decide +kernel
theorem dL_isSo_80 : decode cL_isSo 80 = .ok (.iadd, 1) := by decide +kernel
theorem dL_isSo_81 : decode cL_isSo 81 = .ok (.istore 12, 2) := by decide +kernel
theorem dL_isSo_83 : decode cL_isSo 83 = .ok (.ldc 30, 2) := by decide +kernel
theorem dL_isSo_85 : decode cL_isSo 85 = .ok (.istore 13, 2) := by decide +kernel
theorem dL_isSo_87 : decode cL_isSo 87 = .ok (.iconst 0, 1) := by decide +kernel
theorem dL_isSo_88 : decode cL_isSo 88 = .ok (.istore 14, 2) := by decide +kernel
theorem dL_isSo_90 : decode cL_isSo 90 = .ok (.iconst 0, 1) := by decide +kernel
theorem dL_isSo_91 : decode cL_isSo 91 = .ok (.istore 15, 2) := by decide +kernel
theorem dL_isSo_93 : decode cL_isSo 93 = .ok (.iconst 0, 1) := by decide +kernel
theorem dL_isSo_94 : decode cL_isSo 94 = .ok (.istore 16, 2) := by decide +kernel
theorem dL_isSo_96 : decode cL_isSo 96 = .ok (.iconst 0, 1) := by decide +kernel
theorem dL_isSo_97 : decode cL_isSo 97 = .ok (.istore 17, 2) := by decide +kernel
theorem dL_isSo_99 : decode cL_isSo 99 = .ok (.iconst 0, 1) := by decide +kernel
theorem dL_isSo_100 : decode cL_isSo 100 = .ok (.istore 18, 2) := by decide +kernel
theorem dL_isSo_102 : decode cL_isSo 102 = .ok (.iconst 1, 1) := by decide +kernel
theorem dL_isSo_103 : decode cL_isSo 103 = .ok (.istore 19, 2) := by decide +kernel
theorem dL_isSo_105 : decode cL_isSo 105 = .ok (.iconst 0, 1) := by decide +kernel
theorem dL_isSo_106 : decode cL_isSo 106 = .ok (.istore 20, 2) := by decide +kernel
theorem dL_isSo_108 : decode cL_isSo 108 = .ok (.iload 20, 2) := by decide +kernel
theorem dL_isSo_110 : decode cL_isSo 110 = .ok (.aload_n 1, 1) := by decide +kernel
theorem dL_isSo_111 : decode cL_isSo 111 = .ok (.iconst 3, 1) := by decide +kernel
theorem dL_isSo_112 : decode cL_isSo 112 = .ok (.iaload, 1) := by decide +kernel
theorem dL_isSo_113 : decode cL_isSo 113 = .ok (.if_icmp .ge 298, 3) := by decide +kernel
theorem dL_isSo_116 : decode cL_isSo 116 = .ok (.iload 19, 2) := by decide +kernel
theorem dL_isSo_118 : decode cL_isSo 118 = .ok (.ifCond .eq 293, 3) := by decide +kernel
theorem dL_isSo_121 : decode cL_isSo 121 = .ok (.iload 20, 2) := by decide +kernel
theorem dL_isSo_123 : decode cL_isSo 123 = .ok (.ifCond .ne 7, 3) := by decide +kernel
theorem dL_isSo_126 : decode cL_isSo 126 = .ok (.iconst 1, 1) := by decide +kernel
theorem dL_isSo_127 : decode cL_isSo 127 = .ok (.goto 4, 3) := by decide +kernel
theorem dL_isSo_130 : decode cL_isSo 130 = .ok (.iconst 0, 1) := by decide +kernel
theorem dL_isSo_131 : decode cL_isSo 131 = .ok (.istore 21, 2) := by decide +kernel
theorem dL_isSo_133 : decode cL_isSo 133 = .ok (.iload 21, 2) := by decide +kernel
theorem dL_isSo_135 : decode cL_isSo 135 = .ok (.ifCond .ne 19, 3) := by decide +kernel
theorem dL_isSo_138 : decode cL_isSo 138 = .ok (.aload_n 1, 1) := by decide +kernel
theorem dL_isSo_139 : decode cL_isSo 139 = .ok (.aload 5, 2) := by decide +kernel
theorem dL_isSo_141 : decode cL_isSo 141 = .ok (.iload 20, 2) := by decide +kernel
theorem dL_isSo_143 : decode cL_isSo 143 = .ok (.iaload, 1) := by decide +kernel
theorem dL_isSo_144 : decode cL_isSo 144 = .ok (.invokestatic 82, 3) := by decide +kernel
theorem dL_isSo_147 : decode cL_isSo 147 = .ok (.ifCond .eq 7, 3) := by decide +kernel
theorem dL_isSo_150 : decode cL_isSo 150 = .ok (.iconst 1, 1) := by decide +kernel
theorem dL_isSo_151 : decode cL_isSo 151 = .ok (.goto 4, 3) := by decide +kernel
theorem dL_isSo_154 : decode cL_isSo 154 = .ok (.iconst 0, 1) := by decide +kernel
theorem dL_isSo_155 : decode cL_isSo 155 = .ok (.istore 22, 2) := by decide +kernel
theorem dL_isSo_157 : decode cL_isSo 157 = .ok (.iload 17, 2) := by decide +kernel
theorem dL_isSo_159 : decode cL_isSo 159 = .ok (.iload 22, 2) := by decide +kernel
theorem dL_isSo_161 : decode cL_isSo 161 = .ok (.iadd, 1) := by decide +kernel
theorem dL_isSo_162 : decode cL_isSo 162 = .ok (.istore 17, 2) := by decide +kernel
theorem dL_isSo_164 : decode cL_isSo 164 = .ok (.iload 15, 2) := by decide +kernel
theorem dL_isSo_166 : decode cL_isSo 166 = .ok (.aload 4, 2) := by decide +kernel
theorem dL_isSo_168 : decode cL_isSo 168 = .ok (.iload 20, 2) := by decide +kernel
theorem dL_isSo_170 : decode cL_isSo 170 = .ok (.iaload, 1) := by decide +kernel
theorem dL_isSo_171 : decode cL_isSo 171 = .ok (.ifCond .ne 7, 3) := by decide +kernel
theorem dL_isSo_174 : decode cL_isSo 174 = .ok (.iconst 1, 1) := by decide +kernel
theorem dL_isSo_175 : decode cL_isSo 175 = .ok (.goto 4, 3) := by decide +kernel
theorem dL_isSo_178 : decode cL_isSo 178 = .ok (.iconst 0, 1) := by decide +kernel
theorem dL_isSo_179 : decode cL_isSo 179 = .ok (.iadd, 1) := by decide +kernel
theorem dL_isSo_180 : decode cL_isSo 180 = .ok (.istore 15, 2) := by decide +kernel
theorem dL_isSo_182 : decode cL_isSo 182 = .ok (.iload 16, 2) := by decide +kernel
theorem dL_isSo_184 : decode cL_isSo 184 = .ok (.aload 4, 2) := by decide +kernel
theorem dL_isSo_186 : decode cL_isSo 186 = .ok (.iload 20, 2) := by decide +kernel
theorem dL_isSo_188 : decode cL_isSo 188 = .ok (.iaload, 1) := by decide +kernel
theorem dL_isSo_189 : decode cL_isSo 189 = .ok (.iconst 2, 1) := by decide +kernel
theorem dL_isSo_190 : decode cL_isSo 190 = .ok (.if_icmp .ne 7, 3) := by decide +kernel
theorem dL_isSo_193 : decode cL_isSo 193 = .ok (.iconst 1, 1) := by decide +kernel
theorem dL_isSo_194 : decode cL_isSo 194 = .ok (.goto 4, 3) := by decide +kernel
theorem dL_isSo_197 : decode cL_isSo 197 = .ok (.iconst 0, 1) := by decide +kernel
theorem dL_isSo_198 : decode cL_isSo 198 = .ok (.iadd, 1) := by decide +kernel
theorem dL_isSo_199 : decode cL_isSo 199 = .ok (.istore 16, 2) := by decide +kernel
theorem dL_isSo_201 : decode cL_isSo 201 = .ok (.aload_n 0, 1) := by decide +kernel
theorem dL_isSo_202 : decode cL_isSo 202 = .ok (.iload 20, 2) := by decide +kernel
theorem dL_isSo_204 : decode cL_isSo 204 = .ok (.iconst 0, 1) := by decide +kernel
theorem dL_isSo_205 : decode cL_isSo 205 = .ok (.invokevirtual 86, 3) := by decide +kernel
theorem dL_isSo_208 : decode cL_isSo 208 = .ok (.aload_n 2, 1) := by decide +kernel
theorem dL_isSo_209 : decode cL_isSo 209 = .ok (.iload 20, 2) := by decide +kernel
theorem dL_isSo_211 : decode cL_isSo 211 = .ok (.iaload, 1) := by decide +kernel
theorem dL_isSo_212 : decode cL_isSo 212 = .ok (.if_icmp .ne 190, 3) := by decide +kernel
theorem dL_isSo_215 : decode cL_isSo 215 = .ok (.aload_n 0, 1) := by decide +kernel
theorem dL_isSo_216 : decode cL_isSo 216 = .ok (.iload 20, 2) := by decide +kernel
theorem dL_isSo_218 : decode cL_isSo 218 = .ok (.iconst 1, 1) := by decide +kernel
theorem dL_isSo_219 : decode cL_isSo 219 = .ok (.invokevirtual 86, 3) := by decide +kernel
theorem dL_isSo_222 : decode cL_isSo 222 = .ok (.iload 21, 2) := by decide +kernel
theorem dL_isSo_224 : decode cL_isSo 224 = .ok (.ifCond .eq 8, 3) := by decide +kernel
theorem dL_isSo_227 : decode cL_isSo 227 = .ok (.iload 13, 2) := by decide +kernel
theorem dL_isSo_229 : decode cL_isSo 229 = .ok (.goto 8, 3) := by decide +kernel
theorem dL_isSo_232 : decode cL_isSo 232 = .ok (.aload 5, 2) := by decide +kernel
theorem dL_isSo_234 : decode cL_isSo 234 = .ok (.iload 20, 2) := by decide +kernel
theorem dL_isSo_236 : decode cL_isSo 236 = .ok (.iaload, 1) := by decide +kernel
theorem dL_isSo_237 : decode cL_isSo 237 = .ok (.if_icmp .ne 165, 3) := by decide +kernel
theorem dL_isSo_240 : decode cL_isSo 240 = .ok (.aload_n 0, 1) := by decide +kernel
theorem dL_isSo_241 : decode cL_isSo 241 = .ok (.iload 20, 2) := by decide +kernel
theorem dL_isSo_243 : decode cL_isSo 243 = .ok (.iconst 2, 1) := by decide +kernel
theorem dL_isSo_244 : decode cL_isSo 244 = .ok (.invokevirtual 86, 3) := by decide +kernel
theorem dL_isSo_247 : decode cL_isSo 247 = .ok (.iload 21, 2) := by decide +kernel
theorem dL_isSo_249 : decode cL_isSo 249 = .ok (.ifCond .eq 8, 3) := by decide +kernel
theorem dL_isSo_252 : decode cL_isSo 252 = .ok (.iload 13, 2) := by decide +kernel
theorem dL_isSo_254 : decode cL_isSo 254 = .ok (.goto 8, 3) := by decide +kernel
theorem dL_isSo_257 : decode cL_isSo 257 = .ok (.aload 4, 2) := by decide +kernel
theorem dL_isSo_259 : decode cL_isSo 259 = .ok (.iload 20, 2) := by decide +kernel
theorem dL_isSo_261 : decode cL_isSo 261 = .ok (.iaload, 1) := by decide +kernel
theorem dL_isSo_262 : decode cL_isSo 262 = .ok (.if_icmp .ne 140, 3) := by decide +kernel
theorem dL_isSo_265 : decode cL_isSo 265 = .ok (.aload_n 0, 1) := by decide +kernel
theorem dL_isSo_266 : decode cL_isSo 266 = .ok (.iload 20, 2) := by decide +kernel
theorem dL_isSo_268 : decode cL_isSo 268 = .ok (.iconst 3, 1) := by decide +kernel
theorem dL_isSo_269 : decode cL_isSo 269 = .ok (.invokevirtual 86, 3) := by decide +kernel
theorem dL_isSo_272 : decode cL_isSo 272 = .ok (.iload 21, 2) := by decide +kernel
theorem dL_isSo_274 : decode cL_isSo 274 = .ok (.ifCond .eq 8, 3) := by decide +kernel
theorem dL_isSo_277 : decode cL_isSo 277 = .ok (.iload 13, 2) := by decide +kernel
theorem dL_isSo_279 : decode cL_isSo 279 = .ok (.goto 5, 3) := by decide +kernel
theorem dL_isSo_282 : decode cL_isSo 282 = .ok (.iload 22, 2) := by decide +kernel
theorem dL_isSo_284 : decode cL_isSo 284 = .ok (.if_icmp .ne 118, 3) := by decide +kernel
theorem dL_isSo_287 : decode cL_isSo 287 = .ok (.aload_n 0, 1) := by decide +kernel
theorem dL_isSo_288 : decode cL_isSo 288 = .ok (.iload 20, 2) := by decide +kernel
theorem dL_isSo_290 : decode cL_isSo 290 = .ok (.iconst 4, 1) := by decide +kernel
theorem dL_isSo_291 : decode cL_isSo 291 = .ok (.invokevirtual 86, 3) := by decide +kernel
theorem dL_isSo_294 : decode cL_isSo 294 = .ok (.aload 4, 2) := by decide +kernel
theorem dL_isSo_296 : decode cL_isSo 296 = .ok (.iload 20, 2) := by decide +kernel
theorem dL_isSo_298 : decode cL_isSo 298 = .ok (.iaload, 1) := by decide +kernel
theorem dL_isSo_299 : decode cL_isSo 299 = .ok (.ifCond .ne 8, 3) := by decide +kernel
theorem dL_isSo_302 : decode cL_isSo 302 = .ok (.iload 13, 2) := by decide +kernel
theorem dL_isSo_304 : decode cL_isSo 304 = .ok (.goto 8, 3) := by decide +kernel
theorem dL_isSo_307 : decode cL_isSo 307 = .ok (.aload 6, 2) := by decide +kernel
theorem dL_isSo_309 : decode cL_isSo 309 = .ok (.iload 20, 2) := by decide +kernel
theorem dL_isSo_311 : decode cL_isSo 311 = .ok (.iaload, 1) := by decide +kernel
theorem dL_isSo_312 : decode cL_isSo 312 = .ok (.if_icmp .ne 90, 3) := by decide +kernel
theorem dL_isSo_315 : decode cL_isSo 315 = .ok (.aload_n 0, 1) := by decide +kernel
theorem dL_isSo_316 : decode cL_isSo 316 = .ok (.iload 20, 2) := by decide +kernel
theorem dL_isSo_318 : decode cL_isSo 318 = .ok (.iconst 5, 1) := by decide +kernel
theorem dL_isSo_319 : decode cL_isSo 319 = .ok (.invokevirtual 86, 3) := by decide +kernel
theorem dL_isSo_322 : decode cL_isSo 322 = .ok (.aload 4, 2) := by decide +kernel
theorem dL_isSo_324 : decode cL_isSo 324 = .ok (.iload 20, 2) := by decide +kernel
theorem dL_isSo_326 : decode cL_isSo 326 = .ok (.iaload, 1) := by decide +kernel
theorem dL_isSo_327 : decode cL_isSo 327 = .ok (.ifCond .ne 8, 3) := by decide +kernel
theorem dL_isSo_330 : decode cL_isSo 330 = .ok (.iload 13, 2) := by decide +kernel
theorem dL_isSo_332 : decode cL_isSo 332 = .ok (.goto 21, 3) := by decide +kernel
theorem dL_isSo_335 : decode cL_isSo 335 = .ok (.aload 7, 2) := by decide +kernel
theorem dL_isSo_337 : decode cL_isSo 337 = .ok (.iload 20, 2) := by decide +kernel
theorem dL_isSo_339 : decode cL_isSo 339 = .ok (.iaload, 1) := by decide +kernel
theorem dL_isSo_340 : decode cL_isSo 340 = .ok (.aload 9, 2) := by decide +kernel
theorem dL_isSo_342 : decode cL_isSo 342 = .ok (.iload 11, 2) := by decide +kernel
theorem dL_isSo_344 : decode cL_isSo 344 = .ok (.aload 6, 2) := by decide +kernel
theorem dL_isSo_346 : decode cL_isSo 346 = .ok (.iload 20, 2) := by decide +kernel
theorem dL_isSo_348 : decode cL_isSo 348 = .ok (.iaload, 1) := by decide +kernel
theorem dL_isSo_349 : decode cL_isSo 349 = .ok (.invokestatic 89, 3) := by decide +kernel
theorem dL_isSo_352 : decode cL_isSo 352 = .ok (.isub, 1) := by decide +kernel
theorem dL_isSo_353 : decode cL_isSo 353 = .ok (.if_icmp .ne 49, 3) := by decide +kernel
theorem dL_isSo_356 : decode cL_isSo 356 = .ok (.aload_n 0, 1) := by decide +kernel
theorem dL_isSo_357 : decode cL_isSo 357 = .ok (.iload 20, 2) := by decide +kernel
theorem dL_isSo_359 : decode cL_isSo 359 = .ok (.bipush 6, 2) := by decide +kernel
theorem dL_isSo_361 : decode cL_isSo 361 = .ok (.invokevirtual 86, 3) := by decide +kernel
theorem dL_isSo_364 : decode cL_isSo 364 = .ok (.aload 4, 2) := by decide +kernel
theorem dL_isSo_366 : decode cL_isSo 366 = .ok (.iload 20, 2) := by decide +kernel
theorem dL_isSo_368 : decode cL_isSo 368 = .ok (.iaload, 1) := by decide +kernel
theorem dL_isSo_369 : decode cL_isSo 369 = .ok (.ifCond .ne 8, 3) := by decide +kernel
theorem dL_isSo_372 : decode cL_isSo 372 = .ok (.iload 13, 2) := by decide +kernel
theorem dL_isSo_374 : decode cL_isSo 374 = .ok (.goto 8, 3) := by decide +kernel
theorem dL_isSo_377 : decode cL_isSo 377 = .ok (.aload 8, 2) := by decide +kernel
theorem dL_isSo_379 : decode cL_isSo 379 = .ok (.iload 20, 2) := by decide +kernel
theorem dL_isSo_381 : decode cL_isSo 381 = .ok (.iaload, 1) := by decide +kernel
theorem dL_isSo_382 : decode cL_isSo 382 = .ok (.if_icmp .ne 20, 3) := by decide +kernel
theorem dL_isSo_385 : decode cL_isSo 385 = .ok (.aload_n 0, 1) := by decide +kernel
theorem dL_isSo_386 : decode cL_isSo 386 = .ok (.iload 20, 2) := by decide +kernel
theorem dL_isSo_388 : decode cL_isSo 388 = .ok (.bipush 7, 2) := by decide +kernel
theorem dL_isSo_390 : decode cL_isSo 390 = .ok (.invokevirtual 86, 3) := by decide +kernel
theorem dL_isSo_393 : decode cL_isSo 393 = .ok (.ldc 51, 2) := by decide +kernel
theorem dL_isSo_395 : decode cL_isSo 395 = .ok (.if_icmp .ne 7, 3) := by decide +kernel
theorem dL_isSo_398 : decode cL_isSo 398 = .ok (.iconst 1, 1) := by decide +kernel
theorem dL_isSo_399 : decode cL_isSo 399 = .ok (.goto 4, 3) := by decide +kernel
theorem dL_isSo_402 : decode cL_isSo 402 = .ok (.iconst 0, 1) := by decide +kernel
theorem dL_isSo_403 : decode cL_isSo 403 = .ok (.istore 19, 2) := by decide +kernel
theorem dL_isSo_405 : decode cL_isSo 405 = .ok (.iinc 20 1, 3) := by decide +kernel
theorem dL_isSo_408 : decode cL_isSo 408 = .ok (.goto (-300), 3) := by decide +kernel
theorem dL_isSo_411 : decode cL_isSo 411 = .ok (.iconst 0, 1) := by decide +kernel
theorem dL_isSo_412 : decode cL_isSo 412 = .ok (.istore 20, 2) := by decide +kernel
theorem dL_isSo_414 : decode cL_isSo 414 = .ok (.iload 20, 2) := by decide +kernel
theorem dL_isSo_416 : decode cL_isSo 416 = .ok (.iload 12, 2) := by decide +kernel
theorem dL_isSo_418 : decode cL_isSo 418 = .ok (.if_icmp .ge 474, 3) := by decide +kernel
theorem dL_isSo_421 : decode cL_isSo 421 = .ok (.iload 19, 2) := by decide +kernel
theorem dL_isSo_423 : decode cL_isSo 423 = .ok (.ifCond .eq 469, 3) := by decide +kernel
theorem dL_isSo_426 : decode cL_isSo 426 = .ok (.aload 9, 2) := by decide +kernel
theorem dL_isSo_428 : decode cL_isSo 428 = .ok (.iload 11, 2) := by decide +kernel
theorem dL_isSo_430 : decode cL_isSo 430 = .ok (.iload 20, 2) := by decide +kernel
theorem dL_isSo_432 : decode cL_isSo 432 = .ok (.invokestatic 89, 3) := by decide +kernel
theorem dL_isSo_435 : decode cL_isSo 435 = .ok (.istore 21, 2) := by decide +kernel
theorem dL_isSo_437 : decode cL_isSo 437 = .ok (.aload 9, 2) := by decide +kernel
theorem dL_isSo_439 : decode cL_isSo 439 = .ok (.iload 11, 2) := by decide +kernel
theorem dL_isSo_441 : decode cL_isSo 441 = .ok (.iload 20, 2) := by decide +kernel
theorem dL_isSo_443 : decode cL_isSo 443 = .ok (.iconst 1, 1) := by decide +kernel
theorem dL_isSo_444 : decode cL_isSo 444 = .ok (.iadd, 1) := by decide +kernel
theorem dL_isSo_445 : decode cL_isSo 445 = .ok (.invokestatic 89, 3) := by decide +kernel
theorem dL_isSo_448 : decode cL_isSo 448 = .ok (.istore 22, 2) := by decide +kernel
theorem dL_isSo_450 : decode cL_isSo 450 = .ok (.iconst 0, 1) := by decide +kernel
theorem dL_isSo_451 : decode cL_isSo 451 = .ok (.istore 23, 2) := by decide +kernel
theorem dL_isSo_453 : decode cL_isSo 453 = .ok (.iconst 0, 1) := by decide +kernel
theorem dL_isSo_454 : decode cL_isSo 454 = .ok (.istore 24, 2) := by decide +kernel
theorem dL_isSo_456 : decode cL_isSo 456 = .ok (.iconst 0, 1) := by decide +kernel
theorem dL_isSo_457 : decode cL_isSo 457 = .ok (.istore 25, 2) := by decide +kernel
theorem dL_isSo_459 : decode cL_isSo 459 = .ok (.iconst (-1), 1) := by decide +kernel
theorem dL_isSo_460 : decode cL_isSo 460 = .ok (.istore 26, 2) := by decide +kernel
theorem dL_isSo_462 : decode cL_isSo 462 = .ok (.iconst 0, 1) := by decide +kernel
theorem dL_isSo_463 : decode cL_isSo 463 = .ok (.istore 27, 2) := by decide +kernel
theorem dL_isSo_465 : decode cL_isSo 465 = .ok (.iload 27, 2) := by decide +kernel
theorem dL_isSo_467 : decode cL_isSo 467 = .ok (.aload_n 1, 1) := by decide +kernel
theorem dL_isSo_468 : decode cL_isSo 468 = .ok (.iconst 3, 1) := by decide +kernel
theorem dL_isSo_469 : decode cL_isSo 469 = .ok (.iaload, 1) := by decide +kernel
theorem dL_isSo_470 : decode cL_isSo 470 = .ok (.if_icmp .ge 107, 3) := by decide +kernel
theorem dL_isSo_473 : decode cL_isSo 473 = .ok (.iload 26, 2) := by decide +kernel
theorem dL_isSo_475 : decode cL_isSo 475 = .ok (.ifCond .ge 26, 3) := by decide +kernel
theorem dL_isSo_478 : decode cL_isSo 478 = .ok (.aload 6, 2) := by decide +kernel
theorem dL_isSo_480 : decode cL_isSo 480 = .ok (.iload 27, 2) := by decide +kernel
theorem dL_isSo_482 : decode cL_isSo 482 = .ok (.iaload, 1) := by decide +kernel
theorem dL_isSo_483 : decode cL_isSo 483 = .ok (.iload 20, 2) := by decide +kernel
theorem dL_isSo_485 : decode cL_isSo 485 = .ok (.if_icmp .ne 16, 3) := by decide +kernel
theorem dL_isSo_488 : decode cL_isSo 488 = .ok (.aload 4, 2) := by decide +kernel
theorem dL_isSo_490 : decode cL_isSo 490 = .ok (.iload 27, 2) := by decide +kernel
theorem dL_isSo_492 : decode cL_isSo 492 = .ok (.iaload, 1) := by decide +kernel
theorem dL_isSo_493 : decode cL_isSo 493 = .ok (.ifCond .le 8, 3) := by decide +kernel
theorem dL_isSo_496 : decode cL_isSo 496 = .ok (.iload 27, 2) := by decide +kernel
theorem dL_isSo_498 : decode cL_isSo 498 = .ok (.goto 5, 3) := by decide +kernel
theorem dL_isSo_501 : decode cL_isSo 501 = .ok (.iload 26, 2) := by decide +kernel
theorem dL_isSo_503 : decode cL_isSo 503 = .ok (.istore 26, 2) := by decide +kernel
theorem dL_isSo_505 : decode cL_isSo 505 = .ok (.iload 24, 2) := by decide +kernel
theorem dL_isSo_507 : decode cL_isSo 507 = .ok (.aload 6, 2) := by decide +kernel
theorem dL_isSo_509 : decode cL_isSo 509 = .ok (.iload 27, 2) := by decide +kernel
theorem dL_isSo_511 : decode cL_isSo 511 = .ok (.iaload, 1) := by decide +kernel
theorem dL_isSo_512 : decode cL_isSo 512 = .ok (.iload 20, 2) := by decide +kernel
theorem dL_isSo_514 : decode cL_isSo 514 = .ok (.if_icmp .ne 16, 3) := by decide +kernel
theorem dL_isSo_517 : decode cL_isSo 517 = .ok (.aload 4, 2) := by decide +kernel
theorem dL_isSo_519 : decode cL_isSo 519 = .ok (.iload 27, 2) := by decide +kernel
theorem dL_isSo_521 : decode cL_isSo 521 = .ok (.iaload, 1) := by decide +kernel
theorem dL_isSo_522 : decode cL_isSo 522 = .ok (.iconst 2, 1) := by decide +kernel
theorem dL_isSo_523 : decode cL_isSo 523 = .ok (.if_icmp .ne 7, 3) := by decide +kernel
theorem dL_isSo_526 : decode cL_isSo 526 = .ok (.iconst 1, 1) := by decide +kernel
theorem dL_isSo_527 : decode cL_isSo 527 = .ok (.goto 4, 3) := by decide +kernel
theorem dL_isSo_530 : decode cL_isSo 530 = .ok (.iconst 0, 1) := by decide +kernel
theorem dL_isSo_531 : decode cL_isSo 531 = .ok (.iadd, 1) := by decide +kernel
theorem dL_isSo_532 : decode cL_isSo 532 = .ok (.istore 24, 2) := by decide +kernel
theorem dL_isSo_534 : decode cL_isSo 534 = .ok (.iload 25, 2) := by decide +kernel
theorem dL_isSo_536 : decode cL_isSo 536 = .ok (.aload 6, 2) := by decide +kernel
theorem dL_isSo_538 : decode cL_isSo 538 = .ok (.iload 27, 2) := by decide +kernel
theorem dL_isSo_540 : decode cL_isSo 540 = .ok (.iaload, 1) := by decide +kernel
theorem dL_isSo_541 : decode cL_isSo 541 = .ok (.iload 20, 2) := by decide +kernel
theorem dL_isSo_543 : decode cL_isSo 543 = .ok (.if_icmp .ne 24, 3) := by decide +kernel
theorem dL_isSo_546 : decode cL_isSo 546 = .ok (.iload 27, 2) := by decide +kernel
theorem dL_isSo_548 : decode cL_isSo 548 = .ok (.ifCond .le 19, 3) := by decide +kernel
theorem dL_isSo_551 : decode cL_isSo 551 = .ok (.aload_n 1, 1) := by decide +kernel
theorem dL_isSo_552 : decode cL_isSo 552 = .ok (.aload 5, 2) := by decide +kernel
theorem dL_isSo_554 : decode cL_isSo 554 = .ok (.iload 27, 2) := by decide +kernel
theorem dL_isSo_556 : decode cL_isSo 556 = .ok (.iaload, 1) := by decide +kernel
theorem dL_isSo_557 : decode cL_isSo 557 = .ok (.invokestatic 82, 3) := by decide +kernel
theorem dL_isSo_560 : decode cL_isSo 560 = .ok (.ifCond .eq 7, 3) := by decide +kernel
theorem dL_isSo_563 : decode cL_isSo 563 = .ok (.iconst 1, 1) := by decide +kernel
theorem dL_isSo_564 : decode cL_isSo 564 = .ok (.goto 4, 3) := by decide +kernel
theorem dL_isSo_567 : decode cL_isSo 567 = .ok (.iconst 0, 1) := by decide +kernel
theorem dL_isSo_568 : decode cL_isSo 568 = .ok (.iadd, 1) := by decide +kernel
theorem dL_isSo_569 : decode cL_isSo 569 = .ok (.istore 25, 2) := by decide +kernel
theorem dL_isSo_571 : decode cL_isSo 571 = .ok (.iinc 27 1, 3) := by decide +kernel
theorem dL_isSo_574 : decode cL_isSo 574 = .ok (.goto (-109), 3) := by decide +kernel
theorem dL_isSo_577 : decode cL_isSo 577 = .ok (.iload 21, 2) := by decide +kernel
theorem dL_isSo_579 : decode cL_isSo 579 = .ok (.istore 27, 2) := by decide +kernel
theorem dL_isSo_581 : decode cL_isSo 581 = .ok (.iload 27, 2) := by decide +kernel
theorem dL_isSo_583 : decode cL_isSo 583 = .ok (.iload 22, 2) := by decide +kernel
theorem dL_isSo_585 : decode cL_isSo 585 = .ok (.if_icmp .ge 154, 3) := by decide +kernel
theorem dL_isSo_588 : decode cL_isSo 588 = .ok (.iload 19, 2) := by decide +kernel
theorem dL_isSo_590 : decode cL_isSo 590 = .ok (.ifCond .eq 149, 3) := by decide +kernel
theorem dL_isSo_593 : decode cL_isSo 593 = .ok (.iload 23, 2) := by decide +kernel
theorem dL_isSo_595 : decode cL_isSo 595 = .ok (.aload 10, 2) := by decide +kernel
theorem dL_isSo_597 : decode cL_isSo 597 = .ok (.iload 27, 2) := by decide +kernel
theorem dL_isSo_599 : decode cL_isSo 599 = .ok (.iaload, 1) := by decide +kernel
theorem dL_isSo_600 : decode cL_isSo 600 = .ok (.invokestatic 22, 3) := by decide +kernel
theorem dL_isSo_603 : decode cL_isSo 603 = .ok (.ifCond .eq 7, 3) := by decide +kernel
theorem dL_isSo_606 : decode cL_isSo 606 = .ok (.iconst 0, 1) := by decide +kernel
theorem dL_isSo_607 : decode cL_isSo 607 = .ok (.goto 4, 3) := by decide +kernel
theorem dL_isSo_610 : decode cL_isSo 610 = .ok (.iconst 1, 1) := by decide +kernel
theorem dL_isSo_611 : decode cL_isSo 611 = .ok (.iadd, 1) := by decide +kernel
theorem dL_isSo_612 : decode cL_isSo 612 = .ok (.istore 23, 2) := by decide +kernel
theorem dL_isSo_614 : decode cL_isSo 614 = .ok (.aload_n 0, 1) := by decide +kernel
theorem dL_isSo_615 : decode cL_isSo 615 = .ok (.iload 20, 2) := by decide +kernel
theorem dL_isSo_617 : decode cL_isSo 617 = .ok (.iload 27, 2) := by decide +kernel
theorem dL_isSo_619 : decode cL_isSo 619 = .ok (.iload 21, 2) := by decide +kernel
theorem dL_isSo_621 : decode cL_isSo 621 = .ok (.isub, 1) := by decide +kernel
theorem dL_isSo_622 : decode cL_isSo 622 = .ok (.iconst 0, 1) := by decide +kernel
theorem dL_isSo_623 : decode cL_isSo 623 = .ok (.invokevirtual 92, 3) := by decide +kernel
theorem dL_isSo_626 : decode cL_isSo 626 = .ok (.aload_n 3, 1) := by decide +kernel
theorem dL_isSo_627 : decode cL_isSo 627 = .ok (.aload 10, 2) := by decide +kernel
theorem dL_isSo_629 : decode cL_isSo 629 = .ok (.iload 27, 2) := by decide +kernel
theorem dL_isSo_631 : decode cL_isSo 631 = .ok (.iaload, 1) := by decide +kernel
theorem dL_isSo_632 : decode cL_isSo 632 = .ok (.invokestatic 31, 3) := by decide +kernel
theorem dL_isSo_635 : decode cL_isSo 635 = .ok (.if_icmp .ne 95, 3) := by decide +kernel
theorem dL_isSo_638 : decode cL_isSo 638 = .ok (.aload_n 0, 1) := by decide +kernel
theorem dL_isSo_639 : decode cL_isSo 639 = .ok (.iload 20, 2) := by decide +kernel
theorem dL_isSo_641 : decode cL_isSo 641 = .ok (.iload 27, 2) := by decide +kernel
theorem dL_isSo_643 : decode cL_isSo 643 = .ok (.iload 21, 2) := by decide +kernel
theorem dL_isSo_645 : decode cL_isSo 645 = .ok (.isub, 1) := by decide +kernel
theorem dL_isSo_646 : decode cL_isSo 646 = .ok (.iconst 1, 1) := by decide +kernel
theorem dL_isSo_647 : decode cL_isSo 647 = .ok (.invokevirtual 92, 3) := by decide +kernel
theorem dL_isSo_650 : decode cL_isSo 650 = .ok (.aload 10, 2) := by decide +kernel
theorem dL_isSo_652 : decode cL_isSo 652 = .ok (.iload 27, 2) := by decide +kernel
theorem dL_isSo_654 : decode cL_isSo 654 = .ok (.iaload, 1) := by decide +kernel
theorem dL_isSo_655 : decode cL_isSo 655 = .ok (.sipush 255, 3) := by decide +kernel
theorem dL_isSo_658 : decode cL_isSo 658 = .ok (.iand, 1) := by decide +kernel
theorem dL_isSo_659 : decode cL_isSo 659 = .ok (.if_icmp .ne 71, 3) := by decide +kernel
theorem dL_isSo_662 : decode cL_isSo 662 = .ok (.aload_n 0, 1) := by decide +kernel
theorem dL_isSo_663 : decode cL_isSo 663 = .ok (.iload 20, 2) := by decide +kernel
theorem dL_isSo_665 : decode cL_isSo 665 = .ok (.iload 27, 2) := by decide +kernel
theorem dL_isSo_667 : decode cL_isSo 667 = .ok (.iload 21, 2) := by decide +kernel
theorem dL_isSo_669 : decode cL_isSo 669 = .ok (.isub, 1) := by decide +kernel
theorem dL_isSo_670 : decode cL_isSo 670 = .ok (.iconst 2, 1) := by decide +kernel
theorem dL_isSo_671 : decode cL_isSo 671 = .ok (.invokevirtual 92, 3) := by decide +kernel
theorem dL_isSo_674 : decode cL_isSo 674 = .ok (.aload 10, 2) := by decide +kernel
theorem dL_isSo_676 : decode cL_isSo 676 = .ok (.iload 27, 2) := by decide +kernel
theorem dL_isSo_678 : decode cL_isSo 678 = .ok (.iaload, 1) := by decide +kernel
theorem dL_isSo_679 : decode cL_isSo 679 = .ok (.invokestatic 15, 3) := by decide +kernel
theorem dL_isSo_682 : decode cL_isSo 682 = .ok (.if_icmp .ne 48, 3) := by decide +kernel
theorem dL_isSo_685 : decode cL_isSo 685 = .ok (.aload_n 0, 1) := by decide +kernel
theorem dL_isSo_686 : decode cL_isSo 686 = .ok (.iload 20, 2) := by decide +kernel
theorem dL_isSo_688 : decode cL_isSo 688 = .ok (.iload 27, 2) := by decide +kernel
theorem dL_isSo_690 : decode cL_isSo 690 = .ok (.iload 21, 2) := by decide +kernel
theorem dL_isSo_692 : decode cL_isSo 692 = .ok (.isub, 1) := by decide +kernel
theorem dL_isSo_693 : decode cL_isSo 693 = .ok (.iconst 3, 1) := by decide +kernel
theorem dL_isSo_694 : decode cL_isSo 694 = .ok (.invokevirtual 92, 3) := by decide +kernel
theorem dL_isSo_697 : decode cL_isSo 697 = .ok (.aload 10, 2) := by decide +kernel
theorem dL_isSo_699 : decode cL_isSo 699 = .ok (.iload 27, 2) := by decide +kernel
theorem dL_isSo_701 : decode cL_isSo 701 = .ok (.iaload, 1) := by decide +kernel
theorem dL_isSo_702 : decode cL_isSo 702 = .ok (.sipush 255, 3) := by decide +kernel
theorem dL_isSo_705 : decode cL_isSo 705 = .ok (.iand, 1) := by decide +kernel
theorem dL_isSo_706 : decode cL_isSo 706 = .ok (.iconst 1, 1) := by decide +kernel
theorem dL_isSo_707 : decode cL_isSo 707 = .ok (.if_icmp .le 14, 3) := by decide +kernel
theorem dL_isSo_710 : decode cL_isSo 710 = .ok (.aload 10, 2) := by decide +kernel
theorem dL_isSo_712 : decode cL_isSo 712 = .ok (.iload 27, 2) := by decide +kernel
theorem dL_isSo_714 : decode cL_isSo 714 = .ok (.iaload, 1) := by decide +kernel
theorem dL_isSo_715 : decode cL_isSo 715 = .ok (.invokestatic 19, 3) := by decide +kernel
theorem dL_isSo_718 : decode cL_isSo 718 = .ok (.goto 5, 3) := by decide +kernel
theorem dL_isSo_721 : decode cL_isSo 721 = .ok (.iload 13, 2) := by decide +kernel
theorem dL_isSo_723 : decode cL_isSo 723 = .ok (.if_icmp .ne 7, 3) := by decide +kernel
theorem dL_isSo_726 : decode cL_isSo 726 = .ok (.iconst 1, 1) := by decide +kernel
theorem dL_isSo_727 : decode cL_isSo 727 = .ok (.goto 4, 3) := by decide +kernel
theorem dL_isSo_730 : decode cL_isSo 730 = .ok (.iconst 0, 1) := by decide +kernel
theorem dL_isSo_731 : decode cL_isSo 731 = .ok (.istore 19, 2) := by decide +kernel
theorem dL_isSo_733 : decode cL_isSo 733 = .ok (.iinc 27 1, 3) := by decide +kernel
theorem dL_isSo_736 : decode cL_isSo 736 = .ok (.goto (-155), 3) := by decide +kernel
theorem dL_isSo_739 : decode cL_isSo 739 = .ok (.aload_n 3, 1) := by decide +kernel
theorem dL_isSo_740 : decode cL_isSo 740 = .ok (.aload 10, 2) := by decide +kernel
theorem dL_isSo_742 : decode cL_isSo 742 = .ok (.iload 21, 2) := by decide +kernel
theorem dL_isSo_744 : decode cL_isSo 744 = .ok (.iload 22, 2) := by decide +kernel
theorem dL_isSo_746 : decode cL_isSo 746 = .ok (.invokestatic 96, 3) := by decide +kernel
theorem dL_isSo_749 : decode cL_isSo 749 = .ok (.istore 27, 2) := by decide +kernel
theorem dL_isSo_751 : decode cL_isSo 751 = .ok (.iload 14, 2) := by decide +kernel
theorem dL_isSo_753 : decode cL_isSo 753 = .ok (.iload 23, 2) := by decide +kernel
theorem dL_isSo_755 : decode cL_isSo 755 = .ok (.iadd, 1) := by decide +kernel
theorem dL_isSo_756 : decode cL_isSo 756 = .ok (.istore 14, 2) := by decide +kernel
theorem dL_isSo_758 : decode cL_isSo 758 = .ok (.iload 18, 2) := by decide +kernel
theorem dL_isSo_760 : decode cL_isSo 760 = .ok (.iload 27, 2) := by decide +kernel
theorem dL_isSo_762 : decode cL_isSo 762 = .ok (.ifCond .eq 7, 3) := by decide +kernel
theorem dL_isSo_765 : decode cL_isSo 765 = .ok (.iconst 1, 1) := by decide +kernel
theorem dL_isSo_766 : decode cL_isSo 766 = .ok (.goto 4, 3) := by decide +kernel
theorem dL_isSo_769 : decode cL_isSo 769 = .ok (.iconst 0, 1) := by decide +kernel
theorem dL_isSo_770 : decode cL_isSo 770 = .ok (.iadd, 1) := by decide +kernel
theorem dL_isSo_771 : decode cL_isSo 771 = .ok (.istore 18, 2) := by decide +kernel
theorem dL_isSo_773 : decode cL_isSo 773 = .ok (.iload 19, 2) := by decide +kernel
theorem dL_isSo_775 : decode cL_isSo 775 = .ok (.ifCond .eq 108, 3) := by decide +kernel
theorem dL_isSo_778 : decode cL_isSo 778 = .ok (.aload_n 0, 1) := by decide +kernel
theorem dL_isSo_779 : decode cL_isSo 779 = .ok (.iload 20, 2) := by decide +kernel
theorem dL_isSo_781 : decode cL_isSo 781 = .ok (.iconst 0, 1) := by decide +kernel
theorem dL_isSo_782 : decode cL_isSo 782 = .ok (.invokevirtual 100, 3) := by decide +kernel
theorem dL_isSo_785 : decode cL_isSo 785 = .ok (.iload 22, 2) := by decide +kernel
theorem dL_isSo_787 : decode cL_isSo 787 = .ok (.iload 21, 2) := by decide +kernel
theorem dL_isSo_789 : decode cL_isSo 789 = .ok (.isub, 1) := by decide +kernel
theorem dL_isSo_790 : decode cL_isSo 790 = .ok (.if_icmp .ne 93, 3) := by decide +kernel
theorem dL_isSo_793 : decode cL_isSo 793 = .ok (.aload_n 0, 1) := by decide +kernel
theorem dL_isSo_794 : decode cL_isSo 794 = .ok (.iload 20, 2) := by decide +kernel
theorem dL_isSo_796 : decode cL_isSo 796 = .ok (.iconst 1, 1) := by decide +kernel
theorem dL_isSo_797 : decode cL_isSo 797 = .ok (.invokevirtual 100, 3) := by decide +kernel
theorem dL_isSo_800 : decode cL_isSo 800 = .ok (.iload 23, 2) := by decide +kernel
theorem dL_isSo_802 : decode cL_isSo 802 = .ok (.if_icmp .ne 81, 3) := by decide +kernel
theorem dL_isSo_805 : decode cL_isSo 805 = .ok (.aload_n 0, 1) := by decide +kernel
theorem dL_isSo_806 : decode cL_isSo 806 = .ok (.iload 20, 2) := by decide +kernel
theorem dL_isSo_808 : decode cL_isSo 808 = .ok (.iconst 2, 1) := by decide +kernel
theorem dL_isSo_809 : decode cL_isSo 809 = .ok (.invokevirtual 100, 3) := by decide +kernel
theorem dL_isSo_812 : decode cL_isSo 812 = .ok (.iload 27, 2) := by decide +kernel
theorem dL_isSo_814 : decode cL_isSo 814 = .ok (.ifCond .eq 7, 3) := by decide +kernel
theorem dL_isSo_817 : decode cL_isSo 817 = .ok (.iconst 1, 1) := by decide +kernel
theorem dL_isSo_818 : decode cL_isSo 818 = .ok (.goto 4, 3) := by decide +kernel
theorem dL_isSo_821 : decode cL_isSo 821 = .ok (.iconst 0, 1) := by decide +kernel
theorem dL_isSo_822 : decode cL_isSo 822 = .ok (.if_icmp .ne 61, 3) := by decide +kernel
theorem dL_isSo_825 : decode cL_isSo 825 = .ok (.aload_n 0, 1) := by decide +kernel
theorem dL_isSo_826 : decode cL_isSo 826 = .ok (.iload 20, 2) := by decide +kernel
theorem dL_isSo_828 : decode cL_isSo 828 = .ok (.iconst 3, 1) := by decide +kernel
theorem dL_isSo_829 : decode cL_isSo 829 = .ok (.invokevirtual 100, 3) := by decide +kernel
theorem dL_isSo_832 : decode cL_isSo 832 = .ok (.iload 24, 2) := by decide +kernel
theorem dL_isSo_834 : decode cL_isSo 834 = .ok (.if_icmp .ne 49, 3) := by decide +kernel
theorem dL_isSo_837 : decode cL_isSo 837 = .ok (.aload_n 0, 1) := by decide +kernel
theorem dL_isSo_838 : decode cL_isSo 838 = .ok (.iload 20, 2) := by decide +kernel
theorem dL_isSo_840 : decode cL_isSo 840 = .ok (.iconst 5, 1) := by decide +kernel
theorem dL_isSo_841 : decode cL_isSo 841 = .ok (.invokevirtual 100, 3) := by decide +kernel
theorem dL_isSo_844 : decode cL_isSo 844 = .ok (.iload 26, 2) := by decide +kernel
theorem dL_isSo_846 : decode cL_isSo 846 = .ok (.if_icmp .ne 37, 3) := by decide +kernel
theorem dL_isSo_849 : decode cL_isSo 849 = .ok (.aload_n 0, 1) := by decide +kernel
theorem dL_isSo_850 : decode cL_isSo 850 = .ok (.iload 20, 2) := by decide +kernel
theorem dL_isSo_852 : decode cL_isSo 852 = .ok (.bipush 6, 2) := by decide +kernel
theorem dL_isSo_854 : decode cL_isSo 854 = .ok (.invokevirtual 100, 3) := by decide +kernel
theorem dL_isSo_857 : decode cL_isSo 857 = .ok (.iload 25, 2) := by decide +kernel
theorem dL_isSo_859 : decode cL_isSo 859 = .ok (.if_icmp .ne 24, 3) := by decide +kernel
theorem dL_isSo_862 : decode cL_isSo 862 = .ok (.aload_n 0, 1) := by decide +kernel
theorem dL_isSo_863 : decode cL_isSo 863 = .ok (.iload 20, 2) := by decide +kernel
theorem dL_isSo_865 : decode cL_isSo 865 = .ok (.iload 22, 2) := by decide +kernel
theorem dL_isSo_867 : decode cL_isSo 867 = .ok (.iload 21, 2) := by decide +kernel
theorem dL_isSo_869 : decode cL_isSo 869 = .ok (.isub, 1) := by decide +kernel
theorem dL_isSo_870 : decode cL_isSo 870 = .ok (.iconst 0, 1) := by decide +kernel
theorem dL_isSo_871 : decode cL_isSo 871 = .ok (.invokevirtual 92, 3) := by decide +kernel
theorem dL_isSo_874 : decode cL_isSo 874 = .ok (.ldc 51, 2) := by decide +kernel
theorem dL_isSo_876 : decode cL_isSo 876 = .ok (.if_icmp .ne 7, 3) := by decide +kernel
theorem dL_isSo_879 : decode cL_isSo 879 = .ok (.iconst 1, 1) := by decide +kernel
theorem dL_isSo_880 : decode cL_isSo 880 = .ok (.goto 4, 3) := by decide +kernel
theorem dL_isSo_883 : decode cL_isSo 883 = .ok (.iconst 0, 1) := by decide +kernel
theorem dL_isSo_884 : decode cL_isSo 884 = .ok (.istore 19, 2) := by decide +kernel
theorem dL_isSo_886 : decode cL_isSo 886 = .ok (.iinc 20 1, 3) := by decide +kernel
theorem dL_isSo_889 : decode cL_isSo 889 = .ok (.goto (-475), 3) := by decide +kernel
theorem dL_isSo_892 : decode cL_isSo 892 = .ok (.iconst 0, 1) := by decide +kernel
theorem dL_isSo_893 : decode cL_isSo 893 = .ok (.istore 20, 2) := by decide +kernel
theorem dL_isSo_895 : decode cL_isSo 895 = .ok (.iload 20, 2) := by decide +kernel
theorem dL_isSo_897 : decode cL_isSo 897 = .ok (.bipush 25, 2) := by decide +kernel
theorem dL_isSo_899 : decode cL_isSo 899 = .ok (.if_icmp .ge 49, 3) := by decide +kernel
theorem dL_isSo_902 : decode cL_isSo 902 = .ok (.iload 19, 2) := by decide +kernel
theorem dL_isSo_904 : decode cL_isSo 904 = .ok (.ifCond .eq 44, 3) := by decide +kernel
theorem dL_isSo_907 : decode cL_isSo 907 = .ok (.aload_n 0, 1) := by decide +kernel
theorem dL_isSo_908 : decode cL_isSo 908 = .ok (.iload 20, 2) := by decide +kernel
theorem dL_isSo_910 : decode cL_isSo 910 = .ok (.invokevirtual 103, 3) := by decide +kernel
theorem dL_isSo_913 : decode cL_isSo 913 = .ok (.bipush 11, 2) := by decide +kernel
theorem dL_isSo_915 : decode cL_isSo 915 = .ok (.bipush 10, 2) := by decide +kernel
theorem dL_isSo_917 : decode cL_isSo 917 = .ok (.aload_n 3, 1) := by decide +kernel
theorem dL_isSo_918 : decode cL_isSo 918 = .ok (.iload 20, 2) := by decide +kernel
theorem dL_isSo_920 : decode cL_isSo 920 = .ok (.iaload, 1) := by decide +kernel
theorem dL_isSo_921 : decode cL_isSo 921 = .ok (.iconst 5, 1) := by decide +kernel
theorem dL_isSo_922 : decode cL_isSo 922 = .ok (.idiv, 1) := by decide +kernel
theorem dL_isSo_923 : decode cL_isSo 923 = .ok (.imul, 1) := by decide +kernel
theorem dL_isSo_924 : decode cL_isSo 924 = .ok (.iadd, 1) := by decide +kernel
theorem dL_isSo_925 : decode cL_isSo 925 = .ok (.aload_n 3, 1) := by decide +kernel
theorem dL_isSo_926 : decode cL_isSo 926 = .ok (.iload 20, 2) := by decide +kernel
theorem dL_isSo_928 : decode cL_isSo 928 = .ok (.iaload, 1) := by decide +kernel
theorem dL_isSo_929 : decode cL_isSo 929 = .ok (.iconst 5, 1) := by decide +kernel
theorem dL_isSo_930 : decode cL_isSo 930 = .ok (.irem, 1) := by decide +kernel
theorem dL_isSo_931 : decode cL_isSo 931 = .ok (.iadd, 1) := by decide +kernel
theorem dL_isSo_932 : decode cL_isSo 932 = .ok (.if_icmp .ne 7, 3) := by decide +kernel
theorem dL_isSo_935 : decode cL_isSo 935 = .ok (.iconst 1, 1) := by decide +kernel
theorem dL_isSo_936 : decode cL_isSo 936 = .ok (.goto 4, 3) := by decide +kernel
theorem dL_isSo_939 : decode cL_isSo 939 = .ok (.iconst 0, 1) := by decide +kernel
theorem dL_isSo_940 : decode cL_isSo 940 = .ok (.istore 19, 2) := by decide +kernel
theorem dL_isSo_942 : decode cL_isSo 942 = .ok (.iinc 20 1, 3) := by decide +kernel
theorem dL_isSo_945 : decode cL_isSo 945 = .ok (.goto (-50), 3) := by decide +kernel
theorem dL_isSo_948 : decode cL_isSo 948 = .ok (.iload 19, 2) := by decide +kernel
theorem dL_isSo_950 : decode cL_isSo 950 = .ok (.ifCond .eq 90, 3) := by decide +kernel
theorem dL_isSo_953 : decode cL_isSo 953 = .ok (.aload_n 0, 1) := by decide +kernel
theorem dL_isSo_954 : decode cL_isSo 954 = .ok (.iconst 0, 1) := by decide +kernel
theorem dL_isSo_955 : decode cL_isSo 955 = .ok (.invokevirtual 106, 3) := by decide +kernel
theorem dL_isSo_958 : decode cL_isSo 958 = .ok (.aload_n 1, 1) := by decide +kernel
theorem dL_isSo_959 : decode cL_isSo 959 = .ok (.iconst 3, 1) := by decide +kernel
theorem dL_isSo_960 : decode cL_isSo 960 = .ok (.iaload, 1) := by decide +kernel
theorem dL_isSo_961 : decode cL_isSo 961 = .ok (.if_icmp .ne 79, 3) := by decide +kernel
theorem dL_isSo_964 : decode cL_isSo 964 = .ok (.aload_n 0, 1) := by decide +kernel
theorem dL_isSo_965 : decode cL_isSo 965 = .ok (.iconst 1, 1) := by decide +kernel
theorem dL_isSo_966 : decode cL_isSo 966 = .ok (.invokevirtual 106, 3) := by decide +kernel
theorem dL_isSo_969 : decode cL_isSo 969 = .ok (.iload 12, 2) := by decide +kernel
theorem dL_isSo_971 : decode cL_isSo 971 = .ok (.if_icmp .ne 69, 3) := by decide +kernel
theorem dL_isSo_974 : decode cL_isSo 974 = .ok (.aload_n 0, 1) := by decide +kernel
theorem dL_isSo_975 : decode cL_isSo 975 = .ok (.iconst 2, 1) := by decide +kernel
theorem dL_isSo_976 : decode cL_isSo 976 = .ok (.invokevirtual 106, 3) := by decide +kernel
theorem dL_isSo_979 : decode cL_isSo 979 = .ok (.iload 11, 2) := by decide +kernel
theorem dL_isSo_981 : decode cL_isSo 981 = .ok (.if_icmp .ne 59, 3) := by decide +kernel
theorem dL_isSo_984 : decode cL_isSo 984 = .ok (.aload_n 0, 1) := by decide +kernel
theorem dL_isSo_985 : decode cL_isSo 985 = .ok (.iconst 3, 1) := by decide +kernel
theorem dL_isSo_986 : decode cL_isSo 986 = .ok (.invokevirtual 106, 3) := by decide +kernel
theorem dL_isSo_989 : decode cL_isSo 989 = .ok (.iload 14, 2) := by decide +kernel
theorem dL_isSo_991 : decode cL_isSo 991 = .ok (.if_icmp .ne 49, 3) := by decide +kernel
theorem dL_isSo_994 : decode cL_isSo 994 = .ok (.aload_n 0, 1) := by decide +kernel
theorem dL_isSo_995 : decode cL_isSo 995 = .ok (.iconst 4, 1) := by decide +kernel
theorem dL_isSo_996 : decode cL_isSo 996 = .ok (.invokevirtual 106, 3) := by decide +kernel
theorem dL_isSo_999 : decode cL_isSo 999 = .ok (.iload 15, 2) := by decide +kernel
theorem dL_isSo_1001 : decode cL_isSo 1001 = .ok (.if_icmp .ne 39, 3) := by decide +kernel
theorem dL_isSo_1004 : decode cL_isSo 1004 = .ok (.aload_n 0, 1) := by decide +kernel
theorem dL_isSo_1005 : decode cL_isSo 1005 = .ok (.iconst 5, 1) := by decide +kernel
theorem dL_isSo_1006 : decode cL_isSo 1006 = .ok (.invokevirtual 106, 3) := by decide +kernel
theorem dL_isSo_1009 : decode cL_isSo 1009 = .ok (.iload 16, 2) := by decide +kernel
theorem dL_isSo_1011 : decode cL_isSo 1011 = .ok (.if_icmp .ne 29, 3) := by decide +kernel
theorem dL_isSo_1014 : decode cL_isSo 1014 = .ok (.aload_n 0, 1) := by decide +kernel
theorem dL_isSo_1015 : decode cL_isSo 1015 = .ok (.bipush 6, 2) := by decide +kernel
theorem dL_isSo_1017 : decode cL_isSo 1017 = .ok (.invokevirtual 106, 3) := by decide +kernel
theorem dL_isSo_1020 : decode cL_isSo 1020 = .ok (.iload 17, 2) := by decide +kernel
theorem dL_isSo_1022 : decode cL_isSo 1022 = .ok (.if_icmp .ne 18, 3) := by decide +kernel
theorem dL_isSo_1025 : decode cL_isSo 1025 = .ok (.aload_n 0, 1) := by decide +kernel
theorem dL_isSo_1026 : decode cL_isSo 1026 = .ok (.bipush 7, 2) := by decide +kernel
theorem dL_isSo_1028 : decode cL_isSo 1028 = .ok (.invokevirtual 106, 3) := by decide +kernel
theorem dL_isSo_1031 : decode cL_isSo 1031 = .ok (.iload 18, 2) := by decide +kernel
theorem dL_isSo_1033 : decode cL_isSo 1033 = .ok (.if_icmp .ne 7, 3) := by decide +kernel
theorem dL_isSo_1036 : decode cL_isSo 1036 = .ok (.iconst 1, 1) := by decide +kernel
theorem dL_isSo_1037 : decode cL_isSo 1037 = .ok (.goto 4, 3) := by decide +kernel
theorem dL_isSo_1040 : decode cL_isSo 1040 = .ok (.iconst 0, 1) := by decide +kernel
theorem dL_isSo_1041 : decode cL_isSo 1041 = .ok (.istore 19, 2) := by decide +kernel
theorem dL_isSo_1043 : decode cL_isSo 1043 = .ok (.iload 19, 2) := by decide +kernel
theorem dL_isSo_1045 : decode cL_isSo 1045 = .ok (.ifCond .eq 91, 3) := by decide +kernel
theorem dL_isSo_1048 : decode cL_isSo 1048 = .ok (.aload_n 0, 1) := by decide +kernel
theorem dL_isSo_1049 : decode cL_isSo 1049 = .ok (.bipush 8, 2) := by decide +kernel
theorem dL_isSo_1051 : decode cL_isSo 1051 = .ok (.invokevirtual 106, 3) := by decide +kernel
theorem dL_isSo_1054 : decode cL_isSo 1054 = .ok (.aload_n 1, 1) := by decide +kernel
theorem dL_isSo_1055 : decode cL_isSo 1055 = .ok (.iconst 2, 1) := by decide +kernel
theorem dL_isSo_1056 : decode cL_isSo 1056 = .ok (.iaload, 1) := by decide +kernel
theorem dL_isSo_1057 : decode cL_isSo 1057 = .ok (.if_icmp .ne 79, 3) := by decide +kernel
theorem dL_isSo_1060 : decode cL_isSo 1060 = .ok (.aload_n 0, 1) := by decide +kernel
theorem dL_isSo_1061 : decode cL_isSo 1061 = .ok (.bipush 9, 2) := by decide +kernel
theorem dL_isSo_1063 : decode cL_isSo 1063 = .ok (.invokevirtual 106, 3) := by decide +kernel
theorem dL_isSo_1066 : decode cL_isSo 1066 = .ok (.aload_n 1, 1) := by decide +kernel
theorem dL_isSo_1067 : decode cL_isSo 1067 = .ok (.iconst 3, 1) := by decide +kernel
theorem dL_isSo_1068 : decode cL_isSo 1068 = .ok (.iaload, 1) := by decide +kernel
theorem dL_isSo_1069 : decode cL_isSo 1069 = .ok (.ifCond .ne 8, 3) := by decide +kernel
theorem dL_isSo_1072 : decode cL_isSo 1072 = .ok (.iload 13, 2) := by decide +kernel
theorem dL_isSo_1074 : decode cL_isSo 1074 = .ok (.goto 10, 3) := by decide +kernel
theorem dL_isSo_1077 : decode cL_isSo 1077 = .ok (.aload_n 2, 1) := by decide +kernel
theorem dL_isSo_1078 : decode cL_isSo 1078 = .ok (.aload_n 1, 1) := by decide +kernel
theorem dL_isSo_1079 : decode cL_isSo 1079 = .ok (.iconst 3, 1) := by decide +kernel
theorem dL_isSo_1080 : decode cL_isSo 1080 = .ok (.iaload, 1) := by decide +kernel
theorem dL_isSo_1081 : decode cL_isSo 1081 = .ok (.iconst 1, 1) := by decide +kernel
theorem dL_isSo_1082 : decode cL_isSo 1082 = .ok (.isub, 1) := by decide +kernel
theorem dL_isSo_1083 : decode cL_isSo 1083 = .ok (.iaload, 1) := by decide +kernel
theorem dL_isSo_1084 : decode cL_isSo 1084 = .ok (.if_icmp .ne 52, 3) := by decide +kernel
theorem dL_isSo_1087 : decode cL_isSo 1087 = .ok (.aload_n 0, 1) := by decide +kernel
theorem dL_isSo_1088 : decode cL_isSo 1088 = .ok (.bipush 11, 2) := by decide +kernel
theorem dL_isSo_1090 : decode cL_isSo 1090 = .ok (.invokevirtual 106, 3) := by decide +kernel
theorem dL_isSo_1093 : decode cL_isSo 1093 = .ok (.ifCond .ne 43, 3) := by decide +kernel
theorem dL_isSo_1096 : decode cL_isSo 1096 = .ok (.aload_n 0, 1) := by decide +kernel
theorem dL_isSo_1097 : decode cL_isSo 1097 = .ok (.bipush 20, 2) := by decide +kernel
theorem dL_isSo_1099 : decode cL_isSo 1099 = .ok (.invokevirtual 106, 3) := by decide +kernel
theorem dL_isSo_1102 : decode cL_isSo 1102 = .ok (.aload_n 1, 1) := by decide +kernel
theorem dL_isSo_1103 : decode cL_isSo 1103 = .ok (.iconst 0, 1) := by decide +kernel
theorem dL_isSo_1104 : decode cL_isSo 1104 = .ok (.iaload, 1) := by decide +kernel
theorem dL_isSo_1105 : decode cL_isSo 1105 = .ok (.if_icmp .ne 31, 3) := by decide +kernel
theorem dL_isSo_1108 : decode cL_isSo 1108 = .ok (.aload_n 0, 1) := by decide +kernel
theorem dL_isSo_1109 : decode cL_isSo 1109 = .ok (.bipush 21, 2) := by decide +kernel
theorem dL_isSo_1111 : decode cL_isSo 1111 = .ok (.invokevirtual 106, 3) := by decide +kernel
theorem dL_isSo_1114 : decode cL_isSo 1114 = .ok (.aload_n 1, 1) := by decide +kernel
theorem dL_isSo_1115 : decode cL_isSo 1115 = .ok (.iconst 1, 1) := by decide +kernel
theorem dL_isSo_1116 : decode cL_isSo 1116 = .ok (.iaload, 1) := by decide +kernel
theorem dL_isSo_1117 : decode cL_isSo 1117 = .ok (.if_icmp .ne 19, 3) := by decide +kernel
theorem dL_isSo_1120 : decode cL_isSo 1120 = .ok (.aload_n 0, 1) := by decide +kernel
theorem dL_isSo_1121 : decode cL_isSo 1121 = .ok (.iload 12, 2) := by decide +kernel
theorem dL_isSo_1123 : decode cL_isSo 1123 = .ok (.iconst 0, 1) := by decide +kernel
theorem dL_isSo_1124 : decode cL_isSo 1124 = .ok (.invokevirtual 100, 3) := by decide +kernel
theorem dL_isSo_1127 : decode cL_isSo 1127 = .ok (.ldc 51, 2) := by decide +kernel
theorem dL_isSo_1129 : decode cL_isSo 1129 = .ok (.if_icmp .ne 7, 3) := by decide +kernel
theorem dL_isSo_1132 : decode cL_isSo 1132 = .ok (.iconst 1, 1) := by decide +kernel
theorem dL_isSo_1133 : decode cL_isSo 1133 = .ok (.goto 4, 3) := by decide +kernel
theorem dL_isSo_1136 : decode cL_isSo 1136 = .ok (.iconst 0, 1) := by decide +kernel
theorem dL_isSo_1137 : decode cL_isSo 1137 = .ok (.ireturn, 1) := by decide +kernel
theorem dL_law_0 : decode cL_law 0 = .ok (.new 44, 3) := by decide +kernel
theorem dL_law_3 : decode cL_law 3 = .ok (.dup, 1) := by decide +kernel
theorem dL_law_4 : decode cL_law 4 = .ok (.invokespecial 109, 3) := by decide +kernel
theorem dL_law_7 : decode cL_law 7 = .ok (.astore_n 1, 1) := by decide +kernel
theorem dL_law_8 : decode cL_law 8 = .ok (.iconst 4, 1) := by decide +kernel
theorem dL_law_9 : decode cL_law 9 = .ok (.newarray .int, 2) := by decide +kernel
theorem dL_law_11 : decode cL_law 11 = .ok (.astore_n 2, 1) := by decide +kernel
theorem dL_law_12 : decode cL_law 12 = .ok (.bipush 64, 2) := by decide +kernel
theorem dL_law_14 : decode cL_law 14 = .ok (.newarray .int, 2) := by decide +kernel
theorem dL_law_16 : decode cL_law 16 = .ok (.astore_n 3, 1) := by decide +kernel
theorem dL_law_17 : decode cL_law 17 = .ok (.bipush 25, 2) := by decide +kernel
theorem dL_law_19 : decode cL_law 19 = .ok (.newarray .int, 2) := by decide +kernel
theorem dL_law_21 : decode cL_law 21 = .ok (.astore 4, 2) := by decide +kernel
theorem dL_law_23 : decode cL_law 23 = .ok (.aload_n 2, 1) := by decide +kernel
theorem dL_law_24 : decode cL_law 24 = .ok (.iconst 0, 1) := by decide +kernel
theorem dL_law_25 : decode cL_law 25 = .ok (.bipush 8, 2) := by decide +kernel
theorem dL_law_27 : decode cL_law 27 = .ok (.iastore, 1) := by decide +kernel
theorem dL_law_28 : decode cL_law 28 = .ok (.aload_n 2, 1) := by decide +kernel
theorem dL_law_29 : decode cL_law 29 = .ok (.iconst 1, 1) := by decide +kernel
theorem dL_law_30 : decode cL_law 30 = .ok (.iconst 1, 1) := by decide +kernel
theorem dL_law_31 : decode cL_law 31 = .ok (.iastore, 1) := by decide +kernel
theorem dL_law_32 : decode cL_law 32 = .ok (.iconst 0, 1) := by decide +kernel
theorem dL_law_33 : decode cL_law 33 = .ok (.istore 5, 2) := by decide +kernel
theorem dL_law_35 : decode cL_law 35 = .ok (.iload 5, 2) := by decide +kernel
theorem dL_law_37 : decode cL_law 37 = .ok (.bipush 25, 2) := by decide +kernel
theorem dL_law_39 : decode cL_law 39 = .ok (.if_icmp .ge 16, 3) := by decide +kernel
theorem dL_law_42 : decode cL_law 42 = .ok (.aload 4, 2) := by decide +kernel
theorem dL_law_44 : decode cL_law 44 = .ok (.iload 5, 2) := by decide +kernel
theorem dL_law_46 : decode cL_law 46 = .ok (.iload 5, 2) := by decide +kernel
theorem dL_law_48 : decode cL_law 48 = .ok (.iastore, 1) := by decide +kernel
theorem dL_law_49 : decode cL_law 49 = .ok (.iinc 5 1, 3) := by decide +kernel
theorem dL_law_52 : decode cL_law 52 = .ok (.goto (-17), 3) := by decide +kernel
theorem dL_law_55 : decode cL_law 55 = .ok (.aload_n 1, 1) := by decide +kernel
theorem dL_law_56 : decode cL_law 56 = .ok (.aload_n 2, 1) := by decide +kernel
theorem dL_law_57 : decode cL_law 57 = .ok (.aload_n 3, 1) := by decide +kernel
theorem dL_law_58 : decode cL_law 58 = .ok (.aload 4, 2) := by decide +kernel
theorem dL_law_60 : decode cL_law 60 = .ok (.invokestatic 110, 3) := by decide +kernel
theorem dL_law_63 : decode cL_law 63 = .ok (.istore 5, 2) := by decide +kernel
theorem dL_law_65 : decode cL_law 65 = .ok (.bipush 10, 2) := by decide +kernel
theorem dL_law_67 : decode cL_law 67 = .ok (.aload_n 0, 1) := by decide +kernel
theorem dL_law_68 : decode cL_law 68 = .ok (.iconst 0, 1) := by decide +kernel
theorem dL_law_69 : decode cL_law 69 = .ok (.invokestatic 114, 3) := by decide +kernel
theorem dL_law_72 : decode cL_law 72 = .ok (.bipush 42, 2) := by decide +kernel
theorem dL_law_74 : decode cL_law 74 = .ok (.invokestatic 39, 3) := by decide +kernel
theorem dL_law_77 : decode cL_law 77 = .ok (.iadd, 1) := by decide +kernel
theorem dL_law_78 : decode cL_law 78 = .ok (.istore 6, 2) := by decide +kernel
theorem dL_law_80 : decode cL_law 80 = .ok (.iconst 0, 1) := by decide +kernel
theorem dL_law_81 : decode cL_law 81 = .ok (.istore 7, 2) := by decide +kernel
theorem dL_law_83 : decode cL_law 83 = .ok (.iload 7, 2) := by decide +kernel
theorem dL_law_85 : decode cL_law 85 = .ok (.iload 6, 2) := by decide +kernel
theorem dL_law_87 : decode cL_law 87 = .ok (.if_icmp .ge 86, 3) := by decide +kernel
theorem dL_law_90 : decode cL_law 90 = .ok (.iload 5, 2) := by decide +kernel
theorem dL_law_92 : decode cL_law 92 = .ok (.ifCond .eq 81, 3) := by decide +kernel
theorem dL_law_95 : decode cL_law 95 = .ok (.aload_n 0, 1) := by decide +kernel
theorem dL_law_96 : decode cL_law 96 = .ok (.iconst 1, 1) := by decide +kernel
theorem dL_law_97 : decode cL_law 97 = .ok (.iload 7, 2) := by decide +kernel
theorem dL_law_99 : decode cL_law 99 = .ok (.iadd, 1) := by decide +kernel
theorem dL_law_100 : decode cL_law 100 = .ok (.invokestatic 114, 3) := by decide +kernel
theorem dL_law_103 : decode cL_law 103 = .ok (.sipush 7919, 3) := by decide +kernel
theorem dL_law_106 : decode cL_law 106 = .ok (.iload 7, 2) := by decide +kernel
theorem dL_law_108 : decode cL_law 108 = .ok (.imul, 1) := by decide +kernel
theorem dL_law_109 : decode cL_law 109 = .ok (.ixor, 1) := by decide +kernel
theorem dL_law_110 : decode cL_law 110 = .ok (.istore 8, 2) := by decide +kernel
theorem dL_law_112 : decode cL_law 112 = .ok (.aload_n 1, 1) := by decide +kernel
theorem dL_law_113 : decode cL_law 113 = .ok (.aload_n 2, 1) := by decide +kernel
theorem dL_law_114 : decode cL_law 114 = .ok (.aload_n 3, 1) := by decide +kernel
theorem dL_law_115 : decode cL_law 115 = .ok (.aload 4, 2) := by decide +kernel
theorem dL_law_117 : decode cL_law 117 = .ok (.iload 7, 2) := by decide +kernel
theorem dL_law_119 : decode cL_law 119 = .ok (.iconst 3, 1) := by decide +kernel
theorem dL_law_120 : decode cL_law 120 = .ok (.if_icmp .ge 21, 3) := by decide +kernel
theorem dL_law_123 : decode cL_law 123 = .ok (.iload 8, 2) := by decide +kernel
theorem dL_law_125 : decode cL_law 125 = .ok (.ldc 8, 2) := by decide +kernel
theorem dL_law_127 : decode cL_law 127 = .ok (.iand, 1) := by decide +kernel
theorem dL_law_128 : decode cL_law 128 = .ok (.sipush 768, 3) := by decide +kernel
theorem dL_law_131 : decode cL_law 131 = .ok (.idiv, 1) := by decide +kernel
theorem dL_law_132 : decode cL_law 132 = .ok (.sipush 768, 3) := by decide +kernel
theorem dL_law_135 : decode cL_law 135 = .ok (.imul, 1) := by decide +kernel
theorem dL_law_136 : decode cL_law 136 = .ok (.iconst 5, 1) := by decide +kernel
theorem dL_law_137 : decode cL_law 137 = .ok (.iadd, 1) := by decide +kernel
theorem dL_law_138 : decode cL_law 138 = .ok (.goto 5, 3) := by decide +kernel
theorem dL_law_141 : decode cL_law 141 = .ok (.iload 8, 2) := by decide +kernel
theorem dL_law_143 : decode cL_law 143 = .ok (.invokestatic 117, 3) := by decide +kernel
theorem dL_law_146 : decode cL_law 146 = .ok (.ifCond .eq 18, 3) := by decide +kernel
theorem dL_law_149 : decode cL_law 149 = .ok (.aload_n 1, 1) := by decide +kernel
theorem dL_law_150 : decode cL_law 150 = .ok (.aload_n 2, 1) := by decide +kernel
theorem dL_law_151 : decode cL_law 151 = .ok (.aload_n 3, 1) := by decide +kernel
theorem dL_law_152 : decode cL_law 152 = .ok (.aload 4, 2) := by decide +kernel
theorem dL_law_154 : decode cL_law 154 = .ok (.invokestatic 110, 3) := by decide +kernel
theorem dL_law_157 : decode cL_law 157 = .ok (.ifCond .eq 7, 3) := by decide +kernel
theorem dL_law_160 : decode cL_law 160 = .ok (.iconst 1, 1) := by decide +kernel
theorem dL_law_161 : decode cL_law 161 = .ok (.goto 4, 3) := by decide +kernel
theorem dL_law_164 : decode cL_law 164 = .ok (.iconst 0, 1) := by decide +kernel
theorem dL_law_165 : decode cL_law 165 = .ok (.istore 5, 2) := by decide +kernel
theorem dL_law_167 : decode cL_law 167 = .ok (.iinc 7 1, 3) := by decide +kernel
theorem dL_law_170 : decode cL_law 170 = .ok (.goto (-87), 3) := by decide +kernel
theorem dL_law_173 : decode cL_law 173 = .ok (.iload 5, 2) := by decide +kernel
theorem dL_law_175 : decode cL_law 175 = .ok (.ifCond .eq 88, 3) := by decide +kernel
theorem dL_law_178 : decode cL_law 178 = .ok (.aload_n 2, 1) := by decide +kernel
theorem dL_law_179 : decode cL_law 179 = .ok (.iconst 3, 1) := by decide +kernel
theorem dL_law_180 : decode cL_law 180 = .ok (.iaload, 1) := by decide +kernel
theorem dL_law_181 : decode cL_law 181 = .ok (.bipush 40, 2) := by decide +kernel
theorem dL_law_183 : decode cL_law 183 = .ok (.if_icmp .ge 80, 3) := by decide +kernel
theorem dL_law_186 : decode cL_law 186 = .ok (.aload_n 2, 1) := by decide +kernel
theorem dL_law_187 : decode cL_law 187 = .ok (.iconst 3, 1) := by decide +kernel
theorem dL_law_188 : decode cL_law 188 = .ok (.iaload, 1) := by decide +kernel
theorem dL_law_189 : decode cL_law 189 = .ok (.ifCond .eq 16, 3) := by decide +kernel
theorem dL_law_192 : decode cL_law 192 = .ok (.aload_n 3, 1) := by decide +kernel
theorem dL_law_193 : decode cL_law 193 = .ok (.aload_n 2, 1) := by decide +kernel
theorem dL_law_194 : decode cL_law 194 = .ok (.iconst 3, 1) := by decide +kernel
theorem dL_law_195 : decode cL_law 195 = .ok (.iaload, 1) := by decide +kernel
theorem dL_law_196 : decode cL_law 196 = .ok (.iconst 1, 1) := by decide +kernel
theorem dL_law_197 : decode cL_law 197 = .ok (.isub, 1) := by decide +kernel
theorem dL_law_198 : decode cL_law 198 = .ok (.iaload, 1) := by decide +kernel
theorem dL_law_199 : decode cL_law 199 = .ok (.sipush 8000, 3) := by decide +kernel
theorem dL_law_202 : decode cL_law 202 = .ok (.if_icmp .ge 61, 3) := by decide +kernel
theorem dL_law_205 : decode cL_law 205 = .ok (.aload_n 0, 1) := by decide +kernel
theorem dL_law_206 : decode cL_law 206 = .ok (.iconst 2, 1) := by decide +kernel
theorem dL_law_207 : decode cL_law 207 = .ok (.invokestatic 114, 3) := by decide +kernel
theorem dL_law_210 : decode cL_law 210 = .ok (.bipush 25, 2) := by decide +kernel
theorem dL_law_212 : decode cL_law 212 = .ok (.invokestatic 39, 3) := by decide +kernel
theorem dL_law_215 : decode cL_law 215 = .ok (.istore 7, 2) := by decide +kernel
theorem dL_law_217 : decode cL_law 217 = .ok (.aload_n 1, 1) := by decide +kernel
theorem dL_law_218 : decode cL_law 218 = .ok (.invokevirtual 67, 3) := by decide +kernel
theorem dL_law_221 : decode cL_law 221 = .ok (.ldc 71, 2) := by decide +kernel
theorem dL_law_223 : decode cL_law 223 = .ok (.if_icmp .lt 37, 3) := by decide +kernel
theorem dL_law_226 : decode cL_law 226 = .ok (.aload_n 1, 1) := by decide +kernel
theorem dL_law_227 : decode cL_law 227 = .ok (.iload 7, 2) := by decide +kernel
theorem dL_law_229 : decode cL_law 229 = .ok (.invokevirtual 61, 3) := by decide +kernel
theorem dL_law_232 : decode cL_law 232 = .ok (.aload_n 2, 1) := by decide +kernel
theorem dL_law_233 : decode cL_law 233 = .ok (.iconst 3, 1) := by decide +kernel
theorem dL_law_234 : decode cL_law 234 = .ok (.iaload, 1) := by decide +kernel
theorem dL_law_235 : decode cL_law 235 = .ok (.if_icmp .ne 25, 3) := by decide +kernel
theorem dL_law_238 : decode cL_law 238 = .ok (.aload_n 1, 1) := by decide +kernel
theorem dL_law_239 : decode cL_law 239 = .ok (.aload_n 1, 1) := by decide +kernel
theorem dL_law_240 : decode cL_law 240 = .ok (.iconst 1, 1) := by decide +kernel
theorem dL_law_241 : decode cL_law 241 = .ok (.invokevirtual 106, 3) := by decide +kernel
theorem dL_law_244 : decode cL_law 244 = .ok (.iconst 1, 1) := by decide +kernel
theorem dL_law_245 : decode cL_law 245 = .ok (.isub, 1) := by decide +kernel
theorem dL_law_246 : decode cL_law 246 = .ok (.iconst 0, 1) := by decide +kernel
theorem dL_law_247 : decode cL_law 247 = .ok (.iconst 0, 1) := by decide +kernel
theorem dL_law_248 : decode cL_law 248 = .ok (.invokevirtual 92, 3) := by decide +kernel
theorem dL_law_251 : decode cL_law 251 = .ok (.iload 7, 2) := by decide +kernel
theorem dL_law_253 : decode cL_law 253 = .ok (.if_icmp .ne 7, 3) := by decide +kernel
theorem dL_law_256 : decode cL_law 256 = .ok (.iconst 1, 1) := by decide +kernel
theorem dL_law_257 : decode cL_law 257 = .ok (.goto 4, 3) := by decide +kernel
theorem dL_law_260 : decode cL_law 260 = .ok (.iconst 0, 1) := by decide +kernel
theorem dL_law_261 : decode cL_law 261 = .ok (.istore 5, 2) := by decide +kernel
theorem dL_law_263 : decode cL_law 263 = .ok (.iload 5, 2) := by decide +kernel
theorem dL_law_265 : decode cL_law 265 = .ok (.ifCond .eq 66, 3) := by decide +kernel
theorem dL_law_268 : decode cL_law 268 = .ok (.aload_n 1, 1) := by decide +kernel
theorem dL_law_269 : decode cL_law 269 = .ok (.bipush 12, 2) := by decide +kernel
theorem dL_law_271 : decode cL_law 271 = .ok (.invokevirtual 106, 3) := by decide +kernel
theorem dL_law_274 : decode cL_law 274 = .ok (.ldc 51, 2) := by decide +kernel
theorem dL_law_276 : decode cL_law 276 = .ok (.if_icmp .ne 55, 3) := by decide +kernel
theorem dL_law_279 : decode cL_law 279 = .ok (.aload_n 1, 1) := by decide +kernel
theorem dL_law_280 : decode cL_law 280 = .ok (.bipush 19, 2) := by decide +kernel
theorem dL_law_282 : decode cL_law 282 = .ok (.invokevirtual 106, 3) := by decide +kernel
theorem dL_law_285 : decode cL_law 285 = .ok (.ldc 51, 2) := by decide +kernel
theorem dL_law_287 : decode cL_law 287 = .ok (.if_icmp .ne 44, 3) := by decide +kernel
theorem dL_law_290 : decode cL_law 290 = .ok (.aload_n 1, 1) := by decide +kernel
theorem dL_law_291 : decode cL_law 291 = .ok (.bipush 22, 2) := by decide +kernel
theorem dL_law_293 : decode cL_law 293 = .ok (.invokevirtual 106, 3) := by decide +kernel
theorem dL_law_296 : decode cL_law 296 = .ok (.ldc 51, 2) := by decide +kernel
theorem dL_law_298 : decode cL_law 298 = .ok (.if_icmp .ne 33, 3) := by decide +kernel
theorem dL_law_301 : decode cL_law 301 = .ok (.aload_n 1, 1) := by decide +kernel
theorem dL_law_302 : decode cL_law 302 = .ok (.bipush 25, 2) := by decide +kernel
theorem dL_law_304 : decode cL_law 304 = .ok (.invokevirtual 103, 3) := by decide +kernel
theorem dL_law_307 : decode cL_law 307 = .ok (.ldc 51, 2) := by decide +kernel
theorem dL_law_309 : decode cL_law 309 = .ok (.if_icmp .ne 22, 3) := by decide +kernel
theorem dL_law_312 : decode cL_law 312 = .ok (.aload_n 1, 1) := by decide +kernel
theorem dL_law_313 : decode cL_law 313 = .ok (.aload_n 1, 1) := by decide +kernel
theorem dL_law_314 : decode cL_law 314 = .ok (.iconst 0, 1) := by decide +kernel
theorem dL_law_315 : decode cL_law 315 = .ok (.invokevirtual 106, 3) := by decide +kernel
theorem dL_law_318 : decode cL_law 318 = .ok (.iconst 0, 1) := by decide +kernel
theorem dL_law_319 : decode cL_law 319 = .ok (.invokevirtual 86, 3) := by decide +kernel
theorem dL_law_322 : decode cL_law 322 = .ok (.ldc 51, 2) := by decide +kernel
theorem dL_law_324 : decode cL_law 324 = .ok (.if_icmp .ne 7, 3) := by decide +kernel
theorem dL_law_327 : decode cL_law 327 = .ok (.iconst 1, 1) := by decide +kernel
theorem dL_law_328 : decode cL_law 328 = .ok (.goto 4, 3) := by decide +kernel
theorem dL_law_331 : decode cL_law 331 = .ok (.iconst 0, 1) := by decide +kernel
theorem dL_law_332 : decode cL_law 332 = .ok (.ireturn, 1) := by decide +kernel
end
section
/-! THE ABSTRACT MACHINE: values, cells and heaps by numbers; a method's runs as a least set closed under rules; every rule is one row of the kit -/
abbrev AV : Type := Int32 ⊕ Option Nat
abbrev AC : Type := (Nat × List AV) ⊕ ((Nat × (Nat → Int32)) ⊕ (Nat × (Nat → Option Nat)))
abbrev AH : Type := List AC
abbrev AP : Type := Option AV → AH → Prop
abbrev AX : Type := Nat → List (Option AV) → List AV → AH → Nat → Nat → Prop
/-- a method: its name, its bytes, its locals, what it returns, the frames and the locals' words that it needs -/
abbrev MR : Type := MethodName × ByteArray × Nat × Option FieldType × Nat × Nat
abbrev AO : Type := MR → List AV → AH → Nat → Nat → AP → Prop
abbrev ry (r : MR) : MethodName := r.1
abbrev rc (r : MR) : ByteArray := r.2.1
abbrev rL (r : MR) : Nat := r.2.2.1
abbrev rt (r : MR) : Option FieldType := r.2.2.2.1
abbrev rf (r : MR) : Nat := r.2.2.2.2.1
abbrev rl (r : MR) : Nat := r.2.2.2.2.2
abbrev ro (r : MR) : String := r.1.cls
abbrev ai (x : Int32) : AV := .inl x
abbrev ar (k : Nat) : AV := .inr (some k)
abbrev an : AV := .inr none
def cv (b : Nat) : AV → Value
  | .inl x => .int x
  | .inr none => .null
  | .inr (some k) => .ref (b + k)
theorem cv_cat (b : Nat) (v : AV) : (cv b v).category = 1 := by
  rcases v with x | (_ | k) <;> rfl
/-- the words that every method has: those of the tables that stay -/
def Wl : List Cond := lw_tbl.filter goodWord
theorem Wl_good : ∀ w ∈ Wl, goodWord w = true := fun w h => (List.mem_filter.mp h).2
theorem Wl_tbl : ∀ w ∈ Wl, w ∈ lw_tbl := fun w h => (List.mem_filter.mp h).1
theorem Wl_in {w : Cond} (h : w ∈ lw_tbl) (hg : goodWord w = true) : w ∈ Wl := List.mem_filter.mpr ⟨h, hg⟩
def FL (own : String) (idx ci k : Nat) : Prop := ∃ C T N, vwCl[ci]? = some (C, T, N) ∧ k < N ∧ Cond.fieldLink own idx (T k).1 (T k).2.1 (T k).2.2.1 ∈ Wl
def FN (ci k : Nat) : Prop := ∃ C T N, vwCl[ci]? = some (C, T, N) ∧ (T k).2.2.2 = false
def FP (ci k : Nat) (v : AV) : Prop := ∀ b : Nat, ∃ C T N ty, vwCl[ci]? = some (C, T, N) ∧ parseFieldDescriptor (T k).2.2.1 = some ty ∧ narrow ty (cv b v) = cv b v ∧ fits ty (cv b v) = true
def FF (own : String) (ci k : Nat) : Prop := ∃ C T N, vwCl[ci]? = some (C, T, N) ∧ (T k).2.2.2 = true ∧ (T k).1 = own
def MB (r : MR) (n : Nat) : Prop := Cond.initialized (ro r) ∈ Wl ∧ Cond.code (ry r) (rc r) (rL r) (rt r) ∈ Wl ∧ plainFor (ry r) = true ∧ n ≤ rL r ∧ (ro r ≠ "java/lang/invoke/MethodHandle" ∧ ro r ≠ "java/lang/invoke/VarHandle" ∧ (parseMethodDescriptor (ry r).desc).map (fun d => d.parameters.length) = some n)
def MV (r : MR) (n : Nat) : Prop := MB r n ∧ n + 1 ≤ rL r ∧ Cond.instanceMethod (ry r) ∈ Wl ∧ Cond.selects (ro r) (ry r) (ry r) ∈ Wl
def MS (r : MR) (n : Nat) : Prop := MB r n ∧ Cond.static (ry r) ∈ Wl
def MI (r : MR) (n : Nat) : Prop := MB r n ∧ n + 1 ≤ rL r ∧ Cond.instanceMethod (ry r) ∈ Wl ∧ (ry r).name = "<init>" ∧ rt r = none
def FIT (r' r : MR) : Prop := rf r' + 1 ≤ rf r ∧ 8 + (rL r' + 11) + rl r' ≤ rl r
/-- the class of a receiver -/
def KC (ci : Nat) (C : String) : Prop := ∃ T N, vwCl[ci]? = some (C, T, N)
def nestL : List (String × Nat × MethodName) := [(RX9, 28, yX6_init), (RX6, 11, yX3_init), (RX6, 20, yX4_init), (RX9, 35, yX1_init), (RX9, 42, yX0_init), (RX9, 49, yX5_init)]
abbrev nestW (q : String × Nat × MethodName) : Cond := .methodLinkNest q.1 q.2.1 q.2.2 RX9

section AMR
variable (r : MR) (OO : AO) (Q : AP) (X : AX)
def R_iconst : Prop := ∀ (pc : Nat) (ls : List (Option AV)) (st : List AV) (h : AH) (a b : Nat) (n : Int) (v : Int32), (decode (rc r) pc = .ok (.iconst n, 1)) → (Int32.ofInt n = v) → X (pc + 1) (ls) (ai v :: st) (h) (a) (b) → X (pc) (ls) (st) (h) (a) (b)
def R_bipush : Prop := ∀ (pc : Nat) (ls : List (Option AV)) (st : List AV) (h : AH) (a b : Nat) (n : Int) (v : Int32), (decode (rc r) pc = .ok (.bipush n, 2)) → ((Int8.ofInt n).toInt32 = v) → X (pc + 2) (ls) (ai v :: st) (h) (a) (b) → X (pc) (ls) (st) (h) (a) (b)
def R_sipush : Prop := ∀ (pc : Nat) (ls : List (Option AV)) (st : List AV) (h : AH) (a b : Nat) (n : Int) (v : Int32), (decode (rc r) pc = .ok (.sipush n, 3)) → ((Int16.ofInt n).toInt32 = v) → X (pc + 3) (ls) (ai v :: st) (h) (a) (b) → X (pc) (ls) (st) (h) (a) (b)
def R_ldc : Prop := ∀ (pc : Nat) (ls : List (Option AV)) (st : List AV) (h : AH) (a b : Nat) (i : Nat) (v : Int32), (decode (rc r) pc = .ok (.ldc i, 2)) → (Cond.constant (ro r) i v ∈ Wl) → X (pc + 2) (ls) (ai v :: st) (h) (a) (b) → X (pc) (ls) (st) (h) (a) (b)
def R_null : Prop := ∀ (pc : Nat) (ls : List (Option AV)) (st : List AV) (h : AH) (a b : Nat) , (decode (rc r) pc = .ok (.aconst_null, 1)) → X (pc + 1) (ls) (an :: st) (h) (a) (b) → X (pc) (ls) (st) (h) (a) (b)
def R_iload_n : Prop := ∀ (pc : Nat) (ls : List (Option AV)) (st : List AV) (h : AH) (a b : Nat) (k : Fin 4) (i : Nat) (x : Int32), (decode (rc r) pc = .ok (.iload_n k, 1)) → ((k : Nat) = i) → (ls[i]? = some (some (ai x))) → X (pc + 1) (ls) (ai x :: st) (h) (a) (b) → X (pc) (ls) (st) (h) (a) (b)
def R_iload : Prop := ∀ (pc : Nat) (ls : List (Option AV)) (st : List AV) (h : AH) (a b : Nat) (i : Nat) (x : Int32), (decode (rc r) pc = .ok (.iload i, 2)) → (ls[i]? = some (some (ai x))) → X (pc + 2) (ls) (ai x :: st) (h) (a) (b) → X (pc) (ls) (st) (h) (a) (b)
def R_aload_n : Prop := ∀ (pc : Nat) (ls : List (Option AV)) (st : List AV) (h : AH) (a b : Nat) (k : Fin 4) (i : Nat) (x : Nat), (decode (rc r) pc = .ok (.aload_n k, 1)) → ((k : Nat) = i) → (ls[i]? = some (some (ar x))) → X (pc + 1) (ls) (ar x :: st) (h) (a) (b) → X (pc) (ls) (st) (h) (a) (b)
def R_aload : Prop := ∀ (pc : Nat) (ls : List (Option AV)) (st : List AV) (h : AH) (a b : Nat) (i : Nat) (x : Nat), (decode (rc r) pc = .ok (.aload i, 2)) → (ls[i]? = some (some (ar x))) → X (pc + 2) (ls) (ar x :: st) (h) (a) (b) → X (pc) (ls) (st) (h) (a) (b)
def R_istore_n : Prop := ∀ (pc : Nat) (ls : List (Option AV)) (st : List AV) (h : AH) (a b : Nat) (k : Fin 4) (i : Nat) (x : Int32), (decode (rc r) pc = .ok (.istore_n k, 1)) → ((k : Nat) = i) → (i < ls.length) → X (pc + 1) (ls.set i (some (ai x))) (st) (h) (a) (b) → X (pc) (ls) (ai x :: st) (h) (a) (b)
def R_istore : Prop := ∀ (pc : Nat) (ls : List (Option AV)) (st : List AV) (h : AH) (a b : Nat) (i : Nat) (x : Int32), (decode (rc r) pc = .ok (.istore i, 2)) → (i < ls.length) → X (pc + 2) (ls.set i (some (ai x))) (st) (h) (a) (b) → X (pc) (ls) (ai x :: st) (h) (a) (b)
def R_astore_n : Prop := ∀ (pc : Nat) (ls : List (Option AV)) (st : List AV) (h : AH) (a b : Nat) (k : Fin 4) (i : Nat) (x : Nat), (decode (rc r) pc = .ok (.astore_n k, 1)) → ((k : Nat) = i) → (i < ls.length) → X (pc + 1) (ls.set i (some (ar x))) (st) (h) (a) (b) → X (pc) (ls) (ar x :: st) (h) (a) (b)
def R_astore : Prop := ∀ (pc : Nat) (ls : List (Option AV)) (st : List AV) (h : AH) (a b : Nat) (i : Nat) (x : Nat), (decode (rc r) pc = .ok (.astore i, 2)) → (i < ls.length) → X (pc + 2) (ls.set i (some (ar x))) (st) (h) (a) (b) → X (pc) (ls) (ar x :: st) (h) (a) (b)
def R_iinc : Prop := ∀ (pc : Nat) (ls : List (Option AV)) (st : List AV) (h : AH) (a b : Nat) (i : Nat) (n : Int) (x : Int32), (decode (rc r) pc = .ok (.iinc i n, 3)) → (ls[i]? = some (some (ai x))) → X (pc + 3) (ls.set i (some (ai (x + Int32.ofInt n)))) (st) (h) (a) (b) → X (pc) (ls) (st) (h) (a) (b)
def R_iadd : Prop := ∀ (pc : Nat) (ls : List (Option AV)) (st : List AV) (h : AH) (a b : Nat) (x y : Int32), (decode (rc r) pc = .ok (.iadd, 1)) → X (pc + 1) (ls) (ai (x + y) :: st) (h) (a) (b) → X (pc) (ls) (ai y :: ai x :: st) (h) (a) (b)
def R_isub : Prop := ∀ (pc : Nat) (ls : List (Option AV)) (st : List AV) (h : AH) (a b : Nat) (x y : Int32), (decode (rc r) pc = .ok (.isub, 1)) → X (pc + 1) (ls) (ai (x - y) :: st) (h) (a) (b) → X (pc) (ls) (ai y :: ai x :: st) (h) (a) (b)
def R_imul : Prop := ∀ (pc : Nat) (ls : List (Option AV)) (st : List AV) (h : AH) (a b : Nat) (x y : Int32), (decode (rc r) pc = .ok (.imul, 1)) → X (pc + 1) (ls) (ai (x * y) :: st) (h) (a) (b) → X (pc) (ls) (ai y :: ai x :: st) (h) (a) (b)
def R_ior : Prop := ∀ (pc : Nat) (ls : List (Option AV)) (st : List AV) (h : AH) (a b : Nat) (x y : Int32), (decode (rc r) pc = .ok (.ior, 1)) → X (pc + 1) (ls) (ai (x ||| y) :: st) (h) (a) (b) → X (pc) (ls) (ai y :: ai x :: st) (h) (a) (b)
def R_iand : Prop := ∀ (pc : Nat) (ls : List (Option AV)) (st : List AV) (h : AH) (a b : Nat) (x y : Int32), (decode (rc r) pc = .ok (.iand, 1)) → X (pc + 1) (ls) (ai (x &&& y) :: st) (h) (a) (b) → X (pc) (ls) (ai y :: ai x :: st) (h) (a) (b)
def R_ixor : Prop := ∀ (pc : Nat) (ls : List (Option AV)) (st : List AV) (h : AH) (a b : Nat) (x y : Int32), (decode (rc r) pc = .ok (.ixor, 1)) → X (pc + 1) (ls) (ai (x ^^^ y) :: st) (h) (a) (b) → X (pc) (ls) (ai y :: ai x :: st) (h) (a) (b)
def R_ishl : Prop := ∀ (pc : Nat) (ls : List (Option AV)) (st : List AV) (h : AH) (a b : Nat) (x y : Int32), (decode (rc r) pc = .ok (.ishl, 1)) → X (pc + 1) (ls) (ai (x <<< (y &&& 31)) :: st) (h) (a) (b) → X (pc) (ls) (ai y :: ai x :: st) (h) (a) (b)
def R_ishr : Prop := ∀ (pc : Nat) (ls : List (Option AV)) (st : List AV) (h : AH) (a b : Nat) (x y : Int32), (decode (rc r) pc = .ok (.ishr, 1)) → X (pc + 1) (ls) (ai (x >>> (y &&& 31)) :: st) (h) (a) (b) → X (pc) (ls) (ai y :: ai x :: st) (h) (a) (b)
def R_idiv : Prop := ∀ (pc : Nat) (ls : List (Option AV)) (st : List AV) (h : AH) (a b : Nat) (x y : Int32), (decode (rc r) pc = .ok (.idiv, 1)) → (¬ y = 0) → X (pc + 1) (ls) (ai (x / y) :: st) (h) (a) (b) → X (pc) (ls) (ai y :: ai x :: st) (h) (a) (b)
def R_irem : Prop := ∀ (pc : Nat) (ls : List (Option AV)) (st : List AV) (h : AH) (a b : Nat) (x y : Int32), (decode (rc r) pc = .ok (.irem, 1)) → (¬ y = 0) → X (pc + 1) (ls) (ai (x - x / y * y) :: st) (h) (a) (b) → X (pc) (ls) (ai y :: ai x :: st) (h) (a) (b)
def R_dup : Prop := ∀ (pc : Nat) (ls : List (Option AV)) (st : List AV) (h : AH) (a b : Nat) (v : AV), (decode (rc r) pc = .ok (.dup, 1)) → X (pc + 1) (ls) (v :: v :: st) (h) (a) (b) → X (pc) (ls) (v :: st) (h) (a) (b)
def R_dup2 : Prop := ∀ (pc : Nat) (ls : List (Option AV)) (st : List AV) (h : AH) (a b : Nat) (v u : AV), (decode (rc r) pc = .ok (.dup2, 1)) → X (pc + 1) (ls) (v :: u :: v :: u :: st) (h) (a) (b) → X (pc) (ls) (v :: u :: st) (h) (a) (b)
def R_pop : Prop := ∀ (pc : Nat) (ls : List (Option AV)) (st : List AV) (h : AH) (a b : Nat) (v : AV), (decode (rc r) pc = .ok (.pop, 1)) → X (pc + 1) (ls) (st) (h) (a) (b) → X (pc) (ls) (v :: st) (h) (a) (b)
def R_goto : Prop := ∀ (pc : Nat) (ls : List (Option AV)) (st : List AV) (h : AH) (a b : Nat) (off : Int) (tgt : Nat), (decode (rc r) pc = .ok (.goto off, 3)) → ((pc : Int) + off = (tgt : Int)) → X (tgt) (ls) (st) (h) (a) (b) → X (pc) (ls) (st) (h) (a) (b)
def R_icmp_eq : Prop := ∀ (pc : Nat) (ls : List (Option AV)) (st : List AV) (h : AH) (a b : Nat) (x y : Int32) (off : Int) (tgt : Nat), (decode (rc r) pc = .ok (.if_icmp .eq off, 3)) → ((pc : Int) + off = (tgt : Int)) → (x = y → X (tgt) (ls) (st) (h) (a) (b)) → (¬ x = y → X (pc + 3) (ls) (st) (h) (a) (b)) → X (pc) (ls) (ai y :: ai x :: st) (h) (a) (b)
def R_if_eq : Prop := ∀ (pc : Nat) (ls : List (Option AV)) (st : List AV) (h : AH) (a b : Nat) (x : Int32) (off : Int) (tgt : Nat), (decode (rc r) pc = .ok (.ifCond .eq off, 3)) → ((pc : Int) + off = (tgt : Int)) → (x = 0 → X (tgt) (ls) (st) (h) (a) (b)) → (¬ x = 0 → X (pc + 3) (ls) (st) (h) (a) (b)) → X (pc) (ls) (ai x :: st) (h) (a) (b)
def R_icmp_ne : Prop := ∀ (pc : Nat) (ls : List (Option AV)) (st : List AV) (h : AH) (a b : Nat) (x y : Int32) (off : Int) (tgt : Nat), (decode (rc r) pc = .ok (.if_icmp .ne off, 3)) → ((pc : Int) + off = (tgt : Int)) → (¬ x = y → X (tgt) (ls) (st) (h) (a) (b)) → (x = y → X (pc + 3) (ls) (st) (h) (a) (b)) → X (pc) (ls) (ai y :: ai x :: st) (h) (a) (b)
def R_if_ne : Prop := ∀ (pc : Nat) (ls : List (Option AV)) (st : List AV) (h : AH) (a b : Nat) (x : Int32) (off : Int) (tgt : Nat), (decode (rc r) pc = .ok (.ifCond .ne off, 3)) → ((pc : Int) + off = (tgt : Int)) → (¬ x = 0 → X (tgt) (ls) (st) (h) (a) (b)) → (x = 0 → X (pc + 3) (ls) (st) (h) (a) (b)) → X (pc) (ls) (ai x :: st) (h) (a) (b)
def R_icmp_lt : Prop := ∀ (pc : Nat) (ls : List (Option AV)) (st : List AV) (h : AH) (a b : Nat) (x y : Int32) (off : Int) (tgt : Nat), (decode (rc r) pc = .ok (.if_icmp .lt off, 3)) → ((pc : Int) + off = (tgt : Int)) → (x < y → X (tgt) (ls) (st) (h) (a) (b)) → (¬ x < y → X (pc + 3) (ls) (st) (h) (a) (b)) → X (pc) (ls) (ai y :: ai x :: st) (h) (a) (b)
def R_if_lt : Prop := ∀ (pc : Nat) (ls : List (Option AV)) (st : List AV) (h : AH) (a b : Nat) (x : Int32) (off : Int) (tgt : Nat), (decode (rc r) pc = .ok (.ifCond .lt off, 3)) → ((pc : Int) + off = (tgt : Int)) → (x < 0 → X (tgt) (ls) (st) (h) (a) (b)) → (¬ x < 0 → X (pc + 3) (ls) (st) (h) (a) (b)) → X (pc) (ls) (ai x :: st) (h) (a) (b)
def R_icmp_ge : Prop := ∀ (pc : Nat) (ls : List (Option AV)) (st : List AV) (h : AH) (a b : Nat) (x y : Int32) (off : Int) (tgt : Nat), (decode (rc r) pc = .ok (.if_icmp .ge off, 3)) → ((pc : Int) + off = (tgt : Int)) → (y ≤ x → X (tgt) (ls) (st) (h) (a) (b)) → (¬ y ≤ x → X (pc + 3) (ls) (st) (h) (a) (b)) → X (pc) (ls) (ai y :: ai x :: st) (h) (a) (b)
def R_if_ge : Prop := ∀ (pc : Nat) (ls : List (Option AV)) (st : List AV) (h : AH) (a b : Nat) (x : Int32) (off : Int) (tgt : Nat), (decode (rc r) pc = .ok (.ifCond .ge off, 3)) → ((pc : Int) + off = (tgt : Int)) → (0 ≤ x → X (tgt) (ls) (st) (h) (a) (b)) → (¬ 0 ≤ x → X (pc + 3) (ls) (st) (h) (a) (b)) → X (pc) (ls) (ai x :: st) (h) (a) (b)
def R_icmp_gt : Prop := ∀ (pc : Nat) (ls : List (Option AV)) (st : List AV) (h : AH) (a b : Nat) (x y : Int32) (off : Int) (tgt : Nat), (decode (rc r) pc = .ok (.if_icmp .gt off, 3)) → ((pc : Int) + off = (tgt : Int)) → (y < x → X (tgt) (ls) (st) (h) (a) (b)) → (¬ y < x → X (pc + 3) (ls) (st) (h) (a) (b)) → X (pc) (ls) (ai y :: ai x :: st) (h) (a) (b)
def R_if_gt : Prop := ∀ (pc : Nat) (ls : List (Option AV)) (st : List AV) (h : AH) (a b : Nat) (x : Int32) (off : Int) (tgt : Nat), (decode (rc r) pc = .ok (.ifCond .gt off, 3)) → ((pc : Int) + off = (tgt : Int)) → (0 < x → X (tgt) (ls) (st) (h) (a) (b)) → (¬ 0 < x → X (pc + 3) (ls) (st) (h) (a) (b)) → X (pc) (ls) (ai x :: st) (h) (a) (b)
def R_icmp_le : Prop := ∀ (pc : Nat) (ls : List (Option AV)) (st : List AV) (h : AH) (a b : Nat) (x y : Int32) (off : Int) (tgt : Nat), (decode (rc r) pc = .ok (.if_icmp .le off, 3)) → ((pc : Int) + off = (tgt : Int)) → (x ≤ y → X (tgt) (ls) (st) (h) (a) (b)) → (¬ x ≤ y → X (pc + 3) (ls) (st) (h) (a) (b)) → X (pc) (ls) (ai y :: ai x :: st) (h) (a) (b)
def R_if_le : Prop := ∀ (pc : Nat) (ls : List (Option AV)) (st : List AV) (h : AH) (a b : Nat) (x : Int32) (off : Int) (tgt : Nat), (decode (rc r) pc = .ok (.ifCond .le off, 3)) → ((pc : Int) + off = (tgt : Int)) → (x ≤ 0 → X (tgt) (ls) (st) (h) (a) (b)) → (¬ x ≤ 0 → X (pc + 3) (ls) (st) (h) (a) (b)) → X (pc) (ls) (ai x :: st) (h) (a) (b)
def R_ifnull : Prop := ∀ (pc : Nat) (ls : List (Option AV)) (st : List AV) (h : AH) (a b : Nat) (x : Nat) (off : Int), (decode (rc r) pc = .ok (.ifnull off, 3)) → X (pc + 3) (ls) (st) (h) (a) (b) → X (pc) (ls) (ar x :: st) (h) (a) (b)
def R_tabIn : Prop := ∀ (pc : Nat) (ls : List (Option AV)) (st : List AV) (h : AH) (a b : Nat) (dflt lo hi : Int) (offs : Array Int) (len : Nat) (x : Int32) (off : Int) (tgt : Nat), (decode (rc r) pc = .ok (.tableswitch dflt lo hi offs, len)) → (¬ x.toInt < lo) → (¬ hi < x.toInt) → (offs[(x.toInt - lo).toNat]? = some off) → ((pc : Int) + off = (tgt : Int)) → X (tgt) (ls) (st) (h) (a) (b) → X (pc) (ls) (ai x :: st) (h) (a) (b)
def R_tabOut : Prop := ∀ (pc : Nat) (ls : List (Option AV)) (st : List AV) (h : AH) (a b : Nat) (dflt lo hi : Int) (offs : Array Int) (len : Nat) (x : Int32) (tgt : Nat), (decode (rc r) pc = .ok (.tableswitch dflt lo hi offs, len)) → (x.toInt < lo ∨ hi < x.toInt) → ((pc : Int) + dflt = (tgt : Int)) → X (tgt) (ls) (st) (h) (a) (b) → X (pc) (ls) (ai x :: st) (h) (a) (b)
def R_look : Prop := ∀ (pc : Nat) (ls : List (Option AV)) (st : List AV) (h : AH) (a b : Nat) (dflt : Int) (ps : Array (Int × Int)) (len : Nat) (x : Int32) (off : Int) (tgt : Nat), (decode (rc r) pc = .ok (.lookupswitch dflt ps, len)) → ((ps.toList.zip (ps.toList.drop 1)).all (fun (a, next) => a.1 < next.1) = true) → (Op.lookupswitch.offset ps.toList dflt x.toInt = off) → ((pc : Int) + off = (tgt : Int)) → X (tgt) (ls) (st) (h) (a) (b) → X (pc) (ls) (ai x :: st) (h) (a) (b)
def R_getf : Prop := ∀ (pc : Nat) (ls : List (Option AV)) (st : List AV) (h : AH) (a b : Nat) (i ci k o : Nat) (fs : List AV) (v : AV), (decode (rc r) pc = .ok (.getfield i, 3)) → (FL (ro r) i ci k) → (h[o]? = some (.inl (ci, fs))) → (fs[k]? = some v) → X (pc + 3) (ls) (v :: st) (h) (a) (b) → X (pc) (ls) (ar o :: st) (h) (a) (b)
def R_putf : Prop := ∀ (pc : Nat) (ls : List (Option AV)) (st : List AV) (h : AH) (a b : Nat) (i ci k o : Nat) (fs : List AV) (v : AV), (decode (rc r) pc = .ok (.putfield i, 3)) → (FL (ro r) i ci k) → (FN ci k ∨ ((ry r).name = "<init>" ∧ FF (ro r) ci k)) → (FP ci k v) → (h[o]? = some (.inl (ci, fs))) → (k < fs.length) → X (pc + 3) (ls) (st) (h.set o (.inl (ci, fs.set k v))) (a) (b) → X (pc) (ls) (v :: ar o :: st) (h) (a) (b)
def R_iald : Prop := ∀ (pc : Nat) (ls : List (Option AV)) (st : List AV) (h : AH) (a b : Nat) (o n : Nat) (f : Nat → Int32) (i : Int32), (decode (rc r) pc = .ok (.iaload, 1)) → (h[o]? = some (.inr (.inl (n, f)))) → (vp_in i n) → X (pc + 1) (ls) (ai (f i.toNatClampNeg) :: st) (h) (a) (b) → X (pc) (ls) (ai i :: ar o :: st) (h) (a) (b)
def R_iast : Prop := ∀ (pc : Nat) (ls : List (Option AV)) (st : List AV) (h : AH) (a b : Nat) (o n : Nat) (f : Nat → Int32) (i x : Int32), (decode (rc r) pc = .ok (.iastore, 1)) → (h[o]? = some (.inr (.inl (n, f)))) → (vp_in i n) → X (pc + 1) (ls) (st) (h.set o (.inr (.inl (n, upd f i.toNatClampNeg x)))) (a) (b) → X (pc) (ls) (ai x :: ai i :: ar o :: st) (h) (a) (b)
def R_alen : Prop := ∀ (pc : Nat) (ls : List (Option AV)) (st : List AV) (h : AH) (a b : Nat) (o n : Nat) (f : Nat → Int32), (decode (rc r) pc = .ok (.arraylength, 1)) → (h[o]? = some (.inr (.inl (n, f)))) → X (pc + 1) (ls) (ai (Int32.ofNat n) :: st) (h) (a) (b) → X (pc) (ls) (ar o :: st) (h) (a) (b)
def R_alenq : Prop := ∀ (pc : Nat) (ls : List (Option AV)) (st : List AV) (h : AH) (a b : Nat) (o n : Nat) (f : Nat → Option Nat), (decode (rc r) pc = .ok (.arraylength, 1)) → (h[o]? = some (.inr (.inr (n, f)))) → X (pc + 1) (ls) (ai (Int32.ofNat n) :: st) (h) (a) (b) → X (pc) (ls) (ar o :: st) (h) (a) (b)
def R_aald : Prop := ∀ (pc : Nat) (ls : List (Option AV)) (st : List AV) (h : AH) (a b : Nat) (o n : Nat) (f : Nat → Option Nat) (i : Int32), (decode (rc r) pc = .ok (.aaload, 1)) → (h[o]? = some (.inr (.inr (n, f)))) → (vp_in i n) → X (pc + 1) (ls) (.inr (f i.toNatClampNeg) :: st) (h) (a) (b) → X (pc) (ls) (ai i :: ar o :: st) (h) (a) (b)
def R_aast : Prop := ∀ (pc : Nat) (ls : List (Option AV)) (st : List AV) (h : AH) (a b : Nat) (o n v : Nat) (fs : List AV) (f : Nat → Option Nat) (i : Int32), (decode (rc r) pc = .ok (.aastore, 1)) → (h[o]? = some (.inr (.inr (n, f)))) → (h[v]? = some (.inl (8, fs))) → (vp_in i n) → X (pc + 1) (ls) (st) (h.set o (.inr (.inr (n, va_up f i.toNatClampNeg (some v))))) (a) (b) → X (pc) (ls) (ar v :: ai i :: ar o :: st) (h) (a) (b)
def R_new : Prop := ∀ (pc : Nat) (ls : List (Option AV)) (st : List AV) (h : AH) (a b : Nat) (i ci N : Nat) (C : String) (T : u_T) (fs : List AV), (decode (rc r) pc = .ok (.new i, 3)) → (vwCl[ci]? = some (C, T, N)) → (Cond.classLink (ro r) i C ∈ Wl) → (Cond.instantiable C N ∈ Wl) → (Cond.initialized C ∈ Wl) → (fs.length = N) → (∀ j, j < N → (parseFieldDescriptor (T j).2.2.1).map defaultValue = some (cv 0 (fs.getD j an)) ∧ (∀ q, fs[j]? ≠ some (ar q))) → X (pc + 3) (ls) (ar h.length :: st) (h ++ [.inl (ci, fs)]) (a) (b) → X (pc) (ls) (st) (h) (a + 1) (b + N)
def R_newi : Prop := ∀ (pc : Nat) (ls : List (Option AV)) (st : List AV) (h : AH) (a b : Nat) (n : Int32) (N : Nat), (decode (rc r) pc = .ok (.newarray .int, 2)) → (¬ n < 0) → (n.toNatClampNeg = N) → (N ≤ 1000) → X (pc + 2) (ls) (ar h.length :: st) (h ++ [.inr (.inl (N, fun _ => 0))]) (a) (b) → X (pc) (ls) (ai n :: st) (h) (a + 1) (b + N)
def R_newq : Prop := ∀ (pc : Nat) (ls : List (Option AV)) (st : List AV) (h : AH) (a b : Nat) (i : Nat) (n : Int32) (N : Nat), (decode (rc r) pc = .ok (.anewarray i, 3)) → (Cond.classLink (ro r) i RX8 ∈ Wl) → (¬ n < 0) → (n.toNatClampNeg = N) → (N ≤ 1000) → X (pc + 3) (ls) (ar h.length :: st) (h ++ [.inr (.inr (N, fun _ => none))]) (a) (b) → X (pc) (ls) (ai n :: st) (h) (a + 1) (b + N)
def R_obj : Prop := ∀ (pc : Nat) (ls : List (Option AV)) (st : List AV) (h : AH) (a b : Nat) (i o : Nat), (decode (rc r) pc = .ok (.invokespecial i, 3)) → (Cond.methodLink (ro r) i objectInit ∈ Wl) → (st.length ≤ 8) → (1 ≤ rf r) → (20 ≤ rl r) → X (pc + 3) (ls) (st) (h) (a) (b) → X (pc) (ls) (ar o :: st) (h) (a) (b)
def R_ireturn : Prop := ∀ (pc : Nat) (ls : List (Option AV)) (h : AH) (a b : Nat) (x : Int32) (ty : FieldType), (decode (rc r) pc = .ok (.ireturn, 1)) → (rt r = some ty) → (narrow ty (.int x) = .int x) → (Q (some (ai x)) h) → X (pc) (ls) ([ai x]) (h) (a) (b)
def R_areturn : Prop := ∀ (pc : Nat) (ls : List (Option AV)) (h : AH) (a b : Nat) (x : Option Nat) (C : String), (decode (rc r) pc = .ok (.areturn, 1)) → (rt r = some (.object C)) → (Q (some (.inr x)) h) → X (pc) (ls) ([.inr x]) (h) (a) (b)
def R_return : Prop := ∀ (pc : Nat) (ls : List (Option AV)) (h : AH) (a b : Nat), (decode (rc r) pc = .ok (.return_, 1)) → (rt r = none) → (Q none h) → X (pc) (ls) ([]) (h) (a) (b)
def R_callV : Prop := ∀ (pc : Nat) (ls : List (Option AV)) (st : List AV) (h : AH) (a b a1 b1 : Nat) (i : Nat) (r1 : MR) (As : List AV) (Q1 : AP) (ci o : Nat) (fs : List AV), (decode (rc r) pc = .ok (.invokevirtual i, 3)) → (Cond.methodLink (ro r) i (ry r1) ∈ Wl) → (MV r1 As.length) → (h[o]? = some (.inl (ci, fs))) → (KC ci (ro r1)) → (FIT r1 r) → (st.length ≤ 8) → (OO r1 (ar o :: As) h a1 b1 Q1) → (∀ w h1, Q1 w h1 → X (pc + 3) ls (w.toList ++ st) h1 a b) → X (pc) (ls) (As.reverse ++ ar o :: st) (h) (a1 + a) (b1 + b)
def R_callS : Prop := ∀ (pc : Nat) (ls : List (Option AV)) (st : List AV) (h : AH) (a b a1 b1 : Nat) (i : Nat) (r1 : MR) (As : List AV) (Q1 : AP) , (decode (rc r) pc = .ok (.invokestatic i, 3)) → ((Cond.methodLink (ro r) i (ry r1) ∈ Wl ∨ (ro r, i, ry r1) ∈ nestL)) → (MS r1 As.length) → (FIT r1 r) → (st.length ≤ 8) → (OO r1 (As) h a1 b1 Q1) → (∀ w h1, Q1 w h1 → X (pc + 3) ls (w.toList ++ st) h1 a b) → X (pc) (ls) (As.reverse ++ st) (h) (a1 + a) (b1 + b)
def R_callI : Prop := ∀ (pc : Nat) (ls : List (Option AV)) (st : List AV) (h : AH) (a b a1 b1 : Nat) (i : Nat) (r1 : MR) (As : List AV) (Q1 : AP) (o : Nat), (decode (rc r) pc = .ok (.invokespecial i, 3)) → ((Cond.methodLink (ro r) i (ry r1) ∈ Wl ∨ (ro r, i, ry r1) ∈ nestL)) → (MI r1 As.length) → (FIT r1 r) → (st.length ≤ 8) → (OO r1 (ar o :: As) h a1 b1 Q1) → (∀ w h1, Q1 w h1 → X (pc + 3) ls (w.toList ++ st) h1 a b) → X (pc) (ls) (As.reverse ++ ar o :: st) (h) (a1 + a) (b1 + b)
end AMR
def Rules (r : MR) (OO : AO) (Q : AP) (X : AX) : Prop := R_iconst r X ∧ R_bipush r X ∧ R_sipush r X ∧ R_ldc r X ∧ R_null r X ∧ R_iload_n r X ∧ R_iload r X ∧ R_aload_n r X ∧ R_aload r X ∧ R_istore_n r X ∧ R_istore r X ∧ R_astore_n r X ∧ R_astore r X ∧ R_iinc r X ∧ R_iadd r X ∧ R_isub r X ∧ R_imul r X ∧ R_ior r X ∧ R_iand r X ∧ R_ixor r X ∧ R_ishl r X ∧ R_ishr r X ∧ R_idiv r X ∧ R_irem r X ∧ R_dup r X ∧ R_dup2 r X ∧ R_pop r X ∧ R_goto r X ∧ R_icmp_eq r X ∧ R_if_eq r X ∧ R_icmp_ne r X ∧ R_if_ne r X ∧ R_icmp_lt r X ∧ R_if_lt r X ∧ R_icmp_ge r X ∧ R_if_ge r X ∧ R_icmp_gt r X ∧ R_if_gt r X ∧ R_icmp_le r X ∧ R_if_le r X ∧ R_ifnull r X ∧ R_tabIn r X ∧ R_tabOut r X ∧ R_look r X ∧ R_getf r X ∧ R_putf r X ∧ R_iald r X ∧ R_iast r X ∧ R_alen r X ∧ R_alenq r X ∧ R_aald r X ∧ R_aast r X ∧ R_new r X ∧ R_newi r X ∧ R_newq r X ∧ R_obj r X ∧ R_ireturn r Q X ∧ R_areturn r Q X ∧ R_return r Q X ∧ R_callV r OO X ∧ R_callS r OO X ∧ R_callI r OO X
theorem u_iconst {r : MR} {OO : AO} {Q : AP} {X : AX} (h : Rules r OO Q X) : R_iconst r X := h.1
theorem u_bipush {r : MR} {OO : AO} {Q : AP} {X : AX} (h : Rules r OO Q X) : R_bipush r X := h.2.1
theorem u_sipush {r : MR} {OO : AO} {Q : AP} {X : AX} (h : Rules r OO Q X) : R_sipush r X := h.2.2.1
theorem u_ldc {r : MR} {OO : AO} {Q : AP} {X : AX} (h : Rules r OO Q X) : R_ldc r X := h.2.2.2.1
theorem u_null {r : MR} {OO : AO} {Q : AP} {X : AX} (h : Rules r OO Q X) : R_null r X := h.2.2.2.2.1
theorem u_iload_n {r : MR} {OO : AO} {Q : AP} {X : AX} (h : Rules r OO Q X) : R_iload_n r X := h.2.2.2.2.2.1
theorem u_iload {r : MR} {OO : AO} {Q : AP} {X : AX} (h : Rules r OO Q X) : R_iload r X := h.2.2.2.2.2.2.1
theorem u_aload_n {r : MR} {OO : AO} {Q : AP} {X : AX} (h : Rules r OO Q X) : R_aload_n r X := h.2.2.2.2.2.2.2.1
theorem u_aload {r : MR} {OO : AO} {Q : AP} {X : AX} (h : Rules r OO Q X) : R_aload r X := h.2.2.2.2.2.2.2.2.1
theorem u_istore_n {r : MR} {OO : AO} {Q : AP} {X : AX} (h : Rules r OO Q X) : R_istore_n r X := h.2.2.2.2.2.2.2.2.2.1
theorem u_istore {r : MR} {OO : AO} {Q : AP} {X : AX} (h : Rules r OO Q X) : R_istore r X := h.2.2.2.2.2.2.2.2.2.2.1
theorem u_astore_n {r : MR} {OO : AO} {Q : AP} {X : AX} (h : Rules r OO Q X) : R_astore_n r X := h.2.2.2.2.2.2.2.2.2.2.2.1
theorem u_astore {r : MR} {OO : AO} {Q : AP} {X : AX} (h : Rules r OO Q X) : R_astore r X := h.2.2.2.2.2.2.2.2.2.2.2.2.1
theorem u_iinc {r : MR} {OO : AO} {Q : AP} {X : AX} (h : Rules r OO Q X) : R_iinc r X := h.2.2.2.2.2.2.2.2.2.2.2.2.2.1
theorem u_iadd {r : MR} {OO : AO} {Q : AP} {X : AX} (h : Rules r OO Q X) : R_iadd r X := h.2.2.2.2.2.2.2.2.2.2.2.2.2.2.1
theorem u_isub {r : MR} {OO : AO} {Q : AP} {X : AX} (h : Rules r OO Q X) : R_isub r X := h.2.2.2.2.2.2.2.2.2.2.2.2.2.2.2.1
theorem u_imul {r : MR} {OO : AO} {Q : AP} {X : AX} (h : Rules r OO Q X) : R_imul r X := h.2.2.2.2.2.2.2.2.2.2.2.2.2.2.2.2.1
theorem u_ior {r : MR} {OO : AO} {Q : AP} {X : AX} (h : Rules r OO Q X) : R_ior r X := h.2.2.2.2.2.2.2.2.2.2.2.2.2.2.2.2.2.1
theorem u_iand {r : MR} {OO : AO} {Q : AP} {X : AX} (h : Rules r OO Q X) : R_iand r X := h.2.2.2.2.2.2.2.2.2.2.2.2.2.2.2.2.2.2.1
theorem u_ixor {r : MR} {OO : AO} {Q : AP} {X : AX} (h : Rules r OO Q X) : R_ixor r X := h.2.2.2.2.2.2.2.2.2.2.2.2.2.2.2.2.2.2.2.1
theorem u_ishl {r : MR} {OO : AO} {Q : AP} {X : AX} (h : Rules r OO Q X) : R_ishl r X := h.2.2.2.2.2.2.2.2.2.2.2.2.2.2.2.2.2.2.2.2.1
theorem u_ishr {r : MR} {OO : AO} {Q : AP} {X : AX} (h : Rules r OO Q X) : R_ishr r X := h.2.2.2.2.2.2.2.2.2.2.2.2.2.2.2.2.2.2.2.2.2.1
theorem u_idiv {r : MR} {OO : AO} {Q : AP} {X : AX} (h : Rules r OO Q X) : R_idiv r X := h.2.2.2.2.2.2.2.2.2.2.2.2.2.2.2.2.2.2.2.2.2.2.1
theorem u_irem {r : MR} {OO : AO} {Q : AP} {X : AX} (h : Rules r OO Q X) : R_irem r X := h.2.2.2.2.2.2.2.2.2.2.2.2.2.2.2.2.2.2.2.2.2.2.2.1
theorem u_dup {r : MR} {OO : AO} {Q : AP} {X : AX} (h : Rules r OO Q X) : R_dup r X := h.2.2.2.2.2.2.2.2.2.2.2.2.2.2.2.2.2.2.2.2.2.2.2.2.1
theorem u_dup2 {r : MR} {OO : AO} {Q : AP} {X : AX} (h : Rules r OO Q X) : R_dup2 r X := h.2.2.2.2.2.2.2.2.2.2.2.2.2.2.2.2.2.2.2.2.2.2.2.2.2.1
theorem u_pop {r : MR} {OO : AO} {Q : AP} {X : AX} (h : Rules r OO Q X) : R_pop r X := h.2.2.2.2.2.2.2.2.2.2.2.2.2.2.2.2.2.2.2.2.2.2.2.2.2.2.1
theorem u_goto {r : MR} {OO : AO} {Q : AP} {X : AX} (h : Rules r OO Q X) : R_goto r X := h.2.2.2.2.2.2.2.2.2.2.2.2.2.2.2.2.2.2.2.2.2.2.2.2.2.2.2.1
theorem u_icmp_eq {r : MR} {OO : AO} {Q : AP} {X : AX} (h : Rules r OO Q X) : R_icmp_eq r X := h.2.2.2.2.2.2.2.2.2.2.2.2.2.2.2.2.2.2.2.2.2.2.2.2.2.2.2.2.1
theorem u_if_eq {r : MR} {OO : AO} {Q : AP} {X : AX} (h : Rules r OO Q X) : R_if_eq r X := h.2.2.2.2.2.2.2.2.2.2.2.2.2.2.2.2.2.2.2.2.2.2.2.2.2.2.2.2.2.1
theorem u_icmp_ne {r : MR} {OO : AO} {Q : AP} {X : AX} (h : Rules r OO Q X) : R_icmp_ne r X := h.2.2.2.2.2.2.2.2.2.2.2.2.2.2.2.2.2.2.2.2.2.2.2.2.2.2.2.2.2.2.1
theorem u_if_ne {r : MR} {OO : AO} {Q : AP} {X : AX} (h : Rules r OO Q X) : R_if_ne r X := h.2.2.2.2.2.2.2.2.2.2.2.2.2.2.2.2.2.2.2.2.2.2.2.2.2.2.2.2.2.2.2.1
theorem u_icmp_lt {r : MR} {OO : AO} {Q : AP} {X : AX} (h : Rules r OO Q X) : R_icmp_lt r X := h.2.2.2.2.2.2.2.2.2.2.2.2.2.2.2.2.2.2.2.2.2.2.2.2.2.2.2.2.2.2.2.2.1
theorem u_if_lt {r : MR} {OO : AO} {Q : AP} {X : AX} (h : Rules r OO Q X) : R_if_lt r X := h.2.2.2.2.2.2.2.2.2.2.2.2.2.2.2.2.2.2.2.2.2.2.2.2.2.2.2.2.2.2.2.2.2.1
theorem u_icmp_ge {r : MR} {OO : AO} {Q : AP} {X : AX} (h : Rules r OO Q X) : R_icmp_ge r X := h.2.2.2.2.2.2.2.2.2.2.2.2.2.2.2.2.2.2.2.2.2.2.2.2.2.2.2.2.2.2.2.2.2.2.1
theorem u_if_ge {r : MR} {OO : AO} {Q : AP} {X : AX} (h : Rules r OO Q X) : R_if_ge r X := h.2.2.2.2.2.2.2.2.2.2.2.2.2.2.2.2.2.2.2.2.2.2.2.2.2.2.2.2.2.2.2.2.2.2.2.1
theorem u_icmp_gt {r : MR} {OO : AO} {Q : AP} {X : AX} (h : Rules r OO Q X) : R_icmp_gt r X := h.2.2.2.2.2.2.2.2.2.2.2.2.2.2.2.2.2.2.2.2.2.2.2.2.2.2.2.2.2.2.2.2.2.2.2.2.1
theorem u_if_gt {r : MR} {OO : AO} {Q : AP} {X : AX} (h : Rules r OO Q X) : R_if_gt r X := h.2.2.2.2.2.2.2.2.2.2.2.2.2.2.2.2.2.2.2.2.2.2.2.2.2.2.2.2.2.2.2.2.2.2.2.2.2.1
theorem u_icmp_le {r : MR} {OO : AO} {Q : AP} {X : AX} (h : Rules r OO Q X) : R_icmp_le r X := h.2.2.2.2.2.2.2.2.2.2.2.2.2.2.2.2.2.2.2.2.2.2.2.2.2.2.2.2.2.2.2.2.2.2.2.2.2.2.1
theorem u_if_le {r : MR} {OO : AO} {Q : AP} {X : AX} (h : Rules r OO Q X) : R_if_le r X := h.2.2.2.2.2.2.2.2.2.2.2.2.2.2.2.2.2.2.2.2.2.2.2.2.2.2.2.2.2.2.2.2.2.2.2.2.2.2.2.1
theorem u_ifnull {r : MR} {OO : AO} {Q : AP} {X : AX} (h : Rules r OO Q X) : R_ifnull r X := h.2.2.2.2.2.2.2.2.2.2.2.2.2.2.2.2.2.2.2.2.2.2.2.2.2.2.2.2.2.2.2.2.2.2.2.2.2.2.2.2.1
theorem u_tabIn {r : MR} {OO : AO} {Q : AP} {X : AX} (h : Rules r OO Q X) : R_tabIn r X := h.2.2.2.2.2.2.2.2.2.2.2.2.2.2.2.2.2.2.2.2.2.2.2.2.2.2.2.2.2.2.2.2.2.2.2.2.2.2.2.2.2.1
theorem u_tabOut {r : MR} {OO : AO} {Q : AP} {X : AX} (h : Rules r OO Q X) : R_tabOut r X := h.2.2.2.2.2.2.2.2.2.2.2.2.2.2.2.2.2.2.2.2.2.2.2.2.2.2.2.2.2.2.2.2.2.2.2.2.2.2.2.2.2.2.1
theorem u_look {r : MR} {OO : AO} {Q : AP} {X : AX} (h : Rules r OO Q X) : R_look r X := h.2.2.2.2.2.2.2.2.2.2.2.2.2.2.2.2.2.2.2.2.2.2.2.2.2.2.2.2.2.2.2.2.2.2.2.2.2.2.2.2.2.2.2.1
theorem u_getf {r : MR} {OO : AO} {Q : AP} {X : AX} (h : Rules r OO Q X) : R_getf r X := h.2.2.2.2.2.2.2.2.2.2.2.2.2.2.2.2.2.2.2.2.2.2.2.2.2.2.2.2.2.2.2.2.2.2.2.2.2.2.2.2.2.2.2.2.1
theorem u_putf {r : MR} {OO : AO} {Q : AP} {X : AX} (h : Rules r OO Q X) : R_putf r X := h.2.2.2.2.2.2.2.2.2.2.2.2.2.2.2.2.2.2.2.2.2.2.2.2.2.2.2.2.2.2.2.2.2.2.2.2.2.2.2.2.2.2.2.2.2.1
theorem u_iald {r : MR} {OO : AO} {Q : AP} {X : AX} (h : Rules r OO Q X) : R_iald r X := h.2.2.2.2.2.2.2.2.2.2.2.2.2.2.2.2.2.2.2.2.2.2.2.2.2.2.2.2.2.2.2.2.2.2.2.2.2.2.2.2.2.2.2.2.2.2.1
theorem u_iast {r : MR} {OO : AO} {Q : AP} {X : AX} (h : Rules r OO Q X) : R_iast r X := h.2.2.2.2.2.2.2.2.2.2.2.2.2.2.2.2.2.2.2.2.2.2.2.2.2.2.2.2.2.2.2.2.2.2.2.2.2.2.2.2.2.2.2.2.2.2.2.1
theorem u_alen {r : MR} {OO : AO} {Q : AP} {X : AX} (h : Rules r OO Q X) : R_alen r X := h.2.2.2.2.2.2.2.2.2.2.2.2.2.2.2.2.2.2.2.2.2.2.2.2.2.2.2.2.2.2.2.2.2.2.2.2.2.2.2.2.2.2.2.2.2.2.2.2.1
theorem u_alenq {r : MR} {OO : AO} {Q : AP} {X : AX} (h : Rules r OO Q X) : R_alenq r X := h.2.2.2.2.2.2.2.2.2.2.2.2.2.2.2.2.2.2.2.2.2.2.2.2.2.2.2.2.2.2.2.2.2.2.2.2.2.2.2.2.2.2.2.2.2.2.2.2.2.1
theorem u_aald {r : MR} {OO : AO} {Q : AP} {X : AX} (h : Rules r OO Q X) : R_aald r X := h.2.2.2.2.2.2.2.2.2.2.2.2.2.2.2.2.2.2.2.2.2.2.2.2.2.2.2.2.2.2.2.2.2.2.2.2.2.2.2.2.2.2.2.2.2.2.2.2.2.2.1
theorem u_aast {r : MR} {OO : AO} {Q : AP} {X : AX} (h : Rules r OO Q X) : R_aast r X := h.2.2.2.2.2.2.2.2.2.2.2.2.2.2.2.2.2.2.2.2.2.2.2.2.2.2.2.2.2.2.2.2.2.2.2.2.2.2.2.2.2.2.2.2.2.2.2.2.2.2.2.1
theorem u_new {r : MR} {OO : AO} {Q : AP} {X : AX} (h : Rules r OO Q X) : R_new r X := h.2.2.2.2.2.2.2.2.2.2.2.2.2.2.2.2.2.2.2.2.2.2.2.2.2.2.2.2.2.2.2.2.2.2.2.2.2.2.2.2.2.2.2.2.2.2.2.2.2.2.2.2.1
theorem u_newi {r : MR} {OO : AO} {Q : AP} {X : AX} (h : Rules r OO Q X) : R_newi r X := h.2.2.2.2.2.2.2.2.2.2.2.2.2.2.2.2.2.2.2.2.2.2.2.2.2.2.2.2.2.2.2.2.2.2.2.2.2.2.2.2.2.2.2.2.2.2.2.2.2.2.2.2.2.1
theorem u_newq {r : MR} {OO : AO} {Q : AP} {X : AX} (h : Rules r OO Q X) : R_newq r X := h.2.2.2.2.2.2.2.2.2.2.2.2.2.2.2.2.2.2.2.2.2.2.2.2.2.2.2.2.2.2.2.2.2.2.2.2.2.2.2.2.2.2.2.2.2.2.2.2.2.2.2.2.2.2.1
theorem u_obj {r : MR} {OO : AO} {Q : AP} {X : AX} (h : Rules r OO Q X) : R_obj r X := h.2.2.2.2.2.2.2.2.2.2.2.2.2.2.2.2.2.2.2.2.2.2.2.2.2.2.2.2.2.2.2.2.2.2.2.2.2.2.2.2.2.2.2.2.2.2.2.2.2.2.2.2.2.2.2.1
theorem u_ireturn {r : MR} {OO : AO} {Q : AP} {X : AX} (h : Rules r OO Q X) : R_ireturn r Q X := h.2.2.2.2.2.2.2.2.2.2.2.2.2.2.2.2.2.2.2.2.2.2.2.2.2.2.2.2.2.2.2.2.2.2.2.2.2.2.2.2.2.2.2.2.2.2.2.2.2.2.2.2.2.2.2.2.1
theorem u_areturn {r : MR} {OO : AO} {Q : AP} {X : AX} (h : Rules r OO Q X) : R_areturn r Q X := h.2.2.2.2.2.2.2.2.2.2.2.2.2.2.2.2.2.2.2.2.2.2.2.2.2.2.2.2.2.2.2.2.2.2.2.2.2.2.2.2.2.2.2.2.2.2.2.2.2.2.2.2.2.2.2.2.2.1
theorem u_return {r : MR} {OO : AO} {Q : AP} {X : AX} (h : Rules r OO Q X) : R_return r Q X := h.2.2.2.2.2.2.2.2.2.2.2.2.2.2.2.2.2.2.2.2.2.2.2.2.2.2.2.2.2.2.2.2.2.2.2.2.2.2.2.2.2.2.2.2.2.2.2.2.2.2.2.2.2.2.2.2.2.2.1
theorem u_callV {r : MR} {OO : AO} {Q : AP} {X : AX} (h : Rules r OO Q X) : R_callV r OO X := h.2.2.2.2.2.2.2.2.2.2.2.2.2.2.2.2.2.2.2.2.2.2.2.2.2.2.2.2.2.2.2.2.2.2.2.2.2.2.2.2.2.2.2.2.2.2.2.2.2.2.2.2.2.2.2.2.2.2.2.1
theorem u_callS {r : MR} {OO : AO} {Q : AP} {X : AX} (h : Rules r OO Q X) : R_callS r OO X := h.2.2.2.2.2.2.2.2.2.2.2.2.2.2.2.2.2.2.2.2.2.2.2.2.2.2.2.2.2.2.2.2.2.2.2.2.2.2.2.2.2.2.2.2.2.2.2.2.2.2.2.2.2.2.2.2.2.2.2.2.1
theorem u_callI {r : MR} {OO : AO} {Q : AP} {X : AX} (h : Rules r OO Q X) : R_callI r OO X := h.2.2.2.2.2.2.2.2.2.2.2.2.2.2.2.2.2.2.2.2.2.2.2.2.2.2.2.2.2.2.2.2.2.2.2.2.2.2.2.2.2.2.2.2.2.2.2.2.2.2.2.2.2.2.2.2.2.2.2.2.2
def WP (r : MR) (OO : AO) (Q : AP) : AX := fun pc ls st h a b => ∀ X : AX, Rules r OO Q X → X pc ls st h a b
/-- a method's locals at its start -/
def lsOf (r : MR) (as : List AV) : List (Option AV) := as.map some ++ List.replicate (rL r - as.length) none
def Cd : Nat → AO
  | 0 => fun _ _ _ _ _ _ => False
  | d + 1 => fun r as h a b Q => WP r (Cd d) Q 0 (lsOf r as) [] h a b
def C (r : MR) (as : List AV) (h : AH) (a b : Nat) (Q : AP) : Prop := Cd (rf r + 1) r as h a b Q
abbrev WPr (r : MR) (Q : AP) : AX := WP r (Cd (rf r)) Q
theorem C_in {r : MR} {as : List AV} {h : AH} {a b : Nat} {Q : AP} (k : WPr r Q 0 (lsOf r as) [] h a b) : C r as h a b Q := k
theorem i_iconst {r : MR} {OO : AO} {Q : AP} {pc : Nat} {ls : List (Option AV)} {st : List AV} {h : AH} {a b : Nat} {n : Int} {v : Int32} (h1 : decode (rc r) pc = .ok (.iconst n, 1)) (h2 : Int32.ofInt n = v) (k1 : WP r OO Q (pc + 1) (ls) (ai v :: st) (h) (a) (b)) : WP r OO Q (pc) (ls) (st) (h) (a) (b) := by
  intro X hX
  exact u_iconst hX _ _ _ _ _ _ _ _ h1 h2 (k1 X hX)
theorem i_bipush {r : MR} {OO : AO} {Q : AP} {pc : Nat} {ls : List (Option AV)} {st : List AV} {h : AH} {a b : Nat} {n : Int} {v : Int32} (h1 : decode (rc r) pc = .ok (.bipush n, 2)) (h2 : (Int8.ofInt n).toInt32 = v) (k1 : WP r OO Q (pc + 2) (ls) (ai v :: st) (h) (a) (b)) : WP r OO Q (pc) (ls) (st) (h) (a) (b) := by
  intro X hX
  exact u_bipush hX _ _ _ _ _ _ _ _ h1 h2 (k1 X hX)
theorem i_sipush {r : MR} {OO : AO} {Q : AP} {pc : Nat} {ls : List (Option AV)} {st : List AV} {h : AH} {a b : Nat} {n : Int} {v : Int32} (h1 : decode (rc r) pc = .ok (.sipush n, 3)) (h2 : (Int16.ofInt n).toInt32 = v) (k1 : WP r OO Q (pc + 3) (ls) (ai v :: st) (h) (a) (b)) : WP r OO Q (pc) (ls) (st) (h) (a) (b) := by
  intro X hX
  exact u_sipush hX _ _ _ _ _ _ _ _ h1 h2 (k1 X hX)
theorem i_ldc {r : MR} {OO : AO} {Q : AP} {pc : Nat} {ls : List (Option AV)} {st : List AV} {h : AH} {a b : Nat} {i : Nat} {v : Int32} (h1 : decode (rc r) pc = .ok (.ldc i, 2)) (h2 : Cond.constant (ro r) i v ∈ Wl) (k1 : WP r OO Q (pc + 2) (ls) (ai v :: st) (h) (a) (b)) : WP r OO Q (pc) (ls) (st) (h) (a) (b) := by
  intro X hX
  exact u_ldc hX _ _ _ _ _ _ _ _ h1 h2 (k1 X hX)
theorem i_null {r : MR} {OO : AO} {Q : AP} {pc : Nat} {ls : List (Option AV)} {st : List AV} {h : AH} {a b : Nat}  (h1 : decode (rc r) pc = .ok (.aconst_null, 1)) (k1 : WP r OO Q (pc + 1) (ls) (an :: st) (h) (a) (b)) : WP r OO Q (pc) (ls) (st) (h) (a) (b) := by
  intro X hX
  exact u_null hX _ _ _ _ _ _ h1 (k1 X hX)
theorem i_iload_n {r : MR} {OO : AO} {Q : AP} {pc : Nat} {ls : List (Option AV)} {st : List AV} {h : AH} {a b : Nat} {k : Fin 4} {i : Nat} {x : Int32} (h1 : decode (rc r) pc = .ok (.iload_n k, 1)) (h2 : (k : Nat) = i) (h3 : ls[i]? = some (some (ai x))) (k1 : WP r OO Q (pc + 1) (ls) (ai x :: st) (h) (a) (b)) : WP r OO Q (pc) (ls) (st) (h) (a) (b) := by
  intro X hX
  exact u_iload_n hX _ _ _ _ _ _ _ _ _ h1 h2 h3 (k1 X hX)
theorem i_iload {r : MR} {OO : AO} {Q : AP} {pc : Nat} {ls : List (Option AV)} {st : List AV} {h : AH} {a b : Nat} {i : Nat} {x : Int32} (h1 : decode (rc r) pc = .ok (.iload i, 2)) (h2 : ls[i]? = some (some (ai x))) (k1 : WP r OO Q (pc + 2) (ls) (ai x :: st) (h) (a) (b)) : WP r OO Q (pc) (ls) (st) (h) (a) (b) := by
  intro X hX
  exact u_iload hX _ _ _ _ _ _ _ _ h1 h2 (k1 X hX)
theorem i_aload_n {r : MR} {OO : AO} {Q : AP} {pc : Nat} {ls : List (Option AV)} {st : List AV} {h : AH} {a b : Nat} {k : Fin 4} {i : Nat} {x : Nat} (h1 : decode (rc r) pc = .ok (.aload_n k, 1)) (h2 : (k : Nat) = i) (h3 : ls[i]? = some (some (ar x))) (k1 : WP r OO Q (pc + 1) (ls) (ar x :: st) (h) (a) (b)) : WP r OO Q (pc) (ls) (st) (h) (a) (b) := by
  intro X hX
  exact u_aload_n hX _ _ _ _ _ _ _ _ _ h1 h2 h3 (k1 X hX)
theorem i_aload {r : MR} {OO : AO} {Q : AP} {pc : Nat} {ls : List (Option AV)} {st : List AV} {h : AH} {a b : Nat} {i : Nat} {x : Nat} (h1 : decode (rc r) pc = .ok (.aload i, 2)) (h2 : ls[i]? = some (some (ar x))) (k1 : WP r OO Q (pc + 2) (ls) (ar x :: st) (h) (a) (b)) : WP r OO Q (pc) (ls) (st) (h) (a) (b) := by
  intro X hX
  exact u_aload hX _ _ _ _ _ _ _ _ h1 h2 (k1 X hX)
theorem i_istore_n {r : MR} {OO : AO} {Q : AP} {pc : Nat} {ls : List (Option AV)} {st : List AV} {h : AH} {a b : Nat} {k : Fin 4} {i : Nat} {x : Int32} (h1 : decode (rc r) pc = .ok (.istore_n k, 1)) (h2 : (k : Nat) = i) (h3 : i < ls.length) (k1 : WP r OO Q (pc + 1) (ls.set i (some (ai x))) (st) (h) (a) (b)) : WP r OO Q (pc) (ls) (ai x :: st) (h) (a) (b) := by
  intro X hX
  exact u_istore_n hX _ _ _ _ _ _ _ _ _ h1 h2 h3 (k1 X hX)
theorem i_istore {r : MR} {OO : AO} {Q : AP} {pc : Nat} {ls : List (Option AV)} {st : List AV} {h : AH} {a b : Nat} {i : Nat} {x : Int32} (h1 : decode (rc r) pc = .ok (.istore i, 2)) (h2 : i < ls.length) (k1 : WP r OO Q (pc + 2) (ls.set i (some (ai x))) (st) (h) (a) (b)) : WP r OO Q (pc) (ls) (ai x :: st) (h) (a) (b) := by
  intro X hX
  exact u_istore hX _ _ _ _ _ _ _ _ h1 h2 (k1 X hX)
theorem i_astore_n {r : MR} {OO : AO} {Q : AP} {pc : Nat} {ls : List (Option AV)} {st : List AV} {h : AH} {a b : Nat} {k : Fin 4} {i : Nat} {x : Nat} (h1 : decode (rc r) pc = .ok (.astore_n k, 1)) (h2 : (k : Nat) = i) (h3 : i < ls.length) (k1 : WP r OO Q (pc + 1) (ls.set i (some (ar x))) (st) (h) (a) (b)) : WP r OO Q (pc) (ls) (ar x :: st) (h) (a) (b) := by
  intro X hX
  exact u_astore_n hX _ _ _ _ _ _ _ _ _ h1 h2 h3 (k1 X hX)
theorem i_astore {r : MR} {OO : AO} {Q : AP} {pc : Nat} {ls : List (Option AV)} {st : List AV} {h : AH} {a b : Nat} {i : Nat} {x : Nat} (h1 : decode (rc r) pc = .ok (.astore i, 2)) (h2 : i < ls.length) (k1 : WP r OO Q (pc + 2) (ls.set i (some (ar x))) (st) (h) (a) (b)) : WP r OO Q (pc) (ls) (ar x :: st) (h) (a) (b) := by
  intro X hX
  exact u_astore hX _ _ _ _ _ _ _ _ h1 h2 (k1 X hX)
theorem i_iinc {r : MR} {OO : AO} {Q : AP} {pc : Nat} {ls : List (Option AV)} {st : List AV} {h : AH} {a b : Nat} {i : Nat} {n : Int} {x : Int32} (h1 : decode (rc r) pc = .ok (.iinc i n, 3)) (h2 : ls[i]? = some (some (ai x))) (k1 : WP r OO Q (pc + 3) (ls.set i (some (ai (x + Int32.ofInt n)))) (st) (h) (a) (b)) : WP r OO Q (pc) (ls) (st) (h) (a) (b) := by
  intro X hX
  exact u_iinc hX _ _ _ _ _ _ _ _ _ h1 h2 (k1 X hX)
theorem i_iadd {r : MR} {OO : AO} {Q : AP} {pc : Nat} {ls : List (Option AV)} {st : List AV} {h : AH} {a b : Nat} {x y : Int32} (h1 : decode (rc r) pc = .ok (.iadd, 1)) (k1 : WP r OO Q (pc + 1) (ls) (ai (x + y) :: st) (h) (a) (b)) : WP r OO Q (pc) (ls) (ai y :: ai x :: st) (h) (a) (b) := by
  intro X hX
  exact u_iadd hX _ _ _ _ _ _ _ _ h1 (k1 X hX)
theorem i_isub {r : MR} {OO : AO} {Q : AP} {pc : Nat} {ls : List (Option AV)} {st : List AV} {h : AH} {a b : Nat} {x y : Int32} (h1 : decode (rc r) pc = .ok (.isub, 1)) (k1 : WP r OO Q (pc + 1) (ls) (ai (x - y) :: st) (h) (a) (b)) : WP r OO Q (pc) (ls) (ai y :: ai x :: st) (h) (a) (b) := by
  intro X hX
  exact u_isub hX _ _ _ _ _ _ _ _ h1 (k1 X hX)
theorem i_imul {r : MR} {OO : AO} {Q : AP} {pc : Nat} {ls : List (Option AV)} {st : List AV} {h : AH} {a b : Nat} {x y : Int32} (h1 : decode (rc r) pc = .ok (.imul, 1)) (k1 : WP r OO Q (pc + 1) (ls) (ai (x * y) :: st) (h) (a) (b)) : WP r OO Q (pc) (ls) (ai y :: ai x :: st) (h) (a) (b) := by
  intro X hX
  exact u_imul hX _ _ _ _ _ _ _ _ h1 (k1 X hX)
theorem i_ior {r : MR} {OO : AO} {Q : AP} {pc : Nat} {ls : List (Option AV)} {st : List AV} {h : AH} {a b : Nat} {x y : Int32} (h1 : decode (rc r) pc = .ok (.ior, 1)) (k1 : WP r OO Q (pc + 1) (ls) (ai (x ||| y) :: st) (h) (a) (b)) : WP r OO Q (pc) (ls) (ai y :: ai x :: st) (h) (a) (b) := by
  intro X hX
  exact u_ior hX _ _ _ _ _ _ _ _ h1 (k1 X hX)
theorem i_iand {r : MR} {OO : AO} {Q : AP} {pc : Nat} {ls : List (Option AV)} {st : List AV} {h : AH} {a b : Nat} {x y : Int32} (h1 : decode (rc r) pc = .ok (.iand, 1)) (k1 : WP r OO Q (pc + 1) (ls) (ai (x &&& y) :: st) (h) (a) (b)) : WP r OO Q (pc) (ls) (ai y :: ai x :: st) (h) (a) (b) := by
  intro X hX
  exact u_iand hX _ _ _ _ _ _ _ _ h1 (k1 X hX)
theorem i_ixor {r : MR} {OO : AO} {Q : AP} {pc : Nat} {ls : List (Option AV)} {st : List AV} {h : AH} {a b : Nat} {x y : Int32} (h1 : decode (rc r) pc = .ok (.ixor, 1)) (k1 : WP r OO Q (pc + 1) (ls) (ai (x ^^^ y) :: st) (h) (a) (b)) : WP r OO Q (pc) (ls) (ai y :: ai x :: st) (h) (a) (b) := by
  intro X hX
  exact u_ixor hX _ _ _ _ _ _ _ _ h1 (k1 X hX)
theorem i_ishl {r : MR} {OO : AO} {Q : AP} {pc : Nat} {ls : List (Option AV)} {st : List AV} {h : AH} {a b : Nat} {x y : Int32} (h1 : decode (rc r) pc = .ok (.ishl, 1)) (k1 : WP r OO Q (pc + 1) (ls) (ai (x <<< (y &&& 31)) :: st) (h) (a) (b)) : WP r OO Q (pc) (ls) (ai y :: ai x :: st) (h) (a) (b) := by
  intro X hX
  exact u_ishl hX _ _ _ _ _ _ _ _ h1 (k1 X hX)
theorem i_ishr {r : MR} {OO : AO} {Q : AP} {pc : Nat} {ls : List (Option AV)} {st : List AV} {h : AH} {a b : Nat} {x y : Int32} (h1 : decode (rc r) pc = .ok (.ishr, 1)) (k1 : WP r OO Q (pc + 1) (ls) (ai (x >>> (y &&& 31)) :: st) (h) (a) (b)) : WP r OO Q (pc) (ls) (ai y :: ai x :: st) (h) (a) (b) := by
  intro X hX
  exact u_ishr hX _ _ _ _ _ _ _ _ h1 (k1 X hX)
theorem i_idiv {r : MR} {OO : AO} {Q : AP} {pc : Nat} {ls : List (Option AV)} {st : List AV} {h : AH} {a b : Nat} {x y : Int32} (h1 : decode (rc r) pc = .ok (.idiv, 1)) (h2 : ¬ y = 0) (k1 : WP r OO Q (pc + 1) (ls) (ai (x / y) :: st) (h) (a) (b)) : WP r OO Q (pc) (ls) (ai y :: ai x :: st) (h) (a) (b) := by
  intro X hX
  exact u_idiv hX _ _ _ _ _ _ _ _ h1 h2 (k1 X hX)
theorem i_irem {r : MR} {OO : AO} {Q : AP} {pc : Nat} {ls : List (Option AV)} {st : List AV} {h : AH} {a b : Nat} {x y : Int32} (h1 : decode (rc r) pc = .ok (.irem, 1)) (h2 : ¬ y = 0) (k1 : WP r OO Q (pc + 1) (ls) (ai (x - x / y * y) :: st) (h) (a) (b)) : WP r OO Q (pc) (ls) (ai y :: ai x :: st) (h) (a) (b) := by
  intro X hX
  exact u_irem hX _ _ _ _ _ _ _ _ h1 h2 (k1 X hX)
theorem i_dup {r : MR} {OO : AO} {Q : AP} {pc : Nat} {ls : List (Option AV)} {st : List AV} {h : AH} {a b : Nat} {v : AV} (h1 : decode (rc r) pc = .ok (.dup, 1)) (k1 : WP r OO Q (pc + 1) (ls) (v :: v :: st) (h) (a) (b)) : WP r OO Q (pc) (ls) (v :: st) (h) (a) (b) := by
  intro X hX
  exact u_dup hX _ _ _ _ _ _ _ h1 (k1 X hX)
theorem i_dup2 {r : MR} {OO : AO} {Q : AP} {pc : Nat} {ls : List (Option AV)} {st : List AV} {h : AH} {a b : Nat} {v u : AV} (h1 : decode (rc r) pc = .ok (.dup2, 1)) (k1 : WP r OO Q (pc + 1) (ls) (v :: u :: v :: u :: st) (h) (a) (b)) : WP r OO Q (pc) (ls) (v :: u :: st) (h) (a) (b) := by
  intro X hX
  exact u_dup2 hX _ _ _ _ _ _ _ _ h1 (k1 X hX)
theorem i_pop {r : MR} {OO : AO} {Q : AP} {pc : Nat} {ls : List (Option AV)} {st : List AV} {h : AH} {a b : Nat} {v : AV} (h1 : decode (rc r) pc = .ok (.pop, 1)) (k1 : WP r OO Q (pc + 1) (ls) (st) (h) (a) (b)) : WP r OO Q (pc) (ls) (v :: st) (h) (a) (b) := by
  intro X hX
  exact u_pop hX _ _ _ _ _ _ _ h1 (k1 X hX)
theorem i_goto {r : MR} {OO : AO} {Q : AP} {pc : Nat} {ls : List (Option AV)} {st : List AV} {h : AH} {a b : Nat} {off : Int} {tgt : Nat} (h1 : decode (rc r) pc = .ok (.goto off, 3)) (h2 : (pc : Int) + off = (tgt : Int)) (k1 : WP r OO Q (tgt) (ls) (st) (h) (a) (b)) : WP r OO Q (pc) (ls) (st) (h) (a) (b) := by
  intro X hX
  exact u_goto hX _ _ _ _ _ _ _ _ h1 h2 (k1 X hX)
theorem i_icmp_eq {r : MR} {OO : AO} {Q : AP} {pc : Nat} {ls : List (Option AV)} {st : List AV} {h : AH} {a b : Nat} {x y : Int32} {off : Int} {tgt : Nat} (h1 : decode (rc r) pc = .ok (.if_icmp .eq off, 3)) (h2 : (pc : Int) + off = (tgt : Int)) (k1 : x = y → WP r OO Q (tgt) (ls) (st) (h) (a) (b)) (k2 : ¬ x = y → WP r OO Q (pc + 3) (ls) (st) (h) (a) (b)) : WP r OO Q (pc) (ls) (ai y :: ai x :: st) (h) (a) (b) := by
  intro X hX
  exact u_icmp_eq hX _ _ _ _ _ _ _ _ _ _ h1 h2 (fun c => k1 c X hX) (fun c => k2 c X hX)
theorem i_if_eq {r : MR} {OO : AO} {Q : AP} {pc : Nat} {ls : List (Option AV)} {st : List AV} {h : AH} {a b : Nat} {x : Int32} {off : Int} {tgt : Nat} (h1 : decode (rc r) pc = .ok (.ifCond .eq off, 3)) (h2 : (pc : Int) + off = (tgt : Int)) (k1 : x = 0 → WP r OO Q (tgt) (ls) (st) (h) (a) (b)) (k2 : ¬ x = 0 → WP r OO Q (pc + 3) (ls) (st) (h) (a) (b)) : WP r OO Q (pc) (ls) (ai x :: st) (h) (a) (b) := by
  intro X hX
  exact u_if_eq hX _ _ _ _ _ _ _ _ _ h1 h2 (fun c => k1 c X hX) (fun c => k2 c X hX)
theorem i_icmp_ne {r : MR} {OO : AO} {Q : AP} {pc : Nat} {ls : List (Option AV)} {st : List AV} {h : AH} {a b : Nat} {x y : Int32} {off : Int} {tgt : Nat} (h1 : decode (rc r) pc = .ok (.if_icmp .ne off, 3)) (h2 : (pc : Int) + off = (tgt : Int)) (k1 : ¬ x = y → WP r OO Q (tgt) (ls) (st) (h) (a) (b)) (k2 : x = y → WP r OO Q (pc + 3) (ls) (st) (h) (a) (b)) : WP r OO Q (pc) (ls) (ai y :: ai x :: st) (h) (a) (b) := by
  intro X hX
  exact u_icmp_ne hX _ _ _ _ _ _ _ _ _ _ h1 h2 (fun c => k1 c X hX) (fun c => k2 c X hX)
theorem i_if_ne {r : MR} {OO : AO} {Q : AP} {pc : Nat} {ls : List (Option AV)} {st : List AV} {h : AH} {a b : Nat} {x : Int32} {off : Int} {tgt : Nat} (h1 : decode (rc r) pc = .ok (.ifCond .ne off, 3)) (h2 : (pc : Int) + off = (tgt : Int)) (k1 : ¬ x = 0 → WP r OO Q (tgt) (ls) (st) (h) (a) (b)) (k2 : x = 0 → WP r OO Q (pc + 3) (ls) (st) (h) (a) (b)) : WP r OO Q (pc) (ls) (ai x :: st) (h) (a) (b) := by
  intro X hX
  exact u_if_ne hX _ _ _ _ _ _ _ _ _ h1 h2 (fun c => k1 c X hX) (fun c => k2 c X hX)
theorem i_icmp_lt {r : MR} {OO : AO} {Q : AP} {pc : Nat} {ls : List (Option AV)} {st : List AV} {h : AH} {a b : Nat} {x y : Int32} {off : Int} {tgt : Nat} (h1 : decode (rc r) pc = .ok (.if_icmp .lt off, 3)) (h2 : (pc : Int) + off = (tgt : Int)) (k1 : x < y → WP r OO Q (tgt) (ls) (st) (h) (a) (b)) (k2 : ¬ x < y → WP r OO Q (pc + 3) (ls) (st) (h) (a) (b)) : WP r OO Q (pc) (ls) (ai y :: ai x :: st) (h) (a) (b) := by
  intro X hX
  exact u_icmp_lt hX _ _ _ _ _ _ _ _ _ _ h1 h2 (fun c => k1 c X hX) (fun c => k2 c X hX)
theorem i_if_lt {r : MR} {OO : AO} {Q : AP} {pc : Nat} {ls : List (Option AV)} {st : List AV} {h : AH} {a b : Nat} {x : Int32} {off : Int} {tgt : Nat} (h1 : decode (rc r) pc = .ok (.ifCond .lt off, 3)) (h2 : (pc : Int) + off = (tgt : Int)) (k1 : x < 0 → WP r OO Q (tgt) (ls) (st) (h) (a) (b)) (k2 : ¬ x < 0 → WP r OO Q (pc + 3) (ls) (st) (h) (a) (b)) : WP r OO Q (pc) (ls) (ai x :: st) (h) (a) (b) := by
  intro X hX
  exact u_if_lt hX _ _ _ _ _ _ _ _ _ h1 h2 (fun c => k1 c X hX) (fun c => k2 c X hX)
theorem i_icmp_ge {r : MR} {OO : AO} {Q : AP} {pc : Nat} {ls : List (Option AV)} {st : List AV} {h : AH} {a b : Nat} {x y : Int32} {off : Int} {tgt : Nat} (h1 : decode (rc r) pc = .ok (.if_icmp .ge off, 3)) (h2 : (pc : Int) + off = (tgt : Int)) (k1 : y ≤ x → WP r OO Q (tgt) (ls) (st) (h) (a) (b)) (k2 : ¬ y ≤ x → WP r OO Q (pc + 3) (ls) (st) (h) (a) (b)) : WP r OO Q (pc) (ls) (ai y :: ai x :: st) (h) (a) (b) := by
  intro X hX
  exact u_icmp_ge hX _ _ _ _ _ _ _ _ _ _ h1 h2 (fun c => k1 c X hX) (fun c => k2 c X hX)
theorem i_if_ge {r : MR} {OO : AO} {Q : AP} {pc : Nat} {ls : List (Option AV)} {st : List AV} {h : AH} {a b : Nat} {x : Int32} {off : Int} {tgt : Nat} (h1 : decode (rc r) pc = .ok (.ifCond .ge off, 3)) (h2 : (pc : Int) + off = (tgt : Int)) (k1 : 0 ≤ x → WP r OO Q (tgt) (ls) (st) (h) (a) (b)) (k2 : ¬ 0 ≤ x → WP r OO Q (pc + 3) (ls) (st) (h) (a) (b)) : WP r OO Q (pc) (ls) (ai x :: st) (h) (a) (b) := by
  intro X hX
  exact u_if_ge hX _ _ _ _ _ _ _ _ _ h1 h2 (fun c => k1 c X hX) (fun c => k2 c X hX)
theorem i_icmp_gt {r : MR} {OO : AO} {Q : AP} {pc : Nat} {ls : List (Option AV)} {st : List AV} {h : AH} {a b : Nat} {x y : Int32} {off : Int} {tgt : Nat} (h1 : decode (rc r) pc = .ok (.if_icmp .gt off, 3)) (h2 : (pc : Int) + off = (tgt : Int)) (k1 : y < x → WP r OO Q (tgt) (ls) (st) (h) (a) (b)) (k2 : ¬ y < x → WP r OO Q (pc + 3) (ls) (st) (h) (a) (b)) : WP r OO Q (pc) (ls) (ai y :: ai x :: st) (h) (a) (b) := by
  intro X hX
  exact u_icmp_gt hX _ _ _ _ _ _ _ _ _ _ h1 h2 (fun c => k1 c X hX) (fun c => k2 c X hX)
theorem i_if_gt {r : MR} {OO : AO} {Q : AP} {pc : Nat} {ls : List (Option AV)} {st : List AV} {h : AH} {a b : Nat} {x : Int32} {off : Int} {tgt : Nat} (h1 : decode (rc r) pc = .ok (.ifCond .gt off, 3)) (h2 : (pc : Int) + off = (tgt : Int)) (k1 : 0 < x → WP r OO Q (tgt) (ls) (st) (h) (a) (b)) (k2 : ¬ 0 < x → WP r OO Q (pc + 3) (ls) (st) (h) (a) (b)) : WP r OO Q (pc) (ls) (ai x :: st) (h) (a) (b) := by
  intro X hX
  exact u_if_gt hX _ _ _ _ _ _ _ _ _ h1 h2 (fun c => k1 c X hX) (fun c => k2 c X hX)
theorem i_icmp_le {r : MR} {OO : AO} {Q : AP} {pc : Nat} {ls : List (Option AV)} {st : List AV} {h : AH} {a b : Nat} {x y : Int32} {off : Int} {tgt : Nat} (h1 : decode (rc r) pc = .ok (.if_icmp .le off, 3)) (h2 : (pc : Int) + off = (tgt : Int)) (k1 : x ≤ y → WP r OO Q (tgt) (ls) (st) (h) (a) (b)) (k2 : ¬ x ≤ y → WP r OO Q (pc + 3) (ls) (st) (h) (a) (b)) : WP r OO Q (pc) (ls) (ai y :: ai x :: st) (h) (a) (b) := by
  intro X hX
  exact u_icmp_le hX _ _ _ _ _ _ _ _ _ _ h1 h2 (fun c => k1 c X hX) (fun c => k2 c X hX)
theorem i_if_le {r : MR} {OO : AO} {Q : AP} {pc : Nat} {ls : List (Option AV)} {st : List AV} {h : AH} {a b : Nat} {x : Int32} {off : Int} {tgt : Nat} (h1 : decode (rc r) pc = .ok (.ifCond .le off, 3)) (h2 : (pc : Int) + off = (tgt : Int)) (k1 : x ≤ 0 → WP r OO Q (tgt) (ls) (st) (h) (a) (b)) (k2 : ¬ x ≤ 0 → WP r OO Q (pc + 3) (ls) (st) (h) (a) (b)) : WP r OO Q (pc) (ls) (ai x :: st) (h) (a) (b) := by
  intro X hX
  exact u_if_le hX _ _ _ _ _ _ _ _ _ h1 h2 (fun c => k1 c X hX) (fun c => k2 c X hX)
theorem i_ifnull {r : MR} {OO : AO} {Q : AP} {pc : Nat} {ls : List (Option AV)} {st : List AV} {h : AH} {a b : Nat} {x : Nat} {off : Int} (h1 : decode (rc r) pc = .ok (.ifnull off, 3)) (k1 : WP r OO Q (pc + 3) (ls) (st) (h) (a) (b)) : WP r OO Q (pc) (ls) (ar x :: st) (h) (a) (b) := by
  intro X hX
  exact u_ifnull hX _ _ _ _ _ _ _ _ h1 (k1 X hX)
theorem i_tabIn {r : MR} {OO : AO} {Q : AP} {pc : Nat} {ls : List (Option AV)} {st : List AV} {h : AH} {a b : Nat} {dflt lo hi : Int} {offs : Array Int} {len : Nat} {x : Int32} {off : Int} {tgt : Nat} (h1 : decode (rc r) pc = .ok (.tableswitch dflt lo hi offs, len)) (h2 : ¬ x.toInt < lo) (h3 : ¬ hi < x.toInt) (h4 : offs[(x.toInt - lo).toNat]? = some off) (h5 : (pc : Int) + off = (tgt : Int)) (k1 : WP r OO Q (tgt) (ls) (st) (h) (a) (b)) : WP r OO Q (pc) (ls) (ai x :: st) (h) (a) (b) := by
  intro X hX
  exact u_tabIn hX _ _ _ _ _ _ _ _ _ _ _ _ _ _ h1 h2 h3 h4 h5 (k1 X hX)
theorem i_tabOut {r : MR} {OO : AO} {Q : AP} {pc : Nat} {ls : List (Option AV)} {st : List AV} {h : AH} {a b : Nat} {dflt lo hi : Int} {offs : Array Int} {len : Nat} {x : Int32} {tgt : Nat} (h1 : decode (rc r) pc = .ok (.tableswitch dflt lo hi offs, len)) (h2 : x.toInt < lo ∨ hi < x.toInt) (h3 : (pc : Int) + dflt = (tgt : Int)) (k1 : WP r OO Q (tgt) (ls) (st) (h) (a) (b)) : WP r OO Q (pc) (ls) (ai x :: st) (h) (a) (b) := by
  intro X hX
  exact u_tabOut hX _ _ _ _ _ _ _ _ _ _ _ _ _ h1 h2 h3 (k1 X hX)
theorem i_look {r : MR} {OO : AO} {Q : AP} {pc : Nat} {ls : List (Option AV)} {st : List AV} {h : AH} {a b : Nat} {dflt : Int} {ps : Array (Int × Int)} {len : Nat} {x : Int32} {off : Int} {tgt : Nat} (h1 : decode (rc r) pc = .ok (.lookupswitch dflt ps, len)) (h2 : (ps.toList.zip (ps.toList.drop 1)).all (fun (a, next) => a.1 < next.1) = true) (h3 : Op.lookupswitch.offset ps.toList dflt x.toInt = off) (h4 : (pc : Int) + off = (tgt : Int)) (k1 : WP r OO Q (tgt) (ls) (st) (h) (a) (b)) : WP r OO Q (pc) (ls) (ai x :: st) (h) (a) (b) := by
  intro X hX
  exact u_look hX _ _ _ _ _ _ _ _ _ _ _ _ h1 h2 h3 h4 (k1 X hX)
theorem i_getf {r : MR} {OO : AO} {Q : AP} {pc : Nat} {ls : List (Option AV)} {st : List AV} {h : AH} {a b : Nat} {i ci k o : Nat} {fs : List AV} {v : AV} (h1 : decode (rc r) pc = .ok (.getfield i, 3)) (h2 : FL (ro r) i ci k) (h3 : h[o]? = some (.inl (ci, fs))) (h4 : fs[k]? = some v) (k1 : WP r OO Q (pc + 3) (ls) (v :: st) (h) (a) (b)) : WP r OO Q (pc) (ls) (ar o :: st) (h) (a) (b) := by
  intro X hX
  exact u_getf hX _ _ _ _ _ _ _ _ _ _ _ _ h1 h2 h3 h4 (k1 X hX)
theorem i_putf {r : MR} {OO : AO} {Q : AP} {pc : Nat} {ls : List (Option AV)} {st : List AV} {h : AH} {a b : Nat} {i ci k o : Nat} {fs : List AV} {v : AV} (h1 : decode (rc r) pc = .ok (.putfield i, 3)) (h2 : FL (ro r) i ci k) (h3 : FN ci k ∨ ((ry r).name = "<init>" ∧ FF (ro r) ci k)) (h4 : FP ci k v) (h5 : h[o]? = some (.inl (ci, fs))) (h6 : k < fs.length) (k1 : WP r OO Q (pc + 3) (ls) (st) (h.set o (.inl (ci, fs.set k v))) (a) (b)) : WP r OO Q (pc) (ls) (v :: ar o :: st) (h) (a) (b) := by
  intro X hX
  exact u_putf hX _ _ _ _ _ _ _ _ _ _ _ _ h1 h2 h3 h4 h5 h6 (k1 X hX)
theorem i_iald {r : MR} {OO : AO} {Q : AP} {pc : Nat} {ls : List (Option AV)} {st : List AV} {h : AH} {a b : Nat} {o n : Nat} {f : Nat → Int32} {i : Int32} (h1 : decode (rc r) pc = .ok (.iaload, 1)) (h2 : h[o]? = some (.inr (.inl (n, f)))) (h3 : vp_in i n) (k1 : WP r OO Q (pc + 1) (ls) (ai (f i.toNatClampNeg) :: st) (h) (a) (b)) : WP r OO Q (pc) (ls) (ai i :: ar o :: st) (h) (a) (b) := by
  intro X hX
  exact u_iald hX _ _ _ _ _ _ _ _ _ _ h1 h2 h3 (k1 X hX)
theorem i_iast {r : MR} {OO : AO} {Q : AP} {pc : Nat} {ls : List (Option AV)} {st : List AV} {h : AH} {a b : Nat} {o n : Nat} {f : Nat → Int32} {i x : Int32} (h1 : decode (rc r) pc = .ok (.iastore, 1)) (h2 : h[o]? = some (.inr (.inl (n, f)))) (h3 : vp_in i n) (k1 : WP r OO Q (pc + 1) (ls) (st) (h.set o (.inr (.inl (n, upd f i.toNatClampNeg x)))) (a) (b)) : WP r OO Q (pc) (ls) (ai x :: ai i :: ar o :: st) (h) (a) (b) := by
  intro X hX
  exact u_iast hX _ _ _ _ _ _ _ _ _ _ _ h1 h2 h3 (k1 X hX)
theorem i_alen {r : MR} {OO : AO} {Q : AP} {pc : Nat} {ls : List (Option AV)} {st : List AV} {h : AH} {a b : Nat} {o n : Nat} {f : Nat → Int32} (h1 : decode (rc r) pc = .ok (.arraylength, 1)) (h2 : h[o]? = some (.inr (.inl (n, f)))) (k1 : WP r OO Q (pc + 1) (ls) (ai (Int32.ofNat n) :: st) (h) (a) (b)) : WP r OO Q (pc) (ls) (ar o :: st) (h) (a) (b) := by
  intro X hX
  exact u_alen hX _ _ _ _ _ _ _ _ _ h1 h2 (k1 X hX)
theorem i_alenq {r : MR} {OO : AO} {Q : AP} {pc : Nat} {ls : List (Option AV)} {st : List AV} {h : AH} {a b : Nat} {o n : Nat} {f : Nat → Option Nat} (h1 : decode (rc r) pc = .ok (.arraylength, 1)) (h2 : h[o]? = some (.inr (.inr (n, f)))) (k1 : WP r OO Q (pc + 1) (ls) (ai (Int32.ofNat n) :: st) (h) (a) (b)) : WP r OO Q (pc) (ls) (ar o :: st) (h) (a) (b) := by
  intro X hX
  exact u_alenq hX _ _ _ _ _ _ _ _ _ h1 h2 (k1 X hX)
theorem i_aald {r : MR} {OO : AO} {Q : AP} {pc : Nat} {ls : List (Option AV)} {st : List AV} {h : AH} {a b : Nat} {o n : Nat} {f : Nat → Option Nat} {i : Int32} (h1 : decode (rc r) pc = .ok (.aaload, 1)) (h2 : h[o]? = some (.inr (.inr (n, f)))) (h3 : vp_in i n) (k1 : WP r OO Q (pc + 1) (ls) (.inr (f i.toNatClampNeg) :: st) (h) (a) (b)) : WP r OO Q (pc) (ls) (ai i :: ar o :: st) (h) (a) (b) := by
  intro X hX
  exact u_aald hX _ _ _ _ _ _ _ _ _ _ h1 h2 h3 (k1 X hX)
theorem i_aast {r : MR} {OO : AO} {Q : AP} {pc : Nat} {ls : List (Option AV)} {st : List AV} {h : AH} {a b : Nat} {o n v : Nat} {fs : List AV} {f : Nat → Option Nat} {i : Int32} (h1 : decode (rc r) pc = .ok (.aastore, 1)) (h2 : h[o]? = some (.inr (.inr (n, f)))) (h3 : h[v]? = some (.inl (8, fs))) (h4 : vp_in i n) (k1 : WP r OO Q (pc + 1) (ls) (st) (h.set o (.inr (.inr (n, va_up f i.toNatClampNeg (some v))))) (a) (b)) : WP r OO Q (pc) (ls) (ar v :: ai i :: ar o :: st) (h) (a) (b) := by
  intro X hX
  exact u_aast hX _ _ _ _ _ _ _ _ _ _ _ _ h1 h2 h3 h4 (k1 X hX)
theorem i_new {r : MR} {OO : AO} {Q : AP} {pc : Nat} {ls : List (Option AV)} {st : List AV} {h : AH} {a b : Nat} {i ci N : Nat} {C : String} {T : u_T} {fs : List AV} (h1 : decode (rc r) pc = .ok (.new i, 3)) (h2 : vwCl[ci]? = some (C, T, N)) (h3 : Cond.classLink (ro r) i C ∈ Wl) (h4 : Cond.instantiable C N ∈ Wl) (h5 : Cond.initialized C ∈ Wl) (h6 : fs.length = N) (h7 : ∀ j, j < N → (parseFieldDescriptor (T j).2.2.1).map defaultValue = some (cv 0 (fs.getD j an)) ∧ (∀ q, fs[j]? ≠ some (ar q))) (k1 : WP r OO Q (pc + 3) (ls) (ar h.length :: st) (h ++ [.inl (ci, fs)]) (a) (b)) : WP r OO Q (pc) (ls) (st) (h) (a + 1) (b + N) := by
  intro X hX
  exact u_new hX _ _ _ _ _ _ _ _ _ _ _ _ h1 h2 h3 h4 h5 h6 h7 (k1 X hX)
theorem i_newi {r : MR} {OO : AO} {Q : AP} {pc : Nat} {ls : List (Option AV)} {st : List AV} {h : AH} {a b : Nat} {n : Int32} {N : Nat} (h1 : decode (rc r) pc = .ok (.newarray .int, 2)) (h2 : ¬ n < 0) (h3 : n.toNatClampNeg = N) (h4 : N ≤ 1000) (k1 : WP r OO Q (pc + 2) (ls) (ar h.length :: st) (h ++ [.inr (.inl (N, fun _ => 0))]) (a) (b)) : WP r OO Q (pc) (ls) (ai n :: st) (h) (a + 1) (b + N) := by
  intro X hX
  exact u_newi hX _ _ _ _ _ _ _ _ h1 h2 h3 h4 (k1 X hX)
theorem i_newq {r : MR} {OO : AO} {Q : AP} {pc : Nat} {ls : List (Option AV)} {st : List AV} {h : AH} {a b : Nat} {i : Nat} {n : Int32} {N : Nat} (h1 : decode (rc r) pc = .ok (.anewarray i, 3)) (h2 : Cond.classLink (ro r) i RX8 ∈ Wl) (h3 : ¬ n < 0) (h4 : n.toNatClampNeg = N) (h5 : N ≤ 1000) (k1 : WP r OO Q (pc + 3) (ls) (ar h.length :: st) (h ++ [.inr (.inr (N, fun _ => none))]) (a) (b)) : WP r OO Q (pc) (ls) (ai n :: st) (h) (a + 1) (b + N) := by
  intro X hX
  exact u_newq hX _ _ _ _ _ _ _ _ _ h1 h2 h3 h4 h5 (k1 X hX)
theorem i_obj {r : MR} {OO : AO} {Q : AP} {pc : Nat} {ls : List (Option AV)} {st : List AV} {h : AH} {a b : Nat} {i o : Nat} (h1 : decode (rc r) pc = .ok (.invokespecial i, 3)) (h2 : Cond.methodLink (ro r) i objectInit ∈ Wl) (h3 : st.length ≤ 8) (h4 : 1 ≤ rf r) (h5 : 20 ≤ rl r) (k1 : WP r OO Q (pc + 3) (ls) (st) (h) (a) (b)) : WP r OO Q (pc) (ls) (ar o :: st) (h) (a) (b) := by
  intro X hX
  exact u_obj hX _ _ _ _ _ _ _ _ h1 h2 h3 h4 h5 (k1 X hX)
theorem i_ireturn {r : MR} {OO : AO} {Q : AP} {pc : Nat} {ls : List (Option AV)} {h : AH} {a b : Nat} {x : Int32} {ty : FieldType} (h1 : decode (rc r) pc = .ok (.ireturn, 1)) (h2 : rt r = some ty) (h3 : narrow ty (.int x) = .int x) (h4 : Q (some (ai x)) h) : WP r OO Q (pc) (ls) ([ai x]) (h) (a) (b) := by
  intro X hX
  exact u_ireturn hX _ _ _ _ _ _ _ h1 h2 h3 h4
theorem i_areturn {r : MR} {OO : AO} {Q : AP} {pc : Nat} {ls : List (Option AV)} {h : AH} {a b : Nat} {x : Option Nat} {C : String} (h1 : decode (rc r) pc = .ok (.areturn, 1)) (h2 : rt r = some (.object C)) (h3 : Q (some (.inr x)) h) : WP r OO Q (pc) (ls) ([.inr x]) (h) (a) (b) := by
  intro X hX
  exact u_areturn hX _ _ _ _ _ _ _ h1 h2 h3
theorem i_return {r : MR} {OO : AO} {Q : AP} {pc : Nat} {ls : List (Option AV)} {h : AH} {a b : Nat} (h1 : decode (rc r) pc = .ok (.return_, 1)) (h2 : rt r = none) (h3 : Q none h) : WP r OO Q (pc) (ls) ([]) (h) (a) (b) := by
  intro X hX
  exact u_return hX _ _ _ _ _ h1 h2 h3
theorem xi_iconst {r : MR} {OO : AO} {Q : AP} {X : AX} (hX : Rules r OO Q X) {pc : Nat} {ls : List (Option AV)} {st : List AV} {h : AH} {a b : Nat} {n : Int} {v : Int32} (h1 : decode (rc r) pc = .ok (.iconst n, 1)) (h2 : Int32.ofInt n = v) (k1 : X (pc + 1) (ls) (ai v :: st) (h) (a) (b)) : X (pc) (ls) (st) (h) (a) (b) := u_iconst hX _ _ _ _ _ _ _ _ h1 h2 k1
theorem xi_bipush {r : MR} {OO : AO} {Q : AP} {X : AX} (hX : Rules r OO Q X) {pc : Nat} {ls : List (Option AV)} {st : List AV} {h : AH} {a b : Nat} {n : Int} {v : Int32} (h1 : decode (rc r) pc = .ok (.bipush n, 2)) (h2 : (Int8.ofInt n).toInt32 = v) (k1 : X (pc + 2) (ls) (ai v :: st) (h) (a) (b)) : X (pc) (ls) (st) (h) (a) (b) := u_bipush hX _ _ _ _ _ _ _ _ h1 h2 k1
theorem xi_sipush {r : MR} {OO : AO} {Q : AP} {X : AX} (hX : Rules r OO Q X) {pc : Nat} {ls : List (Option AV)} {st : List AV} {h : AH} {a b : Nat} {n : Int} {v : Int32} (h1 : decode (rc r) pc = .ok (.sipush n, 3)) (h2 : (Int16.ofInt n).toInt32 = v) (k1 : X (pc + 3) (ls) (ai v :: st) (h) (a) (b)) : X (pc) (ls) (st) (h) (a) (b) := u_sipush hX _ _ _ _ _ _ _ _ h1 h2 k1
theorem xi_ldc {r : MR} {OO : AO} {Q : AP} {X : AX} (hX : Rules r OO Q X) {pc : Nat} {ls : List (Option AV)} {st : List AV} {h : AH} {a b : Nat} {i : Nat} {v : Int32} (h1 : decode (rc r) pc = .ok (.ldc i, 2)) (h2 : Cond.constant (ro r) i v ∈ Wl) (k1 : X (pc + 2) (ls) (ai v :: st) (h) (a) (b)) : X (pc) (ls) (st) (h) (a) (b) := u_ldc hX _ _ _ _ _ _ _ _ h1 h2 k1
theorem xi_null {r : MR} {OO : AO} {Q : AP} {X : AX} (hX : Rules r OO Q X) {pc : Nat} {ls : List (Option AV)} {st : List AV} {h : AH} {a b : Nat}  (h1 : decode (rc r) pc = .ok (.aconst_null, 1)) (k1 : X (pc + 1) (ls) (an :: st) (h) (a) (b)) : X (pc) (ls) (st) (h) (a) (b) := u_null hX _ _ _ _ _ _ h1 k1
theorem xi_iload_n {r : MR} {OO : AO} {Q : AP} {X : AX} (hX : Rules r OO Q X) {pc : Nat} {ls : List (Option AV)} {st : List AV} {h : AH} {a b : Nat} {k : Fin 4} {i : Nat} {x : Int32} (h1 : decode (rc r) pc = .ok (.iload_n k, 1)) (h2 : (k : Nat) = i) (h3 : ls[i]? = some (some (ai x))) (k1 : X (pc + 1) (ls) (ai x :: st) (h) (a) (b)) : X (pc) (ls) (st) (h) (a) (b) := u_iload_n hX _ _ _ _ _ _ _ _ _ h1 h2 h3 k1
theorem xi_iload {r : MR} {OO : AO} {Q : AP} {X : AX} (hX : Rules r OO Q X) {pc : Nat} {ls : List (Option AV)} {st : List AV} {h : AH} {a b : Nat} {i : Nat} {x : Int32} (h1 : decode (rc r) pc = .ok (.iload i, 2)) (h2 : ls[i]? = some (some (ai x))) (k1 : X (pc + 2) (ls) (ai x :: st) (h) (a) (b)) : X (pc) (ls) (st) (h) (a) (b) := u_iload hX _ _ _ _ _ _ _ _ h1 h2 k1
theorem xi_aload_n {r : MR} {OO : AO} {Q : AP} {X : AX} (hX : Rules r OO Q X) {pc : Nat} {ls : List (Option AV)} {st : List AV} {h : AH} {a b : Nat} {k : Fin 4} {i : Nat} {x : Nat} (h1 : decode (rc r) pc = .ok (.aload_n k, 1)) (h2 : (k : Nat) = i) (h3 : ls[i]? = some (some (ar x))) (k1 : X (pc + 1) (ls) (ar x :: st) (h) (a) (b)) : X (pc) (ls) (st) (h) (a) (b) := u_aload_n hX _ _ _ _ _ _ _ _ _ h1 h2 h3 k1
theorem xi_aload {r : MR} {OO : AO} {Q : AP} {X : AX} (hX : Rules r OO Q X) {pc : Nat} {ls : List (Option AV)} {st : List AV} {h : AH} {a b : Nat} {i : Nat} {x : Nat} (h1 : decode (rc r) pc = .ok (.aload i, 2)) (h2 : ls[i]? = some (some (ar x))) (k1 : X (pc + 2) (ls) (ar x :: st) (h) (a) (b)) : X (pc) (ls) (st) (h) (a) (b) := u_aload hX _ _ _ _ _ _ _ _ h1 h2 k1
theorem xi_istore_n {r : MR} {OO : AO} {Q : AP} {X : AX} (hX : Rules r OO Q X) {pc : Nat} {ls : List (Option AV)} {st : List AV} {h : AH} {a b : Nat} {k : Fin 4} {i : Nat} {x : Int32} (h1 : decode (rc r) pc = .ok (.istore_n k, 1)) (h2 : (k : Nat) = i) (h3 : i < ls.length) (k1 : X (pc + 1) (ls.set i (some (ai x))) (st) (h) (a) (b)) : X (pc) (ls) (ai x :: st) (h) (a) (b) := u_istore_n hX _ _ _ _ _ _ _ _ _ h1 h2 h3 k1
theorem xi_istore {r : MR} {OO : AO} {Q : AP} {X : AX} (hX : Rules r OO Q X) {pc : Nat} {ls : List (Option AV)} {st : List AV} {h : AH} {a b : Nat} {i : Nat} {x : Int32} (h1 : decode (rc r) pc = .ok (.istore i, 2)) (h2 : i < ls.length) (k1 : X (pc + 2) (ls.set i (some (ai x))) (st) (h) (a) (b)) : X (pc) (ls) (ai x :: st) (h) (a) (b) := u_istore hX _ _ _ _ _ _ _ _ h1 h2 k1
theorem xi_astore_n {r : MR} {OO : AO} {Q : AP} {X : AX} (hX : Rules r OO Q X) {pc : Nat} {ls : List (Option AV)} {st : List AV} {h : AH} {a b : Nat} {k : Fin 4} {i : Nat} {x : Nat} (h1 : decode (rc r) pc = .ok (.astore_n k, 1)) (h2 : (k : Nat) = i) (h3 : i < ls.length) (k1 : X (pc + 1) (ls.set i (some (ar x))) (st) (h) (a) (b)) : X (pc) (ls) (ar x :: st) (h) (a) (b) := u_astore_n hX _ _ _ _ _ _ _ _ _ h1 h2 h3 k1
theorem xi_astore {r : MR} {OO : AO} {Q : AP} {X : AX} (hX : Rules r OO Q X) {pc : Nat} {ls : List (Option AV)} {st : List AV} {h : AH} {a b : Nat} {i : Nat} {x : Nat} (h1 : decode (rc r) pc = .ok (.astore i, 2)) (h2 : i < ls.length) (k1 : X (pc + 2) (ls.set i (some (ar x))) (st) (h) (a) (b)) : X (pc) (ls) (ar x :: st) (h) (a) (b) := u_astore hX _ _ _ _ _ _ _ _ h1 h2 k1
theorem xi_iinc {r : MR} {OO : AO} {Q : AP} {X : AX} (hX : Rules r OO Q X) {pc : Nat} {ls : List (Option AV)} {st : List AV} {h : AH} {a b : Nat} {i : Nat} {n : Int} {x : Int32} (h1 : decode (rc r) pc = .ok (.iinc i n, 3)) (h2 : ls[i]? = some (some (ai x))) (k1 : X (pc + 3) (ls.set i (some (ai (x + Int32.ofInt n)))) (st) (h) (a) (b)) : X (pc) (ls) (st) (h) (a) (b) := u_iinc hX _ _ _ _ _ _ _ _ _ h1 h2 k1
theorem xi_iadd {r : MR} {OO : AO} {Q : AP} {X : AX} (hX : Rules r OO Q X) {pc : Nat} {ls : List (Option AV)} {st : List AV} {h : AH} {a b : Nat} {x y : Int32} (h1 : decode (rc r) pc = .ok (.iadd, 1)) (k1 : X (pc + 1) (ls) (ai (x + y) :: st) (h) (a) (b)) : X (pc) (ls) (ai y :: ai x :: st) (h) (a) (b) := u_iadd hX _ _ _ _ _ _ _ _ h1 k1
theorem xi_isub {r : MR} {OO : AO} {Q : AP} {X : AX} (hX : Rules r OO Q X) {pc : Nat} {ls : List (Option AV)} {st : List AV} {h : AH} {a b : Nat} {x y : Int32} (h1 : decode (rc r) pc = .ok (.isub, 1)) (k1 : X (pc + 1) (ls) (ai (x - y) :: st) (h) (a) (b)) : X (pc) (ls) (ai y :: ai x :: st) (h) (a) (b) := u_isub hX _ _ _ _ _ _ _ _ h1 k1
theorem xi_imul {r : MR} {OO : AO} {Q : AP} {X : AX} (hX : Rules r OO Q X) {pc : Nat} {ls : List (Option AV)} {st : List AV} {h : AH} {a b : Nat} {x y : Int32} (h1 : decode (rc r) pc = .ok (.imul, 1)) (k1 : X (pc + 1) (ls) (ai (x * y) :: st) (h) (a) (b)) : X (pc) (ls) (ai y :: ai x :: st) (h) (a) (b) := u_imul hX _ _ _ _ _ _ _ _ h1 k1
theorem xi_ior {r : MR} {OO : AO} {Q : AP} {X : AX} (hX : Rules r OO Q X) {pc : Nat} {ls : List (Option AV)} {st : List AV} {h : AH} {a b : Nat} {x y : Int32} (h1 : decode (rc r) pc = .ok (.ior, 1)) (k1 : X (pc + 1) (ls) (ai (x ||| y) :: st) (h) (a) (b)) : X (pc) (ls) (ai y :: ai x :: st) (h) (a) (b) := u_ior hX _ _ _ _ _ _ _ _ h1 k1
theorem xi_iand {r : MR} {OO : AO} {Q : AP} {X : AX} (hX : Rules r OO Q X) {pc : Nat} {ls : List (Option AV)} {st : List AV} {h : AH} {a b : Nat} {x y : Int32} (h1 : decode (rc r) pc = .ok (.iand, 1)) (k1 : X (pc + 1) (ls) (ai (x &&& y) :: st) (h) (a) (b)) : X (pc) (ls) (ai y :: ai x :: st) (h) (a) (b) := u_iand hX _ _ _ _ _ _ _ _ h1 k1
theorem xi_ixor {r : MR} {OO : AO} {Q : AP} {X : AX} (hX : Rules r OO Q X) {pc : Nat} {ls : List (Option AV)} {st : List AV} {h : AH} {a b : Nat} {x y : Int32} (h1 : decode (rc r) pc = .ok (.ixor, 1)) (k1 : X (pc + 1) (ls) (ai (x ^^^ y) :: st) (h) (a) (b)) : X (pc) (ls) (ai y :: ai x :: st) (h) (a) (b) := u_ixor hX _ _ _ _ _ _ _ _ h1 k1
theorem xi_ishl {r : MR} {OO : AO} {Q : AP} {X : AX} (hX : Rules r OO Q X) {pc : Nat} {ls : List (Option AV)} {st : List AV} {h : AH} {a b : Nat} {x y : Int32} (h1 : decode (rc r) pc = .ok (.ishl, 1)) (k1 : X (pc + 1) (ls) (ai (x <<< (y &&& 31)) :: st) (h) (a) (b)) : X (pc) (ls) (ai y :: ai x :: st) (h) (a) (b) := u_ishl hX _ _ _ _ _ _ _ _ h1 k1
theorem xi_ishr {r : MR} {OO : AO} {Q : AP} {X : AX} (hX : Rules r OO Q X) {pc : Nat} {ls : List (Option AV)} {st : List AV} {h : AH} {a b : Nat} {x y : Int32} (h1 : decode (rc r) pc = .ok (.ishr, 1)) (k1 : X (pc + 1) (ls) (ai (x >>> (y &&& 31)) :: st) (h) (a) (b)) : X (pc) (ls) (ai y :: ai x :: st) (h) (a) (b) := u_ishr hX _ _ _ _ _ _ _ _ h1 k1
theorem xi_idiv {r : MR} {OO : AO} {Q : AP} {X : AX} (hX : Rules r OO Q X) {pc : Nat} {ls : List (Option AV)} {st : List AV} {h : AH} {a b : Nat} {x y : Int32} (h1 : decode (rc r) pc = .ok (.idiv, 1)) (h2 : ¬ y = 0) (k1 : X (pc + 1) (ls) (ai (x / y) :: st) (h) (a) (b)) : X (pc) (ls) (ai y :: ai x :: st) (h) (a) (b) := u_idiv hX _ _ _ _ _ _ _ _ h1 h2 k1
theorem xi_irem {r : MR} {OO : AO} {Q : AP} {X : AX} (hX : Rules r OO Q X) {pc : Nat} {ls : List (Option AV)} {st : List AV} {h : AH} {a b : Nat} {x y : Int32} (h1 : decode (rc r) pc = .ok (.irem, 1)) (h2 : ¬ y = 0) (k1 : X (pc + 1) (ls) (ai (x - x / y * y) :: st) (h) (a) (b)) : X (pc) (ls) (ai y :: ai x :: st) (h) (a) (b) := u_irem hX _ _ _ _ _ _ _ _ h1 h2 k1
theorem xi_dup {r : MR} {OO : AO} {Q : AP} {X : AX} (hX : Rules r OO Q X) {pc : Nat} {ls : List (Option AV)} {st : List AV} {h : AH} {a b : Nat} {v : AV} (h1 : decode (rc r) pc = .ok (.dup, 1)) (k1 : X (pc + 1) (ls) (v :: v :: st) (h) (a) (b)) : X (pc) (ls) (v :: st) (h) (a) (b) := u_dup hX _ _ _ _ _ _ _ h1 k1
theorem xi_dup2 {r : MR} {OO : AO} {Q : AP} {X : AX} (hX : Rules r OO Q X) {pc : Nat} {ls : List (Option AV)} {st : List AV} {h : AH} {a b : Nat} {v u : AV} (h1 : decode (rc r) pc = .ok (.dup2, 1)) (k1 : X (pc + 1) (ls) (v :: u :: v :: u :: st) (h) (a) (b)) : X (pc) (ls) (v :: u :: st) (h) (a) (b) := u_dup2 hX _ _ _ _ _ _ _ _ h1 k1
theorem xi_pop {r : MR} {OO : AO} {Q : AP} {X : AX} (hX : Rules r OO Q X) {pc : Nat} {ls : List (Option AV)} {st : List AV} {h : AH} {a b : Nat} {v : AV} (h1 : decode (rc r) pc = .ok (.pop, 1)) (k1 : X (pc + 1) (ls) (st) (h) (a) (b)) : X (pc) (ls) (v :: st) (h) (a) (b) := u_pop hX _ _ _ _ _ _ _ h1 k1
theorem xi_goto {r : MR} {OO : AO} {Q : AP} {X : AX} (hX : Rules r OO Q X) {pc : Nat} {ls : List (Option AV)} {st : List AV} {h : AH} {a b : Nat} {off : Int} {tgt : Nat} (h1 : decode (rc r) pc = .ok (.goto off, 3)) (h2 : (pc : Int) + off = (tgt : Int)) (k1 : X (tgt) (ls) (st) (h) (a) (b)) : X (pc) (ls) (st) (h) (a) (b) := u_goto hX _ _ _ _ _ _ _ _ h1 h2 k1
theorem xi_icmp_eq {r : MR} {OO : AO} {Q : AP} {X : AX} (hX : Rules r OO Q X) {pc : Nat} {ls : List (Option AV)} {st : List AV} {h : AH} {a b : Nat} {x y : Int32} {off : Int} {tgt : Nat} (h1 : decode (rc r) pc = .ok (.if_icmp .eq off, 3)) (h2 : (pc : Int) + off = (tgt : Int)) (k1 : x = y → X (tgt) (ls) (st) (h) (a) (b)) (k2 : ¬ x = y → X (pc + 3) (ls) (st) (h) (a) (b)) : X (pc) (ls) (ai y :: ai x :: st) (h) (a) (b) := u_icmp_eq hX _ _ _ _ _ _ _ _ _ _ h1 h2 k1 k2
theorem xi_if_eq {r : MR} {OO : AO} {Q : AP} {X : AX} (hX : Rules r OO Q X) {pc : Nat} {ls : List (Option AV)} {st : List AV} {h : AH} {a b : Nat} {x : Int32} {off : Int} {tgt : Nat} (h1 : decode (rc r) pc = .ok (.ifCond .eq off, 3)) (h2 : (pc : Int) + off = (tgt : Int)) (k1 : x = 0 → X (tgt) (ls) (st) (h) (a) (b)) (k2 : ¬ x = 0 → X (pc + 3) (ls) (st) (h) (a) (b)) : X (pc) (ls) (ai x :: st) (h) (a) (b) := u_if_eq hX _ _ _ _ _ _ _ _ _ h1 h2 k1 k2
theorem xi_icmp_ne {r : MR} {OO : AO} {Q : AP} {X : AX} (hX : Rules r OO Q X) {pc : Nat} {ls : List (Option AV)} {st : List AV} {h : AH} {a b : Nat} {x y : Int32} {off : Int} {tgt : Nat} (h1 : decode (rc r) pc = .ok (.if_icmp .ne off, 3)) (h2 : (pc : Int) + off = (tgt : Int)) (k1 : ¬ x = y → X (tgt) (ls) (st) (h) (a) (b)) (k2 : x = y → X (pc + 3) (ls) (st) (h) (a) (b)) : X (pc) (ls) (ai y :: ai x :: st) (h) (a) (b) := u_icmp_ne hX _ _ _ _ _ _ _ _ _ _ h1 h2 k1 k2
theorem xi_if_ne {r : MR} {OO : AO} {Q : AP} {X : AX} (hX : Rules r OO Q X) {pc : Nat} {ls : List (Option AV)} {st : List AV} {h : AH} {a b : Nat} {x : Int32} {off : Int} {tgt : Nat} (h1 : decode (rc r) pc = .ok (.ifCond .ne off, 3)) (h2 : (pc : Int) + off = (tgt : Int)) (k1 : ¬ x = 0 → X (tgt) (ls) (st) (h) (a) (b)) (k2 : x = 0 → X (pc + 3) (ls) (st) (h) (a) (b)) : X (pc) (ls) (ai x :: st) (h) (a) (b) := u_if_ne hX _ _ _ _ _ _ _ _ _ h1 h2 k1 k2
theorem xi_icmp_lt {r : MR} {OO : AO} {Q : AP} {X : AX} (hX : Rules r OO Q X) {pc : Nat} {ls : List (Option AV)} {st : List AV} {h : AH} {a b : Nat} {x y : Int32} {off : Int} {tgt : Nat} (h1 : decode (rc r) pc = .ok (.if_icmp .lt off, 3)) (h2 : (pc : Int) + off = (tgt : Int)) (k1 : x < y → X (tgt) (ls) (st) (h) (a) (b)) (k2 : ¬ x < y → X (pc + 3) (ls) (st) (h) (a) (b)) : X (pc) (ls) (ai y :: ai x :: st) (h) (a) (b) := u_icmp_lt hX _ _ _ _ _ _ _ _ _ _ h1 h2 k1 k2
theorem xi_if_lt {r : MR} {OO : AO} {Q : AP} {X : AX} (hX : Rules r OO Q X) {pc : Nat} {ls : List (Option AV)} {st : List AV} {h : AH} {a b : Nat} {x : Int32} {off : Int} {tgt : Nat} (h1 : decode (rc r) pc = .ok (.ifCond .lt off, 3)) (h2 : (pc : Int) + off = (tgt : Int)) (k1 : x < 0 → X (tgt) (ls) (st) (h) (a) (b)) (k2 : ¬ x < 0 → X (pc + 3) (ls) (st) (h) (a) (b)) : X (pc) (ls) (ai x :: st) (h) (a) (b) := u_if_lt hX _ _ _ _ _ _ _ _ _ h1 h2 k1 k2
theorem xi_icmp_ge {r : MR} {OO : AO} {Q : AP} {X : AX} (hX : Rules r OO Q X) {pc : Nat} {ls : List (Option AV)} {st : List AV} {h : AH} {a b : Nat} {x y : Int32} {off : Int} {tgt : Nat} (h1 : decode (rc r) pc = .ok (.if_icmp .ge off, 3)) (h2 : (pc : Int) + off = (tgt : Int)) (k1 : y ≤ x → X (tgt) (ls) (st) (h) (a) (b)) (k2 : ¬ y ≤ x → X (pc + 3) (ls) (st) (h) (a) (b)) : X (pc) (ls) (ai y :: ai x :: st) (h) (a) (b) := u_icmp_ge hX _ _ _ _ _ _ _ _ _ _ h1 h2 k1 k2
theorem xi_if_ge {r : MR} {OO : AO} {Q : AP} {X : AX} (hX : Rules r OO Q X) {pc : Nat} {ls : List (Option AV)} {st : List AV} {h : AH} {a b : Nat} {x : Int32} {off : Int} {tgt : Nat} (h1 : decode (rc r) pc = .ok (.ifCond .ge off, 3)) (h2 : (pc : Int) + off = (tgt : Int)) (k1 : 0 ≤ x → X (tgt) (ls) (st) (h) (a) (b)) (k2 : ¬ 0 ≤ x → X (pc + 3) (ls) (st) (h) (a) (b)) : X (pc) (ls) (ai x :: st) (h) (a) (b) := u_if_ge hX _ _ _ _ _ _ _ _ _ h1 h2 k1 k2
theorem xi_icmp_gt {r : MR} {OO : AO} {Q : AP} {X : AX} (hX : Rules r OO Q X) {pc : Nat} {ls : List (Option AV)} {st : List AV} {h : AH} {a b : Nat} {x y : Int32} {off : Int} {tgt : Nat} (h1 : decode (rc r) pc = .ok (.if_icmp .gt off, 3)) (h2 : (pc : Int) + off = (tgt : Int)) (k1 : y < x → X (tgt) (ls) (st) (h) (a) (b)) (k2 : ¬ y < x → X (pc + 3) (ls) (st) (h) (a) (b)) : X (pc) (ls) (ai y :: ai x :: st) (h) (a) (b) := u_icmp_gt hX _ _ _ _ _ _ _ _ _ _ h1 h2 k1 k2
theorem xi_if_gt {r : MR} {OO : AO} {Q : AP} {X : AX} (hX : Rules r OO Q X) {pc : Nat} {ls : List (Option AV)} {st : List AV} {h : AH} {a b : Nat} {x : Int32} {off : Int} {tgt : Nat} (h1 : decode (rc r) pc = .ok (.ifCond .gt off, 3)) (h2 : (pc : Int) + off = (tgt : Int)) (k1 : 0 < x → X (tgt) (ls) (st) (h) (a) (b)) (k2 : ¬ 0 < x → X (pc + 3) (ls) (st) (h) (a) (b)) : X (pc) (ls) (ai x :: st) (h) (a) (b) := u_if_gt hX _ _ _ _ _ _ _ _ _ h1 h2 k1 k2
theorem xi_icmp_le {r : MR} {OO : AO} {Q : AP} {X : AX} (hX : Rules r OO Q X) {pc : Nat} {ls : List (Option AV)} {st : List AV} {h : AH} {a b : Nat} {x y : Int32} {off : Int} {tgt : Nat} (h1 : decode (rc r) pc = .ok (.if_icmp .le off, 3)) (h2 : (pc : Int) + off = (tgt : Int)) (k1 : x ≤ y → X (tgt) (ls) (st) (h) (a) (b)) (k2 : ¬ x ≤ y → X (pc + 3) (ls) (st) (h) (a) (b)) : X (pc) (ls) (ai y :: ai x :: st) (h) (a) (b) := u_icmp_le hX _ _ _ _ _ _ _ _ _ _ h1 h2 k1 k2
theorem xi_if_le {r : MR} {OO : AO} {Q : AP} {X : AX} (hX : Rules r OO Q X) {pc : Nat} {ls : List (Option AV)} {st : List AV} {h : AH} {a b : Nat} {x : Int32} {off : Int} {tgt : Nat} (h1 : decode (rc r) pc = .ok (.ifCond .le off, 3)) (h2 : (pc : Int) + off = (tgt : Int)) (k1 : x ≤ 0 → X (tgt) (ls) (st) (h) (a) (b)) (k2 : ¬ x ≤ 0 → X (pc + 3) (ls) (st) (h) (a) (b)) : X (pc) (ls) (ai x :: st) (h) (a) (b) := u_if_le hX _ _ _ _ _ _ _ _ _ h1 h2 k1 k2
theorem xi_ifnull {r : MR} {OO : AO} {Q : AP} {X : AX} (hX : Rules r OO Q X) {pc : Nat} {ls : List (Option AV)} {st : List AV} {h : AH} {a b : Nat} {x : Nat} {off : Int} (h1 : decode (rc r) pc = .ok (.ifnull off, 3)) (k1 : X (pc + 3) (ls) (st) (h) (a) (b)) : X (pc) (ls) (ar x :: st) (h) (a) (b) := u_ifnull hX _ _ _ _ _ _ _ _ h1 k1
theorem xi_tabIn {r : MR} {OO : AO} {Q : AP} {X : AX} (hX : Rules r OO Q X) {pc : Nat} {ls : List (Option AV)} {st : List AV} {h : AH} {a b : Nat} {dflt lo hi : Int} {offs : Array Int} {len : Nat} {x : Int32} {off : Int} {tgt : Nat} (h1 : decode (rc r) pc = .ok (.tableswitch dflt lo hi offs, len)) (h2 : ¬ x.toInt < lo) (h3 : ¬ hi < x.toInt) (h4 : offs[(x.toInt - lo).toNat]? = some off) (h5 : (pc : Int) + off = (tgt : Int)) (k1 : X (tgt) (ls) (st) (h) (a) (b)) : X (pc) (ls) (ai x :: st) (h) (a) (b) := u_tabIn hX _ _ _ _ _ _ _ _ _ _ _ _ _ _ h1 h2 h3 h4 h5 k1
theorem xi_tabOut {r : MR} {OO : AO} {Q : AP} {X : AX} (hX : Rules r OO Q X) {pc : Nat} {ls : List (Option AV)} {st : List AV} {h : AH} {a b : Nat} {dflt lo hi : Int} {offs : Array Int} {len : Nat} {x : Int32} {tgt : Nat} (h1 : decode (rc r) pc = .ok (.tableswitch dflt lo hi offs, len)) (h2 : x.toInt < lo ∨ hi < x.toInt) (h3 : (pc : Int) + dflt = (tgt : Int)) (k1 : X (tgt) (ls) (st) (h) (a) (b)) : X (pc) (ls) (ai x :: st) (h) (a) (b) := u_tabOut hX _ _ _ _ _ _ _ _ _ _ _ _ _ h1 h2 h3 k1
theorem xi_look {r : MR} {OO : AO} {Q : AP} {X : AX} (hX : Rules r OO Q X) {pc : Nat} {ls : List (Option AV)} {st : List AV} {h : AH} {a b : Nat} {dflt : Int} {ps : Array (Int × Int)} {len : Nat} {x : Int32} {off : Int} {tgt : Nat} (h1 : decode (rc r) pc = .ok (.lookupswitch dflt ps, len)) (h2 : (ps.toList.zip (ps.toList.drop 1)).all (fun (a, next) => a.1 < next.1) = true) (h3 : Op.lookupswitch.offset ps.toList dflt x.toInt = off) (h4 : (pc : Int) + off = (tgt : Int)) (k1 : X (tgt) (ls) (st) (h) (a) (b)) : X (pc) (ls) (ai x :: st) (h) (a) (b) := u_look hX _ _ _ _ _ _ _ _ _ _ _ _ h1 h2 h3 h4 k1
theorem xi_getf {r : MR} {OO : AO} {Q : AP} {X : AX} (hX : Rules r OO Q X) {pc : Nat} {ls : List (Option AV)} {st : List AV} {h : AH} {a b : Nat} {i ci k o : Nat} {fs : List AV} {v : AV} (h1 : decode (rc r) pc = .ok (.getfield i, 3)) (h2 : FL (ro r) i ci k) (h3 : h[o]? = some (.inl (ci, fs))) (h4 : fs[k]? = some v) (k1 : X (pc + 3) (ls) (v :: st) (h) (a) (b)) : X (pc) (ls) (ar o :: st) (h) (a) (b) := u_getf hX _ _ _ _ _ _ _ _ _ _ _ _ h1 h2 h3 h4 k1
theorem xi_putf {r : MR} {OO : AO} {Q : AP} {X : AX} (hX : Rules r OO Q X) {pc : Nat} {ls : List (Option AV)} {st : List AV} {h : AH} {a b : Nat} {i ci k o : Nat} {fs : List AV} {v : AV} (h1 : decode (rc r) pc = .ok (.putfield i, 3)) (h2 : FL (ro r) i ci k) (h3 : FN ci k ∨ ((ry r).name = "<init>" ∧ FF (ro r) ci k)) (h4 : FP ci k v) (h5 : h[o]? = some (.inl (ci, fs))) (h6 : k < fs.length) (k1 : X (pc + 3) (ls) (st) (h.set o (.inl (ci, fs.set k v))) (a) (b)) : X (pc) (ls) (v :: ar o :: st) (h) (a) (b) := u_putf hX _ _ _ _ _ _ _ _ _ _ _ _ h1 h2 h3 h4 h5 h6 k1
theorem xi_iald {r : MR} {OO : AO} {Q : AP} {X : AX} (hX : Rules r OO Q X) {pc : Nat} {ls : List (Option AV)} {st : List AV} {h : AH} {a b : Nat} {o n : Nat} {f : Nat → Int32} {i : Int32} (h1 : decode (rc r) pc = .ok (.iaload, 1)) (h2 : h[o]? = some (.inr (.inl (n, f)))) (h3 : vp_in i n) (k1 : X (pc + 1) (ls) (ai (f i.toNatClampNeg) :: st) (h) (a) (b)) : X (pc) (ls) (ai i :: ar o :: st) (h) (a) (b) := u_iald hX _ _ _ _ _ _ _ _ _ _ h1 h2 h3 k1
theorem xi_iast {r : MR} {OO : AO} {Q : AP} {X : AX} (hX : Rules r OO Q X) {pc : Nat} {ls : List (Option AV)} {st : List AV} {h : AH} {a b : Nat} {o n : Nat} {f : Nat → Int32} {i x : Int32} (h1 : decode (rc r) pc = .ok (.iastore, 1)) (h2 : h[o]? = some (.inr (.inl (n, f)))) (h3 : vp_in i n) (k1 : X (pc + 1) (ls) (st) (h.set o (.inr (.inl (n, upd f i.toNatClampNeg x)))) (a) (b)) : X (pc) (ls) (ai x :: ai i :: ar o :: st) (h) (a) (b) := u_iast hX _ _ _ _ _ _ _ _ _ _ _ h1 h2 h3 k1
theorem xi_alen {r : MR} {OO : AO} {Q : AP} {X : AX} (hX : Rules r OO Q X) {pc : Nat} {ls : List (Option AV)} {st : List AV} {h : AH} {a b : Nat} {o n : Nat} {f : Nat → Int32} (h1 : decode (rc r) pc = .ok (.arraylength, 1)) (h2 : h[o]? = some (.inr (.inl (n, f)))) (k1 : X (pc + 1) (ls) (ai (Int32.ofNat n) :: st) (h) (a) (b)) : X (pc) (ls) (ar o :: st) (h) (a) (b) := u_alen hX _ _ _ _ _ _ _ _ _ h1 h2 k1
theorem xi_alenq {r : MR} {OO : AO} {Q : AP} {X : AX} (hX : Rules r OO Q X) {pc : Nat} {ls : List (Option AV)} {st : List AV} {h : AH} {a b : Nat} {o n : Nat} {f : Nat → Option Nat} (h1 : decode (rc r) pc = .ok (.arraylength, 1)) (h2 : h[o]? = some (.inr (.inr (n, f)))) (k1 : X (pc + 1) (ls) (ai (Int32.ofNat n) :: st) (h) (a) (b)) : X (pc) (ls) (ar o :: st) (h) (a) (b) := u_alenq hX _ _ _ _ _ _ _ _ _ h1 h2 k1
theorem xi_aald {r : MR} {OO : AO} {Q : AP} {X : AX} (hX : Rules r OO Q X) {pc : Nat} {ls : List (Option AV)} {st : List AV} {h : AH} {a b : Nat} {o n : Nat} {f : Nat → Option Nat} {i : Int32} (h1 : decode (rc r) pc = .ok (.aaload, 1)) (h2 : h[o]? = some (.inr (.inr (n, f)))) (h3 : vp_in i n) (k1 : X (pc + 1) (ls) (.inr (f i.toNatClampNeg) :: st) (h) (a) (b)) : X (pc) (ls) (ai i :: ar o :: st) (h) (a) (b) := u_aald hX _ _ _ _ _ _ _ _ _ _ h1 h2 h3 k1
theorem xi_aast {r : MR} {OO : AO} {Q : AP} {X : AX} (hX : Rules r OO Q X) {pc : Nat} {ls : List (Option AV)} {st : List AV} {h : AH} {a b : Nat} {o n v : Nat} {fs : List AV} {f : Nat → Option Nat} {i : Int32} (h1 : decode (rc r) pc = .ok (.aastore, 1)) (h2 : h[o]? = some (.inr (.inr (n, f)))) (h3 : h[v]? = some (.inl (8, fs))) (h4 : vp_in i n) (k1 : X (pc + 1) (ls) (st) (h.set o (.inr (.inr (n, va_up f i.toNatClampNeg (some v))))) (a) (b)) : X (pc) (ls) (ar v :: ai i :: ar o :: st) (h) (a) (b) := u_aast hX _ _ _ _ _ _ _ _ _ _ _ _ h1 h2 h3 h4 k1
theorem xi_new {r : MR} {OO : AO} {Q : AP} {X : AX} (hX : Rules r OO Q X) {pc : Nat} {ls : List (Option AV)} {st : List AV} {h : AH} {a b : Nat} {i ci N : Nat} {C : String} {T : u_T} {fs : List AV} (h1 : decode (rc r) pc = .ok (.new i, 3)) (h2 : vwCl[ci]? = some (C, T, N)) (h3 : Cond.classLink (ro r) i C ∈ Wl) (h4 : Cond.instantiable C N ∈ Wl) (h5 : Cond.initialized C ∈ Wl) (h6 : fs.length = N) (h7 : ∀ j, j < N → (parseFieldDescriptor (T j).2.2.1).map defaultValue = some (cv 0 (fs.getD j an)) ∧ (∀ q, fs[j]? ≠ some (ar q))) (k1 : X (pc + 3) (ls) (ar h.length :: st) (h ++ [.inl (ci, fs)]) (a) (b)) : X (pc) (ls) (st) (h) (a + 1) (b + N) := u_new hX _ _ _ _ _ _ _ _ _ _ _ _ h1 h2 h3 h4 h5 h6 h7 k1
theorem xi_newi {r : MR} {OO : AO} {Q : AP} {X : AX} (hX : Rules r OO Q X) {pc : Nat} {ls : List (Option AV)} {st : List AV} {h : AH} {a b : Nat} {n : Int32} {N : Nat} (h1 : decode (rc r) pc = .ok (.newarray .int, 2)) (h2 : ¬ n < 0) (h3 : n.toNatClampNeg = N) (h4 : N ≤ 1000) (k1 : X (pc + 2) (ls) (ar h.length :: st) (h ++ [.inr (.inl (N, fun _ => 0))]) (a) (b)) : X (pc) (ls) (ai n :: st) (h) (a + 1) (b + N) := u_newi hX _ _ _ _ _ _ _ _ h1 h2 h3 h4 k1
theorem xi_newq {r : MR} {OO : AO} {Q : AP} {X : AX} (hX : Rules r OO Q X) {pc : Nat} {ls : List (Option AV)} {st : List AV} {h : AH} {a b : Nat} {i : Nat} {n : Int32} {N : Nat} (h1 : decode (rc r) pc = .ok (.anewarray i, 3)) (h2 : Cond.classLink (ro r) i RX8 ∈ Wl) (h3 : ¬ n < 0) (h4 : n.toNatClampNeg = N) (h5 : N ≤ 1000) (k1 : X (pc + 3) (ls) (ar h.length :: st) (h ++ [.inr (.inr (N, fun _ => none))]) (a) (b)) : X (pc) (ls) (ai n :: st) (h) (a + 1) (b + N) := u_newq hX _ _ _ _ _ _ _ _ _ h1 h2 h3 h4 h5 k1
theorem xi_obj {r : MR} {OO : AO} {Q : AP} {X : AX} (hX : Rules r OO Q X) {pc : Nat} {ls : List (Option AV)} {st : List AV} {h : AH} {a b : Nat} {i o : Nat} (h1 : decode (rc r) pc = .ok (.invokespecial i, 3)) (h2 : Cond.methodLink (ro r) i objectInit ∈ Wl) (h3 : st.length ≤ 8) (h4 : 1 ≤ rf r) (h5 : 20 ≤ rl r) (k1 : X (pc + 3) (ls) (st) (h) (a) (b)) : X (pc) (ls) (ar o :: st) (h) (a) (b) := u_obj hX _ _ _ _ _ _ _ _ h1 h2 h3 h4 h5 k1
theorem xi_ireturn {r : MR} {OO : AO} {Q : AP} {X : AX} (hX : Rules r OO Q X) {pc : Nat} {ls : List (Option AV)} {h : AH} {a b : Nat} {x : Int32} {ty : FieldType} (h1 : decode (rc r) pc = .ok (.ireturn, 1)) (h2 : rt r = some ty) (h3 : narrow ty (.int x) = .int x) (h4 : Q (some (ai x)) h) : X (pc) (ls) ([ai x]) (h) (a) (b) := u_ireturn hX _ _ _ _ _ _ _ h1 h2 h3 h4
theorem xi_areturn {r : MR} {OO : AO} {Q : AP} {X : AX} (hX : Rules r OO Q X) {pc : Nat} {ls : List (Option AV)} {h : AH} {a b : Nat} {x : Option Nat} {C : String} (h1 : decode (rc r) pc = .ok (.areturn, 1)) (h2 : rt r = some (.object C)) (h3 : Q (some (.inr x)) h) : X (pc) (ls) ([.inr x]) (h) (a) (b) := u_areturn hX _ _ _ _ _ _ _ h1 h2 h3
theorem xi_return {r : MR} {OO : AO} {Q : AP} {X : AX} (hX : Rules r OO Q X) {pc : Nat} {ls : List (Option AV)} {h : AH} {a b : Nat} (h1 : decode (rc r) pc = .ok (.return_, 1)) (h2 : rt r = none) (h3 : Q none h) : X (pc) (ls) ([]) (h) (a) (b) := u_return hX _ _ _ _ _ h1 h2 h3
theorem Rules_mono {r : MR} {O1 O2 : AO} {Q1 Q2 : AP} (hO : ∀ r as h a b Q, O1 r as h a b Q → O2 r as h a b Q) (hQ : ∀ w h, Q1 w h → Q2 w h) : Rules r O1 Q1 (WP r O2 Q2) := by
  refine ⟨?_, ?_, ?_, ?_, ?_, ?_, ?_, ?_, ?_, ?_, ?_, ?_, ?_, ?_, ?_, ?_, ?_, ?_, ?_, ?_, ?_, ?_, ?_, ?_, ?_, ?_, ?_, ?_, ?_, ?_, ?_, ?_, ?_, ?_, ?_, ?_, ?_, ?_, ?_, ?_, ?_, ?_, ?_, ?_, ?_, ?_, ?_, ?_, ?_, ?_, ?_, ?_, ?_, ?_, ?_, ?_, ?_, ?_, ?_, ?_, ?_, ?_⟩
  · intro _ _ _ _ _ _ _ _ h1 h2 k1
    exact i_iconst h1 h2 k1
  · intro _ _ _ _ _ _ _ _ h1 h2 k1
    exact i_bipush h1 h2 k1
  · intro _ _ _ _ _ _ _ _ h1 h2 k1
    exact i_sipush h1 h2 k1
  · intro _ _ _ _ _ _ _ _ h1 h2 k1
    exact i_ldc h1 h2 k1
  · intro _ _ _ _ _ _ h1 k1
    exact i_null h1 k1
  · intro _ _ _ _ _ _ _ _ _ h1 h2 h3 k1
    exact i_iload_n h1 h2 h3 k1
  · intro _ _ _ _ _ _ _ _ h1 h2 k1
    exact i_iload h1 h2 k1
  · intro _ _ _ _ _ _ _ _ _ h1 h2 h3 k1
    exact i_aload_n h1 h2 h3 k1
  · intro _ _ _ _ _ _ _ _ h1 h2 k1
    exact i_aload h1 h2 k1
  · intro _ _ _ _ _ _ _ _ _ h1 h2 h3 k1
    exact i_istore_n h1 h2 h3 k1
  · intro _ _ _ _ _ _ _ _ h1 h2 k1
    exact i_istore h1 h2 k1
  · intro _ _ _ _ _ _ _ _ _ h1 h2 h3 k1
    exact i_astore_n h1 h2 h3 k1
  · intro _ _ _ _ _ _ _ _ h1 h2 k1
    exact i_astore h1 h2 k1
  · intro _ _ _ _ _ _ _ _ _ h1 h2 k1
    exact i_iinc h1 h2 k1
  · intro _ _ _ _ _ _ _ _ h1 k1
    exact i_iadd h1 k1
  · intro _ _ _ _ _ _ _ _ h1 k1
    exact i_isub h1 k1
  · intro _ _ _ _ _ _ _ _ h1 k1
    exact i_imul h1 k1
  · intro _ _ _ _ _ _ _ _ h1 k1
    exact i_ior h1 k1
  · intro _ _ _ _ _ _ _ _ h1 k1
    exact i_iand h1 k1
  · intro _ _ _ _ _ _ _ _ h1 k1
    exact i_ixor h1 k1
  · intro _ _ _ _ _ _ _ _ h1 k1
    exact i_ishl h1 k1
  · intro _ _ _ _ _ _ _ _ h1 k1
    exact i_ishr h1 k1
  · intro _ _ _ _ _ _ _ _ h1 h2 k1
    exact i_idiv h1 h2 k1
  · intro _ _ _ _ _ _ _ _ h1 h2 k1
    exact i_irem h1 h2 k1
  · intro _ _ _ _ _ _ _ h1 k1
    exact i_dup h1 k1
  · intro _ _ _ _ _ _ _ _ h1 k1
    exact i_dup2 h1 k1
  · intro _ _ _ _ _ _ _ h1 k1
    exact i_pop h1 k1
  · intro _ _ _ _ _ _ _ _ h1 h2 k1
    exact i_goto h1 h2 k1
  · intro _ _ _ _ _ _ _ _ _ _ h1 h2 k1 k2
    exact i_icmp_eq h1 h2 k1 k2
  · intro _ _ _ _ _ _ _ _ _ h1 h2 k1 k2
    exact i_if_eq h1 h2 k1 k2
  · intro _ _ _ _ _ _ _ _ _ _ h1 h2 k1 k2
    exact i_icmp_ne h1 h2 k1 k2
  · intro _ _ _ _ _ _ _ _ _ h1 h2 k1 k2
    exact i_if_ne h1 h2 k1 k2
  · intro _ _ _ _ _ _ _ _ _ _ h1 h2 k1 k2
    exact i_icmp_lt h1 h2 k1 k2
  · intro _ _ _ _ _ _ _ _ _ h1 h2 k1 k2
    exact i_if_lt h1 h2 k1 k2
  · intro _ _ _ _ _ _ _ _ _ _ h1 h2 k1 k2
    exact i_icmp_ge h1 h2 k1 k2
  · intro _ _ _ _ _ _ _ _ _ h1 h2 k1 k2
    exact i_if_ge h1 h2 k1 k2
  · intro _ _ _ _ _ _ _ _ _ _ h1 h2 k1 k2
    exact i_icmp_gt h1 h2 k1 k2
  · intro _ _ _ _ _ _ _ _ _ h1 h2 k1 k2
    exact i_if_gt h1 h2 k1 k2
  · intro _ _ _ _ _ _ _ _ _ _ h1 h2 k1 k2
    exact i_icmp_le h1 h2 k1 k2
  · intro _ _ _ _ _ _ _ _ _ h1 h2 k1 k2
    exact i_if_le h1 h2 k1 k2
  · intro _ _ _ _ _ _ _ _ h1 k1
    exact i_ifnull h1 k1
  · intro _ _ _ _ _ _ _ _ _ _ _ _ _ _ h1 h2 h3 h4 h5 k1
    exact i_tabIn h1 h2 h3 h4 h5 k1
  · intro _ _ _ _ _ _ _ _ _ _ _ _ _ h1 h2 h3 k1
    exact i_tabOut h1 h2 h3 k1
  · intro _ _ _ _ _ _ _ _ _ _ _ _ h1 h2 h3 h4 k1
    exact i_look h1 h2 h3 h4 k1
  · intro _ _ _ _ _ _ _ _ _ _ _ _ h1 h2 h3 h4 k1
    exact i_getf h1 h2 h3 h4 k1
  · intro _ _ _ _ _ _ _ _ _ _ _ _ h1 h2 h3 h4 h5 h6 k1
    exact i_putf h1 h2 h3 h4 h5 h6 k1
  · intro _ _ _ _ _ _ _ _ _ _ h1 h2 h3 k1
    exact i_iald h1 h2 h3 k1
  · intro _ _ _ _ _ _ _ _ _ _ _ h1 h2 h3 k1
    exact i_iast h1 h2 h3 k1
  · intro _ _ _ _ _ _ _ _ _ h1 h2 k1
    exact i_alen h1 h2 k1
  · intro _ _ _ _ _ _ _ _ _ h1 h2 k1
    exact i_alenq h1 h2 k1
  · intro _ _ _ _ _ _ _ _ _ _ h1 h2 h3 k1
    exact i_aald h1 h2 h3 k1
  · intro _ _ _ _ _ _ _ _ _ _ _ _ h1 h2 h3 h4 k1
    exact i_aast h1 h2 h3 h4 k1
  · intro _ _ _ _ _ _ _ _ _ _ _ _ h1 h2 h3 h4 h5 h6 h7 k1
    exact i_new h1 h2 h3 h4 h5 h6 h7 k1
  · intro _ _ _ _ _ _ _ _ h1 h2 h3 h4 k1
    exact i_newi h1 h2 h3 h4 k1
  · intro _ _ _ _ _ _ _ _ _ h1 h2 h3 h4 h5 k1
    exact i_newq h1 h2 h3 h4 h5 k1
  · intro _ _ _ _ _ _ _ _ h1 h2 h3 h4 h5 k1
    exact i_obj h1 h2 h3 h4 h5 k1
  · intro _ _ _ _ _ _ _ h1 h2 h3 h4
    exact i_ireturn h1 h2 h3 (hQ _ _ h4)
  · intro _ _ _ _ _ _ _ h1 h2 h3
    exact i_areturn h1 h2 (hQ _ _ h3)
  · intro _ _ _ _ _ h1 h2 h3
    exact i_return h1 h2 (hQ _ _ h3)
  · intro _ _ _ _ _ _ _ _ _ _ _ _ _ _ _ h1 h2 h3 h4 h5 h6 h7 h8 h9 X hX
    exact u_callV hX _ _ _ _ _ _ _ _ _ _ _ _ _ _ _ h1 h2 h3 h4 h5 h6 h7 (hO _ _ _ _ _ _ h8) (fun w g q => h9 w g q X hX)
  · intro _ _ _ _ _ _ _ _ _ _ _ _ h1 h2 h3 h4 h5 h6 h7 X hX
    exact u_callS hX _ _ _ _ _ _ _ _ _ _ _ _ h1 h2 h3 h4 h5 (hO _ _ _ _ _ _ h6) (fun w g q => h7 w g q X hX)
  · intro _ _ _ _ _ _ _ _ _ _ _ _ _ h1 h2 h3 h4 h5 h6 h7 X hX
    exact u_callI hX _ _ _ _ _ _ _ _ _ _ _ _ _ h1 h2 h3 h4 h5 (hO _ _ _ _ _ _ h6) (fun w g q => h7 w g q X hX)
theorem WP.mono {r : MR} {O1 O2 : AO} {Q1 Q2 : AP} (hO : ∀ r as h a b Q, O1 r as h a b Q → O2 r as h a b Q) (hQ : ∀ w h, Q1 w h → Q2 w h) {pc : Nat} {ls : List (Option AV)} {st : List AV} {h : AH} {a b : Nat} (k : WP r O1 Q1 pc ls st h a b) : WP r O2 Q2 pc ls st h a b := k _ (Rules_mono hO hQ)
theorem Cd_succ : ∀ (d : Nat) (r : MR) (as : List AV) (h : AH) (a b : Nat) (Q : AP), Cd d r as h a b Q → Cd (d + 1) r as h a b Q
  | 0, _, _, _, _, _, _, k => k.elim
  | d + 1, _, _, _, _, _, _, k => WP.mono (Cd_succ d) (fun _ _ q => q) k
theorem Cd_le {d e : Nat} (hde : d ≤ e) : ∀ (r : MR) (as : List AV) (h : AH) (a b : Nat) (Q : AP), Cd d r as h a b Q → Cd e r as h a b Q := by
  induction hde with
  | refl => exact fun _ _ _ _ _ _ k => k
  | step _ ih => exact fun r as h a b Q k => Cd_succ _ r as h a b Q (ih r as h a b Q k)
theorem C.mono {r : MR} {as : List AV} {h : AH} {a b : Nat} {Q1 Q2 : AP} (k : C r as h a b Q1) (hQ : ∀ w h, Q1 w h → Q2 w h) : C r as h a b Q2 := WP.mono (fun _ _ _ _ _ _ q => q) hQ k
theorem i_callV {r : MR} {Q : AP} {pc : Nat} {ls : List (Option AV)} {st : List AV} {h : AH} {a b a1 b1 : Nat} {i : Nat} {r1 : MR} {As : List AV} {ci o : Nat} {fs : List AV} (h1 : decode (rc r) pc = .ok (.invokevirtual i, 3)) (h2 : Cond.methodLink (ro r) i (ry r1) ∈ Wl) (h3 : MV r1 As.length) (h4 : h[o]? = some (.inl (ci, fs))) (h5 : KC ci (ro r1)) (h6 : FIT r1 r) (h7 : st.length ≤ 8) (k : C r1 (ar o :: As) h a1 b1 (fun w h1 => WPr r Q (pc + 3) ls (w.toList ++ st) h1 a b)) : WPr r Q (pc) (ls) (As.reverse ++ ar o :: st) (h) (a1 + a) (b1 + b) := by
  intro X hX
  exact u_callV hX _ _ _ _ _ _ _ _ _ _ _ _ _ _ _ h1 h2 h3 h4 h5 h6 h7 (Cd_le (h6).1 _ _ _ _ _ _ k) (fun w h1 q => q X hX)
theorem i_callS {r : MR} {Q : AP} {pc : Nat} {ls : List (Option AV)} {st : List AV} {h : AH} {a b a1 b1 : Nat} {i : Nat} {r1 : MR} {As : List AV}  (h1 : decode (rc r) pc = .ok (.invokestatic i, 3)) (h2 : (Cond.methodLink (ro r) i (ry r1) ∈ Wl ∨ (ro r, i, ry r1) ∈ nestL)) (h3 : MS r1 As.length) (h4 : FIT r1 r) (h5 : st.length ≤ 8) (k : C r1 (As) h a1 b1 (fun w h1 => WPr r Q (pc + 3) ls (w.toList ++ st) h1 a b)) : WPr r Q (pc) (ls) (As.reverse ++ st) (h) (a1 + a) (b1 + b) := by
  intro X hX
  exact u_callS hX _ _ _ _ _ _ _ _ _ _ _ _ h1 h2 h3 h4 h5 (Cd_le (h4).1 _ _ _ _ _ _ k) (fun w h1 q => q X hX)
theorem i_callI {r : MR} {Q : AP} {pc : Nat} {ls : List (Option AV)} {st : List AV} {h : AH} {a b a1 b1 : Nat} {i : Nat} {r1 : MR} {As : List AV} {o : Nat} (h1 : decode (rc r) pc = .ok (.invokespecial i, 3)) (h2 : (Cond.methodLink (ro r) i (ry r1) ∈ Wl ∨ (ro r, i, ry r1) ∈ nestL)) (h3 : MI r1 As.length) (h4 : FIT r1 r) (h5 : st.length ≤ 8) (k : C r1 (ar o :: As) h a1 b1 (fun w h1 => WPr r Q (pc + 3) ls (w.toList ++ st) h1 a b)) : WPr r Q (pc) (ls) (As.reverse ++ ar o :: st) (h) (a1 + a) (b1 + b) := by
  intro X hX
  exact u_callI hX _ _ _ _ _ _ _ _ _ _ _ _ _ h1 h2 h3 h4 h5 (Cd_le (h4).1 _ _ _ _ _ _ k) (fun w h1 q => q X hX)
theorem xi_callV {r : MR} {Q : AP} {X : AX} (hX : Rules r (Cd (rf r)) Q X) {pc : Nat} {ls : List (Option AV)} {st : List AV} {h : AH} {a b a1 b1 : Nat} {i : Nat} {r1 : MR} {As : List AV} {ci o : Nat} {fs : List AV} (h1 : decode (rc r) pc = .ok (.invokevirtual i, 3)) (h2 : Cond.methodLink (ro r) i (ry r1) ∈ Wl) (h3 : MV r1 As.length) (h4 : h[o]? = some (.inl (ci, fs))) (h5 : KC ci (ro r1)) (h6 : FIT r1 r) (h7 : st.length ≤ 8) (k : C r1 (ar o :: As) h a1 b1 (fun w h1 => X (pc + 3) ls (w.toList ++ st) h1 a b)) : X (pc) (ls) (As.reverse ++ ar o :: st) (h) (a1 + a) (b1 + b) := u_callV hX _ _ _ _ _ _ _ _ _ _ _ _ _ _ _ h1 h2 h3 h4 h5 h6 h7 (Cd_le (h6).1 _ _ _ _ _ _ k) (fun w h1 q => q)
theorem xi_callS {r : MR} {Q : AP} {X : AX} (hX : Rules r (Cd (rf r)) Q X) {pc : Nat} {ls : List (Option AV)} {st : List AV} {h : AH} {a b a1 b1 : Nat} {i : Nat} {r1 : MR} {As : List AV}  (h1 : decode (rc r) pc = .ok (.invokestatic i, 3)) (h2 : (Cond.methodLink (ro r) i (ry r1) ∈ Wl ∨ (ro r, i, ry r1) ∈ nestL)) (h3 : MS r1 As.length) (h4 : FIT r1 r) (h5 : st.length ≤ 8) (k : C r1 (As) h a1 b1 (fun w h1 => X (pc + 3) ls (w.toList ++ st) h1 a b)) : X (pc) (ls) (As.reverse ++ st) (h) (a1 + a) (b1 + b) := u_callS hX _ _ _ _ _ _ _ _ _ _ _ _ h1 h2 h3 h4 h5 (Cd_le (h4).1 _ _ _ _ _ _ k) (fun w h1 q => q)
theorem xi_callI {r : MR} {Q : AP} {X : AX} (hX : Rules r (Cd (rf r)) Q X) {pc : Nat} {ls : List (Option AV)} {st : List AV} {h : AH} {a b a1 b1 : Nat} {i : Nat} {r1 : MR} {As : List AV} {o : Nat} (h1 : decode (rc r) pc = .ok (.invokespecial i, 3)) (h2 : (Cond.methodLink (ro r) i (ry r1) ∈ Wl ∨ (ro r, i, ry r1) ∈ nestL)) (h3 : MI r1 As.length) (h4 : FIT r1 r) (h5 : st.length ≤ 8) (k : C r1 (ar o :: As) h a1 b1 (fun w h1 => X (pc + 3) ls (w.toList ++ st) h1 a b)) : X (pc) (ls) (As.reverse ++ ar o :: st) (h) (a1 + a) (b1 + b) := u_callI hX _ _ _ _ _ _ _ _ _ _ _ _ _ h1 h2 h3 h4 h5 (Cd_le (h4).1 _ _ _ _ _ _ k) (fun w h1 q => q)
end
section
/-! EVERY RULE IS THE MACHINE'S -/
abbrev aG : Type := (Nat → ClassId) × (Nat → Nat → Nat) × ClassId × ClassId
def cE (b : Nat) (G : aG) : AC → va_E
  | .inl (ci, fs) => .inr (ci, fs.map (cv b))
  | .inr (.inl (n, f)) => .inl (G.2.2.1, n, .inl f)
  | .inr (.inr (n, f)) => .inl (G.2.2.2, n, .inr (.inr (.inr (.inr (fun j => (f j).map (fun k => b + k))))))
def wsOf (b : Nat) (G : aG) (h : AH) : va_W := h.mapIdx (fun k c => (b + k, cE b G c))
theorem wsOf_get {b : Nat} {G : aG} {h : AH} {k : Nat} {c : AC} (hk : h[k]? = some c) : (wsOf b G h)[k]? = some (b + k, cE b G c) := by
  simp [wsOf, List.getElem?_mapIdx, hk]
theorem wsOf_inv {b : Nat} {G : aG} {h : AH} {k : Nat} {q : Nat × va_E} (hk : (wsOf b G h)[k]? = some q) : k < h.length ∧ q.1 = b + k := by
  simp only [wsOf, List.getElem?_mapIdx, Option.map_eq_some_iff] at hk
  obtain ⟨c, hc, rfl⟩ := hk
  exact ⟨(List.getElem?_eq_some_iff.mp hc).1, rfl⟩
theorem wsOf_set {b : Nat} {G : aG} {h : AH} {k : Nat} {c : AC} : (wsOf b G h).set k (b + k, cE b G c) = wsOf b G (h.set k c) := by
  apply List.ext_getElem?
  intro i
  simp only [wsOf, List.getElem?_set, List.getElem?_mapIdx, List.length_mapIdx]
  by_cases hi : k = i
  · subst hi
    by_cases hl : k < h.length <;> simp [hl]
  · simp [hi]
theorem wsOf_push {b : Nat} {G : aG} {h : AH} {c : AC} : wsOf b G (h ++ [c]) = wsOf b G h ++ [(b + h.length, cE b G c)] := by
  simp [wsOf, List.mapIdx_append]
theorem wsOf_D {b : Nat} {G : aG} {h : AH} : va_D (fun q => b ≤ q) (wsOf b G h) := by
  refine ⟨fun i j p q hi hj hpq => ?_, fun k q hk => ?_⟩
  · have h1 := (wsOf_inv hi).2
    have h2 := (wsOf_inv hj).2
    omega
  · have := (wsOf_inv hk).2
    show b ≤ q.1
    omega
abbrev aD (G : aG) : va_G := (G.1, G.2.1)
def Wd (G : aG) (b : Nat) (h : AH) (H : Heap) : Prop := H.size = b + h.length ∧ va_P (aD G) vwCl (wsOf b G h) H
abbrev aT (G : aG) : List (ClassId × FieldType) := [(G.2.2.1, .int), (G.2.2.2, .object RX8)]
def KK (G : aG) (U : State) : Prop := va_K (aD G) vwCl (aT G) U ∧ va_AO RX8 U ∧ ∀ q ∈ nestL, va_Nw (nestW q) U
theorem KK.warm {G : aG} {s U : State} (hW : s.WarmedH U.vm) (h : KK G s) : KK G U := ⟨va_K.moved hW.alike h.1, va_AO.moved hW.alike h.2.1, fun q hq => va_Nw.warmM hW (h.2.2 q hq)⟩
theorem KK.calling {G : aG} {U : State} {g : JFrame} {mk : MethodId} {a : Array Value} (h : KK G U) : KK G (U.calling g mk a) :=
  ⟨va_K.moved (u := U) (U := U.calling g mk a) (Vm.Alike.refl U.vm) h.1, va_AO.moved (u := U) (U := U.calling g mk a) (Vm.Alike.refl U.vm) h.2.1, fun q hq => va_Nw.same (u := U) (U := U.calling g mk a) rfl rfl (h.2.2 q hq)⟩
/-- locals -/
def LH (E : Option Value) (b : Nat) (ls : List (Option AV)) (cls : Array Slot) (nL : Nat) : Prop := ls.length = nL ∧ cls.size = nL ∧ lv_wf cls ∧ (∀ (i : Nat) (v : AV), ls[i]? = some (some v) → cls[i]? = some (.val (cv b v))) ∧ ∀ w, E = some w → w.category = 1 ∧ (ls[0]? = some none → cls[0]? = some (.val w))
def asc (b : Nat) (ls : List (Option AV)) : List (Nat × Value) := (List.range ls.length).filterMap (fun i => match ls[i]? with | some (some v) => some (i, cv b v) | _ => none)
theorem asc_mem {b : Nat} {ls : List (Option AV)} {q : Nat × Value} : q ∈ asc b ls ↔ ∃ v, ls[q.1]? = some (some v) ∧ q.2 = cv b v := by
  obtain ⟨i, w⟩ := q
  simp only [asc, List.mem_filterMap, List.mem_range]
  constructor
  · rintro ⟨j, hj, h⟩
    revert h
    split
    · next v hv => intro h; cases h; exact ⟨v, hv, rfl⟩
    · intro h; cases h
  · rintro ⟨v, hv, rfl⟩
    exact ⟨i, (List.getElem?_eq_some_iff.mp hv).1, by rw [hv]⟩
/-- what is known of the locals: local 0's raw value too -/
def asE (E : Option Value) (b : Nat) (ls : List (Option AV)) : List (Nat × Value) := asc b ls ++ (match E with | some w => if ls[0]? = some none then [(0, w)] else [] | none => [])
theorem asE_mem {E : Option Value} {b : Nat} {ls : List (Option AV)} {q : Nat × Value} : q ∈ asE E b ls ↔ q ∈ asc b ls ∨ (ls[0]? = some none ∧ ∃ w, E = some w ∧ q = (0, w)) := by
  unfold asE
  rw [List.mem_append]
  cases E with
  | none => simp
  | some w =>
    by_cases h : ls[0]? = some none
    · simp [h]
    · simp [h]
theorem LH.has {E : Option Value} {b nL : Nat} {ls : List (Option AV)} {cls : Array Slot} (h : LH E b ls cls nL) : lv_has cls nL (asE E b ls) := by
  refine ⟨h.2.1, h.2.2.1, fun q hq => ?_⟩
  rcases asE_mem.mp hq with hq | ⟨h0, w, hw, rfl⟩
  · obtain ⟨v, hv, e⟩ := asc_mem.mp hq
    rw [e]
    exact h.2.2.2.1 _ _ hv
  · exact (h.2.2.2.2 w hw).2 h0
theorem LH.at {E : Option Value} {b nL i : Nat} {ls : List (Option AV)} {cls : Array Slot} {v : AV} (h : LH E b ls cls nL) (hi : ls[i]? = some (some v)) : cls[i]? = some (.val (cv b v)) := h.2.2.2.1 i v hi
theorem LH.set {E : Option Value} {b nL i : Nat} {ls : List (Option AV)} {cls cls' : Array Slot} {v : AV} (h : LH E b ls cls nL) (h' : lv_has cls' nL ((i, cv b v) :: (asE E b ls).filter (fun q => !(q.1 == i) && !(q.1 + 1 == i && q.2.category == 2)))) : LH E b (ls.set i (some v)) cls' nL := by
  refine ⟨by rw [List.length_set]; exact h.1, h'.1, h'.2.1, fun j u hj => ?_, fun w hw => ⟨(h.2.2.2.2 w hw).1, fun h0 => ?_⟩⟩
  · rw [List.getElem?_set] at hj
    by_cases hij : i = j
    · subst hij
      simp only [if_true] at hj
      split at hj
      · cases hj
        exact h'.2.2 _ List.mem_cons_self
      · cases hj
    · rw [if_neg hij] at hj
      refine h'.2.2 (j, cv b u) (List.mem_cons_of_mem _ (List.mem_filter.mpr ⟨asE_mem.mpr (Or.inl (asc_mem.mpr ⟨u, hj, rfl⟩)), ?_⟩))
      have hne : (j == i) = false := by simp; exact fun e => hij e.symm
      simp [hne, cv_cat]
  · rw [List.getElem?_set] at h0
    by_cases hij : i = 0
    · subst hij
      simp only [if_true] at h0
      split at h0 <;> cases h0
    · rw [if_neg hij] at h0
      refine h'.2.2 (0, w) (List.mem_cons_of_mem _ (List.mem_filter.mpr ⟨asE_mem.mpr (Or.inr ⟨h0, w, hw, rfl⟩), ?_⟩))
      have hne : ((0 : Nat) == i) = false := by simp; exact fun e => hij e.symm
      simp [hne, (h.2.2.2.2 w hw).1]
theorem lsOf_LH (b : Nat) (r : MR) (as : List AV) (hl : as.length ≤ rL r) : LH none b (lsOf r as) ((lg_sl (as.map (cv b)) ++ List.replicate (rL r - (lg_sl (as.map (cv b))).length) Slot.unset).toArray) (rL r) := by
  have e1 : ∀ as : List AV, lg_sl (as.map (cv b)) = as.map (fun v => Slot.val (cv b v)) := by
    intro as
    induction as with
    | nil => rfl
    | cons v vs ih =>
      show lg_sl (cv b v :: vs.map (cv b)) = _
      simp only [lg_sl, List.flatMap_cons, cv_cat] at ih ⊢
      simp [ih]
  have hen := lv_entry (as.map (cv b)) (n := rL r) (by rw [e1, List.length_map]; exact hl)
  refine ⟨?_, hen.1, hen.2.1, fun i v hi => ?_, fun w hw => by cases hw⟩
  · simp [lsOf]; omega
  · rw [e1]
    have hlt : i < as.length := by
      rcases Nat.lt_or_ge i as.length with q | q
      · exact q
      · rw [lsOf, List.getElem?_append_right (by simpa using q)] at hi
        simp only [List.length_map, List.getElem?_replicate] at hi
        split at hi <;> cases hi
    rw [lsOf, List.getElem?_append_left (by simpa using hlt)] at hi
    simp only [List.getElem?_map, Option.map_eq_some_iff] at hi
    obtain ⟨u, hu, e⟩ := hi
    cases e
    show (List.toArray _)[i]? = _
    rw [List.getElem?_toArray, List.getElem?_append_left (by simpa using hlt)]
    simp [hu]
theorem cls_all {P : String → u_T → Nat → Prop} (h0 : P RX0 TX0 4) (h1 : P RX1 TX1 5) (h2 : P RX2 TX2 3) (h3 : P RX3 TX3 6) (h4 : P RX4 TX4 8) (h5 : P RX5 TX5 4) (h6 : P RX6 TX6 9) (h7 : P RX7 TX7 1) (h8 : P RX8 TX8 6) (h9 : P RX9 TX9 7) : ∀ (ci : Nat) (C : String) (T : u_T) (N : Nat), vwCl[ci]? = some (C, T, N) → P C T N := by
  intro ci C T N h
  match ci, h with
  | 0, h => cases h; exact h0
  | 1, h => cases h; exact h1
  | 2, h => cases h; exact h2
  | 3, h => cases h; exact h3
  | 4, h => cases h; exact h4
  | 5, h => cases h; exact h5
  | 6, h => cases h; exact h6
  | 7, h => cases h; exact h7
  | 8, h => cases h; exact h8
  | 9, h => cases h; exact h9
  | k + 10, h => simp [vwCl] at h
theorem wlX0 : ∀ w ∈ u_ws RX0 TX0 4, w ∈ Wl := fun w h => Wl_in ((show ∀ w ∈ u_ws RX0 TX0 4, w ∈ lw_tbl by decide +kernel) w h) (List.all_eq_true.mp (show (u_ws RX0 TX0 4).all goodWord = true by decide +kernel) w h)
theorem wlX1 : ∀ w ∈ u_ws RX1 TX1 5, w ∈ Wl := fun w h => Wl_in ((show ∀ w ∈ u_ws RX1 TX1 5, w ∈ lw_tbl by decide +kernel) w h) (List.all_eq_true.mp (show (u_ws RX1 TX1 5).all goodWord = true by decide +kernel) w h)
theorem wlX2 : ∀ w ∈ u_ws RX2 TX2 3, w ∈ Wl := fun w h => Wl_in ((show ∀ w ∈ u_ws RX2 TX2 3, w ∈ lw_tbl by decide +kernel) w h) (List.all_eq_true.mp (show (u_ws RX2 TX2 3).all goodWord = true by decide +kernel) w h)
theorem wlX3 : ∀ w ∈ u_ws RX3 TX3 6, w ∈ Wl := fun w h => Wl_in ((show ∀ w ∈ u_ws RX3 TX3 6, w ∈ lw_tbl by decide +kernel) w h) (List.all_eq_true.mp (show (u_ws RX3 TX3 6).all goodWord = true by decide +kernel) w h)
theorem wlX4 : ∀ w ∈ u_ws RX4 TX4 8, w ∈ Wl := fun w h => Wl_in ((show ∀ w ∈ u_ws RX4 TX4 8, w ∈ lw_tbl by decide +kernel) w h) (List.all_eq_true.mp (show (u_ws RX4 TX4 8).all goodWord = true by decide +kernel) w h)
theorem wlX5 : ∀ w ∈ u_ws RX5 TX5 4, w ∈ Wl := fun w h => Wl_in ((show ∀ w ∈ u_ws RX5 TX5 4, w ∈ lw_tbl by decide +kernel) w h) (List.all_eq_true.mp (show (u_ws RX5 TX5 4).all goodWord = true by decide +kernel) w h)
theorem wlX6 : ∀ w ∈ u_ws RX6 TX6 9, w ∈ Wl := fun w h => Wl_in ((show ∀ w ∈ u_ws RX6 TX6 9, w ∈ lw_tbl by decide +kernel) w h) (List.all_eq_true.mp (show (u_ws RX6 TX6 9).all goodWord = true by decide +kernel) w h)
theorem wlX7 : ∀ w ∈ u_ws RX7 TX7 1, w ∈ Wl := fun w h => Wl_in ((show ∀ w ∈ u_ws RX7 TX7 1, w ∈ lw_tbl by decide +kernel) w h) (List.all_eq_true.mp (show (u_ws RX7 TX7 1).all goodWord = true by decide +kernel) w h)
theorem wlX8 : ∀ w ∈ u_ws RX8 TX8 6, w ∈ Wl := fun w h => Wl_in ((show ∀ w ∈ u_ws RX8 TX8 6, w ∈ lw_tbl by decide +kernel) w h) (List.all_eq_true.mp (show (u_ws RX8 TX8 6).all goodWord = true by decide +kernel) w h)
theorem wlX9 : ∀ w ∈ u_ws RX9 TX9 7, w ∈ Wl := fun w h => Wl_in ((show ∀ w ∈ u_ws RX9 TX9 7, w ∈ lw_tbl by decide +kernel) w h) (List.all_eq_true.mp (show (u_ws RX9 TX9 7).all goodWord = true by decide +kernel) w h)
theorem arrI : Cond.arrayClass .int ∈ Wl := Wl_in (by decide +kernel) (by decide +kernel)
theorem objI : Cond.instanceMethod objectInit ∈ Wl := Wl_in (by decide +kernel) (by decide +kernel)
theorem objC : Cond.code objectInit ⟨#[0xb1]⟩ 1 none ∈ Wl := Wl_in (by decide +kernel) (by decide +kernel)
theorem lv_room0 {m : MethodId} {pc : Nat} {ls : Array Slot} {st : List Value} {n : Nat} (h : n ≤ 8) : 2 * (F0 m pc ls st).monitorRoom + n ≤ 8 := by
  have e : (F0 m pc ls st).monitorRoom = 0 := rfl
  rw [e]
  omega
theorem cls_in : ∀ (ci : Nat) (C : String) (T : u_T) (N : Nat), vwCl[ci]? = some (C, T, N) → ∀ w ∈ u_ws C T N, w ∈ Wl :=
  cls_all (P := fun C T N => ∀ w ∈ u_ws C T N, w ∈ Wl) wlX0 wlX1 wlX2 wlX3 wlX4 wlX5 wlX6 wlX7 wlX8 wlX9
theorem cls_ty : ∀ (ci : Nat) (C : String) (T : u_T) (N : Nat), vwCl[ci]? = some (C, T, N) → ∃ ty : Nat → FieldType, (∀ k, k < N → parseFieldDescriptor (T k).2.2.1 = some (ty k)) ∧ ∀ a, a < N → ∀ b, b < N → a ≠ b → (T a).2.1 ≠ (T b).2.1 :=
  cls_all (P := fun C T N => ∃ ty : Nat → FieldType, (∀ k, k < N → parseFieldDescriptor (T k).2.2.1 = some (ty k)) ∧ ∀ a, a < N → ∀ b, b < N → a ≠ b → (T a).2.1 ≠ (T b).2.1) ⟨tyX0, tyX0_ok, nmX0⟩ ⟨tyX1, tyX1_ok, nmX1⟩ ⟨tyX2, tyX2_ok, nmX2⟩ ⟨tyX3, tyX3_ok, nmX3⟩ ⟨tyX4, tyX4_ok, nmX4⟩ ⟨tyX5, tyX5_ok, nmX5⟩ ⟨tyX6, tyX6_ok, nmX6⟩ ⟨tyX7, tyX7_ok, nmX7⟩ ⟨tyX8, tyX8_ok, nmX8⟩ ⟨tyX9, tyX9_ok, nmX9⟩
section SIM
variable {p : Program} {l : Launch} {e : Env} {s : State} {m : MethodId} {args : Array Value} {below : List Frame} {meth : Method} {c : Code} {r : MR} {OO : AO} {Q : AP} {G : aG} {bs mc ms : Nat} {E : Option Value} {Qf : State → Prop}
abbrev wm (r : MR) : List Cond := .code (ry r) (rc r) (rL r) (rt r) :: Wl
abbrev rmOf (r : MR) (mc ms : Nat) : Room := { frames := rf r, cells := mc, slots := ms, locals := rl r }
def QcA (G : aG) (b : Nat) (Q : AP) : Array Value → State → Outcome → State → Prop := fun _ st o t => (∃ (w : Option AV) (h : AH), o = .returned (w.map (cv b)) ∧ Q w h ∧ Wd G b h t.heap) ∧ va_F (fun q => b ≤ q) st t
def PcA (G : aG) (b : Nat) (as : List AV) (h : AH) : Array Value → State → Prop := fun v U => v = (as.map (cv b)).toArray ∧ Wd G b h U.heap ∧ KK G U
def Ctx (p : Program) (s : State) (m : MethodId) (args : Array Value) (meth : Method) (c : Code) (r : MR) (G : aG) : Prop :=
  p.tables.exec = Jvm.exec ∧ c.code = rc r ∧ meth.sig.returnType = rt r ∧ c.maxLocals = rL r ∧ s.vm.findClass (ro r) = some m.cls ∧ (∀ w ∈ Wl, w.before args s = true) ∧ meth.locks = false ∧ ((ry r).name = "<init>" → meth.name = (ry r).name) ∧ KK G s
def SX (p : Program) (l : Launch) (e : Env) (s : State) (m : MethodId) (args : Array Value) (below : List Frame) (meth : Method) (c : Code) (r : MR) (G : aG) (bs mc ms : Nat) (E : Option Value) (Qf : State → Prop) : AX := fun pc ls st h a b =>
  ∀ (H : Heap) (locs : List Loc) (cells slots : Nat) (cls : Array Slot), Wd G bs h H → va_S (fun q => bs ≤ q) s.heap H locs → LH E bs ls cls (rL r) → cells + a ≤ mc → slots + b ≤ ms →
    W p l e (rmOf r mc ms) s m args below meth c H locs cells slots Qf (F0 m pc cls (st.map (cv bs)))
variable (K : Ctx p s m args meth c r G)
theorem s_iconst (K : Ctx p s m args meth c r G) : R_iconst r (SX p l e s m args below meth c r G bs mc ms E Qf) := by
  obtain ⟨hx, hb, hr, hml, hown, hts, hlocks, hnm, hK⟩ := K
  intro pc ls st h a b n v d1 d2 k H locs cells slots cls hW hS hl ha hbb
  exact lv_iconst hx hb d1 d2 (k H locs cells slots cls hW hS hl ha hbb)
theorem s_bipush (K : Ctx p s m args meth c r G) : R_bipush r (SX p l e s m args below meth c r G bs mc ms E Qf) := by
  obtain ⟨hx, hb, hr, hml, hown, hts, hlocks, hnm, hK⟩ := K
  intro pc ls st h a b n v d1 d2 k H locs cells slots cls hW hS hl ha hbb
  exact lv_bipush hx hb d1 d2 (k H locs cells slots cls hW hS hl ha hbb)
theorem s_sipush (K : Ctx p s m args meth c r G) : R_sipush r (SX p l e s m args below meth c r G bs mc ms E Qf) := by
  obtain ⟨hx, hb, hr, hml, hown, hts, hlocks, hnm, hK⟩ := K
  intro pc ls st h a b n v d1 d2 k H locs cells slots cls hW hS hl ha hbb
  exact lv_sipush hx hb d1 d2 (k H locs cells slots cls hW hS hl ha hbb)
theorem s_ldc (K : Ctx p s m args meth c r G) : R_ldc r (SX p l e s m args below meth c r G bs mc ms E Qf) := by
  obtain ⟨hx, hb, hr, hml, hown, hts, hlocks, hnm, hK⟩ := K
  intro pc ls st h a b i v d1 d2 k H locs cells slots cls hW hS hl ha hbb
  exact lv_ldc hx hb hown (hts _ d2) d1 (k H locs cells slots cls hW hS hl ha hbb)
theorem s_null (K : Ctx p s m args meth c r G) : R_null r (SX p l e s m args below meth c r G bs mc ms E Qf) := by
  obtain ⟨hx, hb, hr, hml, hown, hts, hlocks, hnm, hK⟩ := K
  intro pc ls st h a b  d1 k H locs cells slots cls hW hS hl ha hbb
  exact lv_null hx hb d1 (k H locs cells slots cls hW hS hl ha hbb)
theorem s_iload_n (K : Ctx p s m args meth c r G) : R_iload_n r (SX p l e s m args below meth c r G bs mc ms E Qf) := by
  obtain ⟨hx, hb, hr, hml, hown, hts, hlocks, hnm, hK⟩ := K
  intro pc ls st h a b kk i x d1 d2 d3 k H locs cells slots cls hW hS hl ha hbb
  exact lv_iload_n hx hb d1 d2 (hl.at d3) (k H locs cells slots cls hW hS hl ha hbb)
theorem s_iload (K : Ctx p s m args meth c r G) : R_iload r (SX p l e s m args below meth c r G bs mc ms E Qf) := by
  obtain ⟨hx, hb, hr, hml, hown, hts, hlocks, hnm, hK⟩ := K
  intro pc ls st h a b i x d1 d2 k H locs cells slots cls hW hS hl ha hbb
  exact lv_iload hx hb d1 (hl.at d2) (k H locs cells slots cls hW hS hl ha hbb)
theorem s_aload_n (K : Ctx p s m args meth c r G) : R_aload_n r (SX p l e s m args below meth c r G bs mc ms E Qf) := by
  obtain ⟨hx, hb, hr, hml, hown, hts, hlocks, hnm, hK⟩ := K
  intro pc ls st h a b kk i x d1 d2 d3 k H locs cells slots cls hW hS hl ha hbb
  exact lv_aload_n hx hb d1 d2 (hl.at d3) (k H locs cells slots cls hW hS hl ha hbb)
theorem s_aload (K : Ctx p s m args meth c r G) : R_aload r (SX p l e s m args below meth c r G bs mc ms E Qf) := by
  obtain ⟨hx, hb, hr, hml, hown, hts, hlocks, hnm, hK⟩ := K
  intro pc ls st h a b i x d1 d2 k H locs cells slots cls hW hS hl ha hbb
  exact lv_aload hx hb d1 (hl.at d2) (k H locs cells slots cls hW hS hl ha hbb)
theorem s_istore_n (K : Ctx p s m args meth c r G) : R_istore_n r (SX p l e s m args below meth c r G bs mc ms E Qf) := by
  obtain ⟨hx, hb, hr, hml, hown, hts, hlocks, hnm, hK⟩ := K
  intro pc ls st h a b kk i x d1 d2 d3 k H locs cells slots cls hW hS hl ha hbb
  exact lv_istore_n hx hb d1 d2 hl.has (hl.1 ▸ d3) rfl (fun ls2 hl2 => k H locs cells slots ls2 hW hS (hl.set hl2) ha hbb)
theorem s_istore (K : Ctx p s m args meth c r G) : R_istore r (SX p l e s m args below meth c r G bs mc ms E Qf) := by
  obtain ⟨hx, hb, hr, hml, hown, hts, hlocks, hnm, hK⟩ := K
  intro pc ls st h a b i x d1 d3 k H locs cells slots cls hW hS hl ha hbb
  exact lv_istore hx hb d1 hl.has (hl.1 ▸ d3) rfl (fun ls2 hl2 => k H locs cells slots ls2 hW hS (hl.set hl2) ha hbb)
theorem s_astore_n (K : Ctx p s m args meth c r G) : R_astore_n r (SX p l e s m args below meth c r G bs mc ms E Qf) := by
  obtain ⟨hx, hb, hr, hml, hown, hts, hlocks, hnm, hK⟩ := K
  intro pc ls st h a b kk i x d1 d2 d3 k H locs cells slots cls hW hS hl ha hbb
  exact lv_astore_n hx hb d1 d2 hl.has (hl.1 ▸ d3) rfl (fun ls2 hl2 => k H locs cells slots ls2 hW hS (hl.set hl2) ha hbb)
theorem s_astore (K : Ctx p s m args meth c r G) : R_astore r (SX p l e s m args below meth c r G bs mc ms E Qf) := by
  obtain ⟨hx, hb, hr, hml, hown, hts, hlocks, hnm, hK⟩ := K
  intro pc ls st h a b i x d1 d3 k H locs cells slots cls hW hS hl ha hbb
  exact lv_astore hx hb d1 hl.has (hl.1 ▸ d3) rfl (fun ls2 hl2 => k H locs cells slots ls2 hW hS (hl.set hl2) ha hbb)
theorem s_iinc (K : Ctx p s m args meth c r G) : R_iinc r (SX p l e s m args below meth c r G bs mc ms E Qf) := by
  obtain ⟨hx, hb, hr, hml, hown, hts, hlocks, hnm, hK⟩ := K
  intro pc ls st h a b i n x d1 d2 k H locs cells slots cls hW hS hl ha hbb
  have hm : (i, Value.int x) ∈ asE E bs ls := asE_mem.mpr (Or.inl (asc_mem.mpr ⟨_, d2, rfl⟩))
  obtain ⟨j, hj⟩ := List.getElem?_of_mem hm
  exact lv_iinc (k := j) hx hb d1 hl.has hj rfl (hl.1 ▸ (List.getElem?_eq_some_iff.mp d2).1) rfl (fun ls2 hl2 => k H locs cells slots ls2 hW hS (hl.set hl2) ha hbb)
theorem s_iadd (K : Ctx p s m args meth c r G) : R_iadd r (SX p l e s m args below meth c r G bs mc ms E Qf) := by
  obtain ⟨hx, hb, hr, hml, hown, hts, hlocks, hnm, hK⟩ := K
  intro pc ls st h a b x y d1 k H locs cells slots cls hW hS hl ha hbb
  exact lv_iadd hx hb d1 (k H locs cells slots cls hW hS hl ha hbb)
theorem s_isub (K : Ctx p s m args meth c r G) : R_isub r (SX p l e s m args below meth c r G bs mc ms E Qf) := by
  obtain ⟨hx, hb, hr, hml, hown, hts, hlocks, hnm, hK⟩ := K
  intro pc ls st h a b x y d1 k H locs cells slots cls hW hS hl ha hbb
  exact lv_isub hx hb d1 (k H locs cells slots cls hW hS hl ha hbb)
theorem s_imul (K : Ctx p s m args meth c r G) : R_imul r (SX p l e s m args below meth c r G bs mc ms E Qf) := by
  obtain ⟨hx, hb, hr, hml, hown, hts, hlocks, hnm, hK⟩ := K
  intro pc ls st h a b x y d1 k H locs cells slots cls hW hS hl ha hbb
  exact lv_imul hx hb d1 (k H locs cells slots cls hW hS hl ha hbb)
theorem s_ior (K : Ctx p s m args meth c r G) : R_ior r (SX p l e s m args below meth c r G bs mc ms E Qf) := by
  obtain ⟨hx, hb, hr, hml, hown, hts, hlocks, hnm, hK⟩ := K
  intro pc ls st h a b x y d1 k H locs cells slots cls hW hS hl ha hbb
  exact lv_ior hx hb d1 (k H locs cells slots cls hW hS hl ha hbb)
theorem s_iand (K : Ctx p s m args meth c r G) : R_iand r (SX p l e s m args below meth c r G bs mc ms E Qf) := by
  obtain ⟨hx, hb, hr, hml, hown, hts, hlocks, hnm, hK⟩ := K
  intro pc ls st h a b x y d1 k H locs cells slots cls hW hS hl ha hbb
  exact lv_iand hx hb d1 (k H locs cells slots cls hW hS hl ha hbb)
theorem s_ixor (K : Ctx p s m args meth c r G) : R_ixor r (SX p l e s m args below meth c r G bs mc ms E Qf) := by
  obtain ⟨hx, hb, hr, hml, hown, hts, hlocks, hnm, hK⟩ := K
  intro pc ls st h a b x y d1 k H locs cells slots cls hW hS hl ha hbb
  exact lv_ixor hx hb d1 (k H locs cells slots cls hW hS hl ha hbb)
theorem s_ishl (K : Ctx p s m args meth c r G) : R_ishl r (SX p l e s m args below meth c r G bs mc ms E Qf) := by
  obtain ⟨hx, hb, hr, hml, hown, hts, hlocks, hnm, hK⟩ := K
  intro pc ls st h a b x y d1 k H locs cells slots cls hW hS hl ha hbb
  exact lv_ishl hx hb d1 (k H locs cells slots cls hW hS hl ha hbb)
theorem s_ishr (K : Ctx p s m args meth c r G) : R_ishr r (SX p l e s m args below meth c r G bs mc ms E Qf) := by
  obtain ⟨hx, hb, hr, hml, hown, hts, hlocks, hnm, hK⟩ := K
  intro pc ls st h a b x y d1 k H locs cells slots cls hW hS hl ha hbb
  exact lv_ishr hx hb d1 (k H locs cells slots cls hW hS hl ha hbb)
theorem s_idiv (K : Ctx p s m args meth c r G) : R_idiv r (SX p l e s m args below meth c r G bs mc ms E Qf) := by
  obtain ⟨hx, hb, hr, hml, hown, hts, hlocks, hnm, hK⟩ := K
  intro pc ls st h a b x y d1 d2 k H locs cells slots cls hW hS hl ha hbb
  exact lv_idiv hx hb d1 d2 (k H locs cells slots cls hW hS hl ha hbb)
theorem s_irem (K : Ctx p s m args meth c r G) : R_irem r (SX p l e s m args below meth c r G bs mc ms E Qf) := by
  obtain ⟨hx, hb, hr, hml, hown, hts, hlocks, hnm, hK⟩ := K
  intro pc ls st h a b x y d1 d2 k H locs cells slots cls hW hS hl ha hbb
  exact lv_irem hx hb d1 d2 (k H locs cells slots cls hW hS hl ha hbb)
theorem s_dup (K : Ctx p s m args meth c r G) : R_dup r (SX p l e s m args below meth c r G bs mc ms E Qf) := by
  obtain ⟨hx, hb, hr, hml, hown, hts, hlocks, hnm, hK⟩ := K
  intro pc ls st h a b v d1 k H locs cells slots cls hW hS hl ha hbb
  exact lv_dup hx hb d1 (cv_cat _ _) (k H locs cells slots cls hW hS hl ha hbb)
theorem s_dup2 (K : Ctx p s m args meth c r G) : R_dup2 r (SX p l e s m args below meth c r G bs mc ms E Qf) := by
  obtain ⟨hx, hb, hr, hml, hown, hts, hlocks, hnm, hK⟩ := K
  intro pc ls st h a b v u d1 k H locs cells slots cls hW hS hl ha hbb
  exact lv_dup2_11 hx hb d1 (cv_cat _ _) (cv_cat _ _) (k H locs cells slots cls hW hS hl ha hbb)
theorem s_pop (K : Ctx p s m args meth c r G) : R_pop r (SX p l e s m args below meth c r G bs mc ms E Qf) := by
  obtain ⟨hx, hb, hr, hml, hown, hts, hlocks, hnm, hK⟩ := K
  intro pc ls st h a b v d1 k H locs cells slots cls hW hS hl ha hbb
  exact lv_pop hx hb d1 (cv_cat _ _) (k H locs cells slots cls hW hS hl ha hbb)
theorem s_goto (K : Ctx p s m args meth c r G) : R_goto r (SX p l e s m args below meth c r G bs mc ms E Qf) := by
  obtain ⟨hx, hb, hr, hml, hown, hts, hlocks, hnm, hK⟩ := K
  intro pc ls st h a b off tgt d1 d2 k H locs cells slots cls hW hS hl ha hbb
  exact lv_goto hx hb d1 d2 (k H locs cells slots cls hW hS hl ha hbb)
theorem s_icmp_eq (K : Ctx p s m args meth c r G) : R_icmp_eq r (SX p l e s m args below meth c r G bs mc ms E Qf) := by
  obtain ⟨hx, hb, hr, hml, hown, hts, hlocks, hnm, hK⟩ := K
  intro pc ls st h a b x y off tgt d1 d2 k1 k2 H locs cells slots cls hW hS hl ha hbb
  exact lv_icmp_eq hx hb d1 d2 (fun q => k1 q H locs cells slots cls hW hS hl ha hbb) (fun q => k2 q H locs cells slots cls hW hS hl ha hbb)
theorem s_if_eq (K : Ctx p s m args meth c r G) : R_if_eq r (SX p l e s m args below meth c r G bs mc ms E Qf) := by
  obtain ⟨hx, hb, hr, hml, hown, hts, hlocks, hnm, hK⟩ := K
  intro pc ls st h a b x off tgt d1 d2 k1 k2 H locs cells slots cls hW hS hl ha hbb
  exact lv_if_eq hx hb d1 d2 (fun q => k1 q H locs cells slots cls hW hS hl ha hbb) (fun q => k2 q H locs cells slots cls hW hS hl ha hbb)
theorem s_icmp_ne (K : Ctx p s m args meth c r G) : R_icmp_ne r (SX p l e s m args below meth c r G bs mc ms E Qf) := by
  obtain ⟨hx, hb, hr, hml, hown, hts, hlocks, hnm, hK⟩ := K
  intro pc ls st h a b x y off tgt d1 d2 k1 k2 H locs cells slots cls hW hS hl ha hbb
  exact lv_icmp_ne hx hb d1 d2 (fun q => k1 q H locs cells slots cls hW hS hl ha hbb) (fun q => k2 q H locs cells slots cls hW hS hl ha hbb)
theorem s_if_ne (K : Ctx p s m args meth c r G) : R_if_ne r (SX p l e s m args below meth c r G bs mc ms E Qf) := by
  obtain ⟨hx, hb, hr, hml, hown, hts, hlocks, hnm, hK⟩ := K
  intro pc ls st h a b x off tgt d1 d2 k1 k2 H locs cells slots cls hW hS hl ha hbb
  exact lv_if_ne hx hb d1 d2 (fun q => k1 q H locs cells slots cls hW hS hl ha hbb) (fun q => k2 q H locs cells slots cls hW hS hl ha hbb)
theorem s_icmp_lt (K : Ctx p s m args meth c r G) : R_icmp_lt r (SX p l e s m args below meth c r G bs mc ms E Qf) := by
  obtain ⟨hx, hb, hr, hml, hown, hts, hlocks, hnm, hK⟩ := K
  intro pc ls st h a b x y off tgt d1 d2 k1 k2 H locs cells slots cls hW hS hl ha hbb
  exact lv_icmp_lt hx hb d1 d2 (fun q => k1 q H locs cells slots cls hW hS hl ha hbb) (fun q => k2 q H locs cells slots cls hW hS hl ha hbb)
theorem s_if_lt (K : Ctx p s m args meth c r G) : R_if_lt r (SX p l e s m args below meth c r G bs mc ms E Qf) := by
  obtain ⟨hx, hb, hr, hml, hown, hts, hlocks, hnm, hK⟩ := K
  intro pc ls st h a b x off tgt d1 d2 k1 k2 H locs cells slots cls hW hS hl ha hbb
  exact lv_if_lt hx hb d1 d2 (fun q => k1 q H locs cells slots cls hW hS hl ha hbb) (fun q => k2 q H locs cells slots cls hW hS hl ha hbb)
theorem s_icmp_ge (K : Ctx p s m args meth c r G) : R_icmp_ge r (SX p l e s m args below meth c r G bs mc ms E Qf) := by
  obtain ⟨hx, hb, hr, hml, hown, hts, hlocks, hnm, hK⟩ := K
  intro pc ls st h a b x y off tgt d1 d2 k1 k2 H locs cells slots cls hW hS hl ha hbb
  exact lv_icmp_ge hx hb d1 d2 (fun q => k1 q H locs cells slots cls hW hS hl ha hbb) (fun q => k2 q H locs cells slots cls hW hS hl ha hbb)
theorem s_if_ge (K : Ctx p s m args meth c r G) : R_if_ge r (SX p l e s m args below meth c r G bs mc ms E Qf) := by
  obtain ⟨hx, hb, hr, hml, hown, hts, hlocks, hnm, hK⟩ := K
  intro pc ls st h a b x off tgt d1 d2 k1 k2 H locs cells slots cls hW hS hl ha hbb
  exact lv_if_ge hx hb d1 d2 (fun q => k1 q H locs cells slots cls hW hS hl ha hbb) (fun q => k2 q H locs cells slots cls hW hS hl ha hbb)
theorem s_icmp_gt (K : Ctx p s m args meth c r G) : R_icmp_gt r (SX p l e s m args below meth c r G bs mc ms E Qf) := by
  obtain ⟨hx, hb, hr, hml, hown, hts, hlocks, hnm, hK⟩ := K
  intro pc ls st h a b x y off tgt d1 d2 k1 k2 H locs cells slots cls hW hS hl ha hbb
  exact lv_icmp_gt hx hb d1 d2 (fun q => k1 q H locs cells slots cls hW hS hl ha hbb) (fun q => k2 q H locs cells slots cls hW hS hl ha hbb)
theorem s_if_gt (K : Ctx p s m args meth c r G) : R_if_gt r (SX p l e s m args below meth c r G bs mc ms E Qf) := by
  obtain ⟨hx, hb, hr, hml, hown, hts, hlocks, hnm, hK⟩ := K
  intro pc ls st h a b x off tgt d1 d2 k1 k2 H locs cells slots cls hW hS hl ha hbb
  exact lv_if_gt hx hb d1 d2 (fun q => k1 q H locs cells slots cls hW hS hl ha hbb) (fun q => k2 q H locs cells slots cls hW hS hl ha hbb)
theorem s_icmp_le (K : Ctx p s m args meth c r G) : R_icmp_le r (SX p l e s m args below meth c r G bs mc ms E Qf) := by
  obtain ⟨hx, hb, hr, hml, hown, hts, hlocks, hnm, hK⟩ := K
  intro pc ls st h a b x y off tgt d1 d2 k1 k2 H locs cells slots cls hW hS hl ha hbb
  exact lv_icmp_le hx hb d1 d2 (fun q => k1 q H locs cells slots cls hW hS hl ha hbb) (fun q => k2 q H locs cells slots cls hW hS hl ha hbb)
theorem s_if_le (K : Ctx p s m args meth c r G) : R_if_le r (SX p l e s m args below meth c r G bs mc ms E Qf) := by
  obtain ⟨hx, hb, hr, hml, hown, hts, hlocks, hnm, hK⟩ := K
  intro pc ls st h a b x off tgt d1 d2 k1 k2 H locs cells slots cls hW hS hl ha hbb
  exact lv_if_le hx hb d1 d2 (fun q => k1 q H locs cells slots cls hW hS hl ha hbb) (fun q => k2 q H locs cells slots cls hW hS hl ha hbb)
theorem s_ifnull (K : Ctx p s m args meth c r G) : R_ifnull r (SX p l e s m args below meth c r G bs mc ms E Qf) := by
  obtain ⟨hx, hb, hr, hml, hown, hts, hlocks, hnm, hK⟩ := K
  intro pc ls st h a b x off d1 k H locs cells slots cls hW hS hl ha hbb
  exact lv_ifnull hx hb d1 (k H locs cells slots cls hW hS hl ha hbb)
theorem s_tabIn (K : Ctx p s m args meth c r G) : R_tabIn r (SX p l e s m args below meth c r G bs mc ms E Qf) := by
  obtain ⟨hx, hb, hr, hml, hown, hts, hlocks, hnm, hK⟩ := K
  intro pc ls st h a b dflt lo hi offs len x off tgt d1 d2 d3 d4 d5 k H locs cells slots cls hW hS hl ha hbb
  exact lv_tableIn hx hb d1 d2 d3 d4 d5 (k H locs cells slots cls hW hS hl ha hbb)
theorem s_tabOut (K : Ctx p s m args meth c r G) : R_tabOut r (SX p l e s m args below meth c r G bs mc ms E Qf) := by
  obtain ⟨hx, hb, hr, hml, hown, hts, hlocks, hnm, hK⟩ := K
  intro pc ls st h a b dflt lo hi offs len x tgt d1 d2 d3 k H locs cells slots cls hW hS hl ha hbb
  exact lv_tableOut hx hb d1 d2 d3 (k H locs cells slots cls hW hS hl ha hbb)
theorem s_look (K : Ctx p s m args meth c r G) : R_look r (SX p l e s m args below meth c r G bs mc ms E Qf) := by
  obtain ⟨hx, hb, hr, hml, hown, hts, hlocks, hnm, hK⟩ := K
  intro pc ls st h a b dflt ps len x off tgt d1 d2 d3 d4 k H locs cells slots cls hW hS hl ha hbb
  exact lv_lookup hx hb d1 d2 d3 d4 (k H locs cells slots cls hW hS hl ha hbb)
theorem s_getf (K : Ctx p s m args meth c r G) : R_getf r (SX p l e s m args below meth c r G bs mc ms E Qf) := by
  obtain ⟨hx, hb, hr, hml, hown, hts, hlocks, hnm, hK⟩ := K
  intro pc ls st h a b i ci k o fs v d1 d2 d3 d4 kk H locs cells slots cls hW hS hl ha hbb
  obtain ⟨C, T, N, hc, hk, hw⟩ := d2
  exact va_get (D := aD G) (ci := ci) (v := cv bs v) (C := C) (T := T) (N := N) (Ts := Wl) hx hb (hts) (cls_in _ _ _ _ hc) hown hK.1 hW.2 o (wsOf_get d3) hc k hk (hts _ hw) (fun _ h9 => h9) (by rw [List.getElem?_map, d4]; rfl) d1 (kk H locs cells slots cls hW hS hl ha hbb)
theorem s_putf (K : Ctx p s m args meth c r G) : R_putf r (SX p l e s m args below meth c r G bs mc ms E Qf) := by
  obtain ⟨hx, hb, hr, hml, hown, hts, hlocks, hnm, hK⟩ := K
  intro pc ls st h a b i ci k o fs v d1 d2 d3 d4 d5 d6 kk H locs cells slots cls hW hS hl ha hbb
  obtain ⟨C, T, N, hc, hk, hw⟩ := d2
  obtain ⟨C4, T4, N4, ty, hc4, hd, hn, hfit⟩ := d4 bs
  cases hc.symm.trans hc4
  have hts2 : ∀ w ∈ Wl, w.before args s = true := hts
  obtain ⟨ty0, hty, hdist⟩ := cls_ty _ _ _ _ hc
  have hap := va_apart (own := ro r) hts2 (cls_in _ _ _ _ hc) ty0 hty hdist hK.1 hc
  obtain ⟨r1, h1, cell, q1, q2, q3, q4⟩ := hW.2 o _ (wsOf_get d5)
  cases h1.symm.trans hc
  obtain ⟨hSl, hfc, kC, hkC, hkind⟩ := hK.1.1 ci _ hc
  obtain ⟨cf, kf, fi, f, hi, hsl⟩ := hSl k hk
  have hlays := u_lays hts2 (cls_in _ _ _ _ hc) hk
  have hst := (u_facts hfc hkC hlays hi).1
  have fin : ∀ H1 : Heap, H1[bs + o]? = some (cell.setSlot f.slot (cv bs v)) → H1.size = H.size → (∀ q, q ≠ bs + o → H1[q]? = H[q]?) → Wd G bs (h.set o (.inl (ci, fs.set k v))) H1 ∧ va_S (fun q => bs ≤ q) s.heap H1 (locs ++ [⟨bs + o, f.slot⟩]) := by
    intro H1 e1 e2 e3
    rw [hsl] at e1
    refine ⟨⟨by rw [e2, List.length_set]; exact hW.1, ?_⟩, hS.put e2 e3 (Nat.le_add_right _ _)⟩
    rw [← wsOf_set]
    have hl2 : k < (fs.map (cv bs)).length := by rw [List.length_map]; exact d6
    refine hW.2.set wsOf_D (wsOf_get d5) ⟨_, hc, t_OB.to (V := updV (vp_V (fs.map (cv bs))) k (cv bs v)) ⟨_, e1, q2, q3, t_set q4 hap hk (cv bs v)⟩ (fun j _ => ?_)⟩ e3
    rw [vp_updV_set hl2, List.map_set]
  have hslot := k2_hasslot (q4 k hk)
  by_cases hfin : (T k).2.2.2 = true
  · have hini : (ry r).name = "<init>" ∧ FF (ro r) ci k := by
      rcases d3 with ⟨C3, T3, N3, hc3, hf3⟩ | q
      · cases hc.symm.trans hc3
        rw [hfin] at hf3
        cases hf3
      · exact q
    obtain ⟨hin2, C3, T3, N3, hc3, -, hdecl⟩ := hini
    cases hc.symm.trans hc3
    have hlay := hts2 _ (cls_in _ _ _ _ hc _ (u_in_lay hk))
    unfold u_lay at hlay
    rw [if_pos hfin] at hlay
    have hcf : m.cls = cf := by
      obtain ⟨_, _, c', _, _, _, -, -, hf', -, -, -, hown2, -⟩ := Cond.laysFinal_spec hlay
      have e1 : c' = cf := by
        have h9 := hi.symm.trans hf'
        simp at h9
        exact h9.1.symm
      rw [hdecl] at hown2
      rw [← e1]
      exact Option.some.inj (hown.symm.trans hown2)
    refine W.putFinK hx hb hown (hts _ hw) hi hst hcf ((hnm hin2).trans hin2) (by rw [q2]; exact u_fits hfc hkC hkind (Or.inr hlay) hi hd hn hfit) q1 q3 (by rw [hsl]; exact hslot) rfl rfl d1 fun H1 e1 e2 e3 => ?_
    obtain ⟨f1, f2⟩ := fin H1 e1 e2 e3
    exact kk H1 _ cells slots cls f1 f2 hl ha hbb
  · have hfin2 : (T k).2.2.2 = false := by simpa using hfin
    have hlay := hts2 _ (cls_in _ _ _ _ hc _ (u_in_lay hk))
    unfold u_lay at hlay
    rw [if_neg hfin] at hlay
    refine W.putK hx hb (f := f) ⟨hown, hts _ hw, ⟨_, _, _, hi⟩, hst⟩ (by rw [q2]; exact u_store hfc hkC hkind hlay hi hd hn hfit) q1 q3 (by rw [hsl]; exact hslot) rfl rfl d1 fun H1 e1 e2 e3 => ?_
    obtain ⟨f1, f2⟩ := fin H1 e1 e2 e3
    exact kk H1 _ cells slots cls f1 f2 hl ha hbb
theorem s_iald (K : Ctx p s m args meth c r G) : R_iald r (SX p l e s m args below meth c r G bs mc ms E Qf) := by
  obtain ⟨hx, hb, hr, hml, hown, hts, hlocks, hnm, hK⟩ := K
  intro pc ls st h a b o n f i d1 d2 d3 k H locs cells slots cls hW hS hl ha hbb
  exact va_iald hx hb hK.1 hW.2 o 0 (wsOf_get d2) rfl d3 d1 (k H locs cells slots cls hW hS hl ha hbb)
theorem s_iast (K : Ctx p s m args meth c r G) : R_iast r (SX p l e s m args below meth c r G bs mc ms E Qf) := by
  obtain ⟨hx, hb, hr, hml, hown, hts, hlocks, hnm, hK⟩ := K
  intro pc ls st h a b o n f i x d1 d2 d3 kk H locs cells slots cls hW hS hl ha hbb
  have hsz : ∀ z : Nat → Value, (arrV G.2.2.1 n z).slots.size = n := fun z => arrV_size _ _ _
  refine W.iast hx hb (hW.2 o _ (wsOf_get d2)) ((hK.1.2 0 _ rfl).1 n (fun j => .int (f j))) (fun q => by cases q) (by show ¬ (i < 0 ∨ (arrV _ _ _).slots.size ≤ _); rw [hsz]; exact d3) rfl rfl d1 fun H1 e1 e2 e3 => ?_
  refine kk H1 _ cells slots cls ⟨by rw [e2, List.length_set]; exact hW.1, ?_⟩ (hS.put e2 e3 (Nat.le_add_right _ _)) hl ha hbb
  rw [← wsOf_set]
  refine hW.2.set wsOf_D (wsOf_get d2) ?_ e3
  show H1[bs + o]? = some (vp_cell _ _)
  rw [e1]
  show some ((vp_cell _ (n, .inl f)).setSlot _ _) = _
  rw [vp_cell_i, vp_cell_i, arrV_store]
  congr 2
  funext q
  by_cases hq : q = i.toNatClampNeg
  · subst hq
    simp [updV, upd]
  · simp [updV, upd, hq]
theorem s_alen (K : Ctx p s m args meth c r G) : R_alen r (SX p l e s m args below meth c r G bs mc ms E Qf) := by
  obtain ⟨hx, hb, hr, hml, hown, hts, hlocks, hnm, hK⟩ := K
  intro pc ls st h a b o n f d1 d2 k H locs cells slots cls hW hS hl ha hbb
  exact va_alen hx hb hK.1 hW.2 o 0 (wsOf_get d2) (ty := .int) rfl rfl d1 (k H locs cells slots cls hW hS hl ha hbb)
theorem s_alenq (K : Ctx p s m args meth c r G) : R_alenq r (SX p l e s m args below meth c r G bs mc ms E Qf) := by
  obtain ⟨hx, hb, hr, hml, hown, hts, hlocks, hnm, hK⟩ := K
  intro pc ls st h a b o n f d1 d2 k H locs cells slots cls hW hS hl ha hbb
  exact va_alen hx hb hK.1 hW.2 o 1 (wsOf_get d2) (ty := .object RX8) rfl rfl d1 (k H locs cells slots cls hW hS hl ha hbb)
theorem s_aald (K : Ctx p s m args meth c r G) : R_aald r (SX p l e s m args below meth c r G bs mc ms E Qf) := by
  obtain ⟨hx, hb, hr, hml, hown, hts, hlocks, hnm, hK⟩ := K
  intro pc ls st h a b o n f i d1 d2 d3 k H locs cells slots cls hW hS hl ha hbb
  have k2 := k H locs cells slots cls hW hS hl ha hbb
  refine va_aldq hx hb hK.1 hW.2 o 1 (wsOf_get d2) rfl d3 d1 ?_
  have e1 : va_rf ((f i.toNatClampNeg).map (fun k => bs + k)) = cv bs (.inr (f i.toNatClampNeg)) := by
    cases f i.toNatClampNeg <;> rfl
  rw [e1]
  exact k2
theorem s_aast (K : Ctx p s m args meth c r G) : R_aast r (SX p l e s m args below meth c r G bs mc ms E Qf) := by
  obtain ⟨hx, hb, hr, hml, hown, hts, hlocks, hnm, hK⟩ := K
  intro pc ls st h a b o n v fs f i d1 d2 dv d3 kk H locs cells slots cls hW hS hl ha hbb
  have hsz : ∀ z : Nat → Value, (arrV G.2.2.2 n z).slots.size = n := fun z => arrV_size _ _ _
  have hlt : i.toNatClampNeg < n := Nat.not_le.mp fun q => d3 (Or.inr q)
  obtain ⟨r1, hr1, cellV, g1, g2, g3, -⟩ := hW.2 v _ (wsOf_get dv)
  have hcls := (hK.1.1 8 (RX8, TX8, 6) rfl).2
  obtain ⟨kA, comp, k1, k2, k3, -⟩ := (hK.1.2 1 _ rfl).2
  cases Option.some.inj (k3.symm.trans hcls.1)
  obtain ⟨kC, hkC, hkind⟩ := hcls.2
  refine W.aast hx hb (hW.2 o _ (wsOf_get d2)) (fun q h => by cases h) (fun h => by cases h) k1 k2 rfl hkC ⟨fun q => d3 (Or.inl q), by show _ < (arrV _ _ _).slots.size; rw [hsz]; exact hlt⟩ g1 (fun q h => by rw [g3] at h; cases h) (by rw [g2]; exact hkC) (by rw [g2]; exact va_assign ⟨hcls.1, kC, hkC, hkind⟩) rfl rfl d1 fun H1 e1 e2 e3 => ?_
  refine kk H1 _ cells slots cls ⟨by rw [e2, List.length_set]; exact hW.1, ?_⟩ (hS.put e2 e3 (Nat.le_add_right _ _)) hl ha hbb
  rw [← wsOf_set]
  refine hW.2.set wsOf_D (wsOf_get d2) ?_ e3
  show H1[bs + o]? = some (vp_cell _ _)
  rw [e1]
  show some ((vp_cell _ (n, .inr (.inr (.inr (.inr _))))).setSlot _ _) = _
  rw [vp_cell_q, vp_cell_q, arrV_store]
  congr 2
  funext q
  by_cases hq : q = i.toNatClampNeg
  · subst hq
    simp [updV, va_up, va_rf]
  · simp [updV, va_up, hq]
theorem s_new (K : Ctx p s m args meth c r G) : R_new r (SX p l e s m args below meth c r G bs mc ms E Qf) := by
  obtain ⟨hx, hb, hr, hml, hown, hts, hlocks, hnm, hK⟩ := K
  intro pc ls st h a b i ci N C T fs d1 hc d3 d4 d5 d6 d7 kk H locs cells slots cls hW hS hl ha hbb
  have hts2 : ∀ w ∈ Wl, w.before args s = true := hts
  obtain ⟨ty0, hty, hdist⟩ := cls_ty _ _ _ _ hc
  have hKn := hK.1.1 ci _ hc
  refine W.newcK hx hb hown (hts2 _ d3) (hts2 _ d4) (hts2 _ d5) rfl d1 (by show cells + 1 ≤ mc; omega) (by show slots + N ≤ ms; omega) hKn.2.1 rfl fun H1 kC hkC e1 z1 o1 => ?_
  have hk : ∀ (k : Nat) (x : Nat × va_E), (wsOf bs G h)[k]? = some x → H1[x.1]? = H[x.1]? := fun k x hx => o1 x.1 ((hW.2 k x hx).lt)
  have hS2 : va_S (fun q => bs ≤ q) s.heap H1 locs := ⟨Nat.le_trans hS.1 (by omega), fun x h1 h2 => (o1 x (Nat.lt_of_lt_of_le h1 hS.1)).trans (hS.2.1 x h1 h2), hS.2.2⟩
  have hW2 : Wd G bs (h ++ [.inl (ci, fs)]) H1 := by
    refine ⟨by rw [z1, hW.1, List.length_append]; rfl, ?_⟩
    rw [wsOf_push]
    refine (hW.2.kept hk).app (fun k x hx => ?_)
    have hz : k < 1 := (List.getElem?_eq_some_iff.mp hx).1
    rw [show k = 0 by omega] at hx
    cases hx
    refine ⟨_, hc, ?_⟩
    rw [← hW.1]
    refine (u_born ty0 hts2 (cls_in _ _ _ _ hc) hKn hkC e1 hty).to (fun j hj => ?_)
    obtain ⟨f1, f2⟩ := d7 j hj
    rw [hty j hj] at f1
    simp only [Option.map_some, Option.some.injEq] at f1
    have hlt : j < fs.length := by omega
    have e2 : fs[j]? = some (fs.getD j an) := by
      rw [List.getD_eq_getElem?_getD, List.getElem?_eq_getElem hlt]; rfl
    rw [f1]
    have e3 : vp_V (fs.map (cv bs)) j = cv bs (fs.getD j an) := by
      show (fs.map (cv bs)).getD j .null = _
      rw [List.getD_eq_getElem?_getD, List.getElem?_map, e2]; rfl
    rw [e3]
    rcases hv : fs.getD j an with x | (_ | q)
    · rfl
    · rfl
    · rw [hv] at e2
      exact absurd e2 (f2 q)
  have k2 := kk H1 locs (cells + 1) (slots + N) cls hW2 hS2 hl (by omega) (by omega)
  have e9 : (ar h.length :: st).map (cv bs) = .ref H.size :: st.map (cv bs) := by
    rw [hW.1]; rfl
  rw [e9] at k2
  exact k2
theorem s_newi (K : Ctx p s m args meth c r G) : R_newi r (SX p l e s m args below meth c r G bs mc ms E Qf) := by
  obtain ⟨hx, hb, hr, hml, hown, hts, hlocks, hnm, hK⟩ := K
  intro pc ls st h a b n N d1 d2 d3 d4 kk H locs cells slots cls hW hS hl ha hbb
  have hts2 : ∀ w ∈ Wl, w.before args s = true := hts
  refine va_newaK hx hb (atype := .int) (hts2 _ arrI) rfl d1 rfl d2 d3 (by show N * 4 ≤ 536870912; omega) (by show cells + 1 ≤ mc; omega) (by show slots + N ≤ ms; omega) rfl fun H1 cA e1 z1 o1 hAr hNm => ?_
  have hcA : cA = G.2.2.1 := by
    have h2 := (hK.1.2 0 _ rfl).2
    exact Option.some.inj (hNm.symm.trans h2)
  subst hcA
  have hk : ∀ (k : Nat) (x : Nat × va_E), (wsOf bs G h)[k]? = some x → H1[x.1]? = H[x.1]? := fun k x hx => o1 x.1 ((hW.2 k x hx).lt)
  have hS2 : va_S (fun q => bs ≤ q) s.heap H1 locs := ⟨Nat.le_trans hS.1 (by omega), fun x h1 h2 => (o1 x (Nat.lt_of_lt_of_le h1 hS.1)).trans (hS.2.1 x h1 h2), hS.2.2⟩
  have hW2 : Wd G bs (h ++ [.inr (.inl (N, fun _ => 0))]) H1 := by
    refine ⟨by rw [z1, hW.1, List.length_append]; rfl, ?_⟩
    rw [wsOf_push]
    refine (hW.2.kept hk).app (fun k x hx => ?_)
    have hz : k < 1 := (List.getElem?_eq_some_iff.mp hx).1
    rw [show k = 0 by omega] at hx
    cases hx
    rw [← hW.1]
    exact e1
  have k2 := kk H1 locs (cells + 1) (slots + N) cls hW2 hS2 hl (by omega) (by omega)
  have e9 : (ar h.length :: st).map (cv bs) = .ref H.size :: st.map (cv bs) := by
    rw [hW.1]; rfl
  rw [e9] at k2
  exact k2
theorem s_newq (K : Ctx p s m args meth c r G) : R_newq r (SX p l e s m args below meth c r G bs mc ms E Qf) := by
  obtain ⟨hx, hb, hr, hml, hown, hts, hlocks, hnm, hK⟩ := K
  intro pc ls st h a b i n N d1 dc d2 d3 d4 kk H locs cells slots cls hW hS hl ha hbb
  have hts2 : ∀ w ∈ Wl, w.before args s = true := hts
  subst d3
  refine W.anew hx hb hown (hts2 _ dc) (va_AO.use hK.2.1) rfl d1 rfl d2 (by omega) (by show cells + 1 ≤ mc; omega) (by show slots + n.toNatClampNeg ≤ ms; omega) fun cA kA comp f1 f2 f3 f4 => ?_
  have hcA : cA = G.2.2.2 := by
    obtain ⟨kA2, comp2, g1, g2, g3, g4⟩ := (hK.1.2 1 _ rfl).2
    exact Option.some.inj (f1.symm.trans g4)
  subst hcA
  generalize hH1 : H.push ({ cls := G.2.2.2, slots := Array.replicate n.toNatClampNeg .null, vm := .none } : Cell) = H1
  have z1 : H1.size = H.size + 1 := by rw [← hH1, Array.size_push]
  have e1 : H1[H.size]? = some (arrV G.2.2.2 n.toNatClampNeg (fun _ => .null)) := by rw [← hH1, Array.getElem?_push_size, ← arrV_new]
  have o1 : ∀ q : Nat, q < H.size → H1[q]? = H[q]? := fun q hq => by rw [← hH1, Array.getElem?_push, if_neg (Nat.ne_of_lt hq)]
  have hk : ∀ (k : Nat) (x : Nat × va_E), (wsOf bs G h)[k]? = some x → H1[x.1]? = H[x.1]? := fun k x hx => o1 x.1 ((hW.2 k x hx).lt)
  have hS2 : va_S (fun q => bs ≤ q) s.heap H1 locs := ⟨Nat.le_trans hS.1 (by omega), fun x h1 h2 => (o1 x (Nat.lt_of_lt_of_le h1 hS.1)).trans (hS.2.1 x h1 h2), hS.2.2⟩
  have hW2 : Wd G bs (h ++ [.inr (.inr (n.toNatClampNeg, fun _ => none))]) H1 := by
    refine ⟨by rw [z1, hW.1, List.length_append]; rfl, ?_⟩
    rw [wsOf_push]
    refine (hW.2.kept hk).app (fun k x hx => ?_)
    have hz : k < 1 := (List.getElem?_eq_some_iff.mp hx).1
    rw [show k = 0 by omega] at hx
    cases hx
    rw [← hW.1]
    exact e1
  have k2 := kk H1 locs (cells + 1) (slots + n.toNatClampNeg) cls hW2 hS2 hl (by omega) (by omega)
  have e9 : (ar h.length :: st).map (cv bs) = .ref H.size :: st.map (cv bs) := by
    rw [hW.1]; rfl
  rw [e9] at k2
  exact k2
theorem cat_sum (b : Nat) (st : List AV) : ((st.map (cv b)).map fun v => v.category).sum = st.length := by
  induction st with
  | nil => rfl
  | cons v t ih => simp only [List.map_cons, List.sum_cons, cv_cat, List.length_cons, ih]; omega
theorem s_obj (K : Ctx p s m args meth c r G) : R_obj r (SX p l e s m args below meth c r G bs mc ms E Qf) := by
  obtain ⟨hx, hb, hr, hml, hown, hts, hlocks, hnm, hK⟩ := K
  intro pc ls st h a b i o d1 d2 d3 d4 d5 k H locs cells slots cls hW hS hl ha hbb
  refine W.objInit hx hb hown (hts _ d2) (hts _ objI) (hts _ objC) rfl (by rw [hml]; exact hl.2.1) rfl d1 d4 ?_ (k H locs cells slots cls hW hS hl ha hbb)
  show 2 * 0 + ((st.map (cv bs)).map fun v => v.category).sum + 12 ≤ rl r
  rw [cat_sum]
  omega
theorem s_ireturn (K : Ctx p s m args meth c r G) : R_ireturn r Q (SX p l e s m args below meth c r G bs mc ms E (MQ below (QcA G bs Q) args s mc ms (fun q => bs ≤ q))) := by
  obtain ⟨hx, hb, hr, hml, hown, hts, hlocks, hnm, hK⟩ := K
  intro pc ls h a b x ty d1 d2 d3 d4 H locs cells slots cls hW hS hl ha hbb
  refine W.widen (k := mc) (n := ms) (by omega) (by omega) ?_
  exact W.zret hx hb (hr.trans d2) d3 (fun t ht hw => ⟨⟨_, _, rfl, d4, by rw [ht]; exact hW⟩, hS.F ht⟩) hS.2.2 d1
theorem s_areturn (K : Ctx p s m args meth c r G) : R_areturn r Q (SX p l e s m args below meth c r G bs mc ms E (MQ below (QcA G bs Q) args s mc ms (fun q => bs ≤ q))) := by
  obtain ⟨hx, hb, hr, hml, hown, hts, hlocks, hnm, hK⟩ := K
  intro pc ls h a b x C d1 d2 d4 H locs cells slots cls hW hS hl ha hbb
  refine W.widen (k := mc) (n := ms) (by omega) (by omega) ?_
  refine W.aret hx hb (hr.trans d2) (Or.inl ⟨_, rfl⟩) ?_ (fun t ht hw => ⟨⟨some (.inr x), _, rfl, d4, by rw [ht]; exact hW⟩, hS.F ht⟩) hS.2.2 d1
  cases x with
  | none => exact Or.inl rfl
  | some k => exact Or.inr ⟨_, rfl⟩
theorem s_return (K : Ctx p s m args meth c r G) : R_return r Q (SX p l e s m args below meth c r G bs mc ms E (MQ below (QcA G bs Q) args s mc ms (fun q => bs ≤ q))) := by
  obtain ⟨hx, hb, hr, hml, hown, hts, hlocks, hnm, hK⟩ := K
  intro pc ls h a b d1 d2 d4 H locs cells slots cls hW hS hl ha hbb
  refine W.widen (k := mc) (n := ms) (by omega) (by omega) ?_
  exact W.vret hx hb (hr.trans d2) (fun t ht hw => ⟨⟨none, _, rfl, d4, by rw [ht]; exact hW⟩, hS.F ht⟩) hS.2.2 d1
/-- what a callee's contract gives -/
def OK (l : Launch) (G : aG) (bs : Nat) (OO : AO) : Prop := ∀ (r : MR) (n : Nat) (as : List AV) (h : AH) (a b : Nat) (Q : AP), MB r n → as.length ≤ rL r → OO r as h a b Q → Met l (ry r) (wm r) (rmOf r a b) (PcA G bs as h) (QcA G bs Q) a b (fun q => bs ≤ q)
theorem PcA_blind {as : List AV} {h : AH} : FrameBlind (PcA G bs as h) := fun a U g mk q => ⟨q.1, q.2.1, q.2.2.calling⟩
theorem wm_good {r1 : MR} {n : Nat} (h : MB r1 n) : GoodIn Wl (wm r1) := by
  intro w hw
  have hin : w ∈ Wl := by
    rcases List.mem_cons.mp hw with rfl | q
    · exact h.2.1
    · exact q
  exact ⟨hin, good_of_word (Wl_good _ hin)⟩
theorem call_on {st : List AV} {a b a1 b1 pc : Nat} {ls : List (Option AV)} {Q1 : AP} {H : Heap} {locs : List Loc} {cells slots : Nat} {cls : Array Slot} {cst : List Value} {av : Array Value}
    (hrun : va_Run p l e (rmOf r mc ms) s m args below meth c H locs cells slots a1 b1 (F0 m pc cls cst) (st.map (cv bs)) (QcA G bs Q1 av) (fun q => bs ≤ q))
    (kk : ∀ w h1, Q1 w h1 → SX p l e s m args below meth c r G bs mc ms E Qf (pc + 3) ls (w.toList ++ st) h1 a b)
    (hb0 : bs ≤ H.size) (hS : va_S (fun q => bs ≤ q) s.heap H locs) (hl : LH E bs ls cls (rL r)) (ha : cells + (a1 + a) ≤ mc) (hbb : slots + (b1 + b) ≤ ms) :
    W p l e (rmOf r mc ms) s m args below meth c H locs cells slots Qf (F0 m pc cls cst) := by
  intro T hT X
  obtain ⟨v, st₀, t, T', L, h0, X', hL, e1, e2, ⟨⟨w, h1, hv, hq, hW1⟩, hz, hk⟩, go⟩ := hrun T hT X
  cases hv
  rw [h0] at hz hk
  have hS1 : va_S (fun q => bs ≤ q) s.heap T'.heap (locs ++ L) := by
    refine ⟨Nat.le_trans hS.1 (by rw [e1]; exact hz), fun q g1 g2 => ?_, fun q hq => ?_⟩
    · rw [e1, hk q (Nat.lt_of_lt_of_le g1 hS.1) g2]
      exact hS.2.1 q g1 g2
    · rcases List.mem_append.mp hq with g | g
      · exact hS.2.2 q g
      · exact hL q g
  obtain ⟨t2, g1, g2⟩ := kk w h1 hq T'.heap (locs ++ L) (cells + a1) (slots + b1) cls (by rw [e1]; exact hW1) hS1 hl (by omega) (by omega) T' rfl X'
  refine ⟨t2, go t2 ?_, g2⟩
  have e9 : (w.toList ++ st).map (cv bs) = (w.map (cv bs)).toList ++ st.map (cv bs) := by
    cases w <;> rfl
  rw [e9] at g1
  exact g1
theorem s_callV (hO : OK l G bs OO) (K : Ctx p s m args meth c r G) : R_callV r OO (SX p l e s m args below meth c r G bs mc ms E Qf) := by
  obtain ⟨hx, hb, hr, hml, hown, hts, hlocks, hnm, hK⟩ := K
  intro pc ls st h a b a1 b1 i r1 As Q1 ci o fs d1 d2 d3 d4 d5 d6 d7 d8 k H locs cells slots cls hW hS hl ha hbb
  have hts2 : ∀ w ∈ Wl, w.before args s = true := hts
  obtain ⟨T, N, hc⟩ := d5
  have hM := hO r1 As.length (ar o :: As) h a1 b1 Q1 d3.1 (by rw [List.length_cons]; exact d3.2.1) d8
  have cw : CallW (rmOf r mc ms) s args (ro r) (ro r1) i (ry r1) (rc r1) (rL r1) (rt r1) (wm r1) (rmOf r1 a1 b1) a1 b1 As.length := ⟨callB_of As.length hts (wm_good d3.1) rfl rfl rfl (hts2 _ d3.1.1) (hts2 _ d2) d3.1.2.2.2.2 d6, hts2 _ d3.2.2.1, hts2 _ d3.2.2.2⟩
  obtain ⟨cell, g1, g2, g3⟩ := va_recv hK.1 hW.2 hc (wsOf_get d4)
  have hrun := va_runV (e := e) (meth := meth) (below := below) (cells := cells) (slots := slots) (b := bs + o) (As := As.map (cv bs)) (rest := st.map (cv bs)) (g := F0 m pc cls ((As.reverse ++ ar o :: st).map (cv bs))) (locs := locs) ⟨hx, hb, hml, hown, hts⟩ hM cw ⟨PcA_blind, ⟨cell, g1, g2, g3⟩, fun U hU hw => ⟨rfl, by rw [hU]; exact hW, hK.warm hw⟩⟩ rfl (by rw [List.length_map]) hl.2.1 (by show (As.reverse ++ ar o :: st).map (cv bs) = _; rw [List.map_append, List.map_cons, List.map_reverse]; rfl) (by rw [cat_sum]; exact lv_room0 d7) d1 ⟨by show cells + a1 ≤ mc; omega, by show slots + b1 ≤ ms; omega⟩
  exact call_on hrun k (by rw [hW.1]; omega) hS hl ha hbb
theorem s_callS (hO : OK l G bs OO) (K : Ctx p s m args meth c r G) : R_callS r OO (SX p l e s m args below meth c r G bs mc ms E Qf) := by
  obtain ⟨hx, hb, hr, hml, hown, hts, hlocks, hnm, hK⟩ := K
  intro pc ls st h a b a1 b1 i r1 As Q1 d1 d2 d3 d6 d7 d8 k H locs cells slots cls hW hS hl ha hbb
  have hts2 : ∀ w ∈ Wl, w.before args s = true := hts
  have hM := hO r1 As.length (As) h a1 b1 Q1 d3.1 (d3.1.2.2.2.1) d8
  rcases d2 with d2 | d2
  · have cb := callB_of (R := rmOf r mc ms) (own := ro r) (index := i) (y := ry r1) (bytes := rc r1) (maxL := rL r1) (ret := rt r1) (mc := a1) (ms := b1) (rm := rmOf r1 a1 b1) As.length hts (wm_good d3.1) rfl rfl rfl (hts2 _ d3.1.1) (hts2 _ d2) d3.1.2.2.2.2 d6
    have hrun := va_runS (e := e) (meth := meth) (below := below) (cells := cells) (slots := slots) (As := As.map (cv bs)) (rest := st.map (cv bs)) (g := F0 m pc cls ((As.reverse ++ st).map (cv bs))) (locs := locs) ⟨hx, hb, hml, hown, hts⟩ hM ⟨cb, hts2 _ d3.2⟩ ⟨PcA_blind, fun U hU hw => ⟨rfl, by rw [hU]; exact hW, hK.warm hw⟩⟩ rfl (by rw [List.length_map]) hl.2.1 (by show List.map (cv bs) _ = _; rw [List.map_append, List.map_reverse]) (by rw [cat_sum]; exact lv_room0 d7) d1 ⟨by show cells + a1 ≤ mc; omega, by show slots + b1 ≤ ms; omega⟩
    exact call_on hrun k (by rw [hW.1]; omega) hS hl ha hbb
  · have cb := va_cnB (R := rmOf r mc ms) (own := ro r) (host := RX9) (index := i) (y := ry r1) (bytes := rc r1) (maxL := rL r1) (ret := rt r1) (mc := a1) (ms := b1) (rm := rmOf r1 a1 b1) As.length hts (wm_good d3.1) rfl rfl rfl (hK.2.2 _ d2) (hts2 _ d3.1.1) d3.1.2.2.2.2 d6
    have hrun := va_runSN (e := e) (meth := meth) (below := below) (cells := cells) (slots := slots) (As := As.map (cv bs)) (rest := st.map (cv bs)) (g := F0 m pc cls ((As.reverse ++ st).map (cv bs))) (locs := locs) ⟨hx, hb, hml, hown, hts⟩ hM ⟨cb, hts2 _ d3.2, trivial⟩ ⟨PcA_blind, fun U hU hw => ⟨rfl, by rw [hU]; exact hW, hK.warm hw⟩⟩ rfl (by rw [List.length_map]) hl.2.1 (by show List.map (cv bs) _ = _; rw [List.map_append, List.map_reverse]) (by rw [cat_sum]; exact lv_room0 d7) d1 ⟨by show cells + a1 ≤ mc; omega, by show slots + b1 ≤ ms; omega⟩
    exact call_on hrun k (by rw [hW.1]; omega) hS hl ha hbb
theorem s_callI (hO : OK l G bs OO) (K : Ctx p s m args meth c r G) : R_callI r OO (SX p l e s m args below meth c r G bs mc ms E Qf) := by
  obtain ⟨hx, hb, hr, hml, hown, hts, hlocks, hnm, hK⟩ := K
  intro pc ls st h a b a1 b1 i r1 As Q1 o d1 d2 d3 d6 d7 d8 k H locs cells slots cls hW hS hl ha hbb
  have hts2 : ∀ w ∈ Wl, w.before args s = true := hts
  obtain ⟨y1, c1, L1, t1, f1, w1⟩ := r1
  have hrt : t1 = none := d3.2.2.2.2
  subst hrt
  have hM := hO (y1, c1, L1, none, f1, w1) As.length (ar o :: As) h a1 b1 Q1 d3.1 (by rw [List.length_cons]; exact d3.2.1) d8
  rcases d2 with d2 | d2
  · have cb := callB_of (R := rmOf r mc ms) (own := ro r) (index := i) (y := y1) (bytes := c1) (maxL := L1) (ret := none) (mc := a1) (ms := b1) (rm := rmOf (y1, c1, L1, none, f1, w1) a1 b1) As.length hts (wm_good d3.1) rfl rfl rfl (hts2 _ d3.1.1) (hts2 _ d2) d3.1.2.2.2.2 d6
    have hrun := va_runI (e := e) (meth := meth) (below := below) (cells := cells) (slots := slots) (b := bs + o) (As := As.map (cv bs)) (rest := st.map (cv bs)) (g := F0 m pc cls ((As.reverse ++ ar o :: st).map (cv bs))) (locs := locs) ⟨hx, hb, hml, hown, hts⟩ hM ⟨cb, d3.2.2.2.1, hts2 _ d3.2.2.1⟩ ⟨PcA_blind, fun U hU hw => ⟨rfl, by rw [hU]; exact hW, hK.warm hw⟩⟩ rfl (by rw [List.length_map]) hl.2.1 (by show List.map (cv bs) _ = _; rw [List.map_append, List.map_cons, List.map_reverse]; rfl) (by rw [cat_sum]; exact lv_room0 d7) d1 ⟨by show cells + a1 ≤ mc; omega, by show slots + b1 ≤ ms; omega⟩
    exact call_on hrun k (by rw [hW.1]; omega) hS hl ha hbb
  · have cb := va_cnB (R := rmOf r mc ms) (own := ro r) (host := RX9) (index := i) (y := y1) (bytes := c1) (maxL := L1) (ret := none) (mc := a1) (ms := b1) (rm := rmOf (y1, c1, L1, none, f1, w1) a1 b1) As.length hts (wm_good d3.1) rfl rfl rfl (hK.2.2 _ d2) (hts2 _ d3.1.1) d3.1.2.2.2.2 d6
    have hrun := va_runIN (e := e) (meth := meth) (below := below) (cells := cells) (slots := slots) (b := bs + o) (As := As.map (cv bs)) (rest := st.map (cv bs)) (g := F0 m pc cls ((As.reverse ++ ar o :: st).map (cv bs))) (locs := locs) ⟨hx, hb, hml, hown, hts⟩ hM ⟨cb, d3.2.2.2.1, hts2 _ d3.2.2.1⟩ ⟨PcA_blind, fun U hU hw => ⟨rfl, by rw [hU]; exact hW, hK.warm hw⟩⟩ rfl (by rw [List.length_map]) hl.2.1 (by show List.map (cv bs) _ = _; rw [List.map_append, List.map_cons, List.map_reverse]; rfl) (by rw [cat_sum]; exact lv_room0 d7) d1 ⟨by show cells + a1 ≤ mc; omega, by show slots + b1 ≤ ms; omega⟩
    exact call_on hrun k (by rw [hW.1]; omega) hS hl ha hbb
theorem sim_rules (hO : OK l G bs OO) (K : Ctx p s m args meth c r G) (h_ireturn : R_ireturn r Q (SX p l e s m args below meth c r G bs mc ms E Qf)) (h_areturn : R_areturn r Q (SX p l e s m args below meth c r G bs mc ms E Qf)) (h_return : R_return r Q (SX p l e s m args below meth c r G bs mc ms E Qf)) : Rules r OO Q (SX p l e s m args below meth c r G bs mc ms E Qf) :=
  ⟨s_iconst K, s_bipush K, s_sipush K, s_ldc K, s_null K, s_iload_n K, s_iload K, s_aload_n K, s_aload K, s_istore_n K, s_istore K, s_astore_n K, s_astore K, s_iinc K, s_iadd K, s_isub K, s_imul K, s_ior K, s_iand K, s_ixor K, s_ishl K, s_ishr K, s_idiv K, s_irem K, s_dup K, s_dup2 K, s_pop K, s_goto K, s_icmp_eq K, s_if_eq K, s_icmp_ne K, s_if_ne K, s_icmp_lt K, s_if_lt K, s_icmp_ge K, s_if_ge K, s_icmp_gt K, s_if_gt K, s_icmp_le K, s_if_le K, s_ifnull K, s_tabIn K, s_tabOut K, s_look K, s_getf K, s_putf K, s_iald K, s_iast K, s_alen K, s_alenq K, s_aald K, s_aast K, s_new K, s_newi K, s_newq K, s_obj K, h_ireturn, h_areturn, h_return, s_callV hO K, s_callS hO K, s_callI hO K⟩
end SIM
theorem OK_Cd (l : Launch) (G : aG) (bs : Nat) : ∀ d : Nat, OK l G bs (Cd d)
  | 0 => fun _ _ _ _ _ _ _ _ _ k => k.elim
  | d + 1 => by
    intro r n as h a b Q hB hl k
    refine MetFree.of_bodySF (code := rc r) (maxLocals := rL r) (ret := rt r) hB.2.2.1 ?_ ?_
    · intro args s m h hn
      obtain ⟨meth, c, h1, h2, h3, h4, h5, h6, -, -⟩ := Cond.code_spec hn (atoms_spec (ws := wm r) h _ List.mem_cons_self)
      exact ⟨meth, c, h1, h2, h3, h4, h5, h6⟩
    · intro p e s m args below meth c s₁ B hml hv _
      obtain ⟨rfl, hW, hK⟩ := hv
      have hh0 : s₁.heap = s.heap := by rw [B.state]; rfl
      have hown : s.vm.findClass (ro r) = some m.cls := findClass_of_methodNamed B.named
      have K : Ctx p s m ((as.map (cv bs)).toArray) meth c r G := ⟨B.exec, B.bytes, B.returns, hml, hown, fun w hw => atoms_spec (ws := wm r) B.pre w (List.mem_cons_of_mem _ hw), B.notSynchronized, fun _ => (name_of_methodNamed B.named B.method).1, hK⟩
      have X := k _ (sim_rules (e := e) (below := below) (mc := a) (ms := b) (E := none) (Qf := MQ below (QcA G bs Q) (as.map (cv bs)).toArray s a b (fun q => bs ≤ q)) (OK_Cd l G bs d) K (s_ireturn K) (s_areturn K) (s_return K)) s.heap [] 0 0 _ hW va_S.rf (lsOf_LH bs r as hl) (by omega) (by omega)
      rw [List.map_nil, ← lg_entry_eq] at X
      obtain ⟨t, a1, o, b1, b2, b3⟩ := X s₁ hh0 (Stand.of_body B)
      exact ⟨t, o, a1, b1, b2, ⟨b3.1, b3.2⟩⟩
theorem C_met {l : Launch} {G : aG} {bs n : Nat} {r : MR} {as : List AV} {h : AH} {a b : Nat} {Q : AP} (hB : MB r n) (hl : as.length ≤ rL r) (k : C r as h a b Q) : Met l (ry r) (wm r) (rmOf r a b) (PcA G bs as h) (QcA G bs Q) a b (fun q => bs ≤ q) := OK_Cd l G bs _ r n as h a b Q hB hl k
end
section
/-! methods as records, links and facts: by program -/
def mJ9_floorMod_7cf53 : MR := (yJ9_floorMod_7cf53, cJ9_floorMod_7cf53, 3, (some .int), 0, 0)
theorem bJ9_floorMod_7cf53 : MB mJ9_floorMod_7cf53 2 := ⟨Wl_in (by decide +kernel) (by decide +kernel), Wl_in (by decide +kernel) (by decide +kernel), by decide +kernel, by decide, by decide +kernel, by decide +kernel, by decide +kernel⟩
theorem vJ9_floorMod_7cf53 : MS mJ9_floorMod_7cf53 2 := ⟨bJ9_floorMod_7cf53, Wl_in (by decide +kernel) (by decide +kernel)⟩
def mL_at : MR := (yL_at, cL_at, 4, (some .int), 0, 0)
theorem bL_at : MB mL_at 3 := ⟨Wl_in (by decide +kernel) (by decide +kernel), Wl_in (by decide +kernel) (by decide +kernel), by decide +kernel, by decide, by decide +kernel, by decide +kernel, by decide +kernel⟩
theorem vL_at : MS mL_at 3 := ⟨bL_at, Wl_in (by decide +kernel) (by decide +kernel)⟩
def mL_cell : MR := (yL_cell, cL_cell, 2, (some .int), 0, 0)
theorem bL_cell : MB mL_cell 2 := ⟨Wl_in (by decide +kernel) (by decide +kernel), Wl_in (by decide +kernel) (by decide +kernel), by decide +kernel, by decide, by decide +kernel, by decide +kernel, by decide +kernel⟩
theorem vL_cell : MS mL_cell 2 := ⟨bL_cell, Wl_in (by decide +kernel) (by decide +kernel)⟩
def mL_first : MR := (yL_first, cL_first, 4, (some .int), 0, 0)
theorem bL_first : MB mL_first 3 := ⟨Wl_in (by decide +kernel) (by decide +kernel), Wl_in (by decide +kernel) (by decide +kernel), by decide +kernel, by decide, by decide +kernel, by decide +kernel, by decide +kernel⟩
theorem vL_first : MS mL_first 3 := ⟨bL_first, Wl_in (by decide +kernel) (by decide +kernel)⟩
def mL_kind : MR := (yL_kind, cL_kind, 3, (some .int), 0, 0)
theorem bL_kind : MB mL_kind 2 := ⟨Wl_in (by decide +kernel) (by decide +kernel), Wl_in (by decide +kernel) (by decide +kernel), by decide +kernel, by decide, by decide +kernel, by decide +kernel, by decide +kernel⟩
theorem vL_kind : MS mL_kind 2 := ⟨bL_kind, Wl_in (by decide +kernel) (by decide +kernel)⟩
def mL_low : MR := (yL_low, cL_low, 2, (some .int), 0, 0)
theorem bL_low : MB mL_low 2 := ⟨Wl_in (by decide +kernel) (by decide +kernel), Wl_in (by decide +kernel) (by decide +kernel), by decide +kernel, by decide, by decide +kernel, by decide +kernel, by decide +kernel⟩
theorem vL_low : MS mL_low 2 := ⟨bL_low, Wl_in (by decide +kernel) (by decide +kernel)⟩
def mL_mute : MR := (yL_mute, cL_mute, 5, (some .int), 0, 0)
theorem bL_mute : MB mL_mute 3 := ⟨Wl_in (by decide +kernel) (by decide +kernel), Wl_in (by decide +kernel) (by decide +kernel), by decide +kernel, by decide, by decide +kernel, by decide +kernel, by decide +kernel⟩
theorem vL_mute : MS mL_mute 3 := ⟨bL_mute, Wl_in (by decide +kernel) (by decide +kernel)⟩
def mL_one : MR := (yL_one, cL_one, 1, (some .int), 0, 0)
theorem bL_one : MB mL_one 1 := ⟨Wl_in (by decide +kernel) (by decide +kernel), Wl_in (by decide +kernel) (by decide +kernel), by decide +kernel, by decide, by decide +kernel, by decide +kernel, by decide +kernel⟩
theorem vL_one : MS mL_one 1 := ⟨bL_one, Wl_in (by decide +kernel) (by decide +kernel)⟩
def mL_place : MR := (yL_place, cL_place, 4, (some .int), 0, 0)
theorem bL_place : MB mL_place 3 := ⟨Wl_in (by decide +kernel) (by decide +kernel), Wl_in (by decide +kernel) (by decide +kernel), by decide +kernel, by decide, by decide +kernel, by decide +kernel, by decide +kernel⟩
theorem vL_place : MS mL_place 3 := ⟨bL_place, Wl_in (by decide +kernel) (by decide +kernel)⟩
def mL_put : MR := (yL_put, cL_put, 4, none, 0, 0)
theorem bL_put : MB mL_put 3 := ⟨Wl_in (by decide +kernel) (by decide +kernel), Wl_in (by decide +kernel) (by decide +kernel), by decide +kernel, by decide, by decide +kernel, by decide +kernel, by decide +kernel⟩
theorem vL_put : MS mL_put 3 := ⟨bL_put, Wl_in (by decide +kernel) (by decide +kernel)⟩
def mL_two : MR := (yL_two, cL_two, 1, (some .int), 0, 0)
theorem bL_two : MB mL_two 1 := ⟨Wl_in (by decide +kernel) (by decide +kernel), Wl_in (by decide +kernel) (by decide +kernel), by decide +kernel, by decide, by decide +kernel, by decide +kernel, by decide +kernel⟩
theorem vL_two : MS mL_two 1 := ⟨bL_two, Wl_in (by decide +kernel) (by decide +kernel)⟩
def mX3_bitOf : MR := (yX3_bitOf, cX3_bitOf, 2, (some .int), 0, 0)
theorem bX3_bitOf : MB mX3_bitOf 1 := ⟨Wl_in (by decide +kernel) (by decide +kernel), Wl_in (by decide +kernel) (by decide +kernel), by decide +kernel, by decide, by decide +kernel, by decide +kernel, by decide +kernel⟩
theorem vX3_bitOf : MV mX3_bitOf 1 := ⟨bX3_bitOf, by decide, Wl_in (by decide +kernel) (by decide +kernel), Wl_in (by decide +kernel) (by decide +kernel)⟩
def mX6_caseOf : MR := (yX6_caseOf, cX6_caseOf, 4, (some .int), 0, 0)
theorem bX6_caseOf : MB mX6_caseOf 2 := ⟨Wl_in (by decide +kernel) (by decide +kernel), Wl_in (by decide +kernel) (by decide +kernel), by decide +kernel, by decide, by decide +kernel, by decide +kernel, by decide +kernel⟩
theorem vX6_caseOf : MV mX6_caseOf 2 := ⟨bX6_caseOf, by decide, Wl_in (by decide +kernel) (by decide +kernel), Wl_in (by decide +kernel) (by decide +kernel)⟩
def mX6_hasMessage : MR := (yX6_hasMessage, cX6_hasMessage, 2, (some .boolean), 0, 0)
theorem bX6_hasMessage : MB mX6_hasMessage 1 := ⟨Wl_in (by decide +kernel) (by decide +kernel), Wl_in (by decide +kernel) (by decide +kernel), by decide +kernel, by decide, by decide +kernel, by decide +kernel, by decide +kernel⟩
theorem vX6_hasMessage : MV mX6_hasMessage 1 := ⟨bX6_hasMessage, by decide, Wl_in (by decide +kernel) (by decide +kernel), Wl_in (by decide +kernel) (by decide +kernel)⟩
def mX7_at : MR := (yX7_at, cX7_at, 2, (some .int), 0, 0)
theorem bX7_at : MB mX7_at 1 := ⟨Wl_in (by decide +kernel) (by decide +kernel), Wl_in (by decide +kernel) (by decide +kernel), by decide +kernel, by decide, by decide +kernel, by decide +kernel, by decide +kernel⟩
theorem vX7_at : MV mX7_at 1 := ⟨bX7_at, by decide, Wl_in (by decide +kernel) (by decide +kernel), Wl_in (by decide +kernel) (by decide +kernel)⟩
def mX7_put : MR := (yX7_put, cX7_put, 3, none, 0, 0)
theorem bX7_put : MB mX7_put 2 := ⟨Wl_in (by decide +kernel) (by decide +kernel), Wl_in (by decide +kernel) (by decide +kernel), by decide +kernel, by decide, by decide +kernel, by decide +kernel, by decide +kernel⟩
theorem vX7_put : MV mX7_put 2 := ⟨bX7_put, by decide, Wl_in (by decide +kernel) (by decide +kernel), Wl_in (by decide +kernel) (by decide +kernel)⟩
def mX8_hasStroke : MR := (yX8_hasStroke, cX8_hasStroke, 2, (some .boolean), 0, 0)
theorem bX8_hasStroke : MB mX8_hasStroke 1 := ⟨Wl_in (by decide +kernel) (by decide +kernel), Wl_in (by decide +kernel) (by decide +kernel), by decide +kernel, by decide, by decide +kernel, by decide +kernel, by decide +kernel⟩
theorem vX8_hasStroke : MV mX8_hasStroke 1 := ⟨bX8_hasStroke, by decide, Wl_in (by decide +kernel) (by decide +kernel), Wl_in (by decide +kernel) (by decide +kernel)⟩
def mX8_isFull : MR := (yX8_isFull, cX8_isFull, 1, (some .boolean), 0, 0)
theorem bX8_isFull : MB mX8_isFull 0 := ⟨Wl_in (by decide +kernel) (by decide +kernel), Wl_in (by decide +kernel) (by decide +kernel), by decide +kernel, by decide, by decide +kernel, by decide +kernel, by decide +kernel⟩
theorem vX8_isFull : MV mX8_isFull 0 := ⟨bX8_isFull, by decide, Wl_in (by decide +kernel) (by decide +kernel), Wl_in (by decide +kernel) (by decide +kernel)⟩
def mX9_isLetter : MR := (yX9_isLetter, cX9_isLetter, 1, (some .boolean), 0, 0)
theorem bX9_isLetter : MB mX9_isLetter 1 := ⟨Wl_in (by decide +kernel) (by decide +kernel), Wl_in (by decide +kernel) (by decide +kernel), by decide +kernel, by decide, by decide +kernel, by decide +kernel, by decide +kernel⟩
theorem vX9_isLetter : MS mX9_isLetter 1 := ⟨bX9_isLetter, Wl_in (by decide +kernel) (by decide +kernel)⟩
def mX9_orNotFound : MR := (yX9_orNotFound, cX9_orNotFound, 1, (some .int), 0, 0)
theorem bX9_orNotFound : MB mX9_orNotFound 1 := ⟨Wl_in (by decide +kernel) (by decide +kernel), Wl_in (by decide +kernel) (by decide +kernel), by decide +kernel, by decide, by decide +kernel, by decide +kernel, by decide +kernel⟩
theorem vX9_orNotFound : MS mX9_orNotFound 1 := ⟨bX9_orNotFound, Wl_in (by decide +kernel) (by decide +kernel)⟩
def mL_doubt : MR := (yL_doubt, cL_doubt, 2, (some .boolean), 1, 22)
theorem bL_doubt : MB mL_doubt 2 := ⟨Wl_in (by decide +kernel) (by decide +kernel), Wl_in (by decide +kernel) (by decide +kernel), by decide +kernel, by decide, by decide +kernel, by decide +kernel, by decide +kernel⟩
theorem vL_doubt : MS mL_doubt 2 := ⟨bL_doubt, Wl_in (by decide +kernel) (by decide +kernel)⟩
def mL_good : MR := (yL_good, cL_good, 1, (some .boolean), 1, 20)
theorem bL_good : MB mL_good 1 := ⟨Wl_in (by decide +kernel) (by decide +kernel), Wl_in (by decide +kernel) (by decide +kernel), by decide +kernel, by decide, by decide +kernel, by decide +kernel, by decide +kernel⟩
theorem vL_good : MS mL_good 1 := ⟨bL_good, Wl_in (by decide +kernel) (by decide +kernel)⟩
def mL_read : MR := (yL_read, cL_read, 15, (some .int), 1, 22)
theorem bL_read : MB mL_read 9 := ⟨Wl_in (by decide +kernel) (by decide +kernel), Wl_in (by decide +kernel) (by decide +kernel), by decide +kernel, by decide, by decide +kernel, by decide +kernel, by decide +kernel⟩
theorem vL_read : MS mL_read 9 := ⟨bL_read, Wl_in (by decide +kernel) (by decide +kernel)⟩
def mL_ring : MR := (yL_ring, cL_ring, 6, none, 1, 23)
theorem bL_ring : MB mL_ring 4 := ⟨Wl_in (by decide +kernel) (by decide +kernel), Wl_in (by decide +kernel) (by decide +kernel), by decide +kernel, by decide, by decide +kernel, by decide +kernel, by decide +kernel⟩
theorem vL_ring : MS mL_ring 4 := ⟨bL_ring, Wl_in (by decide +kernel) (by decide +kernel)⟩
def mX1_init : MR := (yX1_init, cX1_init, 1, none, 1, 20)
theorem bX1_init : MB mX1_init 0 := ⟨Wl_in (by decide +kernel) (by decide +kernel), Wl_in (by decide +kernel) (by decide +kernel), by decide +kernel, by decide, by decide +kernel, by decide +kernel, by decide +kernel⟩
theorem vX1_init : MI mX1_init 0 := ⟨bX1_init, by decide, Wl_in (by decide +kernel) (by decide +kernel), by decide +kernel, rfl⟩
def mX2_stateAt : MR := (yX2_stateAt, cX2_stateAt, 3, (some (.object "BellWords$Tower")), 1, 22)
theorem bX2_stateAt : MB mX2_stateAt 1 := ⟨Wl_in (by decide +kernel) (by decide +kernel), Wl_in (by decide +kernel) (by decide +kernel), by decide +kernel, by decide, by decide +kernel, by decide +kernel, by decide +kernel⟩
theorem vX2_stateAt : MV mX2_stateAt 1 := ⟨bX2_stateAt, by decide, Wl_in (by decide +kernel) (by decide +kernel), Wl_in (by decide +kernel) (by decide +kernel)⟩
def mX3_begin : MR := (yX3_begin, cX3_begin, 1, none, 1, 22)
theorem bX3_begin : MB mX3_begin 0 := ⟨Wl_in (by decide +kernel) (by decide +kernel), Wl_in (by decide +kernel) (by decide +kernel), by decide +kernel, by decide, by decide +kernel, by decide +kernel, by decide +kernel⟩
theorem vX3_begin : MV mX3_begin 0 := ⟨bX3_begin, by decide, Wl_in (by decide +kernel) (by decide +kernel), Wl_in (by decide +kernel) (by decide +kernel)⟩
def mX3_letterBy : MR := (yX3_letterBy, cX3_letterBy, 3, (some .int), 1, 21)
theorem bX3_letterBy : MB mX3_letterBy 2 := ⟨Wl_in (by decide +kernel) (by decide +kernel), Wl_in (by decide +kernel) (by decide +kernel), by decide +kernel, by decide, by decide +kernel, by decide +kernel, by decide +kernel⟩
theorem vX3_letterBy : MV mX3_letterBy 2 := ⟨bX3_letterBy, by decide, Wl_in (by decide +kernel) (by decide +kernel), Wl_in (by decide +kernel) (by decide +kernel)⟩
def mX3_restart : MR := (yX3_restart, cX3_restart, 3, none, 1, 22)
theorem bX3_restart : MB mX3_restart 1 := ⟨Wl_in (by decide +kernel) (by decide +kernel), Wl_in (by decide +kernel) (by decide +kernel), by decide +kernel, by decide, by decide +kernel, by decide +kernel, by decide +kernel⟩
theorem vX3_restart : MV mX3_restart 1 := ⟨bX3_restart, by decide, Wl_in (by decide +kernel) (by decide +kernel), Wl_in (by decide +kernel) (by decide +kernel)⟩
def mX4_begin : MR := (yX4_begin, cX4_begin, 3, none, 1, 22)
theorem bX4_begin : MB mX4_begin 2 := ⟨Wl_in (by decide +kernel) (by decide +kernel), Wl_in (by decide +kernel) (by decide +kernel), by decide +kernel, by decide, by decide +kernel, by decide +kernel, by decide +kernel⟩
theorem vX4_begin : MV mX4_begin 2 := ⟨bX4_begin, by decide, Wl_in (by decide +kernel) (by decide +kernel), Wl_in (by decide +kernel) (by decide +kernel)⟩
def mX4_totalOf : MR := (yX4_totalOf, cX4_totalOf, 4, (some .int), 1, 21)
theorem bX4_totalOf : MB mX4_totalOf 1 := ⟨Wl_in (by decide +kernel) (by decide +kernel), Wl_in (by decide +kernel) (by decide +kernel), by decide +kernel, by decide, by decide +kernel, by decide +kernel, by decide +kernel⟩
theorem vX4_totalOf : MV mX4_totalOf 1 := ⟨bX4_totalOf, by decide, Wl_in (by decide +kernel) (by decide +kernel), Wl_in (by decide +kernel) (by decide +kernel)⟩
def mX6_gapDetail : MR := (yX6_gapDetail, cX6_gapDetail, 3, (some .int), 1, 21)
theorem bX6_gapDetail : MB mX6_gapDetail 2 := ⟨Wl_in (by decide +kernel) (by decide +kernel), Wl_in (by decide +kernel) (by decide +kernel), by decide +kernel, by decide, by decide +kernel, by decide +kernel, by decide +kernel⟩
theorem vX6_gapDetail : MV mX6_gapDetail 2 := ⟨bX6_gapDetail, by decide, Wl_in (by decide +kernel) (by decide +kernel), Wl_in (by decide +kernel) (by decide +kernel)⟩
def mX6_indexOf : MR := (yX6_indexOf, cX6_indexOf, 3, (some .int), 1, 21)
theorem bX6_indexOf : MB mX6_indexOf 2 := ⟨Wl_in (by decide +kernel) (by decide +kernel), Wl_in (by decide +kernel) (by decide +kernel), by decide +kernel, by decide, by decide +kernel, by decide +kernel, by decide +kernel⟩
theorem vX6_indexOf : MV mX6_indexOf 2 := ⟨bX6_indexOf, by decide, Wl_in (by decide +kernel) (by decide +kernel), Wl_in (by decide +kernel) (by decide +kernel)⟩
def mX6_isLeftOut : MR := (yX6_isLeftOut, cX6_isLeftOut, 2, (some .boolean), 1, 21)
theorem bX6_isLeftOut : MB mX6_isLeftOut 1 := ⟨Wl_in (by decide +kernel) (by decide +kernel), Wl_in (by decide +kernel) (by decide +kernel), by decide +kernel, by decide, by decide +kernel, by decide +kernel, by decide +kernel⟩
theorem vX6_isLeftOut : MV mX6_isLeftOut 1 := ⟨bX6_isLeftOut, by decide, Wl_in (by decide +kernel) (by decide +kernel), Wl_in (by decide +kernel) (by decide +kernel)⟩
def mX6_lengthOf : MR := (yX6_lengthOf, cX6_lengthOf, 2, (some .int), 1, 21)
theorem bX6_lengthOf : MB mX6_lengthOf 1 := ⟨Wl_in (by decide +kernel) (by decide +kernel), Wl_in (by decide +kernel) (by decide +kernel), by decide +kernel, by decide, by decide +kernel, by decide +kernel, by decide +kernel⟩
theorem vX6_lengthOf : MV mX6_lengthOf 1 := ⟨bX6_lengthOf, by decide, Wl_in (by decide +kernel) (by decide +kernel), Wl_in (by decide +kernel) (by decide +kernel)⟩
def mX6_noteGap : MR := (yX6_noteGap, cX6_noteGap, 6, none, 1, 23)
theorem bX6_noteGap : MB mX6_noteGap 3 := ⟨Wl_in (by decide +kernel) (by decide +kernel), Wl_in (by decide +kernel) (by decide +kernel), by decide +kernel, by decide, by decide +kernel, by decide +kernel, by decide +kernel⟩
theorem vX6_noteGap : MV mX6_noteGap 3 := ⟨bX6_noteGap, by decide, Wl_in (by decide +kernel) (by decide +kernel), Wl_in (by decide +kernel) (by decide +kernel)⟩
def mX6_placeDetail : MR := (yX6_placeDetail, cX6_placeDetail, 3, (some .int), 1, 21)
theorem bX6_placeDetail : MB mX6_placeDetail 2 := ⟨Wl_in (by decide +kernel) (by decide +kernel), Wl_in (by decide +kernel) (by decide +kernel), by decide +kernel, by decide, by decide +kernel, by decide +kernel, by decide +kernel⟩
theorem vX6_placeDetail : MV mX6_placeDetail 2 := ⟨bX6_placeDetail, by decide, Wl_in (by decide +kernel) (by decide +kernel), Wl_in (by decide +kernel) (by decide +kernel)⟩
def mX7_add : MR := (yX7_add, cX7_add, 3, none, 1, 22)
theorem bX7_add : MB mX7_add 2 := ⟨Wl_in (by decide +kernel) (by decide +kernel), Wl_in (by decide +kernel) (by decide +kernel), by decide +kernel, by decide, by decide +kernel, by decide +kernel, by decide +kernel⟩
theorem vX7_add : MV mX7_add 2 := ⟨bX7_add, by decide, Wl_in (by decide +kernel) (by decide +kernel), Wl_in (by decide +kernel) (by decide +kernel)⟩
def mX7_copy : MR := (yX7_copy, cX7_copy, 4, none, 1, 22)
theorem bX7_copy : MB mX7_copy 2 := ⟨Wl_in (by decide +kernel) (by decide +kernel), Wl_in (by decide +kernel) (by decide +kernel), by decide +kernel, by decide, by decide +kernel, by decide +kernel, by decide +kernel⟩
theorem vX7_copy : MV mX7_copy 2 := ⟨bX7_copy, by decide, Wl_in (by decide +kernel) (by decide +kernel), Wl_in (by decide +kernel) (by decide +kernel)⟩
def mX7_init : MR := (yX7_init, cX7_init, 2, none, 1, 20)
theorem bX7_init : MB mX7_init 1 := ⟨Wl_in (by decide +kernel) (by decide +kernel), Wl_in (by decide +kernel) (by decide +kernel), by decide +kernel, by decide, by decide +kernel, by decide +kernel, by decide +kernel⟩
theorem vX7_init : MI mX7_init 1 := ⟨bX7_init, by decide, Wl_in (by decide +kernel) (by decide +kernel), by decide +kernel, rfl⟩
def mX8_columnOf : MR := (yX8_columnOf, cX8_columnOf, 2, (some .int), 1, 21)
theorem bX8_columnOf : MB mX8_columnOf 1 := ⟨Wl_in (by decide +kernel) (by decide +kernel), Wl_in (by decide +kernel) (by decide +kernel), by decide +kernel, by decide, by decide +kernel, by decide +kernel, by decide +kernel⟩
theorem vX8_columnOf : MV mX8_columnOf 1 := ⟨bX8_columnOf, by decide, Wl_in (by decide +kernel) (by decide +kernel), Wl_in (by decide +kernel) (by decide +kernel)⟩
def mX8_exchange : MR := (yX8_exchange, cX8_exchange, 4, none, 1, 22)
theorem bX8_exchange : MB mX8_exchange 2 := ⟨Wl_in (by decide +kernel) (by decide +kernel), Wl_in (by decide +kernel) (by decide +kernel), by decide +kernel, by decide, by decide +kernel, by decide +kernel, by decide +kernel⟩
theorem vX8_exchange : MV mX8_exchange 2 := ⟨bX8_exchange, by decide, Wl_in (by decide +kernel) (by decide +kernel), Wl_in (by decide +kernel) (by decide +kernel)⟩
def mX8_lastTime : MR := (yX8_lastTime, cX8_lastTime, 1, (some .int), 1, 21)
theorem bX8_lastTime : MB mX8_lastTime 0 := ⟨Wl_in (by decide +kernel) (by decide +kernel), Wl_in (by decide +kernel) (by decide +kernel), by decide +kernel, by decide, by decide +kernel, by decide +kernel, by decide +kernel⟩
theorem vX8_lastTime : MV mX8_lastTime 0 := ⟨bX8_lastTime, by decide, Wl_in (by decide +kernel) (by decide +kernel), Wl_in (by decide +kernel) (by decide +kernel)⟩
def mX8_nextTime : MR := (yX8_nextTime, cX8_nextTime, 1, (some .int), 1, 21)
theorem bX8_nextTime : MB mX8_nextTime 0 := ⟨Wl_in (by decide +kernel) (by decide +kernel), Wl_in (by decide +kernel) (by decide +kernel), by decide +kernel, by decide, by decide +kernel, by decide +kernel, by decide +kernel⟩
theorem vX8_nextTime : MV mX8_nextTime 0 := ⟨bX8_nextTime, by decide, Wl_in (by decide +kernel) (by decide +kernel), Wl_in (by decide +kernel) (by decide +kernel)⟩
def mX8_removeStroke : MR := (yX8_removeStroke, cX8_removeStroke, 3, none, 1, 22)
theorem bX8_removeStroke : MB mX8_removeStroke 1 := ⟨Wl_in (by decide +kernel) (by decide +kernel), Wl_in (by decide +kernel) (by decide +kernel), by decide +kernel, by decide, by decide +kernel, by decide +kernel, by decide +kernel⟩
theorem vX8_removeStroke : MV mX8_removeStroke 1 := ⟨bX8_removeStroke, by decide, Wl_in (by decide +kernel) (by decide +kernel), Wl_in (by decide +kernel) (by decide +kernel)⟩
def mX8_ringGroup : MR := (yX8_ringGroup, cX8_ringGroup, 4, none, 1, 22)
theorem bX8_ringGroup : MB mX8_ringGroup 2 := ⟨Wl_in (by decide +kernel) (by decide +kernel), Wl_in (by decide +kernel) (by decide +kernel), by decide +kernel, by decide, by decide +kernel, by decide +kernel, by decide +kernel⟩
theorem vX8_ringGroup : MV mX8_ringGroup 2 := ⟨bX8_ringGroup, by decide, Wl_in (by decide +kernel) (by decide +kernel), Wl_in (by decide +kernel) (by decide +kernel)⟩
def mX8_rowOf : MR := (yX8_rowOf, cX8_rowOf, 2, (some .int), 1, 21)
theorem bX8_rowOf : MB mX8_rowOf 1 := ⟨Wl_in (by decide +kernel) (by decide +kernel), Wl_in (by decide +kernel) (by decide +kernel), by decide +kernel, by decide, by decide +kernel, by decide +kernel, by decide +kernel⟩
theorem vX8_rowOf : MV mX8_rowOf 1 := ⟨bX8_rowOf, by decide, Wl_in (by decide +kernel) (by decide +kernel), Wl_in (by decide +kernel) (by decide +kernel)⟩
def mX8_strokesAhead : MR := (yX8_strokesAhead, cX8_strokesAhead, 3, (some .int), 1, 21)
theorem bX8_strokesAhead : MB mX8_strokesAhead 1 := ⟨Wl_in (by decide +kernel) (by decide +kernel), Wl_in (by decide +kernel) (by decide +kernel), by decide +kernel, by decide, by decide +kernel, by decide +kernel, by decide +kernel⟩
theorem vX8_strokesAhead : MV mX8_strokesAhead 1 := ⟨bX8_strokesAhead, by decide, Wl_in (by decide +kernel) (by decide +kernel), Wl_in (by decide +kernel) (by decide +kernel)⟩
def mL_letter : MR := (yL_letter, cL_letter, 2, (some .int), 2, 40)
theorem bL_letter : MB mL_letter 2 := ⟨Wl_in (by decide +kernel) (by decide +kernel), Wl_in (by decide +kernel) (by decide +kernel), by decide +kernel, by decide, by decide +kernel, by decide +kernel, by decide +kernel⟩
theorem vL_letter : MS mL_letter 2 := ⟨bL_letter, Wl_in (by decide +kernel) (by decide +kernel)⟩
def mX0_init : MR := (yX0_init, cX0_init, 1, none, 2, 41)
theorem bX0_init : MB mX0_init 0 := ⟨Wl_in (by decide +kernel) (by decide +kernel), Wl_in (by decide +kernel) (by decide +kernel), by decide +kernel, by decide, by decide +kernel, by decide +kernel, by decide +kernel⟩
theorem vX0_init : MI mX0_init 0 := ⟨bX0_init, by decide, Wl_in (by decide +kernel) (by decide +kernel), by decide +kernel, rfl⟩
def mX3_init : MR := (yX3_init, cX3_init, 1, none, 2, 41)
theorem bX3_init : MB mX3_init 0 := ⟨Wl_in (by decide +kernel) (by decide +kernel), Wl_in (by decide +kernel) (by decide +kernel), by decide +kernel, by decide, by decide +kernel, by decide +kernel, by decide +kernel⟩
theorem vX3_init : MI mX3_init 0 := ⟨bX3_init, by decide, Wl_in (by decide +kernel) (by decide +kernel), by decide +kernel, rfl⟩
def mX3_lengthen : MR := (yX3_lengthen, cX3_lengthen, 3, none, 2, 44)
theorem bX3_lengthen : MB mX3_lengthen 1 := ⟨Wl_in (by decide +kernel) (by decide +kernel), Wl_in (by decide +kernel) (by decide +kernel), by decide +kernel, by decide, by decide +kernel, by decide +kernel, by decide +kernel⟩
theorem vX3_lengthen : MV mX3_lengthen 1 := ⟨bX3_lengthen, by decide, Wl_in (by decide +kernel) (by decide +kernel), Wl_in (by decide +kernel) (by decide +kernel)⟩
def mX3_letterWith : MR := (yX3_letterWith, cX3_letterWith, 6, (some .int), 2, 43)
theorem bX3_letterWith : MB mX3_letterWith 3 := ⟨Wl_in (by decide +kernel) (by decide +kernel), Wl_in (by decide +kernel) (by decide +kernel), by decide +kernel, by decide, by decide +kernel, by decide +kernel, by decide +kernel⟩
theorem vX3_letterWith : MV mX3_letterWith 3 := ⟨bX3_letterWith, by decide, Wl_in (by decide +kernel) (by decide +kernel), Wl_in (by decide +kernel) (by decide +kernel)⟩
def mX4_addTo : MR := (yX4_addTo, cX4_addTo, 2, none, 2, 44)
theorem bX4_addTo : MB mX4_addTo 1 := ⟨Wl_in (by decide +kernel) (by decide +kernel), Wl_in (by decide +kernel) (by decide +kernel), by decide +kernel, by decide, by decide +kernel, by decide +kernel, by decide +kernel⟩
theorem vX4_addTo : MV mX4_addTo 1 := ⟨bX4_addTo, by decide, Wl_in (by decide +kernel) (by decide +kernel), Wl_in (by decide +kernel) (by decide +kernel)⟩
def mX4_init : MR := (yX4_init, cX4_init, 1, none, 2, 41)
theorem bX4_init : MB mX4_init 0 := ⟨Wl_in (by decide +kernel) (by decide +kernel), Wl_in (by decide +kernel) (by decide +kernel), by decide +kernel, by decide, by decide +kernel, by decide +kernel, by decide +kernel⟩
theorem vX4_init : MI mX4_init 0 := ⟨bX4_init, by decide, Wl_in (by decide +kernel) (by decide +kernel), by decide +kernel, rfl⟩
def mX5_init : MR := (yX5_init, cX5_init, 1, none, 2, 41)
theorem bX5_init : MB mX5_init 0 := ⟨Wl_in (by decide +kernel) (by decide +kernel), Wl_in (by decide +kernel) (by decide +kernel), by decide +kernel, by decide, by decide +kernel, by decide +kernel, by decide +kernel⟩
theorem vX5_init : MI mX5_init 0 := ⟨bX5_init, by decide, Wl_in (by decide +kernel) (by decide +kernel), by decide +kernel, rfl⟩
def mX6_letterIn : MR := (yX6_letterIn, cX6_letterIn, 3, (some .int), 2, 43)
theorem bX6_letterIn : MB mX6_letterIn 2 := ⟨Wl_in (by decide +kernel) (by decide +kernel), Wl_in (by decide +kernel) (by decide +kernel), by decide +kernel, by decide, by decide +kernel, by decide +kernel, by decide +kernel⟩
theorem vX6_letterIn : MV mX6_letterIn 2 := ⟨bX6_letterIn, by decide, Wl_in (by decide +kernel) (by decide +kernel), Wl_in (by decide +kernel) (by decide +kernel)⟩
def mX8_addStroke : MR := (yX8_addStroke, cX8_addStroke, 4, (some .int), 2, 43)
theorem bX8_addStroke : MB mX8_addStroke 1 := ⟨Wl_in (by decide +kernel) (by decide +kernel), Wl_in (by decide +kernel) (by decide +kernel), by decide +kernel, by decide, by decide +kernel, by decide +kernel, by decide +kernel⟩
theorem vX8_addStroke : MV mX8_addStroke 1 := ⟨bX8_addStroke, by decide, Wl_in (by decide +kernel) (by decide +kernel), Wl_in (by decide +kernel) (by decide +kernel)⟩
def mX8_become : MR := (yX8_become, cX8_become, 2, none, 2, 45)
theorem bX8_become : MB mX8_become 1 := ⟨Wl_in (by decide +kernel) (by decide +kernel), Wl_in (by decide +kernel) (by decide +kernel), by decide +kernel, by decide, by decide +kernel, by decide +kernel, by decide +kernel⟩
theorem vX8_become : MV mX8_become 1 := ⟨bX8_become, by decide, Wl_in (by decide +kernel) (by decide +kernel), Wl_in (by decide +kernel) (by decide +kernel)⟩
def mX8_hasRoomFor : MR := (yX8_hasRoomFor, cX8_hasRoomFor, 4, (some .boolean), 2, 42)
theorem bX8_hasRoomFor : MB mX8_hasRoomFor 1 := ⟨Wl_in (by decide +kernel) (by decide +kernel), Wl_in (by decide +kernel) (by decide +kernel), by decide +kernel, by decide, by decide +kernel, by decide +kernel, by decide +kernel⟩
theorem vX8_hasRoomFor : MV mX8_hasRoomFor 1 := ⟨bX8_hasRoomFor, by decide, Wl_in (by decide +kernel) (by decide +kernel), Wl_in (by decide +kernel) (by decide +kernel)⟩
def mX8_hasStrokeAt : MR := (yX8_hasStrokeAt, cX8_hasStrokeAt, 3, (some .boolean), 2, 43)
theorem bX8_hasStrokeAt : MB mX8_hasStrokeAt 1 := ⟨Wl_in (by decide +kernel) (by decide +kernel), Wl_in (by decide +kernel) (by decide +kernel), by decide +kernel, by decide, by decide +kernel, by decide +kernel, by decide +kernel⟩
theorem vX8_hasStrokeAt : MV mX8_hasStrokeAt 1 := ⟨bX8_hasStrokeAt, by decide, Wl_in (by decide +kernel) (by decide +kernel), Wl_in (by decide +kernel) (by decide +kernel)⟩
def mX8_init : MR := (yX8_init, cX8_init, 2, none, 2, 41)
theorem bX8_init : MB mX8_init 0 := ⟨Wl_in (by decide +kernel) (by decide +kernel), Wl_in (by decide +kernel) (by decide +kernel), by decide +kernel, by decide, by decide +kernel, by decide +kernel, by decide +kernel⟩
theorem vX8_init : MI mX8_init 0 := ⟨bX8_init, by decide, Wl_in (by decide +kernel) (by decide +kernel), by decide +kernel, rfl⟩
def mX8_ringLetter : MR := (yX8_ringLetter, cX8_ringLetter, 4, none, 2, 45)
theorem bX8_ringLetter : MB mX8_ringLetter 1 := ⟨Wl_in (by decide +kernel) (by decide +kernel), Wl_in (by decide +kernel) (by decide +kernel), by decide +kernel, by decide, by decide +kernel, by decide +kernel, by decide +kernel⟩
theorem vX8_ringLetter : MV mX8_ringLetter 1 := ⟨bX8_ringLetter, by decide, Wl_in (by decide +kernel) (by decide +kernel), Wl_in (by decide +kernel) (by decide +kernel)⟩
def mX8_tablePlace : MR := (yX8_tablePlace, cX8_tablePlace, 2, (some .int), 2, 42)
theorem bX8_tablePlace : MB mX8_tablePlace 1 := ⟨Wl_in (by decide +kernel) (by decide +kernel), Wl_in (by decide +kernel) (by decide +kernel), by decide +kernel, by decide, by decide +kernel, by decide +kernel, by decide +kernel⟩
theorem vX8_tablePlace : MV mX8_tablePlace 1 := ⟨bX8_tablePlace, by decide, Wl_in (by decide +kernel) (by decide +kernel), Wl_in (by decide +kernel) (by decide +kernel)⟩
def mX9_countOfState : MR := (yX9_countOfState, cX9_countOfState, 2, (some .int), 2, 41)
theorem bX9_countOfState : MB mX9_countOfState 1 := ⟨Wl_in (by decide +kernel) (by decide +kernel), Wl_in (by decide +kernel) (by decide +kernel), by decide +kernel, by decide, by decide +kernel, by decide +kernel, by decide +kernel⟩
theorem vX9_countOfState : MV mX9_countOfState 1 := ⟨bX9_countOfState, by decide, Wl_in (by decide +kernel) (by decide +kernel), Wl_in (by decide +kernel) (by decide +kernel)⟩
def mX9_strokeOf : MR := (yX9_strokeOf, cX9_strokeOf, 3, (some .int), 2, 43)
theorem bX9_strokeOf : MB mX9_strokeOf 2 := ⟨Wl_in (by decide +kernel) (by decide +kernel), Wl_in (by decide +kernel) (by decide +kernel), by decide +kernel, by decide, by decide +kernel, by decide +kernel, by decide +kernel⟩
theorem vX9_strokeOf : MV mX9_strokeOf 2 := ⟨bX9_strokeOf, by decide, Wl_in (by decide +kernel) (by decide +kernel), Wl_in (by decide +kernel) (by decide +kernel)⟩
def mL_right : MR := (yL_right, cL_right, 7, (some .boolean), 3, 61)
theorem bL_right : MB mL_right 4 := ⟨Wl_in (by decide +kernel) (by decide +kernel), Wl_in (by decide +kernel) (by decide +kernel), by decide +kernel, by decide, by decide +kernel, by decide +kernel, by decide +kernel⟩
theorem vL_right : MS mL_right 4 := ⟨bL_right, Wl_in (by decide +kernel) (by decide +kernel)⟩
def mX2_init : MR := (yX2_init, cX2_init, 2, none, 3, 62)
theorem bX2_init : MB mX2_init 0 := ⟨Wl_in (by decide +kernel) (by decide +kernel), Wl_in (by decide +kernel) (by decide +kernel), by decide +kernel, by decide, by decide +kernel, by decide +kernel, by decide +kernel⟩
theorem vX2_init : MI mX2_init 0 := ⟨bX2_init, by decide, Wl_in (by decide +kernel) (by decide +kernel), by decide +kernel, rfl⟩
def mX2_record : MR := (yX2_record, cX2_record, 3, none, 3, 66)
theorem bX2_record : MB mX2_record 1 := ⟨Wl_in (by decide +kernel) (by decide +kernel), Wl_in (by decide +kernel) (by decide +kernel), by decide +kernel, by decide, by decide +kernel, by decide +kernel, by decide +kernel⟩
theorem vX2_record : MV mX2_record 1 := ⟨bX2_record, by decide, Wl_in (by decide +kernel) (by decide +kernel), Wl_in (by decide +kernel) (by decide +kernel)⟩
def mX3_beginGroup : MR := (yX3_beginGroup, cX3_beginGroup, 1, none, 3, 66)
theorem bX3_beginGroup : MB mX3_beginGroup 0 := ⟨Wl_in (by decide +kernel) (by decide +kernel), Wl_in (by decide +kernel) (by decide +kernel), by decide +kernel, by decide, by decide +kernel, by decide +kernel, by decide +kernel⟩
theorem vX3_beginGroup : MV mX3_beginGroup 0 := ⟨bX3_beginGroup, by decide, Wl_in (by decide +kernel) (by decide +kernel), Wl_in (by decide +kernel) (by decide +kernel)⟩
def mX3_settle : MR := (yX3_settle, cX3_settle, 2, none, 3, 68)
theorem bX3_settle : MB mX3_settle 0 := ⟨Wl_in (by decide +kernel) (by decide +kernel), Wl_in (by decide +kernel) (by decide +kernel), by decide +kernel, by decide, by decide +kernel, by decide +kernel, by decide +kernel⟩
theorem vX3_settle : MV mX3_settle 0 := ⟨bX3_settle, by decide, Wl_in (by decide +kernel) (by decide +kernel), Wl_in (by decide +kernel) (by decide +kernel)⟩
def mX3_withOneMore : MR := (yX3_withOneMore, cX3_withOneMore, 2, (some .int), 3, 68)
theorem bX3_withOneMore : MB mX3_withOneMore 1 := ⟨Wl_in (by decide +kernel) (by decide +kernel), Wl_in (by decide +kernel) (by decide +kernel), by decide +kernel, by decide, by decide +kernel, by decide +kernel, by decide +kernel⟩
theorem vX3_withOneMore : MV mX3_withOneMore 1 := ⟨bX3_withOneMore, by decide, Wl_in (by decide +kernel) (by decide +kernel), Wl_in (by decide +kernel) (by decide +kernel)⟩
def mX6_beginLetter : MR := (yX6_beginLetter, cX6_beginLetter, 1, none, 3, 65)
theorem bX6_beginLetter : MB mX6_beginLetter 0 := ⟨Wl_in (by decide +kernel) (by decide +kernel), Wl_in (by decide +kernel) (by decide +kernel), by decide +kernel, by decide, by decide +kernel, by decide +kernel, by decide +kernel⟩
theorem vX6_beginLetter : MV mX6_beginLetter 0 := ⟨bX6_beginLetter, by decide, Wl_in (by decide +kernel) (by decide +kernel), Wl_in (by decide +kernel) (by decide +kernel)⟩
def mX6_init : MR := (yX6_init, cX6_init, 1, none, 3, 61)
theorem bX6_init : MB mX6_init 0 := ⟨Wl_in (by decide +kernel) (by decide +kernel), Wl_in (by decide +kernel) (by decide +kernel), by decide +kernel, by decide, by decide +kernel, by decide +kernel, by decide +kernel⟩
theorem vX6_init : MI mX6_init 0 := ⟨bX6_init, by decide, Wl_in (by decide +kernel) (by decide +kernel), by decide +kernel, rfl⟩
def mX6_isRightWith : MR := (yX6_isRightWith, cX6_isRightWith, 9, (some .boolean), 3, 65)
theorem bX6_isRightWith : MB mX6_isRightWith 3 := ⟨Wl_in (by decide +kernel) (by decide +kernel), Wl_in (by decide +kernel) (by decide +kernel), by decide +kernel, by decide, by decide +kernel, by decide +kernel, by decide +kernel⟩
theorem vX6_isRightWith : MV mX6_isRightWith 3 := ⟨bX6_isRightWith, by decide, Wl_in (by decide +kernel) (by decide +kernel), Wl_in (by decide +kernel) (by decide +kernel)⟩
def mX6_notePlace : MR := (yX6_notePlace, cX6_notePlace, 3, none, 3, 65)
theorem bX6_notePlace : MB mX6_notePlace 1 := ⟨Wl_in (by decide +kernel) (by decide +kernel), Wl_in (by decide +kernel) (by decide +kernel), by decide +kernel, by decide, by decide +kernel, by decide +kernel, by decide +kernel⟩
theorem vX6_notePlace : MV mX6_notePlace 1 := ⟨bX6_notePlace, by decide, Wl_in (by decide +kernel) (by decide +kernel), Wl_in (by decide +kernel) (by decide +kernel)⟩
def mX6_sumUp : MR := (yX6_sumUp, cX6_sumUp, 4, none, 3, 65)
theorem bX6_sumUp : MB mX6_sumUp 0 := ⟨Wl_in (by decide +kernel) (by decide +kernel), Wl_in (by decide +kernel) (by decide +kernel), by decide +kernel, by decide, by decide +kernel, by decide +kernel, by decide +kernel⟩
theorem vX6_sumUp : MV mX6_sumUp 0 := ⟨bX6_sumUp, by decide, Wl_in (by decide +kernel) (by decide +kernel), Wl_in (by decide +kernel) (by decide +kernel)⟩
def mX9_tableOf : MR := (yX9_tableOf, cX9_tableOf, 2, (some .int), 3, 63)
theorem bX9_tableOf : MB mX9_tableOf 1 := ⟨Wl_in (by decide +kernel) (by decide +kernel), Wl_in (by decide +kernel) (by decide +kernel), by decide +kernel, by decide, by decide +kernel, by decide +kernel, by decide +kernel⟩
theorem vX9_tableOf : MV mX9_tableOf 1 := ⟨bX9_tableOf, by decide, Wl_in (by decide +kernel) (by decide +kernel), Wl_in (by decide +kernel) (by decide +kernel)⟩
def mX1_consider : MR := (yX1_consider, cX1_consider, 8, none, 4, 93)
theorem bX1_consider : MB mX1_consider 6 := ⟨Wl_in (by decide +kernel) (by decide +kernel), Wl_in (by decide +kernel) (by decide +kernel), by decide +kernel, by decide, by decide +kernel, by decide +kernel, by decide +kernel⟩
theorem vX1_consider : MV mX1_consider 6 := ⟨bX1_consider, by decide, Wl_in (by decide +kernel) (by decide +kernel), Wl_in (by decide +kernel) (by decide +kernel)⟩
def mX6_goOn : MR := (yX6_goOn, cX6_goOn, 2, none, 4, 86)
theorem bX6_goOn : MB mX6_goOn 1 := ⟨Wl_in (by decide +kernel) (by decide +kernel), Wl_in (by decide +kernel) (by decide +kernel), by decide +kernel, by decide, by decide +kernel, by decide +kernel, by decide +kernel⟩
theorem vX6_goOn : MV mX6_goOn 1 := ⟨bX6_goOn, by decide, Wl_in (by decide +kernel) (by decide +kernel), Wl_in (by decide +kernel) (by decide +kernel)⟩
def mX6_isRight : MR := (yX6_isRight, cX6_isRight, 3, (some .boolean), 4, 93)
theorem bX6_isRight : MB mX6_isRight 1 := ⟨Wl_in (by decide +kernel) (by decide +kernel), Wl_in (by decide +kernel) (by decide +kernel), by decide +kernel, by decide, by decide +kernel, by decide +kernel, by decide +kernel⟩
theorem vX6_isRight : MV mX6_isRight 1 := ⟨bX6_isRight, by decide, Wl_in (by decide +kernel) (by decide +kernel), Wl_in (by decide +kernel) (by decide +kernel)⟩
def mX9_init : MR := (yX9_init, cX9_init, 1, none, 4, 83)
theorem bX9_init : MB mX9_init 0 := ⟨Wl_in (by decide +kernel) (by decide +kernel), Wl_in (by decide +kernel) (by decide +kernel), by decide +kernel, by decide, by decide +kernel, by decide +kernel, by decide +kernel⟩
theorem vX9_init : MI mX9_init 0 := ⟨bX9_init, by decide, Wl_in (by decide +kernel) (by decide +kernel), by decide +kernel, rfl⟩
def mX9_letterOf : MR := (yX9_letterOf, cX9_letterOf, 7, (some .int), 4, 89)
theorem bX9_letterOf : MB mX9_letterOf 3 := ⟨Wl_in (by decide +kernel) (by decide +kernel), Wl_in (by decide +kernel) (by decide +kernel), by decide +kernel, by decide, by decide +kernel, by decide +kernel, by decide +kernel⟩
theorem vX9_letterOf : MV mX9_letterOf 3 := ⟨bX9_letterOf, by decide, Wl_in (by decide +kernel) (by decide +kernel), Wl_in (by decide +kernel) (by decide +kernel)⟩
def mX9_pause : MR := (yX9_pause, cX9_pause, 1, (some .int), 4, 88)
theorem bX9_pause : MB mX9_pause 0 := ⟨Wl_in (by decide +kernel) (by decide +kernel), Wl_in (by decide +kernel) (by decide +kernel), by decide +kernel, by decide, by decide +kernel, by decide +kernel, by decide +kernel⟩
theorem vX9_pause : MV mX9_pause 0 := ⟨bX9_pause, by decide, Wl_in (by decide +kernel) (by decide +kernel), Wl_in (by decide +kernel) (by decide +kernel)⟩
def mX1_search : MR := (yX1_search, cX1_search, 6, none, 5, 120)
theorem bX1_search : MB mX1_search 3 := ⟨Wl_in (by decide +kernel) (by decide +kernel), Wl_in (by decide +kernel) (by decide +kernel), by decide +kernel, by decide, by decide +kernel, by decide +kernel, by decide +kernel⟩
theorem vX1_search : MV mX1_search 3 := ⟨bX1_search, by decide, Wl_in (by decide +kernel) (by decide +kernel), Wl_in (by decide +kernel) (by decide +kernel)⟩
def mX6_refresh : MR := (yX6_refresh, cX6_refresh, 5, none, 5, 107)
theorem bX6_refresh : MB mX6_refresh 1 := ⟨Wl_in (by decide +kernel) (by decide +kernel), Wl_in (by decide +kernel) (by decide +kernel), by decide +kernel, by decide, by decide +kernel, by decide +kernel, by decide +kernel⟩
theorem vX6_refresh : MV mX6_refresh 1 := ⟨bX6_refresh, by decide, Wl_in (by decide +kernel) (by decide +kernel), Wl_in (by decide +kernel) (by decide +kernel)⟩
def mX6_rightOnes : MR := (yX6_rightOnes, cX6_rightOnes, 3, (some .int), 5, 115)
theorem bX6_rightOnes : MB mX6_rightOnes 0 := ⟨Wl_in (by decide +kernel) (by decide +kernel), Wl_in (by decide +kernel) (by decide +kernel), by decide +kernel, by decide, by decide +kernel, by decide +kernel, by decide +kernel⟩
theorem vX6_rightOnes : MV mX6_rightOnes 0 := ⟨bX6_rightOnes, by decide, Wl_in (by decide +kernel) (by decide +kernel), Wl_in (by decide +kernel) (by decide +kernel)⟩
def mX1_fitting : MR := (yX1_fitting, cX1_fitting, 3, (some .int), 6, 145)
theorem bX1_fitting : MB mX1_fitting 2 := ⟨Wl_in (by decide +kernel) (by decide +kernel), Wl_in (by decide +kernel) (by decide +kernel), by decide +kernel, by decide, by decide +kernel, by decide +kernel, by decide +kernel⟩
theorem vX1_fitting : MV mX1_fitting 2 := ⟨bX1_fitting, by decide, Wl_in (by decide +kernel) (by decide +kernel), Wl_in (by decide +kernel) (by decide +kernel)⟩
def mX9_count : MR := (yX9_count, cX9_count, 2, (some .int), 6, 137)
theorem bX9_count : MB mX9_count 1 := ⟨Wl_in (by decide +kernel) (by decide +kernel), Wl_in (by decide +kernel) (by decide +kernel), by decide +kernel, by decide, by decide +kernel, by decide +kernel, by decide +kernel⟩
theorem vX9_count : MV mX9_count 1 := ⟨bX9_count, by decide, Wl_in (by decide +kernel) (by decide +kernel), Wl_in (by decide +kernel) (by decide +kernel)⟩
def mX9_mute : MR := (yX9_mute, cX9_mute, 3, (some .int), 6, 131)
theorem bX9_mute : MB mX9_mute 1 := ⟨Wl_in (by decide +kernel) (by decide +kernel), Wl_in (by decide +kernel) (by decide +kernel), by decide +kernel, by decide, by decide +kernel, by decide +kernel, by decide +kernel⟩
theorem vX9_mute : MV mX9_mute 1 := ⟨bX9_mute, by decide, Wl_in (by decide +kernel) (by decide +kernel), Wl_in (by decide +kernel) (by decide +kernel)⟩
def mX9_ring : MR := (yX9_ring, cX9_ring, 3, (some .int), 6, 131)
theorem bX9_ring : MB mX9_ring 1 := ⟨Wl_in (by decide +kernel) (by decide +kernel), Wl_in (by decide +kernel) (by decide +kernel), by decide +kernel, by decide, by decide +kernel, by decide +kernel, by decide +kernel⟩
theorem vX9_ring : MV mX9_ring 1 := ⟨bX9_ring, by decide, Wl_in (by decide +kernel) (by decide +kernel), Wl_in (by decide +kernel) (by decide +kernel)⟩
def mX9_set : MR := (yX9_set, cX9_set, 4, (some .int), 6, 131)
theorem bX9_set : MB mX9_set 2 := ⟨Wl_in (by decide +kernel) (by decide +kernel), Wl_in (by decide +kernel) (by decide +kernel), by decide +kernel, by decide, by decide +kernel, by decide +kernel, by decide +kernel⟩
theorem vX9_set : MV mX9_set 2 := ⟨bX9_set, by decide, Wl_in (by decide +kernel) (by decide +kernel), Wl_in (by decide +kernel) (by decide +kernel)⟩
def mX9_shift : MR := (yX9_shift, cX9_shift, 5, (some .int), 6, 131)
theorem bX9_shift : MB mX9_shift 2 := ⟨Wl_in (by decide +kernel) (by decide +kernel), Wl_in (by decide +kernel) (by decide +kernel), by decide +kernel, by decide, by decide +kernel, by decide +kernel, by decide +kernel⟩
theorem vX9_shift : MV mX9_shift 2 := ⟨bX9_shift, by decide, Wl_in (by decide +kernel) (by decide +kernel), Wl_in (by decide +kernel) (by decide +kernel)⟩
def mX9_strike : MR := (yX9_strike, cX9_strike, 3, (some .int), 6, 131)
theorem bX9_strike : MB mX9_strike 1 := ⟨Wl_in (by decide +kernel) (by decide +kernel), Wl_in (by decide +kernel) (by decide +kernel), by decide +kernel, by decide, by decide +kernel, by decide +kernel, by decide +kernel⟩
theorem vX9_strike : MV mX9_strike 1 := ⟨bX9_strike, by decide, Wl_in (by decide +kernel) (by decide +kernel), Wl_in (by decide +kernel) (by decide +kernel)⟩
def mX9_swap : MR := (yX9_swap, cX9_swap, 3, (some .int), 6, 131)
theorem bX9_swap : MB mX9_swap 2 := ⟨Wl_in (by decide +kernel) (by decide +kernel), Wl_in (by decide +kernel) (by decide +kernel), by decide +kernel, by decide, by decide +kernel, by decide +kernel, by decide +kernel⟩
theorem vX9_swap : MV mX9_swap 2 := ⟨bX9_swap, by decide, Wl_in (by decide +kernel) (by decide +kernel), Wl_in (by decide +kernel) (by decide +kernel)⟩
def mL_acts : MR := (yL_acts, cL_acts, 11, (some .boolean), 7, 155)
theorem bL_acts : MB mL_acts 5 := ⟨Wl_in (by decide +kernel) (by decide +kernel), Wl_in (by decide +kernel) (by decide +kernel), by decide +kernel, by decide, by decide +kernel, by decide +kernel, by decide +kernel⟩
theorem vL_acts : MS mL_acts 5 := ⟨bL_acts, Wl_in (by decide +kernel) (by decide +kernel)⟩
def mX9_messageOf : MR := (yX9_messageOf, cX9_messageOf, 3, (some .int), 7, 167)
theorem bX9_messageOf : MB mX9_messageOf 2 := ⟨Wl_in (by decide +kernel) (by decide +kernel), Wl_in (by decide +kernel) (by decide +kernel), by decide +kernel, by decide, by decide +kernel, by decide +kernel, by decide +kernel⟩
theorem vX9_messageOf : MV mX9_messageOf 2 := ⟨bX9_messageOf, by decide, Wl_in (by decide +kernel) (by decide +kernel), Wl_in (by decide +kernel) (by decide +kernel)⟩
def mL_isSo : MR := (yL_isSo, cL_isSo, 28, (some .boolean), 8, 189)
theorem bL_isSo : MB mL_isSo 4 := ⟨Wl_in (by decide +kernel) (by decide +kernel), Wl_in (by decide +kernel) (by decide +kernel), by decide +kernel, by decide, by decide +kernel, by decide +kernel, by decide +kernel⟩
theorem vL_isSo : MS mL_isSo 4 := ⟨bL_isSo, Wl_in (by decide +kernel) (by decide +kernel)⟩
theorem fX0_14 : FL RX0 14 0 0 := ⟨_, _, _, rfl, by decide, Wl_in (by decide +kernel) (by decide +kernel)⟩
theorem fX0_20 : FL RX0 20 0 1 := ⟨_, _, _, rfl, by decide, Wl_in (by decide +kernel) (by decide +kernel)⟩
theorem fX0_24 : FL RX0 24 0 2 := ⟨_, _, _, rfl, by decide, Wl_in (by decide +kernel) (by decide +kernel)⟩
theorem fX0_27 : FL RX0 27 0 3 := ⟨_, _, _, rfl, by decide, Wl_in (by decide +kernel) (by decide +kernel)⟩
theorem fX1_9 : FL RX1 9 1 0 := ⟨_, _, _, rfl, by decide, Wl_in (by decide +kernel) (by decide +kernel)⟩
theorem fX1_15 : FL RX1 15 1 1 := ⟨_, _, _, rfl, by decide, Wl_in (by decide +kernel) (by decide +kernel)⟩
theorem fX1_18 : FL RX1 18 1 2 := ⟨_, _, _, rfl, by decide, Wl_in (by decide +kernel) (by decide +kernel)⟩
theorem fX1_21 : FL RX1 21 1 3 := ⟨_, _, _, rfl, by decide, Wl_in (by decide +kernel) (by decide +kernel)⟩
theorem fX1_24 : FL RX1 24 1 4 := ⟨_, _, _, rfl, by decide, Wl_in (by decide +kernel) (by decide +kernel)⟩
theorem fX1_50 : FL RX1 50 6 0 := ⟨_, _, _, rfl, by decide, Wl_in (by decide +kernel) (by decide +kernel)⟩
theorem fX2_11 : FL RX2 11 2 0 := ⟨_, _, _, rfl, by decide, Wl_in (by decide +kernel) (by decide +kernel)⟩
theorem fX2_17 : FL RX2 17 2 1 := ⟨_, _, _, rfl, by decide, Wl_in (by decide +kernel) (by decide +kernel)⟩
theorem fX2_21 : FL RX2 21 2 2 := ⟨_, _, _, rfl, by decide, Wl_in (by decide +kernel) (by decide +kernel)⟩
theorem fX3_14 : FL RX3 14 3 0 := ⟨_, _, _, rfl, by decide, Wl_in (by decide +kernel) (by decide +kernel)⟩
theorem fX3_20 : FL RX3 20 3 1 := ⟨_, _, _, rfl, by decide, Wl_in (by decide +kernel) (by decide +kernel)⟩
theorem fX3_23 : FL RX3 23 3 2 := ⟨_, _, _, rfl, by decide, Wl_in (by decide +kernel) (by decide +kernel)⟩
theorem fX3_26 : FL RX3 26 3 3 := ⟨_, _, _, rfl, by decide, Wl_in (by decide +kernel) (by decide +kernel)⟩
theorem fX3_29 : FL RX3 29 3 4 := ⟨_, _, _, rfl, by decide, Wl_in (by decide +kernel) (by decide +kernel)⟩
theorem fX3_32 : FL RX3 32 3 5 := ⟨_, _, _, rfl, by decide, Wl_in (by decide +kernel) (by decide +kernel)⟩
theorem fX3_36 : FL RX3 36 8 1 := ⟨_, _, _, rfl, by decide, Wl_in (by decide +kernel) (by decide +kernel)⟩
theorem fX4_14 : FL RX4 14 4 0 := ⟨_, _, _, rfl, by decide, Wl_in (by decide +kernel) (by decide +kernel)⟩
theorem fX4_20 : FL RX4 20 4 1 := ⟨_, _, _, rfl, by decide, Wl_in (by decide +kernel) (by decide +kernel)⟩
theorem fX4_23 : FL RX4 23 4 2 := ⟨_, _, _, rfl, by decide, Wl_in (by decide +kernel) (by decide +kernel)⟩
theorem fX4_26 : FL RX4 26 4 3 := ⟨_, _, _, rfl, by decide, Wl_in (by decide +kernel) (by decide +kernel)⟩
theorem fX4_29 : FL RX4 29 4 4 := ⟨_, _, _, rfl, by decide, Wl_in (by decide +kernel) (by decide +kernel)⟩
theorem fX4_32 : FL RX4 32 4 5 := ⟨_, _, _, rfl, by decide, Wl_in (by decide +kernel) (by decide +kernel)⟩
theorem fX4_35 : FL RX4 35 4 6 := ⟨_, _, _, rfl, by decide, Wl_in (by decide +kernel) (by decide +kernel)⟩
theorem fX4_38 : FL RX4 38 4 7 := ⟨_, _, _, rfl, by decide, Wl_in (by decide +kernel) (by decide +kernel)⟩
theorem fX5_14 : FL RX5 14 5 0 := ⟨_, _, _, rfl, by decide, Wl_in (by decide +kernel) (by decide +kernel)⟩
theorem fX5_20 : FL RX5 20 5 1 := ⟨_, _, _, rfl, by decide, Wl_in (by decide +kernel) (by decide +kernel)⟩
theorem fX5_24 : FL RX5 24 5 2 := ⟨_, _, _, rfl, by decide, Wl_in (by decide +kernel) (by decide +kernel)⟩
theorem fX5_27 : FL RX5 27 5 3 := ⟨_, _, _, rfl, by decide, Wl_in (by decide +kernel) (by decide +kernel)⟩
theorem fX6_12 : FL RX6 12 6 0 := ⟨_, _, _, rfl, by decide, Wl_in (by decide +kernel) (by decide +kernel)⟩
theorem fX6_21 : FL RX6 21 6 1 := ⟨_, _, _, rfl, by decide, Wl_in (by decide +kernel) (by decide +kernel)⟩
theorem fX6_30 : FL RX6 30 6 2 := ⟨_, _, _, rfl, by decide, Wl_in (by decide +kernel) (by decide +kernel)⟩
theorem fX6_34 : FL RX6 34 6 3 := ⟨_, _, _, rfl, by decide, Wl_in (by decide +kernel) (by decide +kernel)⟩
theorem fX6_37 : FL RX6 37 6 4 := ⟨_, _, _, rfl, by decide, Wl_in (by decide +kernel) (by decide +kernel)⟩
theorem fX6_40 : FL RX6 40 6 5 := ⟨_, _, _, rfl, by decide, Wl_in (by decide +kernel) (by decide +kernel)⟩
theorem fX6_43 : FL RX6 43 6 6 := ⟨_, _, _, rfl, by decide, Wl_in (by decide +kernel) (by decide +kernel)⟩
theorem fX6_46 : FL RX6 46 6 7 := ⟨_, _, _, rfl, by decide, Wl_in (by decide +kernel) (by decide +kernel)⟩
theorem fX6_49 : FL RX6 49 6 8 := ⟨_, _, _, rfl, by decide, Wl_in (by decide +kernel) (by decide +kernel)⟩
theorem fX6_57 : FL RX6 57 4 7 := ⟨_, _, _, rfl, by decide, Wl_in (by decide +kernel) (by decide +kernel)⟩
theorem fX6_60 : FL RX6 60 8 2 := ⟨_, _, _, rfl, by decide, Wl_in (by decide +kernel) (by decide +kernel)⟩
theorem fX6_65 : FL RX6 65 8 0 := ⟨_, _, _, rfl, by decide, Wl_in (by decide +kernel) (by decide +kernel)⟩
theorem fX6_96 : FL RX6 96 8 3 := ⟨_, _, _, rfl, by decide, Wl_in (by decide +kernel) (by decide +kernel)⟩
theorem fX6_103 : FL RX6 103 8 4 := ⟨_, _, _, rfl, by decide, Wl_in (by decide +kernel) (by decide +kernel)⟩
theorem fX6_109 : FL RX6 109 4 3 := ⟨_, _, _, rfl, by decide, Wl_in (by decide +kernel) (by decide +kernel)⟩
theorem fX6_122 : FL RX6 122 3 5 := ⟨_, _, _, rfl, by decide, Wl_in (by decide +kernel) (by decide +kernel)⟩
theorem fX6_128 : FL RX6 128 4 2 := ⟨_, _, _, rfl, by decide, Wl_in (by decide +kernel) (by decide +kernel)⟩
theorem fX6_134 : FL RX6 134 3 0 := ⟨_, _, _, rfl, by decide, Wl_in (by decide +kernel) (by decide +kernel)⟩
theorem fX6_137 : FL RX6 137 4 4 := ⟨_, _, _, rfl, by decide, Wl_in (by decide +kernel) (by decide +kernel)⟩
theorem fX6_143 : FL RX6 143 4 5 := ⟨_, _, _, rfl, by decide, Wl_in (by decide +kernel) (by decide +kernel)⟩
theorem fX6_149 : FL RX6 149 4 6 := ⟨_, _, _, rfl, by decide, Wl_in (by decide +kernel) (by decide +kernel)⟩
theorem fX6_152 : FL RX6 152 4 1 := ⟨_, _, _, rfl, by decide, Wl_in (by decide +kernel) (by decide +kernel)⟩
theorem fX6_155 : FL RX6 155 3 3 := ⟨_, _, _, rfl, by decide, Wl_in (by decide +kernel) (by decide +kernel)⟩
theorem fX7_7 : FL RX7 7 7 0 := ⟨_, _, _, rfl, by decide, Wl_in (by decide +kernel) (by decide +kernel)⟩
theorem fX8_14 : FL RX8 14 8 0 := ⟨_, _, _, rfl, by decide, Wl_in (by decide +kernel) (by decide +kernel)⟩
theorem fX8_20 : FL RX8 20 8 1 := ⟨_, _, _, rfl, by decide, Wl_in (by decide +kernel) (by decide +kernel)⟩
theorem fX8_23 : FL RX8 23 8 2 := ⟨_, _, _, rfl, by decide, Wl_in (by decide +kernel) (by decide +kernel)⟩
theorem fX8_27 : FL RX8 27 8 3 := ⟨_, _, _, rfl, by decide, Wl_in (by decide +kernel) (by decide +kernel)⟩
theorem fX8_30 : FL RX8 30 8 4 := ⟨_, _, _, rfl, by decide, Wl_in (by decide +kernel) (by decide +kernel)⟩
theorem fX8_33 : FL RX8 33 8 5 := ⟨_, _, _, rfl, by decide, Wl_in (by decide +kernel) (by decide +kernel)⟩
theorem fX9_10 : FL RX9 10 9 0 := ⟨_, _, _, rfl, by decide, Wl_in (by decide +kernel) (by decide +kernel)⟩
theorem fX9_16 : FL RX9 16 9 1 := ⟨_, _, _, rfl, by decide, Wl_in (by decide +kernel) (by decide +kernel)⟩
theorem fX9_22 : FL RX9 22 9 2 := ⟨_, _, _, rfl, by decide, Wl_in (by decide +kernel) (by decide +kernel)⟩
theorem fX9_29 : FL RX9 29 9 3 := ⟨_, _, _, rfl, by decide, Wl_in (by decide +kernel) (by decide +kernel)⟩
theorem fX9_36 : FL RX9 36 9 4 := ⟨_, _, _, rfl, by decide, Wl_in (by decide +kernel) (by decide +kernel)⟩
theorem fX9_43 : FL RX9 43 9 5 := ⟨_, _, _, rfl, by decide, Wl_in (by decide +kernel) (by decide +kernel)⟩
theorem fX9_50 : FL RX9 50 9 6 := ⟨_, _, _, rfl, by decide, Wl_in (by decide +kernel) (by decide +kernel)⟩
theorem fX9_54 : FL RX9 54 8 3 := ⟨_, _, _, rfl, by decide, Wl_in (by decide +kernel) (by decide +kernel)⟩
theorem fX9_65 : FL RX9 65 8 4 := ⟨_, _, _, rfl, by decide, Wl_in (by decide +kernel) (by decide +kernel)⟩
theorem fX9_85 : FL RX9 85 8 2 := ⟨_, _, _, rfl, by decide, Wl_in (by decide +kernel) (by decide +kernel)⟩
theorem fX9_92 : FL RX9 92 8 5 := ⟨_, _, _, rfl, by decide, Wl_in (by decide +kernel) (by decide +kernel)⟩
theorem fX9_110 : FL RX9 110 8 0 := ⟨_, _, _, rfl, by decide, Wl_in (by decide +kernel) (by decide +kernel)⟩
theorem fX9_139 : FL RX9 139 6 1 := ⟨_, _, _, rfl, by decide, Wl_in (by decide +kernel) (by decide +kernel)⟩
theorem fX9_143 : FL RX9 143 4 5 := ⟨_, _, _, rfl, by decide, Wl_in (by decide +kernel) (by decide +kernel)⟩
theorem fX9_151 : FL RX9 151 4 3 := ⟨_, _, _, rfl, by decide, Wl_in (by decide +kernel) (by decide +kernel)⟩
theorem fX9_158 : FL RX9 158 4 0 := ⟨_, _, _, rfl, by decide, Wl_in (by decide +kernel) (by decide +kernel)⟩
theorem fX9_161 : FL RX9 161 4 4 := ⟨_, _, _, rfl, by decide, Wl_in (by decide +kernel) (by decide +kernel)⟩
theorem fX9_164 : FL RX9 164 6 0 := ⟨_, _, _, rfl, by decide, Wl_in (by decide +kernel) (by decide +kernel)⟩
theorem fX9_171 : FL RX9 171 3 0 := ⟨_, _, _, rfl, by decide, Wl_in (by decide +kernel) (by decide +kernel)⟩
theorem fX9_176 : FL RX9 176 3 3 := ⟨_, _, _, rfl, by decide, Wl_in (by decide +kernel) (by decide +kernel)⟩
theorem fX9_182 : FL RX9 182 3 1 := ⟨_, _, _, rfl, by decide, Wl_in (by decide +kernel) (by decide +kernel)⟩
theorem fX9_185 : FL RX9 185 3 2 := ⟨_, _, _, rfl, by decide, Wl_in (by decide +kernel) (by decide +kernel)⟩
theorem fX9_236 : FL RX9 236 4 7 := ⟨_, _, _, rfl, by decide, Wl_in (by decide +kernel) (by decide +kernel)⟩
theorem fX9_239 : FL RX9 239 3 5 := ⟨_, _, _, rfl, by decide, Wl_in (by decide +kernel) (by decide +kernel)⟩
theorem fX9_244 : FL RX9 244 6 8 := ⟨_, _, _, rfl, by decide, Wl_in (by decide +kernel) (by decide +kernel)⟩
theorem fX9_253 : FL RX9 253 2 2 := ⟨_, _, _, rfl, by decide, Wl_in (by decide +kernel) (by decide +kernel)⟩
theorem fX9_259 : FL RX9 259 5 1 := ⟨_, _, _, rfl, by decide, Wl_in (by decide +kernel) (by decide +kernel)⟩
theorem lL_9 : Cond.methodLink RL 9 yL_kind ∈ Wl := Wl_in (by decide +kernel) (by decide +kernel)
theorem lL_15 : Cond.methodLink RL 15 yL_one ∈ Wl := Wl_in (by decide +kernel) (by decide +kernel)
theorem lL_19 : Cond.methodLink RL 19 yL_two ∈ Wl := Wl_in (by decide +kernel) (by decide +kernel)
theorem lL_22 : Cond.methodLink RL 22 yL_good ∈ Wl := Wl_in (by decide +kernel) (by decide +kernel)
theorem lL_26 : Cond.methodLink RL 26 yL_at ∈ Wl := Wl_in (by decide +kernel) (by decide +kernel)
theorem lL_31 : Cond.methodLink RL 31 yL_letter ∈ Wl := Wl_in (by decide +kernel) (by decide +kernel)
theorem lL_34 : Cond.methodLink RL 34 yL_put ∈ Wl := Wl_in (by decide +kernel) (by decide +kernel)
theorem lL_39 : Cond.methodLink RL 39 yL_low ∈ Wl := Wl_in (by decide +kernel) (by decide +kernel)
theorem lL_43 : Cond.methodLink RL 43 yX9_set ∈ Wl := Wl_in (by decide +kernel) (by decide +kernel)
theorem lL_48 : Cond.methodLink RL 48 yX9_swap ∈ Wl := Wl_in (by decide +kernel) (by decide +kernel)
theorem lL_52 : Cond.methodLink RL 52 yX9_mute ∈ Wl := Wl_in (by decide +kernel) (by decide +kernel)
theorem lL_55 : Cond.methodLink RL 55 yX9_shift ∈ Wl := Wl_in (by decide +kernel) (by decide +kernel)
theorem lL_58 : Cond.methodLink RL 58 yL_mute ∈ Wl := Wl_in (by decide +kernel) (by decide +kernel)
theorem lL_61 : Cond.methodLink RL 61 yX9_ring ∈ Wl := Wl_in (by decide +kernel) (by decide +kernel)
theorem lL_64 : Cond.methodLink RL 64 yL_ring ∈ Wl := Wl_in (by decide +kernel) (by decide +kernel)
theorem lL_67 : Cond.methodLink RL 67 yX9_pause ∈ Wl := Wl_in (by decide +kernel) (by decide +kernel)
theorem lL_72 : Cond.methodLink RL 72 yL_place ∈ Wl := Wl_in (by decide +kernel) (by decide +kernel)
theorem lL_75 : Cond.methodLink RL 75 yX9_strike ∈ Wl := Wl_in (by decide +kernel) (by decide +kernel)
theorem lL_78 : Cond.methodLink RL 78 yL_read ∈ Wl := Wl_in (by decide +kernel) (by decide +kernel)
theorem lL_82 : Cond.methodLink RL 82 yL_doubt ∈ Wl := Wl_in (by decide +kernel) (by decide +kernel)
theorem lL_86 : Cond.methodLink RL 86 yX9_strokeOf ∈ Wl := Wl_in (by decide +kernel) (by decide +kernel)
theorem lL_89 : Cond.methodLink RL 89 yL_first ∈ Wl := Wl_in (by decide +kernel) (by decide +kernel)
theorem lL_92 : Cond.methodLink RL 92 yX9_letterOf ∈ Wl := Wl_in (by decide +kernel) (by decide +kernel)
theorem lL_96 : Cond.methodLink RL 96 yL_right ∈ Wl := Wl_in (by decide +kernel) (by decide +kernel)
theorem lL_100 : Cond.methodLink RL 100 yX9_messageOf ∈ Wl := Wl_in (by decide +kernel) (by decide +kernel)
theorem lL_103 : Cond.methodLink RL 103 yX9_tableOf ∈ Wl := Wl_in (by decide +kernel) (by decide +kernel)
theorem lL_106 : Cond.methodLink RL 106 yX9_count ∈ Wl := Wl_in (by decide +kernel) (by decide +kernel)
theorem lL_109 : Cond.methodLink RL 109 yX9_init ∈ Wl := Wl_in (by decide +kernel) (by decide +kernel)
theorem lL_110 : Cond.methodLink RL 110 yL_isSo ∈ Wl := Wl_in (by decide +kernel) (by decide +kernel)
theorem lL_114 : Cond.methodLink RL 114 yL_cell ∈ Wl := Wl_in (by decide +kernel) (by decide +kernel)
theorem lL_117 : Cond.methodLink RL 117 yL_acts ∈ Wl := Wl_in (by decide +kernel) (by decide +kernel)
theorem lX0_11 : Cond.methodLink RX0 11 yX7_init ∈ Wl := Wl_in (by decide +kernel) (by decide +kernel)
theorem lX1_27 : Cond.methodLink RX1 27 yX1_search ∈ Wl := Wl_in (by decide +kernel) (by decide +kernel)
theorem lX1_42 : Cond.methodLink RX1 42 yX6_lengthOf ∈ Wl := Wl_in (by decide +kernel) (by decide +kernel)
theorem lX1_46 : Cond.methodLink RX1 46 yX1_consider ∈ Wl := Wl_in (by decide +kernel) (by decide +kernel)
theorem lX1_54 : Cond.methodLink RX1 54 yX6_indexOf ∈ Wl := Wl_in (by decide +kernel) (by decide +kernel)
theorem lX1_58 : Cond.methodLink RX1 58 yX3_letterWith ∈ Wl := Wl_in (by decide +kernel) (by decide +kernel)
theorem lX1_64 : Cond.methodLink RX1 64 yX6_isRightWith ∈ Wl := Wl_in (by decide +kernel) (by decide +kernel)
theorem lX2_24 : Cond.methodLink RX2 24 yX8_init ∈ Wl := Wl_in (by decide +kernel) (by decide +kernel)
theorem lX2_25 : Cond.methodLink RX2 25 yX2_stateAt ∈ Wl := Wl_in (by decide +kernel) (by decide +kernel)
theorem lX2_29 : Cond.methodLink RX2 29 yX8_become ∈ Wl := Wl_in (by decide +kernel) (by decide +kernel)
theorem lX2_33 : Cond.methodLink RX2 33 yJ9_floorMod_7cf53 ∈ Wl := Wl_in (by decide +kernel) (by decide +kernel)
theorem lX3_11 : Cond.methodLink RX3 11 yX7_init ∈ Wl := Wl_in (by decide +kernel) (by decide +kernel)
theorem lX3_41 : Cond.methodLink RX3 41 yX7_at ∈ Wl := Wl_in (by decide +kernel) (by decide +kernel)
theorem lX3_45 : Cond.methodLink RX3 45 yX7_put ∈ Wl := Wl_in (by decide +kernel) (by decide +kernel)
theorem lX3_49 : Cond.methodLink RX3 49 yX7_add ∈ Wl := Wl_in (by decide +kernel) (by decide +kernel)
theorem lX3_52 : Cond.methodLink RX3 52 yX3_lengthen ∈ Wl := Wl_in (by decide +kernel) (by decide +kernel)
theorem lX3_55 : Cond.methodLink RX3 55 yX3_letterWith ∈ Wl := Wl_in (by decide +kernel) (by decide +kernel)
theorem lX3_59 : Cond.methodLink RX3 59 yX3_letterBy ∈ Wl := Wl_in (by decide +kernel) (by decide +kernel)
theorem lX3_63 : Cond.methodLink RX3 63 yX3_bitOf ∈ Wl := Wl_in (by decide +kernel) (by decide +kernel)
theorem lX4_11 : Cond.methodLink RX4 11 yX7_init ∈ Wl := Wl_in (by decide +kernel) (by decide +kernel)
theorem lX4_42 : Cond.methodLink RX4 42 yX7_put ∈ Wl := Wl_in (by decide +kernel) (by decide +kernel)
theorem lX4_46 : Cond.methodLink RX4 46 yX7_add ∈ Wl := Wl_in (by decide +kernel) (by decide +kernel)
theorem lX4_49 : Cond.methodLink RX4 49 yX7_at ∈ Wl := Wl_in (by decide +kernel) (by decide +kernel)
theorem lX5_11 : Cond.methodLink RX5 11 yX7_init ∈ Wl := Wl_in (by decide +kernel) (by decide +kernel)
theorem lX6_27 : Cond.methodLink RX6 27 yX7_init ∈ Wl := Wl_in (by decide +kernel) (by decide +kernel)
theorem lX6_53 : Cond.methodLink RX6 53 yX3_restart ∈ Wl := Wl_in (by decide +kernel) (by decide +kernel)
theorem lX6_68 : Cond.methodLink RX6 68 yX7_at ∈ Wl := Wl_in (by decide +kernel) (by decide +kernel)
theorem lX6_72 : Cond.methodLink RX6 72 yX7_put ∈ Wl := Wl_in (by decide +kernel) (by decide +kernel)
theorem lX6_76 : Cond.methodLink RX6 76 yX6_noteGap ∈ Wl := Wl_in (by decide +kernel) (by decide +kernel)
theorem lX6_80 : Cond.methodLink RX6 80 yX6_goOn ∈ Wl := Wl_in (by decide +kernel) (by decide +kernel)
theorem lX6_83 : Cond.methodLink RX6 83 yX6_notePlace ∈ Wl := Wl_in (by decide +kernel) (by decide +kernel)
theorem lX6_86 : Cond.methodLink RX6 86 yX6_isLeftOut ∈ Wl := Wl_in (by decide +kernel) (by decide +kernel)
theorem lX6_90 : Cond.methodLink RX6 90 yX3_settle ∈ Wl := Wl_in (by decide +kernel) (by decide +kernel)
theorem lX6_93 : Cond.methodLink RX6 93 yX6_sumUp ∈ Wl := Wl_in (by decide +kernel) (by decide +kernel)
theorem lX6_99 : Cond.methodLink RX6 99 yX6_caseOf ∈ Wl := Wl_in (by decide +kernel) (by decide +kernel)
theorem lX6_106 : Cond.methodLink RX6 106 yX3_lengthen ∈ Wl := Wl_in (by decide +kernel) (by decide +kernel)
theorem lX6_112 : Cond.methodLink RX6 112 yX4_addTo ∈ Wl := Wl_in (by decide +kernel) (by decide +kernel)
theorem lX6_116 : Cond.methodLink RX6 116 yX3_beginGroup ∈ Wl := Wl_in (by decide +kernel) (by decide +kernel)
theorem lX6_119 : Cond.methodLink RX6 119 yX6_beginLetter ∈ Wl := Wl_in (by decide +kernel) (by decide +kernel)
theorem lX6_123 : Cond.methodLink RX6 123 yX4_begin ∈ Wl := Wl_in (by decide +kernel) (by decide +kernel)
theorem lX6_126 : Cond.methodLink RX6 126 yX3_begin ∈ Wl := Wl_in (by decide +kernel) (by decide +kernel)
theorem lX6_131 : Cond.methodLink RX6 131 yX6_lengthOf ∈ Wl := Wl_in (by decide +kernel) (by decide +kernel)
theorem lX6_140 : Cond.methodLink RX6 140 yX6_letterIn ∈ Wl := Wl_in (by decide +kernel) (by decide +kernel)
theorem lX6_146 : Cond.methodLink RX6 146 yX7_add ∈ Wl := Wl_in (by decide +kernel) (by decide +kernel)
theorem lX6_158 : Cond.methodLink RX6 158 yX6_indexOf ∈ Wl := Wl_in (by decide +kernel) (by decide +kernel)
theorem lX6_161 : Cond.methodLink RX6 161 yX6_isRightWith ∈ Wl := Wl_in (by decide +kernel) (by decide +kernel)
theorem lX6_165 : Cond.methodLink RX6 165 yX6_isRight ∈ Wl := Wl_in (by decide +kernel) (by decide +kernel)
theorem lX7_13 : Cond.methodLink RX7 13 yX7_at ∈ Wl := Wl_in (by decide +kernel) (by decide +kernel)
theorem lX7_17 : Cond.methodLink RX7 17 yX7_put ∈ Wl := Wl_in (by decide +kernel) (by decide +kernel)
theorem lX8_11 : Cond.methodLink RX8 11 yX7_init ∈ Wl := Wl_in (by decide +kernel) (by decide +kernel)
theorem lX8_37 : Cond.methodLink RX8 37 yX7_put ∈ Wl := Wl_in (by decide +kernel) (by decide +kernel)
theorem lX8_41 : Cond.methodLink RX8 41 yX7_copy ∈ Wl := Wl_in (by decide +kernel) (by decide +kernel)
theorem lX8_45 : Cond.methodLink RX8 45 yX7_at ∈ Wl := Wl_in (by decide +kernel) (by decide +kernel)
theorem lX8_49 : Cond.methodLink RX8 49 yX8_rowOf ∈ Wl := Wl_in (by decide +kernel) (by decide +kernel)
theorem lX8_52 : Cond.methodLink RX8 52 yX8_columnOf ∈ Wl := Wl_in (by decide +kernel) (by decide +kernel)
theorem lX8_55 : Cond.methodLink RX8 55 yX8_strokesAhead ∈ Wl := Wl_in (by decide +kernel) (by decide +kernel)
theorem lX8_58 : Cond.methodLink RX8 58 yX8_nextTime ∈ Wl := Wl_in (by decide +kernel) (by decide +kernel)
theorem lX8_62 : Cond.methodLink RX8 62 yX8_ringGroup ∈ Wl := Wl_in (by decide +kernel) (by decide +kernel)
theorem lX9_9 : Cond.methodLink RX9 9 yX8_init ∈ Wl := Wl_in (by decide +kernel) (by decide +kernel)
theorem lX9_21 : Cond.methodLink RX9 21 yX2_init ∈ Wl := Wl_in (by decide +kernel) (by decide +kernel)
theorem lX9_58 : Cond.methodLink RX9 58 yX2_record ∈ Wl := Wl_in (by decide +kernel) (by decide +kernel)
theorem lX9_62 : Cond.methodLink RX9 62 yX6_refresh ∈ Wl := Wl_in (by decide +kernel) (by decide +kernel)
theorem lX9_69 : Cond.methodLink RX9 69 yX9_isLetter ∈ Wl := Wl_in (by decide +kernel) (by decide +kernel)
theorem lX9_73 : Cond.methodLink RX9 73 yX8_exchange ∈ Wl := Wl_in (by decide +kernel) (by decide +kernel)
theorem lX9_77 : Cond.methodLink RX9 77 yX8_tablePlace ∈ Wl := Wl_in (by decide +kernel) (by decide +kernel)
theorem lX9_81 : Cond.methodLink RX9 81 yX8_hasRoomFor ∈ Wl := Wl_in (by decide +kernel) (by decide +kernel)
theorem lX9_88 : Cond.methodLink RX9 88 yX8_ringLetter ∈ Wl := Wl_in (by decide +kernel) (by decide +kernel)
theorem lX9_97 : Cond.methodLink RX9 97 yX8_hasStrokeAt ∈ Wl := Wl_in (by decide +kernel) (by decide +kernel)
theorem lX9_100 : Cond.methodLink RX9 100 yX8_isFull ∈ Wl := Wl_in (by decide +kernel) (by decide +kernel)
theorem lX9_104 : Cond.methodLink RX9 104 yX8_addStroke ∈ Wl := Wl_in (by decide +kernel) (by decide +kernel)
theorem lX9_107 : Cond.methodLink RX9 107 yX8_hasStroke ∈ Wl := Wl_in (by decide +kernel) (by decide +kernel)
theorem lX9_114 : Cond.methodLink RX9 114 yX7_at ∈ Wl := Wl_in (by decide +kernel) (by decide +kernel)
theorem lX9_119 : Cond.methodLink RX9 119 yX8_removeStroke ∈ Wl := Wl_in (by decide +kernel) (by decide +kernel)
theorem lX9_123 : Cond.methodLink RX9 123 yX6_gapDetail ∈ Wl := Wl_in (by decide +kernel) (by decide +kernel)
theorem lX9_127 : Cond.methodLink RX9 127 yX6_isLeftOut ∈ Wl := Wl_in (by decide +kernel) (by decide +kernel)
theorem lX9_130 : Cond.methodLink RX9 130 yX6_placeDetail ∈ Wl := Wl_in (by decide +kernel) (by decide +kernel)
theorem lX9_133 : Cond.methodLink RX9 133 yX6_hasMessage ∈ Wl := Wl_in (by decide +kernel) (by decide +kernel)
theorem lX9_136 : Cond.methodLink RX9 136 yX6_lengthOf ∈ Wl := Wl_in (by decide +kernel) (by decide +kernel)
theorem lX9_148 : Cond.methodLink RX9 148 yX6_isRight ∈ Wl := Wl_in (by decide +kernel) (by decide +kernel)
theorem lX9_154 : Cond.methodLink RX9 154 yX1_fitting ∈ Wl := Wl_in (by decide +kernel) (by decide +kernel)
theorem lX9_168 : Cond.methodLink RX9 168 yX6_indexOf ∈ Wl := Wl_in (by decide +kernel) (by decide +kernel)
theorem lX9_179 : Cond.methodLink RX9 179 yX9_orNotFound ∈ Wl := Wl_in (by decide +kernel) (by decide +kernel)
theorem lX9_188 : Cond.methodLink RX9 188 yX3_withOneMore ∈ Wl := Wl_in (by decide +kernel) (by decide +kernel)
theorem lX9_240 : Cond.methodLink RX9 240 yX4_totalOf ∈ Wl := Wl_in (by decide +kernel) (by decide +kernel)
theorem lX9_247 : Cond.methodLink RX9 247 yX6_rightOnes ∈ Wl := Wl_in (by decide +kernel) (by decide +kernel)
theorem lX9_250 : Cond.methodLink RX9 250 yX9_countOfState ∈ Wl := Wl_in (by decide +kernel) (by decide +kernel)
theorem lX9_278 : Cond.methodLink RX9 278 yX8_lastTime ∈ Wl := Wl_in (by decide +kernel) (by decide +kernel)
theorem lX0_3 : Cond.methodLink RX0 3 objectInit ∈ Wl := Wl_in (by decide +kernel) (by decide +kernel)
theorem lX1_3 : Cond.methodLink RX1 3 objectInit ∈ Wl := Wl_in (by decide +kernel) (by decide +kernel)
theorem lX2_3 : Cond.methodLink RX2 3 objectInit ∈ Wl := Wl_in (by decide +kernel) (by decide +kernel)
theorem lX3_3 : Cond.methodLink RX3 3 objectInit ∈ Wl := Wl_in (by decide +kernel) (by decide +kernel)
theorem lX4_3 : Cond.methodLink RX4 3 objectInit ∈ Wl := Wl_in (by decide +kernel) (by decide +kernel)
theorem lX5_3 : Cond.methodLink RX5 3 objectInit ∈ Wl := Wl_in (by decide +kernel) (by decide +kernel)
theorem lX6_3 : Cond.methodLink RX6 3 objectInit ∈ Wl := Wl_in (by decide +kernel) (by decide +kernel)
theorem lX7_1 : Cond.methodLink RX7 1 objectInit ∈ Wl := Wl_in (by decide +kernel) (by decide +kernel)
theorem lX8_3 : Cond.methodLink RX8 3 objectInit ∈ Wl := Wl_in (by decide +kernel) (by decide +kernel)
theorem lX9_1 : Cond.methodLink RX9 1 objectInit ∈ Wl := Wl_in (by decide +kernel) (by decide +kernel)
theorem lX6_11 : (RX6, 11, yX3_init) ∈ nestL := by decide +kernel
theorem lX6_20 : (RX6, 20, yX4_init) ∈ nestL := by decide +kernel
theorem lX9_28 : (RX9, 28, yX6_init) ∈ nestL := by decide +kernel
theorem lX9_35 : (RX9, 35, yX1_init) ∈ nestL := by decide +kernel
theorem lX9_42 : (RX9, 42, yX0_init) ∈ nestL := by decide +kernel
theorem lX9_49 : (RX9, 49, yX5_init) ∈ nestL := by decide +kernel
theorem kL_44 : Cond.classLink RL 44 RX9 ∈ Wl := Wl_in (by decide +kernel) (by decide +kernel)
theorem kX0_9 : Cond.classLink RX0 9 RX7 ∈ Wl := Wl_in (by decide +kernel) (by decide +kernel)
theorem kX2_9 : Cond.classLink RX2 9 RX8 ∈ Wl := Wl_in (by decide +kernel) (by decide +kernel)
theorem kX3_9 : Cond.classLink RX3 9 RX7 ∈ Wl := Wl_in (by decide +kernel) (by decide +kernel)
theorem kX4_9 : Cond.classLink RX4 9 RX7 ∈ Wl := Wl_in (by decide +kernel) (by decide +kernel)
theorem kX5_9 : Cond.classLink RX5 9 RX7 ∈ Wl := Wl_in (by decide +kernel) (by decide +kernel)
theorem kX6_9 : Cond.classLink RX6 9 RX3 ∈ Wl := Wl_in (by decide +kernel) (by decide +kernel)
theorem kX6_18 : Cond.classLink RX6 18 RX4 ∈ Wl := Wl_in (by decide +kernel) (by decide +kernel)
theorem kX6_25 : Cond.classLink RX6 25 RX7 ∈ Wl := Wl_in (by decide +kernel) (by decide +kernel)
theorem kX8_9 : Cond.classLink RX8 9 RX7 ∈ Wl := Wl_in (by decide +kernel) (by decide +kernel)
theorem kX9_7 : Cond.classLink RX9 7 RX8 ∈ Wl := Wl_in (by decide +kernel) (by decide +kernel)
theorem kX9_19 : Cond.classLink RX9 19 RX2 ∈ Wl := Wl_in (by decide +kernel) (by decide +kernel)
theorem kX9_26 : Cond.classLink RX9 26 RX6 ∈ Wl := Wl_in (by decide +kernel) (by decide +kernel)
theorem kX9_33 : Cond.classLink RX9 33 RX1 ∈ Wl := Wl_in (by decide +kernel) (by decide +kernel)
theorem kX9_40 : Cond.classLink RX9 40 RX0 ∈ Wl := Wl_in (by decide +kernel) (by decide +kernel)
theorem kX9_47 : Cond.classLink RX9 47 RX5 ∈ Wl := Wl_in (by decide +kernel) (by decide +kernel)
theorem qL_7 : Cond.constant RL 7 (40503) ∈ Wl := Wl_in (by decide +kernel) (by decide +kernel)
theorem qL_8 : Cond.constant RL 8 (2147483647) ∈ Wl := Wl_in (by decide +kernel) (by decide +kernel)
theorem qL_30 : Cond.constant RL 30 (-1000004) ∈ Wl := Wl_in (by decide +kernel) (by decide +kernel)
theorem qL_38 : Cond.constant RL 38 (10000000) ∈ Wl := Wl_in (by decide +kernel) (by decide +kernel)
theorem qL_51 : Cond.constant RL 51 (-1000001) ∈ Wl := Wl_in (by decide +kernel) (by decide +kernel)
theorem qL_71 : Cond.constant RL 71 (-1000002) ∈ Wl := Wl_in (by decide +kernel) (by decide +kernel)
theorem qX9_68 : Cond.constant RX9 68 (-1000001) ∈ Wl := Wl_in (by decide +kernel) (by decide +kernel)
theorem qX9_84 : Cond.constant RX9 84 (-1000003) ∈ Wl := Wl_in (by decide +kernel) (by decide +kernel)
theorem qX9_96 : Cond.constant RX9 96 (-1000002) ∈ Wl := Wl_in (by decide +kernel) (by decide +kernel)
theorem qX9_122 : Cond.constant RX9 122 (-1000004) ∈ Wl := Wl_in (by decide +kernel) (by decide +kernel)
theorem eX0 : Cond.instantiable RX0 4 ∈ Wl := Wl_in (by decide +kernel) (by decide +kernel)
theorem jX0 : Cond.initialized RX0 ∈ Wl := Wl_in (by decide +kernel) (by decide +kernel)
theorem pX0_0 (q : Nat) : FP 0 0 (ar q) := fun _ => ⟨_, _, _, _, rfl, tyX0_ok 0 (by decide), rfl, rfl⟩
theorem nX0_0 : FF RX0 0 0 := ⟨_, _, _, rfl, rfl, rfl⟩
theorem pX0_1 (x : Int32) : FP 0 1 (ai x) := fun _ => ⟨_, _, _, _, rfl, tyX0_ok 1 (by decide), rfl, rfl⟩
theorem nX0_1 : FN 0 1 := ⟨_, _, _, rfl, rfl⟩
theorem pX0_2 (x : Int32) : FP 0 2 (ai x) := fun _ => ⟨_, _, _, _, rfl, tyX0_ok 2 (by decide), rfl, rfl⟩
theorem nX0_2 : FN 0 2 := ⟨_, _, _, rfl, rfl⟩
theorem pX0_3 {x : Int32} (h : x = 0 ∨ x = 1) : FP 0 3 (ai x) := fun _ => ⟨_, _, _, _, rfl, tyX0_ok 3 (by decide), by rcases h with rfl | rfl <;> rfl, by rcases h with rfl | rfl <;> rfl⟩
theorem nX0_3 : FN 0 3 := ⟨_, _, _, rfl, rfl⟩
theorem eX1 : Cond.instantiable RX1 5 ∈ Wl := Wl_in (by decide +kernel) (by decide +kernel)
theorem jX1 : Cond.initialized RX1 ∈ Wl := Wl_in (by decide +kernel) (by decide +kernel)
theorem pX1_0 (x : Int32) : FP 1 0 (ai x) := fun _ => ⟨_, _, _, _, rfl, tyX1_ok 0 (by decide), rfl, rfl⟩
theorem nX1_0 : FN 1 0 := ⟨_, _, _, rfl, rfl⟩
theorem pX1_1 (x : Int32) : FP 1 1 (ai x) := fun _ => ⟨_, _, _, _, rfl, tyX1_ok 1 (by decide), rfl, rfl⟩
theorem nX1_1 : FN 1 1 := ⟨_, _, _, rfl, rfl⟩
theorem pX1_2 (x : Int32) : FP 1 2 (ai x) := fun _ => ⟨_, _, _, _, rfl, tyX1_ok 2 (by decide), rfl, rfl⟩
theorem nX1_2 : FN 1 2 := ⟨_, _, _, rfl, rfl⟩
theorem pX1_3 (x : Int32) : FP 1 3 (ai x) := fun _ => ⟨_, _, _, _, rfl, tyX1_ok 3 (by decide), rfl, rfl⟩
theorem nX1_3 : FN 1 3 := ⟨_, _, _, rfl, rfl⟩
theorem pX1_4 (x : Int32) : FP 1 4 (ai x) := fun _ => ⟨_, _, _, _, rfl, tyX1_ok 4 (by decide), rfl, rfl⟩
theorem nX1_4 : FN 1 4 := ⟨_, _, _, rfl, rfl⟩
theorem eX10 : Cond.instantiable RX10 1 ∈ Wl := Wl_in (by decide +kernel) (by decide +kernel)
theorem jX10 : Cond.initialized RX10 ∈ Wl := Wl_in (by decide +kernel) (by decide +kernel)
theorem pX10_0 (q : Nat) : FP 10 0 (ar q) := fun _ => ⟨_, _, _, _, rfl, tyX10_ok 0 (by decide), rfl, rfl⟩
theorem nX10_0 : FN 10 0 := ⟨_, _, _, rfl, rfl⟩
theorem eX2 : Cond.instantiable RX2 3 ∈ Wl := Wl_in (by decide +kernel) (by decide +kernel)
theorem jX2 : Cond.initialized RX2 ∈ Wl := Wl_in (by decide +kernel) (by decide +kernel)
theorem pX2_0 (q : Nat) : FP 2 0 (ar q) := fun _ => ⟨_, _, _, _, rfl, tyX2_ok 0 (by decide), rfl, rfl⟩
theorem nX2_0 : FF RX2 2 0 := ⟨_, _, _, rfl, rfl, rfl⟩
theorem pX2_1 (x : Int32) : FP 2 1 (ai x) := fun _ => ⟨_, _, _, _, rfl, tyX2_ok 1 (by decide), rfl, rfl⟩
theorem nX2_1 : FN 2 1 := ⟨_, _, _, rfl, rfl⟩
theorem pX2_2 (x : Int32) : FP 2 2 (ai x) := fun _ => ⟨_, _, _, _, rfl, tyX2_ok 2 (by decide), rfl, rfl⟩
theorem nX2_2 : FN 2 2 := ⟨_, _, _, rfl, rfl⟩
theorem eX3 : Cond.instantiable RX3 6 ∈ Wl := Wl_in (by decide +kernel) (by decide +kernel)
theorem jX3 : Cond.initialized RX3 ∈ Wl := Wl_in (by decide +kernel) (by decide +kernel)
theorem pX3_0 (q : Nat) : FP 3 0 (ar q) := fun _ => ⟨_, _, _, _, rfl, tyX3_ok 0 (by decide), rfl, rfl⟩
theorem nX3_0 : FF RX3 3 0 := ⟨_, _, _, rfl, rfl, rfl⟩
theorem pX3_1 (q : Nat) : FP 3 1 (ar q) := fun _ => ⟨_, _, _, _, rfl, tyX3_ok 1 (by decide), rfl, rfl⟩
theorem nX3_1 : FF RX3 3 1 := ⟨_, _, _, rfl, rfl, rfl⟩
theorem pX3_2 (q : Nat) : FP 3 2 (ar q) := fun _ => ⟨_, _, _, _, rfl, tyX3_ok 2 (by decide), rfl, rfl⟩
theorem nX3_2 : FF RX3 3 2 := ⟨_, _, _, rfl, rfl, rfl⟩
theorem pX3_3 (q : Nat) : FP 3 3 (ar q) := fun _ => ⟨_, _, _, _, rfl, tyX3_ok 3 (by decide), rfl, rfl⟩
theorem nX3_3 : FF RX3 3 3 := ⟨_, _, _, rfl, rfl, rfl⟩
theorem pX3_4 (q : Nat) : FP 3 4 (ar q) := fun _ => ⟨_, _, _, _, rfl, tyX3_ok 4 (by decide), rfl, rfl⟩
theorem nX3_4 : FF RX3 3 4 := ⟨_, _, _, rfl, rfl, rfl⟩
theorem pX3_5 (x : Int32) : FP 3 5 (ai x) := fun _ => ⟨_, _, _, _, rfl, tyX3_ok 5 (by decide), rfl, rfl⟩
theorem nX3_5 : FN 3 5 := ⟨_, _, _, rfl, rfl⟩
theorem eX4 : Cond.instantiable RX4 8 ∈ Wl := Wl_in (by decide +kernel) (by decide +kernel)
theorem jX4 : Cond.initialized RX4 ∈ Wl := Wl_in (by decide +kernel) (by decide +kernel)
theorem pX4_0 (q : Nat) : FP 4 0 (ar q) := fun _ => ⟨_, _, _, _, rfl, tyX4_ok 0 (by decide), rfl, rfl⟩
theorem nX4_0 : FF RX4 4 0 := ⟨_, _, _, rfl, rfl, rfl⟩
theorem pX4_1 (q : Nat) : FP 4 1 (ar q) := fun _ => ⟨_, _, _, _, rfl, tyX4_ok 1 (by decide), rfl, rfl⟩
theorem nX4_1 : FF RX4 4 1 := ⟨_, _, _, rfl, rfl, rfl⟩
theorem pX4_2 (q : Nat) : FP 4 2 (ar q) := fun _ => ⟨_, _, _, _, rfl, tyX4_ok 2 (by decide), rfl, rfl⟩
theorem nX4_2 : FF RX4 4 2 := ⟨_, _, _, rfl, rfl, rfl⟩
theorem pX4_3 (q : Nat) : FP 4 3 (ar q) := fun _ => ⟨_, _, _, _, rfl, tyX4_ok 3 (by decide), rfl, rfl⟩
theorem nX4_3 : FF RX4 4 3 := ⟨_, _, _, rfl, rfl, rfl⟩
theorem pX4_4 (q : Nat) : FP 4 4 (ar q) := fun _ => ⟨_, _, _, _, rfl, tyX4_ok 4 (by decide), rfl, rfl⟩
theorem nX4_4 : FF RX4 4 4 := ⟨_, _, _, rfl, rfl, rfl⟩
theorem pX4_5 (q : Nat) : FP 4 5 (ar q) := fun _ => ⟨_, _, _, _, rfl, tyX4_ok 5 (by decide), rfl, rfl⟩
theorem nX4_5 : FF RX4 4 5 := ⟨_, _, _, rfl, rfl, rfl⟩
theorem pX4_6 (q : Nat) : FP 4 6 (ar q) := fun _ => ⟨_, _, _, _, rfl, tyX4_ok 6 (by decide), rfl, rfl⟩
theorem nX4_6 : FF RX4 4 6 := ⟨_, _, _, rfl, rfl, rfl⟩
theorem pX4_7 (x : Int32) : FP 4 7 (ai x) := fun _ => ⟨_, _, _, _, rfl, tyX4_ok 7 (by decide), rfl, rfl⟩
theorem nX4_7 : FN 4 7 := ⟨_, _, _, rfl, rfl⟩
theorem eX5 : Cond.instantiable RX5 4 ∈ Wl := Wl_in (by decide +kernel) (by decide +kernel)
theorem jX5 : Cond.initialized RX5 ∈ Wl := Wl_in (by decide +kernel) (by decide +kernel)
theorem pX5_0 (q : Nat) : FP 5 0 (ar q) := fun _ => ⟨_, _, _, _, rfl, tyX5_ok 0 (by decide), rfl, rfl⟩
theorem nX5_0 : FF RX5 5 0 := ⟨_, _, _, rfl, rfl, rfl⟩
theorem pX5_1 (x : Int32) : FP 5 1 (ai x) := fun _ => ⟨_, _, _, _, rfl, tyX5_ok 1 (by decide), rfl, rfl⟩
theorem nX5_1 : FN 5 1 := ⟨_, _, _, rfl, rfl⟩
theorem pX5_2 (x : Int32) : FP 5 2 (ai x) := fun _ => ⟨_, _, _, _, rfl, tyX5_ok 2 (by decide), rfl, rfl⟩
theorem nX5_2 : FN 5 2 := ⟨_, _, _, rfl, rfl⟩
theorem pX5_3 (x : Int32) : FP 5 3 (ai x) := fun _ => ⟨_, _, _, _, rfl, tyX5_ok 3 (by decide), rfl, rfl⟩
theorem nX5_3 : FN 5 3 := ⟨_, _, _, rfl, rfl⟩
theorem eX6 : Cond.instantiable RX6 9 ∈ Wl := Wl_in (by decide +kernel) (by decide +kernel)
theorem jX6 : Cond.initialized RX6 ∈ Wl := Wl_in (by decide +kernel) (by decide +kernel)
theorem pX6_0 (q : Nat) : FP 6 0 (ar q) := fun _ => ⟨_, _, _, _, rfl, tyX6_ok 0 (by decide), rfl, rfl⟩
theorem nX6_0 : FF RX6 6 0 := ⟨_, _, _, rfl, rfl, rfl⟩
theorem pX6_1 (q : Nat) : FP 6 1 (ar q) := fun _ => ⟨_, _, _, _, rfl, tyX6_ok 1 (by decide), rfl, rfl⟩
theorem nX6_1 : FF RX6 6 1 := ⟨_, _, _, rfl, rfl, rfl⟩
theorem pX6_2 (q : Nat) : FP 6 2 (ar q) := fun _ => ⟨_, _, _, _, rfl, tyX6_ok 2 (by decide), rfl, rfl⟩
theorem nX6_2 : FF RX6 6 2 := ⟨_, _, _, rfl, rfl, rfl⟩
theorem pX6_3 (q : Nat) : FP 6 3 (ar q) := fun _ => ⟨_, _, _, _, rfl, tyX6_ok 3 (by decide), rfl, rfl⟩
theorem nX6_3 : FF RX6 6 3 := ⟨_, _, _, rfl, rfl, rfl⟩
theorem pX6_4 (q : Nat) : FP 6 4 (ar q) := fun _ => ⟨_, _, _, _, rfl, tyX6_ok 4 (by decide), rfl, rfl⟩
theorem nX6_4 : FF RX6 6 4 := ⟨_, _, _, rfl, rfl, rfl⟩
theorem pX6_5 (q : Nat) : FP 6 5 (ar q) := fun _ => ⟨_, _, _, _, rfl, tyX6_ok 5 (by decide), rfl, rfl⟩
theorem nX6_5 : FF RX6 6 5 := ⟨_, _, _, rfl, rfl, rfl⟩
theorem pX6_6 (q : Nat) : FP 6 6 (ar q) := fun _ => ⟨_, _, _, _, rfl, tyX6_ok 6 (by decide), rfl, rfl⟩
theorem nX6_6 : FF RX6 6 6 := ⟨_, _, _, rfl, rfl, rfl⟩
theorem pX6_7 (q : Nat) : FP 6 7 (ar q) := fun _ => ⟨_, _, _, _, rfl, tyX6_ok 7 (by decide), rfl, rfl⟩
theorem nX6_7 : FF RX6 6 7 := ⟨_, _, _, rfl, rfl, rfl⟩
theorem pX6_8 (x : Int32) : FP 6 8 (ai x) := fun _ => ⟨_, _, _, _, rfl, tyX6_ok 8 (by decide), rfl, rfl⟩
theorem nX6_8 : FN 6 8 := ⟨_, _, _, rfl, rfl⟩
theorem eX7 : Cond.instantiable RX7 1 ∈ Wl := Wl_in (by decide +kernel) (by decide +kernel)
theorem jX7 : Cond.initialized RX7 ∈ Wl := Wl_in (by decide +kernel) (by decide +kernel)
theorem pX7_0 (q : Nat) : FP 7 0 (ar q) := fun _ => ⟨_, _, _, _, rfl, tyX7_ok 0 (by decide), rfl, rfl⟩
theorem nX7_0 : FF RX7 7 0 := ⟨_, _, _, rfl, rfl, rfl⟩
theorem eX8 : Cond.instantiable RX8 6 ∈ Wl := Wl_in (by decide +kernel) (by decide +kernel)
theorem jX8 : Cond.initialized RX8 ∈ Wl := Wl_in (by decide +kernel) (by decide +kernel)
theorem pX8_0 (q : Nat) : FP 8 0 (ar q) := fun _ => ⟨_, _, _, _, rfl, tyX8_ok 0 (by decide), rfl, rfl⟩
theorem nX8_0 : FF RX8 8 0 := ⟨_, _, _, rfl, rfl, rfl⟩
theorem pX8_1 (q : Nat) : FP 8 1 (ar q) := fun _ => ⟨_, _, _, _, rfl, tyX8_ok 1 (by decide), rfl, rfl⟩
theorem nX8_1 : FF RX8 8 1 := ⟨_, _, _, rfl, rfl, rfl⟩
theorem pX8_2 (x : Int32) : FP 8 2 (ai x) := fun _ => ⟨_, _, _, _, rfl, tyX8_ok 2 (by decide), rfl, rfl⟩
theorem nX8_2 : FN 8 2 := ⟨_, _, _, rfl, rfl⟩
theorem pX8_3 (x : Int32) : FP 8 3 (ai x) := fun _ => ⟨_, _, _, _, rfl, tyX8_ok 3 (by decide), rfl, rfl⟩
theorem nX8_3 : FN 8 3 := ⟨_, _, _, rfl, rfl⟩
theorem pX8_4 (x : Int32) : FP 8 4 (ai x) := fun _ => ⟨_, _, _, _, rfl, tyX8_ok 4 (by decide), rfl, rfl⟩
theorem nX8_4 : FN 8 4 := ⟨_, _, _, rfl, rfl⟩
theorem pX8_5 {x : Int32} (h : x = 0 ∨ x = 1) : FP 8 5 (ai x) := fun _ => ⟨_, _, _, _, rfl, tyX8_ok 5 (by decide), by rcases h with rfl | rfl <;> rfl, by rcases h with rfl | rfl <;> rfl⟩
theorem nX8_5 : FN 8 5 := ⟨_, _, _, rfl, rfl⟩
theorem eX9 : Cond.instantiable RX9 7 ∈ Wl := Wl_in (by decide +kernel) (by decide +kernel)
theorem jX9 : Cond.initialized RX9 ∈ Wl := Wl_in (by decide +kernel) (by decide +kernel)
theorem pX9_0 (q : Nat) : FP 9 0 (ar q) := fun _ => ⟨_, _, _, _, rfl, tyX9_ok 0 (by decide), rfl, rfl⟩
theorem nX9_0 : FF RX9 9 0 := ⟨_, _, _, rfl, rfl, rfl⟩
theorem pX9_1 (q : Nat) : FP 9 1 (ar q) := fun _ => ⟨_, _, _, _, rfl, tyX9_ok 1 (by decide), rfl, rfl⟩
theorem nX9_1 : FF RX9 9 1 := ⟨_, _, _, rfl, rfl, rfl⟩
theorem pX9_2 (q : Nat) : FP 9 2 (ar q) := fun _ => ⟨_, _, _, _, rfl, tyX9_ok 2 (by decide), rfl, rfl⟩
theorem nX9_2 : FF RX9 9 2 := ⟨_, _, _, rfl, rfl, rfl⟩
theorem pX9_3 (q : Nat) : FP 9 3 (ar q) := fun _ => ⟨_, _, _, _, rfl, tyX9_ok 3 (by decide), rfl, rfl⟩
theorem nX9_3 : FF RX9 9 3 := ⟨_, _, _, rfl, rfl, rfl⟩
theorem pX9_4 (q : Nat) : FP 9 4 (ar q) := fun _ => ⟨_, _, _, _, rfl, tyX9_ok 4 (by decide), rfl, rfl⟩
theorem nX9_4 : FF RX9 9 4 := ⟨_, _, _, rfl, rfl, rfl⟩
theorem pX9_5 (q : Nat) : FP 9 5 (ar q) := fun _ => ⟨_, _, _, _, rfl, tyX9_ok 5 (by decide), rfl, rfl⟩
theorem nX9_5 : FF RX9 9 5 := ⟨_, _, _, rfl, rfl, rfl⟩
theorem pX9_6 (q : Nat) : FP 9 6 (ar q) := fun _ => ⟨_, _, _, _, rfl, tyX9_ok 6 (by decide), rfl, rfl⟩
theorem nX9_6 : FF RX9 9 6 := ⟨_, _, _, rfl, rfl, rfl⟩
end
section
/-! MEMORY BEHIND THE CONSTRUCTORS: a fixed shape, and one function of ints -/
abbrev Sg : Type := Nat → Nat → Int32
abbrev Sh : Type := (Nat × List (Option Nat)) ⊕ (Nat ⊕ List Nat)
def SHl : List Sh := [.inl (9, [some 1, some 6, some 11, some 33, some 72, some 73, some 76]),
  .inl (8, [some 2, some 4, none, none, none, none]),
  .inl (7, [some 3]),
  .inr (.inl 160),
  .inl (7, [some 5]),
  .inr (.inl 25),
  .inl (8, [some 7, some 9, none, none, none, none]),
  .inl (7, [some 8]),
  .inr (.inl 160),
  .inl (7, [some 10]),
  .inr (.inl 25),
  .inl (2, [some 12, none, none]),
  .inr (.inr [13, 18, 23, 28]),
  .inl (8, [some 14, some 16, none, none, none, none]),
  .inl (7, [some 15]),
  .inr (.inl 160),
  .inl (7, [some 17]),
  .inr (.inl 25),
  .inl (8, [some 19, some 21, none, none, none, none]),
  .inl (7, [some 20]),
  .inr (.inl 160),
  .inl (7, [some 22]),
  .inr (.inl 25),
  .inl (8, [some 24, some 26, none, none, none, none]),
  .inl (7, [some 25]),
  .inr (.inl 160),
  .inl (7, [some 27]),
  .inr (.inl 25),
  .inl (8, [some 29, some 31, none, none, none, none]),
  .inl (7, [some 30]),
  .inr (.inl 160),
  .inl (7, [some 32]),
  .inr (.inl 25),
  .inl (6, [some 34, some 45, some 60, some 62, some 64, some 66, some 68, some 70, none]),
  .inl (3, [some 35, some 37, some 39, some 41, some 43, none]),
  .inl (7, [some 36]),
  .inr (.inl 160),
  .inl (7, [some 38]),
  .inr (.inl 160),
  .inl (7, [some 40]),
  .inr (.inl 160),
  .inl (7, [some 42]),
  .inr (.inl 160),
  .inl (7, [some 44]),
  .inr (.inl 25),
  .inl (4, [some 46, some 48, some 50, some 52, some 54, some 56, some 58, none]),
  .inl (7, [some 47]),
  .inr (.inl 160),
  .inl (7, [some 49]),
  .inr (.inl 160),
  .inl (7, [some 51]),
  .inr (.inl 160),
  .inl (7, [some 53]),
  .inr (.inl 160),
  .inl (7, [some 55]),
  .inr (.inl 160),
  .inl (7, [some 57]),
  .inr (.inl 160),
  .inl (7, [some 59]),
  .inr (.inl 160),
  .inl (7, [some 61]),
  .inr (.inl 160),
  .inl (7, [some 63]),
  .inr (.inl 160),
  .inl (7, [some 65]),
  .inr (.inl 160),
  .inl (7, [some 67]),
  .inr (.inl 160),
  .inl (7, [some 69]),
  .inr (.inl 160),
  .inl (7, [some 71]),
  .inr (.inl 160),
  .inl (1, [none, none, none, none, none]),
  .inl (0, [some 74, none, none, none]),
  .inl (7, [some 75]),
  .inr (.inl 25),
  .inl (5, [some 77, none, none, none]),
  .inl (7, [some 78]),
  .inr (.inl 60),
  .inr (.inl 4),
  .inr (.inl 64),
  .inr (.inl 25)]
def fOf (σ : Sg) (c : Nat) (fl : List (Option Nat)) : List AV := fl.mapIdx (fun k o => match o with | none => ai (σ c k) | some q => ar q)
def cOf (σ : Sg) (c : Nat) : Sh → AC
  | .inl (ci, fl) => .inl (ci, fOf σ c fl)
  | .inr (.inl n) => .inr (.inl (n, σ c))
  | .inr (.inr l) => .inr (.inr (l.length, fun j => l[j]?))
/-- how many arrays of 64 ints lie behind the fixed cells: a cell that no heap holds says it -/
def gN (σ : Sg) : Nat := (σ 99999 0).toNatClampNeg
def SHX (n : Nat) : List Sh := SHl ++ List.replicate n (.inr (.inl 64))
def mem (σ : Sg) : AH := (SHX (gN σ)).mapIdx (fun c s => cOf σ c s)
theorem SHl_lt {c : Nat} {s : Sh} (h : SHl[c]? = some s) : c < 82 := (List.getElem?_eq_some_iff.mp h).1
theorem SHX_l {c n : Nat} {s : Sh} (h : SHl[c]? = some s) : (SHX n)[c]? = some s := by
  rw [SHX, List.getElem?_append_left (SHl_lt h)]
  exact h
theorem SHX_r {c n : Nat} (h1 : 82 ≤ c) (h2 : c < 82 + n) : (SHX n)[c]? = some (.inr (.inl 64)) := by
  rw [SHX, List.getElem?_append_right (show SHl.length ≤ c from h1), List.getElem?_replicate, if_pos (show c - 82 < n by omega)]
def up (σ : Sg) (c k : Nat) (x : Int32) : Sg := fun c' => if c' = c then upd (σ c) k x else σ c'
theorem up_ne {σ : Sg} {c k c' : Nat} {x : Int32} (h : c' ≠ c) : up σ c k x c' = σ c' := by simp [up, h]
theorem up_self {σ : Sg} {c k : Nat} {x : Int32} : up σ c k x c = upd (σ c) k x := by simp [up]
theorem up_hit {σ : Sg} {c k : Nat} {x : Int32} : up σ c k x c k = x := by simp [up, upd]
theorem up_miss {σ : Sg} {c k k' : Nat} {x : Int32} (h : k' ≠ k) : up σ c k x c k' = σ c k' := by simp [up, upd, h]
theorem up_eq {σ : Sg} {c k c' k' : Nat} {x : Int32} : up σ c k x c' k' = if c' = c ∧ k' = k then x else σ c' k' := by
  by_cases h : c' = c
  · subst h
    simp [up, upd]
  · simp [up, h]
theorem mem_getX {σ : Sg} {c : Nat} {s : Sh} (h : (SHX (gN σ))[c]? = some s) : (mem σ)[c]? = some (cOf σ c s) := by simp [mem, List.getElem?_mapIdx, h]
theorem mem_get {σ : Sg} {c : Nat} {s : Sh} (h : SHl[c]? = some s) : (mem σ)[c]? = some (cOf σ c s) := mem_getX (SHX_l h)
theorem gN_of {σ σ' : Sg} (h : σ' 99999 = σ 99999) : gN σ' = gN σ := by rw [gN, gN, h]
theorem gN_up {σ : Sg} {c k : Nat} {x : Int32} (h : c ≠ 99999) : gN (up σ c k x) = gN σ := gN_of (up_ne (fun e => h e.symm))
theorem fOf_int {σ : Sg} {c k : Nat} {fl : List (Option Nat)} (h : fl[k]? = some none) : (fOf σ c fl)[k]? = some (ai (σ c k)) := by simp [fOf, List.getElem?_mapIdx, h]
theorem fOf_ref {σ : Sg} {c k q : Nat} {fl : List (Option Nat)} (h : fl[k]? = some (some q)) : (fOf σ c fl)[k]? = some (ar q) := by simp [fOf, List.getElem?_mapIdx, h]
theorem fOf_set {σ : Sg} {c k : Nat} {x : Int32} {fl : List (Option Nat)} (h : fl[k]? = some none) : (fOf σ c fl).set k (ai x) = fOf (up σ c k x) c fl := by
  apply List.ext_getElem?
  intro i
  simp only [fOf, List.getElem?_set, List.getElem?_mapIdx, List.length_mapIdx]
  by_cases hi : k = i
  · subst hi
    obtain ⟨hl, hk⟩ := List.getElem?_eq_some_iff.mp h
    simp [hl, hk, up_hit]
  · rw [if_neg hi]
    congr 1
    funext o
    rw [up_miss (fun e => hi e.symm)]
theorem mem_setI {σ : Sg} {c ci k : Nat} {x : Int32} {fl : List (Option Nat)} (hs0 : SHl[c]? = some (.inl (ci, fl))) (h : fl[k]? = some none) : (mem σ).set c (.inl (ci, (fOf σ c fl).set k (ai x))) = mem (up σ c k x) := by
  have hs : (SHX (gN σ))[c]? = some (.inl (ci, fl)) := SHX_l hs0
  have hc : c ≠ 99999 := by have := SHl_lt hs0; omega
  apply List.ext_getElem?
  intro i
  simp only [mem, gN_up hc, List.getElem?_set, List.getElem?_mapIdx, List.length_mapIdx]
  by_cases hi : c = i
  · subst hi
    have hl := (List.getElem?_eq_some_iff.mp hs).1
    simp only [if_true, hl, hs, Option.map_some, cOf]
    rw [fOf_set h]
  · rw [if_neg hi]
    congr 1
    funext s
    rcases s with ⟨a, b⟩ | n | l
    · show _ = Sum.inl _
      simp only [cOf, fOf]
      rw [up_ne (fun e => hi e.symm)]
    · simp only [cOf]
      rw [up_ne (fun e => hi e.symm)]
    · rfl
theorem mem_setX {σ : Sg} {c k n : Nat} {x : Int32} (hs : (SHX (gN σ))[c]? = some (.inr (.inl n))) (hc : c ≠ 99999) : (mem σ).set c (.inr (.inl (n, upd (σ c) k x))) = mem (up σ c k x) := by
  apply List.ext_getElem?
  intro i
  simp only [mem, gN_up hc, List.getElem?_set, List.getElem?_mapIdx, List.length_mapIdx]
  by_cases hi : c = i
  · subst hi
    have hl := (List.getElem?_eq_some_iff.mp hs).1
    simp only [if_true, hl, hs, Option.map_some, cOf]
    rw [up_self]
  · rw [if_neg hi]
    congr 1
    funext s
    rcases s with ⟨a, b⟩ | n | l
    · simp only [cOf, fOf]
      rw [up_ne (fun e => hi e.symm)]
    · simp only [cOf]
      rw [up_ne (fun e => hi e.symm)]
    · rfl
theorem mem_setA {σ : Sg} {c k n : Nat} {x : Int32} (hs : SHl[c]? = some (.inr (.inl n))) : (mem σ).set c (.inr (.inl (n, upd (σ c) k x))) = mem (up σ c k x) := mem_setX (SHX_l hs) (by have := SHl_lt hs; omega)
/-- one array more -/
def grow (σ : Sg) : Sg := fun c => if c = 82 + gN σ then fun _ => 0 else if c = 99999 then fun _ => nI (gN σ + 1) else σ c
theorem gN_grow {σ : Sg} (h : gN σ < 10000) : gN (grow σ) = gN σ + 1 := by
  show (grow σ 99999 0).toNatClampNeg = _
  rw [grow, if_neg (by omega), if_pos rfl, nI_clamp (by omega)]
theorem grow_ne {σ : Sg} {c : Nat} (h : c < 82 + gN σ) (h2 : c ≠ 99999) : grow σ c = σ c := by
  rw [grow, if_neg (by omega), if_neg h2]
theorem mem_grow {σ : Sg} (h : gN σ < 10000) : mem σ ++ [.inr (.inl (64, fun _ => 0))] = mem (grow σ) := by
  have hlen : (mem σ).length = 82 + gN σ := by
    rw [mem, List.length_mapIdx, SHX, List.length_append, List.length_replicate]; rfl
  have hsame : ∀ (c : Nat) (s : Sh), c < 82 + gN σ → cOf σ c s = cOf (grow σ) c s := by
    intro c s hc
    have e := grow_ne (σ := σ) hc (by omega)
    rcases s with ⟨a, b⟩ | n | l
    · simp only [cOf, fOf, e]
    · simp only [cOf, e]
    · rfl
  apply List.ext_getElem?
  intro i
  by_cases hi : i < 82 + gN σ
  · rw [List.getElem?_append_left (by rw [hlen]; exact hi)]
    simp only [mem, List.getElem?_mapIdx, gN_grow h]
    have e : (SHX (gN σ + 1))[i]? = (SHX (gN σ))[i]? := by
      by_cases h82 : i < 82
      · rw [SHX, SHX, List.getElem?_append_left (show i < SHl.length from h82), List.getElem?_append_left (show i < SHl.length from h82)]
      · rw [SHX_r (by omega) (by omega), SHX_r (by omega) (by omega)]
    rw [e]
    cases hs : (SHX (gN σ))[i]? with
    | none => rfl
    | some s => simp only [Option.map_some]; rw [hsame i s hi]
  · by_cases hi2 : i = 82 + gN σ
    · subst hi2
      rw [List.getElem?_append_right (by rw [hlen]; exact Nat.le_refl _), hlen, Nat.sub_self, mem_getX (σ := grow σ) (s := .inr (.inl 64)) (SHX_r (by omega) (by rw [gN_grow h]; omega))]
      show some (Sum.inr (Sum.inl (64, fun _ => 0))) = some (Sum.inr (Sum.inl (64, grow σ (82 + gN σ))))
      rw [grow, if_pos rfl]
    · rw [List.getElem?_eq_none (by rw [List.length_append, hlen]; show 82 + gN σ + 1 ≤ i; omega), List.getElem?_eq_none (by rw [mem, List.length_mapIdx, SHX, List.length_append, List.length_replicate, gN_grow h]; show 82 + (gN σ + 1) ≤ i; omega)]
/-- seven arrays from e on -/
def XB (σ : Sg) (e : Nat) : Prop := 82 ≤ e ∧ e + 7 ≤ 82 + gN σ ∧ gN σ < 10000
theorem XB.up {σ : Sg} {e c k : Nat} {x : Int32} (h : c ≠ 99999) (hB : XB σ e) : XB (up σ c k x) e := by
  unfold XB
  rw [gN_up h]
  exact hB
theorem XB.of {σ σ' : Sg} {e : Nat} (hB : XB σ e) (h : σ' 99999 = σ 99999) : XB σ' e := by
  unfold XB
  rw [gN_of h]
  exact hB
theorem XB.s {σ : Sg} {e j o : Nat} (hB : XB σ e) (ho : o = e + j ∧ j < 7) : (SHX (gN σ))[o]? = some (.inr (.inl 64)) := by
  obtain ⟨h1, h2, h3⟩ := hB
  exact SHX_r (by omega) (by omega)
theorem XB.n {σ : Sg} {e j o : Nat} (hB : XB σ e) (ho : o = e + j ∧ j < 7) : o ≠ 99999 := by
  obtain ⟨h1, h2, h3⟩ := hB
  omega
abbrev SP : Type := Option AV → Sg → Prop
def lift (Q : SP) : AP := fun w h => ∃ σ', h = mem σ' ∧ Q w σ'
def WM (r : MR) (Q : SP) (pc : Nat) (ls : List (Option AV)) (st : List AV) (σ : Sg) : Prop := WPr r (lift Q) pc ls st (mem σ) 0 0
def CM (r : MR) (as : List AV) (σ : Sg) (Q : SP) : Prop := C r as (mem σ) 0 0 (lift Q)
theorem CM_in {r : MR} {as : List AV} {σ : Sg} {Q : SP} {ls : List (Option AV)} (hl : lsOf r as = ls) (k : WM r Q 0 ls [] σ) : CM r as σ Q := by
  subst hl
  exact C_in k
theorem CM.mono {r : MR} {as : List AV} {σ : Sg} {Q1 Q2 : SP} (k : CM r as σ Q1) (h : ∀ w σ', Q1 w σ' → Q2 w σ') : CM r as σ Q2 := C.mono k (fun _ _ ⟨σ', e, q⟩ => ⟨σ', e, h _ _ q⟩)
def Ret (v : Int32) (σ1 : Sg) : SP := fun w σ' => w = some (ai v) ∧ σ' = σ1
def RetV (σ1 : Sg) : SP := fun w σ' => w = none ∧ σ' = σ1
theorem Ret.i {v v' : Int32} {σ σ' : Sg} (h : v = v') (hs : σ = σ') : Ret v' σ' (some (ai v)) σ := ⟨by rw [h], hs⟩
theorem FITi {r' r : MR} (h1 : Nat.ble (rf r' + 1) (rf r) = true) (h2 : Nat.ble (8 + (rL r' + 11) + rl r') (rl r) = true) : FIT r' r := ⟨Nat.le_of_ble_eq_true h1, Nat.le_of_ble_eq_true h2⟩
end
section
theorem g_iconst {r : MR} {Q : SP} {σ : Sg} {pc : Nat} {ls : List (Option AV)} {st : List AV} {n : Int} {v : Int32} {p0 : Nat} (h1 : decode (rc r) pc = .ok (.iconst n, 1)) (h2 : Int32.ofInt n = v) (e1 : pc + 1 = p0) (k1 : WM r Q p0 (ls) (ai v :: st) σ) : WM r Q pc (ls) (st) σ := by
  subst e1; exact i_iconst h1 h2 k1
theorem g_bipush {r : MR} {Q : SP} {σ : Sg} {pc : Nat} {ls : List (Option AV)} {st : List AV} {n : Int} {v : Int32} {p0 : Nat} (h1 : decode (rc r) pc = .ok (.bipush n, 2)) (h2 : (Int8.ofInt n).toInt32 = v) (e1 : pc + 2 = p0) (k1 : WM r Q p0 (ls) (ai v :: st) σ) : WM r Q pc (ls) (st) σ := by
  subst e1; exact i_bipush h1 h2 k1
theorem g_sipush {r : MR} {Q : SP} {σ : Sg} {pc : Nat} {ls : List (Option AV)} {st : List AV} {n : Int} {v : Int32} {p0 : Nat} (h1 : decode (rc r) pc = .ok (.sipush n, 3)) (h2 : (Int16.ofInt n).toInt32 = v) (e1 : pc + 3 = p0) (k1 : WM r Q p0 (ls) (ai v :: st) σ) : WM r Q pc (ls) (st) σ := by
  subst e1; exact i_sipush h1 h2 k1
theorem g_ldc {r : MR} {Q : SP} {σ : Sg} {pc : Nat} {ls : List (Option AV)} {st : List AV} {i : Nat} {v : Int32} {p0 : Nat} (h1 : decode (rc r) pc = .ok (.ldc i, 2)) (h2 : Cond.constant (ro r) i v ∈ Wl) (e1 : pc + 2 = p0) (k1 : WM r Q p0 (ls) (ai v :: st) σ) : WM r Q pc (ls) (st) σ := by
  subst e1; exact i_ldc h1 h2 k1
theorem g_null {r : MR} {Q : SP} {σ : Sg} {pc : Nat} {ls : List (Option AV)} {st : List AV}  {p0 : Nat} (h1 : decode (rc r) pc = .ok (.aconst_null, 1)) (e1 : pc + 1 = p0) (k1 : WM r Q p0 (ls) (an :: st) σ) : WM r Q pc (ls) (st) σ := by
  subst e1; exact i_null h1 k1
theorem g_iload_n {r : MR} {Q : SP} {σ : Sg} {pc : Nat} {ls : List (Option AV)} {st : List AV} {k : Fin 4} {i : Nat} {x : Int32} {p0 : Nat} (h1 : decode (rc r) pc = .ok (.iload_n k, 1)) (h2 : (k : Nat) = i) (h3 : ls[i]? = some (some (ai x))) (e1 : pc + 1 = p0) (k1 : WM r Q p0 (ls) (ai x :: st) σ) : WM r Q pc (ls) (st) σ := by
  subst e1; exact i_iload_n h1 h2 h3 k1
theorem g_iload {r : MR} {Q : SP} {σ : Sg} {pc : Nat} {ls : List (Option AV)} {st : List AV} {i : Nat} {x : Int32} {p0 : Nat} (h1 : decode (rc r) pc = .ok (.iload i, 2)) (h2 : ls[i]? = some (some (ai x))) (e1 : pc + 2 = p0) (k1 : WM r Q p0 (ls) (ai x :: st) σ) : WM r Q pc (ls) (st) σ := by
  subst e1; exact i_iload h1 h2 k1
theorem g_aload_n {r : MR} {Q : SP} {σ : Sg} {pc : Nat} {ls : List (Option AV)} {st : List AV} {k : Fin 4} {i : Nat} {x : Nat} {p0 : Nat} (h1 : decode (rc r) pc = .ok (.aload_n k, 1)) (h2 : (k : Nat) = i) (h3 : ls[i]? = some (some (ar x))) (e1 : pc + 1 = p0) (k1 : WM r Q p0 (ls) (ar x :: st) σ) : WM r Q pc (ls) (st) σ := by
  subst e1; exact i_aload_n h1 h2 h3 k1
theorem g_aload {r : MR} {Q : SP} {σ : Sg} {pc : Nat} {ls : List (Option AV)} {st : List AV} {i : Nat} {x : Nat} {p0 : Nat} (h1 : decode (rc r) pc = .ok (.aload i, 2)) (h2 : ls[i]? = some (some (ar x))) (e1 : pc + 2 = p0) (k1 : WM r Q p0 (ls) (ar x :: st) σ) : WM r Q pc (ls) (st) σ := by
  subst e1; exact i_aload h1 h2 k1
theorem g_istore_n {r : MR} {Q : SP} {σ : Sg} {pc : Nat} {ls : List (Option AV)} {st : List AV} {k : Fin 4} {i : Nat} {x : Int32} {p0 : Nat} {ls2 : List (Option AV)} (h1 : decode (rc r) pc = .ok (.istore_n k, 1)) (h2 : (k : Nat) = i) (h3 : i < ls.length) (e1 : pc + 1 = p0) (el : ls.set i (some (ai x)) = ls2) (k1 : WM r Q p0 (ls2) (st) σ) : WM r Q pc (ls) (ai x :: st) σ := by
  subst e1; subst el; exact i_istore_n h1 h2 h3 k1
theorem g_istore {r : MR} {Q : SP} {σ : Sg} {pc : Nat} {ls : List (Option AV)} {st : List AV} {i : Nat} {x : Int32} {p0 : Nat} {ls2 : List (Option AV)} (h1 : decode (rc r) pc = .ok (.istore i, 2)) (h2 : i < ls.length) (e1 : pc + 2 = p0) (el : ls.set i (some (ai x)) = ls2) (k1 : WM r Q p0 (ls2) (st) σ) : WM r Q pc (ls) (ai x :: st) σ := by
  subst e1; subst el; exact i_istore h1 h2 k1
theorem g_astore_n {r : MR} {Q : SP} {σ : Sg} {pc : Nat} {ls : List (Option AV)} {st : List AV} {k : Fin 4} {i : Nat} {x : Nat} {p0 : Nat} {ls2 : List (Option AV)} (h1 : decode (rc r) pc = .ok (.astore_n k, 1)) (h2 : (k : Nat) = i) (h3 : i < ls.length) (e1 : pc + 1 = p0) (el : ls.set i (some (ar x)) = ls2) (k1 : WM r Q p0 (ls2) (st) σ) : WM r Q pc (ls) (ar x :: st) σ := by
  subst e1; subst el; exact i_astore_n h1 h2 h3 k1
theorem g_astore {r : MR} {Q : SP} {σ : Sg} {pc : Nat} {ls : List (Option AV)} {st : List AV} {i : Nat} {x : Nat} {p0 : Nat} {ls2 : List (Option AV)} (h1 : decode (rc r) pc = .ok (.astore i, 2)) (h2 : i < ls.length) (e1 : pc + 2 = p0) (el : ls.set i (some (ar x)) = ls2) (k1 : WM r Q p0 (ls2) (st) σ) : WM r Q pc (ls) (ar x :: st) σ := by
  subst e1; subst el; exact i_astore h1 h2 k1
theorem g_iinc {r : MR} {Q : SP} {σ : Sg} {pc : Nat} {ls : List (Option AV)} {st : List AV} {i : Nat} {n : Int} {x y : Int32} {p0 : Nat} {ls2 : List (Option AV)} (h1 : decode (rc r) pc = .ok (.iinc i n, 3)) (h2 : ls[i]? = some (some (ai x))) (hy : x + Int32.ofInt n = y) (el : ls.set i (some (ai y)) = ls2) (e1 : pc + 3 = p0) (k1 : WM r Q p0 ls2 st σ) : WM r Q pc ls st σ := by
  subst hy; subst el; subst e1; exact i_iinc h1 h2 k1
theorem g_iadd {r : MR} {Q : SP} {σ : Sg} {pc : Nat} {ls : List (Option AV)} {st : List AV} {x y : Int32} {p0 : Nat} (h1 : decode (rc r) pc = .ok (.iadd, 1)) (e1 : pc + 1 = p0) (k1 : WM r Q p0 (ls) (ai (x + y) :: st) σ) : WM r Q pc (ls) (ai y :: ai x :: st) σ := by
  subst e1; exact i_iadd h1 k1
theorem g_isub {r : MR} {Q : SP} {σ : Sg} {pc : Nat} {ls : List (Option AV)} {st : List AV} {x y : Int32} {p0 : Nat} (h1 : decode (rc r) pc = .ok (.isub, 1)) (e1 : pc + 1 = p0) (k1 : WM r Q p0 (ls) (ai (x - y) :: st) σ) : WM r Q pc (ls) (ai y :: ai x :: st) σ := by
  subst e1; exact i_isub h1 k1
theorem g_imul {r : MR} {Q : SP} {σ : Sg} {pc : Nat} {ls : List (Option AV)} {st : List AV} {x y : Int32} {p0 : Nat} (h1 : decode (rc r) pc = .ok (.imul, 1)) (e1 : pc + 1 = p0) (k1 : WM r Q p0 (ls) (ai (x * y) :: st) σ) : WM r Q pc (ls) (ai y :: ai x :: st) σ := by
  subst e1; exact i_imul h1 k1
theorem g_ior {r : MR} {Q : SP} {σ : Sg} {pc : Nat} {ls : List (Option AV)} {st : List AV} {x y : Int32} {p0 : Nat} (h1 : decode (rc r) pc = .ok (.ior, 1)) (e1 : pc + 1 = p0) (k1 : WM r Q p0 (ls) (ai (x ||| y) :: st) σ) : WM r Q pc (ls) (ai y :: ai x :: st) σ := by
  subst e1; exact i_ior h1 k1
theorem g_iand {r : MR} {Q : SP} {σ : Sg} {pc : Nat} {ls : List (Option AV)} {st : List AV} {x y : Int32} {p0 : Nat} (h1 : decode (rc r) pc = .ok (.iand, 1)) (e1 : pc + 1 = p0) (k1 : WM r Q p0 (ls) (ai (x &&& y) :: st) σ) : WM r Q pc (ls) (ai y :: ai x :: st) σ := by
  subst e1; exact i_iand h1 k1
theorem g_ixor {r : MR} {Q : SP} {σ : Sg} {pc : Nat} {ls : List (Option AV)} {st : List AV} {x y : Int32} {p0 : Nat} (h1 : decode (rc r) pc = .ok (.ixor, 1)) (e1 : pc + 1 = p0) (k1 : WM r Q p0 (ls) (ai (x ^^^ y) :: st) σ) : WM r Q pc (ls) (ai y :: ai x :: st) σ := by
  subst e1; exact i_ixor h1 k1
theorem g_ishl {r : MR} {Q : SP} {σ : Sg} {pc : Nat} {ls : List (Option AV)} {st : List AV} {x y : Int32} {p0 : Nat} (h1 : decode (rc r) pc = .ok (.ishl, 1)) (e1 : pc + 1 = p0) (k1 : WM r Q p0 (ls) (ai (x <<< (y &&& 31)) :: st) σ) : WM r Q pc (ls) (ai y :: ai x :: st) σ := by
  subst e1; exact i_ishl h1 k1
theorem g_ishr {r : MR} {Q : SP} {σ : Sg} {pc : Nat} {ls : List (Option AV)} {st : List AV} {x y : Int32} {p0 : Nat} (h1 : decode (rc r) pc = .ok (.ishr, 1)) (e1 : pc + 1 = p0) (k1 : WM r Q p0 (ls) (ai (x >>> (y &&& 31)) :: st) σ) : WM r Q pc (ls) (ai y :: ai x :: st) σ := by
  subst e1; exact i_ishr h1 k1
theorem g_idiv {r : MR} {Q : SP} {σ : Sg} {pc : Nat} {ls : List (Option AV)} {st : List AV} {x y : Int32} {p0 : Nat} (h1 : decode (rc r) pc = .ok (.idiv, 1)) (h2 : ¬ y = 0) (e1 : pc + 1 = p0) (k1 : WM r Q p0 (ls) (ai (x / y) :: st) σ) : WM r Q pc (ls) (ai y :: ai x :: st) σ := by
  subst e1; exact i_idiv h1 h2 k1
theorem g_irem {r : MR} {Q : SP} {σ : Sg} {pc : Nat} {ls : List (Option AV)} {st : List AV} {x y : Int32} {p0 : Nat} (h1 : decode (rc r) pc = .ok (.irem, 1)) (h2 : ¬ y = 0) (e1 : pc + 1 = p0) (k1 : WM r Q p0 (ls) (ai (x - x / y * y) :: st) σ) : WM r Q pc (ls) (ai y :: ai x :: st) σ := by
  subst e1; exact i_irem h1 h2 k1
theorem g_dup {r : MR} {Q : SP} {σ : Sg} {pc : Nat} {ls : List (Option AV)} {st : List AV} {v : AV} {p0 : Nat} (h1 : decode (rc r) pc = .ok (.dup, 1)) (e1 : pc + 1 = p0) (k1 : WM r Q p0 (ls) (v :: v :: st) σ) : WM r Q pc (ls) (v :: st) σ := by
  subst e1; exact i_dup h1 k1
theorem g_dup2 {r : MR} {Q : SP} {σ : Sg} {pc : Nat} {ls : List (Option AV)} {st : List AV} {v u : AV} {p0 : Nat} (h1 : decode (rc r) pc = .ok (.dup2, 1)) (e1 : pc + 1 = p0) (k1 : WM r Q p0 (ls) (v :: u :: v :: u :: st) σ) : WM r Q pc (ls) (v :: u :: st) σ := by
  subst e1; exact i_dup2 h1 k1
theorem g_pop {r : MR} {Q : SP} {σ : Sg} {pc : Nat} {ls : List (Option AV)} {st : List AV} {v : AV} {p0 : Nat} (h1 : decode (rc r) pc = .ok (.pop, 1)) (e1 : pc + 1 = p0) (k1 : WM r Q p0 (ls) (st) σ) : WM r Q pc (ls) (v :: st) σ := by
  subst e1; exact i_pop h1 k1
theorem g_goto {r : MR} {Q : SP} {σ : Sg} {pc : Nat} {ls : List (Option AV)} {st : List AV} {off : Int} {tgt : Nat} (h1 : decode (rc r) pc = .ok (.goto off, 3)) (h2 : (pc : Int) + off = (tgt : Int)) (k1 : WM r Q tgt (ls) (st) σ) : WM r Q pc (ls) (st) σ := by
  exact i_goto h1 h2 k1
theorem g_icmp_eq {r : MR} {Q : SP} {σ : Sg} {pc : Nat} {ls : List (Option AV)} {st : List AV} {x y : Int32} {off : Int} {tgt : Nat} {p1 : Nat} (h1 : decode (rc r) pc = .ok (.if_icmp .eq off, 3)) (h2 : (pc : Int) + off = (tgt : Int)) (e2 : pc + 3 = p1) (k1 : x = y → WM r Q tgt (ls) (st) σ) (k2 : ¬ x = y → WM r Q p1 (ls) (st) σ) : WM r Q pc (ls) (ai y :: ai x :: st) σ := by
  subst e2; exact i_icmp_eq h1 h2 k1 k2
theorem g_if_eq {r : MR} {Q : SP} {σ : Sg} {pc : Nat} {ls : List (Option AV)} {st : List AV} {x : Int32} {off : Int} {tgt : Nat} {p1 : Nat} (h1 : decode (rc r) pc = .ok (.ifCond .eq off, 3)) (h2 : (pc : Int) + off = (tgt : Int)) (e2 : pc + 3 = p1) (k1 : x = 0 → WM r Q tgt (ls) (st) σ) (k2 : ¬ x = 0 → WM r Q p1 (ls) (st) σ) : WM r Q pc (ls) (ai x :: st) σ := by
  subst e2; exact i_if_eq h1 h2 k1 k2
theorem g_icmp_ne {r : MR} {Q : SP} {σ : Sg} {pc : Nat} {ls : List (Option AV)} {st : List AV} {x y : Int32} {off : Int} {tgt : Nat} {p1 : Nat} (h1 : decode (rc r) pc = .ok (.if_icmp .ne off, 3)) (h2 : (pc : Int) + off = (tgt : Int)) (e2 : pc + 3 = p1) (k1 : ¬ x = y → WM r Q tgt (ls) (st) σ) (k2 : x = y → WM r Q p1 (ls) (st) σ) : WM r Q pc (ls) (ai y :: ai x :: st) σ := by
  subst e2; exact i_icmp_ne h1 h2 k1 k2
theorem g_if_ne {r : MR} {Q : SP} {σ : Sg} {pc : Nat} {ls : List (Option AV)} {st : List AV} {x : Int32} {off : Int} {tgt : Nat} {p1 : Nat} (h1 : decode (rc r) pc = .ok (.ifCond .ne off, 3)) (h2 : (pc : Int) + off = (tgt : Int)) (e2 : pc + 3 = p1) (k1 : ¬ x = 0 → WM r Q tgt (ls) (st) σ) (k2 : x = 0 → WM r Q p1 (ls) (st) σ) : WM r Q pc (ls) (ai x :: st) σ := by
  subst e2; exact i_if_ne h1 h2 k1 k2
theorem g_icmp_lt {r : MR} {Q : SP} {σ : Sg} {pc : Nat} {ls : List (Option AV)} {st : List AV} {x y : Int32} {off : Int} {tgt : Nat} {p1 : Nat} (h1 : decode (rc r) pc = .ok (.if_icmp .lt off, 3)) (h2 : (pc : Int) + off = (tgt : Int)) (e2 : pc + 3 = p1) (k1 : x < y → WM r Q tgt (ls) (st) σ) (k2 : ¬ x < y → WM r Q p1 (ls) (st) σ) : WM r Q pc (ls) (ai y :: ai x :: st) σ := by
  subst e2; exact i_icmp_lt h1 h2 k1 k2
theorem g_if_lt {r : MR} {Q : SP} {σ : Sg} {pc : Nat} {ls : List (Option AV)} {st : List AV} {x : Int32} {off : Int} {tgt : Nat} {p1 : Nat} (h1 : decode (rc r) pc = .ok (.ifCond .lt off, 3)) (h2 : (pc : Int) + off = (tgt : Int)) (e2 : pc + 3 = p1) (k1 : x < 0 → WM r Q tgt (ls) (st) σ) (k2 : ¬ x < 0 → WM r Q p1 (ls) (st) σ) : WM r Q pc (ls) (ai x :: st) σ := by
  subst e2; exact i_if_lt h1 h2 k1 k2
theorem g_icmp_ge {r : MR} {Q : SP} {σ : Sg} {pc : Nat} {ls : List (Option AV)} {st : List AV} {x y : Int32} {off : Int} {tgt : Nat} {p1 : Nat} (h1 : decode (rc r) pc = .ok (.if_icmp .ge off, 3)) (h2 : (pc : Int) + off = (tgt : Int)) (e2 : pc + 3 = p1) (k1 : y ≤ x → WM r Q tgt (ls) (st) σ) (k2 : ¬ y ≤ x → WM r Q p1 (ls) (st) σ) : WM r Q pc (ls) (ai y :: ai x :: st) σ := by
  subst e2; exact i_icmp_ge h1 h2 k1 k2
theorem g_if_ge {r : MR} {Q : SP} {σ : Sg} {pc : Nat} {ls : List (Option AV)} {st : List AV} {x : Int32} {off : Int} {tgt : Nat} {p1 : Nat} (h1 : decode (rc r) pc = .ok (.ifCond .ge off, 3)) (h2 : (pc : Int) + off = (tgt : Int)) (e2 : pc + 3 = p1) (k1 : 0 ≤ x → WM r Q tgt (ls) (st) σ) (k2 : ¬ 0 ≤ x → WM r Q p1 (ls) (st) σ) : WM r Q pc (ls) (ai x :: st) σ := by
  subst e2; exact i_if_ge h1 h2 k1 k2
theorem g_icmp_gt {r : MR} {Q : SP} {σ : Sg} {pc : Nat} {ls : List (Option AV)} {st : List AV} {x y : Int32} {off : Int} {tgt : Nat} {p1 : Nat} (h1 : decode (rc r) pc = .ok (.if_icmp .gt off, 3)) (h2 : (pc : Int) + off = (tgt : Int)) (e2 : pc + 3 = p1) (k1 : y < x → WM r Q tgt (ls) (st) σ) (k2 : ¬ y < x → WM r Q p1 (ls) (st) σ) : WM r Q pc (ls) (ai y :: ai x :: st) σ := by
  subst e2; exact i_icmp_gt h1 h2 k1 k2
theorem g_if_gt {r : MR} {Q : SP} {σ : Sg} {pc : Nat} {ls : List (Option AV)} {st : List AV} {x : Int32} {off : Int} {tgt : Nat} {p1 : Nat} (h1 : decode (rc r) pc = .ok (.ifCond .gt off, 3)) (h2 : (pc : Int) + off = (tgt : Int)) (e2 : pc + 3 = p1) (k1 : 0 < x → WM r Q tgt (ls) (st) σ) (k2 : ¬ 0 < x → WM r Q p1 (ls) (st) σ) : WM r Q pc (ls) (ai x :: st) σ := by
  subst e2; exact i_if_gt h1 h2 k1 k2
theorem g_icmp_le {r : MR} {Q : SP} {σ : Sg} {pc : Nat} {ls : List (Option AV)} {st : List AV} {x y : Int32} {off : Int} {tgt : Nat} {p1 : Nat} (h1 : decode (rc r) pc = .ok (.if_icmp .le off, 3)) (h2 : (pc : Int) + off = (tgt : Int)) (e2 : pc + 3 = p1) (k1 : x ≤ y → WM r Q tgt (ls) (st) σ) (k2 : ¬ x ≤ y → WM r Q p1 (ls) (st) σ) : WM r Q pc (ls) (ai y :: ai x :: st) σ := by
  subst e2; exact i_icmp_le h1 h2 k1 k2
theorem g_if_le {r : MR} {Q : SP} {σ : Sg} {pc : Nat} {ls : List (Option AV)} {st : List AV} {x : Int32} {off : Int} {tgt : Nat} {p1 : Nat} (h1 : decode (rc r) pc = .ok (.ifCond .le off, 3)) (h2 : (pc : Int) + off = (tgt : Int)) (e2 : pc + 3 = p1) (k1 : x ≤ 0 → WM r Q tgt (ls) (st) σ) (k2 : ¬ x ≤ 0 → WM r Q p1 (ls) (st) σ) : WM r Q pc (ls) (ai x :: st) σ := by
  subst e2; exact i_if_le h1 h2 k1 k2
theorem g_ifnull {r : MR} {Q : SP} {σ : Sg} {pc : Nat} {ls : List (Option AV)} {st : List AV} {x : Nat} {off : Int} {p0 : Nat} (h1 : decode (rc r) pc = .ok (.ifnull off, 3)) (e1 : pc + 3 = p0) (k1 : WM r Q p0 (ls) (st) σ) : WM r Q pc (ls) (ar x :: st) σ := by
  subst e1; exact i_ifnull h1 k1
theorem g_tabIn {r : MR} {Q : SP} {σ : Sg} {pc : Nat} {ls : List (Option AV)} {st : List AV} {dflt lo hi : Int} {offs : Array Int} {len : Nat} {x : Int32} {off : Int} {tgt : Nat} (h1 : decode (rc r) pc = .ok (.tableswitch dflt lo hi offs, len)) (h2 : ¬ x.toInt < lo) (h3 : ¬ hi < x.toInt) (h4 : offs[(x.toInt - lo).toNat]? = some off) (h5 : (pc : Int) + off = (tgt : Int)) (k1 : WM r Q tgt (ls) (st) σ) : WM r Q pc (ls) (ai x :: st) σ := by
  exact i_tabIn h1 h2 h3 h4 h5 k1
theorem g_tabOut {r : MR} {Q : SP} {σ : Sg} {pc : Nat} {ls : List (Option AV)} {st : List AV} {dflt lo hi : Int} {offs : Array Int} {len : Nat} {x : Int32} {tgt : Nat} (h1 : decode (rc r) pc = .ok (.tableswitch dflt lo hi offs, len)) (h2 : x.toInt < lo ∨ hi < x.toInt) (h3 : (pc : Int) + dflt = (tgt : Int)) (k1 : WM r Q tgt (ls) (st) σ) : WM r Q pc (ls) (ai x :: st) σ := by
  exact i_tabOut h1 h2 h3 k1
theorem g_look {r : MR} {Q : SP} {σ : Sg} {pc : Nat} {ls : List (Option AV)} {st : List AV} {dflt : Int} {ps : Array (Int × Int)} {len : Nat} {x : Int32} {off : Int} {tgt : Nat} (h1 : decode (rc r) pc = .ok (.lookupswitch dflt ps, len)) (h2 : (ps.toList.zip (ps.toList.drop 1)).all (fun (a, next) => a.1 < next.1) = true) (h3 : Op.lookupswitch.offset ps.toList dflt x.toInt = off) (h4 : (pc : Int) + off = (tgt : Int)) (k1 : WM r Q tgt (ls) (st) σ) : WM r Q pc (ls) (ai x :: st) σ := by
  exact i_look h1 h2 h3 h4 k1
end
section
theorem nI_inj {a b : Nat} (ha : a < 2147483648) (hb : b < 2147483648) : nI a = nI b ↔ a = b := nI_eq (by simpa using ha) (by simpa using hb)
theorem nI_lt_iff {a b : Nat} (ha : a < 2147483648) (hb : b < 2147483648) : nI a < nI b ↔ a < b := nI_ltI (by simpa using ha) (by simpa using hb)
theorem nI_le_iff {a b : Nat} (ha : a < 2147483648) (hb : b < 2147483648) : nI a ≤ nI b ↔ a ≤ b := nI_leI (by simpa using ha) (by simpa using hb)
theorem g_iconstN {r : MR} {Q : SP} {σ : Sg} {pc : Nat} {ls : List (Option AV)} {st : List AV} {n : Int} {m : Nat} {p0 : Nat} (h1 : decode (rc r) pc = .ok (.iconst n, 1)) (h2 : Int32.ofInt n = nI m) (e1 : pc + 1 = p0) (k1 : WM r Q p0 ls (ai (nI m) :: st) σ) : WM r Q pc ls st σ := g_iconst h1 h2 e1 k1
theorem g_iaddN {r : MR} {Q : SP} {σ : Sg} {pc : Nat} {ls : List (Option AV)} {st : List AV} {x y p0 : Nat} (h1 : decode (rc r) pc = .ok (.iadd, 1)) (e1 : pc + 1 = p0) (k1 : WM r Q p0 ls (ai (nI (x + y)) :: st) σ) : WM r Q pc ls (ai (nI y) :: ai (nI x) :: st) σ := by
  refine g_iadd h1 e1 ?_
  rw [nI_add]
  exact k1
theorem g_imulN {r : MR} {Q : SP} {σ : Sg} {pc : Nat} {ls : List (Option AV)} {st : List AV} {x y p0 : Nat} (h1 : decode (rc r) pc = .ok (.imul, 1)) (e1 : pc + 1 = p0) (k1 : WM r Q p0 ls (ai (nI (x * y)) :: st) σ) : WM r Q pc ls (ai (nI y) :: ai (nI x) :: st) σ := by
  refine g_imul h1 e1 ?_
  rw [pk_mul]
  exact k1
theorem g_isubN {r : MR} {Q : SP} {σ : Sg} {pc : Nat} {ls : List (Option AV)} {st : List AV} {x y p0 : Nat} (h1 : decode (rc r) pc = .ok (.isub, 1)) (hle : y ≤ x) (e1 : pc + 1 = p0) (k1 : WM r Q p0 ls (ai (nI (x - y)) :: st) σ) : WM r Q pc ls (ai (nI y) :: ai (nI x) :: st) σ := by
  refine g_isub h1 e1 ?_
  rw [pk_sub hle]
  exact k1
theorem isN2 {r : MR} {Q : SP} {σ : Sg} {pc : Nat} {ls : List (Option AV)} {st : List AV} {x y : Nat} (k : WM r Q pc ls (ai (nI y) :: ai (nI x) :: st) σ) : WM r Q pc ls (ai (nI y) :: ai (nI x) :: st) σ := k
theorem isN1 {r : MR} {Q : SP} {σ : Sg} {pc : Nat} {ls : List (Option AV)} {st : List AV} {x : Nat} (k : WM r Q pc ls (ai (nI x) :: st) σ) : WM r Q pc ls (ai (nI x) :: st) σ := k
theorem isNS {r : MR} {Q : SP} {σ : Sg} {pc : Nat} {ls : List (Option AV)} {st : List AV} {x : Nat} {v : AV} (k : WM r Q pc ls (v :: ai (nI x) :: st) σ) : WM r Q pc ls (v :: ai (nI x) :: st) σ := k
theorem nI_dec {n : Nat} (h : 1 ≤ n) : nI n + Int32.ofInt (-1) = nI (n - 1) := by
  obtain ⟨m, rfl⟩ : ∃ m, n = m + 1 := ⟨n - 1, by omega⟩
  exact pk_m1 m
theorem g_iinc1 {r : MR} {Q : SP} {σ : Sg} {pc : Nat} {ls : List (Option AV)} {st : List AV} {i x p0 : Nat} {ls2 : List (Option AV)} (h1 : decode (rc r) pc = .ok (.iinc i 1, 3)) (h2 : ls[i]? = some (some (ai (nI x)))) (el : ls.set i (some (ai (nI (x + 1)))) = ls2) (e1 : pc + 3 = p0) (k1 : WM r Q p0 ls2 st σ) : WM r Q pc ls st σ := g_iinc h1 h2 (nI_1 x) el e1 k1
theorem g_iincM {r : MR} {Q : SP} {σ : Sg} {pc : Nat} {ls : List (Option AV)} {st : List AV} {i x p0 : Nat} {ls2 : List (Option AV)} (h1 : decode (rc r) pc = .ok (.iinc i (-1), 3)) (h2 : ls[i]? = some (some (ai (nI x)))) (hx : 1 ≤ x) (el : ls.set i (some (ai (nI (x - 1)))) = ls2) (e1 : pc + 3 = p0) (k1 : WM r Q p0 ls2 st σ) : WM r Q pc ls st σ := g_iinc h1 h2 (nI_dec hx) el e1 k1
theorem g_idivN {r : MR} {Q : SP} {σ : Sg} {pc : Nat} {ls : List (Option AV)} {st : List AV} {x y p0 : Nat} (h1 : decode (rc r) pc = .ok (.idiv, 1)) (hx : x < 2147483648) (hy : y < 2147483648) (h0 : 0 < y) (e1 : pc + 1 = p0) (k1 : WM r Q p0 ls (ai (nI (x / y)) :: st) σ) : WM r Q pc ls (ai (nI y) :: ai (nI x) :: st) σ := by
  refine g_idiv h1 (nI_ne0 h0 (by simpa using hy)) e1 ?_
  rw [pk_div (by simpa using hx) h0 (by simpa using hy)]
  exact k1
theorem g_iremN {r : MR} {Q : SP} {σ : Sg} {pc : Nat} {ls : List (Option AV)} {st : List AV} {x y p0 : Nat} (h1 : decode (rc r) pc = .ok (.irem, 1)) (hx : x < 2147483648) (hy : y < 2147483648) (h0 : 0 < y) (e1 : pc + 1 = p0) (k1 : WM r Q p0 ls (ai (nI (x % y)) :: st) σ) : WM r Q pc ls (ai (nI y) :: ai (nI x) :: st) σ := by
  refine g_irem h1 (nI_ne0 h0 (by simpa using hy)) e1 ?_
  rw [pk_rem (by simpa using hx) h0 (by simpa using hy)]
  exact k1
theorem g_icmpN_eq {r : MR} {Q : SP} {σ : Sg} {pc : Nat} {ls : List (Option AV)} {st : List AV} {x y : Nat} {off : Int} {tgt p1 : Nat} (h1 : decode (rc r) pc = .ok (.if_icmp .eq off, 3)) (h2 : (pc : Int) + off = (tgt : Int)) (hx : x < 2147483648) (hy : y < 2147483648) (e2 : pc + 3 = p1) (k1 : x = y → WM r Q tgt ls st σ) (k2 : ¬ x = y → WM r Q p1 ls st σ) : WM r Q pc ls (ai (nI y) :: ai (nI x) :: st) σ := g_icmp_eq h1 h2 e2 (fun q => k1 ((nI_inj hx hy).mp q)) (fun q => k2 (fun z => q ((nI_inj hx hy).mpr z)))
theorem g_ifN_eq {r : MR} {Q : SP} {σ : Sg} {pc : Nat} {ls : List (Option AV)} {st : List AV} {x : Nat} {off : Int} {tgt p1 : Nat} (h1 : decode (rc r) pc = .ok (.ifCond .eq off, 3)) (h2 : (pc : Int) + off = (tgt : Int)) (hx : x < 2147483648) (e2 : pc + 3 = p1) (k1 : x = 0 → WM r Q tgt ls st σ) (k2 : ¬ x = 0 → WM r Q p1 ls st σ) : WM r Q pc ls (ai (nI x) :: st) σ := g_if_eq h1 h2 e2 (fun q => k1 ((nI_inj hx (by decide)).mp q)) (fun q => k2 (fun z => q ((nI_inj hx (by decide)).mpr z)))
theorem g_icmpN_ne {r : MR} {Q : SP} {σ : Sg} {pc : Nat} {ls : List (Option AV)} {st : List AV} {x y : Nat} {off : Int} {tgt p1 : Nat} (h1 : decode (rc r) pc = .ok (.if_icmp .ne off, 3)) (h2 : (pc : Int) + off = (tgt : Int)) (hx : x < 2147483648) (hy : y < 2147483648) (e2 : pc + 3 = p1) (k1 : ¬ x = y → WM r Q tgt ls st σ) (k2 : x = y → WM r Q p1 ls st σ) : WM r Q pc ls (ai (nI y) :: ai (nI x) :: st) σ := g_icmp_ne h1 h2 e2 (fun q => k1 (fun z => q ((nI_inj hx hy).mpr z))) (fun q => k2 ((nI_inj hx hy).mp q))
theorem g_ifN_ne {r : MR} {Q : SP} {σ : Sg} {pc : Nat} {ls : List (Option AV)} {st : List AV} {x : Nat} {off : Int} {tgt p1 : Nat} (h1 : decode (rc r) pc = .ok (.ifCond .ne off, 3)) (h2 : (pc : Int) + off = (tgt : Int)) (hx : x < 2147483648) (e2 : pc + 3 = p1) (k1 : ¬ x = 0 → WM r Q tgt ls st σ) (k2 : x = 0 → WM r Q p1 ls st σ) : WM r Q pc ls (ai (nI x) :: st) σ := g_if_ne h1 h2 e2 (fun q => k1 (fun z => q ((nI_inj hx (by decide)).mpr z))) (fun q => k2 ((nI_inj hx (by decide)).mp q))
theorem g_icmpN_lt {r : MR} {Q : SP} {σ : Sg} {pc : Nat} {ls : List (Option AV)} {st : List AV} {x y : Nat} {off : Int} {tgt p1 : Nat} (h1 : decode (rc r) pc = .ok (.if_icmp .lt off, 3)) (h2 : (pc : Int) + off = (tgt : Int)) (hx : x < 2147483648) (hy : y < 2147483648) (e2 : pc + 3 = p1) (k1 : x < y → WM r Q tgt ls st σ) (k2 : ¬ x < y → WM r Q p1 ls st σ) : WM r Q pc ls (ai (nI y) :: ai (nI x) :: st) σ := g_icmp_lt h1 h2 e2 (fun q => k1 ((nI_lt_iff hx hy).mp q)) (fun q => k2 (fun z => q ((nI_lt_iff hx hy).mpr z)))
theorem g_ifN_lt {r : MR} {Q : SP} {σ : Sg} {pc : Nat} {ls : List (Option AV)} {st : List AV} {x : Nat} {off : Int} {tgt p1 : Nat} (h1 : decode (rc r) pc = .ok (.ifCond .lt off, 3)) (h2 : (pc : Int) + off = (tgt : Int)) (hx : x < 2147483648) (e2 : pc + 3 = p1) (k1 : x < 0 → WM r Q tgt ls st σ) (k2 : ¬ x < 0 → WM r Q p1 ls st σ) : WM r Q pc ls (ai (nI x) :: st) σ := g_if_lt h1 h2 e2 (fun q => k1 ((nI_lt_iff hx (by decide)).mp q)) (fun q => k2 (fun z => q ((nI_lt_iff hx (by decide)).mpr z)))
theorem g_icmpN_ge {r : MR} {Q : SP} {σ : Sg} {pc : Nat} {ls : List (Option AV)} {st : List AV} {x y : Nat} {off : Int} {tgt p1 : Nat} (h1 : decode (rc r) pc = .ok (.if_icmp .ge off, 3)) (h2 : (pc : Int) + off = (tgt : Int)) (hx : x < 2147483648) (hy : y < 2147483648) (e2 : pc + 3 = p1) (k1 : y ≤ x → WM r Q tgt ls st σ) (k2 : ¬ y ≤ x → WM r Q p1 ls st σ) : WM r Q pc ls (ai (nI y) :: ai (nI x) :: st) σ := g_icmp_ge h1 h2 e2 (fun q => k1 ((nI_le_iff hy hx).mp q)) (fun q => k2 (fun z => q ((nI_le_iff hy hx).mpr z)))
theorem g_ifN_ge {r : MR} {Q : SP} {σ : Sg} {pc : Nat} {ls : List (Option AV)} {st : List AV} {x : Nat} {off : Int} {tgt p1 : Nat} (h1 : decode (rc r) pc = .ok (.ifCond .ge off, 3)) (h2 : (pc : Int) + off = (tgt : Int)) (hx : x < 2147483648) (e2 : pc + 3 = p1) (k1 : 0 ≤ x → WM r Q tgt ls st σ) (k2 : ¬ 0 ≤ x → WM r Q p1 ls st σ) : WM r Q pc ls (ai (nI x) :: st) σ := g_if_ge h1 h2 e2 (fun q => k1 ((nI_le_iff (by decide) hx).mp q)) (fun q => k2 (fun z => q ((nI_le_iff (by decide) hx).mpr z)))
theorem g_icmpN_gt {r : MR} {Q : SP} {σ : Sg} {pc : Nat} {ls : List (Option AV)} {st : List AV} {x y : Nat} {off : Int} {tgt p1 : Nat} (h1 : decode (rc r) pc = .ok (.if_icmp .gt off, 3)) (h2 : (pc : Int) + off = (tgt : Int)) (hx : x < 2147483648) (hy : y < 2147483648) (e2 : pc + 3 = p1) (k1 : y < x → WM r Q tgt ls st σ) (k2 : ¬ y < x → WM r Q p1 ls st σ) : WM r Q pc ls (ai (nI y) :: ai (nI x) :: st) σ := g_icmp_gt h1 h2 e2 (fun q => k1 ((nI_lt_iff hy hx).mp q)) (fun q => k2 (fun z => q ((nI_lt_iff hy hx).mpr z)))
theorem g_ifN_gt {r : MR} {Q : SP} {σ : Sg} {pc : Nat} {ls : List (Option AV)} {st : List AV} {x : Nat} {off : Int} {tgt p1 : Nat} (h1 : decode (rc r) pc = .ok (.ifCond .gt off, 3)) (h2 : (pc : Int) + off = (tgt : Int)) (hx : x < 2147483648) (e2 : pc + 3 = p1) (k1 : 0 < x → WM r Q tgt ls st σ) (k2 : ¬ 0 < x → WM r Q p1 ls st σ) : WM r Q pc ls (ai (nI x) :: st) σ := g_if_gt h1 h2 e2 (fun q => k1 ((nI_lt_iff (by decide) hx).mp q)) (fun q => k2 (fun z => q ((nI_lt_iff (by decide) hx).mpr z)))
theorem g_icmpN_le {r : MR} {Q : SP} {σ : Sg} {pc : Nat} {ls : List (Option AV)} {st : List AV} {x y : Nat} {off : Int} {tgt p1 : Nat} (h1 : decode (rc r) pc = .ok (.if_icmp .le off, 3)) (h2 : (pc : Int) + off = (tgt : Int)) (hx : x < 2147483648) (hy : y < 2147483648) (e2 : pc + 3 = p1) (k1 : x ≤ y → WM r Q tgt ls st σ) (k2 : ¬ x ≤ y → WM r Q p1 ls st σ) : WM r Q pc ls (ai (nI y) :: ai (nI x) :: st) σ := g_icmp_le h1 h2 e2 (fun q => k1 ((nI_le_iff hx hy).mp q)) (fun q => k2 (fun z => q ((nI_le_iff hx hy).mpr z)))
theorem g_ifN_le {r : MR} {Q : SP} {σ : Sg} {pc : Nat} {ls : List (Option AV)} {st : List AV} {x : Nat} {off : Int} {tgt p1 : Nat} (h1 : decode (rc r) pc = .ok (.ifCond .le off, 3)) (h2 : (pc : Int) + off = (tgt : Int)) (hx : x < 2147483648) (e2 : pc + 3 = p1) (k1 : x ≤ 0 → WM r Q tgt ls st σ) (k2 : ¬ x ≤ 0 → WM r Q p1 ls st σ) : WM r Q pc ls (ai (nI x) :: st) σ := g_if_le h1 h2 e2 (fun q => k1 ((nI_le_iff hx (by decide)).mp q)) (fun q => k2 (fun z => q ((nI_le_iff hx (by decide)).mpr z)))
theorem g_getI {r : MR} {Q : SP} {σ : Sg} {pc : Nat} {ls : List (Option AV)} {st : List AV} {i ci k o p0 : Nat} {fl : List (Option Nat)} {v : Int32} (h1 : decode (rc r) pc = .ok (.getfield i, 3)) (h2 : FL (ro r) i ci k) (hs : SHl[o]? = some (.inl (ci, fl))) (hk : fl[k]? = some none) (hv : σ o k = v) (e1 : pc + 3 = p0) (k1 : WM r Q p0 ls (ai v :: st) σ) : WM r Q pc ls (ar o :: st) σ := by
  subst e1; subst hv; exact i_getf h1 h2 (mem_get hs) (fOf_int hk) k1
theorem g_getR {r : MR} {Q : SP} {σ : Sg} {pc : Nat} {ls : List (Option AV)} {st : List AV} {i ci k o q p0 : Nat} {fl : List (Option Nat)} (h1 : decode (rc r) pc = .ok (.getfield i, 3)) (h2 : FL (ro r) i ci k) (hs : SHl[o]? = some (.inl (ci, fl))) (hk : fl[k]? = some (some q)) (e1 : pc + 3 = p0) (k1 : WM r Q p0 ls (ar q :: st) σ) : WM r Q pc ls (ar o :: st) σ := by
  subst e1; exact i_getf h1 h2 (mem_get hs) (fOf_ref hk) k1
theorem g_put {r : MR} {Q : SP} {σ : Sg} {pc : Nat} {ls : List (Option AV)} {st : List AV} {i ci k o p0 : Nat} {fl : List (Option Nat)} {x : Int32} (h1 : decode (rc r) pc = .ok (.putfield i, 3)) (h2 : FL (ro r) i ci k) (hs : SHl[o]? = some (.inl (ci, fl))) (hk : fl[k]? = some none) (hn : FN ci k) (hp : FP ci k (ai x)) (e1 : pc + 3 = p0) (k1 : WM r Q p0 ls st (up σ o k x)) : WM r Q pc ls (ai x :: ar o :: st) σ := by
  subst e1
  refine i_putf h1 h2 (Or.inl hn) hp (mem_get hs) (List.getElem?_eq_some_iff.mp (fOf_int hk)).1 ?_
  rw [mem_setI hs hk]
  exact k1
theorem g_ald {r : MR} {Q : SP} {σ : Sg} {pc : Nat} {ls : List (Option AV)} {st : List AV} {o n p0 : Nat} {i v : Int32} (h1 : decode (rc r) pc = .ok (.iaload, 1)) (hs : SHl[o]? = some (.inr (.inl n))) (hi : vp_in i n) (hv : σ o i.toNatClampNeg = v) (e1 : pc + 1 = p0) (k1 : WM r Q p0 ls (ai v :: st) σ) : WM r Q pc ls (ai i :: ar o :: st) σ := by
  subst e1; subst hv; exact i_iald h1 (mem_get hs) hi k1
theorem g_aldN {r : MR} {Q : SP} {σ : Sg} {pc : Nat} {ls : List (Option AV)} {st : List AV} {o n j p0 : Nat} {v : Int32} (h1 : decode (rc r) pc = .ok (.iaload, 1)) (hs : SHl[o]? = some (.inr (.inl n))) (hn : n ≤ 1000) (hj : j < n) (hv : σ o j = v) (e1 : pc + 1 = p0) (k1 : WM r Q p0 ls (ai v :: st) σ) : WM r Q pc ls (ai (nI j) :: ar o :: st) σ := by
  have hl : j < 2 ^ 31 := by omega
  exact g_ald h1 hs (vp_in_nI hj (by omega)) (by rw [nI_clamp hl]; exact hv) e1 k1
theorem g_ast {r : MR} {Q : SP} {σ : Sg} {pc : Nat} {ls : List (Option AV)} {st : List AV} {o n p0 : Nat} {i x : Int32} (h1 : decode (rc r) pc = .ok (.iastore, 1)) (hs : SHl[o]? = some (.inr (.inl n))) (hi : vp_in i n) (e1 : pc + 1 = p0) (k1 : WM r Q p0 ls st (up σ o i.toNatClampNeg x)) : WM r Q pc ls (ai x :: ai i :: ar o :: st) σ := by
  subst e1
  refine i_iast h1 (mem_get hs) hi ?_
  rw [mem_setA hs]
  exact k1
theorem g_astN {r : MR} {Q : SP} {σ : Sg} {pc : Nat} {ls : List (Option AV)} {st : List AV} {o n j p0 : Nat} {x : Int32} (h1 : decode (rc r) pc = .ok (.iastore, 1)) (hs : SHl[o]? = some (.inr (.inl n))) (hn : n ≤ 1000) (hj : j < n) (e1 : pc + 1 = p0) (k1 : WM r Q p0 ls st (up σ o j x)) : WM r Q pc ls (ai x :: ai (nI j) :: ar o :: st) σ := by
  have hl : j < 2 ^ 31 := by omega
  refine g_ast h1 hs (vp_in_nI hj (by omega)) e1 ?_
  rw [nI_clamp hl]
  exact k1
theorem g_aldX {r : MR} {Q : SP} {σ : Sg} {pc : Nat} {ls : List (Option AV)} {st : List AV} {e o k j p0 : Nat} {v : Int32} (h1 : decode (rc r) pc = .ok (.iaload, 1)) (hB : XB σ e) (ho : o = e + k ∧ k < 7) (hj : j < 64) (hv : σ o j = v) (e1 : pc + 1 = p0) (k1 : WM r Q p0 ls (ai v :: st) σ) : WM r Q pc ls (ai (nI j) :: ar o :: st) σ := by
  subst e1; subst hv
  have hl : j < 2 ^ 31 := by omega
  refine i_iald h1 (mem_getX (hB.s ho)) (vp_in_nI hj (by omega)) ?_
  rw [nI_clamp hl]
  exact k1
theorem g_astX {r : MR} {Q : SP} {σ : Sg} {pc : Nat} {ls : List (Option AV)} {st : List AV} {e o k j p0 : Nat} {x : Int32} (h1 : decode (rc r) pc = .ok (.iastore, 1)) (hB : XB σ e) (ho : o = e + k ∧ k < 7) (hj : j < 64) (e1 : pc + 1 = p0) (k1 : WM r Q p0 ls st (up σ o j x)) : WM r Q pc ls (ai x :: ai (nI j) :: ar o :: st) σ := by
  subst e1
  have hl : j < 2 ^ 31 := by omega
  refine i_iast h1 (mem_getX (hB.s ho)) (vp_in_nI hj (by omega)) ?_
  rw [nI_clamp hl]
  show WPr r (lift Q) (pc + 1) ls st ((mem σ).set o (.inr (.inl (64, upd (σ o) j x)))) 0 0
  rw [mem_setX (hB.s ho) (hB.n ho)]
  exact k1
theorem g_alen {r : MR} {Q : SP} {σ : Sg} {pc : Nat} {ls : List (Option AV)} {st : List AV} {o n p0 : Nat} (h1 : decode (rc r) pc = .ok (.arraylength, 1)) (hs : SHl[o]? = some (.inr (.inl n))) (e1 : pc + 1 = p0) (k1 : WM r Q p0 ls (ai (nI n) :: st) σ) : WM r Q pc ls (ar o :: st) σ := by
  subst e1; exact i_alen h1 (mem_get hs) k1
theorem g_alenq {r : MR} {Q : SP} {σ : Sg} {pc : Nat} {ls : List (Option AV)} {st : List AV} {o p0 : Nat} {l : List Nat} (h1 : decode (rc r) pc = .ok (.arraylength, 1)) (hs : SHl[o]? = some (.inr (.inr l))) (e1 : pc + 1 = p0) (k1 : WM r Q p0 ls (ai (nI l.length) :: st) σ) : WM r Q pc ls (ar o :: st) σ := by
  subst e1; exact i_alenq h1 (mem_get hs) k1
theorem g_aald {r : MR} {Q : SP} {σ : Sg} {pc : Nat} {ls : List (Option AV)} {st : List AV} {o j q p0 : Nat} {l : List Nat} (h1 : decode (rc r) pc = .ok (.aaload, 1)) (hs : SHl[o]? = some (.inr (.inr l))) (hn : l.length ≤ 1000) (hq : l[j]? = some q) (e1 : pc + 1 = p0) (k1 : WM r Q p0 ls (ar q :: st) σ) : WM r Q pc ls (ai (nI j) :: ar o :: st) σ := by
  subst e1
  have hj := (List.getElem?_eq_some_iff.mp hq).1
  have hl : j < 2 ^ 31 := by omega
  refine i_aald h1 (mem_get hs) (vp_in_nI hj (by omega)) ?_
  rw [nI_clamp hl, hq]
  exact k1
theorem g_ireturn {r : MR} {Q : SP} {σ : Sg} {pc : Nat} {ls : List (Option AV)} {x : Int32} {ty : FieldType} (h1 : decode (rc r) pc = .ok (.ireturn, 1)) (h2 : rt r = some ty) (h3 : narrow ty (.int x) = .int x) (k : Q (some (ai x)) σ) : WM r Q pc ls [ai x] σ := i_ireturn h1 h2 h3 ⟨_, rfl, k⟩
theorem g_areturn {r : MR} {Q : SP} {σ : Sg} {pc : Nat} {ls : List (Option AV)} {x : Nat} {C : String} (h1 : decode (rc r) pc = .ok (.areturn, 1)) (h2 : rt r = some (.object C)) (k : Q (some (ar x)) σ) : WM r Q pc ls [ar x] σ := i_areturn h1 h2 ⟨_, rfl, k⟩
theorem g_return {r : MR} {Q : SP} {σ : Sg} {pc : Nat} {ls : List (Option AV)} (h1 : decode (rc r) pc = .ok (.return_, 1)) (h2 : rt r = none) (k : Q none σ) : WM r Q pc ls [] σ := i_return h1 h2 ⟨_, rfl, k⟩
theorem bool_narrow {x : Int32} (h : x = 0 ∨ x = 1) : narrow .boolean (.int x) = .int x := by rcases h with rfl | rfl <;> rfl
end
section
theorem g_cV0R_base {r : MR} {Q : SP} {σ : Sg} {pc : Nat} {ls : List (Option AV)} {st st0 : List AV} {i o ci n : Nat} {As : List AV} {fl : List (Option Nat)} {r1 : MR} (h1 : decode (rc r) pc = .ok (.invokevirtual i, 3)) (h2 : Cond.methodLink (ro r) i (ry r1) ∈ Wl) (h3 : MV r1 n) (hs : SHl[o]? = some (.inl (ci, fl))) (hk : KC ci (ro r1)) (hf : FIT r1 r) (hl : st.length ≤ 8) (hn : As.length = n) (hst : As.reverse ++ ar o :: st = st0) (k : C r1 (ar o :: As) (mem σ) 0 0 (fun w h1 => WPr r (lift Q) (pc + 3) ls (w.toList ++ st) h1 0 0)) : WM r Q pc ls st0 σ := by
  subst hst; subst hn
  have z : WPr r (lift Q) pc ls (As.reverse ++ ar o :: st) (mem σ) (0 + 0) (0 + 0) := i_callV h1 h2 h3 (mem_get hs) hk hf hl k
  exact z
theorem g_cS0R_base {r : MR} {Q : SP} {σ : Sg} {pc : Nat} {ls : List (Option AV)} {st st0 : List AV} {i n : Nat} {As : List AV} {r1 : MR} (h1 : decode (rc r) pc = .ok (.invokestatic i, 3)) (h2 : Cond.methodLink (ro r) i (ry r1) ∈ Wl ∨ (ro r, i, ry r1) ∈ nestL) (h3 : MS r1 n) (hf : FIT r1 r) (hl : st.length ≤ 8) (hn : As.length = n) (hst : As.reverse ++ st = st0) (k : C r1 As (mem σ) 0 0 (fun w h1 => WPr r (lift Q) (pc + 3) ls (w.toList ++ st) h1 0 0)) : WM r Q pc ls st0 σ := by
  subst hst; subst hn
  have z : WPr r (lift Q) pc ls (As.reverse ++ st) (mem σ) (0 + 0) (0 + 0) := i_callS h1 h2 h3 hf hl k
  exact z
theorem conR {r r1 : MR} {Q : SP} {as : List AV} {σ σ1 : Sg} {pc p0 : Nat} {ls : List (Option AV)} {st : List AV} {v : Int32} (hc : CM r1 as σ (Ret v σ1)) (e1 : pc + 3 = p0) (k1 : WM r Q p0 ls (ai v :: st) σ1) : C r1 as (mem σ) 0 0 (fun w h1 => WPr r (lift Q) (pc + 3) ls (w.toList ++ st) h1 0 0) := by
  subst e1
  refine C.mono hc ?_
  intro w h q
  obtain ⟨σ2, e, ew, es⟩ := q
  rw [e, ew, es]
  exact k1
theorem conV {r r1 : MR} {Q : SP} {as : List AV} {σ σ1 : Sg} {pc p0 : Nat} {ls : List (Option AV)} {st : List AV} (hc : CM r1 as σ (RetV σ1)) (e1 : pc + 3 = p0) (k1 : WM r Q p0 ls st σ1) : C r1 as (mem σ) 0 0 (fun w h1 => WPr r (lift Q) (pc + 3) ls (w.toList ++ st) h1 0 0) := by
  subst e1
  refine C.mono hc ?_
  intro w h q
  obtain ⟨σ2, e, ew, es⟩ := q
  rw [e, ew, es]
  exact k1
theorem conG {r r1 : MR} {Q Q1 : SP} {as : List AV} {σ : Sg} {pc p0 : Nat} {ls : List (Option AV)} {st : List AV} (hc : CM r1 as σ Q1) (e1 : pc + 3 = p0) (k1 : ∀ w σ1, Q1 w σ1 → WM r Q p0 ls (w.toList ++ st) σ1) : C r1 as (mem σ) 0 0 (fun w h1 => WPr r (lift Q) (pc + 3) ls (w.toList ++ st) h1 0 0) := by
  subst e1
  refine C.mono hc ?_
  intro w h q
  obtain ⟨σ2, e, q1⟩ := q
  rw [e]
  exact k1 w σ2 q1
theorem g_cV0R {r : MR} {Q : SP} {σ : Sg} {pc : Nat} {ls : List (Option AV)} {st : List AV} {i o ci p0 : Nat} {fl : List (Option Nat)} {r1 : MR} {v : Int32} {σ1 : Sg} (h1 : decode (rc r) pc = .ok (.invokevirtual i, 3)) (h2 : Cond.methodLink (ro r) i (ry r1) ∈ Wl) (h3 : MV r1 0) (hs : SHl[o]? = some (.inl (ci, fl))) (hk : KC ci (ro r1)) (hf : FIT r1 r) (hl : st.length ≤ 8) (hc : CM r1 (ar o :: []) σ (Ret v σ1)) (e1 : pc + 3 = p0) (k1 : WM r Q p0 ls (ai v :: st) σ1) : WM r Q pc ls (ar o :: st) σ := g_cV0R_base (As := []) h1 h2 h3 hs hk hf hl rfl rfl (conR hc e1 k1)
theorem g_cS0R {r : MR} {Q : SP} {σ : Sg} {pc : Nat} {ls : List (Option AV)} {st : List AV} {i p0 : Nat} {r1 : MR} {v : Int32} {σ1 : Sg} (h1 : decode (rc r) pc = .ok (.invokestatic i, 3)) (h2 : Cond.methodLink (ro r) i (ry r1) ∈ Wl ∨ (ro r, i, ry r1) ∈ nestL) (h3 : MS r1 0) (hf : FIT r1 r) (hl : st.length ≤ 8) (hc : CM r1 ([]) σ (Ret v σ1)) (e1 : pc + 3 = p0) (k1 : WM r Q p0 ls (ai v :: st) σ1) : WM r Q pc ls (st) σ := g_cS0R_base (As := []) h1 h2 h3 hf hl rfl rfl (conR hc e1 k1)
theorem g_cV0V {r : MR} {Q : SP} {σ : Sg} {pc : Nat} {ls : List (Option AV)} {st : List AV} {i o ci p0 : Nat} {fl : List (Option Nat)} {r1 : MR} {σ1 : Sg} (h1 : decode (rc r) pc = .ok (.invokevirtual i, 3)) (h2 : Cond.methodLink (ro r) i (ry r1) ∈ Wl) (h3 : MV r1 0) (hs : SHl[o]? = some (.inl (ci, fl))) (hk : KC ci (ro r1)) (hf : FIT r1 r) (hl : st.length ≤ 8) (hc : CM r1 (ar o :: []) σ (RetV σ1)) (e1 : pc + 3 = p0) (k1 : WM r Q p0 ls st σ1) : WM r Q pc ls (ar o :: st) σ := g_cV0R_base (As := []) h1 h2 h3 hs hk hf hl rfl rfl (conV hc e1 k1)
theorem g_cS0V {r : MR} {Q : SP} {σ : Sg} {pc : Nat} {ls : List (Option AV)} {st : List AV} {i p0 : Nat} {r1 : MR} {σ1 : Sg} (h1 : decode (rc r) pc = .ok (.invokestatic i, 3)) (h2 : Cond.methodLink (ro r) i (ry r1) ∈ Wl ∨ (ro r, i, ry r1) ∈ nestL) (h3 : MS r1 0) (hf : FIT r1 r) (hl : st.length ≤ 8) (hc : CM r1 ([]) σ (RetV σ1)) (e1 : pc + 3 = p0) (k1 : WM r Q p0 ls st σ1) : WM r Q pc ls (st) σ := g_cS0R_base (As := []) h1 h2 h3 hf hl rfl rfl (conV hc e1 k1)
theorem g_cV0G {r : MR} {Q : SP} {σ : Sg} {pc : Nat} {ls : List (Option AV)} {st : List AV} {i o ci p0 : Nat} {fl : List (Option Nat)} {r1 : MR} {Q1 : SP} (h1 : decode (rc r) pc = .ok (.invokevirtual i, 3)) (h2 : Cond.methodLink (ro r) i (ry r1) ∈ Wl) (h3 : MV r1 0) (hs : SHl[o]? = some (.inl (ci, fl))) (hk : KC ci (ro r1)) (hf : FIT r1 r) (hl : st.length ≤ 8) (hc : CM r1 (ar o :: []) σ Q1) (e1 : pc + 3 = p0) (k1 : ∀ w σ1, Q1 w σ1 → WM r Q p0 ls (w.toList ++ st) σ1) : WM r Q pc ls (ar o :: st) σ := g_cV0R_base (As := []) h1 h2 h3 hs hk hf hl rfl rfl (conG hc e1 k1)
theorem g_cS0G {r : MR} {Q : SP} {σ : Sg} {pc : Nat} {ls : List (Option AV)} {st : List AV} {i p0 : Nat} {r1 : MR} {Q1 : SP} (h1 : decode (rc r) pc = .ok (.invokestatic i, 3)) (h2 : Cond.methodLink (ro r) i (ry r1) ∈ Wl ∨ (ro r, i, ry r1) ∈ nestL) (h3 : MS r1 0) (hf : FIT r1 r) (hl : st.length ≤ 8) (hc : CM r1 ([]) σ Q1) (e1 : pc + 3 = p0) (k1 : ∀ w σ1, Q1 w σ1 → WM r Q p0 ls (w.toList ++ st) σ1) : WM r Q pc ls (st) σ := g_cS0R_base (As := []) h1 h2 h3 hf hl rfl rfl (conG hc e1 k1)
theorem g_cV1R {r : MR} {Q : SP} {σ : Sg} {pc : Nat} {ls : List (Option AV)} {st : List AV} {i o ci p0 : Nat} {fl : List (Option Nat)} {r1 : MR} {a1 : AV} {v : Int32} {σ1 : Sg} (h1 : decode (rc r) pc = .ok (.invokevirtual i, 3)) (h2 : Cond.methodLink (ro r) i (ry r1) ∈ Wl) (h3 : MV r1 1) (hs : SHl[o]? = some (.inl (ci, fl))) (hk : KC ci (ro r1)) (hf : FIT r1 r) (hl : st.length ≤ 8) (hc : CM r1 (ar o :: [a1]) σ (Ret v σ1)) (e1 : pc + 3 = p0) (k1 : WM r Q p0 ls (ai v :: st) σ1) : WM r Q pc ls (a1 :: ar o :: st) σ := g_cV0R_base (As := [a1]) h1 h2 h3 hs hk hf hl rfl rfl (conR hc e1 k1)
theorem g_cS1R {r : MR} {Q : SP} {σ : Sg} {pc : Nat} {ls : List (Option AV)} {st : List AV} {i p0 : Nat} {r1 : MR} {a1 : AV} {v : Int32} {σ1 : Sg} (h1 : decode (rc r) pc = .ok (.invokestatic i, 3)) (h2 : Cond.methodLink (ro r) i (ry r1) ∈ Wl ∨ (ro r, i, ry r1) ∈ nestL) (h3 : MS r1 1) (hf : FIT r1 r) (hl : st.length ≤ 8) (hc : CM r1 ([a1]) σ (Ret v σ1)) (e1 : pc + 3 = p0) (k1 : WM r Q p0 ls (ai v :: st) σ1) : WM r Q pc ls (a1 :: st) σ := g_cS0R_base (As := [a1]) h1 h2 h3 hf hl rfl rfl (conR hc e1 k1)
theorem g_cV1V {r : MR} {Q : SP} {σ : Sg} {pc : Nat} {ls : List (Option AV)} {st : List AV} {i o ci p0 : Nat} {fl : List (Option Nat)} {r1 : MR} {a1 : AV} {σ1 : Sg} (h1 : decode (rc r) pc = .ok (.invokevirtual i, 3)) (h2 : Cond.methodLink (ro r) i (ry r1) ∈ Wl) (h3 : MV r1 1) (hs : SHl[o]? = some (.inl (ci, fl))) (hk : KC ci (ro r1)) (hf : FIT r1 r) (hl : st.length ≤ 8) (hc : CM r1 (ar o :: [a1]) σ (RetV σ1)) (e1 : pc + 3 = p0) (k1 : WM r Q p0 ls st σ1) : WM r Q pc ls (a1 :: ar o :: st) σ := g_cV0R_base (As := [a1]) h1 h2 h3 hs hk hf hl rfl rfl (conV hc e1 k1)
theorem g_cS1V {r : MR} {Q : SP} {σ : Sg} {pc : Nat} {ls : List (Option AV)} {st : List AV} {i p0 : Nat} {r1 : MR} {a1 : AV} {σ1 : Sg} (h1 : decode (rc r) pc = .ok (.invokestatic i, 3)) (h2 : Cond.methodLink (ro r) i (ry r1) ∈ Wl ∨ (ro r, i, ry r1) ∈ nestL) (h3 : MS r1 1) (hf : FIT r1 r) (hl : st.length ≤ 8) (hc : CM r1 ([a1]) σ (RetV σ1)) (e1 : pc + 3 = p0) (k1 : WM r Q p0 ls st σ1) : WM r Q pc ls (a1 :: st) σ := g_cS0R_base (As := [a1]) h1 h2 h3 hf hl rfl rfl (conV hc e1 k1)
theorem g_cV1G {r : MR} {Q : SP} {σ : Sg} {pc : Nat} {ls : List (Option AV)} {st : List AV} {i o ci p0 : Nat} {fl : List (Option Nat)} {r1 : MR} {a1 : AV} {Q1 : SP} (h1 : decode (rc r) pc = .ok (.invokevirtual i, 3)) (h2 : Cond.methodLink (ro r) i (ry r1) ∈ Wl) (h3 : MV r1 1) (hs : SHl[o]? = some (.inl (ci, fl))) (hk : KC ci (ro r1)) (hf : FIT r1 r) (hl : st.length ≤ 8) (hc : CM r1 (ar o :: [a1]) σ Q1) (e1 : pc + 3 = p0) (k1 : ∀ w σ1, Q1 w σ1 → WM r Q p0 ls (w.toList ++ st) σ1) : WM r Q pc ls (a1 :: ar o :: st) σ := g_cV0R_base (As := [a1]) h1 h2 h3 hs hk hf hl rfl rfl (conG hc e1 k1)
theorem g_cS1G {r : MR} {Q : SP} {σ : Sg} {pc : Nat} {ls : List (Option AV)} {st : List AV} {i p0 : Nat} {r1 : MR} {a1 : AV} {Q1 : SP} (h1 : decode (rc r) pc = .ok (.invokestatic i, 3)) (h2 : Cond.methodLink (ro r) i (ry r1) ∈ Wl ∨ (ro r, i, ry r1) ∈ nestL) (h3 : MS r1 1) (hf : FIT r1 r) (hl : st.length ≤ 8) (hc : CM r1 ([a1]) σ Q1) (e1 : pc + 3 = p0) (k1 : ∀ w σ1, Q1 w σ1 → WM r Q p0 ls (w.toList ++ st) σ1) : WM r Q pc ls (a1 :: st) σ := g_cS0R_base (As := [a1]) h1 h2 h3 hf hl rfl rfl (conG hc e1 k1)
theorem g_cV2R {r : MR} {Q : SP} {σ : Sg} {pc : Nat} {ls : List (Option AV)} {st : List AV} {i o ci p0 : Nat} {fl : List (Option Nat)} {r1 : MR} {a1 a2 : AV} {v : Int32} {σ1 : Sg} (h1 : decode (rc r) pc = .ok (.invokevirtual i, 3)) (h2 : Cond.methodLink (ro r) i (ry r1) ∈ Wl) (h3 : MV r1 2) (hs : SHl[o]? = some (.inl (ci, fl))) (hk : KC ci (ro r1)) (hf : FIT r1 r) (hl : st.length ≤ 8) (hc : CM r1 (ar o :: [a1, a2]) σ (Ret v σ1)) (e1 : pc + 3 = p0) (k1 : WM r Q p0 ls (ai v :: st) σ1) : WM r Q pc ls (a2 :: a1 :: ar o :: st) σ := g_cV0R_base (As := [a1, a2]) h1 h2 h3 hs hk hf hl rfl rfl (conR hc e1 k1)
theorem g_cS2R {r : MR} {Q : SP} {σ : Sg} {pc : Nat} {ls : List (Option AV)} {st : List AV} {i p0 : Nat} {r1 : MR} {a1 a2 : AV} {v : Int32} {σ1 : Sg} (h1 : decode (rc r) pc = .ok (.invokestatic i, 3)) (h2 : Cond.methodLink (ro r) i (ry r1) ∈ Wl ∨ (ro r, i, ry r1) ∈ nestL) (h3 : MS r1 2) (hf : FIT r1 r) (hl : st.length ≤ 8) (hc : CM r1 ([a1, a2]) σ (Ret v σ1)) (e1 : pc + 3 = p0) (k1 : WM r Q p0 ls (ai v :: st) σ1) : WM r Q pc ls (a2 :: a1 :: st) σ := g_cS0R_base (As := [a1, a2]) h1 h2 h3 hf hl rfl rfl (conR hc e1 k1)
theorem g_cV2V {r : MR} {Q : SP} {σ : Sg} {pc : Nat} {ls : List (Option AV)} {st : List AV} {i o ci p0 : Nat} {fl : List (Option Nat)} {r1 : MR} {a1 a2 : AV} {σ1 : Sg} (h1 : decode (rc r) pc = .ok (.invokevirtual i, 3)) (h2 : Cond.methodLink (ro r) i (ry r1) ∈ Wl) (h3 : MV r1 2) (hs : SHl[o]? = some (.inl (ci, fl))) (hk : KC ci (ro r1)) (hf : FIT r1 r) (hl : st.length ≤ 8) (hc : CM r1 (ar o :: [a1, a2]) σ (RetV σ1)) (e1 : pc + 3 = p0) (k1 : WM r Q p0 ls st σ1) : WM r Q pc ls (a2 :: a1 :: ar o :: st) σ := g_cV0R_base (As := [a1, a2]) h1 h2 h3 hs hk hf hl rfl rfl (conV hc e1 k1)
theorem g_cS2V {r : MR} {Q : SP} {σ : Sg} {pc : Nat} {ls : List (Option AV)} {st : List AV} {i p0 : Nat} {r1 : MR} {a1 a2 : AV} {σ1 : Sg} (h1 : decode (rc r) pc = .ok (.invokestatic i, 3)) (h2 : Cond.methodLink (ro r) i (ry r1) ∈ Wl ∨ (ro r, i, ry r1) ∈ nestL) (h3 : MS r1 2) (hf : FIT r1 r) (hl : st.length ≤ 8) (hc : CM r1 ([a1, a2]) σ (RetV σ1)) (e1 : pc + 3 = p0) (k1 : WM r Q p0 ls st σ1) : WM r Q pc ls (a2 :: a1 :: st) σ := g_cS0R_base (As := [a1, a2]) h1 h2 h3 hf hl rfl rfl (conV hc e1 k1)
theorem g_cV2G {r : MR} {Q : SP} {σ : Sg} {pc : Nat} {ls : List (Option AV)} {st : List AV} {i o ci p0 : Nat} {fl : List (Option Nat)} {r1 : MR} {a1 a2 : AV} {Q1 : SP} (h1 : decode (rc r) pc = .ok (.invokevirtual i, 3)) (h2 : Cond.methodLink (ro r) i (ry r1) ∈ Wl) (h3 : MV r1 2) (hs : SHl[o]? = some (.inl (ci, fl))) (hk : KC ci (ro r1)) (hf : FIT r1 r) (hl : st.length ≤ 8) (hc : CM r1 (ar o :: [a1, a2]) σ Q1) (e1 : pc + 3 = p0) (k1 : ∀ w σ1, Q1 w σ1 → WM r Q p0 ls (w.toList ++ st) σ1) : WM r Q pc ls (a2 :: a1 :: ar o :: st) σ := g_cV0R_base (As := [a1, a2]) h1 h2 h3 hs hk hf hl rfl rfl (conG hc e1 k1)
theorem g_cS2G {r : MR} {Q : SP} {σ : Sg} {pc : Nat} {ls : List (Option AV)} {st : List AV} {i p0 : Nat} {r1 : MR} {a1 a2 : AV} {Q1 : SP} (h1 : decode (rc r) pc = .ok (.invokestatic i, 3)) (h2 : Cond.methodLink (ro r) i (ry r1) ∈ Wl ∨ (ro r, i, ry r1) ∈ nestL) (h3 : MS r1 2) (hf : FIT r1 r) (hl : st.length ≤ 8) (hc : CM r1 ([a1, a2]) σ Q1) (e1 : pc + 3 = p0) (k1 : ∀ w σ1, Q1 w σ1 → WM r Q p0 ls (w.toList ++ st) σ1) : WM r Q pc ls (a2 :: a1 :: st) σ := g_cS0R_base (As := [a1, a2]) h1 h2 h3 hf hl rfl rfl (conG hc e1 k1)
theorem g_cV3R {r : MR} {Q : SP} {σ : Sg} {pc : Nat} {ls : List (Option AV)} {st : List AV} {i o ci p0 : Nat} {fl : List (Option Nat)} {r1 : MR} {a1 a2 a3 : AV} {v : Int32} {σ1 : Sg} (h1 : decode (rc r) pc = .ok (.invokevirtual i, 3)) (h2 : Cond.methodLink (ro r) i (ry r1) ∈ Wl) (h3 : MV r1 3) (hs : SHl[o]? = some (.inl (ci, fl))) (hk : KC ci (ro r1)) (hf : FIT r1 r) (hl : st.length ≤ 8) (hc : CM r1 (ar o :: [a1, a2, a3]) σ (Ret v σ1)) (e1 : pc + 3 = p0) (k1 : WM r Q p0 ls (ai v :: st) σ1) : WM r Q pc ls (a3 :: a2 :: a1 :: ar o :: st) σ := g_cV0R_base (As := [a1, a2, a3]) h1 h2 h3 hs hk hf hl rfl rfl (conR hc e1 k1)
theorem g_cS3R {r : MR} {Q : SP} {σ : Sg} {pc : Nat} {ls : List (Option AV)} {st : List AV} {i p0 : Nat} {r1 : MR} {a1 a2 a3 : AV} {v : Int32} {σ1 : Sg} (h1 : decode (rc r) pc = .ok (.invokestatic i, 3)) (h2 : Cond.methodLink (ro r) i (ry r1) ∈ Wl ∨ (ro r, i, ry r1) ∈ nestL) (h3 : MS r1 3) (hf : FIT r1 r) (hl : st.length ≤ 8) (hc : CM r1 ([a1, a2, a3]) σ (Ret v σ1)) (e1 : pc + 3 = p0) (k1 : WM r Q p0 ls (ai v :: st) σ1) : WM r Q pc ls (a3 :: a2 :: a1 :: st) σ := g_cS0R_base (As := [a1, a2, a3]) h1 h2 h3 hf hl rfl rfl (conR hc e1 k1)
theorem g_cV3V {r : MR} {Q : SP} {σ : Sg} {pc : Nat} {ls : List (Option AV)} {st : List AV} {i o ci p0 : Nat} {fl : List (Option Nat)} {r1 : MR} {a1 a2 a3 : AV} {σ1 : Sg} (h1 : decode (rc r) pc = .ok (.invokevirtual i, 3)) (h2 : Cond.methodLink (ro r) i (ry r1) ∈ Wl) (h3 : MV r1 3) (hs : SHl[o]? = some (.inl (ci, fl))) (hk : KC ci (ro r1)) (hf : FIT r1 r) (hl : st.length ≤ 8) (hc : CM r1 (ar o :: [a1, a2, a3]) σ (RetV σ1)) (e1 : pc + 3 = p0) (k1 : WM r Q p0 ls st σ1) : WM r Q pc ls (a3 :: a2 :: a1 :: ar o :: st) σ := g_cV0R_base (As := [a1, a2, a3]) h1 h2 h3 hs hk hf hl rfl rfl (conV hc e1 k1)
theorem g_cS3V {r : MR} {Q : SP} {σ : Sg} {pc : Nat} {ls : List (Option AV)} {st : List AV} {i p0 : Nat} {r1 : MR} {a1 a2 a3 : AV} {σ1 : Sg} (h1 : decode (rc r) pc = .ok (.invokestatic i, 3)) (h2 : Cond.methodLink (ro r) i (ry r1) ∈ Wl ∨ (ro r, i, ry r1) ∈ nestL) (h3 : MS r1 3) (hf : FIT r1 r) (hl : st.length ≤ 8) (hc : CM r1 ([a1, a2, a3]) σ (RetV σ1)) (e1 : pc + 3 = p0) (k1 : WM r Q p0 ls st σ1) : WM r Q pc ls (a3 :: a2 :: a1 :: st) σ := g_cS0R_base (As := [a1, a2, a3]) h1 h2 h3 hf hl rfl rfl (conV hc e1 k1)
theorem g_cV3G {r : MR} {Q : SP} {σ : Sg} {pc : Nat} {ls : List (Option AV)} {st : List AV} {i o ci p0 : Nat} {fl : List (Option Nat)} {r1 : MR} {a1 a2 a3 : AV} {Q1 : SP} (h1 : decode (rc r) pc = .ok (.invokevirtual i, 3)) (h2 : Cond.methodLink (ro r) i (ry r1) ∈ Wl) (h3 : MV r1 3) (hs : SHl[o]? = some (.inl (ci, fl))) (hk : KC ci (ro r1)) (hf : FIT r1 r) (hl : st.length ≤ 8) (hc : CM r1 (ar o :: [a1, a2, a3]) σ Q1) (e1 : pc + 3 = p0) (k1 : ∀ w σ1, Q1 w σ1 → WM r Q p0 ls (w.toList ++ st) σ1) : WM r Q pc ls (a3 :: a2 :: a1 :: ar o :: st) σ := g_cV0R_base (As := [a1, a2, a3]) h1 h2 h3 hs hk hf hl rfl rfl (conG hc e1 k1)
theorem g_cS3G {r : MR} {Q : SP} {σ : Sg} {pc : Nat} {ls : List (Option AV)} {st : List AV} {i p0 : Nat} {r1 : MR} {a1 a2 a3 : AV} {Q1 : SP} (h1 : decode (rc r) pc = .ok (.invokestatic i, 3)) (h2 : Cond.methodLink (ro r) i (ry r1) ∈ Wl ∨ (ro r, i, ry r1) ∈ nestL) (h3 : MS r1 3) (hf : FIT r1 r) (hl : st.length ≤ 8) (hc : CM r1 ([a1, a2, a3]) σ Q1) (e1 : pc + 3 = p0) (k1 : ∀ w σ1, Q1 w σ1 → WM r Q p0 ls (w.toList ++ st) σ1) : WM r Q pc ls (a3 :: a2 :: a1 :: st) σ := g_cS0R_base (As := [a1, a2, a3]) h1 h2 h3 hf hl rfl rfl (conG hc e1 k1)
theorem g_cV4R {r : MR} {Q : SP} {σ : Sg} {pc : Nat} {ls : List (Option AV)} {st : List AV} {i o ci p0 : Nat} {fl : List (Option Nat)} {r1 : MR} {a1 a2 a3 a4 : AV} {v : Int32} {σ1 : Sg} (h1 : decode (rc r) pc = .ok (.invokevirtual i, 3)) (h2 : Cond.methodLink (ro r) i (ry r1) ∈ Wl) (h3 : MV r1 4) (hs : SHl[o]? = some (.inl (ci, fl))) (hk : KC ci (ro r1)) (hf : FIT r1 r) (hl : st.length ≤ 8) (hc : CM r1 (ar o :: [a1, a2, a3, a4]) σ (Ret v σ1)) (e1 : pc + 3 = p0) (k1 : WM r Q p0 ls (ai v :: st) σ1) : WM r Q pc ls (a4 :: a3 :: a2 :: a1 :: ar o :: st) σ := g_cV0R_base (As := [a1, a2, a3, a4]) h1 h2 h3 hs hk hf hl rfl rfl (conR hc e1 k1)
theorem g_cS4R {r : MR} {Q : SP} {σ : Sg} {pc : Nat} {ls : List (Option AV)} {st : List AV} {i p0 : Nat} {r1 : MR} {a1 a2 a3 a4 : AV} {v : Int32} {σ1 : Sg} (h1 : decode (rc r) pc = .ok (.invokestatic i, 3)) (h2 : Cond.methodLink (ro r) i (ry r1) ∈ Wl ∨ (ro r, i, ry r1) ∈ nestL) (h3 : MS r1 4) (hf : FIT r1 r) (hl : st.length ≤ 8) (hc : CM r1 ([a1, a2, a3, a4]) σ (Ret v σ1)) (e1 : pc + 3 = p0) (k1 : WM r Q p0 ls (ai v :: st) σ1) : WM r Q pc ls (a4 :: a3 :: a2 :: a1 :: st) σ := g_cS0R_base (As := [a1, a2, a3, a4]) h1 h2 h3 hf hl rfl rfl (conR hc e1 k1)
theorem g_cV4V {r : MR} {Q : SP} {σ : Sg} {pc : Nat} {ls : List (Option AV)} {st : List AV} {i o ci p0 : Nat} {fl : List (Option Nat)} {r1 : MR} {a1 a2 a3 a4 : AV} {σ1 : Sg} (h1 : decode (rc r) pc = .ok (.invokevirtual i, 3)) (h2 : Cond.methodLink (ro r) i (ry r1) ∈ Wl) (h3 : MV r1 4) (hs : SHl[o]? = some (.inl (ci, fl))) (hk : KC ci (ro r1)) (hf : FIT r1 r) (hl : st.length ≤ 8) (hc : CM r1 (ar o :: [a1, a2, a3, a4]) σ (RetV σ1)) (e1 : pc + 3 = p0) (k1 : WM r Q p0 ls st σ1) : WM r Q pc ls (a4 :: a3 :: a2 :: a1 :: ar o :: st) σ := g_cV0R_base (As := [a1, a2, a3, a4]) h1 h2 h3 hs hk hf hl rfl rfl (conV hc e1 k1)
theorem g_cS4V {r : MR} {Q : SP} {σ : Sg} {pc : Nat} {ls : List (Option AV)} {st : List AV} {i p0 : Nat} {r1 : MR} {a1 a2 a3 a4 : AV} {σ1 : Sg} (h1 : decode (rc r) pc = .ok (.invokestatic i, 3)) (h2 : Cond.methodLink (ro r) i (ry r1) ∈ Wl ∨ (ro r, i, ry r1) ∈ nestL) (h3 : MS r1 4) (hf : FIT r1 r) (hl : st.length ≤ 8) (hc : CM r1 ([a1, a2, a3, a4]) σ (RetV σ1)) (e1 : pc + 3 = p0) (k1 : WM r Q p0 ls st σ1) : WM r Q pc ls (a4 :: a3 :: a2 :: a1 :: st) σ := g_cS0R_base (As := [a1, a2, a3, a4]) h1 h2 h3 hf hl rfl rfl (conV hc e1 k1)
theorem g_cV4G {r : MR} {Q : SP} {σ : Sg} {pc : Nat} {ls : List (Option AV)} {st : List AV} {i o ci p0 : Nat} {fl : List (Option Nat)} {r1 : MR} {a1 a2 a3 a4 : AV} {Q1 : SP} (h1 : decode (rc r) pc = .ok (.invokevirtual i, 3)) (h2 : Cond.methodLink (ro r) i (ry r1) ∈ Wl) (h3 : MV r1 4) (hs : SHl[o]? = some (.inl (ci, fl))) (hk : KC ci (ro r1)) (hf : FIT r1 r) (hl : st.length ≤ 8) (hc : CM r1 (ar o :: [a1, a2, a3, a4]) σ Q1) (e1 : pc + 3 = p0) (k1 : ∀ w σ1, Q1 w σ1 → WM r Q p0 ls (w.toList ++ st) σ1) : WM r Q pc ls (a4 :: a3 :: a2 :: a1 :: ar o :: st) σ := g_cV0R_base (As := [a1, a2, a3, a4]) h1 h2 h3 hs hk hf hl rfl rfl (conG hc e1 k1)
theorem g_cS4G {r : MR} {Q : SP} {σ : Sg} {pc : Nat} {ls : List (Option AV)} {st : List AV} {i p0 : Nat} {r1 : MR} {a1 a2 a3 a4 : AV} {Q1 : SP} (h1 : decode (rc r) pc = .ok (.invokestatic i, 3)) (h2 : Cond.methodLink (ro r) i (ry r1) ∈ Wl ∨ (ro r, i, ry r1) ∈ nestL) (h3 : MS r1 4) (hf : FIT r1 r) (hl : st.length ≤ 8) (hc : CM r1 ([a1, a2, a3, a4]) σ Q1) (e1 : pc + 3 = p0) (k1 : ∀ w σ1, Q1 w σ1 → WM r Q p0 ls (w.toList ++ st) σ1) : WM r Q pc ls (a4 :: a3 :: a2 :: a1 :: st) σ := g_cS0R_base (As := [a1, a2, a3, a4]) h1 h2 h3 hf hl rfl rfl (conG hc e1 k1)
theorem g_cV5R {r : MR} {Q : SP} {σ : Sg} {pc : Nat} {ls : List (Option AV)} {st : List AV} {i o ci p0 : Nat} {fl : List (Option Nat)} {r1 : MR} {a1 a2 a3 a4 a5 : AV} {v : Int32} {σ1 : Sg} (h1 : decode (rc r) pc = .ok (.invokevirtual i, 3)) (h2 : Cond.methodLink (ro r) i (ry r1) ∈ Wl) (h3 : MV r1 5) (hs : SHl[o]? = some (.inl (ci, fl))) (hk : KC ci (ro r1)) (hf : FIT r1 r) (hl : st.length ≤ 8) (hc : CM r1 (ar o :: [a1, a2, a3, a4, a5]) σ (Ret v σ1)) (e1 : pc + 3 = p0) (k1 : WM r Q p0 ls (ai v :: st) σ1) : WM r Q pc ls (a5 :: a4 :: a3 :: a2 :: a1 :: ar o :: st) σ := g_cV0R_base (As := [a1, a2, a3, a4, a5]) h1 h2 h3 hs hk hf hl rfl rfl (conR hc e1 k1)
theorem g_cS5R {r : MR} {Q : SP} {σ : Sg} {pc : Nat} {ls : List (Option AV)} {st : List AV} {i p0 : Nat} {r1 : MR} {a1 a2 a3 a4 a5 : AV} {v : Int32} {σ1 : Sg} (h1 : decode (rc r) pc = .ok (.invokestatic i, 3)) (h2 : Cond.methodLink (ro r) i (ry r1) ∈ Wl ∨ (ro r, i, ry r1) ∈ nestL) (h3 : MS r1 5) (hf : FIT r1 r) (hl : st.length ≤ 8) (hc : CM r1 ([a1, a2, a3, a4, a5]) σ (Ret v σ1)) (e1 : pc + 3 = p0) (k1 : WM r Q p0 ls (ai v :: st) σ1) : WM r Q pc ls (a5 :: a4 :: a3 :: a2 :: a1 :: st) σ := g_cS0R_base (As := [a1, a2, a3, a4, a5]) h1 h2 h3 hf hl rfl rfl (conR hc e1 k1)
theorem g_cV5V {r : MR} {Q : SP} {σ : Sg} {pc : Nat} {ls : List (Option AV)} {st : List AV} {i o ci p0 : Nat} {fl : List (Option Nat)} {r1 : MR} {a1 a2 a3 a4 a5 : AV} {σ1 : Sg} (h1 : decode (rc r) pc = .ok (.invokevirtual i, 3)) (h2 : Cond.methodLink (ro r) i (ry r1) ∈ Wl) (h3 : MV r1 5) (hs : SHl[o]? = some (.inl (ci, fl))) (hk : KC ci (ro r1)) (hf : FIT r1 r) (hl : st.length ≤ 8) (hc : CM r1 (ar o :: [a1, a2, a3, a4, a5]) σ (RetV σ1)) (e1 : pc + 3 = p0) (k1 : WM r Q p0 ls st σ1) : WM r Q pc ls (a5 :: a4 :: a3 :: a2 :: a1 :: ar o :: st) σ := g_cV0R_base (As := [a1, a2, a3, a4, a5]) h1 h2 h3 hs hk hf hl rfl rfl (conV hc e1 k1)
theorem g_cS5V {r : MR} {Q : SP} {σ : Sg} {pc : Nat} {ls : List (Option AV)} {st : List AV} {i p0 : Nat} {r1 : MR} {a1 a2 a3 a4 a5 : AV} {σ1 : Sg} (h1 : decode (rc r) pc = .ok (.invokestatic i, 3)) (h2 : Cond.methodLink (ro r) i (ry r1) ∈ Wl ∨ (ro r, i, ry r1) ∈ nestL) (h3 : MS r1 5) (hf : FIT r1 r) (hl : st.length ≤ 8) (hc : CM r1 ([a1, a2, a3, a4, a5]) σ (RetV σ1)) (e1 : pc + 3 = p0) (k1 : WM r Q p0 ls st σ1) : WM r Q pc ls (a5 :: a4 :: a3 :: a2 :: a1 :: st) σ := g_cS0R_base (As := [a1, a2, a3, a4, a5]) h1 h2 h3 hf hl rfl rfl (conV hc e1 k1)
theorem g_cV5G {r : MR} {Q : SP} {σ : Sg} {pc : Nat} {ls : List (Option AV)} {st : List AV} {i o ci p0 : Nat} {fl : List (Option Nat)} {r1 : MR} {a1 a2 a3 a4 a5 : AV} {Q1 : SP} (h1 : decode (rc r) pc = .ok (.invokevirtual i, 3)) (h2 : Cond.methodLink (ro r) i (ry r1) ∈ Wl) (h3 : MV r1 5) (hs : SHl[o]? = some (.inl (ci, fl))) (hk : KC ci (ro r1)) (hf : FIT r1 r) (hl : st.length ≤ 8) (hc : CM r1 (ar o :: [a1, a2, a3, a4, a5]) σ Q1) (e1 : pc + 3 = p0) (k1 : ∀ w σ1, Q1 w σ1 → WM r Q p0 ls (w.toList ++ st) σ1) : WM r Q pc ls (a5 :: a4 :: a3 :: a2 :: a1 :: ar o :: st) σ := g_cV0R_base (As := [a1, a2, a3, a4, a5]) h1 h2 h3 hs hk hf hl rfl rfl (conG hc e1 k1)
theorem g_cS5G {r : MR} {Q : SP} {σ : Sg} {pc : Nat} {ls : List (Option AV)} {st : List AV} {i p0 : Nat} {r1 : MR} {a1 a2 a3 a4 a5 : AV} {Q1 : SP} (h1 : decode (rc r) pc = .ok (.invokestatic i, 3)) (h2 : Cond.methodLink (ro r) i (ry r1) ∈ Wl ∨ (ro r, i, ry r1) ∈ nestL) (h3 : MS r1 5) (hf : FIT r1 r) (hl : st.length ≤ 8) (hc : CM r1 ([a1, a2, a3, a4, a5]) σ Q1) (e1 : pc + 3 = p0) (k1 : ∀ w σ1, Q1 w σ1 → WM r Q p0 ls (w.toList ++ st) σ1) : WM r Q pc ls (a5 :: a4 :: a3 :: a2 :: a1 :: st) σ := g_cS0R_base (As := [a1, a2, a3, a4, a5]) h1 h2 h3 hf hl rfl rfl (conG hc e1 k1)
theorem g_cV6R {r : MR} {Q : SP} {σ : Sg} {pc : Nat} {ls : List (Option AV)} {st : List AV} {i o ci p0 : Nat} {fl : List (Option Nat)} {r1 : MR} {a1 a2 a3 a4 a5 a6 : AV} {v : Int32} {σ1 : Sg} (h1 : decode (rc r) pc = .ok (.invokevirtual i, 3)) (h2 : Cond.methodLink (ro r) i (ry r1) ∈ Wl) (h3 : MV r1 6) (hs : SHl[o]? = some (.inl (ci, fl))) (hk : KC ci (ro r1)) (hf : FIT r1 r) (hl : st.length ≤ 8) (hc : CM r1 (ar o :: [a1, a2, a3, a4, a5, a6]) σ (Ret v σ1)) (e1 : pc + 3 = p0) (k1 : WM r Q p0 ls (ai v :: st) σ1) : WM r Q pc ls (a6 :: a5 :: a4 :: a3 :: a2 :: a1 :: ar o :: st) σ := g_cV0R_base (As := [a1, a2, a3, a4, a5, a6]) h1 h2 h3 hs hk hf hl rfl rfl (conR hc e1 k1)
theorem g_cS6R {r : MR} {Q : SP} {σ : Sg} {pc : Nat} {ls : List (Option AV)} {st : List AV} {i p0 : Nat} {r1 : MR} {a1 a2 a3 a4 a5 a6 : AV} {v : Int32} {σ1 : Sg} (h1 : decode (rc r) pc = .ok (.invokestatic i, 3)) (h2 : Cond.methodLink (ro r) i (ry r1) ∈ Wl ∨ (ro r, i, ry r1) ∈ nestL) (h3 : MS r1 6) (hf : FIT r1 r) (hl : st.length ≤ 8) (hc : CM r1 ([a1, a2, a3, a4, a5, a6]) σ (Ret v σ1)) (e1 : pc + 3 = p0) (k1 : WM r Q p0 ls (ai v :: st) σ1) : WM r Q pc ls (a6 :: a5 :: a4 :: a3 :: a2 :: a1 :: st) σ := g_cS0R_base (As := [a1, a2, a3, a4, a5, a6]) h1 h2 h3 hf hl rfl rfl (conR hc e1 k1)
theorem g_cV6V {r : MR} {Q : SP} {σ : Sg} {pc : Nat} {ls : List (Option AV)} {st : List AV} {i o ci p0 : Nat} {fl : List (Option Nat)} {r1 : MR} {a1 a2 a3 a4 a5 a6 : AV} {σ1 : Sg} (h1 : decode (rc r) pc = .ok (.invokevirtual i, 3)) (h2 : Cond.methodLink (ro r) i (ry r1) ∈ Wl) (h3 : MV r1 6) (hs : SHl[o]? = some (.inl (ci, fl))) (hk : KC ci (ro r1)) (hf : FIT r1 r) (hl : st.length ≤ 8) (hc : CM r1 (ar o :: [a1, a2, a3, a4, a5, a6]) σ (RetV σ1)) (e1 : pc + 3 = p0) (k1 : WM r Q p0 ls st σ1) : WM r Q pc ls (a6 :: a5 :: a4 :: a3 :: a2 :: a1 :: ar o :: st) σ := g_cV0R_base (As := [a1, a2, a3, a4, a5, a6]) h1 h2 h3 hs hk hf hl rfl rfl (conV hc e1 k1)
theorem g_cS6V {r : MR} {Q : SP} {σ : Sg} {pc : Nat} {ls : List (Option AV)} {st : List AV} {i p0 : Nat} {r1 : MR} {a1 a2 a3 a4 a5 a6 : AV} {σ1 : Sg} (h1 : decode (rc r) pc = .ok (.invokestatic i, 3)) (h2 : Cond.methodLink (ro r) i (ry r1) ∈ Wl ∨ (ro r, i, ry r1) ∈ nestL) (h3 : MS r1 6) (hf : FIT r1 r) (hl : st.length ≤ 8) (hc : CM r1 ([a1, a2, a3, a4, a5, a6]) σ (RetV σ1)) (e1 : pc + 3 = p0) (k1 : WM r Q p0 ls st σ1) : WM r Q pc ls (a6 :: a5 :: a4 :: a3 :: a2 :: a1 :: st) σ := g_cS0R_base (As := [a1, a2, a3, a4, a5, a6]) h1 h2 h3 hf hl rfl rfl (conV hc e1 k1)
theorem g_cV6G {r : MR} {Q : SP} {σ : Sg} {pc : Nat} {ls : List (Option AV)} {st : List AV} {i o ci p0 : Nat} {fl : List (Option Nat)} {r1 : MR} {a1 a2 a3 a4 a5 a6 : AV} {Q1 : SP} (h1 : decode (rc r) pc = .ok (.invokevirtual i, 3)) (h2 : Cond.methodLink (ro r) i (ry r1) ∈ Wl) (h3 : MV r1 6) (hs : SHl[o]? = some (.inl (ci, fl))) (hk : KC ci (ro r1)) (hf : FIT r1 r) (hl : st.length ≤ 8) (hc : CM r1 (ar o :: [a1, a2, a3, a4, a5, a6]) σ Q1) (e1 : pc + 3 = p0) (k1 : ∀ w σ1, Q1 w σ1 → WM r Q p0 ls (w.toList ++ st) σ1) : WM r Q pc ls (a6 :: a5 :: a4 :: a3 :: a2 :: a1 :: ar o :: st) σ := g_cV0R_base (As := [a1, a2, a3, a4, a5, a6]) h1 h2 h3 hs hk hf hl rfl rfl (conG hc e1 k1)
theorem g_cS6G {r : MR} {Q : SP} {σ : Sg} {pc : Nat} {ls : List (Option AV)} {st : List AV} {i p0 : Nat} {r1 : MR} {a1 a2 a3 a4 a5 a6 : AV} {Q1 : SP} (h1 : decode (rc r) pc = .ok (.invokestatic i, 3)) (h2 : Cond.methodLink (ro r) i (ry r1) ∈ Wl ∨ (ro r, i, ry r1) ∈ nestL) (h3 : MS r1 6) (hf : FIT r1 r) (hl : st.length ≤ 8) (hc : CM r1 ([a1, a2, a3, a4, a5, a6]) σ Q1) (e1 : pc + 3 = p0) (k1 : ∀ w σ1, Q1 w σ1 → WM r Q p0 ls (w.toList ++ st) σ1) : WM r Q pc ls (a6 :: a5 :: a4 :: a3 :: a2 :: a1 :: st) σ := g_cS0R_base (As := [a1, a2, a3, a4, a5, a6]) h1 h2 h3 hf hl rfl rfl (conG hc e1 k1)
theorem g_cV7R {r : MR} {Q : SP} {σ : Sg} {pc : Nat} {ls : List (Option AV)} {st : List AV} {i o ci p0 : Nat} {fl : List (Option Nat)} {r1 : MR} {a1 a2 a3 a4 a5 a6 a7 : AV} {v : Int32} {σ1 : Sg} (h1 : decode (rc r) pc = .ok (.invokevirtual i, 3)) (h2 : Cond.methodLink (ro r) i (ry r1) ∈ Wl) (h3 : MV r1 7) (hs : SHl[o]? = some (.inl (ci, fl))) (hk : KC ci (ro r1)) (hf : FIT r1 r) (hl : st.length ≤ 8) (hc : CM r1 (ar o :: [a1, a2, a3, a4, a5, a6, a7]) σ (Ret v σ1)) (e1 : pc + 3 = p0) (k1 : WM r Q p0 ls (ai v :: st) σ1) : WM r Q pc ls (a7 :: a6 :: a5 :: a4 :: a3 :: a2 :: a1 :: ar o :: st) σ := g_cV0R_base (As := [a1, a2, a3, a4, a5, a6, a7]) h1 h2 h3 hs hk hf hl rfl rfl (conR hc e1 k1)
theorem g_cS7R {r : MR} {Q : SP} {σ : Sg} {pc : Nat} {ls : List (Option AV)} {st : List AV} {i p0 : Nat} {r1 : MR} {a1 a2 a3 a4 a5 a6 a7 : AV} {v : Int32} {σ1 : Sg} (h1 : decode (rc r) pc = .ok (.invokestatic i, 3)) (h2 : Cond.methodLink (ro r) i (ry r1) ∈ Wl ∨ (ro r, i, ry r1) ∈ nestL) (h3 : MS r1 7) (hf : FIT r1 r) (hl : st.length ≤ 8) (hc : CM r1 ([a1, a2, a3, a4, a5, a6, a7]) σ (Ret v σ1)) (e1 : pc + 3 = p0) (k1 : WM r Q p0 ls (ai v :: st) σ1) : WM r Q pc ls (a7 :: a6 :: a5 :: a4 :: a3 :: a2 :: a1 :: st) σ := g_cS0R_base (As := [a1, a2, a3, a4, a5, a6, a7]) h1 h2 h3 hf hl rfl rfl (conR hc e1 k1)
theorem g_cV7V {r : MR} {Q : SP} {σ : Sg} {pc : Nat} {ls : List (Option AV)} {st : List AV} {i o ci p0 : Nat} {fl : List (Option Nat)} {r1 : MR} {a1 a2 a3 a4 a5 a6 a7 : AV} {σ1 : Sg} (h1 : decode (rc r) pc = .ok (.invokevirtual i, 3)) (h2 : Cond.methodLink (ro r) i (ry r1) ∈ Wl) (h3 : MV r1 7) (hs : SHl[o]? = some (.inl (ci, fl))) (hk : KC ci (ro r1)) (hf : FIT r1 r) (hl : st.length ≤ 8) (hc : CM r1 (ar o :: [a1, a2, a3, a4, a5, a6, a7]) σ (RetV σ1)) (e1 : pc + 3 = p0) (k1 : WM r Q p0 ls st σ1) : WM r Q pc ls (a7 :: a6 :: a5 :: a4 :: a3 :: a2 :: a1 :: ar o :: st) σ := g_cV0R_base (As := [a1, a2, a3, a4, a5, a6, a7]) h1 h2 h3 hs hk hf hl rfl rfl (conV hc e1 k1)
theorem g_cS7V {r : MR} {Q : SP} {σ : Sg} {pc : Nat} {ls : List (Option AV)} {st : List AV} {i p0 : Nat} {r1 : MR} {a1 a2 a3 a4 a5 a6 a7 : AV} {σ1 : Sg} (h1 : decode (rc r) pc = .ok (.invokestatic i, 3)) (h2 : Cond.methodLink (ro r) i (ry r1) ∈ Wl ∨ (ro r, i, ry r1) ∈ nestL) (h3 : MS r1 7) (hf : FIT r1 r) (hl : st.length ≤ 8) (hc : CM r1 ([a1, a2, a3, a4, a5, a6, a7]) σ (RetV σ1)) (e1 : pc + 3 = p0) (k1 : WM r Q p0 ls st σ1) : WM r Q pc ls (a7 :: a6 :: a5 :: a4 :: a3 :: a2 :: a1 :: st) σ := g_cS0R_base (As := [a1, a2, a3, a4, a5, a6, a7]) h1 h2 h3 hf hl rfl rfl (conV hc e1 k1)
theorem g_cV7G {r : MR} {Q : SP} {σ : Sg} {pc : Nat} {ls : List (Option AV)} {st : List AV} {i o ci p0 : Nat} {fl : List (Option Nat)} {r1 : MR} {a1 a2 a3 a4 a5 a6 a7 : AV} {Q1 : SP} (h1 : decode (rc r) pc = .ok (.invokevirtual i, 3)) (h2 : Cond.methodLink (ro r) i (ry r1) ∈ Wl) (h3 : MV r1 7) (hs : SHl[o]? = some (.inl (ci, fl))) (hk : KC ci (ro r1)) (hf : FIT r1 r) (hl : st.length ≤ 8) (hc : CM r1 (ar o :: [a1, a2, a3, a4, a5, a6, a7]) σ Q1) (e1 : pc + 3 = p0) (k1 : ∀ w σ1, Q1 w σ1 → WM r Q p0 ls (w.toList ++ st) σ1) : WM r Q pc ls (a7 :: a6 :: a5 :: a4 :: a3 :: a2 :: a1 :: ar o :: st) σ := g_cV0R_base (As := [a1, a2, a3, a4, a5, a6, a7]) h1 h2 h3 hs hk hf hl rfl rfl (conG hc e1 k1)
theorem g_cS7G {r : MR} {Q : SP} {σ : Sg} {pc : Nat} {ls : List (Option AV)} {st : List AV} {i p0 : Nat} {r1 : MR} {a1 a2 a3 a4 a5 a6 a7 : AV} {Q1 : SP} (h1 : decode (rc r) pc = .ok (.invokestatic i, 3)) (h2 : Cond.methodLink (ro r) i (ry r1) ∈ Wl ∨ (ro r, i, ry r1) ∈ nestL) (h3 : MS r1 7) (hf : FIT r1 r) (hl : st.length ≤ 8) (hc : CM r1 ([a1, a2, a3, a4, a5, a6, a7]) σ Q1) (e1 : pc + 3 = p0) (k1 : ∀ w σ1, Q1 w σ1 → WM r Q p0 ls (w.toList ++ st) σ1) : WM r Q pc ls (a7 :: a6 :: a5 :: a4 :: a3 :: a2 :: a1 :: st) σ := g_cS0R_base (As := [a1, a2, a3, a4, a5, a6, a7]) h1 h2 h3 hf hl rfl rfl (conG hc e1 k1)
theorem g_cV8R {r : MR} {Q : SP} {σ : Sg} {pc : Nat} {ls : List (Option AV)} {st : List AV} {i o ci p0 : Nat} {fl : List (Option Nat)} {r1 : MR} {a1 a2 a3 a4 a5 a6 a7 a8 : AV} {v : Int32} {σ1 : Sg} (h1 : decode (rc r) pc = .ok (.invokevirtual i, 3)) (h2 : Cond.methodLink (ro r) i (ry r1) ∈ Wl) (h3 : MV r1 8) (hs : SHl[o]? = some (.inl (ci, fl))) (hk : KC ci (ro r1)) (hf : FIT r1 r) (hl : st.length ≤ 8) (hc : CM r1 (ar o :: [a1, a2, a3, a4, a5, a6, a7, a8]) σ (Ret v σ1)) (e1 : pc + 3 = p0) (k1 : WM r Q p0 ls (ai v :: st) σ1) : WM r Q pc ls (a8 :: a7 :: a6 :: a5 :: a4 :: a3 :: a2 :: a1 :: ar o :: st) σ := g_cV0R_base (As := [a1, a2, a3, a4, a5, a6, a7, a8]) h1 h2 h3 hs hk hf hl rfl rfl (conR hc e1 k1)
theorem g_cS8R {r : MR} {Q : SP} {σ : Sg} {pc : Nat} {ls : List (Option AV)} {st : List AV} {i p0 : Nat} {r1 : MR} {a1 a2 a3 a4 a5 a6 a7 a8 : AV} {v : Int32} {σ1 : Sg} (h1 : decode (rc r) pc = .ok (.invokestatic i, 3)) (h2 : Cond.methodLink (ro r) i (ry r1) ∈ Wl ∨ (ro r, i, ry r1) ∈ nestL) (h3 : MS r1 8) (hf : FIT r1 r) (hl : st.length ≤ 8) (hc : CM r1 ([a1, a2, a3, a4, a5, a6, a7, a8]) σ (Ret v σ1)) (e1 : pc + 3 = p0) (k1 : WM r Q p0 ls (ai v :: st) σ1) : WM r Q pc ls (a8 :: a7 :: a6 :: a5 :: a4 :: a3 :: a2 :: a1 :: st) σ := g_cS0R_base (As := [a1, a2, a3, a4, a5, a6, a7, a8]) h1 h2 h3 hf hl rfl rfl (conR hc e1 k1)
theorem g_cV8V {r : MR} {Q : SP} {σ : Sg} {pc : Nat} {ls : List (Option AV)} {st : List AV} {i o ci p0 : Nat} {fl : List (Option Nat)} {r1 : MR} {a1 a2 a3 a4 a5 a6 a7 a8 : AV} {σ1 : Sg} (h1 : decode (rc r) pc = .ok (.invokevirtual i, 3)) (h2 : Cond.methodLink (ro r) i (ry r1) ∈ Wl) (h3 : MV r1 8) (hs : SHl[o]? = some (.inl (ci, fl))) (hk : KC ci (ro r1)) (hf : FIT r1 r) (hl : st.length ≤ 8) (hc : CM r1 (ar o :: [a1, a2, a3, a4, a5, a6, a7, a8]) σ (RetV σ1)) (e1 : pc + 3 = p0) (k1 : WM r Q p0 ls st σ1) : WM r Q pc ls (a8 :: a7 :: a6 :: a5 :: a4 :: a3 :: a2 :: a1 :: ar o :: st) σ := g_cV0R_base (As := [a1, a2, a3, a4, a5, a6, a7, a8]) h1 h2 h3 hs hk hf hl rfl rfl (conV hc e1 k1)
theorem g_cS8V {r : MR} {Q : SP} {σ : Sg} {pc : Nat} {ls : List (Option AV)} {st : List AV} {i p0 : Nat} {r1 : MR} {a1 a2 a3 a4 a5 a6 a7 a8 : AV} {σ1 : Sg} (h1 : decode (rc r) pc = .ok (.invokestatic i, 3)) (h2 : Cond.methodLink (ro r) i (ry r1) ∈ Wl ∨ (ro r, i, ry r1) ∈ nestL) (h3 : MS r1 8) (hf : FIT r1 r) (hl : st.length ≤ 8) (hc : CM r1 ([a1, a2, a3, a4, a5, a6, a7, a8]) σ (RetV σ1)) (e1 : pc + 3 = p0) (k1 : WM r Q p0 ls st σ1) : WM r Q pc ls (a8 :: a7 :: a6 :: a5 :: a4 :: a3 :: a2 :: a1 :: st) σ := g_cS0R_base (As := [a1, a2, a3, a4, a5, a6, a7, a8]) h1 h2 h3 hf hl rfl rfl (conV hc e1 k1)
theorem g_cV8G {r : MR} {Q : SP} {σ : Sg} {pc : Nat} {ls : List (Option AV)} {st : List AV} {i o ci p0 : Nat} {fl : List (Option Nat)} {r1 : MR} {a1 a2 a3 a4 a5 a6 a7 a8 : AV} {Q1 : SP} (h1 : decode (rc r) pc = .ok (.invokevirtual i, 3)) (h2 : Cond.methodLink (ro r) i (ry r1) ∈ Wl) (h3 : MV r1 8) (hs : SHl[o]? = some (.inl (ci, fl))) (hk : KC ci (ro r1)) (hf : FIT r1 r) (hl : st.length ≤ 8) (hc : CM r1 (ar o :: [a1, a2, a3, a4, a5, a6, a7, a8]) σ Q1) (e1 : pc + 3 = p0) (k1 : ∀ w σ1, Q1 w σ1 → WM r Q p0 ls (w.toList ++ st) σ1) : WM r Q pc ls (a8 :: a7 :: a6 :: a5 :: a4 :: a3 :: a2 :: a1 :: ar o :: st) σ := g_cV0R_base (As := [a1, a2, a3, a4, a5, a6, a7, a8]) h1 h2 h3 hs hk hf hl rfl rfl (conG hc e1 k1)
theorem g_cS8G {r : MR} {Q : SP} {σ : Sg} {pc : Nat} {ls : List (Option AV)} {st : List AV} {i p0 : Nat} {r1 : MR} {a1 a2 a3 a4 a5 a6 a7 a8 : AV} {Q1 : SP} (h1 : decode (rc r) pc = .ok (.invokestatic i, 3)) (h2 : Cond.methodLink (ro r) i (ry r1) ∈ Wl ∨ (ro r, i, ry r1) ∈ nestL) (h3 : MS r1 8) (hf : FIT r1 r) (hl : st.length ≤ 8) (hc : CM r1 ([a1, a2, a3, a4, a5, a6, a7, a8]) σ Q1) (e1 : pc + 3 = p0) (k1 : ∀ w σ1, Q1 w σ1 → WM r Q p0 ls (w.toList ++ st) σ1) : WM r Q pc ls (a8 :: a7 :: a6 :: a5 :: a4 :: a3 :: a2 :: a1 :: st) σ := g_cS0R_base (As := [a1, a2, a3, a4, a5, a6, a7, a8]) h1 h2 h3 hf hl rfl rfl (conG hc e1 k1)
theorem g_cV9R {r : MR} {Q : SP} {σ : Sg} {pc : Nat} {ls : List (Option AV)} {st : List AV} {i o ci p0 : Nat} {fl : List (Option Nat)} {r1 : MR} {a1 a2 a3 a4 a5 a6 a7 a8 a9 : AV} {v : Int32} {σ1 : Sg} (h1 : decode (rc r) pc = .ok (.invokevirtual i, 3)) (h2 : Cond.methodLink (ro r) i (ry r1) ∈ Wl) (h3 : MV r1 9) (hs : SHl[o]? = some (.inl (ci, fl))) (hk : KC ci (ro r1)) (hf : FIT r1 r) (hl : st.length ≤ 8) (hc : CM r1 (ar o :: [a1, a2, a3, a4, a5, a6, a7, a8, a9]) σ (Ret v σ1)) (e1 : pc + 3 = p0) (k1 : WM r Q p0 ls (ai v :: st) σ1) : WM r Q pc ls (a9 :: a8 :: a7 :: a6 :: a5 :: a4 :: a3 :: a2 :: a1 :: ar o :: st) σ := g_cV0R_base (As := [a1, a2, a3, a4, a5, a6, a7, a8, a9]) h1 h2 h3 hs hk hf hl rfl rfl (conR hc e1 k1)
theorem g_cS9R {r : MR} {Q : SP} {σ : Sg} {pc : Nat} {ls : List (Option AV)} {st : List AV} {i p0 : Nat} {r1 : MR} {a1 a2 a3 a4 a5 a6 a7 a8 a9 : AV} {v : Int32} {σ1 : Sg} (h1 : decode (rc r) pc = .ok (.invokestatic i, 3)) (h2 : Cond.methodLink (ro r) i (ry r1) ∈ Wl ∨ (ro r, i, ry r1) ∈ nestL) (h3 : MS r1 9) (hf : FIT r1 r) (hl : st.length ≤ 8) (hc : CM r1 ([a1, a2, a3, a4, a5, a6, a7, a8, a9]) σ (Ret v σ1)) (e1 : pc + 3 = p0) (k1 : WM r Q p0 ls (ai v :: st) σ1) : WM r Q pc ls (a9 :: a8 :: a7 :: a6 :: a5 :: a4 :: a3 :: a2 :: a1 :: st) σ := g_cS0R_base (As := [a1, a2, a3, a4, a5, a6, a7, a8, a9]) h1 h2 h3 hf hl rfl rfl (conR hc e1 k1)
theorem g_cV9V {r : MR} {Q : SP} {σ : Sg} {pc : Nat} {ls : List (Option AV)} {st : List AV} {i o ci p0 : Nat} {fl : List (Option Nat)} {r1 : MR} {a1 a2 a3 a4 a5 a6 a7 a8 a9 : AV} {σ1 : Sg} (h1 : decode (rc r) pc = .ok (.invokevirtual i, 3)) (h2 : Cond.methodLink (ro r) i (ry r1) ∈ Wl) (h3 : MV r1 9) (hs : SHl[o]? = some (.inl (ci, fl))) (hk : KC ci (ro r1)) (hf : FIT r1 r) (hl : st.length ≤ 8) (hc : CM r1 (ar o :: [a1, a2, a3, a4, a5, a6, a7, a8, a9]) σ (RetV σ1)) (e1 : pc + 3 = p0) (k1 : WM r Q p0 ls st σ1) : WM r Q pc ls (a9 :: a8 :: a7 :: a6 :: a5 :: a4 :: a3 :: a2 :: a1 :: ar o :: st) σ := g_cV0R_base (As := [a1, a2, a3, a4, a5, a6, a7, a8, a9]) h1 h2 h3 hs hk hf hl rfl rfl (conV hc e1 k1)
theorem g_cS9V {r : MR} {Q : SP} {σ : Sg} {pc : Nat} {ls : List (Option AV)} {st : List AV} {i p0 : Nat} {r1 : MR} {a1 a2 a3 a4 a5 a6 a7 a8 a9 : AV} {σ1 : Sg} (h1 : decode (rc r) pc = .ok (.invokestatic i, 3)) (h2 : Cond.methodLink (ro r) i (ry r1) ∈ Wl ∨ (ro r, i, ry r1) ∈ nestL) (h3 : MS r1 9) (hf : FIT r1 r) (hl : st.length ≤ 8) (hc : CM r1 ([a1, a2, a3, a4, a5, a6, a7, a8, a9]) σ (RetV σ1)) (e1 : pc + 3 = p0) (k1 : WM r Q p0 ls st σ1) : WM r Q pc ls (a9 :: a8 :: a7 :: a6 :: a5 :: a4 :: a3 :: a2 :: a1 :: st) σ := g_cS0R_base (As := [a1, a2, a3, a4, a5, a6, a7, a8, a9]) h1 h2 h3 hf hl rfl rfl (conV hc e1 k1)
theorem g_cV9G {r : MR} {Q : SP} {σ : Sg} {pc : Nat} {ls : List (Option AV)} {st : List AV} {i o ci p0 : Nat} {fl : List (Option Nat)} {r1 : MR} {a1 a2 a3 a4 a5 a6 a7 a8 a9 : AV} {Q1 : SP} (h1 : decode (rc r) pc = .ok (.invokevirtual i, 3)) (h2 : Cond.methodLink (ro r) i (ry r1) ∈ Wl) (h3 : MV r1 9) (hs : SHl[o]? = some (.inl (ci, fl))) (hk : KC ci (ro r1)) (hf : FIT r1 r) (hl : st.length ≤ 8) (hc : CM r1 (ar o :: [a1, a2, a3, a4, a5, a6, a7, a8, a9]) σ Q1) (e1 : pc + 3 = p0) (k1 : ∀ w σ1, Q1 w σ1 → WM r Q p0 ls (w.toList ++ st) σ1) : WM r Q pc ls (a9 :: a8 :: a7 :: a6 :: a5 :: a4 :: a3 :: a2 :: a1 :: ar o :: st) σ := g_cV0R_base (As := [a1, a2, a3, a4, a5, a6, a7, a8, a9]) h1 h2 h3 hs hk hf hl rfl rfl (conG hc e1 k1)
theorem g_cS9G {r : MR} {Q : SP} {σ : Sg} {pc : Nat} {ls : List (Option AV)} {st : List AV} {i p0 : Nat} {r1 : MR} {a1 a2 a3 a4 a5 a6 a7 a8 a9 : AV} {Q1 : SP} (h1 : decode (rc r) pc = .ok (.invokestatic i, 3)) (h2 : Cond.methodLink (ro r) i (ry r1) ∈ Wl ∨ (ro r, i, ry r1) ∈ nestL) (h3 : MS r1 9) (hf : FIT r1 r) (hl : st.length ≤ 8) (hc : CM r1 ([a1, a2, a3, a4, a5, a6, a7, a8, a9]) σ Q1) (e1 : pc + 3 = p0) (k1 : ∀ w σ1, Q1 w σ1 → WM r Q p0 ls (w.toList ++ st) σ1) : WM r Q pc ls (a9 :: a8 :: a7 :: a6 :: a5 :: a4 :: a3 :: a2 :: a1 :: st) σ := g_cS0R_base (As := [a1, a2, a3, a4, a5, a6, a7, a8, a9]) h1 h2 h3 hf hl rfl rfl (conG hc e1 k1)
end
section
/-! THE SAME RULES over any set that is closed under them, with room for a cells, b slots -/
def XM (X : AX) (a b : Nat) (pc : Nat) (ls : List (Option AV)) (st : List AV) (σ : Sg) : Prop := X pc ls st (mem σ) a b
theorem x_iconst {r : MR} {X : AX} {a b : Nat} {Q0 : AP} {σ : Sg} {pc : Nat} {ls : List (Option AV)} {st : List AV} {n : Int} {v : Int32} {p0 : Nat} (hX : Rules r (Cd (rf r)) Q0 X) (h1 : decode (rc r) pc = .ok (.iconst n, 1)) (h2 : Int32.ofInt n = v) (e1 : pc + 1 = p0) (k1 : XM X a b p0 (ls) (ai v :: st) σ) : XM X a b pc (ls) (st) σ := by
  subst e1; exact xi_iconst hX h1 h2 k1
theorem x_bipush {r : MR} {X : AX} {a b : Nat} {Q0 : AP} {σ : Sg} {pc : Nat} {ls : List (Option AV)} {st : List AV} {n : Int} {v : Int32} {p0 : Nat} (hX : Rules r (Cd (rf r)) Q0 X) (h1 : decode (rc r) pc = .ok (.bipush n, 2)) (h2 : (Int8.ofInt n).toInt32 = v) (e1 : pc + 2 = p0) (k1 : XM X a b p0 (ls) (ai v :: st) σ) : XM X a b pc (ls) (st) σ := by
  subst e1; exact xi_bipush hX h1 h2 k1
theorem x_sipush {r : MR} {X : AX} {a b : Nat} {Q0 : AP} {σ : Sg} {pc : Nat} {ls : List (Option AV)} {st : List AV} {n : Int} {v : Int32} {p0 : Nat} (hX : Rules r (Cd (rf r)) Q0 X) (h1 : decode (rc r) pc = .ok (.sipush n, 3)) (h2 : (Int16.ofInt n).toInt32 = v) (e1 : pc + 3 = p0) (k1 : XM X a b p0 (ls) (ai v :: st) σ) : XM X a b pc (ls) (st) σ := by
  subst e1; exact xi_sipush hX h1 h2 k1
theorem x_ldc {r : MR} {X : AX} {a b : Nat} {Q0 : AP} {σ : Sg} {pc : Nat} {ls : List (Option AV)} {st : List AV} {i : Nat} {v : Int32} {p0 : Nat} (hX : Rules r (Cd (rf r)) Q0 X) (h1 : decode (rc r) pc = .ok (.ldc i, 2)) (h2 : Cond.constant (ro r) i v ∈ Wl) (e1 : pc + 2 = p0) (k1 : XM X a b p0 (ls) (ai v :: st) σ) : XM X a b pc (ls) (st) σ := by
  subst e1; exact xi_ldc hX h1 h2 k1
theorem x_null {r : MR} {X : AX} {a b : Nat} {Q0 : AP} {σ : Sg} {pc : Nat} {ls : List (Option AV)} {st : List AV}  {p0 : Nat} (hX : Rules r (Cd (rf r)) Q0 X) (h1 : decode (rc r) pc = .ok (.aconst_null, 1)) (e1 : pc + 1 = p0) (k1 : XM X a b p0 (ls) (an :: st) σ) : XM X a b pc (ls) (st) σ := by
  subst e1; exact xi_null hX h1 k1
theorem x_iload_n {r : MR} {X : AX} {a b : Nat} {Q0 : AP} {σ : Sg} {pc : Nat} {ls : List (Option AV)} {st : List AV} {k : Fin 4} {i : Nat} {x : Int32} {p0 : Nat} (hX : Rules r (Cd (rf r)) Q0 X) (h1 : decode (rc r) pc = .ok (.iload_n k, 1)) (h2 : (k : Nat) = i) (h3 : ls[i]? = some (some (ai x))) (e1 : pc + 1 = p0) (k1 : XM X a b p0 (ls) (ai x :: st) σ) : XM X a b pc (ls) (st) σ := by
  subst e1; exact xi_iload_n hX h1 h2 h3 k1
theorem x_iload {r : MR} {X : AX} {a b : Nat} {Q0 : AP} {σ : Sg} {pc : Nat} {ls : List (Option AV)} {st : List AV} {i : Nat} {x : Int32} {p0 : Nat} (hX : Rules r (Cd (rf r)) Q0 X) (h1 : decode (rc r) pc = .ok (.iload i, 2)) (h2 : ls[i]? = some (some (ai x))) (e1 : pc + 2 = p0) (k1 : XM X a b p0 (ls) (ai x :: st) σ) : XM X a b pc (ls) (st) σ := by
  subst e1; exact xi_iload hX h1 h2 k1
theorem x_aload_n {r : MR} {X : AX} {a b : Nat} {Q0 : AP} {σ : Sg} {pc : Nat} {ls : List (Option AV)} {st : List AV} {k : Fin 4} {i : Nat} {x : Nat} {p0 : Nat} (hX : Rules r (Cd (rf r)) Q0 X) (h1 : decode (rc r) pc = .ok (.aload_n k, 1)) (h2 : (k : Nat) = i) (h3 : ls[i]? = some (some (ar x))) (e1 : pc + 1 = p0) (k1 : XM X a b p0 (ls) (ar x :: st) σ) : XM X a b pc (ls) (st) σ := by
  subst e1; exact xi_aload_n hX h1 h2 h3 k1
theorem x_aload {r : MR} {X : AX} {a b : Nat} {Q0 : AP} {σ : Sg} {pc : Nat} {ls : List (Option AV)} {st : List AV} {i : Nat} {x : Nat} {p0 : Nat} (hX : Rules r (Cd (rf r)) Q0 X) (h1 : decode (rc r) pc = .ok (.aload i, 2)) (h2 : ls[i]? = some (some (ar x))) (e1 : pc + 2 = p0) (k1 : XM X a b p0 (ls) (ar x :: st) σ) : XM X a b pc (ls) (st) σ := by
  subst e1; exact xi_aload hX h1 h2 k1
theorem x_istore_n {r : MR} {X : AX} {a b : Nat} {Q0 : AP} {σ : Sg} {pc : Nat} {ls : List (Option AV)} {st : List AV} {k : Fin 4} {i : Nat} {x : Int32} {p0 : Nat} {ls2 : List (Option AV)} (hX : Rules r (Cd (rf r)) Q0 X) (h1 : decode (rc r) pc = .ok (.istore_n k, 1)) (h2 : (k : Nat) = i) (h3 : i < ls.length) (e1 : pc + 1 = p0) (el : ls.set i (some (ai x)) = ls2) (k1 : XM X a b p0 (ls2) (st) σ) : XM X a b pc (ls) (ai x :: st) σ := by
  subst e1; subst el; exact xi_istore_n hX h1 h2 h3 k1
theorem x_istore {r : MR} {X : AX} {a b : Nat} {Q0 : AP} {σ : Sg} {pc : Nat} {ls : List (Option AV)} {st : List AV} {i : Nat} {x : Int32} {p0 : Nat} {ls2 : List (Option AV)} (hX : Rules r (Cd (rf r)) Q0 X) (h1 : decode (rc r) pc = .ok (.istore i, 2)) (h2 : i < ls.length) (e1 : pc + 2 = p0) (el : ls.set i (some (ai x)) = ls2) (k1 : XM X a b p0 (ls2) (st) σ) : XM X a b pc (ls) (ai x :: st) σ := by
  subst e1; subst el; exact xi_istore hX h1 h2 k1
theorem x_astore_n {r : MR} {X : AX} {a b : Nat} {Q0 : AP} {σ : Sg} {pc : Nat} {ls : List (Option AV)} {st : List AV} {k : Fin 4} {i : Nat} {x : Nat} {p0 : Nat} {ls2 : List (Option AV)} (hX : Rules r (Cd (rf r)) Q0 X) (h1 : decode (rc r) pc = .ok (.astore_n k, 1)) (h2 : (k : Nat) = i) (h3 : i < ls.length) (e1 : pc + 1 = p0) (el : ls.set i (some (ar x)) = ls2) (k1 : XM X a b p0 (ls2) (st) σ) : XM X a b pc (ls) (ar x :: st) σ := by
  subst e1; subst el; exact xi_astore_n hX h1 h2 h3 k1
theorem x_astore {r : MR} {X : AX} {a b : Nat} {Q0 : AP} {σ : Sg} {pc : Nat} {ls : List (Option AV)} {st : List AV} {i : Nat} {x : Nat} {p0 : Nat} {ls2 : List (Option AV)} (hX : Rules r (Cd (rf r)) Q0 X) (h1 : decode (rc r) pc = .ok (.astore i, 2)) (h2 : i < ls.length) (e1 : pc + 2 = p0) (el : ls.set i (some (ar x)) = ls2) (k1 : XM X a b p0 (ls2) (st) σ) : XM X a b pc (ls) (ar x :: st) σ := by
  subst e1; subst el; exact xi_astore hX h1 h2 k1
theorem x_iinc {r : MR} {X : AX} {a b : Nat} {Q0 : AP} {σ : Sg} {pc : Nat} {ls : List (Option AV)} {st : List AV} {i : Nat} {n : Int} {x y : Int32} {p0 : Nat} {ls2 : List (Option AV)} (hX : Rules r (Cd (rf r)) Q0 X) (h1 : decode (rc r) pc = .ok (.iinc i n, 3)) (h2 : ls[i]? = some (some (ai x))) (hy : x + Int32.ofInt n = y) (el : ls.set i (some (ai y)) = ls2) (e1 : pc + 3 = p0) (k1 : XM X a b p0 ls2 st σ) : XM X a b pc ls st σ := by
  subst hy; subst el; subst e1; exact xi_iinc hX h1 h2 k1
theorem x_iadd {r : MR} {X : AX} {a b : Nat} {Q0 : AP} {σ : Sg} {pc : Nat} {ls : List (Option AV)} {st : List AV} {x y : Int32} {p0 : Nat} (hX : Rules r (Cd (rf r)) Q0 X) (h1 : decode (rc r) pc = .ok (.iadd, 1)) (e1 : pc + 1 = p0) (k1 : XM X a b p0 (ls) (ai (x + y) :: st) σ) : XM X a b pc (ls) (ai y :: ai x :: st) σ := by
  subst e1; exact xi_iadd hX h1 k1
theorem x_isub {r : MR} {X : AX} {a b : Nat} {Q0 : AP} {σ : Sg} {pc : Nat} {ls : List (Option AV)} {st : List AV} {x y : Int32} {p0 : Nat} (hX : Rules r (Cd (rf r)) Q0 X) (h1 : decode (rc r) pc = .ok (.isub, 1)) (e1 : pc + 1 = p0) (k1 : XM X a b p0 (ls) (ai (x - y) :: st) σ) : XM X a b pc (ls) (ai y :: ai x :: st) σ := by
  subst e1; exact xi_isub hX h1 k1
theorem x_imul {r : MR} {X : AX} {a b : Nat} {Q0 : AP} {σ : Sg} {pc : Nat} {ls : List (Option AV)} {st : List AV} {x y : Int32} {p0 : Nat} (hX : Rules r (Cd (rf r)) Q0 X) (h1 : decode (rc r) pc = .ok (.imul, 1)) (e1 : pc + 1 = p0) (k1 : XM X a b p0 (ls) (ai (x * y) :: st) σ) : XM X a b pc (ls) (ai y :: ai x :: st) σ := by
  subst e1; exact xi_imul hX h1 k1
theorem x_ior {r : MR} {X : AX} {a b : Nat} {Q0 : AP} {σ : Sg} {pc : Nat} {ls : List (Option AV)} {st : List AV} {x y : Int32} {p0 : Nat} (hX : Rules r (Cd (rf r)) Q0 X) (h1 : decode (rc r) pc = .ok (.ior, 1)) (e1 : pc + 1 = p0) (k1 : XM X a b p0 (ls) (ai (x ||| y) :: st) σ) : XM X a b pc (ls) (ai y :: ai x :: st) σ := by
  subst e1; exact xi_ior hX h1 k1
theorem x_iand {r : MR} {X : AX} {a b : Nat} {Q0 : AP} {σ : Sg} {pc : Nat} {ls : List (Option AV)} {st : List AV} {x y : Int32} {p0 : Nat} (hX : Rules r (Cd (rf r)) Q0 X) (h1 : decode (rc r) pc = .ok (.iand, 1)) (e1 : pc + 1 = p0) (k1 : XM X a b p0 (ls) (ai (x &&& y) :: st) σ) : XM X a b pc (ls) (ai y :: ai x :: st) σ := by
  subst e1; exact xi_iand hX h1 k1
theorem x_ixor {r : MR} {X : AX} {a b : Nat} {Q0 : AP} {σ : Sg} {pc : Nat} {ls : List (Option AV)} {st : List AV} {x y : Int32} {p0 : Nat} (hX : Rules r (Cd (rf r)) Q0 X) (h1 : decode (rc r) pc = .ok (.ixor, 1)) (e1 : pc + 1 = p0) (k1 : XM X a b p0 (ls) (ai (x ^^^ y) :: st) σ) : XM X a b pc (ls) (ai y :: ai x :: st) σ := by
  subst e1; exact xi_ixor hX h1 k1
theorem x_ishl {r : MR} {X : AX} {a b : Nat} {Q0 : AP} {σ : Sg} {pc : Nat} {ls : List (Option AV)} {st : List AV} {x y : Int32} {p0 : Nat} (hX : Rules r (Cd (rf r)) Q0 X) (h1 : decode (rc r) pc = .ok (.ishl, 1)) (e1 : pc + 1 = p0) (k1 : XM X a b p0 (ls) (ai (x <<< (y &&& 31)) :: st) σ) : XM X a b pc (ls) (ai y :: ai x :: st) σ := by
  subst e1; exact xi_ishl hX h1 k1
theorem x_ishr {r : MR} {X : AX} {a b : Nat} {Q0 : AP} {σ : Sg} {pc : Nat} {ls : List (Option AV)} {st : List AV} {x y : Int32} {p0 : Nat} (hX : Rules r (Cd (rf r)) Q0 X) (h1 : decode (rc r) pc = .ok (.ishr, 1)) (e1 : pc + 1 = p0) (k1 : XM X a b p0 (ls) (ai (x >>> (y &&& 31)) :: st) σ) : XM X a b pc (ls) (ai y :: ai x :: st) σ := by
  subst e1; exact xi_ishr hX h1 k1
theorem x_idiv {r : MR} {X : AX} {a b : Nat} {Q0 : AP} {σ : Sg} {pc : Nat} {ls : List (Option AV)} {st : List AV} {x y : Int32} {p0 : Nat} (hX : Rules r (Cd (rf r)) Q0 X) (h1 : decode (rc r) pc = .ok (.idiv, 1)) (h2 : ¬ y = 0) (e1 : pc + 1 = p0) (k1 : XM X a b p0 (ls) (ai (x / y) :: st) σ) : XM X a b pc (ls) (ai y :: ai x :: st) σ := by
  subst e1; exact xi_idiv hX h1 h2 k1
theorem x_irem {r : MR} {X : AX} {a b : Nat} {Q0 : AP} {σ : Sg} {pc : Nat} {ls : List (Option AV)} {st : List AV} {x y : Int32} {p0 : Nat} (hX : Rules r (Cd (rf r)) Q0 X) (h1 : decode (rc r) pc = .ok (.irem, 1)) (h2 : ¬ y = 0) (e1 : pc + 1 = p0) (k1 : XM X a b p0 (ls) (ai (x - x / y * y) :: st) σ) : XM X a b pc (ls) (ai y :: ai x :: st) σ := by
  subst e1; exact xi_irem hX h1 h2 k1
theorem x_dup {r : MR} {X : AX} {a b : Nat} {Q0 : AP} {σ : Sg} {pc : Nat} {ls : List (Option AV)} {st : List AV} {v : AV} {p0 : Nat} (hX : Rules r (Cd (rf r)) Q0 X) (h1 : decode (rc r) pc = .ok (.dup, 1)) (e1 : pc + 1 = p0) (k1 : XM X a b p0 (ls) (v :: v :: st) σ) : XM X a b pc (ls) (v :: st) σ := by
  subst e1; exact xi_dup hX h1 k1
theorem x_dup2 {r : MR} {X : AX} {a b : Nat} {Q0 : AP} {σ : Sg} {pc : Nat} {ls : List (Option AV)} {st : List AV} {v u : AV} {p0 : Nat} (hX : Rules r (Cd (rf r)) Q0 X) (h1 : decode (rc r) pc = .ok (.dup2, 1)) (e1 : pc + 1 = p0) (k1 : XM X a b p0 (ls) (v :: u :: v :: u :: st) σ) : XM X a b pc (ls) (v :: u :: st) σ := by
  subst e1; exact xi_dup2 hX h1 k1
theorem x_pop {r : MR} {X : AX} {a b : Nat} {Q0 : AP} {σ : Sg} {pc : Nat} {ls : List (Option AV)} {st : List AV} {v : AV} {p0 : Nat} (hX : Rules r (Cd (rf r)) Q0 X) (h1 : decode (rc r) pc = .ok (.pop, 1)) (e1 : pc + 1 = p0) (k1 : XM X a b p0 (ls) (st) σ) : XM X a b pc (ls) (v :: st) σ := by
  subst e1; exact xi_pop hX h1 k1
theorem x_goto {r : MR} {X : AX} {a b : Nat} {Q0 : AP} {σ : Sg} {pc : Nat} {ls : List (Option AV)} {st : List AV} {off : Int} {tgt : Nat} (hX : Rules r (Cd (rf r)) Q0 X) (h1 : decode (rc r) pc = .ok (.goto off, 3)) (h2 : (pc : Int) + off = (tgt : Int)) (k1 : XM X a b tgt (ls) (st) σ) : XM X a b pc (ls) (st) σ := by
  exact xi_goto hX h1 h2 k1
theorem x_icmp_eq {r : MR} {X : AX} {a b : Nat} {Q0 : AP} {σ : Sg} {pc : Nat} {ls : List (Option AV)} {st : List AV} {x y : Int32} {off : Int} {tgt : Nat} {p1 : Nat} (hX : Rules r (Cd (rf r)) Q0 X) (h1 : decode (rc r) pc = .ok (.if_icmp .eq off, 3)) (h2 : (pc : Int) + off = (tgt : Int)) (e2 : pc + 3 = p1) (k1 : x = y → XM X a b tgt (ls) (st) σ) (k2 : ¬ x = y → XM X a b p1 (ls) (st) σ) : XM X a b pc (ls) (ai y :: ai x :: st) σ := by
  subst e2; exact xi_icmp_eq hX h1 h2 k1 k2
theorem x_if_eq {r : MR} {X : AX} {a b : Nat} {Q0 : AP} {σ : Sg} {pc : Nat} {ls : List (Option AV)} {st : List AV} {x : Int32} {off : Int} {tgt : Nat} {p1 : Nat} (hX : Rules r (Cd (rf r)) Q0 X) (h1 : decode (rc r) pc = .ok (.ifCond .eq off, 3)) (h2 : (pc : Int) + off = (tgt : Int)) (e2 : pc + 3 = p1) (k1 : x = 0 → XM X a b tgt (ls) (st) σ) (k2 : ¬ x = 0 → XM X a b p1 (ls) (st) σ) : XM X a b pc (ls) (ai x :: st) σ := by
  subst e2; exact xi_if_eq hX h1 h2 k1 k2
theorem x_icmp_ne {r : MR} {X : AX} {a b : Nat} {Q0 : AP} {σ : Sg} {pc : Nat} {ls : List (Option AV)} {st : List AV} {x y : Int32} {off : Int} {tgt : Nat} {p1 : Nat} (hX : Rules r (Cd (rf r)) Q0 X) (h1 : decode (rc r) pc = .ok (.if_icmp .ne off, 3)) (h2 : (pc : Int) + off = (tgt : Int)) (e2 : pc + 3 = p1) (k1 : ¬ x = y → XM X a b tgt (ls) (st) σ) (k2 : x = y → XM X a b p1 (ls) (st) σ) : XM X a b pc (ls) (ai y :: ai x :: st) σ := by
  subst e2; exact xi_icmp_ne hX h1 h2 k1 k2
theorem x_if_ne {r : MR} {X : AX} {a b : Nat} {Q0 : AP} {σ : Sg} {pc : Nat} {ls : List (Option AV)} {st : List AV} {x : Int32} {off : Int} {tgt : Nat} {p1 : Nat} (hX : Rules r (Cd (rf r)) Q0 X) (h1 : decode (rc r) pc = .ok (.ifCond .ne off, 3)) (h2 : (pc : Int) + off = (tgt : Int)) (e2 : pc + 3 = p1) (k1 : ¬ x = 0 → XM X a b tgt (ls) (st) σ) (k2 : x = 0 → XM X a b p1 (ls) (st) σ) : XM X a b pc (ls) (ai x :: st) σ := by
  subst e2; exact xi_if_ne hX h1 h2 k1 k2
theorem x_icmp_lt {r : MR} {X : AX} {a b : Nat} {Q0 : AP} {σ : Sg} {pc : Nat} {ls : List (Option AV)} {st : List AV} {x y : Int32} {off : Int} {tgt : Nat} {p1 : Nat} (hX : Rules r (Cd (rf r)) Q0 X) (h1 : decode (rc r) pc = .ok (.if_icmp .lt off, 3)) (h2 : (pc : Int) + off = (tgt : Int)) (e2 : pc + 3 = p1) (k1 : x < y → XM X a b tgt (ls) (st) σ) (k2 : ¬ x < y → XM X a b p1 (ls) (st) σ) : XM X a b pc (ls) (ai y :: ai x :: st) σ := by
  subst e2; exact xi_icmp_lt hX h1 h2 k1 k2
theorem x_if_lt {r : MR} {X : AX} {a b : Nat} {Q0 : AP} {σ : Sg} {pc : Nat} {ls : List (Option AV)} {st : List AV} {x : Int32} {off : Int} {tgt : Nat} {p1 : Nat} (hX : Rules r (Cd (rf r)) Q0 X) (h1 : decode (rc r) pc = .ok (.ifCond .lt off, 3)) (h2 : (pc : Int) + off = (tgt : Int)) (e2 : pc + 3 = p1) (k1 : x < 0 → XM X a b tgt (ls) (st) σ) (k2 : ¬ x < 0 → XM X a b p1 (ls) (st) σ) : XM X a b pc (ls) (ai x :: st) σ := by
  subst e2; exact xi_if_lt hX h1 h2 k1 k2
theorem x_icmp_ge {r : MR} {X : AX} {a b : Nat} {Q0 : AP} {σ : Sg} {pc : Nat} {ls : List (Option AV)} {st : List AV} {x y : Int32} {off : Int} {tgt : Nat} {p1 : Nat} (hX : Rules r (Cd (rf r)) Q0 X) (h1 : decode (rc r) pc = .ok (.if_icmp .ge off, 3)) (h2 : (pc : Int) + off = (tgt : Int)) (e2 : pc + 3 = p1) (k1 : y ≤ x → XM X a b tgt (ls) (st) σ) (k2 : ¬ y ≤ x → XM X a b p1 (ls) (st) σ) : XM X a b pc (ls) (ai y :: ai x :: st) σ := by
  subst e2; exact xi_icmp_ge hX h1 h2 k1 k2
theorem x_if_ge {r : MR} {X : AX} {a b : Nat} {Q0 : AP} {σ : Sg} {pc : Nat} {ls : List (Option AV)} {st : List AV} {x : Int32} {off : Int} {tgt : Nat} {p1 : Nat} (hX : Rules r (Cd (rf r)) Q0 X) (h1 : decode (rc r) pc = .ok (.ifCond .ge off, 3)) (h2 : (pc : Int) + off = (tgt : Int)) (e2 : pc + 3 = p1) (k1 : 0 ≤ x → XM X a b tgt (ls) (st) σ) (k2 : ¬ 0 ≤ x → XM X a b p1 (ls) (st) σ) : XM X a b pc (ls) (ai x :: st) σ := by
  subst e2; exact xi_if_ge hX h1 h2 k1 k2
theorem x_icmp_gt {r : MR} {X : AX} {a b : Nat} {Q0 : AP} {σ : Sg} {pc : Nat} {ls : List (Option AV)} {st : List AV} {x y : Int32} {off : Int} {tgt : Nat} {p1 : Nat} (hX : Rules r (Cd (rf r)) Q0 X) (h1 : decode (rc r) pc = .ok (.if_icmp .gt off, 3)) (h2 : (pc : Int) + off = (tgt : Int)) (e2 : pc + 3 = p1) (k1 : y < x → XM X a b tgt (ls) (st) σ) (k2 : ¬ y < x → XM X a b p1 (ls) (st) σ) : XM X a b pc (ls) (ai y :: ai x :: st) σ := by
  subst e2; exact xi_icmp_gt hX h1 h2 k1 k2
theorem x_if_gt {r : MR} {X : AX} {a b : Nat} {Q0 : AP} {σ : Sg} {pc : Nat} {ls : List (Option AV)} {st : List AV} {x : Int32} {off : Int} {tgt : Nat} {p1 : Nat} (hX : Rules r (Cd (rf r)) Q0 X) (h1 : decode (rc r) pc = .ok (.ifCond .gt off, 3)) (h2 : (pc : Int) + off = (tgt : Int)) (e2 : pc + 3 = p1) (k1 : 0 < x → XM X a b tgt (ls) (st) σ) (k2 : ¬ 0 < x → XM X a b p1 (ls) (st) σ) : XM X a b pc (ls) (ai x :: st) σ := by
  subst e2; exact xi_if_gt hX h1 h2 k1 k2
theorem x_icmp_le {r : MR} {X : AX} {a b : Nat} {Q0 : AP} {σ : Sg} {pc : Nat} {ls : List (Option AV)} {st : List AV} {x y : Int32} {off : Int} {tgt : Nat} {p1 : Nat} (hX : Rules r (Cd (rf r)) Q0 X) (h1 : decode (rc r) pc = .ok (.if_icmp .le off, 3)) (h2 : (pc : Int) + off = (tgt : Int)) (e2 : pc + 3 = p1) (k1 : x ≤ y → XM X a b tgt (ls) (st) σ) (k2 : ¬ x ≤ y → XM X a b p1 (ls) (st) σ) : XM X a b pc (ls) (ai y :: ai x :: st) σ := by
  subst e2; exact xi_icmp_le hX h1 h2 k1 k2
theorem x_if_le {r : MR} {X : AX} {a b : Nat} {Q0 : AP} {σ : Sg} {pc : Nat} {ls : List (Option AV)} {st : List AV} {x : Int32} {off : Int} {tgt : Nat} {p1 : Nat} (hX : Rules r (Cd (rf r)) Q0 X) (h1 : decode (rc r) pc = .ok (.ifCond .le off, 3)) (h2 : (pc : Int) + off = (tgt : Int)) (e2 : pc + 3 = p1) (k1 : x ≤ 0 → XM X a b tgt (ls) (st) σ) (k2 : ¬ x ≤ 0 → XM X a b p1 (ls) (st) σ) : XM X a b pc (ls) (ai x :: st) σ := by
  subst e2; exact xi_if_le hX h1 h2 k1 k2
theorem x_ifnull {r : MR} {X : AX} {a b : Nat} {Q0 : AP} {σ : Sg} {pc : Nat} {ls : List (Option AV)} {st : List AV} {x : Nat} {off : Int} {p0 : Nat} (hX : Rules r (Cd (rf r)) Q0 X) (h1 : decode (rc r) pc = .ok (.ifnull off, 3)) (e1 : pc + 3 = p0) (k1 : XM X a b p0 (ls) (st) σ) : XM X a b pc (ls) (ar x :: st) σ := by
  subst e1; exact xi_ifnull hX h1 k1
theorem x_iconstN {r : MR} {X : AX} {a b : Nat} {Q0 : AP} {σ : Sg} {pc : Nat} {ls : List (Option AV)} {st : List AV} {n : Int} {m : Nat} {p0 : Nat} (hX : Rules r (Cd (rf r)) Q0 X) (h1 : decode (rc r) pc = .ok (.iconst n, 1)) (h2 : Int32.ofInt n = nI m) (e1 : pc + 1 = p0) (k1 : XM X a b p0 ls (ai (nI m) :: st) σ) : XM X a b pc ls st σ := x_iconst hX h1 h2 e1 k1
theorem x_iaddN {r : MR} {X : AX} {a b : Nat} {Q0 : AP} {σ : Sg} {pc : Nat} {ls : List (Option AV)} {st : List AV} {x y p0 : Nat} (hX : Rules r (Cd (rf r)) Q0 X) (h1 : decode (rc r) pc = .ok (.iadd, 1)) (e1 : pc + 1 = p0) (k1 : XM X a b p0 ls (ai (nI (x + y)) :: st) σ) : XM X a b pc ls (ai (nI y) :: ai (nI x) :: st) σ := by
  refine x_iadd hX h1 e1 ?_
  rw [nI_add]
  exact k1
theorem x_imulN {r : MR} {X : AX} {a b : Nat} {Q0 : AP} {σ : Sg} {pc : Nat} {ls : List (Option AV)} {st : List AV} {x y p0 : Nat} (hX : Rules r (Cd (rf r)) Q0 X) (h1 : decode (rc r) pc = .ok (.imul, 1)) (e1 : pc + 1 = p0) (k1 : XM X a b p0 ls (ai (nI (x * y)) :: st) σ) : XM X a b pc ls (ai (nI y) :: ai (nI x) :: st) σ := by
  refine x_imul hX h1 e1 ?_
  rw [pk_mul]
  exact k1
theorem x_isubN {r : MR} {X : AX} {a b : Nat} {Q0 : AP} {σ : Sg} {pc : Nat} {ls : List (Option AV)} {st : List AV} {x y p0 : Nat} (hX : Rules r (Cd (rf r)) Q0 X) (h1 : decode (rc r) pc = .ok (.isub, 1)) (hle : y ≤ x) (e1 : pc + 1 = p0) (k1 : XM X a b p0 ls (ai (nI (x - y)) :: st) σ) : XM X a b pc ls (ai (nI y) :: ai (nI x) :: st) σ := by
  refine x_isub hX h1 e1 ?_
  rw [pk_sub hle]
  exact k1
theorem xisN2 {r : MR} {X : AX} {a b : Nat} {σ : Sg} {pc : Nat} {ls : List (Option AV)} {st : List AV} {x y : Nat} (k : XM X a b pc ls (ai (nI y) :: ai (nI x) :: st) σ) : XM X a b pc ls (ai (nI y) :: ai (nI x) :: st) σ := k
theorem xisN1 {r : MR} {X : AX} {a b : Nat} {σ : Sg} {pc : Nat} {ls : List (Option AV)} {st : List AV} {x : Nat} (k : XM X a b pc ls (ai (nI x) :: st) σ) : XM X a b pc ls (ai (nI x) :: st) σ := k
theorem xisNS {r : MR} {X : AX} {a b : Nat} {σ : Sg} {pc : Nat} {ls : List (Option AV)} {st : List AV} {x : Nat} {v : AV} (k : XM X a b pc ls (v :: ai (nI x) :: st) σ) : XM X a b pc ls (v :: ai (nI x) :: st) σ := k
theorem x_iinc1 {r : MR} {X : AX} {a b : Nat} {Q0 : AP} {σ : Sg} {pc : Nat} {ls : List (Option AV)} {st : List AV} {i x p0 : Nat} {ls2 : List (Option AV)} (hX : Rules r (Cd (rf r)) Q0 X) (h1 : decode (rc r) pc = .ok (.iinc i 1, 3)) (h2 : ls[i]? = some (some (ai (nI x)))) (el : ls.set i (some (ai (nI (x + 1)))) = ls2) (e1 : pc + 3 = p0) (k1 : XM X a b p0 ls2 st σ) : XM X a b pc ls st σ := x_iinc hX h1 h2 (nI_1 x) el e1 k1
theorem x_iincM {r : MR} {X : AX} {a b : Nat} {Q0 : AP} {σ : Sg} {pc : Nat} {ls : List (Option AV)} {st : List AV} {i x p0 : Nat} {ls2 : List (Option AV)} (hX : Rules r (Cd (rf r)) Q0 X) (h1 : decode (rc r) pc = .ok (.iinc i (-1), 3)) (h2 : ls[i]? = some (some (ai (nI x)))) (hx : 1 ≤ x) (el : ls.set i (some (ai (nI (x - 1)))) = ls2) (e1 : pc + 3 = p0) (k1 : XM X a b p0 ls2 st σ) : XM X a b pc ls st σ := x_iinc hX h1 h2 (nI_dec hx) el e1 k1
theorem x_idivN {r : MR} {X : AX} {a b : Nat} {Q0 : AP} {σ : Sg} {pc : Nat} {ls : List (Option AV)} {st : List AV} {x y p0 : Nat} (hX : Rules r (Cd (rf r)) Q0 X) (h1 : decode (rc r) pc = .ok (.idiv, 1)) (hx : x < 2147483648) (hy : y < 2147483648) (h0 : 0 < y) (e1 : pc + 1 = p0) (k1 : XM X a b p0 ls (ai (nI (x / y)) :: st) σ) : XM X a b pc ls (ai (nI y) :: ai (nI x) :: st) σ := by
  refine x_idiv hX h1 (nI_ne0 h0 (by simpa using hy)) e1 ?_
  rw [pk_div (by simpa using hx) h0 (by simpa using hy)]
  exact k1
theorem x_iremN {r : MR} {X : AX} {a b : Nat} {Q0 : AP} {σ : Sg} {pc : Nat} {ls : List (Option AV)} {st : List AV} {x y p0 : Nat} (hX : Rules r (Cd (rf r)) Q0 X) (h1 : decode (rc r) pc = .ok (.irem, 1)) (hx : x < 2147483648) (hy : y < 2147483648) (h0 : 0 < y) (e1 : pc + 1 = p0) (k1 : XM X a b p0 ls (ai (nI (x % y)) :: st) σ) : XM X a b pc ls (ai (nI y) :: ai (nI x) :: st) σ := by
  refine x_irem hX h1 (nI_ne0 h0 (by simpa using hy)) e1 ?_
  rw [pk_rem (by simpa using hx) h0 (by simpa using hy)]
  exact k1
theorem x_icmpN_eq {r : MR} {X : AX} {a b : Nat} {Q0 : AP} {σ : Sg} {pc : Nat} {ls : List (Option AV)} {st : List AV} {x y : Nat} {off : Int} {tgt p1 : Nat} (hX : Rules r (Cd (rf r)) Q0 X) (h1 : decode (rc r) pc = .ok (.if_icmp .eq off, 3)) (h2 : (pc : Int) + off = (tgt : Int)) (hx : x < 2147483648) (hy : y < 2147483648) (e2 : pc + 3 = p1) (k1 : x = y → XM X a b tgt ls st σ) (k2 : ¬ x = y → XM X a b p1 ls st σ) : XM X a b pc ls (ai (nI y) :: ai (nI x) :: st) σ := x_icmp_eq hX h1 h2 e2 (fun q => k1 ((nI_inj hx hy).mp q)) (fun q => k2 (fun z => q ((nI_inj hx hy).mpr z)))
theorem x_ifN_eq {r : MR} {X : AX} {a b : Nat} {Q0 : AP} {σ : Sg} {pc : Nat} {ls : List (Option AV)} {st : List AV} {x : Nat} {off : Int} {tgt p1 : Nat} (hX : Rules r (Cd (rf r)) Q0 X) (h1 : decode (rc r) pc = .ok (.ifCond .eq off, 3)) (h2 : (pc : Int) + off = (tgt : Int)) (hx : x < 2147483648) (e2 : pc + 3 = p1) (k1 : x = 0 → XM X a b tgt ls st σ) (k2 : ¬ x = 0 → XM X a b p1 ls st σ) : XM X a b pc ls (ai (nI x) :: st) σ := x_if_eq hX h1 h2 e2 (fun q => k1 ((nI_inj hx (by decide)).mp q)) (fun q => k2 (fun z => q ((nI_inj hx (by decide)).mpr z)))
theorem x_icmpN_ne {r : MR} {X : AX} {a b : Nat} {Q0 : AP} {σ : Sg} {pc : Nat} {ls : List (Option AV)} {st : List AV} {x y : Nat} {off : Int} {tgt p1 : Nat} (hX : Rules r (Cd (rf r)) Q0 X) (h1 : decode (rc r) pc = .ok (.if_icmp .ne off, 3)) (h2 : (pc : Int) + off = (tgt : Int)) (hx : x < 2147483648) (hy : y < 2147483648) (e2 : pc + 3 = p1) (k1 : ¬ x = y → XM X a b tgt ls st σ) (k2 : x = y → XM X a b p1 ls st σ) : XM X a b pc ls (ai (nI y) :: ai (nI x) :: st) σ := x_icmp_ne hX h1 h2 e2 (fun q => k1 (fun z => q ((nI_inj hx hy).mpr z))) (fun q => k2 ((nI_inj hx hy).mp q))
theorem x_ifN_ne {r : MR} {X : AX} {a b : Nat} {Q0 : AP} {σ : Sg} {pc : Nat} {ls : List (Option AV)} {st : List AV} {x : Nat} {off : Int} {tgt p1 : Nat} (hX : Rules r (Cd (rf r)) Q0 X) (h1 : decode (rc r) pc = .ok (.ifCond .ne off, 3)) (h2 : (pc : Int) + off = (tgt : Int)) (hx : x < 2147483648) (e2 : pc + 3 = p1) (k1 : ¬ x = 0 → XM X a b tgt ls st σ) (k2 : x = 0 → XM X a b p1 ls st σ) : XM X a b pc ls (ai (nI x) :: st) σ := x_if_ne hX h1 h2 e2 (fun q => k1 (fun z => q ((nI_inj hx (by decide)).mpr z))) (fun q => k2 ((nI_inj hx (by decide)).mp q))
theorem x_icmpN_lt {r : MR} {X : AX} {a b : Nat} {Q0 : AP} {σ : Sg} {pc : Nat} {ls : List (Option AV)} {st : List AV} {x y : Nat} {off : Int} {tgt p1 : Nat} (hX : Rules r (Cd (rf r)) Q0 X) (h1 : decode (rc r) pc = .ok (.if_icmp .lt off, 3)) (h2 : (pc : Int) + off = (tgt : Int)) (hx : x < 2147483648) (hy : y < 2147483648) (e2 : pc + 3 = p1) (k1 : x < y → XM X a b tgt ls st σ) (k2 : ¬ x < y → XM X a b p1 ls st σ) : XM X a b pc ls (ai (nI y) :: ai (nI x) :: st) σ := x_icmp_lt hX h1 h2 e2 (fun q => k1 ((nI_lt_iff hx hy).mp q)) (fun q => k2 (fun z => q ((nI_lt_iff hx hy).mpr z)))
theorem x_ifN_lt {r : MR} {X : AX} {a b : Nat} {Q0 : AP} {σ : Sg} {pc : Nat} {ls : List (Option AV)} {st : List AV} {x : Nat} {off : Int} {tgt p1 : Nat} (hX : Rules r (Cd (rf r)) Q0 X) (h1 : decode (rc r) pc = .ok (.ifCond .lt off, 3)) (h2 : (pc : Int) + off = (tgt : Int)) (hx : x < 2147483648) (e2 : pc + 3 = p1) (k1 : x < 0 → XM X a b tgt ls st σ) (k2 : ¬ x < 0 → XM X a b p1 ls st σ) : XM X a b pc ls (ai (nI x) :: st) σ := x_if_lt hX h1 h2 e2 (fun q => k1 ((nI_lt_iff hx (by decide)).mp q)) (fun q => k2 (fun z => q ((nI_lt_iff hx (by decide)).mpr z)))
theorem x_icmpN_ge {r : MR} {X : AX} {a b : Nat} {Q0 : AP} {σ : Sg} {pc : Nat} {ls : List (Option AV)} {st : List AV} {x y : Nat} {off : Int} {tgt p1 : Nat} (hX : Rules r (Cd (rf r)) Q0 X) (h1 : decode (rc r) pc = .ok (.if_icmp .ge off, 3)) (h2 : (pc : Int) + off = (tgt : Int)) (hx : x < 2147483648) (hy : y < 2147483648) (e2 : pc + 3 = p1) (k1 : y ≤ x → XM X a b tgt ls st σ) (k2 : ¬ y ≤ x → XM X a b p1 ls st σ) : XM X a b pc ls (ai (nI y) :: ai (nI x) :: st) σ := x_icmp_ge hX h1 h2 e2 (fun q => k1 ((nI_le_iff hy hx).mp q)) (fun q => k2 (fun z => q ((nI_le_iff hy hx).mpr z)))
theorem x_ifN_ge {r : MR} {X : AX} {a b : Nat} {Q0 : AP} {σ : Sg} {pc : Nat} {ls : List (Option AV)} {st : List AV} {x : Nat} {off : Int} {tgt p1 : Nat} (hX : Rules r (Cd (rf r)) Q0 X) (h1 : decode (rc r) pc = .ok (.ifCond .ge off, 3)) (h2 : (pc : Int) + off = (tgt : Int)) (hx : x < 2147483648) (e2 : pc + 3 = p1) (k1 : 0 ≤ x → XM X a b tgt ls st σ) (k2 : ¬ 0 ≤ x → XM X a b p1 ls st σ) : XM X a b pc ls (ai (nI x) :: st) σ := x_if_ge hX h1 h2 e2 (fun q => k1 ((nI_le_iff (by decide) hx).mp q)) (fun q => k2 (fun z => q ((nI_le_iff (by decide) hx).mpr z)))
theorem x_icmpN_gt {r : MR} {X : AX} {a b : Nat} {Q0 : AP} {σ : Sg} {pc : Nat} {ls : List (Option AV)} {st : List AV} {x y : Nat} {off : Int} {tgt p1 : Nat} (hX : Rules r (Cd (rf r)) Q0 X) (h1 : decode (rc r) pc = .ok (.if_icmp .gt off, 3)) (h2 : (pc : Int) + off = (tgt : Int)) (hx : x < 2147483648) (hy : y < 2147483648) (e2 : pc + 3 = p1) (k1 : y < x → XM X a b tgt ls st σ) (k2 : ¬ y < x → XM X a b p1 ls st σ) : XM X a b pc ls (ai (nI y) :: ai (nI x) :: st) σ := x_icmp_gt hX h1 h2 e2 (fun q => k1 ((nI_lt_iff hy hx).mp q)) (fun q => k2 (fun z => q ((nI_lt_iff hy hx).mpr z)))
theorem x_ifN_gt {r : MR} {X : AX} {a b : Nat} {Q0 : AP} {σ : Sg} {pc : Nat} {ls : List (Option AV)} {st : List AV} {x : Nat} {off : Int} {tgt p1 : Nat} (hX : Rules r (Cd (rf r)) Q0 X) (h1 : decode (rc r) pc = .ok (.ifCond .gt off, 3)) (h2 : (pc : Int) + off = (tgt : Int)) (hx : x < 2147483648) (e2 : pc + 3 = p1) (k1 : 0 < x → XM X a b tgt ls st σ) (k2 : ¬ 0 < x → XM X a b p1 ls st σ) : XM X a b pc ls (ai (nI x) :: st) σ := x_if_gt hX h1 h2 e2 (fun q => k1 ((nI_lt_iff (by decide) hx).mp q)) (fun q => k2 (fun z => q ((nI_lt_iff (by decide) hx).mpr z)))
theorem x_icmpN_le {r : MR} {X : AX} {a b : Nat} {Q0 : AP} {σ : Sg} {pc : Nat} {ls : List (Option AV)} {st : List AV} {x y : Nat} {off : Int} {tgt p1 : Nat} (hX : Rules r (Cd (rf r)) Q0 X) (h1 : decode (rc r) pc = .ok (.if_icmp .le off, 3)) (h2 : (pc : Int) + off = (tgt : Int)) (hx : x < 2147483648) (hy : y < 2147483648) (e2 : pc + 3 = p1) (k1 : x ≤ y → XM X a b tgt ls st σ) (k2 : ¬ x ≤ y → XM X a b p1 ls st σ) : XM X a b pc ls (ai (nI y) :: ai (nI x) :: st) σ := x_icmp_le hX h1 h2 e2 (fun q => k1 ((nI_le_iff hx hy).mp q)) (fun q => k2 (fun z => q ((nI_le_iff hx hy).mpr z)))
theorem x_ifN_le {r : MR} {X : AX} {a b : Nat} {Q0 : AP} {σ : Sg} {pc : Nat} {ls : List (Option AV)} {st : List AV} {x : Nat} {off : Int} {tgt p1 : Nat} (hX : Rules r (Cd (rf r)) Q0 X) (h1 : decode (rc r) pc = .ok (.ifCond .le off, 3)) (h2 : (pc : Int) + off = (tgt : Int)) (hx : x < 2147483648) (e2 : pc + 3 = p1) (k1 : x ≤ 0 → XM X a b tgt ls st σ) (k2 : ¬ x ≤ 0 → XM X a b p1 ls st σ) : XM X a b pc ls (ai (nI x) :: st) σ := x_if_le hX h1 h2 e2 (fun q => k1 ((nI_le_iff hx (by decide)).mp q)) (fun q => k2 (fun z => q ((nI_le_iff hx (by decide)).mpr z)))
theorem x_ald {r : MR} {X : AX} {a b : Nat} {Q0 : AP} {σ : Sg} {pc : Nat} {ls : List (Option AV)} {st : List AV} {o n p0 : Nat} {i v : Int32} (hX : Rules r (Cd (rf r)) Q0 X) (h1 : decode (rc r) pc = .ok (.iaload, 1)) (hs : SHl[o]? = some (.inr (.inl n))) (hi : vp_in i n) (hv : σ o i.toNatClampNeg = v) (e1 : pc + 1 = p0) (k1 : XM X a b p0 ls (ai v :: st) σ) : XM X a b pc ls (ai i :: ar o :: st) σ := by
  subst e1; subst hv; exact xi_iald hX h1 (mem_get hs) hi k1
theorem x_aldN {r : MR} {X : AX} {a b : Nat} {Q0 : AP} {σ : Sg} {pc : Nat} {ls : List (Option AV)} {st : List AV} {o n j p0 : Nat} {v : Int32} (hX : Rules r (Cd (rf r)) Q0 X) (h1 : decode (rc r) pc = .ok (.iaload, 1)) (hs : SHl[o]? = some (.inr (.inl n))) (hn : n ≤ 1000) (hj : j < n) (hv : σ o j = v) (e1 : pc + 1 = p0) (k1 : XM X a b p0 ls (ai v :: st) σ) : XM X a b pc ls (ai (nI j) :: ar o :: st) σ := by
  have hl : j < 2 ^ 31 := by omega
  exact x_ald hX h1 hs (vp_in_nI hj (by omega)) (by rw [nI_clamp hl]; exact hv) e1 k1
theorem x_ast {r : MR} {X : AX} {a b : Nat} {Q0 : AP} {σ : Sg} {pc : Nat} {ls : List (Option AV)} {st : List AV} {o n p0 : Nat} {i x : Int32} (hX : Rules r (Cd (rf r)) Q0 X) (h1 : decode (rc r) pc = .ok (.iastore, 1)) (hs : SHl[o]? = some (.inr (.inl n))) (hi : vp_in i n) (e1 : pc + 1 = p0) (k1 : XM X a b p0 ls st (up σ o i.toNatClampNeg x)) : XM X a b pc ls (ai x :: ai i :: ar o :: st) σ := by
  subst e1
  refine xi_iast hX h1 (mem_get hs) hi ?_
  rw [mem_setA hs]
  exact k1
theorem x_astN {r : MR} {X : AX} {a b : Nat} {Q0 : AP} {σ : Sg} {pc : Nat} {ls : List (Option AV)} {st : List AV} {o n j p0 : Nat} {x : Int32} (hX : Rules r (Cd (rf r)) Q0 X) (h1 : decode (rc r) pc = .ok (.iastore, 1)) (hs : SHl[o]? = some (.inr (.inl n))) (hn : n ≤ 1000) (hj : j < n) (e1 : pc + 1 = p0) (k1 : XM X a b p0 ls st (up σ o j x)) : XM X a b pc ls (ai x :: ai (nI j) :: ar o :: st) σ := by
  have hl : j < 2 ^ 31 := by omega
  refine x_ast hX h1 hs (vp_in_nI hj (by omega)) e1 ?_
  rw [nI_clamp hl]
  exact k1
theorem x_cV {r r1 : MR} {X : AX} {a b a0 b0 a1 b1 : Nat} {Q0 : AP} {Q1 : SP} {σ : Sg} {pc : Nat} {ls : List (Option AV)} {st st0 : List AV} {i o ci n p0 : Nat} {As : List AV} {fl : List (Option Nat)} (hX : Rules r (Cd (rf r)) Q0 X) (h1 : decode (rc r) pc = .ok (.invokevirtual i, 3)) (h2 : Cond.methodLink (ro r) i (ry r1) ∈ Wl) (h3 : MV r1 n) (hs : SHl[o]? = some (.inl (ci, fl))) (hk : KC ci (ro r1)) (hf : FIT r1 r) (hl : st.length ≤ 8) (hn : As.length = n) (hst : As.reverse ++ ar o :: st = st0) (ea : a1 + a = a0) (eb : b1 + b = b0) (hc : C r1 (ar o :: As) (mem σ) a1 b1 (lift Q1)) (e1 : pc + 3 = p0) (k1 : ∀ w σ1, Q1 w σ1 → XM X a b p0 ls (w.toList ++ st) σ1) : XM X a0 b0 pc ls st0 σ := by
  subst hst; subst hn; subst ea; subst eb; subst e1
  refine xi_callV hX h1 h2 h3 (mem_get hs) hk hf hl ?_
  refine C.mono hc ?_
  rintro w h ⟨σ1, rfl, q⟩
  exact k1 w σ1 q
theorem x_cS {r r1 : MR} {X : AX} {a b a0 b0 a1 b1 : Nat} {Q0 : AP} {Q1 : SP} {σ : Sg} {pc : Nat} {ls : List (Option AV)} {st st0 : List AV} {i n p0 : Nat} {As : List AV} (hX : Rules r (Cd (rf r)) Q0 X) (h1 : decode (rc r) pc = .ok (.invokestatic i, 3)) (h2 : Cond.methodLink (ro r) i (ry r1) ∈ Wl ∨ (ro r, i, ry r1) ∈ nestL) (h3 : MS r1 n) (hf : FIT r1 r) (hl : st.length ≤ 8) (hn : As.length = n) (hst : As.reverse ++ st = st0) (ea : a1 + a = a0) (eb : b1 + b = b0) (hc : C r1 (As) (mem σ) a1 b1 (lift Q1)) (e1 : pc + 3 = p0) (k1 : ∀ w σ1, Q1 w σ1 → XM X a b p0 ls (w.toList ++ st) σ1) : XM X a0 b0 pc ls st0 σ := by
  subst hst; subst hn; subst ea; subst eb; subst e1
  refine xi_callS hX h1 h2 h3 hf hl ?_
  refine C.mono hc ?_
  rintro w h ⟨σ1, rfl, q⟩
  exact k1 w σ1 q
theorem x_ireturn {r : MR} {X : AX} {a b : Nat} {Q0 : AP} {σ : Sg} {pc : Nat} {ls : List (Option AV)} {x : Int32} {ty : FieldType} (hX : Rules r (Cd (rf r)) Q0 X) (h1 : decode (rc r) pc = .ok (.ireturn, 1)) (h2 : rt r = some ty) (h3 : narrow ty (.int x) = .int x) (k : Q0 (some (ai x)) (mem σ)) : XM X a b pc ls [ai x] σ := xi_ireturn hX h1 h2 h3 k
end

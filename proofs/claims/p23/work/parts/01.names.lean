-- ===== PART A: goes FIRST, ahead of the names: the tables' words, and 'selects' of the private methods out of them =====
/-- a private method of a class that the tables say can be made, by its rows of tables_1 -/
def lw_okq (q : MethodName × Nat) : Prop := (q.1.cls ≠ "java/lang/invoke/MethodHandle" ∧ q.1.cls ≠ "java/lang/invoke/VarHandle") ∧ Cond.instantiable q.1.cls q.2 ∈ tables_1 ∧ Cond.privateMethod q.1 ∈ tables_1 ∧ Cond.instanceMethod q.1 ∈ tables_1
theorem lw_p0 : lw_okq (⟨"BellWords$Tower", "nextTime", "()I"⟩, 6) := ⟨⟨by decide +kernel, by decide +kernel⟩, List.mem_of_getElem? (i := 21) (by decide +kernel), List.mem_of_getElem? (i := 322) (by decide +kernel), List.mem_of_getElem? (i := 323) (by decide +kernel)⟩
theorem lw_p1 : lw_okq (⟨"BellWords$History", "stateAt", "(I)LBellWords$Tower;"⟩, 3) := ⟨⟨by decide +kernel, by decide +kernel⟩, List.mem_of_getElem? (i := 71) (by decide +kernel), List.mem_of_getElem? (i := 331) (by decide +kernel), List.mem_of_getElem? (i := 332) (by decide +kernel)⟩
theorem lw_p2 : lw_okq (⟨"BellWords$Tower", "ringGroup", "(II)V"⟩, 6) := ⟨⟨by decide +kernel, by decide +kernel⟩, List.mem_of_getElem? (i := 21) (by decide +kernel), List.mem_of_getElem? (i := 352) (by decide +kernel), List.mem_of_getElem? (i := 353) (by decide +kernel)⟩
theorem lw_p3 : lw_okq (⟨"BellWords$Reading", "noteGap", "(IILBellWords$Tower;)V"⟩, 9) := ⟨⟨by decide +kernel, by decide +kernel⟩, List.mem_of_getElem? (i := 91) (by decide +kernel), List.mem_of_getElem? (i := 368) (by decide +kernel), List.mem_of_getElem? (i := 369) (by decide +kernel)⟩
theorem lw_p4 : lw_okq (⟨"BellWords$Reading", "caseOf", "(II)I"⟩, 9) := ⟨⟨by decide +kernel, by decide +kernel⟩, List.mem_of_getElem? (i := 91) (by decide +kernel), List.mem_of_getElem? (i := 372) (by decide +kernel), List.mem_of_getElem? (i := 373) (by decide +kernel)⟩
theorem lw_p5 : lw_okq (⟨"BellWords$Reading", "goOn", "(I)V"⟩, 9) := ⟨⟨by decide +kernel, by decide +kernel⟩, List.mem_of_getElem? (i := 91) (by decide +kernel), List.mem_of_getElem? (i := 376) (by decide +kernel), List.mem_of_getElem? (i := 377) (by decide +kernel)⟩
theorem lw_p6 : lw_okq (⟨"BellWords$Reading", "beginLetter", "()V"⟩, 9) := ⟨⟨by decide +kernel, by decide +kernel⟩, List.mem_of_getElem? (i := 91) (by decide +kernel), List.mem_of_getElem? (i := 398) (by decide +kernel), List.mem_of_getElem? (i := 399) (by decide +kernel)⟩
theorem lw_p7 : lw_okq (⟨"BellWords$Reading", "notePlace", "(I)V"⟩, 9) := ⟨⟨by decide +kernel, by decide +kernel⟩, List.mem_of_getElem? (i := 91) (by decide +kernel), List.mem_of_getElem? (i := 411) (by decide +kernel), List.mem_of_getElem? (i := 412) (by decide +kernel)⟩
theorem lw_p8 : lw_okq (⟨"BellWords$Letters", "letterBy", "(II)I"⟩, 6) := ⟨⟨by decide +kernel, by decide +kernel⟩, List.mem_of_getElem? (i := 97) (by decide +kernel), List.mem_of_getElem? (i := 431) (by decide +kernel), List.mem_of_getElem? (i := 432) (by decide +kernel)⟩
theorem lw_p9 : lw_okq (⟨"BellWords$Reading", "sumUp", "()V"⟩, 9) := ⟨⟨by decide +kernel, by decide +kernel⟩, List.mem_of_getElem? (i := 91) (by decide +kernel), List.mem_of_getElem? (i := 435) (by decide +kernel), List.mem_of_getElem? (i := 436) (by decide +kernel)⟩
theorem lw_p10 : lw_okq (⟨"BellWords$Letters", "bitOf", "(I)I"⟩, 6) := ⟨⟨by decide +kernel, by decide +kernel⟩, List.mem_of_getElem? (i := 97) (by decide +kernel), List.mem_of_getElem? (i := 489) (by decide +kernel), List.mem_of_getElem? (i := 490) (by decide +kernel)⟩
theorem lw_p11 : lw_okq (⟨"BellWords", "countOfState", "(I)I"⟩, 7) := ⟨⟨by decide +kernel, by decide +kernel⟩, List.mem_of_getElem? (i := 13) (by decide +kernel), List.mem_of_getElem? (i := 522) (by decide +kernel), List.mem_of_getElem? (i := 523) (by decide +kernel)⟩
theorem lw_p12 : lw_okq (⟨"BellWords$Corrections", "search", "(LBellWords$Reading;II)V"⟩, 5) := ⟨⟨by decide +kernel, by decide +kernel⟩, List.mem_of_getElem? (i := 211) (by decide +kernel), List.mem_of_getElem? (i := 643) (by decide +kernel), List.mem_of_getElem? (i := 644) (by decide +kernel)⟩
theorem lw_p13 : lw_okq (⟨"BellWords$Corrections", "consider", "(LBellWords$Reading;IIIII)V"⟩, 5) := ⟨⟨by decide +kernel, by decide +kernel⟩, List.mem_of_getElem? (i := 211) (by decide +kernel), List.mem_of_getElem? (i := 648) (by decide +kernel), List.mem_of_getElem? (i := 649) (by decide +kernel)⟩
def lw_privs_1 : List (MethodName × Nat) := [(⟨"BellWords$Tower", "nextTime", "()I"⟩, 6), (⟨"BellWords$History", "stateAt", "(I)LBellWords$Tower;"⟩, 3), (⟨"BellWords$Tower", "ringGroup", "(II)V"⟩, 6), (⟨"BellWords$Reading", "noteGap", "(IILBellWords$Tower;)V"⟩, 9), (⟨"BellWords$Reading", "caseOf", "(II)I"⟩, 9), (⟨"BellWords$Reading", "goOn", "(I)V"⟩, 9), (⟨"BellWords$Reading", "beginLetter", "()V"⟩, 9), (⟨"BellWords$Reading", "notePlace", "(I)V"⟩, 9), (⟨"BellWords$Letters", "letterBy", "(II)I"⟩, 6), (⟨"BellWords$Reading", "sumUp", "()V"⟩, 9), (⟨"BellWords$Letters", "bitOf", "(I)I"⟩, 6), (⟨"BellWords", "countOfState", "(I)I"⟩, 7), (⟨"BellWords$Corrections", "search", "(LBellWords$Reading;II)V"⟩, 5), (⟨"BellWords$Corrections", "consider", "(LBellWords$Reading;IIIII)V"⟩, 5)]
theorem lw_r1 : ∀ q ∈ lw_privs_1, lw_okq q := List.forall_mem_cons.mpr ⟨lw_p0, List.forall_mem_cons.mpr ⟨lw_p1, List.forall_mem_cons.mpr ⟨lw_p2, List.forall_mem_cons.mpr ⟨lw_p3, List.forall_mem_cons.mpr ⟨lw_p4, List.forall_mem_cons.mpr ⟨lw_p5, List.forall_mem_cons.mpr ⟨lw_p6, List.forall_mem_cons.mpr ⟨lw_p7, List.forall_mem_cons.mpr ⟨lw_p8, List.forall_mem_cons.mpr ⟨lw_p9, List.forall_mem_cons.mpr ⟨lw_p10, List.forall_mem_cons.mpr ⟨lw_p11, List.forall_mem_cons.mpr ⟨lw_p12, List.forall_mem_cons.mpr ⟨lw_p13, fun _ h => absurd h List.not_mem_nil⟩⟩⟩⟩⟩⟩⟩⟩⟩⟩⟩⟩⟩⟩
def lw_privs : List (MethodName × Nat) := lw_privs_1
def lw_tbl : List Cond := k2_sels lw_privs ++ tables_1
theorem lw_privs_ok : ∀ q ∈ lw_privs, lw_okq q := lw_r1

def RX0 : String := "BellWords$Ballot"
def TX0 : u_T := fun k => match k with
  | 0 => ("BellWords$Ballot", "votes", "LBellWords$Row;", true)
  | 1 => ("BellWords$Ballot", "winner", "I", false)
  | 2 => ("BellWords$Ballot", "most", "I", false)
  | _ => ("BellWords$Ballot", "doubtful", "Z", false)
def tyX0 : Nat → FieldType := fun k => match k with
  | 0 => .object "BellWords$Row"
  | 1 => .int
  | 2 => .int
  | _ => .boolean
theorem nmX0 : ∀ a, a < 4 → ∀ b, b < 4 → a ≠ b → (TX0 a).2.1 ≠ (TX0 b).2.1 := by decide +kernel
theorem tyX0_ok : ∀ k, k < 4 → parseFieldDescriptor (TX0 k).2.2.1 = some (tyX0 k) := by decide +kernel
abbrev cX0_init : ByteArray := prog_2_method_1_code
def yX0_init : MethodName := ⟨RX0, "<init>", "()V"⟩
def RX1 : String := "BellWords$Corrections"
def TX1 : u_T := fun k => match k with
  | 0 => ("BellWords$Corrections", "place", "I", false)
  | 1 => ("BellWords$Corrections", "group", "I", false)
  | 2 => ("BellWords$Corrections", "step", "I", false)
  | 3 => ("BellWords$Corrections", "letter", "I", false)
  | _ => ("BellWords$Corrections", "found", "I", false)
def tyX1 : Nat → FieldType := fun k => match k with
  | 0 => .int
  | 1 => .int
  | 2 => .int
  | 3 => .int
  | _ => .int
theorem nmX1 : ∀ a, a < 5 → ∀ b, b < 5 → a ≠ b → (TX1 a).2.1 ≠ (TX1 b).2.1 := by decide +kernel
theorem tyX1_ok : ∀ k, k < 5 → parseFieldDescriptor (TX1 k).2.2.1 = some (tyX1 k) := by decide +kernel
abbrev cX1_init : ByteArray := prog_3_method_1_code
def yX1_init : MethodName := ⟨RX1, "<init>", "()V"⟩
abbrev cX1_fitting : ByteArray := prog_3_method_2_code
def yX1_fitting : MethodName := ⟨RX1, "fitting", "(LBellWords$Reading;I)I"⟩
abbrev cX1_search : ByteArray := prog_3_method_5_code
def yX1_search : MethodName := ⟨RX1, "search", "(LBellWords$Reading;II)V"⟩
abbrev cX1_consider : ByteArray := prog_3_method_6_code
def yX1_consider : MethodName := ⟨RX1, "consider", "(LBellWords$Reading;IIIII)V"⟩
def RX2 : String := "BellWords$History"
def TX2 : u_T := fun k => match k with
  | 0 => ("BellWords$History", "slots", "[LBellWords$Tower;", true)
  | 1 => ("BellWords$History", "oldest", "I", false)
  | _ => ("BellWords$History", "size", "I", false)
def tyX2 : Nat → FieldType := fun k => match k with
  | 0 => .array (.object "BellWords$Tower")
  | 1 => .int
  | _ => .int
theorem nmX2 : ∀ a, a < 3 → ∀ b, b < 3 → a ≠ b → (TX2 a).2.1 ≠ (TX2 b).2.1 := by decide +kernel
theorem tyX2_ok : ∀ k, k < 3 → parseFieldDescriptor (TX2 k).2.2.1 = some (tyX2 k) := by decide +kernel
abbrev cX2_init : ByteArray := prog_4_method_1_code
def yX2_init : MethodName := ⟨RX2, "<init>", "()V"⟩
abbrev cX2_record : ByteArray := prog_4_method_2_code
def yX2_record : MethodName := ⟨RX2, "record", "(LBellWords$Tower;)V"⟩
abbrev cX2_stateAt : ByteArray := prog_4_method_4_code
def yX2_stateAt : MethodName := ⟨RX2, "stateAt", "(I)LBellWords$Tower;"⟩
def RX3 : String := "BellWords$Letters"
def TX3 : u_T := fun k => match k with
  | 0 => ("BellWords$Letters", "groups", "LBellWords$Row;", true)
  | 1 => ("BellWords$Letters", "firstCounts", "LBellWords$Row;", true)
  | 2 => ("BellWords$Letters", "secondCounts", "LBellWords$Row;", true)
  | 3 => ("BellWords$Letters", "values", "LBellWords$Row;", true)
  | 4 => ("BellWords$Letters", "letterOfCell", "LBellWords$Row;", true)
  | _ => ("BellWords$Letters", "number", "I", false)
def tyX3 : Nat → FieldType := fun k => match k with
  | 0 => .object "BellWords$Row"
  | 1 => .object "BellWords$Row"
  | 2 => .object "BellWords$Row"
  | 3 => .object "BellWords$Row"
  | 4 => .object "BellWords$Row"
  | _ => .int
theorem nmX3 : ∀ a, a < 6 → ∀ b, b < 6 → a ≠ b → (TX3 a).2.1 ≠ (TX3 b).2.1 := by decide +kernel
theorem tyX3_ok : ∀ k, k < 6 → parseFieldDescriptor (TX3 k).2.2.1 = some (tyX3 k) := by decide +kernel
abbrev cX3_init : ByteArray := prog_5_method_1_code
def yX3_init : MethodName := ⟨RX3, "<init>", "()V"⟩
abbrev cX3_restart : ByteArray := prog_5_method_2_code
def yX3_restart : MethodName := ⟨RX3, "restart", "(LBellWords$Tower;)V"⟩
abbrev cX3_begin : ByteArray := prog_5_method_3_code
def yX3_begin : MethodName := ⟨RX3, "begin", "()V"⟩
abbrev cX3_beginGroup : ByteArray := prog_5_method_4_code
def yX3_beginGroup : MethodName := ⟨RX3, "beginGroup", "()V"⟩
abbrev cX3_lengthen : ByteArray := prog_5_method_5_code
def yX3_lengthen : MethodName := ⟨RX3, "lengthen", "(I)V"⟩
abbrev cX3_settle : ByteArray := prog_5_method_6_code
def yX3_settle : MethodName := ⟨RX3, "settle", "()V"⟩
abbrev cX3_letterWith : ByteArray := prog_5_method_7_code
def yX3_letterWith : MethodName := ⟨RX3, "letterWith", "(III)I"⟩
abbrev cX3_withOneMore : ByteArray := prog_5_method_8_code
def yX3_withOneMore : MethodName := ⟨RX3, "withOneMore", "(I)I"⟩
abbrev cX3_bitOf : ByteArray := prog_5_method_9_code
def yX3_bitOf : MethodName := ⟨RX3, "bitOf", "(I)I"⟩
abbrev cX3_letterBy : ByteArray := prog_5_method_10_code
def yX3_letterBy : MethodName := ⟨RX3, "letterBy", "(II)I"⟩
def RX4 : String := "BellWords$Messages"
def TX4 : u_T := fun k => match k with
  | 0 => ("BellWords$Messages", "firstStrokes", "LBellWords$Row;", true)
  | 1 => ("BellWords$Messages", "firstLetters", "LBellWords$Row;", true)
  | 2 => ("BellWords$Messages", "lengths", "LBellWords$Row;", true)
  | 3 => ("BellWords$Messages", "placed", "LBellWords$Row;", true)
  | 4 => ("BellWords$Messages", "doubtful", "LBellWords$Row;", true)
  | 5 => ("BellWords$Messages", "unreadable", "LBellWords$Row;", true)
  | 6 => ("BellWords$Messages", "sums", "LBellWords$Row;", true)
  | _ => ("BellWords$Messages", "number", "I", false)
def tyX4 : Nat → FieldType := fun k => match k with
  | 0 => .object "BellWords$Row"
  | 1 => .object "BellWords$Row"
  | 2 => .object "BellWords$Row"
  | 3 => .object "BellWords$Row"
  | 4 => .object "BellWords$Row"
  | 5 => .object "BellWords$Row"
  | 6 => .object "BellWords$Row"
  | _ => .int
theorem nmX4 : ∀ a, a < 8 → ∀ b, b < 8 → a ≠ b → (TX4 a).2.1 ≠ (TX4 b).2.1 := by decide +kernel
theorem tyX4_ok : ∀ k, k < 8 → parseFieldDescriptor (TX4 k).2.2.1 = some (tyX4 k) := by decide +kernel
abbrev cX4_init : ByteArray := prog_6_method_1_code
def yX4_init : MethodName := ⟨RX4, "<init>", "()V"⟩
abbrev cX4_begin : ByteArray := prog_6_method_2_code
def yX4_begin : MethodName := ⟨RX4, "begin", "(II)V"⟩
abbrev cX4_addTo : ByteArray := prog_6_method_3_code
def yX4_addTo : MethodName := ⟨RX4, "addTo", "(LBellWords$Row;)V"⟩
abbrev cX4_totalOf : ByteArray := prog_6_method_4_code
def yX4_totalOf : MethodName := ⟨RX4, "totalOf", "(LBellWords$Row;)I"⟩
def RX5 : String := "BellWords$Orders"
def TX5 : u_T := fun k => match k with
  | 0 => ("BellWords$Orders", "signs", "LBellWords$Row;", true)
  | 1 => ("BellWords$Orders", "length", "I", false)
  | 2 => ("BellWords$Orders", "start", "I", false)
  | _ => ("BellWords$Orders", "reason", "I", false)
def tyX5 : Nat → FieldType := fun k => match k with
  | 0 => .object "BellWords$Row"
  | 1 => .int
  | 2 => .int
  | _ => .int
theorem nmX5 : ∀ a, a < 4 → ∀ b, b < 4 → a ≠ b → (TX5 a).2.1 ≠ (TX5 b).2.1 := by decide +kernel
theorem tyX5_ok : ∀ k, k < 4 → parseFieldDescriptor (TX5 k).2.2.1 = some (tyX5 k) := by decide +kernel
abbrev cX5_init : ByteArray := prog_7_method_1_code
def yX5_init : MethodName := ⟨RX5, "<init>", "()V"⟩
def RX6 : String := "BellWords$Reading"
def TX6 : u_T := fun k => match k with
  | 0 => ("BellWords$Reading", "letters", "LBellWords$Letters;", true)
  | 1 => ("BellWords$Reading", "messages", "LBellWords$Messages;", true)
  | 2 => ("BellWords$Reading", "gaps", "LBellWords$Row;", true)
  | 3 => ("BellWords$Reading", "cases", "LBellWords$Row;", true)
  | 4 => ("BellWords$Reading", "doubts", "LBellWords$Row;", true)
  | 5 => ("BellWords$Reading", "messageNumbers", "LBellWords$Row;", true)
  | 6 => ("BellWords$Reading", "letterPlaces", "LBellWords$Row;", true)
  | 7 => ("BellWords$Reading", "groupNumbers", "LBellWords$Row;", true)
  | _ => ("BellWords$Reading", "leftOut", "I", false)
def tyX6 : Nat → FieldType := fun k => match k with
  | 0 => .object "BellWords$Letters"
  | 1 => .object "BellWords$Messages"
  | 2 => .object "BellWords$Row"
  | 3 => .object "BellWords$Row"
  | 4 => .object "BellWords$Row"
  | 5 => .object "BellWords$Row"
  | 6 => .object "BellWords$Row"
  | 7 => .object "BellWords$Row"
  | _ => .int
theorem nmX6 : ∀ a, a < 9 → ∀ b, b < 9 → a ≠ b → (TX6 a).2.1 ≠ (TX6 b).2.1 := by decide +kernel
theorem tyX6_ok : ∀ k, k < 9 → parseFieldDescriptor (TX6 k).2.2.1 = some (tyX6 k) := by decide +kernel
abbrev cX6_init : ByteArray := prog_8_method_1_code
def yX6_init : MethodName := ⟨RX6, "<init>", "()V"⟩
abbrev cX6_refresh : ByteArray := prog_8_method_2_code
def yX6_refresh : MethodName := ⟨RX6, "refresh", "(LBellWords$Tower;)V"⟩
abbrev cX6_noteGap : ByteArray := prog_8_method_3_code
def yX6_noteGap : MethodName := ⟨RX6, "noteGap", "(IILBellWords$Tower;)V"⟩
abbrev cX6_caseOf : ByteArray := prog_8_method_4_code
def yX6_caseOf : MethodName := ⟨RX6, "caseOf", "(II)I"⟩
abbrev cX6_goOn : ByteArray := prog_8_method_5_code
def yX6_goOn : MethodName := ⟨RX6, "goOn", "(I)V"⟩
abbrev cX6_beginLetter : ByteArray := prog_8_method_6_code
def yX6_beginLetter : MethodName := ⟨RX6, "beginLetter", "()V"⟩
abbrev cX6_notePlace : ByteArray := prog_8_method_7_code
def yX6_notePlace : MethodName := ⟨RX6, "notePlace", "(I)V"⟩
abbrev cX6_sumUp : ByteArray := prog_8_method_8_code
def yX6_sumUp : MethodName := ⟨RX6, "sumUp", "()V"⟩
abbrev cX6_isLeftOut : ByteArray := prog_8_method_9_code
def yX6_isLeftOut : MethodName := ⟨RX6, "isLeftOut", "(I)Z"⟩
abbrev cX6_gapDetail : ByteArray := prog_8_method_10_code
def yX6_gapDetail : MethodName := ⟨RX6, "gapDetail", "(II)I"⟩
abbrev cX6_placeDetail : ByteArray := prog_8_method_11_code
def yX6_placeDetail : MethodName := ⟨RX6, "placeDetail", "(II)I"⟩
abbrev cX6_hasMessage : ByteArray := prog_8_method_12_code
def yX6_hasMessage : MethodName := ⟨RX6, "hasMessage", "(I)Z"⟩
abbrev cX6_lengthOf : ByteArray := prog_8_method_13_code
def yX6_lengthOf : MethodName := ⟨RX6, "lengthOf", "(I)I"⟩
abbrev cX6_indexOf : ByteArray := prog_8_method_14_code
def yX6_indexOf : MethodName := ⟨RX6, "indexOf", "(II)I"⟩
abbrev cX6_letterIn : ByteArray := prog_8_method_15_code
def yX6_letterIn : MethodName := ⟨RX6, "letterIn", "(II)I"⟩
abbrev cX6_isRight : ByteArray := prog_8_method_16_code
def yX6_isRight : MethodName := ⟨RX6, "isRight", "(I)Z"⟩
abbrev cX6_isRightWith : ByteArray := prog_8_method_17_code
def yX6_isRightWith : MethodName := ⟨RX6, "isRightWith", "(III)Z"⟩
abbrev cX6_rightOnes : ByteArray := prog_8_method_19_code
def yX6_rightOnes : MethodName := ⟨RX6, "rightOnes", "()I"⟩
def RX7 : String := "BellWords$Row"
def TX7 : u_T := fun k => match k with
  | _ => ("BellWords$Row", "cells", "[I", true)
def tyX7 : Nat → FieldType := fun k => match k with
  | _ => .array .int
theorem nmX7 : ∀ a, a < 1 → ∀ b, b < 1 → a ≠ b → (TX7 a).2.1 ≠ (TX7 b).2.1 := by decide +kernel
theorem tyX7_ok : ∀ k, k < 1 → parseFieldDescriptor (TX7 k).2.2.1 = some (tyX7 k) := by decide +kernel
abbrev cX7_init : ByteArray := prog_9_method_1_code
def yX7_init : MethodName := ⟨RX7, "<init>", "(I)V"⟩
abbrev cX7_at : ByteArray := prog_9_method_2_code
def yX7_at : MethodName := ⟨RX7, "at", "(I)I"⟩
abbrev cX7_put : ByteArray := prog_9_method_3_code
def yX7_put : MethodName := ⟨RX7, "put", "(II)V"⟩
abbrev cX7_add : ByteArray := prog_9_method_4_code
def yX7_add : MethodName := ⟨RX7, "add", "(II)V"⟩
abbrev cX7_copy : ByteArray := prog_9_method_6_code
def yX7_copy : MethodName := ⟨RX7, "copy", "(LBellWords$Row;I)V"⟩
def RX8 : String := "BellWords$Tower"
def TX8 : u_T := fun k => match k with
  | 0 => ("BellWords$Tower", "times", "LBellWords$Row;", true)
  | 1 => ("BellWords$Tower", "cellOf", "LBellWords$Row;", true)
  | 2 => ("BellWords$Tower", "strokes", "I", false)
  | 3 => ("BellWords$Tower", "beat", "I", false)
  | 4 => ("BellWords$Tower", "tolerance", "I", false)
  | _ => ("BellWords$Tower", "paused", "Z", false)
def tyX8 : Nat → FieldType := fun k => match k with
  | 0 => .object "BellWords$Row"
  | 1 => .object "BellWords$Row"
  | 2 => .int
  | 3 => .int
  | 4 => .int
  | _ => .boolean
theorem nmX8 : ∀ a, a < 6 → ∀ b, b < 6 → a ≠ b → (TX8 a).2.1 ≠ (TX8 b).2.1 := by decide +kernel
theorem tyX8_ok : ∀ k, k < 6 → parseFieldDescriptor (TX8 k).2.2.1 = some (tyX8 k) := by decide +kernel
abbrev cX8_init : ByteArray := prog_10_method_1_code
def yX8_init : MethodName := ⟨RX8, "<init>", "()V"⟩
abbrev cX8_become : ByteArray := prog_10_method_2_code
def yX8_become : MethodName := ⟨RX8, "become", "(LBellWords$Tower;)V"⟩
abbrev cX8_exchange : ByteArray := prog_10_method_3_code
def yX8_exchange : MethodName := ⟨RX8, "exchange", "(II)V"⟩
abbrev cX8_rowOf : ByteArray := prog_10_method_4_code
def yX8_rowOf : MethodName := ⟨RX8, "rowOf", "(I)I"⟩
abbrev cX8_columnOf : ByteArray := prog_10_method_5_code
def yX8_columnOf : MethodName := ⟨RX8, "columnOf", "(I)I"⟩
abbrev cX8_tablePlace : ByteArray := prog_10_method_6_code
def yX8_tablePlace : MethodName := ⟨RX8, "tablePlace", "(I)I"⟩
abbrev cX8_hasStroke : ByteArray := prog_10_method_7_code
def yX8_hasStroke : MethodName := ⟨RX8, "hasStroke", "(I)Z"⟩
abbrev cX8_isFull : ByteArray := prog_10_method_8_code
def yX8_isFull : MethodName := ⟨RX8, "isFull", "()Z"⟩
abbrev cX8_lastTime : ByteArray := prog_10_method_9_code
def yX8_lastTime : MethodName := ⟨RX8, "lastTime", "()I"⟩
abbrev cX8_strokesAhead : ByteArray := prog_10_method_10_code
def yX8_strokesAhead : MethodName := ⟨RX8, "strokesAhead", "(I)I"⟩
abbrev cX8_hasStrokeAt : ByteArray := prog_10_method_11_code
def yX8_hasStrokeAt : MethodName := ⟨RX8, "hasStrokeAt", "(I)Z"⟩
abbrev cX8_addStroke : ByteArray := prog_10_method_12_code
def yX8_addStroke : MethodName := ⟨RX8, "addStroke", "(I)I"⟩
abbrev cX8_removeStroke : ByteArray := prog_10_method_13_code
def yX8_removeStroke : MethodName := ⟨RX8, "removeStroke", "(I)V"⟩
abbrev cX8_nextTime : ByteArray := prog_10_method_14_code
def yX8_nextTime : MethodName := ⟨RX8, "nextTime", "()I"⟩
abbrev cX8_hasRoomFor : ByteArray := prog_10_method_15_code
def yX8_hasRoomFor : MethodName := ⟨RX8, "hasRoomFor", "(I)Z"⟩
abbrev cX8_ringLetter : ByteArray := prog_10_method_16_code
def yX8_ringLetter : MethodName := ⟨RX8, "ringLetter", "(I)V"⟩
abbrev cX8_ringGroup : ByteArray := prog_10_method_17_code
def yX8_ringGroup : MethodName := ⟨RX8, "ringGroup", "(II)V"⟩
def RX9 : String := "BellWords"
def TX9 : u_T := fun k => match k with
  | 0 => ("BellWords", "tower", "LBellWords$Tower;", true)
  | 1 => ("BellWords", "rehearsal", "LBellWords$Tower;", true)
  | 2 => ("BellWords", "history", "LBellWords$History;", true)
  | 3 => ("BellWords", "reading", "LBellWords$Reading;", true)
  | 4 => ("BellWords", "corrections", "LBellWords$Corrections;", true)
  | 5 => ("BellWords", "ballot", "LBellWords$Ballot;", true)
  | _ => ("BellWords", "orders", "LBellWords$Orders;", true)
def tyX9 : Nat → FieldType := fun k => match k with
  | 0 => .object "BellWords$Tower"
  | 1 => .object "BellWords$Tower"
  | 2 => .object "BellWords$History"
  | 3 => .object "BellWords$Reading"
  | 4 => .object "BellWords$Corrections"
  | 5 => .object "BellWords$Ballot"
  | _ => .object "BellWords$Orders"
theorem nmX9 : ∀ a, a < 7 → ∀ b, b < 7 → a ≠ b → (TX9 a).2.1 ≠ (TX9 b).2.1 := by decide +kernel
theorem tyX9_ok : ∀ k, k < 7 → parseFieldDescriptor (TX9 k).2.2.1 = some (tyX9 k) := by decide +kernel
abbrev cX9_init : ByteArray := prog_1_method_1_code
def yX9_init : MethodName := ⟨RX9, "<init>", "()V"⟩
abbrev cX9_set : ByteArray := prog_1_method_2_code
def yX9_set : MethodName := ⟨RX9, "set", "(II)I"⟩
abbrev cX9_swap : ByteArray := prog_1_method_3_code
def yX9_swap : MethodName := ⟨RX9, "swap", "(II)I"⟩
abbrev cX9_ring : ByteArray := prog_1_method_4_code
def yX9_ring : MethodName := ⟨RX9, "ring", "(I)I"⟩
abbrev cX9_pause : ByteArray := prog_1_method_5_code
def yX9_pause : MethodName := ⟨RX9, "pause", "()I"⟩
abbrev cX9_strike : ByteArray := prog_1_method_6_code
def yX9_strike : MethodName := ⟨RX9, "strike", "(I)I"⟩
abbrev cX9_mute : ByteArray := prog_1_method_7_code
def yX9_mute : MethodName := ⟨RX9, "mute", "(I)I"⟩
abbrev cX9_shift : ByteArray := prog_1_method_8_code
def yX9_shift : MethodName := ⟨RX9, "shift", "(II)I"⟩
abbrev cX9_strokeOf : ByteArray := prog_1_method_9_code
def yX9_strokeOf : MethodName := ⟨RX9, "strokeOf", "(II)I"⟩
abbrev cX9_messageOf : ByteArray := prog_1_method_10_code
def yX9_messageOf : MethodName := ⟨RX9, "messageOf", "(II)I"⟩
abbrev cX9_letterOf : ByteArray := prog_1_method_11_code
def yX9_letterOf : MethodName := ⟨RX9, "letterOf", "(III)I"⟩
abbrev cX9_tableOf : ByteArray := prog_1_method_15_code
def yX9_tableOf : MethodName := ⟨RX9, "tableOf", "(I)I"⟩
abbrev cX9_count : ByteArray := prog_1_method_16_code
def yX9_count : MethodName := ⟨RX9, "count", "(I)I"⟩
abbrev cX9_isLetter : ByteArray := prog_1_method_22_code
def yX9_isLetter : MethodName := ⟨RX9, "isLetter", "(I)Z"⟩
abbrev cX9_orNotFound : ByteArray := prog_1_method_23_code
def yX9_orNotFound : MethodName := ⟨RX9, "orNotFound", "(I)I"⟩
abbrev cX9_countOfState : ByteArray := prog_1_method_24_code
def yX9_countOfState : MethodName := ⟨RX9, "countOfState", "(I)I"⟩
def RX10 : String := "BellWordsModel"
def TX10 : u_T := fun k => match k with
  | _ => ("", "", "", false)
def tyX10 : Nat → FieldType := fun k => match k with
  | _ => .int
theorem nmX10 : ∀ a, a < 0 → ∀ b, b < 0 → a ≠ b → (TX10 a).2.1 ≠ (TX10 b).2.1 := by decide +kernel
theorem tyX10_ok : ∀ k, k < 0 → parseFieldDescriptor (TX10 k).2.2.1 = some (tyX10 k) := by decide +kernel
def RJ9 : String := "java/lang/Math"
def TJ9 : u_T := fun k => match k with
  | _ => ("", "", "", false)
def tyJ9 : Nat → FieldType := fun k => match k with
  | _ => .int
theorem nmJ9 : ∀ a, a < 0 → ∀ b, b < 0 → a ≠ b → (TJ9 a).2.1 ≠ (TJ9 b).2.1 := by decide +kernel
theorem tyJ9_ok : ∀ k, k < 0 → parseFieldDescriptor (TJ9 k).2.2.1 = some (tyJ9 k) := by decide +kernel
abbrev cJ9_floorMod_7cf53 : ByteArray := prog_13_method_50_code
def yJ9_floorMod_7cf53 : MethodName := ⟨RJ9, "floorMod", "(II)I"⟩
def RL : String := "BellWordsLaw"
abbrev cL_cell : ByteArray := method_2_code
def yL_cell : MethodName := ⟨RL, "cell", "([II)I"⟩
abbrev cL_low : ByteArray := method_3_code
def yL_low : MethodName := ⟨RL, "low", "(II)I"⟩
abbrev cL_at : ByteArray := method_4_code
def yL_at : MethodName := ⟨RL, "at", "([III)I"⟩
abbrev cL_kind : ByteArray := method_5_code
def yL_kind : MethodName := ⟨RL, "kind", "([II)I"⟩
abbrev cL_doubt : ByteArray := method_6_code
def yL_doubt : MethodName := ⟨RL, "doubt", "([II)Z"⟩
abbrev cL_read : ByteArray := method_7_code
def yL_read : MethodName := ⟨RL, "read", "([I[I[I[I[I[I[I[I[I)I"⟩
abbrev cL_one : ByteArray := method_8_code
def yL_one : MethodName := ⟨RL, "one", "(I)I"⟩
abbrev cL_two : ByteArray := method_9_code
def yL_two : MethodName := ⟨RL, "two", "(I)I"⟩
abbrev cL_good : ByteArray := method_10_code
def yL_good : MethodName := ⟨RL, "good", "(I)Z"⟩
abbrev cL_letter : ByteArray := method_11_code
def yL_letter : MethodName := ⟨RL, "letter", "([II)I"⟩
abbrev cL_first : ByteArray := method_12_code
def yL_first : MethodName := ⟨RL, "first", "([III)I"⟩
abbrev cL_right : ByteArray := method_13_code
def yL_right : MethodName := ⟨RL, "right", "([I[III)Z"⟩
abbrev cL_put : ByteArray := method_14_code
def yL_put : MethodName := ⟨RL, "put", "([I[II)V"⟩
abbrev cL_place : ByteArray := method_15_code
def yL_place : MethodName := ⟨RL, "place", "([I[II)I"⟩
abbrev cL_mute : ByteArray := method_16_code
def yL_mute : MethodName := ⟨RL, "mute", "([I[II)I"⟩
abbrev cL_ring : ByteArray := method_17_code
def yL_ring : MethodName := ⟨RL, "ring", "([I[I[II)V"⟩
abbrev cL_acts : ByteArray := method_18_code
def yL_acts : MethodName := ⟨RL, "acts", "(LBellWords;[I[I[II)Z"⟩
abbrev cL_isSo : ByteArray := method_19_code
def yL_isSo : MethodName := ⟨RL, "isSo", "(LBellWords;[I[I[I)Z"⟩
abbrev cL_law : ByteArray := code
def yL_law : MethodName := ⟨RL, "law", "([I)Z"⟩
abbrev vwCl : List vw_C := [(RX0, TX0, 4), (RX1, TX1, 5), (RX2, TX2, 3), (RX3, TX3, 6), (RX4, TX4, 8), (RX5, TX5, 4), (RX6, TX6, 9), (RX7, TX7, 1), (RX8, TX8, 6), (RX9, TX9, 7)]

-- ===== PART A: goes FIRST, ahead of the names: the tables' words, and 'selects' of the private methods out of them =====
/-- a private method of a class that the tables say can be made, by its rows of tables_1 -/
def lw_okq (q : MethodName × Nat) : Prop := (q.1.cls ≠ "java/lang/invoke/MethodHandle" ∧ q.1.cls ≠ "java/lang/invoke/VarHandle") ∧ Cond.instantiable q.1.cls q.2 ∈ tables_1 ∧ Cond.privateMethod q.1 ∈ tables_1 ∧ Cond.instanceMethod q.1 ∈ tables_1
theorem lw_p0 : lw_okq (⟨"BellWords$History", "stateAt", "(I)LBellWords$Tower;"⟩, 3) := ⟨⟨by decide +kernel, by decide +kernel⟩, List.mem_of_getElem? (i := 73) (by decide +kernel), List.mem_of_getElem? (i := 321) (by decide +kernel), List.mem_of_getElem? (i := 322) (by decide +kernel)⟩
theorem lw_p1 : lw_okq (⟨"BellWords$Reading", "noteGap", "(IILBellWords$Tower;)V"⟩, 9) := ⟨⟨by decide +kernel, by decide +kernel⟩, List.mem_of_getElem? (i := 93) (by decide +kernel), List.mem_of_getElem? (i := 353) (by decide +kernel), List.mem_of_getElem? (i := 354) (by decide +kernel)⟩
theorem lw_p2 : lw_okq (⟨"BellWords$Reading", "caseOf", "(II)I"⟩, 9) := ⟨⟨by decide +kernel, by decide +kernel⟩, List.mem_of_getElem? (i := 93) (by decide +kernel), List.mem_of_getElem? (i := 357) (by decide +kernel), List.mem_of_getElem? (i := 358) (by decide +kernel)⟩
theorem lw_p3 : lw_okq (⟨"BellWords$Reading", "goOn", "(I)V"⟩, 9) := ⟨⟨by decide +kernel, by decide +kernel⟩, List.mem_of_getElem? (i := 93) (by decide +kernel), List.mem_of_getElem? (i := 361) (by decide +kernel), List.mem_of_getElem? (i := 362) (by decide +kernel)⟩
theorem lw_p4 : lw_okq (⟨"BellWords$Reading", "beginLetter", "()V"⟩, 9) := ⟨⟨by decide +kernel, by decide +kernel⟩, List.mem_of_getElem? (i := 93) (by decide +kernel), List.mem_of_getElem? (i := 383) (by decide +kernel), List.mem_of_getElem? (i := 384) (by decide +kernel)⟩
theorem lw_p5 : lw_okq (⟨"BellWords$Reading", "notePlace", "(I)V"⟩, 9) := ⟨⟨by decide +kernel, by decide +kernel⟩, List.mem_of_getElem? (i := 93) (by decide +kernel), List.mem_of_getElem? (i := 396) (by decide +kernel), List.mem_of_getElem? (i := 397) (by decide +kernel)⟩
theorem lw_p6 : lw_okq (⟨"BellWords$Letters", "letterBy", "(II)I"⟩, 6) := ⟨⟨by decide +kernel, by decide +kernel⟩, List.mem_of_getElem? (i := 99) (by decide +kernel), List.mem_of_getElem? (i := 416) (by decide +kernel), List.mem_of_getElem? (i := 417) (by decide +kernel)⟩
theorem lw_p7 : lw_okq (⟨"BellWords$Reading", "sumUp", "()V"⟩, 9) := ⟨⟨by decide +kernel, by decide +kernel⟩, List.mem_of_getElem? (i := 93) (by decide +kernel), List.mem_of_getElem? (i := 420) (by decide +kernel), List.mem_of_getElem? (i := 421) (by decide +kernel)⟩
theorem lw_p8 : lw_okq (⟨"BellWords$Tower", "nextTime", "()I"⟩, 6) := ⟨⟨by decide +kernel, by decide +kernel⟩, List.mem_of_getElem? (i := 22) (by decide +kernel), List.mem_of_getElem? (i := 466) (by decide +kernel), List.mem_of_getElem? (i := 467) (by decide +kernel)⟩
theorem lw_p9 : lw_okq (⟨"BellWords$Tower", "ringGroup", "(II)V"⟩, 6) := ⟨⟨by decide +kernel, by decide +kernel⟩, List.mem_of_getElem? (i := 22) (by decide +kernel), List.mem_of_getElem? (i := 475) (by decide +kernel), List.mem_of_getElem? (i := 476) (by decide +kernel)⟩
theorem lw_p10 : lw_okq (⟨"BellWords$Corrections", "search", "(LBellWords$Reading;II)V"⟩, 5) := ⟨⟨by decide +kernel, by decide +kernel⟩, List.mem_of_getElem? (i := 217) (by decide +kernel), List.mem_of_getElem? (i := 556) (by decide +kernel), List.mem_of_getElem? (i := 557) (by decide +kernel)⟩
theorem lw_p11 : lw_okq (⟨"BellWords$Corrections", "consider", "(LBellWords$Reading;IIIII)V"⟩, 5) := ⟨⟨by decide +kernel, by decide +kernel⟩, List.mem_of_getElem? (i := 217) (by decide +kernel), List.mem_of_getElem? (i := 561) (by decide +kernel), List.mem_of_getElem? (i := 562) (by decide +kernel)⟩
theorem lw_p12 : lw_okq (⟨"BellWords$Letters", "bitOf", "(I)I"⟩, 6) := ⟨⟨by decide +kernel, by decide +kernel⟩, List.mem_of_getElem? (i := 99) (by decide +kernel), List.mem_of_getElem? (i := 580) (by decide +kernel), List.mem_of_getElem? (i := 581) (by decide +kernel)⟩
theorem lw_p13 : lw_okq (⟨"BellWords$Ballot", "decide", "()V"⟩, 4) := ⟨⟨by decide +kernel, by decide +kernel⟩, List.mem_of_getElem? (i := 243) (by decide +kernel), List.mem_of_getElem? (i := 607) (by decide +kernel), List.mem_of_getElem? (i := 608) (by decide +kernel)⟩
theorem lw_p14 : lw_okq (⟨"BellWords", "rightLetter", "(II)I"⟩, 7) := ⟨⟨by decide +kernel, by decide +kernel⟩, List.mem_of_getElem? (i := 14) (by decide +kernel), List.mem_of_getElem? (i := 621) (by decide +kernel), List.mem_of_getElem? (i := 622) (by decide +kernel)⟩
theorem lw_p15 : lw_okq (⟨"BellWords", "correctedLetter", "(II)I"⟩, 7) := ⟨⟨by decide +kernel, by decide +kernel⟩, List.mem_of_getElem? (i := 14) (by decide +kernel), List.mem_of_getElem? (i := 630) (by decide +kernel), List.mem_of_getElem? (i := 631) (by decide +kernel)⟩
def lw_privs_1 : List (MethodName × Nat) := [(⟨"BellWords$History", "stateAt", "(I)LBellWords$Tower;"⟩, 3), (⟨"BellWords$Reading", "noteGap", "(IILBellWords$Tower;)V"⟩, 9), (⟨"BellWords$Reading", "caseOf", "(II)I"⟩, 9), (⟨"BellWords$Reading", "goOn", "(I)V"⟩, 9), (⟨"BellWords$Reading", "beginLetter", "()V"⟩, 9), (⟨"BellWords$Reading", "notePlace", "(I)V"⟩, 9), (⟨"BellWords$Letters", "letterBy", "(II)I"⟩, 6), (⟨"BellWords$Reading", "sumUp", "()V"⟩, 9), (⟨"BellWords$Tower", "nextTime", "()I"⟩, 6), (⟨"BellWords$Tower", "ringGroup", "(II)V"⟩, 6), (⟨"BellWords$Corrections", "search", "(LBellWords$Reading;II)V"⟩, 5), (⟨"BellWords$Corrections", "consider", "(LBellWords$Reading;IIIII)V"⟩, 5), (⟨"BellWords$Letters", "bitOf", "(I)I"⟩, 6), (⟨"BellWords$Ballot", "decide", "()V"⟩, 4), (⟨"BellWords", "rightLetter", "(II)I"⟩, 7), (⟨"BellWords", "correctedLetter", "(II)I"⟩, 7)]
theorem lw_r1 : ∀ q ∈ lw_privs_1, lw_okq q := List.forall_mem_cons.mpr ⟨lw_p0, List.forall_mem_cons.mpr ⟨lw_p1, List.forall_mem_cons.mpr ⟨lw_p2, List.forall_mem_cons.mpr ⟨lw_p3, List.forall_mem_cons.mpr ⟨lw_p4, List.forall_mem_cons.mpr ⟨lw_p5, List.forall_mem_cons.mpr ⟨lw_p6, List.forall_mem_cons.mpr ⟨lw_p7, List.forall_mem_cons.mpr ⟨lw_p8, List.forall_mem_cons.mpr ⟨lw_p9, List.forall_mem_cons.mpr ⟨lw_p10, List.forall_mem_cons.mpr ⟨lw_p11, List.forall_mem_cons.mpr ⟨lw_p12, List.forall_mem_cons.mpr ⟨lw_p13, List.forall_mem_cons.mpr ⟨lw_p14, List.forall_mem_cons.mpr ⟨lw_p15, fun _ h => absurd h List.not_mem_nil⟩⟩⟩⟩⟩⟩⟩⟩⟩⟩⟩⟩⟩⟩⟩⟩
theorem lw_p16 : lw_okq (⟨"BellWords", "votedLetter", "(I)I"⟩, 7) := ⟨⟨by decide +kernel, by decide +kernel⟩, List.mem_of_getElem? (i := 14) (by decide +kernel), List.mem_of_getElem? (i := 634) (by decide +kernel), List.mem_of_getElem? (i := 635) (by decide +kernel)⟩
theorem lw_p17 : lw_okq (⟨"BellWords", "countOfState", "(I)I"⟩, 7) := ⟨⟨by decide +kernel, by decide +kernel⟩, List.mem_of_getElem? (i := 14) (by decide +kernel), List.mem_of_getElem? (i := 655) (by decide +kernel), List.mem_of_getElem? (i := 656) (by decide +kernel)⟩
theorem lw_p18 : lw_okq (⟨"BellWords$Orders", "performOne", "(LBellWords$Tower;I)I"⟩, 4) := ⟨⟨by decide +kernel, by decide +kernel⟩, List.mem_of_getElem? (i := 267) (by decide +kernel), List.mem_of_getElem? (i := 694) (by decide +kernel), List.mem_of_getElem? (i := 695) (by decide +kernel)⟩
theorem lw_p19 : lw_okq (⟨"BellWords$Orders", "ringAll", "(LBellWords$Tower;IZ)I"⟩, 4) := ⟨⟨by decide +kernel, by decide +kernel⟩, List.mem_of_getElem? (i := 267) (by decide +kernel), List.mem_of_getElem? (i := 698) (by decide +kernel), List.mem_of_getElem? (i := 699) (by decide +kernel)⟩
theorem lw_p20 : lw_okq (⟨"BellWords$Orders", "hasLettersUpTo", "(I)Z"⟩, 4) := ⟨⟨by decide +kernel, by decide +kernel⟩, List.mem_of_getElem? (i := 267) (by decide +kernel), List.mem_of_getElem? (i := 702) (by decide +kernel), List.mem_of_getElem? (i := 703) (by decide +kernel)⟩
theorem lw_p21 : lw_okq (⟨"BellWords$Orders", "setPause", "(LBellWords$Tower;I)I"⟩, 4) := ⟨⟨by decide +kernel, by decide +kernel⟩, List.mem_of_getElem? (i := 267) (by decide +kernel), List.mem_of_getElem? (i := 709) (by decide +kernel), List.mem_of_getElem? (i := 710) (by decide +kernel)⟩
theorem lw_p22 : lw_okq (⟨"BellWords$Orders", "numberUpTo", "(I)I"⟩, 4) := ⟨⟨by decide +kernel, by decide +kernel⟩, List.mem_of_getElem? (i := 267) (by decide +kernel), List.mem_of_getElem? (i := 713) (by decide +kernel), List.mem_of_getElem? (i := 714) (by decide +kernel)⟩
theorem lw_p23 : lw_okq (⟨"BellWords$Orders", "muteOne", "(LBellWords$Tower;I)I"⟩, 4) := ⟨⟨by decide +kernel, by decide +kernel⟩, List.mem_of_getElem? (i := 267) (by decide +kernel), List.mem_of_getElem? (i := 717) (by decide +kernel), List.mem_of_getElem? (i := 718) (by decide +kernel)⟩
theorem lw_p24 : lw_okq (⟨"BellWords$Orders", "strikeOne", "(LBellWords$Tower;I)I"⟩, 4) := ⟨⟨by decide +kernel, by decide +kernel⟩, List.mem_of_getElem? (i := 267) (by decide +kernel), List.mem_of_getElem? (i := 723) (by decide +kernel), List.mem_of_getElem? (i := 724) (by decide +kernel)⟩
theorem lw_p25 : lw_okq (⟨"BellWordsModel", "changes", "()V"⟩, 25) := ⟨⟨by decide +kernel, by decide +kernel⟩, List.mem_of_getElem? (i := 735) (by decide +kernel), List.mem_of_getElem? (i := 825) (by decide +kernel), List.mem_of_getElem? (i := 826) (by decide +kernel)⟩
theorem lw_p26 : lw_okq (⟨"BellWordsModel", "toldPlace", "(I)I"⟩, 25) := ⟨⟨by decide +kernel, by decide +kernel⟩, List.mem_of_getElem? (i := 735) (by decide +kernel), List.mem_of_getElem? (i := 836) (by decide +kernel), List.mem_of_getElem? (i := 837) (by decide +kernel)⟩
theorem lw_p27 : lw_okq (⟨"BellWordsModel", "isRoom", "(I)Z"⟩, 25) := ⟨⟨by decide +kernel, by decide +kernel⟩, List.mem_of_getElem? (i := 735) (by decide +kernel), List.mem_of_getElem? (i := 850) (by decide +kernel), List.mem_of_getElem? (i := 851) (by decide +kernel)⟩
theorem lw_p28 : lw_okq (⟨"BellWordsModel", "begin", "()I"⟩, 25) := ⟨⟨by decide +kernel, by decide +kernel⟩, List.mem_of_getElem? (i := 735) (by decide +kernel), List.mem_of_getElem? (i := 854) (by decide +kernel), List.mem_of_getElem? (i := 855) (by decide +kernel)⟩
theorem lw_p29 : lw_okq (⟨"BellWordsModel", "rings", "(I)V"⟩, 25) := ⟨⟨by decide +kernel, by decide +kernel⟩, List.mem_of_getElem? (i := 735) (by decide +kernel), List.mem_of_getElem? (i := 859) (by decide +kernel), List.mem_of_getElem? (i := 860) (by decide +kernel)⟩
theorem lw_p30 : lw_okq (⟨"BellWordsModel", "isThere", "(I)Z"⟩, 25) := ⟨⟨by decide +kernel, by decide +kernel⟩, List.mem_of_getElem? (i := 735) (by decide +kernel), List.mem_of_getElem? (i := 872) (by decide +kernel), List.mem_of_getElem? (i := 873) (by decide +kernel)⟩
theorem lw_p31 : lw_okq (⟨"BellWordsModel", "placeOf", "(I)I"⟩, 25) := ⟨⟨by decide +kernel, by decide +kernel⟩, List.mem_of_getElem? (i := 735) (by decide +kernel), List.mem_of_getElem? (i := 876) (by decide +kernel), List.mem_of_getElem? (i := 877) (by decide +kernel)⟩
def lw_privs_2 : List (MethodName × Nat) := [(⟨"BellWords", "votedLetter", "(I)I"⟩, 7), (⟨"BellWords", "countOfState", "(I)I"⟩, 7), (⟨"BellWords$Orders", "performOne", "(LBellWords$Tower;I)I"⟩, 4), (⟨"BellWords$Orders", "ringAll", "(LBellWords$Tower;IZ)I"⟩, 4), (⟨"BellWords$Orders", "hasLettersUpTo", "(I)Z"⟩, 4), (⟨"BellWords$Orders", "setPause", "(LBellWords$Tower;I)I"⟩, 4), (⟨"BellWords$Orders", "numberUpTo", "(I)I"⟩, 4), (⟨"BellWords$Orders", "muteOne", "(LBellWords$Tower;I)I"⟩, 4), (⟨"BellWords$Orders", "strikeOne", "(LBellWords$Tower;I)I"⟩, 4), (⟨"BellWordsModel", "changes", "()V"⟩, 25), (⟨"BellWordsModel", "toldPlace", "(I)I"⟩, 25), (⟨"BellWordsModel", "isRoom", "(I)Z"⟩, 25), (⟨"BellWordsModel", "begin", "()I"⟩, 25), (⟨"BellWordsModel", "rings", "(I)V"⟩, 25), (⟨"BellWordsModel", "isThere", "(I)Z"⟩, 25), (⟨"BellWordsModel", "placeOf", "(I)I"⟩, 25)]
theorem lw_r2 : ∀ q ∈ lw_privs_2, lw_okq q := List.forall_mem_cons.mpr ⟨lw_p16, List.forall_mem_cons.mpr ⟨lw_p17, List.forall_mem_cons.mpr ⟨lw_p18, List.forall_mem_cons.mpr ⟨lw_p19, List.forall_mem_cons.mpr ⟨lw_p20, List.forall_mem_cons.mpr ⟨lw_p21, List.forall_mem_cons.mpr ⟨lw_p22, List.forall_mem_cons.mpr ⟨lw_p23, List.forall_mem_cons.mpr ⟨lw_p24, List.forall_mem_cons.mpr ⟨lw_p25, List.forall_mem_cons.mpr ⟨lw_p26, List.forall_mem_cons.mpr ⟨lw_p27, List.forall_mem_cons.mpr ⟨lw_p28, List.forall_mem_cons.mpr ⟨lw_p29, List.forall_mem_cons.mpr ⟨lw_p30, List.forall_mem_cons.mpr ⟨lw_p31, fun _ h => absurd h List.not_mem_nil⟩⟩⟩⟩⟩⟩⟩⟩⟩⟩⟩⟩⟩⟩⟩⟩
theorem lw_p32 : lw_okq (⟨"BellWordsModel", "puts", "(I)I"⟩, 25) := ⟨⟨by decide +kernel, by decide +kernel⟩, List.mem_of_getElem? (i := 735) (by decide +kernel), List.mem_of_getElem? (i := 880) (by decide +kernel), List.mem_of_getElem? (i := 881) (by decide +kernel)⟩
theorem lw_p33 : lw_okq (⟨"BellWordsModel", "isStroke", "(I)Z"⟩, 25) := ⟨⟨by decide +kernel, by decide +kernel⟩, List.mem_of_getElem? (i := 735) (by decide +kernel), List.mem_of_getElem? (i := 888) (by decide +kernel), List.mem_of_getElem? (i := 889) (by decide +kernel)⟩
theorem lw_p34 : lw_okq (⟨"BellWordsModel", "takes", "(I)I"⟩, 25) := ⟨⟨by decide +kernel, by decide +kernel⟩, List.mem_of_getElem? (i := 735) (by decide +kernel), List.mem_of_getElem? (i := 892) (by decide +kernel), List.mem_of_getElem? (i := 893) (by decide +kernel)⟩
theorem lw_p35 : lw_okq (⟨"BellWordsModel", "lays", "()V"⟩, 25) := ⟨⟨by decide +kernel, by decide +kernel⟩, List.mem_of_getElem? (i := 735) (by decide +kernel), List.mem_of_getElem? (i := 904) (by decide +kernel), List.mem_of_getElem? (i := 905) (by decide +kernel)⟩
theorem lw_p36 : lw_okq (⟨"BellWordsModel", "caseOf", "(I)I"⟩, 25) := ⟨⟨by decide +kernel, by decide +kernel⟩, List.mem_of_getElem? (i := 735) (by decide +kernel), List.mem_of_getElem? (i := 908) (by decide +kernel), List.mem_of_getElem? (i := 909) (by decide +kernel)⟩
theorem lw_p37 : lw_okq (⟨"BellWordsModel", "goesOn", "(II)V"⟩, 25) := ⟨⟨by decide +kernel, by decide +kernel⟩, List.mem_of_getElem? (i := 735) (by decide +kernel), List.mem_of_getElem? (i := 912) (by decide +kernel), List.mem_of_getElem? (i := 913) (by decide +kernel)⟩
theorem lw_p38 : lw_okq (⟨"BellWordsModel", "counts", "(I)V"⟩, 25) := ⟨⟨by decide +kernel, by decide +kernel⟩, List.mem_of_getElem? (i := 735) (by decide +kernel), List.mem_of_getElem? (i := 916) (by decide +kernel), List.mem_of_getElem? (i := 917) (by decide +kernel)⟩
theorem lw_p39 : lw_okq (⟨"BellWordsModel", "isDoubtful", "(I)Z"⟩, 25) := ⟨⟨by decide +kernel, by decide +kernel⟩, List.mem_of_getElem? (i := 735) (by decide +kernel), List.mem_of_getElem? (i := 920) (by decide +kernel), List.mem_of_getElem? (i := 921) (by decide +kernel)⟩
theorem lw_p40 : lw_okq (⟨"BellWordsModel", "isMessage", "(I)Z"⟩, 25) := ⟨⟨by decide +kernel, by decide +kernel⟩, List.mem_of_getElem? (i := 735) (by decide +kernel), List.mem_of_getElem? (i := 929) (by decide +kernel), List.mem_of_getElem? (i := 930) (by decide +kernel)⟩
theorem lw_p41 : lw_okq (⟨"BellWordsModel", "longOf", "(I)I"⟩, 25) := ⟨⟨by decide +kernel, by decide +kernel⟩, List.mem_of_getElem? (i := 735) (by decide +kernel), List.mem_of_getElem? (i := 933) (by decide +kernel), List.mem_of_getElem? (i := 934) (by decide +kernel)⟩
theorem lw_p42 : lw_okq (⟨"BellWordsModel", "unreadable", "(I)I"⟩, 25) := ⟨⟨by decide +kernel, by decide +kernel⟩, List.mem_of_getElem? (i := 735) (by decide +kernel), List.mem_of_getElem? (i := 937) (by decide +kernel), List.mem_of_getElem? (i := 938) (by decide +kernel)⟩
theorem lw_p43 : lw_okq (⟨"BellWordsModel", "isReadable", "(I)Z"⟩, 25) := ⟨⟨by decide +kernel, by decide +kernel⟩, List.mem_of_getElem? (i := 735) (by decide +kernel), List.mem_of_getElem? (i := 941) (by decide +kernel), List.mem_of_getElem? (i := 942) (by decide +kernel)⟩
theorem lw_p44 : lw_okq (⟨"BellWordsModel", "isRight", "(III)Z"⟩, 25) := ⟨⟨by decide +kernel, by decide +kernel⟩, List.mem_of_getElem? (i := 735) (by decide +kernel), List.mem_of_getElem? (i := 948) (by decide +kernel), List.mem_of_getElem? (i := 949) (by decide +kernel)⟩
theorem lw_p45 : lw_okq (⟨"BellWordsModel", "read0", "(I)I"⟩, 25) := ⟨⟨by decide +kernel, by decide +kernel⟩, List.mem_of_getElem? (i := 735) (by decide +kernel), List.mem_of_getElem? (i := 952) (by decide +kernel), List.mem_of_getElem? (i := 953) (by decide +kernel)⟩
theorem lw_p46 : lw_okq (⟨"BellWordsModel", "letterAt", "(II)I"⟩, 25) := ⟨⟨by decide +kernel, by decide +kernel⟩, List.mem_of_getElem? (i := 735) (by decide +kernel), List.mem_of_getElem? (i := 956) (by decide +kernel), List.mem_of_getElem? (i := 957) (by decide +kernel)⟩
theorem lw_p47 : lw_okq (⟨"BellWordsModel", "corrections", "(II)I"⟩, 25) := ⟨⟨by decide +kernel, by decide +kernel⟩, List.mem_of_getElem? (i := 735) (by decide +kernel), List.mem_of_getElem? (i := 960) (by decide +kernel), List.mem_of_getElem? (i := 961) (by decide +kernel)⟩
def lw_privs_3 : List (MethodName × Nat) := [(⟨"BellWordsModel", "puts", "(I)I"⟩, 25), (⟨"BellWordsModel", "isStroke", "(I)Z"⟩, 25), (⟨"BellWordsModel", "takes", "(I)I"⟩, 25), (⟨"BellWordsModel", "lays", "()V"⟩, 25), (⟨"BellWordsModel", "caseOf", "(I)I"⟩, 25), (⟨"BellWordsModel", "goesOn", "(II)V"⟩, 25), (⟨"BellWordsModel", "counts", "(I)V"⟩, 25), (⟨"BellWordsModel", "isDoubtful", "(I)Z"⟩, 25), (⟨"BellWordsModel", "isMessage", "(I)Z"⟩, 25), (⟨"BellWordsModel", "longOf", "(I)I"⟩, 25), (⟨"BellWordsModel", "unreadable", "(I)I"⟩, 25), (⟨"BellWordsModel", "isReadable", "(I)Z"⟩, 25), (⟨"BellWordsModel", "isRight", "(III)Z"⟩, 25), (⟨"BellWordsModel", "read0", "(I)I"⟩, 25), (⟨"BellWordsModel", "letterAt", "(II)I"⟩, 25), (⟨"BellWordsModel", "corrections", "(II)I"⟩, 25)]
theorem lw_r3 : ∀ q ∈ lw_privs_3, lw_okq q := List.forall_mem_cons.mpr ⟨lw_p32, List.forall_mem_cons.mpr ⟨lw_p33, List.forall_mem_cons.mpr ⟨lw_p34, List.forall_mem_cons.mpr ⟨lw_p35, List.forall_mem_cons.mpr ⟨lw_p36, List.forall_mem_cons.mpr ⟨lw_p37, List.forall_mem_cons.mpr ⟨lw_p38, List.forall_mem_cons.mpr ⟨lw_p39, List.forall_mem_cons.mpr ⟨lw_p40, List.forall_mem_cons.mpr ⟨lw_p41, List.forall_mem_cons.mpr ⟨lw_p42, List.forall_mem_cons.mpr ⟨lw_p43, List.forall_mem_cons.mpr ⟨lw_p44, List.forall_mem_cons.mpr ⟨lw_p45, List.forall_mem_cons.mpr ⟨lw_p46, List.forall_mem_cons.mpr ⟨lw_p47, fun _ h => absurd h List.not_mem_nil⟩⟩⟩⟩⟩⟩⟩⟩⟩⟩⟩⟩⟩⟩⟩⟩
theorem lw_p48 : lw_okq (⟨"BellWordsModel", "moreOf", "(I)I"⟩, 25) := ⟨⟨by decide +kernel, by decide +kernel⟩, List.mem_of_getElem? (i := 735) (by decide +kernel), List.mem_of_getElem? (i := 968) (by decide +kernel), List.mem_of_getElem? (i := 969) (by decide +kernel)⟩
theorem lw_p49 : lw_okq (⟨"BellWordsModel", "voted", "(I)I"⟩, 25) := ⟨⟨by decide +kernel, by decide +kernel⟩, List.mem_of_getElem? (i := 735) (by decide +kernel), List.mem_of_getElem? (i := 980) (by decide +kernel), List.mem_of_getElem? (i := 981) (by decide +kernel)⟩
theorem lw_p50 : lw_okq (⟨"BellWordsModel", "readBy", "(IIZ)I"⟩, 25) := ⟨⟨by decide +kernel, by decide +kernel⟩, List.mem_of_getElem? (i := 735) (by decide +kernel), List.mem_of_getElem? (i := 988) (by decide +kernel), List.mem_of_getElem? (i := 989) (by decide +kernel)⟩
theorem lw_p51 : lw_okq (⟨"BellWordsModel", "sums", "(I)I"⟩, 25) := ⟨⟨by decide +kernel, by decide +kernel⟩, List.mem_of_getElem? (i := 735) (by decide +kernel), List.mem_of_getElem? (i := 1000) (by decide +kernel), List.mem_of_getElem? (i := 1001) (by decide +kernel)⟩
theorem lw_p52 : lw_okq (⟨"BellWordsModel", "holds", "()V"⟩, 25) := ⟨⟨by decide +kernel, by decide +kernel⟩, List.mem_of_getElem? (i := 735) (by decide +kernel), List.mem_of_getElem? (i := 1020) (by decide +kernel), List.mem_of_getElem? (i := 1021) (by decide +kernel)⟩
theorem lw_p53 : lw_okq (⟨"BellWordsModel", "goes", "()I"⟩, 25) := ⟨⟨by decide +kernel, by decide +kernel⟩, List.mem_of_getElem? (i := 735) (by decide +kernel), List.mem_of_getElem? (i := 1024) (by decide +kernel), List.mem_of_getElem? (i := 1025) (by decide +kernel)⟩
theorem lw_p54 : lw_okq (⟨"BellWordsModel", "does", "()I"⟩, 25) := ⟨⟨by decide +kernel, by decide +kernel⟩, List.mem_of_getElem? (i := 735) (by decide +kernel), List.mem_of_getElem? (i := 1028) (by decide +kernel), List.mem_of_getElem? (i := 1029) (by decide +kernel)⟩
theorem lw_p55 : lw_okq (⟨"BellWordsModel", "isAt", "(II)Z"⟩, 25) := ⟨⟨by decide +kernel, by decide +kernel⟩, List.mem_of_getElem? (i := 735) (by decide +kernel), List.mem_of_getElem? (i := 1032) (by decide +kernel), List.mem_of_getElem? (i := 1033) (by decide +kernel)⟩
theorem lw_p56 : lw_okq (⟨"BellWordsModel", "ringsAll", "(IIZ)I"⟩, 25) := ⟨⟨by decide +kernel, by decide +kernel⟩, List.mem_of_getElem? (i := 735) (by decide +kernel), List.mem_of_getElem? (i := 1036) (by decide +kernel), List.mem_of_getElem? (i := 1037) (by decide +kernel)⟩
theorem lw_p57 : lw_okq (⟨"BellWordsModel", "ringsOne", "(I)I"⟩, 25) := ⟨⟨by decide +kernel, by decide +kernel⟩, List.mem_of_getElem? (i := 735) (by decide +kernel), List.mem_of_getElem? (i := 1040) (by decide +kernel), List.mem_of_getElem? (i := 1041) (by decide +kernel)⟩
theorem lw_p58 : lw_okq (⟨"BellWordsModel", "lets", "()V"⟩, 25) := ⟨⟨by decide +kernel, by decide +kernel⟩, List.mem_of_getElem? (i := 735) (by decide +kernel), List.mem_of_getElem? (i := 1044) (by decide +kernel), List.mem_of_getElem? (i := 1045) (by decide +kernel)⟩
def lw_privs_4 : List (MethodName × Nat) := [(⟨"BellWordsModel", "moreOf", "(I)I"⟩, 25), (⟨"BellWordsModel", "voted", "(I)I"⟩, 25), (⟨"BellWordsModel", "readBy", "(IIZ)I"⟩, 25), (⟨"BellWordsModel", "sums", "(I)I"⟩, 25), (⟨"BellWordsModel", "holds", "()V"⟩, 25), (⟨"BellWordsModel", "goes", "()I"⟩, 25), (⟨"BellWordsModel", "does", "()I"⟩, 25), (⟨"BellWordsModel", "isAt", "(II)Z"⟩, 25), (⟨"BellWordsModel", "ringsAll", "(IIZ)I"⟩, 25), (⟨"BellWordsModel", "ringsOne", "(I)I"⟩, 25), (⟨"BellWordsModel", "lets", "()V"⟩, 25)]
theorem lw_r4 : ∀ q ∈ lw_privs_4, lw_okq q := List.forall_mem_cons.mpr ⟨lw_p48, List.forall_mem_cons.mpr ⟨lw_p49, List.forall_mem_cons.mpr ⟨lw_p50, List.forall_mem_cons.mpr ⟨lw_p51, List.forall_mem_cons.mpr ⟨lw_p52, List.forall_mem_cons.mpr ⟨lw_p53, List.forall_mem_cons.mpr ⟨lw_p54, List.forall_mem_cons.mpr ⟨lw_p55, List.forall_mem_cons.mpr ⟨lw_p56, List.forall_mem_cons.mpr ⟨lw_p57, List.forall_mem_cons.mpr ⟨lw_p58, fun _ h => absurd h List.not_mem_nil⟩⟩⟩⟩⟩⟩⟩⟩⟩⟩⟩
def lw_privs : List (MethodName × Nat) := lw_privs_1 ++ (lw_privs_2 ++ (lw_privs_3 ++ (lw_privs_4)))
def lw_tbl : List Cond := k2_sels lw_privs ++ tables_1
theorem lw_privs_ok : ∀ q ∈ lw_privs, lw_okq q := by
  show ∀ q ∈ lw_privs_1 ++ (lw_privs_2 ++ (lw_privs_3 ++ (lw_privs_4))), lw_okq q
  exact List.forall_mem_append.mpr ⟨lw_r1, List.forall_mem_append.mpr ⟨lw_r2, List.forall_mem_append.mpr ⟨lw_r3, lw_r4⟩⟩⟩

def RX0 : String := "BellWords$Ballot"
def TX0 : u_T := fun k => match k with
  | 0 => ("BellWords$Ballot", "votes", "LBellWords$Row;", true)
  | 1 => ("BellWords$Ballot", "winner", "I", false)
  | 2 => ("BellWords$Ballot", "most", "I", false)
  | _ => ("BellWords$Ballot", "doubtful", "Z", false)
def tyX0 : Nat → FieldType := fun k => match k with
  | 0 => .object "BellWords$Row"
  | 1 => .int
  | 2 => .int
  | _ => .boolean
theorem nmX0 : ∀ a, a < 4 → ∀ b, b < 4 → a ≠ b → (TX0 a).2.1 ≠ (TX0 b).2.1 := by decide +kernel
theorem tyX0_ok : ∀ k, k < 4 → parseFieldDescriptor (TX0 k).2.2.1 = some (tyX0 k) := by decide +kernel
abbrev cX0_init : ByteArray := prog_2_method_1_code
def yX0_init : MethodName := ⟨RX0, "<init>", "()V"⟩
abbrev cX0_poll : ByteArray := prog_2_method_2_code
def yX0_poll : MethodName := ⟨RX0, "poll", "(LBellWords$Reading;I)V"⟩
abbrev cX0_decide : ByteArray := prog_2_method_3_code
def yX0_decide : MethodName := ⟨RX0, "decide", "()V"⟩
def RX1 : String := "BellWords$Corrections"
def TX1 : u_T := fun k => match k with
  | 0 => ("BellWords$Corrections", "place", "I", false)
  | 1 => ("BellWords$Corrections", "group", "I", false)
  | 2 => ("BellWords$Corrections", "step", "I", false)
  | 3 => ("BellWords$Corrections", "letter", "I", false)
  | _ => ("BellWords$Corrections", "found", "I", false)
def tyX1 : Nat → FieldType := fun k => match k with
  | 0 => .int
  | 1 => .int
  | 2 => .int
  | 3 => .int
  | _ => .int
theorem nmX1 : ∀ a, a < 5 → ∀ b, b < 5 → a ≠ b → (TX1 a).2.1 ≠ (TX1 b).2.1 := by decide +kernel
theorem tyX1_ok : ∀ k, k < 5 → parseFieldDescriptor (TX1 k).2.2.1 = some (tyX1 k) := by decide +kernel
abbrev cX1_init : ByteArray := prog_3_method_1_code
def yX1_init : MethodName := ⟨RX1, "<init>", "()V"⟩
abbrev cX1_fitting : ByteArray := prog_3_method_2_code
def yX1_fitting : MethodName := ⟨RX1, "fitting", "(LBellWords$Reading;I)I"⟩
abbrev cX1_find : ByteArray := prog_3_method_3_code
def yX1_find : MethodName := ⟨RX1, "find", "(LBellWords$Reading;II)Z"⟩
abbrev cX1_firstClear : ByteArray := prog_3_method_4_code
def yX1_firstClear : MethodName := ⟨RX1, "firstClear", "(LBellWords$Reading;)I"⟩
abbrev cX1_search : ByteArray := prog_3_method_5_code
def yX1_search : MethodName := ⟨RX1, "search", "(LBellWords$Reading;II)V"⟩
abbrev cX1_consider : ByteArray := prog_3_method_6_code
def yX1_consider : MethodName := ⟨RX1, "consider", "(LBellWords$Reading;IIIII)V"⟩
def RX2 : String := "BellWords$History"
def TX2 : u_T := fun k => match k with
  | 0 => ("BellWords$History", "slots", "[LBellWords$Tower;", true)
  | 1 => ("BellWords$History", "oldest", "I", false)
  | _ => ("BellWords$History", "size", "I", false)
def tyX2 : Nat → FieldType := fun k => match k with
  | 0 => .array (.object "BellWords$Tower")
  | 1 => .int
  | _ => .int
theorem nmX2 : ∀ a, a < 3 → ∀ b, b < 3 → a ≠ b → (TX2 a).2.1 ≠ (TX2 b).2.1 := by decide +kernel
theorem tyX2_ok : ∀ k, k < 3 → parseFieldDescriptor (TX2 k).2.2.1 = some (tyX2 k) := by decide +kernel
abbrev cX2_init : ByteArray := prog_4_method_1_code
def yX2_init : MethodName := ⟨RX2, "<init>", "()V"⟩
abbrev cX2_record : ByteArray := prog_4_method_2_code
def yX2_record : MethodName := ⟨RX2, "record", "(LBellWords$Tower;)V"⟩
abbrev cX2_restore : ByteArray := prog_4_method_3_code
def yX2_restore : MethodName := ⟨RX2, "restore", "(LBellWords$Tower;)V"⟩
abbrev cX2_stateAt : ByteArray := prog_4_method_4_code
def yX2_stateAt : MethodName := ⟨RX2, "stateAt", "(I)LBellWords$Tower;"⟩
def RX3 : String := "BellWords$Letters"
def TX3 : u_T := fun k => match k with
  | 0 => ("BellWords$Letters", "groups", "LBellWords$Row;", true)
  | 1 => ("BellWords$Letters", "firstCounts", "LBellWords$Row;", true)
  | 2 => ("BellWords$Letters", "secondCounts", "LBellWords$Row;", true)
  | 3 => ("BellWords$Letters", "values", "LBellWords$Row;", true)
  | 4 => ("BellWords$Letters", "letterOfCell", "LBellWords$Row;", true)
  | _ => ("BellWords$Letters", "number", "I", false)
def tyX3 : Nat → FieldType := fun k => match k with
  | 0 => .object "BellWords$Row"
  | 1 => .object "BellWords$Row"
  | 2 => .object "BellWords$Row"
  | 3 => .object "BellWords$Row"
  | 4 => .object "BellWords$Row"
  | _ => .int
theorem nmX3 : ∀ a, a < 6 → ∀ b, b < 6 → a ≠ b → (TX3 a).2.1 ≠ (TX3 b).2.1 := by decide +kernel
theorem tyX3_ok : ∀ k, k < 6 → parseFieldDescriptor (TX3 k).2.2.1 = some (tyX3 k) := by decide +kernel
abbrev cX3_init : ByteArray := prog_5_method_1_code
def yX3_init : MethodName := ⟨RX3, "<init>", "()V"⟩
abbrev cX3_restart : ByteArray := prog_5_method_2_code
def yX3_restart : MethodName := ⟨RX3, "restart", "(LBellWords$Tower;)V"⟩
abbrev cX3_begin : ByteArray := prog_5_method_3_code
def yX3_begin : MethodName := ⟨RX3, "begin", "()V"⟩
abbrev cX3_beginGroup : ByteArray := prog_5_method_4_code
def yX3_beginGroup : MethodName := ⟨RX3, "beginGroup", "()V"⟩
abbrev cX3_lengthen : ByteArray := prog_5_method_5_code
def yX3_lengthen : MethodName := ⟨RX3, "lengthen", "(I)V"⟩
abbrev cX3_settle : ByteArray := prog_5_method_6_code
def yX3_settle : MethodName := ⟨RX3, "settle", "()V"⟩
abbrev cX3_letterWith : ByteArray := prog_5_method_7_code
def yX3_letterWith : MethodName := ⟨RX3, "letterWith", "(III)I"⟩
abbrev cX3_withOneMore : ByteArray := prog_5_method_8_code
def yX3_withOneMore : MethodName := ⟨RX3, "withOneMore", "(I)I"⟩
abbrev cX3_bitOf : ByteArray := prog_5_method_9_code
def yX3_bitOf : MethodName := ⟨RX3, "bitOf", "(I)I"⟩
abbrev cX3_letterBy : ByteArray := prog_5_method_10_code
def yX3_letterBy : MethodName := ⟨RX3, "letterBy", "(II)I"⟩
def RX4 : String := "BellWords$Messages"
def TX4 : u_T := fun k => match k with
  | 0 => ("BellWords$Messages", "firstStrokes", "LBellWords$Row;", true)
  | 1 => ("BellWords$Messages", "firstLetters", "LBellWords$Row;", true)
  | 2 => ("BellWords$Messages", "lengths", "LBellWords$Row;", true)
  | 3 => ("BellWords$Messages", "placed", "LBellWords$Row;", true)
  | 4 => ("BellWords$Messages", "doubtful", "LBellWords$Row;", true)
  | 5 => ("BellWords$Messages", "unreadable", "LBellWords$Row;", true)
  | 6 => ("BellWords$Messages", "sums", "LBellWords$Row;", true)
  | _ => ("BellWords$Messages", "number", "I", false)
def tyX4 : Nat → FieldType := fun k => match k with
  | 0 => .object "BellWords$Row"
  | 1 => .object "BellWords$Row"
  | 2 => .object "BellWords$Row"
  | 3 => .object "BellWords$Row"
  | 4 => .object "BellWords$Row"
  | 5 => .object "BellWords$Row"
  | 6 => .object "BellWords$Row"
  | _ => .int
theorem nmX4 : ∀ a, a < 8 → ∀ b, b < 8 → a ≠ b → (TX4 a).2.1 ≠ (TX4 b).2.1 := by decide +kernel
theorem tyX4_ok : ∀ k, k < 8 → parseFieldDescriptor (TX4 k).2.2.1 = some (tyX4 k) := by decide +kernel
abbrev cX4_init : ByteArray := prog_6_method_1_code
def yX4_init : MethodName := ⟨RX4, "<init>", "()V"⟩
abbrev cX4_begin : ByteArray := prog_6_method_2_code
def yX4_begin : MethodName := ⟨RX4, "begin", "(II)V"⟩
abbrev cX4_addTo : ByteArray := prog_6_method_3_code
def yX4_addTo : MethodName := ⟨RX4, "addTo", "(LBellWords$Row;)V"⟩
abbrev cX4_totalOf : ByteArray := prog_6_method_4_code
def yX4_totalOf : MethodName := ⟨RX4, "totalOf", "(LBellWords$Row;)I"⟩
def RX5 : String := "BellWords$Orders"
def TX5 : u_T := fun k => match k with
  | 0 => ("BellWords$Orders", "signs", "LBellWords$Row;", true)
  | 1 => ("BellWords$Orders", "length", "I", false)
  | 2 => ("BellWords$Orders", "start", "I", false)
  | _ => ("BellWords$Orders", "reason", "I", false)
def tyX5 : Nat → FieldType := fun k => match k with
  | 0 => .object "BellWords$Row"
  | 1 => .int
  | 2 => .int
  | _ => .int
theorem nmX5 : ∀ a, a < 4 → ∀ b, b < 4 → a ≠ b → (TX5 a).2.1 ≠ (TX5 b).2.1 := by decide +kernel
theorem tyX5_ok : ∀ k, k < 4 → parseFieldDescriptor (TX5 k).2.2.1 = some (tyX5 k) := by decide +kernel
abbrev cX5_init : ByteArray := prog_7_method_1_code
def yX5_init : MethodName := ⟨RX5, "<init>", "()V"⟩
abbrev cX5_append : ByteArray := prog_7_method_2_code
def yX5_append : MethodName := ⟨RX5, "append", "(I)V"⟩
abbrev cX5_rehearse : ByteArray := prog_7_method_3_code
def yX5_rehearse : MethodName := ⟨RX5, "rehearse", "(LBellWords$Tower;LBellWords$Tower;)V"⟩
abbrev cX5_performOne : ByteArray := prog_7_method_4_code
def yX5_performOne : MethodName := ⟨RX5, "performOne", "(LBellWords$Tower;I)I"⟩
abbrev cX5_ringAll : ByteArray := prog_7_method_5_code
def yX5_ringAll : MethodName := ⟨RX5, "ringAll", "(LBellWords$Tower;IZ)I"⟩
abbrev cX5_setPause : ByteArray := prog_7_method_6_code
def yX5_setPause : MethodName := ⟨RX5, "setPause", "(LBellWords$Tower;I)I"⟩
abbrev cX5_muteOne : ByteArray := prog_7_method_7_code
def yX5_muteOne : MethodName := ⟨RX5, "muteOne", "(LBellWords$Tower;I)I"⟩
abbrev cX5_strikeOne : ByteArray := prog_7_method_8_code
def yX5_strikeOne : MethodName := ⟨RX5, "strikeOne", "(LBellWords$Tower;I)I"⟩
abbrev cX5_hasLettersUpTo : ByteArray := prog_7_method_9_code
def yX5_hasLettersUpTo : MethodName := ⟨RX5, "hasLettersUpTo", "(I)Z"⟩
abbrev cX5_numberUpTo : ByteArray := prog_7_method_10_code
def yX5_numberUpTo : MethodName := ⟨RX5, "numberUpTo", "(I)I"⟩
def RX6 : String := "BellWords$Reading"
def TX6 : u_T := fun k => match k with
  | 0 => ("BellWords$Reading", "letters", "LBellWords$Letters;", true)
  | 1 => ("BellWords$Reading", "messages", "LBellWords$Messages;", true)
  | 2 => ("BellWords$Reading", "gaps", "LBellWords$Row;", true)
  | 3 => ("BellWords$Reading", "cases", "LBellWords$Row;", true)
  | 4 => ("BellWords$Reading", "doubts", "LBellWords$Row;", true)
  | 5 => ("BellWords$Reading", "messageNumbers", "LBellWords$Row;", true)
  | 6 => ("BellWords$Reading", "letterPlaces", "LBellWords$Row;", true)
  | 7 => ("BellWords$Reading", "groupNumbers", "LBellWords$Row;", true)
  | _ => ("BellWords$Reading", "leftOut", "I", false)
def tyX6 : Nat → FieldType := fun k => match k with
  | 0 => .object "BellWords$Letters"
  | 1 => .object "BellWords$Messages"
  | 2 => .object "BellWords$Row"
  | 3 => .object "BellWords$Row"
  | 4 => .object "BellWords$Row"
  | 5 => .object "BellWords$Row"
  | 6 => .object "BellWords$Row"
  | 7 => .object "BellWords$Row"
  | _ => .int
theorem nmX6 : ∀ a, a < 9 → ∀ b, b < 9 → a ≠ b → (TX6 a).2.1 ≠ (TX6 b).2.1 := by decide +kernel
theorem tyX6_ok : ∀ k, k < 9 → parseFieldDescriptor (TX6 k).2.2.1 = some (tyX6 k) := by decide +kernel
abbrev cX6_init : ByteArray := prog_8_method_1_code
def yX6_init : MethodName := ⟨RX6, "<init>", "()V"⟩
abbrev cX6_refresh : ByteArray := prog_8_method_2_code
def yX6_refresh : MethodName := ⟨RX6, "refresh", "(LBellWords$Tower;)V"⟩
abbrev cX6_noteGap : ByteArray := prog_8_method_3_code
def yX6_noteGap : MethodName := ⟨RX6, "noteGap", "(IILBellWords$Tower;)V"⟩
abbrev cX6_caseOf : ByteArray := prog_8_method_4_code
def yX6_caseOf : MethodName := ⟨RX6, "caseOf", "(II)I"⟩
abbrev cX6_goOn : ByteArray := prog_8_method_5_code
def yX6_goOn : MethodName := ⟨RX6, "goOn", "(I)V"⟩
abbrev cX6_beginLetter : ByteArray := prog_8_method_6_code
def yX6_beginLetter : MethodName := ⟨RX6, "beginLetter", "()V"⟩
abbrev cX6_notePlace : ByteArray := prog_8_method_7_code
def yX6_notePlace : MethodName := ⟨RX6, "notePlace", "(I)V"⟩
abbrev cX6_sumUp : ByteArray := prog_8_method_8_code
def yX6_sumUp : MethodName := ⟨RX6, "sumUp", "()V"⟩
abbrev cX6_isLeftOut : ByteArray := prog_8_method_9_code
def yX6_isLeftOut : MethodName := ⟨RX6, "isLeftOut", "(I)Z"⟩
abbrev cX6_gapDetail : ByteArray := prog_8_method_10_code
def yX6_gapDetail : MethodName := ⟨RX6, "gapDetail", "(II)I"⟩
abbrev cX6_placeDetail : ByteArray := prog_8_method_11_code
def yX6_placeDetail : MethodName := ⟨RX6, "placeDetail", "(II)I"⟩
abbrev cX6_hasMessage : ByteArray := prog_8_method_12_code
def yX6_hasMessage : MethodName := ⟨RX6, "hasMessage", "(I)Z"⟩
abbrev cX6_lengthOf : ByteArray := prog_8_method_13_code
def yX6_lengthOf : MethodName := ⟨RX6, "lengthOf", "(I)I"⟩
abbrev cX6_indexOf : ByteArray := prog_8_method_14_code
def yX6_indexOf : MethodName := ⟨RX6, "indexOf", "(II)I"⟩
abbrev cX6_letterIn : ByteArray := prog_8_method_15_code
def yX6_letterIn : MethodName := ⟨RX6, "letterIn", "(II)I"⟩
abbrev cX6_isRight : ByteArray := prog_8_method_16_code
def yX6_isRight : MethodName := ⟨RX6, "isRight", "(I)Z"⟩
abbrev cX6_isRightWith : ByteArray := prog_8_method_17_code
def yX6_isRightWith : MethodName := ⟨RX6, "isRightWith", "(III)Z"⟩
abbrev cX6_firstRight : ByteArray := prog_8_method_18_code
def yX6_firstRight : MethodName := ⟨RX6, "firstRight", "()I"⟩
abbrev cX6_rightOnes : ByteArray := prog_8_method_19_code
def yX6_rightOnes : MethodName := ⟨RX6, "rightOnes", "()I"⟩
def RX7 : String := "BellWords$Row"
def TX7 : u_T := fun k => match k with
  | _ => ("BellWords$Row", "cells", "[I", true)
def tyX7 : Nat → FieldType := fun k => match k with
  | _ => .array .int
theorem nmX7 : ∀ a, a < 1 → ∀ b, b < 1 → a ≠ b → (TX7 a).2.1 ≠ (TX7 b).2.1 := by decide +kernel
theorem tyX7_ok : ∀ k, k < 1 → parseFieldDescriptor (TX7 k).2.2.1 = some (tyX7 k) := by decide +kernel
abbrev cX7_init : ByteArray := prog_9_method_1_code
def yX7_init : MethodName := ⟨RX7, "<init>", "(I)V"⟩
abbrev cX7_at : ByteArray := prog_9_method_2_code
def yX7_at : MethodName := ⟨RX7, "at", "(I)I"⟩
abbrev cX7_put : ByteArray := prog_9_method_3_code
def yX7_put : MethodName := ⟨RX7, "put", "(II)V"⟩
abbrev cX7_add : ByteArray := prog_9_method_4_code
def yX7_add : MethodName := ⟨RX7, "add", "(II)V"⟩
abbrev cX7_clear : ByteArray := prog_9_method_5_code
def yX7_clear : MethodName := ⟨RX7, "clear", "()V"⟩
abbrev cX7_copy : ByteArray := prog_9_method_6_code
def yX7_copy : MethodName := ⟨RX7, "copy", "(LBellWords$Row;I)V"⟩
def RX8 : String := "BellWords$Tower"
def TX8 : u_T := fun k => match k with
  | 0 => ("BellWords$Tower", "times", "LBellWords$Row;", true)
  | 1 => ("BellWords$Tower", "cellOf", "LBellWords$Row;", true)
  | 2 => ("BellWords$Tower", "strokes", "I", false)
  | 3 => ("BellWords$Tower", "beat", "I", false)
  | 4 => ("BellWords$Tower", "tolerance", "I", false)
  | _ => ("BellWords$Tower", "paused", "Z", false)
def tyX8 : Nat → FieldType := fun k => match k with
  | 0 => .object "BellWords$Row"
  | 1 => .object "BellWords$Row"
  | 2 => .int
  | 3 => .int
  | 4 => .int
  | _ => .boolean
theorem nmX8 : ∀ a, a < 6 → ∀ b, b < 6 → a ≠ b → (TX8 a).2.1 ≠ (TX8 b).2.1 := by decide +kernel
theorem tyX8_ok : ∀ k, k < 6 → parseFieldDescriptor (TX8 k).2.2.1 = some (tyX8 k) := by decide +kernel
abbrev cX8_init : ByteArray := prog_10_method_1_code
def yX8_init : MethodName := ⟨RX8, "<init>", "()V"⟩
abbrev cX8_become : ByteArray := prog_10_method_2_code
def yX8_become : MethodName := ⟨RX8, "become", "(LBellWords$Tower;)V"⟩
abbrev cX8_exchange : ByteArray := prog_10_method_3_code
def yX8_exchange : MethodName := ⟨RX8, "exchange", "(II)V"⟩
abbrev cX8_rowOf : ByteArray := prog_10_method_4_code
def yX8_rowOf : MethodName := ⟨RX8, "rowOf", "(I)I"⟩
abbrev cX8_columnOf : ByteArray := prog_10_method_5_code
def yX8_columnOf : MethodName := ⟨RX8, "columnOf", "(I)I"⟩
abbrev cX8_tablePlace : ByteArray := prog_10_method_6_code
def yX8_tablePlace : MethodName := ⟨RX8, "tablePlace", "(I)I"⟩
abbrev cX8_hasStroke : ByteArray := prog_10_method_7_code
def yX8_hasStroke : MethodName := ⟨RX8, "hasStroke", "(I)Z"⟩
abbrev cX8_isFull : ByteArray := prog_10_method_8_code
def yX8_isFull : MethodName := ⟨RX8, "isFull", "()Z"⟩
abbrev cX8_lastTime : ByteArray := prog_10_method_9_code
def yX8_lastTime : MethodName := ⟨RX8, "lastTime", "()I"⟩
abbrev cX8_strokesAhead : ByteArray := prog_10_method_10_code
def yX8_strokesAhead : MethodName := ⟨RX8, "strokesAhead", "(I)I"⟩
abbrev cX8_hasStrokeAt : ByteArray := prog_10_method_11_code
def yX8_hasStrokeAt : MethodName := ⟨RX8, "hasStrokeAt", "(I)Z"⟩
abbrev cX8_addStroke : ByteArray := prog_10_method_12_code
def yX8_addStroke : MethodName := ⟨RX8, "addStroke", "(I)I"⟩
abbrev cX8_removeStroke : ByteArray := prog_10_method_13_code
def yX8_removeStroke : MethodName := ⟨RX8, "removeStroke", "(I)V"⟩
abbrev cX8_nextTime : ByteArray := prog_10_method_14_code
def yX8_nextTime : MethodName := ⟨RX8, "nextTime", "()I"⟩
abbrev cX8_hasRoomFor : ByteArray := prog_10_method_15_code
def yX8_hasRoomFor : MethodName := ⟨RX8, "hasRoomFor", "(I)Z"⟩
abbrev cX8_ringLetter : ByteArray := prog_10_method_16_code
def yX8_ringLetter : MethodName := ⟨RX8, "ringLetter", "(I)V"⟩
abbrev cX8_ringGroup : ByteArray := prog_10_method_17_code
def yX8_ringGroup : MethodName := ⟨RX8, "ringGroup", "(II)V"⟩
def RX9 : String := "BellWords"
def TX9 : u_T := fun k => match k with
  | 0 => ("BellWords", "tower", "LBellWords$Tower;", true)
  | 1 => ("BellWords", "rehearsal", "LBellWords$Tower;", true)
  | 2 => ("BellWords", "history", "LBellWords$History;", true)
  | 3 => ("BellWords", "reading", "LBellWords$Reading;", true)
  | 4 => ("BellWords", "corrections", "LBellWords$Corrections;", true)
  | 5 => ("BellWords", "ballot", "LBellWords$Ballot;", true)
  | _ => ("BellWords", "orders", "LBellWords$Orders;", true)
def tyX9 : Nat → FieldType := fun k => match k with
  | 0 => .object "BellWords$Tower"
  | 1 => .object "BellWords$Tower"
  | 2 => .object "BellWords$History"
  | 3 => .object "BellWords$Reading"
  | 4 => .object "BellWords$Corrections"
  | 5 => .object "BellWords$Ballot"
  | _ => .object "BellWords$Orders"
theorem nmX9 : ∀ a, a < 7 → ∀ b, b < 7 → a ≠ b → (TX9 a).2.1 ≠ (TX9 b).2.1 := by decide +kernel
theorem tyX9_ok : ∀ k, k < 7 → parseFieldDescriptor (TX9 k).2.2.1 = some (tyX9 k) := by decide +kernel
abbrev cX9_init : ByteArray := prog_1_method_1_code
def yX9_init : MethodName := ⟨RX9, "<init>", "()V"⟩
abbrev cX9_set : ByteArray := prog_1_method_2_code
def yX9_set : MethodName := ⟨RX9, "set", "(II)I"⟩
abbrev cX9_swap : ByteArray := prog_1_method_3_code
def yX9_swap : MethodName := ⟨RX9, "swap", "(II)I"⟩
abbrev cX9_ring : ByteArray := prog_1_method_4_code
def yX9_ring : MethodName := ⟨RX9, "ring", "(I)I"⟩
abbrev cX9_pause : ByteArray := prog_1_method_5_code
def yX9_pause : MethodName := ⟨RX9, "pause", "()I"⟩
abbrev cX9_strike : ByteArray := prog_1_method_6_code
def yX9_strike : MethodName := ⟨RX9, "strike", "(I)I"⟩
abbrev cX9_mute : ByteArray := prog_1_method_7_code
def yX9_mute : MethodName := ⟨RX9, "mute", "(I)I"⟩
abbrev cX9_shift : ByteArray := prog_1_method_8_code
def yX9_shift : MethodName := ⟨RX9, "shift", "(II)I"⟩
abbrev cX9_strokeOf : ByteArray := prog_1_method_9_code
def yX9_strokeOf : MethodName := ⟨RX9, "strokeOf", "(II)I"⟩
abbrev cX9_messageOf : ByteArray := prog_1_method_10_code
def yX9_messageOf : MethodName := ⟨RX9, "messageOf", "(II)I"⟩
abbrev cX9_letterOf : ByteArray := prog_1_method_11_code
def yX9_letterOf : MethodName := ⟨RX9, "letterOf", "(III)I"⟩
abbrev cX9_correction : ByteArray := prog_1_method_12_code
def yX9_correction : MethodName := ⟨RX9, "correction", "(III)I"⟩
abbrev cX9_vote : ByteArray := prog_1_method_13_code
def yX9_vote : MethodName := ⟨RX9, "vote", "(II)I"⟩
abbrev cX9_read : ByteArray := prog_1_method_14_code
def yX9_read : MethodName := ⟨RX9, "read", "(I)I"⟩
abbrev cX9_tableOf : ByteArray := prog_1_method_15_code
def yX9_tableOf : MethodName := ⟨RX9, "tableOf", "(I)I"⟩
abbrev cX9_count : ByteArray := prog_1_method_16_code
def yX9_count : MethodName := ⟨RX9, "count", "(I)I"⟩
abbrev cX9_undo : ByteArray := prog_1_method_17_code
def yX9_undo : MethodName := ⟨RX9, "undo", "()I"⟩
abbrev cX9_type : ByteArray := prog_1_method_18_code
def yX9_type : MethodName := ⟨RX9, "type", "(I)I"⟩
abbrev cX9_clearText : ByteArray := prog_1_method_19_code
def yX9_clearText : MethodName := ⟨RX9, "clearText", "()I"⟩
abbrev cX9_fault : ByteArray := prog_1_method_20_code
def yX9_fault : MethodName := ⟨RX9, "fault", "(I)I"⟩
abbrev cX9_play : ByteArray := prog_1_method_21_code
def yX9_play : MethodName := ⟨RX9, "play", "()I"⟩
abbrev cX9_isLetter : ByteArray := prog_1_method_22_code
def yX9_isLetter : MethodName := ⟨RX9, "isLetter", "(I)Z"⟩
abbrev cX9_orNotFound : ByteArray := prog_1_method_23_code
def yX9_orNotFound : MethodName := ⟨RX9, "orNotFound", "(I)I"⟩
abbrev cX9_countOfState : ByteArray := prog_1_method_24_code
def yX9_countOfState : MethodName := ⟨RX9, "countOfState", "(I)I"⟩
abbrev cX9_rightLetter : ByteArray := prog_1_method_25_code
def yX9_rightLetter : MethodName := ⟨RX9, "rightLetter", "(II)I"⟩
abbrev cX9_correctedLetter : ByteArray := prog_1_method_26_code
def yX9_correctedLetter : MethodName := ⟨RX9, "correctedLetter", "(II)I"⟩
abbrev cX9_votedLetter : ByteArray := prog_1_method_27_code
def yX9_votedLetter : MethodName := ⟨RX9, "votedLetter", "(I)I"⟩
def RX10 : String := "BellWordsModel"
def TX10 : u_T := fun k => match k with
  | 0 => ("BellWordsModel", "s", "[I", true)
  | 1 => ("BellWordsModel", "past", "[I", true)
  | 2 => ("BellWordsModel", "held", "[I", true)
  | 3 => ("BellWordsModel", "pasts", "I", false)
  | 4 => ("BellWordsModel", "text", "[I", true)
  | 5 => ("BellWordsModel", "typed", "I", false)
  | 6 => ("BellWordsModel", "gap", "[I", true)
  | 7 => ("BellWordsModel", "kase", "[I", true)
  | 8 => ("BellWordsModel", "message", "[I", true)
  | 9 => ("BellWordsModel", "letter", "[I", true)
  | 10 => ("BellWordsModel", "group", "[I", true)
  | 11 => ("BellWordsModel", "messages", "I", false)
  | 12 => ("BellWordsModel", "letters", "I", false)
  | 13 => ("BellWordsModel", "groups", "[I", true)
  | 14 => ("BellWordsModel", "one", "[I", true)
  | 15 => ("BellWordsModel", "two", "[I", true)
  | 16 => ("BellWordsModel", "firstLetter", "[I", true)
  | 17 => ("BellWordsModel", "firstStroke", "[I", true)
  | 18 => ("BellWordsModel", "placed", "[I", true)
  | 19 => ("BellWordsModel", "doubts", "[I", true)
  | 20 => ("BellWordsModel", "found", "[I", true)
  | 21 => ("BellWordsModel", "votes", "I", false)
  | 22 => ("BellWordsModel", "tie", "Z", false)
  | 23 => ("BellWordsModel", "at", "I", false)
  | _ => ("BellWordsModel", "reason", "I", false)
def tyX10 : Nat → FieldType := fun k => match k with
  | 0 => .array .int
  | 1 => .array .int
  | 2 => .array .int
  | 3 => .int
  | 4 => .array .int
  | 5 => .int
  | 6 => .array .int
  | 7 => .array .int
  | 8 => .array .int
  | 9 => .array .int
  | 10 => .array .int
  | 11 => .int
  | 12 => .int
  | 13 => .array .int
  | 14 => .array .int
  | 15 => .array .int
  | 16 => .array .int
  | 17 => .array .int
  | 18 => .array .int
  | 19 => .array .int
  | 20 => .array .int
  | 21 => .int
  | 22 => .boolean
  | 23 => .int
  | _ => .int
theorem nmX10 : ∀ a, a < 25 → ∀ b, b < 25 → a ≠ b → (TX10 a).2.1 ≠ (TX10 b).2.1 := by decide +kernel
theorem tyX10_ok : ∀ k, k < 25 → parseFieldDescriptor (TX10 k).2.2.1 = some (tyX10 k) := by decide +kernel
abbrev cX10_init : ByteArray := prog_12_method_1_code
def yX10_init : MethodName := ⟨RX10, "<init>", "()V"⟩
abbrev cX10_in : ByteArray := prog_12_method_3_code
def yX10_in : MethodName := ⟨RX10, "in", "(III)Z"⟩
abbrev cX10_changes : ByteArray := prog_12_method_4_code
def yX10_changes : MethodName := ⟨RX10, "changes", "()V"⟩
abbrev cX10_holds : ByteArray := prog_12_method_5_code
def yX10_holds : MethodName := ⟨RX10, "holds", "()V"⟩
abbrev cX10_lets : ByteArray := prog_12_method_6_code
def yX10_lets : MethodName := ⟨RX10, "lets", "()V"⟩
abbrev cX10_isLetter : ByteArray := prog_12_method_7_code
def yX10_isLetter : MethodName := ⟨RX10, "isLetter", "(I)Z"⟩
abbrev cX10_isStroke : ByteArray := prog_12_method_8_code
def yX10_isStroke : MethodName := ⟨RX10, "isStroke", "(I)Z"⟩
abbrev cX10_rowOf : ByteArray := prog_12_method_9_code
def yX10_rowOf : MethodName := ⟨RX10, "rowOf", "(I)I"⟩
abbrev cX10_columnOf : ByteArray := prog_12_method_10_code
def yX10_columnOf : MethodName := ⟨RX10, "columnOf", "(I)I"⟩
abbrev cX10_toldPlace : ByteArray := prog_12_method_11_code
def yX10_toldPlace : MethodName := ⟨RX10, "toldPlace", "(I)I"⟩
abbrev cX10_letterAt : ByteArray := prog_12_method_12_code
def yX10_letterAt : MethodName := ⟨RX10, "letterAt", "(II)I"⟩
abbrev cX10_set : ByteArray := prog_12_method_13_code
def yX10_set : MethodName := ⟨RX10, "set", "(II)I"⟩
abbrev cX10_swap : ByteArray := prog_12_method_14_code
def yX10_swap : MethodName := ⟨RX10, "swap", "(II)I"⟩
abbrev cX10_placeOf : ByteArray := prog_12_method_15_code
def yX10_placeOf : MethodName := ⟨RX10, "placeOf", "(I)I"⟩
abbrev cX10_isThere : ByteArray := prog_12_method_16_code
def yX10_isThere : MethodName := ⟨RX10, "isThere", "(I)Z"⟩
abbrev cX10_puts : ByteArray := prog_12_method_17_code
def yX10_puts : MethodName := ⟨RX10, "puts", "(I)I"⟩
abbrev cX10_takes : ByteArray := prog_12_method_18_code
def yX10_takes : MethodName := ⟨RX10, "takes", "(I)I"⟩
abbrev cX10_begin : ByteArray := prog_12_method_19_code
def yX10_begin : MethodName := ⟨RX10, "begin", "()I"⟩
abbrev cX10_isRoom : ByteArray := prog_12_method_20_code
def yX10_isRoom : MethodName := ⟨RX10, "isRoom", "(I)Z"⟩
abbrev cX10_rings : ByteArray := prog_12_method_21_code
def yX10_rings : MethodName := ⟨RX10, "rings", "(I)V"⟩
abbrev cX10_ring : ByteArray := prog_12_method_22_code
def yX10_ring : MethodName := ⟨RX10, "ring", "(I)I"⟩
abbrev cX10_pause : ByteArray := prog_12_method_23_code
def yX10_pause : MethodName := ⟨RX10, "pause", "()I"⟩
abbrev cX10_strike : ByteArray := prog_12_method_24_code
def yX10_strike : MethodName := ⟨RX10, "strike", "(I)I"⟩
abbrev cX10_mute : ByteArray := prog_12_method_25_code
def yX10_mute : MethodName := ⟨RX10, "mute", "(I)I"⟩
abbrev cX10_shift : ByteArray := prog_12_method_26_code
def yX10_shift : MethodName := ⟨RX10, "shift", "(II)I"⟩
abbrev cX10_caseOf : ByteArray := prog_12_method_27_code
def yX10_caseOf : MethodName := ⟨RX10, "caseOf", "(I)I"⟩
abbrev cX10_isDoubtful : ByteArray := prog_12_method_28_code
def yX10_isDoubtful : MethodName := ⟨RX10, "isDoubtful", "(I)Z"⟩
abbrev cX10_counts : ByteArray := prog_12_method_29_code
def yX10_counts : MethodName := ⟨RX10, "counts", "(I)V"⟩
abbrev cX10_goesOn : ByteArray := prog_12_method_30_code
def yX10_goesOn : MethodName := ⟨RX10, "goesOn", "(II)V"⟩
abbrev cX10_lays : ByteArray := prog_12_method_31_code
def yX10_lays : MethodName := ⟨RX10, "lays", "()V"⟩
abbrev cX10_areGood : ByteArray := prog_12_method_32_code
def yX10_areGood : MethodName := ⟨RX10, "areGood", "(II)Z"⟩
abbrev cX10_isReadable : ByteArray := prog_12_method_33_code
def yX10_isReadable : MethodName := ⟨RX10, "isReadable", "(I)Z"⟩
abbrev cX10_read0 : ByteArray := prog_12_method_34_code
def yX10_read0 : MethodName := ⟨RX10, "read0", "(I)I"⟩
abbrev cX10_longOf : ByteArray := prog_12_method_35_code
def yX10_longOf : MethodName := ⟨RX10, "longOf", "(I)I"⟩
abbrev cX10_isRight : ByteArray := prog_12_method_36_code
def yX10_isRight : MethodName := ⟨RX10, "isRight", "(III)Z"⟩
abbrev cX10_strokeOf : ByteArray := prog_12_method_37_code
def yX10_strokeOf : MethodName := ⟨RX10, "strokeOf", "(II)I"⟩
abbrev cX10_unreadable : ByteArray := prog_12_method_38_code
def yX10_unreadable : MethodName := ⟨RX10, "unreadable", "(I)I"⟩
abbrev cX10_corrections : ByteArray := prog_12_method_39_code
def yX10_corrections : MethodName := ⟨RX10, "corrections", "(II)I"⟩
abbrev cX10_isMessage : ByteArray := prog_12_method_40_code
def yX10_isMessage : MethodName := ⟨RX10, "isMessage", "(I)Z"⟩
abbrev cX10_messageOf : ByteArray := prog_12_method_41_code
def yX10_messageOf : MethodName := ⟨RX10, "messageOf", "(II)I"⟩
abbrev cX10_moreOf : ByteArray := prog_12_method_42_code
def yX10_moreOf : MethodName := ⟨RX10, "moreOf", "(I)I"⟩
abbrev cX10_letterOf : ByteArray := prog_12_method_43_code
def yX10_letterOf : MethodName := ⟨RX10, "letterOf", "(III)I"⟩
abbrev cX10_correction : ByteArray := prog_12_method_44_code
def yX10_correction : MethodName := ⟨RX10, "correction", "(III)I"⟩
abbrev cX10_voted : ByteArray := prog_12_method_45_code
def yX10_voted : MethodName := ⟨RX10, "voted", "(I)I"⟩
abbrev cX10_vote : ByteArray := prog_12_method_46_code
def yX10_vote : MethodName := ⟨RX10, "vote", "(II)I"⟩
abbrev cX10_readBy : ByteArray := prog_12_method_47_code
def yX10_readBy : MethodName := ⟨RX10, "readBy", "(IIZ)I"⟩
abbrev cX10_read : ByteArray := prog_12_method_48_code
def yX10_read : MethodName := ⟨RX10, "read", "(I)I"⟩
abbrev cX10_tableOf : ByteArray := prog_12_method_49_code
def yX10_tableOf : MethodName := ⟨RX10, "tableOf", "(I)I"⟩
abbrev cX10_sums : ByteArray := prog_12_method_50_code
def yX10_sums : MethodName := ⟨RX10, "sums", "(I)I"⟩
abbrev cX10_count : ByteArray := prog_12_method_51_code
def yX10_count : MethodName := ⟨RX10, "count", "(I)I"⟩
abbrev cX10_undo : ByteArray := prog_12_method_52_code
def yX10_undo : MethodName := ⟨RX10, "undo", "()I"⟩
abbrev cX10_type : ByteArray := prog_12_method_53_code
def yX10_type : MethodName := ⟨RX10, "type", "(I)I"⟩
abbrev cX10_clearText : ByteArray := prog_12_method_54_code
def yX10_clearText : MethodName := ⟨RX10, "clearText", "()I"⟩
abbrev cX10_isAt : ByteArray := prog_12_method_55_code
def yX10_isAt : MethodName := ⟨RX10, "isAt", "(II)Z"⟩
abbrev cX10_ringsOne : ByteArray := prog_12_method_56_code
def yX10_ringsOne : MethodName := ⟨RX10, "ringsOne", "(I)I"⟩
abbrev cX10_ringsAll : ByteArray := prog_12_method_57_code
def yX10_ringsAll : MethodName := ⟨RX10, "ringsAll", "(IIZ)I"⟩
abbrev cX10_does : ByteArray := prog_12_method_58_code
def yX10_does : MethodName := ⟨RX10, "does", "()I"⟩
abbrev cX10_goes : ByteArray := prog_12_method_59_code
def yX10_goes : MethodName := ⟨RX10, "goes", "()I"⟩
abbrev cX10_fault : ByteArray := prog_12_method_60_code
def yX10_fault : MethodName := ⟨RX10, "fault", "(I)I"⟩
abbrev cX10_play : ByteArray := prog_12_method_61_code
def yX10_play : MethodName := ⟨RX10, "play", "()I"⟩
def RJ9 : String := "java/lang/Math"
def TJ9 : u_T := fun k => match k with
  | _ => ("", "", "", false)
def tyJ9 : Nat → FieldType := fun k => match k with
  | _ => .int
theorem nmJ9 : ∀ a, a < 0 → ∀ b, b < 0 → a ≠ b → (TJ9 a).2.1 ≠ (TJ9 b).2.1 := by decide +kernel
theorem tyJ9_ok : ∀ k, k < 0 → parseFieldDescriptor (TJ9 k).2.2.1 = some (tyJ9 k) := by decide +kernel
abbrev cJ9_floorMod_7cf53 : ByteArray := prog_13_method_50_code
def yJ9_floorMod_7cf53 : MethodName := ⟨RJ9, "floorMod", "(II)I"⟩
def RL : String := "BellWordsLaw"
abbrev cL_law : ByteArray := code
def yL_law : MethodName := ⟨RL, "law", "([I)Z"⟩
abbrev vwCl : List vw_C := [(RX0, TX0, 4), (RX1, TX1, 5), (RX2, TX2, 3), (RX3, TX3, 6), (RX4, TX4, 8), (RX5, TX5, 4), (RX6, TX6, 9), (RX7, TX7, 1), (RX8, TX8, 6), (RX9, TX9, 7), (RX10, TX10, 25)]

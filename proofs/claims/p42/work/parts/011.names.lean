-- ===== PART A: goes FIRST, ahead of the names: the tables' words, and 'selects' of the private methods out of them =====
/-- a private method of a class that the tables say can be made, by its rows of tables_1 -/
def lw_okq (q : MethodName × Nat) : Prop := (q.1.cls ≠ "java/lang/invoke/MethodHandle" ∧ q.1.cls ≠ "java/lang/invoke/VarHandle") ∧ Cond.instantiable q.1.cls q.2 ∈ tables_1 ∧ Cond.privateMethod q.1 ∈ tables_1 ∧ Cond.instanceMethod q.1 ∈ tables_1
theorem lw_p0 : lw_okq (⟨"TwoReels$TextReader", "readToken", "()V"⟩, 10) := ⟨⟨by decide +kernel, by decide +kernel⟩, List.mem_of_getElem? (i := 98) (by decide +kernel), List.mem_of_getElem? (i := 248) (by decide +kernel), List.mem_of_getElem? (i := 249) (by decide +kernel)⟩
theorem lw_p1 : lw_okq (⟨"TwoReels$TextReader", "letterAt", "(I)I"⟩, 10) := ⟨⟨by decide +kernel, by decide +kernel⟩, List.mem_of_getElem? (i := 98) (by decide +kernel), List.mem_of_getElem? (i := 252) (by decide +kernel), List.mem_of_getElem? (i := 253) (by decide +kernel)⟩
theorem lw_p2 : lw_okq (⟨"TwoReels$TextReader", "readNumber", "()V"⟩, 10) := ⟨⟨by decide +kernel, by decide +kernel⟩, List.mem_of_getElem? (i := 98) (by decide +kernel), List.mem_of_getElem? (i := 262) (by decide +kernel), List.mem_of_getElem? (i := 263) (by decide +kernel)⟩
theorem lw_p3 : lw_okq (⟨"TwoReels$TextReader", "refuse", "(II)V"⟩, 10) := ⟨⟨by decide +kernel, by decide +kernel⟩, List.mem_of_getElem? (i := 98) (by decide +kernel), List.mem_of_getElem? (i := 266) (by decide +kernel), List.mem_of_getElem? (i := 267) (by decide +kernel)⟩
theorem lw_p4 : lw_okq (⟨"TwoReels$TextReader", "takeLine", "()V"⟩, 10) := ⟨⟨by decide +kernel, by decide +kernel⟩, List.mem_of_getElem? (i := 98) (by decide +kernel), List.mem_of_getElem? (i := 270) (by decide +kernel), List.mem_of_getElem? (i := 271) (by decide +kernel)⟩
theorem lw_p5 : lw_okq (⟨"TwoReels$TextReader", "ruleNamed", "()I"⟩, 10) := ⟨⟨by decide +kernel, by decide +kernel⟩, List.mem_of_getElem? (i := 98) (by decide +kernel), List.mem_of_getElem? (i := 274) (by decide +kernel), List.mem_of_getElem? (i := 275) (by decide +kernel)⟩
theorem lw_p6 : lw_okq (⟨"TwoReels$TextReader", "isNamed", "(Ljava/lang/String;)Z"⟩, 10) := ⟨⟨by decide +kernel, by decide +kernel⟩, List.mem_of_getElem? (i := 98) (by decide +kernel), List.mem_of_getElem? (i := 279) (by decide +kernel), List.mem_of_getElem? (i := 280) (by decide +kernel)⟩
theorem lw_p7 : lw_okq (⟨"TwoReels$TextReader", "takeRule", "(I)V"⟩, 10) := ⟨⟨by decide +kernel, by decide +kernel⟩, List.mem_of_getElem? (i := 98) (by decide +kernel), List.mem_of_getElem? (i := 339) (by decide +kernel), List.mem_of_getElem? (i := 340) (by decide +kernel)⟩
theorem lw_p8 : lw_okq (⟨"TwoReels$TextReader", "isNumberWithin", "(II)Z"⟩, 10) := ⟨⟨by decide +kernel, by decide +kernel⟩, List.mem_of_getElem? (i := 98) (by decide +kernel), List.mem_of_getElem? (i := 350) (by decide +kernel), List.mem_of_getElem? (i := 351) (by decide +kernel)⟩
theorem lw_p9 : lw_okq (⟨"TwoReels$TextReader", "takeBlock", "()V"⟩, 10) := ⟨⟨by decide +kernel, by decide +kernel⟩, List.mem_of_getElem? (i := 98) (by decide +kernel), List.mem_of_getElem? (i := 359) (by decide +kernel), List.mem_of_getElem? (i := 360) (by decide +kernel)⟩
theorem lw_p10 : lw_okq (⟨"TwoReels$TextReader", "hasRoomForBlock", "()Z"⟩, 10) := ⟨⟨by decide +kernel, by decide +kernel⟩, List.mem_of_getElem? (i := 98) (by decide +kernel), List.mem_of_getElem? (i := 363) (by decide +kernel), List.mem_of_getElem? (i := 364) (by decide +kernel)⟩
theorem lw_p11 : lw_okq (⟨"TwoReels$Tape", "setColumn", "(III)V"⟩, 14) := ⟨⟨by decide +kernel, by decide +kernel⟩, List.mem_of_getElem? (i := 23) (by decide +kernel), List.mem_of_getElem? (i := 383) (by decide +kernel), List.mem_of_getElem? (i := 384) (by decide +kernel)⟩
theorem lw_p12 : lw_okq (⟨"TwoReels$TextReader", "takeMark", "()V"⟩, 10) := ⟨⟨by decide +kernel, by decide +kernel⟩, List.mem_of_getElem? (i := 98) (by decide +kernel), List.mem_of_getElem? (i := 388) (by decide +kernel), List.mem_of_getElem? (i := 389) (by decide +kernel)⟩
theorem lw_p13 : lw_okq (⟨"TwoReels$TextReader", "takeSign", "()V"⟩, 10) := ⟨⟨by decide +kernel, by decide +kernel⟩, List.mem_of_getElem? (i := 98) (by decide +kernel), List.mem_of_getElem? (i := 392) (by decide +kernel), List.mem_of_getElem? (i := 393) (by decide +kernel)⟩
theorem lw_p14 : lw_okq (⟨"TwoReels$Tape", "beginningAt", "(I)I"⟩, 14) := ⟨⟨by decide +kernel, by decide +kernel⟩, List.mem_of_getElem? (i := 23) (by decide +kernel), List.mem_of_getElem? (i := 400) (by decide +kernel), List.mem_of_getElem? (i := 401) (by decide +kernel)⟩
theorem lw_p15 : lw_okq (⟨"TwoReels$Tape", "longWith", "(I)I"⟩, 14) := ⟨⟨by decide +kernel, by decide +kernel⟩, List.mem_of_getElem? (i := 23) (by decide +kernel), List.mem_of_getElem? (i := 421) (by decide +kernel), List.mem_of_getElem? (i := 422) (by decide +kernel)⟩
def lw_privs_1 : List (MethodName × Nat) := [(⟨"TwoReels$TextReader", "readToken", "()V"⟩, 10), (⟨"TwoReels$TextReader", "letterAt", "(I)I"⟩, 10), (⟨"TwoReels$TextReader", "readNumber", "()V"⟩, 10), (⟨"TwoReels$TextReader", "refuse", "(II)V"⟩, 10), (⟨"TwoReels$TextReader", "takeLine", "()V"⟩, 10), (⟨"TwoReels$TextReader", "ruleNamed", "()I"⟩, 10), (⟨"TwoReels$TextReader", "isNamed", "(Ljava/lang/String;)Z"⟩, 10), (⟨"TwoReels$TextReader", "takeRule", "(I)V"⟩, 10), (⟨"TwoReels$TextReader", "isNumberWithin", "(II)Z"⟩, 10), (⟨"TwoReels$TextReader", "takeBlock", "()V"⟩, 10), (⟨"TwoReels$TextReader", "hasRoomForBlock", "()Z"⟩, 10), (⟨"TwoReels$Tape", "setColumn", "(III)V"⟩, 14), (⟨"TwoReels$TextReader", "takeMark", "()V"⟩, 10), (⟨"TwoReels$TextReader", "takeSign", "()V"⟩, 10), (⟨"TwoReels$Tape", "beginningAt", "(I)I"⟩, 14), (⟨"TwoReels$Tape", "longWith", "(I)I"⟩, 14)]
theorem lw_r1 : ∀ q ∈ lw_privs_1, lw_okq q := List.forall_mem_cons.mpr ⟨lw_p0, List.forall_mem_cons.mpr ⟨lw_p1, List.forall_mem_cons.mpr ⟨lw_p2, List.forall_mem_cons.mpr ⟨lw_p3, List.forall_mem_cons.mpr ⟨lw_p4, List.forall_mem_cons.mpr ⟨lw_p5, List.forall_mem_cons.mpr ⟨lw_p6, List.forall_mem_cons.mpr ⟨lw_p7, List.forall_mem_cons.mpr ⟨lw_p8, List.forall_mem_cons.mpr ⟨lw_p9, List.forall_mem_cons.mpr ⟨lw_p10, List.forall_mem_cons.mpr ⟨lw_p11, List.forall_mem_cons.mpr ⟨lw_p12, List.forall_mem_cons.mpr ⟨lw_p13, List.forall_mem_cons.mpr ⟨lw_p14, List.forall_mem_cons.mpr ⟨lw_p15, fun _ h => absurd h List.not_mem_nil⟩⟩⟩⟩⟩⟩⟩⟩⟩⟩⟩⟩⟩⟩⟩⟩
theorem lw_p16 : lw_okq (⟨"TwoReels$Tape", "turnsOf", "(I)I"⟩, 14) := ⟨⟨by decide +kernel, by decide +kernel⟩, List.mem_of_getElem? (i := 23) (by decide +kernel), List.mem_of_getElem? (i := 459) (by decide +kernel), List.mem_of_getElem? (i := 460) (by decide +kernel)⟩
theorem lw_p17 : lw_okq (⟨"TwoReels$Tape", "wrongAlongCount", "(I)I"⟩, 14) := ⟨⟨by decide +kernel, by decide +kernel⟩, List.mem_of_getElem? (i := 23) (by decide +kernel), List.mem_of_getElem? (i := 618) (by decide +kernel), List.mem_of_getElem? (i := 619) (by decide +kernel)⟩
theorem lw_p18 : lw_okq (⟨"TwoReels$Tape", "isWrongAlong", "(II)Z"⟩, 14) := ⟨⟨by decide +kernel, by decide +kernel⟩, List.mem_of_getElem? (i := 23) (by decide +kernel), List.mem_of_getElem? (i := 622) (by decide +kernel), List.mem_of_getElem? (i := 623) (by decide +kernel)⟩
theorem lw_p19 : lw_okq (⟨"TwoReels$Tape", "wrongAcross", "(I)I"⟩, 14) := ⟨⟨by decide +kernel, by decide +kernel⟩, List.mem_of_getElem? (i := 23) (by decide +kernel), List.mem_of_getElem? (i := 626) (by decide +kernel), List.mem_of_getElem? (i := 627) (by decide +kernel)⟩
theorem lw_p20 : lw_okq (⟨"TwoReels$Tape", "isReadAsWritten", "(I)Z"⟩, 14) := ⟨⟨by decide +kernel, by decide +kernel⟩, List.mem_of_getElem? (i := 23) (by decide +kernel), List.mem_of_getElem? (i := 655) (by decide +kernel), List.mem_of_getElem? (i := 656) (by decide +kernel)⟩
theorem lw_p21 : lw_okq (⟨"TwoReels$Tape", "originalOf", "(II)I"⟩, 14) := ⟨⟨by decide +kernel, by decide +kernel⟩, List.mem_of_getElem? (i := 23) (by decide +kernel), List.mem_of_getElem? (i := 660) (by decide +kernel), List.mem_of_getElem? (i := 661) (by decide +kernel)⟩
theorem lw_p22 : lw_okq (⟨"TwoReels$Route", "choose", "(I)V"⟩, 6) := ⟨⟨by decide +kernel, by decide +kernel⟩, List.mem_of_getElem? (i := 142) (by decide +kernel), List.mem_of_getElem? (i := 685) (by decide +kernel), List.mem_of_getElem? (i := 686) (by decide +kernel)⟩
theorem lw_p23 : lw_okq (⟨"TwoReels$Route", "measureHops", "(LTwoReels$Tape;)V"⟩, 6) := ⟨⟨by decide +kernel, by decide +kernel⟩, List.mem_of_getElem? (i := 142) (by decide +kernel), List.mem_of_getElem? (i := 690) (by decide +kernel), List.mem_of_getElem? (i := 691) (by decide +kernel)⟩
theorem lw_p24 : lw_okq (⟨"TwoReels$Route", "fewestFrom", "(II)I"⟩, 6) := ⟨⟨by decide +kernel, by decide +kernel⟩, List.mem_of_getElem? (i := 142) (by decide +kernel), List.mem_of_getElem? (i := 700) (by decide +kernel), List.mem_of_getElem? (i := 701) (by decide +kernel)⟩
theorem lw_p25 : lw_okq (⟨"TwoReels$Route", "ticksBy", "(III)I"⟩, 6) := ⟨⟨by decide +kernel, by decide +kernel⟩, List.mem_of_getElem? (i := 142) (by decide +kernel), List.mem_of_getElem? (i := 705) (by decide +kernel), List.mem_of_getElem? (i := 706) (by decide +kernel)⟩
theorem lw_p26 : lw_okq (⟨"TwoReels$Route", "followFirst", "()V"⟩, 6) := ⟨⟨by decide +kernel, by decide +kernel⟩, List.mem_of_getElem? (i := 142) (by decide +kernel), List.mem_of_getElem? (i := 710) (by decide +kernel), List.mem_of_getElem? (i := 711) (by decide +kernel)⟩
theorem lw_p27 : lw_okq (⟨"TwoReels$Route", "firstOfFewest", "(II)I"⟩, 6) := ⟨⟨by decide +kernel, by decide +kernel⟩, List.mem_of_getElem? (i := 142) (by decide +kernel), List.mem_of_getElem? (i := 714) (by decide +kernel), List.mem_of_getElem? (i := 715) (by decide +kernel)⟩
theorem lw_p28 : lw_okq (⟨"TwoReels$Tape", "moveBlock", "(III)V"⟩, 14) := ⟨⟨by decide +kernel, by decide +kernel⟩, List.mem_of_getElem? (i := 23) (by decide +kernel), List.mem_of_getElem? (i := 734) (by decide +kernel), List.mem_of_getElem? (i := 735) (by decide +kernel)⟩
theorem lw_p29 : lw_okq (⟨"TwoReels", "imageNumbered", "(I)LTwoReels$Tape;"⟩, 12) := ⟨⟨by decide +kernel, by decide +kernel⟩, List.mem_of_getElem? (i := 15) (by decide +kernel), List.mem_of_getElem? (i := 798) (by decide +kernel), List.mem_of_getElem? (i := 799) (by decide +kernel)⟩
theorem lw_p30 : lw_okq (⟨"TwoReels", "sheetNumbered", "(I)LTwoReels$Sheet;"⟩, 12) := ⟨⟨by decide +kernel, by decide +kernel⟩, List.mem_of_getElem? (i := 15) (by decide +kernel), List.mem_of_getElem? (i := 810) (by decide +kernel), List.mem_of_getElem? (i := 811) (by decide +kernel)⟩
theorem lw_p31 : lw_okq (⟨"TwoReelsModel", "firstDraft", "()V"⟩, 26) := ⟨⟨by decide +kernel, by decide +kernel⟩, List.mem_of_getElem? (i := 862) (by decide +kernel), List.mem_of_getElem? (i := 868) (by decide +kernel), List.mem_of_getElem? (i := 869) (by decide +kernel)⟩
def lw_privs_2 : List (MethodName × Nat) := [(⟨"TwoReels$Tape", "turnsOf", "(I)I"⟩, 14), (⟨"TwoReels$Tape", "wrongAlongCount", "(I)I"⟩, 14), (⟨"TwoReels$Tape", "isWrongAlong", "(II)Z"⟩, 14), (⟨"TwoReels$Tape", "wrongAcross", "(I)I"⟩, 14), (⟨"TwoReels$Tape", "isReadAsWritten", "(I)Z"⟩, 14), (⟨"TwoReels$Tape", "originalOf", "(II)I"⟩, 14), (⟨"TwoReels$Route", "choose", "(I)V"⟩, 6), (⟨"TwoReels$Route", "measureHops", "(LTwoReels$Tape;)V"⟩, 6), (⟨"TwoReels$Route", "fewestFrom", "(II)I"⟩, 6), (⟨"TwoReels$Route", "ticksBy", "(III)I"⟩, 6), (⟨"TwoReels$Route", "followFirst", "()V"⟩, 6), (⟨"TwoReels$Route", "firstOfFewest", "(II)I"⟩, 6), (⟨"TwoReels$Tape", "moveBlock", "(III)V"⟩, 14), (⟨"TwoReels", "imageNumbered", "(I)LTwoReels$Tape;"⟩, 12), (⟨"TwoReels", "sheetNumbered", "(I)LTwoReels$Sheet;"⟩, 12), (⟨"TwoReelsModel", "firstDraft", "()V"⟩, 26)]
theorem lw_r2 : ∀ q ∈ lw_privs_2, lw_okq q := List.forall_mem_cons.mpr ⟨lw_p16, List.forall_mem_cons.mpr ⟨lw_p17, List.forall_mem_cons.mpr ⟨lw_p18, List.forall_mem_cons.mpr ⟨lw_p19, List.forall_mem_cons.mpr ⟨lw_p20, List.forall_mem_cons.mpr ⟨lw_p21, List.forall_mem_cons.mpr ⟨lw_p22, List.forall_mem_cons.mpr ⟨lw_p23, List.forall_mem_cons.mpr ⟨lw_p24, List.forall_mem_cons.mpr ⟨lw_p25, List.forall_mem_cons.mpr ⟨lw_p26, List.forall_mem_cons.mpr ⟨lw_p27, List.forall_mem_cons.mpr ⟨lw_p28, List.forall_mem_cons.mpr ⟨lw_p29, List.forall_mem_cons.mpr ⟨lw_p30, List.forall_mem_cons.mpr ⟨lw_p31, fun _ h => absurd h List.not_mem_nil⟩⟩⟩⟩⟩⟩⟩⟩⟩⟩⟩⟩⟩⟩⟩⟩
theorem lw_p32 : lw_okq (⟨"TwoReelsModel", "keepDraft", "()V"⟩, 26) := ⟨⟨by decide +kernel, by decide +kernel⟩, List.mem_of_getElem? (i := 862) (by decide +kernel), List.mem_of_getElem? (i := 872) (by decide +kernel), List.mem_of_getElem? (i := 873) (by decide +kernel)⟩
theorem lw_p33 : lw_okq (⟨"TwoReelsModel", "lays", "(I)V"⟩, 26) := ⟨⟨by decide +kernel, by decide +kernel⟩, List.mem_of_getElem? (i := 862) (by decide +kernel), List.mem_of_getElem? (i := 876) (by decide +kernel), List.mem_of_getElem? (i := 877) (by decide +kernel)⟩
theorem lw_p34 : lw_okq (⟨"TwoReelsModel", "beginOf", "(I)I"⟩, 26) := ⟨⟨by decide +kernel, by decide +kernel⟩, List.mem_of_getElem? (i := 862) (by decide +kernel), List.mem_of_getElem? (i := 880) (by decide +kernel), List.mem_of_getElem? (i := 881) (by decide +kernel)⟩
theorem lw_p35 : lw_okq (⟨"TwoReelsModel", "endOf", "(I)I"⟩, 26) := ⟨⟨by decide +kernel, by decide +kernel⟩, List.mem_of_getElem? (i := 862) (by decide +kernel), List.mem_of_getElem? (i := 884) (by decide +kernel), List.mem_of_getElem? (i := 885) (by decide +kernel)⟩
theorem lw_p36 : lw_okq (⟨"TwoReelsModel", "longOf", "(I)I"⟩, 26) := ⟨⟨by decide +kernel, by decide +kernel⟩, List.mem_of_getElem? (i := 862) (by decide +kernel), List.mem_of_getElem? (i := 888) (by decide +kernel), List.mem_of_getElem? (i := 889) (by decide +kernel)⟩
theorem lw_p37 : lw_okq (⟨"TwoReelsModel", "next", "()V"⟩, 26) := ⟨⟨by decide +kernel, by decide +kernel⟩, List.mem_of_getElem? (i := 862) (by decide +kernel), List.mem_of_getElem? (i := 991) (by decide +kernel), List.mem_of_getElem? (i := 992) (by decide +kernel)⟩
theorem lw_p38 : lw_okq (⟨"TwoReelsModel", "look", "(I)I"⟩, 26) := ⟨⟨by decide +kernel, by decide +kernel⟩, List.mem_of_getElem? (i := 862) (by decide +kernel), List.mem_of_getElem? (i := 995) (by decide +kernel), List.mem_of_getElem? (i := 996) (by decide +kernel)⟩
theorem lw_p39 : lw_okq (⟨"TwoReelsModel", "needs", "(ZI)V"⟩, 26) := ⟨⟨by decide +kernel, by decide +kernel⟩, List.mem_of_getElem? (i := 862) (by decide +kernel), List.mem_of_getElem? (i := 1003) (by decide +kernel), List.mem_of_getElem? (i := 1004) (by decide +kernel)⟩
theorem lw_p40 : lw_okq (⟨"TwoReelsModel", "readLine", "()V"⟩, 26) := ⟨⟨by decide +kernel, by decide +kernel⟩, List.mem_of_getElem? (i := 862) (by decide +kernel), List.mem_of_getElem? (i := 1007) (by decide +kernel), List.mem_of_getElem? (i := 1008) (by decide +kernel)⟩
theorem lw_p41 : lw_okq (⟨"TwoReelsModel", "nameNow", "()I"⟩, 26) := ⟨⟨by decide +kernel, by decide +kernel⟩, List.mem_of_getElem? (i := 862) (by decide +kernel), List.mem_of_getElem? (i := 1011) (by decide +kernel), List.mem_of_getElem? (i := 1012) (by decide +kernel)⟩
theorem lw_p42 : lw_okq (⟨"TwoReelsModel", "is", "(IIIII)Z"⟩, 26) := ⟨⟨by decide +kernel, by decide +kernel⟩, List.mem_of_getElem? (i := 862) (by decide +kernel), List.mem_of_getElem? (i := 1015) (by decide +kernel), List.mem_of_getElem? (i := 1016) (by decide +kernel)⟩
theorem lw_p43 : lw_okq (⟨"TwoReelsModel", "readBlock", "()V"⟩, 26) := ⟨⟨by decide +kernel, by decide +kernel⟩, List.mem_of_getElem? (i := 862) (by decide +kernel), List.mem_of_getElem? (i := 1019) (by decide +kernel), List.mem_of_getElem? (i := 1020) (by decide +kernel)⟩
theorem lw_p44 : lw_okq (⟨"TwoReelsModel", "readNumber", "(II)I"⟩, 26) := ⟨⟨by decide +kernel, by decide +kernel⟩, List.mem_of_getElem? (i := 862) (by decide +kernel), List.mem_of_getElem? (i := 1023) (by decide +kernel), List.mem_of_getElem? (i := 1024) (by decide +kernel)⟩
theorem lw_p45 : lw_okq (⟨"TwoReelsModel", "draftEnd", "()I"⟩, 26) := ⟨⟨by decide +kernel, by decide +kernel⟩, List.mem_of_getElem? (i := 862) (by decide +kernel), List.mem_of_getElem? (i := 1033) (by decide +kernel), List.mem_of_getElem? (i := 1034) (by decide +kernel)⟩
theorem lw_p46 : lw_okq (⟨"TwoReelsModel", "isPlace", "(I)Z"⟩, 26) := ⟨⟨by decide +kernel, by decide +kernel⟩, List.mem_of_getElem? (i := 862) (by decide +kernel), List.mem_of_getElem? (i := 1050) (by decide +kernel), List.mem_of_getElem? (i := 1051) (by decide +kernel)⟩
theorem lw_p47 : lw_okq (⟨"TwoReelsModel", "turnsAt", "(I)I"⟩, 26) := ⟨⟨by decide +kernel, by decide +kernel⟩, List.mem_of_getElem? (i := 862) (by decide +kernel), List.mem_of_getElem? (i := 1054) (by decide +kernel), List.mem_of_getElem? (i := 1055) (by decide +kernel)⟩
def lw_privs_3 : List (MethodName × Nat) := [(⟨"TwoReelsModel", "keepDraft", "()V"⟩, 26), (⟨"TwoReelsModel", "lays", "(I)V"⟩, 26), (⟨"TwoReelsModel", "beginOf", "(I)I"⟩, 26), (⟨"TwoReelsModel", "endOf", "(I)I"⟩, 26), (⟨"TwoReelsModel", "longOf", "(I)I"⟩, 26), (⟨"TwoReelsModel", "next", "()V"⟩, 26), (⟨"TwoReelsModel", "look", "(I)I"⟩, 26), (⟨"TwoReelsModel", "needs", "(ZI)V"⟩, 26), (⟨"TwoReelsModel", "readLine", "()V"⟩, 26), (⟨"TwoReelsModel", "nameNow", "()I"⟩, 26), (⟨"TwoReelsModel", "is", "(IIIII)Z"⟩, 26), (⟨"TwoReelsModel", "readBlock", "()V"⟩, 26), (⟨"TwoReelsModel", "readNumber", "(II)I"⟩, 26), (⟨"TwoReelsModel", "draftEnd", "()I"⟩, 26), (⟨"TwoReelsModel", "isPlace", "(I)Z"⟩, 26), (⟨"TwoReelsModel", "turnsAt", "(I)I"⟩, 26)]
theorem lw_r3 : ∀ q ∈ lw_privs_3, lw_okq q := List.forall_mem_cons.mpr ⟨lw_p32, List.forall_mem_cons.mpr ⟨lw_p33, List.forall_mem_cons.mpr ⟨lw_p34, List.forall_mem_cons.mpr ⟨lw_p35, List.forall_mem_cons.mpr ⟨lw_p36, List.forall_mem_cons.mpr ⟨lw_p37, List.forall_mem_cons.mpr ⟨lw_p38, List.forall_mem_cons.mpr ⟨lw_p39, List.forall_mem_cons.mpr ⟨lw_p40, List.forall_mem_cons.mpr ⟨lw_p41, List.forall_mem_cons.mpr ⟨lw_p42, List.forall_mem_cons.mpr ⟨lw_p43, List.forall_mem_cons.mpr ⟨lw_p44, List.forall_mem_cons.mpr ⟨lw_p45, List.forall_mem_cons.mpr ⟨lw_p46, List.forall_mem_cons.mpr ⟨lw_p47, fun _ h => absurd h List.not_mem_nil⟩⟩⟩⟩⟩⟩⟩⟩⟩⟩⟩⟩⟩⟩⟩⟩
theorem lw_p48 : lw_okq (⟨"TwoReelsModel", "playedTo", "(II)I"⟩, 26) := ⟨⟨by decide +kernel, by decide +kernel⟩, List.mem_of_getElem? (i := 862) (by decide +kernel), List.mem_of_getElem? (i := 1074) (by decide +kernel), List.mem_of_getElem? (i := 1075) (by decide +kernel)⟩
theorem lw_p49 : lw_okq (⟨"TwoReelsModel", "woundTo", "(II)I"⟩, 26) := ⟨⟨by decide +kernel, by decide +kernel⟩, List.mem_of_getElem? (i := 862) (by decide +kernel), List.mem_of_getElem? (i := 1081) (by decide +kernel), List.mem_of_getElem? (i := 1082) (by decide +kernel)⟩
theorem lw_p50 : lw_okq (⟨"TwoReelsModel", "sooner", "(II)I"⟩, 26) := ⟨⟨by decide +kernel, by decide +kernel⟩, List.mem_of_getElem? (i := 862) (by decide +kernel), List.mem_of_getElem? (i := 1085) (by decide +kernel), List.mem_of_getElem? (i := 1086) (by decide +kernel)⟩
theorem lw_p51 : lw_okq (⟨"TwoReelsModel", "goesTo", "(I)I"⟩, 26) := ⟨⟨by decide +kernel, by decide +kernel⟩, List.mem_of_getElem? (i := 862) (by decide +kernel), List.mem_of_getElem? (i := 1096) (by decide +kernel), List.mem_of_getElem? (i := 1097) (by decide +kernel)⟩
theorem lw_p52 : lw_okq (⟨"TwoReelsModel", "endOfAll", "()I"⟩, 26) := ⟨⟨by decide +kernel, by decide +kernel⟩, List.mem_of_getElem? (i := 862) (by decide +kernel), List.mem_of_getElem? (i := 1104) (by decide +kernel), List.mem_of_getElem? (i := 1105) (by decide +kernel)⟩
theorem lw_p53 : lw_okq (⟨"TwoReelsModel", "isBlock", "(I)Z"⟩, 26) := ⟨⟨by decide +kernel, by decide +kernel⟩, List.mem_of_getElem? (i := 862) (by decide +kernel), List.mem_of_getElem? (i := 1117) (by decide +kernel), List.mem_of_getElem? (i := 1118) (by decide +kernel)⟩
theorem lw_p54 : lw_okq (⟨"TwoReelsModel", "columnOf", "(II)I"⟩, 26) := ⟨⟨by decide +kernel, by decide +kernel⟩, List.mem_of_getElem? (i := 862) (by decide +kernel), List.mem_of_getElem? (i := 1121) (by decide +kernel), List.mem_of_getElem? (i := 1122) (by decide +kernel)⟩
theorem lw_p55 : lw_okq (⟨"TwoReelsModel", "writes", "(II)I"⟩, 26) := ⟨⟨by decide +kernel, by decide +kernel⟩, List.mem_of_getElem? (i := 862) (by decide +kernel), List.mem_of_getElem? (i := 1137) (by decide +kernel), List.mem_of_getElem? (i := 1138) (by decide +kernel)⟩
theorem lw_p56 : lw_okq (⟨"TwoReelsModel", "isColumn", "(II)Z"⟩, 26) := ⟨⟨by decide +kernel, by decide +kernel⟩, List.mem_of_getElem? (i := 862) (by decide +kernel), List.mem_of_getElem? (i := 1149) (by decide +kernel), List.mem_of_getElem? (i := 1150) (by decide +kernel)⟩
theorem lw_p57 : lw_okq (⟨"TwoReelsModel", "reading", "(II)I"⟩, 26) := ⟨⟨by decide +kernel, by decide +kernel⟩, List.mem_of_getElem? (i := 862) (by decide +kernel), List.mem_of_getElem? (i := 1164) (by decide +kernel), List.mem_of_getElem? (i := 1165) (by decide +kernel)⟩
theorem lw_p58 : lw_okq (⟨"TwoReelsModel", "across", "(I)I"⟩, 26) := ⟨⟨by decide +kernel, by decide +kernel⟩, List.mem_of_getElem? (i := 862) (by decide +kernel), List.mem_of_getElem? (i := 1168) (by decide +kernel), List.mem_of_getElem? (i := 1169) (by decide +kernel)⟩
theorem lw_p59 : lw_okq (⟨"TwoReelsModel", "isFooled", "(I)Z"⟩, 26) := ⟨⟨by decide +kernel, by decide +kernel⟩, List.mem_of_getElem? (i := 862) (by decide +kernel), List.mem_of_getElem? (i := 1187) (by decide +kernel), List.mem_of_getElem? (i := 1188) (by decide +kernel)⟩
theorem lw_p60 : lw_okq (⟨"TwoReelsModel", "areBlocks", "(I)Z"⟩, 26) := ⟨⟨by decide +kernel, by decide +kernel⟩, List.mem_of_getElem? (i := 862) (by decide +kernel), List.mem_of_getElem? (i := 1202) (by decide +kernel), List.mem_of_getElem? (i := 1203) (by decide +kernel)⟩
theorem lw_p61 : lw_okq (⟨"TwoReelsModel", "layRest", "(I)V"⟩, 26) := ⟨⟨by decide +kernel, by decide +kernel⟩, List.mem_of_getElem? (i := 862) (by decide +kernel), List.mem_of_getElem? (i := 1211) (by decide +kernel), List.mem_of_getElem? (i := 1212) (by decide +kernel)⟩
theorem lw_p62 : lw_okq (⟨"TwoReelsModel", "takes", "(II)I"⟩, 26) := ⟨⟨by decide +kernel, by decide +kernel⟩, List.mem_of_getElem? (i := 862) (by decide +kernel), List.mem_of_getElem? (i := 1216) (by decide +kernel), List.mem_of_getElem? (i := 1217) (by decide +kernel)⟩
theorem lw_p63 : lw_okq (⟨"TwoReelsModel", "nthOf", "(I)I"⟩, 26) := ⟨⟨by decide +kernel, by decide +kernel⟩, List.mem_of_getElem? (i := 862) (by decide +kernel), List.mem_of_getElem? (i := 1220) (by decide +kernel), List.mem_of_getElem? (i := 1221) (by decide +kernel)⟩
def lw_privs_4 : List (MethodName × Nat) := [(⟨"TwoReelsModel", "playedTo", "(II)I"⟩, 26), (⟨"TwoReelsModel", "woundTo", "(II)I"⟩, 26), (⟨"TwoReelsModel", "sooner", "(II)I"⟩, 26), (⟨"TwoReelsModel", "goesTo", "(I)I"⟩, 26), (⟨"TwoReelsModel", "endOfAll", "()I"⟩, 26), (⟨"TwoReelsModel", "isBlock", "(I)Z"⟩, 26), (⟨"TwoReelsModel", "columnOf", "(II)I"⟩, 26), (⟨"TwoReelsModel", "writes", "(II)I"⟩, 26), (⟨"TwoReelsModel", "isColumn", "(II)Z"⟩, 26), (⟨"TwoReelsModel", "reading", "(II)I"⟩, 26), (⟨"TwoReelsModel", "across", "(I)I"⟩, 26), (⟨"TwoReelsModel", "isFooled", "(I)Z"⟩, 26), (⟨"TwoReelsModel", "areBlocks", "(I)Z"⟩, 26), (⟨"TwoReelsModel", "layRest", "(I)V"⟩, 26), (⟨"TwoReelsModel", "takes", "(II)I"⟩, 26), (⟨"TwoReelsModel", "nthOf", "(I)I"⟩, 26)]
theorem lw_r4 : ∀ q ∈ lw_privs_4, lw_okq q := List.forall_mem_cons.mpr ⟨lw_p48, List.forall_mem_cons.mpr ⟨lw_p49, List.forall_mem_cons.mpr ⟨lw_p50, List.forall_mem_cons.mpr ⟨lw_p51, List.forall_mem_cons.mpr ⟨lw_p52, List.forall_mem_cons.mpr ⟨lw_p53, List.forall_mem_cons.mpr ⟨lw_p54, List.forall_mem_cons.mpr ⟨lw_p55, List.forall_mem_cons.mpr ⟨lw_p56, List.forall_mem_cons.mpr ⟨lw_p57, List.forall_mem_cons.mpr ⟨lw_p58, List.forall_mem_cons.mpr ⟨lw_p59, List.forall_mem_cons.mpr ⟨lw_p60, List.forall_mem_cons.mpr ⟨lw_p61, List.forall_mem_cons.mpr ⟨lw_p62, List.forall_mem_cons.mpr ⟨lw_p63, fun _ h => absurd h List.not_mem_nil⟩⟩⟩⟩⟩⟩⟩⟩⟩⟩⟩⟩⟩⟩⟩⟩
theorem lw_p64 : lw_okq (⟨"TwoReelsModel", "follows", "(II)I"⟩, 26) := ⟨⟨by decide +kernel, by decide +kernel⟩, List.mem_of_getElem? (i := 862) (by decide +kernel), List.mem_of_getElem? (i := 1224) (by decide +kernel), List.mem_of_getElem? (i := 1225) (by decide +kernel)⟩
theorem lw_p65 : lw_okq (⟨"TwoReelsModel", "moves", "(III)V"⟩, 26) := ⟨⟨by decide +kernel, by decide +kernel⟩, List.mem_of_getElem? (i := 862) (by decide +kernel), List.mem_of_getElem? (i := 1236) (by decide +kernel), List.mem_of_getElem? (i := 1237) (by decide +kernel)⟩
theorem lw_p66 : lw_okq (⟨"TwoReelsModel", "holdsOf", "(I)I"⟩, 26) := ⟨⟨by decide +kernel, by decide +kernel⟩, List.mem_of_getElem? (i := 862) (by decide +kernel), List.mem_of_getElem? (i := 1245) (by decide +kernel), List.mem_of_getElem? (i := 1246) (by decide +kernel)⟩
theorem lw_p67 : lw_okq (⟨"TwoReelsModel", "streams", "(IIII)I"⟩, 26) := ⟨⟨by decide +kernel, by decide +kernel⟩, List.mem_of_getElem? (i := 862) (by decide +kernel), List.mem_of_getElem? (i := 1261) (by decide +kernel), List.mem_of_getElem? (i := 1262) (by decide +kernel)⟩
theorem lw_p68 : lw_okq (⟨"TwoReelsModel", "canBe", "(II)Z"⟩, 26) := ⟨⟨by decide +kernel, by decide +kernel⟩, List.mem_of_getElem? (i := 862) (by decide +kernel), List.mem_of_getElem? (i := 1282) (by decide +kernel), List.mem_of_getElem? (i := 1283) (by decide +kernel)⟩
theorem lw_p69 : lw_okq (⟨"TwoReelsModel", "copies", "(II)V"⟩, 26) := ⟨⟨by decide +kernel, by decide +kernel⟩, List.mem_of_getElem? (i := 862) (by decide +kernel), List.mem_of_getElem? (i := 1290) (by decide +kernel), List.mem_of_getElem? (i := 1291) (by decide +kernel)⟩
def lw_privs_5 : List (MethodName × Nat) := [(⟨"TwoReelsModel", "follows", "(II)I"⟩, 26), (⟨"TwoReelsModel", "moves", "(III)V"⟩, 26), (⟨"TwoReelsModel", "holdsOf", "(I)I"⟩, 26), (⟨"TwoReelsModel", "streams", "(IIII)I"⟩, 26), (⟨"TwoReelsModel", "canBe", "(II)Z"⟩, 26), (⟨"TwoReelsModel", "copies", "(II)V"⟩, 26)]
theorem lw_r5 : ∀ q ∈ lw_privs_5, lw_okq q := List.forall_mem_cons.mpr ⟨lw_p64, List.forall_mem_cons.mpr ⟨lw_p65, List.forall_mem_cons.mpr ⟨lw_p66, List.forall_mem_cons.mpr ⟨lw_p67, List.forall_mem_cons.mpr ⟨lw_p68, List.forall_mem_cons.mpr ⟨lw_p69, fun _ h => absurd h List.not_mem_nil⟩⟩⟩⟩⟩⟩
def lw_privs : List (MethodName × Nat) := lw_privs_1 ++ (lw_privs_2 ++ (lw_privs_3 ++ (lw_privs_4 ++ (lw_privs_5))))
def lw_tbl : List Cond := k2_sels lw_privs ++ tables_1
theorem lw_privs_ok : ∀ q ∈ lw_privs, lw_okq q := by
  show ∀ q ∈ lw_privs_1 ++ (lw_privs_2 ++ (lw_privs_3 ++ (lw_privs_4 ++ (lw_privs_5)))), lw_okq q
  exact List.forall_mem_append.mpr ⟨lw_r1, List.forall_mem_append.mpr ⟨lw_r2, List.forall_mem_append.mpr ⟨lw_r3, List.forall_mem_append.mpr ⟨lw_r4, lw_r5⟩⟩⟩⟩
-- ===== end of PART A; then your names; then what follows =====
/-! ===== BEGIN words of one list among another's, by their places ===== -/
theorem goodIn_r {big : List Cond} (ws : List Cond) (ps : List Nat) (hp : ws = ps.filterMap (fun i => big[i]?)) (h : ws.all goodWord = true) : GoodIn big ws := by
  intro w hw
  have h1 := List.all_eq_true.mp h w hw
  rw [hp] at hw
  obtain ⟨i, -, hi⟩ := List.mem_filterMap.mp hw
  have hm : w ∈ big := by first | exact List.mem_of_getElem? hi | exact List.getElem?_mem hi
  exact ⟨hm, good_of_word h1⟩
theorem goodIn_app {big a b : List Cond} (ha : GoodIn big a) (hb : GoodIn big b) : GoodIn big (a ++ b) := fun w h => (List.mem_append.mp h).elim (ha w) (hb w)
theorem goodIn_ca {big a b : List Cond} {c : Cond} (ha : GoodIn big (c :: a)) (hb : GoodIn big b) : GoodIn big (c :: (a ++ b)) := fun w h => (List.mem_cons.mp h).elim (fun e => ha w (List.mem_cons.mpr (Or.inl e))) (fun h => (List.mem_append.mp h).elim (fun h => ha w (List.mem_cons.mpr (Or.inr h))) (hb w))
theorem goodIn_sub {big ws : List Cond} (hm : ∀ w ∈ ws, w ∈ big) (h : ws.all goodWord = true) : GoodIn big ws := fun w hw => ⟨hm w hw, good_of_word (List.all_eq_true.mp h w hw)⟩
/-! ===== END ===== -/

/-! ===== BEGIN printed: names, fields, word lists, decode rows ===== -/
def RX0 : String := "TwoReels$Route"
def TX0 : u_T := fun k => match k with
  | 0 => ("TwoReels$Route", "hops", "[I", true)
  | 1 => ("TwoReels$Route", "fewest", "[I", true)
  | 2 => ("TwoReels$Route", "chosen", "[I", true)
  | 3 => ("TwoReels$Route", "stops", "[I", true)
  | 4 => ("TwoReels$Route", "count", "I", false)
  | _ => ("TwoReels$Route", "ticksInAll", "I", false)
def tyX0 : Nat → FieldType := fun k => match k with
  | 0 => .array .int
  | 1 => .array .int
  | 2 => .array .int
  | 3 => .array .int
  | 4 => .int
  | _ => .int
abbrev wsX00 : List Cond := u_ws RX0 TX0 6
theorem nmX0 : ∀ a, a < 6 → ∀ b, b < 6 → a ≠ b → (TX0 a).2.1 ≠ (TX0 b).2.1 := by decide +kernel
theorem tyX0_ok : ∀ k, k < 6 → parseFieldDescriptor (TX0 k).2.2.1 = some (tyX0 k) := by decide +kernel
abbrev cX0_init : ByteArray := prog_2_method_1_code
def yX0_init : MethodName := ⟨RX0, "<init>", "()V"⟩
abbrev cX0_plan : ByteArray := prog_2_method_2_code
def yX0_plan : MethodName := ⟨RX0, "plan", "(LTwoReels$Tape;I)V"⟩
abbrev cX0_stopAt : ByteArray := prog_2_method_3_code
def yX0_stopAt : MethodName := ⟨RX0, "stopAt", "(I)I"⟩
abbrev cX0_choose : ByteArray := prog_2_method_4_code
def yX0_choose : MethodName := ⟨RX0, "choose", "(I)V"⟩
abbrev cX0_measureHops : ByteArray := prog_2_method_5_code
def yX0_measureHops : MethodName := ⟨RX0, "measureHops", "(LTwoReels$Tape;)V"⟩
abbrev cX0_ticksBy : ByteArray := prog_2_method_6_code
def yX0_ticksBy : MethodName := ⟨RX0, "ticksBy", "(III)I"⟩
abbrev cX0_fewestFrom : ByteArray := prog_2_method_7_code
def yX0_fewestFrom : MethodName := ⟨RX0, "fewestFrom", "(II)I"⟩
abbrev cX0_followFirst : ByteArray := prog_2_method_8_code
def yX0_followFirst : MethodName := ⟨RX0, "followFirst", "()V"⟩
abbrev cX0_firstOfFewest : ByteArray := prog_2_method_9_code
def yX0_firstOfFewest : MethodName := ⟨RX0, "firstOfFewest", "(II)I"⟩
def RX1 : String := "TwoReels$Sheet"
def TX1 : u_T := fun k => match k with
  | 0 => ("TwoReels$Sheet", "cells", "[I", true)
  | 1 => ("TwoReels$Sheet", "laneNow", "I", false)
  | _ => ("TwoReels$Sheet", "cellCount", "I", false)
def tyX1 : Nat → FieldType := fun k => match k with
  | 0 => .array .int
  | 1 => .int
  | _ => .int
abbrev wsX10 : List Cond := u_ws RX1 TX1 3
theorem nmX1 : ∀ a, a < 3 → ∀ b, b < 3 → a ≠ b → (TX1 a).2.1 ≠ (TX1 b).2.1 := by decide +kernel
theorem tyX1_ok : ∀ k, k < 3 → parseFieldDescriptor (TX1 k).2.2.1 = some (tyX1 k) := by decide +kernel
abbrev cX1_init : ByteArray := prog_3_method_1_code
def yX1_init : MethodName := ⟨RX1, "<init>", "()V"⟩
abbrev cX1_isNothing : ByteArray := prog_3_method_2_code
def yX1_isNothing : MethodName := ⟨RX1, "isNothing", "()Z"⟩
abbrev cX1_makeNew : ByteArray := prog_3_method_3_code
def yX1_makeNew : MethodName := ⟨RX1, "makeNew", "(II)V"⟩
abbrev cX1_faultOf : ByteArray := prog_3_method_4_code
def yX1_faultOf : MethodName := ⟨RX1, "faultOf", "(II)I"⟩
abbrev cX1_cellAt : ByteArray := prog_3_method_5_code
def yX1_cellAt : MethodName := ⟨RX1, "cellAt", "(I)I"⟩
abbrev cX1_put : ByteArray := prog_3_method_6_code
def yX1_put : MethodName := ⟨RX1, "put", "(II)V"⟩
def RX2 : String := "TwoReels$Tape"
def TX2 : u_T := fun k => match k with
  | 0 => ("TwoReels$Tape", "rules", "[I", true)
  | 1 => ("TwoReels$Tape", "begins", "[I", true)
  | 2 => ("TwoReels$Tape", "sizes", "[I", true)
  | 3 => ("TwoReels$Tape", "columns", "[I", true)
  | 4 => ("TwoReels$Tape", "originals", "[I", true)
  | 5 => ("TwoReels$Tape", "typed", "[I", true)
  | 6 => ("TwoReels$Tape", "seenCounters", "[I", true)
  | 7 => ("TwoReels$Tape", "seenPlaces", "[I", true)
  | 8 => ("TwoReels$Tape", "blockCount", "I", false)
  | 9 => ("TwoReels$Tape", "head", "I", false)
  | 10 => ("TwoReels$Tape", "ticksSoFar", "I", false)
  | 11 => ("TwoReels$Tape", "typedCount", "I", false)
  | 12 => ("TwoReels$Tape", "deadTrack", "I", false)
  | _ => ("TwoReels$Tape", "seenCount", "I", false)
def tyX2 : Nat → FieldType := fun k => match k with
  | 0 => .array .int
  | 1 => .array .int
  | 2 => .array .int
  | 3 => .array .int
  | 4 => .array .int
  | 5 => .array .int
  | 6 => .array .int
  | 7 => .array .int
  | 8 => .int
  | 9 => .int
  | 10 => .int
  | 11 => .int
  | 12 => .int
  | _ => .int
abbrev wsX20 : List Cond := u_ws RX2 TX2 14
theorem nmX2 : ∀ a, a < 14 → ∀ b, b < 14 → a ≠ b → (TX2 a).2.1 ≠ (TX2 b).2.1 := by decide +kernel
theorem tyX2_ok : ∀ k, k < 14 → parseFieldDescriptor (TX2 k).2.2.1 = some (tyX2 k) := by decide +kernel
abbrev cX2_init : ByteArray := prog_4_method_1_code
def yX2_init : MethodName := ⟨RX2, "<init>", "()V"⟩
abbrev cX2_reset : ByteArray := prog_4_method_2_code
def yX2_reset : MethodName := ⟨RX2, "reset", "()V"⟩
abbrev cX2_becomes : ByteArray := prog_4_method_3_code
def yX2_becomes : MethodName := ⟨RX2, "becomes", "(LTwoReels$Tape;)V"⟩
abbrev cX2_ruled : ByteArray := prog_4_method_4_code
def yX2_ruled : MethodName := ⟨RX2, "ruled", "(I)I"⟩
abbrev cX2_hasPlace : ByteArray := prog_4_method_5_code
def yX2_hasPlace : MethodName := ⟨RX2, "hasPlace", "(I)Z"⟩
abbrev cX2_turnsOf : ByteArray := prog_4_method_6_code
def yX2_turnsOf : MethodName := ⟨RX2, "turnsOf", "(I)I"⟩
abbrev cX2_rightTurns : ByteArray := prog_4_method_7_code
def yX2_rightTurns : MethodName := ⟨RX2, "rightTurns", "(I)I"⟩
abbrev cX2_leftTurns : ByteArray := prog_4_method_8_code
def yX2_leftTurns : MethodName := ⟨RX2, "leftTurns", "(I)I"⟩
abbrev cX2_firstShowing : ByteArray := prog_4_method_9_code
def yX2_firstShowing : MethodName := ⟨RX2, "firstShowing", "(I)I"⟩
abbrev cX2_lastShowing : ByteArray := prog_4_method_10_code
def yX2_lastShowing : MethodName := ⟨RX2, "lastShowing", "(I)I"⟩
abbrev cX2_meetingPlace : ByteArray := prog_4_method_11_code
def yX2_meetingPlace : MethodName := ⟨RX2, "meetingPlace", "()I"⟩
abbrev cX2_playedThrough : ByteArray := prog_4_method_12_code
def yX2_playedThrough : MethodName := ⟨RX2, "playedThrough", "(I)I"⟩
abbrev cX2_played : ByteArray := prog_4_method_13_code
def yX2_played : MethodName := ⟨RX2, "played", "(II)I"⟩
abbrev cX2_wound : ByteArray := prog_4_method_14_code
def yX2_wound : MethodName := ⟨RX2, "wound", "(II)I"⟩
abbrev cX2_sooner : ByteArray := prog_4_method_15_code
def yX2_sooner : MethodName := ⟨RX2, "sooner", "(II)I"⟩
abbrev cX2_goTo : ByteArray := prog_4_method_16_code
def yX2_goTo : MethodName := ⟨RX2, "goTo", "(I)I"⟩
abbrev cX2_reach : ByteArray := prog_4_method_17_code
def yX2_reach : MethodName := ⟨RX2, "reach", "(III)I"⟩
abbrev cX2_hasBlock : ByteArray := prog_4_method_18_code
def yX2_hasBlock : MethodName := ⟨RX2, "hasBlock", "(I)Z"⟩
abbrev cX2_hasAllOf : ByteArray := prog_4_method_19_code
def yX2_hasAllOf : MethodName := ⟨RX2, "hasAllOf", "(I)Z"⟩
abbrev cX2_beginOf : ByteArray := prog_4_method_20_code
def yX2_beginOf : MethodName := ⟨RX2, "beginOf", "(I)I"⟩
abbrev cX2_sizeOf : ByteArray := prog_4_method_21_code
def yX2_sizeOf : MethodName := ⟨RX2, "sizeOf", "(I)I"⟩
abbrev cX2_isMark : ByteArray := prog_4_method_22_code
def yX2_isMark : MethodName := ⟨RX2, "isMark", "(I)Z"⟩
abbrev cX2_longWith : ByteArray := prog_4_method_23_code
def yX2_longWith : MethodName := ⟨RX2, "longWith", "(I)I"⟩
abbrev cX2_longOf : ByteArray := prog_4_method_24_code
def yX2_longOf : MethodName := ⟨RX2, "longOf", "(I)I"⟩
abbrev cX2_endOf : ByteArray := prog_4_method_25_code
def yX2_endOf : MethodName := ⟨RX2, "endOf", "(I)I"⟩
abbrev cX2_blockWith : ByteArray := prog_4_method_26_code
def yX2_blockWith : MethodName := ⟨RX2, "blockWith", "(I)I"⟩
abbrev cX2_markCount : ByteArray := prog_4_method_27_code
def yX2_markCount : MethodName := ⟨RX2, "markCount", "()I"⟩
abbrev cX2_byteCount : ByteArray := prog_4_method_28_code
def yX2_byteCount : MethodName := ⟨RX2, "byteCount", "()I"⟩
abbrev cX2_typeOne : ByteArray := prog_4_method_29_code
def yX2_typeOne : MethodName := ⟨RX2, "typeOne", "(I)I"⟩
abbrev cX2_beginningAt : ByteArray := prog_4_method_30_code
def yX2_beginningAt : MethodName := ⟨RX2, "beginningAt", "(I)I"⟩
abbrev cX2_hasRoomAt : ByteArray := prog_4_method_31_code
def yX2_hasRoomAt : MethodName := ⟨RX2, "hasRoomAt", "(II)Z"⟩
abbrev cX2_writeAt : ByteArray := prog_4_method_32_code
def yX2_writeAt : MethodName := ⟨RX2, "writeAt", "(II)I"⟩
abbrev cX2_putBlock : ByteArray := prog_4_method_33_code
def yX2_putBlock : MethodName := ⟨RX2, "putBlock", "(III)V"⟩
abbrev cX2_layOutBlocks : ByteArray := prog_4_method_34_code
def yX2_layOutBlocks : MethodName := ⟨RX2, "layOutBlocks", "()V"⟩
abbrev cX2_cutOut : ByteArray := prog_4_method_35_code
def yX2_cutOut : MethodName := ⟨RX2, "cutOut", "(II)I"⟩
abbrev cX2_moveBlock : ByteArray := prog_4_method_36_code
def yX2_moveBlock : MethodName := ⟨RX2, "moveBlock", "(III)V"⟩
abbrev cX2_hasColumn : ByteArray := prog_4_method_37_code
def yX2_hasColumn : MethodName := ⟨RX2, "hasColumn", "(II)Z"⟩
abbrev cX2_columnOf : ByteArray := prog_4_method_38_code
def yX2_columnOf : MethodName := ⟨RX2, "columnOf", "(II)I"⟩
abbrev cX2_setColumn : ByteArray := prog_4_method_39_code
def yX2_setColumn : MethodName := ⟨RX2, "setColumn", "(III)V"⟩
abbrev cX2_turnBit : ByteArray := prog_4_method_40_code
def yX2_turnBit : MethodName := ⟨RX2, "turnBit", "(III)I"⟩
abbrev cX2_originalOf : ByteArray := prog_4_method_41_code
def yX2_originalOf : MethodName := ⟨RX2, "originalOf", "(II)I"⟩
abbrev cX2_isWrongAlong : ByteArray := prog_4_method_42_code
def yX2_isWrongAlong : MethodName := ⟨RX2, "isWrongAlong", "(II)Z"⟩
abbrev cX2_wrongAlongCount : ByteArray := prog_4_method_43_code
def yX2_wrongAlongCount : MethodName := ⟨RX2, "wrongAlongCount", "(I)I"⟩
abbrev cX2_wrongAcross : ByteArray := prog_4_method_44_code
def yX2_wrongAcross : MethodName := ⟨RX2, "wrongAcross", "(I)I"⟩
abbrev cX2_readingOf : ByteArray := prog_4_method_45_code
def yX2_readingOf : MethodName := ⟨RX2, "readingOf", "(II)I"⟩
abbrev cX2_byteAsRead : ByteArray := prog_4_method_46_code
def yX2_byteAsRead : MethodName := ⟨RX2, "byteAsRead", "(II)I"⟩
abbrev cX2_isReadAsWritten : ByteArray := prog_4_method_47_code
def yX2_isReadAsWritten : MethodName := ⟨RX2, "isReadAsWritten", "(I)Z"⟩
abbrev cX2_lostBlocksBy : ByteArray := prog_4_method_48_code
def yX2_lostBlocksBy : MethodName := ⟨RX2, "lostBlocksBy", "(I)I"⟩
abbrev cX2_fooledBlocks : ByteArray := prog_4_method_49_code
def yX2_fooledBlocks : MethodName := ⟨RX2, "fooledBlocks", "()I"⟩
abbrev cX2_mendedBlocks : ByteArray := prog_4_method_50_code
def yX2_mendedBlocks : MethodName := ⟨RX2, "mendedBlocks", "()I"⟩
abbrev cX2_roomFor : ByteArray := prog_4_method_51_code
def yX2_roomFor : MethodName := ⟨RX2, "roomFor", "(I)I"⟩
abbrev cX2_streamed : ByteArray := prog_4_method_52_code
def yX2_streamed : MethodName := ⟨RX2, "streamed", "(IIIIZ)I"⟩
abbrev cX2_timeWhenFilled : ByteArray := prog_4_method_53_code
def yX2_timeWhenFilled : MethodName := ⟨RX2, "timeWhenFilled", "(IIIII)I"⟩
abbrev cX2_addSeen : ByteArray := prog_4_method_54_code
def yX2_addSeen : MethodName := ⟨RX2, "addSeen", "(II)I"⟩
abbrev cX2_canBe : ByteArray := prog_4_method_55_code
def yX2_canBe : MethodName := ⟨RX2, "canBe", "(II)Z"⟩
def RX3 : String := "TwoReels$TextReader"
def TX3 : u_T := fun k => match k with
  | 0 => ("TwoReels$TextReader", "letters", "[B", true)
  | 1 => ("TwoReels$TextReader", "draft", "LTwoReels$Tape;", true)
  | 2 => ("TwoReels$TextReader", "letterCount", "I", false)
  | 3 => ("TwoReels$TextReader", "next", "I", false)
  | 4 => ("TwoReels$TextReader", "kind", "I", false)
  | 5 => ("TwoReels$TextReader", "start", "I", false)
  | 6 => ("TwoReels$TextReader", "value", "I", false)
  | 7 => ("TwoReels$TextReader", "toldRules", "I", false)
  | 8 => ("TwoReels$TextReader", "faultCode", "I", false)
  | _ => ("TwoReels$TextReader", "faultPlace", "I", false)
def tyX3 : Nat → FieldType := fun k => match k with
  | 0 => .array .byte
  | 1 => .object "TwoReels$Tape"
  | 2 => .int
  | 3 => .int
  | 4 => .int
  | 5 => .int
  | 6 => .int
  | 7 => .int
  | 8 => .int
  | _ => .int
abbrev wsX30 : List Cond := u_ws RX3 TX3 10
theorem nmX3 : ∀ a, a < 10 → ∀ b, b < 10 → a ≠ b → (TX3 a).2.1 ≠ (TX3 b).2.1 := by decide +kernel
theorem tyX3_ok : ∀ k, k < 10 → parseFieldDescriptor (TX3 k).2.2.1 = some (tyX3 k) := by decide +kernel
abbrev cX3_init : ByteArray := prog_5_method_1_code
def yX3_init : MethodName := ⟨RX3, "<init>", "()V"⟩
abbrev cX3_addLetter : ByteArray := prog_5_method_2_code
def yX3_addLetter : MethodName := ⟨RX3, "addLetter", "(B)V"⟩
abbrev cX3_takeAll : ByteArray := prog_5_method_3_code
def yX3_takeAll : MethodName := ⟨RX3, "takeAll", "()I"⟩
abbrev cX3_refuse : ByteArray := prog_5_method_4_code
def yX3_refuse : MethodName := ⟨RX3, "refuse", "(II)V"⟩
abbrev cX3_letterAt : ByteArray := prog_5_method_5_code
def yX3_letterAt : MethodName := ⟨RX3, "letterAt", "(I)I"⟩
abbrev cX3_isSmallLetter : ByteArray := prog_5_method_6_code
def yX3_isSmallLetter : MethodName := ⟨RX3, "isSmallLetter", "(I)Z"⟩
abbrev cX3_isFigure : ByteArray := prog_5_method_7_code
def yX3_isFigure : MethodName := ⟨RX3, "isFigure", "(I)Z"⟩
abbrev cX3_readToken : ByteArray := prog_5_method_8_code
def yX3_readToken : MethodName := ⟨RX3, "readToken", "()V"⟩
abbrev cX3_readNumber : ByteArray := prog_5_method_9_code
def yX3_readNumber : MethodName := ⟨RX3, "readNumber", "()V"⟩
abbrev cX3_isNamed : ByteArray := prog_5_method_10_code
def yX3_isNamed : MethodName := ⟨RX3, "isNamed", "(Ljava/lang/String;)Z"⟩
abbrev cX3_ruleNamed : ByteArray := prog_5_method_11_code
def yX3_ruleNamed : MethodName := ⟨RX3, "ruleNamed", "()I"⟩
abbrev cX3_takeLine : ByteArray := prog_5_method_12_code
def yX3_takeLine : MethodName := ⟨RX3, "takeLine", "()V"⟩
abbrev cX3_takeRule : ByteArray := prog_5_method_13_code
def yX3_takeRule : MethodName := ⟨RX3, "takeRule", "(I)V"⟩
abbrev cX3_takeBlock : ByteArray := prog_5_method_14_code
def yX3_takeBlock : MethodName := ⟨RX3, "takeBlock", "()V"⟩
abbrev cX3_takeMark : ByteArray := prog_5_method_15_code
def yX3_takeMark : MethodName := ⟨RX3, "takeMark", "()V"⟩
abbrev cX3_hasRoomForBlock : ByteArray := prog_5_method_16_code
def yX3_hasRoomForBlock : MethodName := ⟨RX3, "hasRoomForBlock", "()Z"⟩
abbrev cX3_isNumberWithin : ByteArray := prog_5_method_17_code
def yX3_isNumberWithin : MethodName := ⟨RX3, "isNumberWithin", "(II)Z"⟩
abbrev cX3_takeSign : ByteArray := prog_5_method_18_code
def yX3_takeSign : MethodName := ⟨RX3, "takeSign", "()V"⟩
def RX4 : String := "TwoReels"
def TX4 : u_T := fun k => match k with
  | 0 => ("TwoReels", "tape", "LTwoReels$Tape;", true)
  | 1 => ("TwoReels", "textReader", "LTwoReels$TextReader;", true)
  | 2 => ("TwoReels", "route", "LTwoReels$Route;", true)
  | 3 => ("TwoReels", "imageZero", "LTwoReels$Tape;", true)
  | 4 => ("TwoReels", "imageOne", "LTwoReels$Tape;", true)
  | 5 => ("TwoReels", "sheetZero", "LTwoReels$Sheet;", true)
  | 6 => ("TwoReels", "sheetOne", "LTwoReels$Sheet;", true)
  | 7 => ("TwoReels", "sheetTwo", "LTwoReels$Sheet;", true)
  | 8 => ("TwoReels", "sheetThree", "LTwoReels$Sheet;", true)
  | 9 => ("TwoReels", "textFault", "I", false)
  | 10 => ("TwoReels", "readFault", "I", false)
  | _ => ("TwoReels", "imagesKept", "I", false)
def tyX4 : Nat → FieldType := fun k => match k with
  | 0 => .object "TwoReels$Tape"
  | 1 => .object "TwoReels$TextReader"
  | 2 => .object "TwoReels$Route"
  | 3 => .object "TwoReels$Tape"
  | 4 => .object "TwoReels$Tape"
  | 5 => .object "TwoReels$Sheet"
  | 6 => .object "TwoReels$Sheet"
  | 7 => .object "TwoReels$Sheet"
  | 8 => .object "TwoReels$Sheet"
  | 9 => .int
  | 10 => .int
  | _ => .int
abbrev wsX40 : List Cond := u_ws RX4 TX4 12
theorem nmX4 : ∀ a, a < 12 → ∀ b, b < 12 → a ≠ b → (TX4 a).2.1 ≠ (TX4 b).2.1 := by decide +kernel
theorem tyX4_ok : ∀ k, k < 12 → parseFieldDescriptor (TX4 k).2.2.1 = some (tyX4 k) := by decide +kernel
abbrev cX4_init : ByteArray := prog_1_method_1_code
def yX4_init : MethodName := ⟨RX4, "<init>", "()V"⟩
abbrev cX4_feed : ByteArray := prog_1_method_2_code
def yX4_feed : MethodName := ⟨RX4, "feed", "(J)I"⟩
abbrev cX4_end : ByteArray := prog_1_method_3_code
def yX4_end : MethodName := ⟨RX4, "end", "(I)I"⟩
abbrev cX4_text : ByteArray := prog_1_method_4_code
def yX4_text : MethodName := ⟨RX4, "text", "()I"⟩
abbrev cX4_fault : ByteArray := prog_1_method_5_code
def yX4_fault : MethodName := ⟨RX4, "fault", "()I"⟩
abbrev cX4_rule : ByteArray := prog_1_method_6_code
def yX4_rule : MethodName := ⟨RX4, "rule", "(I)I"⟩
abbrev cX4_turns : ByteArray := prog_1_method_7_code
def yX4_turns : MethodName := ⟨RX4, "turns", "(IZ)I"⟩
abbrev cX4_shows : ByteArray := prog_1_method_8_code
def yX4_shows : MethodName := ⟨RX4, "shows", "(II)I"⟩
abbrev cX4_meet : ByteArray := prog_1_method_9_code
def yX4_meet : MethodName := ⟨RX4, "meet", "()I"⟩
abbrev cX4_ticks : ByteArray := prog_1_method_10_code
def yX4_ticks : MethodName := ⟨RX4, "ticks", "(III)I"⟩
abbrev cX4_go : ByteArray := prog_1_method_11_code
def yX4_go : MethodName := ⟨RX4, "go", "(I)I"⟩
abbrev cX4_now : ByteArray := prog_1_method_12_code
def yX4_now : MethodName := ⟨RX4, "now", "(I)I"⟩
abbrev cX4_within : ByteArray := prog_1_method_13_code
def yX4_within : MethodName := ⟨RX4, "within", "(IZ)I"⟩
abbrev cX4_block : ByteArray := prog_1_method_14_code
def yX4_block : MethodName := ⟨RX4, "block", "(II)I"⟩
abbrev cX4_blockAt : ByteArray := prog_1_method_15_code
def yX4_blockAt : MethodName := ⟨RX4, "blockAt", "(I)I"⟩
abbrev cX4_type : ByteArray := prog_1_method_16_code
def yX4_type : MethodName := ⟨RX4, "type", "(I)I"⟩
abbrev cX4_write : ByteArray := prog_1_method_17_code
def yX4_write : MethodName := ⟨RX4, "write", "(I)I"⟩
abbrev cX4_mark : ByteArray := prog_1_method_18_code
def yX4_mark : MethodName := ⟨RX4, "mark", "(I)I"⟩
abbrev cX4_spoil : ByteArray := prog_1_method_19_code
def yX4_spoil : MethodName := ⟨RX4, "spoil", "(III)I"⟩
abbrev cX4_dead : ByteArray := prog_1_method_20_code
def yX4_dead : MethodName := ⟨RX4, "dead", "(I)I"⟩
abbrev cX4_check : ByteArray := prog_1_method_21_code
def yX4_check : MethodName := ⟨RX4, "check", "(I)I"⟩
abbrev cX4_got : ByteArray := prog_1_method_22_code
def yX4_got : MethodName := ⟨RX4, "got", "(II)I"⟩
abbrev cX4_column : ByteArray := prog_1_method_23_code
def yX4_column : MethodName := ⟨RX4, "column", "(II)I"⟩
abbrev cX4_state : ByteArray := prog_1_method_24_code
def yX4_state : MethodName := ⟨RX4, "state", "(I)I"⟩
abbrev cX4_best : ByteArray := prog_1_method_25_code
def yX4_best : MethodName := ⟨RX4, "best", "(I)I"⟩
abbrev cX4_order : ByteArray := prog_1_method_26_code
def yX4_order : MethodName := ⟨RX4, "order", "(II)I"⟩
abbrev cX4_reads : ByteArray := prog_1_method_27_code
def yX4_reads : MethodName := ⟨RX4, "reads", "(I)I"⟩
abbrev cX4_cut : ByteArray := prog_1_method_28_code
def yX4_cut : MethodName := ⟨RX4, "cut", "(II)I"⟩
abbrev cX4_holds : ByteArray := prog_1_method_29_code
def yX4_holds : MethodName := ⟨RX4, "holds", "(I)I"⟩
abbrev cX4_most : ByteArray := prog_1_method_30_code
def yX4_most : MethodName := ⟨RX4, "most", "(I)I"⟩
abbrev cX4_stream : ByteArray := prog_1_method_31_code
def yX4_stream : MethodName := ⟨RX4, "stream", "(IIIII)I"⟩
abbrev cX4_buffer : ByteArray := prog_1_method_32_code
def yX4_buffer : MethodName := ⟨RX4, "buffer", "(IIII)I"⟩
abbrev cX4_saw : ByteArray := prog_1_method_33_code
def yX4_saw : MethodName := ⟨RX4, "saw", "(II)I"⟩
abbrev cX4_forget : ByteArray := prog_1_method_34_code
def yX4_forget : MethodName := ⟨RX4, "forget", "()I"⟩
abbrev cX4_fits : ByteArray := prog_1_method_35_code
def yX4_fits : MethodName := ⟨RX4, "fits", "(I)I"⟩
abbrev cX4_keep : ByteArray := prog_1_method_36_code
def yX4_keep : MethodName := ⟨RX4, "keep", "(I)I"⟩
abbrev cX4_back : ByteArray := prog_1_method_37_code
def yX4_back : MethodName := ⟨RX4, "back", "(I)I"⟩
abbrev cX4_sheet : ByteArray := prog_1_method_38_code
def yX4_sheet : MethodName := ⟨RX4, "sheet", "(III)I"⟩
abbrev cX4_lay : ByteArray := prog_1_method_39_code
def yX4_lay : MethodName := ⟨RX4, "lay", "(III)I"⟩
abbrev cX4_read : ByteArray := prog_1_method_40_code
def yX4_read : MethodName := ⟨RX4, "read", "(IIII)I"⟩
abbrev cX4_torn : ByteArray := prog_1_method_41_code
def yX4_torn : MethodName := ⟨RX4, "torn", "()I"⟩
abbrev cX4_count : ByteArray := prog_1_method_42_code
def yX4_count : MethodName := ⟨RX4, "count", "(I)I"⟩
abbrev cX4_imageNumbered : ByteArray := prog_1_method_43_code
def yX4_imageNumbered : MethodName := ⟨RX4, "imageNumbered", "(I)LTwoReels$Tape;"⟩
abbrev cX4_sheetNumbered : ByteArray := prog_1_method_44_code
def yX4_sheetNumbered : MethodName := ⟨RX4, "sheetNumbered", "(I)LTwoReels$Sheet;"⟩
abbrev cX4_isStream : ByteArray := prog_1_method_45_code
def yX4_isStream : MethodName := ⟨RX4, "isStream", "(III)Z"⟩
abbrev cX4_isBetween : ByteArray := prog_1_method_46_code
def yX4_isBetween : MethodName := ⟨RX4, "isBetween", "(III)Z"⟩
abbrev cX4_dividedUp : ByteArray := prog_1_method_47_code
def yX4_dividedUp : MethodName := ⟨RX4, "dividedUp", "(II)I"⟩
abbrev cX4_lengthOfTurns : ByteArray := prog_1_method_48_code
def yX4_lengthOfTurns : MethodName := ⟨RX4, "lengthOfTurns", "(III)I"⟩
abbrev cX4_cell : ByteArray := prog_1_method_49_code
def yX4_cell : MethodName := ⟨RX4, "cell", "([II)I"⟩
abbrev cX4_setCell : ByteArray := prog_1_method_50_code
def yX4_setCell : MethodName := ⟨RX4, "setCell", "([III)V"⟩
abbrev cX4_copyRow : ByteArray := prog_1_method_51_code
def yX4_copyRow : MethodName := ⟨RX4, "copyRow", "([I[I)V"⟩
def RX5 : String := "TwoReelsModel"
def TX5 : u_T := fun k => match k with
  | 0 => ("TwoReelsModel", "st", "[I", true)
  | 1 => ("TwoReelsModel", "isKept", "[Z", true)
  | 2 => ("TwoReelsModel", "rule", "[I", true)
  | 3 => ("TwoReelsModel", "dRule", "[I", true)
  | 4 => ("TwoReelsModel", "dMany", "I", false)
  | 5 => ("TwoReelsModel", "dSize", "[I", true)
  | 6 => ("TwoReelsModel", "dByte", "[I", true)
  | 7 => ("TwoReelsModel", "toldLines", "I", false)
  | 8 => ("TwoReelsModel", "tape", "[I", true)
  | 9 => ("TwoReelsModel", "taped", "I", false)
  | 10 => ("TwoReelsModel", "pos", "I", false)
  | 11 => ("TwoReelsModel", "from", "I", false)
  | 12 => ("TwoReelsModel", "sort", "I", false)
  | 13 => ("TwoReelsModel", "value", "I", false)
  | 14 => ("TwoReelsModel", "fault", "I", false)
  | 15 => ("TwoReelsModel", "wrongAt", "I", false)
  | 16 => ("TwoReelsModel", "spare", "[I", true)
  | 17 => ("TwoReelsModel", "got", "[I", true)
  | 18 => ("TwoReelsModel", "rest", "[I", true)
  | 19 => ("TwoReelsModel", "those", "[I", true)
  | 20 => ("TwoReelsModel", "thoseMany", "I", false)
  | 21 => ("TwoReelsModel", "stops", "I", false)
  | 22 => ("TwoReelsModel", "lanes", "[I", true)
  | 23 => ("TwoReelsModel", "sizes", "[I", true)
  | 24 => ("TwoReelsModel", "cells", "[I", true)
  | _ => ("TwoReelsModel", "torn", "I", false)
def tyX5 : Nat → FieldType := fun k => match k with
  | 0 => .array .int
  | 1 => .array .boolean
  | 2 => .array .int
  | 3 => .array .int
  | 4 => .int
  | 5 => .array .int
  | 6 => .array .int
  | 7 => .int
  | 8 => .array .int
  | 9 => .int
  | 10 => .int
  | 11 => .int
  | 12 => .int
  | 13 => .int
  | 14 => .int
  | 15 => .int
  | 16 => .array .int
  | 17 => .array .int
  | 18 => .array .int
  | 19 => .array .int
  | 20 => .int
  | 21 => .int
  | 22 => .array .int
  | 23 => .array .int
  | 24 => .array .int
  | _ => .int
abbrev wsX50 : List Cond := u_ws RX5 TX5 26
theorem nmX5 : ∀ a, a < 26 → ∀ b, b < 26 → a ≠ b → (TX5 a).2.1 ≠ (TX5 b).2.1 := by decide +kernel
theorem tyX5_ok : ∀ k, k < 26 → parseFieldDescriptor (TX5 k).2.2.1 = some (tyX5 k) := by decide +kernel
abbrev cX5_init : ByteArray := prog_7_method_1_code
def yX5_init : MethodName := ⟨RX5, "<init>", "()V"⟩
abbrev cX5_in : ByteArray := prog_7_method_3_code
def yX5_in : MethodName := ⟨RX5, "in", "(JJJ)Z"⟩
abbrev cX5_flag : ByteArray := prog_7_method_4_code
def yX5_flag : MethodName := ⟨RX5, "flag", "(Z)I"⟩
abbrev cX5_less : ByteArray := prog_7_method_5_code
def yX5_less : MethodName := ⟨RX5, "less", "(II)I"⟩
abbrev cX5_odd : ByteArray := prog_7_method_6_code
def yX5_odd : MethodName := ⟨RX5, "odd", "(I)I"⟩
abbrev cX5_firstDraft : ByteArray := prog_7_method_7_code
def yX5_firstDraft : MethodName := ⟨RX5, "firstDraft", "()V"⟩
abbrev cX5_longOf : ByteArray := prog_7_method_8_code
def yX5_longOf : MethodName := ⟨RX5, "longOf", "(I)I"⟩
abbrev cX5_draftEnd : ByteArray := prog_7_method_9_code
def yX5_draftEnd : MethodName := ⟨RX5, "draftEnd", "()I"⟩
abbrev cX5_keepDraft : ByteArray := prog_7_method_10_code
def yX5_keepDraft : MethodName := ⟨RX5, "keepDraft", "()V"⟩
abbrev cX5_feed : ByteArray := prog_7_method_11_code
def yX5_feed : MethodName := ⟨RX5, "feed", "(J)I"⟩
abbrev cX5_end : ByteArray := prog_7_method_12_code
def yX5_end : MethodName := ⟨RX5, "end", "(I)I"⟩
abbrev cX5_needs : ByteArray := prog_7_method_13_code
def yX5_needs : MethodName := ⟨RX5, "needs", "(ZI)V"⟩
abbrev cX5_look : ByteArray := prog_7_method_14_code
def yX5_look : MethodName := ⟨RX5, "look", "(I)I"⟩
abbrev cX5_is : ByteArray := prog_7_method_15_code
def yX5_is : MethodName := ⟨RX5, "is", "(IIIII)Z"⟩
abbrev cX5_nameNow : ByteArray := prog_7_method_16_code
def yX5_nameNow : MethodName := ⟨RX5, "nameNow", "()I"⟩
abbrev cX5_next : ByteArray := prog_7_method_17_code
def yX5_next : MethodName := ⟨RX5, "next", "()V"⟩
abbrev cX5_readNumber : ByteArray := prog_7_method_18_code
def yX5_readNumber : MethodName := ⟨RX5, "readNumber", "(II)I"⟩
abbrev cX5_readBlock : ByteArray := prog_7_method_19_code
def yX5_readBlock : MethodName := ⟨RX5, "readBlock", "()V"⟩
abbrev cX5_lowest : ByteArray := prog_7_method_20_code
def yX5_lowest : MethodName := ⟨RX5, "lowest", "(I)I"⟩
abbrev cX5_highest : ByteArray := prog_7_method_21_code
def yX5_highest : MethodName := ⟨RX5, "highest", "(I)I"⟩
abbrev cX5_readLine : ByteArray := prog_7_method_22_code
def yX5_readLine : MethodName := ⟨RX5, "readLine", "()V"⟩
abbrev cX5_text : ByteArray := prog_7_method_23_code
def yX5_text : MethodName := ⟨RX5, "text", "()I"⟩
abbrev cX5_fault : ByteArray := prog_7_method_24_code
def yX5_fault : MethodName := ⟨RX5, "fault", "()I"⟩
abbrev cX5_rule : ByteArray := prog_7_method_25_code
def yX5_rule : MethodName := ⟨RX5, "rule", "(I)I"⟩
abbrev cX5_turnsOf : ByteArray := prog_7_method_26_code
def yX5_turnsOf : MethodName := ⟨RX5, "turnsOf", "(III)I"⟩
abbrev cX5_turnsAt : ByteArray := prog_7_method_27_code
def yX5_turnsAt : MethodName := ⟨RX5, "turnsAt", "(I)I"⟩
abbrev cX5_isPlace : ByteArray := prog_7_method_28_code
def yX5_isPlace : MethodName := ⟨RX5, "isPlace", "(I)Z"⟩
abbrev cX5_turns : ByteArray := prog_7_method_29_code
def yX5_turns : MethodName := ⟨RX5, "turns", "(IZ)I"⟩
abbrev cX5_shows : ByteArray := prog_7_method_30_code
def yX5_shows : MethodName := ⟨RX5, "shows", "(II)I"⟩
abbrev cX5_meet : ByteArray := prog_7_method_31_code
def yX5_meet : MethodName := ⟨RX5, "meet", "()I"⟩
abbrev cX5_apart : ByteArray := prog_7_method_32_code
def yX5_apart : MethodName := ⟨RX5, "apart", "(II)I"⟩
abbrev cX5_playedTo : ByteArray := prog_7_method_33_code
def yX5_playedTo : MethodName := ⟨RX5, "playedTo", "(II)I"⟩
abbrev cX5_woundTo : ByteArray := prog_7_method_34_code
def yX5_woundTo : MethodName := ⟨RX5, "woundTo", "(II)I"⟩
abbrev cX5_sooner : ByteArray := prog_7_method_35_code
def yX5_sooner : MethodName := ⟨RX5, "sooner", "(II)I"⟩
abbrev cX5_ticks : ByteArray := prog_7_method_36_code
def yX5_ticks : MethodName := ⟨RX5, "ticks", "(III)I"⟩
abbrev cX5_goesTo : ByteArray := prog_7_method_37_code
def yX5_goesTo : MethodName := ⟨RX5, "goesTo", "(I)I"⟩
abbrev cX5_go : ByteArray := prog_7_method_38_code
def yX5_go : MethodName := ⟨RX5, "go", "(I)I"⟩
abbrev cX5_endOf : ByteArray := prog_7_method_39_code
def yX5_endOf : MethodName := ⟨RX5, "endOf", "(I)I"⟩
abbrev cX5_endOfAll : ByteArray := prog_7_method_40_code
def yX5_endOfAll : MethodName := ⟨RX5, "endOfAll", "()I"⟩
abbrev cX5_now : ByteArray := prog_7_method_41_code
def yX5_now : MethodName := ⟨RX5, "now", "(I)I"⟩
abbrev cX5_within : ByteArray := prog_7_method_42_code
def yX5_within : MethodName := ⟨RX5, "within", "(IZ)I"⟩
abbrev cX5_beginOf : ByteArray := prog_7_method_43_code
def yX5_beginOf : MethodName := ⟨RX5, "beginOf", "(I)I"⟩
abbrev cX5_lays : ByteArray := prog_7_method_44_code
def yX5_lays : MethodName := ⟨RX5, "lays", "(I)V"⟩
abbrev cX5_isBlock : ByteArray := prog_7_method_45_code
def yX5_isBlock : MethodName := ⟨RX5, "isBlock", "(I)Z"⟩
abbrev cX5_columnOf : ByteArray := prog_7_method_46_code
def yX5_columnOf : MethodName := ⟨RX5, "columnOf", "(II)I"⟩
abbrev cX5_block : ByteArray := prog_7_method_47_code
def yX5_block : MethodName := ⟨RX5, "block", "(II)I"⟩
abbrev cX5_blockAt : ByteArray := prog_7_method_48_code
def yX5_blockAt : MethodName := ⟨RX5, "blockAt", "(I)I"⟩
abbrev cX5_type : ByteArray := prog_7_method_49_code
def yX5_type : MethodName := ⟨RX5, "type", "(I)I"⟩
abbrev cX5_writes : ByteArray := prog_7_method_50_code
def yX5_writes : MethodName := ⟨RX5, "writes", "(II)I"⟩
abbrev cX5_write : ByteArray := prog_7_method_51_code
def yX5_write : MethodName := ⟨RX5, "write", "(I)I"⟩
abbrev cX5_mark : ByteArray := prog_7_method_52_code
def yX5_mark : MethodName := ⟨RX5, "mark", "(I)I"⟩
abbrev cX5_isTrack : ByteArray := prog_7_method_53_code
def yX5_isTrack : MethodName := ⟨RX5, "isTrack", "(I)Z"⟩
abbrev cX5_isColumn : ByteArray := prog_7_method_54_code
def yX5_isColumn : MethodName := ⟨RX5, "isColumn", "(II)Z"⟩
abbrev cX5_spoil : ByteArray := prog_7_method_55_code
def yX5_spoil : MethodName := ⟨RX5, "spoil", "(III)I"⟩
abbrev cX5_dead : ByteArray := prog_7_method_56_code
def yX5_dead : MethodName := ⟨RX5, "dead", "(I)I"⟩
abbrev cX5_across : ByteArray := prog_7_method_57_code
def yX5_across : MethodName := ⟨RX5, "across", "(I)I"⟩
abbrev cX5_onesOf : ByteArray := prog_7_method_58_code
def yX5_onesOf : MethodName := ⟨RX5, "onesOf", "(I)I"⟩
abbrev cX5_reading : ByteArray := prog_7_method_59_code
def yX5_reading : MethodName := ⟨RX5, "reading", "(II)I"⟩
abbrev cX5_check : ByteArray := prog_7_method_60_code
def yX5_check : MethodName := ⟨RX5, "check", "(I)I"⟩
abbrev cX5_got : ByteArray := prog_7_method_61_code
def yX5_got : MethodName := ⟨RX5, "got", "(II)I"⟩
abbrev cX5_column : ByteArray := prog_7_method_62_code
def yX5_column : MethodName := ⟨RX5, "column", "(II)I"⟩
abbrev cX5_isFooled : ByteArray := prog_7_method_63_code
def yX5_isFooled : MethodName := ⟨RX5, "isFooled", "(I)Z"⟩
abbrev cX5_state : ByteArray := prog_7_method_64_code
def yX5_state : MethodName := ⟨RX5, "state", "(I)I"⟩
abbrev cX5_best : ByteArray := prog_7_method_65_code
def yX5_best : MethodName := ⟨RX5, "best", "(I)I"⟩
abbrev cX5_takes : ByteArray := prog_7_method_66_code
def yX5_takes : MethodName := ⟨RX5, "takes", "(II)I"⟩
abbrev cX5_areBlocks : ByteArray := prog_7_method_67_code
def yX5_areBlocks : MethodName := ⟨RX5, "areBlocks", "(I)Z"⟩
abbrev cX5_countOf : ByteArray := prog_7_method_68_code
def yX5_countOf : MethodName := ⟨RX5, "countOf", "(I)I"⟩
abbrev cX5_layRest : ByteArray := prog_7_method_69_code
def yX5_layRest : MethodName := ⟨RX5, "layRest", "(I)V"⟩
abbrev cX5_follows : ByteArray := prog_7_method_70_code
def yX5_follows : MethodName := ⟨RX5, "follows", "(II)I"⟩
abbrev cX5_nthOf : ByteArray := prog_7_method_71_code
def yX5_nthOf : MethodName := ⟨RX5, "nthOf", "(I)I"⟩
abbrev cX5_order : ByteArray := prog_7_method_72_code
def yX5_order : MethodName := ⟨RX5, "order", "(II)I"⟩
abbrev cX5_reads : ByteArray := prog_7_method_73_code
def yX5_reads : MethodName := ⟨RX5, "reads", "(I)I"⟩
abbrev cX5_moves : ByteArray := prog_7_method_74_code
def yX5_moves : MethodName := ⟨RX5, "moves", "(III)V"⟩
abbrev cX5_cut : ByteArray := prog_7_method_75_code
def yX5_cut : MethodName := ⟨RX5, "cut", "(II)I"⟩
abbrev cX5_holdsOf : ByteArray := prog_7_method_76_code
def yX5_holdsOf : MethodName := ⟨RX5, "holdsOf", "(I)I"⟩
abbrev cX5_holds : ByteArray := prog_7_method_77_code
def yX5_holds : MethodName := ⟨RX5, "holds", "(I)I"⟩
abbrev cX5_most : ByteArray := prog_7_method_78_code
def yX5_most : MethodName := ⟨RX5, "most", "(I)I"⟩
abbrev cX5_streams : ByteArray := prog_7_method_79_code
def yX5_streams : MethodName := ⟨RX5, "streams", "(IIII)I"⟩
abbrev cX5_isStream : ByteArray := prog_7_method_80_code
def yX5_isStream : MethodName := ⟨RX5, "isStream", "(III)Z"⟩
abbrev cX5_stream : ByteArray := prog_7_method_81_code
def yX5_stream : MethodName := ⟨RX5, "stream", "(IIIII)I"⟩
abbrev cX5_buffer : ByteArray := prog_7_method_82_code
def yX5_buffer : MethodName := ⟨RX5, "buffer", "(IIII)I"⟩
abbrev cX5_saw : ByteArray := prog_7_method_83_code
def yX5_saw : MethodName := ⟨RX5, "saw", "(II)I"⟩
abbrev cX5_forget : ByteArray := prog_7_method_84_code
def yX5_forget : MethodName := ⟨RX5, "forget", "()I"⟩
abbrev cX5_canBe : ByteArray := prog_7_method_85_code
def yX5_canBe : MethodName := ⟨RX5, "canBe", "(II)Z"⟩
abbrev cX5_fits : ByteArray := prog_7_method_86_code
def yX5_fits : MethodName := ⟨RX5, "fits", "(I)I"⟩
abbrev cX5_copies : ByteArray := prog_7_method_87_code
def yX5_copies : MethodName := ⟨RX5, "copies", "(II)V"⟩
abbrev cX5_keep : ByteArray := prog_7_method_88_code
def yX5_keep : MethodName := ⟨RX5, "keep", "(I)I"⟩
abbrev cX5_back : ByteArray := prog_7_method_89_code
def yX5_back : MethodName := ⟨RX5, "back", "(I)I"⟩
abbrev cX5_isSheet : ByteArray := prog_7_method_90_code
def yX5_isSheet : MethodName := ⟨RX5, "isSheet", "(II)Z"⟩
abbrev cX5_sheet : ByteArray := prog_7_method_91_code
def yX5_sheet : MethodName := ⟨RX5, "sheet", "(III)I"⟩
abbrev cX5_lay : ByteArray := prog_7_method_92_code
def yX5_lay : MethodName := ⟨RX5, "lay", "(III)I"⟩
abbrev cX5_read : ByteArray := prog_7_method_93_code
def yX5_read : MethodName := ⟨RX5, "read", "(IIII)I"⟩
abbrev cX5_torn : ByteArray := prog_7_method_94_code
def yX5_torn : MethodName := ⟨RX5, "torn", "()I"⟩
abbrev cX5_count : ByteArray := prog_7_method_95_code
def yX5_count : MethodName := ⟨RX5, "count", "(I)I"⟩
def RJ6 : String := "java/lang/Integer"
def TJ6 : u_T := fun k => match k with
  | _ => ("", "", "", false)
def tyJ6 : Nat → FieldType := fun k => match k with
  | _ => .int
abbrev wsJ60 : List Cond := u_ws RJ6 TJ6 0
theorem nmJ6 : ∀ a, a < 0 → ∀ b, b < 0 → a ≠ b → (TJ6 a).2.1 ≠ (TJ6 b).2.1 := by decide +kernel
theorem tyJ6_ok : ∀ k, k < 0 → parseFieldDescriptor (TJ6 k).2.2.1 = some (tyJ6 k) := by decide +kernel
abbrev cJ6_bitCount_0f7a4 : ByteArray := prog_8_method_49_code
def yJ6_bitCount_0f7a4 : MethodName := ⟨RJ6, "bitCount", "(I)I"⟩
def RJ9 : String := "java/lang/Math"
def TJ9 : u_T := fun k => match k with
  | _ => ("", "", "", false)
def tyJ9 : Nat → FieldType := fun k => match k with
  | _ => .int
abbrev wsJ90 : List Cond := u_ws RJ9 TJ9 0
theorem nmJ9 : ∀ a, a < 0 → ∀ b, b < 0 → a ≠ b → (TJ9 a).2.1 ≠ (TJ9 b).2.1 := by decide +kernel
theorem tyJ9_ok : ∀ k, k < 0 → parseFieldDescriptor (TJ9 k).2.2.1 = some (tyJ9 k) := by decide +kernel
abbrev cJ9_abs_0f7a4 : ByteArray := prog_9_method_59_code
def yJ9_abs_0f7a4 : MethodName := ⟨RJ9, "abs", "(I)I"⟩
abbrev cJ9_max_7cf53 : ByteArray := prog_9_method_65_code
def yJ9_max_7cf53 : MethodName := ⟨RJ9, "max", "(II)I"⟩
abbrev cJ9_min_7cf53 : ByteArray := prog_9_method_69_code
def yJ9_min_7cf53 : MethodName := ⟨RJ9, "min", "(II)I"⟩
def RJ0 : String := "java/lang/String"
def TJ0 : u_T := fun k => match k with
  | _ => ("", "", "", false)
def tyJ0 : Nat → FieldType := fun k => match k with
  | _ => .int
abbrev wsJ00 : List Cond := u_ws RJ0 TJ0 0
theorem nmJ0 : ∀ a, a < 0 → ∀ b, b < 0 → a ≠ b → (TJ0 a).2.1 ≠ (TJ0 b).2.1 := by decide +kernel
theorem tyJ0_ok : ∀ k, k < 0 → parseFieldDescriptor (TJ0 k).2.2.1 = some (tyJ0 k) := by decide +kernel
abbrev cJ0_length_8abf5 : ByteArray := prog_10_method_54_code
def yJ0_length_8abf5 : MethodName := ⟨RJ0, "length", "()I"⟩
abbrev cJ0_charAt_5068e : ByteArray := prog_10_method_56_code
def yJ0_charAt_5068e : MethodName := ⟨RJ0, "charAt", "(I)C"⟩
abbrev cJ0_coder_7d493 : ByteArray := prog_10_method_152_code
def yJ0_coder_7d493 : MethodName := ⟨RJ0, "coder", "()B"⟩
abbrev cJ0_isLatin1_aae02 : ByteArray := prog_10_method_154_code
def yJ0_isLatin1_aae02 : MethodName := ⟨RJ0, "isLatin1", "()Z"⟩
abbrev cJ0_checkIndex_df160 : ByteArray := prog_10_method_155_code
def yJ0_checkIndex_df160 : MethodName := ⟨RJ0, "checkIndex", "(II)V"⟩
def RJ1 : String := "java/lang/StringLatin1"
def TJ1 : u_T := fun k => match k with
  | _ => ("", "", "", false)
def tyJ1 : Nat → FieldType := fun k => match k with
  | _ => .int
abbrev wsJ10 : List Cond := u_ws RJ1 TJ1 0
theorem nmJ1 : ∀ a, a < 0 → ∀ b, b < 0 → a ≠ b → (TJ1 a).2.1 ≠ (TJ1 b).2.1 := by decide +kernel
theorem tyJ1_ok : ∀ k, k < 0 → parseFieldDescriptor (TJ1 k).2.2.1 = some (tyJ1 k) := by decide +kernel
abbrev cJ1_charAt_3b067 : ByteArray := prog_11_method_2_code
def yJ1_charAt_3b067 : MethodName := ⟨RJ1, "charAt", "([BI)C"⟩
def RJ2 : String := "java/lang/StringUTF16"
def TJ2 : u_T := fun k => match k with
  | _ => ("", "", "", false)
def tyJ2 : Nat → FieldType := fun k => match k with
  | _ => .int
abbrev wsJ20 : List Cond := u_ws RJ2 TJ2 0
theorem nmJ2 : ∀ a, a < 0 → ∀ b, b < 0 → a ≠ b → (TJ2 a).2.1 ≠ (TJ2 b).2.1 := by decide +kernel
theorem tyJ2_ok : ∀ k, k < 0 → parseFieldDescriptor (TJ2 k).2.2.1 = some (tyJ2 k) := by decide +kernel
abbrev cJ2_getChar_3b067 : ByteArray := prog_12_method_5_code
def yJ2_getChar_3b067 : MethodName := ⟨RJ2, "getChar", "([BI)C"⟩
abbrev cJ2_length_9d52b : ByteArray := prog_12_method_6_code
def yJ2_length_9d52b : MethodName := ⟨RJ2, "length", "([B)I"⟩
abbrev cJ2_charAt_3b067 : ByteArray := prog_12_method_83_code
def yJ2_charAt_3b067 : MethodName := ⟨RJ2, "charAt", "([BI)C"⟩
abbrev cJ2_checkIndex_2214a : ByteArray := prog_12_method_91_code
def yJ2_checkIndex_2214a : MethodName := ⟨RJ2, "checkIndex", "(I[B)V"⟩
def RJ10 : String := "java/lang/System"
def TJ10 : u_T := fun k => match k with
  | _ => ("", "", "", false)
def tyJ10 : Nat → FieldType := fun k => match k with
  | _ => .int
abbrev wsJ100 : List Cond := u_ws RJ10 TJ10 0
theorem nmJ10 : ∀ a, a < 0 → ∀ b, b < 0 → a ≠ b → (TJ10 a).2.1 ≠ (TJ10 b).2.1 := by decide +kernel
theorem tyJ10_ok : ∀ k, k < 0 → parseFieldDescriptor (TJ10 k).2.2.1 = some (tyJ10 k) := by decide +kernel
def RJ3 : String := "jdk/internal/util/Preconditions"
def TJ3 : u_T := fun k => match k with
  | _ => ("", "", "", false)
def tyJ3 : Nat → FieldType := fun k => match k with
  | _ => .int
abbrev wsJ30 : List Cond := u_ws RJ3 TJ3 0
theorem nmJ3 : ∀ a, a < 0 → ∀ b, b < 0 → a ≠ b → (TJ3 a).2.1 ≠ (TJ3 b).2.1 := by decide +kernel
theorem tyJ3_ok : ∀ k, k < 0 → parseFieldDescriptor (TJ3 k).2.2.1 = some (tyJ3 k) := by decide +kernel
abbrev cJ3_checkIndex_8e157 : ByteArray := prog_14_method_11_code
def yJ3_checkIndex_8e157 : MethodName := ⟨RJ3, "checkIndex", "(IILjava/util/function/BiFunction;)I"⟩
def RL : String := "TwoReelsLaw"
abbrev cL_law : ByteArray := code
def yL_law : MethodName := ⟨RL, "law", "([I)Z"⟩
theorem inJ6 : ∀ w ∈ wsJ60, w ∈ lw_tbl := by decide +kernel
theorem inJ9 : ∀ w ∈ wsJ90, w ∈ lw_tbl := by decide +kernel
theorem inJ0 : ∀ w ∈ wsJ00, w ∈ lw_tbl := by decide +kernel
theorem inJ1 : ∀ w ∈ wsJ10, w ∈ lw_tbl := by decide +kernel
theorem inJ2 : ∀ w ∈ wsJ20, w ∈ lw_tbl := by decide +kernel
theorem inJ10 : ∀ w ∈ wsJ100, w ∈ lw_tbl := by decide +kernel
theorem inJ3 : ∀ w ∈ wsJ30, w ∈ lw_tbl := by decide +kernel
abbrev vwCl : List vw_C := [(RX0, TX0, 6), (RX1, TX1, 3), (RX2, TX2, 14), (RX3, TX3, 10), (RX4, TX4, 12), (RX5, TX5, 26)]
theorem uapp {big a b : List Cond} (ha : ∀ w ∈ a, w ∈ big) (hb : ∀ w ∈ b, w ∈ big) : ∀ w ∈ a ++ b, w ∈ big := fun w h => (List.mem_append.mp h).elim (ha w) (hb w)
theorem unil {big : List Cond} : ∀ w ∈ ([] : List Cond), w ∈ big := fun _ h => absurd h List.not_mem_nil
theorem ucons {big l : List Cond} {c : Cond} (hc : c ∈ big) (hl : ∀ w ∈ l, w ∈ big) : ∀ w ∈ c :: l, w ∈ big := fun w h => (List.mem_cons.mp h).elim (fun e => e ▸ hc) (hl w)
theorem dc_at {c : ByteArray} {rs : List (Nat × (Instr × Nat))} (h : (rs.all fun r => decide (decode c r.1 = .ok r.2)) = true) (k : Nat) {pc n : Nat} {i : Instr} (e : rs[k]? = some (pc, (i, n))) : decode c pc = .ok (i, n) := of_decide_eq_true (List.all_eq_true.mp h (pc, (i, n)) (List.mem_of_getElem? e))

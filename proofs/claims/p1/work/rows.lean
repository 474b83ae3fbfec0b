section
-- ===== PART A: goes FIRST, ahead of the names: the tables' words, and 'selects' of the private methods out of them =====
/-- a private method of a class that the tables say can be made, by its rows of tables_1 -/
def lw_okq (q : MethodName × Nat) : Prop := (q.1.cls ≠ "java/lang/invoke/MethodHandle" ∧ q.1.cls ≠ "java/lang/invoke/VarHandle") ∧ Cond.instantiable q.1.cls q.2 ∈ tables_1 ∧ Cond.privateMethod q.1 ∈ tables_1 ∧ Cond.instanceMethod q.1 ∈ tables_1
theorem lw_p0 : lw_okq (⟨"TurnedPosts$Reader", "nextToken", "()V"⟩, 13) := ⟨⟨by decide +kernel, by decide +kernel⟩, List.mem_of_getElem? (i := 160) (by decide +kernel), List.mem_of_getElem? (i := 482) (by decide +kernel), List.mem_of_getElem? (i := 483) (by decide +kernel)⟩
theorem lw_p1 : lw_okq (⟨"TurnedPosts$Reader", "takeLetters", "()V"⟩, 13) := ⟨⟨by decide +kernel, by decide +kernel⟩, List.mem_of_getElem? (i := 160) (by decide +kernel), List.mem_of_getElem? (i := 492) (by decide +kernel), List.mem_of_getElem? (i := 493) (by decide +kernel)⟩
theorem lw_p2 : lw_okq (⟨"TurnedPosts$Reader", "takeDigits", "()V"⟩, 13) := ⟨⟨by decide +kernel, by decide +kernel⟩, List.mem_of_getElem? (i := 160) (by decide +kernel), List.mem_of_getElem? (i := 499) (by decide +kernel), List.mem_of_getElem? (i := 500) (by decide +kernel)⟩
theorem lw_p3 : lw_okq (⟨"TurnedPosts$Reader", "readLine", "(I)V"⟩, 13) := ⟨⟨by decide +kernel, by decide +kernel⟩, List.mem_of_getElem? (i := 160) (by decide +kernel), List.mem_of_getElem? (i := 503) (by decide +kernel), List.mem_of_getElem? (i := 504) (by decide +kernel)⟩
theorem lw_p4 : lw_okq (⟨"TurnedPosts$Reader", "wordOf", "(I)I"⟩, 13) := ⟨⟨by decide +kernel, by decide +kernel⟩, List.mem_of_getElem? (i := 160) (by decide +kernel), List.mem_of_getElem? (i := 507) (by decide +kernel), List.mem_of_getElem? (i := 508) (by decide +kernel)⟩
theorem lw_p5 : lw_okq (⟨"TurnedPosts$Reader", "reads", "(Ljava/lang/String;)Z"⟩, 13) := ⟨⟨by decide +kernel, by decide +kernel⟩, List.mem_of_getElem? (i := 160) (by decide +kernel), List.mem_of_getElem? (i := 512) (by decide +kernel), List.mem_of_getElem? (i := 513) (by decide +kernel)⟩
theorem lw_p6 : lw_okq (⟨"TurnedPosts$Reader", "breakHere", "()V"⟩, 13) := ⟨⟨by decide +kernel, by decide +kernel⟩, List.mem_of_getElem? (i := 160) (by decide +kernel), List.mem_of_getElem? (i := 575) (by decide +kernel), List.mem_of_getElem? (i := 576) (by decide +kernel)⟩
theorem lw_p7 : lw_okq (⟨"TurnedPosts$Reader", "readDeed", "(I)V"⟩, 13) := ⟨⟨by decide +kernel, by decide +kernel⟩, List.mem_of_getElem? (i := 160) (by decide +kernel), List.mem_of_getElem? (i := 579) (by decide +kernel), List.mem_of_getElem? (i := 580) (by decide +kernel)⟩
theorem lw_p8 : lw_okq (⟨"TurnedPosts$Reader", "note", "(II)V"⟩, 13) := ⟨⟨by decide +kernel, by decide +kernel⟩, List.mem_of_getElem? (i := 160) (by decide +kernel), List.mem_of_getElem? (i := 583) (by decide +kernel), List.mem_of_getElem? (i := 584) (by decide +kernel)⟩
theorem lw_p9 : lw_okq (⟨"TurnedPosts$Reader", "readNumber", "(I)I"⟩, 13) := ⟨⟨by decide +kernel, by decide +kernel⟩, List.mem_of_getElem? (i := 160) (by decide +kernel), List.mem_of_getElem? (i := 587) (by decide +kernel), List.mem_of_getElem? (i := 588) (by decide +kernel)⟩
theorem lw_p10 : lw_okq (⟨"TurnedPosts$Reader", "readFact", "(I)V"⟩, 13) := ⟨⟨by decide +kernel, by decide +kernel⟩, List.mem_of_getElem? (i := 160) (by decide +kernel), List.mem_of_getElem? (i := 595) (by decide +kernel), List.mem_of_getElem? (i := 596) (by decide +kernel)⟩
theorem lw_p11 : lw_okq (⟨"TurnedPosts$Reader", "readCrossing", "()V"⟩, 13) := ⟨⟨by decide +kernel, by decide +kernel⟩, List.mem_of_getElem? (i := 160) (by decide +kernel), List.mem_of_getElem? (i := 603) (by decide +kernel), List.mem_of_getElem? (i := 604) (by decide +kernel)⟩
theorem lw_p12 : lw_okq (⟨"TurnedPosts$Reader", "tellOf", "(I)V"⟩, 13) := ⟨⟨by decide +kernel, by decide +kernel⟩, List.mem_of_getElem? (i := 160) (by decide +kernel), List.mem_of_getElem? (i := 615) (by decide +kernel), List.mem_of_getElem? (i := 616) (by decide +kernel)⟩
theorem lw_p13 : lw_okq (⟨"TurnedPosts$Reader", "readOther", "(I)V"⟩, 13) := ⟨⟨by decide +kernel, by decide +kernel⟩, List.mem_of_getElem? (i := 160) (by decide +kernel), List.mem_of_getElem? (i := 619) (by decide +kernel), List.mem_of_getElem? (i := 620) (by decide +kernel)⟩
theorem lw_p14 : lw_okq (⟨"TurnedPosts$Reader", "lookAtWhole", "()V"⟩, 13) := ⟨⟨by decide +kernel, by decide +kernel⟩, List.mem_of_getElem? (i := 160) (by decide +kernel), List.mem_of_getElem? (i := 623) (by decide +kernel), List.mem_of_getElem? (i := 624) (by decide +kernel)⟩
theorem lw_p15 : lw_okq (⟨"TurnedPosts", "forgetWhatFollows", "(Z)V"⟩, 11) := ⟨⟨by decide +kernel, by decide +kernel⟩, List.mem_of_getElem? (i := 21) (by decide +kernel), List.mem_of_getElem? (i := 646) (by decide +kernel), List.mem_of_getElem? (i := 647) (by decide +kernel)⟩
def lw_privs_1 : List (MethodName × Nat) := [(⟨"TurnedPosts$Reader", "nextToken", "()V"⟩, 13), (⟨"TurnedPosts$Reader", "takeLetters", "()V"⟩, 13), (⟨"TurnedPosts$Reader", "takeDigits", "()V"⟩, 13), (⟨"TurnedPosts$Reader", "readLine", "(I)V"⟩, 13), (⟨"TurnedPosts$Reader", "wordOf", "(I)I"⟩, 13), (⟨"TurnedPosts$Reader", "reads", "(Ljava/lang/String;)Z"⟩, 13), (⟨"TurnedPosts$Reader", "breakHere", "()V"⟩, 13), (⟨"TurnedPosts$Reader", "readDeed", "(I)V"⟩, 13), (⟨"TurnedPosts$Reader", "note", "(II)V"⟩, 13), (⟨"TurnedPosts$Reader", "readNumber", "(I)I"⟩, 13), (⟨"TurnedPosts$Reader", "readFact", "(I)V"⟩, 13), (⟨"TurnedPosts$Reader", "readCrossing", "()V"⟩, 13), (⟨"TurnedPosts$Reader", "tellOf", "(I)V"⟩, 13), (⟨"TurnedPosts$Reader", "readOther", "(I)V"⟩, 13), (⟨"TurnedPosts$Reader", "lookAtWhole", "()V"⟩, 13), (⟨"TurnedPosts", "forgetWhatFollows", "(Z)V"⟩, 11)]
theorem lw_r1 : ∀ q ∈ lw_privs_1, lw_okq q := List.forall_mem_cons.mpr ⟨lw_p0, List.forall_mem_cons.mpr ⟨lw_p1, List.forall_mem_cons.mpr ⟨lw_p2, List.forall_mem_cons.mpr ⟨lw_p3, List.forall_mem_cons.mpr ⟨lw_p4, List.forall_mem_cons.mpr ⟨lw_p5, List.forall_mem_cons.mpr ⟨lw_p6, List.forall_mem_cons.mpr ⟨lw_p7, List.forall_mem_cons.mpr ⟨lw_p8, List.forall_mem_cons.mpr ⟨lw_p9, List.forall_mem_cons.mpr ⟨lw_p10, List.forall_mem_cons.mpr ⟨lw_p11, List.forall_mem_cons.mpr ⟨lw_p12, List.forall_mem_cons.mpr ⟨lw_p13, List.forall_mem_cons.mpr ⟨lw_p14, List.forall_mem_cons.mpr ⟨lw_p15, fun _ h => absurd h List.not_mem_nil⟩⟩⟩⟩⟩⟩⟩⟩⟩⟩⟩⟩⟩⟩⟩⟩
theorem lw_p16 : lw_okq (⟨"TurnedPosts$Course", "begin", "(LTurnedPosts$Land;)V"⟩, 11) := ⟨⟨by decide +kernel, by decide +kernel⟩, List.mem_of_getElem? (i := 253) (by decide +kernel), List.mem_of_getElem? (i := 722) (by decide +kernel), List.mem_of_getElem? (i := 723) (by decide +kernel)⟩
theorem lw_p17 : lw_okq (⟨"TurnedPosts$Course", "lookAtCrowd", "()V"⟩, 11) := ⟨⟨by decide +kernel, by decide +kernel⟩, List.mem_of_getElem? (i := 253) (by decide +kernel), List.mem_of_getElem? (i := 734) (by decide +kernel), List.mem_of_getElem? (i := 735) (by decide +kernel)⟩
theorem lw_p18 : lw_okq (⟨"TurnedPosts$Course", "does", "(III)Z"⟩, 11) := ⟨⟨by decide +kernel, by decide +kernel⟩, List.mem_of_getElem? (i := 253) (by decide +kernel), List.mem_of_getElem? (i := 743) (by decide +kernel), List.mem_of_getElem? (i := 744) (by decide +kernel)⟩
theorem lw_p19 : lw_okq (⟨"TurnedPosts$Course", "go", "(I)Z"⟩, 11) := ⟨⟨by decide +kernel, by decide +kernel⟩, List.mem_of_getElem? (i := 253) (by decide +kernel), List.mem_of_getElem? (i := 747) (by decide +kernel), List.mem_of_getElem? (i := 748) (by decide +kernel)⟩
theorem lw_p20 : lw_okq (⟨"TurnedPosts$Course", "move", "(II)V"⟩, 11) := ⟨⟨by decide +kernel, by decide +kernel⟩, List.mem_of_getElem? (i := 253) (by decide +kernel), List.mem_of_getElem? (i := 760) (by decide +kernel), List.mem_of_getElem? (i := 761) (by decide +kernel)⟩
theorem lw_p21 : lw_okq (⟨"TurnedPosts$Course", "run", "(I)Z"⟩, 11) := ⟨⟨by decide +kernel, by decide +kernel⟩, List.mem_of_getElem? (i := 253) (by decide +kernel), List.mem_of_getElem? (i := 764) (by decide +kernel), List.mem_of_getElem? (i := 765) (by decide +kernel)⟩
theorem lw_p22 : lw_okq (⟨"TurnedPosts$Course", "add", "(I)Z"⟩, 11) := ⟨⟨by decide +kernel, by decide +kernel⟩, List.mem_of_getElem? (i := 253) (by decide +kernel), List.mem_of_getElem? (i := 774) (by decide +kernel), List.mem_of_getElem? (i := 775) (by decide +kernel)⟩
theorem lw_p23 : lw_okq (⟨"TurnedPosts$Course", "shut", "(II)Z"⟩, 11) := ⟨⟨by decide +kernel, by decide +kernel⟩, List.mem_of_getElem? (i := 253) (by decide +kernel), List.mem_of_getElem? (i := 778) (by decide +kernel), List.mem_of_getElem? (i := 779) (by decide +kernel)⟩
theorem lw_p24 : lw_okq (⟨"TurnedPosts$Course", "open", "(II)Z"⟩, 11) := ⟨⟨by decide +kernel, by decide +kernel⟩, List.mem_of_getElem? (i := 253) (by decide +kernel), List.mem_of_getElem? (i := 792) (by decide +kernel), List.mem_of_getElem? (i := 793) (by decide +kernel)⟩
theorem lw_p25 : lw_okq (⟨"TurnedPosts$Course", "walkersInAll", "(Z)I"⟩, 11) := ⟨⟨by decide +kernel, by decide +kernel⟩, List.mem_of_getElem? (i := 253) (by decide +kernel), List.mem_of_getElem? (i := 808) (by decide +kernel), List.mem_of_getElem? (i := 809) (by decide +kernel)⟩
theorem lw_p26 : lw_okq (⟨"TurnedPosts$Course", "unlikeTold", "()I"⟩, 11) := ⟨⟨by decide +kernel, by decide +kernel⟩, List.mem_of_getElem? (i := 253) (by decide +kernel), List.mem_of_getElem? (i := 820) (by decide +kernel), List.mem_of_getElem? (i := 821) (by decide +kernel)⟩
theorem lw_p27 : lw_okq (⟨"TurnedPosts$Course", "drawBelow", "(I)I"⟩, 11) := ⟨⟨by decide +kernel, by decide +kernel⟩, List.mem_of_getElem? (i := 253) (by decide +kernel), List.mem_of_getElem? (i := 834) (by decide +kernel), List.mem_of_getElem? (i := 835) (by decide +kernel)⟩
theorem lw_p28 : lw_okq (⟨"TurnedPosts$Trail", "arrive", "(II)I"⟩, 8) := ⟨⟨by decide +kernel, by decide +kernel⟩, List.mem_of_getElem? (i := 300) (by decide +kernel), List.mem_of_getElem? (i := 857) (by decide +kernel), List.mem_of_getElem? (i := 858) (by decide +kernel)⟩
theorem lw_p29 : lw_okq (⟨"TurnedPosts", "placeOfCode", "(II)I"⟩, 11) := ⟨⟨by decide +kernel, by decide +kernel⟩, List.mem_of_getElem? (i := 21) (by decide +kernel), List.mem_of_getElem? (i := 910) (by decide +kernel), List.mem_of_getElem? (i := 911) (by decide +kernel)⟩
theorem lw_p30 : lw_okq (⟨"TurnedPosts", "isKey", "(LTurnedPosts$Land;III)Z"⟩, 11) := ⟨⟨by decide +kernel, by decide +kernel⟩, List.mem_of_getElem? (i := 21) (by decide +kernel), List.mem_of_getElem? (i := 919) (by decide +kernel), List.mem_of_getElem? (i := 920) (by decide +kernel)⟩
theorem lw_p31 : lw_okq (⟨"TurnedPosts", "waysIn", "(ILTurnedPosts$Land;)LTurnedPosts$AllWays;"⟩, 11) := ⟨⟨by decide +kernel, by decide +kernel⟩, List.mem_of_getElem? (i := 21) (by decide +kernel), List.mem_of_getElem? (i := 928) (by decide +kernel), List.mem_of_getElem? (i := 929) (by decide +kernel)⟩
def lw_privs_2 : List (MethodName × Nat) := [(⟨"TurnedPosts$Course", "begin", "(LTurnedPosts$Land;)V"⟩, 11), (⟨"TurnedPosts$Course", "lookAtCrowd", "()V"⟩, 11), (⟨"TurnedPosts$Course", "does", "(III)Z"⟩, 11), (⟨"TurnedPosts$Course", "go", "(I)Z"⟩, 11), (⟨"TurnedPosts$Course", "move", "(II)V"⟩, 11), (⟨"TurnedPosts$Course", "run", "(I)Z"⟩, 11), (⟨"TurnedPosts$Course", "add", "(I)Z"⟩, 11), (⟨"TurnedPosts$Course", "shut", "(II)Z"⟩, 11), (⟨"TurnedPosts$Course", "open", "(II)Z"⟩, 11), (⟨"TurnedPosts$Course", "walkersInAll", "(Z)I"⟩, 11), (⟨"TurnedPosts$Course", "unlikeTold", "()I"⟩, 11), (⟨"TurnedPosts$Course", "drawBelow", "(I)I"⟩, 11), (⟨"TurnedPosts$Trail", "arrive", "(II)I"⟩, 8), (⟨"TurnedPosts", "placeOfCode", "(II)I"⟩, 11), (⟨"TurnedPosts", "isKey", "(LTurnedPosts$Land;III)Z"⟩, 11), (⟨"TurnedPosts", "waysIn", "(ILTurnedPosts$Land;)LTurnedPosts$AllWays;"⟩, 11)]
theorem lw_r2 : ∀ q ∈ lw_privs_2, lw_okq q := List.forall_mem_cons.mpr ⟨lw_p16, List.forall_mem_cons.mpr ⟨lw_p17, List.forall_mem_cons.mpr ⟨lw_p18, List.forall_mem_cons.mpr ⟨lw_p19, List.forall_mem_cons.mpr ⟨lw_p20, List.forall_mem_cons.mpr ⟨lw_p21, List.forall_mem_cons.mpr ⟨lw_p22, List.forall_mem_cons.mpr ⟨lw_p23, List.forall_mem_cons.mpr ⟨lw_p24, List.forall_mem_cons.mpr ⟨lw_p25, List.forall_mem_cons.mpr ⟨lw_p26, List.forall_mem_cons.mpr ⟨lw_p27, List.forall_mem_cons.mpr ⟨lw_p28, List.forall_mem_cons.mpr ⟨lw_p29, List.forall_mem_cons.mpr ⟨lw_p30, List.forall_mem_cons.mpr ⟨lw_p31, fun _ h => absurd h List.not_mem_nil⟩⟩⟩⟩⟩⟩⟩⟩⟩⟩⟩⟩⟩⟩⟩⟩
theorem lw_p32 : lw_okq (⟨"TurnedPosts$AllWays", "countWays", "(LTurnedPosts$Land;)V"⟩, 10) := ⟨⟨by decide +kernel, by decide +kernel⟩, List.mem_of_getElem? (i := 338) (by decide +kernel), List.mem_of_getElem? (i := 936) (by decide +kernel), List.mem_of_getElem? (i := 937) (by decide +kernel)⟩
theorem lw_p33 : lw_okq (⟨"TurnedPosts$AllWays", "grow", "()V"⟩, 10) := ⟨⟨by decide +kernel, by decide +kernel⟩, List.mem_of_getElem? (i := 338) (by decide +kernel), List.mem_of_getElem? (i := 944) (by decide +kernel), List.mem_of_getElem? (i := 945) (by decide +kernel)⟩
theorem lw_p34 : lw_okq (⟨"TurnedPosts$AllWays", "stepOnce", "()V"⟩, 10) := ⟨⟨by decide +kernel, by decide +kernel⟩, List.mem_of_getElem? (i := 338) (by decide +kernel), List.mem_of_getElem? (i := 948) (by decide +kernel), List.mem_of_getElem? (i := 949) (by decide +kernel)⟩
theorem lw_p35 : lw_okq (⟨"TurnedPosts$AllWays", "doubleAll", "()V"⟩, 10) := ⟨⟨by decide +kernel, by decide +kernel⟩, List.mem_of_getElem? (i := 338) (by decide +kernel), List.mem_of_getElem? (i := 964) (by decide +kernel), List.mem_of_getElem? (i := 965) (by decide +kernel)⟩
theorem lw_p36 : lw_okq (⟨"TurnedPosts$AllWays", "oneMore", "()V"⟩, 10) := ⟨⟨by decide +kernel, by decide +kernel⟩, List.mem_of_getElem? (i := 338) (by decide +kernel), List.mem_of_getElem? (i := 969) (by decide +kernel), List.mem_of_getElem? (i := 970) (by decide +kernel)⟩
theorem lw_p37 : lw_okq (⟨"TurnedPosts$AllWays", "entry", "(II)I"⟩, 10) := ⟨⟨by decide +kernel, by decide +kernel⟩, List.mem_of_getElem? (i := 338) (by decide +kernel), List.mem_of_getElem? (i := 985) (by decide +kernel), List.mem_of_getElem? (i := 986) (by decide +kernel)⟩
theorem lw_p38 : lw_okq (⟨"TurnedPosts$AllWays", "allComeByRow", "()Z"⟩, 10) := ⟨⟨by decide +kernel, by decide +kernel⟩, List.mem_of_getElem? (i := 338) (by decide +kernel), List.mem_of_getElem? (i := 1022) (by decide +kernel), List.mem_of_getElem? (i := 1023) (by decide +kernel)⟩
theorem lw_p39 : lw_okq (⟨"TurnedPosts$AllWays", "comesByRow", "(I)Z"⟩, 10) := ⟨⟨by decide +kernel, by decide +kernel⟩, List.mem_of_getElem? (i := 338) (by decide +kernel), List.mem_of_getElem? (i := 1026) (by decide +kernel), List.mem_of_getElem? (i := 1027) (by decide +kernel)⟩
theorem lw_p40 : lw_okq (⟨"TurnedPosts$AllWays", "nextRow", "()V"⟩, 10) := ⟨⟨by decide +kernel, by decide +kernel⟩, List.mem_of_getElem? (i := 338) (by decide +kernel), List.mem_of_getElem? (i := 1031) (by decide +kernel), List.mem_of_getElem? (i := 1032) (by decide +kernel)⟩
theorem lw_p41 : lw_okq (⟨"TurnedPosts", "fit", "(II)Z"⟩, 11) := ⟨⟨by decide +kernel, by decide +kernel⟩, List.mem_of_getElem? (i := 21) (by decide +kernel), List.mem_of_getElem? (i := 1071) (by decide +kernel), List.mem_of_getElem? (i := 1072) (by decide +kernel)⟩
theorem lw_p42 : lw_okq (⟨"TurnedPosts$Fitting", "grow", "(I)V"⟩, 8) := ⟨⟨by decide +kernel, by decide +kernel⟩, List.mem_of_getElem? (i := 381) (by decide +kernel), List.mem_of_getElem? (i := 1079) (by decide +kernel), List.mem_of_getElem? (i := 1080) (by decide +kernel)⟩
theorem lw_p43 : lw_okq (⟨"TurnedPosts$Fitting", "tryWay", "(LTurnedPosts$AllWays;LTurnedPosts$Log;I)V"⟩, 8) := ⟨⟨by decide +kernel, by decide +kernel⟩, List.mem_of_getElem? (i := 381) (by decide +kernel), List.mem_of_getElem? (i := 1083) (by decide +kernel), List.mem_of_getElem? (i := 1084) (by decide +kernel)⟩
theorem lw_p44 : lw_okq (⟨"TurnedPosts$Fitting", "mostTogether", "(LTurnedPosts$AllWays;I)I"⟩, 8) := ⟨⟨by decide +kernel, by decide +kernel⟩, List.mem_of_getElem? (i := 381) (by decide +kernel), List.mem_of_getElem? (i := 1101) (by decide +kernel), List.mem_of_getElem? (i := 1102) (by decide +kernel)⟩
theorem lw_p45 : lw_okq (⟨"TurnedPostsModel", "isOf", "(II)Z"⟩, 43) := ⟨⟨by decide +kernel, by decide +kernel⟩, List.mem_of_getElem? (i := 1190) (by decide +kernel), List.mem_of_getElem? (i := 1341) (by decide +kernel), List.mem_of_getElem? (i := 1342) (by decide +kernel)⟩
theorem lw_p46 : lw_okq (⟨"TurnedPostsModel", "advance", "()V"⟩, 43) := ⟨⟨by decide +kernel, by decide +kernel⟩, List.mem_of_getElem? (i := 1190) (by decide +kernel), List.mem_of_getElem? (i := 1345) (by decide +kernel), List.mem_of_getElem? (i := 1346) (by decide +kernel)⟩
theorem lw_p47 : lw_okq (⟨"TurnedPostsModel", "byteAt", "(I)I"⟩, 43) := ⟨⟨by decide +kernel, by decide +kernel⟩, List.mem_of_getElem? (i := 1190) (by decide +kernel), List.mem_of_getElem? (i := 1349) (by decide +kernel), List.mem_of_getElem? (i := 1350) (by decide +kernel)⟩
def lw_privs_3 : List (MethodName × Nat) := [(⟨"TurnedPosts$AllWays", "countWays", "(LTurnedPosts$Land;)V"⟩, 10), (⟨"TurnedPosts$AllWays", "grow", "()V"⟩, 10), (⟨"TurnedPosts$AllWays", "stepOnce", "()V"⟩, 10), (⟨"TurnedPosts$AllWays", "doubleAll", "()V"⟩, 10), (⟨"TurnedPosts$AllWays", "oneMore", "()V"⟩, 10), (⟨"TurnedPosts$AllWays", "entry", "(II)I"⟩, 10), (⟨"TurnedPosts$AllWays", "allComeByRow", "()Z"⟩, 10), (⟨"TurnedPosts$AllWays", "comesByRow", "(I)Z"⟩, 10), (⟨"TurnedPosts$AllWays", "nextRow", "()V"⟩, 10), (⟨"TurnedPosts", "fit", "(II)Z"⟩, 11), (⟨"TurnedPosts$Fitting", "grow", "(I)V"⟩, 8), (⟨"TurnedPosts$Fitting", "tryWay", "(LTurnedPosts$AllWays;LTurnedPosts$Log;I)V"⟩, 8), (⟨"TurnedPosts$Fitting", "mostTogether", "(LTurnedPosts$AllWays;I)I"⟩, 8), (⟨"TurnedPostsModel", "isOf", "(II)Z"⟩, 43), (⟨"TurnedPostsModel", "advance", "()V"⟩, 43), (⟨"TurnedPostsModel", "byteAt", "(I)I"⟩, 43)]
theorem lw_r3 : ∀ q ∈ lw_privs_3, lw_okq q := List.forall_mem_cons.mpr ⟨lw_p32, List.forall_mem_cons.mpr ⟨lw_p33, List.forall_mem_cons.mpr ⟨lw_p34, List.forall_mem_cons.mpr ⟨lw_p35, List.forall_mem_cons.mpr ⟨lw_p36, List.forall_mem_cons.mpr ⟨lw_p37, List.forall_mem_cons.mpr ⟨lw_p38, List.forall_mem_cons.mpr ⟨lw_p39, List.forall_mem_cons.mpr ⟨lw_p40, List.forall_mem_cons.mpr ⟨lw_p41, List.forall_mem_cons.mpr ⟨lw_p42, List.forall_mem_cons.mpr ⟨lw_p43, List.forall_mem_cons.mpr ⟨lw_p44, List.forall_mem_cons.mpr ⟨lw_p45, List.forall_mem_cons.mpr ⟨lw_p46, List.forall_mem_cons.mpr ⟨lw_p47, fun _ h => absurd h List.not_mem_nil⟩⟩⟩⟩⟩⟩⟩⟩⟩⟩⟩⟩⟩⟩⟩⟩
theorem lw_p48 : lw_okq (⟨"TurnedPostsModel", "landLine", "()V"⟩, 43) := ⟨⟨by decide +kernel, by decide +kernel⟩, List.mem_of_getElem? (i := 1190) (by decide +kernel), List.mem_of_getElem? (i := 1371) (by decide +kernel), List.mem_of_getElem? (i := 1372) (by decide +kernel)⟩
theorem lw_p49 : lw_okq (⟨"TurnedPostsModel", "wordIn", "(II)I"⟩, 43) := ⟨⟨by decide +kernel, by decide +kernel⟩, List.mem_of_getElem? (i := 1190) (by decide +kernel), List.mem_of_getElem? (i := 1375) (by decide +kernel), List.mem_of_getElem? (i := 1376) (by decide +kernel)⟩
theorem lw_p50 : lw_okq (⟨"TurnedPostsModel", "ends", "()V"⟩, 43) := ⟨⟨by decide +kernel, by decide +kernel⟩, List.mem_of_getElem? (i := 1190) (by decide +kernel), List.mem_of_getElem? (i := 1379) (by decide +kernel), List.mem_of_getElem? (i := 1380) (by decide +kernel)⟩
theorem lw_p51 : lw_okq (⟨"TurnedPostsModel", "crossTold", "(I)V"⟩, 43) := ⟨⟨by decide +kernel, by decide +kernel⟩, List.mem_of_getElem? (i := 1190) (by decide +kernel), List.mem_of_getElem? (i := 1383) (by decide +kernel), List.mem_of_getElem? (i := 1384) (by decide +kernel)⟩
theorem lw_p52 : lw_okq (⟨"TurnedPostsModel", "also", "(II)V"⟩, 43) := ⟨⟨by decide +kernel, by decide +kernel⟩, List.mem_of_getElem? (i := 1190) (by decide +kernel), List.mem_of_getElem? (i := 1387) (by decide +kernel), List.mem_of_getElem? (i := 1388) (by decide +kernel)⟩
theorem lw_p53 : lw_okq (⟨"TurnedPostsModel", "crossingTold", "()I"⟩, 43) := ⟨⟨by decide +kernel, by decide +kernel⟩, List.mem_of_getElem? (i := 1190) (by decide +kernel), List.mem_of_getElem? (i := 1391) (by decide +kernel), List.mem_of_getElem? (i := 1392) (by decide +kernel)⟩
theorem lw_p54 : lw_okq (⟨"TurnedPostsModel", "numbered", "(II)I"⟩, 43) := ⟨⟨by decide +kernel, by decide +kernel⟩, List.mem_of_getElem? (i := 1190) (by decide +kernel), List.mem_of_getElem? (i := 1395) (by decide +kernel), List.mem_of_getElem? (i := 1396) (by decide +kernel)⟩
theorem lw_p55 : lw_okq (⟨"TurnedPostsModel", "endsLine", "()V"⟩, 43) := ⟨⟨by decide +kernel, by decide +kernel⟩, List.mem_of_getElem? (i := 1190) (by decide +kernel), List.mem_of_getElem? (i := 1399) (by decide +kernel), List.mem_of_getElem? (i := 1400) (by decide +kernel)⟩
theorem lw_p56 : lw_okq (⟨"TurnedPostsModel", "dayLine", "()V"⟩, 43) := ⟨⟨by decide +kernel, by decide +kernel⟩, List.mem_of_getElem? (i := 1190) (by decide +kernel), List.mem_of_getElem? (i := 1403) (by decide +kernel), List.mem_of_getElem? (i := 1404) (by decide +kernel)⟩
theorem lw_p57 : lw_okq (⟨"TurnedPostsModel", "logLine", "()V"⟩, 43) := ⟨⟨by decide +kernel, by decide +kernel⟩, List.mem_of_getElem? (i := 1190) (by decide +kernel), List.mem_of_getElem? (i := 1407) (by decide +kernel), List.mem_of_getElem? (i := 1408) (by decide +kernel)⟩
theorem lw_p58 : lw_okq (⟨"TurnedPostsModel", "postsAreThere", "()Z"⟩, 43) := ⟨⟨by decide +kernel, by decide +kernel⟩, List.mem_of_getElem? (i := 1190) (by decide +kernel), List.mem_of_getElem? (i := 1411) (by decide +kernel), List.mem_of_getElem? (i := 1412) (by decide +kernel)⟩
theorem lw_p59 : lw_okq (⟨"TurnedPostsModel", "isLand", "(I)Z"⟩, 43) := ⟨⟨by decide +kernel, by decide +kernel⟩, List.mem_of_getElem? (i := 1190) (by decide +kernel), List.mem_of_getElem? (i := 1429) (by decide +kernel), List.mem_of_getElem? (i := 1430) (by decide +kernel)⟩
theorem lw_p60 : lw_okq (⟨"TurnedPostsModel", "begins", "()V"⟩, 43) := ⟨⟨by decide +kernel, by decide +kernel⟩, List.mem_of_getElem? (i := 1190) (by decide +kernel), List.mem_of_getElem? (i := 1433) (by decide +kernel), List.mem_of_getElem? (i := 1434) (by decide +kernel)⟩
theorem lw_p61 : lw_okq (⟨"TurnedPostsModel", "postTold", "(I)I"⟩, 43) := ⟨⟨by decide +kernel, by decide +kernel⟩, List.mem_of_getElem? (i := 1190) (by decide +kernel), List.mem_of_getElem? (i := 1437) (by decide +kernel), List.mem_of_getElem? (i := 1438) (by decide +kernel)⟩
theorem lw_p62 : lw_okq (⟨"TurnedPostsModel", "isCrossing", "(I)Z"⟩, 43) := ⟨⟨by decide +kernel, by decide +kernel⟩, List.mem_of_getElem? (i := 1190) (by decide +kernel), List.mem_of_getElem? (i := 1441) (by decide +kernel), List.mem_of_getElem? (i := 1442) (by decide +kernel)⟩
theorem lw_p63 : lw_okq (⟨"TurnedPostsModel", "roadsOf", "(I)I"⟩, 43) := ⟨⟨by decide +kernel, by decide +kernel⟩, List.mem_of_getElem? (i := 1190) (by decide +kernel), List.mem_of_getElem? (i := 1445) (by decide +kernel), List.mem_of_getElem? (i := 1446) (by decide +kernel)⟩
def lw_privs_4 : List (MethodName × Nat) := [(⟨"TurnedPostsModel", "landLine", "()V"⟩, 43), (⟨"TurnedPostsModel", "wordIn", "(II)I"⟩, 43), (⟨"TurnedPostsModel", "ends", "()V"⟩, 43), (⟨"TurnedPostsModel", "crossTold", "(I)V"⟩, 43), (⟨"TurnedPostsModel", "also", "(II)V"⟩, 43), (⟨"TurnedPostsModel", "crossingTold", "()I"⟩, 43), (⟨"TurnedPostsModel", "numbered", "(II)I"⟩, 43), (⟨"TurnedPostsModel", "endsLine", "()V"⟩, 43), (⟨"TurnedPostsModel", "dayLine", "()V"⟩, 43), (⟨"TurnedPostsModel", "logLine", "()V"⟩, 43), (⟨"TurnedPostsModel", "postsAreThere", "()Z"⟩, 43), (⟨"TurnedPostsModel", "isLand", "(I)Z"⟩, 43), (⟨"TurnedPostsModel", "begins", "()V"⟩, 43), (⟨"TurnedPostsModel", "postTold", "(I)I"⟩, 43), (⟨"TurnedPostsModel", "isCrossing", "(I)Z"⟩, 43), (⟨"TurnedPostsModel", "roadsOf", "(I)I"⟩, 43)]
theorem lw_r4 : ∀ q ∈ lw_privs_4, lw_okq q := List.forall_mem_cons.mpr ⟨lw_p48, List.forall_mem_cons.mpr ⟨lw_p49, List.forall_mem_cons.mpr ⟨lw_p50, List.forall_mem_cons.mpr ⟨lw_p51, List.forall_mem_cons.mpr ⟨lw_p52, List.forall_mem_cons.mpr ⟨lw_p53, List.forall_mem_cons.mpr ⟨lw_p54, List.forall_mem_cons.mpr ⟨lw_p55, List.forall_mem_cons.mpr ⟨lw_p56, List.forall_mem_cons.mpr ⟨lw_p57, List.forall_mem_cons.mpr ⟨lw_p58, List.forall_mem_cons.mpr ⟨lw_p59, List.forall_mem_cons.mpr ⟨lw_p60, List.forall_mem_cons.mpr ⟨lw_p61, List.forall_mem_cons.mpr ⟨lw_p62, List.forall_mem_cons.mpr ⟨lw_p63, fun _ h => absurd h List.not_mem_nil⟩⟩⟩⟩⟩⟩⟩⟩⟩⟩⟩⟩⟩⟩⟩⟩
theorem lw_p64 : lw_okq (⟨"TurnedPostsModel", "leadsTo", "(II)I"⟩, 43) := ⟨⟨by decide +kernel, by decide +kernel⟩, List.mem_of_getElem? (i := 1190) (by decide +kernel), List.mem_of_getElem? (i := 1449) (by decide +kernel), List.mem_of_getElem? (i := 1450) (by decide +kernel)⟩
theorem lw_p65 : lw_okq (⟨"TurnedPostsModel", "walks", "(I)Z"⟩, 43) := ⟨⟨by decide +kernel, by decide +kernel⟩, List.mem_of_getElem? (i := 1190) (by decide +kernel), List.mem_of_getElem? (i := 1457) (by decide +kernel), List.mem_of_getElem? (i := 1458) (by decide +kernel)⟩
theorem lw_p66 : lw_okq (⟨"TurnedPostsModel", "puts", "(I)V"⟩, 43) := ⟨⟨by decide +kernel, by decide +kernel⟩, List.mem_of_getElem? (i := 1190) (by decide +kernel), List.mem_of_getElem? (i := 1461) (by decide +kernel), List.mem_of_getElem? (i := 1462) (by decide +kernel)⟩
theorem lw_p67 : lw_okq (⟨"TurnedPostsModel", "stepsOn", "()Z"⟩, 43) := ⟨⟨by decide +kernel, by decide +kernel⟩, List.mem_of_getElem? (i := 1190) (by decide +kernel), List.mem_of_getElem? (i := 1465) (by decide +kernel), List.mem_of_getElem? (i := 1466) (by decide +kernel)⟩
theorem lw_p68 : lw_okq (⟨"TurnedPostsModel", "isInn", "(I)Z"⟩, 43) := ⟨⟨by decide +kernel, by decide +kernel⟩, List.mem_of_getElem? (i := 1190) (by decide +kernel), List.mem_of_getElem? (i := 1469) (by decide +kernel), List.mem_of_getElem? (i := 1470) (by decide +kernel)⟩
theorem lw_p69 : lw_okq (⟨"TurnedPostsModel", "turns", "(I)Z"⟩, 43) := ⟨⟨by decide +kernel, by decide +kernel⟩, List.mem_of_getElem? (i := 1190) (by decide +kernel), List.mem_of_getElem? (i := 1473) (by decide +kernel), List.mem_of_getElem? (i := 1474) (by decide +kernel)⟩
theorem lw_p70 : lw_okq (⟨"TurnedPostsModel", "postsNow", "()I"⟩, 43) := ⟨⟨by decide +kernel, by decide +kernel⟩, List.mem_of_getElem? (i := 1190) (by decide +kernel), List.mem_of_getElem? (i := 1493) (by decide +kernel), List.mem_of_getElem? (i := 1494) (by decide +kernel)⟩
theorem lw_p71 : lw_okq (⟨"TurnedPostsModel", "setBy", "(II)I"⟩, 43) := ⟨⟨by decide +kernel, by decide +kernel⟩, List.mem_of_getElem? (i := 1190) (by decide +kernel), List.mem_of_getElem? (i := 1501) (by decide +kernel), List.mem_of_getElem? (i := 1502) (by decide +kernel)⟩
theorem lw_p72 : lw_okq (⟨"TurnedPostsModel", "waysMany", "()I"⟩, 43) := ⟨⟨by decide +kernel, by decide +kernel⟩, List.mem_of_getElem? (i := 1190) (by decide +kernel), List.mem_of_getElem? (i := 1505) (by decide +kernel), List.mem_of_getElem? (i := 1506) (by decide +kernel)⟩
theorem lw_p73 : lw_okq (⟨"TurnedPostsModel", "isFree", "(I)Z"⟩, 43) := ⟨⟨by decide +kernel, by decide +kernel⟩, List.mem_of_getElem? (i := 1190) (by decide +kernel), List.mem_of_getElem? (i := 1509) (by decide +kernel), List.mem_of_getElem? (i := 1510) (by decide +kernel)⟩
theorem lw_p74 : lw_okq (⟨"TurnedPostsModel", "setsWay", "(I)V"⟩, 43) := ⟨⟨by decide +kernel, by decide +kernel⟩, List.mem_of_getElem? (i := 1190) (by decide +kernel), List.mem_of_getElem? (i := 1513) (by decide +kernel), List.mem_of_getElem? (i := 1514) (by decide +kernel)⟩
theorem lw_p75 : lw_okq (⟨"TurnedPostsModel", "unlikeTold", "()I"⟩, 43) := ⟨⟨by decide +kernel, by decide +kernel⟩, List.mem_of_getElem? (i := 1190) (by decide +kernel), List.mem_of_getElem? (i := 1517) (by decide +kernel), List.mem_of_getElem? (i := 1518) (by decide +kernel)⟩
theorem lw_p76 : lw_okq (⟨"TurnedPostsModel", "ledTo", "(II)I"⟩, 43) := ⟨⟨by decide +kernel, by decide +kernel⟩, List.mem_of_getElem? (i := 1190) (by decide +kernel), List.mem_of_getElem? (i := 1542) (by decide +kernel), List.mem_of_getElem? (i := 1543) (by decide +kernel)⟩
theorem lw_p77 : lw_okq (⟨"TurnedPostsModel", "gameBy", "(III)I"⟩, 43) := ⟨⟨by decide +kernel, by decide +kernel⟩, List.mem_of_getElem? (i := 1190) (by decide +kernel), List.mem_of_getElem? (i := 1550) (by decide +kernel), List.mem_of_getElem? (i := 1551) (by decide +kernel)⟩
theorem lw_p78 : lw_okq (⟨"TurnedPostsModel", "laysFar", "()V"⟩, 43) := ⟨⟨by decide +kernel, by decide +kernel⟩, List.mem_of_getElem? (i := 1190) (by decide +kernel), List.mem_of_getElem? (i := 1558) (by decide +kernel), List.mem_of_getElem? (i := 1559) (by decide +kernel)⟩
theorem lw_p79 : lw_okq (⟨"TurnedPostsModel", "roads5", "(I)I"⟩, 43) := ⟨⟨by decide +kernel, by decide +kernel⟩, List.mem_of_getElem? (i := 1190) (by decide +kernel), List.mem_of_getElem? (i := 1562) (by decide +kernel), List.mem_of_getElem? (i := 1563) (by decide +kernel)⟩
def lw_privs_5 : List (MethodName × Nat) := [(⟨"TurnedPostsModel", "leadsTo", "(II)I"⟩, 43), (⟨"TurnedPostsModel", "walks", "(I)Z"⟩, 43), (⟨"TurnedPostsModel", "puts", "(I)V"⟩, 43), (⟨"TurnedPostsModel", "stepsOn", "()Z"⟩, 43), (⟨"TurnedPostsModel", "isInn", "(I)Z"⟩, 43), (⟨"TurnedPostsModel", "turns", "(I)Z"⟩, 43), (⟨"TurnedPostsModel", "postsNow", "()I"⟩, 43), (⟨"TurnedPostsModel", "setBy", "(II)I"⟩, 43), (⟨"TurnedPostsModel", "waysMany", "()I"⟩, 43), (⟨"TurnedPostsModel", "isFree", "(I)Z"⟩, 43), (⟨"TurnedPostsModel", "setsWay", "(I)V"⟩, 43), (⟨"TurnedPostsModel", "unlikeTold", "()I"⟩, 43), (⟨"TurnedPostsModel", "ledTo", "(II)I"⟩, 43), (⟨"TurnedPostsModel", "gameBy", "(III)I"⟩, 43), (⟨"TurnedPostsModel", "laysFar", "()V"⟩, 43), (⟨"TurnedPostsModel", "roads5", "(I)I"⟩, 43)]
theorem lw_r5 : ∀ q ∈ lw_privs_5, lw_okq q := List.forall_mem_cons.mpr ⟨lw_p64, List.forall_mem_cons.mpr ⟨lw_p65, List.forall_mem_cons.mpr ⟨lw_p66, List.forall_mem_cons.mpr ⟨lw_p67, List.forall_mem_cons.mpr ⟨lw_p68, List.forall_mem_cons.mpr ⟨lw_p69, List.forall_mem_cons.mpr ⟨lw_p70, List.forall_mem_cons.mpr ⟨lw_p71, List.forall_mem_cons.mpr ⟨lw_p72, List.forall_mem_cons.mpr ⟨lw_p73, List.forall_mem_cons.mpr ⟨lw_p74, List.forall_mem_cons.mpr ⟨lw_p75, List.forall_mem_cons.mpr ⟨lw_p76, List.forall_mem_cons.mpr ⟨lw_p77, List.forall_mem_cons.mpr ⟨lw_p78, List.forall_mem_cons.mpr ⟨lw_p79, fun _ h => absurd h List.not_mem_nil⟩⟩⟩⟩⟩⟩⟩⟩⟩⟩⟩⟩⟩⟩⟩⟩
theorem lw_p80 : lw_okq (⟨"TurnedPostsModel", "reachOf", "(I)I"⟩, 43) := ⟨⟨by decide +kernel, by decide +kernel⟩, List.mem_of_getElem? (i := 1190) (by decide +kernel), List.mem_of_getElem? (i := 1570) (by decide +kernel), List.mem_of_getElem? (i := 1571) (by decide +kernel)⟩
theorem lw_p81 : lw_okq (⟨"TurnedPostsModel", "classesOf", "(Z)I"⟩, 43) := ⟨⟨by decide +kernel, by decide +kernel⟩, List.mem_of_getElem? (i := 1190) (by decide +kernel), List.mem_of_getElem? (i := 1578) (by decide +kernel), List.mem_of_getElem? (i := 1579) (by decide +kernel)⟩
theorem lw_p82 : lw_okq (⟨"TurnedPostsModel", "classOf", "(I)I"⟩, 43) := ⟨⟨by decide +kernel, by decide +kernel⟩, List.mem_of_getElem? (i := 1190) (by decide +kernel), List.mem_of_getElem? (i := 1582) (by decide +kernel), List.mem_of_getElem? (i := 1583) (by decide +kernel)⟩
theorem lw_p83 : lw_okq (⟨"TurnedPostsModel", "crossingsOf", "(I)I"⟩, 43) := ⟨⟨by decide +kernel, by decide +kernel⟩, List.mem_of_getElem? (i := 1190) (by decide +kernel), List.mem_of_getElem? (i := 1586) (by decide +kernel), List.mem_of_getElem? (i := 1587) (by decide +kernel)⟩
theorem lw_p84 : lw_okq (⟨"TurnedPostsModel", "leadHere", "(IZ)I"⟩, 43) := ⟨⟨by decide +kernel, by decide +kernel⟩, List.mem_of_getElem? (i := 1190) (by decide +kernel), List.mem_of_getElem? (i := 1590) (by decide +kernel), List.mem_of_getElem? (i := 1591) (by decide +kernel)⟩
theorem lw_p85 : lw_okq (⟨"TurnedPostsModel", "loops", "(Z)I"⟩, 43) := ⟨⟨by decide +kernel, by decide +kernel⟩, List.mem_of_getElem? (i := 1190) (by decide +kernel), List.mem_of_getElem? (i := 1594) (by decide +kernel), List.mem_of_getElem? (i := 1595) (by decide +kernel)⟩
theorem lw_p86 : lw_okq (⟨"TurnedPostsModel", "busyOf", "()I"⟩, 43) := ⟨⟨by decide +kernel, by decide +kernel⟩, List.mem_of_getElem? (i := 1190) (by decide +kernel), List.mem_of_getElem? (i := 1598) (by decide +kernel), List.mem_of_getElem? (i := 1599) (by decide +kernel)⟩
theorem lw_p87 : lw_okq (⟨"TurnedPostsModel", "walksFar", "(I)V"⟩, 43) := ⟨⟨by decide +kernel, by decide +kernel⟩, List.mem_of_getElem? (i := 1190) (by decide +kernel), List.mem_of_getElem? (i := 1610) (by decide +kernel), List.mem_of_getElem? (i := 1611) (by decide +kernel)⟩
theorem lw_p88 : lw_okq (⟨"TurnedPostsModel", "unusedOf", "(I)I"⟩, 43) := ⟨⟨by decide +kernel, by decide +kernel⟩, List.mem_of_getElem? (i := 1190) (by decide +kernel), List.mem_of_getElem? (i := 1614) (by decide +kernel), List.mem_of_getElem? (i := 1615) (by decide +kernel)⟩
theorem lw_p89 : lw_okq (⟨"TurnedPostsModel", "roundOf", "()I"⟩, 43) := ⟨⟨by decide +kernel, by decide +kernel⟩, List.mem_of_getElem? (i := 1190) (by decide +kernel), List.mem_of_getElem? (i := 1618) (by decide +kernel), List.mem_of_getElem? (i := 1619) (by decide +kernel)⟩
theorem lw_p90 : lw_okq (⟨"TurnedPostsModel", "numberOf", "(I)I"⟩, 43) := ⟨⟨by decide +kernel, by decide +kernel⟩, List.mem_of_getElem? (i := 1190) (by decide +kernel), List.mem_of_getElem? (i := 1626) (by decide +kernel), List.mem_of_getElem? (i := 1627) (by decide +kernel)⟩
theorem lw_p91 : lw_okq (⟨"TurnedPostsModel", "isDay", "(I)Z"⟩, 43) := ⟨⟨by decide +kernel, by decide +kernel⟩, List.mem_of_getElem? (i := 1190) (by decide +kernel), List.mem_of_getElem? (i := 1642) (by decide +kernel), List.mem_of_getElem? (i := 1643) (by decide +kernel)⟩
theorem lw_p92 : lw_okq (⟨"TurnedPostsModel", "runs", "(I)V"⟩, 43) := ⟨⟨by decide +kernel, by decide +kernel⟩, List.mem_of_getElem? (i := 1190) (by decide +kernel), List.mem_of_getElem? (i := 1650) (by decide +kernel), List.mem_of_getElem? (i := 1651) (by decide +kernel)⟩
theorem lw_p93 : lw_okq (⟨"TurnedPostsModel", "beginsDay", "()V"⟩, 43) := ⟨⟨by decide +kernel, by decide +kernel⟩, List.mem_of_getElem? (i := 1190) (by decide +kernel), List.mem_of_getElem? (i := 1654) (by decide +kernel), List.mem_of_getElem? (i := 1655) (by decide +kernel)⟩
theorem lw_p94 : lw_okq (⟨"TurnedPostsModel", "looks", "()V"⟩, 43) := ⟨⟨by decide +kernel, by decide +kernel⟩, List.mem_of_getElem? (i := 1190) (by decide +kernel), List.mem_of_getElem? (i := 1658) (by decide +kernel), List.mem_of_getElem? (i := 1659) (by decide +kernel)⟩
theorem lw_p95 : lw_okq (⟨"TurnedPostsModel", "does", "(III)Z"⟩, 43) := ⟨⟨by decide +kernel, by decide +kernel⟩, List.mem_of_getElem? (i := 1190) (by decide +kernel), List.mem_of_getElem? (i := 1662) (by decide +kernel), List.mem_of_getElem? (i := 1663) (by decide +kernel)⟩
def lw_privs_6 : List (MethodName × Nat) := [(⟨"TurnedPostsModel", "reachOf", "(I)I"⟩, 43), (⟨"TurnedPostsModel", "classesOf", "(Z)I"⟩, 43), (⟨"TurnedPostsModel", "classOf", "(I)I"⟩, 43), (⟨"TurnedPostsModel", "crossingsOf", "(I)I"⟩, 43), (⟨"TurnedPostsModel", "leadHere", "(IZ)I"⟩, 43), (⟨"TurnedPostsModel", "loops", "(Z)I"⟩, 43), (⟨"TurnedPostsModel", "busyOf", "()I"⟩, 43), (⟨"TurnedPostsModel", "walksFar", "(I)V"⟩, 43), (⟨"TurnedPostsModel", "unusedOf", "(I)I"⟩, 43), (⟨"TurnedPostsModel", "roundOf", "()I"⟩, 43), (⟨"TurnedPostsModel", "numberOf", "(I)I"⟩, 43), (⟨"TurnedPostsModel", "isDay", "(I)Z"⟩, 43), (⟨"TurnedPostsModel", "runs", "(I)V"⟩, 43), (⟨"TurnedPostsModel", "beginsDay", "()V"⟩, 43), (⟨"TurnedPostsModel", "looks", "()V"⟩, 43), (⟨"TurnedPostsModel", "does", "(III)Z"⟩, 43)]
theorem lw_r6 : ∀ q ∈ lw_privs_6, lw_okq q := List.forall_mem_cons.mpr ⟨lw_p80, List.forall_mem_cons.mpr ⟨lw_p81, List.forall_mem_cons.mpr ⟨lw_p82, List.forall_mem_cons.mpr ⟨lw_p83, List.forall_mem_cons.mpr ⟨lw_p84, List.forall_mem_cons.mpr ⟨lw_p85, List.forall_mem_cons.mpr ⟨lw_p86, List.forall_mem_cons.mpr ⟨lw_p87, List.forall_mem_cons.mpr ⟨lw_p88, List.forall_mem_cons.mpr ⟨lw_p89, List.forall_mem_cons.mpr ⟨lw_p90, List.forall_mem_cons.mpr ⟨lw_p91, List.forall_mem_cons.mpr ⟨lw_p92, List.forall_mem_cons.mpr ⟨lw_p93, List.forall_mem_cons.mpr ⟨lw_p94, List.forall_mem_cons.mpr ⟨lw_p95, fun _ h => absurd h List.not_mem_nil⟩⟩⟩⟩⟩⟩⟩⟩⟩⟩⟩⟩⟩⟩⟩⟩
theorem lw_p96 : lw_okq (⟨"TurnedPostsModel", "goes", "(I)Z"⟩, 43) := ⟨⟨by decide +kernel, by decide +kernel⟩, List.mem_of_getElem? (i := 1190) (by decide +kernel), List.mem_of_getElem? (i := 1666) (by decide +kernel), List.mem_of_getElem? (i := 1667) (by decide +kernel)⟩
theorem lw_p97 : lw_okq (⟨"TurnedPostsModel", "goesFrom", "(I)V"⟩, 43) := ⟨⟨by decide +kernel, by decide +kernel⟩, List.mem_of_getElem? (i := 1190) (by decide +kernel), List.mem_of_getElem? (i := 1670) (by decide +kernel), List.mem_of_getElem? (i := 1671) (by decide +kernel)⟩
theorem lw_p98 : lw_okq (⟨"TurnedPostsModel", "runs0", "(I)Z"⟩, 43) := ⟨⟨by decide +kernel, by decide +kernel⟩, List.mem_of_getElem? (i := 1190) (by decide +kernel), List.mem_of_getElem? (i := 1674) (by decide +kernel), List.mem_of_getElem? (i := 1675) (by decide +kernel)⟩
theorem lw_p99 : lw_okq (⟨"TurnedPostsModel", "adds", "(I)Z"⟩, 43) := ⟨⟨by decide +kernel, by decide +kernel⟩, List.mem_of_getElem? (i := 1190) (by decide +kernel), List.mem_of_getElem? (i := 1678) (by decide +kernel), List.mem_of_getElem? (i := 1679) (by decide +kernel)⟩
theorem lw_p100 : lw_okq (⟨"TurnedPostsModel", "shuts", "(IIZ)Z"⟩, 43) := ⟨⟨by decide +kernel, by decide +kernel⟩, List.mem_of_getElem? (i := 1190) (by decide +kernel), List.mem_of_getElem? (i := 1682) (by decide +kernel), List.mem_of_getElem? (i := 1683) (by decide +kernel)⟩
theorem lw_p101 : lw_okq (⟨"TurnedPostsModel", "nowOf", "(I)I"⟩, 43) := ⟨⟨by decide +kernel, by decide +kernel⟩, List.mem_of_getElem? (i := 1190) (by decide +kernel), List.mem_of_getElem? (i := 1690) (by decide +kernel), List.mem_of_getElem? (i := 1691) (by decide +kernel)⟩
theorem lw_p102 : lw_okq (⟨"TurnedPostsModel", "walkersOf", "(Z)I"⟩, 43) := ⟨⟨by decide +kernel, by decide +kernel⟩, List.mem_of_getElem? (i := 1190) (by decide +kernel), List.mem_of_getElem? (i := 1694) (by decide +kernel), List.mem_of_getElem? (i := 1695) (by decide +kernel)⟩
theorem lw_p103 : lw_okq (⟨"TurnedPostsModel", "elsewhere", "()I"⟩, 43) := ⟨⟨by decide +kernel, by decide +kernel⟩, List.mem_of_getElem? (i := 1190) (by decide +kernel), List.mem_of_getElem? (i := 1702) (by decide +kernel), List.mem_of_getElem? (i := 1703) (by decide +kernel)⟩
theorem lw_p104 : lw_okq (⟨"TurnedPostsModel", "isLog", "(I)Z"⟩, 43) := ⟨⟨by decide +kernel, by decide +kernel⟩, List.mem_of_getElem? (i := 1190) (by decide +kernel), List.mem_of_getElem? (i := 1710) (by decide +kernel), List.mem_of_getElem? (i := 1711) (by decide +kernel)⟩
theorem lw_p105 : lw_okq (⟨"TurnedPostsModel", "laysFits", "(IZ)I"⟩, 43) := ⟨⟨by decide +kernel, by decide +kernel⟩, List.mem_of_getElem? (i := 1190) (by decide +kernel), List.mem_of_getElem? (i := 1718) (by decide +kernel), List.mem_of_getElem? (i := 1719) (by decide +kernel)⟩
theorem lw_p106 : lw_okq (⟨"TurnedPostsModel", "laysNoFits", "()V"⟩, 43) := ⟨⟨by decide +kernel, by decide +kernel⟩, List.mem_of_getElem? (i := 1190) (by decide +kernel), List.mem_of_getElem? (i := 1722) (by decide +kernel), List.mem_of_getElem? (i := 1723) (by decide +kernel)⟩
theorem lw_p107 : lw_okq (⟨"TurnedPostsModel", "isSo", "()Z"⟩, 43) := ⟨⟨by decide +kernel, by decide +kernel⟩, List.mem_of_getElem? (i := 1190) (by decide +kernel), List.mem_of_getElem? (i := 1726) (by decide +kernel), List.mem_of_getElem? (i := 1727) (by decide +kernel)⟩
theorem lw_p108 : lw_okq (⟨"TurnedPostsModel", "laysEnds", "()V"⟩, 43) := ⟨⟨by decide +kernel, by decide +kernel⟩, List.mem_of_getElem? (i := 1190) (by decide +kernel), List.mem_of_getElem? (i := 1730) (by decide +kernel), List.mem_of_getElem? (i := 1731) (by decide +kernel)⟩
theorem lw_p109 : lw_okq (⟨"TurnedPostsModel", "askOf", "()I"⟩, 43) := ⟨⟨by decide +kernel, by decide +kernel⟩, List.mem_of_getElem? (i := 1190) (by decide +kernel), List.mem_of_getElem? (i := 1734) (by decide +kernel), List.mem_of_getElem? (i := 1735) (by decide +kernel)⟩
theorem lw_p110 : lw_okq (⟨"TurnedPostsModel", "sureOf", "(I)I"⟩, 43) := ⟨⟨by decide +kernel, by decide +kernel⟩, List.mem_of_getElem? (i := 1190) (by decide +kernel), List.mem_of_getElem? (i := 1739) (by decide +kernel), List.mem_of_getElem? (i := 1740) (by decide +kernel)⟩
theorem lw_p111 : lw_okq (⟨"TurnedPostsModel", "draws", "()V"⟩, 43) := ⟨⟨by decide +kernel, by decide +kernel⟩, List.mem_of_getElem? (i := 1190) (by decide +kernel), List.mem_of_getElem? (i := 1755) (by decide +kernel), List.mem_of_getElem? (i := 1756) (by decide +kernel)⟩
def lw_privs_7 : List (MethodName × Nat) := [(⟨"TurnedPostsModel", "goes", "(I)Z"⟩, 43), (⟨"TurnedPostsModel", "goesFrom", "(I)V"⟩, 43), (⟨"TurnedPostsModel", "runs0", "(I)Z"⟩, 43), (⟨"TurnedPostsModel", "adds", "(I)Z"⟩, 43), (⟨"TurnedPostsModel", "shuts", "(IIZ)Z"⟩, 43), (⟨"TurnedPostsModel", "nowOf", "(I)I"⟩, 43), (⟨"TurnedPostsModel", "walkersOf", "(Z)I"⟩, 43), (⟨"TurnedPostsModel", "elsewhere", "()I"⟩, 43), (⟨"TurnedPostsModel", "isLog", "(I)Z"⟩, 43), (⟨"TurnedPostsModel", "laysFits", "(IZ)I"⟩, 43), (⟨"TurnedPostsModel", "laysNoFits", "()V"⟩, 43), (⟨"TurnedPostsModel", "isSo", "()Z"⟩, 43), (⟨"TurnedPostsModel", "laysEnds", "()V"⟩, 43), (⟨"TurnedPostsModel", "askOf", "()I"⟩, 43), (⟨"TurnedPostsModel", "sureOf", "(I)I"⟩, 43), (⟨"TurnedPostsModel", "draws", "()V"⟩, 43)]
theorem lw_r7 : ∀ q ∈ lw_privs_7, lw_okq q := List.forall_mem_cons.mpr ⟨lw_p96, List.forall_mem_cons.mpr ⟨lw_p97, List.forall_mem_cons.mpr ⟨lw_p98, List.forall_mem_cons.mpr ⟨lw_p99, List.forall_mem_cons.mpr ⟨lw_p100, List.forall_mem_cons.mpr ⟨lw_p101, List.forall_mem_cons.mpr ⟨lw_p102, List.forall_mem_cons.mpr ⟨lw_p103, List.forall_mem_cons.mpr ⟨lw_p104, List.forall_mem_cons.mpr ⟨lw_p105, List.forall_mem_cons.mpr ⟨lw_p106, List.forall_mem_cons.mpr ⟨lw_p107, List.forall_mem_cons.mpr ⟨lw_p108, List.forall_mem_cons.mpr ⟨lw_p109, List.forall_mem_cons.mpr ⟨lw_p110, List.forall_mem_cons.mpr ⟨lw_p111, fun _ h => absurd h List.not_mem_nil⟩⟩⟩⟩⟩⟩⟩⟩⟩⟩⟩⟩⟩⟩⟩⟩
theorem lw_p112 : lw_okq (⟨"TurnedPostsModel", "below", "(I)I"⟩, 43) := ⟨⟨by decide +kernel, by decide +kernel⟩, List.mem_of_getElem? (i := 1190) (by decide +kernel), List.mem_of_getElem? (i := 1759) (by decide +kernel), List.mem_of_getElem? (i := 1760) (by decide +kernel)⟩
def lw_privs_8 : List (MethodName × Nat) := [(⟨"TurnedPostsModel", "below", "(I)I"⟩, 43)]
theorem lw_r8 : ∀ q ∈ lw_privs_8, lw_okq q := List.forall_mem_cons.mpr ⟨lw_p112, fun _ h => absurd h List.not_mem_nil⟩
def lw_privs : List (MethodName × Nat) := lw_privs_1 ++ (lw_privs_2 ++ (lw_privs_3 ++ (lw_privs_4 ++ (lw_privs_5 ++ (lw_privs_6 ++ (lw_privs_7 ++ (lw_privs_8)))))))
def lw_tbl : List Cond := k2_sels lw_privs ++ tables_1
theorem lw_privs_ok : ∀ q ∈ lw_privs, lw_okq q := by
  show ∀ q ∈ lw_privs_1 ++ (lw_privs_2 ++ (lw_privs_3 ++ (lw_privs_4 ++ (lw_privs_5 ++ (lw_privs_6 ++ (lw_privs_7 ++ (lw_privs_8))))))), lw_okq q
  exact List.forall_mem_append.mpr ⟨lw_r1, List.forall_mem_append.mpr ⟨lw_r2, List.forall_mem_append.mpr ⟨lw_r3, List.forall_mem_append.mpr ⟨lw_r4, List.forall_mem_append.mpr ⟨lw_r5, List.forall_mem_append.mpr ⟨lw_r6, List.forall_mem_append.mpr ⟨lw_r7, lw_r8⟩⟩⟩⟩⟩⟩⟩
end
section
def RX0 : String := "TurnedPosts$AllWays"
def TX0 : u_T := fun k => match k with
  | 0 => ("TurnedPosts$AllWays", "made", "Z", false)
  | 1 => ("TurnedPosts$AllWays", "ways", "I", false)
  | 2 => ("TurnedPosts$AllWays", "land", "LTurnedPosts$Land;", false)
  | 3 => ("TurnedPosts$AllWays", "places", "I", false)
  | 4 => ("TurnedPosts$AllWays", "choices", "[I", true)
  | 5 => ("TurnedPosts$AllWays", "weight", "[I", true)
  | 6 => ("TurnedPosts$AllWays", "row", "[I", true)
  | 7 => ("TurnedPosts$AllWays", "once", "[I", false)
  | 8 => ("TurnedPosts$AllWays", "ends", "[I", false)
  | _ => ("TurnedPosts$AllWays", "spare", "[I", false)
def tyX0 : Nat → FieldType := fun k => match k with
  | 0 => .boolean
  | 1 => .int
  | 2 => .object "TurnedPosts$Land"
  | 3 => .int
  | 4 => .array .int
  | 5 => .array .int
  | 6 => .array .int
  | 7 => .array .int
  | 8 => .array .int
  | _ => .array .int
abbrev wsX00 : List Cond := u_ws RX0 TX0 10
theorem nmX0 : ∀ a, a < 10 → ∀ b, b < 10 → a ≠ b → (TX0 a).2.1 ≠ (TX0 b).2.1 := by decide +kernel
theorem tyX0_ok : ∀ k, k < 10 → parseFieldDescriptor (TX0 k).2.2.1 = some (tyX0 k) := by decide +kernel
abbrev cX0_init : ByteArray := prog_2_method_1_code
def yX0_init : MethodName := ⟨RX0, "<init>", "()V"⟩
abbrev cX0_make : ByteArray := prog_2_method_2_code
def yX0_make : MethodName := ⟨RX0, "make", "(LTurnedPosts$Land;)V"⟩
abbrev cX0_countWays : ByteArray := prog_2_method_3_code
def yX0_countWays : MethodName := ⟨RX0, "countWays", "(LTurnedPosts$Land;)V"⟩
abbrev cX0_grow : ByteArray := prog_2_method_4_code
def yX0_grow : MethodName := ⟨RX0, "grow", "()V"⟩
abbrev cX0_stepOnce : ByteArray := prog_2_method_5_code
def yX0_stepOnce : MethodName := ⟨RX0, "stepOnce", "()V"⟩
abbrev cX0_place : ByteArray := prog_2_method_6_code
def yX0_place : MethodName := ⟨RX0, "place", "(II)I"⟩
abbrev cX0_doubleAll : ByteArray := prog_2_method_7_code
def yX0_doubleAll : MethodName := ⟨RX0, "doubleAll", "()V"⟩
abbrev cX0_oneMore : ByteArray := prog_2_method_8_code
def yX0_oneMore : MethodName := ⟨RX0, "oneMore", "()V"⟩
abbrev cX0_entry : ByteArray := prog_2_method_9_code
def yX0_entry : MethodName := ⟨RX0, "entry", "(II)I"⟩
abbrev cX0_where : ByteArray := prog_2_method_10_code
def yX0_where : MethodName := ⟨RX0, "where", "(II)I"⟩
abbrev cX0_steps : ByteArray := prog_2_method_11_code
def yX0_steps : MethodName := ⟨RX0, "steps", "(II)I"⟩
abbrev cX0_wayAfter : ByteArray := prog_2_method_12_code
def yX0_wayAfter : MethodName := ⟨RX0, "wayAfter", "(II)I"⟩
abbrev cX0_stepsOrNever : ByteArray := prog_2_method_13_code
def yX0_stepsOrNever : MethodName := ⟨RX0, "stepsOrNever", "(II)I"⟩
abbrev cX0_road : ByteArray := prog_2_method_14_code
def yX0_road : MethodName := ⟨RX0, "road", "(II)I"⟩
abbrev cX0_turned : ByteArray := prog_2_method_15_code
def yX0_turned : MethodName := ⟨RX0, "turned", "(II)I"⟩
abbrev cX0_wayTold : ByteArray := prog_2_method_16_code
def yX0_wayTold : MethodName := ⟨RX0, "wayTold", "()I"⟩
abbrev cX0_number : ByteArray := prog_2_method_17_code
def yX0_number : MethodName := ⟨RX0, "number", "(I)I"⟩
abbrev cX0_unlike : ByteArray := prog_2_method_18_code
def yX0_unlike : MethodName := ⟨RX0, "unlike", "(II)I"⟩
abbrev cX0_nearestWay : ByteArray := prog_2_method_19_code
def yX0_nearestWay : MethodName := ⟨RX0, "nearestWay", "(II)I"⟩
abbrev cX0_treesOf : ByteArray := prog_2_method_20_code
def yX0_treesOf : MethodName := ⟨RX0, "treesOf", "(LTurnedPosts$Land;)I"⟩
abbrev cX0_nextRow : ByteArray := prog_2_method_21_code
def yX0_nextRow : MethodName := ⟨RX0, "nextRow", "()V"⟩
abbrev cX0_allComeByRow : ByteArray := prog_2_method_22_code
def yX0_allComeByRow : MethodName := ⟨RX0, "allComeByRow", "()Z"⟩
abbrev cX0_comesByRow : ByteArray := prog_2_method_23_code
def yX0_comesByRow : MethodName := ⟨RX0, "comesByRow", "(I)Z"⟩
def RX1 : String := "TurnedPosts$Course"
def TX1 : u_T := fun k => match k with
  | 0 => ("TurnedPosts$Course", "posts", "LTurnedPosts$Posts;", true)
  | 1 => ("TurnedPosts$Course", "walkers", "[I", true)
  | 2 => ("TurnedPosts$Course", "steps", "I", false)
  | 3 => ("TurnedPosts$Course", "land", "LTurnedPosts$Land;", false)
  | 4 => ("TurnedPosts$Course", "never", "I", false)
  | 5 => ("TurnedPosts$Course", "done", "I", false)
  | 6 => ("TurnedPosts$Course", "firstCame", "I", false)
  | 7 => ("TurnedPosts$Course", "longestRun", "I", false)
  | 8 => ("TurnedPosts$Course", "moved", "I", false)
  | 9 => ("TurnedPosts$Course", "crowd", "I", false)
  | _ => ("TurnedPosts$Course", "seed", "I", false)
def tyX1 : Nat → FieldType := fun k => match k with
  | 0 => .object "TurnedPosts$Posts"
  | 1 => .array .int
  | 2 => .int
  | 3 => .object "TurnedPosts$Land"
  | 4 => .int
  | 5 => .int
  | 6 => .int
  | 7 => .int
  | 8 => .int
  | 9 => .int
  | _ => .int
abbrev wsX10 : List Cond := u_ws RX1 TX1 11
theorem nmX1 : ∀ a, a < 11 → ∀ b, b < 11 → a ≠ b → (TX1 a).2.1 ≠ (TX1 b).2.1 := by decide +kernel
theorem tyX1_ok : ∀ k, k < 11 → parseFieldDescriptor (TX1 k).2.2.1 = some (tyX1 k) := by decide +kernel
abbrev cX1_init : ByteArray := prog_3_method_1_code
def yX1_init : MethodName := ⟨RX1, "<init>", "()V"⟩
abbrev cX1_begin : ByteArray := prog_3_method_2_code
def yX1_begin : MethodName := ⟨RX1, "begin", "(LTurnedPosts$Land;)V"⟩
abbrev cX1_goThrough : ByteArray := prog_3_method_3_code
def yX1_goThrough : MethodName := ⟨RX1, "goThrough", "(LTurnedPosts$Land;LTurnedPosts$Day;I)I"⟩
abbrev cX1_draw : ByteArray := prog_3_method_4_code
def yX1_draw : MethodName := ⟨RX1, "draw", "(LTurnedPosts$Land;II)V"⟩
abbrev cX1_drawBelow : ByteArray := prog_3_method_5_code
def yX1_drawBelow : MethodName := ⟨RX1, "drawBelow", "(I)I"⟩
abbrev cX1_goAll : ByteArray := prog_3_method_6_code
def yX1_goAll : MethodName := ⟨RX1, "goAll", "(LTurnedPosts$Land;)V"⟩
abbrev cX1_does : ByteArray := prog_3_method_7_code
def yX1_does : MethodName := ⟨RX1, "does", "(III)Z"⟩
abbrev cX1_go : ByteArray := prog_3_method_8_code
def yX1_go : MethodName := ⟨RX1, "go", "(I)Z"⟩
abbrev cX1_run : ByteArray := prog_3_method_9_code
def yX1_run : MethodName := ⟨RX1, "run", "(I)Z"⟩
abbrev cX1_move : ByteArray := prog_3_method_10_code
def yX1_move : MethodName := ⟨RX1, "move", "(II)V"⟩
abbrev cX1_add : ByteArray := prog_3_method_11_code
def yX1_add : MethodName := ⟨RX1, "add", "(I)Z"⟩
abbrev cX1_shut : ByteArray := prog_3_method_12_code
def yX1_shut : MethodName := ⟨RX1, "shut", "(II)Z"⟩
abbrev cX1_open : ByteArray := prog_3_method_13_code
def yX1_open : MethodName := ⟨RX1, "open", "(II)Z"⟩
abbrev cX1_lookAtCrowd : ByteArray := prog_3_method_14_code
def yX1_lookAtCrowd : MethodName := ⟨RX1, "lookAtCrowd", "()V"⟩
abbrev cX1_walkersInAll : ByteArray := prog_3_method_15_code
def yX1_walkersInAll : MethodName := ⟨RX1, "walkersInAll", "(Z)I"⟩
abbrev cX1_told : ByteArray := prog_3_method_16_code
def yX1_told : MethodName := ⟨RX1, "told", "(I)I"⟩
abbrev cX1_toldAfter : ByteArray := prog_3_method_17_code
def yX1_toldAfter : MethodName := ⟨RX1, "toldAfter", "(I)I"⟩
abbrev cX1_unlikeTold : ByteArray := prog_3_method_18_code
def yX1_unlikeTold : MethodName := ⟨RX1, "unlikeTold", "()I"⟩
def RX2 : String := "TurnedPosts$Day"
def TX2 : u_T := fun k => match k with
  | 0 => ("TurnedPosts$Day", "deeds", "I", false)
  | 1 => ("TurnedPosts$Day", "kind", "[I", true)
  | 2 => ("TurnedPosts$Day", "crossing", "[I", true)
  | _ => ("TurnedPosts$Day", "road", "[I", true)
def tyX2 : Nat → FieldType := fun k => match k with
  | 0 => .int
  | 1 => .array .int
  | 2 => .array .int
  | _ => .array .int
abbrev wsX20 : List Cond := u_ws RX2 TX2 4
theorem nmX2 : ∀ a, a < 4 → ∀ b, b < 4 → a ≠ b → (TX2 a).2.1 ≠ (TX2 b).2.1 := by decide +kernel
theorem tyX2_ok : ∀ k, k < 4 → parseFieldDescriptor (TX2 k).2.2.1 = some (tyX2 k) := by decide +kernel
abbrev cX2_init : ByteArray := prog_4_method_1_code
def yX2_init : MethodName := ⟨RX2, "<init>", "()V"⟩
abbrev cX2_takeAll : ByteArray := prog_4_method_2_code
def yX2_takeAll : MethodName := ⟨RX2, "takeAll", "(LTurnedPosts$Day;)V"⟩
abbrev cX2_add : ByteArray := prog_4_method_3_code
def yX2_add : MethodName := ⟨RX2, "add", "(III)V"⟩
abbrev cX2_told : ByteArray := prog_4_method_4_code
def yX2_told : MethodName := ⟨RX2, "told", "(II)I"⟩
def RX3 : String := "TurnedPosts$Fitting"
def TX3 : u_T := fun k => match k with
  | 0 => ("TurnedPosts$Fitting", "made", "Z", false)
  | 1 => ("TurnedPosts$Fitting", "land", "I", false)
  | 2 => ("TurnedPosts$Fitting", "log", "I", false)
  | 3 => ("TurnedPosts$Fitting", "found", "I", false)
  | 4 => ("TurnedPosts$Fitting", "least", "I", false)
  | 5 => ("TurnedPosts$Fitting", "most", "I", false)
  | 6 => ("TurnedPosts$Fitting", "rows", "[I", false)
  | _ => ("TurnedPosts$Fitting", "places", "[I", true)
def tyX3 : Nat → FieldType := fun k => match k with
  | 0 => .boolean
  | 1 => .int
  | 2 => .int
  | 3 => .int
  | 4 => .int
  | 5 => .int
  | 6 => .array .int
  | _ => .array .int
abbrev wsX30 : List Cond := u_ws RX3 TX3 8
theorem nmX3 : ∀ a, a < 8 → ∀ b, b < 8 → a ≠ b → (TX3 a).2.1 ≠ (TX3 b).2.1 := by decide +kernel
theorem tyX3_ok : ∀ k, k < 8 → parseFieldDescriptor (TX3 k).2.2.1 = some (tyX3 k) := by decide +kernel
abbrev cX3_init : ByteArray := prog_5_method_1_code
def yX3_init : MethodName := ⟨RX3, "<init>", "()V"⟩
abbrev cX3_find : ByteArray := prog_5_method_2_code
def yX3_find : MethodName := ⟨RX3, "find", "(LTurnedPosts$AllWays;LTurnedPosts$Log;)V"⟩
abbrev cX3_grow : ByteArray := prog_5_method_3_code
def yX3_grow : MethodName := ⟨RX3, "grow", "(I)V"⟩
abbrev cX3_tryWay : ByteArray := prog_5_method_4_code
def yX3_tryWay : MethodName := ⟨RX3, "tryWay", "(LTurnedPosts$AllWays;LTurnedPosts$Log;I)V"⟩
abbrev cX3_isSo : ByteArray := prog_5_method_5_code
def yX3_isSo : MethodName := ⟨RX3, "isSo", "(LTurnedPosts$AllWays;III)Z"⟩
abbrev cX3_way : ByteArray := prog_5_method_6_code
def yX3_way : MethodName := ⟨RX3, "way", "(I)I"⟩
abbrev cX3_pointing : ByteArray := prog_5_method_7_code
def yX3_pointing : MethodName := ⟨RX3, "pointing", "(LTurnedPosts$AllWays;II)I"⟩
abbrev cX3_sure : ByteArray := prog_5_method_8_code
def yX3_sure : MethodName := ⟨RX3, "sure", "(LTurnedPosts$AllWays;I)I"⟩
abbrev cX3_ask : ByteArray := prog_5_method_9_code
def yX3_ask : MethodName := ⟨RX3, "ask", "(LTurnedPosts$AllWays;)I"⟩
abbrev cX3_mostTogether : ByteArray := prog_5_method_10_code
def yX3_mostTogether : MethodName := ⟨RX3, "mostTogether", "(LTurnedPosts$AllWays;I)I"⟩
def RX4 : String := "TurnedPosts$Land"
def TX4 : u_T := fun k => match k with
  | 0 => ("TurnedPosts$Land", "crossings", "I", false)
  | 1 => ("TurnedPosts$Land", "inns", "I", false)
  | 2 => ("TurnedPosts$Land", "roads", "[I", true)
  | 3 => ("TurnedPosts$Land", "leads", "[I", true)
  | 4 => ("TurnedPosts$Land", "post", "[I", true)
  | _ => ("TurnedPosts$Land", "walkers", "[I", true)
def tyX4 : Nat → FieldType := fun k => match k with
  | 0 => .int
  | 1 => .int
  | 2 => .array .int
  | 3 => .array .int
  | 4 => .array .int
  | _ => .array .int
abbrev wsX40 : List Cond := u_ws RX4 TX4 6
theorem nmX4 : ∀ a, a < 6 → ∀ b, b < 6 → a ≠ b → (TX4 a).2.1 ≠ (TX4 b).2.1 := by decide +kernel
theorem tyX4_ok : ∀ k, k < 6 → parseFieldDescriptor (TX4 k).2.2.1 = some (tyX4 k) := by decide +kernel
abbrev cX4_init : ByteArray := prog_6_method_1_code
def yX4_init : MethodName := ⟨RX4, "<init>", "()V"⟩
abbrev cX4_clear : ByteArray := prog_6_method_2_code
def yX4_clear : MethodName := ⟨RX4, "clear", "()V"⟩
abbrev cX4_takeAll : ByteArray := prog_6_method_3_code
def yX4_takeAll : MethodName := ⟨RX4, "takeAll", "(LTurnedPosts$Land;)V"⟩
abbrev cX4_has : ByteArray := prog_6_method_4_code
def yX4_has : MethodName := ⟨RX4, "has", "(I)Z"⟩
abbrev cX4_isInn : ByteArray := prog_6_method_5_code
def yX4_isInn : MethodName := ⟨RX4, "isInn", "(I)Z"⟩
abbrev cX4_hasRoad : ByteArray := prog_6_method_6_code
def yX4_hasRoad : MethodName := ⟨RX4, "hasRoad", "(II)Z"⟩
abbrev cX4_waysOut : ByteArray := prog_6_method_7_code
def yX4_waysOut : MethodName := ⟨RX4, "waysOut", "(I)I"⟩
abbrev cX4_target : ByteArray := prog_6_method_8_code
def yX4_target : MethodName := ⟨RX4, "target", "(II)I"⟩
abbrev cX4_addRoad : ByteArray := prog_6_method_9_code
def yX4_addRoad : MethodName := ⟨RX4, "addRoad", "(II)V"⟩
abbrev cX4_told : ByteArray := prog_6_method_10_code
def yX4_told : MethodName := ⟨RX4, "told", "(I)I"⟩
def RX5 : String := "TurnedPosts$Log"
def TX5 : u_T := fun k => match k with
  | 0 => ("TurnedPosts$Log", "facts", "I", false)
  | 1 => ("TurnedPosts$Log", "crossing", "[I", true)
  | _ => ("TurnedPosts$Log", "inn", "[I", true)
def tyX5 : Nat → FieldType := fun k => match k with
  | 0 => .int
  | 1 => .array .int
  | _ => .array .int
abbrev wsX50 : List Cond := u_ws RX5 TX5 3
theorem nmX5 : ∀ a, a < 3 → ∀ b, b < 3 → a ≠ b → (TX5 a).2.1 ≠ (TX5 b).2.1 := by decide +kernel
theorem tyX5_ok : ∀ k, k < 3 → parseFieldDescriptor (TX5 k).2.2.1 = some (tyX5 k) := by decide +kernel
abbrev cX5_init : ByteArray := prog_7_method_1_code
def yX5_init : MethodName := ⟨RX5, "<init>", "()V"⟩
abbrev cX5_takeAll : ByteArray := prog_7_method_2_code
def yX5_takeAll : MethodName := ⟨RX5, "takeAll", "(LTurnedPosts$Log;)V"⟩
abbrev cX5_add : ByteArray := prog_7_method_3_code
def yX5_add : MethodName := ⟨RX5, "add", "(II)V"⟩
abbrev cX5_told : ByteArray := prog_7_method_4_code
def yX5_told : MethodName := ⟨RX5, "told", "(II)I"⟩
def RX6 : String := "TurnedPosts$Posts"
def TX6 : u_T := fun k => match k with
  | 0 => ("TurnedPosts$Posts", "land", "LTurnedPosts$Land;", false)
  | 1 => ("TurnedPosts$Posts", "post", "[I", true)
  | 2 => ("TurnedPosts$Posts", "shut", "[I", true)
  | 3 => ("TurnedPosts$Posts", "steps", "I", false)
  | 4 => ("TurnedPosts$Posts", "where", "I", false)
  | _ => ("TurnedPosts$Posts", "waysOut", "[I", true)
def tyX6 : Nat → FieldType := fun k => match k with
  | 0 => .object "TurnedPosts$Land"
  | 1 => .array .int
  | 2 => .array .int
  | 3 => .int
  | 4 => .int
  | _ => .array .int
abbrev wsX60 : List Cond := u_ws RX6 TX6 6
theorem nmX6 : ∀ a, a < 6 → ∀ b, b < 6 → a ≠ b → (TX6 a).2.1 ≠ (TX6 b).2.1 := by decide +kernel
theorem tyX6_ok : ∀ k, k < 6 → parseFieldDescriptor (TX6 k).2.2.1 = some (tyX6 k) := by decide +kernel
abbrev cX6_init : ByteArray := prog_8_method_1_code
def yX6_init : MethodName := ⟨RX6, "<init>", "()V"⟩
abbrev cX6_begin : ByteArray := prog_8_method_2_code
def yX6_begin : MethodName := ⟨RX6, "begin", "(LTurnedPosts$Land;)V"⟩
abbrev cX6_isShut : ByteArray := prog_8_method_3_code
def yX6_isShut : MethodName := ⟨RX6, "isShut", "(II)Z"⟩
abbrev cX6_shutRoad : ByteArray := prog_8_method_4_code
def yX6_shutRoad : MethodName := ⟨RX6, "shutRoad", "(II)V"⟩
abbrev cX6_openRoad : ByteArray := prog_8_method_5_code
def yX6_openRoad : MethodName := ⟨RX6, "openRoad", "(II)V"⟩
abbrev cX6_turn : ByteArray := prog_8_method_6_code
def yX6_turn : MethodName := ⟨RX6, "turn", "(I)I"⟩
abbrev cX6_step : ByteArray := prog_8_method_7_code
def yX6_step : MethodName := ⟨RX6, "step", "(I)I"⟩
abbrev cX6_run : ByteArray := prog_8_method_8_code
def yX6_run : MethodName := ⟨RX6, "run", "(I)V"⟩
abbrev cX6_code : ByteArray := prog_8_method_9_code
def yX6_code : MethodName := ⟨RX6, "code", "()I"⟩
def RX7 : String := "TurnedPosts$Reader"
def TX7 : u_T := fun k => match k with
  | 0 => ("TurnedPosts$Reader", "land", "LTurnedPosts$Land;", true)
  | 1 => ("TurnedPosts$Reader", "day", "LTurnedPosts$Day;", true)
  | 2 => ("TurnedPosts$Reader", "log", "LTurnedPosts$Log;", true)
  | 3 => ("TurnedPosts$Reader", "fault", "I", false)
  | 4 => ("TurnedPosts$Reader", "faultPlace", "I", false)
  | 5 => ("TurnedPosts$Reader", "tape", "[B", false)
  | 6 => ("TurnedPosts$Reader", "length", "I", false)
  | 7 => ("TurnedPosts$Reader", "at", "I", false)
  | 8 => ("TurnedPosts$Reader", "token", "I", false)
  | 9 => ("TurnedPosts$Reader", "place", "I", false)
  | 10 => ("TurnedPosts$Reader", "value", "I", false)
  | 11 => ("TurnedPosts$Reader", "broken", "Z", false)
  | _ => ("TurnedPosts$Reader", "toldOf", "I", false)
def tyX7 : Nat → FieldType := fun k => match k with
  | 0 => .object "TurnedPosts$Land"
  | 1 => .object "TurnedPosts$Day"
  | 2 => .object "TurnedPosts$Log"
  | 3 => .int
  | 4 => .int
  | 5 => .array .byte
  | 6 => .int
  | 7 => .int
  | 8 => .int
  | 9 => .int
  | 10 => .int
  | 11 => .boolean
  | _ => .int
abbrev wsX70 : List Cond := u_ws RX7 TX7 13
theorem nmX7 : ∀ a, a < 13 → ∀ b, b < 13 → a ≠ b → (TX7 a).2.1 ≠ (TX7 b).2.1 := by decide +kernel
theorem tyX7_ok : ∀ k, k < 13 → parseFieldDescriptor (TX7 k).2.2.1 = some (tyX7 k) := by decide +kernel
abbrev cX7_init : ByteArray := prog_9_method_1_code
def yX7_init : MethodName := ⟨RX7, "<init>", "()V"⟩
abbrev cX7_read : ByteArray := prog_9_method_2_code
def yX7_read : MethodName := ⟨RX7, "read", "([BII)V"⟩
abbrev cX7_breakHere : ByteArray := prog_9_method_3_code
def yX7_breakHere : MethodName := ⟨RX7, "breakHere", "()V"⟩
abbrev cX7_note : ByteArray := prog_9_method_4_code
def yX7_note : MethodName := ⟨RX7, "note", "(II)V"⟩
abbrev cX7_lookAtWhole : ByteArray := prog_9_method_5_code
def yX7_lookAtWhole : MethodName := ⟨RX7, "lookAtWhole", "()V"⟩
abbrev cX7_readLine : ByteArray := prog_9_method_6_code
def yX7_readLine : MethodName := ⟨RX7, "readLine", "(I)V"⟩
abbrev cX7_readCrossing : ByteArray := prog_9_method_7_code
def yX7_readCrossing : MethodName := ⟨RX7, "readCrossing", "()V"⟩
abbrev cX7_readOther : ByteArray := prog_9_method_8_code
def yX7_readOther : MethodName := ⟨RX7, "readOther", "(I)V"⟩
abbrev cX7_readDeed : ByteArray := prog_9_method_9_code
def yX7_readDeed : MethodName := ⟨RX7, "readDeed", "(I)V"⟩
abbrev cX7_readFact : ByteArray := prog_9_method_10_code
def yX7_readFact : MethodName := ⟨RX7, "readFact", "(I)V"⟩
abbrev cX7_tellOf : ByteArray := prog_9_method_11_code
def yX7_tellOf : MethodName := ⟨RX7, "tellOf", "(I)V"⟩
abbrev cX7_readNumber : ByteArray := prog_9_method_12_code
def yX7_readNumber : MethodName := ⟨RX7, "readNumber", "(I)I"⟩
abbrev cX7_nextToken : ByteArray := prog_9_method_13_code
def yX7_nextToken : MethodName := ⟨RX7, "nextToken", "()V"⟩
abbrev cX7_takeLetters : ByteArray := prog_9_method_14_code
def yX7_takeLetters : MethodName := ⟨RX7, "takeLetters", "()V"⟩
abbrev cX7_takeDigits : ByteArray := prog_9_method_15_code
def yX7_takeDigits : MethodName := ⟨RX7, "takeDigits", "()V"⟩
abbrev cX7_isBlank : ByteArray := prog_9_method_16_code
def yX7_isBlank : MethodName := ⟨RX7, "isBlank", "(I)Z"⟩
abbrev cX7_isLetter : ByteArray := prog_9_method_17_code
def yX7_isLetter : MethodName := ⟨RX7, "isLetter", "(I)Z"⟩
abbrev cX7_isDigit : ByteArray := prog_9_method_18_code
def yX7_isDigit : MethodName := ⟨RX7, "isDigit", "(I)Z"⟩
abbrev cX7_wordOf : ByteArray := prog_9_method_19_code
def yX7_wordOf : MethodName := ⟨RX7, "wordOf", "(I)I"⟩
abbrev cX7_reads : ByteArray := prog_9_method_20_code
def yX7_reads : MethodName := ⟨RX7, "reads", "(Ljava/lang/String;)Z"⟩
def RX8 : String := "TurnedPosts$Roads"
def TX8 : u_T := fun k => match k with
  | _ => ("", "", "", false)
def tyX8 : Nat → FieldType := fun k => match k with
  | _ => .int
abbrev wsX80 : List Cond := u_ws RX8 TX8 0
theorem nmX8 : ∀ a, a < 0 → ∀ b, b < 0 → a ≠ b → (TX8 a).2.1 ≠ (TX8 b).2.1 := by decide +kernel
theorem tyX8_ok : ∀ k, k < 0 → parseFieldDescriptor (TX8 k).2.2.1 = some (tyX8 k) := by decide +kernel
abbrev cX8_spread : ByteArray := prog_10_method_2_code
def yX8_spread : MethodName := ⟨RX8, "spread", "(LTurnedPosts$Land;I)I"⟩
abbrev cX8_distance : ByteArray := prog_10_method_3_code
def yX8_distance : MethodName := ⟨RX8, "distance", "(LTurnedPosts$Land;II)I"⟩
abbrev cX8_reached : ByteArray := prog_10_method_4_code
def yX8_reached : MethodName := ⟨RX8, "reached", "(LTurnedPosts$Land;I)I"⟩
abbrev cX8_nearest : ByteArray := prog_10_method_5_code
def yX8_nearest : MethodName := ⟨RX8, "nearest", "(LTurnedPosts$Land;I)I"⟩
abbrev cX8_parts : ByteArray := prog_10_method_6_code
def yX8_parts : MethodName := ⟨RX8, "parts", "(LTurnedPosts$Land;Z)I"⟩
abbrev cX8_inOneClass : ByteArray := prog_10_method_7_code
def yX8_inOneClass : MethodName := ⟨RX8, "inOneClass", "(LTurnedPosts$Land;I)I"⟩
abbrev cX8_heads : ByteArray := prog_10_method_8_code
def yX8_heads : MethodName := ⟨RX8, "heads", "(LTurnedPosts$Land;)I"⟩
abbrev cX8_ends : ByteArray := prog_10_method_9_code
def yX8_ends : MethodName := ⟨RX8, "ends", "(LTurnedPosts$Land;)I"⟩
abbrev cX8_loops : ByteArray := prog_10_method_10_code
def yX8_loops : MethodName := ⟨RX8, "loops", "(LTurnedPosts$Land;)I"⟩
abbrev cX8_doubles : ByteArray := prog_10_method_11_code
def yX8_doubles : MethodName := ⟨RX8, "doubles", "(LTurnedPosts$Land;)I"⟩
abbrev cX8_howManyLead : ByteArray := prog_10_method_12_code
def yX8_howManyLead : MethodName := ⟨RX8, "howManyLead", "(LTurnedPosts$Land;II)I"⟩
abbrev cX8_howManyLeadTo : ByteArray := prog_10_method_13_code
def yX8_howManyLeadTo : MethodName := ⟨RX8, "howManyLeadTo", "(LTurnedPosts$Land;I)I"⟩
abbrev cX8_even : ByteArray := prog_10_method_14_code
def yX8_even : MethodName := ⟨RX8, "even", "(LTurnedPosts$Land;)I"⟩
abbrev cX8_busy : ByteArray := prog_10_method_15_code
def yX8_busy : MethodName := ⟨RX8, "busy", "(LTurnedPosts$Land;)I"⟩
abbrev cX8_ring : ByteArray := prog_10_method_16_code
def yX8_ring : MethodName := ⟨RX8, "ring", "(LTurnedPosts$Land;I)I"⟩
def RX9 : String := "TurnedPosts$Told"
def TX9 : u_T := fun k => match k with
  | 0 => ("TurnedPosts$Told", "tape", "[B", true)
  | 1 => ("TurnedPosts$Told", "length", "I", false)
  | 2 => ("TurnedPosts$Told", "fault", "I", false)
  | 3 => ("TurnedPosts$Told", "faultPlace", "I", false)
  | 4 => ("TurnedPosts$Told", "kept", "[I", true)
  | 5 => ("TurnedPosts$Told", "lands", "[LTurnedPosts$Land;", true)
  | 6 => ("TurnedPosts$Told", "days", "[LTurnedPosts$Day;", true)
  | _ => ("TurnedPosts$Told", "logs", "[LTurnedPosts$Log;", true)
def tyX9 : Nat → FieldType := fun k => match k with
  | 0 => .array .byte
  | 1 => .int
  | 2 => .int
  | 3 => .int
  | 4 => .array .int
  | 5 => .array (.object "TurnedPosts$Land")
  | 6 => .array (.object "TurnedPosts$Day")
  | _ => .array (.object "TurnedPosts$Log")
abbrev wsX90 : List Cond := u_ws RX9 TX9 8
theorem nmX9 : ∀ a, a < 8 → ∀ b, b < 8 → a ≠ b → (TX9 a).2.1 ≠ (TX9 b).2.1 := by decide +kernel
theorem tyX9_ok : ∀ k, k < 8 → parseFieldDescriptor (TX9 k).2.2.1 = some (tyX9 k) := by decide +kernel
abbrev cX9_init : ByteArray := prog_11_method_1_code
def yX9_init : MethodName := ⟨RX9, "<init>", "()V"⟩
abbrev cX9_append : ByteArray := prog_11_method_2_code
def yX9_append : MethodName := ⟨RX9, "append", "(I)V"⟩
abbrev cX9_placeFor : ByteArray := prog_11_method_3_code
def yX9_placeFor : MethodName := ⟨RX9, "placeFor", "(II)I"⟩
abbrev cX9_keep : ByteArray := prog_11_method_4_code
def yX9_keep : MethodName := ⟨RX9, "keep", "(IILTurnedPosts$Reader;)V"⟩
abbrev cX9_takeAll : ByteArray := prog_11_method_5_code
def yX9_takeAll : MethodName := ⟨RX9, "takeAll", "(LTurnedPosts$Told;)V"⟩
abbrev cX9_landAt : ByteArray := prog_11_method_6_code
def yX9_landAt : MethodName := ⟨RX9, "landAt", "(I)LTurnedPosts$Land;"⟩
abbrev cX9_dayAt : ByteArray := prog_11_method_7_code
def yX9_dayAt : MethodName := ⟨RX9, "dayAt", "(I)LTurnedPosts$Day;"⟩
abbrev cX9_logAt : ByteArray := prog_11_method_8_code
def yX9_logAt : MethodName := ⟨RX9, "logAt", "(I)LTurnedPosts$Log;"⟩
def RX10 : String := "TurnedPosts$Trail"
def TX10 : u_T := fun k => match k with
  | 0 => ("TurnedPosts$Trail", "posts", "LTurnedPosts$Posts;", true)
  | 1 => ("TurnedPosts$Trail", "visits", "[I", true)
  | 2 => ("TurnedPosts$Trail", "gone", "[I", true)
  | 3 => ("TurnedPosts$Trail", "reached", "I", false)
  | 4 => ("TurnedPosts$Trail", "steps", "I", false)
  | 5 => ("TurnedPosts$Trail", "where", "I", false)
  | 6 => ("TurnedPosts$Trail", "covered", "I", false)
  | _ => ("TurnedPosts$Trail", "returned", "I", false)
def tyX10 : Nat → FieldType := fun k => match k with
  | 0 => .object "TurnedPosts$Posts"
  | 1 => .array .int
  | 2 => .array .int
  | 3 => .int
  | 4 => .int
  | 5 => .int
  | 6 => .int
  | _ => .int
abbrev wsX100 : List Cond := u_ws RX10 TX10 8
theorem nmX10 : ∀ a, a < 8 → ∀ b, b < 8 → a ≠ b → (TX10 a).2.1 ≠ (TX10 b).2.1 := by decide +kernel
theorem tyX10_ok : ∀ k, k < 8 → parseFieldDescriptor (TX10 k).2.2.1 = some (tyX10 k) := by decide +kernel
abbrev cX10_init : ByteArray := prog_12_method_1_code
def yX10_init : MethodName := ⟨RX10, "<init>", "()V"⟩
abbrev cX10_follow : ByteArray := prog_12_method_2_code
def yX10_follow : MethodName := ⟨RX10, "follow", "(LTurnedPosts$Land;I)V"⟩
abbrev cX10_arrive : ByteArray := prog_12_method_3_code
def yX10_arrive : MethodName := ⟨RX10, "arrive", "(II)I"⟩
abbrev cX10_unused : ByteArray := prog_12_method_4_code
def yX10_unused : MethodName := ⟨RX10, "unused", "()I"⟩
abbrev cX10_round : ByteArray := prog_12_method_5_code
def yX10_round : MethodName := ⟨RX10, "round", "()I"⟩
def RX11 : String := "TurnedPosts"
def TX11 : u_T := fun k => match k with
  | 0 => ("TurnedPosts", "told", "LTurnedPosts$Told;", true)
  | 1 => ("TurnedPosts", "images", "[LTurnedPosts$Told;", true)
  | 2 => ("TurnedPosts", "imageMade", "[Z", true)
  | 3 => ("TurnedPosts", "reader", "LTurnedPosts$Reader;", true)
  | 4 => ("TurnedPosts", "posts", "LTurnedPosts$Posts;", true)
  | 5 => ("TurnedPosts", "course", "LTurnedPosts$Course;", true)
  | 6 => ("TurnedPosts", "trail", "LTurnedPosts$Trail;", true)
  | 7 => ("TurnedPosts", "firstWays", "LTurnedPosts$AllWays;", true)
  | 8 => ("TurnedPosts", "secondWays", "LTurnedPosts$AllWays;", true)
  | 9 => ("TurnedPosts", "fitting", "LTurnedPosts$Fitting;", true)
  | _ => ("TurnedPosts", "codes", "[I", true)
def tyX11 : Nat → FieldType := fun k => match k with
  | 0 => .object "TurnedPosts$Told"
  | 1 => .array (.object "TurnedPosts$Told")
  | 2 => .array .boolean
  | 3 => .object "TurnedPosts$Reader"
  | 4 => .object "TurnedPosts$Posts"
  | 5 => .object "TurnedPosts$Course"
  | 6 => .object "TurnedPosts$Trail"
  | 7 => .object "TurnedPosts$AllWays"
  | 8 => .object "TurnedPosts$AllWays"
  | 9 => .object "TurnedPosts$Fitting"
  | _ => .array .int
abbrev wsX110 : List Cond := u_ws RX11 TX11 11
theorem nmX11 : ∀ a, a < 11 → ∀ b, b < 11 → a ≠ b → (TX11 a).2.1 ≠ (TX11 b).2.1 := by decide +kernel
theorem tyX11_ok : ∀ k, k < 11 → parseFieldDescriptor (TX11 k).2.2.1 = some (tyX11 k) := by decide +kernel
abbrev cX11_init : ByteArray := prog_1_method_1_code
def yX11_init : MethodName := ⟨RX11, "<init>", "()V"⟩
abbrev cX11_feed : ByteArray := prog_1_method_2_code
def yX11_feed : MethodName := ⟨RX11, "feed", "(IIIII)I"⟩
abbrev cX11_end : ByteArray := prog_1_method_3_code
def yX11_end : MethodName := ⟨RX11, "end", "(I)I"⟩
abbrev cX11_text : ByteArray := prog_1_method_4_code
def yX11_text : MethodName := ⟨RX11, "text", "(II)I"⟩
abbrev cX11_forgetWhatFollows : ByteArray := prog_1_method_5_code
def yX11_forgetWhatFollows : MethodName := ⟨RX11, "forgetWhatFollows", "(Z)V"⟩
abbrev cX11_fault : ByteArray := prog_1_method_6_code
def yX11_fault : MethodName := ⟨RX11, "fault", "(I)I"⟩
abbrev cX11_count : ByteArray := prog_1_method_7_code
def yX11_count : MethodName := ⟨RX11, "count", "(I)I"⟩
abbrev cX11_image : ByteArray := prog_1_method_8_code
def yX11_image : MethodName := ⟨RX11, "image", "(I)Z"⟩
abbrev cX11_again : ByteArray := prog_1_method_9_code
def yX11_again : MethodName := ⟨RX11, "again", "(I)Z"⟩
abbrev cX11_land : ByteArray := prog_1_method_10_code
def yX11_land : MethodName := ⟨RX11, "land", "(II)I"⟩
abbrev cX11_deed : ByteArray := prog_1_method_11_code
def yX11_deed : MethodName := ⟨RX11, "deed", "(III)I"⟩
abbrev cX11_fact : ByteArray := prog_1_method_12_code
def yX11_fact : MethodName := ⟨RX11, "fact", "(III)I"⟩
abbrev cX11_stop : ByteArray := prog_1_method_13_code
def yX11_stop : MethodName := ⟨RX11, "stop", "(II)I"⟩
abbrev cX11_state : ByteArray := prog_1_method_14_code
def yX11_state : MethodName := ⟨RX11, "state", "(IIII)I"⟩
abbrev cX11_after : ByteArray := prog_1_method_15_code
def yX11_after : MethodName := ⟨RX11, "after", "(III)I"⟩
abbrev cX11_drawn : ByteArray := prog_1_method_16_code
def yX11_drawn : MethodName := ⟨RX11, "drawn", "(IIII)I"⟩
abbrev cX11_walk : ByteArray := prog_1_method_17_code
def yX11_walk : MethodName := ⟨RX11, "walk", "(III)I"⟩
abbrev cX11_cover : ByteArray := prog_1_method_18_code
def yX11_cover : MethodName := ⟨RX11, "cover", "(III)I"⟩
abbrev cX11_endOf : ByteArray := prog_1_method_19_code
def yX11_endOf : MethodName := ⟨RX11, "endOf", "(II)I"⟩
abbrev cX11_come : ByteArray := prog_1_method_20_code
def yX11_come : MethodName := ⟨RX11, "come", "(III)I"⟩
abbrev cX11_share : ByteArray := prog_1_method_21_code
def yX11_share : MethodName := ⟨RX11, "share", "(IIII)I"⟩
abbrev cX11_period : ByteArray := prog_1_method_22_code
def yX11_period : MethodName := ⟨RX11, "period", "(IIZ)I"⟩
abbrev cX11_placeOfCode : ByteArray := prog_1_method_23_code
def yX11_placeOfCode : MethodName := ⟨RX11, "placeOfCode", "(II)I"⟩
abbrev cX11_keys : ByteArray := prog_1_method_24_code
def yX11_keys : MethodName := ⟨RX11, "keys", "(IIZ)I"⟩
abbrev cX11_isKey : ByteArray := prog_1_method_25_code
def yX11_isKey : MethodName := ⟨RX11, "isKey", "(LTurnedPosts$Land;III)Z"⟩
abbrev cX11_waysIn : ByteArray := prog_1_method_26_code
def yX11_waysIn : MethodName := ⟨RX11, "waysIn", "(ILTurnedPosts$Land;)LTurnedPosts$AllWays;"⟩
abbrev cX11_set : ByteArray := prog_1_method_27_code
def yX11_set : MethodName := ⟨RX11, "set", "(IIII)I"⟩
abbrev cX11_lot : ByteArray := prog_1_method_28_code
def yX11_lot : MethodName := ⟨RX11, "lot", "(IIIZ)I"⟩
abbrev cX11_mean : ByteArray := prog_1_method_29_code
def yX11_mean : MethodName := ⟨RX11, "mean", "(IIZ)I"⟩
abbrev cX11_inLeastTerms : ByteArray := prog_1_method_30_code
def yX11_inLeastTerms : MethodName := ⟨RX11, "inLeastTerms", "(IIZ)I"⟩
abbrev cX11_trees : ByteArray := prog_1_method_31_code
def yX11_trees : MethodName := ⟨RX11, "trees", "(I)I"⟩
abbrev cX11_longest : ByteArray := prog_1_method_32_code
def yX11_longest : MethodName := ⟨RX11, "longest", "(IIZZ)I"⟩
abbrev cX11_back : ByteArray := prog_1_method_33_code
def yX11_back : MethodName := ⟨RX11, "back", "(II)I"⟩
abbrev cX11_game : ByteArray := prog_1_method_34_code
def yX11_game : MethodName := ⟨RX11, "game", "(IIIZ)I"⟩
abbrev cX11_worth : ByteArray := prog_1_method_35_code
def yX11_worth : MethodName := ⟨RX11, "worth", "(LTurnedPosts$AllWays;IIIZ)I"⟩
abbrev cX11_bestTurn : ByteArray := prog_1_method_36_code
def yX11_bestTurn : MethodName := ⟨RX11, "bestTurn", "(LTurnedPosts$AllWays;IIII)I"⟩
abbrev cX11_fit : ByteArray := prog_1_method_37_code
def yX11_fit : MethodName := ⟨RX11, "fit", "(II)Z"⟩
abbrev cX11_fits : ByteArray := prog_1_method_38_code
def yX11_fits : MethodName := ⟨RX11, "fits", "(III)I"⟩
abbrev cX11_odds : ByteArray := prog_1_method_39_code
def yX11_odds : MethodName := ⟨RX11, "odds", "(IIIIZ)I"⟩
abbrev cX11_least : ByteArray := prog_1_method_40_code
def yX11_least : MethodName := ⟨RX11, "least", "(IIZ)I"⟩
abbrev cX11_far : ByteArray := prog_1_method_41_code
def yX11_far : MethodName := ⟨RX11, "far", "(III)I"⟩
abbrev cX11_reach : ByteArray := prog_1_method_42_code
def yX11_reach : MethodName := ⟨RX11, "reach", "(III)I"⟩
abbrev cX11_classes : ByteArray := prog_1_method_43_code
def yX11_classes : MethodName := ⟨RX11, "classes", "(II)I"⟩
abbrev cX11_led : ByteArray := prog_1_method_44_code
def yX11_led : MethodName := ⟨RX11, "led", "(III)I"⟩
def RX12 : String := "TurnedPostsModel"
def TX12 : u_T := fun k => match k with
  | 0 => ("TurnedPostsModel", "all", "[I", true)
  | 1 => ("TurnedPostsModel", "has", "[Z", true)
  | 2 => ("TurnedPostsModel", "size", "I", false)
  | 3 => ("TurnedPostsModel", "next", "I", false)
  | 4 => ("TurnedPostsModel", "where", "I", false)
  | 5 => ("TurnedPostsModel", "token", "I", false)
  | 6 => ("TurnedPostsModel", "number", "I", false)
  | 7 => ("TurnedPostsModel", "word", "I", false)
  | 8 => ("TurnedPostsModel", "wrong", "Z", false)
  | 9 => ("TurnedPostsModel", "farCrossing", "I", false)
  | 10 => ("TurnedPostsModel", "read", "[I", true)
  | 11 => ("TurnedPostsModel", "z0", "I", false)
  | 12 => ("TurnedPostsModel", "crossings", "I", false)
  | 13 => ("TurnedPostsModel", "inns", "I", false)
  | 14 => ("TurnedPostsModel", "posts", "[I", true)
  | 15 => ("TurnedPostsModel", "shut", "[I", true)
  | 16 => ("TurnedPostsModel", "here", "[I", true)
  | 17 => ("TurnedPostsModel", "steps", "I", false)
  | 18 => ("TurnedPostsModel", "done", "I", false)
  | 19 => ("TurnedPostsModel", "at", "I", false)
  | 20 => ("TurnedPostsModel", "gone", "I", false)
  | 21 => ("TurnedPostsModel", "was", "[I", true)
  | 22 => ("TurnedPostsModel", "came", "[I", true)
  | 23 => ("TurnedPostsModel", "seenAt", "[I", true)
  | 24 => ("TurnedPostsModel", "rowWorth", "[I", true)
  | 25 => ("TurnedPostsModel", "farBy", "[I", true)
  | 26 => ("TurnedPostsModel", "used", "[I", true)
  | 27 => ("TurnedPostsModel", "everywhere", "I", false)
  | 28 => ("TurnedPostsModel", "again0", "I", false)
  | 29 => ("TurnedPostsModel", "d0", "I", false)
  | 30 => ("TurnedPostsModel", "never", "I", false)
  | 31 => ("TurnedPostsModel", "firstCame", "I", false)
  | 32 => ("TurnedPostsModel", "longRun", "I", false)
  | 33 => ("TurnedPostsModel", "moved", "I", false)
  | 34 => ("TurnedPostsModel", "crowd", "I", false)
  | 35 => ("TurnedPostsModel", "l0", "I", false)
  | 36 => ("TurnedPostsModel", "fitMany", "I", false)
  | 37 => ("TurnedPostsModel", "fitLeast", "I", false)
  | 38 => ("TurnedPostsModel", "fitMost", "I", false)
  | 39 => ("TurnedPostsModel", "fitPost", "[I", true)
  | 40 => ("TurnedPostsModel", "fitEnd", "[I", true)
  | 41 => ("TurnedPostsModel", "keptPosts", "[I", true)
  | _ => ("TurnedPostsModel", "x0", "I", false)
def tyX12 : Nat → FieldType := fun k => match k with
  | 0 => .array .int
  | 1 => .array .boolean
  | 2 => .int
  | 3 => .int
  | 4 => .int
  | 5 => .int
  | 6 => .int
  | 7 => .int
  | 8 => .boolean
  | 9 => .int
  | 10 => .array .int
  | 11 => .int
  | 12 => .int
  | 13 => .int
  | 14 => .array .int
  | 15 => .array .int
  | 16 => .array .int
  | 17 => .int
  | 18 => .int
  | 19 => .int
  | 20 => .int
  | 21 => .array .int
  | 22 => .array .int
  | 23 => .array .int
  | 24 => .array .int
  | 25 => .array .int
  | 26 => .array .int
  | 27 => .int
  | 28 => .int
  | 29 => .int
  | 30 => .int
  | 31 => .int
  | 32 => .int
  | 33 => .int
  | 34 => .int
  | 35 => .int
  | 36 => .int
  | 37 => .int
  | 38 => .int
  | 39 => .array .int
  | 40 => .array .int
  | 41 => .array .int
  | _ => .int
abbrev wsX120 : List Cond := u_ws RX12 TX12 43
theorem nmX12 : ∀ a, a < 43 → ∀ b, b < 43 → a ≠ b → (TX12 a).2.1 ≠ (TX12 b).2.1 := by decide +kernel
theorem tyX12_ok : ∀ k, k < 43 → parseFieldDescriptor (TX12 k).2.2.1 = some (tyX12 k) := by decide +kernel
abbrev cX12_init : ByteArray := prog_14_method_1_code
def yX12_init : MethodName := ⟨RX12, "<init>", "()V"⟩
abbrev cX12_isIn : ByteArray := prog_14_method_2_code
def yX12_isIn : MethodName := ⟨RX12, "isIn", "(III)Z"⟩
abbrev cX12_feed : ByteArray := prog_14_method_3_code
def yX12_feed : MethodName := ⟨RX12, "feed", "(IIIII)I"⟩
abbrev cX12_end : ByteArray := prog_14_method_4_code
def yX12_end : MethodName := ⟨RX12, "end", "(I)I"⟩
abbrev cX12_byteAt : ByteArray := prog_14_method_5_code
def yX12_byteAt : MethodName := ⟨RX12, "byteAt", "(I)I"⟩
abbrev cX12_isLetter : ByteArray := prog_14_method_6_code
def yX12_isLetter : MethodName := ⟨RX12, "isLetter", "(I)Z"⟩
abbrev cX12_isDigit : ByteArray := prog_14_method_7_code
def yX12_isDigit : MethodName := ⟨RX12, "isDigit", "(I)Z"⟩
abbrev cX12_four : ByteArray := prog_14_method_8_code
def yX12_four : MethodName := ⟨RX12, "four", "(IIII)J"⟩
abbrev cX12_eight : ByteArray := prog_14_method_9_code
def yX12_eight : MethodName := ⟨RX12, "eight", "(IIIIIIII)J"⟩
abbrev cX12_wordOf : ByteArray := prog_14_method_10_code
def yX12_wordOf : MethodName := ⟨RX12, "wordOf", "(J)I"⟩
abbrev cX12_advance : ByteArray := prog_14_method_11_code
def yX12_advance : MethodName := ⟨RX12, "advance", "()V"⟩
abbrev cX12_ends : ByteArray := prog_14_method_12_code
def yX12_ends : MethodName := ⟨RX12, "ends", "()V"⟩
abbrev cX12_also : ByteArray := prog_14_method_13_code
def yX12_also : MethodName := ⟨RX12, "also", "(II)V"⟩
abbrev cX12_numbered : ByteArray := prog_14_method_14_code
def yX12_numbered : MethodName := ⟨RX12, "numbered", "(II)I"⟩
abbrev cX12_wordIn : ByteArray := prog_14_method_15_code
def yX12_wordIn : MethodName := ⟨RX12, "wordIn", "(II)I"⟩
abbrev cX12_endsLine : ByteArray := prog_14_method_16_code
def yX12_endsLine : MethodName := ⟨RX12, "endsLine", "()V"⟩
abbrev cX12_crossingTold : ByteArray := prog_14_method_17_code
def yX12_crossingTold : MethodName := ⟨RX12, "crossingTold", "()I"⟩
abbrev cX12_crossTold : ByteArray := prog_14_method_18_code
def yX12_crossTold : MethodName := ⟨RX12, "crossTold", "(I)V"⟩
abbrev cX12_landLine : ByteArray := prog_14_method_19_code
def yX12_landLine : MethodName := ⟨RX12, "landLine", "()V"⟩
abbrev cX12_dayLine : ByteArray := prog_14_method_20_code
def yX12_dayLine : MethodName := ⟨RX12, "dayLine", "()V"⟩
abbrev cX12_logLine : ByteArray := prog_14_method_21_code
def yX12_logLine : MethodName := ⟨RX12, "logLine", "()V"⟩
abbrev cX12_placeOf : ByteArray := prog_14_method_22_code
def yX12_placeOf : MethodName := ⟨RX12, "placeOf", "(II)I"⟩
abbrev cX12_sizeOf : ByteArray := prog_14_method_23_code
def yX12_sizeOf : MethodName := ⟨RX12, "sizeOf", "(I)I"⟩
abbrev cX12_isOf : ByteArray := prog_14_method_24_code
def yX12_isOf : MethodName := ⟨RX12, "isOf", "(II)Z"⟩
abbrev cX12_postsAreThere : ByteArray := prog_14_method_25_code
def yX12_postsAreThere : MethodName := ⟨RX12, "postsAreThere", "()Z"⟩
abbrev cX12_text : ByteArray := prog_14_method_26_code
def yX12_text : MethodName := ⟨RX12, "text", "(II)I"⟩
abbrev cX12_fault : ByteArray := prog_14_method_27_code
def yX12_fault : MethodName := ⟨RX12, "fault", "(I)I"⟩
abbrev cX12_isLand : ByteArray := prog_14_method_28_code
def yX12_isLand : MethodName := ⟨RX12, "isLand", "(I)Z"⟩
abbrev cX12_isCrossing : ByteArray := prog_14_method_29_code
def yX12_isCrossing : MethodName := ⟨RX12, "isCrossing", "(I)Z"⟩
abbrev cX12_isInn : ByteArray := prog_14_method_30_code
def yX12_isInn : MethodName := ⟨RX12, "isInn", "(I)Z"⟩
abbrev cX12_roadsOf : ByteArray := prog_14_method_31_code
def yX12_roadsOf : MethodName := ⟨RX12, "roadsOf", "(I)I"⟩
abbrev cX12_postTold : ByteArray := prog_14_method_32_code
def yX12_postTold : MethodName := ⟨RX12, "postTold", "(I)I"⟩
abbrev cX12_leadsTo : ByteArray := prog_14_method_33_code
def yX12_leadsTo : MethodName := ⟨RX12, "leadsTo", "(II)I"⟩
abbrev cX12_isFree : ByteArray := prog_14_method_34_code
def yX12_isFree : MethodName := ⟨RX12, "isFree", "(I)Z"⟩
abbrev cX12_land : ByteArray := prog_14_method_35_code
def yX12_land : MethodName := ⟨RX12, "land", "(II)I"⟩
abbrev cX12_begins : ByteArray := prog_14_method_36_code
def yX12_begins : MethodName := ⟨RX12, "begins", "()V"⟩
abbrev cX12_turns : ByteArray := prog_14_method_37_code
def yX12_turns : MethodName := ⟨RX12, "turns", "(I)Z"⟩
abbrev cX12_stepsOn : ByteArray := prog_14_method_38_code
def yX12_stepsOn : MethodName := ⟨RX12, "stepsOn", "()Z"⟩
abbrev cX12_puts : ByteArray := prog_14_method_39_code
def yX12_puts : MethodName := ⟨RX12, "puts", "(I)V"⟩
abbrev cX12_walks : ByteArray := prog_14_method_40_code
def yX12_walks : MethodName := ⟨RX12, "walks", "(I)Z"⟩
abbrev cX12_walk : ByteArray := prog_14_method_41_code
def yX12_walk : MethodName := ⟨RX12, "walk", "(III)I"⟩
abbrev cX12_endOf : ByteArray := prog_14_method_42_code
def yX12_endOf : MethodName := ⟨RX12, "endOf", "(II)I"⟩
abbrev cX12_come : ByteArray := prog_14_method_43_code
def yX12_come : MethodName := ⟨RX12, "come", "(III)I"⟩
abbrev cX12_share : ByteArray := prog_14_method_44_code
def yX12_share : MethodName := ⟨RX12, "share", "(IIII)I"⟩
abbrev cX12_postsNow : ByteArray := prog_14_method_45_code
def yX12_postsNow : MethodName := ⟨RX12, "postsNow", "()I"⟩
abbrev cX12_period : ByteArray := prog_14_method_46_code
def yX12_period : MethodName := ⟨RX12, "period", "(IIZ)I"⟩
abbrev cX12_waysMany : ByteArray := prog_14_method_47_code
def yX12_waysMany : MethodName := ⟨RX12, "waysMany", "()I"⟩
abbrev cX12_setsWay : ByteArray := prog_14_method_48_code
def yX12_setsWay : MethodName := ⟨RX12, "setsWay", "(I)V"⟩
abbrev cX12_numberOf : ByteArray := prog_14_method_49_code
def yX12_numberOf : MethodName := ⟨RX12, "numberOf", "(I)I"⟩
abbrev cX12_unlikeTold : ByteArray := prog_14_method_50_code
def yX12_unlikeTold : MethodName := ⟨RX12, "unlikeTold", "()I"⟩
abbrev cX12_bitsOf : ByteArray := prog_14_method_51_code
def yX12_bitsOf : MethodName := ⟨RX12, "bitsOf", "(I)I"⟩
abbrev cX12_setBy : ByteArray := prog_14_method_52_code
def yX12_setBy : MethodName := ⟨RX12, "setBy", "(II)I"⟩
abbrev cX12_set : ByteArray := prog_14_method_53_code
def yX12_set : MethodName := ⟨RX12, "set", "(IIII)I"⟩
abbrev cX12_common : ByteArray := prog_14_method_54_code
def yX12_common : MethodName := ⟨RX12, "common", "(II)I"⟩
abbrev cX12_parted : ByteArray := prog_14_method_55_code
def yX12_parted : MethodName := ⟨RX12, "parted", "(IIZ)I"⟩
abbrev cX12_lot : ByteArray := prog_14_method_56_code
def yX12_lot : MethodName := ⟨RX12, "lot", "(IIIZ)I"⟩
abbrev cX12_mean : ByteArray := prog_14_method_57_code
def yX12_mean : MethodName := ⟨RX12, "mean", "(IIZ)I"⟩
abbrev cX12_ledTo : ByteArray := prog_14_method_58_code
def yX12_ledTo : MethodName := ⟨RX12, "ledTo", "(II)I"⟩
abbrev cX12_trees : ByteArray := prog_14_method_59_code
def yX12_trees : MethodName := ⟨RX12, "trees", "(I)I"⟩
abbrev cX12_gameBy : ByteArray := prog_14_method_60_code
def yX12_gameBy : MethodName := ⟨RX12, "gameBy", "(III)I"⟩
abbrev cX12_game : ByteArray := prog_14_method_61_code
def yX12_game : MethodName := ⟨RX12, "game", "(IIIZ)I"⟩
abbrev cX12_roads5 : ByteArray := prog_14_method_62_code
def yX12_roads5 : MethodName := ⟨RX12, "roads5", "(I)I"⟩
abbrev cX12_laysFar : ByteArray := prog_14_method_63_code
def yX12_laysFar : MethodName := ⟨RX12, "laysFar", "()V"⟩
abbrev cX12_reachOf : ByteArray := prog_14_method_64_code
def yX12_reachOf : MethodName := ⟨RX12, "reachOf", "(I)I"⟩
abbrev cX12_far : ByteArray := prog_14_method_65_code
def yX12_far : MethodName := ⟨RX12, "far", "(III)I"⟩
abbrev cX12_reach : ByteArray := prog_14_method_66_code
def yX12_reach : MethodName := ⟨RX12, "reach", "(III)I"⟩
abbrev cX12_classOf : ByteArray := prog_14_method_67_code
def yX12_classOf : MethodName := ⟨RX12, "classOf", "(I)I"⟩
abbrev cX12_classesOf : ByteArray := prog_14_method_68_code
def yX12_classesOf : MethodName := ⟨RX12, "classesOf", "(Z)I"⟩
abbrev cX12_leadHere : ByteArray := prog_14_method_69_code
def yX12_leadHere : MethodName := ⟨RX12, "leadHere", "(IZ)I"⟩
abbrev cX12_crossingsOf : ByteArray := prog_14_method_70_code
def yX12_crossingsOf : MethodName := ⟨RX12, "crossingsOf", "(I)I"⟩
abbrev cX12_loops : ByteArray := prog_14_method_71_code
def yX12_loops : MethodName := ⟨RX12, "loops", "(Z)I"⟩
abbrev cX12_busyOf : ByteArray := prog_14_method_72_code
def yX12_busyOf : MethodName := ⟨RX12, "busyOf", "()I"⟩
abbrev cX12_classes : ByteArray := prog_14_method_73_code
def yX12_classes : MethodName := ⟨RX12, "classes", "(II)I"⟩
abbrev cX12_led : ByteArray := prog_14_method_74_code
def yX12_led : MethodName := ⟨RX12, "led", "(III)I"⟩
abbrev cX12_walksFar : ByteArray := prog_14_method_75_code
def yX12_walksFar : MethodName := ⟨RX12, "walksFar", "(I)V"⟩
abbrev cX12_unusedOf : ByteArray := prog_14_method_76_code
def yX12_unusedOf : MethodName := ⟨RX12, "unusedOf", "(I)I"⟩
abbrev cX12_roundOf : ByteArray := prog_14_method_77_code
def yX12_roundOf : MethodName := ⟨RX12, "roundOf", "()I"⟩
abbrev cX12_cover : ByteArray := prog_14_method_78_code
def yX12_cover : MethodName := ⟨RX12, "cover", "(III)I"⟩
abbrev cX12_longest : ByteArray := prog_14_method_79_code
def yX12_longest : MethodName := ⟨RX12, "longest", "(IIZZ)I"⟩
abbrev cX12_back : ByteArray := prog_14_method_80_code
def yX12_back : MethodName := ⟨RX12, "back", "(II)I"⟩
abbrev cX12_keys : ByteArray := prog_14_method_81_code
def yX12_keys : MethodName := ⟨RX12, "keys", "(IIZ)I"⟩
abbrev cX12_isDay : ByteArray := prog_14_method_82_code
def yX12_isDay : MethodName := ⟨RX12, "isDay", "(I)Z"⟩
abbrev cX12_deed : ByteArray := prog_14_method_83_code
def yX12_deed : MethodName := ⟨RX12, "deed", "(III)I"⟩
abbrev cX12_looks : ByteArray := prog_14_method_84_code
def yX12_looks : MethodName := ⟨RX12, "looks", "()V"⟩
abbrev cX12_goesFrom : ByteArray := prog_14_method_85_code
def yX12_goesFrom : MethodName := ⟨RX12, "goesFrom", "(I)V"⟩
abbrev cX12_goes : ByteArray := prog_14_method_86_code
def yX12_goes : MethodName := ⟨RX12, "goes", "(I)Z"⟩
abbrev cX12_runs0 : ByteArray := prog_14_method_87_code
def yX12_runs0 : MethodName := ⟨RX12, "runs0", "(I)Z"⟩
abbrev cX12_adds : ByteArray := prog_14_method_88_code
def yX12_adds : MethodName := ⟨RX12, "adds", "(I)Z"⟩
abbrev cX12_shuts : ByteArray := prog_14_method_89_code
def yX12_shuts : MethodName := ⟨RX12, "shuts", "(IIZ)Z"⟩
abbrev cX12_does : ByteArray := prog_14_method_90_code
def yX12_does : MethodName := ⟨RX12, "does", "(III)Z"⟩
abbrev cX12_beginsDay : ByteArray := prog_14_method_91_code
def yX12_beginsDay : MethodName := ⟨RX12, "beginsDay", "()V"⟩
abbrev cX12_runs : ByteArray := prog_14_method_92_code
def yX12_runs : MethodName := ⟨RX12, "runs", "(I)V"⟩
abbrev cX12_stop : ByteArray := prog_14_method_93_code
def yX12_stop : MethodName := ⟨RX12, "stop", "(II)I"⟩
abbrev cX12_walkersOf : ByteArray := prog_14_method_94_code
def yX12_walkersOf : MethodName := ⟨RX12, "walkersOf", "(Z)I"⟩
abbrev cX12_nowOf : ByteArray := prog_14_method_95_code
def yX12_nowOf : MethodName := ⟨RX12, "nowOf", "(I)I"⟩
abbrev cX12_state : ByteArray := prog_14_method_96_code
def yX12_state : MethodName := ⟨RX12, "state", "(IIII)I"⟩
abbrev cX12_elsewhere : ByteArray := prog_14_method_97_code
def yX12_elsewhere : MethodName := ⟨RX12, "elsewhere", "()I"⟩
abbrev cX12_after : ByteArray := prog_14_method_98_code
def yX12_after : MethodName := ⟨RX12, "after", "(III)I"⟩
abbrev cX12_isLog : ByteArray := prog_14_method_99_code
def yX12_isLog : MethodName := ⟨RX12, "isLog", "(I)Z"⟩
abbrev cX12_fact : ByteArray := prog_14_method_100_code
def yX12_fact : MethodName := ⟨RX12, "fact", "(III)I"⟩
abbrev cX12_isSo : ByteArray := prog_14_method_101_code
def yX12_isSo : MethodName := ⟨RX12, "isSo", "()Z"⟩
abbrev cX12_laysNoFits : ByteArray := prog_14_method_102_code
def yX12_laysNoFits : MethodName := ⟨RX12, "laysNoFits", "()V"⟩
abbrev cX12_laysEnds : ByteArray := prog_14_method_103_code
def yX12_laysEnds : MethodName := ⟨RX12, "laysEnds", "()V"⟩
abbrev cX12_laysFits : ByteArray := prog_14_method_104_code
def yX12_laysFits : MethodName := ⟨RX12, "laysFits", "(IZ)I"⟩
abbrev cX12_askOf : ByteArray := prog_14_method_105_code
def yX12_askOf : MethodName := ⟨RX12, "askOf", "()I"⟩
abbrev cX12_sureOf : ByteArray := prog_14_method_106_code
def yX12_sureOf : MethodName := ⟨RX12, "sureOf", "(I)I"⟩
abbrev cX12_fits : ByteArray := prog_14_method_107_code
def yX12_fits : MethodName := ⟨RX12, "fits", "(III)I"⟩
abbrev cX12_odds : ByteArray := prog_14_method_108_code
def yX12_odds : MethodName := ⟨RX12, "odds", "(IIIIZ)I"⟩
abbrev cX12_least : ByteArray := prog_14_method_109_code
def yX12_least : MethodName := ⟨RX12, "least", "(IIZ)I"⟩
abbrev cX12_below : ByteArray := prog_14_method_110_code
def yX12_below : MethodName := ⟨RX12, "below", "(I)I"⟩
abbrev cX12_draws : ByteArray := prog_14_method_111_code
def yX12_draws : MethodName := ⟨RX12, "draws", "()V"⟩
abbrev cX12_drawn : ByteArray := prog_14_method_112_code
def yX12_drawn : MethodName := ⟨RX12, "drawn", "(IIII)I"⟩
abbrev cX12_count : ByteArray := prog_14_method_113_code
def yX12_count : MethodName := ⟨RX12, "count", "(I)I"⟩
abbrev cX12_image : ByteArray := prog_14_method_114_code
def yX12_image : MethodName := ⟨RX12, "image", "(I)Z"⟩
abbrev cX12_again : ByteArray := prog_14_method_115_code
def yX12_again : MethodName := ⟨RX12, "again", "(I)Z"⟩
def RJ6 : String := "java/lang/Integer"
abbrev cJ6_bitCount_0f7a4 : ByteArray := prog_15_method_49_code
def yJ6_bitCount_0f7a4 : MethodName := ⟨RJ6, "bitCount", "(I)I"⟩
def RJ9 : String := "java/lang/Math"
abbrev cJ9_max_7cf53 : ByteArray := prog_16_method_65_code
def yJ9_max_7cf53 : MethodName := ⟨RJ9, "max", "(II)I"⟩
abbrev cJ9_min_7cf53 : ByteArray := prog_16_method_69_code
def yJ9_min_7cf53 : MethodName := ⟨RJ9, "min", "(II)I"⟩
def RJ0 : String := "java/lang/String"
abbrev cJ0_length_8abf5 : ByteArray := prog_17_method_54_code
def yJ0_length_8abf5 : MethodName := ⟨RJ0, "length", "()I"⟩
abbrev cJ0_charAt_5068e : ByteArray := prog_17_method_56_code
def yJ0_charAt_5068e : MethodName := ⟨RJ0, "charAt", "(I)C"⟩
abbrev cJ0_coder_7d493 : ByteArray := prog_17_method_152_code
def yJ0_coder_7d493 : MethodName := ⟨RJ0, "coder", "()B"⟩
abbrev cJ0_isLatin1_aae02 : ByteArray := prog_17_method_154_code
def yJ0_isLatin1_aae02 : MethodName := ⟨RJ0, "isLatin1", "()Z"⟩
abbrev cJ0_checkIndex_df160 : ByteArray := prog_17_method_155_code
def yJ0_checkIndex_df160 : MethodName := ⟨RJ0, "checkIndex", "(II)V"⟩
def RJ1 : String := "java/lang/StringLatin1"
abbrev cJ1_charAt_3b067 : ByteArray := prog_18_method_2_code
def yJ1_charAt_3b067 : MethodName := ⟨RJ1, "charAt", "([BI)C"⟩
def RJ2 : String := "java/lang/StringUTF16"
abbrev cJ2_getChar_3b067 : ByteArray := prog_19_method_5_code
def yJ2_getChar_3b067 : MethodName := ⟨RJ2, "getChar", "([BI)C"⟩
abbrev cJ2_length_9d52b : ByteArray := prog_19_method_6_code
def yJ2_length_9d52b : MethodName := ⟨RJ2, "length", "([B)I"⟩
abbrev cJ2_charAt_3b067 : ByteArray := prog_19_method_83_code
def yJ2_charAt_3b067 : MethodName := ⟨RJ2, "charAt", "([BI)C"⟩
abbrev cJ2_checkIndex_2214a : ByteArray := prog_19_method_91_code
def yJ2_checkIndex_2214a : MethodName := ⟨RJ2, "checkIndex", "(I[B)V"⟩
def RJ3 : String := "jdk/internal/util/Preconditions"
abbrev cJ3_checkIndex_8e157 : ByteArray := prog_20_method_11_code
def yJ3_checkIndex_8e157 : MethodName := ⟨RJ3, "checkIndex", "(IILjava/util/function/BiFunction;)I"⟩
def RL : String := "TurnedPostsLaw"
abbrev cL_law : ByteArray := code
def yL_law : MethodName := ⟨RL, "law", "([I)Z"⟩
abbrev vwCl : List vw_C := [(RX0, TX0, 10), (RX1, TX1, 11), (RX2, TX2, 4), (RX3, TX3, 8), (RX4, TX4, 6), (RX5, TX5, 3), (RX6, TX6, 6), (RX7, TX7, 13), (RX9, TX9, 8), (RX10, TX10, 8), (RX11, TX11, 11), (RX12, TX12, 43)]
end
section
-- ===== the words that every method may take with it =====
def zT : List Cond := lw_tbl.filter goodWord
theorem zmem {w : Cond} (i : Nat) (h : lw_tbl[i]? = some w) (hg : goodWord w = true) : w ∈ zT := List.mem_filter.mpr ⟨List.mem_of_getElem? h, hg⟩
-- ===== worlds as lists of blocks: a block is one cell, or a part of the world that stays closed =====
abbrev zTy : Type := va_G × (Nat → ClassId)
abbrev zTys (T : zTy) : List (ClassId × FieldType) := [(T.2 0, .int), (T.2 1, .byte), (T.2 2, .boolean), (T.2 3, .object "TurnedPosts$Land"), (T.2 4, .object "TurnedPosts$Day"), (T.2 5, .object "TurnedPosts$Log"), (T.2 6, .object "TurnedPosts$Told")]
def zNst : List (String × Nat × MethodName × String) := [(RX11, 9, yX9_init, RX11), (RX11, 26, yX7_init, RX11), (RX11, 33, yX6_init, RX11), (RX11, 40, yX1_init, RX11), (RX11, 47, yX10_init, RX11), (RX11, 54, yX0_init, RX11), (RX11, 64, yX3_init, RX11), (RX0, 13, yX4_init, RX11), (RX1, 11, yX6_init, RX11), (RX1, 24, yX4_init, RX11), (RX6, 11, yX4_init, RX11), (RX7, 11, yX4_init, RX11), (RX7, 20, yX2_init, RX11), (RX7, 27, yX5_init, RX11), (RX9, 25, yX4_init, RX11), (RX9, 32, yX2_init, RX11), (RX9, 39, yX5_init, RX11), (RX10, 11, yX6_init, RX11)]
def zAOs : List String := ["TurnedPosts$Land", "TurnedPosts$Day", "TurnedPosts$Log", "TurnedPosts$Told"]
def zX (U : State) : Prop := (∀ q ∈ zNst, va_Nw (.methodLinkNest q.1 q.2.1 q.2.2.1 q.2.2.2) U) ∧ ∀ C ∈ zAOs, va_AO C U
theorem zX.warm {s U : State} (hW : s.WarmedH U.vm) (h : zX s) : zX U := ⟨fun q hq => va_Nw.warmM hW (h.1 q hq), fun C hC => va_AO.moved hW.alike (h.2 C hC)⟩
theorem zX.same {s U : State} (e : s.vm = U.vm) (h : zX s) : zX U := ⟨fun q hq => va_Nw.same rfl e (h.1 q hq), fun C hC => va_AO.moved (by rw [e]; exact Vm.Alike.refl _) (h.2 C hC)⟩
def zS (T : zTy) (A : Nat → Prop) (H0 : Heap) (s : State) (bs : List va_W) (H : Heap) (locs : List Loc) : Prop :=
  va_K T.1 vwCl (zTys T) s ∧ va_P T.1 vwCl bs.flatten H ∧ va_D A bs.flatten ∧ va_S A H0 H locs ∧ (∀ q, H0.size ≤ q → A q) ∧ zX s
theorem zfl : ∀ {bs : List va_W} {i : Nat} {c : Nat × va_E}, bs[i]? = some [c] → ∃ k, bs.flatten[k]? = some c ∧ ∀ c', (bs.set i [c']).flatten = bs.flatten.set k c'
  | [], i, c, h => by simp at h
  | b :: bs, 0, c, h => by
    simp at h
    subst h
    exact ⟨0, by simp, fun c' => by simp⟩
  | b :: bs, i + 1, c, h => by
    rw [List.getElem?_cons_succ] at h
    obtain ⟨k, h1, h2⟩ := zfl h
    refine ⟨b.length + k, ?_, fun c' => ?_⟩
    · rw [List.flatten_cons, List.getElem?_append_right (by omega)]
      simpa using h1
    · rw [List.set_cons_succ, List.flatten_cons, List.flatten_cons, h2, List.set_append, if_neg (by omega)]
      simp
theorem zP_mem {D : va_G} {cl : List vw_C} {ws : va_W} {H : Heap} : va_P D cl ws H ↔ ∀ q ∈ ws, va_at D cl q H :=
  ⟨fun h q hq => by
    obtain ⟨k, hk⟩ := List.getElem?_of_mem hq
    exact h k q hk, fun h k q hk => h q (List.mem_of_getElem? hk)⟩
theorem zD_iff {A : Nat → Prop} {ws : va_W} : va_D A ws ↔ ws.Pairwise (fun p q => p.1 ≠ q.1) ∧ ∀ q ∈ ws, A q.1 := by
  constructor
  · intro h
    refine ⟨List.pairwise_iff_getElem.mpr (fun i j hi hj hij e => ?_), fun q hq => ?_⟩
    · exact absurd (h.1 i j _ _ (List.getElem?_eq_getElem hi) (List.getElem?_eq_getElem hj) e) (by omega)
    · obtain ⟨k, hk⟩ := List.getElem?_of_mem hq
      exact h.2 k q hk
  · intro h
    refine ⟨fun i j p q hi hj e => ?_, fun k q hk => h.2 q (List.mem_of_getElem? hk)⟩
    obtain ⟨hi1, hi2⟩ := List.getElem?_eq_some_iff.mp hi
    obtain ⟨hj1, hj2⟩ := List.getElem?_eq_some_iff.mp hj
    have hp := List.pairwise_iff_getElem.mp h.1
    rcases Nat.lt_trichotomy i j with g | g | g
    · exact absurd (by rw [hi2, hj2]; exact e) (hp i j hi1 hj1 g)
    · exact g
    · exact absurd (by rw [hi2, hj2]; exact e.symm) (hp j i hj1 hi1 g)
/-- blocks of a world, each at most once -/
theorem zP_sub {D : va_G} {cl : List vw_C} {bs bs' : List va_W} {H : Heap} (h : va_P D cl bs.flatten H) (is : List Nat) (hs : is.map (fun i => bs[i]?) = bs'.map some) : va_P D cl bs'.flatten H := by
  rw [zP_mem] at h ⊢
  intro q hq
  obtain ⟨b, hb, hqb⟩ := List.mem_flatten.mp hq
  have h1 : some b ∈ bs'.map some := List.mem_map.mpr ⟨b, hb, rfl⟩
  rw [← hs] at h1
  obtain ⟨i, -, hi⟩ := List.mem_map.mp h1
  exact h q (List.mem_flatten.mpr ⟨b, List.mem_of_getElem? hi, hqb⟩)
theorem zat {bs bs' : List va_W} {is : List Nat} (hs : is.map (fun i => bs[i]?) = bs'.map some) (k : Nat) (b : va_W) (hb : bs'[k]? = some b) : ∃ i, is[k]? = some i ∧ bs[i]? = some b := by
  have h1 : (is.map (fun i => bs[i]?))[k]? = some (some b) := by rw [hs, List.getElem?_map, hb]; rfl
  rw [List.getElem?_map] at h1
  cases hi : is[k]? with
  | none => rw [hi] at h1; cases h1
  | some i => rw [hi] at h1; exact ⟨i, rfl, Option.some.inj h1⟩
theorem zD_ne {A : Nat → Prop} {bs : List va_W} (h : va_D A bs.flatten) {i j : Nat} {a b : va_W} (hi : bs[i]? = some a) (hj : bs[j]? = some b) (hne : i ≠ j) : ∀ x ∈ a, ∀ y ∈ b, x.1 ≠ y.1 := by
  have h2 := (List.pairwise_flatten.mp (zD_iff.mp h).1).2
  obtain ⟨hi1, hi2⟩ := List.getElem?_eq_some_iff.mp hi
  obtain ⟨hj1, hj2⟩ := List.getElem?_eq_some_iff.mp hj
  have hp := List.pairwise_iff_getElem.mp h2
  intro x hx y hy
  rcases Nat.lt_or_gt_of_ne hne with g | g
  · exact hp i j hi1 hj1 g x (by rw [hi2]; exact hx) y (by rw [hj2]; exact hy)
  · exact Ne.symm (hp j i hj1 hi1 g y (by rw [hj2]; exact hy) x (by rw [hi2]; exact hx))
theorem zD_sub {A : Nat → Prop} {bs bs' : List va_W} (h : va_D A bs.flatten) (is : List Nat) (hn : va_nd is = true) (hs : is.map (fun i => bs[i]?) = bs'.map some) : va_D A bs'.flatten := by
  have h0 := zD_iff.mp h
  refine zD_iff.mpr ⟨List.pairwise_flatten.mpr ⟨fun b hb => ?_, List.pairwise_iff_getElem.mpr (fun i j hi hj hij x hx y hy => ?_)⟩, fun q hq => ?_⟩
  · obtain ⟨k, hk⟩ := List.getElem?_of_mem hb
    obtain ⟨i, -, hi⟩ := zat hs k b hk
    exact (List.pairwise_flatten.mp h0.1).1 b (List.mem_of_getElem? hi)
  · obtain ⟨a, a1, a2⟩ := zat hs i _ (List.getElem?_eq_getElem hi)
    obtain ⟨b, b1, b2⟩ := zat hs j _ (List.getElem?_eq_getElem hj)
    refine zD_ne h a2 b2 (fun e => ?_) x hx y hy
    subst e
    exact absurd (va_nd_inj is hn i j a a1 b1) (by omega)
  · obtain ⟨b, hb, hqb⟩ := List.mem_flatten.mp hq
    obtain ⟨k, hk⟩ := List.getElem?_of_mem hb
    obtain ⟨i, -, hi⟩ := zat hs k b hk
    exact h0.2 q (List.mem_flatten.mpr ⟨b, List.mem_of_getElem? hi, hqb⟩)
theorem zS.sub {T : zTy} {A : Nat → Prop} {H0 : Heap} {s : State} {bs bs' : List va_W} {H : Heap} {locs : List Loc} (h : zS T A H0 s bs H locs) (is : List Nat) (hs : is.map (fun i => bs[i]?) = bs'.map some) (hn : va_nd is = true := by decide) : zS T A H0 s bs' H locs :=
  ⟨h.1, zP_sub h.2.1 is hs, zD_sub h.2.2.1 is hn hs, h.2.2.2⟩
/-- the same cells, cut into other blocks -/
theorem zS.re {T : zTy} {A : Nat → Prop} {H0 : Heap} {s : State} {bs bs' : List va_W} {H : Heap} {locs : List Loc} (h : zS T A H0 s bs H locs) (e : bs.flatten = bs'.flatten) : zS T A H0 s bs' H locs :=
  ⟨h.1, by rw [← e]; exact h.2.1, by rw [← e]; exact h.2.2.1, h.2.2.2⟩
-- ===== a method's contract =====
def zW (y : MethodName) (b : ByteArray) (n : Nat) (ret : Option FieldType) : List Cond := .code y b n ret :: zT
def zPre (T : zTy) (av : List Value) (bs : List va_W) (sz : Nat) : Array Value → State → Prop := va_Pc av (fun U => U.heap.size = sz ∧ va_P T.1 vwCl bs.flatten U.heap ∧ va_K T.1 vwCl (zTys T) U ∧ va_D (fun _ => True) bs.flatten ∧ zX U)
def zB (T : zTy) (A : Nat → Prop) (bs : List va_W) (t : State) : Prop := va_P T.1 vwCl bs.flatten t.heap ∧ va_K T.1 vwCl (zTys T) t ∧ va_D A bs.flatten
abbrev zR (d mc ms : Nat) : Room := { frames := d, cells := mc, slots := ms, locals := 40 * d }
def zMi (l : Launch) (T : zTy) (y : MethodName) (b : ByteArray) (n : Nat) (ret : Option FieldType) (d mc ms : Nat) (av : List Value) (bs : List va_W) (post : Int32 → List va_W → Prop) : Prop :=
  ∀ sz : Nat, Met l y (zW y b n ret) (zR d mc ms) (zPre T av bs sz) (va_Qi post (zB T (va_A bs.flatten sz)) (va_A bs.flatten sz)) mc ms (va_A bs.flatten sz)
def zMv (l : Launch) (T : zTy) (y : MethodName) (b : ByteArray) (n : Nat) (d mc ms : Nat) (av : List Value) (bs : List va_W) (post : List va_W → Prop) : Prop :=
  ∀ sz : Nat, Met l y (zW y b n none) (zR d mc ms) (zPre T av bs sz) (va_Qv post (zB T (va_A bs.flatten sz)) (va_A bs.flatten sz)) mc ms (va_A bs.flatten sz)
def zMq (l : Launch) (T : zTy) (y : MethodName) (b : ByteArray) (n : Nat) (ret : Option FieldType) (d mc ms : Nat) (av : List Value) (bs : List va_W) (post : Option Nat → List va_W → Prop) : Prop :=
  ∀ sz : Nat, Met l y (zW y b n ret) (zR d mc ms) (zPre T av bs sz) (va_Qq post (zB T (va_A bs.flatten sz)) (va_A bs.flatten sz)) mc ms (va_A bs.flatten sz)
/-- a method's body from its entry -/
abbrev zBody (l : Launch) (T : zTy) (y : MethodName) (own : String) (b : ByteArray) (n : Nat) (ret : Option FieldType) (d mc ms : Nat) (av : List Value) (bs : List va_W) (Qc : (Nat → Prop) → Array Value → State → Outcome → State → Prop) : Prop :=
  ∀ (p : Program) (e : Env) (s : State) (m : MethodId) (args : Array Value) (below : List Frame) (meth : Method) (c : Code) (A : Nat → Prop) (ls : Array Slot), CallFix p m c b n s args zT own → meth.sig.returnType = ret → meth.locks = false → meth.name = y.name →
    A = va_A bs.flatten s.heap.size → zS T A s.heap s bs s.heap [] → lv_has ls n (lv_args 0 av) → W p l e (zR d mc ms) s m args below meth c s.heap [] 0 0 (MQ below (Qc A) args s mc ms A) (F0 m 0 ls [])
theorem z_body {l : Launch} {T : zTy} {y : MethodName} {own : String} {b : ByteArray} {n : Nat} {ret : Option FieldType} {d mc ms : Nat} {av : List Value} {bs : List va_W} {Qc : (Nat → Prop) → Array Value → State → Outcome → State → Prop} (hy : plainName y.cls = true) (ho : y.cls = own) (hlen : (lg_sl av).length ≤ n)
    (k : zBody l T y own b n ret d mc ms av bs Qc) : ∀ sz : Nat, Met l y (zW y b n ret) (zR d mc ms) (zPre T av bs sz) (Qc (va_A bs.flatten sz)) mc ms (va_A bs.flatten sz) := by
  intro sz
  refine Met.ofW (cc := b) (maxL := n) (ret := ret) hy rfl ?_
  intro p e s m args below meth c s₁ B hml hv
  obtain ⟨rfl, hsz, hP, hK, hD0, hX⟩ := hv
  subst hsz
  have hl := lv_entry av (n := n) hlen
  rw [lg_entry_eq]
  refine k p e s m _ below meth c _ _ ⟨B.exec, B.bytes, hml, ?_, fun w hw => atoms_spec (ws := zW y b n ret) B.pre w (List.mem_cons_of_mem _ hw)⟩ B.returns B.notSynchronized (name_of_methodNamed B.named B.method).1 rfl ?_ hl
  · rw [← ho]
    exact findClass_of_methodNamed B.named
  · exact ⟨hK, hP, hD0.self, va_S.rf, fun q h => Or.inr h, hX⟩
-- ===== the rows, over blocks =====
section ZR
variable {p : Program} {l : Launch} {e : Env} {R : Room} {s : State} {m : MethodId} {args : Array Value} {below : List Frame} {meth : Method} {c : Code} {H : Heap} {locs : List Loc} {cells slots : Nat} {Q : State → Prop}
variable {cc : ByteArray} {nL pc : Nat} {ls : Array Slot} {rest : List Value} {T : zTy} {A : Nat → Prop} {a : Nat} {bs : List va_W} {H0 : Heap} {own : String}
/-- what is known of a class: its number, name, fields -/
def zCl (ci : Nat) (Cn : String) (Tt : u_T) (N : Nat) (ty : Nat → FieldType) : Prop := vwCl[ci]? = some (Cn, Tt, N) ∧ (∀ w ∈ u_ws Cn Tt N, w ∈ zT) ∧ (∀ k, k < N → parseFieldDescriptor (Tt k).2.2.1 = some (ty k)) ∧ (∀ a, a < N → ∀ b, b < N → a ≠ b → (Tt a).2.1 ≠ (Tt b).2.1)
theorem z_get (C : CallFix p m c cc nL s args zT own) (G : zS T A H0 s bs H locs) {Cn : String} {Tt : u_T} {ty : Nat → FieldType} {N ci index : Nat} (hz : zCl ci Cn Tt N ty) (i : Nat) {fs : List Value} (he : bs[i]? = some [(a, .inr (ci, fs))]) (k : Nat) (hk : k < N) (hlink : Cond.fieldLink own index (Tt k).1 (Tt k).2.1 (Tt k).2.2.1 ∈ zT) {v : Value} (hv : fs[k]? = some v) (hdg : decode cc pc = .ok (.getfield index, 3))
    (kk : W p l e R s m args below meth c H locs cells slots Q (F0 m (pc + 3) ls (v :: rest))) : W p l e R s m args below meth c H locs cells slots Q (F0 m pc ls (.ref a :: rest)) := by
  obtain ⟨j, hj, -⟩ := zfl he
  exact va_get (D := T.1) (ci := ci) C.1 C.2.1 C.2.2.2.2 hz.2.1 C.2.2.2.1 G.1 G.2.1 j hj hz.1 k hk (C.2.2.2.2 _ hlink) (fun _ h => h) hv hdg kk
theorem z_put (C : CallFix p m c cc nL s args zT own) (G : zS T A H0 s bs H locs) {Cn : String} {Tt : u_T} {ty : Nat → FieldType} {N ci index : Nat} (hz : zCl ci Cn Tt N ty) (i : Nat) {fs : List Value} (he : bs[i]? = some [(a, .inr (ci, fs))]) (k : Nat) (hk : k < N) (hlink : Cond.fieldLink own index (Tt k).1 (Tt k).2.1 (Tt k).2.2.1 ∈ zT) (hfin : (Tt k).2.2.2 = false) {v : Value} (hn : narrow (ty k) v = v) (hfit : fits (ty k) v = true) (hl : k < fs.length) (hdg : decode cc pc = .ok (.putfield index, 3))
    (kk : ∀ (H1 : Heap) (locs1 : List Loc), zS T A H0 s (bs.set i [(a, .inr (ci, fs.set k v))]) H1 locs1 → W p l e R s m args below meth c H1 locs1 cells slots Q (F0 m (pc + 3) ls rest)) : W p l e R s m args below meth c H locs cells slots Q (F0 m pc ls (v :: .ref a :: rest)) := by
  obtain ⟨j, hj, hset⟩ := zfl he
  refine va_put (D := T.1) (ci := ci) C.1 C.2.1 C.2.2.2.2 hz.2.1 ty hz.2.2.1 hz.2.2.2 C.2.2.2.1 G.1 G.2.1 G.2.2.1 G.2.2.2.1 j hj hz.1 k hk (C.2.2.2.2 _ hlink) (fun _ h => h) hfin (hz.2.2.1 k hk) hn hfit hl hdg (fun H1 locs1 hP hD hS => kk H1 locs1 ⟨G.1, ?_, ?_, hS, G.2.2.2.2⟩)
  · rw [hset]; exact hP
  · rw [hset]; exact hD
theorem z_putF (C : CallFix p m c cc nL s args zT own) (G : zS T A H0 s bs H locs) (hin : meth.name = "<init>") {Cn : String} {Tt : u_T} {ty : Nat → FieldType} {N ci index : Nat} (hz : zCl ci Cn Tt N ty) (i : Nat) {fs : List Value} (he : bs[i]? = some [(a, .inr (ci, fs))]) (k : Nat) (hk : k < N) (hlink : Cond.fieldLink own index (Tt k).1 (Tt k).2.1 (Tt k).2.2.1 ∈ zT) (hfin : (Tt k).2.2.2 = true) (hdecl : (Tt k).1 = own) {v : Value} (hn : narrow (ty k) v = v) (hfit : fits (ty k) v = true) (hl : k < fs.length) (hdg : decode cc pc = .ok (.putfield index, 3))
    (kk : ∀ (H1 : Heap) (locs1 : List Loc), zS T A H0 s (bs.set i [(a, .inr (ci, fs.set k v))]) H1 locs1 → W p l e R s m args below meth c H1 locs1 cells slots Q (F0 m (pc + 3) ls rest)) : W p l e R s m args below meth c H locs cells slots Q (F0 m pc ls (v :: .ref a :: rest)) := by
  obtain ⟨j, hj, hset⟩ := zfl he
  refine va_putF (D := T.1) (ci := ci) C.1 C.2.1 C.2.2.2.2 hz.2.1 ty hz.2.2.1 hz.2.2.2 C.2.2.2.1 G.1 G.2.1 G.2.2.1 G.2.2.2.1 j hj hz.1 k hk (C.2.2.2.2 _ hlink) (fun _ h => h) hfin hin hdecl (hz.2.2.1 k hk) hn hfit hl hdg (fun H1 locs1 hP hD hS => kk H1 locs1 ⟨G.1, ?_, ?_, hS, G.2.2.2.2⟩)
  · rw [hset]; exact hP
  · rw [hset]; exact hD
theorem z_new (C : CallFix p m c cc nL s args zT own) (G : zS T A H0 s bs H locs) {Cn : String} {Tt : u_T} {ty : Nat → FieldType} {N ci index : Nat} (hz : zCl ci Cn Tt N ty) (hcl : Cond.classLink own index Cn ∈ zT) (hinst : Cond.instantiable Cn N ∈ zT) (hini : Cond.initialized Cn ∈ zT) {fs : List Value} (hfs : ∀ j, j < N → defaultValue (ty j) = vp_V fs j) (hcells : cells + 1 ≤ R.cells) (hslots : slots + N ≤ R.slots) (hdg : decode cc pc = .ok (.new index, 3))
    (kk : ∀ (q : Nat) (H1 : Heap), zS T A H0 s (bs ++ [[(q, .inr (ci, fs))]]) H1 locs → W p l e R s m args below meth c H1 locs (cells + 1) (slots + N) Q (F0 m (pc + 3) ls (.ref q :: rest))) : W p l e R s m args below meth c H locs cells slots Q (F0 m pc ls rest) := by
  refine va_new (D := T.1) (ci := ci) C.1 C.2.1 C.2.2.2.2 hz.2.1 ty hz.2.2.1 C.2.2.2.1 (C.2.2.2.2 _ hcl) (C.2.2.2.2 _ hinst) (C.2.2.2.2 _ hini) G.1 G.2.1 G.2.2.1 G.2.2.2.1 G.2.2.2.2.1 hz.1 hfs hcells hslots hdg (fun q H1 hP hD hS => kk q H1 ⟨G.1, ?_, ?_, hS, G.2.2.2.2⟩)
  · rw [List.flatten_append]; exact hP
  · rw [List.flatten_append]; exact hD
theorem z_ild (C : CallFix p m c cc nL s args zT own) (G : zS T A H0 s bs H locs) (i : Nat) {n : Nat} {f : Nat → Int32} (ha : bs[i]? = some [(a, .inl (T.2 0, n, .inl f))]) {x : Int32} (hin : vp_in x n) (hdg : decode cc pc = .ok (.iaload, 1))
    (kk : W p l e R s m args below meth c H locs cells slots Q (F0 m (pc + 1) ls (.int (f x.toNatClampNeg) :: rest))) : W p l e R s m args below meth c H locs cells slots Q (F0 m pc ls (.int x :: .ref a :: rest)) := by
  obtain ⟨j, hj, -⟩ := zfl ha
  exact va_iald C.1 C.2.1 G.1 G.2.1 j 0 hj rfl hin hdg kk
theorem z_bld (C : CallFix p m c cc nL s args zT own) (G : zS T A H0 s bs H locs) (i : Nat) {n : Nat} {f : Nat → Int32} (ha : bs[i]? = some [(a, .inl (T.2 1, n, .inl f))]) {x : Int32} (hin : vp_in x n) (hdg : decode cc pc = .ok (.baload, 1))
    (kk : W p l e R s m args below meth c H locs cells slots Q (F0 m (pc + 1) ls (.int (f x.toNatClampNeg) :: rest))) : W p l e R s m args below meth c H locs cells slots Q (F0 m pc ls (.int x :: .ref a :: rest)) := by
  obtain ⟨j, hj, -⟩ := zfl ha
  exact va_bald C.1 C.2.1 G.1 G.2.1 j 1 hj rfl hin hdg kk
theorem z_zld (C : CallFix p m c cc nL s args zT own) (G : zS T A H0 s bs H locs) (i : Nat) {n : Nat} {f : Nat → Int32} (ha : bs[i]? = some [(a, .inl (T.2 2, n, .inl f))]) {x : Int32} (hin : vp_in x n) (hdg : decode cc pc = .ok (.baload, 1))
    (kk : W p l e R s m args below meth c H locs cells slots Q (F0 m (pc + 1) ls (.int (f x.toNatClampNeg) :: rest))) : W p l e R s m args below meth c H locs cells slots Q (F0 m pc ls (.int x :: .ref a :: rest)) := by
  obtain ⟨j, hj, -⟩ := zfl ha
  exact va_zald C.1 C.2.1 G.1 G.2.1 j 2 hj rfl hin hdg kk
theorem z_ist (C : CallFix p m c cc nL s args zT own) (G : zS T A H0 s bs H locs) (i : Nat) {n : Nat} {f : Nat → Int32} (ha : bs[i]? = some [(a, .inl (T.2 0, n, .inl f))]) {x v : Int32} (hin : vp_in x n) (hdg : decode cc pc = .ok (.iastore, 1))
    (kk : ∀ (H1 : Heap) (locs1 : List Loc), zS T A H0 s (bs.set i [(a, .inl (T.2 0, n, .inl (upd f x.toNatClampNeg v)))]) H1 locs1 → W p l e R s m args below meth c H1 locs1 cells slots Q (F0 m (pc + 1) ls rest)) : W p l e R s m args below meth c H locs cells slots Q (F0 m pc ls (.int v :: .int x :: .ref a :: rest)) := by
  obtain ⟨j, hj, hset⟩ := zfl ha
  refine va_iast C.1 C.2.1 G.1 G.2.1 G.2.2.1 G.2.2.2.1 j 0 hj rfl hin hdg (fun H1 locs1 hP hD hS => kk H1 locs1 ⟨G.1, ?_, ?_, hS, G.2.2.2.2⟩)
  · rw [hset]; exact hP
  · rw [hset]; exact hD
theorem z_bst (C : CallFix p m c cc nL s args zT own) (G : zS T A H0 s bs H locs) (i : Nat) {n : Nat} {f : Nat → Int32} (ha : bs[i]? = some [(a, .inl (T.2 1, n, .inl f))]) {x v : Int32} (hin : vp_in x n) (hdg : decode cc pc = .ok (.bastore, 1))
    (kk : ∀ (H1 : Heap) (locs1 : List Loc), zS T A H0 s (bs.set i [(a, .inl (T.2 1, n, .inl (upd f x.toNatClampNeg (vp_nar .byte v))))]) H1 locs1 → W p l e R s m args below meth c H1 locs1 cells slots Q (F0 m (pc + 1) ls rest)) : W p l e R s m args below meth c H locs cells slots Q (F0 m pc ls (.int v :: .int x :: .ref a :: rest)) := by
  obtain ⟨j, hj, hset⟩ := zfl ha
  refine va_bast C.1 C.2.1 G.1 G.2.1 G.2.2.1 G.2.2.2.1 j 1 hj rfl hin hdg (fun H1 locs1 hP hD hS => kk H1 locs1 ⟨G.1, ?_, ?_, hS, G.2.2.2.2⟩)
  · rw [hset]; exact hP
  · rw [hset]; exact hD
theorem z_zst (C : CallFix p m c cc nL s args zT own) (G : zS T A H0 s bs H locs) (i : Nat) {n : Nat} {f : Nat → Int32} (ha : bs[i]? = some [(a, .inl (T.2 2, n, .inl f))]) {x v : Int32} (hin : vp_in x n) (hdg : decode cc pc = .ok (.bastore, 1))
    (kk : ∀ (H1 : Heap) (locs1 : List Loc), zS T A H0 s (bs.set i [(a, .inl (T.2 2, n, .inl (upd f x.toNatClampNeg (vp_nar .boolean v))))]) H1 locs1 → W p l e R s m args below meth c H1 locs1 cells slots Q (F0 m (pc + 1) ls rest)) : W p l e R s m args below meth c H locs cells slots Q (F0 m pc ls (.int v :: .int x :: .ref a :: rest)) := by
  obtain ⟨j, hj, hset⟩ := zfl ha
  refine va_zast C.1 C.2.1 G.1 G.2.1 G.2.2.1 G.2.2.2.1 j 2 hj rfl hin hdg (fun H1 locs1 hP hD hS => kk H1 locs1 ⟨G.1, ?_, ?_, hS, G.2.2.2.2⟩)
  · rw [hset]; exact hP
  · rw [hset]; exact hD
theorem z_alen (C : CallFix p m c cc nL s args zT own) (G : zS T A H0 s bs H locs) (i t : Nat) {ty : FieldType} {cA : ClassId} (ht : (zTys T)[t]? = some (cA, ty)) {x : vp_A} (ha : bs[i]? = some [(a, .inl (cA, x))]) {v : Int32} (hv : Int32.ofNat x.1 = v) (hdg : decode cc pc = .ok (.arraylength, 1))
    (kk : W p l e R s m args below meth c H locs cells slots Q (F0 m (pc + 1) ls (.int v :: rest))) : W p l e R s m args below meth c H locs cells slots Q (F0 m pc ls (.ref a :: rest)) := by
  obtain ⟨j, hj, -⟩ := zfl ha
  exact va_alen C.1 C.2.1 G.1 G.2.1 j t hj ht hv hdg kk
theorem z_ald (C : CallFix p m c cc nL s args zT own) (G : zS T A H0 s bs H locs) (i t : Nat) {Cn : String} {cA : ClassId} (ht : (zTys T)[t]? = some (cA, .object Cn)) {n : Nat} {f : Nat → Option Nat} (ha : bs[i]? = some [(a, .inl (cA, n, .inr (.inr (.inr (.inr f)))))]) {x : Int32} (hin : vp_in x n) (hdg : decode cc pc = .ok (.aaload, 1))
    (kk : W p l e R s m args below meth c H locs cells slots Q (F0 m (pc + 1) ls (va_rf (f x.toNatClampNeg) :: rest))) : W p l e R s m args below meth c H locs cells slots Q (F0 m pc ls (.int x :: .ref a :: rest)) := by
  obtain ⟨j, hj, -⟩ := zfl ha
  exact va_aldq C.1 C.2.1 G.1 G.2.1 j t hj ht hin hdg kk
theorem z_ast (C : CallFix p m c cc nL s args zT own) (G : zS T A H0 s bs H locs) (i t : Nat) {r : vw_C} {cA : ClassId} (ht : (zTys T)[t]? = some (cA, .object r.1)) {n v ci : Nat} {vs : List Value} {f : Nat → Option Nat} (ha : bs[i]? = some [(a, .inl (cA, n, .inr (.inr (.inr (.inr f)))))]) (hm : (v, .inr (ci, vs)) ∈ bs.flatten) (hc : vwCl[ci]? = some r) {x : Int32} (hin : vp_in x n) (hdg : decode cc pc = .ok (.aastore, 1))
    (kk : ∀ (H1 : Heap) (locs1 : List Loc), zS T A H0 s (bs.set i [(a, .inl (cA, n, .inr (.inr (.inr (.inr (va_up f x.toNatClampNeg (some v)))))))]) H1 locs1 → W p l e R s m args below meth c H1 locs1 cells slots Q (F0 m (pc + 1) ls rest)) : W p l e R s m args below meth c H locs cells slots Q (F0 m pc ls (.ref v :: .int x :: .ref a :: rest)) := by
  obtain ⟨j, hj, hset⟩ := zfl ha
  obtain ⟨k, hk⟩ := List.getElem?_of_mem hm
  refine va_astq C.1 C.2.1 G.1 G.2.1 G.2.2.1 G.2.2.2.1 j t k ci hj ht hk hc hin hdg (fun H1 locs1 hP hD hS => kk H1 locs1 ⟨G.1, ?_, ?_, hS, G.2.2.2.2⟩)
  · rw [hset]; exact hP
  · rw [hset]; exact hD
theorem z_newa (C : CallFix p m c cc nL s args zT own) (G : zS T A H0 s bs H locs) {atype : ArrayType} {ty : FieldType} (t : Nat) {cA : ClassId} (ht : (zTys T)[t]? = some (cA, ty)) (hu : ∀ x y : ClassId, va_RA s x ty → va_RA s y ty → x = y) (harr : Cond.arrayClass ty ∈ zT) (hty : newarray.typeOf atype = ty) {n : Int32} {N' : Nat} {a0 : vp_A} (h0 : ∀ cB : ClassId, vp_cell cB a0 = arrV cB N' (fun _ => defaultValue ty)) (hn : ¬ n < 0) (hN : n.toNatClampNeg = N') (hbytes : N' * componentBytes ty ≤ 536870912) (hcells : cells + 1 ≤ R.cells) (hslots : slots + N' ≤ R.slots) (hdg : decode cc pc = .ok (.newarray atype, 2))
    (kk : ∀ (q : Nat) (H1 : Heap), zS T A H0 s (bs ++ [[(q, .inl (cA, a0))]]) H1 locs → W p l e R s m args below meth c H1 locs (cells + 1) (slots + N') Q (F0 m (pc + 2) ls (.ref q :: rest))) : W p l e R s m args below meth c H locs cells slots Q (F0 m pc ls (.int n :: rest)) := by
  subst hty
  refine va_newa (D := T.1) C.1 C.2.1 (C.2.2.2.2 _ harr) rfl G.1 G.2.1 G.2.2.1 G.2.2.2.1 G.2.2.2.2.1 h0 hn hN hbytes hcells hslots hdg (fun q cB H1 hK hP hD hS => ?_)
  have e1 := (hK.2 (zTys T).length (cB, newarray.typeOf atype) (by simp)).2
  have e2 := (G.1.2 t _ ht).2
  have e3 : cB = cA := hu _ _ e1 e2
  subst e3
  refine kk q H1 ⟨G.1, ?_, ?_, hS, G.2.2.2.2⟩
  · rw [List.flatten_append]; exact hP
  · rw [List.flatten_append]; exact hD
theorem z_newq (C : CallFix p m c cc nL s args zT own) (G : zS T A H0 s bs H locs) {Cn : String} {index : Nat} (t : Nat) {cA : ClassId} (ht : (zTys T)[t]? = some (cA, .object Cn)) (hclink : Cond.classLink own index Cn ∈ zT) (hover : Cn ∈ zAOs) {n : Int32} {N' : Nat} (hn : ¬ n < 0) (hN : n.toNatClampNeg = N') (hbytes : N' * 4 ≤ 536870912) (hcells : cells + 1 ≤ R.cells) (hslots : slots + N' ≤ R.slots) (hdg : decode cc pc = .ok (.anewarray index, 3))
    (kk : ∀ (q : Nat) (H1 : Heap), zS T A H0 s (bs ++ [[(q, .inl (cA, N', .inr (.inr (.inr (.inr (fun _ => none))))))]]) H1 locs → W p l e R s m args below meth c H1 locs (cells + 1) (slots + N') Q (F0 m (pc + 3) ls (.ref q :: rest))) : W p l e R s m args below meth c H locs cells slots Q (F0 m pc ls (.int n :: rest)) := by
  refine va_newq (D := T.1) C.1 C.2.1 C.2.2.2.1 (C.2.2.2.2 _ hclink) (G.2.2.2.2.2.2 Cn hover) G.1 G.2.1 G.2.2.1 G.2.2.2.1 G.2.2.2.2.1 hn hN hbytes hcells hslots hdg (fun q cB H1 hK hP hD hS => ?_)
  have e1 := (hK.2 (zTys T).length (cB, .object Cn) (by simp)).2
  have e2 := (G.1.2 t _ ht).2
  obtain ⟨-, -, -, -, -, e3⟩ := e1
  obtain ⟨-, -, -, -, -, e4⟩ := e2
  have e5 : cB = cA := Option.some.inj (e3.symm.trans e4)
  subst e5
  refine kk q H1 ⟨G.1, ?_, ?_, hS, G.2.2.2.2⟩
  · rw [List.flatten_append]; exact hP
  · rw [List.flatten_append]; exact hD
end ZR
end
section
section ZC
variable {p : Program} {l : Launch} {e : Env} {R : Room} {s : State} {m : MethodId} {args : Array Value} {below : List Frame} {meth : Method} {c : Code} {H : Heap} {locs : List Loc} {cells slots : Nat} {Q : State → Prop}
variable {cc : ByteArray} {nL pc : Nat} {ls : Array Slot} {rest st0 : List Value} {T : zTy} {A : Nat → Prop} {a : Nat} {bs bc br : List va_W} {H0 : Heap} {own host Cn : String}
variable {y : MethodName} {bytes : ByteArray} {maxL index n d mc ms : Nat} {ret : Option FieldType} {As : List Value}
theorem z_pre (G : zS T A H0 s bs H locs) (isC : List Nat) (hC : isC.map (fun i => bs[i]?) = bc.map some) (hn : va_nd isC = true) (av : List Value) : FrameBlind (zPre T av bc H.size) ∧ ∀ U : State, U.heap = H → s.WarmedH U.vm → zPre T av bc H.size av.toArray U :=
  ⟨fun a U g mk q => by
    obtain ⟨q0, q1, qP, qK, qD, qX⟩ := q
    exact ⟨q0, q1, qP, va_K.moved (u := U) (U := U.calling g mk a) (Vm.Alike.refl U.vm) qK, qD, zX.same (s := U) (U := U.calling g mk a) rfl qX⟩,
  fun U hU hW => ⟨rfl, by rw [hU], by rw [hU]; exact zP_sub G.2.1 isC hC, va_K.moved hW.alike G.1, (zD_sub G.2.2.1 isC hn hC).weaken (fun _ _ _ _ => trivial), G.2.2.2.2.2.warm hW⟩⟩
theorem z_recv {ci : Nat} {q : vw_C} {fs : List Value} (G : zS T A H0 s bs H locs) (isC : List Nat) (hC : isC.map (fun i => bs[i]?) = bc.map some) (hc : vwCl[ci]? = some q) (hm : (a, .inr (ci, fs)) ∈ bc.flatten) : ∃ cell : Cell, H[a]? = some cell ∧ cell.vm.isStatics = false ∧ s.vm.findClass q.1 = some cell.cls := by
  obtain ⟨k, hk⟩ := List.getElem?_of_mem hm
  exact va_recv G.1 (zP_sub G.2.1 isC hC) hc hk
theorem z_freeF (G : zS T A H0 s bs H locs) (isC : List Nat) (hC : isC.map (fun i => bs[i]?) = bc.map some) (hn : va_nd isC = true) : ∀ q, va_A bc.flatten H.size q → A q := by
  intro q h
  rcases h with ⟨k, e, h⟩ | h
  · exact (zD_sub G.2.2.1 isC hn hC).2 k _ h
  · exact G.2.2.2.2.1 q (Nat.le_trans G.2.2.2.1.1 h)
theorem z_join {b1 : List va_W} {H1 : Heap} {locs1 : List Loc} (G : zS T A H0 s bs H locs) (isC isR : List Nat) (hC : isC.map (fun i => bs[i]?) = bc.map some) (hR : isR.map (fun i => bs[i]?) = br.map some) (hnC : va_nd isC = true) (hnR : va_nd isR = true) (hdis : ∀ i ∈ isR, i ∉ isC)
    (hk : ∀ q : Nat, q < H.size → ¬ va_A bc.flatten H.size q → H1[q]? = H[q]?) (hP1 : va_P T.1 vwCl b1.flatten H1) (hD1 : va_D (va_A bc.flatten H.size) b1.flatten) (hS1 : va_S A H0 H1 locs1) : zS T A H0 s (br ++ b1) H1 locs1 := by
  have hPR := zP_sub G.2.1 isR hR
  have hDR := zD_sub G.2.2.1 isR hnR hR
  have hF := z_freeF G isC hC hnC
  have apart : ∀ x ∈ br.flatten, x.1 < H.size ∧ ¬ va_A bc.flatten H.size x.1 := by
    intro x hx
    have hl := (zP_mem.mp hPR x hx).lt
    refine ⟨hl, fun h => ?_⟩
    rcases h with ⟨k, e, h⟩ | h
    · obtain ⟨b, hb, hxb⟩ := List.mem_flatten.mp hx
      obtain ⟨i, hi⟩ := List.getElem?_of_mem hb
      obtain ⟨i', i1, i2⟩ := zat hR i b hi
      obtain ⟨b2, hb2, hxb2⟩ := List.mem_flatten.mp (List.mem_of_getElem? h)
      obtain ⟨j, hj⟩ := List.getElem?_of_mem hb2
      obtain ⟨j', j1, j2⟩ := zat hC j b2 hj
      refine zD_ne G.2.2.1 i2 j2 (fun e => ?_) x hxb _ hxb2 rfl
      subst e
      exact hdis i' (List.mem_of_getElem? i1) (List.mem_of_getElem? j1)
    · omega
  refine ⟨G.1, ?_, ?_, hS1, G.2.2.2.2⟩
  · rw [List.flatten_append]
    refine va_P.app ?_ hP1
    rw [zP_mem] at hPR ⊢
    exact fun x hx => (hPR x hx).kept (hk x.1 (apart x hx).1 (apart x hx).2)
  · rw [List.flatten_append]
    have h1 := zD_iff.mp hDR
    have h2 := zD_iff.mp hD1
    refine zD_iff.mpr ⟨List.pairwise_append.mpr ⟨h1.1, h2.1, fun x hx z hz e => (apart x hx).2 (by rw [e]; exact h2.2 z hz)⟩, fun q hq => ?_⟩
    rcases List.mem_append.mp hq with h | h
    · exact h1.2 q h
    · exact hF _ (h2.2 q h)

theorem z_Vi (C : CallFix p m c cc nL s args zT own) (G : zS T A H0 s bs H locs) {post : Int32 → List va_W → Prop} (hM : zMi l T y bytes maxL ret d mc ms (.ref a :: As) bc post) (cw : CallW R s args own Cn index y bytes maxL ret (zW y bytes maxL ret) (zR d mc ms) mc ms n) (isC isR : List Nat) (hC : isC.map (fun i => bs[i]?) = bc.map some) (hR : isR.map (fun i => bs[i]?) = br.map some) {ci : Nat} {qc : vw_C} {fs : List Value} (hc : vwCl[ci]? = some qc) (hq : qc.1 = Cn) (hm : (a, .inr (ci, fs)) ∈ bc.flatten) (hn : As.length = n) (hst : st0 = As.reverse ++ .ref a :: rest) (hls : ls.size = nL) (hdg : decode cc pc = .ok (.invokevirtual index, 3)) (hf1 : cells + mc ≤ R.cells) (hf2 : slots + ms ≤ R.slots)
    (kk : ∀ (r : Int32) (b1 : List va_W) (H1 : Heap) (locs1 : List Loc), post r b1 → zS T A H0 s (br ++ b1) H1 locs1 → W p l e R s m args below meth c H1 locs1 (cells + mc) (slots + ms) Q (F0 m (pc + 3) ls (.int r :: rest)))
    (hW : (rest.map fun v => v.category).sum ≤ 8 := by exact Nat.le_of_ble_eq_true rfl) (hnC : va_nd isC = true := by decide) (hnR : va_nd isR = true := by decide) (hdis : ∀ i ∈ isR, i ∉ isC := by decide) : W p l e R s m args below meth c H locs cells slots Q (F0 m pc ls st0) := by
  subst hst
  subst hq
  refine va_calli (va_runV (As := As) (rest := rest) ⟨C.1, C.2.1, C.2.2.1, C.2.2.2.1, C.2.2.2.2⟩ (hM H.size) cw ⟨(z_pre G isC hC hnC (.ref a :: As)).1, z_recv G isC hC hc hm, (z_pre G isC hC hnC (.ref a :: As)).2⟩ rfl hn hls rfl (lv_room hW) hdg ⟨hf1, hf2⟩) G.2.2.2.1 (fun q _ h => z_freeF G isC hC hnC q h) (z_freeF G isC hC hnC) (fun r b1 t H1 locs1 ht hvm hp hB hz hk hS => ?_)
  obtain ⟨hP1, hK1, hD1⟩ := hB
  rw [ht] at hP1
  exact kk r b1 H1 locs1 hp (z_join G isC isR hC hR hnC hnR hdis hk hP1 hD1 hS)
theorem z_Vv (C : CallFix p m c cc nL s args zT own) (G : zS T A H0 s bs H locs) {post : List va_W → Prop} (hM : zMv l T y bytes maxL d mc ms (.ref a :: As) bc post) (cw : CallW R s args own Cn index y bytes maxL none (zW y bytes maxL none) (zR d mc ms) mc ms n) (isC isR : List Nat) (hC : isC.map (fun i => bs[i]?) = bc.map some) (hR : isR.map (fun i => bs[i]?) = br.map some) {ci : Nat} {qc : vw_C} {fs : List Value} (hc : vwCl[ci]? = some qc) (hq : qc.1 = Cn) (hm : (a, .inr (ci, fs)) ∈ bc.flatten) (hn : As.length = n) (hst : st0 = As.reverse ++ .ref a :: rest) (hls : ls.size = nL) (hdg : decode cc pc = .ok (.invokevirtual index, 3)) (hf1 : cells + mc ≤ R.cells) (hf2 : slots + ms ≤ R.slots)
    (kk : ∀ (b1 : List va_W) (H1 : Heap) (locs1 : List Loc), post  b1 → zS T A H0 s (br ++ b1) H1 locs1 → W p l e R s m args below meth c H1 locs1 (cells + mc) (slots + ms) Q (F0 m (pc + 3) ls (rest)))
    (hW : (rest.map fun v => v.category).sum ≤ 8 := by exact Nat.le_of_ble_eq_true rfl) (hnC : va_nd isC = true := by decide) (hnR : va_nd isR = true := by decide) (hdis : ∀ i ∈ isR, i ∉ isC := by decide) : W p l e R s m args below meth c H locs cells slots Q (F0 m pc ls st0) := by
  subst hst
  subst hq
  refine va_callv (va_runV (As := As) (rest := rest) ⟨C.1, C.2.1, C.2.2.1, C.2.2.2.1, C.2.2.2.2⟩ (hM H.size) cw ⟨(z_pre G isC hC hnC (.ref a :: As)).1, z_recv G isC hC hc hm, (z_pre G isC hC hnC (.ref a :: As)).2⟩ rfl hn hls rfl (lv_room hW) hdg ⟨hf1, hf2⟩) G.2.2.2.1 (fun q _ h => z_freeF G isC hC hnC q h) (z_freeF G isC hC hnC) (fun b1 t H1 locs1 ht hvm hp hB hz hk hS => ?_)
  obtain ⟨hP1, hK1, hD1⟩ := hB
  rw [ht] at hP1
  exact kk b1 H1 locs1 hp (z_join G isC isR hC hR hnC hnR hdis hk hP1 hD1 hS)
theorem z_Vq (C : CallFix p m c cc nL s args zT own) (G : zS T A H0 s bs H locs) {post : Option Nat → List va_W → Prop} (hM : zMq l T y bytes maxL ret d mc ms (.ref a :: As) bc post) (cw : CallW R s args own Cn index y bytes maxL ret (zW y bytes maxL ret) (zR d mc ms) mc ms n) (isC isR : List Nat) (hC : isC.map (fun i => bs[i]?) = bc.map some) (hR : isR.map (fun i => bs[i]?) = br.map some) {ci : Nat} {qc : vw_C} {fs : List Value} (hc : vwCl[ci]? = some qc) (hq : qc.1 = Cn) (hm : (a, .inr (ci, fs)) ∈ bc.flatten) (hn : As.length = n) (hst : st0 = As.reverse ++ .ref a :: rest) (hls : ls.size = nL) (hdg : decode cc pc = .ok (.invokevirtual index, 3)) (hf1 : cells + mc ≤ R.cells) (hf2 : slots + ms ≤ R.slots)
    (kk : ∀ (r : Option Nat) (b1 : List va_W) (H1 : Heap) (locs1 : List Loc), post r b1 → zS T A H0 s (br ++ b1) H1 locs1 → W p l e R s m args below meth c H1 locs1 (cells + mc) (slots + ms) Q (F0 m (pc + 3) ls (va_rf r :: rest)))
    (hW : (rest.map fun v => v.category).sum ≤ 8 := by exact Nat.le_of_ble_eq_true rfl) (hnC : va_nd isC = true := by decide) (hnR : va_nd isR = true := by decide) (hdis : ∀ i ∈ isR, i ∉ isC := by decide) : W p l e R s m args below meth c H locs cells slots Q (F0 m pc ls st0) := by
  subst hst
  subst hq
  refine va_callq (va_runV (As := As) (rest := rest) ⟨C.1, C.2.1, C.2.2.1, C.2.2.2.1, C.2.2.2.2⟩ (hM H.size) cw ⟨(z_pre G isC hC hnC (.ref a :: As)).1, z_recv G isC hC hc hm, (z_pre G isC hC hnC (.ref a :: As)).2⟩ rfl hn hls rfl (lv_room hW) hdg ⟨hf1, hf2⟩) G.2.2.2.1 (fun q _ h => z_freeF G isC hC hnC q h) (z_freeF G isC hC hnC) (fun r b1 t H1 locs1 ht hvm hp hB hz hk hS => ?_)
  obtain ⟨hP1, hK1, hD1⟩ := hB
  rw [ht] at hP1
  exact kk r b1 H1 locs1 hp (z_join G isC isR hC hR hnC hnR hdis hk hP1 hD1 hS)
theorem z_Ni (C : CallFix p m c cc nL s args zT own) (G : zS T A H0 s bs H locs) {post : Int32 → List va_W → Prop} (hM : zMi l T y bytes maxL ret d mc ms (.ref a :: As) bc post) (cw : va_CN R s args own index y host bytes maxL ret (zW y bytes maxL ret) (zR d mc ms) mc ms n ∧ (Cond.instanceMethod y).before args s = true ∧ (Cond.selects Cn y y).before args s = true) (isC isR : List Nat) (hC : isC.map (fun i => bs[i]?) = bc.map some) (hR : isR.map (fun i => bs[i]?) = br.map some) {ci : Nat} {qc : vw_C} {fs : List Value} (hc : vwCl[ci]? = some qc) (hq : qc.1 = Cn) (hm : (a, .inr (ci, fs)) ∈ bc.flatten) (hn : As.length = n) (hst : st0 = As.reverse ++ .ref a :: rest) (hls : ls.size = nL) (hdg : decode cc pc = .ok (.invokevirtual index, 3)) (hf1 : cells + mc ≤ R.cells) (hf2 : slots + ms ≤ R.slots)
    (kk : ∀ (r : Int32) (b1 : List va_W) (H1 : Heap) (locs1 : List Loc), post r b1 → zS T A H0 s (br ++ b1) H1 locs1 → W p l e R s m args below meth c H1 locs1 (cells + mc) (slots + ms) Q (F0 m (pc + 3) ls (.int r :: rest)))
    (hW : (rest.map fun v => v.category).sum ≤ 8 := by exact Nat.le_of_ble_eq_true rfl) (hnC : va_nd isC = true := by decide) (hnR : va_nd isR = true := by decide) (hdis : ∀ i ∈ isR, i ∉ isC := by decide) : W p l e R s m args below meth c H locs cells slots Q (F0 m pc ls st0) := by
  subst hst
  subst hq
  refine va_calli (va_runVN (As := As) (rest := rest) ⟨C.1, C.2.1, C.2.2.1, C.2.2.2.1, C.2.2.2.2⟩ (hM H.size) cw ⟨(z_pre G isC hC hnC (.ref a :: As)).1, z_recv G isC hC hc hm, (z_pre G isC hC hnC (.ref a :: As)).2⟩ rfl hn hls rfl (lv_room hW) hdg ⟨hf1, hf2⟩) G.2.2.2.1 (fun q _ h => z_freeF G isC hC hnC q h) (z_freeF G isC hC hnC) (fun r b1 t H1 locs1 ht hvm hp hB hz hk hS => ?_)
  obtain ⟨hP1, hK1, hD1⟩ := hB
  rw [ht] at hP1
  exact kk r b1 H1 locs1 hp (z_join G isC isR hC hR hnC hnR hdis hk hP1 hD1 hS)
theorem z_Nv (C : CallFix p m c cc nL s args zT own) (G : zS T A H0 s bs H locs) {post : List va_W → Prop} (hM : zMv l T y bytes maxL d mc ms (.ref a :: As) bc post) (cw : va_CN R s args own index y host bytes maxL none (zW y bytes maxL none) (zR d mc ms) mc ms n ∧ (Cond.instanceMethod y).before args s = true ∧ (Cond.selects Cn y y).before args s = true) (isC isR : List Nat) (hC : isC.map (fun i => bs[i]?) = bc.map some) (hR : isR.map (fun i => bs[i]?) = br.map some) {ci : Nat} {qc : vw_C} {fs : List Value} (hc : vwCl[ci]? = some qc) (hq : qc.1 = Cn) (hm : (a, .inr (ci, fs)) ∈ bc.flatten) (hn : As.length = n) (hst : st0 = As.reverse ++ .ref a :: rest) (hls : ls.size = nL) (hdg : decode cc pc = .ok (.invokevirtual index, 3)) (hf1 : cells + mc ≤ R.cells) (hf2 : slots + ms ≤ R.slots)
    (kk : ∀ (b1 : List va_W) (H1 : Heap) (locs1 : List Loc), post  b1 → zS T A H0 s (br ++ b1) H1 locs1 → W p l e R s m args below meth c H1 locs1 (cells + mc) (slots + ms) Q (F0 m (pc + 3) ls (rest)))
    (hW : (rest.map fun v => v.category).sum ≤ 8 := by exact Nat.le_of_ble_eq_true rfl) (hnC : va_nd isC = true := by decide) (hnR : va_nd isR = true := by decide) (hdis : ∀ i ∈ isR, i ∉ isC := by decide) : W p l e R s m args below meth c H locs cells slots Q (F0 m pc ls st0) := by
  subst hst
  subst hq
  refine va_callv (va_runVN (As := As) (rest := rest) ⟨C.1, C.2.1, C.2.2.1, C.2.2.2.1, C.2.2.2.2⟩ (hM H.size) cw ⟨(z_pre G isC hC hnC (.ref a :: As)).1, z_recv G isC hC hc hm, (z_pre G isC hC hnC (.ref a :: As)).2⟩ rfl hn hls rfl (lv_room hW) hdg ⟨hf1, hf2⟩) G.2.2.2.1 (fun q _ h => z_freeF G isC hC hnC q h) (z_freeF G isC hC hnC) (fun b1 t H1 locs1 ht hvm hp hB hz hk hS => ?_)
  obtain ⟨hP1, hK1, hD1⟩ := hB
  rw [ht] at hP1
  exact kk b1 H1 locs1 hp (z_join G isC isR hC hR hnC hnR hdis hk hP1 hD1 hS)
theorem z_Nq (C : CallFix p m c cc nL s args zT own) (G : zS T A H0 s bs H locs) {post : Option Nat → List va_W → Prop} (hM : zMq l T y bytes maxL ret d mc ms (.ref a :: As) bc post) (cw : va_CN R s args own index y host bytes maxL ret (zW y bytes maxL ret) (zR d mc ms) mc ms n ∧ (Cond.instanceMethod y).before args s = true ∧ (Cond.selects Cn y y).before args s = true) (isC isR : List Nat) (hC : isC.map (fun i => bs[i]?) = bc.map some) (hR : isR.map (fun i => bs[i]?) = br.map some) {ci : Nat} {qc : vw_C} {fs : List Value} (hc : vwCl[ci]? = some qc) (hq : qc.1 = Cn) (hm : (a, .inr (ci, fs)) ∈ bc.flatten) (hn : As.length = n) (hst : st0 = As.reverse ++ .ref a :: rest) (hls : ls.size = nL) (hdg : decode cc pc = .ok (.invokevirtual index, 3)) (hf1 : cells + mc ≤ R.cells) (hf2 : slots + ms ≤ R.slots)
    (kk : ∀ (r : Option Nat) (b1 : List va_W) (H1 : Heap) (locs1 : List Loc), post r b1 → zS T A H0 s (br ++ b1) H1 locs1 → W p l e R s m args below meth c H1 locs1 (cells + mc) (slots + ms) Q (F0 m (pc + 3) ls (va_rf r :: rest)))
    (hW : (rest.map fun v => v.category).sum ≤ 8 := by exact Nat.le_of_ble_eq_true rfl) (hnC : va_nd isC = true := by decide) (hnR : va_nd isR = true := by decide) (hdis : ∀ i ∈ isR, i ∉ isC := by decide) : W p l e R s m args below meth c H locs cells slots Q (F0 m pc ls st0) := by
  subst hst
  subst hq
  refine va_callq (va_runVN (As := As) (rest := rest) ⟨C.1, C.2.1, C.2.2.1, C.2.2.2.1, C.2.2.2.2⟩ (hM H.size) cw ⟨(z_pre G isC hC hnC (.ref a :: As)).1, z_recv G isC hC hc hm, (z_pre G isC hC hnC (.ref a :: As)).2⟩ rfl hn hls rfl (lv_room hW) hdg ⟨hf1, hf2⟩) G.2.2.2.1 (fun q _ h => z_freeF G isC hC hnC q h) (z_freeF G isC hC hnC) (fun r b1 t H1 locs1 ht hvm hp hB hz hk hS => ?_)
  obtain ⟨hP1, hK1, hD1⟩ := hB
  rw [ht] at hP1
  exact kk r b1 H1 locs1 hp (z_join G isC isR hC hR hnC hnR hdis hk hP1 hD1 hS)
theorem z_Si (C : CallFix p m c cc nL s args zT own) (G : zS T A H0 s bs H locs) {post : Int32 → List va_W → Prop} (hM : zMi l T y bytes maxL ret d mc ms As bc post) (cw : CallB R s args own index y bytes maxL ret (zW y bytes maxL ret) (zR d mc ms) mc ms n ∧ (Cond.static y).before args s = true) (isC isR : List Nat) (hC : isC.map (fun i => bs[i]?) = bc.map some) (hR : isR.map (fun i => bs[i]?) = br.map some) (hn : As.length = n) (hst : st0 = As.reverse ++ rest) (hls : ls.size = nL) (hdg : decode cc pc = .ok (.invokestatic index, 3)) (hf1 : cells + mc ≤ R.cells) (hf2 : slots + ms ≤ R.slots)
    (kk : ∀ (r : Int32) (b1 : List va_W) (H1 : Heap) (locs1 : List Loc), post r b1 → zS T A H0 s (br ++ b1) H1 locs1 → W p l e R s m args below meth c H1 locs1 (cells + mc) (slots + ms) Q (F0 m (pc + 3) ls (.int r :: rest)))
    (hW : (rest.map fun v => v.category).sum ≤ 8 := by exact Nat.le_of_ble_eq_true rfl) (hnC : va_nd isC = true := by decide) (hnR : va_nd isR = true := by decide) (hdis : ∀ i ∈ isR, i ∉ isC := by decide) : W p l e R s m args below meth c H locs cells slots Q (F0 m pc ls st0) := by
  subst hst
  refine va_calli (va_runS (As := As) (rest := rest) ⟨C.1, C.2.1, C.2.2.1, C.2.2.2.1, C.2.2.2.2⟩ (hM H.size) cw (z_pre G isC hC hnC As) rfl hn hls rfl (lv_room hW) hdg ⟨hf1, hf2⟩) G.2.2.2.1 (fun q _ h => z_freeF G isC hC hnC q h) (z_freeF G isC hC hnC) (fun r b1 t H1 locs1 ht hvm hp hB hz hk hS => ?_)
  obtain ⟨hP1, hK1, hD1⟩ := hB
  rw [ht] at hP1
  exact kk r b1 H1 locs1 hp (z_join G isC isR hC hR hnC hnR hdis hk hP1 hD1 hS)
theorem z_Sv (C : CallFix p m c cc nL s args zT own) (G : zS T A H0 s bs H locs) {post : List va_W → Prop} (hM : zMv l T y bytes maxL d mc ms As bc post) (cw : CallB R s args own index y bytes maxL none (zW y bytes maxL none) (zR d mc ms) mc ms n ∧ (Cond.static y).before args s = true) (isC isR : List Nat) (hC : isC.map (fun i => bs[i]?) = bc.map some) (hR : isR.map (fun i => bs[i]?) = br.map some) (hn : As.length = n) (hst : st0 = As.reverse ++ rest) (hls : ls.size = nL) (hdg : decode cc pc = .ok (.invokestatic index, 3)) (hf1 : cells + mc ≤ R.cells) (hf2 : slots + ms ≤ R.slots)
    (kk : ∀ (b1 : List va_W) (H1 : Heap) (locs1 : List Loc), post  b1 → zS T A H0 s (br ++ b1) H1 locs1 → W p l e R s m args below meth c H1 locs1 (cells + mc) (slots + ms) Q (F0 m (pc + 3) ls (rest)))
    (hW : (rest.map fun v => v.category).sum ≤ 8 := by exact Nat.le_of_ble_eq_true rfl) (hnC : va_nd isC = true := by decide) (hnR : va_nd isR = true := by decide) (hdis : ∀ i ∈ isR, i ∉ isC := by decide) : W p l e R s m args below meth c H locs cells slots Q (F0 m pc ls st0) := by
  subst hst
  refine va_callv (va_runS (As := As) (rest := rest) ⟨C.1, C.2.1, C.2.2.1, C.2.2.2.1, C.2.2.2.2⟩ (hM H.size) cw (z_pre G isC hC hnC As) rfl hn hls rfl (lv_room hW) hdg ⟨hf1, hf2⟩) G.2.2.2.1 (fun q _ h => z_freeF G isC hC hnC q h) (z_freeF G isC hC hnC) (fun b1 t H1 locs1 ht hvm hp hB hz hk hS => ?_)
  obtain ⟨hP1, hK1, hD1⟩ := hB
  rw [ht] at hP1
  exact kk b1 H1 locs1 hp (z_join G isC isR hC hR hnC hnR hdis hk hP1 hD1 hS)
theorem z_Sq (C : CallFix p m c cc nL s args zT own) (G : zS T A H0 s bs H locs) {post : Option Nat → List va_W → Prop} (hM : zMq l T y bytes maxL ret d mc ms As bc post) (cw : CallB R s args own index y bytes maxL ret (zW y bytes maxL ret) (zR d mc ms) mc ms n ∧ (Cond.static y).before args s = true) (isC isR : List Nat) (hC : isC.map (fun i => bs[i]?) = bc.map some) (hR : isR.map (fun i => bs[i]?) = br.map some) (hn : As.length = n) (hst : st0 = As.reverse ++ rest) (hls : ls.size = nL) (hdg : decode cc pc = .ok (.invokestatic index, 3)) (hf1 : cells + mc ≤ R.cells) (hf2 : slots + ms ≤ R.slots)
    (kk : ∀ (r : Option Nat) (b1 : List va_W) (H1 : Heap) (locs1 : List Loc), post r b1 → zS T A H0 s (br ++ b1) H1 locs1 → W p l e R s m args below meth c H1 locs1 (cells + mc) (slots + ms) Q (F0 m (pc + 3) ls (va_rf r :: rest)))
    (hW : (rest.map fun v => v.category).sum ≤ 8 := by exact Nat.le_of_ble_eq_true rfl) (hnC : va_nd isC = true := by decide) (hnR : va_nd isR = true := by decide) (hdis : ∀ i ∈ isR, i ∉ isC := by decide) : W p l e R s m args below meth c H locs cells slots Q (F0 m pc ls st0) := by
  subst hst
  refine va_callq (va_runS (As := As) (rest := rest) ⟨C.1, C.2.1, C.2.2.1, C.2.2.2.1, C.2.2.2.2⟩ (hM H.size) cw (z_pre G isC hC hnC As) rfl hn hls rfl (lv_room hW) hdg ⟨hf1, hf2⟩) G.2.2.2.1 (fun q _ h => z_freeF G isC hC hnC q h) (z_freeF G isC hC hnC) (fun r b1 t H1 locs1 ht hvm hp hB hz hk hS => ?_)
  obtain ⟨hP1, hK1, hD1⟩ := hB
  rw [ht] at hP1
  exact kk r b1 H1 locs1 hp (z_join G isC isR hC hR hnC hnR hdis hk hP1 hD1 hS)
theorem z_Iv (C : CallFix p m c cc nL s args zT own) (G : zS T A H0 s bs H locs) {post : List va_W → Prop} (hM : zMv l T y bytes maxL d mc ms (.ref a :: As) bc post) (cw : CallB R s args own index y bytes maxL none (zW y bytes maxL none) (zR d mc ms) mc ms n ∧ y.name = "<init>" ∧ (Cond.instanceMethod y).before args s = true) (isC isR : List Nat) (hC : isC.map (fun i => bs[i]?) = bc.map some) (hR : isR.map (fun i => bs[i]?) = br.map some) (hn : As.length = n) (hst : st0 = As.reverse ++ .ref a :: rest) (hls : ls.size = nL) (hdg : decode cc pc = .ok (.invokespecial index, 3)) (hf1 : cells + mc ≤ R.cells) (hf2 : slots + ms ≤ R.slots)
    (kk : ∀ (b1 : List va_W) (H1 : Heap) (locs1 : List Loc), post  b1 → zS T A H0 s (br ++ b1) H1 locs1 → W p l e R s m args below meth c H1 locs1 (cells + mc) (slots + ms) Q (F0 m (pc + 3) ls (rest)))
    (hW : (rest.map fun v => v.category).sum ≤ 8 := by exact Nat.le_of_ble_eq_true rfl) (hnC : va_nd isC = true := by decide) (hnR : va_nd isR = true := by decide) (hdis : ∀ i ∈ isR, i ∉ isC := by decide) : W p l e R s m args below meth c H locs cells slots Q (F0 m pc ls st0) := by
  subst hst
  refine va_callv (va_runI (As := As) (rest := rest) ⟨C.1, C.2.1, C.2.2.1, C.2.2.2.1, C.2.2.2.2⟩ (hM H.size) cw (z_pre G isC hC hnC (.ref a :: As)) rfl hn hls rfl (lv_room hW) hdg ⟨hf1, hf2⟩) G.2.2.2.1 (fun q _ h => z_freeF G isC hC hnC q h) (z_freeF G isC hC hnC) (fun b1 t H1 locs1 ht hvm hp hB hz hk hS => ?_)
  obtain ⟨hP1, hK1, hD1⟩ := hB
  rw [ht] at hP1
  exact kk b1 H1 locs1 hp (z_join G isC isR hC hR hnC hnR hdis hk hP1 hD1 hS)
theorem z_Jv (C : CallFix p m c cc nL s args zT own) (G : zS T A H0 s bs H locs) {post : List va_W → Prop} (hM : zMv l T y bytes maxL d mc ms (.ref a :: As) bc post) (cw : va_CN R s args own index y host bytes maxL none (zW y bytes maxL none) (zR d mc ms) mc ms n ∧ y.name = "<init>" ∧ (Cond.instanceMethod y).before args s = true) (isC isR : List Nat) (hC : isC.map (fun i => bs[i]?) = bc.map some) (hR : isR.map (fun i => bs[i]?) = br.map some) (hn : As.length = n) (hst : st0 = As.reverse ++ .ref a :: rest) (hls : ls.size = nL) (hdg : decode cc pc = .ok (.invokespecial index, 3)) (hf1 : cells + mc ≤ R.cells) (hf2 : slots + ms ≤ R.slots)
    (kk : ∀ (b1 : List va_W) (H1 : Heap) (locs1 : List Loc), post  b1 → zS T A H0 s (br ++ b1) H1 locs1 → W p l e R s m args below meth c H1 locs1 (cells + mc) (slots + ms) Q (F0 m (pc + 3) ls (rest)))
    (hW : (rest.map fun v => v.category).sum ≤ 8 := by exact Nat.le_of_ble_eq_true rfl) (hnC : va_nd isC = true := by decide) (hnR : va_nd isR = true := by decide) (hdis : ∀ i ∈ isR, i ∉ isC := by decide) : W p l e R s m args below meth c H locs cells slots Q (F0 m pc ls st0) := by
  subst hst
  refine va_callv (va_runIN (As := As) (rest := rest) ⟨C.1, C.2.1, C.2.2.1, C.2.2.2.1, C.2.2.2.2⟩ (hM H.size) cw (z_pre G isC hC hnC (.ref a :: As)) rfl hn hls rfl (lv_room hW) hdg ⟨hf1, hf2⟩) G.2.2.2.1 (fun q _ h => z_freeF G isC hC hnC q h) (z_freeF G isC hC hnC) (fun b1 t H1 locs1 ht hvm hp hB hz hk hS => ?_)
  obtain ⟨hP1, hK1, hD1⟩ := hB
  rw [ht] at hP1
  exact kk b1 H1 locs1 hp (z_join G isC isR hC hR hnC hnR hdis hk hP1 hD1 hS)
end ZC
section ZG
theorem zgood : zT.all goodWord = true := List.all_eq_true.mpr (fun w h => (List.mem_filter.mp h).2)
theorem goodIn_app {big a b : List Cond} (ha : GoodIn big a) (hb : GoodIn big b) : GoodIn big (a ++ b) := fun w h => (List.mem_append.mp h).elim (ha w) (hb w)
theorem zIn {y : MethodName} {b : ByteArray} {n : Nat} {ret : Option FieldType} (hc : Cond.code y b n ret ∈ zT) : GoodIn zT (zW y b n ret) := by
  intro w hw
  have hm : w ∈ zT := by
    rcases List.mem_cons.mp hw with h | h
    · rw [h]; exact hc
    · exact h
  exact ⟨hm, good_of_word (List.all_eq_true.mp zgood w hm)⟩
theorem zIns {ws : List Cond} (h : ∀ w ∈ ws, w ∈ zT) : GoodIn zT ws := fun w hw => ⟨h w hw, good_of_word (List.all_eq_true.mp zgood w (h w hw))⟩
variable {R : Room} {s : State} {args : Array Value} {own host : String} {index n maxL d mc ms : Nat} {y : MethodName} {b : ByteArray} {ret : Option FieldType}
theorem z_cwV (hts : ∀ w ∈ zT, w.before args s = true) (hc : Cond.code y b maxL ret ∈ zT) (hl : Cond.methodLink own index y ∈ zT) (hi : Cond.instanceMethod y ∈ zT) (hs : Cond.selects y.cls y y ∈ zT) (hini : Cond.initialized y.cls ∈ zT) (hd : y.cls ≠ "java/lang/invoke/MethodHandle" ∧ y.cls ≠ "java/lang/invoke/VarHandle" ∧ (parseMethodDescriptor y.desc).map (fun d => d.parameters.length) = some n) (h1 : d + 1 ≤ R.frames) (h2 : 8 + (maxL + 11) + 40 * d ≤ R.locals) : CallW R s args own y.cls index y b maxL ret (zW y b maxL ret) (zR d mc ms) mc ms n :=
  cwV n hts (goodIn_app (zIns (by intro w hw; simp only [List.mem_cons, List.not_mem_nil, or_false] at hw; rcases hw with rfl | rfl | rfl | rfl <;> assumption)) (zIn hc)) rfl rfl rfl ⟨rfl, hd⟩ ⟨h1, h2⟩
theorem z_cwS (hts : ∀ w ∈ zT, w.before args s = true) (hc : Cond.code y b maxL ret ∈ zT) (hl : Cond.methodLink own index y ∈ zT) (hi : Cond.static y ∈ zT) (hini : Cond.initialized y.cls ∈ zT) (hd : y.cls ≠ "java/lang/invoke/MethodHandle" ∧ y.cls ≠ "java/lang/invoke/VarHandle" ∧ (parseMethodDescriptor y.desc).map (fun d => d.parameters.length) = some n) (h1 : d + 1 ≤ R.frames) (h2 : 8 + (maxL + 11) + 40 * d ≤ R.locals) : CallB R s args own index y b maxL ret (zW y b maxL ret) (zR d mc ms) mc ms n ∧ (Cond.static y).before args s = true :=
  va_cwS n hts (goodIn_app (zIns (by intro w hw; simp only [List.mem_cons, List.not_mem_nil, or_false] at hw; rcases hw with rfl | rfl | rfl <;> assumption)) (zIn hc)) rfl rfl rfl hd ⟨h1, h2⟩
theorem z_cwI (hts : ∀ w ∈ zT, w.before args s = true) (hc : Cond.code y b maxL none ∈ zT) (hl : Cond.methodLink own index y ∈ zT) (hi : Cond.instanceMethod y ∈ zT) (hini : Cond.initialized y.cls ∈ zT) (hnm : y.name = "<init>") (hd : y.cls ≠ "java/lang/invoke/MethodHandle" ∧ y.cls ≠ "java/lang/invoke/VarHandle" ∧ (parseMethodDescriptor y.desc).map (fun d => d.parameters.length) = some n) (h1 : d + 1 ≤ R.frames) (h2 : 8 + (maxL + 11) + 40 * d ≤ R.locals) : CallB R s args own index y b maxL none (zW y b maxL none) (zR d mc ms) mc ms n ∧ y.name = "<init>" ∧ (Cond.instanceMethod y).before args s = true :=
  cwI n hts (zIn hc) rfl rfl rfl (hts _ hini) (hts _ hl) (hts _ hi) hnm hd ⟨h1, h2⟩
theorem z_cwJ (hts : ∀ w ∈ zT, w.before args s = true) (hc : Cond.code y b maxL none ∈ zT) (hl : va_Nw (.methodLinkNest own index y host) s) (hi : Cond.instanceMethod y ∈ zT) (hini : Cond.initialized y.cls ∈ zT) (hnm : y.name = "<init>") (hd : y.cls ≠ "java/lang/invoke/MethodHandle" ∧ y.cls ≠ "java/lang/invoke/VarHandle" ∧ (parseMethodDescriptor y.desc).map (fun d => d.parameters.length) = some n) (h1 : d + 1 ≤ R.frames) (h2 : 8 + (maxL + 11) + 40 * d ≤ R.locals) : va_CN R s args own index y host b maxL none (zW y b maxL none) (zR d mc ms) mc ms n ∧ y.name = "<init>" ∧ (Cond.instanceMethod y).before args s = true :=
  ⟨va_cnB n hts (zIn hc) rfl rfl rfl hl (hts _ hini) hd ⟨h1, h2⟩, hnm, hts _ hi⟩
end ZG
section ZE
variable {p : Program} {l : Launch} {e : Env} {s : State} {m : MethodId} {args : Array Value} {below : List Frame} {meth : Method} {c : Code} {H : Heap} {locs : List Loc} {cells slots mc ms : Nat} {R : Room}
variable {cc : ByteArray} {nL pc : Nat} {ls : Array Slot} {T : zTy} {A : Nat → Prop} {bs : List va_W} {own : String}
theorem z_iret {post : Int32 → List va_W → Prop} {v : Int32} (C : CallFix p m c cc nL s args zT own) (hr : meth.sig.returnType = some .int) (hlocks : meth.locks = false) (G : zS T A s.heap s bs H locs) (h1 : cells ≤ mc) (h2 : slots ≤ ms) (hdg : decode cc pc = .ok (.ireturn, 1)) (hp : post v bs) : W p l e R s m args below meth c H locs cells slots (MQ below (va_Qi post (zB T A) A) args s mc ms A) (F0 m pc ls [.int v]) :=
  W.widen h1 h2 (W.iret C.1 C.2.1 hr (fun t ht hW => ⟨⟨v, bs, rfl, hp, by rw [ht]; exact G.2.1, va_K.moved hW.alike G.1, G.2.2.1⟩, G.2.2.2.1.F ht⟩) G.2.2.2.1.2.2 hdg hlocks)
theorem z_zret {post : Int32 → List va_W → Prop} {v : Int32} (C : CallFix p m c cc nL s args zT own) (hr : meth.sig.returnType = some .boolean) (hlocks : meth.locks = false) (G : zS T A s.heap s bs H locs) (h1 : cells ≤ mc) (h2 : slots ≤ ms) (hdg : decode cc pc = .ok (.ireturn, 1)) (hn : narrow .boolean (.int v) = .int v) (hp : post v bs) : W p l e R s m args below meth c H locs cells slots (MQ below (va_Qi post (zB T A) A) args s mc ms A) (F0 m pc ls [.int v]) :=
  W.widen h1 h2 (W.zret C.1 C.2.1 hr hn (fun t ht hW => ⟨⟨v, bs, rfl, hp, by rw [ht]; exact G.2.1, va_K.moved hW.alike G.1, G.2.2.1⟩, G.2.2.2.1.F ht⟩) G.2.2.2.1.2.2 hdg hlocks)
theorem z_vret {post : List va_W → Prop} (C : CallFix p m c cc nL s args zT own) (hr : meth.sig.returnType = none) (hlocks : meth.locks = false) (G : zS T A s.heap s bs H locs) (h1 : cells ≤ mc) (h2 : slots ≤ ms) (hdg : decode cc pc = .ok (.return_, 1)) (hp : post bs) : W p l e R s m args below meth c H locs cells slots (MQ below (va_Qv post (zB T A) A) args s mc ms A) (F0 m pc ls []) :=
  W.widen h1 h2 (W.vret C.1 C.2.1 hr (fun t ht hW => ⟨⟨bs, rfl, hp, by rw [ht]; exact G.2.1, va_K.moved hW.alike G.1, G.2.2.1⟩, G.2.2.2.1.F ht⟩) G.2.2.2.1.2.2 hdg hlocks)
theorem z_aret {post : Option Nat → List va_W → Prop} {r : Option Nat} {rt : FieldType} (C : CallFix p m c cc nL s args zT own) (hr : meth.sig.returnType = some rt) (hrt : (∃ n, rt = .object n) ∨ ∃ t, rt = .array t) (hlocks : meth.locks = false) (G : zS T A s.heap s bs H locs) (h1 : cells ≤ mc) (h2 : slots ≤ ms) (hdg : decode cc pc = .ok (.areturn, 1)) (hp : post r bs) : W p l e R s m args below meth c H locs cells slots (MQ below (va_Qq post (zB T A) A) args s mc ms A) (F0 m pc ls [va_rf r]) :=
  W.widen h1 h2 (W.aret C.1 C.2.1 hr hrt (va_rf_or r) (fun t ht hW => ⟨⟨r, bs, rfl, hp, by rw [ht]; exact G.2.1, va_K.moved hW.alike G.1, G.2.2.1⟩, G.2.2.2.1.F ht⟩) G.2.2.2.1.2.2 hdg hlocks)
theorem zMi_of {y : MethodName} {b : ByteArray} {n : Nat} {ret : Option FieldType} {d : Nat} {av : List Value} {post : Int32 → List va_W → Prop} (hy : plainName y.cls = true) (ho : y.cls = own) (hlen : (lg_sl av).length ≤ n) (k : zBody l T y own b n ret d mc ms av bs (fun A => va_Qi post (zB T A) A)) : zMi l T y b n ret d mc ms av bs post := z_body (Qc := fun A => va_Qi post (zB T A) A) hy ho hlen k
theorem zMv_of {y : MethodName} {b : ByteArray} {n : Nat} {d : Nat} {av : List Value} {post : List va_W → Prop} (hy : plainName y.cls = true) (ho : y.cls = own) (hlen : (lg_sl av).length ≤ n) (k : zBody l T y own b n none d mc ms av bs (fun A => va_Qv post (zB T A) A)) : zMv l T y b n d mc ms av bs post := z_body (Qc := fun A => va_Qv post (zB T A) A) hy ho hlen k
theorem zMq_of {y : MethodName} {b : ByteArray} {n : Nat} {ret : Option FieldType} {d : Nat} {av : List Value} {post : Option Nat → List va_W → Prop} (hy : plainName y.cls = true) (ho : y.cls = own) (hlen : (lg_sl av).length ≤ n) (k : zBody l T y own b n ret d mc ms av bs (fun A => va_Qq post (zB T A) A)) : zMq l T y b n ret d mc ms av bs post := z_body (Qc := fun A => va_Qq post (zB T A) A) hy ho hlen k
end ZE
end
section
section ZL
variable {p : Program} {l : Launch} {e : Env} {R : Room} {s : State} {m : MethodId} {args : Array Value} {below : List Frame} {meth : Method} {c : Code} {cells slots : Nat} {Q : State → Prop}
variable {nL : Nat} {T : zTy} {A : Nat → Prop} {H0 : Heap}
theorem z_loop {α : Type} (pc : Nat) (Wd : α → List va_W) (Lv : α → List (Nat × Value)) (Inv : α → Prop) (mu : α → Nat)
    (step : ∀ a : α, Inv a → (∀ b : α, Inv b → mu b < mu a → ∀ (H : Heap) (locs : List Loc) (ls : Array Slot), zS T A H0 s (Wd b) H locs → lv_has ls nL (Lv b) → W p l e R s m args below meth c H locs cells slots Q (F0 m pc ls [])) → ∀ (H : Heap) (locs : List Loc) (ls : Array Slot), zS T A H0 s (Wd a) H locs → lv_has ls nL (Lv a) → W p l e R s m args below meth c H locs cells slots Q (F0 m pc ls []))
    (a : α) (ha : Inv a) {H : Heap} {locs : List Loc} {ls : Array Slot} (G : zS T A H0 s (Wd a) H locs) (hl : lv_has ls nL (Lv a)) : W p l e R s m args below meth c H locs cells slots Q (F0 m pc ls []) := by
  have key : ∀ (n : Nat) (a : α), mu a < n → Inv a → ∀ (H : Heap) (locs : List Loc) (ls : Array Slot), zS T A H0 s (Wd a) H locs → lv_has ls nL (Lv a) → W p l e R s m args below meth c H locs cells slots Q (F0 m pc ls []) := by
    intro n
    induction n with
    | zero => intro a h; exact absurd h (Nat.not_lt_zero _)
    | succ n ih => intro a h ha; exact step a ha (fun b hb hlt => ih b (by omega) hb)
  exact key (mu a + 1) a (Nat.lt_succ_self _) ha H locs ls G hl
end ZL
theorem zmems {ws : List Cond} (ps : List Nat) (hp : ws = ps.filterMap (fun i => lw_tbl[i]?)) (h : ws.all goodWord = true) : ∀ w ∈ ws, w ∈ zT := by
  intro w hw
  have h1 := List.all_eq_true.mp h w hw
  rw [hp] at hw
  obtain ⟨i, -, hi⟩ := List.mem_filterMap.mp hw
  exact List.mem_filter.mpr ⟨List.mem_of_getElem? hi, h1⟩
theorem z_inc (a n : Nat) : nI a + Int32.ofInt n = nI (a + n) := by
  rw [← nI_add]
  congr 1
theorem z_iaddn {x y : Int32} (a b : Nat) (hx : x = nI a) (hy : y = nI b) : x + y = nI (a + b) := by rw [hx, hy, nI_add]
theorem z_imuln {x y : Int32} (a b : Nat) (hx : x = nI a) (hy : y = nI b) : x * y = nI (a * b) := by rw [hx, hy, pk_mul]
theorem fa_lt (a b : Int32) : a < b ↔ a.toInt < b.toInt := Int32.lt_iff_toInt_lt
theorem fa_le (a b : Int32) : a ≤ b ↔ a.toInt ≤ b.toInt := Int32.le_iff_toInt_le
theorem fa_eq (a b : Int32) : a = b ↔ a.toInt = b.toInt := Int32.toInt_inj.symm
end
section
theorem zmem1 {L : List Cond} {w : Cond} (hL : ∀ w ∈ L, w ∈ lw_tbl) (i : Nat) (h : L[i]? = some w) (hg : goodWord w = true) : w ∈ zT := List.mem_filter.mpr ⟨hL w (List.mem_of_getElem? h), hg⟩
theorem zsub_1 : ∀ w ∈ tables_1_1, w ∈ lw_tbl := fun w h => List.mem_append_right _ (List.mem_append_left _ h)
theorem zsub_2 : ∀ w ∈ tables_1_2, w ∈ lw_tbl := fun w h => List.mem_append_right _ (List.mem_append_right _ (List.mem_append_left _ h))
theorem zsub_3 : ∀ w ∈ tables_1_3, w ∈ lw_tbl := fun w h => List.mem_append_right _ (List.mem_append_right _ (List.mem_append_right _ (List.mem_append_left _ h)))
theorem zsub_4 : ∀ w ∈ tables_1_4, w ∈ lw_tbl := fun w h => List.mem_append_right _ (List.mem_append_right _ (List.mem_append_right _ (List.mem_append_right _ (List.mem_append_left _ h))))
theorem zsub_5 : ∀ w ∈ tables_1_5, w ∈ lw_tbl := fun w h => List.mem_append_right _ (List.mem_append_right _ (List.mem_append_right _ (List.mem_append_right _ (List.mem_append_right _ (List.mem_append_left _ h)))))
theorem zsub_6 : ∀ w ∈ tables_1_6, w ∈ lw_tbl := fun w h => List.mem_append_right _ (List.mem_append_right _ (List.mem_append_right _ (List.mem_append_right _ (List.mem_append_right _ (List.mem_append_right _ (List.mem_append_left _ h))))))
theorem zsub_7 : ∀ w ∈ tables_1_7, w ∈ lw_tbl := fun w h => List.mem_append_right _ (List.mem_append_right _ (List.mem_append_right _ (List.mem_append_right _ (List.mem_append_right _ (List.mem_append_right _ (List.mem_append_right _ (List.mem_append_left _ h)))))))
theorem zsub_8 : ∀ w ∈ tables_1_8, w ∈ lw_tbl := fun w h => List.mem_append_right _ (List.mem_append_right _ (List.mem_append_right _ (List.mem_append_right _ (List.mem_append_right _ (List.mem_append_right _ (List.mem_append_right _ (List.mem_append_right _ h)))))))
theorem clX0 : zCl 0 RX0 TX0 10 tyX0 := ⟨rfl, zmems [472, 474, 476, 478, 480, 482, 484, 486, 488, 490] (by decide +kernel) (by decide +kernel), tyX0_ok, nmX0⟩
theorem clX1 : zCl 1 RX1 TX1 11 tyX1 := ⟨rfl, zmems [389, 391, 393, 395, 397, 399, 401, 403, 405, 407, 409] (by decide +kernel) (by decide +kernel), tyX1_ok, nmX1⟩
theorem clX2 : zCl 2 RX2 TX2 4 tyX2 := ⟨rfl, zmems [211, 213, 215, 217] (by decide +kernel) (by decide +kernel), tyX2_ok, nmX2⟩
theorem clX3 : zCl 3 RX3 TX3 8 tyX3 := ⟨rfl, zmems [512, 514, 516, 518, 520, 522, 524, 526] (by decide +kernel) (by decide +kernel), tyX3_ok, nmX3⟩
theorem clX4 : zCl 4 RX4 TX4 6 tyX4 := ⟨rfl, zmems [179, 181, 183, 185, 187, 189] (by decide +kernel) (by decide +kernel), tyX4_ok, nmX4⟩
theorem clX5 : zCl 5 RX5 TX5 3 tyX5 := ⟨rfl, zmems [234, 236, 238] (by decide +kernel) (by decide +kernel), tyX5_ok, nmX5⟩
theorem clX6 : zCl 6 RX6 TX6 6 tyX6 := ⟨rfl, zmems [352, 354, 356, 358, 360, 362] (by decide +kernel) (by decide +kernel), tyX6_ok, nmX6⟩
theorem clX7 : zCl 7 RX7 TX7 13 tyX7 := ⟨rfl, zmems [302, 304, 306, 308, 310, 312, 314, 316, 318, 320, 322, 324, 326] (by decide +kernel) (by decide +kernel), tyX7_ok, nmX7⟩
theorem clX9 : zCl 8 RX9 TX9 8 tyX9 := ⟨rfl, zmems [254, 256, 258, 260, 262, 264, 266, 268] (by decide +kernel) (by decide +kernel), tyX9_ok, nmX9⟩
theorem clX10 : zCl 9 RX10 TX10 8 tyX10 := ⟨rfl, zmems [433, 435, 437, 439, 441, 443, 445, 447] (by decide +kernel) (by decide +kernel), tyX10_ok, nmX10⟩
theorem clX11 : zCl 10 RX11 TX11 11 tyX11 := ⟨rfl, zmems [540, 542, 544, 546, 548, 550, 552, 554, 556, 558, 560] (by decide +kernel) (by decide +kernel), tyX11_ok, nmX11⟩
theorem clX12 : zCl 11 RX12 TX12 43 tyX12 := ⟨rfl, zmems [1351, 1353, 1355, 1357, 1359, 1361, 1363, 1365, 1367, 1369, 1371, 1373, 1375, 1377, 1379, 1381, 1383, 1385, 1387, 1389, 1391, 1393, 1395, 1397, 1399, 1401, 1403, 1405, 1407, 1409, 1411, 1413, 1415, 1417, 1419, 1421, 1423, 1425, 1427, 1429, 1431, 1433, 1435] (by decide +kernel) (by decide +kernel), tyX12_ok, nmX12⟩
theorem z_uint {s : State} : ∀ x y : ClassId, va_RA s x .int → va_RA s y .int → x = y := fun x y h1 h2 => Option.some.inj (h1.symm.trans h2)
theorem z_ubyte {s : State} : ∀ x y : ClassId, va_RA s x .byte → va_RA s y .byte → x = y := fun x y h1 h2 => Option.some.inj (h1.symm.trans h2)
theorem z_uboolean {s : State} : ∀ x y : ClassId, va_RA s x .boolean → va_RA s y .boolean → x = y := fun x y h1 h2 => Option.some.inj (h1.symm.trans h2)
theorem m_im_obj : Cond.instanceMethod objectInit ∈ zT := zmem 139 (by decide +kernel) (by decide +kernel)
theorem m_co_obj : Cond.code objectInit ⟨#[0xb1]⟩ 1 none ∈ zT := zmem 140 (by decide +kernel) (by decide +kernel)
end
section
theorem m_ml_RX4_3 : Cond.methodLink RX4 3 objectInit ∈ zT := zmem1 zsub_1 40 (by decide +kernel) (by decide +kernel)
theorem m_ar_int : Cond.arrayClass .int ∈ zT := zmem1 zsub_1 80 (by decide +kernel) (by decide +kernel)
theorem m_fl_RX4_9 : Cond.fieldLink RX4 9 (TX4 2).1 (TX4 2).2.1 (TX4 2).2.2.1 ∈ zT := zmem1 zsub_1 52 (by decide +kernel) (by decide +kernel)
theorem m_fl_RX4_15 : Cond.fieldLink RX4 15 (TX4 3).1 (TX4 3).2.1 (TX4 3).2.2.1 ∈ zT := zmem1 zsub_1 54 (by decide +kernel) (by decide +kernel)
theorem m_fl_RX4_18 : Cond.fieldLink RX4 18 (TX4 4).1 (TX4 4).2.1 (TX4 4).2.2.1 ∈ zT := zmem1 zsub_1 56 (by decide +kernel) (by decide +kernel)
theorem m_fl_RX4_21 : Cond.fieldLink RX4 21 (TX4 5).1 (TX4 5).2.1 (TX4 5).2.2.1 ∈ zT := zmem1 zsub_1 63 (by decide +kernel) (by decide +kernel)
theorem m_ml_RX2_3 : Cond.methodLink RX2 3 objectInit ∈ zT := zmem1 zsub_1 87 (by decide +kernel) (by decide +kernel)
theorem m_fl_RX2_9 : Cond.fieldLink RX2 9 (TX2 1).1 (TX2 1).2.1 (TX2 1).2.2.1 ∈ zT := zmem1 zsub_1 92 (by decide +kernel) (by decide +kernel)
theorem m_fl_RX2_15 : Cond.fieldLink RX2 15 (TX2 2).1 (TX2 2).2.1 (TX2 2).2.2.1 ∈ zT := zmem1 zsub_1 94 (by decide +kernel) (by decide +kernel)
theorem m_fl_RX2_18 : Cond.fieldLink RX2 18 (TX2 3).1 (TX2 3).2.1 (TX2 3).2.2.1 ∈ zT := zmem1 zsub_1 96 (by decide +kernel) (by decide +kernel)
theorem m_ml_RX5_3 : Cond.methodLink RX5 3 objectInit ∈ zT := zmem1 zsub_1 113 (by decide +kernel) (by decide +kernel)
theorem m_fl_RX5_9 : Cond.fieldLink RX5 9 (TX5 1).1 (TX5 1).2.1 (TX5 1).2.2.1 ∈ zT := zmem1 zsub_1 117 (by decide +kernel) (by decide +kernel)
theorem m_fl_RX5_15 : Cond.fieldLink RX5 15 (TX5 2).1 (TX5 2).2.1 (TX5 2).2.2.1 ∈ zT := zmem1 zsub_1 119 (by decide +kernel) (by decide +kernel)
theorem m_ml_RX9_3 : Cond.methodLink RX9 3 objectInit ∈ zT := zmem1 zsub_1 33 (by decide +kernel) (by decide +kernel)
theorem m_ar_byte : Cond.arrayClass .byte ∈ zT := zmem1 zsub_1 79 (by decide +kernel) (by decide +kernel)
theorem m_fl_RX9_9 : Cond.fieldLink RX9 9 (TX9 0).1 (TX9 0).2.1 (TX9 0).2.2.1 ∈ zT := zmem1 zsub_1 128 (by decide +kernel) (by decide +kernel)
theorem m_fl_RX9_15 : Cond.fieldLink RX9 15 (TX9 3).1 (TX9 3).2.1 (TX9 3).2.2.1 ∈ zT := zmem1 zsub_1 134 (by decide +kernel) (by decide +kernel)
theorem m_fl_RX9_19 : Cond.fieldLink RX9 19 (TX9 4).1 (TX9 4).2.1 (TX9 4).2.2.1 ∈ zT := zmem1 zsub_1 136 (by decide +kernel) (by decide +kernel)
theorem m_cl_RX9_23 : Cond.classLink RX9 23 RX4 ∈ zT := zmem1 zsub_1 34 (by decide +kernel) (by decide +kernel)
theorem m_in_RX4 : Cond.instantiable RX4 6 ∈ zT := zmem1 zsub_1 36 (by decide +kernel) (by decide +kernel)
theorem m_ii_RX4 : Cond.initialized RX4 ∈ zT := zmem1 zsub_1 3 (by decide +kernel) (by decide +kernel)
theorem m_co_X4_init : Cond.code yX4_init cX4_init 1 none ∈ zT := zmem1 zsub_1 39 (by decide +kernel) (by decide +kernel)
theorem m_im_X4_init : Cond.instanceMethod yX4_init ∈ zT := zmem1 zsub_1 38 (by decide +kernel) (by decide +kernel)
theorem m_fl_RX9_26 : Cond.fieldLink RX9 26 (TX9 5).1 (TX9 5).2.1 (TX9 5).2.2.1 ∈ zT := zmem1 zsub_1 138 (by decide +kernel) (by decide +kernel)
theorem m_cl_RX9_30 : Cond.classLink RX9 30 RX2 ∈ zT := zmem1 zsub_1 81 (by decide +kernel) (by decide +kernel)
theorem m_in_RX2 : Cond.instantiable RX2 4 ∈ zT := zmem1 zsub_1 83 (by decide +kernel) (by decide +kernel)
theorem m_ii_RX2 : Cond.initialized RX2 ∈ zT := zmem1 zsub_1 4 (by decide +kernel) (by decide +kernel)
theorem m_co_X2_init : Cond.code yX2_init cX2_init 1 none ∈ zT := zmem1 zsub_1 86 (by decide +kernel) (by decide +kernel)
theorem m_im_X2_init : Cond.instanceMethod yX2_init ∈ zT := zmem1 zsub_1 85 (by decide +kernel) (by decide +kernel)
theorem m_fl_RX9_33 : Cond.fieldLink RX9 33 (TX9 6).1 (TX9 6).2.1 (TX9 6).2.2.1 ∈ zT := zmem1 zsub_1 139 (by decide +kernel) (by decide +kernel)
theorem m_cl_RX9_37 : Cond.classLink RX9 37 RX5 ∈ zT := zmem1 zsub_1 107 (by decide +kernel) (by decide +kernel)
theorem m_in_RX5 : Cond.instantiable RX5 3 ∈ zT := zmem1 zsub_1 109 (by decide +kernel) (by decide +kernel)
theorem m_ii_RX5 : Cond.initialized RX5 ∈ zT := zmem1 zsub_1 5 (by decide +kernel) (by decide +kernel)
theorem m_co_X5_init : Cond.code yX5_init cX5_init 1 none ∈ zT := zmem1 zsub_1 112 (by decide +kernel) (by decide +kernel)
theorem m_im_X5_init : Cond.instanceMethod yX5_init ∈ zT := zmem1 zsub_1 111 (by decide +kernel) (by decide +kernel)
theorem m_fl_RX9_40 : Cond.fieldLink RX9 40 (TX9 7).1 (TX9 7).2.1 (TX9 7).2.2.1 ∈ zT := zmem1 zsub_1 140 (by decide +kernel) (by decide +kernel)
theorem m_ml_RX7_3 : Cond.methodLink RX7 3 objectInit ∈ zT := zmem1 zsub_1 164 (by decide +kernel) (by decide +kernel)
theorem m_cl_RX7_9 : Cond.classLink RX7 9 RX4 ∈ zT := zmem1 zsub_1 165 (by decide +kernel) (by decide +kernel)
theorem m_fl_RX7_12 : Cond.fieldLink RX7 12 (TX7 0).1 (TX7 0).2.1 (TX7 0).2.2.1 ∈ zT := zmem1 zsub_1 171 (by decide +kernel) (by decide +kernel)
theorem m_cl_RX7_18 : Cond.classLink RX7 18 RX2 ∈ zT := zmem1 zsub_1 167 (by decide +kernel) (by decide +kernel)
theorem m_fl_RX7_21 : Cond.fieldLink RX7 21 (TX7 1).1 (TX7 1).2.1 (TX7 1).2.2.1 ∈ zT := zmem1 zsub_1 173 (by decide +kernel) (by decide +kernel)
theorem m_cl_RX7_25 : Cond.classLink RX7 25 RX5 ∈ zT := zmem1 zsub_1 169 (by decide +kernel) (by decide +kernel)
theorem m_fl_RX7_28 : Cond.fieldLink RX7 28 (TX7 2).1 (TX7 2).2.1 (TX7 2).2.2.1 ∈ zT := zmem1 zsub_1 175 (by decide +kernel) (by decide +kernel)
theorem m_fl_RX7_32 : Cond.fieldLink RX7 32 (TX7 5).1 (TX7 5).2.1 (TX7 5).2.2.1 ∈ zT := zmem1 zsub_1 181 (by decide +kernel) (by decide +kernel)
theorem m_ml_RX6_3 : Cond.methodLink RX6 3 objectInit ∈ zT := zmem1 zsub_1 222 (by decide +kernel) (by decide +kernel)
theorem m_cl_RX6_9 : Cond.classLink RX6 9 RX4 ∈ zT := zmem1 zsub_1 223 (by decide +kernel) (by decide +kernel)
theorem m_fl_RX6_12 : Cond.fieldLink RX6 12 (TX6 0).1 (TX6 0).2.1 (TX6 0).2.2.1 ∈ zT := zmem1 zsub_1 225 (by decide +kernel) (by decide +kernel)
theorem m_fl_RX6_18 : Cond.fieldLink RX6 18 (TX6 1).1 (TX6 1).2.1 (TX6 1).2.2.1 ∈ zT := zmem1 zsub_1 227 (by decide +kernel) (by decide +kernel)
theorem m_fl_RX6_22 : Cond.fieldLink RX6 22 (TX6 2).1 (TX6 2).2.1 (TX6 2).2.2.1 ∈ zT := zmem1 zsub_1 231 (by decide +kernel) (by decide +kernel)
theorem m_fl_RX6_25 : Cond.fieldLink RX6 25 (TX6 5).1 (TX6 5).2.1 (TX6 5).2.2.1 ∈ zT := zmem1 zsub_1 238 (by decide +kernel) (by decide +kernel)
theorem m_ml_RX10_3 : Cond.methodLink RX10 3 objectInit ∈ zT := zmem1 zsub_2 64 (by decide +kernel) (by decide +kernel)
theorem m_cl_RX10_9 : Cond.classLink RX10 9 RX6 ∈ zT := zmem1 zsub_2 65 (by decide +kernel) (by decide +kernel)
theorem m_in_RX6 : Cond.instantiable RX6 6 ∈ zT := zmem1 zsub_1 218 (by decide +kernel) (by decide +kernel)
theorem m_ii_RX6 : Cond.initialized RX6 ∈ zT := zmem1 zsub_1 7 (by decide +kernel) (by decide +kernel)
theorem m_co_X6_init : Cond.code yX6_init cX6_init 1 none ∈ zT := zmem1 zsub_1 221 (by decide +kernel) (by decide +kernel)
theorem m_im_X6_init : Cond.instanceMethod yX6_init ∈ zT := zmem1 zsub_1 220 (by decide +kernel) (by decide +kernel)
theorem m_fl_RX10_12 : Cond.fieldLink RX10 12 (TX10 0).1 (TX10 0).2.1 (TX10 0).2.2.1 ∈ zT := zmem1 zsub_2 67 (by decide +kernel) (by decide +kernel)
theorem m_fl_RX10_18 : Cond.fieldLink RX10 18 (TX10 1).1 (TX10 1).2.1 (TX10 1).2.2.1 ∈ zT := zmem1 zsub_2 68 (by decide +kernel) (by decide +kernel)
theorem m_fl_RX10_22 : Cond.fieldLink RX10 22 (TX10 2).1 (TX10 2).2.1 (TX10 2).2.2.1 ∈ zT := zmem1 zsub_2 70 (by decide +kernel) (by decide +kernel)
theorem m_ml_RX1_3 : Cond.methodLink RX1 3 objectInit ∈ zT := zmem1 zsub_2 17 (by decide +kernel) (by decide +kernel)
theorem m_cl_RX1_9 : Cond.classLink RX1 9 RX6 ∈ zT := zmem1 zsub_2 18 (by decide +kernel) (by decide +kernel)
theorem m_fl_RX1_12 : Cond.fieldLink RX1 12 (TX1 0).1 (TX1 0).2.1 (TX1 0).2.2.1 ∈ zT := zmem1 zsub_2 22 (by decide +kernel) (by decide +kernel)
theorem m_fl_RX1_18 : Cond.fieldLink RX1 18 (TX1 1).1 (TX1 1).2.1 (TX1 1).2.2.1 ∈ zT := zmem1 zsub_2 24 (by decide +kernel) (by decide +kernel)
theorem m_cl_RX1_22 : Cond.classLink RX1 22 RX4 ∈ zT := zmem1 zsub_2 20 (by decide +kernel) (by decide +kernel)
theorem m_fl_RX1_25 : Cond.fieldLink RX1 25 (TX1 3).1 (TX1 3).2.1 (TX1 3).2.2.1 ∈ zT := zmem1 zsub_2 28 (by decide +kernel) (by decide +kernel)
theorem m_ml_RX0_5 : Cond.methodLink RX0 5 objectInit ∈ zT := zmem1 zsub_2 102 (by decide +kernel) (by decide +kernel)
theorem m_cl_RX0_11 : Cond.classLink RX0 11 RX4 ∈ zT := zmem1 zsub_2 103 (by decide +kernel) (by decide +kernel)
theorem m_fl_RX0_14 : Cond.fieldLink RX0 14 (TX0 2).1 (TX0 2).2.1 (TX0 2).2.2.1 ∈ zT := zmem1 zsub_2 110 (by decide +kernel) (by decide +kernel)
theorem m_fl_RX0_18 : Cond.fieldLink RX0 18 (TX0 4).1 (TX0 4).2.1 (TX0 4).2.2.1 ∈ zT := zmem1 zsub_2 113 (by decide +kernel) (by decide +kernel)
theorem m_fl_RX0_22 : Cond.fieldLink RX0 22 (TX0 5).1 (TX0 5).2.1 (TX0 5).2.2.1 ∈ zT := zmem1 zsub_2 114 (by decide +kernel) (by decide +kernel)
theorem m_fl_RX0_25 : Cond.fieldLink RX0 25 (TX0 6).1 (TX0 6).2.1 (TX0 6).2.2.1 ∈ zT := zmem1 zsub_2 115 (by decide +kernel) (by decide +kernel)
theorem m_fl_RX0_28 : Cond.fieldLink RX0 28 (TX0 7).1 (TX0 7).2.1 (TX0 7).2.2.1 ∈ zT := zmem1 zsub_2 116 (by decide +kernel) (by decide +kernel)
theorem m_fl_RX0_31 : Cond.fieldLink RX0 31 (TX0 8).1 (TX0 8).2.1 (TX0 8).2.2.1 ∈ zT := zmem1 zsub_2 117 (by decide +kernel) (by decide +kernel)
theorem m_fl_RX0_34 : Cond.fieldLink RX0 34 (TX0 9).1 (TX0 9).2.1 (TX0 9).2.2.1 ∈ zT := zmem1 zsub_2 118 (by decide +kernel) (by decide +kernel)
theorem m_ml_RX3_5 : Cond.methodLink RX3 5 objectInit ∈ zT := zmem1 zsub_2 145 (by decide +kernel) (by decide +kernel)
theorem m_fl_RX3_11 : Cond.fieldLink RX3 11 (TX3 1).1 (TX3 1).2.1 (TX3 1).2.2.1 ∈ zT := zmem1 zsub_2 147 (by decide +kernel) (by decide +kernel)
theorem m_fl_RX3_15 : Cond.fieldLink RX3 15 (TX3 2).1 (TX3 2).2.1 (TX3 2).2.2.1 ∈ zT := zmem1 zsub_2 149 (by decide +kernel) (by decide +kernel)
theorem m_fl_RX3_18 : Cond.fieldLink RX3 18 (TX3 6).1 (TX3 6).2.1 (TX3 6).2.2.1 ∈ zT := zmem1 zsub_2 157 (by decide +kernel) (by decide +kernel)
theorem m_fl_RX3_22 : Cond.fieldLink RX3 22 (TX3 7).1 (TX3 7).2.1 (TX3 7).2.2.1 ∈ zT := zmem1 zsub_2 158 (by decide +kernel) (by decide +kernel)
theorem kJ_RX9_25 {R : Room} {s : State} {args : Array Value} {d mc ms : Nat} (hX : zX s) (hts : ∀ w ∈ zT, w.before args s = true) (h1 : d + 1 ≤ R.frames) (h2 : 8 + (1 + 11) + 40 * d ≤ R.locals) : va_CN R s args RX9 25 yX4_init RX11 cX4_init 1 none (zW yX4_init cX4_init 1 none) (zR d mc ms) mc ms 0 ∧ yX4_init.name = "<init>" ∧ (Cond.instanceMethod yX4_init).before args s = true := z_cwJ hts m_co_X4_init (hX.1 (RX9, 25, yX4_init, RX11) (List.mem_of_getElem? (i := 14) rfl)) m_im_X4_init m_ii_RX4 rfl (by decide +kernel) h1 h2
theorem kJ_RX9_32 {R : Room} {s : State} {args : Array Value} {d mc ms : Nat} (hX : zX s) (hts : ∀ w ∈ zT, w.before args s = true) (h1 : d + 1 ≤ R.frames) (h2 : 8 + (1 + 11) + 40 * d ≤ R.locals) : va_CN R s args RX9 32 yX2_init RX11 cX2_init 1 none (zW yX2_init cX2_init 1 none) (zR d mc ms) mc ms 0 ∧ yX2_init.name = "<init>" ∧ (Cond.instanceMethod yX2_init).before args s = true := z_cwJ hts m_co_X2_init (hX.1 (RX9, 32, yX2_init, RX11) (List.mem_of_getElem? (i := 15) rfl)) m_im_X2_init m_ii_RX2 rfl (by decide +kernel) h1 h2
theorem kJ_RX9_39 {R : Room} {s : State} {args : Array Value} {d mc ms : Nat} (hX : zX s) (hts : ∀ w ∈ zT, w.before args s = true) (h1 : d + 1 ≤ R.frames) (h2 : 8 + (1 + 11) + 40 * d ≤ R.locals) : va_CN R s args RX9 39 yX5_init RX11 cX5_init 1 none (zW yX5_init cX5_init 1 none) (zR d mc ms) mc ms 0 ∧ yX5_init.name = "<init>" ∧ (Cond.instanceMethod yX5_init).before args s = true := z_cwJ hts m_co_X5_init (hX.1 (RX9, 39, yX5_init, RX11) (List.mem_of_getElem? (i := 16) rfl)) m_im_X5_init m_ii_RX5 rfl (by decide +kernel) h1 h2
theorem kJ_RX7_11 {R : Room} {s : State} {args : Array Value} {d mc ms : Nat} (hX : zX s) (hts : ∀ w ∈ zT, w.before args s = true) (h1 : d + 1 ≤ R.frames) (h2 : 8 + (1 + 11) + 40 * d ≤ R.locals) : va_CN R s args RX7 11 yX4_init RX11 cX4_init 1 none (zW yX4_init cX4_init 1 none) (zR d mc ms) mc ms 0 ∧ yX4_init.name = "<init>" ∧ (Cond.instanceMethod yX4_init).before args s = true := z_cwJ hts m_co_X4_init (hX.1 (RX7, 11, yX4_init, RX11) (List.mem_of_getElem? (i := 11) rfl)) m_im_X4_init m_ii_RX4 rfl (by decide +kernel) h1 h2
theorem kJ_RX7_20 {R : Room} {s : State} {args : Array Value} {d mc ms : Nat} (hX : zX s) (hts : ∀ w ∈ zT, w.before args s = true) (h1 : d + 1 ≤ R.frames) (h2 : 8 + (1 + 11) + 40 * d ≤ R.locals) : va_CN R s args RX7 20 yX2_init RX11 cX2_init 1 none (zW yX2_init cX2_init 1 none) (zR d mc ms) mc ms 0 ∧ yX2_init.name = "<init>" ∧ (Cond.instanceMethod yX2_init).before args s = true := z_cwJ hts m_co_X2_init (hX.1 (RX7, 20, yX2_init, RX11) (List.mem_of_getElem? (i := 12) rfl)) m_im_X2_init m_ii_RX2 rfl (by decide +kernel) h1 h2
theorem kJ_RX7_27 {R : Room} {s : State} {args : Array Value} {d mc ms : Nat} (hX : zX s) (hts : ∀ w ∈ zT, w.before args s = true) (h1 : d + 1 ≤ R.frames) (h2 : 8 + (1 + 11) + 40 * d ≤ R.locals) : va_CN R s args RX7 27 yX5_init RX11 cX5_init 1 none (zW yX5_init cX5_init 1 none) (zR d mc ms) mc ms 0 ∧ yX5_init.name = "<init>" ∧ (Cond.instanceMethod yX5_init).before args s = true := z_cwJ hts m_co_X5_init (hX.1 (RX7, 27, yX5_init, RX11) (List.mem_of_getElem? (i := 13) rfl)) m_im_X5_init m_ii_RX5 rfl (by decide +kernel) h1 h2
theorem kJ_RX6_11 {R : Room} {s : State} {args : Array Value} {d mc ms : Nat} (hX : zX s) (hts : ∀ w ∈ zT, w.before args s = true) (h1 : d + 1 ≤ R.frames) (h2 : 8 + (1 + 11) + 40 * d ≤ R.locals) : va_CN R s args RX6 11 yX4_init RX11 cX4_init 1 none (zW yX4_init cX4_init 1 none) (zR d mc ms) mc ms 0 ∧ yX4_init.name = "<init>" ∧ (Cond.instanceMethod yX4_init).before args s = true := z_cwJ hts m_co_X4_init (hX.1 (RX6, 11, yX4_init, RX11) (List.mem_of_getElem? (i := 10) rfl)) m_im_X4_init m_ii_RX4 rfl (by decide +kernel) h1 h2
theorem kJ_RX10_11 {R : Room} {s : State} {args : Array Value} {d mc ms : Nat} (hX : zX s) (hts : ∀ w ∈ zT, w.before args s = true) (h1 : d + 1 ≤ R.frames) (h2 : 8 + (1 + 11) + 40 * d ≤ R.locals) : va_CN R s args RX10 11 yX6_init RX11 cX6_init 1 none (zW yX6_init cX6_init 1 none) (zR d mc ms) mc ms 0 ∧ yX6_init.name = "<init>" ∧ (Cond.instanceMethod yX6_init).before args s = true := z_cwJ hts m_co_X6_init (hX.1 (RX10, 11, yX6_init, RX11) (List.mem_of_getElem? (i := 17) rfl)) m_im_X6_init m_ii_RX6 rfl (by decide +kernel) h1 h2
theorem kJ_RX1_11 {R : Room} {s : State} {args : Array Value} {d mc ms : Nat} (hX : zX s) (hts : ∀ w ∈ zT, w.before args s = true) (h1 : d + 1 ≤ R.frames) (h2 : 8 + (1 + 11) + 40 * d ≤ R.locals) : va_CN R s args RX1 11 yX6_init RX11 cX6_init 1 none (zW yX6_init cX6_init 1 none) (zR d mc ms) mc ms 0 ∧ yX6_init.name = "<init>" ∧ (Cond.instanceMethod yX6_init).before args s = true := z_cwJ hts m_co_X6_init (hX.1 (RX1, 11, yX6_init, RX11) (List.mem_of_getElem? (i := 8) rfl)) m_im_X6_init m_ii_RX6 rfl (by decide +kernel) h1 h2
theorem kJ_RX1_24 {R : Room} {s : State} {args : Array Value} {d mc ms : Nat} (hX : zX s) (hts : ∀ w ∈ zT, w.before args s = true) (h1 : d + 1 ≤ R.frames) (h2 : 8 + (1 + 11) + 40 * d ≤ R.locals) : va_CN R s args RX1 24 yX4_init RX11 cX4_init 1 none (zW yX4_init cX4_init 1 none) (zR d mc ms) mc ms 0 ∧ yX4_init.name = "<init>" ∧ (Cond.instanceMethod yX4_init).before args s = true := z_cwJ hts m_co_X4_init (hX.1 (RX1, 24, yX4_init, RX11) (List.mem_of_getElem? (i := 9) rfl)) m_im_X4_init m_ii_RX4 rfl (by decide +kernel) h1 h2
theorem kJ_RX0_13 {R : Room} {s : State} {args : Array Value} {d mc ms : Nat} (hX : zX s) (hts : ∀ w ∈ zT, w.before args s = true) (h1 : d + 1 ≤ R.frames) (h2 : 8 + (1 + 11) + 40 * d ≤ R.locals) : va_CN R s args RX0 13 yX4_init RX11 cX4_init 1 none (zW yX4_init cX4_init 1 none) (zR d mc ms) mc ms 0 ∧ yX4_init.name = "<init>" ∧ (Cond.instanceMethod yX4_init).before args s = true := z_cwJ hts m_co_X4_init (hX.1 (RX0, 13, yX4_init, RX11) (List.mem_of_getElem? (i := 7) rfl)) m_im_X4_init m_ii_RX4 rfl (by decide +kernel) h1 h2
theorem dX4_init_0 : decode cX4_init 0 = .ok (.aload_n 0, 1) := by decide +kernel
theorem dX4_init_1 : decode cX4_init 1 = .ok (.invokespecial 3, 3) := by decide +kernel
theorem dX4_init_4 : decode cX4_init 4 = .ok (.aload_n 0, 1) := by decide +kernel
theorem dX4_init_5 : decode cX4_init 5 = .ok (.bipush 7, 2) := by decide +kernel
theorem dX4_init_7 : decode cX4_init 7 = .ok (.newarray .int, 2) := by decide +kernel
theorem dX4_init_9 : decode cX4_init 9 = .ok (.putfield 9, 3) := by decide +kernel
theorem dX4_init_12 : decode cX4_init 12 = .ok (.aload_n 0, 1) := by decide +kernel
theorem dX4_init_13 : decode cX4_init 13 = .ok (.bipush 28, 2) := by decide +kernel
theorem dX4_init_15 : decode cX4_init 15 = .ok (.newarray .int, 2) := by decide +kernel
theorem dX4_init_17 : decode cX4_init 17 = .ok (.putfield 15, 3) := by decide +kernel
theorem dX4_init_20 : decode cX4_init 20 = .ok (.aload_n 0, 1) := by decide +kernel
theorem dX4_init_21 : decode cX4_init 21 = .ok (.bipush 7, 2) := by decide +kernel
theorem dX4_init_23 : decode cX4_init 23 = .ok (.newarray .int, 2) := by decide +kernel
theorem dX4_init_25 : decode cX4_init 25 = .ok (.putfield 18, 3) := by decide +kernel
theorem dX4_init_28 : decode cX4_init 28 = .ok (.aload_n 0, 1) := by decide +kernel
theorem dX4_init_29 : decode cX4_init 29 = .ok (.bipush 7, 2) := by decide +kernel
theorem dX4_init_31 : decode cX4_init 31 = .ok (.newarray .int, 2) := by decide +kernel
theorem dX4_init_33 : decode cX4_init 33 = .ok (.putfield 21, 3) := by decide +kernel
theorem dX4_init_36 : decode cX4_init 36 = .ok (.return_, 1) := by decide +kernel
theorem dX2_init_0 : decode cX2_init 0 = .ok (.aload_n 0, 1) := by decide +kernel
theorem dX2_init_1 : decode cX2_init 1 = .ok (.invokespecial 3, 3) := by decide +kernel
theorem dX2_init_4 : decode cX2_init 4 = .ok (.aload_n 0, 1) := by decide +kernel
theorem dX2_init_5 : decode cX2_init 5 = .ok (.bipush 40, 2) := by decide +kernel
theorem dX2_init_7 : decode cX2_init 7 = .ok (.newarray .int, 2) := by decide +kernel
theorem dX2_init_9 : decode cX2_init 9 = .ok (.putfield 9, 3) := by decide +kernel
theorem dX2_init_12 : decode cX2_init 12 = .ok (.aload_n 0, 1) := by decide +kernel
theorem dX2_init_13 : decode cX2_init 13 = .ok (.bipush 40, 2) := by decide +kernel
theorem dX2_init_15 : decode cX2_init 15 = .ok (.newarray .int, 2) := by decide +kernel
theorem dX2_init_17 : decode cX2_init 17 = .ok (.putfield 15, 3) := by decide +kernel
theorem dX2_init_20 : decode cX2_init 20 = .ok (.aload_n 0, 1) := by decide +kernel
theorem dX2_init_21 : decode cX2_init 21 = .ok (.bipush 40, 2) := by decide +kernel
theorem dX2_init_23 : decode cX2_init 23 = .ok (.newarray .int, 2) := by decide +kernel
theorem dX2_init_25 : decode cX2_init 25 = .ok (.putfield 18, 3) := by decide +kernel
theorem dX2_init_28 : decode cX2_init 28 = .ok (.return_, 1) := by decide +kernel
theorem dX5_init_0 : decode cX5_init 0 = .ok (.aload_n 0, 1) := by decide +kernel
theorem dX5_init_1 : decode cX5_init 1 = .ok (.invokespecial 3, 3) := by decide +kernel
theorem dX5_init_4 : decode cX5_init 4 = .ok (.aload_n 0, 1) := by decide +kernel
theorem dX5_init_5 : decode cX5_init 5 = .ok (.bipush 8, 2) := by decide +kernel
theorem dX5_init_7 : decode cX5_init 7 = .ok (.newarray .int, 2) := by decide +kernel
theorem dX5_init_9 : decode cX5_init 9 = .ok (.putfield 9, 3) := by decide +kernel
theorem dX5_init_12 : decode cX5_init 12 = .ok (.aload_n 0, 1) := by decide +kernel
theorem dX5_init_13 : decode cX5_init 13 = .ok (.bipush 8, 2) := by decide +kernel
theorem dX5_init_15 : decode cX5_init 15 = .ok (.newarray .int, 2) := by decide +kernel
theorem dX5_init_17 : decode cX5_init 17 = .ok (.putfield 15, 3) := by decide +kernel
theorem dX5_init_20 : decode cX5_init 20 = .ok (.return_, 1) := by decide +kernel
theorem dX9_init_0 : decode cX9_init 0 = .ok (.aload_n 0, 1) := by decide +kernel
theorem dX9_init_1 : decode cX9_init 1 = .ok (.invokespecial 3, 3) := by decide +kernel
theorem dX9_init_4 : decode cX9_init 4 = .ok (.aload_n 0, 1) := by decide +kernel
theorem dX9_init_5 : decode cX9_init 5 = .ok (.sipush 600, 3) := by decide +kernel
theorem dX9_init_8 : decode cX9_init 8 = .ok (.newarray .byte, 2) := by decide +kernel
theorem dX9_init_10 : decode cX9_init 10 = .ok (.putfield 9, 3) := by decide +kernel
theorem dX9_init_13 : decode cX9_init 13 = .ok (.aload_n 0, 1) := by decide +kernel
theorem dX9_init_14 : decode cX9_init 14 = .ok (.iconst (-1), 1) := by decide +kernel
theorem dX9_init_15 : decode cX9_init 15 = .ok (.putfield 15, 3) := by decide +kernel
theorem dX9_init_18 : decode cX9_init 18 = .ok (.aload_n 0, 1) := by decide +kernel
theorem dX9_init_19 : decode cX9_init 19 = .ok (.iconst 3, 1) := by decide +kernel
theorem dX9_init_20 : decode cX9_init 20 = .ok (.newarray .int, 2) := by decide +kernel
theorem dX9_init_22 : decode cX9_init 22 = .ok (.putfield 19, 3) := by decide +kernel
theorem dX9_init_25 : decode cX9_init 25 = .ok (.aload_n 0, 1) := by decide +kernel
theorem dX9_init_26 : decode cX9_init 26 = .ok (.iconst 2, 1) := by decide +kernel
theorem dX9_init_27 : decode cX9_init 27 = .ok (.anewarray 23, 3) := by decide +kernel
theorem dX9_init_30 : decode cX9_init 30 = .ok (.dup, 1) := by decide +kernel
theorem dX9_init_31 : decode cX9_init 31 = .ok (.iconst 0, 1) := by decide +kernel
theorem dX9_init_32 : decode cX9_init 32 = .ok (.new 23, 3) := by decide +kernel
theorem dX9_init_35 : decode cX9_init 35 = .ok (.dup, 1) := by decide +kernel
theorem dX9_init_36 : decode cX9_init 36 = .ok (.invokespecial 25, 3) := by decide +kernel
theorem dX9_init_39 : decode cX9_init 39 = .ok (.aastore, 1) := by decide +kernel
theorem dX9_init_40 : decode cX9_init 40 = .ok (.dup, 1) := by decide +kernel
theorem dX9_init_41 : decode cX9_init 41 = .ok (.iconst 1, 1) := by decide +kernel
theorem dX9_init_42 : decode cX9_init 42 = .ok (.new 23, 3) := by decide +kernel
theorem dX9_init_45 : decode cX9_init 45 = .ok (.dup, 1) := by decide +kernel
theorem dX9_init_46 : decode cX9_init 46 = .ok (.invokespecial 25, 3) := by decide +kernel
theorem dX9_init_49 : decode cX9_init 49 = .ok (.aastore, 1) := by decide +kernel
theorem dX9_init_50 : decode cX9_init 50 = .ok (.putfield 26, 3) := by decide +kernel
theorem dX9_init_53 : decode cX9_init 53 = .ok (.aload_n 0, 1) := by decide +kernel
theorem dX9_init_54 : decode cX9_init 54 = .ok (.iconst 2, 1) := by decide +kernel
theorem dX9_init_55 : decode cX9_init 55 = .ok (.anewarray 30, 3) := by decide +kernel
theorem dX9_init_58 : decode cX9_init 58 = .ok (.dup, 1) := by decide +kernel
theorem dX9_init_59 : decode cX9_init 59 = .ok (.iconst 0, 1) := by decide +kernel
theorem dX9_init_60 : decode cX9_init 60 = .ok (.new 30, 3) := by decide +kernel
theorem dX9_init_63 : decode cX9_init 63 = .ok (.dup, 1) := by decide +kernel
theorem dX9_init_64 : decode cX9_init 64 = .ok (.invokespecial 32, 3) := by decide +kernel
theorem dX9_init_67 : decode cX9_init 67 = .ok (.aastore, 1) := by decide +kernel
theorem dX9_init_68 : decode cX9_init 68 = .ok (.dup, 1) := by decide +kernel
theorem dX9_init_69 : decode cX9_init 69 = .ok (.iconst 1, 1) := by decide +kernel
theorem dX9_init_70 : decode cX9_init 70 = .ok (.new 30, 3) := by decide +kernel
theorem dX9_init_73 : decode cX9_init 73 = .ok (.dup, 1) := by decide +kernel
theorem dX9_init_74 : decode cX9_init 74 = .ok (.invokespecial 32, 3) := by decide +kernel
theorem dX9_init_77 : decode cX9_init 77 = .ok (.aastore, 1) := by decide +kernel
theorem dX9_init_78 : decode cX9_init 78 = .ok (.putfield 33, 3) := by decide +kernel
theorem dX9_init_81 : decode cX9_init 81 = .ok (.aload_n 0, 1) := by decide +kernel
theorem dX9_init_82 : decode cX9_init 82 = .ok (.iconst 2, 1) := by decide +kernel
theorem dX9_init_83 : decode cX9_init 83 = .ok (.anewarray 37, 3) := by decide +kernel
theorem dX9_init_86 : decode cX9_init 86 = .ok (.dup, 1) := by decide +kernel
theorem dX9_init_87 : decode cX9_init 87 = .ok (.iconst 0, 1) := by decide +kernel
theorem dX9_init_88 : decode cX9_init 88 = .ok (.new 37, 3) := by decide +kernel
theorem dX9_init_91 : decode cX9_init 91 = .ok (.dup, 1) := by decide +kernel
theorem dX9_init_92 : decode cX9_init 92 = .ok (.invokespecial 39, 3) := by decide +kernel
theorem dX9_init_95 : decode cX9_init 95 = .ok (.aastore, 1) := by decide +kernel
theorem dX9_init_96 : decode cX9_init 96 = .ok (.dup, 1) := by decide +kernel
theorem dX9_init_97 : decode cX9_init 97 = .ok (.iconst 1, 1) := by decide +kernel
theorem dX9_init_98 : decode cX9_init 98 = .ok (.new 37, 3) := by decide +kernel
theorem dX9_init_101 : decode cX9_init 101 = .ok (.dup, 1) := by decide +kernel
theorem dX9_init_102 : decode cX9_init 102 = .ok (.invokespecial 39, 3) := by decide +kernel
theorem dX9_init_105 : decode cX9_init 105 = .ok (.aastore, 1) := by decide +kernel
theorem dX9_init_106 : decode cX9_init 106 = .ok (.putfield 40, 3) := by decide +kernel
theorem dX9_init_109 : decode cX9_init 109 = .ok (.return_, 1) := by decide +kernel
theorem dX7_init_0 : decode cX7_init 0 = .ok (.aload_n 0, 1) := by decide +kernel
theorem dX7_init_1 : decode cX7_init 1 = .ok (.invokespecial 3, 3) := by decide +kernel
theorem dX7_init_4 : decode cX7_init 4 = .ok (.aload_n 0, 1) := by decide +kernel
theorem dX7_init_5 : decode cX7_init 5 = .ok (.new 9, 3) := by decide +kernel
theorem dX7_init_8 : decode cX7_init 8 = .ok (.dup, 1) := by decide +kernel
theorem dX7_init_9 : decode cX7_init 9 = .ok (.invokespecial 11, 3) := by decide +kernel
theorem dX7_init_12 : decode cX7_init 12 = .ok (.putfield 12, 3) := by decide +kernel
theorem dX7_init_15 : decode cX7_init 15 = .ok (.aload_n 0, 1) := by decide +kernel
theorem dX7_init_16 : decode cX7_init 16 = .ok (.new 18, 3) := by decide +kernel
theorem dX7_init_19 : decode cX7_init 19 = .ok (.dup, 1) := by decide +kernel
theorem dX7_init_20 : decode cX7_init 20 = .ok (.invokespecial 20, 3) := by decide +kernel
theorem dX7_init_23 : decode cX7_init 23 = .ok (.putfield 21, 3) := by decide +kernel
theorem dX7_init_26 : decode cX7_init 26 = .ok (.aload_n 0, 1) := by decide +kernel
theorem dX7_init_27 : decode cX7_init 27 = .ok (.new 25, 3) := by decide +kernel
theorem dX7_init_30 : decode cX7_init 30 = .ok (.dup, 1) := by decide +kernel
theorem dX7_init_31 : decode cX7_init 31 = .ok (.invokespecial 27, 3) := by decide +kernel
theorem dX7_init_34 : decode cX7_init 34 = .ok (.putfield 28, 3) := by decide +kernel
theorem dX7_init_37 : decode cX7_init 37 = .ok (.aload_n 0, 1) := by decide +kernel
theorem dX7_init_38 : decode cX7_init 38 = .ok (.iconst 0, 1) := by decide +kernel
theorem dX7_init_39 : decode cX7_init 39 = .ok (.newarray .byte, 2) := by decide +kernel
theorem dX7_init_41 : decode cX7_init 41 = .ok (.putfield 32, 3) := by decide +kernel
theorem dX7_init_44 : decode cX7_init 44 = .ok (.return_, 1) := by decide +kernel
theorem dX6_init_0 : decode cX6_init 0 = .ok (.aload_n 0, 1) := by decide +kernel
theorem dX6_init_1 : decode cX6_init 1 = .ok (.invokespecial 3, 3) := by decide +kernel
theorem dX6_init_4 : decode cX6_init 4 = .ok (.aload_n 0, 1) := by decide +kernel
theorem dX6_init_5 : decode cX6_init 5 = .ok (.new 9, 3) := by decide +kernel
theorem dX6_init_8 : decode cX6_init 8 = .ok (.dup, 1) := by decide +kernel
theorem dX6_init_9 : decode cX6_init 9 = .ok (.invokespecial 11, 3) := by decide +kernel
theorem dX6_init_12 : decode cX6_init 12 = .ok (.putfield 12, 3) := by decide +kernel
theorem dX6_init_15 : decode cX6_init 15 = .ok (.aload_n 0, 1) := by decide +kernel
theorem dX6_init_16 : decode cX6_init 16 = .ok (.bipush 7, 2) := by decide +kernel
theorem dX6_init_18 : decode cX6_init 18 = .ok (.newarray .int, 2) := by decide +kernel
theorem dX6_init_20 : decode cX6_init 20 = .ok (.putfield 18, 3) := by decide +kernel
theorem dX6_init_23 : decode cX6_init 23 = .ok (.aload_n 0, 1) := by decide +kernel
theorem dX6_init_24 : decode cX6_init 24 = .ok (.bipush 7, 2) := by decide +kernel
theorem dX6_init_26 : decode cX6_init 26 = .ok (.newarray .int, 2) := by decide +kernel
theorem dX6_init_28 : decode cX6_init 28 = .ok (.putfield 22, 3) := by decide +kernel
theorem dX6_init_31 : decode cX6_init 31 = .ok (.aload_n 0, 1) := by decide +kernel
theorem dX6_init_32 : decode cX6_init 32 = .ok (.bipush 7, 2) := by decide +kernel
theorem dX6_init_34 : decode cX6_init 34 = .ok (.newarray .int, 2) := by decide +kernel
theorem dX6_init_36 : decode cX6_init 36 = .ok (.putfield 25, 3) := by decide +kernel
theorem dX6_init_39 : decode cX6_init 39 = .ok (.return_, 1) := by decide +kernel
theorem dX10_init_0 : decode cX10_init 0 = .ok (.aload_n 0, 1) := by decide +kernel
theorem dX10_init_1 : decode cX10_init 1 = .ok (.invokespecial 3, 3) := by decide +kernel
theorem dX10_init_4 : decode cX10_init 4 = .ok (.aload_n 0, 1) := by decide +kernel
theorem dX10_init_5 : decode cX10_init 5 = .ok (.new 9, 3) := by decide +kernel
theorem dX10_init_8 : decode cX10_init 8 = .ok (.dup, 1) := by decide +kernel
theorem dX10_init_9 : decode cX10_init 9 = .ok (.invokespecial 11, 3) := by decide +kernel
theorem dX10_init_12 : decode cX10_init 12 = .ok (.putfield 12, 3) := by decide +kernel
theorem dX10_init_15 : decode cX10_init 15 = .ok (.aload_n 0, 1) := by decide +kernel
theorem dX10_init_16 : decode cX10_init 16 = .ok (.bipush 7, 2) := by decide +kernel
theorem dX10_init_18 : decode cX10_init 18 = .ok (.newarray .int, 2) := by decide +kernel
theorem dX10_init_20 : decode cX10_init 20 = .ok (.putfield 18, 3) := by decide +kernel
theorem dX10_init_23 : decode cX10_init 23 = .ok (.aload_n 0, 1) := by decide +kernel
theorem dX10_init_24 : decode cX10_init 24 = .ok (.bipush 7, 2) := by decide +kernel
theorem dX10_init_26 : decode cX10_init 26 = .ok (.newarray .int, 2) := by decide +kernel
theorem dX10_init_28 : decode cX10_init 28 = .ok (.putfield 22, 3) := by decide +kernel
theorem dX10_init_31 : decode cX10_init 31 = .ok (.return_, 1) := by decide +kernel
theorem dX1_init_0 : decode cX1_init 0 = .ok (.aload_n 0, 1) := by decide +kernel
theorem dX1_init_1 : decode cX1_init 1 = .ok (.invokespecial 3, 3) := by decide +kernel
theorem dX1_init_4 : decode cX1_init 4 = .ok (.aload_n 0, 1) := by decide +kernel
theorem dX1_init_5 : decode cX1_init 5 = .ok (.new 9, 3) := by decide +kernel
theorem dX1_init_8 : decode cX1_init 8 = .ok (.dup, 1) := by decide +kernel
theorem dX1_init_9 : decode cX1_init 9 = .ok (.invokespecial 11, 3) := by decide +kernel
theorem dX1_init_12 : decode cX1_init 12 = .ok (.putfield 12, 3) := by decide +kernel
theorem dX1_init_15 : decode cX1_init 15 = .ok (.aload_n 0, 1) := by decide +kernel
theorem dX1_init_16 : decode cX1_init 16 = .ok (.bipush 7, 2) := by decide +kernel
theorem dX1_init_18 : decode cX1_init 18 = .ok (.newarray .int, 2) := by decide +kernel
theorem dX1_init_20 : decode cX1_init 20 = .ok (.putfield 18, 3) := by decide +kernel
theorem dX1_init_23 : decode cX1_init 23 = .ok (.aload_n 0, 1) := by decide +kernel
theorem dX1_init_24 : decode cX1_init 24 = .ok (.new 22, 3) := by decide +kernel
theorem dX1_init_27 : decode cX1_init 27 = .ok (.dup, 1) := by decide +kernel
theorem dX1_init_28 : decode cX1_init 28 = .ok (.invokespecial 24, 3) := by decide +kernel
theorem dX1_init_31 : decode cX1_init 31 = .ok (.putfield 25, 3) := by decide +kernel
theorem dX1_init_34 : decode cX1_init 34 = .ok (.return_, 1) := by decide +kernel
theorem dX0_init_0 : decode cX0_init 0 = .ok (.aload_n 0, 1) := by decide +kernel
theorem dX0_init_1 : decode cX0_init 1 = .ok (.invokespecial 5, 3) := by decide +kernel
theorem dX0_init_4 : decode cX0_init 4 = .ok (.aload_n 0, 1) := by decide +kernel
theorem dX0_init_5 : decode cX0_init 5 = .ok (.new 11, 3) := by decide +kernel
theorem dX0_init_8 : decode cX0_init 8 = .ok (.dup, 1) := by decide +kernel
theorem dX0_init_9 : decode cX0_init 9 = .ok (.invokespecial 13, 3) := by decide +kernel
theorem dX0_init_12 : decode cX0_init 12 = .ok (.putfield 14, 3) := by decide +kernel
theorem dX0_init_15 : decode cX0_init 15 = .ok (.aload_n 0, 1) := by decide +kernel
theorem dX0_init_16 : decode cX0_init 16 = .ok (.bipush 7, 2) := by decide +kernel
theorem dX0_init_18 : decode cX0_init 18 = .ok (.newarray .int, 2) := by decide +kernel
theorem dX0_init_20 : decode cX0_init 20 = .ok (.putfield 18, 3) := by decide +kernel
theorem dX0_init_23 : decode cX0_init 23 = .ok (.aload_n 0, 1) := by decide +kernel
theorem dX0_init_24 : decode cX0_init 24 = .ok (.bipush 7, 2) := by decide +kernel
theorem dX0_init_26 : decode cX0_init 26 = .ok (.newarray .int, 2) := by decide +kernel
theorem dX0_init_28 : decode cX0_init 28 = .ok (.putfield 22, 3) := by decide +kernel
theorem dX0_init_31 : decode cX0_init 31 = .ok (.aload_n 0, 1) := by decide +kernel
theorem dX0_init_32 : decode cX0_init 32 = .ok (.bipush 7, 2) := by decide +kernel
theorem dX0_init_34 : decode cX0_init 34 = .ok (.newarray .int, 2) := by decide +kernel
theorem dX0_init_36 : decode cX0_init 36 = .ok (.putfield 25, 3) := by decide +kernel
theorem dX0_init_39 : decode cX0_init 39 = .ok (.aload_n 0, 1) := by decide +kernel
theorem dX0_init_40 : decode cX0_init 40 = .ok (.iconst 0, 1) := by decide +kernel
theorem dX0_init_41 : decode cX0_init 41 = .ok (.newarray .int, 2) := by decide +kernel
theorem dX0_init_43 : decode cX0_init 43 = .ok (.putfield 28, 3) := by decide +kernel
theorem dX0_init_46 : decode cX0_init 46 = .ok (.aload_n 0, 1) := by decide +kernel
theorem dX0_init_47 : decode cX0_init 47 = .ok (.iconst 0, 1) := by decide +kernel
theorem dX0_init_48 : decode cX0_init 48 = .ok (.newarray .int, 2) := by decide +kernel
theorem dX0_init_50 : decode cX0_init 50 = .ok (.putfield 31, 3) := by decide +kernel
theorem dX0_init_53 : decode cX0_init 53 = .ok (.aload_n 0, 1) := by decide +kernel
theorem dX0_init_54 : decode cX0_init 54 = .ok (.iconst 0, 1) := by decide +kernel
theorem dX0_init_55 : decode cX0_init 55 = .ok (.newarray .int, 2) := by decide +kernel
theorem dX0_init_57 : decode cX0_init 57 = .ok (.putfield 34, 3) := by decide +kernel
theorem dX0_init_60 : decode cX0_init 60 = .ok (.return_, 1) := by decide +kernel
theorem dX3_init_0 : decode cX3_init 0 = .ok (.aload_n 0, 1) := by decide +kernel
theorem dX3_init_1 : decode cX3_init 1 = .ok (.invokespecial 5, 3) := by decide +kernel
theorem dX3_init_4 : decode cX3_init 4 = .ok (.aload_n 0, 1) := by decide +kernel
theorem dX3_init_5 : decode cX3_init 5 = .ok (.iconst (-1), 1) := by decide +kernel
theorem dX3_init_6 : decode cX3_init 6 = .ok (.putfield 11, 3) := by decide +kernel
theorem dX3_init_9 : decode cX3_init 9 = .ok (.aload_n 0, 1) := by decide +kernel
theorem dX3_init_10 : decode cX3_init 10 = .ok (.iconst (-1), 1) := by decide +kernel
theorem dX3_init_11 : decode cX3_init 11 = .ok (.putfield 15, 3) := by decide +kernel
theorem dX3_init_14 : decode cX3_init 14 = .ok (.aload_n 0, 1) := by decide +kernel
theorem dX3_init_15 : decode cX3_init 15 = .ok (.iconst 0, 1) := by decide +kernel
theorem dX3_init_16 : decode cX3_init 16 = .ok (.newarray .int, 2) := by decide +kernel
theorem dX3_init_18 : decode cX3_init 18 = .ok (.putfield 18, 3) := by decide +kernel
theorem dX3_init_21 : decode cX3_init 21 = .ok (.aload_n 0, 1) := by decide +kernel
theorem dX3_init_22 : decode cX3_init 22 = .ok (.bipush 7, 2) := by decide +kernel
theorem dX3_init_24 : decode cX3_init 24 = .ok (.newarray .int, 2) := by decide +kernel
theorem dX3_init_26 : decode cX3_init 26 = .ok (.putfield 22, 3) := by decide +kernel
theorem dX3_init_29 : decode cX3_init 29 = .ok (.return_, 1) := by decide +kernel
end
section
def bLand (T : zTy) (h : Nat) (w : va_W) : Prop := ∃ (a1 : Nat) (a2 : Nat) (a3 : Nat) (a4 : Nat) (v0 : Int32) (v1 : Int32) (f1 : Nat → Int32) (f2 : Nat → Int32) (f3 : Nat → Int32) (f4 : Nat → Int32), w = [(h, .inr (4, [.int v0, .int v1, .ref a1, .ref a2, .ref a3, .ref a4])), (a1, .inl (T.2 0, 7, .inl f1)), (a2, .inl (T.2 0, 28, .inl f2)), (a3, .inl (T.2 0, 7, .inl f3)), (a4, .inl (T.2 0, 7, .inl f4))]
theorem bLand_mem {T : zTy} {h : Nat} {w : va_W} (H : bLand T h w) : ∃ fs, ((h, .inr (4, fs)) : Nat × va_E) ∈ w := by
  obtain ⟨_, _, _, _, _, _, _, _, _, _, rfl⟩ := H
  exact ⟨_, List.mem_cons_self⟩

def bDay (T : zTy) (h : Nat) (w : va_W) : Prop := ∃ (a1 : Nat) (a2 : Nat) (a3 : Nat) (v0 : Int32) (f1 : Nat → Int32) (f2 : Nat → Int32) (f3 : Nat → Int32), w = [(h, .inr (2, [.int v0, .ref a1, .ref a2, .ref a3])), (a1, .inl (T.2 0, 40, .inl f1)), (a2, .inl (T.2 0, 40, .inl f2)), (a3, .inl (T.2 0, 40, .inl f3))]
theorem bDay_mem {T : zTy} {h : Nat} {w : va_W} (H : bDay T h w) : ∃ fs, ((h, .inr (2, fs)) : Nat × va_E) ∈ w := by
  obtain ⟨_, _, _, _, _, _, _, rfl⟩ := H
  exact ⟨_, List.mem_cons_self⟩

def bLog (T : zTy) (h : Nat) (w : va_W) : Prop := ∃ (a1 : Nat) (a2 : Nat) (v0 : Int32) (f1 : Nat → Int32) (f2 : Nat → Int32), w = [(h, .inr (5, [.int v0, .ref a1, .ref a2])), (a1, .inl (T.2 0, 8, .inl f1)), (a2, .inl (T.2 0, 8, .inl f2))]
theorem bLog_mem {T : zTy} {h : Nat} {w : va_W} (H : bLog T h w) : ∃ fs, ((h, .inr (5, fs)) : Nat × va_E) ∈ w := by
  obtain ⟨_, _, _, _, _, rfl⟩ := H
  exact ⟨_, List.mem_cons_self⟩

def bTold (T : zTy) (h : Nat) (w : va_W) : Prop := ∃ (a1 : Nat) (a2 : Nat) (a3 : Nat) (a4 : Nat) (a5 : Nat) (v0 : Int32) (v1 : Int32) (v2 : Int32) (f1 : Nat → Int32) (f2 : Nat → Int32) (f3 : Nat → Option Nat) (f4 : Nat → Option Nat) (f5 : Nat → Option Nat) (l0 : Nat) (l1 : Nat) (d0 : Nat) (d1 : Nat) (g0 : Nat) (g1 : Nat) (w1 : va_W) (w2 : va_W) (w3 : va_W) (w4 : va_W) (w5 : va_W) (w6 : va_W), w = ([[(h, .inr (8, [.ref a1, .int v0, .int v1, .int v2, .ref a2, .ref a3, .ref a4, .ref a5]))], [(a1, .inl (T.2 1, 600, .inl f1))], [(a2, .inl (T.2 0, 3, .inl f2))], [(a3, .inl (T.2 3, 2, .inr (.inr (.inr (.inr f3)))))], [(a4, .inl (T.2 4, 2, .inr (.inr (.inr (.inr f4)))))], [(a5, .inl (T.2 5, 2, .inr (.inr (.inr (.inr f5)))))], w1, w2, w3, w4, w5, w6] : List va_W).flatten ∧ bLand T l0 w1 ∧ bLand T l1 w2 ∧ bDay T d0 w3 ∧ bDay T d1 w4 ∧ bLog T g0 w5 ∧ bLog T g1 w6 ∧ f3 0 = some l0 ∧ f3 1 = some l1 ∧ f4 0 = some d0 ∧ f4 1 = some d1 ∧ f5 0 = some g0 ∧ f5 1 = some g1
theorem bTold_mem {T : zTy} {h : Nat} {w : va_W} (H : bTold T h w) : ∃ fs, ((h, .inr (8, fs)) : Nat × va_E) ∈ w := by
  obtain ⟨_, _, _, _, _, _, _, _, _, _, _, _, _, _, _, _, _, _, _, _, _, _, _, _, _, rfl, -, -, -, -, -, -, -, -, -, -, -, -⟩ := H
  exact ⟨_, List.mem_flatten.mpr ⟨_, List.mem_cons_self, List.mem_cons_self⟩⟩

def bReader (T : zTy) (h : Nat) (w : va_W) : Prop := ∃ (l0 : Nat) (d0 : Nat) (g0 : Nat) (a1 : Nat) (n1 : Nat) (f1 : Nat → Int32) (v0 : Int32) (v1 : Int32) (v2 : Int32) (v3 : Int32) (v4 : Int32) (v5 : Int32) (v6 : Int32) (v7 : Int32) (w1 : va_W) (w2 : va_W) (w3 : va_W), w = ([[(h, .inr (7, [.ref l0, .ref d0, .ref g0, .int v0, .int v1, .ref a1, .int v2, .int v3, .int v4, .int v5, .int v6, .int 0, .int v7]))], [(a1, .inl (T.2 1, n1, .inl f1))], w1, w2, w3] : List va_W).flatten ∧ bLand T l0 w1 ∧ bDay T d0 w2 ∧ bLog T g0 w3
theorem bReader_mem {T : zTy} {h : Nat} {w : va_W} (H : bReader T h w) : ∃ fs, ((h, .inr (7, fs)) : Nat × va_E) ∈ w := by
  obtain ⟨_, _, _, _, _, _, _, _, _, _, _, _, _, _, _, _, _, rfl, -, -, -⟩ := H
  exact ⟨_, List.mem_flatten.mpr ⟨_, List.mem_cons_self, List.mem_cons_self⟩⟩

def bPosts (T : zTy) (h : Nat) (w : va_W) : Prop := ∃ (l0 : Nat) (a1 : Nat) (a2 : Nat) (a3 : Nat) (v0 : Int32) (v1 : Int32) (f1 : Nat → Int32) (f2 : Nat → Int32) (f3 : Nat → Int32) (w1 : va_W), w = ([[(h, .inr (6, [.ref l0, .ref a1, .ref a2, .int v0, .int v1, .ref a3]))], [(a1, .inl (T.2 0, 7, .inl f1))], [(a2, .inl (T.2 0, 7, .inl f2))], [(a3, .inl (T.2 0, 7, .inl f3))], w1] : List va_W).flatten ∧ bLand T l0 w1
theorem bPosts_mem {T : zTy} {h : Nat} {w : va_W} (H : bPosts T h w) : ∃ fs, ((h, .inr (6, fs)) : Nat × va_E) ∈ w := by
  obtain ⟨_, _, _, _, _, _, _, _, _, _, rfl, -⟩ := H
  exact ⟨_, List.mem_flatten.mpr ⟨_, List.mem_cons_self, List.mem_cons_self⟩⟩

def bCourse (T : zTy) (h : Nat) (w : va_W) : Prop := ∃ (p0 : Nat) (a1 : Nat) (l0 : Nat) (v0 : Int32) (v1 : Int32) (v2 : Int32) (v3 : Int32) (v4 : Int32) (v5 : Int32) (v6 : Int32) (v7 : Int32) (f1 : Nat → Int32) (w1 : va_W) (w2 : va_W), w = ([[(h, .inr (1, [.ref p0, .ref a1, .int v0, .ref l0, .int v1, .int v2, .int v3, .int v4, .int v5, .int v6, .int v7]))], [(a1, .inl (T.2 0, 7, .inl f1))], w1, w2] : List va_W).flatten ∧ bPosts T p0 w1 ∧ bLand T l0 w2
theorem bCourse_mem {T : zTy} {h : Nat} {w : va_W} (H : bCourse T h w) : ∃ fs, ((h, .inr (1, fs)) : Nat × va_E) ∈ w := by
  obtain ⟨_, _, _, _, _, _, _, _, _, _, _, _, _, _, rfl, -, -⟩ := H
  exact ⟨_, List.mem_flatten.mpr ⟨_, List.mem_cons_self, List.mem_cons_self⟩⟩

def bTrail (T : zTy) (h : Nat) (w : va_W) : Prop := ∃ (p0 : Nat) (a1 : Nat) (a2 : Nat) (v0 : Int32) (v1 : Int32) (v2 : Int32) (v3 : Int32) (v4 : Int32) (f1 : Nat → Int32) (f2 : Nat → Int32) (w1 : va_W), w = ([[(h, .inr (9, [.ref p0, .ref a1, .ref a2, .int v0, .int v1, .int v2, .int v3, .int v4]))], [(a1, .inl (T.2 0, 7, .inl f1))], [(a2, .inl (T.2 0, 7, .inl f2))], w1] : List va_W).flatten ∧ bPosts T p0 w1
theorem bTrail_mem {T : zTy} {h : Nat} {w : va_W} (H : bTrail T h w) : ∃ fs, ((h, .inr (9, fs)) : Nat × va_E) ∈ w := by
  obtain ⟨_, _, _, _, _, _, _, _, _, _, _, rfl, -⟩ := H
  exact ⟨_, List.mem_flatten.mpr ⟨_, List.mem_cons_self, List.mem_cons_self⟩⟩

def bWays (T : zTy) (h : Nat) (w : va_W) : Prop := ∃ (l0 : Nat) (a1 : Nat) (a2 : Nat) (a3 : Nat) (a4 : Nat) (a5 : Nat) (a6 : Nat) (v0 : Int32) (v1 : Int32) (v2 : Int32) (f1 : Nat → Int32) (f2 : Nat → Int32) (f3 : Nat → Int32) (f4 : Nat → Int32) (f5 : Nat → Int32) (f6 : Nat → Int32) (n4 : Nat) (n5 : Nat) (n6 : Nat) (w1 : va_W), w = ([[(h, .inr (0, [.int v0, .int v1, .ref l0, .int v2, .ref a1, .ref a2, .ref a3, .ref a4, .ref a5, .ref a6]))], [(a1, .inl (T.2 0, 7, .inl f1))], [(a2, .inl (T.2 0, 7, .inl f2))], [(a3, .inl (T.2 0, 7, .inl f3))], [(a4, .inl (T.2 0, n4, .inl f4))], [(a5, .inl (T.2 0, n5, .inl f5))], [(a6, .inl (T.2 0, n6, .inl f6))], w1] : List va_W).flatten ∧ bLand T l0 w1
theorem bWays_mem {T : zTy} {h : Nat} {w : va_W} (H : bWays T h w) : ∃ fs, ((h, .inr (0, fs)) : Nat × va_E) ∈ w := by
  obtain ⟨_, _, _, _, _, _, _, _, _, _, _, _, _, _, _, _, _, _, _, _, rfl, -⟩ := H
  exact ⟨_, List.mem_flatten.mpr ⟨_, List.mem_cons_self, List.mem_cons_self⟩⟩

def bFit (T : zTy) (h : Nat) (w : va_W) : Prop := ∃ (a1 : Nat) (a2 : Nat) (v0 : Int32) (v1 : Int32) (v2 : Int32) (v3 : Int32) (v4 : Int32) (v5 : Int32) (f1 : Nat → Int32) (f2 : Nat → Int32) (n1 : Nat), w = [(h, .inr (3, [.int v0, .int v1, .int v2, .int v3, .int v4, .int v5, .ref a1, .ref a2])), (a1, .inl (T.2 0, n1, .inl f1)), (a2, .inl (T.2 0, 7, .inl f2))]
theorem bFit_mem {T : zTy} {h : Nat} {w : va_W} (H : bFit T h w) : ∃ fs, ((h, .inr (3, fs)) : Nat × va_E) ∈ w := by
  obtain ⟨_, _, _, _, _, _, _, _, _, _, _, rfl⟩ := H
  exact ⟨_, List.mem_cons_self⟩

set_option maxHeartbeats 4000000 in
set_option maxRecDepth 100000 in
/-- c_Land_init -/
theorem c_Land_init (l : Launch) (T : zTy) (h : Nat) : zMv l T yX4_init cX4_init 1 1 4 49 [.ref h] [[(h, .inr (4, [.int 0, .int 0, .null, .null, .null, .null]))]] (fun bs => ∃ (w : va_W), bs = [w] ∧ bLand T h w) := by
  refine zMv_of (own := RX4) (by decide) rfl (Nat.le_of_ble_eq_true rfl) ?_
  intro p e s m args below meth c A ls C hr hlocks hnm hAe G hl
  have hx := C.1
  have hb := C.2.1
  have hl : lv_has ls 1 [(0, .ref h)] := hl
  refine lv_aload_n hx hb dX4_init_0 rfl (lv_at hl 0 rfl) ?_
  refine W.objInit hx hb C.2.2.2.1 (C.2.2.2.2 _ m_ml_RX4_3) (C.2.2.2.2 _ m_im_obj) (C.2.2.2.2 _ m_co_obj) rfl (by rw [C.2.2.1]; exact hl.1) rfl dX4_init_1 (Nat.le_of_ble_eq_true rfl) (Nat.le_of_ble_eq_true rfl) ?_
  refine W.eq (g2 := F0 m 4 ls []) rfl ?_
  refine lv_aload_n hx hb dX4_init_4 rfl (lv_at hl 0 rfl) ?_
  refine lv_bipush (v := 7) hx hb dX4_init_5 (by decide) ?_
  refine z_newa C G 0 (ty := .int) (N' := 7) (a0 := (7, .inl (fun _ => 0))) rfl z_uint m_ar_int rfl (fun _ => rfl) (by decide) (by decide) (Nat.le_of_ble_eq_true rfl) (Nat.le_of_ble_eq_true rfl) (Nat.le_of_ble_eq_true rfl) dX4_init_7 (fun q_1 H G => ?_)
  have G : zS T A s.heap s [[(h, .inr (4, [.int 0, .int 0, .null, .null, .null, .null]))], [(q_1, .inl (T.2 0, 7, .inl (fun _ => 0)))]] _ _ := G
  refine z_putF C G hnm clX4 0 rfl 2 (by decide) m_fl_RX4_9 rfl rfl rfl rfl (Nat.le_of_ble_eq_true rfl) dX4_init_9 (fun H locs G => ?_)
  have G : zS T A s.heap s [[(h, .inr (4, [.int 0, .int 0, .ref q_1, .null, .null, .null]))], [(q_1, .inl (T.2 0, 7, .inl (fun _ => 0)))]] _ _ := G
  refine lv_aload_n hx hb dX4_init_12 rfl (lv_at hl 0 rfl) ?_
  refine lv_bipush (v := 28) hx hb dX4_init_13 (by decide) ?_
  refine z_newa C G 0 (ty := .int) (N' := 28) (a0 := (28, .inl (fun _ => 0))) rfl z_uint m_ar_int rfl (fun _ => rfl) (by decide) (by decide) (Nat.le_of_ble_eq_true rfl) (Nat.le_of_ble_eq_true rfl) (Nat.le_of_ble_eq_true rfl) dX4_init_15 (fun q_2 H G => ?_)
  have G : zS T A s.heap s [[(h, .inr (4, [.int 0, .int 0, .ref q_1, .null, .null, .null]))], [(q_1, .inl (T.2 0, 7, .inl (fun _ => 0)))], [(q_2, .inl (T.2 0, 28, .inl (fun _ => 0)))]] _ _ := G
  refine z_putF C G hnm clX4 0 rfl 3 (by decide) m_fl_RX4_15 rfl rfl rfl rfl (Nat.le_of_ble_eq_true rfl) dX4_init_17 (fun H locs G => ?_)
  have G : zS T A s.heap s [[(h, .inr (4, [.int 0, .int 0, .ref q_1, .ref q_2, .null, .null]))], [(q_1, .inl (T.2 0, 7, .inl (fun _ => 0)))], [(q_2, .inl (T.2 0, 28, .inl (fun _ => 0)))]] _ _ := G
  refine lv_aload_n hx hb dX4_init_20 rfl (lv_at hl 0 rfl) ?_
  refine lv_bipush (v := 7) hx hb dX4_init_21 (by decide) ?_
  refine z_newa C G 0 (ty := .int) (N' := 7) (a0 := (7, .inl (fun _ => 0))) rfl z_uint m_ar_int rfl (fun _ => rfl) (by decide) (by decide) (Nat.le_of_ble_eq_true rfl) (Nat.le_of_ble_eq_true rfl) (Nat.le_of_ble_eq_true rfl) dX4_init_23 (fun q_3 H G => ?_)
  have G : zS T A s.heap s [[(h, .inr (4, [.int 0, .int 0, .ref q_1, .ref q_2, .null, .null]))], [(q_1, .inl (T.2 0, 7, .inl (fun _ => 0)))], [(q_2, .inl (T.2 0, 28, .inl (fun _ => 0)))], [(q_3, .inl (T.2 0, 7, .inl (fun _ => 0)))]] _ _ := G
  refine z_putF C G hnm clX4 0 rfl 4 (by decide) m_fl_RX4_18 rfl rfl rfl rfl (Nat.le_of_ble_eq_true rfl) dX4_init_25 (fun H locs G => ?_)
  have G : zS T A s.heap s [[(h, .inr (4, [.int 0, .int 0, .ref q_1, .ref q_2, .ref q_3, .null]))], [(q_1, .inl (T.2 0, 7, .inl (fun _ => 0)))], [(q_2, .inl (T.2 0, 28, .inl (fun _ => 0)))], [(q_3, .inl (T.2 0, 7, .inl (fun _ => 0)))]] _ _ := G
  refine lv_aload_n hx hb dX4_init_28 rfl (lv_at hl 0 rfl) ?_
  refine lv_bipush (v := 7) hx hb dX4_init_29 (by decide) ?_
  refine z_newa C G 0 (ty := .int) (N' := 7) (a0 := (7, .inl (fun _ => 0))) rfl z_uint m_ar_int rfl (fun _ => rfl) (by decide) (by decide) (Nat.le_of_ble_eq_true rfl) (Nat.le_of_ble_eq_true rfl) (Nat.le_of_ble_eq_true rfl) dX4_init_31 (fun q_4 H G => ?_)
  have G : zS T A s.heap s [[(h, .inr (4, [.int 0, .int 0, .ref q_1, .ref q_2, .ref q_3, .null]))], [(q_1, .inl (T.2 0, 7, .inl (fun _ => 0)))], [(q_2, .inl (T.2 0, 28, .inl (fun _ => 0)))], [(q_3, .inl (T.2 0, 7, .inl (fun _ => 0)))], [(q_4, .inl (T.2 0, 7, .inl (fun _ => 0)))]] _ _ := G
  refine z_putF C G hnm clX4 0 rfl 5 (by decide) m_fl_RX4_21 rfl rfl rfl rfl (Nat.le_of_ble_eq_true rfl) dX4_init_33 (fun H locs G => ?_)
  have G : zS T A s.heap s [[(h, .inr (4, [.int 0, .int 0, .ref q_1, .ref q_2, .ref q_3, .ref q_4]))], [(q_1, .inl (T.2 0, 7, .inl (fun _ => 0)))], [(q_2, .inl (T.2 0, 28, .inl (fun _ => 0)))], [(q_3, .inl (T.2 0, 7, .inl (fun _ => 0)))], [(q_4, .inl (T.2 0, 7, .inl (fun _ => 0)))]] _ _ := G
  have G := G.sub (bs' := [[(h, .inr (4, [.int 0, .int 0, .ref q_1, .ref q_2, .ref q_3, .ref q_4]))], [(q_1, .inl (T.2 0, 7, .inl (fun _ => 0)))], [(q_2, .inl (T.2 0, 28, .inl (fun _ => 0)))], [(q_3, .inl (T.2 0, 7, .inl (fun _ => 0)))], [(q_4, .inl (T.2 0, 7, .inl (fun _ => 0)))]]) [0, 1, 2, 3, 4] rfl
  obtain ⟨w_5, hw_6, G⟩ : ∃ w : va_W, bLand T h w ∧ zS T A s.heap s [w] _ _ := ⟨[(h, .inr (4, [.int 0, .int 0, .ref q_1, .ref q_2, .ref q_3, .ref q_4])), (q_1, .inl (T.2 0, 7, .inl (fun _ => 0))), (q_2, .inl (T.2 0, 28, .inl (fun _ => 0))), (q_3, .inl (T.2 0, 7, .inl (fun _ => 0))), (q_4, .inl (T.2 0, 7, .inl (fun _ => 0)))], ⟨q_1, q_2, q_3, q_4, 0, 0, (fun _ => 0), (fun _ => 0), (fun _ => 0), (fun _ => 0), rfl⟩, G.re rfl⟩
  exact z_vret C hr hlocks G (Nat.le_of_ble_eq_true rfl) (Nat.le_of_ble_eq_true rfl) dX4_init_36 ⟨w_5, rfl, hw_6⟩
set_option maxHeartbeats 4000000 in
set_option maxRecDepth 100000 in
/-- c_Day_init -/
theorem c_Day_init (l : Launch) (T : zTy) (h : Nat) : zMv l T yX2_init cX2_init 1 1 3 120 [.ref h] [[(h, .inr (2, [.int 0, .null, .null, .null]))]] (fun bs => ∃ (w : va_W), bs = [w] ∧ bDay T h w) := by
  refine zMv_of (own := RX2) (by decide) rfl (Nat.le_of_ble_eq_true rfl) ?_
  intro p e s m args below meth c A ls C hr hlocks hnm hAe G hl
  have hx := C.1
  have hb := C.2.1
  have hl : lv_has ls 1 [(0, .ref h)] := hl
  refine lv_aload_n hx hb dX2_init_0 rfl (lv_at hl 0 rfl) ?_
  refine W.objInit hx hb C.2.2.2.1 (C.2.2.2.2 _ m_ml_RX2_3) (C.2.2.2.2 _ m_im_obj) (C.2.2.2.2 _ m_co_obj) rfl (by rw [C.2.2.1]; exact hl.1) rfl dX2_init_1 (Nat.le_of_ble_eq_true rfl) (Nat.le_of_ble_eq_true rfl) ?_
  refine W.eq (g2 := F0 m 4 ls []) rfl ?_
  refine lv_aload_n hx hb dX2_init_4 rfl (lv_at hl 0 rfl) ?_
  refine lv_bipush (v := 40) hx hb dX2_init_5 (by decide) ?_
  refine z_newa C G 0 (ty := .int) (N' := 40) (a0 := (40, .inl (fun _ => 0))) rfl z_uint m_ar_int rfl (fun _ => rfl) (by decide) (by decide) (Nat.le_of_ble_eq_true rfl) (Nat.le_of_ble_eq_true rfl) (Nat.le_of_ble_eq_true rfl) dX2_init_7 (fun q_1 H G => ?_)
  have G : zS T A s.heap s [[(h, .inr (2, [.int 0, .null, .null, .null]))], [(q_1, .inl (T.2 0, 40, .inl (fun _ => 0)))]] _ _ := G
  refine z_putF C G hnm clX2 0 rfl 1 (by decide) m_fl_RX2_9 rfl rfl rfl rfl (Nat.le_of_ble_eq_true rfl) dX2_init_9 (fun H locs G => ?_)
  have G : zS T A s.heap s [[(h, .inr (2, [.int 0, .ref q_1, .null, .null]))], [(q_1, .inl (T.2 0, 40, .inl (fun _ => 0)))]] _ _ := G
  refine lv_aload_n hx hb dX2_init_12 rfl (lv_at hl 0 rfl) ?_
  refine lv_bipush (v := 40) hx hb dX2_init_13 (by decide) ?_
  refine z_newa C G 0 (ty := .int) (N' := 40) (a0 := (40, .inl (fun _ => 0))) rfl z_uint m_ar_int rfl (fun _ => rfl) (by decide) (by decide) (Nat.le_of_ble_eq_true rfl) (Nat.le_of_ble_eq_true rfl) (Nat.le_of_ble_eq_true rfl) dX2_init_15 (fun q_2 H G => ?_)
  have G : zS T A s.heap s [[(h, .inr (2, [.int 0, .ref q_1, .null, .null]))], [(q_1, .inl (T.2 0, 40, .inl (fun _ => 0)))], [(q_2, .inl (T.2 0, 40, .inl (fun _ => 0)))]] _ _ := G
  refine z_putF C G hnm clX2 0 rfl 2 (by decide) m_fl_RX2_15 rfl rfl rfl rfl (Nat.le_of_ble_eq_true rfl) dX2_init_17 (fun H locs G => ?_)
  have G : zS T A s.heap s [[(h, .inr (2, [.int 0, .ref q_1, .ref q_2, .null]))], [(q_1, .inl (T.2 0, 40, .inl (fun _ => 0)))], [(q_2, .inl (T.2 0, 40, .inl (fun _ => 0)))]] _ _ := G
  refine lv_aload_n hx hb dX2_init_20 rfl (lv_at hl 0 rfl) ?_
  refine lv_bipush (v := 40) hx hb dX2_init_21 (by decide) ?_
  refine z_newa C G 0 (ty := .int) (N' := 40) (a0 := (40, .inl (fun _ => 0))) rfl z_uint m_ar_int rfl (fun _ => rfl) (by decide) (by decide) (Nat.le_of_ble_eq_true rfl) (Nat.le_of_ble_eq_true rfl) (Nat.le_of_ble_eq_true rfl) dX2_init_23 (fun q_3 H G => ?_)
  have G : zS T A s.heap s [[(h, .inr (2, [.int 0, .ref q_1, .ref q_2, .null]))], [(q_1, .inl (T.2 0, 40, .inl (fun _ => 0)))], [(q_2, .inl (T.2 0, 40, .inl (fun _ => 0)))], [(q_3, .inl (T.2 0, 40, .inl (fun _ => 0)))]] _ _ := G
  refine z_putF C G hnm clX2 0 rfl 3 (by decide) m_fl_RX2_18 rfl rfl rfl rfl (Nat.le_of_ble_eq_true rfl) dX2_init_25 (fun H locs G => ?_)
  have G : zS T A s.heap s [[(h, .inr (2, [.int 0, .ref q_1, .ref q_2, .ref q_3]))], [(q_1, .inl (T.2 0, 40, .inl (fun _ => 0)))], [(q_2, .inl (T.2 0, 40, .inl (fun _ => 0)))], [(q_3, .inl (T.2 0, 40, .inl (fun _ => 0)))]] _ _ := G
  have G := G.sub (bs' := [[(h, .inr (2, [.int 0, .ref q_1, .ref q_2, .ref q_3]))], [(q_1, .inl (T.2 0, 40, .inl (fun _ => 0)))], [(q_2, .inl (T.2 0, 40, .inl (fun _ => 0)))], [(q_3, .inl (T.2 0, 40, .inl (fun _ => 0)))]]) [0, 1, 2, 3] rfl
  obtain ⟨w_4, hw_5, G⟩ : ∃ w : va_W, bDay T h w ∧ zS T A s.heap s [w] _ _ := ⟨[(h, .inr (2, [.int 0, .ref q_1, .ref q_2, .ref q_3])), (q_1, .inl (T.2 0, 40, .inl (fun _ => 0))), (q_2, .inl (T.2 0, 40, .inl (fun _ => 0))), (q_3, .inl (T.2 0, 40, .inl (fun _ => 0)))], ⟨q_1, q_2, q_3, 0, (fun _ => 0), (fun _ => 0), (fun _ => 0), rfl⟩, G.re rfl⟩
  exact z_vret C hr hlocks G (Nat.le_of_ble_eq_true rfl) (Nat.le_of_ble_eq_true rfl) dX2_init_28 ⟨w_4, rfl, hw_5⟩
set_option maxHeartbeats 4000000 in
set_option maxRecDepth 100000 in
/-- c_Log_init -/
theorem c_Log_init (l : Launch) (T : zTy) (h : Nat) : zMv l T yX5_init cX5_init 1 1 2 16 [.ref h] [[(h, .inr (5, [.int 0, .null, .null]))]] (fun bs => ∃ (w : va_W), bs = [w] ∧ bLog T h w) := by
  refine zMv_of (own := RX5) (by decide) rfl (Nat.le_of_ble_eq_true rfl) ?_
  intro p e s m args below meth c A ls C hr hlocks hnm hAe G hl
  have hx := C.1
  have hb := C.2.1
  have hl : lv_has ls 1 [(0, .ref h)] := hl
  refine lv_aload_n hx hb dX5_init_0 rfl (lv_at hl 0 rfl) ?_
  refine W.objInit hx hb C.2.2.2.1 (C.2.2.2.2 _ m_ml_RX5_3) (C.2.2.2.2 _ m_im_obj) (C.2.2.2.2 _ m_co_obj) rfl (by rw [C.2.2.1]; exact hl.1) rfl dX5_init_1 (Nat.le_of_ble_eq_true rfl) (Nat.le_of_ble_eq_true rfl) ?_
  refine W.eq (g2 := F0 m 4 ls []) rfl ?_
  refine lv_aload_n hx hb dX5_init_4 rfl (lv_at hl 0 rfl) ?_
  refine lv_bipush (v := 8) hx hb dX5_init_5 (by decide) ?_
  refine z_newa C G 0 (ty := .int) (N' := 8) (a0 := (8, .inl (fun _ => 0))) rfl z_uint m_ar_int rfl (fun _ => rfl) (by decide) (by decide) (Nat.le_of_ble_eq_true rfl) (Nat.le_of_ble_eq_true rfl) (Nat.le_of_ble_eq_true rfl) dX5_init_7 (fun q_1 H G => ?_)
  have G : zS T A s.heap s [[(h, .inr (5, [.int 0, .null, .null]))], [(q_1, .inl (T.2 0, 8, .inl (fun _ => 0)))]] _ _ := G
  refine z_putF C G hnm clX5 0 rfl 1 (by decide) m_fl_RX5_9 rfl rfl rfl rfl (Nat.le_of_ble_eq_true rfl) dX5_init_9 (fun H locs G => ?_)
  have G : zS T A s.heap s [[(h, .inr (5, [.int 0, .ref q_1, .null]))], [(q_1, .inl (T.2 0, 8, .inl (fun _ => 0)))]] _ _ := G
  refine lv_aload_n hx hb dX5_init_12 rfl (lv_at hl 0 rfl) ?_
  refine lv_bipush (v := 8) hx hb dX5_init_13 (by decide) ?_
  refine z_newa C G 0 (ty := .int) (N' := 8) (a0 := (8, .inl (fun _ => 0))) rfl z_uint m_ar_int rfl (fun _ => rfl) (by decide) (by decide) (Nat.le_of_ble_eq_true rfl) (Nat.le_of_ble_eq_true rfl) (Nat.le_of_ble_eq_true rfl) dX5_init_15 (fun q_2 H G => ?_)
  have G : zS T A s.heap s [[(h, .inr (5, [.int 0, .ref q_1, .null]))], [(q_1, .inl (T.2 0, 8, .inl (fun _ => 0)))], [(q_2, .inl (T.2 0, 8, .inl (fun _ => 0)))]] _ _ := G
  refine z_putF C G hnm clX5 0 rfl 2 (by decide) m_fl_RX5_15 rfl rfl rfl rfl (Nat.le_of_ble_eq_true rfl) dX5_init_17 (fun H locs G => ?_)
  have G : zS T A s.heap s [[(h, .inr (5, [.int 0, .ref q_1, .ref q_2]))], [(q_1, .inl (T.2 0, 8, .inl (fun _ => 0)))], [(q_2, .inl (T.2 0, 8, .inl (fun _ => 0)))]] _ _ := G
  have G := G.sub (bs' := [[(h, .inr (5, [.int 0, .ref q_1, .ref q_2]))], [(q_1, .inl (T.2 0, 8, .inl (fun _ => 0)))], [(q_2, .inl (T.2 0, 8, .inl (fun _ => 0)))]]) [0, 1, 2] rfl
  obtain ⟨w_3, hw_4, G⟩ : ∃ w : va_W, bLog T h w ∧ zS T A s.heap s [w] _ _ := ⟨[(h, .inr (5, [.int 0, .ref q_1, .ref q_2])), (q_1, .inl (T.2 0, 8, .inl (fun _ => 0))), (q_2, .inl (T.2 0, 8, .inl (fun _ => 0)))], ⟨q_1, q_2, 0, (fun _ => 0), (fun _ => 0), rfl⟩, G.re rfl⟩
  exact z_vret C hr hlocks G (Nat.le_of_ble_eq_true rfl) (Nat.le_of_ble_eq_true rfl) dX5_init_20 ⟨w_3, rfl, hw_4⟩
set_option maxHeartbeats 4000000 in
set_option maxRecDepth 100000 in
/-- Told() -/
theorem c_Told_init (l : Launch) (T : zTy) (h : Nat) : zMv l T yX9_init cX9_init 1 3 29 1005 [.ref h] [[(h, .inr (8, [.null, .int 0, .int 0, .int 0, .null, .null, .null, .null]))]] (fun bs => ∃ (a1 : Nat) (a2 : Nat) (a3 : Nat) (a4 : Nat) (a5 : Nat) (f3 : Nat → Option Nat) (f4 : Nat → Option Nat) (f5 : Nat → Option Nat) (l0 : Nat) (l1 : Nat) (d0 : Nat) (d1 : Nat) (g0 : Nat) (g1 : Nat) (w1 : va_W) (w2 : va_W) (w3 : va_W) (w4 : va_W) (w5 : va_W) (w6 : va_W), bs = [[(h, .inr (8, [.ref a1, .int 0, .int 0, .int (-1), .ref a2, .ref a3, .ref a4, .ref a5]))], [(a1, .inl (T.2 1, 600, .inl (fun _ => 0)))], [(a2, .inl (T.2 0, 3, .inl (fun _ => 0)))], [(a3, .inl (T.2 3, 2, .inr (.inr (.inr (.inr f3)))))], [(a4, .inl (T.2 4, 2, .inr (.inr (.inr (.inr f4)))))], [(a5, .inl (T.2 5, 2, .inr (.inr (.inr (.inr f5)))))], w1, w2, w3, w4, w5, w6] ∧ bLand T l0 w1 ∧ bLand T l1 w2 ∧ bDay T d0 w3 ∧ bDay T d1 w4 ∧ bLog T g0 w5 ∧ bLog T g1 w6 ∧ f3 0 = some l0 ∧ f3 1 = some l1 ∧ f4 0 = some d0 ∧ f4 1 = some d1 ∧ f5 0 = some g0 ∧ f5 1 = some g1) := by
  refine zMv_of (own := RX9) (by decide) rfl (Nat.le_of_ble_eq_true rfl) ?_
  intro p e s m args below meth c A ls C hr hlocks hnm hAe G hl
  have hx := C.1
  have hb := C.2.1
  have hl : lv_has ls 1 [(0, .ref h)] := hl
  refine lv_aload_n hx hb dX9_init_0 rfl (lv_at hl 0 rfl) ?_
  refine W.objInit hx hb C.2.2.2.1 (C.2.2.2.2 _ m_ml_RX9_3) (C.2.2.2.2 _ m_im_obj) (C.2.2.2.2 _ m_co_obj) rfl (by rw [C.2.2.1]; exact hl.1) rfl dX9_init_1 (Nat.le_of_ble_eq_true rfl) (Nat.le_of_ble_eq_true rfl) ?_
  refine W.eq (g2 := F0 m 4 ls []) rfl ?_
  refine lv_aload_n hx hb dX9_init_4 rfl (lv_at hl 0 rfl) ?_
  refine lv_sipush (v := 600) hx hb dX9_init_5 (by decide) ?_
  refine z_newa C G 1 (ty := .byte) (N' := 600) (a0 := (600, .inl (fun _ => 0))) rfl z_ubyte m_ar_byte rfl (fun _ => rfl) (by decide) (by decide) (Nat.le_of_ble_eq_true rfl) (Nat.le_of_ble_eq_true rfl) (Nat.le_of_ble_eq_true rfl) dX9_init_8 (fun q_1 H G => ?_)
  have G : zS T A s.heap s [[(h, .inr (8, [.null, .int 0, .int 0, .int 0, .null, .null, .null, .null]))], [(q_1, .inl (T.2 1, 600, .inl (fun _ => 0)))]] _ _ := G
  refine z_putF C G hnm clX9 0 rfl 0 (by decide) m_fl_RX9_9 rfl rfl rfl rfl (Nat.le_of_ble_eq_true rfl) dX9_init_10 (fun H locs G => ?_)
  have G : zS T A s.heap s [[(h, .inr (8, [.ref q_1, .int 0, .int 0, .int 0, .null, .null, .null, .null]))], [(q_1, .inl (T.2 1, 600, .inl (fun _ => 0)))]] _ _ := G
  refine lv_aload_n hx hb dX9_init_13 rfl (lv_at hl 0 rfl) ?_
  refine lv_iconst (v := (-1)) hx hb dX9_init_14 (by decide) ?_
  refine z_put C G clX9 0 rfl 3 (by decide) m_fl_RX9_15 rfl rfl rfl (Nat.le_of_ble_eq_true rfl) dX9_init_15 (fun H locs G => ?_)
  have G : zS T A s.heap s [[(h, .inr (8, [.ref q_1, .int 0, .int 0, .int (-1), .null, .null, .null, .null]))], [(q_1, .inl (T.2 1, 600, .inl (fun _ => 0)))]] _ _ := G
  refine lv_aload_n hx hb dX9_init_18 rfl (lv_at hl 0 rfl) ?_
  refine lv_iconst (v := 3) hx hb dX9_init_19 (by decide) ?_
  refine z_newa C G 0 (ty := .int) (N' := 3) (a0 := (3, .inl (fun _ => 0))) rfl z_uint m_ar_int rfl (fun _ => rfl) (by decide) (by decide) (Nat.le_of_ble_eq_true rfl) (Nat.le_of_ble_eq_true rfl) (Nat.le_of_ble_eq_true rfl) dX9_init_20 (fun q_2 H G => ?_)
  have G : zS T A s.heap s [[(h, .inr (8, [.ref q_1, .int 0, .int 0, .int (-1), .null, .null, .null, .null]))], [(q_1, .inl (T.2 1, 600, .inl (fun _ => 0)))], [(q_2, .inl (T.2 0, 3, .inl (fun _ => 0)))]] _ _ := G
  refine z_putF C G hnm clX9 0 rfl 4 (by decide) m_fl_RX9_19 rfl rfl rfl rfl (Nat.le_of_ble_eq_true rfl) dX9_init_22 (fun H locs G => ?_)
  have G : zS T A s.heap s [[(h, .inr (8, [.ref q_1, .int 0, .int 0, .int (-1), .ref q_2, .null, .null, .null]))], [(q_1, .inl (T.2 1, 600, .inl (fun _ => 0)))], [(q_2, .inl (T.2 0, 3, .inl (fun _ => 0)))]] _ _ := G
  refine lv_aload_n hx hb dX9_init_25 rfl (lv_at hl 0 rfl) ?_
  refine lv_iconst (v := 2) hx hb dX9_init_26 (by decide) ?_
  refine z_newq C G 3 rfl m_cl_RX9_23 (List.mem_of_getElem? (i := 0) rfl) (N' := 2) (by decide) (by decide) (by decide) (Nat.le_of_ble_eq_true rfl) (Nat.le_of_ble_eq_true rfl) dX9_init_27 (fun q_3 H G => ?_)
  have G : zS T A s.heap s [[(h, .inr (8, [.ref q_1, .int 0, .int 0, .int (-1), .ref q_2, .null, .null, .null]))], [(q_1, .inl (T.2 1, 600, .inl (fun _ => 0)))], [(q_2, .inl (T.2 0, 3, .inl (fun _ => 0)))], [(q_3, .inl (T.2 3, 2, .inr (.inr (.inr (.inr (fun _ => none))))))]] _ _ := G
  refine lv_dup hx hb dX9_init_30 rfl ?_
  refine lv_iconst (v := 0) hx hb dX9_init_31 (by decide) ?_
  refine z_new C G clX4 (fs := [.int 0, .int 0, .null, .null, .null, .null]) m_cl_RX9_23 m_in_RX4 m_ii_RX4 (fun j hj => by match j, hj with | 0, _ => rfl | 1, _ => rfl | 2, _ => rfl | 3, _ => rfl | 4, _ => rfl | 5, _ => rfl | j + 6, h => exact absurd h (by omega)) (Nat.le_of_ble_eq_true rfl) (Nat.le_of_ble_eq_true rfl) dX9_init_32 (fun q_4 H G => ?_)
  have G : zS T A s.heap s [[(h, .inr (8, [.ref q_1, .int 0, .int 0, .int (-1), .ref q_2, .null, .null, .null]))], [(q_1, .inl (T.2 1, 600, .inl (fun _ => 0)))], [(q_2, .inl (T.2 0, 3, .inl (fun _ => 0)))], [(q_3, .inl (T.2 3, 2, .inr (.inr (.inr (.inr (fun _ => none))))))], [(q_4, .inr (4, [.int 0, .int 0, .null, .null, .null, .null]))]] _ _ := G
  refine lv_dup hx hb dX9_init_35 rfl ?_
  refine z_Jv (bc := [[(q_4, .inr (4, [.int 0, .int 0, .null, .null, .null, .null]))]]) (br := [[(h, .inr (8, [.ref q_1, .int 0, .int 0, .int (-1), .ref q_2, .null, .null, .null]))], [(q_1, .inl (T.2 1, 600, .inl (fun _ => 0)))], [(q_2, .inl (T.2 0, 3, .inl (fun _ => 0)))], [(q_3, .inl (T.2 3, 2, .inr (.inr (.inr (.inr (fun _ => none))))))]]) (As := []) (rest := [.ref q_4, .int 0, .ref q_3, .ref q_3, .ref h]) C G (c_Land_init l T q_4) (kJ_RX9_25 G.2.2.2.2.2 C.2.2.2.2 (Nat.le_of_ble_eq_true rfl) (Nat.le_of_ble_eq_true rfl)) [4] [0, 1, 2, 3] rfl rfl rfl rfl hl.1 dX9_init_36 (Nat.le_of_ble_eq_true rfl) (Nat.le_of_ble_eq_true rfl) (fun b1 H locs hw G => ?_)
  obtain ⟨w_5, rfl, h_6⟩ := hw
  have G : zS T A s.heap s [[(h, .inr (8, [.ref q_1, .int 0, .int 0, .int (-1), .ref q_2, .null, .null, .null]))], [(q_1, .inl (T.2 1, 600, .inl (fun _ => 0)))], [(q_2, .inl (T.2 0, 3, .inl (fun _ => 0)))], [(q_3, .inl (T.2 3, 2, .inr (.inr (.inr (.inr (fun _ => none))))))], w_5] _ _ := G
  refine z_ast C G 3 3 (ci := 4) (r := (RX4, TX4, 6)) rfl rfl (List.mem_flatten.mpr ⟨_, List.mem_of_getElem? (i := 4) rfl, (bLand_mem h_6).choose_spec⟩) rfl (vp_in_nI (n := 0) (by decide) (by decide)) dX9_init_39 (fun H locs G => ?_)
  have G : zS T A s.heap s [[(h, .inr (8, [.ref q_1, .int 0, .int 0, .int (-1), .ref q_2, .null, .null, .null]))], [(q_1, .inl (T.2 1, 600, .inl (fun _ => 0)))], [(q_2, .inl (T.2 0, 3, .inl (fun _ => 0)))], [(q_3, .inl (T.2 3, 2, .inr (.inr (.inr (.inr (va_up (fun _ => none) 0 (some q_4)))))))], w_5] _ _ := G
  refine lv_dup hx hb dX9_init_40 rfl ?_
  refine lv_iconst (v := 1) hx hb dX9_init_41 (by decide) ?_
  refine z_new C G clX4 (fs := [.int 0, .int 0, .null, .null, .null, .null]) m_cl_RX9_23 m_in_RX4 m_ii_RX4 (fun j hj => by match j, hj with | 0, _ => rfl | 1, _ => rfl | 2, _ => rfl | 3, _ => rfl | 4, _ => rfl | 5, _ => rfl | j + 6, h => exact absurd h (by omega)) (Nat.le_of_ble_eq_true rfl) (Nat.le_of_ble_eq_true rfl) dX9_init_42 (fun q_8 H G => ?_)
  have G : zS T A s.heap s [[(h, .inr (8, [.ref q_1, .int 0, .int 0, .int (-1), .ref q_2, .null, .null, .null]))], [(q_1, .inl (T.2 1, 600, .inl (fun _ => 0)))], [(q_2, .inl (T.2 0, 3, .inl (fun _ => 0)))], [(q_3, .inl (T.2 3, 2, .inr (.inr (.inr (.inr (va_up (fun _ => none) 0 (some q_4)))))))], w_5, [(q_8, .inr (4, [.int 0, .int 0, .null, .null, .null, .null]))]] _ _ := G
  refine lv_dup hx hb dX9_init_45 rfl ?_
  refine z_Jv (bc := [[(q_8, .inr (4, [.int 0, .int 0, .null, .null, .null, .null]))]]) (br := [[(h, .inr (8, [.ref q_1, .int 0, .int 0, .int (-1), .ref q_2, .null, .null, .null]))], [(q_1, .inl (T.2 1, 600, .inl (fun _ => 0)))], [(q_2, .inl (T.2 0, 3, .inl (fun _ => 0)))], [(q_3, .inl (T.2 3, 2, .inr (.inr (.inr (.inr (va_up (fun _ => none) 0 (some q_4)))))))], w_5]) (As := []) (rest := [.ref q_8, .int 1, .ref q_3, .ref q_3, .ref h]) C G (c_Land_init l T q_8) (kJ_RX9_25 G.2.2.2.2.2 C.2.2.2.2 (Nat.le_of_ble_eq_true rfl) (Nat.le_of_ble_eq_true rfl)) [5] [0, 1, 2, 3, 4] rfl rfl rfl rfl hl.1 dX9_init_46 (Nat.le_of_ble_eq_true rfl) (Nat.le_of_ble_eq_true rfl) (fun b1 H locs hw G => ?_)
  obtain ⟨w_9, rfl, h_10⟩ := hw
  have G : zS T A s.heap s [[(h, .inr (8, [.ref q_1, .int 0, .int 0, .int (-1), .ref q_2, .null, .null, .null]))], [(q_1, .inl (T.2 1, 600, .inl (fun _ => 0)))], [(q_2, .inl (T.2 0, 3, .inl (fun _ => 0)))], [(q_3, .inl (T.2 3, 2, .inr (.inr (.inr (.inr (va_up (fun _ => none) 0 (some q_4)))))))], w_5, w_9] _ _ := G
  refine z_ast C G 3 3 (ci := 4) (r := (RX4, TX4, 6)) rfl rfl (List.mem_flatten.mpr ⟨_, List.mem_of_getElem? (i := 5) rfl, (bLand_mem h_10).choose_spec⟩) rfl (vp_in_nI (n := 1) (by decide) (by decide)) dX9_init_49 (fun H locs G => ?_)
  have G : zS T A s.heap s [[(h, .inr (8, [.ref q_1, .int 0, .int 0, .int (-1), .ref q_2, .null, .null, .null]))], [(q_1, .inl (T.2 1, 600, .inl (fun _ => 0)))], [(q_2, .inl (T.2 0, 3, .inl (fun _ => 0)))], [(q_3, .inl (T.2 3, 2, .inr (.inr (.inr (.inr (va_up (va_up (fun _ => none) 0 (some q_4)) 1 (some q_8)))))))], w_5, w_9] _ _ := G
  refine z_putF C G hnm clX9 0 rfl 5 (by decide) m_fl_RX9_26 rfl rfl rfl rfl (Nat.le_of_ble_eq_true rfl) dX9_init_50 (fun H locs G => ?_)
  have G : zS T A s.heap s [[(h, .inr (8, [.ref q_1, .int 0, .int 0, .int (-1), .ref q_2, .ref q_3, .null, .null]))], [(q_1, .inl (T.2 1, 600, .inl (fun _ => 0)))], [(q_2, .inl (T.2 0, 3, .inl (fun _ => 0)))], [(q_3, .inl (T.2 3, 2, .inr (.inr (.inr (.inr (va_up (va_up (fun _ => none) 0 (some q_4)) 1 (some q_8)))))))], w_5, w_9] _ _ := G
  refine lv_aload_n hx hb dX9_init_53 rfl (lv_at hl 0 rfl) ?_
  refine lv_iconst (v := 2) hx hb dX9_init_54 (by decide) ?_
  refine z_newq C G 4 rfl m_cl_RX9_30 (List.mem_of_getElem? (i := 1) rfl) (N' := 2) (by decide) (by decide) (by decide) (Nat.le_of_ble_eq_true rfl) (Nat.le_of_ble_eq_true rfl) dX9_init_55 (fun q_12 H G => ?_)
  have G : zS T A s.heap s [[(h, .inr (8, [.ref q_1, .int 0, .int 0, .int (-1), .ref q_2, .ref q_3, .null, .null]))], [(q_1, .inl (T.2 1, 600, .inl (fun _ => 0)))], [(q_2, .inl (T.2 0, 3, .inl (fun _ => 0)))], [(q_3, .inl (T.2 3, 2, .inr (.inr (.inr (.inr (va_up (va_up (fun _ => none) 0 (some q_4)) 1 (some q_8)))))))], w_5, w_9, [(q_12, .inl (T.2 4, 2, .inr (.inr (.inr (.inr (fun _ => none))))))]] _ _ := G
  refine lv_dup hx hb dX9_init_58 rfl ?_
  refine lv_iconst (v := 0) hx hb dX9_init_59 (by decide) ?_
  refine z_new C G clX2 (fs := [.int 0, .null, .null, .null]) m_cl_RX9_30 m_in_RX2 m_ii_RX2 (fun j hj => by match j, hj with | 0, _ => rfl | 1, _ => rfl | 2, _ => rfl | 3, _ => rfl | j + 4, h => exact absurd h (by omega)) (Nat.le_of_ble_eq_true rfl) (Nat.le_of_ble_eq_true rfl) dX9_init_60 (fun q_13 H G => ?_)
  have G : zS T A s.heap s [[(h, .inr (8, [.ref q_1, .int 0, .int 0, .int (-1), .ref q_2, .ref q_3, .null, .null]))], [(q_1, .inl (T.2 1, 600, .inl (fun _ => 0)))], [(q_2, .inl (T.2 0, 3, .inl (fun _ => 0)))], [(q_3, .inl (T.2 3, 2, .inr (.inr (.inr (.inr (va_up (va_up (fun _ => none) 0 (some q_4)) 1 (some q_8)))))))], w_5, w_9, [(q_12, .inl (T.2 4, 2, .inr (.inr (.inr (.inr (fun _ => none))))))], [(q_13, .inr (2, [.int 0, .null, .null, .null]))]] _ _ := G
  refine lv_dup hx hb dX9_init_63 rfl ?_
  refine z_Jv (bc := [[(q_13, .inr (2, [.int 0, .null, .null, .null]))]]) (br := [[(h, .inr (8, [.ref q_1, .int 0, .int 0, .int (-1), .ref q_2, .ref q_3, .null, .null]))], [(q_1, .inl (T.2 1, 600, .inl (fun _ => 0)))], [(q_2, .inl (T.2 0, 3, .inl (fun _ => 0)))], [(q_3, .inl (T.2 3, 2, .inr (.inr (.inr (.inr (va_up (va_up (fun _ => none) 0 (some q_4)) 1 (some q_8)))))))], w_5, w_9, [(q_12, .inl (T.2 4, 2, .inr (.inr (.inr (.inr (fun _ => none))))))]]) (As := []) (rest := [.ref q_13, .int 0, .ref q_12, .ref q_12, .ref h]) C G (c_Day_init l T q_13) (kJ_RX9_32 G.2.2.2.2.2 C.2.2.2.2 (Nat.le_of_ble_eq_true rfl) (Nat.le_of_ble_eq_true rfl)) [7] [0, 1, 2, 3, 4, 5, 6] rfl rfl rfl rfl hl.1 dX9_init_64 (Nat.le_of_ble_eq_true rfl) (Nat.le_of_ble_eq_true rfl) (fun b1 H locs hw G => ?_)
  obtain ⟨w_14, rfl, h_15⟩ := hw
  have G : zS T A s.heap s [[(h, .inr (8, [.ref q_1, .int 0, .int 0, .int (-1), .ref q_2, .ref q_3, .null, .null]))], [(q_1, .inl (T.2 1, 600, .inl (fun _ => 0)))], [(q_2, .inl (T.2 0, 3, .inl (fun _ => 0)))], [(q_3, .inl (T.2 3, 2, .inr (.inr (.inr (.inr (va_up (va_up (fun _ => none) 0 (some q_4)) 1 (some q_8)))))))], w_5, w_9, [(q_12, .inl (T.2 4, 2, .inr (.inr (.inr (.inr (fun _ => none))))))], w_14] _ _ := G
  refine z_ast C G 6 4 (ci := 2) (r := (RX2, TX2, 4)) rfl rfl (List.mem_flatten.mpr ⟨_, List.mem_of_getElem? (i := 7) rfl, (bDay_mem h_15).choose_spec⟩) rfl (vp_in_nI (n := 0) (by decide) (by decide)) dX9_init_67 (fun H locs G => ?_)
  have G : zS T A s.heap s [[(h, .inr (8, [.ref q_1, .int 0, .int 0, .int (-1), .ref q_2, .ref q_3, .null, .null]))], [(q_1, .inl (T.2 1, 600, .inl (fun _ => 0)))], [(q_2, .inl (T.2 0, 3, .inl (fun _ => 0)))], [(q_3, .inl (T.2 3, 2, .inr (.inr (.inr (.inr (va_up (va_up (fun _ => none) 0 (some q_4)) 1 (some q_8)))))))], w_5, w_9, [(q_12, .inl (T.2 4, 2, .inr (.inr (.inr (.inr (va_up (fun _ => none) 0 (some q_13)))))))], w_14] _ _ := G
  refine lv_dup hx hb dX9_init_68 rfl ?_
  refine lv_iconst (v := 1) hx hb dX9_init_69 (by decide) ?_
  refine z_new C G clX2 (fs := [.int 0, .null, .null, .null]) m_cl_RX9_30 m_in_RX2 m_ii_RX2 (fun j hj => by match j, hj with | 0, _ => rfl | 1, _ => rfl | 2, _ => rfl | 3, _ => rfl | j + 4, h => exact absurd h (by omega)) (Nat.le_of_ble_eq_true rfl) (Nat.le_of_ble_eq_true rfl) dX9_init_70 (fun q_17 H G => ?_)
  have G : zS T A s.heap s [[(h, .inr (8, [.ref q_1, .int 0, .int 0, .int (-1), .ref q_2, .ref q_3, .null, .null]))], [(q_1, .inl (T.2 1, 600, .inl (fun _ => 0)))], [(q_2, .inl (T.2 0, 3, .inl (fun _ => 0)))], [(q_3, .inl (T.2 3, 2, .inr (.inr (.inr (.inr (va_up (va_up (fun _ => none) 0 (some q_4)) 1 (some q_8)))))))], w_5, w_9, [(q_12, .inl (T.2 4, 2, .inr (.inr (.inr (.inr (va_up (fun _ => none) 0 (some q_13)))))))], w_14, [(q_17, .inr (2, [.int 0, .null, .null, .null]))]] _ _ := G
  refine lv_dup hx hb dX9_init_73 rfl ?_
  refine z_Jv (bc := [[(q_17, .inr (2, [.int 0, .null, .null, .null]))]]) (br := [[(h, .inr (8, [.ref q_1, .int 0, .int 0, .int (-1), .ref q_2, .ref q_3, .null, .null]))], [(q_1, .inl (T.2 1, 600, .inl (fun _ => 0)))], [(q_2, .inl (T.2 0, 3, .inl (fun _ => 0)))], [(q_3, .inl (T.2 3, 2, .inr (.inr (.inr (.inr (va_up (va_up (fun _ => none) 0 (some q_4)) 1 (some q_8)))))))], w_5, w_9, [(q_12, .inl (T.2 4, 2, .inr (.inr (.inr (.inr (va_up (fun _ => none) 0 (some q_13)))))))], w_14]) (As := []) (rest := [.ref q_17, .int 1, .ref q_12, .ref q_12, .ref h]) C G (c_Day_init l T q_17) (kJ_RX9_32 G.2.2.2.2.2 C.2.2.2.2 (Nat.le_of_ble_eq_true rfl) (Nat.le_of_ble_eq_true rfl)) [8] [0, 1, 2, 3, 4, 5, 6, 7] rfl rfl rfl rfl hl.1 dX9_init_74 (Nat.le_of_ble_eq_true rfl) (Nat.le_of_ble_eq_true rfl) (fun b1 H locs hw G => ?_)
  obtain ⟨w_18, rfl, h_19⟩ := hw
  have G : zS T A s.heap s [[(h, .inr (8, [.ref q_1, .int 0, .int 0, .int (-1), .ref q_2, .ref q_3, .null, .null]))], [(q_1, .inl (T.2 1, 600, .inl (fun _ => 0)))], [(q_2, .inl (T.2 0, 3, .inl (fun _ => 0)))], [(q_3, .inl (T.2 3, 2, .inr (.inr (.inr (.inr (va_up (va_up (fun _ => none) 0 (some q_4)) 1 (some q_8)))))))], w_5, w_9, [(q_12, .inl (T.2 4, 2, .inr (.inr (.inr (.inr (va_up (fun _ => none) 0 (some q_13)))))))], w_14, w_18] _ _ := G
  refine z_ast C G 6 4 (ci := 2) (r := (RX2, TX2, 4)) rfl rfl (List.mem_flatten.mpr ⟨_, List.mem_of_getElem? (i := 8) rfl, (bDay_mem h_19).choose_spec⟩) rfl (vp_in_nI (n := 1) (by decide) (by decide)) dX9_init_77 (fun H locs G => ?_)
  have G : zS T A s.heap s [[(h, .inr (8, [.ref q_1, .int 0, .int 0, .int (-1), .ref q_2, .ref q_3, .null, .null]))], [(q_1, .inl (T.2 1, 600, .inl (fun _ => 0)))], [(q_2, .inl (T.2 0, 3, .inl (fun _ => 0)))], [(q_3, .inl (T.2 3, 2, .inr (.inr (.inr (.inr (va_up (va_up (fun _ => none) 0 (some q_4)) 1 (some q_8)))))))], w_5, w_9, [(q_12, .inl (T.2 4, 2, .inr (.inr (.inr (.inr (va_up (va_up (fun _ => none) 0 (some q_13)) 1 (some q_17)))))))], w_14, w_18] _ _ := G
  refine z_putF C G hnm clX9 0 rfl 6 (by decide) m_fl_RX9_33 rfl rfl rfl rfl (Nat.le_of_ble_eq_true rfl) dX9_init_78 (fun H locs G => ?_)
  have G : zS T A s.heap s [[(h, .inr (8, [.ref q_1, .int 0, .int 0, .int (-1), .ref q_2, .ref q_3, .ref q_12, .null]))], [(q_1, .inl (T.2 1, 600, .inl (fun _ => 0)))], [(q_2, .inl (T.2 0, 3, .inl (fun _ => 0)))], [(q_3, .inl (T.2 3, 2, .inr (.inr (.inr (.inr (va_up (va_up (fun _ => none) 0 (some q_4)) 1 (some q_8)))))))], w_5, w_9, [(q_12, .inl (T.2 4, 2, .inr (.inr (.inr (.inr (va_up (va_up (fun _ => none) 0 (some q_13)) 1 (some q_17)))))))], w_14, w_18] _ _ := G
  refine lv_aload_n hx hb dX9_init_81 rfl (lv_at hl 0 rfl) ?_
  refine lv_iconst (v := 2) hx hb dX9_init_82 (by decide) ?_
  refine z_newq C G 5 rfl m_cl_RX9_37 (List.mem_of_getElem? (i := 2) rfl) (N' := 2) (by decide) (by decide) (by decide) (Nat.le_of_ble_eq_true rfl) (Nat.le_of_ble_eq_true rfl) dX9_init_83 (fun q_21 H G => ?_)
  have G : zS T A s.heap s [[(h, .inr (8, [.ref q_1, .int 0, .int 0, .int (-1), .ref q_2, .ref q_3, .ref q_12, .null]))], [(q_1, .inl (T.2 1, 600, .inl (fun _ => 0)))], [(q_2, .inl (T.2 0, 3, .inl (fun _ => 0)))], [(q_3, .inl (T.2 3, 2, .inr (.inr (.inr (.inr (va_up (va_up (fun _ => none) 0 (some q_4)) 1 (some q_8)))))))], w_5, w_9, [(q_12, .inl (T.2 4, 2, .inr (.inr (.inr (.inr (va_up (va_up (fun _ => none) 0 (some q_13)) 1 (some q_17)))))))], w_14, w_18, [(q_21, .inl (T.2 5, 2, .inr (.inr (.inr (.inr (fun _ => none))))))]] _ _ := G
  refine lv_dup hx hb dX9_init_86 rfl ?_
  refine lv_iconst (v := 0) hx hb dX9_init_87 (by decide) ?_
  refine z_new C G clX5 (fs := [.int 0, .null, .null]) m_cl_RX9_37 m_in_RX5 m_ii_RX5 (fun j hj => by match j, hj with | 0, _ => rfl | 1, _ => rfl | 2, _ => rfl | j + 3, h => exact absurd h (by omega)) (Nat.le_of_ble_eq_true rfl) (Nat.le_of_ble_eq_true rfl) dX9_init_88 (fun q_22 H G => ?_)
  have G : zS T A s.heap s [[(h, .inr (8, [.ref q_1, .int 0, .int 0, .int (-1), .ref q_2, .ref q_3, .ref q_12, .null]))], [(q_1, .inl (T.2 1, 600, .inl (fun _ => 0)))], [(q_2, .inl (T.2 0, 3, .inl (fun _ => 0)))], [(q_3, .inl (T.2 3, 2, .inr (.inr (.inr (.inr (va_up (va_up (fun _ => none) 0 (some q_4)) 1 (some q_8)))))))], w_5, w_9, [(q_12, .inl (T.2 4, 2, .inr (.inr (.inr (.inr (va_up (va_up (fun _ => none) 0 (some q_13)) 1 (some q_17)))))))], w_14, w_18, [(q_21, .inl (T.2 5, 2, .inr (.inr (.inr (.inr (fun _ => none))))))], [(q_22, .inr (5, [.int 0, .null, .null]))]] _ _ := G
  refine lv_dup hx hb dX9_init_91 rfl ?_
  refine z_Jv (bc := [[(q_22, .inr (5, [.int 0, .null, .null]))]]) (br := [[(h, .inr (8, [.ref q_1, .int 0, .int 0, .int (-1), .ref q_2, .ref q_3, .ref q_12, .null]))], [(q_1, .inl (T.2 1, 600, .inl (fun _ => 0)))], [(q_2, .inl (T.2 0, 3, .inl (fun _ => 0)))], [(q_3, .inl (T.2 3, 2, .inr (.inr (.inr (.inr (va_up (va_up (fun _ => none) 0 (some q_4)) 1 (some q_8)))))))], w_5, w_9, [(q_12, .inl (T.2 4, 2, .inr (.inr (.inr (.inr (va_up (va_up (fun _ => none) 0 (some q_13)) 1 (some q_17)))))))], w_14, w_18, [(q_21, .inl (T.2 5, 2, .inr (.inr (.inr (.inr (fun _ => none))))))]]) (As := []) (rest := [.ref q_22, .int 0, .ref q_21, .ref q_21, .ref h]) C G (c_Log_init l T q_22) (kJ_RX9_39 G.2.2.2.2.2 C.2.2.2.2 (Nat.le_of_ble_eq_true rfl) (Nat.le_of_ble_eq_true rfl)) [10] [0, 1, 2, 3, 4, 5, 6, 7, 8, 9] rfl rfl rfl rfl hl.1 dX9_init_92 (Nat.le_of_ble_eq_true rfl) (Nat.le_of_ble_eq_true rfl) (fun b1 H locs hw G => ?_)
  obtain ⟨w_23, rfl, h_24⟩ := hw
  have G : zS T A s.heap s [[(h, .inr (8, [.ref q_1, .int 0, .int 0, .int (-1), .ref q_2, .ref q_3, .ref q_12, .null]))], [(q_1, .inl (T.2 1, 600, .inl (fun _ => 0)))], [(q_2, .inl (T.2 0, 3, .inl (fun _ => 0)))], [(q_3, .inl (T.2 3, 2, .inr (.inr (.inr (.inr (va_up (va_up (fun _ => none) 0 (some q_4)) 1 (some q_8)))))))], w_5, w_9, [(q_12, .inl (T.2 4, 2, .inr (.inr (.inr (.inr (va_up (va_up (fun _ => none) 0 (some q_13)) 1 (some q_17)))))))], w_14, w_18, [(q_21, .inl (T.2 5, 2, .inr (.inr (.inr (.inr (fun _ => none))))))], w_23] _ _ := G
  refine z_ast C G 9 5 (ci := 5) (r := (RX5, TX5, 3)) rfl rfl (List.mem_flatten.mpr ⟨_, List.mem_of_getElem? (i := 10) rfl, (bLog_mem h_24).choose_spec⟩) rfl (vp_in_nI (n := 0) (by decide) (by decide)) dX9_init_95 (fun H locs G => ?_)
  have G : zS T A s.heap s [[(h, .inr (8, [.ref q_1, .int 0, .int 0, .int (-1), .ref q_2, .ref q_3, .ref q_12, .null]))], [(q_1, .inl (T.2 1, 600, .inl (fun _ => 0)))], [(q_2, .inl (T.2 0, 3, .inl (fun _ => 0)))], [(q_3, .inl (T.2 3, 2, .inr (.inr (.inr (.inr (va_up (va_up (fun _ => none) 0 (some q_4)) 1 (some q_8)))))))], w_5, w_9, [(q_12, .inl (T.2 4, 2, .inr (.inr (.inr (.inr (va_up (va_up (fun _ => none) 0 (some q_13)) 1 (some q_17)))))))], w_14, w_18, [(q_21, .inl (T.2 5, 2, .inr (.inr (.inr (.inr (va_up (fun _ => none) 0 (some q_22)))))))], w_23] _ _ := G
  refine lv_dup hx hb dX9_init_96 rfl ?_
  refine lv_iconst (v := 1) hx hb dX9_init_97 (by decide) ?_
  refine z_new C G clX5 (fs := [.int 0, .null, .null]) m_cl_RX9_37 m_in_RX5 m_ii_RX5 (fun j hj => by match j, hj with | 0, _ => rfl | 1, _ => rfl | 2, _ => rfl | j + 3, h => exact absurd h (by omega)) (Nat.le_of_ble_eq_true rfl) (Nat.le_of_ble_eq_true rfl) dX9_init_98 (fun q_26 H G => ?_)
  have G : zS T A s.heap s [[(h, .inr (8, [.ref q_1, .int 0, .int 0, .int (-1), .ref q_2, .ref q_3, .ref q_12, .null]))], [(q_1, .inl (T.2 1, 600, .inl (fun _ => 0)))], [(q_2, .inl (T.2 0, 3, .inl (fun _ => 0)))], [(q_3, .inl (T.2 3, 2, .inr (.inr (.inr (.inr (va_up (va_up (fun _ => none) 0 (some q_4)) 1 (some q_8)))))))], w_5, w_9, [(q_12, .inl (T.2 4, 2, .inr (.inr (.inr (.inr (va_up (va_up (fun _ => none) 0 (some q_13)) 1 (some q_17)))))))], w_14, w_18, [(q_21, .inl (T.2 5, 2, .inr (.inr (.inr (.inr (va_up (fun _ => none) 0 (some q_22)))))))], w_23, [(q_26, .inr (5, [.int 0, .null, .null]))]] _ _ := G
  refine lv_dup hx hb dX9_init_101 rfl ?_
  refine z_Jv (bc := [[(q_26, .inr (5, [.int 0, .null, .null]))]]) (br := [[(h, .inr (8, [.ref q_1, .int 0, .int 0, .int (-1), .ref q_2, .ref q_3, .ref q_12, .null]))], [(q_1, .inl (T.2 1, 600, .inl (fun _ => 0)))], [(q_2, .inl (T.2 0, 3, .inl (fun _ => 0)))], [(q_3, .inl (T.2 3, 2, .inr (.inr (.inr (.inr (va_up (va_up (fun _ => none) 0 (some q_4)) 1 (some q_8)))))))], w_5, w_9, [(q_12, .inl (T.2 4, 2, .inr (.inr (.inr (.inr (va_up (va_up (fun _ => none) 0 (some q_13)) 1 (some q_17)))))))], w_14, w_18, [(q_21, .inl (T.2 5, 2, .inr (.inr (.inr (.inr (va_up (fun _ => none) 0 (some q_22)))))))], w_23]) (As := []) (rest := [.ref q_26, .int 1, .ref q_21, .ref q_21, .ref h]) C G (c_Log_init l T q_26) (kJ_RX9_39 G.2.2.2.2.2 C.2.2.2.2 (Nat.le_of_ble_eq_true rfl) (Nat.le_of_ble_eq_true rfl)) [11] [0, 1, 2, 3, 4, 5, 6, 7, 8, 9, 10] rfl rfl rfl rfl hl.1 dX9_init_102 (Nat.le_of_ble_eq_true rfl) (Nat.le_of_ble_eq_true rfl) (fun b1 H locs hw G => ?_)
  obtain ⟨w_27, rfl, h_28⟩ := hw
  have G : zS T A s.heap s [[(h, .inr (8, [.ref q_1, .int 0, .int 0, .int (-1), .ref q_2, .ref q_3, .ref q_12, .null]))], [(q_1, .inl (T.2 1, 600, .inl (fun _ => 0)))], [(q_2, .inl (T.2 0, 3, .inl (fun _ => 0)))], [(q_3, .inl (T.2 3, 2, .inr (.inr (.inr (.inr (va_up (va_up (fun _ => none) 0 (some q_4)) 1 (some q_8)))))))], w_5, w_9, [(q_12, .inl (T.2 4, 2, .inr (.inr (.inr (.inr (va_up (va_up (fun _ => none) 0 (some q_13)) 1 (some q_17)))))))], w_14, w_18, [(q_21, .inl (T.2 5, 2, .inr (.inr (.inr (.inr (va_up (fun _ => none) 0 (some q_22)))))))], w_23, w_27] _ _ := G
  refine z_ast C G 9 5 (ci := 5) (r := (RX5, TX5, 3)) rfl rfl (List.mem_flatten.mpr ⟨_, List.mem_of_getElem? (i := 11) rfl, (bLog_mem h_28).choose_spec⟩) rfl (vp_in_nI (n := 1) (by decide) (by decide)) dX9_init_105 (fun H locs G => ?_)
  have G : zS T A s.heap s [[(h, .inr (8, [.ref q_1, .int 0, .int 0, .int (-1), .ref q_2, .ref q_3, .ref q_12, .null]))], [(q_1, .inl (T.2 1, 600, .inl (fun _ => 0)))], [(q_2, .inl (T.2 0, 3, .inl (fun _ => 0)))], [(q_3, .inl (T.2 3, 2, .inr (.inr (.inr (.inr (va_up (va_up (fun _ => none) 0 (some q_4)) 1 (some q_8)))))))], w_5, w_9, [(q_12, .inl (T.2 4, 2, .inr (.inr (.inr (.inr (va_up (va_up (fun _ => none) 0 (some q_13)) 1 (some q_17)))))))], w_14, w_18, [(q_21, .inl (T.2 5, 2, .inr (.inr (.inr (.inr (va_up (va_up (fun _ => none) 0 (some q_22)) 1 (some q_26)))))))], w_23, w_27] _ _ := G
  refine z_putF C G hnm clX9 0 rfl 7 (by decide) m_fl_RX9_40 rfl rfl rfl rfl (Nat.le_of_ble_eq_true rfl) dX9_init_106 (fun H locs G => ?_)
  have G : zS T A s.heap s [[(h, .inr (8, [.ref q_1, .int 0, .int 0, .int (-1), .ref q_2, .ref q_3, .ref q_12, .ref q_21]))], [(q_1, .inl (T.2 1, 600, .inl (fun _ => 0)))], [(q_2, .inl (T.2 0, 3, .inl (fun _ => 0)))], [(q_3, .inl (T.2 3, 2, .inr (.inr (.inr (.inr (va_up (va_up (fun _ => none) 0 (some q_4)) 1 (some q_8)))))))], w_5, w_9, [(q_12, .inl (T.2 4, 2, .inr (.inr (.inr (.inr (va_up (va_up (fun _ => none) 0 (some q_13)) 1 (some q_17)))))))], w_14, w_18, [(q_21, .inl (T.2 5, 2, .inr (.inr (.inr (.inr (va_up (va_up (fun _ => none) 0 (some q_22)) 1 (some q_26)))))))], w_23, w_27] _ _ := G
  have G := G.sub (bs' := [[(h, .inr (8, [.ref q_1, .int 0, .int 0, .int (-1), .ref q_2, .ref q_3, .ref q_12, .ref q_21]))], [(q_1, .inl (T.2 1, 600, .inl (fun _ => 0)))], [(q_2, .inl (T.2 0, 3, .inl (fun _ => 0)))], [(q_3, .inl (T.2 3, 2, .inr (.inr (.inr (.inr (va_up (va_up (fun _ => none) 0 (some q_4)) 1 (some q_8)))))))], [(q_12, .inl (T.2 4, 2, .inr (.inr (.inr (.inr (va_up (va_up (fun _ => none) 0 (some q_13)) 1 (some q_17)))))))], [(q_21, .inl (T.2 5, 2, .inr (.inr (.inr (.inr (va_up (va_up (fun _ => none) 0 (some q_22)) 1 (some q_26)))))))], w_5, w_9, w_14, w_18, w_23, w_27]) [0, 1, 2, 3, 6, 9, 4, 5, 7, 8, 10, 11] rfl
  exact z_vret C hr hlocks G (Nat.le_of_ble_eq_true rfl) (Nat.le_of_ble_eq_true rfl) dX9_init_109 ⟨q_1, q_2, q_3, q_12, q_21, (va_up (va_up (fun _ => none) 0 (some q_4)) 1 (some q_8)), (va_up (va_up (fun _ => none) 0 (some q_13)) 1 (some q_17)), (va_up (va_up (fun _ => none) 0 (some q_22)) 1 (some q_26)), q_4, q_8, q_13, q_17, q_22, q_26, w_5, w_9, w_14, w_18, w_23, w_27, rfl, h_6, h_10, h_15, h_19, h_24, h_28, rfl, rfl, rfl, rfl, rfl, rfl⟩
set_option maxHeartbeats 4000000 in
set_option maxRecDepth 100000 in
/-- c_Reader_init -/
theorem c_Reader_init (l : Launch) (T : zTy) (h : Nat) : zMv l T yX7_init cX7_init 1 3 13 198 [.ref h] [[(h, .inr (7, [.null, .null, .null, .int 0, .int 0, .null, .int 0, .int 0, .int 0, .int 0, .int 0, .int 0, .int 0]))]] (fun bs => ∃ (w : va_W), bs = [w] ∧ bReader T h w) := by
  refine zMv_of (own := RX7) (by decide) rfl (Nat.le_of_ble_eq_true rfl) ?_
  intro p e s m args below meth c A ls C hr hlocks hnm hAe G hl
  have hx := C.1
  have hb := C.2.1
  have hl : lv_has ls 1 [(0, .ref h)] := hl
  refine lv_aload_n hx hb dX7_init_0 rfl (lv_at hl 0 rfl) ?_
  refine W.objInit hx hb C.2.2.2.1 (C.2.2.2.2 _ m_ml_RX7_3) (C.2.2.2.2 _ m_im_obj) (C.2.2.2.2 _ m_co_obj) rfl (by rw [C.2.2.1]; exact hl.1) rfl dX7_init_1 (Nat.le_of_ble_eq_true rfl) (Nat.le_of_ble_eq_true rfl) ?_
  refine W.eq (g2 := F0 m 4 ls []) rfl ?_
  refine lv_aload_n hx hb dX7_init_4 rfl (lv_at hl 0 rfl) ?_
  refine z_new C G clX4 (fs := [.int 0, .int 0, .null, .null, .null, .null]) m_cl_RX7_9 m_in_RX4 m_ii_RX4 (fun j hj => by match j, hj with | 0, _ => rfl | 1, _ => rfl | 2, _ => rfl | 3, _ => rfl | 4, _ => rfl | 5, _ => rfl | j + 6, h => exact absurd h (by omega)) (Nat.le_of_ble_eq_true rfl) (Nat.le_of_ble_eq_true rfl) dX7_init_5 (fun q_1 H G => ?_)
  have G : zS T A s.heap s [[(h, .inr (7, [.null, .null, .null, .int 0, .int 0, .null, .int 0, .int 0, .int 0, .int 0, .int 0, .int 0, .int 0]))], [(q_1, .inr (4, [.int 0, .int 0, .null, .null, .null, .null]))]] _ _ := G
  refine lv_dup hx hb dX7_init_8 rfl ?_
  refine z_Jv (bc := [[(q_1, .inr (4, [.int 0, .int 0, .null, .null, .null, .null]))]]) (br := [[(h, .inr (7, [.null, .null, .null, .int 0, .int 0, .null, .int 0, .int 0, .int 0, .int 0, .int 0, .int 0, .int 0]))]]) (As := []) (rest := [.ref q_1, .ref h]) C G (c_Land_init l T q_1) (kJ_RX7_11 G.2.2.2.2.2 C.2.2.2.2 (Nat.le_of_ble_eq_true rfl) (Nat.le_of_ble_eq_true rfl)) [1] [0] rfl rfl rfl rfl hl.1 dX7_init_9 (Nat.le_of_ble_eq_true rfl) (Nat.le_of_ble_eq_true rfl) (fun b1 H locs hw G => ?_)
  obtain ⟨w_2, rfl, h_3⟩ := hw
  have G : zS T A s.heap s [[(h, .inr (7, [.null, .null, .null, .int 0, .int 0, .null, .int 0, .int 0, .int 0, .int 0, .int 0, .int 0, .int 0]))], w_2] _ _ := G
  refine z_putF C G hnm clX7 0 rfl 0 (by decide) m_fl_RX7_12 rfl rfl rfl rfl (Nat.le_of_ble_eq_true rfl) dX7_init_12 (fun H locs G => ?_)
  have G : zS T A s.heap s [[(h, .inr (7, [.ref q_1, .null, .null, .int 0, .int 0, .null, .int 0, .int 0, .int 0, .int 0, .int 0, .int 0, .int 0]))], w_2] _ _ := G
  refine lv_aload_n hx hb dX7_init_15 rfl (lv_at hl 0 rfl) ?_
  refine z_new C G clX2 (fs := [.int 0, .null, .null, .null]) m_cl_RX7_18 m_in_RX2 m_ii_RX2 (fun j hj => by match j, hj with | 0, _ => rfl | 1, _ => rfl | 2, _ => rfl | 3, _ => rfl | j + 4, h => exact absurd h (by omega)) (Nat.le_of_ble_eq_true rfl) (Nat.le_of_ble_eq_true rfl) dX7_init_16 (fun q_5 H G => ?_)
  have G : zS T A s.heap s [[(h, .inr (7, [.ref q_1, .null, .null, .int 0, .int 0, .null, .int 0, .int 0, .int 0, .int 0, .int 0, .int 0, .int 0]))], w_2, [(q_5, .inr (2, [.int 0, .null, .null, .null]))]] _ _ := G
  refine lv_dup hx hb dX7_init_19 rfl ?_
  refine z_Jv (bc := [[(q_5, .inr (2, [.int 0, .null, .null, .null]))]]) (br := [[(h, .inr (7, [.ref q_1, .null, .null, .int 0, .int 0, .null, .int 0, .int 0, .int 0, .int 0, .int 0, .int 0, .int 0]))], w_2]) (As := []) (rest := [.ref q_5, .ref h]) C G (c_Day_init l T q_5) (kJ_RX7_20 G.2.2.2.2.2 C.2.2.2.2 (Nat.le_of_ble_eq_true rfl) (Nat.le_of_ble_eq_true rfl)) [2] [0, 1] rfl rfl rfl rfl hl.1 dX7_init_20 (Nat.le_of_ble_eq_true rfl) (Nat.le_of_ble_eq_true rfl) (fun b1 H locs hw G => ?_)
  obtain ⟨w_6, rfl, h_7⟩ := hw
  have G : zS T A s.heap s [[(h, .inr (7, [.ref q_1, .null, .null, .int 0, .int 0, .null, .int 0, .int 0, .int 0, .int 0, .int 0, .int 0, .int 0]))], w_2, w_6] _ _ := G
  refine z_putF C G hnm clX7 0 rfl 1 (by decide) m_fl_RX7_21 rfl rfl rfl rfl (Nat.le_of_ble_eq_true rfl) dX7_init_23 (fun H locs G => ?_)
  have G : zS T A s.heap s [[(h, .inr (7, [.ref q_1, .ref q_5, .null, .int 0, .int 0, .null, .int 0, .int 0, .int 0, .int 0, .int 0, .int 0, .int 0]))], w_2, w_6] _ _ := G
  refine lv_aload_n hx hb dX7_init_26 rfl (lv_at hl 0 rfl) ?_
  refine z_new C G clX5 (fs := [.int 0, .null, .null]) m_cl_RX7_25 m_in_RX5 m_ii_RX5 (fun j hj => by match j, hj with | 0, _ => rfl | 1, _ => rfl | 2, _ => rfl | j + 3, h => exact absurd h (by omega)) (Nat.le_of_ble_eq_true rfl) (Nat.le_of_ble_eq_true rfl) dX7_init_27 (fun q_9 H G => ?_)
  have G : zS T A s.heap s [[(h, .inr (7, [.ref q_1, .ref q_5, .null, .int 0, .int 0, .null, .int 0, .int 0, .int 0, .int 0, .int 0, .int 0, .int 0]))], w_2, w_6, [(q_9, .inr (5, [.int 0, .null, .null]))]] _ _ := G
  refine lv_dup hx hb dX7_init_30 rfl ?_
  refine z_Jv (bc := [[(q_9, .inr (5, [.int 0, .null, .null]))]]) (br := [[(h, .inr (7, [.ref q_1, .ref q_5, .null, .int 0, .int 0, .null, .int 0, .int 0, .int 0, .int 0, .int 0, .int 0, .int 0]))], w_2, w_6]) (As := []) (rest := [.ref q_9, .ref h]) C G (c_Log_init l T q_9) (kJ_RX7_27 G.2.2.2.2.2 C.2.2.2.2 (Nat.le_of_ble_eq_true rfl) (Nat.le_of_ble_eq_true rfl)) [3] [0, 1, 2] rfl rfl rfl rfl hl.1 dX7_init_31 (Nat.le_of_ble_eq_true rfl) (Nat.le_of_ble_eq_true rfl) (fun b1 H locs hw G => ?_)
  obtain ⟨w_10, rfl, h_11⟩ := hw
  have G : zS T A s.heap s [[(h, .inr (7, [.ref q_1, .ref q_5, .null, .int 0, .int 0, .null, .int 0, .int 0, .int 0, .int 0, .int 0, .int 0, .int 0]))], w_2, w_6, w_10] _ _ := G
  refine z_putF C G hnm clX7 0 rfl 2 (by decide) m_fl_RX7_28 rfl rfl rfl rfl (Nat.le_of_ble_eq_true rfl) dX7_init_34 (fun H locs G => ?_)
  have G : zS T A s.heap s [[(h, .inr (7, [.ref q_1, .ref q_5, .ref q_9, .int 0, .int 0, .null, .int 0, .int 0, .int 0, .int 0, .int 0, .int 0, .int 0]))], w_2, w_6, w_10] _ _ := G
  refine lv_aload_n hx hb dX7_init_37 rfl (lv_at hl 0 rfl) ?_
  refine lv_iconst (v := 0) hx hb dX7_init_38 (by decide) ?_
  refine z_newa C G 1 (ty := .byte) (N' := 0) (a0 := (0, .inl (fun _ => 0))) rfl z_ubyte m_ar_byte rfl (fun _ => rfl) (by decide) (by decide) (Nat.le_of_ble_eq_true rfl) (Nat.le_of_ble_eq_true rfl) (Nat.le_of_ble_eq_true rfl) dX7_init_39 (fun q_13 H G => ?_)
  have G : zS T A s.heap s [[(h, .inr (7, [.ref q_1, .ref q_5, .ref q_9, .int 0, .int 0, .null, .int 0, .int 0, .int 0, .int 0, .int 0, .int 0, .int 0]))], w_2, w_6, w_10, [(q_13, .inl (T.2 1, 0, .inl (fun _ => 0)))]] _ _ := G
  refine z_put C G clX7 0 rfl 5 (by decide) m_fl_RX7_32 rfl rfl rfl (Nat.le_of_ble_eq_true rfl) dX7_init_41 (fun H locs G => ?_)
  have G : zS T A s.heap s [[(h, .inr (7, [.ref q_1, .ref q_5, .ref q_9, .int 0, .int 0, .ref q_13, .int 0, .int 0, .int 0, .int 0, .int 0, .int 0, .int 0]))], w_2, w_6, w_10, [(q_13, .inl (T.2 1, 0, .inl (fun _ => 0)))]] _ _ := G
  have G := G.sub (bs' := [[(h, .inr (7, [.ref q_1, .ref q_5, .ref q_9, .int 0, .int 0, .ref q_13, .int 0, .int 0, .int 0, .int 0, .int 0, .int 0, .int 0]))], [(q_13, .inl (T.2 1, 0, .inl (fun _ => 0)))], w_2, w_6, w_10]) [0, 4, 1, 2, 3] rfl
  obtain ⟨w_14, hw_15, G⟩ : ∃ w : va_W, bReader T h w ∧ zS T A s.heap s [w] _ _ := ⟨[[(h, .inr (7, [.ref q_1, .ref q_5, .ref q_9, .int 0, .int 0, .ref q_13, .int 0, .int 0, .int 0, .int 0, .int 0, .int 0, .int 0]))], [(q_13, .inl (T.2 1, 0, .inl (fun _ => 0)))], w_2, w_6, w_10].flatten, ⟨q_1, q_5, q_9, q_13, 0, (fun _ => 0), 0, 0, 0, 0, 0, 0, 0, 0, w_2, w_6, w_10, rfl, h_3, h_7, h_11⟩, G.re (by simp only [List.flatten_cons, List.flatten_append, List.flatten_nil, List.append_assoc, List.cons_append, List.nil_append, List.append_nil])⟩
  exact z_vret C hr hlocks G (Nat.le_of_ble_eq_true rfl) (Nat.le_of_ble_eq_true rfl) dX7_init_44 ⟨w_14, rfl, hw_15⟩
set_option maxHeartbeats 4000000 in
set_option maxRecDepth 100000 in
/-- c_Posts_init -/
theorem c_Posts_init (l : Launch) (T : zTy) (h : Nat) : zMv l T yX6_init cX6_init 1 3 8 76 [.ref h] [[(h, .inr (6, [.null, .null, .null, .int 0, .int 0, .null]))]] (fun bs => ∃ (w : va_W), bs = [w] ∧ bPosts T h w) := by
  refine zMv_of (own := RX6) (by decide) rfl (Nat.le_of_ble_eq_true rfl) ?_
  intro p e s m args below meth c A ls C hr hlocks hnm hAe G hl
  have hx := C.1
  have hb := C.2.1
  have hl : lv_has ls 1 [(0, .ref h)] := hl
  refine lv_aload_n hx hb dX6_init_0 rfl (lv_at hl 0 rfl) ?_
  refine W.objInit hx hb C.2.2.2.1 (C.2.2.2.2 _ m_ml_RX6_3) (C.2.2.2.2 _ m_im_obj) (C.2.2.2.2 _ m_co_obj) rfl (by rw [C.2.2.1]; exact hl.1) rfl dX6_init_1 (Nat.le_of_ble_eq_true rfl) (Nat.le_of_ble_eq_true rfl) ?_
  refine W.eq (g2 := F0 m 4 ls []) rfl ?_
  refine lv_aload_n hx hb dX6_init_4 rfl (lv_at hl 0 rfl) ?_
  refine z_new C G clX4 (fs := [.int 0, .int 0, .null, .null, .null, .null]) m_cl_RX6_9 m_in_RX4 m_ii_RX4 (fun j hj => by match j, hj with | 0, _ => rfl | 1, _ => rfl | 2, _ => rfl | 3, _ => rfl | 4, _ => rfl | 5, _ => rfl | j + 6, h => exact absurd h (by omega)) (Nat.le_of_ble_eq_true rfl) (Nat.le_of_ble_eq_true rfl) dX6_init_5 (fun q_1 H G => ?_)
  have G : zS T A s.heap s [[(h, .inr (6, [.null, .null, .null, .int 0, .int 0, .null]))], [(q_1, .inr (4, [.int 0, .int 0, .null, .null, .null, .null]))]] _ _ := G
  refine lv_dup hx hb dX6_init_8 rfl ?_
  refine z_Jv (bc := [[(q_1, .inr (4, [.int 0, .int 0, .null, .null, .null, .null]))]]) (br := [[(h, .inr (6, [.null, .null, .null, .int 0, .int 0, .null]))]]) (As := []) (rest := [.ref q_1, .ref h]) C G (c_Land_init l T q_1) (kJ_RX6_11 G.2.2.2.2.2 C.2.2.2.2 (Nat.le_of_ble_eq_true rfl) (Nat.le_of_ble_eq_true rfl)) [1] [0] rfl rfl rfl rfl hl.1 dX6_init_9 (Nat.le_of_ble_eq_true rfl) (Nat.le_of_ble_eq_true rfl) (fun b1 H locs hw G => ?_)
  obtain ⟨w_2, rfl, h_3⟩ := hw
  have G : zS T A s.heap s [[(h, .inr (6, [.null, .null, .null, .int 0, .int 0, .null]))], w_2] _ _ := G
  refine z_put C G clX6 0 rfl 0 (by decide) m_fl_RX6_12 rfl rfl rfl (Nat.le_of_ble_eq_true rfl) dX6_init_12 (fun H locs G => ?_)
  have G : zS T A s.heap s [[(h, .inr (6, [.ref q_1, .null, .null, .int 0, .int 0, .null]))], w_2] _ _ := G
  refine lv_aload_n hx hb dX6_init_15 rfl (lv_at hl 0 rfl) ?_
  refine lv_bipush (v := 7) hx hb dX6_init_16 (by decide) ?_
  refine z_newa C G 0 (ty := .int) (N' := 7) (a0 := (7, .inl (fun _ => 0))) rfl z_uint m_ar_int rfl (fun _ => rfl) (by decide) (by decide) (Nat.le_of_ble_eq_true rfl) (Nat.le_of_ble_eq_true rfl) (Nat.le_of_ble_eq_true rfl) dX6_init_18 (fun q_5 H G => ?_)
  have G : zS T A s.heap s [[(h, .inr (6, [.ref q_1, .null, .null, .int 0, .int 0, .null]))], w_2, [(q_5, .inl (T.2 0, 7, .inl (fun _ => 0)))]] _ _ := G
  refine z_putF C G hnm clX6 0 rfl 1 (by decide) m_fl_RX6_18 rfl rfl rfl rfl (Nat.le_of_ble_eq_true rfl) dX6_init_20 (fun H locs G => ?_)
  have G : zS T A s.heap s [[(h, .inr (6, [.ref q_1, .ref q_5, .null, .int 0, .int 0, .null]))], w_2, [(q_5, .inl (T.2 0, 7, .inl (fun _ => 0)))]] _ _ := G
  refine lv_aload_n hx hb dX6_init_23 rfl (lv_at hl 0 rfl) ?_
  refine lv_bipush (v := 7) hx hb dX6_init_24 (by decide) ?_
  refine z_newa C G 0 (ty := .int) (N' := 7) (a0 := (7, .inl (fun _ => 0))) rfl z_uint m_ar_int rfl (fun _ => rfl) (by decide) (by decide) (Nat.le_of_ble_eq_true rfl) (Nat.le_of_ble_eq_true rfl) (Nat.le_of_ble_eq_true rfl) dX6_init_26 (fun q_6 H G => ?_)
  have G : zS T A s.heap s [[(h, .inr (6, [.ref q_1, .ref q_5, .null, .int 0, .int 0, .null]))], w_2, [(q_5, .inl (T.2 0, 7, .inl (fun _ => 0)))], [(q_6, .inl (T.2 0, 7, .inl (fun _ => 0)))]] _ _ := G
  refine z_putF C G hnm clX6 0 rfl 2 (by decide) m_fl_RX6_22 rfl rfl rfl rfl (Nat.le_of_ble_eq_true rfl) dX6_init_28 (fun H locs G => ?_)
  have G : zS T A s.heap s [[(h, .inr (6, [.ref q_1, .ref q_5, .ref q_6, .int 0, .int 0, .null]))], w_2, [(q_5, .inl (T.2 0, 7, .inl (fun _ => 0)))], [(q_6, .inl (T.2 0, 7, .inl (fun _ => 0)))]] _ _ := G
  refine lv_aload_n hx hb dX6_init_31 rfl (lv_at hl 0 rfl) ?_
  refine lv_bipush (v := 7) hx hb dX6_init_32 (by decide) ?_
  refine z_newa C G 0 (ty := .int) (N' := 7) (a0 := (7, .inl (fun _ => 0))) rfl z_uint m_ar_int rfl (fun _ => rfl) (by decide) (by decide) (Nat.le_of_ble_eq_true rfl) (Nat.le_of_ble_eq_true rfl) (Nat.le_of_ble_eq_true rfl) dX6_init_34 (fun q_7 H G => ?_)
  have G : zS T A s.heap s [[(h, .inr (6, [.ref q_1, .ref q_5, .ref q_6, .int 0, .int 0, .null]))], w_2, [(q_5, .inl (T.2 0, 7, .inl (fun _ => 0)))], [(q_6, .inl (T.2 0, 7, .inl (fun _ => 0)))], [(q_7, .inl (T.2 0, 7, .inl (fun _ => 0)))]] _ _ := G
  refine z_putF C G hnm clX6 0 rfl 5 (by decide) m_fl_RX6_25 rfl rfl rfl rfl (Nat.le_of_ble_eq_true rfl) dX6_init_36 (fun H locs G => ?_)
  have G : zS T A s.heap s [[(h, .inr (6, [.ref q_1, .ref q_5, .ref q_6, .int 0, .int 0, .ref q_7]))], w_2, [(q_5, .inl (T.2 0, 7, .inl (fun _ => 0)))], [(q_6, .inl (T.2 0, 7, .inl (fun _ => 0)))], [(q_7, .inl (T.2 0, 7, .inl (fun _ => 0)))]] _ _ := G
  have G := G.sub (bs' := [[(h, .inr (6, [.ref q_1, .ref q_5, .ref q_6, .int 0, .int 0, .ref q_7]))], [(q_5, .inl (T.2 0, 7, .inl (fun _ => 0)))], [(q_6, .inl (T.2 0, 7, .inl (fun _ => 0)))], [(q_7, .inl (T.2 0, 7, .inl (fun _ => 0)))], w_2]) [0, 2, 3, 4, 1] rfl
  obtain ⟨w_8, hw_9, G⟩ : ∃ w : va_W, bPosts T h w ∧ zS T A s.heap s [w] _ _ := ⟨[[(h, .inr (6, [.ref q_1, .ref q_5, .ref q_6, .int 0, .int 0, .ref q_7]))], [(q_5, .inl (T.2 0, 7, .inl (fun _ => 0)))], [(q_6, .inl (T.2 0, 7, .inl (fun _ => 0)))], [(q_7, .inl (T.2 0, 7, .inl (fun _ => 0)))], w_2].flatten, ⟨q_1, q_5, q_6, q_7, 0, 0, (fun _ => 0), (fun _ => 0), (fun _ => 0), w_2, rfl, h_3⟩, G.re (by simp only [List.flatten_cons, List.flatten_append, List.flatten_nil, List.append_assoc, List.cons_append, List.nil_append, List.append_nil])⟩
  exact z_vret C hr hlocks G (Nat.le_of_ble_eq_true rfl) (Nat.le_of_ble_eq_true rfl) dX6_init_39 ⟨w_8, rfl, hw_9⟩
set_option maxHeartbeats 4000000 in
set_option maxRecDepth 100000 in
/-- c_Trail_init -/
theorem c_Trail_init (l : Launch) (T : zTy) (h : Nat) : zMv l T yX10_init cX10_init 1 5 11 96 [.ref h] [[(h, .inr (9, [.null, .null, .null, .int 0, .int 0, .int 0, .int 0, .int 0]))]] (fun bs => ∃ (w : va_W), bs = [w] ∧ bTrail T h w) := by
  refine zMv_of (own := RX10) (by decide) rfl (Nat.le_of_ble_eq_true rfl) ?_
  intro p e s m args below meth c A ls C hr hlocks hnm hAe G hl
  have hx := C.1
  have hb := C.2.1
  have hl : lv_has ls 1 [(0, .ref h)] := hl
  refine lv_aload_n hx hb dX10_init_0 rfl (lv_at hl 0 rfl) ?_
  refine W.objInit hx hb C.2.2.2.1 (C.2.2.2.2 _ m_ml_RX10_3) (C.2.2.2.2 _ m_im_obj) (C.2.2.2.2 _ m_co_obj) rfl (by rw [C.2.2.1]; exact hl.1) rfl dX10_init_1 (Nat.le_of_ble_eq_true rfl) (Nat.le_of_ble_eq_true rfl) ?_
  refine W.eq (g2 := F0 m 4 ls []) rfl ?_
  refine lv_aload_n hx hb dX10_init_4 rfl (lv_at hl 0 rfl) ?_
  refine z_new C G clX6 (fs := [.null, .null, .null, .int 0, .int 0, .null]) m_cl_RX10_9 m_in_RX6 m_ii_RX6 (fun j hj => by match j, hj with | 0, _ => rfl | 1, _ => rfl | 2, _ => rfl | 3, _ => rfl | 4, _ => rfl | 5, _ => rfl | j + 6, h => exact absurd h (by omega)) (Nat.le_of_ble_eq_true rfl) (Nat.le_of_ble_eq_true rfl) dX10_init_5 (fun q_1 H G => ?_)
  have G : zS T A s.heap s [[(h, .inr (9, [.null, .null, .null, .int 0, .int 0, .int 0, .int 0, .int 0]))], [(q_1, .inr (6, [.null, .null, .null, .int 0, .int 0, .null]))]] _ _ := G
  refine lv_dup hx hb dX10_init_8 rfl ?_
  refine z_Jv (bc := [[(q_1, .inr (6, [.null, .null, .null, .int 0, .int 0, .null]))]]) (br := [[(h, .inr (9, [.null, .null, .null, .int 0, .int 0, .int 0, .int 0, .int 0]))]]) (As := []) (rest := [.ref q_1, .ref h]) C G (c_Posts_init l T q_1) (kJ_RX10_11 G.2.2.2.2.2 C.2.2.2.2 (Nat.le_of_ble_eq_true rfl) (Nat.le_of_ble_eq_true rfl)) [1] [0] rfl rfl rfl rfl hl.1 dX10_init_9 (Nat.le_of_ble_eq_true rfl) (Nat.le_of_ble_eq_true rfl) (fun b1 H locs hw G => ?_)
  obtain ⟨w_2, rfl, h_3⟩ := hw
  have G : zS T A s.heap s [[(h, .inr (9, [.null, .null, .null, .int 0, .int 0, .int 0, .int 0, .int 0]))], w_2] _ _ := G
  refine z_putF C G hnm clX10 0 rfl 0 (by decide) m_fl_RX10_12 rfl rfl rfl rfl (Nat.le_of_ble_eq_true rfl) dX10_init_12 (fun H locs G => ?_)
  have G : zS T A s.heap s [[(h, .inr (9, [.ref q_1, .null, .null, .int 0, .int 0, .int 0, .int 0, .int 0]))], w_2] _ _ := G
  refine lv_aload_n hx hb dX10_init_15 rfl (lv_at hl 0 rfl) ?_
  refine lv_bipush (v := 7) hx hb dX10_init_16 (by decide) ?_
  refine z_newa C G 0 (ty := .int) (N' := 7) (a0 := (7, .inl (fun _ => 0))) rfl z_uint m_ar_int rfl (fun _ => rfl) (by decide) (by decide) (Nat.le_of_ble_eq_true rfl) (Nat.le_of_ble_eq_true rfl) (Nat.le_of_ble_eq_true rfl) dX10_init_18 (fun q_5 H G => ?_)
  have G : zS T A s.heap s [[(h, .inr (9, [.ref q_1, .null, .null, .int 0, .int 0, .int 0, .int 0, .int 0]))], w_2, [(q_5, .inl (T.2 0, 7, .inl (fun _ => 0)))]] _ _ := G
  refine z_putF C G hnm clX10 0 rfl 1 (by decide) m_fl_RX10_18 rfl rfl rfl rfl (Nat.le_of_ble_eq_true rfl) dX10_init_20 (fun H locs G => ?_)
  have G : zS T A s.heap s [[(h, .inr (9, [.ref q_1, .ref q_5, .null, .int 0, .int 0, .int 0, .int 0, .int 0]))], w_2, [(q_5, .inl (T.2 0, 7, .inl (fun _ => 0)))]] _ _ := G
  refine lv_aload_n hx hb dX10_init_23 rfl (lv_at hl 0 rfl) ?_
  refine lv_bipush (v := 7) hx hb dX10_init_24 (by decide) ?_
  refine z_newa C G 0 (ty := .int) (N' := 7) (a0 := (7, .inl (fun _ => 0))) rfl z_uint m_ar_int rfl (fun _ => rfl) (by decide) (by decide) (Nat.le_of_ble_eq_true rfl) (Nat.le_of_ble_eq_true rfl) (Nat.le_of_ble_eq_true rfl) dX10_init_26 (fun q_6 H G => ?_)
  have G : zS T A s.heap s [[(h, .inr (9, [.ref q_1, .ref q_5, .null, .int 0, .int 0, .int 0, .int 0, .int 0]))], w_2, [(q_5, .inl (T.2 0, 7, .inl (fun _ => 0)))], [(q_6, .inl (T.2 0, 7, .inl (fun _ => 0)))]] _ _ := G
  refine z_putF C G hnm clX10 0 rfl 2 (by decide) m_fl_RX10_22 rfl rfl rfl rfl (Nat.le_of_ble_eq_true rfl) dX10_init_28 (fun H locs G => ?_)
  have G : zS T A s.heap s [[(h, .inr (9, [.ref q_1, .ref q_5, .ref q_6, .int 0, .int 0, .int 0, .int 0, .int 0]))], w_2, [(q_5, .inl (T.2 0, 7, .inl (fun _ => 0)))], [(q_6, .inl (T.2 0, 7, .inl (fun _ => 0)))]] _ _ := G
  have G := G.sub (bs' := [[(h, .inr (9, [.ref q_1, .ref q_5, .ref q_6, .int 0, .int 0, .int 0, .int 0, .int 0]))], [(q_5, .inl (T.2 0, 7, .inl (fun _ => 0)))], [(q_6, .inl (T.2 0, 7, .inl (fun _ => 0)))], w_2]) [0, 2, 3, 1] rfl
  obtain ⟨w_7, hw_8, G⟩ : ∃ w : va_W, bTrail T h w ∧ zS T A s.heap s [w] _ _ := ⟨[[(h, .inr (9, [.ref q_1, .ref q_5, .ref q_6, .int 0, .int 0, .int 0, .int 0, .int 0]))], [(q_5, .inl (T.2 0, 7, .inl (fun _ => 0)))], [(q_6, .inl (T.2 0, 7, .inl (fun _ => 0)))], w_2].flatten, ⟨q_1, q_5, q_6, 0, 0, 0, 0, 0, (fun _ => 0), (fun _ => 0), w_2, rfl, h_3⟩, G.re (by simp only [List.flatten_cons, List.flatten_append, List.flatten_nil, List.append_assoc, List.cons_append, List.nil_append, List.append_nil])⟩
  exact z_vret C hr hlocks G (Nat.le_of_ble_eq_true rfl) (Nat.le_of_ble_eq_true rfl) dX10_init_31 ⟨w_7, rfl, hw_8⟩
set_option maxHeartbeats 4000000 in
set_option maxRecDepth 100000 in
/-- c_Course_init -/
theorem c_Course_init (l : Launch) (T : zTy) (h : Nat) : zMv l T yX1_init cX1_init 1 5 15 144 [.ref h] [[(h, .inr (1, [.null, .null, .int 0, .null, .int 0, .int 0, .int 0, .int 0, .int 0, .int 0, .int 0]))]] (fun bs => ∃ (w : va_W), bs = [w] ∧ bCourse T h w) := by
  refine zMv_of (own := RX1) (by decide) rfl (Nat.le_of_ble_eq_true rfl) ?_
  intro p e s m args below meth c A ls C hr hlocks hnm hAe G hl
  have hx := C.1
  have hb := C.2.1
  have hl : lv_has ls 1 [(0, .ref h)] := hl
  refine lv_aload_n hx hb dX1_init_0 rfl (lv_at hl 0 rfl) ?_
  refine W.objInit hx hb C.2.2.2.1 (C.2.2.2.2 _ m_ml_RX1_3) (C.2.2.2.2 _ m_im_obj) (C.2.2.2.2 _ m_co_obj) rfl (by rw [C.2.2.1]; exact hl.1) rfl dX1_init_1 (Nat.le_of_ble_eq_true rfl) (Nat.le_of_ble_eq_true rfl) ?_
  refine W.eq (g2 := F0 m 4 ls []) rfl ?_
  refine lv_aload_n hx hb dX1_init_4 rfl (lv_at hl 0 rfl) ?_
  refine z_new C G clX6 (fs := [.null, .null, .null, .int 0, .int 0, .null]) m_cl_RX1_9 m_in_RX6 m_ii_RX6 (fun j hj => by match j, hj with | 0, _ => rfl | 1, _ => rfl | 2, _ => rfl | 3, _ => rfl | 4, _ => rfl | 5, _ => rfl | j + 6, h => exact absurd h (by omega)) (Nat.le_of_ble_eq_true rfl) (Nat.le_of_ble_eq_true rfl) dX1_init_5 (fun q_1 H G => ?_)
  have G : zS T A s.heap s [[(h, .inr (1, [.null, .null, .int 0, .null, .int 0, .int 0, .int 0, .int 0, .int 0, .int 0, .int 0]))], [(q_1, .inr (6, [.null, .null, .null, .int 0, .int 0, .null]))]] _ _ := G
  refine lv_dup hx hb dX1_init_8 rfl ?_
  refine z_Jv (bc := [[(q_1, .inr (6, [.null, .null, .null, .int 0, .int 0, .null]))]]) (br := [[(h, .inr (1, [.null, .null, .int 0, .null, .int 0, .int 0, .int 0, .int 0, .int 0, .int 0, .int 0]))]]) (As := []) (rest := [.ref q_1, .ref h]) C G (c_Posts_init l T q_1) (kJ_RX1_11 G.2.2.2.2.2 C.2.2.2.2 (Nat.le_of_ble_eq_true rfl) (Nat.le_of_ble_eq_true rfl)) [1] [0] rfl rfl rfl rfl hl.1 dX1_init_9 (Nat.le_of_ble_eq_true rfl) (Nat.le_of_ble_eq_true rfl) (fun b1 H locs hw G => ?_)
  obtain ⟨w_2, rfl, h_3⟩ := hw
  have G : zS T A s.heap s [[(h, .inr (1, [.null, .null, .int 0, .null, .int 0, .int 0, .int 0, .int 0, .int 0, .int 0, .int 0]))], w_2] _ _ := G
  refine z_putF C G hnm clX1 0 rfl 0 (by decide) m_fl_RX1_12 rfl rfl rfl rfl (Nat.le_of_ble_eq_true rfl) dX1_init_12 (fun H locs G => ?_)
  have G : zS T A s.heap s [[(h, .inr (1, [.ref q_1, .null, .int 0, .null, .int 0, .int 0, .int 0, .int 0, .int 0, .int 0, .int 0]))], w_2] _ _ := G
  refine lv_aload_n hx hb dX1_init_15 rfl (lv_at hl 0 rfl) ?_
  refine lv_bipush (v := 7) hx hb dX1_init_16 (by decide) ?_
  refine z_newa C G 0 (ty := .int) (N' := 7) (a0 := (7, .inl (fun _ => 0))) rfl z_uint m_ar_int rfl (fun _ => rfl) (by decide) (by decide) (Nat.le_of_ble_eq_true rfl) (Nat.le_of_ble_eq_true rfl) (Nat.le_of_ble_eq_true rfl) dX1_init_18 (fun q_5 H G => ?_)
  have G : zS T A s.heap s [[(h, .inr (1, [.ref q_1, .null, .int 0, .null, .int 0, .int 0, .int 0, .int 0, .int 0, .int 0, .int 0]))], w_2, [(q_5, .inl (T.2 0, 7, .inl (fun _ => 0)))]] _ _ := G
  refine z_putF C G hnm clX1 0 rfl 1 (by decide) m_fl_RX1_18 rfl rfl rfl rfl (Nat.le_of_ble_eq_true rfl) dX1_init_20 (fun H locs G => ?_)
  have G : zS T A s.heap s [[(h, .inr (1, [.ref q_1, .ref q_5, .int 0, .null, .int 0, .int 0, .int 0, .int 0, .int 0, .int 0, .int 0]))], w_2, [(q_5, .inl (T.2 0, 7, .inl (fun _ => 0)))]] _ _ := G
  refine lv_aload_n hx hb dX1_init_23 rfl (lv_at hl 0 rfl) ?_
  refine z_new C G clX4 (fs := [.int 0, .int 0, .null, .null, .null, .null]) m_cl_RX1_22 m_in_RX4 m_ii_RX4 (fun j hj => by match j, hj with | 0, _ => rfl | 1, _ => rfl | 2, _ => rfl | 3, _ => rfl | 4, _ => rfl | 5, _ => rfl | j + 6, h => exact absurd h (by omega)) (Nat.le_of_ble_eq_true rfl) (Nat.le_of_ble_eq_true rfl) dX1_init_24 (fun q_6 H G => ?_)
  have G : zS T A s.heap s [[(h, .inr (1, [.ref q_1, .ref q_5, .int 0, .null, .int 0, .int 0, .int 0, .int 0, .int 0, .int 0, .int 0]))], w_2, [(q_5, .inl (T.2 0, 7, .inl (fun _ => 0)))], [(q_6, .inr (4, [.int 0, .int 0, .null, .null, .null, .null]))]] _ _ := G
  refine lv_dup hx hb dX1_init_27 rfl ?_
  refine z_Jv (bc := [[(q_6, .inr (4, [.int 0, .int 0, .null, .null, .null, .null]))]]) (br := [[(h, .inr (1, [.ref q_1, .ref q_5, .int 0, .null, .int 0, .int 0, .int 0, .int 0, .int 0, .int 0, .int 0]))], w_2, [(q_5, .inl (T.2 0, 7, .inl (fun _ => 0)))]]) (As := []) (rest := [.ref q_6, .ref h]) C G (c_Land_init l T q_6) (kJ_RX1_24 G.2.2.2.2.2 C.2.2.2.2 (Nat.le_of_ble_eq_true rfl) (Nat.le_of_ble_eq_true rfl)) [3] [0, 1, 2] rfl rfl rfl rfl hl.1 dX1_init_28 (Nat.le_of_ble_eq_true rfl) (Nat.le_of_ble_eq_true rfl) (fun b1 H locs hw G => ?_)
  obtain ⟨w_7, rfl, h_8⟩ := hw
  have G : zS T A s.heap s [[(h, .inr (1, [.ref q_1, .ref q_5, .int 0, .null, .int 0, .int 0, .int 0, .int 0, .int 0, .int 0, .int 0]))], w_2, [(q_5, .inl (T.2 0, 7, .inl (fun _ => 0)))], w_7] _ _ := G
  refine z_put C G clX1 0 rfl 3 (by decide) m_fl_RX1_25 rfl rfl rfl (Nat.le_of_ble_eq_true rfl) dX1_init_31 (fun H locs G => ?_)
  have G : zS T A s.heap s [[(h, .inr (1, [.ref q_1, .ref q_5, .int 0, .ref q_6, .int 0, .int 0, .int 0, .int 0, .int 0, .int 0, .int 0]))], w_2, [(q_5, .inl (T.2 0, 7, .inl (fun _ => 0)))], w_7] _ _ := G
  have G := G.sub (bs' := [[(h, .inr (1, [.ref q_1, .ref q_5, .int 0, .ref q_6, .int 0, .int 0, .int 0, .int 0, .int 0, .int 0, .int 0]))], [(q_5, .inl (T.2 0, 7, .inl (fun _ => 0)))], w_2, w_7]) [0, 2, 1, 3] rfl
  obtain ⟨w_10, hw_11, G⟩ : ∃ w : va_W, bCourse T h w ∧ zS T A s.heap s [w] _ _ := ⟨[[(h, .inr (1, [.ref q_1, .ref q_5, .int 0, .ref q_6, .int 0, .int 0, .int 0, .int 0, .int 0, .int 0, .int 0]))], [(q_5, .inl (T.2 0, 7, .inl (fun _ => 0)))], w_2, w_7].flatten, ⟨q_1, q_5, q_6, 0, 0, 0, 0, 0, 0, 0, 0, (fun _ => 0), w_2, w_7, rfl, h_3, h_8⟩, G.re (by simp only [List.flatten_cons, List.flatten_append, List.flatten_nil, List.append_assoc, List.cons_append, List.nil_append, List.append_nil])⟩
  exact z_vret C hr hlocks G (Nat.le_of_ble_eq_true rfl) (Nat.le_of_ble_eq_true rfl) dX1_init_34 ⟨w_10, rfl, hw_11⟩
set_option maxHeartbeats 4000000 in
set_option maxRecDepth 100000 in
/-- c_Ways_init -/
theorem c_Ways_init (l : Launch) (T : zTy) (h : Nat) : zMv l T yX0_init cX0_init 1 3 11 76 [.ref h] [[(h, .inr (0, [.int 0, .int 0, .null, .int 0, .null, .null, .null, .null, .null, .null]))]] (fun bs => ∃ (w : va_W), bs = [w] ∧ bWays T h w) := by
  refine zMv_of (own := RX0) (by decide) rfl (Nat.le_of_ble_eq_true rfl) ?_
  intro p e s m args below meth c A ls C hr hlocks hnm hAe G hl
  have hx := C.1
  have hb := C.2.1
  have hl : lv_has ls 1 [(0, .ref h)] := hl
  refine lv_aload_n hx hb dX0_init_0 rfl (lv_at hl 0 rfl) ?_
  refine W.objInit hx hb C.2.2.2.1 (C.2.2.2.2 _ m_ml_RX0_5) (C.2.2.2.2 _ m_im_obj) (C.2.2.2.2 _ m_co_obj) rfl (by rw [C.2.2.1]; exact hl.1) rfl dX0_init_1 (Nat.le_of_ble_eq_true rfl) (Nat.le_of_ble_eq_true rfl) ?_
  refine W.eq (g2 := F0 m 4 ls []) rfl ?_
  refine lv_aload_n hx hb dX0_init_4 rfl (lv_at hl 0 rfl) ?_
  refine z_new C G clX4 (fs := [.int 0, .int 0, .null, .null, .null, .null]) m_cl_RX0_11 m_in_RX4 m_ii_RX4 (fun j hj => by match j, hj with | 0, _ => rfl | 1, _ => rfl | 2, _ => rfl | 3, _ => rfl | 4, _ => rfl | 5, _ => rfl | j + 6, h => exact absurd h (by omega)) (Nat.le_of_ble_eq_true rfl) (Nat.le_of_ble_eq_true rfl) dX0_init_5 (fun q_1 H G => ?_)
  have G : zS T A s.heap s [[(h, .inr (0, [.int 0, .int 0, .null, .int 0, .null, .null, .null, .null, .null, .null]))], [(q_1, .inr (4, [.int 0, .int 0, .null, .null, .null, .null]))]] _ _ := G
  refine lv_dup hx hb dX0_init_8 rfl ?_
  refine z_Jv (bc := [[(q_1, .inr (4, [.int 0, .int 0, .null, .null, .null, .null]))]]) (br := [[(h, .inr (0, [.int 0, .int 0, .null, .int 0, .null, .null, .null, .null, .null, .null]))]]) (As := []) (rest := [.ref q_1, .ref h]) C G (c_Land_init l T q_1) (kJ_RX0_13 G.2.2.2.2.2 C.2.2.2.2 (Nat.le_of_ble_eq_true rfl) (Nat.le_of_ble_eq_true rfl)) [1] [0] rfl rfl rfl rfl hl.1 dX0_init_9 (Nat.le_of_ble_eq_true rfl) (Nat.le_of_ble_eq_true rfl) (fun b1 H locs hw G => ?_)
  obtain ⟨w_2, rfl, h_3⟩ := hw
  have G : zS T A s.heap s [[(h, .inr (0, [.int 0, .int 0, .null, .int 0, .null, .null, .null, .null, .null, .null]))], w_2] _ _ := G
  refine z_put C G clX0 0 rfl 2 (by decide) m_fl_RX0_14 rfl rfl rfl (Nat.le_of_ble_eq_true rfl) dX0_init_12 (fun H locs G => ?_)
  have G : zS T A s.heap s [[(h, .inr (0, [.int 0, .int 0, .ref q_1, .int 0, .null, .null, .null, .null, .null, .null]))], w_2] _ _ := G
  refine lv_aload_n hx hb dX0_init_15 rfl (lv_at hl 0 rfl) ?_
  refine lv_bipush (v := 7) hx hb dX0_init_16 (by decide) ?_
  refine z_newa C G 0 (ty := .int) (N' := 7) (a0 := (7, .inl (fun _ => 0))) rfl z_uint m_ar_int rfl (fun _ => rfl) (by decide) (by decide) (Nat.le_of_ble_eq_true rfl) (Nat.le_of_ble_eq_true rfl) (Nat.le_of_ble_eq_true rfl) dX0_init_18 (fun q_5 H G => ?_)
  have G : zS T A s.heap s [[(h, .inr (0, [.int 0, .int 0, .ref q_1, .int 0, .null, .null, .null, .null, .null, .null]))], w_2, [(q_5, .inl (T.2 0, 7, .inl (fun _ => 0)))]] _ _ := G
  refine z_putF C G hnm clX0 0 rfl 4 (by decide) m_fl_RX0_18 rfl rfl rfl rfl (Nat.le_of_ble_eq_true rfl) dX0_init_20 (fun H locs G => ?_)
  have G : zS T A s.heap s [[(h, .inr (0, [.int 0, .int 0, .ref q_1, .int 0, .ref q_5, .null, .null, .null, .null, .null]))], w_2, [(q_5, .inl (T.2 0, 7, .inl (fun _ => 0)))]] _ _ := G
  refine lv_aload_n hx hb dX0_init_23 rfl (lv_at hl 0 rfl) ?_
  refine lv_bipush (v := 7) hx hb dX0_init_24 (by decide) ?_
  refine z_newa C G 0 (ty := .int) (N' := 7) (a0 := (7, .inl (fun _ => 0))) rfl z_uint m_ar_int rfl (fun _ => rfl) (by decide) (by decide) (Nat.le_of_ble_eq_true rfl) (Nat.le_of_ble_eq_true rfl) (Nat.le_of_ble_eq_true rfl) dX0_init_26 (fun q_6 H G => ?_)
  have G : zS T A s.heap s [[(h, .inr (0, [.int 0, .int 0, .ref q_1, .int 0, .ref q_5, .null, .null, .null, .null, .null]))], w_2, [(q_5, .inl (T.2 0, 7, .inl (fun _ => 0)))], [(q_6, .inl (T.2 0, 7, .inl (fun _ => 0)))]] _ _ := G
  refine z_putF C G hnm clX0 0 rfl 5 (by decide) m_fl_RX0_22 rfl rfl rfl rfl (Nat.le_of_ble_eq_true rfl) dX0_init_28 (fun H locs G => ?_)
  have G : zS T A s.heap s [[(h, .inr (0, [.int 0, .int 0, .ref q_1, .int 0, .ref q_5, .ref q_6, .null, .null, .null, .null]))], w_2, [(q_5, .inl (T.2 0, 7, .inl (fun _ => 0)))], [(q_6, .inl (T.2 0, 7, .inl (fun _ => 0)))]] _ _ := G
  refine lv_aload_n hx hb dX0_init_31 rfl (lv_at hl 0 rfl) ?_
  refine lv_bipush (v := 7) hx hb dX0_init_32 (by decide) ?_
  refine z_newa C G 0 (ty := .int) (N' := 7) (a0 := (7, .inl (fun _ => 0))) rfl z_uint m_ar_int rfl (fun _ => rfl) (by decide) (by decide) (Nat.le_of_ble_eq_true rfl) (Nat.le_of_ble_eq_true rfl) (Nat.le_of_ble_eq_true rfl) dX0_init_34 (fun q_7 H G => ?_)
  have G : zS T A s.heap s [[(h, .inr (0, [.int 0, .int 0, .ref q_1, .int 0, .ref q_5, .ref q_6, .null, .null, .null, .null]))], w_2, [(q_5, .inl (T.2 0, 7, .inl (fun _ => 0)))], [(q_6, .inl (T.2 0, 7, .inl (fun _ => 0)))], [(q_7, .inl (T.2 0, 7, .inl (fun _ => 0)))]] _ _ := G
  refine z_putF C G hnm clX0 0 rfl 6 (by decide) m_fl_RX0_25 rfl rfl rfl rfl (Nat.le_of_ble_eq_true rfl) dX0_init_36 (fun H locs G => ?_)
  have G : zS T A s.heap s [[(h, .inr (0, [.int 0, .int 0, .ref q_1, .int 0, .ref q_5, .ref q_6, .ref q_7, .null, .null, .null]))], w_2, [(q_5, .inl (T.2 0, 7, .inl (fun _ => 0)))], [(q_6, .inl (T.2 0, 7, .inl (fun _ => 0)))], [(q_7, .inl (T.2 0, 7, .inl (fun _ => 0)))]] _ _ := G
  refine lv_aload_n hx hb dX0_init_39 rfl (lv_at hl 0 rfl) ?_
  refine lv_iconst (v := 0) hx hb dX0_init_40 (by decide) ?_
  refine z_newa C G 0 (ty := .int) (N' := 0) (a0 := (0, .inl (fun _ => 0))) rfl z_uint m_ar_int rfl (fun _ => rfl) (by decide) (by decide) (Nat.le_of_ble_eq_true rfl) (Nat.le_of_ble_eq_true rfl) (Nat.le_of_ble_eq_true rfl) dX0_init_41 (fun q_8 H G => ?_)
  have G : zS T A s.heap s [[(h, .inr (0, [.int 0, .int 0, .ref q_1, .int 0, .ref q_5, .ref q_6, .ref q_7, .null, .null, .null]))], w_2, [(q_5, .inl (T.2 0, 7, .inl (fun _ => 0)))], [(q_6, .inl (T.2 0, 7, .inl (fun _ => 0)))], [(q_7, .inl (T.2 0, 7, .inl (fun _ => 0)))], [(q_8, .inl (T.2 0, 0, .inl (fun _ => 0)))]] _ _ := G
  refine z_put C G clX0 0 rfl 7 (by decide) m_fl_RX0_28 rfl rfl rfl (Nat.le_of_ble_eq_true rfl) dX0_init_43 (fun H locs G => ?_)
  have G : zS T A s.heap s [[(h, .inr (0, [.int 0, .int 0, .ref q_1, .int 0, .ref q_5, .ref q_6, .ref q_7, .ref q_8, .null, .null]))], w_2, [(q_5, .inl (T.2 0, 7, .inl (fun _ => 0)))], [(q_6, .inl (T.2 0, 7, .inl (fun _ => 0)))], [(q_7, .inl (T.2 0, 7, .inl (fun _ => 0)))], [(q_8, .inl (T.2 0, 0, .inl (fun _ => 0)))]] _ _ := G
  refine lv_aload_n hx hb dX0_init_46 rfl (lv_at hl 0 rfl) ?_
  refine lv_iconst (v := 0) hx hb dX0_init_47 (by decide) ?_
  refine z_newa C G 0 (ty := .int) (N' := 0) (a0 := (0, .inl (fun _ => 0))) rfl z_uint m_ar_int rfl (fun _ => rfl) (by decide) (by decide) (Nat.le_of_ble_eq_true rfl) (Nat.le_of_ble_eq_true rfl) (Nat.le_of_ble_eq_true rfl) dX0_init_48 (fun q_9 H G => ?_)
  have G : zS T A s.heap s [[(h, .inr (0, [.int 0, .int 0, .ref q_1, .int 0, .ref q_5, .ref q_6, .ref q_7, .ref q_8, .null, .null]))], w_2, [(q_5, .inl (T.2 0, 7, .inl (fun _ => 0)))], [(q_6, .inl (T.2 0, 7, .inl (fun _ => 0)))], [(q_7, .inl (T.2 0, 7, .inl (fun _ => 0)))], [(q_8, .inl (T.2 0, 0, .inl (fun _ => 0)))], [(q_9, .inl (T.2 0, 0, .inl (fun _ => 0)))]] _ _ := G
  refine z_put C G clX0 0 rfl 8 (by decide) m_fl_RX0_31 rfl rfl rfl (Nat.le_of_ble_eq_true rfl) dX0_init_50 (fun H locs G => ?_)
  have G : zS T A s.heap s [[(h, .inr (0, [.int 0, .int 0, .ref q_1, .int 0, .ref q_5, .ref q_6, .ref q_7, .ref q_8, .ref q_9, .null]))], w_2, [(q_5, .inl (T.2 0, 7, .inl (fun _ => 0)))], [(q_6, .inl (T.2 0, 7, .inl (fun _ => 0)))], [(q_7, .inl (T.2 0, 7, .inl (fun _ => 0)))], [(q_8, .inl (T.2 0, 0, .inl (fun _ => 0)))], [(q_9, .inl (T.2 0, 0, .inl (fun _ => 0)))]] _ _ := G
  refine lv_aload_n hx hb dX0_init_53 rfl (lv_at hl 0 rfl) ?_
  refine lv_iconst (v := 0) hx hb dX0_init_54 (by decide) ?_
  refine z_newa C G 0 (ty := .int) (N' := 0) (a0 := (0, .inl (fun _ => 0))) rfl z_uint m_ar_int rfl (fun _ => rfl) (by decide) (by decide) (Nat.le_of_ble_eq_true rfl) (Nat.le_of_ble_eq_true rfl) (Nat.le_of_ble_eq_true rfl) dX0_init_55 (fun q_10 H G => ?_)
  have G : zS T A s.heap s [[(h, .inr (0, [.int 0, .int 0, .ref q_1, .int 0, .ref q_5, .ref q_6, .ref q_7, .ref q_8, .ref q_9, .null]))], w_2, [(q_5, .inl (T.2 0, 7, .inl (fun _ => 0)))], [(q_6, .inl (T.2 0, 7, .inl (fun _ => 0)))], [(q_7, .inl (T.2 0, 7, .inl (fun _ => 0)))], [(q_8, .inl (T.2 0, 0, .inl (fun _ => 0)))], [(q_9, .inl (T.2 0, 0, .inl (fun _ => 0)))], [(q_10, .inl (T.2 0, 0, .inl (fun _ => 0)))]] _ _ := G
  refine z_put C G clX0 0 rfl 9 (by decide) m_fl_RX0_34 rfl rfl rfl (Nat.le_of_ble_eq_true rfl) dX0_init_57 (fun H locs G => ?_)
  have G : zS T A s.heap s [[(h, .inr (0, [.int 0, .int 0, .ref q_1, .int 0, .ref q_5, .ref q_6, .ref q_7, .ref q_8, .ref q_9, .ref q_10]))], w_2, [(q_5, .inl (T.2 0, 7, .inl (fun _ => 0)))], [(q_6, .inl (T.2 0, 7, .inl (fun _ => 0)))], [(q_7, .inl (T.2 0, 7, .inl (fun _ => 0)))], [(q_8, .inl (T.2 0, 0, .inl (fun _ => 0)))], [(q_9, .inl (T.2 0, 0, .inl (fun _ => 0)))], [(q_10, .inl (T.2 0, 0, .inl (fun _ => 0)))]] _ _ := G
  have G := G.sub (bs' := [[(h, .inr (0, [.int 0, .int 0, .ref q_1, .int 0, .ref q_5, .ref q_6, .ref q_7, .ref q_8, .ref q_9, .ref q_10]))], [(q_5, .inl (T.2 0, 7, .inl (fun _ => 0)))], [(q_6, .inl (T.2 0, 7, .inl (fun _ => 0)))], [(q_7, .inl (T.2 0, 7, .inl (fun _ => 0)))], [(q_8, .inl (T.2 0, 0, .inl (fun _ => 0)))], [(q_9, .inl (T.2 0, 0, .inl (fun _ => 0)))], [(q_10, .inl (T.2 0, 0, .inl (fun _ => 0)))], w_2]) [0, 2, 3, 4, 5, 6, 7, 1] rfl
  obtain ⟨w_11, hw_12, G⟩ : ∃ w : va_W, bWays T h w ∧ zS T A s.heap s [w] _ _ := ⟨[[(h, .inr (0, [.int 0, .int 0, .ref q_1, .int 0, .ref q_5, .ref q_6, .ref q_7, .ref q_8, .ref q_9, .ref q_10]))], [(q_5, .inl (T.2 0, 7, .inl (fun _ => 0)))], [(q_6, .inl (T.2 0, 7, .inl (fun _ => 0)))], [(q_7, .inl (T.2 0, 7, .inl (fun _ => 0)))], [(q_8, .inl (T.2 0, 0, .inl (fun _ => 0)))], [(q_9, .inl (T.2 0, 0, .inl (fun _ => 0)))], [(q_10, .inl (T.2 0, 0, .inl (fun _ => 0)))], w_2].flatten, ⟨q_1, q_5, q_6, q_7, q_8, q_9, q_10, 0, 0, 0, (fun _ => 0), (fun _ => 0), (fun _ => 0), (fun _ => 0), (fun _ => 0), (fun _ => 0), 0, 0, 0, w_2, rfl, h_3⟩, G.re (by simp only [List.flatten_cons, List.flatten_append, List.flatten_nil, List.append_assoc, List.cons_append, List.nil_append, List.append_nil])⟩
  exact z_vret C hr hlocks G (Nat.le_of_ble_eq_true rfl) (Nat.le_of_ble_eq_true rfl) dX0_init_60 ⟨w_11, rfl, hw_12⟩
set_option maxHeartbeats 4000000 in
set_option maxRecDepth 100000 in
/-- c_Fit_init -/
theorem c_Fit_init (l : Launch) (T : zTy) (h : Nat) : zMv l T yX3_init cX3_init 1 1 2 7 [.ref h] [[(h, .inr (3, [.int 0, .int 0, .int 0, .int 0, .int 0, .int 0, .null, .null]))]] (fun bs => ∃ (w : va_W), bs = [w] ∧ bFit T h w) := by
  refine zMv_of (own := RX3) (by decide) rfl (Nat.le_of_ble_eq_true rfl) ?_
  intro p e s m args below meth c A ls C hr hlocks hnm hAe G hl
  have hx := C.1
  have hb := C.2.1
  have hl : lv_has ls 1 [(0, .ref h)] := hl
  refine lv_aload_n hx hb dX3_init_0 rfl (lv_at hl 0 rfl) ?_
  refine W.objInit hx hb C.2.2.2.1 (C.2.2.2.2 _ m_ml_RX3_5) (C.2.2.2.2 _ m_im_obj) (C.2.2.2.2 _ m_co_obj) rfl (by rw [C.2.2.1]; exact hl.1) rfl dX3_init_1 (Nat.le_of_ble_eq_true rfl) (Nat.le_of_ble_eq_true rfl) ?_
  refine W.eq (g2 := F0 m 4 ls []) rfl ?_
  refine lv_aload_n hx hb dX3_init_4 rfl (lv_at hl 0 rfl) ?_
  refine lv_iconst (v := (-1)) hx hb dX3_init_5 (by decide) ?_
  refine z_put C G clX3 0 rfl 1 (by decide) m_fl_RX3_11 rfl rfl rfl (Nat.le_of_ble_eq_true rfl) dX3_init_6 (fun H locs G => ?_)
  have G : zS T A s.heap s [[(h, .inr (3, [.int 0, .int (-1), .int 0, .int 0, .int 0, .int 0, .null, .null]))]] _ _ := G
  refine lv_aload_n hx hb dX3_init_9 rfl (lv_at hl 0 rfl) ?_
  refine lv_iconst (v := (-1)) hx hb dX3_init_10 (by decide) ?_
  refine z_put C G clX3 0 rfl 2 (by decide) m_fl_RX3_15 rfl rfl rfl (Nat.le_of_ble_eq_true rfl) dX3_init_11 (fun H locs G => ?_)
  have G : zS T A s.heap s [[(h, .inr (3, [.int 0, .int (-1), .int (-1), .int 0, .int 0, .int 0, .null, .null]))]] _ _ := G
  refine lv_aload_n hx hb dX3_init_14 rfl (lv_at hl 0 rfl) ?_
  refine lv_iconst (v := 0) hx hb dX3_init_15 (by decide) ?_
  refine z_newa C G 0 (ty := .int) (N' := 0) (a0 := (0, .inl (fun _ => 0))) rfl z_uint m_ar_int rfl (fun _ => rfl) (by decide) (by decide) (Nat.le_of_ble_eq_true rfl) (Nat.le_of_ble_eq_true rfl) (Nat.le_of_ble_eq_true rfl) dX3_init_16 (fun q_1 H G => ?_)
  have G : zS T A s.heap s [[(h, .inr (3, [.int 0, .int (-1), .int (-1), .int 0, .int 0, .int 0, .null, .null]))], [(q_1, .inl (T.2 0, 0, .inl (fun _ => 0)))]] _ _ := G
  refine z_put C G clX3 0 rfl 6 (by decide) m_fl_RX3_18 rfl rfl rfl (Nat.le_of_ble_eq_true rfl) dX3_init_18 (fun H locs G => ?_)
  have G : zS T A s.heap s [[(h, .inr (3, [.int 0, .int (-1), .int (-1), .int 0, .int 0, .int 0, .ref q_1, .null]))], [(q_1, .inl (T.2 0, 0, .inl (fun _ => 0)))]] _ _ := G
  refine lv_aload_n hx hb dX3_init_21 rfl (lv_at hl 0 rfl) ?_
  refine lv_bipush (v := 7) hx hb dX3_init_22 (by decide) ?_
  refine z_newa C G 0 (ty := .int) (N' := 7) (a0 := (7, .inl (fun _ => 0))) rfl z_uint m_ar_int rfl (fun _ => rfl) (by decide) (by decide) (Nat.le_of_ble_eq_true rfl) (Nat.le_of_ble_eq_true rfl) (Nat.le_of_ble_eq_true rfl) dX3_init_24 (fun q_2 H G => ?_)
  have G : zS T A s.heap s [[(h, .inr (3, [.int 0, .int (-1), .int (-1), .int 0, .int 0, .int 0, .ref q_1, .null]))], [(q_1, .inl (T.2 0, 0, .inl (fun _ => 0)))], [(q_2, .inl (T.2 0, 7, .inl (fun _ => 0)))]] _ _ := G
  refine z_putF C G hnm clX3 0 rfl 7 (by decide) m_fl_RX3_22 rfl rfl rfl rfl (Nat.le_of_ble_eq_true rfl) dX3_init_26 (fun H locs G => ?_)
  have G : zS T A s.heap s [[(h, .inr (3, [.int 0, .int (-1), .int (-1), .int 0, .int 0, .int 0, .ref q_1, .ref q_2]))], [(q_1, .inl (T.2 0, 0, .inl (fun _ => 0)))], [(q_2, .inl (T.2 0, 7, .inl (fun _ => 0)))]] _ _ := G
  have G := G.sub (bs' := [[(h, .inr (3, [.int 0, .int (-1), .int (-1), .int 0, .int 0, .int 0, .ref q_1, .ref q_2]))], [(q_1, .inl (T.2 0, 0, .inl (fun _ => 0)))], [(q_2, .inl (T.2 0, 7, .inl (fun _ => 0)))]]) [0, 1, 2] rfl
  obtain ⟨w_3, hw_4, G⟩ : ∃ w : va_W, bFit T h w ∧ zS T A s.heap s [w] _ _ := ⟨[(h, .inr (3, [.int 0, .int (-1), .int (-1), .int 0, .int 0, .int 0, .ref q_1, .ref q_2])), (q_1, .inl (T.2 0, 0, .inl (fun _ => 0))), (q_2, .inl (T.2 0, 7, .inl (fun _ => 0)))], ⟨q_1, q_2, 0, (-1), (-1), 0, 0, 0, (fun _ => 0), (fun _ => 0), 0, rfl⟩, G.re rfl⟩
  exact z_vret C hr hlocks G (Nat.le_of_ble_eq_true rfl) (Nat.le_of_ble_eq_true rfl) dX3_init_29 ⟨w_3, rfl, hw_4⟩
end
section
theorem m_fl_RX4_24 : Cond.fieldLink RX4 24 (TX4 0).1 (TX4 0).2.1 (TX4 0).2.2.1 ∈ zT := zmem1 zsub_1 41 (by decide +kernel) (by decide +kernel)
theorem m_fl_RX4_28 : Cond.fieldLink RX4 28 (TX4 1).1 (TX4 1).2.1 (TX4 1).2.2.1 ∈ zT := zmem1 zsub_1 49 (by decide +kernel) (by decide +kernel)
theorem m_fl_RX2_21 : Cond.fieldLink RX2 21 (TX2 0).1 (TX2 0).2.1 (TX2 0).2.2.1 ∈ zT := zmem1 zsub_1 88 (by decide +kernel) (by decide +kernel)
theorem m_fl_RX5_18 : Cond.fieldLink RX5 18 (TX5 0).1 (TX5 0).2.1 (TX5 0).2.2.1 ∈ zT := zmem1 zsub_1 114 (by decide +kernel) (by decide +kernel)
theorem m_fl_RX9_44 : Cond.fieldLink RX9 44 (TX9 1).1 (TX9 1).2.1 (TX9 1).2.2.1 ∈ zT := zmem1 zsub_1 131 (by decide +kernel) (by decide +kernel)
theorem m_fl_RX9_77 : Cond.fieldLink RX9 77 (TX9 2).1 (TX9 2).2.1 (TX9 2).2.2.1 ∈ zT := zmem1 zsub_1 133 (by decide +kernel) (by decide +kernel)
theorem m_co_X4_takeAll : Cond.code yX4_takeAll cX4_takeAll 3 none ∈ zT := zmem1 zsub_3 153 (by decide +kernel) (by decide +kernel)
theorem m_ml_RX9_53 : Cond.methodLink RX9 53 yX4_takeAll ∈ zT := zmem1 zsub_3 150 (by decide +kernel) (by decide +kernel)
theorem m_im_X4_takeAll : Cond.instanceMethod yX4_takeAll ∈ zT := zmem1 zsub_3 151 (by decide +kernel) (by decide +kernel)
theorem m_se_X4_takeAll : Cond.selects RX4 yX4_takeAll yX4_takeAll ∈ zT := zmem1 zsub_3 152 (by decide +kernel) (by decide +kernel)
theorem m_co_X2_takeAll : Cond.code yX2_takeAll cX2_takeAll 3 none ∈ zT := zmem1 zsub_3 157 (by decide +kernel) (by decide +kernel)
theorem m_ml_RX9_61 : Cond.methodLink RX9 61 yX2_takeAll ∈ zT := zmem1 zsub_3 154 (by decide +kernel) (by decide +kernel)
theorem m_im_X2_takeAll : Cond.instanceMethod yX2_takeAll ∈ zT := zmem1 zsub_3 155 (by decide +kernel) (by decide +kernel)
theorem m_se_X2_takeAll : Cond.selects RX2 yX2_takeAll yX2_takeAll ∈ zT := zmem1 zsub_3 156 (by decide +kernel) (by decide +kernel)
theorem m_co_X5_takeAll : Cond.code yX5_takeAll cX5_takeAll 3 none ∈ zT := zmem1 zsub_3 161 (by decide +kernel) (by decide +kernel)
theorem m_ml_RX9_68 : Cond.methodLink RX9 68 yX5_takeAll ∈ zT := zmem1 zsub_3 158 (by decide +kernel) (by decide +kernel)
theorem m_im_X5_takeAll : Cond.instanceMethod yX5_takeAll ∈ zT := zmem1 zsub_3 159 (by decide +kernel) (by decide +kernel)
theorem m_se_X5_takeAll : Cond.selects RX5 yX5_takeAll yX5_takeAll ∈ zT := zmem1 zsub_3 160 (by decide +kernel) (by decide +kernel)
theorem kV_RX9_53 {R : Room} {s : State} {args : Array Value} {d mc ms : Nat} (hts : ∀ w ∈ zT, w.before args s = true) (h1 : d + 1 ≤ R.frames) (h2 : 8 + (3 + 11) + 40 * d ≤ R.locals) : CallW R s args RX9 RX4 53 yX4_takeAll cX4_takeAll 3 none (zW yX4_takeAll cX4_takeAll 3 none) (zR d mc ms) mc ms 1 := z_cwV hts m_co_X4_takeAll m_ml_RX9_53 m_im_X4_takeAll m_se_X4_takeAll m_ii_RX4 (by decide +kernel) h1 h2
theorem kV_RX9_61 {R : Room} {s : State} {args : Array Value} {d mc ms : Nat} (hts : ∀ w ∈ zT, w.before args s = true) (h1 : d + 1 ≤ R.frames) (h2 : 8 + (3 + 11) + 40 * d ≤ R.locals) : CallW R s args RX9 RX2 61 yX2_takeAll cX2_takeAll 3 none (zW yX2_takeAll cX2_takeAll 3 none) (zR d mc ms) mc ms 1 := z_cwV hts m_co_X2_takeAll m_ml_RX9_61 m_im_X2_takeAll m_se_X2_takeAll m_ii_RX2 (by decide +kernel) h1 h2
theorem kV_RX9_68 {R : Room} {s : State} {args : Array Value} {d mc ms : Nat} (hts : ∀ w ∈ zT, w.before args s = true) (h1 : d + 1 ≤ R.frames) (h2 : 8 + (3 + 11) + 40 * d ≤ R.locals) : CallW R s args RX9 RX5 68 yX5_takeAll cX5_takeAll 3 none (zW yX5_takeAll cX5_takeAll 3 none) (zR d mc ms) mc ms 1 := z_cwV hts m_co_X5_takeAll m_ml_RX9_68 m_im_X5_takeAll m_se_X5_takeAll m_ii_RX5 (by decide +kernel) h1 h2
theorem dX4_takeAll_0 : decode cX4_takeAll 0 = .ok (.aload_n 0, 1) := by decide +kernel
theorem dX4_takeAll_1 : decode cX4_takeAll 1 = .ok (.aload_n 1, 1) := by decide +kernel
theorem dX4_takeAll_2 : decode cX4_takeAll 2 = .ok (.getfield 24, 3) := by decide +kernel
theorem dX4_takeAll_5 : decode cX4_takeAll 5 = .ok (.putfield 24, 3) := by decide +kernel
theorem dX4_takeAll_8 : decode cX4_takeAll 8 = .ok (.aload_n 0, 1) := by decide +kernel
theorem dX4_takeAll_9 : decode cX4_takeAll 9 = .ok (.aload_n 1, 1) := by decide +kernel
theorem dX4_takeAll_10 : decode cX4_takeAll 10 = .ok (.getfield 28, 3) := by decide +kernel
theorem dX4_takeAll_13 : decode cX4_takeAll 13 = .ok (.putfield 28, 3) := by decide +kernel
theorem dX4_takeAll_16 : decode cX4_takeAll 16 = .ok (.iconst 0, 1) := by decide +kernel
theorem dX4_takeAll_17 : decode cX4_takeAll 17 = .ok (.istore_n 2, 1) := by decide +kernel
theorem dX4_takeAll_18 : decode cX4_takeAll 18 = .ok (.iload_n 2, 1) := by decide +kernel
theorem dX4_takeAll_19 : decode cX4_takeAll 19 = .ok (.bipush 7, 2) := by decide +kernel
theorem dX4_takeAll_21 : decode cX4_takeAll 21 = .ok (.if_icmp .ge 45, 3) := by decide +kernel
theorem dX4_takeAll_24 : decode cX4_takeAll 24 = .ok (.aload_n 0, 1) := by decide +kernel
theorem dX4_takeAll_25 : decode cX4_takeAll 25 = .ok (.getfield 9, 3) := by decide +kernel
theorem dX4_takeAll_28 : decode cX4_takeAll 28 = .ok (.iload_n 2, 1) := by decide +kernel
theorem dX4_takeAll_29 : decode cX4_takeAll 29 = .ok (.aload_n 1, 1) := by decide +kernel
theorem dX4_takeAll_30 : decode cX4_takeAll 30 = .ok (.getfield 9, 3) := by decide +kernel
theorem dX4_takeAll_33 : decode cX4_takeAll 33 = .ok (.iload_n 2, 1) := by decide +kernel
theorem dX4_takeAll_34 : decode cX4_takeAll 34 = .ok (.iaload, 1) := by decide +kernel
theorem dX4_takeAll_35 : decode cX4_takeAll 35 = .ok (.iastore, 1) := by decide +kernel
theorem dX4_takeAll_36 : decode cX4_takeAll 36 = .ok (.aload_n 0, 1) := by decide +kernel
theorem dX4_takeAll_37 : decode cX4_takeAll 37 = .ok (.getfield 18, 3) := by decide +kernel
theorem dX4_takeAll_40 : decode cX4_takeAll 40 = .ok (.iload_n 2, 1) := by decide +kernel
theorem dX4_takeAll_41 : decode cX4_takeAll 41 = .ok (.aload_n 1, 1) := by decide +kernel
theorem dX4_takeAll_42 : decode cX4_takeAll 42 = .ok (.getfield 18, 3) := by decide +kernel
theorem dX4_takeAll_45 : decode cX4_takeAll 45 = .ok (.iload_n 2, 1) := by decide +kernel
theorem dX4_takeAll_46 : decode cX4_takeAll 46 = .ok (.iaload, 1) := by decide +kernel
theorem dX4_takeAll_47 : decode cX4_takeAll 47 = .ok (.iastore, 1) := by decide +kernel
theorem dX4_takeAll_48 : decode cX4_takeAll 48 = .ok (.aload_n 0, 1) := by decide +kernel
theorem dX4_takeAll_49 : decode cX4_takeAll 49 = .ok (.getfield 21, 3) := by decide +kernel
theorem dX4_takeAll_52 : decode cX4_takeAll 52 = .ok (.iload_n 2, 1) := by decide +kernel
theorem dX4_takeAll_53 : decode cX4_takeAll 53 = .ok (.aload_n 1, 1) := by decide +kernel
theorem dX4_takeAll_54 : decode cX4_takeAll 54 = .ok (.getfield 21, 3) := by decide +kernel
theorem dX4_takeAll_57 : decode cX4_takeAll 57 = .ok (.iload_n 2, 1) := by decide +kernel
theorem dX4_takeAll_58 : decode cX4_takeAll 58 = .ok (.iaload, 1) := by decide +kernel
theorem dX4_takeAll_59 : decode cX4_takeAll 59 = .ok (.iastore, 1) := by decide +kernel
theorem dX4_takeAll_60 : decode cX4_takeAll 60 = .ok (.iinc 2 1, 3) := by decide +kernel
theorem dX4_takeAll_63 : decode cX4_takeAll 63 = .ok (.goto (-45), 3) := by decide +kernel
theorem dX4_takeAll_66 : decode cX4_takeAll 66 = .ok (.iconst 0, 1) := by decide +kernel
theorem dX4_takeAll_67 : decode cX4_takeAll 67 = .ok (.istore_n 2, 1) := by decide +kernel
theorem dX4_takeAll_68 : decode cX4_takeAll 68 = .ok (.iload_n 2, 1) := by decide +kernel
theorem dX4_takeAll_69 : decode cX4_takeAll 69 = .ok (.bipush 28, 2) := by decide +kernel
theorem dX4_takeAll_71 : decode cX4_takeAll 71 = .ok (.if_icmp .ge 21, 3) := by decide +kernel
theorem dX4_takeAll_74 : decode cX4_takeAll 74 = .ok (.aload_n 0, 1) := by decide +kernel
theorem dX4_takeAll_75 : decode cX4_takeAll 75 = .ok (.getfield 15, 3) := by decide +kernel
theorem dX4_takeAll_78 : decode cX4_takeAll 78 = .ok (.iload_n 2, 1) := by decide +kernel
theorem dX4_takeAll_79 : decode cX4_takeAll 79 = .ok (.aload_n 1, 1) := by decide +kernel
theorem dX4_takeAll_80 : decode cX4_takeAll 80 = .ok (.getfield 15, 3) := by decide +kernel
theorem dX4_takeAll_83 : decode cX4_takeAll 83 = .ok (.iload_n 2, 1) := by decide +kernel
theorem dX4_takeAll_84 : decode cX4_takeAll 84 = .ok (.iaload, 1) := by decide +kernel
theorem dX4_takeAll_85 : decode cX4_takeAll 85 = .ok (.iastore, 1) := by decide +kernel
theorem dX4_takeAll_86 : decode cX4_takeAll 86 = .ok (.iinc 2 1, 3) := by decide +kernel
theorem dX4_takeAll_89 : decode cX4_takeAll 89 = .ok (.goto (-21), 3) := by decide +kernel
theorem dX4_takeAll_92 : decode cX4_takeAll 92 = .ok (.return_, 1) := by decide +kernel
theorem dX2_takeAll_0 : decode cX2_takeAll 0 = .ok (.aload_n 0, 1) := by decide +kernel
theorem dX2_takeAll_1 : decode cX2_takeAll 1 = .ok (.aload_n 1, 1) := by decide +kernel
theorem dX2_takeAll_2 : decode cX2_takeAll 2 = .ok (.getfield 21, 3) := by decide +kernel
theorem dX2_takeAll_5 : decode cX2_takeAll 5 = .ok (.putfield 21, 3) := by decide +kernel
theorem dX2_takeAll_8 : decode cX2_takeAll 8 = .ok (.iconst 0, 1) := by decide +kernel
theorem dX2_takeAll_9 : decode cX2_takeAll 9 = .ok (.istore_n 2, 1) := by decide +kernel
theorem dX2_takeAll_10 : decode cX2_takeAll 10 = .ok (.iload_n 2, 1) := by decide +kernel
theorem dX2_takeAll_11 : decode cX2_takeAll 11 = .ok (.bipush 40, 2) := by decide +kernel
theorem dX2_takeAll_13 : decode cX2_takeAll 13 = .ok (.if_icmp .ge 45, 3) := by decide +kernel
theorem dX2_takeAll_16 : decode cX2_takeAll 16 = .ok (.aload_n 0, 1) := by decide +kernel
theorem dX2_takeAll_17 : decode cX2_takeAll 17 = .ok (.getfield 9, 3) := by decide +kernel
theorem dX2_takeAll_20 : decode cX2_takeAll 20 = .ok (.iload_n 2, 1) := by decide +kernel
theorem dX2_takeAll_21 : decode cX2_takeAll 21 = .ok (.aload_n 1, 1) := by decide +kernel
theorem dX2_takeAll_22 : decode cX2_takeAll 22 = .ok (.getfield 9, 3) := by decide +kernel
theorem dX2_takeAll_25 : decode cX2_takeAll 25 = .ok (.iload_n 2, 1) := by decide +kernel
theorem dX2_takeAll_26 : decode cX2_takeAll 26 = .ok (.iaload, 1) := by decide +kernel
theorem dX2_takeAll_27 : decode cX2_takeAll 27 = .ok (.iastore, 1) := by decide +kernel
theorem dX2_takeAll_28 : decode cX2_takeAll 28 = .ok (.aload_n 0, 1) := by decide +kernel
theorem dX2_takeAll_29 : decode cX2_takeAll 29 = .ok (.getfield 15, 3) := by decide +kernel
theorem dX2_takeAll_32 : decode cX2_takeAll 32 = .ok (.iload_n 2, 1) := by decide +kernel
theorem dX2_takeAll_33 : decode cX2_takeAll 33 = .ok (.aload_n 1, 1) := by decide +kernel
theorem dX2_takeAll_34 : decode cX2_takeAll 34 = .ok (.getfield 15, 3) := by decide +kernel
theorem dX2_takeAll_37 : decode cX2_takeAll 37 = .ok (.iload_n 2, 1) := by decide +kernel
theorem dX2_takeAll_38 : decode cX2_takeAll 38 = .ok (.iaload, 1) := by decide +kernel
theorem dX2_takeAll_39 : decode cX2_takeAll 39 = .ok (.iastore, 1) := by decide +kernel
theorem dX2_takeAll_40 : decode cX2_takeAll 40 = .ok (.aload_n 0, 1) := by decide +kernel
theorem dX2_takeAll_41 : decode cX2_takeAll 41 = .ok (.getfield 18, 3) := by decide +kernel
theorem dX2_takeAll_44 : decode cX2_takeAll 44 = .ok (.iload_n 2, 1) := by decide +kernel
theorem dX2_takeAll_45 : decode cX2_takeAll 45 = .ok (.aload_n 1, 1) := by decide +kernel
theorem dX2_takeAll_46 : decode cX2_takeAll 46 = .ok (.getfield 18, 3) := by decide +kernel
theorem dX2_takeAll_49 : decode cX2_takeAll 49 = .ok (.iload_n 2, 1) := by decide +kernel
theorem dX2_takeAll_50 : decode cX2_takeAll 50 = .ok (.iaload, 1) := by decide +kernel
theorem dX2_takeAll_51 : decode cX2_takeAll 51 = .ok (.iastore, 1) := by decide +kernel
theorem dX2_takeAll_52 : decode cX2_takeAll 52 = .ok (.iinc 2 1, 3) := by decide +kernel
theorem dX2_takeAll_55 : decode cX2_takeAll 55 = .ok (.goto (-45), 3) := by decide +kernel
theorem dX2_takeAll_58 : decode cX2_takeAll 58 = .ok (.return_, 1) := by decide +kernel
theorem dX5_takeAll_0 : decode cX5_takeAll 0 = .ok (.aload_n 0, 1) := by decide +kernel
theorem dX5_takeAll_1 : decode cX5_takeAll 1 = .ok (.aload_n 1, 1) := by decide +kernel
theorem dX5_takeAll_2 : decode cX5_takeAll 2 = .ok (.getfield 18, 3) := by decide +kernel
theorem dX5_takeAll_5 : decode cX5_takeAll 5 = .ok (.putfield 18, 3) := by decide +kernel
theorem dX5_takeAll_8 : decode cX5_takeAll 8 = .ok (.iconst 0, 1) := by decide +kernel
theorem dX5_takeAll_9 : decode cX5_takeAll 9 = .ok (.istore_n 2, 1) := by decide +kernel
theorem dX5_takeAll_10 : decode cX5_takeAll 10 = .ok (.iload_n 2, 1) := by decide +kernel
theorem dX5_takeAll_11 : decode cX5_takeAll 11 = .ok (.bipush 8, 2) := by decide +kernel
theorem dX5_takeAll_13 : decode cX5_takeAll 13 = .ok (.if_icmp .ge 33, 3) := by decide +kernel
theorem dX5_takeAll_16 : decode cX5_takeAll 16 = .ok (.aload_n 0, 1) := by decide +kernel
theorem dX5_takeAll_17 : decode cX5_takeAll 17 = .ok (.getfield 9, 3) := by decide +kernel
theorem dX5_takeAll_20 : decode cX5_takeAll 20 = .ok (.iload_n 2, 1) := by decide +kernel
theorem dX5_takeAll_21 : decode cX5_takeAll 21 = .ok (.aload_n 1, 1) := by decide +kernel
theorem dX5_takeAll_22 : decode cX5_takeAll 22 = .ok (.getfield 9, 3) := by decide +kernel
theorem dX5_takeAll_25 : decode cX5_takeAll 25 = .ok (.iload_n 2, 1) := by decide +kernel
theorem dX5_takeAll_26 : decode cX5_takeAll 26 = .ok (.iaload, 1) := by decide +kernel
theorem dX5_takeAll_27 : decode cX5_takeAll 27 = .ok (.iastore, 1) := by decide +kernel
theorem dX5_takeAll_28 : decode cX5_takeAll 28 = .ok (.aload_n 0, 1) := by decide +kernel
theorem dX5_takeAll_29 : decode cX5_takeAll 29 = .ok (.getfield 15, 3) := by decide +kernel
theorem dX5_takeAll_32 : decode cX5_takeAll 32 = .ok (.iload_n 2, 1) := by decide +kernel
theorem dX5_takeAll_33 : decode cX5_takeAll 33 = .ok (.aload_n 1, 1) := by decide +kernel
theorem dX5_takeAll_34 : decode cX5_takeAll 34 = .ok (.getfield 15, 3) := by decide +kernel
theorem dX5_takeAll_37 : decode cX5_takeAll 37 = .ok (.iload_n 2, 1) := by decide +kernel
theorem dX5_takeAll_38 : decode cX5_takeAll 38 = .ok (.iaload, 1) := by decide +kernel
theorem dX5_takeAll_39 : decode cX5_takeAll 39 = .ok (.iastore, 1) := by decide +kernel
theorem dX5_takeAll_40 : decode cX5_takeAll 40 = .ok (.iinc 2 1, 3) := by decide +kernel
theorem dX5_takeAll_43 : decode cX5_takeAll 43 = .ok (.goto (-33), 3) := by decide +kernel
theorem dX5_takeAll_46 : decode cX5_takeAll 46 = .ok (.return_, 1) := by decide +kernel
theorem dX9_append_0 : decode cX9_append 0 = .ok (.bipush 24, 2) := by decide +kernel
theorem dX9_append_2 : decode cX9_append 2 = .ok (.istore_n 2, 1) := by decide +kernel
theorem dX9_append_3 : decode cX9_append 3 = .ok (.iload_n 2, 1) := by decide +kernel
theorem dX9_append_4 : decode cX9_append 4 = .ok (.ifCond .lt 42, 3) := by decide +kernel
theorem dX9_append_7 : decode cX9_append 7 = .ok (.aload_n 0, 1) := by decide +kernel
theorem dX9_append_8 : decode cX9_append 8 = .ok (.getfield 44, 3) := by decide +kernel
theorem dX9_append_11 : decode cX9_append 11 = .ok (.sipush 600, 3) := by decide +kernel
theorem dX9_append_14 : decode cX9_append 14 = .ok (.if_icmp .ge 26, 3) := by decide +kernel
theorem dX9_append_17 : decode cX9_append 17 = .ok (.aload_n 0, 1) := by decide +kernel
theorem dX9_append_18 : decode cX9_append 18 = .ok (.getfield 9, 3) := by decide +kernel
theorem dX9_append_21 : decode cX9_append 21 = .ok (.aload_n 0, 1) := by decide +kernel
theorem dX9_append_22 : decode cX9_append 22 = .ok (.getfield 44, 3) := by decide +kernel
theorem dX9_append_25 : decode cX9_append 25 = .ok (.iload_n 1, 1) := by decide +kernel
theorem dX9_append_26 : decode cX9_append 26 = .ok (.iload_n 2, 1) := by decide +kernel
theorem dX9_append_27 : decode cX9_append 27 = .ok (.ishr, 1) := by decide +kernel
theorem dX9_append_28 : decode cX9_append 28 = .ok (.i2b, 1) := by decide +kernel
theorem dX9_append_29 : decode cX9_append 29 = .ok (.bastore, 1) := by decide +kernel
theorem dX9_append_30 : decode cX9_append 30 = .ok (.aload_n 0, 1) := by decide +kernel
theorem dX9_append_31 : decode cX9_append 31 = .ok (.dup, 1) := by decide +kernel
theorem dX9_append_32 : decode cX9_append 32 = .ok (.getfield 44, 3) := by decide +kernel
theorem dX9_append_35 : decode cX9_append 35 = .ok (.iconst 1, 1) := by decide +kernel
theorem dX9_append_36 : decode cX9_append 36 = .ok (.iadd, 1) := by decide +kernel
theorem dX9_append_37 : decode cX9_append 37 = .ok (.putfield 44, 3) := by decide +kernel
theorem dX9_append_40 : decode cX9_append 40 = .ok (.iinc 2 (-8), 3) := by decide +kernel
theorem dX9_append_43 : decode cX9_append 43 = .ok (.goto (-40), 3) := by decide +kernel
theorem dX9_append_46 : decode cX9_append 46 = .ok (.return_, 1) := by decide +kernel
theorem dX9_placeFor_0 : decode cX9_placeFor 0 = .ok (.iload_n 1, 1) := by decide +kernel
theorem dX9_placeFor_1 : decode cX9_placeFor 1 = .ok (.ifCond .lt 8, 3) := by decide +kernel
theorem dX9_placeFor_4 : decode cX9_placeFor 4 = .ok (.iload_n 1, 1) := by decide +kernel
theorem dX9_placeFor_5 : decode cX9_placeFor 5 = .ok (.iconst 2, 1) := by decide +kernel
theorem dX9_placeFor_6 : decode cX9_placeFor 6 = .ok (.if_icmp .le 6, 3) := by decide +kernel
theorem dX9_placeFor_9 : decode cX9_placeFor 9 = .ok (.bipush (-2), 2) := by decide +kernel
theorem dX9_placeFor_11 : decode cX9_placeFor 11 = .ok (.ireturn, 1) := by decide +kernel
theorem dX9_placeFor_12 : decode cX9_placeFor 12 = .ok (.iload_n 2, 1) := by decide +kernel
theorem dX9_placeFor_13 : decode cX9_placeFor 13 = .ok (.iconst (-1), 1) := by decide +kernel
theorem dX9_placeFor_14 : decode cX9_placeFor 14 = .ok (.if_icmp .ne 25, 3) := by decide +kernel
theorem dX9_placeFor_17 : decode cX9_placeFor 17 = .ok (.aload_n 0, 1) := by decide +kernel
theorem dX9_placeFor_18 : decode cX9_placeFor 18 = .ok (.getfield 19, 3) := by decide +kernel
theorem dX9_placeFor_21 : decode cX9_placeFor 21 = .ok (.iload_n 1, 1) := by decide +kernel
theorem dX9_placeFor_22 : decode cX9_placeFor 22 = .ok (.iaload, 1) := by decide +kernel
theorem dX9_placeFor_23 : decode cX9_placeFor 23 = .ok (.iconst 2, 1) := by decide +kernel
theorem dX9_placeFor_24 : decode cX9_placeFor 24 = .ok (.if_icmp .ge 12, 3) := by decide +kernel
theorem dX9_placeFor_27 : decode cX9_placeFor 27 = .ok (.aload_n 0, 1) := by decide +kernel
theorem dX9_placeFor_28 : decode cX9_placeFor 28 = .ok (.getfield 19, 3) := by decide +kernel
theorem dX9_placeFor_31 : decode cX9_placeFor 31 = .ok (.iload_n 1, 1) := by decide +kernel
theorem dX9_placeFor_32 : decode cX9_placeFor 32 = .ok (.iaload, 1) := by decide +kernel
theorem dX9_placeFor_33 : decode cX9_placeFor 33 = .ok (.goto 5, 3) := by decide +kernel
theorem dX9_placeFor_38 : decode cX9_placeFor 38 = .ok (.ireturn, 1) := by decide +kernel
theorem dX9_placeFor_39 : decode cX9_placeFor 39 = .ok (.iload_n 2, 1) := by decide +kernel
theorem dX9_placeFor_40 : decode cX9_placeFor 40 = .ok (.ifCond .lt 17, 3) := by decide +kernel
theorem dX9_placeFor_43 : decode cX9_placeFor 43 = .ok (.iload_n 2, 1) := by decide +kernel
theorem dX9_placeFor_44 : decode cX9_placeFor 44 = .ok (.aload_n 0, 1) := by decide +kernel
theorem dX9_placeFor_45 : decode cX9_placeFor 45 = .ok (.getfield 19, 3) := by decide +kernel
theorem dX9_placeFor_48 : decode cX9_placeFor 48 = .ok (.iload_n 1, 1) := by decide +kernel
theorem dX9_placeFor_49 : decode cX9_placeFor 49 = .ok (.iaload, 1) := by decide +kernel
theorem dX9_placeFor_50 : decode cX9_placeFor 50 = .ok (.if_icmp .ge 7, 3) := by decide +kernel
theorem dX9_placeFor_57 : decode cX9_placeFor 57 = .ok (.bipush (-2), 2) := by decide +kernel
theorem dX9_placeFor_59 : decode cX9_placeFor 59 = .ok (.ireturn, 1) := by decide +kernel
theorem dX9_landAt_0 : decode cX9_landAt 0 = .ok (.iload_n 1, 1) := by decide +kernel
theorem dX9_landAt_1 : decode cX9_landAt 1 = .ok (.ifCond .lt 27, 3) := by decide +kernel
theorem dX9_landAt_4 : decode cX9_landAt 4 = .ok (.iload_n 1, 1) := by decide +kernel
theorem dX9_landAt_5 : decode cX9_landAt 5 = .ok (.aload_n 0, 1) := by decide +kernel
theorem dX9_landAt_6 : decode cX9_landAt 6 = .ok (.getfield 19, 3) := by decide +kernel
theorem dX9_landAt_9 : decode cX9_landAt 9 = .ok (.iconst 0, 1) := by decide +kernel
theorem dX9_landAt_10 : decode cX9_landAt 10 = .ok (.iaload, 1) := by decide +kernel
theorem dX9_landAt_11 : decode cX9_landAt 11 = .ok (.if_icmp .ge 17, 3) := by decide +kernel
theorem dX9_landAt_28 : decode cX9_landAt 28 = .ok (.aconst_null, 1) := by decide +kernel
theorem dX9_landAt_29 : decode cX9_landAt 29 = .ok (.areturn, 1) := by decide +kernel
theorem dX9_dayAt_0 : decode cX9_dayAt 0 = .ok (.iload_n 1, 1) := by decide +kernel
theorem dX9_dayAt_1 : decode cX9_dayAt 1 = .ok (.ifCond .lt 27, 3) := by decide +kernel
theorem dX9_dayAt_4 : decode cX9_dayAt 4 = .ok (.iload_n 1, 1) := by decide +kernel
theorem dX9_dayAt_5 : decode cX9_dayAt 5 = .ok (.aload_n 0, 1) := by decide +kernel
theorem dX9_dayAt_6 : decode cX9_dayAt 6 = .ok (.getfield 19, 3) := by decide +kernel
theorem dX9_dayAt_9 : decode cX9_dayAt 9 = .ok (.iconst 1, 1) := by decide +kernel
theorem dX9_dayAt_10 : decode cX9_dayAt 10 = .ok (.iaload, 1) := by decide +kernel
theorem dX9_dayAt_11 : decode cX9_dayAt 11 = .ok (.if_icmp .ge 17, 3) := by decide +kernel
theorem dX9_dayAt_28 : decode cX9_dayAt 28 = .ok (.aconst_null, 1) := by decide +kernel
theorem dX9_dayAt_29 : decode cX9_dayAt 29 = .ok (.areturn, 1) := by decide +kernel
theorem dX9_logAt_0 : decode cX9_logAt 0 = .ok (.iload_n 1, 1) := by decide +kernel
theorem dX9_logAt_1 : decode cX9_logAt 1 = .ok (.ifCond .lt 27, 3) := by decide +kernel
theorem dX9_logAt_4 : decode cX9_logAt 4 = .ok (.iload_n 1, 1) := by decide +kernel
theorem dX9_logAt_5 : decode cX9_logAt 5 = .ok (.aload_n 0, 1) := by decide +kernel
theorem dX9_logAt_6 : decode cX9_logAt 6 = .ok (.getfield 19, 3) := by decide +kernel
theorem dX9_logAt_9 : decode cX9_logAt 9 = .ok (.iconst 2, 1) := by decide +kernel
theorem dX9_logAt_10 : decode cX9_logAt 10 = .ok (.iaload, 1) := by decide +kernel
theorem dX9_logAt_11 : decode cX9_logAt 11 = .ok (.if_icmp .ge 17, 3) := by decide +kernel
theorem dX9_logAt_28 : decode cX9_logAt 28 = .ok (.aconst_null, 1) := by decide +kernel
theorem dX9_logAt_29 : decode cX9_logAt 29 = .ok (.areturn, 1) := by decide +kernel
theorem dX9_takeAll_0 : decode cX9_takeAll 0 = .ok (.iconst 0, 1) := by decide +kernel
theorem dX9_takeAll_1 : decode cX9_takeAll 1 = .ok (.istore_n 2, 1) := by decide +kernel
theorem dX9_takeAll_2 : decode cX9_takeAll 2 = .ok (.iload_n 2, 1) := by decide +kernel
theorem dX9_takeAll_3 : decode cX9_takeAll 3 = .ok (.sipush 600, 3) := by decide +kernel
theorem dX9_takeAll_6 : decode cX9_takeAll 6 = .ok (.if_icmp .ge 21, 3) := by decide +kernel
theorem dX9_takeAll_9 : decode cX9_takeAll 9 = .ok (.aload_n 0, 1) := by decide +kernel
theorem dX9_takeAll_10 : decode cX9_takeAll 10 = .ok (.getfield 9, 3) := by decide +kernel
theorem dX9_takeAll_13 : decode cX9_takeAll 13 = .ok (.iload_n 2, 1) := by decide +kernel
theorem dX9_takeAll_14 : decode cX9_takeAll 14 = .ok (.aload_n 1, 1) := by decide +kernel
theorem dX9_takeAll_15 : decode cX9_takeAll 15 = .ok (.getfield 9, 3) := by decide +kernel
theorem dX9_takeAll_18 : decode cX9_takeAll 18 = .ok (.iload_n 2, 1) := by decide +kernel
theorem dX9_takeAll_19 : decode cX9_takeAll 19 = .ok (.baload, 1) := by decide +kernel
theorem dX9_takeAll_20 : decode cX9_takeAll 20 = .ok (.bastore, 1) := by decide +kernel
theorem dX9_takeAll_21 : decode cX9_takeAll 21 = .ok (.iinc 2 1, 3) := by decide +kernel
theorem dX9_takeAll_24 : decode cX9_takeAll 24 = .ok (.goto (-22), 3) := by decide +kernel
theorem dX9_takeAll_27 : decode cX9_takeAll 27 = .ok (.aload_n 0, 1) := by decide +kernel
theorem dX9_takeAll_28 : decode cX9_takeAll 28 = .ok (.aload_n 1, 1) := by decide +kernel
theorem dX9_takeAll_29 : decode cX9_takeAll 29 = .ok (.getfield 44, 3) := by decide +kernel
theorem dX9_takeAll_32 : decode cX9_takeAll 32 = .ok (.putfield 44, 3) := by decide +kernel
theorem dX9_takeAll_35 : decode cX9_takeAll 35 = .ok (.aload_n 0, 1) := by decide +kernel
theorem dX9_takeAll_36 : decode cX9_takeAll 36 = .ok (.aload_n 1, 1) := by decide +kernel
theorem dX9_takeAll_37 : decode cX9_takeAll 37 = .ok (.getfield 77, 3) := by decide +kernel
theorem dX9_takeAll_40 : decode cX9_takeAll 40 = .ok (.putfield 77, 3) := by decide +kernel
theorem dX9_takeAll_43 : decode cX9_takeAll 43 = .ok (.aload_n 0, 1) := by decide +kernel
theorem dX9_takeAll_44 : decode cX9_takeAll 44 = .ok (.aload_n 1, 1) := by decide +kernel
theorem dX9_takeAll_45 : decode cX9_takeAll 45 = .ok (.getfield 15, 3) := by decide +kernel
theorem dX9_takeAll_48 : decode cX9_takeAll 48 = .ok (.putfield 15, 3) := by decide +kernel
theorem dX9_takeAll_51 : decode cX9_takeAll 51 = .ok (.iconst 0, 1) := by decide +kernel
theorem dX9_takeAll_52 : decode cX9_takeAll 52 = .ok (.istore_n 2, 1) := by decide +kernel
theorem dX9_takeAll_53 : decode cX9_takeAll 53 = .ok (.iload_n 2, 1) := by decide +kernel
theorem dX9_takeAll_54 : decode cX9_takeAll 54 = .ok (.iconst 2, 1) := by decide +kernel
theorem dX9_takeAll_55 : decode cX9_takeAll 55 = .ok (.if_icmp .gt 21, 3) := by decide +kernel
theorem dX9_takeAll_58 : decode cX9_takeAll 58 = .ok (.aload_n 0, 1) := by decide +kernel
theorem dX9_takeAll_59 : decode cX9_takeAll 59 = .ok (.getfield 19, 3) := by decide +kernel
theorem dX9_takeAll_62 : decode cX9_takeAll 62 = .ok (.iload_n 2, 1) := by decide +kernel
theorem dX9_takeAll_63 : decode cX9_takeAll 63 = .ok (.aload_n 1, 1) := by decide +kernel
theorem dX9_takeAll_64 : decode cX9_takeAll 64 = .ok (.getfield 19, 3) := by decide +kernel
theorem dX9_takeAll_67 : decode cX9_takeAll 67 = .ok (.iload_n 2, 1) := by decide +kernel
theorem dX9_takeAll_68 : decode cX9_takeAll 68 = .ok (.iaload, 1) := by decide +kernel
theorem dX9_takeAll_69 : decode cX9_takeAll 69 = .ok (.iastore, 1) := by decide +kernel
theorem dX9_takeAll_70 : decode cX9_takeAll 70 = .ok (.iinc 2 1, 3) := by decide +kernel
theorem dX9_takeAll_73 : decode cX9_takeAll 73 = .ok (.goto (-20), 3) := by decide +kernel
theorem dX9_takeAll_76 : decode cX9_takeAll 76 = .ok (.iconst 0, 1) := by decide +kernel
theorem dX9_takeAll_77 : decode cX9_takeAll 77 = .ok (.istore_n 2, 1) := by decide +kernel
theorem dX9_takeAll_78 : decode cX9_takeAll 78 = .ok (.iload_n 2, 1) := by decide +kernel
theorem dX9_takeAll_79 : decode cX9_takeAll 79 = .ok (.iconst 2, 1) := by decide +kernel
theorem dX9_takeAll_80 : decode cX9_takeAll 80 = .ok (.if_icmp .ge 54, 3) := by decide +kernel
theorem dX9_takeAll_83 : decode cX9_takeAll 83 = .ok (.aload_n 0, 1) := by decide +kernel
theorem dX9_takeAll_84 : decode cX9_takeAll 84 = .ok (.getfield 26, 3) := by decide +kernel
theorem dX9_takeAll_87 : decode cX9_takeAll 87 = .ok (.iload_n 2, 1) := by decide +kernel
theorem dX9_takeAll_88 : decode cX9_takeAll 88 = .ok (.aaload, 1) := by decide +kernel
theorem dX9_takeAll_89 : decode cX9_takeAll 89 = .ok (.aload_n 1, 1) := by decide +kernel
theorem dX9_takeAll_90 : decode cX9_takeAll 90 = .ok (.getfield 26, 3) := by decide +kernel
theorem dX9_takeAll_93 : decode cX9_takeAll 93 = .ok (.iload_n 2, 1) := by decide +kernel
theorem dX9_takeAll_94 : decode cX9_takeAll 94 = .ok (.aaload, 1) := by decide +kernel
theorem dX9_takeAll_95 : decode cX9_takeAll 95 = .ok (.invokevirtual 53, 3) := by decide +kernel
theorem dX9_takeAll_98 : decode cX9_takeAll 98 = .ok (.aload_n 0, 1) := by decide +kernel
theorem dX9_takeAll_99 : decode cX9_takeAll 99 = .ok (.getfield 33, 3) := by decide +kernel
theorem dX9_takeAll_102 : decode cX9_takeAll 102 = .ok (.iload_n 2, 1) := by decide +kernel
theorem dX9_takeAll_103 : decode cX9_takeAll 103 = .ok (.aaload, 1) := by decide +kernel
theorem dX9_takeAll_104 : decode cX9_takeAll 104 = .ok (.aload_n 1, 1) := by decide +kernel
theorem dX9_takeAll_105 : decode cX9_takeAll 105 = .ok (.getfield 33, 3) := by decide +kernel
theorem dX9_takeAll_108 : decode cX9_takeAll 108 = .ok (.iload_n 2, 1) := by decide +kernel
theorem dX9_takeAll_109 : decode cX9_takeAll 109 = .ok (.aaload, 1) := by decide +kernel
theorem dX9_takeAll_110 : decode cX9_takeAll 110 = .ok (.invokevirtual 61, 3) := by decide +kernel
theorem dX9_takeAll_113 : decode cX9_takeAll 113 = .ok (.aload_n 0, 1) := by decide +kernel
theorem dX9_takeAll_114 : decode cX9_takeAll 114 = .ok (.getfield 40, 3) := by decide +kernel
theorem dX9_takeAll_117 : decode cX9_takeAll 117 = .ok (.iload_n 2, 1) := by decide +kernel
theorem dX9_takeAll_118 : decode cX9_takeAll 118 = .ok (.aaload, 1) := by decide +kernel
theorem dX9_takeAll_119 : decode cX9_takeAll 119 = .ok (.aload_n 1, 1) := by decide +kernel
theorem dX9_takeAll_120 : decode cX9_takeAll 120 = .ok (.getfield 40, 3) := by decide +kernel
theorem dX9_takeAll_123 : decode cX9_takeAll 123 = .ok (.iload_n 2, 1) := by decide +kernel
theorem dX9_takeAll_124 : decode cX9_takeAll 124 = .ok (.aaload, 1) := by decide +kernel
theorem dX9_takeAll_125 : decode cX9_takeAll 125 = .ok (.invokevirtual 68, 3) := by decide +kernel
theorem dX9_takeAll_128 : decode cX9_takeAll 128 = .ok (.iinc 2 1, 3) := by decide +kernel
theorem dX9_takeAll_131 : decode cX9_takeAll 131 = .ok (.goto (-53), 3) := by decide +kernel
theorem dX9_takeAll_134 : decode cX9_takeAll 134 = .ok (.return_, 1) := by decide +kernel
end
section
set_option maxHeartbeats 4000000 in
set_option maxRecDepth 100000 in
/-- c_Land_takeAll -/
theorem c_Land_takeAll (l : Launch) (T : zTy) (h : Nat) (o : Nat) (w : va_W) (z : va_W) (hw : bLand T h w) (hz : bLand T o z) : zMv l T yX4_takeAll cX4_takeAll 3 1 0 0 [.ref h, .ref o] [w, z] (fun bs => ∃ (w2 : va_W) (z2 : va_W), bs = [w2, z2] ∧ bLand T h w2 ∧ bLand T o z2) := by
  refine zMv_of (own := RX4) (by decide) rfl (Nat.le_of_ble_eq_true rfl) ?_
  intro p e s m args below meth c A ls C hr hlocks hnm hAe G hl
  have hx := C.1
  have hb := C.2.1
  have hl : lv_has ls 3 [(0, .ref h), (1, .ref o)] := hl
  obtain ⟨a1_1, a2_2, a3_3, a4_4, v0_5, v1_6, f1_7, f2_8, f3_9, f4_10, rfl⟩ := hw
  have G : zS T A s.heap s [[(h, .inr (4, [.int v0_5, .int v1_6, .ref a1_1, .ref a2_2, .ref a3_3, .ref a4_4]))], [(a1_1, .inl (T.2 0, 7, .inl f1_7))], [(a2_2, .inl (T.2 0, 28, .inl f2_8))], [(a3_3, .inl (T.2 0, 7, .inl f3_9))], [(a4_4, .inl (T.2 0, 7, .inl f4_10))], z] _ _ := G.re rfl
  obtain ⟨a1_11, a2_12, a3_13, a4_14, v0_15, v1_16, f1_17, f2_18, f3_19, f4_20, rfl⟩ := hz
  have G : zS T A s.heap s [[(h, .inr (4, [.int v0_5, .int v1_6, .ref a1_1, .ref a2_2, .ref a3_3, .ref a4_4]))], [(a1_1, .inl (T.2 0, 7, .inl f1_7))], [(a2_2, .inl (T.2 0, 28, .inl f2_8))], [(a3_3, .inl (T.2 0, 7, .inl f3_9))], [(a4_4, .inl (T.2 0, 7, .inl f4_10))], [(o, .inr (4, [.int v0_15, .int v1_16, .ref a1_11, .ref a2_12, .ref a3_13, .ref a4_14]))], [(a1_11, .inl (T.2 0, 7, .inl f1_17))], [(a2_12, .inl (T.2 0, 28, .inl f2_18))], [(a3_13, .inl (T.2 0, 7, .inl f3_19))], [(a4_14, .inl (T.2 0, 7, .inl f4_20))]] _ _ := G.re rfl
  refine lv_aload_n hx hb dX4_takeAll_0 rfl (lv_at hl 0 rfl) ?_
  refine lv_aload_n hx hb dX4_takeAll_1 rfl (lv_at hl 1 rfl) ?_
  refine z_get C G clX4 5 rfl 0 (by decide) m_fl_RX4_24 rfl dX4_takeAll_2 ?_
  refine z_put C G clX4 0 rfl 0 (by decide) m_fl_RX4_24 rfl rfl rfl (Nat.le_of_ble_eq_true rfl) dX4_takeAll_5 (fun H locs G => ?_)
  have G : zS T A s.heap s [[(h, .inr (4, [.int v0_15, .int v1_6, .ref a1_1, .ref a2_2, .ref a3_3, .ref a4_4]))], [(a1_1, .inl (T.2 0, 7, .inl f1_7))], [(a2_2, .inl (T.2 0, 28, .inl f2_8))], [(a3_3, .inl (T.2 0, 7, .inl f3_9))], [(a4_4, .inl (T.2 0, 7, .inl f4_10))], [(o, .inr (4, [.int v0_15, .int v1_16, .ref a1_11, .ref a2_12, .ref a3_13, .ref a4_14]))], [(a1_11, .inl (T.2 0, 7, .inl f1_17))], [(a2_12, .inl (T.2 0, 28, .inl f2_18))], [(a3_13, .inl (T.2 0, 7, .inl f3_19))], [(a4_14, .inl (T.2 0, 7, .inl f4_20))]] _ _ := G
  refine lv_aload_n hx hb dX4_takeAll_8 rfl (lv_at hl 0 rfl) ?_
  refine lv_aload_n hx hb dX4_takeAll_9 rfl (lv_at hl 1 rfl) ?_
  refine z_get C G clX4 5 rfl 1 (by decide) m_fl_RX4_28 rfl dX4_takeAll_10 ?_
  refine z_put C G clX4 0 rfl 1 (by decide) m_fl_RX4_28 rfl rfl rfl (Nat.le_of_ble_eq_true rfl) dX4_takeAll_13 (fun H locs G => ?_)
  have G : zS T A s.heap s [[(h, .inr (4, [.int v0_15, .int v1_16, .ref a1_1, .ref a2_2, .ref a3_3, .ref a4_4]))], [(a1_1, .inl (T.2 0, 7, .inl f1_7))], [(a2_2, .inl (T.2 0, 28, .inl f2_8))], [(a3_3, .inl (T.2 0, 7, .inl f3_9))], [(a4_4, .inl (T.2 0, 7, .inl f4_10))], [(o, .inr (4, [.int v0_15, .int v1_16, .ref a1_11, .ref a2_12, .ref a3_13, .ref a4_14]))], [(a1_11, .inl (T.2 0, 7, .inl f1_17))], [(a2_12, .inl (T.2 0, 28, .inl f2_18))], [(a3_13, .inl (T.2 0, 7, .inl f3_19))], [(a4_14, .inl (T.2 0, 7, .inl f4_20))]] _ _ := G
  refine lv_iconst (v := 0) hx hb dX4_takeAll_16 (by decide) ?_
  refine lv_istore_n (lv' := [(2, .int 0), (0, .ref h), (1, .ref o)]) hx hb dX4_takeAll_17 rfl hl (by decide) rfl (fun ls hl => ?_)
  refine z_loop (T := T) (α := Nat × (Nat → Int32) × (Nat → Int32) × (Nat → Int32)) 18 (fun (i18, x18_0, x18_1, x18_2) => [[(h, .inr (4, [.int v0_15, .int v1_16, .ref a1_1, .ref a2_2, .ref a3_3, .ref a4_4]))], [(a1_1, .inl (T.2 0, 7, .inl x18_0))], [(a2_2, .inl (T.2 0, 28, .inl f2_8))], [(a3_3, .inl (T.2 0, 7, .inl x18_1))], [(a4_4, .inl (T.2 0, 7, .inl x18_2))], [(o, .inr (4, [.int v0_15, .int v1_16, .ref a1_11, .ref a2_12, .ref a3_13, .ref a4_14]))], [(a1_11, .inl (T.2 0, 7, .inl f1_17))], [(a2_12, .inl (T.2 0, 28, .inl f2_18))], [(a3_13, .inl (T.2 0, 7, .inl f3_19))], [(a4_14, .inl (T.2 0, 7, .inl f4_20))]]) (fun (i18, x18_0, x18_1, x18_2) => [(2, .int (nI i18)), (0, .ref h), (1, .ref o)]) (fun (i18, x18_0, x18_1, x18_2) => i18 ≤ 7) (fun (i18, x18_0, x18_1, x18_2) => 7 - i18) ?_ (0, f1_7, f3_9, f4_10) (show 0 ≤ 7 from by omega) G (lv_sub hl [0, 1, 2] rfl)
  rintro ⟨i18, x18_0, x18_1, x18_2⟩ hi18 ih H locs ls G hl
  have hi18 : i18 ≤ 7 := hi18
  have G : zS T A s.heap s [[(h, .inr (4, [.int v0_15, .int v1_16, .ref a1_1, .ref a2_2, .ref a3_3, .ref a4_4]))], [(a1_1, .inl (T.2 0, 7, .inl x18_0))], [(a2_2, .inl (T.2 0, 28, .inl f2_8))], [(a3_3, .inl (T.2 0, 7, .inl x18_1))], [(a4_4, .inl (T.2 0, 7, .inl x18_2))], [(o, .inr (4, [.int v0_15, .int v1_16, .ref a1_11, .ref a2_12, .ref a3_13, .ref a4_14]))], [(a1_11, .inl (T.2 0, 7, .inl f1_17))], [(a2_12, .inl (T.2 0, 28, .inl f2_18))], [(a3_13, .inl (T.2 0, 7, .inl f3_19))], [(a4_14, .inl (T.2 0, 7, .inl f4_20))]] _ _ := G
  have hl : lv_has ls 3 [(2, .int (nI i18)), (0, .ref h), (1, .ref o)] := hl
  refine lv_iload_n hx hb dX4_takeAll_18 rfl (lv_at hl 0 rfl) ?_
  refine lv_bipush (v := 7) hx hb dX4_takeAll_19 (by decide) ?_
  refine lv_icmp_ge (tgt := 66) hx hb dX4_takeAll_21 (by decide) (fun c_21 => ?_) (fun c_21 => ?_)
  · have c_21n : 7 ≤ i18 := (nI_leI (a := 7) (b := i18) (by omega) (by omega)).mp c_21
    refine lv_iconst (v := 0) hx hb dX4_takeAll_66 (by decide) ?_
    refine lv_istore_n (lv' := [(2, .int 0), (0, .ref h), (1, .ref o)]) hx hb dX4_takeAll_67 rfl hl (by decide) rfl (fun ls hl => ?_)
    refine z_loop (T := T) (α := Nat × (Nat → Int32)) 68 (fun (i68, x68_0) => [[(h, .inr (4, [.int v0_15, .int v1_16, .ref a1_1, .ref a2_2, .ref a3_3, .ref a4_4]))], [(a1_1, .inl (T.2 0, 7, .inl x18_0))], [(a2_2, .inl (T.2 0, 28, .inl x68_0))], [(a3_3, .inl (T.2 0, 7, .inl x18_1))], [(a4_4, .inl (T.2 0, 7, .inl x18_2))], [(o, .inr (4, [.int v0_15, .int v1_16, .ref a1_11, .ref a2_12, .ref a3_13, .ref a4_14]))], [(a1_11, .inl (T.2 0, 7, .inl f1_17))], [(a2_12, .inl (T.2 0, 28, .inl f2_18))], [(a3_13, .inl (T.2 0, 7, .inl f3_19))], [(a4_14, .inl (T.2 0, 7, .inl f4_20))]]) (fun (i68, x68_0) => [(2, .int (nI i68)), (0, .ref h), (1, .ref o)]) (fun (i68, x68_0) => i68 ≤ 28) (fun (i68, x68_0) => 28 - i68) ?_ (0, f2_8) (show 0 ≤ 28 from by omega) G (lv_sub hl [0, 1, 2] rfl)
    rintro ⟨i68, x68_0⟩ hi68 ih H locs ls G hl
    have hi68 : i68 ≤ 28 := hi68
    have G : zS T A s.heap s [[(h, .inr (4, [.int v0_15, .int v1_16, .ref a1_1, .ref a2_2, .ref a3_3, .ref a4_4]))], [(a1_1, .inl (T.2 0, 7, .inl x18_0))], [(a2_2, .inl (T.2 0, 28, .inl x68_0))], [(a3_3, .inl (T.2 0, 7, .inl x18_1))], [(a4_4, .inl (T.2 0, 7, .inl x18_2))], [(o, .inr (4, [.int v0_15, .int v1_16, .ref a1_11, .ref a2_12, .ref a3_13, .ref a4_14]))], [(a1_11, .inl (T.2 0, 7, .inl f1_17))], [(a2_12, .inl (T.2 0, 28, .inl f2_18))], [(a3_13, .inl (T.2 0, 7, .inl f3_19))], [(a4_14, .inl (T.2 0, 7, .inl f4_20))]] _ _ := G
    have hl : lv_has ls 3 [(2, .int (nI i68)), (0, .ref h), (1, .ref o)] := hl
    refine lv_iload_n hx hb dX4_takeAll_68 rfl (lv_at hl 0 rfl) ?_
    refine lv_bipush (v := 28) hx hb dX4_takeAll_69 (by decide) ?_
    refine lv_icmp_ge (tgt := 92) hx hb dX4_takeAll_71 (by decide) (fun c_22 => ?_) (fun c_22 => ?_)
    · have c_22n : 28 ≤ i68 := (nI_leI (a := 28) (b := i68) (by omega) (by omega)).mp c_22
      have G := G.sub (bs' := [[(o, .inr (4, [.int v0_15, .int v1_16, .ref a1_11, .ref a2_12, .ref a3_13, .ref a4_14]))], [(a1_11, .inl (T.2 0, 7, .inl f1_17))], [(a2_12, .inl (T.2 0, 28, .inl f2_18))], [(a3_13, .inl (T.2 0, 7, .inl f3_19))], [(a4_14, .inl (T.2 0, 7, .inl f4_20))], [(h, .inr (4, [.int v0_15, .int v1_16, .ref a1_1, .ref a2_2, .ref a3_3, .ref a4_4]))], [(a1_1, .inl (T.2 0, 7, .inl x18_0))], [(a2_2, .inl (T.2 0, 28, .inl x68_0))], [(a3_3, .inl (T.2 0, 7, .inl x18_1))], [(a4_4, .inl (T.2 0, 7, .inl x18_2))]]) [5, 6, 7, 8, 9, 0, 1, 2, 3, 4] rfl
      obtain ⟨w_23, hw_24, G⟩ : ∃ w : va_W, bLand T h w ∧ zS T A s.heap s [[(o, .inr (4, [.int v0_15, .int v1_16, .ref a1_11, .ref a2_12, .ref a3_13, .ref a4_14]))], [(a1_11, .inl (T.2 0, 7, .inl f1_17))], [(a2_12, .inl (T.2 0, 28, .inl f2_18))], [(a3_13, .inl (T.2 0, 7, .inl f3_19))], [(a4_14, .inl (T.2 0, 7, .inl f4_20))], w] _ _ := ⟨[(h, .inr (4, [.int v0_15, .int v1_16, .ref a1_1, .ref a2_2, .ref a3_3, .ref a4_4])), (a1_1, .inl (T.2 0, 7, .inl x18_0)), (a2_2, .inl (T.2 0, 28, .inl x68_0)), (a3_3, .inl (T.2 0, 7, .inl x18_1)), (a4_4, .inl (T.2 0, 7, .inl x18_2))], ⟨a1_1, a2_2, a3_3, a4_4, v0_15, v1_16, x18_0, x68_0, x18_1, x18_2, rfl⟩, G.re rfl⟩
      have G := G.sub (bs' := [w_23, [(o, .inr (4, [.int v0_15, .int v1_16, .ref a1_11, .ref a2_12, .ref a3_13, .ref a4_14]))], [(a1_11, .inl (T.2 0, 7, .inl f1_17))], [(a2_12, .inl (T.2 0, 28, .inl f2_18))], [(a3_13, .inl (T.2 0, 7, .inl f3_19))], [(a4_14, .inl (T.2 0, 7, .inl f4_20))]]) [5, 0, 1, 2, 3, 4] rfl
      obtain ⟨w_25, hw_26, G⟩ : ∃ w : va_W, bLand T o w ∧ zS T A s.heap s [w_23, w] _ _ := ⟨[(o, .inr (4, [.int v0_15, .int v1_16, .ref a1_11, .ref a2_12, .ref a3_13, .ref a4_14])), (a1_11, .inl (T.2 0, 7, .inl f1_17)), (a2_12, .inl (T.2 0, 28, .inl f2_18)), (a3_13, .inl (T.2 0, 7, .inl f3_19)), (a4_14, .inl (T.2 0, 7, .inl f4_20))], ⟨a1_11, a2_12, a3_13, a4_14, v0_15, v1_16, f1_17, f2_18, f3_19, f4_20, rfl⟩, G.re rfl⟩
      exact z_vret C hr hlocks G (Nat.le_of_ble_eq_true rfl) (Nat.le_of_ble_eq_true rfl) dX4_takeAll_92 ⟨w_23, w_25, rfl, hw_24, hw_26⟩
    · have c_22n : ¬ 28 ≤ i68 := fun q => c_22 ((nI_leI (a := 28) (b := i68) (by omega) (by omega)).mpr q)
      refine lv_aload_n hx hb dX4_takeAll_74 rfl (lv_at hl 1 rfl) ?_
      refine z_get C G clX4 0 rfl 3 (by decide) m_fl_RX4_15 rfl dX4_takeAll_75 ?_
      refine lv_iload_n hx hb dX4_takeAll_78 rfl (lv_at hl 0 rfl) ?_
      refine lv_aload_n hx hb dX4_takeAll_79 rfl (lv_at hl 2 rfl) ?_
      refine z_get C G clX4 5 rfl 3 (by decide) m_fl_RX4_15 rfl dX4_takeAll_80 ?_
      refine lv_iload_n hx hb dX4_takeAll_83 rfl (lv_at hl 0 rfl) ?_
      refine z_ild C G 7 rfl (vp_in_nI (by omega) (by omega)) dX4_takeAll_84 ?_
      refine lv_topi (fun v_27 ev_27 => ?_)
      rw [nI_clamp (by omega)] at ev_27
      subst ev_27
      refine z_ist C G 2 rfl (vp_in_nI (by omega) (by omega)) dX4_takeAll_85 (fun H locs G => ?_)
      rw [nI_clamp (by omega)] at G
      have G : zS T A s.heap s [[(h, .inr (4, [.int v0_15, .int v1_16, .ref a1_1, .ref a2_2, .ref a3_3, .ref a4_4]))], [(a1_1, .inl (T.2 0, 7, .inl x18_0))], [(a2_2, .inl (T.2 0, 28, .inl (upd x68_0 i68 (f2_18 i68))))], [(a3_3, .inl (T.2 0, 7, .inl x18_1))], [(a4_4, .inl (T.2 0, 7, .inl x18_2))], [(o, .inr (4, [.int v0_15, .int v1_16, .ref a1_11, .ref a2_12, .ref a3_13, .ref a4_14]))], [(a1_11, .inl (T.2 0, 7, .inl f1_17))], [(a2_12, .inl (T.2 0, 28, .inl f2_18))], [(a3_13, .inl (T.2 0, 7, .inl f3_19))], [(a4_14, .inl (T.2 0, 7, .inl f4_20))]] _ _ := G
      refine lv_iinc (v := nI (i68 + 1)) (lv' := [(2, .int (nI (i68 + 1))), (0, .ref h), (1, .ref o)]) hx hb dX4_takeAll_86 hl (k := 0) rfl (z_inc i68 1) (by decide) rfl (fun ls hl => ?_)
      refine lv_goto (tgt := 68) hx hb dX4_takeAll_89 (by decide) ?_
      exact ih ((i68 + 1), (upd x68_0 i68 (f2_18 i68))) (show (i68 + 1) ≤ 28 from by omega) (show 28 - (i68 + 1) < 28 - i68 from by omega) _ _ ls G (lv_sub hl [0, 1, 2] rfl)
  · have c_21n : ¬ 7 ≤ i18 := fun q => c_21 ((nI_leI (a := 7) (b := i18) (by omega) (by omega)).mpr q)
    refine lv_aload_n hx hb dX4_takeAll_24 rfl (lv_at hl 1 rfl) ?_
    refine z_get C G clX4 0 rfl 2 (by decide) m_fl_RX4_9 rfl dX4_takeAll_25 ?_
    refine lv_iload_n hx hb dX4_takeAll_28 rfl (lv_at hl 0 rfl) ?_
    refine lv_aload_n hx hb dX4_takeAll_29 rfl (lv_at hl 2 rfl) ?_
    refine z_get C G clX4 5 rfl 2 (by decide) m_fl_RX4_9 rfl dX4_takeAll_30 ?_
    refine lv_iload_n hx hb dX4_takeAll_33 rfl (lv_at hl 0 rfl) ?_
    refine z_ild C G 6 rfl (vp_in_nI (by omega) (by omega)) dX4_takeAll_34 ?_
    refine lv_topi (fun v_28 ev_28 => ?_)
    rw [nI_clamp (by omega)] at ev_28
    subst ev_28
    refine z_ist C G 1 rfl (vp_in_nI (by omega) (by omega)) dX4_takeAll_35 (fun H locs G => ?_)
    rw [nI_clamp (by omega)] at G
    have G : zS T A s.heap s [[(h, .inr (4, [.int v0_15, .int v1_16, .ref a1_1, .ref a2_2, .ref a3_3, .ref a4_4]))], [(a1_1, .inl (T.2 0, 7, .inl (upd x18_0 i18 (f1_17 i18))))], [(a2_2, .inl (T.2 0, 28, .inl f2_8))], [(a3_3, .inl (T.2 0, 7, .inl x18_1))], [(a4_4, .inl (T.2 0, 7, .inl x18_2))], [(o, .inr (4, [.int v0_15, .int v1_16, .ref a1_11, .ref a2_12, .ref a3_13, .ref a4_14]))], [(a1_11, .inl (T.2 0, 7, .inl f1_17))], [(a2_12, .inl (T.2 0, 28, .inl f2_18))], [(a3_13, .inl (T.2 0, 7, .inl f3_19))], [(a4_14, .inl (T.2 0, 7, .inl f4_20))]] _ _ := G
    refine lv_aload_n hx hb dX4_takeAll_36 rfl (lv_at hl 1 rfl) ?_
    refine z_get C G clX4 0 rfl 4 (by decide) m_fl_RX4_18 rfl dX4_takeAll_37 ?_
    refine lv_iload_n hx hb dX4_takeAll_40 rfl (lv_at hl 0 rfl) ?_
    refine lv_aload_n hx hb dX4_takeAll_41 rfl (lv_at hl 2 rfl) ?_
    refine z_get C G clX4 5 rfl 4 (by decide) m_fl_RX4_18 rfl dX4_takeAll_42 ?_
    refine lv_iload_n hx hb dX4_takeAll_45 rfl (lv_at hl 0 rfl) ?_
    refine z_ild C G 8 rfl (vp_in_nI (by omega) (by omega)) dX4_takeAll_46 ?_
    refine lv_topi (fun v_29 ev_29 => ?_)
    rw [nI_clamp (by omega)] at ev_29
    subst ev_29
    refine z_ist C G 3 rfl (vp_in_nI (by omega) (by omega)) dX4_takeAll_47 (fun H locs G => ?_)
    rw [nI_clamp (by omega)] at G
    have G : zS T A s.heap s [[(h, .inr (4, [.int v0_15, .int v1_16, .ref a1_1, .ref a2_2, .ref a3_3, .ref a4_4]))], [(a1_1, .inl (T.2 0, 7, .inl (upd x18_0 i18 (f1_17 i18))))], [(a2_2, .inl (T.2 0, 28, .inl f2_8))], [(a3_3, .inl (T.2 0, 7, .inl (upd x18_1 i18 (f3_19 i18))))], [(a4_4, .inl (T.2 0, 7, .inl x18_2))], [(o, .inr (4, [.int v0_15, .int v1_16, .ref a1_11, .ref a2_12, .ref a3_13, .ref a4_14]))], [(a1_11, .inl (T.2 0, 7, .inl f1_17))], [(a2_12, .inl (T.2 0, 28, .inl f2_18))], [(a3_13, .inl (T.2 0, 7, .inl f3_19))], [(a4_14, .inl (T.2 0, 7, .inl f4_20))]] _ _ := G
    refine lv_aload_n hx hb dX4_takeAll_48 rfl (lv_at hl 1 rfl) ?_
    refine z_get C G clX4 0 rfl 5 (by decide) m_fl_RX4_21 rfl dX4_takeAll_49 ?_
    refine lv_iload_n hx hb dX4_takeAll_52 rfl (lv_at hl 0 rfl) ?_
    refine lv_aload_n hx hb dX4_takeAll_53 rfl (lv_at hl 2 rfl) ?_
    refine z_get C G clX4 5 rfl 5 (by decide) m_fl_RX4_21 rfl dX4_takeAll_54 ?_
    refine lv_iload_n hx hb dX4_takeAll_57 rfl (lv_at hl 0 rfl) ?_
    refine z_ild C G 9 rfl (vp_in_nI (by omega) (by omega)) dX4_takeAll_58 ?_
    refine lv_topi (fun v_30 ev_30 => ?_)
    rw [nI_clamp (by omega)] at ev_30
    subst ev_30
    refine z_ist C G 4 rfl (vp_in_nI (by omega) (by omega)) dX4_takeAll_59 (fun H locs G => ?_)
    rw [nI_clamp (by omega)] at G
    have G : zS T A s.heap s [[(h, .inr (4, [.int v0_15, .int v1_16, .ref a1_1, .ref a2_2, .ref a3_3, .ref a4_4]))], [(a1_1, .inl (T.2 0, 7, .inl (upd x18_0 i18 (f1_17 i18))))], [(a2_2, .inl (T.2 0, 28, .inl f2_8))], [(a3_3, .inl (T.2 0, 7, .inl (upd x18_1 i18 (f3_19 i18))))], [(a4_4, .inl (T.2 0, 7, .inl (upd x18_2 i18 (f4_20 i18))))], [(o, .inr (4, [.int v0_15, .int v1_16, .ref a1_11, .ref a2_12, .ref a3_13, .ref a4_14]))], [(a1_11, .inl (T.2 0, 7, .inl f1_17))], [(a2_12, .inl (T.2 0, 28, .inl f2_18))], [(a3_13, .inl (T.2 0, 7, .inl f3_19))], [(a4_14, .inl (T.2 0, 7, .inl f4_20))]] _ _ := G
    refine lv_iinc (v := nI (i18 + 1)) (lv' := [(2, .int (nI (i18 + 1))), (0, .ref h), (1, .ref o)]) hx hb dX4_takeAll_60 hl (k := 0) rfl (z_inc i18 1) (by decide) rfl (fun ls hl => ?_)
    refine lv_goto (tgt := 18) hx hb dX4_takeAll_63 (by decide) ?_
    exact ih ((i18 + 1), (upd x18_0 i18 (f1_17 i18)), (upd x18_1 i18 (f3_19 i18)), (upd x18_2 i18 (f4_20 i18))) (show (i18 + 1) ≤ 7 from by omega) (show 7 - (i18 + 1) < 7 - i18 from by omega) _ _ ls G (lv_sub hl [0, 1, 2] rfl)
set_option maxHeartbeats 4000000 in
set_option maxRecDepth 100000 in
/-- c_Day_takeAll -/
theorem c_Day_takeAll (l : Launch) (T : zTy) (h : Nat) (o : Nat) (w : va_W) (z : va_W) (hw : bDay T h w) (hz : bDay T o z) : zMv l T yX2_takeAll cX2_takeAll 3 1 0 0 [.ref h, .ref o] [w, z] (fun bs => ∃ (w2 : va_W) (z2 : va_W), bs = [w2, z2] ∧ bDay T h w2 ∧ bDay T o z2) := by
  refine zMv_of (own := RX2) (by decide) rfl (Nat.le_of_ble_eq_true rfl) ?_
  intro p e s m args below meth c A ls C hr hlocks hnm hAe G hl
  have hx := C.1
  have hb := C.2.1
  have hl : lv_has ls 3 [(0, .ref h), (1, .ref o)] := hl
  obtain ⟨a1_1, a2_2, a3_3, v0_4, f1_5, f2_6, f3_7, rfl⟩ := hw
  have G : zS T A s.heap s [[(h, .inr (2, [.int v0_4, .ref a1_1, .ref a2_2, .ref a3_3]))], [(a1_1, .inl (T.2 0, 40, .inl f1_5))], [(a2_2, .inl (T.2 0, 40, .inl f2_6))], [(a3_3, .inl (T.2 0, 40, .inl f3_7))], z] _ _ := G.re rfl
  obtain ⟨a1_8, a2_9, a3_10, v0_11, f1_12, f2_13, f3_14, rfl⟩ := hz
  have G : zS T A s.heap s [[(h, .inr (2, [.int v0_4, .ref a1_1, .ref a2_2, .ref a3_3]))], [(a1_1, .inl (T.2 0, 40, .inl f1_5))], [(a2_2, .inl (T.2 0, 40, .inl f2_6))], [(a3_3, .inl (T.2 0, 40, .inl f3_7))], [(o, .inr (2, [.int v0_11, .ref a1_8, .ref a2_9, .ref a3_10]))], [(a1_8, .inl (T.2 0, 40, .inl f1_12))], [(a2_9, .inl (T.2 0, 40, .inl f2_13))], [(a3_10, .inl (T.2 0, 40, .inl f3_14))]] _ _ := G.re rfl
  refine lv_aload_n hx hb dX2_takeAll_0 rfl (lv_at hl 0 rfl) ?_
  refine lv_aload_n hx hb dX2_takeAll_1 rfl (lv_at hl 1 rfl) ?_
  refine z_get C G clX2 4 rfl 0 (by decide) m_fl_RX2_21 rfl dX2_takeAll_2 ?_
  refine z_put C G clX2 0 rfl 0 (by decide) m_fl_RX2_21 rfl rfl rfl (Nat.le_of_ble_eq_true rfl) dX2_takeAll_5 (fun H locs G => ?_)
  have G : zS T A s.heap s [[(h, .inr (2, [.int v0_11, .ref a1_1, .ref a2_2, .ref a3_3]))], [(a1_1, .inl (T.2 0, 40, .inl f1_5))], [(a2_2, .inl (T.2 0, 40, .inl f2_6))], [(a3_3, .inl (T.2 0, 40, .inl f3_7))], [(o, .inr (2, [.int v0_11, .ref a1_8, .ref a2_9, .ref a3_10]))], [(a1_8, .inl (T.2 0, 40, .inl f1_12))], [(a2_9, .inl (T.2 0, 40, .inl f2_13))], [(a3_10, .inl (T.2 0, 40, .inl f3_14))]] _ _ := G
  refine lv_iconst (v := 0) hx hb dX2_takeAll_8 (by decide) ?_
  refine lv_istore_n (lv' := [(2, .int 0), (0, .ref h), (1, .ref o)]) hx hb dX2_takeAll_9 rfl hl (by decide) rfl (fun ls hl => ?_)
  refine z_loop (T := T) (α := Nat × (Nat → Int32) × (Nat → Int32) × (Nat → Int32)) 10 (fun (i10, x10_0, x10_1, x10_2) => [[(h, .inr (2, [.int v0_11, .ref a1_1, .ref a2_2, .ref a3_3]))], [(a1_1, .inl (T.2 0, 40, .inl x10_0))], [(a2_2, .inl (T.2 0, 40, .inl x10_1))], [(a3_3, .inl (T.2 0, 40, .inl x10_2))], [(o, .inr (2, [.int v0_11, .ref a1_8, .ref a2_9, .ref a3_10]))], [(a1_8, .inl (T.2 0, 40, .inl f1_12))], [(a2_9, .inl (T.2 0, 40, .inl f2_13))], [(a3_10, .inl (T.2 0, 40, .inl f3_14))]]) (fun (i10, x10_0, x10_1, x10_2) => [(2, .int (nI i10)), (0, .ref h), (1, .ref o)]) (fun (i10, x10_0, x10_1, x10_2) => i10 ≤ 40) (fun (i10, x10_0, x10_1, x10_2) => 40 - i10) ?_ (0, f1_5, f2_6, f3_7) (show 0 ≤ 40 from by omega) G (lv_sub hl [0, 1, 2] rfl)
  rintro ⟨i10, x10_0, x10_1, x10_2⟩ hi10 ih H locs ls G hl
  have hi10 : i10 ≤ 40 := hi10
  have G : zS T A s.heap s [[(h, .inr (2, [.int v0_11, .ref a1_1, .ref a2_2, .ref a3_3]))], [(a1_1, .inl (T.2 0, 40, .inl x10_0))], [(a2_2, .inl (T.2 0, 40, .inl x10_1))], [(a3_3, .inl (T.2 0, 40, .inl x10_2))], [(o, .inr (2, [.int v0_11, .ref a1_8, .ref a2_9, .ref a3_10]))], [(a1_8, .inl (T.2 0, 40, .inl f1_12))], [(a2_9, .inl (T.2 0, 40, .inl f2_13))], [(a3_10, .inl (T.2 0, 40, .inl f3_14))]] _ _ := G
  have hl : lv_has ls 3 [(2, .int (nI i10)), (0, .ref h), (1, .ref o)] := hl
  refine lv_iload_n hx hb dX2_takeAll_10 rfl (lv_at hl 0 rfl) ?_
  refine lv_bipush (v := 40) hx hb dX2_takeAll_11 (by decide) ?_
  refine lv_icmp_ge (tgt := 58) hx hb dX2_takeAll_13 (by decide) (fun c_15 => ?_) (fun c_15 => ?_)
  · have c_15n : 40 ≤ i10 := (nI_leI (a := 40) (b := i10) (by omega) (by omega)).mp c_15
    have G := G.sub (bs' := [[(o, .inr (2, [.int v0_11, .ref a1_8, .ref a2_9, .ref a3_10]))], [(a1_8, .inl (T.2 0, 40, .inl f1_12))], [(a2_9, .inl (T.2 0, 40, .inl f2_13))], [(a3_10, .inl (T.2 0, 40, .inl f3_14))], [(h, .inr (2, [.int v0_11, .ref a1_1, .ref a2_2, .ref a3_3]))], [(a1_1, .inl (T.2 0, 40, .inl x10_0))], [(a2_2, .inl (T.2 0, 40, .inl x10_1))], [(a3_3, .inl (T.2 0, 40, .inl x10_2))]]) [4, 5, 6, 7, 0, 1, 2, 3] rfl
    obtain ⟨w_16, hw_17, G⟩ : ∃ w : va_W, bDay T h w ∧ zS T A s.heap s [[(o, .inr (2, [.int v0_11, .ref a1_8, .ref a2_9, .ref a3_10]))], [(a1_8, .inl (T.2 0, 40, .inl f1_12))], [(a2_9, .inl (T.2 0, 40, .inl f2_13))], [(a3_10, .inl (T.2 0, 40, .inl f3_14))], w] _ _ := ⟨[(h, .inr (2, [.int v0_11, .ref a1_1, .ref a2_2, .ref a3_3])), (a1_1, .inl (T.2 0, 40, .inl x10_0)), (a2_2, .inl (T.2 0, 40, .inl x10_1)), (a3_3, .inl (T.2 0, 40, .inl x10_2))], ⟨a1_1, a2_2, a3_3, v0_11, x10_0, x10_1, x10_2, rfl⟩, G.re rfl⟩
    have G := G.sub (bs' := [w_16, [(o, .inr (2, [.int v0_11, .ref a1_8, .ref a2_9, .ref a3_10]))], [(a1_8, .inl (T.2 0, 40, .inl f1_12))], [(a2_9, .inl (T.2 0, 40, .inl f2_13))], [(a3_10, .inl (T.2 0, 40, .inl f3_14))]]) [4, 0, 1, 2, 3] rfl
    obtain ⟨w_18, hw_19, G⟩ : ∃ w : va_W, bDay T o w ∧ zS T A s.heap s [w_16, w] _ _ := ⟨[(o, .inr (2, [.int v0_11, .ref a1_8, .ref a2_9, .ref a3_10])), (a1_8, .inl (T.2 0, 40, .inl f1_12)), (a2_9, .inl (T.2 0, 40, .inl f2_13)), (a3_10, .inl (T.2 0, 40, .inl f3_14))], ⟨a1_8, a2_9, a3_10, v0_11, f1_12, f2_13, f3_14, rfl⟩, G.re rfl⟩
    exact z_vret C hr hlocks G (Nat.le_of_ble_eq_true rfl) (Nat.le_of_ble_eq_true rfl) dX2_takeAll_58 ⟨w_16, w_18, rfl, hw_17, hw_19⟩
  · have c_15n : ¬ 40 ≤ i10 := fun q => c_15 ((nI_leI (a := 40) (b := i10) (by omega) (by omega)).mpr q)
    refine lv_aload_n hx hb dX2_takeAll_16 rfl (lv_at hl 1 rfl) ?_
    refine z_get C G clX2 0 rfl 1 (by decide) m_fl_RX2_9 rfl dX2_takeAll_17 ?_
    refine lv_iload_n hx hb dX2_takeAll_20 rfl (lv_at hl 0 rfl) ?_
    refine lv_aload_n hx hb dX2_takeAll_21 rfl (lv_at hl 2 rfl) ?_
    refine z_get C G clX2 4 rfl 1 (by decide) m_fl_RX2_9 rfl dX2_takeAll_22 ?_
    refine lv_iload_n hx hb dX2_takeAll_25 rfl (lv_at hl 0 rfl) ?_
    refine z_ild C G 5 rfl (vp_in_nI (by omega) (by omega)) dX2_takeAll_26 ?_
    refine lv_topi (fun v_20 ev_20 => ?_)
    rw [nI_clamp (by omega)] at ev_20
    subst ev_20
    refine z_ist C G 1 rfl (vp_in_nI (by omega) (by omega)) dX2_takeAll_27 (fun H locs G => ?_)
    rw [nI_clamp (by omega)] at G
    have G : zS T A s.heap s [[(h, .inr (2, [.int v0_11, .ref a1_1, .ref a2_2, .ref a3_3]))], [(a1_1, .inl (T.2 0, 40, .inl (upd x10_0 i10 (f1_12 i10))))], [(a2_2, .inl (T.2 0, 40, .inl x10_1))], [(a3_3, .inl (T.2 0, 40, .inl x10_2))], [(o, .inr (2, [.int v0_11, .ref a1_8, .ref a2_9, .ref a3_10]))], [(a1_8, .inl (T.2 0, 40, .inl f1_12))], [(a2_9, .inl (T.2 0, 40, .inl f2_13))], [(a3_10, .inl (T.2 0, 40, .inl f3_14))]] _ _ := G
    refine lv_aload_n hx hb dX2_takeAll_28 rfl (lv_at hl 1 rfl) ?_
    refine z_get C G clX2 0 rfl 2 (by decide) m_fl_RX2_15 rfl dX2_takeAll_29 ?_
    refine lv_iload_n hx hb dX2_takeAll_32 rfl (lv_at hl 0 rfl) ?_
    refine lv_aload_n hx hb dX2_takeAll_33 rfl (lv_at hl 2 rfl) ?_
    refine z_get C G clX2 4 rfl 2 (by decide) m_fl_RX2_15 rfl dX2_takeAll_34 ?_
    refine lv_iload_n hx hb dX2_takeAll_37 rfl (lv_at hl 0 rfl) ?_
    refine z_ild C G 6 rfl (vp_in_nI (by omega) (by omega)) dX2_takeAll_38 ?_
    refine lv_topi (fun v_21 ev_21 => ?_)
    rw [nI_clamp (by omega)] at ev_21
    subst ev_21
    refine z_ist C G 2 rfl (vp_in_nI (by omega) (by omega)) dX2_takeAll_39 (fun H locs G => ?_)
    rw [nI_clamp (by omega)] at G
    have G : zS T A s.heap s [[(h, .inr (2, [.int v0_11, .ref a1_1, .ref a2_2, .ref a3_3]))], [(a1_1, .inl (T.2 0, 40, .inl (upd x10_0 i10 (f1_12 i10))))], [(a2_2, .inl (T.2 0, 40, .inl (upd x10_1 i10 (f2_13 i10))))], [(a3_3, .inl (T.2 0, 40, .inl x10_2))], [(o, .inr (2, [.int v0_11, .ref a1_8, .ref a2_9, .ref a3_10]))], [(a1_8, .inl (T.2 0, 40, .inl f1_12))], [(a2_9, .inl (T.2 0, 40, .inl f2_13))], [(a3_10, .inl (T.2 0, 40, .inl f3_14))]] _ _ := G
    refine lv_aload_n hx hb dX2_takeAll_40 rfl (lv_at hl 1 rfl) ?_
    refine z_get C G clX2 0 rfl 3 (by decide) m_fl_RX2_18 rfl dX2_takeAll_41 ?_
    refine lv_iload_n hx hb dX2_takeAll_44 rfl (lv_at hl 0 rfl) ?_
    refine lv_aload_n hx hb dX2_takeAll_45 rfl (lv_at hl 2 rfl) ?_
    refine z_get C G clX2 4 rfl 3 (by decide) m_fl_RX2_18 rfl dX2_takeAll_46 ?_
    refine lv_iload_n hx hb dX2_takeAll_49 rfl (lv_at hl 0 rfl) ?_
    refine z_ild C G 7 rfl (vp_in_nI (by omega) (by omega)) dX2_takeAll_50 ?_
    refine lv_topi (fun v_22 ev_22 => ?_)
    rw [nI_clamp (by omega)] at ev_22
    subst ev_22
    refine z_ist C G 3 rfl (vp_in_nI (by omega) (by omega)) dX2_takeAll_51 (fun H locs G => ?_)
    rw [nI_clamp (by omega)] at G
    have G : zS T A s.heap s [[(h, .inr (2, [.int v0_11, .ref a1_1, .ref a2_2, .ref a3_3]))], [(a1_1, .inl (T.2 0, 40, .inl (upd x10_0 i10 (f1_12 i10))))], [(a2_2, .inl (T.2 0, 40, .inl (upd x10_1 i10 (f2_13 i10))))], [(a3_3, .inl (T.2 0, 40, .inl (upd x10_2 i10 (f3_14 i10))))], [(o, .inr (2, [.int v0_11, .ref a1_8, .ref a2_9, .ref a3_10]))], [(a1_8, .inl (T.2 0, 40, .inl f1_12))], [(a2_9, .inl (T.2 0, 40, .inl f2_13))], [(a3_10, .inl (T.2 0, 40, .inl f3_14))]] _ _ := G
    refine lv_iinc (v := nI (i10 + 1)) (lv' := [(2, .int (nI (i10 + 1))), (0, .ref h), (1, .ref o)]) hx hb dX2_takeAll_52 hl (k := 0) rfl (z_inc i10 1) (by decide) rfl (fun ls hl => ?_)
    refine lv_goto (tgt := 10) hx hb dX2_takeAll_55 (by decide) ?_
    exact ih ((i10 + 1), (upd x10_0 i10 (f1_12 i10)), (upd x10_1 i10 (f2_13 i10)), (upd x10_2 i10 (f3_14 i10))) (show (i10 + 1) ≤ 40 from by omega) (show 40 - (i10 + 1) < 40 - i10 from by omega) _ _ ls G (lv_sub hl [0, 1, 2] rfl)
set_option maxHeartbeats 4000000 in
set_option maxRecDepth 100000 in
/-- c_Log_takeAll -/
theorem c_Log_takeAll (l : Launch) (T : zTy) (h : Nat) (o : Nat) (w : va_W) (z : va_W) (hw : bLog T h w) (hz : bLog T o z) : zMv l T yX5_takeAll cX5_takeAll 3 1 0 0 [.ref h, .ref o] [w, z] (fun bs => ∃ (w2 : va_W) (z2 : va_W), bs = [w2, z2] ∧ bLog T h w2 ∧ bLog T o z2) := by
  refine zMv_of (own := RX5) (by decide) rfl (Nat.le_of_ble_eq_true rfl) ?_
  intro p e s m args below meth c A ls C hr hlocks hnm hAe G hl
  have hx := C.1
  have hb := C.2.1
  have hl : lv_has ls 3 [(0, .ref h), (1, .ref o)] := hl
  obtain ⟨a1_1, a2_2, v0_3, f1_4, f2_5, rfl⟩ := hw
  have G : zS T A s.heap s [[(h, .inr (5, [.int v0_3, .ref a1_1, .ref a2_2]))], [(a1_1, .inl (T.2 0, 8, .inl f1_4))], [(a2_2, .inl (T.2 0, 8, .inl f2_5))], z] _ _ := G.re rfl
  obtain ⟨a1_6, a2_7, v0_8, f1_9, f2_10, rfl⟩ := hz
  have G : zS T A s.heap s [[(h, .inr (5, [.int v0_3, .ref a1_1, .ref a2_2]))], [(a1_1, .inl (T.2 0, 8, .inl f1_4))], [(a2_2, .inl (T.2 0, 8, .inl f2_5))], [(o, .inr (5, [.int v0_8, .ref a1_6, .ref a2_7]))], [(a1_6, .inl (T.2 0, 8, .inl f1_9))], [(a2_7, .inl (T.2 0, 8, .inl f2_10))]] _ _ := G.re rfl
  refine lv_aload_n hx hb dX5_takeAll_0 rfl (lv_at hl 0 rfl) ?_
  refine lv_aload_n hx hb dX5_takeAll_1 rfl (lv_at hl 1 rfl) ?_
  refine z_get C G clX5 3 rfl 0 (by decide) m_fl_RX5_18 rfl dX5_takeAll_2 ?_
  refine z_put C G clX5 0 rfl 0 (by decide) m_fl_RX5_18 rfl rfl rfl (Nat.le_of_ble_eq_true rfl) dX5_takeAll_5 (fun H locs G => ?_)
  have G : zS T A s.heap s [[(h, .inr (5, [.int v0_8, .ref a1_1, .ref a2_2]))], [(a1_1, .inl (T.2 0, 8, .inl f1_4))], [(a2_2, .inl (T.2 0, 8, .inl f2_5))], [(o, .inr (5, [.int v0_8, .ref a1_6, .ref a2_7]))], [(a1_6, .inl (T.2 0, 8, .inl f1_9))], [(a2_7, .inl (T.2 0, 8, .inl f2_10))]] _ _ := G
  refine lv_iconst (v := 0) hx hb dX5_takeAll_8 (by decide) ?_
  refine lv_istore_n (lv' := [(2, .int 0), (0, .ref h), (1, .ref o)]) hx hb dX5_takeAll_9 rfl hl (by decide) rfl (fun ls hl => ?_)
  refine z_loop (T := T) (α := Nat × (Nat → Int32) × (Nat → Int32)) 10 (fun (i10, x10_0, x10_1) => [[(h, .inr (5, [.int v0_8, .ref a1_1, .ref a2_2]))], [(a1_1, .inl (T.2 0, 8, .inl x10_0))], [(a2_2, .inl (T.2 0, 8, .inl x10_1))], [(o, .inr (5, [.int v0_8, .ref a1_6, .ref a2_7]))], [(a1_6, .inl (T.2 0, 8, .inl f1_9))], [(a2_7, .inl (T.2 0, 8, .inl f2_10))]]) (fun (i10, x10_0, x10_1) => [(2, .int (nI i10)), (0, .ref h), (1, .ref o)]) (fun (i10, x10_0, x10_1) => i10 ≤ 8) (fun (i10, x10_0, x10_1) => 8 - i10) ?_ (0, f1_4, f2_5) (show 0 ≤ 8 from by omega) G (lv_sub hl [0, 1, 2] rfl)
  rintro ⟨i10, x10_0, x10_1⟩ hi10 ih H locs ls G hl
  have hi10 : i10 ≤ 8 := hi10
  have G : zS T A s.heap s [[(h, .inr (5, [.int v0_8, .ref a1_1, .ref a2_2]))], [(a1_1, .inl (T.2 0, 8, .inl x10_0))], [(a2_2, .inl (T.2 0, 8, .inl x10_1))], [(o, .inr (5, [.int v0_8, .ref a1_6, .ref a2_7]))], [(a1_6, .inl (T.2 0, 8, .inl f1_9))], [(a2_7, .inl (T.2 0, 8, .inl f2_10))]] _ _ := G
  have hl : lv_has ls 3 [(2, .int (nI i10)), (0, .ref h), (1, .ref o)] := hl
  refine lv_iload_n hx hb dX5_takeAll_10 rfl (lv_at hl 0 rfl) ?_
  refine lv_bipush (v := 8) hx hb dX5_takeAll_11 (by decide) ?_
  refine lv_icmp_ge (tgt := 46) hx hb dX5_takeAll_13 (by decide) (fun c_11 => ?_) (fun c_11 => ?_)
  · have c_11n : 8 ≤ i10 := (nI_leI (a := 8) (b := i10) (by omega) (by omega)).mp c_11
    have G := G.sub (bs' := [[(o, .inr (5, [.int v0_8, .ref a1_6, .ref a2_7]))], [(a1_6, .inl (T.2 0, 8, .inl f1_9))], [(a2_7, .inl (T.2 0, 8, .inl f2_10))], [(h, .inr (5, [.int v0_8, .ref a1_1, .ref a2_2]))], [(a1_1, .inl (T.2 0, 8, .inl x10_0))], [(a2_2, .inl (T.2 0, 8, .inl x10_1))]]) [3, 4, 5, 0, 1, 2] rfl
    obtain ⟨w_12, hw_13, G⟩ : ∃ w : va_W, bLog T h w ∧ zS T A s.heap s [[(o, .inr (5, [.int v0_8, .ref a1_6, .ref a2_7]))], [(a1_6, .inl (T.2 0, 8, .inl f1_9))], [(a2_7, .inl (T.2 0, 8, .inl f2_10))], w] _ _ := ⟨[(h, .inr (5, [.int v0_8, .ref a1_1, .ref a2_2])), (a1_1, .inl (T.2 0, 8, .inl x10_0)), (a2_2, .inl (T.2 0, 8, .inl x10_1))], ⟨a1_1, a2_2, v0_8, x10_0, x10_1, rfl⟩, G.re rfl⟩
    have G := G.sub (bs' := [w_12, [(o, .inr (5, [.int v0_8, .ref a1_6, .ref a2_7]))], [(a1_6, .inl (T.2 0, 8, .inl f1_9))], [(a2_7, .inl (T.2 0, 8, .inl f2_10))]]) [3, 0, 1, 2] rfl
    obtain ⟨w_14, hw_15, G⟩ : ∃ w : va_W, bLog T o w ∧ zS T A s.heap s [w_12, w] _ _ := ⟨[(o, .inr (5, [.int v0_8, .ref a1_6, .ref a2_7])), (a1_6, .inl (T.2 0, 8, .inl f1_9)), (a2_7, .inl (T.2 0, 8, .inl f2_10))], ⟨a1_6, a2_7, v0_8, f1_9, f2_10, rfl⟩, G.re rfl⟩
    exact z_vret C hr hlocks G (Nat.le_of_ble_eq_true rfl) (Nat.le_of_ble_eq_true rfl) dX5_takeAll_46 ⟨w_12, w_14, rfl, hw_13, hw_15⟩
  · have c_11n : ¬ 8 ≤ i10 := fun q => c_11 ((nI_leI (a := 8) (b := i10) (by omega) (by omega)).mpr q)
    refine lv_aload_n hx hb dX5_takeAll_16 rfl (lv_at hl 1 rfl) ?_
    refine z_get C G clX5 0 rfl 1 (by decide) m_fl_RX5_9 rfl dX5_takeAll_17 ?_
    refine lv_iload_n hx hb dX5_takeAll_20 rfl (lv_at hl 0 rfl) ?_
    refine lv_aload_n hx hb dX5_takeAll_21 rfl (lv_at hl 2 rfl) ?_
    refine z_get C G clX5 3 rfl 1 (by decide) m_fl_RX5_9 rfl dX5_takeAll_22 ?_
    refine lv_iload_n hx hb dX5_takeAll_25 rfl (lv_at hl 0 rfl) ?_
    refine z_ild C G 4 rfl (vp_in_nI (by omega) (by omega)) dX5_takeAll_26 ?_
    refine lv_topi (fun v_16 ev_16 => ?_)
    rw [nI_clamp (by omega)] at ev_16
    subst ev_16
    refine z_ist C G 1 rfl (vp_in_nI (by omega) (by omega)) dX5_takeAll_27 (fun H locs G => ?_)
    rw [nI_clamp (by omega)] at G
    have G : zS T A s.heap s [[(h, .inr (5, [.int v0_8, .ref a1_1, .ref a2_2]))], [(a1_1, .inl (T.2 0, 8, .inl (upd x10_0 i10 (f1_9 i10))))], [(a2_2, .inl (T.2 0, 8, .inl x10_1))], [(o, .inr (5, [.int v0_8, .ref a1_6, .ref a2_7]))], [(a1_6, .inl (T.2 0, 8, .inl f1_9))], [(a2_7, .inl (T.2 0, 8, .inl f2_10))]] _ _ := G
    refine lv_aload_n hx hb dX5_takeAll_28 rfl (lv_at hl 1 rfl) ?_
    refine z_get C G clX5 0 rfl 2 (by decide) m_fl_RX5_15 rfl dX5_takeAll_29 ?_
    refine lv_iload_n hx hb dX5_takeAll_32 rfl (lv_at hl 0 rfl) ?_
    refine lv_aload_n hx hb dX5_takeAll_33 rfl (lv_at hl 2 rfl) ?_
    refine z_get C G clX5 3 rfl 2 (by decide) m_fl_RX5_15 rfl dX5_takeAll_34 ?_
    refine lv_iload_n hx hb dX5_takeAll_37 rfl (lv_at hl 0 rfl) ?_
    refine z_ild C G 5 rfl (vp_in_nI (by omega) (by omega)) dX5_takeAll_38 ?_
    refine lv_topi (fun v_17 ev_17 => ?_)
    rw [nI_clamp (by omega)] at ev_17
    subst ev_17
    refine z_ist C G 2 rfl (vp_in_nI (by omega) (by omega)) dX5_takeAll_39 (fun H locs G => ?_)
    rw [nI_clamp (by omega)] at G
    have G : zS T A s.heap s [[(h, .inr (5, [.int v0_8, .ref a1_1, .ref a2_2]))], [(a1_1, .inl (T.2 0, 8, .inl (upd x10_0 i10 (f1_9 i10))))], [(a2_2, .inl (T.2 0, 8, .inl (upd x10_1 i10 (f2_10 i10))))], [(o, .inr (5, [.int v0_8, .ref a1_6, .ref a2_7]))], [(a1_6, .inl (T.2 0, 8, .inl f1_9))], [(a2_7, .inl (T.2 0, 8, .inl f2_10))]] _ _ := G
    refine lv_iinc (v := nI (i10 + 1)) (lv' := [(2, .int (nI (i10 + 1))), (0, .ref h), (1, .ref o)]) hx hb dX5_takeAll_40 hl (k := 0) rfl (z_inc i10 1) (by decide) rfl (fun ls hl => ?_)
    refine lv_goto (tgt := 10) hx hb dX5_takeAll_43 (by decide) ?_
    exact ih ((i10 + 1), (upd x10_0 i10 (f1_9 i10)), (upd x10_1 i10 (f2_10 i10))) (show (i10 + 1) ≤ 8 from by omega) (show 8 - (i10 + 1) < 8 - i10 from by omega) _ _ ls G (lv_sub hl [0, 1, 2] rfl)
set_option maxHeartbeats 4000000 in
set_option maxRecDepth 100000 in
/-- append: four bytes more -/
theorem c_append (l : Launch) (T : zTy) (h : Nat) (a1 : Nat) (a2 : Nat) (a3 : Nat) (a4 : Nat) (a5 : Nat) (k : Nat) (v1 : Int32) (v2 : Int32) (f : Nat → Int32) (x : Int32) (hk : k + 4 ≤ 600) : zMv l T yX9_append cX9_append 3 1 0 0 [.ref h, .int x] [[(h, .inr (8, [.ref a1, .int (nI k), .int v1, .int v2, .ref a2, .ref a3, .ref a4, .ref a5]))], [(a1, .inl (T.2 1, 600, .inl f))]] (fun bs => ∃ (g : Nat → Int32), bs = [[(h, .inr (8, [.ref a1, .int (nI (k + 4)), .int v1, .int v2, .ref a2, .ref a3, .ref a4, .ref a5]))], [(a1, .inl (T.2 1, 600, .inl g))]]) := by
  refine zMv_of (own := RX9) (by decide) rfl (Nat.le_of_ble_eq_true rfl) ?_
  intro p e s m args below meth c A ls C hr hlocks hnm hAe G hl
  have hx := C.1
  have hb := C.2.1
  have hl : lv_has ls 3 [(0, .ref h), (1, .int x)] := hl
  refine lv_bipush (v := 24) hx hb dX9_append_0 (by decide) ?_
  refine lv_istore_n (lv' := [(2, .int 24), (0, .ref h), (1, .int x)]) hx hb dX9_append_2 rfl hl (by decide) rfl (fun ls hl => ?_)
  refine lv_iload_n hx hb dX9_append_3 rfl (lv_at hl 0 rfl) ?_
  refine lv_if_lt (tgt := 46) hx hb dX9_append_4 (by decide) (fun q => absurd q (by decide)) (fun _ => ?_)
  refine lv_aload_n hx hb dX9_append_7 rfl (lv_at hl 1 rfl) ?_
  refine z_get C G clX9 0 rfl 1 (by decide) m_fl_RX9_44 rfl dX9_append_8 ?_
  refine lv_sipush (v := 600) hx hb dX9_append_11 (by decide) ?_
  refine lv_icmp_ge (tgt := 40) hx hb dX9_append_14 (by decide) (fun q => absurd q (fun q2 => absurd ((nI_leI (a := 600) (b := k) (by omega) (by omega)).mp q2) (by omega))) (fun _ => ?_)
  refine lv_aload_n hx hb dX9_append_17 rfl (lv_at hl 1 rfl) ?_
  refine z_get C G clX9 0 rfl 0 (by decide) m_fl_RX9_9 rfl dX9_append_18 ?_
  refine lv_aload_n hx hb dX9_append_21 rfl (lv_at hl 1 rfl) ?_
  refine z_get C G clX9 0 rfl 1 (by decide) m_fl_RX9_44 rfl dX9_append_22 ?_
  refine lv_iload_n hx hb dX9_append_25 rfl (lv_at hl 2 rfl) ?_
  refine lv_iload_n hx hb dX9_append_26 rfl (lv_at hl 0 rfl) ?_
  refine lv_ishr hx hb dX9_append_27 ?_
  refine lv_i2b hx hb dX9_append_28 rfl ?_
  refine z_bst C G 1 rfl (vp_in_nI (by omega) (by omega)) dX9_append_29 (fun H locs G => ?_)
  rw [nI_clamp (by omega)] at G
  have G : zS T A s.heap s [[(h, .inr (8, [.ref a1, .int (nI k), .int v1, .int v2, .ref a2, .ref a3, .ref a4, .ref a5]))], [(a1, .inl (T.2 1, 600, .inl (upd f k (vp_nar .byte ((x >>> (24 &&& 31)).toInt8.toInt32)))))]] _ _ := G
  refine lv_aload_n hx hb dX9_append_30 rfl (lv_at hl 1 rfl) ?_
  refine lv_dup hx hb dX9_append_31 rfl ?_
  refine z_get C G clX9 0 rfl 1 (by decide) m_fl_RX9_44 rfl dX9_append_32 ?_
  refine lv_iconst (v := 1) hx hb dX9_append_35 (by decide) ?_
  refine lv_iadd hx hb dX9_append_36 ?_
  refine lv_topi (fun y_1 ey_1 => ?_)
  obtain rfl : y_1 = nI (k + 1) := ey_1.trans (z_iaddn k 1 rfl rfl)
  refine z_put C G clX9 0 rfl 1 (by decide) m_fl_RX9_44 rfl rfl rfl (Nat.le_of_ble_eq_true rfl) dX9_append_37 (fun H locs G => ?_)
  have G : zS T A s.heap s [[(h, .inr (8, [.ref a1, .int (nI (k + 1)), .int v1, .int v2, .ref a2, .ref a3, .ref a4, .ref a5]))], [(a1, .inl (T.2 1, 600, .inl (upd f k (vp_nar .byte ((x >>> (24 &&& 31)).toInt8.toInt32)))))]] _ _ := G
  refine lv_iinc (v := 16) (lv' := [(2, .int 16), (0, .ref h), (1, .int x)]) hx hb dX9_append_40 hl (k := 0) rfl (by decide) (by decide) rfl (fun ls hl => ?_)
  refine lv_goto (tgt := 3) hx hb dX9_append_43 (by decide) ?_
  refine lv_iload_n hx hb dX9_append_3 rfl (lv_at hl 0 rfl) ?_
  refine lv_if_lt (tgt := 46) hx hb dX9_append_4 (by decide) (fun q => absurd q (by decide)) (fun _ => ?_)
  refine lv_aload_n hx hb dX9_append_7 rfl (lv_at hl 1 rfl) ?_
  refine z_get C G clX9 0 rfl 1 (by decide) m_fl_RX9_44 rfl dX9_append_8 ?_
  refine lv_sipush (v := 600) hx hb dX9_append_11 (by decide) ?_
  refine lv_icmp_ge (tgt := 40) hx hb dX9_append_14 (by decide) (fun q => absurd q (fun q2 => absurd ((nI_leI (a := 600) (b := k + 1) (by omega) (by omega)).mp q2) (by omega))) (fun _ => ?_)
  refine lv_aload_n hx hb dX9_append_17 rfl (lv_at hl 1 rfl) ?_
  refine z_get C G clX9 0 rfl 0 (by decide) m_fl_RX9_9 rfl dX9_append_18 ?_
  refine lv_aload_n hx hb dX9_append_21 rfl (lv_at hl 1 rfl) ?_
  refine z_get C G clX9 0 rfl 1 (by decide) m_fl_RX9_44 rfl dX9_append_22 ?_
  refine lv_iload_n hx hb dX9_append_25 rfl (lv_at hl 2 rfl) ?_
  refine lv_iload_n hx hb dX9_append_26 rfl (lv_at hl 0 rfl) ?_
  refine lv_ishr hx hb dX9_append_27 ?_
  refine lv_i2b hx hb dX9_append_28 rfl ?_
  refine z_bst C G 1 rfl (vp_in_nI (by omega) (by omega)) dX9_append_29 (fun H locs G => ?_)
  rw [nI_clamp (by omega)] at G
  have G : zS T A s.heap s [[(h, .inr (8, [.ref a1, .int (nI (k + 1)), .int v1, .int v2, .ref a2, .ref a3, .ref a4, .ref a5]))], [(a1, .inl (T.2 1, 600, .inl (upd (upd f k (vp_nar .byte ((x >>> (24 &&& 31)).toInt8.toInt32))) (k + 1) (vp_nar .byte ((x >>> (16 &&& 31)).toInt8.toInt32)))))]] _ _ := G
  refine lv_aload_n hx hb dX9_append_30 rfl (lv_at hl 1 rfl) ?_
  refine lv_dup hx hb dX9_append_31 rfl ?_
  refine z_get C G clX9 0 rfl 1 (by decide) m_fl_RX9_44 rfl dX9_append_32 ?_
  refine lv_iconst (v := 1) hx hb dX9_append_35 (by decide) ?_
  refine lv_iadd hx hb dX9_append_36 ?_
  refine lv_topi (fun y_2 ey_2 => ?_)
  obtain rfl : y_2 = nI ((k + 1) + 1) := ey_2.trans (z_iaddn (k + 1) 1 rfl rfl)
  refine z_put C G clX9 0 rfl 1 (by decide) m_fl_RX9_44 rfl rfl rfl (Nat.le_of_ble_eq_true rfl) dX9_append_37 (fun H locs G => ?_)
  have G : zS T A s.heap s [[(h, .inr (8, [.ref a1, .int (nI ((k + 1) + 1)), .int v1, .int v2, .ref a2, .ref a3, .ref a4, .ref a5]))], [(a1, .inl (T.2 1, 600, .inl (upd (upd f k (vp_nar .byte ((x >>> (24 &&& 31)).toInt8.toInt32))) (k + 1) (vp_nar .byte ((x >>> (16 &&& 31)).toInt8.toInt32)))))]] _ _ := G
  refine lv_iinc (v := 8) (lv' := [(2, .int 8), (0, .ref h), (1, .int x)]) hx hb dX9_append_40 hl (k := 0) rfl (by decide) (by decide) rfl (fun ls hl => ?_)
  refine lv_goto (tgt := 3) hx hb dX9_append_43 (by decide) ?_
  refine lv_iload_n hx hb dX9_append_3 rfl (lv_at hl 0 rfl) ?_
  refine lv_if_lt (tgt := 46) hx hb dX9_append_4 (by decide) (fun q => absurd q (by decide)) (fun _ => ?_)
  refine lv_aload_n hx hb dX9_append_7 rfl (lv_at hl 1 rfl) ?_
  refine z_get C G clX9 0 rfl 1 (by decide) m_fl_RX9_44 rfl dX9_append_8 ?_
  refine lv_sipush (v := 600) hx hb dX9_append_11 (by decide) ?_
  refine lv_icmp_ge (tgt := 40) hx hb dX9_append_14 (by decide) (fun q => absurd q (fun q2 => absurd ((nI_leI (a := 600) (b := (k + 1) + 1) (by omega) (by omega)).mp q2) (by omega))) (fun _ => ?_)
  refine lv_aload_n hx hb dX9_append_17 rfl (lv_at hl 1 rfl) ?_
  refine z_get C G clX9 0 rfl 0 (by decide) m_fl_RX9_9 rfl dX9_append_18 ?_
  refine lv_aload_n hx hb dX9_append_21 rfl (lv_at hl 1 rfl) ?_
  refine z_get C G clX9 0 rfl 1 (by decide) m_fl_RX9_44 rfl dX9_append_22 ?_
  refine lv_iload_n hx hb dX9_append_25 rfl (lv_at hl 2 rfl) ?_
  refine lv_iload_n hx hb dX9_append_26 rfl (lv_at hl 0 rfl) ?_
  refine lv_ishr hx hb dX9_append_27 ?_
  refine lv_i2b hx hb dX9_append_28 rfl ?_
  refine z_bst C G 1 rfl (vp_in_nI (by omega) (by omega)) dX9_append_29 (fun H locs G => ?_)
  rw [nI_clamp (by omega)] at G
  have G : zS T A s.heap s [[(h, .inr (8, [.ref a1, .int (nI ((k + 1) + 1)), .int v1, .int v2, .ref a2, .ref a3, .ref a4, .ref a5]))], [(a1, .inl (T.2 1, 600, .inl (upd (upd (upd f k (vp_nar .byte ((x >>> (24 &&& 31)).toInt8.toInt32))) (k + 1) (vp_nar .byte ((x >>> (16 &&& 31)).toInt8.toInt32))) ((k + 1) + 1) (vp_nar .byte ((x >>> (8 &&& 31)).toInt8.toInt32)))))]] _ _ := G
  refine lv_aload_n hx hb dX9_append_30 rfl (lv_at hl 1 rfl) ?_
  refine lv_dup hx hb dX9_append_31 rfl ?_
  refine z_get C G clX9 0 rfl 1 (by decide) m_fl_RX9_44 rfl dX9_append_32 ?_
  refine lv_iconst (v := 1) hx hb dX9_append_35 (by decide) ?_
  refine lv_iadd hx hb dX9_append_36 ?_
  refine lv_topi (fun y_3 ey_3 => ?_)
  obtain rfl : y_3 = nI (((k + 1) + 1) + 1) := ey_3.trans (z_iaddn ((k + 1) + 1) 1 rfl rfl)
  refine z_put C G clX9 0 rfl 1 (by decide) m_fl_RX9_44 rfl rfl rfl (Nat.le_of_ble_eq_true rfl) dX9_append_37 (fun H locs G => ?_)
  have G : zS T A s.heap s [[(h, .inr (8, [.ref a1, .int (nI (((k + 1) + 1) + 1)), .int v1, .int v2, .ref a2, .ref a3, .ref a4, .ref a5]))], [(a1, .inl (T.2 1, 600, .inl (upd (upd (upd f k (vp_nar .byte ((x >>> (24 &&& 31)).toInt8.toInt32))) (k + 1) (vp_nar .byte ((x >>> (16 &&& 31)).toInt8.toInt32))) ((k + 1) + 1) (vp_nar .byte ((x >>> (8 &&& 31)).toInt8.toInt32)))))]] _ _ := G
  refine lv_iinc (v := 0) (lv' := [(2, .int 0), (0, .ref h), (1, .int x)]) hx hb dX9_append_40 hl (k := 0) rfl (by decide) (by decide) rfl (fun ls hl => ?_)
  refine lv_goto (tgt := 3) hx hb dX9_append_43 (by decide) ?_
  refine lv_iload_n hx hb dX9_append_3 rfl (lv_at hl 0 rfl) ?_
  refine lv_if_lt (tgt := 46) hx hb dX9_append_4 (by decide) (fun q => absurd q (by decide)) (fun _ => ?_)
  refine lv_aload_n hx hb dX9_append_7 rfl (lv_at hl 1 rfl) ?_
  refine z_get C G clX9 0 rfl 1 (by decide) m_fl_RX9_44 rfl dX9_append_8 ?_
  refine lv_sipush (v := 600) hx hb dX9_append_11 (by decide) ?_
  refine lv_icmp_ge (tgt := 40) hx hb dX9_append_14 (by decide) (fun q => absurd q (fun q2 => absurd ((nI_leI (a := 600) (b := ((k + 1) + 1) + 1) (by omega) (by omega)).mp q2) (by omega))) (fun _ => ?_)
  refine lv_aload_n hx hb dX9_append_17 rfl (lv_at hl 1 rfl) ?_
  refine z_get C G clX9 0 rfl 0 (by decide) m_fl_RX9_9 rfl dX9_append_18 ?_
  refine lv_aload_n hx hb dX9_append_21 rfl (lv_at hl 1 rfl) ?_
  refine z_get C G clX9 0 rfl 1 (by decide) m_fl_RX9_44 rfl dX9_append_22 ?_
  refine lv_iload_n hx hb dX9_append_25 rfl (lv_at hl 2 rfl) ?_
  refine lv_iload_n hx hb dX9_append_26 rfl (lv_at hl 0 rfl) ?_
  refine lv_ishr hx hb dX9_append_27 ?_
  refine lv_i2b hx hb dX9_append_28 rfl ?_
  refine z_bst C G 1 rfl (vp_in_nI (by omega) (by omega)) dX9_append_29 (fun H locs G => ?_)
  rw [nI_clamp (by omega)] at G
  have G : zS T A s.heap s [[(h, .inr (8, [.ref a1, .int (nI (((k + 1) + 1) + 1)), .int v1, .int v2, .ref a2, .ref a3, .ref a4, .ref a5]))], [(a1, .inl (T.2 1, 600, .inl (upd (upd (upd (upd f k (vp_nar .byte ((x >>> (24 &&& 31)).toInt8.toInt32))) (k + 1) (vp_nar .byte ((x >>> (16 &&& 31)).toInt8.toInt32))) ((k + 1) + 1) (vp_nar .byte ((x >>> (8 &&& 31)).toInt8.toInt32))) (((k + 1) + 1) + 1) (vp_nar .byte ((x >>> (0 &&& 31)).toInt8.toInt32)))))]] _ _ := G
  refine lv_aload_n hx hb dX9_append_30 rfl (lv_at hl 1 rfl) ?_
  refine lv_dup hx hb dX9_append_31 rfl ?_
  refine z_get C G clX9 0 rfl 1 (by decide) m_fl_RX9_44 rfl dX9_append_32 ?_
  refine lv_iconst (v := 1) hx hb dX9_append_35 (by decide) ?_
  refine lv_iadd hx hb dX9_append_36 ?_
  refine lv_topi (fun y_4 ey_4 => ?_)
  obtain rfl : y_4 = nI ((((k + 1) + 1) + 1) + 1) := ey_4.trans (z_iaddn (((k + 1) + 1) + 1) 1 rfl rfl)
  refine z_put C G clX9 0 rfl 1 (by decide) m_fl_RX9_44 rfl rfl rfl (Nat.le_of_ble_eq_true rfl) dX9_append_37 (fun H locs G => ?_)
  have G : zS T A s.heap s [[(h, .inr (8, [.ref a1, .int (nI ((((k + 1) + 1) + 1) + 1)), .int v1, .int v2, .ref a2, .ref a3, .ref a4, .ref a5]))], [(a1, .inl (T.2 1, 600, .inl (upd (upd (upd (upd f k (vp_nar .byte ((x >>> (24 &&& 31)).toInt8.toInt32))) (k + 1) (vp_nar .byte ((x >>> (16 &&& 31)).toInt8.toInt32))) ((k + 1) + 1) (vp_nar .byte ((x >>> (8 &&& 31)).toInt8.toInt32))) (((k + 1) + 1) + 1) (vp_nar .byte ((x >>> (0 &&& 31)).toInt8.toInt32)))))]] _ _ := G
  refine lv_iinc (v := (-8)) (lv' := [(2, .int (-8)), (0, .ref h), (1, .int x)]) hx hb dX9_append_40 hl (k := 0) rfl (by decide) (by decide) rfl (fun ls hl => ?_)
  refine lv_goto (tgt := 3) hx hb dX9_append_43 (by decide) ?_
  refine lv_iload_n hx hb dX9_append_3 rfl (lv_at hl 0 rfl) ?_
  refine lv_if_lt (tgt := 46) hx hb dX9_append_4 (by decide) (fun _ => ?_) (fun q => absurd (by decide) q)
  exact z_vret C hr hlocks G (Nat.le_of_ble_eq_true rfl) (Nat.le_of_ble_eq_true rfl) dX9_append_46 ⟨_, rfl⟩
def zRes (so at_ : Int32) : Int32 := if 0 ≤ so.toInt ∧ so.toInt ≤ 2 ∧ at_.toInt = -1 then 0 else -2
set_option maxHeartbeats 4000000 in
set_option maxRecDepth 100000 in
/-- placeFor -/
theorem c_placeFor0 (l : Launch) (T : zTy) (h : Nat) (a1 : Nat) (a2 : Nat) (a3 : Nat) (a4 : Nat) (a5 : Nat) (n : Int32) (v1 : Int32) (v2 : Int32) (so : Int32) (at_ : Int32) : zMi l T yX9_placeFor cX9_placeFor 3 (some .int) 1 0 0 [.ref h, .int so, .int at_] [[(h, .inr (8, [.ref a1, .int n, .int v1, .int v2, .ref a2, .ref a3, .ref a4, .ref a5]))], [(a2, .inl (T.2 0, 3, .inl (fun _ => 0)))]] (fun (r : Int32) bs => bs = [[(h, .inr (8, [.ref a1, .int n, .int v1, .int v2, .ref a2, .ref a3, .ref a4, .ref a5]))], [(a2, .inl (T.2 0, 3, .inl (fun _ => 0)))]] ∧ ((r = 0 ∧ 0 ≤ so.toInt ∧ so.toInt ≤ 2 ∧ at_.toInt = -1) ∨ (r = (-2) ∧ (so.toInt < 0 ∨ 2 < so.toInt ∨ ¬ at_.toInt = -1)))) := by
  refine zMi_of (own := RX9) (by decide) rfl (Nat.le_of_ble_eq_true rfl) ?_
  intro p e s m args below meth c A ls C hr hlocks hnm hAe G hl
  have hx := C.1
  have hb := C.2.1
  have hl : lv_has ls 3 [(0, .ref h), (1, .int so), (2, .int at_)] := hl
  refine lv_iload_n hx hb dX9_placeFor_0 rfl (lv_at hl 1 rfl) ?_
  refine lv_if_lt (tgt := 9) hx hb dX9_placeFor_1 (by decide) (fun c_1 => ?_) (fun c_1 => ?_)
  · have c_1n : so.toInt < (0 : Int) := (fa_lt _ _).mp c_1
    refine lv_bipush (v := (-2)) hx hb dX9_placeFor_9 (by decide) ?_
    exact z_iret C hr hlocks G (Nat.le_of_ble_eq_true rfl) (Nat.le_of_ble_eq_true rfl) dX9_placeFor_11 ⟨rfl, (Or.inr (⟨rfl, (by first | assumption | omega)⟩))⟩
  · have c_1n : ¬ so.toInt < (0 : Int) := fun q => c_1 ((fa_lt _ _).mpr q)
    refine lv_iload_n hx hb dX9_placeFor_4 rfl (lv_at hl 1 rfl) ?_
    refine lv_iconst (v := 2) hx hb dX9_placeFor_5 (by decide) ?_
    refine lv_icmp_le (tgt := 12) hx hb dX9_placeFor_6 (by decide) (fun c_2 => ?_) (fun c_2 => ?_)
    · have c_2n : so.toInt ≤ (2 : Int) := (fa_le _ _).mp c_2
      refine lv_iload_n hx hb dX9_placeFor_12 rfl (lv_at hl 2 rfl) ?_
      refine lv_iconst (v := (-1)) hx hb dX9_placeFor_13 (by decide) ?_
      refine lv_icmp_ne (tgt := 39) hx hb dX9_placeFor_14 (by decide) (fun c_3 => ?_) (fun c_3 => ?_)
      · have c_3n : ¬ at_.toInt = (-1 : Int) := fun q => c_3 ((fa_eq _ _).mpr q)
        refine lv_iload_n hx hb dX9_placeFor_39 rfl (lv_at hl 2 rfl) ?_
        refine lv_if_lt (tgt := 57) hx hb dX9_placeFor_40 (by decide) (fun c_4 => ?_) (fun c_4 => ?_)
        · have c_4n : at_.toInt < (0 : Int) := (fa_lt _ _).mp c_4
          refine lv_bipush (v := (-2)) hx hb dX9_placeFor_57 (by decide) ?_
          exact z_iret C hr hlocks G (Nat.le_of_ble_eq_true rfl) (Nat.le_of_ble_eq_true rfl) dX9_placeFor_59 ⟨rfl, (Or.inr (⟨rfl, (by first | assumption | omega)⟩))⟩
        · have c_4n : ¬ at_.toInt < (0 : Int) := fun q => c_4 ((fa_lt _ _).mpr q)
          refine lv_iload_n hx hb dX9_placeFor_43 rfl (lv_at hl 2 rfl) ?_
          refine lv_aload_n hx hb dX9_placeFor_44 rfl (lv_at hl 0 rfl) ?_
          refine z_get C G clX9 0 rfl 4 (by decide) m_fl_RX9_19 rfl dX9_placeFor_45 ?_
          refine lv_iload_n hx hb dX9_placeFor_48 rfl (lv_at hl 1 rfl) ?_
          refine z_ild C G 1 rfl (vp_in_iff.mpr ⟨by omega, by omega⟩) dX9_placeFor_49 ?_
          refine lv_topi (fun v_5 ev_5 => ?_)
          subst ev_5
          refine lv_icmp_ge (tgt := 57) hx hb dX9_placeFor_50 (by decide) (fun _ => ?_) (fun q => absurd ((fa_le (0 : Int32) at_).mpr (by show (0 : Int) ≤ at_.toInt; omega)) q)
          refine lv_bipush (v := (-2)) hx hb dX9_placeFor_57 (by decide) ?_
          exact z_iret C hr hlocks G (Nat.le_of_ble_eq_true rfl) (Nat.le_of_ble_eq_true rfl) dX9_placeFor_59 ⟨rfl, (Or.inr (⟨rfl, (by first | assumption | omega)⟩))⟩
      · have c_3n : at_.toInt = (-1 : Int) := (fa_eq _ _).mp c_3
        refine lv_aload_n hx hb dX9_placeFor_17 rfl (lv_at hl 0 rfl) ?_
        refine z_get C G clX9 0 rfl 4 (by decide) m_fl_RX9_19 rfl dX9_placeFor_18 ?_
        refine lv_iload_n hx hb dX9_placeFor_21 rfl (lv_at hl 1 rfl) ?_
        refine z_ild C G 1 rfl (vp_in_iff.mpr ⟨by omega, by omega⟩) dX9_placeFor_22 ?_
        refine lv_topi (fun v_6 ev_6 => ?_)
        subst ev_6
        refine lv_iconst (v := 2) hx hb dX9_placeFor_23 (by decide) ?_
        refine lv_icmp_ge (tgt := 36) hx hb dX9_placeFor_24 (by decide) (fun q => absurd q (by decide)) (fun _ => ?_)
        refine lv_aload_n hx hb dX9_placeFor_27 rfl (lv_at hl 0 rfl) ?_
        refine z_get C G clX9 0 rfl 4 (by decide) m_fl_RX9_19 rfl dX9_placeFor_28 ?_
        refine lv_iload_n hx hb dX9_placeFor_31 rfl (lv_at hl 1 rfl) ?_
        refine z_ild C G 1 rfl (vp_in_iff.mpr ⟨by omega, by omega⟩) dX9_placeFor_32 ?_
        refine lv_topi (fun v_7 ev_7 => ?_)
        subst ev_7
        refine lv_goto (tgt := 38) hx hb dX9_placeFor_33 (by decide) ?_
        exact z_iret C hr hlocks G (Nat.le_of_ble_eq_true rfl) (Nat.le_of_ble_eq_true rfl) dX9_placeFor_38 ⟨rfl, (Or.inl (⟨rfl, (by first | assumption | omega), (by first | assumption | omega), (by first | assumption | omega)⟩))⟩
    · have c_2n : ¬ so.toInt ≤ (2 : Int) := fun q => c_2 ((fa_le _ _).mpr q)
      refine lv_bipush (v := (-2)) hx hb dX9_placeFor_9 (by decide) ?_
      exact z_iret C hr hlocks G (Nat.le_of_ble_eq_true rfl) (Nat.le_of_ble_eq_true rfl) dX9_placeFor_11 ⟨rfl, (Or.inr (⟨rfl, (by first | assumption | omega)⟩))⟩
set_option maxHeartbeats 4000000 in
set_option maxRecDepth 100000 in
/-- c_landAt0 -/
theorem c_landAt0 (l : Launch) (T : zTy) (h : Nat) (a1 : Nat) (a2 : Nat) (a3 : Nat) (a4 : Nat) (a5 : Nat) (n : Int32) (v1 : Int32) (v2 : Int32) (x : Int32) : zMq l T yX9_landAt cX9_landAt 2 (some (.object "TurnedPosts$Land")) 1 0 0 [.ref h, .int x] [[(h, .inr (8, [.ref a1, .int n, .int v1, .int v2, .ref a2, .ref a3, .ref a4, .ref a5]))], [(a2, .inl (T.2 0, 3, .inl (fun _ => 0)))]] (fun (r : Option Nat) bs => bs = [[(h, .inr (8, [.ref a1, .int n, .int v1, .int v2, .ref a2, .ref a3, .ref a4, .ref a5]))], [(a2, .inl (T.2 0, 3, .inl (fun _ => 0)))]] ∧ r = none) := by
  refine zMq_of (own := RX9) (by decide) rfl (Nat.le_of_ble_eq_true rfl) ?_
  intro p e s m args below meth c A ls C hr hlocks hnm hAe G hl
  have hx := C.1
  have hb := C.2.1
  have hl : lv_has ls 2 [(0, .ref h), (1, .int x)] := hl
  refine lv_iload_n hx hb dX9_landAt_0 rfl (lv_at hl 1 rfl) ?_
  refine lv_if_lt (tgt := 28) hx hb dX9_landAt_1 (by decide) (fun c_1 => ?_) (fun c_1 => ?_)
  · have c_1n : x.toInt < (0 : Int) := (fa_lt _ _).mp c_1
    refine lv_null hx hb dX9_landAt_28 ?_
    exact z_aret (r := none) C hr (Or.inl ⟨_, rfl⟩) hlocks G (Nat.le_of_ble_eq_true rfl) (Nat.le_of_ble_eq_true rfl) dX9_landAt_29 ⟨rfl, rfl⟩
  · have c_1n : ¬ x.toInt < (0 : Int) := fun q => c_1 ((fa_lt _ _).mpr q)
    refine lv_iload_n hx hb dX9_landAt_4 rfl (lv_at hl 1 rfl) ?_
    refine lv_aload_n hx hb dX9_landAt_5 rfl (lv_at hl 0 rfl) ?_
    refine z_get C G clX9 0 rfl 4 (by decide) m_fl_RX9_19 rfl dX9_landAt_6 ?_
    refine lv_iconst (v := 0) hx hb dX9_landAt_9 (by decide) ?_
    refine z_ild C G 1 rfl (vp_in_nI (n := 0) (by decide) (by decide)) dX9_landAt_10 ?_
    refine lv_topi (fun v_2 ev_2 => ?_)
    subst ev_2
    refine lv_icmp_ge (tgt := 28) hx hb dX9_landAt_11 (by decide) (fun _ => ?_) (fun q => absurd ((fa_le (0 : Int32) x).mpr (by show (0 : Int) ≤ x.toInt; omega)) q)
    refine lv_null hx hb dX9_landAt_28 ?_
    exact z_aret (r := none) C hr (Or.inl ⟨_, rfl⟩) hlocks G (Nat.le_of_ble_eq_true rfl) (Nat.le_of_ble_eq_true rfl) dX9_landAt_29 ⟨rfl, rfl⟩
set_option maxHeartbeats 4000000 in
set_option maxRecDepth 100000 in
/-- c_dayAt0 -/
theorem c_dayAt0 (l : Launch) (T : zTy) (h : Nat) (a1 : Nat) (a2 : Nat) (a3 : Nat) (a4 : Nat) (a5 : Nat) (n : Int32) (v1 : Int32) (v2 : Int32) (x : Int32) : zMq l T yX9_dayAt cX9_dayAt 2 (some (.object "TurnedPosts$Day")) 1 0 0 [.ref h, .int x] [[(h, .inr (8, [.ref a1, .int n, .int v1, .int v2, .ref a2, .ref a3, .ref a4, .ref a5]))], [(a2, .inl (T.2 0, 3, .inl (fun _ => 0)))]] (fun (r : Option Nat) bs => bs = [[(h, .inr (8, [.ref a1, .int n, .int v1, .int v2, .ref a2, .ref a3, .ref a4, .ref a5]))], [(a2, .inl (T.2 0, 3, .inl (fun _ => 0)))]] ∧ r = none) := by
  refine zMq_of (own := RX9) (by decide) rfl (Nat.le_of_ble_eq_true rfl) ?_
  intro p e s m args below meth c A ls C hr hlocks hnm hAe G hl
  have hx := C.1
  have hb := C.2.1
  have hl : lv_has ls 2 [(0, .ref h), (1, .int x)] := hl
  refine lv_iload_n hx hb dX9_dayAt_0 rfl (lv_at hl 1 rfl) ?_
  refine lv_if_lt (tgt := 28) hx hb dX9_dayAt_1 (by decide) (fun c_1 => ?_) (fun c_1 => ?_)
  · have c_1n : x.toInt < (0 : Int) := (fa_lt _ _).mp c_1
    refine lv_null hx hb dX9_dayAt_28 ?_
    exact z_aret (r := none) C hr (Or.inl ⟨_, rfl⟩) hlocks G (Nat.le_of_ble_eq_true rfl) (Nat.le_of_ble_eq_true rfl) dX9_dayAt_29 ⟨rfl, rfl⟩
  · have c_1n : ¬ x.toInt < (0 : Int) := fun q => c_1 ((fa_lt _ _).mpr q)
    refine lv_iload_n hx hb dX9_dayAt_4 rfl (lv_at hl 1 rfl) ?_
    refine lv_aload_n hx hb dX9_dayAt_5 rfl (lv_at hl 0 rfl) ?_
    refine z_get C G clX9 0 rfl 4 (by decide) m_fl_RX9_19 rfl dX9_dayAt_6 ?_
    refine lv_iconst (v := 1) hx hb dX9_dayAt_9 (by decide) ?_
    refine z_ild C G 1 rfl (vp_in_nI (n := 1) (by decide) (by decide)) dX9_dayAt_10 ?_
    refine lv_topi (fun v_2 ev_2 => ?_)
    subst ev_2
    refine lv_icmp_ge (tgt := 28) hx hb dX9_dayAt_11 (by decide) (fun _ => ?_) (fun q => absurd ((fa_le (0 : Int32) x).mpr (by show (0 : Int) ≤ x.toInt; omega)) q)
    refine lv_null hx hb dX9_dayAt_28 ?_
    exact z_aret (r := none) C hr (Or.inl ⟨_, rfl⟩) hlocks G (Nat.le_of_ble_eq_true rfl) (Nat.le_of_ble_eq_true rfl) dX9_dayAt_29 ⟨rfl, rfl⟩
set_option maxHeartbeats 4000000 in
set_option maxRecDepth 100000 in
/-- c_logAt0 -/
theorem c_logAt0 (l : Launch) (T : zTy) (h : Nat) (a1 : Nat) (a2 : Nat) (a3 : Nat) (a4 : Nat) (a5 : Nat) (n : Int32) (v1 : Int32) (v2 : Int32) (x : Int32) : zMq l T yX9_logAt cX9_logAt 2 (some (.object "TurnedPosts$Log")) 1 0 0 [.ref h, .int x] [[(h, .inr (8, [.ref a1, .int n, .int v1, .int v2, .ref a2, .ref a3, .ref a4, .ref a5]))], [(a2, .inl (T.2 0, 3, .inl (fun _ => 0)))]] (fun (r : Option Nat) bs => bs = [[(h, .inr (8, [.ref a1, .int n, .int v1, .int v2, .ref a2, .ref a3, .ref a4, .ref a5]))], [(a2, .inl (T.2 0, 3, .inl (fun _ => 0)))]] ∧ r = none) := by
  refine zMq_of (own := RX9) (by decide) rfl (Nat.le_of_ble_eq_true rfl) ?_
  intro p e s m args below meth c A ls C hr hlocks hnm hAe G hl
  have hx := C.1
  have hb := C.2.1
  have hl : lv_has ls 2 [(0, .ref h), (1, .int x)] := hl
  refine lv_iload_n hx hb dX9_logAt_0 rfl (lv_at hl 1 rfl) ?_
  refine lv_if_lt (tgt := 28) hx hb dX9_logAt_1 (by decide) (fun c_1 => ?_) (fun c_1 => ?_)
  · have c_1n : x.toInt < (0 : Int) := (fa_lt _ _).mp c_1
    refine lv_null hx hb dX9_logAt_28 ?_
    exact z_aret (r := none) C hr (Or.inl ⟨_, rfl⟩) hlocks G (Nat.le_of_ble_eq_true rfl) (Nat.le_of_ble_eq_true rfl) dX9_logAt_29 ⟨rfl, rfl⟩
  · have c_1n : ¬ x.toInt < (0 : Int) := fun q => c_1 ((fa_lt _ _).mpr q)
    refine lv_iload_n hx hb dX9_logAt_4 rfl (lv_at hl 1 rfl) ?_
    refine lv_aload_n hx hb dX9_logAt_5 rfl (lv_at hl 0 rfl) ?_
    refine z_get C G clX9 0 rfl 4 (by decide) m_fl_RX9_19 rfl dX9_logAt_6 ?_
    refine lv_iconst (v := 2) hx hb dX9_logAt_9 (by decide) ?_
    refine z_ild C G 1 rfl (vp_in_nI (n := 2) (by decide) (by decide)) dX9_logAt_10 ?_
    refine lv_topi (fun v_2 ev_2 => ?_)
    subst ev_2
    refine lv_icmp_ge (tgt := 28) hx hb dX9_logAt_11 (by decide) (fun _ => ?_) (fun q => absurd ((fa_le (0 : Int32) x).mpr (by show (0 : Int) ≤ x.toInt; omega)) q)
    refine lv_null hx hb dX9_logAt_28 ?_
    exact z_aret (r := none) C hr (Or.inl ⟨_, rfl⟩) hlocks G (Nat.le_of_ble_eq_true rfl) (Nat.le_of_ble_eq_true rfl) dX9_logAt_29 ⟨rfl, rfl⟩
set_option maxHeartbeats 4000000 in
set_option maxRecDepth 100000 in
/-- takeAll: its cells are not told here -/
theorem c_Told_takeAll (l : Launch) (T : zTy) (h : Nat) (o : Nat) (a1p : Nat) (a2p : Nat) (a3p : Nat) (a4p : Nat) (a5p : Nat) (v0p : Int32) (v1p : Int32) (v2p : Int32) (f1p : Nat → Int32) (f2p : Nat → Int32) (f3p : Nat → Option Nat) (f4p : Nat → Option Nat) (f5p : Nat → Option Nat) (l0p : Nat) (l1p : Nat) (d0p : Nat) (d1p : Nat) (g0p : Nat) (g1p : Nat) (w1p : va_W) (w2p : va_W) (w3p : va_W) (w4p : va_W) (w5p : va_W) (w6p : va_W) (a1o : Nat) (a2o : Nat) (a3o : Nat) (a4o : Nat) (a5o : Nat) (v0o : Int32) (v1o : Int32) (v2o : Int32) (f1o : Nat → Int32) (f2o : Nat → Int32) (f3o : Nat → Option Nat) (f4o : Nat → Option Nat) (f5o : Nat → Option Nat) (l0o : Nat) (l1o : Nat) (d0o : Nat) (d1o : Nat) (g0o : Nat) (g1o : Nat) (w1o : va_W) (w2o : va_W) (w3o : va_W) (w4o : va_W) (w5o : va_W) (w6o : va_W) (hw0p : bLand T l0p w1p) (hw1p : bLand T l1p w2p) (hw2p : bDay T d0p w3p) (hw3p : bDay T d1p w4p) (hw4p : bLog T g0p w5p) (hw5p : bLog T g1p w6p) (he0p : f3p 0 = some l0p) (he1p : f3p 1 = some l1p) (he2p : f4p 0 = some d0p) (he3p : f4p 1 = some d1p) (he4p : f5p 0 = some g0p) (he5p : f5p 1 = some g1p) (hw0o : bLand T l0o w1o) (hw1o : bLand T l1o w2o) (hw2o : bDay T d0o w3o) (hw3o : bDay T d1o w4o) (hw4o : bLog T g0o w5o) (hw5o : bLog T g1o w6o) (he0o : f3o 0 = some l0o) (he1o : f3o 1 = some l1o) (he2o : f4o 0 = some d0o) (he3o : f4o 1 = some d1o) (he4o : f5o 0 = some g0o) (he5o : f5o 1 = some g1o) : zMv l T yX9_takeAll cX9_takeAll 3 2 0 0 [.ref h, .ref o] [[(h, .inr (8, [.ref a1p, .int v0p, .int v1p, .int v2p, .ref a2p, .ref a3p, .ref a4p, .ref a5p]))], [(a1p, .inl (T.2 1, 600, .inl f1p))], [(a2p, .inl (T.2 0, 3, .inl f2p))], [(a3p, .inl (T.2 3, 2, .inr (.inr (.inr (.inr f3p)))))], [(a4p, .inl (T.2 4, 2, .inr (.inr (.inr (.inr f4p)))))], [(a5p, .inl (T.2 5, 2, .inr (.inr (.inr (.inr f5p)))))], w1p, w2p, w3p, w4p, w5p, w6p, [(o, .inr (8, [.ref a1o, .int v0o, .int v1o, .int v2o, .ref a2o, .ref a3o, .ref a4o, .ref a5o]))], [(a1o, .inl (T.2 1, 600, .inl f1o))], [(a2o, .inl (T.2 0, 3, .inl f2o))], [(a3o, .inl (T.2 3, 2, .inr (.inr (.inr (.inr f3o)))))], [(a4o, .inl (T.2 4, 2, .inr (.inr (.inr (.inr f4o)))))], [(a5o, .inl (T.2 5, 2, .inr (.inr (.inr (.inr f5o)))))], w1o, w2o, w3o, w4o, w5o, w6o] (fun bs => bs = []) := by
  refine zMv_of (own := RX9) (by decide) rfl (Nat.le_of_ble_eq_true rfl) ?_
  intro p e s m args below meth c A ls C hr hlocks hnm hAe G hl
  have hx := C.1
  have hb := C.2.1
  have hl : lv_has ls 3 [(0, .ref h), (1, .ref o)] := hl
  refine lv_iconst (v := 0) hx hb dX9_takeAll_0 (by decide) ?_
  refine lv_istore_n (lv' := [(2, .int 0), (0, .ref h), (1, .ref o)]) hx hb dX9_takeAll_1 rfl hl (by decide) rfl (fun ls hl => ?_)
  refine z_loop (T := T) (α := Nat × (Nat → Int32)) 2 (fun (i, g) => [[(h, .inr (8, [.ref a1p, .int v0p, .int v1p, .int v2p, .ref a2p, .ref a3p, .ref a4p, .ref a5p]))], [(a1p, .inl (T.2 1, 600, .inl g))], [(a2p, .inl (T.2 0, 3, .inl f2p))], [(a3p, .inl (T.2 3, 2, .inr (.inr (.inr (.inr f3p)))))], [(a4p, .inl (T.2 4, 2, .inr (.inr (.inr (.inr f4p)))))], [(a5p, .inl (T.2 5, 2, .inr (.inr (.inr (.inr f5p)))))], w1p, w2p, w3p, w4p, w5p, w6p, [(o, .inr (8, [.ref a1o, .int v0o, .int v1o, .int v2o, .ref a2o, .ref a3o, .ref a4o, .ref a5o]))], [(a1o, .inl (T.2 1, 600, .inl f1o))], [(a2o, .inl (T.2 0, 3, .inl f2o))], [(a3o, .inl (T.2 3, 2, .inr (.inr (.inr (.inr f3o)))))], [(a4o, .inl (T.2 4, 2, .inr (.inr (.inr (.inr f4o)))))], [(a5o, .inl (T.2 5, 2, .inr (.inr (.inr (.inr f5o)))))], w1o, w2o, w3o, w4o, w5o, w6o]) (fun (i, g) => [(2, .int (nI i)), (0, .ref h), (1, .ref o)]) (fun (i, g) => i ≤ 600) (fun (i, g) => 600 - i) ?_ (0, f1p) (show 0 ≤ 600 from by omega) G (lv_sub hl [0, 1, 2] rfl)
  rintro ⟨i, g⟩ hi ih H locs ls G hl
  have hi : i ≤ 600 := hi
  have G : zS T A s.heap s [[(h, .inr (8, [.ref a1p, .int v0p, .int v1p, .int v2p, .ref a2p, .ref a3p, .ref a4p, .ref a5p]))], [(a1p, .inl (T.2 1, 600, .inl g))], [(a2p, .inl (T.2 0, 3, .inl f2p))], [(a3p, .inl (T.2 3, 2, .inr (.inr (.inr (.inr f3p)))))], [(a4p, .inl (T.2 4, 2, .inr (.inr (.inr (.inr f4p)))))], [(a5p, .inl (T.2 5, 2, .inr (.inr (.inr (.inr f5p)))))], w1p, w2p, w3p, w4p, w5p, w6p, [(o, .inr (8, [.ref a1o, .int v0o, .int v1o, .int v2o, .ref a2o, .ref a3o, .ref a4o, .ref a5o]))], [(a1o, .inl (T.2 1, 600, .inl f1o))], [(a2o, .inl (T.2 0, 3, .inl f2o))], [(a3o, .inl (T.2 3, 2, .inr (.inr (.inr (.inr f3o)))))], [(a4o, .inl (T.2 4, 2, .inr (.inr (.inr (.inr f4o)))))], [(a5o, .inl (T.2 5, 2, .inr (.inr (.inr (.inr f5o)))))], w1o, w2o, w3o, w4o, w5o, w6o] _ _ := G
  have hl : lv_has ls 3 [(2, .int (nI i)), (0, .ref h), (1, .ref o)] := hl
  refine lv_iload_n hx hb dX9_takeAll_2 rfl (lv_at hl 0 rfl) ?_
  refine lv_sipush (v := 600) hx hb dX9_takeAll_3 (by decide) ?_
  refine lv_icmp_ge (tgt := 27) hx hb dX9_takeAll_6 (by decide) (fun c_1 => ?_) (fun c_1 => ?_)
  · have c_1n : 600 ≤ i := (nI_leI (a := 600) (b := i) (by omega) (by omega)).mp c_1
    refine lv_aload_n hx hb dX9_takeAll_27 rfl (lv_at hl 1 rfl) ?_
    refine lv_aload_n hx hb dX9_takeAll_28 rfl (lv_at hl 2 rfl) ?_
    refine z_get C G clX9 12 rfl 1 (by decide) m_fl_RX9_44 rfl dX9_takeAll_29 ?_
    refine z_put C G clX9 0 rfl 1 (by decide) m_fl_RX9_44 rfl rfl rfl (Nat.le_of_ble_eq_true rfl) dX9_takeAll_32 (fun H locs G => ?_)
    have G : zS T A s.heap s [[(h, .inr (8, [.ref a1p, .int v0o, .int v1p, .int v2p, .ref a2p, .ref a3p, .ref a4p, .ref a5p]))], [(a1p, .inl (T.2 1, 600, .inl g))], [(a2p, .inl (T.2 0, 3, .inl f2p))], [(a3p, .inl (T.2 3, 2, .inr (.inr (.inr (.inr f3p)))))], [(a4p, .inl (T.2 4, 2, .inr (.inr (.inr (.inr f4p)))))], [(a5p, .inl (T.2 5, 2, .inr (.inr (.inr (.inr f5p)))))], w1p, w2p, w3p, w4p, w5p, w6p, [(o, .inr (8, [.ref a1o, .int v0o, .int v1o, .int v2o, .ref a2o, .ref a3o, .ref a4o, .ref a5o]))], [(a1o, .inl (T.2 1, 600, .inl f1o))], [(a2o, .inl (T.2 0, 3, .inl f2o))], [(a3o, .inl (T.2 3, 2, .inr (.inr (.inr (.inr f3o)))))], [(a4o, .inl (T.2 4, 2, .inr (.inr (.inr (.inr f4o)))))], [(a5o, .inl (T.2 5, 2, .inr (.inr (.inr (.inr f5o)))))], w1o, w2o, w3o, w4o, w5o, w6o] _ _ := G
    refine lv_aload_n hx hb dX9_takeAll_35 rfl (lv_at hl 1 rfl) ?_
    refine lv_aload_n hx hb dX9_takeAll_36 rfl (lv_at hl 2 rfl) ?_
    refine z_get C G clX9 12 rfl 2 (by decide) m_fl_RX9_77 rfl dX9_takeAll_37 ?_
    refine z_put C G clX9 0 rfl 2 (by decide) m_fl_RX9_77 rfl rfl rfl (Nat.le_of_ble_eq_true rfl) dX9_takeAll_40 (fun H locs G => ?_)
    have G : zS T A s.heap s [[(h, .inr (8, [.ref a1p, .int v0o, .int v1o, .int v2p, .ref a2p, .ref a3p, .ref a4p, .ref a5p]))], [(a1p, .inl (T.2 1, 600, .inl g))], [(a2p, .inl (T.2 0, 3, .inl f2p))], [(a3p, .inl (T.2 3, 2, .inr (.inr (.inr (.inr f3p)))))], [(a4p, .inl (T.2 4, 2, .inr (.inr (.inr (.inr f4p)))))], [(a5p, .inl (T.2 5, 2, .inr (.inr (.inr (.inr f5p)))))], w1p, w2p, w3p, w4p, w5p, w6p, [(o, .inr (8, [.ref a1o, .int v0o, .int v1o, .int v2o, .ref a2o, .ref a3o, .ref a4o, .ref a5o]))], [(a1o, .inl (T.2 1, 600, .inl f1o))], [(a2o, .inl (T.2 0, 3, .inl f2o))], [(a3o, .inl (T.2 3, 2, .inr (.inr (.inr (.inr f3o)))))], [(a4o, .inl (T.2 4, 2, .inr (.inr (.inr (.inr f4o)))))], [(a5o, .inl (T.2 5, 2, .inr (.inr (.inr (.inr f5o)))))], w1o, w2o, w3o, w4o, w5o, w6o] _ _ := G
    refine lv_aload_n hx hb dX9_takeAll_43 rfl (lv_at hl 1 rfl) ?_
    refine lv_aload_n hx hb dX9_takeAll_44 rfl (lv_at hl 2 rfl) ?_
    refine z_get C G clX9 12 rfl 3 (by decide) m_fl_RX9_15 rfl dX9_takeAll_45 ?_
    refine z_put C G clX9 0 rfl 3 (by decide) m_fl_RX9_15 rfl rfl rfl (Nat.le_of_ble_eq_true rfl) dX9_takeAll_48 (fun H locs G => ?_)
    have G : zS T A s.heap s [[(h, .inr (8, [.ref a1p, .int v0o, .int v1o, .int v2o, .ref a2p, .ref a3p, .ref a4p, .ref a5p]))], [(a1p, .inl (T.2 1, 600, .inl g))], [(a2p, .inl (T.2 0, 3, .inl f2p))], [(a3p, .inl (T.2 3, 2, .inr (.inr (.inr (.inr f3p)))))], [(a4p, .inl (T.2 4, 2, .inr (.inr (.inr (.inr f4p)))))], [(a5p, .inl (T.2 5, 2, .inr (.inr (.inr (.inr f5p)))))], w1p, w2p, w3p, w4p, w5p, w6p, [(o, .inr (8, [.ref a1o, .int v0o, .int v1o, .int v2o, .ref a2o, .ref a3o, .ref a4o, .ref a5o]))], [(a1o, .inl (T.2 1, 600, .inl f1o))], [(a2o, .inl (T.2 0, 3, .inl f2o))], [(a3o, .inl (T.2 3, 2, .inr (.inr (.inr (.inr f3o)))))], [(a4o, .inl (T.2 4, 2, .inr (.inr (.inr (.inr f4o)))))], [(a5o, .inl (T.2 5, 2, .inr (.inr (.inr (.inr f5o)))))], w1o, w2o, w3o, w4o, w5o, w6o] _ _ := G
    refine lv_iconst (v := 0) hx hb dX9_takeAll_51 (by decide) ?_
    refine lv_istore_n (lv' := [(2, .int 0), (0, .ref h), (1, .ref o)]) hx hb dX9_takeAll_52 rfl hl (by decide) rfl (fun ls hl => ?_)
    refine lv_iload_n hx hb dX9_takeAll_53 rfl (lv_at hl 0 rfl) ?_
    refine lv_iconst (v := 2) hx hb dX9_takeAll_54 (by decide) ?_
    refine lv_icmp_gt (tgt := 76) hx hb dX9_takeAll_55 (by decide) (fun q => absurd q (by decide)) (fun _ => ?_)
    refine lv_aload_n hx hb dX9_takeAll_58 rfl (lv_at hl 1 rfl) ?_
    refine z_get C G clX9 0 rfl 4 (by decide) m_fl_RX9_19 rfl dX9_takeAll_59 ?_
    refine lv_iload_n hx hb dX9_takeAll_62 rfl (lv_at hl 0 rfl) ?_
    refine lv_aload_n hx hb dX9_takeAll_63 rfl (lv_at hl 2 rfl) ?_
    refine z_get C G clX9 12 rfl 4 (by decide) m_fl_RX9_19 rfl dX9_takeAll_64 ?_
    refine lv_iload_n hx hb dX9_takeAll_67 rfl (lv_at hl 0 rfl) ?_
    refine z_ild C G 14 rfl (vp_in_nI (n := 0) (by decide) (by decide)) dX9_takeAll_68 ?_
    refine lv_topi (fun v_2 ev_2 => ?_)
    rw [show ((0 : Int32).toNatClampNeg) = 0 from rfl] at ev_2
    subst ev_2
    refine z_ist C G 2 rfl (vp_in_nI (n := 0) (by decide) (by decide)) dX9_takeAll_69 (fun H locs G => ?_)
    have G : zS T A s.heap s [[(h, .inr (8, [.ref a1p, .int v0o, .int v1o, .int v2o, .ref a2p, .ref a3p, .ref a4p, .ref a5p]))], [(a1p, .inl (T.2 1, 600, .inl g))], [(a2p, .inl (T.2 0, 3, .inl (upd f2p 0 (f2o 0))))], [(a3p, .inl (T.2 3, 2, .inr (.inr (.inr (.inr f3p)))))], [(a4p, .inl (T.2 4, 2, .inr (.inr (.inr (.inr f4p)))))], [(a5p, .inl (T.2 5, 2, .inr (.inr (.inr (.inr f5p)))))], w1p, w2p, w3p, w4p, w5p, w6p, [(o, .inr (8, [.ref a1o, .int v0o, .int v1o, .int v2o, .ref a2o, .ref a3o, .ref a4o, .ref a5o]))], [(a1o, .inl (T.2 1, 600, .inl f1o))], [(a2o, .inl (T.2 0, 3, .inl f2o))], [(a3o, .inl (T.2 3, 2, .inr (.inr (.inr (.inr f3o)))))], [(a4o, .inl (T.2 4, 2, .inr (.inr (.inr (.inr f4o)))))], [(a5o, .inl (T.2 5, 2, .inr (.inr (.inr (.inr f5o)))))], w1o, w2o, w3o, w4o, w5o, w6o] _ _ := G
    refine lv_iinc (v := 1) (lv' := [(2, .int 1), (0, .ref h), (1, .ref o)]) hx hb dX9_takeAll_70 hl (k := 0) rfl (by decide) (by decide) rfl (fun ls hl => ?_)
    refine lv_goto (tgt := 53) hx hb dX9_takeAll_73 (by decide) ?_
    refine lv_iload_n hx hb dX9_takeAll_53 rfl (lv_at hl 0 rfl) ?_
    refine lv_iconst (v := 2) hx hb dX9_takeAll_54 (by decide) ?_
    refine lv_icmp_gt (tgt := 76) hx hb dX9_takeAll_55 (by decide) (fun q => absurd q (by decide)) (fun _ => ?_)
    refine lv_aload_n hx hb dX9_takeAll_58 rfl (lv_at hl 1 rfl) ?_
    refine z_get C G clX9 0 rfl 4 (by decide) m_fl_RX9_19 rfl dX9_takeAll_59 ?_
    refine lv_iload_n hx hb dX9_takeAll_62 rfl (lv_at hl 0 rfl) ?_
    refine lv_aload_n hx hb dX9_takeAll_63 rfl (lv_at hl 2 rfl) ?_
    refine z_get C G clX9 12 rfl 4 (by decide) m_fl_RX9_19 rfl dX9_takeAll_64 ?_
    refine lv_iload_n hx hb dX9_takeAll_67 rfl (lv_at hl 0 rfl) ?_
    refine z_ild C G 14 rfl (vp_in_nI (n := 1) (by decide) (by decide)) dX9_takeAll_68 ?_
    refine lv_topi (fun v_3 ev_3 => ?_)
    rw [show ((1 : Int32).toNatClampNeg) = 1 from rfl] at ev_3
    subst ev_3
    refine z_ist C G 2 rfl (vp_in_nI (n := 1) (by decide) (by decide)) dX9_takeAll_69 (fun H locs G => ?_)
    have G : zS T A s.heap s [[(h, .inr (8, [.ref a1p, .int v0o, .int v1o, .int v2o, .ref a2p, .ref a3p, .ref a4p, .ref a5p]))], [(a1p, .inl (T.2 1, 600, .inl g))], [(a2p, .inl (T.2 0, 3, .inl (upd (upd f2p 0 (f2o 0)) 1 (f2o 1))))], [(a3p, .inl (T.2 3, 2, .inr (.inr (.inr (.inr f3p)))))], [(a4p, .inl (T.2 4, 2, .inr (.inr (.inr (.inr f4p)))))], [(a5p, .inl (T.2 5, 2, .inr (.inr (.inr (.inr f5p)))))], w1p, w2p, w3p, w4p, w5p, w6p, [(o, .inr (8, [.ref a1o, .int v0o, .int v1o, .int v2o, .ref a2o, .ref a3o, .ref a4o, .ref a5o]))], [(a1o, .inl (T.2 1, 600, .inl f1o))], [(a2o, .inl (T.2 0, 3, .inl f2o))], [(a3o, .inl (T.2 3, 2, .inr (.inr (.inr (.inr f3o)))))], [(a4o, .inl (T.2 4, 2, .inr (.inr (.inr (.inr f4o)))))], [(a5o, .inl (T.2 5, 2, .inr (.inr (.inr (.inr f5o)))))], w1o, w2o, w3o, w4o, w5o, w6o] _ _ := G
    refine lv_iinc (v := 2) (lv' := [(2, .int 2), (0, .ref h), (1, .ref o)]) hx hb dX9_takeAll_70 hl (k := 0) rfl (by decide) (by decide) rfl (fun ls hl => ?_)
    refine lv_goto (tgt := 53) hx hb dX9_takeAll_73 (by decide) ?_
    refine lv_iload_n hx hb dX9_takeAll_53 rfl (lv_at hl 0 rfl) ?_
    refine lv_iconst (v := 2) hx hb dX9_takeAll_54 (by decide) ?_
    refine lv_icmp_gt (tgt := 76) hx hb dX9_takeAll_55 (by decide) (fun q => absurd q (by decide)) (fun _ => ?_)
    refine lv_aload_n hx hb dX9_takeAll_58 rfl (lv_at hl 1 rfl) ?_
    refine z_get C G clX9 0 rfl 4 (by decide) m_fl_RX9_19 rfl dX9_takeAll_59 ?_
    refine lv_iload_n hx hb dX9_takeAll_62 rfl (lv_at hl 0 rfl) ?_
    refine lv_aload_n hx hb dX9_takeAll_63 rfl (lv_at hl 2 rfl) ?_
    refine z_get C G clX9 12 rfl 4 (by decide) m_fl_RX9_19 rfl dX9_takeAll_64 ?_
    refine lv_iload_n hx hb dX9_takeAll_67 rfl (lv_at hl 0 rfl) ?_
    refine z_ild C G 14 rfl (vp_in_nI (n := 2) (by decide) (by decide)) dX9_takeAll_68 ?_
    refine lv_topi (fun v_4 ev_4 => ?_)
    rw [show ((2 : Int32).toNatClampNeg) = 2 from rfl] at ev_4
    subst ev_4
    refine z_ist C G 2 rfl (vp_in_nI (n := 2) (by decide) (by decide)) dX9_takeAll_69 (fun H locs G => ?_)
    have G : zS T A s.heap s [[(h, .inr (8, [.ref a1p, .int v0o, .int v1o, .int v2o, .ref a2p, .ref a3p, .ref a4p, .ref a5p]))], [(a1p, .inl (T.2 1, 600, .inl g))], [(a2p, .inl (T.2 0, 3, .inl (upd (upd (upd f2p 0 (f2o 0)) 1 (f2o 1)) 2 (f2o 2))))], [(a3p, .inl (T.2 3, 2, .inr (.inr (.inr (.inr f3p)))))], [(a4p, .inl (T.2 4, 2, .inr (.inr (.inr (.inr f4p)))))], [(a5p, .inl (T.2 5, 2, .inr (.inr (.inr (.inr f5p)))))], w1p, w2p, w3p, w4p, w5p, w6p, [(o, .inr (8, [.ref a1o, .int v0o, .int v1o, .int v2o, .ref a2o, .ref a3o, .ref a4o, .ref a5o]))], [(a1o, .inl (T.2 1, 600, .inl f1o))], [(a2o, .inl (T.2 0, 3, .inl f2o))], [(a3o, .inl (T.2 3, 2, .inr (.inr (.inr (.inr f3o)))))], [(a4o, .inl (T.2 4, 2, .inr (.inr (.inr (.inr f4o)))))], [(a5o, .inl (T.2 5, 2, .inr (.inr (.inr (.inr f5o)))))], w1o, w2o, w3o, w4o, w5o, w6o] _ _ := G
    refine lv_iinc (v := 3) (lv' := [(2, .int 3), (0, .ref h), (1, .ref o)]) hx hb dX9_takeAll_70 hl (k := 0) rfl (by decide) (by decide) rfl (fun ls hl => ?_)
    refine lv_goto (tgt := 53) hx hb dX9_takeAll_73 (by decide) ?_
    refine lv_iload_n hx hb dX9_takeAll_53 rfl (lv_at hl 0 rfl) ?_
    refine lv_iconst (v := 2) hx hb dX9_takeAll_54 (by decide) ?_
    refine lv_icmp_gt (tgt := 76) hx hb dX9_takeAll_55 (by decide) (fun _ => ?_) (fun q => absurd (by decide) q)
    refine lv_iconst (v := 0) hx hb dX9_takeAll_76 (by decide) ?_
    refine lv_istore_n (lv' := [(2, .int 0), (0, .ref h), (1, .ref o)]) hx hb dX9_takeAll_77 rfl hl (by decide) rfl (fun ls hl => ?_)
    refine lv_iload_n hx hb dX9_takeAll_78 rfl (lv_at hl 0 rfl) ?_
    refine lv_iconst (v := 2) hx hb dX9_takeAll_79 (by decide) ?_
    refine lv_icmp_ge (tgt := 134) hx hb dX9_takeAll_80 (by decide) (fun q => absurd q (by decide)) (fun _ => ?_)
    refine lv_aload_n hx hb dX9_takeAll_83 rfl (lv_at hl 1 rfl) ?_
    refine z_get C G clX9 0 rfl 5 (by decide) m_fl_RX9_26 rfl dX9_takeAll_84 ?_
    refine lv_iload_n hx hb dX9_takeAll_87 rfl (lv_at hl 0 rfl) ?_
    refine z_ald C G 3 3 rfl rfl (vp_in_nI (n := 0) (by decide) (by decide)) dX9_takeAll_88 ?_
    rw [show f3p ((0 : Int32).toNatClampNeg) = some l0p from he0p]
    refine lv_aload_n hx hb dX9_takeAll_89 rfl (lv_at hl 2 rfl) ?_
    refine z_get C G clX9 12 rfl 5 (by decide) m_fl_RX9_26 rfl dX9_takeAll_90 ?_
    refine lv_iload_n hx hb dX9_takeAll_93 rfl (lv_at hl 0 rfl) ?_
    refine z_ald C G 15 3 rfl rfl (vp_in_nI (n := 0) (by decide) (by decide)) dX9_takeAll_94 ?_
    rw [show f3o ((0 : Int32).toNatClampNeg) = some l0o from he0o]
    refine z_Vv (bc := [w1p, w1o]) (br := [[(h, .inr (8, [.ref a1p, .int v0o, .int v1o, .int v2o, .ref a2p, .ref a3p, .ref a4p, .ref a5p]))], [(a1p, .inl (T.2 1, 600, .inl g))], [(a2p, .inl (T.2 0, 3, .inl (upd (upd (upd f2p 0 (f2o 0)) 1 (f2o 1)) 2 (f2o 2))))], [(a3p, .inl (T.2 3, 2, .inr (.inr (.inr (.inr f3p)))))], [(a4p, .inl (T.2 4, 2, .inr (.inr (.inr (.inr f4p)))))], [(a5p, .inl (T.2 5, 2, .inr (.inr (.inr (.inr f5p)))))], w2p, w3p, w4p, w5p, w6p, [(o, .inr (8, [.ref a1o, .int v0o, .int v1o, .int v2o, .ref a2o, .ref a3o, .ref a4o, .ref a5o]))], [(a1o, .inl (T.2 1, 600, .inl f1o))], [(a2o, .inl (T.2 0, 3, .inl f2o))], [(a3o, .inl (T.2 3, 2, .inr (.inr (.inr (.inr f3o)))))], [(a4o, .inl (T.2 4, 2, .inr (.inr (.inr (.inr f4o)))))], [(a5o, .inl (T.2 5, 2, .inr (.inr (.inr (.inr f5o)))))], w2o, w3o, w4o, w5o, w6o]) (As := [.ref l0o]) (rest := []) C G (c_Land_takeAll l T l0p l0o w1p w1o hw0p hw0o) (kV_RX9_53 C.2.2.2.2 (Nat.le_of_ble_eq_true rfl) (Nat.le_of_ble_eq_true rfl)) [6, 18] [0, 1, 2, 3, 4, 5, 7, 8, 9, 10, 11, 12, 13, 14, 15, 16, 17, 19, 20, 21, 22, 23] rfl rfl (ci := 4) (qc := (RX4, TX4, 6)) rfl rfl (List.mem_flatten.mpr ⟨_, List.mem_of_getElem? (i := 0) rfl, (bLand_mem hw0p).choose_spec⟩) rfl rfl hl.1 dX9_takeAll_95 (Nat.le_of_ble_eq_true rfl) (Nat.le_of_ble_eq_true rfl) (fun b1 H locs hw G => ?_)
    obtain ⟨w2_5, z2_6, rfl, h_7, h_8⟩ := hw
    have G : zS T A s.heap s [[(h, .inr (8, [.ref a1p, .int v0o, .int v1o, .int v2o, .ref a2p, .ref a3p, .ref a4p, .ref a5p]))], [(a1p, .inl (T.2 1, 600, .inl g))], [(a2p, .inl (T.2 0, 3, .inl (upd (upd (upd f2p 0 (f2o 0)) 1 (f2o 1)) 2 (f2o 2))))], [(a3p, .inl (T.2 3, 2, .inr (.inr (.inr (.inr f3p)))))], [(a4p, .inl (T.2 4, 2, .inr (.inr (.inr (.inr f4p)))))], [(a5p, .inl (T.2 5, 2, .inr (.inr (.inr (.inr f5p)))))], w2p, w3p, w4p, w5p, w6p, [(o, .inr (8, [.ref a1o, .int v0o, .int v1o, .int v2o, .ref a2o, .ref a3o, .ref a4o, .ref a5o]))], [(a1o, .inl (T.2 1, 600, .inl f1o))], [(a2o, .inl (T.2 0, 3, .inl f2o))], [(a3o, .inl (T.2 3, 2, .inr (.inr (.inr (.inr f3o)))))], [(a4o, .inl (T.2 4, 2, .inr (.inr (.inr (.inr f4o)))))], [(a5o, .inl (T.2 5, 2, .inr (.inr (.inr (.inr f5o)))))], w2o, w3o, w4o, w5o, w6o, w2_5, z2_6] _ _ := G
    refine lv_aload_n hx hb dX9_takeAll_98 rfl (lv_at hl 1 rfl) ?_
    refine z_get C G clX9 0 rfl 6 (by decide) m_fl_RX9_33 rfl dX9_takeAll_99 ?_
    refine lv_iload_n hx hb dX9_takeAll_102 rfl (lv_at hl 0 rfl) ?_
    refine z_ald C G 4 4 rfl rfl (vp_in_nI (n := 0) (by decide) (by decide)) dX9_takeAll_103 ?_
    rw [show f4p ((0 : Int32).toNatClampNeg) = some d0p from he2p]
    refine lv_aload_n hx hb dX9_takeAll_104 rfl (lv_at hl 2 rfl) ?_
    refine z_get C G clX9 11 rfl 6 (by decide) m_fl_RX9_33 rfl dX9_takeAll_105 ?_
    refine lv_iload_n hx hb dX9_takeAll_108 rfl (lv_at hl 0 rfl) ?_
    refine z_ald C G 15 4 rfl rfl (vp_in_nI (n := 0) (by decide) (by decide)) dX9_takeAll_109 ?_
    rw [show f4o ((0 : Int32).toNatClampNeg) = some d0o from he2o]
    refine z_Vv (bc := [w3p, w3o]) (br := [[(h, .inr (8, [.ref a1p, .int v0o, .int v1o, .int v2o, .ref a2p, .ref a3p, .ref a4p, .ref a5p]))], [(a1p, .inl (T.2 1, 600, .inl g))], [(a2p, .inl (T.2 0, 3, .inl (upd (upd (upd f2p 0 (f2o 0)) 1 (f2o 1)) 2 (f2o 2))))], [(a3p, .inl (T.2 3, 2, .inr (.inr (.inr (.inr f3p)))))], [(a4p, .inl (T.2 4, 2, .inr (.inr (.inr (.inr f4p)))))], [(a5p, .inl (T.2 5, 2, .inr (.inr (.inr (.inr f5p)))))], w2p, w4p, w5p, w6p, [(o, .inr (8, [.ref a1o, .int v0o, .int v1o, .int v2o, .ref a2o, .ref a3o, .ref a4o, .ref a5o]))], [(a1o, .inl (T.2 1, 600, .inl f1o))], [(a2o, .inl (T.2 0, 3, .inl f2o))], [(a3o, .inl (T.2 3, 2, .inr (.inr (.inr (.inr f3o)))))], [(a4o, .inl (T.2 4, 2, .inr (.inr (.inr (.inr f4o)))))], [(a5o, .inl (T.2 5, 2, .inr (.inr (.inr (.inr f5o)))))], w2o, w4o, w5o, w6o, w2_5, z2_6]) (As := [.ref d0o]) (rest := []) C G (c_Day_takeAll l T d0p d0o w3p w3o hw2p hw2o) (kV_RX9_61 C.2.2.2.2 (Nat.le_of_ble_eq_true rfl) (Nat.le_of_ble_eq_true rfl)) [7, 18] [0, 1, 2, 3, 4, 5, 6, 8, 9, 10, 11, 12, 13, 14, 15, 16, 17, 19, 20, 21, 22, 23] rfl rfl (ci := 2) (qc := (RX2, TX2, 4)) rfl rfl (List.mem_flatten.mpr ⟨_, List.mem_of_getElem? (i := 0) rfl, (bDay_mem hw2p).choose_spec⟩) rfl rfl hl.1 dX9_takeAll_110 (Nat.le_of_ble_eq_true rfl) (Nat.le_of_ble_eq_true rfl) (fun b1 H locs hw G => ?_)
    obtain ⟨w2_10, z2_11, rfl, h_12, h_13⟩ := hw
    have G : zS T A s.heap s [[(h, .inr (8, [.ref a1p, .int v0o, .int v1o, .int v2o, .ref a2p, .ref a3p, .ref a4p, .ref a5p]))], [(a1p, .inl (T.2 1, 600, .inl g))], [(a2p, .inl (T.2 0, 3, .inl (upd (upd (upd f2p 0 (f2o 0)) 1 (f2o 1)) 2 (f2o 2))))], [(a3p, .inl (T.2 3, 2, .inr (.inr (.inr (.inr f3p)))))], [(a4p, .inl (T.2 4, 2, .inr (.inr (.inr (.inr f4p)))))], [(a5p, .inl (T.2 5, 2, .inr (.inr (.inr (.inr f5p)))))], w2p, w4p, w5p, w6p, [(o, .inr (8, [.ref a1o, .int v0o, .int v1o, .int v2o, .ref a2o, .ref a3o, .ref a4o, .ref a5o]))], [(a1o, .inl (T.2 1, 600, .inl f1o))], [(a2o, .inl (T.2 0, 3, .inl f2o))], [(a3o, .inl (T.2 3, 2, .inr (.inr (.inr (.inr f3o)))))], [(a4o, .inl (T.2 4, 2, .inr (.inr (.inr (.inr f4o)))))], [(a5o, .inl (T.2 5, 2, .inr (.inr (.inr (.inr f5o)))))], w2o, w4o, w5o, w6o, w2_5, z2_6, w2_10, z2_11] _ _ := G
    refine lv_aload_n hx hb dX9_takeAll_113 rfl (lv_at hl 1 rfl) ?_
    refine z_get C G clX9 0 rfl 7 (by decide) m_fl_RX9_40 rfl dX9_takeAll_114 ?_
    refine lv_iload_n hx hb dX9_takeAll_117 rfl (lv_at hl 0 rfl) ?_
    refine z_ald C G 5 5 rfl rfl (vp_in_nI (n := 0) (by decide) (by decide)) dX9_takeAll_118 ?_
    rw [show f5p ((0 : Int32).toNatClampNeg) = some g0p from he4p]
    refine lv_aload_n hx hb dX9_takeAll_119 rfl (lv_at hl 2 rfl) ?_
    refine z_get C G clX9 10 rfl 7 (by decide) m_fl_RX9_40 rfl dX9_takeAll_120 ?_
    refine lv_iload_n hx hb dX9_takeAll_123 rfl (lv_at hl 0 rfl) ?_
    refine z_ald C G 15 5 rfl rfl (vp_in_nI (n := 0) (by decide) (by decide)) dX9_takeAll_124 ?_
    rw [show f5o ((0 : Int32).toNatClampNeg) = some g0o from he4o]
    refine z_Vv (bc := [w5p, w5o]) (br := [[(h, .inr (8, [.ref a1p, .int v0o, .int v1o, .int v2o, .ref a2p, .ref a3p, .ref a4p, .ref a5p]))], [(a1p, .inl (T.2 1, 600, .inl g))], [(a2p, .inl (T.2 0, 3, .inl (upd (upd (upd f2p 0 (f2o 0)) 1 (f2o 1)) 2 (f2o 2))))], [(a3p, .inl (T.2 3, 2, .inr (.inr (.inr (.inr f3p)))))], [(a4p, .inl (T.2 4, 2, .inr (.inr (.inr (.inr f4p)))))], [(a5p, .inl (T.2 5, 2, .inr (.inr (.inr (.inr f5p)))))], w2p, w4p, w6p, [(o, .inr (8, [.ref a1o, .int v0o, .int v1o, .int v2o, .ref a2o, .ref a3o, .ref a4o, .ref a5o]))], [(a1o, .inl (T.2 1, 600, .inl f1o))], [(a2o, .inl (T.2 0, 3, .inl f2o))], [(a3o, .inl (T.2 3, 2, .inr (.inr (.inr (.inr f3o)))))], [(a4o, .inl (T.2 4, 2, .inr (.inr (.inr (.inr f4o)))))], [(a5o, .inl (T.2 5, 2, .inr (.inr (.inr (.inr f5o)))))], w2o, w4o, w6o, w2_5, z2_6, w2_10, z2_11]) (As := [.ref g0o]) (rest := []) C G (c_Log_takeAll l T g0p g0o w5p w5o hw4p hw4o) (kV_RX9_68 C.2.2.2.2 (Nat.le_of_ble_eq_true rfl) (Nat.le_of_ble_eq_true rfl)) [8, 18] [0, 1, 2, 3, 4, 5, 6, 7, 9, 10, 11, 12, 13, 14, 15, 16, 17, 19, 20, 21, 22, 23] rfl rfl (ci := 5) (qc := (RX5, TX5, 3)) rfl rfl (List.mem_flatten.mpr ⟨_, List.mem_of_getElem? (i := 0) rfl, (bLog_mem hw4p).choose_spec⟩) rfl rfl hl.1 dX9_takeAll_125 (Nat.le_of_ble_eq_true rfl) (Nat.le_of_ble_eq_true rfl) (fun b1 H locs hw G => ?_)
    obtain ⟨w2_15, z2_16, rfl, h_17, h_18⟩ := hw
    have G : zS T A s.heap s [[(h, .inr (8, [.ref a1p, .int v0o, .int v1o, .int v2o, .ref a2p, .ref a3p, .ref a4p, .ref a5p]))], [(a1p, .inl (T.2 1, 600, .inl g))], [(a2p, .inl (T.2 0, 3, .inl (upd (upd (upd f2p 0 (f2o 0)) 1 (f2o 1)) 2 (f2o 2))))], [(a3p, .inl (T.2 3, 2, .inr (.inr (.inr (.inr f3p)))))], [(a4p, .inl (T.2 4, 2, .inr (.inr (.inr (.inr f4p)))))], [(a5p, .inl (T.2 5, 2, .inr (.inr (.inr (.inr f5p)))))], w2p, w4p, w6p, [(o, .inr (8, [.ref a1o, .int v0o, .int v1o, .int v2o, .ref a2o, .ref a3o, .ref a4o, .ref a5o]))], [(a1o, .inl (T.2 1, 600, .inl f1o))], [(a2o, .inl (T.2 0, 3, .inl f2o))], [(a3o, .inl (T.2 3, 2, .inr (.inr (.inr (.inr f3o)))))], [(a4o, .inl (T.2 4, 2, .inr (.inr (.inr (.inr f4o)))))], [(a5o, .inl (T.2 5, 2, .inr (.inr (.inr (.inr f5o)))))], w2o, w4o, w6o, w2_5, z2_6, w2_10, z2_11, w2_15, z2_16] _ _ := G
    refine lv_iinc (v := 1) (lv' := [(2, .int 1), (0, .ref h), (1, .ref o)]) hx hb dX9_takeAll_128 hl (k := 0) rfl (by decide) (by decide) rfl (fun ls hl => ?_)
    refine lv_goto (tgt := 78) hx hb dX9_takeAll_131 (by decide) ?_
    refine lv_iload_n hx hb dX9_takeAll_78 rfl (lv_at hl 0 rfl) ?_
    refine lv_iconst (v := 2) hx hb dX9_takeAll_79 (by decide) ?_
    refine lv_icmp_ge (tgt := 134) hx hb dX9_takeAll_80 (by decide) (fun q => absurd q (by decide)) (fun _ => ?_)
    refine lv_aload_n hx hb dX9_takeAll_83 rfl (lv_at hl 1 rfl) ?_
    refine z_get C G clX9 0 rfl 5 (by decide) m_fl_RX9_26 rfl dX9_takeAll_84 ?_
    refine lv_iload_n hx hb dX9_takeAll_87 rfl (lv_at hl 0 rfl) ?_
    refine z_ald C G 3 3 rfl rfl (vp_in_nI (n := 1) (by decide) (by decide)) dX9_takeAll_88 ?_
    rw [show f3p ((1 : Int32).toNatClampNeg) = some l1p from he1p]
    refine lv_aload_n hx hb dX9_takeAll_89 rfl (lv_at hl 2 rfl) ?_
    refine z_get C G clX9 9 rfl 5 (by decide) m_fl_RX9_26 rfl dX9_takeAll_90 ?_
    refine lv_iload_n hx hb dX9_takeAll_93 rfl (lv_at hl 0 rfl) ?_
    refine z_ald C G 12 3 rfl rfl (vp_in_nI (n := 1) (by decide) (by decide)) dX9_takeAll_94 ?_
    rw [show f3o ((1 : Int32).toNatClampNeg) = some l1o from he1o]
    refine z_Vv (bc := [w2p, w2o]) (br := [[(h, .inr (8, [.ref a1p, .int v0o, .int v1o, .int v2o, .ref a2p, .ref a3p, .ref a4p, .ref a5p]))], [(a1p, .inl (T.2 1, 600, .inl g))], [(a2p, .inl (T.2 0, 3, .inl (upd (upd (upd f2p 0 (f2o 0)) 1 (f2o 1)) 2 (f2o 2))))], [(a3p, .inl (T.2 3, 2, .inr (.inr (.inr (.inr f3p)))))], [(a4p, .inl (T.2 4, 2, .inr (.inr (.inr (.inr f4p)))))], [(a5p, .inl (T.2 5, 2, .inr (.inr (.inr (.inr f5p)))))], w4p, w6p, [(o, .inr (8, [.ref a1o, .int v0o, .int v1o, .int v2o, .ref a2o, .ref a3o, .ref a4o, .ref a5o]))], [(a1o, .inl (T.2 1, 600, .inl f1o))], [(a2o, .inl (T.2 0, 3, .inl f2o))], [(a3o, .inl (T.2 3, 2, .inr (.inr (.inr (.inr f3o)))))], [(a4o, .inl (T.2 4, 2, .inr (.inr (.inr (.inr f4o)))))], [(a5o, .inl (T.2 5, 2, .inr (.inr (.inr (.inr f5o)))))], w4o, w6o, w2_5, z2_6, w2_10, z2_11, w2_15, z2_16]) (As := [.ref l1o]) (rest := []) C G (c_Land_takeAll l T l1p l1o w2p w2o hw1p hw1o) (kV_RX9_53 C.2.2.2.2 (Nat.le_of_ble_eq_true rfl) (Nat.le_of_ble_eq_true rfl)) [6, 15] [0, 1, 2, 3, 4, 5, 7, 8, 9, 10, 11, 12, 13, 14, 16, 17, 18, 19, 20, 21, 22, 23] rfl rfl (ci := 4) (qc := (RX4, TX4, 6)) rfl rfl (List.mem_flatten.mpr ⟨_, List.mem_of_getElem? (i := 0) rfl, (bLand_mem hw1p).choose_spec⟩) rfl rfl hl.1 dX9_takeAll_95 (Nat.le_of_ble_eq_true rfl) (Nat.le_of_ble_eq_true rfl) (fun b1 H locs hw G => ?_)
    obtain ⟨w2_20, z2_21, rfl, h_22, h_23⟩ := hw
    have G : zS T A s.heap s [[(h, .inr (8, [.ref a1p, .int v0o, .int v1o, .int v2o, .ref a2p, .ref a3p, .ref a4p, .ref a5p]))], [(a1p, .inl (T.2 1, 600, .inl g))], [(a2p, .inl (T.2 0, 3, .inl (upd (upd (upd f2p 0 (f2o 0)) 1 (f2o 1)) 2 (f2o 2))))], [(a3p, .inl (T.2 3, 2, .inr (.inr (.inr (.inr f3p)))))], [(a4p, .inl (T.2 4, 2, .inr (.inr (.inr (.inr f4p)))))], [(a5p, .inl (T.2 5, 2, .inr (.inr (.inr (.inr f5p)))))], w4p, w6p, [(o, .inr (8, [.ref a1o, .int v0o, .int v1o, .int v2o, .ref a2o, .ref a3o, .ref a4o, .ref a5o]))], [(a1o, .inl (T.2 1, 600, .inl f1o))], [(a2o, .inl (T.2 0, 3, .inl f2o))], [(a3o, .inl (T.2 3, 2, .inr (.inr (.inr (.inr f3o)))))], [(a4o, .inl (T.2 4, 2, .inr (.inr (.inr (.inr f4o)))))], [(a5o, .inl (T.2 5, 2, .inr (.inr (.inr (.inr f5o)))))], w4o, w6o, w2_5, z2_6, w2_10, z2_11, w2_15, z2_16, w2_20, z2_21] _ _ := G
    refine lv_aload_n hx hb dX9_takeAll_98 rfl (lv_at hl 1 rfl) ?_
    refine z_get C G clX9 0 rfl 6 (by decide) m_fl_RX9_33 rfl dX9_takeAll_99 ?_
    refine lv_iload_n hx hb dX9_takeAll_102 rfl (lv_at hl 0 rfl) ?_
    refine z_ald C G 4 4 rfl rfl (vp_in_nI (n := 1) (by decide) (by decide)) dX9_takeAll_103 ?_
    rw [show f4p ((1 : Int32).toNatClampNeg) = some d1p from he3p]
    refine lv_aload_n hx hb dX9_takeAll_104 rfl (lv_at hl 2 rfl) ?_
    refine z_get C G clX9 8 rfl 6 (by decide) m_fl_RX9_33 rfl dX9_takeAll_105 ?_
    refine lv_iload_n hx hb dX9_takeAll_108 rfl (lv_at hl 0 rfl) ?_
    refine z_ald C G 12 4 rfl rfl (vp_in_nI (n := 1) (by decide) (by decide)) dX9_takeAll_109 ?_
    rw [show f4o ((1 : Int32).toNatClampNeg) = some d1o from he3o]
    refine z_Vv (bc := [w4p, w4o]) (br := [[(h, .inr (8, [.ref a1p, .int v0o, .int v1o, .int v2o, .ref a2p, .ref a3p, .ref a4p, .ref a5p]))], [(a1p, .inl (T.2 1, 600, .inl g))], [(a2p, .inl (T.2 0, 3, .inl (upd (upd (upd f2p 0 (f2o 0)) 1 (f2o 1)) 2 (f2o 2))))], [(a3p, .inl (T.2 3, 2, .inr (.inr (.inr (.inr f3p)))))], [(a4p, .inl (T.2 4, 2, .inr (.inr (.inr (.inr f4p)))))], [(a5p, .inl (T.2 5, 2, .inr (.inr (.inr (.inr f5p)))))], w6p, [(o, .inr (8, [.ref a1o, .int v0o, .int v1o, .int v2o, .ref a2o, .ref a3o, .ref a4o, .ref a5o]))], [(a1o, .inl (T.2 1, 600, .inl f1o))], [(a2o, .inl (T.2 0, 3, .inl f2o))], [(a3o, .inl (T.2 3, 2, .inr (.inr (.inr (.inr f3o)))))], [(a4o, .inl (T.2 4, 2, .inr (.inr (.inr (.inr f4o)))))], [(a5o, .inl (T.2 5, 2, .inr (.inr (.inr (.inr f5o)))))], w6o, w2_5, z2_6, w2_10, z2_11, w2_15, z2_16, w2_20, z2_21]) (As := [.ref d1o]) (rest := []) C G (c_Day_takeAll l T d1p d1o w4p w4o hw3p hw3o) (kV_RX9_61 C.2.2.2.2 (Nat.le_of_ble_eq_true rfl) (Nat.le_of_ble_eq_true rfl)) [6, 14] [0, 1, 2, 3, 4, 5, 7, 8, 9, 10, 11, 12, 13, 15, 16, 17, 18, 19, 20, 21, 22, 23] rfl rfl (ci := 2) (qc := (RX2, TX2, 4)) rfl rfl (List.mem_flatten.mpr ⟨_, List.mem_of_getElem? (i := 0) rfl, (bDay_mem hw3p).choose_spec⟩) rfl rfl hl.1 dX9_takeAll_110 (Nat.le_of_ble_eq_true rfl) (Nat.le_of_ble_eq_true rfl) (fun b1 H locs hw G => ?_)
    obtain ⟨w2_25, z2_26, rfl, h_27, h_28⟩ := hw
    have G : zS T A s.heap s [[(h, .inr (8, [.ref a1p, .int v0o, .int v1o, .int v2o, .ref a2p, .ref a3p, .ref a4p, .ref a5p]))], [(a1p, .inl (T.2 1, 600, .inl g))], [(a2p, .inl (T.2 0, 3, .inl (upd (upd (upd f2p 0 (f2o 0)) 1 (f2o 1)) 2 (f2o 2))))], [(a3p, .inl (T.2 3, 2, .inr (.inr (.inr (.inr f3p)))))], [(a4p, .inl (T.2 4, 2, .inr (.inr (.inr (.inr f4p)))))], [(a5p, .inl (T.2 5, 2, .inr (.inr (.inr (.inr f5p)))))], w6p, [(o, .inr (8, [.ref a1o, .int v0o, .int v1o, .int v2o, .ref a2o, .ref a3o, .ref a4o, .ref a5o]))], [(a1o, .inl (T.2 1, 600, .inl f1o))], [(a2o, .inl (T.2 0, 3, .inl f2o))], [(a3o, .inl (T.2 3, 2, .inr (.inr (.inr (.inr f3o)))))], [(a4o, .inl (T.2 4, 2, .inr (.inr (.inr (.inr f4o)))))], [(a5o, .inl (T.2 5, 2, .inr (.inr (.inr (.inr f5o)))))], w6o, w2_5, z2_6, w2_10, z2_11, w2_15, z2_16, w2_20, z2_21, w2_25, z2_26] _ _ := G
    refine lv_aload_n hx hb dX9_takeAll_113 rfl (lv_at hl 1 rfl) ?_
    refine z_get C G clX9 0 rfl 7 (by decide) m_fl_RX9_40 rfl dX9_takeAll_114 ?_
    refine lv_iload_n hx hb dX9_takeAll_117 rfl (lv_at hl 0 rfl) ?_
    refine z_ald C G 5 5 rfl rfl (vp_in_nI (n := 1) (by decide) (by decide)) dX9_takeAll_118 ?_
    rw [show f5p ((1 : Int32).toNatClampNeg) = some g1p from he5p]
    refine lv_aload_n hx hb dX9_takeAll_119 rfl (lv_at hl 2 rfl) ?_
    refine z_get C G clX9 7 rfl 7 (by decide) m_fl_RX9_40 rfl dX9_takeAll_120 ?_
    refine lv_iload_n hx hb dX9_takeAll_123 rfl (lv_at hl 0 rfl) ?_
    refine z_ald C G 12 5 rfl rfl (vp_in_nI (n := 1) (by decide) (by decide)) dX9_takeAll_124 ?_
    rw [show f5o ((1 : Int32).toNatClampNeg) = some g1o from he5o]
    refine z_Vv (bc := [w6p, w6o]) (br := [[(h, .inr (8, [.ref a1p, .int v0o, .int v1o, .int v2o, .ref a2p, .ref a3p, .ref a4p, .ref a5p]))], [(a1p, .inl (T.2 1, 600, .inl g))], [(a2p, .inl (T.2 0, 3, .inl (upd (upd (upd f2p 0 (f2o 0)) 1 (f2o 1)) 2 (f2o 2))))], [(a3p, .inl (T.2 3, 2, .inr (.inr (.inr (.inr f3p)))))], [(a4p, .inl (T.2 4, 2, .inr (.inr (.inr (.inr f4p)))))], [(a5p, .inl (T.2 5, 2, .inr (.inr (.inr (.inr f5p)))))], [(o, .inr (8, [.ref a1o, .int v0o, .int v1o, .int v2o, .ref a2o, .ref a3o, .ref a4o, .ref a5o]))], [(a1o, .inl (T.2 1, 600, .inl f1o))], [(a2o, .inl (T.2 0, 3, .inl f2o))], [(a3o, .inl (T.2 3, 2, .inr (.inr (.inr (.inr f3o)))))], [(a4o, .inl (T.2 4, 2, .inr (.inr (.inr (.inr f4o)))))], [(a5o, .inl (T.2 5, 2, .inr (.inr (.inr (.inr f5o)))))], w2_5, z2_6, w2_10, z2_11, w2_15, z2_16, w2_20, z2_21, w2_25, z2_26]) (As := [.ref g1o]) (rest := []) C G (c_Log_takeAll l T g1p g1o w6p w6o hw5p hw5o) (kV_RX9_68 C.2.2.2.2 (Nat.le_of_ble_eq_true rfl) (Nat.le_of_ble_eq_true rfl)) [6, 13] [0, 1, 2, 3, 4, 5, 7, 8, 9, 10, 11, 12, 14, 15, 16, 17, 18, 19, 20, 21, 22, 23] rfl rfl (ci := 5) (qc := (RX5, TX5, 3)) rfl rfl (List.mem_flatten.mpr ⟨_, List.mem_of_getElem? (i := 0) rfl, (bLog_mem hw5p).choose_spec⟩) rfl rfl hl.1 dX9_takeAll_125 (Nat.le_of_ble_eq_true rfl) (Nat.le_of_ble_eq_true rfl) (fun b1 H locs hw G => ?_)
    obtain ⟨w2_30, z2_31, rfl, h_32, h_33⟩ := hw
    have G : zS T A s.heap s [[(h, .inr (8, [.ref a1p, .int v0o, .int v1o, .int v2o, .ref a2p, .ref a3p, .ref a4p, .ref a5p]))], [(a1p, .inl (T.2 1, 600, .inl g))], [(a2p, .inl (T.2 0, 3, .inl (upd (upd (upd f2p 0 (f2o 0)) 1 (f2o 1)) 2 (f2o 2))))], [(a3p, .inl (T.2 3, 2, .inr (.inr (.inr (.inr f3p)))))], [(a4p, .inl (T.2 4, 2, .inr (.inr (.inr (.inr f4p)))))], [(a5p, .inl (T.2 5, 2, .inr (.inr (.inr (.inr f5p)))))], [(o, .inr (8, [.ref a1o, .int v0o, .int v1o, .int v2o, .ref a2o, .ref a3o, .ref a4o, .ref a5o]))], [(a1o, .inl (T.2 1, 600, .inl f1o))], [(a2o, .inl (T.2 0, 3, .inl f2o))], [(a3o, .inl (T.2 3, 2, .inr (.inr (.inr (.inr f3o)))))], [(a4o, .inl (T.2 4, 2, .inr (.inr (.inr (.inr f4o)))))], [(a5o, .inl (T.2 5, 2, .inr (.inr (.inr (.inr f5o)))))], w2_5, z2_6, w2_10, z2_11, w2_15, z2_16, w2_20, z2_21, w2_25, z2_26, w2_30, z2_31] _ _ := G
    refine lv_iinc (v := 2) (lv' := [(2, .int 2), (0, .ref h), (1, .ref o)]) hx hb dX9_takeAll_128 hl (k := 0) rfl (by decide) (by decide) rfl (fun ls hl => ?_)
    refine lv_goto (tgt := 78) hx hb dX9_takeAll_131 (by decide) ?_
    refine lv_iload_n hx hb dX9_takeAll_78 rfl (lv_at hl 0 rfl) ?_
    refine lv_iconst (v := 2) hx hb dX9_takeAll_79 (by decide) ?_
    refine lv_icmp_ge (tgt := 134) hx hb dX9_takeAll_80 (by decide) (fun _ => ?_) (fun q => absurd (by decide) q)
    have G := G.sub (bs' := []) [] rfl
    exact z_vret C hr hlocks G (Nat.le_of_ble_eq_true rfl) (Nat.le_of_ble_eq_true rfl) dX9_takeAll_134 rfl
  · have c_1n : ¬ 600 ≤ i := fun q => c_1 ((nI_leI (a := 600) (b := i) (by omega) (by omega)).mpr q)
    refine lv_aload_n hx hb dX9_takeAll_9 rfl (lv_at hl 1 rfl) ?_
    refine z_get C G clX9 0 rfl 0 (by decide) m_fl_RX9_9 rfl dX9_takeAll_10 ?_
    refine lv_iload_n hx hb dX9_takeAll_13 rfl (lv_at hl 0 rfl) ?_
    refine lv_aload_n hx hb dX9_takeAll_14 rfl (lv_at hl 2 rfl) ?_
    refine z_get C G clX9 12 rfl 0 (by decide) m_fl_RX9_9 rfl dX9_takeAll_15 ?_
    refine lv_iload_n hx hb dX9_takeAll_18 rfl (lv_at hl 0 rfl) ?_
    refine z_bld C G 13 rfl (vp_in_nI (by omega) (by omega)) dX9_takeAll_19 ?_
    refine lv_topi (fun v_35 ev_35 => ?_)
    rw [nI_clamp (by omega)] at ev_35
    subst ev_35
    refine z_bst C G 1 rfl (vp_in_nI (by omega) (by omega)) dX9_takeAll_20 (fun H locs G => ?_)
    rw [nI_clamp (by omega)] at G
    have G : zS T A s.heap s [[(h, .inr (8, [.ref a1p, .int v0p, .int v1p, .int v2p, .ref a2p, .ref a3p, .ref a4p, .ref a5p]))], [(a1p, .inl (T.2 1, 600, .inl (upd g i (vp_nar .byte (f1o i)))))], [(a2p, .inl (T.2 0, 3, .inl f2p))], [(a3p, .inl (T.2 3, 2, .inr (.inr (.inr (.inr f3p)))))], [(a4p, .inl (T.2 4, 2, .inr (.inr (.inr (.inr f4p)))))], [(a5p, .inl (T.2 5, 2, .inr (.inr (.inr (.inr f5p)))))], w1p, w2p, w3p, w4p, w5p, w6p, [(o, .inr (8, [.ref a1o, .int v0o, .int v1o, .int v2o, .ref a2o, .ref a3o, .ref a4o, .ref a5o]))], [(a1o, .inl (T.2 1, 600, .inl f1o))], [(a2o, .inl (T.2 0, 3, .inl f2o))], [(a3o, .inl (T.2 3, 2, .inr (.inr (.inr (.inr f3o)))))], [(a4o, .inl (T.2 4, 2, .inr (.inr (.inr (.inr f4o)))))], [(a5o, .inl (T.2 5, 2, .inr (.inr (.inr (.inr f5o)))))], w1o, w2o, w3o, w4o, w5o, w6o] _ _ := G
    refine lv_iinc (v := nI (i + 1)) (lv' := [(2, .int (nI (i + 1))), (0, .ref h), (1, .ref o)]) hx hb dX9_takeAll_21 hl (k := 0) rfl (z_inc i 1) (by decide) rfl (fun ls hl => ?_)
    refine lv_goto (tgt := 2) hx hb dX9_takeAll_24 (by decide) ?_
    exact ih ((i + 1), (upd g i (vp_nar .byte (f1o i)))) (show (i + 1) ≤ 600 from by omega) (show 600 - (i + 1) < 600 - i from by omega) _ _ ls G (lv_sub hl [0, 1, 2] rfl)
end
section
theorem m_fl_RX7_46 : Cond.fieldLink RX7 46 (TX7 7).1 (TX7 7).2.1 (TX7 7).2.2.1 ∈ zT := zmem1 zsub_1 183 (by decide +kernel) (by decide +kernel)
theorem m_fl_RX7_42 : Cond.fieldLink RX7 42 (TX7 6).1 (TX7 6).2.1 (TX7 6).2.2.1 ∈ zT := zmem1 zsub_1 182 (by decide +kernel) (by decide +kernel)
theorem m_fl_RX7_84 : Cond.fieldLink RX7 84 (TX7 9).1 (TX7 9).2.1 (TX7 9).2.2.1 ∈ zT := zmem1 zsub_1 185 (by decide +kernel) (by decide +kernel)
theorem m_fl_RX7_74 : Cond.fieldLink RX7 74 (TX7 8).1 (TX7 8).2.1 (TX7 8).2.2.1 ∈ zT := zmem1 zsub_1 184 (by decide +kernel) (by decide +kernel)
theorem m_fl_RX7_59 : Cond.fieldLink RX7 59 (TX7 12).1 (TX7 12).2.1 (TX7 12).2.2.1 ∈ zT := zmem1 zsub_1 188 (by decide +kernel) (by decide +kernel)
theorem m_fl_RX7_87 : Cond.fieldLink RX7 87 (TX4 0).1 (TX4 0).2.1 (TX4 0).2.2.1 ∈ zT := zmem1 zsub_1 45 (by decide +kernel) (by decide +kernel)
theorem m_fl_RX7_94 : Cond.fieldLink RX7 94 (TX4 4).1 (TX4 4).2.1 (TX4 4).2.2.1 ∈ zT := zmem1 zsub_1 58 (by decide +kernel) (by decide +kernel)
theorem m_co_math_min : Cond.code Lib.Math.min.name Lib.Math.min.code 2 (some .int) ∈ zT := zmem1 zsub_2 236 (by decide +kernel) (by decide +kernel)
theorem m_ml_RX7_36 : Cond.methodLink RX7 36 Lib.Math.min.name ∈ zT := zmem1 zsub_2 234 (by decide +kernel) (by decide +kernel)
theorem m_st_math_min : Cond.static Lib.Math.min.name ∈ zT := zmem1 zsub_2 235 (by decide +kernel) (by decide +kernel)
theorem m_ii_math : Cond.initialized "java/lang/Math" ∈ zT := zmem1 zsub_1 13 (by decide +kernel) (by decide +kernel)
theorem m_fl_RX7_49 : Cond.fieldLink RX7 49 (TX7 3).1 (TX7 3).2.1 (TX7 3).2.2.1 ∈ zT := zmem1 zsub_1 177 (by decide +kernel) (by decide +kernel)
theorem m_fl_RX7_52 : Cond.fieldLink RX7 52 (TX7 4).1 (TX7 4).2.1 (TX7 4).2.2.1 ∈ zT := zmem1 zsub_1 179 (by decide +kernel) (by decide +kernel)
theorem m_fl_RX7_55 : Cond.fieldLink RX7 55 (TX7 11).1 (TX7 11).2.1 (TX7 11).2.2.1 ∈ zT := zmem1 zsub_1 187 (by decide +kernel) (by decide +kernel)
theorem m_co_X4_clear : Cond.code yX4_clear cX4_clear 2 none ∈ zT := zmem1 zsub_3 0 (by decide +kernel) (by decide +kernel)
theorem m_ml_RX7_62 : Cond.methodLink RX7 62 yX4_clear ∈ zT := zmem1 zsub_2 237 (by decide +kernel) (by decide +kernel)
theorem m_im_X4_clear : Cond.instanceMethod yX4_clear ∈ zT := zmem1 zsub_2 238 (by decide +kernel) (by decide +kernel)
theorem m_se_X4_clear : Cond.selects RX4 yX4_clear yX4_clear ∈ zT := zmem1 zsub_2 239 (by decide +kernel) (by decide +kernel)
theorem m_fl_RX7_65 : Cond.fieldLink RX7 65 (TX2 0).1 (TX2 0).2.1 (TX2 0).2.2.1 ∈ zT := zmem1 zsub_1 89 (by decide +kernel) (by decide +kernel)
theorem m_fl_RX7_68 : Cond.fieldLink RX7 68 (TX5 0).1 (TX5 0).2.1 (TX5 0).2.2.1 ∈ zT := zmem1 zsub_1 115 (by decide +kernel) (by decide +kernel)
theorem m_co_X7_nextToken : Cond.code yX7_nextToken cX7_nextToken 2 none ∈ zT := zmem1 zsub_3 4 (by decide +kernel) (by decide +kernel)
theorem m_ml_RX7_71 : Cond.methodLink RX7 71 yX7_nextToken ∈ zT := zmem1 zsub_3 1 (by decide +kernel) (by decide +kernel)
theorem m_im_X7_nextToken : Cond.instanceMethod yX7_nextToken ∈ zT := zmem1 zsub_3 3 (by decide +kernel) (by decide +kernel)
theorem m_se_X7_nextToken : Cond.selects RX7 yX7_nextToken yX7_nextToken ∈ zT := zmem 0 (by decide +kernel) (by decide +kernel)
theorem m_ii_RX7 : Cond.initialized RX7 ∈ zT := zmem1 zsub_1 6 (by decide +kernel) (by decide +kernel)
theorem m_co_X7_lookAtWhole : Cond.code yX7_lookAtWhole cX7_lookAtWhole 2 none ∈ zT := zmem1 zsub_3 145 (by decide +kernel) (by decide +kernel)
theorem m_ml_RX7_81 : Cond.methodLink RX7 81 yX7_lookAtWhole ∈ zT := zmem1 zsub_3 142 (by decide +kernel) (by decide +kernel)
theorem m_im_X7_lookAtWhole : Cond.instanceMethod yX7_lookAtWhole ∈ zT := zmem1 zsub_3 144 (by decide +kernel) (by decide +kernel)
theorem m_se_X7_lookAtWhole : Cond.selects RX7 yX7_lookAtWhole yX7_lookAtWhole ∈ zT := zmem 14 (by decide +kernel) (by decide +kernel)
theorem kV_RX7_62 {R : Room} {s : State} {args : Array Value} {d mc ms : Nat} (hts : ∀ w ∈ zT, w.before args s = true) (h1 : d + 1 ≤ R.frames) (h2 : 8 + (2 + 11) + 40 * d ≤ R.locals) : CallW R s args RX7 RX4 62 yX4_clear cX4_clear 2 none (zW yX4_clear cX4_clear 2 none) (zR d mc ms) mc ms 0 := z_cwV hts m_co_X4_clear m_ml_RX7_62 m_im_X4_clear m_se_X4_clear m_ii_RX4 (by decide +kernel) h1 h2
theorem kV_RX7_71 {R : Room} {s : State} {args : Array Value} {d mc ms : Nat} (hts : ∀ w ∈ zT, w.before args s = true) (h1 : d + 1 ≤ R.frames) (h2 : 8 + (2 + 11) + 40 * d ≤ R.locals) : CallW R s args RX7 RX7 71 yX7_nextToken cX7_nextToken 2 none (zW yX7_nextToken cX7_nextToken 2 none) (zR d mc ms) mc ms 0 := z_cwV hts m_co_X7_nextToken m_ml_RX7_71 m_im_X7_nextToken m_se_X7_nextToken m_ii_RX7 (by decide +kernel) h1 h2
theorem kV_RX7_81 {R : Room} {s : State} {args : Array Value} {d mc ms : Nat} (hts : ∀ w ∈ zT, w.before args s = true) (h1 : d + 1 ≤ R.frames) (h2 : 8 + (2 + 11) + 40 * d ≤ R.locals) : CallW R s args RX7 RX7 81 yX7_lookAtWhole cX7_lookAtWhole 2 none (zW yX7_lookAtWhole cX7_lookAtWhole 2 none) (zR d mc ms) mc ms 0 := z_cwV hts m_co_X7_lookAtWhole m_ml_RX7_81 m_im_X7_lookAtWhole m_se_X7_lookAtWhole m_ii_RX7 (by decide +kernel) h1 h2
theorem dX4_clear_0 : decode cX4_clear 0 = .ok (.aload_n 0, 1) := by decide +kernel
theorem dX4_clear_1 : decode cX4_clear 1 = .ok (.iconst 0, 1) := by decide +kernel
theorem dX4_clear_2 : decode cX4_clear 2 = .ok (.putfield 24, 3) := by decide +kernel
theorem dX4_clear_5 : decode cX4_clear 5 = .ok (.aload_n 0, 1) := by decide +kernel
theorem dX4_clear_6 : decode cX4_clear 6 = .ok (.iconst 0, 1) := by decide +kernel
theorem dX4_clear_7 : decode cX4_clear 7 = .ok (.putfield 28, 3) := by decide +kernel
theorem dX4_clear_10 : decode cX4_clear 10 = .ok (.iconst 0, 1) := by decide +kernel
theorem dX4_clear_11 : decode cX4_clear 11 = .ok (.istore_n 1, 1) := by decide +kernel
theorem dX4_clear_12 : decode cX4_clear 12 = .ok (.iload_n 1, 1) := by decide +kernel
theorem dX4_clear_13 : decode cX4_clear 13 = .ok (.bipush 7, 2) := by decide +kernel
theorem dX4_clear_15 : decode cX4_clear 15 = .ok (.if_icmp .ge 30, 3) := by decide +kernel
theorem dX4_clear_18 : decode cX4_clear 18 = .ok (.aload_n 0, 1) := by decide +kernel
theorem dX4_clear_19 : decode cX4_clear 19 = .ok (.getfield 9, 3) := by decide +kernel
theorem dX4_clear_22 : decode cX4_clear 22 = .ok (.iload_n 1, 1) := by decide +kernel
theorem dX4_clear_23 : decode cX4_clear 23 = .ok (.iconst 0, 1) := by decide +kernel
theorem dX4_clear_24 : decode cX4_clear 24 = .ok (.iastore, 1) := by decide +kernel
theorem dX4_clear_25 : decode cX4_clear 25 = .ok (.aload_n 0, 1) := by decide +kernel
theorem dX4_clear_26 : decode cX4_clear 26 = .ok (.getfield 18, 3) := by decide +kernel
theorem dX4_clear_29 : decode cX4_clear 29 = .ok (.iload_n 1, 1) := by decide +kernel
theorem dX4_clear_30 : decode cX4_clear 30 = .ok (.iconst 0, 1) := by decide +kernel
theorem dX4_clear_31 : decode cX4_clear 31 = .ok (.iastore, 1) := by decide +kernel
theorem dX4_clear_32 : decode cX4_clear 32 = .ok (.aload_n 0, 1) := by decide +kernel
theorem dX4_clear_33 : decode cX4_clear 33 = .ok (.getfield 21, 3) := by decide +kernel
theorem dX4_clear_36 : decode cX4_clear 36 = .ok (.iload_n 1, 1) := by decide +kernel
theorem dX4_clear_37 : decode cX4_clear 37 = .ok (.iconst 0, 1) := by decide +kernel
theorem dX4_clear_38 : decode cX4_clear 38 = .ok (.iastore, 1) := by decide +kernel
theorem dX4_clear_39 : decode cX4_clear 39 = .ok (.iinc 1 1, 3) := by decide +kernel
theorem dX4_clear_42 : decode cX4_clear 42 = .ok (.goto (-30), 3) := by decide +kernel
theorem dX4_clear_45 : decode cX4_clear 45 = .ok (.return_, 1) := by decide +kernel
theorem dX7_nextToken_0 : decode cX7_nextToken 0 = .ok (.aload_n 0, 1) := by decide +kernel
theorem dX7_nextToken_1 : decode cX7_nextToken 1 = .ok (.getfield 46, 3) := by decide +kernel
theorem dX7_nextToken_4 : decode cX7_nextToken 4 = .ok (.istore_n 1, 1) := by decide +kernel
theorem dX7_nextToken_5 : decode cX7_nextToken 5 = .ok (.iload_n 1, 1) := by decide +kernel
theorem dX7_nextToken_6 : decode cX7_nextToken 6 = .ok (.aload_n 0, 1) := by decide +kernel
theorem dX7_nextToken_7 : decode cX7_nextToken 7 = .ok (.getfield 42, 3) := by decide +kernel
theorem dX7_nextToken_10 : decode cX7_nextToken 10 = .ok (.if_icmp .ge 28, 3) := by decide +kernel
theorem dX7_nextToken_38 : decode cX7_nextToken 38 = .ok (.aload_n 0, 1) := by decide +kernel
theorem dX7_nextToken_39 : decode cX7_nextToken 39 = .ok (.aload_n 0, 1) := by decide +kernel
theorem dX7_nextToken_40 : decode cX7_nextToken 40 = .ok (.getfield 46, 3) := by decide +kernel
theorem dX7_nextToken_43 : decode cX7_nextToken 43 = .ok (.putfield 84, 3) := by decide +kernel
theorem dX7_nextToken_46 : decode cX7_nextToken 46 = .ok (.aload_n 0, 1) := by decide +kernel
theorem dX7_nextToken_47 : decode cX7_nextToken 47 = .ok (.getfield 46, 3) := by decide +kernel
theorem dX7_nextToken_50 : decode cX7_nextToken 50 = .ok (.aload_n 0, 1) := by decide +kernel
theorem dX7_nextToken_51 : decode cX7_nextToken 51 = .ok (.getfield 42, 3) := by decide +kernel
theorem dX7_nextToken_54 : decode cX7_nextToken 54 = .ok (.if_icmp .lt 11, 3) := by decide +kernel
theorem dX7_nextToken_57 : decode cX7_nextToken 57 = .ok (.aload_n 0, 1) := by decide +kernel
theorem dX7_nextToken_58 : decode cX7_nextToken 58 = .ok (.iconst 0, 1) := by decide +kernel
theorem dX7_nextToken_59 : decode cX7_nextToken 59 = .ok (.putfield 74, 3) := by decide +kernel
theorem dX7_nextToken_62 : decode cX7_nextToken 62 = .ok (.goto 80, 3) := by decide +kernel
theorem dX7_nextToken_142 : decode cX7_nextToken 142 = .ok (.return_, 1) := by decide +kernel
theorem dX7_lookAtWhole_0 : decode cX7_lookAtWhole 0 = .ok (.aload_n 0, 1) := by decide +kernel
theorem dX7_lookAtWhole_1 : decode cX7_lookAtWhole 1 = .ok (.getfield 59, 3) := by decide +kernel
theorem dX7_lookAtWhole_4 : decode cX7_lookAtWhole 4 = .ok (.aload_n 0, 1) := by decide +kernel
theorem dX7_lookAtWhole_5 : decode cX7_lookAtWhole 5 = .ok (.getfield 12, 3) := by decide +kernel
theorem dX7_lookAtWhole_8 : decode cX7_lookAtWhole 8 = .ok (.getfield 87, 3) := by decide +kernel
theorem dX7_lookAtWhole_11 : decode cX7_lookAtWhole 11 = .ok (.ishr, 1) := by decide +kernel
theorem dX7_lookAtWhole_12 : decode cX7_lookAtWhole 12 = .ok (.ifCond .eq 12, 3) := by decide +kernel
theorem dX7_lookAtWhole_24 : decode cX7_lookAtWhole 24 = .ok (.iconst 0, 1) := by decide +kernel
theorem dX7_lookAtWhole_25 : decode cX7_lookAtWhole 25 = .ok (.istore_n 1, 1) := by decide +kernel
theorem dX7_lookAtWhole_26 : decode cX7_lookAtWhole 26 = .ok (.iload_n 1, 1) := by decide +kernel
theorem dX7_lookAtWhole_27 : decode cX7_lookAtWhole 27 = .ok (.bipush 7, 2) := by decide +kernel
theorem dX7_lookAtWhole_29 : decode cX7_lookAtWhole 29 = .ok (.if_icmp .ge 51, 3) := by decide +kernel
theorem dX7_lookAtWhole_32 : decode cX7_lookAtWhole 32 = .ok (.aload_n 0, 1) := by decide +kernel
theorem dX7_lookAtWhole_33 : decode cX7_lookAtWhole 33 = .ok (.getfield 12, 3) := by decide +kernel
theorem dX7_lookAtWhole_36 : decode cX7_lookAtWhole 36 = .ok (.getfield 94, 3) := by decide +kernel
theorem dX7_lookAtWhole_39 : decode cX7_lookAtWhole 39 = .ok (.iload_n 1, 1) := by decide +kernel
theorem dX7_lookAtWhole_40 : decode cX7_lookAtWhole 40 = .ok (.iaload, 1) := by decide +kernel
theorem dX7_lookAtWhole_41 : decode cX7_lookAtWhole 41 = .ok (.ifCond .eq 33, 3) := by decide +kernel
theorem dX7_lookAtWhole_74 : decode cX7_lookAtWhole 74 = .ok (.iinc 1 1, 3) := by decide +kernel
theorem dX7_lookAtWhole_77 : decode cX7_lookAtWhole 77 = .ok (.goto (-51), 3) := by decide +kernel
theorem dX7_lookAtWhole_80 : decode cX7_lookAtWhole 80 = .ok (.return_, 1) := by decide +kernel
theorem dX7_read_0 : decode cX7_read 0 = .ok (.aload_n 0, 1) := by decide +kernel
theorem dX7_read_1 : decode cX7_read 1 = .ok (.aload_n 1, 1) := by decide +kernel
theorem dX7_read_2 : decode cX7_read 2 = .ok (.putfield 32, 3) := by decide +kernel
theorem dX7_read_5 : decode cX7_read 5 = .ok (.aload_n 0, 1) := by decide +kernel
theorem dX7_read_6 : decode cX7_read 6 = .ok (.iload_n 2, 1) := by decide +kernel
theorem dX7_read_7 : decode cX7_read 7 = .ok (.aload_n 1, 1) := by decide +kernel
theorem dX7_read_8 : decode cX7_read 8 = .ok (.arraylength, 1) := by decide +kernel
theorem dX7_read_9 : decode cX7_read 9 = .ok (.invokestatic 36, 3) := by decide +kernel
theorem dX7_read_12 : decode cX7_read 12 = .ok (.putfield 42, 3) := by decide +kernel
theorem dX7_read_15 : decode cX7_read 15 = .ok (.aload_n 0, 1) := by decide +kernel
theorem dX7_read_16 : decode cX7_read 16 = .ok (.iconst 0, 1) := by decide +kernel
theorem dX7_read_17 : decode cX7_read 17 = .ok (.putfield 46, 3) := by decide +kernel
theorem dX7_read_20 : decode cX7_read 20 = .ok (.aload_n 0, 1) := by decide +kernel
theorem dX7_read_21 : decode cX7_read 21 = .ok (.iconst 0, 1) := by decide +kernel
theorem dX7_read_22 : decode cX7_read 22 = .ok (.putfield 49, 3) := by decide +kernel
theorem dX7_read_25 : decode cX7_read 25 = .ok (.aload_n 0, 1) := by decide +kernel
theorem dX7_read_26 : decode cX7_read 26 = .ok (.iconst (-1), 1) := by decide +kernel
theorem dX7_read_27 : decode cX7_read 27 = .ok (.putfield 52, 3) := by decide +kernel
theorem dX7_read_30 : decode cX7_read 30 = .ok (.aload_n 0, 1) := by decide +kernel
theorem dX7_read_31 : decode cX7_read 31 = .ok (.iconst 0, 1) := by decide +kernel
theorem dX7_read_32 : decode cX7_read 32 = .ok (.putfield 55, 3) := by decide +kernel
theorem dX7_read_35 : decode cX7_read 35 = .ok (.aload_n 0, 1) := by decide +kernel
theorem dX7_read_36 : decode cX7_read 36 = .ok (.iconst 0, 1) := by decide +kernel
theorem dX7_read_37 : decode cX7_read 37 = .ok (.putfield 59, 3) := by decide +kernel
theorem dX7_read_40 : decode cX7_read 40 = .ok (.aload_n 0, 1) := by decide +kernel
theorem dX7_read_41 : decode cX7_read 41 = .ok (.getfield 12, 3) := by decide +kernel
theorem dX7_read_44 : decode cX7_read 44 = .ok (.invokevirtual 62, 3) := by decide +kernel
theorem dX7_read_47 : decode cX7_read 47 = .ok (.aload_n 0, 1) := by decide +kernel
theorem dX7_read_48 : decode cX7_read 48 = .ok (.getfield 21, 3) := by decide +kernel
theorem dX7_read_51 : decode cX7_read 51 = .ok (.iconst 0, 1) := by decide +kernel
theorem dX7_read_52 : decode cX7_read 52 = .ok (.putfield 65, 3) := by decide +kernel
theorem dX7_read_55 : decode cX7_read 55 = .ok (.aload_n 0, 1) := by decide +kernel
theorem dX7_read_56 : decode cX7_read 56 = .ok (.getfield 28, 3) := by decide +kernel
theorem dX7_read_59 : decode cX7_read 59 = .ok (.iconst 0, 1) := by decide +kernel
theorem dX7_read_60 : decode cX7_read 60 = .ok (.putfield 68, 3) := by decide +kernel
theorem dX7_read_63 : decode cX7_read 63 = .ok (.aload_n 0, 1) := by decide +kernel
theorem dX7_read_64 : decode cX7_read 64 = .ok (.invokevirtual 71, 3) := by decide +kernel
theorem dX7_read_67 : decode cX7_read 67 = .ok (.iconst 0, 1) := by decide +kernel
theorem dX7_read_68 : decode cX7_read 68 = .ok (.istore 4, 2) := by decide +kernel
theorem dX7_read_70 : decode cX7_read 70 = .ok (.iload 4, 2) := by decide +kernel
theorem dX7_read_72 : decode cX7_read 72 = .ok (.sipush 600, 3) := by decide +kernel
theorem dX7_read_75 : decode cX7_read 75 = .ok (.if_icmp .gt 28, 3) := by decide +kernel
theorem dX7_read_78 : decode cX7_read 78 = .ok (.aload_n 0, 1) := by decide +kernel
theorem dX7_read_79 : decode cX7_read 79 = .ok (.getfield 55, 3) := by decide +kernel
theorem dX7_read_82 : decode cX7_read 82 = .ok (.ifCond .ne 21, 3) := by decide +kernel
theorem dX7_read_85 : decode cX7_read 85 = .ok (.aload_n 0, 1) := by decide +kernel
theorem dX7_read_86 : decode cX7_read 86 = .ok (.getfield 74, 3) := by decide +kernel
theorem dX7_read_89 : decode cX7_read 89 = .ok (.ifCond .eq 14, 3) := by decide +kernel
theorem dX7_read_103 : decode cX7_read 103 = .ok (.iload_n 3, 1) := by decide +kernel
theorem dX7_read_104 : decode cX7_read 104 = .ok (.ifCond .ne 7, 3) := by decide +kernel
theorem dX7_read_107 : decode cX7_read 107 = .ok (.aload_n 0, 1) := by decide +kernel
theorem dX7_read_108 : decode cX7_read 108 = .ok (.invokevirtual 81, 3) := by decide +kernel
theorem dX7_read_111 : decode cX7_read 111 = .ok (.return_, 1) := by decide +kernel
end
section
theorem z_upd0 {g : Nat → Int32} {i : Nat} (h : ∀ j, j < i → g j = 0) : ∀ j, j < i + 1 → upd g i 0 j = 0 := by
  intro j hj
  unfold upd
  split
  · rfl
  · exact h j (by omega)
theorem z_three {so : Int32} (h1 : 0 ≤ so.toInt) (h2 : so.toInt ≤ 2) : so = 0 ∨ so = 1 ∨ so = 2 := by
  rcases (show so.toInt = 0 ∨ so.toInt = 1 ∨ so.toInt = 2 by omega) with h | h | h
  · exact Or.inl ((fa_eq _ _).mpr h)
  · exact Or.inr (Or.inl ((fa_eq _ _).mpr h))
  · exact Or.inr (Or.inr ((fa_eq _ _).mpr h))
set_option maxHeartbeats 4000000 in
set_option maxRecDepth 100000 in
/-- clear() -/
theorem c_Land_clear (l : Launch) (T : zTy) (h : Nat) (a1 : Nat) (a2 : Nat) (a3 : Nat) (a4 : Nat) (v0 : Int32) (v1 : Int32) (f1 : Nat → Int32) (f3 : Nat → Int32) (f4 : Nat → Int32) : zMv l T yX4_clear cX4_clear 2 1 0 0 [.ref h] [[(h, .inr (4, [.int v0, .int v1, .ref a1, .ref a2, .ref a3, .ref a4]))], [(a1, .inl (T.2 0, 7, .inl f1))], [(a3, .inl (T.2 0, 7, .inl f3))], [(a4, .inl (T.2 0, 7, .inl f4))]] (fun bs => ∃ (g1 : Nat → Int32) (g3 : Nat → Int32) (g4 : Nat → Int32), bs = [[(h, .inr (4, [.int 0, .int 0, .ref a1, .ref a2, .ref a3, .ref a4]))], [(a1, .inl (T.2 0, 7, .inl g1))], [(a3, .inl (T.2 0, 7, .inl g3))], [(a4, .inl (T.2 0, 7, .inl g4))]] ∧ (∀ j, j < 7 → g1 j = 0) ∧ (∀ j, j < 7 → g3 j = 0) ∧ (∀ j, j < 7 → g4 j = 0)) := by
  refine zMv_of (own := RX4) (by decide) rfl (Nat.le_of_ble_eq_true rfl) ?_
  intro p e s m args below meth c A ls C hr hlocks hnm hAe G hl
  have hx := C.1
  have hb := C.2.1
  have hl : lv_has ls 2 [(0, .ref h)] := hl
  refine lv_aload_n hx hb dX4_clear_0 rfl (lv_at hl 0 rfl) ?_
  refine lv_iconst (v := 0) hx hb dX4_clear_1 (by decide) ?_
  refine z_put C G clX4 0 rfl 0 (by decide) m_fl_RX4_24 rfl rfl rfl (Nat.le_of_ble_eq_true rfl) dX4_clear_2 (fun H locs G => ?_)
  have G : zS T A s.heap s [[(h, .inr (4, [.int 0, .int v1, .ref a1, .ref a2, .ref a3, .ref a4]))], [(a1, .inl (T.2 0, 7, .inl f1))], [(a3, .inl (T.2 0, 7, .inl f3))], [(a4, .inl (T.2 0, 7, .inl f4))]] _ _ := G
  refine lv_aload_n hx hb dX4_clear_5 rfl (lv_at hl 0 rfl) ?_
  refine lv_iconst (v := 0) hx hb dX4_clear_6 (by decide) ?_
  refine z_put C G clX4 0 rfl 1 (by decide) m_fl_RX4_28 rfl rfl rfl (Nat.le_of_ble_eq_true rfl) dX4_clear_7 (fun H locs G => ?_)
  have G : zS T A s.heap s [[(h, .inr (4, [.int 0, .int 0, .ref a1, .ref a2, .ref a3, .ref a4]))], [(a1, .inl (T.2 0, 7, .inl f1))], [(a3, .inl (T.2 0, 7, .inl f3))], [(a4, .inl (T.2 0, 7, .inl f4))]] _ _ := G
  refine lv_iconst (v := 0) hx hb dX4_clear_10 (by decide) ?_
  refine lv_istore_n (lv' := [(1, .int 0), (0, .ref h)]) hx hb dX4_clear_11 rfl hl (by decide) rfl (fun ls hl => ?_)
  refine z_loop (T := T) (α := Nat × (Nat → Int32) × (Nat → Int32) × (Nat → Int32)) 12 (fun (i, g1, g3, g4) => [[(h, .inr (4, [.int 0, .int 0, .ref a1, .ref a2, .ref a3, .ref a4]))], [(a1, .inl (T.2 0, 7, .inl g1))], [(a3, .inl (T.2 0, 7, .inl g3))], [(a4, .inl (T.2 0, 7, .inl g4))]]) (fun (i, g1, g3, g4) => [(1, .int (nI i)), (0, .ref h)]) (fun (i, g1, g3, g4) => i ≤ 7 ∧ (∀ j, j < i → g1 j = 0) ∧ (∀ j, j < i → g3 j = 0) ∧ (∀ j, j < i → g4 j = 0)) (fun (i, g1, g3, g4) => 7 - i) ?_ (0, f1, f3, f4) (show 0 ≤ 7 ∧ (∀ j, j < 0 → f1 j = 0) ∧ (∀ j, j < 0 → f3 j = 0) ∧ (∀ j, j < 0 → f4 j = 0) from ⟨by omega, fun j hj => absurd hj (by omega), fun j hj => absurd hj (by omega), fun j hj => absurd hj (by omega)⟩) G (lv_sub hl [0, 1] rfl)
  rintro ⟨i, g1, g3, g4⟩ ⟨hi, h1, h3, h4⟩ ih H locs ls G hl
  have hi : i ≤ 7 := hi
  have h1 : (∀ j, j < i → g1 j = 0) := h1
  have h3 : (∀ j, j < i → g3 j = 0) := h3
  have h4 : (∀ j, j < i → g4 j = 0) := h4
  have G : zS T A s.heap s [[(h, .inr (4, [.int 0, .int 0, .ref a1, .ref a2, .ref a3, .ref a4]))], [(a1, .inl (T.2 0, 7, .inl g1))], [(a3, .inl (T.2 0, 7, .inl g3))], [(a4, .inl (T.2 0, 7, .inl g4))]] _ _ := G
  have hl : lv_has ls 2 [(1, .int (nI i)), (0, .ref h)] := hl
  refine lv_iload_n hx hb dX4_clear_12 rfl (lv_at hl 0 rfl) ?_
  refine lv_bipush (v := 7) hx hb dX4_clear_13 (by decide) ?_
  refine lv_icmp_ge (tgt := 45) hx hb dX4_clear_15 (by decide) (fun c_1 => ?_) (fun c_1 => ?_)
  · have c_1n : 7 ≤ i := (nI_leI (a := 7) (b := i) (by omega) (by omega)).mp c_1
    exact z_vret C hr hlocks G (Nat.le_of_ble_eq_true rfl) (Nat.le_of_ble_eq_true rfl) dX4_clear_45 ⟨g1, g3, g4, rfl, (fun j hj => h1 j (by omega)), (fun j hj => h3 j (by omega)), (fun j hj => h4 j (by omega))⟩
  · have c_1n : ¬ 7 ≤ i := fun q => c_1 ((nI_leI (a := 7) (b := i) (by omega) (by omega)).mpr q)
    refine lv_aload_n hx hb dX4_clear_18 rfl (lv_at hl 1 rfl) ?_
    refine z_get C G clX4 0 rfl 2 (by decide) m_fl_RX4_9 rfl dX4_clear_19 ?_
    refine lv_iload_n hx hb dX4_clear_22 rfl (lv_at hl 0 rfl) ?_
    refine lv_iconst (v := 0) hx hb dX4_clear_23 (by decide) ?_
    refine z_ist C G 1 rfl (vp_in_nI (by omega) (by omega)) dX4_clear_24 (fun H locs G => ?_)
    rw [nI_clamp (by omega)] at G
    have G : zS T A s.heap s [[(h, .inr (4, [.int 0, .int 0, .ref a1, .ref a2, .ref a3, .ref a4]))], [(a1, .inl (T.2 0, 7, .inl (upd g1 i 0)))], [(a3, .inl (T.2 0, 7, .inl g3))], [(a4, .inl (T.2 0, 7, .inl g4))]] _ _ := G
    refine lv_aload_n hx hb dX4_clear_25 rfl (lv_at hl 1 rfl) ?_
    refine z_get C G clX4 0 rfl 4 (by decide) m_fl_RX4_18 rfl dX4_clear_26 ?_
    refine lv_iload_n hx hb dX4_clear_29 rfl (lv_at hl 0 rfl) ?_
    refine lv_iconst (v := 0) hx hb dX4_clear_30 (by decide) ?_
    refine z_ist C G 2 rfl (vp_in_nI (by omega) (by omega)) dX4_clear_31 (fun H locs G => ?_)
    rw [nI_clamp (by omega)] at G
    have G : zS T A s.heap s [[(h, .inr (4, [.int 0, .int 0, .ref a1, .ref a2, .ref a3, .ref a4]))], [(a1, .inl (T.2 0, 7, .inl (upd g1 i 0)))], [(a3, .inl (T.2 0, 7, .inl (upd g3 i 0)))], [(a4, .inl (T.2 0, 7, .inl g4))]] _ _ := G
    refine lv_aload_n hx hb dX4_clear_32 rfl (lv_at hl 1 rfl) ?_
    refine z_get C G clX4 0 rfl 5 (by decide) m_fl_RX4_21 rfl dX4_clear_33 ?_
    refine lv_iload_n hx hb dX4_clear_36 rfl (lv_at hl 0 rfl) ?_
    refine lv_iconst (v := 0) hx hb dX4_clear_37 (by decide) ?_
    refine z_ist C G 3 rfl (vp_in_nI (by omega) (by omega)) dX4_clear_38 (fun H locs G => ?_)
    rw [nI_clamp (by omega)] at G
    have G : zS T A s.heap s [[(h, .inr (4, [.int 0, .int 0, .ref a1, .ref a2, .ref a3, .ref a4]))], [(a1, .inl (T.2 0, 7, .inl (upd g1 i 0)))], [(a3, .inl (T.2 0, 7, .inl (upd g3 i 0)))], [(a4, .inl (T.2 0, 7, .inl (upd g4 i 0)))]] _ _ := G
    refine lv_iinc (v := nI (i + 1)) (lv' := [(1, .int (nI (i + 1))), (0, .ref h)]) hx hb dX4_clear_39 hl (k := 0) rfl (z_inc i 1) (by decide) rfl (fun ls hl => ?_)
    refine lv_goto (tgt := 12) hx hb dX4_clear_42 (by decide) ?_
    exact ih ((i + 1), (upd g1 i 0), (upd g3 i 0), (upd g4 i 0)) (show (i + 1) ≤ 7 ∧ (∀ j, j < (i + 1) → (upd g1 i 0) j = 0) ∧ (∀ j, j < (i + 1) → (upd g3 i 0) j = 0) ∧ (∀ j, j < (i + 1) → (upd g4 i 0) j = 0) from ⟨by omega, z_upd0 h1, z_upd0 h3, z_upd0 h4⟩) (show 7 - (i + 1) < 7 - i from by omega) _ _ ls G (lv_sub hl [0, 1] rfl)
set_option maxHeartbeats 4000000 in
set_option maxRecDepth 100000 in
/-- nextToken: the end of an empty tape -/
theorem c_nextToken0 (l : Launch) (T : zTy) (h : Nat) (l0 : Nat) (d0 : Nat) (g0 : Nat) (tp : Nat) (r0 : Int32) (r1 : Int32) (r4 : Int32) (r5 : Int32) (r6 : Int32) (r7 : Int32) : zMv l T yX7_nextToken cX7_nextToken 2 2 0 0 [.ref h] [[(h, .inr (7, [.ref l0, .ref d0, .ref g0, .int r0, .int r1, .ref tp, .int 0, .int 0, .int r4, .int r5, .int r6, .int 0, .int r7]))]] (fun bs => bs = [[(h, .inr (7, [.ref l0, .ref d0, .ref g0, .int r0, .int r1, .ref tp, .int 0, .int 0, .int 0, .int 0, .int r6, .int 0, .int r7]))]]) := by
  refine zMv_of (own := RX7) (by decide) rfl (Nat.le_of_ble_eq_true rfl) ?_
  intro p e s m args below meth c A ls C hr hlocks hnm hAe G hl
  have hx := C.1
  have hb := C.2.1
  have hl : lv_has ls 2 [(0, .ref h)] := hl
  refine lv_aload_n hx hb dX7_nextToken_0 rfl (lv_at hl 0 rfl) ?_
  refine z_get C G clX7 0 rfl 7 (by decide) m_fl_RX7_46 rfl dX7_nextToken_1 ?_
  refine lv_istore_n (lv' := [(1, .int 0), (0, .ref h)]) hx hb dX7_nextToken_4 rfl hl (by decide) rfl (fun ls hl => ?_)
  refine lv_iload_n hx hb dX7_nextToken_5 rfl (lv_at hl 0 rfl) ?_
  refine lv_aload_n hx hb dX7_nextToken_6 rfl (lv_at hl 1 rfl) ?_
  refine z_get C G clX7 0 rfl 6 (by decide) m_fl_RX7_42 rfl dX7_nextToken_7 ?_
  refine lv_icmp_ge (tgt := 38) hx hb dX7_nextToken_10 (by decide) (fun _ => ?_) (fun q => absurd (by decide) q)
  refine lv_aload_n hx hb dX7_nextToken_38 rfl (lv_at hl 1 rfl) ?_
  refine lv_aload_n hx hb dX7_nextToken_39 rfl (lv_at hl 1 rfl) ?_
  refine z_get C G clX7 0 rfl 7 (by decide) m_fl_RX7_46 rfl dX7_nextToken_40 ?_
  refine z_put C G clX7 0 rfl 9 (by decide) m_fl_RX7_84 rfl rfl rfl (Nat.le_of_ble_eq_true rfl) dX7_nextToken_43 (fun H locs G => ?_)
  have G : zS T A s.heap s [[(h, .inr (7, [.ref l0, .ref d0, .ref g0, .int r0, .int r1, .ref tp, .int 0, .int 0, .int r4, .int 0, .int r6, .int 0, .int r7]))]] _ _ := G
  refine lv_aload_n hx hb dX7_nextToken_46 rfl (lv_at hl 1 rfl) ?_
  refine z_get C G clX7 0 rfl 7 (by decide) m_fl_RX7_46 rfl dX7_nextToken_47 ?_
  refine lv_aload_n hx hb dX7_nextToken_50 rfl (lv_at hl 1 rfl) ?_
  refine z_get C G clX7 0 rfl 6 (by decide) m_fl_RX7_42 rfl dX7_nextToken_51 ?_
  refine lv_icmp_lt (tgt := 65) hx hb dX7_nextToken_54 (by decide) (fun q => absurd q (by decide)) (fun _ => ?_)
  refine lv_aload_n hx hb dX7_nextToken_57 rfl (lv_at hl 1 rfl) ?_
  refine lv_iconst (v := 0) hx hb dX7_nextToken_58 (by decide) ?_
  refine z_put C G clX7 0 rfl 8 (by decide) m_fl_RX7_74 rfl rfl rfl (Nat.le_of_ble_eq_true rfl) dX7_nextToken_59 (fun H locs G => ?_)
  have G : zS T A s.heap s [[(h, .inr (7, [.ref l0, .ref d0, .ref g0, .int r0, .int r1, .ref tp, .int 0, .int 0, .int 0, .int 0, .int r6, .int 0, .int r7]))]] _ _ := G
  refine lv_goto (tgt := 142) hx hb dX7_nextToken_62 (by decide) ?_
  exact z_vret C hr hlocks G (Nat.le_of_ble_eq_true rfl) (Nat.le_of_ble_eq_true rfl) dX7_nextToken_142 rfl
set_option maxHeartbeats 4000000 in
set_option maxRecDepth 100000 in
/-- lookAtWhole -/
theorem c_lookAtWhole0 (l : Launch) (T : zTy) (h : Nat) (l0 : Nat) (d0 : Nat) (g0 : Nat) (tp : Nat) (r0 : Int32) (r1 : Int32) (r2 : Int32) (r3 : Int32) (r4 : Int32) (r5 : Int32) (r6 : Int32) (a1 : Nat) (a2 : Nat) (a3 : Nat) (a4 : Nat) (v1 : Int32) (f1 : Nat → Int32) (f3 : Nat → Int32) (hz : ∀ j, j < 7 → f3 j = 0) : zMv l T yX7_lookAtWhole cX7_lookAtWhole 2 2 0 0 [.ref h] [[(h, .inr (7, [.ref l0, .ref d0, .ref g0, .int r0, .int r1, .ref tp, .int r2, .int r3, .int r4, .int r5, .int r6, .int 0, .int 0]))], [(l0, .inr (4, [.int 0, .int v1, .ref a1, .ref a2, .ref a3, .ref a4]))], [(a1, .inl (T.2 0, 7, .inl f1))], [(a3, .inl (T.2 0, 7, .inl f3))]] (fun bs => bs = [[(h, .inr (7, [.ref l0, .ref d0, .ref g0, .int r0, .int r1, .ref tp, .int r2, .int r3, .int r4, .int r5, .int r6, .int 0, .int 0]))], [(l0, .inr (4, [.int 0, .int v1, .ref a1, .ref a2, .ref a3, .ref a4]))], [(a1, .inl (T.2 0, 7, .inl f1))], [(a3, .inl (T.2 0, 7, .inl f3))]]) := by
  refine zMv_of (own := RX7) (by decide) rfl (Nat.le_of_ble_eq_true rfl) ?_
  intro p e s m args below meth c A ls C hr hlocks hnm hAe G hl
  have hx := C.1
  have hb := C.2.1
  have hl : lv_has ls 2 [(0, .ref h)] := hl
  refine lv_aload_n hx hb dX7_lookAtWhole_0 rfl (lv_at hl 0 rfl) ?_
  refine z_get C G clX7 0 rfl 12 (by decide) m_fl_RX7_59 rfl dX7_lookAtWhole_1 ?_
  refine lv_aload_n hx hb dX7_lookAtWhole_4 rfl (lv_at hl 0 rfl) ?_
  refine z_get C G clX7 0 rfl 0 (by decide) m_fl_RX7_12 rfl dX7_lookAtWhole_5 ?_
  refine z_get C G clX4 1 rfl 0 (by decide) m_fl_RX7_87 rfl dX7_lookAtWhole_8 ?_
  refine lv_ishr hx hb dX7_lookAtWhole_11 ?_
  refine lv_topi (fun y_1 ey_1 => ?_)
  obtain rfl : y_1 = 0 := ey_1.trans (by decide)
  refine lv_if_eq (tgt := 24) hx hb dX7_lookAtWhole_12 (by decide) (fun _ => ?_) (fun q => absurd (by decide) q)
  refine lv_iconst (v := 0) hx hb dX7_lookAtWhole_24 (by decide) ?_
  refine lv_istore_n (lv' := [(1, .int 0), (0, .ref h)]) hx hb dX7_lookAtWhole_25 rfl hl (by decide) rfl (fun ls hl => ?_)
  refine z_loop (T := T) (α := Nat) 26 (fun i => [[(h, .inr (7, [.ref l0, .ref d0, .ref g0, .int r0, .int r1, .ref tp, .int r2, .int r3, .int r4, .int r5, .int r6, .int 0, .int 0]))], [(l0, .inr (4, [.int 0, .int v1, .ref a1, .ref a2, .ref a3, .ref a4]))], [(a1, .inl (T.2 0, 7, .inl f1))], [(a3, .inl (T.2 0, 7, .inl f3))]]) (fun i => [(1, .int (nI i)), (0, .ref h)]) (fun i => i ≤ 7) (fun i => 7 - i) ?_ 0 (show 0 ≤ 7 from by omega) G (lv_sub hl [0, 1] rfl)
  rintro i hi ih H locs ls G hl
  have hi : i ≤ 7 := hi
  have G : zS T A s.heap s [[(h, .inr (7, [.ref l0, .ref d0, .ref g0, .int r0, .int r1, .ref tp, .int r2, .int r3, .int r4, .int r5, .int r6, .int 0, .int 0]))], [(l0, .inr (4, [.int 0, .int v1, .ref a1, .ref a2, .ref a3, .ref a4]))], [(a1, .inl (T.2 0, 7, .inl f1))], [(a3, .inl (T.2 0, 7, .inl f3))]] _ _ := G
  have hl : lv_has ls 2 [(1, .int (nI i)), (0, .ref h)] := hl
  refine lv_iload_n hx hb dX7_lookAtWhole_26 rfl (lv_at hl 0 rfl) ?_
  refine lv_bipush (v := 7) hx hb dX7_lookAtWhole_27 (by decide) ?_
  refine lv_icmp_ge (tgt := 80) hx hb dX7_lookAtWhole_29 (by decide) (fun c_2 => ?_) (fun c_2 => ?_)
  · have c_2n : 7 ≤ i := (nI_leI (a := 7) (b := i) (by omega) (by omega)).mp c_2
    exact z_vret C hr hlocks G (Nat.le_of_ble_eq_true rfl) (Nat.le_of_ble_eq_true rfl) dX7_lookAtWhole_80 rfl
  · have c_2n : ¬ 7 ≤ i := fun q => c_2 ((nI_leI (a := 7) (b := i) (by omega) (by omega)).mpr q)
    refine lv_aload_n hx hb dX7_lookAtWhole_32 rfl (lv_at hl 1 rfl) ?_
    refine z_get C G clX7 0 rfl 0 (by decide) m_fl_RX7_12 rfl dX7_lookAtWhole_33 ?_
    refine z_get C G clX4 1 rfl 4 (by decide) m_fl_RX7_94 rfl dX7_lookAtWhole_36 ?_
    refine lv_iload_n hx hb dX7_lookAtWhole_39 rfl (lv_at hl 0 rfl) ?_
    refine z_ild C G 3 rfl (vp_in_nI (by omega) (by omega)) dX7_lookAtWhole_40 ?_
    refine lv_topi (fun v_3 ev_3 => ?_)
    rw [nI_clamp (by omega)] at ev_3
    subst ev_3
    refine lv_if_eq (tgt := 74) hx hb dX7_lookAtWhole_41 (by decide) (fun _ => ?_) (fun q => absurd (hz _ (by omega)) q)
    refine lv_iinc (v := nI (i + 1)) (lv' := [(1, .int (nI (i + 1))), (0, .ref h)]) hx hb dX7_lookAtWhole_74 hl (k := 0) rfl (z_inc i 1) (by decide) rfl (fun ls hl => ?_)
    refine lv_goto (tgt := 26) hx hb dX7_lookAtWhole_77 (by decide) ?_
    exact ih (i + 1) (show (i + 1) ≤ 7 from by omega) (show 7 - (i + 1) < 7 - i from by omega) _ _ ls G (lv_sub hl [0, 1] rfl)
set_option maxHeartbeats 4000000 in
set_option maxRecDepth 100000 in
/-- read: an empty tape has no fault -/
theorem c_read0 (l : Launch) (T : zTy) (h : Nat) (w : va_W) (tp : Nat) (f : Nat → Int32) (so : Int32) (hw : bReader T h w) : zMv l T yX7_read cX7_read 5 3 0 0 [.ref h, .ref tp, .int 0, .int so] [w, [(tp, .inl (T.2 1, 600, .inl f))]] (fun bs => ∃ (l0 : Nat) (d0 : Nat) (g0 : Nat) (r6 : Int32) (w1 : va_W) (w2 : va_W) (w3 : va_W), bs = [[(h, .inr (7, [.ref l0, .ref d0, .ref g0, .int 0, .int (-1), .ref tp, .int 0, .int 0, .int 0, .int 0, .int r6, .int 0, .int 0]))], w1, w2, w3, [(tp, .inl (T.2 1, 600, .inl f))]] ∧ bLand T l0 w1 ∧ bDay T d0 w2 ∧ bLog T g0 w3) := by
  refine zMv_of (own := RX7) (by decide) rfl (Nat.le_of_ble_eq_true rfl) ?_
  intro p e s m args below meth c A ls C hr hlocks hnm hAe G hl
  have hx := C.1
  have hb := C.2.1
  have hl : lv_has ls 5 [(0, .ref h), (1, .ref tp), (2, .int 0), (3, .int so)] := hl
  obtain ⟨l0_1, d0_2, g0_3, a1_4, n1_5, f1_6, v0_7, v1_8, v2_9, v3_10, v4_11, v5_12, v6_13, v7_14, w1_15, w2_16, w3_17, rfl, h_18, h_19, h_20⟩ := hw
  have G : zS T A s.heap s [[(h, .inr (7, [.ref l0_1, .ref d0_2, .ref g0_3, .int v0_7, .int v1_8, .ref a1_4, .int v2_9, .int v3_10, .int v4_11, .int v5_12, .int v6_13, .int 0, .int v7_14]))], [(a1_4, .inl (T.2 1, n1_5, .inl f1_6))], w1_15, w2_16, w3_17, [(tp, .inl (T.2 1, 600, .inl f))]] _ _ := G.re (by simp only [List.flatten_cons, List.flatten_append, List.flatten_nil, List.append_assoc, List.cons_append, List.nil_append, List.append_nil])
  obtain ⟨a1_21, a2_22, a3_23, a4_24, v0_25, v1_26, f1_27, f2_28, f3_29, f4_30, rfl⟩ := h_18
  have G : zS T A s.heap s [[(h, .inr (7, [.ref l0_1, .ref d0_2, .ref g0_3, .int v0_7, .int v1_8, .ref a1_4, .int v2_9, .int v3_10, .int v4_11, .int v5_12, .int v6_13, .int 0, .int v7_14]))], [(a1_4, .inl (T.2 1, n1_5, .inl f1_6))], [(l0_1, .inr (4, [.int v0_25, .int v1_26, .ref a1_21, .ref a2_22, .ref a3_23, .ref a4_24]))], [(a1_21, .inl (T.2 0, 7, .inl f1_27))], [(a2_22, .inl (T.2 0, 28, .inl f2_28))], [(a3_23, .inl (T.2 0, 7, .inl f3_29))], [(a4_24, .inl (T.2 0, 7, .inl f4_30))], w2_16, w3_17, [(tp, .inl (T.2 1, 600, .inl f))]] _ _ := G.re rfl
  obtain ⟨a1_31, a2_32, a3_33, v0_34, f1_35, f2_36, f3_37, rfl⟩ := h_19
  have G : zS T A s.heap s [[(h, .inr (7, [.ref l0_1, .ref d0_2, .ref g0_3, .int v0_7, .int v1_8, .ref a1_4, .int v2_9, .int v3_10, .int v4_11, .int v5_12, .int v6_13, .int 0, .int v7_14]))], [(a1_4, .inl (T.2 1, n1_5, .inl f1_6))], [(l0_1, .inr (4, [.int v0_25, .int v1_26, .ref a1_21, .ref a2_22, .ref a3_23, .ref a4_24]))], [(a1_21, .inl (T.2 0, 7, .inl f1_27))], [(a2_22, .inl (T.2 0, 28, .inl f2_28))], [(a3_23, .inl (T.2 0, 7, .inl f3_29))], [(a4_24, .inl (T.2 0, 7, .inl f4_30))], [(d0_2, .inr (2, [.int v0_34, .ref a1_31, .ref a2_32, .ref a3_33]))], [(a1_31, .inl (T.2 0, 40, .inl f1_35))], [(a2_32, .inl (T.2 0, 40, .inl f2_36))], [(a3_33, .inl (T.2 0, 40, .inl f3_37))], w3_17, [(tp, .inl (T.2 1, 600, .inl f))]] _ _ := G.re rfl
  obtain ⟨a1_38, a2_39, v0_40, f1_41, f2_42, rfl⟩ := h_20
  have G : zS T A s.heap s [[(h, .inr (7, [.ref l0_1, .ref d0_2, .ref g0_3, .int v0_7, .int v1_8, .ref a1_4, .int v2_9, .int v3_10, .int v4_11, .int v5_12, .int v6_13, .int 0, .int v7_14]))], [(a1_4, .inl (T.2 1, n1_5, .inl f1_6))], [(l0_1, .inr (4, [.int v0_25, .int v1_26, .ref a1_21, .ref a2_22, .ref a3_23, .ref a4_24]))], [(a1_21, .inl (T.2 0, 7, .inl f1_27))], [(a2_22, .inl (T.2 0, 28, .inl f2_28))], [(a3_23, .inl (T.2 0, 7, .inl f3_29))], [(a4_24, .inl (T.2 0, 7, .inl f4_30))], [(d0_2, .inr (2, [.int v0_34, .ref a1_31, .ref a2_32, .ref a3_33]))], [(a1_31, .inl (T.2 0, 40, .inl f1_35))], [(a2_32, .inl (T.2 0, 40, .inl f2_36))], [(a3_33, .inl (T.2 0, 40, .inl f3_37))], [(g0_3, .inr (5, [.int v0_40, .ref a1_38, .ref a2_39]))], [(a1_38, .inl (T.2 0, 8, .inl f1_41))], [(a2_39, .inl (T.2 0, 8, .inl f2_42))], [(tp, .inl (T.2 1, 600, .inl f))]] _ _ := G.re rfl
  refine lv_aload_n hx hb dX7_read_0 rfl (lv_at hl 0 rfl) ?_
  refine lv_aload_n hx hb dX7_read_1 rfl (lv_at hl 1 rfl) ?_
  refine z_put C G clX7 0 rfl 5 (by decide) m_fl_RX7_32 rfl rfl rfl (Nat.le_of_ble_eq_true rfl) dX7_read_2 (fun H locs G => ?_)
  have G : zS T A s.heap s [[(h, .inr (7, [.ref l0_1, .ref d0_2, .ref g0_3, .int v0_7, .int v1_8, .ref tp, .int v2_9, .int v3_10, .int v4_11, .int v5_12, .int v6_13, .int 0, .int v7_14]))], [(a1_4, .inl (T.2 1, n1_5, .inl f1_6))], [(l0_1, .inr (4, [.int v0_25, .int v1_26, .ref a1_21, .ref a2_22, .ref a3_23, .ref a4_24]))], [(a1_21, .inl (T.2 0, 7, .inl f1_27))], [(a2_22, .inl (T.2 0, 28, .inl f2_28))], [(a3_23, .inl (T.2 0, 7, .inl f3_29))], [(a4_24, .inl (T.2 0, 7, .inl f4_30))], [(d0_2, .inr (2, [.int v0_34, .ref a1_31, .ref a2_32, .ref a3_33]))], [(a1_31, .inl (T.2 0, 40, .inl f1_35))], [(a2_32, .inl (T.2 0, 40, .inl f2_36))], [(a3_33, .inl (T.2 0, 40, .inl f3_37))], [(g0_3, .inr (5, [.int v0_40, .ref a1_38, .ref a2_39]))], [(a1_38, .inl (T.2 0, 8, .inl f1_41))], [(a2_39, .inl (T.2 0, 8, .inl f2_42))], [(tp, .inl (T.2 1, 600, .inl f))]] _ _ := G
  refine lv_aload_n hx hb dX7_read_5 rfl (lv_at hl 0 rfl) ?_
  refine lv_iload_n hx hb dX7_read_6 rfl (lv_at hl 2 rfl) ?_
  refine lv_aload_n hx hb dX7_read_7 rfl (lv_at hl 1 rfl) ?_
  refine z_alen C G 14 1 rfl (v := 600) rfl rfl dX7_read_8 ?_
  refine va_mmin hx hb (C.2.2.1.trans hl.1.symm) C.2.2.2.1 (C.2.2.2.2 _ m_ml_RX7_36) (C.2.2.2.2 _ m_st_math_min) (C.2.2.2.2 _ m_ii_math) (C.2.2.2.2 _ m_co_math_min) (Nat.le_of_ble_eq_true rfl) (Nat.le_of_ble_eq_true rfl) (Nat.le_of_ble_eq_true rfl) (Nat.le_of_ble_eq_true rfl) dX7_read_9 ?_
  refine lv_topi (fun v_43 ev_43 => ?_)
  obtain rfl : v_43 = 0 := ev_43.trans (by decide)
  refine z_put C G clX7 0 rfl 6 (by decide) m_fl_RX7_42 rfl rfl rfl (Nat.le_of_ble_eq_true rfl) dX7_read_12 (fun H locs G => ?_)
  have G : zS T A s.heap s [[(h, .inr (7, [.ref l0_1, .ref d0_2, .ref g0_3, .int v0_7, .int v1_8, .ref tp, .int 0, .int v3_10, .int v4_11, .int v5_12, .int v6_13, .int 0, .int v7_14]))], [(a1_4, .inl (T.2 1, n1_5, .inl f1_6))], [(l0_1, .inr (4, [.int v0_25, .int v1_26, .ref a1_21, .ref a2_22, .ref a3_23, .ref a4_24]))], [(a1_21, .inl (T.2 0, 7, .inl f1_27))], [(a2_22, .inl (T.2 0, 28, .inl f2_28))], [(a3_23, .inl (T.2 0, 7, .inl f3_29))], [(a4_24, .inl (T.2 0, 7, .inl f4_30))], [(d0_2, .inr (2, [.int v0_34, .ref a1_31, .ref a2_32, .ref a3_33]))], [(a1_31, .inl (T.2 0, 40, .inl f1_35))], [(a2_32, .inl (T.2 0, 40, .inl f2_36))], [(a3_33, .inl (T.2 0, 40, .inl f3_37))], [(g0_3, .inr (5, [.int v0_40, .ref a1_38, .ref a2_39]))], [(a1_38, .inl (T.2 0, 8, .inl f1_41))], [(a2_39, .inl (T.2 0, 8, .inl f2_42))], [(tp, .inl (T.2 1, 600, .inl f))]] _ _ := G
  refine lv_aload_n hx hb dX7_read_15 rfl (lv_at hl 0 rfl) ?_
  refine lv_iconst (v := 0) hx hb dX7_read_16 (by decide) ?_
  refine z_put C G clX7 0 rfl 7 (by decide) m_fl_RX7_46 rfl rfl rfl (Nat.le_of_ble_eq_true rfl) dX7_read_17 (fun H locs G => ?_)
  have G : zS T A s.heap s [[(h, .inr (7, [.ref l0_1, .ref d0_2, .ref g0_3, .int v0_7, .int v1_8, .ref tp, .int 0, .int 0, .int v4_11, .int v5_12, .int v6_13, .int 0, .int v7_14]))], [(a1_4, .inl (T.2 1, n1_5, .inl f1_6))], [(l0_1, .inr (4, [.int v0_25, .int v1_26, .ref a1_21, .ref a2_22, .ref a3_23, .ref a4_24]))], [(a1_21, .inl (T.2 0, 7, .inl f1_27))], [(a2_22, .inl (T.2 0, 28, .inl f2_28))], [(a3_23, .inl (T.2 0, 7, .inl f3_29))], [(a4_24, .inl (T.2 0, 7, .inl f4_30))], [(d0_2, .inr (2, [.int v0_34, .ref a1_31, .ref a2_32, .ref a3_33]))], [(a1_31, .inl (T.2 0, 40, .inl f1_35))], [(a2_32, .inl (T.2 0, 40, .inl f2_36))], [(a3_33, .inl (T.2 0, 40, .inl f3_37))], [(g0_3, .inr (5, [.int v0_40, .ref a1_38, .ref a2_39]))], [(a1_38, .inl (T.2 0, 8, .inl f1_41))], [(a2_39, .inl (T.2 0, 8, .inl f2_42))], [(tp, .inl (T.2 1, 600, .inl f))]] _ _ := G
  refine lv_aload_n hx hb dX7_read_20 rfl (lv_at hl 0 rfl) ?_
  refine lv_iconst (v := 0) hx hb dX7_read_21 (by decide) ?_
  refine z_put C G clX7 0 rfl 3 (by decide) m_fl_RX7_49 rfl rfl rfl (Nat.le_of_ble_eq_true rfl) dX7_read_22 (fun H locs G => ?_)
  have G : zS T A s.heap s [[(h, .inr (7, [.ref l0_1, .ref d0_2, .ref g0_3, .int 0, .int v1_8, .ref tp, .int 0, .int 0, .int v4_11, .int v5_12, .int v6_13, .int 0, .int v7_14]))], [(a1_4, .inl (T.2 1, n1_5, .inl f1_6))], [(l0_1, .inr (4, [.int v0_25, .int v1_26, .ref a1_21, .ref a2_22, .ref a3_23, .ref a4_24]))], [(a1_21, .inl (T.2 0, 7, .inl f1_27))], [(a2_22, .inl (T.2 0, 28, .inl f2_28))], [(a3_23, .inl (T.2 0, 7, .inl f3_29))], [(a4_24, .inl (T.2 0, 7, .inl f4_30))], [(d0_2, .inr (2, [.int v0_34, .ref a1_31, .ref a2_32, .ref a3_33]))], [(a1_31, .inl (T.2 0, 40, .inl f1_35))], [(a2_32, .inl (T.2 0, 40, .inl f2_36))], [(a3_33, .inl (T.2 0, 40, .inl f3_37))], [(g0_3, .inr (5, [.int v0_40, .ref a1_38, .ref a2_39]))], [(a1_38, .inl (T.2 0, 8, .inl f1_41))], [(a2_39, .inl (T.2 0, 8, .inl f2_42))], [(tp, .inl (T.2 1, 600, .inl f))]] _ _ := G
  refine lv_aload_n hx hb dX7_read_25 rfl (lv_at hl 0 rfl) ?_
  refine lv_iconst (v := (-1)) hx hb dX7_read_26 (by decide) ?_
  refine z_put C G clX7 0 rfl 4 (by decide) m_fl_RX7_52 rfl rfl rfl (Nat.le_of_ble_eq_true rfl) dX7_read_27 (fun H locs G => ?_)
  have G : zS T A s.heap s [[(h, .inr (7, [.ref l0_1, .ref d0_2, .ref g0_3, .int 0, .int (-1), .ref tp, .int 0, .int 0, .int v4_11, .int v5_12, .int v6_13, .int 0, .int v7_14]))], [(a1_4, .inl (T.2 1, n1_5, .inl f1_6))], [(l0_1, .inr (4, [.int v0_25, .int v1_26, .ref a1_21, .ref a2_22, .ref a3_23, .ref a4_24]))], [(a1_21, .inl (T.2 0, 7, .inl f1_27))], [(a2_22, .inl (T.2 0, 28, .inl f2_28))], [(a3_23, .inl (T.2 0, 7, .inl f3_29))], [(a4_24, .inl (T.2 0, 7, .inl f4_30))], [(d0_2, .inr (2, [.int v0_34, .ref a1_31, .ref a2_32, .ref a3_33]))], [(a1_31, .inl (T.2 0, 40, .inl f1_35))], [(a2_32, .inl (T.2 0, 40, .inl f2_36))], [(a3_33, .inl (T.2 0, 40, .inl f3_37))], [(g0_3, .inr (5, [.int v0_40, .ref a1_38, .ref a2_39]))], [(a1_38, .inl (T.2 0, 8, .inl f1_41))], [(a2_39, .inl (T.2 0, 8, .inl f2_42))], [(tp, .inl (T.2 1, 600, .inl f))]] _ _ := G
  refine lv_aload_n hx hb dX7_read_30 rfl (lv_at hl 0 rfl) ?_
  refine lv_iconst (v := 0) hx hb dX7_read_31 (by decide) ?_
  refine z_put C G clX7 0 rfl 11 (by decide) m_fl_RX7_55 rfl rfl rfl (Nat.le_of_ble_eq_true rfl) dX7_read_32 (fun H locs G => ?_)
  have G : zS T A s.heap s [[(h, .inr (7, [.ref l0_1, .ref d0_2, .ref g0_3, .int 0, .int (-1), .ref tp, .int 0, .int 0, .int v4_11, .int v5_12, .int v6_13, .int 0, .int v7_14]))], [(a1_4, .inl (T.2 1, n1_5, .inl f1_6))], [(l0_1, .inr (4, [.int v0_25, .int v1_26, .ref a1_21, .ref a2_22, .ref a3_23, .ref a4_24]))], [(a1_21, .inl (T.2 0, 7, .inl f1_27))], [(a2_22, .inl (T.2 0, 28, .inl f2_28))], [(a3_23, .inl (T.2 0, 7, .inl f3_29))], [(a4_24, .inl (T.2 0, 7, .inl f4_30))], [(d0_2, .inr (2, [.int v0_34, .ref a1_31, .ref a2_32, .ref a3_33]))], [(a1_31, .inl (T.2 0, 40, .inl f1_35))], [(a2_32, .inl (T.2 0, 40, .inl f2_36))], [(a3_33, .inl (T.2 0, 40, .inl f3_37))], [(g0_3, .inr (5, [.int v0_40, .ref a1_38, .ref a2_39]))], [(a1_38, .inl (T.2 0, 8, .inl f1_41))], [(a2_39, .inl (T.2 0, 8, .inl f2_42))], [(tp, .inl (T.2 1, 600, .inl f))]] _ _ := G
  refine lv_aload_n hx hb dX7_read_35 rfl (lv_at hl 0 rfl) ?_
  refine lv_iconst (v := 0) hx hb dX7_read_36 (by decide) ?_
  refine z_put C G clX7 0 rfl 12 (by decide) m_fl_RX7_59 rfl rfl rfl (Nat.le_of_ble_eq_true rfl) dX7_read_37 (fun H locs G => ?_)
  have G : zS T A s.heap s [[(h, .inr (7, [.ref l0_1, .ref d0_2, .ref g0_3, .int 0, .int (-1), .ref tp, .int 0, .int 0, .int v4_11, .int v5_12, .int v6_13, .int 0, .int 0]))], [(a1_4, .inl (T.2 1, n1_5, .inl f1_6))], [(l0_1, .inr (4, [.int v0_25, .int v1_26, .ref a1_21, .ref a2_22, .ref a3_23, .ref a4_24]))], [(a1_21, .inl (T.2 0, 7, .inl f1_27))], [(a2_22, .inl (T.2 0, 28, .inl f2_28))], [(a3_23, .inl (T.2 0, 7, .inl f3_29))], [(a4_24, .inl (T.2 0, 7, .inl f4_30))], [(d0_2, .inr (2, [.int v0_34, .ref a1_31, .ref a2_32, .ref a3_33]))], [(a1_31, .inl (T.2 0, 40, .inl f1_35))], [(a2_32, .inl (T.2 0, 40, .inl f2_36))], [(a3_33, .inl (T.2 0, 40, .inl f3_37))], [(g0_3, .inr (5, [.int v0_40, .ref a1_38, .ref a2_39]))], [(a1_38, .inl (T.2 0, 8, .inl f1_41))], [(a2_39, .inl (T.2 0, 8, .inl f2_42))], [(tp, .inl (T.2 1, 600, .inl f))]] _ _ := G
  refine lv_aload_n hx hb dX7_read_40 rfl (lv_at hl 0 rfl) ?_
  refine z_get C G clX7 0 rfl 0 (by decide) m_fl_RX7_12 rfl dX7_read_41 ?_
  refine z_Vv (bc := [[(l0_1, .inr (4, [.int v0_25, .int v1_26, .ref a1_21, .ref a2_22, .ref a3_23, .ref a4_24]))], [(a1_21, .inl (T.2 0, 7, .inl f1_27))], [(a3_23, .inl (T.2 0, 7, .inl f3_29))], [(a4_24, .inl (T.2 0, 7, .inl f4_30))]]) (br := [[(h, .inr (7, [.ref l0_1, .ref d0_2, .ref g0_3, .int 0, .int (-1), .ref tp, .int 0, .int 0, .int v4_11, .int v5_12, .int v6_13, .int 0, .int 0]))], [(a1_4, .inl (T.2 1, n1_5, .inl f1_6))], [(a2_22, .inl (T.2 0, 28, .inl f2_28))], [(d0_2, .inr (2, [.int v0_34, .ref a1_31, .ref a2_32, .ref a3_33]))], [(a1_31, .inl (T.2 0, 40, .inl f1_35))], [(a2_32, .inl (T.2 0, 40, .inl f2_36))], [(a3_33, .inl (T.2 0, 40, .inl f3_37))], [(g0_3, .inr (5, [.int v0_40, .ref a1_38, .ref a2_39]))], [(a1_38, .inl (T.2 0, 8, .inl f1_41))], [(a2_39, .inl (T.2 0, 8, .inl f2_42))], [(tp, .inl (T.2 1, 600, .inl f))]]) (As := []) (rest := []) C G (c_Land_clear l T l0_1 a1_21 a2_22 a3_23 a4_24 v0_25 v1_26 f1_27 f3_29 f4_30) (kV_RX7_62 C.2.2.2.2 (Nat.le_of_ble_eq_true rfl) (Nat.le_of_ble_eq_true rfl)) [2, 3, 5, 6] [0, 1, 4, 7, 8, 9, 10, 11, 12, 13, 14] rfl rfl (ci := 4) (qc := (RX4, TX4, 6)) rfl rfl (List.mem_flatten.mpr ⟨_, List.mem_of_getElem? (i := 0) rfl, List.mem_cons_self⟩) rfl rfl hl.1 dX7_read_44 (Nat.le_of_ble_eq_true rfl) (Nat.le_of_ble_eq_true rfl) (fun b1 H locs hw G => ?_)
  obtain ⟨g1_44, g3_45, g4_46, rfl, h_47, h_48, h_49⟩ := hw
  have G : zS T A s.heap s [[(h, .inr (7, [.ref l0_1, .ref d0_2, .ref g0_3, .int 0, .int (-1), .ref tp, .int 0, .int 0, .int v4_11, .int v5_12, .int v6_13, .int 0, .int 0]))], [(a1_4, .inl (T.2 1, n1_5, .inl f1_6))], [(a2_22, .inl (T.2 0, 28, .inl f2_28))], [(d0_2, .inr (2, [.int v0_34, .ref a1_31, .ref a2_32, .ref a3_33]))], [(a1_31, .inl (T.2 0, 40, .inl f1_35))], [(a2_32, .inl (T.2 0, 40, .inl f2_36))], [(a3_33, .inl (T.2 0, 40, .inl f3_37))], [(g0_3, .inr (5, [.int v0_40, .ref a1_38, .ref a2_39]))], [(a1_38, .inl (T.2 0, 8, .inl f1_41))], [(a2_39, .inl (T.2 0, 8, .inl f2_42))], [(tp, .inl (T.2 1, 600, .inl f))], [(l0_1, .inr (4, [.int 0, .int 0, .ref a1_21, .ref a2_22, .ref a3_23, .ref a4_24]))], [(a1_21, .inl (T.2 0, 7, .inl g1_44))], [(a3_23, .inl (T.2 0, 7, .inl g3_45))], [(a4_24, .inl (T.2 0, 7, .inl g4_46))]] _ _ := G
  refine lv_aload_n hx hb dX7_read_47 rfl (lv_at hl 0 rfl) ?_
  refine z_get C G clX7 0 rfl 1 (by decide) m_fl_RX7_21 rfl dX7_read_48 ?_
  refine lv_iconst (v := 0) hx hb dX7_read_51 (by decide) ?_
  refine z_put C G clX2 3 rfl 0 (by decide) m_fl_RX7_65 rfl rfl rfl (Nat.le_of_ble_eq_true rfl) dX7_read_52 (fun H locs G => ?_)
  have G : zS T A s.heap s [[(h, .inr (7, [.ref l0_1, .ref d0_2, .ref g0_3, .int 0, .int (-1), .ref tp, .int 0, .int 0, .int v4_11, .int v5_12, .int v6_13, .int 0, .int 0]))], [(a1_4, .inl (T.2 1, n1_5, .inl f1_6))], [(a2_22, .inl (T.2 0, 28, .inl f2_28))], [(d0_2, .inr (2, [.int 0, .ref a1_31, .ref a2_32, .ref a3_33]))], [(a1_31, .inl (T.2 0, 40, .inl f1_35))], [(a2_32, .inl (T.2 0, 40, .inl f2_36))], [(a3_33, .inl (T.2 0, 40, .inl f3_37))], [(g0_3, .inr (5, [.int v0_40, .ref a1_38, .ref a2_39]))], [(a1_38, .inl (T.2 0, 8, .inl f1_41))], [(a2_39, .inl (T.2 0, 8, .inl f2_42))], [(tp, .inl (T.2 1, 600, .inl f))], [(l0_1, .inr (4, [.int 0, .int 0, .ref a1_21, .ref a2_22, .ref a3_23, .ref a4_24]))], [(a1_21, .inl (T.2 0, 7, .inl g1_44))], [(a3_23, .inl (T.2 0, 7, .inl g3_45))], [(a4_24, .inl (T.2 0, 7, .inl g4_46))]] _ _ := G
  refine lv_aload_n hx hb dX7_read_55 rfl (lv_at hl 0 rfl) ?_
  refine z_get C G clX7 0 rfl 2 (by decide) m_fl_RX7_28 rfl dX7_read_56 ?_
  refine lv_iconst (v := 0) hx hb dX7_read_59 (by decide) ?_
  refine z_put C G clX5 7 rfl 0 (by decide) m_fl_RX7_68 rfl rfl rfl (Nat.le_of_ble_eq_true rfl) dX7_read_60 (fun H locs G => ?_)
  have G : zS T A s.heap s [[(h, .inr (7, [.ref l0_1, .ref d0_2, .ref g0_3, .int 0, .int (-1), .ref tp, .int 0, .int 0, .int v4_11, .int v5_12, .int v6_13, .int 0, .int 0]))], [(a1_4, .inl (T.2 1, n1_5, .inl f1_6))], [(a2_22, .inl (T.2 0, 28, .inl f2_28))], [(d0_2, .inr (2, [.int 0, .ref a1_31, .ref a2_32, .ref a3_33]))], [(a1_31, .inl (T.2 0, 40, .inl f1_35))], [(a2_32, .inl (T.2 0, 40, .inl f2_36))], [(a3_33, .inl (T.2 0, 40, .inl f3_37))], [(g0_3, .inr (5, [.int 0, .ref a1_38, .ref a2_39]))], [(a1_38, .inl (T.2 0, 8, .inl f1_41))], [(a2_39, .inl (T.2 0, 8, .inl f2_42))], [(tp, .inl (T.2 1, 600, .inl f))], [(l0_1, .inr (4, [.int 0, .int 0, .ref a1_21, .ref a2_22, .ref a3_23, .ref a4_24]))], [(a1_21, .inl (T.2 0, 7, .inl g1_44))], [(a3_23, .inl (T.2 0, 7, .inl g3_45))], [(a4_24, .inl (T.2 0, 7, .inl g4_46))]] _ _ := G
  refine lv_aload_n hx hb dX7_read_63 rfl (lv_at hl 0 rfl) ?_
  refine z_Vv (bc := [[(h, .inr (7, [.ref l0_1, .ref d0_2, .ref g0_3, .int 0, .int (-1), .ref tp, .int 0, .int 0, .int v4_11, .int v5_12, .int v6_13, .int 0, .int 0]))]]) (br := [[(a1_4, .inl (T.2 1, n1_5, .inl f1_6))], [(a2_22, .inl (T.2 0, 28, .inl f2_28))], [(d0_2, .inr (2, [.int 0, .ref a1_31, .ref a2_32, .ref a3_33]))], [(a1_31, .inl (T.2 0, 40, .inl f1_35))], [(a2_32, .inl (T.2 0, 40, .inl f2_36))], [(a3_33, .inl (T.2 0, 40, .inl f3_37))], [(g0_3, .inr (5, [.int 0, .ref a1_38, .ref a2_39]))], [(a1_38, .inl (T.2 0, 8, .inl f1_41))], [(a2_39, .inl (T.2 0, 8, .inl f2_42))], [(tp, .inl (T.2 1, 600, .inl f))], [(l0_1, .inr (4, [.int 0, .int 0, .ref a1_21, .ref a2_22, .ref a3_23, .ref a4_24]))], [(a1_21, .inl (T.2 0, 7, .inl g1_44))], [(a3_23, .inl (T.2 0, 7, .inl g3_45))], [(a4_24, .inl (T.2 0, 7, .inl g4_46))]]) (As := []) (rest := []) C G (c_nextToken0 l T h l0_1 d0_2 g0_3 tp 0 (-1) v4_11 v5_12 v6_13 0) (kV_RX7_71 C.2.2.2.2 (Nat.le_of_ble_eq_true rfl) (Nat.le_of_ble_eq_true rfl)) [0] [1, 2, 3, 4, 5, 6, 7, 8, 9, 10, 11, 12, 13, 14] rfl rfl (ci := 7) (qc := (RX7, TX7, 13)) rfl rfl (List.mem_flatten.mpr ⟨_, List.mem_of_getElem? (i := 0) rfl, List.mem_cons_self⟩) rfl rfl hl.1 dX7_read_64 (Nat.le_of_ble_eq_true rfl) (Nat.le_of_ble_eq_true rfl) (fun b1 H locs hw G => ?_)
  obtain rfl := hw
  have G : zS T A s.heap s [[(a1_4, .inl (T.2 1, n1_5, .inl f1_6))], [(a2_22, .inl (T.2 0, 28, .inl f2_28))], [(d0_2, .inr (2, [.int 0, .ref a1_31, .ref a2_32, .ref a3_33]))], [(a1_31, .inl (T.2 0, 40, .inl f1_35))], [(a2_32, .inl (T.2 0, 40, .inl f2_36))], [(a3_33, .inl (T.2 0, 40, .inl f3_37))], [(g0_3, .inr (5, [.int 0, .ref a1_38, .ref a2_39]))], [(a1_38, .inl (T.2 0, 8, .inl f1_41))], [(a2_39, .inl (T.2 0, 8, .inl f2_42))], [(tp, .inl (T.2 1, 600, .inl f))], [(l0_1, .inr (4, [.int 0, .int 0, .ref a1_21, .ref a2_22, .ref a3_23, .ref a4_24]))], [(a1_21, .inl (T.2 0, 7, .inl g1_44))], [(a3_23, .inl (T.2 0, 7, .inl g3_45))], [(a4_24, .inl (T.2 0, 7, .inl g4_46))], [(h, .inr (7, [.ref l0_1, .ref d0_2, .ref g0_3, .int 0, .int (-1), .ref tp, .int 0, .int 0, .int 0, .int 0, .int v6_13, .int 0, .int 0]))]] _ _ := G
  refine lv_iconst (v := 0) hx hb dX7_read_67 (by decide) ?_
  refine lv_istore (lv' := [(4, .int 0), (0, .ref h), (1, .ref tp), (2, .int 0), (3, .int so)]) hx hb dX7_read_68 hl (by decide) rfl (fun ls hl => ?_)
  refine lv_iload hx hb dX7_read_70 (lv_at hl 0 rfl) ?_
  refine lv_sipush (v := 600) hx hb dX7_read_72 (by decide) ?_
  refine lv_icmp_gt (tgt := 103) hx hb dX7_read_75 (by decide) (fun q => absurd q (by decide)) (fun _ => ?_)
  refine lv_aload_n hx hb dX7_read_78 rfl (lv_at hl 1 rfl) ?_
  refine z_get C G clX7 14 rfl 11 (by decide) m_fl_RX7_55 rfl dX7_read_79 ?_
  refine lv_if_ne (tgt := 103) hx hb dX7_read_82 (by decide) (fun q => absurd (by decide) q) (fun _ => ?_)
  refine lv_aload_n hx hb dX7_read_85 rfl (lv_at hl 1 rfl) ?_
  refine z_get C G clX7 14 rfl 8 (by decide) m_fl_RX7_74 rfl dX7_read_86 ?_
  refine lv_if_eq (tgt := 103) hx hb dX7_read_89 (by decide) (fun _ => ?_) (fun q => absurd (by decide) q)
  refine lv_iload_n hx hb dX7_read_103 rfl (lv_at hl 4 rfl) ?_
  refine lv_if_ne (tgt := 111) hx hb dX7_read_104 (by decide) (fun c_52 => ?_) (fun c_52 => ?_)
  · have c_52n : ¬ so.toInt = (0 : Int) := fun q => c_52 ((fa_eq _ _).mpr q)
    have G := G.sub (bs' := [[(a1_4, .inl (T.2 1, n1_5, .inl f1_6))], [(d0_2, .inr (2, [.int 0, .ref a1_31, .ref a2_32, .ref a3_33]))], [(a1_31, .inl (T.2 0, 40, .inl f1_35))], [(a2_32, .inl (T.2 0, 40, .inl f2_36))], [(a3_33, .inl (T.2 0, 40, .inl f3_37))], [(g0_3, .inr (5, [.int 0, .ref a1_38, .ref a2_39]))], [(a1_38, .inl (T.2 0, 8, .inl f1_41))], [(a2_39, .inl (T.2 0, 8, .inl f2_42))], [(tp, .inl (T.2 1, 600, .inl f))], [(h, .inr (7, [.ref l0_1, .ref d0_2, .ref g0_3, .int 0, .int (-1), .ref tp, .int 0, .int 0, .int 0, .int 0, .int v6_13, .int 0, .int 0]))], [(l0_1, .inr (4, [.int 0, .int 0, .ref a1_21, .ref a2_22, .ref a3_23, .ref a4_24]))], [(a1_21, .inl (T.2 0, 7, .inl g1_44))], [(a2_22, .inl (T.2 0, 28, .inl f2_28))], [(a3_23, .inl (T.2 0, 7, .inl g3_45))], [(a4_24, .inl (T.2 0, 7, .inl g4_46))]]) [0, 2, 3, 4, 5, 6, 7, 8, 9, 14, 10, 11, 1, 12, 13] rfl
    obtain ⟨w_53, hw_54, G⟩ : ∃ w : va_W, bLand T l0_1 w ∧ zS T A s.heap s [[(a1_4, .inl (T.2 1, n1_5, .inl f1_6))], [(d0_2, .inr (2, [.int 0, .ref a1_31, .ref a2_32, .ref a3_33]))], [(a1_31, .inl (T.2 0, 40, .inl f1_35))], [(a2_32, .inl (T.2 0, 40, .inl f2_36))], [(a3_33, .inl (T.2 0, 40, .inl f3_37))], [(g0_3, .inr (5, [.int 0, .ref a1_38, .ref a2_39]))], [(a1_38, .inl (T.2 0, 8, .inl f1_41))], [(a2_39, .inl (T.2 0, 8, .inl f2_42))], [(tp, .inl (T.2 1, 600, .inl f))], [(h, .inr (7, [.ref l0_1, .ref d0_2, .ref g0_3, .int 0, .int (-1), .ref tp, .int 0, .int 0, .int 0, .int 0, .int v6_13, .int 0, .int 0]))], w] _ _ := ⟨[(l0_1, .inr (4, [.int 0, .int 0, .ref a1_21, .ref a2_22, .ref a3_23, .ref a4_24])), (a1_21, .inl (T.2 0, 7, .inl g1_44)), (a2_22, .inl (T.2 0, 28, .inl f2_28)), (a3_23, .inl (T.2 0, 7, .inl g3_45)), (a4_24, .inl (T.2 0, 7, .inl g4_46))], ⟨a1_21, a2_22, a3_23, a4_24, 0, 0, g1_44, f2_28, g3_45, g4_46, rfl⟩, G.re rfl⟩
    have G := G.sub (bs' := [[(a1_4, .inl (T.2 1, n1_5, .inl f1_6))], [(g0_3, .inr (5, [.int 0, .ref a1_38, .ref a2_39]))], [(a1_38, .inl (T.2 0, 8, .inl f1_41))], [(a2_39, .inl (T.2 0, 8, .inl f2_42))], [(tp, .inl (T.2 1, 600, .inl f))], [(h, .inr (7, [.ref l0_1, .ref d0_2, .ref g0_3, .int 0, .int (-1), .ref tp, .int 0, .int 0, .int 0, .int 0, .int v6_13, .int 0, .int 0]))], w_53, [(d0_2, .inr (2, [.int 0, .ref a1_31, .ref a2_32, .ref a3_33]))], [(a1_31, .inl (T.2 0, 40, .inl f1_35))], [(a2_32, .inl (T.2 0, 40, .inl f2_36))], [(a3_33, .inl (T.2 0, 40, .inl f3_37))]]) [0, 5, 6, 7, 8, 9, 10, 1, 2, 3, 4] rfl
    obtain ⟨w_55, hw_56, G⟩ : ∃ w : va_W, bDay T d0_2 w ∧ zS T A s.heap s [[(a1_4, .inl (T.2 1, n1_5, .inl f1_6))], [(g0_3, .inr (5, [.int 0, .ref a1_38, .ref a2_39]))], [(a1_38, .inl (T.2 0, 8, .inl f1_41))], [(a2_39, .inl (T.2 0, 8, .inl f2_42))], [(tp, .inl (T.2 1, 600, .inl f))], [(h, .inr (7, [.ref l0_1, .ref d0_2, .ref g0_3, .int 0, .int (-1), .ref tp, .int 0, .int 0, .int 0, .int 0, .int v6_13, .int 0, .int 0]))], w_53, w] _ _ := ⟨[(d0_2, .inr (2, [.int 0, .ref a1_31, .ref a2_32, .ref a3_33])), (a1_31, .inl (T.2 0, 40, .inl f1_35)), (a2_32, .inl (T.2 0, 40, .inl f2_36)), (a3_33, .inl (T.2 0, 40, .inl f3_37))], ⟨a1_31, a2_32, a3_33, 0, f1_35, f2_36, f3_37, rfl⟩, G.re rfl⟩
    have G := G.sub (bs' := [[(a1_4, .inl (T.2 1, n1_5, .inl f1_6))], [(tp, .inl (T.2 1, 600, .inl f))], [(h, .inr (7, [.ref l0_1, .ref d0_2, .ref g0_3, .int 0, .int (-1), .ref tp, .int 0, .int 0, .int 0, .int 0, .int v6_13, .int 0, .int 0]))], w_53, w_55, [(g0_3, .inr (5, [.int 0, .ref a1_38, .ref a2_39]))], [(a1_38, .inl (T.2 0, 8, .inl f1_41))], [(a2_39, .inl (T.2 0, 8, .inl f2_42))]]) [0, 4, 5, 6, 7, 1, 2, 3] rfl
    obtain ⟨w_57, hw_58, G⟩ : ∃ w : va_W, bLog T g0_3 w ∧ zS T A s.heap s [[(a1_4, .inl (T.2 1, n1_5, .inl f1_6))], [(tp, .inl (T.2 1, 600, .inl f))], [(h, .inr (7, [.ref l0_1, .ref d0_2, .ref g0_3, .int 0, .int (-1), .ref tp, .int 0, .int 0, .int 0, .int 0, .int v6_13, .int 0, .int 0]))], w_53, w_55, w] _ _ := ⟨[(g0_3, .inr (5, [.int 0, .ref a1_38, .ref a2_39])), (a1_38, .inl (T.2 0, 8, .inl f1_41)), (a2_39, .inl (T.2 0, 8, .inl f2_42))], ⟨a1_38, a2_39, 0, f1_41, f2_42, rfl⟩, G.re rfl⟩
    have G := G.sub (bs' := [[(h, .inr (7, [.ref l0_1, .ref d0_2, .ref g0_3, .int 0, .int (-1), .ref tp, .int 0, .int 0, .int 0, .int 0, .int v6_13, .int 0, .int 0]))], w_53, w_55, w_57, [(tp, .inl (T.2 1, 600, .inl f))]]) [2, 3, 4, 5, 1] rfl
    exact z_vret C hr hlocks G (Nat.le_of_ble_eq_true rfl) (Nat.le_of_ble_eq_true rfl) dX7_read_111 ⟨l0_1, d0_2, g0_3, v6_13, w_53, w_55, w_57, rfl, hw_54, hw_56, hw_58⟩
  · have c_52n : so.toInt = (0 : Int) := (fa_eq _ _).mp c_52
    refine lv_aload_n hx hb dX7_read_107 rfl (lv_at hl 1 rfl) ?_
    refine z_Vv (bc := [[(h, .inr (7, [.ref l0_1, .ref d0_2, .ref g0_3, .int 0, .int (-1), .ref tp, .int 0, .int 0, .int 0, .int 0, .int v6_13, .int 0, .int 0]))], [(l0_1, .inr (4, [.int 0, .int 0, .ref a1_21, .ref a2_22, .ref a3_23, .ref a4_24]))], [(a1_21, .inl (T.2 0, 7, .inl g1_44))], [(a3_23, .inl (T.2 0, 7, .inl g3_45))]]) (br := [[(a1_4, .inl (T.2 1, n1_5, .inl f1_6))], [(a2_22, .inl (T.2 0, 28, .inl f2_28))], [(d0_2, .inr (2, [.int 0, .ref a1_31, .ref a2_32, .ref a3_33]))], [(a1_31, .inl (T.2 0, 40, .inl f1_35))], [(a2_32, .inl (T.2 0, 40, .inl f2_36))], [(a3_33, .inl (T.2 0, 40, .inl f3_37))], [(g0_3, .inr (5, [.int 0, .ref a1_38, .ref a2_39]))], [(a1_38, .inl (T.2 0, 8, .inl f1_41))], [(a2_39, .inl (T.2 0, 8, .inl f2_42))], [(tp, .inl (T.2 1, 600, .inl f))], [(a4_24, .inl (T.2 0, 7, .inl g4_46))]]) (As := []) (rest := []) C G (c_lookAtWhole0 l T h l0_1 d0_2 g0_3 tp 0 (-1) 0 0 0 0 v6_13 a1_21 a2_22 a3_23 a4_24 0 g1_44 g3_45 (by first | assumption | omega | rfl)) (kV_RX7_81 C.2.2.2.2 (Nat.le_of_ble_eq_true rfl) (Nat.le_of_ble_eq_true rfl)) [14, 10, 11, 12] [0, 1, 2, 3, 4, 5, 6, 7, 8, 9, 13] rfl rfl (ci := 7) (qc := (RX7, TX7, 13)) rfl rfl (List.mem_flatten.mpr ⟨_, List.mem_of_getElem? (i := 0) rfl, List.mem_cons_self⟩) rfl rfl hl.1 dX7_read_108 (Nat.le_of_ble_eq_true rfl) (Nat.le_of_ble_eq_true rfl) (fun b1 H locs hw G => ?_)
    obtain rfl := hw
    have G : zS T A s.heap s [[(a1_4, .inl (T.2 1, n1_5, .inl f1_6))], [(a2_22, .inl (T.2 0, 28, .inl f2_28))], [(d0_2, .inr (2, [.int 0, .ref a1_31, .ref a2_32, .ref a3_33]))], [(a1_31, .inl (T.2 0, 40, .inl f1_35))], [(a2_32, .inl (T.2 0, 40, .inl f2_36))], [(a3_33, .inl (T.2 0, 40, .inl f3_37))], [(g0_3, .inr (5, [.int 0, .ref a1_38, .ref a2_39]))], [(a1_38, .inl (T.2 0, 8, .inl f1_41))], [(a2_39, .inl (T.2 0, 8, .inl f2_42))], [(tp, .inl (T.2 1, 600, .inl f))], [(a4_24, .inl (T.2 0, 7, .inl g4_46))], [(h, .inr (7, [.ref l0_1, .ref d0_2, .ref g0_3, .int 0, .int (-1), .ref tp, .int 0, .int 0, .int 0, .int 0, .int v6_13, .int 0, .int 0]))], [(l0_1, .inr (4, [.int 0, .int 0, .ref a1_21, .ref a2_22, .ref a3_23, .ref a4_24]))], [(a1_21, .inl (T.2 0, 7, .inl g1_44))], [(a3_23, .inl (T.2 0, 7, .inl g3_45))]] _ _ := G
    have G := G.sub (bs' := [[(a1_4, .inl (T.2 1, n1_5, .inl f1_6))], [(d0_2, .inr (2, [.int 0, .ref a1_31, .ref a2_32, .ref a3_33]))], [(a1_31, .inl (T.2 0, 40, .inl f1_35))], [(a2_32, .inl (T.2 0, 40, .inl f2_36))], [(a3_33, .inl (T.2 0, 40, .inl f3_37))], [(g0_3, .inr (5, [.int 0, .ref a1_38, .ref a2_39]))], [(a1_38, .inl (T.2 0, 8, .inl f1_41))], [(a2_39, .inl (T.2 0, 8, .inl f2_42))], [(tp, .inl (T.2 1, 600, .inl f))], [(h, .inr (7, [.ref l0_1, .ref d0_2, .ref g0_3, .int 0, .int (-1), .ref tp, .int 0, .int 0, .int 0, .int 0, .int v6_13, .int 0, .int 0]))], [(l0_1, .inr (4, [.int 0, .int 0, .ref a1_21, .ref a2_22, .ref a3_23, .ref a4_24]))], [(a1_21, .inl (T.2 0, 7, .inl g1_44))], [(a2_22, .inl (T.2 0, 28, .inl f2_28))], [(a3_23, .inl (T.2 0, 7, .inl g3_45))], [(a4_24, .inl (T.2 0, 7, .inl g4_46))]]) [0, 2, 3, 4, 5, 6, 7, 8, 9, 11, 12, 13, 1, 14, 10] rfl
    obtain ⟨w_60, hw_61, G⟩ : ∃ w : va_W, bLand T l0_1 w ∧ zS T A s.heap s [[(a1_4, .inl (T.2 1, n1_5, .inl f1_6))], [(d0_2, .inr (2, [.int 0, .ref a1_31, .ref a2_32, .ref a3_33]))], [(a1_31, .inl (T.2 0, 40, .inl f1_35))], [(a2_32, .inl (T.2 0, 40, .inl f2_36))], [(a3_33, .inl (T.2 0, 40, .inl f3_37))], [(g0_3, .inr (5, [.int 0, .ref a1_38, .ref a2_39]))], [(a1_38, .inl (T.2 0, 8, .inl f1_41))], [(a2_39, .inl (T.2 0, 8, .inl f2_42))], [(tp, .inl (T.2 1, 600, .inl f))], [(h, .inr (7, [.ref l0_1, .ref d0_2, .ref g0_3, .int 0, .int (-1), .ref tp, .int 0, .int 0, .int 0, .int 0, .int v6_13, .int 0, .int 0]))], w] _ _ := ⟨[(l0_1, .inr (4, [.int 0, .int 0, .ref a1_21, .ref a2_22, .ref a3_23, .ref a4_24])), (a1_21, .inl (T.2 0, 7, .inl g1_44)), (a2_22, .inl (T.2 0, 28, .inl f2_28)), (a3_23, .inl (T.2 0, 7, .inl g3_45)), (a4_24, .inl (T.2 0, 7, .inl g4_46))], ⟨a1_21, a2_22, a3_23, a4_24, 0, 0, g1_44, f2_28, g3_45, g4_46, rfl⟩, G.re rfl⟩
    have G := G.sub (bs' := [[(a1_4, .inl (T.2 1, n1_5, .inl f1_6))], [(g0_3, .inr (5, [.int 0, .ref a1_38, .ref a2_39]))], [(a1_38, .inl (T.2 0, 8, .inl f1_41))], [(a2_39, .inl (T.2 0, 8, .inl f2_42))], [(tp, .inl (T.2 1, 600, .inl f))], [(h, .inr (7, [.ref l0_1, .ref d0_2, .ref g0_3, .int 0, .int (-1), .ref tp, .int 0, .int 0, .int 0, .int 0, .int v6_13, .int 0, .int 0]))], w_60, [(d0_2, .inr (2, [.int 0, .ref a1_31, .ref a2_32, .ref a3_33]))], [(a1_31, .inl (T.2 0, 40, .inl f1_35))], [(a2_32, .inl (T.2 0, 40, .inl f2_36))], [(a3_33, .inl (T.2 0, 40, .inl f3_37))]]) [0, 5, 6, 7, 8, 9, 10, 1, 2, 3, 4] rfl
    obtain ⟨w_62, hw_63, G⟩ : ∃ w : va_W, bDay T d0_2 w ∧ zS T A s.heap s [[(a1_4, .inl (T.2 1, n1_5, .inl f1_6))], [(g0_3, .inr (5, [.int 0, .ref a1_38, .ref a2_39]))], [(a1_38, .inl (T.2 0, 8, .inl f1_41))], [(a2_39, .inl (T.2 0, 8, .inl f2_42))], [(tp, .inl (T.2 1, 600, .inl f))], [(h, .inr (7, [.ref l0_1, .ref d0_2, .ref g0_3, .int 0, .int (-1), .ref tp, .int 0, .int 0, .int 0, .int 0, .int v6_13, .int 0, .int 0]))], w_60, w] _ _ := ⟨[(d0_2, .inr (2, [.int 0, .ref a1_31, .ref a2_32, .ref a3_33])), (a1_31, .inl (T.2 0, 40, .inl f1_35)), (a2_32, .inl (T.2 0, 40, .inl f2_36)), (a3_33, .inl (T.2 0, 40, .inl f3_37))], ⟨a1_31, a2_32, a3_33, 0, f1_35, f2_36, f3_37, rfl⟩, G.re rfl⟩
    have G := G.sub (bs' := [[(a1_4, .inl (T.2 1, n1_5, .inl f1_6))], [(tp, .inl (T.2 1, 600, .inl f))], [(h, .inr (7, [.ref l0_1, .ref d0_2, .ref g0_3, .int 0, .int (-1), .ref tp, .int 0, .int 0, .int 0, .int 0, .int v6_13, .int 0, .int 0]))], w_60, w_62, [(g0_3, .inr (5, [.int 0, .ref a1_38, .ref a2_39]))], [(a1_38, .inl (T.2 0, 8, .inl f1_41))], [(a2_39, .inl (T.2 0, 8, .inl f2_42))]]) [0, 4, 5, 6, 7, 1, 2, 3] rfl
    obtain ⟨w_64, hw_65, G⟩ : ∃ w : va_W, bLog T g0_3 w ∧ zS T A s.heap s [[(a1_4, .inl (T.2 1, n1_5, .inl f1_6))], [(tp, .inl (T.2 1, 600, .inl f))], [(h, .inr (7, [.ref l0_1, .ref d0_2, .ref g0_3, .int 0, .int (-1), .ref tp, .int 0, .int 0, .int 0, .int 0, .int v6_13, .int 0, .int 0]))], w_60, w_62, w] _ _ := ⟨[(g0_3, .inr (5, [.int 0, .ref a1_38, .ref a2_39])), (a1_38, .inl (T.2 0, 8, .inl f1_41)), (a2_39, .inl (T.2 0, 8, .inl f2_42))], ⟨a1_38, a2_39, 0, f1_41, f2_42, rfl⟩, G.re rfl⟩
    have G := G.sub (bs' := [[(h, .inr (7, [.ref l0_1, .ref d0_2, .ref g0_3, .int 0, .int (-1), .ref tp, .int 0, .int 0, .int 0, .int 0, .int v6_13, .int 0, .int 0]))], w_60, w_62, w_64, [(tp, .inl (T.2 1, 600, .inl f))]]) [2, 3, 4, 5, 1] rfl
    exact z_vret C hr hlocks G (Nat.le_of_ble_eq_true rfl) (Nat.le_of_ble_eq_true rfl) dX7_read_111 ⟨l0_1, d0_2, g0_3, v6_13, w_60, w_62, w_64, rfl, hw_61, hw_63, hw_65⟩
end
section
theorem m_fl_RX9_47 : Cond.fieldLink RX9 47 (TX7 0).1 (TX7 0).2.1 (TX7 0).2.2.1 ∈ zT := zmem1 zsub_1 172 (by decide +kernel) (by decide +kernel)
theorem m_co_math_max : Cond.code Lib.Math.max.name Lib.Math.max.code 2 (some .int) ∈ zT := zmem1 zsub_3 164 (by decide +kernel) (by decide +kernel)
theorem m_ml_RX9_71 : Cond.methodLink RX9 71 Lib.Math.max.name ∈ zT := zmem1 zsub_3 162 (by decide +kernel) (by decide +kernel)
theorem m_st_math_max : Cond.static Lib.Math.max.name ∈ zT := zmem1 zsub_3 163 (by decide +kernel) (by decide +kernel)
theorem m_fl_RX9_57 : Cond.fieldLink RX9 57 (TX7 1).1 (TX7 1).2.1 (TX7 1).2.2.1 ∈ zT := zmem1 zsub_1 174 (by decide +kernel) (by decide +kernel)
theorem m_fl_RX9_64 : Cond.fieldLink RX9 64 (TX7 2).1 (TX7 2).2.1 (TX7 2).2.2.1 ∈ zT := zmem1 zsub_1 176 (by decide +kernel) (by decide +kernel)
theorem m_fl_RX11_65 : Cond.fieldLink RX11 65 (TX11 9).1 (TX11 9).2.1 (TX11 9).2.2.1 ∈ zT := zmem1 zsub_2 185 (by decide +kernel) (by decide +kernel)
theorem m_fl_RX11_109 : Cond.fieldLink RX11 109 (TX3 0).1 (TX3 0).2.1 (TX3 0).2.2.1 ∈ zT := zmem1 zsub_2 146 (by decide +kernel) (by decide +kernel)
theorem m_fl_RX11_55 : Cond.fieldLink RX11 55 (TX11 7).1 (TX11 7).2.1 (TX11 7).2.2.1 ∈ zT := zmem1 zsub_2 183 (by decide +kernel) (by decide +kernel)
theorem m_fl_RX11_113 : Cond.fieldLink RX11 113 (TX0 0).1 (TX0 0).2.1 (TX0 0).2.2.1 ∈ zT := zmem1 zsub_2 106 (by decide +kernel) (by decide +kernel)
theorem m_fl_RX11_59 : Cond.fieldLink RX11 59 (TX11 8).1 (TX11 8).2.1 (TX11 8).2.2.1 ∈ zT := zmem1 zsub_2 184 (by decide +kernel) (by decide +kernel)
theorem m_fl_RX11_10 : Cond.fieldLink RX11 10 (TX11 0).1 (TX11 0).2.1 (TX11 0).2.2.1 ∈ zT := zmem1 zsub_2 176 (by decide +kernel) (by decide +kernel)
theorem m_co_X9_placeFor : Cond.code yX9_placeFor cX9_placeFor 3 (some .int) ∈ zT := zmem1 zsub_2 229 (by decide +kernel) (by decide +kernel)
theorem m_ml_RX11_81 : Cond.methodLink RX11 81 yX9_placeFor ∈ zT := zmem1 zsub_2 226 (by decide +kernel) (by decide +kernel)
theorem m_im_X9_placeFor : Cond.instanceMethod yX9_placeFor ∈ zT := zmem1 zsub_2 227 (by decide +kernel) (by decide +kernel)
theorem m_se_X9_placeFor : Cond.selects RX9 yX9_placeFor yX9_placeFor ∈ zT := zmem1 zsub_2 228 (by decide +kernel) (by decide +kernel)
theorem m_ii_RX9 : Cond.initialized RX9 ∈ zT := zmem1 zsub_1 2 (by decide +kernel) (by decide +kernel)
theorem m_fl_RX11_73 : Cond.fieldLink RX11 73 (TX9 1).1 (TX9 1).2.1 (TX9 1).2.2.1 ∈ zT := zmem1 zsub_1 130 (by decide +kernel) (by decide +kernel)
theorem m_fl_RX11_85 : Cond.fieldLink RX11 85 (TX9 2).1 (TX9 2).2.1 (TX9 2).2.2.1 ∈ zT := zmem1 zsub_1 132 (by decide +kernel) (by decide +kernel)
theorem m_fl_RX11_88 : Cond.fieldLink RX11 88 (TX9 3).1 (TX9 3).2.1 (TX9 3).2.2.1 ∈ zT := zmem1 zsub_1 135 (by decide +kernel) (by decide +kernel)
theorem m_fl_RX11_27 : Cond.fieldLink RX11 27 (TX11 3).1 (TX11 3).2.1 (TX11 3).2.2.1 ∈ zT := zmem1 zsub_2 179 (by decide +kernel) (by decide +kernel)
theorem m_fl_RX11_91 : Cond.fieldLink RX11 91 (TX9 0).1 (TX9 0).2.1 (TX9 0).2.2.1 ∈ zT := zmem1 zsub_1 129 (by decide +kernel) (by decide +kernel)
theorem m_co_X7_read : Cond.code yX7_read cX7_read 5 none ∈ zT := zmem1 zsub_2 233 (by decide +kernel) (by decide +kernel)
theorem m_ml_RX11_95 : Cond.methodLink RX11 95 yX7_read ∈ zT := zmem1 zsub_2 230 (by decide +kernel) (by decide +kernel)
theorem m_im_X7_read : Cond.instanceMethod yX7_read ∈ zT := zmem1 zsub_2 231 (by decide +kernel) (by decide +kernel)
theorem m_se_X7_read : Cond.selects RX7 yX7_read yX7_read ∈ zT := zmem1 zsub_2 232 (by decide +kernel) (by decide +kernel)
theorem m_fl_RX11_99 : Cond.fieldLink RX11 99 (TX7 3).1 (TX7 3).2.1 (TX7 3).2.2.1 ∈ zT := zmem1 zsub_1 178 (by decide +kernel) (by decide +kernel)
theorem m_fl_RX11_100 : Cond.fieldLink RX11 100 (TX7 4).1 (TX7 4).2.1 (TX7 4).2.2.1 ∈ zT := zmem1 zsub_1 180 (by decide +kernel) (by decide +kernel)
theorem m_co_X9_keep : Cond.code yX9_keep cX9_keep 4 none ∈ zT := zmem1 zsub_3 149 (by decide +kernel) (by decide +kernel)
theorem m_ml_RX11_101 : Cond.methodLink RX11 101 yX9_keep ∈ zT := zmem1 zsub_3 146 (by decide +kernel) (by decide +kernel)
theorem m_im_X9_keep : Cond.instanceMethod yX9_keep ∈ zT := zmem1 zsub_3 147 (by decide +kernel) (by decide +kernel)
theorem m_se_X9_keep : Cond.selects RX9 yX9_keep yX9_keep ∈ zT := zmem1 zsub_3 148 (by decide +kernel) (by decide +kernel)
theorem m_co_X11_forgetWhatFollows : Cond.code yX11_forgetWhatFollows cX11_forgetWhatFollows 2 none ∈ zT := zmem1 zsub_3 168 (by decide +kernel) (by decide +kernel)
theorem m_ml_RX11_105 : Cond.methodLink RX11 105 yX11_forgetWhatFollows ∈ zT := zmem1 zsub_3 165 (by decide +kernel) (by decide +kernel)
theorem m_im_X11_forgetWhatFollows : Cond.instanceMethod yX11_forgetWhatFollows ∈ zT := zmem1 zsub_3 167 (by decide +kernel) (by decide +kernel)
theorem m_se_X11_forgetWhatFollows : Cond.selects RX11 yX11_forgetWhatFollows yX11_forgetWhatFollows ∈ zT := zmem 15 (by decide +kernel) (by decide +kernel)
theorem m_ii_RX11 : Cond.initialized RX11 ∈ zT := zmem1 zsub_1 1 (by decide +kernel) (by decide +kernel)
theorem m_co_X9_append : Cond.code yX9_append cX9_append 3 none ∈ zT := zmem1 zsub_2 217 (by decide +kernel) (by decide +kernel)
theorem m_ml_RX11_77 : Cond.methodLink RX11 77 yX9_append ∈ zT := zmem1 zsub_2 214 (by decide +kernel) (by decide +kernel)
theorem m_im_X9_append : Cond.instanceMethod yX9_append ∈ zT := zmem1 zsub_2 215 (by decide +kernel) (by decide +kernel)
theorem m_se_X9_append : Cond.selects RX9 yX9_append yX9_append ∈ zT := zmem1 zsub_2 216 (by decide +kernel) (by decide +kernel)
theorem m_fl_RX11_114 : Cond.fieldLink RX11 114 (TX9 4).1 (TX9 4).2.1 (TX9 4).2.2.1 ∈ zT := zmem1 zsub_1 137 (by decide +kernel) (by decide +kernel)
theorem m_fl_RX11_16 : Cond.fieldLink RX11 16 (TX11 1).1 (TX11 1).2.1 (TX11 1).2.2.1 ∈ zT := zmem1 zsub_2 177 (by decide +kernel) (by decide +kernel)
theorem m_co_X9_takeAll : Cond.code yX9_takeAll cX9_takeAll 3 none ∈ zT := zmem1 zsub_3 184 (by decide +kernel) (by decide +kernel)
theorem m_ml_RX11_117 : Cond.methodLink RX11 117 yX9_takeAll ∈ zT := zmem1 zsub_3 181 (by decide +kernel) (by decide +kernel)
theorem m_im_X9_takeAll : Cond.instanceMethod yX9_takeAll ∈ zT := zmem1 zsub_3 182 (by decide +kernel) (by decide +kernel)
theorem m_se_X9_takeAll : Cond.selects RX9 yX9_takeAll yX9_takeAll ∈ zT := zmem1 zsub_3 183 (by decide +kernel) (by decide +kernel)
theorem m_fl_RX11_20 : Cond.fieldLink RX11 20 (TX11 2).1 (TX11 2).2.1 (TX11 2).2.2.1 ∈ zT := zmem1 zsub_2 178 (by decide +kernel) (by decide +kernel)
theorem m_co_X9_landAt : Cond.code yX9_landAt cX9_landAt 2 (some (.object "TurnedPosts$Land")) ∈ zT := zmem1 zsub_3 196 (by decide +kernel) (by decide +kernel)
theorem m_ml_RX11_121 : Cond.methodLink RX11 121 yX9_landAt ∈ zT := zmem1 zsub_3 193 (by decide +kernel) (by decide +kernel)
theorem m_im_X9_landAt : Cond.instanceMethod yX9_landAt ∈ zT := zmem1 zsub_3 194 (by decide +kernel) (by decide +kernel)
theorem m_se_X9_landAt : Cond.selects RX9 yX9_landAt yX9_landAt ∈ zT := zmem1 zsub_3 195 (by decide +kernel) (by decide +kernel)
theorem m_co_X9_logAt : Cond.code yX9_logAt cX9_logAt 2 (some (.object "TurnedPosts$Log")) ∈ zT := zmem1 zsub_3 228 (by decide +kernel) (by decide +kernel)
theorem m_ml_RX11_138 : Cond.methodLink RX11 138 yX9_logAt ∈ zT := zmem1 zsub_3 225 (by decide +kernel) (by decide +kernel)
theorem m_im_X9_logAt : Cond.instanceMethod yX9_logAt ∈ zT := zmem1 zsub_3 226 (by decide +kernel) (by decide +kernel)
theorem m_se_X9_logAt : Cond.selects RX9 yX9_logAt yX9_logAt ∈ zT := zmem1 zsub_3 227 (by decide +kernel) (by decide +kernel)
theorem m_co_X9_dayAt : Cond.code yX9_dayAt cX9_dayAt 2 (some (.object "TurnedPosts$Day")) ∈ zT := zmem1 zsub_3 216 (by decide +kernel) (by decide +kernel)
theorem m_ml_RX11_130 : Cond.methodLink RX11 130 yX9_dayAt ∈ zT := zmem1 zsub_3 213 (by decide +kernel) (by decide +kernel)
theorem m_im_X9_dayAt : Cond.instanceMethod yX9_dayAt ∈ zT := zmem1 zsub_3 214 (by decide +kernel) (by decide +kernel)
theorem m_se_X9_dayAt : Cond.selects RX9 yX9_dayAt yX9_dayAt ∈ zT := zmem1 zsub_3 215 (by decide +kernel) (by decide +kernel)
theorem m_co_X11_fit : Cond.code yX11_fit cX11_fit 5 (some .boolean) ∈ zT := zmem1 zsub_5 113 (by decide +kernel) (by decide +kernel)
theorem m_ml_RX11_302 : Cond.methodLink RX11 302 yX11_fit ∈ zT := zmem1 zsub_5 110 (by decide +kernel) (by decide +kernel)
theorem m_im_X11_fit : Cond.instanceMethod yX11_fit ∈ zT := zmem1 zsub_5 112 (by decide +kernel) (by decide +kernel)
theorem m_se_X11_fit : Cond.selects RX11 yX11_fit yX11_fit ∈ zT := zmem 41 (by decide +kernel) (by decide +kernel)
theorem kV_RX11_81 {R : Room} {s : State} {args : Array Value} {d mc ms : Nat} (hts : ∀ w ∈ zT, w.before args s = true) (h1 : d + 1 ≤ R.frames) (h2 : 8 + (3 + 11) + 40 * d ≤ R.locals) : CallW R s args RX11 RX9 81 yX9_placeFor cX9_placeFor 3 (some .int) (zW yX9_placeFor cX9_placeFor 3 (some .int)) (zR d mc ms) mc ms 2 := z_cwV hts m_co_X9_placeFor m_ml_RX11_81 m_im_X9_placeFor m_se_X9_placeFor m_ii_RX9 (by decide +kernel) h1 h2
theorem kV_RX11_95 {R : Room} {s : State} {args : Array Value} {d mc ms : Nat} (hts : ∀ w ∈ zT, w.before args s = true) (h1 : d + 1 ≤ R.frames) (h2 : 8 + (5 + 11) + 40 * d ≤ R.locals) : CallW R s args RX11 RX7 95 yX7_read cX7_read 5 none (zW yX7_read cX7_read 5 none) (zR d mc ms) mc ms 3 := z_cwV hts m_co_X7_read m_ml_RX11_95 m_im_X7_read m_se_X7_read m_ii_RX7 (by decide +kernel) h1 h2
theorem kV_RX11_101 {R : Room} {s : State} {args : Array Value} {d mc ms : Nat} (hts : ∀ w ∈ zT, w.before args s = true) (h1 : d + 1 ≤ R.frames) (h2 : 8 + (4 + 11) + 40 * d ≤ R.locals) : CallW R s args RX11 RX9 101 yX9_keep cX9_keep 4 none (zW yX9_keep cX9_keep 4 none) (zR d mc ms) mc ms 3 := z_cwV hts m_co_X9_keep m_ml_RX11_101 m_im_X9_keep m_se_X9_keep m_ii_RX9 (by decide +kernel) h1 h2
theorem kV_RX11_105 {R : Room} {s : State} {args : Array Value} {d mc ms : Nat} (hts : ∀ w ∈ zT, w.before args s = true) (h1 : d + 1 ≤ R.frames) (h2 : 8 + (2 + 11) + 40 * d ≤ R.locals) : CallW R s args RX11 RX11 105 yX11_forgetWhatFollows cX11_forgetWhatFollows 2 none (zW yX11_forgetWhatFollows cX11_forgetWhatFollows 2 none) (zR d mc ms) mc ms 1 := z_cwV hts m_co_X11_forgetWhatFollows m_ml_RX11_105 m_im_X11_forgetWhatFollows m_se_X11_forgetWhatFollows m_ii_RX11 (by decide +kernel) h1 h2
theorem kV_RX11_77 {R : Room} {s : State} {args : Array Value} {d mc ms : Nat} (hts : ∀ w ∈ zT, w.before args s = true) (h1 : d + 1 ≤ R.frames) (h2 : 8 + (3 + 11) + 40 * d ≤ R.locals) : CallW R s args RX11 RX9 77 yX9_append cX9_append 3 none (zW yX9_append cX9_append 3 none) (zR d mc ms) mc ms 1 := z_cwV hts m_co_X9_append m_ml_RX11_77 m_im_X9_append m_se_X9_append m_ii_RX9 (by decide +kernel) h1 h2
theorem kV_RX11_117 {R : Room} {s : State} {args : Array Value} {d mc ms : Nat} (hts : ∀ w ∈ zT, w.before args s = true) (h1 : d + 1 ≤ R.frames) (h2 : 8 + (3 + 11) + 40 * d ≤ R.locals) : CallW R s args RX11 RX9 117 yX9_takeAll cX9_takeAll 3 none (zW yX9_takeAll cX9_takeAll 3 none) (zR d mc ms) mc ms 1 := z_cwV hts m_co_X9_takeAll m_ml_RX11_117 m_im_X9_takeAll m_se_X9_takeAll m_ii_RX9 (by decide +kernel) h1 h2
theorem kV_RX11_121 {R : Room} {s : State} {args : Array Value} {d mc ms : Nat} (hts : ∀ w ∈ zT, w.before args s = true) (h1 : d + 1 ≤ R.frames) (h2 : 8 + (2 + 11) + 40 * d ≤ R.locals) : CallW R s args RX11 RX9 121 yX9_landAt cX9_landAt 2 (some (.object "TurnedPosts$Land")) (zW yX9_landAt cX9_landAt 2 (some (.object "TurnedPosts$Land"))) (zR d mc ms) mc ms 1 := z_cwV hts m_co_X9_landAt m_ml_RX11_121 m_im_X9_landAt m_se_X9_landAt m_ii_RX9 (by decide +kernel) h1 h2
theorem kV_RX11_138 {R : Room} {s : State} {args : Array Value} {d mc ms : Nat} (hts : ∀ w ∈ zT, w.before args s = true) (h1 : d + 1 ≤ R.frames) (h2 : 8 + (2 + 11) + 40 * d ≤ R.locals) : CallW R s args RX11 RX9 138 yX9_logAt cX9_logAt 2 (some (.object "TurnedPosts$Log")) (zW yX9_logAt cX9_logAt 2 (some (.object "TurnedPosts$Log"))) (zR d mc ms) mc ms 1 := z_cwV hts m_co_X9_logAt m_ml_RX11_138 m_im_X9_logAt m_se_X9_logAt m_ii_RX9 (by decide +kernel) h1 h2
theorem kV_RX11_130 {R : Room} {s : State} {args : Array Value} {d mc ms : Nat} (hts : ∀ w ∈ zT, w.before args s = true) (h1 : d + 1 ≤ R.frames) (h2 : 8 + (2 + 11) + 40 * d ≤ R.locals) : CallW R s args RX11 RX9 130 yX9_dayAt cX9_dayAt 2 (some (.object "TurnedPosts$Day")) (zW yX9_dayAt cX9_dayAt 2 (some (.object "TurnedPosts$Day"))) (zR d mc ms) mc ms 1 := z_cwV hts m_co_X9_dayAt m_ml_RX11_130 m_im_X9_dayAt m_se_X9_dayAt m_ii_RX9 (by decide +kernel) h1 h2
theorem kV_RX11_302 {R : Room} {s : State} {args : Array Value} {d mc ms : Nat} (hts : ∀ w ∈ zT, w.before args s = true) (h1 : d + 1 ≤ R.frames) (h2 : 8 + (5 + 11) + 40 * d ≤ R.locals) : CallW R s args RX11 RX11 302 yX11_fit cX11_fit 5 (some .boolean) (zW yX11_fit cX11_fit 5 (some .boolean)) (zR d mc ms) mc ms 2 := z_cwV hts m_co_X11_fit m_ml_RX11_302 m_im_X11_fit m_se_X11_fit m_ii_RX11 (by decide +kernel) h1 h2
theorem dX9_keep_0 : decode cX9_keep 0 = .ok (.iload_n 1, 1) := by decide +kernel
theorem dX9_keep_1 : decode cX9_keep 1 = .ok (.ifCond .lt 17, 3) := by decide +kernel
theorem dX9_keep_4 : decode cX9_keep 4 = .ok (.iload_n 1, 1) := by decide +kernel
theorem dX9_keep_5 : decode cX9_keep 5 = .ok (.iconst 2, 1) := by decide +kernel
theorem dX9_keep_6 : decode cX9_keep 6 = .ok (.if_icmp .gt 12, 3) := by decide +kernel
theorem dX9_keep_9 : decode cX9_keep 9 = .ok (.iload_n 2, 1) := by decide +kernel
theorem dX9_keep_10 : decode cX9_keep 10 = .ok (.ifCond .lt 8, 3) := by decide +kernel
theorem dX9_keep_13 : decode cX9_keep 13 = .ok (.iload_n 2, 1) := by decide +kernel
theorem dX9_keep_14 : decode cX9_keep 14 = .ok (.iconst 2, 1) := by decide +kernel
theorem dX9_keep_15 : decode cX9_keep 15 = .ok (.if_icmp .lt 4, 3) := by decide +kernel
theorem dX9_keep_19 : decode cX9_keep 19 = .ok (.iload_n 1, 1) := by decide +kernel
theorem dX9_keep_20 : decode cX9_keep 20 = .ok (.ifCond .ne 19, 3) := by decide +kernel
theorem dX9_keep_23 : decode cX9_keep 23 = .ok (.aload_n 0, 1) := by decide +kernel
theorem dX9_keep_24 : decode cX9_keep 24 = .ok (.getfield 26, 3) := by decide +kernel
theorem dX9_keep_27 : decode cX9_keep 27 = .ok (.iload_n 2, 1) := by decide +kernel
theorem dX9_keep_28 : decode cX9_keep 28 = .ok (.aaload, 1) := by decide +kernel
theorem dX9_keep_29 : decode cX9_keep 29 = .ok (.aload_n 3, 1) := by decide +kernel
theorem dX9_keep_30 : decode cX9_keep 30 = .ok (.getfield 47, 3) := by decide +kernel
theorem dX9_keep_33 : decode cX9_keep 33 = .ok (.invokevirtual 53, 3) := by decide +kernel
theorem dX9_keep_36 : decode cX9_keep 36 = .ok (.goto 37, 3) := by decide +kernel
theorem dX9_keep_39 : decode cX9_keep 39 = .ok (.iload_n 1, 1) := by decide +kernel
theorem dX9_keep_40 : decode cX9_keep 40 = .ok (.iconst 1, 1) := by decide +kernel
theorem dX9_keep_41 : decode cX9_keep 41 = .ok (.if_icmp .ne 19, 3) := by decide +kernel
theorem dX9_keep_44 : decode cX9_keep 44 = .ok (.aload_n 0, 1) := by decide +kernel
theorem dX9_keep_45 : decode cX9_keep 45 = .ok (.getfield 33, 3) := by decide +kernel
theorem dX9_keep_48 : decode cX9_keep 48 = .ok (.iload_n 2, 1) := by decide +kernel
theorem dX9_keep_49 : decode cX9_keep 49 = .ok (.aaload, 1) := by decide +kernel
theorem dX9_keep_50 : decode cX9_keep 50 = .ok (.aload_n 3, 1) := by decide +kernel
theorem dX9_keep_51 : decode cX9_keep 51 = .ok (.getfield 57, 3) := by decide +kernel
theorem dX9_keep_54 : decode cX9_keep 54 = .ok (.invokevirtual 61, 3) := by decide +kernel
theorem dX9_keep_57 : decode cX9_keep 57 = .ok (.goto 16, 3) := by decide +kernel
theorem dX9_keep_60 : decode cX9_keep 60 = .ok (.aload_n 0, 1) := by decide +kernel
theorem dX9_keep_61 : decode cX9_keep 61 = .ok (.getfield 40, 3) := by decide +kernel
theorem dX9_keep_64 : decode cX9_keep 64 = .ok (.iload_n 2, 1) := by decide +kernel
theorem dX9_keep_65 : decode cX9_keep 65 = .ok (.aaload, 1) := by decide +kernel
theorem dX9_keep_66 : decode cX9_keep 66 = .ok (.aload_n 3, 1) := by decide +kernel
theorem dX9_keep_67 : decode cX9_keep 67 = .ok (.getfield 64, 3) := by decide +kernel
theorem dX9_keep_70 : decode cX9_keep 70 = .ok (.invokevirtual 68, 3) := by decide +kernel
theorem dX9_keep_73 : decode cX9_keep 73 = .ok (.aload_n 0, 1) := by decide +kernel
theorem dX9_keep_74 : decode cX9_keep 74 = .ok (.getfield 19, 3) := by decide +kernel
theorem dX9_keep_77 : decode cX9_keep 77 = .ok (.iload_n 1, 1) := by decide +kernel
theorem dX9_keep_78 : decode cX9_keep 78 = .ok (.aload_n 0, 1) := by decide +kernel
theorem dX9_keep_79 : decode cX9_keep 79 = .ok (.getfield 19, 3) := by decide +kernel
theorem dX9_keep_82 : decode cX9_keep 82 = .ok (.iload_n 1, 1) := by decide +kernel
theorem dX9_keep_83 : decode cX9_keep 83 = .ok (.iaload, 1) := by decide +kernel
theorem dX9_keep_84 : decode cX9_keep 84 = .ok (.iload_n 2, 1) := by decide +kernel
theorem dX9_keep_85 : decode cX9_keep 85 = .ok (.iconst 1, 1) := by decide +kernel
theorem dX9_keep_86 : decode cX9_keep 86 = .ok (.iadd, 1) := by decide +kernel
theorem dX9_keep_87 : decode cX9_keep 87 = .ok (.invokestatic 71, 3) := by decide +kernel
theorem dX9_keep_90 : decode cX9_keep 90 = .ok (.iastore, 1) := by decide +kernel
theorem dX9_keep_91 : decode cX9_keep 91 = .ok (.return_, 1) := by decide +kernel
theorem dX11_forgetWhatFollows_0 : decode cX11_forgetWhatFollows 0 = .ok (.aload_n 0, 1) := by decide +kernel
theorem dX11_forgetWhatFollows_1 : decode cX11_forgetWhatFollows 1 = .ok (.getfield 65, 3) := by decide +kernel
theorem dX11_forgetWhatFollows_4 : decode cX11_forgetWhatFollows 4 = .ok (.iconst 0, 1) := by decide +kernel
theorem dX11_forgetWhatFollows_5 : decode cX11_forgetWhatFollows 5 = .ok (.putfield 109, 3) := by decide +kernel
theorem dX11_forgetWhatFollows_8 : decode cX11_forgetWhatFollows 8 = .ok (.iload_n 1, 1) := by decide +kernel
theorem dX11_forgetWhatFollows_9 : decode cX11_forgetWhatFollows 9 = .ok (.ifCond .eq 19, 3) := by decide +kernel
theorem dX11_forgetWhatFollows_12 : decode cX11_forgetWhatFollows 12 = .ok (.aload_n 0, 1) := by decide +kernel
theorem dX11_forgetWhatFollows_13 : decode cX11_forgetWhatFollows 13 = .ok (.getfield 55, 3) := by decide +kernel
theorem dX11_forgetWhatFollows_16 : decode cX11_forgetWhatFollows 16 = .ok (.iconst 0, 1) := by decide +kernel
theorem dX11_forgetWhatFollows_17 : decode cX11_forgetWhatFollows 17 = .ok (.putfield 113, 3) := by decide +kernel
theorem dX11_forgetWhatFollows_20 : decode cX11_forgetWhatFollows 20 = .ok (.aload_n 0, 1) := by decide +kernel
theorem dX11_forgetWhatFollows_21 : decode cX11_forgetWhatFollows 21 = .ok (.getfield 59, 3) := by decide +kernel
theorem dX11_forgetWhatFollows_24 : decode cX11_forgetWhatFollows 24 = .ok (.iconst 0, 1) := by decide +kernel
theorem dX11_forgetWhatFollows_25 : decode cX11_forgetWhatFollows 25 = .ok (.putfield 113, 3) := by decide +kernel
theorem dX11_forgetWhatFollows_28 : decode cX11_forgetWhatFollows 28 = .ok (.return_, 1) := by decide +kernel
theorem dX11_text_0 : decode cX11_text 0 = .ok (.aload_n 0, 1) := by decide +kernel
theorem dX11_text_1 : decode cX11_text 1 = .ok (.getfield 10, 3) := by decide +kernel
theorem dX11_text_4 : decode cX11_text 4 = .ok (.iload_n 1, 1) := by decide +kernel
theorem dX11_text_5 : decode cX11_text 5 = .ok (.iload_n 2, 1) := by decide +kernel
theorem dX11_text_6 : decode cX11_text 6 = .ok (.invokevirtual 81, 3) := by decide +kernel
theorem dX11_text_9 : decode cX11_text 9 = .ok (.istore_n 3, 1) := by decide +kernel
theorem dX11_text_10 : decode cX11_text 10 = .ok (.aload_n 0, 1) := by decide +kernel
theorem dX11_text_11 : decode cX11_text 11 = .ok (.getfield 10, 3) := by decide +kernel
theorem dX11_text_14 : decode cX11_text 14 = .ok (.getfield 73, 3) := by decide +kernel
theorem dX11_text_17 : decode cX11_text 17 = .ok (.istore 4, 2) := by decide +kernel
theorem dX11_text_19 : decode cX11_text 19 = .ok (.aload_n 0, 1) := by decide +kernel
theorem dX11_text_20 : decode cX11_text 20 = .ok (.getfield 10, 3) := by decide +kernel
theorem dX11_text_23 : decode cX11_text 23 = .ok (.iconst 0, 1) := by decide +kernel
theorem dX11_text_24 : decode cX11_text 24 = .ok (.putfield 73, 3) := by decide +kernel
theorem dX11_text_27 : decode cX11_text 27 = .ok (.aload_n 0, 1) := by decide +kernel
theorem dX11_text_28 : decode cX11_text 28 = .ok (.getfield 10, 3) := by decide +kernel
theorem dX11_text_31 : decode cX11_text 31 = .ok (.iconst 0, 1) := by decide +kernel
theorem dX11_text_32 : decode cX11_text 32 = .ok (.putfield 85, 3) := by decide +kernel
theorem dX11_text_35 : decode cX11_text 35 = .ok (.aload_n 0, 1) := by decide +kernel
theorem dX11_text_36 : decode cX11_text 36 = .ok (.getfield 10, 3) := by decide +kernel
theorem dX11_text_39 : decode cX11_text 39 = .ok (.iconst (-1), 1) := by decide +kernel
theorem dX11_text_40 : decode cX11_text 40 = .ok (.putfield 88, 3) := by decide +kernel
theorem dX11_text_43 : decode cX11_text 43 = .ok (.iload_n 3, 1) := by decide +kernel
theorem dX11_text_44 : decode cX11_text 44 = .ok (.bipush (-2), 2) := by decide +kernel
theorem dX11_text_46 : decode cX11_text 46 = .ok (.if_icmp .ne 6, 3) := by decide +kernel
theorem dX11_text_49 : decode cX11_text 49 = .ok (.bipush (-2), 2) := by decide +kernel
theorem dX11_text_51 : decode cX11_text 51 = .ok (.ireturn, 1) := by decide +kernel
theorem dX11_text_52 : decode cX11_text 52 = .ok (.aload_n 0, 1) := by decide +kernel
theorem dX11_text_53 : decode cX11_text 53 = .ok (.getfield 27, 3) := by decide +kernel
theorem dX11_text_56 : decode cX11_text 56 = .ok (.aload_n 0, 1) := by decide +kernel
theorem dX11_text_57 : decode cX11_text 57 = .ok (.getfield 10, 3) := by decide +kernel
theorem dX11_text_60 : decode cX11_text 60 = .ok (.getfield 91, 3) := by decide +kernel
theorem dX11_text_63 : decode cX11_text 63 = .ok (.iload 4, 2) := by decide +kernel
theorem dX11_text_65 : decode cX11_text 65 = .ok (.iload_n 1, 1) := by decide +kernel
theorem dX11_text_66 : decode cX11_text 66 = .ok (.invokevirtual 95, 3) := by decide +kernel
theorem dX11_text_69 : decode cX11_text 69 = .ok (.aload_n 0, 1) := by decide +kernel
theorem dX11_text_70 : decode cX11_text 70 = .ok (.getfield 10, 3) := by decide +kernel
theorem dX11_text_73 : decode cX11_text 73 = .ok (.aload_n 0, 1) := by decide +kernel
theorem dX11_text_74 : decode cX11_text 74 = .ok (.getfield 27, 3) := by decide +kernel
theorem dX11_text_77 : decode cX11_text 77 = .ok (.getfield 99, 3) := by decide +kernel
theorem dX11_text_80 : decode cX11_text 80 = .ok (.putfield 85, 3) := by decide +kernel
theorem dX11_text_83 : decode cX11_text 83 = .ok (.aload_n 0, 1) := by decide +kernel
theorem dX11_text_84 : decode cX11_text 84 = .ok (.getfield 10, 3) := by decide +kernel
theorem dX11_text_87 : decode cX11_text 87 = .ok (.aload_n 0, 1) := by decide +kernel
theorem dX11_text_88 : decode cX11_text 88 = .ok (.getfield 27, 3) := by decide +kernel
theorem dX11_text_91 : decode cX11_text 91 = .ok (.getfield 100, 3) := by decide +kernel
theorem dX11_text_94 : decode cX11_text 94 = .ok (.putfield 88, 3) := by decide +kernel
theorem dX11_text_97 : decode cX11_text 97 = .ok (.aload_n 0, 1) := by decide +kernel
theorem dX11_text_98 : decode cX11_text 98 = .ok (.getfield 27, 3) := by decide +kernel
theorem dX11_text_101 : decode cX11_text 101 = .ok (.getfield 99, 3) := by decide +kernel
theorem dX11_text_104 : decode cX11_text 104 = .ok (.ifCond .eq 5, 3) := by decide +kernel
theorem dX11_text_109 : decode cX11_text 109 = .ok (.aload_n 0, 1) := by decide +kernel
theorem dX11_text_110 : decode cX11_text 110 = .ok (.getfield 10, 3) := by decide +kernel
theorem dX11_text_113 : decode cX11_text 113 = .ok (.iload_n 1, 1) := by decide +kernel
theorem dX11_text_114 : decode cX11_text 114 = .ok (.iload_n 3, 1) := by decide +kernel
theorem dX11_text_115 : decode cX11_text 115 = .ok (.aload_n 0, 1) := by decide +kernel
theorem dX11_text_116 : decode cX11_text 116 = .ok (.getfield 27, 3) := by decide +kernel
theorem dX11_text_119 : decode cX11_text 119 = .ok (.invokevirtual 101, 3) := by decide +kernel
theorem dX11_text_122 : decode cX11_text 122 = .ok (.aload_n 0, 1) := by decide +kernel
theorem dX11_text_123 : decode cX11_text 123 = .ok (.iload_n 1, 1) := by decide +kernel
theorem dX11_text_124 : decode cX11_text 124 = .ok (.ifCond .ne 7, 3) := by decide +kernel
theorem dX11_text_127 : decode cX11_text 127 = .ok (.iconst 1, 1) := by decide +kernel
theorem dX11_text_128 : decode cX11_text 128 = .ok (.goto 4, 3) := by decide +kernel
theorem dX11_text_131 : decode cX11_text 131 = .ok (.iconst 0, 1) := by decide +kernel
theorem dX11_text_132 : decode cX11_text 132 = .ok (.invokevirtual 105, 3) := by decide +kernel
theorem dX11_text_135 : decode cX11_text 135 = .ok (.iload_n 3, 1) := by decide +kernel
theorem dX11_text_136 : decode cX11_text 136 = .ok (.ireturn, 1) := by decide +kernel
theorem dX11_feed_0 : decode cX11_feed 0 = .ok (.aload_n 0, 1) := by decide +kernel
theorem dX11_feed_1 : decode cX11_feed 1 = .ok (.getfield 10, 3) := by decide +kernel
theorem dX11_feed_4 : decode cX11_feed 4 = .ok (.getfield 73, 3) := by decide +kernel
theorem dX11_feed_7 : decode cX11_feed 7 = .ok (.bipush 20, 2) := by decide +kernel
theorem dX11_feed_9 : decode cX11_feed 9 = .ok (.iadd, 1) := by decide +kernel
theorem dX11_feed_10 : decode cX11_feed 10 = .ok (.sipush 600, 3) := by decide +kernel
theorem dX11_feed_13 : decode cX11_feed 13 = .ok (.if_icmp .le 5, 3) := by decide +kernel
theorem dX11_feed_18 : decode cX11_feed 18 = .ok (.aload_n 0, 1) := by decide +kernel
theorem dX11_feed_19 : decode cX11_feed 19 = .ok (.getfield 10, 3) := by decide +kernel
theorem dX11_feed_22 : decode cX11_feed 22 = .ok (.iload_n 1, 1) := by decide +kernel
theorem dX11_feed_23 : decode cX11_feed 23 = .ok (.invokevirtual 77, 3) := by decide +kernel
theorem dX11_feed_26 : decode cX11_feed 26 = .ok (.aload_n 0, 1) := by decide +kernel
theorem dX11_feed_27 : decode cX11_feed 27 = .ok (.getfield 10, 3) := by decide +kernel
theorem dX11_feed_30 : decode cX11_feed 30 = .ok (.iload_n 2, 1) := by decide +kernel
theorem dX11_feed_31 : decode cX11_feed 31 = .ok (.invokevirtual 77, 3) := by decide +kernel
theorem dX11_feed_34 : decode cX11_feed 34 = .ok (.aload_n 0, 1) := by decide +kernel
theorem dX11_feed_35 : decode cX11_feed 35 = .ok (.getfield 10, 3) := by decide +kernel
theorem dX11_feed_38 : decode cX11_feed 38 = .ok (.iload_n 3, 1) := by decide +kernel
theorem dX11_feed_39 : decode cX11_feed 39 = .ok (.invokevirtual 77, 3) := by decide +kernel
theorem dX11_feed_42 : decode cX11_feed 42 = .ok (.aload_n 0, 1) := by decide +kernel
theorem dX11_feed_43 : decode cX11_feed 43 = .ok (.getfield 10, 3) := by decide +kernel
theorem dX11_feed_46 : decode cX11_feed 46 = .ok (.iload 4, 2) := by decide +kernel
theorem dX11_feed_48 : decode cX11_feed 48 = .ok (.invokevirtual 77, 3) := by decide +kernel
theorem dX11_feed_51 : decode cX11_feed 51 = .ok (.aload_n 0, 1) := by decide +kernel
theorem dX11_feed_52 : decode cX11_feed 52 = .ok (.getfield 10, 3) := by decide +kernel
theorem dX11_feed_55 : decode cX11_feed 55 = .ok (.iload 5, 2) := by decide +kernel
theorem dX11_feed_57 : decode cX11_feed 57 = .ok (.invokevirtual 77, 3) := by decide +kernel
theorem dX11_feed_60 : decode cX11_feed 60 = .ok (.aload_n 0, 1) := by decide +kernel
theorem dX11_feed_61 : decode cX11_feed 61 = .ok (.getfield 10, 3) := by decide +kernel
theorem dX11_feed_64 : decode cX11_feed 64 = .ok (.getfield 73, 3) := by decide +kernel
theorem dX11_feed_67 : decode cX11_feed 67 = .ok (.ireturn, 1) := by decide +kernel
theorem dX11_end_0 : decode cX11_end 0 = .ok (.iload_n 1, 1) := by decide +kernel
theorem dX11_end_1 : decode cX11_end 1 = .ok (.ifCond .lt 14, 3) := by decide +kernel
theorem dX11_end_4 : decode cX11_end 4 = .ok (.iload_n 1, 1) := by decide +kernel
theorem dX11_end_5 : decode cX11_end 5 = .ok (.aload_n 0, 1) := by decide +kernel
theorem dX11_end_6 : decode cX11_end 6 = .ok (.getfield 10, 3) := by decide +kernel
theorem dX11_end_9 : decode cX11_end 9 = .ok (.getfield 73, 3) := by decide +kernel
theorem dX11_end_12 : decode cX11_end 12 = .ok (.if_icmp .le 5, 3) := by decide +kernel
theorem dX11_end_15 : decode cX11_end 15 = .ok (.iconst (-1), 1) := by decide +kernel
theorem dX11_end_16 : decode cX11_end 16 = .ok (.ireturn, 1) := by decide +kernel
theorem dX11_end_17 : decode cX11_end 17 = .ok (.aload_n 0, 1) := by decide +kernel
theorem dX11_end_18 : decode cX11_end 18 = .ok (.getfield 10, 3) := by decide +kernel
theorem dX11_end_21 : decode cX11_end 21 = .ok (.iload_n 1, 1) := by decide +kernel
theorem dX11_end_22 : decode cX11_end 22 = .ok (.putfield 73, 3) := by decide +kernel
theorem dX11_end_25 : decode cX11_end 25 = .ok (.iload_n 1, 1) := by decide +kernel
theorem dX11_end_26 : decode cX11_end 26 = .ok (.ireturn, 1) := by decide +kernel
theorem dX11_fault_0 : decode cX11_fault 0 = .ok (.iload_n 1, 1) := by decide +kernel
theorem dX11_fault_1 : decode cX11_fault 1 = .ok (.ifCond .ne 13, 3) := by decide +kernel
theorem dX11_fault_4 : decode cX11_fault 4 = .ok (.aload_n 0, 1) := by decide +kernel
theorem dX11_fault_5 : decode cX11_fault 5 = .ok (.getfield 10, 3) := by decide +kernel
theorem dX11_fault_8 : decode cX11_fault 8 = .ok (.getfield 85, 3) := by decide +kernel
theorem dX11_fault_11 : decode cX11_fault 11 = .ok (.goto 19, 3) := by decide +kernel
theorem dX11_fault_14 : decode cX11_fault 14 = .ok (.iload_n 1, 1) := by decide +kernel
theorem dX11_fault_15 : decode cX11_fault 15 = .ok (.iconst 1, 1) := by decide +kernel
theorem dX11_fault_16 : decode cX11_fault 16 = .ok (.if_icmp .ne 13, 3) := by decide +kernel
theorem dX11_fault_19 : decode cX11_fault 19 = .ok (.aload_n 0, 1) := by decide +kernel
theorem dX11_fault_20 : decode cX11_fault 20 = .ok (.getfield 10, 3) := by decide +kernel
theorem dX11_fault_23 : decode cX11_fault 23 = .ok (.getfield 88, 3) := by decide +kernel
theorem dX11_fault_26 : decode cX11_fault 26 = .ok (.goto 4, 3) := by decide +kernel
theorem dX11_fault_29 : decode cX11_fault 29 = .ok (.iconst (-1), 1) := by decide +kernel
theorem dX11_fault_30 : decode cX11_fault 30 = .ok (.ireturn, 1) := by decide +kernel
theorem dX11_count_0 : decode cX11_count 0 = .ok (.iload_n 1, 1) := by decide +kernel
theorem dX11_count_1 : decode cX11_count 1 = .ok (.ifCond .lt 20, 3) := by decide +kernel
theorem dX11_count_4 : decode cX11_count 4 = .ok (.iload_n 1, 1) := by decide +kernel
theorem dX11_count_5 : decode cX11_count 5 = .ok (.iconst 2, 1) := by decide +kernel
theorem dX11_count_6 : decode cX11_count 6 = .ok (.if_icmp .gt 15, 3) := by decide +kernel
theorem dX11_count_9 : decode cX11_count 9 = .ok (.aload_n 0, 1) := by decide +kernel
theorem dX11_count_10 : decode cX11_count 10 = .ok (.getfield 10, 3) := by decide +kernel
theorem dX11_count_13 : decode cX11_count 13 = .ok (.getfield 114, 3) := by decide +kernel
theorem dX11_count_16 : decode cX11_count 16 = .ok (.iload_n 1, 1) := by decide +kernel
theorem dX11_count_17 : decode cX11_count 17 = .ok (.iaload, 1) := by decide +kernel
theorem dX11_count_18 : decode cX11_count 18 = .ok (.goto 5, 3) := by decide +kernel
theorem dX11_count_21 : decode cX11_count 21 = .ok (.bipush (-2), 2) := by decide +kernel
theorem dX11_count_23 : decode cX11_count 23 = .ok (.ireturn, 1) := by decide +kernel
theorem dX11_image_0 : decode cX11_image 0 = .ok (.iload_n 1, 1) := by decide +kernel
theorem dX11_image_1 : decode cX11_image 1 = .ok (.ifCond .lt 8, 3) := by decide +kernel
theorem dX11_image_4 : decode cX11_image 4 = .ok (.iload_n 1, 1) := by decide +kernel
theorem dX11_image_5 : decode cX11_image 5 = .ok (.iconst 3, 1) := by decide +kernel
theorem dX11_image_6 : decode cX11_image 6 = .ok (.if_icmp .lt 5, 3) := by decide +kernel
theorem dX11_image_9 : decode cX11_image 9 = .ok (.iconst 0, 1) := by decide +kernel
theorem dX11_image_10 : decode cX11_image 10 = .ok (.ireturn, 1) := by decide +kernel
theorem dX11_image_11 : decode cX11_image 11 = .ok (.aload_n 0, 1) := by decide +kernel
theorem dX11_image_12 : decode cX11_image 12 = .ok (.getfield 16, 3) := by decide +kernel
theorem dX11_image_15 : decode cX11_image 15 = .ok (.iload_n 1, 1) := by decide +kernel
theorem dX11_image_16 : decode cX11_image 16 = .ok (.aaload, 1) := by decide +kernel
theorem dX11_image_17 : decode cX11_image 17 = .ok (.aload_n 0, 1) := by decide +kernel
theorem dX11_image_18 : decode cX11_image 18 = .ok (.getfield 10, 3) := by decide +kernel
theorem dX11_image_21 : decode cX11_image 21 = .ok (.invokevirtual 117, 3) := by decide +kernel
theorem dX11_image_24 : decode cX11_image 24 = .ok (.aload_n 0, 1) := by decide +kernel
theorem dX11_image_25 : decode cX11_image 25 = .ok (.getfield 20, 3) := by decide +kernel
theorem dX11_image_28 : decode cX11_image 28 = .ok (.iload_n 1, 1) := by decide +kernel
theorem dX11_image_29 : decode cX11_image 29 = .ok (.iconst 1, 1) := by decide +kernel
theorem dX11_image_30 : decode cX11_image 30 = .ok (.bastore, 1) := by decide +kernel
theorem dX11_image_31 : decode cX11_image 31 = .ok (.iconst 1, 1) := by decide +kernel
theorem dX11_image_32 : decode cX11_image 32 = .ok (.ireturn, 1) := by decide +kernel
theorem dX11_again_0 : decode cX11_again 0 = .ok (.iload_n 1, 1) := by decide +kernel
theorem dX11_again_1 : decode cX11_again 1 = .ok (.ifCond .lt 17, 3) := by decide +kernel
theorem dX11_again_4 : decode cX11_again 4 = .ok (.iload_n 1, 1) := by decide +kernel
theorem dX11_again_5 : decode cX11_again 5 = .ok (.iconst 3, 1) := by decide +kernel
theorem dX11_again_6 : decode cX11_again 6 = .ok (.if_icmp .ge 12, 3) := by decide +kernel
theorem dX11_again_9 : decode cX11_again 9 = .ok (.aload_n 0, 1) := by decide +kernel
theorem dX11_again_10 : decode cX11_again 10 = .ok (.getfield 20, 3) := by decide +kernel
theorem dX11_again_13 : decode cX11_again 13 = .ok (.iload_n 1, 1) := by decide +kernel
theorem dX11_again_14 : decode cX11_again 14 = .ok (.baload, 1) := by decide +kernel
theorem dX11_again_15 : decode cX11_again 15 = .ok (.ifCond .ne 5, 3) := by decide +kernel
theorem dX11_again_18 : decode cX11_again 18 = .ok (.iconst 0, 1) := by decide +kernel
theorem dX11_again_19 : decode cX11_again 19 = .ok (.ireturn, 1) := by decide +kernel
theorem dX11_fit_0 : decode cX11_fit 0 = .ok (.aload_n 0, 1) := by decide +kernel
theorem dX11_fit_1 : decode cX11_fit 1 = .ok (.getfield 10, 3) := by decide +kernel
theorem dX11_fit_4 : decode cX11_fit 4 = .ok (.iload_n 1, 1) := by decide +kernel
theorem dX11_fit_5 : decode cX11_fit 5 = .ok (.invokevirtual 121, 3) := by decide +kernel
theorem dX11_fit_8 : decode cX11_fit 8 = .ok (.astore_n 3, 1) := by decide +kernel
theorem dX11_fit_9 : decode cX11_fit 9 = .ok (.aload_n 0, 1) := by decide +kernel
theorem dX11_fit_10 : decode cX11_fit 10 = .ok (.getfield 10, 3) := by decide +kernel
theorem dX11_fit_13 : decode cX11_fit 13 = .ok (.iload_n 2, 1) := by decide +kernel
theorem dX11_fit_14 : decode cX11_fit 14 = .ok (.invokevirtual 138, 3) := by decide +kernel
theorem dX11_fit_17 : decode cX11_fit 17 = .ok (.astore 4, 2) := by decide +kernel
theorem dX11_fit_19 : decode cX11_fit 19 = .ok (.aload_n 3, 1) := by decide +kernel
theorem dX11_fit_20 : decode cX11_fit 20 = .ok (.ifnull 8, 3) := by decide +kernel
theorem dX11_fit_28 : decode cX11_fit 28 = .ok (.iconst 0, 1) := by decide +kernel
theorem dX11_fit_29 : decode cX11_fit 29 = .ok (.ireturn, 1) := by decide +kernel
theorem dX11_land_0 : decode cX11_land 0 = .ok (.aload_n 0, 1) := by decide +kernel
theorem dX11_land_1 : decode cX11_land 1 = .ok (.getfield 10, 3) := by decide +kernel
theorem dX11_land_4 : decode cX11_land 4 = .ok (.iload_n 1, 1) := by decide +kernel
theorem dX11_land_5 : decode cX11_land 5 = .ok (.invokevirtual 121, 3) := by decide +kernel
theorem dX11_land_8 : decode cX11_land 8 = .ok (.astore_n 3, 1) := by decide +kernel
theorem dX11_land_9 : decode cX11_land 9 = .ok (.aload_n 3, 1) := by decide +kernel
theorem dX11_land_10 : decode cX11_land 10 = .ok (.ifnonnull 7, 3) := by decide +kernel
theorem dX11_land_13 : decode cX11_land 13 = .ok (.iconst (-1), 1) := by decide +kernel
theorem dX11_land_14 : decode cX11_land 14 = .ok (.goto 8, 3) := by decide +kernel
theorem dX11_land_22 : decode cX11_land 22 = .ok (.ireturn, 1) := by decide +kernel
theorem dX11_deed_0 : decode cX11_deed 0 = .ok (.aload_n 0, 1) := by decide +kernel
theorem dX11_deed_1 : decode cX11_deed 1 = .ok (.getfield 10, 3) := by decide +kernel
theorem dX11_deed_4 : decode cX11_deed 4 = .ok (.iload_n 1, 1) := by decide +kernel
theorem dX11_deed_5 : decode cX11_deed 5 = .ok (.invokevirtual 130, 3) := by decide +kernel
theorem dX11_deed_8 : decode cX11_deed 8 = .ok (.astore 4, 2) := by decide +kernel
theorem dX11_deed_10 : decode cX11_deed 10 = .ok (.aload 4, 2) := by decide +kernel
theorem dX11_deed_12 : decode cX11_deed 12 = .ok (.ifnonnull 8, 3) := by decide +kernel
theorem dX11_deed_15 : decode cX11_deed 15 = .ok (.bipush (-2), 2) := by decide +kernel
theorem dX11_deed_17 : decode cX11_deed 17 = .ok (.goto 10, 3) := by decide +kernel
theorem dX11_deed_27 : decode cX11_deed 27 = .ok (.ireturn, 1) := by decide +kernel
theorem dX11_stop_0 : decode cX11_stop 0 = .ok (.aload_n 0, 1) := by decide +kernel
theorem dX11_stop_1 : decode cX11_stop 1 = .ok (.getfield 10, 3) := by decide +kernel
theorem dX11_stop_4 : decode cX11_stop 4 = .ok (.iload_n 1, 1) := by decide +kernel
theorem dX11_stop_5 : decode cX11_stop 5 = .ok (.invokevirtual 121, 3) := by decide +kernel
theorem dX11_stop_8 : decode cX11_stop 8 = .ok (.astore_n 3, 1) := by decide +kernel
theorem dX11_stop_9 : decode cX11_stop 9 = .ok (.aload_n 0, 1) := by decide +kernel
theorem dX11_stop_10 : decode cX11_stop 10 = .ok (.getfield 10, 3) := by decide +kernel
theorem dX11_stop_13 : decode cX11_stop 13 = .ok (.iload_n 2, 1) := by decide +kernel
theorem dX11_stop_14 : decode cX11_stop 14 = .ok (.invokevirtual 130, 3) := by decide +kernel
theorem dX11_stop_17 : decode cX11_stop 17 = .ok (.astore 4, 2) := by decide +kernel
theorem dX11_stop_19 : decode cX11_stop 19 = .ok (.aload_n 3, 1) := by decide +kernel
theorem dX11_stop_20 : decode cX11_stop 20 = .ok (.ifnull 8, 3) := by decide +kernel
theorem dX11_stop_28 : decode cX11_stop 28 = .ok (.iconst (-1), 1) := by decide +kernel
theorem dX11_stop_29 : decode cX11_stop 29 = .ok (.goto 15, 3) := by decide +kernel
theorem dX11_stop_44 : decode cX11_stop 44 = .ok (.ireturn, 1) := by decide +kernel
theorem dX11_state_0 : decode cX11_state 0 = .ok (.aload_n 0, 1) := by decide +kernel
theorem dX11_state_1 : decode cX11_state 1 = .ok (.getfield 10, 3) := by decide +kernel
theorem dX11_state_4 : decode cX11_state 4 = .ok (.iload_n 1, 1) := by decide +kernel
theorem dX11_state_5 : decode cX11_state 5 = .ok (.invokevirtual 121, 3) := by decide +kernel
theorem dX11_state_8 : decode cX11_state 8 = .ok (.astore 5, 2) := by decide +kernel
theorem dX11_state_10 : decode cX11_state 10 = .ok (.aload_n 0, 1) := by decide +kernel
theorem dX11_state_11 : decode cX11_state 11 = .ok (.getfield 10, 3) := by decide +kernel
theorem dX11_state_14 : decode cX11_state 14 = .ok (.iload_n 2, 1) := by decide +kernel
theorem dX11_state_15 : decode cX11_state 15 = .ok (.invokevirtual 130, 3) := by decide +kernel
theorem dX11_state_18 : decode cX11_state 18 = .ok (.astore 6, 2) := by decide +kernel
theorem dX11_state_20 : decode cX11_state 20 = .ok (.aload 5, 2) := by decide +kernel
theorem dX11_state_22 : decode cX11_state 22 = .ok (.ifnull 21, 3) := by decide +kernel
theorem dX11_state_43 : decode cX11_state 43 = .ok (.bipush (-2), 2) := by decide +kernel
theorem dX11_state_45 : decode cX11_state 45 = .ok (.ireturn, 1) := by decide +kernel
theorem dX11_walk_0 : decode cX11_walk 0 = .ok (.aload_n 0, 1) := by decide +kernel
theorem dX11_walk_1 : decode cX11_walk 1 = .ok (.getfield 10, 3) := by decide +kernel
theorem dX11_walk_4 : decode cX11_walk 4 = .ok (.iload_n 1, 1) := by decide +kernel
theorem dX11_walk_5 : decode cX11_walk 5 = .ok (.invokevirtual 121, 3) := by decide +kernel
theorem dX11_walk_8 : decode cX11_walk 8 = .ok (.astore 4, 2) := by decide +kernel
theorem dX11_walk_10 : decode cX11_walk 10 = .ok (.aload 4, 2) := by decide +kernel
theorem dX11_walk_12 : decode cX11_walk 12 = .ok (.ifnull 12, 3) := by decide +kernel
theorem dX11_walk_24 : decode cX11_walk 24 = .ok (.bipush (-2), 2) := by decide +kernel
theorem dX11_walk_26 : decode cX11_walk 26 = .ok (.ireturn, 1) := by decide +kernel
theorem dX11_endOf_0 : decode cX11_endOf 0 = .ok (.aload_n 0, 1) := by decide +kernel
theorem dX11_endOf_1 : decode cX11_endOf 1 = .ok (.getfield 10, 3) := by decide +kernel
theorem dX11_endOf_4 : decode cX11_endOf 4 = .ok (.iload_n 1, 1) := by decide +kernel
theorem dX11_endOf_5 : decode cX11_endOf 5 = .ok (.invokevirtual 121, 3) := by decide +kernel
theorem dX11_endOf_8 : decode cX11_endOf 8 = .ok (.astore_n 3, 1) := by decide +kernel
theorem dX11_endOf_9 : decode cX11_endOf 9 = .ok (.aload_n 3, 1) := by decide +kernel
theorem dX11_endOf_10 : decode cX11_endOf 10 = .ok (.ifnonnull 6, 3) := by decide +kernel
theorem dX11_endOf_13 : decode cX11_endOf 13 = .ok (.bipush (-2), 2) := by decide +kernel
theorem dX11_endOf_15 : decode cX11_endOf 15 = .ok (.ireturn, 1) := by decide +kernel
theorem dX11_come_0 : decode cX11_come 0 = .ok (.aload_n 0, 1) := by decide +kernel
theorem dX11_come_1 : decode cX11_come 1 = .ok (.getfield 10, 3) := by decide +kernel
theorem dX11_come_4 : decode cX11_come 4 = .ok (.iload_n 1, 1) := by decide +kernel
theorem dX11_come_5 : decode cX11_come 5 = .ok (.invokevirtual 121, 3) := by decide +kernel
theorem dX11_come_8 : decode cX11_come 8 = .ok (.astore 4, 2) := by decide +kernel
theorem dX11_come_10 : decode cX11_come 10 = .ok (.aload 4, 2) := by decide +kernel
theorem dX11_come_12 : decode cX11_come 12 = .ok (.ifnull 23, 3) := by decide +kernel
theorem dX11_come_35 : decode cX11_come 35 = .ok (.iconst (-1), 1) := by decide +kernel
theorem dX11_come_36 : decode cX11_come 36 = .ok (.ireturn, 1) := by decide +kernel
theorem dX11_period_0 : decode cX11_period 0 = .ok (.aload_n 0, 1) := by decide +kernel
theorem dX11_period_1 : decode cX11_period 1 = .ok (.getfield 10, 3) := by decide +kernel
theorem dX11_period_4 : decode cX11_period 4 = .ok (.iload_n 1, 1) := by decide +kernel
theorem dX11_period_5 : decode cX11_period 5 = .ok (.invokevirtual 121, 3) := by decide +kernel
theorem dX11_period_8 : decode cX11_period 8 = .ok (.astore 4, 2) := by decide +kernel
theorem dX11_period_10 : decode cX11_period 10 = .ok (.aload 4, 2) := by decide +kernel
theorem dX11_period_12 : decode cX11_period 12 = .ok (.ifnull 12, 3) := by decide +kernel
theorem dX11_period_24 : decode cX11_period 24 = .ok (.iconst (-1), 1) := by decide +kernel
theorem dX11_period_25 : decode cX11_period 25 = .ok (.ireturn, 1) := by decide +kernel
theorem dX11_set_0 : decode cX11_set 0 = .ok (.aload_n 0, 1) := by decide +kernel
theorem dX11_set_1 : decode cX11_set 1 = .ok (.getfield 10, 3) := by decide +kernel
theorem dX11_set_4 : decode cX11_set 4 = .ok (.iload_n 1, 1) := by decide +kernel
theorem dX11_set_5 : decode cX11_set 5 = .ok (.invokevirtual 121, 3) := by decide +kernel
theorem dX11_set_8 : decode cX11_set 8 = .ok (.astore 5, 2) := by decide +kernel
theorem dX11_set_10 : decode cX11_set 10 = .ok (.aload 5, 2) := by decide +kernel
theorem dX11_set_12 : decode cX11_set 12 = .ok (.ifnull 21, 3) := by decide +kernel
theorem dX11_set_33 : decode cX11_set 33 = .ok (.iconst (-1), 1) := by decide +kernel
theorem dX11_set_34 : decode cX11_set 34 = .ok (.ireturn, 1) := by decide +kernel
theorem dX11_lot_0 : decode cX11_lot 0 = .ok (.aload_n 0, 1) := by decide +kernel
theorem dX11_lot_1 : decode cX11_lot 1 = .ok (.getfield 10, 3) := by decide +kernel
theorem dX11_lot_4 : decode cX11_lot 4 = .ok (.iload_n 1, 1) := by decide +kernel
theorem dX11_lot_5 : decode cX11_lot 5 = .ok (.invokevirtual 121, 3) := by decide +kernel
theorem dX11_lot_8 : decode cX11_lot 8 = .ok (.astore 5, 2) := by decide +kernel
theorem dX11_lot_10 : decode cX11_lot 10 = .ok (.aload 5, 2) := by decide +kernel
theorem dX11_lot_12 : decode cX11_lot 12 = .ok (.ifnull 21, 3) := by decide +kernel
theorem dX11_lot_33 : decode cX11_lot 33 = .ok (.iconst (-1), 1) := by decide +kernel
theorem dX11_lot_34 : decode cX11_lot 34 = .ok (.ireturn, 1) := by decide +kernel
theorem dX11_mean_0 : decode cX11_mean 0 = .ok (.aload_n 0, 1) := by decide +kernel
theorem dX11_mean_1 : decode cX11_mean 1 = .ok (.getfield 10, 3) := by decide +kernel
theorem dX11_mean_4 : decode cX11_mean 4 = .ok (.iload_n 1, 1) := by decide +kernel
theorem dX11_mean_5 : decode cX11_mean 5 = .ok (.invokevirtual 121, 3) := by decide +kernel
theorem dX11_mean_8 : decode cX11_mean 8 = .ok (.astore 4, 2) := by decide +kernel
theorem dX11_mean_10 : decode cX11_mean 10 = .ok (.aload 4, 2) := by decide +kernel
theorem dX11_mean_12 : decode cX11_mean 12 = .ok (.ifnull 12, 3) := by decide +kernel
theorem dX11_mean_24 : decode cX11_mean 24 = .ok (.iconst (-1), 1) := by decide +kernel
theorem dX11_mean_25 : decode cX11_mean 25 = .ok (.ireturn, 1) := by decide +kernel
theorem dX11_trees_0 : decode cX11_trees 0 = .ok (.aload_n 0, 1) := by decide +kernel
theorem dX11_trees_1 : decode cX11_trees 1 = .ok (.getfield 10, 3) := by decide +kernel
theorem dX11_trees_4 : decode cX11_trees 4 = .ok (.iload_n 1, 1) := by decide +kernel
theorem dX11_trees_5 : decode cX11_trees 5 = .ok (.invokevirtual 121, 3) := by decide +kernel
theorem dX11_trees_8 : decode cX11_trees 8 = .ok (.astore_n 2, 1) := by decide +kernel
theorem dX11_trees_9 : decode cX11_trees 9 = .ok (.aload_n 2, 1) := by decide +kernel
theorem dX11_trees_10 : decode cX11_trees 10 = .ok (.ifnonnull 5, 3) := by decide +kernel
theorem dX11_trees_13 : decode cX11_trees 13 = .ok (.iconst (-1), 1) := by decide +kernel
theorem dX11_trees_14 : decode cX11_trees 14 = .ok (.ireturn, 1) := by decide +kernel
theorem dX11_game_0 : decode cX11_game 0 = .ok (.aload_n 0, 1) := by decide +kernel
theorem dX11_game_1 : decode cX11_game 1 = .ok (.getfield 10, 3) := by decide +kernel
theorem dX11_game_4 : decode cX11_game 4 = .ok (.iload_n 1, 1) := by decide +kernel
theorem dX11_game_5 : decode cX11_game 5 = .ok (.invokevirtual 121, 3) := by decide +kernel
theorem dX11_game_8 : decode cX11_game 8 = .ok (.astore 5, 2) := by decide +kernel
theorem dX11_game_10 : decode cX11_game 10 = .ok (.aload 5, 2) := by decide +kernel
theorem dX11_game_12 : decode cX11_game 12 = .ok (.ifnull 21, 3) := by decide +kernel
theorem dX11_game_33 : decode cX11_game 33 = .ok (.bipush (-9), 2) := by decide +kernel
theorem dX11_game_35 : decode cX11_game 35 = .ok (.ireturn, 1) := by decide +kernel
theorem dX11_fact_0 : decode cX11_fact 0 = .ok (.aload_n 0, 1) := by decide +kernel
theorem dX11_fact_1 : decode cX11_fact 1 = .ok (.getfield 10, 3) := by decide +kernel
theorem dX11_fact_4 : decode cX11_fact 4 = .ok (.iload_n 1, 1) := by decide +kernel
theorem dX11_fact_5 : decode cX11_fact 5 = .ok (.invokevirtual 138, 3) := by decide +kernel
theorem dX11_fact_8 : decode cX11_fact 8 = .ok (.astore 4, 2) := by decide +kernel
theorem dX11_fact_10 : decode cX11_fact 10 = .ok (.aload 4, 2) := by decide +kernel
theorem dX11_fact_12 : decode cX11_fact 12 = .ok (.ifnonnull 8, 3) := by decide +kernel
theorem dX11_fact_15 : decode cX11_fact 15 = .ok (.bipush (-2), 2) := by decide +kernel
theorem dX11_fact_17 : decode cX11_fact 17 = .ok (.goto 10, 3) := by decide +kernel
theorem dX11_fact_27 : decode cX11_fact 27 = .ok (.ireturn, 1) := by decide +kernel
theorem dX11_fits_0 : decode cX11_fits 0 = .ok (.aload_n 0, 1) := by decide +kernel
theorem dX11_fits_1 : decode cX11_fits 1 = .ok (.getfield 10, 3) := by decide +kernel
theorem dX11_fits_4 : decode cX11_fits 4 = .ok (.iload_n 1, 1) := by decide +kernel
theorem dX11_fits_5 : decode cX11_fits 5 = .ok (.invokevirtual 121, 3) := by decide +kernel
theorem dX11_fits_8 : decode cX11_fits 8 = .ok (.astore 4, 2) := by decide +kernel
theorem dX11_fits_10 : decode cX11_fits 10 = .ok (.aload_n 0, 1) := by decide +kernel
theorem dX11_fits_11 : decode cX11_fits 11 = .ok (.iload_n 1, 1) := by decide +kernel
theorem dX11_fits_12 : decode cX11_fits 12 = .ok (.iload_n 2, 1) := by decide +kernel
theorem dX11_fits_13 : decode cX11_fits 13 = .ok (.invokevirtual 302, 3) := by decide +kernel
theorem dX11_fits_16 : decode cX11_fits 16 = .ok (.ifCond .eq 12, 3) := by decide +kernel
theorem dX11_fits_28 : decode cX11_fits 28 = .ok (.bipush (-2), 2) := by decide +kernel
theorem dX11_fits_30 : decode cX11_fits 30 = .ok (.ireturn, 1) := by decide +kernel
theorem dX11_drawn_0 : decode cX11_drawn 0 = .ok (.aload_n 0, 1) := by decide +kernel
theorem dX11_drawn_1 : decode cX11_drawn 1 = .ok (.getfield 10, 3) := by decide +kernel
theorem dX11_drawn_4 : decode cX11_drawn 4 = .ok (.iload_n 1, 1) := by decide +kernel
theorem dX11_drawn_5 : decode cX11_drawn 5 = .ok (.invokevirtual 121, 3) := by decide +kernel
theorem dX11_drawn_8 : decode cX11_drawn 8 = .ok (.astore 5, 2) := by decide +kernel
theorem dX11_drawn_10 : decode cX11_drawn 10 = .ok (.aload 5, 2) := by decide +kernel
theorem dX11_drawn_12 : decode cX11_drawn 12 = .ok (.ifnull 13, 3) := by decide +kernel
theorem dX11_drawn_25 : decode cX11_drawn 25 = .ok (.bipush (-2), 2) := by decide +kernel
theorem dX11_drawn_27 : decode cX11_drawn 27 = .ok (.ireturn, 1) := by decide +kernel
theorem dX11_far_0 : decode cX11_far 0 = .ok (.aload_n 0, 1) := by decide +kernel
theorem dX11_far_1 : decode cX11_far 1 = .ok (.getfield 10, 3) := by decide +kernel
theorem dX11_far_4 : decode cX11_far 4 = .ok (.iload_n 1, 1) := by decide +kernel
theorem dX11_far_5 : decode cX11_far 5 = .ok (.invokevirtual 121, 3) := by decide +kernel
theorem dX11_far_8 : decode cX11_far 8 = .ok (.astore 4, 2) := by decide +kernel
theorem dX11_far_10 : decode cX11_far 10 = .ok (.aload 4, 2) := by decide +kernel
theorem dX11_far_12 : decode cX11_far 12 = .ok (.ifnull 21, 3) := by decide +kernel
theorem dX11_far_33 : decode cX11_far 33 = .ok (.iconst (-1), 1) := by decide +kernel
theorem dX11_far_34 : decode cX11_far 34 = .ok (.goto 10, 3) := by decide +kernel
theorem dX11_far_44 : decode cX11_far 44 = .ok (.ireturn, 1) := by decide +kernel
theorem dX11_reach_0 : decode cX11_reach 0 = .ok (.aload_n 0, 1) := by decide +kernel
theorem dX11_reach_1 : decode cX11_reach 1 = .ok (.getfield 10, 3) := by decide +kernel
theorem dX11_reach_4 : decode cX11_reach 4 = .ok (.iload_n 1, 1) := by decide +kernel
theorem dX11_reach_5 : decode cX11_reach 5 = .ok (.invokevirtual 121, 3) := by decide +kernel
theorem dX11_reach_8 : decode cX11_reach 8 = .ok (.astore 4, 2) := by decide +kernel
theorem dX11_reach_10 : decode cX11_reach 10 = .ok (.aload 4, 2) := by decide +kernel
theorem dX11_reach_12 : decode cX11_reach 12 = .ok (.ifnull 21, 3) := by decide +kernel
theorem dX11_reach_33 : decode cX11_reach 33 = .ok (.bipush (-2), 2) := by decide +kernel
theorem dX11_reach_35 : decode cX11_reach 35 = .ok (.ireturn, 1) := by decide +kernel
theorem dX11_classes_0 : decode cX11_classes 0 = .ok (.aload_n 0, 1) := by decide +kernel
theorem dX11_classes_1 : decode cX11_classes 1 = .ok (.getfield 10, 3) := by decide +kernel
theorem dX11_classes_4 : decode cX11_classes 4 = .ok (.iload_n 1, 1) := by decide +kernel
theorem dX11_classes_5 : decode cX11_classes 5 = .ok (.invokevirtual 121, 3) := by decide +kernel
theorem dX11_classes_8 : decode cX11_classes 8 = .ok (.astore_n 3, 1) := by decide +kernel
theorem dX11_classes_9 : decode cX11_classes 9 = .ok (.aload_n 3, 1) := by decide +kernel
theorem dX11_classes_10 : decode cX11_classes 10 = .ok (.ifnonnull 6, 3) := by decide +kernel
theorem dX11_classes_13 : decode cX11_classes 13 = .ok (.bipush (-2), 2) := by decide +kernel
theorem dX11_classes_15 : decode cX11_classes 15 = .ok (.ireturn, 1) := by decide +kernel
theorem dX11_led_0 : decode cX11_led 0 = .ok (.aload_n 0, 1) := by decide +kernel
theorem dX11_led_1 : decode cX11_led 1 = .ok (.getfield 10, 3) := by decide +kernel
theorem dX11_led_4 : decode cX11_led 4 = .ok (.iload_n 1, 1) := by decide +kernel
theorem dX11_led_5 : decode cX11_led 5 = .ok (.invokevirtual 121, 3) := by decide +kernel
theorem dX11_led_8 : decode cX11_led 8 = .ok (.astore 4, 2) := by decide +kernel
theorem dX11_led_10 : decode cX11_led 10 = .ok (.aload 4, 2) := by decide +kernel
theorem dX11_led_12 : decode cX11_led 12 = .ok (.ifnull 21, 3) := by decide +kernel
theorem dX11_led_33 : decode cX11_led 33 = .ok (.bipush (-2), 2) := by decide +kernel
theorem dX11_led_35 : decode cX11_led 35 = .ok (.ireturn, 1) := by decide +kernel
theorem dX11_cover_0 : decode cX11_cover 0 = .ok (.aload_n 0, 1) := by decide +kernel
theorem dX11_cover_1 : decode cX11_cover 1 = .ok (.getfield 10, 3) := by decide +kernel
theorem dX11_cover_4 : decode cX11_cover 4 = .ok (.iload_n 1, 1) := by decide +kernel
theorem dX11_cover_5 : decode cX11_cover 5 = .ok (.invokevirtual 121, 3) := by decide +kernel
theorem dX11_cover_8 : decode cX11_cover 8 = .ok (.astore 4, 2) := by decide +kernel
theorem dX11_cover_10 : decode cX11_cover 10 = .ok (.aload 4, 2) := by decide +kernel
theorem dX11_cover_12 : decode cX11_cover 12 = .ok (.ifnull 12, 3) := by decide +kernel
theorem dX11_cover_24 : decode cX11_cover 24 = .ok (.bipush (-2), 2) := by decide +kernel
theorem dX11_cover_26 : decode cX11_cover 26 = .ok (.ireturn, 1) := by decide +kernel
theorem dX11_share_0 : decode cX11_share 0 = .ok (.aload_n 0, 1) := by decide +kernel
theorem dX11_share_1 : decode cX11_share 1 = .ok (.getfield 10, 3) := by decide +kernel
theorem dX11_share_4 : decode cX11_share 4 = .ok (.iload_n 1, 1) := by decide +kernel
theorem dX11_share_5 : decode cX11_share 5 = .ok (.invokevirtual 121, 3) := by decide +kernel
theorem dX11_share_8 : decode cX11_share 8 = .ok (.astore 5, 2) := by decide +kernel
theorem dX11_share_10 : decode cX11_share 10 = .ok (.aload 5, 2) := by decide +kernel
theorem dX11_share_12 : decode cX11_share 12 = .ok (.ifnull 32, 3) := by decide +kernel
theorem dX11_share_44 : decode cX11_share 44 = .ok (.iconst (-1), 1) := by decide +kernel
theorem dX11_share_45 : decode cX11_share 45 = .ok (.ireturn, 1) := by decide +kernel
theorem dX11_longest_0 : decode cX11_longest 0 = .ok (.aload_n 0, 1) := by decide +kernel
theorem dX11_longest_1 : decode cX11_longest 1 = .ok (.getfield 10, 3) := by decide +kernel
theorem dX11_longest_4 : decode cX11_longest 4 = .ok (.iload_n 1, 1) := by decide +kernel
theorem dX11_longest_5 : decode cX11_longest 5 = .ok (.invokevirtual 121, 3) := by decide +kernel
theorem dX11_longest_8 : decode cX11_longest 8 = .ok (.astore 5, 2) := by decide +kernel
theorem dX11_longest_10 : decode cX11_longest 10 = .ok (.aload 5, 2) := by decide +kernel
theorem dX11_longest_12 : decode cX11_longest 12 = .ok (.ifnull 12, 3) := by decide +kernel
theorem dX11_longest_24 : decode cX11_longest 24 = .ok (.iconst (-1), 1) := by decide +kernel
theorem dX11_longest_25 : decode cX11_longest 25 = .ok (.ireturn, 1) := by decide +kernel
theorem dX11_back_0 : decode cX11_back 0 = .ok (.aload_n 0, 1) := by decide +kernel
theorem dX11_back_1 : decode cX11_back 1 = .ok (.getfield 10, 3) := by decide +kernel
theorem dX11_back_4 : decode cX11_back 4 = .ok (.iload_n 1, 1) := by decide +kernel
theorem dX11_back_5 : decode cX11_back 5 = .ok (.invokevirtual 121, 3) := by decide +kernel
theorem dX11_back_8 : decode cX11_back 8 = .ok (.astore_n 3, 1) := by decide +kernel
theorem dX11_back_9 : decode cX11_back 9 = .ok (.aload_n 3, 1) := by decide +kernel
theorem dX11_back_10 : decode cX11_back 10 = .ok (.ifnull 11, 3) := by decide +kernel
theorem dX11_back_21 : decode cX11_back 21 = .ok (.iconst (-1), 1) := by decide +kernel
theorem dX11_back_22 : decode cX11_back 22 = .ok (.ireturn, 1) := by decide +kernel
theorem dX11_keys_0 : decode cX11_keys 0 = .ok (.aload_n 0, 1) := by decide +kernel
theorem dX11_keys_1 : decode cX11_keys 1 = .ok (.getfield 10, 3) := by decide +kernel
theorem dX11_keys_4 : decode cX11_keys 4 = .ok (.iload_n 1, 1) := by decide +kernel
theorem dX11_keys_5 : decode cX11_keys 5 = .ok (.invokevirtual 121, 3) := by decide +kernel
theorem dX11_keys_8 : decode cX11_keys 8 = .ok (.astore 4, 2) := by decide +kernel
theorem dX11_keys_10 : decode cX11_keys 10 = .ok (.aload 4, 2) := by decide +kernel
theorem dX11_keys_12 : decode cX11_keys 12 = .ok (.ifnull 12, 3) := by decide +kernel
theorem dX11_keys_24 : decode cX11_keys 24 = .ok (.bipush (-2), 2) := by decide +kernel
theorem dX11_keys_26 : decode cX11_keys 26 = .ok (.ireturn, 1) := by decide +kernel
theorem dX11_after_0 : decode cX11_after 0 = .ok (.aload_n 0, 1) := by decide +kernel
theorem dX11_after_1 : decode cX11_after 1 = .ok (.getfield 10, 3) := by decide +kernel
theorem dX11_after_4 : decode cX11_after 4 = .ok (.iload_n 1, 1) := by decide +kernel
theorem dX11_after_5 : decode cX11_after 5 = .ok (.invokevirtual 121, 3) := by decide +kernel
theorem dX11_after_8 : decode cX11_after 8 = .ok (.astore 4, 2) := by decide +kernel
theorem dX11_after_10 : decode cX11_after 10 = .ok (.aload_n 0, 1) := by decide +kernel
theorem dX11_after_11 : decode cX11_after 11 = .ok (.getfield 10, 3) := by decide +kernel
theorem dX11_after_14 : decode cX11_after 14 = .ok (.iload_n 2, 1) := by decide +kernel
theorem dX11_after_15 : decode cX11_after 15 = .ok (.invokevirtual 130, 3) := by decide +kernel
theorem dX11_after_18 : decode cX11_after 18 = .ok (.astore 5, 2) := by decide +kernel
theorem dX11_after_20 : decode cX11_after 20 = .ok (.aload 4, 2) := by decide +kernel
theorem dX11_after_22 : decode cX11_after 22 = .ok (.ifnull 8, 3) := by decide +kernel
theorem dX11_after_30 : decode cX11_after 30 = .ok (.bipush (-2), 2) := by decide +kernel
theorem dX11_after_32 : decode cX11_after 32 = .ok (.ireturn, 1) := by decide +kernel
theorem dX11_odds_0 : decode cX11_odds 0 = .ok (.aload_n 0, 1) := by decide +kernel
theorem dX11_odds_1 : decode cX11_odds 1 = .ok (.getfield 10, 3) := by decide +kernel
theorem dX11_odds_4 : decode cX11_odds 4 = .ok (.iload_n 1, 1) := by decide +kernel
theorem dX11_odds_5 : decode cX11_odds 5 = .ok (.invokevirtual 121, 3) := by decide +kernel
theorem dX11_odds_8 : decode cX11_odds 8 = .ok (.astore 6, 2) := by decide +kernel
theorem dX11_odds_10 : decode cX11_odds 10 = .ok (.aload_n 0, 1) := by decide +kernel
theorem dX11_odds_11 : decode cX11_odds 11 = .ok (.iload_n 1, 1) := by decide +kernel
theorem dX11_odds_12 : decode cX11_odds 12 = .ok (.iload_n 2, 1) := by decide +kernel
theorem dX11_odds_13 : decode cX11_odds 13 = .ok (.invokevirtual 302, 3) := by decide +kernel
theorem dX11_odds_16 : decode cX11_odds 16 = .ok (.ifCond .eq 24, 3) := by decide +kernel
theorem dX11_odds_40 : decode cX11_odds 40 = .ok (.iconst (-1), 1) := by decide +kernel
theorem dX11_odds_41 : decode cX11_odds 41 = .ok (.ireturn, 1) := by decide +kernel
theorem dX11_least_0 : decode cX11_least 0 = .ok (.aload_n 0, 1) := by decide +kernel
theorem dX11_least_1 : decode cX11_least 1 = .ok (.iload_n 1, 1) := by decide +kernel
theorem dX11_least_2 : decode cX11_least 2 = .ok (.iload_n 2, 1) := by decide +kernel
theorem dX11_least_3 : decode cX11_least 3 = .ok (.invokevirtual 302, 3) := by decide +kernel
theorem dX11_least_6 : decode cX11_least 6 = .ok (.ifCond .eq 13, 3) := by decide +kernel
theorem dX11_least_19 : decode cX11_least 19 = .ok (.iconst (-1), 1) := by decide +kernel
theorem dX11_least_20 : decode cX11_least 20 = .ok (.ireturn, 1) := by decide +kernel
end
section
def zEnd (n : Int32) : Int32 := if n.toInt = 0 then 0 else -1
def zFault (n : Int32) : Int32 := if n.toInt = 0 then 0 else -1
def zCount (n : Int32) : Int32 := if 0 ≤ n.toInt ∧ n.toInt ≤ 2 then 0 else -2
def zImage (n : Int32) : Int32 := if 0 ≤ n.toInt ∧ n.toInt ≤ 2 then 1 else 0
set_option maxHeartbeats 4000000 in
set_option maxRecDepth 100000 in
/-- keep, sort 0 -/
theorem c_keep_0 (l : Launch) (T : zTy) (t0 : Nat) (n0 : Int32) (n1 : Int32) (n2 : Int32) (a1p : Nat) (a2p : Nat) (a3p : Nat) (a4p : Nat) (a5p : Nat) (f1p : Nat → Int32) (f3p : Nat → Option Nat) (f4p : Nat → Option Nat) (f5p : Nat → Option Nat) (l0p : Nat) (l1p : Nat) (d0p : Nat) (d1p : Nat) (g0p : Nat) (g1p : Nat) (w1p : va_W) (w2p : va_W) (w3p : va_W) (w4p : va_W) (w5p : va_W) (w6p : va_W) (h : Nat) (l0 : Nat) (d0 : Nat) (g0 : Nat) (tp : Nat) (r6 : Int32) (y1 : va_W) (y2 : va_W) (y3 : va_W) (hw0p : bLand T l0p w1p) (hw1p : bLand T l1p w2p) (hw2p : bDay T d0p w3p) (hw3p : bDay T d1p w4p) (hw4p : bLog T g0p w5p) (hw5p : bLog T g1p w6p) (he0p : f3p 0 = some l0p) (he1p : f3p 1 = some l1p) (he2p : f4p 0 = some d0p) (he3p : f4p 1 = some d1p) (he4p : f5p 0 = some g0p) (he5p : f5p 1 = some g1p) (hy1 : bLand T l0 y1) (hy2 : bDay T d0 y2) (hy3 : bLog T g0 y3) : zMv l T yX9_keep cX9_keep 4 2 0 0 [.ref t0, .int 0, .int 0, .ref h] [[(t0, .inr (8, [.ref a1p, .int n0, .int n1, .int n2, .ref a2p, .ref a3p, .ref a4p, .ref a5p]))], [(a1p, .inl (T.2 1, 600, .inl f1p))], [(a2p, .inl (T.2 0, 3, .inl (fun _ => 0)))], [(a3p, .inl (T.2 3, 2, .inr (.inr (.inr (.inr f3p)))))], [(a4p, .inl (T.2 4, 2, .inr (.inr (.inr (.inr f4p)))))], [(a5p, .inl (T.2 5, 2, .inr (.inr (.inr (.inr f5p)))))], w1p, w2p, w3p, w4p, w5p, w6p, [(h, .inr (7, [.ref l0, .ref d0, .ref g0, .int 0, .int (-1), .ref tp, .int 0, .int 0, .int 0, .int 0, .int r6, .int 0, .int 0]))], y1, y2, y3] (fun bs => bs = []) := by
  refine zMv_of (own := RX9) (by decide) rfl (Nat.le_of_ble_eq_true rfl) ?_
  intro p e s m args below meth c A ls C hr hlocks hnm hAe G hl
  have hx := C.1
  have hb := C.2.1
  have hl : lv_has ls 4 [(0, .ref t0), (1, .int 0), (2, .int 0), (3, .ref h)] := hl
  refine lv_iload_n hx hb dX9_keep_0 rfl (lv_at hl 1 rfl) ?_
  refine lv_if_lt (tgt := 18) hx hb dX9_keep_1 (by decide) (fun q => absurd q (by decide)) (fun _ => ?_)
  refine lv_iload_n hx hb dX9_keep_4 rfl (lv_at hl 1 rfl) ?_
  refine lv_iconst (v := 2) hx hb dX9_keep_5 (by decide) ?_
  refine lv_icmp_gt (tgt := 18) hx hb dX9_keep_6 (by decide) (fun q => absurd q (by decide)) (fun _ => ?_)
  refine lv_iload_n hx hb dX9_keep_9 rfl (lv_at hl 2 rfl) ?_
  refine lv_if_lt (tgt := 18) hx hb dX9_keep_10 (by decide) (fun q => absurd q (by decide)) (fun _ => ?_)
  refine lv_iload_n hx hb dX9_keep_13 rfl (lv_at hl 2 rfl) ?_
  refine lv_iconst (v := 2) hx hb dX9_keep_14 (by decide) ?_
  refine lv_icmp_lt (tgt := 19) hx hb dX9_keep_15 (by decide) (fun _ => ?_) (fun q => absurd (by decide) q)
  refine lv_iload_n hx hb dX9_keep_19 rfl (lv_at hl 1 rfl) ?_
  refine lv_if_ne (tgt := 39) hx hb dX9_keep_20 (by decide) (fun q => absurd (by decide) q) (fun _ => ?_)
  refine lv_aload_n hx hb dX9_keep_23 rfl (lv_at hl 0 rfl) ?_
  refine z_get C G clX9 0 rfl 5 (by decide) m_fl_RX9_26 rfl dX9_keep_24 ?_
  refine lv_iload_n hx hb dX9_keep_27 rfl (lv_at hl 2 rfl) ?_
  refine z_ald C G 3 3 rfl rfl (vp_in_nI (n := 0) (by decide) (by decide)) dX9_keep_28 ?_
  rw [show f3p ((0 : Int32).toNatClampNeg) = some l0p from he0p]
  refine lv_aload_n hx hb dX9_keep_29 rfl (lv_at hl 3 rfl) ?_
  refine z_get C G clX7 12 rfl 0 (by decide) m_fl_RX9_47 rfl dX9_keep_30 ?_
  refine z_Vv (bc := [w1p, y1]) (br := [[(t0, .inr (8, [.ref a1p, .int n0, .int n1, .int n2, .ref a2p, .ref a3p, .ref a4p, .ref a5p]))], [(a1p, .inl (T.2 1, 600, .inl f1p))], [(a2p, .inl (T.2 0, 3, .inl (fun _ => 0)))], [(a3p, .inl (T.2 3, 2, .inr (.inr (.inr (.inr f3p)))))], [(a4p, .inl (T.2 4, 2, .inr (.inr (.inr (.inr f4p)))))], [(a5p, .inl (T.2 5, 2, .inr (.inr (.inr (.inr f5p)))))], w2p, w3p, w4p, w5p, w6p, [(h, .inr (7, [.ref l0, .ref d0, .ref g0, .int 0, .int (-1), .ref tp, .int 0, .int 0, .int 0, .int 0, .int r6, .int 0, .int 0]))], y2, y3]) (As := [.ref l0]) (rest := []) C G (c_Land_takeAll l T l0p l0 w1p y1 hw0p hy1) (kV_RX9_53 C.2.2.2.2 (Nat.le_of_ble_eq_true rfl) (Nat.le_of_ble_eq_true rfl)) [6, 13] [0, 1, 2, 3, 4, 5, 7, 8, 9, 10, 11, 12, 14, 15] rfl rfl (ci := 4) (qc := (RX4, TX4, 6)) rfl rfl (List.mem_flatten.mpr ⟨_, List.mem_of_getElem? (i := 0) rfl, (bLand_mem hw0p).choose_spec⟩) rfl rfl hl.1 dX9_keep_33 (Nat.le_of_ble_eq_true rfl) (Nat.le_of_ble_eq_true rfl) (fun b1 H locs hw G => ?_)
  obtain ⟨w2_1, z2_2, rfl, h_3, h_4⟩ := hw
  have G : zS T A s.heap s [[(t0, .inr (8, [.ref a1p, .int n0, .int n1, .int n2, .ref a2p, .ref a3p, .ref a4p, .ref a5p]))], [(a1p, .inl (T.2 1, 600, .inl f1p))], [(a2p, .inl (T.2 0, 3, .inl (fun _ => 0)))], [(a3p, .inl (T.2 3, 2, .inr (.inr (.inr (.inr f3p)))))], [(a4p, .inl (T.2 4, 2, .inr (.inr (.inr (.inr f4p)))))], [(a5p, .inl (T.2 5, 2, .inr (.inr (.inr (.inr f5p)))))], w2p, w3p, w4p, w5p, w6p, [(h, .inr (7, [.ref l0, .ref d0, .ref g0, .int 0, .int (-1), .ref tp, .int 0, .int 0, .int 0, .int 0, .int r6, .int 0, .int 0]))], y2, y3, w2_1, z2_2] _ _ := G
  refine lv_goto (tgt := 73) hx hb dX9_keep_36 (by decide) ?_
  refine lv_aload_n hx hb dX9_keep_73 rfl (lv_at hl 0 rfl) ?_
  refine z_get C G clX9 0 rfl 4 (by decide) m_fl_RX9_19 rfl dX9_keep_74 ?_
  refine lv_iload_n hx hb dX9_keep_77 rfl (lv_at hl 1 rfl) ?_
  refine lv_aload_n hx hb dX9_keep_78 rfl (lv_at hl 0 rfl) ?_
  refine z_get C G clX9 0 rfl 4 (by decide) m_fl_RX9_19 rfl dX9_keep_79 ?_
  refine lv_iload_n hx hb dX9_keep_82 rfl (lv_at hl 1 rfl) ?_
  refine z_ild C G 2 rfl (vp_in_nI (n := 0) (by decide) (by decide)) dX9_keep_83 ?_
  refine lv_topi (fun v_6 ev_6 => ?_)
  subst ev_6
  refine lv_iload_n hx hb dX9_keep_84 rfl (lv_at hl 2 rfl) ?_
  refine lv_iconst (v := 1) hx hb dX9_keep_85 (by decide) ?_
  refine lv_iadd hx hb dX9_keep_86 ?_
  refine lv_topi (fun y_7 ey_7 => ?_)
  obtain rfl : y_7 = 1 := ey_7.trans (by decide)
  refine va_mmax hx hb (C.2.2.1.trans hl.1.symm) C.2.2.2.1 (C.2.2.2.2 _ m_ml_RX9_71) (C.2.2.2.2 _ m_st_math_max) (C.2.2.2.2 _ m_ii_math) (C.2.2.2.2 _ m_co_math_max) (Nat.le_of_ble_eq_true rfl) (Nat.le_of_ble_eq_true rfl) (Nat.le_of_ble_eq_true rfl) (Nat.le_of_ble_eq_true rfl) dX9_keep_87 ?_
  refine lv_topi (fun v_8 ev_8 => ?_)
  obtain rfl : v_8 = 1 := ev_8.trans (by decide)
  refine z_ist C G 2 rfl (vp_in_nI (n := 0) (by decide) (by decide)) dX9_keep_90 (fun H locs G => ?_)
  have G : zS T A s.heap s [[(t0, .inr (8, [.ref a1p, .int n0, .int n1, .int n2, .ref a2p, .ref a3p, .ref a4p, .ref a5p]))], [(a1p, .inl (T.2 1, 600, .inl f1p))], [(a2p, .inl (T.2 0, 3, .inl (upd (fun _ => 0) 0 1)))], [(a3p, .inl (T.2 3, 2, .inr (.inr (.inr (.inr f3p)))))], [(a4p, .inl (T.2 4, 2, .inr (.inr (.inr (.inr f4p)))))], [(a5p, .inl (T.2 5, 2, .inr (.inr (.inr (.inr f5p)))))], w2p, w3p, w4p, w5p, w6p, [(h, .inr (7, [.ref l0, .ref d0, .ref g0, .int 0, .int (-1), .ref tp, .int 0, .int 0, .int 0, .int 0, .int r6, .int 0, .int 0]))], y2, y3, w2_1, z2_2] _ _ := G
  have G := G.sub (bs' := []) [] rfl
  exact z_vret C hr hlocks G (Nat.le_of_ble_eq_true rfl) (Nat.le_of_ble_eq_true rfl) dX9_keep_91 rfl
set_option maxHeartbeats 4000000 in
set_option maxRecDepth 100000 in
/-- keep, sort 1 -/
theorem c_keep_1 (l : Launch) (T : zTy) (t0 : Nat) (n0 : Int32) (n1 : Int32) (n2 : Int32) (a1p : Nat) (a2p : Nat) (a3p : Nat) (a4p : Nat) (a5p : Nat) (f1p : Nat → Int32) (f3p : Nat → Option Nat) (f4p : Nat → Option Nat) (f5p : Nat → Option Nat) (l0p : Nat) (l1p : Nat) (d0p : Nat) (d1p : Nat) (g0p : Nat) (g1p : Nat) (w1p : va_W) (w2p : va_W) (w3p : va_W) (w4p : va_W) (w5p : va_W) (w6p : va_W) (h : Nat) (l0 : Nat) (d0 : Nat) (g0 : Nat) (tp : Nat) (r6 : Int32) (y1 : va_W) (y2 : va_W) (y3 : va_W) (hw0p : bLand T l0p w1p) (hw1p : bLand T l1p w2p) (hw2p : bDay T d0p w3p) (hw3p : bDay T d1p w4p) (hw4p : bLog T g0p w5p) (hw5p : bLog T g1p w6p) (he0p : f3p 0 = some l0p) (he1p : f3p 1 = some l1p) (he2p : f4p 0 = some d0p) (he3p : f4p 1 = some d1p) (he4p : f5p 0 = some g0p) (he5p : f5p 1 = some g1p) (hy1 : bLand T l0 y1) (hy2 : bDay T d0 y2) (hy3 : bLog T g0 y3) : zMv l T yX9_keep cX9_keep 4 2 0 0 [.ref t0, .int 1, .int 0, .ref h] [[(t0, .inr (8, [.ref a1p, .int n0, .int n1, .int n2, .ref a2p, .ref a3p, .ref a4p, .ref a5p]))], [(a1p, .inl (T.2 1, 600, .inl f1p))], [(a2p, .inl (T.2 0, 3, .inl (fun _ => 0)))], [(a3p, .inl (T.2 3, 2, .inr (.inr (.inr (.inr f3p)))))], [(a4p, .inl (T.2 4, 2, .inr (.inr (.inr (.inr f4p)))))], [(a5p, .inl (T.2 5, 2, .inr (.inr (.inr (.inr f5p)))))], w1p, w2p, w3p, w4p, w5p, w6p, [(h, .inr (7, [.ref l0, .ref d0, .ref g0, .int 0, .int (-1), .ref tp, .int 0, .int 0, .int 0, .int 0, .int r6, .int 0, .int 0]))], y1, y2, y3] (fun bs => bs = []) := by
  refine zMv_of (own := RX9) (by decide) rfl (Nat.le_of_ble_eq_true rfl) ?_
  intro p e s m args below meth c A ls C hr hlocks hnm hAe G hl
  have hx := C.1
  have hb := C.2.1
  have hl : lv_has ls 4 [(0, .ref t0), (1, .int 1), (2, .int 0), (3, .ref h)] := hl
  refine lv_iload_n hx hb dX9_keep_0 rfl (lv_at hl 1 rfl) ?_
  refine lv_if_lt (tgt := 18) hx hb dX9_keep_1 (by decide) (fun q => absurd q (by decide)) (fun _ => ?_)
  refine lv_iload_n hx hb dX9_keep_4 rfl (lv_at hl 1 rfl) ?_
  refine lv_iconst (v := 2) hx hb dX9_keep_5 (by decide) ?_
  refine lv_icmp_gt (tgt := 18) hx hb dX9_keep_6 (by decide) (fun q => absurd q (by decide)) (fun _ => ?_)
  refine lv_iload_n hx hb dX9_keep_9 rfl (lv_at hl 2 rfl) ?_
  refine lv_if_lt (tgt := 18) hx hb dX9_keep_10 (by decide) (fun q => absurd q (by decide)) (fun _ => ?_)
  refine lv_iload_n hx hb dX9_keep_13 rfl (lv_at hl 2 rfl) ?_
  refine lv_iconst (v := 2) hx hb dX9_keep_14 (by decide) ?_
  refine lv_icmp_lt (tgt := 19) hx hb dX9_keep_15 (by decide) (fun _ => ?_) (fun q => absurd (by decide) q)
  refine lv_iload_n hx hb dX9_keep_19 rfl (lv_at hl 1 rfl) ?_
  refine lv_if_ne (tgt := 39) hx hb dX9_keep_20 (by decide) (fun _ => ?_) (fun q => absurd q (by decide))
  refine lv_iload_n hx hb dX9_keep_39 rfl (lv_at hl 1 rfl) ?_
  refine lv_iconst (v := 1) hx hb dX9_keep_40 (by decide) ?_
  refine lv_icmp_ne (tgt := 60) hx hb dX9_keep_41 (by decide) (fun q => absurd (by decide) q) (fun _ => ?_)
  refine lv_aload_n hx hb dX9_keep_44 rfl (lv_at hl 0 rfl) ?_
  refine z_get C G clX9 0 rfl 6 (by decide) m_fl_RX9_33 rfl dX9_keep_45 ?_
  refine lv_iload_n hx hb dX9_keep_48 rfl (lv_at hl 2 rfl) ?_
  refine z_ald C G 4 4 rfl rfl (vp_in_nI (n := 0) (by decide) (by decide)) dX9_keep_49 ?_
  rw [show f4p ((0 : Int32).toNatClampNeg) = some d0p from he2p]
  refine lv_aload_n hx hb dX9_keep_50 rfl (lv_at hl 3 rfl) ?_
  refine z_get C G clX7 12 rfl 1 (by decide) m_fl_RX9_57 rfl dX9_keep_51 ?_
  refine z_Vv (bc := [w3p, y2]) (br := [[(t0, .inr (8, [.ref a1p, .int n0, .int n1, .int n2, .ref a2p, .ref a3p, .ref a4p, .ref a5p]))], [(a1p, .inl (T.2 1, 600, .inl f1p))], [(a2p, .inl (T.2 0, 3, .inl (fun _ => 0)))], [(a3p, .inl (T.2 3, 2, .inr (.inr (.inr (.inr f3p)))))], [(a4p, .inl (T.2 4, 2, .inr (.inr (.inr (.inr f4p)))))], [(a5p, .inl (T.2 5, 2, .inr (.inr (.inr (.inr f5p)))))], w1p, w2p, w4p, w5p, w6p, [(h, .inr (7, [.ref l0, .ref d0, .ref g0, .int 0, .int (-1), .ref tp, .int 0, .int 0, .int 0, .int 0, .int r6, .int 0, .int 0]))], y1, y3]) (As := [.ref d0]) (rest := []) C G (c_Day_takeAll l T d0p d0 w3p y2 hw2p hy2) (kV_RX9_61 C.2.2.2.2 (Nat.le_of_ble_eq_true rfl) (Nat.le_of_ble_eq_true rfl)) [8, 14] [0, 1, 2, 3, 4, 5, 6, 7, 9, 10, 11, 12, 13, 15] rfl rfl (ci := 2) (qc := (RX2, TX2, 4)) rfl rfl (List.mem_flatten.mpr ⟨_, List.mem_of_getElem? (i := 0) rfl, (bDay_mem hw2p).choose_spec⟩) rfl rfl hl.1 dX9_keep_54 (Nat.le_of_ble_eq_true rfl) (Nat.le_of_ble_eq_true rfl) (fun b1 H locs hw G => ?_)
  obtain ⟨w2_1, z2_2, rfl, h_3, h_4⟩ := hw
  have G : zS T A s.heap s [[(t0, .inr (8, [.ref a1p, .int n0, .int n1, .int n2, .ref a2p, .ref a3p, .ref a4p, .ref a5p]))], [(a1p, .inl (T.2 1, 600, .inl f1p))], [(a2p, .inl (T.2 0, 3, .inl (fun _ => 0)))], [(a3p, .inl (T.2 3, 2, .inr (.inr (.inr (.inr f3p)))))], [(a4p, .inl (T.2 4, 2, .inr (.inr (.inr (.inr f4p)))))], [(a5p, .inl (T.2 5, 2, .inr (.inr (.inr (.inr f5p)))))], w1p, w2p, w4p, w5p, w6p, [(h, .inr (7, [.ref l0, .ref d0, .ref g0, .int 0, .int (-1), .ref tp, .int 0, .int 0, .int 0, .int 0, .int r6, .int 0, .int 0]))], y1, y3, w2_1, z2_2] _ _ := G
  refine lv_goto (tgt := 73) hx hb dX9_keep_57 (by decide) ?_
  refine lv_aload_n hx hb dX9_keep_73 rfl (lv_at hl 0 rfl) ?_
  refine z_get C G clX9 0 rfl 4 (by decide) m_fl_RX9_19 rfl dX9_keep_74 ?_
  refine lv_iload_n hx hb dX9_keep_77 rfl (lv_at hl 1 rfl) ?_
  refine lv_aload_n hx hb dX9_keep_78 rfl (lv_at hl 0 rfl) ?_
  refine z_get C G clX9 0 rfl 4 (by decide) m_fl_RX9_19 rfl dX9_keep_79 ?_
  refine lv_iload_n hx hb dX9_keep_82 rfl (lv_at hl 1 rfl) ?_
  refine z_ild C G 2 rfl (vp_in_nI (n := 1) (by decide) (by decide)) dX9_keep_83 ?_
  refine lv_topi (fun v_6 ev_6 => ?_)
  subst ev_6
  refine lv_iload_n hx hb dX9_keep_84 rfl (lv_at hl 2 rfl) ?_
  refine lv_iconst (v := 1) hx hb dX9_keep_85 (by decide) ?_
  refine lv_iadd hx hb dX9_keep_86 ?_
  refine lv_topi (fun y_7 ey_7 => ?_)
  obtain rfl : y_7 = 1 := ey_7.trans (by decide)
  refine va_mmax hx hb (C.2.2.1.trans hl.1.symm) C.2.2.2.1 (C.2.2.2.2 _ m_ml_RX9_71) (C.2.2.2.2 _ m_st_math_max) (C.2.2.2.2 _ m_ii_math) (C.2.2.2.2 _ m_co_math_max) (Nat.le_of_ble_eq_true rfl) (Nat.le_of_ble_eq_true rfl) (Nat.le_of_ble_eq_true rfl) (Nat.le_of_ble_eq_true rfl) dX9_keep_87 ?_
  refine lv_topi (fun v_8 ev_8 => ?_)
  obtain rfl : v_8 = 1 := ev_8.trans (by decide)
  refine z_ist C G 2 rfl (vp_in_nI (n := 1) (by decide) (by decide)) dX9_keep_90 (fun H locs G => ?_)
  have G : zS T A s.heap s [[(t0, .inr (8, [.ref a1p, .int n0, .int n1, .int n2, .ref a2p, .ref a3p, .ref a4p, .ref a5p]))], [(a1p, .inl (T.2 1, 600, .inl f1p))], [(a2p, .inl (T.2 0, 3, .inl (upd (fun _ => 0) 1 1)))], [(a3p, .inl (T.2 3, 2, .inr (.inr (.inr (.inr f3p)))))], [(a4p, .inl (T.2 4, 2, .inr (.inr (.inr (.inr f4p)))))], [(a5p, .inl (T.2 5, 2, .inr (.inr (.inr (.inr f5p)))))], w1p, w2p, w4p, w5p, w6p, [(h, .inr (7, [.ref l0, .ref d0, .ref g0, .int 0, .int (-1), .ref tp, .int 0, .int 0, .int 0, .int 0, .int r6, .int 0, .int 0]))], y1, y3, w2_1, z2_2] _ _ := G
  have G := G.sub (bs' := []) [] rfl
  exact z_vret C hr hlocks G (Nat.le_of_ble_eq_true rfl) (Nat.le_of_ble_eq_true rfl) dX9_keep_91 rfl
set_option maxHeartbeats 4000000 in
set_option maxRecDepth 100000 in
/-- keep, sort 2 -/
theorem c_keep_2 (l : Launch) (T : zTy) (t0 : Nat) (n0 : Int32) (n1 : Int32) (n2 : Int32) (a1p : Nat) (a2p : Nat) (a3p : Nat) (a4p : Nat) (a5p : Nat) (f1p : Nat → Int32) (f3p : Nat → Option Nat) (f4p : Nat → Option Nat) (f5p : Nat → Option Nat) (l0p : Nat) (l1p : Nat) (d0p : Nat) (d1p : Nat) (g0p : Nat) (g1p : Nat) (w1p : va_W) (w2p : va_W) (w3p : va_W) (w4p : va_W) (w5p : va_W) (w6p : va_W) (h : Nat) (l0 : Nat) (d0 : Nat) (g0 : Nat) (tp : Nat) (r6 : Int32) (y1 : va_W) (y2 : va_W) (y3 : va_W) (hw0p : bLand T l0p w1p) (hw1p : bLand T l1p w2p) (hw2p : bDay T d0p w3p) (hw3p : bDay T d1p w4p) (hw4p : bLog T g0p w5p) (hw5p : bLog T g1p w6p) (he0p : f3p 0 = some l0p) (he1p : f3p 1 = some l1p) (he2p : f4p 0 = some d0p) (he3p : f4p 1 = some d1p) (he4p : f5p 0 = some g0p) (he5p : f5p 1 = some g1p) (hy1 : bLand T l0 y1) (hy2 : bDay T d0 y2) (hy3 : bLog T g0 y3) : zMv l T yX9_keep cX9_keep 4 2 0 0 [.ref t0, .int 2, .int 0, .ref h] [[(t0, .inr (8, [.ref a1p, .int n0, .int n1, .int n2, .ref a2p, .ref a3p, .ref a4p, .ref a5p]))], [(a1p, .inl (T.2 1, 600, .inl f1p))], [(a2p, .inl (T.2 0, 3, .inl (fun _ => 0)))], [(a3p, .inl (T.2 3, 2, .inr (.inr (.inr (.inr f3p)))))], [(a4p, .inl (T.2 4, 2, .inr (.inr (.inr (.inr f4p)))))], [(a5p, .inl (T.2 5, 2, .inr (.inr (.inr (.inr f5p)))))], w1p, w2p, w3p, w4p, w5p, w6p, [(h, .inr (7, [.ref l0, .ref d0, .ref g0, .int 0, .int (-1), .ref tp, .int 0, .int 0, .int 0, .int 0, .int r6, .int 0, .int 0]))], y1, y2, y3] (fun bs => bs = []) := by
  refine zMv_of (own := RX9) (by decide) rfl (Nat.le_of_ble_eq_true rfl) ?_
  intro p e s m args below meth c A ls C hr hlocks hnm hAe G hl
  have hx := C.1
  have hb := C.2.1
  have hl : lv_has ls 4 [(0, .ref t0), (1, .int 2), (2, .int 0), (3, .ref h)] := hl
  refine lv_iload_n hx hb dX9_keep_0 rfl (lv_at hl 1 rfl) ?_
  refine lv_if_lt (tgt := 18) hx hb dX9_keep_1 (by decide) (fun q => absurd q (by decide)) (fun _ => ?_)
  refine lv_iload_n hx hb dX9_keep_4 rfl (lv_at hl 1 rfl) ?_
  refine lv_iconst (v := 2) hx hb dX9_keep_5 (by decide) ?_
  refine lv_icmp_gt (tgt := 18) hx hb dX9_keep_6 (by decide) (fun q => absurd q (by decide)) (fun _ => ?_)
  refine lv_iload_n hx hb dX9_keep_9 rfl (lv_at hl 2 rfl) ?_
  refine lv_if_lt (tgt := 18) hx hb dX9_keep_10 (by decide) (fun q => absurd q (by decide)) (fun _ => ?_)
  refine lv_iload_n hx hb dX9_keep_13 rfl (lv_at hl 2 rfl) ?_
  refine lv_iconst (v := 2) hx hb dX9_keep_14 (by decide) ?_
  refine lv_icmp_lt (tgt := 19) hx hb dX9_keep_15 (by decide) (fun _ => ?_) (fun q => absurd (by decide) q)
  refine lv_iload_n hx hb dX9_keep_19 rfl (lv_at hl 1 rfl) ?_
  refine lv_if_ne (tgt := 39) hx hb dX9_keep_20 (by decide) (fun _ => ?_) (fun q => absurd q (by decide))
  refine lv_iload_n hx hb dX9_keep_39 rfl (lv_at hl 1 rfl) ?_
  refine lv_iconst (v := 1) hx hb dX9_keep_40 (by decide) ?_
  refine lv_icmp_ne (tgt := 60) hx hb dX9_keep_41 (by decide) (fun _ => ?_) (fun q => absurd q (by decide))
  refine lv_aload_n hx hb dX9_keep_60 rfl (lv_at hl 0 rfl) ?_
  refine z_get C G clX9 0 rfl 7 (by decide) m_fl_RX9_40 rfl dX9_keep_61 ?_
  refine lv_iload_n hx hb dX9_keep_64 rfl (lv_at hl 2 rfl) ?_
  refine z_ald C G 5 5 rfl rfl (vp_in_nI (n := 0) (by decide) (by decide)) dX9_keep_65 ?_
  rw [show f5p ((0 : Int32).toNatClampNeg) = some g0p from he4p]
  refine lv_aload_n hx hb dX9_keep_66 rfl (lv_at hl 3 rfl) ?_
  refine z_get C G clX7 12 rfl 2 (by decide) m_fl_RX9_64 rfl dX9_keep_67 ?_
  refine z_Vv (bc := [w5p, y3]) (br := [[(t0, .inr (8, [.ref a1p, .int n0, .int n1, .int n2, .ref a2p, .ref a3p, .ref a4p, .ref a5p]))], [(a1p, .inl (T.2 1, 600, .inl f1p))], [(a2p, .inl (T.2 0, 3, .inl (fun _ => 0)))], [(a3p, .inl (T.2 3, 2, .inr (.inr (.inr (.inr f3p)))))], [(a4p, .inl (T.2 4, 2, .inr (.inr (.inr (.inr f4p)))))], [(a5p, .inl (T.2 5, 2, .inr (.inr (.inr (.inr f5p)))))], w1p, w2p, w3p, w4p, w6p, [(h, .inr (7, [.ref l0, .ref d0, .ref g0, .int 0, .int (-1), .ref tp, .int 0, .int 0, .int 0, .int 0, .int r6, .int 0, .int 0]))], y1, y2]) (As := [.ref g0]) (rest := []) C G (c_Log_takeAll l T g0p g0 w5p y3 hw4p hy3) (kV_RX9_68 C.2.2.2.2 (Nat.le_of_ble_eq_true rfl) (Nat.le_of_ble_eq_true rfl)) [10, 15] [0, 1, 2, 3, 4, 5, 6, 7, 8, 9, 11, 12, 13, 14] rfl rfl (ci := 5) (qc := (RX5, TX5, 3)) rfl rfl (List.mem_flatten.mpr ⟨_, List.mem_of_getElem? (i := 0) rfl, (bLog_mem hw4p).choose_spec⟩) rfl rfl hl.1 dX9_keep_70 (Nat.le_of_ble_eq_true rfl) (Nat.le_of_ble_eq_true rfl) (fun b1 H locs hw G => ?_)
  obtain ⟨w2_1, z2_2, rfl, h_3, h_4⟩ := hw
  have G : zS T A s.heap s [[(t0, .inr (8, [.ref a1p, .int n0, .int n1, .int n2, .ref a2p, .ref a3p, .ref a4p, .ref a5p]))], [(a1p, .inl (T.2 1, 600, .inl f1p))], [(a2p, .inl (T.2 0, 3, .inl (fun _ => 0)))], [(a3p, .inl (T.2 3, 2, .inr (.inr (.inr (.inr f3p)))))], [(a4p, .inl (T.2 4, 2, .inr (.inr (.inr (.inr f4p)))))], [(a5p, .inl (T.2 5, 2, .inr (.inr (.inr (.inr f5p)))))], w1p, w2p, w3p, w4p, w6p, [(h, .inr (7, [.ref l0, .ref d0, .ref g0, .int 0, .int (-1), .ref tp, .int 0, .int 0, .int 0, .int 0, .int r6, .int 0, .int 0]))], y1, y2, w2_1, z2_2] _ _ := G
  refine lv_aload_n hx hb dX9_keep_73 rfl (lv_at hl 0 rfl) ?_
  refine z_get C G clX9 0 rfl 4 (by decide) m_fl_RX9_19 rfl dX9_keep_74 ?_
  refine lv_iload_n hx hb dX9_keep_77 rfl (lv_at hl 1 rfl) ?_
  refine lv_aload_n hx hb dX9_keep_78 rfl (lv_at hl 0 rfl) ?_
  refine z_get C G clX9 0 rfl 4 (by decide) m_fl_RX9_19 rfl dX9_keep_79 ?_
  refine lv_iload_n hx hb dX9_keep_82 rfl (lv_at hl 1 rfl) ?_
  refine z_ild C G 2 rfl (vp_in_nI (n := 2) (by decide) (by decide)) dX9_keep_83 ?_
  refine lv_topi (fun v_6 ev_6 => ?_)
  subst ev_6
  refine lv_iload_n hx hb dX9_keep_84 rfl (lv_at hl 2 rfl) ?_
  refine lv_iconst (v := 1) hx hb dX9_keep_85 (by decide) ?_
  refine lv_iadd hx hb dX9_keep_86 ?_
  refine lv_topi (fun y_7 ey_7 => ?_)
  obtain rfl : y_7 = 1 := ey_7.trans (by decide)
  refine va_mmax hx hb (C.2.2.1.trans hl.1.symm) C.2.2.2.1 (C.2.2.2.2 _ m_ml_RX9_71) (C.2.2.2.2 _ m_st_math_max) (C.2.2.2.2 _ m_ii_math) (C.2.2.2.2 _ m_co_math_max) (Nat.le_of_ble_eq_true rfl) (Nat.le_of_ble_eq_true rfl) (Nat.le_of_ble_eq_true rfl) (Nat.le_of_ble_eq_true rfl) dX9_keep_87 ?_
  refine lv_topi (fun v_8 ev_8 => ?_)
  obtain rfl : v_8 = 1 := ev_8.trans (by decide)
  refine z_ist C G 2 rfl (vp_in_nI (n := 2) (by decide) (by decide)) dX9_keep_90 (fun H locs G => ?_)
  have G : zS T A s.heap s [[(t0, .inr (8, [.ref a1p, .int n0, .int n1, .int n2, .ref a2p, .ref a3p, .ref a4p, .ref a5p]))], [(a1p, .inl (T.2 1, 600, .inl f1p))], [(a2p, .inl (T.2 0, 3, .inl (upd (fun _ => 0) 2 1)))], [(a3p, .inl (T.2 3, 2, .inr (.inr (.inr (.inr f3p)))))], [(a4p, .inl (T.2 4, 2, .inr (.inr (.inr (.inr f4p)))))], [(a5p, .inl (T.2 5, 2, .inr (.inr (.inr (.inr f5p)))))], w1p, w2p, w3p, w4p, w6p, [(h, .inr (7, [.ref l0, .ref d0, .ref g0, .int 0, .int (-1), .ref tp, .int 0, .int 0, .int 0, .int 0, .int r6, .int 0, .int 0]))], y1, y2, w2_1, z2_2] _ _ := G
  have G := G.sub (bs' := []) [] rfl
  exact z_vret C hr hlocks G (Nat.le_of_ble_eq_true rfl) (Nat.le_of_ble_eq_true rfl) dX9_keep_91 rfl
set_option maxHeartbeats 4000000 in
set_option maxRecDepth 100000 in
/-- forgetWhatFollows -/
theorem c_forget0 (l : Launch) (T : zTy) (x : Nat) (t0 : Nat) (ia : Nat) (im : Nat) (rd : Nat) (po : Nat) (co : Nat) (tr : Nat) (wa : Nat) (wb : Nat) (fi : Nat) (cd : Nat) (w1 : va_W) (w2 : va_W) (w3 : va_W) (of : Int32) (hw1 : bWays T wa w1) (hw2 : bWays T wb w2) (hw3 : bFit T fi w3) : zMv l T yX11_forgetWhatFollows cX11_forgetWhatFollows 2 1 0 0 [.ref x, .int of] [[(x, .inr (10, [.ref t0, .ref ia, .ref im, .ref rd, .ref po, .ref co, .ref tr, .ref wa, .ref wb, .ref fi, .ref cd]))], w1, w2, w3] (fun bs => bs = []) := by
  refine zMv_of (own := RX11) (by decide) rfl (Nat.le_of_ble_eq_true rfl) ?_
  intro p e s m args below meth c A ls C hr hlocks hnm hAe G hl
  have hx := C.1
  have hb := C.2.1
  have hl : lv_has ls 2 [(0, .ref x), (1, .int of)] := hl
  obtain ⟨l0_1, a1_2, a2_3, a3_4, a4_5, a5_6, a6_7, v0_8, v1_9, v2_10, f1_11, f2_12, f3_13, f4_14, f5_15, f6_16, n4_17, n5_18, n6_19, w1_20, rfl, h_21⟩ := hw1
  have G : zS T A s.heap s [[(x, .inr (10, [.ref t0, .ref ia, .ref im, .ref rd, .ref po, .ref co, .ref tr, .ref wa, .ref wb, .ref fi, .ref cd]))], [(wa, .inr (0, [.int v0_8, .int v1_9, .ref l0_1, .int v2_10, .ref a1_2, .ref a2_3, .ref a3_4, .ref a4_5, .ref a5_6, .ref a6_7]))], [(a1_2, .inl (T.2 0, 7, .inl f1_11))], [(a2_3, .inl (T.2 0, 7, .inl f2_12))], [(a3_4, .inl (T.2 0, 7, .inl f3_13))], [(a4_5, .inl (T.2 0, n4_17, .inl f4_14))], [(a5_6, .inl (T.2 0, n5_18, .inl f5_15))], [(a6_7, .inl (T.2 0, n6_19, .inl f6_16))], w1_20, w2, w3] _ _ := G.re (by simp only [List.flatten_cons, List.flatten_append, List.flatten_nil, List.append_assoc, List.cons_append, List.nil_append, List.append_nil])
  obtain ⟨l0_22, a1_23, a2_24, a3_25, a4_26, a5_27, a6_28, v0_29, v1_30, v2_31, f1_32, f2_33, f3_34, f4_35, f5_36, f6_37, n4_38, n5_39, n6_40, w1_41, rfl, h_42⟩ := hw2
  have G : zS T A s.heap s [[(x, .inr (10, [.ref t0, .ref ia, .ref im, .ref rd, .ref po, .ref co, .ref tr, .ref wa, .ref wb, .ref fi, .ref cd]))], [(wa, .inr (0, [.int v0_8, .int v1_9, .ref l0_1, .int v2_10, .ref a1_2, .ref a2_3, .ref a3_4, .ref a4_5, .ref a5_6, .ref a6_7]))], [(a1_2, .inl (T.2 0, 7, .inl f1_11))], [(a2_3, .inl (T.2 0, 7, .inl f2_12))], [(a3_4, .inl (T.2 0, 7, .inl f3_13))], [(a4_5, .inl (T.2 0, n4_17, .inl f4_14))], [(a5_6, .inl (T.2 0, n5_18, .inl f5_15))], [(a6_7, .inl (T.2 0, n6_19, .inl f6_16))], w1_20, [(wb, .inr (0, [.int v0_29, .int v1_30, .ref l0_22, .int v2_31, .ref a1_23, .ref a2_24, .ref a3_25, .ref a4_26, .ref a5_27, .ref a6_28]))], [(a1_23, .inl (T.2 0, 7, .inl f1_32))], [(a2_24, .inl (T.2 0, 7, .inl f2_33))], [(a3_25, .inl (T.2 0, 7, .inl f3_34))], [(a4_26, .inl (T.2 0, n4_38, .inl f4_35))], [(a5_27, .inl (T.2 0, n5_39, .inl f5_36))], [(a6_28, .inl (T.2 0, n6_40, .inl f6_37))], w1_41, w3] _ _ := G.re (by simp only [List.flatten_cons, List.flatten_append, List.flatten_nil, List.append_assoc, List.cons_append, List.nil_append, List.append_nil])
  obtain ⟨a1_43, a2_44, v0_45, v1_46, v2_47, v3_48, v4_49, v5_50, f1_51, f2_52, n1_53, rfl⟩ := hw3
  have G : zS T A s.heap s [[(x, .inr (10, [.ref t0, .ref ia, .ref im, .ref rd, .ref po, .ref co, .ref tr, .ref wa, .ref wb, .ref fi, .ref cd]))], [(wa, .inr (0, [.int v0_8, .int v1_9, .ref l0_1, .int v2_10, .ref a1_2, .ref a2_3, .ref a3_4, .ref a4_5, .ref a5_6, .ref a6_7]))], [(a1_2, .inl (T.2 0, 7, .inl f1_11))], [(a2_3, .inl (T.2 0, 7, .inl f2_12))], [(a3_4, .inl (T.2 0, 7, .inl f3_13))], [(a4_5, .inl (T.2 0, n4_17, .inl f4_14))], [(a5_6, .inl (T.2 0, n5_18, .inl f5_15))], [(a6_7, .inl (T.2 0, n6_19, .inl f6_16))], w1_20, [(wb, .inr (0, [.int v0_29, .int v1_30, .ref l0_22, .int v2_31, .ref a1_23, .ref a2_24, .ref a3_25, .ref a4_26, .ref a5_27, .ref a6_28]))], [(a1_23, .inl (T.2 0, 7, .inl f1_32))], [(a2_24, .inl (T.2 0, 7, .inl f2_33))], [(a3_25, .inl (T.2 0, 7, .inl f3_34))], [(a4_26, .inl (T.2 0, n4_38, .inl f4_35))], [(a5_27, .inl (T.2 0, n5_39, .inl f5_36))], [(a6_28, .inl (T.2 0, n6_40, .inl f6_37))], w1_41, [(fi, .inr (3, [.int v0_45, .int v1_46, .int v2_47, .int v3_48, .int v4_49, .int v5_50, .ref a1_43, .ref a2_44]))], [(a1_43, .inl (T.2 0, n1_53, .inl f1_51))], [(a2_44, .inl (T.2 0, 7, .inl f2_52))]] _ _ := G.re rfl
  refine lv_aload_n hx hb dX11_forgetWhatFollows_0 rfl (lv_at hl 0 rfl) ?_
  refine z_get C G clX11 0 rfl 9 (by decide) m_fl_RX11_65 rfl dX11_forgetWhatFollows_1 ?_
  refine lv_iconst (v := 0) hx hb dX11_forgetWhatFollows_4 (by decide) ?_
  refine z_put C G clX3 17 rfl 0 (by decide) m_fl_RX11_109 rfl rfl rfl (Nat.le_of_ble_eq_true rfl) dX11_forgetWhatFollows_5 (fun H locs G => ?_)
  have G : zS T A s.heap s [[(x, .inr (10, [.ref t0, .ref ia, .ref im, .ref rd, .ref po, .ref co, .ref tr, .ref wa, .ref wb, .ref fi, .ref cd]))], [(wa, .inr (0, [.int v0_8, .int v1_9, .ref l0_1, .int v2_10, .ref a1_2, .ref a2_3, .ref a3_4, .ref a4_5, .ref a5_6, .ref a6_7]))], [(a1_2, .inl (T.2 0, 7, .inl f1_11))], [(a2_3, .inl (T.2 0, 7, .inl f2_12))], [(a3_4, .inl (T.2 0, 7, .inl f3_13))], [(a4_5, .inl (T.2 0, n4_17, .inl f4_14))], [(a5_6, .inl (T.2 0, n5_18, .inl f5_15))], [(a6_7, .inl (T.2 0, n6_19, .inl f6_16))], w1_20, [(wb, .inr (0, [.int v0_29, .int v1_30, .ref l0_22, .int v2_31, .ref a1_23, .ref a2_24, .ref a3_25, .ref a4_26, .ref a5_27, .ref a6_28]))], [(a1_23, .inl (T.2 0, 7, .inl f1_32))], [(a2_24, .inl (T.2 0, 7, .inl f2_33))], [(a3_25, .inl (T.2 0, 7, .inl f3_34))], [(a4_26, .inl (T.2 0, n4_38, .inl f4_35))], [(a5_27, .inl (T.2 0, n5_39, .inl f5_36))], [(a6_28, .inl (T.2 0, n6_40, .inl f6_37))], w1_41, [(fi, .inr (3, [.int 0, .int v1_46, .int v2_47, .int v3_48, .int v4_49, .int v5_50, .ref a1_43, .ref a2_44]))], [(a1_43, .inl (T.2 0, n1_53, .inl f1_51))], [(a2_44, .inl (T.2 0, 7, .inl f2_52))]] _ _ := G
  refine lv_iload_n hx hb dX11_forgetWhatFollows_8 rfl (lv_at hl 1 rfl) ?_
  refine lv_if_eq (tgt := 28) hx hb dX11_forgetWhatFollows_9 (by decide) (fun c_54 => ?_) (fun c_54 => ?_)
  · have c_54n : of.toInt = (0 : Int) := (fa_eq _ _).mp c_54
    have G := G.sub (bs' := []) [] rfl
    exact z_vret C hr hlocks G (Nat.le_of_ble_eq_true rfl) (Nat.le_of_ble_eq_true rfl) dX11_forgetWhatFollows_28 rfl
  · have c_54n : ¬ of.toInt = (0 : Int) := fun q => c_54 ((fa_eq _ _).mpr q)
    refine lv_aload_n hx hb dX11_forgetWhatFollows_12 rfl (lv_at hl 0 rfl) ?_
    refine z_get C G clX11 0 rfl 7 (by decide) m_fl_RX11_55 rfl dX11_forgetWhatFollows_13 ?_
    refine lv_iconst (v := 0) hx hb dX11_forgetWhatFollows_16 (by decide) ?_
    refine z_put C G clX0 1 rfl 0 (by decide) m_fl_RX11_113 rfl rfl rfl (Nat.le_of_ble_eq_true rfl) dX11_forgetWhatFollows_17 (fun H locs G => ?_)
    have G : zS T A s.heap s [[(x, .inr (10, [.ref t0, .ref ia, .ref im, .ref rd, .ref po, .ref co, .ref tr, .ref wa, .ref wb, .ref fi, .ref cd]))], [(wa, .inr (0, [.int 0, .int v1_9, .ref l0_1, .int v2_10, .ref a1_2, .ref a2_3, .ref a3_4, .ref a4_5, .ref a5_6, .ref a6_7]))], [(a1_2, .inl (T.2 0, 7, .inl f1_11))], [(a2_3, .inl (T.2 0, 7, .inl f2_12))], [(a3_4, .inl (T.2 0, 7, .inl f3_13))], [(a4_5, .inl (T.2 0, n4_17, .inl f4_14))], [(a5_6, .inl (T.2 0, n5_18, .inl f5_15))], [(a6_7, .inl (T.2 0, n6_19, .inl f6_16))], w1_20, [(wb, .inr (0, [.int v0_29, .int v1_30, .ref l0_22, .int v2_31, .ref a1_23, .ref a2_24, .ref a3_25, .ref a4_26, .ref a5_27, .ref a6_28]))], [(a1_23, .inl (T.2 0, 7, .inl f1_32))], [(a2_24, .inl (T.2 0, 7, .inl f2_33))], [(a3_25, .inl (T.2 0, 7, .inl f3_34))], [(a4_26, .inl (T.2 0, n4_38, .inl f4_35))], [(a5_27, .inl (T.2 0, n5_39, .inl f5_36))], [(a6_28, .inl (T.2 0, n6_40, .inl f6_37))], w1_41, [(fi, .inr (3, [.int 0, .int v1_46, .int v2_47, .int v3_48, .int v4_49, .int v5_50, .ref a1_43, .ref a2_44]))], [(a1_43, .inl (T.2 0, n1_53, .inl f1_51))], [(a2_44, .inl (T.2 0, 7, .inl f2_52))]] _ _ := G
    refine lv_aload_n hx hb dX11_forgetWhatFollows_20 rfl (lv_at hl 0 rfl) ?_
    refine z_get C G clX11 0 rfl 8 (by decide) m_fl_RX11_59 rfl dX11_forgetWhatFollows_21 ?_
    refine lv_iconst (v := 0) hx hb dX11_forgetWhatFollows_24 (by decide) ?_
    refine z_put C G clX0 9 rfl 0 (by decide) m_fl_RX11_113 rfl rfl rfl (Nat.le_of_ble_eq_true rfl) dX11_forgetWhatFollows_25 (fun H locs G => ?_)
    have G : zS T A s.heap s [[(x, .inr (10, [.ref t0, .ref ia, .ref im, .ref rd, .ref po, .ref co, .ref tr, .ref wa, .ref wb, .ref fi, .ref cd]))], [(wa, .inr (0, [.int 0, .int v1_9, .ref l0_1, .int v2_10, .ref a1_2, .ref a2_3, .ref a3_4, .ref a4_5, .ref a5_6, .ref a6_7]))], [(a1_2, .inl (T.2 0, 7, .inl f1_11))], [(a2_3, .inl (T.2 0, 7, .inl f2_12))], [(a3_4, .inl (T.2 0, 7, .inl f3_13))], [(a4_5, .inl (T.2 0, n4_17, .inl f4_14))], [(a5_6, .inl (T.2 0, n5_18, .inl f5_15))], [(a6_7, .inl (T.2 0, n6_19, .inl f6_16))], w1_20, [(wb, .inr (0, [.int 0, .int v1_30, .ref l0_22, .int v2_31, .ref a1_23, .ref a2_24, .ref a3_25, .ref a4_26, .ref a5_27, .ref a6_28]))], [(a1_23, .inl (T.2 0, 7, .inl f1_32))], [(a2_24, .inl (T.2 0, 7, .inl f2_33))], [(a3_25, .inl (T.2 0, 7, .inl f3_34))], [(a4_26, .inl (T.2 0, n4_38, .inl f4_35))], [(a5_27, .inl (T.2 0, n5_39, .inl f5_36))], [(a6_28, .inl (T.2 0, n6_40, .inl f6_37))], w1_41, [(fi, .inr (3, [.int 0, .int v1_46, .int v2_47, .int v3_48, .int v4_49, .int v5_50, .ref a1_43, .ref a2_44]))], [(a1_43, .inl (T.2 0, n1_53, .inl f1_51))], [(a2_44, .inl (T.2 0, 7, .inl f2_52))]] _ _ := G
    have G := G.sub (bs' := []) [] rfl
    exact z_vret C hr hlocks G (Nat.le_of_ble_eq_true rfl) (Nat.le_of_ble_eq_true rfl) dX11_forgetWhatFollows_28 rfl
set_option maxHeartbeats 4000000 in
set_option maxRecDepth 100000 in
/-- text: on a new object -/
theorem c_x_text (l : Launch) (T : zTy) (x : Nat) (t0 : Nat) (ia : Nat) (im : Nat) (rd : Nat) (po : Nat) (co : Nat) (tr : Nat) (wa : Nat) (wb : Nat) (fi : Nat) (cd : Nat) (a1p : Nat) (a2p : Nat) (a3p : Nat) (a4p : Nat) (a5p : Nat) (f1p : Nat → Int32) (f3p : Nat → Option Nat) (f4p : Nat → Option Nat) (f5p : Nat → Option Nat) (l0p : Nat) (l1p : Nat) (d0p : Nat) (d1p : Nat) (g0p : Nat) (g1p : Nat) (w1p : va_W) (w2p : va_W) (w3p : va_W) (w4p : va_W) (w5p : va_W) (w6p : va_W) (v : va_W) (w1 : va_W) (w2 : va_W) (w3 : va_W) (so : Int32) (at_ : Int32) (hw0p : bLand T l0p w1p) (hw1p : bLand T l1p w2p) (hw2p : bDay T d0p w3p) (hw3p : bDay T d1p w4p) (hw4p : bLog T g0p w5p) (hw5p : bLog T g1p w6p) (he0p : f3p 0 = some l0p) (he1p : f3p 1 = some l1p) (he2p : f4p 0 = some d0p) (he3p : f4p 1 = some d1p) (he4p : f5p 0 = some g0p) (he5p : f5p 1 = some g1p) (hv : bReader T rd v) (hw1 : bWays T wa w1) (hw2 : bWays T wb w2) (hw3 : bFit T fi w3) : zMi l T yX11_text cX11_text 5 (some .int) 5 0 0 [.ref x, .int so, .int at_] [[(x, .inr (10, [.ref t0, .ref ia, .ref im, .ref rd, .ref po, .ref co, .ref tr, .ref wa, .ref wb, .ref fi, .ref cd]))], [(t0, .inr (8, [.ref a1p, .int 0, .int 0, .int (-1), .ref a2p, .ref a3p, .ref a4p, .ref a5p]))], [(a1p, .inl (T.2 1, 600, .inl f1p))], [(a2p, .inl (T.2 0, 3, .inl (fun _ => 0)))], [(a3p, .inl (T.2 3, 2, .inr (.inr (.inr (.inr f3p)))))], [(a4p, .inl (T.2 4, 2, .inr (.inr (.inr (.inr f4p)))))], [(a5p, .inl (T.2 5, 2, .inr (.inr (.inr (.inr f5p)))))], w1p, w2p, w3p, w4p, w5p, w6p, v, w1, w2, w3] (fun (r : Int32) bs => bs = [] ∧ r = zRes so at_) := by
  refine zMi_of (own := RX11) (by decide) rfl (Nat.le_of_ble_eq_true rfl) ?_
  intro p e s m args below meth c A ls C hr hlocks hnm hAe G hl
  have hx := C.1
  have hb := C.2.1
  have hl : lv_has ls 5 [(0, .ref x), (1, .int so), (2, .int at_)] := hl
  refine lv_aload_n hx hb dX11_text_0 rfl (lv_at hl 0 rfl) ?_
  refine z_get C G clX11 0 rfl 0 (by decide) m_fl_RX11_10 rfl dX11_text_1 ?_
  refine lv_iload_n hx hb dX11_text_4 rfl (lv_at hl 1 rfl) ?_
  refine lv_iload_n hx hb dX11_text_5 rfl (lv_at hl 2 rfl) ?_
  refine z_Vi (bc := [[(t0, .inr (8, [.ref a1p, .int 0, .int 0, .int (-1), .ref a2p, .ref a3p, .ref a4p, .ref a5p]))], [(a2p, .inl (T.2 0, 3, .inl (fun _ => 0)))]]) (br := [[(x, .inr (10, [.ref t0, .ref ia, .ref im, .ref rd, .ref po, .ref co, .ref tr, .ref wa, .ref wb, .ref fi, .ref cd]))], [(a1p, .inl (T.2 1, 600, .inl f1p))], [(a3p, .inl (T.2 3, 2, .inr (.inr (.inr (.inr f3p)))))], [(a4p, .inl (T.2 4, 2, .inr (.inr (.inr (.inr f4p)))))], [(a5p, .inl (T.2 5, 2, .inr (.inr (.inr (.inr f5p)))))], w1p, w2p, w3p, w4p, w5p, w6p, v, w1, w2, w3]) (As := [.int so, .int at_]) (rest := []) C G (c_placeFor0 l T t0 a1p a2p a3p a4p a5p 0 0 (-1) so at_) (kV_RX11_81 C.2.2.2.2 (Nat.le_of_ble_eq_true rfl) (Nat.le_of_ble_eq_true rfl)) [1, 3] [0, 2, 4, 5, 6, 7, 8, 9, 10, 11, 12, 13, 14, 15, 16] rfl rfl (ci := 8) (qc := (RX9, TX9, 8)) rfl rfl (List.mem_flatten.mpr ⟨_, List.mem_of_getElem? (i := 0) rfl, List.mem_cons_self⟩) rfl rfl hl.1 dX11_text_6 (Nat.le_of_ble_eq_true rfl) (Nat.le_of_ble_eq_true rfl) (fun r_2 b1 H locs hw G => ?_)
  obtain ⟨rfl, hc_1⟩ := hw
  have G : zS T A s.heap s [[(x, .inr (10, [.ref t0, .ref ia, .ref im, .ref rd, .ref po, .ref co, .ref tr, .ref wa, .ref wb, .ref fi, .ref cd]))], [(a1p, .inl (T.2 1, 600, .inl f1p))], [(a3p, .inl (T.2 3, 2, .inr (.inr (.inr (.inr f3p)))))], [(a4p, .inl (T.2 4, 2, .inr (.inr (.inr (.inr f4p)))))], [(a5p, .inl (T.2 5, 2, .inr (.inr (.inr (.inr f5p)))))], w1p, w2p, w3p, w4p, w5p, w6p, v, w1, w2, w3, [(t0, .inr (8, [.ref a1p, .int 0, .int 0, .int (-1), .ref a2p, .ref a3p, .ref a4p, .ref a5p]))], [(a2p, .inl (T.2 0, 3, .inl (fun _ => 0)))]] _ _ := G
  rcases hc_1 with ⟨rfl, h_3, h_4, h_5⟩ | ⟨rfl, h_6⟩
  · rcases z_three h_3 h_4 with rfl | rfl | rfl
    · refine lv_istore_n (lv' := [(3, .int 0), (0, .ref x), (1, .int 0), (2, .int at_)]) hx hb dX11_text_9 rfl hl (by decide) rfl (fun ls hl => ?_)
      refine lv_aload_n hx hb dX11_text_10 rfl (lv_at hl 1 rfl) ?_
      refine z_get C G clX11 0 rfl 0 (by decide) m_fl_RX11_10 rfl dX11_text_11 ?_
      refine z_get C G clX9 15 rfl 1 (by decide) m_fl_RX11_73 rfl dX11_text_14 ?_
      refine lv_istore (lv' := [(4, .int 0), (3, .int 0), (0, .ref x), (1, .int 0), (2, .int at_)]) hx hb dX11_text_17 hl (by decide) rfl (fun ls hl => ?_)
      refine lv_aload_n hx hb dX11_text_19 rfl (lv_at hl 2 rfl) ?_
      refine z_get C G clX11 0 rfl 0 (by decide) m_fl_RX11_10 rfl dX11_text_20 ?_
      refine lv_iconst (v := 0) hx hb dX11_text_23 (by decide) ?_
      refine z_put C G clX9 15 rfl 1 (by decide) m_fl_RX11_73 rfl rfl rfl (Nat.le_of_ble_eq_true rfl) dX11_text_24 (fun H locs G => ?_)
      have G : zS T A s.heap s [[(x, .inr (10, [.ref t0, .ref ia, .ref im, .ref rd, .ref po, .ref co, .ref tr, .ref wa, .ref wb, .ref fi, .ref cd]))], [(a1p, .inl (T.2 1, 600, .inl f1p))], [(a3p, .inl (T.2 3, 2, .inr (.inr (.inr (.inr f3p)))))], [(a4p, .inl (T.2 4, 2, .inr (.inr (.inr (.inr f4p)))))], [(a5p, .inl (T.2 5, 2, .inr (.inr (.inr (.inr f5p)))))], w1p, w2p, w3p, w4p, w5p, w6p, v, w1, w2, w3, [(t0, .inr (8, [.ref a1p, .int 0, .int 0, .int (-1), .ref a2p, .ref a3p, .ref a4p, .ref a5p]))], [(a2p, .inl (T.2 0, 3, .inl (fun _ => 0)))]] _ _ := G
      refine lv_aload_n hx hb dX11_text_27 rfl (lv_at hl 2 rfl) ?_
      refine z_get C G clX11 0 rfl 0 (by decide) m_fl_RX11_10 rfl dX11_text_28 ?_
      refine lv_iconst (v := 0) hx hb dX11_text_31 (by decide) ?_
      refine z_put C G clX9 15 rfl 2 (by decide) m_fl_RX11_85 rfl rfl rfl (Nat.le_of_ble_eq_true rfl) dX11_text_32 (fun H locs G => ?_)
      have G : zS T A s.heap s [[(x, .inr (10, [.ref t0, .ref ia, .ref im, .ref rd, .ref po, .ref co, .ref tr, .ref wa, .ref wb, .ref fi, .ref cd]))], [(a1p, .inl (T.2 1, 600, .inl f1p))], [(a3p, .inl (T.2 3, 2, .inr (.inr (.inr (.inr f3p)))))], [(a4p, .inl (T.2 4, 2, .inr (.inr (.inr (.inr f4p)))))], [(a5p, .inl (T.2 5, 2, .inr (.inr (.inr (.inr f5p)))))], w1p, w2p, w3p, w4p, w5p, w6p, v, w1, w2, w3, [(t0, .inr (8, [.ref a1p, .int 0, .int 0, .int (-1), .ref a2p, .ref a3p, .ref a4p, .ref a5p]))], [(a2p, .inl (T.2 0, 3, .inl (fun _ => 0)))]] _ _ := G
      refine lv_aload_n hx hb dX11_text_35 rfl (lv_at hl 2 rfl) ?_
      refine z_get C G clX11 0 rfl 0 (by decide) m_fl_RX11_10 rfl dX11_text_36 ?_
      refine lv_iconst (v := (-1)) hx hb dX11_text_39 (by decide) ?_
      refine z_put C G clX9 15 rfl 3 (by decide) m_fl_RX11_88 rfl rfl rfl (Nat.le_of_ble_eq_true rfl) dX11_text_40 (fun H locs G => ?_)
      have G : zS T A s.heap s [[(x, .inr (10, [.ref t0, .ref ia, .ref im, .ref rd, .ref po, .ref co, .ref tr, .ref wa, .ref wb, .ref fi, .ref cd]))], [(a1p, .inl (T.2 1, 600, .inl f1p))], [(a3p, .inl (T.2 3, 2, .inr (.inr (.inr (.inr f3p)))))], [(a4p, .inl (T.2 4, 2, .inr (.inr (.inr (.inr f4p)))))], [(a5p, .inl (T.2 5, 2, .inr (.inr (.inr (.inr f5p)))))], w1p, w2p, w3p, w4p, w5p, w6p, v, w1, w2, w3, [(t0, .inr (8, [.ref a1p, .int 0, .int 0, .int (-1), .ref a2p, .ref a3p, .ref a4p, .ref a5p]))], [(a2p, .inl (T.2 0, 3, .inl (fun _ => 0)))]] _ _ := G
      refine lv_iload_n hx hb dX11_text_43 rfl (lv_at hl 1 rfl) ?_
      refine lv_bipush (v := (-2)) hx hb dX11_text_44 (by decide) ?_
      refine lv_icmp_ne (tgt := 52) hx hb dX11_text_46 (by decide) (fun _ => ?_) (fun q => absurd q (by decide))
      refine lv_aload_n hx hb dX11_text_52 rfl (lv_at hl 2 rfl) ?_
      refine z_get C G clX11 0 rfl 3 (by decide) m_fl_RX11_27 rfl dX11_text_53 ?_
      refine lv_aload_n hx hb dX11_text_56 rfl (lv_at hl 2 rfl) ?_
      refine z_get C G clX11 0 rfl 0 (by decide) m_fl_RX11_10 rfl dX11_text_57 ?_
      refine z_get C G clX9 15 rfl 0 (by decide) m_fl_RX11_91 rfl dX11_text_60 ?_
      refine lv_iload hx hb dX11_text_63 (lv_at hl 0 rfl) ?_
      refine lv_iload_n hx hb dX11_text_65 rfl (lv_at hl 3 rfl) ?_
      refine z_Vv (bc := [v, [(a1p, .inl (T.2 1, 600, .inl f1p))]]) (br := [[(x, .inr (10, [.ref t0, .ref ia, .ref im, .ref rd, .ref po, .ref co, .ref tr, .ref wa, .ref wb, .ref fi, .ref cd]))], [(a3p, .inl (T.2 3, 2, .inr (.inr (.inr (.inr f3p)))))], [(a4p, .inl (T.2 4, 2, .inr (.inr (.inr (.inr f4p)))))], [(a5p, .inl (T.2 5, 2, .inr (.inr (.inr (.inr f5p)))))], w1p, w2p, w3p, w4p, w5p, w6p, w1, w2, w3, [(t0, .inr (8, [.ref a1p, .int 0, .int 0, .int (-1), .ref a2p, .ref a3p, .ref a4p, .ref a5p]))], [(a2p, .inl (T.2 0, 3, .inl (fun _ => 0)))]]) (As := [.ref a1p, .int 0, .int 0]) (rest := []) C G (c_read0 l T rd v a1p f1p 0 hv) (kV_RX11_95 C.2.2.2.2 (Nat.le_of_ble_eq_true rfl) (Nat.le_of_ble_eq_true rfl)) [11, 1] [0, 2, 3, 4, 5, 6, 7, 8, 9, 10, 12, 13, 14, 15, 16] rfl rfl (ci := 7) (qc := (RX7, TX7, 13)) rfl rfl (List.mem_flatten.mpr ⟨_, List.mem_of_getElem? (i := 0) rfl, (bReader_mem hv).choose_spec⟩) rfl rfl hl.1 dX11_text_66 (Nat.le_of_ble_eq_true rfl) (Nat.le_of_ble_eq_true rfl) (fun b1 H locs hw G => ?_)
      obtain ⟨l0_7, d0_8, g0_9, r6_10, w1_11, w2_12, w3_13, rfl, h_14, h_15, h_16⟩ := hw
      have G : zS T A s.heap s [[(x, .inr (10, [.ref t0, .ref ia, .ref im, .ref rd, .ref po, .ref co, .ref tr, .ref wa, .ref wb, .ref fi, .ref cd]))], [(a3p, .inl (T.2 3, 2, .inr (.inr (.inr (.inr f3p)))))], [(a4p, .inl (T.2 4, 2, .inr (.inr (.inr (.inr f4p)))))], [(a5p, .inl (T.2 5, 2, .inr (.inr (.inr (.inr f5p)))))], w1p, w2p, w3p, w4p, w5p, w6p, w1, w2, w3, [(t0, .inr (8, [.ref a1p, .int 0, .int 0, .int (-1), .ref a2p, .ref a3p, .ref a4p, .ref a5p]))], [(a2p, .inl (T.2 0, 3, .inl (fun _ => 0)))], [(rd, .inr (7, [.ref l0_7, .ref d0_8, .ref g0_9, .int 0, .int (-1), .ref a1p, .int 0, .int 0, .int 0, .int 0, .int r6_10, .int 0, .int 0]))], w1_11, w2_12, w3_13, [(a1p, .inl (T.2 1, 600, .inl f1p))]] _ _ := G
      refine lv_aload_n hx hb dX11_text_69 rfl (lv_at hl 2 rfl) ?_
      refine z_get C G clX11 0 rfl 0 (by decide) m_fl_RX11_10 rfl dX11_text_70 ?_
      refine lv_aload_n hx hb dX11_text_73 rfl (lv_at hl 2 rfl) ?_
      refine z_get C G clX11 0 rfl 3 (by decide) m_fl_RX11_27 rfl dX11_text_74 ?_
      refine z_get C G clX7 15 rfl 3 (by decide) m_fl_RX11_99 rfl dX11_text_77 ?_
      refine z_put C G clX9 13 rfl 2 (by decide) m_fl_RX11_85 rfl rfl rfl (Nat.le_of_ble_eq_true rfl) dX11_text_80 (fun H locs G => ?_)
      have G : zS T A s.heap s [[(x, .inr (10, [.ref t0, .ref ia, .ref im, .ref rd, .ref po, .ref co, .ref tr, .ref wa, .ref wb, .ref fi, .ref cd]))], [(a3p, .inl (T.2 3, 2, .inr (.inr (.inr (.inr f3p)))))], [(a4p, .inl (T.2 4, 2, .inr (.inr (.inr (.inr f4p)))))], [(a5p, .inl (T.2 5, 2, .inr (.inr (.inr (.inr f5p)))))], w1p, w2p, w3p, w4p, w5p, w6p, w1, w2, w3, [(t0, .inr (8, [.ref a1p, .int 0, .int 0, .int (-1), .ref a2p, .ref a3p, .ref a4p, .ref a5p]))], [(a2p, .inl (T.2 0, 3, .inl (fun _ => 0)))], [(rd, .inr (7, [.ref l0_7, .ref d0_8, .ref g0_9, .int 0, .int (-1), .ref a1p, .int 0, .int 0, .int 0, .int 0, .int r6_10, .int 0, .int 0]))], w1_11, w2_12, w3_13, [(a1p, .inl (T.2 1, 600, .inl f1p))]] _ _ := G
      refine lv_aload_n hx hb dX11_text_83 rfl (lv_at hl 2 rfl) ?_
      refine z_get C G clX11 0 rfl 0 (by decide) m_fl_RX11_10 rfl dX11_text_84 ?_
      refine lv_aload_n hx hb dX11_text_87 rfl (lv_at hl 2 rfl) ?_
      refine z_get C G clX11 0 rfl 3 (by decide) m_fl_RX11_27 rfl dX11_text_88 ?_
      refine z_get C G clX7 15 rfl 4 (by decide) m_fl_RX11_100 rfl dX11_text_91 ?_
      refine z_put C G clX9 13 rfl 3 (by decide) m_fl_RX11_88 rfl rfl rfl (Nat.le_of_ble_eq_true rfl) dX11_text_94 (fun H locs G => ?_)
      have G : zS T A s.heap s [[(x, .inr (10, [.ref t0, .ref ia, .ref im, .ref rd, .ref po, .ref co, .ref tr, .ref wa, .ref wb, .ref fi, .ref cd]))], [(a3p, .inl (T.2 3, 2, .inr (.inr (.inr (.inr f3p)))))], [(a4p, .inl (T.2 4, 2, .inr (.inr (.inr (.inr f4p)))))], [(a5p, .inl (T.2 5, 2, .inr (.inr (.inr (.inr f5p)))))], w1p, w2p, w3p, w4p, w5p, w6p, w1, w2, w3, [(t0, .inr (8, [.ref a1p, .int 0, .int 0, .int (-1), .ref a2p, .ref a3p, .ref a4p, .ref a5p]))], [(a2p, .inl (T.2 0, 3, .inl (fun _ => 0)))], [(rd, .inr (7, [.ref l0_7, .ref d0_8, .ref g0_9, .int 0, .int (-1), .ref a1p, .int 0, .int 0, .int 0, .int 0, .int r6_10, .int 0, .int 0]))], w1_11, w2_12, w3_13, [(a1p, .inl (T.2 1, 600, .inl f1p))]] _ _ := G
      refine lv_aload_n hx hb dX11_text_97 rfl (lv_at hl 2 rfl) ?_
      refine z_get C G clX11 0 rfl 3 (by decide) m_fl_RX11_27 rfl dX11_text_98 ?_
      refine z_get C G clX7 15 rfl 3 (by decide) m_fl_RX11_99 rfl dX11_text_101 ?_
      refine lv_if_eq (tgt := 109) hx hb dX11_text_104 (by decide) (fun _ => ?_) (fun q => absurd (by decide) q)
      refine lv_aload_n hx hb dX11_text_109 rfl (lv_at hl 2 rfl) ?_
      refine z_get C G clX11 0 rfl 0 (by decide) m_fl_RX11_10 rfl dX11_text_110 ?_
      refine lv_iload_n hx hb dX11_text_113 rfl (lv_at hl 3 rfl) ?_
      refine lv_iload_n hx hb dX11_text_114 rfl (lv_at hl 1 rfl) ?_
      refine lv_aload_n hx hb dX11_text_115 rfl (lv_at hl 2 rfl) ?_
      refine z_get C G clX11 0 rfl 3 (by decide) m_fl_RX11_27 rfl dX11_text_116 ?_
      refine z_Vv (bc := [[(t0, .inr (8, [.ref a1p, .int 0, .int 0, .int (-1), .ref a2p, .ref a3p, .ref a4p, .ref a5p]))], [(a1p, .inl (T.2 1, 600, .inl f1p))], [(a2p, .inl (T.2 0, 3, .inl (fun _ => 0)))], [(a3p, .inl (T.2 3, 2, .inr (.inr (.inr (.inr f3p)))))], [(a4p, .inl (T.2 4, 2, .inr (.inr (.inr (.inr f4p)))))], [(a5p, .inl (T.2 5, 2, .inr (.inr (.inr (.inr f5p)))))], w1p, w2p, w3p, w4p, w5p, w6p, [(rd, .inr (7, [.ref l0_7, .ref d0_8, .ref g0_9, .int 0, .int (-1), .ref a1p, .int 0, .int 0, .int 0, .int 0, .int r6_10, .int 0, .int 0]))], w1_11, w2_12, w3_13]) (br := [[(x, .inr (10, [.ref t0, .ref ia, .ref im, .ref rd, .ref po, .ref co, .ref tr, .ref wa, .ref wb, .ref fi, .ref cd]))], w1, w2, w3]) (As := [.int 0, .int 0, .ref rd]) (rest := []) C G (c_keep_0 l T t0 0 0 (-1) a1p a2p a3p a4p a5p f1p f3p f4p f5p l0p l1p d0p d1p g0p g1p w1p w2p w3p w4p w5p w6p rd l0_7 d0_8 g0_9 a1p r6_10 w1_11 w2_12 w3_13 hw0p hw1p hw2p hw3p hw4p hw5p he0p he1p he2p he3p he4p he5p h_14 h_15 h_16) (kV_RX11_101 C.2.2.2.2 (Nat.le_of_ble_eq_true rfl) (Nat.le_of_ble_eq_true rfl)) [13, 19, 14, 1, 2, 3, 4, 5, 6, 7, 8, 9, 15, 16, 17, 18] [0, 10, 11, 12] rfl rfl (ci := 8) (qc := (RX9, TX9, 8)) rfl rfl (List.mem_flatten.mpr ⟨_, List.mem_of_getElem? (i := 0) rfl, List.mem_cons_self⟩) rfl rfl hl.1 dX11_text_119 (Nat.le_of_ble_eq_true rfl) (Nat.le_of_ble_eq_true rfl) (fun b1 H locs hw G => ?_)
      obtain rfl := hw
      have G : zS T A s.heap s [[(x, .inr (10, [.ref t0, .ref ia, .ref im, .ref rd, .ref po, .ref co, .ref tr, .ref wa, .ref wb, .ref fi, .ref cd]))], w1, w2, w3] _ _ := G
      refine lv_aload_n hx hb dX11_text_122 rfl (lv_at hl 2 rfl) ?_
      refine lv_iload_n hx hb dX11_text_123 rfl (lv_at hl 3 rfl) ?_
      refine lv_if_ne (tgt := 131) hx hb dX11_text_124 (by decide) (fun q => absurd (by decide) q) (fun _ => ?_)
      refine lv_iconst (v := 1) hx hb dX11_text_127 (by decide) ?_
      refine lv_goto (tgt := 132) hx hb dX11_text_128 (by decide) ?_
      refine z_Vv (bc := [[(x, .inr (10, [.ref t0, .ref ia, .ref im, .ref rd, .ref po, .ref co, .ref tr, .ref wa, .ref wb, .ref fi, .ref cd]))], w1, w2, w3]) (br := []) (As := [.int 1]) (rest := []) C G (c_forget0 l T x t0 ia im rd po co tr wa wb fi cd w1 w2 w3 1 hw1 hw2 hw3) (kV_RX11_105 C.2.2.2.2 (Nat.le_of_ble_eq_true rfl) (Nat.le_of_ble_eq_true rfl)) [0, 1, 2, 3] [] rfl rfl (ci := 10) (qc := (RX11, TX11, 11)) rfl rfl (List.mem_flatten.mpr ⟨_, List.mem_of_getElem? (i := 0) rfl, List.mem_cons_self⟩) rfl rfl hl.1 dX11_text_132 (Nat.le_of_ble_eq_true rfl) (Nat.le_of_ble_eq_true rfl) (fun b1 H locs hw G => ?_)
      obtain rfl := hw
      have G : zS T A s.heap s [] _ _ := G
      refine lv_iload_n hx hb dX11_text_135 rfl (lv_at hl 1 rfl) ?_
      exact z_iret C hr hlocks G (Nat.le_of_ble_eq_true rfl) (Nat.le_of_ble_eq_true rfl) dX11_text_136 ⟨rfl, (by unfold zRes; rw [if_pos ⟨by decide, by decide, h_5⟩])⟩
    · refine lv_istore_n (lv' := [(3, .int 0), (0, .ref x), (1, .int 1), (2, .int at_)]) hx hb dX11_text_9 rfl hl (by decide) rfl (fun ls hl => ?_)
      refine lv_aload_n hx hb dX11_text_10 rfl (lv_at hl 1 rfl) ?_
      refine z_get C G clX11 0 rfl 0 (by decide) m_fl_RX11_10 rfl dX11_text_11 ?_
      refine z_get C G clX9 15 rfl 1 (by decide) m_fl_RX11_73 rfl dX11_text_14 ?_
      refine lv_istore (lv' := [(4, .int 0), (3, .int 0), (0, .ref x), (1, .int 1), (2, .int at_)]) hx hb dX11_text_17 hl (by decide) rfl (fun ls hl => ?_)
      refine lv_aload_n hx hb dX11_text_19 rfl (lv_at hl 2 rfl) ?_
      refine z_get C G clX11 0 rfl 0 (by decide) m_fl_RX11_10 rfl dX11_text_20 ?_
      refine lv_iconst (v := 0) hx hb dX11_text_23 (by decide) ?_
      refine z_put C G clX9 15 rfl 1 (by decide) m_fl_RX11_73 rfl rfl rfl (Nat.le_of_ble_eq_true rfl) dX11_text_24 (fun H locs G => ?_)
      have G : zS T A s.heap s [[(x, .inr (10, [.ref t0, .ref ia, .ref im, .ref rd, .ref po, .ref co, .ref tr, .ref wa, .ref wb, .ref fi, .ref cd]))], [(a1p, .inl (T.2 1, 600, .inl f1p))], [(a3p, .inl (T.2 3, 2, .inr (.inr (.inr (.inr f3p)))))], [(a4p, .inl (T.2 4, 2, .inr (.inr (.inr (.inr f4p)))))], [(a5p, .inl (T.2 5, 2, .inr (.inr (.inr (.inr f5p)))))], w1p, w2p, w3p, w4p, w5p, w6p, v, w1, w2, w3, [(t0, .inr (8, [.ref a1p, .int 0, .int 0, .int (-1), .ref a2p, .ref a3p, .ref a4p, .ref a5p]))], [(a2p, .inl (T.2 0, 3, .inl (fun _ => 0)))]] _ _ := G
      refine lv_aload_n hx hb dX11_text_27 rfl (lv_at hl 2 rfl) ?_
      refine z_get C G clX11 0 rfl 0 (by decide) m_fl_RX11_10 rfl dX11_text_28 ?_
      refine lv_iconst (v := 0) hx hb dX11_text_31 (by decide) ?_
      refine z_put C G clX9 15 rfl 2 (by decide) m_fl_RX11_85 rfl rfl rfl (Nat.le_of_ble_eq_true rfl) dX11_text_32 (fun H locs G => ?_)
      have G : zS T A s.heap s [[(x, .inr (10, [.ref t0, .ref ia, .ref im, .ref rd, .ref po, .ref co, .ref tr, .ref wa, .ref wb, .ref fi, .ref cd]))], [(a1p, .inl (T.2 1, 600, .inl f1p))], [(a3p, .inl (T.2 3, 2, .inr (.inr (.inr (.inr f3p)))))], [(a4p, .inl (T.2 4, 2, .inr (.inr (.inr (.inr f4p)))))], [(a5p, .inl (T.2 5, 2, .inr (.inr (.inr (.inr f5p)))))], w1p, w2p, w3p, w4p, w5p, w6p, v, w1, w2, w3, [(t0, .inr (8, [.ref a1p, .int 0, .int 0, .int (-1), .ref a2p, .ref a3p, .ref a4p, .ref a5p]))], [(a2p, .inl (T.2 0, 3, .inl (fun _ => 0)))]] _ _ := G
      refine lv_aload_n hx hb dX11_text_35 rfl (lv_at hl 2 rfl) ?_
      refine z_get C G clX11 0 rfl 0 (by decide) m_fl_RX11_10 rfl dX11_text_36 ?_
      refine lv_iconst (v := (-1)) hx hb dX11_text_39 (by decide) ?_
      refine z_put C G clX9 15 rfl 3 (by decide) m_fl_RX11_88 rfl rfl rfl (Nat.le_of_ble_eq_true rfl) dX11_text_40 (fun H locs G => ?_)
      have G : zS T A s.heap s [[(x, .inr (10, [.ref t0, .ref ia, .ref im, .ref rd, .ref po, .ref co, .ref tr, .ref wa, .ref wb, .ref fi, .ref cd]))], [(a1p, .inl (T.2 1, 600, .inl f1p))], [(a3p, .inl (T.2 3, 2, .inr (.inr (.inr (.inr f3p)))))], [(a4p, .inl (T.2 4, 2, .inr (.inr (.inr (.inr f4p)))))], [(a5p, .inl (T.2 5, 2, .inr (.inr (.inr (.inr f5p)))))], w1p, w2p, w3p, w4p, w5p, w6p, v, w1, w2, w3, [(t0, .inr (8, [.ref a1p, .int 0, .int 0, .int (-1), .ref a2p, .ref a3p, .ref a4p, .ref a5p]))], [(a2p, .inl (T.2 0, 3, .inl (fun _ => 0)))]] _ _ := G
      refine lv_iload_n hx hb dX11_text_43 rfl (lv_at hl 1 rfl) ?_
      refine lv_bipush (v := (-2)) hx hb dX11_text_44 (by decide) ?_
      refine lv_icmp_ne (tgt := 52) hx hb dX11_text_46 (by decide) (fun _ => ?_) (fun q => absurd q (by decide))
      refine lv_aload_n hx hb dX11_text_52 rfl (lv_at hl 2 rfl) ?_
      refine z_get C G clX11 0 rfl 3 (by decide) m_fl_RX11_27 rfl dX11_text_53 ?_
      refine lv_aload_n hx hb dX11_text_56 rfl (lv_at hl 2 rfl) ?_
      refine z_get C G clX11 0 rfl 0 (by decide) m_fl_RX11_10 rfl dX11_text_57 ?_
      refine z_get C G clX9 15 rfl 0 (by decide) m_fl_RX11_91 rfl dX11_text_60 ?_
      refine lv_iload hx hb dX11_text_63 (lv_at hl 0 rfl) ?_
      refine lv_iload_n hx hb dX11_text_65 rfl (lv_at hl 3 rfl) ?_
      refine z_Vv (bc := [v, [(a1p, .inl (T.2 1, 600, .inl f1p))]]) (br := [[(x, .inr (10, [.ref t0, .ref ia, .ref im, .ref rd, .ref po, .ref co, .ref tr, .ref wa, .ref wb, .ref fi, .ref cd]))], [(a3p, .inl (T.2 3, 2, .inr (.inr (.inr (.inr f3p)))))], [(a4p, .inl (T.2 4, 2, .inr (.inr (.inr (.inr f4p)))))], [(a5p, .inl (T.2 5, 2, .inr (.inr (.inr (.inr f5p)))))], w1p, w2p, w3p, w4p, w5p, w6p, w1, w2, w3, [(t0, .inr (8, [.ref a1p, .int 0, .int 0, .int (-1), .ref a2p, .ref a3p, .ref a4p, .ref a5p]))], [(a2p, .inl (T.2 0, 3, .inl (fun _ => 0)))]]) (As := [.ref a1p, .int 0, .int 1]) (rest := []) C G (c_read0 l T rd v a1p f1p 1 hv) (kV_RX11_95 C.2.2.2.2 (Nat.le_of_ble_eq_true rfl) (Nat.le_of_ble_eq_true rfl)) [11, 1] [0, 2, 3, 4, 5, 6, 7, 8, 9, 10, 12, 13, 14, 15, 16] rfl rfl (ci := 7) (qc := (RX7, TX7, 13)) rfl rfl (List.mem_flatten.mpr ⟨_, List.mem_of_getElem? (i := 0) rfl, (bReader_mem hv).choose_spec⟩) rfl rfl hl.1 dX11_text_66 (Nat.le_of_ble_eq_true rfl) (Nat.le_of_ble_eq_true rfl) (fun b1 H locs hw G => ?_)
      obtain ⟨l0_20, d0_21, g0_22, r6_23, w1_24, w2_25, w3_26, rfl, h_27, h_28, h_29⟩ := hw
      have G : zS T A s.heap s [[(x, .inr (10, [.ref t0, .ref ia, .ref im, .ref rd, .ref po, .ref co, .ref tr, .ref wa, .ref wb, .ref fi, .ref cd]))], [(a3p, .inl (T.2 3, 2, .inr (.inr (.inr (.inr f3p)))))], [(a4p, .inl (T.2 4, 2, .inr (.inr (.inr (.inr f4p)))))], [(a5p, .inl (T.2 5, 2, .inr (.inr (.inr (.inr f5p)))))], w1p, w2p, w3p, w4p, w5p, w6p, w1, w2, w3, [(t0, .inr (8, [.ref a1p, .int 0, .int 0, .int (-1), .ref a2p, .ref a3p, .ref a4p, .ref a5p]))], [(a2p, .inl (T.2 0, 3, .inl (fun _ => 0)))], [(rd, .inr (7, [.ref l0_20, .ref d0_21, .ref g0_22, .int 0, .int (-1), .ref a1p, .int 0, .int 0, .int 0, .int 0, .int r6_23, .int 0, .int 0]))], w1_24, w2_25, w3_26, [(a1p, .inl (T.2 1, 600, .inl f1p))]] _ _ := G
      refine lv_aload_n hx hb dX11_text_69 rfl (lv_at hl 2 rfl) ?_
      refine z_get C G clX11 0 rfl 0 (by decide) m_fl_RX11_10 rfl dX11_text_70 ?_
      refine lv_aload_n hx hb dX11_text_73 rfl (lv_at hl 2 rfl) ?_
      refine z_get C G clX11 0 rfl 3 (by decide) m_fl_RX11_27 rfl dX11_text_74 ?_
      refine z_get C G clX7 15 rfl 3 (by decide) m_fl_RX11_99 rfl dX11_text_77 ?_
      refine z_put C G clX9 13 rfl 2 (by decide) m_fl_RX11_85 rfl rfl rfl (Nat.le_of_ble_eq_true rfl) dX11_text_80 (fun H locs G => ?_)
      have G : zS T A s.heap s [[(x, .inr (10, [.ref t0, .ref ia, .ref im, .ref rd, .ref po, .ref co, .ref tr, .ref wa, .ref wb, .ref fi, .ref cd]))], [(a3p, .inl (T.2 3, 2, .inr (.inr (.inr (.inr f3p)))))], [(a4p, .inl (T.2 4, 2, .inr (.inr (.inr (.inr f4p)))))], [(a5p, .inl (T.2 5, 2, .inr (.inr (.inr (.inr f5p)))))], w1p, w2p, w3p, w4p, w5p, w6p, w1, w2, w3, [(t0, .inr (8, [.ref a1p, .int 0, .int 0, .int (-1), .ref a2p, .ref a3p, .ref a4p, .ref a5p]))], [(a2p, .inl (T.2 0, 3, .inl (fun _ => 0)))], [(rd, .inr (7, [.ref l0_20, .ref d0_21, .ref g0_22, .int 0, .int (-1), .ref a1p, .int 0, .int 0, .int 0, .int 0, .int r6_23, .int 0, .int 0]))], w1_24, w2_25, w3_26, [(a1p, .inl (T.2 1, 600, .inl f1p))]] _ _ := G
      refine lv_aload_n hx hb dX11_text_83 rfl (lv_at hl 2 rfl) ?_
      refine z_get C G clX11 0 rfl 0 (by decide) m_fl_RX11_10 rfl dX11_text_84 ?_
      refine lv_aload_n hx hb dX11_text_87 rfl (lv_at hl 2 rfl) ?_
      refine z_get C G clX11 0 rfl 3 (by decide) m_fl_RX11_27 rfl dX11_text_88 ?_
      refine z_get C G clX7 15 rfl 4 (by decide) m_fl_RX11_100 rfl dX11_text_91 ?_
      refine z_put C G clX9 13 rfl 3 (by decide) m_fl_RX11_88 rfl rfl rfl (Nat.le_of_ble_eq_true rfl) dX11_text_94 (fun H locs G => ?_)
      have G : zS T A s.heap s [[(x, .inr (10, [.ref t0, .ref ia, .ref im, .ref rd, .ref po, .ref co, .ref tr, .ref wa, .ref wb, .ref fi, .ref cd]))], [(a3p, .inl (T.2 3, 2, .inr (.inr (.inr (.inr f3p)))))], [(a4p, .inl (T.2 4, 2, .inr (.inr (.inr (.inr f4p)))))], [(a5p, .inl (T.2 5, 2, .inr (.inr (.inr (.inr f5p)))))], w1p, w2p, w3p, w4p, w5p, w6p, w1, w2, w3, [(t0, .inr (8, [.ref a1p, .int 0, .int 0, .int (-1), .ref a2p, .ref a3p, .ref a4p, .ref a5p]))], [(a2p, .inl (T.2 0, 3, .inl (fun _ => 0)))], [(rd, .inr (7, [.ref l0_20, .ref d0_21, .ref g0_22, .int 0, .int (-1), .ref a1p, .int 0, .int 0, .int 0, .int 0, .int r6_23, .int 0, .int 0]))], w1_24, w2_25, w3_26, [(a1p, .inl (T.2 1, 600, .inl f1p))]] _ _ := G
      refine lv_aload_n hx hb dX11_text_97 rfl (lv_at hl 2 rfl) ?_
      refine z_get C G clX11 0 rfl 3 (by decide) m_fl_RX11_27 rfl dX11_text_98 ?_
      refine z_get C G clX7 15 rfl 3 (by decide) m_fl_RX11_99 rfl dX11_text_101 ?_
      refine lv_if_eq (tgt := 109) hx hb dX11_text_104 (by decide) (fun _ => ?_) (fun q => absurd (by decide) q)
      refine lv_aload_n hx hb dX11_text_109 rfl (lv_at hl 2 rfl) ?_
      refine z_get C G clX11 0 rfl 0 (by decide) m_fl_RX11_10 rfl dX11_text_110 ?_
      refine lv_iload_n hx hb dX11_text_113 rfl (lv_at hl 3 rfl) ?_
      refine lv_iload_n hx hb dX11_text_114 rfl (lv_at hl 1 rfl) ?_
      refine lv_aload_n hx hb dX11_text_115 rfl (lv_at hl 2 rfl) ?_
      refine z_get C G clX11 0 rfl 3 (by decide) m_fl_RX11_27 rfl dX11_text_116 ?_
      refine z_Vv (bc := [[(t0, .inr (8, [.ref a1p, .int 0, .int 0, .int (-1), .ref a2p, .ref a3p, .ref a4p, .ref a5p]))], [(a1p, .inl (T.2 1, 600, .inl f1p))], [(a2p, .inl (T.2 0, 3, .inl (fun _ => 0)))], [(a3p, .inl (T.2 3, 2, .inr (.inr (.inr (.inr f3p)))))], [(a4p, .inl (T.2 4, 2, .inr (.inr (.inr (.inr f4p)))))], [(a5p, .inl (T.2 5, 2, .inr (.inr (.inr (.inr f5p)))))], w1p, w2p, w3p, w4p, w5p, w6p, [(rd, .inr (7, [.ref l0_20, .ref d0_21, .ref g0_22, .int 0, .int (-1), .ref a1p, .int 0, .int 0, .int 0, .int 0, .int r6_23, .int 0, .int 0]))], w1_24, w2_25, w3_26]) (br := [[(x, .inr (10, [.ref t0, .ref ia, .ref im, .ref rd, .ref po, .ref co, .ref tr, .ref wa, .ref wb, .ref fi, .ref cd]))], w1, w2, w3]) (As := [.int 1, .int 0, .ref rd]) (rest := []) C G (c_keep_1 l T t0 0 0 (-1) a1p a2p a3p a4p a5p f1p f3p f4p f5p l0p l1p d0p d1p g0p g1p w1p w2p w3p w4p w5p w6p rd l0_20 d0_21 g0_22 a1p r6_23 w1_24 w2_25 w3_26 hw0p hw1p hw2p hw3p hw4p hw5p he0p he1p he2p he3p he4p he5p h_27 h_28 h_29) (kV_RX11_101 C.2.2.2.2 (Nat.le_of_ble_eq_true rfl) (Nat.le_of_ble_eq_true rfl)) [13, 19, 14, 1, 2, 3, 4, 5, 6, 7, 8, 9, 15, 16, 17, 18] [0, 10, 11, 12] rfl rfl (ci := 8) (qc := (RX9, TX9, 8)) rfl rfl (List.mem_flatten.mpr ⟨_, List.mem_of_getElem? (i := 0) rfl, List.mem_cons_self⟩) rfl rfl hl.1 dX11_text_119 (Nat.le_of_ble_eq_true rfl) (Nat.le_of_ble_eq_true rfl) (fun b1 H locs hw G => ?_)
      obtain rfl := hw
      have G : zS T A s.heap s [[(x, .inr (10, [.ref t0, .ref ia, .ref im, .ref rd, .ref po, .ref co, .ref tr, .ref wa, .ref wb, .ref fi, .ref cd]))], w1, w2, w3] _ _ := G
      refine lv_aload_n hx hb dX11_text_122 rfl (lv_at hl 2 rfl) ?_
      refine lv_iload_n hx hb dX11_text_123 rfl (lv_at hl 3 rfl) ?_
      refine lv_if_ne (tgt := 131) hx hb dX11_text_124 (by decide) (fun _ => ?_) (fun q => absurd q (by decide))
      refine lv_iconst (v := 0) hx hb dX11_text_131 (by decide) ?_
      refine z_Vv (bc := [[(x, .inr (10, [.ref t0, .ref ia, .ref im, .ref rd, .ref po, .ref co, .ref tr, .ref wa, .ref wb, .ref fi, .ref cd]))], w1, w2, w3]) (br := []) (As := [.int 0]) (rest := []) C G (c_forget0 l T x t0 ia im rd po co tr wa wb fi cd w1 w2 w3 0 hw1 hw2 hw3) (kV_RX11_105 C.2.2.2.2 (Nat.le_of_ble_eq_true rfl) (Nat.le_of_ble_eq_true rfl)) [0, 1, 2, 3] [] rfl rfl (ci := 10) (qc := (RX11, TX11, 11)) rfl rfl (List.mem_flatten.mpr ⟨_, List.mem_of_getElem? (i := 0) rfl, List.mem_cons_self⟩) rfl rfl hl.1 dX11_text_132 (Nat.le_of_ble_eq_true rfl) (Nat.le_of_ble_eq_true rfl) (fun b1 H locs hw G => ?_)
      obtain rfl := hw
      have G : zS T A s.heap s [] _ _ := G
      refine lv_iload_n hx hb dX11_text_135 rfl (lv_at hl 1 rfl) ?_
      exact z_iret C hr hlocks G (Nat.le_of_ble_eq_true rfl) (Nat.le_of_ble_eq_true rfl) dX11_text_136 ⟨rfl, (by unfold zRes; rw [if_pos ⟨by decide, by decide, h_5⟩])⟩
    · refine lv_istore_n (lv' := [(3, .int 0), (0, .ref x), (1, .int 2), (2, .int at_)]) hx hb dX11_text_9 rfl hl (by decide) rfl (fun ls hl => ?_)
      refine lv_aload_n hx hb dX11_text_10 rfl (lv_at hl 1 rfl) ?_
      refine z_get C G clX11 0 rfl 0 (by decide) m_fl_RX11_10 rfl dX11_text_11 ?_
      refine z_get C G clX9 15 rfl 1 (by decide) m_fl_RX11_73 rfl dX11_text_14 ?_
      refine lv_istore (lv' := [(4, .int 0), (3, .int 0), (0, .ref x), (1, .int 2), (2, .int at_)]) hx hb dX11_text_17 hl (by decide) rfl (fun ls hl => ?_)
      refine lv_aload_n hx hb dX11_text_19 rfl (lv_at hl 2 rfl) ?_
      refine z_get C G clX11 0 rfl 0 (by decide) m_fl_RX11_10 rfl dX11_text_20 ?_
      refine lv_iconst (v := 0) hx hb dX11_text_23 (by decide) ?_
      refine z_put C G clX9 15 rfl 1 (by decide) m_fl_RX11_73 rfl rfl rfl (Nat.le_of_ble_eq_true rfl) dX11_text_24 (fun H locs G => ?_)
      have G : zS T A s.heap s [[(x, .inr (10, [.ref t0, .ref ia, .ref im, .ref rd, .ref po, .ref co, .ref tr, .ref wa, .ref wb, .ref fi, .ref cd]))], [(a1p, .inl (T.2 1, 600, .inl f1p))], [(a3p, .inl (T.2 3, 2, .inr (.inr (.inr (.inr f3p)))))], [(a4p, .inl (T.2 4, 2, .inr (.inr (.inr (.inr f4p)))))], [(a5p, .inl (T.2 5, 2, .inr (.inr (.inr (.inr f5p)))))], w1p, w2p, w3p, w4p, w5p, w6p, v, w1, w2, w3, [(t0, .inr (8, [.ref a1p, .int 0, .int 0, .int (-1), .ref a2p, .ref a3p, .ref a4p, .ref a5p]))], [(a2p, .inl (T.2 0, 3, .inl (fun _ => 0)))]] _ _ := G
      refine lv_aload_n hx hb dX11_text_27 rfl (lv_at hl 2 rfl) ?_
      refine z_get C G clX11 0 rfl 0 (by decide) m_fl_RX11_10 rfl dX11_text_28 ?_
      refine lv_iconst (v := 0) hx hb dX11_text_31 (by decide) ?_
      refine z_put C G clX9 15 rfl 2 (by decide) m_fl_RX11_85 rfl rfl rfl (Nat.le_of_ble_eq_true rfl) dX11_text_32 (fun H locs G => ?_)
      have G : zS T A s.heap s [[(x, .inr (10, [.ref t0, .ref ia, .ref im, .ref rd, .ref po, .ref co, .ref tr, .ref wa, .ref wb, .ref fi, .ref cd]))], [(a1p, .inl (T.2 1, 600, .inl f1p))], [(a3p, .inl (T.2 3, 2, .inr (.inr (.inr (.inr f3p)))))], [(a4p, .inl (T.2 4, 2, .inr (.inr (.inr (.inr f4p)))))], [(a5p, .inl (T.2 5, 2, .inr (.inr (.inr (.inr f5p)))))], w1p, w2p, w3p, w4p, w5p, w6p, v, w1, w2, w3, [(t0, .inr (8, [.ref a1p, .int 0, .int 0, .int (-1), .ref a2p, .ref a3p, .ref a4p, .ref a5p]))], [(a2p, .inl (T.2 0, 3, .inl (fun _ => 0)))]] _ _ := G
      refine lv_aload_n hx hb dX11_text_35 rfl (lv_at hl 2 rfl) ?_
      refine z_get C G clX11 0 rfl 0 (by decide) m_fl_RX11_10 rfl dX11_text_36 ?_
      refine lv_iconst (v := (-1)) hx hb dX11_text_39 (by decide) ?_
      refine z_put C G clX9 15 rfl 3 (by decide) m_fl_RX11_88 rfl rfl rfl (Nat.le_of_ble_eq_true rfl) dX11_text_40 (fun H locs G => ?_)
      have G : zS T A s.heap s [[(x, .inr (10, [.ref t0, .ref ia, .ref im, .ref rd, .ref po, .ref co, .ref tr, .ref wa, .ref wb, .ref fi, .ref cd]))], [(a1p, .inl (T.2 1, 600, .inl f1p))], [(a3p, .inl (T.2 3, 2, .inr (.inr (.inr (.inr f3p)))))], [(a4p, .inl (T.2 4, 2, .inr (.inr (.inr (.inr f4p)))))], [(a5p, .inl (T.2 5, 2, .inr (.inr (.inr (.inr f5p)))))], w1p, w2p, w3p, w4p, w5p, w6p, v, w1, w2, w3, [(t0, .inr (8, [.ref a1p, .int 0, .int 0, .int (-1), .ref a2p, .ref a3p, .ref a4p, .ref a5p]))], [(a2p, .inl (T.2 0, 3, .inl (fun _ => 0)))]] _ _ := G
      refine lv_iload_n hx hb dX11_text_43 rfl (lv_at hl 1 rfl) ?_
      refine lv_bipush (v := (-2)) hx hb dX11_text_44 (by decide) ?_
      refine lv_icmp_ne (tgt := 52) hx hb dX11_text_46 (by decide) (fun _ => ?_) (fun q => absurd q (by decide))
      refine lv_aload_n hx hb dX11_text_52 rfl (lv_at hl 2 rfl) ?_
      refine z_get C G clX11 0 rfl 3 (by decide) m_fl_RX11_27 rfl dX11_text_53 ?_
      refine lv_aload_n hx hb dX11_text_56 rfl (lv_at hl 2 rfl) ?_
      refine z_get C G clX11 0 rfl 0 (by decide) m_fl_RX11_10 rfl dX11_text_57 ?_
      refine z_get C G clX9 15 rfl 0 (by decide) m_fl_RX11_91 rfl dX11_text_60 ?_
      refine lv_iload hx hb dX11_text_63 (lv_at hl 0 rfl) ?_
      refine lv_iload_n hx hb dX11_text_65 rfl (lv_at hl 3 rfl) ?_
      refine z_Vv (bc := [v, [(a1p, .inl (T.2 1, 600, .inl f1p))]]) (br := [[(x, .inr (10, [.ref t0, .ref ia, .ref im, .ref rd, .ref po, .ref co, .ref tr, .ref wa, .ref wb, .ref fi, .ref cd]))], [(a3p, .inl (T.2 3, 2, .inr (.inr (.inr (.inr f3p)))))], [(a4p, .inl (T.2 4, 2, .inr (.inr (.inr (.inr f4p)))))], [(a5p, .inl (T.2 5, 2, .inr (.inr (.inr (.inr f5p)))))], w1p, w2p, w3p, w4p, w5p, w6p, w1, w2, w3, [(t0, .inr (8, [.ref a1p, .int 0, .int 0, .int (-1), .ref a2p, .ref a3p, .ref a4p, .ref a5p]))], [(a2p, .inl (T.2 0, 3, .inl (fun _ => 0)))]]) (As := [.ref a1p, .int 0, .int 2]) (rest := []) C G (c_read0 l T rd v a1p f1p 2 hv) (kV_RX11_95 C.2.2.2.2 (Nat.le_of_ble_eq_true rfl) (Nat.le_of_ble_eq_true rfl)) [11, 1] [0, 2, 3, 4, 5, 6, 7, 8, 9, 10, 12, 13, 14, 15, 16] rfl rfl (ci := 7) (qc := (RX7, TX7, 13)) rfl rfl (List.mem_flatten.mpr ⟨_, List.mem_of_getElem? (i := 0) rfl, (bReader_mem hv).choose_spec⟩) rfl rfl hl.1 dX11_text_66 (Nat.le_of_ble_eq_true rfl) (Nat.le_of_ble_eq_true rfl) (fun b1 H locs hw G => ?_)
      obtain ⟨l0_33, d0_34, g0_35, r6_36, w1_37, w2_38, w3_39, rfl, h_40, h_41, h_42⟩ := hw
      have G : zS T A s.heap s [[(x, .inr (10, [.ref t0, .ref ia, .ref im, .ref rd, .ref po, .ref co, .ref tr, .ref wa, .ref wb, .ref fi, .ref cd]))], [(a3p, .inl (T.2 3, 2, .inr (.inr (.inr (.inr f3p)))))], [(a4p, .inl (T.2 4, 2, .inr (.inr (.inr (.inr f4p)))))], [(a5p, .inl (T.2 5, 2, .inr (.inr (.inr (.inr f5p)))))], w1p, w2p, w3p, w4p, w5p, w6p, w1, w2, w3, [(t0, .inr (8, [.ref a1p, .int 0, .int 0, .int (-1), .ref a2p, .ref a3p, .ref a4p, .ref a5p]))], [(a2p, .inl (T.2 0, 3, .inl (fun _ => 0)))], [(rd, .inr (7, [.ref l0_33, .ref d0_34, .ref g0_35, .int 0, .int (-1), .ref a1p, .int 0, .int 0, .int 0, .int 0, .int r6_36, .int 0, .int 0]))], w1_37, w2_38, w3_39, [(a1p, .inl (T.2 1, 600, .inl f1p))]] _ _ := G
      refine lv_aload_n hx hb dX11_text_69 rfl (lv_at hl 2 rfl) ?_
      refine z_get C G clX11 0 rfl 0 (by decide) m_fl_RX11_10 rfl dX11_text_70 ?_
      refine lv_aload_n hx hb dX11_text_73 rfl (lv_at hl 2 rfl) ?_
      refine z_get C G clX11 0 rfl 3 (by decide) m_fl_RX11_27 rfl dX11_text_74 ?_
      refine z_get C G clX7 15 rfl 3 (by decide) m_fl_RX11_99 rfl dX11_text_77 ?_
      refine z_put C G clX9 13 rfl 2 (by decide) m_fl_RX11_85 rfl rfl rfl (Nat.le_of_ble_eq_true rfl) dX11_text_80 (fun H locs G => ?_)
      have G : zS T A s.heap s [[(x, .inr (10, [.ref t0, .ref ia, .ref im, .ref rd, .ref po, .ref co, .ref tr, .ref wa, .ref wb, .ref fi, .ref cd]))], [(a3p, .inl (T.2 3, 2, .inr (.inr (.inr (.inr f3p)))))], [(a4p, .inl (T.2 4, 2, .inr (.inr (.inr (.inr f4p)))))], [(a5p, .inl (T.2 5, 2, .inr (.inr (.inr (.inr f5p)))))], w1p, w2p, w3p, w4p, w5p, w6p, w1, w2, w3, [(t0, .inr (8, [.ref a1p, .int 0, .int 0, .int (-1), .ref a2p, .ref a3p, .ref a4p, .ref a5p]))], [(a2p, .inl (T.2 0, 3, .inl (fun _ => 0)))], [(rd, .inr (7, [.ref l0_33, .ref d0_34, .ref g0_35, .int 0, .int (-1), .ref a1p, .int 0, .int 0, .int 0, .int 0, .int r6_36, .int 0, .int 0]))], w1_37, w2_38, w3_39, [(a1p, .inl (T.2 1, 600, .inl f1p))]] _ _ := G
      refine lv_aload_n hx hb dX11_text_83 rfl (lv_at hl 2 rfl) ?_
      refine z_get C G clX11 0 rfl 0 (by decide) m_fl_RX11_10 rfl dX11_text_84 ?_
      refine lv_aload_n hx hb dX11_text_87 rfl (lv_at hl 2 rfl) ?_
      refine z_get C G clX11 0 rfl 3 (by decide) m_fl_RX11_27 rfl dX11_text_88 ?_
      refine z_get C G clX7 15 rfl 4 (by decide) m_fl_RX11_100 rfl dX11_text_91 ?_
      refine z_put C G clX9 13 rfl 3 (by decide) m_fl_RX11_88 rfl rfl rfl (Nat.le_of_ble_eq_true rfl) dX11_text_94 (fun H locs G => ?_)
      have G : zS T A s.heap s [[(x, .inr (10, [.ref t0, .ref ia, .ref im, .ref rd, .ref po, .ref co, .ref tr, .ref wa, .ref wb, .ref fi, .ref cd]))], [(a3p, .inl (T.2 3, 2, .inr (.inr (.inr (.inr f3p)))))], [(a4p, .inl (T.2 4, 2, .inr (.inr (.inr (.inr f4p)))))], [(a5p, .inl (T.2 5, 2, .inr (.inr (.inr (.inr f5p)))))], w1p, w2p, w3p, w4p, w5p, w6p, w1, w2, w3, [(t0, .inr (8, [.ref a1p, .int 0, .int 0, .int (-1), .ref a2p, .ref a3p, .ref a4p, .ref a5p]))], [(a2p, .inl (T.2 0, 3, .inl (fun _ => 0)))], [(rd, .inr (7, [.ref l0_33, .ref d0_34, .ref g0_35, .int 0, .int (-1), .ref a1p, .int 0, .int 0, .int 0, .int 0, .int r6_36, .int 0, .int 0]))], w1_37, w2_38, w3_39, [(a1p, .inl (T.2 1, 600, .inl f1p))]] _ _ := G
      refine lv_aload_n hx hb dX11_text_97 rfl (lv_at hl 2 rfl) ?_
      refine z_get C G clX11 0 rfl 3 (by decide) m_fl_RX11_27 rfl dX11_text_98 ?_
      refine z_get C G clX7 15 rfl 3 (by decide) m_fl_RX11_99 rfl dX11_text_101 ?_
      refine lv_if_eq (tgt := 109) hx hb dX11_text_104 (by decide) (fun _ => ?_) (fun q => absurd (by decide) q)
      refine lv_aload_n hx hb dX11_text_109 rfl (lv_at hl 2 rfl) ?_
      refine z_get C G clX11 0 rfl 0 (by decide) m_fl_RX11_10 rfl dX11_text_110 ?_
      refine lv_iload_n hx hb dX11_text_113 rfl (lv_at hl 3 rfl) ?_
      refine lv_iload_n hx hb dX11_text_114 rfl (lv_at hl 1 rfl) ?_
      refine lv_aload_n hx hb dX11_text_115 rfl (lv_at hl 2 rfl) ?_
      refine z_get C G clX11 0 rfl 3 (by decide) m_fl_RX11_27 rfl dX11_text_116 ?_
      refine z_Vv (bc := [[(t0, .inr (8, [.ref a1p, .int 0, .int 0, .int (-1), .ref a2p, .ref a3p, .ref a4p, .ref a5p]))], [(a1p, .inl (T.2 1, 600, .inl f1p))], [(a2p, .inl (T.2 0, 3, .inl (fun _ => 0)))], [(a3p, .inl (T.2 3, 2, .inr (.inr (.inr (.inr f3p)))))], [(a4p, .inl (T.2 4, 2, .inr (.inr (.inr (.inr f4p)))))], [(a5p, .inl (T.2 5, 2, .inr (.inr (.inr (.inr f5p)))))], w1p, w2p, w3p, w4p, w5p, w6p, [(rd, .inr (7, [.ref l0_33, .ref d0_34, .ref g0_35, .int 0, .int (-1), .ref a1p, .int 0, .int 0, .int 0, .int 0, .int r6_36, .int 0, .int 0]))], w1_37, w2_38, w3_39]) (br := [[(x, .inr (10, [.ref t0, .ref ia, .ref im, .ref rd, .ref po, .ref co, .ref tr, .ref wa, .ref wb, .ref fi, .ref cd]))], w1, w2, w3]) (As := [.int 2, .int 0, .ref rd]) (rest := []) C G (c_keep_2 l T t0 0 0 (-1) a1p a2p a3p a4p a5p f1p f3p f4p f5p l0p l1p d0p d1p g0p g1p w1p w2p w3p w4p w5p w6p rd l0_33 d0_34 g0_35 a1p r6_36 w1_37 w2_38 w3_39 hw0p hw1p hw2p hw3p hw4p hw5p he0p he1p he2p he3p he4p he5p h_40 h_41 h_42) (kV_RX11_101 C.2.2.2.2 (Nat.le_of_ble_eq_true rfl) (Nat.le_of_ble_eq_true rfl)) [13, 19, 14, 1, 2, 3, 4, 5, 6, 7, 8, 9, 15, 16, 17, 18] [0, 10, 11, 12] rfl rfl (ci := 8) (qc := (RX9, TX9, 8)) rfl rfl (List.mem_flatten.mpr ⟨_, List.mem_of_getElem? (i := 0) rfl, List.mem_cons_self⟩) rfl rfl hl.1 dX11_text_119 (Nat.le_of_ble_eq_true rfl) (Nat.le_of_ble_eq_true rfl) (fun b1 H locs hw G => ?_)
      obtain rfl := hw
      have G : zS T A s.heap s [[(x, .inr (10, [.ref t0, .ref ia, .ref im, .ref rd, .ref po, .ref co, .ref tr, .ref wa, .ref wb, .ref fi, .ref cd]))], w1, w2, w3] _ _ := G
      refine lv_aload_n hx hb dX11_text_122 rfl (lv_at hl 2 rfl) ?_
      refine lv_iload_n hx hb dX11_text_123 rfl (lv_at hl 3 rfl) ?_
      refine lv_if_ne (tgt := 131) hx hb dX11_text_124 (by decide) (fun _ => ?_) (fun q => absurd q (by decide))
      refine lv_iconst (v := 0) hx hb dX11_text_131 (by decide) ?_
      refine z_Vv (bc := [[(x, .inr (10, [.ref t0, .ref ia, .ref im, .ref rd, .ref po, .ref co, .ref tr, .ref wa, .ref wb, .ref fi, .ref cd]))], w1, w2, w3]) (br := []) (As := [.int 0]) (rest := []) C G (c_forget0 l T x t0 ia im rd po co tr wa wb fi cd w1 w2 w3 0 hw1 hw2 hw3) (kV_RX11_105 C.2.2.2.2 (Nat.le_of_ble_eq_true rfl) (Nat.le_of_ble_eq_true rfl)) [0, 1, 2, 3] [] rfl rfl (ci := 10) (qc := (RX11, TX11, 11)) rfl rfl (List.mem_flatten.mpr ⟨_, List.mem_of_getElem? (i := 0) rfl, List.mem_cons_self⟩) rfl rfl hl.1 dX11_text_132 (Nat.le_of_ble_eq_true rfl) (Nat.le_of_ble_eq_true rfl) (fun b1 H locs hw G => ?_)
      obtain rfl := hw
      have G : zS T A s.heap s [] _ _ := G
      refine lv_iload_n hx hb dX11_text_135 rfl (lv_at hl 1 rfl) ?_
      exact z_iret C hr hlocks G (Nat.le_of_ble_eq_true rfl) (Nat.le_of_ble_eq_true rfl) dX11_text_136 ⟨rfl, (by unfold zRes; rw [if_pos ⟨by decide, by decide, h_5⟩])⟩
  · refine lv_istore_n (lv' := [(3, .int (-2)), (0, .ref x), (1, .int so), (2, .int at_)]) hx hb dX11_text_9 rfl hl (by decide) rfl (fun ls hl => ?_)
    refine lv_aload_n hx hb dX11_text_10 rfl (lv_at hl 1 rfl) ?_
    refine z_get C G clX11 0 rfl 0 (by decide) m_fl_RX11_10 rfl dX11_text_11 ?_
    refine z_get C G clX9 15 rfl 1 (by decide) m_fl_RX11_73 rfl dX11_text_14 ?_
    refine lv_istore (lv' := [(4, .int 0), (3, .int (-2)), (0, .ref x), (1, .int so), (2, .int at_)]) hx hb dX11_text_17 hl (by decide) rfl (fun ls hl => ?_)
    refine lv_aload_n hx hb dX11_text_19 rfl (lv_at hl 2 rfl) ?_
    refine z_get C G clX11 0 rfl 0 (by decide) m_fl_RX11_10 rfl dX11_text_20 ?_
    refine lv_iconst (v := 0) hx hb dX11_text_23 (by decide) ?_
    refine z_put C G clX9 15 rfl 1 (by decide) m_fl_RX11_73 rfl rfl rfl (Nat.le_of_ble_eq_true rfl) dX11_text_24 (fun H locs G => ?_)
    have G : zS T A s.heap s [[(x, .inr (10, [.ref t0, .ref ia, .ref im, .ref rd, .ref po, .ref co, .ref tr, .ref wa, .ref wb, .ref fi, .ref cd]))], [(a1p, .inl (T.2 1, 600, .inl f1p))], [(a3p, .inl (T.2 3, 2, .inr (.inr (.inr (.inr f3p)))))], [(a4p, .inl (T.2 4, 2, .inr (.inr (.inr (.inr f4p)))))], [(a5p, .inl (T.2 5, 2, .inr (.inr (.inr (.inr f5p)))))], w1p, w2p, w3p, w4p, w5p, w6p, v, w1, w2, w3, [(t0, .inr (8, [.ref a1p, .int 0, .int 0, .int (-1), .ref a2p, .ref a3p, .ref a4p, .ref a5p]))], [(a2p, .inl (T.2 0, 3, .inl (fun _ => 0)))]] _ _ := G
    refine lv_aload_n hx hb dX11_text_27 rfl (lv_at hl 2 rfl) ?_
    refine z_get C G clX11 0 rfl 0 (by decide) m_fl_RX11_10 rfl dX11_text_28 ?_
    refine lv_iconst (v := 0) hx hb dX11_text_31 (by decide) ?_
    refine z_put C G clX9 15 rfl 2 (by decide) m_fl_RX11_85 rfl rfl rfl (Nat.le_of_ble_eq_true rfl) dX11_text_32 (fun H locs G => ?_)
    have G : zS T A s.heap s [[(x, .inr (10, [.ref t0, .ref ia, .ref im, .ref rd, .ref po, .ref co, .ref tr, .ref wa, .ref wb, .ref fi, .ref cd]))], [(a1p, .inl (T.2 1, 600, .inl f1p))], [(a3p, .inl (T.2 3, 2, .inr (.inr (.inr (.inr f3p)))))], [(a4p, .inl (T.2 4, 2, .inr (.inr (.inr (.inr f4p)))))], [(a5p, .inl (T.2 5, 2, .inr (.inr (.inr (.inr f5p)))))], w1p, w2p, w3p, w4p, w5p, w6p, v, w1, w2, w3, [(t0, .inr (8, [.ref a1p, .int 0, .int 0, .int (-1), .ref a2p, .ref a3p, .ref a4p, .ref a5p]))], [(a2p, .inl (T.2 0, 3, .inl (fun _ => 0)))]] _ _ := G
    refine lv_aload_n hx hb dX11_text_35 rfl (lv_at hl 2 rfl) ?_
    refine z_get C G clX11 0 rfl 0 (by decide) m_fl_RX11_10 rfl dX11_text_36 ?_
    refine lv_iconst (v := (-1)) hx hb dX11_text_39 (by decide) ?_
    refine z_put C G clX9 15 rfl 3 (by decide) m_fl_RX11_88 rfl rfl rfl (Nat.le_of_ble_eq_true rfl) dX11_text_40 (fun H locs G => ?_)
    have G : zS T A s.heap s [[(x, .inr (10, [.ref t0, .ref ia, .ref im, .ref rd, .ref po, .ref co, .ref tr, .ref wa, .ref wb, .ref fi, .ref cd]))], [(a1p, .inl (T.2 1, 600, .inl f1p))], [(a3p, .inl (T.2 3, 2, .inr (.inr (.inr (.inr f3p)))))], [(a4p, .inl (T.2 4, 2, .inr (.inr (.inr (.inr f4p)))))], [(a5p, .inl (T.2 5, 2, .inr (.inr (.inr (.inr f5p)))))], w1p, w2p, w3p, w4p, w5p, w6p, v, w1, w2, w3, [(t0, .inr (8, [.ref a1p, .int 0, .int 0, .int (-1), .ref a2p, .ref a3p, .ref a4p, .ref a5p]))], [(a2p, .inl (T.2 0, 3, .inl (fun _ => 0)))]] _ _ := G
    refine lv_iload_n hx hb dX11_text_43 rfl (lv_at hl 1 rfl) ?_
    refine lv_bipush (v := (-2)) hx hb dX11_text_44 (by decide) ?_
    refine lv_icmp_ne (tgt := 52) hx hb dX11_text_46 (by decide) (fun q => absurd (by decide) q) (fun _ => ?_)
    refine lv_bipush (v := (-2)) hx hb dX11_text_49 (by decide) ?_
    have G := G.sub (bs' := []) [] rfl
    exact z_iret C hr hlocks G (Nat.le_of_ble_eq_true rfl) (Nat.le_of_ble_eq_true rfl) dX11_text_51 ⟨rfl, (by unfold zRes; rw [if_neg (by omega)])⟩
set_option maxHeartbeats 4000000 in
set_option maxRecDepth 100000 in
/-- feed: on a new object -/
theorem c_x_feed (l : Launch) (T : zTy) (x : Nat) (t0 : Nat) (ia : Nat) (im : Nat) (rd : Nat) (po : Nat) (co : Nat) (tr : Nat) (wa : Nat) (wb : Nat) (fi : Nat) (cd : Nat) (a1p : Nat) (a2p : Nat) (a3p : Nat) (a4p : Nat) (a5p : Nat) (f1p : Nat → Int32) (p1 : Int32) (p2 : Int32) (p3 : Int32) (p4 : Int32) (p5 : Int32) : zMi l T yX11_feed cX11_feed 6 (some .int) 3 0 0 [.ref x, .int p1, .int p2, .int p3, .int p4, .int p5] [[(x, .inr (10, [.ref t0, .ref ia, .ref im, .ref rd, .ref po, .ref co, .ref tr, .ref wa, .ref wb, .ref fi, .ref cd]))], [(t0, .inr (8, [.ref a1p, .int 0, .int 0, .int (-1), .ref a2p, .ref a3p, .ref a4p, .ref a5p]))], [(a1p, .inl (T.2 1, 600, .inl f1p))]] (fun (r : Int32) bs => bs = [] ∧ r = 20) := by
  refine zMi_of (own := RX11) (by decide) rfl (Nat.le_of_ble_eq_true rfl) ?_
  intro p e s m args below meth c A ls C hr hlocks hnm hAe G hl
  have hx := C.1
  have hb := C.2.1
  have hl : lv_has ls 6 [(0, .ref x), (1, .int p1), (2, .int p2), (3, .int p3), (4, .int p4), (5, .int p5)] := hl
  refine lv_aload_n hx hb dX11_feed_0 rfl (lv_at hl 0 rfl) ?_
  refine z_get C G clX11 0 rfl 0 (by decide) m_fl_RX11_10 rfl dX11_feed_1 ?_
  refine z_get C G clX9 1 rfl 1 (by decide) m_fl_RX11_73 rfl dX11_feed_4 ?_
  refine lv_bipush (v := 20) hx hb dX11_feed_7 (by decide) ?_
  refine lv_iadd hx hb dX11_feed_9 ?_
  refine lv_topi (fun y_1 ey_1 => ?_)
  obtain rfl : y_1 = 20 := ey_1.trans (by decide)
  refine lv_sipush (v := 600) hx hb dX11_feed_10 (by decide) ?_
  refine lv_icmp_le (tgt := 18) hx hb dX11_feed_13 (by decide) (fun _ => ?_) (fun q => absurd (by decide) q)
  refine lv_aload_n hx hb dX11_feed_18 rfl (lv_at hl 0 rfl) ?_
  refine z_get C G clX11 0 rfl 0 (by decide) m_fl_RX11_10 rfl dX11_feed_19 ?_
  refine lv_iload_n hx hb dX11_feed_22 rfl (lv_at hl 1 rfl) ?_
  refine z_Vv (bc := [[(t0, .inr (8, [.ref a1p, .int 0, .int 0, .int (-1), .ref a2p, .ref a3p, .ref a4p, .ref a5p]))], [(a1p, .inl (T.2 1, 600, .inl f1p))]]) (br := [[(x, .inr (10, [.ref t0, .ref ia, .ref im, .ref rd, .ref po, .ref co, .ref tr, .ref wa, .ref wb, .ref fi, .ref cd]))]]) (As := [.int p1]) (rest := []) C G (c_append l T t0 a1p a2p a3p a4p a5p 0 0 (-1) f1p p1 (by first | assumption | omega | rfl)) (kV_RX11_77 C.2.2.2.2 (Nat.le_of_ble_eq_true rfl) (Nat.le_of_ble_eq_true rfl)) [1, 2] [0] rfl rfl (ci := 8) (qc := (RX9, TX9, 8)) rfl rfl (List.mem_flatten.mpr ⟨_, List.mem_of_getElem? (i := 0) rfl, List.mem_cons_self⟩) rfl rfl hl.1 dX11_feed_23 (Nat.le_of_ble_eq_true rfl) (Nat.le_of_ble_eq_true rfl) (fun b1 H locs hw G => ?_)
  obtain ⟨g_2, rfl⟩ := hw
  have G : zS T A s.heap s [[(x, .inr (10, [.ref t0, .ref ia, .ref im, .ref rd, .ref po, .ref co, .ref tr, .ref wa, .ref wb, .ref fi, .ref cd]))], [(t0, .inr (8, [.ref a1p, .int (nI (0 + 4)), .int 0, .int (-1), .ref a2p, .ref a3p, .ref a4p, .ref a5p]))], [(a1p, .inl (T.2 1, 600, .inl g_2))]] _ _ := G
  refine lv_aload_n hx hb dX11_feed_26 rfl (lv_at hl 0 rfl) ?_
  refine z_get C G clX11 0 rfl 0 (by decide) m_fl_RX11_10 rfl dX11_feed_27 ?_
  refine lv_iload_n hx hb dX11_feed_30 rfl (lv_at hl 2 rfl) ?_
  refine z_Vv (bc := [[(t0, .inr (8, [.ref a1p, .int (nI (0 + 4)), .int 0, .int (-1), .ref a2p, .ref a3p, .ref a4p, .ref a5p]))], [(a1p, .inl (T.2 1, 600, .inl g_2))]]) (br := [[(x, .inr (10, [.ref t0, .ref ia, .ref im, .ref rd, .ref po, .ref co, .ref tr, .ref wa, .ref wb, .ref fi, .ref cd]))]]) (As := [.int p2]) (rest := []) C G (c_append l T t0 a1p a2p a3p a4p a5p (0 + 4) 0 (-1) g_2 p2 (by first | assumption | omega | rfl)) (kV_RX11_77 C.2.2.2.2 (Nat.le_of_ble_eq_true rfl) (Nat.le_of_ble_eq_true rfl)) [1, 2] [0] rfl rfl (ci := 8) (qc := (RX9, TX9, 8)) rfl rfl (List.mem_flatten.mpr ⟨_, List.mem_of_getElem? (i := 0) rfl, List.mem_cons_self⟩) rfl rfl hl.1 dX11_feed_31 (Nat.le_of_ble_eq_true rfl) (Nat.le_of_ble_eq_true rfl) (fun b1 H locs hw G => ?_)
  obtain ⟨g_4, rfl⟩ := hw
  have G : zS T A s.heap s [[(x, .inr (10, [.ref t0, .ref ia, .ref im, .ref rd, .ref po, .ref co, .ref tr, .ref wa, .ref wb, .ref fi, .ref cd]))], [(t0, .inr (8, [.ref a1p, .int (nI ((0 + 4) + 4)), .int 0, .int (-1), .ref a2p, .ref a3p, .ref a4p, .ref a5p]))], [(a1p, .inl (T.2 1, 600, .inl g_4))]] _ _ := G
  refine lv_aload_n hx hb dX11_feed_34 rfl (lv_at hl 0 rfl) ?_
  refine z_get C G clX11 0 rfl 0 (by decide) m_fl_RX11_10 rfl dX11_feed_35 ?_
  refine lv_iload_n hx hb dX11_feed_38 rfl (lv_at hl 3 rfl) ?_
  refine z_Vv (bc := [[(t0, .inr (8, [.ref a1p, .int (nI ((0 + 4) + 4)), .int 0, .int (-1), .ref a2p, .ref a3p, .ref a4p, .ref a5p]))], [(a1p, .inl (T.2 1, 600, .inl g_4))]]) (br := [[(x, .inr (10, [.ref t0, .ref ia, .ref im, .ref rd, .ref po, .ref co, .ref tr, .ref wa, .ref wb, .ref fi, .ref cd]))]]) (As := [.int p3]) (rest := []) C G (c_append l T t0 a1p a2p a3p a4p a5p ((0 + 4) + 4) 0 (-1) g_4 p3 (by first | assumption | omega | rfl)) (kV_RX11_77 C.2.2.2.2 (Nat.le_of_ble_eq_true rfl) (Nat.le_of_ble_eq_true rfl)) [1, 2] [0] rfl rfl (ci := 8) (qc := (RX9, TX9, 8)) rfl rfl (List.mem_flatten.mpr ⟨_, List.mem_of_getElem? (i := 0) rfl, List.mem_cons_self⟩) rfl rfl hl.1 dX11_feed_39 (Nat.le_of_ble_eq_true rfl) (Nat.le_of_ble_eq_true rfl) (fun b1 H locs hw G => ?_)
  obtain ⟨g_6, rfl⟩ := hw
  have G : zS T A s.heap s [[(x, .inr (10, [.ref t0, .ref ia, .ref im, .ref rd, .ref po, .ref co, .ref tr, .ref wa, .ref wb, .ref fi, .ref cd]))], [(t0, .inr (8, [.ref a1p, .int (nI (((0 + 4) + 4) + 4)), .int 0, .int (-1), .ref a2p, .ref a3p, .ref a4p, .ref a5p]))], [(a1p, .inl (T.2 1, 600, .inl g_6))]] _ _ := G
  refine lv_aload_n hx hb dX11_feed_42 rfl (lv_at hl 0 rfl) ?_
  refine z_get C G clX11 0 rfl 0 (by decide) m_fl_RX11_10 rfl dX11_feed_43 ?_
  refine lv_iload hx hb dX11_feed_46 (lv_at hl 4 rfl) ?_
  refine z_Vv (bc := [[(t0, .inr (8, [.ref a1p, .int (nI (((0 + 4) + 4) + 4)), .int 0, .int (-1), .ref a2p, .ref a3p, .ref a4p, .ref a5p]))], [(a1p, .inl (T.2 1, 600, .inl g_6))]]) (br := [[(x, .inr (10, [.ref t0, .ref ia, .ref im, .ref rd, .ref po, .ref co, .ref tr, .ref wa, .ref wb, .ref fi, .ref cd]))]]) (As := [.int p4]) (rest := []) C G (c_append l T t0 a1p a2p a3p a4p a5p (((0 + 4) + 4) + 4) 0 (-1) g_6 p4 (by first | assumption | omega | rfl)) (kV_RX11_77 C.2.2.2.2 (Nat.le_of_ble_eq_true rfl) (Nat.le_of_ble_eq_true rfl)) [1, 2] [0] rfl rfl (ci := 8) (qc := (RX9, TX9, 8)) rfl rfl (List.mem_flatten.mpr ⟨_, List.mem_of_getElem? (i := 0) rfl, List.mem_cons_self⟩) rfl rfl hl.1 dX11_feed_48 (Nat.le_of_ble_eq_true rfl) (Nat.le_of_ble_eq_true rfl) (fun b1 H locs hw G => ?_)
  obtain ⟨g_8, rfl⟩ := hw
  have G : zS T A s.heap s [[(x, .inr (10, [.ref t0, .ref ia, .ref im, .ref rd, .ref po, .ref co, .ref tr, .ref wa, .ref wb, .ref fi, .ref cd]))], [(t0, .inr (8, [.ref a1p, .int (nI ((((0 + 4) + 4) + 4) + 4)), .int 0, .int (-1), .ref a2p, .ref a3p, .ref a4p, .ref a5p]))], [(a1p, .inl (T.2 1, 600, .inl g_8))]] _ _ := G
  refine lv_aload_n hx hb dX11_feed_51 rfl (lv_at hl 0 rfl) ?_
  refine z_get C G clX11 0 rfl 0 (by decide) m_fl_RX11_10 rfl dX11_feed_52 ?_
  refine lv_iload hx hb dX11_feed_55 (lv_at hl 5 rfl) ?_
  refine z_Vv (bc := [[(t0, .inr (8, [.ref a1p, .int (nI ((((0 + 4) + 4) + 4) + 4)), .int 0, .int (-1), .ref a2p, .ref a3p, .ref a4p, .ref a5p]))], [(a1p, .inl (T.2 1, 600, .inl g_8))]]) (br := [[(x, .inr (10, [.ref t0, .ref ia, .ref im, .ref rd, .ref po, .ref co, .ref tr, .ref wa, .ref wb, .ref fi, .ref cd]))]]) (As := [.int p5]) (rest := []) C G (c_append l T t0 a1p a2p a3p a4p a5p ((((0 + 4) + 4) + 4) + 4) 0 (-1) g_8 p5 (by first | assumption | omega | rfl)) (kV_RX11_77 C.2.2.2.2 (Nat.le_of_ble_eq_true rfl) (Nat.le_of_ble_eq_true rfl)) [1, 2] [0] rfl rfl (ci := 8) (qc := (RX9, TX9, 8)) rfl rfl (List.mem_flatten.mpr ⟨_, List.mem_of_getElem? (i := 0) rfl, List.mem_cons_self⟩) rfl rfl hl.1 dX11_feed_57 (Nat.le_of_ble_eq_true rfl) (Nat.le_of_ble_eq_true rfl) (fun b1 H locs hw G => ?_)
  obtain ⟨g_10, rfl⟩ := hw
  have G : zS T A s.heap s [[(x, .inr (10, [.ref t0, .ref ia, .ref im, .ref rd, .ref po, .ref co, .ref tr, .ref wa, .ref wb, .ref fi, .ref cd]))], [(t0, .inr (8, [.ref a1p, .int (nI (((((0 + 4) + 4) + 4) + 4) + 4)), .int 0, .int (-1), .ref a2p, .ref a3p, .ref a4p, .ref a5p]))], [(a1p, .inl (T.2 1, 600, .inl g_10))]] _ _ := G
  refine lv_aload_n hx hb dX11_feed_60 rfl (lv_at hl 0 rfl) ?_
  refine z_get C G clX11 0 rfl 0 (by decide) m_fl_RX11_10 rfl dX11_feed_61 ?_
  refine z_get C G clX9 1 rfl 1 (by decide) m_fl_RX11_73 rfl dX11_feed_64 ?_
  have G := G.sub (bs' := []) [] rfl
  exact z_iret C hr hlocks G (Nat.le_of_ble_eq_true rfl) (Nat.le_of_ble_eq_true rfl) dX11_feed_67 ⟨rfl, (by decide)⟩
set_option maxHeartbeats 4000000 in
set_option maxRecDepth 100000 in
/-- end: on a new object -/
theorem c_x_end (l : Launch) (T : zTy) (x : Nat) (t0 : Nat) (ia : Nat) (im : Nat) (rd : Nat) (po : Nat) (co : Nat) (tr : Nat) (wa : Nat) (wb : Nat) (fi : Nat) (cd : Nat) (a1p : Nat) (a2p : Nat) (a3p : Nat) (a4p : Nat) (a5p : Nat) (n : Int32) : zMi l T yX11_end cX11_end 2 (some .int) 3 0 0 [.ref x, .int n] [[(x, .inr (10, [.ref t0, .ref ia, .ref im, .ref rd, .ref po, .ref co, .ref tr, .ref wa, .ref wb, .ref fi, .ref cd]))], [(t0, .inr (8, [.ref a1p, .int 0, .int 0, .int (-1), .ref a2p, .ref a3p, .ref a4p, .ref a5p]))]] (fun (r : Int32) bs => bs = [] ∧ r = zEnd n) := by
  refine zMi_of (own := RX11) (by decide) rfl (Nat.le_of_ble_eq_true rfl) ?_
  intro p e s m args below meth c A ls C hr hlocks hnm hAe G hl
  have hx := C.1
  have hb := C.2.1
  have hl : lv_has ls 2 [(0, .ref x), (1, .int n)] := hl
  refine lv_iload_n hx hb dX11_end_0 rfl (lv_at hl 1 rfl) ?_
  refine lv_if_lt (tgt := 15) hx hb dX11_end_1 (by decide) (fun c_1 => ?_) (fun c_1 => ?_)
  · have c_1n : n.toInt < (0 : Int) := (fa_lt _ _).mp c_1
    refine lv_iconst (v := (-1)) hx hb dX11_end_15 (by decide) ?_
    have G := G.sub (bs' := []) [] rfl
    exact z_iret C hr hlocks G (Nat.le_of_ble_eq_true rfl) (Nat.le_of_ble_eq_true rfl) dX11_end_16 ⟨rfl, (by unfold zEnd; rw [if_neg (by omega)])⟩
  · have c_1n : ¬ n.toInt < (0 : Int) := fun q => c_1 ((fa_lt _ _).mpr q)
    refine lv_iload_n hx hb dX11_end_4 rfl (lv_at hl 1 rfl) ?_
    refine lv_aload_n hx hb dX11_end_5 rfl (lv_at hl 0 rfl) ?_
    refine z_get C G clX11 0 rfl 0 (by decide) m_fl_RX11_10 rfl dX11_end_6 ?_
    refine z_get C G clX9 1 rfl 1 (by decide) m_fl_RX11_73 rfl dX11_end_9 ?_
    refine lv_icmp_le (tgt := 17) hx hb dX11_end_12 (by decide) (fun c_2 => ?_) (fun c_2 => ?_)
    · have c_2n : n.toInt ≤ (0 : Int) := (fa_le _ _).mp c_2
      refine lv_aload_n hx hb dX11_end_17 rfl (lv_at hl 0 rfl) ?_
      refine z_get C G clX11 0 rfl 0 (by decide) m_fl_RX11_10 rfl dX11_end_18 ?_
      refine lv_iload_n hx hb dX11_end_21 rfl (lv_at hl 1 rfl) ?_
      refine z_put C G clX9 1 rfl 1 (by decide) m_fl_RX11_73 rfl rfl rfl (Nat.le_of_ble_eq_true rfl) dX11_end_22 (fun H locs G => ?_)
      have G : zS T A s.heap s [[(x, .inr (10, [.ref t0, .ref ia, .ref im, .ref rd, .ref po, .ref co, .ref tr, .ref wa, .ref wb, .ref fi, .ref cd]))], [(t0, .inr (8, [.ref a1p, .int n, .int 0, .int (-1), .ref a2p, .ref a3p, .ref a4p, .ref a5p]))]] _ _ := G
      refine lv_iload_n hx hb dX11_end_25 rfl (lv_at hl 1 rfl) ?_
      have G := G.sub (bs' := []) [] rfl
      exact z_iret C hr hlocks G (Nat.le_of_ble_eq_true rfl) (Nat.le_of_ble_eq_true rfl) dX11_end_26 ⟨rfl, (by unfold zEnd; rw [if_pos (by omega)]; exact (fa_eq _ _).mpr (by show n.toInt = 0; omega))⟩
    · have c_2n : ¬ n.toInt ≤ (0 : Int) := fun q => c_2 ((fa_le _ _).mpr q)
      refine lv_iconst (v := (-1)) hx hb dX11_end_15 (by decide) ?_
      have G := G.sub (bs' := []) [] rfl
      exact z_iret C hr hlocks G (Nat.le_of_ble_eq_true rfl) (Nat.le_of_ble_eq_true rfl) dX11_end_16 ⟨rfl, (by unfold zEnd; rw [if_neg (by omega)])⟩
set_option maxHeartbeats 4000000 in
set_option maxRecDepth 100000 in
/-- fault: on a new object -/
theorem c_x_fault (l : Launch) (T : zTy) (x : Nat) (t0 : Nat) (ia : Nat) (im : Nat) (rd : Nat) (po : Nat) (co : Nat) (tr : Nat) (wa : Nat) (wb : Nat) (fi : Nat) (cd : Nat) (a1p : Nat) (a2p : Nat) (a3p : Nat) (a4p : Nat) (a5p : Nat) (n : Int32) : zMi l T yX11_fault cX11_fault 2 (some .int) 3 0 0 [.ref x, .int n] [[(x, .inr (10, [.ref t0, .ref ia, .ref im, .ref rd, .ref po, .ref co, .ref tr, .ref wa, .ref wb, .ref fi, .ref cd]))], [(t0, .inr (8, [.ref a1p, .int 0, .int 0, .int (-1), .ref a2p, .ref a3p, .ref a4p, .ref a5p]))]] (fun (r : Int32) bs => bs = [] ∧ r = zFault n) := by
  refine zMi_of (own := RX11) (by decide) rfl (Nat.le_of_ble_eq_true rfl) ?_
  intro p e s m args below meth c A ls C hr hlocks hnm hAe G hl
  have hx := C.1
  have hb := C.2.1
  have hl : lv_has ls 2 [(0, .ref x), (1, .int n)] := hl
  refine lv_iload_n hx hb dX11_fault_0 rfl (lv_at hl 1 rfl) ?_
  refine lv_if_ne (tgt := 14) hx hb dX11_fault_1 (by decide) (fun c_1 => ?_) (fun c_1 => ?_)
  · have c_1n : ¬ n.toInt = (0 : Int) := fun q => c_1 ((fa_eq _ _).mpr q)
    refine lv_iload_n hx hb dX11_fault_14 rfl (lv_at hl 1 rfl) ?_
    refine lv_iconst (v := 1) hx hb dX11_fault_15 (by decide) ?_
    refine lv_icmp_ne (tgt := 29) hx hb dX11_fault_16 (by decide) (fun c_2 => ?_) (fun c_2 => ?_)
    · have c_2n : ¬ n.toInt = (1 : Int) := fun q => c_2 ((fa_eq _ _).mpr q)
      refine lv_iconst (v := (-1)) hx hb dX11_fault_29 (by decide) ?_
      have G := G.sub (bs' := []) [] rfl
      exact z_iret C hr hlocks G (Nat.le_of_ble_eq_true rfl) (Nat.le_of_ble_eq_true rfl) dX11_fault_30 ⟨rfl, (by unfold zFault; rw [if_neg (by omega)])⟩
    · have c_2n : n.toInt = (1 : Int) := (fa_eq _ _).mp c_2
      refine lv_aload_n hx hb dX11_fault_19 rfl (lv_at hl 0 rfl) ?_
      refine z_get C G clX11 0 rfl 0 (by decide) m_fl_RX11_10 rfl dX11_fault_20 ?_
      refine z_get C G clX9 1 rfl 3 (by decide) m_fl_RX11_88 rfl dX11_fault_23 ?_
      refine lv_goto (tgt := 30) hx hb dX11_fault_26 (by decide) ?_
      have G := G.sub (bs' := []) [] rfl
      exact z_iret C hr hlocks G (Nat.le_of_ble_eq_true rfl) (Nat.le_of_ble_eq_true rfl) dX11_fault_30 ⟨rfl, (by unfold zFault; rw [if_neg (by omega)])⟩
  · have c_1n : n.toInt = (0 : Int) := (fa_eq _ _).mp c_1
    refine lv_aload_n hx hb dX11_fault_4 rfl (lv_at hl 0 rfl) ?_
    refine z_get C G clX11 0 rfl 0 (by decide) m_fl_RX11_10 rfl dX11_fault_5 ?_
    refine z_get C G clX9 1 rfl 2 (by decide) m_fl_RX11_85 rfl dX11_fault_8 ?_
    refine lv_goto (tgt := 30) hx hb dX11_fault_11 (by decide) ?_
    have G := G.sub (bs' := []) [] rfl
    exact z_iret C hr hlocks G (Nat.le_of_ble_eq_true rfl) (Nat.le_of_ble_eq_true rfl) dX11_fault_30 ⟨rfl, (by unfold zFault; rw [if_pos (by omega)])⟩
set_option maxHeartbeats 4000000 in
set_option maxRecDepth 100000 in
/-- count: on a new object -/
theorem c_x_count (l : Launch) (T : zTy) (x : Nat) (t0 : Nat) (ia : Nat) (im : Nat) (rd : Nat) (po : Nat) (co : Nat) (tr : Nat) (wa : Nat) (wb : Nat) (fi : Nat) (cd : Nat) (a1p : Nat) (a2p : Nat) (a3p : Nat) (a4p : Nat) (a5p : Nat) (n : Int32) : zMi l T yX11_count cX11_count 2 (some .int) 3 0 0 [.ref x, .int n] [[(x, .inr (10, [.ref t0, .ref ia, .ref im, .ref rd, .ref po, .ref co, .ref tr, .ref wa, .ref wb, .ref fi, .ref cd]))], [(t0, .inr (8, [.ref a1p, .int 0, .int 0, .int (-1), .ref a2p, .ref a3p, .ref a4p, .ref a5p]))], [(a2p, .inl (T.2 0, 3, .inl (fun _ => 0)))]] (fun (r : Int32) bs => bs = [] ∧ r = zCount n) := by
  refine zMi_of (own := RX11) (by decide) rfl (Nat.le_of_ble_eq_true rfl) ?_
  intro p e s m args below meth c A ls C hr hlocks hnm hAe G hl
  have hx := C.1
  have hb := C.2.1
  have hl : lv_has ls 2 [(0, .ref x), (1, .int n)] := hl
  refine lv_iload_n hx hb dX11_count_0 rfl (lv_at hl 1 rfl) ?_
  refine lv_if_lt (tgt := 21) hx hb dX11_count_1 (by decide) (fun c_1 => ?_) (fun c_1 => ?_)
  · have c_1n : n.toInt < (0 : Int) := (fa_lt _ _).mp c_1
    refine lv_bipush (v := (-2)) hx hb dX11_count_21 (by decide) ?_
    have G := G.sub (bs' := []) [] rfl
    exact z_iret C hr hlocks G (Nat.le_of_ble_eq_true rfl) (Nat.le_of_ble_eq_true rfl) dX11_count_23 ⟨rfl, (by unfold zCount; rw [if_neg (by omega)])⟩
  · have c_1n : ¬ n.toInt < (0 : Int) := fun q => c_1 ((fa_lt _ _).mpr q)
    refine lv_iload_n hx hb dX11_count_4 rfl (lv_at hl 1 rfl) ?_
    refine lv_iconst (v := 2) hx hb dX11_count_5 (by decide) ?_
    refine lv_icmp_gt (tgt := 21) hx hb dX11_count_6 (by decide) (fun c_2 => ?_) (fun c_2 => ?_)
    · have c_2n : (2 : Int) < n.toInt := (fa_lt _ _).mp c_2
      refine lv_bipush (v := (-2)) hx hb dX11_count_21 (by decide) ?_
      have G := G.sub (bs' := []) [] rfl
      exact z_iret C hr hlocks G (Nat.le_of_ble_eq_true rfl) (Nat.le_of_ble_eq_true rfl) dX11_count_23 ⟨rfl, (by unfold zCount; rw [if_neg (by omega)])⟩
    · have c_2n : ¬ (2 : Int) < n.toInt := fun q => c_2 ((fa_lt _ _).mpr q)
      refine lv_aload_n hx hb dX11_count_9 rfl (lv_at hl 0 rfl) ?_
      refine z_get C G clX11 0 rfl 0 (by decide) m_fl_RX11_10 rfl dX11_count_10 ?_
      refine z_get C G clX9 1 rfl 4 (by decide) m_fl_RX11_114 rfl dX11_count_13 ?_
      refine lv_iload_n hx hb dX11_count_16 rfl (lv_at hl 1 rfl) ?_
      refine z_ild C G 2 rfl (vp_in_iff.mpr ⟨by omega, by omega⟩) dX11_count_17 ?_
      refine lv_topi (fun v_3 ev_3 => ?_)
      subst ev_3
      refine lv_goto (tgt := 23) hx hb dX11_count_18 (by decide) ?_
      have G := G.sub (bs' := []) [] rfl
      exact z_iret C hr hlocks G (Nat.le_of_ble_eq_true rfl) (Nat.le_of_ble_eq_true rfl) dX11_count_23 ⟨rfl, (by unfold zCount; rw [if_pos (by omega)])⟩
set_option maxHeartbeats 4000000 in
set_option maxRecDepth 100000 in
/-- image: on a new object -/
theorem c_x_image (l : Launch) (T : zTy) (x : Nat) (t0 : Nat) (ia : Nat) (im : Nat) (rd : Nat) (po : Nat) (co : Nat) (tr : Nat) (wa : Nat) (wb : Nat) (fi : Nat) (cd : Nat) (a1p : Nat) (a2p : Nat) (a3p : Nat) (a4p : Nat) (a5p : Nat) (f1p : Nat → Int32) (f3p : Nat → Option Nat) (f4p : Nat → Option Nat) (f5p : Nat → Option Nat) (l0p : Nat) (l1p : Nat) (d0p : Nat) (d1p : Nat) (g0p : Nat) (g1p : Nat) (w1p : va_W) (w2p : va_W) (w3p : va_W) (w4p : va_W) (w5p : va_W) (w6p : va_W) (fq : Nat → Option Nat) (i0 : Nat) (i1 : Nat) (i2 : Nat) (u0 : va_W) (u1 : va_W) (u2 : va_W) (n : Int32) (hw0p : bLand T l0p w1p) (hw1p : bLand T l1p w2p) (hw2p : bDay T d0p w3p) (hw3p : bDay T d1p w4p) (hw4p : bLog T g0p w5p) (hw5p : bLog T g1p w6p) (he0p : f3p 0 = some l0p) (he1p : f3p 1 = some l1p) (he2p : f4p 0 = some d0p) (he3p : f4p 1 = some d1p) (he4p : f5p 0 = some g0p) (he5p : f5p 1 = some g1p) (hi0 : fq 0 = some i0) (hi1 : fq 1 = some i1) (hi2 : fq 2 = some i2) (hu0 : bTold T i0 u0) (hu1 : bTold T i1 u1) (hu2 : bTold T i2 u2) : zMi l T yX11_image cX11_image 2 (some .boolean) 5 0 0 [.ref x, .int n] [[(x, .inr (10, [.ref t0, .ref ia, .ref im, .ref rd, .ref po, .ref co, .ref tr, .ref wa, .ref wb, .ref fi, .ref cd]))], [(t0, .inr (8, [.ref a1p, .int 0, .int 0, .int (-1), .ref a2p, .ref a3p, .ref a4p, .ref a5p]))], [(a1p, .inl (T.2 1, 600, .inl f1p))], [(a2p, .inl (T.2 0, 3, .inl (fun _ => 0)))], [(a3p, .inl (T.2 3, 2, .inr (.inr (.inr (.inr f3p)))))], [(a4p, .inl (T.2 4, 2, .inr (.inr (.inr (.inr f4p)))))], [(a5p, .inl (T.2 5, 2, .inr (.inr (.inr (.inr f5p)))))], w1p, w2p, w3p, w4p, w5p, w6p, [(ia, .inl (T.2 6, 3, .inr (.inr (.inr (.inr fq)))))], u0, u1, u2, [(im, .inl (T.2 2, 3, .inl (fun _ => 0)))]] (fun (r : Int32) bs => bs = [] ∧ r = zImage n) := by
  refine zMi_of (own := RX11) (by decide) rfl (Nat.le_of_ble_eq_true rfl) ?_
  intro p e s m args below meth c A ls C hr hlocks hnm hAe G hl
  have hx := C.1
  have hb := C.2.1
  have hl : lv_has ls 2 [(0, .ref x), (1, .int n)] := hl
  refine lv_iload_n hx hb dX11_image_0 rfl (lv_at hl 1 rfl) ?_
  refine lv_if_lt (tgt := 9) hx hb dX11_image_1 (by decide) (fun c_1 => ?_) (fun c_1 => ?_)
  · have c_1n : n.toInt < (0 : Int) := (fa_lt _ _).mp c_1
    refine lv_iconst (v := 0) hx hb dX11_image_9 (by decide) ?_
    have G := G.sub (bs' := []) [] rfl
    exact z_zret C hr hlocks G (Nat.le_of_ble_eq_true rfl) (Nat.le_of_ble_eq_true rfl) dX11_image_10 rfl ⟨rfl, (by unfold zImage; rw [if_neg (by omega)])⟩
  · have c_1n : ¬ n.toInt < (0 : Int) := fun q => c_1 ((fa_lt _ _).mpr q)
    refine lv_iload_n hx hb dX11_image_4 rfl (lv_at hl 1 rfl) ?_
    refine lv_iconst (v := 3) hx hb dX11_image_5 (by decide) ?_
    refine lv_icmp_lt (tgt := 11) hx hb dX11_image_6 (by decide) (fun c_2 => ?_) (fun c_2 => ?_)
    · have c_2n : n.toInt < (3 : Int) := (fa_lt _ _).mp c_2
      rcases z_three (so := n) (by omega) (by omega) with rfl | rfl | rfl
      · obtain ⟨a1_3, a2_4, a3_5, a4_6, a5_7, v0_8, v1_9, v2_10, f1_11, f2_12, f3_13, f4_14, f5_15, l0_16, l1_17, d0_18, d1_19, g0_20, g1_21, w1_22, w2_23, w3_24, w4_25, w5_26, w6_27, rfl, h_28, h_29, h_30, h_31, h_32, h_33, h_34, h_35, h_36, h_37, h_38, h_39⟩ := hu0
        have G : zS T A s.heap s [[(x, .inr (10, [.ref t0, .ref ia, .ref im, .ref rd, .ref po, .ref co, .ref tr, .ref wa, .ref wb, .ref fi, .ref cd]))], [(t0, .inr (8, [.ref a1p, .int 0, .int 0, .int (-1), .ref a2p, .ref a3p, .ref a4p, .ref a5p]))], [(a1p, .inl (T.2 1, 600, .inl f1p))], [(a2p, .inl (T.2 0, 3, .inl (fun _ => 0)))], [(a3p, .inl (T.2 3, 2, .inr (.inr (.inr (.inr f3p)))))], [(a4p, .inl (T.2 4, 2, .inr (.inr (.inr (.inr f4p)))))], [(a5p, .inl (T.2 5, 2, .inr (.inr (.inr (.inr f5p)))))], w1p, w2p, w3p, w4p, w5p, w6p, [(ia, .inl (T.2 6, 3, .inr (.inr (.inr (.inr fq)))))], [(i0, .inr (8, [.ref a1_3, .int v0_8, .int v1_9, .int v2_10, .ref a2_4, .ref a3_5, .ref a4_6, .ref a5_7]))], [(a1_3, .inl (T.2 1, 600, .inl f1_11))], [(a2_4, .inl (T.2 0, 3, .inl f2_12))], [(a3_5, .inl (T.2 3, 2, .inr (.inr (.inr (.inr f3_13)))))], [(a4_6, .inl (T.2 4, 2, .inr (.inr (.inr (.inr f4_14)))))], [(a5_7, .inl (T.2 5, 2, .inr (.inr (.inr (.inr f5_15)))))], w1_22, w2_23, w3_24, w4_25, w5_26, w6_27, u1, u2, [(im, .inl (T.2 2, 3, .inl (fun _ => 0)))]] _ _ := G.re (by simp only [List.flatten_cons, List.flatten_append, List.flatten_nil, List.append_assoc, List.cons_append, List.nil_append, List.append_nil])
        refine lv_aload_n hx hb dX11_image_11 rfl (lv_at hl 0 rfl) ?_
        refine z_get C G clX11 0 rfl 1 (by decide) m_fl_RX11_16 rfl dX11_image_12 ?_
        refine lv_iload_n hx hb dX11_image_15 rfl (lv_at hl 1 rfl) ?_
        refine z_ald C G 13 6 rfl rfl (vp_in_nI (n := 0) (by decide) (by decide)) dX11_image_16 ?_
        rw [show fq ((0 : Int32).toNatClampNeg) = some i0 from hi0]
        refine lv_aload_n hx hb dX11_image_17 rfl (lv_at hl 0 rfl) ?_
        refine z_get C G clX11 0 rfl 0 (by decide) m_fl_RX11_10 rfl dX11_image_18 ?_
        refine z_Vv (bc := [[(i0, .inr (8, [.ref a1_3, .int v0_8, .int v1_9, .int v2_10, .ref a2_4, .ref a3_5, .ref a4_6, .ref a5_7]))], [(a1_3, .inl (T.2 1, 600, .inl f1_11))], [(a2_4, .inl (T.2 0, 3, .inl f2_12))], [(a3_5, .inl (T.2 3, 2, .inr (.inr (.inr (.inr f3_13)))))], [(a4_6, .inl (T.2 4, 2, .inr (.inr (.inr (.inr f4_14)))))], [(a5_7, .inl (T.2 5, 2, .inr (.inr (.inr (.inr f5_15)))))], w1_22, w2_23, w3_24, w4_25, w5_26, w6_27, [(t0, .inr (8, [.ref a1p, .int 0, .int 0, .int (-1), .ref a2p, .ref a3p, .ref a4p, .ref a5p]))], [(a1p, .inl (T.2 1, 600, .inl f1p))], [(a2p, .inl (T.2 0, 3, .inl (fun _ => 0)))], [(a3p, .inl (T.2 3, 2, .inr (.inr (.inr (.inr f3p)))))], [(a4p, .inl (T.2 4, 2, .inr (.inr (.inr (.inr f4p)))))], [(a5p, .inl (T.2 5, 2, .inr (.inr (.inr (.inr f5p)))))], w1p, w2p, w3p, w4p, w5p, w6p]) (br := [[(x, .inr (10, [.ref t0, .ref ia, .ref im, .ref rd, .ref po, .ref co, .ref tr, .ref wa, .ref wb, .ref fi, .ref cd]))], [(ia, .inl (T.2 6, 3, .inr (.inr (.inr (.inr fq)))))], u1, u2, [(im, .inl (T.2 2, 3, .inl (fun _ => 0)))]]) (As := [.ref t0]) (rest := []) C G (c_Told_takeAll l T i0 t0 a1_3 a2_4 a3_5 a4_6 a5_7 v0_8 v1_9 v2_10 f1_11 f2_12 f3_13 f4_14 f5_15 l0_16 l1_17 d0_18 d1_19 g0_20 g1_21 w1_22 w2_23 w3_24 w4_25 w5_26 w6_27 a1p a2p a3p a4p a5p 0 0 (-1) f1p (fun _ => 0) f3p f4p f5p l0p l1p d0p d1p g0p g1p w1p w2p w3p w4p w5p w6p h_28 h_29 h_30 h_31 h_32 h_33 h_34 h_35 h_36 h_37 h_38 h_39 hw0p hw1p hw2p hw3p hw4p hw5p he0p he1p he2p he3p he4p he5p) (kV_RX11_117 C.2.2.2.2 (Nat.le_of_ble_eq_true rfl) (Nat.le_of_ble_eq_true rfl)) [14, 15, 16, 17, 18, 19, 20, 21, 22, 23, 24, 25, 1, 2, 3, 4, 5, 6, 7, 8, 9, 10, 11, 12] [0, 13, 26, 27, 28] rfl rfl (ci := 8) (qc := (RX9, TX9, 8)) rfl rfl (List.mem_flatten.mpr ⟨_, List.mem_of_getElem? (i := 0) rfl, List.mem_cons_self⟩) rfl rfl hl.1 dX11_image_21 (Nat.le_of_ble_eq_true rfl) (Nat.le_of_ble_eq_true rfl) (fun b1 H locs hw G => ?_)
        obtain rfl := hw
        have G : zS T A s.heap s [[(x, .inr (10, [.ref t0, .ref ia, .ref im, .ref rd, .ref po, .ref co, .ref tr, .ref wa, .ref wb, .ref fi, .ref cd]))], [(ia, .inl (T.2 6, 3, .inr (.inr (.inr (.inr fq)))))], u1, u2, [(im, .inl (T.2 2, 3, .inl (fun _ => 0)))]] _ _ := G
        refine lv_aload_n hx hb dX11_image_24 rfl (lv_at hl 0 rfl) ?_
        refine z_get C G clX11 0 rfl 2 (by decide) m_fl_RX11_20 rfl dX11_image_25 ?_
        refine lv_iload_n hx hb dX11_image_28 rfl (lv_at hl 1 rfl) ?_
        refine lv_iconst (v := 1) hx hb dX11_image_29 (by decide) ?_
        refine z_zst C G 4 rfl (vp_in_nI (n := 0) (by decide) (by decide)) dX11_image_30 (fun H locs G => ?_)
        have G : zS T A s.heap s [[(x, .inr (10, [.ref t0, .ref ia, .ref im, .ref rd, .ref po, .ref co, .ref tr, .ref wa, .ref wb, .ref fi, .ref cd]))], [(ia, .inl (T.2 6, 3, .inr (.inr (.inr (.inr fq)))))], u1, u2, [(im, .inl (T.2 2, 3, .inl (upd (fun _ => 0) 0 (vp_nar .boolean 1))))]] _ _ := G
        refine lv_iconst (v := 1) hx hb dX11_image_31 (by decide) ?_
        have G := G.sub (bs' := []) [] rfl
        exact z_zret C hr hlocks G (Nat.le_of_ble_eq_true rfl) (Nat.le_of_ble_eq_true rfl) dX11_image_32 rfl ⟨rfl, (by decide)⟩
      · obtain ⟨a1_41, a2_42, a3_43, a4_44, a5_45, v0_46, v1_47, v2_48, f1_49, f2_50, f3_51, f4_52, f5_53, l0_54, l1_55, d0_56, d1_57, g0_58, g1_59, w1_60, w2_61, w3_62, w4_63, w5_64, w6_65, rfl, h_66, h_67, h_68, h_69, h_70, h_71, h_72, h_73, h_74, h_75, h_76, h_77⟩ := hu1
        have G : zS T A s.heap s [[(x, .inr (10, [.ref t0, .ref ia, .ref im, .ref rd, .ref po, .ref co, .ref tr, .ref wa, .ref wb, .ref fi, .ref cd]))], [(t0, .inr (8, [.ref a1p, .int 0, .int 0, .int (-1), .ref a2p, .ref a3p, .ref a4p, .ref a5p]))], [(a1p, .inl (T.2 1, 600, .inl f1p))], [(a2p, .inl (T.2 0, 3, .inl (fun _ => 0)))], [(a3p, .inl (T.2 3, 2, .inr (.inr (.inr (.inr f3p)))))], [(a4p, .inl (T.2 4, 2, .inr (.inr (.inr (.inr f4p)))))], [(a5p, .inl (T.2 5, 2, .inr (.inr (.inr (.inr f5p)))))], w1p, w2p, w3p, w4p, w5p, w6p, [(ia, .inl (T.2 6, 3, .inr (.inr (.inr (.inr fq)))))], u0, [(i1, .inr (8, [.ref a1_41, .int v0_46, .int v1_47, .int v2_48, .ref a2_42, .ref a3_43, .ref a4_44, .ref a5_45]))], [(a1_41, .inl (T.2 1, 600, .inl f1_49))], [(a2_42, .inl (T.2 0, 3, .inl f2_50))], [(a3_43, .inl (T.2 3, 2, .inr (.inr (.inr (.inr f3_51)))))], [(a4_44, .inl (T.2 4, 2, .inr (.inr (.inr (.inr f4_52)))))], [(a5_45, .inl (T.2 5, 2, .inr (.inr (.inr (.inr f5_53)))))], w1_60, w2_61, w3_62, w4_63, w5_64, w6_65, u2, [(im, .inl (T.2 2, 3, .inl (fun _ => 0)))]] _ _ := G.re (by simp only [List.flatten_cons, List.flatten_append, List.flatten_nil, List.append_assoc, List.cons_append, List.nil_append, List.append_nil])
        refine lv_aload_n hx hb dX11_image_11 rfl (lv_at hl 0 rfl) ?_
        refine z_get C G clX11 0 rfl 1 (by decide) m_fl_RX11_16 rfl dX11_image_12 ?_
        refine lv_iload_n hx hb dX11_image_15 rfl (lv_at hl 1 rfl) ?_
        refine z_ald C G 13 6 rfl rfl (vp_in_nI (n := 1) (by decide) (by decide)) dX11_image_16 ?_
        rw [show fq ((1 : Int32).toNatClampNeg) = some i1 from hi1]
        refine lv_aload_n hx hb dX11_image_17 rfl (lv_at hl 0 rfl) ?_
        refine z_get C G clX11 0 rfl 0 (by decide) m_fl_RX11_10 rfl dX11_image_18 ?_
        refine z_Vv (bc := [[(i1, .inr (8, [.ref a1_41, .int v0_46, .int v1_47, .int v2_48, .ref a2_42, .ref a3_43, .ref a4_44, .ref a5_45]))], [(a1_41, .inl (T.2 1, 600, .inl f1_49))], [(a2_42, .inl (T.2 0, 3, .inl f2_50))], [(a3_43, .inl (T.2 3, 2, .inr (.inr (.inr (.inr f3_51)))))], [(a4_44, .inl (T.2 4, 2, .inr (.inr (.inr (.inr f4_52)))))], [(a5_45, .inl (T.2 5, 2, .inr (.inr (.inr (.inr f5_53)))))], w1_60, w2_61, w3_62, w4_63, w5_64, w6_65, [(t0, .inr (8, [.ref a1p, .int 0, .int 0, .int (-1), .ref a2p, .ref a3p, .ref a4p, .ref a5p]))], [(a1p, .inl (T.2 1, 600, .inl f1p))], [(a2p, .inl (T.2 0, 3, .inl (fun _ => 0)))], [(a3p, .inl (T.2 3, 2, .inr (.inr (.inr (.inr f3p)))))], [(a4p, .inl (T.2 4, 2, .inr (.inr (.inr (.inr f4p)))))], [(a5p, .inl (T.2 5, 2, .inr (.inr (.inr (.inr f5p)))))], w1p, w2p, w3p, w4p, w5p, w6p]) (br := [[(x, .inr (10, [.ref t0, .ref ia, .ref im, .ref rd, .ref po, .ref co, .ref tr, .ref wa, .ref wb, .ref fi, .ref cd]))], [(ia, .inl (T.2 6, 3, .inr (.inr (.inr (.inr fq)))))], u0, u2, [(im, .inl (T.2 2, 3, .inl (fun _ => 0)))]]) (As := [.ref t0]) (rest := []) C G (c_Told_takeAll l T i1 t0 a1_41 a2_42 a3_43 a4_44 a5_45 v0_46 v1_47 v2_48 f1_49 f2_50 f3_51 f4_52 f5_53 l0_54 l1_55 d0_56 d1_57 g0_58 g1_59 w1_60 w2_61 w3_62 w4_63 w5_64 w6_65 a1p a2p a3p a4p a5p 0 0 (-1) f1p (fun _ => 0) f3p f4p f5p l0p l1p d0p d1p g0p g1p w1p w2p w3p w4p w5p w6p h_66 h_67 h_68 h_69 h_70 h_71 h_72 h_73 h_74 h_75 h_76 h_77 hw0p hw1p hw2p hw3p hw4p hw5p he0p he1p he2p he3p he4p he5p) (kV_RX11_117 C.2.2.2.2 (Nat.le_of_ble_eq_true rfl) (Nat.le_of_ble_eq_true rfl)) [15, 16, 17, 18, 19, 20, 21, 22, 23, 24, 25, 26, 1, 2, 3, 4, 5, 6, 7, 8, 9, 10, 11, 12] [0, 13, 14, 27, 28] rfl rfl (ci := 8) (qc := (RX9, TX9, 8)) rfl rfl (List.mem_flatten.mpr ⟨_, List.mem_of_getElem? (i := 0) rfl, List.mem_cons_self⟩) rfl rfl hl.1 dX11_image_21 (Nat.le_of_ble_eq_true rfl) (Nat.le_of_ble_eq_true rfl) (fun b1 H locs hw G => ?_)
        obtain rfl := hw
        have G : zS T A s.heap s [[(x, .inr (10, [.ref t0, .ref ia, .ref im, .ref rd, .ref po, .ref co, .ref tr, .ref wa, .ref wb, .ref fi, .ref cd]))], [(ia, .inl (T.2 6, 3, .inr (.inr (.inr (.inr fq)))))], u0, u2, [(im, .inl (T.2 2, 3, .inl (fun _ => 0)))]] _ _ := G
        refine lv_aload_n hx hb dX11_image_24 rfl (lv_at hl 0 rfl) ?_
        refine z_get C G clX11 0 rfl 2 (by decide) m_fl_RX11_20 rfl dX11_image_25 ?_
        refine lv_iload_n hx hb dX11_image_28 rfl (lv_at hl 1 rfl) ?_
        refine lv_iconst (v := 1) hx hb dX11_image_29 (by decide) ?_
        refine z_zst C G 4 rfl (vp_in_nI (n := 1) (by decide) (by decide)) dX11_image_30 (fun H locs G => ?_)
        have G : zS T A s.heap s [[(x, .inr (10, [.ref t0, .ref ia, .ref im, .ref rd, .ref po, .ref co, .ref tr, .ref wa, .ref wb, .ref fi, .ref cd]))], [(ia, .inl (T.2 6, 3, .inr (.inr (.inr (.inr fq)))))], u0, u2, [(im, .inl (T.2 2, 3, .inl (upd (fun _ => 0) 1 (vp_nar .boolean 1))))]] _ _ := G
        refine lv_iconst (v := 1) hx hb dX11_image_31 (by decide) ?_
        have G := G.sub (bs' := []) [] rfl
        exact z_zret C hr hlocks G (Nat.le_of_ble_eq_true rfl) (Nat.le_of_ble_eq_true rfl) dX11_image_32 rfl ⟨rfl, (by decide)⟩
      · obtain ⟨a1_79, a2_80, a3_81, a4_82, a5_83, v0_84, v1_85, v2_86, f1_87, f2_88, f3_89, f4_90, f5_91, l0_92, l1_93, d0_94, d1_95, g0_96, g1_97, w1_98, w2_99, w3_100, w4_101, w5_102, w6_103, rfl, h_104, h_105, h_106, h_107, h_108, h_109, h_110, h_111, h_112, h_113, h_114, h_115⟩ := hu2
        have G : zS T A s.heap s [[(x, .inr (10, [.ref t0, .ref ia, .ref im, .ref rd, .ref po, .ref co, .ref tr, .ref wa, .ref wb, .ref fi, .ref cd]))], [(t0, .inr (8, [.ref a1p, .int 0, .int 0, .int (-1), .ref a2p, .ref a3p, .ref a4p, .ref a5p]))], [(a1p, .inl (T.2 1, 600, .inl f1p))], [(a2p, .inl (T.2 0, 3, .inl (fun _ => 0)))], [(a3p, .inl (T.2 3, 2, .inr (.inr (.inr (.inr f3p)))))], [(a4p, .inl (T.2 4, 2, .inr (.inr (.inr (.inr f4p)))))], [(a5p, .inl (T.2 5, 2, .inr (.inr (.inr (.inr f5p)))))], w1p, w2p, w3p, w4p, w5p, w6p, [(ia, .inl (T.2 6, 3, .inr (.inr (.inr (.inr fq)))))], u0, u1, [(i2, .inr (8, [.ref a1_79, .int v0_84, .int v1_85, .int v2_86, .ref a2_80, .ref a3_81, .ref a4_82, .ref a5_83]))], [(a1_79, .inl (T.2 1, 600, .inl f1_87))], [(a2_80, .inl (T.2 0, 3, .inl f2_88))], [(a3_81, .inl (T.2 3, 2, .inr (.inr (.inr (.inr f3_89)))))], [(a4_82, .inl (T.2 4, 2, .inr (.inr (.inr (.inr f4_90)))))], [(a5_83, .inl (T.2 5, 2, .inr (.inr (.inr (.inr f5_91)))))], w1_98, w2_99, w3_100, w4_101, w5_102, w6_103, [(im, .inl (T.2 2, 3, .inl (fun _ => 0)))]] _ _ := G.re (by simp only [List.flatten_cons, List.flatten_append, List.flatten_nil, List.append_assoc, List.cons_append, List.nil_append, List.append_nil])
        refine lv_aload_n hx hb dX11_image_11 rfl (lv_at hl 0 rfl) ?_
        refine z_get C G clX11 0 rfl 1 (by decide) m_fl_RX11_16 rfl dX11_image_12 ?_
        refine lv_iload_n hx hb dX11_image_15 rfl (lv_at hl 1 rfl) ?_
        refine z_ald C G 13 6 rfl rfl (vp_in_nI (n := 2) (by decide) (by decide)) dX11_image_16 ?_
        rw [show fq ((2 : Int32).toNatClampNeg) = some i2 from hi2]
        refine lv_aload_n hx hb dX11_image_17 rfl (lv_at hl 0 rfl) ?_
        refine z_get C G clX11 0 rfl 0 (by decide) m_fl_RX11_10 rfl dX11_image_18 ?_
        refine z_Vv (bc := [[(i2, .inr (8, [.ref a1_79, .int v0_84, .int v1_85, .int v2_86, .ref a2_80, .ref a3_81, .ref a4_82, .ref a5_83]))], [(a1_79, .inl (T.2 1, 600, .inl f1_87))], [(a2_80, .inl (T.2 0, 3, .inl f2_88))], [(a3_81, .inl (T.2 3, 2, .inr (.inr (.inr (.inr f3_89)))))], [(a4_82, .inl (T.2 4, 2, .inr (.inr (.inr (.inr f4_90)))))], [(a5_83, .inl (T.2 5, 2, .inr (.inr (.inr (.inr f5_91)))))], w1_98, w2_99, w3_100, w4_101, w5_102, w6_103, [(t0, .inr (8, [.ref a1p, .int 0, .int 0, .int (-1), .ref a2p, .ref a3p, .ref a4p, .ref a5p]))], [(a1p, .inl (T.2 1, 600, .inl f1p))], [(a2p, .inl (T.2 0, 3, .inl (fun _ => 0)))], [(a3p, .inl (T.2 3, 2, .inr (.inr (.inr (.inr f3p)))))], [(a4p, .inl (T.2 4, 2, .inr (.inr (.inr (.inr f4p)))))], [(a5p, .inl (T.2 5, 2, .inr (.inr (.inr (.inr f5p)))))], w1p, w2p, w3p, w4p, w5p, w6p]) (br := [[(x, .inr (10, [.ref t0, .ref ia, .ref im, .ref rd, .ref po, .ref co, .ref tr, .ref wa, .ref wb, .ref fi, .ref cd]))], [(ia, .inl (T.2 6, 3, .inr (.inr (.inr (.inr fq)))))], u0, u1, [(im, .inl (T.2 2, 3, .inl (fun _ => 0)))]]) (As := [.ref t0]) (rest := []) C G (c_Told_takeAll l T i2 t0 a1_79 a2_80 a3_81 a4_82 a5_83 v0_84 v1_85 v2_86 f1_87 f2_88 f3_89 f4_90 f5_91 l0_92 l1_93 d0_94 d1_95 g0_96 g1_97 w1_98 w2_99 w3_100 w4_101 w5_102 w6_103 a1p a2p a3p a4p a5p 0 0 (-1) f1p (fun _ => 0) f3p f4p f5p l0p l1p d0p d1p g0p g1p w1p w2p w3p w4p w5p w6p h_104 h_105 h_106 h_107 h_108 h_109 h_110 h_111 h_112 h_113 h_114 h_115 hw0p hw1p hw2p hw3p hw4p hw5p he0p he1p he2p he3p he4p he5p) (kV_RX11_117 C.2.2.2.2 (Nat.le_of_ble_eq_true rfl) (Nat.le_of_ble_eq_true rfl)) [16, 17, 18, 19, 20, 21, 22, 23, 24, 25, 26, 27, 1, 2, 3, 4, 5, 6, 7, 8, 9, 10, 11, 12] [0, 13, 14, 15, 28] rfl rfl (ci := 8) (qc := (RX9, TX9, 8)) rfl rfl (List.mem_flatten.mpr ⟨_, List.mem_of_getElem? (i := 0) rfl, List.mem_cons_self⟩) rfl rfl hl.1 dX11_image_21 (Nat.le_of_ble_eq_true rfl) (Nat.le_of_ble_eq_true rfl) (fun b1 H locs hw G => ?_)
        obtain rfl := hw
        have G : zS T A s.heap s [[(x, .inr (10, [.ref t0, .ref ia, .ref im, .ref rd, .ref po, .ref co, .ref tr, .ref wa, .ref wb, .ref fi, .ref cd]))], [(ia, .inl (T.2 6, 3, .inr (.inr (.inr (.inr fq)))))], u0, u1, [(im, .inl (T.2 2, 3, .inl (fun _ => 0)))]] _ _ := G
        refine lv_aload_n hx hb dX11_image_24 rfl (lv_at hl 0 rfl) ?_
        refine z_get C G clX11 0 rfl 2 (by decide) m_fl_RX11_20 rfl dX11_image_25 ?_
        refine lv_iload_n hx hb dX11_image_28 rfl (lv_at hl 1 rfl) ?_
        refine lv_iconst (v := 1) hx hb dX11_image_29 (by decide) ?_
        refine z_zst C G 4 rfl (vp_in_nI (n := 2) (by decide) (by decide)) dX11_image_30 (fun H locs G => ?_)
        have G : zS T A s.heap s [[(x, .inr (10, [.ref t0, .ref ia, .ref im, .ref rd, .ref po, .ref co, .ref tr, .ref wa, .ref wb, .ref fi, .ref cd]))], [(ia, .inl (T.2 6, 3, .inr (.inr (.inr (.inr fq)))))], u0, u1, [(im, .inl (T.2 2, 3, .inl (upd (fun _ => 0) 2 (vp_nar .boolean 1))))]] _ _ := G
        refine lv_iconst (v := 1) hx hb dX11_image_31 (by decide) ?_
        have G := G.sub (bs' := []) [] rfl
        exact z_zret C hr hlocks G (Nat.le_of_ble_eq_true rfl) (Nat.le_of_ble_eq_true rfl) dX11_image_32 rfl ⟨rfl, (by decide)⟩
    · have c_2n : ¬ n.toInt < (3 : Int) := fun q => c_2 ((fa_lt _ _).mpr q)
      refine lv_iconst (v := 0) hx hb dX11_image_9 (by decide) ?_
      have G := G.sub (bs' := []) [] rfl
      exact z_zret C hr hlocks G (Nat.le_of_ble_eq_true rfl) (Nat.le_of_ble_eq_true rfl) dX11_image_10 rfl ⟨rfl, (by unfold zImage; rw [if_neg (by omega)])⟩
set_option maxHeartbeats 4000000 in
set_option maxRecDepth 100000 in
/-- again: on a new object -/
theorem c_x_again (l : Launch) (T : zTy) (x : Nat) (t0 : Nat) (ia : Nat) (im : Nat) (rd : Nat) (po : Nat) (co : Nat) (tr : Nat) (wa : Nat) (wb : Nat) (fi : Nat) (cd : Nat) (n : Int32) : zMi l T yX11_again cX11_again 2 (some .boolean) 5 0 0 [.ref x, .int n] [[(x, .inr (10, [.ref t0, .ref ia, .ref im, .ref rd, .ref po, .ref co, .ref tr, .ref wa, .ref wb, .ref fi, .ref cd]))], [(im, .inl (T.2 2, 3, .inl (fun _ => 0)))]] (fun (r : Int32) bs => bs = [] ∧ r = 0) := by
  refine zMi_of (own := RX11) (by decide) rfl (Nat.le_of_ble_eq_true rfl) ?_
  intro p e s m args below meth c A ls C hr hlocks hnm hAe G hl
  have hx := C.1
  have hb := C.2.1
  have hl : lv_has ls 2 [(0, .ref x), (1, .int n)] := hl
  refine lv_iload_n hx hb dX11_again_0 rfl (lv_at hl 1 rfl) ?_
  refine lv_if_lt (tgt := 18) hx hb dX11_again_1 (by decide) (fun c_1 => ?_) (fun c_1 => ?_)
  · have c_1n : n.toInt < (0 : Int) := (fa_lt _ _).mp c_1
    refine lv_iconst (v := 0) hx hb dX11_again_18 (by decide) ?_
    have G := G.sub (bs' := []) [] rfl
    exact z_zret C hr hlocks G (Nat.le_of_ble_eq_true rfl) (Nat.le_of_ble_eq_true rfl) dX11_again_19 rfl ⟨rfl, rfl⟩
  · have c_1n : ¬ n.toInt < (0 : Int) := fun q => c_1 ((fa_lt _ _).mpr q)
    refine lv_iload_n hx hb dX11_again_4 rfl (lv_at hl 1 rfl) ?_
    refine lv_iconst (v := 3) hx hb dX11_again_5 (by decide) ?_
    refine lv_icmp_ge (tgt := 18) hx hb dX11_again_6 (by decide) (fun c_2 => ?_) (fun c_2 => ?_)
    · have c_2n : (3 : Int) ≤ n.toInt := (fa_le _ _).mp c_2
      refine lv_iconst (v := 0) hx hb dX11_again_18 (by decide) ?_
      have G := G.sub (bs' := []) [] rfl
      exact z_zret C hr hlocks G (Nat.le_of_ble_eq_true rfl) (Nat.le_of_ble_eq_true rfl) dX11_again_19 rfl ⟨rfl, rfl⟩
    · have c_2n : ¬ (3 : Int) ≤ n.toInt := fun q => c_2 ((fa_le _ _).mpr q)
      refine lv_aload_n hx hb dX11_again_9 rfl (lv_at hl 0 rfl) ?_
      refine z_get C G clX11 0 rfl 2 (by decide) m_fl_RX11_20 rfl dX11_again_10 ?_
      refine lv_iload_n hx hb dX11_again_13 rfl (lv_at hl 1 rfl) ?_
      refine z_zld C G 1 rfl (vp_in_iff.mpr ⟨by omega, by omega⟩) dX11_again_14 ?_
      refine lv_topi (fun v_3 ev_3 => ?_)
      subst ev_3
      refine lv_if_ne (tgt := 20) hx hb dX11_again_15 (by decide) (fun q => absurd (by decide) q) (fun _ => ?_)
      refine lv_iconst (v := 0) hx hb dX11_again_18 (by decide) ?_
      have G := G.sub (bs' := []) [] rfl
      exact z_zret C hr hlocks G (Nat.le_of_ble_eq_true rfl) (Nat.le_of_ble_eq_true rfl) dX11_again_19 rfl ⟨rfl, rfl⟩
set_option maxHeartbeats 4000000 in
set_option maxRecDepth 100000 in
/-- fit: false -/
theorem c_x_fit (l : Launch) (T : zTy) (x : Nat) (t0 : Nat) (ia : Nat) (im : Nat) (rd : Nat) (po : Nat) (co : Nat) (tr : Nat) (wa : Nat) (wb : Nat) (fi : Nat) (cd : Nat) (a1p : Nat) (a2p : Nat) (a3p : Nat) (a4p : Nat) (a5p : Nat) (p1 : Int32) (p2 : Int32) : zMi l T yX11_fit cX11_fit 5 (some .boolean) 4 0 0 [.ref x, .int p1, .int p2] [[(x, .inr (10, [.ref t0, .ref ia, .ref im, .ref rd, .ref po, .ref co, .ref tr, .ref wa, .ref wb, .ref fi, .ref cd]))], [(t0, .inr (8, [.ref a1p, .int 0, .int 0, .int (-1), .ref a2p, .ref a3p, .ref a4p, .ref a5p]))], [(a2p, .inl (T.2 0, 3, .inl (fun _ => 0)))]] (fun (r : Int32) bs => bs = [[(x, .inr (10, [.ref t0, .ref ia, .ref im, .ref rd, .ref po, .ref co, .ref tr, .ref wa, .ref wb, .ref fi, .ref cd]))], [(t0, .inr (8, [.ref a1p, .int 0, .int 0, .int (-1), .ref a2p, .ref a3p, .ref a4p, .ref a5p]))], [(a2p, .inl (T.2 0, 3, .inl (fun _ => 0)))]] ∧ r = 0) := by
  refine zMi_of (own := RX11) (by decide) rfl (Nat.le_of_ble_eq_true rfl) ?_
  intro p e s m args below meth c A ls C hr hlocks hnm hAe G hl
  have hx := C.1
  have hb := C.2.1
  have hl : lv_has ls 5 [(0, .ref x), (1, .int p1), (2, .int p2)] := hl
  refine lv_aload_n hx hb dX11_fit_0 rfl (lv_at hl 0 rfl) ?_
  refine z_get C G clX11 0 rfl 0 (by decide) m_fl_RX11_10 rfl dX11_fit_1 ?_
  refine lv_iload_n hx hb dX11_fit_4 rfl (lv_at hl 1 rfl) ?_
  refine z_Vq (bc := [[(t0, .inr (8, [.ref a1p, .int 0, .int 0, .int (-1), .ref a2p, .ref a3p, .ref a4p, .ref a5p]))], [(a2p, .inl (T.2 0, 3, .inl (fun _ => 0)))]]) (br := [[(x, .inr (10, [.ref t0, .ref ia, .ref im, .ref rd, .ref po, .ref co, .ref tr, .ref wa, .ref wb, .ref fi, .ref cd]))]]) (As := [.int p1]) (rest := []) C G (c_landAt0 l T t0 a1p a2p a3p a4p a5p 0 0 (-1) p1) (kV_RX11_121 C.2.2.2.2 (Nat.le_of_ble_eq_true rfl) (Nat.le_of_ble_eq_true rfl)) [1, 2] [0] rfl rfl (ci := 8) (qc := (RX9, TX9, 8)) rfl rfl (List.mem_flatten.mpr ⟨_, List.mem_of_getElem? (i := 0) rfl, List.mem_cons_self⟩) rfl rfl hl.1 dX11_fit_5 (Nat.le_of_ble_eq_true rfl) (Nat.le_of_ble_eq_true rfl) (fun r_2 b1 H locs hw G => ?_)
  obtain ⟨rfl, h_1⟩ := hw
  have G : zS T A s.heap s [[(x, .inr (10, [.ref t0, .ref ia, .ref im, .ref rd, .ref po, .ref co, .ref tr, .ref wa, .ref wb, .ref fi, .ref cd]))], [(t0, .inr (8, [.ref a1p, .int 0, .int 0, .int (-1), .ref a2p, .ref a3p, .ref a4p, .ref a5p]))], [(a2p, .inl (T.2 0, 3, .inl (fun _ => 0)))]] _ _ := G
  subst h_1
  refine lv_astore_nN (lv' := [(3, .null), (0, .ref x), (1, .int p1), (2, .int p2)]) hx hb dX11_fit_8 rfl hl (by decide) rfl (fun ls hl => ?_)
  refine lv_aload_n hx hb dX11_fit_9 rfl (lv_at hl 1 rfl) ?_
  refine z_get C G clX11 0 rfl 0 (by decide) m_fl_RX11_10 rfl dX11_fit_10 ?_
  refine lv_iload_n hx hb dX11_fit_13 rfl (lv_at hl 3 rfl) ?_
  refine z_Vq (bc := [[(t0, .inr (8, [.ref a1p, .int 0, .int 0, .int (-1), .ref a2p, .ref a3p, .ref a4p, .ref a5p]))], [(a2p, .inl (T.2 0, 3, .inl (fun _ => 0)))]]) (br := [[(x, .inr (10, [.ref t0, .ref ia, .ref im, .ref rd, .ref po, .ref co, .ref tr, .ref wa, .ref wb, .ref fi, .ref cd]))]]) (As := [.int p2]) (rest := []) C G (c_logAt0 l T t0 a1p a2p a3p a4p a5p 0 0 (-1) p2) (kV_RX11_138 C.2.2.2.2 (Nat.le_of_ble_eq_true rfl) (Nat.le_of_ble_eq_true rfl)) [1, 2] [0] rfl rfl (ci := 8) (qc := (RX9, TX9, 8)) rfl rfl (List.mem_flatten.mpr ⟨_, List.mem_of_getElem? (i := 0) rfl, List.mem_cons_self⟩) rfl rfl hl.1 dX11_fit_14 (Nat.le_of_ble_eq_true rfl) (Nat.le_of_ble_eq_true rfl) (fun r_4 b1 H locs hw G => ?_)
  obtain ⟨rfl, h_3⟩ := hw
  have G : zS T A s.heap s [[(x, .inr (10, [.ref t0, .ref ia, .ref im, .ref rd, .ref po, .ref co, .ref tr, .ref wa, .ref wb, .ref fi, .ref cd]))], [(t0, .inr (8, [.ref a1p, .int 0, .int 0, .int (-1), .ref a2p, .ref a3p, .ref a4p, .ref a5p]))], [(a2p, .inl (T.2 0, 3, .inl (fun _ => 0)))]] _ _ := G
  subst h_3
  refine lv_astoreN (lv' := [(4, .null), (3, .null), (0, .ref x), (1, .int p1), (2, .int p2)]) hx hb dX11_fit_17 hl (by decide) rfl (fun ls hl => ?_)
  refine lv_aload_nN hx hb dX11_fit_19 rfl (lv_at hl 1 rfl) ?_
  refine lv_ifnullN (tgt := 28) hx hb dX11_fit_20 (by decide) ?_
  refine lv_iconst (v := 0) hx hb dX11_fit_28 (by decide) ?_
  exact z_zret C hr hlocks G (Nat.le_of_ble_eq_true rfl) (Nat.le_of_ble_eq_true rfl) dX11_fit_29 rfl ⟨rfl, rfl⟩
set_option maxHeartbeats 4000000 in
set_option maxRecDepth 100000 in
/-- land: on a new object -/
theorem c_x_land (l : Launch) (T : zTy) (x : Nat) (t0 : Nat) (ia : Nat) (im : Nat) (rd : Nat) (po : Nat) (co : Nat) (tr : Nat) (wa : Nat) (wb : Nat) (fi : Nat) (cd : Nat) (a1p : Nat) (a2p : Nat) (a3p : Nat) (a4p : Nat) (a5p : Nat) (p1 : Int32) (p2 : Int32) : zMi l T yX11_land cX11_land 4 (some .int) 5 0 0 [.ref x, .int p1, .int p2] [[(x, .inr (10, [.ref t0, .ref ia, .ref im, .ref rd, .ref po, .ref co, .ref tr, .ref wa, .ref wb, .ref fi, .ref cd]))], [(t0, .inr (8, [.ref a1p, .int 0, .int 0, .int (-1), .ref a2p, .ref a3p, .ref a4p, .ref a5p]))], [(a2p, .inl (T.2 0, 3, .inl (fun _ => 0)))]] (fun (r : Int32) bs => bs = [] ∧ r = (-1)) := by
  refine zMi_of (own := RX11) (by decide) rfl (Nat.le_of_ble_eq_true rfl) ?_
  intro p e s m args below meth c A ls C hr hlocks hnm hAe G hl
  have hx := C.1
  have hb := C.2.1
  have hl : lv_has ls 4 [(0, .ref x), (1, .int p1), (2, .int p2)] := hl
  refine lv_aload_n hx hb dX11_land_0 rfl (lv_at hl 0 rfl) ?_
  refine z_get C G clX11 0 rfl 0 (by decide) m_fl_RX11_10 rfl dX11_land_1 ?_
  refine lv_iload_n hx hb dX11_land_4 rfl (lv_at hl 1 rfl) ?_
  refine z_Vq (bc := [[(t0, .inr (8, [.ref a1p, .int 0, .int 0, .int (-1), .ref a2p, .ref a3p, .ref a4p, .ref a5p]))], [(a2p, .inl (T.2 0, 3, .inl (fun _ => 0)))]]) (br := [[(x, .inr (10, [.ref t0, .ref ia, .ref im, .ref rd, .ref po, .ref co, .ref tr, .ref wa, .ref wb, .ref fi, .ref cd]))]]) (As := [.int p1]) (rest := []) C G (c_landAt0 l T t0 a1p a2p a3p a4p a5p 0 0 (-1) p1) (kV_RX11_121 C.2.2.2.2 (Nat.le_of_ble_eq_true rfl) (Nat.le_of_ble_eq_true rfl)) [1, 2] [0] rfl rfl (ci := 8) (qc := (RX9, TX9, 8)) rfl rfl (List.mem_flatten.mpr ⟨_, List.mem_of_getElem? (i := 0) rfl, List.mem_cons_self⟩) rfl rfl hl.1 dX11_land_5 (Nat.le_of_ble_eq_true rfl) (Nat.le_of_ble_eq_true rfl) (fun r_2 b1 H locs hw G => ?_)
  obtain ⟨rfl, h_1⟩ := hw
  have G : zS T A s.heap s [[(x, .inr (10, [.ref t0, .ref ia, .ref im, .ref rd, .ref po, .ref co, .ref tr, .ref wa, .ref wb, .ref fi, .ref cd]))], [(t0, .inr (8, [.ref a1p, .int 0, .int 0, .int (-1), .ref a2p, .ref a3p, .ref a4p, .ref a5p]))], [(a2p, .inl (T.2 0, 3, .inl (fun _ => 0)))]] _ _ := G
  subst h_1
  refine lv_astore_nN (lv' := [(3, .null), (0, .ref x), (1, .int p1), (2, .int p2)]) hx hb dX11_land_8 rfl hl (by decide) rfl (fun ls hl => ?_)
  refine lv_aload_nN hx hb dX11_land_9 rfl (lv_at hl 0 rfl) ?_
  refine lv_ifnonnullN hx hb dX11_land_10 ?_
  refine lv_iconst (v := (-1)) hx hb dX11_land_13 (by decide) ?_
  refine lv_goto (tgt := 22) hx hb dX11_land_14 (by decide) ?_
  have G := G.sub (bs' := []) [] rfl
  exact z_iret C hr hlocks G (Nat.le_of_ble_eq_true rfl) (Nat.le_of_ble_eq_true rfl) dX11_land_22 ⟨rfl, rfl⟩
set_option maxHeartbeats 4000000 in
set_option maxRecDepth 100000 in
/-- deed: on a new object -/
theorem c_x_deed (l : Launch) (T : zTy) (x : Nat) (t0 : Nat) (ia : Nat) (im : Nat) (rd : Nat) (po : Nat) (co : Nat) (tr : Nat) (wa : Nat) (wb : Nat) (fi : Nat) (cd : Nat) (a1p : Nat) (a2p : Nat) (a3p : Nat) (a4p : Nat) (a5p : Nat) (p1 : Int32) (p2 : Int32) (p3 : Int32) : zMi l T yX11_deed cX11_deed 5 (some .int) 5 0 0 [.ref x, .int p1, .int p2, .int p3] [[(x, .inr (10, [.ref t0, .ref ia, .ref im, .ref rd, .ref po, .ref co, .ref tr, .ref wa, .ref wb, .ref fi, .ref cd]))], [(t0, .inr (8, [.ref a1p, .int 0, .int 0, .int (-1), .ref a2p, .ref a3p, .ref a4p, .ref a5p]))], [(a2p, .inl (T.2 0, 3, .inl (fun _ => 0)))]] (fun (r : Int32) bs => bs = [] ∧ r = (-2)) := by
  refine zMi_of (own := RX11) (by decide) rfl (Nat.le_of_ble_eq_true rfl) ?_
  intro p e s m args below meth c A ls C hr hlocks hnm hAe G hl
  have hx := C.1
  have hb := C.2.1
  have hl : lv_has ls 5 [(0, .ref x), (1, .int p1), (2, .int p2), (3, .int p3)] := hl
  refine lv_aload_n hx hb dX11_deed_0 rfl (lv_at hl 0 rfl) ?_
  refine z_get C G clX11 0 rfl 0 (by decide) m_fl_RX11_10 rfl dX11_deed_1 ?_
  refine lv_iload_n hx hb dX11_deed_4 rfl (lv_at hl 1 rfl) ?_
  refine z_Vq (bc := [[(t0, .inr (8, [.ref a1p, .int 0, .int 0, .int (-1), .ref a2p, .ref a3p, .ref a4p, .ref a5p]))], [(a2p, .inl (T.2 0, 3, .inl (fun _ => 0)))]]) (br := [[(x, .inr (10, [.ref t0, .ref ia, .ref im, .ref rd, .ref po, .ref co, .ref tr, .ref wa, .ref wb, .ref fi, .ref cd]))]]) (As := [.int p1]) (rest := []) C G (c_dayAt0 l T t0 a1p a2p a3p a4p a5p 0 0 (-1) p1) (kV_RX11_130 C.2.2.2.2 (Nat.le_of_ble_eq_true rfl) (Nat.le_of_ble_eq_true rfl)) [1, 2] [0] rfl rfl (ci := 8) (qc := (RX9, TX9, 8)) rfl rfl (List.mem_flatten.mpr ⟨_, List.mem_of_getElem? (i := 0) rfl, List.mem_cons_self⟩) rfl rfl hl.1 dX11_deed_5 (Nat.le_of_ble_eq_true rfl) (Nat.le_of_ble_eq_true rfl) (fun r_2 b1 H locs hw G => ?_)
  obtain ⟨rfl, h_1⟩ := hw
  have G : zS T A s.heap s [[(x, .inr (10, [.ref t0, .ref ia, .ref im, .ref rd, .ref po, .ref co, .ref tr, .ref wa, .ref wb, .ref fi, .ref cd]))], [(t0, .inr (8, [.ref a1p, .int 0, .int 0, .int (-1), .ref a2p, .ref a3p, .ref a4p, .ref a5p]))], [(a2p, .inl (T.2 0, 3, .inl (fun _ => 0)))]] _ _ := G
  subst h_1
  refine lv_astoreN (lv' := [(4, .null), (0, .ref x), (1, .int p1), (2, .int p2), (3, .int p3)]) hx hb dX11_deed_8 hl (by decide) rfl (fun ls hl => ?_)
  refine lv_aloadN hx hb dX11_deed_10 (lv_at hl 0 rfl) ?_
  refine lv_ifnonnullN hx hb dX11_deed_12 ?_
  refine lv_bipush (v := (-2)) hx hb dX11_deed_15 (by decide) ?_
  refine lv_goto (tgt := 27) hx hb dX11_deed_17 (by decide) ?_
  have G := G.sub (bs' := []) [] rfl
  exact z_iret C hr hlocks G (Nat.le_of_ble_eq_true rfl) (Nat.le_of_ble_eq_true rfl) dX11_deed_27 ⟨rfl, rfl⟩
set_option maxHeartbeats 4000000 in
set_option maxRecDepth 100000 in
/-- stop: on a new object -/
theorem c_x_stop (l : Launch) (T : zTy) (x : Nat) (t0 : Nat) (ia : Nat) (im : Nat) (rd : Nat) (po : Nat) (co : Nat) (tr : Nat) (wa : Nat) (wb : Nat) (fi : Nat) (cd : Nat) (a1p : Nat) (a2p : Nat) (a3p : Nat) (a4p : Nat) (a5p : Nat) (p1 : Int32) (p2 : Int32) : zMi l T yX11_stop cX11_stop 5 (some .int) 5 0 0 [.ref x, .int p1, .int p2] [[(x, .inr (10, [.ref t0, .ref ia, .ref im, .ref rd, .ref po, .ref co, .ref tr, .ref wa, .ref wb, .ref fi, .ref cd]))], [(t0, .inr (8, [.ref a1p, .int 0, .int 0, .int (-1), .ref a2p, .ref a3p, .ref a4p, .ref a5p]))], [(a2p, .inl (T.2 0, 3, .inl (fun _ => 0)))]] (fun (r : Int32) bs => bs = [] ∧ r = (-1)) := by
  refine zMi_of (own := RX11) (by decide) rfl (Nat.le_of_ble_eq_true rfl) ?_
  intro p e s m args below meth c A ls C hr hlocks hnm hAe G hl
  have hx := C.1
  have hb := C.2.1
  have hl : lv_has ls 5 [(0, .ref x), (1, .int p1), (2, .int p2)] := hl
  refine lv_aload_n hx hb dX11_stop_0 rfl (lv_at hl 0 rfl) ?_
  refine z_get C G clX11 0 rfl 0 (by decide) m_fl_RX11_10 rfl dX11_stop_1 ?_
  refine lv_iload_n hx hb dX11_stop_4 rfl (lv_at hl 1 rfl) ?_
  refine z_Vq (bc := [[(t0, .inr (8, [.ref a1p, .int 0, .int 0, .int (-1), .ref a2p, .ref a3p, .ref a4p, .ref a5p]))], [(a2p, .inl (T.2 0, 3, .inl (fun _ => 0)))]]) (br := [[(x, .inr (10, [.ref t0, .ref ia, .ref im, .ref rd, .ref po, .ref co, .ref tr, .ref wa, .ref wb, .ref fi, .ref cd]))]]) (As := [.int p1]) (rest := []) C G (c_landAt0 l T t0 a1p a2p a3p a4p a5p 0 0 (-1) p1) (kV_RX11_121 C.2.2.2.2 (Nat.le_of_ble_eq_true rfl) (Nat.le_of_ble_eq_true rfl)) [1, 2] [0] rfl rfl (ci := 8) (qc := (RX9, TX9, 8)) rfl rfl (List.mem_flatten.mpr ⟨_, List.mem_of_getElem? (i := 0) rfl, List.mem_cons_self⟩) rfl rfl hl.1 dX11_stop_5 (Nat.le_of_ble_eq_true rfl) (Nat.le_of_ble_eq_true rfl) (fun r_2 b1 H locs hw G => ?_)
  obtain ⟨rfl, h_1⟩ := hw
  have G : zS T A s.heap s [[(x, .inr (10, [.ref t0, .ref ia, .ref im, .ref rd, .ref po, .ref co, .ref tr, .ref wa, .ref wb, .ref fi, .ref cd]))], [(t0, .inr (8, [.ref a1p, .int 0, .int 0, .int (-1), .ref a2p, .ref a3p, .ref a4p, .ref a5p]))], [(a2p, .inl (T.2 0, 3, .inl (fun _ => 0)))]] _ _ := G
  subst h_1
  refine lv_astore_nN (lv' := [(3, .null), (0, .ref x), (1, .int p1), (2, .int p2)]) hx hb dX11_stop_8 rfl hl (by decide) rfl (fun ls hl => ?_)
  refine lv_aload_n hx hb dX11_stop_9 rfl (lv_at hl 1 rfl) ?_
  refine z_get C G clX11 0 rfl 0 (by decide) m_fl_RX11_10 rfl dX11_stop_10 ?_
  refine lv_iload_n hx hb dX11_stop_13 rfl (lv_at hl 3 rfl) ?_
  refine z_Vq (bc := [[(t0, .inr (8, [.ref a1p, .int 0, .int 0, .int (-1), .ref a2p, .ref a3p, .ref a4p, .ref a5p]))], [(a2p, .inl (T.2 0, 3, .inl (fun _ => 0)))]]) (br := [[(x, .inr (10, [.ref t0, .ref ia, .ref im, .ref rd, .ref po, .ref co, .ref tr, .ref wa, .ref wb, .ref fi, .ref cd]))]]) (As := [.int p2]) (rest := []) C G (c_dayAt0 l T t0 a1p a2p a3p a4p a5p 0 0 (-1) p2) (kV_RX11_130 C.2.2.2.2 (Nat.le_of_ble_eq_true rfl) (Nat.le_of_ble_eq_true rfl)) [1, 2] [0] rfl rfl (ci := 8) (qc := (RX9, TX9, 8)) rfl rfl (List.mem_flatten.mpr ⟨_, List.mem_of_getElem? (i := 0) rfl, List.mem_cons_self⟩) rfl rfl hl.1 dX11_stop_14 (Nat.le_of_ble_eq_true rfl) (Nat.le_of_ble_eq_true rfl) (fun r_4 b1 H locs hw G => ?_)
  obtain ⟨rfl, h_3⟩ := hw
  have G : zS T A s.heap s [[(x, .inr (10, [.ref t0, .ref ia, .ref im, .ref rd, .ref po, .ref co, .ref tr, .ref wa, .ref wb, .ref fi, .ref cd]))], [(t0, .inr (8, [.ref a1p, .int 0, .int 0, .int (-1), .ref a2p, .ref a3p, .ref a4p, .ref a5p]))], [(a2p, .inl (T.2 0, 3, .inl (fun _ => 0)))]] _ _ := G
  subst h_3
  refine lv_astoreN (lv' := [(4, .null), (3, .null), (0, .ref x), (1, .int p1), (2, .int p2)]) hx hb dX11_stop_17 hl (by decide) rfl (fun ls hl => ?_)
  refine lv_aload_nN hx hb dX11_stop_19 rfl (lv_at hl 1 rfl) ?_
  refine lv_ifnullN (tgt := 28) hx hb dX11_stop_20 (by decide) ?_
  refine lv_iconst (v := (-1)) hx hb dX11_stop_28 (by decide) ?_
  refine lv_goto (tgt := 44) hx hb dX11_stop_29 (by decide) ?_
  have G := G.sub (bs' := []) [] rfl
  exact z_iret C hr hlocks G (Nat.le_of_ble_eq_true rfl) (Nat.le_of_ble_eq_true rfl) dX11_stop_44 ⟨rfl, rfl⟩
set_option maxHeartbeats 4000000 in
set_option maxRecDepth 100000 in
/-- state: on a new object -/
theorem c_x_state (l : Launch) (T : zTy) (x : Nat) (t0 : Nat) (ia : Nat) (im : Nat) (rd : Nat) (po : Nat) (co : Nat) (tr : Nat) (wa : Nat) (wb : Nat) (fi : Nat) (cd : Nat) (a1p : Nat) (a2p : Nat) (a3p : Nat) (a4p : Nat) (a5p : Nat) (p1 : Int32) (p2 : Int32) (p3 : Int32) (p4 : Int32) : zMi l T yX11_state cX11_state 7 (some .int) 5 0 0 [.ref x, .int p1, .int p2, .int p3, .int p4] [[(x, .inr (10, [.ref t0, .ref ia, .ref im, .ref rd, .ref po, .ref co, .ref tr, .ref wa, .ref wb, .ref fi, .ref cd]))], [(t0, .inr (8, [.ref a1p, .int 0, .int 0, .int (-1), .ref a2p, .ref a3p, .ref a4p, .ref a5p]))], [(a2p, .inl (T.2 0, 3, .inl (fun _ => 0)))]] (fun (r : Int32) bs => bs = [] ∧ r = (-2)) := by
  refine zMi_of (own := RX11) (by decide) rfl (Nat.le_of_ble_eq_true rfl) ?_
  intro p e s m args below meth c A ls C hr hlocks hnm hAe G hl
  have hx := C.1
  have hb := C.2.1
  have hl : lv_has ls 7 [(0, .ref x), (1, .int p1), (2, .int p2), (3, .int p3), (4, .int p4)] := hl
  refine lv_aload_n hx hb dX11_state_0 rfl (lv_at hl 0 rfl) ?_
  refine z_get C G clX11 0 rfl 0 (by decide) m_fl_RX11_10 rfl dX11_state_1 ?_
  refine lv_iload_n hx hb dX11_state_4 rfl (lv_at hl 1 rfl) ?_
  refine z_Vq (bc := [[(t0, .inr (8, [.ref a1p, .int 0, .int 0, .int (-1), .ref a2p, .ref a3p, .ref a4p, .ref a5p]))], [(a2p, .inl (T.2 0, 3, .inl (fun _ => 0)))]]) (br := [[(x, .inr (10, [.ref t0, .ref ia, .ref im, .ref rd, .ref po, .ref co, .ref tr, .ref wa, .ref wb, .ref fi, .ref cd]))]]) (As := [.int p1]) (rest := []) C G (c_landAt0 l T t0 a1p a2p a3p a4p a5p 0 0 (-1) p1) (kV_RX11_121 C.2.2.2.2 (Nat.le_of_ble_eq_true rfl) (Nat.le_of_ble_eq_true rfl)) [1, 2] [0] rfl rfl (ci := 8) (qc := (RX9, TX9, 8)) rfl rfl (List.mem_flatten.mpr ⟨_, List.mem_of_getElem? (i := 0) rfl, List.mem_cons_self⟩) rfl rfl hl.1 dX11_state_5 (Nat.le_of_ble_eq_true rfl) (Nat.le_of_ble_eq_true rfl) (fun r_2 b1 H locs hw G => ?_)
  obtain ⟨rfl, h_1⟩ := hw
  have G : zS T A s.heap s [[(x, .inr (10, [.ref t0, .ref ia, .ref im, .ref rd, .ref po, .ref co, .ref tr, .ref wa, .ref wb, .ref fi, .ref cd]))], [(t0, .inr (8, [.ref a1p, .int 0, .int 0, .int (-1), .ref a2p, .ref a3p, .ref a4p, .ref a5p]))], [(a2p, .inl (T.2 0, 3, .inl (fun _ => 0)))]] _ _ := G
  subst h_1
  refine lv_astoreN (lv' := [(5, .null), (0, .ref x), (1, .int p1), (2, .int p2), (3, .int p3), (4, .int p4)]) hx hb dX11_state_8 hl (by decide) rfl (fun ls hl => ?_)
  refine lv_aload_n hx hb dX11_state_10 rfl (lv_at hl 1 rfl) ?_
  refine z_get C G clX11 0 rfl 0 (by decide) m_fl_RX11_10 rfl dX11_state_11 ?_
  refine lv_iload_n hx hb dX11_state_14 rfl (lv_at hl 3 rfl) ?_
  refine z_Vq (bc := [[(t0, .inr (8, [.ref a1p, .int 0, .int 0, .int (-1), .ref a2p, .ref a3p, .ref a4p, .ref a5p]))], [(a2p, .inl (T.2 0, 3, .inl (fun _ => 0)))]]) (br := [[(x, .inr (10, [.ref t0, .ref ia, .ref im, .ref rd, .ref po, .ref co, .ref tr, .ref wa, .ref wb, .ref fi, .ref cd]))]]) (As := [.int p2]) (rest := []) C G (c_dayAt0 l T t0 a1p a2p a3p a4p a5p 0 0 (-1) p2) (kV_RX11_130 C.2.2.2.2 (Nat.le_of_ble_eq_true rfl) (Nat.le_of_ble_eq_true rfl)) [1, 2] [0] rfl rfl (ci := 8) (qc := (RX9, TX9, 8)) rfl rfl (List.mem_flatten.mpr ⟨_, List.mem_of_getElem? (i := 0) rfl, List.mem_cons_self⟩) rfl rfl hl.1 dX11_state_15 (Nat.le_of_ble_eq_true rfl) (Nat.le_of_ble_eq_true rfl) (fun r_4 b1 H locs hw G => ?_)
  obtain ⟨rfl, h_3⟩ := hw
  have G : zS T A s.heap s [[(x, .inr (10, [.ref t0, .ref ia, .ref im, .ref rd, .ref po, .ref co, .ref tr, .ref wa, .ref wb, .ref fi, .ref cd]))], [(t0, .inr (8, [.ref a1p, .int 0, .int 0, .int (-1), .ref a2p, .ref a3p, .ref a4p, .ref a5p]))], [(a2p, .inl (T.2 0, 3, .inl (fun _ => 0)))]] _ _ := G
  subst h_3
  refine lv_astoreN (lv' := [(6, .null), (5, .null), (0, .ref x), (1, .int p1), (2, .int p2), (3, .int p3), (4, .int p4)]) hx hb dX11_state_18 hl (by decide) rfl (fun ls hl => ?_)
  refine lv_aloadN hx hb dX11_state_20 (lv_at hl 1 rfl) ?_
  refine lv_ifnullN (tgt := 43) hx hb dX11_state_22 (by decide) ?_
  refine lv_bipush (v := (-2)) hx hb dX11_state_43 (by decide) ?_
  have G := G.sub (bs' := []) [] rfl
  exact z_iret C hr hlocks G (Nat.le_of_ble_eq_true rfl) (Nat.le_of_ble_eq_true rfl) dX11_state_45 ⟨rfl, rfl⟩
set_option maxHeartbeats 4000000 in
set_option maxRecDepth 100000 in
/-- walk: on a new object -/
theorem c_x_walk (l : Launch) (T : zTy) (x : Nat) (t0 : Nat) (ia : Nat) (im : Nat) (rd : Nat) (po : Nat) (co : Nat) (tr : Nat) (wa : Nat) (wb : Nat) (fi : Nat) (cd : Nat) (a1p : Nat) (a2p : Nat) (a3p : Nat) (a4p : Nat) (a5p : Nat) (p1 : Int32) (p2 : Int32) (p3 : Int32) : zMi l T yX11_walk cX11_walk 5 (some .int) 5 0 0 [.ref x, .int p1, .int p2, .int p3] [[(x, .inr (10, [.ref t0, .ref ia, .ref im, .ref rd, .ref po, .ref co, .ref tr, .ref wa, .ref wb, .ref fi, .ref cd]))], [(t0, .inr (8, [.ref a1p, .int 0, .int 0, .int (-1), .ref a2p, .ref a3p, .ref a4p, .ref a5p]))], [(a2p, .inl (T.2 0, 3, .inl (fun _ => 0)))]] (fun (r : Int32) bs => bs = [] ∧ r = (-2)) := by
  refine zMi_of (own := RX11) (by decide) rfl (Nat.le_of_ble_eq_true rfl) ?_
  intro p e s m args below meth c A ls C hr hlocks hnm hAe G hl
  have hx := C.1
  have hb := C.2.1
  have hl : lv_has ls 5 [(0, .ref x), (1, .int p1), (2, .int p2), (3, .int p3)] := hl
  refine lv_aload_n hx hb dX11_walk_0 rfl (lv_at hl 0 rfl) ?_
  refine z_get C G clX11 0 rfl 0 (by decide) m_fl_RX11_10 rfl dX11_walk_1 ?_
  refine lv_iload_n hx hb dX11_walk_4 rfl (lv_at hl 1 rfl) ?_
  refine z_Vq (bc := [[(t0, .inr (8, [.ref a1p, .int 0, .int 0, .int (-1), .ref a2p, .ref a3p, .ref a4p, .ref a5p]))], [(a2p, .inl (T.2 0, 3, .inl (fun _ => 0)))]]) (br := [[(x, .inr (10, [.ref t0, .ref ia, .ref im, .ref rd, .ref po, .ref co, .ref tr, .ref wa, .ref wb, .ref fi, .ref cd]))]]) (As := [.int p1]) (rest := []) C G (c_landAt0 l T t0 a1p a2p a3p a4p a5p 0 0 (-1) p1) (kV_RX11_121 C.2.2.2.2 (Nat.le_of_ble_eq_true rfl) (Nat.le_of_ble_eq_true rfl)) [1, 2] [0] rfl rfl (ci := 8) (qc := (RX9, TX9, 8)) rfl rfl (List.mem_flatten.mpr ⟨_, List.mem_of_getElem? (i := 0) rfl, List.mem_cons_self⟩) rfl rfl hl.1 dX11_walk_5 (Nat.le_of_ble_eq_true rfl) (Nat.le_of_ble_eq_true rfl) (fun r_2 b1 H locs hw G => ?_)
  obtain ⟨rfl, h_1⟩ := hw
  have G : zS T A s.heap s [[(x, .inr (10, [.ref t0, .ref ia, .ref im, .ref rd, .ref po, .ref co, .ref tr, .ref wa, .ref wb, .ref fi, .ref cd]))], [(t0, .inr (8, [.ref a1p, .int 0, .int 0, .int (-1), .ref a2p, .ref a3p, .ref a4p, .ref a5p]))], [(a2p, .inl (T.2 0, 3, .inl (fun _ => 0)))]] _ _ := G
  subst h_1
  refine lv_astoreN (lv' := [(4, .null), (0, .ref x), (1, .int p1), (2, .int p2), (3, .int p3)]) hx hb dX11_walk_8 hl (by decide) rfl (fun ls hl => ?_)
  refine lv_aloadN hx hb dX11_walk_10 (lv_at hl 0 rfl) ?_
  refine lv_ifnullN (tgt := 24) hx hb dX11_walk_12 (by decide) ?_
  refine lv_bipush (v := (-2)) hx hb dX11_walk_24 (by decide) ?_
  have G := G.sub (bs' := []) [] rfl
  exact z_iret C hr hlocks G (Nat.le_of_ble_eq_true rfl) (Nat.le_of_ble_eq_true rfl) dX11_walk_26 ⟨rfl, rfl⟩
set_option maxHeartbeats 4000000 in
set_option maxRecDepth 100000 in
/-- endOf: on a new object -/
theorem c_x_endOf (l : Launch) (T : zTy) (x : Nat) (t0 : Nat) (ia : Nat) (im : Nat) (rd : Nat) (po : Nat) (co : Nat) (tr : Nat) (wa : Nat) (wb : Nat) (fi : Nat) (cd : Nat) (a1p : Nat) (a2p : Nat) (a3p : Nat) (a4p : Nat) (a5p : Nat) (p1 : Int32) (p2 : Int32) : zMi l T yX11_endOf cX11_endOf 4 (some .int) 5 0 0 [.ref x, .int p1, .int p2] [[(x, .inr (10, [.ref t0, .ref ia, .ref im, .ref rd, .ref po, .ref co, .ref tr, .ref wa, .ref wb, .ref fi, .ref cd]))], [(t0, .inr (8, [.ref a1p, .int 0, .int 0, .int (-1), .ref a2p, .ref a3p, .ref a4p, .ref a5p]))], [(a2p, .inl (T.2 0, 3, .inl (fun _ => 0)))]] (fun (r : Int32) bs => bs = [] ∧ r = (-2)) := by
  refine zMi_of (own := RX11) (by decide) rfl (Nat.le_of_ble_eq_true rfl) ?_
  intro p e s m args below meth c A ls C hr hlocks hnm hAe G hl
  have hx := C.1
  have hb := C.2.1
  have hl : lv_has ls 4 [(0, .ref x), (1, .int p1), (2, .int p2)] := hl
  refine lv_aload_n hx hb dX11_endOf_0 rfl (lv_at hl 0 rfl) ?_
  refine z_get C G clX11 0 rfl 0 (by decide) m_fl_RX11_10 rfl dX11_endOf_1 ?_
  refine lv_iload_n hx hb dX11_endOf_4 rfl (lv_at hl 1 rfl) ?_
  refine z_Vq (bc := [[(t0, .inr (8, [.ref a1p, .int 0, .int 0, .int (-1), .ref a2p, .ref a3p, .ref a4p, .ref a5p]))], [(a2p, .inl (T.2 0, 3, .inl (fun _ => 0)))]]) (br := [[(x, .inr (10, [.ref t0, .ref ia, .ref im, .ref rd, .ref po, .ref co, .ref tr, .ref wa, .ref wb, .ref fi, .ref cd]))]]) (As := [.int p1]) (rest := []) C G (c_landAt0 l T t0 a1p a2p a3p a4p a5p 0 0 (-1) p1) (kV_RX11_121 C.2.2.2.2 (Nat.le_of_ble_eq_true rfl) (Nat.le_of_ble_eq_true rfl)) [1, 2] [0] rfl rfl (ci := 8) (qc := (RX9, TX9, 8)) rfl rfl (List.mem_flatten.mpr ⟨_, List.mem_of_getElem? (i := 0) rfl, List.mem_cons_self⟩) rfl rfl hl.1 dX11_endOf_5 (Nat.le_of_ble_eq_true rfl) (Nat.le_of_ble_eq_true rfl) (fun r_2 b1 H locs hw G => ?_)
  obtain ⟨rfl, h_1⟩ := hw
  have G : zS T A s.heap s [[(x, .inr (10, [.ref t0, .ref ia, .ref im, .ref rd, .ref po, .ref co, .ref tr, .ref wa, .ref wb, .ref fi, .ref cd]))], [(t0, .inr (8, [.ref a1p, .int 0, .int 0, .int (-1), .ref a2p, .ref a3p, .ref a4p, .ref a5p]))], [(a2p, .inl (T.2 0, 3, .inl (fun _ => 0)))]] _ _ := G
  subst h_1
  refine lv_astore_nN (lv' := [(3, .null), (0, .ref x), (1, .int p1), (2, .int p2)]) hx hb dX11_endOf_8 rfl hl (by decide) rfl (fun ls hl => ?_)
  refine lv_aload_nN hx hb dX11_endOf_9 rfl (lv_at hl 0 rfl) ?_
  refine lv_ifnonnullN hx hb dX11_endOf_10 ?_
  refine lv_bipush (v := (-2)) hx hb dX11_endOf_13 (by decide) ?_
  have G := G.sub (bs' := []) [] rfl
  exact z_iret C hr hlocks G (Nat.le_of_ble_eq_true rfl) (Nat.le_of_ble_eq_true rfl) dX11_endOf_15 ⟨rfl, rfl⟩
set_option maxHeartbeats 4000000 in
set_option maxRecDepth 100000 in
/-- come: on a new object -/
theorem c_x_come (l : Launch) (T : zTy) (x : Nat) (t0 : Nat) (ia : Nat) (im : Nat) (rd : Nat) (po : Nat) (co : Nat) (tr : Nat) (wa : Nat) (wb : Nat) (fi : Nat) (cd : Nat) (a1p : Nat) (a2p : Nat) (a3p : Nat) (a4p : Nat) (a5p : Nat) (p1 : Int32) (p2 : Int32) (p3 : Int32) : zMi l T yX11_come cX11_come 6 (some .int) 5 0 0 [.ref x, .int p1, .int p2, .int p3] [[(x, .inr (10, [.ref t0, .ref ia, .ref im, .ref rd, .ref po, .ref co, .ref tr, .ref wa, .ref wb, .ref fi, .ref cd]))], [(t0, .inr (8, [.ref a1p, .int 0, .int 0, .int (-1), .ref a2p, .ref a3p, .ref a4p, .ref a5p]))], [(a2p, .inl (T.2 0, 3, .inl (fun _ => 0)))]] (fun (r : Int32) bs => bs = [] ∧ r = (-1)) := by
  refine zMi_of (own := RX11) (by decide) rfl (Nat.le_of_ble_eq_true rfl) ?_
  intro p e s m args below meth c A ls C hr hlocks hnm hAe G hl
  have hx := C.1
  have hb := C.2.1
  have hl : lv_has ls 6 [(0, .ref x), (1, .int p1), (2, .int p2), (3, .int p3)] := hl
  refine lv_aload_n hx hb dX11_come_0 rfl (lv_at hl 0 rfl) ?_
  refine z_get C G clX11 0 rfl 0 (by decide) m_fl_RX11_10 rfl dX11_come_1 ?_
  refine lv_iload_n hx hb dX11_come_4 rfl (lv_at hl 1 rfl) ?_
  refine z_Vq (bc := [[(t0, .inr (8, [.ref a1p, .int 0, .int 0, .int (-1), .ref a2p, .ref a3p, .ref a4p, .ref a5p]))], [(a2p, .inl (T.2 0, 3, .inl (fun _ => 0)))]]) (br := [[(x, .inr (10, [.ref t0, .ref ia, .ref im, .ref rd, .ref po, .ref co, .ref tr, .ref wa, .ref wb, .ref fi, .ref cd]))]]) (As := [.int p1]) (rest := []) C G (c_landAt0 l T t0 a1p a2p a3p a4p a5p 0 0 (-1) p1) (kV_RX11_121 C.2.2.2.2 (Nat.le_of_ble_eq_true rfl) (Nat.le_of_ble_eq_true rfl)) [1, 2] [0] rfl rfl (ci := 8) (qc := (RX9, TX9, 8)) rfl rfl (List.mem_flatten.mpr ⟨_, List.mem_of_getElem? (i := 0) rfl, List.mem_cons_self⟩) rfl rfl hl.1 dX11_come_5 (Nat.le_of_ble_eq_true rfl) (Nat.le_of_ble_eq_true rfl) (fun r_2 b1 H locs hw G => ?_)
  obtain ⟨rfl, h_1⟩ := hw
  have G : zS T A s.heap s [[(x, .inr (10, [.ref t0, .ref ia, .ref im, .ref rd, .ref po, .ref co, .ref tr, .ref wa, .ref wb, .ref fi, .ref cd]))], [(t0, .inr (8, [.ref a1p, .int 0, .int 0, .int (-1), .ref a2p, .ref a3p, .ref a4p, .ref a5p]))], [(a2p, .inl (T.2 0, 3, .inl (fun _ => 0)))]] _ _ := G
  subst h_1
  refine lv_astoreN (lv' := [(4, .null), (0, .ref x), (1, .int p1), (2, .int p2), (3, .int p3)]) hx hb dX11_come_8 hl (by decide) rfl (fun ls hl => ?_)
  refine lv_aloadN hx hb dX11_come_10 (lv_at hl 0 rfl) ?_
  refine lv_ifnullN (tgt := 35) hx hb dX11_come_12 (by decide) ?_
  refine lv_iconst (v := (-1)) hx hb dX11_come_35 (by decide) ?_
  have G := G.sub (bs' := []) [] rfl
  exact z_iret C hr hlocks G (Nat.le_of_ble_eq_true rfl) (Nat.le_of_ble_eq_true rfl) dX11_come_36 ⟨rfl, rfl⟩
set_option maxHeartbeats 4000000 in
set_option maxRecDepth 100000 in
/-- period: on a new object -/
theorem c_x_period (l : Launch) (T : zTy) (x : Nat) (t0 : Nat) (ia : Nat) (im : Nat) (rd : Nat) (po : Nat) (co : Nat) (tr : Nat) (wa : Nat) (wb : Nat) (fi : Nat) (cd : Nat) (a1p : Nat) (a2p : Nat) (a3p : Nat) (a4p : Nat) (a5p : Nat) (p1 : Int32) (p2 : Int32) (p3 : Int32) : zMi l T yX11_period cX11_period 8 (some .int) 5 0 0 [.ref x, .int p1, .int p2, .int p3] [[(x, .inr (10, [.ref t0, .ref ia, .ref im, .ref rd, .ref po, .ref co, .ref tr, .ref wa, .ref wb, .ref fi, .ref cd]))], [(t0, .inr (8, [.ref a1p, .int 0, .int 0, .int (-1), .ref a2p, .ref a3p, .ref a4p, .ref a5p]))], [(a2p, .inl (T.2 0, 3, .inl (fun _ => 0)))]] (fun (r : Int32) bs => bs = [] ∧ r = (-1)) := by
  refine zMi_of (own := RX11) (by decide) rfl (Nat.le_of_ble_eq_true rfl) ?_
  intro p e s m args below meth c A ls C hr hlocks hnm hAe G hl
  have hx := C.1
  have hb := C.2.1
  have hl : lv_has ls 8 [(0, .ref x), (1, .int p1), (2, .int p2), (3, .int p3)] := hl
  refine lv_aload_n hx hb dX11_period_0 rfl (lv_at hl 0 rfl) ?_
  refine z_get C G clX11 0 rfl 0 (by decide) m_fl_RX11_10 rfl dX11_period_1 ?_
  refine lv_iload_n hx hb dX11_period_4 rfl (lv_at hl 1 rfl) ?_
  refine z_Vq (bc := [[(t0, .inr (8, [.ref a1p, .int 0, .int 0, .int (-1), .ref a2p, .ref a3p, .ref a4p, .ref a5p]))], [(a2p, .inl (T.2 0, 3, .inl (fun _ => 0)))]]) (br := [[(x, .inr (10, [.ref t0, .ref ia, .ref im, .ref rd, .ref po, .ref co, .ref tr, .ref wa, .ref wb, .ref fi, .ref cd]))]]) (As := [.int p1]) (rest := []) C G (c_landAt0 l T t0 a1p a2p a3p a4p a5p 0 0 (-1) p1) (kV_RX11_121 C.2.2.2.2 (Nat.le_of_ble_eq_true rfl) (Nat.le_of_ble_eq_true rfl)) [1, 2] [0] rfl rfl (ci := 8) (qc := (RX9, TX9, 8)) rfl rfl (List.mem_flatten.mpr ⟨_, List.mem_of_getElem? (i := 0) rfl, List.mem_cons_self⟩) rfl rfl hl.1 dX11_period_5 (Nat.le_of_ble_eq_true rfl) (Nat.le_of_ble_eq_true rfl) (fun r_2 b1 H locs hw G => ?_)
  obtain ⟨rfl, h_1⟩ := hw
  have G : zS T A s.heap s [[(x, .inr (10, [.ref t0, .ref ia, .ref im, .ref rd, .ref po, .ref co, .ref tr, .ref wa, .ref wb, .ref fi, .ref cd]))], [(t0, .inr (8, [.ref a1p, .int 0, .int 0, .int (-1), .ref a2p, .ref a3p, .ref a4p, .ref a5p]))], [(a2p, .inl (T.2 0, 3, .inl (fun _ => 0)))]] _ _ := G
  subst h_1
  refine lv_astoreN (lv' := [(4, .null), (0, .ref x), (1, .int p1), (2, .int p2), (3, .int p3)]) hx hb dX11_period_8 hl (by decide) rfl (fun ls hl => ?_)
  refine lv_aloadN hx hb dX11_period_10 (lv_at hl 0 rfl) ?_
  refine lv_ifnullN (tgt := 24) hx hb dX11_period_12 (by decide) ?_
  refine lv_iconst (v := (-1)) hx hb dX11_period_24 (by decide) ?_
  have G := G.sub (bs' := []) [] rfl
  exact z_iret C hr hlocks G (Nat.le_of_ble_eq_true rfl) (Nat.le_of_ble_eq_true rfl) dX11_period_25 ⟨rfl, rfl⟩
set_option maxHeartbeats 4000000 in
set_option maxRecDepth 100000 in
/-- set: on a new object -/
theorem c_x_set (l : Launch) (T : zTy) (x : Nat) (t0 : Nat) (ia : Nat) (im : Nat) (rd : Nat) (po : Nat) (co : Nat) (tr : Nat) (wa : Nat) (wb : Nat) (fi : Nat) (cd : Nat) (a1p : Nat) (a2p : Nat) (a3p : Nat) (a4p : Nat) (a5p : Nat) (p1 : Int32) (p2 : Int32) (p3 : Int32) (p4 : Int32) : zMi l T yX11_set cX11_set 10 (some .int) 5 0 0 [.ref x, .int p1, .int p2, .int p3, .int p4] [[(x, .inr (10, [.ref t0, .ref ia, .ref im, .ref rd, .ref po, .ref co, .ref tr, .ref wa, .ref wb, .ref fi, .ref cd]))], [(t0, .inr (8, [.ref a1p, .int 0, .int 0, .int (-1), .ref a2p, .ref a3p, .ref a4p, .ref a5p]))], [(a2p, .inl (T.2 0, 3, .inl (fun _ => 0)))]] (fun (r : Int32) bs => bs = [] ∧ r = (-1)) := by
  refine zMi_of (own := RX11) (by decide) rfl (Nat.le_of_ble_eq_true rfl) ?_
  intro p e s m args below meth c A ls C hr hlocks hnm hAe G hl
  have hx := C.1
  have hb := C.2.1
  have hl : lv_has ls 10 [(0, .ref x), (1, .int p1), (2, .int p2), (3, .int p3), (4, .int p4)] := hl
  refine lv_aload_n hx hb dX11_set_0 rfl (lv_at hl 0 rfl) ?_
  refine z_get C G clX11 0 rfl 0 (by decide) m_fl_RX11_10 rfl dX11_set_1 ?_
  refine lv_iload_n hx hb dX11_set_4 rfl (lv_at hl 1 rfl) ?_
  refine z_Vq (bc := [[(t0, .inr (8, [.ref a1p, .int 0, .int 0, .int (-1), .ref a2p, .ref a3p, .ref a4p, .ref a5p]))], [(a2p, .inl (T.2 0, 3, .inl (fun _ => 0)))]]) (br := [[(x, .inr (10, [.ref t0, .ref ia, .ref im, .ref rd, .ref po, .ref co, .ref tr, .ref wa, .ref wb, .ref fi, .ref cd]))]]) (As := [.int p1]) (rest := []) C G (c_landAt0 l T t0 a1p a2p a3p a4p a5p 0 0 (-1) p1) (kV_RX11_121 C.2.2.2.2 (Nat.le_of_ble_eq_true rfl) (Nat.le_of_ble_eq_true rfl)) [1, 2] [0] rfl rfl (ci := 8) (qc := (RX9, TX9, 8)) rfl rfl (List.mem_flatten.mpr ⟨_, List.mem_of_getElem? (i := 0) rfl, List.mem_cons_self⟩) rfl rfl hl.1 dX11_set_5 (Nat.le_of_ble_eq_true rfl) (Nat.le_of_ble_eq_true rfl) (fun r_2 b1 H locs hw G => ?_)
  obtain ⟨rfl, h_1⟩ := hw
  have G : zS T A s.heap s [[(x, .inr (10, [.ref t0, .ref ia, .ref im, .ref rd, .ref po, .ref co, .ref tr, .ref wa, .ref wb, .ref fi, .ref cd]))], [(t0, .inr (8, [.ref a1p, .int 0, .int 0, .int (-1), .ref a2p, .ref a3p, .ref a4p, .ref a5p]))], [(a2p, .inl (T.2 0, 3, .inl (fun _ => 0)))]] _ _ := G
  subst h_1
  refine lv_astoreN (lv' := [(5, .null), (0, .ref x), (1, .int p1), (2, .int p2), (3, .int p3), (4, .int p4)]) hx hb dX11_set_8 hl (by decide) rfl (fun ls hl => ?_)
  refine lv_aloadN hx hb dX11_set_10 (lv_at hl 0 rfl) ?_
  refine lv_ifnullN (tgt := 33) hx hb dX11_set_12 (by decide) ?_
  refine lv_iconst (v := (-1)) hx hb dX11_set_33 (by decide) ?_
  have G := G.sub (bs' := []) [] rfl
  exact z_iret C hr hlocks G (Nat.le_of_ble_eq_true rfl) (Nat.le_of_ble_eq_true rfl) dX11_set_34 ⟨rfl, rfl⟩
set_option maxHeartbeats 4000000 in
set_option maxRecDepth 100000 in
/-- lot: on a new object -/
theorem c_x_lot (l : Launch) (T : zTy) (x : Nat) (t0 : Nat) (ia : Nat) (im : Nat) (rd : Nat) (po : Nat) (co : Nat) (tr : Nat) (wa : Nat) (wb : Nat) (fi : Nat) (cd : Nat) (a1p : Nat) (a2p : Nat) (a3p : Nat) (a4p : Nat) (a5p : Nat) (p1 : Int32) (p2 : Int32) (p3 : Int32) (p4 : Int32) : zMi l T yX11_lot cX11_lot 9 (some .int) 5 0 0 [.ref x, .int p1, .int p2, .int p3, .int p4] [[(x, .inr (10, [.ref t0, .ref ia, .ref im, .ref rd, .ref po, .ref co, .ref tr, .ref wa, .ref wb, .ref fi, .ref cd]))], [(t0, .inr (8, [.ref a1p, .int 0, .int 0, .int (-1), .ref a2p, .ref a3p, .ref a4p, .ref a5p]))], [(a2p, .inl (T.2 0, 3, .inl (fun _ => 0)))]] (fun (r : Int32) bs => bs = [] ∧ r = (-1)) := by
  refine zMi_of (own := RX11) (by decide) rfl (Nat.le_of_ble_eq_true rfl) ?_
  intro p e s m args below meth c A ls C hr hlocks hnm hAe G hl
  have hx := C.1
  have hb := C.2.1
  have hl : lv_has ls 9 [(0, .ref x), (1, .int p1), (2, .int p2), (3, .int p3), (4, .int p4)] := hl
  refine lv_aload_n hx hb dX11_lot_0 rfl (lv_at hl 0 rfl) ?_
  refine z_get C G clX11 0 rfl 0 (by decide) m_fl_RX11_10 rfl dX11_lot_1 ?_
  refine lv_iload_n hx hb dX11_lot_4 rfl (lv_at hl 1 rfl) ?_
  refine z_Vq (bc := [[(t0, .inr (8, [.ref a1p, .int 0, .int 0, .int (-1), .ref a2p, .ref a3p, .ref a4p, .ref a5p]))], [(a2p, .inl (T.2 0, 3, .inl (fun _ => 0)))]]) (br := [[(x, .inr (10, [.ref t0, .ref ia, .ref im, .ref rd, .ref po, .ref co, .ref tr, .ref wa, .ref wb, .ref fi, .ref cd]))]]) (As := [.int p1]) (rest := []) C G (c_landAt0 l T t0 a1p a2p a3p a4p a5p 0 0 (-1) p1) (kV_RX11_121 C.2.2.2.2 (Nat.le_of_ble_eq_true rfl) (Nat.le_of_ble_eq_true rfl)) [1, 2] [0] rfl rfl (ci := 8) (qc := (RX9, TX9, 8)) rfl rfl (List.mem_flatten.mpr ⟨_, List.mem_of_getElem? (i := 0) rfl, List.mem_cons_self⟩) rfl rfl hl.1 dX11_lot_5 (Nat.le_of_ble_eq_true rfl) (Nat.le_of_ble_eq_true rfl) (fun r_2 b1 H locs hw G => ?_)
  obtain ⟨rfl, h_1⟩ := hw
  have G : zS T A s.heap s [[(x, .inr (10, [.ref t0, .ref ia, .ref im, .ref rd, .ref po, .ref co, .ref tr, .ref wa, .ref wb, .ref fi, .ref cd]))], [(t0, .inr (8, [.ref a1p, .int 0, .int 0, .int (-1), .ref a2p, .ref a3p, .ref a4p, .ref a5p]))], [(a2p, .inl (T.2 0, 3, .inl (fun _ => 0)))]] _ _ := G
  subst h_1
  refine lv_astoreN (lv' := [(5, .null), (0, .ref x), (1, .int p1), (2, .int p2), (3, .int p3), (4, .int p4)]) hx hb dX11_lot_8 hl (by decide) rfl (fun ls hl => ?_)
  refine lv_aloadN hx hb dX11_lot_10 (lv_at hl 0 rfl) ?_
  refine lv_ifnullN (tgt := 33) hx hb dX11_lot_12 (by decide) ?_
  refine lv_iconst (v := (-1)) hx hb dX11_lot_33 (by decide) ?_
  have G := G.sub (bs' := []) [] rfl
  exact z_iret C hr hlocks G (Nat.le_of_ble_eq_true rfl) (Nat.le_of_ble_eq_true rfl) dX11_lot_34 ⟨rfl, rfl⟩
set_option maxHeartbeats 4000000 in
set_option maxRecDepth 100000 in
/-- mean: on a new object -/
theorem c_x_mean (l : Launch) (T : zTy) (x : Nat) (t0 : Nat) (ia : Nat) (im : Nat) (rd : Nat) (po : Nat) (co : Nat) (tr : Nat) (wa : Nat) (wb : Nat) (fi : Nat) (cd : Nat) (a1p : Nat) (a2p : Nat) (a3p : Nat) (a4p : Nat) (a5p : Nat) (p1 : Int32) (p2 : Int32) (p3 : Int32) : zMi l T yX11_mean cX11_mean 8 (some .int) 5 0 0 [.ref x, .int p1, .int p2, .int p3] [[(x, .inr (10, [.ref t0, .ref ia, .ref im, .ref rd, .ref po, .ref co, .ref tr, .ref wa, .ref wb, .ref fi, .ref cd]))], [(t0, .inr (8, [.ref a1p, .int 0, .int 0, .int (-1), .ref a2p, .ref a3p, .ref a4p, .ref a5p]))], [(a2p, .inl (T.2 0, 3, .inl (fun _ => 0)))]] (fun (r : Int32) bs => bs = [] ∧ r = (-1)) := by
  refine zMi_of (own := RX11) (by decide) rfl (Nat.le_of_ble_eq_true rfl) ?_
  intro p e s m args below meth c A ls C hr hlocks hnm hAe G hl
  have hx := C.1
  have hb := C.2.1
  have hl : lv_has ls 8 [(0, .ref x), (1, .int p1), (2, .int p2), (3, .int p3)] := hl
  refine lv_aload_n hx hb dX11_mean_0 rfl (lv_at hl 0 rfl) ?_
  refine z_get C G clX11 0 rfl 0 (by decide) m_fl_RX11_10 rfl dX11_mean_1 ?_
  refine lv_iload_n hx hb dX11_mean_4 rfl (lv_at hl 1 rfl) ?_
  refine z_Vq (bc := [[(t0, .inr (8, [.ref a1p, .int 0, .int 0, .int (-1), .ref a2p, .ref a3p, .ref a4p, .ref a5p]))], [(a2p, .inl (T.2 0, 3, .inl (fun _ => 0)))]]) (br := [[(x, .inr (10, [.ref t0, .ref ia, .ref im, .ref rd, .ref po, .ref co, .ref tr, .ref wa, .ref wb, .ref fi, .ref cd]))]]) (As := [.int p1]) (rest := []) C G (c_landAt0 l T t0 a1p a2p a3p a4p a5p 0 0 (-1) p1) (kV_RX11_121 C.2.2.2.2 (Nat.le_of_ble_eq_true rfl) (Nat.le_of_ble_eq_true rfl)) [1, 2] [0] rfl rfl (ci := 8) (qc := (RX9, TX9, 8)) rfl rfl (List.mem_flatten.mpr ⟨_, List.mem_of_getElem? (i := 0) rfl, List.mem_cons_self⟩) rfl rfl hl.1 dX11_mean_5 (Nat.le_of_ble_eq_true rfl) (Nat.le_of_ble_eq_true rfl) (fun r_2 b1 H locs hw G => ?_)
  obtain ⟨rfl, h_1⟩ := hw
  have G : zS T A s.heap s [[(x, .inr (10, [.ref t0, .ref ia, .ref im, .ref rd, .ref po, .ref co, .ref tr, .ref wa, .ref wb, .ref fi, .ref cd]))], [(t0, .inr (8, [.ref a1p, .int 0, .int 0, .int (-1), .ref a2p, .ref a3p, .ref a4p, .ref a5p]))], [(a2p, .inl (T.2 0, 3, .inl (fun _ => 0)))]] _ _ := G
  subst h_1
  refine lv_astoreN (lv' := [(4, .null), (0, .ref x), (1, .int p1), (2, .int p2), (3, .int p3)]) hx hb dX11_mean_8 hl (by decide) rfl (fun ls hl => ?_)
  refine lv_aloadN hx hb dX11_mean_10 (lv_at hl 0 rfl) ?_
  refine lv_ifnullN (tgt := 24) hx hb dX11_mean_12 (by decide) ?_
  refine lv_iconst (v := (-1)) hx hb dX11_mean_24 (by decide) ?_
  have G := G.sub (bs' := []) [] rfl
  exact z_iret C hr hlocks G (Nat.le_of_ble_eq_true rfl) (Nat.le_of_ble_eq_true rfl) dX11_mean_25 ⟨rfl, rfl⟩
set_option maxHeartbeats 4000000 in
set_option maxRecDepth 100000 in
/-- trees: on a new object -/
theorem c_x_trees (l : Launch) (T : zTy) (x : Nat) (t0 : Nat) (ia : Nat) (im : Nat) (rd : Nat) (po : Nat) (co : Nat) (tr : Nat) (wa : Nat) (wb : Nat) (fi : Nat) (cd : Nat) (a1p : Nat) (a2p : Nat) (a3p : Nat) (a4p : Nat) (a5p : Nat) (p1 : Int32) : zMi l T yX11_trees cX11_trees 4 (some .int) 5 0 0 [.ref x, .int p1] [[(x, .inr (10, [.ref t0, .ref ia, .ref im, .ref rd, .ref po, .ref co, .ref tr, .ref wa, .ref wb, .ref fi, .ref cd]))], [(t0, .inr (8, [.ref a1p, .int 0, .int 0, .int (-1), .ref a2p, .ref a3p, .ref a4p, .ref a5p]))], [(a2p, .inl (T.2 0, 3, .inl (fun _ => 0)))]] (fun (r : Int32) bs => bs = [] ∧ r = (-1)) := by
  refine zMi_of (own := RX11) (by decide) rfl (Nat.le_of_ble_eq_true rfl) ?_
  intro p e s m args below meth c A ls C hr hlocks hnm hAe G hl
  have hx := C.1
  have hb := C.2.1
  have hl : lv_has ls 4 [(0, .ref x), (1, .int p1)] := hl
  refine lv_aload_n hx hb dX11_trees_0 rfl (lv_at hl 0 rfl) ?_
  refine z_get C G clX11 0 rfl 0 (by decide) m_fl_RX11_10 rfl dX11_trees_1 ?_
  refine lv_iload_n hx hb dX11_trees_4 rfl (lv_at hl 1 rfl) ?_
  refine z_Vq (bc := [[(t0, .inr (8, [.ref a1p, .int 0, .int 0, .int (-1), .ref a2p, .ref a3p, .ref a4p, .ref a5p]))], [(a2p, .inl (T.2 0, 3, .inl (fun _ => 0)))]]) (br := [[(x, .inr (10, [.ref t0, .ref ia, .ref im, .ref rd, .ref po, .ref co, .ref tr, .ref wa, .ref wb, .ref fi, .ref cd]))]]) (As := [.int p1]) (rest := []) C G (c_landAt0 l T t0 a1p a2p a3p a4p a5p 0 0 (-1) p1) (kV_RX11_121 C.2.2.2.2 (Nat.le_of_ble_eq_true rfl) (Nat.le_of_ble_eq_true rfl)) [1, 2] [0] rfl rfl (ci := 8) (qc := (RX9, TX9, 8)) rfl rfl (List.mem_flatten.mpr ⟨_, List.mem_of_getElem? (i := 0) rfl, List.mem_cons_self⟩) rfl rfl hl.1 dX11_trees_5 (Nat.le_of_ble_eq_true rfl) (Nat.le_of_ble_eq_true rfl) (fun r_2 b1 H locs hw G => ?_)
  obtain ⟨rfl, h_1⟩ := hw
  have G : zS T A s.heap s [[(x, .inr (10, [.ref t0, .ref ia, .ref im, .ref rd, .ref po, .ref co, .ref tr, .ref wa, .ref wb, .ref fi, .ref cd]))], [(t0, .inr (8, [.ref a1p, .int 0, .int 0, .int (-1), .ref a2p, .ref a3p, .ref a4p, .ref a5p]))], [(a2p, .inl (T.2 0, 3, .inl (fun _ => 0)))]] _ _ := G
  subst h_1
  refine lv_astore_nN (lv' := [(2, .null), (0, .ref x), (1, .int p1)]) hx hb dX11_trees_8 rfl hl (by decide) rfl (fun ls hl => ?_)
  refine lv_aload_nN hx hb dX11_trees_9 rfl (lv_at hl 0 rfl) ?_
  refine lv_ifnonnullN hx hb dX11_trees_10 ?_
  refine lv_iconst (v := (-1)) hx hb dX11_trees_13 (by decide) ?_
  have G := G.sub (bs' := []) [] rfl
  exact z_iret C hr hlocks G (Nat.le_of_ble_eq_true rfl) (Nat.le_of_ble_eq_true rfl) dX11_trees_14 ⟨rfl, rfl⟩
set_option maxHeartbeats 4000000 in
set_option maxRecDepth 100000 in
/-- game: on a new object -/
theorem c_x_game (l : Launch) (T : zTy) (x : Nat) (t0 : Nat) (ia : Nat) (im : Nat) (rd : Nat) (po : Nat) (co : Nat) (tr : Nat) (wa : Nat) (wb : Nat) (fi : Nat) (cd : Nat) (a1p : Nat) (a2p : Nat) (a3p : Nat) (a4p : Nat) (a5p : Nat) (p1 : Int32) (p2 : Int32) (p3 : Int32) (p4 : Int32) : zMi l T yX11_game cX11_game 9 (some .int) 5 0 0 [.ref x, .int p1, .int p2, .int p3, .int p4] [[(x, .inr (10, [.ref t0, .ref ia, .ref im, .ref rd, .ref po, .ref co, .ref tr, .ref wa, .ref wb, .ref fi, .ref cd]))], [(t0, .inr (8, [.ref a1p, .int 0, .int 0, .int (-1), .ref a2p, .ref a3p, .ref a4p, .ref a5p]))], [(a2p, .inl (T.2 0, 3, .inl (fun _ => 0)))]] (fun (r : Int32) bs => bs = [] ∧ r = (-9)) := by
  refine zMi_of (own := RX11) (by decide) rfl (Nat.le_of_ble_eq_true rfl) ?_
  intro p e s m args below meth c A ls C hr hlocks hnm hAe G hl
  have hx := C.1
  have hb := C.2.1
  have hl : lv_has ls 9 [(0, .ref x), (1, .int p1), (2, .int p2), (3, .int p3), (4, .int p4)] := hl
  refine lv_aload_n hx hb dX11_game_0 rfl (lv_at hl 0 rfl) ?_
  refine z_get C G clX11 0 rfl 0 (by decide) m_fl_RX11_10 rfl dX11_game_1 ?_
  refine lv_iload_n hx hb dX11_game_4 rfl (lv_at hl 1 rfl) ?_
  refine z_Vq (bc := [[(t0, .inr (8, [.ref a1p, .int 0, .int 0, .int (-1), .ref a2p, .ref a3p, .ref a4p, .ref a5p]))], [(a2p, .inl (T.2 0, 3, .inl (fun _ => 0)))]]) (br := [[(x, .inr (10, [.ref t0, .ref ia, .ref im, .ref rd, .ref po, .ref co, .ref tr, .ref wa, .ref wb, .ref fi, .ref cd]))]]) (As := [.int p1]) (rest := []) C G (c_landAt0 l T t0 a1p a2p a3p a4p a5p 0 0 (-1) p1) (kV_RX11_121 C.2.2.2.2 (Nat.le_of_ble_eq_true rfl) (Nat.le_of_ble_eq_true rfl)) [1, 2] [0] rfl rfl (ci := 8) (qc := (RX9, TX9, 8)) rfl rfl (List.mem_flatten.mpr ⟨_, List.mem_of_getElem? (i := 0) rfl, List.mem_cons_self⟩) rfl rfl hl.1 dX11_game_5 (Nat.le_of_ble_eq_true rfl) (Nat.le_of_ble_eq_true rfl) (fun r_2 b1 H locs hw G => ?_)
  obtain ⟨rfl, h_1⟩ := hw
  have G : zS T A s.heap s [[(x, .inr (10, [.ref t0, .ref ia, .ref im, .ref rd, .ref po, .ref co, .ref tr, .ref wa, .ref wb, .ref fi, .ref cd]))], [(t0, .inr (8, [.ref a1p, .int 0, .int 0, .int (-1), .ref a2p, .ref a3p, .ref a4p, .ref a5p]))], [(a2p, .inl (T.2 0, 3, .inl (fun _ => 0)))]] _ _ := G
  subst h_1
  refine lv_astoreN (lv' := [(5, .null), (0, .ref x), (1, .int p1), (2, .int p2), (3, .int p3), (4, .int p4)]) hx hb dX11_game_8 hl (by decide) rfl (fun ls hl => ?_)
  refine lv_aloadN hx hb dX11_game_10 (lv_at hl 0 rfl) ?_
  refine lv_ifnullN (tgt := 33) hx hb dX11_game_12 (by decide) ?_
  refine lv_bipush (v := (-9)) hx hb dX11_game_33 (by decide) ?_
  have G := G.sub (bs' := []) [] rfl
  exact z_iret C hr hlocks G (Nat.le_of_ble_eq_true rfl) (Nat.le_of_ble_eq_true rfl) dX11_game_35 ⟨rfl, rfl⟩
set_option maxHeartbeats 4000000 in
set_option maxRecDepth 100000 in
/-- fact: on a new object -/
theorem c_x_fact (l : Launch) (T : zTy) (x : Nat) (t0 : Nat) (ia : Nat) (im : Nat) (rd : Nat) (po : Nat) (co : Nat) (tr : Nat) (wa : Nat) (wb : Nat) (fi : Nat) (cd : Nat) (a1p : Nat) (a2p : Nat) (a3p : Nat) (a4p : Nat) (a5p : Nat) (p1 : Int32) (p2 : Int32) (p3 : Int32) : zMi l T yX11_fact cX11_fact 5 (some .int) 5 0 0 [.ref x, .int p1, .int p2, .int p3] [[(x, .inr (10, [.ref t0, .ref ia, .ref im, .ref rd, .ref po, .ref co, .ref tr, .ref wa, .ref wb, .ref fi, .ref cd]))], [(t0, .inr (8, [.ref a1p, .int 0, .int 0, .int (-1), .ref a2p, .ref a3p, .ref a4p, .ref a5p]))], [(a2p, .inl (T.2 0, 3, .inl (fun _ => 0)))]] (fun (r : Int32) bs => bs = [] ∧ r = (-2)) := by
  refine zMi_of (own := RX11) (by decide) rfl (Nat.le_of_ble_eq_true rfl) ?_
  intro p e s m args below meth c A ls C hr hlocks hnm hAe G hl
  have hx := C.1
  have hb := C.2.1
  have hl : lv_has ls 5 [(0, .ref x), (1, .int p1), (2, .int p2), (3, .int p3)] := hl
  refine lv_aload_n hx hb dX11_fact_0 rfl (lv_at hl 0 rfl) ?_
  refine z_get C G clX11 0 rfl 0 (by decide) m_fl_RX11_10 rfl dX11_fact_1 ?_
  refine lv_iload_n hx hb dX11_fact_4 rfl (lv_at hl 1 rfl) ?_
  refine z_Vq (bc := [[(t0, .inr (8, [.ref a1p, .int 0, .int 0, .int (-1), .ref a2p, .ref a3p, .ref a4p, .ref a5p]))], [(a2p, .inl (T.2 0, 3, .inl (fun _ => 0)))]]) (br := [[(x, .inr (10, [.ref t0, .ref ia, .ref im, .ref rd, .ref po, .ref co, .ref tr, .ref wa, .ref wb, .ref fi, .ref cd]))]]) (As := [.int p1]) (rest := []) C G (c_logAt0 l T t0 a1p a2p a3p a4p a5p 0 0 (-1) p1) (kV_RX11_138 C.2.2.2.2 (Nat.le_of_ble_eq_true rfl) (Nat.le_of_ble_eq_true rfl)) [1, 2] [0] rfl rfl (ci := 8) (qc := (RX9, TX9, 8)) rfl rfl (List.mem_flatten.mpr ⟨_, List.mem_of_getElem? (i := 0) rfl, List.mem_cons_self⟩) rfl rfl hl.1 dX11_fact_5 (Nat.le_of_ble_eq_true rfl) (Nat.le_of_ble_eq_true rfl) (fun r_2 b1 H locs hw G => ?_)
  obtain ⟨rfl, h_1⟩ := hw
  have G : zS T A s.heap s [[(x, .inr (10, [.ref t0, .ref ia, .ref im, .ref rd, .ref po, .ref co, .ref tr, .ref wa, .ref wb, .ref fi, .ref cd]))], [(t0, .inr (8, [.ref a1p, .int 0, .int 0, .int (-1), .ref a2p, .ref a3p, .ref a4p, .ref a5p]))], [(a2p, .inl (T.2 0, 3, .inl (fun _ => 0)))]] _ _ := G
  subst h_1
  refine lv_astoreN (lv' := [(4, .null), (0, .ref x), (1, .int p1), (2, .int p2), (3, .int p3)]) hx hb dX11_fact_8 hl (by decide) rfl (fun ls hl => ?_)
  refine lv_aloadN hx hb dX11_fact_10 (lv_at hl 0 rfl) ?_
  refine lv_ifnonnullN hx hb dX11_fact_12 ?_
  refine lv_bipush (v := (-2)) hx hb dX11_fact_15 (by decide) ?_
  refine lv_goto (tgt := 27) hx hb dX11_fact_17 (by decide) ?_
  have G := G.sub (bs' := []) [] rfl
  exact z_iret C hr hlocks G (Nat.le_of_ble_eq_true rfl) (Nat.le_of_ble_eq_true rfl) dX11_fact_27 ⟨rfl, rfl⟩
set_option maxHeartbeats 4000000 in
set_option maxRecDepth 100000 in
/-- fits: on a new object -/
theorem c_x_fits (l : Launch) (T : zTy) (x : Nat) (t0 : Nat) (ia : Nat) (im : Nat) (rd : Nat) (po : Nat) (co : Nat) (tr : Nat) (wa : Nat) (wb : Nat) (fi : Nat) (cd : Nat) (a1p : Nat) (a2p : Nat) (a3p : Nat) (a4p : Nat) (a5p : Nat) (p1 : Int32) (p2 : Int32) (p3 : Int32) : zMi l T yX11_fits cX11_fits 7 (some .int) 5 0 0 [.ref x, .int p1, .int p2, .int p3] [[(x, .inr (10, [.ref t0, .ref ia, .ref im, .ref rd, .ref po, .ref co, .ref tr, .ref wa, .ref wb, .ref fi, .ref cd]))], [(t0, .inr (8, [.ref a1p, .int 0, .int 0, .int (-1), .ref a2p, .ref a3p, .ref a4p, .ref a5p]))], [(a2p, .inl (T.2 0, 3, .inl (fun _ => 0)))]] (fun (r : Int32) bs => bs = [] ∧ r = (-2)) := by
  refine zMi_of (own := RX11) (by decide) rfl (Nat.le_of_ble_eq_true rfl) ?_
  intro p e s m args below meth c A ls C hr hlocks hnm hAe G hl
  have hx := C.1
  have hb := C.2.1
  have hl : lv_has ls 7 [(0, .ref x), (1, .int p1), (2, .int p2), (3, .int p3)] := hl
  refine lv_aload_n hx hb dX11_fits_0 rfl (lv_at hl 0 rfl) ?_
  refine z_get C G clX11 0 rfl 0 (by decide) m_fl_RX11_10 rfl dX11_fits_1 ?_
  refine lv_iload_n hx hb dX11_fits_4 rfl (lv_at hl 1 rfl) ?_
  refine z_Vq (bc := [[(t0, .inr (8, [.ref a1p, .int 0, .int 0, .int (-1), .ref a2p, .ref a3p, .ref a4p, .ref a5p]))], [(a2p, .inl (T.2 0, 3, .inl (fun _ => 0)))]]) (br := [[(x, .inr (10, [.ref t0, .ref ia, .ref im, .ref rd, .ref po, .ref co, .ref tr, .ref wa, .ref wb, .ref fi, .ref cd]))]]) (As := [.int p1]) (rest := []) C G (c_landAt0 l T t0 a1p a2p a3p a4p a5p 0 0 (-1) p1) (kV_RX11_121 C.2.2.2.2 (Nat.le_of_ble_eq_true rfl) (Nat.le_of_ble_eq_true rfl)) [1, 2] [0] rfl rfl (ci := 8) (qc := (RX9, TX9, 8)) rfl rfl (List.mem_flatten.mpr ⟨_, List.mem_of_getElem? (i := 0) rfl, List.mem_cons_self⟩) rfl rfl hl.1 dX11_fits_5 (Nat.le_of_ble_eq_true rfl) (Nat.le_of_ble_eq_true rfl) (fun r_2 b1 H locs hw G => ?_)
  obtain ⟨rfl, h_1⟩ := hw
  have G : zS T A s.heap s [[(x, .inr (10, [.ref t0, .ref ia, .ref im, .ref rd, .ref po, .ref co, .ref tr, .ref wa, .ref wb, .ref fi, .ref cd]))], [(t0, .inr (8, [.ref a1p, .int 0, .int 0, .int (-1), .ref a2p, .ref a3p, .ref a4p, .ref a5p]))], [(a2p, .inl (T.2 0, 3, .inl (fun _ => 0)))]] _ _ := G
  subst h_1
  refine lv_astoreN (lv' := [(4, .null), (0, .ref x), (1, .int p1), (2, .int p2), (3, .int p3)]) hx hb dX11_fits_8 hl (by decide) rfl (fun ls hl => ?_)
  refine lv_aload_n hx hb dX11_fits_10 rfl (lv_at hl 1 rfl) ?_
  refine lv_iload_n hx hb dX11_fits_11 rfl (lv_at hl 2 rfl) ?_
  refine lv_iload_n hx hb dX11_fits_12 rfl (lv_at hl 3 rfl) ?_
  refine z_Vi (bc := [[(x, .inr (10, [.ref t0, .ref ia, .ref im, .ref rd, .ref po, .ref co, .ref tr, .ref wa, .ref wb, .ref fi, .ref cd]))], [(t0, .inr (8, [.ref a1p, .int 0, .int 0, .int (-1), .ref a2p, .ref a3p, .ref a4p, .ref a5p]))], [(a2p, .inl (T.2 0, 3, .inl (fun _ => 0)))]]) (br := []) (As := [.int p1, .int p2]) (rest := []) C G (c_x_fit l T x t0 ia im rd po co tr wa wb fi cd a1p a2p a3p a4p a5p p1 p2) (kV_RX11_302 C.2.2.2.2 (Nat.le_of_ble_eq_true rfl) (Nat.le_of_ble_eq_true rfl)) [0, 1, 2] [] rfl rfl (ci := 10) (qc := (RX11, TX11, 11)) rfl rfl (List.mem_flatten.mpr ⟨_, List.mem_of_getElem? (i := 0) rfl, List.mem_cons_self⟩) rfl rfl hl.1 dX11_fits_13 (Nat.le_of_ble_eq_true rfl) (Nat.le_of_ble_eq_true rfl) (fun r_4 b1 H locs hw G => ?_)
  obtain ⟨rfl, h_3⟩ := hw
  have G : zS T A s.heap s [[(x, .inr (10, [.ref t0, .ref ia, .ref im, .ref rd, .ref po, .ref co, .ref tr, .ref wa, .ref wb, .ref fi, .ref cd]))], [(t0, .inr (8, [.ref a1p, .int 0, .int 0, .int (-1), .ref a2p, .ref a3p, .ref a4p, .ref a5p]))], [(a2p, .inl (T.2 0, 3, .inl (fun _ => 0)))]] _ _ := G
  subst h_3
  refine lv_if_eq (tgt := 28) hx hb dX11_fits_16 (by decide) (fun _ => ?_) (fun q => absurd (by decide) q)
  refine lv_bipush (v := (-2)) hx hb dX11_fits_28 (by decide) ?_
  have G := G.sub (bs' := []) [] rfl
  exact z_iret C hr hlocks G (Nat.le_of_ble_eq_true rfl) (Nat.le_of_ble_eq_true rfl) dX11_fits_30 ⟨rfl, rfl⟩
set_option maxHeartbeats 4000000 in
set_option maxRecDepth 100000 in
/-- drawn: on a new object -/
theorem c_x_drawn (l : Launch) (T : zTy) (x : Nat) (t0 : Nat) (ia : Nat) (im : Nat) (rd : Nat) (po : Nat) (co : Nat) (tr : Nat) (wa : Nat) (wb : Nat) (fi : Nat) (cd : Nat) (a1p : Nat) (a2p : Nat) (a3p : Nat) (a4p : Nat) (a5p : Nat) (p1 : Int32) (p2 : Int32) (p3 : Int32) (p4 : Int32) : zMi l T yX11_drawn cX11_drawn 6 (some .int) 5 0 0 [.ref x, .int p1, .int p2, .int p3, .int p4] [[(x, .inr (10, [.ref t0, .ref ia, .ref im, .ref rd, .ref po, .ref co, .ref tr, .ref wa, .ref wb, .ref fi, .ref cd]))], [(t0, .inr (8, [.ref a1p, .int 0, .int 0, .int (-1), .ref a2p, .ref a3p, .ref a4p, .ref a5p]))], [(a2p, .inl (T.2 0, 3, .inl (fun _ => 0)))]] (fun (r : Int32) bs => bs = [] ∧ r = (-2)) := by
  refine zMi_of (own := RX11) (by decide) rfl (Nat.le_of_ble_eq_true rfl) ?_
  intro p e s m args below meth c A ls C hr hlocks hnm hAe G hl
  have hx := C.1
  have hb := C.2.1
  have hl : lv_has ls 6 [(0, .ref x), (1, .int p1), (2, .int p2), (3, .int p3), (4, .int p4)] := hl
  refine lv_aload_n hx hb dX11_drawn_0 rfl (lv_at hl 0 rfl) ?_
  refine z_get C G clX11 0 rfl 0 (by decide) m_fl_RX11_10 rfl dX11_drawn_1 ?_
  refine lv_iload_n hx hb dX11_drawn_4 rfl (lv_at hl 1 rfl) ?_
  refine z_Vq (bc := [[(t0, .inr (8, [.ref a1p, .int 0, .int 0, .int (-1), .ref a2p, .ref a3p, .ref a4p, .ref a5p]))], [(a2p, .inl (T.2 0, 3, .inl (fun _ => 0)))]]) (br := [[(x, .inr (10, [.ref t0, .ref ia, .ref im, .ref rd, .ref po, .ref co, .ref tr, .ref wa, .ref wb, .ref fi, .ref cd]))]]) (As := [.int p1]) (rest := []) C G (c_landAt0 l T t0 a1p a2p a3p a4p a5p 0 0 (-1) p1) (kV_RX11_121 C.2.2.2.2 (Nat.le_of_ble_eq_true rfl) (Nat.le_of_ble_eq_true rfl)) [1, 2] [0] rfl rfl (ci := 8) (qc := (RX9, TX9, 8)) rfl rfl (List.mem_flatten.mpr ⟨_, List.mem_of_getElem? (i := 0) rfl, List.mem_cons_self⟩) rfl rfl hl.1 dX11_drawn_5 (Nat.le_of_ble_eq_true rfl) (Nat.le_of_ble_eq_true rfl) (fun r_2 b1 H locs hw G => ?_)
  obtain ⟨rfl, h_1⟩ := hw
  have G : zS T A s.heap s [[(x, .inr (10, [.ref t0, .ref ia, .ref im, .ref rd, .ref po, .ref co, .ref tr, .ref wa, .ref wb, .ref fi, .ref cd]))], [(t0, .inr (8, [.ref a1p, .int 0, .int 0, .int (-1), .ref a2p, .ref a3p, .ref a4p, .ref a5p]))], [(a2p, .inl (T.2 0, 3, .inl (fun _ => 0)))]] _ _ := G
  subst h_1
  refine lv_astoreN (lv' := [(5, .null), (0, .ref x), (1, .int p1), (2, .int p2), (3, .int p3), (4, .int p4)]) hx hb dX11_drawn_8 hl (by decide) rfl (fun ls hl => ?_)
  refine lv_aloadN hx hb dX11_drawn_10 (lv_at hl 0 rfl) ?_
  refine lv_ifnullN (tgt := 25) hx hb dX11_drawn_12 (by decide) ?_
  refine lv_bipush (v := (-2)) hx hb dX11_drawn_25 (by decide) ?_
  have G := G.sub (bs' := []) [] rfl
  exact z_iret C hr hlocks G (Nat.le_of_ble_eq_true rfl) (Nat.le_of_ble_eq_true rfl) dX11_drawn_27 ⟨rfl, rfl⟩
set_option maxHeartbeats 4000000 in
set_option maxRecDepth 100000 in
/-- far: on a new object -/
theorem c_x_far (l : Launch) (T : zTy) (x : Nat) (t0 : Nat) (ia : Nat) (im : Nat) (rd : Nat) (po : Nat) (co : Nat) (tr : Nat) (wa : Nat) (wb : Nat) (fi : Nat) (cd : Nat) (a1p : Nat) (a2p : Nat) (a3p : Nat) (a4p : Nat) (a5p : Nat) (p1 : Int32) (p2 : Int32) (p3 : Int32) : zMi l T yX11_far cX11_far 5 (some .int) 5 0 0 [.ref x, .int p1, .int p2, .int p3] [[(x, .inr (10, [.ref t0, .ref ia, .ref im, .ref rd, .ref po, .ref co, .ref tr, .ref wa, .ref wb, .ref fi, .ref cd]))], [(t0, .inr (8, [.ref a1p, .int 0, .int 0, .int (-1), .ref a2p, .ref a3p, .ref a4p, .ref a5p]))], [(a2p, .inl (T.2 0, 3, .inl (fun _ => 0)))]] (fun (r : Int32) bs => bs = [] ∧ r = (-1)) := by
  refine zMi_of (own := RX11) (by decide) rfl (Nat.le_of_ble_eq_true rfl) ?_
  intro p e s m args below meth c A ls C hr hlocks hnm hAe G hl
  have hx := C.1
  have hb := C.2.1
  have hl : lv_has ls 5 [(0, .ref x), (1, .int p1), (2, .int p2), (3, .int p3)] := hl
  refine lv_aload_n hx hb dX11_far_0 rfl (lv_at hl 0 rfl) ?_
  refine z_get C G clX11 0 rfl 0 (by decide) m_fl_RX11_10 rfl dX11_far_1 ?_
  refine lv_iload_n hx hb dX11_far_4 rfl (lv_at hl 1 rfl) ?_
  refine z_Vq (bc := [[(t0, .inr (8, [.ref a1p, .int 0, .int 0, .int (-1), .ref a2p, .ref a3p, .ref a4p, .ref a5p]))], [(a2p, .inl (T.2 0, 3, .inl (fun _ => 0)))]]) (br := [[(x, .inr (10, [.ref t0, .ref ia, .ref im, .ref rd, .ref po, .ref co, .ref tr, .ref wa, .ref wb, .ref fi, .ref cd]))]]) (As := [.int p1]) (rest := []) C G (c_landAt0 l T t0 a1p a2p a3p a4p a5p 0 0 (-1) p1) (kV_RX11_121 C.2.2.2.2 (Nat.le_of_ble_eq_true rfl) (Nat.le_of_ble_eq_true rfl)) [1, 2] [0] rfl rfl (ci := 8) (qc := (RX9, TX9, 8)) rfl rfl (List.mem_flatten.mpr ⟨_, List.mem_of_getElem? (i := 0) rfl, List.mem_cons_self⟩) rfl rfl hl.1 dX11_far_5 (Nat.le_of_ble_eq_true rfl) (Nat.le_of_ble_eq_true rfl) (fun r_2 b1 H locs hw G => ?_)
  obtain ⟨rfl, h_1⟩ := hw
  have G : zS T A s.heap s [[(x, .inr (10, [.ref t0, .ref ia, .ref im, .ref rd, .ref po, .ref co, .ref tr, .ref wa, .ref wb, .ref fi, .ref cd]))], [(t0, .inr (8, [.ref a1p, .int 0, .int 0, .int (-1), .ref a2p, .ref a3p, .ref a4p, .ref a5p]))], [(a2p, .inl (T.2 0, 3, .inl (fun _ => 0)))]] _ _ := G
  subst h_1
  refine lv_astoreN (lv' := [(4, .null), (0, .ref x), (1, .int p1), (2, .int p2), (3, .int p3)]) hx hb dX11_far_8 hl (by decide) rfl (fun ls hl => ?_)
  refine lv_aloadN hx hb dX11_far_10 (lv_at hl 0 rfl) ?_
  refine lv_ifnullN (tgt := 33) hx hb dX11_far_12 (by decide) ?_
  refine lv_iconst (v := (-1)) hx hb dX11_far_33 (by decide) ?_
  refine lv_goto (tgt := 44) hx hb dX11_far_34 (by decide) ?_
  have G := G.sub (bs' := []) [] rfl
  exact z_iret C hr hlocks G (Nat.le_of_ble_eq_true rfl) (Nat.le_of_ble_eq_true rfl) dX11_far_44 ⟨rfl, rfl⟩
set_option maxHeartbeats 4000000 in
set_option maxRecDepth 100000 in
/-- reach: on a new object -/
theorem c_x_reach (l : Launch) (T : zTy) (x : Nat) (t0 : Nat) (ia : Nat) (im : Nat) (rd : Nat) (po : Nat) (co : Nat) (tr : Nat) (wa : Nat) (wb : Nat) (fi : Nat) (cd : Nat) (a1p : Nat) (a2p : Nat) (a3p : Nat) (a4p : Nat) (a5p : Nat) (p1 : Int32) (p2 : Int32) (p3 : Int32) : zMi l T yX11_reach cX11_reach 5 (some .int) 5 0 0 [.ref x, .int p1, .int p2, .int p3] [[(x, .inr (10, [.ref t0, .ref ia, .ref im, .ref rd, .ref po, .ref co, .ref tr, .ref wa, .ref wb, .ref fi, .ref cd]))], [(t0, .inr (8, [.ref a1p, .int 0, .int 0, .int (-1), .ref a2p, .ref a3p, .ref a4p, .ref a5p]))], [(a2p, .inl (T.2 0, 3, .inl (fun _ => 0)))]] (fun (r : Int32) bs => bs = [] ∧ r = (-2)) := by
  refine zMi_of (own := RX11) (by decide) rfl (Nat.le_of_ble_eq_true rfl) ?_
  intro p e s m args below meth c A ls C hr hlocks hnm hAe G hl
  have hx := C.1
  have hb := C.2.1
  have hl : lv_has ls 5 [(0, .ref x), (1, .int p1), (2, .int p2), (3, .int p3)] := hl
  refine lv_aload_n hx hb dX11_reach_0 rfl (lv_at hl 0 rfl) ?_
  refine z_get C G clX11 0 rfl 0 (by decide) m_fl_RX11_10 rfl dX11_reach_1 ?_
  refine lv_iload_n hx hb dX11_reach_4 rfl (lv_at hl 1 rfl) ?_
  refine z_Vq (bc := [[(t0, .inr (8, [.ref a1p, .int 0, .int 0, .int (-1), .ref a2p, .ref a3p, .ref a4p, .ref a5p]))], [(a2p, .inl (T.2 0, 3, .inl (fun _ => 0)))]]) (br := [[(x, .inr (10, [.ref t0, .ref ia, .ref im, .ref rd, .ref po, .ref co, .ref tr, .ref wa, .ref wb, .ref fi, .ref cd]))]]) (As := [.int p1]) (rest := []) C G (c_landAt0 l T t0 a1p a2p a3p a4p a5p 0 0 (-1) p1) (kV_RX11_121 C.2.2.2.2 (Nat.le_of_ble_eq_true rfl) (Nat.le_of_ble_eq_true rfl)) [1, 2] [0] rfl rfl (ci := 8) (qc := (RX9, TX9, 8)) rfl rfl (List.mem_flatten.mpr ⟨_, List.mem_of_getElem? (i := 0) rfl, List.mem_cons_self⟩) rfl rfl hl.1 dX11_reach_5 (Nat.le_of_ble_eq_true rfl) (Nat.le_of_ble_eq_true rfl) (fun r_2 b1 H locs hw G => ?_)
  obtain ⟨rfl, h_1⟩ := hw
  have G : zS T A s.heap s [[(x, .inr (10, [.ref t0, .ref ia, .ref im, .ref rd, .ref po, .ref co, .ref tr, .ref wa, .ref wb, .ref fi, .ref cd]))], [(t0, .inr (8, [.ref a1p, .int 0, .int 0, .int (-1), .ref a2p, .ref a3p, .ref a4p, .ref a5p]))], [(a2p, .inl (T.2 0, 3, .inl (fun _ => 0)))]] _ _ := G
  subst h_1
  refine lv_astoreN (lv' := [(4, .null), (0, .ref x), (1, .int p1), (2, .int p2), (3, .int p3)]) hx hb dX11_reach_8 hl (by decide) rfl (fun ls hl => ?_)
  refine lv_aloadN hx hb dX11_reach_10 (lv_at hl 0 rfl) ?_
  refine lv_ifnullN (tgt := 33) hx hb dX11_reach_12 (by decide) ?_
  refine lv_bipush (v := (-2)) hx hb dX11_reach_33 (by decide) ?_
  have G := G.sub (bs' := []) [] rfl
  exact z_iret C hr hlocks G (Nat.le_of_ble_eq_true rfl) (Nat.le_of_ble_eq_true rfl) dX11_reach_35 ⟨rfl, rfl⟩
set_option maxHeartbeats 4000000 in
set_option maxRecDepth 100000 in
/-- classes: on a new object -/
theorem c_x_classes (l : Launch) (T : zTy) (x : Nat) (t0 : Nat) (ia : Nat) (im : Nat) (rd : Nat) (po : Nat) (co : Nat) (tr : Nat) (wa : Nat) (wb : Nat) (fi : Nat) (cd : Nat) (a1p : Nat) (a2p : Nat) (a3p : Nat) (a4p : Nat) (a5p : Nat) (p1 : Int32) (p2 : Int32) : zMi l T yX11_classes cX11_classes 4 (some .int) 5 0 0 [.ref x, .int p1, .int p2] [[(x, .inr (10, [.ref t0, .ref ia, .ref im, .ref rd, .ref po, .ref co, .ref tr, .ref wa, .ref wb, .ref fi, .ref cd]))], [(t0, .inr (8, [.ref a1p, .int 0, .int 0, .int (-1), .ref a2p, .ref a3p, .ref a4p, .ref a5p]))], [(a2p, .inl (T.2 0, 3, .inl (fun _ => 0)))]] (fun (r : Int32) bs => bs = [] ∧ r = (-2)) := by
  refine zMi_of (own := RX11) (by decide) rfl (Nat.le_of_ble_eq_true rfl) ?_
  intro p e s m args below meth c A ls C hr hlocks hnm hAe G hl
  have hx := C.1
  have hb := C.2.1
  have hl : lv_has ls 4 [(0, .ref x), (1, .int p1), (2, .int p2)] := hl
  refine lv_aload_n hx hb dX11_classes_0 rfl (lv_at hl 0 rfl) ?_
  refine z_get C G clX11 0 rfl 0 (by decide) m_fl_RX11_10 rfl dX11_classes_1 ?_
  refine lv_iload_n hx hb dX11_classes_4 rfl (lv_at hl 1 rfl) ?_
  refine z_Vq (bc := [[(t0, .inr (8, [.ref a1p, .int 0, .int 0, .int (-1), .ref a2p, .ref a3p, .ref a4p, .ref a5p]))], [(a2p, .inl (T.2 0, 3, .inl (fun _ => 0)))]]) (br := [[(x, .inr (10, [.ref t0, .ref ia, .ref im, .ref rd, .ref po, .ref co, .ref tr, .ref wa, .ref wb, .ref fi, .ref cd]))]]) (As := [.int p1]) (rest := []) C G (c_landAt0 l T t0 a1p a2p a3p a4p a5p 0 0 (-1) p1) (kV_RX11_121 C.2.2.2.2 (Nat.le_of_ble_eq_true rfl) (Nat.le_of_ble_eq_true rfl)) [1, 2] [0] rfl rfl (ci := 8) (qc := (RX9, TX9, 8)) rfl rfl (List.mem_flatten.mpr ⟨_, List.mem_of_getElem? (i := 0) rfl, List.mem_cons_self⟩) rfl rfl hl.1 dX11_classes_5 (Nat.le_of_ble_eq_true rfl) (Nat.le_of_ble_eq_true rfl) (fun r_2 b1 H locs hw G => ?_)
  obtain ⟨rfl, h_1⟩ := hw
  have G : zS T A s.heap s [[(x, .inr (10, [.ref t0, .ref ia, .ref im, .ref rd, .ref po, .ref co, .ref tr, .ref wa, .ref wb, .ref fi, .ref cd]))], [(t0, .inr (8, [.ref a1p, .int 0, .int 0, .int (-1), .ref a2p, .ref a3p, .ref a4p, .ref a5p]))], [(a2p, .inl (T.2 0, 3, .inl (fun _ => 0)))]] _ _ := G
  subst h_1
  refine lv_astore_nN (lv' := [(3, .null), (0, .ref x), (1, .int p1), (2, .int p2)]) hx hb dX11_classes_8 rfl hl (by decide) rfl (fun ls hl => ?_)
  refine lv_aload_nN hx hb dX11_classes_9 rfl (lv_at hl 0 rfl) ?_
  refine lv_ifnonnullN hx hb dX11_classes_10 ?_
  refine lv_bipush (v := (-2)) hx hb dX11_classes_13 (by decide) ?_
  have G := G.sub (bs' := []) [] rfl
  exact z_iret C hr hlocks G (Nat.le_of_ble_eq_true rfl) (Nat.le_of_ble_eq_true rfl) dX11_classes_15 ⟨rfl, rfl⟩
set_option maxHeartbeats 4000000 in
set_option maxRecDepth 100000 in
/-- led: on a new object -/
theorem c_x_led (l : Launch) (T : zTy) (x : Nat) (t0 : Nat) (ia : Nat) (im : Nat) (rd : Nat) (po : Nat) (co : Nat) (tr : Nat) (wa : Nat) (wb : Nat) (fi : Nat) (cd : Nat) (a1p : Nat) (a2p : Nat) (a3p : Nat) (a4p : Nat) (a5p : Nat) (p1 : Int32) (p2 : Int32) (p3 : Int32) : zMi l T yX11_led cX11_led 7 (some .int) 5 0 0 [.ref x, .int p1, .int p2, .int p3] [[(x, .inr (10, [.ref t0, .ref ia, .ref im, .ref rd, .ref po, .ref co, .ref tr, .ref wa, .ref wb, .ref fi, .ref cd]))], [(t0, .inr (8, [.ref a1p, .int 0, .int 0, .int (-1), .ref a2p, .ref a3p, .ref a4p, .ref a5p]))], [(a2p, .inl (T.2 0, 3, .inl (fun _ => 0)))]] (fun (r : Int32) bs => bs = [] ∧ r = (-2)) := by
  refine zMi_of (own := RX11) (by decide) rfl (Nat.le_of_ble_eq_true rfl) ?_
  intro p e s m args below meth c A ls C hr hlocks hnm hAe G hl
  have hx := C.1
  have hb := C.2.1
  have hl : lv_has ls 7 [(0, .ref x), (1, .int p1), (2, .int p2), (3, .int p3)] := hl
  refine lv_aload_n hx hb dX11_led_0 rfl (lv_at hl 0 rfl) ?_
  refine z_get C G clX11 0 rfl 0 (by decide) m_fl_RX11_10 rfl dX11_led_1 ?_
  refine lv_iload_n hx hb dX11_led_4 rfl (lv_at hl 1 rfl) ?_
  refine z_Vq (bc := [[(t0, .inr (8, [.ref a1p, .int 0, .int 0, .int (-1), .ref a2p, .ref a3p, .ref a4p, .ref a5p]))], [(a2p, .inl (T.2 0, 3, .inl (fun _ => 0)))]]) (br := [[(x, .inr (10, [.ref t0, .ref ia, .ref im, .ref rd, .ref po, .ref co, .ref tr, .ref wa, .ref wb, .ref fi, .ref cd]))]]) (As := [.int p1]) (rest := []) C G (c_landAt0 l T t0 a1p a2p a3p a4p a5p 0 0 (-1) p1) (kV_RX11_121 C.2.2.2.2 (Nat.le_of_ble_eq_true rfl) (Nat.le_of_ble_eq_true rfl)) [1, 2] [0] rfl rfl (ci := 8) (qc := (RX9, TX9, 8)) rfl rfl (List.mem_flatten.mpr ⟨_, List.mem_of_getElem? (i := 0) rfl, List.mem_cons_self⟩) rfl rfl hl.1 dX11_led_5 (Nat.le_of_ble_eq_true rfl) (Nat.le_of_ble_eq_true rfl) (fun r_2 b1 H locs hw G => ?_)
  obtain ⟨rfl, h_1⟩ := hw
  have G : zS T A s.heap s [[(x, .inr (10, [.ref t0, .ref ia, .ref im, .ref rd, .ref po, .ref co, .ref tr, .ref wa, .ref wb, .ref fi, .ref cd]))], [(t0, .inr (8, [.ref a1p, .int 0, .int 0, .int (-1), .ref a2p, .ref a3p, .ref a4p, .ref a5p]))], [(a2p, .inl (T.2 0, 3, .inl (fun _ => 0)))]] _ _ := G
  subst h_1
  refine lv_astoreN (lv' := [(4, .null), (0, .ref x), (1, .int p1), (2, .int p2), (3, .int p3)]) hx hb dX11_led_8 hl (by decide) rfl (fun ls hl => ?_)
  refine lv_aloadN hx hb dX11_led_10 (lv_at hl 0 rfl) ?_
  refine lv_ifnullN (tgt := 33) hx hb dX11_led_12 (by decide) ?_
  refine lv_bipush (v := (-2)) hx hb dX11_led_33 (by decide) ?_
  have G := G.sub (bs' := []) [] rfl
  exact z_iret C hr hlocks G (Nat.le_of_ble_eq_true rfl) (Nat.le_of_ble_eq_true rfl) dX11_led_35 ⟨rfl, rfl⟩
set_option maxHeartbeats 4000000 in
set_option maxRecDepth 100000 in
/-- cover: on a new object -/
theorem c_x_cover (l : Launch) (T : zTy) (x : Nat) (t0 : Nat) (ia : Nat) (im : Nat) (rd : Nat) (po : Nat) (co : Nat) (tr : Nat) (wa : Nat) (wb : Nat) (fi : Nat) (cd : Nat) (a1p : Nat) (a2p : Nat) (a3p : Nat) (a4p : Nat) (a5p : Nat) (p1 : Int32) (p2 : Int32) (p3 : Int32) : zMi l T yX11_cover cX11_cover 5 (some .int) 5 0 0 [.ref x, .int p1, .int p2, .int p3] [[(x, .inr (10, [.ref t0, .ref ia, .ref im, .ref rd, .ref po, .ref co, .ref tr, .ref wa, .ref wb, .ref fi, .ref cd]))], [(t0, .inr (8, [.ref a1p, .int 0, .int 0, .int (-1), .ref a2p, .ref a3p, .ref a4p, .ref a5p]))], [(a2p, .inl (T.2 0, 3, .inl (fun _ => 0)))]] (fun (r : Int32) bs => bs = [] ∧ r = (-2)) := by
  refine zMi_of (own := RX11) (by decide) rfl (Nat.le_of_ble_eq_true rfl) ?_
  intro p e s m args below meth c A ls C hr hlocks hnm hAe G hl
  have hx := C.1
  have hb := C.2.1
  have hl : lv_has ls 5 [(0, .ref x), (1, .int p1), (2, .int p2), (3, .int p3)] := hl
  refine lv_aload_n hx hb dX11_cover_0 rfl (lv_at hl 0 rfl) ?_
  refine z_get C G clX11 0 rfl 0 (by decide) m_fl_RX11_10 rfl dX11_cover_1 ?_
  refine lv_iload_n hx hb dX11_cover_4 rfl (lv_at hl 1 rfl) ?_
  refine z_Vq (bc := [[(t0, .inr (8, [.ref a1p, .int 0, .int 0, .int (-1), .ref a2p, .ref a3p, .ref a4p, .ref a5p]))], [(a2p, .inl (T.2 0, 3, .inl (fun _ => 0)))]]) (br := [[(x, .inr (10, [.ref t0, .ref ia, .ref im, .ref rd, .ref po, .ref co, .ref tr, .ref wa, .ref wb, .ref fi, .ref cd]))]]) (As := [.int p1]) (rest := []) C G (c_landAt0 l T t0 a1p a2p a3p a4p a5p 0 0 (-1) p1) (kV_RX11_121 C.2.2.2.2 (Nat.le_of_ble_eq_true rfl) (Nat.le_of_ble_eq_true rfl)) [1, 2] [0] rfl rfl (ci := 8) (qc := (RX9, TX9, 8)) rfl rfl (List.mem_flatten.mpr ⟨_, List.mem_of_getElem? (i := 0) rfl, List.mem_cons_self⟩) rfl rfl hl.1 dX11_cover_5 (Nat.le_of_ble_eq_true rfl) (Nat.le_of_ble_eq_true rfl) (fun r_2 b1 H locs hw G => ?_)
  obtain ⟨rfl, h_1⟩ := hw
  have G : zS T A s.heap s [[(x, .inr (10, [.ref t0, .ref ia, .ref im, .ref rd, .ref po, .ref co, .ref tr, .ref wa, .ref wb, .ref fi, .ref cd]))], [(t0, .inr (8, [.ref a1p, .int 0, .int 0, .int (-1), .ref a2p, .ref a3p, .ref a4p, .ref a5p]))], [(a2p, .inl (T.2 0, 3, .inl (fun _ => 0)))]] _ _ := G
  subst h_1
  refine lv_astoreN (lv' := [(4, .null), (0, .ref x), (1, .int p1), (2, .int p2), (3, .int p3)]) hx hb dX11_cover_8 hl (by decide) rfl (fun ls hl => ?_)
  refine lv_aloadN hx hb dX11_cover_10 (lv_at hl 0 rfl) ?_
  refine lv_ifnullN (tgt := 24) hx hb dX11_cover_12 (by decide) ?_
  refine lv_bipush (v := (-2)) hx hb dX11_cover_24 (by decide) ?_
  have G := G.sub (bs' := []) [] rfl
  exact z_iret C hr hlocks G (Nat.le_of_ble_eq_true rfl) (Nat.le_of_ble_eq_true rfl) dX11_cover_26 ⟨rfl, rfl⟩
set_option maxHeartbeats 4000000 in
set_option maxRecDepth 100000 in
/-- share: on a new object -/
theorem c_x_share (l : Launch) (T : zTy) (x : Nat) (t0 : Nat) (ia : Nat) (im : Nat) (rd : Nat) (po : Nat) (co : Nat) (tr : Nat) (wa : Nat) (wb : Nat) (fi : Nat) (cd : Nat) (a1p : Nat) (a2p : Nat) (a3p : Nat) (a4p : Nat) (a5p : Nat) (p1 : Int32) (p2 : Int32) (p3 : Int32) (p4 : Int32) : zMi l T yX11_share cX11_share 8 (some .int) 5 0 0 [.ref x, .int p1, .int p2, .int p3, .int p4] [[(x, .inr (10, [.ref t0, .ref ia, .ref im, .ref rd, .ref po, .ref co, .ref tr, .ref wa, .ref wb, .ref fi, .ref cd]))], [(t0, .inr (8, [.ref a1p, .int 0, .int 0, .int (-1), .ref a2p, .ref a3p, .ref a4p, .ref a5p]))], [(a2p, .inl (T.2 0, 3, .inl (fun _ => 0)))]] (fun (r : Int32) bs => bs = [] ∧ r = (-1)) := by
  refine zMi_of (own := RX11) (by decide) rfl (Nat.le_of_ble_eq_true rfl) ?_
  intro p e s m args below meth c A ls C hr hlocks hnm hAe G hl
  have hx := C.1
  have hb := C.2.1
  have hl : lv_has ls 8 [(0, .ref x), (1, .int p1), (2, .int p2), (3, .int p3), (4, .int p4)] := hl
  refine lv_aload_n hx hb dX11_share_0 rfl (lv_at hl 0 rfl) ?_
  refine z_get C G clX11 0 rfl 0 (by decide) m_fl_RX11_10 rfl dX11_share_1 ?_
  refine lv_iload_n hx hb dX11_share_4 rfl (lv_at hl 1 rfl) ?_
  refine z_Vq (bc := [[(t0, .inr (8, [.ref a1p, .int 0, .int 0, .int (-1), .ref a2p, .ref a3p, .ref a4p, .ref a5p]))], [(a2p, .inl (T.2 0, 3, .inl (fun _ => 0)))]]) (br := [[(x, .inr (10, [.ref t0, .ref ia, .ref im, .ref rd, .ref po, .ref co, .ref tr, .ref wa, .ref wb, .ref fi, .ref cd]))]]) (As := [.int p1]) (rest := []) C G (c_landAt0 l T t0 a1p a2p a3p a4p a5p 0 0 (-1) p1) (kV_RX11_121 C.2.2.2.2 (Nat.le_of_ble_eq_true rfl) (Nat.le_of_ble_eq_true rfl)) [1, 2] [0] rfl rfl (ci := 8) (qc := (RX9, TX9, 8)) rfl rfl (List.mem_flatten.mpr ⟨_, List.mem_of_getElem? (i := 0) rfl, List.mem_cons_self⟩) rfl rfl hl.1 dX11_share_5 (Nat.le_of_ble_eq_true rfl) (Nat.le_of_ble_eq_true rfl) (fun r_2 b1 H locs hw G => ?_)
  obtain ⟨rfl, h_1⟩ := hw
  have G : zS T A s.heap s [[(x, .inr (10, [.ref t0, .ref ia, .ref im, .ref rd, .ref po, .ref co, .ref tr, .ref wa, .ref wb, .ref fi, .ref cd]))], [(t0, .inr (8, [.ref a1p, .int 0, .int 0, .int (-1), .ref a2p, .ref a3p, .ref a4p, .ref a5p]))], [(a2p, .inl (T.2 0, 3, .inl (fun _ => 0)))]] _ _ := G
  subst h_1
  refine lv_astoreN (lv' := [(5, .null), (0, .ref x), (1, .int p1), (2, .int p2), (3, .int p3), (4, .int p4)]) hx hb dX11_share_8 hl (by decide) rfl (fun ls hl => ?_)
  refine lv_aloadN hx hb dX11_share_10 (lv_at hl 0 rfl) ?_
  refine lv_ifnullN (tgt := 44) hx hb dX11_share_12 (by decide) ?_
  refine lv_iconst (v := (-1)) hx hb dX11_share_44 (by decide) ?_
  have G := G.sub (bs' := []) [] rfl
  exact z_iret C hr hlocks G (Nat.le_of_ble_eq_true rfl) (Nat.le_of_ble_eq_true rfl) dX11_share_45 ⟨rfl, rfl⟩
set_option maxHeartbeats 4000000 in
set_option maxRecDepth 100000 in
/-- longest: on a new object -/
theorem c_x_longest (l : Launch) (T : zTy) (x : Nat) (t0 : Nat) (ia : Nat) (im : Nat) (rd : Nat) (po : Nat) (co : Nat) (tr : Nat) (wa : Nat) (wb : Nat) (fi : Nat) (cd : Nat) (a1p : Nat) (a2p : Nat) (a3p : Nat) (a4p : Nat) (a5p : Nat) (p1 : Int32) (p2 : Int32) (p3 : Int32) (p4 : Int32) : zMi l T yX11_longest cX11_longest 12 (some .int) 5 0 0 [.ref x, .int p1, .int p2, .int p3, .int p4] [[(x, .inr (10, [.ref t0, .ref ia, .ref im, .ref rd, .ref po, .ref co, .ref tr, .ref wa, .ref wb, .ref fi, .ref cd]))], [(t0, .inr (8, [.ref a1p, .int 0, .int 0, .int (-1), .ref a2p, .ref a3p, .ref a4p, .ref a5p]))], [(a2p, .inl (T.2 0, 3, .inl (fun _ => 0)))]] (fun (r : Int32) bs => bs = [] ∧ r = (-1)) := by
  refine zMi_of (own := RX11) (by decide) rfl (Nat.le_of_ble_eq_true rfl) ?_
  intro p e s m args below meth c A ls C hr hlocks hnm hAe G hl
  have hx := C.1
  have hb := C.2.1
  have hl : lv_has ls 12 [(0, .ref x), (1, .int p1), (2, .int p2), (3, .int p3), (4, .int p4)] := hl
  refine lv_aload_n hx hb dX11_longest_0 rfl (lv_at hl 0 rfl) ?_
  refine z_get C G clX11 0 rfl 0 (by decide) m_fl_RX11_10 rfl dX11_longest_1 ?_
  refine lv_iload_n hx hb dX11_longest_4 rfl (lv_at hl 1 rfl) ?_
  refine z_Vq (bc := [[(t0, .inr (8, [.ref a1p, .int 0, .int 0, .int (-1), .ref a2p, .ref a3p, .ref a4p, .ref a5p]))], [(a2p, .inl (T.2 0, 3, .inl (fun _ => 0)))]]) (br := [[(x, .inr (10, [.ref t0, .ref ia, .ref im, .ref rd, .ref po, .ref co, .ref tr, .ref wa, .ref wb, .ref fi, .ref cd]))]]) (As := [.int p1]) (rest := []) C G (c_landAt0 l T t0 a1p a2p a3p a4p a5p 0 0 (-1) p1) (kV_RX11_121 C.2.2.2.2 (Nat.le_of_ble_eq_true rfl) (Nat.le_of_ble_eq_true rfl)) [1, 2] [0] rfl rfl (ci := 8) (qc := (RX9, TX9, 8)) rfl rfl (List.mem_flatten.mpr ⟨_, List.mem_of_getElem? (i := 0) rfl, List.mem_cons_self⟩) rfl rfl hl.1 dX11_longest_5 (Nat.le_of_ble_eq_true rfl) (Nat.le_of_ble_eq_true rfl) (fun r_2 b1 H locs hw G => ?_)
  obtain ⟨rfl, h_1⟩ := hw
  have G : zS T A s.heap s [[(x, .inr (10, [.ref t0, .ref ia, .ref im, .ref rd, .ref po, .ref co, .ref tr, .ref wa, .ref wb, .ref fi, .ref cd]))], [(t0, .inr (8, [.ref a1p, .int 0, .int 0, .int (-1), .ref a2p, .ref a3p, .ref a4p, .ref a5p]))], [(a2p, .inl (T.2 0, 3, .inl (fun _ => 0)))]] _ _ := G
  subst h_1
  refine lv_astoreN (lv' := [(5, .null), (0, .ref x), (1, .int p1), (2, .int p2), (3, .int p3), (4, .int p4)]) hx hb dX11_longest_8 hl (by decide) rfl (fun ls hl => ?_)
  refine lv_aloadN hx hb dX11_longest_10 (lv_at hl 0 rfl) ?_
  refine lv_ifnullN (tgt := 24) hx hb dX11_longest_12 (by decide) ?_
  refine lv_iconst (v := (-1)) hx hb dX11_longest_24 (by decide) ?_
  have G := G.sub (bs' := []) [] rfl
  exact z_iret C hr hlocks G (Nat.le_of_ble_eq_true rfl) (Nat.le_of_ble_eq_true rfl) dX11_longest_25 ⟨rfl, rfl⟩
set_option maxHeartbeats 4000000 in
set_option maxRecDepth 100000 in
/-- back: on a new object -/
theorem c_x_back (l : Launch) (T : zTy) (x : Nat) (t0 : Nat) (ia : Nat) (im : Nat) (rd : Nat) (po : Nat) (co : Nat) (tr : Nat) (wa : Nat) (wb : Nat) (fi : Nat) (cd : Nat) (a1p : Nat) (a2p : Nat) (a3p : Nat) (a4p : Nat) (a5p : Nat) (p1 : Int32) (p2 : Int32) : zMi l T yX11_back cX11_back 8 (some .int) 5 0 0 [.ref x, .int p1, .int p2] [[(x, .inr (10, [.ref t0, .ref ia, .ref im, .ref rd, .ref po, .ref co, .ref tr, .ref wa, .ref wb, .ref fi, .ref cd]))], [(t0, .inr (8, [.ref a1p, .int 0, .int 0, .int (-1), .ref a2p, .ref a3p, .ref a4p, .ref a5p]))], [(a2p, .inl (T.2 0, 3, .inl (fun _ => 0)))]] (fun (r : Int32) bs => bs = [] ∧ r = (-1)) := by
  refine zMi_of (own := RX11) (by decide) rfl (Nat.le_of_ble_eq_true rfl) ?_
  intro p e s m args below meth c A ls C hr hlocks hnm hAe G hl
  have hx := C.1
  have hb := C.2.1
  have hl : lv_has ls 8 [(0, .ref x), (1, .int p1), (2, .int p2)] := hl
  refine lv_aload_n hx hb dX11_back_0 rfl (lv_at hl 0 rfl) ?_
  refine z_get C G clX11 0 rfl 0 (by decide) m_fl_RX11_10 rfl dX11_back_1 ?_
  refine lv_iload_n hx hb dX11_back_4 rfl (lv_at hl 1 rfl) ?_
  refine z_Vq (bc := [[(t0, .inr (8, [.ref a1p, .int 0, .int 0, .int (-1), .ref a2p, .ref a3p, .ref a4p, .ref a5p]))], [(a2p, .inl (T.2 0, 3, .inl (fun _ => 0)))]]) (br := [[(x, .inr (10, [.ref t0, .ref ia, .ref im, .ref rd, .ref po, .ref co, .ref tr, .ref wa, .ref wb, .ref fi, .ref cd]))]]) (As := [.int p1]) (rest := []) C G (c_landAt0 l T t0 a1p a2p a3p a4p a5p 0 0 (-1) p1) (kV_RX11_121 C.2.2.2.2 (Nat.le_of_ble_eq_true rfl) (Nat.le_of_ble_eq_true rfl)) [1, 2] [0] rfl rfl (ci := 8) (qc := (RX9, TX9, 8)) rfl rfl (List.mem_flatten.mpr ⟨_, List.mem_of_getElem? (i := 0) rfl, List.mem_cons_self⟩) rfl rfl hl.1 dX11_back_5 (Nat.le_of_ble_eq_true rfl) (Nat.le_of_ble_eq_true rfl) (fun r_2 b1 H locs hw G => ?_)
  obtain ⟨rfl, h_1⟩ := hw
  have G : zS T A s.heap s [[(x, .inr (10, [.ref t0, .ref ia, .ref im, .ref rd, .ref po, .ref co, .ref tr, .ref wa, .ref wb, .ref fi, .ref cd]))], [(t0, .inr (8, [.ref a1p, .int 0, .int 0, .int (-1), .ref a2p, .ref a3p, .ref a4p, .ref a5p]))], [(a2p, .inl (T.2 0, 3, .inl (fun _ => 0)))]] _ _ := G
  subst h_1
  refine lv_astore_nN (lv' := [(3, .null), (0, .ref x), (1, .int p1), (2, .int p2)]) hx hb dX11_back_8 rfl hl (by decide) rfl (fun ls hl => ?_)
  refine lv_aload_nN hx hb dX11_back_9 rfl (lv_at hl 0 rfl) ?_
  refine lv_ifnullN (tgt := 21) hx hb dX11_back_10 (by decide) ?_
  refine lv_iconst (v := (-1)) hx hb dX11_back_21 (by decide) ?_
  have G := G.sub (bs' := []) [] rfl
  exact z_iret C hr hlocks G (Nat.le_of_ble_eq_true rfl) (Nat.le_of_ble_eq_true rfl) dX11_back_22 ⟨rfl, rfl⟩
set_option maxHeartbeats 4000000 in
set_option maxRecDepth 100000 in
/-- keys: on a new object -/
theorem c_x_keys (l : Launch) (T : zTy) (x : Nat) (t0 : Nat) (ia : Nat) (im : Nat) (rd : Nat) (po : Nat) (co : Nat) (tr : Nat) (wa : Nat) (wb : Nat) (fi : Nat) (cd : Nat) (a1p : Nat) (a2p : Nat) (a3p : Nat) (a4p : Nat) (a5p : Nat) (p1 : Int32) (p2 : Int32) (p3 : Int32) : zMi l T yX11_keys cX11_keys 9 (some .int) 5 0 0 [.ref x, .int p1, .int p2, .int p3] [[(x, .inr (10, [.ref t0, .ref ia, .ref im, .ref rd, .ref po, .ref co, .ref tr, .ref wa, .ref wb, .ref fi, .ref cd]))], [(t0, .inr (8, [.ref a1p, .int 0, .int 0, .int (-1), .ref a2p, .ref a3p, .ref a4p, .ref a5p]))], [(a2p, .inl (T.2 0, 3, .inl (fun _ => 0)))]] (fun (r : Int32) bs => bs = [] ∧ r = (-2)) := by
  refine zMi_of (own := RX11) (by decide) rfl (Nat.le_of_ble_eq_true rfl) ?_
  intro p e s m args below meth c A ls C hr hlocks hnm hAe G hl
  have hx := C.1
  have hb := C.2.1
  have hl : lv_has ls 9 [(0, .ref x), (1, .int p1), (2, .int p2), (3, .int p3)] := hl
  refine lv_aload_n hx hb dX11_keys_0 rfl (lv_at hl 0 rfl) ?_
  refine z_get C G clX11 0 rfl 0 (by decide) m_fl_RX11_10 rfl dX11_keys_1 ?_
  refine lv_iload_n hx hb dX11_keys_4 rfl (lv_at hl 1 rfl) ?_
  refine z_Vq (bc := [[(t0, .inr (8, [.ref a1p, .int 0, .int 0, .int (-1), .ref a2p, .ref a3p, .ref a4p, .ref a5p]))], [(a2p, .inl (T.2 0, 3, .inl (fun _ => 0)))]]) (br := [[(x, .inr (10, [.ref t0, .ref ia, .ref im, .ref rd, .ref po, .ref co, .ref tr, .ref wa, .ref wb, .ref fi, .ref cd]))]]) (As := [.int p1]) (rest := []) C G (c_landAt0 l T t0 a1p a2p a3p a4p a5p 0 0 (-1) p1) (kV_RX11_121 C.2.2.2.2 (Nat.le_of_ble_eq_true rfl) (Nat.le_of_ble_eq_true rfl)) [1, 2] [0] rfl rfl (ci := 8) (qc := (RX9, TX9, 8)) rfl rfl (List.mem_flatten.mpr ⟨_, List.mem_of_getElem? (i := 0) rfl, List.mem_cons_self⟩) rfl rfl hl.1 dX11_keys_5 (Nat.le_of_ble_eq_true rfl) (Nat.le_of_ble_eq_true rfl) (fun r_2 b1 H locs hw G => ?_)
  obtain ⟨rfl, h_1⟩ := hw
  have G : zS T A s.heap s [[(x, .inr (10, [.ref t0, .ref ia, .ref im, .ref rd, .ref po, .ref co, .ref tr, .ref wa, .ref wb, .ref fi, .ref cd]))], [(t0, .inr (8, [.ref a1p, .int 0, .int 0, .int (-1), .ref a2p, .ref a3p, .ref a4p, .ref a5p]))], [(a2p, .inl (T.2 0, 3, .inl (fun _ => 0)))]] _ _ := G
  subst h_1
  refine lv_astoreN (lv' := [(4, .null), (0, .ref x), (1, .int p1), (2, .int p2), (3, .int p3)]) hx hb dX11_keys_8 hl (by decide) rfl (fun ls hl => ?_)
  refine lv_aloadN hx hb dX11_keys_10 (lv_at hl 0 rfl) ?_
  refine lv_ifnullN (tgt := 24) hx hb dX11_keys_12 (by decide) ?_
  refine lv_bipush (v := (-2)) hx hb dX11_keys_24 (by decide) ?_
  have G := G.sub (bs' := []) [] rfl
  exact z_iret C hr hlocks G (Nat.le_of_ble_eq_true rfl) (Nat.le_of_ble_eq_true rfl) dX11_keys_26 ⟨rfl, rfl⟩
set_option maxHeartbeats 4000000 in
set_option maxRecDepth 100000 in
/-- after: on a new object -/
theorem c_x_after (l : Launch) (T : zTy) (x : Nat) (t0 : Nat) (ia : Nat) (im : Nat) (rd : Nat) (po : Nat) (co : Nat) (tr : Nat) (wa : Nat) (wb : Nat) (fi : Nat) (cd : Nat) (a1p : Nat) (a2p : Nat) (a3p : Nat) (a4p : Nat) (a5p : Nat) (p1 : Int32) (p2 : Int32) (p3 : Int32) : zMi l T yX11_after cX11_after 6 (some .int) 5 0 0 [.ref x, .int p1, .int p2, .int p3] [[(x, .inr (10, [.ref t0, .ref ia, .ref im, .ref rd, .ref po, .ref co, .ref tr, .ref wa, .ref wb, .ref fi, .ref cd]))], [(t0, .inr (8, [.ref a1p, .int 0, .int 0, .int (-1), .ref a2p, .ref a3p, .ref a4p, .ref a5p]))], [(a2p, .inl (T.2 0, 3, .inl (fun _ => 0)))]] (fun (r : Int32) bs => bs = [] ∧ r = (-2)) := by
  refine zMi_of (own := RX11) (by decide) rfl (Nat.le_of_ble_eq_true rfl) ?_
  intro p e s m args below meth c A ls C hr hlocks hnm hAe G hl
  have hx := C.1
  have hb := C.2.1
  have hl : lv_has ls 6 [(0, .ref x), (1, .int p1), (2, .int p2), (3, .int p3)] := hl
  refine lv_aload_n hx hb dX11_after_0 rfl (lv_at hl 0 rfl) ?_
  refine z_get C G clX11 0 rfl 0 (by decide) m_fl_RX11_10 rfl dX11_after_1 ?_
  refine lv_iload_n hx hb dX11_after_4 rfl (lv_at hl 1 rfl) ?_
  refine z_Vq (bc := [[(t0, .inr (8, [.ref a1p, .int 0, .int 0, .int (-1), .ref a2p, .ref a3p, .ref a4p, .ref a5p]))], [(a2p, .inl (T.2 0, 3, .inl (fun _ => 0)))]]) (br := [[(x, .inr (10, [.ref t0, .ref ia, .ref im, .ref rd, .ref po, .ref co, .ref tr, .ref wa, .ref wb, .ref fi, .ref cd]))]]) (As := [.int p1]) (rest := []) C G (c_landAt0 l T t0 a1p a2p a3p a4p a5p 0 0 (-1) p1) (kV_RX11_121 C.2.2.2.2 (Nat.le_of_ble_eq_true rfl) (Nat.le_of_ble_eq_true rfl)) [1, 2] [0] rfl rfl (ci := 8) (qc := (RX9, TX9, 8)) rfl rfl (List.mem_flatten.mpr ⟨_, List.mem_of_getElem? (i := 0) rfl, List.mem_cons_self⟩) rfl rfl hl.1 dX11_after_5 (Nat.le_of_ble_eq_true rfl) (Nat.le_of_ble_eq_true rfl) (fun r_2 b1 H locs hw G => ?_)
  obtain ⟨rfl, h_1⟩ := hw
  have G : zS T A s.heap s [[(x, .inr (10, [.ref t0, .ref ia, .ref im, .ref rd, .ref po, .ref co, .ref tr, .ref wa, .ref wb, .ref fi, .ref cd]))], [(t0, .inr (8, [.ref a1p, .int 0, .int 0, .int (-1), .ref a2p, .ref a3p, .ref a4p, .ref a5p]))], [(a2p, .inl (T.2 0, 3, .inl (fun _ => 0)))]] _ _ := G
  subst h_1
  refine lv_astoreN (lv' := [(4, .null), (0, .ref x), (1, .int p1), (2, .int p2), (3, .int p3)]) hx hb dX11_after_8 hl (by decide) rfl (fun ls hl => ?_)
  refine lv_aload_n hx hb dX11_after_10 rfl (lv_at hl 1 rfl) ?_
  refine z_get C G clX11 0 rfl 0 (by decide) m_fl_RX11_10 rfl dX11_after_11 ?_
  refine lv_iload_n hx hb dX11_after_14 rfl (lv_at hl 3 rfl) ?_
  refine z_Vq (bc := [[(t0, .inr (8, [.ref a1p, .int 0, .int 0, .int (-1), .ref a2p, .ref a3p, .ref a4p, .ref a5p]))], [(a2p, .inl (T.2 0, 3, .inl (fun _ => 0)))]]) (br := [[(x, .inr (10, [.ref t0, .ref ia, .ref im, .ref rd, .ref po, .ref co, .ref tr, .ref wa, .ref wb, .ref fi, .ref cd]))]]) (As := [.int p2]) (rest := []) C G (c_dayAt0 l T t0 a1p a2p a3p a4p a5p 0 0 (-1) p2) (kV_RX11_130 C.2.2.2.2 (Nat.le_of_ble_eq_true rfl) (Nat.le_of_ble_eq_true rfl)) [1, 2] [0] rfl rfl (ci := 8) (qc := (RX9, TX9, 8)) rfl rfl (List.mem_flatten.mpr ⟨_, List.mem_of_getElem? (i := 0) rfl, List.mem_cons_self⟩) rfl rfl hl.1 dX11_after_15 (Nat.le_of_ble_eq_true rfl) (Nat.le_of_ble_eq_true rfl) (fun r_4 b1 H locs hw G => ?_)
  obtain ⟨rfl, h_3⟩ := hw
  have G : zS T A s.heap s [[(x, .inr (10, [.ref t0, .ref ia, .ref im, .ref rd, .ref po, .ref co, .ref tr, .ref wa, .ref wb, .ref fi, .ref cd]))], [(t0, .inr (8, [.ref a1p, .int 0, .int 0, .int (-1), .ref a2p, .ref a3p, .ref a4p, .ref a5p]))], [(a2p, .inl (T.2 0, 3, .inl (fun _ => 0)))]] _ _ := G
  subst h_3
  refine lv_astoreN (lv' := [(5, .null), (4, .null), (0, .ref x), (1, .int p1), (2, .int p2), (3, .int p3)]) hx hb dX11_after_18 hl (by decide) rfl (fun ls hl => ?_)
  refine lv_aloadN hx hb dX11_after_20 (lv_at hl 1 rfl) ?_
  refine lv_ifnullN (tgt := 30) hx hb dX11_after_22 (by decide) ?_
  refine lv_bipush (v := (-2)) hx hb dX11_after_30 (by decide) ?_
  have G := G.sub (bs' := []) [] rfl
  exact z_iret C hr hlocks G (Nat.le_of_ble_eq_true rfl) (Nat.le_of_ble_eq_true rfl) dX11_after_32 ⟨rfl, rfl⟩
set_option maxHeartbeats 4000000 in
set_option maxRecDepth 100000 in
/-- odds: on a new object -/
theorem c_x_odds (l : Launch) (T : zTy) (x : Nat) (t0 : Nat) (ia : Nat) (im : Nat) (rd : Nat) (po : Nat) (co : Nat) (tr : Nat) (wa : Nat) (wb : Nat) (fi : Nat) (cd : Nat) (a1p : Nat) (a2p : Nat) (a3p : Nat) (a4p : Nat) (a5p : Nat) (p1 : Int32) (p2 : Int32) (p3 : Int32) (p4 : Int32) (p5 : Int32) : zMi l T yX11_odds cX11_odds 8 (some .int) 5 0 0 [.ref x, .int p1, .int p2, .int p3, .int p4, .int p5] [[(x, .inr (10, [.ref t0, .ref ia, .ref im, .ref rd, .ref po, .ref co, .ref tr, .ref wa, .ref wb, .ref fi, .ref cd]))], [(t0, .inr (8, [.ref a1p, .int 0, .int 0, .int (-1), .ref a2p, .ref a3p, .ref a4p, .ref a5p]))], [(a2p, .inl (T.2 0, 3, .inl (fun _ => 0)))]] (fun (r : Int32) bs => bs = [] ∧ r = (-1)) := by
  refine zMi_of (own := RX11) (by decide) rfl (Nat.le_of_ble_eq_true rfl) ?_
  intro p e s m args below meth c A ls C hr hlocks hnm hAe G hl
  have hx := C.1
  have hb := C.2.1
  have hl : lv_has ls 8 [(0, .ref x), (1, .int p1), (2, .int p2), (3, .int p3), (4, .int p4), (5, .int p5)] := hl
  refine lv_aload_n hx hb dX11_odds_0 rfl (lv_at hl 0 rfl) ?_
  refine z_get C G clX11 0 rfl 0 (by decide) m_fl_RX11_10 rfl dX11_odds_1 ?_
  refine lv_iload_n hx hb dX11_odds_4 rfl (lv_at hl 1 rfl) ?_
  refine z_Vq (bc := [[(t0, .inr (8, [.ref a1p, .int 0, .int 0, .int (-1), .ref a2p, .ref a3p, .ref a4p, .ref a5p]))], [(a2p, .inl (T.2 0, 3, .inl (fun _ => 0)))]]) (br := [[(x, .inr (10, [.ref t0, .ref ia, .ref im, .ref rd, .ref po, .ref co, .ref tr, .ref wa, .ref wb, .ref fi, .ref cd]))]]) (As := [.int p1]) (rest := []) C G (c_landAt0 l T t0 a1p a2p a3p a4p a5p 0 0 (-1) p1) (kV_RX11_121 C.2.2.2.2 (Nat.le_of_ble_eq_true rfl) (Nat.le_of_ble_eq_true rfl)) [1, 2] [0] rfl rfl (ci := 8) (qc := (RX9, TX9, 8)) rfl rfl (List.mem_flatten.mpr ⟨_, List.mem_of_getElem? (i := 0) rfl, List.mem_cons_self⟩) rfl rfl hl.1 dX11_odds_5 (Nat.le_of_ble_eq_true rfl) (Nat.le_of_ble_eq_true rfl) (fun r_2 b1 H locs hw G => ?_)
  obtain ⟨rfl, h_1⟩ := hw
  have G : zS T A s.heap s [[(x, .inr (10, [.ref t0, .ref ia, .ref im, .ref rd, .ref po, .ref co, .ref tr, .ref wa, .ref wb, .ref fi, .ref cd]))], [(t0, .inr (8, [.ref a1p, .int 0, .int 0, .int (-1), .ref a2p, .ref a3p, .ref a4p, .ref a5p]))], [(a2p, .inl (T.2 0, 3, .inl (fun _ => 0)))]] _ _ := G
  subst h_1
  refine lv_astoreN (lv' := [(6, .null), (0, .ref x), (1, .int p1), (2, .int p2), (3, .int p3), (4, .int p4), (5, .int p5)]) hx hb dX11_odds_8 hl (by decide) rfl (fun ls hl => ?_)
  refine lv_aload_n hx hb dX11_odds_10 rfl (lv_at hl 1 rfl) ?_
  refine lv_iload_n hx hb dX11_odds_11 rfl (lv_at hl 2 rfl) ?_
  refine lv_iload_n hx hb dX11_odds_12 rfl (lv_at hl 3 rfl) ?_
  refine z_Vi (bc := [[(x, .inr (10, [.ref t0, .ref ia, .ref im, .ref rd, .ref po, .ref co, .ref tr, .ref wa, .ref wb, .ref fi, .ref cd]))], [(t0, .inr (8, [.ref a1p, .int 0, .int 0, .int (-1), .ref a2p, .ref a3p, .ref a4p, .ref a5p]))], [(a2p, .inl (T.2 0, 3, .inl (fun _ => 0)))]]) (br := []) (As := [.int p1, .int p2]) (rest := []) C G (c_x_fit l T x t0 ia im rd po co tr wa wb fi cd a1p a2p a3p a4p a5p p1 p2) (kV_RX11_302 C.2.2.2.2 (Nat.le_of_ble_eq_true rfl) (Nat.le_of_ble_eq_true rfl)) [0, 1, 2] [] rfl rfl (ci := 10) (qc := (RX11, TX11, 11)) rfl rfl (List.mem_flatten.mpr ⟨_, List.mem_of_getElem? (i := 0) rfl, List.mem_cons_self⟩) rfl rfl hl.1 dX11_odds_13 (Nat.le_of_ble_eq_true rfl) (Nat.le_of_ble_eq_true rfl) (fun r_4 b1 H locs hw G => ?_)
  obtain ⟨rfl, h_3⟩ := hw
  have G : zS T A s.heap s [[(x, .inr (10, [.ref t0, .ref ia, .ref im, .ref rd, .ref po, .ref co, .ref tr, .ref wa, .ref wb, .ref fi, .ref cd]))], [(t0, .inr (8, [.ref a1p, .int 0, .int 0, .int (-1), .ref a2p, .ref a3p, .ref a4p, .ref a5p]))], [(a2p, .inl (T.2 0, 3, .inl (fun _ => 0)))]] _ _ := G
  subst h_3
  refine lv_if_eq (tgt := 40) hx hb dX11_odds_16 (by decide) (fun _ => ?_) (fun q => absurd (by decide) q)
  refine lv_iconst (v := (-1)) hx hb dX11_odds_40 (by decide) ?_
  have G := G.sub (bs' := []) [] rfl
  exact z_iret C hr hlocks G (Nat.le_of_ble_eq_true rfl) (Nat.le_of_ble_eq_true rfl) dX11_odds_41 ⟨rfl, rfl⟩
set_option maxHeartbeats 4000000 in
set_option maxRecDepth 100000 in
/-- least: on a new object -/
theorem c_x_least (l : Launch) (T : zTy) (x : Nat) (t0 : Nat) (ia : Nat) (im : Nat) (rd : Nat) (po : Nat) (co : Nat) (tr : Nat) (wa : Nat) (wb : Nat) (fi : Nat) (cd : Nat) (a1p : Nat) (a2p : Nat) (a3p : Nat) (a4p : Nat) (a5p : Nat) (p1 : Int32) (p2 : Int32) (p3 : Int32) : zMi l T yX11_least cX11_least 4 (some .int) 5 0 0 [.ref x, .int p1, .int p2, .int p3] [[(x, .inr (10, [.ref t0, .ref ia, .ref im, .ref rd, .ref po, .ref co, .ref tr, .ref wa, .ref wb, .ref fi, .ref cd]))], [(t0, .inr (8, [.ref a1p, .int 0, .int 0, .int (-1), .ref a2p, .ref a3p, .ref a4p, .ref a5p]))], [(a2p, .inl (T.2 0, 3, .inl (fun _ => 0)))]] (fun (r : Int32) bs => bs = [] ∧ r = (-1)) := by
  refine zMi_of (own := RX11) (by decide) rfl (Nat.le_of_ble_eq_true rfl) ?_
  intro p e s m args below meth c A ls C hr hlocks hnm hAe G hl
  have hx := C.1
  have hb := C.2.1
  have hl : lv_has ls 4 [(0, .ref x), (1, .int p1), (2, .int p2), (3, .int p3)] := hl
  refine lv_aload_n hx hb dX11_least_0 rfl (lv_at hl 0 rfl) ?_
  refine lv_iload_n hx hb dX11_least_1 rfl (lv_at hl 1 rfl) ?_
  refine lv_iload_n hx hb dX11_least_2 rfl (lv_at hl 2 rfl) ?_
  refine z_Vi (bc := [[(x, .inr (10, [.ref t0, .ref ia, .ref im, .ref rd, .ref po, .ref co, .ref tr, .ref wa, .ref wb, .ref fi, .ref cd]))], [(t0, .inr (8, [.ref a1p, .int 0, .int 0, .int (-1), .ref a2p, .ref a3p, .ref a4p, .ref a5p]))], [(a2p, .inl (T.2 0, 3, .inl (fun _ => 0)))]]) (br := []) (As := [.int p1, .int p2]) (rest := []) C G (c_x_fit l T x t0 ia im rd po co tr wa wb fi cd a1p a2p a3p a4p a5p p1 p2) (kV_RX11_302 C.2.2.2.2 (Nat.le_of_ble_eq_true rfl) (Nat.le_of_ble_eq_true rfl)) [0, 1, 2] [] rfl rfl (ci := 10) (qc := (RX11, TX11, 11)) rfl rfl (List.mem_flatten.mpr ⟨_, List.mem_of_getElem? (i := 0) rfl, List.mem_cons_self⟩) rfl rfl hl.1 dX11_least_3 (Nat.le_of_ble_eq_true rfl) (Nat.le_of_ble_eq_true rfl) (fun r_2 b1 H locs hw G => ?_)
  obtain ⟨rfl, h_1⟩ := hw
  have G : zS T A s.heap s [[(x, .inr (10, [.ref t0, .ref ia, .ref im, .ref rd, .ref po, .ref co, .ref tr, .ref wa, .ref wb, .ref fi, .ref cd]))], [(t0, .inr (8, [.ref a1p, .int 0, .int 0, .int (-1), .ref a2p, .ref a3p, .ref a4p, .ref a5p]))], [(a2p, .inl (T.2 0, 3, .inl (fun _ => 0)))]] _ _ := G
  subst h_1
  refine lv_if_eq (tgt := 19) hx hb dX11_least_6 (by decide) (fun _ => ?_) (fun q => absurd (by decide) q)
  refine lv_iconst (v := (-1)) hx hb dX11_least_19 (by decide) ?_
  have G := G.sub (bs' := []) [] rfl
  exact z_iret C hr hlocks G (Nat.le_of_ble_eq_true rfl) (Nat.le_of_ble_eq_true rfl) dX11_least_20 ⟨rfl, rfl⟩
end
section
theorem m_ml_RX11_1 : Cond.methodLink RX11 1 objectInit ∈ zT := zmem1 zsub_1 25 (by decide +kernel) (by decide +kernel)
theorem m_cl_RX11_7 : Cond.classLink RX11 7 RX9 ∈ zT := zmem1 zsub_1 28 (by decide +kernel) (by decide +kernel)
theorem m_in_RX9 : Cond.instantiable RX9 8 ∈ zT := zmem1 zsub_1 29 (by decide +kernel) (by decide +kernel)
theorem m_co_X9_init : Cond.code yX9_init cX9_init 1 none ∈ zT := zmem1 zsub_1 32 (by decide +kernel) (by decide +kernel)
theorem m_im_X9_init : Cond.instanceMethod yX9_init ∈ zT := zmem1 zsub_1 31 (by decide +kernel) (by decide +kernel)
theorem m_ar_boolean : Cond.arrayClass .boolean ∈ zT := zmem1 zsub_1 216 (by decide +kernel) (by decide +kernel)
theorem m_cl_RX11_24 : Cond.classLink RX11 24 RX7 ∈ zT := zmem1 zsub_1 159 (by decide +kernel) (by decide +kernel)
theorem m_in_RX7 : Cond.instantiable RX7 13 ∈ zT := zmem1 zsub_1 160 (by decide +kernel) (by decide +kernel)
theorem m_co_X7_init : Cond.code yX7_init cX7_init 1 none ∈ zT := zmem1 zsub_1 163 (by decide +kernel) (by decide +kernel)
theorem m_im_X7_init : Cond.instanceMethod yX7_init ∈ zT := zmem1 zsub_1 162 (by decide +kernel) (by decide +kernel)
theorem m_cl_RX11_31 : Cond.classLink RX11 31 RX6 ∈ zT := zmem1 zsub_1 217 (by decide +kernel) (by decide +kernel)
theorem m_fl_RX11_34 : Cond.fieldLink RX11 34 (TX11 4).1 (TX11 4).2.1 (TX11 4).2.2.1 ∈ zT := zmem1 zsub_2 180 (by decide +kernel) (by decide +kernel)
theorem m_cl_RX11_38 : Cond.classLink RX11 38 RX1 ∈ zT := zmem1 zsub_2 12 (by decide +kernel) (by decide +kernel)
theorem m_in_RX1 : Cond.instantiable RX1 11 ∈ zT := zmem1 zsub_2 13 (by decide +kernel) (by decide +kernel)
theorem m_ii_RX1 : Cond.initialized RX1 ∈ zT := zmem1 zsub_1 8 (by decide +kernel) (by decide +kernel)
theorem m_co_X1_init : Cond.code yX1_init cX1_init 1 none ∈ zT := zmem1 zsub_2 16 (by decide +kernel) (by decide +kernel)
theorem m_im_X1_init : Cond.instanceMethod yX1_init ∈ zT := zmem1 zsub_2 15 (by decide +kernel) (by decide +kernel)
theorem m_fl_RX11_41 : Cond.fieldLink RX11 41 (TX11 5).1 (TX11 5).2.1 (TX11 5).2.2.1 ∈ zT := zmem1 zsub_2 181 (by decide +kernel) (by decide +kernel)
theorem m_cl_RX11_45 : Cond.classLink RX11 45 RX10 ∈ zT := zmem1 zsub_2 59 (by decide +kernel) (by decide +kernel)
theorem m_in_RX10 : Cond.instantiable RX10 8 ∈ zT := zmem1 zsub_2 60 (by decide +kernel) (by decide +kernel)
theorem m_ii_RX10 : Cond.initialized RX10 ∈ zT := zmem1 zsub_1 9 (by decide +kernel) (by decide +kernel)
theorem m_co_X10_init : Cond.code yX10_init cX10_init 1 none ∈ zT := zmem1 zsub_2 63 (by decide +kernel) (by decide +kernel)
theorem m_im_X10_init : Cond.instanceMethod yX10_init ∈ zT := zmem1 zsub_2 62 (by decide +kernel) (by decide +kernel)
theorem m_fl_RX11_48 : Cond.fieldLink RX11 48 (TX11 6).1 (TX11 6).2.1 (TX11 6).2.2.1 ∈ zT := zmem1 zsub_2 182 (by decide +kernel) (by decide +kernel)
theorem m_cl_RX11_52 : Cond.classLink RX11 52 RX0 ∈ zT := zmem1 zsub_2 97 (by decide +kernel) (by decide +kernel)
theorem m_in_RX0 : Cond.instantiable RX0 10 ∈ zT := zmem1 zsub_2 98 (by decide +kernel) (by decide +kernel)
theorem m_ii_RX0 : Cond.initialized RX0 ∈ zT := zmem1 zsub_1 10 (by decide +kernel) (by decide +kernel)
theorem m_co_X0_init : Cond.code yX0_init cX0_init 1 none ∈ zT := zmem1 zsub_2 101 (by decide +kernel) (by decide +kernel)
theorem m_im_X0_init : Cond.instanceMethod yX0_init ∈ zT := zmem1 zsub_2 100 (by decide +kernel) (by decide +kernel)
theorem m_cl_RX11_62 : Cond.classLink RX11 62 RX3 ∈ zT := zmem1 zsub_2 140 (by decide +kernel) (by decide +kernel)
theorem m_in_RX3 : Cond.instantiable RX3 8 ∈ zT := zmem1 zsub_2 141 (by decide +kernel) (by decide +kernel)
theorem m_ii_RX3 : Cond.initialized RX3 ∈ zT := zmem1 zsub_1 11 (by decide +kernel) (by decide +kernel)
theorem m_co_X3_init : Cond.code yX3_init cX3_init 1 none ∈ zT := zmem1 zsub_2 144 (by decide +kernel) (by decide +kernel)
theorem m_im_X3_init : Cond.instanceMethod yX3_init ∈ zT := zmem1 zsub_2 143 (by decide +kernel) (by decide +kernel)
theorem m_fl_RX11_69 : Cond.fieldLink RX11 69 (TX11 10).1 (TX11 10).2.1 (TX11 10).2.2.1 ∈ zT := zmem1 zsub_2 186 (by decide +kernel) (by decide +kernel)
theorem kJ_RX11_9 {R : Room} {s : State} {args : Array Value} {d mc ms : Nat} (hX : zX s) (hts : ∀ w ∈ zT, w.before args s = true) (h1 : d + 1 ≤ R.frames) (h2 : 8 + (1 + 11) + 40 * d ≤ R.locals) : va_CN R s args RX11 9 yX9_init RX11 cX9_init 1 none (zW yX9_init cX9_init 1 none) (zR d mc ms) mc ms 0 ∧ yX9_init.name = "<init>" ∧ (Cond.instanceMethod yX9_init).before args s = true := z_cwJ hts m_co_X9_init (hX.1 (RX11, 9, yX9_init, RX11) (List.mem_of_getElem? (i := 0) rfl)) m_im_X9_init m_ii_RX9 rfl (by decide +kernel) h1 h2
theorem kJ_RX11_26 {R : Room} {s : State} {args : Array Value} {d mc ms : Nat} (hX : zX s) (hts : ∀ w ∈ zT, w.before args s = true) (h1 : d + 1 ≤ R.frames) (h2 : 8 + (1 + 11) + 40 * d ≤ R.locals) : va_CN R s args RX11 26 yX7_init RX11 cX7_init 1 none (zW yX7_init cX7_init 1 none) (zR d mc ms) mc ms 0 ∧ yX7_init.name = "<init>" ∧ (Cond.instanceMethod yX7_init).before args s = true := z_cwJ hts m_co_X7_init (hX.1 (RX11, 26, yX7_init, RX11) (List.mem_of_getElem? (i := 1) rfl)) m_im_X7_init m_ii_RX7 rfl (by decide +kernel) h1 h2
theorem kJ_RX11_33 {R : Room} {s : State} {args : Array Value} {d mc ms : Nat} (hX : zX s) (hts : ∀ w ∈ zT, w.before args s = true) (h1 : d + 1 ≤ R.frames) (h2 : 8 + (1 + 11) + 40 * d ≤ R.locals) : va_CN R s args RX11 33 yX6_init RX11 cX6_init 1 none (zW yX6_init cX6_init 1 none) (zR d mc ms) mc ms 0 ∧ yX6_init.name = "<init>" ∧ (Cond.instanceMethod yX6_init).before args s = true := z_cwJ hts m_co_X6_init (hX.1 (RX11, 33, yX6_init, RX11) (List.mem_of_getElem? (i := 2) rfl)) m_im_X6_init m_ii_RX6 rfl (by decide +kernel) h1 h2
theorem kJ_RX11_40 {R : Room} {s : State} {args : Array Value} {d mc ms : Nat} (hX : zX s) (hts : ∀ w ∈ zT, w.before args s = true) (h1 : d + 1 ≤ R.frames) (h2 : 8 + (1 + 11) + 40 * d ≤ R.locals) : va_CN R s args RX11 40 yX1_init RX11 cX1_init 1 none (zW yX1_init cX1_init 1 none) (zR d mc ms) mc ms 0 ∧ yX1_init.name = "<init>" ∧ (Cond.instanceMethod yX1_init).before args s = true := z_cwJ hts m_co_X1_init (hX.1 (RX11, 40, yX1_init, RX11) (List.mem_of_getElem? (i := 3) rfl)) m_im_X1_init m_ii_RX1 rfl (by decide +kernel) h1 h2
theorem kJ_RX11_47 {R : Room} {s : State} {args : Array Value} {d mc ms : Nat} (hX : zX s) (hts : ∀ w ∈ zT, w.before args s = true) (h1 : d + 1 ≤ R.frames) (h2 : 8 + (1 + 11) + 40 * d ≤ R.locals) : va_CN R s args RX11 47 yX10_init RX11 cX10_init 1 none (zW yX10_init cX10_init 1 none) (zR d mc ms) mc ms 0 ∧ yX10_init.name = "<init>" ∧ (Cond.instanceMethod yX10_init).before args s = true := z_cwJ hts m_co_X10_init (hX.1 (RX11, 47, yX10_init, RX11) (List.mem_of_getElem? (i := 4) rfl)) m_im_X10_init m_ii_RX10 rfl (by decide +kernel) h1 h2
theorem kJ_RX11_54 {R : Room} {s : State} {args : Array Value} {d mc ms : Nat} (hX : zX s) (hts : ∀ w ∈ zT, w.before args s = true) (h1 : d + 1 ≤ R.frames) (h2 : 8 + (1 + 11) + 40 * d ≤ R.locals) : va_CN R s args RX11 54 yX0_init RX11 cX0_init 1 none (zW yX0_init cX0_init 1 none) (zR d mc ms) mc ms 0 ∧ yX0_init.name = "<init>" ∧ (Cond.instanceMethod yX0_init).before args s = true := z_cwJ hts m_co_X0_init (hX.1 (RX11, 54, yX0_init, RX11) (List.mem_of_getElem? (i := 5) rfl)) m_im_X0_init m_ii_RX0 rfl (by decide +kernel) h1 h2
theorem kJ_RX11_64 {R : Room} {s : State} {args : Array Value} {d mc ms : Nat} (hX : zX s) (hts : ∀ w ∈ zT, w.before args s = true) (h1 : d + 1 ≤ R.frames) (h2 : 8 + (1 + 11) + 40 * d ≤ R.locals) : va_CN R s args RX11 64 yX3_init RX11 cX3_init 1 none (zW yX3_init cX3_init 1 none) (zR d mc ms) mc ms 0 ∧ yX3_init.name = "<init>" ∧ (Cond.instanceMethod yX3_init).before args s = true := z_cwJ hts m_co_X3_init (hX.1 (RX11, 64, yX3_init, RX11) (List.mem_of_getElem? (i := 6) rfl)) m_im_X3_init m_ii_RX3 rfl (by decide +kernel) h1 h2
theorem dX11_init_0 : decode cX11_init 0 = .ok (.aload_n 0, 1) := by decide +kernel
theorem dX11_init_1 : decode cX11_init 1 = .ok (.invokespecial 1, 3) := by decide +kernel
theorem dX11_init_4 : decode cX11_init 4 = .ok (.aload_n 0, 1) := by decide +kernel
theorem dX11_init_5 : decode cX11_init 5 = .ok (.new 7, 3) := by decide +kernel
theorem dX11_init_8 : decode cX11_init 8 = .ok (.dup, 1) := by decide +kernel
theorem dX11_init_9 : decode cX11_init 9 = .ok (.invokespecial 9, 3) := by decide +kernel
theorem dX11_init_12 : decode cX11_init 12 = .ok (.putfield 10, 3) := by decide +kernel
theorem dX11_init_15 : decode cX11_init 15 = .ok (.aload_n 0, 1) := by decide +kernel
theorem dX11_init_16 : decode cX11_init 16 = .ok (.iconst 3, 1) := by decide +kernel
theorem dX11_init_17 : decode cX11_init 17 = .ok (.anewarray 7, 3) := by decide +kernel
theorem dX11_init_20 : decode cX11_init 20 = .ok (.dup, 1) := by decide +kernel
theorem dX11_init_21 : decode cX11_init 21 = .ok (.iconst 0, 1) := by decide +kernel
theorem dX11_init_22 : decode cX11_init 22 = .ok (.new 7, 3) := by decide +kernel
theorem dX11_init_25 : decode cX11_init 25 = .ok (.dup, 1) := by decide +kernel
theorem dX11_init_26 : decode cX11_init 26 = .ok (.invokespecial 9, 3) := by decide +kernel
theorem dX11_init_29 : decode cX11_init 29 = .ok (.aastore, 1) := by decide +kernel
theorem dX11_init_30 : decode cX11_init 30 = .ok (.dup, 1) := by decide +kernel
theorem dX11_init_31 : decode cX11_init 31 = .ok (.iconst 1, 1) := by decide +kernel
theorem dX11_init_32 : decode cX11_init 32 = .ok (.new 7, 3) := by decide +kernel
theorem dX11_init_35 : decode cX11_init 35 = .ok (.dup, 1) := by decide +kernel
theorem dX11_init_36 : decode cX11_init 36 = .ok (.invokespecial 9, 3) := by decide +kernel
theorem dX11_init_39 : decode cX11_init 39 = .ok (.aastore, 1) := by decide +kernel
theorem dX11_init_40 : decode cX11_init 40 = .ok (.dup, 1) := by decide +kernel
theorem dX11_init_41 : decode cX11_init 41 = .ok (.iconst 2, 1) := by decide +kernel
theorem dX11_init_42 : decode cX11_init 42 = .ok (.new 7, 3) := by decide +kernel
theorem dX11_init_45 : decode cX11_init 45 = .ok (.dup, 1) := by decide +kernel
theorem dX11_init_46 : decode cX11_init 46 = .ok (.invokespecial 9, 3) := by decide +kernel
theorem dX11_init_49 : decode cX11_init 49 = .ok (.aastore, 1) := by decide +kernel
theorem dX11_init_50 : decode cX11_init 50 = .ok (.putfield 16, 3) := by decide +kernel
theorem dX11_init_53 : decode cX11_init 53 = .ok (.aload_n 0, 1) := by decide +kernel
theorem dX11_init_54 : decode cX11_init 54 = .ok (.iconst 3, 1) := by decide +kernel
theorem dX11_init_55 : decode cX11_init 55 = .ok (.newarray .boolean, 2) := by decide +kernel
theorem dX11_init_57 : decode cX11_init 57 = .ok (.putfield 20, 3) := by decide +kernel
theorem dX11_init_60 : decode cX11_init 60 = .ok (.aload_n 0, 1) := by decide +kernel
theorem dX11_init_61 : decode cX11_init 61 = .ok (.new 24, 3) := by decide +kernel
theorem dX11_init_64 : decode cX11_init 64 = .ok (.dup, 1) := by decide +kernel
theorem dX11_init_65 : decode cX11_init 65 = .ok (.invokespecial 26, 3) := by decide +kernel
theorem dX11_init_68 : decode cX11_init 68 = .ok (.putfield 27, 3) := by decide +kernel
theorem dX11_init_71 : decode cX11_init 71 = .ok (.aload_n 0, 1) := by decide +kernel
theorem dX11_init_72 : decode cX11_init 72 = .ok (.new 31, 3) := by decide +kernel
theorem dX11_init_75 : decode cX11_init 75 = .ok (.dup, 1) := by decide +kernel
theorem dX11_init_76 : decode cX11_init 76 = .ok (.invokespecial 33, 3) := by decide +kernel
theorem dX11_init_79 : decode cX11_init 79 = .ok (.putfield 34, 3) := by decide +kernel
theorem dX11_init_82 : decode cX11_init 82 = .ok (.aload_n 0, 1) := by decide +kernel
theorem dX11_init_83 : decode cX11_init 83 = .ok (.new 38, 3) := by decide +kernel
theorem dX11_init_86 : decode cX11_init 86 = .ok (.dup, 1) := by decide +kernel
theorem dX11_init_87 : decode cX11_init 87 = .ok (.invokespecial 40, 3) := by decide +kernel
theorem dX11_init_90 : decode cX11_init 90 = .ok (.putfield 41, 3) := by decide +kernel
theorem dX11_init_93 : decode cX11_init 93 = .ok (.aload_n 0, 1) := by decide +kernel
theorem dX11_init_94 : decode cX11_init 94 = .ok (.new 45, 3) := by decide +kernel
theorem dX11_init_97 : decode cX11_init 97 = .ok (.dup, 1) := by decide +kernel
theorem dX11_init_98 : decode cX11_init 98 = .ok (.invokespecial 47, 3) := by decide +kernel
theorem dX11_init_101 : decode cX11_init 101 = .ok (.putfield 48, 3) := by decide +kernel
theorem dX11_init_104 : decode cX11_init 104 = .ok (.aload_n 0, 1) := by decide +kernel
theorem dX11_init_105 : decode cX11_init 105 = .ok (.new 52, 3) := by decide +kernel
theorem dX11_init_108 : decode cX11_init 108 = .ok (.dup, 1) := by decide +kernel
theorem dX11_init_109 : decode cX11_init 109 = .ok (.invokespecial 54, 3) := by decide +kernel
theorem dX11_init_112 : decode cX11_init 112 = .ok (.putfield 55, 3) := by decide +kernel
theorem dX11_init_115 : decode cX11_init 115 = .ok (.aload_n 0, 1) := by decide +kernel
theorem dX11_init_116 : decode cX11_init 116 = .ok (.new 52, 3) := by decide +kernel
theorem dX11_init_119 : decode cX11_init 119 = .ok (.dup, 1) := by decide +kernel
theorem dX11_init_120 : decode cX11_init 120 = .ok (.invokespecial 54, 3) := by decide +kernel
theorem dX11_init_123 : decode cX11_init 123 = .ok (.putfield 59, 3) := by decide +kernel
theorem dX11_init_126 : decode cX11_init 126 = .ok (.aload_n 0, 1) := by decide +kernel
theorem dX11_init_127 : decode cX11_init 127 = .ok (.new 62, 3) := by decide +kernel
theorem dX11_init_130 : decode cX11_init 130 = .ok (.dup, 1) := by decide +kernel
theorem dX11_init_131 : decode cX11_init 131 = .ok (.invokespecial 64, 3) := by decide +kernel
theorem dX11_init_134 : decode cX11_init 134 = .ok (.putfield 65, 3) := by decide +kernel
theorem dX11_init_137 : decode cX11_init 137 = .ok (.aload_n 0, 1) := by decide +kernel
theorem dX11_init_138 : decode cX11_init 138 = .ok (.sipush 1000, 3) := by decide +kernel
theorem dX11_init_141 : decode cX11_init 141 = .ok (.newarray .int, 2) := by decide +kernel
theorem dX11_init_143 : decode cX11_init 143 = .ok (.putfield 69, 3) := by decide +kernel
theorem dX11_init_146 : decode cX11_init 146 = .ok (.return_, 1) := by decide +kernel
end
section
set_option maxHeartbeats 4000000 in
set_option maxRecDepth 100000 in
theorem c_x_init (l : Launch) (T : zTy) (x : Nat) : zMv l T yX11_init cX11_init 1 8 201 5797 [.ref x] [[(x, .inr (10, [.null, .null, .null, .null, .null, .null, .null, .null, .null, .null, .null]))]] (fun bs => ∃ (t0 : Nat) (ia : Nat) (im : Nat) (rd : Nat) (po : Nat) (co : Nat) (tr : Nat) (wa : Nat) (wb : Nat) (fi : Nat) (cd : Nat) (a1p : Nat) (a2p : Nat) (a3p : Nat) (a4p : Nat) (a5p : Nat) (f1p : Nat → Int32) (f3p : Nat → Option Nat) (f4p : Nat → Option Nat) (f5p : Nat → Option Nat) (l0p : Nat) (l1p : Nat) (d0p : Nat) (d1p : Nat) (g0p : Nat) (g1p : Nat) (w1p : va_W) (w2p : va_W) (w3p : va_W) (w4p : va_W) (w5p : va_W) (w6p : va_W) (fq : Nat → Option Nat) (i0 : Nat) (i1 : Nat) (i2 : Nat) (u0 : va_W) (u1 : va_W) (u2 : va_W) (v : va_W) (z1 : va_W) (z2 : va_W) (z3 : va_W) (w1 : va_W) (w2 : va_W) (w3 : va_W), bs = [[(x, .inr (10, [.ref t0, .ref ia, .ref im, .ref rd, .ref po, .ref co, .ref tr, .ref wa, .ref wb, .ref fi, .ref cd]))], [(t0, .inr (8, [.ref a1p, .int 0, .int 0, .int (-1), .ref a2p, .ref a3p, .ref a4p, .ref a5p]))], [(a1p, .inl (T.2 1, 600, .inl f1p))], [(a2p, .inl (T.2 0, 3, .inl (fun _ => 0)))], [(a3p, .inl (T.2 3, 2, .inr (.inr (.inr (.inr f3p)))))], [(a4p, .inl (T.2 4, 2, .inr (.inr (.inr (.inr f4p)))))], [(a5p, .inl (T.2 5, 2, .inr (.inr (.inr (.inr f5p)))))], w1p, w2p, w3p, w4p, w5p, w6p, [(ia, .inl (T.2 6, 3, .inr (.inr (.inr (.inr fq)))))], u0, u1, u2, [(im, .inl (T.2 2, 3, .inl (fun _ => 0)))], v, z1, z2, z3, w1, w2, w3, [(cd, .inl (T.2 0, 1000, .inl (fun _ => 0)))]] ∧ bLand T l0p w1p ∧ bLand T l1p w2p ∧ bDay T d0p w3p ∧ bDay T d1p w4p ∧ bLog T g0p w5p ∧ bLog T g1p w6p ∧ f3p 0 = some l0p ∧ f3p 1 = some l1p ∧ f4p 0 = some d0p ∧ f4p 1 = some d1p ∧ f5p 0 = some g0p ∧ f5p 1 = some g1p ∧ fq 0 = some i0 ∧ fq 1 = some i1 ∧ fq 2 = some i2 ∧ bTold T i0 u0 ∧ bTold T i1 u1 ∧ bTold T i2 u2 ∧ bReader T rd v ∧ bPosts T po z1 ∧ bCourse T co z2 ∧ bTrail T tr z3 ∧ bWays T wa w1 ∧ bWays T wb w2 ∧ bFit T fi w3) := by
  refine zMv_of (own := RX11) (by decide) rfl (Nat.le_of_ble_eq_true rfl) ?_
  intro p e s m args below meth c A ls C hr hlocks hnm hAe G hl
  have hx := C.1
  have hb := C.2.1
  have hl : lv_has ls 1 [(0, .ref x)] := hl
  refine lv_aload_n hx hb dX11_init_0 rfl (lv_at hl 0 rfl) ?_
  refine W.objInit hx hb C.2.2.2.1 (C.2.2.2.2 _ m_ml_RX11_1) (C.2.2.2.2 _ m_im_obj) (C.2.2.2.2 _ m_co_obj) rfl (by rw [C.2.2.1]; exact hl.1) rfl dX11_init_1 (Nat.le_of_ble_eq_true rfl) (Nat.le_of_ble_eq_true rfl) ?_
  refine W.eq (g2 := F0 m 4 ls []) rfl ?_
  refine lv_aload_n hx hb dX11_init_4 rfl (lv_at hl 0 rfl) ?_
  refine z_new C G clX9 (fs := [.null, .int 0, .int 0, .int 0, .null, .null, .null, .null]) m_cl_RX11_7 m_in_RX9 m_ii_RX9 (fun j hj => by match j, hj with | 0, _ => rfl | 1, _ => rfl | 2, _ => rfl | 3, _ => rfl | 4, _ => rfl | 5, _ => rfl | 6, _ => rfl | 7, _ => rfl | j + 8, h => exact absurd h (by omega)) (Nat.le_of_ble_eq_true rfl) (Nat.le_of_ble_eq_true rfl) dX11_init_5 (fun q_1 H G => ?_)
  have G : zS T A s.heap s [[(x, .inr (10, [.null, .null, .null, .null, .null, .null, .null, .null, .null, .null, .null]))], [(q_1, .inr (8, [.null, .int 0, .int 0, .int 0, .null, .null, .null, .null]))]] _ _ := G
  refine lv_dup hx hb dX11_init_8 rfl ?_
  refine z_Jv (bc := [[(q_1, .inr (8, [.null, .int 0, .int 0, .int 0, .null, .null, .null, .null]))]]) (br := [[(x, .inr (10, [.null, .null, .null, .null, .null, .null, .null, .null, .null, .null, .null]))]]) (As := []) (rest := [.ref q_1, .ref x]) C G (c_Told_init l T q_1) (kJ_RX11_9 G.2.2.2.2.2 C.2.2.2.2 (Nat.le_of_ble_eq_true rfl) (Nat.le_of_ble_eq_true rfl)) [1] [0] rfl rfl rfl rfl hl.1 dX11_init_9 (Nat.le_of_ble_eq_true rfl) (Nat.le_of_ble_eq_true rfl) (fun b1 H locs hw G => ?_)
  obtain ⟨a1_2, a2_3, a3_4, a4_5, a5_6, f3_7, f4_8, f5_9, l0_10, l1_11, d0_12, d1_13, g0_14, g1_15, w1_16, w2_17, w3_18, w4_19, w5_20, w6_21, rfl, h_22, h_23, h_24, h_25, h_26, h_27, h_28, h_29, h_30, h_31, h_32, h_33⟩ := hw
  have G : zS T A s.heap s [[(x, .inr (10, [.null, .null, .null, .null, .null, .null, .null, .null, .null, .null, .null]))], [(q_1, .inr (8, [.ref a1_2, .int 0, .int 0, .int (-1), .ref a2_3, .ref a3_4, .ref a4_5, .ref a5_6]))], [(a1_2, .inl (T.2 1, 600, .inl (fun _ => 0)))], [(a2_3, .inl (T.2 0, 3, .inl (fun _ => 0)))], [(a3_4, .inl (T.2 3, 2, .inr (.inr (.inr (.inr f3_7)))))], [(a4_5, .inl (T.2 4, 2, .inr (.inr (.inr (.inr f4_8)))))], [(a5_6, .inl (T.2 5, 2, .inr (.inr (.inr (.inr f5_9)))))], w1_16, w2_17, w3_18, w4_19, w5_20, w6_21] _ _ := G
  refine z_putF C G hnm clX11 0 rfl 0 (by decide) m_fl_RX11_10 rfl rfl rfl rfl (Nat.le_of_ble_eq_true rfl) dX11_init_12 (fun H locs G => ?_)
  have G : zS T A s.heap s [[(x, .inr (10, [.ref q_1, .null, .null, .null, .null, .null, .null, .null, .null, .null, .null]))], [(q_1, .inr (8, [.ref a1_2, .int 0, .int 0, .int (-1), .ref a2_3, .ref a3_4, .ref a4_5, .ref a5_6]))], [(a1_2, .inl (T.2 1, 600, .inl (fun _ => 0)))], [(a2_3, .inl (T.2 0, 3, .inl (fun _ => 0)))], [(a3_4, .inl (T.2 3, 2, .inr (.inr (.inr (.inr f3_7)))))], [(a4_5, .inl (T.2 4, 2, .inr (.inr (.inr (.inr f4_8)))))], [(a5_6, .inl (T.2 5, 2, .inr (.inr (.inr (.inr f5_9)))))], w1_16, w2_17, w3_18, w4_19, w5_20, w6_21] _ _ := G
  refine lv_aload_n hx hb dX11_init_15 rfl (lv_at hl 0 rfl) ?_
  refine lv_iconst (v := 3) hx hb dX11_init_16 (by decide) ?_
  refine z_newq C G 6 rfl m_cl_RX11_7 (List.mem_of_getElem? (i := 3) rfl) (N' := 3) (by decide) (by decide) (by decide) (Nat.le_of_ble_eq_true rfl) (Nat.le_of_ble_eq_true rfl) dX11_init_17 (fun q_35 H G => ?_)
  have G : zS T A s.heap s [[(x, .inr (10, [.ref q_1, .null, .null, .null, .null, .null, .null, .null, .null, .null, .null]))], [(q_1, .inr (8, [.ref a1_2, .int 0, .int 0, .int (-1), .ref a2_3, .ref a3_4, .ref a4_5, .ref a5_6]))], [(a1_2, .inl (T.2 1, 600, .inl (fun _ => 0)))], [(a2_3, .inl (T.2 0, 3, .inl (fun _ => 0)))], [(a3_4, .inl (T.2 3, 2, .inr (.inr (.inr (.inr f3_7)))))], [(a4_5, .inl (T.2 4, 2, .inr (.inr (.inr (.inr f4_8)))))], [(a5_6, .inl (T.2 5, 2, .inr (.inr (.inr (.inr f5_9)))))], w1_16, w2_17, w3_18, w4_19, w5_20, w6_21, [(q_35, .inl (T.2 6, 3, .inr (.inr (.inr (.inr (fun _ => none))))))]] _ _ := G
  refine lv_dup hx hb dX11_init_20 rfl ?_
  refine lv_iconst (v := 0) hx hb dX11_init_21 (by decide) ?_
  refine z_new C G clX9 (fs := [.null, .int 0, .int 0, .int 0, .null, .null, .null, .null]) m_cl_RX11_7 m_in_RX9 m_ii_RX9 (fun j hj => by match j, hj with | 0, _ => rfl | 1, _ => rfl | 2, _ => rfl | 3, _ => rfl | 4, _ => rfl | 5, _ => rfl | 6, _ => rfl | 7, _ => rfl | j + 8, h => exact absurd h (by omega)) (Nat.le_of_ble_eq_true rfl) (Nat.le_of_ble_eq_true rfl) dX11_init_22 (fun q_36 H G => ?_)
  have G : zS T A s.heap s [[(x, .inr (10, [.ref q_1, .null, .null, .null, .null, .null, .null, .null, .null, .null, .null]))], [(q_1, .inr (8, [.ref a1_2, .int 0, .int 0, .int (-1), .ref a2_3, .ref a3_4, .ref a4_5, .ref a5_6]))], [(a1_2, .inl (T.2 1, 600, .inl (fun _ => 0)))], [(a2_3, .inl (T.2 0, 3, .inl (fun _ => 0)))], [(a3_4, .inl (T.2 3, 2, .inr (.inr (.inr (.inr f3_7)))))], [(a4_5, .inl (T.2 4, 2, .inr (.inr (.inr (.inr f4_8)))))], [(a5_6, .inl (T.2 5, 2, .inr (.inr (.inr (.inr f5_9)))))], w1_16, w2_17, w3_18, w4_19, w5_20, w6_21, [(q_35, .inl (T.2 6, 3, .inr (.inr (.inr (.inr (fun _ => none))))))], [(q_36, .inr (8, [.null, .int 0, .int 0, .int 0, .null, .null, .null, .null]))]] _ _ := G
  refine lv_dup hx hb dX11_init_25 rfl ?_
  refine z_Jv (bc := [[(q_36, .inr (8, [.null, .int 0, .int 0, .int 0, .null, .null, .null, .null]))]]) (br := [[(x, .inr (10, [.ref q_1, .null, .null, .null, .null, .null, .null, .null, .null, .null, .null]))], [(q_1, .inr (8, [.ref a1_2, .int 0, .int 0, .int (-1), .ref a2_3, .ref a3_4, .ref a4_5, .ref a5_6]))], [(a1_2, .inl (T.2 1, 600, .inl (fun _ => 0)))], [(a2_3, .inl (T.2 0, 3, .inl (fun _ => 0)))], [(a3_4, .inl (T.2 3, 2, .inr (.inr (.inr (.inr f3_7)))))], [(a4_5, .inl (T.2 4, 2, .inr (.inr (.inr (.inr f4_8)))))], [(a5_6, .inl (T.2 5, 2, .inr (.inr (.inr (.inr f5_9)))))], w1_16, w2_17, w3_18, w4_19, w5_20, w6_21, [(q_35, .inl (T.2 6, 3, .inr (.inr (.inr (.inr (fun _ => none))))))]]) (As := []) (rest := [.ref q_36, .int 0, .ref q_35, .ref q_35, .ref x]) C G (c_Told_init l T q_36) (kJ_RX11_9 G.2.2.2.2.2 C.2.2.2.2 (Nat.le_of_ble_eq_true rfl) (Nat.le_of_ble_eq_true rfl)) [14] [0, 1, 2, 3, 4, 5, 6, 7, 8, 9, 10, 11, 12, 13] rfl rfl rfl rfl hl.1 dX11_init_26 (Nat.le_of_ble_eq_true rfl) (Nat.le_of_ble_eq_true rfl) (fun b1 H locs hw G => ?_)
  obtain ⟨a1_37, a2_38, a3_39, a4_40, a5_41, f3_42, f4_43, f5_44, l0_45, l1_46, d0_47, d1_48, g0_49, g1_50, w1_51, w2_52, w3_53, w4_54, w5_55, w6_56, rfl, h_57, h_58, h_59, h_60, h_61, h_62, h_63, h_64, h_65, h_66, h_67, h_68⟩ := hw
  have G : zS T A s.heap s [[(x, .inr (10, [.ref q_1, .null, .null, .null, .null, .null, .null, .null, .null, .null, .null]))], [(q_1, .inr (8, [.ref a1_2, .int 0, .int 0, .int (-1), .ref a2_3, .ref a3_4, .ref a4_5, .ref a5_6]))], [(a1_2, .inl (T.2 1, 600, .inl (fun _ => 0)))], [(a2_3, .inl (T.2 0, 3, .inl (fun _ => 0)))], [(a3_4, .inl (T.2 3, 2, .inr (.inr (.inr (.inr f3_7)))))], [(a4_5, .inl (T.2 4, 2, .inr (.inr (.inr (.inr f4_8)))))], [(a5_6, .inl (T.2 5, 2, .inr (.inr (.inr (.inr f5_9)))))], w1_16, w2_17, w3_18, w4_19, w5_20, w6_21, [(q_35, .inl (T.2 6, 3, .inr (.inr (.inr (.inr (fun _ => none))))))], [(q_36, .inr (8, [.ref a1_37, .int 0, .int 0, .int (-1), .ref a2_38, .ref a3_39, .ref a4_40, .ref a5_41]))], [(a1_37, .inl (T.2 1, 600, .inl (fun _ => 0)))], [(a2_38, .inl (T.2 0, 3, .inl (fun _ => 0)))], [(a3_39, .inl (T.2 3, 2, .inr (.inr (.inr (.inr f3_42)))))], [(a4_40, .inl (T.2 4, 2, .inr (.inr (.inr (.inr f4_43)))))], [(a5_41, .inl (T.2 5, 2, .inr (.inr (.inr (.inr f5_44)))))], w1_51, w2_52, w3_53, w4_54, w5_55, w6_56] _ _ := G
  have G := G.sub (bs' := [[(x, .inr (10, [.ref q_1, .null, .null, .null, .null, .null, .null, .null, .null, .null, .null]))], [(q_1, .inr (8, [.ref a1_2, .int 0, .int 0, .int (-1), .ref a2_3, .ref a3_4, .ref a4_5, .ref a5_6]))], [(a1_2, .inl (T.2 1, 600, .inl (fun _ => 0)))], [(a2_3, .inl (T.2 0, 3, .inl (fun _ => 0)))], [(a3_4, .inl (T.2 3, 2, .inr (.inr (.inr (.inr f3_7)))))], [(a4_5, .inl (T.2 4, 2, .inr (.inr (.inr (.inr f4_8)))))], [(a5_6, .inl (T.2 5, 2, .inr (.inr (.inr (.inr f5_9)))))], w1_16, w2_17, w3_18, w4_19, w5_20, w6_21, [(q_35, .inl (T.2 6, 3, .inr (.inr (.inr (.inr (fun _ => none))))))], [(q_36, .inr (8, [.ref a1_37, .int 0, .int 0, .int (-1), .ref a2_38, .ref a3_39, .ref a4_40, .ref a5_41]))], [(a1_37, .inl (T.2 1, 600, .inl (fun _ => 0)))], [(a2_38, .inl (T.2 0, 3, .inl (fun _ => 0)))], [(a3_39, .inl (T.2 3, 2, .inr (.inr (.inr (.inr f3_42)))))], [(a4_40, .inl (T.2 4, 2, .inr (.inr (.inr (.inr f4_43)))))], [(a5_41, .inl (T.2 5, 2, .inr (.inr (.inr (.inr f5_44)))))], w1_51, w2_52, w3_53, w4_54, w5_55, w6_56]) [0, 1, 2, 3, 4, 5, 6, 7, 8, 9, 10, 11, 12, 13, 14, 15, 16, 17, 18, 19, 20, 21, 22, 23, 24, 25] rfl
  obtain ⟨w_70, hw_71, G⟩ : ∃ w : va_W, bTold T q_36 w ∧ zS T A s.heap s [[(x, .inr (10, [.ref q_1, .null, .null, .null, .null, .null, .null, .null, .null, .null, .null]))], [(q_1, .inr (8, [.ref a1_2, .int 0, .int 0, .int (-1), .ref a2_3, .ref a3_4, .ref a4_5, .ref a5_6]))], [(a1_2, .inl (T.2 1, 600, .inl (fun _ => 0)))], [(a2_3, .inl (T.2 0, 3, .inl (fun _ => 0)))], [(a3_4, .inl (T.2 3, 2, .inr (.inr (.inr (.inr f3_7)))))], [(a4_5, .inl (T.2 4, 2, .inr (.inr (.inr (.inr f4_8)))))], [(a5_6, .inl (T.2 5, 2, .inr (.inr (.inr (.inr f5_9)))))], w1_16, w2_17, w3_18, w4_19, w5_20, w6_21, [(q_35, .inl (T.2 6, 3, .inr (.inr (.inr (.inr (fun _ => none))))))], w] _ _ := ⟨[[(q_36, .inr (8, [.ref a1_37, .int 0, .int 0, .int (-1), .ref a2_38, .ref a3_39, .ref a4_40, .ref a5_41]))], [(a1_37, .inl (T.2 1, 600, .inl (fun _ => 0)))], [(a2_38, .inl (T.2 0, 3, .inl (fun _ => 0)))], [(a3_39, .inl (T.2 3, 2, .inr (.inr (.inr (.inr f3_42)))))], [(a4_40, .inl (T.2 4, 2, .inr (.inr (.inr (.inr f4_43)))))], [(a5_41, .inl (T.2 5, 2, .inr (.inr (.inr (.inr f5_44)))))], w1_51, w2_52, w3_53, w4_54, w5_55, w6_56].flatten, ⟨a1_37, a2_38, a3_39, a4_40, a5_41, 0, 0, (-1), (fun _ => 0), (fun _ => 0), f3_42, f4_43, f5_44, l0_45, l1_46, d0_47, d1_48, g0_49, g1_50, w1_51, w2_52, w3_53, w4_54, w5_55, w6_56, rfl, h_57, h_58, h_59, h_60, h_61, h_62, h_63, h_64, h_65, h_66, h_67, h_68⟩, G.re (by simp only [List.flatten_cons, List.flatten_append, List.flatten_nil, List.append_assoc, List.cons_append, List.nil_append, List.append_nil])⟩
  refine z_ast C G 13 6 (ci := 8) (r := (RX9, TX9, 8)) rfl rfl (List.mem_flatten.mpr ⟨_, List.mem_of_getElem? (i := 14) rfl, (bTold_mem hw_71).choose_spec⟩) rfl (vp_in_nI (n := 0) (by decide) (by decide)) dX11_init_29 (fun H locs G => ?_)
  have G : zS T A s.heap s [[(x, .inr (10, [.ref q_1, .null, .null, .null, .null, .null, .null, .null, .null, .null, .null]))], [(q_1, .inr (8, [.ref a1_2, .int 0, .int 0, .int (-1), .ref a2_3, .ref a3_4, .ref a4_5, .ref a5_6]))], [(a1_2, .inl (T.2 1, 600, .inl (fun _ => 0)))], [(a2_3, .inl (T.2 0, 3, .inl (fun _ => 0)))], [(a3_4, .inl (T.2 3, 2, .inr (.inr (.inr (.inr f3_7)))))], [(a4_5, .inl (T.2 4, 2, .inr (.inr (.inr (.inr f4_8)))))], [(a5_6, .inl (T.2 5, 2, .inr (.inr (.inr (.inr f5_9)))))], w1_16, w2_17, w3_18, w4_19, w5_20, w6_21, [(q_35, .inl (T.2 6, 3, .inr (.inr (.inr (.inr (va_up (fun _ => none) 0 (some q_36)))))))], w_70] _ _ := G
  refine lv_dup hx hb dX11_init_30 rfl ?_
  refine lv_iconst (v := 1) hx hb dX11_init_31 (by decide) ?_
  refine z_new C G clX9 (fs := [.null, .int 0, .int 0, .int 0, .null, .null, .null, .null]) m_cl_RX11_7 m_in_RX9 m_ii_RX9 (fun j hj => by match j, hj with | 0, _ => rfl | 1, _ => rfl | 2, _ => rfl | 3, _ => rfl | 4, _ => rfl | 5, _ => rfl | 6, _ => rfl | 7, _ => rfl | j + 8, h => exact absurd h (by omega)) (Nat.le_of_ble_eq_true rfl) (Nat.le_of_ble_eq_true rfl) dX11_init_32 (fun q_72 H G => ?_)
  have G : zS T A s.heap s [[(x, .inr (10, [.ref q_1, .null, .null, .null, .null, .null, .null, .null, .null, .null, .null]))], [(q_1, .inr (8, [.ref a1_2, .int 0, .int 0, .int (-1), .ref a2_3, .ref a3_4, .ref a4_5, .ref a5_6]))], [(a1_2, .inl (T.2 1, 600, .inl (fun _ => 0)))], [(a2_3, .inl (T.2 0, 3, .inl (fun _ => 0)))], [(a3_4, .inl (T.2 3, 2, .inr (.inr (.inr (.inr f3_7)))))], [(a4_5, .inl (T.2 4, 2, .inr (.inr (.inr (.inr f4_8)))))], [(a5_6, .inl (T.2 5, 2, .inr (.inr (.inr (.inr f5_9)))))], w1_16, w2_17, w3_18, w4_19, w5_20, w6_21, [(q_35, .inl (T.2 6, 3, .inr (.inr (.inr (.inr (va_up (fun _ => none) 0 (some q_36)))))))], w_70, [(q_72, .inr (8, [.null, .int 0, .int 0, .int 0, .null, .null, .null, .null]))]] _ _ := G
  refine lv_dup hx hb dX11_init_35 rfl ?_
  refine z_Jv (bc := [[(q_72, .inr (8, [.null, .int 0, .int 0, .int 0, .null, .null, .null, .null]))]]) (br := [[(x, .inr (10, [.ref q_1, .null, .null, .null, .null, .null, .null, .null, .null, .null, .null]))], [(q_1, .inr (8, [.ref a1_2, .int 0, .int 0, .int (-1), .ref a2_3, .ref a3_4, .ref a4_5, .ref a5_6]))], [(a1_2, .inl (T.2 1, 600, .inl (fun _ => 0)))], [(a2_3, .inl (T.2 0, 3, .inl (fun _ => 0)))], [(a3_4, .inl (T.2 3, 2, .inr (.inr (.inr (.inr f3_7)))))], [(a4_5, .inl (T.2 4, 2, .inr (.inr (.inr (.inr f4_8)))))], [(a5_6, .inl (T.2 5, 2, .inr (.inr (.inr (.inr f5_9)))))], w1_16, w2_17, w3_18, w4_19, w5_20, w6_21, [(q_35, .inl (T.2 6, 3, .inr (.inr (.inr (.inr (va_up (fun _ => none) 0 (some q_36)))))))], w_70]) (As := []) (rest := [.ref q_72, .int 1, .ref q_35, .ref q_35, .ref x]) C G (c_Told_init l T q_72) (kJ_RX11_9 G.2.2.2.2.2 C.2.2.2.2 (Nat.le_of_ble_eq_true rfl) (Nat.le_of_ble_eq_true rfl)) [15] [0, 1, 2, 3, 4, 5, 6, 7, 8, 9, 10, 11, 12, 13, 14] rfl rfl rfl rfl hl.1 dX11_init_36 (Nat.le_of_ble_eq_true rfl) (Nat.le_of_ble_eq_true rfl) (fun b1 H locs hw G => ?_)
  obtain ⟨a1_73, a2_74, a3_75, a4_76, a5_77, f3_78, f4_79, f5_80, l0_81, l1_82, d0_83, d1_84, g0_85, g1_86, w1_87, w2_88, w3_89, w4_90, w5_91, w6_92, rfl, h_93, h_94, h_95, h_96, h_97, h_98, h_99, h_100, h_101, h_102, h_103, h_104⟩ := hw
  have G : zS T A s.heap s [[(x, .inr (10, [.ref q_1, .null, .null, .null, .null, .null, .null, .null, .null, .null, .null]))], [(q_1, .inr (8, [.ref a1_2, .int 0, .int 0, .int (-1), .ref a2_3, .ref a3_4, .ref a4_5, .ref a5_6]))], [(a1_2, .inl (T.2 1, 600, .inl (fun _ => 0)))], [(a2_3, .inl (T.2 0, 3, .inl (fun _ => 0)))], [(a3_4, .inl (T.2 3, 2, .inr (.inr (.inr (.inr f3_7)))))], [(a4_5, .inl (T.2 4, 2, .inr (.inr (.inr (.inr f4_8)))))], [(a5_6, .inl (T.2 5, 2, .inr (.inr (.inr (.inr f5_9)))))], w1_16, w2_17, w3_18, w4_19, w5_20, w6_21, [(q_35, .inl (T.2 6, 3, .inr (.inr (.inr (.inr (va_up (fun _ => none) 0 (some q_36)))))))], w_70, [(q_72, .inr (8, [.ref a1_73, .int 0, .int 0, .int (-1), .ref a2_74, .ref a3_75, .ref a4_76, .ref a5_77]))], [(a1_73, .inl (T.2 1, 600, .inl (fun _ => 0)))], [(a2_74, .inl (T.2 0, 3, .inl (fun _ => 0)))], [(a3_75, .inl (T.2 3, 2, .inr (.inr (.inr (.inr f3_78)))))], [(a4_76, .inl (T.2 4, 2, .inr (.inr (.inr (.inr f4_79)))))], [(a5_77, .inl (T.2 5, 2, .inr (.inr (.inr (.inr f5_80)))))], w1_87, w2_88, w3_89, w4_90, w5_91, w6_92] _ _ := G
  have G := G.sub (bs' := [[(x, .inr (10, [.ref q_1, .null, .null, .null, .null, .null, .null, .null, .null, .null, .null]))], [(q_1, .inr (8, [.ref a1_2, .int 0, .int 0, .int (-1), .ref a2_3, .ref a3_4, .ref a4_5, .ref a5_6]))], [(a1_2, .inl (T.2 1, 600, .inl (fun _ => 0)))], [(a2_3, .inl (T.2 0, 3, .inl (fun _ => 0)))], [(a3_4, .inl (T.2 3, 2, .inr (.inr (.inr (.inr f3_7)))))], [(a4_5, .inl (T.2 4, 2, .inr (.inr (.inr (.inr f4_8)))))], [(a5_6, .inl (T.2 5, 2, .inr (.inr (.inr (.inr f5_9)))))], w1_16, w2_17, w3_18, w4_19, w5_20, w6_21, [(q_35, .inl (T.2 6, 3, .inr (.inr (.inr (.inr (va_up (fun _ => none) 0 (some q_36)))))))], w_70, [(q_72, .inr (8, [.ref a1_73, .int 0, .int 0, .int (-1), .ref a2_74, .ref a3_75, .ref a4_76, .ref a5_77]))], [(a1_73, .inl (T.2 1, 600, .inl (fun _ => 0)))], [(a2_74, .inl (T.2 0, 3, .inl (fun _ => 0)))], [(a3_75, .inl (T.2 3, 2, .inr (.inr (.inr (.inr f3_78)))))], [(a4_76, .inl (T.2 4, 2, .inr (.inr (.inr (.inr f4_79)))))], [(a5_77, .inl (T.2 5, 2, .inr (.inr (.inr (.inr f5_80)))))], w1_87, w2_88, w3_89, w4_90, w5_91, w6_92]) [0, 1, 2, 3, 4, 5, 6, 7, 8, 9, 10, 11, 12, 13, 14, 15, 16, 17, 18, 19, 20, 21, 22, 23, 24, 25, 26] rfl
  obtain ⟨w_106, hw_107, G⟩ : ∃ w : va_W, bTold T q_72 w ∧ zS T A s.heap s [[(x, .inr (10, [.ref q_1, .null, .null, .null, .null, .null, .null, .null, .null, .null, .null]))], [(q_1, .inr (8, [.ref a1_2, .int 0, .int 0, .int (-1), .ref a2_3, .ref a3_4, .ref a4_5, .ref a5_6]))], [(a1_2, .inl (T.2 1, 600, .inl (fun _ => 0)))], [(a2_3, .inl (T.2 0, 3, .inl (fun _ => 0)))], [(a3_4, .inl (T.2 3, 2, .inr (.inr (.inr (.inr f3_7)))))], [(a4_5, .inl (T.2 4, 2, .inr (.inr (.inr (.inr f4_8)))))], [(a5_6, .inl (T.2 5, 2, .inr (.inr (.inr (.inr f5_9)))))], w1_16, w2_17, w3_18, w4_19, w5_20, w6_21, [(q_35, .inl (T.2 6, 3, .inr (.inr (.inr (.inr (va_up (fun _ => none) 0 (some q_36)))))))], w_70, w] _ _ := ⟨[[(q_72, .inr (8, [.ref a1_73, .int 0, .int 0, .int (-1), .ref a2_74, .ref a3_75, .ref a4_76, .ref a5_77]))], [(a1_73, .inl (T.2 1, 600, .inl (fun _ => 0)))], [(a2_74, .inl (T.2 0, 3, .inl (fun _ => 0)))], [(a3_75, .inl (T.2 3, 2, .inr (.inr (.inr (.inr f3_78)))))], [(a4_76, .inl (T.2 4, 2, .inr (.inr (.inr (.inr f4_79)))))], [(a5_77, .inl (T.2 5, 2, .inr (.inr (.inr (.inr f5_80)))))], w1_87, w2_88, w3_89, w4_90, w5_91, w6_92].flatten, ⟨a1_73, a2_74, a3_75, a4_76, a5_77, 0, 0, (-1), (fun _ => 0), (fun _ => 0), f3_78, f4_79, f5_80, l0_81, l1_82, d0_83, d1_84, g0_85, g1_86, w1_87, w2_88, w3_89, w4_90, w5_91, w6_92, rfl, h_93, h_94, h_95, h_96, h_97, h_98, h_99, h_100, h_101, h_102, h_103, h_104⟩, G.re (by simp only [List.flatten_cons, List.flatten_append, List.flatten_nil, List.append_assoc, List.cons_append, List.nil_append, List.append_nil])⟩
  refine z_ast C G 13 6 (ci := 8) (r := (RX9, TX9, 8)) rfl rfl (List.mem_flatten.mpr ⟨_, List.mem_of_getElem? (i := 15) rfl, (bTold_mem hw_107).choose_spec⟩) rfl (vp_in_nI (n := 1) (by decide) (by decide)) dX11_init_39 (fun H locs G => ?_)
  have G : zS T A s.heap s [[(x, .inr (10, [.ref q_1, .null, .null, .null, .null, .null, .null, .null, .null, .null, .null]))], [(q_1, .inr (8, [.ref a1_2, .int 0, .int 0, .int (-1), .ref a2_3, .ref a3_4, .ref a4_5, .ref a5_6]))], [(a1_2, .inl (T.2 1, 600, .inl (fun _ => 0)))], [(a2_3, .inl (T.2 0, 3, .inl (fun _ => 0)))], [(a3_4, .inl (T.2 3, 2, .inr (.inr (.inr (.inr f3_7)))))], [(a4_5, .inl (T.2 4, 2, .inr (.inr (.inr (.inr f4_8)))))], [(a5_6, .inl (T.2 5, 2, .inr (.inr (.inr (.inr f5_9)))))], w1_16, w2_17, w3_18, w4_19, w5_20, w6_21, [(q_35, .inl (T.2 6, 3, .inr (.inr (.inr (.inr (va_up (va_up (fun _ => none) 0 (some q_36)) 1 (some q_72)))))))], w_70, w_106] _ _ := G
  refine lv_dup hx hb dX11_init_40 rfl ?_
  refine lv_iconst (v := 2) hx hb dX11_init_41 (by decide) ?_
  refine z_new C G clX9 (fs := [.null, .int 0, .int 0, .int 0, .null, .null, .null, .null]) m_cl_RX11_7 m_in_RX9 m_ii_RX9 (fun j hj => by match j, hj with | 0, _ => rfl | 1, _ => rfl | 2, _ => rfl | 3, _ => rfl | 4, _ => rfl | 5, _ => rfl | 6, _ => rfl | 7, _ => rfl | j + 8, h => exact absurd h (by omega)) (Nat.le_of_ble_eq_true rfl) (Nat.le_of_ble_eq_true rfl) dX11_init_42 (fun q_108 H G => ?_)
  have G : zS T A s.heap s [[(x, .inr (10, [.ref q_1, .null, .null, .null, .null, .null, .null, .null, .null, .null, .null]))], [(q_1, .inr (8, [.ref a1_2, .int 0, .int 0, .int (-1), .ref a2_3, .ref a3_4, .ref a4_5, .ref a5_6]))], [(a1_2, .inl (T.2 1, 600, .inl (fun _ => 0)))], [(a2_3, .inl (T.2 0, 3, .inl (fun _ => 0)))], [(a3_4, .inl (T.2 3, 2, .inr (.inr (.inr (.inr f3_7)))))], [(a4_5, .inl (T.2 4, 2, .inr (.inr (.inr (.inr f4_8)))))], [(a5_6, .inl (T.2 5, 2, .inr (.inr (.inr (.inr f5_9)))))], w1_16, w2_17, w3_18, w4_19, w5_20, w6_21, [(q_35, .inl (T.2 6, 3, .inr (.inr (.inr (.inr (va_up (va_up (fun _ => none) 0 (some q_36)) 1 (some q_72)))))))], w_70, w_106, [(q_108, .inr (8, [.null, .int 0, .int 0, .int 0, .null, .null, .null, .null]))]] _ _ := G
  refine lv_dup hx hb dX11_init_45 rfl ?_
  refine z_Jv (bc := [[(q_108, .inr (8, [.null, .int 0, .int 0, .int 0, .null, .null, .null, .null]))]]) (br := [[(x, .inr (10, [.ref q_1, .null, .null, .null, .null, .null, .null, .null, .null, .null, .null]))], [(q_1, .inr (8, [.ref a1_2, .int 0, .int 0, .int (-1), .ref a2_3, .ref a3_4, .ref a4_5, .ref a5_6]))], [(a1_2, .inl (T.2 1, 600, .inl (fun _ => 0)))], [(a2_3, .inl (T.2 0, 3, .inl (fun _ => 0)))], [(a3_4, .inl (T.2 3, 2, .inr (.inr (.inr (.inr f3_7)))))], [(a4_5, .inl (T.2 4, 2, .inr (.inr (.inr (.inr f4_8)))))], [(a5_6, .inl (T.2 5, 2, .inr (.inr (.inr (.inr f5_9)))))], w1_16, w2_17, w3_18, w4_19, w5_20, w6_21, [(q_35, .inl (T.2 6, 3, .inr (.inr (.inr (.inr (va_up (va_up (fun _ => none) 0 (some q_36)) 1 (some q_72)))))))], w_70, w_106]) (As := []) (rest := [.ref q_108, .int 2, .ref q_35, .ref q_35, .ref x]) C G (c_Told_init l T q_108) (kJ_RX11_9 G.2.2.2.2.2 C.2.2.2.2 (Nat.le_of_ble_eq_true rfl) (Nat.le_of_ble_eq_true rfl)) [16] [0, 1, 2, 3, 4, 5, 6, 7, 8, 9, 10, 11, 12, 13, 14, 15] rfl rfl rfl rfl hl.1 dX11_init_46 (Nat.le_of_ble_eq_true rfl) (Nat.le_of_ble_eq_true rfl) (fun b1 H locs hw G => ?_)
  obtain ⟨a1_109, a2_110, a3_111, a4_112, a5_113, f3_114, f4_115, f5_116, l0_117, l1_118, d0_119, d1_120, g0_121, g1_122, w1_123, w2_124, w3_125, w4_126, w5_127, w6_128, rfl, h_129, h_130, h_131, h_132, h_133, h_134, h_135, h_136, h_137, h_138, h_139, h_140⟩ := hw
  have G : zS T A s.heap s [[(x, .inr (10, [.ref q_1, .null, .null, .null, .null, .null, .null, .null, .null, .null, .null]))], [(q_1, .inr (8, [.ref a1_2, .int 0, .int 0, .int (-1), .ref a2_3, .ref a3_4, .ref a4_5, .ref a5_6]))], [(a1_2, .inl (T.2 1, 600, .inl (fun _ => 0)))], [(a2_3, .inl (T.2 0, 3, .inl (fun _ => 0)))], [(a3_4, .inl (T.2 3, 2, .inr (.inr (.inr (.inr f3_7)))))], [(a4_5, .inl (T.2 4, 2, .inr (.inr (.inr (.inr f4_8)))))], [(a5_6, .inl (T.2 5, 2, .inr (.inr (.inr (.inr f5_9)))))], w1_16, w2_17, w3_18, w4_19, w5_20, w6_21, [(q_35, .inl (T.2 6, 3, .inr (.inr (.inr (.inr (va_up (va_up (fun _ => none) 0 (some q_36)) 1 (some q_72)))))))], w_70, w_106, [(q_108, .inr (8, [.ref a1_109, .int 0, .int 0, .int (-1), .ref a2_110, .ref a3_111, .ref a4_112, .ref a5_113]))], [(a1_109, .inl (T.2 1, 600, .inl (fun _ => 0)))], [(a2_110, .inl (T.2 0, 3, .inl (fun _ => 0)))], [(a3_111, .inl (T.2 3, 2, .inr (.inr (.inr (.inr f3_114)))))], [(a4_112, .inl (T.2 4, 2, .inr (.inr (.inr (.inr f4_115)))))], [(a5_113, .inl (T.2 5, 2, .inr (.inr (.inr (.inr f5_116)))))], w1_123, w2_124, w3_125, w4_126, w5_127, w6_128] _ _ := G
  have G := G.sub (bs' := [[(x, .inr (10, [.ref q_1, .null, .null, .null, .null, .null, .null, .null, .null, .null, .null]))], [(q_1, .inr (8, [.ref a1_2, .int 0, .int 0, .int (-1), .ref a2_3, .ref a3_4, .ref a4_5, .ref a5_6]))], [(a1_2, .inl (T.2 1, 600, .inl (fun _ => 0)))], [(a2_3, .inl (T.2 0, 3, .inl (fun _ => 0)))], [(a3_4, .inl (T.2 3, 2, .inr (.inr (.inr (.inr f3_7)))))], [(a4_5, .inl (T.2 4, 2, .inr (.inr (.inr (.inr f4_8)))))], [(a5_6, .inl (T.2 5, 2, .inr (.inr (.inr (.inr f5_9)))))], w1_16, w2_17, w3_18, w4_19, w5_20, w6_21, [(q_35, .inl (T.2 6, 3, .inr (.inr (.inr (.inr (va_up (va_up (fun _ => none) 0 (some q_36)) 1 (some q_72)))))))], w_70, w_106, [(q_108, .inr (8, [.ref a1_109, .int 0, .int 0, .int (-1), .ref a2_110, .ref a3_111, .ref a4_112, .ref a5_113]))], [(a1_109, .inl (T.2 1, 600, .inl (fun _ => 0)))], [(a2_110, .inl (T.2 0, 3, .inl (fun _ => 0)))], [(a3_111, .inl (T.2 3, 2, .inr (.inr (.inr (.inr f3_114)))))], [(a4_112, .inl (T.2 4, 2, .inr (.inr (.inr (.inr f4_115)))))], [(a5_113, .inl (T.2 5, 2, .inr (.inr (.inr (.inr f5_116)))))], w1_123, w2_124, w3_125, w4_126, w5_127, w6_128]) [0, 1, 2, 3, 4, 5, 6, 7, 8, 9, 10, 11, 12, 13, 14, 15, 16, 17, 18, 19, 20, 21, 22, 23, 24, 25, 26, 27] rfl
  obtain ⟨w_142, hw_143, G⟩ : ∃ w : va_W, bTold T q_108 w ∧ zS T A s.heap s [[(x, .inr (10, [.ref q_1, .null, .null, .null, .null, .null, .null, .null, .null, .null, .null]))], [(q_1, .inr (8, [.ref a1_2, .int 0, .int 0, .int (-1), .ref a2_3, .ref a3_4, .ref a4_5, .ref a5_6]))], [(a1_2, .inl (T.2 1, 600, .inl (fun _ => 0)))], [(a2_3, .inl (T.2 0, 3, .inl (fun _ => 0)))], [(a3_4, .inl (T.2 3, 2, .inr (.inr (.inr (.inr f3_7)))))], [(a4_5, .inl (T.2 4, 2, .inr (.inr (.inr (.inr f4_8)))))], [(a5_6, .inl (T.2 5, 2, .inr (.inr (.inr (.inr f5_9)))))], w1_16, w2_17, w3_18, w4_19, w5_20, w6_21, [(q_35, .inl (T.2 6, 3, .inr (.inr (.inr (.inr (va_up (va_up (fun _ => none) 0 (some q_36)) 1 (some q_72)))))))], w_70, w_106, w] _ _ := ⟨[[(q_108, .inr (8, [.ref a1_109, .int 0, .int 0, .int (-1), .ref a2_110, .ref a3_111, .ref a4_112, .ref a5_113]))], [(a1_109, .inl (T.2 1, 600, .inl (fun _ => 0)))], [(a2_110, .inl (T.2 0, 3, .inl (fun _ => 0)))], [(a3_111, .inl (T.2 3, 2, .inr (.inr (.inr (.inr f3_114)))))], [(a4_112, .inl (T.2 4, 2, .inr (.inr (.inr (.inr f4_115)))))], [(a5_113, .inl (T.2 5, 2, .inr (.inr (.inr (.inr f5_116)))))], w1_123, w2_124, w3_125, w4_126, w5_127, w6_128].flatten, ⟨a1_109, a2_110, a3_111, a4_112, a5_113, 0, 0, (-1), (fun _ => 0), (fun _ => 0), f3_114, f4_115, f5_116, l0_117, l1_118, d0_119, d1_120, g0_121, g1_122, w1_123, w2_124, w3_125, w4_126, w5_127, w6_128, rfl, h_129, h_130, h_131, h_132, h_133, h_134, h_135, h_136, h_137, h_138, h_139, h_140⟩, G.re (by simp only [List.flatten_cons, List.flatten_append, List.flatten_nil, List.append_assoc, List.cons_append, List.nil_append, List.append_nil])⟩
  refine z_ast C G 13 6 (ci := 8) (r := (RX9, TX9, 8)) rfl rfl (List.mem_flatten.mpr ⟨_, List.mem_of_getElem? (i := 16) rfl, (bTold_mem hw_143).choose_spec⟩) rfl (vp_in_nI (n := 2) (by decide) (by decide)) dX11_init_49 (fun H locs G => ?_)
  have G : zS T A s.heap s [[(x, .inr (10, [.ref q_1, .null, .null, .null, .null, .null, .null, .null, .null, .null, .null]))], [(q_1, .inr (8, [.ref a1_2, .int 0, .int 0, .int (-1), .ref a2_3, .ref a3_4, .ref a4_5, .ref a5_6]))], [(a1_2, .inl (T.2 1, 600, .inl (fun _ => 0)))], [(a2_3, .inl (T.2 0, 3, .inl (fun _ => 0)))], [(a3_4, .inl (T.2 3, 2, .inr (.inr (.inr (.inr f3_7)))))], [(a4_5, .inl (T.2 4, 2, .inr (.inr (.inr (.inr f4_8)))))], [(a5_6, .inl (T.2 5, 2, .inr (.inr (.inr (.inr f5_9)))))], w1_16, w2_17, w3_18, w4_19, w5_20, w6_21, [(q_35, .inl (T.2 6, 3, .inr (.inr (.inr (.inr (va_up (va_up (va_up (fun _ => none) 0 (some q_36)) 1 (some q_72)) 2 (some q_108)))))))], w_70, w_106, w_142] _ _ := G
  refine z_putF C G hnm clX11 0 rfl 1 (by decide) m_fl_RX11_16 rfl rfl rfl rfl (Nat.le_of_ble_eq_true rfl) dX11_init_50 (fun H locs G => ?_)
  have G : zS T A s.heap s [[(x, .inr (10, [.ref q_1, .ref q_35, .null, .null, .null, .null, .null, .null, .null, .null, .null]))], [(q_1, .inr (8, [.ref a1_2, .int 0, .int 0, .int (-1), .ref a2_3, .ref a3_4, .ref a4_5, .ref a5_6]))], [(a1_2, .inl (T.2 1, 600, .inl (fun _ => 0)))], [(a2_3, .inl (T.2 0, 3, .inl (fun _ => 0)))], [(a3_4, .inl (T.2 3, 2, .inr (.inr (.inr (.inr f3_7)))))], [(a4_5, .inl (T.2 4, 2, .inr (.inr (.inr (.inr f4_8)))))], [(a5_6, .inl (T.2 5, 2, .inr (.inr (.inr (.inr f5_9)))))], w1_16, w2_17, w3_18, w4_19, w5_20, w6_21, [(q_35, .inl (T.2 6, 3, .inr (.inr (.inr (.inr (va_up (va_up (va_up (fun _ => none) 0 (some q_36)) 1 (some q_72)) 2 (some q_108)))))))], w_70, w_106, w_142] _ _ := G
  refine lv_aload_n hx hb dX11_init_53 rfl (lv_at hl 0 rfl) ?_
  refine lv_iconst (v := 3) hx hb dX11_init_54 (by decide) ?_
  refine z_newa C G 2 (ty := .boolean) (N' := 3) (a0 := (3, .inl (fun _ => 0))) rfl z_uboolean m_ar_boolean rfl (fun _ => rfl) (by decide) (by decide) (Nat.le_of_ble_eq_true rfl) (Nat.le_of_ble_eq_true rfl) (Nat.le_of_ble_eq_true rfl) dX11_init_55 (fun q_144 H G => ?_)
  have G : zS T A s.heap s [[(x, .inr (10, [.ref q_1, .ref q_35, .null, .null, .null, .null, .null, .null, .null, .null, .null]))], [(q_1, .inr (8, [.ref a1_2, .int 0, .int 0, .int (-1), .ref a2_3, .ref a3_4, .ref a4_5, .ref a5_6]))], [(a1_2, .inl (T.2 1, 600, .inl (fun _ => 0)))], [(a2_3, .inl (T.2 0, 3, .inl (fun _ => 0)))], [(a3_4, .inl (T.2 3, 2, .inr (.inr (.inr (.inr f3_7)))))], [(a4_5, .inl (T.2 4, 2, .inr (.inr (.inr (.inr f4_8)))))], [(a5_6, .inl (T.2 5, 2, .inr (.inr (.inr (.inr f5_9)))))], w1_16, w2_17, w3_18, w4_19, w5_20, w6_21, [(q_35, .inl (T.2 6, 3, .inr (.inr (.inr (.inr (va_up (va_up (va_up (fun _ => none) 0 (some q_36)) 1 (some q_72)) 2 (some q_108)))))))], w_70, w_106, w_142, [(q_144, .inl (T.2 2, 3, .inl (fun _ => 0)))]] _ _ := G
  refine z_putF C G hnm clX11 0 rfl 2 (by decide) m_fl_RX11_20 rfl rfl rfl rfl (Nat.le_of_ble_eq_true rfl) dX11_init_57 (fun H locs G => ?_)
  have G : zS T A s.heap s [[(x, .inr (10, [.ref q_1, .ref q_35, .ref q_144, .null, .null, .null, .null, .null, .null, .null, .null]))], [(q_1, .inr (8, [.ref a1_2, .int 0, .int 0, .int (-1), .ref a2_3, .ref a3_4, .ref a4_5, .ref a5_6]))], [(a1_2, .inl (T.2 1, 600, .inl (fun _ => 0)))], [(a2_3, .inl (T.2 0, 3, .inl (fun _ => 0)))], [(a3_4, .inl (T.2 3, 2, .inr (.inr (.inr (.inr f3_7)))))], [(a4_5, .inl (T.2 4, 2, .inr (.inr (.inr (.inr f4_8)))))], [(a5_6, .inl (T.2 5, 2, .inr (.inr (.inr (.inr f5_9)))))], w1_16, w2_17, w3_18, w4_19, w5_20, w6_21, [(q_35, .inl (T.2 6, 3, .inr (.inr (.inr (.inr (va_up (va_up (va_up (fun _ => none) 0 (some q_36)) 1 (some q_72)) 2 (some q_108)))))))], w_70, w_106, w_142, [(q_144, .inl (T.2 2, 3, .inl (fun _ => 0)))]] _ _ := G
  refine lv_aload_n hx hb dX11_init_60 rfl (lv_at hl 0 rfl) ?_
  refine z_new C G clX7 (fs := [.null, .null, .null, .int 0, .int 0, .null, .int 0, .int 0, .int 0, .int 0, .int 0, .int 0, .int 0]) m_cl_RX11_24 m_in_RX7 m_ii_RX7 (fun j hj => by match j, hj with | 0, _ => rfl | 1, _ => rfl | 2, _ => rfl | 3, _ => rfl | 4, _ => rfl | 5, _ => rfl | 6, _ => rfl | 7, _ => rfl | 8, _ => rfl | 9, _ => rfl | 10, _ => rfl | 11, _ => rfl | 12, _ => rfl | j + 13, h => exact absurd h (by omega)) (Nat.le_of_ble_eq_true rfl) (Nat.le_of_ble_eq_true rfl) dX11_init_61 (fun q_145 H G => ?_)
  have G : zS T A s.heap s [[(x, .inr (10, [.ref q_1, .ref q_35, .ref q_144, .null, .null, .null, .null, .null, .null, .null, .null]))], [(q_1, .inr (8, [.ref a1_2, .int 0, .int 0, .int (-1), .ref a2_3, .ref a3_4, .ref a4_5, .ref a5_6]))], [(a1_2, .inl (T.2 1, 600, .inl (fun _ => 0)))], [(a2_3, .inl (T.2 0, 3, .inl (fun _ => 0)))], [(a3_4, .inl (T.2 3, 2, .inr (.inr (.inr (.inr f3_7)))))], [(a4_5, .inl (T.2 4, 2, .inr (.inr (.inr (.inr f4_8)))))], [(a5_6, .inl (T.2 5, 2, .inr (.inr (.inr (.inr f5_9)))))], w1_16, w2_17, w3_18, w4_19, w5_20, w6_21, [(q_35, .inl (T.2 6, 3, .inr (.inr (.inr (.inr (va_up (va_up (va_up (fun _ => none) 0 (some q_36)) 1 (some q_72)) 2 (some q_108)))))))], w_70, w_106, w_142, [(q_144, .inl (T.2 2, 3, .inl (fun _ => 0)))], [(q_145, .inr (7, [.null, .null, .null, .int 0, .int 0, .null, .int 0, .int 0, .int 0, .int 0, .int 0, .int 0, .int 0]))]] _ _ := G
  refine lv_dup hx hb dX11_init_64 rfl ?_
  refine z_Jv (bc := [[(q_145, .inr (7, [.null, .null, .null, .int 0, .int 0, .null, .int 0, .int 0, .int 0, .int 0, .int 0, .int 0, .int 0]))]]) (br := [[(x, .inr (10, [.ref q_1, .ref q_35, .ref q_144, .null, .null, .null, .null, .null, .null, .null, .null]))], [(q_1, .inr (8, [.ref a1_2, .int 0, .int 0, .int (-1), .ref a2_3, .ref a3_4, .ref a4_5, .ref a5_6]))], [(a1_2, .inl (T.2 1, 600, .inl (fun _ => 0)))], [(a2_3, .inl (T.2 0, 3, .inl (fun _ => 0)))], [(a3_4, .inl (T.2 3, 2, .inr (.inr (.inr (.inr f3_7)))))], [(a4_5, .inl (T.2 4, 2, .inr (.inr (.inr (.inr f4_8)))))], [(a5_6, .inl (T.2 5, 2, .inr (.inr (.inr (.inr f5_9)))))], w1_16, w2_17, w3_18, w4_19, w5_20, w6_21, [(q_35, .inl (T.2 6, 3, .inr (.inr (.inr (.inr (va_up (va_up (va_up (fun _ => none) 0 (some q_36)) 1 (some q_72)) 2 (some q_108)))))))], w_70, w_106, w_142, [(q_144, .inl (T.2 2, 3, .inl (fun _ => 0)))]]) (As := []) (rest := [.ref q_145, .ref x]) C G (c_Reader_init l T q_145) (kJ_RX11_26 G.2.2.2.2.2 C.2.2.2.2 (Nat.le_of_ble_eq_true rfl) (Nat.le_of_ble_eq_true rfl)) [18] [0, 1, 2, 3, 4, 5, 6, 7, 8, 9, 10, 11, 12, 13, 14, 15, 16, 17] rfl rfl rfl rfl hl.1 dX11_init_65 (Nat.le_of_ble_eq_true rfl) (Nat.le_of_ble_eq_true rfl) (fun b1 H locs hw G => ?_)
  obtain ⟨w_146, rfl, h_147⟩ := hw
  have G : zS T A s.heap s [[(x, .inr (10, [.ref q_1, .ref q_35, .ref q_144, .null, .null, .null, .null, .null, .null, .null, .null]))], [(q_1, .inr (8, [.ref a1_2, .int 0, .int 0, .int (-1), .ref a2_3, .ref a3_4, .ref a4_5, .ref a5_6]))], [(a1_2, .inl (T.2 1, 600, .inl (fun _ => 0)))], [(a2_3, .inl (T.2 0, 3, .inl (fun _ => 0)))], [(a3_4, .inl (T.2 3, 2, .inr (.inr (.inr (.inr f3_7)))))], [(a4_5, .inl (T.2 4, 2, .inr (.inr (.inr (.inr f4_8)))))], [(a5_6, .inl (T.2 5, 2, .inr (.inr (.inr (.inr f5_9)))))], w1_16, w2_17, w3_18, w4_19, w5_20, w6_21, [(q_35, .inl (T.2 6, 3, .inr (.inr (.inr (.inr (va_up (va_up (va_up (fun _ => none) 0 (some q_36)) 1 (some q_72)) 2 (some q_108)))))))], w_70, w_106, w_142, [(q_144, .inl (T.2 2, 3, .inl (fun _ => 0)))], w_146] _ _ := G
  refine z_putF C G hnm clX11 0 rfl 3 (by decide) m_fl_RX11_27 rfl rfl rfl rfl (Nat.le_of_ble_eq_true rfl) dX11_init_68 (fun H locs G => ?_)
  have G : zS T A s.heap s [[(x, .inr (10, [.ref q_1, .ref q_35, .ref q_144, .ref q_145, .null, .null, .null, .null, .null, .null, .null]))], [(q_1, .inr (8, [.ref a1_2, .int 0, .int 0, .int (-1), .ref a2_3, .ref a3_4, .ref a4_5, .ref a5_6]))], [(a1_2, .inl (T.2 1, 600, .inl (fun _ => 0)))], [(a2_3, .inl (T.2 0, 3, .inl (fun _ => 0)))], [(a3_4, .inl (T.2 3, 2, .inr (.inr (.inr (.inr f3_7)))))], [(a4_5, .inl (T.2 4, 2, .inr (.inr (.inr (.inr f4_8)))))], [(a5_6, .inl (T.2 5, 2, .inr (.inr (.inr (.inr f5_9)))))], w1_16, w2_17, w3_18, w4_19, w5_20, w6_21, [(q_35, .inl (T.2 6, 3, .inr (.inr (.inr (.inr (va_up (va_up (va_up (fun _ => none) 0 (some q_36)) 1 (some q_72)) 2 (some q_108)))))))], w_70, w_106, w_142, [(q_144, .inl (T.2 2, 3, .inl (fun _ => 0)))], w_146] _ _ := G
  refine lv_aload_n hx hb dX11_init_71 rfl (lv_at hl 0 rfl) ?_
  refine z_new C G clX6 (fs := [.null, .null, .null, .int 0, .int 0, .null]) m_cl_RX11_31 m_in_RX6 m_ii_RX6 (fun j hj => by match j, hj with | 0, _ => rfl | 1, _ => rfl | 2, _ => rfl | 3, _ => rfl | 4, _ => rfl | 5, _ => rfl | j + 6, h => exact absurd h (by omega)) (Nat.le_of_ble_eq_true rfl) (Nat.le_of_ble_eq_true rfl) dX11_init_72 (fun q_149 H G => ?_)
  have G : zS T A s.heap s [[(x, .inr (10, [.ref q_1, .ref q_35, .ref q_144, .ref q_145, .null, .null, .null, .null, .null, .null, .null]))], [(q_1, .inr (8, [.ref a1_2, .int 0, .int 0, .int (-1), .ref a2_3, .ref a3_4, .ref a4_5, .ref a5_6]))], [(a1_2, .inl (T.2 1, 600, .inl (fun _ => 0)))], [(a2_3, .inl (T.2 0, 3, .inl (fun _ => 0)))], [(a3_4, .inl (T.2 3, 2, .inr (.inr (.inr (.inr f3_7)))))], [(a4_5, .inl (T.2 4, 2, .inr (.inr (.inr (.inr f4_8)))))], [(a5_6, .inl (T.2 5, 2, .inr (.inr (.inr (.inr f5_9)))))], w1_16, w2_17, w3_18, w4_19, w5_20, w6_21, [(q_35, .inl (T.2 6, 3, .inr (.inr (.inr (.inr (va_up (va_up (va_up (fun _ => none) 0 (some q_36)) 1 (some q_72)) 2 (some q_108)))))))], w_70, w_106, w_142, [(q_144, .inl (T.2 2, 3, .inl (fun _ => 0)))], w_146, [(q_149, .inr (6, [.null, .null, .null, .int 0, .int 0, .null]))]] _ _ := G
  refine lv_dup hx hb dX11_init_75 rfl ?_
  refine z_Jv (bc := [[(q_149, .inr (6, [.null, .null, .null, .int 0, .int 0, .null]))]]) (br := [[(x, .inr (10, [.ref q_1, .ref q_35, .ref q_144, .ref q_145, .null, .null, .null, .null, .null, .null, .null]))], [(q_1, .inr (8, [.ref a1_2, .int 0, .int 0, .int (-1), .ref a2_3, .ref a3_4, .ref a4_5, .ref a5_6]))], [(a1_2, .inl (T.2 1, 600, .inl (fun _ => 0)))], [(a2_3, .inl (T.2 0, 3, .inl (fun _ => 0)))], [(a3_4, .inl (T.2 3, 2, .inr (.inr (.inr (.inr f3_7)))))], [(a4_5, .inl (T.2 4, 2, .inr (.inr (.inr (.inr f4_8)))))], [(a5_6, .inl (T.2 5, 2, .inr (.inr (.inr (.inr f5_9)))))], w1_16, w2_17, w3_18, w4_19, w5_20, w6_21, [(q_35, .inl (T.2 6, 3, .inr (.inr (.inr (.inr (va_up (va_up (va_up (fun _ => none) 0 (some q_36)) 1 (some q_72)) 2 (some q_108)))))))], w_70, w_106, w_142, [(q_144, .inl (T.2 2, 3, .inl (fun _ => 0)))], w_146]) (As := []) (rest := [.ref q_149, .ref x]) C G (c_Posts_init l T q_149) (kJ_RX11_33 G.2.2.2.2.2 C.2.2.2.2 (Nat.le_of_ble_eq_true rfl) (Nat.le_of_ble_eq_true rfl)) [19] [0, 1, 2, 3, 4, 5, 6, 7, 8, 9, 10, 11, 12, 13, 14, 15, 16, 17, 18] rfl rfl rfl rfl hl.1 dX11_init_76 (Nat.le_of_ble_eq_true rfl) (Nat.le_of_ble_eq_true rfl) (fun b1 H locs hw G => ?_)
  obtain ⟨w_150, rfl, h_151⟩ := hw
  have G : zS T A s.heap s [[(x, .inr (10, [.ref q_1, .ref q_35, .ref q_144, .ref q_145, .null, .null, .null, .null, .null, .null, .null]))], [(q_1, .inr (8, [.ref a1_2, .int 0, .int 0, .int (-1), .ref a2_3, .ref a3_4, .ref a4_5, .ref a5_6]))], [(a1_2, .inl (T.2 1, 600, .inl (fun _ => 0)))], [(a2_3, .inl (T.2 0, 3, .inl (fun _ => 0)))], [(a3_4, .inl (T.2 3, 2, .inr (.inr (.inr (.inr f3_7)))))], [(a4_5, .inl (T.2 4, 2, .inr (.inr (.inr (.inr f4_8)))))], [(a5_6, .inl (T.2 5, 2, .inr (.inr (.inr (.inr f5_9)))))], w1_16, w2_17, w3_18, w4_19, w5_20, w6_21, [(q_35, .inl (T.2 6, 3, .inr (.inr (.inr (.inr (va_up (va_up (va_up (fun _ => none) 0 (some q_36)) 1 (some q_72)) 2 (some q_108)))))))], w_70, w_106, w_142, [(q_144, .inl (T.2 2, 3, .inl (fun _ => 0)))], w_146, w_150] _ _ := G
  refine z_putF C G hnm clX11 0 rfl 4 (by decide) m_fl_RX11_34 rfl rfl rfl rfl (Nat.le_of_ble_eq_true rfl) dX11_init_79 (fun H locs G => ?_)
  have G : zS T A s.heap s [[(x, .inr (10, [.ref q_1, .ref q_35, .ref q_144, .ref q_145, .ref q_149, .null, .null, .null, .null, .null, .null]))], [(q_1, .inr (8, [.ref a1_2, .int 0, .int 0, .int (-1), .ref a2_3, .ref a3_4, .ref a4_5, .ref a5_6]))], [(a1_2, .inl (T.2 1, 600, .inl (fun _ => 0)))], [(a2_3, .inl (T.2 0, 3, .inl (fun _ => 0)))], [(a3_4, .inl (T.2 3, 2, .inr (.inr (.inr (.inr f3_7)))))], [(a4_5, .inl (T.2 4, 2, .inr (.inr (.inr (.inr f4_8)))))], [(a5_6, .inl (T.2 5, 2, .inr (.inr (.inr (.inr f5_9)))))], w1_16, w2_17, w3_18, w4_19, w5_20, w6_21, [(q_35, .inl (T.2 6, 3, .inr (.inr (.inr (.inr (va_up (va_up (va_up (fun _ => none) 0 (some q_36)) 1 (some q_72)) 2 (some q_108)))))))], w_70, w_106, w_142, [(q_144, .inl (T.2 2, 3, .inl (fun _ => 0)))], w_146, w_150] _ _ := G
  refine lv_aload_n hx hb dX11_init_82 rfl (lv_at hl 0 rfl) ?_
  refine z_new C G clX1 (fs := [.null, .null, .int 0, .null, .int 0, .int 0, .int 0, .int 0, .int 0, .int 0, .int 0]) m_cl_RX11_38 m_in_RX1 m_ii_RX1 (fun j hj => by match j, hj with | 0, _ => rfl | 1, _ => rfl | 2, _ => rfl | 3, _ => rfl | 4, _ => rfl | 5, _ => rfl | 6, _ => rfl | 7, _ => rfl | 8, _ => rfl | 9, _ => rfl | 10, _ => rfl | j + 11, h => exact absurd h (by omega)) (Nat.le_of_ble_eq_true rfl) (Nat.le_of_ble_eq_true rfl) dX11_init_83 (fun q_153 H G => ?_)
  have G : zS T A s.heap s [[(x, .inr (10, [.ref q_1, .ref q_35, .ref q_144, .ref q_145, .ref q_149, .null, .null, .null, .null, .null, .null]))], [(q_1, .inr (8, [.ref a1_2, .int 0, .int 0, .int (-1), .ref a2_3, .ref a3_4, .ref a4_5, .ref a5_6]))], [(a1_2, .inl (T.2 1, 600, .inl (fun _ => 0)))], [(a2_3, .inl (T.2 0, 3, .inl (fun _ => 0)))], [(a3_4, .inl (T.2 3, 2, .inr (.inr (.inr (.inr f3_7)))))], [(a4_5, .inl (T.2 4, 2, .inr (.inr (.inr (.inr f4_8)))))], [(a5_6, .inl (T.2 5, 2, .inr (.inr (.inr (.inr f5_9)))))], w1_16, w2_17, w3_18, w4_19, w5_20, w6_21, [(q_35, .inl (T.2 6, 3, .inr (.inr (.inr (.inr (va_up (va_up (va_up (fun _ => none) 0 (some q_36)) 1 (some q_72)) 2 (some q_108)))))))], w_70, w_106, w_142, [(q_144, .inl (T.2 2, 3, .inl (fun _ => 0)))], w_146, w_150, [(q_153, .inr (1, [.null, .null, .int 0, .null, .int 0, .int 0, .int 0, .int 0, .int 0, .int 0, .int 0]))]] _ _ := G
  refine lv_dup hx hb dX11_init_86 rfl ?_
  refine z_Jv (bc := [[(q_153, .inr (1, [.null, .null, .int 0, .null, .int 0, .int 0, .int 0, .int 0, .int 0, .int 0, .int 0]))]]) (br := [[(x, .inr (10, [.ref q_1, .ref q_35, .ref q_144, .ref q_145, .ref q_149, .null, .null, .null, .null, .null, .null]))], [(q_1, .inr (8, [.ref a1_2, .int 0, .int 0, .int (-1), .ref a2_3, .ref a3_4, .ref a4_5, .ref a5_6]))], [(a1_2, .inl (T.2 1, 600, .inl (fun _ => 0)))], [(a2_3, .inl (T.2 0, 3, .inl (fun _ => 0)))], [(a3_4, .inl (T.2 3, 2, .inr (.inr (.inr (.inr f3_7)))))], [(a4_5, .inl (T.2 4, 2, .inr (.inr (.inr (.inr f4_8)))))], [(a5_6, .inl (T.2 5, 2, .inr (.inr (.inr (.inr f5_9)))))], w1_16, w2_17, w3_18, w4_19, w5_20, w6_21, [(q_35, .inl (T.2 6, 3, .inr (.inr (.inr (.inr (va_up (va_up (va_up (fun _ => none) 0 (some q_36)) 1 (some q_72)) 2 (some q_108)))))))], w_70, w_106, w_142, [(q_144, .inl (T.2 2, 3, .inl (fun _ => 0)))], w_146, w_150]) (As := []) (rest := [.ref q_153, .ref x]) C G (c_Course_init l T q_153) (kJ_RX11_40 G.2.2.2.2.2 C.2.2.2.2 (Nat.le_of_ble_eq_true rfl) (Nat.le_of_ble_eq_true rfl)) [20] [0, 1, 2, 3, 4, 5, 6, 7, 8, 9, 10, 11, 12, 13, 14, 15, 16, 17, 18, 19] rfl rfl rfl rfl hl.1 dX11_init_87 (Nat.le_of_ble_eq_true rfl) (Nat.le_of_ble_eq_true rfl) (fun b1 H locs hw G => ?_)
  obtain ⟨w_154, rfl, h_155⟩ := hw
  have G : zS T A s.heap s [[(x, .inr (10, [.ref q_1, .ref q_35, .ref q_144, .ref q_145, .ref q_149, .null, .null, .null, .null, .null, .null]))], [(q_1, .inr (8, [.ref a1_2, .int 0, .int 0, .int (-1), .ref a2_3, .ref a3_4, .ref a4_5, .ref a5_6]))], [(a1_2, .inl (T.2 1, 600, .inl (fun _ => 0)))], [(a2_3, .inl (T.2 0, 3, .inl (fun _ => 0)))], [(a3_4, .inl (T.2 3, 2, .inr (.inr (.inr (.inr f3_7)))))], [(a4_5, .inl (T.2 4, 2, .inr (.inr (.inr (.inr f4_8)))))], [(a5_6, .inl (T.2 5, 2, .inr (.inr (.inr (.inr f5_9)))))], w1_16, w2_17, w3_18, w4_19, w5_20, w6_21, [(q_35, .inl (T.2 6, 3, .inr (.inr (.inr (.inr (va_up (va_up (va_up (fun _ => none) 0 (some q_36)) 1 (some q_72)) 2 (some q_108)))))))], w_70, w_106, w_142, [(q_144, .inl (T.2 2, 3, .inl (fun _ => 0)))], w_146, w_150, w_154] _ _ := G
  refine z_putF C G hnm clX11 0 rfl 5 (by decide) m_fl_RX11_41 rfl rfl rfl rfl (Nat.le_of_ble_eq_true rfl) dX11_init_90 (fun H locs G => ?_)
  have G : zS T A s.heap s [[(x, .inr (10, [.ref q_1, .ref q_35, .ref q_144, .ref q_145, .ref q_149, .ref q_153, .null, .null, .null, .null, .null]))], [(q_1, .inr (8, [.ref a1_2, .int 0, .int 0, .int (-1), .ref a2_3, .ref a3_4, .ref a4_5, .ref a5_6]))], [(a1_2, .inl (T.2 1, 600, .inl (fun _ => 0)))], [(a2_3, .inl (T.2 0, 3, .inl (fun _ => 0)))], [(a3_4, .inl (T.2 3, 2, .inr (.inr (.inr (.inr f3_7)))))], [(a4_5, .inl (T.2 4, 2, .inr (.inr (.inr (.inr f4_8)))))], [(a5_6, .inl (T.2 5, 2, .inr (.inr (.inr (.inr f5_9)))))], w1_16, w2_17, w3_18, w4_19, w5_20, w6_21, [(q_35, .inl (T.2 6, 3, .inr (.inr (.inr (.inr (va_up (va_up (va_up (fun _ => none) 0 (some q_36)) 1 (some q_72)) 2 (some q_108)))))))], w_70, w_106, w_142, [(q_144, .inl (T.2 2, 3, .inl (fun _ => 0)))], w_146, w_150, w_154] _ _ := G
  refine lv_aload_n hx hb dX11_init_93 rfl (lv_at hl 0 rfl) ?_
  refine z_new C G clX10 (fs := [.null, .null, .null, .int 0, .int 0, .int 0, .int 0, .int 0]) m_cl_RX11_45 m_in_RX10 m_ii_RX10 (fun j hj => by match j, hj with | 0, _ => rfl | 1, _ => rfl | 2, _ => rfl | 3, _ => rfl | 4, _ => rfl | 5, _ => rfl | 6, _ => rfl | 7, _ => rfl | j + 8, h => exact absurd h (by omega)) (Nat.le_of_ble_eq_true rfl) (Nat.le_of_ble_eq_true rfl) dX11_init_94 (fun q_157 H G => ?_)
  have G : zS T A s.heap s [[(x, .inr (10, [.ref q_1, .ref q_35, .ref q_144, .ref q_145, .ref q_149, .ref q_153, .null, .null, .null, .null, .null]))], [(q_1, .inr (8, [.ref a1_2, .int 0, .int 0, .int (-1), .ref a2_3, .ref a3_4, .ref a4_5, .ref a5_6]))], [(a1_2, .inl (T.2 1, 600, .inl (fun _ => 0)))], [(a2_3, .inl (T.2 0, 3, .inl (fun _ => 0)))], [(a3_4, .inl (T.2 3, 2, .inr (.inr (.inr (.inr f3_7)))))], [(a4_5, .inl (T.2 4, 2, .inr (.inr (.inr (.inr f4_8)))))], [(a5_6, .inl (T.2 5, 2, .inr (.inr (.inr (.inr f5_9)))))], w1_16, w2_17, w3_18, w4_19, w5_20, w6_21, [(q_35, .inl (T.2 6, 3, .inr (.inr (.inr (.inr (va_up (va_up (va_up (fun _ => none) 0 (some q_36)) 1 (some q_72)) 2 (some q_108)))))))], w_70, w_106, w_142, [(q_144, .inl (T.2 2, 3, .inl (fun _ => 0)))], w_146, w_150, w_154, [(q_157, .inr (9, [.null, .null, .null, .int 0, .int 0, .int 0, .int 0, .int 0]))]] _ _ := G
  refine lv_dup hx hb dX11_init_97 rfl ?_
  refine z_Jv (bc := [[(q_157, .inr (9, [.null, .null, .null, .int 0, .int 0, .int 0, .int 0, .int 0]))]]) (br := [[(x, .inr (10, [.ref q_1, .ref q_35, .ref q_144, .ref q_145, .ref q_149, .ref q_153, .null, .null, .null, .null, .null]))], [(q_1, .inr (8, [.ref a1_2, .int 0, .int 0, .int (-1), .ref a2_3, .ref a3_4, .ref a4_5, .ref a5_6]))], [(a1_2, .inl (T.2 1, 600, .inl (fun _ => 0)))], [(a2_3, .inl (T.2 0, 3, .inl (fun _ => 0)))], [(a3_4, .inl (T.2 3, 2, .inr (.inr (.inr (.inr f3_7)))))], [(a4_5, .inl (T.2 4, 2, .inr (.inr (.inr (.inr f4_8)))))], [(a5_6, .inl (T.2 5, 2, .inr (.inr (.inr (.inr f5_9)))))], w1_16, w2_17, w3_18, w4_19, w5_20, w6_21, [(q_35, .inl (T.2 6, 3, .inr (.inr (.inr (.inr (va_up (va_up (va_up (fun _ => none) 0 (some q_36)) 1 (some q_72)) 2 (some q_108)))))))], w_70, w_106, w_142, [(q_144, .inl (T.2 2, 3, .inl (fun _ => 0)))], w_146, w_150, w_154]) (As := []) (rest := [.ref q_157, .ref x]) C G (c_Trail_init l T q_157) (kJ_RX11_47 G.2.2.2.2.2 C.2.2.2.2 (Nat.le_of_ble_eq_true rfl) (Nat.le_of_ble_eq_true rfl)) [21] [0, 1, 2, 3, 4, 5, 6, 7, 8, 9, 10, 11, 12, 13, 14, 15, 16, 17, 18, 19, 20] rfl rfl rfl rfl hl.1 dX11_init_98 (Nat.le_of_ble_eq_true rfl) (Nat.le_of_ble_eq_true rfl) (fun b1 H locs hw G => ?_)
  obtain ⟨w_158, rfl, h_159⟩ := hw
  have G : zS T A s.heap s [[(x, .inr (10, [.ref q_1, .ref q_35, .ref q_144, .ref q_145, .ref q_149, .ref q_153, .null, .null, .null, .null, .null]))], [(q_1, .inr (8, [.ref a1_2, .int 0, .int 0, .int (-1), .ref a2_3, .ref a3_4, .ref a4_5, .ref a5_6]))], [(a1_2, .inl (T.2 1, 600, .inl (fun _ => 0)))], [(a2_3, .inl (T.2 0, 3, .inl (fun _ => 0)))], [(a3_4, .inl (T.2 3, 2, .inr (.inr (.inr (.inr f3_7)))))], [(a4_5, .inl (T.2 4, 2, .inr (.inr (.inr (.inr f4_8)))))], [(a5_6, .inl (T.2 5, 2, .inr (.inr (.inr (.inr f5_9)))))], w1_16, w2_17, w3_18, w4_19, w5_20, w6_21, [(q_35, .inl (T.2 6, 3, .inr (.inr (.inr (.inr (va_up (va_up (va_up (fun _ => none) 0 (some q_36)) 1 (some q_72)) 2 (some q_108)))))))], w_70, w_106, w_142, [(q_144, .inl (T.2 2, 3, .inl (fun _ => 0)))], w_146, w_150, w_154, w_158] _ _ := G
  refine z_putF C G hnm clX11 0 rfl 6 (by decide) m_fl_RX11_48 rfl rfl rfl rfl (Nat.le_of_ble_eq_true rfl) dX11_init_101 (fun H locs G => ?_)
  have G : zS T A s.heap s [[(x, .inr (10, [.ref q_1, .ref q_35, .ref q_144, .ref q_145, .ref q_149, .ref q_153, .ref q_157, .null, .null, .null, .null]))], [(q_1, .inr (8, [.ref a1_2, .int 0, .int 0, .int (-1), .ref a2_3, .ref a3_4, .ref a4_5, .ref a5_6]))], [(a1_2, .inl (T.2 1, 600, .inl (fun _ => 0)))], [(a2_3, .inl (T.2 0, 3, .inl (fun _ => 0)))], [(a3_4, .inl (T.2 3, 2, .inr (.inr (.inr (.inr f3_7)))))], [(a4_5, .inl (T.2 4, 2, .inr (.inr (.inr (.inr f4_8)))))], [(a5_6, .inl (T.2 5, 2, .inr (.inr (.inr (.inr f5_9)))))], w1_16, w2_17, w3_18, w4_19, w5_20, w6_21, [(q_35, .inl (T.2 6, 3, .inr (.inr (.inr (.inr (va_up (va_up (va_up (fun _ => none) 0 (some q_36)) 1 (some q_72)) 2 (some q_108)))))))], w_70, w_106, w_142, [(q_144, .inl (T.2 2, 3, .inl (fun _ => 0)))], w_146, w_150, w_154, w_158] _ _ := G
  refine lv_aload_n hx hb dX11_init_104 rfl (lv_at hl 0 rfl) ?_
  refine z_new C G clX0 (fs := [.int 0, .int 0, .null, .int 0, .null, .null, .null, .null, .null, .null]) m_cl_RX11_52 m_in_RX0 m_ii_RX0 (fun j hj => by match j, hj with | 0, _ => rfl | 1, _ => rfl | 2, _ => rfl | 3, _ => rfl | 4, _ => rfl | 5, _ => rfl | 6, _ => rfl | 7, _ => rfl | 8, _ => rfl | 9, _ => rfl | j + 10, h => exact absurd h (by omega)) (Nat.le_of_ble_eq_true rfl) (Nat.le_of_ble_eq_true rfl) dX11_init_105 (fun q_161 H G => ?_)
  have G : zS T A s.heap s [[(x, .inr (10, [.ref q_1, .ref q_35, .ref q_144, .ref q_145, .ref q_149, .ref q_153, .ref q_157, .null, .null, .null, .null]))], [(q_1, .inr (8, [.ref a1_2, .int 0, .int 0, .int (-1), .ref a2_3, .ref a3_4, .ref a4_5, .ref a5_6]))], [(a1_2, .inl (T.2 1, 600, .inl (fun _ => 0)))], [(a2_3, .inl (T.2 0, 3, .inl (fun _ => 0)))], [(a3_4, .inl (T.2 3, 2, .inr (.inr (.inr (.inr f3_7)))))], [(a4_5, .inl (T.2 4, 2, .inr (.inr (.inr (.inr f4_8)))))], [(a5_6, .inl (T.2 5, 2, .inr (.inr (.inr (.inr f5_9)))))], w1_16, w2_17, w3_18, w4_19, w5_20, w6_21, [(q_35, .inl (T.2 6, 3, .inr (.inr (.inr (.inr (va_up (va_up (va_up (fun _ => none) 0 (some q_36)) 1 (some q_72)) 2 (some q_108)))))))], w_70, w_106, w_142, [(q_144, .inl (T.2 2, 3, .inl (fun _ => 0)))], w_146, w_150, w_154, w_158, [(q_161, .inr (0, [.int 0, .int 0, .null, .int 0, .null, .null, .null, .null, .null, .null]))]] _ _ := G
  refine lv_dup hx hb dX11_init_108 rfl ?_
  refine z_Jv (bc := [[(q_161, .inr (0, [.int 0, .int 0, .null, .int 0, .null, .null, .null, .null, .null, .null]))]]) (br := [[(x, .inr (10, [.ref q_1, .ref q_35, .ref q_144, .ref q_145, .ref q_149, .ref q_153, .ref q_157, .null, .null, .null, .null]))], [(q_1, .inr (8, [.ref a1_2, .int 0, .int 0, .int (-1), .ref a2_3, .ref a3_4, .ref a4_5, .ref a5_6]))], [(a1_2, .inl (T.2 1, 600, .inl (fun _ => 0)))], [(a2_3, .inl (T.2 0, 3, .inl (fun _ => 0)))], [(a3_4, .inl (T.2 3, 2, .inr (.inr (.inr (.inr f3_7)))))], [(a4_5, .inl (T.2 4, 2, .inr (.inr (.inr (.inr f4_8)))))], [(a5_6, .inl (T.2 5, 2, .inr (.inr (.inr (.inr f5_9)))))], w1_16, w2_17, w3_18, w4_19, w5_20, w6_21, [(q_35, .inl (T.2 6, 3, .inr (.inr (.inr (.inr (va_up (va_up (va_up (fun _ => none) 0 (some q_36)) 1 (some q_72)) 2 (some q_108)))))))], w_70, w_106, w_142, [(q_144, .inl (T.2 2, 3, .inl (fun _ => 0)))], w_146, w_150, w_154, w_158]) (As := []) (rest := [.ref q_161, .ref x]) C G (c_Ways_init l T q_161) (kJ_RX11_54 G.2.2.2.2.2 C.2.2.2.2 (Nat.le_of_ble_eq_true rfl) (Nat.le_of_ble_eq_true rfl)) [22] [0, 1, 2, 3, 4, 5, 6, 7, 8, 9, 10, 11, 12, 13, 14, 15, 16, 17, 18, 19, 20, 21] rfl rfl rfl rfl hl.1 dX11_init_109 (Nat.le_of_ble_eq_true rfl) (Nat.le_of_ble_eq_true rfl) (fun b1 H locs hw G => ?_)
  obtain ⟨w_162, rfl, h_163⟩ := hw
  have G : zS T A s.heap s [[(x, .inr (10, [.ref q_1, .ref q_35, .ref q_144, .ref q_145, .ref q_149, .ref q_153, .ref q_157, .null, .null, .null, .null]))], [(q_1, .inr (8, [.ref a1_2, .int 0, .int 0, .int (-1), .ref a2_3, .ref a3_4, .ref a4_5, .ref a5_6]))], [(a1_2, .inl (T.2 1, 600, .inl (fun _ => 0)))], [(a2_3, .inl (T.2 0, 3, .inl (fun _ => 0)))], [(a3_4, .inl (T.2 3, 2, .inr (.inr (.inr (.inr f3_7)))))], [(a4_5, .inl (T.2 4, 2, .inr (.inr (.inr (.inr f4_8)))))], [(a5_6, .inl (T.2 5, 2, .inr (.inr (.inr (.inr f5_9)))))], w1_16, w2_17, w3_18, w4_19, w5_20, w6_21, [(q_35, .inl (T.2 6, 3, .inr (.inr (.inr (.inr (va_up (va_up (va_up (fun _ => none) 0 (some q_36)) 1 (some q_72)) 2 (some q_108)))))))], w_70, w_106, w_142, [(q_144, .inl (T.2 2, 3, .inl (fun _ => 0)))], w_146, w_150, w_154, w_158, w_162] _ _ := G
  refine z_putF C G hnm clX11 0 rfl 7 (by decide) m_fl_RX11_55 rfl rfl rfl rfl (Nat.le_of_ble_eq_true rfl) dX11_init_112 (fun H locs G => ?_)
  have G : zS T A s.heap s [[(x, .inr (10, [.ref q_1, .ref q_35, .ref q_144, .ref q_145, .ref q_149, .ref q_153, .ref q_157, .ref q_161, .null, .null, .null]))], [(q_1, .inr (8, [.ref a1_2, .int 0, .int 0, .int (-1), .ref a2_3, .ref a3_4, .ref a4_5, .ref a5_6]))], [(a1_2, .inl (T.2 1, 600, .inl (fun _ => 0)))], [(a2_3, .inl (T.2 0, 3, .inl (fun _ => 0)))], [(a3_4, .inl (T.2 3, 2, .inr (.inr (.inr (.inr f3_7)))))], [(a4_5, .inl (T.2 4, 2, .inr (.inr (.inr (.inr f4_8)))))], [(a5_6, .inl (T.2 5, 2, .inr (.inr (.inr (.inr f5_9)))))], w1_16, w2_17, w3_18, w4_19, w5_20, w6_21, [(q_35, .inl (T.2 6, 3, .inr (.inr (.inr (.inr (va_up (va_up (va_up (fun _ => none) 0 (some q_36)) 1 (some q_72)) 2 (some q_108)))))))], w_70, w_106, w_142, [(q_144, .inl (T.2 2, 3, .inl (fun _ => 0)))], w_146, w_150, w_154, w_158, w_162] _ _ := G
  refine lv_aload_n hx hb dX11_init_115 rfl (lv_at hl 0 rfl) ?_
  refine z_new C G clX0 (fs := [.int 0, .int 0, .null, .int 0, .null, .null, .null, .null, .null, .null]) m_cl_RX11_52 m_in_RX0 m_ii_RX0 (fun j hj => by match j, hj with | 0, _ => rfl | 1, _ => rfl | 2, _ => rfl | 3, _ => rfl | 4, _ => rfl | 5, _ => rfl | 6, _ => rfl | 7, _ => rfl | 8, _ => rfl | 9, _ => rfl | j + 10, h => exact absurd h (by omega)) (Nat.le_of_ble_eq_true rfl) (Nat.le_of_ble_eq_true rfl) dX11_init_116 (fun q_165 H G => ?_)
  have G : zS T A s.heap s [[(x, .inr (10, [.ref q_1, .ref q_35, .ref q_144, .ref q_145, .ref q_149, .ref q_153, .ref q_157, .ref q_161, .null, .null, .null]))], [(q_1, .inr (8, [.ref a1_2, .int 0, .int 0, .int (-1), .ref a2_3, .ref a3_4, .ref a4_5, .ref a5_6]))], [(a1_2, .inl (T.2 1, 600, .inl (fun _ => 0)))], [(a2_3, .inl (T.2 0, 3, .inl (fun _ => 0)))], [(a3_4, .inl (T.2 3, 2, .inr (.inr (.inr (.inr f3_7)))))], [(a4_5, .inl (T.2 4, 2, .inr (.inr (.inr (.inr f4_8)))))], [(a5_6, .inl (T.2 5, 2, .inr (.inr (.inr (.inr f5_9)))))], w1_16, w2_17, w3_18, w4_19, w5_20, w6_21, [(q_35, .inl (T.2 6, 3, .inr (.inr (.inr (.inr (va_up (va_up (va_up (fun _ => none) 0 (some q_36)) 1 (some q_72)) 2 (some q_108)))))))], w_70, w_106, w_142, [(q_144, .inl (T.2 2, 3, .inl (fun _ => 0)))], w_146, w_150, w_154, w_158, w_162, [(q_165, .inr (0, [.int 0, .int 0, .null, .int 0, .null, .null, .null, .null, .null, .null]))]] _ _ := G
  refine lv_dup hx hb dX11_init_119 rfl ?_
  refine z_Jv (bc := [[(q_165, .inr (0, [.int 0, .int 0, .null, .int 0, .null, .null, .null, .null, .null, .null]))]]) (br := [[(x, .inr (10, [.ref q_1, .ref q_35, .ref q_144, .ref q_145, .ref q_149, .ref q_153, .ref q_157, .ref q_161, .null, .null, .null]))], [(q_1, .inr (8, [.ref a1_2, .int 0, .int 0, .int (-1), .ref a2_3, .ref a3_4, .ref a4_5, .ref a5_6]))], [(a1_2, .inl (T.2 1, 600, .inl (fun _ => 0)))], [(a2_3, .inl (T.2 0, 3, .inl (fun _ => 0)))], [(a3_4, .inl (T.2 3, 2, .inr (.inr (.inr (.inr f3_7)))))], [(a4_5, .inl (T.2 4, 2, .inr (.inr (.inr (.inr f4_8)))))], [(a5_6, .inl (T.2 5, 2, .inr (.inr (.inr (.inr f5_9)))))], w1_16, w2_17, w3_18, w4_19, w5_20, w6_21, [(q_35, .inl (T.2 6, 3, .inr (.inr (.inr (.inr (va_up (va_up (va_up (fun _ => none) 0 (some q_36)) 1 (some q_72)) 2 (some q_108)))))))], w_70, w_106, w_142, [(q_144, .inl (T.2 2, 3, .inl (fun _ => 0)))], w_146, w_150, w_154, w_158, w_162]) (As := []) (rest := [.ref q_165, .ref x]) C G (c_Ways_init l T q_165) (kJ_RX11_54 G.2.2.2.2.2 C.2.2.2.2 (Nat.le_of_ble_eq_true rfl) (Nat.le_of_ble_eq_true rfl)) [23] [0, 1, 2, 3, 4, 5, 6, 7, 8, 9, 10, 11, 12, 13, 14, 15, 16, 17, 18, 19, 20, 21, 22] rfl rfl rfl rfl hl.1 dX11_init_120 (Nat.le_of_ble_eq_true rfl) (Nat.le_of_ble_eq_true rfl) (fun b1 H locs hw G => ?_)
  obtain ⟨w_166, rfl, h_167⟩ := hw
  have G : zS T A s.heap s [[(x, .inr (10, [.ref q_1, .ref q_35, .ref q_144, .ref q_145, .ref q_149, .ref q_153, .ref q_157, .ref q_161, .null, .null, .null]))], [(q_1, .inr (8, [.ref a1_2, .int 0, .int 0, .int (-1), .ref a2_3, .ref a3_4, .ref a4_5, .ref a5_6]))], [(a1_2, .inl (T.2 1, 600, .inl (fun _ => 0)))], [(a2_3, .inl (T.2 0, 3, .inl (fun _ => 0)))], [(a3_4, .inl (T.2 3, 2, .inr (.inr (.inr (.inr f3_7)))))], [(a4_5, .inl (T.2 4, 2, .inr (.inr (.inr (.inr f4_8)))))], [(a5_6, .inl (T.2 5, 2, .inr (.inr (.inr (.inr f5_9)))))], w1_16, w2_17, w3_18, w4_19, w5_20, w6_21, [(q_35, .inl (T.2 6, 3, .inr (.inr (.inr (.inr (va_up (va_up (va_up (fun _ => none) 0 (some q_36)) 1 (some q_72)) 2 (some q_108)))))))], w_70, w_106, w_142, [(q_144, .inl (T.2 2, 3, .inl (fun _ => 0)))], w_146, w_150, w_154, w_158, w_162, w_166] _ _ := G
  refine z_putF C G hnm clX11 0 rfl 8 (by decide) m_fl_RX11_59 rfl rfl rfl rfl (Nat.le_of_ble_eq_true rfl) dX11_init_123 (fun H locs G => ?_)
  have G : zS T A s.heap s [[(x, .inr (10, [.ref q_1, .ref q_35, .ref q_144, .ref q_145, .ref q_149, .ref q_153, .ref q_157, .ref q_161, .ref q_165, .null, .null]))], [(q_1, .inr (8, [.ref a1_2, .int 0, .int 0, .int (-1), .ref a2_3, .ref a3_4, .ref a4_5, .ref a5_6]))], [(a1_2, .inl (T.2 1, 600, .inl (fun _ => 0)))], [(a2_3, .inl (T.2 0, 3, .inl (fun _ => 0)))], [(a3_4, .inl (T.2 3, 2, .inr (.inr (.inr (.inr f3_7)))))], [(a4_5, .inl (T.2 4, 2, .inr (.inr (.inr (.inr f4_8)))))], [(a5_6, .inl (T.2 5, 2, .inr (.inr (.inr (.inr f5_9)))))], w1_16, w2_17, w3_18, w4_19, w5_20, w6_21, [(q_35, .inl (T.2 6, 3, .inr (.inr (.inr (.inr (va_up (va_up (va_up (fun _ => none) 0 (some q_36)) 1 (some q_72)) 2 (some q_108)))))))], w_70, w_106, w_142, [(q_144, .inl (T.2 2, 3, .inl (fun _ => 0)))], w_146, w_150, w_154, w_158, w_162, w_166] _ _ := G
  refine lv_aload_n hx hb dX11_init_126 rfl (lv_at hl 0 rfl) ?_
  refine z_new C G clX3 (fs := [.int 0, .int 0, .int 0, .int 0, .int 0, .int 0, .null, .null]) m_cl_RX11_62 m_in_RX3 m_ii_RX3 (fun j hj => by match j, hj with | 0, _ => rfl | 1, _ => rfl | 2, _ => rfl | 3, _ => rfl | 4, _ => rfl | 5, _ => rfl | 6, _ => rfl | 7, _ => rfl | j + 8, h => exact absurd h (by omega)) (Nat.le_of_ble_eq_true rfl) (Nat.le_of_ble_eq_true rfl) dX11_init_127 (fun q_169 H G => ?_)
  have G : zS T A s.heap s [[(x, .inr (10, [.ref q_1, .ref q_35, .ref q_144, .ref q_145, .ref q_149, .ref q_153, .ref q_157, .ref q_161, .ref q_165, .null, .null]))], [(q_1, .inr (8, [.ref a1_2, .int 0, .int 0, .int (-1), .ref a2_3, .ref a3_4, .ref a4_5, .ref a5_6]))], [(a1_2, .inl (T.2 1, 600, .inl (fun _ => 0)))], [(a2_3, .inl (T.2 0, 3, .inl (fun _ => 0)))], [(a3_4, .inl (T.2 3, 2, .inr (.inr (.inr (.inr f3_7)))))], [(a4_5, .inl (T.2 4, 2, .inr (.inr (.inr (.inr f4_8)))))], [(a5_6, .inl (T.2 5, 2, .inr (.inr (.inr (.inr f5_9)))))], w1_16, w2_17, w3_18, w4_19, w5_20, w6_21, [(q_35, .inl (T.2 6, 3, .inr (.inr (.inr (.inr (va_up (va_up (va_up (fun _ => none) 0 (some q_36)) 1 (some q_72)) 2 (some q_108)))))))], w_70, w_106, w_142, [(q_144, .inl (T.2 2, 3, .inl (fun _ => 0)))], w_146, w_150, w_154, w_158, w_162, w_166, [(q_169, .inr (3, [.int 0, .int 0, .int 0, .int 0, .int 0, .int 0, .null, .null]))]] _ _ := G
  refine lv_dup hx hb dX11_init_130 rfl ?_
  refine z_Jv (bc := [[(q_169, .inr (3, [.int 0, .int 0, .int 0, .int 0, .int 0, .int 0, .null, .null]))]]) (br := [[(x, .inr (10, [.ref q_1, .ref q_35, .ref q_144, .ref q_145, .ref q_149, .ref q_153, .ref q_157, .ref q_161, .ref q_165, .null, .null]))], [(q_1, .inr (8, [.ref a1_2, .int 0, .int 0, .int (-1), .ref a2_3, .ref a3_4, .ref a4_5, .ref a5_6]))], [(a1_2, .inl (T.2 1, 600, .inl (fun _ => 0)))], [(a2_3, .inl (T.2 0, 3, .inl (fun _ => 0)))], [(a3_4, .inl (T.2 3, 2, .inr (.inr (.inr (.inr f3_7)))))], [(a4_5, .inl (T.2 4, 2, .inr (.inr (.inr (.inr f4_8)))))], [(a5_6, .inl (T.2 5, 2, .inr (.inr (.inr (.inr f5_9)))))], w1_16, w2_17, w3_18, w4_19, w5_20, w6_21, [(q_35, .inl (T.2 6, 3, .inr (.inr (.inr (.inr (va_up (va_up (va_up (fun _ => none) 0 (some q_36)) 1 (some q_72)) 2 (some q_108)))))))], w_70, w_106, w_142, [(q_144, .inl (T.2 2, 3, .inl (fun _ => 0)))], w_146, w_150, w_154, w_158, w_162, w_166]) (As := []) (rest := [.ref q_169, .ref x]) C G (c_Fit_init l T q_169) (kJ_RX11_64 G.2.2.2.2.2 C.2.2.2.2 (Nat.le_of_ble_eq_true rfl) (Nat.le_of_ble_eq_true rfl)) [24] [0, 1, 2, 3, 4, 5, 6, 7, 8, 9, 10, 11, 12, 13, 14, 15, 16, 17, 18, 19, 20, 21, 22, 23] rfl rfl rfl rfl hl.1 dX11_init_131 (Nat.le_of_ble_eq_true rfl) (Nat.le_of_ble_eq_true rfl) (fun b1 H locs hw G => ?_)
  obtain ⟨w_170, rfl, h_171⟩ := hw
  have G : zS T A s.heap s [[(x, .inr (10, [.ref q_1, .ref q_35, .ref q_144, .ref q_145, .ref q_149, .ref q_153, .ref q_157, .ref q_161, .ref q_165, .null, .null]))], [(q_1, .inr (8, [.ref a1_2, .int 0, .int 0, .int (-1), .ref a2_3, .ref a3_4, .ref a4_5, .ref a5_6]))], [(a1_2, .inl (T.2 1, 600, .inl (fun _ => 0)))], [(a2_3, .inl (T.2 0, 3, .inl (fun _ => 0)))], [(a3_4, .inl (T.2 3, 2, .inr (.inr (.inr (.inr f3_7)))))], [(a4_5, .inl (T.2 4, 2, .inr (.inr (.inr (.inr f4_8)))))], [(a5_6, .inl (T.2 5, 2, .inr (.inr (.inr (.inr f5_9)))))], w1_16, w2_17, w3_18, w4_19, w5_20, w6_21, [(q_35, .inl (T.2 6, 3, .inr (.inr (.inr (.inr (va_up (va_up (va_up (fun _ => none) 0 (some q_36)) 1 (some q_72)) 2 (some q_108)))))))], w_70, w_106, w_142, [(q_144, .inl (T.2 2, 3, .inl (fun _ => 0)))], w_146, w_150, w_154, w_158, w_162, w_166, w_170] _ _ := G
  refine z_putF C G hnm clX11 0 rfl 9 (by decide) m_fl_RX11_65 rfl rfl rfl rfl (Nat.le_of_ble_eq_true rfl) dX11_init_134 (fun H locs G => ?_)
  have G : zS T A s.heap s [[(x, .inr (10, [.ref q_1, .ref q_35, .ref q_144, .ref q_145, .ref q_149, .ref q_153, .ref q_157, .ref q_161, .ref q_165, .ref q_169, .null]))], [(q_1, .inr (8, [.ref a1_2, .int 0, .int 0, .int (-1), .ref a2_3, .ref a3_4, .ref a4_5, .ref a5_6]))], [(a1_2, .inl (T.2 1, 600, .inl (fun _ => 0)))], [(a2_3, .inl (T.2 0, 3, .inl (fun _ => 0)))], [(a3_4, .inl (T.2 3, 2, .inr (.inr (.inr (.inr f3_7)))))], [(a4_5, .inl (T.2 4, 2, .inr (.inr (.inr (.inr f4_8)))))], [(a5_6, .inl (T.2 5, 2, .inr (.inr (.inr (.inr f5_9)))))], w1_16, w2_17, w3_18, w4_19, w5_20, w6_21, [(q_35, .inl (T.2 6, 3, .inr (.inr (.inr (.inr (va_up (va_up (va_up (fun _ => none) 0 (some q_36)) 1 (some q_72)) 2 (some q_108)))))))], w_70, w_106, w_142, [(q_144, .inl (T.2 2, 3, .inl (fun _ => 0)))], w_146, w_150, w_154, w_158, w_162, w_166, w_170] _ _ := G
  refine lv_aload_n hx hb dX11_init_137 rfl (lv_at hl 0 rfl) ?_
  refine lv_sipush (v := 1000) hx hb dX11_init_138 (by decide) ?_
  refine z_newa C G 0 (ty := .int) (N' := 1000) (a0 := (1000, .inl (fun _ => 0))) rfl z_uint m_ar_int rfl (fun _ => rfl) (by decide) (by decide) (Nat.le_of_ble_eq_true rfl) (Nat.le_of_ble_eq_true rfl) (Nat.le_of_ble_eq_true rfl) dX11_init_141 (fun q_173 H G => ?_)
  have G : zS T A s.heap s [[(x, .inr (10, [.ref q_1, .ref q_35, .ref q_144, .ref q_145, .ref q_149, .ref q_153, .ref q_157, .ref q_161, .ref q_165, .ref q_169, .null]))], [(q_1, .inr (8, [.ref a1_2, .int 0, .int 0, .int (-1), .ref a2_3, .ref a3_4, .ref a4_5, .ref a5_6]))], [(a1_2, .inl (T.2 1, 600, .inl (fun _ => 0)))], [(a2_3, .inl (T.2 0, 3, .inl (fun _ => 0)))], [(a3_4, .inl (T.2 3, 2, .inr (.inr (.inr (.inr f3_7)))))], [(a4_5, .inl (T.2 4, 2, .inr (.inr (.inr (.inr f4_8)))))], [(a5_6, .inl (T.2 5, 2, .inr (.inr (.inr (.inr f5_9)))))], w1_16, w2_17, w3_18, w4_19, w5_20, w6_21, [(q_35, .inl (T.2 6, 3, .inr (.inr (.inr (.inr (va_up (va_up (va_up (fun _ => none) 0 (some q_36)) 1 (some q_72)) 2 (some q_108)))))))], w_70, w_106, w_142, [(q_144, .inl (T.2 2, 3, .inl (fun _ => 0)))], w_146, w_150, w_154, w_158, w_162, w_166, w_170, [(q_173, .inl (T.2 0, 1000, .inl (fun _ => 0)))]] _ _ := G
  refine z_putF C G hnm clX11 0 rfl 10 (by decide) m_fl_RX11_69 rfl rfl rfl rfl (Nat.le_of_ble_eq_true rfl) dX11_init_143 (fun H locs G => ?_)
  have G : zS T A s.heap s [[(x, .inr (10, [.ref q_1, .ref q_35, .ref q_144, .ref q_145, .ref q_149, .ref q_153, .ref q_157, .ref q_161, .ref q_165, .ref q_169, .ref q_173]))], [(q_1, .inr (8, [.ref a1_2, .int 0, .int 0, .int (-1), .ref a2_3, .ref a3_4, .ref a4_5, .ref a5_6]))], [(a1_2, .inl (T.2 1, 600, .inl (fun _ => 0)))], [(a2_3, .inl (T.2 0, 3, .inl (fun _ => 0)))], [(a3_4, .inl (T.2 3, 2, .inr (.inr (.inr (.inr f3_7)))))], [(a4_5, .inl (T.2 4, 2, .inr (.inr (.inr (.inr f4_8)))))], [(a5_6, .inl (T.2 5, 2, .inr (.inr (.inr (.inr f5_9)))))], w1_16, w2_17, w3_18, w4_19, w5_20, w6_21, [(q_35, .inl (T.2 6, 3, .inr (.inr (.inr (.inr (va_up (va_up (va_up (fun _ => none) 0 (some q_36)) 1 (some q_72)) 2 (some q_108)))))))], w_70, w_106, w_142, [(q_144, .inl (T.2 2, 3, .inl (fun _ => 0)))], w_146, w_150, w_154, w_158, w_162, w_166, w_170, [(q_173, .inl (T.2 0, 1000, .inl (fun _ => 0)))]] _ _ := G
  exact z_vret C hr hlocks G (Nat.le_of_ble_eq_true rfl) (Nat.le_of_ble_eq_true rfl) dX11_init_146 ⟨q_1, q_35, q_144, q_145, q_149, q_153, q_157, q_161, q_165, q_169, q_173, a1_2, a2_3, a3_4, a4_5, a5_6, (fun _ => 0), f3_7, f4_8, f5_9, l0_10, l1_11, d0_12, d1_13, g0_14, g1_15, w1_16, w2_17, w3_18, w4_19, w5_20, w6_21, (va_up (va_up (va_up (fun _ => none) 0 (some q_36)) 1 (some q_72)) 2 (some q_108)), q_36, q_72, q_108, w_70, w_106, w_142, w_146, w_150, w_154, w_158, w_162, w_166, w_170, rfl, h_22, h_23, h_24, h_25, h_26, h_27, h_28, h_29, h_30, h_31, h_32, h_33, rfl, rfl, rfl, hw_71, hw_107, hw_143, h_147, h_151, h_155, h_159, h_163, h_167, h_171⟩
end

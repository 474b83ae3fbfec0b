-- ===== PART A: goes FIRST, ahead of the names: the tables' words, and 'selects' of the private methods out of them =====
/-- a private method of a class that the tables say can be made, by its rows of tables_1 -/
def lw_okq (q : MethodName × Nat) : Prop := (q.1.cls ≠ "java/lang/invoke/MethodHandle" ∧ q.1.cls ≠ "java/lang/invoke/VarHandle") ∧ Cond.instantiable q.1.cls q.2 ∈ tables_1 ∧ Cond.privateMethod q.1 ∈ tables_1 ∧ Cond.instanceMethod q.1 ∈ tables_1
theorem zt1_1 {w : Cond} (h : w ∈ tables_1_1) : w ∈ tables_1 := List.mem_append_left _ h
theorem zt1_2 {w : Cond} (h : w ∈ tables_1_2) : w ∈ tables_1 := List.mem_append_right _ (List.mem_append_left _ h)
theorem zt1_3 {w : Cond} (h : w ∈ tables_1_3) : w ∈ tables_1 := List.mem_append_right _ (List.mem_append_right _ (List.mem_append_left _ h))
theorem zt1_4 {w : Cond} (h : w ∈ tables_1_4) : w ∈ tables_1 := List.mem_append_right _ (List.mem_append_right _ (List.mem_append_right _ (List.mem_append_left _ h)))
theorem zt1_5 {w : Cond} (h : w ∈ tables_1_5) : w ∈ tables_1 := List.mem_append_right _ (List.mem_append_right _ (List.mem_append_right _ (List.mem_append_right _ (List.mem_append_left _ h))))
theorem zt1_6 {w : Cond} (h : w ∈ tables_1_6) : w ∈ tables_1 := List.mem_append_right _ (List.mem_append_right _ (List.mem_append_right _ (List.mem_append_right _ (List.mem_append_right _ (List.mem_append_left _ h)))))
theorem zt1_7 {w : Cond} (h : w ∈ tables_1_7) : w ∈ tables_1 := List.mem_append_right _ (List.mem_append_right _ (List.mem_append_right _ (List.mem_append_right _ (List.mem_append_right _ (List.mem_append_right _ (List.mem_append_left _ h))))))
theorem zt1_8 {w : Cond} (h : w ∈ tables_1_8) : w ∈ tables_1 := List.mem_append_right _ (List.mem_append_right _ (List.mem_append_right _ (List.mem_append_right _ (List.mem_append_right _ (List.mem_append_right _ (List.mem_append_right _ (h)))))))
theorem lw_p0 : lw_okq (⟨"TurnedPosts$Reader", "nextToken", "()V"⟩, 13) := ⟨⟨by decide +kernel, by decide +kernel⟩, (zt1_1 (List.mem_of_getElem? (i := 160) rfl)), (zt1_3 (List.mem_of_getElem? (i := 2) rfl)), (zt1_3 (List.mem_of_getElem? (i := 3) rfl))⟩
theorem lw_p1 : lw_okq (⟨"TurnedPosts$Reader", "takeLetters", "()V"⟩, 13) := ⟨⟨by decide +kernel, by decide +kernel⟩, (zt1_1 (List.mem_of_getElem? (i := 160) rfl)), (zt1_3 (List.mem_of_getElem? (i := 12) rfl)), (zt1_3 (List.mem_of_getElem? (i := 13) rfl))⟩
theorem lw_p2 : lw_okq (⟨"TurnedPosts$Reader", "takeDigits", "()V"⟩, 13) := ⟨⟨by decide +kernel, by decide +kernel⟩, (zt1_1 (List.mem_of_getElem? (i := 160) rfl)), (zt1_3 (List.mem_of_getElem? (i := 19) rfl)), (zt1_3 (List.mem_of_getElem? (i := 20) rfl))⟩
theorem lw_p3 : lw_okq (⟨"TurnedPosts$Reader", "readLine", "(I)V"⟩, 13) := ⟨⟨by decide +kernel, by decide +kernel⟩, (zt1_1 (List.mem_of_getElem? (i := 160) rfl)), (zt1_3 (List.mem_of_getElem? (i := 23) rfl)), (zt1_3 (List.mem_of_getElem? (i := 24) rfl))⟩
theorem lw_p4 : lw_okq (⟨"TurnedPosts$Reader", "wordOf", "(I)I"⟩, 13) := ⟨⟨by decide +kernel, by decide +kernel⟩, (zt1_1 (List.mem_of_getElem? (i := 160) rfl)), (zt1_3 (List.mem_of_getElem? (i := 27) rfl)), (zt1_3 (List.mem_of_getElem? (i := 28) rfl))⟩
theorem lw_p5 : lw_okq (⟨"TurnedPosts$Reader", "reads", "(Ljava/lang/String;)Z"⟩, 13) := ⟨⟨by decide +kernel, by decide +kernel⟩, (zt1_1 (List.mem_of_getElem? (i := 160) rfl)), (zt1_3 (List.mem_of_getElem? (i := 32) rfl)), (zt1_3 (List.mem_of_getElem? (i := 33) rfl))⟩
theorem lw_p6 : lw_okq (⟨"TurnedPosts$Reader", "breakHere", "()V"⟩, 13) := ⟨⟨by decide +kernel, by decide +kernel⟩, (zt1_1 (List.mem_of_getElem? (i := 160) rfl)), (zt1_3 (List.mem_of_getElem? (i := 95) rfl)), (zt1_3 (List.mem_of_getElem? (i := 96) rfl))⟩
theorem lw_p7 : lw_okq (⟨"TurnedPosts$Reader", "readDeed", "(I)V"⟩, 13) := ⟨⟨by decide +kernel, by decide +kernel⟩, (zt1_1 (List.mem_of_getElem? (i := 160) rfl)), (zt1_3 (List.mem_of_getElem? (i := 99) rfl)), (zt1_3 (List.mem_of_getElem? (i := 100) rfl))⟩
theorem lw_p8 : lw_okq (⟨"TurnedPosts$Reader", "note", "(II)V"⟩, 13) := ⟨⟨by decide +kernel, by decide +kernel⟩, (zt1_1 (List.mem_of_getElem? (i := 160) rfl)), (zt1_3 (List.mem_of_getElem? (i := 103) rfl)), (zt1_3 (List.mem_of_getElem? (i := 104) rfl))⟩
theorem lw_p9 : lw_okq (⟨"TurnedPosts$Reader", "readNumber", "(I)I"⟩, 13) := ⟨⟨by decide +kernel, by decide +kernel⟩, (zt1_1 (List.mem_of_getElem? (i := 160) rfl)), (zt1_3 (List.mem_of_getElem? (i := 107) rfl)), (zt1_3 (List.mem_of_getElem? (i := 108) rfl))⟩
theorem lw_p10 : lw_okq (⟨"TurnedPosts$Reader", "readFact", "(I)V"⟩, 13) := ⟨⟨by decide +kernel, by decide +kernel⟩, (zt1_1 (List.mem_of_getElem? (i := 160) rfl)), (zt1_3 (List.mem_of_getElem? (i := 115) rfl)), (zt1_3 (List.mem_of_getElem? (i := 116) rfl))⟩
theorem lw_p11 : lw_okq (⟨"TurnedPosts$Reader", "readCrossing", "()V"⟩, 13) := ⟨⟨by decide +kernel, by decide +kernel⟩, (zt1_1 (List.mem_of_getElem? (i := 160) rfl)), (zt1_3 (List.mem_of_getElem? (i := 123) rfl)), (zt1_3 (List.mem_of_getElem? (i := 124) rfl))⟩
theorem lw_p12 : lw_okq (⟨"TurnedPosts$Reader", "tellOf", "(I)V"⟩, 13) := ⟨⟨by decide +kernel, by decide +kernel⟩, (zt1_1 (List.mem_of_getElem? (i := 160) rfl)), (zt1_3 (List.mem_of_getElem? (i := 135) rfl)), (zt1_3 (List.mem_of_getElem? (i := 136) rfl))⟩
theorem lw_p13 : lw_okq (⟨"TurnedPosts$Reader", "readOther", "(I)V"⟩, 13) := ⟨⟨by decide +kernel, by decide +kernel⟩, (zt1_1 (List.mem_of_getElem? (i := 160) rfl)), (zt1_3 (List.mem_of_getElem? (i := 139) rfl)), (zt1_3 (List.mem_of_getElem? (i := 140) rfl))⟩
theorem lw_p14 : lw_okq (⟨"TurnedPosts$Reader", "lookAtWhole", "()V"⟩, 13) := ⟨⟨by decide +kernel, by decide +kernel⟩, (zt1_1 (List.mem_of_getElem? (i := 160) rfl)), (zt1_3 (List.mem_of_getElem? (i := 143) rfl)), (zt1_3 (List.mem_of_getElem? (i := 144) rfl))⟩
theorem lw_p15 : lw_okq (⟨"TurnedPosts", "forgetWhatFollows", "(Z)V"⟩, 11) := ⟨⟨by decide +kernel, by decide +kernel⟩, (zt1_1 (List.mem_of_getElem? (i := 21) rfl)), (zt1_3 (List.mem_of_getElem? (i := 166) rfl)), (zt1_3 (List.mem_of_getElem? (i := 167) rfl))⟩
def lw_privs_1 : List (MethodName × Nat) := [(⟨"TurnedPosts$Reader", "nextToken", "()V"⟩, 13), (⟨"TurnedPosts$Reader", "takeLetters", "()V"⟩, 13), (⟨"TurnedPosts$Reader", "takeDigits", "()V"⟩, 13), (⟨"TurnedPosts$Reader", "readLine", "(I)V"⟩, 13), (⟨"TurnedPosts$Reader", "wordOf", "(I)I"⟩, 13), (⟨"TurnedPosts$Reader", "reads", "(Ljava/lang/String;)Z"⟩, 13), (⟨"TurnedPosts$Reader", "breakHere", "()V"⟩, 13), (⟨"TurnedPosts$Reader", "readDeed", "(I)V"⟩, 13), (⟨"TurnedPosts$Reader", "note", "(II)V"⟩, 13), (⟨"TurnedPosts$Reader", "readNumber", "(I)I"⟩, 13), (⟨"TurnedPosts$Reader", "readFact", "(I)V"⟩, 13), (⟨"TurnedPosts$Reader", "readCrossing", "()V"⟩, 13), (⟨"TurnedPosts$Reader", "tellOf", "(I)V"⟩, 13), (⟨"TurnedPosts$Reader", "readOther", "(I)V"⟩, 13), (⟨"TurnedPosts$Reader", "lookAtWhole", "()V"⟩, 13), (⟨"TurnedPosts", "forgetWhatFollows", "(Z)V"⟩, 11)]
theorem lw_r1 : ∀ q ∈ lw_privs_1, lw_okq q := List.forall_mem_cons.mpr ⟨lw_p0, List.forall_mem_cons.mpr ⟨lw_p1, List.forall_mem_cons.mpr ⟨lw_p2, List.forall_mem_cons.mpr ⟨lw_p3, List.forall_mem_cons.mpr ⟨lw_p4, List.forall_mem_cons.mpr ⟨lw_p5, List.forall_mem_cons.mpr ⟨lw_p6, List.forall_mem_cons.mpr ⟨lw_p7, List.forall_mem_cons.mpr ⟨lw_p8, List.forall_mem_cons.mpr ⟨lw_p9, List.forall_mem_cons.mpr ⟨lw_p10, List.forall_mem_cons.mpr ⟨lw_p11, List.forall_mem_cons.mpr ⟨lw_p12, List.forall_mem_cons.mpr ⟨lw_p13, List.forall_mem_cons.mpr ⟨lw_p14, List.forall_mem_cons.mpr ⟨lw_p15, fun _ h => absurd h List.not_mem_nil⟩⟩⟩⟩⟩⟩⟩⟩⟩⟩⟩⟩⟩⟩⟩⟩
theorem lw_p16 : lw_okq (⟨"TurnedPosts$Course", "begin", "(LTurnedPosts$Land;)V"⟩, 11) := ⟨⟨by decide +kernel, by decide +kernel⟩, (zt1_2 (List.mem_of_getElem? (i := 13) rfl)), (zt1_4 (List.mem_of_getElem? (i := 2) rfl)), (zt1_4 (List.mem_of_getElem? (i := 3) rfl))⟩
theorem lw_p17 : lw_okq (⟨"TurnedPosts$Course", "lookAtCrowd", "()V"⟩, 11) := ⟨⟨by decide +kernel, by decide +kernel⟩, (zt1_2 (List.mem_of_getElem? (i := 13) rfl)), (zt1_4 (List.mem_of_getElem? (i := 14) rfl)), (zt1_4 (List.mem_of_getElem? (i := 15) rfl))⟩
theorem lw_p18 : lw_okq (⟨"TurnedPosts$Course", "does", "(III)Z"⟩, 11) := ⟨⟨by decide +kernel, by decide +kernel⟩, (zt1_2 (List.mem_of_getElem? (i := 13) rfl)), (zt1_4 (List.mem_of_getElem? (i := 23) rfl)), (zt1_4 (List.mem_of_getElem? (i := 24) rfl))⟩
theorem lw_p19 : lw_okq (⟨"TurnedPosts$Course", "go", "(I)Z"⟩, 11) := ⟨⟨by decide +kernel, by decide +kernel⟩, (zt1_2 (List.mem_of_getElem? (i := 13) rfl)), (zt1_4 (List.mem_of_getElem? (i := 27) rfl)), (zt1_4 (List.mem_of_getElem? (i := 28) rfl))⟩
theorem lw_p20 : lw_okq (⟨"TurnedPosts$Course", "move", "(II)V"⟩, 11) := ⟨⟨by decide +kernel, by decide +kernel⟩, (zt1_2 (List.mem_of_getElem? (i := 13) rfl)), (zt1_4 (List.mem_of_getElem? (i := 40) rfl)), (zt1_4 (List.mem_of_getElem? (i := 41) rfl))⟩
theorem lw_p21 : lw_okq (⟨"TurnedPosts$Course", "run", "(I)Z"⟩, 11) := ⟨⟨by decide +kernel, by decide +kernel⟩, (zt1_2 (List.mem_of_getElem? (i := 13) rfl)), (zt1_4 (List.mem_of_getElem? (i := 44) rfl)), (zt1_4 (List.mem_of_getElem? (i := 45) rfl))⟩
theorem lw_p22 : lw_okq (⟨"TurnedPosts$Course", "add", "(I)Z"⟩, 11) := ⟨⟨by decide +kernel, by decide +kernel⟩, (zt1_2 (List.mem_of_getElem? (i := 13) rfl)), (zt1_4 (List.mem_of_getElem? (i := 54) rfl)), (zt1_4 (List.mem_of_getElem? (i := 55) rfl))⟩
theorem lw_p23 : lw_okq (⟨"TurnedPosts$Course", "shut", "(II)Z"⟩, 11) := ⟨⟨by decide +kernel, by decide +kernel⟩, (zt1_2 (List.mem_of_getElem? (i := 13) rfl)), (zt1_4 (List.mem_of_getElem? (i := 58) rfl)), (zt1_4 (List.mem_of_getElem? (i := 59) rfl))⟩
theorem lw_p24 : lw_okq (⟨"TurnedPosts$Course", "open", "(II)Z"⟩, 11) := ⟨⟨by decide +kernel, by decide +kernel⟩, (zt1_2 (List.mem_of_getElem? (i := 13) rfl)), (zt1_4 (List.mem_of_getElem? (i := 72) rfl)), (zt1_4 (List.mem_of_getElem? (i := 73) rfl))⟩
theorem lw_p25 : lw_okq (⟨"TurnedPosts$Course", "walkersInAll", "(Z)I"⟩, 11) := ⟨⟨by decide +kernel, by decide +kernel⟩, (zt1_2 (List.mem_of_getElem? (i := 13) rfl)), (zt1_4 (List.mem_of_getElem? (i := 88) rfl)), (zt1_4 (List.mem_of_getElem? (i := 89) rfl))⟩
theorem lw_p26 : lw_okq (⟨"TurnedPosts$Course", "unlikeTold", "()I"⟩, 11) := ⟨⟨by decide +kernel, by decide +kernel⟩, (zt1_2 (List.mem_of_getElem? (i := 13) rfl)), (zt1_4 (List.mem_of_getElem? (i := 100) rfl)), (zt1_4 (List.mem_of_getElem? (i := 101) rfl))⟩
theorem lw_p27 : lw_okq (⟨"TurnedPosts$Course", "drawBelow", "(I)I"⟩, 11) := ⟨⟨by decide +kernel, by decide +kernel⟩, (zt1_2 (List.mem_of_getElem? (i := 13) rfl)), (zt1_4 (List.mem_of_getElem? (i := 114) rfl)), (zt1_4 (List.mem_of_getElem? (i := 115) rfl))⟩
theorem lw_p28 : lw_okq (⟨"TurnedPosts$Trail", "arrive", "(II)I"⟩, 8) := ⟨⟨by decide +kernel, by decide +kernel⟩, (zt1_2 (List.mem_of_getElem? (i := 60) rfl)), (zt1_4 (List.mem_of_getElem? (i := 137) rfl)), (zt1_4 (List.mem_of_getElem? (i := 138) rfl))⟩
theorem lw_p29 : lw_okq (⟨"TurnedPosts", "placeOfCode", "(II)I"⟩, 11) := ⟨⟨by decide +kernel, by decide +kernel⟩, (zt1_1 (List.mem_of_getElem? (i := 21) rfl)), (zt1_4 (List.mem_of_getElem? (i := 190) rfl)), (zt1_4 (List.mem_of_getElem? (i := 191) rfl))⟩
theorem lw_p30 : lw_okq (⟨"TurnedPosts", "isKey", "(LTurnedPosts$Land;III)Z"⟩, 11) := ⟨⟨by decide +kernel, by decide +kernel⟩, (zt1_1 (List.mem_of_getElem? (i := 21) rfl)), (zt1_4 (List.mem_of_getElem? (i := 199) rfl)), (zt1_4 (List.mem_of_getElem? (i := 200) rfl))⟩
theorem lw_p31 : lw_okq (⟨"TurnedPosts", "waysIn", "(ILTurnedPosts$Land;)LTurnedPosts$AllWays;"⟩, 11) := ⟨⟨by decide +kernel, by decide +kernel⟩, (zt1_1 (List.mem_of_getElem? (i := 21) rfl)), (zt1_4 (List.mem_of_getElem? (i := 208) rfl)), (zt1_4 (List.mem_of_getElem? (i := 209) rfl))⟩
def lw_privs_2 : List (MethodName × Nat) := [(⟨"TurnedPosts$Course", "begin", "(LTurnedPosts$Land;)V"⟩, 11), (⟨"TurnedPosts$Course", "lookAtCrowd", "()V"⟩, 11), (⟨"TurnedPosts$Course", "does", "(III)Z"⟩, 11), (⟨"TurnedPosts$Course", "go", "(I)Z"⟩, 11), (⟨"TurnedPosts$Course", "move", "(II)V"⟩, 11), (⟨"TurnedPosts$Course", "run", "(I)Z"⟩, 11), (⟨"TurnedPosts$Course", "add", "(I)Z"⟩, 11), (⟨"TurnedPosts$Course", "shut", "(II)Z"⟩, 11), (⟨"TurnedPosts$Course", "open", "(II)Z"⟩, 11), (⟨"TurnedPosts$Course", "walkersInAll", "(Z)I"⟩, 11), (⟨"TurnedPosts$Course", "unlikeTold", "()I"⟩, 11), (⟨"TurnedPosts$Course", "drawBelow", "(I)I"⟩, 11), (⟨"TurnedPosts$Trail", "arrive", "(II)I"⟩, 8), (⟨"TurnedPosts", "placeOfCode", "(II)I"⟩, 11), (⟨"TurnedPosts", "isKey", "(LTurnedPosts$Land;III)Z"⟩, 11), (⟨"TurnedPosts", "waysIn", "(ILTurnedPosts$Land;)LTurnedPosts$AllWays;"⟩, 11)]
theorem lw_r2 : ∀ q ∈ lw_privs_2, lw_okq q := List.forall_mem_cons.mpr ⟨lw_p16, List.forall_mem_cons.mpr ⟨lw_p17, List.forall_mem_cons.mpr ⟨lw_p18, List.forall_mem_cons.mpr ⟨lw_p19, List.forall_mem_cons.mpr ⟨lw_p20, List.forall_mem_cons.mpr ⟨lw_p21, List.forall_mem_cons.mpr ⟨lw_p22, List.forall_mem_cons.mpr ⟨lw_p23, List.forall_mem_cons.mpr ⟨lw_p24, List.forall_mem_cons.mpr ⟨lw_p25, List.forall_mem_cons.mpr ⟨lw_p26, List.forall_mem_cons.mpr ⟨lw_p27, List.forall_mem_cons.mpr ⟨lw_p28, List.forall_mem_cons.mpr ⟨lw_p29, List.forall_mem_cons.mpr ⟨lw_p30, List.forall_mem_cons.mpr ⟨lw_p31, fun _ h => absurd h List.not_mem_nil⟩⟩⟩⟩⟩⟩⟩⟩⟩⟩⟩⟩⟩⟩⟩⟩
theorem lw_p32 : lw_okq (⟨"TurnedPosts$AllWays", "countWays", "(LTurnedPosts$Land;)V"⟩, 10) := ⟨⟨by decide +kernel, by decide +kernel⟩, (zt1_2 (List.mem_of_getElem? (i := 98) rfl)), (zt1_4 (List.mem_of_getElem? (i := 216) rfl)), (zt1_4 (List.mem_of_getElem? (i := 217) rfl))⟩
theorem lw_p33 : lw_okq (⟨"TurnedPosts$AllWays", "grow", "()V"⟩, 10) := ⟨⟨by decide +kernel, by decide +kernel⟩, (zt1_2 (List.mem_of_getElem? (i := 98) rfl)), (zt1_4 (List.mem_of_getElem? (i := 224) rfl)), (zt1_4 (List.mem_of_getElem? (i := 225) rfl))⟩
theorem lw_p34 : lw_okq (⟨"TurnedPosts$AllWays", "stepOnce", "()V"⟩, 10) := ⟨⟨by decide +kernel, by decide +kernel⟩, (zt1_2 (List.mem_of_getElem? (i := 98) rfl)), (zt1_4 (List.mem_of_getElem? (i := 228) rfl)), (zt1_4 (List.mem_of_getElem? (i := 229) rfl))⟩
theorem lw_p35 : lw_okq (⟨"TurnedPosts$AllWays", "doubleAll", "()V"⟩, 10) := ⟨⟨by decide +kernel, by decide +kernel⟩, (zt1_2 (List.mem_of_getElem? (i := 98) rfl)), (zt1_5 (List.mem_of_getElem? (i := 4) rfl)), (zt1_5 (List.mem_of_getElem? (i := 5) rfl))⟩
theorem lw_p36 : lw_okq (⟨"TurnedPosts$AllWays", "oneMore", "()V"⟩, 10) := ⟨⟨by decide +kernel, by decide +kernel⟩, (zt1_2 (List.mem_of_getElem? (i := 98) rfl)), (zt1_5 (List.mem_of_getElem? (i := 9) rfl)), (zt1_5 (List.mem_of_getElem? (i := 10) rfl))⟩
theorem lw_p37 : lw_okq (⟨"TurnedPosts$AllWays", "entry", "(II)I"⟩, 10) := ⟨⟨by decide +kernel, by decide +kernel⟩, (zt1_2 (List.mem_of_getElem? (i := 98) rfl)), (zt1_5 (List.mem_of_getElem? (i := 25) rfl)), (zt1_5 (List.mem_of_getElem? (i := 26) rfl))⟩
theorem lw_p38 : lw_okq (⟨"TurnedPosts$AllWays", "allComeByRow", "()Z"⟩, 10) := ⟨⟨by decide +kernel, by decide +kernel⟩, (zt1_2 (List.mem_of_getElem? (i := 98) rfl)), (zt1_5 (List.mem_of_getElem? (i := 62) rfl)), (zt1_5 (List.mem_of_getElem? (i := 63) rfl))⟩
theorem lw_p39 : lw_okq (⟨"TurnedPosts$AllWays", "comesByRow", "(I)Z"⟩, 10) := ⟨⟨by decide +kernel, by decide +kernel⟩, (zt1_2 (List.mem_of_getElem? (i := 98) rfl)), (zt1_5 (List.mem_of_getElem? (i := 66) rfl)), (zt1_5 (List.mem_of_getElem? (i := 67) rfl))⟩
theorem lw_p40 : lw_okq (⟨"TurnedPosts$AllWays", "nextRow", "()V"⟩, 10) := ⟨⟨by decide +kernel, by decide +kernel⟩, (zt1_2 (List.mem_of_getElem? (i := 98) rfl)), (zt1_5 (List.mem_of_getElem? (i := 71) rfl)), (zt1_5 (List.mem_of_getElem? (i := 72) rfl))⟩
theorem lw_p41 : lw_okq (⟨"TurnedPosts", "fit", "(II)Z"⟩, 11) := ⟨⟨by decide +kernel, by decide +kernel⟩, (zt1_1 (List.mem_of_getElem? (i := 21) rfl)), (zt1_5 (List.mem_of_getElem? (i := 111) rfl)), (zt1_5 (List.mem_of_getElem? (i := 112) rfl))⟩
theorem lw_p42 : lw_okq (⟨"TurnedPosts$Fitting", "grow", "(I)V"⟩, 8) := ⟨⟨by decide +kernel, by decide +kernel⟩, (zt1_2 (List.mem_of_getElem? (i := 141) rfl)), (zt1_5 (List.mem_of_getElem? (i := 119) rfl)), (zt1_5 (List.mem_of_getElem? (i := 120) rfl))⟩
theorem lw_p43 : lw_okq (⟨"TurnedPosts$Fitting", "tryWay", "(LTurnedPosts$AllWays;LTurnedPosts$Log;I)V"⟩, 8) := ⟨⟨by decide +kernel, by decide +kernel⟩, (zt1_2 (List.mem_of_getElem? (i := 141) rfl)), (zt1_5 (List.mem_of_getElem? (i := 123) rfl)), (zt1_5 (List.mem_of_getElem? (i := 124) rfl))⟩
theorem lw_p44 : lw_okq (⟨"TurnedPosts$Fitting", "mostTogether", "(LTurnedPosts$AllWays;I)I"⟩, 8) := ⟨⟨by decide +kernel, by decide +kernel⟩, (zt1_2 (List.mem_of_getElem? (i := 141) rfl)), (zt1_5 (List.mem_of_getElem? (i := 141) rfl)), (zt1_5 (List.mem_of_getElem? (i := 142) rfl))⟩
theorem lw_p45 : lw_okq (⟨"TurnedPostsModel", "isOf", "(II)Z"⟩, 43) := ⟨⟨by decide +kernel, by decide +kernel⟩, (zt1_5 (List.mem_of_getElem? (i := 230) rfl)), (zt1_6 (List.mem_of_getElem? (i := 141) rfl)), (zt1_6 (List.mem_of_getElem? (i := 142) rfl))⟩
theorem lw_p46 : lw_okq (⟨"TurnedPostsModel", "advance", "()V"⟩, 43) := ⟨⟨by decide +kernel, by decide +kernel⟩, (zt1_5 (List.mem_of_getElem? (i := 230) rfl)), (zt1_6 (List.mem_of_getElem? (i := 145) rfl)), (zt1_6 (List.mem_of_getElem? (i := 146) rfl))⟩
theorem lw_p47 : lw_okq (⟨"TurnedPostsModel", "byteAt", "(I)I"⟩, 43) := ⟨⟨by decide +kernel, by decide +kernel⟩, (zt1_5 (List.mem_of_getElem? (i := 230) rfl)), (zt1_6 (List.mem_of_getElem? (i := 149) rfl)), (zt1_6 (List.mem_of_getElem? (i := 150) rfl))⟩
def lw_privs_3 : List (MethodName × Nat) := [(⟨"TurnedPosts$AllWays", "countWays", "(LTurnedPosts$Land;)V"⟩, 10), (⟨"TurnedPosts$AllWays", "grow", "()V"⟩, 10), (⟨"TurnedPosts$AllWays", "stepOnce", "()V"⟩, 10), (⟨"TurnedPosts$AllWays", "doubleAll", "()V"⟩, 10), (⟨"TurnedPosts$AllWays", "oneMore", "()V"⟩, 10), (⟨"TurnedPosts$AllWays", "entry", "(II)I"⟩, 10), (⟨"TurnedPosts$AllWays", "allComeByRow", "()Z"⟩, 10), (⟨"TurnedPosts$AllWays", "comesByRow", "(I)Z"⟩, 10), (⟨"TurnedPosts$AllWays", "nextRow", "()V"⟩, 10), (⟨"TurnedPosts", "fit", "(II)Z"⟩, 11), (⟨"TurnedPosts$Fitting", "grow", "(I)V"⟩, 8), (⟨"TurnedPosts$Fitting", "tryWay", "(LTurnedPosts$AllWays;LTurnedPosts$Log;I)V"⟩, 8), (⟨"TurnedPosts$Fitting", "mostTogether", "(LTurnedPosts$AllWays;I)I"⟩, 8), (⟨"TurnedPostsModel", "isOf", "(II)Z"⟩, 43), (⟨"TurnedPostsModel", "advance", "()V"⟩, 43), (⟨"TurnedPostsModel", "byteAt", "(I)I"⟩, 43)]
theorem lw_r3 : ∀ q ∈ lw_privs_3, lw_okq q := List.forall_mem_cons.mpr ⟨lw_p32, List.forall_mem_cons.mpr ⟨lw_p33, List.forall_mem_cons.mpr ⟨lw_p34, List.forall_mem_cons.mpr ⟨lw_p35, List.forall_mem_cons.mpr ⟨lw_p36, List.forall_mem_cons.mpr ⟨lw_p37, List.forall_mem_cons.mpr ⟨lw_p38, List.forall_mem_cons.mpr ⟨lw_p39, List.forall_mem_cons.mpr ⟨lw_p40, List.forall_mem_cons.mpr ⟨lw_p41, List.forall_mem_cons.mpr ⟨lw_p42, List.forall_mem_cons.mpr ⟨lw_p43, List.forall_mem_cons.mpr ⟨lw_p44, List.forall_mem_cons.mpr ⟨lw_p45, List.forall_mem_cons.mpr ⟨lw_p46, List.forall_mem_cons.mpr ⟨lw_p47, fun _ h => absurd h List.not_mem_nil⟩⟩⟩⟩⟩⟩⟩⟩⟩⟩⟩⟩⟩⟩⟩⟩
theorem lw_p48 : lw_okq (⟨"TurnedPostsModel", "landLine", "()V"⟩, 43) := ⟨⟨by decide +kernel, by decide +kernel⟩, (zt1_5 (List.mem_of_getElem? (i := 230) rfl)), (zt1_6 (List.mem_of_getElem? (i := 171) rfl)), (zt1_6 (List.mem_of_getElem? (i := 172) rfl))⟩
theorem lw_p49 : lw_okq (⟨"TurnedPostsModel", "wordIn", "(II)I"⟩, 43) := ⟨⟨by decide +kernel, by decide +kernel⟩, (zt1_5 (List.mem_of_getElem? (i := 230) rfl)), (zt1_6 (List.mem_of_getElem? (i := 175) rfl)), (zt1_6 (List.mem_of_getElem? (i := 176) rfl))⟩
theorem lw_p50 : lw_okq (⟨"TurnedPostsModel", "ends", "()V"⟩, 43) := ⟨⟨by decide +kernel, by decide +kernel⟩, (zt1_5 (List.mem_of_getElem? (i := 230) rfl)), (zt1_6 (List.mem_of_getElem? (i := 179) rfl)), (zt1_6 (List.mem_of_getElem? (i := 180) rfl))⟩
theorem lw_p51 : lw_okq (⟨"TurnedPostsModel", "crossTold", "(I)V"⟩, 43) := ⟨⟨by decide +kernel, by decide +kernel⟩, (zt1_5 (List.mem_of_getElem? (i := 230) rfl)), (zt1_6 (List.mem_of_getElem? (i := 183) rfl)), (zt1_6 (List.mem_of_getElem? (i := 184) rfl))⟩
theorem lw_p52 : lw_okq (⟨"TurnedPostsModel", "also", "(II)V"⟩, 43) := ⟨⟨by decide +kernel, by decide +kernel⟩, (zt1_5 (List.mem_of_getElem? (i := 230) rfl)), (zt1_6 (List.mem_of_getElem? (i := 187) rfl)), (zt1_6 (List.mem_of_getElem? (i := 188) rfl))⟩
theorem lw_p53 : lw_okq (⟨"TurnedPostsModel", "crossingTold", "()I"⟩, 43) := ⟨⟨by decide +kernel, by decide +kernel⟩, (zt1_5 (List.mem_of_getElem? (i := 230) rfl)), (zt1_6 (List.mem_of_getElem? (i := 191) rfl)), (zt1_6 (List.mem_of_getElem? (i := 192) rfl))⟩
theorem lw_p54 : lw_okq (⟨"TurnedPostsModel", "numbered", "(II)I"⟩, 43) := ⟨⟨by decide +kernel, by decide +kernel⟩, (zt1_5 (List.mem_of_getElem? (i := 230) rfl)), (zt1_6 (List.mem_of_getElem? (i := 195) rfl)), (zt1_6 (List.mem_of_getElem? (i := 196) rfl))⟩
theorem lw_p55 : lw_okq (⟨"TurnedPostsModel", "endsLine", "()V"⟩, 43) := ⟨⟨by decide +kernel, by decide +kernel⟩, (zt1_5 (List.mem_of_getElem? (i := 230) rfl)), (zt1_6 (List.mem_of_getElem? (i := 199) rfl)), (zt1_6 (List.mem_of_getElem? (i := 200) rfl))⟩
theorem lw_p56 : lw_okq (⟨"TurnedPostsModel", "dayLine", "()V"⟩, 43) := ⟨⟨by decide +kernel, by decide +kernel⟩, (zt1_5 (List.mem_of_getElem? (i := 230) rfl)), (zt1_6 (List.mem_of_getElem? (i := 203) rfl)), (zt1_6 (List.mem_of_getElem? (i := 204) rfl))⟩
theorem lw_p57 : lw_okq (⟨"TurnedPostsModel", "logLine", "()V"⟩, 43) := ⟨⟨by decide +kernel, by decide +kernel⟩, (zt1_5 (List.mem_of_getElem? (i := 230) rfl)), (zt1_6 (List.mem_of_getElem? (i := 207) rfl)), (zt1_6 (List.mem_of_getElem? (i := 208) rfl))⟩
theorem lw_p58 : lw_okq (⟨"TurnedPostsModel", "postsAreThere", "()Z"⟩, 43) := ⟨⟨by decide +kernel, by decide +kernel⟩, (zt1_5 (List.mem_of_getElem? (i := 230) rfl)), (zt1_6 (List.mem_of_getElem? (i := 211) rfl)), (zt1_6 (List.mem_of_getElem? (i := 212) rfl))⟩
theorem lw_p59 : lw_okq (⟨"TurnedPostsModel", "isLand", "(I)Z"⟩, 43) := ⟨⟨by decide +kernel, by decide +kernel⟩, (zt1_5 (List.mem_of_getElem? (i := 230) rfl)), (zt1_6 (List.mem_of_getElem? (i := 229) rfl)), (zt1_6 (List.mem_of_getElem? (i := 230) rfl))⟩
theorem lw_p60 : lw_okq (⟨"TurnedPostsModel", "begins", "()V"⟩, 43) := ⟨⟨by decide +kernel, by decide +kernel⟩, (zt1_5 (List.mem_of_getElem? (i := 230) rfl)), (zt1_6 (List.mem_of_getElem? (i := 233) rfl)), (zt1_6 (List.mem_of_getElem? (i := 234) rfl))⟩
theorem lw_p61 : lw_okq (⟨"TurnedPostsModel", "postTold", "(I)I"⟩, 43) := ⟨⟨by decide +kernel, by decide +kernel⟩, (zt1_5 (List.mem_of_getElem? (i := 230) rfl)), (zt1_6 (List.mem_of_getElem? (i := 237) rfl)), (zt1_6 (List.mem_of_getElem? (i := 238) rfl))⟩
theorem lw_p62 : lw_okq (⟨"TurnedPostsModel", "isCrossing", "(I)Z"⟩, 43) := ⟨⟨by decide +kernel, by decide +kernel⟩, (zt1_5 (List.mem_of_getElem? (i := 230) rfl)), (zt1_7 (List.mem_of_getElem? (i := 1) rfl)), (zt1_7 (List.mem_of_getElem? (i := 2) rfl))⟩
theorem lw_p63 : lw_okq (⟨"TurnedPostsModel", "roadsOf", "(I)I"⟩, 43) := ⟨⟨by decide +kernel, by decide +kernel⟩, (zt1_5 (List.mem_of_getElem? (i := 230) rfl)), (zt1_7 (List.mem_of_getElem? (i := 5) rfl)), (zt1_7 (List.mem_of_getElem? (i := 6) rfl))⟩
def lw_privs_4 : List (MethodName × Nat) := [(⟨"TurnedPostsModel", "landLine", "()V"⟩, 43), (⟨"TurnedPostsModel", "wordIn", "(II)I"⟩, 43), (⟨"TurnedPostsModel", "ends", "()V"⟩, 43), (⟨"TurnedPostsModel", "crossTold", "(I)V"⟩, 43), (⟨"TurnedPostsModel", "also", "(II)V"⟩, 43), (⟨"TurnedPostsModel", "crossingTold", "()I"⟩, 43), (⟨"TurnedPostsModel", "numbered", "(II)I"⟩, 43), (⟨"TurnedPostsModel", "endsLine", "()V"⟩, 43), (⟨"TurnedPostsModel", "dayLine", "()V"⟩, 43), (⟨"TurnedPostsModel", "logLine", "()V"⟩, 43), (⟨"TurnedPostsModel", "postsAreThere", "()Z"⟩, 43), (⟨"TurnedPostsModel", "isLand", "(I)Z"⟩, 43), (⟨"TurnedPostsModel", "begins", "()V"⟩, 43), (⟨"TurnedPostsModel", "postTold", "(I)I"⟩, 43), (⟨"TurnedPostsModel", "isCrossing", "(I)Z"⟩, 43), (⟨"TurnedPostsModel", "roadsOf", "(I)I"⟩, 43)]
theorem lw_r4 : ∀ q ∈ lw_privs_4, lw_okq q := List.forall_mem_cons.mpr ⟨lw_p48, List.forall_mem_cons.mpr ⟨lw_p49, List.forall_mem_cons.mpr ⟨lw_p50, List.forall_mem_cons.mpr ⟨lw_p51, List.forall_mem_cons.mpr ⟨lw_p52, List.forall_mem_cons.mpr ⟨lw_p53, List.forall_mem_cons.mpr ⟨lw_p54, List.forall_mem_cons.mpr ⟨lw_p55, List.forall_mem_cons.mpr ⟨lw_p56, List.forall_mem_cons.mpr ⟨lw_p57, List.forall_mem_cons.mpr ⟨lw_p58, List.forall_mem_cons.mpr ⟨lw_p59, List.forall_mem_cons.mpr ⟨lw_p60, List.forall_mem_cons.mpr ⟨lw_p61, List.forall_mem_cons.mpr ⟨lw_p62, List.forall_mem_cons.mpr ⟨lw_p63, fun _ h => absurd h List.not_mem_nil⟩⟩⟩⟩⟩⟩⟩⟩⟩⟩⟩⟩⟩⟩⟩⟩
theorem lw_p64 : lw_okq (⟨"TurnedPostsModel", "leadsTo", "(II)I"⟩, 43) := ⟨⟨by decide +kernel, by decide +kernel⟩, (zt1_5 (List.mem_of_getElem? (i := 230) rfl)), (zt1_7 (List.mem_of_getElem? (i := 9) rfl)), (zt1_7 (List.mem_of_getElem? (i := 10) rfl))⟩
theorem lw_p65 : lw_okq (⟨"TurnedPostsModel", "walks", "(I)Z"⟩, 43) := ⟨⟨by decide +kernel, by decide +kernel⟩, (zt1_5 (List.mem_of_getElem? (i := 230) rfl)), (zt1_7 (List.mem_of_getElem? (i := 17) rfl)), (zt1_7 (List.mem_of_getElem? (i := 18) rfl))⟩
theorem lw_p66 : lw_okq (⟨"TurnedPostsModel", "puts", "(I)V"⟩, 43) := ⟨⟨by decide +kernel, by decide +kernel⟩, (zt1_5 (List.mem_of_getElem? (i := 230) rfl)), (zt1_7 (List.mem_of_getElem? (i := 21) rfl)), (zt1_7 (List.mem_of_getElem? (i := 22) rfl))⟩
theorem lw_p67 : lw_okq (⟨"TurnedPostsModel", "stepsOn", "()Z"⟩, 43) := ⟨⟨by decide +kernel, by decide +kernel⟩, (zt1_5 (List.mem_of_getElem? (i := 230) rfl)), (zt1_7 (List.mem_of_getElem? (i := 25) rfl)), (zt1_7 (List.mem_of_getElem? (i := 26) rfl))⟩
theorem lw_p68 : lw_okq (⟨"TurnedPostsModel", "isInn", "(I)Z"⟩, 43) := ⟨⟨by decide +kernel, by decide +kernel⟩, (zt1_5 (List.mem_of_getElem? (i := 230) rfl)), (zt1_7 (List.mem_of_getElem? (i := 29) rfl)), (zt1_7 (List.mem_of_getElem? (i := 30) rfl))⟩
theorem lw_p69 : lw_okq (⟨"TurnedPostsModel", "turns", "(I)Z"⟩, 43) := ⟨⟨by decide +kernel, by decide +kernel⟩, (zt1_5 (List.mem_of_getElem? (i := 230) rfl)), (zt1_7 (List.mem_of_getElem? (i := 33) rfl)), (zt1_7 (List.mem_of_getElem? (i := 34) rfl))⟩
theorem lw_p70 : lw_okq (⟨"TurnedPostsModel", "postsNow", "()I"⟩, 43) := ⟨⟨by decide +kernel, by decide +kernel⟩, (zt1_5 (List.mem_of_getElem? (i := 230) rfl)), (zt1_7 (List.mem_of_getElem? (i := 53) rfl)), (zt1_7 (List.mem_of_getElem? (i := 54) rfl))⟩
theorem lw_p71 : lw_okq (⟨"TurnedPostsModel", "setBy", "(II)I"⟩, 43) := ⟨⟨by decide +kernel, by decide +kernel⟩, (zt1_5 (List.mem_of_getElem? (i := 230) rfl)), (zt1_7 (List.mem_of_getElem? (i := 61) rfl)), (zt1_7 (List.mem_of_getElem? (i := 62) rfl))⟩
theorem lw_p72 : lw_okq (⟨"TurnedPostsModel", "waysMany", "()I"⟩, 43) := ⟨⟨by decide +kernel, by decide +kernel⟩, (zt1_5 (List.mem_of_getElem? (i := 230) rfl)), (zt1_7 (List.mem_of_getElem? (i := 65) rfl)), (zt1_7 (List.mem_of_getElem? (i := 66) rfl))⟩
theorem lw_p73 : lw_okq (⟨"TurnedPostsModel", "isFree", "(I)Z"⟩, 43) := ⟨⟨by decide +kernel, by decide +kernel⟩, (zt1_5 (List.mem_of_getElem? (i := 230) rfl)), (zt1_7 (List.mem_of_getElem? (i := 69) rfl)), (zt1_7 (List.mem_of_getElem? (i := 70) rfl))⟩
theorem lw_p74 : lw_okq (⟨"TurnedPostsModel", "setsWay", "(I)V"⟩, 43) := ⟨⟨by decide +kernel, by decide +kernel⟩, (zt1_5 (List.mem_of_getElem? (i := 230) rfl)), (zt1_7 (List.mem_of_getElem? (i := 73) rfl)), (zt1_7 (List.mem_of_getElem? (i := 74) rfl))⟩
theorem lw_p75 : lw_okq (⟨"TurnedPostsModel", "unlikeTold", "()I"⟩, 43) := ⟨⟨by decide +kernel, by decide +kernel⟩, (zt1_5 (List.mem_of_getElem? (i := 230) rfl)), (zt1_7 (List.mem_of_getElem? (i := 77) rfl)), (zt1_7 (List.mem_of_getElem? (i := 78) rfl))⟩
theorem lw_p76 : lw_okq (⟨"TurnedPostsModel", "ledTo", "(II)I"⟩, 43) := ⟨⟨by decide +kernel, by decide +kernel⟩, (zt1_5 (List.mem_of_getElem? (i := 230) rfl)), (zt1_7 (List.mem_of_getElem? (i := 102) rfl)), (zt1_7 (List.mem_of_getElem? (i := 103) rfl))⟩
theorem lw_p77 : lw_okq (⟨"TurnedPostsModel", "gameBy", "(III)I"⟩, 43) := ⟨⟨by decide +kernel, by decide +kernel⟩, (zt1_5 (List.mem_of_getElem? (i := 230) rfl)), (zt1_7 (List.mem_of_getElem? (i := 110) rfl)), (zt1_7 (List.mem_of_getElem? (i := 111) rfl))⟩
theorem lw_p78 : lw_okq (⟨"TurnedPostsModel", "laysFar", "()V"⟩, 43) := ⟨⟨by decide +kernel, by decide +kernel⟩, (zt1_5 (List.mem_of_getElem? (i := 230) rfl)), (zt1_7 (List.mem_of_getElem? (i := 118) rfl)), (zt1_7 (List.mem_of_getElem? (i := 119) rfl))⟩
theorem lw_p79 : lw_okq (⟨"TurnedPostsModel", "roads5", "(I)I"⟩, 43) := ⟨⟨by decide +kernel, by decide +kernel⟩, (zt1_5 (List.mem_of_getElem? (i := 230) rfl)), (zt1_7 (List.mem_of_getElem? (i := 122) rfl)), (zt1_7 (List.mem_of_getElem? (i := 123) rfl))⟩
def lw_privs_5 : List (MethodName × Nat) := [(⟨"TurnedPostsModel", "leadsTo", "(II)I"⟩, 43), (⟨"TurnedPostsModel", "walks", "(I)Z"⟩, 43), (⟨"TurnedPostsModel", "puts", "(I)V"⟩, 43), (⟨"TurnedPostsModel", "stepsOn", "()Z"⟩, 43), (⟨"TurnedPostsModel", "isInn", "(I)Z"⟩, 43), (⟨"TurnedPostsModel", "turns", "(I)Z"⟩, 43), (⟨"TurnedPostsModel", "postsNow", "()I"⟩, 43), (⟨"TurnedPostsModel", "setBy", "(II)I"⟩, 43), (⟨"TurnedPostsModel", "waysMany", "()I"⟩, 43), (⟨"TurnedPostsModel", "isFree", "(I)Z"⟩, 43), (⟨"TurnedPostsModel", "setsWay", "(I)V"⟩, 43), (⟨"TurnedPostsModel", "unlikeTold", "()I"⟩, 43), (⟨"TurnedPostsModel", "ledTo", "(II)I"⟩, 43), (⟨"TurnedPostsModel", "gameBy", "(III)I"⟩, 43), (⟨"TurnedPostsModel", "laysFar", "()V"⟩, 43), (⟨"TurnedPostsModel", "roads5", "(I)I"⟩, 43)]
theorem lw_r5 : ∀ q ∈ lw_privs_5, lw_okq q := List.forall_mem_cons.mpr ⟨lw_p64, List.forall_mem_cons.mpr ⟨lw_p65, List.forall_mem_cons.mpr ⟨lw_p66, List.forall_mem_cons.mpr ⟨lw_p67, List.forall_mem_cons.mpr ⟨lw_p68, List.forall_mem_cons.mpr ⟨lw_p69, List.forall_mem_cons.mpr ⟨lw_p70, List.forall_mem_cons.mpr ⟨lw_p71, List.forall_mem_cons.mpr ⟨lw_p72, List.forall_mem_cons.mpr ⟨lw_p73, List.forall_mem_cons.mpr ⟨lw_p74, List.forall_mem_cons.mpr ⟨lw_p75, List.forall_mem_cons.mpr ⟨lw_p76, List.forall_mem_cons.mpr ⟨lw_p77, List.forall_mem_cons.mpr ⟨lw_p78, List.forall_mem_cons.mpr ⟨lw_p79, fun _ h => absurd h List.not_mem_nil⟩⟩⟩⟩⟩⟩⟩⟩⟩⟩⟩⟩⟩⟩⟩⟩
theorem lw_p80 : lw_okq (⟨"TurnedPostsModel", "reachOf", "(I)I"⟩, 43) := ⟨⟨by decide +kernel, by decide +kernel⟩, (zt1_5 (List.mem_of_getElem? (i := 230) rfl)), (zt1_7 (List.mem_of_getElem? (i := 130) rfl)), (zt1_7 (List.mem_of_getElem? (i := 131) rfl))⟩
theorem lw_p81 : lw_okq (⟨"TurnedPostsModel", "classesOf", "(Z)I"⟩, 43) := ⟨⟨by decide +kernel, by decide +kernel⟩, (zt1_5 (List.mem_of_getElem? (i := 230) rfl)), (zt1_7 (List.mem_of_getElem? (i := 138) rfl)), (zt1_7 (List.mem_of_getElem? (i := 139) rfl))⟩
theorem lw_p82 : lw_okq (⟨"TurnedPostsModel", "classOf", "(I)I"⟩, 43) := ⟨⟨by decide +kernel, by decide +kernel⟩, (zt1_5 (List.mem_of_getElem? (i := 230) rfl)), (zt1_7 (List.mem_of_getElem? (i := 142) rfl)), (zt1_7 (List.mem_of_getElem? (i := 143) rfl))⟩
theorem lw_p83 : lw_okq (⟨"TurnedPostsModel", "crossingsOf", "(I)I"⟩, 43) := ⟨⟨by decide +kernel, by decide +kernel⟩, (zt1_5 (List.mem_of_getElem? (i := 230) rfl)), (zt1_7 (List.mem_of_getElem? (i := 146) rfl)), (zt1_7 (List.mem_of_getElem? (i := 147) rfl))⟩
theorem lw_p84 : lw_okq (⟨"TurnedPostsModel", "leadHere", "(IZ)I"⟩, 43) := ⟨⟨by decide +kernel, by decide +kernel⟩, (zt1_5 (List.mem_of_getElem? (i := 230) rfl)), (zt1_7 (List.mem_of_getElem? (i := 150) rfl)), (zt1_7 (List.mem_of_getElem? (i := 151) rfl))⟩
theorem lw_p85 : lw_okq (⟨"TurnedPostsModel", "loops", "(Z)I"⟩, 43) := ⟨⟨by decide +kernel, by decide +kernel⟩, (zt1_5 (List.mem_of_getElem? (i := 230) rfl)), (zt1_7 (List.mem_of_getElem? (i := 154) rfl)), (zt1_7 (List.mem_of_getElem? (i := 155) rfl))⟩
theorem lw_p86 : lw_okq (⟨"TurnedPostsModel", "busyOf", "()I"⟩, 43) := ⟨⟨by decide +kernel, by decide +kernel⟩, (zt1_5 (List.mem_of_getElem? (i := 230) rfl)), (zt1_7 (List.mem_of_getElem? (i := 158) rfl)), (zt1_7 (List.mem_of_getElem? (i := 159) rfl))⟩
theorem lw_p87 : lw_okq (⟨"TurnedPostsModel", "walksFar", "(I)V"⟩, 43) := ⟨⟨by decide +kernel, by decide +kernel⟩, (zt1_5 (List.mem_of_getElem? (i := 230) rfl)), (zt1_7 (List.mem_of_getElem? (i := 170) rfl)), (zt1_7 (List.mem_of_getElem? (i := 171) rfl))⟩
theorem lw_p88 : lw_okq (⟨"TurnedPostsModel", "unusedOf", "(I)I"⟩, 43) := ⟨⟨by decide +kernel, by decide +kernel⟩, (zt1_5 (List.mem_of_getElem? (i := 230) rfl)), (zt1_7 (List.mem_of_getElem? (i := 174) rfl)), (zt1_7 (List.mem_of_getElem? (i := 175) rfl))⟩
theorem lw_p89 : lw_okq (⟨"TurnedPostsModel", "roundOf", "()I"⟩, 43) := ⟨⟨by decide +kernel, by decide +kernel⟩, (zt1_5 (List.mem_of_getElem? (i := 230) rfl)), (zt1_7 (List.mem_of_getElem? (i := 178) rfl)), (zt1_7 (List.mem_of_getElem? (i := 179) rfl))⟩
theorem lw_p90 : lw_okq (⟨"TurnedPostsModel", "numberOf", "(I)I"⟩, 43) := ⟨⟨by decide +kernel, by decide +kernel⟩, (zt1_5 (List.mem_of_getElem? (i := 230) rfl)), (zt1_7 (List.mem_of_getElem? (i := 186) rfl)), (zt1_7 (List.mem_of_getElem? (i := 187) rfl))⟩
theorem lw_p91 : lw_okq (⟨"TurnedPostsModel", "isDay", "(I)Z"⟩, 43) := ⟨⟨by decide +kernel, by decide +kernel⟩, (zt1_5 (List.mem_of_getElem? (i := 230) rfl)), (zt1_7 (List.mem_of_getElem? (i := 202) rfl)), (zt1_7 (List.mem_of_getElem? (i := 203) rfl))⟩
theorem lw_p92 : lw_okq (⟨"TurnedPostsModel", "runs", "(I)V"⟩, 43) := ⟨⟨by decide +kernel, by decide +kernel⟩, (zt1_5 (List.mem_of_getElem? (i := 230) rfl)), (zt1_7 (List.mem_of_getElem? (i := 210) rfl)), (zt1_7 (List.mem_of_getElem? (i := 211) rfl))⟩
theorem lw_p93 : lw_okq (⟨"TurnedPostsModel", "beginsDay", "()V"⟩, 43) := ⟨⟨by decide +kernel, by decide +kernel⟩, (zt1_5 (List.mem_of_getElem? (i := 230) rfl)), (zt1_7 (List.mem_of_getElem? (i := 214) rfl)), (zt1_7 (List.mem_of_getElem? (i := 215) rfl))⟩
theorem lw_p94 : lw_okq (⟨"TurnedPostsModel", "looks", "()V"⟩, 43) := ⟨⟨by decide +kernel, by decide +kernel⟩, (zt1_5 (List.mem_of_getElem? (i := 230) rfl)), (zt1_7 (List.mem_of_getElem? (i := 218) rfl)), (zt1_7 (List.mem_of_getElem? (i := 219) rfl))⟩
theorem lw_p95 : lw_okq (⟨"TurnedPostsModel", "does", "(III)Z"⟩, 43) := ⟨⟨by decide +kernel, by decide +kernel⟩, (zt1_5 (List.mem_of_getElem? (i := 230) rfl)), (zt1_7 (List.mem_of_getElem? (i := 222) rfl)), (zt1_7 (List.mem_of_getElem? (i := 223) rfl))⟩
def lw_privs_6 : List (MethodName × Nat) := [(⟨"TurnedPostsModel", "reachOf", "(I)I"⟩, 43), (⟨"TurnedPostsModel", "classesOf", "(Z)I"⟩, 43), (⟨"TurnedPostsModel", "classOf", "(I)I"⟩, 43), (⟨"TurnedPostsModel", "crossingsOf", "(I)I"⟩, 43), (⟨"TurnedPostsModel", "leadHere", "(IZ)I"⟩, 43), (⟨"TurnedPostsModel", "loops", "(Z)I"⟩, 43), (⟨"TurnedPostsModel", "busyOf", "()I"⟩, 43), (⟨"TurnedPostsModel", "walksFar", "(I)V"⟩, 43), (⟨"TurnedPostsModel", "unusedOf", "(I)I"⟩, 43), (⟨"TurnedPostsModel", "roundOf", "()I"⟩, 43), (⟨"TurnedPostsModel", "numberOf", "(I)I"⟩, 43), (⟨"TurnedPostsModel", "isDay", "(I)Z"⟩, 43), (⟨"TurnedPostsModel", "runs", "(I)V"⟩, 43), (⟨"TurnedPostsModel", "beginsDay", "()V"⟩, 43), (⟨"TurnedPostsModel", "looks", "()V"⟩, 43), (⟨"TurnedPostsModel", "does", "(III)Z"⟩, 43)]
theorem lw_r6 : ∀ q ∈ lw_privs_6, lw_okq q := List.forall_mem_cons.mpr ⟨lw_p80, List.forall_mem_cons.mpr ⟨lw_p81, List.forall_mem_cons.mpr ⟨lw_p82, List.forall_mem_cons.mpr ⟨lw_p83, List.forall_mem_cons.mpr ⟨lw_p84, List.forall_mem_cons.mpr ⟨lw_p85, List.forall_mem_cons.mpr ⟨lw_p86, List.forall_mem_cons.mpr ⟨lw_p87, List.forall_mem_cons.mpr ⟨lw_p88, List.forall_mem_cons.mpr ⟨lw_p89, List.forall_mem_cons.mpr ⟨lw_p90, List.forall_mem_cons.mpr ⟨lw_p91, List.forall_mem_cons.mpr ⟨lw_p92, List.forall_mem_cons.mpr ⟨lw_p93, List.forall_mem_cons.mpr ⟨lw_p94, List.forall_mem_cons.mpr ⟨lw_p95, fun _ h => absurd h List.not_mem_nil⟩⟩⟩⟩⟩⟩⟩⟩⟩⟩⟩⟩⟩⟩⟩⟩
theorem lw_p96 : lw_okq (⟨"TurnedPostsModel", "goes", "(I)Z"⟩, 43) := ⟨⟨by decide +kernel, by decide +kernel⟩, (zt1_5 (List.mem_of_getElem? (i := 230) rfl)), (zt1_7 (List.mem_of_getElem? (i := 226) rfl)), (zt1_7 (List.mem_of_getElem? (i := 227) rfl))⟩
theorem lw_p97 : lw_okq (⟨"TurnedPostsModel", "goesFrom", "(I)V"⟩, 43) := ⟨⟨by decide +kernel, by decide +kernel⟩, (zt1_5 (List.mem_of_getElem? (i := 230) rfl)), (zt1_7 (List.mem_of_getElem? (i := 230) rfl)), (zt1_7 (List.mem_of_getElem? (i := 231) rfl))⟩
theorem lw_p98 : lw_okq (⟨"TurnedPostsModel", "runs0", "(I)Z"⟩, 43) := ⟨⟨by decide +kernel, by decide +kernel⟩, (zt1_5 (List.mem_of_getElem? (i := 230) rfl)), (zt1_7 (List.mem_of_getElem? (i := 234) rfl)), (zt1_7 (List.mem_of_getElem? (i := 235) rfl))⟩
theorem lw_p99 : lw_okq (⟨"TurnedPostsModel", "adds", "(I)Z"⟩, 43) := ⟨⟨by decide +kernel, by decide +kernel⟩, (zt1_5 (List.mem_of_getElem? (i := 230) rfl)), (zt1_7 (List.mem_of_getElem? (i := 238) rfl)), (zt1_7 (List.mem_of_getElem? (i := 239) rfl))⟩
theorem lw_p100 : lw_okq (⟨"TurnedPostsModel", "shuts", "(IIZ)Z"⟩, 43) := ⟨⟨by decide +kernel, by decide +kernel⟩, (zt1_5 (List.mem_of_getElem? (i := 230) rfl)), (zt1_8 (List.mem_of_getElem? (i := 2) rfl)), (zt1_8 (List.mem_of_getElem? (i := 3) rfl))⟩
theorem lw_p101 : lw_okq (⟨"TurnedPostsModel", "nowOf", "(I)I"⟩, 43) := ⟨⟨by decide +kernel, by decide +kernel⟩, (zt1_5 (List.mem_of_getElem? (i := 230) rfl)), (zt1_8 (List.mem_of_getElem? (i := 10) rfl)), (zt1_8 (List.mem_of_getElem? (i := 11) rfl))⟩
theorem lw_p102 : lw_okq (⟨"TurnedPostsModel", "walkersOf", "(Z)I"⟩, 43) := ⟨⟨by decide +kernel, by decide +kernel⟩, (zt1_5 (List.mem_of_getElem? (i := 230) rfl)), (zt1_8 (List.mem_of_getElem? (i := 14) rfl)), (zt1_8 (List.mem_of_getElem? (i := 15) rfl))⟩
theorem lw_p103 : lw_okq (⟨"TurnedPostsModel", "elsewhere", "()I"⟩, 43) := ⟨⟨by decide +kernel, by decide +kernel⟩, (zt1_5 (List.mem_of_getElem? (i := 230) rfl)), (zt1_8 (List.mem_of_getElem? (i := 22) rfl)), (zt1_8 (List.mem_of_getElem? (i := 23) rfl))⟩
theorem lw_p104 : lw_okq (⟨"TurnedPostsModel", "isLog", "(I)Z"⟩, 43) := ⟨⟨by decide +kernel, by decide +kernel⟩, (zt1_5 (List.mem_of_getElem? (i := 230) rfl)), (zt1_8 (List.mem_of_getElem? (i := 30) rfl)), (zt1_8 (List.mem_of_getElem? (i := 31) rfl))⟩
theorem lw_p105 : lw_okq (⟨"TurnedPostsModel", "laysFits", "(IZ)I"⟩, 43) := ⟨⟨by decide +kernel, by decide +kernel⟩, (zt1_5 (List.mem_of_getElem? (i := 230) rfl)), (zt1_8 (List.mem_of_getElem? (i := 38) rfl)), (zt1_8 (List.mem_of_getElem? (i := 39) rfl))⟩
theorem lw_p106 : lw_okq (⟨"TurnedPostsModel", "laysNoFits", "()V"⟩, 43) := ⟨⟨by decide +kernel, by decide +kernel⟩, (zt1_5 (List.mem_of_getElem? (i := 230) rfl)), (zt1_8 (List.mem_of_getElem? (i := 42) rfl)), (zt1_8 (List.mem_of_getElem? (i := 43) rfl))⟩
theorem lw_p107 : lw_okq (⟨"TurnedPostsModel", "isSo", "()Z"⟩, 43) := ⟨⟨by decide +kernel, by decide +kernel⟩, (zt1_5 (List.mem_of_getElem? (i := 230) rfl)), (zt1_8 (List.mem_of_getElem? (i := 46) rfl)), (zt1_8 (List.mem_of_getElem? (i := 47) rfl))⟩
theorem lw_p108 : lw_okq (⟨"TurnedPostsModel", "laysEnds", "()V"⟩, 43) := ⟨⟨by decide +kernel, by decide +kernel⟩, (zt1_5 (List.mem_of_getElem? (i := 230) rfl)), (zt1_8 (List.mem_of_getElem? (i := 50) rfl)), (zt1_8 (List.mem_of_getElem? (i := 51) rfl))⟩
theorem lw_p109 : lw_okq (⟨"TurnedPostsModel", "askOf", "()I"⟩, 43) := ⟨⟨by decide +kernel, by decide +kernel⟩, (zt1_5 (List.mem_of_getElem? (i := 230) rfl)), (zt1_8 (List.mem_of_getElem? (i := 54) rfl)), (zt1_8 (List.mem_of_getElem? (i := 55) rfl))⟩
theorem lw_p110 : lw_okq (⟨"TurnedPostsModel", "sureOf", "(I)I"⟩, 43) := ⟨⟨by decide +kernel, by decide +kernel⟩, (zt1_5 (List.mem_of_getElem? (i := 230) rfl)), (zt1_8 (List.mem_of_getElem? (i := 59) rfl)), (zt1_8 (List.mem_of_getElem? (i := 60) rfl))⟩
theorem lw_p111 : lw_okq (⟨"TurnedPostsModel", "draws", "()V"⟩, 43) := ⟨⟨by decide +kernel, by decide +kernel⟩, (zt1_5 (List.mem_of_getElem? (i := 230) rfl)), (zt1_8 (List.mem_of_getElem? (i := 75) rfl)), (zt1_8 (List.mem_of_getElem? (i := 76) rfl))⟩
def lw_privs_7 : List (MethodName × Nat) := [(⟨"TurnedPostsModel", "goes", "(I)Z"⟩, 43), (⟨"TurnedPostsModel", "goesFrom", "(I)V"⟩, 43), (⟨"TurnedPostsModel", "runs0", "(I)Z"⟩, 43), (⟨"TurnedPostsModel", "adds", "(I)Z"⟩, 43), (⟨"TurnedPostsModel", "shuts", "(IIZ)Z"⟩, 43), (⟨"TurnedPostsModel", "nowOf", "(I)I"⟩, 43), (⟨"TurnedPostsModel", "walkersOf", "(Z)I"⟩, 43), (⟨"TurnedPostsModel", "elsewhere", "()I"⟩, 43), (⟨"TurnedPostsModel", "isLog", "(I)Z"⟩, 43), (⟨"TurnedPostsModel", "laysFits", "(IZ)I"⟩, 43), (⟨"TurnedPostsModel", "laysNoFits", "()V"⟩, 43), (⟨"TurnedPostsModel", "isSo", "()Z"⟩, 43), (⟨"TurnedPostsModel", "laysEnds", "()V"⟩, 43), (⟨"TurnedPostsModel", "askOf", "()I"⟩, 43), (⟨"TurnedPostsModel", "sureOf", "(I)I"⟩, 43), (⟨"TurnedPostsModel", "draws", "()V"⟩, 43)]
theorem lw_r7 : ∀ q ∈ lw_privs_7, lw_okq q := List.forall_mem_cons.mpr ⟨lw_p96, List.forall_mem_cons.mpr ⟨lw_p97, List.forall_mem_cons.mpr ⟨lw_p98, List.forall_mem_cons.mpr ⟨lw_p99, List.forall_mem_cons.mpr ⟨lw_p100, List.forall_mem_cons.mpr ⟨lw_p101, List.forall_mem_cons.mpr ⟨lw_p102, List.forall_mem_cons.mpr ⟨lw_p103, List.forall_mem_cons.mpr ⟨lw_p104, List.forall_mem_cons.mpr ⟨lw_p105, List.forall_mem_cons.mpr ⟨lw_p106, List.forall_mem_cons.mpr ⟨lw_p107, List.forall_mem_cons.mpr ⟨lw_p108, List.forall_mem_cons.mpr ⟨lw_p109, List.forall_mem_cons.mpr ⟨lw_p110, List.forall_mem_cons.mpr ⟨lw_p111, fun _ h => absurd h List.not_mem_nil⟩⟩⟩⟩⟩⟩⟩⟩⟩⟩⟩⟩⟩⟩⟩⟩
theorem lw_p112 : lw_okq (⟨"TurnedPostsModel", "below", "(I)I"⟩, 43) := ⟨⟨by decide +kernel, by decide +kernel⟩, (zt1_5 (List.mem_of_getElem? (i := 230) rfl)), (zt1_8 (List.mem_of_getElem? (i := 79) rfl)), (zt1_8 (List.mem_of_getElem? (i := 80) rfl))⟩
def lw_privs_8 : List (MethodName × Nat) := [(⟨"TurnedPostsModel", "below", "(I)I"⟩, 43)]
theorem lw_r8 : ∀ q ∈ lw_privs_8, lw_okq q := List.forall_mem_cons.mpr ⟨lw_p112, fun _ h => absurd h List.not_mem_nil⟩
def lw_privs : List (MethodName × Nat) := lw_privs_1 ++ (lw_privs_2 ++ (lw_privs_3 ++ (lw_privs_4 ++ (lw_privs_5 ++ (lw_privs_6 ++ (lw_privs_7 ++ (lw_privs_8)))))))
def lw_tbl : List Cond := k2_sels lw_privs ++ tables_1
theorem lw_privs_ok : ∀ q ∈ lw_privs, lw_okq q := by
  show ∀ q ∈ lw_privs_1 ++ (lw_privs_2 ++ (lw_privs_3 ++ (lw_privs_4 ++ (lw_privs_5 ++ (lw_privs_6 ++ (lw_privs_7 ++ (lw_privs_8))))))), lw_okq q
  exact List.forall_mem_append.mpr ⟨lw_r1, List.forall_mem_append.mpr ⟨lw_r2, List.forall_mem_append.mpr ⟨lw_r3, List.forall_mem_append.mpr ⟨lw_r4, List.forall_mem_append.mpr ⟨lw_r5, List.forall_mem_append.mpr ⟨lw_r6, List.forall_mem_append.mpr ⟨lw_r7, lw_r8⟩⟩⟩⟩⟩⟩⟩
def RX0 : String := "TurnedPosts$AllWays"
def TX0 : u_T := fun k => match k with
  | 0 => ("TurnedPosts$AllWays", "made", "Z", false)
  | 1 => ("TurnedPosts$AllWays", "ways", "I", false)
  | 2 => ("TurnedPosts$AllWays", "land", "LTurnedPosts$Land;", false)
  | 3 => ("TurnedPosts$AllWays", "places", "I", false)
  | 4 => ("TurnedPosts$AllWays", "choices", "[I", true)
  | 5 => ("TurnedPosts$AllWays", "weight", "[I", true)
  | 6 => ("TurnedPosts$AllWays", "row", "[I", true)
  | 7 => ("TurnedPosts$AllWays", "once", "[I", false)
  | 8 => ("TurnedPosts$AllWays", "ends", "[I", false)
  | _ => ("TurnedPosts$AllWays", "spare", "[I", false)
def tyX0 : Nat → FieldType := fun k => match k with
  | 0 => .boolean
  | 1 => .int
  | 2 => .object "TurnedPosts$Land"
  | 3 => .int
  | 4 => .array .int
  | 5 => .array .int
  | 6 => .array .int
  | 7 => .array .int
  | 8 => .array .int
  | _ => .array .int
theorem nmX0 : ∀ a, a < 10 → ∀ b, b < 10 → a ≠ b → (TX0 a).2.1 ≠ (TX0 b).2.1 := by decide +kernel
theorem tyX0_ok : ∀ k, k < 10 → parseFieldDescriptor (TX0 k).2.2.1 = some (tyX0 k) := by decide +kernel
abbrev cX0_init : ByteArray := prog_2_method_1_code
def yX0_init : MethodName := ⟨RX0, "<init>", "()V"⟩
abbrev cX0_make : ByteArray := prog_2_method_2_code
def yX0_make : MethodName := ⟨RX0, "make", "(LTurnedPosts$Land;)V"⟩
abbrev cX0_countWays : ByteArray := prog_2_method_3_code
def yX0_countWays : MethodName := ⟨RX0, "countWays", "(LTurnedPosts$Land;)V"⟩
abbrev cX0_grow : ByteArray := prog_2_method_4_code
def yX0_grow : MethodName := ⟨RX0, "grow", "()V"⟩
abbrev cX0_stepOnce : ByteArray := prog_2_method_5_code
def yX0_stepOnce : MethodName := ⟨RX0, "stepOnce", "()V"⟩
abbrev cX0_place : ByteArray := prog_2_method_6_code
def yX0_place : MethodName := ⟨RX0, "place", "(II)I"⟩
abbrev cX0_doubleAll : ByteArray := prog_2_method_7_code
def yX0_doubleAll : MethodName := ⟨RX0, "doubleAll", "()V"⟩
abbrev cX0_oneMore : ByteArray := prog_2_method_8_code
def yX0_oneMore : MethodName := ⟨RX0, "oneMore", "()V"⟩
abbrev cX0_entry : ByteArray := prog_2_method_9_code
def yX0_entry : MethodName := ⟨RX0, "entry", "(II)I"⟩
abbrev cX0_where : ByteArray := prog_2_method_10_code
def yX0_where : MethodName := ⟨RX0, "where", "(II)I"⟩
abbrev cX0_steps : ByteArray := prog_2_method_11_code
def yX0_steps : MethodName := ⟨RX0, "steps", "(II)I"⟩
abbrev cX0_wayAfter : ByteArray := prog_2_method_12_code
def yX0_wayAfter : MethodName := ⟨RX0, "wayAfter", "(II)I"⟩
abbrev cX0_stepsOrNever : ByteArray := prog_2_method_13_code
def yX0_stepsOrNever : MethodName := ⟨RX0, "stepsOrNever", "(II)I"⟩
abbrev cX0_road : ByteArray := prog_2_method_14_code
def yX0_road : MethodName := ⟨RX0, "road", "(II)I"⟩
abbrev cX0_turned : ByteArray := prog_2_method_15_code
def yX0_turned : MethodName := ⟨RX0, "turned", "(II)I"⟩
abbrev cX0_wayTold : ByteArray := prog_2_method_16_code
def yX0_wayTold : MethodName := ⟨RX0, "wayTold", "()I"⟩
abbrev cX0_number : ByteArray := prog_2_method_17_code
def yX0_number : MethodName := ⟨RX0, "number", "(I)I"⟩
abbrev cX0_unlike : ByteArray := prog_2_method_18_code
def yX0_unlike : MethodName := ⟨RX0, "unlike", "(II)I"⟩
abbrev cX0_nearestWay : ByteArray := prog_2_method_19_code
def yX0_nearestWay : MethodName := ⟨RX0, "nearestWay", "(II)I"⟩
abbrev cX0_treesOf : ByteArray := prog_2_method_20_code
def yX0_treesOf : MethodName := ⟨RX0, "treesOf", "(LTurnedPosts$Land;)I"⟩
abbrev cX0_nextRow : ByteArray := prog_2_method_21_code
def yX0_nextRow : MethodName := ⟨RX0, "nextRow", "()V"⟩
abbrev cX0_allComeByRow : ByteArray := prog_2_method_22_code
def yX0_allComeByRow : MethodName := ⟨RX0, "allComeByRow", "()Z"⟩
abbrev cX0_comesByRow : ByteArray := prog_2_method_23_code
def yX0_comesByRow : MethodName := ⟨RX0, "comesByRow", "(I)Z"⟩
def RX1 : String := "TurnedPosts$Course"
def TX1 : u_T := fun k => match k with
  | 0 => ("TurnedPosts$Course", "posts", "LTurnedPosts$Posts;", true)
  | 1 => ("TurnedPosts$Course", "walkers", "[I", true)
  | 2 => ("TurnedPosts$Course", "steps", "I", false)
  | 3 => ("TurnedPosts$Course", "land", "LTurnedPosts$Land;", false)
  | 4 => ("TurnedPosts$Course", "never", "I", false)
  | 5 => ("TurnedPosts$Course", "done", "I", false)
  | 6 => ("TurnedPosts$Course", "firstCame", "I", false)
  | 7 => ("TurnedPosts$Course", "longestRun", "I", false)
  | 8 => ("TurnedPosts$Course", "moved", "I", false)
  | 9 => ("TurnedPosts$Course", "crowd", "I", false)
  | _ => ("TurnedPosts$Course", "seed", "I", false)
def tyX1 : Nat → FieldType := fun k => match k with
  | 0 => .object "TurnedPosts$Posts"
  | 1 => .array .int
  | 2 => .int
  | 3 => .object "TurnedPosts$Land"
  | 4 => .int
  | 5 => .int
  | 6 => .int
  | 7 => .int
  | 8 => .int
  | 9 => .int
  | _ => .int
theorem nmX1 : ∀ a, a < 11 → ∀ b, b < 11 → a ≠ b → (TX1 a).2.1 ≠ (TX1 b).2.1 := by decide +kernel
theorem tyX1_ok : ∀ k, k < 11 → parseFieldDescriptor (TX1 k).2.2.1 = some (tyX1 k) := by decide +kernel
abbrev cX1_init : ByteArray := prog_3_method_1_code
def yX1_init : MethodName := ⟨RX1, "<init>", "()V"⟩
abbrev cX1_begin : ByteArray := prog_3_method_2_code
def yX1_begin : MethodName := ⟨RX1, "begin", "(LTurnedPosts$Land;)V"⟩
abbrev cX1_goThrough : ByteArray := prog_3_method_3_code
def yX1_goThrough : MethodName := ⟨RX1, "goThrough", "(LTurnedPosts$Land;LTurnedPosts$Day;I)I"⟩
abbrev cX1_draw : ByteArray := prog_3_method_4_code
def yX1_draw : MethodName := ⟨RX1, "draw", "(LTurnedPosts$Land;II)V"⟩
abbrev cX1_drawBelow : ByteArray := prog_3_method_5_code
def yX1_drawBelow : MethodName := ⟨RX1, "drawBelow", "(I)I"⟩
abbrev cX1_goAll : ByteArray := prog_3_method_6_code
def yX1_goAll : MethodName := ⟨RX1, "goAll", "(LTurnedPosts$Land;)V"⟩
abbrev cX1_does : ByteArray := prog_3_method_7_code
def yX1_does : MethodName := ⟨RX1, "does", "(III)Z"⟩
abbrev cX1_go : ByteArray := prog_3_method_8_code
def yX1_go : MethodName := ⟨RX1, "go", "(I)Z"⟩
abbrev cX1_run : ByteArray := prog_3_method_9_code
def yX1_run : MethodName := ⟨RX1, "run", "(I)Z"⟩
abbrev cX1_move : ByteArray := prog_3_method_10_code
def yX1_move : MethodName := ⟨RX1, "move", "(II)V"⟩
abbrev cX1_add : ByteArray := prog_3_method_11_code
def yX1_add : MethodName := ⟨RX1, "add", "(I)Z"⟩
abbrev cX1_shut : ByteArray := prog_3_method_12_code
def yX1_shut : MethodName := ⟨RX1, "shut", "(II)Z"⟩
abbrev cX1_open : ByteArray := prog_3_method_13_code
def yX1_open : MethodName := ⟨RX1, "open", "(II)Z"⟩
abbrev cX1_lookAtCrowd : ByteArray := prog_3_method_14_code
def yX1_lookAtCrowd : MethodName := ⟨RX1, "lookAtCrowd", "()V"⟩
abbrev cX1_walkersInAll : ByteArray := prog_3_method_15_code
def yX1_walkersInAll : MethodName := ⟨RX1, "walkersInAll", "(Z)I"⟩
abbrev cX1_told : ByteArray := prog_3_method_16_code
def yX1_told : MethodName := ⟨RX1, "told", "(I)I"⟩
abbrev cX1_toldAfter : ByteArray := prog_3_method_17_code
def yX1_toldAfter : MethodName := ⟨RX1, "toldAfter", "(I)I"⟩
abbrev cX1_unlikeTold : ByteArray := prog_3_method_18_code
def yX1_unlikeTold : MethodName := ⟨RX1, "unlikeTold", "()I"⟩
def RX2 : String := "TurnedPosts$Day"
def TX2 : u_T := fun k => match k with
  | 0 => ("TurnedPosts$Day", "deeds", "I", false)
  | 1 => ("TurnedPosts$Day", "kind", "[I", true)
  | 2 => ("TurnedPosts$Day", "crossing", "[I", true)
  | _ => ("TurnedPosts$Day", "road", "[I", true)
def tyX2 : Nat → FieldType := fun k => match k with
  | 0 => .int
  | 1 => .array .int
  | 2 => .array .int
  | _ => .array .int
theorem nmX2 : ∀ a, a < 4 → ∀ b, b < 4 → a ≠ b → (TX2 a).2.1 ≠ (TX2 b).2.1 := by decide +kernel
theorem tyX2_ok : ∀ k, k < 4 → parseFieldDescriptor (TX2 k).2.2.1 = some (tyX2 k) := by decide +kernel
abbrev cX2_init : ByteArray := prog_4_method_1_code
def yX2_init : MethodName := ⟨RX2, "<init>", "()V"⟩
abbrev cX2_takeAll : ByteArray := prog_4_method_2_code
def yX2_takeAll : MethodName := ⟨RX2, "takeAll", "(LTurnedPosts$Day;)V"⟩
abbrev cX2_add : ByteArray := prog_4_method_3_code
def yX2_add : MethodName := ⟨RX2, "add", "(III)V"⟩
abbrev cX2_told : ByteArray := prog_4_method_4_code
def yX2_told : MethodName := ⟨RX2, "told", "(II)I"⟩
def RX3 : String := "TurnedPosts$Fitting"
def TX3 : u_T := fun k => match k with
  | 0 => ("TurnedPosts$Fitting", "made", "Z", false)
  | 1 => ("TurnedPosts$Fitting", "land", "I", false)
  | 2 => ("TurnedPosts$Fitting", "log", "I", false)
  | 3 => ("TurnedPosts$Fitting", "found", "I", false)
  | 4 => ("TurnedPosts$Fitting", "least", "I", false)
  | 5 => ("TurnedPosts$Fitting", "most", "I", false)
  | 6 => ("TurnedPosts$Fitting", "rows", "[I", false)
  | _ => ("TurnedPosts$Fitting", "places", "[I", true)
def tyX3 : Nat → FieldType := fun k => match k with
  | 0 => .boolean
  | 1 => .int
  | 2 => .int
  | 3 => .int
  | 4 => .int
  | 5 => .int
  | 6 => .array .int
  | _ => .array .int
theorem nmX3 : ∀ a, a < 8 → ∀ b, b < 8 → a ≠ b → (TX3 a).2.1 ≠ (TX3 b).2.1 := by decide +kernel
theorem tyX3_ok : ∀ k, k < 8 → parseFieldDescriptor (TX3 k).2.2.1 = some (tyX3 k) := by decide +kernel
abbrev cX3_init : ByteArray := prog_5_method_1_code
def yX3_init : MethodName := ⟨RX3, "<init>", "()V"⟩
abbrev cX3_find : ByteArray := prog_5_method_2_code
def yX3_find : MethodName := ⟨RX3, "find", "(LTurnedPosts$AllWays;LTurnedPosts$Log;)V"⟩
abbrev cX3_grow : ByteArray := prog_5_method_3_code
def yX3_grow : MethodName := ⟨RX3, "grow", "(I)V"⟩
abbrev cX3_tryWay : ByteArray := prog_5_method_4_code
def yX3_tryWay : MethodName := ⟨RX3, "tryWay", "(LTurnedPosts$AllWays;LTurnedPosts$Log;I)V"⟩
abbrev cX3_isSo : ByteArray := prog_5_method_5_code
def yX3_isSo : MethodName := ⟨RX3, "isSo", "(LTurnedPosts$AllWays;III)Z"⟩
abbrev cX3_way : ByteArray := prog_5_method_6_code
def yX3_way : MethodName := ⟨RX3, "way", "(I)I"⟩
abbrev cX3_pointing : ByteArray := prog_5_method_7_code
def yX3_pointing : MethodName := ⟨RX3, "pointing", "(LTurnedPosts$AllWays;II)I"⟩
abbrev cX3_sure : ByteArray := prog_5_method_8_code
def yX3_sure : MethodName := ⟨RX3, "sure", "(LTurnedPosts$AllWays;I)I"⟩
abbrev cX3_ask : ByteArray := prog_5_method_9_code
def yX3_ask : MethodName := ⟨RX3, "ask", "(LTurnedPosts$AllWays;)I"⟩
abbrev cX3_mostTogether : ByteArray := prog_5_method_10_code
def yX3_mostTogether : MethodName := ⟨RX3, "mostTogether", "(LTurnedPosts$AllWays;I)I"⟩
def RX4 : String := "TurnedPosts$Land"
def TX4 : u_T := fun k => match k with
  | 0 => ("TurnedPosts$Land", "crossings", "I", false)
  | 1 => ("TurnedPosts$Land", "inns", "I", false)
  | 2 => ("TurnedPosts$Land", "roads", "[I", true)
  | 3 => ("TurnedPosts$Land", "leads", "[I", true)
  | 4 => ("TurnedPosts$Land", "post", "[I", true)
  | _ => ("TurnedPosts$Land", "walkers", "[I", true)
def tyX4 : Nat → FieldType := fun k => match k with
  | 0 => .int
  | 1 => .int
  | 2 => .array .int
  | 3 => .array .int
  | 4 => .array .int
  | _ => .array .int
theorem nmX4 : ∀ a, a < 6 → ∀ b, b < 6 → a ≠ b → (TX4 a).2.1 ≠ (TX4 b).2.1 := by decide +kernel
theorem tyX4_ok : ∀ k, k < 6 → parseFieldDescriptor (TX4 k).2.2.1 = some (tyX4 k) := by decide +kernel
abbrev cX4_init : ByteArray := prog_6_method_1_code
def yX4_init : MethodName := ⟨RX4, "<init>", "()V"⟩
abbrev cX4_clear : ByteArray := prog_6_method_2_code
def yX4_clear : MethodName := ⟨RX4, "clear", "()V"⟩
abbrev cX4_takeAll : ByteArray := prog_6_method_3_code
def yX4_takeAll : MethodName := ⟨RX4, "takeAll", "(LTurnedPosts$Land;)V"⟩
abbrev cX4_has : ByteArray := prog_6_method_4_code
def yX4_has : MethodName := ⟨RX4, "has", "(I)Z"⟩
abbrev cX4_isInn : ByteArray := prog_6_method_5_code
def yX4_isInn : MethodName := ⟨RX4, "isInn", "(I)Z"⟩
abbrev cX4_hasRoad : ByteArray := prog_6_method_6_code
def yX4_hasRoad : MethodName := ⟨RX4, "hasRoad", "(II)Z"⟩
abbrev cX4_waysOut : ByteArray := prog_6_method_7_code
def yX4_waysOut : MethodName := ⟨RX4, "waysOut", "(I)I"⟩
abbrev cX4_target : ByteArray := prog_6_method_8_code
def yX4_target : MethodName := ⟨RX4, "target", "(II)I"⟩
abbrev cX4_addRoad : ByteArray := prog_6_method_9_code
def yX4_addRoad : MethodName := ⟨RX4, "addRoad", "(II)V"⟩
abbrev cX4_told : ByteArray := prog_6_method_10_code
def yX4_told : MethodName := ⟨RX4, "told", "(I)I"⟩
def RX5 : String := "TurnedPosts$Log"
def TX5 : u_T := fun k => match k with
  | 0 => ("TurnedPosts$Log", "facts", "I", false)
  | 1 => ("TurnedPosts$Log", "crossing", "[I", true)
  | _ => ("TurnedPosts$Log", "inn", "[I", true)
def tyX5 : Nat → FieldType := fun k => match k with
  | 0 => .int
  | 1 => .array .int
  | _ => .array .int
theorem nmX5 : ∀ a, a < 3 → ∀ b, b < 3 → a ≠ b → (TX5 a).2.1 ≠ (TX5 b).2.1 := by decide +kernel
theorem tyX5_ok : ∀ k, k < 3 → parseFieldDescriptor (TX5 k).2.2.1 = some (tyX5 k) := by decide +kernel
abbrev cX5_init : ByteArray := prog_7_method_1_code
def yX5_init : MethodName := ⟨RX5, "<init>", "()V"⟩
abbrev cX5_takeAll : ByteArray := prog_7_method_2_code
def yX5_takeAll : MethodName := ⟨RX5, "takeAll", "(LTurnedPosts$Log;)V"⟩
abbrev cX5_add : ByteArray := prog_7_method_3_code
def yX5_add : MethodName := ⟨RX5, "add", "(II)V"⟩
abbrev cX5_told : ByteArray := prog_7_method_4_code
def yX5_told : MethodName := ⟨RX5, "told", "(II)I"⟩
def RX6 : String := "TurnedPosts$Posts"
def TX6 : u_T := fun k => match k with
  | 0 => ("TurnedPosts$Posts", "land", "LTurnedPosts$Land;", false)
  | 1 => ("TurnedPosts$Posts", "post", "[I", true)
  | 2 => ("TurnedPosts$Posts", "shut", "[I", true)
  | 3 => ("TurnedPosts$Posts", "steps", "I", false)
  | 4 => ("TurnedPosts$Posts", "where", "I", false)
  | _ => ("TurnedPosts$Posts", "waysOut", "[I", true)
def tyX6 : Nat → FieldType := fun k => match k with
  | 0 => .object "TurnedPosts$Land"
  | 1 => .array .int
  | 2 => .array .int
  | 3 => .int
  | 4 => .int
  | _ => .array .int
theorem nmX6 : ∀ a, a < 6 → ∀ b, b < 6 → a ≠ b → (TX6 a).2.1 ≠ (TX6 b).2.1 := by decide +kernel
theorem tyX6_ok : ∀ k, k < 6 → parseFieldDescriptor (TX6 k).2.2.1 = some (tyX6 k) := by decide +kernel
abbrev cX6_init : ByteArray := prog_8_method_1_code
def yX6_init : MethodName := ⟨RX6, "<init>", "()V"⟩
abbrev cX6_begin : ByteArray := prog_8_method_2_code
def yX6_begin : MethodName := ⟨RX6, "begin", "(LTurnedPosts$Land;)V"⟩
abbrev cX6_isShut : ByteArray := prog_8_method_3_code
def yX6_isShut : MethodName := ⟨RX6, "isShut", "(II)Z"⟩
abbrev cX6_shutRoad : ByteArray := prog_8_method_4_code
def yX6_shutRoad : MethodName := ⟨RX6, "shutRoad", "(II)V"⟩
abbrev cX6_openRoad : ByteArray := prog_8_method_5_code
def yX6_openRoad : MethodName := ⟨RX6, "openRoad", "(II)V"⟩
abbrev cX6_turn : ByteArray := prog_8_method_6_code
def yX6_turn : MethodName := ⟨RX6, "turn", "(I)I"⟩
abbrev cX6_step : ByteArray := prog_8_method_7_code
def yX6_step : MethodName := ⟨RX6, "step", "(I)I"⟩
abbrev cX6_run : ByteArray := prog_8_method_8_code
def yX6_run : MethodName := ⟨RX6, "run", "(I)V"⟩
abbrev cX6_code : ByteArray := prog_8_method_9_code
def yX6_code : MethodName := ⟨RX6, "code", "()I"⟩
def RX7 : String := "TurnedPosts$Reader"
def TX7 : u_T := fun k => match k with
  | 0 => ("TurnedPosts$Reader", "land", "LTurnedPosts$Land;", true)
  | 1 => ("TurnedPosts$Reader", "day", "LTurnedPosts$Day;", true)
  | 2 => ("TurnedPosts$Reader", "log", "LTurnedPosts$Log;", true)
  | 3 => ("TurnedPosts$Reader", "fault", "I", false)
  | 4 => ("TurnedPosts$Reader", "faultPlace", "I", false)
  | 5 => ("TurnedPosts$Reader", "tape", "[B", false)
  | 6 => ("TurnedPosts$Reader", "length", "I", false)
  | 7 => ("TurnedPosts$Reader", "at", "I", false)
  | 8 => ("TurnedPosts$Reader", "token", "I", false)
  | 9 => ("TurnedPosts$Reader", "place", "I", false)
  | 10 => ("TurnedPosts$Reader", "value", "I", false)
  | 11 => ("TurnedPosts$Reader", "broken", "Z", false)
  | _ => ("TurnedPosts$Reader", "toldOf", "I", false)
def tyX7 : Nat → FieldType := fun k => match k with
  | 0 => .object "TurnedPosts$Land"
  | 1 => .object "TurnedPosts$Day"
  | 2 => .object "TurnedPosts$Log"
  | 3 => .int
  | 4 => .int
  | 5 => .array .byte
  | 6 => .int
  | 7 => .int
  | 8 => .int
  | 9 => .int
  | 10 => .int
  | 11 => .boolean
  | _ => .int
theorem nmX7 : ∀ a, a < 13 → ∀ b, b < 13 → a ≠ b → (TX7 a).2.1 ≠ (TX7 b).2.1 := by decide +kernel
theorem tyX7_ok : ∀ k, k < 13 → parseFieldDescriptor (TX7 k).2.2.1 = some (tyX7 k) := by decide +kernel
abbrev cX7_init : ByteArray := prog_9_method_1_code
def yX7_init : MethodName := ⟨RX7, "<init>", "()V"⟩
abbrev cX7_read : ByteArray := prog_9_method_2_code
def yX7_read : MethodName := ⟨RX7, "read", "([BII)V"⟩
abbrev cX7_breakHere : ByteArray := prog_9_method_3_code
def yX7_breakHere : MethodName := ⟨RX7, "breakHere", "()V"⟩
abbrev cX7_note : ByteArray := prog_9_method_4_code
def yX7_note : MethodName := ⟨RX7, "note", "(II)V"⟩
abbrev cX7_lookAtWhole : ByteArray := prog_9_method_5_code
def yX7_lookAtWhole : MethodName := ⟨RX7, "lookAtWhole", "()V"⟩
abbrev cX7_readLine : ByteArray := prog_9_method_6_code
def yX7_readLine : MethodName := ⟨RX7, "readLine", "(I)V"⟩
abbrev cX7_readCrossing : ByteArray := prog_9_method_7_code
def yX7_readCrossing : MethodName := ⟨RX7, "readCrossing", "()V"⟩
abbrev cX7_readOther : ByteArray := prog_9_method_8_code
def yX7_readOther : MethodName := ⟨RX7, "readOther", "(I)V"⟩
abbrev cX7_readDeed : ByteArray := prog_9_method_9_code
def yX7_readDeed : MethodName := ⟨RX7, "readDeed", "(I)V"⟩
abbrev cX7_readFact : ByteArray := prog_9_method_10_code
def yX7_readFact : MethodName := ⟨RX7, "readFact", "(I)V"⟩
abbrev cX7_tellOf : ByteArray := prog_9_method_11_code
def yX7_tellOf : MethodName := ⟨RX7, "tellOf", "(I)V"⟩
abbrev cX7_readNumber : ByteArray := prog_9_method_12_code
def yX7_readNumber : MethodName := ⟨RX7, "readNumber", "(I)I"⟩
abbrev cX7_nextToken : ByteArray := prog_9_method_13_code
def yX7_nextToken : MethodName := ⟨RX7, "nextToken", "()V"⟩
abbrev cX7_takeLetters : ByteArray := prog_9_method_14_code
def yX7_takeLetters : MethodName := ⟨RX7, "takeLetters", "()V"⟩
abbrev cX7_takeDigits : ByteArray := prog_9_method_15_code
def yX7_takeDigits : MethodName := ⟨RX7, "takeDigits", "()V"⟩
abbrev cX7_isBlank : ByteArray := prog_9_method_16_code
def yX7_isBlank : MethodName := ⟨RX7, "isBlank", "(I)Z"⟩
abbrev cX7_isLetter : ByteArray := prog_9_method_17_code
def yX7_isLetter : MethodName := ⟨RX7, "isLetter", "(I)Z"⟩
abbrev cX7_isDigit : ByteArray := prog_9_method_18_code
def yX7_isDigit : MethodName := ⟨RX7, "isDigit", "(I)Z"⟩
abbrev cX7_wordOf : ByteArray := prog_9_method_19_code
def yX7_wordOf : MethodName := ⟨RX7, "wordOf", "(I)I"⟩
abbrev cX7_reads : ByteArray := prog_9_method_20_code
def yX7_reads : MethodName := ⟨RX7, "reads", "(Ljava/lang/String;)Z"⟩
def RX8 : String := "TurnedPosts$Roads"
abbrev cX8_spread : ByteArray := prog_10_method_2_code
def yX8_spread : MethodName := ⟨RX8, "spread", "(LTurnedPosts$Land;I)I"⟩
abbrev cX8_distance : ByteArray := prog_10_method_3_code
def yX8_distance : MethodName := ⟨RX8, "distance", "(LTurnedPosts$Land;II)I"⟩
abbrev cX8_reached : ByteArray := prog_10_method_4_code
def yX8_reached : MethodName := ⟨RX8, "reached", "(LTurnedPosts$Land;I)I"⟩
abbrev cX8_nearest : ByteArray := prog_10_method_5_code
def yX8_nearest : MethodName := ⟨RX8, "nearest", "(LTurnedPosts$Land;I)I"⟩
abbrev cX8_parts : ByteArray := prog_10_method_6_code
def yX8_parts : MethodName := ⟨RX8, "parts", "(LTurnedPosts$Land;Z)I"⟩
abbrev cX8_inOneClass : ByteArray := prog_10_method_7_code
def yX8_inOneClass : MethodName := ⟨RX8, "inOneClass", "(LTurnedPosts$Land;I)I"⟩
abbrev cX8_heads : ByteArray := prog_10_method_8_code
def yX8_heads : MethodName := ⟨RX8, "heads", "(LTurnedPosts$Land;)I"⟩
abbrev cX8_ends : ByteArray := prog_10_method_9_code
def yX8_ends : MethodName := ⟨RX8, "ends", "(LTurnedPosts$Land;)I"⟩
abbrev cX8_loops : ByteArray := prog_10_method_10_code
def yX8_loops : MethodName := ⟨RX8, "loops", "(LTurnedPosts$Land;)I"⟩
abbrev cX8_doubles : ByteArray := prog_10_method_11_code
def yX8_doubles : MethodName := ⟨RX8, "doubles", "(LTurnedPosts$Land;)I"⟩
abbrev cX8_howManyLead : ByteArray := prog_10_method_12_code
def yX8_howManyLead : MethodName := ⟨RX8, "howManyLead", "(LTurnedPosts$Land;II)I"⟩
abbrev cX8_howManyLeadTo : ByteArray := prog_10_method_13_code
def yX8_howManyLeadTo : MethodName := ⟨RX8, "howManyLeadTo", "(LTurnedPosts$Land;I)I"⟩
abbrev cX8_even : ByteArray := prog_10_method_14_code
def yX8_even : MethodName := ⟨RX8, "even", "(LTurnedPosts$Land;)I"⟩
abbrev cX8_busy : ByteArray := prog_10_method_15_code
def yX8_busy : MethodName := ⟨RX8, "busy", "(LTurnedPosts$Land;)I"⟩
abbrev cX8_ring : ByteArray := prog_10_method_16_code
def yX8_ring : MethodName := ⟨RX8, "ring", "(LTurnedPosts$Land;I)I"⟩
def RX9 : String := "TurnedPosts$Told"
def TX9 : u_T := fun k => match k with
  | 0 => ("TurnedPosts$Told", "tape", "[B", true)
  | 1 => ("TurnedPosts$Told", "length", "I", false)
  | 2 => ("TurnedPosts$Told", "fault", "I", false)
  | 3 => ("TurnedPosts$Told", "faultPlace", "I", false)
  | 4 => ("TurnedPosts$Told", "kept", "[I", true)
  | 5 => ("TurnedPosts$Told", "lands", "[LTurnedPosts$Land;", true)
  | 6 => ("TurnedPosts$Told", "days", "[LTurnedPosts$Day;", true)
  | _ => ("TurnedPosts$Told", "logs", "[LTurnedPosts$Log;", true)
def tyX9 : Nat → FieldType := fun k => match k with
  | 0 => .array .byte
  | 1 => .int
  | 2 => .int
  | 3 => .int
  | 4 => .array .int
  | 5 => .array (.object "TurnedPosts$Land")
  | 6 => .array (.object "TurnedPosts$Day")
  | _ => .array (.object "TurnedPosts$Log")
theorem nmX9 : ∀ a, a < 8 → ∀ b, b < 8 → a ≠ b → (TX9 a).2.1 ≠ (TX9 b).2.1 := by decide +kernel
theorem tyX9_ok : ∀ k, k < 8 → parseFieldDescriptor (TX9 k).2.2.1 = some (tyX9 k) := by decide +kernel
abbrev cX9_init : ByteArray := prog_11_method_1_code
def yX9_init : MethodName := ⟨RX9, "<init>", "()V"⟩
abbrev cX9_append : ByteArray := prog_11_method_2_code
def yX9_append : MethodName := ⟨RX9, "append", "(I)V"⟩
abbrev cX9_placeFor : ByteArray := prog_11_method_3_code
def yX9_placeFor : MethodName := ⟨RX9, "placeFor", "(II)I"⟩
abbrev cX9_keep : ByteArray := prog_11_method_4_code
def yX9_keep : MethodName := ⟨RX9, "keep", "(IILTurnedPosts$Reader;)V"⟩
abbrev cX9_takeAll : ByteArray := prog_11_method_5_code
def yX9_takeAll : MethodName := ⟨RX9, "takeAll", "(LTurnedPosts$Told;)V"⟩
abbrev cX9_landAt : ByteArray := prog_11_method_6_code
def yX9_landAt : MethodName := ⟨RX9, "landAt", "(I)LTurnedPosts$Land;"⟩
abbrev cX9_dayAt : ByteArray := prog_11_method_7_code
def yX9_dayAt : MethodName := ⟨RX9, "dayAt", "(I)LTurnedPosts$Day;"⟩
abbrev cX9_logAt : ByteArray := prog_11_method_8_code
def yX9_logAt : MethodName := ⟨RX9, "logAt", "(I)LTurnedPosts$Log;"⟩
def RX10 : String := "TurnedPosts$Trail"
def TX10 : u_T := fun k => match k with
  | 0 => ("TurnedPosts$Trail", "posts", "LTurnedPosts$Posts;", true)
  | 1 => ("TurnedPosts$Trail", "visits", "[I", true)
  | 2 => ("TurnedPosts$Trail", "gone", "[I", true)
  | 3 => ("TurnedPosts$Trail", "reached", "I", false)
  | 4 => ("TurnedPosts$Trail", "steps", "I", false)
  | 5 => ("TurnedPosts$Trail", "where", "I", false)
  | 6 => ("TurnedPosts$Trail", "covered", "I", false)
  | _ => ("TurnedPosts$Trail", "returned", "I", false)
def tyX10 : Nat → FieldType := fun k => match k with
  | 0 => .object "TurnedPosts$Posts"
  | 1 => .array .int
  | 2 => .array .int
  | 3 => .int
  | 4 => .int
  | 5 => .int
  | 6 => .int
  | _ => .int
theorem nmX10 : ∀ a, a < 8 → ∀ b, b < 8 → a ≠ b → (TX10 a).2.1 ≠ (TX10 b).2.1 := by decide +kernel
theorem tyX10_ok : ∀ k, k < 8 → parseFieldDescriptor (TX10 k).2.2.1 = some (tyX10 k) := by decide +kernel
abbrev cX10_init : ByteArray := prog_12_method_1_code
def yX10_init : MethodName := ⟨RX10, "<init>", "()V"⟩
abbrev cX10_follow : ByteArray := prog_12_method_2_code
def yX10_follow : MethodName := ⟨RX10, "follow", "(LTurnedPosts$Land;I)V"⟩
abbrev cX10_arrive : ByteArray := prog_12_method_3_code
def yX10_arrive : MethodName := ⟨RX10, "arrive", "(II)I"⟩
abbrev cX10_unused : ByteArray := prog_12_method_4_code
def yX10_unused : MethodName := ⟨RX10, "unused", "()I"⟩
abbrev cX10_round : ByteArray := prog_12_method_5_code
def yX10_round : MethodName := ⟨RX10, "round", "()I"⟩
def RX11 : String := "TurnedPosts"
def TX11 : u_T := fun k => match k with
  | 0 => ("TurnedPosts", "told", "LTurnedPosts$Told;", true)
  | 1 => ("TurnedPosts", "images", "[LTurnedPosts$Told;", true)
  | 2 => ("TurnedPosts", "imageMade", "[Z", true)
  | 3 => ("TurnedPosts", "reader", "LTurnedPosts$Reader;", true)
  | 4 => ("TurnedPosts", "posts", "LTurnedPosts$Posts;", true)
  | 5 => ("TurnedPosts", "course", "LTurnedPosts$Course;", true)
  | 6 => ("TurnedPosts", "trail", "LTurnedPosts$Trail;", true)
  | 7 => ("TurnedPosts", "firstWays", "LTurnedPosts$AllWays;", true)
  | 8 => ("TurnedPosts", "secondWays", "LTurnedPosts$AllWays;", true)
  | 9 => ("TurnedPosts", "fitting", "LTurnedPosts$Fitting;", true)
  | _ => ("TurnedPosts", "codes", "[I", true)
def tyX11 : Nat → FieldType := fun k => match k with
  | 0 => .object "TurnedPosts$Told"
  | 1 => .array (.object "TurnedPosts$Told")
  | 2 => .array .boolean
  | 3 => .object "TurnedPosts$Reader"
  | 4 => .object "TurnedPosts$Posts"
  | 5 => .object "TurnedPosts$Course"
  | 6 => .object "TurnedPosts$Trail"
  | 7 => .object "TurnedPosts$AllWays"
  | 8 => .object "TurnedPosts$AllWays"
  | 9 => .object "TurnedPosts$Fitting"
  | _ => .array .int
theorem nmX11 : ∀ a, a < 11 → ∀ b, b < 11 → a ≠ b → (TX11 a).2.1 ≠ (TX11 b).2.1 := by decide +kernel
theorem tyX11_ok : ∀ k, k < 11 → parseFieldDescriptor (TX11 k).2.2.1 = some (tyX11 k) := by decide +kernel
abbrev cX11_init : ByteArray := prog_1_method_1_code
def yX11_init : MethodName := ⟨RX11, "<init>", "()V"⟩
abbrev cX11_feed : ByteArray := prog_1_method_2_code
def yX11_feed : MethodName := ⟨RX11, "feed", "(IIIII)I"⟩
abbrev cX11_end : ByteArray := prog_1_method_3_code
def yX11_end : MethodName := ⟨RX11, "end", "(I)I"⟩
abbrev cX11_text : ByteArray := prog_1_method_4_code
def yX11_text : MethodName := ⟨RX11, "text", "(II)I"⟩
abbrev cX11_forgetWhatFollows : ByteArray := prog_1_method_5_code
def yX11_forgetWhatFollows : MethodName := ⟨RX11, "forgetWhatFollows", "(Z)V"⟩
abbrev cX11_fault : ByteArray := prog_1_method_6_code
def yX11_fault : MethodName := ⟨RX11, "fault", "(I)I"⟩
abbrev cX11_count : ByteArray := prog_1_method_7_code
def yX11_count : MethodName := ⟨RX11, "count", "(I)I"⟩
abbrev cX11_image : ByteArray := prog_1_method_8_code
def yX11_image : MethodName := ⟨RX11, "image", "(I)Z"⟩
abbrev cX11_again : ByteArray := prog_1_method_9_code
def yX11_again : MethodName := ⟨RX11, "again", "(I)Z"⟩
abbrev cX11_land : ByteArray := prog_1_method_10_code
def yX11_land : MethodName := ⟨RX11, "land", "(II)I"⟩
abbrev cX11_deed : ByteArray := prog_1_method_11_code
def yX11_deed : MethodName := ⟨RX11, "deed", "(III)I"⟩
abbrev cX11_fact : ByteArray := prog_1_method_12_code
def yX11_fact : MethodName := ⟨RX11, "fact", "(III)I"⟩
abbrev cX11_stop : ByteArray := prog_1_method_13_code
def yX11_stop : MethodName := ⟨RX11, "stop", "(II)I"⟩
abbrev cX11_state : ByteArray := prog_1_method_14_code
def yX11_state : MethodName := ⟨RX11, "state", "(IIII)I"⟩
abbrev cX11_after : ByteArray := prog_1_method_15_code
def yX11_after : MethodName := ⟨RX11, "after", "(III)I"⟩
abbrev cX11_drawn : ByteArray := prog_1_method_16_code
def yX11_drawn : MethodName := ⟨RX11, "drawn", "(IIII)I"⟩
abbrev cX11_walk : ByteArray := prog_1_method_17_code
def yX11_walk : MethodName := ⟨RX11, "walk", "(III)I"⟩
abbrev cX11_cover : ByteArray := prog_1_method_18_code
def yX11_cover : MethodName := ⟨RX11, "cover", "(III)I"⟩
abbrev cX11_endOf : ByteArray := prog_1_method_19_code
def yX11_endOf : MethodName := ⟨RX11, "endOf", "(II)I"⟩
abbrev cX11_come : ByteArray := prog_1_method_20_code
def yX11_come : MethodName := ⟨RX11, "come", "(III)I"⟩
abbrev cX11_share : ByteArray := prog_1_method_21_code
def yX11_share : MethodName := ⟨RX11, "share", "(IIII)I"⟩
abbrev cX11_period : ByteArray := prog_1_method_22_code
def yX11_period : MethodName := ⟨RX11, "period", "(IIZ)I"⟩
abbrev cX11_placeOfCode : ByteArray := prog_1_method_23_code
def yX11_placeOfCode : MethodName := ⟨RX11, "placeOfCode", "(II)I"⟩
abbrev cX11_keys : ByteArray := prog_1_method_24_code
def yX11_keys : MethodName := ⟨RX11, "keys", "(IIZ)I"⟩
abbrev cX11_isKey : ByteArray := prog_1_method_25_code
def yX11_isKey : MethodName := ⟨RX11, "isKey", "(LTurnedPosts$Land;III)Z"⟩
abbrev cX11_waysIn : ByteArray := prog_1_method_26_code
def yX11_waysIn : MethodName := ⟨RX11, "waysIn", "(ILTurnedPosts$Land;)LTurnedPosts$AllWays;"⟩
abbrev cX11_set : ByteArray := prog_1_method_27_code
def yX11_set : MethodName := ⟨RX11, "set", "(IIII)I"⟩
abbrev cX11_lot : ByteArray := prog_1_method_28_code
def yX11_lot : MethodName := ⟨RX11, "lot", "(IIIZ)I"⟩
abbrev cX11_mean : ByteArray := prog_1_method_29_code
def yX11_mean : MethodName := ⟨RX11, "mean", "(IIZ)I"⟩
abbrev cX11_inLeastTerms : ByteArray := prog_1_method_30_code
def yX11_inLeastTerms : MethodName := ⟨RX11, "inLeastTerms", "(IIZ)I"⟩
abbrev cX11_trees : ByteArray := prog_1_method_31_code
def yX11_trees : MethodName := ⟨RX11, "trees", "(I)I"⟩
abbrev cX11_longest : ByteArray := prog_1_method_32_code
def yX11_longest : MethodName := ⟨RX11, "longest", "(IIZZ)I"⟩
abbrev cX11_back : ByteArray := prog_1_method_33_code
def yX11_back : MethodName := ⟨RX11, "back", "(II)I"⟩
abbrev cX11_game : ByteArray := prog_1_method_34_code
def yX11_game : MethodName := ⟨RX11, "game", "(IIIZ)I"⟩
abbrev cX11_worth : ByteArray := prog_1_method_35_code
def yX11_worth : MethodName := ⟨RX11, "worth", "(LTurnedPosts$AllWays;IIIZ)I"⟩
abbrev cX11_bestTurn : ByteArray := prog_1_method_36_code
def yX11_bestTurn : MethodName := ⟨RX11, "bestTurn", "(LTurnedPosts$AllWays;IIII)I"⟩
abbrev cX11_fit : ByteArray := prog_1_method_37_code
def yX11_fit : MethodName := ⟨RX11, "fit", "(II)Z"⟩
abbrev cX11_fits : ByteArray := prog_1_method_38_code
def yX11_fits : MethodName := ⟨RX11, "fits", "(III)I"⟩
abbrev cX11_odds : ByteArray := prog_1_method_39_code
def yX11_odds : MethodName := ⟨RX11, "odds", "(IIIIZ)I"⟩
abbrev cX11_least : ByteArray := prog_1_method_40_code
def yX11_least : MethodName := ⟨RX11, "least", "(IIZ)I"⟩
abbrev cX11_far : ByteArray := prog_1_method_41_code
def yX11_far : MethodName := ⟨RX11, "far", "(III)I"⟩
abbrev cX11_reach : ByteArray := prog_1_method_42_code
def yX11_reach : MethodName := ⟨RX11, "reach", "(III)I"⟩
abbrev cX11_classes : ByteArray := prog_1_method_43_code
def yX11_classes : MethodName := ⟨RX11, "classes", "(II)I"⟩
abbrev cX11_led : ByteArray := prog_1_method_44_code
def yX11_led : MethodName := ⟨RX11, "led", "(III)I"⟩
def RX12 : String := "TurnedPostsModel"
def TX12 : u_T := fun k => match k with
  | 0 => ("TurnedPostsModel", "all", "[I", true)
  | 1 => ("TurnedPostsModel", "has", "[Z", true)
  | 2 => ("TurnedPostsModel", "size", "I", false)
  | 3 => ("TurnedPostsModel", "next", "I", false)
  | 4 => ("TurnedPostsModel", "where", "I", false)
  | 5 => ("TurnedPostsModel", "token", "I", false)
  | 6 => ("TurnedPostsModel", "number", "I", false)
  | 7 => ("TurnedPostsModel", "word", "I", false)
  | 8 => ("TurnedPostsModel", "wrong", "Z", false)
  | 9 => ("TurnedPostsModel", "farCrossing", "I", false)
  | 10 => ("TurnedPostsModel", "read", "[I", true)
  | 11 => ("TurnedPostsModel", "z0", "I", false)
  | 12 => ("TurnedPostsModel", "crossings", "I", false)
  | 13 => ("TurnedPostsModel", "inns", "I", false)
  | 14 => ("TurnedPostsModel", "posts", "[I", true)
  | 15 => ("TurnedPostsModel", "shut", "[I", true)
  | 16 => ("TurnedPostsModel", "here", "[I", true)
  | 17 => ("TurnedPostsModel", "steps", "I", false)
  | 18 => ("TurnedPostsModel", "done", "I", false)
  | 19 => ("TurnedPostsModel", "at", "I", false)
  | 20 => ("TurnedPostsModel", "gone", "I", false)
  | 21 => ("TurnedPostsModel", "was", "[I", true)
  | 22 => ("TurnedPostsModel", "came", "[I", true)
  | 23 => ("TurnedPostsModel", "seenAt", "[I", true)
  | 24 => ("TurnedPostsModel", "rowWorth", "[I", true)
  | 25 => ("TurnedPostsModel", "farBy", "[I", true)
  | 26 => ("TurnedPostsModel", "used", "[I", true)
  | 27 => ("TurnedPostsModel", "everywhere", "I", false)
  | 28 => ("TurnedPostsModel", "again0", "I", false)
  | 29 => ("TurnedPostsModel", "d0", "I", false)
  | 30 => ("TurnedPostsModel", "never", "I", false)
  | 31 => ("TurnedPostsModel", "firstCame", "I", false)
  | 32 => ("TurnedPostsModel", "longRun", "I", false)
  | 33 => ("TurnedPostsModel", "moved", "I", false)
  | 34 => ("TurnedPostsModel", "crowd", "I", false)
  | 35 => ("TurnedPostsModel", "l0", "I", false)
  | 36 => ("TurnedPostsModel", "fitMany", "I", false)
  | 37 => ("TurnedPostsModel", "fitLeast", "I", false)
  | 38 => ("TurnedPostsModel", "fitMost", "I", false)
  | 39 => ("TurnedPostsModel", "fitPost", "[I", true)
  | 40 => ("TurnedPostsModel", "fitEnd", "[I", true)
  | 41 => ("TurnedPostsModel", "keptPosts", "[I", true)
  | _ => ("TurnedPostsModel", "x0", "I", false)
def tyX12 : Nat → FieldType := fun k => match k with
  | 0 => .array .int
  | 1 => .array .boolean
  | 2 => .int
  | 3 => .int
  | 4 => .int
  | 5 => .int
  | 6 => .int
  | 7 => .int
  | 8 => .boolean
  | 9 => .int
  | 10 => .array .int
  | 11 => .int
  | 12 => .int
  | 13 => .int
  | 14 => .array .int
  | 15 => .array .int
  | 16 => .array .int
  | 17 => .int
  | 18 => .int
  | 19 => .int
  | 20 => .int
  | 21 => .array .int
  | 22 => .array .int
  | 23 => .array .int
  | 24 => .array .int
  | 25 => .array .int
  | 26 => .array .int
  | 27 => .int
  | 28 => .int
  | 29 => .int
  | 30 => .int
  | 31 => .int
  | 32 => .int
  | 33 => .int
  | 34 => .int
  | 35 => .int
  | 36 => .int
  | 37 => .int
  | 38 => .int
  | 39 => .array .int
  | 40 => .array .int
  | 41 => .array .int
  | _ => .int
theorem nmX12 : ∀ a, a < 43 → ∀ b, b < 43 → a ≠ b → (TX12 a).2.1 ≠ (TX12 b).2.1 := by decide +kernel
theorem tyX12_ok : ∀ k, k < 43 → parseFieldDescriptor (TX12 k).2.2.1 = some (tyX12 k) := by decide +kernel
abbrev cX12_init : ByteArray := prog_14_method_1_code
def yX12_init : MethodName := ⟨RX12, "<init>", "()V"⟩
abbrev cX12_isIn : ByteArray := prog_14_method_2_code
def yX12_isIn : MethodName := ⟨RX12, "isIn", "(III)Z"⟩
abbrev cX12_feed : ByteArray := prog_14_method_3_code
def yX12_feed : MethodName := ⟨RX12, "feed", "(IIIII)I"⟩
abbrev cX12_end : ByteArray := prog_14_method_4_code
def yX12_end : MethodName := ⟨RX12, "end", "(I)I"⟩
abbrev cX12_byteAt : ByteArray := prog_14_method_5_code
def yX12_byteAt : MethodName := ⟨RX12, "byteAt", "(I)I"⟩
abbrev cX12_isLetter : ByteArray := prog_14_method_6_code
def yX12_isLetter : MethodName := ⟨RX12, "isLetter", "(I)Z"⟩
abbrev cX12_isDigit : ByteArray := prog_14_method_7_code
def yX12_isDigit : MethodName := ⟨RX12, "isDigit", "(I)Z"⟩
abbrev cX12_four : ByteArray := prog_14_method_8_code
def yX12_four : MethodName := ⟨RX12, "four", "(IIII)J"⟩
abbrev cX12_eight : ByteArray := prog_14_method_9_code
def yX12_eight : MethodName := ⟨RX12, "eight", "(IIIIIIII)J"⟩
abbrev cX12_wordOf : ByteArray := prog_14_method_10_code
def yX12_wordOf : MethodName := ⟨RX12, "wordOf", "(J)I"⟩
abbrev cX12_advance : ByteArray := prog_14_method_11_code
def yX12_advance : MethodName := ⟨RX12, "advance", "()V"⟩
abbrev cX12_ends : ByteArray := prog_14_method_12_code
def yX12_ends : MethodName := ⟨RX12, "ends", "()V"⟩
abbrev cX12_also : ByteArray := prog_14_method_13_code
def yX12_also : MethodName := ⟨RX12, "also", "(II)V"⟩
abbrev cX12_numbered : ByteArray := prog_14_method_14_code
def yX12_numbered : MethodName := ⟨RX12, "numbered", "(II)I"⟩
abbrev cX12_wordIn : ByteArray := prog_14_method_15_code
def yX12_wordIn : MethodName := ⟨RX12, "wordIn", "(II)I"⟩
abbrev cX12_endsLine : ByteArray := prog_14_method_16_code
def yX12_endsLine : MethodName := ⟨RX12, "endsLine", "()V"⟩
abbrev cX12_crossingTold : ByteArray := prog_14_method_17_code
def yX12_crossingTold : MethodName := ⟨RX12, "crossingTold", "()I"⟩
abbrev cX12_crossTold : ByteArray := prog_14_method_18_code
def yX12_crossTold : MethodName := ⟨RX12, "crossTold", "(I)V"⟩
abbrev cX12_landLine : ByteArray := prog_14_method_19_code
def yX12_landLine : MethodName := ⟨RX12, "landLine", "()V"⟩
abbrev cX12_dayLine : ByteArray := prog_14_method_20_code
def yX12_dayLine : MethodName := ⟨RX12, "dayLine", "()V"⟩
abbrev cX12_logLine : ByteArray := prog_14_method_21_code
def yX12_logLine : MethodName := ⟨RX12, "logLine", "()V"⟩
abbrev cX12_placeOf : ByteArray := prog_14_method_22_code
def yX12_placeOf : MethodName := ⟨RX12, "placeOf", "(II)I"⟩
abbrev cX12_sizeOf : ByteArray := prog_14_method_23_code
def yX12_sizeOf : MethodName := ⟨RX12, "sizeOf", "(I)I"⟩
abbrev cX12_isOf : ByteArray := prog_14_method_24_code
def yX12_isOf : MethodName := ⟨RX12, "isOf", "(II)Z"⟩
abbrev cX12_postsAreThere : ByteArray := prog_14_method_25_code
def yX12_postsAreThere : MethodName := ⟨RX12, "postsAreThere", "()Z"⟩
abbrev cX12_text : ByteArray := prog_14_method_26_code
def yX12_text : MethodName := ⟨RX12, "text", "(II)I"⟩
abbrev cX12_fault : ByteArray := prog_14_method_27_code
def yX12_fault : MethodName := ⟨RX12, "fault", "(I)I"⟩
abbrev cX12_isLand : ByteArray := prog_14_method_28_code
def yX12_isLand : MethodName := ⟨RX12, "isLand", "(I)Z"⟩
abbrev cX12_isCrossing : ByteArray := prog_14_method_29_code
def yX12_isCrossing : MethodName := ⟨RX12, "isCrossing", "(I)Z"⟩
abbrev cX12_isInn : ByteArray := prog_14_method_30_code
def yX12_isInn : MethodName := ⟨RX12, "isInn", "(I)Z"⟩
abbrev cX12_roadsOf : ByteArray := prog_14_method_31_code
def yX12_roadsOf : MethodName := ⟨RX12, "roadsOf", "(I)I"⟩
abbrev cX12_postTold : ByteArray := prog_14_method_32_code
def yX12_postTold : MethodName := ⟨RX12, "postTold", "(I)I"⟩
abbrev cX12_leadsTo : ByteArray := prog_14_method_33_code
def yX12_leadsTo : MethodName := ⟨RX12, "leadsTo", "(II)I"⟩
abbrev cX12_isFree : ByteArray := prog_14_method_34_code
def yX12_isFree : MethodName := ⟨RX12, "isFree", "(I)Z"⟩
abbrev cX12_land : ByteArray := prog_14_method_35_code
def yX12_land : MethodName := ⟨RX12, "land", "(II)I"⟩
abbrev cX12_begins : ByteArray := prog_14_method_36_code
def yX12_begins : MethodName := ⟨RX12, "begins", "()V"⟩
abbrev cX12_turns : ByteArray := prog_14_method_37_code
def yX12_turns : MethodName := ⟨RX12, "turns", "(I)Z"⟩
abbrev cX12_stepsOn : ByteArray := prog_14_method_38_code
def yX12_stepsOn : MethodName := ⟨RX12, "stepsOn", "()Z"⟩
abbrev cX12_puts : ByteArray := prog_14_method_39_code
def yX12_puts : MethodName := ⟨RX12, "puts", "(I)V"⟩
abbrev cX12_walks : ByteArray := prog_14_method_40_code
def yX12_walks : MethodName := ⟨RX12, "walks", "(I)Z"⟩
abbrev cX12_walk : ByteArray := prog_14_method_41_code
def yX12_walk : MethodName := ⟨RX12, "walk", "(III)I"⟩
abbrev cX12_endOf : ByteArray := prog_14_method_42_code
def yX12_endOf : MethodName := ⟨RX12, "endOf", "(II)I"⟩
abbrev cX12_come : ByteArray := prog_14_method_43_code
def yX12_come : MethodName := ⟨RX12, "come", "(III)I"⟩
abbrev cX12_share : ByteArray := prog_14_method_44_code
def yX12_share : MethodName := ⟨RX12, "share", "(IIII)I"⟩
abbrev cX12_postsNow : ByteArray := prog_14_method_45_code
def yX12_postsNow : MethodName := ⟨RX12, "postsNow", "()I"⟩
abbrev cX12_period : ByteArray := prog_14_method_46_code
def yX12_period : MethodName := ⟨RX12, "period", "(IIZ)I"⟩
abbrev cX12_waysMany : ByteArray := prog_14_method_47_code
def yX12_waysMany : MethodName := ⟨RX12, "waysMany", "()I"⟩
abbrev cX12_setsWay : ByteArray := prog_14_method_48_code
def yX12_setsWay : MethodName := ⟨RX12, "setsWay", "(I)V"⟩
abbrev cX12_numberOf : ByteArray := prog_14_method_49_code
def yX12_numberOf : MethodName := ⟨RX12, "numberOf", "(I)I"⟩
abbrev cX12_unlikeTold : ByteArray := prog_14_method_50_code
def yX12_unlikeTold : MethodName := ⟨RX12, "unlikeTold", "()I"⟩
abbrev cX12_bitsOf : ByteArray := prog_14_method_51_code
def yX12_bitsOf : MethodName := ⟨RX12, "bitsOf", "(I)I"⟩
abbrev cX12_setBy : ByteArray := prog_14_method_52_code
def yX12_setBy : MethodName := ⟨RX12, "setBy", "(II)I"⟩
abbrev cX12_set : ByteArray := prog_14_method_53_code
def yX12_set : MethodName := ⟨RX12, "set", "(IIII)I"⟩
abbrev cX12_common : ByteArray := prog_14_method_54_code
def yX12_common : MethodName := ⟨RX12, "common", "(II)I"⟩
abbrev cX12_parted : ByteArray := prog_14_method_55_code
def yX12_parted : MethodName := ⟨RX12, "parted", "(IIZ)I"⟩
abbrev cX12_lot : ByteArray := prog_14_method_56_code
def yX12_lot : MethodName := ⟨RX12, "lot", "(IIIZ)I"⟩
abbrev cX12_mean : ByteArray := prog_14_method_57_code
def yX12_mean : MethodName := ⟨RX12, "mean", "(IIZ)I"⟩
abbrev cX12_ledTo : ByteArray := prog_14_method_58_code
def yX12_ledTo : MethodName := ⟨RX12, "ledTo", "(II)I"⟩
abbrev cX12_trees : ByteArray := prog_14_method_59_code
def yX12_trees : MethodName := ⟨RX12, "trees", "(I)I"⟩
abbrev cX12_gameBy : ByteArray := prog_14_method_60_code
def yX12_gameBy : MethodName := ⟨RX12, "gameBy", "(III)I"⟩
abbrev cX12_game : ByteArray := prog_14_method_61_code
def yX12_game : MethodName := ⟨RX12, "game", "(IIIZ)I"⟩
abbrev cX12_roads5 : ByteArray := prog_14_method_62_code
def yX12_roads5 : MethodName := ⟨RX12, "roads5", "(I)I"⟩
abbrev cX12_laysFar : ByteArray := prog_14_method_63_code
def yX12_laysFar : MethodName := ⟨RX12, "laysFar", "()V"⟩
abbrev cX12_reachOf : ByteArray := prog_14_method_64_code
def yX12_reachOf : MethodName := ⟨RX12, "reachOf", "(I)I"⟩
abbrev cX12_far : ByteArray := prog_14_method_65_code
def yX12_far : MethodName := ⟨RX12, "far", "(III)I"⟩
abbrev cX12_reach : ByteArray := prog_14_method_66_code
def yX12_reach : MethodName := ⟨RX12, "reach", "(III)I"⟩
abbrev cX12_classOf : ByteArray := prog_14_method_67_code
def yX12_classOf : MethodName := ⟨RX12, "classOf", "(I)I"⟩
abbrev cX12_classesOf : ByteArray := prog_14_method_68_code
def yX12_classesOf : MethodName := ⟨RX12, "classesOf", "(Z)I"⟩
abbrev cX12_leadHere : ByteArray := prog_14_method_69_code
def yX12_leadHere : MethodName := ⟨RX12, "leadHere", "(IZ)I"⟩
abbrev cX12_crossingsOf : ByteArray := prog_14_method_70_code
def yX12_crossingsOf : MethodName := ⟨RX12, "crossingsOf", "(I)I"⟩
abbrev cX12_loops : ByteArray := prog_14_method_71_code
def yX12_loops : MethodName := ⟨RX12, "loops", "(Z)I"⟩
abbrev cX12_busyOf : ByteArray := prog_14_method_72_code
def yX12_busyOf : MethodName := ⟨RX12, "busyOf", "()I"⟩
abbrev cX12_classes : ByteArray := prog_14_method_73_code
def yX12_classes : MethodName := ⟨RX12, "classes", "(II)I"⟩
abbrev cX12_led : ByteArray := prog_14_method_74_code
def yX12_led : MethodName := ⟨RX12, "led", "(III)I"⟩
abbrev cX12_walksFar : ByteArray := prog_14_method_75_code
def yX12_walksFar : MethodName := ⟨RX12, "walksFar", "(I)V"⟩
abbrev cX12_unusedOf : ByteArray := prog_14_method_76_code
def yX12_unusedOf : MethodName := ⟨RX12, "unusedOf", "(I)I"⟩
abbrev cX12_roundOf : ByteArray := prog_14_method_77_code
def yX12_roundOf : MethodName := ⟨RX12, "roundOf", "()I"⟩
abbrev cX12_cover : ByteArray := prog_14_method_78_code
def yX12_cover : MethodName := ⟨RX12, "cover", "(III)I"⟩
abbrev cX12_longest : ByteArray := prog_14_method_79_code
def yX12_longest : MethodName := ⟨RX12, "longest", "(IIZZ)I"⟩
abbrev cX12_back : ByteArray := prog_14_method_80_code
def yX12_back : MethodName := ⟨RX12, "back", "(II)I"⟩
abbrev cX12_keys : ByteArray := prog_14_method_81_code
def yX12_keys : MethodName := ⟨RX12, "keys", "(IIZ)I"⟩
abbrev cX12_isDay : ByteArray := prog_14_method_82_code
def yX12_isDay : MethodName := ⟨RX12, "isDay", "(I)Z"⟩
abbrev cX12_deed : ByteArray := prog_14_method_83_code
def yX12_deed : MethodName := ⟨RX12, "deed", "(III)I"⟩
abbrev cX12_looks : ByteArray := prog_14_method_84_code
def yX12_looks : MethodName := ⟨RX12, "looks", "()V"⟩
abbrev cX12_goesFrom : ByteArray := prog_14_method_85_code
def yX12_goesFrom : MethodName := ⟨RX12, "goesFrom", "(I)V"⟩
abbrev cX12_goes : ByteArray := prog_14_method_86_code
def yX12_goes : MethodName := ⟨RX12, "goes", "(I)Z"⟩
abbrev cX12_runs0 : ByteArray := prog_14_method_87_code
def yX12_runs0 : MethodName := ⟨RX12, "runs0", "(I)Z"⟩
abbrev cX12_adds : ByteArray := prog_14_method_88_code
def yX12_adds : MethodName := ⟨RX12, "adds", "(I)Z"⟩
abbrev cX12_shuts : ByteArray := prog_14_method_89_code
def yX12_shuts : MethodName := ⟨RX12, "shuts", "(IIZ)Z"⟩
abbrev cX12_does : ByteArray := prog_14_method_90_code
def yX12_does : MethodName := ⟨RX12, "does", "(III)Z"⟩
abbrev cX12_beginsDay : ByteArray := prog_14_method_91_code
def yX12_beginsDay : MethodName := ⟨RX12, "beginsDay", "()V"⟩
abbrev cX12_runs : ByteArray := prog_14_method_92_code
def yX12_runs : MethodName := ⟨RX12, "runs", "(I)V"⟩
abbrev cX12_stop : ByteArray := prog_14_method_93_code
def yX12_stop : MethodName := ⟨RX12, "stop", "(II)I"⟩
abbrev cX12_walkersOf : ByteArray := prog_14_method_94_code
def yX12_walkersOf : MethodName := ⟨RX12, "walkersOf", "(Z)I"⟩
abbrev cX12_nowOf : ByteArray := prog_14_method_95_code
def yX12_nowOf : MethodName := ⟨RX12, "nowOf", "(I)I"⟩
abbrev cX12_state : ByteArray := prog_14_method_96_code
def yX12_state : MethodName := ⟨RX12, "state", "(IIII)I"⟩
abbrev cX12_elsewhere : ByteArray := prog_14_method_97_code
def yX12_elsewhere : MethodName := ⟨RX12, "elsewhere", "()I"⟩
abbrev cX12_after : ByteArray := prog_14_method_98_code
def yX12_after : MethodName := ⟨RX12, "after", "(III)I"⟩
abbrev cX12_isLog : ByteArray := prog_14_method_99_code
def yX12_isLog : MethodName := ⟨RX12, "isLog", "(I)Z"⟩
abbrev cX12_fact : ByteArray := prog_14_method_100_code
def yX12_fact : MethodName := ⟨RX12, "fact", "(III)I"⟩
abbrev cX12_isSo : ByteArray := prog_14_method_101_code
def yX12_isSo : MethodName := ⟨RX12, "isSo", "()Z"⟩
abbrev cX12_laysNoFits : ByteArray := prog_14_method_102_code
def yX12_laysNoFits : MethodName := ⟨RX12, "laysNoFits", "()V"⟩
abbrev cX12_laysEnds : ByteArray := prog_14_method_103_code
def yX12_laysEnds : MethodName := ⟨RX12, "laysEnds", "()V"⟩
abbrev cX12_laysFits : ByteArray := prog_14_method_104_code
def yX12_laysFits : MethodName := ⟨RX12, "laysFits", "(IZ)I"⟩
abbrev cX12_askOf : ByteArray := prog_14_method_105_code
def yX12_askOf : MethodName := ⟨RX12, "askOf", "()I"⟩
abbrev cX12_sureOf : ByteArray := prog_14_method_106_code
def yX12_sureOf : MethodName := ⟨RX12, "sureOf", "(I)I"⟩
abbrev cX12_fits : ByteArray := prog_14_method_107_code
def yX12_fits : MethodName := ⟨RX12, "fits", "(III)I"⟩
abbrev cX12_odds : ByteArray := prog_14_method_108_code
def yX12_odds : MethodName := ⟨RX12, "odds", "(IIIIZ)I"⟩
abbrev cX12_least : ByteArray := prog_14_method_109_code
def yX12_least : MethodName := ⟨RX12, "least", "(IIZ)I"⟩
abbrev cX12_below : ByteArray := prog_14_method_110_code
def yX12_below : MethodName := ⟨RX12, "below", "(I)I"⟩
abbrev cX12_draws : ByteArray := prog_14_method_111_code
def yX12_draws : MethodName := ⟨RX12, "draws", "()V"⟩
abbrev cX12_drawn : ByteArray := prog_14_method_112_code
def yX12_drawn : MethodName := ⟨RX12, "drawn", "(IIII)I"⟩
abbrev cX12_count : ByteArray := prog_14_method_113_code
def yX12_count : MethodName := ⟨RX12, "count", "(I)I"⟩
abbrev cX12_image : ByteArray := prog_14_method_114_code
def yX12_image : MethodName := ⟨RX12, "image", "(I)Z"⟩
abbrev cX12_again : ByteArray := prog_14_method_115_code
def yX12_again : MethodName := ⟨RX12, "again", "(I)Z"⟩
def RJ6 : String := "java/lang/Integer"
abbrev cJ6_bitCount_0f7a4 : ByteArray := prog_15_method_49_code
def yJ6_bitCount_0f7a4 : MethodName := ⟨RJ6, "bitCount", "(I)I"⟩
def RJ0 : String := "java/lang/String"
abbrev cJ0_length_8abf5 : ByteArray := prog_17_method_54_code
def yJ0_length_8abf5 : MethodName := ⟨RJ0, "length", "()I"⟩
abbrev cJ0_charAt_5068e : ByteArray := prog_17_method_56_code
def yJ0_charAt_5068e : MethodName := ⟨RJ0, "charAt", "(I)C"⟩
abbrev cJ0_coder_7d493 : ByteArray := prog_17_method_152_code
def yJ0_coder_7d493 : MethodName := ⟨RJ0, "coder", "()B"⟩
abbrev cJ0_isLatin1_aae02 : ByteArray := prog_17_method_154_code
def yJ0_isLatin1_aae02 : MethodName := ⟨RJ0, "isLatin1", "()Z"⟩
abbrev cJ0_checkIndex_df160 : ByteArray := prog_17_method_155_code
def yJ0_checkIndex_df160 : MethodName := ⟨RJ0, "checkIndex", "(II)V"⟩
def RJ1 : String := "java/lang/StringLatin1"
abbrev cJ1_charAt_3b067 : ByteArray := prog_18_method_2_code
def yJ1_charAt_3b067 : MethodName := ⟨RJ1, "charAt", "([BI)C"⟩
def RJ3 : String := "jdk/internal/util/Preconditions"
abbrev cJ3_checkIndex_8e157 : ByteArray := prog_20_method_11_code
def yJ3_checkIndex_8e157 : MethodName := ⟨RJ3, "checkIndex", "(IILjava/util/function/BiFunction;)I"⟩
def RL : String := "TurnedPostsLaw"
abbrev cL_law : ByteArray := code
abbrev vwCl : List vw_C := [(RX0, TX0, 10), (RX1, TX1, 11), (RX2, TX2, 4), (RX3, TX3, 8), (RX4, TX4, 6), (RX5, TX5, 3), (RX6, TX6, 6), (RX7, TX7, 13), (RX9, TX9, 8), (RX10, TX10, 8), (RX11, TX11, 11), (RX12, TX12, 43)]
/-! what is decoded, by the bytes that stand there -/
noncomputable def zdr : List UInt8 → Nat → List UInt8 := fun l => List.rec (motive := fun _ => Nat → List UInt8) (fun _ => []) (fun x xs ih n => Nat.rec (motive := fun _ => List UInt8) (x :: xs) (fun m _ => ih m) n) l
theorem zdr_e : ∀ (l : List UInt8) (n : Nat), zdr l n = l.drop n
  | [], n => List.drop_nil.symm
  | x :: xs, 0 => rfl
  | x :: xs, n + 1 => zdr_e xs n
theorem zdr_1 {l : List UInt8} {n : Nat} {x : UInt8} {r : List UInt8} (h : zdr l n = x :: r) : zdr l (n + 1) = r := by
  rw [zdr_e] at h ⊢
  have e : (l.drop n).drop 1 = l.drop (n + 1) := List.drop_drop
  rw [← e, h]
  rfl
theorem zdr_g {l : List UInt8} {n : Nat} {x : UInt8} {r : List UInt8} (h : zdr l n = x :: r) : ∃ hp : n < l.length, l[n] = x := by
  rw [zdr_e] at h
  have e : (l.drop n)[0]? = l[n + 0]? := List.getElem?_drop
  rw [h] at e
  exact List.getElem?_eq_some_iff.mp e.symm
theorem zu1 {c : ByteArray} {p : Nat} {x : UInt8} {r : List UInt8} (h : zdr c.data.toList p = x :: r) : (Reader.u1 : Decoder Nat) c p = .ok (x.toNat, p + 1) := by
  obtain ⟨⟨l⟩⟩ := c
  obtain ⟨hp, hx⟩ := zdr_g h
  have hs : p < (⟨⟨l⟩⟩ : ByteArray).size := hp
  have e : (Reader.u1 : Decoder Nat) ⟨⟨l⟩⟩ p = (if h : p < (⟨⟨l⟩⟩ : ByteArray).size then (do set (p + 1); pure ((⟨⟨l⟩⟩ : ByteArray)[p].toNat) : Decoder Nat) else throw (HasTruncated.truncated p)) ⟨⟨l⟩⟩ p := rfl
  rw [e, dif_pos hs]
  exact congrArg (fun (b : UInt8) => (Except.ok (b.toNat, p + 1) : Except DecodeError (Nat × Nat))) hx
theorem zu2 {c : ByteArray} {p : Nat} {x y : UInt8} {r : List UInt8} (h : zdr c.data.toList p = x :: y :: r) : (Reader.u2 : Decoder Nat) c p = .ok (x.toNat * 256 + y.toNat, p + 2) := by
  show Except.bind ((Reader.u1 : Decoder Nat) c p) (fun q => Except.bind ((Reader.u1 : Decoder Nat) c q.2) (fun w => Except.ok (q.1 * 256 + w.1, w.2))) = _
  rw [zu1 h]
  show Except.bind ((Reader.u1 : Decoder Nat) c (p + 1)) (fun w => Except.ok (x.toNat * 256 + w.1, w.2)) = _
  rw [zu1 (zdr_1 h)]
  rfl
theorem zs1 {c : ByteArray} {p : Nat} {x : UInt8} {r : List UInt8} (h : zdr c.data.toList p = x :: r) : (Reader.s1 : Decoder Int) c p = .ok (Reader.signed 8 x.toNat, p + 1) := by
  show Except.bind ((Reader.u1 : Decoder Nat) c p) (fun q => Except.ok (Reader.signed 8 q.1, q.2)) = _
  rw [zu1 h]
  rfl
theorem zs2 {c : ByteArray} {p : Nat} {x y : UInt8} {r : List UInt8} (h : zdr c.data.toList p = x :: y :: r) : (Reader.s2 : Decoder Int) c p = .ok (Reader.signed 16 (x.toNat * 256 + y.toNat), p + 2) := by
  show Except.bind ((Reader.u2 : Decoder Nat) c p) (fun q => Except.ok (Reader.signed 16 q.1, q.2)) = _
  rw [zu2 h]
  rfl
theorem zDd {c : ByteArray} {pc op q : Nat} {F : Nat → Decoder Instr} {i : Instr} (hF : Decoder.instr pc = (Reader.u1 : Decoder Nat) >>= F) (h1 : (Reader.u1 : Decoder Nat) c pc = .ok (op, pc + 1)) (h2 : F op c (pc + 1) = .ok (i, pc + q)) : decode c pc = .ok (i, q) := by
  have e : (Decoder.instr pc) c pc = .ok (i, pc + q) := by
    rw [hF]
    show Except.bind ((Reader.u1 : Decoder Nat) c pc) (fun z => F z.1 c z.2) = _
    rw [h1]
    exact h2
  show Except.bind ((Decoder.instr pc) c pc) (fun z => Except.ok (z.1, z.2 - pc)) = _
  rw [e]
  show Except.ok (i, pc + q - pc) = _
  rw [Nat.add_sub_cancel_left]
noncomputable def zk0 (c : ByteArray) (p op : Nat) : Bool := match zdr c.data.toList p with
  | x :: _ => Nat.beq x.toNat op
  | [] => false
noncomputable def zk1 (c : ByteArray) (p op n : Nat) : Bool := match zdr c.data.toList p with
  | x :: y :: _ => Nat.beq x.toNat op && Nat.beq y.toNat n
  | _ => false
noncomputable def zk2 (c : ByteArray) (p op n : Nat) : Bool := match zdr c.data.toList p with
  | x :: y :: z :: _ => Nat.beq x.toNat op && Nat.beq (y.toNat * 256 + z.toNat) n
  | _ => false
noncomputable def zks1 (c : ByteArray) (p op : Nat) (n : Int) : Bool := match zdr c.data.toList p with
  | x :: y :: _ => Nat.beq x.toNat op && decide (Reader.signed 8 y.toNat = n)
  | _ => false
noncomputable def zks2 (c : ByteArray) (p op : Nat) (n : Int) : Bool := match zdr c.data.toList p with
  | x :: y :: z :: _ => Nat.beq x.toNat op && decide (Reader.signed 16 (y.toNat * 256 + z.toNat) = n)
  | _ => false
noncomputable def zki (c : ByteArray) (p n : Nat) (k : Int) : Bool := match zdr c.data.toList p with
  | x :: y :: z :: _ => Nat.beq x.toNat 132 && (Nat.beq y.toNat n && decide (Reader.signed 8 z.toNat = k))
  | _ => false
theorem zD0 {c : ByteArray} {pc op : Nat} {F : Nat → Decoder Instr} {i : Instr} (hF : Decoder.instr pc = (Reader.u1 : Decoder Nat) >>= F) (e : F op = Pure.pure i) (h : zk0 c pc op = true) : decode c pc = .ok (i, 1) := by
  unfold zk0 at h
  split at h
  · next x r hr =>
    have ho := Nat.eq_of_beq_eq_true h
    refine zDd hF (ho ▸ zu1 hr) ?_
    rw [e]
    rfl
  · exact absurd h (by decide)
theorem zD1 {c : ByteArray} {pc op n : Nat} {F : Nat → Decoder Instr} {G : Nat → Instr} (hF : Decoder.instr pc = (Reader.u1 : Decoder Nat) >>= F) (e : F op = (Reader.u1 : Decoder Nat) >>= fun n => Pure.pure (G n)) (h : zk1 c pc op n = true) : decode c pc = .ok (G n, 2) := by
  unfold zk1 at h
  split at h
  · next x y r hr =>
    have h := Bool.and_eq_true_iff.mp h
    have ho := Nat.eq_of_beq_eq_true h.1
    have hn := Nat.eq_of_beq_eq_true h.2
    refine zDd hF (ho ▸ zu1 hr) ?_
    rw [e]
    show Except.bind ((Reader.u1 : Decoder Nat) c (pc + 1)) (fun z => Except.ok (G z.1, z.2)) = _
    rw [zu1 (zdr_1 hr), hn]
    rfl
  · exact absurd h (by decide)
theorem zD2 {c : ByteArray} {pc op n : Nat} {F : Nat → Decoder Instr} {G : Nat → Instr} (hF : Decoder.instr pc = (Reader.u1 : Decoder Nat) >>= F) (e : F op = (Reader.u2 : Decoder Nat) >>= fun n => Pure.pure (G n)) (h : zk2 c pc op n = true) : decode c pc = .ok (G n, 3) := by
  unfold zk2 at h
  split at h
  · next x y z r hr =>
    have h := Bool.and_eq_true_iff.mp h
    have ho := Nat.eq_of_beq_eq_true h.1
    have hn := Nat.eq_of_beq_eq_true h.2
    refine zDd hF (ho ▸ zu1 hr) ?_
    rw [e]
    show Except.bind ((Reader.u2 : Decoder Nat) c (pc + 1)) (fun z => Except.ok (G z.1, z.2)) = _
    rw [zu2 (zdr_1 hr), hn]
    rfl
  · exact absurd h (by decide)
theorem zDs1 {c : ByteArray} {pc op : Nat} {n : Int} {F : Nat → Decoder Instr} {G : Int → Instr} (hF : Decoder.instr pc = (Reader.u1 : Decoder Nat) >>= F) (e : F op = (Reader.s1 : Decoder Int) >>= fun n => Pure.pure (G n)) (h : zks1 c pc op n = true) : decode c pc = .ok (G n, 2) := by
  unfold zks1 at h
  split at h
  · next x y r hr =>
    have h := Bool.and_eq_true_iff.mp h
    have ho := Nat.eq_of_beq_eq_true h.1
    have hn := of_decide_eq_true h.2
    refine zDd hF (ho ▸ zu1 hr) ?_
    rw [e]
    show Except.bind ((Reader.s1 : Decoder Int) c (pc + 1)) (fun z => Except.ok (G z.1, z.2)) = _
    rw [zs1 (zdr_1 hr), hn]
    rfl
  · exact absurd h (by decide)
theorem zDs2 {c : ByteArray} {pc op : Nat} {n : Int} {F : Nat → Decoder Instr} {G : Int → Instr} (hF : Decoder.instr pc = (Reader.u1 : Decoder Nat) >>= F) (e : F op = (Reader.s2 : Decoder Int) >>= fun n => Pure.pure (G n)) (h : zks2 c pc op n = true) : decode c pc = .ok (G n, 3) := by
  unfold zks2 at h
  split at h
  · next x y z r hr =>
    have h := Bool.and_eq_true_iff.mp h
    have ho := Nat.eq_of_beq_eq_true h.1
    have hn := of_decide_eq_true h.2
    refine zDd hF (ho ▸ zu1 hr) ?_
    rw [e]
    show Except.bind ((Reader.s2 : Decoder Int) c (pc + 1)) (fun z => Except.ok (G z.1, z.2)) = _
    rw [zs2 (zdr_1 hr), hn]
    rfl
  · exact absurd h (by decide)
theorem zDi {c : ByteArray} {pc n : Nat} {k : Int} {F : Nat → Decoder Instr} (hF : Decoder.instr pc = (Reader.u1 : Decoder Nat) >>= F) (e : F 132 = (Reader.u1 : Decoder Nat) >>= fun n => (Reader.s1 : Decoder Int) >>= fun k => Pure.pure (Instr.iinc n k)) (h : zki c pc n k = true) : decode c pc = .ok (.iinc n k, 3) := by
  unfold zki at h
  split at h
  · next x y z r hr =>
    have h := Bool.and_eq_true_iff.mp h
    have ho := Nat.eq_of_beq_eq_true h.1
    have h2 := Bool.and_eq_true_iff.mp h.2
    have hn := Nat.eq_of_beq_eq_true h2.1
    have hk := of_decide_eq_true h2.2
    refine zDd hF (ho ▸ zu1 hr) ?_
    rw [e]
    show Except.bind ((Reader.u1 : Decoder Nat) c (pc + 1)) (fun z => Except.bind ((Reader.s1 : Decoder Int) c z.2) (fun w => Except.ok (Instr.iinc z.1 w.1, w.2))) = _
    rw [zu1 (zdr_1 hr)]
    show Except.bind ((Reader.s1 : Decoder Int) c (pc + 1 + 1)) (fun w => Except.ok (Instr.iinc y.toNat w.1, w.2)) = _
    rw [zs1 (zdr_1 (zdr_1 hr)), hn, hk]
    rfl
  · exact absurd h (by decide)
theorem zo_1 {c : ByteArray} {pc : Nat} (h : zk0 c pc 1 = true) : decode c pc = .ok (.aconst_null, 1) := zD0 (op := 1) rfl rfl h
theorem zo_2 {c : ByteArray} {pc : Nat} (h : zk0 c pc 2 = true) : decode c pc = .ok (.iconst (-1), 1) := zD0 (op := 2) rfl rfl h
theorem zo_3 {c : ByteArray} {pc : Nat} (h : zk0 c pc 3 = true) : decode c pc = .ok (.iconst 0, 1) := zD0 (op := 3) rfl rfl h
theorem zo_4 {c : ByteArray} {pc : Nat} (h : zk0 c pc 4 = true) : decode c pc = .ok (.iconst 1, 1) := zD0 (op := 4) rfl rfl h
theorem zo_5 {c : ByteArray} {pc : Nat} (h : zk0 c pc 5 = true) : decode c pc = .ok (.iconst 2, 1) := zD0 (op := 5) rfl rfl h
theorem zo_6 {c : ByteArray} {pc : Nat} (h : zk0 c pc 6 = true) : decode c pc = .ok (.iconst 3, 1) := zD0 (op := 6) rfl rfl h
theorem zo_7 {c : ByteArray} {pc : Nat} (h : zk0 c pc 7 = true) : decode c pc = .ok (.iconst 4, 1) := zD0 (op := 7) rfl rfl h
theorem zo_8 {c : ByteArray} {pc : Nat} (h : zk0 c pc 8 = true) : decode c pc = .ok (.iconst 5, 1) := zD0 (op := 8) rfl rfl h
theorem zo_9 {c : ByteArray} {pc : Nat} (h : zk0 c pc 9 = true) : decode c pc = .ok (.lconst 0, 1) := zD0 (op := 9) rfl rfl h
theorem zo_16 {c : ByteArray} {pc : Nat} {n : Int} (h : zks1 c pc 16 n = true) : decode c pc = .ok (.bipush n, 2) := zDs1 (G := fun n => .bipush n) (op := 16) rfl rfl h
theorem zo_17 {c : ByteArray} {pc : Nat} {n : Int} (h : zks2 c pc 17 n = true) : decode c pc = .ok (.sipush n, 3) := zDs2 (G := fun n => .sipush n) (op := 17) rfl rfl h
theorem zo_18 {c : ByteArray} {pc : Nat} {n : Nat} (h : zk1 c pc 18 n = true) : decode c pc = .ok (.ldc n, 2) := zD1 (G := fun n => .ldc n) (op := 18) rfl rfl h
theorem zo_19 {c : ByteArray} {pc : Nat} {n : Nat} (h : zk2 c pc 19 n = true) : decode c pc = .ok (.ldc_w n, 3) := zD2 (G := fun n => .ldc_w n) (op := 19) rfl rfl h
theorem zo_20 {c : ByteArray} {pc : Nat} {n : Nat} (h : zk2 c pc 20 n = true) : decode c pc = .ok (.ldc2_w n, 3) := zD2 (G := fun n => .ldc2_w n) (op := 20) rfl rfl h
theorem zo_21 {c : ByteArray} {pc : Nat} {n : Nat} (h : zk1 c pc 21 n = true) : decode c pc = .ok (.iload n, 2) := zD1 (G := fun n => .iload n) (op := 21) rfl rfl h
theorem zo_25 {c : ByteArray} {pc : Nat} {n : Nat} (h : zk1 c pc 25 n = true) : decode c pc = .ok (.aload n, 2) := zD1 (G := fun n => .aload n) (op := 25) rfl rfl h
theorem zo_26 {c : ByteArray} {pc : Nat} (h : zk0 c pc 26 = true) : decode c pc = .ok (.iload_n 0, 1) := zD0 (op := 26) rfl rfl h
theorem zo_27 {c : ByteArray} {pc : Nat} (h : zk0 c pc 27 = true) : decode c pc = .ok (.iload_n 1, 1) := zD0 (op := 27) rfl rfl h
theorem zo_28 {c : ByteArray} {pc : Nat} (h : zk0 c pc 28 = true) : decode c pc = .ok (.iload_n 2, 1) := zD0 (op := 28) rfl rfl h
theorem zo_29 {c : ByteArray} {pc : Nat} (h : zk0 c pc 29 = true) : decode c pc = .ok (.iload_n 3, 1) := zD0 (op := 29) rfl rfl h
theorem zo_30 {c : ByteArray} {pc : Nat} (h : zk0 c pc 30 = true) : decode c pc = .ok (.lload_n 0, 1) := zD0 (op := 30) rfl rfl h
theorem zo_32 {c : ByteArray} {pc : Nat} (h : zk0 c pc 32 = true) : decode c pc = .ok (.lload_n 2, 1) := zD0 (op := 32) rfl rfl h
theorem zo_42 {c : ByteArray} {pc : Nat} (h : zk0 c pc 42 = true) : decode c pc = .ok (.aload_n 0, 1) := zD0 (op := 42) rfl rfl h
theorem zo_43 {c : ByteArray} {pc : Nat} (h : zk0 c pc 43 = true) : decode c pc = .ok (.aload_n 1, 1) := zD0 (op := 43) rfl rfl h
theorem zo_44 {c : ByteArray} {pc : Nat} (h : zk0 c pc 44 = true) : decode c pc = .ok (.aload_n 2, 1) := zD0 (op := 44) rfl rfl h
theorem zo_45 {c : ByteArray} {pc : Nat} (h : zk0 c pc 45 = true) : decode c pc = .ok (.aload_n 3, 1) := zD0 (op := 45) rfl rfl h
theorem zo_46 {c : ByteArray} {pc : Nat} (h : zk0 c pc 46 = true) : decode c pc = .ok (.iaload, 1) := zD0 (op := 46) rfl rfl h
theorem zo_50 {c : ByteArray} {pc : Nat} (h : zk0 c pc 50 = true) : decode c pc = .ok (.aaload, 1) := zD0 (op := 50) rfl rfl h
theorem zo_51 {c : ByteArray} {pc : Nat} (h : zk0 c pc 51 = true) : decode c pc = .ok (.baload, 1) := zD0 (op := 51) rfl rfl h
theorem zo_54 {c : ByteArray} {pc : Nat} {n : Nat} (h : zk1 c pc 54 n = true) : decode c pc = .ok (.istore n, 2) := zD1 (G := fun n => .istore n) (op := 54) rfl rfl h
theorem zo_58 {c : ByteArray} {pc : Nat} {n : Nat} (h : zk1 c pc 58 n = true) : decode c pc = .ok (.astore n, 2) := zD1 (G := fun n => .astore n) (op := 58) rfl rfl h
theorem zo_59 {c : ByteArray} {pc : Nat} (h : zk0 c pc 59 = true) : decode c pc = .ok (.istore_n 0, 1) := zD0 (op := 59) rfl rfl h
theorem zo_60 {c : ByteArray} {pc : Nat} (h : zk0 c pc 60 = true) : decode c pc = .ok (.istore_n 1, 1) := zD0 (op := 60) rfl rfl h
theorem zo_61 {c : ByteArray} {pc : Nat} (h : zk0 c pc 61 = true) : decode c pc = .ok (.istore_n 2, 1) := zD0 (op := 61) rfl rfl h
theorem zo_62 {c : ByteArray} {pc : Nat} (h : zk0 c pc 62 = true) : decode c pc = .ok (.istore_n 3, 1) := zD0 (op := 62) rfl rfl h
theorem zo_65 {c : ByteArray} {pc : Nat} (h : zk0 c pc 65 = true) : decode c pc = .ok (.lstore_n 2, 1) := zD0 (op := 65) rfl rfl h
theorem zo_76 {c : ByteArray} {pc : Nat} (h : zk0 c pc 76 = true) : decode c pc = .ok (.astore_n 1, 1) := zD0 (op := 76) rfl rfl h
theorem zo_77 {c : ByteArray} {pc : Nat} (h : zk0 c pc 77 = true) : decode c pc = .ok (.astore_n 2, 1) := zD0 (op := 77) rfl rfl h
theorem zo_78 {c : ByteArray} {pc : Nat} (h : zk0 c pc 78 = true) : decode c pc = .ok (.astore_n 3, 1) := zD0 (op := 78) rfl rfl h
theorem zo_79 {c : ByteArray} {pc : Nat} (h : zk0 c pc 79 = true) : decode c pc = .ok (.iastore, 1) := zD0 (op := 79) rfl rfl h
theorem zo_83 {c : ByteArray} {pc : Nat} (h : zk0 c pc 83 = true) : decode c pc = .ok (.aastore, 1) := zD0 (op := 83) rfl rfl h
theorem zo_84 {c : ByteArray} {pc : Nat} (h : zk0 c pc 84 = true) : decode c pc = .ok (.bastore, 1) := zD0 (op := 84) rfl rfl h
theorem zo_87 {c : ByteArray} {pc : Nat} (h : zk0 c pc 87 = true) : decode c pc = .ok (.pop, 1) := zD0 (op := 87) rfl rfl h
theorem zo_89 {c : ByteArray} {pc : Nat} (h : zk0 c pc 89 = true) : decode c pc = .ok (.dup, 1) := zD0 (op := 89) rfl rfl h
theorem zo_92 {c : ByteArray} {pc : Nat} (h : zk0 c pc 92 = true) : decode c pc = .ok (.dup2, 1) := zD0 (op := 92) rfl rfl h
theorem zo_96 {c : ByteArray} {pc : Nat} (h : zk0 c pc 96 = true) : decode c pc = .ok (.iadd, 1) := zD0 (op := 96) rfl rfl h
theorem zo_97 {c : ByteArray} {pc : Nat} (h : zk0 c pc 97 = true) : decode c pc = .ok (.ladd, 1) := zD0 (op := 97) rfl rfl h
theorem zo_100 {c : ByteArray} {pc : Nat} (h : zk0 c pc 100 = true) : decode c pc = .ok (.isub, 1) := zD0 (op := 100) rfl rfl h
theorem zo_101 {c : ByteArray} {pc : Nat} (h : zk0 c pc 101 = true) : decode c pc = .ok (.lsub, 1) := zD0 (op := 101) rfl rfl h
theorem zo_104 {c : ByteArray} {pc : Nat} (h : zk0 c pc 104 = true) : decode c pc = .ok (.imul, 1) := zD0 (op := 104) rfl rfl h
theorem zo_105 {c : ByteArray} {pc : Nat} (h : zk0 c pc 105 = true) : decode c pc = .ok (.lmul, 1) := zD0 (op := 105) rfl rfl h
theorem zo_108 {c : ByteArray} {pc : Nat} (h : zk0 c pc 108 = true) : decode c pc = .ok (.idiv, 1) := zD0 (op := 108) rfl rfl h
theorem zo_112 {c : ByteArray} {pc : Nat} (h : zk0 c pc 112 = true) : decode c pc = .ok (.irem, 1) := zD0 (op := 112) rfl rfl h
theorem zo_120 {c : ByteArray} {pc : Nat} (h : zk0 c pc 120 = true) : decode c pc = .ok (.ishl, 1) := zD0 (op := 120) rfl rfl h
theorem zo_122 {c : ByteArray} {pc : Nat} (h : zk0 c pc 122 = true) : decode c pc = .ok (.ishr, 1) := zD0 (op := 122) rfl rfl h
theorem zo_124 {c : ByteArray} {pc : Nat} (h : zk0 c pc 124 = true) : decode c pc = .ok (.iushr, 1) := zD0 (op := 124) rfl rfl h
theorem zo_126 {c : ByteArray} {pc : Nat} (h : zk0 c pc 126 = true) : decode c pc = .ok (.iand, 1) := zD0 (op := 126) rfl rfl h
theorem zo_128 {c : ByteArray} {pc : Nat} (h : zk0 c pc 128 = true) : decode c pc = .ok (.ior, 1) := zD0 (op := 128) rfl rfl h
theorem zo_130 {c : ByteArray} {pc : Nat} (h : zk0 c pc 130 = true) : decode c pc = .ok (.ixor, 1) := zD0 (op := 130) rfl rfl h
theorem zo_132 {c : ByteArray} {pc n : Nat} {k : Int} (h : zki c pc n k = true) : decode c pc = .ok (.iinc n k, 3) := zDi (F := _) rfl rfl h
theorem zo_133 {c : ByteArray} {pc : Nat} (h : zk0 c pc 133 = true) : decode c pc = .ok (.i2l, 1) := zD0 (op := 133) rfl rfl h
theorem zo_145 {c : ByteArray} {pc : Nat} (h : zk0 c pc 145 = true) : decode c pc = .ok (.i2b, 1) := zD0 (op := 145) rfl rfl h
theorem zo_146 {c : ByteArray} {pc : Nat} (h : zk0 c pc 146 = true) : decode c pc = .ok (.i2c, 1) := zD0 (op := 146) rfl rfl h
theorem zo_148 {c : ByteArray} {pc : Nat} (h : zk0 c pc 148 = true) : decode c pc = .ok (.lcmp, 1) := zD0 (op := 148) rfl rfl h
theorem zo_153 {c : ByteArray} {pc : Nat} {n : Int} (h : zks2 c pc 153 n = true) : decode c pc = .ok (.ifCond .eq n, 3) := zDs2 (G := fun n => .ifCond .eq n) (op := 153) rfl rfl h
theorem zo_154 {c : ByteArray} {pc : Nat} {n : Int} (h : zks2 c pc 154 n = true) : decode c pc = .ok (.ifCond .ne n, 3) := zDs2 (G := fun n => .ifCond .ne n) (op := 154) rfl rfl h
theorem zo_155 {c : ByteArray} {pc : Nat} {n : Int} (h : zks2 c pc 155 n = true) : decode c pc = .ok (.ifCond .lt n, 3) := zDs2 (G := fun n => .ifCond .lt n) (op := 155) rfl rfl h
theorem zo_156 {c : ByteArray} {pc : Nat} {n : Int} (h : zks2 c pc 156 n = true) : decode c pc = .ok (.ifCond .ge n, 3) := zDs2 (G := fun n => .ifCond .ge n) (op := 156) rfl rfl h
theorem zo_158 {c : ByteArray} {pc : Nat} {n : Int} (h : zks2 c pc 158 n = true) : decode c pc = .ok (.ifCond .le n, 3) := zDs2 (G := fun n => .ifCond .le n) (op := 158) rfl rfl h
theorem zo_159 {c : ByteArray} {pc : Nat} {n : Int} (h : zks2 c pc 159 n = true) : decode c pc = .ok (.if_icmp .eq n, 3) := zDs2 (G := fun n => .if_icmp .eq n) (op := 159) rfl rfl h
theorem zo_160 {c : ByteArray} {pc : Nat} {n : Int} (h : zks2 c pc 160 n = true) : decode c pc = .ok (.if_icmp .ne n, 3) := zDs2 (G := fun n => .if_icmp .ne n) (op := 160) rfl rfl h
theorem zo_161 {c : ByteArray} {pc : Nat} {n : Int} (h : zks2 c pc 161 n = true) : decode c pc = .ok (.if_icmp .lt n, 3) := zDs2 (G := fun n => .if_icmp .lt n) (op := 161) rfl rfl h
theorem zo_162 {c : ByteArray} {pc : Nat} {n : Int} (h : zks2 c pc 162 n = true) : decode c pc = .ok (.if_icmp .ge n, 3) := zDs2 (G := fun n => .if_icmp .ge n) (op := 162) rfl rfl h
theorem zo_163 {c : ByteArray} {pc : Nat} {n : Int} (h : zks2 c pc 163 n = true) : decode c pc = .ok (.if_icmp .gt n, 3) := zDs2 (G := fun n => .if_icmp .gt n) (op := 163) rfl rfl h
theorem zo_164 {c : ByteArray} {pc : Nat} {n : Int} (h : zks2 c pc 164 n = true) : decode c pc = .ok (.if_icmp .le n, 3) := zDs2 (G := fun n => .if_icmp .le n) (op := 164) rfl rfl h
theorem zo_167 {c : ByteArray} {pc : Nat} {n : Int} (h : zks2 c pc 167 n = true) : decode c pc = .ok (.goto n, 3) := zDs2 (G := fun n => .goto n) (op := 167) rfl rfl h
theorem zo_172 {c : ByteArray} {pc : Nat} (h : zk0 c pc 172 = true) : decode c pc = .ok (.ireturn, 1) := zD0 (op := 172) rfl rfl h
theorem zo_173 {c : ByteArray} {pc : Nat} (h : zk0 c pc 173 = true) : decode c pc = .ok (.lreturn, 1) := zD0 (op := 173) rfl rfl h
theorem zo_176 {c : ByteArray} {pc : Nat} (h : zk0 c pc 176 = true) : decode c pc = .ok (.areturn, 1) := zD0 (op := 176) rfl rfl h
theorem zo_177 {c : ByteArray} {pc : Nat} (h : zk0 c pc 177 = true) : decode c pc = .ok (.return_, 1) := zD0 (op := 177) rfl rfl h
theorem zo_178 {c : ByteArray} {pc : Nat} {n : Nat} (h : zk2 c pc 178 n = true) : decode c pc = .ok (.getstatic n, 3) := zD2 (G := fun n => .getstatic n) (op := 178) rfl rfl h
theorem zo_180 {c : ByteArray} {pc : Nat} {n : Nat} (h : zk2 c pc 180 n = true) : decode c pc = .ok (.getfield n, 3) := zD2 (G := fun n => .getfield n) (op := 180) rfl rfl h
theorem zo_181 {c : ByteArray} {pc : Nat} {n : Nat} (h : zk2 c pc 181 n = true) : decode c pc = .ok (.putfield n, 3) := zD2 (G := fun n => .putfield n) (op := 181) rfl rfl h
theorem zo_182 {c : ByteArray} {pc : Nat} {n : Nat} (h : zk2 c pc 182 n = true) : decode c pc = .ok (.invokevirtual n, 3) := zD2 (G := fun n => .invokevirtual n) (op := 182) rfl rfl h
theorem zo_183 {c : ByteArray} {pc : Nat} {n : Nat} (h : zk2 c pc 183 n = true) : decode c pc = .ok (.invokespecial n, 3) := zD2 (G := fun n => .invokespecial n) (op := 183) rfl rfl h
theorem zo_184 {c : ByteArray} {pc : Nat} {n : Nat} (h : zk2 c pc 184 n = true) : decode c pc = .ok (.invokestatic n, 3) := zD2 (G := fun n => .invokestatic n) (op := 184) rfl rfl h
theorem zo_187 {c : ByteArray} {pc : Nat} {n : Nat} (h : zk2 c pc 187 n = true) : decode c pc = .ok (.new n, 3) := zD2 (G := fun n => .new n) (op := 187) rfl rfl h
theorem zo_189 {c : ByteArray} {pc : Nat} {n : Nat} (h : zk2 c pc 189 n = true) : decode c pc = .ok (.anewarray n, 3) := zD2 (G := fun n => .anewarray n) (op := 189) rfl rfl h
theorem zo_190 {c : ByteArray} {pc : Nat} (h : zk0 c pc 190 = true) : decode c pc = .ok (.arraylength, 1) := zD0 (op := 190) rfl rfl h
theorem zo_198 {c : ByteArray} {pc : Nat} {n : Int} (h : zks2 c pc 198 n = true) : decode c pc = .ok (.ifnull n, 3) := zDs2 (G := fun n => .ifnull n) (op := 198) rfl rfl h
theorem zo_199 {c : ByteArray} {pc : Nat} {n : Int} (h : zks2 c pc 199 n = true) : decode c pc = .ok (.ifnonnull n, 3) := zDs2 (G := fun n => .ifnonnull n) (op := 199) rfl rfl h
theorem zdr_a {l : List UInt8} {a p : Nat} : zdr l (a + p) = zdr (zdr l a) p := by
  rw [zdr_e, zdr_e, zdr_e]
  exact List.drop_drop.symm
noncomputable def zl0 (l : List UInt8) (p op : Nat) : Bool := match zdr l p with
  | x :: _ => Nat.beq x.toNat op
  | [] => false
theorem zT0 {c : ByteArray} {l : List UInt8} {a : Nat} {p : Nat} {op : Nat} (e : zdr c.data.toList a = l) (h : zl0 l p op = true) : zk0 c (a + p) op = true := by
  unfold zk0
  unfold zl0 at h
  rw [zdr_a, e]
  exact h
noncomputable def zl2 (l : List UInt8) (p op n : Nat) : Bool := match zdr l p with
  | x :: y :: z :: _ => Nat.beq x.toNat op && Nat.beq (y.toNat * 256 + z.toNat) n
  | _ => false
theorem zT2 {c : ByteArray} {l : List UInt8} {a : Nat} {p : Nat} {op : Nat} {n : Nat} (e : zdr c.data.toList a = l) (h : zl2 l p op n = true) : zk2 c (a + p) op n = true := by
  unfold zk2
  unfold zl2 at h
  rw [zdr_a, e]
  exact h
noncomputable def zls2 (l : List UInt8) (p op : Nat) (n : Int) : Bool := match zdr l p with
  | x :: y :: z :: _ => Nat.beq x.toNat op && decide (Reader.signed 16 (y.toNat * 256 + z.toNat) = n)
  | _ => false
theorem zTs2 {c : ByteArray} {l : List UInt8} {a : Nat} {p : Nat} {op : Nat} {n : Int} (e : zdr c.data.toList a = l) (h : zls2 l p op n = true) : zks2 c (a + p) op n = true := by
  unfold zks2
  unfold zls2 at h
  rw [zdr_a, e]
  exact h
noncomputable def zli (l : List UInt8) (p n : Nat) (k : Int) : Bool := match zdr l p with
  | x :: y :: z :: _ => Nat.beq x.toNat 132 && (Nat.beq y.toNat n && decide (Reader.signed 8 z.toNat = k))
  | _ => false
theorem zTi {c : ByteArray} {l : List UInt8} {a : Nat} {p : Nat} {n : Nat} {k : Int} (e : zdr c.data.toList a = l) (h : zli l p n k = true) : zki c (a + p) n k = true := by
  unfold zki
  unfold zli at h
  rw [zdr_a, e]
  exact h
set_option maxRecDepth 100000 in
def zLt0 : List UInt8 := [0x60, 0x2e, 0xb6, 0x00, 0x5c, 0x57, 0x2c, 0x2a, 0x1d, 0x04, 0x60, 0x2e, 0x2a, 0x1d, 0x05, 0x60, 0x2e, 0x2a, 0x1d, 0x06, 0x60, 0x2e, 0xb6, 0x00, 0x5f, 0x57, 0xa7, 0x02, 0xe5, 0x2b, 0x2a, 0x1d, 0x04, 0x60, 0x2e, 0x2a, 0x1d, 0x05, 0x60, 0x2e, 0x2a, 0x1d, 0x06, 0x60, 0x2e, 0x2a, 0x1d, 0x07, 0x60, 0x2e, 0xb6, 0x00, 0x60, 0x57, 0x2c, 0x2a, 0x1d, 0x04, 0x60, 0x2e, 0x2a, 0x1d, 0x05, 0x60, 0x2e, 0x2a, 0x1d, 0x06, 0x60, 0x2e, 0x2a, 0x1d, 0x07, 0x60, 0x2e, 0xb6, 0x00, 0x63, 0x57, 0xa7, 0x02, 0xb0, 0x2b, 0x2a, 0x1d, 0x04, 0x60, 0x2e, 0x2a, 0x1d, 0x05, 0x60, 0x2e, 0x2a, 0x1d, 0x06, 0x60, 0x2e, 0xb6, 0x00, 0x64, 0x57, 0x2c, 0x2a, 0x1d, 0x04, 0x60, 0x2e, 0x2a, 0x1d, 0x05, 0x60, 0x2e, 0x2a, 0x1d, 0x06, 0x60, 0x2e, 0xb6, 0x00, 0x67, 0x57, 0xa7, 0x02, 0x85, 0x2b, 0x2a, 0x1d, 0x04, 0x60, 0x2e, 0x2a, 0x1d, 0x05, 0x60, 0x2e, 0x2a, 0x1d, 0x06, 0x60, 0x2e, 0xb6, 0x00, 0x68, 0x57, 0x2c, 0x2a, 0x1d, 0x04, 0x60, 0x2e, 0x2a, 0x1d, 0x05, 0x60, 0x2e, 0x2a, 0x1d, 0x06, 0x60, 0x2e, 0xb6, 0x00, 0x6b, 0x57, 0xa7, 0x02, 0x5a, 0x2b, 0x2a, 0x1d, 0x04, 0x60, 0x2e, 0x2a, 0x1d, 0x05, 0x60, 0x2e, 0xb6, 0x00, 0x6c, 0x57, 0x2c, 0x2a, 0x1d, 0x04, 0x60, 0x2e, 0x2a, 0x1d, 0x05, 0x60, 0x2e, 0xb6, 0x00, 0x6f, 0x57, 0xa7, 0x02, 0x39, 0x2b, 0x2a, 0x1d, 0x04, 0x60, 0x2e, 0x2a, 0x1d, 0x05, 0x60, 0x2e, 0x2a, 0x1d, 0x06, 0x60, 0x2e, 0xb6, 0x00, 0x70, 0x57, 0x2c, 0x2a, 0x1d, 0x04, 0x60, 0x2e, 0x2a, 0x1d, 0x05, 0x60, 0x2e, 0x2a, 0x1d, 0x06, 0x60, 0x2e, 0xb6, 0x00, 0x73, 0x57, 0xa7, 0x02, 0x0e, 0x2b, 0x2a, 0x1d, 0x04, 0x60, 0x2e, 0x2a, 0x1d, 0x05, 0x60, 0x2e, 0x2a, 0x1d, 0x06, 0x60, 0x2e, 0xb6, 0x00, 0x74, 0x57, 0x2c, 0x2a, 0x1d, 0x04, 0x60, 0x2e, 0x2a, 0x1d, 0x05, 0x60, 0x2e, 0x2a, 0x1d, 0x06, 0x60, 0x2e, 0xb6, 0x00, 0x77, 0x57, 0xa7, 0x01, 0xe3, 0x2b, 0x2a, 0x1d, 0x04, 0x60, 0x2e, 0x2a, 0x1d, 0x05, 0x60, 0x2e, 0x2a, 0x1d, 0x06, 0x60, 0x2e, 0x2a, 0x1d, 0x07, 0x60, 0x2e, 0xb6, 0x00, 0x78, 0x57, 0x2c, 0x2a, 0x1d, 0x04, 0x60, 0x2e, 0x2a, 0x1d, 0x05, 0x60, 0x2e, 0x2a, 0x1d, 0x06, 0x60, 0x2e, 0x2a, 0x1d, 0x07, 0x60, 0x2e, 0xb6, 0x00, 0x7b, 0x57, 0xa7, 0x01, 0xae, 0x2b, 0x2a, 0x1d, 0x04, 0x60, 0x2e, 0x2a, 0x1d, 0x05, 0x60, 0x2e, 0x2a, 0x1d, 0x06, 0x60, 0x2e, 0x99, 0x00, 0x07, 0x04, 0xa7, 0x00, 0x04, 0x03, 0x2a, 0x1d, 0x07, 0x60, 0x2e, 0x99, 0x00, 0x07, 0x04, 0xa7, 0x00, 0x04, 0x03, 0xb6, 0x00, 0x7c, 0x57, 0x2c, 0x2a, 0x1d, 0x04, 0x60, 0x2e, 0x2a, 0x1d, 0x05, 0x60, 0x2e, 0x2a, 0x1d, 0x06, 0x60, 0x2e, 0x99, 0x00, 0x07, 0x04, 0xa7, 0x00, 0x04, 0x03, 0x2a, 0x1d, 0x07, 0x60, 0x2e, 0x99, 0x00, 0x07, 0x04, 0xa7, 0x00, 0x04, 0x03, 0xb6, 0x00, 0x80, 0x57, 0xa7, 0x01, 0x59, 0x2b, 0x2a, 0x1d, 0x04, 0x60, 0x2e, 0x2a, 0x1d, 0x05, 0x60, 0x2e, 0xb6, 0x00, 0x81, 0x57, 0x2c, 0x2a, 0x1d, 0x04, 0x60, 0x2e, 0x2a, 0x1d, 0x05, 0x60, 0x2e, 0xb6, 0x00, 0x84, 0x57, 0xa7, 0x01, 0x38, 0x2b, 0x2a, 0x1d, 0x04, 0x60, 0x2e, 0x2a, 0x1d, 0x05, 0x60, 0x2e, 0x2a, 0x1d, 0x06, 0x60, 0x2e, 0x99, 0x00, 0x07, 0x04, 0xa7, 0x00, 0x04, 0x03, 0xb6, 0x00, 0x85, 0x57, 0x2c, 0x2a, 0x1d, 0x04, 0x60, 0x2e, 0x2a, 0x1d, 0x05, 0x60, 0x2e, 0x2a, 0x1d, 0x06, 0x60, 0x2e, 0x99, 0x00, 0x07, 0x04, 0xa7, 0x00, 0x04, 0x03, 0xb6, 0x00, 0x88, 0x57, 0xa7, 0x00, 0xfd, 0x2b, 0x2a, 0x1d, 0x04, 0x60, 0x2e, 0x2a, 0x1d, 0x05, 0x60, 0x2e, 0x2a, 0x1d, 0x06, 0x60, 0x2e, 0xb6, 0x00, 0x89, 0x57, 0x2c, 0x2a, 0x1d, 0x04, 0x60, 0x2e, 0x2a, 0x1d, 0x05, 0x60, 0x2e, 0x2a, 0x1d, 0x06, 0x60, 0x2e, 0xb6, 0x00, 0x8c, 0x57, 0xa7, 0x00, 0xd2, 0x2b, 0x2a, 0x1d, 0x04, 0x60, 0x2e, 0x2a, 0x1d, 0x05, 0x60, 0x2e, 0x2a, 0x1d, 0x06, 0x60, 0x2e, 0x2a, 0x1d, 0x07, 0x60, 0x2e, 0x2a, 0x1d, 0x08, 0x60, 0x2e, 0x99, 0x00, 0x07, 0x04, 0xa7, 0x00, 0x04, 0x03, 0xb6, 0x00, 0x8d, 0x57, 0x2c, 0x2a, 0x1d, 0x04, 0x60, 0x2e, 0x2a, 0x1d, 0x05, 0x60, 0x2e, 0x2a, 0x1d, 0x06, 0x60, 0x2e, 0x2a, 0x1d, 0x07, 0x60, 0x2e, 0x2a, 0x1d, 0x08, 0x60, 0x2e, 0x99, 0x00, 0x07, 0x04, 0xa7, 0x00, 0x04, 0x03, 0xb6, 0x00, 0x91, 0x57, 0xa7, 0x00, 0x83, 0x2b, 0x2a, 0x1d, 0x04, 0x60, 0x2e, 0x2a, 0x1d, 0x05, 0x60, 0x2e, 0x2a, 0x1d, 0x06, 0x60, 0x2e, 0x99, 0x00, 0x07, 0x04, 0xa7, 0x00, 0x04, 0x03, 0xb6, 0x00, 0x92, 0x57, 0x2c, 0x2a, 0x1d, 0x04, 0x60, 0x2e, 0x2a, 0x1d, 0x05, 0x60, 0x2e, 0x2a, 0x1d, 0x06, 0x60, 0x2e, 0x99, 0x00, 0x07, 0x04, 0xa7, 0x00, 0x04, 0x03, 0xb6, 0x00, 0x95, 0x57, 0xa7, 0x00, 0x48, 0x2b, 0x2a, 0x1d, 0x04, 0x60, 0x2e, 0xb6, 0x00, 0x96, 0x57, 0x2c, 0x2a, 0x1d, 0x04, 0x60, 0x2e, 0xb6, 0x00, 0x99, 0x57, 0xa7, 0x00, 0x31, 0x2b, 0x2a, 0x1d, 0x04, 0x60, 0x2e, 0xb6, 0x00, 0x9a, 0x57, 0x2c, 0x2a, 0x1d, 0x04, 0x60, 0x2e, 0xb6, 0x00, 0x9e, 0x57, 0xa7, 0x00, 0x1a, 0x2b, 0x2a, 0x1d, 0x04, 0x60, 0x2e, 0xb6, 0x00, 0x9f, 0x57, 0x2c, 0x2a, 0x1d, 0x04, 0x60, 0x2e, 0xb6, 0x00, 0xa2, 0x57, 0xa7, 0x00, 0x03, 0x84, 0x03, 0x06, 0xa7, 0xf9, 0x28, 0x04, 0xac]
set_option maxRecDepth 100000 in
theorem zLt0_e : zdr cL_law.data.toList 1000 = zLt0 := rfl
-- ===== the words that every method may take with it =====
def zT : List Cond := lw_tbl.filter goodWord
theorem zmem {w : Cond} (i : Nat) (h : lw_tbl[i]? = some w) (hg : goodWord w = true) : w ∈ zT := List.mem_filter.mpr ⟨List.mem_of_getElem? h, hg⟩
-- ===== worlds as lists of blocks: a block is one cell, or a part of the world that stays closed =====
abbrev zTy : Type := va_G × (Nat → ClassId)
abbrev zTys (T : zTy) : List (ClassId × FieldType) := [(T.2 0, .int), (T.2 1, .byte), (T.2 2, .boolean), (T.2 3, .object "TurnedPosts$Land"), (T.2 4, .object "TurnedPosts$Day"), (T.2 5, .object "TurnedPosts$Log"), (T.2 6, .object "TurnedPosts$Told")]
def zNst : List (String × Nat × MethodName × String) := [(RX11, 9, yX9_init, RX11), (RX11, 26, yX7_init, RX11), (RX11, 33, yX6_init, RX11), (RX11, 40, yX1_init, RX11), (RX11, 47, yX10_init, RX11), (RX11, 54, yX0_init, RX11), (RX11, 64, yX3_init, RX11), (RX0, 13, yX4_init, RX11), (RX1, 11, yX6_init, RX11), (RX1, 24, yX4_init, RX11), (RX6, 11, yX4_init, RX11), (RX7, 11, yX4_init, RX11), (RX7, 20, yX2_init, RX11), (RX7, 27, yX5_init, RX11), (RX9, 25, yX4_init, RX11), (RX9, 32, yX2_init, RX11), (RX9, 39, yX5_init, RX11), (RX10, 11, yX6_init, RX11)]
def zAOs : List String := ["TurnedPosts$Land", "TurnedPosts$Day", "TurnedPosts$Log", "TurnedPosts$Told"]
def zX (U : State) : Prop := (∀ q ∈ zNst, va_Nw (.methodLinkNest q.1 q.2.1 q.2.2.1 q.2.2.2) U) ∧ ∀ C ∈ zAOs, va_AO C U
theorem zX.warm {s U : State} (hW : s.WarmedH U.vm) (h : zX s) : zX U := ⟨fun q hq => va_Nw.warmM hW (h.1 q hq), fun C hC => va_AO.moved hW.alike (h.2 C hC)⟩
theorem zX.same {s U : State} (e : s.vm = U.vm) (h : zX s) : zX U := ⟨fun q hq => va_Nw.same rfl e (h.1 q hq), fun C hC => va_AO.moved (by rw [e]; exact Vm.Alike.refl _) (h.2 C hC)⟩
-- ===== constants: strings, the drawn deeds' table, two statics of the JDK's =====
def zLen : List Nat := [5, 4, 7, 3, 4, 5, 2, 3, 4, 3, 4, 4]
def zByt : List (List Int32) := [[99, 114, 111, 115, 115], [112, 111, 115, 116], [119, 97, 108, 107, 101, 114, 115], [105, 110, 110], [99, 97, 109, 101], [110, 101, 118, 101, 114], [103, 111], [114, 117, 110], [116, 117, 114, 110], [97, 100, 100], [115, 104, 117, 116], [111, 112, 101, 110]]
def zTx : List String := ["cross", "post", "walkers", "inn", "came", "never", "go", "run", "turn", "add", "shut", "open"]
def zKp : List Nat := [160, 166, 167, 168, 170, 172, 174, 176, 178, 180, 181, 183]
def zDD : List Int32 := [0, 0, 0, 0, 1, 2, 3, 3, 4, 5]
def zU (T : zTy) (A : Nat → Prop) (U : State) (H : Heap) : Prop :=
  vk_S 12 zLen zByt (fun i => T.2 (100 + i)) (fun i => T.2 (200 + i)) A U H ∧ va_Z "TurnedPosts" "DRAWN_DEEDS" "[I" (.ref (T.2 300)) A U H ∧ va_T .int (T.2 300) 10 (fun i => .int (zDD.getD i 0)) A U H ∧ va_Z "java/lang/String" "COMPACT_STRINGS" "Z" (.int 1) A U H ∧ va_Zq "jdk/internal/util/Preconditions" "SIOOBE_FORMATTER" "Ljava/util/function/BiFunction;" A U H ∧ (∀ i : Nat, i < 12 → vk_R "TurnedPosts$Reader" (zKp.getD i 0) (zTx.getD i "") (T.2 (100 + i)) U) ∧ va_Nw (.fieldLinkNest "TurnedPosts$Course" 81 "TurnedPosts" "DRAWN_DEEDS" "[I" "TurnedPosts") U
theorem zU.kn {T : zTy} {A B : Nat → Prop} {U : State} {H H1 : Heap} (h : zU T A U H) (hq : ∀ a : Nat, a < H.size → ¬ A a → H1[a]? = H[a]?) (hAB : ∀ q, B q → A q) : zU T B U H1 :=
  ⟨(h.1.kept hq).narrow hAB, (h.2.1.kept hq).narrow hAB, (h.2.2.1.kept hq).narrow hAB, (h.2.2.2.1.kept hq).narrow hAB, (h.2.2.2.2.1.kept hq).narrow hAB, h.2.2.2.2.2⟩
theorem zU.warm {T : zTy} {A : Nat → Prop} {s U : State} {H : Heap} (hW : s.WarmedH U.vm) (h : zU T A s H) : zU T A U H :=
  ⟨h.1.moved hW.alike, h.2.1.moved hW.alike, h.2.2.1.moved hW.alike, h.2.2.2.1.moved hW.alike, h.2.2.2.2.1.moved hW.alike, fun i hi => (h.2.2.2.2.2.1 i hi).warm hW, va_Nw.warmF hW h.2.2.2.2.2.2⟩
theorem zU.same {T : zTy} {A : Nat → Prop} {s U : State} {H : Heap} (e : s.vm = U.vm) (h : zU T A s H) : zU T A U H :=
  have a : s.vm.Alike U.vm := by rw [e]; exact Vm.Alike.refl _
  ⟨h.1.moved a, h.2.1.moved a, h.2.2.1.moved a, h.2.2.2.1.moved a, h.2.2.2.2.1.moved a, fun i hi => (h.2.2.2.2.2.1 i hi).same e.symm, va_Nw.same rfl e h.2.2.2.2.2.2⟩
theorem zZq {C n d : String} {A : Nat → Prop} {U : State} {H : Heap} (h : va_Zq C n d A U H) : ∃ q : Option Nat, va_Z C n d (va_rf q) A U H := by
  rcases h with h | ⟨t, h⟩
  · exact ⟨none, h⟩
  · exact ⟨some t, h⟩
def zS (T : zTy) (A : Nat → Prop) (H0 : Heap) (s : State) (bs : List va_W) (H : Heap) (locs : List Loc) : Prop :=
  va_K T.1 vwCl (zTys T) s ∧ va_P T.1 vwCl bs.flatten H ∧ va_D A bs.flatten ∧ va_S A H0 H locs ∧ (∀ q, H0.size ≤ q → A q) ∧ zX s ∧ zU T A s H0
theorem zfl : ∀ {bs : List va_W} {i : Nat} {c : Nat × va_E}, bs[i]? = some [c] → ∃ k, bs.flatten[k]? = some c ∧ ∀ c', (bs.set i [c']).flatten = bs.flatten.set k c'
  | [], i, c, h => by simp at h
  | b :: bs, 0, c, h => by
    simp at h
    subst h
    exact ⟨0, by simp, fun c' => by simp⟩
  | b :: bs, i + 1, c, h => by
    rw [List.getElem?_cons_succ] at h
    obtain ⟨k, h1, h2⟩ := zfl h
    refine ⟨b.length + k, ?_, fun c' => ?_⟩
    · rw [List.flatten_cons, List.getElem?_append_right (by omega)]
      simpa using h1
    · rw [List.set_cons_succ, List.flatten_cons, List.flatten_cons, h2, List.set_append, if_neg (by omega)]
      simp
theorem zP_mem {D : va_G} {cl : List vw_C} {ws : va_W} {H : Heap} : va_P D cl ws H ↔ ∀ q ∈ ws, va_at D cl q H :=
  ⟨fun h q hq => by
    obtain ⟨k, hk⟩ := List.getElem?_of_mem hq
    exact h k q hk, fun h k q hk => h q (List.mem_of_getElem? hk)⟩
theorem zD_iff {A : Nat → Prop} {ws : va_W} : va_D A ws ↔ ws.Pairwise (fun p q => p.1 ≠ q.1) ∧ ∀ q ∈ ws, A q.1 := by
  constructor
  · intro h
    refine ⟨List.pairwise_iff_getElem.mpr (fun i j hi hj hij e => ?_), fun q hq => ?_⟩
    · exact absurd (h.1 i j _ _ (List.getElem?_eq_getElem hi) (List.getElem?_eq_getElem hj) e) (by omega)
    · obtain ⟨k, hk⟩ := List.getElem?_of_mem hq
      exact h.2 k q hk
  · intro h
    refine ⟨fun i j p q hi hj e => ?_, fun k q hk => h.2 q (List.mem_of_getElem? hk)⟩
    obtain ⟨hi1, hi2⟩ := List.getElem?_eq_some_iff.mp hi
    obtain ⟨hj1, hj2⟩ := List.getElem?_eq_some_iff.mp hj
    have hp := List.pairwise_iff_getElem.mp h.1
    rcases Nat.lt_trichotomy i j with g | g | g
    · exact absurd (by rw [hi2, hj2]; exact e) (hp i j hi1 hj1 g)
    · exact g
    · exact absurd (by rw [hi2, hj2]; exact e.symm) (hp j i hj1 hi1 g)
/-- blocks of a world, each at most once -/
theorem zP_sub {D : va_G} {cl : List vw_C} {bs bs' : List va_W} {H : Heap} (h : va_P D cl bs.flatten H) (is : List Nat) (hs : is.map (fun i => bs[i]?) = bs'.map some) : va_P D cl bs'.flatten H := by
  rw [zP_mem] at h ⊢
  intro q hq
  obtain ⟨b, hb, hqb⟩ := List.mem_flatten.mp hq
  have h1 : some b ∈ bs'.map some := List.mem_map.mpr ⟨b, hb, rfl⟩
  rw [← hs] at h1
  obtain ⟨i, -, hi⟩ := List.mem_map.mp h1
  exact h q (List.mem_flatten.mpr ⟨b, List.mem_of_getElem? hi, hqb⟩)
theorem zat {bs bs' : List va_W} {is : List Nat} (hs : is.map (fun i => bs[i]?) = bs'.map some) (k : Nat) (b : va_W) (hb : bs'[k]? = some b) : ∃ i, is[k]? = some i ∧ bs[i]? = some b := by
  have h1 : (is.map (fun i => bs[i]?))[k]? = some (some b) := by rw [hs, List.getElem?_map, hb]; rfl
  rw [List.getElem?_map] at h1
  cases hi : is[k]? with
  | none => rw [hi] at h1; cases h1
  | some i => rw [hi] at h1; exact ⟨i, rfl, Option.some.inj h1⟩
theorem zD_ne {A : Nat → Prop} {bs : List va_W} (h : va_D A bs.flatten) {i j : Nat} {a b : va_W} (hi : bs[i]? = some a) (hj : bs[j]? = some b) (hne : i ≠ j) : ∀ x ∈ a, ∀ y ∈ b, x.1 ≠ y.1 := by
  have h2 := (List.pairwise_flatten.mp (zD_iff.mp h).1).2
  obtain ⟨hi1, hi2⟩ := List.getElem?_eq_some_iff.mp hi
  obtain ⟨hj1, hj2⟩ := List.getElem?_eq_some_iff.mp hj
  have hp := List.pairwise_iff_getElem.mp h2
  intro x hx y hy
  rcases Nat.lt_or_gt_of_ne hne with g | g
  · exact hp i j hi1 hj1 g x (by rw [hi2]; exact hx) y (by rw [hj2]; exact hy)
  · exact Ne.symm (hp j i hj1 hi1 g y (by rw [hj2]; exact hy) x (by rw [hi2]; exact hx))
theorem zD_sub {A : Nat → Prop} {bs bs' : List va_W} (h : va_D A bs.flatten) (is : List Nat) (hn : va_nd is = true) (hs : is.map (fun i => bs[i]?) = bs'.map some) : va_D A bs'.flatten := by
  have h0 := zD_iff.mp h
  refine zD_iff.mpr ⟨List.pairwise_flatten.mpr ⟨fun b hb => ?_, List.pairwise_iff_getElem.mpr (fun i j hi hj hij x hx y hy => ?_)⟩, fun q hq => ?_⟩
  · obtain ⟨k, hk⟩ := List.getElem?_of_mem hb
    obtain ⟨i, -, hi⟩ := zat hs k b hk
    exact (List.pairwise_flatten.mp h0.1).1 b (List.mem_of_getElem? hi)
  · obtain ⟨a, a1, a2⟩ := zat hs i _ (List.getElem?_eq_getElem hi)
    obtain ⟨b, b1, b2⟩ := zat hs j _ (List.getElem?_eq_getElem hj)
    refine zD_ne h a2 b2 (fun e => ?_) x hx y hy
    subst e
    exact absurd (va_nd_inj is hn i j a a1 b1) (by omega)
  · obtain ⟨b, hb, hqb⟩ := List.mem_flatten.mp hq
    obtain ⟨k, hk⟩ := List.getElem?_of_mem hb
    obtain ⟨i, -, hi⟩ := zat hs k b hk
    exact h0.2 q (List.mem_flatten.mpr ⟨b, List.mem_of_getElem? hi, hqb⟩)
/-- local values but the one at a place that is written anew -/
def zLvf (i : Nat) : List (Nat × Value) → List (Nat × Value)
  | [] => []
  | q :: l => cond (Nat.beq q.1 i) (zLvf i l) (cond (Nat.beq (q.1 + 1) i) (cond (Nat.beq q.2.category 2) (zLvf i l) (q :: zLvf i l)) (q :: zLvf i l))
theorem zLvq (a b : Nat) : (a == b) = Nat.beq a b := by
  cases h : Nat.beq a b with
  | true => exact beq_iff_eq.mpr (Nat.eq_of_beq_eq_true h)
  | false => exact beq_eq_false_iff_ne.mpr (Nat.ne_of_beq_eq_false h)
theorem zLvf_e (i : Nat) : ∀ l : List (Nat × Value), l.filter (fun q => !(q.1 == i) && !(q.1 + 1 == i && q.2.category == 2)) = zLvf i l
  | [] => rfl
  | q :: l => by
    rw [List.filter_cons, zLvf_e i l]
    show (if (!(q.1 == i) && !(q.1 + 1 == i && q.2.category == 2)) = true then q :: zLvf i l else zLvf i l) = cond (Nat.beq q.1 i) (zLvf i l) (cond (Nat.beq (q.1 + 1) i) (cond (Nat.beq q.2.category 2) (zLvf i l) (q :: zLvf i l)) (q :: zLvf i l))
    rw [zLvq q.1 i, zLvq (q.1 + 1) i, zLvq q.2.category 2]
    cases Nat.beq q.1 i <;> cases Nat.beq (q.1 + 1) i <;> cases Nat.beq q.2.category 2 <;> rfl
theorem zLvf_h {i : Nat} {v : Value} {lv lv' : List (Nat × Value)} (h : (i, v) :: zLvf i lv = lv') : (i, v) :: lv.filter (fun q => !(q.1 == i) && !(q.1 + 1 == i && q.2.category == 2)) = lv' := by
  rw [zLvf_e]; exact h
/-- places named once at most, by the bits of a number -/
def zk : Nat → List Nat → Bool
  | _, [] => true
  | m, i :: l => cond (Nat.testBit m i) false (zk (m ||| 2 ^ i) l)
theorem zk_nd : ∀ (l : List Nat) (m : Nat), zk m l = true → va_nd l = true ∧ ∀ i ∈ l, m.testBit i = false
  | [], m, _ => ⟨rfl, fun i h => absurd h List.not_mem_nil⟩
  | a :: l, m, h => by
    unfold zk at h
    cases hb : Nat.testBit m a with
    | true => rw [hb] at h; exact absurd (show false = true from h) (by decide)
    | false =>
      rw [hb] at h
      have h : zk (m ||| 2 ^ a) l = true := h
      obtain ⟨h1, h2⟩ := zk_nd l _ h
      have h3 : ∀ i ∈ l, m.testBit i = false ∧ ¬ i = a := fun i hi => by
        have q := h2 i hi
        rw [Nat.testBit_or, Bool.or_eq_false_iff] at q
        refine ⟨q.1, fun e => ?_⟩
        rw [e, Nat.testBit_two_pow_self] at q
        exact absurd q.2 (by decide)
      refine ⟨?_, fun i hi => ?_⟩
      · show (decide (a ∉ l) && va_nd l) = true
        rw [h1, Bool.and_true]
        exact decide_eq_true (fun q => (h3 a q).2 rfl)
      · rcases List.mem_cons.mp hi with e | e
        · rw [e]; exact hb
        · exact (h3 i e).1
/-- what is left of a row where single places are taken out: so many kept, one taken, so many kept, one taken .. -/
def zGp : List Nat → List va_W → List va_W
  | [], bs => bs
  | _ :: _, [] => []
  | 0 :: gs, _ :: bs => zGp gs bs
  | (g + 1) :: gs, b :: bs => b :: zGp (g :: gs) bs
def zDr : List Nat → Nat → List Nat
  | [], _ => []
  | g :: gs, k => (k + g) :: zDr gs (k + g + 1)
def zCk (isC gs : List Nat) : Bool := zk 0 isC && isC.all (fun i => (zDr gs 0).elem i)
theorem zDr_ge : ∀ (gs : List Nat) (k i : Nat), i ∈ zDr gs k → k ≤ i
  | [], _, _, h => absurd h List.not_mem_nil
  | g :: gs, k, i, h => by
    rcases List.mem_cons.mp h with e | e
    · omega
    · have := zDr_ge gs _ i e; omega
theorem zDr_s : ∀ (gs : List Nat) (k i : Nat), i + 1 ∈ zDr gs (k + 1) → i ∈ zDr gs k
  | [], _, _, h => absurd h List.not_mem_nil
  | g :: gs, k, i, h => by
    rcases List.mem_cons.mp h with e | e
    · exact List.mem_cons.mpr (Or.inl (by omega))
    · rw [show k + 1 + g + 1 = (k + g + 1) + 1 by omega] at e
      exact List.mem_cons.mpr (Or.inr (zDr_s gs (k + g + 1) i e))
theorem va_nd_s : ∀ (l : List Nat), va_nd l = true → va_nd (l.map (· + 1)) = true
  | [], _ => rfl
  | a :: l, h => by
    have h : (decide (a ∉ l) && va_nd l) = true := h
    rw [Bool.and_eq_true, decide_eq_true_eq] at h
    show (decide (a + 1 ∉ l.map (· + 1)) && va_nd (l.map (· + 1))) = true
    rw [va_nd_s l h.2, Bool.and_true]
    refine decide_eq_true (fun q => ?_)
    obtain ⟨x, hx, e⟩ := List.mem_map.mp q
    have e : x + 1 = a + 1 := e
    exact h.1 (by rw [show a = x by omega]; exact hx)
theorem va_nd_0 (l : List Nat) (h : va_nd l = true) : va_nd (0 :: l.map (· + 1)) = true := by
  show (decide (0 ∉ l.map (· + 1)) && va_nd (l.map (· + 1))) = true
  rw [va_nd_s l h, Bool.and_true]
  refine decide_eq_true (fun q => ?_)
  obtain ⟨x, _, e⟩ := List.mem_map.mp q
  have e : x + 1 = 0 := e
  omega
theorem zGp_at {b : va_W} {bs rs : List va_W} {is : List Nat} (h : is.map (fun i => bs[i]?) = rs.map some) : (is.map (· + 1)).map (fun i => (b :: bs)[i]?) = rs.map some := by
  rw [← h, List.map_map]
  exact List.map_congr_left (fun i _ => rfl)
theorem zGp_is : ∀ (bs : List va_W) (gs : List Nat), ∃ is : List Nat, va_nd is = true ∧ is.map (fun i => bs[i]?) = (zGp gs bs).map some ∧ ∀ i ∈ is, i ∉ zDr gs 0
  | [], gs => ⟨[], rfl, by cases gs <;> rfl, fun i h => absurd h List.not_mem_nil⟩
  | b :: bs, [] => by
    obtain ⟨is, h1, h2, _⟩ := zGp_is bs []
    have h2 : is.map (fun i => bs[i]?) = bs.map some := by cases bs <;> exact h2
    exact ⟨0 :: is.map (· + 1), va_nd_0 is h1, congrArg (some b :: ·) (zGp_at (b := b) h2), fun i _ h => absurd h List.not_mem_nil⟩
  | b :: bs, 0 :: gs => by
    obtain ⟨is, h1, h2, h3⟩ := zGp_is bs gs
    refine ⟨is.map (· + 1), va_nd_s is h1, zGp_at (b := b) h2, fun i hi h => ?_⟩
    obtain ⟨x, hx, e⟩ := List.mem_map.mp hi
    have e : x + 1 = i := e
    rcases List.mem_cons.mp h with q | q
    · omega
    · rw [← e] at q; exact h3 x hx (zDr_s gs 0 x q)
  | b :: bs, (g + 1) :: gs => by
    obtain ⟨is, h1, h2, h3⟩ := zGp_is bs (g :: gs)
    refine ⟨0 :: is.map (· + 1), va_nd_0 is h1, congrArg (some b :: ·) (zGp_at (b := b) h2), fun i hi h => ?_⟩
    rcases List.mem_cons.mp hi with e | e
    · rcases List.mem_cons.mp h with q | q
      · omega
      · have := zDr_ge gs _ i q; omega
    · obtain ⟨x, hx, e⟩ := List.mem_map.mp e
      have e : x + 1 = i := e
      rw [← e] at h
      refine h3 x hx ?_
      rcases List.mem_cons.mp h with q | q
      · exact List.mem_cons.mpr (Or.inl (by omega))
      · rw [show 0 + (g + 1) + 1 = (0 + g + 1) + 1 by omega] at q
        exact List.mem_cons.mpr (Or.inr (zDr_s gs (0 + g + 1) x q))
theorem zCk_s {isC gs : List Nat} (h : zCk isC gs = true) : va_nd isC = true ∧ ∀ i ∈ isC, i ∈ zDr gs 0 := by
  unfold zCk at h
  rw [Bool.and_eq_true] at h
  exact ⟨(zk_nd isC 0 h.1).1, fun i hi => List.elem_iff.mp (List.all_eq_true.mp h.2 i hi)⟩
theorem zS.sub {T : zTy} {A : Nat → Prop} {H0 : Heap} {s : State} {bs bs' : List va_W} {H : Heap} {locs : List Loc} (h : zS T A H0 s bs H locs) (is : List Nat) (hs : is.map (fun i => bs[i]?) = bs'.map some) (hn : zk 0 is = true := by decide +kernel) : zS T A H0 s bs' H locs :=
  ⟨h.1, zP_sub h.2.1 is hs, zD_sub h.2.2.1 is (zk_nd is 0 hn).1 hs, h.2.2.2⟩
/-- the same cells, cut into other blocks -/
theorem zS.re {T : zTy} {A : Nat → Prop} {H0 : Heap} {s : State} {bs bs' : List va_W} {H : Heap} {locs : List Loc} (h : zS T A H0 s bs H locs) (e : bs.flatten = bs'.flatten) : zS T A H0 s bs' H locs :=
  ⟨h.1, by rw [← e]; exact h.2.1, by rw [← e]; exact h.2.2.1, h.2.2.2⟩
-- ===== a method's contract =====
def zW (y : MethodName) (b : ByteArray) (n : Nat) (ret : Option FieldType) : List Cond := .code y b n ret :: zT
def zPre (T : zTy) (av : List Value) (bs : List va_W) (sz : Nat) : Array Value → State → Prop := va_Pc av (fun U => U.heap.size = sz ∧ va_P T.1 vwCl bs.flatten U.heap ∧ va_K T.1 vwCl (zTys T) U ∧ va_D (fun _ => True) bs.flatten ∧ zX U ∧ zU T (va_A bs.flatten sz) U U.heap)
def zB (T : zTy) (A : Nat → Prop) (bs : List va_W) (t : State) : Prop := va_P T.1 vwCl bs.flatten t.heap ∧ va_K T.1 vwCl (zTys T) t ∧ va_D A bs.flatten
abbrev zR (d mc ms : Nat) : Room := { frames := d, cells := mc, slots := ms, locals := 40 * d }
def zMi (l : Launch) (T : zTy) (y : MethodName) (b : ByteArray) (n : Nat) (ret : Option FieldType) (d mc ms : Nat) (av : List Value) (bs : List va_W) (post : Int32 → List va_W → Prop) : Prop :=
  ∀ sz : Nat, Met l y (zW y b n ret) (zR d mc ms) (zPre T av bs sz) (va_Qi post (zB T (va_A bs.flatten sz)) (va_A bs.flatten sz)) mc ms (va_A bs.flatten sz)
def zMv (l : Launch) (T : zTy) (y : MethodName) (b : ByteArray) (n : Nat) (d mc ms : Nat) (av : List Value) (bs : List va_W) (post : List va_W → Prop) : Prop :=
  ∀ sz : Nat, Met l y (zW y b n none) (zR d mc ms) (zPre T av bs sz) (va_Qv post (zB T (va_A bs.flatten sz)) (va_A bs.flatten sz)) mc ms (va_A bs.flatten sz)
def zMq (l : Launch) (T : zTy) (y : MethodName) (b : ByteArray) (n : Nat) (ret : Option FieldType) (d mc ms : Nat) (av : List Value) (bs : List va_W) (post : Option Nat → List va_W → Prop) : Prop :=
  ∀ sz : Nat, Met l y (zW y b n ret) (zR d mc ms) (zPre T av bs sz) (va_Qq post (zB T (va_A bs.flatten sz)) (va_A bs.flatten sz)) mc ms (va_A bs.flatten sz)
/-- a method's body from its entry -/
abbrev zBody (l : Launch) (T : zTy) (y : MethodName) (own : String) (b : ByteArray) (n : Nat) (ret : Option FieldType) (d mc ms : Nat) (av : List Value) (bs : List va_W) (Qc : (Nat → Prop) → Array Value → State → Outcome → State → Prop) : Prop :=
  ∀ (p : Program) (e : Env) (s : State) (m : MethodId) (args : Array Value) (below : List Frame) (meth : Method) (c : Code) (A : Nat → Prop) (ls : Array Slot), CallFix p m c b n s args zT own → meth.sig.returnType = ret → meth.locks = false → meth.name = y.name →
    A = va_A bs.flatten s.heap.size → zS T A s.heap s bs s.heap [] → lv_has ls n (lv_args 0 av) → W p l e (zR d mc ms) s m args below meth c s.heap [] 0 0 (MQ below (Qc A) args s mc ms A) (F0 m 0 ls [])
theorem z_body {l : Launch} {T : zTy} {y : MethodName} {own : String} {b : ByteArray} {n : Nat} {ret : Option FieldType} {d mc ms : Nat} {av : List Value} {bs : List va_W} {Qc : (Nat → Prop) → Array Value → State → Outcome → State → Prop} (hy : plainName y.cls = true) (ho : y.cls = own) (hlen : (lg_sl av).length ≤ n)
    (k : zBody l T y own b n ret d mc ms av bs Qc) : ∀ sz : Nat, Met l y (zW y b n ret) (zR d mc ms) (zPre T av bs sz) (Qc (va_A bs.flatten sz)) mc ms (va_A bs.flatten sz) := by
  intro sz
  refine Met.ofW (cc := b) (maxL := n) (ret := ret) hy rfl ?_
  intro p e s m args below meth c s₁ B hml hv
  obtain ⟨rfl, hsz, hP, hK, hD0, hX, hU⟩ := hv
  subst hsz
  have hl := lv_entry av (n := n) hlen
  rw [lg_entry_eq]
  refine k p e s m _ below meth c _ _ ⟨B.exec, B.bytes, hml, ?_, fun w hw => atoms_spec (ws := zW y b n ret) B.pre w (List.mem_cons_of_mem _ hw)⟩ B.returns B.notSynchronized (name_of_methodNamed B.named B.method).1 rfl ?_ hl
  · rw [← ho]
    exact findClass_of_methodNamed B.named
  · exact ⟨hK, hP, hD0.self, va_S.rf, fun q h => Or.inr h, hX, hU⟩
-- ===== the rows, over blocks =====
section ZR
variable {p : Program} {l : Launch} {e : Env} {R : Room} {s : State} {m : MethodId} {args : Array Value} {below : List Frame} {meth : Method} {c : Code} {H : Heap} {locs : List Loc} {cells slots : Nat} {Q : State → Prop}
variable {cc : ByteArray} {nL pc : Nat} {ls : Array Slot} {rest : List Value} {T : zTy} {A : Nat → Prop} {a : Nat} {bs : List va_W} {H0 : Heap} {own : String}
/-- what is known of a class: its number, name, fields -/
def zCl (ci : Nat) (Cn : String) (Tt : u_T) (N : Nat) (ty : Nat → FieldType) : Prop := vwCl[ci]? = some (Cn, Tt, N) ∧ (∀ w ∈ u_ws Cn Tt N, w ∈ zT) ∧ (∀ k, k < N → parseFieldDescriptor (Tt k).2.2.1 = some (ty k)) ∧ (∀ a, a < N → ∀ b, b < N → a ≠ b → (Tt a).2.1 ≠ (Tt b).2.1)
theorem z_get (C : CallFix p m c cc nL s args zT own) (G : zS T A H0 s bs H locs) {Cn : String} {Tt : u_T} {ty : Nat → FieldType} {N ci index : Nat} (hz : zCl ci Cn Tt N ty) (i : Nat) {fs : List Value} (he : bs[i]? = some [(a, .inr (ci, fs))]) (k : Nat) (hk : k < N) (hlink : Cond.fieldLink own index (Tt k).1 (Tt k).2.1 (Tt k).2.2.1 ∈ zT) {v : Value} (hv : fs[k]? = some v) (hdg : decode cc pc = .ok (.getfield index, 3))
    (kk : W p l e R s m args below meth c H locs cells slots Q (F0 m (pc + 3) ls (v :: rest))) : W p l e R s m args below meth c H locs cells slots Q (F0 m pc ls (.ref a :: rest)) := by
  obtain ⟨j, hj, -⟩ := zfl he
  exact va_get (D := T.1) (ci := ci) C.1 C.2.1 C.2.2.2.2 hz.2.1 C.2.2.2.1 G.1 G.2.1 j hj hz.1 k hk (C.2.2.2.2 _ hlink) (fun _ h => h) hv hdg kk
theorem z_put (C : CallFix p m c cc nL s args zT own) (G : zS T A H0 s bs H locs) {Cn : String} {Tt : u_T} {ty : Nat → FieldType} {N ci index : Nat} (hz : zCl ci Cn Tt N ty) (i : Nat) {fs : List Value} (he : bs[i]? = some [(a, .inr (ci, fs))]) (k : Nat) (hk : k < N) (hlink : Cond.fieldLink own index (Tt k).1 (Tt k).2.1 (Tt k).2.2.1 ∈ zT) (hfin : (Tt k).2.2.2 = false) {v : Value} (hn : narrow (ty k) v = v) (hfit : fits (ty k) v = true) (hl : k < fs.length) (hdg : decode cc pc = .ok (.putfield index, 3))
    (kk : ∀ (H1 : Heap) (locs1 : List Loc), zS T A H0 s (bs.set i [(a, .inr (ci, fs.set k v))]) H1 locs1 → W p l e R s m args below meth c H1 locs1 cells slots Q (F0 m (pc + 3) ls rest)) : W p l e R s m args below meth c H locs cells slots Q (F0 m pc ls (v :: .ref a :: rest)) := by
  obtain ⟨j, hj, hset⟩ := zfl he
  refine va_put (D := T.1) (ci := ci) C.1 C.2.1 C.2.2.2.2 hz.2.1 ty hz.2.2.1 hz.2.2.2 C.2.2.2.1 G.1 G.2.1 G.2.2.1 G.2.2.2.1 j hj hz.1 k hk (C.2.2.2.2 _ hlink) (fun _ h => h) hfin (hz.2.2.1 k hk) hn hfit hl hdg (fun H1 locs1 hP hD hS => kk H1 locs1 ⟨G.1, ?_, ?_, hS, G.2.2.2.2⟩)
  · rw [hset]; exact hP
  · rw [hset]; exact hD
theorem z_putF (C : CallFix p m c cc nL s args zT own) (G : zS T A H0 s bs H locs) (hin : meth.name = "<init>") {Cn : String} {Tt : u_T} {ty : Nat → FieldType} {N ci index : Nat} (hz : zCl ci Cn Tt N ty) (i : Nat) {fs : List Value} (he : bs[i]? = some [(a, .inr (ci, fs))]) (k : Nat) (hk : k < N) (hlink : Cond.fieldLink own index (Tt k).1 (Tt k).2.1 (Tt k).2.2.1 ∈ zT) (hfin : (Tt k).2.2.2 = true) (hdecl : (Tt k).1 = own) {v : Value} (hn : narrow (ty k) v = v) (hfit : fits (ty k) v = true) (hl : k < fs.length) (hdg : decode cc pc = .ok (.putfield index, 3))
    (kk : ∀ (H1 : Heap) (locs1 : List Loc), zS T A H0 s (bs.set i [(a, .inr (ci, fs.set k v))]) H1 locs1 → W p l e R s m args below meth c H1 locs1 cells slots Q (F0 m (pc + 3) ls rest)) : W p l e R s m args below meth c H locs cells slots Q (F0 m pc ls (v :: .ref a :: rest)) := by
  obtain ⟨j, hj, hset⟩ := zfl he
  refine va_putF (D := T.1) (ci := ci) C.1 C.2.1 C.2.2.2.2 hz.2.1 ty hz.2.2.1 hz.2.2.2 C.2.2.2.1 G.1 G.2.1 G.2.2.1 G.2.2.2.1 j hj hz.1 k hk (C.2.2.2.2 _ hlink) (fun _ h => h) hfin hin hdecl (hz.2.2.1 k hk) hn hfit hl hdg (fun H1 locs1 hP hD hS => kk H1 locs1 ⟨G.1, ?_, ?_, hS, G.2.2.2.2⟩)
  · rw [hset]; exact hP
  · rw [hset]; exact hD
theorem z_new (C : CallFix p m c cc nL s args zT own) (G : zS T A H0 s bs H locs) {Cn : String} {Tt : u_T} {ty : Nat → FieldType} {N ci index : Nat} (hz : zCl ci Cn Tt N ty) (hcl : Cond.classLink own index Cn ∈ zT) (hinst : Cond.instantiable Cn N ∈ zT) (hini : Cond.initialized Cn ∈ zT) {fs : List Value} (hfs : ∀ j, j < N → defaultValue (ty j) = vp_V fs j) (hcells : cells + 1 ≤ R.cells) (hslots : slots + N ≤ R.slots) (hdg : decode cc pc = .ok (.new index, 3))
    (kk : ∀ (q : Nat) (H1 : Heap), zS T A H0 s (bs ++ [[(q, .inr (ci, fs))]]) H1 locs → W p l e R s m args below meth c H1 locs (cells + 1) (slots + N) Q (F0 m (pc + 3) ls (.ref q :: rest))) : W p l e R s m args below meth c H locs cells slots Q (F0 m pc ls rest) := by
  refine va_new (D := T.1) (ci := ci) C.1 C.2.1 C.2.2.2.2 hz.2.1 ty hz.2.2.1 C.2.2.2.1 (C.2.2.2.2 _ hcl) (C.2.2.2.2 _ hinst) (C.2.2.2.2 _ hini) G.1 G.2.1 G.2.2.1 G.2.2.2.1 G.2.2.2.2.1 hz.1 hfs hcells hslots hdg (fun q H1 hP hD hS => kk q H1 ⟨G.1, ?_, ?_, hS, G.2.2.2.2⟩)
  · rw [List.flatten_append]; exact hP
  · rw [List.flatten_append]; exact hD
theorem z_ild (C : CallFix p m c cc nL s args zT own) (G : zS T A H0 s bs H locs) (i : Nat) {n : Nat} {f : Nat → Int32} (ha : bs[i]? = some [(a, .inl (T.2 0, n, .inl f))]) {x : Int32} (hin : vp_in x n) (hdg : decode cc pc = .ok (.iaload, 1))
    (kk : W p l e R s m args below meth c H locs cells slots Q (F0 m (pc + 1) ls (.int (f x.toNatClampNeg) :: rest))) : W p l e R s m args below meth c H locs cells slots Q (F0 m pc ls (.int x :: .ref a :: rest)) := by
  obtain ⟨j, hj, -⟩ := zfl ha
  exact va_iald C.1 C.2.1 G.1 G.2.1 j 0 hj rfl hin hdg kk
theorem z_bld (C : CallFix p m c cc nL s args zT own) (G : zS T A H0 s bs H locs) (i : Nat) {n : Nat} {f : Nat → Int32} (ha : bs[i]? = some [(a, .inl (T.2 1, n, .inl f))]) {x : Int32} (hin : vp_in x n) (hdg : decode cc pc = .ok (.baload, 1))
    (kk : W p l e R s m args below meth c H locs cells slots Q (F0 m (pc + 1) ls (.int (f x.toNatClampNeg) :: rest))) : W p l e R s m args below meth c H locs cells slots Q (F0 m pc ls (.int x :: .ref a :: rest)) := by
  obtain ⟨j, hj, -⟩ := zfl ha
  exact va_bald C.1 C.2.1 G.1 G.2.1 j 1 hj rfl hin hdg kk
theorem z_zld (C : CallFix p m c cc nL s args zT own) (G : zS T A H0 s bs H locs) (i : Nat) {n : Nat} {f : Nat → Int32} (ha : bs[i]? = some [(a, .inl (T.2 2, n, .inl f))]) {x : Int32} (hin : vp_in x n) (hdg : decode cc pc = .ok (.baload, 1))
    (kk : W p l e R s m args below meth c H locs cells slots Q (F0 m (pc + 1) ls (.int (f x.toNatClampNeg) :: rest))) : W p l e R s m args below meth c H locs cells slots Q (F0 m pc ls (.int x :: .ref a :: rest)) := by
  obtain ⟨j, hj, -⟩ := zfl ha
  exact va_zald C.1 C.2.1 G.1 G.2.1 j 2 hj rfl hin hdg kk
theorem z_ist (C : CallFix p m c cc nL s args zT own) (G : zS T A H0 s bs H locs) (i : Nat) {n : Nat} {f : Nat → Int32} (ha : bs[i]? = some [(a, .inl (T.2 0, n, .inl f))]) {x v : Int32} (hin : vp_in x n) (hdg : decode cc pc = .ok (.iastore, 1))
    (kk : ∀ (H1 : Heap) (locs1 : List Loc), zS T A H0 s (bs.set i [(a, .inl (T.2 0, n, .inl (upd f x.toNatClampNeg v)))]) H1 locs1 → W p l e R s m args below meth c H1 locs1 cells slots Q (F0 m (pc + 1) ls rest)) : W p l e R s m args below meth c H locs cells slots Q (F0 m pc ls (.int v :: .int x :: .ref a :: rest)) := by
  obtain ⟨j, hj, hset⟩ := zfl ha
  refine va_iast C.1 C.2.1 G.1 G.2.1 G.2.2.1 G.2.2.2.1 j 0 hj rfl hin hdg (fun H1 locs1 hP hD hS => kk H1 locs1 ⟨G.1, ?_, ?_, hS, G.2.2.2.2⟩)
  · rw [hset]; exact hP
  · rw [hset]; exact hD
theorem z_bst (C : CallFix p m c cc nL s args zT own) (G : zS T A H0 s bs H locs) (i : Nat) {n : Nat} {f : Nat → Int32} (ha : bs[i]? = some [(a, .inl (T.2 1, n, .inl f))]) {x v : Int32} (hin : vp_in x n) (hdg : decode cc pc = .ok (.bastore, 1))
    (kk : ∀ (H1 : Heap) (locs1 : List Loc), zS T A H0 s (bs.set i [(a, .inl (T.2 1, n, .inl (upd f x.toNatClampNeg (vp_nar .byte v))))]) H1 locs1 → W p l e R s m args below meth c H1 locs1 cells slots Q (F0 m (pc + 1) ls rest)) : W p l e R s m args below meth c H locs cells slots Q (F0 m pc ls (.int v :: .int x :: .ref a :: rest)) := by
  obtain ⟨j, hj, hset⟩ := zfl ha
  refine va_bast C.1 C.2.1 G.1 G.2.1 G.2.2.1 G.2.2.2.1 j 1 hj rfl hin hdg (fun H1 locs1 hP hD hS => kk H1 locs1 ⟨G.1, ?_, ?_, hS, G.2.2.2.2⟩)
  · rw [hset]; exact hP
  · rw [hset]; exact hD
theorem z_zst (C : CallFix p m c cc nL s args zT own) (G : zS T A H0 s bs H locs) (i : Nat) {n : Nat} {f : Nat → Int32} (ha : bs[i]? = some [(a, .inl (T.2 2, n, .inl f))]) {x v : Int32} (hin : vp_in x n) (hdg : decode cc pc = .ok (.bastore, 1))
    (kk : ∀ (H1 : Heap) (locs1 : List Loc), zS T A H0 s (bs.set i [(a, .inl (T.2 2, n, .inl (upd f x.toNatClampNeg (vp_nar .boolean v))))]) H1 locs1 → W p l e R s m args below meth c H1 locs1 cells slots Q (F0 m (pc + 1) ls rest)) : W p l e R s m args below meth c H locs cells slots Q (F0 m pc ls (.int v :: .int x :: .ref a :: rest)) := by
  obtain ⟨j, hj, hset⟩ := zfl ha
  refine va_zast C.1 C.2.1 G.1 G.2.1 G.2.2.1 G.2.2.2.1 j 2 hj rfl hin hdg (fun H1 locs1 hP hD hS => kk H1 locs1 ⟨G.1, ?_, ?_, hS, G.2.2.2.2⟩)
  · rw [hset]; exact hP
  · rw [hset]; exact hD
theorem z_istN (C : CallFix p m c cc nL s args zT own) (G : zS T A H0 s bs H locs) (i : Nat) {n : Nat} {f : Nat → Int32} (ha : bs[i]? = some [(a, .inl (T.2 0, n, .inl f))]) {x v : Int32} (hin : vp_in x n) {k : Nat} (hk : x.toNatClampNeg = k) (hdg : decode cc pc = .ok (.iastore, 1))
    (kk : ∀ (H1 : Heap) (locs1 : List Loc), zS T A H0 s (bs.set i [(a, .inl (T.2 0, n, .inl (upd f k v)))]) H1 locs1 → W p l e R s m args below meth c H1 locs1 cells slots Q (F0 m (pc + 1) ls rest)) : W p l e R s m args below meth c H locs cells slots Q (F0 m pc ls (.int v :: .int x :: .ref a :: rest)) := by
  subst hk
  exact z_ist C G i ha hin hdg kk
theorem z_bstN (C : CallFix p m c cc nL s args zT own) (G : zS T A H0 s bs H locs) (i : Nat) {n : Nat} {f : Nat → Int32} (ha : bs[i]? = some [(a, .inl (T.2 1, n, .inl f))]) {x v : Int32} (hin : vp_in x n) {k : Nat} (hk : x.toNatClampNeg = k) (hdg : decode cc pc = .ok (.bastore, 1))
    (kk : ∀ (H1 : Heap) (locs1 : List Loc), zS T A H0 s (bs.set i [(a, .inl (T.2 1, n, .inl (upd f k (vp_nar .byte v))))]) H1 locs1 → W p l e R s m args below meth c H1 locs1 cells slots Q (F0 m (pc + 1) ls rest)) : W p l e R s m args below meth c H locs cells slots Q (F0 m pc ls (.int v :: .int x :: .ref a :: rest)) := by
  subst hk
  exact z_bst C G i ha hin hdg kk
theorem z_zstN (C : CallFix p m c cc nL s args zT own) (G : zS T A H0 s bs H locs) (i : Nat) {n : Nat} {f : Nat → Int32} (ha : bs[i]? = some [(a, .inl (T.2 2, n, .inl f))]) {x v : Int32} (hin : vp_in x n) {k : Nat} (hk : x.toNatClampNeg = k) (hdg : decode cc pc = .ok (.bastore, 1))
    (kk : ∀ (H1 : Heap) (locs1 : List Loc), zS T A H0 s (bs.set i [(a, .inl (T.2 2, n, .inl (upd f k (vp_nar .boolean v))))]) H1 locs1 → W p l e R s m args below meth c H1 locs1 cells slots Q (F0 m (pc + 1) ls rest)) : W p l e R s m args below meth c H locs cells slots Q (F0 m pc ls (.int v :: .int x :: .ref a :: rest)) := by
  subst hk
  exact z_zst C G i ha hin hdg kk
theorem z_alen (C : CallFix p m c cc nL s args zT own) (G : zS T A H0 s bs H locs) (i t : Nat) {ty : FieldType} {cA : ClassId} (ht : (zTys T)[t]? = some (cA, ty)) {x : vp_A} (ha : bs[i]? = some [(a, .inl (cA, x))]) {v : Int32} (hv : Int32.ofNat x.1 = v) (hdg : decode cc pc = .ok (.arraylength, 1))
    (kk : W p l e R s m args below meth c H locs cells slots Q (F0 m (pc + 1) ls (.int v :: rest))) : W p l e R s m args below meth c H locs cells slots Q (F0 m pc ls (.ref a :: rest)) := by
  obtain ⟨j, hj, -⟩ := zfl ha
  exact va_alen C.1 C.2.1 G.1 G.2.1 j t hj ht hv hdg kk
theorem z_ald (C : CallFix p m c cc nL s args zT own) (G : zS T A H0 s bs H locs) (i t : Nat) {Cn : String} {cA : ClassId} (ht : (zTys T)[t]? = some (cA, .object Cn)) {n : Nat} {f : Nat → Option Nat} (ha : bs[i]? = some [(a, .inl (cA, n, .inr (.inr (.inr (.inr f)))))]) {x : Int32} (hin : vp_in x n) (hdg : decode cc pc = .ok (.aaload, 1))
    (kk : W p l e R s m args below meth c H locs cells slots Q (F0 m (pc + 1) ls (va_rf (f x.toNatClampNeg) :: rest))) : W p l e R s m args below meth c H locs cells slots Q (F0 m pc ls (.int x :: .ref a :: rest)) := by
  obtain ⟨j, hj, -⟩ := zfl ha
  exact va_aldq C.1 C.2.1 G.1 G.2.1 j t hj ht hin hdg kk
theorem z_ast (C : CallFix p m c cc nL s args zT own) (G : zS T A H0 s bs H locs) (i t : Nat) {r : vw_C} {cA : ClassId} (ht : (zTys T)[t]? = some (cA, .object r.1)) {n v ci : Nat} {vs : List Value} {f : Nat → Option Nat} (ha : bs[i]? = some [(a, .inl (cA, n, .inr (.inr (.inr (.inr f)))))]) (hm : (v, .inr (ci, vs)) ∈ bs.flatten) (hc : vwCl[ci]? = some r) {x : Int32} (hin : vp_in x n) (hdg : decode cc pc = .ok (.aastore, 1))
    (kk : ∀ (H1 : Heap) (locs1 : List Loc), zS T A H0 s (bs.set i [(a, .inl (cA, n, .inr (.inr (.inr (.inr (va_up f x.toNatClampNeg (some v)))))))]) H1 locs1 → W p l e R s m args below meth c H1 locs1 cells slots Q (F0 m (pc + 1) ls rest)) : W p l e R s m args below meth c H locs cells slots Q (F0 m pc ls (.ref v :: .int x :: .ref a :: rest)) := by
  obtain ⟨j, hj, hset⟩ := zfl ha
  obtain ⟨k, hk⟩ := List.getElem?_of_mem hm
  refine va_astq C.1 C.2.1 G.1 G.2.1 G.2.2.1 G.2.2.2.1 j t k ci hj ht hk hc hin hdg (fun H1 locs1 hP hD hS => kk H1 locs1 ⟨G.1, ?_, ?_, hS, G.2.2.2.2⟩)
  · rw [hset]; exact hP
  · rw [hset]; exact hD
theorem z_newa (C : CallFix p m c cc nL s args zT own) (G : zS T A H0 s bs H locs) {atype : ArrayType} {ty : FieldType} (t : Nat) {cA : ClassId} (ht : (zTys T)[t]? = some (cA, ty)) (hu : ∀ x y : ClassId, va_RA s x ty → va_RA s y ty → x = y) (harr : Cond.arrayClass ty ∈ zT) (hty : newarray.typeOf atype = ty) {n : Int32} {N' : Nat} {a0 : vp_A} (h0 : ∀ cB : ClassId, vp_cell cB a0 = arrV cB N' (fun _ => defaultValue ty)) (hn : ¬ n < 0) (hN : n.toNatClampNeg = N') (hbytes : N' * componentBytes ty ≤ 536870912) (hcells : cells + 1 ≤ R.cells) (hslots : slots + N' ≤ R.slots) (hdg : decode cc pc = .ok (.newarray atype, 2))
    (kk : ∀ (q : Nat) (H1 : Heap), zS T A H0 s (bs ++ [[(q, .inl (cA, a0))]]) H1 locs → W p l e R s m args below meth c H1 locs (cells + 1) (slots + N') Q (F0 m (pc + 2) ls (.ref q :: rest))) : W p l e R s m args below meth c H locs cells slots Q (F0 m pc ls (.int n :: rest)) := by
  subst hty
  refine va_newa (D := T.1) C.1 C.2.1 (C.2.2.2.2 _ harr) rfl G.1 G.2.1 G.2.2.1 G.2.2.2.1 G.2.2.2.2.1 h0 hn hN hbytes hcells hslots hdg (fun q cB H1 hK hP hD hS => ?_)
  have e1 := (hK.2 (zTys T).length (cB, newarray.typeOf atype) (by simp)).2
  have e2 := (G.1.2 t _ ht).2
  have e3 : cB = cA := hu _ _ e1 e2
  subst e3
  refine kk q H1 ⟨G.1, ?_, ?_, hS, G.2.2.2.2⟩
  · rw [List.flatten_append]; exact hP
  · rw [List.flatten_append]; exact hD
theorem z_newq (C : CallFix p m c cc nL s args zT own) (G : zS T A H0 s bs H locs) {Cn : String} {index : Nat} (t : Nat) {cA : ClassId} (ht : (zTys T)[t]? = some (cA, .object Cn)) (hclink : Cond.classLink own index Cn ∈ zT) (hover : Cn ∈ zAOs) {n : Int32} {N' : Nat} (hn : ¬ n < 0) (hN : n.toNatClampNeg = N') (hbytes : N' * 4 ≤ 536870912) (hcells : cells + 1 ≤ R.cells) (hslots : slots + N' ≤ R.slots) (hdg : decode cc pc = .ok (.anewarray index, 3))
    (kk : ∀ (q : Nat) (H1 : Heap), zS T A H0 s (bs ++ [[(q, .inl (cA, N', .inr (.inr (.inr (.inr (fun _ => none))))))]]) H1 locs → W p l e R s m args below meth c H1 locs (cells + 1) (slots + N') Q (F0 m (pc + 3) ls (.ref q :: rest))) : W p l e R s m args below meth c H locs cells slots Q (F0 m pc ls (.int n :: rest)) := by
  refine va_newq (D := T.1) C.1 C.2.1 C.2.2.2.1 (C.2.2.2.2 _ hclink) (G.2.2.2.2.2.1.2 Cn hover) G.1 G.2.1 G.2.2.1 G.2.2.2.1 G.2.2.2.2.1 hn hN hbytes hcells hslots hdg (fun q cB H1 hK hP hD hS => ?_)
  have e1 := (hK.2 (zTys T).length (cB, .object Cn) (by simp)).2
  have e2 := (G.1.2 t _ ht).2
  obtain ⟨-, -, -, -, -, e3⟩ := e1
  obtain ⟨-, -, -, -, -, e4⟩ := e2
  have e5 : cB = cA := Option.some.inj (e3.symm.trans e4)
  subst e5
  refine kk q H1 ⟨G.1, ?_, ?_, hS, G.2.2.2.2⟩
  · rw [List.flatten_append]; exact hP
  · rw [List.flatten_append]; exact hD
theorem z_ldcS (C : CallFix p m c cc nL s args zT own) (G : zS T A H0 s bs H locs) (ho : own = "TurnedPosts$Reader") (i : Nat) (hi : i < 12) {index : Nat} (hk : zKp.getD i 0 = index) (hdg : decode cc pc = .ok (.ldc index, 2))
    (k : W p l e R s m args below meth c H locs cells slots Q (F0 m (pc + 2) ls (.ref (T.2 (100 + i)) :: rest))) : W p l e R s m args below meth c H locs cells slots Q (F0 m pc ls rest) := by
  subst hk
  subst ho
  exact va_ldcS C.1 C.2.1 C.2.2.2.1 (G.2.2.2.2.2.2.2.2.2.2.2.1 i hi) hdg k
end ZR
section ZR0
variable {p : Program} {l : Launch} {e : Env} {R : Room} {s : State} {m : MethodId} {args : Array Value} {below : List Frame} {meth : Method} {c : Code} {H : Heap} {locs : List Loc} {cells slots : Nat} {Q : State → Prop}
variable {cc : ByteArray} {nL pc : Nat} {ls : Array Slot} {rest : List Value} {T : zTy} {A : Nat → Prop} {bs : List va_W} {own : String}
theorem z_gst (C : CallFix p m c cc nL s args zT own) (G : zS T A s.heap s bs H locs) {Cn n d : String} {v : Value} {index : Nat} (hZ : va_Z Cn n d v A s s.heap) (hlink : Cond.fieldLink own index Cn n d ∈ zT) (hdg : decode cc pc = .ok (.getstatic index, 3))
    (kk : W p l e R s m args below meth c H locs cells slots Q (F0 m (pc + 3) ls (v :: rest))) : W p l e R s m args below meth c H locs cells slots Q (F0 m pc ls rest) :=
  va_gets C.1 C.2.1 hZ G.2.2.2.1 C.2.2.2.1 (C.2.2.2.2 _ hlink) (fun _ h => h) hdg kk
theorem z_gstN (C : CallFix p m c cc nL s args zT own) (G : zS T A s.heap s bs H locs) {Cn n d host : String} {v : Value} {index : Nat} (hZ : va_Z Cn n d v A s s.heap) (hlink : (Cond.fieldLinkNest own index Cn n d host).before args s = true) (hdg : decode cc pc = .ok (.getstatic index, 3))
    (kk : W p l e R s m args below meth c H locs cells slots Q (F0 m (pc + 3) ls (v :: rest))) : W p l e R s m args below meth c H locs cells slots Q (F0 m pc ls rest) :=
  va_getsN C.1 C.2.1 hZ G.2.2.2.1 C.2.2.2.1 hlink (fun _ h => h) hdg kk
theorem z_sval (C : CallFix p m c cc nL s args zT own) (G : zS T A s.heap s bs H locs) {i : Nat} (hi : i < 12) {index : Nat} (hlink : Cond.fieldLink own index "java/lang/String" "value" "[B" ∈ zT) (hdg : decode cc pc = .ok (.getfield index, 3))
    (kk : W p l e R s m args below meth c H locs cells slots Q (F0 m (pc + 3) ls (.ref (T.2 (200 + i)) :: rest))) : W p l e R s m args below meth c H locs cells slots Q (F0 m pc ls (.ref (T.2 (100 + i)) :: rest)) :=
  vk_getf C.1 C.2.1 (G.2.2.2.2.2.2.1.1 i hi).2.2.1 G.2.2.2.1 C.2.2.2.1 (C.2.2.2.2 _ hlink) (fun _ h => h) hdg kk
theorem z_scod (C : CallFix p m c cc nL s args zT own) (G : zS T A s.heap s bs H locs) {i : Nat} (hi : i < 12) {index : Nat} (hlink : Cond.fieldLink own index "java/lang/String" "coder" "B" ∈ zT) (hdg : decode cc pc = .ok (.getfield index, 3))
    (kk : W p l e R s m args below meth c H locs cells slots Q (F0 m (pc + 3) ls (.int 0 :: rest))) : W p l e R s m args below meth c H locs cells slots Q (F0 m pc ls (.ref (T.2 (100 + i)) :: rest)) :=
  vk_getf C.1 C.2.1 (G.2.2.2.2.2.2.1.1 i hi).2.1 G.2.2.2.1 C.2.2.2.1 (C.2.2.2.2 _ hlink) (fun _ h => h) hdg kk
theorem z_sbl (C : CallFix p m c cc nL s args zT own) (G : zS T A s.heap s bs H locs) {i : Nat} (hi : i < 12) (hdg : decode cc pc = .ok (.arraylength, 1))
    (kk : W p l e R s m args below meth c H locs cells slots Q (F0 m (pc + 1) ls (.int (nI (zLen.getD i 0)) :: rest))) : W p l e R s m args below meth c H locs cells slots Q (F0 m pc ls (.ref (T.2 (200 + i)) :: rest)) :=
  va_tlen C.1 C.2.1 (G.2.2.2.2.2.2.1.1 i hi).2.2.2 G.2.2.2.1 rfl hdg kk
theorem z_sbb (C : CallFix p m c cc nL s args zT own) (G : zS T A s.heap s bs H locs) {i : Nat} (hi : i < 12) {x : Int32} (hin : vp_in x (zLen.getD i 0)) (hdg : decode cc pc = .ok (.baload, 1))
    (kk : W p l e R s m args below meth c H locs cells slots Q (F0 m (pc + 1) ls (.int ((zByt.getD i []).getD x.toNatClampNeg 0) :: rest))) : W p l e R s m args below meth c H locs cells slots Q (F0 m pc ls (.int x :: .ref (T.2 (200 + i)) :: rest)) :=
  va_tb C.1 C.2.1 (G.2.2.2.2.2.2.1.1 i hi).2.2.2 G.2.2.2.1 hin rfl hdg kk
theorem z_ddl (C : CallFix p m c cc nL s args zT own) (G : zS T A s.heap s bs H locs) (hdg : decode cc pc = .ok (.arraylength, 1))
    (kk : W p l e R s m args below meth c H locs cells slots Q (F0 m (pc + 1) ls (.int 10 :: rest))) : W p l e R s m args below meth c H locs cells slots Q (F0 m pc ls (.ref (T.2 300) :: rest)) :=
  va_tlen C.1 C.2.1 G.2.2.2.2.2.2.2.2.1 G.2.2.2.1 rfl hdg kk
theorem z_ddi (C : CallFix p m c cc nL s args zT own) (G : zS T A s.heap s bs H locs) {x : Int32} (hin : vp_in x 10) (hdg : decode cc pc = .ok (.iaload, 1))
    (kk : W p l e R s m args below meth c H locs cells slots Q (F0 m (pc + 1) ls (.int (zDD.getD x.toNatClampNeg 0) :: rest))) : W p l e R s m args below meth c H locs cells slots Q (F0 m pc ls (.int x :: .ref (T.2 300) :: rest)) :=
  va_ti C.1 C.2.1 G.2.2.2.2.2.2.2.2.1 G.2.2.2.1 hin rfl hdg kk
theorem z_srecv (G : zS T A s.heap s bs H locs) {i : Nat} (hi : i < 12) : ∃ cell : Cell, H[T.2 (100 + i)]? = some cell ∧ cell.vm.isStatics = false ∧ s.vm.findClass "java/lang/String" = some cell.cls :=
  vk_recv (i := i) (adK := fun i => T.2 (100 + i)) G.2.2.2.2.2.2.1 hi G.2.2.2.1
end ZR0
abbrev zO0 (a : Nat) (x0 : Int32) (x1 : Int32) (x2 : Nat) (x3 : Int32) (x4 : Nat) (x5 : Nat) (x6 : Nat) (x7 : Nat) (x8 : Nat) (x9 : Nat) : Nat × va_E := (a, .inr (0, [.int x0, .int x1, .ref x2, .int x3, .ref x4, .ref x5, .ref x6, .ref x7, .ref x8, .ref x9]))
abbrev zO1 (a : Nat) (x0 : Nat) (x1 : Nat) (x2 : Int32) (x3 : Nat) (x4 : Int32) (x5 : Int32) (x6 : Int32) (x7 : Int32) (x8 : Int32) (x9 : Int32) (x10 : Int32) : Nat × va_E := (a, .inr (1, [.ref x0, .ref x1, .int x2, .ref x3, .int x4, .int x5, .int x6, .int x7, .int x8, .int x9, .int x10]))
abbrev zO3 (a : Nat) (x0 : Int32) (x1 : Int32) (x2 : Int32) (x3 : Int32) (x4 : Int32) (x5 : Int32) (x6 : Nat) (x7 : Nat) : Nat × va_E := (a, .inr (3, [.int x0, .int x1, .int x2, .int x3, .int x4, .int x5, .ref x6, .ref x7]))
abbrev zO4 (a : Nat) (x0 : Int32) (x1 : Int32) (x2 : Nat) (x3 : Nat) (x4 : Nat) (x5 : Nat) : Nat × va_E := (a, .inr (4, [.int x0, .int x1, .ref x2, .ref x3, .ref x4, .ref x5]))
abbrev zO6 (a : Nat) (x0 : Nat) (x1 : Nat) (x2 : Nat) (x3 : Int32) (x4 : Int32) (x5 : Nat) : Nat × va_E := (a, .inr (6, [.ref x0, .ref x1, .ref x2, .int x3, .int x4, .ref x5]))
abbrev zO7 (a : Nat) (x0 : Nat) (x1 : Nat) (x2 : Nat) (x3 : Int32) (x4 : Int32) (x5 : Nat) (x6 : Int32) (x7 : Int32) (x8 : Int32) (x9 : Int32) (x10 : Int32) (x11 : Int32) (x12 : Int32) : Nat × va_E := (a, .inr (7, [.ref x0, .ref x1, .ref x2, .int x3, .int x4, .ref x5, .int x6, .int x7, .int x8, .int x9, .int x10, .int x11, .int x12]))
abbrev zO8 (a : Nat) (x0 : Nat) (x1 : Int32) (x2 : Int32) (x3 : Int32) (x4 : Nat) (x5 : Nat) (x6 : Nat) (x7 : Nat) : Nat × va_E := (a, .inr (8, [.ref x0, .int x1, .int x2, .int x3, .ref x4, .ref x5, .ref x6, .ref x7]))
abbrev zO9 (a : Nat) (x0 : Nat) (x1 : Nat) (x2 : Nat) (x3 : Int32) (x4 : Int32) (x5 : Int32) (x6 : Int32) (x7 : Int32) : Nat × va_E := (a, .inr (9, [.ref x0, .ref x1, .ref x2, .int x3, .int x4, .int x5, .int x6, .int x7]))
abbrev zO10 (a : Nat) (x0 : Nat) (x1 : Nat) (x2 : Nat) (x3 : Nat) (x4 : Nat) (x5 : Nat) (x6 : Nat) (x7 : Nat) (x8 : Nat) (x9 : Nat) (x10 : Nat) : Nat × va_E := (a, .inr (10, [.ref x0, .ref x1, .ref x2, .ref x3, .ref x4, .ref x5, .ref x6, .ref x7, .ref x8, .ref x9, .ref x10]))
abbrev zO11 (a : Nat) (x0 : Nat) (x1 : Nat) (x2 : Int32) (x3 : Int32) (x4 : Int32) (x5 : Int32) (x6 : Int32) (x7 : Int32) (x8 : Int32) (x9 : Int32) (x10 : Nat) (x11 : Int32) (x12 : Int32) (x13 : Int32) (x14 : Nat) (x15 : Nat) (x16 : Nat) (x17 : Int32) (x18 : Int32) (x19 : Int32) (x20 : Int32) (x21 : Nat) (x22 : Nat) (x23 : Nat) (x24 : Nat) (x25 : Nat) (x26 : Nat) (x27 : Int32) (x28 : Int32) (x29 : Int32) (x30 : Int32) (x31 : Int32) (x32 : Int32) (x33 : Int32) (x34 : Int32) (x35 : Int32) (x36 : Int32) (x37 : Int32) (x38 : Int32) (x39 : Nat) (x40 : Nat) (x41 : Nat) (x42 : Int32) : Nat × va_E := (a, .inr (11, [.ref x0, .ref x1, .int x2, .int x3, .int x4, .int x5, .int x6, .int x7, .int x8, .int x9, .ref x10, .int x11, .int x12, .int x13, .ref x14, .ref x15, .ref x16, .int x17, .int x18, .int x19, .int x20, .ref x21, .ref x22, .ref x23, .ref x24, .ref x25, .ref x26, .int x27, .int x28, .int x29, .int x30, .int x31, .int x32, .int x33, .int x34, .int x35, .int x36, .int x37, .int x38, .ref x39, .ref x40, .ref x41, .int x42]))
abbrev zAr (T : zTy) (t a n : Nat) (f : Nat → Int32) : Nat × va_E := (a, .inl (T.2 t, n, .inl f))
abbrev zArq (T : zTy) (t a n : Nat) (f : Nat → Option Nat) : Nat × va_E := (a, .inl (T.2 t, n, .inr (.inr (.inr (.inr f)))))
section ZC
variable {p : Program} {l : Launch} {e : Env} {R : Room} {s : State} {m : MethodId} {args : Array Value} {below : List Frame} {meth : Method} {c : Code} {H : Heap} {locs : List Loc} {cells slots : Nat} {Q : State → Prop}
variable {cc : ByteArray} {nL pc : Nat} {ls : Array Slot} {rest st0 : List Value} {T : zTy} {A : Nat → Prop} {a : Nat} {bs bc br : List va_W} {H0 : Heap} {own host Cn : String}
variable {y : MethodName} {bytes : ByteArray} {maxL index n d mc ms : Nat} {ret : Option FieldType} {As : List Value}
theorem z_freeF (G : zS T A H0 s bs H locs) (isC : List Nat) (hC : isC.map (fun i => bs[i]?) = bc.map some) (hn : va_nd isC = true) : ∀ q, va_A bc.flatten H.size q → A q := by
  intro q h
  rcases h with ⟨k, e, h⟩ | h
  · exact (zD_sub G.2.2.1 isC hn hC).2 k _ h
  · exact G.2.2.2.2.1 q (Nat.le_trans G.2.2.2.1.1 h)
theorem z_pre (G : zS T A H0 s bs H locs) (isC : List Nat) (hC : isC.map (fun i => bs[i]?) = bc.map some) (hn : va_nd isC = true) (av : List Value) : FrameBlind (zPre T av bc H.size) ∧ ∀ U : State, U.heap = H → s.WarmedH U.vm → zPre T av bc H.size av.toArray U :=
  ⟨fun a U g mk q => by
    obtain ⟨q0, q1, qP, qK, qD, qX, qU⟩ := q
    exact ⟨q0, q1, qP, va_K.moved (u := U) (U := U.calling g mk a) (Vm.Alike.refl U.vm) qK, qD, zX.same (s := U) (U := U.calling g mk a) rfl qX, zU.same (s := U) (U := U.calling g mk a) rfl qU⟩,
  fun U hU hW => ⟨rfl, by rw [hU], by rw [hU]; exact zP_sub G.2.1 isC hC, va_K.moved hW.alike G.1, (zD_sub G.2.2.1 isC hn hC).weaken (fun _ _ _ _ => trivial), G.2.2.2.2.2.1.warm hW, by rw [hU]; exact ((G.2.2.2.2.2.2.kn G.2.2.2.1.2.1 (z_freeF G isC hC hn)).warm hW)⟩⟩
theorem z_recv {ci : Nat} {q : vw_C} {fs : List Value} (G : zS T A H0 s bs H locs) (isC : List Nat) (hC : isC.map (fun i => bs[i]?) = bc.map some) (hc : vwCl[ci]? = some q) (hm : (a, .inr (ci, fs)) ∈ bc.flatten) : ∃ cell : Cell, H[a]? = some cell ∧ cell.vm.isStatics = false ∧ s.vm.findClass q.1 = some cell.cls := by
  obtain ⟨k, hk⟩ := List.getElem?_of_mem hm
  exact va_recv G.1 (zP_sub G.2.1 isC hC) hc hk
theorem z_join {b1 : List va_W} {H1 : Heap} {locs1 : List Loc} (G : zS T A H0 s bs H locs) (isC isR : List Nat) (hC : isC.map (fun i => bs[i]?) = bc.map some) (hR : isR.map (fun i => bs[i]?) = br.map some) (hnC : va_nd isC = true) (hnR : va_nd isR = true) (hdis : ∀ i ∈ isR, i ∉ isC)
    (hk : ∀ q : Nat, q < H.size → ¬ va_A bc.flatten H.size q → H1[q]? = H[q]?) (hP1 : va_P T.1 vwCl b1.flatten H1) (hD1 : va_D (va_A bc.flatten H.size) b1.flatten) (hS1 : va_S A H0 H1 locs1) : zS T A H0 s (br ++ b1) H1 locs1 := by
  have hPR := zP_sub G.2.1 isR hR
  have hDR := zD_sub G.2.2.1 isR hnR hR
  have hF := z_freeF G isC hC hnC
  have apart : ∀ x ∈ br.flatten, x.1 < H.size ∧ ¬ va_A bc.flatten H.size x.1 := by
    intro x hx
    have hl := (zP_mem.mp hPR x hx).lt
    refine ⟨hl, fun h => ?_⟩
    rcases h with ⟨k, e, h⟩ | h
    · obtain ⟨b, hb, hxb⟩ := List.mem_flatten.mp hx
      obtain ⟨i, hi⟩ := List.getElem?_of_mem hb
      obtain ⟨i', i1, i2⟩ := zat hR i b hi
      obtain ⟨b2, hb2, hxb2⟩ := List.mem_flatten.mp (List.mem_of_getElem? h)
      obtain ⟨j, hj⟩ := List.getElem?_of_mem hb2
      obtain ⟨j', j1, j2⟩ := zat hC j b2 hj
      refine zD_ne G.2.2.1 i2 j2 (fun e => ?_) x hxb _ hxb2 rfl
      subst e
      exact hdis i' (List.mem_of_getElem? i1) (List.mem_of_getElem? j1)
    · omega
  refine ⟨G.1, ?_, ?_, hS1, G.2.2.2.2⟩
  · rw [List.flatten_append]
    refine va_P.app ?_ hP1
    rw [zP_mem] at hPR ⊢
    exact fun x hx => (hPR x hx).kept (hk x.1 (apart x hx).1 (apart x hx).2)
  · rw [List.flatten_append]
    have h1 := zD_iff.mp hDR
    have h2 := zD_iff.mp hD1
    refine zD_iff.mpr ⟨List.pairwise_append.mpr ⟨h1.1, h2.1, fun x hx z hz e => (apart x hx).2 (by rw [e]; exact h2.2 z hz)⟩, fun q hq => ?_⟩
    rcases List.mem_append.mp hq with h | h
    · exact h1.2 q h
    · exact hF _ (h2.2 q h)

theorem z_Vi (C : CallFix p m c cc nL s args zT own) (G : zS T A H0 s bs H locs) {post : Int32 → List va_W → Prop} (hM : zMi l T y bytes maxL ret d mc ms (.ref a :: As) bc post) (cw : CallW R s args own Cn index y bytes maxL ret (zW y bytes maxL ret) (zR d mc ms) mc ms n) (isC gs : List Nat) (hC : isC.map (fun i => bs[i]?) = bc.map some) (hR9 : zGp gs bs = br) {ci : Nat} {qc : vw_C} {fs : List Value} (hc : vwCl[ci]? = some qc) (hq : qc.1 = Cn) (hm : (a, .inr (ci, fs)) ∈ bc.flatten) (hn : As.length = n) (hst : st0 = As.reverse ++ .ref a :: rest) (hls : ls.size = nL) (hdg : decode cc pc = .ok (.invokevirtual index, 3)) (hf1 : cells + mc ≤ R.cells) (hf2 : slots + ms ≤ R.slots)
    (kk : ∀ (r : Int32) (b1 : List va_W) (H1 : Heap) (locs1 : List Loc), post r b1 → zS T A H0 s (br ++ b1) H1 locs1 → W p l e R s m args below meth c H1 locs1 (cells + mc) (slots + ms) Q (F0 m (pc + 3) ls (.int r :: rest)))
    (hW : (rest.map fun v => v.category).sum ≤ 8 := by exact Nat.le_of_ble_eq_true rfl) (hk9 : zCk isC gs = true := by decide +kernel) : W p l e R s m args below meth c H locs cells slots Q (F0 m pc ls st0) := by
  subst hst
  obtain ⟨hnC, hck⟩ := zCk_s hk9
  obtain ⟨isR, hnR, hR, hds⟩ := zGp_is bs gs
  rw [hR9] at hR
  have hdis : ∀ i ∈ isR, i ∉ isC := fun i h1 h2 => hds i h1 (hck i h2)
  subst hq
  refine va_calli (va_runV (As := As) (rest := rest) ⟨C.1, C.2.1, C.2.2.1, C.2.2.2.1, C.2.2.2.2⟩ (hM H.size) cw ⟨(z_pre G isC hC hnC (.ref a :: As)).1, z_recv G isC hC hc hm, (z_pre G isC hC hnC (.ref a :: As)).2⟩ rfl hn hls rfl (lv_room hW) hdg ⟨hf1, hf2⟩) G.2.2.2.1 (fun q _ h => z_freeF G isC hC hnC q h) (z_freeF G isC hC hnC) (fun r b1 t H1 locs1 ht hvm hp hB hz hk hS => ?_)
  obtain ⟨hP1, hK1, hD1⟩ := hB
  rw [ht] at hP1
  exact kk r b1 H1 locs1 hp (z_join G isC isR hC hR hnC hnR hdis hk hP1 hD1 hS)
theorem z_Vv (C : CallFix p m c cc nL s args zT own) (G : zS T A H0 s bs H locs) {post : List va_W → Prop} (hM : zMv l T y bytes maxL d mc ms (.ref a :: As) bc post) (cw : CallW R s args own Cn index y bytes maxL none (zW y bytes maxL none) (zR d mc ms) mc ms n) (isC gs : List Nat) (hC : isC.map (fun i => bs[i]?) = bc.map some) (hR9 : zGp gs bs = br) {ci : Nat} {qc : vw_C} {fs : List Value} (hc : vwCl[ci]? = some qc) (hq : qc.1 = Cn) (hm : (a, .inr (ci, fs)) ∈ bc.flatten) (hn : As.length = n) (hst : st0 = As.reverse ++ .ref a :: rest) (hls : ls.size = nL) (hdg : decode cc pc = .ok (.invokevirtual index, 3)) (hf1 : cells + mc ≤ R.cells) (hf2 : slots + ms ≤ R.slots)
    (kk : ∀ (b1 : List va_W) (H1 : Heap) (locs1 : List Loc), post  b1 → zS T A H0 s (br ++ b1) H1 locs1 → W p l e R s m args below meth c H1 locs1 (cells + mc) (slots + ms) Q (F0 m (pc + 3) ls (rest)))
    (hW : (rest.map fun v => v.category).sum ≤ 8 := by exact Nat.le_of_ble_eq_true rfl) (hk9 : zCk isC gs = true := by decide +kernel) : W p l e R s m args below meth c H locs cells slots Q (F0 m pc ls st0) := by
  subst hst
  obtain ⟨hnC, hck⟩ := zCk_s hk9
  obtain ⟨isR, hnR, hR, hds⟩ := zGp_is bs gs
  rw [hR9] at hR
  have hdis : ∀ i ∈ isR, i ∉ isC := fun i h1 h2 => hds i h1 (hck i h2)
  subst hq
  refine va_callv (va_runV (As := As) (rest := rest) ⟨C.1, C.2.1, C.2.2.1, C.2.2.2.1, C.2.2.2.2⟩ (hM H.size) cw ⟨(z_pre G isC hC hnC (.ref a :: As)).1, z_recv G isC hC hc hm, (z_pre G isC hC hnC (.ref a :: As)).2⟩ rfl hn hls rfl (lv_room hW) hdg ⟨hf1, hf2⟩) G.2.2.2.1 (fun q _ h => z_freeF G isC hC hnC q h) (z_freeF G isC hC hnC) (fun b1 t H1 locs1 ht hvm hp hB hz hk hS => ?_)
  obtain ⟨hP1, hK1, hD1⟩ := hB
  rw [ht] at hP1
  exact kk b1 H1 locs1 hp (z_join G isC isR hC hR hnC hnR hdis hk hP1 hD1 hS)
theorem z_Vq (C : CallFix p m c cc nL s args zT own) (G : zS T A H0 s bs H locs) {post : Option Nat → List va_W → Prop} (hM : zMq l T y bytes maxL ret d mc ms (.ref a :: As) bc post) (cw : CallW R s args own Cn index y bytes maxL ret (zW y bytes maxL ret) (zR d mc ms) mc ms n) (isC gs : List Nat) (hC : isC.map (fun i => bs[i]?) = bc.map some) (hR9 : zGp gs bs = br) {ci : Nat} {qc : vw_C} {fs : List Value} (hc : vwCl[ci]? = some qc) (hq : qc.1 = Cn) (hm : (a, .inr (ci, fs)) ∈ bc.flatten) (hn : As.length = n) (hst : st0 = As.reverse ++ .ref a :: rest) (hls : ls.size = nL) (hdg : decode cc pc = .ok (.invokevirtual index, 3)) (hf1 : cells + mc ≤ R.cells) (hf2 : slots + ms ≤ R.slots)
    (kk : ∀ (r : Option Nat) (b1 : List va_W) (H1 : Heap) (locs1 : List Loc), post r b1 → zS T A H0 s (br ++ b1) H1 locs1 → W p l e R s m args below meth c H1 locs1 (cells + mc) (slots + ms) Q (F0 m (pc + 3) ls (va_rf r :: rest)))
    (hW : (rest.map fun v => v.category).sum ≤ 8 := by exact Nat.le_of_ble_eq_true rfl) (hk9 : zCk isC gs = true := by decide +kernel) : W p l e R s m args below meth c H locs cells slots Q (F0 m pc ls st0) := by
  subst hst
  obtain ⟨hnC, hck⟩ := zCk_s hk9
  obtain ⟨isR, hnR, hR, hds⟩ := zGp_is bs gs
  rw [hR9] at hR
  have hdis : ∀ i ∈ isR, i ∉ isC := fun i h1 h2 => hds i h1 (hck i h2)
  subst hq
  refine va_callq (va_runV (As := As) (rest := rest) ⟨C.1, C.2.1, C.2.2.1, C.2.2.2.1, C.2.2.2.2⟩ (hM H.size) cw ⟨(z_pre G isC hC hnC (.ref a :: As)).1, z_recv G isC hC hc hm, (z_pre G isC hC hnC (.ref a :: As)).2⟩ rfl hn hls rfl (lv_room hW) hdg ⟨hf1, hf2⟩) G.2.2.2.1 (fun q _ h => z_freeF G isC hC hnC q h) (z_freeF G isC hC hnC) (fun r b1 t H1 locs1 ht hvm hp hB hz hk hS => ?_)
  obtain ⟨hP1, hK1, hD1⟩ := hB
  rw [ht] at hP1
  exact kk r b1 H1 locs1 hp (z_join G isC isR hC hR hnC hnR hdis hk hP1 hD1 hS)
theorem z_Ni (C : CallFix p m c cc nL s args zT own) (G : zS T A H0 s bs H locs) {post : Int32 → List va_W → Prop} (hM : zMi l T y bytes maxL ret d mc ms (.ref a :: As) bc post) (cw : va_CN R s args own index y host bytes maxL ret (zW y bytes maxL ret) (zR d mc ms) mc ms n ∧ (Cond.instanceMethod y).before args s = true ∧ (Cond.selects Cn y y).before args s = true) (isC gs : List Nat) (hC : isC.map (fun i => bs[i]?) = bc.map some) (hR9 : zGp gs bs = br) {ci : Nat} {qc : vw_C} {fs : List Value} (hc : vwCl[ci]? = some qc) (hq : qc.1 = Cn) (hm : (a, .inr (ci, fs)) ∈ bc.flatten) (hn : As.length = n) (hst : st0 = As.reverse ++ .ref a :: rest) (hls : ls.size = nL) (hdg : decode cc pc = .ok (.invokevirtual index, 3)) (hf1 : cells + mc ≤ R.cells) (hf2 : slots + ms ≤ R.slots)
    (kk : ∀ (r : Int32) (b1 : List va_W) (H1 : Heap) (locs1 : List Loc), post r b1 → zS T A H0 s (br ++ b1) H1 locs1 → W p l e R s m args below meth c H1 locs1 (cells + mc) (slots + ms) Q (F0 m (pc + 3) ls (.int r :: rest)))
    (hW : (rest.map fun v => v.category).sum ≤ 8 := by exact Nat.le_of_ble_eq_true rfl) (hk9 : zCk isC gs = true := by decide +kernel) : W p l e R s m args below meth c H locs cells slots Q (F0 m pc ls st0) := by
  subst hst
  obtain ⟨hnC, hck⟩ := zCk_s hk9
  obtain ⟨isR, hnR, hR, hds⟩ := zGp_is bs gs
  rw [hR9] at hR
  have hdis : ∀ i ∈ isR, i ∉ isC := fun i h1 h2 => hds i h1 (hck i h2)
  subst hq
  refine va_calli (va_runVN (As := As) (rest := rest) ⟨C.1, C.2.1, C.2.2.1, C.2.2.2.1, C.2.2.2.2⟩ (hM H.size) cw ⟨(z_pre G isC hC hnC (.ref a :: As)).1, z_recv G isC hC hc hm, (z_pre G isC hC hnC (.ref a :: As)).2⟩ rfl hn hls rfl (lv_room hW) hdg ⟨hf1, hf2⟩) G.2.2.2.1 (fun q _ h => z_freeF G isC hC hnC q h) (z_freeF G isC hC hnC) (fun r b1 t H1 locs1 ht hvm hp hB hz hk hS => ?_)
  obtain ⟨hP1, hK1, hD1⟩ := hB
  rw [ht] at hP1
  exact kk r b1 H1 locs1 hp (z_join G isC isR hC hR hnC hnR hdis hk hP1 hD1 hS)
theorem z_Nv (C : CallFix p m c cc nL s args zT own) (G : zS T A H0 s bs H locs) {post : List va_W → Prop} (hM : zMv l T y bytes maxL d mc ms (.ref a :: As) bc post) (cw : va_CN R s args own index y host bytes maxL none (zW y bytes maxL none) (zR d mc ms) mc ms n ∧ (Cond.instanceMethod y).before args s = true ∧ (Cond.selects Cn y y).before args s = true) (isC gs : List Nat) (hC : isC.map (fun i => bs[i]?) = bc.map some) (hR9 : zGp gs bs = br) {ci : Nat} {qc : vw_C} {fs : List Value} (hc : vwCl[ci]? = some qc) (hq : qc.1 = Cn) (hm : (a, .inr (ci, fs)) ∈ bc.flatten) (hn : As.length = n) (hst : st0 = As.reverse ++ .ref a :: rest) (hls : ls.size = nL) (hdg : decode cc pc = .ok (.invokevirtual index, 3)) (hf1 : cells + mc ≤ R.cells) (hf2 : slots + ms ≤ R.slots)
    (kk : ∀ (b1 : List va_W) (H1 : Heap) (locs1 : List Loc), post  b1 → zS T A H0 s (br ++ b1) H1 locs1 → W p l e R s m args below meth c H1 locs1 (cells + mc) (slots + ms) Q (F0 m (pc + 3) ls (rest)))
    (hW : (rest.map fun v => v.category).sum ≤ 8 := by exact Nat.le_of_ble_eq_true rfl) (hk9 : zCk isC gs = true := by decide +kernel) : W p l e R s m args below meth c H locs cells slots Q (F0 m pc ls st0) := by
  subst hst
  obtain ⟨hnC, hck⟩ := zCk_s hk9
  obtain ⟨isR, hnR, hR, hds⟩ := zGp_is bs gs
  rw [hR9] at hR
  have hdis : ∀ i ∈ isR, i ∉ isC := fun i h1 h2 => hds i h1 (hck i h2)
  subst hq
  refine va_callv (va_runVN (As := As) (rest := rest) ⟨C.1, C.2.1, C.2.2.1, C.2.2.2.1, C.2.2.2.2⟩ (hM H.size) cw ⟨(z_pre G isC hC hnC (.ref a :: As)).1, z_recv G isC hC hc hm, (z_pre G isC hC hnC (.ref a :: As)).2⟩ rfl hn hls rfl (lv_room hW) hdg ⟨hf1, hf2⟩) G.2.2.2.1 (fun q _ h => z_freeF G isC hC hnC q h) (z_freeF G isC hC hnC) (fun b1 t H1 locs1 ht hvm hp hB hz hk hS => ?_)
  obtain ⟨hP1, hK1, hD1⟩ := hB
  rw [ht] at hP1
  exact kk b1 H1 locs1 hp (z_join G isC isR hC hR hnC hnR hdis hk hP1 hD1 hS)
theorem z_Nq (C : CallFix p m c cc nL s args zT own) (G : zS T A H0 s bs H locs) {post : Option Nat → List va_W → Prop} (hM : zMq l T y bytes maxL ret d mc ms (.ref a :: As) bc post) (cw : va_CN R s args own index y host bytes maxL ret (zW y bytes maxL ret) (zR d mc ms) mc ms n ∧ (Cond.instanceMethod y).before args s = true ∧ (Cond.selects Cn y y).before args s = true) (isC gs : List Nat) (hC : isC.map (fun i => bs[i]?) = bc.map some) (hR9 : zGp gs bs = br) {ci : Nat} {qc : vw_C} {fs : List Value} (hc : vwCl[ci]? = some qc) (hq : qc.1 = Cn) (hm : (a, .inr (ci, fs)) ∈ bc.flatten) (hn : As.length = n) (hst : st0 = As.reverse ++ .ref a :: rest) (hls : ls.size = nL) (hdg : decode cc pc = .ok (.invokevirtual index, 3)) (hf1 : cells + mc ≤ R.cells) (hf2 : slots + ms ≤ R.slots)
    (kk : ∀ (r : Option Nat) (b1 : List va_W) (H1 : Heap) (locs1 : List Loc), post r b1 → zS T A H0 s (br ++ b1) H1 locs1 → W p l e R s m args below meth c H1 locs1 (cells + mc) (slots + ms) Q (F0 m (pc + 3) ls (va_rf r :: rest)))
    (hW : (rest.map fun v => v.category).sum ≤ 8 := by exact Nat.le_of_ble_eq_true rfl) (hk9 : zCk isC gs = true := by decide +kernel) : W p l e R s m args below meth c H locs cells slots Q (F0 m pc ls st0) := by
  subst hst
  obtain ⟨hnC, hck⟩ := zCk_s hk9
  obtain ⟨isR, hnR, hR, hds⟩ := zGp_is bs gs
  rw [hR9] at hR
  have hdis : ∀ i ∈ isR, i ∉ isC := fun i h1 h2 => hds i h1 (hck i h2)
  subst hq
  refine va_callq (va_runVN (As := As) (rest := rest) ⟨C.1, C.2.1, C.2.2.1, C.2.2.2.1, C.2.2.2.2⟩ (hM H.size) cw ⟨(z_pre G isC hC hnC (.ref a :: As)).1, z_recv G isC hC hc hm, (z_pre G isC hC hnC (.ref a :: As)).2⟩ rfl hn hls rfl (lv_room hW) hdg ⟨hf1, hf2⟩) G.2.2.2.1 (fun q _ h => z_freeF G isC hC hnC q h) (z_freeF G isC hC hnC) (fun r b1 t H1 locs1 ht hvm hp hB hz hk hS => ?_)
  obtain ⟨hP1, hK1, hD1⟩ := hB
  rw [ht] at hP1
  exact kk r b1 H1 locs1 hp (z_join G isC isR hC hR hnC hnR hdis hk hP1 hD1 hS)
theorem z_Si (C : CallFix p m c cc nL s args zT own) (G : zS T A H0 s bs H locs) {post : Int32 → List va_W → Prop} (hM : zMi l T y bytes maxL ret d mc ms As bc post) (cw : CallB R s args own index y bytes maxL ret (zW y bytes maxL ret) (zR d mc ms) mc ms n ∧ (Cond.static y).before args s = true) (isC gs : List Nat) (hC : isC.map (fun i => bs[i]?) = bc.map some) (hR9 : zGp gs bs = br) (hn : As.length = n) (hst : st0 = As.reverse ++ rest) (hls : ls.size = nL) (hdg : decode cc pc = .ok (.invokestatic index, 3)) (hf1 : cells + mc ≤ R.cells) (hf2 : slots + ms ≤ R.slots)
    (kk : ∀ (r : Int32) (b1 : List va_W) (H1 : Heap) (locs1 : List Loc), post r b1 → zS T A H0 s (br ++ b1) H1 locs1 → W p l e R s m args below meth c H1 locs1 (cells + mc) (slots + ms) Q (F0 m (pc + 3) ls (.int r :: rest)))
    (hW : (rest.map fun v => v.category).sum ≤ 8 := by exact Nat.le_of_ble_eq_true rfl) (hk9 : zCk isC gs = true := by decide +kernel) : W p l e R s m args below meth c H locs cells slots Q (F0 m pc ls st0) := by
  subst hst
  obtain ⟨hnC, hck⟩ := zCk_s hk9
  obtain ⟨isR, hnR, hR, hds⟩ := zGp_is bs gs
  rw [hR9] at hR
  have hdis : ∀ i ∈ isR, i ∉ isC := fun i h1 h2 => hds i h1 (hck i h2)
  refine va_calli (va_runS (As := As) (rest := rest) ⟨C.1, C.2.1, C.2.2.1, C.2.2.2.1, C.2.2.2.2⟩ (hM H.size) cw (z_pre G isC hC hnC As) rfl hn hls rfl (lv_room hW) hdg ⟨hf1, hf2⟩) G.2.2.2.1 (fun q _ h => z_freeF G isC hC hnC q h) (z_freeF G isC hC hnC) (fun r b1 t H1 locs1 ht hvm hp hB hz hk hS => ?_)
  obtain ⟨hP1, hK1, hD1⟩ := hB
  rw [ht] at hP1
  exact kk r b1 H1 locs1 hp (z_join G isC isR hC hR hnC hnR hdis hk hP1 hD1 hS)
theorem z_Sv (C : CallFix p m c cc nL s args zT own) (G : zS T A H0 s bs H locs) {post : List va_W → Prop} (hM : zMv l T y bytes maxL d mc ms As bc post) (cw : CallB R s args own index y bytes maxL none (zW y bytes maxL none) (zR d mc ms) mc ms n ∧ (Cond.static y).before args s = true) (isC gs : List Nat) (hC : isC.map (fun i => bs[i]?) = bc.map some) (hR9 : zGp gs bs = br) (hn : As.length = n) (hst : st0 = As.reverse ++ rest) (hls : ls.size = nL) (hdg : decode cc pc = .ok (.invokestatic index, 3)) (hf1 : cells + mc ≤ R.cells) (hf2 : slots + ms ≤ R.slots)
    (kk : ∀ (b1 : List va_W) (H1 : Heap) (locs1 : List Loc), post  b1 → zS T A H0 s (br ++ b1) H1 locs1 → W p l e R s m args below meth c H1 locs1 (cells + mc) (slots + ms) Q (F0 m (pc + 3) ls (rest)))
    (hW : (rest.map fun v => v.category).sum ≤ 8 := by exact Nat.le_of_ble_eq_true rfl) (hk9 : zCk isC gs = true := by decide +kernel) : W p l e R s m args below meth c H locs cells slots Q (F0 m pc ls st0) := by
  subst hst
  obtain ⟨hnC, hck⟩ := zCk_s hk9
  obtain ⟨isR, hnR, hR, hds⟩ := zGp_is bs gs
  rw [hR9] at hR
  have hdis : ∀ i ∈ isR, i ∉ isC := fun i h1 h2 => hds i h1 (hck i h2)
  refine va_callv (va_runS (As := As) (rest := rest) ⟨C.1, C.2.1, C.2.2.1, C.2.2.2.1, C.2.2.2.2⟩ (hM H.size) cw (z_pre G isC hC hnC As) rfl hn hls rfl (lv_room hW) hdg ⟨hf1, hf2⟩) G.2.2.2.1 (fun q _ h => z_freeF G isC hC hnC q h) (z_freeF G isC hC hnC) (fun b1 t H1 locs1 ht hvm hp hB hz hk hS => ?_)
  obtain ⟨hP1, hK1, hD1⟩ := hB
  rw [ht] at hP1
  exact kk b1 H1 locs1 hp (z_join G isC isR hC hR hnC hnR hdis hk hP1 hD1 hS)
theorem z_Sq (C : CallFix p m c cc nL s args zT own) (G : zS T A H0 s bs H locs) {post : Option Nat → List va_W → Prop} (hM : zMq l T y bytes maxL ret d mc ms As bc post) (cw : CallB R s args own index y bytes maxL ret (zW y bytes maxL ret) (zR d mc ms) mc ms n ∧ (Cond.static y).before args s = true) (isC gs : List Nat) (hC : isC.map (fun i => bs[i]?) = bc.map some) (hR9 : zGp gs bs = br) (hn : As.length = n) (hst : st0 = As.reverse ++ rest) (hls : ls.size = nL) (hdg : decode cc pc = .ok (.invokestatic index, 3)) (hf1 : cells + mc ≤ R.cells) (hf2 : slots + ms ≤ R.slots)
    (kk : ∀ (r : Option Nat) (b1 : List va_W) (H1 : Heap) (locs1 : List Loc), post r b1 → zS T A H0 s (br ++ b1) H1 locs1 → W p l e R s m args below meth c H1 locs1 (cells + mc) (slots + ms) Q (F0 m (pc + 3) ls (va_rf r :: rest)))
    (hW : (rest.map fun v => v.category).sum ≤ 8 := by exact Nat.le_of_ble_eq_true rfl) (hk9 : zCk isC gs = true := by decide +kernel) : W p l e R s m args below meth c H locs cells slots Q (F0 m pc ls st0) := by
  subst hst
  obtain ⟨hnC, hck⟩ := zCk_s hk9
  obtain ⟨isR, hnR, hR, hds⟩ := zGp_is bs gs
  rw [hR9] at hR
  have hdis : ∀ i ∈ isR, i ∉ isC := fun i h1 h2 => hds i h1 (hck i h2)
  refine va_callq (va_runS (As := As) (rest := rest) ⟨C.1, C.2.1, C.2.2.1, C.2.2.2.1, C.2.2.2.2⟩ (hM H.size) cw (z_pre G isC hC hnC As) rfl hn hls rfl (lv_room hW) hdg ⟨hf1, hf2⟩) G.2.2.2.1 (fun q _ h => z_freeF G isC hC hnC q h) (z_freeF G isC hC hnC) (fun r b1 t H1 locs1 ht hvm hp hB hz hk hS => ?_)
  obtain ⟨hP1, hK1, hD1⟩ := hB
  rw [ht] at hP1
  exact kk r b1 H1 locs1 hp (z_join G isC isR hC hR hnC hnR hdis hk hP1 hD1 hS)
theorem z_Wi (C : CallFix p m c cc nL s args zT own) (G : zS T A H0 s bs H locs) {post : Int32 → List va_W → Prop} (hM : zMi l T y bytes maxL ret d mc ms (.ref a :: As) bc post) (cw : CallW R s args own Cn index y bytes maxL ret (zW y bytes maxL ret) (zR d mc ms) mc ms n) (isC gs : List Nat) (hC : isC.map (fun i => bs[i]?) = bc.map some) (hR9 : zGp gs bs = br) (hr : ∃ cell : Cell, H[a]? = some cell ∧ cell.vm.isStatics = false ∧ s.vm.findClass Cn = some cell.cls) (hn : As.length = n) (hst : st0 = As.reverse ++ .ref a :: rest) (hls : ls.size = nL) (hdg : decode cc pc = .ok (.invokevirtual index, 3)) (hf1 : cells + mc ≤ R.cells) (hf2 : slots + ms ≤ R.slots)
    (kk : ∀ (r : Int32) (b1 : List va_W) (H1 : Heap) (locs1 : List Loc), post r b1 → zS T A H0 s (br ++ b1) H1 locs1 → W p l e R s m args below meth c H1 locs1 (cells + mc) (slots + ms) Q (F0 m (pc + 3) ls (.int r :: rest)))
    (hW : (rest.map fun v => v.category).sum ≤ 8 := by exact Nat.le_of_ble_eq_true rfl) (hk9 : zCk isC gs = true := by decide +kernel) : W p l e R s m args below meth c H locs cells slots Q (F0 m pc ls st0) := by
  subst hst
  obtain ⟨hnC, hck⟩ := zCk_s hk9
  obtain ⟨isR, hnR, hR, hds⟩ := zGp_is bs gs
  rw [hR9] at hR
  have hdis : ∀ i ∈ isR, i ∉ isC := fun i h1 h2 => hds i h1 (hck i h2)
  refine va_calli (va_runV (As := As) (rest := rest) ⟨C.1, C.2.1, C.2.2.1, C.2.2.2.1, C.2.2.2.2⟩ (hM H.size) cw ⟨(z_pre G isC hC hnC (.ref a :: As)).1, hr, (z_pre G isC hC hnC (.ref a :: As)).2⟩ rfl hn hls rfl (lv_room hW) hdg ⟨hf1, hf2⟩) G.2.2.2.1 (fun q _ h => z_freeF G isC hC hnC q h) (z_freeF G isC hC hnC) (fun r b1 t H1 locs1 ht hvm hp hB hz hk hS => ?_)
  obtain ⟨hP1, hK1, hD1⟩ := hB
  rw [ht] at hP1
  exact kk r b1 H1 locs1 hp (z_join G isC isR hC hR hnC hnR hdis hk hP1 hD1 hS)
theorem z_Wv (C : CallFix p m c cc nL s args zT own) (G : zS T A H0 s bs H locs) {post : List va_W → Prop} (hM : zMv l T y bytes maxL d mc ms (.ref a :: As) bc post) (cw : CallW R s args own Cn index y bytes maxL none (zW y bytes maxL none) (zR d mc ms) mc ms n) (isC gs : List Nat) (hC : isC.map (fun i => bs[i]?) = bc.map some) (hR9 : zGp gs bs = br) (hr : ∃ cell : Cell, H[a]? = some cell ∧ cell.vm.isStatics = false ∧ s.vm.findClass Cn = some cell.cls) (hn : As.length = n) (hst : st0 = As.reverse ++ .ref a :: rest) (hls : ls.size = nL) (hdg : decode cc pc = .ok (.invokevirtual index, 3)) (hf1 : cells + mc ≤ R.cells) (hf2 : slots + ms ≤ R.slots)
    (kk : ∀ (b1 : List va_W) (H1 : Heap) (locs1 : List Loc), post  b1 → zS T A H0 s (br ++ b1) H1 locs1 → W p l e R s m args below meth c H1 locs1 (cells + mc) (slots + ms) Q (F0 m (pc + 3) ls (rest)))
    (hW : (rest.map fun v => v.category).sum ≤ 8 := by exact Nat.le_of_ble_eq_true rfl) (hk9 : zCk isC gs = true := by decide +kernel) : W p l e R s m args below meth c H locs cells slots Q (F0 m pc ls st0) := by
  subst hst
  obtain ⟨hnC, hck⟩ := zCk_s hk9
  obtain ⟨isR, hnR, hR, hds⟩ := zGp_is bs gs
  rw [hR9] at hR
  have hdis : ∀ i ∈ isR, i ∉ isC := fun i h1 h2 => hds i h1 (hck i h2)
  refine va_callv (va_runV (As := As) (rest := rest) ⟨C.1, C.2.1, C.2.2.1, C.2.2.2.1, C.2.2.2.2⟩ (hM H.size) cw ⟨(z_pre G isC hC hnC (.ref a :: As)).1, hr, (z_pre G isC hC hnC (.ref a :: As)).2⟩ rfl hn hls rfl (lv_room hW) hdg ⟨hf1, hf2⟩) G.2.2.2.1 (fun q _ h => z_freeF G isC hC hnC q h) (z_freeF G isC hC hnC) (fun b1 t H1 locs1 ht hvm hp hB hz hk hS => ?_)
  obtain ⟨hP1, hK1, hD1⟩ := hB
  rw [ht] at hP1
  exact kk b1 H1 locs1 hp (z_join G isC isR hC hR hnC hnR hdis hk hP1 hD1 hS)
theorem z_Wq (C : CallFix p m c cc nL s args zT own) (G : zS T A H0 s bs H locs) {post : Option Nat → List va_W → Prop} (hM : zMq l T y bytes maxL ret d mc ms (.ref a :: As) bc post) (cw : CallW R s args own Cn index y bytes maxL ret (zW y bytes maxL ret) (zR d mc ms) mc ms n) (isC gs : List Nat) (hC : isC.map (fun i => bs[i]?) = bc.map some) (hR9 : zGp gs bs = br) (hr : ∃ cell : Cell, H[a]? = some cell ∧ cell.vm.isStatics = false ∧ s.vm.findClass Cn = some cell.cls) (hn : As.length = n) (hst : st0 = As.reverse ++ .ref a :: rest) (hls : ls.size = nL) (hdg : decode cc pc = .ok (.invokevirtual index, 3)) (hf1 : cells + mc ≤ R.cells) (hf2 : slots + ms ≤ R.slots)
    (kk : ∀ (r : Option Nat) (b1 : List va_W) (H1 : Heap) (locs1 : List Loc), post r b1 → zS T A H0 s (br ++ b1) H1 locs1 → W p l e R s m args below meth c H1 locs1 (cells + mc) (slots + ms) Q (F0 m (pc + 3) ls (va_rf r :: rest)))
    (hW : (rest.map fun v => v.category).sum ≤ 8 := by exact Nat.le_of_ble_eq_true rfl) (hk9 : zCk isC gs = true := by decide +kernel) : W p l e R s m args below meth c H locs cells slots Q (F0 m pc ls st0) := by
  subst hst
  obtain ⟨hnC, hck⟩ := zCk_s hk9
  obtain ⟨isR, hnR, hR, hds⟩ := zGp_is bs gs
  rw [hR9] at hR
  have hdis : ∀ i ∈ isR, i ∉ isC := fun i h1 h2 => hds i h1 (hck i h2)
  refine va_callq (va_runV (As := As) (rest := rest) ⟨C.1, C.2.1, C.2.2.1, C.2.2.2.1, C.2.2.2.2⟩ (hM H.size) cw ⟨(z_pre G isC hC hnC (.ref a :: As)).1, hr, (z_pre G isC hC hnC (.ref a :: As)).2⟩ rfl hn hls rfl (lv_room hW) hdg ⟨hf1, hf2⟩) G.2.2.2.1 (fun q _ h => z_freeF G isC hC hnC q h) (z_freeF G isC hC hnC) (fun r b1 t H1 locs1 ht hvm hp hB hz hk hS => ?_)
  obtain ⟨hP1, hK1, hD1⟩ := hB
  rw [ht] at hP1
  exact kk r b1 H1 locs1 hp (z_join G isC isR hC hR hnC hnR hdis hk hP1 hD1 hS)
theorem z_Iv (C : CallFix p m c cc nL s args zT own) (G : zS T A H0 s bs H locs) {post : List va_W → Prop} (hM : zMv l T y bytes maxL d mc ms (.ref a :: As) bc post) (cw : CallB R s args own index y bytes maxL none (zW y bytes maxL none) (zR d mc ms) mc ms n ∧ y.name = "<init>" ∧ (Cond.instanceMethod y).before args s = true) (isC gs : List Nat) (hC : isC.map (fun i => bs[i]?) = bc.map some) (hR9 : zGp gs bs = br) (hn : As.length = n) (hst : st0 = As.reverse ++ .ref a :: rest) (hls : ls.size = nL) (hdg : decode cc pc = .ok (.invokespecial index, 3)) (hf1 : cells + mc ≤ R.cells) (hf2 : slots + ms ≤ R.slots)
    (kk : ∀ (b1 : List va_W) (H1 : Heap) (locs1 : List Loc), post  b1 → zS T A H0 s (br ++ b1) H1 locs1 → W p l e R s m args below meth c H1 locs1 (cells + mc) (slots + ms) Q (F0 m (pc + 3) ls (rest)))
    (hW : (rest.map fun v => v.category).sum ≤ 8 := by exact Nat.le_of_ble_eq_true rfl) (hk9 : zCk isC gs = true := by decide +kernel) : W p l e R s m args below meth c H locs cells slots Q (F0 m pc ls st0) := by
  subst hst
  obtain ⟨hnC, hck⟩ := zCk_s hk9
  obtain ⟨isR, hnR, hR, hds⟩ := zGp_is bs gs
  rw [hR9] at hR
  have hdis : ∀ i ∈ isR, i ∉ isC := fun i h1 h2 => hds i h1 (hck i h2)
  refine va_callv (va_runI (As := As) (rest := rest) ⟨C.1, C.2.1, C.2.2.1, C.2.2.2.1, C.2.2.2.2⟩ (hM H.size) cw (z_pre G isC hC hnC (.ref a :: As)) rfl hn hls rfl (lv_room hW) hdg ⟨hf1, hf2⟩) G.2.2.2.1 (fun q _ h => z_freeF G isC hC hnC q h) (z_freeF G isC hC hnC) (fun b1 t H1 locs1 ht hvm hp hB hz hk hS => ?_)
  obtain ⟨hP1, hK1, hD1⟩ := hB
  rw [ht] at hP1
  exact kk b1 H1 locs1 hp (z_join G isC isR hC hR hnC hnR hdis hk hP1 hD1 hS)
theorem z_Jv (C : CallFix p m c cc nL s args zT own) (G : zS T A H0 s bs H locs) {post : List va_W → Prop} (hM : zMv l T y bytes maxL d mc ms (.ref a :: As) bc post) (cw : va_CN R s args own index y host bytes maxL none (zW y bytes maxL none) (zR d mc ms) mc ms n ∧ y.name = "<init>" ∧ (Cond.instanceMethod y).before args s = true) (isC gs : List Nat) (hC : isC.map (fun i => bs[i]?) = bc.map some) (hR9 : zGp gs bs = br) (hn : As.length = n) (hst : st0 = As.reverse ++ .ref a :: rest) (hls : ls.size = nL) (hdg : decode cc pc = .ok (.invokespecial index, 3)) (hf1 : cells + mc ≤ R.cells) (hf2 : slots + ms ≤ R.slots)
    (kk : ∀ (b1 : List va_W) (H1 : Heap) (locs1 : List Loc), post  b1 → zS T A H0 s (br ++ b1) H1 locs1 → W p l e R s m args below meth c H1 locs1 (cells + mc) (slots + ms) Q (F0 m (pc + 3) ls (rest)))
    (hW : (rest.map fun v => v.category).sum ≤ 8 := by exact Nat.le_of_ble_eq_true rfl) (hk9 : zCk isC gs = true := by decide +kernel) : W p l e R s m args below meth c H locs cells slots Q (F0 m pc ls st0) := by
  subst hst
  obtain ⟨hnC, hck⟩ := zCk_s hk9
  obtain ⟨isR, hnR, hR, hds⟩ := zGp_is bs gs
  rw [hR9] at hR
  have hdis : ∀ i ∈ isR, i ∉ isC := fun i h1 h2 => hds i h1 (hck i h2)
  refine va_callv (va_runIN (As := As) (rest := rest) ⟨C.1, C.2.1, C.2.2.1, C.2.2.2.1, C.2.2.2.2⟩ (hM H.size) cw (z_pre G isC hC hnC (.ref a :: As)) rfl hn hls rfl (lv_room hW) hdg ⟨hf1, hf2⟩) G.2.2.2.1 (fun q _ h => z_freeF G isC hC hnC q h) (z_freeF G isC hC hnC) (fun b1 t H1 locs1 ht hvm hp hB hz hk hS => ?_)
  obtain ⟨hP1, hK1, hD1⟩ := hB
  rw [ht] at hP1
  exact kk b1 H1 locs1 hp (z_join G isC isR hC hR hnC hnR hdis hk hP1 hD1 hS)
end ZC
section ZG
theorem zgood : zT.all goodWord = true := List.all_eq_true.mpr (fun w h => (List.mem_filter.mp h).2)
theorem goodIn_app {big a b : List Cond} (ha : GoodIn big a) (hb : GoodIn big b) : GoodIn big (a ++ b) := fun w h => (List.mem_append.mp h).elim (ha w) (hb w)
theorem zIn {y : MethodName} {b : ByteArray} {n : Nat} {ret : Option FieldType} (hc : Cond.code y b n ret ∈ zT) : GoodIn zT (zW y b n ret) := by
  intro w hw
  have hm : w ∈ zT := by
    rcases List.mem_cons.mp hw with h | h
    · rw [h]; exact hc
    · exact h
  exact ⟨hm, good_of_word (List.all_eq_true.mp zgood w hm)⟩
theorem zIns {ws : List Cond} (h : ∀ w ∈ ws, w ∈ zT) : GoodIn zT ws := fun w hw => ⟨h w hw, good_of_word (List.all_eq_true.mp zgood w (h w hw))⟩
variable {R : Room} {s : State} {args : Array Value} {own host : String} {index n maxL d mc ms : Nat} {y : MethodName} {b : ByteArray} {ret : Option FieldType}
theorem z_cwV (hts : ∀ w ∈ zT, w.before args s = true) (hc : Cond.code y b maxL ret ∈ zT) (hl : Cond.methodLink own index y ∈ zT) (hi : Cond.instanceMethod y ∈ zT) (hs : Cond.selects y.cls y y ∈ zT) (hini : Cond.initialized y.cls ∈ zT) (hd : y.cls ≠ "java/lang/invoke/MethodHandle" ∧ y.cls ≠ "java/lang/invoke/VarHandle" ∧ (parseMethodDescriptor y.desc).map (fun d => d.parameters.length) = some n) (h1 : d + 1 ≤ R.frames) (h2 : 8 + (maxL + 11) + 40 * d ≤ R.locals) : CallW R s args own y.cls index y b maxL ret (zW y b maxL ret) (zR d mc ms) mc ms n :=
  cwV n hts (goodIn_app (zIns (by intro w hw; simp only [List.mem_cons, List.not_mem_nil, or_false] at hw; rcases hw with rfl | rfl | rfl | rfl <;> assumption)) (zIn hc)) rfl rfl rfl ⟨rfl, hd⟩ ⟨h1, h2⟩
theorem z_cwS (hts : ∀ w ∈ zT, w.before args s = true) (hc : Cond.code y b maxL ret ∈ zT) (hl : Cond.methodLink own index y ∈ zT) (hi : Cond.static y ∈ zT) (hini : Cond.initialized y.cls ∈ zT) (hd : y.cls ≠ "java/lang/invoke/MethodHandle" ∧ y.cls ≠ "java/lang/invoke/VarHandle" ∧ (parseMethodDescriptor y.desc).map (fun d => d.parameters.length) = some n) (h1 : d + 1 ≤ R.frames) (h2 : 8 + (maxL + 11) + 40 * d ≤ R.locals) : CallB R s args own index y b maxL ret (zW y b maxL ret) (zR d mc ms) mc ms n ∧ (Cond.static y).before args s = true :=
  va_cwS n hts (goodIn_app (zIns (by intro w hw; simp only [List.mem_cons, List.not_mem_nil, or_false] at hw; rcases hw with rfl | rfl | rfl <;> assumption)) (zIn hc)) rfl rfl rfl hd ⟨h1, h2⟩
theorem z_cwI (hts : ∀ w ∈ zT, w.before args s = true) (hc : Cond.code y b maxL none ∈ zT) (hl : Cond.methodLink own index y ∈ zT) (hi : Cond.instanceMethod y ∈ zT) (hini : Cond.initialized y.cls ∈ zT) (hnm : y.name = "<init>") (hd : y.cls ≠ "java/lang/invoke/MethodHandle" ∧ y.cls ≠ "java/lang/invoke/VarHandle" ∧ (parseMethodDescriptor y.desc).map (fun d => d.parameters.length) = some n) (h1 : d + 1 ≤ R.frames) (h2 : 8 + (maxL + 11) + 40 * d ≤ R.locals) : CallB R s args own index y b maxL none (zW y b maxL none) (zR d mc ms) mc ms n ∧ y.name = "<init>" ∧ (Cond.instanceMethod y).before args s = true :=
  cwI n hts (zIn hc) rfl rfl rfl (hts _ hini) (hts _ hl) (hts _ hi) hnm hd ⟨h1, h2⟩
theorem z_cwJ (hts : ∀ w ∈ zT, w.before args s = true) (hc : Cond.code y b maxL none ∈ zT) (hl : va_Nw (.methodLinkNest own index y host) s) (hi : Cond.instanceMethod y ∈ zT) (hini : Cond.initialized y.cls ∈ zT) (hnm : y.name = "<init>") (hd : y.cls ≠ "java/lang/invoke/MethodHandle" ∧ y.cls ≠ "java/lang/invoke/VarHandle" ∧ (parseMethodDescriptor y.desc).map (fun d => d.parameters.length) = some n) (h1 : d + 1 ≤ R.frames) (h2 : 8 + (maxL + 11) + 40 * d ≤ R.locals) : va_CN R s args own index y host b maxL none (zW y b maxL none) (zR d mc ms) mc ms n ∧ y.name = "<init>" ∧ (Cond.instanceMethod y).before args s = true :=
  ⟨va_cnB n hts (zIn hc) rfl rfl rfl hl (hts _ hini) hd ⟨h1, h2⟩, hnm, hts _ hi⟩
end ZG
section ZE
variable {p : Program} {l : Launch} {e : Env} {s : State} {m : MethodId} {args : Array Value} {below : List Frame} {meth : Method} {c : Code} {H : Heap} {locs : List Loc} {cells slots mc ms : Nat} {R : Room}
variable {cc : ByteArray} {nL pc : Nat} {ls : Array Slot} {T : zTy} {A : Nat → Prop} {bs : List va_W} {own : String}
theorem z_iret {post : Int32 → List va_W → Prop} {v : Int32} (C : CallFix p m c cc nL s args zT own) (hr : meth.sig.returnType = some .int) (hlocks : meth.locks = false) (G : zS T A s.heap s bs H locs) (h1 : cells ≤ mc) (h2 : slots ≤ ms) (hdg : decode cc pc = .ok (.ireturn, 1)) (hp : post v bs) : W p l e R s m args below meth c H locs cells slots (MQ below (va_Qi post (zB T A) A) args s mc ms A) (F0 m pc ls [.int v]) :=
  W.widen h1 h2 (W.iret C.1 C.2.1 hr (fun t ht hW => ⟨⟨v, bs, rfl, hp, by rw [ht]; exact G.2.1, va_K.moved hW.alike G.1, G.2.2.1⟩, G.2.2.2.1.F ht⟩) G.2.2.2.1.2.2 hdg hlocks)
theorem z_zret {ty : FieldType} {post : Int32 → List va_W → Prop} {v : Int32} (C : CallFix p m c cc nL s args zT own) (hr : meth.sig.returnType = some ty) (hlocks : meth.locks = false) (G : zS T A s.heap s bs H locs) (h1 : cells ≤ mc) (h2 : slots ≤ ms) (hdg : decode cc pc = .ok (.ireturn, 1)) (hn : narrow ty (.int v) = .int v) (hp : post v bs) : W p l e R s m args below meth c H locs cells slots (MQ below (va_Qi post (zB T A) A) args s mc ms A) (F0 m pc ls [.int v]) :=
  W.widen h1 h2 (W.zret C.1 C.2.1 hr hn (fun t ht hW => ⟨⟨v, bs, rfl, hp, by rw [ht]; exact G.2.1, va_K.moved hW.alike G.1, G.2.2.1⟩, G.2.2.2.1.F ht⟩) G.2.2.2.1.2.2 hdg hlocks)
theorem z_vret {post : List va_W → Prop} (C : CallFix p m c cc nL s args zT own) (hr : meth.sig.returnType = none) (hlocks : meth.locks = false) (G : zS T A s.heap s bs H locs) (h1 : cells ≤ mc) (h2 : slots ≤ ms) (hdg : decode cc pc = .ok (.return_, 1)) (hp : post bs) : W p l e R s m args below meth c H locs cells slots (MQ below (va_Qv post (zB T A) A) args s mc ms A) (F0 m pc ls []) :=
  W.widen h1 h2 (W.vret C.1 C.2.1 hr (fun t ht hW => ⟨⟨bs, rfl, hp, by rw [ht]; exact G.2.1, va_K.moved hW.alike G.1, G.2.2.1⟩, G.2.2.2.1.F ht⟩) G.2.2.2.1.2.2 hdg hlocks)
theorem z_aret {post : Option Nat → List va_W → Prop} {r : Option Nat} {rt : FieldType} (C : CallFix p m c cc nL s args zT own) (hr : meth.sig.returnType = some rt) (hrt : (∃ n, rt = .object n) ∨ ∃ t, rt = .array t) (hlocks : meth.locks = false) (G : zS T A s.heap s bs H locs) (h1 : cells ≤ mc) (h2 : slots ≤ ms) (hdg : decode cc pc = .ok (.areturn, 1)) (hp : post r bs) : W p l e R s m args below meth c H locs cells slots (MQ below (va_Qq post (zB T A) A) args s mc ms A) (F0 m pc ls [va_rf r]) :=
  W.widen h1 h2 (W.aret C.1 C.2.1 hr hrt (va_rf_or r) (fun t ht hW => ⟨⟨r, bs, rfl, hp, by rw [ht]; exact G.2.1, va_K.moved hW.alike G.1, G.2.2.1⟩, G.2.2.2.1.F ht⟩) G.2.2.2.1.2.2 hdg hlocks)
theorem zMi_of {y : MethodName} {b : ByteArray} {n : Nat} {ret : Option FieldType} {d : Nat} {av : List Value} {post : Int32 → List va_W → Prop} (hy : plainName y.cls = true) (ho : y.cls = own) (hlen : (lg_sl av).length ≤ n) (k : zBody l T y own b n ret d mc ms av bs (fun A => va_Qi post (zB T A) A)) : zMi l T y b n ret d mc ms av bs post := z_body (Qc := fun A => va_Qi post (zB T A) A) hy ho hlen k
theorem zMv_of {y : MethodName} {b : ByteArray} {n : Nat} {d : Nat} {av : List Value} {post : List va_W → Prop} (hy : plainName y.cls = true) (ho : y.cls = own) (hlen : (lg_sl av).length ≤ n) (k : zBody l T y own b n none d mc ms av bs (fun A => va_Qv post (zB T A) A)) : zMv l T y b n d mc ms av bs post := z_body (Qc := fun A => va_Qv post (zB T A) A) hy ho hlen k
theorem zMq_of {y : MethodName} {b : ByteArray} {n : Nat} {ret : Option FieldType} {d : Nat} {av : List Value} {post : Option Nat → List va_W → Prop} (hy : plainName y.cls = true) (ho : y.cls = own) (hlen : (lg_sl av).length ≤ n) (k : zBody l T y own b n ret d mc ms av bs (fun A => va_Qq post (zB T A) A)) : zMq l T y b n ret d mc ms av bs post := z_body (Qc := fun A => va_Qq post (zB T A) A) hy ho hlen k
end ZE
section ZL
variable {p : Program} {l : Launch} {e : Env} {R : Room} {s : State} {m : MethodId} {args : Array Value} {below : List Frame} {meth : Method} {c : Code} {cells slots : Nat} {Q : State → Prop}
variable {nL : Nat} {T : zTy} {A : Nat → Prop} {H0 : Heap}
theorem z_loop {α : Type} (pc : Nat) (Wd : α → List va_W) (Lv : α → List (Nat × Value)) (Inv : α → Prop) (mu : α → Nat)
    (step : ∀ a : α, Inv a → (∀ b : α, Inv b → mu b < mu a → ∀ (H : Heap) (locs : List Loc) (ls : Array Slot), zS T A H0 s (Wd b) H locs → lv_has ls nL (Lv b) → W p l e R s m args below meth c H locs cells slots Q (F0 m pc ls [])) → ∀ (H : Heap) (locs : List Loc) (ls : Array Slot), zS T A H0 s (Wd a) H locs → lv_has ls nL (Lv a) → W p l e R s m args below meth c H locs cells slots Q (F0 m pc ls []))
    (a : α) (ha : Inv a) {H : Heap} {locs : List Loc} {ls : Array Slot} (G : zS T A H0 s (Wd a) H locs) (hl : lv_has ls nL (Lv a)) : W p l e R s m args below meth c H locs cells slots Q (F0 m pc ls []) := by
  have key : ∀ (n : Nat) (a : α), mu a < n → Inv a → ∀ (H : Heap) (locs : List Loc) (ls : Array Slot), zS T A H0 s (Wd a) H locs → lv_has ls nL (Lv a) → W p l e R s m args below meth c H locs cells slots Q (F0 m pc ls []) := by
    intro n
    induction n with
    | zero => intro a h; exact absurd h (Nat.not_lt_zero _)
    | succ n ih => intro a h ha; exact step a ha (fun b hb hlt => ih b (by omega) hb)
  exact key (mu a + 1) a (Nat.lt_succ_self _) ha H locs ls G hl
end ZL
theorem zEx1 {α1 : Type} {P : α1 → Prop} {b : Prop} (h : ∃ (a1 : α1), P a1) (k : ∀ a1, P a1 → b) : b := h.elim fun a1 h => k a1 h
theorem zEx2 {α1 α2 : Type} {P : α1 → α2 → Prop} {b : Prop} (h : ∃ (a1 : α1) (a2 : α2), P a1 a2) (k : ∀ a1 a2, P a1 a2 → b) : b := h.elim fun a1 h => h.elim fun a2 h => k a1 a2 h
theorem zEx3 {α1 α2 α3 : Type} {P : α1 → α2 → α3 → Prop} {b : Prop} (h : ∃ (a1 : α1) (a2 : α2) (a3 : α3), P a1 a2 a3) (k : ∀ a1 a2 a3, P a1 a2 a3 → b) : b := h.elim fun a1 h => h.elim fun a2 h => h.elim fun a3 h => k a1 a2 a3 h
theorem zEx4 {α1 α2 α3 α4 : Type} {P : α1 → α2 → α3 → α4 → Prop} {b : Prop} (h : ∃ (a1 : α1) (a2 : α2) (a3 : α3) (a4 : α4), P a1 a2 a3 a4) (k : ∀ a1 a2 a3 a4, P a1 a2 a3 a4 → b) : b := h.elim fun a1 h => h.elim fun a2 h => h.elim fun a3 h => h.elim fun a4 h => k a1 a2 a3 a4 h
theorem zEx5 {α1 α2 α3 α4 α5 : Type} {P : α1 → α2 → α3 → α4 → α5 → Prop} {b : Prop} (h : ∃ (a1 : α1) (a2 : α2) (a3 : α3) (a4 : α4) (a5 : α5), P a1 a2 a3 a4 a5) (k : ∀ a1 a2 a3 a4 a5, P a1 a2 a3 a4 a5 → b) : b := h.elim fun a1 h => h.elim fun a2 h => h.elim fun a3 h => h.elim fun a4 h => h.elim fun a5 h => k a1 a2 a3 a4 a5 h
theorem zEx6 {α1 α2 α3 α4 α5 α6 : Type} {P : α1 → α2 → α3 → α4 → α5 → α6 → Prop} {b : Prop} (h : ∃ (a1 : α1) (a2 : α2) (a3 : α3) (a4 : α4) (a5 : α5) (a6 : α6), P a1 a2 a3 a4 a5 a6) (k : ∀ a1 a2 a3 a4 a5 a6, P a1 a2 a3 a4 a5 a6 → b) : b := h.elim fun a1 h => h.elim fun a2 h => h.elim fun a3 h => h.elim fun a4 h => h.elim fun a5 h => h.elim fun a6 h => k a1 a2 a3 a4 a5 a6 h
theorem zEx7 {α1 α2 α3 α4 α5 α6 α7 : Type} {P : α1 → α2 → α3 → α4 → α5 → α6 → α7 → Prop} {b : Prop} (h : ∃ (a1 : α1) (a2 : α2) (a3 : α3) (a4 : α4) (a5 : α5) (a6 : α6) (a7 : α7), P a1 a2 a3 a4 a5 a6 a7) (k : ∀ a1 a2 a3 a4 a5 a6 a7, P a1 a2 a3 a4 a5 a6 a7 → b) : b := h.elim fun a1 h => h.elim fun a2 h => h.elim fun a3 h => h.elim fun a4 h => h.elim fun a5 h => h.elim fun a6 h => h.elim fun a7 h => k a1 a2 a3 a4 a5 a6 a7 h
theorem zEx8 {α1 α2 α3 α4 α5 α6 α7 α8 : Type} {P : α1 → α2 → α3 → α4 → α5 → α6 → α7 → α8 → Prop} {b : Prop} (h : ∃ (a1 : α1) (a2 : α2) (a3 : α3) (a4 : α4) (a5 : α5) (a6 : α6) (a7 : α7) (a8 : α8), P a1 a2 a3 a4 a5 a6 a7 a8) (k : ∀ a1 a2 a3 a4 a5 a6 a7 a8, P a1 a2 a3 a4 a5 a6 a7 a8 → b) : b := h.elim fun a1 h => h.elim fun a2 h => h.elim fun a3 h => h.elim fun a4 h => h.elim fun a5 h => h.elim fun a6 h => h.elim fun a7 h => h.elim fun a8 h => k a1 a2 a3 a4 a5 a6 a7 a8 h
theorem zEx9 {α1 α2 α3 α4 α5 α6 α7 α8 α9 : Type} {P : α1 → α2 → α3 → α4 → α5 → α6 → α7 → α8 → α9 → Prop} {b : Prop} (h : ∃ (a1 : α1) (a2 : α2) (a3 : α3) (a4 : α4) (a5 : α5) (a6 : α6) (a7 : α7) (a8 : α8) (a9 : α9), P a1 a2 a3 a4 a5 a6 a7 a8 a9) (k : ∀ a1 a2 a3 a4 a5 a6 a7 a8 a9, P a1 a2 a3 a4 a5 a6 a7 a8 a9 → b) : b := h.elim fun a1 h => h.elim fun a2 h => h.elim fun a3 h => h.elim fun a4 h => h.elim fun a5 h => h.elim fun a6 h => h.elim fun a7 h => h.elim fun a8 h => h.elim fun a9 h => k a1 a2 a3 a4 a5 a6 a7 a8 a9 h
theorem zEx10 {α1 α2 α3 α4 α5 α6 α7 α8 α9 α10 : Type} {P : α1 → α2 → α3 → α4 → α5 → α6 → α7 → α8 → α9 → α10 → Prop} {b : Prop} (h : ∃ (a1 : α1) (a2 : α2) (a3 : α3) (a4 : α4) (a5 : α5) (a6 : α6) (a7 : α7) (a8 : α8) (a9 : α9) (a10 : α10), P a1 a2 a3 a4 a5 a6 a7 a8 a9 a10) (k : ∀ a1 a2 a3 a4 a5 a6 a7 a8 a9 a10, P a1 a2 a3 a4 a5 a6 a7 a8 a9 a10 → b) : b := h.elim fun a1 h => h.elim fun a2 h => h.elim fun a3 h => h.elim fun a4 h => h.elim fun a5 h => h.elim fun a6 h => h.elim fun a7 h => h.elim fun a8 h => h.elim fun a9 h => h.elim fun a10 h => k a1 a2 a3 a4 a5 a6 a7 a8 a9 a10 h
theorem zEx11 {α1 α2 α3 α4 α5 α6 α7 α8 α9 α10 α11 : Type} {P : α1 → α2 → α3 → α4 → α5 → α6 → α7 → α8 → α9 → α10 → α11 → Prop} {b : Prop} (h : ∃ (a1 : α1) (a2 : α2) (a3 : α3) (a4 : α4) (a5 : α5) (a6 : α6) (a7 : α7) (a8 : α8) (a9 : α9) (a10 : α10) (a11 : α11), P a1 a2 a3 a4 a5 a6 a7 a8 a9 a10 a11) (k : ∀ a1 a2 a3 a4 a5 a6 a7 a8 a9 a10 a11, P a1 a2 a3 a4 a5 a6 a7 a8 a9 a10 a11 → b) : b := h.elim fun a1 h => h.elim fun a2 h => h.elim fun a3 h => h.elim fun a4 h => h.elim fun a5 h => h.elim fun a6 h => h.elim fun a7 h => h.elim fun a8 h => h.elim fun a9 h => h.elim fun a10 h => h.elim fun a11 h => k a1 a2 a3 a4 a5 a6 a7 a8 a9 a10 a11 h
theorem zEx12 {α1 α2 α3 α4 α5 α6 α7 α8 α9 α10 α11 α12 : Type} {P : α1 → α2 → α3 → α4 → α5 → α6 → α7 → α8 → α9 → α10 → α11 → α12 → Prop} {b : Prop} (h : ∃ (a1 : α1) (a2 : α2) (a3 : α3) (a4 : α4) (a5 : α5) (a6 : α6) (a7 : α7) (a8 : α8) (a9 : α9) (a10 : α10) (a11 : α11) (a12 : α12), P a1 a2 a3 a4 a5 a6 a7 a8 a9 a10 a11 a12) (k : ∀ a1 a2 a3 a4 a5 a6 a7 a8 a9 a10 a11 a12, P a1 a2 a3 a4 a5 a6 a7 a8 a9 a10 a11 a12 → b) : b := h.elim fun a1 h => h.elim fun a2 h => h.elim fun a3 h => h.elim fun a4 h => h.elim fun a5 h => h.elim fun a6 h => h.elim fun a7 h => h.elim fun a8 h => h.elim fun a9 h => h.elim fun a10 h => h.elim fun a11 h => h.elim fun a12 h => k a1 a2 a3 a4 a5 a6 a7 a8 a9 a10 a11 a12 h
theorem zEx13 {α1 α2 α3 α4 α5 α6 α7 α8 α9 α10 α11 α12 α13 : Type} {P : α1 → α2 → α3 → α4 → α5 → α6 → α7 → α8 → α9 → α10 → α11 → α12 → α13 → Prop} {b : Prop} (h : ∃ (a1 : α1) (a2 : α2) (a3 : α3) (a4 : α4) (a5 : α5) (a6 : α6) (a7 : α7) (a8 : α8) (a9 : α9) (a10 : α10) (a11 : α11) (a12 : α12) (a13 : α13), P a1 a2 a3 a4 a5 a6 a7 a8 a9 a10 a11 a12 a13) (k : ∀ a1 a2 a3 a4 a5 a6 a7 a8 a9 a10 a11 a12 a13, P a1 a2 a3 a4 a5 a6 a7 a8 a9 a10 a11 a12 a13 → b) : b := h.elim fun a1 h => h.elim fun a2 h => h.elim fun a3 h => h.elim fun a4 h => h.elim fun a5 h => h.elim fun a6 h => h.elim fun a7 h => h.elim fun a8 h => h.elim fun a9 h => h.elim fun a10 h => h.elim fun a11 h => h.elim fun a12 h => h.elim fun a13 h => k a1 a2 a3 a4 a5 a6 a7 a8 a9 a10 a11 a12 a13 h
theorem zEx14 {α1 α2 α3 α4 α5 α6 α7 α8 α9 α10 α11 α12 α13 α14 : Type} {P : α1 → α2 → α3 → α4 → α5 → α6 → α7 → α8 → α9 → α10 → α11 → α12 → α13 → α14 → Prop} {b : Prop} (h : ∃ (a1 : α1) (a2 : α2) (a3 : α3) (a4 : α4) (a5 : α5) (a6 : α6) (a7 : α7) (a8 : α8) (a9 : α9) (a10 : α10) (a11 : α11) (a12 : α12) (a13 : α13) (a14 : α14), P a1 a2 a3 a4 a5 a6 a7 a8 a9 a10 a11 a12 a13 a14) (k : ∀ a1 a2 a3 a4 a5 a6 a7 a8 a9 a10 a11 a12 a13 a14, P a1 a2 a3 a4 a5 a6 a7 a8 a9 a10 a11 a12 a13 a14 → b) : b := h.elim fun a1 h => h.elim fun a2 h => h.elim fun a3 h => h.elim fun a4 h => h.elim fun a5 h => h.elim fun a6 h => h.elim fun a7 h => h.elim fun a8 h => h.elim fun a9 h => h.elim fun a10 h => h.elim fun a11 h => h.elim fun a12 h => h.elim fun a13 h => h.elim fun a14 h => k a1 a2 a3 a4 a5 a6 a7 a8 a9 a10 a11 a12 a13 a14 h
theorem zEx15 {α1 α2 α3 α4 α5 α6 α7 α8 α9 α10 α11 α12 α13 α14 α15 : Type} {P : α1 → α2 → α3 → α4 → α5 → α6 → α7 → α8 → α9 → α10 → α11 → α12 → α13 → α14 → α15 → Prop} {b : Prop} (h : ∃ (a1 : α1) (a2 : α2) (a3 : α3) (a4 : α4) (a5 : α5) (a6 : α6) (a7 : α7) (a8 : α8) (a9 : α9) (a10 : α10) (a11 : α11) (a12 : α12) (a13 : α13) (a14 : α14) (a15 : α15), P a1 a2 a3 a4 a5 a6 a7 a8 a9 a10 a11 a12 a13 a14 a15) (k : ∀ a1 a2 a3 a4 a5 a6 a7 a8 a9 a10 a11 a12 a13 a14 a15, P a1 a2 a3 a4 a5 a6 a7 a8 a9 a10 a11 a12 a13 a14 a15 → b) : b := h.elim fun a1 h => h.elim fun a2 h => h.elim fun a3 h => h.elim fun a4 h => h.elim fun a5 h => h.elim fun a6 h => h.elim fun a7 h => h.elim fun a8 h => h.elim fun a9 h => h.elim fun a10 h => h.elim fun a11 h => h.elim fun a12 h => h.elim fun a13 h => h.elim fun a14 h => h.elim fun a15 h => k a1 a2 a3 a4 a5 a6 a7 a8 a9 a10 a11 a12 a13 a14 a15 h
theorem zEx16 {α1 α2 α3 α4 α5 α6 α7 α8 α9 α10 α11 α12 α13 α14 α15 α16 : Type} {P : α1 → α2 → α3 → α4 → α5 → α6 → α7 → α8 → α9 → α10 → α11 → α12 → α13 → α14 → α15 → α16 → Prop} {b : Prop} (h : ∃ (a1 : α1) (a2 : α2) (a3 : α3) (a4 : α4) (a5 : α5) (a6 : α6) (a7 : α7) (a8 : α8) (a9 : α9) (a10 : α10) (a11 : α11) (a12 : α12) (a13 : α13) (a14 : α14) (a15 : α15) (a16 : α16), P a1 a2 a3 a4 a5 a6 a7 a8 a9 a10 a11 a12 a13 a14 a15 a16) (k : ∀ a1 a2 a3 a4 a5 a6 a7 a8 a9 a10 a11 a12 a13 a14 a15 a16, P a1 a2 a3 a4 a5 a6 a7 a8 a9 a10 a11 a12 a13 a14 a15 a16 → b) : b := h.elim fun a1 h => h.elim fun a2 h => h.elim fun a3 h => h.elim fun a4 h => h.elim fun a5 h => h.elim fun a6 h => h.elim fun a7 h => h.elim fun a8 h => h.elim fun a9 h => h.elim fun a10 h => h.elim fun a11 h => h.elim fun a12 h => h.elim fun a13 h => h.elim fun a14 h => h.elim fun a15 h => h.elim fun a16 h => k a1 a2 a3 a4 a5 a6 a7 a8 a9 a10 a11 a12 a13 a14 a15 a16 h
theorem zEx17 {α1 α2 α3 α4 α5 α6 α7 α8 α9 α10 α11 α12 α13 α14 α15 α16 α17 : Type} {P : α1 → α2 → α3 → α4 → α5 → α6 → α7 → α8 → α9 → α10 → α11 → α12 → α13 → α14 → α15 → α16 → α17 → Prop} {b : Prop} (h : ∃ (a1 : α1) (a2 : α2) (a3 : α3) (a4 : α4) (a5 : α5) (a6 : α6) (a7 : α7) (a8 : α8) (a9 : α9) (a10 : α10) (a11 : α11) (a12 : α12) (a13 : α13) (a14 : α14) (a15 : α15) (a16 : α16) (a17 : α17), P a1 a2 a3 a4 a5 a6 a7 a8 a9 a10 a11 a12 a13 a14 a15 a16 a17) (k : ∀ a1 a2 a3 a4 a5 a6 a7 a8 a9 a10 a11 a12 a13 a14 a15 a16 a17, P a1 a2 a3 a4 a5 a6 a7 a8 a9 a10 a11 a12 a13 a14 a15 a16 a17 → b) : b := h.elim fun a1 h => h.elim fun a2 h => h.elim fun a3 h => h.elim fun a4 h => h.elim fun a5 h => h.elim fun a6 h => h.elim fun a7 h => h.elim fun a8 h => h.elim fun a9 h => h.elim fun a10 h => h.elim fun a11 h => h.elim fun a12 h => h.elim fun a13 h => h.elim fun a14 h => h.elim fun a15 h => h.elim fun a16 h => h.elim fun a17 h => k a1 a2 a3 a4 a5 a6 a7 a8 a9 a10 a11 a12 a13 a14 a15 a16 a17 h
theorem zEx18 {α1 α2 α3 α4 α5 α6 α7 α8 α9 α10 α11 α12 α13 α14 α15 α16 α17 α18 : Type} {P : α1 → α2 → α3 → α4 → α5 → α6 → α7 → α8 → α9 → α10 → α11 → α12 → α13 → α14 → α15 → α16 → α17 → α18 → Prop} {b : Prop} (h : ∃ (a1 : α1) (a2 : α2) (a3 : α3) (a4 : α4) (a5 : α5) (a6 : α6) (a7 : α7) (a8 : α8) (a9 : α9) (a10 : α10) (a11 : α11) (a12 : α12) (a13 : α13) (a14 : α14) (a15 : α15) (a16 : α16) (a17 : α17) (a18 : α18), P a1 a2 a3 a4 a5 a6 a7 a8 a9 a10 a11 a12 a13 a14 a15 a16 a17 a18) (k : ∀ a1 a2 a3 a4 a5 a6 a7 a8 a9 a10 a11 a12 a13 a14 a15 a16 a17 a18, P a1 a2 a3 a4 a5 a6 a7 a8 a9 a10 a11 a12 a13 a14 a15 a16 a17 a18 → b) : b := h.elim fun a1 h => h.elim fun a2 h => h.elim fun a3 h => h.elim fun a4 h => h.elim fun a5 h => h.elim fun a6 h => h.elim fun a7 h => h.elim fun a8 h => h.elim fun a9 h => h.elim fun a10 h => h.elim fun a11 h => h.elim fun a12 h => h.elim fun a13 h => h.elim fun a14 h => h.elim fun a15 h => h.elim fun a16 h => h.elim fun a17 h => h.elim fun a18 h => k a1 a2 a3 a4 a5 a6 a7 a8 a9 a10 a11 a12 a13 a14 a15 a16 a17 a18 h
theorem zEx19 {α1 α2 α3 α4 α5 α6 α7 α8 α9 α10 α11 α12 α13 α14 α15 α16 α17 α18 α19 : Type} {P : α1 → α2 → α3 → α4 → α5 → α6 → α7 → α8 → α9 → α10 → α11 → α12 → α13 → α14 → α15 → α16 → α17 → α18 → α19 → Prop} {b : Prop} (h : ∃ (a1 : α1) (a2 : α2) (a3 : α3) (a4 : α4) (a5 : α5) (a6 : α6) (a7 : α7) (a8 : α8) (a9 : α9) (a10 : α10) (a11 : α11) (a12 : α12) (a13 : α13) (a14 : α14) (a15 : α15) (a16 : α16) (a17 : α17) (a18 : α18) (a19 : α19), P a1 a2 a3 a4 a5 a6 a7 a8 a9 a10 a11 a12 a13 a14 a15 a16 a17 a18 a19) (k : ∀ a1 a2 a3 a4 a5 a6 a7 a8 a9 a10 a11 a12 a13 a14 a15 a16 a17 a18 a19, P a1 a2 a3 a4 a5 a6 a7 a8 a9 a10 a11 a12 a13 a14 a15 a16 a17 a18 a19 → b) : b := h.elim fun a1 h => h.elim fun a2 h => h.elim fun a3 h => h.elim fun a4 h => h.elim fun a5 h => h.elim fun a6 h => h.elim fun a7 h => h.elim fun a8 h => h.elim fun a9 h => h.elim fun a10 h => h.elim fun a11 h => h.elim fun a12 h => h.elim fun a13 h => h.elim fun a14 h => h.elim fun a15 h => h.elim fun a16 h => h.elim fun a17 h => h.elim fun a18 h => h.elim fun a19 h => k a1 a2 a3 a4 a5 a6 a7 a8 a9 a10 a11 a12 a13 a14 a15 a16 a17 a18 a19 h
theorem zEx20 {α1 α2 α3 α4 α5 α6 α7 α8 α9 α10 α11 α12 α13 α14 α15 α16 α17 α18 α19 α20 : Type} {P : α1 → α2 → α3 → α4 → α5 → α6 → α7 → α8 → α9 → α10 → α11 → α12 → α13 → α14 → α15 → α16 → α17 → α18 → α19 → α20 → Prop} {b : Prop} (h : ∃ (a1 : α1) (a2 : α2) (a3 : α3) (a4 : α4) (a5 : α5) (a6 : α6) (a7 : α7) (a8 : α8) (a9 : α9) (a10 : α10) (a11 : α11) (a12 : α12) (a13 : α13) (a14 : α14) (a15 : α15) (a16 : α16) (a17 : α17) (a18 : α18) (a19 : α19) (a20 : α20), P a1 a2 a3 a4 a5 a6 a7 a8 a9 a10 a11 a12 a13 a14 a15 a16 a17 a18 a19 a20) (k : ∀ a1 a2 a3 a4 a5 a6 a7 a8 a9 a10 a11 a12 a13 a14 a15 a16 a17 a18 a19 a20, P a1 a2 a3 a4 a5 a6 a7 a8 a9 a10 a11 a12 a13 a14 a15 a16 a17 a18 a19 a20 → b) : b := h.elim fun a1 h => h.elim fun a2 h => h.elim fun a3 h => h.elim fun a4 h => h.elim fun a5 h => h.elim fun a6 h => h.elim fun a7 h => h.elim fun a8 h => h.elim fun a9 h => h.elim fun a10 h => h.elim fun a11 h => h.elim fun a12 h => h.elim fun a13 h => h.elim fun a14 h => h.elim fun a15 h => h.elim fun a16 h => h.elim fun a17 h => h.elim fun a18 h => h.elim fun a19 h => h.elim fun a20 h => k a1 a2 a3 a4 a5 a6 a7 a8 a9 a10 a11 a12 a13 a14 a15 a16 a17 a18 a19 a20 h
theorem zEx24 {α1 α2 α3 α4 α5 α6 α7 α8 α9 α10 α11 α12 α13 α14 α15 α16 α17 α18 α19 α20 α21 α22 α23 α24 : Type} {P : α1 → α2 → α3 → α4 → α5 → α6 → α7 → α8 → α9 → α10 → α11 → α12 → α13 → α14 → α15 → α16 → α17 → α18 → α19 → α20 → α21 → α22 → α23 → α24 → Prop} {b : Prop} (h : ∃ (a1 : α1) (a2 : α2) (a3 : α3) (a4 : α4) (a5 : α5) (a6 : α6) (a7 : α7) (a8 : α8) (a9 : α9) (a10 : α10) (a11 : α11) (a12 : α12) (a13 : α13) (a14 : α14) (a15 : α15) (a16 : α16) (a17 : α17) (a18 : α18) (a19 : α19) (a20 : α20) (a21 : α21) (a22 : α22) (a23 : α23) (a24 : α24), P a1 a2 a3 a4 a5 a6 a7 a8 a9 a10 a11 a12 a13 a14 a15 a16 a17 a18 a19 a20 a21 a22 a23 a24) (k : ∀ a1 a2 a3 a4 a5 a6 a7 a8 a9 a10 a11 a12 a13 a14 a15 a16 a17 a18 a19 a20 a21 a22 a23 a24, P a1 a2 a3 a4 a5 a6 a7 a8 a9 a10 a11 a12 a13 a14 a15 a16 a17 a18 a19 a20 a21 a22 a23 a24 → b) : b := h.elim fun a1 h => h.elim fun a2 h => h.elim fun a3 h => h.elim fun a4 h => h.elim fun a5 h => h.elim fun a6 h => h.elim fun a7 h => h.elim fun a8 h => h.elim fun a9 h => h.elim fun a10 h => h.elim fun a11 h => h.elim fun a12 h => h.elim fun a13 h => h.elim fun a14 h => h.elim fun a15 h => h.elim fun a16 h => h.elim fun a17 h => h.elim fun a18 h => h.elim fun a19 h => h.elim fun a20 h => h.elim fun a21 h => h.elim fun a22 h => h.elim fun a23 h => h.elim fun a24 h => k a1 a2 a3 a4 a5 a6 a7 a8 a9 a10 a11 a12 a13 a14 a15 a16 a17 a18 a19 a20 a21 a22 a23 a24 h
theorem zEx27 {α1 α2 α3 α4 α5 α6 α7 α8 α9 α10 α11 α12 α13 α14 α15 α16 α17 α18 α19 α20 α21 α22 α23 α24 α25 α26 α27 : Type} {P : α1 → α2 → α3 → α4 → α5 → α6 → α7 → α8 → α9 → α10 → α11 → α12 → α13 → α14 → α15 → α16 → α17 → α18 → α19 → α20 → α21 → α22 → α23 → α24 → α25 → α26 → α27 → Prop} {b : Prop} (h : ∃ (a1 : α1) (a2 : α2) (a3 : α3) (a4 : α4) (a5 : α5) (a6 : α6) (a7 : α7) (a8 : α8) (a9 : α9) (a10 : α10) (a11 : α11) (a12 : α12) (a13 : α13) (a14 : α14) (a15 : α15) (a16 : α16) (a17 : α17) (a18 : α18) (a19 : α19) (a20 : α20) (a21 : α21) (a22 : α22) (a23 : α23) (a24 : α24) (a25 : α25) (a26 : α26) (a27 : α27), P a1 a2 a3 a4 a5 a6 a7 a8 a9 a10 a11 a12 a13 a14 a15 a16 a17 a18 a19 a20 a21 a22 a23 a24 a25 a26 a27) (k : ∀ a1 a2 a3 a4 a5 a6 a7 a8 a9 a10 a11 a12 a13 a14 a15 a16 a17 a18 a19 a20 a21 a22 a23 a24 a25 a26 a27, P a1 a2 a3 a4 a5 a6 a7 a8 a9 a10 a11 a12 a13 a14 a15 a16 a17 a18 a19 a20 a21 a22 a23 a24 a25 a26 a27 → b) : b := h.elim fun a1 h => h.elim fun a2 h => h.elim fun a3 h => h.elim fun a4 h => h.elim fun a5 h => h.elim fun a6 h => h.elim fun a7 h => h.elim fun a8 h => h.elim fun a9 h => h.elim fun a10 h => h.elim fun a11 h => h.elim fun a12 h => h.elim fun a13 h => h.elim fun a14 h => h.elim fun a15 h => h.elim fun a16 h => h.elim fun a17 h => h.elim fun a18 h => h.elim fun a19 h => h.elim fun a20 h => h.elim fun a21 h => h.elim fun a22 h => h.elim fun a23 h => h.elim fun a24 h => h.elim fun a25 h => h.elim fun a26 h => h.elim fun a27 h => k a1 a2 a3 a4 a5 a6 a7 a8 a9 a10 a11 a12 a13 a14 a15 a16 a17 a18 a19 a20 a21 a22 a23 a24 a25 a26 a27 h
theorem zEx34 {α1 α2 α3 α4 α5 α6 α7 α8 α9 α10 α11 α12 α13 α14 α15 α16 α17 α18 α19 α20 α21 α22 α23 α24 α25 α26 α27 α28 α29 α30 α31 α32 α33 α34 : Type} {P : α1 → α2 → α3 → α4 → α5 → α6 → α7 → α8 → α9 → α10 → α11 → α12 → α13 → α14 → α15 → α16 → α17 → α18 → α19 → α20 → α21 → α22 → α23 → α24 → α25 → α26 → α27 → α28 → α29 → α30 → α31 → α32 → α33 → α34 → Prop} {b : Prop} (h : ∃ (a1 : α1) (a2 : α2) (a3 : α3) (a4 : α4) (a5 : α5) (a6 : α6) (a7 : α7) (a8 : α8) (a9 : α9) (a10 : α10) (a11 : α11) (a12 : α12) (a13 : α13) (a14 : α14) (a15 : α15) (a16 : α16) (a17 : α17) (a18 : α18) (a19 : α19) (a20 : α20) (a21 : α21) (a22 : α22) (a23 : α23) (a24 : α24) (a25 : α25) (a26 : α26) (a27 : α27) (a28 : α28) (a29 : α29) (a30 : α30) (a31 : α31) (a32 : α32) (a33 : α33) (a34 : α34), P a1 a2 a3 a4 a5 a6 a7 a8 a9 a10 a11 a12 a13 a14 a15 a16 a17 a18 a19 a20 a21 a22 a23 a24 a25 a26 a27 a28 a29 a30 a31 a32 a33 a34) (k : ∀ a1 a2 a3 a4 a5 a6 a7 a8 a9 a10 a11 a12 a13 a14 a15 a16 a17 a18 a19 a20 a21 a22 a23 a24 a25 a26 a27 a28 a29 a30 a31 a32 a33 a34, P a1 a2 a3 a4 a5 a6 a7 a8 a9 a10 a11 a12 a13 a14 a15 a16 a17 a18 a19 a20 a21 a22 a23 a24 a25 a26 a27 a28 a29 a30 a31 a32 a33 a34 → b) : b := h.elim fun a1 h => h.elim fun a2 h => h.elim fun a3 h => h.elim fun a4 h => h.elim fun a5 h => h.elim fun a6 h => h.elim fun a7 h => h.elim fun a8 h => h.elim fun a9 h => h.elim fun a10 h => h.elim fun a11 h => h.elim fun a12 h => h.elim fun a13 h => h.elim fun a14 h => h.elim fun a15 h => h.elim fun a16 h => h.elim fun a17 h => h.elim fun a18 h => h.elim fun a19 h => h.elim fun a20 h => h.elim fun a21 h => h.elim fun a22 h => h.elim fun a23 h => h.elim fun a24 h => h.elim fun a25 h => h.elim fun a26 h => h.elim fun a27 h => h.elim fun a28 h => h.elim fun a29 h => h.elim fun a30 h => h.elim fun a31 h => h.elim fun a32 h => h.elim fun a33 h => h.elim fun a34 h => k a1 a2 a3 a4 a5 a6 a7 a8 a9 a10 a11 a12 a13 a14 a15 a16 a17 a18 a19 a20 a21 a22 a23 a24 a25 a26 a27 a28 a29 a30 a31 a32 a33 a34 h
theorem zEx39 {α1 α2 α3 α4 α5 α6 α7 α8 α9 α10 α11 α12 α13 α14 α15 α16 α17 α18 α19 α20 α21 α22 α23 α24 α25 α26 α27 α28 α29 α30 α31 α32 α33 α34 α35 α36 α37 α38 α39 : Type} {P : α1 → α2 → α3 → α4 → α5 → α6 → α7 → α8 → α9 → α10 → α11 → α12 → α13 → α14 → α15 → α16 → α17 → α18 → α19 → α20 → α21 → α22 → α23 → α24 → α25 → α26 → α27 → α28 → α29 → α30 → α31 → α32 → α33 → α34 → α35 → α36 → α37 → α38 → α39 → Prop} {b : Prop} (h : ∃ (a1 : α1) (a2 : α2) (a3 : α3) (a4 : α4) (a5 : α5) (a6 : α6) (a7 : α7) (a8 : α8) (a9 : α9) (a10 : α10) (a11 : α11) (a12 : α12) (a13 : α13) (a14 : α14) (a15 : α15) (a16 : α16) (a17 : α17) (a18 : α18) (a19 : α19) (a20 : α20) (a21 : α21) (a22 : α22) (a23 : α23) (a24 : α24) (a25 : α25) (a26 : α26) (a27 : α27) (a28 : α28) (a29 : α29) (a30 : α30) (a31 : α31) (a32 : α32) (a33 : α33) (a34 : α34) (a35 : α35) (a36 : α36) (a37 : α37) (a38 : α38) (a39 : α39), P a1 a2 a3 a4 a5 a6 a7 a8 a9 a10 a11 a12 a13 a14 a15 a16 a17 a18 a19 a20 a21 a22 a23 a24 a25 a26 a27 a28 a29 a30 a31 a32 a33 a34 a35 a36 a37 a38 a39) (k : ∀ a1 a2 a3 a4 a5 a6 a7 a8 a9 a10 a11 a12 a13 a14 a15 a16 a17 a18 a19 a20 a21 a22 a23 a24 a25 a26 a27 a28 a29 a30 a31 a32 a33 a34 a35 a36 a37 a38 a39, P a1 a2 a3 a4 a5 a6 a7 a8 a9 a10 a11 a12 a13 a14 a15 a16 a17 a18 a19 a20 a21 a22 a23 a24 a25 a26 a27 a28 a29 a30 a31 a32 a33 a34 a35 a36 a37 a38 a39 → b) : b := h.elim fun a1 h => h.elim fun a2 h => h.elim fun a3 h => h.elim fun a4 h => h.elim fun a5 h => h.elim fun a6 h => h.elim fun a7 h => h.elim fun a8 h => h.elim fun a9 h => h.elim fun a10 h => h.elim fun a11 h => h.elim fun a12 h => h.elim fun a13 h => h.elim fun a14 h => h.elim fun a15 h => h.elim fun a16 h => h.elim fun a17 h => h.elim fun a18 h => h.elim fun a19 h => h.elim fun a20 h => h.elim fun a21 h => h.elim fun a22 h => h.elim fun a23 h => h.elim fun a24 h => h.elim fun a25 h => h.elim fun a26 h => h.elim fun a27 h => h.elim fun a28 h => h.elim fun a29 h => h.elim fun a30 h => h.elim fun a31 h => h.elim fun a32 h => h.elim fun a33 h => h.elim fun a34 h => h.elim fun a35 h => h.elim fun a36 h => h.elim fun a37 h => h.elim fun a38 h => h.elim fun a39 h => k a1 a2 a3 a4 a5 a6 a7 a8 a9 a10 a11 a12 a13 a14 a15 a16 a17 a18 a19 a20 a21 a22 a23 a24 a25 a26 a27 a28 a29 a30 a31 a32 a33 a34 a35 a36 a37 a38 a39 h
theorem zEx44 {α1 α2 α3 α4 α5 α6 α7 α8 α9 α10 α11 α12 α13 α14 α15 α16 α17 α18 α19 α20 α21 α22 α23 α24 α25 α26 α27 α28 α29 α30 α31 α32 α33 α34 α35 α36 α37 α38 α39 α40 α41 α42 α43 α44 : Type} {P : α1 → α2 → α3 → α4 → α5 → α6 → α7 → α8 → α9 → α10 → α11 → α12 → α13 → α14 → α15 → α16 → α17 → α18 → α19 → α20 → α21 → α22 → α23 → α24 → α25 → α26 → α27 → α28 → α29 → α30 → α31 → α32 → α33 → α34 → α35 → α36 → α37 → α38 → α39 → α40 → α41 → α42 → α43 → α44 → Prop} {b : Prop} (h : ∃ (a1 : α1) (a2 : α2) (a3 : α3) (a4 : α4) (a5 : α5) (a6 : α6) (a7 : α7) (a8 : α8) (a9 : α9) (a10 : α10) (a11 : α11) (a12 : α12) (a13 : α13) (a14 : α14) (a15 : α15) (a16 : α16) (a17 : α17) (a18 : α18) (a19 : α19) (a20 : α20) (a21 : α21) (a22 : α22) (a23 : α23) (a24 : α24) (a25 : α25) (a26 : α26) (a27 : α27) (a28 : α28) (a29 : α29) (a30 : α30) (a31 : α31) (a32 : α32) (a33 : α33) (a34 : α34) (a35 : α35) (a36 : α36) (a37 : α37) (a38 : α38) (a39 : α39) (a40 : α40) (a41 : α41) (a42 : α42) (a43 : α43) (a44 : α44), P a1 a2 a3 a4 a5 a6 a7 a8 a9 a10 a11 a12 a13 a14 a15 a16 a17 a18 a19 a20 a21 a22 a23 a24 a25 a26 a27 a28 a29 a30 a31 a32 a33 a34 a35 a36 a37 a38 a39 a40 a41 a42 a43 a44) (k : ∀ a1 a2 a3 a4 a5 a6 a7 a8 a9 a10 a11 a12 a13 a14 a15 a16 a17 a18 a19 a20 a21 a22 a23 a24 a25 a26 a27 a28 a29 a30 a31 a32 a33 a34 a35 a36 a37 a38 a39 a40 a41 a42 a43 a44, P a1 a2 a3 a4 a5 a6 a7 a8 a9 a10 a11 a12 a13 a14 a15 a16 a17 a18 a19 a20 a21 a22 a23 a24 a25 a26 a27 a28 a29 a30 a31 a32 a33 a34 a35 a36 a37 a38 a39 a40 a41 a42 a43 a44 → b) : b := h.elim fun a1 h => h.elim fun a2 h => h.elim fun a3 h => h.elim fun a4 h => h.elim fun a5 h => h.elim fun a6 h => h.elim fun a7 h => h.elim fun a8 h => h.elim fun a9 h => h.elim fun a10 h => h.elim fun a11 h => h.elim fun a12 h => h.elim fun a13 h => h.elim fun a14 h => h.elim fun a15 h => h.elim fun a16 h => h.elim fun a17 h => h.elim fun a18 h => h.elim fun a19 h => h.elim fun a20 h => h.elim fun a21 h => h.elim fun a22 h => h.elim fun a23 h => h.elim fun a24 h => h.elim fun a25 h => h.elim fun a26 h => h.elim fun a27 h => h.elim fun a28 h => h.elim fun a29 h => h.elim fun a30 h => h.elim fun a31 h => h.elim fun a32 h => h.elim fun a33 h => h.elim fun a34 h => h.elim fun a35 h => h.elim fun a36 h => h.elim fun a37 h => h.elim fun a38 h => h.elim fun a39 h => h.elim fun a40 h => h.elim fun a41 h => h.elim fun a42 h => h.elim fun a43 h => h.elim fun a44 h => k a1 a2 a3 a4 a5 a6 a7 a8 a9 a10 a11 a12 a13 a14 a15 a16 a17 a18 a19 a20 a21 a22 a23 a24 a25 a26 a27 a28 a29 a30 a31 a32 a33 a34 a35 a36 a37 a38 a39 a40 a41 a42 a43 a44 h
theorem zEx70 {α1 α2 α3 α4 α5 α6 α7 α8 α9 α10 α11 α12 α13 α14 α15 α16 α17 α18 α19 α20 α21 α22 α23 α24 α25 α26 α27 α28 α29 α30 α31 α32 α33 α34 α35 α36 α37 α38 α39 α40 α41 α42 α43 α44 α45 α46 α47 α48 α49 α50 α51 α52 α53 α54 α55 α56 α57 α58 α59 α60 α61 α62 α63 α64 α65 α66 α67 α68 α69 α70 : Type} {P : α1 → α2 → α3 → α4 → α5 → α6 → α7 → α8 → α9 → α10 → α11 → α12 → α13 → α14 → α15 → α16 → α17 → α18 → α19 → α20 → α21 → α22 → α23 → α24 → α25 → α26 → α27 → α28 → α29 → α30 → α31 → α32 → α33 → α34 → α35 → α36 → α37 → α38 → α39 → α40 → α41 → α42 → α43 → α44 → α45 → α46 → α47 → α48 → α49 → α50 → α51 → α52 → α53 → α54 → α55 → α56 → α57 → α58 → α59 → α60 → α61 → α62 → α63 → α64 → α65 → α66 → α67 → α68 → α69 → α70 → Prop} {b : Prop} (h : ∃ (a1 : α1) (a2 : α2) (a3 : α3) (a4 : α4) (a5 : α5) (a6 : α6) (a7 : α7) (a8 : α8) (a9 : α9) (a10 : α10) (a11 : α11) (a12 : α12) (a13 : α13) (a14 : α14) (a15 : α15) (a16 : α16) (a17 : α17) (a18 : α18) (a19 : α19) (a20 : α20) (a21 : α21) (a22 : α22) (a23 : α23) (a24 : α24) (a25 : α25) (a26 : α26) (a27 : α27) (a28 : α28) (a29 : α29) (a30 : α30) (a31 : α31) (a32 : α32) (a33 : α33) (a34 : α34) (a35 : α35) (a36 : α36) (a37 : α37) (a38 : α38) (a39 : α39) (a40 : α40) (a41 : α41) (a42 : α42) (a43 : α43) (a44 : α44) (a45 : α45) (a46 : α46) (a47 : α47) (a48 : α48) (a49 : α49) (a50 : α50) (a51 : α51) (a52 : α52) (a53 : α53) (a54 : α54) (a55 : α55) (a56 : α56) (a57 : α57) (a58 : α58) (a59 : α59) (a60 : α60) (a61 : α61) (a62 : α62) (a63 : α63) (a64 : α64) (a65 : α65) (a66 : α66) (a67 : α67) (a68 : α68) (a69 : α69) (a70 : α70), P a1 a2 a3 a4 a5 a6 a7 a8 a9 a10 a11 a12 a13 a14 a15 a16 a17 a18 a19 a20 a21 a22 a23 a24 a25 a26 a27 a28 a29 a30 a31 a32 a33 a34 a35 a36 a37 a38 a39 a40 a41 a42 a43 a44 a45 a46 a47 a48 a49 a50 a51 a52 a53 a54 a55 a56 a57 a58 a59 a60 a61 a62 a63 a64 a65 a66 a67 a68 a69 a70) (k : ∀ a1 a2 a3 a4 a5 a6 a7 a8 a9 a10 a11 a12 a13 a14 a15 a16 a17 a18 a19 a20 a21 a22 a23 a24 a25 a26 a27 a28 a29 a30 a31 a32 a33 a34 a35 a36 a37 a38 a39 a40 a41 a42 a43 a44 a45 a46 a47 a48 a49 a50 a51 a52 a53 a54 a55 a56 a57 a58 a59 a60 a61 a62 a63 a64 a65 a66 a67 a68 a69 a70, P a1 a2 a3 a4 a5 a6 a7 a8 a9 a10 a11 a12 a13 a14 a15 a16 a17 a18 a19 a20 a21 a22 a23 a24 a25 a26 a27 a28 a29 a30 a31 a32 a33 a34 a35 a36 a37 a38 a39 a40 a41 a42 a43 a44 a45 a46 a47 a48 a49 a50 a51 a52 a53 a54 a55 a56 a57 a58 a59 a60 a61 a62 a63 a64 a65 a66 a67 a68 a69 a70 → b) : b := h.elim fun a1 h => h.elim fun a2 h => h.elim fun a3 h => h.elim fun a4 h => h.elim fun a5 h => h.elim fun a6 h => h.elim fun a7 h => h.elim fun a8 h => h.elim fun a9 h => h.elim fun a10 h => h.elim fun a11 h => h.elim fun a12 h => h.elim fun a13 h => h.elim fun a14 h => h.elim fun a15 h => h.elim fun a16 h => h.elim fun a17 h => h.elim fun a18 h => h.elim fun a19 h => h.elim fun a20 h => h.elim fun a21 h => h.elim fun a22 h => h.elim fun a23 h => h.elim fun a24 h => h.elim fun a25 h => h.elim fun a26 h => h.elim fun a27 h => h.elim fun a28 h => h.elim fun a29 h => h.elim fun a30 h => h.elim fun a31 h => h.elim fun a32 h => h.elim fun a33 h => h.elim fun a34 h => h.elim fun a35 h => h.elim fun a36 h => h.elim fun a37 h => h.elim fun a38 h => h.elim fun a39 h => h.elim fun a40 h => h.elim fun a41 h => h.elim fun a42 h => h.elim fun a43 h => h.elim fun a44 h => h.elim fun a45 h => h.elim fun a46 h => h.elim fun a47 h => h.elim fun a48 h => h.elim fun a49 h => h.elim fun a50 h => h.elim fun a51 h => h.elim fun a52 h => h.elim fun a53 h => h.elim fun a54 h => h.elim fun a55 h => h.elim fun a56 h => h.elim fun a57 h => h.elim fun a58 h => h.elim fun a59 h => h.elim fun a60 h => h.elim fun a61 h => h.elim fun a62 h => h.elim fun a63 h => h.elim fun a64 h => h.elim fun a65 h => h.elim fun a66 h => h.elim fun a67 h => h.elim fun a68 h => h.elim fun a69 h => h.elim fun a70 h => k a1 a2 a3 a4 a5 a6 a7 a8 a9 a10 a11 a12 a13 a14 a15 a16 a17 a18 a19 a20 a21 a22 a23 a24 a25 a26 a27 a28 a29 a30 a31 a32 a33 a34 a35 a36 a37 a38 a39 a40 a41 a42 a43 a44 a45 a46 a47 a48 a49 a50 a51 a52 a53 a54 a55 a56 a57 a58 a59 a60 a61 a62 a63 a64 a65 a66 a67 a68 a69 a70 h
theorem zEx90 {α1 α2 α3 α4 α5 α6 α7 α8 α9 α10 α11 α12 α13 α14 α15 α16 α17 α18 α19 α20 α21 α22 α23 α24 α25 α26 α27 α28 α29 α30 α31 α32 α33 α34 α35 α36 α37 α38 α39 α40 α41 α42 α43 α44 α45 α46 α47 α48 α49 α50 α51 α52 α53 α54 α55 α56 α57 α58 α59 α60 α61 α62 α63 α64 α65 α66 α67 α68 α69 α70 α71 α72 α73 α74 α75 α76 α77 α78 α79 α80 α81 α82 α83 α84 α85 α86 α87 α88 α89 α90 : Type} {P : α1 → α2 → α3 → α4 → α5 → α6 → α7 → α8 → α9 → α10 → α11 → α12 → α13 → α14 → α15 → α16 → α17 → α18 → α19 → α20 → α21 → α22 → α23 → α24 → α25 → α26 → α27 → α28 → α29 → α30 → α31 → α32 → α33 → α34 → α35 → α36 → α37 → α38 → α39 → α40 → α41 → α42 → α43 → α44 → α45 → α46 → α47 → α48 → α49 → α50 → α51 → α52 → α53 → α54 → α55 → α56 → α57 → α58 → α59 → α60 → α61 → α62 → α63 → α64 → α65 → α66 → α67 → α68 → α69 → α70 → α71 → α72 → α73 → α74 → α75 → α76 → α77 → α78 → α79 → α80 → α81 → α82 → α83 → α84 → α85 → α86 → α87 → α88 → α89 → α90 → Prop} {b : Prop} (h : ∃ (a1 : α1) (a2 : α2) (a3 : α3) (a4 : α4) (a5 : α5) (a6 : α6) (a7 : α7) (a8 : α8) (a9 : α9) (a10 : α10) (a11 : α11) (a12 : α12) (a13 : α13) (a14 : α14) (a15 : α15) (a16 : α16) (a17 : α17) (a18 : α18) (a19 : α19) (a20 : α20) (a21 : α21) (a22 : α22) (a23 : α23) (a24 : α24) (a25 : α25) (a26 : α26) (a27 : α27) (a28 : α28) (a29 : α29) (a30 : α30) (a31 : α31) (a32 : α32) (a33 : α33) (a34 : α34) (a35 : α35) (a36 : α36) (a37 : α37) (a38 : α38) (a39 : α39) (a40 : α40) (a41 : α41) (a42 : α42) (a43 : α43) (a44 : α44) (a45 : α45) (a46 : α46) (a47 : α47) (a48 : α48) (a49 : α49) (a50 : α50) (a51 : α51) (a52 : α52) (a53 : α53) (a54 : α54) (a55 : α55) (a56 : α56) (a57 : α57) (a58 : α58) (a59 : α59) (a60 : α60) (a61 : α61) (a62 : α62) (a63 : α63) (a64 : α64) (a65 : α65) (a66 : α66) (a67 : α67) (a68 : α68) (a69 : α69) (a70 : α70) (a71 : α71) (a72 : α72) (a73 : α73) (a74 : α74) (a75 : α75) (a76 : α76) (a77 : α77) (a78 : α78) (a79 : α79) (a80 : α80) (a81 : α81) (a82 : α82) (a83 : α83) (a84 : α84) (a85 : α85) (a86 : α86) (a87 : α87) (a88 : α88) (a89 : α89) (a90 : α90), P a1 a2 a3 a4 a5 a6 a7 a8 a9 a10 a11 a12 a13 a14 a15 a16 a17 a18 a19 a20 a21 a22 a23 a24 a25 a26 a27 a28 a29 a30 a31 a32 a33 a34 a35 a36 a37 a38 a39 a40 a41 a42 a43 a44 a45 a46 a47 a48 a49 a50 a51 a52 a53 a54 a55 a56 a57 a58 a59 a60 a61 a62 a63 a64 a65 a66 a67 a68 a69 a70 a71 a72 a73 a74 a75 a76 a77 a78 a79 a80 a81 a82 a83 a84 a85 a86 a87 a88 a89 a90) (k : ∀ a1 a2 a3 a4 a5 a6 a7 a8 a9 a10 a11 a12 a13 a14 a15 a16 a17 a18 a19 a20 a21 a22 a23 a24 a25 a26 a27 a28 a29 a30 a31 a32 a33 a34 a35 a36 a37 a38 a39 a40 a41 a42 a43 a44 a45 a46 a47 a48 a49 a50 a51 a52 a53 a54 a55 a56 a57 a58 a59 a60 a61 a62 a63 a64 a65 a66 a67 a68 a69 a70 a71 a72 a73 a74 a75 a76 a77 a78 a79 a80 a81 a82 a83 a84 a85 a86 a87 a88 a89 a90, P a1 a2 a3 a4 a5 a6 a7 a8 a9 a10 a11 a12 a13 a14 a15 a16 a17 a18 a19 a20 a21 a22 a23 a24 a25 a26 a27 a28 a29 a30 a31 a32 a33 a34 a35 a36 a37 a38 a39 a40 a41 a42 a43 a44 a45 a46 a47 a48 a49 a50 a51 a52 a53 a54 a55 a56 a57 a58 a59 a60 a61 a62 a63 a64 a65 a66 a67 a68 a69 a70 a71 a72 a73 a74 a75 a76 a77 a78 a79 a80 a81 a82 a83 a84 a85 a86 a87 a88 a89 a90 → b) : b := h.elim fun a1 h => h.elim fun a2 h => h.elim fun a3 h => h.elim fun a4 h => h.elim fun a5 h => h.elim fun a6 h => h.elim fun a7 h => h.elim fun a8 h => h.elim fun a9 h => h.elim fun a10 h => h.elim fun a11 h => h.elim fun a12 h => h.elim fun a13 h => h.elim fun a14 h => h.elim fun a15 h => h.elim fun a16 h => h.elim fun a17 h => h.elim fun a18 h => h.elim fun a19 h => h.elim fun a20 h => h.elim fun a21 h => h.elim fun a22 h => h.elim fun a23 h => h.elim fun a24 h => h.elim fun a25 h => h.elim fun a26 h => h.elim fun a27 h => h.elim fun a28 h => h.elim fun a29 h => h.elim fun a30 h => h.elim fun a31 h => h.elim fun a32 h => h.elim fun a33 h => h.elim fun a34 h => h.elim fun a35 h => h.elim fun a36 h => h.elim fun a37 h => h.elim fun a38 h => h.elim fun a39 h => h.elim fun a40 h => h.elim fun a41 h => h.elim fun a42 h => h.elim fun a43 h => h.elim fun a44 h => h.elim fun a45 h => h.elim fun a46 h => h.elim fun a47 h => h.elim fun a48 h => h.elim fun a49 h => h.elim fun a50 h => h.elim fun a51 h => h.elim fun a52 h => h.elim fun a53 h => h.elim fun a54 h => h.elim fun a55 h => h.elim fun a56 h => h.elim fun a57 h => h.elim fun a58 h => h.elim fun a59 h => h.elim fun a60 h => h.elim fun a61 h => h.elim fun a62 h => h.elim fun a63 h => h.elim fun a64 h => h.elim fun a65 h => h.elim fun a66 h => h.elim fun a67 h => h.elim fun a68 h => h.elim fun a69 h => h.elim fun a70 h => h.elim fun a71 h => h.elim fun a72 h => h.elim fun a73 h => h.elim fun a74 h => h.elim fun a75 h => h.elim fun a76 h => h.elim fun a77 h => h.elim fun a78 h => h.elim fun a79 h => h.elim fun a80 h => h.elim fun a81 h => h.elim fun a82 h => h.elim fun a83 h => h.elim fun a84 h => h.elim fun a85 h => h.elim fun a86 h => h.elim fun a87 h => h.elim fun a88 h => h.elim fun a89 h => h.elim fun a90 h => k a1 a2 a3 a4 a5 a6 a7 a8 a9 a10 a11 a12 a13 a14 a15 a16 a17 a18 a19 a20 a21 a22 a23 a24 a25 a26 a27 a28 a29 a30 a31 a32 a33 a34 a35 a36 a37 a38 a39 a40 a41 a42 a43 a44 a45 a46 a47 a48 a49 a50 a51 a52 a53 a54 a55 a56 a57 a58 a59 a60 a61 a62 a63 a64 a65 a66 a67 a68 a69 a70 a71 a72 a73 a74 a75 a76 a77 a78 a79 a80 a81 a82 a83 a84 a85 a86 a87 a88 a89 a90 h
theorem zAn2 {A1 A2 b : Prop} (h : A1 ∧ A2) (k : A1 → A2 → b) : b := k h.1 h.2
theorem zAn3 {A1 A2 A3 b : Prop} (h : A1 ∧ A2 ∧ A3) (k : A1 → A2 → A3 → b) : b := k h.1 h.2.1 h.2.2
theorem zAn4 {A1 A2 A3 A4 b : Prop} (h : A1 ∧ A2 ∧ A3 ∧ A4) (k : A1 → A2 → A3 → A4 → b) : b := k h.1 h.2.1 h.2.2.1 h.2.2.2
theorem zAn5 {A1 A2 A3 A4 A5 b : Prop} (h : A1 ∧ A2 ∧ A3 ∧ A4 ∧ A5) (k : A1 → A2 → A3 → A4 → A5 → b) : b := k h.1 h.2.1 h.2.2.1 h.2.2.2.1 h.2.2.2.2
theorem zAn6 {A1 A2 A3 A4 A5 A6 b : Prop} (h : A1 ∧ A2 ∧ A3 ∧ A4 ∧ A5 ∧ A6) (k : A1 → A2 → A3 → A4 → A5 → A6 → b) : b := k h.1 h.2.1 h.2.2.1 h.2.2.2.1 h.2.2.2.2.1 h.2.2.2.2.2
theorem zAn7 {A1 A2 A3 A4 A5 A6 A7 b : Prop} (h : A1 ∧ A2 ∧ A3 ∧ A4 ∧ A5 ∧ A6 ∧ A7) (k : A1 → A2 → A3 → A4 → A5 → A6 → A7 → b) : b := k h.1 h.2.1 h.2.2.1 h.2.2.2.1 h.2.2.2.2.1 h.2.2.2.2.2.1 h.2.2.2.2.2.2
theorem zAn8 {A1 A2 A3 A4 A5 A6 A7 A8 b : Prop} (h : A1 ∧ A2 ∧ A3 ∧ A4 ∧ A5 ∧ A6 ∧ A7 ∧ A8) (k : A1 → A2 → A3 → A4 → A5 → A6 → A7 → A8 → b) : b := k h.1 h.2.1 h.2.2.1 h.2.2.2.1 h.2.2.2.2.1 h.2.2.2.2.2.1 h.2.2.2.2.2.2.1 h.2.2.2.2.2.2.2
theorem zAn9 {A1 A2 A3 A4 A5 A6 A7 A8 A9 b : Prop} (h : A1 ∧ A2 ∧ A3 ∧ A4 ∧ A5 ∧ A6 ∧ A7 ∧ A8 ∧ A9) (k : A1 → A2 → A3 → A4 → A5 → A6 → A7 → A8 → A9 → b) : b := k h.1 h.2.1 h.2.2.1 h.2.2.2.1 h.2.2.2.2.1 h.2.2.2.2.2.1 h.2.2.2.2.2.2.1 h.2.2.2.2.2.2.2.1 h.2.2.2.2.2.2.2.2
theorem zAn10 {A1 A2 A3 A4 A5 A6 A7 A8 A9 A10 b : Prop} (h : A1 ∧ A2 ∧ A3 ∧ A4 ∧ A5 ∧ A6 ∧ A7 ∧ A8 ∧ A9 ∧ A10) (k : A1 → A2 → A3 → A4 → A5 → A6 → A7 → A8 → A9 → A10 → b) : b := k h.1 h.2.1 h.2.2.1 h.2.2.2.1 h.2.2.2.2.1 h.2.2.2.2.2.1 h.2.2.2.2.2.2.1 h.2.2.2.2.2.2.2.1 h.2.2.2.2.2.2.2.2.1 h.2.2.2.2.2.2.2.2.2
theorem zCu2 {A1 A2 b : Prop} (k : A1 → A2 → b) (h : A1 ∧ A2) : b := k h.1 h.2
theorem zCu3 {A1 A2 A3 b : Prop} (k : A1 → A2 → A3 → b) (h : A1 ∧ A2 ∧ A3) : b := k h.1 h.2.1 h.2.2
theorem zCu4 {A1 A2 A3 A4 b : Prop} (k : A1 → A2 → A3 → A4 → b) (h : A1 ∧ A2 ∧ A3 ∧ A4) : b := k h.1 h.2.1 h.2.2.1 h.2.2.2
theorem zCu5 {A1 A2 A3 A4 A5 b : Prop} (k : A1 → A2 → A3 → A4 → A5 → b) (h : A1 ∧ A2 ∧ A3 ∧ A4 ∧ A5) : b := k h.1 h.2.1 h.2.2.1 h.2.2.2.1 h.2.2.2.2
theorem zCu6 {A1 A2 A3 A4 A5 A6 b : Prop} (k : A1 → A2 → A3 → A4 → A5 → A6 → b) (h : A1 ∧ A2 ∧ A3 ∧ A4 ∧ A5 ∧ A6) : b := k h.1 h.2.1 h.2.2.1 h.2.2.2.1 h.2.2.2.2.1 h.2.2.2.2.2
theorem zCu7 {A1 A2 A3 A4 A5 A6 A7 b : Prop} (k : A1 → A2 → A3 → A4 → A5 → A6 → A7 → b) (h : A1 ∧ A2 ∧ A3 ∧ A4 ∧ A5 ∧ A6 ∧ A7) : b := k h.1 h.2.1 h.2.2.1 h.2.2.2.1 h.2.2.2.2.1 h.2.2.2.2.2.1 h.2.2.2.2.2.2
theorem zCu8 {A1 A2 A3 A4 A5 A6 A7 A8 b : Prop} (k : A1 → A2 → A3 → A4 → A5 → A6 → A7 → A8 → b) (h : A1 ∧ A2 ∧ A3 ∧ A4 ∧ A5 ∧ A6 ∧ A7 ∧ A8) : b := k h.1 h.2.1 h.2.2.1 h.2.2.2.1 h.2.2.2.2.1 h.2.2.2.2.2.1 h.2.2.2.2.2.2.1 h.2.2.2.2.2.2.2
theorem zCu9 {A1 A2 A3 A4 A5 A6 A7 A8 A9 b : Prop} (k : A1 → A2 → A3 → A4 → A5 → A6 → A7 → A8 → A9 → b) (h : A1 ∧ A2 ∧ A3 ∧ A4 ∧ A5 ∧ A6 ∧ A7 ∧ A8 ∧ A9) : b := k h.1 h.2.1 h.2.2.1 h.2.2.2.1 h.2.2.2.2.1 h.2.2.2.2.2.1 h.2.2.2.2.2.2.1 h.2.2.2.2.2.2.2.1 h.2.2.2.2.2.2.2.2
theorem zCu10 {A1 A2 A3 A4 A5 A6 A7 A8 A9 A10 b : Prop} (k : A1 → A2 → A3 → A4 → A5 → A6 → A7 → A8 → A9 → A10 → b) (h : A1 ∧ A2 ∧ A3 ∧ A4 ∧ A5 ∧ A6 ∧ A7 ∧ A8 ∧ A9 ∧ A10) : b := k h.1 h.2.1 h.2.2.1 h.2.2.2.1 h.2.2.2.2.1 h.2.2.2.2.2.1 h.2.2.2.2.2.2.1 h.2.2.2.2.2.2.2.1 h.2.2.2.2.2.2.2.2.1 h.2.2.2.2.2.2.2.2.2
theorem zCu11 {A1 A2 A3 A4 A5 A6 A7 A8 A9 A10 A11 b : Prop} (k : A1 → A2 → A3 → A4 → A5 → A6 → A7 → A8 → A9 → A10 → A11 → b) (h : A1 ∧ A2 ∧ A3 ∧ A4 ∧ A5 ∧ A6 ∧ A7 ∧ A8 ∧ A9 ∧ A10 ∧ A11) : b := k h.1 h.2.1 h.2.2.1 h.2.2.2.1 h.2.2.2.2.1 h.2.2.2.2.2.1 h.2.2.2.2.2.2.1 h.2.2.2.2.2.2.2.1 h.2.2.2.2.2.2.2.2.1 h.2.2.2.2.2.2.2.2.2.1 h.2.2.2.2.2.2.2.2.2.2
theorem zCu12 {A1 A2 A3 A4 A5 A6 A7 A8 A9 A10 A11 A12 b : Prop} (k : A1 → A2 → A3 → A4 → A5 → A6 → A7 → A8 → A9 → A10 → A11 → A12 → b) (h : A1 ∧ A2 ∧ A3 ∧ A4 ∧ A5 ∧ A6 ∧ A7 ∧ A8 ∧ A9 ∧ A10 ∧ A11 ∧ A12) : b := k h.1 h.2.1 h.2.2.1 h.2.2.2.1 h.2.2.2.2.1 h.2.2.2.2.2.1 h.2.2.2.2.2.2.1 h.2.2.2.2.2.2.2.1 h.2.2.2.2.2.2.2.2.1 h.2.2.2.2.2.2.2.2.2.1 h.2.2.2.2.2.2.2.2.2.2.1 h.2.2.2.2.2.2.2.2.2.2.2
theorem zCu13 {A1 A2 A3 A4 A5 A6 A7 A8 A9 A10 A11 A12 A13 b : Prop} (k : A1 → A2 → A3 → A4 → A5 → A6 → A7 → A8 → A9 → A10 → A11 → A12 → A13 → b) (h : A1 ∧ A2 ∧ A3 ∧ A4 ∧ A5 ∧ A6 ∧ A7 ∧ A8 ∧ A9 ∧ A10 ∧ A11 ∧ A12 ∧ A13) : b := k h.1 h.2.1 h.2.2.1 h.2.2.2.1 h.2.2.2.2.1 h.2.2.2.2.2.1 h.2.2.2.2.2.2.1 h.2.2.2.2.2.2.2.1 h.2.2.2.2.2.2.2.2.1 h.2.2.2.2.2.2.2.2.2.1 h.2.2.2.2.2.2.2.2.2.2.1 h.2.2.2.2.2.2.2.2.2.2.2.1 h.2.2.2.2.2.2.2.2.2.2.2.2
theorem zCu14 {A1 A2 A3 A4 A5 A6 A7 A8 A9 A10 A11 A12 A13 A14 b : Prop} (k : A1 → A2 → A3 → A4 → A5 → A6 → A7 → A8 → A9 → A10 → A11 → A12 → A13 → A14 → b) (h : A1 ∧ A2 ∧ A3 ∧ A4 ∧ A5 ∧ A6 ∧ A7 ∧ A8 ∧ A9 ∧ A10 ∧ A11 ∧ A12 ∧ A13 ∧ A14) : b := k h.1 h.2.1 h.2.2.1 h.2.2.2.1 h.2.2.2.2.1 h.2.2.2.2.2.1 h.2.2.2.2.2.2.1 h.2.2.2.2.2.2.2.1 h.2.2.2.2.2.2.2.2.1 h.2.2.2.2.2.2.2.2.2.1 h.2.2.2.2.2.2.2.2.2.2.1 h.2.2.2.2.2.2.2.2.2.2.2.1 h.2.2.2.2.2.2.2.2.2.2.2.2.1 h.2.2.2.2.2.2.2.2.2.2.2.2.2
theorem zCu15 {A1 A2 A3 A4 A5 A6 A7 A8 A9 A10 A11 A12 A13 A14 A15 b : Prop} (k : A1 → A2 → A3 → A4 → A5 → A6 → A7 → A8 → A9 → A10 → A11 → A12 → A13 → A14 → A15 → b) (h : A1 ∧ A2 ∧ A3 ∧ A4 ∧ A5 ∧ A6 ∧ A7 ∧ A8 ∧ A9 ∧ A10 ∧ A11 ∧ A12 ∧ A13 ∧ A14 ∧ A15) : b := k h.1 h.2.1 h.2.2.1 h.2.2.2.1 h.2.2.2.2.1 h.2.2.2.2.2.1 h.2.2.2.2.2.2.1 h.2.2.2.2.2.2.2.1 h.2.2.2.2.2.2.2.2.1 h.2.2.2.2.2.2.2.2.2.1 h.2.2.2.2.2.2.2.2.2.2.1 h.2.2.2.2.2.2.2.2.2.2.2.1 h.2.2.2.2.2.2.2.2.2.2.2.2.1 h.2.2.2.2.2.2.2.2.2.2.2.2.2.1 h.2.2.2.2.2.2.2.2.2.2.2.2.2.2
theorem zCu16 {A1 A2 A3 A4 A5 A6 A7 A8 A9 A10 A11 A12 A13 A14 A15 A16 b : Prop} (k : A1 → A2 → A3 → A4 → A5 → A6 → A7 → A8 → A9 → A10 → A11 → A12 → A13 → A14 → A15 → A16 → b) (h : A1 ∧ A2 ∧ A3 ∧ A4 ∧ A5 ∧ A6 ∧ A7 ∧ A8 ∧ A9 ∧ A10 ∧ A11 ∧ A12 ∧ A13 ∧ A14 ∧ A15 ∧ A16) : b := k h.1 h.2.1 h.2.2.1 h.2.2.2.1 h.2.2.2.2.1 h.2.2.2.2.2.1 h.2.2.2.2.2.2.1 h.2.2.2.2.2.2.2.1 h.2.2.2.2.2.2.2.2.1 h.2.2.2.2.2.2.2.2.2.1 h.2.2.2.2.2.2.2.2.2.2.1 h.2.2.2.2.2.2.2.2.2.2.2.1 h.2.2.2.2.2.2.2.2.2.2.2.2.1 h.2.2.2.2.2.2.2.2.2.2.2.2.2.1 h.2.2.2.2.2.2.2.2.2.2.2.2.2.2.1 h.2.2.2.2.2.2.2.2.2.2.2.2.2.2.2
theorem zCu17 {A1 A2 A3 A4 A5 A6 A7 A8 A9 A10 A11 A12 A13 A14 A15 A16 A17 b : Prop} (k : A1 → A2 → A3 → A4 → A5 → A6 → A7 → A8 → A9 → A10 → A11 → A12 → A13 → A14 → A15 → A16 → A17 → b) (h : A1 ∧ A2 ∧ A3 ∧ A4 ∧ A5 ∧ A6 ∧ A7 ∧ A8 ∧ A9 ∧ A10 ∧ A11 ∧ A12 ∧ A13 ∧ A14 ∧ A15 ∧ A16 ∧ A17) : b := k h.1 h.2.1 h.2.2.1 h.2.2.2.1 h.2.2.2.2.1 h.2.2.2.2.2.1 h.2.2.2.2.2.2.1 h.2.2.2.2.2.2.2.1 h.2.2.2.2.2.2.2.2.1 h.2.2.2.2.2.2.2.2.2.1 h.2.2.2.2.2.2.2.2.2.2.1 h.2.2.2.2.2.2.2.2.2.2.2.1 h.2.2.2.2.2.2.2.2.2.2.2.2.1 h.2.2.2.2.2.2.2.2.2.2.2.2.2.1 h.2.2.2.2.2.2.2.2.2.2.2.2.2.2.1 h.2.2.2.2.2.2.2.2.2.2.2.2.2.2.2.1 h.2.2.2.2.2.2.2.2.2.2.2.2.2.2.2.2
theorem zCu20 {A1 A2 A3 A4 A5 A6 A7 A8 A9 A10 A11 A12 A13 A14 A15 A16 A17 A18 A19 A20 b : Prop} (k : A1 → A2 → A3 → A4 → A5 → A6 → A7 → A8 → A9 → A10 → A11 → A12 → A13 → A14 → A15 → A16 → A17 → A18 → A19 → A20 → b) (h : A1 ∧ A2 ∧ A3 ∧ A4 ∧ A5 ∧ A6 ∧ A7 ∧ A8 ∧ A9 ∧ A10 ∧ A11 ∧ A12 ∧ A13 ∧ A14 ∧ A15 ∧ A16 ∧ A17 ∧ A18 ∧ A19 ∧ A20) : b := k h.1 h.2.1 h.2.2.1 h.2.2.2.1 h.2.2.2.2.1 h.2.2.2.2.2.1 h.2.2.2.2.2.2.1 h.2.2.2.2.2.2.2.1 h.2.2.2.2.2.2.2.2.1 h.2.2.2.2.2.2.2.2.2.1 h.2.2.2.2.2.2.2.2.2.2.1 h.2.2.2.2.2.2.2.2.2.2.2.1 h.2.2.2.2.2.2.2.2.2.2.2.2.1 h.2.2.2.2.2.2.2.2.2.2.2.2.2.1 h.2.2.2.2.2.2.2.2.2.2.2.2.2.2.1 h.2.2.2.2.2.2.2.2.2.2.2.2.2.2.2.1 h.2.2.2.2.2.2.2.2.2.2.2.2.2.2.2.2.1 h.2.2.2.2.2.2.2.2.2.2.2.2.2.2.2.2.2.1 h.2.2.2.2.2.2.2.2.2.2.2.2.2.2.2.2.2.2.1 h.2.2.2.2.2.2.2.2.2.2.2.2.2.2.2.2.2.2.2
theorem zCu21 {A1 A2 A3 A4 A5 A6 A7 A8 A9 A10 A11 A12 A13 A14 A15 A16 A17 A18 A19 A20 A21 b : Prop} (k : A1 → A2 → A3 → A4 → A5 → A6 → A7 → A8 → A9 → A10 → A11 → A12 → A13 → A14 → A15 → A16 → A17 → A18 → A19 → A20 → A21 → b) (h : A1 ∧ A2 ∧ A3 ∧ A4 ∧ A5 ∧ A6 ∧ A7 ∧ A8 ∧ A9 ∧ A10 ∧ A11 ∧ A12 ∧ A13 ∧ A14 ∧ A15 ∧ A16 ∧ A17 ∧ A18 ∧ A19 ∧ A20 ∧ A21) : b := k h.1 h.2.1 h.2.2.1 h.2.2.2.1 h.2.2.2.2.1 h.2.2.2.2.2.1 h.2.2.2.2.2.2.1 h.2.2.2.2.2.2.2.1 h.2.2.2.2.2.2.2.2.1 h.2.2.2.2.2.2.2.2.2.1 h.2.2.2.2.2.2.2.2.2.2.1 h.2.2.2.2.2.2.2.2.2.2.2.1 h.2.2.2.2.2.2.2.2.2.2.2.2.1 h.2.2.2.2.2.2.2.2.2.2.2.2.2.1 h.2.2.2.2.2.2.2.2.2.2.2.2.2.2.1 h.2.2.2.2.2.2.2.2.2.2.2.2.2.2.2.1 h.2.2.2.2.2.2.2.2.2.2.2.2.2.2.2.2.1 h.2.2.2.2.2.2.2.2.2.2.2.2.2.2.2.2.2.1 h.2.2.2.2.2.2.2.2.2.2.2.2.2.2.2.2.2.2.1 h.2.2.2.2.2.2.2.2.2.2.2.2.2.2.2.2.2.2.2.1 h.2.2.2.2.2.2.2.2.2.2.2.2.2.2.2.2.2.2.2.2
theorem zCu43 {A1 A2 A3 A4 A5 A6 A7 A8 A9 A10 A11 A12 A13 A14 A15 A16 A17 A18 A19 A20 A21 A22 A23 A24 A25 A26 A27 A28 A29 A30 A31 A32 A33 A34 A35 A36 A37 A38 A39 A40 A41 A42 A43 b : Prop} (k : A1 → A2 → A3 → A4 → A5 → A6 → A7 → A8 → A9 → A10 → A11 → A12 → A13 → A14 → A15 → A16 → A17 → A18 → A19 → A20 → A21 → A22 → A23 → A24 → A25 → A26 → A27 → A28 → A29 → A30 → A31 → A32 → A33 → A34 → A35 → A36 → A37 → A38 → A39 → A40 → A41 → A42 → A43 → b) (h : A1 ∧ A2 ∧ A3 ∧ A4 ∧ A5 ∧ A6 ∧ A7 ∧ A8 ∧ A9 ∧ A10 ∧ A11 ∧ A12 ∧ A13 ∧ A14 ∧ A15 ∧ A16 ∧ A17 ∧ A18 ∧ A19 ∧ A20 ∧ A21 ∧ A22 ∧ A23 ∧ A24 ∧ A25 ∧ A26 ∧ A27 ∧ A28 ∧ A29 ∧ A30 ∧ A31 ∧ A32 ∧ A33 ∧ A34 ∧ A35 ∧ A36 ∧ A37 ∧ A38 ∧ A39 ∧ A40 ∧ A41 ∧ A42 ∧ A43) : b := k h.1 h.2.1 h.2.2.1 h.2.2.2.1 h.2.2.2.2.1 h.2.2.2.2.2.1 h.2.2.2.2.2.2.1 h.2.2.2.2.2.2.2.1 h.2.2.2.2.2.2.2.2.1 h.2.2.2.2.2.2.2.2.2.1 h.2.2.2.2.2.2.2.2.2.2.1 h.2.2.2.2.2.2.2.2.2.2.2.1 h.2.2.2.2.2.2.2.2.2.2.2.2.1 h.2.2.2.2.2.2.2.2.2.2.2.2.2.1 h.2.2.2.2.2.2.2.2.2.2.2.2.2.2.1 h.2.2.2.2.2.2.2.2.2.2.2.2.2.2.2.1 h.2.2.2.2.2.2.2.2.2.2.2.2.2.2.2.2.1 h.2.2.2.2.2.2.2.2.2.2.2.2.2.2.2.2.2.1 h.2.2.2.2.2.2.2.2.2.2.2.2.2.2.2.2.2.2.1 h.2.2.2.2.2.2.2.2.2.2.2.2.2.2.2.2.2.2.2.1 h.2.2.2.2.2.2.2.2.2.2.2.2.2.2.2.2.2.2.2.2.1 h.2.2.2.2.2.2.2.2.2.2.2.2.2.2.2.2.2.2.2.2.2.1 h.2.2.2.2.2.2.2.2.2.2.2.2.2.2.2.2.2.2.2.2.2.2.1 h.2.2.2.2.2.2.2.2.2.2.2.2.2.2.2.2.2.2.2.2.2.2.2.1 h.2.2.2.2.2.2.2.2.2.2.2.2.2.2.2.2.2.2.2.2.2.2.2.2.1 h.2.2.2.2.2.2.2.2.2.2.2.2.2.2.2.2.2.2.2.2.2.2.2.2.2.1 h.2.2.2.2.2.2.2.2.2.2.2.2.2.2.2.2.2.2.2.2.2.2.2.2.2.2.1 h.2.2.2.2.2.2.2.2.2.2.2.2.2.2.2.2.2.2.2.2.2.2.2.2.2.2.2.1 h.2.2.2.2.2.2.2.2.2.2.2.2.2.2.2.2.2.2.2.2.2.2.2.2.2.2.2.2.1 h.2.2.2.2.2.2.2.2.2.2.2.2.2.2.2.2.2.2.2.2.2.2.2.2.2.2.2.2.2.1 h.2.2.2.2.2.2.2.2.2.2.2.2.2.2.2.2.2.2.2.2.2.2.2.2.2.2.2.2.2.2.1 h.2.2.2.2.2.2.2.2.2.2.2.2.2.2.2.2.2.2.2.2.2.2.2.2.2.2.2.2.2.2.2.1 h.2.2.2.2.2.2.2.2.2.2.2.2.2.2.2.2.2.2.2.2.2.2.2.2.2.2.2.2.2.2.2.2.1 h.2.2.2.2.2.2.2.2.2.2.2.2.2.2.2.2.2.2.2.2.2.2.2.2.2.2.2.2.2.2.2.2.2.1 h.2.2.2.2.2.2.2.2.2.2.2.2.2.2.2.2.2.2.2.2.2.2.2.2.2.2.2.2.2.2.2.2.2.2.1 h.2.2.2.2.2.2.2.2.2.2.2.2.2.2.2.2.2.2.2.2.2.2.2.2.2.2.2.2.2.2.2.2.2.2.2.1 h.2.2.2.2.2.2.2.2.2.2.2.2.2.2.2.2.2.2.2.2.2.2.2.2.2.2.2.2.2.2.2.2.2.2.2.2.1 h.2.2.2.2.2.2.2.2.2.2.2.2.2.2.2.2.2.2.2.2.2.2.2.2.2.2.2.2.2.2.2.2.2.2.2.2.2.1 h.2.2.2.2.2.2.2.2.2.2.2.2.2.2.2.2.2.2.2.2.2.2.2.2.2.2.2.2.2.2.2.2.2.2.2.2.2.2.1 h.2.2.2.2.2.2.2.2.2.2.2.2.2.2.2.2.2.2.2.2.2.2.2.2.2.2.2.2.2.2.2.2.2.2.2.2.2.2.2.1 h.2.2.2.2.2.2.2.2.2.2.2.2.2.2.2.2.2.2.2.2.2.2.2.2.2.2.2.2.2.2.2.2.2.2.2.2.2.2.2.2.1 h.2.2.2.2.2.2.2.2.2.2.2.2.2.2.2.2.2.2.2.2.2.2.2.2.2.2.2.2.2.2.2.2.2.2.2.2.2.2.2.2.2.1 h.2.2.2.2.2.2.2.2.2.2.2.2.2.2.2.2.2.2.2.2.2.2.2.2.2.2.2.2.2.2.2.2.2.2.2.2.2.2.2.2.2.2
section
variable {p : Program} {l : Launch} {e : Env} {R : Room} {s : State} {m : MethodId} {args : Array Value} {below : List Frame} {meth : Method} {c : Code} {cells slots : Nat} {Q : State → Prop}
variable {nL : Nat} {T : zTy} {A : Nat → Prop} {H0 : Heap}
theorem z_lp1 {α1 : Type} (pc : Nat) (Wd : α1 → List va_W) (Lv : α1 → List (Nat × Value)) (Inv : α1 → Prop) (mu : α1 → Nat)
    (step : ∀ (a1 : α1), Inv a1 → (∀ (b1 : α1), Inv b1 → mu b1 < mu a1 → ∀ (H : Heap) (locs : List Loc) (ls : Array Slot), zS T A H0 s (Wd b1) H locs → lv_has ls nL (Lv b1) → W p l e R s m args below meth c H locs cells slots Q (F0 m pc ls [])) → ∀ (H : Heap) (locs : List Loc) (ls : Array Slot), zS T A H0 s (Wd a1) H locs → lv_has ls nL (Lv a1) → W p l e R s m args below meth c H locs cells slots Q (F0 m pc ls []))
    (a1 : α1) (ha : Inv a1) {H : Heap} {locs : List Loc} {ls : Array Slot} (G : zS T A H0 s (Wd a1) H locs) (hl : lv_has ls nL (Lv a1)) : W p l e R s m args below meth c H locs cells slots Q (F0 m pc ls []) :=
  z_loop (α := α1) pc (fun t => Wd t) (fun t => Lv t) (fun t => Inv t) (fun t => mu t) (fun t h ih => step t h (fun b1 hb hlt => ih b1 hb hlt)) a1 ha G hl
end
section
variable {p : Program} {l : Launch} {e : Env} {R : Room} {s : State} {m : MethodId} {args : Array Value} {below : List Frame} {meth : Method} {c : Code} {cells slots : Nat} {Q : State → Prop}
variable {nL : Nat} {T : zTy} {A : Nat → Prop} {H0 : Heap}
theorem z_lp2 {α1 α2 : Type} (pc : Nat) (Wd : α1 → α2 → List va_W) (Lv : α1 → α2 → List (Nat × Value)) (Inv : α1 → α2 → Prop) (mu : α1 → α2 → Nat)
    (step : ∀ (a1 : α1) (a2 : α2), Inv a1 a2 → (∀ (b1 : α1) (b2 : α2), Inv b1 b2 → mu b1 b2 < mu a1 a2 → ∀ (H : Heap) (locs : List Loc) (ls : Array Slot), zS T A H0 s (Wd b1 b2) H locs → lv_has ls nL (Lv b1 b2) → W p l e R s m args below meth c H locs cells slots Q (F0 m pc ls [])) → ∀ (H : Heap) (locs : List Loc) (ls : Array Slot), zS T A H0 s (Wd a1 a2) H locs → lv_has ls nL (Lv a1 a2) → W p l e R s m args below meth c H locs cells slots Q (F0 m pc ls []))
    (a1 : α1) (a2 : α2) (ha : Inv a1 a2) {H : Heap} {locs : List Loc} {ls : Array Slot} (G : zS T A H0 s (Wd a1 a2) H locs) (hl : lv_has ls nL (Lv a1 a2)) : W p l e R s m args below meth c H locs cells slots Q (F0 m pc ls []) :=
  z_loop (α := α1 × α2) pc (fun t => Wd t.1 t.2) (fun t => Lv t.1 t.2) (fun t => Inv t.1 t.2) (fun t => mu t.1 t.2) (fun t h ih => step t.1 t.2 h (fun b1 b2 hb hlt => ih (b1, b2) hb hlt)) (a1, a2) ha G hl
end
section
variable {p : Program} {l : Launch} {e : Env} {R : Room} {s : State} {m : MethodId} {args : Array Value} {below : List Frame} {meth : Method} {c : Code} {cells slots : Nat} {Q : State → Prop}
variable {nL : Nat} {T : zTy} {A : Nat → Prop} {H0 : Heap}
theorem z_lp3 {α1 α2 α3 : Type} (pc : Nat) (Wd : α1 → α2 → α3 → List va_W) (Lv : α1 → α2 → α3 → List (Nat × Value)) (Inv : α1 → α2 → α3 → Prop) (mu : α1 → α2 → α3 → Nat)
    (step : ∀ (a1 : α1) (a2 : α2) (a3 : α3), Inv a1 a2 a3 → (∀ (b1 : α1) (b2 : α2) (b3 : α3), Inv b1 b2 b3 → mu b1 b2 b3 < mu a1 a2 a3 → ∀ (H : Heap) (locs : List Loc) (ls : Array Slot), zS T A H0 s (Wd b1 b2 b3) H locs → lv_has ls nL (Lv b1 b2 b3) → W p l e R s m args below meth c H locs cells slots Q (F0 m pc ls [])) → ∀ (H : Heap) (locs : List Loc) (ls : Array Slot), zS T A H0 s (Wd a1 a2 a3) H locs → lv_has ls nL (Lv a1 a2 a3) → W p l e R s m args below meth c H locs cells slots Q (F0 m pc ls []))
    (a1 : α1) (a2 : α2) (a3 : α3) (ha : Inv a1 a2 a3) {H : Heap} {locs : List Loc} {ls : Array Slot} (G : zS T A H0 s (Wd a1 a2 a3) H locs) (hl : lv_has ls nL (Lv a1 a2 a3)) : W p l e R s m args below meth c H locs cells slots Q (F0 m pc ls []) :=
  z_loop (α := α1 × α2 × α3) pc (fun t => Wd t.1 t.2.1 t.2.2) (fun t => Lv t.1 t.2.1 t.2.2) (fun t => Inv t.1 t.2.1 t.2.2) (fun t => mu t.1 t.2.1 t.2.2) (fun t h ih => step t.1 t.2.1 t.2.2 h (fun b1 b2 b3 hb hlt => ih (b1, b2, b3) hb hlt)) (a1, a2, a3) ha G hl
end
section
variable {p : Program} {l : Launch} {e : Env} {R : Room} {s : State} {m : MethodId} {args : Array Value} {below : List Frame} {meth : Method} {c : Code} {cells slots : Nat} {Q : State → Prop}
variable {nL : Nat} {T : zTy} {A : Nat → Prop} {H0 : Heap}
theorem z_lp4 {α1 α2 α3 α4 : Type} (pc : Nat) (Wd : α1 → α2 → α3 → α4 → List va_W) (Lv : α1 → α2 → α3 → α4 → List (Nat × Value)) (Inv : α1 → α2 → α3 → α4 → Prop) (mu : α1 → α2 → α3 → α4 → Nat)
    (step : ∀ (a1 : α1) (a2 : α2) (a3 : α3) (a4 : α4), Inv a1 a2 a3 a4 → (∀ (b1 : α1) (b2 : α2) (b3 : α3) (b4 : α4), Inv b1 b2 b3 b4 → mu b1 b2 b3 b4 < mu a1 a2 a3 a4 → ∀ (H : Heap) (locs : List Loc) (ls : Array Slot), zS T A H0 s (Wd b1 b2 b3 b4) H locs → lv_has ls nL (Lv b1 b2 b3 b4) → W p l e R s m args below meth c H locs cells slots Q (F0 m pc ls [])) → ∀ (H : Heap) (locs : List Loc) (ls : Array Slot), zS T A H0 s (Wd a1 a2 a3 a4) H locs → lv_has ls nL (Lv a1 a2 a3 a4) → W p l e R s m args below meth c H locs cells slots Q (F0 m pc ls []))
    (a1 : α1) (a2 : α2) (a3 : α3) (a4 : α4) (ha : Inv a1 a2 a3 a4) {H : Heap} {locs : List Loc} {ls : Array Slot} (G : zS T A H0 s (Wd a1 a2 a3 a4) H locs) (hl : lv_has ls nL (Lv a1 a2 a3 a4)) : W p l e R s m args below meth c H locs cells slots Q (F0 m pc ls []) :=
  z_loop (α := α1 × α2 × α3 × α4) pc (fun t => Wd t.1 t.2.1 t.2.2.1 t.2.2.2) (fun t => Lv t.1 t.2.1 t.2.2.1 t.2.2.2) (fun t => Inv t.1 t.2.1 t.2.2.1 t.2.2.2) (fun t => mu t.1 t.2.1 t.2.2.1 t.2.2.2) (fun t h ih => step t.1 t.2.1 t.2.2.1 t.2.2.2 h (fun b1 b2 b3 b4 hb hlt => ih (b1, b2, b3, b4) hb hlt)) (a1, a2, a3, a4) ha G hl
end
section
variable {p : Program} {l : Launch} {e : Env} {R : Room} {s : State} {m : MethodId} {args : Array Value} {below : List Frame} {meth : Method} {c : Code} {cells slots : Nat} {Q : State → Prop}
variable {nL : Nat} {T : zTy} {A : Nat → Prop} {H0 : Heap}
theorem z_lp5 {α1 α2 α3 α4 α5 : Type} (pc : Nat) (Wd : α1 → α2 → α3 → α4 → α5 → List va_W) (Lv : α1 → α2 → α3 → α4 → α5 → List (Nat × Value)) (Inv : α1 → α2 → α3 → α4 → α5 → Prop) (mu : α1 → α2 → α3 → α4 → α5 → Nat)
    (step : ∀ (a1 : α1) (a2 : α2) (a3 : α3) (a4 : α4) (a5 : α5), Inv a1 a2 a3 a4 a5 → (∀ (b1 : α1) (b2 : α2) (b3 : α3) (b4 : α4) (b5 : α5), Inv b1 b2 b3 b4 b5 → mu b1 b2 b3 b4 b5 < mu a1 a2 a3 a4 a5 → ∀ (H : Heap) (locs : List Loc) (ls : Array Slot), zS T A H0 s (Wd b1 b2 b3 b4 b5) H locs → lv_has ls nL (Lv b1 b2 b3 b4 b5) → W p l e R s m args below meth c H locs cells slots Q (F0 m pc ls [])) → ∀ (H : Heap) (locs : List Loc) (ls : Array Slot), zS T A H0 s (Wd a1 a2 a3 a4 a5) H locs → lv_has ls nL (Lv a1 a2 a3 a4 a5) → W p l e R s m args below meth c H locs cells slots Q (F0 m pc ls []))
    (a1 : α1) (a2 : α2) (a3 : α3) (a4 : α4) (a5 : α5) (ha : Inv a1 a2 a3 a4 a5) {H : Heap} {locs : List Loc} {ls : Array Slot} (G : zS T A H0 s (Wd a1 a2 a3 a4 a5) H locs) (hl : lv_has ls nL (Lv a1 a2 a3 a4 a5)) : W p l e R s m args below meth c H locs cells slots Q (F0 m pc ls []) :=
  z_loop (α := α1 × α2 × α3 × α4 × α5) pc (fun t => Wd t.1 t.2.1 t.2.2.1 t.2.2.2.1 t.2.2.2.2) (fun t => Lv t.1 t.2.1 t.2.2.1 t.2.2.2.1 t.2.2.2.2) (fun t => Inv t.1 t.2.1 t.2.2.1 t.2.2.2.1 t.2.2.2.2) (fun t => mu t.1 t.2.1 t.2.2.1 t.2.2.2.1 t.2.2.2.2) (fun t h ih => step t.1 t.2.1 t.2.2.1 t.2.2.2.1 t.2.2.2.2 h (fun b1 b2 b3 b4 b5 hb hlt => ih (b1, b2, b3, b4, b5) hb hlt)) (a1, a2, a3, a4, a5) ha G hl
end
section
variable {p : Program} {l : Launch} {e : Env} {R : Room} {s : State} {m : MethodId} {args : Array Value} {below : List Frame} {meth : Method} {c : Code} {cells slots : Nat} {Q : State → Prop}
variable {nL : Nat} {T : zTy} {A : Nat → Prop} {H0 : Heap}
theorem z_lp6 {α1 α2 α3 α4 α5 α6 : Type} (pc : Nat) (Wd : α1 → α2 → α3 → α4 → α5 → α6 → List va_W) (Lv : α1 → α2 → α3 → α4 → α5 → α6 → List (Nat × Value)) (Inv : α1 → α2 → α3 → α4 → α5 → α6 → Prop) (mu : α1 → α2 → α3 → α4 → α5 → α6 → Nat)
    (step : ∀ (a1 : α1) (a2 : α2) (a3 : α3) (a4 : α4) (a5 : α5) (a6 : α6), Inv a1 a2 a3 a4 a5 a6 → (∀ (b1 : α1) (b2 : α2) (b3 : α3) (b4 : α4) (b5 : α5) (b6 : α6), Inv b1 b2 b3 b4 b5 b6 → mu b1 b2 b3 b4 b5 b6 < mu a1 a2 a3 a4 a5 a6 → ∀ (H : Heap) (locs : List Loc) (ls : Array Slot), zS T A H0 s (Wd b1 b2 b3 b4 b5 b6) H locs → lv_has ls nL (Lv b1 b2 b3 b4 b5 b6) → W p l e R s m args below meth c H locs cells slots Q (F0 m pc ls [])) → ∀ (H : Heap) (locs : List Loc) (ls : Array Slot), zS T A H0 s (Wd a1 a2 a3 a4 a5 a6) H locs → lv_has ls nL (Lv a1 a2 a3 a4 a5 a6) → W p l e R s m args below meth c H locs cells slots Q (F0 m pc ls []))
    (a1 : α1) (a2 : α2) (a3 : α3) (a4 : α4) (a5 : α5) (a6 : α6) (ha : Inv a1 a2 a3 a4 a5 a6) {H : Heap} {locs : List Loc} {ls : Array Slot} (G : zS T A H0 s (Wd a1 a2 a3 a4 a5 a6) H locs) (hl : lv_has ls nL (Lv a1 a2 a3 a4 a5 a6)) : W p l e R s m args below meth c H locs cells slots Q (F0 m pc ls []) :=
  z_loop (α := α1 × α2 × α3 × α4 × α5 × α6) pc (fun t => Wd t.1 t.2.1 t.2.2.1 t.2.2.2.1 t.2.2.2.2.1 t.2.2.2.2.2) (fun t => Lv t.1 t.2.1 t.2.2.1 t.2.2.2.1 t.2.2.2.2.1 t.2.2.2.2.2) (fun t => Inv t.1 t.2.1 t.2.2.1 t.2.2.2.1 t.2.2.2.2.1 t.2.2.2.2.2) (fun t => mu t.1 t.2.1 t.2.2.1 t.2.2.2.1 t.2.2.2.2.1 t.2.2.2.2.2) (fun t h ih => step t.1 t.2.1 t.2.2.1 t.2.2.2.1 t.2.2.2.2.1 t.2.2.2.2.2 h (fun b1 b2 b3 b4 b5 b6 hb hlt => ih (b1, b2, b3, b4, b5, b6) hb hlt)) (a1, a2, a3, a4, a5, a6) ha G hl
end
section
variable {p : Program} {l : Launch} {e : Env} {R : Room} {s : State} {m : MethodId} {args : Array Value} {below : List Frame} {meth : Method} {c : Code} {cells slots : Nat} {Q : State → Prop}
variable {nL : Nat} {T : zTy} {A : Nat → Prop} {H0 : Heap}
theorem z_lp7 {α1 α2 α3 α4 α5 α6 α7 : Type} (pc : Nat) (Wd : α1 → α2 → α3 → α4 → α5 → α6 → α7 → List va_W) (Lv : α1 → α2 → α3 → α4 → α5 → α6 → α7 → List (Nat × Value)) (Inv : α1 → α2 → α3 → α4 → α5 → α6 → α7 → Prop) (mu : α1 → α2 → α3 → α4 → α5 → α6 → α7 → Nat)
    (step : ∀ (a1 : α1) (a2 : α2) (a3 : α3) (a4 : α4) (a5 : α5) (a6 : α6) (a7 : α7), Inv a1 a2 a3 a4 a5 a6 a7 → (∀ (b1 : α1) (b2 : α2) (b3 : α3) (b4 : α4) (b5 : α5) (b6 : α6) (b7 : α7), Inv b1 b2 b3 b4 b5 b6 b7 → mu b1 b2 b3 b4 b5 b6 b7 < mu a1 a2 a3 a4 a5 a6 a7 → ∀ (H : Heap) (locs : List Loc) (ls : Array Slot), zS T A H0 s (Wd b1 b2 b3 b4 b5 b6 b7) H locs → lv_has ls nL (Lv b1 b2 b3 b4 b5 b6 b7) → W p l e R s m args below meth c H locs cells slots Q (F0 m pc ls [])) → ∀ (H : Heap) (locs : List Loc) (ls : Array Slot), zS T A H0 s (Wd a1 a2 a3 a4 a5 a6 a7) H locs → lv_has ls nL (Lv a1 a2 a3 a4 a5 a6 a7) → W p l e R s m args below meth c H locs cells slots Q (F0 m pc ls []))
    (a1 : α1) (a2 : α2) (a3 : α3) (a4 : α4) (a5 : α5) (a6 : α6) (a7 : α7) (ha : Inv a1 a2 a3 a4 a5 a6 a7) {H : Heap} {locs : List Loc} {ls : Array Slot} (G : zS T A H0 s (Wd a1 a2 a3 a4 a5 a6 a7) H locs) (hl : lv_has ls nL (Lv a1 a2 a3 a4 a5 a6 a7)) : W p l e R s m args below meth c H locs cells slots Q (F0 m pc ls []) :=
  z_loop (α := α1 × α2 × α3 × α4 × α5 × α6 × α7) pc (fun t => Wd t.1 t.2.1 t.2.2.1 t.2.2.2.1 t.2.2.2.2.1 t.2.2.2.2.2.1 t.2.2.2.2.2.2) (fun t => Lv t.1 t.2.1 t.2.2.1 t.2.2.2.1 t.2.2.2.2.1 t.2.2.2.2.2.1 t.2.2.2.2.2.2) (fun t => Inv t.1 t.2.1 t.2.2.1 t.2.2.2.1 t.2.2.2.2.1 t.2.2.2.2.2.1 t.2.2.2.2.2.2) (fun t => mu t.1 t.2.1 t.2.2.1 t.2.2.2.1 t.2.2.2.2.1 t.2.2.2.2.2.1 t.2.2.2.2.2.2) (fun t h ih => step t.1 t.2.1 t.2.2.1 t.2.2.2.1 t.2.2.2.2.1 t.2.2.2.2.2.1 t.2.2.2.2.2.2 h (fun b1 b2 b3 b4 b5 b6 b7 hb hlt => ih (b1, b2, b3, b4, b5, b6, b7) hb hlt)) (a1, a2, a3, a4, a5, a6, a7) ha G hl
end
section
variable {p : Program} {l : Launch} {e : Env} {R : Room} {s : State} {m : MethodId} {args : Array Value} {below : List Frame} {meth : Method} {c : Code} {cells slots : Nat} {Q : State → Prop}
variable {nL : Nat} {T : zTy} {A : Nat → Prop} {H0 : Heap}
theorem z_lp9 {α1 α2 α3 α4 α5 α6 α7 α8 α9 : Type} (pc : Nat) (Wd : α1 → α2 → α3 → α4 → α5 → α6 → α7 → α8 → α9 → List va_W) (Lv : α1 → α2 → α3 → α4 → α5 → α6 → α7 → α8 → α9 → List (Nat × Value)) (Inv : α1 → α2 → α3 → α4 → α5 → α6 → α7 → α8 → α9 → Prop) (mu : α1 → α2 → α3 → α4 → α5 → α6 → α7 → α8 → α9 → Nat)
    (step : ∀ (a1 : α1) (a2 : α2) (a3 : α3) (a4 : α4) (a5 : α5) (a6 : α6) (a7 : α7) (a8 : α8) (a9 : α9), Inv a1 a2 a3 a4 a5 a6 a7 a8 a9 → (∀ (b1 : α1) (b2 : α2) (b3 : α3) (b4 : α4) (b5 : α5) (b6 : α6) (b7 : α7) (b8 : α8) (b9 : α9), Inv b1 b2 b3 b4 b5 b6 b7 b8 b9 → mu b1 b2 b3 b4 b5 b6 b7 b8 b9 < mu a1 a2 a3 a4 a5 a6 a7 a8 a9 → ∀ (H : Heap) (locs : List Loc) (ls : Array Slot), zS T A H0 s (Wd b1 b2 b3 b4 b5 b6 b7 b8 b9) H locs → lv_has ls nL (Lv b1 b2 b3 b4 b5 b6 b7 b8 b9) → W p l e R s m args below meth c H locs cells slots Q (F0 m pc ls [])) → ∀ (H : Heap) (locs : List Loc) (ls : Array Slot), zS T A H0 s (Wd a1 a2 a3 a4 a5 a6 a7 a8 a9) H locs → lv_has ls nL (Lv a1 a2 a3 a4 a5 a6 a7 a8 a9) → W p l e R s m args below meth c H locs cells slots Q (F0 m pc ls []))
    (a1 : α1) (a2 : α2) (a3 : α3) (a4 : α4) (a5 : α5) (a6 : α6) (a7 : α7) (a8 : α8) (a9 : α9) (ha : Inv a1 a2 a3 a4 a5 a6 a7 a8 a9) {H : Heap} {locs : List Loc} {ls : Array Slot} (G : zS T A H0 s (Wd a1 a2 a3 a4 a5 a6 a7 a8 a9) H locs) (hl : lv_has ls nL (Lv a1 a2 a3 a4 a5 a6 a7 a8 a9)) : W p l e R s m args below meth c H locs cells slots Q (F0 m pc ls []) :=
  z_loop (α := α1 × α2 × α3 × α4 × α5 × α6 × α7 × α8 × α9) pc (fun t => Wd t.1 t.2.1 t.2.2.1 t.2.2.2.1 t.2.2.2.2.1 t.2.2.2.2.2.1 t.2.2.2.2.2.2.1 t.2.2.2.2.2.2.2.1 t.2.2.2.2.2.2.2.2) (fun t => Lv t.1 t.2.1 t.2.2.1 t.2.2.2.1 t.2.2.2.2.1 t.2.2.2.2.2.1 t.2.2.2.2.2.2.1 t.2.2.2.2.2.2.2.1 t.2.2.2.2.2.2.2.2) (fun t => Inv t.1 t.2.1 t.2.2.1 t.2.2.2.1 t.2.2.2.2.1 t.2.2.2.2.2.1 t.2.2.2.2.2.2.1 t.2.2.2.2.2.2.2.1 t.2.2.2.2.2.2.2.2) (fun t => mu t.1 t.2.1 t.2.2.1 t.2.2.2.1 t.2.2.2.2.1 t.2.2.2.2.2.1 t.2.2.2.2.2.2.1 t.2.2.2.2.2.2.2.1 t.2.2.2.2.2.2.2.2) (fun t h ih => step t.1 t.2.1 t.2.2.1 t.2.2.2.1 t.2.2.2.2.1 t.2.2.2.2.2.1 t.2.2.2.2.2.2.1 t.2.2.2.2.2.2.2.1 t.2.2.2.2.2.2.2.2 h (fun b1 b2 b3 b4 b5 b6 b7 b8 b9 hb hlt => ih (b1, b2, b3, b4, b5, b6, b7, b8, b9) hb hlt)) (a1, a2, a3, a4, a5, a6, a7, a8, a9) ha G hl
end
section
variable {p : Program} {l : Launch} {e : Env} {R : Room} {s : State} {m : MethodId} {args : Array Value} {below : List Frame} {meth : Method} {c : Code} {cells slots : Nat} {Q : State → Prop}
variable {nL : Nat} {T : zTy} {A : Nat → Prop} {H0 : Heap}
theorem z_lp10 {α1 α2 α3 α4 α5 α6 α7 α8 α9 α10 : Type} (pc : Nat) (Wd : α1 → α2 → α3 → α4 → α5 → α6 → α7 → α8 → α9 → α10 → List va_W) (Lv : α1 → α2 → α3 → α4 → α5 → α6 → α7 → α8 → α9 → α10 → List (Nat × Value)) (Inv : α1 → α2 → α3 → α4 → α5 → α6 → α7 → α8 → α9 → α10 → Prop) (mu : α1 → α2 → α3 → α4 → α5 → α6 → α7 → α8 → α9 → α10 → Nat)
    (step : ∀ (a1 : α1) (a2 : α2) (a3 : α3) (a4 : α4) (a5 : α5) (a6 : α6) (a7 : α7) (a8 : α8) (a9 : α9) (a10 : α10), Inv a1 a2 a3 a4 a5 a6 a7 a8 a9 a10 → (∀ (b1 : α1) (b2 : α2) (b3 : α3) (b4 : α4) (b5 : α5) (b6 : α6) (b7 : α7) (b8 : α8) (b9 : α9) (b10 : α10), Inv b1 b2 b3 b4 b5 b6 b7 b8 b9 b10 → mu b1 b2 b3 b4 b5 b6 b7 b8 b9 b10 < mu a1 a2 a3 a4 a5 a6 a7 a8 a9 a10 → ∀ (H : Heap) (locs : List Loc) (ls : Array Slot), zS T A H0 s (Wd b1 b2 b3 b4 b5 b6 b7 b8 b9 b10) H locs → lv_has ls nL (Lv b1 b2 b3 b4 b5 b6 b7 b8 b9 b10) → W p l e R s m args below meth c H locs cells slots Q (F0 m pc ls [])) → ∀ (H : Heap) (locs : List Loc) (ls : Array Slot), zS T A H0 s (Wd a1 a2 a3 a4 a5 a6 a7 a8 a9 a10) H locs → lv_has ls nL (Lv a1 a2 a3 a4 a5 a6 a7 a8 a9 a10) → W p l e R s m args below meth c H locs cells slots Q (F0 m pc ls []))
    (a1 : α1) (a2 : α2) (a3 : α3) (a4 : α4) (a5 : α5) (a6 : α6) (a7 : α7) (a8 : α8) (a9 : α9) (a10 : α10) (ha : Inv a1 a2 a3 a4 a5 a6 a7 a8 a9 a10) {H : Heap} {locs : List Loc} {ls : Array Slot} (G : zS T A H0 s (Wd a1 a2 a3 a4 a5 a6 a7 a8 a9 a10) H locs) (hl : lv_has ls nL (Lv a1 a2 a3 a4 a5 a6 a7 a8 a9 a10)) : W p l e R s m args below meth c H locs cells slots Q (F0 m pc ls []) :=
  z_loop (α := α1 × α2 × α3 × α4 × α5 × α6 × α7 × α8 × α9 × α10) pc (fun t => Wd t.1 t.2.1 t.2.2.1 t.2.2.2.1 t.2.2.2.2.1 t.2.2.2.2.2.1 t.2.2.2.2.2.2.1 t.2.2.2.2.2.2.2.1 t.2.2.2.2.2.2.2.2.1 t.2.2.2.2.2.2.2.2.2) (fun t => Lv t.1 t.2.1 t.2.2.1 t.2.2.2.1 t.2.2.2.2.1 t.2.2.2.2.2.1 t.2.2.2.2.2.2.1 t.2.2.2.2.2.2.2.1 t.2.2.2.2.2.2.2.2.1 t.2.2.2.2.2.2.2.2.2) (fun t => Inv t.1 t.2.1 t.2.2.1 t.2.2.2.1 t.2.2.2.2.1 t.2.2.2.2.2.1 t.2.2.2.2.2.2.1 t.2.2.2.2.2.2.2.1 t.2.2.2.2.2.2.2.2.1 t.2.2.2.2.2.2.2.2.2) (fun t => mu t.1 t.2.1 t.2.2.1 t.2.2.2.1 t.2.2.2.2.1 t.2.2.2.2.2.1 t.2.2.2.2.2.2.1 t.2.2.2.2.2.2.2.1 t.2.2.2.2.2.2.2.2.1 t.2.2.2.2.2.2.2.2.2) (fun t h ih => step t.1 t.2.1 t.2.2.1 t.2.2.2.1 t.2.2.2.2.1 t.2.2.2.2.2.1 t.2.2.2.2.2.2.1 t.2.2.2.2.2.2.2.1 t.2.2.2.2.2.2.2.2.1 t.2.2.2.2.2.2.2.2.2 h (fun b1 b2 b3 b4 b5 b6 b7 b8 b9 b10 hb hlt => ih (b1, b2, b3, b4, b5, b6, b7, b8, b9, b10) hb hlt)) (a1, a2, a3, a4, a5, a6, a7, a8, a9, a10) ha G hl
end
section
variable {p : Program} {l : Launch} {e : Env} {R : Room} {s : State} {m : MethodId} {args : Array Value} {below : List Frame} {meth : Method} {c : Code} {cells slots : Nat} {Q : State → Prop}
variable {nL : Nat} {T : zTy} {A : Nat → Prop} {H0 : Heap}
theorem z_lp11 {α1 α2 α3 α4 α5 α6 α7 α8 α9 α10 α11 : Type} (pc : Nat) (Wd : α1 → α2 → α3 → α4 → α5 → α6 → α7 → α8 → α9 → α10 → α11 → List va_W) (Lv : α1 → α2 → α3 → α4 → α5 → α6 → α7 → α8 → α9 → α10 → α11 → List (Nat × Value)) (Inv : α1 → α2 → α3 → α4 → α5 → α6 → α7 → α8 → α9 → α10 → α11 → Prop) (mu : α1 → α2 → α3 → α4 → α5 → α6 → α7 → α8 → α9 → α10 → α11 → Nat)
    (step : ∀ (a1 : α1) (a2 : α2) (a3 : α3) (a4 : α4) (a5 : α5) (a6 : α6) (a7 : α7) (a8 : α8) (a9 : α9) (a10 : α10) (a11 : α11), Inv a1 a2 a3 a4 a5 a6 a7 a8 a9 a10 a11 → (∀ (b1 : α1) (b2 : α2) (b3 : α3) (b4 : α4) (b5 : α5) (b6 : α6) (b7 : α7) (b8 : α8) (b9 : α9) (b10 : α10) (b11 : α11), Inv b1 b2 b3 b4 b5 b6 b7 b8 b9 b10 b11 → mu b1 b2 b3 b4 b5 b6 b7 b8 b9 b10 b11 < mu a1 a2 a3 a4 a5 a6 a7 a8 a9 a10 a11 → ∀ (H : Heap) (locs : List Loc) (ls : Array Slot), zS T A H0 s (Wd b1 b2 b3 b4 b5 b6 b7 b8 b9 b10 b11) H locs → lv_has ls nL (Lv b1 b2 b3 b4 b5 b6 b7 b8 b9 b10 b11) → W p l e R s m args below meth c H locs cells slots Q (F0 m pc ls [])) → ∀ (H : Heap) (locs : List Loc) (ls : Array Slot), zS T A H0 s (Wd a1 a2 a3 a4 a5 a6 a7 a8 a9 a10 a11) H locs → lv_has ls nL (Lv a1 a2 a3 a4 a5 a6 a7 a8 a9 a10 a11) → W p l e R s m args below meth c H locs cells slots Q (F0 m pc ls []))
    (a1 : α1) (a2 : α2) (a3 : α3) (a4 : α4) (a5 : α5) (a6 : α6) (a7 : α7) (a8 : α8) (a9 : α9) (a10 : α10) (a11 : α11) (ha : Inv a1 a2 a3 a4 a5 a6 a7 a8 a9 a10 a11) {H : Heap} {locs : List Loc} {ls : Array Slot} (G : zS T A H0 s (Wd a1 a2 a3 a4 a5 a6 a7 a8 a9 a10 a11) H locs) (hl : lv_has ls nL (Lv a1 a2 a3 a4 a5 a6 a7 a8 a9 a10 a11)) : W p l e R s m args below meth c H locs cells slots Q (F0 m pc ls []) :=
  z_loop (α := α1 × α2 × α3 × α4 × α5 × α6 × α7 × α8 × α9 × α10 × α11) pc (fun t => Wd t.1 t.2.1 t.2.2.1 t.2.2.2.1 t.2.2.2.2.1 t.2.2.2.2.2.1 t.2.2.2.2.2.2.1 t.2.2.2.2.2.2.2.1 t.2.2.2.2.2.2.2.2.1 t.2.2.2.2.2.2.2.2.2.1 t.2.2.2.2.2.2.2.2.2.2) (fun t => Lv t.1 t.2.1 t.2.2.1 t.2.2.2.1 t.2.2.2.2.1 t.2.2.2.2.2.1 t.2.2.2.2.2.2.1 t.2.2.2.2.2.2.2.1 t.2.2.2.2.2.2.2.2.1 t.2.2.2.2.2.2.2.2.2.1 t.2.2.2.2.2.2.2.2.2.2) (fun t => Inv t.1 t.2.1 t.2.2.1 t.2.2.2.1 t.2.2.2.2.1 t.2.2.2.2.2.1 t.2.2.2.2.2.2.1 t.2.2.2.2.2.2.2.1 t.2.2.2.2.2.2.2.2.1 t.2.2.2.2.2.2.2.2.2.1 t.2.2.2.2.2.2.2.2.2.2) (fun t => mu t.1 t.2.1 t.2.2.1 t.2.2.2.1 t.2.2.2.2.1 t.2.2.2.2.2.1 t.2.2.2.2.2.2.1 t.2.2.2.2.2.2.2.1 t.2.2.2.2.2.2.2.2.1 t.2.2.2.2.2.2.2.2.2.1 t.2.2.2.2.2.2.2.2.2.2) (fun t h ih => step t.1 t.2.1 t.2.2.1 t.2.2.2.1 t.2.2.2.2.1 t.2.2.2.2.2.1 t.2.2.2.2.2.2.1 t.2.2.2.2.2.2.2.1 t.2.2.2.2.2.2.2.2.1 t.2.2.2.2.2.2.2.2.2.1 t.2.2.2.2.2.2.2.2.2.2 h (fun b1 b2 b3 b4 b5 b6 b7 b8 b9 b10 b11 hb hlt => ih (b1, b2, b3, b4, b5, b6, b7, b8, b9, b10, b11) hb hlt)) (a1, a2, a3, a4, a5, a6, a7, a8, a9, a10, a11) ha G hl
end
section
variable {p : Program} {l : Launch} {e : Env} {R : Room} {s : State} {m : MethodId} {args : Array Value} {below : List Frame} {meth : Method} {c : Code} {cells slots : Nat} {Q : State → Prop}
variable {nL : Nat} {T : zTy} {A : Nat → Prop} {H0 : Heap}
theorem z_lp12 {α1 α2 α3 α4 α5 α6 α7 α8 α9 α10 α11 α12 : Type} (pc : Nat) (Wd : α1 → α2 → α3 → α4 → α5 → α6 → α7 → α8 → α9 → α10 → α11 → α12 → List va_W) (Lv : α1 → α2 → α3 → α4 → α5 → α6 → α7 → α8 → α9 → α10 → α11 → α12 → List (Nat × Value)) (Inv : α1 → α2 → α3 → α4 → α5 → α6 → α7 → α8 → α9 → α10 → α11 → α12 → Prop) (mu : α1 → α2 → α3 → α4 → α5 → α6 → α7 → α8 → α9 → α10 → α11 → α12 → Nat)
    (step : ∀ (a1 : α1) (a2 : α2) (a3 : α3) (a4 : α4) (a5 : α5) (a6 : α6) (a7 : α7) (a8 : α8) (a9 : α9) (a10 : α10) (a11 : α11) (a12 : α12), Inv a1 a2 a3 a4 a5 a6 a7 a8 a9 a10 a11 a12 → (∀ (b1 : α1) (b2 : α2) (b3 : α3) (b4 : α4) (b5 : α5) (b6 : α6) (b7 : α7) (b8 : α8) (b9 : α9) (b10 : α10) (b11 : α11) (b12 : α12), Inv b1 b2 b3 b4 b5 b6 b7 b8 b9 b10 b11 b12 → mu b1 b2 b3 b4 b5 b6 b7 b8 b9 b10 b11 b12 < mu a1 a2 a3 a4 a5 a6 a7 a8 a9 a10 a11 a12 → ∀ (H : Heap) (locs : List Loc) (ls : Array Slot), zS T A H0 s (Wd b1 b2 b3 b4 b5 b6 b7 b8 b9 b10 b11 b12) H locs → lv_has ls nL (Lv b1 b2 b3 b4 b5 b6 b7 b8 b9 b10 b11 b12) → W p l e R s m args below meth c H locs cells slots Q (F0 m pc ls [])) → ∀ (H : Heap) (locs : List Loc) (ls : Array Slot), zS T A H0 s (Wd a1 a2 a3 a4 a5 a6 a7 a8 a9 a10 a11 a12) H locs → lv_has ls nL (Lv a1 a2 a3 a4 a5 a6 a7 a8 a9 a10 a11 a12) → W p l e R s m args below meth c H locs cells slots Q (F0 m pc ls []))
    (a1 : α1) (a2 : α2) (a3 : α3) (a4 : α4) (a5 : α5) (a6 : α6) (a7 : α7) (a8 : α8) (a9 : α9) (a10 : α10) (a11 : α11) (a12 : α12) (ha : Inv a1 a2 a3 a4 a5 a6 a7 a8 a9 a10 a11 a12) {H : Heap} {locs : List Loc} {ls : Array Slot} (G : zS T A H0 s (Wd a1 a2 a3 a4 a5 a6 a7 a8 a9 a10 a11 a12) H locs) (hl : lv_has ls nL (Lv a1 a2 a3 a4 a5 a6 a7 a8 a9 a10 a11 a12)) : W p l e R s m args below meth c H locs cells slots Q (F0 m pc ls []) :=
  z_loop (α := α1 × α2 × α3 × α4 × α5 × α6 × α7 × α8 × α9 × α10 × α11 × α12) pc (fun t => Wd t.1 t.2.1 t.2.2.1 t.2.2.2.1 t.2.2.2.2.1 t.2.2.2.2.2.1 t.2.2.2.2.2.2.1 t.2.2.2.2.2.2.2.1 t.2.2.2.2.2.2.2.2.1 t.2.2.2.2.2.2.2.2.2.1 t.2.2.2.2.2.2.2.2.2.2.1 t.2.2.2.2.2.2.2.2.2.2.2) (fun t => Lv t.1 t.2.1 t.2.2.1 t.2.2.2.1 t.2.2.2.2.1 t.2.2.2.2.2.1 t.2.2.2.2.2.2.1 t.2.2.2.2.2.2.2.1 t.2.2.2.2.2.2.2.2.1 t.2.2.2.2.2.2.2.2.2.1 t.2.2.2.2.2.2.2.2.2.2.1 t.2.2.2.2.2.2.2.2.2.2.2) (fun t => Inv t.1 t.2.1 t.2.2.1 t.2.2.2.1 t.2.2.2.2.1 t.2.2.2.2.2.1 t.2.2.2.2.2.2.1 t.2.2.2.2.2.2.2.1 t.2.2.2.2.2.2.2.2.1 t.2.2.2.2.2.2.2.2.2.1 t.2.2.2.2.2.2.2.2.2.2.1 t.2.2.2.2.2.2.2.2.2.2.2) (fun t => mu t.1 t.2.1 t.2.2.1 t.2.2.2.1 t.2.2.2.2.1 t.2.2.2.2.2.1 t.2.2.2.2.2.2.1 t.2.2.2.2.2.2.2.1 t.2.2.2.2.2.2.2.2.1 t.2.2.2.2.2.2.2.2.2.1 t.2.2.2.2.2.2.2.2.2.2.1 t.2.2.2.2.2.2.2.2.2.2.2) (fun t h ih => step t.1 t.2.1 t.2.2.1 t.2.2.2.1 t.2.2.2.2.1 t.2.2.2.2.2.1 t.2.2.2.2.2.2.1 t.2.2.2.2.2.2.2.1 t.2.2.2.2.2.2.2.2.1 t.2.2.2.2.2.2.2.2.2.1 t.2.2.2.2.2.2.2.2.2.2.1 t.2.2.2.2.2.2.2.2.2.2.2 h (fun b1 b2 b3 b4 b5 b6 b7 b8 b9 b10 b11 b12 hb hlt => ih (b1, b2, b3, b4, b5, b6, b7, b8, b9, b10, b11, b12) hb hlt)) (a1, a2, a3, a4, a5, a6, a7, a8, a9, a10, a11, a12) ha G hl
end
section
variable {p : Program} {l : Launch} {e : Env} {R : Room} {s : State} {m : MethodId} {args : Array Value} {below : List Frame} {meth : Method} {c : Code} {cells slots : Nat} {Q : State → Prop}
variable {nL : Nat} {T : zTy} {A : Nat → Prop} {H0 : Heap}
theorem z_lp13 {α1 α2 α3 α4 α5 α6 α7 α8 α9 α10 α11 α12 α13 : Type} (pc : Nat) (Wd : α1 → α2 → α3 → α4 → α5 → α6 → α7 → α8 → α9 → α10 → α11 → α12 → α13 → List va_W) (Lv : α1 → α2 → α3 → α4 → α5 → α6 → α7 → α8 → α9 → α10 → α11 → α12 → α13 → List (Nat × Value)) (Inv : α1 → α2 → α3 → α4 → α5 → α6 → α7 → α8 → α9 → α10 → α11 → α12 → α13 → Prop) (mu : α1 → α2 → α3 → α4 → α5 → α6 → α7 → α8 → α9 → α10 → α11 → α12 → α13 → Nat)
    (step : ∀ (a1 : α1) (a2 : α2) (a3 : α3) (a4 : α4) (a5 : α5) (a6 : α6) (a7 : α7) (a8 : α8) (a9 : α9) (a10 : α10) (a11 : α11) (a12 : α12) (a13 : α13), Inv a1 a2 a3 a4 a5 a6 a7 a8 a9 a10 a11 a12 a13 → (∀ (b1 : α1) (b2 : α2) (b3 : α3) (b4 : α4) (b5 : α5) (b6 : α6) (b7 : α7) (b8 : α8) (b9 : α9) (b10 : α10) (b11 : α11) (b12 : α12) (b13 : α13), Inv b1 b2 b3 b4 b5 b6 b7 b8 b9 b10 b11 b12 b13 → mu b1 b2 b3 b4 b5 b6 b7 b8 b9 b10 b11 b12 b13 < mu a1 a2 a3 a4 a5 a6 a7 a8 a9 a10 a11 a12 a13 → ∀ (H : Heap) (locs : List Loc) (ls : Array Slot), zS T A H0 s (Wd b1 b2 b3 b4 b5 b6 b7 b8 b9 b10 b11 b12 b13) H locs → lv_has ls nL (Lv b1 b2 b3 b4 b5 b6 b7 b8 b9 b10 b11 b12 b13) → W p l e R s m args below meth c H locs cells slots Q (F0 m pc ls [])) → ∀ (H : Heap) (locs : List Loc) (ls : Array Slot), zS T A H0 s (Wd a1 a2 a3 a4 a5 a6 a7 a8 a9 a10 a11 a12 a13) H locs → lv_has ls nL (Lv a1 a2 a3 a4 a5 a6 a7 a8 a9 a10 a11 a12 a13) → W p l e R s m args below meth c H locs cells slots Q (F0 m pc ls []))
    (a1 : α1) (a2 : α2) (a3 : α3) (a4 : α4) (a5 : α5) (a6 : α6) (a7 : α7) (a8 : α8) (a9 : α9) (a10 : α10) (a11 : α11) (a12 : α12) (a13 : α13) (ha : Inv a1 a2 a3 a4 a5 a6 a7 a8 a9 a10 a11 a12 a13) {H : Heap} {locs : List Loc} {ls : Array Slot} (G : zS T A H0 s (Wd a1 a2 a3 a4 a5 a6 a7 a8 a9 a10 a11 a12 a13) H locs) (hl : lv_has ls nL (Lv a1 a2 a3 a4 a5 a6 a7 a8 a9 a10 a11 a12 a13)) : W p l e R s m args below meth c H locs cells slots Q (F0 m pc ls []) :=
  z_loop (α := α1 × α2 × α3 × α4 × α5 × α6 × α7 × α8 × α9 × α10 × α11 × α12 × α13) pc (fun t => Wd t.1 t.2.1 t.2.2.1 t.2.2.2.1 t.2.2.2.2.1 t.2.2.2.2.2.1 t.2.2.2.2.2.2.1 t.2.2.2.2.2.2.2.1 t.2.2.2.2.2.2.2.2.1 t.2.2.2.2.2.2.2.2.2.1 t.2.2.2.2.2.2.2.2.2.2.1 t.2.2.2.2.2.2.2.2.2.2.2.1 t.2.2.2.2.2.2.2.2.2.2.2.2) (fun t => Lv t.1 t.2.1 t.2.2.1 t.2.2.2.1 t.2.2.2.2.1 t.2.2.2.2.2.1 t.2.2.2.2.2.2.1 t.2.2.2.2.2.2.2.1 t.2.2.2.2.2.2.2.2.1 t.2.2.2.2.2.2.2.2.2.1 t.2.2.2.2.2.2.2.2.2.2.1 t.2.2.2.2.2.2.2.2.2.2.2.1 t.2.2.2.2.2.2.2.2.2.2.2.2) (fun t => Inv t.1 t.2.1 t.2.2.1 t.2.2.2.1 t.2.2.2.2.1 t.2.2.2.2.2.1 t.2.2.2.2.2.2.1 t.2.2.2.2.2.2.2.1 t.2.2.2.2.2.2.2.2.1 t.2.2.2.2.2.2.2.2.2.1 t.2.2.2.2.2.2.2.2.2.2.1 t.2.2.2.2.2.2.2.2.2.2.2.1 t.2.2.2.2.2.2.2.2.2.2.2.2) (fun t => mu t.1 t.2.1 t.2.2.1 t.2.2.2.1 t.2.2.2.2.1 t.2.2.2.2.2.1 t.2.2.2.2.2.2.1 t.2.2.2.2.2.2.2.1 t.2.2.2.2.2.2.2.2.1 t.2.2.2.2.2.2.2.2.2.1 t.2.2.2.2.2.2.2.2.2.2.1 t.2.2.2.2.2.2.2.2.2.2.2.1 t.2.2.2.2.2.2.2.2.2.2.2.2) (fun t h ih => step t.1 t.2.1 t.2.2.1 t.2.2.2.1 t.2.2.2.2.1 t.2.2.2.2.2.1 t.2.2.2.2.2.2.1 t.2.2.2.2.2.2.2.1 t.2.2.2.2.2.2.2.2.1 t.2.2.2.2.2.2.2.2.2.1 t.2.2.2.2.2.2.2.2.2.2.1 t.2.2.2.2.2.2.2.2.2.2.2.1 t.2.2.2.2.2.2.2.2.2.2.2.2 h (fun b1 b2 b3 b4 b5 b6 b7 b8 b9 b10 b11 b12 b13 hb hlt => ih (b1, b2, b3, b4, b5, b6, b7, b8, b9, b10, b11, b12, b13) hb hlt)) (a1, a2, a3, a4, a5, a6, a7, a8, a9, a10, a11, a12, a13) ha G hl
end
section
variable {p : Program} {l : Launch} {e : Env} {R : Room} {s : State} {m : MethodId} {args : Array Value} {below : List Frame} {meth : Method} {c : Code} {cells slots : Nat} {Q : State → Prop}
variable {nL : Nat} {T : zTy} {A : Nat → Prop} {H0 : Heap}
theorem z_lp14 {α1 α2 α3 α4 α5 α6 α7 α8 α9 α10 α11 α12 α13 α14 : Type} (pc : Nat) (Wd : α1 → α2 → α3 → α4 → α5 → α6 → α7 → α8 → α9 → α10 → α11 → α12 → α13 → α14 → List va_W) (Lv : α1 → α2 → α3 → α4 → α5 → α6 → α7 → α8 → α9 → α10 → α11 → α12 → α13 → α14 → List (Nat × Value)) (Inv : α1 → α2 → α3 → α4 → α5 → α6 → α7 → α8 → α9 → α10 → α11 → α12 → α13 → α14 → Prop) (mu : α1 → α2 → α3 → α4 → α5 → α6 → α7 → α8 → α9 → α10 → α11 → α12 → α13 → α14 → Nat)
    (step : ∀ (a1 : α1) (a2 : α2) (a3 : α3) (a4 : α4) (a5 : α5) (a6 : α6) (a7 : α7) (a8 : α8) (a9 : α9) (a10 : α10) (a11 : α11) (a12 : α12) (a13 : α13) (a14 : α14), Inv a1 a2 a3 a4 a5 a6 a7 a8 a9 a10 a11 a12 a13 a14 → (∀ (b1 : α1) (b2 : α2) (b3 : α3) (b4 : α4) (b5 : α5) (b6 : α6) (b7 : α7) (b8 : α8) (b9 : α9) (b10 : α10) (b11 : α11) (b12 : α12) (b13 : α13) (b14 : α14), Inv b1 b2 b3 b4 b5 b6 b7 b8 b9 b10 b11 b12 b13 b14 → mu b1 b2 b3 b4 b5 b6 b7 b8 b9 b10 b11 b12 b13 b14 < mu a1 a2 a3 a4 a5 a6 a7 a8 a9 a10 a11 a12 a13 a14 → ∀ (H : Heap) (locs : List Loc) (ls : Array Slot), zS T A H0 s (Wd b1 b2 b3 b4 b5 b6 b7 b8 b9 b10 b11 b12 b13 b14) H locs → lv_has ls nL (Lv b1 b2 b3 b4 b5 b6 b7 b8 b9 b10 b11 b12 b13 b14) → W p l e R s m args below meth c H locs cells slots Q (F0 m pc ls [])) → ∀ (H : Heap) (locs : List Loc) (ls : Array Slot), zS T A H0 s (Wd a1 a2 a3 a4 a5 a6 a7 a8 a9 a10 a11 a12 a13 a14) H locs → lv_has ls nL (Lv a1 a2 a3 a4 a5 a6 a7 a8 a9 a10 a11 a12 a13 a14) → W p l e R s m args below meth c H locs cells slots Q (F0 m pc ls []))
    (a1 : α1) (a2 : α2) (a3 : α3) (a4 : α4) (a5 : α5) (a6 : α6) (a7 : α7) (a8 : α8) (a9 : α9) (a10 : α10) (a11 : α11) (a12 : α12) (a13 : α13) (a14 : α14) (ha : Inv a1 a2 a3 a4 a5 a6 a7 a8 a9 a10 a11 a12 a13 a14) {H : Heap} {locs : List Loc} {ls : Array Slot} (G : zS T A H0 s (Wd a1 a2 a3 a4 a5 a6 a7 a8 a9 a10 a11 a12 a13 a14) H locs) (hl : lv_has ls nL (Lv a1 a2 a3 a4 a5 a6 a7 a8 a9 a10 a11 a12 a13 a14)) : W p l e R s m args below meth c H locs cells slots Q (F0 m pc ls []) :=
  z_loop (α := α1 × α2 × α3 × α4 × α5 × α6 × α7 × α8 × α9 × α10 × α11 × α12 × α13 × α14) pc (fun t => Wd t.1 t.2.1 t.2.2.1 t.2.2.2.1 t.2.2.2.2.1 t.2.2.2.2.2.1 t.2.2.2.2.2.2.1 t.2.2.2.2.2.2.2.1 t.2.2.2.2.2.2.2.2.1 t.2.2.2.2.2.2.2.2.2.1 t.2.2.2.2.2.2.2.2.2.2.1 t.2.2.2.2.2.2.2.2.2.2.2.1 t.2.2.2.2.2.2.2.2.2.2.2.2.1 t.2.2.2.2.2.2.2.2.2.2.2.2.2) (fun t => Lv t.1 t.2.1 t.2.2.1 t.2.2.2.1 t.2.2.2.2.1 t.2.2.2.2.2.1 t.2.2.2.2.2.2.1 t.2.2.2.2.2.2.2.1 t.2.2.2.2.2.2.2.2.1 t.2.2.2.2.2.2.2.2.2.1 t.2.2.2.2.2.2.2.2.2.2.1 t.2.2.2.2.2.2.2.2.2.2.2.1 t.2.2.2.2.2.2.2.2.2.2.2.2.1 t.2.2.2.2.2.2.2.2.2.2.2.2.2) (fun t => Inv t.1 t.2.1 t.2.2.1 t.2.2.2.1 t.2.2.2.2.1 t.2.2.2.2.2.1 t.2.2.2.2.2.2.1 t.2.2.2.2.2.2.2.1 t.2.2.2.2.2.2.2.2.1 t.2.2.2.2.2.2.2.2.2.1 t.2.2.2.2.2.2.2.2.2.2.1 t.2.2.2.2.2.2.2.2.2.2.2.1 t.2.2.2.2.2.2.2.2.2.2.2.2.1 t.2.2.2.2.2.2.2.2.2.2.2.2.2) (fun t => mu t.1 t.2.1 t.2.2.1 t.2.2.2.1 t.2.2.2.2.1 t.2.2.2.2.2.1 t.2.2.2.2.2.2.1 t.2.2.2.2.2.2.2.1 t.2.2.2.2.2.2.2.2.1 t.2.2.2.2.2.2.2.2.2.1 t.2.2.2.2.2.2.2.2.2.2.1 t.2.2.2.2.2.2.2.2.2.2.2.1 t.2.2.2.2.2.2.2.2.2.2.2.2.1 t.2.2.2.2.2.2.2.2.2.2.2.2.2) (fun t h ih => step t.1 t.2.1 t.2.2.1 t.2.2.2.1 t.2.2.2.2.1 t.2.2.2.2.2.1 t.2.2.2.2.2.2.1 t.2.2.2.2.2.2.2.1 t.2.2.2.2.2.2.2.2.1 t.2.2.2.2.2.2.2.2.2.1 t.2.2.2.2.2.2.2.2.2.2.1 t.2.2.2.2.2.2.2.2.2.2.2.1 t.2.2.2.2.2.2.2.2.2.2.2.2.1 t.2.2.2.2.2.2.2.2.2.2.2.2.2 h (fun b1 b2 b3 b4 b5 b6 b7 b8 b9 b10 b11 b12 b13 b14 hb hlt => ih (b1, b2, b3, b4, b5, b6, b7, b8, b9, b10, b11, b12, b13, b14) hb hlt)) (a1, a2, a3, a4, a5, a6, a7, a8, a9, a10, a11, a12, a13, a14) ha G hl
end
section
variable {p : Program} {l : Launch} {e : Env} {R : Room} {s : State} {m : MethodId} {args : Array Value} {below : List Frame} {meth : Method} {c : Code} {cells slots : Nat} {Q : State → Prop}
variable {nL : Nat} {T : zTy} {A : Nat → Prop} {H0 : Heap}
theorem z_lp15 {α1 α2 α3 α4 α5 α6 α7 α8 α9 α10 α11 α12 α13 α14 α15 : Type} (pc : Nat) (Wd : α1 → α2 → α3 → α4 → α5 → α6 → α7 → α8 → α9 → α10 → α11 → α12 → α13 → α14 → α15 → List va_W) (Lv : α1 → α2 → α3 → α4 → α5 → α6 → α7 → α8 → α9 → α10 → α11 → α12 → α13 → α14 → α15 → List (Nat × Value)) (Inv : α1 → α2 → α3 → α4 → α5 → α6 → α7 → α8 → α9 → α10 → α11 → α12 → α13 → α14 → α15 → Prop) (mu : α1 → α2 → α3 → α4 → α5 → α6 → α7 → α8 → α9 → α10 → α11 → α12 → α13 → α14 → α15 → Nat)
    (step : ∀ (a1 : α1) (a2 : α2) (a3 : α3) (a4 : α4) (a5 : α5) (a6 : α6) (a7 : α7) (a8 : α8) (a9 : α9) (a10 : α10) (a11 : α11) (a12 : α12) (a13 : α13) (a14 : α14) (a15 : α15), Inv a1 a2 a3 a4 a5 a6 a7 a8 a9 a10 a11 a12 a13 a14 a15 → (∀ (b1 : α1) (b2 : α2) (b3 : α3) (b4 : α4) (b5 : α5) (b6 : α6) (b7 : α7) (b8 : α8) (b9 : α9) (b10 : α10) (b11 : α11) (b12 : α12) (b13 : α13) (b14 : α14) (b15 : α15), Inv b1 b2 b3 b4 b5 b6 b7 b8 b9 b10 b11 b12 b13 b14 b15 → mu b1 b2 b3 b4 b5 b6 b7 b8 b9 b10 b11 b12 b13 b14 b15 < mu a1 a2 a3 a4 a5 a6 a7 a8 a9 a10 a11 a12 a13 a14 a15 → ∀ (H : Heap) (locs : List Loc) (ls : Array Slot), zS T A H0 s (Wd b1 b2 b3 b4 b5 b6 b7 b8 b9 b10 b11 b12 b13 b14 b15) H locs → lv_has ls nL (Lv b1 b2 b3 b4 b5 b6 b7 b8 b9 b10 b11 b12 b13 b14 b15) → W p l e R s m args below meth c H locs cells slots Q (F0 m pc ls [])) → ∀ (H : Heap) (locs : List Loc) (ls : Array Slot), zS T A H0 s (Wd a1 a2 a3 a4 a5 a6 a7 a8 a9 a10 a11 a12 a13 a14 a15) H locs → lv_has ls nL (Lv a1 a2 a3 a4 a5 a6 a7 a8 a9 a10 a11 a12 a13 a14 a15) → W p l e R s m args below meth c H locs cells slots Q (F0 m pc ls []))
    (a1 : α1) (a2 : α2) (a3 : α3) (a4 : α4) (a5 : α5) (a6 : α6) (a7 : α7) (a8 : α8) (a9 : α9) (a10 : α10) (a11 : α11) (a12 : α12) (a13 : α13) (a14 : α14) (a15 : α15) (ha : Inv a1 a2 a3 a4 a5 a6 a7 a8 a9 a10 a11 a12 a13 a14 a15) {H : Heap} {locs : List Loc} {ls : Array Slot} (G : zS T A H0 s (Wd a1 a2 a3 a4 a5 a6 a7 a8 a9 a10 a11 a12 a13 a14 a15) H locs) (hl : lv_has ls nL (Lv a1 a2 a3 a4 a5 a6 a7 a8 a9 a10 a11 a12 a13 a14 a15)) : W p l e R s m args below meth c H locs cells slots Q (F0 m pc ls []) :=
  z_loop (α := α1 × α2 × α3 × α4 × α5 × α6 × α7 × α8 × α9 × α10 × α11 × α12 × α13 × α14 × α15) pc (fun t => Wd t.1 t.2.1 t.2.2.1 t.2.2.2.1 t.2.2.2.2.1 t.2.2.2.2.2.1 t.2.2.2.2.2.2.1 t.2.2.2.2.2.2.2.1 t.2.2.2.2.2.2.2.2.1 t.2.2.2.2.2.2.2.2.2.1 t.2.2.2.2.2.2.2.2.2.2.1 t.2.2.2.2.2.2.2.2.2.2.2.1 t.2.2.2.2.2.2.2.2.2.2.2.2.1 t.2.2.2.2.2.2.2.2.2.2.2.2.2.1 t.2.2.2.2.2.2.2.2.2.2.2.2.2.2) (fun t => Lv t.1 t.2.1 t.2.2.1 t.2.2.2.1 t.2.2.2.2.1 t.2.2.2.2.2.1 t.2.2.2.2.2.2.1 t.2.2.2.2.2.2.2.1 t.2.2.2.2.2.2.2.2.1 t.2.2.2.2.2.2.2.2.2.1 t.2.2.2.2.2.2.2.2.2.2.1 t.2.2.2.2.2.2.2.2.2.2.2.1 t.2.2.2.2.2.2.2.2.2.2.2.2.1 t.2.2.2.2.2.2.2.2.2.2.2.2.2.1 t.2.2.2.2.2.2.2.2.2.2.2.2.2.2) (fun t => Inv t.1 t.2.1 t.2.2.1 t.2.2.2.1 t.2.2.2.2.1 t.2.2.2.2.2.1 t.2.2.2.2.2.2.1 t.2.2.2.2.2.2.2.1 t.2.2.2.2.2.2.2.2.1 t.2.2.2.2.2.2.2.2.2.1 t.2.2.2.2.2.2.2.2.2.2.1 t.2.2.2.2.2.2.2.2.2.2.2.1 t.2.2.2.2.2.2.2.2.2.2.2.2.1 t.2.2.2.2.2.2.2.2.2.2.2.2.2.1 t.2.2.2.2.2.2.2.2.2.2.2.2.2.2) (fun t => mu t.1 t.2.1 t.2.2.1 t.2.2.2.1 t.2.2.2.2.1 t.2.2.2.2.2.1 t.2.2.2.2.2.2.1 t.2.2.2.2.2.2.2.1 t.2.2.2.2.2.2.2.2.1 t.2.2.2.2.2.2.2.2.2.1 t.2.2.2.2.2.2.2.2.2.2.1 t.2.2.2.2.2.2.2.2.2.2.2.1 t.2.2.2.2.2.2.2.2.2.2.2.2.1 t.2.2.2.2.2.2.2.2.2.2.2.2.2.1 t.2.2.2.2.2.2.2.2.2.2.2.2.2.2) (fun t h ih => step t.1 t.2.1 t.2.2.1 t.2.2.2.1 t.2.2.2.2.1 t.2.2.2.2.2.1 t.2.2.2.2.2.2.1 t.2.2.2.2.2.2.2.1 t.2.2.2.2.2.2.2.2.1 t.2.2.2.2.2.2.2.2.2.1 t.2.2.2.2.2.2.2.2.2.2.1 t.2.2.2.2.2.2.2.2.2.2.2.1 t.2.2.2.2.2.2.2.2.2.2.2.2.1 t.2.2.2.2.2.2.2.2.2.2.2.2.2.1 t.2.2.2.2.2.2.2.2.2.2.2.2.2.2 h (fun b1 b2 b3 b4 b5 b6 b7 b8 b9 b10 b11 b12 b13 b14 b15 hb hlt => ih (b1, b2, b3, b4, b5, b6, b7, b8, b9, b10, b11, b12, b13, b14, b15) hb hlt)) (a1, a2, a3, a4, a5, a6, a7, a8, a9, a10, a11, a12, a13, a14, a15) ha G hl
end
section
variable {p : Program} {l : Launch} {e : Env} {R : Room} {s : State} {m : MethodId} {args : Array Value} {below : List Frame} {meth : Method} {c : Code} {cells slots : Nat} {Q : State → Prop}
variable {nL : Nat} {T : zTy} {A : Nat → Prop} {H0 : Heap}
theorem z_lp16 {α1 α2 α3 α4 α5 α6 α7 α8 α9 α10 α11 α12 α13 α14 α15 α16 : Type} (pc : Nat) (Wd : α1 → α2 → α3 → α4 → α5 → α6 → α7 → α8 → α9 → α10 → α11 → α12 → α13 → α14 → α15 → α16 → List va_W) (Lv : α1 → α2 → α3 → α4 → α5 → α6 → α7 → α8 → α9 → α10 → α11 → α12 → α13 → α14 → α15 → α16 → List (Nat × Value)) (Inv : α1 → α2 → α3 → α4 → α5 → α6 → α7 → α8 → α9 → α10 → α11 → α12 → α13 → α14 → α15 → α16 → Prop) (mu : α1 → α2 → α3 → α4 → α5 → α6 → α7 → α8 → α9 → α10 → α11 → α12 → α13 → α14 → α15 → α16 → Nat)
    (step : ∀ (a1 : α1) (a2 : α2) (a3 : α3) (a4 : α4) (a5 : α5) (a6 : α6) (a7 : α7) (a8 : α8) (a9 : α9) (a10 : α10) (a11 : α11) (a12 : α12) (a13 : α13) (a14 : α14) (a15 : α15) (a16 : α16), Inv a1 a2 a3 a4 a5 a6 a7 a8 a9 a10 a11 a12 a13 a14 a15 a16 → (∀ (b1 : α1) (b2 : α2) (b3 : α3) (b4 : α4) (b5 : α5) (b6 : α6) (b7 : α7) (b8 : α8) (b9 : α9) (b10 : α10) (b11 : α11) (b12 : α12) (b13 : α13) (b14 : α14) (b15 : α15) (b16 : α16), Inv b1 b2 b3 b4 b5 b6 b7 b8 b9 b10 b11 b12 b13 b14 b15 b16 → mu b1 b2 b3 b4 b5 b6 b7 b8 b9 b10 b11 b12 b13 b14 b15 b16 < mu a1 a2 a3 a4 a5 a6 a7 a8 a9 a10 a11 a12 a13 a14 a15 a16 → ∀ (H : Heap) (locs : List Loc) (ls : Array Slot), zS T A H0 s (Wd b1 b2 b3 b4 b5 b6 b7 b8 b9 b10 b11 b12 b13 b14 b15 b16) H locs → lv_has ls nL (Lv b1 b2 b3 b4 b5 b6 b7 b8 b9 b10 b11 b12 b13 b14 b15 b16) → W p l e R s m args below meth c H locs cells slots Q (F0 m pc ls [])) → ∀ (H : Heap) (locs : List Loc) (ls : Array Slot), zS T A H0 s (Wd a1 a2 a3 a4 a5 a6 a7 a8 a9 a10 a11 a12 a13 a14 a15 a16) H locs → lv_has ls nL (Lv a1 a2 a3 a4 a5 a6 a7 a8 a9 a10 a11 a12 a13 a14 a15 a16) → W p l e R s m args below meth c H locs cells slots Q (F0 m pc ls []))
    (a1 : α1) (a2 : α2) (a3 : α3) (a4 : α4) (a5 : α5) (a6 : α6) (a7 : α7) (a8 : α8) (a9 : α9) (a10 : α10) (a11 : α11) (a12 : α12) (a13 : α13) (a14 : α14) (a15 : α15) (a16 : α16) (ha : Inv a1 a2 a3 a4 a5 a6 a7 a8 a9 a10 a11 a12 a13 a14 a15 a16) {H : Heap} {locs : List Loc} {ls : Array Slot} (G : zS T A H0 s (Wd a1 a2 a3 a4 a5 a6 a7 a8 a9 a10 a11 a12 a13 a14 a15 a16) H locs) (hl : lv_has ls nL (Lv a1 a2 a3 a4 a5 a6 a7 a8 a9 a10 a11 a12 a13 a14 a15 a16)) : W p l e R s m args below meth c H locs cells slots Q (F0 m pc ls []) :=
  z_loop (α := α1 × α2 × α3 × α4 × α5 × α6 × α7 × α8 × α9 × α10 × α11 × α12 × α13 × α14 × α15 × α16) pc (fun t => Wd t.1 t.2.1 t.2.2.1 t.2.2.2.1 t.2.2.2.2.1 t.2.2.2.2.2.1 t.2.2.2.2.2.2.1 t.2.2.2.2.2.2.2.1 t.2.2.2.2.2.2.2.2.1 t.2.2.2.2.2.2.2.2.2.1 t.2.2.2.2.2.2.2.2.2.2.1 t.2.2.2.2.2.2.2.2.2.2.2.1 t.2.2.2.2.2.2.2.2.2.2.2.2.1 t.2.2.2.2.2.2.2.2.2.2.2.2.2.1 t.2.2.2.2.2.2.2.2.2.2.2.2.2.2.1 t.2.2.2.2.2.2.2.2.2.2.2.2.2.2.2) (fun t => Lv t.1 t.2.1 t.2.2.1 t.2.2.2.1 t.2.2.2.2.1 t.2.2.2.2.2.1 t.2.2.2.2.2.2.1 t.2.2.2.2.2.2.2.1 t.2.2.2.2.2.2.2.2.1 t.2.2.2.2.2.2.2.2.2.1 t.2.2.2.2.2.2.2.2.2.2.1 t.2.2.2.2.2.2.2.2.2.2.2.1 t.2.2.2.2.2.2.2.2.2.2.2.2.1 t.2.2.2.2.2.2.2.2.2.2.2.2.2.1 t.2.2.2.2.2.2.2.2.2.2.2.2.2.2.1 t.2.2.2.2.2.2.2.2.2.2.2.2.2.2.2) (fun t => Inv t.1 t.2.1 t.2.2.1 t.2.2.2.1 t.2.2.2.2.1 t.2.2.2.2.2.1 t.2.2.2.2.2.2.1 t.2.2.2.2.2.2.2.1 t.2.2.2.2.2.2.2.2.1 t.2.2.2.2.2.2.2.2.2.1 t.2.2.2.2.2.2.2.2.2.2.1 t.2.2.2.2.2.2.2.2.2.2.2.1 t.2.2.2.2.2.2.2.2.2.2.2.2.1 t.2.2.2.2.2.2.2.2.2.2.2.2.2.1 t.2.2.2.2.2.2.2.2.2.2.2.2.2.2.1 t.2.2.2.2.2.2.2.2.2.2.2.2.2.2.2) (fun t => mu t.1 t.2.1 t.2.2.1 t.2.2.2.1 t.2.2.2.2.1 t.2.2.2.2.2.1 t.2.2.2.2.2.2.1 t.2.2.2.2.2.2.2.1 t.2.2.2.2.2.2.2.2.1 t.2.2.2.2.2.2.2.2.2.1 t.2.2.2.2.2.2.2.2.2.2.1 t.2.2.2.2.2.2.2.2.2.2.2.1 t.2.2.2.2.2.2.2.2.2.2.2.2.1 t.2.2.2.2.2.2.2.2.2.2.2.2.2.1 t.2.2.2.2.2.2.2.2.2.2.2.2.2.2.1 t.2.2.2.2.2.2.2.2.2.2.2.2.2.2.2) (fun t h ih => step t.1 t.2.1 t.2.2.1 t.2.2.2.1 t.2.2.2.2.1 t.2.2.2.2.2.1 t.2.2.2.2.2.2.1 t.2.2.2.2.2.2.2.1 t.2.2.2.2.2.2.2.2.1 t.2.2.2.2.2.2.2.2.2.1 t.2.2.2.2.2.2.2.2.2.2.1 t.2.2.2.2.2.2.2.2.2.2.2.1 t.2.2.2.2.2.2.2.2.2.2.2.2.1 t.2.2.2.2.2.2.2.2.2.2.2.2.2.1 t.2.2.2.2.2.2.2.2.2.2.2.2.2.2.1 t.2.2.2.2.2.2.2.2.2.2.2.2.2.2.2 h (fun b1 b2 b3 b4 b5 b6 b7 b8 b9 b10 b11 b12 b13 b14 b15 b16 hb hlt => ih (b1, b2, b3, b4, b5, b6, b7, b8, b9, b10, b11, b12, b13, b14, b15, b16) hb hlt)) (a1, a2, a3, a4, a5, a6, a7, a8, a9, a10, a11, a12, a13, a14, a15, a16) ha G hl
end
section
variable {p : Program} {l : Launch} {e : Env} {R : Room} {s : State} {m : MethodId} {args : Array Value} {below : List Frame} {meth : Method} {c : Code} {cells slots : Nat} {Q : State → Prop}
variable {nL : Nat} {T : zTy} {A : Nat → Prop} {H0 : Heap}
theorem z_lp18 {α1 α2 α3 α4 α5 α6 α7 α8 α9 α10 α11 α12 α13 α14 α15 α16 α17 α18 : Type} (pc : Nat) (Wd : α1 → α2 → α3 → α4 → α5 → α6 → α7 → α8 → α9 → α10 → α11 → α12 → α13 → α14 → α15 → α16 → α17 → α18 → List va_W) (Lv : α1 → α2 → α3 → α4 → α5 → α6 → α7 → α8 → α9 → α10 → α11 → α12 → α13 → α14 → α15 → α16 → α17 → α18 → List (Nat × Value)) (Inv : α1 → α2 → α3 → α4 → α5 → α6 → α7 → α8 → α9 → α10 → α11 → α12 → α13 → α14 → α15 → α16 → α17 → α18 → Prop) (mu : α1 → α2 → α3 → α4 → α5 → α6 → α7 → α8 → α9 → α10 → α11 → α12 → α13 → α14 → α15 → α16 → α17 → α18 → Nat)
    (step : ∀ (a1 : α1) (a2 : α2) (a3 : α3) (a4 : α4) (a5 : α5) (a6 : α6) (a7 : α7) (a8 : α8) (a9 : α9) (a10 : α10) (a11 : α11) (a12 : α12) (a13 : α13) (a14 : α14) (a15 : α15) (a16 : α16) (a17 : α17) (a18 : α18), Inv a1 a2 a3 a4 a5 a6 a7 a8 a9 a10 a11 a12 a13 a14 a15 a16 a17 a18 → (∀ (b1 : α1) (b2 : α2) (b3 : α3) (b4 : α4) (b5 : α5) (b6 : α6) (b7 : α7) (b8 : α8) (b9 : α9) (b10 : α10) (b11 : α11) (b12 : α12) (b13 : α13) (b14 : α14) (b15 : α15) (b16 : α16) (b17 : α17) (b18 : α18), Inv b1 b2 b3 b4 b5 b6 b7 b8 b9 b10 b11 b12 b13 b14 b15 b16 b17 b18 → mu b1 b2 b3 b4 b5 b6 b7 b8 b9 b10 b11 b12 b13 b14 b15 b16 b17 b18 < mu a1 a2 a3 a4 a5 a6 a7 a8 a9 a10 a11 a12 a13 a14 a15 a16 a17 a18 → ∀ (H : Heap) (locs : List Loc) (ls : Array Slot), zS T A H0 s (Wd b1 b2 b3 b4 b5 b6 b7 b8 b9 b10 b11 b12 b13 b14 b15 b16 b17 b18) H locs → lv_has ls nL (Lv b1 b2 b3 b4 b5 b6 b7 b8 b9 b10 b11 b12 b13 b14 b15 b16 b17 b18) → W p l e R s m args below meth c H locs cells slots Q (F0 m pc ls [])) → ∀ (H : Heap) (locs : List Loc) (ls : Array Slot), zS T A H0 s (Wd a1 a2 a3 a4 a5 a6 a7 a8 a9 a10 a11 a12 a13 a14 a15 a16 a17 a18) H locs → lv_has ls nL (Lv a1 a2 a3 a4 a5 a6 a7 a8 a9 a10 a11 a12 a13 a14 a15 a16 a17 a18) → W p l e R s m args below meth c H locs cells slots Q (F0 m pc ls []))
    (a1 : α1) (a2 : α2) (a3 : α3) (a4 : α4) (a5 : α5) (a6 : α6) (a7 : α7) (a8 : α8) (a9 : α9) (a10 : α10) (a11 : α11) (a12 : α12) (a13 : α13) (a14 : α14) (a15 : α15) (a16 : α16) (a17 : α17) (a18 : α18) (ha : Inv a1 a2 a3 a4 a5 a6 a7 a8 a9 a10 a11 a12 a13 a14 a15 a16 a17 a18) {H : Heap} {locs : List Loc} {ls : Array Slot} (G : zS T A H0 s (Wd a1 a2 a3 a4 a5 a6 a7 a8 a9 a10 a11 a12 a13 a14 a15 a16 a17 a18) H locs) (hl : lv_has ls nL (Lv a1 a2 a3 a4 a5 a6 a7 a8 a9 a10 a11 a12 a13 a14 a15 a16 a17 a18)) : W p l e R s m args below meth c H locs cells slots Q (F0 m pc ls []) :=
  z_loop (α := α1 × α2 × α3 × α4 × α5 × α6 × α7 × α8 × α9 × α10 × α11 × α12 × α13 × α14 × α15 × α16 × α17 × α18) pc (fun t => Wd t.1 t.2.1 t.2.2.1 t.2.2.2.1 t.2.2.2.2.1 t.2.2.2.2.2.1 t.2.2.2.2.2.2.1 t.2.2.2.2.2.2.2.1 t.2.2.2.2.2.2.2.2.1 t.2.2.2.2.2.2.2.2.2.1 t.2.2.2.2.2.2.2.2.2.2.1 t.2.2.2.2.2.2.2.2.2.2.2.1 t.2.2.2.2.2.2.2.2.2.2.2.2.1 t.2.2.2.2.2.2.2.2.2.2.2.2.2.1 t.2.2.2.2.2.2.2.2.2.2.2.2.2.2.1 t.2.2.2.2.2.2.2.2.2.2.2.2.2.2.2.1 t.2.2.2.2.2.2.2.2.2.2.2.2.2.2.2.2.1 t.2.2.2.2.2.2.2.2.2.2.2.2.2.2.2.2.2) (fun t => Lv t.1 t.2.1 t.2.2.1 t.2.2.2.1 t.2.2.2.2.1 t.2.2.2.2.2.1 t.2.2.2.2.2.2.1 t.2.2.2.2.2.2.2.1 t.2.2.2.2.2.2.2.2.1 t.2.2.2.2.2.2.2.2.2.1 t.2.2.2.2.2.2.2.2.2.2.1 t.2.2.2.2.2.2.2.2.2.2.2.1 t.2.2.2.2.2.2.2.2.2.2.2.2.1 t.2.2.2.2.2.2.2.2.2.2.2.2.2.1 t.2.2.2.2.2.2.2.2.2.2.2.2.2.2.1 t.2.2.2.2.2.2.2.2.2.2.2.2.2.2.2.1 t.2.2.2.2.2.2.2.2.2.2.2.2.2.2.2.2.1 t.2.2.2.2.2.2.2.2.2.2.2.2.2.2.2.2.2) (fun t => Inv t.1 t.2.1 t.2.2.1 t.2.2.2.1 t.2.2.2.2.1 t.2.2.2.2.2.1 t.2.2.2.2.2.2.1 t.2.2.2.2.2.2.2.1 t.2.2.2.2.2.2.2.2.1 t.2.2.2.2.2.2.2.2.2.1 t.2.2.2.2.2.2.2.2.2.2.1 t.2.2.2.2.2.2.2.2.2.2.2.1 t.2.2.2.2.2.2.2.2.2.2.2.2.1 t.2.2.2.2.2.2.2.2.2.2.2.2.2.1 t.2.2.2.2.2.2.2.2.2.2.2.2.2.2.1 t.2.2.2.2.2.2.2.2.2.2.2.2.2.2.2.1 t.2.2.2.2.2.2.2.2.2.2.2.2.2.2.2.2.1 t.2.2.2.2.2.2.2.2.2.2.2.2.2.2.2.2.2) (fun t => mu t.1 t.2.1 t.2.2.1 t.2.2.2.1 t.2.2.2.2.1 t.2.2.2.2.2.1 t.2.2.2.2.2.2.1 t.2.2.2.2.2.2.2.1 t.2.2.2.2.2.2.2.2.1 t.2.2.2.2.2.2.2.2.2.1 t.2.2.2.2.2.2.2.2.2.2.1 t.2.2.2.2.2.2.2.2.2.2.2.1 t.2.2.2.2.2.2.2.2.2.2.2.2.1 t.2.2.2.2.2.2.2.2.2.2.2.2.2.1 t.2.2.2.2.2.2.2.2.2.2.2.2.2.2.1 t.2.2.2.2.2.2.2.2.2.2.2.2.2.2.2.1 t.2.2.2.2.2.2.2.2.2.2.2.2.2.2.2.2.1 t.2.2.2.2.2.2.2.2.2.2.2.2.2.2.2.2.2) (fun t h ih => step t.1 t.2.1 t.2.2.1 t.2.2.2.1 t.2.2.2.2.1 t.2.2.2.2.2.1 t.2.2.2.2.2.2.1 t.2.2.2.2.2.2.2.1 t.2.2.2.2.2.2.2.2.1 t.2.2.2.2.2.2.2.2.2.1 t.2.2.2.2.2.2.2.2.2.2.1 t.2.2.2.2.2.2.2.2.2.2.2.1 t.2.2.2.2.2.2.2.2.2.2.2.2.1 t.2.2.2.2.2.2.2.2.2.2.2.2.2.1 t.2.2.2.2.2.2.2.2.2.2.2.2.2.2.1 t.2.2.2.2.2.2.2.2.2.2.2.2.2.2.2.1 t.2.2.2.2.2.2.2.2.2.2.2.2.2.2.2.2.1 t.2.2.2.2.2.2.2.2.2.2.2.2.2.2.2.2.2 h (fun b1 b2 b3 b4 b5 b6 b7 b8 b9 b10 b11 b12 b13 b14 b15 b16 b17 b18 hb hlt => ih (b1, b2, b3, b4, b5, b6, b7, b8, b9, b10, b11, b12, b13, b14, b15, b16, b17, b18) hb hlt)) (a1, a2, a3, a4, a5, a6, a7, a8, a9, a10, a11, a12, a13, a14, a15, a16, a17, a18) ha G hl
end
section
variable {p : Program} {l : Launch} {e : Env} {R : Room} {s : State} {m : MethodId} {args : Array Value} {below : List Frame} {meth : Method} {c : Code} {cells slots : Nat} {Q : State → Prop}
variable {nL : Nat} {T : zTy} {A : Nat → Prop} {H0 : Heap}
theorem zMt1 {α1 : Type} (pc : Nat) (Wd : α1 → List va_W) (Lv : α1 → List (Nat × Value)) (Inv : α1 → Prop) {H1 : Heap} {locs1 : List Loc} {ls1 : Array Slot} {bs1 : List va_W} {lv1 : List (Nat × Value)} {F : JFrame} (_ : zS T A H0 s bs1 H1 locs1) (_ : lv_has ls1 nL lv1)
    (body : ∀ (a1 : α1), Inv a1 → ∀ (H : Heap) (locs : List Loc) (ls : Array Slot), zS T A H0 s (Wd a1) H locs → lv_has ls nL (Lv a1) → W p l e R s m args below meth c H locs cells slots Q (F0 m pc ls []))
    (k : (∀ (a1 : α1), Inv a1 → ∀ (H : Heap) (locs : List Loc) (ls : Array Slot), zS T A H0 s (Wd a1) H locs → lv_has ls nL (Lv a1) → W p l e R s m args below meth c H locs cells slots Q (F0 m pc ls [])) → W p l e R s m args below meth c H1 locs1 cells slots Q F) : W p l e R s m args below meth c H1 locs1 cells slots Q F := k body
end
section
variable {p : Program} {l : Launch} {e : Env} {R : Room} {s : State} {m : MethodId} {args : Array Value} {below : List Frame} {meth : Method} {c : Code} {cells slots : Nat} {Q : State → Prop}
variable {nL : Nat} {T : zTy} {A : Nat → Prop} {H0 : Heap}
theorem zMt2 {α1 α2 : Type} (pc : Nat) (Wd : α1 → α2 → List va_W) (Lv : α1 → α2 → List (Nat × Value)) (Inv : α1 → α2 → Prop) {H1 : Heap} {locs1 : List Loc} {ls1 : Array Slot} {bs1 : List va_W} {lv1 : List (Nat × Value)} {F : JFrame} (_ : zS T A H0 s bs1 H1 locs1) (_ : lv_has ls1 nL lv1)
    (body : ∀ (a1 : α1) (a2 : α2), Inv a1 a2 → ∀ (H : Heap) (locs : List Loc) (ls : Array Slot), zS T A H0 s (Wd a1 a2) H locs → lv_has ls nL (Lv a1 a2) → W p l e R s m args below meth c H locs cells slots Q (F0 m pc ls []))
    (k : (∀ (a1 : α1) (a2 : α2), Inv a1 a2 → ∀ (H : Heap) (locs : List Loc) (ls : Array Slot), zS T A H0 s (Wd a1 a2) H locs → lv_has ls nL (Lv a1 a2) → W p l e R s m args below meth c H locs cells slots Q (F0 m pc ls [])) → W p l e R s m args below meth c H1 locs1 cells slots Q F) : W p l e R s m args below meth c H1 locs1 cells slots Q F := k body
end
section
variable {p : Program} {l : Launch} {e : Env} {R : Room} {s : State} {m : MethodId} {args : Array Value} {below : List Frame} {meth : Method} {c : Code} {cells slots : Nat} {Q : State → Prop}
variable {nL : Nat} {T : zTy} {A : Nat → Prop} {H0 : Heap}
theorem zMt9 {α1 α2 α3 α4 α5 α6 α7 α8 α9 : Type} (pc : Nat) (Wd : α1 → α2 → α3 → α4 → α5 → α6 → α7 → α8 → α9 → List va_W) (Lv : α1 → α2 → α3 → α4 → α5 → α6 → α7 → α8 → α9 → List (Nat × Value)) (Inv : α1 → α2 → α3 → α4 → α5 → α6 → α7 → α8 → α9 → Prop) {H1 : Heap} {locs1 : List Loc} {ls1 : Array Slot} {bs1 : List va_W} {lv1 : List (Nat × Value)} {F : JFrame} (_ : zS T A H0 s bs1 H1 locs1) (_ : lv_has ls1 nL lv1)
    (body : ∀ (a1 : α1) (a2 : α2) (a3 : α3) (a4 : α4) (a5 : α5) (a6 : α6) (a7 : α7) (a8 : α8) (a9 : α9), Inv a1 a2 a3 a4 a5 a6 a7 a8 a9 → ∀ (H : Heap) (locs : List Loc) (ls : Array Slot), zS T A H0 s (Wd a1 a2 a3 a4 a5 a6 a7 a8 a9) H locs → lv_has ls nL (Lv a1 a2 a3 a4 a5 a6 a7 a8 a9) → W p l e R s m args below meth c H locs cells slots Q (F0 m pc ls []))
    (k : (∀ (a1 : α1) (a2 : α2) (a3 : α3) (a4 : α4) (a5 : α5) (a6 : α6) (a7 : α7) (a8 : α8) (a9 : α9), Inv a1 a2 a3 a4 a5 a6 a7 a8 a9 → ∀ (H : Heap) (locs : List Loc) (ls : Array Slot), zS T A H0 s (Wd a1 a2 a3 a4 a5 a6 a7 a8 a9) H locs → lv_has ls nL (Lv a1 a2 a3 a4 a5 a6 a7 a8 a9) → W p l e R s m args below meth c H locs cells slots Q (F0 m pc ls [])) → W p l e R s m args below meth c H1 locs1 cells slots Q F) : W p l e R s m args below meth c H1 locs1 cells slots Q F := k body
end
section
variable {p : Program} {l : Launch} {e : Env} {R : Room} {s : State} {m : MethodId} {args : Array Value} {below : List Frame} {meth : Method} {c : Code} {cells slots : Nat} {Q : State → Prop}
variable {nL : Nat} {T : zTy} {A : Nat → Prop} {H0 : Heap}
theorem z_arg {cc : ByteArray} {b L pc i : Nat} {xs : Nat → Int32} {ls : Array Slot} {rest : List Value} (hx : p.tables.exec = Jvm.exec) (hb : c.code = cc) (hX : va_X b L xs s H0) (hbl : b < H0.size) (hbA : ¬ A b) {H : Heap} {locs : List Loc} (hS : va_S A H0 H locs) (h0 : ls[0]? = some (.val (.ref b))) (h3 : ls[3]? = some (.val (.int (nI i)))) (k : Nat) {kI : Int} (hk : Int32.ofInt kI = nI k) (hi : i + k < L ∧ L < 2147483648) (d0 : decode cc pc = .ok (.aload_n 0, 1)) (d1 : decode cc (pc + 1) = .ok (.iload_n 3, 1)) (d2 : decode cc (pc + 2) = .ok (.iconst kI, 1)) (d3 : decode cc (pc + 3) = .ok (.iadd, 1)) (d4 : decode cc (pc + 4) = .ok (.iaload, 1))
    (kk : W p l e R s m args below meth c H locs cells slots Q (F0 m (pc + 5) ls (.int (xs (i + k)) :: rest))) : W p l e R s m args below meth c H locs cells slots Q (F0 m pc ls rest) := by
  refine lv_aload_n hx hb d0 rfl h0 ?_
  refine lv_iload_n hx hb d1 rfl h3 ?_
  refine lv_iconst (v := nI k) hx hb d2 hk ?_
  refine lv_iadd hx hb d3 ?_
  rw [nI_add]
  refine va_sld hx hb hX hbl hbA hS (vp_in_nI (by omega) (by omega)) d4 ?_
  rw [nI_clamp (by omega)]
  exact kk
end
section
variable {p : Program} {l : Launch} {e : Env} {R : Room} {s : State} {m : MethodId} {args : Array Value} {below : List Frame} {meth : Method} {c : Code} {cells slots : Nat} {Q : State → Prop}
variable {nL : Nat} {T : zTy} {A : Nat → Prop} {H0 : Heap}
variable {pc : Nat} {ls : Array Slot} {rest : List Value} {H : Heap} {locs : List Loc}
theorem zTe {x v : Int32} (hq : x = v) (k : W p l e R s m args below meth c H locs cells slots Q (F0 m pc ls (.int v :: rest))) : W p l e R s m args below meth c H locs cells slots Q (F0 m pc ls (.int x :: rest)) := by
  subst hq; exact k
theorem zTl {x v : Int64} (hq : x = v) (k : W p l e R s m args below meth c H locs cells slots Q (F0 m pc ls (.long v :: rest))) : W p l e R s m args below meth c H locs cells slots Q (F0 m pc ls (.long x :: rest)) := by
  subst hq; exact k
theorem zTq {x v : Option Nat} (hq : x = v) (k : W p l e R s m args below meth c H locs cells slots Q (F0 m pc ls (va_rf v :: rest))) : W p l e R s m args below meth c H locs cells slots Q (F0 m pc ls (va_rf x :: rest)) := by
  subst hq; exact k
theorem zHide {F : JFrame} (k : ∀ Q9 : State → Prop, Q9 = Q → W p l e R s m args below meth c H locs cells slots Q9 F) : W p l e R s m args below meth c H locs cells slots Q F := k Q rfl
theorem z_back {F : JFrame} {Q9 : State → Prop} (hq : Q9 = Q) (k : W p l e R s m args below meth c H locs cells slots Q F) : W p l e R s m args below meth c H locs cells slots Q9 F := by
  subst hq; exact k
theorem zGe {br b1 B bs' : List va_W} (hb : b1 = B) (G : zS T A H0 s (br ++ b1) H locs) (hf : br ++ B = bs') : zS T A H0 s bs' H locs := by
  subst hb; subst hf; exact G
end
theorem zmems {ws : List Cond} (ps : List Nat) (hp : ws = ps.filterMap (fun i => lw_tbl[i]?)) (h : ws.all goodWord = true) : ∀ w ∈ ws, w ∈ zT := by
  intro w hw
  have h1 := List.all_eq_true.mp h w hw
  rw [hp] at hw
  obtain ⟨i, -, hi⟩ := List.mem_filterMap.mp hw
  exact List.mem_filter.mpr ⟨List.mem_of_getElem? hi, h1⟩
theorem z_inc (a n : Nat) : nI a + Int32.ofInt n = nI (a + n) := by
  rw [← nI_add]
  congr 1
theorem z_iaddn {x y : Int32} (a b : Nat) (hx : x = nI a) (hy : y = nI b) : x + y = nI (a + b) := by rw [hx, hy, nI_add]
theorem z_imuln {x y : Int32} (a b : Nat) (hx : x = nI a) (hy : y = nI b) : x * y = nI (a * b) := by rw [hx, hy, pk_mul]
theorem z_bmod {n : Int} (h1 : -2147483648 ≤ n) (h2 : n < 2147483648) : n.bmod (2 ^ 32) = n := by
  rw [Int.bmod_eq_of_le (by omega) (by omega)]
theorem z_iaddI {x y : Int32} (h1 : -2147483648 ≤ x.toInt + y.toInt) (h2 : x.toInt + y.toInt < 2147483648) : (x + y).toInt = x.toInt + y.toInt := by rw [Int32.toInt_add]; exact z_bmod h1 h2
theorem z_isubI {x y : Int32} (h1 : -2147483648 ≤ x.toInt - y.toInt) (h2 : x.toInt - y.toInt < 2147483648) : (x - y).toInt = x.toInt - y.toInt := by rw [Int32.toInt_sub]; exact z_bmod h1 h2
theorem z_imulI {x y : Int32} (h1 : -2147483648 ≤ x.toInt * y.toInt) (h2 : x.toInt * y.toInt < 2147483648) : (x * y).toInt = x.toInt * y.toInt := by rw [Int32.toInt_mul]; exact z_bmod h1 h2
theorem fa_lt (a b : Int32) : a < b ↔ a.toInt < b.toInt := Int32.lt_iff_toInt_lt
theorem fa_le (a b : Int32) : a ≤ b ↔ a.toInt ≤ b.toInt := Int32.le_iff_toInt_le
theorem fa_eq (a b : Int32) : a = b ↔ a.toInt = b.toInt := Int32.toInt_inj.symm
def zHd (P : Prop) : Prop := P
theorem zmem1 {L : List Cond} {w : Cond} (hL : ∀ w ∈ L, w ∈ lw_tbl) (i : Nat) (h : L[i]? = some w) (hg : goodWord w = true) : w ∈ zT := List.mem_filter.mpr ⟨hL w (List.mem_of_getElem? h), hg⟩
theorem zsub_1 : ∀ w ∈ tables_1_1, w ∈ lw_tbl := fun w h => List.mem_append_right _ (List.mem_append_left _ h)
theorem zsub_2 : ∀ w ∈ tables_1_2, w ∈ lw_tbl := fun w h => List.mem_append_right _ (List.mem_append_right _ (List.mem_append_left _ h))
theorem zsub_3 : ∀ w ∈ tables_1_3, w ∈ lw_tbl := fun w h => List.mem_append_right _ (List.mem_append_right _ (List.mem_append_right _ (List.mem_append_left _ h)))
theorem zsub_4 : ∀ w ∈ tables_1_4, w ∈ lw_tbl := fun w h => List.mem_append_right _ (List.mem_append_right _ (List.mem_append_right _ (List.mem_append_right _ (List.mem_append_left _ h))))
theorem zsub_5 : ∀ w ∈ tables_1_5, w ∈ lw_tbl := fun w h => List.mem_append_right _ (List.mem_append_right _ (List.mem_append_right _ (List.mem_append_right _ (List.mem_append_right _ (List.mem_append_left _ h)))))
theorem zsub_6 : ∀ w ∈ tables_1_6, w ∈ lw_tbl := fun w h => List.mem_append_right _ (List.mem_append_right _ (List.mem_append_right _ (List.mem_append_right _ (List.mem_append_right _ (List.mem_append_right _ (List.mem_append_left _ h))))))
theorem zsub_7 : ∀ w ∈ tables_1_7, w ∈ lw_tbl := fun w h => List.mem_append_right _ (List.mem_append_right _ (List.mem_append_right _ (List.mem_append_right _ (List.mem_append_right _ (List.mem_append_right _ (List.mem_append_right _ (List.mem_append_left _ h)))))))
theorem zsub_8 : ∀ w ∈ tables_1_8, w ∈ lw_tbl := fun w h => List.mem_append_right _ (List.mem_append_right _ (List.mem_append_right _ (List.mem_append_right _ (List.mem_append_right _ (List.mem_append_right _ (List.mem_append_right _ (List.mem_append_right _ h)))))))
theorem clX0 : zCl 0 RX0 TX0 10 tyX0 := ⟨rfl, zmems [472, 474, 476, 478, 480, 482, 484, 486, 488, 490] (by decide +kernel) (by decide +kernel), tyX0_ok, nmX0⟩
theorem clX1 : zCl 1 RX1 TX1 11 tyX1 := ⟨rfl, zmems [389, 391, 393, 395, 397, 399, 401, 403, 405, 407, 409] (by decide +kernel) (by decide +kernel), tyX1_ok, nmX1⟩
theorem clX2 : zCl 2 RX2 TX2 4 tyX2 := ⟨rfl, zmems [211, 213, 215, 217] (by decide +kernel) (by decide +kernel), tyX2_ok, nmX2⟩
theorem clX3 : zCl 3 RX3 TX3 8 tyX3 := ⟨rfl, zmems [512, 514, 516, 518, 520, 522, 524, 526] (by decide +kernel) (by decide +kernel), tyX3_ok, nmX3⟩
theorem clX4 : zCl 4 RX4 TX4 6 tyX4 := ⟨rfl, zmems [179, 181, 183, 185, 187, 189] (by decide +kernel) (by decide +kernel), tyX4_ok, nmX4⟩
theorem clX5 : zCl 5 RX5 TX5 3 tyX5 := ⟨rfl, zmems [234, 236, 238] (by decide +kernel) (by decide +kernel), tyX5_ok, nmX5⟩
theorem clX6 : zCl 6 RX6 TX6 6 tyX6 := ⟨rfl, zmems [352, 354, 356, 358, 360, 362] (by decide +kernel) (by decide +kernel), tyX6_ok, nmX6⟩
theorem clX7 : zCl 7 RX7 TX7 13 tyX7 := ⟨rfl, zmems [302, 304, 306, 308, 310, 312, 314, 316, 318, 320, 322, 324, 326] (by decide +kernel) (by decide +kernel), tyX7_ok, nmX7⟩
theorem clX9 : zCl 8 RX9 TX9 8 tyX9 := ⟨rfl, zmems [254, 256, 258, 260, 262, 264, 266, 268] (by decide +kernel) (by decide +kernel), tyX9_ok, nmX9⟩
theorem clX10 : zCl 9 RX10 TX10 8 tyX10 := ⟨rfl, zmems [433, 435, 437, 439, 441, 443, 445, 447] (by decide +kernel) (by decide +kernel), tyX10_ok, nmX10⟩
theorem clX11 : zCl 10 RX11 TX11 11 tyX11 := ⟨rfl, zmems [540, 542, 544, 546, 548, 550, 552, 554, 556, 558, 560] (by decide +kernel) (by decide +kernel), tyX11_ok, nmX11⟩
theorem clX12 : zCl 11 RX12 TX12 43 tyX12 := ⟨rfl, zmems [1351, 1353, 1355, 1357, 1359, 1361, 1363, 1365, 1367, 1369, 1371, 1373, 1375, 1377, 1379, 1381, 1383, 1385, 1387, 1389, 1391, 1393, 1395, 1397, 1399, 1401, 1403, 1405, 1407, 1409, 1411, 1413, 1415, 1417, 1419, 1421, 1423, 1425, 1427, 1429, 1431, 1433, 1435] (by decide +kernel) (by decide +kernel), tyX12_ok, nmX12⟩
theorem z_uint {s : State} : ∀ x y : ClassId, va_RA s x .int → va_RA s y .int → x = y := fun x y h1 h2 => Option.some.inj (h1.symm.trans h2)
theorem z_ubyte {s : State} : ∀ x y : ClassId, va_RA s x .byte → va_RA s y .byte → x = y := fun x y h1 h2 => Option.some.inj (h1.symm.trans h2)
theorem z_uboolean {s : State} : ∀ x y : ClassId, va_RA s x .boolean → va_RA s y .boolean → x = y := fun x y h1 h2 => Option.some.inj (h1.symm.trans h2)
theorem m_im_obj : Cond.instanceMethod objectInit ∈ zT := zmem 139 (by decide +kernel) (by decide +kernel)
theorem m_co_obj : Cond.code objectInit ⟨#[0xb1]⟩ 1 none ∈ zT := zmem 140 (by decide +kernel) (by decide +kernel)
theorem m_ml_RX4_3 : Cond.methodLink RX4 3 objectInit ∈ zT := zmem1 zsub_1 40 rfl rfl
theorem m_ar_int : Cond.arrayClass .int ∈ zT := zmem1 zsub_1 80 rfl rfl
theorem m_fl_RX4_9 : Cond.fieldLink RX4 9 (TX4 2).1 (TX4 2).2.1 (TX4 2).2.2.1 ∈ zT := zmem1 zsub_1 52 rfl rfl
theorem m_fl_RX4_15 : Cond.fieldLink RX4 15 (TX4 3).1 (TX4 3).2.1 (TX4 3).2.2.1 ∈ zT := zmem1 zsub_1 54 rfl rfl
theorem m_fl_RX4_18 : Cond.fieldLink RX4 18 (TX4 4).1 (TX4 4).2.1 (TX4 4).2.2.1 ∈ zT := zmem1 zsub_1 56 rfl rfl
theorem m_fl_RX4_21 : Cond.fieldLink RX4 21 (TX4 5).1 (TX4 5).2.1 (TX4 5).2.2.1 ∈ zT := zmem1 zsub_1 63 rfl rfl
theorem m_ml_RX2_3 : Cond.methodLink RX2 3 objectInit ∈ zT := zmem1 zsub_1 87 rfl rfl
theorem m_fl_RX2_9 : Cond.fieldLink RX2 9 (TX2 1).1 (TX2 1).2.1 (TX2 1).2.2.1 ∈ zT := zmem1 zsub_1 92 rfl rfl
theorem m_fl_RX2_15 : Cond.fieldLink RX2 15 (TX2 2).1 (TX2 2).2.1 (TX2 2).2.2.1 ∈ zT := zmem1 zsub_1 94 rfl rfl
theorem m_fl_RX2_18 : Cond.fieldLink RX2 18 (TX2 3).1 (TX2 3).2.1 (TX2 3).2.2.1 ∈ zT := zmem1 zsub_1 96 rfl rfl
theorem m_ml_RX5_3 : Cond.methodLink RX5 3 objectInit ∈ zT := zmem1 zsub_1 113 rfl rfl
theorem m_fl_RX5_9 : Cond.fieldLink RX5 9 (TX5 1).1 (TX5 1).2.1 (TX5 1).2.2.1 ∈ zT := zmem1 zsub_1 117 rfl rfl
theorem m_fl_RX5_15 : Cond.fieldLink RX5 15 (TX5 2).1 (TX5 2).2.1 (TX5 2).2.2.1 ∈ zT := zmem1 zsub_1 119 rfl rfl
theorem m_ml_RX9_3 : Cond.methodLink RX9 3 objectInit ∈ zT := zmem1 zsub_1 33 rfl rfl
theorem m_ar_byte : Cond.arrayClass .byte ∈ zT := zmem1 zsub_1 79 rfl rfl
theorem m_fl_RX9_9 : Cond.fieldLink RX9 9 (TX9 0).1 (TX9 0).2.1 (TX9 0).2.2.1 ∈ zT := zmem1 zsub_1 128 rfl rfl
theorem m_fl_RX9_15 : Cond.fieldLink RX9 15 (TX9 3).1 (TX9 3).2.1 (TX9 3).2.2.1 ∈ zT := zmem1 zsub_1 134 rfl rfl
theorem m_fl_RX9_19 : Cond.fieldLink RX9 19 (TX9 4).1 (TX9 4).2.1 (TX9 4).2.2.1 ∈ zT := zmem1 zsub_1 136 rfl rfl
theorem m_cl_RX9_23 : Cond.classLink RX9 23 RX4 ∈ zT := zmem1 zsub_1 34 rfl rfl
theorem m_in_RX4 : Cond.instantiable RX4 6 ∈ zT := zmem1 zsub_1 36 rfl rfl
theorem m_ii_RX4 : Cond.initialized RX4 ∈ zT := zmem1 zsub_1 3 rfl rfl
theorem m_co_X4_init : Cond.code yX4_init cX4_init 1 none ∈ zT := zmem1 zsub_1 39 rfl rfl
theorem m_im_X4_init : Cond.instanceMethod yX4_init ∈ zT := zmem1 zsub_1 38 rfl rfl
theorem m_fl_RX9_26 : Cond.fieldLink RX9 26 (TX9 5).1 (TX9 5).2.1 (TX9 5).2.2.1 ∈ zT := zmem1 zsub_1 138 rfl rfl
theorem m_cl_RX9_30 : Cond.classLink RX9 30 RX2 ∈ zT := zmem1 zsub_1 81 rfl rfl
theorem m_in_RX2 : Cond.instantiable RX2 4 ∈ zT := zmem1 zsub_1 83 rfl rfl
theorem m_ii_RX2 : Cond.initialized RX2 ∈ zT := zmem1 zsub_1 4 rfl rfl
theorem m_co_X2_init : Cond.code yX2_init cX2_init 1 none ∈ zT := zmem1 zsub_1 86 rfl rfl
theorem m_im_X2_init : Cond.instanceMethod yX2_init ∈ zT := zmem1 zsub_1 85 rfl rfl
theorem m_fl_RX9_33 : Cond.fieldLink RX9 33 (TX9 6).1 (TX9 6).2.1 (TX9 6).2.2.1 ∈ zT := zmem1 zsub_1 139 rfl rfl
theorem m_cl_RX9_37 : Cond.classLink RX9 37 RX5 ∈ zT := zmem1 zsub_1 107 rfl rfl
theorem m_in_RX5 : Cond.instantiable RX5 3 ∈ zT := zmem1 zsub_1 109 rfl rfl
theorem m_ii_RX5 : Cond.initialized RX5 ∈ zT := zmem1 zsub_1 5 rfl rfl
theorem m_co_X5_init : Cond.code yX5_init cX5_init 1 none ∈ zT := zmem1 zsub_1 112 rfl rfl
theorem m_im_X5_init : Cond.instanceMethod yX5_init ∈ zT := zmem1 zsub_1 111 rfl rfl
theorem m_fl_RX9_40 : Cond.fieldLink RX9 40 (TX9 7).1 (TX9 7).2.1 (TX9 7).2.2.1 ∈ zT := zmem1 zsub_1 140 rfl rfl
theorem m_ml_RX6_3 : Cond.methodLink RX6 3 objectInit ∈ zT := zmem1 zsub_1 222 rfl rfl
theorem m_cl_RX6_9 : Cond.classLink RX6 9 RX4 ∈ zT := zmem1 zsub_1 223 rfl rfl
theorem m_fl_RX6_12 : Cond.fieldLink RX6 12 (TX6 0).1 (TX6 0).2.1 (TX6 0).2.2.1 ∈ zT := zmem1 zsub_1 225 rfl rfl
theorem m_fl_RX6_18 : Cond.fieldLink RX6 18 (TX6 1).1 (TX6 1).2.1 (TX6 1).2.2.1 ∈ zT := zmem1 zsub_1 227 rfl rfl
theorem m_fl_RX6_22 : Cond.fieldLink RX6 22 (TX6 2).1 (TX6 2).2.1 (TX6 2).2.2.1 ∈ zT := zmem1 zsub_1 231 rfl rfl
theorem m_fl_RX6_25 : Cond.fieldLink RX6 25 (TX6 5).1 (TX6 5).2.1 (TX6 5).2.2.1 ∈ zT := zmem1 zsub_1 238 rfl rfl
theorem m_ml_RX10_3 : Cond.methodLink RX10 3 objectInit ∈ zT := zmem1 zsub_2 64 rfl rfl
theorem m_cl_RX10_9 : Cond.classLink RX10 9 RX6 ∈ zT := zmem1 zsub_2 65 rfl rfl
theorem m_in_RX6 : Cond.instantiable RX6 6 ∈ zT := zmem1 zsub_1 218 rfl rfl
theorem m_ii_RX6 : Cond.initialized RX6 ∈ zT := zmem1 zsub_1 7 rfl rfl
theorem m_co_X6_init : Cond.code yX6_init cX6_init 1 none ∈ zT := zmem1 zsub_1 221 rfl rfl
theorem m_im_X6_init : Cond.instanceMethod yX6_init ∈ zT := zmem1 zsub_1 220 rfl rfl
theorem m_fl_RX10_12 : Cond.fieldLink RX10 12 (TX10 0).1 (TX10 0).2.1 (TX10 0).2.2.1 ∈ zT := zmem1 zsub_2 67 rfl rfl
theorem m_fl_RX10_18 : Cond.fieldLink RX10 18 (TX10 1).1 (TX10 1).2.1 (TX10 1).2.2.1 ∈ zT := zmem1 zsub_2 68 rfl rfl
theorem m_fl_RX10_22 : Cond.fieldLink RX10 22 (TX10 2).1 (TX10 2).2.1 (TX10 2).2.2.1 ∈ zT := zmem1 zsub_2 70 rfl rfl
theorem m_ml_RX1_3 : Cond.methodLink RX1 3 objectInit ∈ zT := zmem1 zsub_2 17 rfl rfl
theorem m_cl_RX1_9 : Cond.classLink RX1 9 RX6 ∈ zT := zmem1 zsub_2 18 rfl rfl
theorem m_fl_RX1_12 : Cond.fieldLink RX1 12 (TX1 0).1 (TX1 0).2.1 (TX1 0).2.2.1 ∈ zT := zmem1 zsub_2 22 rfl rfl
theorem m_fl_RX1_18 : Cond.fieldLink RX1 18 (TX1 1).1 (TX1 1).2.1 (TX1 1).2.2.1 ∈ zT := zmem1 zsub_2 24 rfl rfl
theorem m_cl_RX1_22 : Cond.classLink RX1 22 RX4 ∈ zT := zmem1 zsub_2 20 rfl rfl
theorem m_fl_RX1_25 : Cond.fieldLink RX1 25 (TX1 3).1 (TX1 3).2.1 (TX1 3).2.2.1 ∈ zT := zmem1 zsub_2 28 rfl rfl
theorem m_ml_RX0_5 : Cond.methodLink RX0 5 objectInit ∈ zT := zmem1 zsub_2 102 rfl rfl
theorem m_cl_RX0_11 : Cond.classLink RX0 11 RX4 ∈ zT := zmem1 zsub_2 103 rfl rfl
theorem m_fl_RX0_14 : Cond.fieldLink RX0 14 (TX0 2).1 (TX0 2).2.1 (TX0 2).2.2.1 ∈ zT := zmem1 zsub_2 110 rfl rfl
theorem m_fl_RX0_18 : Cond.fieldLink RX0 18 (TX0 4).1 (TX0 4).2.1 (TX0 4).2.2.1 ∈ zT := zmem1 zsub_2 113 rfl rfl
theorem m_fl_RX0_22 : Cond.fieldLink RX0 22 (TX0 5).1 (TX0 5).2.1 (TX0 5).2.2.1 ∈ zT := zmem1 zsub_2 114 rfl rfl
theorem m_fl_RX0_25 : Cond.fieldLink RX0 25 (TX0 6).1 (TX0 6).2.1 (TX0 6).2.2.1 ∈ zT := zmem1 zsub_2 115 rfl rfl
theorem m_fl_RX0_28 : Cond.fieldLink RX0 28 (TX0 7).1 (TX0 7).2.1 (TX0 7).2.2.1 ∈ zT := zmem1 zsub_2 116 rfl rfl
theorem m_fl_RX0_31 : Cond.fieldLink RX0 31 (TX0 8).1 (TX0 8).2.1 (TX0 8).2.2.1 ∈ zT := zmem1 zsub_2 117 rfl rfl
theorem m_fl_RX0_34 : Cond.fieldLink RX0 34 (TX0 9).1 (TX0 9).2.1 (TX0 9).2.2.1 ∈ zT := zmem1 zsub_2 118 rfl rfl
theorem m_ml_RX3_5 : Cond.methodLink RX3 5 objectInit ∈ zT := zmem1 zsub_2 145 rfl rfl
theorem m_fl_RX3_11 : Cond.fieldLink RX3 11 (TX3 1).1 (TX3 1).2.1 (TX3 1).2.2.1 ∈ zT := zmem1 zsub_2 147 rfl rfl
theorem m_fl_RX3_15 : Cond.fieldLink RX3 15 (TX3 2).1 (TX3 2).2.1 (TX3 2).2.2.1 ∈ zT := zmem1 zsub_2 149 rfl rfl
theorem m_fl_RX3_18 : Cond.fieldLink RX3 18 (TX3 6).1 (TX3 6).2.1 (TX3 6).2.2.1 ∈ zT := zmem1 zsub_2 157 rfl rfl
theorem m_fl_RX3_22 : Cond.fieldLink RX3 22 (TX3 7).1 (TX3 7).2.1 (TX3 7).2.2.1 ∈ zT := zmem1 zsub_2 158 rfl rfl
theorem m_ml_RX7_3 : Cond.methodLink RX7 3 objectInit ∈ zT := zmem1 zsub_1 164 rfl rfl
theorem m_cl_RX7_9 : Cond.classLink RX7 9 RX4 ∈ zT := zmem1 zsub_1 165 rfl rfl
theorem m_fl_RX7_12 : Cond.fieldLink RX7 12 (TX7 0).1 (TX7 0).2.1 (TX7 0).2.2.1 ∈ zT := zmem1 zsub_1 171 rfl rfl
theorem m_cl_RX7_18 : Cond.classLink RX7 18 RX2 ∈ zT := zmem1 zsub_1 167 rfl rfl
theorem m_fl_RX7_21 : Cond.fieldLink RX7 21 (TX7 1).1 (TX7 1).2.1 (TX7 1).2.2.1 ∈ zT := zmem1 zsub_1 173 rfl rfl
theorem m_cl_RX7_25 : Cond.classLink RX7 25 RX5 ∈ zT := zmem1 zsub_1 169 rfl rfl
theorem m_fl_RX7_28 : Cond.fieldLink RX7 28 (TX7 2).1 (TX7 2).2.1 (TX7 2).2.2.1 ∈ zT := zmem1 zsub_1 175 rfl rfl
theorem m_fl_RX7_32 : Cond.fieldLink RX7 32 (TX7 5).1 (TX7 5).2.1 (TX7 5).2.2.1 ∈ zT := zmem1 zsub_1 181 rfl rfl
theorem kJ_RX9_25 {R : Room} {s : State} {args : Array Value} {d mc ms : Nat} (hX : zX s) (hts : ∀ w ∈ zT, w.before args s = true) (h1 : d + 1 ≤ R.frames) (h2 : 8 + (1 + 11) + 40 * d ≤ R.locals) : va_CN R s args RX9 25 yX4_init RX11 cX4_init 1 none (zW yX4_init cX4_init 1 none) (zR d mc ms) mc ms 0 ∧ yX4_init.name = "<init>" ∧ (Cond.instanceMethod yX4_init).before args s = true := z_cwJ hts m_co_X4_init (hX.1 (RX9, 25, yX4_init, RX11) (List.mem_of_getElem? (i := 14) rfl)) m_im_X4_init m_ii_RX4 rfl (by decide +kernel) h1 h2
theorem kJ_RX9_32 {R : Room} {s : State} {args : Array Value} {d mc ms : Nat} (hX : zX s) (hts : ∀ w ∈ zT, w.before args s = true) (h1 : d + 1 ≤ R.frames) (h2 : 8 + (1 + 11) + 40 * d ≤ R.locals) : va_CN R s args RX9 32 yX2_init RX11 cX2_init 1 none (zW yX2_init cX2_init 1 none) (zR d mc ms) mc ms 0 ∧ yX2_init.name = "<init>" ∧ (Cond.instanceMethod yX2_init).before args s = true := z_cwJ hts m_co_X2_init (hX.1 (RX9, 32, yX2_init, RX11) (List.mem_of_getElem? (i := 15) rfl)) m_im_X2_init m_ii_RX2 rfl (by decide +kernel) h1 h2
theorem kJ_RX9_39 {R : Room} {s : State} {args : Array Value} {d mc ms : Nat} (hX : zX s) (hts : ∀ w ∈ zT, w.before args s = true) (h1 : d + 1 ≤ R.frames) (h2 : 8 + (1 + 11) + 40 * d ≤ R.locals) : va_CN R s args RX9 39 yX5_init RX11 cX5_init 1 none (zW yX5_init cX5_init 1 none) (zR d mc ms) mc ms 0 ∧ yX5_init.name = "<init>" ∧ (Cond.instanceMethod yX5_init).before args s = true := z_cwJ hts m_co_X5_init (hX.1 (RX9, 39, yX5_init, RX11) (List.mem_of_getElem? (i := 16) rfl)) m_im_X5_init m_ii_RX5 rfl (by decide +kernel) h1 h2
theorem kJ_RX6_11 {R : Room} {s : State} {args : Array Value} {d mc ms : Nat} (hX : zX s) (hts : ∀ w ∈ zT, w.before args s = true) (h1 : d + 1 ≤ R.frames) (h2 : 8 + (1 + 11) + 40 * d ≤ R.locals) : va_CN R s args RX6 11 yX4_init RX11 cX4_init 1 none (zW yX4_init cX4_init 1 none) (zR d mc ms) mc ms 0 ∧ yX4_init.name = "<init>" ∧ (Cond.instanceMethod yX4_init).before args s = true := z_cwJ hts m_co_X4_init (hX.1 (RX6, 11, yX4_init, RX11) (List.mem_of_getElem? (i := 10) rfl)) m_im_X4_init m_ii_RX4 rfl (by decide +kernel) h1 h2
theorem kJ_RX10_11 {R : Room} {s : State} {args : Array Value} {d mc ms : Nat} (hX : zX s) (hts : ∀ w ∈ zT, w.before args s = true) (h1 : d + 1 ≤ R.frames) (h2 : 8 + (1 + 11) + 40 * d ≤ R.locals) : va_CN R s args RX10 11 yX6_init RX11 cX6_init 1 none (zW yX6_init cX6_init 1 none) (zR d mc ms) mc ms 0 ∧ yX6_init.name = "<init>" ∧ (Cond.instanceMethod yX6_init).before args s = true := z_cwJ hts m_co_X6_init (hX.1 (RX10, 11, yX6_init, RX11) (List.mem_of_getElem? (i := 17) rfl)) m_im_X6_init m_ii_RX6 rfl (by decide +kernel) h1 h2
theorem kJ_RX1_11 {R : Room} {s : State} {args : Array Value} {d mc ms : Nat} (hX : zX s) (hts : ∀ w ∈ zT, w.before args s = true) (h1 : d + 1 ≤ R.frames) (h2 : 8 + (1 + 11) + 40 * d ≤ R.locals) : va_CN R s args RX1 11 yX6_init RX11 cX6_init 1 none (zW yX6_init cX6_init 1 none) (zR d mc ms) mc ms 0 ∧ yX6_init.name = "<init>" ∧ (Cond.instanceMethod yX6_init).before args s = true := z_cwJ hts m_co_X6_init (hX.1 (RX1, 11, yX6_init, RX11) (List.mem_of_getElem? (i := 8) rfl)) m_im_X6_init m_ii_RX6 rfl (by decide +kernel) h1 h2
theorem kJ_RX1_24 {R : Room} {s : State} {args : Array Value} {d mc ms : Nat} (hX : zX s) (hts : ∀ w ∈ zT, w.before args s = true) (h1 : d + 1 ≤ R.frames) (h2 : 8 + (1 + 11) + 40 * d ≤ R.locals) : va_CN R s args RX1 24 yX4_init RX11 cX4_init 1 none (zW yX4_init cX4_init 1 none) (zR d mc ms) mc ms 0 ∧ yX4_init.name = "<init>" ∧ (Cond.instanceMethod yX4_init).before args s = true := z_cwJ hts m_co_X4_init (hX.1 (RX1, 24, yX4_init, RX11) (List.mem_of_getElem? (i := 9) rfl)) m_im_X4_init m_ii_RX4 rfl (by decide +kernel) h1 h2
theorem kJ_RX0_13 {R : Room} {s : State} {args : Array Value} {d mc ms : Nat} (hX : zX s) (hts : ∀ w ∈ zT, w.before args s = true) (h1 : d + 1 ≤ R.frames) (h2 : 8 + (1 + 11) + 40 * d ≤ R.locals) : va_CN R s args RX0 13 yX4_init RX11 cX4_init 1 none (zW yX4_init cX4_init 1 none) (zR d mc ms) mc ms 0 ∧ yX4_init.name = "<init>" ∧ (Cond.instanceMethod yX4_init).before args s = true := z_cwJ hts m_co_X4_init (hX.1 (RX0, 13, yX4_init, RX11) (List.mem_of_getElem? (i := 7) rfl)) m_im_X4_init m_ii_RX4 rfl (by decide +kernel) h1 h2
theorem kJ_RX7_11 {R : Room} {s : State} {args : Array Value} {d mc ms : Nat} (hX : zX s) (hts : ∀ w ∈ zT, w.before args s = true) (h1 : d + 1 ≤ R.frames) (h2 : 8 + (1 + 11) + 40 * d ≤ R.locals) : va_CN R s args RX7 11 yX4_init RX11 cX4_init 1 none (zW yX4_init cX4_init 1 none) (zR d mc ms) mc ms 0 ∧ yX4_init.name = "<init>" ∧ (Cond.instanceMethod yX4_init).before args s = true := z_cwJ hts m_co_X4_init (hX.1 (RX7, 11, yX4_init, RX11) (List.mem_of_getElem? (i := 11) rfl)) m_im_X4_init m_ii_RX4 rfl (by decide +kernel) h1 h2
theorem kJ_RX7_20 {R : Room} {s : State} {args : Array Value} {d mc ms : Nat} (hX : zX s) (hts : ∀ w ∈ zT, w.before args s = true) (h1 : d + 1 ≤ R.frames) (h2 : 8 + (1 + 11) + 40 * d ≤ R.locals) : va_CN R s args RX7 20 yX2_init RX11 cX2_init 1 none (zW yX2_init cX2_init 1 none) (zR d mc ms) mc ms 0 ∧ yX2_init.name = "<init>" ∧ (Cond.instanceMethod yX2_init).before args s = true := z_cwJ hts m_co_X2_init (hX.1 (RX7, 20, yX2_init, RX11) (List.mem_of_getElem? (i := 12) rfl)) m_im_X2_init m_ii_RX2 rfl (by decide +kernel) h1 h2
theorem kJ_RX7_27 {R : Room} {s : State} {args : Array Value} {d mc ms : Nat} (hX : zX s) (hts : ∀ w ∈ zT, w.before args s = true) (h1 : d + 1 ≤ R.frames) (h2 : 8 + (1 + 11) + 40 * d ≤ R.locals) : va_CN R s args RX7 27 yX5_init RX11 cX5_init 1 none (zW yX5_init cX5_init 1 none) (zR d mc ms) mc ms 0 ∧ yX5_init.name = "<init>" ∧ (Cond.instanceMethod yX5_init).before args s = true := z_cwJ hts m_co_X5_init (hX.1 (RX7, 27, yX5_init, RX11) (List.mem_of_getElem? (i := 13) rfl)) m_im_X5_init m_ii_RX5 rfl (by decide +kernel) h1 h2
theorem dX4_init_0 : decode cX4_init 0 = .ok (.aload_n 0, 1) := zo_42 (by decide +kernel)
theorem dX4_init_1 : decode cX4_init 1 = .ok (.invokespecial 3, 3) := zo_183 (by decide +kernel)
theorem dX4_init_4 : decode cX4_init 4 = .ok (.aload_n 0, 1) := zo_42 (by decide +kernel)
theorem dX4_init_5 : decode cX4_init 5 = .ok (.bipush 7, 2) := zo_16 (by decide +kernel)
theorem dX4_init_7 : decode cX4_init 7 = .ok (.newarray .int, 2) := by decide +kernel
theorem dX4_init_9 : decode cX4_init 9 = .ok (.putfield 9, 3) := zo_181 (by decide +kernel)
theorem dX4_init_12 : decode cX4_init 12 = .ok (.aload_n 0, 1) := zo_42 (by decide +kernel)
theorem dX4_init_13 : decode cX4_init 13 = .ok (.bipush 28, 2) := zo_16 (by decide +kernel)
theorem dX4_init_15 : decode cX4_init 15 = .ok (.newarray .int, 2) := by decide +kernel
theorem dX4_init_17 : decode cX4_init 17 = .ok (.putfield 15, 3) := zo_181 (by decide +kernel)
theorem dX4_init_20 : decode cX4_init 20 = .ok (.aload_n 0, 1) := zo_42 (by decide +kernel)
theorem dX4_init_21 : decode cX4_init 21 = .ok (.bipush 7, 2) := zo_16 (by decide +kernel)
theorem dX4_init_23 : decode cX4_init 23 = .ok (.newarray .int, 2) := by decide +kernel
theorem dX4_init_25 : decode cX4_init 25 = .ok (.putfield 18, 3) := zo_181 (by decide +kernel)
theorem dX4_init_28 : decode cX4_init 28 = .ok (.aload_n 0, 1) := zo_42 (by decide +kernel)
theorem dX4_init_29 : decode cX4_init 29 = .ok (.bipush 7, 2) := zo_16 (by decide +kernel)
theorem dX4_init_31 : decode cX4_init 31 = .ok (.newarray .int, 2) := by decide +kernel
theorem dX4_init_33 : decode cX4_init 33 = .ok (.putfield 21, 3) := zo_181 (by decide +kernel)
theorem dX4_init_36 : decode cX4_init 36 = .ok (.return_, 1) := zo_177 (by decide +kernel)
theorem dX2_init_0 : decode cX2_init 0 = .ok (.aload_n 0, 1) := zo_42 (by decide +kernel)
theorem dX2_init_1 : decode cX2_init 1 = .ok (.invokespecial 3, 3) := zo_183 (by decide +kernel)
theorem dX2_init_4 : decode cX2_init 4 = .ok (.aload_n 0, 1) := zo_42 (by decide +kernel)
theorem dX2_init_5 : decode cX2_init 5 = .ok (.bipush 40, 2) := zo_16 (by decide +kernel)
theorem dX2_init_7 : decode cX2_init 7 = .ok (.newarray .int, 2) := by decide +kernel
theorem dX2_init_9 : decode cX2_init 9 = .ok (.putfield 9, 3) := zo_181 (by decide +kernel)
theorem dX2_init_12 : decode cX2_init 12 = .ok (.aload_n 0, 1) := zo_42 (by decide +kernel)
theorem dX2_init_13 : decode cX2_init 13 = .ok (.bipush 40, 2) := zo_16 (by decide +kernel)
theorem dX2_init_15 : decode cX2_init 15 = .ok (.newarray .int, 2) := by decide +kernel
theorem dX2_init_17 : decode cX2_init 17 = .ok (.putfield 15, 3) := zo_181 (by decide +kernel)
theorem dX2_init_20 : decode cX2_init 20 = .ok (.aload_n 0, 1) := zo_42 (by decide +kernel)
theorem dX2_init_21 : decode cX2_init 21 = .ok (.bipush 40, 2) := zo_16 (by decide +kernel)
theorem dX2_init_23 : decode cX2_init 23 = .ok (.newarray .int, 2) := by decide +kernel
theorem dX2_init_25 : decode cX2_init 25 = .ok (.putfield 18, 3) := zo_181 (by decide +kernel)
theorem dX2_init_28 : decode cX2_init 28 = .ok (.return_, 1) := zo_177 (by decide +kernel)
theorem dX5_init_0 : decode cX5_init 0 = .ok (.aload_n 0, 1) := zo_42 (by decide +kernel)
theorem dX5_init_1 : decode cX5_init 1 = .ok (.invokespecial 3, 3) := zo_183 (by decide +kernel)
theorem dX5_init_4 : decode cX5_init 4 = .ok (.aload_n 0, 1) := zo_42 (by decide +kernel)
theorem dX5_init_5 : decode cX5_init 5 = .ok (.bipush 8, 2) := zo_16 (by decide +kernel)
theorem dX5_init_7 : decode cX5_init 7 = .ok (.newarray .int, 2) := by decide +kernel
theorem dX5_init_9 : decode cX5_init 9 = .ok (.putfield 9, 3) := zo_181 (by decide +kernel)
theorem dX5_init_12 : decode cX5_init 12 = .ok (.aload_n 0, 1) := zo_42 (by decide +kernel)
theorem dX5_init_13 : decode cX5_init 13 = .ok (.bipush 8, 2) := zo_16 (by decide +kernel)
theorem dX5_init_15 : decode cX5_init 15 = .ok (.newarray .int, 2) := by decide +kernel
theorem dX5_init_17 : decode cX5_init 17 = .ok (.putfield 15, 3) := zo_181 (by decide +kernel)
theorem dX5_init_20 : decode cX5_init 20 = .ok (.return_, 1) := zo_177 (by decide +kernel)
theorem dX9_init_0 : decode cX9_init 0 = .ok (.aload_n 0, 1) := zo_42 (by decide +kernel)
theorem dX9_init_1 : decode cX9_init 1 = .ok (.invokespecial 3, 3) := zo_183 (by decide +kernel)
theorem dX9_init_4 : decode cX9_init 4 = .ok (.aload_n 0, 1) := zo_42 (by decide +kernel)
theorem dX9_init_5 : decode cX9_init 5 = .ok (.sipush 600, 3) := zo_17 (by decide +kernel)
theorem dX9_init_8 : decode cX9_init 8 = .ok (.newarray .byte, 2) := by decide +kernel
theorem dX9_init_10 : decode cX9_init 10 = .ok (.putfield 9, 3) := zo_181 (by decide +kernel)
theorem dX9_init_13 : decode cX9_init 13 = .ok (.aload_n 0, 1) := zo_42 (by decide +kernel)
theorem dX9_init_14 : decode cX9_init 14 = .ok (.iconst (-1), 1) := zo_2 (by decide +kernel)
theorem dX9_init_15 : decode cX9_init 15 = .ok (.putfield 15, 3) := zo_181 (by decide +kernel)
theorem dX9_init_18 : decode cX9_init 18 = .ok (.aload_n 0, 1) := zo_42 (by decide +kernel)
theorem dX9_init_19 : decode cX9_init 19 = .ok (.iconst 3, 1) := zo_6 (by decide +kernel)
theorem dX9_init_20 : decode cX9_init 20 = .ok (.newarray .int, 2) := by decide +kernel
theorem dX9_init_22 : decode cX9_init 22 = .ok (.putfield 19, 3) := zo_181 (by decide +kernel)
theorem dX9_init_25 : decode cX9_init 25 = .ok (.aload_n 0, 1) := zo_42 (by decide +kernel)
theorem dX9_init_26 : decode cX9_init 26 = .ok (.iconst 2, 1) := zo_5 (by decide +kernel)
theorem dX9_init_27 : decode cX9_init 27 = .ok (.anewarray 23, 3) := zo_189 (by decide +kernel)
theorem dX9_init_30 : decode cX9_init 30 = .ok (.dup, 1) := zo_89 (by decide +kernel)
theorem dX9_init_31 : decode cX9_init 31 = .ok (.iconst 0, 1) := zo_3 (by decide +kernel)
theorem dX9_init_32 : decode cX9_init 32 = .ok (.new 23, 3) := zo_187 (by decide +kernel)
theorem dX9_init_35 : decode cX9_init 35 = .ok (.dup, 1) := zo_89 (by decide +kernel)
theorem dX9_init_36 : decode cX9_init 36 = .ok (.invokespecial 25, 3) := zo_183 (by decide +kernel)
theorem dX9_init_39 : decode cX9_init 39 = .ok (.aastore, 1) := zo_83 (by decide +kernel)
theorem dX9_init_40 : decode cX9_init 40 = .ok (.dup, 1) := zo_89 (by decide +kernel)
theorem dX9_init_41 : decode cX9_init 41 = .ok (.iconst 1, 1) := zo_4 (by decide +kernel)
theorem dX9_init_42 : decode cX9_init 42 = .ok (.new 23, 3) := zo_187 (by decide +kernel)
theorem dX9_init_45 : decode cX9_init 45 = .ok (.dup, 1) := zo_89 (by decide +kernel)
theorem dX9_init_46 : decode cX9_init 46 = .ok (.invokespecial 25, 3) := zo_183 (by decide +kernel)
theorem dX9_init_49 : decode cX9_init 49 = .ok (.aastore, 1) := zo_83 (by decide +kernel)
theorem dX9_init_50 : decode cX9_init 50 = .ok (.putfield 26, 3) := zo_181 (by decide +kernel)
theorem dX9_init_53 : decode cX9_init 53 = .ok (.aload_n 0, 1) := zo_42 (by decide +kernel)
theorem dX9_init_54 : decode cX9_init 54 = .ok (.iconst 2, 1) := zo_5 (by decide +kernel)
theorem dX9_init_55 : decode cX9_init 55 = .ok (.anewarray 30, 3) := zo_189 (by decide +kernel)
theorem dX9_init_58 : decode cX9_init 58 = .ok (.dup, 1) := zo_89 (by decide +kernel)
theorem dX9_init_59 : decode cX9_init 59 = .ok (.iconst 0, 1) := zo_3 (by decide +kernel)
theorem dX9_init_60 : decode cX9_init 60 = .ok (.new 30, 3) := zo_187 (by decide +kernel)
theorem dX9_init_63 : decode cX9_init 63 = .ok (.dup, 1) := zo_89 (by decide +kernel)
theorem dX9_init_64 : decode cX9_init 64 = .ok (.invokespecial 32, 3) := zo_183 (by decide +kernel)
theorem dX9_init_67 : decode cX9_init 67 = .ok (.aastore, 1) := zo_83 (by decide +kernel)
theorem dX9_init_68 : decode cX9_init 68 = .ok (.dup, 1) := zo_89 (by decide +kernel)
theorem dX9_init_69 : decode cX9_init 69 = .ok (.iconst 1, 1) := zo_4 (by decide +kernel)
theorem dX9_init_70 : decode cX9_init 70 = .ok (.new 30, 3) := zo_187 (by decide +kernel)
theorem dX9_init_73 : decode cX9_init 73 = .ok (.dup, 1) := zo_89 (by decide +kernel)
theorem dX9_init_74 : decode cX9_init 74 = .ok (.invokespecial 32, 3) := zo_183 (by decide +kernel)
theorem dX9_init_77 : decode cX9_init 77 = .ok (.aastore, 1) := zo_83 (by decide +kernel)
theorem dX9_init_78 : decode cX9_init 78 = .ok (.putfield 33, 3) := zo_181 (by decide +kernel)
theorem dX9_init_81 : decode cX9_init 81 = .ok (.aload_n 0, 1) := zo_42 (by decide +kernel)
theorem dX9_init_82 : decode cX9_init 82 = .ok (.iconst 2, 1) := zo_5 (by decide +kernel)
theorem dX9_init_83 : decode cX9_init 83 = .ok (.anewarray 37, 3) := zo_189 (by decide +kernel)
theorem dX9_init_86 : decode cX9_init 86 = .ok (.dup, 1) := zo_89 (by decide +kernel)
theorem dX9_init_87 : decode cX9_init 87 = .ok (.iconst 0, 1) := zo_3 (by decide +kernel)
theorem dX9_init_88 : decode cX9_init 88 = .ok (.new 37, 3) := zo_187 (by decide +kernel)
theorem dX9_init_91 : decode cX9_init 91 = .ok (.dup, 1) := zo_89 (by decide +kernel)
theorem dX9_init_92 : decode cX9_init 92 = .ok (.invokespecial 39, 3) := zo_183 (by decide +kernel)
theorem dX9_init_95 : decode cX9_init 95 = .ok (.aastore, 1) := zo_83 (by decide +kernel)
theorem dX9_init_96 : decode cX9_init 96 = .ok (.dup, 1) := zo_89 (by decide +kernel)
theorem dX9_init_97 : decode cX9_init 97 = .ok (.iconst 1, 1) := zo_4 (by decide +kernel)
theorem dX9_init_98 : decode cX9_init 98 = .ok (.new 37, 3) := zo_187 (by decide +kernel)
theorem dX9_init_101 : decode cX9_init 101 = .ok (.dup, 1) := zo_89 (by decide +kernel)
theorem dX9_init_102 : decode cX9_init 102 = .ok (.invokespecial 39, 3) := zo_183 (by decide +kernel)
theorem dX9_init_105 : decode cX9_init 105 = .ok (.aastore, 1) := zo_83 (by decide +kernel)
theorem dX9_init_106 : decode cX9_init 106 = .ok (.putfield 40, 3) := zo_181 (by decide +kernel)
theorem dX9_init_109 : decode cX9_init 109 = .ok (.return_, 1) := zo_177 (by decide +kernel)
theorem dX6_init_0 : decode cX6_init 0 = .ok (.aload_n 0, 1) := zo_42 (by decide +kernel)
theorem dX6_init_1 : decode cX6_init 1 = .ok (.invokespecial 3, 3) := zo_183 (by decide +kernel)
theorem dX6_init_4 : decode cX6_init 4 = .ok (.aload_n 0, 1) := zo_42 (by decide +kernel)
theorem dX6_init_5 : decode cX6_init 5 = .ok (.new 9, 3) := zo_187 (by decide +kernel)
theorem dX6_init_8 : decode cX6_init 8 = .ok (.dup, 1) := zo_89 (by decide +kernel)
theorem dX6_init_9 : decode cX6_init 9 = .ok (.invokespecial 11, 3) := zo_183 (by decide +kernel)
theorem dX6_init_12 : decode cX6_init 12 = .ok (.putfield 12, 3) := zo_181 (by decide +kernel)
theorem dX6_init_15 : decode cX6_init 15 = .ok (.aload_n 0, 1) := zo_42 (by decide +kernel)
theorem dX6_init_16 : decode cX6_init 16 = .ok (.bipush 7, 2) := zo_16 (by decide +kernel)
theorem dX6_init_18 : decode cX6_init 18 = .ok (.newarray .int, 2) := by decide +kernel
theorem dX6_init_20 : decode cX6_init 20 = .ok (.putfield 18, 3) := zo_181 (by decide +kernel)
theorem dX6_init_23 : decode cX6_init 23 = .ok (.aload_n 0, 1) := zo_42 (by decide +kernel)
theorem dX6_init_24 : decode cX6_init 24 = .ok (.bipush 7, 2) := zo_16 (by decide +kernel)
theorem dX6_init_26 : decode cX6_init 26 = .ok (.newarray .int, 2) := by decide +kernel
theorem dX6_init_28 : decode cX6_init 28 = .ok (.putfield 22, 3) := zo_181 (by decide +kernel)
theorem dX6_init_31 : decode cX6_init 31 = .ok (.aload_n 0, 1) := zo_42 (by decide +kernel)
theorem dX6_init_32 : decode cX6_init 32 = .ok (.bipush 7, 2) := zo_16 (by decide +kernel)
theorem dX6_init_34 : decode cX6_init 34 = .ok (.newarray .int, 2) := by decide +kernel
theorem dX6_init_36 : decode cX6_init 36 = .ok (.putfield 25, 3) := zo_181 (by decide +kernel)
theorem dX6_init_39 : decode cX6_init 39 = .ok (.return_, 1) := zo_177 (by decide +kernel)
theorem dX10_init_0 : decode cX10_init 0 = .ok (.aload_n 0, 1) := zo_42 (by decide +kernel)
theorem dX10_init_1 : decode cX10_init 1 = .ok (.invokespecial 3, 3) := zo_183 (by decide +kernel)
theorem dX10_init_4 : decode cX10_init 4 = .ok (.aload_n 0, 1) := zo_42 (by decide +kernel)
theorem dX10_init_5 : decode cX10_init 5 = .ok (.new 9, 3) := zo_187 (by decide +kernel)
theorem dX10_init_8 : decode cX10_init 8 = .ok (.dup, 1) := zo_89 (by decide +kernel)
theorem dX10_init_9 : decode cX10_init 9 = .ok (.invokespecial 11, 3) := zo_183 (by decide +kernel)
theorem dX10_init_12 : decode cX10_init 12 = .ok (.putfield 12, 3) := zo_181 (by decide +kernel)
theorem dX10_init_15 : decode cX10_init 15 = .ok (.aload_n 0, 1) := zo_42 (by decide +kernel)
theorem dX10_init_16 : decode cX10_init 16 = .ok (.bipush 7, 2) := zo_16 (by decide +kernel)
theorem dX10_init_18 : decode cX10_init 18 = .ok (.newarray .int, 2) := by decide +kernel
theorem dX10_init_20 : decode cX10_init 20 = .ok (.putfield 18, 3) := zo_181 (by decide +kernel)
theorem dX10_init_23 : decode cX10_init 23 = .ok (.aload_n 0, 1) := zo_42 (by decide +kernel)
theorem dX10_init_24 : decode cX10_init 24 = .ok (.bipush 7, 2) := zo_16 (by decide +kernel)
theorem dX10_init_26 : decode cX10_init 26 = .ok (.newarray .int, 2) := by decide +kernel
theorem dX10_init_28 : decode cX10_init 28 = .ok (.putfield 22, 3) := zo_181 (by decide +kernel)
theorem dX10_init_31 : decode cX10_init 31 = .ok (.return_, 1) := zo_177 (by decide +kernel)
theorem dX1_init_0 : decode cX1_init 0 = .ok (.aload_n 0, 1) := zo_42 (by decide +kernel)
theorem dX1_init_1 : decode cX1_init 1 = .ok (.invokespecial 3, 3) := zo_183 (by decide +kernel)
theorem dX1_init_4 : decode cX1_init 4 = .ok (.aload_n 0, 1) := zo_42 (by decide +kernel)
theorem dX1_init_5 : decode cX1_init 5 = .ok (.new 9, 3) := zo_187 (by decide +kernel)
theorem dX1_init_8 : decode cX1_init 8 = .ok (.dup, 1) := zo_89 (by decide +kernel)
theorem dX1_init_9 : decode cX1_init 9 = .ok (.invokespecial 11, 3) := zo_183 (by decide +kernel)
theorem dX1_init_12 : decode cX1_init 12 = .ok (.putfield 12, 3) := zo_181 (by decide +kernel)
theorem dX1_init_15 : decode cX1_init 15 = .ok (.aload_n 0, 1) := zo_42 (by decide +kernel)
theorem dX1_init_16 : decode cX1_init 16 = .ok (.bipush 7, 2) := zo_16 (by decide +kernel)
theorem dX1_init_18 : decode cX1_init 18 = .ok (.newarray .int, 2) := by decide +kernel
theorem dX1_init_20 : decode cX1_init 20 = .ok (.putfield 18, 3) := zo_181 (by decide +kernel)
theorem dX1_init_23 : decode cX1_init 23 = .ok (.aload_n 0, 1) := zo_42 (by decide +kernel)
theorem dX1_init_24 : decode cX1_init 24 = .ok (.new 22, 3) := zo_187 (by decide +kernel)
theorem dX1_init_27 : decode cX1_init 27 = .ok (.dup, 1) := zo_89 (by decide +kernel)
theorem dX1_init_28 : decode cX1_init 28 = .ok (.invokespecial 24, 3) := zo_183 (by decide +kernel)
theorem dX1_init_31 : decode cX1_init 31 = .ok (.putfield 25, 3) := zo_181 (by decide +kernel)
theorem dX1_init_34 : decode cX1_init 34 = .ok (.return_, 1) := zo_177 (by decide +kernel)
theorem dX0_init_0 : decode cX0_init 0 = .ok (.aload_n 0, 1) := zo_42 (by decide +kernel)
theorem dX0_init_1 : decode cX0_init 1 = .ok (.invokespecial 5, 3) := zo_183 (by decide +kernel)
theorem dX0_init_4 : decode cX0_init 4 = .ok (.aload_n 0, 1) := zo_42 (by decide +kernel)
theorem dX0_init_5 : decode cX0_init 5 = .ok (.new 11, 3) := zo_187 (by decide +kernel)
theorem dX0_init_8 : decode cX0_init 8 = .ok (.dup, 1) := zo_89 (by decide +kernel)
theorem dX0_init_9 : decode cX0_init 9 = .ok (.invokespecial 13, 3) := zo_183 (by decide +kernel)
theorem dX0_init_12 : decode cX0_init 12 = .ok (.putfield 14, 3) := zo_181 (by decide +kernel)
theorem dX0_init_15 : decode cX0_init 15 = .ok (.aload_n 0, 1) := zo_42 (by decide +kernel)
theorem dX0_init_16 : decode cX0_init 16 = .ok (.bipush 7, 2) := zo_16 (by decide +kernel)
theorem dX0_init_18 : decode cX0_init 18 = .ok (.newarray .int, 2) := by decide +kernel
theorem dX0_init_20 : decode cX0_init 20 = .ok (.putfield 18, 3) := zo_181 (by decide +kernel)
theorem dX0_init_23 : decode cX0_init 23 = .ok (.aload_n 0, 1) := zo_42 (by decide +kernel)
theorem dX0_init_24 : decode cX0_init 24 = .ok (.bipush 7, 2) := zo_16 (by decide +kernel)
theorem dX0_init_26 : decode cX0_init 26 = .ok (.newarray .int, 2) := by decide +kernel
theorem dX0_init_28 : decode cX0_init 28 = .ok (.putfield 22, 3) := zo_181 (by decide +kernel)
theorem dX0_init_31 : decode cX0_init 31 = .ok (.aload_n 0, 1) := zo_42 (by decide +kernel)
theorem dX0_init_32 : decode cX0_init 32 = .ok (.bipush 7, 2) := zo_16 (by decide +kernel)
theorem dX0_init_34 : decode cX0_init 34 = .ok (.newarray .int, 2) := by decide +kernel
theorem dX0_init_36 : decode cX0_init 36 = .ok (.putfield 25, 3) := zo_181 (by decide +kernel)
theorem dX0_init_39 : decode cX0_init 39 = .ok (.aload_n 0, 1) := zo_42 (by decide +kernel)
theorem dX0_init_40 : decode cX0_init 40 = .ok (.iconst 0, 1) := zo_3 (by decide +kernel)
theorem dX0_init_41 : decode cX0_init 41 = .ok (.newarray .int, 2) := by decide +kernel
theorem dX0_init_43 : decode cX0_init 43 = .ok (.putfield 28, 3) := zo_181 (by decide +kernel)
theorem dX0_init_46 : decode cX0_init 46 = .ok (.aload_n 0, 1) := zo_42 (by decide +kernel)
theorem dX0_init_47 : decode cX0_init 47 = .ok (.iconst 0, 1) := zo_3 (by decide +kernel)
theorem dX0_init_48 : decode cX0_init 48 = .ok (.newarray .int, 2) := by decide +kernel
theorem dX0_init_50 : decode cX0_init 50 = .ok (.putfield 31, 3) := zo_181 (by decide +kernel)
theorem dX0_init_53 : decode cX0_init 53 = .ok (.aload_n 0, 1) := zo_42 (by decide +kernel)
theorem dX0_init_54 : decode cX0_init 54 = .ok (.iconst 0, 1) := zo_3 (by decide +kernel)
theorem dX0_init_55 : decode cX0_init 55 = .ok (.newarray .int, 2) := by decide +kernel
theorem dX0_init_57 : decode cX0_init 57 = .ok (.putfield 34, 3) := zo_181 (by decide +kernel)
theorem dX0_init_60 : decode cX0_init 60 = .ok (.return_, 1) := zo_177 (by decide +kernel)
theorem dX3_init_0 : decode cX3_init 0 = .ok (.aload_n 0, 1) := zo_42 (by decide +kernel)
theorem dX3_init_1 : decode cX3_init 1 = .ok (.invokespecial 5, 3) := zo_183 (by decide +kernel)
theorem dX3_init_4 : decode cX3_init 4 = .ok (.aload_n 0, 1) := zo_42 (by decide +kernel)
theorem dX3_init_5 : decode cX3_init 5 = .ok (.iconst (-1), 1) := zo_2 (by decide +kernel)
theorem dX3_init_6 : decode cX3_init 6 = .ok (.putfield 11, 3) := zo_181 (by decide +kernel)
theorem dX3_init_9 : decode cX3_init 9 = .ok (.aload_n 0, 1) := zo_42 (by decide +kernel)
theorem dX3_init_10 : decode cX3_init 10 = .ok (.iconst (-1), 1) := zo_2 (by decide +kernel)
theorem dX3_init_11 : decode cX3_init 11 = .ok (.putfield 15, 3) := zo_181 (by decide +kernel)
theorem dX3_init_14 : decode cX3_init 14 = .ok (.aload_n 0, 1) := zo_42 (by decide +kernel)
theorem dX3_init_15 : decode cX3_init 15 = .ok (.iconst 0, 1) := zo_3 (by decide +kernel)
theorem dX3_init_16 : decode cX3_init 16 = .ok (.newarray .int, 2) := by decide +kernel
theorem dX3_init_18 : decode cX3_init 18 = .ok (.putfield 18, 3) := zo_181 (by decide +kernel)
theorem dX3_init_21 : decode cX3_init 21 = .ok (.aload_n 0, 1) := zo_42 (by decide +kernel)
theorem dX3_init_22 : decode cX3_init 22 = .ok (.bipush 7, 2) := zo_16 (by decide +kernel)
theorem dX3_init_24 : decode cX3_init 24 = .ok (.newarray .int, 2) := by decide +kernel
theorem dX3_init_26 : decode cX3_init 26 = .ok (.putfield 22, 3) := zo_181 (by decide +kernel)
theorem dX3_init_29 : decode cX3_init 29 = .ok (.return_, 1) := zo_177 (by decide +kernel)
theorem dX7_init_0 : decode cX7_init 0 = .ok (.aload_n 0, 1) := zo_42 (by decide +kernel)
theorem dX7_init_1 : decode cX7_init 1 = .ok (.invokespecial 3, 3) := zo_183 (by decide +kernel)
theorem dX7_init_4 : decode cX7_init 4 = .ok (.aload_n 0, 1) := zo_42 (by decide +kernel)
theorem dX7_init_5 : decode cX7_init 5 = .ok (.new 9, 3) := zo_187 (by decide +kernel)
theorem dX7_init_8 : decode cX7_init 8 = .ok (.dup, 1) := zo_89 (by decide +kernel)
theorem dX7_init_9 : decode cX7_init 9 = .ok (.invokespecial 11, 3) := zo_183 (by decide +kernel)
theorem dX7_init_12 : decode cX7_init 12 = .ok (.putfield 12, 3) := zo_181 (by decide +kernel)
theorem dX7_init_15 : decode cX7_init 15 = .ok (.aload_n 0, 1) := zo_42 (by decide +kernel)
theorem dX7_init_16 : decode cX7_init 16 = .ok (.new 18, 3) := zo_187 (by decide +kernel)
theorem dX7_init_19 : decode cX7_init 19 = .ok (.dup, 1) := zo_89 (by decide +kernel)
theorem dX7_init_20 : decode cX7_init 20 = .ok (.invokespecial 20, 3) := zo_183 (by decide +kernel)
theorem dX7_init_23 : decode cX7_init 23 = .ok (.putfield 21, 3) := zo_181 (by decide +kernel)
theorem dX7_init_26 : decode cX7_init 26 = .ok (.aload_n 0, 1) := zo_42 (by decide +kernel)
theorem dX7_init_27 : decode cX7_init 27 = .ok (.new 25, 3) := zo_187 (by decide +kernel)
theorem dX7_init_30 : decode cX7_init 30 = .ok (.dup, 1) := zo_89 (by decide +kernel)
theorem dX7_init_31 : decode cX7_init 31 = .ok (.invokespecial 27, 3) := zo_183 (by decide +kernel)
theorem dX7_init_34 : decode cX7_init 34 = .ok (.putfield 28, 3) := zo_181 (by decide +kernel)
theorem dX7_init_37 : decode cX7_init 37 = .ok (.aload_n 0, 1) := zo_42 (by decide +kernel)
theorem dX7_init_38 : decode cX7_init 38 = .ok (.iconst 0, 1) := zo_3 (by decide +kernel)
theorem dX7_init_39 : decode cX7_init 39 = .ok (.newarray .byte, 2) := by decide +kernel
theorem dX7_init_41 : decode cX7_init 41 = .ok (.putfield 32, 3) := zo_181 (by decide +kernel)
theorem dX7_init_44 : decode cX7_init 44 = .ok (.return_, 1) := zo_177 (by decide +kernel)
def bLand (T : zTy) (h : Nat) (cr : Int32) (inn : Int32) (f1 : Nat → Int32) (f2 : Nat → Int32) (f3 : Nat → Int32) (f4 : Nat → Int32) (w : va_W) : Prop := ∃ (a1 : Nat) (a2 : Nat) (a3 : Nat) (a4 : Nat), w = [zO4 h cr inn a1 a2 a3 a4, zAr T 0 a1 7 f1, zAr T 0 a2 28 f2, zAr T 0 a3 7 f3, zAr T 0 a4 7 f4]
theorem bLand_mem {T : zTy} {h : Nat} {cr : Int32} {inn : Int32} {f1 : Nat → Int32} {f2 : Nat → Int32} {f3 : Nat → Int32} {f4 : Nat → Int32} {w : va_W} (H : bLand T h cr inn f1 f2 f3 f4 w) : ∃ fs, ((h, .inr (4, fs)) : Nat × va_E) ∈ w := by
  obtain ⟨_, _, _, _, rfl⟩ := H
  exact ⟨_, List.mem_cons_self⟩

def bDay (T : zTy) (h : Nat) (dd : Int32) (f1 : Nat → Int32) (f2 : Nat → Int32) (f3 : Nat → Int32) (w : va_W) : Prop := ∃ (a1 : Nat) (a2 : Nat) (a3 : Nat), w = [(h, .inr (2, [.int dd, .ref a1, .ref a2, .ref a3])), zAr T 0 a1 40 f1, zAr T 0 a2 40 f2, zAr T 0 a3 40 f3]
theorem bDay_mem {T : zTy} {h : Nat} {dd : Int32} {f1 : Nat → Int32} {f2 : Nat → Int32} {f3 : Nat → Int32} {w : va_W} (H : bDay T h dd f1 f2 f3 w) : ∃ fs, ((h, .inr (2, fs)) : Nat × va_E) ∈ w := by
  obtain ⟨_, _, _, rfl⟩ := H
  exact ⟨_, List.mem_cons_self⟩

def bLog (T : zTy) (h : Nat) (gg : Int32) (f1 : Nat → Int32) (f2 : Nat → Int32) (w : va_W) : Prop := ∃ (a1 : Nat) (a2 : Nat), w = [(h, .inr (5, [.int gg, .ref a1, .ref a2])), zAr T 0 a1 8 f1, zAr T 0 a2 8 f2]
theorem bLog_mem {T : zTy} {h : Nat} {gg : Int32} {f1 : Nat → Int32} {f2 : Nat → Int32} {w : va_W} (H : bLog T h gg f1 f2 w) : ∃ fs, ((h, .inr (5, fs)) : Nat × va_E) ∈ w := by
  obtain ⟨_, _, rfl⟩ := H
  exact ⟨_, List.mem_cons_self⟩

def bTold (T : zTy) (h : Nat) (l0 : Nat) (l1 : Nat) (d0 : Nat) (d1 : Nat) (g0 : Nat) (g1 : Nat) (ln : Int32) (fl : Int32) (pl : Int32) (ft : Nat → Int32) (fk : Nat → Int32) (w : va_W) : Prop := ∃ (a1 : Nat) (a2 : Nat) (a3 : Nat) (a4 : Nat) (a5 : Nat) (q1 : Nat → Option Nat) (q2 : Nat → Option Nat) (q3 : Nat → Option Nat), w = [zO8 h a1 ln fl pl a2 a3 a4 a5, zAr T 1 a1 600 ft, zAr T 0 a2 3 fk, zArq T 3 a3 2 q1, zArq T 4 a4 2 q2, zArq T 5 a5 2 q3] ∧ q1 0 = some l0 ∧ q1 1 = some l1 ∧ q2 0 = some d0 ∧ q2 1 = some d1 ∧ q3 0 = some g0 ∧ q3 1 = some g1
theorem bTold_mem {T : zTy} {h : Nat} {l0 : Nat} {l1 : Nat} {d0 : Nat} {d1 : Nat} {g0 : Nat} {g1 : Nat} {ln : Int32} {fl : Int32} {pl : Int32} {ft : Nat → Int32} {fk : Nat → Int32} {w : va_W} (H : bTold T h l0 l1 d0 d1 g0 g1 ln fl pl ft fk w) : ∃ fs, ((h, .inr (8, fs)) : Nat × va_E) ∈ w := by
  obtain ⟨_, _, _, _, _, _, _, _, rfl, -, -, -, -, -, -⟩ := H
  exact ⟨_, List.mem_cons_self⟩

def bPosts (T : zTy) (h : Nat) (la : Nat) (f1 : Nat → Int32) (f2 : Nat → Int32) (f3 : Nat → Int32) (st : Int32) (wh : Int32) (w : va_W) : Prop := ∃ (a1 : Nat) (a2 : Nat) (a3 : Nat), w = [zO6 h la a1 a2 st wh a3, zAr T 0 a1 7 f1, zAr T 0 a2 7 f2, zAr T 0 a3 7 f3]
theorem bPosts_mem {T : zTy} {h : Nat} {la : Nat} {f1 : Nat → Int32} {f2 : Nat → Int32} {f3 : Nat → Int32} {st : Int32} {wh : Int32} {w : va_W} (H : bPosts T h la f1 f2 f3 st wh w) : ∃ fs, ((h, .inr (6, fs)) : Nat × va_E) ∈ w := by
  obtain ⟨_, _, _, rfl⟩ := H
  exact ⟨_, List.mem_cons_self⟩

def bCourse (T : zTy) (h : Nat) (po : Nat) (la : Nat) (fw : Nat → Int32) (v0 : Int32) (v1 : Int32) (v2 : Int32) (v3 : Int32) (v4 : Int32) (v5 : Int32) (v6 : Int32) (v7 : Int32) (w : va_W) : Prop := ∃ (a1 : Nat), w = [zO1 h po a1 v0 la v1 v2 v3 v4 v5 v6 v7, zAr T 0 a1 7 fw]
theorem bCourse_mem {T : zTy} {h : Nat} {po : Nat} {la : Nat} {fw : Nat → Int32} {v0 : Int32} {v1 : Int32} {v2 : Int32} {v3 : Int32} {v4 : Int32} {v5 : Int32} {v6 : Int32} {v7 : Int32} {w : va_W} (H : bCourse T h po la fw v0 v1 v2 v3 v4 v5 v6 v7 w) : ∃ fs, ((h, .inr (1, fs)) : Nat × va_E) ∈ w := by
  obtain ⟨_, rfl⟩ := H
  exact ⟨_, List.mem_cons_self⟩

def bTrail (T : zTy) (h : Nat) (po : Nat) (f1 : Nat → Int32) (f2 : Nat → Int32) (v0 : Int32) (v1 : Int32) (v2 : Int32) (v3 : Int32) (v4 : Int32) (w : va_W) : Prop := ∃ (a1 : Nat) (a2 : Nat), w = [zO9 h po a1 a2 v0 v1 v2 v3 v4, zAr T 0 a1 7 f1, zAr T 0 a2 7 f2]
theorem bTrail_mem {T : zTy} {h : Nat} {po : Nat} {f1 : Nat → Int32} {f2 : Nat → Int32} {v0 : Int32} {v1 : Int32} {v2 : Int32} {v3 : Int32} {v4 : Int32} {w : va_W} (H : bTrail T h po f1 f2 v0 v1 v2 v3 v4 w) : ∃ fs, ((h, .inr (9, fs)) : Nat × va_E) ∈ w := by
  obtain ⟨_, _, rfl⟩ := H
  exact ⟨_, List.mem_cons_self⟩

def bWays (T : zTy) (h : Nat) (la : Nat) (md : Int32) (wy : Int32) (pc_ : Int32) (f1 : Nat → Int32) (f2 : Nat → Int32) (f3 : Nat → Int32) (f4 : Nat → Int32) (f5 : Nat → Int32) (f6 : Nat → Int32) (n4 : Nat) (w : va_W) : Prop := ∃ (a1 : Nat) (a2 : Nat) (a3 : Nat) (a4 : Nat) (a5 : Nat) (a6 : Nat), w = [zO0 h md wy la pc_ a1 a2 a3 a4 a5 a6, zAr T 0 a1 7 f1, zAr T 0 a2 7 f2, zAr T 0 a3 7 f3, zAr T 0 a4 n4 f4, zAr T 0 a5 n4 f5, zAr T 0 a6 n4 f6]
theorem bWays_mem {T : zTy} {h : Nat} {la : Nat} {md : Int32} {wy : Int32} {pc_ : Int32} {f1 : Nat → Int32} {f2 : Nat → Int32} {f3 : Nat → Int32} {f4 : Nat → Int32} {f5 : Nat → Int32} {f6 : Nat → Int32} {n4 : Nat} {w : va_W} (H : bWays T h la md wy pc_ f1 f2 f3 f4 f5 f6 n4 w) : ∃ fs, ((h, .inr (0, fs)) : Nat × va_E) ∈ w := by
  obtain ⟨_, _, _, _, _, _, rfl⟩ := H
  exact ⟨_, List.mem_cons_self⟩

def bFit (T : zTy) (h : Nat) (v0 : Int32) (v1 : Int32) (v2 : Int32) (v3 : Int32) (v4 : Int32) (v5 : Int32) (f1 : Nat → Int32) (n1 : Nat) (f2 : Nat → Int32) (w : va_W) : Prop := ∃ (a1 : Nat) (a2 : Nat), w = [zO3 h v0 v1 v2 v3 v4 v5 a1 a2, zAr T 0 a1 n1 f1, zAr T 0 a2 7 f2]
theorem bFit_mem {T : zTy} {h : Nat} {v0 : Int32} {v1 : Int32} {v2 : Int32} {v3 : Int32} {v4 : Int32} {v5 : Int32} {f1 : Nat → Int32} {n1 : Nat} {f2 : Nat → Int32} {w : va_W} (H : bFit T h v0 v1 v2 v3 v4 v5 f1 n1 f2 w) : ∃ fs, ((h, .inr (3, fs)) : Nat × va_E) ∈ w := by
  obtain ⟨_, _, rfl⟩ := H
  exact ⟨_, List.mem_cons_self⟩

set_option maxHeartbeats 4000000 in
set_option maxRecDepth 100000 in
theorem c_Land_init (l : Launch) (T : zTy) (h : Nat) : zMv l T yX4_init cX4_init 1 1 4 49 [.ref h] [[(h, .inr (4, [.int 0, .int 0, .null, .null, .null, .null]))]] (fun bs => ∃ (w : va_W), bs = [w] ∧ bLand T h 0 0 (fun _ => 0) (fun _ => 0) (fun _ => 0) (fun _ => 0) w) := by
  refine zMv_of (own := RX4) (by decide) rfl (Nat.le_of_ble_eq_true rfl) ?_
  intro p e s m args below meth c A ls C hr hlocks hnm hAe G hl
  refine zHide (fun Qz_ hQz_ => ?_)
  have hx := C.1
  have hb := C.2.1
  have hl : lv_has ls 1 [(0, .ref h)] := hl
  refine lv_aload_n hx hb dX4_init_0 rfl (lv_at hl 0 rfl) ?_
  refine W.objInit hx hb C.2.2.2.1 (C.2.2.2.2 _ m_ml_RX4_3) (C.2.2.2.2 _ m_im_obj) (C.2.2.2.2 _ m_co_obj) rfl (by rw [C.2.2.1]; exact hl.1) rfl dX4_init_1 (Nat.le_of_ble_eq_true rfl) (Nat.le_of_ble_eq_true rfl) ?_
  refine W.eq (g2 := F0 m 4 ls []) rfl ?_
  refine lv_aload_n hx hb dX4_init_4 rfl (lv_at hl 0 rfl) ?_
  refine lv_bipush (v := 7) hx hb dX4_init_5 (by decide) ?_
  refine z_newa C G 0 (ty := .int) (N' := 7) (a0 := (7, .inl (fun _ => 0))) rfl z_uint m_ar_int rfl (fun _ => rfl) (by decide) (by decide) (Nat.le_of_ble_eq_true rfl) (Nat.le_of_ble_eq_true rfl) (Nat.le_of_ble_eq_true rfl) dX4_init_7 (fun q_1 H G => ?_)
  have G : zS T A s.heap s [[(h, .inr (4, [.int 0, .int 0, .null, .null, .null, .null]))], [zAr T 0 q_1 7 (fun _ => 0)]] _ _ := G
  refine z_putF C G hnm clX4 0 rfl 2 (by decide) m_fl_RX4_9 rfl rfl rfl rfl (Nat.le_of_ble_eq_true rfl) dX4_init_9 (fun H locs G => ?_)
  have G : zS T A s.heap s [[(h, .inr (4, [.int 0, .int 0, .ref q_1, .null, .null, .null]))], [zAr T 0 q_1 7 (fun _ => 0)]] _ _ := G
  refine lv_aload_n hx hb dX4_init_12 rfl (lv_at hl 0 rfl) ?_
  refine lv_bipush (v := 28) hx hb dX4_init_13 (by decide) ?_
  refine z_newa C G 0 (ty := .int) (N' := 28) (a0 := (28, .inl (fun _ => 0))) rfl z_uint m_ar_int rfl (fun _ => rfl) (by decide) (by decide) (Nat.le_of_ble_eq_true rfl) (Nat.le_of_ble_eq_true rfl) (Nat.le_of_ble_eq_true rfl) dX4_init_15 (fun q_2 H G => ?_)
  have G : zS T A s.heap s [[(h, .inr (4, [.int 0, .int 0, .ref q_1, .null, .null, .null]))], [zAr T 0 q_1 7 (fun _ => 0)], [zAr T 0 q_2 28 (fun _ => 0)]] _ _ := G
  refine z_putF C G hnm clX4 0 rfl 3 (by decide) m_fl_RX4_15 rfl rfl rfl rfl (Nat.le_of_ble_eq_true rfl) dX4_init_17 (fun H locs G => ?_)
  have G : zS T A s.heap s [[(h, .inr (4, [.int 0, .int 0, .ref q_1, .ref q_2, .null, .null]))], [zAr T 0 q_1 7 (fun _ => 0)], [zAr T 0 q_2 28 (fun _ => 0)]] _ _ := G
  refine lv_aload_n hx hb dX4_init_20 rfl (lv_at hl 0 rfl) ?_
  refine lv_bipush (v := 7) hx hb dX4_init_21 (by decide) ?_
  refine z_newa C G 0 (ty := .int) (N' := 7) (a0 := (7, .inl (fun _ => 0))) rfl z_uint m_ar_int rfl (fun _ => rfl) (by decide) (by decide) (Nat.le_of_ble_eq_true rfl) (Nat.le_of_ble_eq_true rfl) (Nat.le_of_ble_eq_true rfl) dX4_init_23 (fun q_3 H G => ?_)
  have G : zS T A s.heap s [[(h, .inr (4, [.int 0, .int 0, .ref q_1, .ref q_2, .null, .null]))], [zAr T 0 q_1 7 (fun _ => 0)], [zAr T 0 q_2 28 (fun _ => 0)], [zAr T 0 q_3 7 (fun _ => 0)]] _ _ := G
  refine z_putF C G hnm clX4 0 rfl 4 (by decide) m_fl_RX4_18 rfl rfl rfl rfl (Nat.le_of_ble_eq_true rfl) dX4_init_25 (fun H locs G => ?_)
  have G : zS T A s.heap s [[(h, .inr (4, [.int 0, .int 0, .ref q_1, .ref q_2, .ref q_3, .null]))], [zAr T 0 q_1 7 (fun _ => 0)], [zAr T 0 q_2 28 (fun _ => 0)], [zAr T 0 q_3 7 (fun _ => 0)]] _ _ := G
  refine lv_aload_n hx hb dX4_init_28 rfl (lv_at hl 0 rfl) ?_
  refine lv_bipush (v := 7) hx hb dX4_init_29 (by decide) ?_
  refine z_newa C G 0 (ty := .int) (N' := 7) (a0 := (7, .inl (fun _ => 0))) rfl z_uint m_ar_int rfl (fun _ => rfl) (by decide) (by decide) (Nat.le_of_ble_eq_true rfl) (Nat.le_of_ble_eq_true rfl) (Nat.le_of_ble_eq_true rfl) dX4_init_31 (fun q_4 H G => ?_)
  have G : zS T A s.heap s [[(h, .inr (4, [.int 0, .int 0, .ref q_1, .ref q_2, .ref q_3, .null]))], [zAr T 0 q_1 7 (fun _ => 0)], [zAr T 0 q_2 28 (fun _ => 0)], [zAr T 0 q_3 7 (fun _ => 0)], [zAr T 0 q_4 7 (fun _ => 0)]] _ _ := G
  refine z_putF C G hnm clX4 0 rfl 5 (by decide) m_fl_RX4_21 rfl rfl rfl rfl (Nat.le_of_ble_eq_true rfl) dX4_init_33 (fun H locs G => ?_)
  have G : zS T A s.heap s [[zO4 h 0 0 q_1 q_2 q_3 q_4], [zAr T 0 q_1 7 (fun _ => 0)], [zAr T 0 q_2 28 (fun _ => 0)], [zAr T 0 q_3 7 (fun _ => 0)], [zAr T 0 q_4 7 (fun _ => 0)]] _ _ := G
  have hw_5 : bLand T h 0 0 (fun _ => 0) (fun _ => 0) (fun _ => 0) (fun _ => 0) [zO4 h 0 0 q_1 q_2 q_3 q_4, zAr T 0 q_1 7 (fun _ => 0), zAr T 0 q_2 28 (fun _ => 0), zAr T 0 q_3 7 (fun _ => 0), zAr T 0 q_4 7 (fun _ => 0)] := ⟨q_1, q_2, q_3, q_4, rfl⟩
  have G : zS T A s.heap s [[zO4 h 0 0 q_1 q_2 q_3 q_4, zAr T 0 q_1 7 (fun _ => 0), zAr T 0 q_2 28 (fun _ => 0), zAr T 0 q_3 7 (fun _ => 0), zAr T 0 q_4 7 (fun _ => 0)]] _ _ := G.re rfl
  exact z_back hQz_ (z_vret C hr hlocks G (Nat.le_of_ble_eq_true rfl) (Nat.le_of_ble_eq_true rfl) dX4_init_36 ⟨([zO4 h 0 0 q_1 q_2 q_3 q_4, zAr T 0 q_1 7 (fun _ => 0), zAr T 0 q_2 28 (fun _ => 0), zAr T 0 q_3 7 (fun _ => 0), zAr T 0 q_4 7 (fun _ => 0)]), rfl, hw_5⟩)
set_option maxHeartbeats 4000000 in
set_option maxRecDepth 100000 in
theorem c_Day_init (l : Launch) (T : zTy) (h : Nat) : zMv l T yX2_init cX2_init 1 1 3 120 [.ref h] [[(h, .inr (2, [.int 0, .null, .null, .null]))]] (fun bs => ∃ (w : va_W), bs = [w] ∧ bDay T h 0 (fun _ => 0) (fun _ => 0) (fun _ => 0) w) := by
  refine zMv_of (own := RX2) (by decide) rfl (Nat.le_of_ble_eq_true rfl) ?_
  intro p e s m args below meth c A ls C hr hlocks hnm hAe G hl
  refine zHide (fun Qz_ hQz_ => ?_)
  have hx := C.1
  have hb := C.2.1
  have hl : lv_has ls 1 [(0, .ref h)] := hl
  refine lv_aload_n hx hb dX2_init_0 rfl (lv_at hl 0 rfl) ?_
  refine W.objInit hx hb C.2.2.2.1 (C.2.2.2.2 _ m_ml_RX2_3) (C.2.2.2.2 _ m_im_obj) (C.2.2.2.2 _ m_co_obj) rfl (by rw [C.2.2.1]; exact hl.1) rfl dX2_init_1 (Nat.le_of_ble_eq_true rfl) (Nat.le_of_ble_eq_true rfl) ?_
  refine W.eq (g2 := F0 m 4 ls []) rfl ?_
  refine lv_aload_n hx hb dX2_init_4 rfl (lv_at hl 0 rfl) ?_
  refine lv_bipush (v := 40) hx hb dX2_init_5 (by decide) ?_
  refine z_newa C G 0 (ty := .int) (N' := 40) (a0 := (40, .inl (fun _ => 0))) rfl z_uint m_ar_int rfl (fun _ => rfl) (by decide) (by decide) (Nat.le_of_ble_eq_true rfl) (Nat.le_of_ble_eq_true rfl) (Nat.le_of_ble_eq_true rfl) dX2_init_7 (fun q_1 H G => ?_)
  have G : zS T A s.heap s [[(h, .inr (2, [.int 0, .null, .null, .null]))], [zAr T 0 q_1 40 (fun _ => 0)]] _ _ := G
  refine z_putF C G hnm clX2 0 rfl 1 (by decide) m_fl_RX2_9 rfl rfl rfl rfl (Nat.le_of_ble_eq_true rfl) dX2_init_9 (fun H locs G => ?_)
  have G : zS T A s.heap s [[(h, .inr (2, [.int 0, .ref q_1, .null, .null]))], [zAr T 0 q_1 40 (fun _ => 0)]] _ _ := G
  refine lv_aload_n hx hb dX2_init_12 rfl (lv_at hl 0 rfl) ?_
  refine lv_bipush (v := 40) hx hb dX2_init_13 (by decide) ?_
  refine z_newa C G 0 (ty := .int) (N' := 40) (a0 := (40, .inl (fun _ => 0))) rfl z_uint m_ar_int rfl (fun _ => rfl) (by decide) (by decide) (Nat.le_of_ble_eq_true rfl) (Nat.le_of_ble_eq_true rfl) (Nat.le_of_ble_eq_true rfl) dX2_init_15 (fun q_2 H G => ?_)
  have G : zS T A s.heap s [[(h, .inr (2, [.int 0, .ref q_1, .null, .null]))], [zAr T 0 q_1 40 (fun _ => 0)], [zAr T 0 q_2 40 (fun _ => 0)]] _ _ := G
  refine z_putF C G hnm clX2 0 rfl 2 (by decide) m_fl_RX2_15 rfl rfl rfl rfl (Nat.le_of_ble_eq_true rfl) dX2_init_17 (fun H locs G => ?_)
  have G : zS T A s.heap s [[(h, .inr (2, [.int 0, .ref q_1, .ref q_2, .null]))], [zAr T 0 q_1 40 (fun _ => 0)], [zAr T 0 q_2 40 (fun _ => 0)]] _ _ := G
  refine lv_aload_n hx hb dX2_init_20 rfl (lv_at hl 0 rfl) ?_
  refine lv_bipush (v := 40) hx hb dX2_init_21 (by decide) ?_
  refine z_newa C G 0 (ty := .int) (N' := 40) (a0 := (40, .inl (fun _ => 0))) rfl z_uint m_ar_int rfl (fun _ => rfl) (by decide) (by decide) (Nat.le_of_ble_eq_true rfl) (Nat.le_of_ble_eq_true rfl) (Nat.le_of_ble_eq_true rfl) dX2_init_23 (fun q_3 H G => ?_)
  have G : zS T A s.heap s [[(h, .inr (2, [.int 0, .ref q_1, .ref q_2, .null]))], [zAr T 0 q_1 40 (fun _ => 0)], [zAr T 0 q_2 40 (fun _ => 0)], [zAr T 0 q_3 40 (fun _ => 0)]] _ _ := G
  refine z_putF C G hnm clX2 0 rfl 3 (by decide) m_fl_RX2_18 rfl rfl rfl rfl (Nat.le_of_ble_eq_true rfl) dX2_init_25 (fun H locs G => ?_)
  have G : zS T A s.heap s [[(h, .inr (2, [.int 0, .ref q_1, .ref q_2, .ref q_3]))], [zAr T 0 q_1 40 (fun _ => 0)], [zAr T 0 q_2 40 (fun _ => 0)], [zAr T 0 q_3 40 (fun _ => 0)]] _ _ := G
  have hw_4 : bDay T h 0 (fun _ => 0) (fun _ => 0) (fun _ => 0) [(h, .inr (2, [.int 0, .ref q_1, .ref q_2, .ref q_3])), zAr T 0 q_1 40 (fun _ => 0), zAr T 0 q_2 40 (fun _ => 0), zAr T 0 q_3 40 (fun _ => 0)] := ⟨q_1, q_2, q_3, rfl⟩
  have G : zS T A s.heap s [[(h, .inr (2, [.int 0, .ref q_1, .ref q_2, .ref q_3])), zAr T 0 q_1 40 (fun _ => 0), zAr T 0 q_2 40 (fun _ => 0), zAr T 0 q_3 40 (fun _ => 0)]] _ _ := G.re rfl
  exact z_back hQz_ (z_vret C hr hlocks G (Nat.le_of_ble_eq_true rfl) (Nat.le_of_ble_eq_true rfl) dX2_init_28 ⟨([(h, .inr (2, [.int 0, .ref q_1, .ref q_2, .ref q_3])), zAr T 0 q_1 40 (fun _ => 0), zAr T 0 q_2 40 (fun _ => 0), zAr T 0 q_3 40 (fun _ => 0)]), rfl, hw_4⟩)
set_option maxHeartbeats 4000000 in
set_option maxRecDepth 100000 in
theorem c_Log_init (l : Launch) (T : zTy) (h : Nat) : zMv l T yX5_init cX5_init 1 1 2 16 [.ref h] [[(h, .inr (5, [.int 0, .null, .null]))]] (fun bs => ∃ (w : va_W), bs = [w] ∧ bLog T h 0 (fun _ => 0) (fun _ => 0) w) := by
  refine zMv_of (own := RX5) (by decide) rfl (Nat.le_of_ble_eq_true rfl) ?_
  intro p e s m args below meth c A ls C hr hlocks hnm hAe G hl
  refine zHide (fun Qz_ hQz_ => ?_)
  have hx := C.1
  have hb := C.2.1
  have hl : lv_has ls 1 [(0, .ref h)] := hl
  refine lv_aload_n hx hb dX5_init_0 rfl (lv_at hl 0 rfl) ?_
  refine W.objInit hx hb C.2.2.2.1 (C.2.2.2.2 _ m_ml_RX5_3) (C.2.2.2.2 _ m_im_obj) (C.2.2.2.2 _ m_co_obj) rfl (by rw [C.2.2.1]; exact hl.1) rfl dX5_init_1 (Nat.le_of_ble_eq_true rfl) (Nat.le_of_ble_eq_true rfl) ?_
  refine W.eq (g2 := F0 m 4 ls []) rfl ?_
  refine lv_aload_n hx hb dX5_init_4 rfl (lv_at hl 0 rfl) ?_
  refine lv_bipush (v := 8) hx hb dX5_init_5 (by decide) ?_
  refine z_newa C G 0 (ty := .int) (N' := 8) (a0 := (8, .inl (fun _ => 0))) rfl z_uint m_ar_int rfl (fun _ => rfl) (by decide) (by decide) (Nat.le_of_ble_eq_true rfl) (Nat.le_of_ble_eq_true rfl) (Nat.le_of_ble_eq_true rfl) dX5_init_7 (fun q_1 H G => ?_)
  have G : zS T A s.heap s [[(h, .inr (5, [.int 0, .null, .null]))], [zAr T 0 q_1 8 (fun _ => 0)]] _ _ := G
  refine z_putF C G hnm clX5 0 rfl 1 (by decide) m_fl_RX5_9 rfl rfl rfl rfl (Nat.le_of_ble_eq_true rfl) dX5_init_9 (fun H locs G => ?_)
  have G : zS T A s.heap s [[(h, .inr (5, [.int 0, .ref q_1, .null]))], [zAr T 0 q_1 8 (fun _ => 0)]] _ _ := G
  refine lv_aload_n hx hb dX5_init_12 rfl (lv_at hl 0 rfl) ?_
  refine lv_bipush (v := 8) hx hb dX5_init_13 (by decide) ?_
  refine z_newa C G 0 (ty := .int) (N' := 8) (a0 := (8, .inl (fun _ => 0))) rfl z_uint m_ar_int rfl (fun _ => rfl) (by decide) (by decide) (Nat.le_of_ble_eq_true rfl) (Nat.le_of_ble_eq_true rfl) (Nat.le_of_ble_eq_true rfl) dX5_init_15 (fun q_2 H G => ?_)
  have G : zS T A s.heap s [[(h, .inr (5, [.int 0, .ref q_1, .null]))], [zAr T 0 q_1 8 (fun _ => 0)], [zAr T 0 q_2 8 (fun _ => 0)]] _ _ := G
  refine z_putF C G hnm clX5 0 rfl 2 (by decide) m_fl_RX5_15 rfl rfl rfl rfl (Nat.le_of_ble_eq_true rfl) dX5_init_17 (fun H locs G => ?_)
  have G : zS T A s.heap s [[(h, .inr (5, [.int 0, .ref q_1, .ref q_2]))], [zAr T 0 q_1 8 (fun _ => 0)], [zAr T 0 q_2 8 (fun _ => 0)]] _ _ := G
  have hw_3 : bLog T h 0 (fun _ => 0) (fun _ => 0) [(h, .inr (5, [.int 0, .ref q_1, .ref q_2])), zAr T 0 q_1 8 (fun _ => 0), zAr T 0 q_2 8 (fun _ => 0)] := ⟨q_1, q_2, rfl⟩
  have G : zS T A s.heap s [[(h, .inr (5, [.int 0, .ref q_1, .ref q_2])), zAr T 0 q_1 8 (fun _ => 0), zAr T 0 q_2 8 (fun _ => 0)]] _ _ := G.re rfl
  exact z_back hQz_ (z_vret C hr hlocks G (Nat.le_of_ble_eq_true rfl) (Nat.le_of_ble_eq_true rfl) dX5_init_20 ⟨([(h, .inr (5, [.int 0, .ref q_1, .ref q_2])), zAr T 0 q_1 8 (fun _ => 0), zAr T 0 q_2 8 (fun _ => 0)]), rfl, hw_3⟩)
set_option maxHeartbeats 4000000 in
set_option maxRecDepth 100000 in
theorem c_Told_init (l : Launch) (T : zTy) (h : Nat) : zMv l T yX9_init cX9_init 1 3 29 1005 [.ref h] [[(h, .inr (8, [.null, .int 0, .int 0, .int 0, .null, .null, .null, .null]))]] (fun bs => ∃ (w : va_W) (l0 : Nat) (l1 : Nat) (d0 : Nat) (d1 : Nat) (g0 : Nat) (g1 : Nat) (w1 : va_W) (w2 : va_W) (w3 : va_W) (w4 : va_W) (w5 : va_W) (w6 : va_W), bs = [w, w1, w2, w3, w4, w5, w6] ∧ bTold T h l0 l1 d0 d1 g0 g1 0 0 (-1) (fun _ => 0) (fun _ => 0) w ∧ bLand T l0 0 0 (fun _ => 0) (fun _ => 0) (fun _ => 0) (fun _ => 0) w1 ∧ bLand T l1 0 0 (fun _ => 0) (fun _ => 0) (fun _ => 0) (fun _ => 0) w2 ∧ bDay T d0 0 (fun _ => 0) (fun _ => 0) (fun _ => 0) w3 ∧ bDay T d1 0 (fun _ => 0) (fun _ => 0) (fun _ => 0) w4 ∧ bLog T g0 0 (fun _ => 0) (fun _ => 0) w5 ∧ bLog T g1 0 (fun _ => 0) (fun _ => 0) w6) := by
  refine zMv_of (own := RX9) (by decide) rfl (Nat.le_of_ble_eq_true rfl) ?_
  intro p e s m args below meth c A ls C hr hlocks hnm hAe G hl
  refine zHide (fun Qz_ hQz_ => ?_)
  have hx := C.1
  have hb := C.2.1
  have hl : lv_has ls 1 [(0, .ref h)] := hl
  refine lv_aload_n hx hb dX9_init_0 rfl (lv_at hl 0 rfl) ?_
  refine W.objInit hx hb C.2.2.2.1 (C.2.2.2.2 _ m_ml_RX9_3) (C.2.2.2.2 _ m_im_obj) (C.2.2.2.2 _ m_co_obj) rfl (by rw [C.2.2.1]; exact hl.1) rfl dX9_init_1 (Nat.le_of_ble_eq_true rfl) (Nat.le_of_ble_eq_true rfl) ?_
  refine W.eq (g2 := F0 m 4 ls []) rfl ?_
  refine lv_aload_n hx hb dX9_init_4 rfl (lv_at hl 0 rfl) ?_
  refine lv_sipush (v := 600) hx hb dX9_init_5 (by decide) ?_
  refine z_newa C G 1 (ty := .byte) (N' := 600) (a0 := (600, .inl (fun _ => 0))) rfl z_ubyte m_ar_byte rfl (fun _ => rfl) (by decide) (by decide) (Nat.le_of_ble_eq_true rfl) (Nat.le_of_ble_eq_true rfl) (Nat.le_of_ble_eq_true rfl) dX9_init_8 (fun q_1 H G => ?_)
  have G : zS T A s.heap s [[(h, .inr (8, [.null, .int 0, .int 0, .int 0, .null, .null, .null, .null]))], [zAr T 1 q_1 600 (fun _ => 0)]] _ _ := G
  refine z_putF C G hnm clX9 0 rfl 0 (by decide) m_fl_RX9_9 rfl rfl rfl rfl (Nat.le_of_ble_eq_true rfl) dX9_init_10 (fun H locs G => ?_)
  have G : zS T A s.heap s [[(h, .inr (8, [.ref q_1, .int 0, .int 0, .int 0, .null, .null, .null, .null]))], [zAr T 1 q_1 600 (fun _ => 0)]] _ _ := G
  refine lv_aload_n hx hb dX9_init_13 rfl (lv_at hl 0 rfl) ?_
  refine lv_iconst (v := (-1)) hx hb dX9_init_14 (by decide) ?_
  refine z_put C G clX9 0 rfl 3 (by decide) m_fl_RX9_15 rfl rfl rfl (Nat.le_of_ble_eq_true rfl) dX9_init_15 (fun H locs G => ?_)
  have G : zS T A s.heap s [[(h, .inr (8, [.ref q_1, .int 0, .int 0, .int (-1), .null, .null, .null, .null]))], [zAr T 1 q_1 600 (fun _ => 0)]] _ _ := G
  refine lv_aload_n hx hb dX9_init_18 rfl (lv_at hl 0 rfl) ?_
  refine lv_iconst (v := 3) hx hb dX9_init_19 (by decide) ?_
  refine z_newa C G 0 (ty := .int) (N' := 3) (a0 := (3, .inl (fun _ => 0))) rfl z_uint m_ar_int rfl (fun _ => rfl) (by decide) (by decide) (Nat.le_of_ble_eq_true rfl) (Nat.le_of_ble_eq_true rfl) (Nat.le_of_ble_eq_true rfl) dX9_init_20 (fun q_2 H G => ?_)
  have G : zS T A s.heap s [[(h, .inr (8, [.ref q_1, .int 0, .int 0, .int (-1), .null, .null, .null, .null]))], [zAr T 1 q_1 600 (fun _ => 0)], [zAr T 0 q_2 3 (fun _ => 0)]] _ _ := G
  refine z_putF C G hnm clX9 0 rfl 4 (by decide) m_fl_RX9_19 rfl rfl rfl rfl (Nat.le_of_ble_eq_true rfl) dX9_init_22 (fun H locs G => ?_)
  have G : zS T A s.heap s [[(h, .inr (8, [.ref q_1, .int 0, .int 0, .int (-1), .ref q_2, .null, .null, .null]))], [zAr T 1 q_1 600 (fun _ => 0)], [zAr T 0 q_2 3 (fun _ => 0)]] _ _ := G
  refine lv_aload_n hx hb dX9_init_25 rfl (lv_at hl 0 rfl) ?_
  refine lv_iconst (v := 2) hx hb dX9_init_26 (by decide) ?_
  refine z_newq C G 3 rfl m_cl_RX9_23 (List.mem_of_getElem? (i := 0) rfl) (N' := 2) (by decide) (by decide) (by decide) (Nat.le_of_ble_eq_true rfl) (Nat.le_of_ble_eq_true rfl) dX9_init_27 (fun q_3 H G => ?_)
  have G : zS T A s.heap s [[(h, .inr (8, [.ref q_1, .int 0, .int 0, .int (-1), .ref q_2, .null, .null, .null]))], [zAr T 1 q_1 600 (fun _ => 0)], [zAr T 0 q_2 3 (fun _ => 0)], [zArq T 3 q_3 2 (fun _ => none)]] _ _ := G
  refine lv_dup hx hb dX9_init_30 rfl ?_
  refine lv_iconst (v := 0) hx hb dX9_init_31 (by decide) ?_
  refine z_new C G clX4 (fs := [.int 0, .int 0, .null, .null, .null, .null]) m_cl_RX9_23 m_in_RX4 m_ii_RX4 (fun j hj => by match j, hj with | 0, _ => rfl | 1, _ => rfl | 2, _ => rfl | 3, _ => rfl | 4, _ => rfl | 5, _ => rfl | j + 6, h => exact absurd h (by omega)) (Nat.le_of_ble_eq_true rfl) (Nat.le_of_ble_eq_true rfl) dX9_init_32 (fun q_4 H G => ?_)
  have G : zS T A s.heap s [[(h, .inr (8, [.ref q_1, .int 0, .int 0, .int (-1), .ref q_2, .null, .null, .null]))], [zAr T 1 q_1 600 (fun _ => 0)], [zAr T 0 q_2 3 (fun _ => 0)], [zArq T 3 q_3 2 (fun _ => none)], [(q_4, .inr (4, [.int 0, .int 0, .null, .null, .null, .null]))]] _ _ := G
  refine lv_dup hx hb dX9_init_35 rfl ?_
  refine z_Jv (bc := [[(q_4, .inr (4, [.int 0, .int 0, .null, .null, .null, .null]))]]) (br := [[(h, .inr (8, [.ref q_1, .int 0, .int 0, .int (-1), .ref q_2, .null, .null, .null]))], [zAr T 1 q_1 600 (fun _ => 0)], [zAr T 0 q_2 3 (fun _ => 0)], [zArq T 3 q_3 2 (fun _ => none)]]) (As := []) (rest := [.ref q_4, .int 0, .ref q_3, .ref q_3, .ref h]) C G (c_Land_init l T q_4) (kJ_RX9_25 G.2.2.2.2.2.1 C.2.2.2.2 (Nat.le_of_ble_eq_true rfl) (Nat.le_of_ble_eq_true rfl)) [4] [4] rfl rfl rfl rfl hl.1 dX9_init_36 (Nat.le_of_ble_eq_true rfl) (Nat.le_of_ble_eq_true rfl) (fun b1 H locs hw G => ?_)
  refine zEx1 hw ?_
  intro w_5
  refine zCu2 ?_
  intro hbs9 h_6
  clear hw
  subst hbs9
  have G : zS T A s.heap s [[(h, .inr (8, [.ref q_1, .int 0, .int 0, .int (-1), .ref q_2, .null, .null, .null]))], [zAr T 1 q_1 600 (fun _ => 0)], [zAr T 0 q_2 3 (fun _ => 0)], [zArq T 3 q_3 2 (fun _ => none)], w_5] _ _ := G
  refine z_ast C G 3 3 (ci := 4) (r := (RX4, TX4, 6)) rfl rfl (List.mem_flatten.mpr ⟨_, List.mem_of_getElem? (i := 4) rfl, (bLand_mem h_6).choose_spec⟩) rfl (vp_in_nI (n := 0) (by decide) (by decide)) dX9_init_39 (fun H locs G => ?_)
  have G : zS T A s.heap s [[(h, .inr (8, [.ref q_1, .int 0, .int 0, .int (-1), .ref q_2, .null, .null, .null]))], [zAr T 1 q_1 600 (fun _ => 0)], [zAr T 0 q_2 3 (fun _ => 0)], [zArq T 3 q_3 2 (va_up (fun _ => none) 0 (some q_4))], w_5] _ _ := G
  refine lv_dup hx hb dX9_init_40 rfl ?_
  refine lv_iconst (v := 1) hx hb dX9_init_41 (by decide) ?_
  refine z_new C G clX4 (fs := [.int 0, .int 0, .null, .null, .null, .null]) m_cl_RX9_23 m_in_RX4 m_ii_RX4 (fun j hj => by match j, hj with | 0, _ => rfl | 1, _ => rfl | 2, _ => rfl | 3, _ => rfl | 4, _ => rfl | 5, _ => rfl | j + 6, h => exact absurd h (by omega)) (Nat.le_of_ble_eq_true rfl) (Nat.le_of_ble_eq_true rfl) dX9_init_42 (fun q_8 H G => ?_)
  have G : zS T A s.heap s [[(h, .inr (8, [.ref q_1, .int 0, .int 0, .int (-1), .ref q_2, .null, .null, .null]))], [zAr T 1 q_1 600 (fun _ => 0)], [zAr T 0 q_2 3 (fun _ => 0)], [zArq T 3 q_3 2 (va_up (fun _ => none) 0 (some q_4))], w_5, [(q_8, .inr (4, [.int 0, .int 0, .null, .null, .null, .null]))]] _ _ := G
  refine lv_dup hx hb dX9_init_45 rfl ?_
  refine z_Jv (bc := [[(q_8, .inr (4, [.int 0, .int 0, .null, .null, .null, .null]))]]) (br := [[(h, .inr (8, [.ref q_1, .int 0, .int 0, .int (-1), .ref q_2, .null, .null, .null]))], [zAr T 1 q_1 600 (fun _ => 0)], [zAr T 0 q_2 3 (fun _ => 0)], [zArq T 3 q_3 2 (va_up (fun _ => none) 0 (some q_4))], w_5]) (As := []) (rest := [.ref q_8, .int 1, .ref q_3, .ref q_3, .ref h]) C G (c_Land_init l T q_8) (kJ_RX9_25 G.2.2.2.2.2.1 C.2.2.2.2 (Nat.le_of_ble_eq_true rfl) (Nat.le_of_ble_eq_true rfl)) [5] [5] rfl rfl rfl rfl hl.1 dX9_init_46 (Nat.le_of_ble_eq_true rfl) (Nat.le_of_ble_eq_true rfl) (fun b1 H locs hw G => ?_)
  refine zEx1 hw ?_
  intro w_9
  refine zCu2 ?_
  intro hbs9 h_10
  clear hw
  subst hbs9
  have G : zS T A s.heap s [[(h, .inr (8, [.ref q_1, .int 0, .int 0, .int (-1), .ref q_2, .null, .null, .null]))], [zAr T 1 q_1 600 (fun _ => 0)], [zAr T 0 q_2 3 (fun _ => 0)], [zArq T 3 q_3 2 (va_up (fun _ => none) 0 (some q_4))], w_5, w_9] _ _ := G
  refine z_ast C G 3 3 (ci := 4) (r := (RX4, TX4, 6)) rfl rfl (List.mem_flatten.mpr ⟨_, List.mem_of_getElem? (i := 5) rfl, (bLand_mem h_10).choose_spec⟩) rfl (vp_in_nI (n := 1) (by decide) (by decide)) dX9_init_49 (fun H locs G => ?_)
  have G : zS T A s.heap s [[(h, .inr (8, [.ref q_1, .int 0, .int 0, .int (-1), .ref q_2, .null, .null, .null]))], [zAr T 1 q_1 600 (fun _ => 0)], [zAr T 0 q_2 3 (fun _ => 0)], [zArq T 3 q_3 2 (va_up (va_up (fun _ => none) 0 (some q_4)) 1 (some q_8))], w_5, w_9] _ _ := G
  refine z_putF C G hnm clX9 0 rfl 5 (by decide) m_fl_RX9_26 rfl rfl rfl rfl (Nat.le_of_ble_eq_true rfl) dX9_init_50 (fun H locs G => ?_)
  have G : zS T A s.heap s [[(h, .inr (8, [.ref q_1, .int 0, .int 0, .int (-1), .ref q_2, .ref q_3, .null, .null]))], [zAr T 1 q_1 600 (fun _ => 0)], [zAr T 0 q_2 3 (fun _ => 0)], [zArq T 3 q_3 2 (va_up (va_up (fun _ => none) 0 (some q_4)) 1 (some q_8))], w_5, w_9] _ _ := G
  refine lv_aload_n hx hb dX9_init_53 rfl (lv_at hl 0 rfl) ?_
  refine lv_iconst (v := 2) hx hb dX9_init_54 (by decide) ?_
  refine z_newq C G 4 rfl m_cl_RX9_30 (List.mem_of_getElem? (i := 1) rfl) (N' := 2) (by decide) (by decide) (by decide) (Nat.le_of_ble_eq_true rfl) (Nat.le_of_ble_eq_true rfl) dX9_init_55 (fun q_12 H G => ?_)
  have G : zS T A s.heap s [[(h, .inr (8, [.ref q_1, .int 0, .int 0, .int (-1), .ref q_2, .ref q_3, .null, .null]))], [zAr T 1 q_1 600 (fun _ => 0)], [zAr T 0 q_2 3 (fun _ => 0)], [zArq T 3 q_3 2 (va_up (va_up (fun _ => none) 0 (some q_4)) 1 (some q_8))], w_5, w_9, [zArq T 4 q_12 2 (fun _ => none)]] _ _ := G
  refine lv_dup hx hb dX9_init_58 rfl ?_
  refine lv_iconst (v := 0) hx hb dX9_init_59 (by decide) ?_
  refine z_new C G clX2 (fs := [.int 0, .null, .null, .null]) m_cl_RX9_30 m_in_RX2 m_ii_RX2 (fun j hj => by match j, hj with | 0, _ => rfl | 1, _ => rfl | 2, _ => rfl | 3, _ => rfl | j + 4, h => exact absurd h (by omega)) (Nat.le_of_ble_eq_true rfl) (Nat.le_of_ble_eq_true rfl) dX9_init_60 (fun q_13 H G => ?_)
  have G : zS T A s.heap s [[(h, .inr (8, [.ref q_1, .int 0, .int 0, .int (-1), .ref q_2, .ref q_3, .null, .null]))], [zAr T 1 q_1 600 (fun _ => 0)], [zAr T 0 q_2 3 (fun _ => 0)], [zArq T 3 q_3 2 (va_up (va_up (fun _ => none) 0 (some q_4)) 1 (some q_8))], w_5, w_9, [zArq T 4 q_12 2 (fun _ => none)], [(q_13, .inr (2, [.int 0, .null, .null, .null]))]] _ _ := G
  refine lv_dup hx hb dX9_init_63 rfl ?_
  refine z_Jv (bc := [[(q_13, .inr (2, [.int 0, .null, .null, .null]))]]) (br := [[(h, .inr (8, [.ref q_1, .int 0, .int 0, .int (-1), .ref q_2, .ref q_3, .null, .null]))], [zAr T 1 q_1 600 (fun _ => 0)], [zAr T 0 q_2 3 (fun _ => 0)], [zArq T 3 q_3 2 (va_up (va_up (fun _ => none) 0 (some q_4)) 1 (some q_8))], w_5, w_9, [zArq T 4 q_12 2 (fun _ => none)]]) (As := []) (rest := [.ref q_13, .int 0, .ref q_12, .ref q_12, .ref h]) C G (c_Day_init l T q_13) (kJ_RX9_32 G.2.2.2.2.2.1 C.2.2.2.2 (Nat.le_of_ble_eq_true rfl) (Nat.le_of_ble_eq_true rfl)) [7] [7] rfl rfl rfl rfl hl.1 dX9_init_64 (Nat.le_of_ble_eq_true rfl) (Nat.le_of_ble_eq_true rfl) (fun b1 H locs hw G => ?_)
  refine zEx1 hw ?_
  intro w_14
  refine zCu2 ?_
  intro hbs9 h_15
  clear hw
  subst hbs9
  have G : zS T A s.heap s [[(h, .inr (8, [.ref q_1, .int 0, .int 0, .int (-1), .ref q_2, .ref q_3, .null, .null]))], [zAr T 1 q_1 600 (fun _ => 0)], [zAr T 0 q_2 3 (fun _ => 0)], [zArq T 3 q_3 2 (va_up (va_up (fun _ => none) 0 (some q_4)) 1 (some q_8))], w_5, w_9, [zArq T 4 q_12 2 (fun _ => none)], w_14] _ _ := G
  refine z_ast C G 6 4 (ci := 2) (r := (RX2, TX2, 4)) rfl rfl (List.mem_flatten.mpr ⟨_, List.mem_of_getElem? (i := 7) rfl, (bDay_mem h_15).choose_spec⟩) rfl (vp_in_nI (n := 0) (by decide) (by decide)) dX9_init_67 (fun H locs G => ?_)
  have G : zS T A s.heap s [[(h, .inr (8, [.ref q_1, .int 0, .int 0, .int (-1), .ref q_2, .ref q_3, .null, .null]))], [zAr T 1 q_1 600 (fun _ => 0)], [zAr T 0 q_2 3 (fun _ => 0)], [zArq T 3 q_3 2 (va_up (va_up (fun _ => none) 0 (some q_4)) 1 (some q_8))], w_5, w_9, [zArq T 4 q_12 2 (va_up (fun _ => none) 0 (some q_13))], w_14] _ _ := G
  refine lv_dup hx hb dX9_init_68 rfl ?_
  refine lv_iconst (v := 1) hx hb dX9_init_69 (by decide) ?_
  refine z_new C G clX2 (fs := [.int 0, .null, .null, .null]) m_cl_RX9_30 m_in_RX2 m_ii_RX2 (fun j hj => by match j, hj with | 0, _ => rfl | 1, _ => rfl | 2, _ => rfl | 3, _ => rfl | j + 4, h => exact absurd h (by omega)) (Nat.le_of_ble_eq_true rfl) (Nat.le_of_ble_eq_true rfl) dX9_init_70 (fun q_17 H G => ?_)
  have G : zS T A s.heap s [[(h, .inr (8, [.ref q_1, .int 0, .int 0, .int (-1), .ref q_2, .ref q_3, .null, .null]))], [zAr T 1 q_1 600 (fun _ => 0)], [zAr T 0 q_2 3 (fun _ => 0)], [zArq T 3 q_3 2 (va_up (va_up (fun _ => none) 0 (some q_4)) 1 (some q_8))], w_5, w_9, [zArq T 4 q_12 2 (va_up (fun _ => none) 0 (some q_13))], w_14, [(q_17, .inr (2, [.int 0, .null, .null, .null]))]] _ _ := G
  refine lv_dup hx hb dX9_init_73 rfl ?_
  refine z_Jv (bc := [[(q_17, .inr (2, [.int 0, .null, .null, .null]))]]) (br := [[(h, .inr (8, [.ref q_1, .int 0, .int 0, .int (-1), .ref q_2, .ref q_3, .null, .null]))], [zAr T 1 q_1 600 (fun _ => 0)], [zAr T 0 q_2 3 (fun _ => 0)], [zArq T 3 q_3 2 (va_up (va_up (fun _ => none) 0 (some q_4)) 1 (some q_8))], w_5, w_9, [zArq T 4 q_12 2 (va_up (fun _ => none) 0 (some q_13))], w_14]) (As := []) (rest := [.ref q_17, .int 1, .ref q_12, .ref q_12, .ref h]) C G (c_Day_init l T q_17) (kJ_RX9_32 G.2.2.2.2.2.1 C.2.2.2.2 (Nat.le_of_ble_eq_true rfl) (Nat.le_of_ble_eq_true rfl)) [8] [8] rfl rfl rfl rfl hl.1 dX9_init_74 (Nat.le_of_ble_eq_true rfl) (Nat.le_of_ble_eq_true rfl) (fun b1 H locs hw G => ?_)
  refine zEx1 hw ?_
  intro w_18
  refine zCu2 ?_
  intro hbs9 h_19
  clear hw
  subst hbs9
  have G : zS T A s.heap s [[(h, .inr (8, [.ref q_1, .int 0, .int 0, .int (-1), .ref q_2, .ref q_3, .null, .null]))], [zAr T 1 q_1 600 (fun _ => 0)], [zAr T 0 q_2 3 (fun _ => 0)], [zArq T 3 q_3 2 (va_up (va_up (fun _ => none) 0 (some q_4)) 1 (some q_8))], w_5, w_9, [zArq T 4 q_12 2 (va_up (fun _ => none) 0 (some q_13))], w_14, w_18] _ _ := G
  refine z_ast C G 6 4 (ci := 2) (r := (RX2, TX2, 4)) rfl rfl (List.mem_flatten.mpr ⟨_, List.mem_of_getElem? (i := 8) rfl, (bDay_mem h_19).choose_spec⟩) rfl (vp_in_nI (n := 1) (by decide) (by decide)) dX9_init_77 (fun H locs G => ?_)
  have G : zS T A s.heap s [[(h, .inr (8, [.ref q_1, .int 0, .int 0, .int (-1), .ref q_2, .ref q_3, .null, .null]))], [zAr T 1 q_1 600 (fun _ => 0)], [zAr T 0 q_2 3 (fun _ => 0)], [zArq T 3 q_3 2 (va_up (va_up (fun _ => none) 0 (some q_4)) 1 (some q_8))], w_5, w_9, [zArq T 4 q_12 2 (va_up (va_up (fun _ => none) 0 (some q_13)) 1 (some q_17))], w_14, w_18] _ _ := G
  refine z_putF C G hnm clX9 0 rfl 6 (by decide) m_fl_RX9_33 rfl rfl rfl rfl (Nat.le_of_ble_eq_true rfl) dX9_init_78 (fun H locs G => ?_)
  have G : zS T A s.heap s [[(h, .inr (8, [.ref q_1, .int 0, .int 0, .int (-1), .ref q_2, .ref q_3, .ref q_12, .null]))], [zAr T 1 q_1 600 (fun _ => 0)], [zAr T 0 q_2 3 (fun _ => 0)], [zArq T 3 q_3 2 (va_up (va_up (fun _ => none) 0 (some q_4)) 1 (some q_8))], w_5, w_9, [zArq T 4 q_12 2 (va_up (va_up (fun _ => none) 0 (some q_13)) 1 (some q_17))], w_14, w_18] _ _ := G
  refine lv_aload_n hx hb dX9_init_81 rfl (lv_at hl 0 rfl) ?_
  refine lv_iconst (v := 2) hx hb dX9_init_82 (by decide) ?_
  refine z_newq C G 5 rfl m_cl_RX9_37 (List.mem_of_getElem? (i := 2) rfl) (N' := 2) (by decide) (by decide) (by decide) (Nat.le_of_ble_eq_true rfl) (Nat.le_of_ble_eq_true rfl) dX9_init_83 (fun q_21 H G => ?_)
  have G : zS T A s.heap s [[(h, .inr (8, [.ref q_1, .int 0, .int 0, .int (-1), .ref q_2, .ref q_3, .ref q_12, .null]))], [zAr T 1 q_1 600 (fun _ => 0)], [zAr T 0 q_2 3 (fun _ => 0)], [zArq T 3 q_3 2 (va_up (va_up (fun _ => none) 0 (some q_4)) 1 (some q_8))], w_5, w_9, [zArq T 4 q_12 2 (va_up (va_up (fun _ => none) 0 (some q_13)) 1 (some q_17))], w_14, w_18, [zArq T 5 q_21 2 (fun _ => none)]] _ _ := G
  refine lv_dup hx hb dX9_init_86 rfl ?_
  refine lv_iconst (v := 0) hx hb dX9_init_87 (by decide) ?_
  refine z_new C G clX5 (fs := [.int 0, .null, .null]) m_cl_RX9_37 m_in_RX5 m_ii_RX5 (fun j hj => by match j, hj with | 0, _ => rfl | 1, _ => rfl | 2, _ => rfl | j + 3, h => exact absurd h (by omega)) (Nat.le_of_ble_eq_true rfl) (Nat.le_of_ble_eq_true rfl) dX9_init_88 (fun q_22 H G => ?_)
  have G : zS T A s.heap s [[(h, .inr (8, [.ref q_1, .int 0, .int 0, .int (-1), .ref q_2, .ref q_3, .ref q_12, .null]))], [zAr T 1 q_1 600 (fun _ => 0)], [zAr T 0 q_2 3 (fun _ => 0)], [zArq T 3 q_3 2 (va_up (va_up (fun _ => none) 0 (some q_4)) 1 (some q_8))], w_5, w_9, [zArq T 4 q_12 2 (va_up (va_up (fun _ => none) 0 (some q_13)) 1 (some q_17))], w_14, w_18, [zArq T 5 q_21 2 (fun _ => none)], [(q_22, .inr (5, [.int 0, .null, .null]))]] _ _ := G
  refine lv_dup hx hb dX9_init_91 rfl ?_
  refine z_Jv (bc := [[(q_22, .inr (5, [.int 0, .null, .null]))]]) (br := [[(h, .inr (8, [.ref q_1, .int 0, .int 0, .int (-1), .ref q_2, .ref q_3, .ref q_12, .null]))], [zAr T 1 q_1 600 (fun _ => 0)], [zAr T 0 q_2 3 (fun _ => 0)], [zArq T 3 q_3 2 (va_up (va_up (fun _ => none) 0 (some q_4)) 1 (some q_8))], w_5, w_9, [zArq T 4 q_12 2 (va_up (va_up (fun _ => none) 0 (some q_13)) 1 (some q_17))], w_14, w_18, [zArq T 5 q_21 2 (fun _ => none)]]) (As := []) (rest := [.ref q_22, .int 0, .ref q_21, .ref q_21, .ref h]) C G (c_Log_init l T q_22) (kJ_RX9_39 G.2.2.2.2.2.1 C.2.2.2.2 (Nat.le_of_ble_eq_true rfl) (Nat.le_of_ble_eq_true rfl)) [10] [10] rfl rfl rfl rfl hl.1 dX9_init_92 (Nat.le_of_ble_eq_true rfl) (Nat.le_of_ble_eq_true rfl) (fun b1 H locs hw G => ?_)
  refine zEx1 hw ?_
  intro w_23
  refine zCu2 ?_
  intro hbs9 h_24
  clear hw
  subst hbs9
  have G : zS T A s.heap s [[(h, .inr (8, [.ref q_1, .int 0, .int 0, .int (-1), .ref q_2, .ref q_3, .ref q_12, .null]))], [zAr T 1 q_1 600 (fun _ => 0)], [zAr T 0 q_2 3 (fun _ => 0)], [zArq T 3 q_3 2 (va_up (va_up (fun _ => none) 0 (some q_4)) 1 (some q_8))], w_5, w_9, [zArq T 4 q_12 2 (va_up (va_up (fun _ => none) 0 (some q_13)) 1 (some q_17))], w_14, w_18, [zArq T 5 q_21 2 (fun _ => none)], w_23] _ _ := G
  refine z_ast C G 9 5 (ci := 5) (r := (RX5, TX5, 3)) rfl rfl (List.mem_flatten.mpr ⟨_, List.mem_of_getElem? (i := 10) rfl, (bLog_mem h_24).choose_spec⟩) rfl (vp_in_nI (n := 0) (by decide) (by decide)) dX9_init_95 (fun H locs G => ?_)
  have G : zS T A s.heap s [[(h, .inr (8, [.ref q_1, .int 0, .int 0, .int (-1), .ref q_2, .ref q_3, .ref q_12, .null]))], [zAr T 1 q_1 600 (fun _ => 0)], [zAr T 0 q_2 3 (fun _ => 0)], [zArq T 3 q_3 2 (va_up (va_up (fun _ => none) 0 (some q_4)) 1 (some q_8))], w_5, w_9, [zArq T 4 q_12 2 (va_up (va_up (fun _ => none) 0 (some q_13)) 1 (some q_17))], w_14, w_18, [zArq T 5 q_21 2 (va_up (fun _ => none) 0 (some q_22))], w_23] _ _ := G
  refine lv_dup hx hb dX9_init_96 rfl ?_
  refine lv_iconst (v := 1) hx hb dX9_init_97 (by decide) ?_
  refine z_new C G clX5 (fs := [.int 0, .null, .null]) m_cl_RX9_37 m_in_RX5 m_ii_RX5 (fun j hj => by match j, hj with | 0, _ => rfl | 1, _ => rfl | 2, _ => rfl | j + 3, h => exact absurd h (by omega)) (Nat.le_of_ble_eq_true rfl) (Nat.le_of_ble_eq_true rfl) dX9_init_98 (fun q_26 H G => ?_)
  have G : zS T A s.heap s [[(h, .inr (8, [.ref q_1, .int 0, .int 0, .int (-1), .ref q_2, .ref q_3, .ref q_12, .null]))], [zAr T 1 q_1 600 (fun _ => 0)], [zAr T 0 q_2 3 (fun _ => 0)], [zArq T 3 q_3 2 (va_up (va_up (fun _ => none) 0 (some q_4)) 1 (some q_8))], w_5, w_9, [zArq T 4 q_12 2 (va_up (va_up (fun _ => none) 0 (some q_13)) 1 (some q_17))], w_14, w_18, [zArq T 5 q_21 2 (va_up (fun _ => none) 0 (some q_22))], w_23, [(q_26, .inr (5, [.int 0, .null, .null]))]] _ _ := G
  refine lv_dup hx hb dX9_init_101 rfl ?_
  refine z_Jv (bc := [[(q_26, .inr (5, [.int 0, .null, .null]))]]) (br := [[(h, .inr (8, [.ref q_1, .int 0, .int 0, .int (-1), .ref q_2, .ref q_3, .ref q_12, .null]))], [zAr T 1 q_1 600 (fun _ => 0)], [zAr T 0 q_2 3 (fun _ => 0)], [zArq T 3 q_3 2 (va_up (va_up (fun _ => none) 0 (some q_4)) 1 (some q_8))], w_5, w_9, [zArq T 4 q_12 2 (va_up (va_up (fun _ => none) 0 (some q_13)) 1 (some q_17))], w_14, w_18, [zArq T 5 q_21 2 (va_up (fun _ => none) 0 (some q_22))], w_23]) (As := []) (rest := [.ref q_26, .int 1, .ref q_21, .ref q_21, .ref h]) C G (c_Log_init l T q_26) (kJ_RX9_39 G.2.2.2.2.2.1 C.2.2.2.2 (Nat.le_of_ble_eq_true rfl) (Nat.le_of_ble_eq_true rfl)) [11] [11] rfl rfl rfl rfl hl.1 dX9_init_102 (Nat.le_of_ble_eq_true rfl) (Nat.le_of_ble_eq_true rfl) (fun b1 H locs hw G => ?_)
  refine zEx1 hw ?_
  intro w_27
  refine zCu2 ?_
  intro hbs9 h_28
  clear hw
  subst hbs9
  have G : zS T A s.heap s [[(h, .inr (8, [.ref q_1, .int 0, .int 0, .int (-1), .ref q_2, .ref q_3, .ref q_12, .null]))], [zAr T 1 q_1 600 (fun _ => 0)], [zAr T 0 q_2 3 (fun _ => 0)], [zArq T 3 q_3 2 (va_up (va_up (fun _ => none) 0 (some q_4)) 1 (some q_8))], w_5, w_9, [zArq T 4 q_12 2 (va_up (va_up (fun _ => none) 0 (some q_13)) 1 (some q_17))], w_14, w_18, [zArq T 5 q_21 2 (va_up (fun _ => none) 0 (some q_22))], w_23, w_27] _ _ := G
  refine z_ast C G 9 5 (ci := 5) (r := (RX5, TX5, 3)) rfl rfl (List.mem_flatten.mpr ⟨_, List.mem_of_getElem? (i := 11) rfl, (bLog_mem h_28).choose_spec⟩) rfl (vp_in_nI (n := 1) (by decide) (by decide)) dX9_init_105 (fun H locs G => ?_)
  have G : zS T A s.heap s [[(h, .inr (8, [.ref q_1, .int 0, .int 0, .int (-1), .ref q_2, .ref q_3, .ref q_12, .null]))], [zAr T 1 q_1 600 (fun _ => 0)], [zAr T 0 q_2 3 (fun _ => 0)], [zArq T 3 q_3 2 (va_up (va_up (fun _ => none) 0 (some q_4)) 1 (some q_8))], w_5, w_9, [zArq T 4 q_12 2 (va_up (va_up (fun _ => none) 0 (some q_13)) 1 (some q_17))], w_14, w_18, [zArq T 5 q_21 2 (va_up (va_up (fun _ => none) 0 (some q_22)) 1 (some q_26))], w_23, w_27] _ _ := G
  refine z_putF C G hnm clX9 0 rfl 7 (by decide) m_fl_RX9_40 rfl rfl rfl rfl (Nat.le_of_ble_eq_true rfl) dX9_init_106 (fun H locs G => ?_)
  have G : zS T A s.heap s [[zO8 h q_1 0 0 (-1) q_2 q_3 q_12 q_21], [zAr T 1 q_1 600 (fun _ => 0)], [zAr T 0 q_2 3 (fun _ => 0)], [zArq T 3 q_3 2 (va_up (va_up (fun _ => none) 0 (some q_4)) 1 (some q_8))], w_5, w_9, [zArq T 4 q_12 2 (va_up (va_up (fun _ => none) 0 (some q_13)) 1 (some q_17))], w_14, w_18, [zArq T 5 q_21 2 (va_up (va_up (fun _ => none) 0 (some q_22)) 1 (some q_26))], w_23, w_27] _ _ := G
  have G := G.sub (bs' := [[zO8 h q_1 0 0 (-1) q_2 q_3 q_12 q_21], [zAr T 1 q_1 600 (fun _ => 0)], [zAr T 0 q_2 3 (fun _ => 0)], [zArq T 3 q_3 2 (va_up (va_up (fun _ => none) 0 (some q_4)) 1 (some q_8))], [zArq T 4 q_12 2 (va_up (va_up (fun _ => none) 0 (some q_13)) 1 (some q_17))], [zArq T 5 q_21 2 (va_up (va_up (fun _ => none) 0 (some q_22)) 1 (some q_26))], w_5, w_9, w_14, w_18, w_23, w_27]) [0, 1, 2, 3, 6, 9, 4, 5, 7, 8, 10, 11] rfl
  have hw_30 : bTold T h q_4 q_8 q_13 q_17 q_22 q_26 0 0 (-1) (fun _ => 0) (fun _ => 0) [zO8 h q_1 0 0 (-1) q_2 q_3 q_12 q_21, zAr T 1 q_1 600 (fun _ => 0), zAr T 0 q_2 3 (fun _ => 0), zArq T 3 q_3 2 (va_up (va_up (fun _ => none) 0 (some q_4)) 1 (some q_8)), zArq T 4 q_12 2 (va_up (va_up (fun _ => none) 0 (some q_13)) 1 (some q_17)), zArq T 5 q_21 2 (va_up (va_up (fun _ => none) 0 (some q_22)) 1 (some q_26))] := ⟨q_1, q_2, q_3, q_12, q_21, (va_up (va_up (fun _ => none) 0 (some q_4)) 1 (some q_8)), (va_up (va_up (fun _ => none) 0 (some q_13)) 1 (some q_17)), (va_up (va_up (fun _ => none) 0 (some q_22)) 1 (some q_26)), rfl, rfl, rfl, rfl, rfl, rfl, rfl⟩
  have G : zS T A s.heap s [[zO8 h q_1 0 0 (-1) q_2 q_3 q_12 q_21, zAr T 1 q_1 600 (fun _ => 0), zAr T 0 q_2 3 (fun _ => 0), zArq T 3 q_3 2 (va_up (va_up (fun _ => none) 0 (some q_4)) 1 (some q_8)), zArq T 4 q_12 2 (va_up (va_up (fun _ => none) 0 (some q_13)) 1 (some q_17)), zArq T 5 q_21 2 (va_up (va_up (fun _ => none) 0 (some q_22)) 1 (some q_26))], w_5, w_9, w_14, w_18, w_23, w_27] _ _ := G.re rfl
  exact z_back hQz_ (z_vret C hr hlocks G (Nat.le_of_ble_eq_true rfl) (Nat.le_of_ble_eq_true rfl) dX9_init_109 ⟨([zO8 h q_1 0 0 (-1) q_2 q_3 q_12 q_21, zAr T 1 q_1 600 (fun _ => 0), zAr T 0 q_2 3 (fun _ => 0), zArq T 3 q_3 2 (va_up (va_up (fun _ => none) 0 (some q_4)) 1 (some q_8)), zArq T 4 q_12 2 (va_up (va_up (fun _ => none) 0 (some q_13)) 1 (some q_17)), zArq T 5 q_21 2 (va_up (va_up (fun _ => none) 0 (some q_22)) 1 (some q_26))]), q_4, q_8, q_13, q_17, q_22, q_26, w_5, w_9, w_14, w_18, w_23, w_27, rfl, hw_30, h_6, h_10, h_15, h_19, h_24, h_28⟩)
set_option maxHeartbeats 4000000 in
set_option maxRecDepth 100000 in
theorem c_Posts_init (l : Launch) (T : zTy) (h : Nat) : zMv l T yX6_init cX6_init 1 3 8 76 [.ref h] [[(h, .inr (6, [.null, .null, .null, .int 0, .int 0, .null]))]] (fun bs => ∃ (w : va_W) (la : Nat), bs = [w] ∧ bPosts T h la (fun _ => 0) (fun _ => 0) (fun _ => 0) 0 0 w) := by
  refine zMv_of (own := RX6) (by decide) rfl (Nat.le_of_ble_eq_true rfl) ?_
  intro p e s m args below meth c A ls C hr hlocks hnm hAe G hl
  refine zHide (fun Qz_ hQz_ => ?_)
  have hx := C.1
  have hb := C.2.1
  have hl : lv_has ls 1 [(0, .ref h)] := hl
  refine lv_aload_n hx hb dX6_init_0 rfl (lv_at hl 0 rfl) ?_
  refine W.objInit hx hb C.2.2.2.1 (C.2.2.2.2 _ m_ml_RX6_3) (C.2.2.2.2 _ m_im_obj) (C.2.2.2.2 _ m_co_obj) rfl (by rw [C.2.2.1]; exact hl.1) rfl dX6_init_1 (Nat.le_of_ble_eq_true rfl) (Nat.le_of_ble_eq_true rfl) ?_
  refine W.eq (g2 := F0 m 4 ls []) rfl ?_
  refine lv_aload_n hx hb dX6_init_4 rfl (lv_at hl 0 rfl) ?_
  refine z_new C G clX4 (fs := [.int 0, .int 0, .null, .null, .null, .null]) m_cl_RX6_9 m_in_RX4 m_ii_RX4 (fun j hj => by match j, hj with | 0, _ => rfl | 1, _ => rfl | 2, _ => rfl | 3, _ => rfl | 4, _ => rfl | 5, _ => rfl | j + 6, h => exact absurd h (by omega)) (Nat.le_of_ble_eq_true rfl) (Nat.le_of_ble_eq_true rfl) dX6_init_5 (fun q_1 H G => ?_)
  have G : zS T A s.heap s [[(h, .inr (6, [.null, .null, .null, .int 0, .int 0, .null]))], [(q_1, .inr (4, [.int 0, .int 0, .null, .null, .null, .null]))]] _ _ := G
  refine lv_dup hx hb dX6_init_8 rfl ?_
  refine z_Jv (bc := [[(q_1, .inr (4, [.int 0, .int 0, .null, .null, .null, .null]))]]) (br := [[(h, .inr (6, [.null, .null, .null, .int 0, .int 0, .null]))]]) (As := []) (rest := [.ref q_1, .ref h]) C G (c_Land_init l T q_1) (kJ_RX6_11 G.2.2.2.2.2.1 C.2.2.2.2 (Nat.le_of_ble_eq_true rfl) (Nat.le_of_ble_eq_true rfl)) [1] [1] rfl rfl rfl rfl hl.1 dX6_init_9 (Nat.le_of_ble_eq_true rfl) (Nat.le_of_ble_eq_true rfl) (fun b1 H locs hw G => ?_)
  refine zEx1 hw ?_
  intro w_2
  refine zCu2 ?_
  intro hbs9 h_3
  clear hw
  subst hbs9
  have G : zS T A s.heap s [[(h, .inr (6, [.null, .null, .null, .int 0, .int 0, .null]))], w_2] _ _ := G
  refine z_put C G clX6 0 rfl 0 (by decide) m_fl_RX6_12 rfl rfl rfl (Nat.le_of_ble_eq_true rfl) dX6_init_12 (fun H locs G => ?_)
  have G : zS T A s.heap s [[(h, .inr (6, [.ref q_1, .null, .null, .int 0, .int 0, .null]))], w_2] _ _ := G
  refine lv_aload_n hx hb dX6_init_15 rfl (lv_at hl 0 rfl) ?_
  refine lv_bipush (v := 7) hx hb dX6_init_16 (by decide) ?_
  refine z_newa C G 0 (ty := .int) (N' := 7) (a0 := (7, .inl (fun _ => 0))) rfl z_uint m_ar_int rfl (fun _ => rfl) (by decide) (by decide) (Nat.le_of_ble_eq_true rfl) (Nat.le_of_ble_eq_true rfl) (Nat.le_of_ble_eq_true rfl) dX6_init_18 (fun q_5 H G => ?_)
  have G : zS T A s.heap s [[(h, .inr (6, [.ref q_1, .null, .null, .int 0, .int 0, .null]))], w_2, [zAr T 0 q_5 7 (fun _ => 0)]] _ _ := G
  refine z_putF C G hnm clX6 0 rfl 1 (by decide) m_fl_RX6_18 rfl rfl rfl rfl (Nat.le_of_ble_eq_true rfl) dX6_init_20 (fun H locs G => ?_)
  have G : zS T A s.heap s [[(h, .inr (6, [.ref q_1, .ref q_5, .null, .int 0, .int 0, .null]))], w_2, [zAr T 0 q_5 7 (fun _ => 0)]] _ _ := G
  refine lv_aload_n hx hb dX6_init_23 rfl (lv_at hl 0 rfl) ?_
  refine lv_bipush (v := 7) hx hb dX6_init_24 (by decide) ?_
  refine z_newa C G 0 (ty := .int) (N' := 7) (a0 := (7, .inl (fun _ => 0))) rfl z_uint m_ar_int rfl (fun _ => rfl) (by decide) (by decide) (Nat.le_of_ble_eq_true rfl) (Nat.le_of_ble_eq_true rfl) (Nat.le_of_ble_eq_true rfl) dX6_init_26 (fun q_6 H G => ?_)
  have G : zS T A s.heap s [[(h, .inr (6, [.ref q_1, .ref q_5, .null, .int 0, .int 0, .null]))], w_2, [zAr T 0 q_5 7 (fun _ => 0)], [zAr T 0 q_6 7 (fun _ => 0)]] _ _ := G
  refine z_putF C G hnm clX6 0 rfl 2 (by decide) m_fl_RX6_22 rfl rfl rfl rfl (Nat.le_of_ble_eq_true rfl) dX6_init_28 (fun H locs G => ?_)
  have G : zS T A s.heap s [[(h, .inr (6, [.ref q_1, .ref q_5, .ref q_6, .int 0, .int 0, .null]))], w_2, [zAr T 0 q_5 7 (fun _ => 0)], [zAr T 0 q_6 7 (fun _ => 0)]] _ _ := G
  refine lv_aload_n hx hb dX6_init_31 rfl (lv_at hl 0 rfl) ?_
  refine lv_bipush (v := 7) hx hb dX6_init_32 (by decide) ?_
  refine z_newa C G 0 (ty := .int) (N' := 7) (a0 := (7, .inl (fun _ => 0))) rfl z_uint m_ar_int rfl (fun _ => rfl) (by decide) (by decide) (Nat.le_of_ble_eq_true rfl) (Nat.le_of_ble_eq_true rfl) (Nat.le_of_ble_eq_true rfl) dX6_init_34 (fun q_7 H G => ?_)
  have G : zS T A s.heap s [[(h, .inr (6, [.ref q_1, .ref q_5, .ref q_6, .int 0, .int 0, .null]))], w_2, [zAr T 0 q_5 7 (fun _ => 0)], [zAr T 0 q_6 7 (fun _ => 0)], [zAr T 0 q_7 7 (fun _ => 0)]] _ _ := G
  refine z_putF C G hnm clX6 0 rfl 5 (by decide) m_fl_RX6_25 rfl rfl rfl rfl (Nat.le_of_ble_eq_true rfl) dX6_init_36 (fun H locs G => ?_)
  have G : zS T A s.heap s [[zO6 h q_1 q_5 q_6 0 0 q_7], w_2, [zAr T 0 q_5 7 (fun _ => 0)], [zAr T 0 q_6 7 (fun _ => 0)], [zAr T 0 q_7 7 (fun _ => 0)]] _ _ := G
  have G := G.sub (bs' := [[zO6 h q_1 q_5 q_6 0 0 q_7], [zAr T 0 q_5 7 (fun _ => 0)], [zAr T 0 q_6 7 (fun _ => 0)], [zAr T 0 q_7 7 (fun _ => 0)], w_2]) [0, 2, 3, 4, 1] rfl
  have hw_8 : bPosts T h q_1 (fun _ => 0) (fun _ => 0) (fun _ => 0) 0 0 [zO6 h q_1 q_5 q_6 0 0 q_7, zAr T 0 q_5 7 (fun _ => 0), zAr T 0 q_6 7 (fun _ => 0), zAr T 0 q_7 7 (fun _ => 0)] := ⟨q_5, q_6, q_7, rfl⟩
  have G : zS T A s.heap s [[zO6 h q_1 q_5 q_6 0 0 q_7, zAr T 0 q_5 7 (fun _ => 0), zAr T 0 q_6 7 (fun _ => 0), zAr T 0 q_7 7 (fun _ => 0)], w_2] _ _ := G.re rfl
  have G := G.sub (bs' := [[zO6 h q_1 q_5 q_6 0 0 q_7, zAr T 0 q_5 7 (fun _ => 0), zAr T 0 q_6 7 (fun _ => 0), zAr T 0 q_7 7 (fun _ => 0)]]) [0] rfl
  exact z_back hQz_ (z_vret C hr hlocks G (Nat.le_of_ble_eq_true rfl) (Nat.le_of_ble_eq_true rfl) dX6_init_39 ⟨([zO6 h q_1 q_5 q_6 0 0 q_7, zAr T 0 q_5 7 (fun _ => 0), zAr T 0 q_6 7 (fun _ => 0), zAr T 0 q_7 7 (fun _ => 0)]), q_1, rfl, hw_8⟩)
set_option maxHeartbeats 4000000 in
set_option maxRecDepth 100000 in
theorem c_Trail_init (l : Launch) (T : zTy) (h : Nat) : zMv l T yX10_init cX10_init 1 5 11 96 [.ref h] [[(h, .inr (9, [.null, .null, .null, .int 0, .int 0, .int 0, .int 0, .int 0]))]] (fun bs => ∃ (w : va_W) (po : Nat) (la : Nat) (w1 : va_W), bs = [w, w1] ∧ bTrail T h po (fun _ => 0) (fun _ => 0) 0 0 0 0 0 w ∧ bPosts T po la (fun _ => 0) (fun _ => 0) (fun _ => 0) 0 0 w1) := by
  refine zMv_of (own := RX10) (by decide) rfl (Nat.le_of_ble_eq_true rfl) ?_
  intro p e s m args below meth c A ls C hr hlocks hnm hAe G hl
  refine zHide (fun Qz_ hQz_ => ?_)
  have hx := C.1
  have hb := C.2.1
  have hl : lv_has ls 1 [(0, .ref h)] := hl
  refine lv_aload_n hx hb dX10_init_0 rfl (lv_at hl 0 rfl) ?_
  refine W.objInit hx hb C.2.2.2.1 (C.2.2.2.2 _ m_ml_RX10_3) (C.2.2.2.2 _ m_im_obj) (C.2.2.2.2 _ m_co_obj) rfl (by rw [C.2.2.1]; exact hl.1) rfl dX10_init_1 (Nat.le_of_ble_eq_true rfl) (Nat.le_of_ble_eq_true rfl) ?_
  refine W.eq (g2 := F0 m 4 ls []) rfl ?_
  refine lv_aload_n hx hb dX10_init_4 rfl (lv_at hl 0 rfl) ?_
  refine z_new C G clX6 (fs := [.null, .null, .null, .int 0, .int 0, .null]) m_cl_RX10_9 m_in_RX6 m_ii_RX6 (fun j hj => by match j, hj with | 0, _ => rfl | 1, _ => rfl | 2, _ => rfl | 3, _ => rfl | 4, _ => rfl | 5, _ => rfl | j + 6, h => exact absurd h (by omega)) (Nat.le_of_ble_eq_true rfl) (Nat.le_of_ble_eq_true rfl) dX10_init_5 (fun q_1 H G => ?_)
  have G : zS T A s.heap s [[(h, .inr (9, [.null, .null, .null, .int 0, .int 0, .int 0, .int 0, .int 0]))], [(q_1, .inr (6, [.null, .null, .null, .int 0, .int 0, .null]))]] _ _ := G
  refine lv_dup hx hb dX10_init_8 rfl ?_
  refine z_Jv (bc := [[(q_1, .inr (6, [.null, .null, .null, .int 0, .int 0, .null]))]]) (br := [[(h, .inr (9, [.null, .null, .null, .int 0, .int 0, .int 0, .int 0, .int 0]))]]) (As := []) (rest := [.ref q_1, .ref h]) C G (c_Posts_init l T q_1) (kJ_RX10_11 G.2.2.2.2.2.1 C.2.2.2.2 (Nat.le_of_ble_eq_true rfl) (Nat.le_of_ble_eq_true rfl)) [1] [1] rfl rfl rfl rfl hl.1 dX10_init_9 (Nat.le_of_ble_eq_true rfl) (Nat.le_of_ble_eq_true rfl) (fun b1 H locs hw G => ?_)
  refine zEx2 hw ?_
  intro w_2 la_3
  refine zCu2 ?_
  intro hbs9 h_4
  clear hw
  subst hbs9
  have G : zS T A s.heap s [[(h, .inr (9, [.null, .null, .null, .int 0, .int 0, .int 0, .int 0, .int 0]))], w_2] _ _ := G
  refine z_putF C G hnm clX10 0 rfl 0 (by decide) m_fl_RX10_12 rfl rfl rfl rfl (Nat.le_of_ble_eq_true rfl) dX10_init_12 (fun H locs G => ?_)
  have G : zS T A s.heap s [[(h, .inr (9, [.ref q_1, .null, .null, .int 0, .int 0, .int 0, .int 0, .int 0]))], w_2] _ _ := G
  refine lv_aload_n hx hb dX10_init_15 rfl (lv_at hl 0 rfl) ?_
  refine lv_bipush (v := 7) hx hb dX10_init_16 (by decide) ?_
  refine z_newa C G 0 (ty := .int) (N' := 7) (a0 := (7, .inl (fun _ => 0))) rfl z_uint m_ar_int rfl (fun _ => rfl) (by decide) (by decide) (Nat.le_of_ble_eq_true rfl) (Nat.le_of_ble_eq_true rfl) (Nat.le_of_ble_eq_true rfl) dX10_init_18 (fun q_6 H G => ?_)
  have G : zS T A s.heap s [[(h, .inr (9, [.ref q_1, .null, .null, .int 0, .int 0, .int 0, .int 0, .int 0]))], w_2, [zAr T 0 q_6 7 (fun _ => 0)]] _ _ := G
  refine z_putF C G hnm clX10 0 rfl 1 (by decide) m_fl_RX10_18 rfl rfl rfl rfl (Nat.le_of_ble_eq_true rfl) dX10_init_20 (fun H locs G => ?_)
  have G : zS T A s.heap s [[(h, .inr (9, [.ref q_1, .ref q_6, .null, .int 0, .int 0, .int 0, .int 0, .int 0]))], w_2, [zAr T 0 q_6 7 (fun _ => 0)]] _ _ := G
  refine lv_aload_n hx hb dX10_init_23 rfl (lv_at hl 0 rfl) ?_
  refine lv_bipush (v := 7) hx hb dX10_init_24 (by decide) ?_
  refine z_newa C G 0 (ty := .int) (N' := 7) (a0 := (7, .inl (fun _ => 0))) rfl z_uint m_ar_int rfl (fun _ => rfl) (by decide) (by decide) (Nat.le_of_ble_eq_true rfl) (Nat.le_of_ble_eq_true rfl) (Nat.le_of_ble_eq_true rfl) dX10_init_26 (fun q_7 H G => ?_)
  have G : zS T A s.heap s [[(h, .inr (9, [.ref q_1, .ref q_6, .null, .int 0, .int 0, .int 0, .int 0, .int 0]))], w_2, [zAr T 0 q_6 7 (fun _ => 0)], [zAr T 0 q_7 7 (fun _ => 0)]] _ _ := G
  refine z_putF C G hnm clX10 0 rfl 2 (by decide) m_fl_RX10_22 rfl rfl rfl rfl (Nat.le_of_ble_eq_true rfl) dX10_init_28 (fun H locs G => ?_)
  have G : zS T A s.heap s [[zO9 h q_1 q_6 q_7 0 0 0 0 0], w_2, [zAr T 0 q_6 7 (fun _ => 0)], [zAr T 0 q_7 7 (fun _ => 0)]] _ _ := G
  have G := G.sub (bs' := [[zO9 h q_1 q_6 q_7 0 0 0 0 0], [zAr T 0 q_6 7 (fun _ => 0)], [zAr T 0 q_7 7 (fun _ => 0)], w_2]) [0, 2, 3, 1] rfl
  have hw_8 : bTrail T h q_1 (fun _ => 0) (fun _ => 0) 0 0 0 0 0 [zO9 h q_1 q_6 q_7 0 0 0 0 0, zAr T 0 q_6 7 (fun _ => 0), zAr T 0 q_7 7 (fun _ => 0)] := ⟨q_6, q_7, rfl⟩
  have G : zS T A s.heap s [[zO9 h q_1 q_6 q_7 0 0 0 0 0, zAr T 0 q_6 7 (fun _ => 0), zAr T 0 q_7 7 (fun _ => 0)], w_2] _ _ := G.re rfl
  exact z_back hQz_ (z_vret C hr hlocks G (Nat.le_of_ble_eq_true rfl) (Nat.le_of_ble_eq_true rfl) dX10_init_31 ⟨([zO9 h q_1 q_6 q_7 0 0 0 0 0, zAr T 0 q_6 7 (fun _ => 0), zAr T 0 q_7 7 (fun _ => 0)]), q_1, la_3, w_2, rfl, hw_8, h_4⟩)
set_option maxHeartbeats 4000000 in
set_option maxRecDepth 100000 in
theorem c_Course_init (l : Launch) (T : zTy) (h : Nat) : zMv l T yX1_init cX1_init 1 5 15 144 [.ref h] [[(h, .inr (1, [.null, .null, .int 0, .null, .int 0, .int 0, .int 0, .int 0, .int 0, .int 0, .int 0]))]] (fun bs => ∃ (w : va_W) (po : Nat) (lc : Nat) (la : Nat) (w1 : va_W), bs = [w, w1] ∧ bCourse T h po lc (fun _ => 0) 0 0 0 0 0 0 0 0 w ∧ bPosts T po la (fun _ => 0) (fun _ => 0) (fun _ => 0) 0 0 w1) := by
  refine zMv_of (own := RX1) (by decide) rfl (Nat.le_of_ble_eq_true rfl) ?_
  intro p e s m args below meth c A ls C hr hlocks hnm hAe G hl
  refine zHide (fun Qz_ hQz_ => ?_)
  have hx := C.1
  have hb := C.2.1
  have hl : lv_has ls 1 [(0, .ref h)] := hl
  refine lv_aload_n hx hb dX1_init_0 rfl (lv_at hl 0 rfl) ?_
  refine W.objInit hx hb C.2.2.2.1 (C.2.2.2.2 _ m_ml_RX1_3) (C.2.2.2.2 _ m_im_obj) (C.2.2.2.2 _ m_co_obj) rfl (by rw [C.2.2.1]; exact hl.1) rfl dX1_init_1 (Nat.le_of_ble_eq_true rfl) (Nat.le_of_ble_eq_true rfl) ?_
  refine W.eq (g2 := F0 m 4 ls []) rfl ?_
  refine lv_aload_n hx hb dX1_init_4 rfl (lv_at hl 0 rfl) ?_
  refine z_new C G clX6 (fs := [.null, .null, .null, .int 0, .int 0, .null]) m_cl_RX1_9 m_in_RX6 m_ii_RX6 (fun j hj => by match j, hj with | 0, _ => rfl | 1, _ => rfl | 2, _ => rfl | 3, _ => rfl | 4, _ => rfl | 5, _ => rfl | j + 6, h => exact absurd h (by omega)) (Nat.le_of_ble_eq_true rfl) (Nat.le_of_ble_eq_true rfl) dX1_init_5 (fun q_1 H G => ?_)
  have G : zS T A s.heap s [[(h, .inr (1, [.null, .null, .int 0, .null, .int 0, .int 0, .int 0, .int 0, .int 0, .int 0, .int 0]))], [(q_1, .inr (6, [.null, .null, .null, .int 0, .int 0, .null]))]] _ _ := G
  refine lv_dup hx hb dX1_init_8 rfl ?_
  refine z_Jv (bc := [[(q_1, .inr (6, [.null, .null, .null, .int 0, .int 0, .null]))]]) (br := [[(h, .inr (1, [.null, .null, .int 0, .null, .int 0, .int 0, .int 0, .int 0, .int 0, .int 0, .int 0]))]]) (As := []) (rest := [.ref q_1, .ref h]) C G (c_Posts_init l T q_1) (kJ_RX1_11 G.2.2.2.2.2.1 C.2.2.2.2 (Nat.le_of_ble_eq_true rfl) (Nat.le_of_ble_eq_true rfl)) [1] [1] rfl rfl rfl rfl hl.1 dX1_init_9 (Nat.le_of_ble_eq_true rfl) (Nat.le_of_ble_eq_true rfl) (fun b1 H locs hw G => ?_)
  refine zEx2 hw ?_
  intro w_2 la_3
  refine zCu2 ?_
  intro hbs9 h_4
  clear hw
  subst hbs9
  have G : zS T A s.heap s [[(h, .inr (1, [.null, .null, .int 0, .null, .int 0, .int 0, .int 0, .int 0, .int 0, .int 0, .int 0]))], w_2] _ _ := G
  refine z_putF C G hnm clX1 0 rfl 0 (by decide) m_fl_RX1_12 rfl rfl rfl rfl (Nat.le_of_ble_eq_true rfl) dX1_init_12 (fun H locs G => ?_)
  have G : zS T A s.heap s [[(h, .inr (1, [.ref q_1, .null, .int 0, .null, .int 0, .int 0, .int 0, .int 0, .int 0, .int 0, .int 0]))], w_2] _ _ := G
  refine lv_aload_n hx hb dX1_init_15 rfl (lv_at hl 0 rfl) ?_
  refine lv_bipush (v := 7) hx hb dX1_init_16 (by decide) ?_
  refine z_newa C G 0 (ty := .int) (N' := 7) (a0 := (7, .inl (fun _ => 0))) rfl z_uint m_ar_int rfl (fun _ => rfl) (by decide) (by decide) (Nat.le_of_ble_eq_true rfl) (Nat.le_of_ble_eq_true rfl) (Nat.le_of_ble_eq_true rfl) dX1_init_18 (fun q_6 H G => ?_)
  have G : zS T A s.heap s [[(h, .inr (1, [.ref q_1, .null, .int 0, .null, .int 0, .int 0, .int 0, .int 0, .int 0, .int 0, .int 0]))], w_2, [zAr T 0 q_6 7 (fun _ => 0)]] _ _ := G
  refine z_putF C G hnm clX1 0 rfl 1 (by decide) m_fl_RX1_18 rfl rfl rfl rfl (Nat.le_of_ble_eq_true rfl) dX1_init_20 (fun H locs G => ?_)
  have G : zS T A s.heap s [[(h, .inr (1, [.ref q_1, .ref q_6, .int 0, .null, .int 0, .int 0, .int 0, .int 0, .int 0, .int 0, .int 0]))], w_2, [zAr T 0 q_6 7 (fun _ => 0)]] _ _ := G
  refine lv_aload_n hx hb dX1_init_23 rfl (lv_at hl 0 rfl) ?_
  refine z_new C G clX4 (fs := [.int 0, .int 0, .null, .null, .null, .null]) m_cl_RX1_22 m_in_RX4 m_ii_RX4 (fun j hj => by match j, hj with | 0, _ => rfl | 1, _ => rfl | 2, _ => rfl | 3, _ => rfl | 4, _ => rfl | 5, _ => rfl | j + 6, h => exact absurd h (by omega)) (Nat.le_of_ble_eq_true rfl) (Nat.le_of_ble_eq_true rfl) dX1_init_24 (fun q_7 H G => ?_)
  have G : zS T A s.heap s [[(h, .inr (1, [.ref q_1, .ref q_6, .int 0, .null, .int 0, .int 0, .int 0, .int 0, .int 0, .int 0, .int 0]))], w_2, [zAr T 0 q_6 7 (fun _ => 0)], [(q_7, .inr (4, [.int 0, .int 0, .null, .null, .null, .null]))]] _ _ := G
  refine lv_dup hx hb dX1_init_27 rfl ?_
  refine z_Jv (bc := [[(q_7, .inr (4, [.int 0, .int 0, .null, .null, .null, .null]))]]) (br := [[(h, .inr (1, [.ref q_1, .ref q_6, .int 0, .null, .int 0, .int 0, .int 0, .int 0, .int 0, .int 0, .int 0]))], w_2, [zAr T 0 q_6 7 (fun _ => 0)]]) (As := []) (rest := [.ref q_7, .ref h]) C G (c_Land_init l T q_7) (kJ_RX1_24 G.2.2.2.2.2.1 C.2.2.2.2 (Nat.le_of_ble_eq_true rfl) (Nat.le_of_ble_eq_true rfl)) [3] [3] rfl rfl rfl rfl hl.1 dX1_init_28 (Nat.le_of_ble_eq_true rfl) (Nat.le_of_ble_eq_true rfl) (fun b1 H locs hw G => ?_)
  refine zEx1 hw ?_
  intro w_8
  refine zCu2 ?_
  intro hbs9 h_9
  clear hw
  subst hbs9
  have G : zS T A s.heap s [[(h, .inr (1, [.ref q_1, .ref q_6, .int 0, .null, .int 0, .int 0, .int 0, .int 0, .int 0, .int 0, .int 0]))], w_2, [zAr T 0 q_6 7 (fun _ => 0)], w_8] _ _ := G
  refine z_put C G clX1 0 rfl 3 (by decide) m_fl_RX1_25 rfl rfl rfl (Nat.le_of_ble_eq_true rfl) dX1_init_31 (fun H locs G => ?_)
  have G : zS T A s.heap s [[zO1 h q_1 q_6 0 q_7 0 0 0 0 0 0 0], w_2, [zAr T 0 q_6 7 (fun _ => 0)], w_8] _ _ := G
  have G := G.sub (bs' := [[zO1 h q_1 q_6 0 q_7 0 0 0 0 0 0 0], [zAr T 0 q_6 7 (fun _ => 0)], w_2, w_8]) [0, 2, 1, 3] rfl
  have hw_11 : bCourse T h q_1 q_7 (fun _ => 0) 0 0 0 0 0 0 0 0 [zO1 h q_1 q_6 0 q_7 0 0 0 0 0 0 0, zAr T 0 q_6 7 (fun _ => 0)] := ⟨q_6, rfl⟩
  have G : zS T A s.heap s [[zO1 h q_1 q_6 0 q_7 0 0 0 0 0 0 0, zAr T 0 q_6 7 (fun _ => 0)], w_2, w_8] _ _ := G.re rfl
  have G := G.sub (bs' := [[zO1 h q_1 q_6 0 q_7 0 0 0 0 0 0 0, zAr T 0 q_6 7 (fun _ => 0)], w_2]) [0, 1] rfl
  exact z_back hQz_ (z_vret C hr hlocks G (Nat.le_of_ble_eq_true rfl) (Nat.le_of_ble_eq_true rfl) dX1_init_34 ⟨([zO1 h q_1 q_6 0 q_7 0 0 0 0 0 0 0, zAr T 0 q_6 7 (fun _ => 0)]), q_1, q_7, la_3, w_2, rfl, hw_11, h_4⟩)
set_option maxHeartbeats 4000000 in
set_option maxRecDepth 100000 in
theorem c_Ways_init (l : Launch) (T : zTy) (h : Nat) : zMv l T yX0_init cX0_init 1 3 11 76 [.ref h] [[(h, .inr (0, [.int 0, .int 0, .null, .int 0, .null, .null, .null, .null, .null, .null]))]] (fun bs => ∃ (w : va_W) (la : Nat), bs = [w] ∧ bWays T h la 0 0 0 (fun _ => 0) (fun _ => 0) (fun _ => 0) (fun _ => 0) (fun _ => 0) (fun _ => 0) 0 w) := by
  refine zMv_of (own := RX0) (by decide) rfl (Nat.le_of_ble_eq_true rfl) ?_
  intro p e s m args below meth c A ls C hr hlocks hnm hAe G hl
  refine zHide (fun Qz_ hQz_ => ?_)
  have hx := C.1
  have hb := C.2.1
  have hl : lv_has ls 1 [(0, .ref h)] := hl
  refine lv_aload_n hx hb dX0_init_0 rfl (lv_at hl 0 rfl) ?_
  refine W.objInit hx hb C.2.2.2.1 (C.2.2.2.2 _ m_ml_RX0_5) (C.2.2.2.2 _ m_im_obj) (C.2.2.2.2 _ m_co_obj) rfl (by rw [C.2.2.1]; exact hl.1) rfl dX0_init_1 (Nat.le_of_ble_eq_true rfl) (Nat.le_of_ble_eq_true rfl) ?_
  refine W.eq (g2 := F0 m 4 ls []) rfl ?_
  refine lv_aload_n hx hb dX0_init_4 rfl (lv_at hl 0 rfl) ?_
  refine z_new C G clX4 (fs := [.int 0, .int 0, .null, .null, .null, .null]) m_cl_RX0_11 m_in_RX4 m_ii_RX4 (fun j hj => by match j, hj with | 0, _ => rfl | 1, _ => rfl | 2, _ => rfl | 3, _ => rfl | 4, _ => rfl | 5, _ => rfl | j + 6, h => exact absurd h (by omega)) (Nat.le_of_ble_eq_true rfl) (Nat.le_of_ble_eq_true rfl) dX0_init_5 (fun q_1 H G => ?_)
  have G : zS T A s.heap s [[(h, .inr (0, [.int 0, .int 0, .null, .int 0, .null, .null, .null, .null, .null, .null]))], [(q_1, .inr (4, [.int 0, .int 0, .null, .null, .null, .null]))]] _ _ := G
  refine lv_dup hx hb dX0_init_8 rfl ?_
  refine z_Jv (bc := [[(q_1, .inr (4, [.int 0, .int 0, .null, .null, .null, .null]))]]) (br := [[(h, .inr (0, [.int 0, .int 0, .null, .int 0, .null, .null, .null, .null, .null, .null]))]]) (As := []) (rest := [.ref q_1, .ref h]) C G (c_Land_init l T q_1) (kJ_RX0_13 G.2.2.2.2.2.1 C.2.2.2.2 (Nat.le_of_ble_eq_true rfl) (Nat.le_of_ble_eq_true rfl)) [1] [1] rfl rfl rfl rfl hl.1 dX0_init_9 (Nat.le_of_ble_eq_true rfl) (Nat.le_of_ble_eq_true rfl) (fun b1 H locs hw G => ?_)
  refine zEx1 hw ?_
  intro w_2
  refine zCu2 ?_
  intro hbs9 h_3
  clear hw
  subst hbs9
  have G : zS T A s.heap s [[(h, .inr (0, [.int 0, .int 0, .null, .int 0, .null, .null, .null, .null, .null, .null]))], w_2] _ _ := G
  refine z_put C G clX0 0 rfl 2 (by decide) m_fl_RX0_14 rfl rfl rfl (Nat.le_of_ble_eq_true rfl) dX0_init_12 (fun H locs G => ?_)
  have G : zS T A s.heap s [[(h, .inr (0, [.int 0, .int 0, .ref q_1, .int 0, .null, .null, .null, .null, .null, .null]))], w_2] _ _ := G
  refine lv_aload_n hx hb dX0_init_15 rfl (lv_at hl 0 rfl) ?_
  refine lv_bipush (v := 7) hx hb dX0_init_16 (by decide) ?_
  refine z_newa C G 0 (ty := .int) (N' := 7) (a0 := (7, .inl (fun _ => 0))) rfl z_uint m_ar_int rfl (fun _ => rfl) (by decide) (by decide) (Nat.le_of_ble_eq_true rfl) (Nat.le_of_ble_eq_true rfl) (Nat.le_of_ble_eq_true rfl) dX0_init_18 (fun q_5 H G => ?_)
  have G : zS T A s.heap s [[(h, .inr (0, [.int 0, .int 0, .ref q_1, .int 0, .null, .null, .null, .null, .null, .null]))], w_2, [zAr T 0 q_5 7 (fun _ => 0)]] _ _ := G
  refine z_putF C G hnm clX0 0 rfl 4 (by decide) m_fl_RX0_18 rfl rfl rfl rfl (Nat.le_of_ble_eq_true rfl) dX0_init_20 (fun H locs G => ?_)
  have G : zS T A s.heap s [[(h, .inr (0, [.int 0, .int 0, .ref q_1, .int 0, .ref q_5, .null, .null, .null, .null, .null]))], w_2, [zAr T 0 q_5 7 (fun _ => 0)]] _ _ := G
  refine lv_aload_n hx hb dX0_init_23 rfl (lv_at hl 0 rfl) ?_
  refine lv_bipush (v := 7) hx hb dX0_init_24 (by decide) ?_
  refine z_newa C G 0 (ty := .int) (N' := 7) (a0 := (7, .inl (fun _ => 0))) rfl z_uint m_ar_int rfl (fun _ => rfl) (by decide) (by decide) (Nat.le_of_ble_eq_true rfl) (Nat.le_of_ble_eq_true rfl) (Nat.le_of_ble_eq_true rfl) dX0_init_26 (fun q_6 H G => ?_)
  have G : zS T A s.heap s [[(h, .inr (0, [.int 0, .int 0, .ref q_1, .int 0, .ref q_5, .null, .null, .null, .null, .null]))], w_2, [zAr T 0 q_5 7 (fun _ => 0)], [zAr T 0 q_6 7 (fun _ => 0)]] _ _ := G
  refine z_putF C G hnm clX0 0 rfl 5 (by decide) m_fl_RX0_22 rfl rfl rfl rfl (Nat.le_of_ble_eq_true rfl) dX0_init_28 (fun H locs G => ?_)
  have G : zS T A s.heap s [[(h, .inr (0, [.int 0, .int 0, .ref q_1, .int 0, .ref q_5, .ref q_6, .null, .null, .null, .null]))], w_2, [zAr T 0 q_5 7 (fun _ => 0)], [zAr T 0 q_6 7 (fun _ => 0)]] _ _ := G
  refine lv_aload_n hx hb dX0_init_31 rfl (lv_at hl 0 rfl) ?_
  refine lv_bipush (v := 7) hx hb dX0_init_32 (by decide) ?_
  refine z_newa C G 0 (ty := .int) (N' := 7) (a0 := (7, .inl (fun _ => 0))) rfl z_uint m_ar_int rfl (fun _ => rfl) (by decide) (by decide) (Nat.le_of_ble_eq_true rfl) (Nat.le_of_ble_eq_true rfl) (Nat.le_of_ble_eq_true rfl) dX0_init_34 (fun q_7 H G => ?_)
  have G : zS T A s.heap s [[(h, .inr (0, [.int 0, .int 0, .ref q_1, .int 0, .ref q_5, .ref q_6, .null, .null, .null, .null]))], w_2, [zAr T 0 q_5 7 (fun _ => 0)], [zAr T 0 q_6 7 (fun _ => 0)], [zAr T 0 q_7 7 (fun _ => 0)]] _ _ := G
  refine z_putF C G hnm clX0 0 rfl 6 (by decide) m_fl_RX0_25 rfl rfl rfl rfl (Nat.le_of_ble_eq_true rfl) dX0_init_36 (fun H locs G => ?_)
  have G : zS T A s.heap s [[(h, .inr (0, [.int 0, .int 0, .ref q_1, .int 0, .ref q_5, .ref q_6, .ref q_7, .null, .null, .null]))], w_2, [zAr T 0 q_5 7 (fun _ => 0)], [zAr T 0 q_6 7 (fun _ => 0)], [zAr T 0 q_7 7 (fun _ => 0)]] _ _ := G
  refine lv_aload_n hx hb dX0_init_39 rfl (lv_at hl 0 rfl) ?_
  refine lv_iconst (v := 0) hx hb dX0_init_40 (by decide) ?_
  refine z_newa C G 0 (ty := .int) (N' := 0) (a0 := (0, .inl (fun _ => 0))) rfl z_uint m_ar_int rfl (fun _ => rfl) (by decide) (by decide) (Nat.le_of_ble_eq_true rfl) (Nat.le_of_ble_eq_true rfl) (Nat.le_of_ble_eq_true rfl) dX0_init_41 (fun q_8 H G => ?_)
  have G : zS T A s.heap s [[(h, .inr (0, [.int 0, .int 0, .ref q_1, .int 0, .ref q_5, .ref q_6, .ref q_7, .null, .null, .null]))], w_2, [zAr T 0 q_5 7 (fun _ => 0)], [zAr T 0 q_6 7 (fun _ => 0)], [zAr T 0 q_7 7 (fun _ => 0)], [zAr T 0 q_8 0 (fun _ => 0)]] _ _ := G
  refine z_put C G clX0 0 rfl 7 (by decide) m_fl_RX0_28 rfl rfl rfl (Nat.le_of_ble_eq_true rfl) dX0_init_43 (fun H locs G => ?_)
  have G : zS T A s.heap s [[(h, .inr (0, [.int 0, .int 0, .ref q_1, .int 0, .ref q_5, .ref q_6, .ref q_7, .ref q_8, .null, .null]))], w_2, [zAr T 0 q_5 7 (fun _ => 0)], [zAr T 0 q_6 7 (fun _ => 0)], [zAr T 0 q_7 7 (fun _ => 0)], [zAr T 0 q_8 0 (fun _ => 0)]] _ _ := G
  refine lv_aload_n hx hb dX0_init_46 rfl (lv_at hl 0 rfl) ?_
  refine lv_iconst (v := 0) hx hb dX0_init_47 (by decide) ?_
  refine z_newa C G 0 (ty := .int) (N' := 0) (a0 := (0, .inl (fun _ => 0))) rfl z_uint m_ar_int rfl (fun _ => rfl) (by decide) (by decide) (Nat.le_of_ble_eq_true rfl) (Nat.le_of_ble_eq_true rfl) (Nat.le_of_ble_eq_true rfl) dX0_init_48 (fun q_9 H G => ?_)
  have G : zS T A s.heap s [[(h, .inr (0, [.int 0, .int 0, .ref q_1, .int 0, .ref q_5, .ref q_6, .ref q_7, .ref q_8, .null, .null]))], w_2, [zAr T 0 q_5 7 (fun _ => 0)], [zAr T 0 q_6 7 (fun _ => 0)], [zAr T 0 q_7 7 (fun _ => 0)], [zAr T 0 q_8 0 (fun _ => 0)], [zAr T 0 q_9 0 (fun _ => 0)]] _ _ := G
  refine z_put C G clX0 0 rfl 8 (by decide) m_fl_RX0_31 rfl rfl rfl (Nat.le_of_ble_eq_true rfl) dX0_init_50 (fun H locs G => ?_)
  have G : zS T A s.heap s [[(h, .inr (0, [.int 0, .int 0, .ref q_1, .int 0, .ref q_5, .ref q_6, .ref q_7, .ref q_8, .ref q_9, .null]))], w_2, [zAr T 0 q_5 7 (fun _ => 0)], [zAr T 0 q_6 7 (fun _ => 0)], [zAr T 0 q_7 7 (fun _ => 0)], [zAr T 0 q_8 0 (fun _ => 0)], [zAr T 0 q_9 0 (fun _ => 0)]] _ _ := G
  refine lv_aload_n hx hb dX0_init_53 rfl (lv_at hl 0 rfl) ?_
  refine lv_iconst (v := 0) hx hb dX0_init_54 (by decide) ?_
  refine z_newa C G 0 (ty := .int) (N' := 0) (a0 := (0, .inl (fun _ => 0))) rfl z_uint m_ar_int rfl (fun _ => rfl) (by decide) (by decide) (Nat.le_of_ble_eq_true rfl) (Nat.le_of_ble_eq_true rfl) (Nat.le_of_ble_eq_true rfl) dX0_init_55 (fun q_10 H G => ?_)
  have G : zS T A s.heap s [[(h, .inr (0, [.int 0, .int 0, .ref q_1, .int 0, .ref q_5, .ref q_6, .ref q_7, .ref q_8, .ref q_9, .null]))], w_2, [zAr T 0 q_5 7 (fun _ => 0)], [zAr T 0 q_6 7 (fun _ => 0)], [zAr T 0 q_7 7 (fun _ => 0)], [zAr T 0 q_8 0 (fun _ => 0)], [zAr T 0 q_9 0 (fun _ => 0)], [zAr T 0 q_10 0 (fun _ => 0)]] _ _ := G
  refine z_put C G clX0 0 rfl 9 (by decide) m_fl_RX0_34 rfl rfl rfl (Nat.le_of_ble_eq_true rfl) dX0_init_57 (fun H locs G => ?_)
  have G : zS T A s.heap s [[zO0 h 0 0 q_1 0 q_5 q_6 q_7 q_8 q_9 q_10], w_2, [zAr T 0 q_5 7 (fun _ => 0)], [zAr T 0 q_6 7 (fun _ => 0)], [zAr T 0 q_7 7 (fun _ => 0)], [zAr T 0 q_8 0 (fun _ => 0)], [zAr T 0 q_9 0 (fun _ => 0)], [zAr T 0 q_10 0 (fun _ => 0)]] _ _ := G
  have G := G.sub (bs' := [[zO0 h 0 0 q_1 0 q_5 q_6 q_7 q_8 q_9 q_10], [zAr T 0 q_5 7 (fun _ => 0)], [zAr T 0 q_6 7 (fun _ => 0)], [zAr T 0 q_7 7 (fun _ => 0)], [zAr T 0 q_8 0 (fun _ => 0)], [zAr T 0 q_9 0 (fun _ => 0)], [zAr T 0 q_10 0 (fun _ => 0)], w_2]) [0, 2, 3, 4, 5, 6, 7, 1] rfl
  have hw_11 : bWays T h q_1 0 0 0 (fun _ => 0) (fun _ => 0) (fun _ => 0) (fun _ => 0) (fun _ => 0) (fun _ => 0) 0 [zO0 h 0 0 q_1 0 q_5 q_6 q_7 q_8 q_9 q_10, zAr T 0 q_5 7 (fun _ => 0), zAr T 0 q_6 7 (fun _ => 0), zAr T 0 q_7 7 (fun _ => 0), zAr T 0 q_8 0 (fun _ => 0), zAr T 0 q_9 0 (fun _ => 0), zAr T 0 q_10 0 (fun _ => 0)] := ⟨q_5, q_6, q_7, q_8, q_9, q_10, rfl⟩
  have G : zS T A s.heap s [[zO0 h 0 0 q_1 0 q_5 q_6 q_7 q_8 q_9 q_10, zAr T 0 q_5 7 (fun _ => 0), zAr T 0 q_6 7 (fun _ => 0), zAr T 0 q_7 7 (fun _ => 0), zAr T 0 q_8 0 (fun _ => 0), zAr T 0 q_9 0 (fun _ => 0), zAr T 0 q_10 0 (fun _ => 0)], w_2] _ _ := G.re rfl
  have G := G.sub (bs' := [[zO0 h 0 0 q_1 0 q_5 q_6 q_7 q_8 q_9 q_10, zAr T 0 q_5 7 (fun _ => 0), zAr T 0 q_6 7 (fun _ => 0), zAr T 0 q_7 7 (fun _ => 0), zAr T 0 q_8 0 (fun _ => 0), zAr T 0 q_9 0 (fun _ => 0), zAr T 0 q_10 0 (fun _ => 0)]]) [0] rfl
  exact z_back hQz_ (z_vret C hr hlocks G (Nat.le_of_ble_eq_true rfl) (Nat.le_of_ble_eq_true rfl) dX0_init_60 ⟨([zO0 h 0 0 q_1 0 q_5 q_6 q_7 q_8 q_9 q_10, zAr T 0 q_5 7 (fun _ => 0), zAr T 0 q_6 7 (fun _ => 0), zAr T 0 q_7 7 (fun _ => 0), zAr T 0 q_8 0 (fun _ => 0), zAr T 0 q_9 0 (fun _ => 0), zAr T 0 q_10 0 (fun _ => 0)]), q_1, rfl, hw_11⟩)
set_option maxHeartbeats 4000000 in
set_option maxRecDepth 100000 in
theorem c_Fit_init (l : Launch) (T : zTy) (h : Nat) : zMv l T yX3_init cX3_init 1 1 2 7 [.ref h] [[(h, .inr (3, [.int 0, .int 0, .int 0, .int 0, .int 0, .int 0, .null, .null]))]] (fun bs => ∃ (w : va_W), bs = [w] ∧ bFit T h 0 (-1) (-1) 0 0 0 (fun _ => 0) 0 (fun _ => 0) w) := by
  refine zMv_of (own := RX3) (by decide) rfl (Nat.le_of_ble_eq_true rfl) ?_
  intro p e s m args below meth c A ls C hr hlocks hnm hAe G hl
  refine zHide (fun Qz_ hQz_ => ?_)
  have hx := C.1
  have hb := C.2.1
  have hl : lv_has ls 1 [(0, .ref h)] := hl
  refine lv_aload_n hx hb dX3_init_0 rfl (lv_at hl 0 rfl) ?_
  refine W.objInit hx hb C.2.2.2.1 (C.2.2.2.2 _ m_ml_RX3_5) (C.2.2.2.2 _ m_im_obj) (C.2.2.2.2 _ m_co_obj) rfl (by rw [C.2.2.1]; exact hl.1) rfl dX3_init_1 (Nat.le_of_ble_eq_true rfl) (Nat.le_of_ble_eq_true rfl) ?_
  refine W.eq (g2 := F0 m 4 ls []) rfl ?_
  refine lv_aload_n hx hb dX3_init_4 rfl (lv_at hl 0 rfl) ?_
  refine lv_iconst (v := (-1)) hx hb dX3_init_5 (by decide) ?_
  refine z_put C G clX3 0 rfl 1 (by decide) m_fl_RX3_11 rfl rfl rfl (Nat.le_of_ble_eq_true rfl) dX3_init_6 (fun H locs G => ?_)
  have G : zS T A s.heap s [[(h, .inr (3, [.int 0, .int (-1), .int 0, .int 0, .int 0, .int 0, .null, .null]))]] _ _ := G
  refine lv_aload_n hx hb dX3_init_9 rfl (lv_at hl 0 rfl) ?_
  refine lv_iconst (v := (-1)) hx hb dX3_init_10 (by decide) ?_
  refine z_put C G clX3 0 rfl 2 (by decide) m_fl_RX3_15 rfl rfl rfl (Nat.le_of_ble_eq_true rfl) dX3_init_11 (fun H locs G => ?_)
  have G : zS T A s.heap s [[(h, .inr (3, [.int 0, .int (-1), .int (-1), .int 0, .int 0, .int 0, .null, .null]))]] _ _ := G
  refine lv_aload_n hx hb dX3_init_14 rfl (lv_at hl 0 rfl) ?_
  refine lv_iconst (v := 0) hx hb dX3_init_15 (by decide) ?_
  refine z_newa C G 0 (ty := .int) (N' := 0) (a0 := (0, .inl (fun _ => 0))) rfl z_uint m_ar_int rfl (fun _ => rfl) (by decide) (by decide) (Nat.le_of_ble_eq_true rfl) (Nat.le_of_ble_eq_true rfl) (Nat.le_of_ble_eq_true rfl) dX3_init_16 (fun q_1 H G => ?_)
  have G : zS T A s.heap s [[(h, .inr (3, [.int 0, .int (-1), .int (-1), .int 0, .int 0, .int 0, .null, .null]))], [zAr T 0 q_1 0 (fun _ => 0)]] _ _ := G
  refine z_put C G clX3 0 rfl 6 (by decide) m_fl_RX3_18 rfl rfl rfl (Nat.le_of_ble_eq_true rfl) dX3_init_18 (fun H locs G => ?_)
  have G : zS T A s.heap s [[(h, .inr (3, [.int 0, .int (-1), .int (-1), .int 0, .int 0, .int 0, .ref q_1, .null]))], [zAr T 0 q_1 0 (fun _ => 0)]] _ _ := G
  refine lv_aload_n hx hb dX3_init_21 rfl (lv_at hl 0 rfl) ?_
  refine lv_bipush (v := 7) hx hb dX3_init_22 (by decide) ?_
  refine z_newa C G 0 (ty := .int) (N' := 7) (a0 := (7, .inl (fun _ => 0))) rfl z_uint m_ar_int rfl (fun _ => rfl) (by decide) (by decide) (Nat.le_of_ble_eq_true rfl) (Nat.le_of_ble_eq_true rfl) (Nat.le_of_ble_eq_true rfl) dX3_init_24 (fun q_2 H G => ?_)
  have G : zS T A s.heap s [[(h, .inr (3, [.int 0, .int (-1), .int (-1), .int 0, .int 0, .int 0, .ref q_1, .null]))], [zAr T 0 q_1 0 (fun _ => 0)], [zAr T 0 q_2 7 (fun _ => 0)]] _ _ := G
  refine z_putF C G hnm clX3 0 rfl 7 (by decide) m_fl_RX3_22 rfl rfl rfl rfl (Nat.le_of_ble_eq_true rfl) dX3_init_26 (fun H locs G => ?_)
  have G : zS T A s.heap s [[zO3 h 0 (-1) (-1) 0 0 0 q_1 q_2], [zAr T 0 q_1 0 (fun _ => 0)], [zAr T 0 q_2 7 (fun _ => 0)]] _ _ := G
  have hw_3 : bFit T h 0 (-1) (-1) 0 0 0 (fun _ => 0) 0 (fun _ => 0) [zO3 h 0 (-1) (-1) 0 0 0 q_1 q_2, zAr T 0 q_1 0 (fun _ => 0), zAr T 0 q_2 7 (fun _ => 0)] := ⟨q_1, q_2, rfl⟩
  have G : zS T A s.heap s [[zO3 h 0 (-1) (-1) 0 0 0 q_1 q_2, zAr T 0 q_1 0 (fun _ => 0), zAr T 0 q_2 7 (fun _ => 0)]] _ _ := G.re rfl
  exact z_back hQz_ (z_vret C hr hlocks G (Nat.le_of_ble_eq_true rfl) (Nat.le_of_ble_eq_true rfl) dX3_init_29 ⟨([zO3 h 0 (-1) (-1) 0 0 0 q_1 q_2, zAr T 0 q_1 0 (fun _ => 0), zAr T 0 q_2 7 (fun _ => 0)]), rfl, hw_3⟩)
set_option maxHeartbeats 4000000 in
set_option maxRecDepth 100000 in
theorem c_Reader_init (l : Launch) (T : zTy) (rd : Nat) : zMv l T yX7_init cX7_init 1 3 13 198 [.ref rd] [[(rd, .inr (7, [.null, .null, .null, .int 0, .int 0, .null, .int 0, .int 0, .int 0, .int 0, .int 0, .int 0, .int 0]))]] (fun bs => ∃ (rl : Nat) (rdd : Nat) (rg : Nat) (tp : Nat) (w1 : va_W) (w2 : va_W) (w3 : va_W), bs = [[zO7 rd rl rdd rg 0 0 tp 0 0 0 0 0 0 0], w1, w2, w3] ∧ bLand T rl 0 0 (fun _ => 0) (fun _ => 0) (fun _ => 0) (fun _ => 0) w1 ∧ bDay T rdd 0 (fun _ => 0) (fun _ => 0) (fun _ => 0) w2 ∧ bLog T rg 0 (fun _ => 0) (fun _ => 0) w3) := by
  refine zMv_of (own := RX7) (by decide) rfl (Nat.le_of_ble_eq_true rfl) ?_
  intro p e s m args below meth c A ls C hr hlocks hnm hAe G hl
  refine zHide (fun Qz_ hQz_ => ?_)
  have hx := C.1
  have hb := C.2.1
  have hl : lv_has ls 1 [(0, .ref rd)] := hl
  refine lv_aload_n hx hb dX7_init_0 rfl (lv_at hl 0 rfl) ?_
  refine W.objInit hx hb C.2.2.2.1 (C.2.2.2.2 _ m_ml_RX7_3) (C.2.2.2.2 _ m_im_obj) (C.2.2.2.2 _ m_co_obj) rfl (by rw [C.2.2.1]; exact hl.1) rfl dX7_init_1 (Nat.le_of_ble_eq_true rfl) (Nat.le_of_ble_eq_true rfl) ?_
  refine W.eq (g2 := F0 m 4 ls []) rfl ?_
  refine lv_aload_n hx hb dX7_init_4 rfl (lv_at hl 0 rfl) ?_
  refine z_new C G clX4 (fs := [.int 0, .int 0, .null, .null, .null, .null]) m_cl_RX7_9 m_in_RX4 m_ii_RX4 (fun j hj => by match j, hj with | 0, _ => rfl | 1, _ => rfl | 2, _ => rfl | 3, _ => rfl | 4, _ => rfl | 5, _ => rfl | j + 6, h => exact absurd h (by omega)) (Nat.le_of_ble_eq_true rfl) (Nat.le_of_ble_eq_true rfl) dX7_init_5 (fun q_1 H G => ?_)
  have G : zS T A s.heap s [[(rd, .inr (7, [.null, .null, .null, .int 0, .int 0, .null, .int 0, .int 0, .int 0, .int 0, .int 0, .int 0, .int 0]))], [(q_1, .inr (4, [.int 0, .int 0, .null, .null, .null, .null]))]] _ _ := G
  refine lv_dup hx hb dX7_init_8 rfl ?_
  refine z_Jv (bc := [[(q_1, .inr (4, [.int 0, .int 0, .null, .null, .null, .null]))]]) (br := [[(rd, .inr (7, [.null, .null, .null, .int 0, .int 0, .null, .int 0, .int 0, .int 0, .int 0, .int 0, .int 0, .int 0]))]]) (As := []) (rest := [.ref q_1, .ref rd]) C G (c_Land_init l T q_1) (kJ_RX7_11 G.2.2.2.2.2.1 C.2.2.2.2 (Nat.le_of_ble_eq_true rfl) (Nat.le_of_ble_eq_true rfl)) [1] [1] rfl rfl rfl rfl hl.1 dX7_init_9 (Nat.le_of_ble_eq_true rfl) (Nat.le_of_ble_eq_true rfl) (fun b1 H locs hw G => ?_)
  refine zEx1 hw ?_
  intro w_2
  refine zCu2 ?_
  intro hbs9 h_3
  clear hw
  subst hbs9
  have G : zS T A s.heap s [[(rd, .inr (7, [.null, .null, .null, .int 0, .int 0, .null, .int 0, .int 0, .int 0, .int 0, .int 0, .int 0, .int 0]))], w_2] _ _ := G
  refine z_putF C G hnm clX7 0 rfl 0 (by decide) m_fl_RX7_12 rfl rfl rfl rfl (Nat.le_of_ble_eq_true rfl) dX7_init_12 (fun H locs G => ?_)
  have G : zS T A s.heap s [[(rd, .inr (7, [.ref q_1, .null, .null, .int 0, .int 0, .null, .int 0, .int 0, .int 0, .int 0, .int 0, .int 0, .int 0]))], w_2] _ _ := G
  refine lv_aload_n hx hb dX7_init_15 rfl (lv_at hl 0 rfl) ?_
  refine z_new C G clX2 (fs := [.int 0, .null, .null, .null]) m_cl_RX7_18 m_in_RX2 m_ii_RX2 (fun j hj => by match j, hj with | 0, _ => rfl | 1, _ => rfl | 2, _ => rfl | 3, _ => rfl | j + 4, h => exact absurd h (by omega)) (Nat.le_of_ble_eq_true rfl) (Nat.le_of_ble_eq_true rfl) dX7_init_16 (fun q_5 H G => ?_)
  have G : zS T A s.heap s [[(rd, .inr (7, [.ref q_1, .null, .null, .int 0, .int 0, .null, .int 0, .int 0, .int 0, .int 0, .int 0, .int 0, .int 0]))], w_2, [(q_5, .inr (2, [.int 0, .null, .null, .null]))]] _ _ := G
  refine lv_dup hx hb dX7_init_19 rfl ?_
  refine z_Jv (bc := [[(q_5, .inr (2, [.int 0, .null, .null, .null]))]]) (br := [[(rd, .inr (7, [.ref q_1, .null, .null, .int 0, .int 0, .null, .int 0, .int 0, .int 0, .int 0, .int 0, .int 0, .int 0]))], w_2]) (As := []) (rest := [.ref q_5, .ref rd]) C G (c_Day_init l T q_5) (kJ_RX7_20 G.2.2.2.2.2.1 C.2.2.2.2 (Nat.le_of_ble_eq_true rfl) (Nat.le_of_ble_eq_true rfl)) [2] [2] rfl rfl rfl rfl hl.1 dX7_init_20 (Nat.le_of_ble_eq_true rfl) (Nat.le_of_ble_eq_true rfl) (fun b1 H locs hw G => ?_)
  refine zEx1 hw ?_
  intro w_6
  refine zCu2 ?_
  intro hbs9 h_7
  clear hw
  subst hbs9
  have G : zS T A s.heap s [[(rd, .inr (7, [.ref q_1, .null, .null, .int 0, .int 0, .null, .int 0, .int 0, .int 0, .int 0, .int 0, .int 0, .int 0]))], w_2, w_6] _ _ := G
  refine z_putF C G hnm clX7 0 rfl 1 (by decide) m_fl_RX7_21 rfl rfl rfl rfl (Nat.le_of_ble_eq_true rfl) dX7_init_23 (fun H locs G => ?_)
  have G : zS T A s.heap s [[(rd, .inr (7, [.ref q_1, .ref q_5, .null, .int 0, .int 0, .null, .int 0, .int 0, .int 0, .int 0, .int 0, .int 0, .int 0]))], w_2, w_6] _ _ := G
  refine lv_aload_n hx hb dX7_init_26 rfl (lv_at hl 0 rfl) ?_
  refine z_new C G clX5 (fs := [.int 0, .null, .null]) m_cl_RX7_25 m_in_RX5 m_ii_RX5 (fun j hj => by match j, hj with | 0, _ => rfl | 1, _ => rfl | 2, _ => rfl | j + 3, h => exact absurd h (by omega)) (Nat.le_of_ble_eq_true rfl) (Nat.le_of_ble_eq_true rfl) dX7_init_27 (fun q_9 H G => ?_)
  have G : zS T A s.heap s [[(rd, .inr (7, [.ref q_1, .ref q_5, .null, .int 0, .int 0, .null, .int 0, .int 0, .int 0, .int 0, .int 0, .int 0, .int 0]))], w_2, w_6, [(q_9, .inr (5, [.int 0, .null, .null]))]] _ _ := G
  refine lv_dup hx hb dX7_init_30 rfl ?_
  refine z_Jv (bc := [[(q_9, .inr (5, [.int 0, .null, .null]))]]) (br := [[(rd, .inr (7, [.ref q_1, .ref q_5, .null, .int 0, .int 0, .null, .int 0, .int 0, .int 0, .int 0, .int 0, .int 0, .int 0]))], w_2, w_6]) (As := []) (rest := [.ref q_9, .ref rd]) C G (c_Log_init l T q_9) (kJ_RX7_27 G.2.2.2.2.2.1 C.2.2.2.2 (Nat.le_of_ble_eq_true rfl) (Nat.le_of_ble_eq_true rfl)) [3] [3] rfl rfl rfl rfl hl.1 dX7_init_31 (Nat.le_of_ble_eq_true rfl) (Nat.le_of_ble_eq_true rfl) (fun b1 H locs hw G => ?_)
  refine zEx1 hw ?_
  intro w_10
  refine zCu2 ?_
  intro hbs9 h_11
  clear hw
  subst hbs9
  have G : zS T A s.heap s [[(rd, .inr (7, [.ref q_1, .ref q_5, .null, .int 0, .int 0, .null, .int 0, .int 0, .int 0, .int 0, .int 0, .int 0, .int 0]))], w_2, w_6, w_10] _ _ := G
  refine z_putF C G hnm clX7 0 rfl 2 (by decide) m_fl_RX7_28 rfl rfl rfl rfl (Nat.le_of_ble_eq_true rfl) dX7_init_34 (fun H locs G => ?_)
  have G : zS T A s.heap s [[(rd, .inr (7, [.ref q_1, .ref q_5, .ref q_9, .int 0, .int 0, .null, .int 0, .int 0, .int 0, .int 0, .int 0, .int 0, .int 0]))], w_2, w_6, w_10] _ _ := G
  refine lv_aload_n hx hb dX7_init_37 rfl (lv_at hl 0 rfl) ?_
  refine lv_iconst (v := 0) hx hb dX7_init_38 (by decide) ?_
  refine z_newa C G 1 (ty := .byte) (N' := 0) (a0 := (0, .inl (fun _ => 0))) rfl z_ubyte m_ar_byte rfl (fun _ => rfl) (by decide) (by decide) (Nat.le_of_ble_eq_true rfl) (Nat.le_of_ble_eq_true rfl) (Nat.le_of_ble_eq_true rfl) dX7_init_39 (fun q_13 H G => ?_)
  have G : zS T A s.heap s [[(rd, .inr (7, [.ref q_1, .ref q_5, .ref q_9, .int 0, .int 0, .null, .int 0, .int 0, .int 0, .int 0, .int 0, .int 0, .int 0]))], w_2, w_6, w_10, [zAr T 1 q_13 0 (fun _ => 0)]] _ _ := G
  refine z_put C G clX7 0 rfl 5 (by decide) m_fl_RX7_32 rfl rfl rfl (Nat.le_of_ble_eq_true rfl) dX7_init_41 (fun H locs G => ?_)
  have G : zS T A s.heap s [[zO7 rd q_1 q_5 q_9 0 0 q_13 0 0 0 0 0 0 0], w_2, w_6, w_10, [zAr T 1 q_13 0 (fun _ => 0)]] _ _ := G
  have G := G.sub (bs' := [[zO7 rd q_1 q_5 q_9 0 0 q_13 0 0 0 0 0 0 0], w_2, w_6, w_10]) [0, 1, 2, 3] rfl
  exact z_back hQz_ (z_vret C hr hlocks G (Nat.le_of_ble_eq_true rfl) (Nat.le_of_ble_eq_true rfl) dX7_init_44 ⟨q_1, q_5, q_9, q_13, w_2, w_6, w_10, rfl, h_3, h_7, h_11⟩)
theorem m_fl_RX4_24 : Cond.fieldLink RX4 24 (TX4 0).1 (TX4 0).2.1 (TX4 0).2.2.1 ∈ zT := zmem1 zsub_1 41 rfl rfl
theorem m_co_X4_has : Cond.code yX4_has cX4_has 2 (some .boolean) ∈ zT := zmem1 zsub_3 133 rfl rfl
theorem m_ml_RX4_31 : Cond.methodLink RX4 31 yX4_has ∈ zT := zmem1 zsub_3 130 rfl rfl
theorem m_im_X4_has : Cond.instanceMethod yX4_has ∈ zT := zmem1 zsub_3 131 rfl rfl
theorem m_se_X4_has : Cond.selects RX4 yX4_has yX4_has ∈ zT := zmem1 zsub_3 132 rfl rfl
theorem m_fl_RX4_28 : Cond.fieldLink RX4 28 (TX4 1).1 (TX4 1).2.1 (TX4 1).2.2.1 ∈ zT := zmem1 zsub_1 49 rfl rfl
theorem m_co_X4_hasRoad : Cond.code yX4_hasRoad cX4_hasRoad 3 (some .boolean) ∈ zT := zmem1 zsub_3 208 rfl rfl
theorem m_ml_RX4_35 : Cond.methodLink RX4 35 yX4_hasRoad ∈ zT := zmem1 zsub_3 205 rfl rfl
theorem m_im_X4_hasRoad : Cond.instanceMethod yX4_hasRoad ∈ zT := zmem1 zsub_3 206 rfl rfl
theorem m_se_X4_hasRoad : Cond.selects RX4 yX4_hasRoad yX4_hasRoad ∈ zT := zmem1 zsub_3 207 rfl rfl
theorem m_co_X4_target : Cond.code yX4_target cX4_target 3 (some .int) ∈ zT := zmem1 zsub_3 204 rfl rfl
theorem m_ml_RX4_39 : Cond.methodLink RX4 39 yX4_target ∈ zT := zmem1 zsub_3 201 rfl rfl
theorem m_im_X4_target : Cond.instanceMethod yX4_target ∈ zT := zmem1 zsub_3 202 rfl rfl
theorem m_se_X4_target : Cond.selects RX4 yX4_target yX4_target ∈ zT := zmem1 zsub_3 203 rfl rfl
theorem kV_RX4_31 {R : Room} {s : State} {args : Array Value} {d mc ms : Nat} (hts : ∀ w ∈ zT, w.before args s = true) (h1 : d + 1 ≤ R.frames) (h2 : 8 + (2 + 11) + 40 * d ≤ R.locals) : CallW R s args RX4 RX4 31 yX4_has cX4_has 2 (some .boolean) (zW yX4_has cX4_has 2 (some .boolean)) (zR d mc ms) mc ms 1 := z_cwV hts m_co_X4_has m_ml_RX4_31 m_im_X4_has m_se_X4_has m_ii_RX4 (by decide +kernel) h1 h2
theorem kV_RX4_35 {R : Room} {s : State} {args : Array Value} {d mc ms : Nat} (hts : ∀ w ∈ zT, w.before args s = true) (h1 : d + 1 ≤ R.frames) (h2 : 8 + (3 + 11) + 40 * d ≤ R.locals) : CallW R s args RX4 RX4 35 yX4_hasRoad cX4_hasRoad 3 (some .boolean) (zW yX4_hasRoad cX4_hasRoad 3 (some .boolean)) (zR d mc ms) mc ms 2 := z_cwV hts m_co_X4_hasRoad m_ml_RX4_35 m_im_X4_hasRoad m_se_X4_hasRoad m_ii_RX4 (by decide +kernel) h1 h2
theorem kV_RX4_39 {R : Room} {s : State} {args : Array Value} {d mc ms : Nat} (hts : ∀ w ∈ zT, w.before args s = true) (h1 : d + 1 ≤ R.frames) (h2 : 8 + (3 + 11) + 40 * d ≤ R.locals) : CallW R s args RX4 RX4 39 yX4_target cX4_target 3 (some .int) (zW yX4_target cX4_target 3 (some .int)) (zR d mc ms) mc ms 2 := z_cwV hts m_co_X4_target m_ml_RX4_39 m_im_X4_target m_se_X4_target m_ii_RX4 (by decide +kernel) h1 h2
theorem dX4_has_0 : decode cX4_has 0 = .ok (.iload_n 1, 1) := zo_27 (by decide +kernel)
theorem dX4_has_1 : decode cX4_has 1 = .ok (.ifCond .lt 21, 3) := zo_155 (by decide +kernel)
theorem dX4_has_4 : decode cX4_has 4 = .ok (.iload_n 1, 1) := zo_27 (by decide +kernel)
theorem dX4_has_5 : decode cX4_has 5 = .ok (.aload_n 0, 1) := zo_42 (by decide +kernel)
theorem dX4_has_6 : decode cX4_has 6 = .ok (.getfield 24, 3) := zo_180 (by decide +kernel)
theorem dX4_has_9 : decode cX4_has 9 = .ok (.if_icmp .ge 13, 3) := zo_162 (by decide +kernel)
theorem dX4_has_12 : decode cX4_has 12 = .ok (.iload_n 1, 1) := zo_27 (by decide +kernel)
theorem dX4_has_13 : decode cX4_has 13 = .ok (.bipush 7, 2) := zo_16 (by decide +kernel)
theorem dX4_has_15 : decode cX4_has 15 = .ok (.if_icmp .ge 7, 3) := zo_162 (by decide +kernel)
theorem dX4_has_18 : decode cX4_has 18 = .ok (.iconst 1, 1) := zo_4 (by decide +kernel)
theorem dX4_has_19 : decode cX4_has 19 = .ok (.goto 4, 3) := zo_167 (by decide +kernel)
theorem dX4_has_22 : decode cX4_has 22 = .ok (.iconst 0, 1) := zo_3 (by decide +kernel)
theorem dX4_has_23 : decode cX4_has 23 = .ok (.ireturn, 1) := zo_172 (by decide +kernel)
theorem dX4_isInn_0 : decode cX4_isInn 0 = .ok (.aload_n 0, 1) := zo_42 (by decide +kernel)
theorem dX4_isInn_1 : decode cX4_isInn 1 = .ok (.iload_n 1, 1) := zo_27 (by decide +kernel)
theorem dX4_isInn_2 : decode cX4_isInn 2 = .ok (.invokevirtual 31, 3) := zo_182 (by decide +kernel)
theorem dX4_isInn_5 : decode cX4_isInn 5 = .ok (.ifCond .eq 18, 3) := zo_153 (by decide +kernel)
theorem dX4_isInn_8 : decode cX4_isInn 8 = .ok (.aload_n 0, 1) := zo_42 (by decide +kernel)
theorem dX4_isInn_9 : decode cX4_isInn 9 = .ok (.getfield 28, 3) := zo_180 (by decide +kernel)
theorem dX4_isInn_12 : decode cX4_isInn 12 = .ok (.iload_n 1, 1) := zo_27 (by decide +kernel)
theorem dX4_isInn_13 : decode cX4_isInn 13 = .ok (.ishr, 1) := zo_122 (by decide +kernel)
theorem dX4_isInn_14 : decode cX4_isInn 14 = .ok (.iconst 1, 1) := zo_4 (by decide +kernel)
theorem dX4_isInn_15 : decode cX4_isInn 15 = .ok (.iand, 1) := zo_126 (by decide +kernel)
theorem dX4_isInn_16 : decode cX4_isInn 16 = .ok (.ifCond .eq 7, 3) := zo_153 (by decide +kernel)
theorem dX4_isInn_19 : decode cX4_isInn 19 = .ok (.iconst 1, 1) := zo_4 (by decide +kernel)
theorem dX4_isInn_20 : decode cX4_isInn 20 = .ok (.goto 4, 3) := zo_167 (by decide +kernel)
theorem dX4_isInn_23 : decode cX4_isInn 23 = .ok (.iconst 0, 1) := zo_3 (by decide +kernel)
theorem dX4_isInn_24 : decode cX4_isInn 24 = .ok (.ireturn, 1) := zo_172 (by decide +kernel)
theorem dX4_hasRoad_0 : decode cX4_hasRoad 0 = .ok (.iload_n 1, 1) := zo_27 (by decide +kernel)
theorem dX4_hasRoad_1 : decode cX4_hasRoad 1 = .ok (.ifCond .lt 40, 3) := zo_155 (by decide +kernel)
theorem dX4_hasRoad_4 : decode cX4_hasRoad 4 = .ok (.iload_n 1, 1) := zo_27 (by decide +kernel)
theorem dX4_hasRoad_5 : decode cX4_hasRoad 5 = .ok (.aload_n 0, 1) := zo_42 (by decide +kernel)
theorem dX4_hasRoad_6 : decode cX4_hasRoad 6 = .ok (.getfield 24, 3) := zo_180 (by decide +kernel)
theorem dX4_hasRoad_9 : decode cX4_hasRoad 9 = .ok (.if_icmp .ge 32, 3) := zo_162 (by decide +kernel)
theorem dX4_hasRoad_12 : decode cX4_hasRoad 12 = .ok (.iload_n 1, 1) := zo_27 (by decide +kernel)
theorem dX4_hasRoad_13 : decode cX4_hasRoad 13 = .ok (.bipush 7, 2) := zo_16 (by decide +kernel)
theorem dX4_hasRoad_15 : decode cX4_hasRoad 15 = .ok (.if_icmp .ge 26, 3) := zo_162 (by decide +kernel)
theorem dX4_hasRoad_18 : decode cX4_hasRoad 18 = .ok (.iload_n 2, 1) := zo_28 (by decide +kernel)
theorem dX4_hasRoad_19 : decode cX4_hasRoad 19 = .ok (.ifCond .lt 22, 3) := zo_155 (by decide +kernel)
theorem dX4_hasRoad_22 : decode cX4_hasRoad 22 = .ok (.iload_n 2, 1) := zo_28 (by decide +kernel)
theorem dX4_hasRoad_23 : decode cX4_hasRoad 23 = .ok (.aload_n 0, 1) := zo_42 (by decide +kernel)
theorem dX4_hasRoad_24 : decode cX4_hasRoad 24 = .ok (.getfield 9, 3) := zo_180 (by decide +kernel)
theorem dX4_hasRoad_27 : decode cX4_hasRoad 27 = .ok (.iload_n 1, 1) := zo_27 (by decide +kernel)
theorem dX4_hasRoad_28 : decode cX4_hasRoad 28 = .ok (.iaload, 1) := zo_46 (by decide +kernel)
theorem dX4_hasRoad_29 : decode cX4_hasRoad 29 = .ok (.if_icmp .ge 12, 3) := zo_162 (by decide +kernel)
theorem dX4_hasRoad_32 : decode cX4_hasRoad 32 = .ok (.iload_n 2, 1) := zo_28 (by decide +kernel)
theorem dX4_hasRoad_33 : decode cX4_hasRoad 33 = .ok (.iconst 4, 1) := zo_7 (by decide +kernel)
theorem dX4_hasRoad_34 : decode cX4_hasRoad 34 = .ok (.if_icmp .ge 7, 3) := zo_162 (by decide +kernel)
theorem dX4_hasRoad_37 : decode cX4_hasRoad 37 = .ok (.iconst 1, 1) := zo_4 (by decide +kernel)
theorem dX4_hasRoad_38 : decode cX4_hasRoad 38 = .ok (.goto 4, 3) := zo_167 (by decide +kernel)
theorem dX4_hasRoad_41 : decode cX4_hasRoad 41 = .ok (.iconst 0, 1) := zo_3 (by decide +kernel)
theorem dX4_hasRoad_42 : decode cX4_hasRoad 42 = .ok (.ireturn, 1) := zo_172 (by decide +kernel)
theorem dX4_waysOut_0 : decode cX4_waysOut 0 = .ok (.iload_n 1, 1) := zo_27 (by decide +kernel)
theorem dX4_waysOut_1 : decode cX4_waysOut 1 = .ok (.ifCond .lt 37, 3) := zo_155 (by decide +kernel)
theorem dX4_waysOut_4 : decode cX4_waysOut 4 = .ok (.iload_n 1, 1) := zo_27 (by decide +kernel)
theorem dX4_waysOut_5 : decode cX4_waysOut 5 = .ok (.aload_n 0, 1) := zo_42 (by decide +kernel)
theorem dX4_waysOut_6 : decode cX4_waysOut 6 = .ok (.getfield 24, 3) := zo_180 (by decide +kernel)
theorem dX4_waysOut_9 : decode cX4_waysOut 9 = .ok (.if_icmp .ge 29, 3) := zo_162 (by decide +kernel)
theorem dX4_waysOut_12 : decode cX4_waysOut 12 = .ok (.iload_n 1, 1) := zo_27 (by decide +kernel)
theorem dX4_waysOut_13 : decode cX4_waysOut 13 = .ok (.bipush 7, 2) := zo_16 (by decide +kernel)
theorem dX4_waysOut_15 : decode cX4_waysOut 15 = .ok (.if_icmp .ge 23, 3) := zo_162 (by decide +kernel)
theorem dX4_waysOut_18 : decode cX4_waysOut 18 = .ok (.aload_n 0, 1) := zo_42 (by decide +kernel)
theorem dX4_waysOut_19 : decode cX4_waysOut 19 = .ok (.getfield 28, 3) := zo_180 (by decide +kernel)
theorem dX4_waysOut_22 : decode cX4_waysOut 22 = .ok (.iload_n 1, 1) := zo_27 (by decide +kernel)
theorem dX4_waysOut_23 : decode cX4_waysOut 23 = .ok (.ishr, 1) := zo_122 (by decide +kernel)
theorem dX4_waysOut_24 : decode cX4_waysOut 24 = .ok (.iconst 1, 1) := zo_4 (by decide +kernel)
theorem dX4_waysOut_25 : decode cX4_waysOut 25 = .ok (.iand, 1) := zo_126 (by decide +kernel)
theorem dX4_waysOut_26 : decode cX4_waysOut 26 = .ok (.ifCond .ne 12, 3) := zo_154 (by decide +kernel)
theorem dX4_waysOut_29 : decode cX4_waysOut 29 = .ok (.aload_n 0, 1) := zo_42 (by decide +kernel)
theorem dX4_waysOut_30 : decode cX4_waysOut 30 = .ok (.getfield 9, 3) := zo_180 (by decide +kernel)
theorem dX4_waysOut_33 : decode cX4_waysOut 33 = .ok (.iload_n 1, 1) := zo_27 (by decide +kernel)
theorem dX4_waysOut_34 : decode cX4_waysOut 34 = .ok (.iaload, 1) := zo_46 (by decide +kernel)
theorem dX4_waysOut_35 : decode cX4_waysOut 35 = .ok (.goto 4, 3) := zo_167 (by decide +kernel)
theorem dX4_waysOut_38 : decode cX4_waysOut 38 = .ok (.iconst 0, 1) := zo_3 (by decide +kernel)
theorem dX4_waysOut_39 : decode cX4_waysOut 39 = .ok (.ireturn, 1) := zo_172 (by decide +kernel)
theorem dX4_target_0 : decode cX4_target 0 = .ok (.aload_n 0, 1) := zo_42 (by decide +kernel)
theorem dX4_target_1 : decode cX4_target 1 = .ok (.iload_n 1, 1) := zo_27 (by decide +kernel)
theorem dX4_target_2 : decode cX4_target 2 = .ok (.iload_n 2, 1) := zo_28 (by decide +kernel)
theorem dX4_target_3 : decode cX4_target 3 = .ok (.invokevirtual 35, 3) := zo_182 (by decide +kernel)
theorem dX4_target_6 : decode cX4_target 6 = .ok (.ifCond .eq 16, 3) := zo_153 (by decide +kernel)
theorem dX4_target_9 : decode cX4_target 9 = .ok (.aload_n 0, 1) := zo_42 (by decide +kernel)
theorem dX4_target_10 : decode cX4_target 10 = .ok (.getfield 15, 3) := zo_180 (by decide +kernel)
theorem dX4_target_13 : decode cX4_target 13 = .ok (.iload_n 1, 1) := zo_27 (by decide +kernel)
theorem dX4_target_14 : decode cX4_target 14 = .ok (.iconst 4, 1) := zo_7 (by decide +kernel)
theorem dX4_target_15 : decode cX4_target 15 = .ok (.imul, 1) := zo_104 (by decide +kernel)
theorem dX4_target_16 : decode cX4_target 16 = .ok (.iload_n 2, 1) := zo_28 (by decide +kernel)
theorem dX4_target_17 : decode cX4_target 17 = .ok (.iadd, 1) := zo_96 (by decide +kernel)
theorem dX4_target_18 : decode cX4_target 18 = .ok (.iaload, 1) := zo_46 (by decide +kernel)
theorem dX4_target_19 : decode cX4_target 19 = .ok (.goto 4, 3) := zo_167 (by decide +kernel)
theorem dX4_target_22 : decode cX4_target 22 = .ok (.iconst (-1), 1) := zo_2 (by decide +kernel)
theorem dX4_target_23 : decode cX4_target 23 = .ok (.ireturn, 1) := zo_172 (by decide +kernel)
theorem dX4_addRoad_0 : decode cX4_addRoad 0 = .ok (.aload_n 0, 1) := zo_42 (by decide +kernel)
theorem dX4_addRoad_1 : decode cX4_addRoad 1 = .ok (.iload_n 1, 1) := zo_27 (by decide +kernel)
theorem dX4_addRoad_2 : decode cX4_addRoad 2 = .ok (.invokevirtual 31, 3) := zo_182 (by decide +kernel)
theorem dX4_addRoad_5 : decode cX4_addRoad 5 = .ok (.ifCond .eq 39, 3) := zo_153 (by decide +kernel)
theorem dX4_addRoad_8 : decode cX4_addRoad 8 = .ok (.aload_n 0, 1) := zo_42 (by decide +kernel)
theorem dX4_addRoad_9 : decode cX4_addRoad 9 = .ok (.getfield 9, 3) := zo_180 (by decide +kernel)
theorem dX4_addRoad_12 : decode cX4_addRoad 12 = .ok (.iload_n 1, 1) := zo_27 (by decide +kernel)
theorem dX4_addRoad_13 : decode cX4_addRoad 13 = .ok (.iaload, 1) := zo_46 (by decide +kernel)
theorem dX4_addRoad_14 : decode cX4_addRoad 14 = .ok (.iconst 4, 1) := zo_7 (by decide +kernel)
theorem dX4_addRoad_15 : decode cX4_addRoad 15 = .ok (.if_icmp .ge 29, 3) := zo_162 (by decide +kernel)
theorem dX4_addRoad_18 : decode cX4_addRoad 18 = .ok (.aload_n 0, 1) := zo_42 (by decide +kernel)
theorem dX4_addRoad_19 : decode cX4_addRoad 19 = .ok (.getfield 15, 3) := zo_180 (by decide +kernel)
theorem dX4_addRoad_22 : decode cX4_addRoad 22 = .ok (.iload_n 1, 1) := zo_27 (by decide +kernel)
theorem dX4_addRoad_23 : decode cX4_addRoad 23 = .ok (.iconst 4, 1) := zo_7 (by decide +kernel)
theorem dX4_addRoad_24 : decode cX4_addRoad 24 = .ok (.imul, 1) := zo_104 (by decide +kernel)
theorem dX4_addRoad_25 : decode cX4_addRoad 25 = .ok (.aload_n 0, 1) := zo_42 (by decide +kernel)
theorem dX4_addRoad_26 : decode cX4_addRoad 26 = .ok (.getfield 9, 3) := zo_180 (by decide +kernel)
theorem dX4_addRoad_29 : decode cX4_addRoad 29 = .ok (.iload_n 1, 1) := zo_27 (by decide +kernel)
theorem dX4_addRoad_30 : decode cX4_addRoad 30 = .ok (.iaload, 1) := zo_46 (by decide +kernel)
theorem dX4_addRoad_31 : decode cX4_addRoad 31 = .ok (.iadd, 1) := zo_96 (by decide +kernel)
theorem dX4_addRoad_32 : decode cX4_addRoad 32 = .ok (.iload_n 2, 1) := zo_28 (by decide +kernel)
theorem dX4_addRoad_33 : decode cX4_addRoad 33 = .ok (.iastore, 1) := zo_79 (by decide +kernel)
theorem dX4_addRoad_34 : decode cX4_addRoad 34 = .ok (.aload_n 0, 1) := zo_42 (by decide +kernel)
theorem dX4_addRoad_35 : decode cX4_addRoad 35 = .ok (.getfield 9, 3) := zo_180 (by decide +kernel)
theorem dX4_addRoad_38 : decode cX4_addRoad 38 = .ok (.iload_n 1, 1) := zo_27 (by decide +kernel)
theorem dX4_addRoad_39 : decode cX4_addRoad 39 = .ok (.dup2, 1) := zo_92 (by decide +kernel)
theorem dX4_addRoad_40 : decode cX4_addRoad 40 = .ok (.iaload, 1) := zo_46 (by decide +kernel)
theorem dX4_addRoad_41 : decode cX4_addRoad 41 = .ok (.iconst 1, 1) := zo_4 (by decide +kernel)
theorem dX4_addRoad_42 : decode cX4_addRoad 42 = .ok (.iadd, 1) := zo_96 (by decide +kernel)
theorem dX4_addRoad_43 : decode cX4_addRoad 43 = .ok (.iastore, 1) := zo_79 (by decide +kernel)
theorem dX4_addRoad_44 : decode cX4_addRoad 44 = .ok (.return_, 1) := zo_177 (by decide +kernel)
theorem dX4_told_0 : decode cX4_told 0 = .ok (.iload_n 1, 1) := zo_27 (by decide +kernel)
theorem dX4_told_1 : decode cX4_told 1 = .ok (.ifCond .ne 8, 3) := zo_154 (by decide +kernel)
theorem dX4_told_4 : decode cX4_told 4 = .ok (.aload_n 0, 1) := zo_42 (by decide +kernel)
theorem dX4_told_5 : decode cX4_told 5 = .ok (.getfield 24, 3) := zo_180 (by decide +kernel)
theorem dX4_told_8 : decode cX4_told 8 = .ok (.ireturn, 1) := zo_172 (by decide +kernel)
theorem dX4_told_9 : decode cX4_told 9 = .ok (.iload_n 1, 1) := zo_27 (by decide +kernel)
theorem dX4_told_10 : decode cX4_told 10 = .ok (.iconst 1, 1) := zo_4 (by decide +kernel)
theorem dX4_told_11 : decode cX4_told 11 = .ok (.if_icmp .ne 8, 3) := zo_160 (by decide +kernel)
theorem dX4_told_14 : decode cX4_told 14 = .ok (.aload_n 0, 1) := zo_42 (by decide +kernel)
theorem dX4_told_15 : decode cX4_told 15 = .ok (.getfield 28, 3) := zo_180 (by decide +kernel)
theorem dX4_told_18 : decode cX4_told 18 = .ok (.ireturn, 1) := zo_172 (by decide +kernel)
theorem dX4_told_19 : decode cX4_told 19 = .ok (.iload_n 1, 1) := zo_27 (by decide +kernel)
theorem dX4_told_20 : decode cX4_told 20 = .ok (.bipush 100, 2) := zo_16 (by decide +kernel)
theorem dX4_told_22 : decode cX4_told 22 = .ok (.if_icmp .lt 22, 3) := zo_161 (by decide +kernel)
theorem dX4_told_25 : decode cX4_told 25 = .ok (.aload_n 0, 1) := zo_42 (by decide +kernel)
theorem dX4_told_26 : decode cX4_told 26 = .ok (.iload_n 1, 1) := zo_27 (by decide +kernel)
theorem dX4_told_27 : decode cX4_told 27 = .ok (.bipush 100, 2) := zo_16 (by decide +kernel)
theorem dX4_told_29 : decode cX4_told 29 = .ok (.isub, 1) := zo_100 (by decide +kernel)
theorem dX4_told_30 : decode cX4_told 30 = .ok (.bipush 10, 2) := zo_16 (by decide +kernel)
theorem dX4_told_32 : decode cX4_told 32 = .ok (.idiv, 1) := zo_108 (by decide +kernel)
theorem dX4_told_33 : decode cX4_told 33 = .ok (.iload_n 1, 1) := zo_27 (by decide +kernel)
theorem dX4_told_34 : decode cX4_told 34 = .ok (.bipush 100, 2) := zo_16 (by decide +kernel)
theorem dX4_told_36 : decode cX4_told 36 = .ok (.isub, 1) := zo_100 (by decide +kernel)
theorem dX4_told_37 : decode cX4_told 37 = .ok (.bipush 10, 2) := zo_16 (by decide +kernel)
theorem dX4_told_39 : decode cX4_told 39 = .ok (.irem, 1) := zo_112 (by decide +kernel)
theorem dX4_told_40 : decode cX4_told 40 = .ok (.invokevirtual 39, 3) := zo_182 (by decide +kernel)
theorem dX4_told_43 : decode cX4_told 43 = .ok (.ireturn, 1) := zo_172 (by decide +kernel)
theorem dX4_told_44 : decode cX4_told 44 = .ok (.iload_n 1, 1) := zo_27 (by decide +kernel)
theorem dX4_told_45 : decode cX4_told 45 = .ok (.bipush 10, 2) := zo_16 (by decide +kernel)
theorem dX4_told_47 : decode cX4_told 47 = .ok (.irem, 1) := zo_112 (by decide +kernel)
theorem dX4_told_48 : decode cX4_told 48 = .ok (.istore_n 2, 1) := zo_61 (by decide +kernel)
theorem dX4_told_49 : decode cX4_told 49 = .ok (.aload_n 0, 1) := zo_42 (by decide +kernel)
theorem dX4_told_50 : decode cX4_told 50 = .ok (.iload_n 2, 1) := zo_28 (by decide +kernel)
theorem dX4_told_51 : decode cX4_told 51 = .ok (.invokevirtual 31, 3) := zo_182 (by decide +kernel)
theorem dX4_told_54 : decode cX4_told 54 = .ok (.ifCond .ne 5, 3) := zo_154 (by decide +kernel)
theorem dX4_told_57 : decode cX4_told 57 = .ok (.iconst (-1), 1) := zo_2 (by decide +kernel)
theorem dX4_told_58 : decode cX4_told 58 = .ok (.ireturn, 1) := zo_172 (by decide +kernel)
theorem dX4_told_59 : decode cX4_told 59 = .ok (.iload_n 1, 1) := zo_27 (by decide +kernel)
theorem dX4_told_60 : decode cX4_told 60 = .ok (.bipush 10, 2) := zo_16 (by decide +kernel)
theorem dX4_told_62 : decode cX4_told 62 = .ok (.idiv, 1) := zo_108 (by decide +kernel)
theorem dX4_told_63 : decode cX4_told 63 = .ok (.tableswitch 46 1 3 #[25, 32, 39], 25) := by decide +kernel
theorem dX4_told_88 : decode cX4_told 88 = .ok (.aload_n 0, 1) := zo_42 (by decide +kernel)
theorem dX4_told_89 : decode cX4_told 89 = .ok (.getfield 9, 3) := zo_180 (by decide +kernel)
theorem dX4_told_92 : decode cX4_told 92 = .ok (.iload_n 2, 1) := zo_28 (by decide +kernel)
theorem dX4_told_93 : decode cX4_told 93 = .ok (.iaload, 1) := zo_46 (by decide +kernel)
theorem dX4_told_94 : decode cX4_told 94 = .ok (.ireturn, 1) := zo_172 (by decide +kernel)
theorem dX4_told_95 : decode cX4_told 95 = .ok (.aload_n 0, 1) := zo_42 (by decide +kernel)
theorem dX4_told_96 : decode cX4_told 96 = .ok (.getfield 18, 3) := zo_180 (by decide +kernel)
theorem dX4_told_99 : decode cX4_told 99 = .ok (.iload_n 2, 1) := zo_28 (by decide +kernel)
theorem dX4_told_100 : decode cX4_told 100 = .ok (.iaload, 1) := zo_46 (by decide +kernel)
theorem dX4_told_101 : decode cX4_told 101 = .ok (.ireturn, 1) := zo_172 (by decide +kernel)
theorem dX4_told_102 : decode cX4_told 102 = .ok (.aload_n 0, 1) := zo_42 (by decide +kernel)
theorem dX4_told_103 : decode cX4_told 103 = .ok (.getfield 21, 3) := zo_180 (by decide +kernel)
theorem dX4_told_106 : decode cX4_told 106 = .ok (.iload_n 2, 1) := zo_28 (by decide +kernel)
theorem dX4_told_107 : decode cX4_told 107 = .ok (.iaload, 1) := zo_46 (by decide +kernel)
theorem dX4_told_108 : decode cX4_told 108 = .ok (.ireturn, 1) := zo_172 (by decide +kernel)
theorem dX4_told_109 : decode cX4_told 109 = .ok (.iconst (-1), 1) := zo_2 (by decide +kernel)
theorem dX4_told_110 : decode cX4_told 110 = .ok (.ireturn, 1) := zo_172 (by decide +kernel)

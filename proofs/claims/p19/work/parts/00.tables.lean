-- ===== PART A: goes FIRST, ahead of the names: the tables' words, and 'selects' of the private methods out of them =====
/-- a private method of a class that the tables say can be made, by its rows of tables_1 -/
def lw_okq (q : MethodName × Nat) : Prop := (q.1.cls ≠ "java/lang/invoke/MethodHandle" ∧ q.1.cls ≠ "java/lang/invoke/VarHandle") ∧ Cond.instantiable q.1.cls q.2 ∈ tables_1 ∧ Cond.privateMethod q.1 ∈ tables_1 ∧ Cond.instanceMethod q.1 ∈ tables_1
theorem zt1_1 {w : Cond} (h : w ∈ tables_1_1) : w ∈ tables_1 := List.mem_append_left _ h
theorem zt1_2 {w : Cond} (h : w ∈ tables_1_2) : w ∈ tables_1 := List.mem_append_right _ (List.mem_append_left _ h)
theorem zt1_3 {w : Cond} (h : w ∈ tables_1_3) : w ∈ tables_1 := List.mem_append_right _ (List.mem_append_right _ (List.mem_append_left _ h))
theorem zt1_4 {w : Cond} (h : w ∈ tables_1_4) : w ∈ tables_1 := List.mem_append_right _ (List.mem_append_right _ (List.mem_append_right _ (List.mem_append_left _ h)))
theorem zt1_5 {w : Cond} (h : w ∈ tables_1_5) : w ∈ tables_1 := List.mem_append_right _ (List.mem_append_right _ (List.mem_append_right _ (List.mem_append_right _ (List.mem_append_left _ h))))
theorem zt1_6 {w : Cond} (h : w ∈ tables_1_6) : w ∈ tables_1 := List.mem_append_right _ (List.mem_append_right _ (List.mem_append_right _ (List.mem_append_right _ (List.mem_append_right _ (List.mem_append_left _ h)))))
theorem zt1_7 {w : Cond} (h : w ∈ tables_1_7) : w ∈ tables_1 := List.mem_append_right _ (List.mem_append_right _ (List.mem_append_right _ (List.mem_append_right _ (List.mem_append_right _ (List.mem_append_right _ (List.mem_append_left _ h))))))
theorem zt1_8 {w : Cond} (h : w ∈ tables_1_8) : w ∈ tables_1 := List.mem_append_right _ (List.mem_append_right _ (List.mem_append_right _ (List.mem_append_right _ (List.mem_append_right _ (List.mem_append_right _ (List.mem_append_right _ (h)))))))
theorem lw_p0 : lw_okq (⟨"TurnedPosts$Reader", "nextToken", "()V"⟩, 13) := ⟨⟨by decide +kernel, by decide +kernel⟩, (zt1_1 (List.mem_of_getElem? (i := 160) rfl)), (zt1_3 (List.mem_of_getElem? (i := 2) rfl)), (zt1_3 (List.mem_of_getElem? (i := 3) rfl))⟩
theorem lw_p1 : lw_okq (⟨"TurnedPosts$Reader", "takeLetters", "()V"⟩, 13) := ⟨⟨by decide +kernel, by decide +kernel⟩, (zt1_1 (List.mem_of_getElem? (i := 160) rfl)), (zt1_3 (List.mem_of_getElem? (i := 12) rfl)), (zt1_3 (List.mem_of_getElem? (i := 13) rfl))⟩
theorem lw_p2 : lw_okq (⟨"TurnedPosts$Reader", "takeDigits", "()V"⟩, 13) := ⟨⟨by decide +kernel, by decide +kernel⟩, (zt1_1 (List.mem_of_getElem? (i := 160) rfl)), (zt1_3 (List.mem_of_getElem? (i := 19) rfl)), (zt1_3 (List.mem_of_getElem? (i := 20) rfl))⟩
theorem lw_p3 : lw_okq (⟨"TurnedPosts$Reader", "readLine", "(I)V"⟩, 13) := ⟨⟨by decide +kernel, by decide +kernel⟩, (zt1_1 (List.mem_of_getElem? (i := 160) rfl)), (zt1_3 (List.mem_of_getElem? (i := 23) rfl)), (zt1_3 (List.mem_of_getElem? (i := 24) rfl))⟩
theorem lw_p4 : lw_okq (⟨"TurnedPosts$Reader", "wordOf", "(I)I"⟩, 13) := ⟨⟨by decide +kernel, by decide +kernel⟩, (zt1_1 (List.mem_of_getElem? (i := 160) rfl)), (zt1_3 (List.mem_of_getElem? (i := 27) rfl)), (zt1_3 (List.mem_of_getElem? (i := 28) rfl))⟩
theorem lw_p5 : lw_okq (⟨"TurnedPosts$Reader", "reads", "(Ljava/lang/String;)Z"⟩, 13) := ⟨⟨by decide +kernel, by decide +kernel⟩, (zt1_1 (List.mem_of_getElem? (i := 160) rfl)), (zt1_3 (List.mem_of_getElem? (i := 32) rfl)), (zt1_3 (List.mem_of_getElem? (i := 33) rfl))⟩
theorem lw_p6 : lw_okq (⟨"TurnedPosts$Reader", "breakHere", "()V"⟩, 13) := ⟨⟨by decide +kernel, by decide +kernel⟩, (zt1_1 (List.mem_of_getElem? (i := 160) rfl)), (zt1_3 (List.mem_of_getElem? (i := 95) rfl)), (zt1_3 (List.mem_of_getElem? (i := 96) rfl))⟩
theorem lw_p7 : lw_okq (⟨"TurnedPosts$Reader", "readDeed", "(I)V"⟩, 13) := ⟨⟨by decide +kernel, by decide +kernel⟩, (zt1_1 (List.mem_of_getElem? (i := 160) rfl)), (zt1_3 (List.mem_of_getElem? (i := 99) rfl)), (zt1_3 (List.mem_of_getElem? (i := 100) rfl))⟩
theorem lw_p8 : lw_okq (⟨"TurnedPosts$Reader", "note", "(II)V"⟩, 13) := ⟨⟨by decide +kernel, by decide +kernel⟩, (zt1_1 (List.mem_of_getElem? (i := 160) rfl)), (zt1_3 (List.mem_of_getElem? (i := 103) rfl)), (zt1_3 (List.mem_of_getElem? (i := 104) rfl))⟩
theorem lw_p9 : lw_okq (⟨"TurnedPosts$Reader", "readNumber", "(I)I"⟩, 13) := ⟨⟨by decide +kernel, by decide +kernel⟩, (zt1_1 (List.mem_of_getElem? (i := 160) rfl)), (zt1_3 (List.mem_of_getElem? (i := 107) rfl)), (zt1_3 (List.mem_of_getElem? (i := 108) rfl))⟩
theorem lw_p10 : lw_okq (⟨"TurnedPosts$Reader", "readFact", "(I)V"⟩, 13) := ⟨⟨by decide +kernel, by decide +kernel⟩, (zt1_1 (List.mem_of_getElem? (i := 160) rfl)), (zt1_3 (List.mem_of_getElem? (i := 115) rfl)), (zt1_3 (List.mem_of_getElem? (i := 116) rfl))⟩
theorem lw_p11 : lw_okq (⟨"TurnedPosts$Reader", "readCrossing", "()V"⟩, 13) := ⟨⟨by decide +kernel, by decide +kernel⟩, (zt1_1 (List.mem_of_getElem? (i := 160) rfl)), (zt1_3 (List.mem_of_getElem? (i := 123) rfl)), (zt1_3 (List.mem_of_getElem? (i := 124) rfl))⟩
theorem lw_p12 : lw_okq (⟨"TurnedPosts$Reader", "tellOf", "(I)V"⟩, 13) := ⟨⟨by decide +kernel, by decide +kernel⟩, (zt1_1 (List.mem_of_getElem? (i := 160) rfl)), (zt1_3 (List.mem_of_getElem? (i := 135) rfl)), (zt1_3 (List.mem_of_getElem? (i := 136) rfl))⟩
theorem lw_p13 : lw_okq (⟨"TurnedPosts$Reader", "readOther", "(I)V"⟩, 13) := ⟨⟨by decide +kernel, by decide +kernel⟩, (zt1_1 (List.mem_of_getElem? (i := 160) rfl)), (zt1_3 (List.mem_of_getElem? (i := 139) rfl)), (zt1_3 (List.mem_of_getElem? (i := 140) rfl))⟩
theorem lw_p14 : lw_okq (⟨"TurnedPosts$Reader", "lookAtWhole", "()V"⟩, 13) := ⟨⟨by decide +kernel, by decide +kernel⟩, (zt1_1 (List.mem_of_getElem? (i := 160) rfl)), (zt1_3 (List.mem_of_getElem? (i := 143) rfl)), (zt1_3 (List.mem_of_getElem? (i := 144) rfl))⟩
theorem lw_p15 : lw_okq (⟨"TurnedPosts", "forgetWhatFollows", "(Z)V"⟩, 11) := ⟨⟨by decide +kernel, by decide +kernel⟩, (zt1_1 (List.mem_of_getElem? (i := 21) rfl)), (zt1_3 (List.mem_of_getElem? (i := 166) rfl)), (zt1_3 (List.mem_of_getElem? (i := 167) rfl))⟩
def lw_privs_1 : List (MethodName × Nat) := [(⟨"TurnedPosts$Reader", "nextToken", "()V"⟩, 13), (⟨"TurnedPosts$Reader", "takeLetters", "()V"⟩, 13), (⟨"TurnedPosts$Reader", "takeDigits", "()V"⟩, 13), (⟨"TurnedPosts$Reader", "readLine", "(I)V"⟩, 13), (⟨"TurnedPosts$Reader", "wordOf", "(I)I"⟩, 13), (⟨"TurnedPosts$Reader", "reads", "(Ljava/lang/String;)Z"⟩, 13), (⟨"TurnedPosts$Reader", "breakHere", "()V"⟩, 13), (⟨"TurnedPosts$Reader", "readDeed", "(I)V"⟩, 13), (⟨"TurnedPosts$Reader", "note", "(II)V"⟩, 13), (⟨"TurnedPosts$Reader", "readNumber", "(I)I"⟩, 13), (⟨"TurnedPosts$Reader", "readFact", "(I)V"⟩, 13), (⟨"TurnedPosts$Reader", "readCrossing", "()V"⟩, 13), (⟨"TurnedPosts$Reader", "tellOf", "(I)V"⟩, 13), (⟨"TurnedPosts$Reader", "readOther", "(I)V"⟩, 13), (⟨"TurnedPosts$Reader", "lookAtWhole", "()V"⟩, 13), (⟨"TurnedPosts", "forgetWhatFollows", "(Z)V"⟩, 11)]
theorem lw_r1 : ∀ q ∈ lw_privs_1, lw_okq q := List.forall_mem_cons.mpr ⟨lw_p0, List.forall_mem_cons.mpr ⟨lw_p1, List.forall_mem_cons.mpr ⟨lw_p2, List.forall_mem_cons.mpr ⟨lw_p3, List.forall_mem_cons.mpr ⟨lw_p4, List.forall_mem_cons.mpr ⟨lw_p5, List.forall_mem_cons.mpr ⟨lw_p6, List.forall_mem_cons.mpr ⟨lw_p7, List.forall_mem_cons.mpr ⟨lw_p8, List.forall_mem_cons.mpr ⟨lw_p9, List.forall_mem_cons.mpr ⟨lw_p10, List.forall_mem_cons.mpr ⟨lw_p11, List.forall_mem_cons.mpr ⟨lw_p12, List.forall_mem_cons.mpr ⟨lw_p13, List.forall_mem_cons.mpr ⟨lw_p14, List.forall_mem_cons.mpr ⟨lw_p15, fun _ h => absurd h List.not_mem_nil⟩⟩⟩⟩⟩⟩⟩⟩⟩⟩⟩⟩⟩⟩⟩⟩
theorem lw_p16 : lw_okq (⟨"TurnedPosts$Course", "begin", "(LTurnedPosts$Land;)V"⟩, 11) := ⟨⟨by decide +kernel, by decide +kernel⟩, (zt1_2 (List.mem_of_getElem? (i := 13) rfl)), (zt1_4 (List.mem_of_getElem? (i := 2) rfl)), (zt1_4 (List.mem_of_getElem? (i := 3) rfl))⟩
theorem lw_p17 : lw_okq (⟨"TurnedPosts$Course", "lookAtCrowd", "()V"⟩, 11) := ⟨⟨by decide +kernel, by decide +kernel⟩, (zt1_2 (List.mem_of_getElem? (i := 13) rfl)), (zt1_4 (List.mem_of_getElem? (i := 14) rfl)), (zt1_4 (List.mem_of_getElem? (i := 15) rfl))⟩
theorem lw_p18 : lw_okq (⟨"TurnedPosts$Course", "does", "(III)Z"⟩, 11) := ⟨⟨by decide +kernel, by decide +kernel⟩, (zt1_2 (List.mem_of_getElem? (i := 13) rfl)), (zt1_4 (List.mem_of_getElem? (i := 23) rfl)), (zt1_4 (List.mem_of_getElem? (i := 24) rfl))⟩
theorem lw_p19 : lw_okq (⟨"TurnedPosts$Course", "go", "(I)Z"⟩, 11) := ⟨⟨by decide +kernel, by decide +kernel⟩, (zt1_2 (List.mem_of_getElem? (i := 13) rfl)), (zt1_4 (List.mem_of_getElem? (i := 27) rfl)), (zt1_4 (List.mem_of_getElem? (i := 28) rfl))⟩
theorem lw_p20 : lw_okq (⟨"TurnedPosts$Course", "move", "(II)V"⟩, 11) := ⟨⟨by decide +kernel, by decide +kernel⟩, (zt1_2 (List.mem_of_getElem? (i := 13) rfl)), (zt1_4 (List.mem_of_getElem? (i := 40) rfl)), (zt1_4 (List.mem_of_getElem? (i := 41) rfl))⟩
theorem lw_p21 : lw_okq (⟨"TurnedPosts$Course", "run", "(I)Z"⟩, 11) := ⟨⟨by decide +kernel, by decide +kernel⟩, (zt1_2 (List.mem_of_getElem? (i := 13) rfl)), (zt1_4 (List.mem_of_getElem? (i := 44) rfl)), (zt1_4 (List.mem_of_getElem? (i := 45) rfl))⟩
theorem lw_p22 : lw_okq (⟨"TurnedPosts$Course", "add", "(I)Z"⟩, 11) := ⟨⟨by decide +kernel, by decide +kernel⟩, (zt1_2 (List.mem_of_getElem? (i := 13) rfl)), (zt1_4 (List.mem_of_getElem? (i := 54) rfl)), (zt1_4 (List.mem_of_getElem? (i := 55) rfl))⟩
theorem lw_p23 : lw_okq (⟨"TurnedPosts$Course", "shut", "(II)Z"⟩, 11) := ⟨⟨by decide +kernel, by decide +kernel⟩, (zt1_2 (List.mem_of_getElem? (i := 13) rfl)), (zt1_4 (List.mem_of_getElem? (i := 58) rfl)), (zt1_4 (List.mem_of_getElem? (i := 59) rfl))⟩
theorem lw_p24 : lw_okq (⟨"TurnedPosts$Course", "open", "(II)Z"⟩, 11) := ⟨⟨by decide +kernel, by decide +kernel⟩, (zt1_2 (List.mem_of_getElem? (i := 13) rfl)), (zt1_4 (List.mem_of_getElem? (i := 72) rfl)), (zt1_4 (List.mem_of_getElem? (i := 73) rfl))⟩
theorem lw_p25 : lw_okq (⟨"TurnedPosts$Course", "walkersInAll", "(Z)I"⟩, 11) := ⟨⟨by decide +kernel, by decide +kernel⟩, (zt1_2 (List.mem_of_getElem? (i := 13) rfl)), (zt1_4 (List.mem_of_getElem? (i := 88) rfl)), (zt1_4 (List.mem_of_getElem? (i := 89) rfl))⟩
theorem lw_p26 : lw_okq (⟨"TurnedPosts$Course", "unlikeTold", "()I"⟩, 11) := ⟨⟨by decide +kernel, by decide +kernel⟩, (zt1_2 (List.mem_of_getElem? (i := 13) rfl)), (zt1_4 (List.mem_of_getElem? (i := 100) rfl)), (zt1_4 (List.mem_of_getElem? (i := 101) rfl))⟩
theorem lw_p27 : lw_okq (⟨"TurnedPosts$Course", "drawBelow", "(I)I"⟩, 11) := ⟨⟨by decide +kernel, by decide +kernel⟩, (zt1_2 (List.mem_of_getElem? (i := 13) rfl)), (zt1_4 (List.mem_of_getElem? (i := 114) rfl)), (zt1_4 (List.mem_of_getElem? (i := 115) rfl))⟩
theorem lw_p28 : lw_okq (⟨"TurnedPosts$Trail", "arrive", "(II)I"⟩, 8) := ⟨⟨by decide +kernel, by decide +kernel⟩, (zt1_2 (List.mem_of_getElem? (i := 60) rfl)), (zt1_4 (List.mem_of_getElem? (i := 137) rfl)), (zt1_4 (List.mem_of_getElem? (i := 138) rfl))⟩
theorem lw_p29 : lw_okq (⟨"TurnedPosts", "placeOfCode", "(II)I"⟩, 11) := ⟨⟨by decide +kernel, by decide +kernel⟩, (zt1_1 (List.mem_of_getElem? (i := 21) rfl)), (zt1_4 (List.mem_of_getElem? (i := 190) rfl)), (zt1_4 (List.mem_of_getElem? (i := 191) rfl))⟩
theorem lw_p30 : lw_okq (⟨"TurnedPosts", "isKey", "(LTurnedPosts$Land;III)Z"⟩, 11) := ⟨⟨by decide +kernel, by decide +kernel⟩, (zt1_1 (List.mem_of_getElem? (i := 21) rfl)), (zt1_4 (List.mem_of_getElem? (i := 199) rfl)), (zt1_4 (List.mem_of_getElem? (i := 200) rfl))⟩
theorem lw_p31 : lw_okq (⟨"TurnedPosts", "waysIn", "(ILTurnedPosts$Land;)LTurnedPosts$AllWays;"⟩, 11) := ⟨⟨by decide +kernel, by decide +kernel⟩, (zt1_1 (List.mem_of_getElem? (i := 21) rfl)), (zt1_4 (List.mem_of_getElem? (i := 208) rfl)), (zt1_4 (List.mem_of_getElem? (i := 209) rfl))⟩
def lw_privs_2 : List (MethodName × Nat) := [(⟨"TurnedPosts$Course", "begin", "(LTurnedPosts$Land;)V"⟩, 11), (⟨"TurnedPosts$Course", "lookAtCrowd", "()V"⟩, 11), (⟨"TurnedPosts$Course", "does", "(III)Z"⟩, 11), (⟨"TurnedPosts$Course", "go", "(I)Z"⟩, 11), (⟨"TurnedPosts$Course", "move", "(II)V"⟩, 11), (⟨"TurnedPosts$Course", "run", "(I)Z"⟩, 11), (⟨"TurnedPosts$Course", "add", "(I)Z"⟩, 11), (⟨"TurnedPosts$Course", "shut", "(II)Z"⟩, 11), (⟨"TurnedPosts$Course", "open", "(II)Z"⟩, 11), (⟨"TurnedPosts$Course", "walkersInAll", "(Z)I"⟩, 11), (⟨"TurnedPosts$Course", "unlikeTold", "()I"⟩, 11), (⟨"TurnedPosts$Course", "drawBelow", "(I)I"⟩, 11), (⟨"TurnedPosts$Trail", "arrive", "(II)I"⟩, 8), (⟨"TurnedPosts", "placeOfCode", "(II)I"⟩, 11), (⟨"TurnedPosts", "isKey", "(LTurnedPosts$Land;III)Z"⟩, 11), (⟨"TurnedPosts", "waysIn", "(ILTurnedPosts$Land;)LTurnedPosts$AllWays;"⟩, 11)]
theorem lw_r2 : ∀ q ∈ lw_privs_2, lw_okq q := List.forall_mem_cons.mpr ⟨lw_p16, List.forall_mem_cons.mpr ⟨lw_p17, List.forall_mem_cons.mpr ⟨lw_p18, List.forall_mem_cons.mpr ⟨lw_p19, List.forall_mem_cons.mpr ⟨lw_p20, List.forall_mem_cons.mpr ⟨lw_p21, List.forall_mem_cons.mpr ⟨lw_p22, List.forall_mem_cons.mpr ⟨lw_p23, List.forall_mem_cons.mpr ⟨lw_p24, List.forall_mem_cons.mpr ⟨lw_p25, List.forall_mem_cons.mpr ⟨lw_p26, List.forall_mem_cons.mpr ⟨lw_p27, List.forall_mem_cons.mpr ⟨lw_p28, List.forall_mem_cons.mpr ⟨lw_p29, List.forall_mem_cons.mpr ⟨lw_p30, List.forall_mem_cons.mpr ⟨lw_p31, fun _ h => absurd h List.not_mem_nil⟩⟩⟩⟩⟩⟩⟩⟩⟩⟩⟩⟩⟩⟩⟩⟩
theorem lw_p32 : lw_okq (⟨"TurnedPosts$AllWays", "countWays", "(LTurnedPosts$Land;)V"⟩, 10) := ⟨⟨by decide +kernel, by decide +kernel⟩, (zt1_2 (List.mem_of_getElem? (i := 98) rfl)), (zt1_4 (List.mem_of_getElem? (i := 216) rfl)), (zt1_4 (List.mem_of_getElem? (i := 217) rfl))⟩
theorem lw_p33 : lw_okq (⟨"TurnedPosts$AllWays", "grow", "()V"⟩, 10) := ⟨⟨by decide +kernel, by decide +kernel⟩, (zt1_2 (List.mem_of_getElem? (i := 98) rfl)), (zt1_4 (List.mem_of_getElem? (i := 224) rfl)), (zt1_4 (List.mem_of_getElem? (i := 225) rfl))⟩
theorem lw_p34 : lw_okq (⟨"TurnedPosts$AllWays", "stepOnce", "()V"⟩, 10) := ⟨⟨by decide +kernel, by decide +kernel⟩, (zt1_2 (List.mem_of_getElem? (i := 98) rfl)), (zt1_4 (List.mem_of_getElem? (i := 228) rfl)), (zt1_4 (List.mem_of_getElem? (i := 229) rfl))⟩
theorem lw_p35 : lw_okq (⟨"TurnedPosts$AllWays", "doubleAll", "()V"⟩, 10) := ⟨⟨by decide +kernel, by decide +kernel⟩, (zt1_2 (List.mem_of_getElem? (i := 98) rfl)), (zt1_5 (List.mem_of_getElem? (i := 4) rfl)), (zt1_5 (List.mem_of_getElem? (i := 5) rfl))⟩
theorem lw_p36 : lw_okq (⟨"TurnedPosts$AllWays", "oneMore", "()V"⟩, 10) := ⟨⟨by decide +kernel, by decide +kernel⟩, (zt1_2 (List.mem_of_getElem? (i := 98) rfl)), (zt1_5 (List.mem_of_getElem? (i := 9) rfl)), (zt1_5 (List.mem_of_getElem? (i := 10) rfl))⟩
theorem lw_p37 : lw_okq (⟨"TurnedPosts$AllWays", "entry", "(II)I"⟩, 10) := ⟨⟨by decide +kernel, by decide +kernel⟩, (zt1_2 (List.mem_of_getElem? (i := 98) rfl)), (zt1_5 (List.mem_of_getElem? (i := 25) rfl)), (zt1_5 (List.mem_of_getElem? (i := 26) rfl))⟩
theorem lw_p38 : lw_okq (⟨"TurnedPosts$AllWays", "allComeByRow", "()Z"⟩, 10) := ⟨⟨by decide +kernel, by decide +kernel⟩, (zt1_2 (List.mem_of_getElem? (i := 98) rfl)), (zt1_5 (List.mem_of_getElem? (i := 62) rfl)), (zt1_5 (List.mem_of_getElem? (i := 63) rfl))⟩
theorem lw_p39 : lw_okq (⟨"TurnedPosts$AllWays", "comesByRow", "(I)Z"⟩, 10) := ⟨⟨by decide +kernel, by decide +kernel⟩, (zt1_2 (List.mem_of_getElem? (i := 98) rfl)), (zt1_5 (List.mem_of_getElem? (i := 66) rfl)), (zt1_5 (List.mem_of_getElem? (i := 67) rfl))⟩
theorem lw_p40 : lw_okq (⟨"TurnedPosts$AllWays", "nextRow", "()V"⟩, 10) := ⟨⟨by decide +kernel, by decide +kernel⟩, (zt1_2 (List.mem_of_getElem? (i := 98) rfl)), (zt1_5 (List.mem_of_getElem? (i := 71) rfl)), (zt1_5 (List.mem_of_getElem? (i := 72) rfl))⟩
theorem lw_p41 : lw_okq (⟨"TurnedPosts", "fit", "(II)Z"⟩, 11) := ⟨⟨by decide +kernel, by decide +kernel⟩, (zt1_1 (List.mem_of_getElem? (i := 21) rfl)), (zt1_5 (List.mem_of_getElem? (i := 111) rfl)), (zt1_5 (List.mem_of_getElem? (i := 112) rfl))⟩
theorem lw_p42 : lw_okq (⟨"TurnedPosts$Fitting", "grow", "(I)V"⟩, 8) := ⟨⟨by decide +kernel, by decide +kernel⟩, (zt1_2 (List.mem_of_getElem? (i := 141) rfl)), (zt1_5 (List.mem_of_getElem? (i := 119) rfl)), (zt1_5 (List.mem_of_getElem? (i := 120) rfl))⟩
theorem lw_p43 : lw_okq (⟨"TurnedPosts$Fitting", "tryWay", "(LTurnedPosts$AllWays;LTurnedPosts$Log;I)V"⟩, 8) := ⟨⟨by decide +kernel, by decide +kernel⟩, (zt1_2 (List.mem_of_getElem? (i := 141) rfl)), (zt1_5 (List.mem_of_getElem? (i := 123) rfl)), (zt1_5 (List.mem_of_getElem? (i := 124) rfl))⟩
theorem lw_p44 : lw_okq (⟨"TurnedPosts$Fitting", "mostTogether", "(LTurnedPosts$AllWays;I)I"⟩, 8) := ⟨⟨by decide +kernel, by decide +kernel⟩, (zt1_2 (List.mem_of_getElem? (i := 141) rfl)), (zt1_5 (List.mem_of_getElem? (i := 141) rfl)), (zt1_5 (List.mem_of_getElem? (i := 142) rfl))⟩
theorem lw_p45 : lw_okq (⟨"TurnedPostsModel", "isOf", "(II)Z"⟩, 43) := ⟨⟨by decide +kernel, by decide +kernel⟩, (zt1_5 (List.mem_of_getElem? (i := 230) rfl)), (zt1_6 (List.mem_of_getElem? (i := 141) rfl)), (zt1_6 (List.mem_of_getElem? (i := 142) rfl))⟩
theorem lw_p46 : lw_okq (⟨"TurnedPostsModel", "advance", "()V"⟩, 43) := ⟨⟨by decide +kernel, by decide +kernel⟩, (zt1_5 (List.mem_of_getElem? (i := 230) rfl)), (zt1_6 (List.mem_of_getElem? (i := 145) rfl)), (zt1_6 (List.mem_of_getElem? (i := 146) rfl))⟩
theorem lw_p47 : lw_okq (⟨"TurnedPostsModel", "byteAt", "(I)I"⟩, 43) := ⟨⟨by decide +kernel, by decide +kernel⟩, (zt1_5 (List.mem_of_getElem? (i := 230) rfl)), (zt1_6 (List.mem_of_getElem? (i := 149) rfl)), (zt1_6 (List.mem_of_getElem? (i := 150) rfl))⟩
def lw_privs_3 : List (MethodName × Nat) := [(⟨"TurnedPosts$AllWays", "countWays", "(LTurnedPosts$Land;)V"⟩, 10), (⟨"TurnedPosts$AllWays", "grow", "()V"⟩, 10), (⟨"TurnedPosts$AllWays", "stepOnce", "()V"⟩, 10), (⟨"TurnedPosts$AllWays", "doubleAll", "()V"⟩, 10), (⟨"TurnedPosts$AllWays", "oneMore", "()V"⟩, 10), (⟨"TurnedPosts$AllWays", "entry", "(II)I"⟩, 10), (⟨"TurnedPosts$AllWays", "allComeByRow", "()Z"⟩, 10), (⟨"TurnedPosts$AllWays", "comesByRow", "(I)Z"⟩, 10), (⟨"TurnedPosts$AllWays", "nextRow", "()V"⟩, 10), (⟨"TurnedPosts", "fit", "(II)Z"⟩, 11), (⟨"TurnedPosts$Fitting", "grow", "(I)V"⟩, 8), (⟨"TurnedPosts$Fitting", "tryWay", "(LTurnedPosts$AllWays;LTurnedPosts$Log;I)V"⟩, 8), (⟨"TurnedPosts$Fitting", "mostTogether", "(LTurnedPosts$AllWays;I)I"⟩, 8), (⟨"TurnedPostsModel", "isOf", "(II)Z"⟩, 43), (⟨"TurnedPostsModel", "advance", "()V"⟩, 43), (⟨"TurnedPostsModel", "byteAt", "(I)I"⟩, 43)]
theorem lw_r3 : ∀ q ∈ lw_privs_3, lw_okq q := List.forall_mem_cons.mpr ⟨lw_p32, List.forall_mem_cons.mpr ⟨lw_p33, List.forall_mem_cons.mpr ⟨lw_p34, List.forall_mem_cons.mpr ⟨lw_p35, List.forall_mem_cons.mpr ⟨lw_p36, List.forall_mem_cons.mpr ⟨lw_p37, List.forall_mem_cons.mpr ⟨lw_p38, List.forall_mem_cons.mpr ⟨lw_p39, List.forall_mem_cons.mpr ⟨lw_p40, List.forall_mem_cons.mpr ⟨lw_p41, List.forall_mem_cons.mpr ⟨lw_p42, List.forall_mem_cons.mpr ⟨lw_p43, List.forall_mem_cons.mpr ⟨lw_p44, List.forall_mem_cons.mpr ⟨lw_p45, List.forall_mem_cons.mpr ⟨lw_p46, List.forall_mem_cons.mpr ⟨lw_p47, fun _ h => absurd h List.not_mem_nil⟩⟩⟩⟩⟩⟩⟩⟩⟩⟩⟩⟩⟩⟩⟩⟩
theorem lw_p48 : lw_okq (⟨"TurnedPostsModel", "landLine", "()V"⟩, 43) := ⟨⟨by decide +kernel, by decide +kernel⟩, (zt1_5 (List.mem_of_getElem? (i := 230) rfl)), (zt1_6 (List.mem_of_getElem? (i := 171) rfl)), (zt1_6 (List.mem_of_getElem? (i := 172) rfl))⟩
theorem lw_p49 : lw_okq (⟨"TurnedPostsModel", "wordIn", "(II)I"⟩, 43) := ⟨⟨by decide +kernel, by decide +kernel⟩, (zt1_5 (List.mem_of_getElem? (i := 230) rfl)), (zt1_6 (List.mem_of_getElem? (i := 175) rfl)), (zt1_6 (List.mem_of_getElem? (i := 176) rfl))⟩
theorem lw_p50 : lw_okq (⟨"TurnedPostsModel", "ends", "()V"⟩, 43) := ⟨⟨by decide +kernel, by decide +kernel⟩, (zt1_5 (List.mem_of_getElem? (i := 230) rfl)), (zt1_6 (List.mem_of_getElem? (i := 179) rfl)), (zt1_6 (List.mem_of_getElem? (i := 180) rfl))⟩
theorem lw_p51 : lw_okq (⟨"TurnedPostsModel", "crossTold", "(I)V"⟩, 43) := ⟨⟨by decide +kernel, by decide +kernel⟩, (zt1_5 (List.mem_of_getElem? (i := 230) rfl)), (zt1_6 (List.mem_of_getElem? (i := 183) rfl)), (zt1_6 (List.mem_of_getElem? (i := 184) rfl))⟩
theorem lw_p52 : lw_okq (⟨"TurnedPostsModel", "also", "(II)V"⟩, 43) := ⟨⟨by decide +kernel, by decide +kernel⟩, (zt1_5 (List.mem_of_getElem? (i := 230) rfl)), (zt1_6 (List.mem_of_getElem? (i := 187) rfl)), (zt1_6 (List.mem_of_getElem? (i := 188) rfl))⟩
theorem lw_p53 : lw_okq (⟨"TurnedPostsModel", "crossingTold", "()I"⟩, 43) := ⟨⟨by decide +kernel, by decide +kernel⟩, (zt1_5 (List.mem_of_getElem? (i := 230) rfl)), (zt1_6 (List.mem_of_getElem? (i := 191) rfl)), (zt1_6 (List.mem_of_getElem? (i := 192) rfl))⟩
theorem lw_p54 : lw_okq (⟨"TurnedPostsModel", "numbered", "(II)I"⟩, 43) := ⟨⟨by decide +kernel, by decide +kernel⟩, (zt1_5 (List.mem_of_getElem? (i := 230) rfl)), (zt1_6 (List.mem_of_getElem? (i := 195) rfl)), (zt1_6 (List.mem_of_getElem? (i := 196) rfl))⟩
theorem lw_p55 : lw_okq (⟨"TurnedPostsModel", "endsLine", "()V"⟩, 43) := ⟨⟨by decide +kernel, by decide +kernel⟩, (zt1_5 (List.mem_of_getElem? (i := 230) rfl)), (zt1_6 (List.mem_of_getElem? (i := 199) rfl)), (zt1_6 (List.mem_of_getElem? (i := 200) rfl))⟩
theorem lw_p56 : lw_okq (⟨"TurnedPostsModel", "dayLine", "()V"⟩, 43) := ⟨⟨by decide +kernel, by decide +kernel⟩, (zt1_5 (List.mem_of_getElem? (i := 230) rfl)), (zt1_6 (List.mem_of_getElem? (i := 203) rfl)), (zt1_6 (List.mem_of_getElem? (i := 204) rfl))⟩
theorem lw_p57 : lw_okq (⟨"TurnedPostsModel", "logLine", "()V"⟩, 43) := ⟨⟨by decide +kernel, by decide +kernel⟩, (zt1_5 (List.mem_of_getElem? (i := 230) rfl)), (zt1_6 (List.mem_of_getElem? (i := 207) rfl)), (zt1_6 (List.mem_of_getElem? (i := 208) rfl))⟩
theorem lw_p58 : lw_okq (⟨"TurnedPostsModel", "postsAreThere", "()Z"⟩, 43) := ⟨⟨by decide +kernel, by decide +kernel⟩, (zt1_5 (List.mem_of_getElem? (i := 230) rfl)), (zt1_6 (List.mem_of_getElem? (i := 211) rfl)), (zt1_6 (List.mem_of_getElem? (i := 212) rfl))⟩
theorem lw_p59 : lw_okq (⟨"TurnedPostsModel", "isLand", "(I)Z"⟩, 43) := ⟨⟨by decide +kernel, by decide +kernel⟩, (zt1_5 (List.mem_of_getElem? (i := 230) rfl)), (zt1_6 (List.mem_of_getElem? (i := 229) rfl)), (zt1_6 (List.mem_of_getElem? (i := 230) rfl))⟩
theorem lw_p60 : lw_okq (⟨"TurnedPostsModel", "begins", "()V"⟩, 43) := ⟨⟨by decide +kernel, by decide +kernel⟩, (zt1_5 (List.mem_of_getElem? (i := 230) rfl)), (zt1_6 (List.mem_of_getElem? (i := 233) rfl)), (zt1_6 (List.mem_of_getElem? (i := 234) rfl))⟩
theorem lw_p61 : lw_okq (⟨"TurnedPostsModel", "postTold", "(I)I"⟩, 43) := ⟨⟨by decide +kernel, by decide +kernel⟩, (zt1_5 (List.mem_of_getElem? (i := 230) rfl)), (zt1_6 (List.mem_of_getElem? (i := 237) rfl)), (zt1_6 (List.mem_of_getElem? (i := 238) rfl))⟩
theorem lw_p62 : lw_okq (⟨"TurnedPostsModel", "isCrossing", "(I)Z"⟩, 43) := ⟨⟨by decide +kernel, by decide +kernel⟩, (zt1_5 (List.mem_of_getElem? (i := 230) rfl)), (zt1_7 (List.mem_of_getElem? (i := 1) rfl)), (zt1_7 (List.mem_of_getElem? (i := 2) rfl))⟩
theorem lw_p63 : lw_okq (⟨"TurnedPostsModel", "roadsOf", "(I)I"⟩, 43) := ⟨⟨by decide +kernel, by decide +kernel⟩, (zt1_5 (List.mem_of_getElem? (i := 230) rfl)), (zt1_7 (List.mem_of_getElem? (i := 5) rfl)), (zt1_7 (List.mem_of_getElem? (i := 6) rfl))⟩
def lw_privs_4 : List (MethodName × Nat) := [(⟨"TurnedPostsModel", "landLine", "()V"⟩, 43), (⟨"TurnedPostsModel", "wordIn", "(II)I"⟩, 43), (⟨"TurnedPostsModel", "ends", "()V"⟩, 43), (⟨"TurnedPostsModel", "crossTold", "(I)V"⟩, 43), (⟨"TurnedPostsModel", "also", "(II)V"⟩, 43), (⟨"TurnedPostsModel", "crossingTold", "()I"⟩, 43), (⟨"TurnedPostsModel", "numbered", "(II)I"⟩, 43), (⟨"TurnedPostsModel", "endsLine", "()V"⟩, 43), (⟨"TurnedPostsModel", "dayLine", "()V"⟩, 43), (⟨"TurnedPostsModel", "logLine", "()V"⟩, 43), (⟨"TurnedPostsModel", "postsAreThere", "()Z"⟩, 43), (⟨"TurnedPostsModel", "isLand", "(I)Z"⟩, 43), (⟨"TurnedPostsModel", "begins", "()V"⟩, 43), (⟨"TurnedPostsModel", "postTold", "(I)I"⟩, 43), (⟨"TurnedPostsModel", "isCrossing", "(I)Z"⟩, 43), (⟨"TurnedPostsModel", "roadsOf", "(I)I"⟩, 43)]
theorem lw_r4 : ∀ q ∈ lw_privs_4, lw_okq q := List.forall_mem_cons.mpr ⟨lw_p48, List.forall_mem_cons.mpr ⟨lw_p49, List.forall_mem_cons.mpr ⟨lw_p50, List.forall_mem_cons.mpr ⟨lw_p51, List.forall_mem_cons.mpr ⟨lw_p52, List.forall_mem_cons.mpr ⟨lw_p53, List.forall_mem_cons.mpr ⟨lw_p54, List.forall_mem_cons.mpr ⟨lw_p55, List.forall_mem_cons.mpr ⟨lw_p56, List.forall_mem_cons.mpr ⟨lw_p57, List.forall_mem_cons.mpr ⟨lw_p58, List.forall_mem_cons.mpr ⟨lw_p59, List.forall_mem_cons.mpr ⟨lw_p60, List.forall_mem_cons.mpr ⟨lw_p61, List.forall_mem_cons.mpr ⟨lw_p62, List.forall_mem_cons.mpr ⟨lw_p63, fun _ h => absurd h List.not_mem_nil⟩⟩⟩⟩⟩⟩⟩⟩⟩⟩⟩⟩⟩⟩⟩⟩
theorem lw_p64 : lw_okq (⟨"TurnedPostsModel", "leadsTo", "(II)I"⟩, 43) := ⟨⟨by decide +kernel, by decide +kernel⟩, (zt1_5 (List.mem_of_getElem? (i := 230) rfl)), (zt1_7 (List.mem_of_getElem? (i := 9) rfl)), (zt1_7 (List.mem_of_getElem? (i := 10) rfl))⟩
theorem lw_p65 : lw_okq (⟨"TurnedPostsModel", "walks", "(I)Z"⟩, 43) := ⟨⟨by decide +kernel, by decide +kernel⟩, (zt1_5 (List.mem_of_getElem? (i := 230) rfl)), (zt1_7 (List.mem_of_getElem? (i := 17) rfl)), (zt1_7 (List.mem_of_getElem? (i := 18) rfl))⟩
theorem lw_p66 : lw_okq (⟨"TurnedPostsModel", "puts", "(I)V"⟩, 43) := ⟨⟨by decide +kernel, by decide +kernel⟩, (zt1_5 (List.mem_of_getElem? (i := 230) rfl)), (zt1_7 (List.mem_of_getElem? (i := 21) rfl)), (zt1_7 (List.mem_of_getElem? (i := 22) rfl))⟩
theorem lw_p67 : lw_okq (⟨"TurnedPostsModel", "stepsOn", "()Z"⟩, 43) := ⟨⟨by decide +kernel, by decide +kernel⟩, (zt1_5 (List.mem_of_getElem? (i := 230) rfl)), (zt1_7 (List.mem_of_getElem? (i := 25) rfl)), (zt1_7 (List.mem_of_getElem? (i := 26) rfl))⟩
theorem lw_p68 : lw_okq (⟨"TurnedPostsModel", "isInn", "(I)Z"⟩, 43) := ⟨⟨by decide +kernel, by decide +kernel⟩, (zt1_5 (List.mem_of_getElem? (i := 230) rfl)), (zt1_7 (List.mem_of_getElem? (i := 29) rfl)), (zt1_7 (List.mem_of_getElem? (i := 30) rfl))⟩
theorem lw_p69 : lw_okq (⟨"TurnedPostsModel", "turns", "(I)Z"⟩, 43) := ⟨⟨by decide +kernel, by decide +kernel⟩, (zt1_5 (List.mem_of_getElem? (i := 230) rfl)), (zt1_7 (List.mem_of_getElem? (i := 33) rfl)), (zt1_7 (List.mem_of_getElem? (i := 34) rfl))⟩
theorem lw_p70 : lw_okq (⟨"TurnedPostsModel", "postsNow", "()I"⟩, 43) := ⟨⟨by decide +kernel, by decide +kernel⟩, (zt1_5 (List.mem_of_getElem? (i := 230) rfl)), (zt1_7 (List.mem_of_getElem? (i := 53) rfl)), (zt1_7 (List.mem_of_getElem? (i := 54) rfl))⟩
theorem lw_p71 : lw_okq (⟨"TurnedPostsModel", "setBy", "(II)I"⟩, 43) := ⟨⟨by decide +kernel, by decide +kernel⟩, (zt1_5 (List.mem_of_getElem? (i := 230) rfl)), (zt1_7 (List.mem_of_getElem? (i := 61) rfl)), (zt1_7 (List.mem_of_getElem? (i := 62) rfl))⟩
theorem lw_p72 : lw_okq (⟨"TurnedPostsModel", "waysMany", "()I"⟩, 43) := ⟨⟨by decide +kernel, by decide +kernel⟩, (zt1_5 (List.mem_of_getElem? (i := 230) rfl)), (zt1_7 (List.mem_of_getElem? (i := 65) rfl)), (zt1_7 (List.mem_of_getElem? (i := 66) rfl))⟩
theorem lw_p73 : lw_okq (⟨"TurnedPostsModel", "isFree", "(I)Z"⟩, 43) := ⟨⟨by decide +kernel, by decide +kernel⟩, (zt1_5 (List.mem_of_getElem? (i := 230) rfl)), (zt1_7 (List.mem_of_getElem? (i := 69) rfl)), (zt1_7 (List.mem_of_getElem? (i := 70) rfl))⟩
theorem lw_p74 : lw_okq (⟨"TurnedPostsModel", "setsWay", "(I)V"⟩, 43) := ⟨⟨by decide +kernel, by decide +kernel⟩, (zt1_5 (List.mem_of_getElem? (i := 230) rfl)), (zt1_7 (List.mem_of_getElem? (i := 73) rfl)), (zt1_7 (List.mem_of_getElem? (i := 74) rfl))⟩
theorem lw_p75 : lw_okq (⟨"TurnedPostsModel", "unlikeTold", "()I"⟩, 43) := ⟨⟨by decide +kernel, by decide +kernel⟩, (zt1_5 (List.mem_of_getElem? (i := 230) rfl)), (zt1_7 (List.mem_of_getElem? (i := 77) rfl)), (zt1_7 (List.mem_of_getElem? (i := 78) rfl))⟩
theorem lw_p76 : lw_okq (⟨"TurnedPostsModel", "ledTo", "(II)I"⟩, 43) := ⟨⟨by decide +kernel, by decide +kernel⟩, (zt1_5 (List.mem_of_getElem? (i := 230) rfl)), (zt1_7 (List.mem_of_getElem? (i := 102) rfl)), (zt1_7 (List.mem_of_getElem? (i := 103) rfl))⟩
theorem lw_p77 : lw_okq (⟨"TurnedPostsModel", "gameBy", "(III)I"⟩, 43) := ⟨⟨by decide +kernel, by decide +kernel⟩, (zt1_5 (List.mem_of_getElem? (i := 230) rfl)), (zt1_7 (List.mem_of_getElem? (i := 110) rfl)), (zt1_7 (List.mem_of_getElem? (i := 111) rfl))⟩
theorem lw_p78 : lw_okq (⟨"TurnedPostsModel", "laysFar", "()V"⟩, 43) := ⟨⟨by decide +kernel, by decide +kernel⟩, (zt1_5 (List.mem_of_getElem? (i := 230) rfl)), (zt1_7 (List.mem_of_getElem? (i := 118) rfl)), (zt1_7 (List.mem_of_getElem? (i := 119) rfl))⟩
theorem lw_p79 : lw_okq (⟨"TurnedPostsModel", "roads5", "(I)I"⟩, 43) := ⟨⟨by decide +kernel, by decide +kernel⟩, (zt1_5 (List.mem_of_getElem? (i := 230) rfl)), (zt1_7 (List.mem_of_getElem? (i := 122) rfl)), (zt1_7 (List.mem_of_getElem? (i := 123) rfl))⟩
def lw_privs_5 : List (MethodName × Nat) := [(⟨"TurnedPostsModel", "leadsTo", "(II)I"⟩, 43), (⟨"TurnedPostsModel", "walks", "(I)Z"⟩, 43), (⟨"TurnedPostsModel", "puts", "(I)V"⟩, 43), (⟨"TurnedPostsModel", "stepsOn", "()Z"⟩, 43), (⟨"TurnedPostsModel", "isInn", "(I)Z"⟩, 43), (⟨"TurnedPostsModel", "turns", "(I)Z"⟩, 43), (⟨"TurnedPostsModel", "postsNow", "()I"⟩, 43), (⟨"TurnedPostsModel", "setBy", "(II)I"⟩, 43), (⟨"TurnedPostsModel", "waysMany", "()I"⟩, 43), (⟨"TurnedPostsModel", "isFree", "(I)Z"⟩, 43), (⟨"TurnedPostsModel", "setsWay", "(I)V"⟩, 43), (⟨"TurnedPostsModel", "unlikeTold", "()I"⟩, 43), (⟨"TurnedPostsModel", "ledTo", "(II)I"⟩, 43), (⟨"TurnedPostsModel", "gameBy", "(III)I"⟩, 43), (⟨"TurnedPostsModel", "laysFar", "()V"⟩, 43), (⟨"TurnedPostsModel", "roads5", "(I)I"⟩, 43)]
theorem lw_r5 : ∀ q ∈ lw_privs_5, lw_okq q := List.forall_mem_cons.mpr ⟨lw_p64, List.forall_mem_cons.mpr ⟨lw_p65, List.forall_mem_cons.mpr ⟨lw_p66, List.forall_mem_cons.mpr ⟨lw_p67, List.forall_mem_cons.mpr ⟨lw_p68, List.forall_mem_cons.mpr ⟨lw_p69, List.forall_mem_cons.mpr ⟨lw_p70, List.forall_mem_cons.mpr ⟨lw_p71, List.forall_mem_cons.mpr ⟨lw_p72, List.forall_mem_cons.mpr ⟨lw_p73, List.forall_mem_cons.mpr ⟨lw_p74, List.forall_mem_cons.mpr ⟨lw_p75, List.forall_mem_cons.mpr ⟨lw_p76, List.forall_mem_cons.mpr ⟨lw_p77, List.forall_mem_cons.mpr ⟨lw_p78, List.forall_mem_cons.mpr ⟨lw_p79, fun _ h => absurd h List.not_mem_nil⟩⟩⟩⟩⟩⟩⟩⟩⟩⟩⟩⟩⟩⟩⟩⟩
theorem lw_p80 : lw_okq (⟨"TurnedPostsModel", "reachOf", "(I)I"⟩, 43) := ⟨⟨by decide +kernel, by decide +kernel⟩, (zt1_5 (List.mem_of_getElem? (i := 230) rfl)), (zt1_7 (List.mem_of_getElem? (i := 130) rfl)), (zt1_7 (List.mem_of_getElem? (i := 131) rfl))⟩
theorem lw_p81 : lw_okq (⟨"TurnedPostsModel", "classesOf", "(Z)I"⟩, 43) := ⟨⟨by decide +kernel, by decide +kernel⟩, (zt1_5 (List.mem_of_getElem? (i := 230) rfl)), (zt1_7 (List.mem_of_getElem? (i := 138) rfl)), (zt1_7 (List.mem_of_getElem? (i := 139) rfl))⟩
theorem lw_p82 : lw_okq (⟨"TurnedPostsModel", "classOf", "(I)I"⟩, 43) := ⟨⟨by decide +kernel, by decide +kernel⟩, (zt1_5 (List.mem_of_getElem? (i := 230) rfl)), (zt1_7 (List.mem_of_getElem? (i := 142) rfl)), (zt1_7 (List.mem_of_getElem? (i := 143) rfl))⟩
theorem lw_p83 : lw_okq (⟨"TurnedPostsModel", "crossingsOf", "(I)I"⟩, 43) := ⟨⟨by decide +kernel, by decide +kernel⟩, (zt1_5 (List.mem_of_getElem? (i := 230) rfl)), (zt1_7 (List.mem_of_getElem? (i := 146) rfl)), (zt1_7 (List.mem_of_getElem? (i := 147) rfl))⟩
theorem lw_p84 : lw_okq (⟨"TurnedPostsModel", "leadHere", "(IZ)I"⟩, 43) := ⟨⟨by decide +kernel, by decide +kernel⟩, (zt1_5 (List.mem_of_getElem? (i := 230) rfl)), (zt1_7 (List.mem_of_getElem? (i := 150) rfl)), (zt1_7 (List.mem_of_getElem? (i := 151) rfl))⟩
theorem lw_p85 : lw_okq (⟨"TurnedPostsModel", "loops", "(Z)I"⟩, 43) := ⟨⟨by decide +kernel, by decide +kernel⟩, (zt1_5 (List.mem_of_getElem? (i := 230) rfl)), (zt1_7 (List.mem_of_getElem? (i := 154) rfl)), (zt1_7 (List.mem_of_getElem? (i := 155) rfl))⟩
theorem lw_p86 : lw_okq (⟨"TurnedPostsModel", "busyOf", "()I"⟩, 43) := ⟨⟨by decide +kernel, by decide +kernel⟩, (zt1_5 (List.mem_of_getElem? (i := 230) rfl)), (zt1_7 (List.mem_of_getElem? (i := 158) rfl)), (zt1_7 (List.mem_of_getElem? (i := 159) rfl))⟩
theorem lw_p87 : lw_okq (⟨"TurnedPostsModel", "walksFar", "(I)V"⟩, 43) := ⟨⟨by decide +kernel, by decide +kernel⟩, (zt1_5 (List.mem_of_getElem? (i := 230) rfl)), (zt1_7 (List.mem_of_getElem? (i := 170) rfl)), (zt1_7 (List.mem_of_getElem? (i := 171) rfl))⟩
theorem lw_p88 : lw_okq (⟨"TurnedPostsModel", "unusedOf", "(I)I"⟩, 43) := ⟨⟨by decide +kernel, by decide +kernel⟩, (zt1_5 (List.mem_of_getElem? (i := 230) rfl)), (zt1_7 (List.mem_of_getElem? (i := 174) rfl)), (zt1_7 (List.mem_of_getElem? (i := 175) rfl))⟩
theorem lw_p89 : lw_okq (⟨"TurnedPostsModel", "roundOf", "()I"⟩, 43) := ⟨⟨by decide +kernel, by decide +kernel⟩, (zt1_5 (List.mem_of_getElem? (i := 230) rfl)), (zt1_7 (List.mem_of_getElem? (i := 178) rfl)), (zt1_7 (List.mem_of_getElem? (i := 179) rfl))⟩
theorem lw_p90 : lw_okq (⟨"TurnedPostsModel", "numberOf", "(I)I"⟩, 43) := ⟨⟨by decide +kernel, by decide +kernel⟩, (zt1_5 (List.mem_of_getElem? (i := 230) rfl)), (zt1_7 (List.mem_of_getElem? (i := 186) rfl)), (zt1_7 (List.mem_of_getElem? (i := 187) rfl))⟩
theorem lw_p91 : lw_okq (⟨"TurnedPostsModel", "isDay", "(I)Z"⟩, 43) := ⟨⟨by decide +kernel, by decide +kernel⟩, (zt1_5 (List.mem_of_getElem? (i := 230) rfl)), (zt1_7 (List.mem_of_getElem? (i := 202) rfl)), (zt1_7 (List.mem_of_getElem? (i := 203) rfl))⟩
theorem lw_p92 : lw_okq (⟨"TurnedPostsModel", "runs", "(I)V"⟩, 43) := ⟨⟨by decide +kernel, by decide +kernel⟩, (zt1_5 (List.mem_of_getElem? (i := 230) rfl)), (zt1_7 (List.mem_of_getElem? (i := 210) rfl)), (zt1_7 (List.mem_of_getElem? (i := 211) rfl))⟩
theorem lw_p93 : lw_okq (⟨"TurnedPostsModel", "beginsDay", "()V"⟩, 43) := ⟨⟨by decide +kernel, by decide +kernel⟩, (zt1_5 (List.mem_of_getElem? (i := 230) rfl)), (zt1_7 (List.mem_of_getElem? (i := 214) rfl)), (zt1_7 (List.mem_of_getElem? (i := 215) rfl))⟩
theorem lw_p94 : lw_okq (⟨"TurnedPostsModel", "looks", "()V"⟩, 43) := ⟨⟨by decide +kernel, by decide +kernel⟩, (zt1_5 (List.mem_of_getElem? (i := 230) rfl)), (zt1_7 (List.mem_of_getElem? (i := 218) rfl)), (zt1_7 (List.mem_of_getElem? (i := 219) rfl))⟩
theorem lw_p95 : lw_okq (⟨"TurnedPostsModel", "does", "(III)Z"⟩, 43) := ⟨⟨by decide +kernel, by decide +kernel⟩, (zt1_5 (List.mem_of_getElem? (i := 230) rfl)), (zt1_7 (List.mem_of_getElem? (i := 222) rfl)), (zt1_7 (List.mem_of_getElem? (i := 223) rfl))⟩
def lw_privs_6 : List (MethodName × Nat) := [(⟨"TurnedPostsModel", "reachOf", "(I)I"⟩, 43), (⟨"TurnedPostsModel", "classesOf", "(Z)I"⟩, 43), (⟨"TurnedPostsModel", "classOf", "(I)I"⟩, 43), (⟨"TurnedPostsModel", "crossingsOf", "(I)I"⟩, 43), (⟨"TurnedPostsModel", "leadHere", "(IZ)I"⟩, 43), (⟨"TurnedPostsModel", "loops", "(Z)I"⟩, 43), (⟨"TurnedPostsModel", "busyOf", "()I"⟩, 43), (⟨"TurnedPostsModel", "walksFar", "(I)V"⟩, 43), (⟨"TurnedPostsModel", "unusedOf", "(I)I"⟩, 43), (⟨"TurnedPostsModel", "roundOf", "()I"⟩, 43), (⟨"TurnedPostsModel", "numberOf", "(I)I"⟩, 43), (⟨"TurnedPostsModel", "isDay", "(I)Z"⟩, 43), (⟨"TurnedPostsModel", "runs", "(I)V"⟩, 43), (⟨"TurnedPostsModel", "beginsDay", "()V"⟩, 43), (⟨"TurnedPostsModel", "looks", "()V"⟩, 43), (⟨"TurnedPostsModel", "does", "(III)Z"⟩, 43)]
theorem lw_r6 : ∀ q ∈ lw_privs_6, lw_okq q := List.forall_mem_cons.mpr ⟨lw_p80, List.forall_mem_cons.mpr ⟨lw_p81, List.forall_mem_cons.mpr ⟨lw_p82, List.forall_mem_cons.mpr ⟨lw_p83, List.forall_mem_cons.mpr ⟨lw_p84, List.forall_mem_cons.mpr ⟨lw_p85, List.forall_mem_cons.mpr ⟨lw_p86, List.forall_mem_cons.mpr ⟨lw_p87, List.forall_mem_cons.mpr ⟨lw_p88, List.forall_mem_cons.mpr ⟨lw_p89, List.forall_mem_cons.mpr ⟨lw_p90, List.forall_mem_cons.mpr ⟨lw_p91, List.forall_mem_cons.mpr ⟨lw_p92, List.forall_mem_cons.mpr ⟨lw_p93, List.forall_mem_cons.mpr ⟨lw_p94, List.forall_mem_cons.mpr ⟨lw_p95, fun _ h => absurd h List.not_mem_nil⟩⟩⟩⟩⟩⟩⟩⟩⟩⟩⟩⟩⟩⟩⟩⟩
theorem lw_p96 : lw_okq (⟨"TurnedPostsModel", "goes", "(I)Z"⟩, 43) := ⟨⟨by decide +kernel, by decide +kernel⟩, (zt1_5 (List.mem_of_getElem? (i := 230) rfl)), (zt1_7 (List.mem_of_getElem? (i := 226) rfl)), (zt1_7 (List.mem_of_getElem? (i := 227) rfl))⟩
theorem lw_p97 : lw_okq (⟨"TurnedPostsModel", "goesFrom", "(I)V"⟩, 43) := ⟨⟨by decide +kernel, by decide +kernel⟩, (zt1_5 (List.mem_of_getElem? (i := 230) rfl)), (zt1_7 (List.mem_of_getElem? (i := 230) rfl)), (zt1_7 (List.mem_of_getElem? (i := 231) rfl))⟩
theorem lw_p98 : lw_okq (⟨"TurnedPostsModel", "runs0", "(I)Z"⟩, 43) := ⟨⟨by decide +kernel, by decide +kernel⟩, (zt1_5 (List.mem_of_getElem? (i := 230) rfl)), (zt1_7 (List.mem_of_getElem? (i := 234) rfl)), (zt1_7 (List.mem_of_getElem? (i := 235) rfl))⟩
theorem lw_p99 : lw_okq (⟨"TurnedPostsModel", "adds", "(I)Z"⟩, 43) := ⟨⟨by decide +kernel, by decide +kernel⟩, (zt1_5 (List.mem_of_getElem? (i := 230) rfl)), (zt1_7 (List.mem_of_getElem? (i := 238) rfl)), (zt1_7 (List.mem_of_getElem? (i := 239) rfl))⟩
theorem lw_p100 : lw_okq (⟨"TurnedPostsModel", "shuts", "(IIZ)Z"⟩, 43) := ⟨⟨by decide +kernel, by decide +kernel⟩, (zt1_5 (List.mem_of_getElem? (i := 230) rfl)), (zt1_8 (List.mem_of_getElem? (i := 2) rfl)), (zt1_8 (List.mem_of_getElem? (i := 3) rfl))⟩
theorem lw_p101 : lw_okq (⟨"TurnedPostsModel", "nowOf", "(I)I"⟩, 43) := ⟨⟨by decide +kernel, by decide +kernel⟩, (zt1_5 (List.mem_of_getElem? (i := 230) rfl)), (zt1_8 (List.mem_of_getElem? (i := 10) rfl)), (zt1_8 (List.mem_of_getElem? (i := 11) rfl))⟩
theorem lw_p102 : lw_okq (⟨"TurnedPostsModel", "walkersOf", "(Z)I"⟩, 43) := ⟨⟨by decide +kernel, by decide +kernel⟩, (zt1_5 (List.mem_of_getElem? (i := 230) rfl)), (zt1_8 (List.mem_of_getElem? (i := 14) rfl)), (zt1_8 (List.mem_of_getElem? (i := 15) rfl))⟩
theorem lw_p103 : lw_okq (⟨"TurnedPostsModel", "elsewhere", "()I"⟩, 43) := ⟨⟨by decide +kernel, by decide +kernel⟩, (zt1_5 (List.mem_of_getElem? (i := 230) rfl)), (zt1_8 (List.mem_of_getElem? (i := 22) rfl)), (zt1_8 (List.mem_of_getElem? (i := 23) rfl))⟩
theorem lw_p104 : lw_okq (⟨"TurnedPostsModel", "isLog", "(I)Z"⟩, 43) := ⟨⟨by decide +kernel, by decide +kernel⟩, (zt1_5 (List.mem_of_getElem? (i := 230) rfl)), (zt1_8 (List.mem_of_getElem? (i := 30) rfl)), (zt1_8 (List.mem_of_getElem? (i := 31) rfl))⟩
theorem lw_p105 : lw_okq (⟨"TurnedPostsModel", "laysFits", "(IZ)I"⟩, 43) := ⟨⟨by decide +kernel, by decide +kernel⟩, (zt1_5 (List.mem_of_getElem? (i := 230) rfl)), (zt1_8 (List.mem_of_getElem? (i := 38) rfl)), (zt1_8 (List.mem_of_getElem? (i := 39) rfl))⟩
theorem lw_p106 : lw_okq (⟨"TurnedPostsModel", "laysNoFits", "()V"⟩, 43) := ⟨⟨by decide +kernel, by decide +kernel⟩, (zt1_5 (List.mem_of_getElem? (i := 230) rfl)), (zt1_8 (List.mem_of_getElem? (i := 42) rfl)), (zt1_8 (List.mem_of_getElem? (i := 43) rfl))⟩
theorem lw_p107 : lw_okq (⟨"TurnedPostsModel", "isSo", "()Z"⟩, 43) := ⟨⟨by decide +kernel, by decide +kernel⟩, (zt1_5 (List.mem_of_getElem? (i := 230) rfl)), (zt1_8 (List.mem_of_getElem? (i := 46) rfl)), (zt1_8 (List.mem_of_getElem? (i := 47) rfl))⟩
theorem lw_p108 : lw_okq (⟨"TurnedPostsModel", "laysEnds", "()V"⟩, 43) := ⟨⟨by decide +kernel, by decide +kernel⟩, (zt1_5 (List.mem_of_getElem? (i := 230) rfl)), (zt1_8 (List.mem_of_getElem? (i := 50) rfl)), (zt1_8 (List.mem_of_getElem? (i := 51) rfl))⟩
theorem lw_p109 : lw_okq (⟨"TurnedPostsModel", "askOf", "()I"⟩, 43) := ⟨⟨by decide +kernel, by decide +kernel⟩, (zt1_5 (List.mem_of_getElem? (i := 230) rfl)), (zt1_8 (List.mem_of_getElem? (i := 54) rfl)), (zt1_8 (List.mem_of_getElem? (i := 55) rfl))⟩
theorem lw_p110 : lw_okq (⟨"TurnedPostsModel", "sureOf", "(I)I"⟩, 43) := ⟨⟨by decide +kernel, by decide +kernel⟩, (zt1_5 (List.mem_of_getElem? (i := 230) rfl)), (zt1_8 (List.mem_of_getElem? (i := 59) rfl)), (zt1_8 (List.mem_of_getElem? (i := 60) rfl))⟩
theorem lw_p111 : lw_okq (⟨"TurnedPostsModel", "draws", "()V"⟩, 43) := ⟨⟨by decide +kernel, by decide +kernel⟩, (zt1_5 (List.mem_of_getElem? (i := 230) rfl)), (zt1_8 (List.mem_of_getElem? (i := 75) rfl)), (zt1_8 (List.mem_of_getElem? (i := 76) rfl))⟩
def lw_privs_7 : List (MethodName × Nat) := [(⟨"TurnedPostsModel", "goes", "(I)Z"⟩, 43), (⟨"TurnedPostsModel", "goesFrom", "(I)V"⟩, 43), (⟨"TurnedPostsModel", "runs0", "(I)Z"⟩, 43), (⟨"TurnedPostsModel", "adds", "(I)Z"⟩, 43), (⟨"TurnedPostsModel", "shuts", "(IIZ)Z"⟩, 43), (⟨"TurnedPostsModel", "nowOf", "(I)I"⟩, 43), (⟨"TurnedPostsModel", "walkersOf", "(Z)I"⟩, 43), (⟨"TurnedPostsModel", "elsewhere", "()I"⟩, 43), (⟨"TurnedPostsModel", "isLog", "(I)Z"⟩, 43), (⟨"TurnedPostsModel", "laysFits", "(IZ)I"⟩, 43), (⟨"TurnedPostsModel", "laysNoFits", "()V"⟩, 43), (⟨"TurnedPostsModel", "isSo", "()Z"⟩, 43), (⟨"TurnedPostsModel", "laysEnds", "()V"⟩, 43), (⟨"TurnedPostsModel", "askOf", "()I"⟩, 43), (⟨"TurnedPostsModel", "sureOf", "(I)I"⟩, 43), (⟨"TurnedPostsModel", "draws", "()V"⟩, 43)]
theorem lw_r7 : ∀ q ∈ lw_privs_7, lw_okq q := List.forall_mem_cons.mpr ⟨lw_p96, List.forall_mem_cons.mpr ⟨lw_p97, List.forall_mem_cons.mpr ⟨lw_p98, List.forall_mem_cons.mpr ⟨lw_p99, List.forall_mem_cons.mpr ⟨lw_p100, List.forall_mem_cons.mpr ⟨lw_p101, List.forall_mem_cons.mpr ⟨lw_p102, List.forall_mem_cons.mpr ⟨lw_p103, List.forall_mem_cons.mpr ⟨lw_p104, List.forall_mem_cons.mpr ⟨lw_p105, List.forall_mem_cons.mpr ⟨lw_p106, List.forall_mem_cons.mpr ⟨lw_p107, List.forall_mem_cons.mpr ⟨lw_p108, List.forall_mem_cons.mpr ⟨lw_p109, List.forall_mem_cons.mpr ⟨lw_p110, List.forall_mem_cons.mpr ⟨lw_p111, fun _ h => absurd h List.not_mem_nil⟩⟩⟩⟩⟩⟩⟩⟩⟩⟩⟩⟩⟩⟩⟩⟩
theorem lw_p112 : lw_okq (⟨"TurnedPostsModel", "below", "(I)I"⟩, 43) := ⟨⟨by decide +kernel, by decide +kernel⟩, (zt1_5 (List.mem_of_getElem? (i := 230) rfl)), (zt1_8 (List.mem_of_getElem? (i := 79) rfl)), (zt1_8 (List.mem_of_getElem? (i := 80) rfl))⟩
def lw_privs_8 : List (MethodName × Nat) := [(⟨"TurnedPostsModel", "below", "(I)I"⟩, 43)]
theorem lw_r8 : ∀ q ∈ lw_privs_8, lw_okq q := List.forall_mem_cons.mpr ⟨lw_p112, fun _ h => absurd h List.not_mem_nil⟩
def lw_privs : List (MethodName × Nat) := lw_privs_1 ++ (lw_privs_2 ++ (lw_privs_3 ++ (lw_privs_4 ++ (lw_privs_5 ++ (lw_privs_6 ++ (lw_privs_7 ++ (lw_privs_8)))))))
def lw_tbl : List Cond := k2_sels lw_privs ++ tables_1
theorem lw_privs_ok : ∀ q ∈ lw_privs, lw_okq q := by
  show ∀ q ∈ lw_privs_1 ++ (lw_privs_2 ++ (lw_privs_3 ++ (lw_privs_4 ++ (lw_privs_5 ++ (lw_privs_6 ++ (lw_privs_7 ++ (lw_privs_8))))))), lw_okq q
  exact List.forall_mem_append.mpr ⟨lw_r1, List.forall_mem_append.mpr ⟨lw_r2, List.forall_mem_append.mpr ⟨lw_r3, List.forall_mem_append.mpr ⟨lw_r4, List.forall_mem_append.mpr ⟨lw_r5, List.forall_mem_append.mpr ⟨lw_r6, List.forall_mem_append.mpr ⟨lw_r7, lw_r8⟩⟩⟩⟩⟩⟩⟩
def RX0 : String := "TurnedPosts$AllWays"
def TX0 : u_T := fun k => match k with
  | 0 => ("TurnedPosts$AllWays", "made", "Z", false)
  | 1 => ("TurnedPosts$AllWays", "ways", "I", false)
  | 2 => ("TurnedPosts$AllWays", "land", "LTurnedPosts$Land;", false)
  | 3 => ("TurnedPosts$AllWays", "places", "I", false)
  | 4 => ("TurnedPosts$AllWays", "choices", "[I", true)
  | 5 => ("TurnedPosts$AllWays", "weight", "[I", true)
  | 6 => ("TurnedPosts$AllWays", "row", "[I", true)
  | 7 => ("TurnedPosts$AllWays", "once", "[I", false)
  | 8 => ("TurnedPosts$AllWays", "ends", "[I", false)
  | _ => ("TurnedPosts$AllWays", "spare", "[I", false)
def tyX0 : Nat → FieldType := fun k => match k with
  | 0 => .boolean
  | 1 => .int
  | 2 => .object "TurnedPosts$Land"
  | 3 => .int
  | 4 => .array .int
  | 5 => .array .int
  | 6 => .array .int
  | 7 => .array .int
  | 8 => .array .int
  | _ => .array .int
theorem nmX0 : ∀ a, a < 10 → ∀ b, b < 10 → a ≠ b → (TX0 a).2.1 ≠ (TX0 b).2.1 := by decide +kernel
theorem tyX0_ok : ∀ k, k < 10 → parseFieldDescriptor (TX0 k).2.2.1 = some (tyX0 k) := by decide +kernel
abbrev cX0_init : ByteArray := prog_2_method_1_code
def yX0_init : MethodName := ⟨RX0, "<init>", "()V"⟩
abbrev cX0_make : ByteArray := prog_2_method_2_code
def yX0_make : MethodName := ⟨RX0, "make", "(LTurnedPosts$Land;)V"⟩
abbrev cX0_countWays : ByteArray := prog_2_method_3_code
def yX0_countWays : MethodName := ⟨RX0, "countWays", "(LTurnedPosts$Land;)V"⟩
abbrev cX0_grow : ByteArray := prog_2_method_4_code
def yX0_grow : MethodName := ⟨RX0, "grow", "()V"⟩
abbrev cX0_stepOnce : ByteArray := prog_2_method_5_code
def yX0_stepOnce : MethodName := ⟨RX0, "stepOnce", "()V"⟩
abbrev cX0_place : ByteArray := prog_2_method_6_code
def yX0_place : MethodName := ⟨RX0, "place", "(II)I"⟩
abbrev cX0_doubleAll : ByteArray := prog_2_method_7_code
def yX0_doubleAll : MethodName := ⟨RX0, "doubleAll", "()V"⟩
abbrev cX0_oneMore : ByteArray := prog_2_method_8_code
def yX0_oneMore : MethodName := ⟨RX0, "oneMore", "()V"⟩
abbrev cX0_entry : ByteArray := prog_2_method_9_code
def yX0_entry : MethodName := ⟨RX0, "entry", "(II)I"⟩
abbrev cX0_where : ByteArray := prog_2_method_10_code
def yX0_where : MethodName := ⟨RX0, "where", "(II)I"⟩
abbrev cX0_steps : ByteArray := prog_2_method_11_code
def yX0_steps : MethodName := ⟨RX0, "steps", "(II)I"⟩
abbrev cX0_wayAfter : ByteArray := prog_2_method_12_code
def yX0_wayAfter : MethodName := ⟨RX0, "wayAfter", "(II)I"⟩
abbrev cX0_stepsOrNever : ByteArray := prog_2_method_13_code
def yX0_stepsOrNever : MethodName := ⟨RX0, "stepsOrNever", "(II)I"⟩
abbrev cX0_road : ByteArray := prog_2_method_14_code
def yX0_road : MethodName := ⟨RX0, "road", "(II)I"⟩
abbrev cX0_turned : ByteArray := prog_2_method_15_code
def yX0_turned : MethodName := ⟨RX0, "turned", "(II)I"⟩
abbrev cX0_wayTold : ByteArray := prog_2_method_16_code
def yX0_wayTold : MethodName := ⟨RX0, "wayTold", "()I"⟩
abbrev cX0_number : ByteArray := prog_2_method_17_code
def yX0_number : MethodName := ⟨RX0, "number", "(I)I"⟩
abbrev cX0_unlike : ByteArray := prog_2_method_18_code
def yX0_unlike : MethodName := ⟨RX0, "unlike", "(II)I"⟩
abbrev cX0_nearestWay : ByteArray := prog_2_method_19_code
def yX0_nearestWay : MethodName := ⟨RX0, "nearestWay", "(II)I"⟩
abbrev cX0_treesOf : ByteArray := prog_2_method_20_code
def yX0_treesOf : MethodName := ⟨RX0, "treesOf", "(LTurnedPosts$Land;)I"⟩
abbrev cX0_nextRow : ByteArray := prog_2_method_21_code
def yX0_nextRow : MethodName := ⟨RX0, "nextRow", "()V"⟩
abbrev cX0_allComeByRow : ByteArray := prog_2_method_22_code
def yX0_allComeByRow : MethodName := ⟨RX0, "allComeByRow", "()Z"⟩
abbrev cX0_comesByRow : ByteArray := prog_2_method_23_code
def yX0_comesByRow : MethodName := ⟨RX0, "comesByRow", "(I)Z"⟩
def RX1 : String := "TurnedPosts$Course"
def TX1 : u_T := fun k => match k with
  | 0 => ("TurnedPosts$Course", "posts", "LTurnedPosts$Posts;", true)
  | 1 => ("TurnedPosts$Course", "walkers", "[I", true)
  | 2 => ("TurnedPosts$Course", "steps", "I", false)
  | 3 => ("TurnedPosts$Course", "land", "LTurnedPosts$Land;", false)
  | 4 => ("TurnedPosts$Course", "never", "I", false)
  | 5 => ("TurnedPosts$Course", "done", "I", false)
  | 6 => ("TurnedPosts$Course", "firstCame", "I", false)
  | 7 => ("TurnedPosts$Course", "longestRun", "I", false)
  | 8 => ("TurnedPosts$Course", "moved", "I", false)
  | 9 => ("TurnedPosts$Course", "crowd", "I", false)
  | _ => ("TurnedPosts$Course", "seed", "I", false)
def tyX1 : Nat → FieldType := fun k => match k with
  | 0 => .object "TurnedPosts$Posts"
  | 1 => .array .int
  | 2 => .int
  | 3 => .object "TurnedPosts$Land"
  | 4 => .int
  | 5 => .int
  | 6 => .int
  | 7 => .int
  | 8 => .int
  | 9 => .int
  | _ => .int
theorem nmX1 : ∀ a, a < 11 → ∀ b, b < 11 → a ≠ b → (TX1 a).2.1 ≠ (TX1 b).2.1 := by decide +kernel
theorem tyX1_ok : ∀ k, k < 11 → parseFieldDescriptor (TX1 k).2.2.1 = some (tyX1 k) := by decide +kernel
abbrev cX1_init : ByteArray := prog_3_method_1_code
def yX1_init : MethodName := ⟨RX1, "<init>", "()V"⟩
abbrev cX1_begin : ByteArray := prog_3_method_2_code
def yX1_begin : MethodName := ⟨RX1, "begin", "(LTurnedPosts$Land;)V"⟩
abbrev cX1_goThrough : ByteArray := prog_3_method_3_code
def yX1_goThrough : MethodName := ⟨RX1, "goThrough", "(LTurnedPosts$Land;LTurnedPosts$Day;I)I"⟩
abbrev cX1_draw : ByteArray := prog_3_method_4_code
def yX1_draw : MethodName := ⟨RX1, "draw", "(LTurnedPosts$Land;II)V"⟩
abbrev cX1_drawBelow : ByteArray := prog_3_method_5_code
def yX1_drawBelow : MethodName := ⟨RX1, "drawBelow", "(I)I"⟩
abbrev cX1_goAll : ByteArray := prog_3_method_6_code
def yX1_goAll : MethodName := ⟨RX1, "goAll", "(LTurnedPosts$Land;)V"⟩
abbrev cX1_does : ByteArray := prog_3_method_7_code
def yX1_does : MethodName := ⟨RX1, "does", "(III)Z"⟩
abbrev cX1_go : ByteArray := prog_3_method_8_code
def yX1_go : MethodName := ⟨RX1, "go", "(I)Z"⟩
abbrev cX1_run : ByteArray := prog_3_method_9_code
def yX1_run : MethodName := ⟨RX1, "run", "(I)Z"⟩
abbrev cX1_move : ByteArray := prog_3_method_10_code
def yX1_move : MethodName := ⟨RX1, "move", "(II)V"⟩
abbrev cX1_add : ByteArray := prog_3_method_11_code
def yX1_add : MethodName := ⟨RX1, "add", "(I)Z"⟩
abbrev cX1_shut : ByteArray := prog_3_method_12_code
def yX1_shut : MethodName := ⟨RX1, "shut", "(II)Z"⟩
abbrev cX1_open : ByteArray := prog_3_method_13_code
def yX1_open : MethodName := ⟨RX1, "open", "(II)Z"⟩
abbrev cX1_lookAtCrowd : ByteArray := prog_3_method_14_code
def yX1_lookAtCrowd : MethodName := ⟨RX1, "lookAtCrowd", "()V"⟩
abbrev cX1_walkersInAll : ByteArray := prog_3_method_15_code
def yX1_walkersInAll : MethodName := ⟨RX1, "walkersInAll", "(Z)I"⟩
abbrev cX1_told : ByteArray := prog_3_method_16_code
def yX1_told : MethodName := ⟨RX1, "told", "(I)I"⟩
abbrev cX1_toldAfter : ByteArray := prog_3_method_17_code
def yX1_toldAfter : MethodName := ⟨RX1, "toldAfter", "(I)I"⟩
abbrev cX1_unlikeTold : ByteArray := prog_3_method_18_code
def yX1_unlikeTold : MethodName := ⟨RX1, "unlikeTold", "()I"⟩
def RX2 : String := "TurnedPosts$Day"
def TX2 : u_T := fun k => match k with
  | 0 => ("TurnedPosts$Day", "deeds", "I", false)
  | 1 => ("TurnedPosts$Day", "kind", "[I", true)
  | 2 => ("TurnedPosts$Day", "crossing", "[I", true)
  | _ => ("TurnedPosts$Day", "road", "[I", true)
def tyX2 : Nat → FieldType := fun k => match k with
  | 0 => .int
  | 1 => .array .int
  | 2 => .array .int
  | _ => .array .int
theorem nmX2 : ∀ a, a < 4 → ∀ b, b < 4 → a ≠ b → (TX2 a).2.1 ≠ (TX2 b).2.1 := by decide +kernel
theorem tyX2_ok : ∀ k, k < 4 → parseFieldDescriptor (TX2 k).2.2.1 = some (tyX2 k) := by decide +kernel
abbrev cX2_init : ByteArray := prog_4_method_1_code
def yX2_init : MethodName := ⟨RX2, "<init>", "()V"⟩
abbrev cX2_takeAll : ByteArray := prog_4_method_2_code
def yX2_takeAll : MethodName := ⟨RX2, "takeAll", "(LTurnedPosts$Day;)V"⟩
abbrev cX2_add : ByteArray := prog_4_method_3_code
def yX2_add : MethodName := ⟨RX2, "add", "(III)V"⟩
abbrev cX2_told : ByteArray := prog_4_method_4_code
def yX2_told : MethodName := ⟨RX2, "told", "(II)I"⟩
def RX3 : String := "TurnedPosts$Fitting"
def TX3 : u_T := fun k => match k with
  | 0 => ("TurnedPosts$Fitting", "made", "Z", false)
  | 1 => ("TurnedPosts$Fitting", "land", "I", false)
  | 2 => ("TurnedPosts$Fitting", "log", "I", false)
  | 3 => ("TurnedPosts$Fitting", "found", "I", false)
  | 4 => ("TurnedPosts$Fitting", "least", "I", false)
  | 5 => ("TurnedPosts$Fitting", "most", "I", false)
  | 6 => ("TurnedPosts$Fitting", "rows", "[I", false)
  | _ => ("TurnedPosts$Fitting", "places", "[I", true)
def tyX3 : Nat → FieldType := fun k => match k with
  | 0 => .boolean
  | 1 => .int
  | 2 => .int
  | 3 => .int
  | 4 => .int
  | 5 => .int
  | 6 => .array .int
  | _ => .array .int
theorem nmX3 : ∀ a, a < 8 → ∀ b, b < 8 → a ≠ b → (TX3 a).2.1 ≠ (TX3 b).2.1 := by decide +kernel
theorem tyX3_ok : ∀ k, k < 8 → parseFieldDescriptor (TX3 k).2.2.1 = some (tyX3 k) := by decide +kernel
abbrev cX3_init : ByteArray := prog_5_method_1_code
def yX3_init : MethodName := ⟨RX3, "<init>", "()V"⟩
abbrev cX3_find : ByteArray := prog_5_method_2_code
def yX3_find : MethodName := ⟨RX3, "find", "(LTurnedPosts$AllWays;LTurnedPosts$Log;)V"⟩
abbrev cX3_grow : ByteArray := prog_5_method_3_code
def yX3_grow : MethodName := ⟨RX3, "grow", "(I)V"⟩
abbrev cX3_tryWay : ByteArray := prog_5_method_4_code
def yX3_tryWay : MethodName := ⟨RX3, "tryWay", "(LTurnedPosts$AllWays;LTurnedPosts$Log;I)V"⟩
abbrev cX3_isSo : ByteArray := prog_5_method_5_code
def yX3_isSo : MethodName := ⟨RX3, "isSo", "(LTurnedPosts$AllWays;III)Z"⟩
abbrev cX3_way : ByteArray := prog_5_method_6_code
def yX3_way : MethodName := ⟨RX3, "way", "(I)I"⟩
abbrev cX3_pointing : ByteArray := prog_5_method_7_code
def yX3_pointing : MethodName := ⟨RX3, "pointing", "(LTurnedPosts$AllWays;II)I"⟩
abbrev cX3_sure : ByteArray := prog_5_method_8_code
def yX3_sure : MethodName := ⟨RX3, "sure", "(LTurnedPosts$AllWays;I)I"⟩
abbrev cX3_ask : ByteArray := prog_5_method_9_code
def yX3_ask : MethodName := ⟨RX3, "ask", "(LTurnedPosts$AllWays;)I"⟩
abbrev cX3_mostTogether : ByteArray := prog_5_method_10_code
def yX3_mostTogether : MethodName := ⟨RX3, "mostTogether", "(LTurnedPosts$AllWays;I)I"⟩
def RX4 : String := "TurnedPosts$Land"
def TX4 : u_T := fun k => match k with
  | 0 => ("TurnedPosts$Land", "crossings", "I", false)
  | 1 => ("TurnedPosts$Land", "inns", "I", false)
  | 2 => ("TurnedPosts$Land", "roads", "[I", true)
  | 3 => ("TurnedPosts$Land", "leads", "[I", true)
  | 4 => ("TurnedPosts$Land", "post", "[I", true)
  | _ => ("TurnedPosts$Land", "walkers", "[I", true)
def tyX4 : Nat → FieldType := fun k => match k with
  | 0 => .int
  | 1 => .int
  | 2 => .array .int
  | 3 => .array .int
  | 4 => .array .int
  | _ => .array .int
theorem nmX4 : ∀ a, a < 6 → ∀ b, b < 6 → a ≠ b → (TX4 a).2.1 ≠ (TX4 b).2.1 := by decide +kernel
theorem tyX4_ok : ∀ k, k < 6 → parseFieldDescriptor (TX4 k).2.2.1 = some (tyX4 k) := by decide +kernel
abbrev cX4_init : ByteArray := prog_6_method_1_code
def yX4_init : MethodName := ⟨RX4, "<init>", "()V"⟩
abbrev cX4_clear : ByteArray := prog_6_method_2_code
def yX4_clear : MethodName := ⟨RX4, "clear", "()V"⟩
abbrev cX4_takeAll : ByteArray := prog_6_method_3_code
def yX4_takeAll : MethodName := ⟨RX4, "takeAll", "(LTurnedPosts$Land;)V"⟩
abbrev cX4_has : ByteArray := prog_6_method_4_code
def yX4_has : MethodName := ⟨RX4, "has", "(I)Z"⟩
abbrev cX4_isInn : ByteArray := prog_6_method_5_code
def yX4_isInn : MethodName := ⟨RX4, "isInn", "(I)Z"⟩
abbrev cX4_hasRoad : ByteArray := prog_6_method_6_code
def yX4_hasRoad : MethodName := ⟨RX4, "hasRoad", "(II)Z"⟩
abbrev cX4_waysOut : ByteArray := prog_6_method_7_code
def yX4_waysOut : MethodName := ⟨RX4, "waysOut", "(I)I"⟩
abbrev cX4_target : ByteArray := prog_6_method_8_code
def yX4_target : MethodName := ⟨RX4, "target", "(II)I"⟩
abbrev cX4_addRoad : ByteArray := prog_6_method_9_code
def yX4_addRoad : MethodName := ⟨RX4, "addRoad", "(II)V"⟩
abbrev cX4_told : ByteArray := prog_6_method_10_code
def yX4_told : MethodName := ⟨RX4, "told", "(I)I"⟩
def RX5 : String := "TurnedPosts$Log"
def TX5 : u_T := fun k => match k with
  | 0 => ("TurnedPosts$Log", "facts", "I", false)
  | 1 => ("TurnedPosts$Log", "crossing", "[I", true)
  | _ => ("TurnedPosts$Log", "inn", "[I", true)
def tyX5 : Nat → FieldType := fun k => match k with
  | 0 => .int
  | 1 => .array .int
  | _ => .array .int
theorem nmX5 : ∀ a, a < 3 → ∀ b, b < 3 → a ≠ b → (TX5 a).2.1 ≠ (TX5 b).2.1 := by decide +kernel
theorem tyX5_ok : ∀ k, k < 3 → parseFieldDescriptor (TX5 k).2.2.1 = some (tyX5 k) := by decide +kernel
abbrev cX5_init : ByteArray := prog_7_method_1_code
def yX5_init : MethodName := ⟨RX5, "<init>", "()V"⟩
abbrev cX5_takeAll : ByteArray := prog_7_method_2_code
def yX5_takeAll : MethodName := ⟨RX5, "takeAll", "(LTurnedPosts$Log;)V"⟩
abbrev cX5_add : ByteArray := prog_7_method_3_code
def yX5_add : MethodName := ⟨RX5, "add", "(II)V"⟩
abbrev cX5_told : ByteArray := prog_7_method_4_code
def yX5_told : MethodName := ⟨RX5, "told", "(II)I"⟩
def RX6 : String := "TurnedPosts$Posts"
def TX6 : u_T := fun k => match k with
  | 0 => ("TurnedPosts$Posts", "land", "LTurnedPosts$Land;", false)
  | 1 => ("TurnedPosts$Posts", "post", "[I", true)
  | 2 => ("TurnedPosts$Posts", "shut", "[I", true)
  | 3 => ("TurnedPosts$Posts", "steps", "I", false)
  | 4 => ("TurnedPosts$Posts", "where", "I", false)
  | _ => ("TurnedPosts$Posts", "waysOut", "[I", true)
def tyX6 : Nat → FieldType := fun k => match k with
  | 0 => .object "TurnedPosts$Land"
  | 1 => .array .int
  | 2 => .array .int
  | 3 => .int
  | 4 => .int
  | _ => .array .int
theorem nmX6 : ∀ a, a < 6 → ∀ b, b < 6 → a ≠ b → (TX6 a).2.1 ≠ (TX6 b).2.1 := by decide +kernel
theorem tyX6_ok : ∀ k, k < 6 → parseFieldDescriptor (TX6 k).2.2.1 = some (tyX6 k) := by decide +kernel
abbrev cX6_init : ByteArray := prog_8_method_1_code
def yX6_init : MethodName := ⟨RX6, "<init>", "()V"⟩
abbrev cX6_begin : ByteArray := prog_8_method_2_code
def yX6_begin : MethodName := ⟨RX6, "begin", "(LTurnedPosts$Land;)V"⟩
abbrev cX6_isShut : ByteArray := prog_8_method_3_code
def yX6_isShut : MethodName := ⟨RX6, "isShut", "(II)Z"⟩
abbrev cX6_shutRoad : ByteArray := prog_8_method_4_code
def yX6_shutRoad : MethodName := ⟨RX6, "shutRoad", "(II)V"⟩
abbrev cX6_openRoad : ByteArray := prog_8_method_5_code
def yX6_openRoad : MethodName := ⟨RX6, "openRoad", "(II)V"⟩
abbrev cX6_turn : ByteArray := prog_8_method_6_code
def yX6_turn : MethodName := ⟨RX6, "turn", "(I)I"⟩
abbrev cX6_step : ByteArray := prog_8_method_7_code
def yX6_step : MethodName := ⟨RX6, "step", "(I)I"⟩
abbrev cX6_run : ByteArray := prog_8_method_8_code
def yX6_run : MethodName := ⟨RX6, "run", "(I)V"⟩
abbrev cX6_code : ByteArray := prog_8_method_9_code
def yX6_code : MethodName := ⟨RX6, "code", "()I"⟩
def RX7 : String := "TurnedPosts$Reader"
def TX7 : u_T := fun k => match k with
  | 0 => ("TurnedPosts$Reader", "land", "LTurnedPosts$Land;", true)
  | 1 => ("TurnedPosts$Reader", "day", "LTurnedPosts$Day;", true)
  | 2 => ("TurnedPosts$Reader", "log", "LTurnedPosts$Log;", true)
  | 3 => ("TurnedPosts$Reader", "fault", "I", false)
  | 4 => ("TurnedPosts$Reader", "faultPlace", "I", false)
  | 5 => ("TurnedPosts$Reader", "tape", "[B", false)
  | 6 => ("TurnedPosts$Reader", "length", "I", false)
  | 7 => ("TurnedPosts$Reader", "at", "I", false)
  | 8 => ("TurnedPosts$Reader", "token", "I", false)
  | 9 => ("TurnedPosts$Reader", "place", "I", false)
  | 10 => ("TurnedPosts$Reader", "value", "I", false)
  | 11 => ("TurnedPosts$Reader", "broken", "Z", false)
  | _ => ("TurnedPosts$Reader", "toldOf", "I", false)
def tyX7 : Nat → FieldType := fun k => match k with
  | 0 => .object "TurnedPosts$Land"
  | 1 => .object "TurnedPosts$Day"
  | 2 => .object "TurnedPosts$Log"
  | 3 => .int
  | 4 => .int
  | 5 => .array .byte
  | 6 => .int
  | 7 => .int
  | 8 => .int
  | 9 => .int
  | 10 => .int
  | 11 => .boolean
  | _ => .int
theorem nmX7 : ∀ a, a < 13 → ∀ b, b < 13 → a ≠ b → (TX7 a).2.1 ≠ (TX7 b).2.1 := by decide +kernel
theorem tyX7_ok : ∀ k, k < 13 → parseFieldDescriptor (TX7 k).2.2.1 = some (tyX7 k) := by decide +kernel
abbrev cX7_init : ByteArray := prog_9_method_1_code
def yX7_init : MethodName := ⟨RX7, "<init>", "()V"⟩
abbrev cX7_read : ByteArray := prog_9_method_2_code
def yX7_read : MethodName := ⟨RX7, "read", "([BII)V"⟩
abbrev cX7_breakHere : ByteArray := prog_9_method_3_code
def yX7_breakHere : MethodName := ⟨RX7, "breakHere", "()V"⟩
abbrev cX7_note : ByteArray := prog_9_method_4_code
def yX7_note : MethodName := ⟨RX7, "note", "(II)V"⟩
abbrev cX7_lookAtWhole : ByteArray := prog_9_method_5_code
def yX7_lookAtWhole : MethodName := ⟨RX7, "lookAtWhole", "()V"⟩
abbrev cX7_readLine : ByteArray := prog_9_method_6_code
def yX7_readLine : MethodName := ⟨RX7, "readLine", "(I)V"⟩
abbrev cX7_readCrossing : ByteArray := prog_9_method_7_code
def yX7_readCrossing : MethodName := ⟨RX7, "readCrossing", "()V"⟩
abbrev cX7_readOther : ByteArray := prog_9_method_8_code
def yX7_readOther : MethodName := ⟨RX7, "readOther", "(I)V"⟩
abbrev cX7_readDeed : ByteArray := prog_9_method_9_code
def yX7_readDeed : MethodName := ⟨RX7, "readDeed", "(I)V"⟩
abbrev cX7_readFact : ByteArray := prog_9_method_10_code
def yX7_readFact : MethodName := ⟨RX7, "readFact", "(I)V"⟩
abbrev cX7_tellOf : ByteArray := prog_9_method_11_code
def yX7_tellOf : MethodName := ⟨RX7, "tellOf", "(I)V"⟩
abbrev cX7_readNumber : ByteArray := prog_9_method_12_code
def yX7_readNumber : MethodName := ⟨RX7, "readNumber", "(I)I"⟩
abbrev cX7_nextToken : ByteArray := prog_9_method_13_code
def yX7_nextToken : MethodName := ⟨RX7, "nextToken", "()V"⟩
abbrev cX7_takeLetters : ByteArray := prog_9_method_14_code
def yX7_takeLetters : MethodName := ⟨RX7, "takeLetters", "()V"⟩
abbrev cX7_takeDigits : ByteArray := prog_9_method_15_code
def yX7_takeDigits : MethodName := ⟨RX7, "takeDigits", "()V"⟩
abbrev cX7_isBlank : ByteArray := prog_9_method_16_code
def yX7_isBlank : MethodName := ⟨RX7, "isBlank", "(I)Z"⟩
abbrev cX7_isLetter : ByteArray := prog_9_method_17_code
def yX7_isLetter : MethodName := ⟨RX7, "isLetter", "(I)Z"⟩
abbrev cX7_isDigit : ByteArray := prog_9_method_18_code
def yX7_isDigit : MethodName := ⟨RX7, "isDigit", "(I)Z"⟩
abbrev cX7_wordOf : ByteArray := prog_9_method_19_code
def yX7_wordOf : MethodName := ⟨RX7, "wordOf", "(I)I"⟩
abbrev cX7_reads : ByteArray := prog_9_method_20_code
def yX7_reads : MethodName := ⟨RX7, "reads", "(Ljava/lang/String;)Z"⟩
def RX8 : String := "TurnedPosts$Roads"
abbrev cX8_spread : ByteArray := prog_10_method_2_code
def yX8_spread : MethodName := ⟨RX8, "spread", "(LTurnedPosts$Land;I)I"⟩
abbrev cX8_distance : ByteArray := prog_10_method_3_code
def yX8_distance : MethodName := ⟨RX8, "distance", "(LTurnedPosts$Land;II)I"⟩
abbrev cX8_reached : ByteArray := prog_10_method_4_code
def yX8_reached : MethodName := ⟨RX8, "reached", "(LTurnedPosts$Land;I)I"⟩
abbrev cX8_nearest : ByteArray := prog_10_method_5_code
def yX8_nearest : MethodName := ⟨RX8, "nearest", "(LTurnedPosts$Land;I)I"⟩
abbrev cX8_parts : ByteArray := prog_10_method_6_code
def yX8_parts : MethodName := ⟨RX8, "parts", "(LTurnedPosts$Land;Z)I"⟩
abbrev cX8_inOneClass : ByteArray := prog_10_method_7_code
def yX8_inOneClass : MethodName := ⟨RX8, "inOneClass", "(LTurnedPosts$Land;I)I"⟩
abbrev cX8_heads : ByteArray := prog_10_method_8_code
def yX8_heads : MethodName := ⟨RX8, "heads", "(LTurnedPosts$Land;)I"⟩
abbrev cX8_ends : ByteArray := prog_10_method_9_code
def yX8_ends : MethodName := ⟨RX8, "ends", "(LTurnedPosts$Land;)I"⟩
abbrev cX8_loops : ByteArray := prog_10_method_10_code
def yX8_loops : MethodName := ⟨RX8, "loops", "(LTurnedPosts$Land;)I"⟩
abbrev cX8_doubles : ByteArray := prog_10_method_11_code
def yX8_doubles : MethodName := ⟨RX8, "doubles", "(LTurnedPosts$Land;)I"⟩
abbrev cX8_howManyLead : ByteArray := prog_10_method_12_code
def yX8_howManyLead : MethodName := ⟨RX8, "howManyLead", "(LTurnedPosts$Land;II)I"⟩
abbrev cX8_howManyLeadTo : ByteArray := prog_10_method_13_code
def yX8_howManyLeadTo : MethodName := ⟨RX8, "howManyLeadTo", "(LTurnedPosts$Land;I)I"⟩
abbrev cX8_even : ByteArray := prog_10_method_14_code
def yX8_even : MethodName := ⟨RX8, "even", "(LTurnedPosts$Land;)I"⟩
abbrev cX8_busy : ByteArray := prog_10_method_15_code
def yX8_busy : MethodName := ⟨RX8, "busy", "(LTurnedPosts$Land;)I"⟩
abbrev cX8_ring : ByteArray := prog_10_method_16_code
def yX8_ring : MethodName := ⟨RX8, "ring", "(LTurnedPosts$Land;I)I"⟩
def RX9 : String := "TurnedPosts$Told"
def TX9 : u_T := fun k => match k with
  | 0 => ("TurnedPosts$Told", "tape", "[B", true)
  | 1 => ("TurnedPosts$Told", "length", "I", false)
  | 2 => ("TurnedPosts$Told", "fault", "I", false)
  | 3 => ("TurnedPosts$Told", "faultPlace", "I", false)
  | 4 => ("TurnedPosts$Told", "kept", "[I", true)
  | 5 => ("TurnedPosts$Told", "lands", "[LTurnedPosts$Land;", true)
  | 6 => ("TurnedPosts$Told", "days", "[LTurnedPosts$Day;", true)
  | _ => ("TurnedPosts$Told", "logs", "[LTurnedPosts$Log;", true)
def tyX9 : Nat → FieldType := fun k => match k with
  | 0 => .array .byte
  | 1 => .int
  | 2 => .int
  | 3 => .int
  | 4 => .array .int
  | 5 => .array (.object "TurnedPosts$Land")
  | 6 => .array (.object "TurnedPosts$Day")
  | _ => .array (.object "TurnedPosts$Log")
theorem nmX9 : ∀ a, a < 8 → ∀ b, b < 8 → a ≠ b → (TX9 a).2.1 ≠ (TX9 b).2.1 := by decide +kernel
theorem tyX9_ok : ∀ k, k < 8 → parseFieldDescriptor (TX9 k).2.2.1 = some (tyX9 k) := by decide +kernel
abbrev cX9_init : ByteArray := prog_11_method_1_code
def yX9_init : MethodName := ⟨RX9, "<init>", "()V"⟩
abbrev cX9_append : ByteArray := prog_11_method_2_code
def yX9_append : MethodName := ⟨RX9, "append", "(I)V"⟩
abbrev cX9_placeFor : ByteArray := prog_11_method_3_code
def yX9_placeFor : MethodName := ⟨RX9, "placeFor", "(II)I"⟩
abbrev cX9_keep : ByteArray := prog_11_method_4_code
def yX9_keep : MethodName := ⟨RX9, "keep", "(IILTurnedPosts$Reader;)V"⟩
abbrev cX9_takeAll : ByteArray := prog_11_method_5_code
def yX9_takeAll : MethodName := ⟨RX9, "takeAll", "(LTurnedPosts$Told;)V"⟩
abbrev cX9_landAt : ByteArray := prog_11_method_6_code
def yX9_landAt : MethodName := ⟨RX9, "landAt", "(I)LTurnedPosts$Land;"⟩
abbrev cX9_dayAt : ByteArray := prog_11_method_7_code
def yX9_dayAt : MethodName := ⟨RX9, "dayAt", "(I)LTurnedPosts$Day;"⟩
abbrev cX9_logAt : ByteArray := prog_11_method_8_code
def yX9_logAt : MethodName := ⟨RX9, "logAt", "(I)LTurnedPosts$Log;"⟩
def RX10 : String := "TurnedPosts$Trail"
def TX10 : u_T := fun k => match k with
  | 0 => ("TurnedPosts$Trail", "posts", "LTurnedPosts$Posts;", true)
  | 1 => ("TurnedPosts$Trail", "visits", "[I", true)
  | 2 => ("TurnedPosts$Trail", "gone", "[I", true)
  | 3 => ("TurnedPosts$Trail", "reached", "I", false)
  | 4 => ("TurnedPosts$Trail", "steps", "I", false)
  | 5 => ("TurnedPosts$Trail", "where", "I", false)
  | 6 => ("TurnedPosts$Trail", "covered", "I", false)
  | _ => ("TurnedPosts$Trail", "returned", "I", false)
def tyX10 : Nat → FieldType := fun k => match k with
  | 0 => .object "TurnedPosts$Posts"
  | 1 => .array .int
  | 2 => .array .int
  | 3 => .int
  | 4 => .int
  | 5 => .int
  | 6 => .int
  | _ => .int
theorem nmX10 : ∀ a, a < 8 → ∀ b, b < 8 → a ≠ b → (TX10 a).2.1 ≠ (TX10 b).2.1 := by decide +kernel
theorem tyX10_ok : ∀ k, k < 8 → parseFieldDescriptor (TX10 k).2.2.1 = some (tyX10 k) := by decide +kernel
abbrev cX10_init : ByteArray := prog_12_method_1_code
def yX10_init : MethodName := ⟨RX10, "<init>", "()V"⟩
abbrev cX10_follow : ByteArray := prog_12_method_2_code
def yX10_follow : MethodName := ⟨RX10, "follow", "(LTurnedPosts$Land;I)V"⟩
abbrev cX10_arrive : ByteArray := prog_12_method_3_code
def yX10_arrive : MethodName := ⟨RX10, "arrive", "(II)I"⟩
abbrev cX10_unused : ByteArray := prog_12_method_4_code
def yX10_unused : MethodName := ⟨RX10, "unused", "()I"⟩
abbrev cX10_round : ByteArray := prog_12_method_5_code
def yX10_round : MethodName := ⟨RX10, "round", "()I"⟩
def RX11 : String := "TurnedPosts"
def TX11 : u_T := fun k => match k with
  | 0 => ("TurnedPosts", "told", "LTurnedPosts$Told;", true)
  | 1 => ("TurnedPosts", "images", "[LTurnedPosts$Told;", true)
  | 2 => ("TurnedPosts", "imageMade", "[Z", true)
  | 3 => ("TurnedPosts", "reader", "LTurnedPosts$Reader;", true)
  | 4 => ("TurnedPosts", "posts", "LTurnedPosts$Posts;", true)
  | 5 => ("TurnedPosts", "course", "LTurnedPosts$Course;", true)
  | 6 => ("TurnedPosts", "trail", "LTurnedPosts$Trail;", true)
  | 7 => ("TurnedPosts", "firstWays", "LTurnedPosts$AllWays;", true)
  | 8 => ("TurnedPosts", "secondWays", "LTurnedPosts$AllWays;", true)
  | 9 => ("TurnedPosts", "fitting", "LTurnedPosts$Fitting;", true)
  | _ => ("TurnedPosts", "codes", "[I", true)
def tyX11 : Nat → FieldType := fun k => match k with
  | 0 => .object "TurnedPosts$Told"
  | 1 => .array (.object "TurnedPosts$Told")
  | 2 => .array .boolean
  | 3 => .object "TurnedPosts$Reader"
  | 4 => .object "TurnedPosts$Posts"
  | 5 => .object "TurnedPosts$Course"
  | 6 => .object "TurnedPosts$Trail"
  | 7 => .object "TurnedPosts$AllWays"
  | 8 => .object "TurnedPosts$AllWays"
  | 9 => .object "TurnedPosts$Fitting"
  | _ => .array .int
theorem nmX11 : ∀ a, a < 11 → ∀ b, b < 11 → a ≠ b → (TX11 a).2.1 ≠ (TX11 b).2.1 := by decide +kernel
theorem tyX11_ok : ∀ k, k < 11 → parseFieldDescriptor (TX11 k).2.2.1 = some (tyX11 k) := by decide +kernel
abbrev cX11_init : ByteArray := prog_1_method_1_code
def yX11_init : MethodName := ⟨RX11, "<init>", "()V"⟩
abbrev cX11_feed : ByteArray := prog_1_method_2_code
def yX11_feed : MethodName := ⟨RX11, "feed", "(IIIII)I"⟩
abbrev cX11_end : ByteArray := prog_1_method_3_code
def yX11_end : MethodName := ⟨RX11, "end", "(I)I"⟩
abbrev cX11_text : ByteArray := prog_1_method_4_code
def yX11_text : MethodName := ⟨RX11, "text", "(II)I"⟩
abbrev cX11_forgetWhatFollows : ByteArray := prog_1_method_5_code
def yX11_forgetWhatFollows : MethodName := ⟨RX11, "forgetWhatFollows", "(Z)V"⟩
abbrev cX11_fault : ByteArray := prog_1_method_6_code
def yX11_fault : MethodName := ⟨RX11, "fault", "(I)I"⟩
abbrev cX11_count : ByteArray := prog_1_method_7_code
def yX11_count : MethodName := ⟨RX11, "count", "(I)I"⟩
abbrev cX11_image : ByteArray := prog_1_method_8_code
def yX11_image : MethodName := ⟨RX11, "image", "(I)Z"⟩
abbrev cX11_again : ByteArray := prog_1_method_9_code
def yX11_again : MethodName := ⟨RX11, "again", "(I)Z"⟩
abbrev cX11_land : ByteArray := prog_1_method_10_code
def yX11_land : MethodName := ⟨RX11, "land", "(II)I"⟩
abbrev cX11_deed : ByteArray := prog_1_method_11_code
def yX11_deed : MethodName := ⟨RX11, "deed", "(III)I"⟩
abbrev cX11_fact : ByteArray := prog_1_method_12_code
def yX11_fact : MethodName := ⟨RX11, "fact", "(III)I"⟩
abbrev cX11_stop : ByteArray := prog_1_method_13_code
def yX11_stop : MethodName := ⟨RX11, "stop", "(II)I"⟩
abbrev cX11_state : ByteArray := prog_1_method_14_code
def yX11_state : MethodName := ⟨RX11, "state", "(IIII)I"⟩
abbrev cX11_after : ByteArray := prog_1_method_15_code
def yX11_after : MethodName := ⟨RX11, "after", "(III)I"⟩
abbrev cX11_drawn : ByteArray := prog_1_method_16_code
def yX11_drawn : MethodName := ⟨RX11, "drawn", "(IIII)I"⟩
abbrev cX11_walk : ByteArray := prog_1_method_17_code
def yX11_walk : MethodName := ⟨RX11, "walk", "(III)I"⟩
abbrev cX11_cover : ByteArray := prog_1_method_18_code
def yX11_cover : MethodName := ⟨RX11, "cover", "(III)I"⟩
abbrev cX11_endOf : ByteArray := prog_1_method_19_code
def yX11_endOf : MethodName := ⟨RX11, "endOf", "(II)I"⟩
abbrev cX11_come : ByteArray := prog_1_method_20_code
def yX11_come : MethodName := ⟨RX11, "come", "(III)I"⟩
abbrev cX11_share : ByteArray := prog_1_method_21_code
def yX11_share : MethodName := ⟨RX11, "share", "(IIII)I"⟩
abbrev cX11_period : ByteArray := prog_1_method_22_code
def yX11_period : MethodName := ⟨RX11, "period", "(IIZ)I"⟩
abbrev cX11_placeOfCode : ByteArray := prog_1_method_23_code
def yX11_placeOfCode : MethodName := ⟨RX11, "placeOfCode", "(II)I"⟩
abbrev cX11_keys : ByteArray := prog_1_method_24_code
def yX11_keys : MethodName := ⟨RX11, "keys", "(IIZ)I"⟩
abbrev cX11_isKey : ByteArray := prog_1_method_25_code
def yX11_isKey : MethodName := ⟨RX11, "isKey", "(LTurnedPosts$Land;III)Z"⟩
abbrev cX11_waysIn : ByteArray := prog_1_method_26_code
def yX11_waysIn : MethodName := ⟨RX11, "waysIn", "(ILTurnedPosts$Land;)LTurnedPosts$AllWays;"⟩
abbrev cX11_set : ByteArray := prog_1_method_27_code
def yX11_set : MethodName := ⟨RX11, "set", "(IIII)I"⟩
abbrev cX11_lot : ByteArray := prog_1_method_28_code
def yX11_lot : MethodName := ⟨RX11, "lot", "(IIIZ)I"⟩
abbrev cX11_mean : ByteArray := prog_1_method_29_code
def yX11_mean : MethodName := ⟨RX11, "mean", "(IIZ)I"⟩
abbrev cX11_inLeastTerms : ByteArray := prog_1_method_30_code
def yX11_inLeastTerms : MethodName := ⟨RX11, "inLeastTerms", "(IIZ)I"⟩
abbrev cX11_trees : ByteArray := prog_1_method_31_code
def yX11_trees : MethodName := ⟨RX11, "trees", "(I)I"⟩
abbrev cX11_longest : ByteArray := prog_1_method_32_code
def yX11_longest : MethodName := ⟨RX11, "longest", "(IIZZ)I"⟩
abbrev cX11_back : ByteArray := prog_1_method_33_code
def yX11_back : MethodName := ⟨RX11, "back", "(II)I"⟩
abbrev cX11_game : ByteArray := prog_1_method_34_code
def yX11_game : MethodName := ⟨RX11, "game", "(IIIZ)I"⟩
abbrev cX11_worth : ByteArray := prog_1_method_35_code
def yX11_worth : MethodName := ⟨RX11, "worth", "(LTurnedPosts$AllWays;IIIZ)I"⟩
abbrev cX11_bestTurn : ByteArray := prog_1_method_36_code
def yX11_bestTurn : MethodName := ⟨RX11, "bestTurn", "(LTurnedPosts$AllWays;IIII)I"⟩
abbrev cX11_fit : ByteArray := prog_1_method_37_code
def yX11_fit : MethodName := ⟨RX11, "fit", "(II)Z"⟩
abbrev cX11_fits : ByteArray := prog_1_method_38_code
def yX11_fits : MethodName := ⟨RX11, "fits", "(III)I"⟩
abbrev cX11_odds : ByteArray := prog_1_method_39_code
def yX11_odds : MethodName := ⟨RX11, "odds", "(IIIIZ)I"⟩
abbrev cX11_least : ByteArray := prog_1_method_40_code
def yX11_least : MethodName := ⟨RX11, "least", "(IIZ)I"⟩
abbrev cX11_far : ByteArray := prog_1_method_41_code
def yX11_far : MethodName := ⟨RX11, "far", "(III)I"⟩
abbrev cX11_reach : ByteArray := prog_1_method_42_code
def yX11_reach : MethodName := ⟨RX11, "reach", "(III)I"⟩
abbrev cX11_classes : ByteArray := prog_1_method_43_code
def yX11_classes : MethodName := ⟨RX11, "classes", "(II)I"⟩
abbrev cX11_led : ByteArray := prog_1_method_44_code
def yX11_led : MethodName := ⟨RX11, "led", "(III)I"⟩
def RX12 : String := "TurnedPostsModel"
def TX12 : u_T := fun k => match k with
  | 0 => ("TurnedPostsModel", "all", "[I", true)
  | 1 => ("TurnedPostsModel", "has", "[Z", true)
  | 2 => ("TurnedPostsModel", "size", "I", false)
  | 3 => ("TurnedPostsModel", "next", "I", false)
  | 4 => ("TurnedPostsModel", "where", "I", false)
  | 5 => ("TurnedPostsModel", "token", "I", false)
  | 6 => ("TurnedPostsModel", "number", "I", false)
  | 7 => ("TurnedPostsModel", "word", "I", false)
  | 8 => ("TurnedPostsModel", "wrong", "Z", false)
  | 9 => ("TurnedPostsModel", "farCrossing", "I", false)
  | 10 => ("TurnedPostsModel", "read", "[I", true)
  | 11 => ("TurnedPostsModel", "z0", "I", false)
  | 12 => ("TurnedPostsModel", "crossings", "I", false)
  | 13 => ("TurnedPostsModel", "inns", "I", false)
  | 14 => ("TurnedPostsModel", "posts", "[I", true)
  | 15 => ("TurnedPostsModel", "shut", "[I", true)
  | 16 => ("TurnedPostsModel", "here", "[I", true)
  | 17 => ("TurnedPostsModel", "steps", "I", false)
  | 18 => ("TurnedPostsModel", "done", "I", false)
  | 19 => ("TurnedPostsModel", "at", "I", false)
  | 20 => ("TurnedPostsModel", "gone", "I", false)
  | 21 => ("TurnedPostsModel", "was", "[I", true)
  | 22 => ("TurnedPostsModel", "came", "[I", true)
  | 23 => ("TurnedPostsModel", "seenAt", "[I", true)
  | 24 => ("TurnedPostsModel", "rowWorth", "[I", true)
  | 25 => ("TurnedPostsModel", "farBy", "[I", true)
  | 26 => ("TurnedPostsModel", "used", "[I", true)
  | 27 => ("TurnedPostsModel", "everywhere", "I", false)
  | 28 => ("TurnedPostsModel", "again0", "I", false)
  | 29 => ("TurnedPostsModel", "d0", "I", false)
  | 30 => ("TurnedPostsModel", "never", "I", false)
  | 31 => ("TurnedPostsModel", "firstCame", "I", false)
  | 32 => ("TurnedPostsModel", "longRun", "I", false)
  | 33 => ("TurnedPostsModel", "moved", "I", false)
  | 34 => ("TurnedPostsModel", "crowd", "I", false)
  | 35 => ("TurnedPostsModel", "l0", "I", false)
  | 36 => ("TurnedPostsModel", "fitMany", "I", false)
  | 37 => ("TurnedPostsModel", "fitLeast", "I", false)
  | 38 => ("TurnedPostsModel", "fitMost", "I", false)
  | 39 => ("TurnedPostsModel", "fitPost", "[I", true)
  | 40 => ("TurnedPostsModel", "fitEnd", "[I", true)
  | 41 => ("TurnedPostsModel", "keptPosts", "[I", true)
  | _ => ("TurnedPostsModel", "x0", "I", false)
def tyX12 : Nat → FieldType := fun k => match k with
  | 0 => .array .int
  | 1 => .array .boolean
  | 2 => .int
  | 3 => .int
  | 4 => .int
  | 5 => .int
  | 6 => .int
  | 7 => .int
  | 8 => .boolean
  | 9 => .int
  | 10 => .array .int
  | 11 => .int
  | 12 => .int
  | 13 => .int
  | 14 => .array .int
  | 15 => .array .int
  | 16 => .array .int
  | 17 => .int
  | 18 => .int
  | 19 => .int
  | 20 => .int
  | 21 => .array .int
  | 22 => .array .int
  | 23 => .array .int
  | 24 => .array .int
  | 25 => .array .int
  | 26 => .array .int
  | 27 => .int
  | 28 => .int
  | 29 => .int
  | 30 => .int
  | 31 => .int
  | 32 => .int
  | 33 => .int
  | 34 => .int
  | 35 => .int
  | 36 => .int
  | 37 => .int
  | 38 => .int
  | 39 => .array .int
  | 40 => .array .int
  | 41 => .array .int
  | _ => .int
theorem nmX12 : ∀ a, a < 43 → ∀ b, b < 43 → a ≠ b → (TX12 a).2.1 ≠ (TX12 b).2.1 := by decide +kernel
theorem tyX12_ok : ∀ k, k < 43 → parseFieldDescriptor (TX12 k).2.2.1 = some (tyX12 k) := by decide +kernel
abbrev cX12_init : ByteArray := prog_14_method_1_code
def yX12_init : MethodName := ⟨RX12, "<init>", "()V"⟩
abbrev cX12_isIn : ByteArray := prog_14_method_2_code
def yX12_isIn : MethodName := ⟨RX12, "isIn", "(III)Z"⟩
abbrev cX12_feed : ByteArray := prog_14_method_3_code
def yX12_feed : MethodName := ⟨RX12, "feed", "(IIIII)I"⟩
abbrev cX12_end : ByteArray := prog_14_method_4_code
def yX12_end : MethodName := ⟨RX12, "end", "(I)I"⟩
abbrev cX12_byteAt : ByteArray := prog_14_method_5_code
def yX12_byteAt : MethodName := ⟨RX12, "byteAt", "(I)I"⟩
abbrev cX12_isLetter : ByteArray := prog_14_method_6_code
def yX12_isLetter : MethodName := ⟨RX12, "isLetter", "(I)Z"⟩
abbrev cX12_isDigit : ByteArray := prog_14_method_7_code
def yX12_isDigit : MethodName := ⟨RX12, "isDigit", "(I)Z"⟩
abbrev cX12_four : ByteArray := prog_14_method_8_code
def yX12_four : MethodName := ⟨RX12, "four", "(IIII)J"⟩
abbrev cX12_eight : ByteArray := prog_14_method_9_code
def yX12_eight : MethodName := ⟨RX12, "eight", "(IIIIIIII)J"⟩
abbrev cX12_wordOf : ByteArray := prog_14_method_10_code
def yX12_wordOf : MethodName := ⟨RX12, "wordOf", "(J)I"⟩
abbrev cX12_advance : ByteArray := prog_14_method_11_code
def yX12_advance : MethodName := ⟨RX12, "advance", "()V"⟩
abbrev cX12_ends : ByteArray := prog_14_method_12_code
def yX12_ends : MethodName := ⟨RX12, "ends", "()V"⟩
abbrev cX12_also : ByteArray := prog_14_method_13_code
def yX12_also : MethodName := ⟨RX12, "also", "(II)V"⟩
abbrev cX12_numbered : ByteArray := prog_14_method_14_code
def yX12_numbered : MethodName := ⟨RX12, "numbered", "(II)I"⟩
abbrev cX12_wordIn : ByteArray := prog_14_method_15_code
def yX12_wordIn : MethodName := ⟨RX12, "wordIn", "(II)I"⟩
abbrev cX12_endsLine : ByteArray := prog_14_method_16_code
def yX12_endsLine : MethodName := ⟨RX12, "endsLine", "()V"⟩
abbrev cX12_crossingTold : ByteArray := prog_14_method_17_code
def yX12_crossingTold : MethodName := ⟨RX12, "crossingTold", "()I"⟩
abbrev cX12_crossTold : ByteArray := prog_14_method_18_code
def yX12_crossTold : MethodName := ⟨RX12, "crossTold", "(I)V"⟩
abbrev cX12_landLine : ByteArray := prog_14_method_19_code
def yX12_landLine : MethodName := ⟨RX12, "landLine", "()V"⟩
abbrev cX12_dayLine : ByteArray := prog_14_method_20_code
def yX12_dayLine : MethodName := ⟨RX12, "dayLine", "()V"⟩
abbrev cX12_logLine : ByteArray := prog_14_method_21_code
def yX12_logLine : MethodName := ⟨RX12, "logLine", "()V"⟩
abbrev cX12_placeOf : ByteArray := prog_14_method_22_code
def yX12_placeOf : MethodName := ⟨RX12, "placeOf", "(II)I"⟩
abbrev cX12_sizeOf : ByteArray := prog_14_method_23_code
def yX12_sizeOf : MethodName := ⟨RX12, "sizeOf", "(I)I"⟩
abbrev cX12_isOf : ByteArray := prog_14_method_24_code
def yX12_isOf : MethodName := ⟨RX12, "isOf", "(II)Z"⟩
abbrev cX12_postsAreThere : ByteArray := prog_14_method_25_code
def yX12_postsAreThere : MethodName := ⟨RX12, "postsAreThere", "()Z"⟩
abbrev cX12_text : ByteArray := prog_14_method_26_code
def yX12_text : MethodName := ⟨RX12, "text", "(II)I"⟩
abbrev cX12_fault : ByteArray := prog_14_method_27_code
def yX12_fault : MethodName := ⟨RX12, "fault", "(I)I"⟩
abbrev cX12_isLand : ByteArray := prog_14_method_28_code
def yX12_isLand : MethodName := ⟨RX12, "isLand", "(I)Z"⟩
abbrev cX12_isCrossing : ByteArray := prog_14_method_29_code
def yX12_isCrossing : MethodName := ⟨RX12, "isCrossing", "(I)Z"⟩
abbrev cX12_isInn : ByteArray := prog_14_method_30_code
def yX12_isInn : MethodName := ⟨RX12, "isInn", "(I)Z"⟩
abbrev cX12_roadsOf : ByteArray := prog_14_method_31_code
def yX12_roadsOf : MethodName := ⟨RX12, "roadsOf", "(I)I"⟩
abbrev cX12_postTold : ByteArray := prog_14_method_32_code
def yX12_postTold : MethodName := ⟨RX12, "postTold", "(I)I"⟩
abbrev cX12_leadsTo : ByteArray := prog_14_method_33_code
def yX12_leadsTo : MethodName := ⟨RX12, "leadsTo", "(II)I"⟩
abbrev cX12_isFree : ByteArray := prog_14_method_34_code
def yX12_isFree : MethodName := ⟨RX12, "isFree", "(I)Z"⟩
abbrev cX12_land : ByteArray := prog_14_method_35_code
def yX12_land : MethodName := ⟨RX12, "land", "(II)I"⟩
abbrev cX12_begins : ByteArray := prog_14_method_36_code
def yX12_begins : MethodName := ⟨RX12, "begins", "()V"⟩
abbrev cX12_turns : ByteArray := prog_14_method_37_code
def yX12_turns : MethodName := ⟨RX12, "turns", "(I)Z"⟩
abbrev cX12_stepsOn : ByteArray := prog_14_method_38_code
def yX12_stepsOn : MethodName := ⟨RX12, "stepsOn", "()Z"⟩
abbrev cX12_puts : ByteArray := prog_14_method_39_code
def yX12_puts : MethodName := ⟨RX12, "puts", "(I)V"⟩
abbrev cX12_walks : ByteArray := prog_14_method_40_code
def yX12_walks : MethodName := ⟨RX12, "walks", "(I)Z"⟩
abbrev cX12_walk : ByteArray := prog_14_method_41_code
def yX12_walk : MethodName := ⟨RX12, "walk", "(III)I"⟩
abbrev cX12_endOf : ByteArray := prog_14_method_42_code
def yX12_endOf : MethodName := ⟨RX12, "endOf", "(II)I"⟩
abbrev cX12_come : ByteArray := prog_14_method_43_code
def yX12_come : MethodName := ⟨RX12, "come", "(III)I"⟩
abbrev cX12_share : ByteArray := prog_14_method_44_code
def yX12_share : MethodName := ⟨RX12, "share", "(IIII)I"⟩
abbrev cX12_postsNow : ByteArray := prog_14_method_45_code
def yX12_postsNow : MethodName := ⟨RX12, "postsNow", "()I"⟩
abbrev cX12_period : ByteArray := prog_14_method_46_code
def yX12_period : MethodName := ⟨RX12, "period", "(IIZ)I"⟩
abbrev cX12_waysMany : ByteArray := prog_14_method_47_code
def yX12_waysMany : MethodName := ⟨RX12, "waysMany", "()I"⟩
abbrev cX12_setsWay : ByteArray := prog_14_method_48_code
def yX12_setsWay : MethodName := ⟨RX12, "setsWay", "(I)V"⟩
abbrev cX12_numberOf : ByteArray := prog_14_method_49_code
def yX12_numberOf : MethodName := ⟨RX12, "numberOf", "(I)I"⟩
abbrev cX12_unlikeTold : ByteArray := prog_14_method_50_code
def yX12_unlikeTold : MethodName := ⟨RX12, "unlikeTold", "()I"⟩
abbrev cX12_bitsOf : ByteArray := prog_14_method_51_code
def yX12_bitsOf : MethodName := ⟨RX12, "bitsOf", "(I)I"⟩
abbrev cX12_setBy : ByteArray := prog_14_method_52_code
def yX12_setBy : MethodName := ⟨RX12, "setBy", "(II)I"⟩
abbrev cX12_set : ByteArray := prog_14_method_53_code
def yX12_set : MethodName := ⟨RX12, "set", "(IIII)I"⟩
abbrev cX12_common : ByteArray := prog_14_method_54_code
def yX12_common : MethodName := ⟨RX12, "common", "(II)I"⟩
abbrev cX12_parted : ByteArray := prog_14_method_55_code
def yX12_parted : MethodName := ⟨RX12, "parted", "(IIZ)I"⟩
abbrev cX12_lot : ByteArray := prog_14_method_56_code
def yX12_lot : MethodName := ⟨RX12, "lot", "(IIIZ)I"⟩
abbrev cX12_mean : ByteArray := prog_14_method_57_code
def yX12_mean : MethodName := ⟨RX12, "mean", "(IIZ)I"⟩
abbrev cX12_ledTo : ByteArray := prog_14_method_58_code
def yX12_ledTo : MethodName := ⟨RX12, "ledTo", "(II)I"⟩
abbrev cX12_trees : ByteArray := prog_14_method_59_code
def yX12_trees : MethodName := ⟨RX12, "trees", "(I)I"⟩
abbrev cX12_gameBy : ByteArray := prog_14_method_60_code
def yX12_gameBy : MethodName := ⟨RX12, "gameBy", "(III)I"⟩
abbrev cX12_game : ByteArray := prog_14_method_61_code
def yX12_game : MethodName := ⟨RX12, "game", "(IIIZ)I"⟩
abbrev cX12_roads5 : ByteArray := prog_14_method_62_code
def yX12_roads5 : MethodName := ⟨RX12, "roads5", "(I)I"⟩
abbrev cX12_laysFar : ByteArray := prog_14_method_63_code
def yX12_laysFar : MethodName := ⟨RX12, "laysFar", "()V"⟩
abbrev cX12_reachOf : ByteArray := prog_14_method_64_code
def yX12_reachOf : MethodName := ⟨RX12, "reachOf", "(I)I"⟩
abbrev cX12_far : ByteArray := prog_14_method_65_code
def yX12_far : MethodName := ⟨RX12, "far", "(III)I"⟩
abbrev cX12_reach : ByteArray := prog_14_method_66_code
def yX12_reach : MethodName := ⟨RX12, "reach", "(III)I"⟩
abbrev cX12_classOf : ByteArray := prog_14_method_67_code
def yX12_classOf : MethodName := ⟨RX12, "classOf", "(I)I"⟩
abbrev cX12_classesOf : ByteArray := prog_14_method_68_code
def yX12_classesOf : MethodName := ⟨RX12, "classesOf", "(Z)I"⟩
abbrev cX12_leadHere : ByteArray := prog_14_method_69_code
def yX12_leadHere : MethodName := ⟨RX12, "leadHere", "(IZ)I"⟩
abbrev cX12_crossingsOf : ByteArray := prog_14_method_70_code
def yX12_crossingsOf : MethodName := ⟨RX12, "crossingsOf", "(I)I"⟩
abbrev cX12_loops : ByteArray := prog_14_method_71_code
def yX12_loops : MethodName := ⟨RX12, "loops", "(Z)I"⟩
abbrev cX12_busyOf : ByteArray := prog_14_method_72_code
def yX12_busyOf : MethodName := ⟨RX12, "busyOf", "()I"⟩
abbrev cX12_classes : ByteArray := prog_14_method_73_code
def yX12_classes : MethodName := ⟨RX12, "classes", "(II)I"⟩
abbrev cX12_led : ByteArray := prog_14_method_74_code
def yX12_led : MethodName := ⟨RX12, "led", "(III)I"⟩
abbrev cX12_walksFar : ByteArray := prog_14_method_75_code
def yX12_walksFar : MethodName := ⟨RX12, "walksFar", "(I)V"⟩
abbrev cX12_unusedOf : ByteArray := prog_14_method_76_code
def yX12_unusedOf : MethodName := ⟨RX12, "unusedOf", "(I)I"⟩
abbrev cX12_roundOf : ByteArray := prog_14_method_77_code
def yX12_roundOf : MethodName := ⟨RX12, "roundOf", "()I"⟩
abbrev cX12_cover : ByteArray := prog_14_method_78_code
def yX12_cover : MethodName := ⟨RX12, "cover", "(III)I"⟩
abbrev cX12_longest : ByteArray := prog_14_method_79_code
def yX12_longest : MethodName := ⟨RX12, "longest", "(IIZZ)I"⟩
abbrev cX12_back : ByteArray := prog_14_method_80_code
def yX12_back : MethodName := ⟨RX12, "back", "(II)I"⟩
abbrev cX12_keys : ByteArray := prog_14_method_81_code
def yX12_keys : MethodName := ⟨RX12, "keys", "(IIZ)I"⟩
abbrev cX12_isDay : ByteArray := prog_14_method_82_code
def yX12_isDay : MethodName := ⟨RX12, "isDay", "(I)Z"⟩
abbrev cX12_deed : ByteArray := prog_14_method_83_code
def yX12_deed : MethodName := ⟨RX12, "deed", "(III)I"⟩
abbrev cX12_looks : ByteArray := prog_14_method_84_code
def yX12_looks : MethodName := ⟨RX12, "looks", "()V"⟩
abbrev cX12_goesFrom : ByteArray := prog_14_method_85_code
def yX12_goesFrom : MethodName := ⟨RX12, "goesFrom", "(I)V"⟩
abbrev cX12_goes : ByteArray := prog_14_method_86_code
def yX12_goes : MethodName := ⟨RX12, "goes", "(I)Z"⟩
abbrev cX12_runs0 : ByteArray := prog_14_method_87_code
def yX12_runs0 : MethodName := ⟨RX12, "runs0", "(I)Z"⟩
abbrev cX12_adds : ByteArray := prog_14_method_88_code
def yX12_adds : MethodName := ⟨RX12, "adds", "(I)Z"⟩
abbrev cX12_shuts : ByteArray := prog_14_method_89_code
def yX12_shuts : MethodName := ⟨RX12, "shuts", "(IIZ)Z"⟩
abbrev cX12_does : ByteArray := prog_14_method_90_code
def yX12_does : MethodName := ⟨RX12, "does", "(III)Z"⟩
abbrev cX12_beginsDay : ByteArray := prog_14_method_91_code
def yX12_beginsDay : MethodName := ⟨RX12, "beginsDay", "()V"⟩
abbrev cX12_runs : ByteArray := prog_14_method_92_code
def yX12_runs : MethodName := ⟨RX12, "runs", "(I)V"⟩
abbrev cX12_stop : ByteArray := prog_14_method_93_code
def yX12_stop : MethodName := ⟨RX12, "stop", "(II)I"⟩
abbrev cX12_walkersOf : ByteArray := prog_14_method_94_code
def yX12_walkersOf : MethodName := ⟨RX12, "walkersOf", "(Z)I"⟩
abbrev cX12_nowOf : ByteArray := prog_14_method_95_code
def yX12_nowOf : MethodName := ⟨RX12, "nowOf", "(I)I"⟩
abbrev cX12_state : ByteArray := prog_14_method_96_code
def yX12_state : MethodName := ⟨RX12, "state", "(IIII)I"⟩
abbrev cX12_elsewhere : ByteArray := prog_14_method_97_code
def yX12_elsewhere : MethodName := ⟨RX12, "elsewhere", "()I"⟩
abbrev cX12_after : ByteArray := prog_14_method_98_code
def yX12_after : MethodName := ⟨RX12, "after", "(III)I"⟩
abbrev cX12_isLog : ByteArray := prog_14_method_99_code
def yX12_isLog : MethodName := ⟨RX12, "isLog", "(I)Z"⟩
abbrev cX12_fact : ByteArray := prog_14_method_100_code
def yX12_fact : MethodName := ⟨RX12, "fact", "(III)I"⟩
abbrev cX12_isSo : ByteArray := prog_14_method_101_code
def yX12_isSo : MethodName := ⟨RX12, "isSo", "()Z"⟩
abbrev cX12_laysNoFits : ByteArray := prog_14_method_102_code
def yX12_laysNoFits : MethodName := ⟨RX12, "laysNoFits", "()V"⟩
abbrev cX12_laysEnds : ByteArray := prog_14_method_103_code
def yX12_laysEnds : MethodName := ⟨RX12, "laysEnds", "()V"⟩
abbrev cX12_laysFits : ByteArray := prog_14_method_104_code
def yX12_laysFits : MethodName := ⟨RX12, "laysFits", "(IZ)I"⟩
abbrev cX12_askOf : ByteArray := prog_14_method_105_code
def yX12_askOf : MethodName := ⟨RX12, "askOf", "()I"⟩
abbrev cX12_sureOf : ByteArray := prog_14_method_106_code
def yX12_sureOf : MethodName := ⟨RX12, "sureOf", "(I)I"⟩
abbrev cX12_fits : ByteArray := prog_14_method_107_code
def yX12_fits : MethodName := ⟨RX12, "fits", "(III)I"⟩
abbrev cX12_odds : ByteArray := prog_14_method_108_code
def yX12_odds : MethodName := ⟨RX12, "odds", "(IIIIZ)I"⟩
abbrev cX12_least : ByteArray := prog_14_method_109_code
def yX12_least : MethodName := ⟨RX12, "least", "(IIZ)I"⟩
abbrev cX12_below : ByteArray := prog_14_method_110_code
def yX12_below : MethodName := ⟨RX12, "below", "(I)I"⟩
abbrev cX12_draws : ByteArray := prog_14_method_111_code
def yX12_draws : MethodName := ⟨RX12, "draws", "()V"⟩
abbrev cX12_drawn : ByteArray := prog_14_method_112_code
def yX12_drawn : MethodName := ⟨RX12, "drawn", "(IIII)I"⟩
abbrev cX12_count : ByteArray := prog_14_method_113_code
def yX12_count : MethodName := ⟨RX12, "count", "(I)I"⟩
abbrev cX12_image : ByteArray := prog_14_method_114_code
def yX12_image : MethodName := ⟨RX12, "image", "(I)Z"⟩
abbrev cX12_again : ByteArray := prog_14_method_115_code
def yX12_again : MethodName := ⟨RX12, "again", "(I)Z"⟩
def RJ6 : String := "java/lang/Integer"
abbrev cJ6_bitCount_0f7a4 : ByteArray := prog_15_method_49_code
def yJ6_bitCount_0f7a4 : MethodName := ⟨RJ6, "bitCount", "(I)I"⟩
def RJ0 : String := "java/lang/String"
abbrev cJ0_length_8abf5 : ByteArray := prog_17_method_54_code
def yJ0_length_8abf5 : MethodName := ⟨RJ0, "length", "()I"⟩
abbrev cJ0_charAt_5068e : ByteArray := prog_17_method_56_code
def yJ0_charAt_5068e : MethodName := ⟨RJ0, "charAt", "(I)C"⟩
abbrev cJ0_coder_7d493 : ByteArray := prog_17_method_152_code
def yJ0_coder_7d493 : MethodName := ⟨RJ0, "coder", "()B"⟩
abbrev cJ0_isLatin1_aae02 : ByteArray := prog_17_method_154_code
def yJ0_isLatin1_aae02 : MethodName := ⟨RJ0, "isLatin1", "()Z"⟩
abbrev cJ0_checkIndex_df160 : ByteArray := prog_17_method_155_code
def yJ0_checkIndex_df160 : MethodName := ⟨RJ0, "checkIndex", "(II)V"⟩
def RJ1 : String := "java/lang/StringLatin1"
abbrev cJ1_charAt_3b067 : ByteArray := prog_18_method_2_code
def yJ1_charAt_3b067 : MethodName := ⟨RJ1, "charAt", "([BI)C"⟩
def RJ3 : String := "jdk/internal/util/Preconditions"
abbrev cJ3_checkIndex_8e157 : ByteArray := prog_20_method_11_code
def yJ3_checkIndex_8e157 : MethodName := ⟨RJ3, "checkIndex", "(IILjava/util/function/BiFunction;)I"⟩
def RL : String := "TurnedPostsLaw"
abbrev cL_law : ByteArray := code
abbrev vwCl : List vw_C := [(RX0, TX0, 10), (RX1, TX1, 11), (RX2, TX2, 4), (RX3, TX3, 8), (RX4, TX4, 6), (RX5, TX5, 3), (RX6, TX6, 6), (RX7, TX7, 13), (RX9, TX9, 8), (RX10, TX10, 8), (RX11, TX11, 11), (RX12, TX12, 43)]
/-! what is decoded, by the bytes that stand there -/
noncomputable def zdr : List UInt8 → Nat → List UInt8 := fun l => List.rec (motive := fun _ => Nat → List UInt8) (fun _ => []) (fun x xs ih n => Nat.rec (motive := fun _ => List UInt8) (x :: xs) (fun m _ => ih m) n) l
theorem zdr_e : ∀ (l : List UInt8) (n : Nat), zdr l n = l.drop n
  | [], n => List.drop_nil.symm
  | x :: xs, 0 => rfl
  | x :: xs, n + 1 => zdr_e xs n
theorem zdr_1 {l : List UInt8} {n : Nat} {x : UInt8} {r : List UInt8} (h : zdr l n = x :: r) : zdr l (n + 1) = r := by
  rw [zdr_e] at h ⊢
  have e : (l.drop n).drop 1 = l.drop (n + 1) := List.drop_drop
  rw [← e, h]
  rfl
theorem zdr_g {l : List UInt8} {n : Nat} {x : UInt8} {r : List UInt8} (h : zdr l n = x :: r) : ∃ hp : n < l.length, l[n] = x := by
  rw [zdr_e] at h
  have e : (l.drop n)[0]? = l[n + 0]? := List.getElem?_drop
  rw [h] at e
  exact List.getElem?_eq_some_iff.mp e.symm
theorem zu1 {c : ByteArray} {p : Nat} {x : UInt8} {r : List UInt8} (h : zdr c.data.toList p = x :: r) : (Reader.u1 : Decoder Nat) c p = .ok (x.toNat, p + 1) := by
  obtain ⟨⟨l⟩⟩ := c
  obtain ⟨hp, hx⟩ := zdr_g h
  have hs : p < (⟨⟨l⟩⟩ : ByteArray).size := hp
  have e : (Reader.u1 : Decoder Nat) ⟨⟨l⟩⟩ p = (if h : p < (⟨⟨l⟩⟩ : ByteArray).size then (do set (p + 1); pure ((⟨⟨l⟩⟩ : ByteArray)[p].toNat) : Decoder Nat) else throw (HasTruncated.truncated p)) ⟨⟨l⟩⟩ p := rfl
  rw [e, dif_pos hs]
  exact congrArg (fun (b : UInt8) => (Except.ok (b.toNat, p + 1) : Except DecodeError (Nat × Nat))) hx
theorem zu2 {c : ByteArray} {p : Nat} {x y : UInt8} {r : List UInt8} (h : zdr c.data.toList p = x :: y :: r) : (Reader.u2 : Decoder Nat) c p = .ok (x.toNat * 256 + y.toNat, p + 2) := by
  show Except.bind ((Reader.u1 : Decoder Nat) c p) (fun q => Except.bind ((Reader.u1 : Decoder Nat) c q.2) (fun w => Except.ok (q.1 * 256 + w.1, w.2))) = _
  rw [zu1 h]
  show Except.bind ((Reader.u1 : Decoder Nat) c (p + 1)) (fun w => Except.ok (x.toNat * 256 + w.1, w.2)) = _
  rw [zu1 (zdr_1 h)]
  rfl
theorem zs1 {c : ByteArray} {p : Nat} {x : UInt8} {r : List UInt8} (h : zdr c.data.toList p = x :: r) : (Reader.s1 : Decoder Int) c p = .ok (Reader.signed 8 x.toNat, p + 1) := by
  show Except.bind ((Reader.u1 : Decoder Nat) c p) (fun q => Except.ok (Reader.signed 8 q.1, q.2)) = _
  rw [zu1 h]
  rfl
theorem zs2 {c : ByteArray} {p : Nat} {x y : UInt8} {r : List UInt8} (h : zdr c.data.toList p = x :: y :: r) : (Reader.s2 : Decoder Int) c p = .ok (Reader.signed 16 (x.toNat * 256 + y.toNat), p + 2) := by
  show Except.bind ((Reader.u2 : Decoder Nat) c p) (fun q => Except.ok (Reader.signed 16 q.1, q.2)) = _
  rw [zu2 h]
  rfl
theorem zDd {c : ByteArray} {pc op q : Nat} {F : Nat → Decoder Instr} {i : Instr} (hF : Decoder.instr pc = (Reader.u1 : Decoder Nat) >>= F) (h1 : (Reader.u1 : Decoder Nat) c pc = .ok (op, pc + 1)) (h2 : F op c (pc + 1) = .ok (i, pc + q)) : decode c pc = .ok (i, q) := by
  have e : (Decoder.instr pc) c pc = .ok (i, pc + q) := by
    rw [hF]
    show Except.bind ((Reader.u1 : Decoder Nat) c pc) (fun z => F z.1 c z.2) = _
    rw [h1]
    exact h2
  show Except.bind ((Decoder.instr pc) c pc) (fun z => Except.ok (z.1, z.2 - pc)) = _
  rw [e]
  show Except.ok (i, pc + q - pc) = _
  rw [Nat.add_sub_cancel_left]
noncomputable def zk0 (c : ByteArray) (p op : Nat) : Bool := match zdr c.data.toList p with
  | x :: _ => Nat.beq x.toNat op
  | [] => false
noncomputable def zk1 (c : ByteArray) (p op n : Nat) : Bool := match zdr c.data.toList p with
  | x :: y :: _ => Nat.beq x.toNat op && Nat.beq y.toNat n
  | _ => false
noncomputable def zk2 (c : ByteArray) (p op n : Nat) : Bool := match zdr c.data.toList p with
  | x :: y :: z :: _ => Nat.beq x.toNat op && Nat.beq (y.toNat * 256 + z.toNat) n
  | _ => false
noncomputable def zks1 (c : ByteArray) (p op : Nat) (n : Int) : Bool := match zdr c.data.toList p with
  | x :: y :: _ => Nat.beq x.toNat op && decide (Reader.signed 8 y.toNat = n)
  | _ => false
noncomputable def zks2 (c : ByteArray) (p op : Nat) (n : Int) : Bool := match zdr c.data.toList p with
  | x :: y :: z :: _ => Nat.beq x.toNat op && decide (Reader.signed 16 (y.toNat * 256 + z.toNat) = n)
  | _ => false
noncomputable def zki (c : ByteArray) (p n : Nat) (k : Int) : Bool := match zdr c.data.toList p with
  | x :: y :: z :: _ => Nat.beq x.toNat 132 && (Nat.beq y.toNat n && decide (Reader.signed 8 z.toNat = k))
  | _ => false
theorem zD0 {c : ByteArray} {pc op : Nat} {F : Nat → Decoder Instr} {i : Instr} (hF : Decoder.instr pc = (Reader.u1 : Decoder Nat) >>= F) (e : F op = Pure.pure i) (h : zk0 c pc op = true) : decode c pc = .ok (i, 1) := by
  unfold zk0 at h
  split at h
  · next x r hr =>
    have ho := Nat.eq_of_beq_eq_true h
    refine zDd hF (ho ▸ zu1 hr) ?_
    rw [e]
    rfl
  · exact absurd h (by decide)
theorem zD1 {c : ByteArray} {pc op n : Nat} {F : Nat → Decoder Instr} {G : Nat → Instr} (hF : Decoder.instr pc = (Reader.u1 : Decoder Nat) >>= F) (e : F op = (Reader.u1 : Decoder Nat) >>= fun n => Pure.pure (G n)) (h : zk1 c pc op n = true) : decode c pc = .ok (G n, 2) := by
  unfold zk1 at h
  split at h
  · next x y r hr =>
    have h := Bool.and_eq_true_iff.mp h
    have ho := Nat.eq_of_beq_eq_true h.1
    have hn := Nat.eq_of_beq_eq_true h.2
    refine zDd hF (ho ▸ zu1 hr) ?_
    rw [e]
    show Except.bind ((Reader.u1 : Decoder Nat) c (pc + 1)) (fun z => Except.ok (G z.1, z.2)) = _
    rw [zu1 (zdr_1 hr), hn]
    rfl
  · exact absurd h (by decide)
theorem zD2 {c : ByteArray} {pc op n : Nat} {F : Nat → Decoder Instr} {G : Nat → Instr} (hF : Decoder.instr pc = (Reader.u1 : Decoder Nat) >>= F) (e : F op = (Reader.u2 : Decoder Nat) >>= fun n => Pure.pure (G n)) (h : zk2 c pc op n = true) : decode c pc = .ok (G n, 3) := by
  unfold zk2 at h
  split at h
  · next x y z r hr =>
    have h := Bool.and_eq_true_iff.mp h
    have ho := Nat.eq_of_beq_eq_true h.1
    have hn := Nat.eq_of_beq_eq_true h.2
    refine zDd hF (ho ▸ zu1 hr) ?_
    rw [e]
    show Except.bind ((Reader.u2 : Decoder Nat) c (pc + 1)) (fun z => Except.ok (G z.1, z.2)) = _
    rw [zu2 (zdr_1 hr), hn]
    rfl
  · exact absurd h (by decide)
theorem zDs1 {c : ByteArray} {pc op : Nat} {n : Int} {F : Nat → Decoder Instr} {G : Int → Instr} (hF : Decoder.instr pc = (Reader.u1 : Decoder Nat) >>= F) (e : F op = (Reader.s1 : Decoder Int) >>= fun n => Pure.pure (G n)) (h : zks1 c pc op n = true) : decode c pc = .ok (G n, 2) := by
  unfold zks1 at h
  split at h
  · next x y r hr =>
    have h := Bool.and_eq_true_iff.mp h
    have ho := Nat.eq_of_beq_eq_true h.1
    have hn := of_decide_eq_true h.2
    refine zDd hF (ho ▸ zu1 hr) ?_
    rw [e]
    show Except.bind ((Reader.s1 : Decoder Int) c (pc + 1)) (fun z => Except.ok (G z.1, z.2)) = _
    rw [zs1 (zdr_1 hr), hn]
    rfl
  · exact absurd h (by decide)
theorem zDs2 {c : ByteArray} {pc op : Nat} {n : Int} {F : Nat → Decoder Instr} {G : Int → Instr} (hF : Decoder.instr pc = (Reader.u1 : Decoder Nat) >>= F) (e : F op = (Reader.s2 : Decoder Int) >>= fun n => Pure.pure (G n)) (h : zks2 c pc op n = true) : decode c pc = .ok (G n, 3) := by
  unfold zks2 at h
  split at h
  · next x y z r hr =>
    have h := Bool.and_eq_true_iff.mp h
    have ho := Nat.eq_of_beq_eq_true h.1
    have hn := of_decide_eq_true h.2
    refine zDd hF (ho ▸ zu1 hr) ?_
    rw [e]
    show Except.bind ((Reader.s2 : Decoder Int) c (pc + 1)) (fun z => Except.ok (G z.1, z.2)) = _
    rw [zs2 (zdr_1 hr), hn]
    rfl
  · exact absurd h (by decide)
theorem zDi {c : ByteArray} {pc n : Nat} {k : Int} {F : Nat → Decoder Instr} (hF : Decoder.instr pc = (Reader.u1 : Decoder Nat) >>= F) (e : F 132 = (Reader.u1 : Decoder Nat) >>= fun n => (Reader.s1 : Decoder Int) >>= fun k => Pure.pure (Instr.iinc n k)) (h : zki c pc n k = true) : decode c pc = .ok (.iinc n k, 3) := by
  unfold zki at h
  split at h
  · next x y z r hr =>
    have h := Bool.and_eq_true_iff.mp h
    have ho := Nat.eq_of_beq_eq_true h.1
    have h2 := Bool.and_eq_true_iff.mp h.2
    have hn := Nat.eq_of_beq_eq_true h2.1
    have hk := of_decide_eq_true h2.2
    refine zDd hF (ho ▸ zu1 hr) ?_
    rw [e]
    show Except.bind ((Reader.u1 : Decoder Nat) c (pc + 1)) (fun z => Except.bind ((Reader.s1 : Decoder Int) c z.2) (fun w => Except.ok (Instr.iinc z.1 w.1, w.2))) = _
    rw [zu1 (zdr_1 hr)]
    show Except.bind ((Reader.s1 : Decoder Int) c (pc + 1 + 1)) (fun w => Except.ok (Instr.iinc y.toNat w.1, w.2)) = _
    rw [zs1 (zdr_1 (zdr_1 hr)), hn, hk]
    rfl
  · exact absurd h (by decide)
theorem zo_1 {c : ByteArray} {pc : Nat} (h : zk0 c pc 1 = true) : decode c pc = .ok (.aconst_null, 1) := zD0 (op := 1) rfl rfl h
theorem zo_2 {c : ByteArray} {pc : Nat} (h : zk0 c pc 2 = true) : decode c pc = .ok (.iconst (-1), 1) := zD0 (op := 2) rfl rfl h
theorem zo_3 {c : ByteArray} {pc : Nat} (h : zk0 c pc 3 = true) : decode c pc = .ok (.iconst 0, 1) := zD0 (op := 3) rfl rfl h
theorem zo_4 {c : ByteArray} {pc : Nat} (h : zk0 c pc 4 = true) : decode c pc = .ok (.iconst 1, 1) := zD0 (op := 4) rfl rfl h
theorem zo_5 {c : ByteArray} {pc : Nat} (h : zk0 c pc 5 = true) : decode c pc = .ok (.iconst 2, 1) := zD0 (op := 5) rfl rfl h
theorem zo_6 {c : ByteArray} {pc : Nat} (h : zk0 c pc 6 = true) : decode c pc = .ok (.iconst 3, 1) := zD0 (op := 6) rfl rfl h
theorem zo_7 {c : ByteArray} {pc : Nat} (h : zk0 c pc 7 = true) : decode c pc = .ok (.iconst 4, 1) := zD0 (op := 7) rfl rfl h
theorem zo_8 {c : ByteArray} {pc : Nat} (h : zk0 c pc 8 = true) : decode c pc = .ok (.iconst 5, 1) := zD0 (op := 8) rfl rfl h
theorem zo_9 {c : ByteArray} {pc : Nat} (h : zk0 c pc 9 = true) : decode c pc = .ok (.lconst 0, 1) := zD0 (op := 9) rfl rfl h
theorem zo_16 {c : ByteArray} {pc : Nat} {n : Int} (h : zks1 c pc 16 n = true) : decode c pc = .ok (.bipush n, 2) := zDs1 (G := fun n => .bipush n) (op := 16) rfl rfl h
theorem zo_17 {c : ByteArray} {pc : Nat} {n : Int} (h : zks2 c pc 17 n = true) : decode c pc = .ok (.sipush n, 3) := zDs2 (G := fun n => .sipush n) (op := 17) rfl rfl h
theorem zo_18 {c : ByteArray} {pc : Nat} {n : Nat} (h : zk1 c pc 18 n = true) : decode c pc = .ok (.ldc n, 2) := zD1 (G := fun n => .ldc n) (op := 18) rfl rfl h
theorem zo_19 {c : ByteArray} {pc : Nat} {n : Nat} (h : zk2 c pc 19 n = true) : decode c pc = .ok (.ldc_w n, 3) := zD2 (G := fun n => .ldc_w n) (op := 19) rfl rfl h
theorem zo_20 {c : ByteArray} {pc : Nat} {n : Nat} (h : zk2 c pc 20 n = true) : decode c pc = .ok (.ldc2_w n, 3) := zD2 (G := fun n => .ldc2_w n) (op := 20) rfl rfl h
theorem zo_21 {c : ByteArray} {pc : Nat} {n : Nat} (h : zk1 c pc 21 n = true) : decode c pc = .ok (.iload n, 2) := zD1 (G := fun n => .iload n) (op := 21) rfl rfl h
theorem zo_25 {c : ByteArray} {pc : Nat} {n : Nat} (h : zk1 c pc 25 n = true) : decode c pc = .ok (.aload n, 2) := zD1 (G := fun n => .aload n) (op := 25) rfl rfl h
theorem zo_26 {c : ByteArray} {pc : Nat} (h : zk0 c pc 26 = true) : decode c pc = .ok (.iload_n 0, 1) := zD0 (op := 26) rfl rfl h
theorem zo_27 {c : ByteArray} {pc : Nat} (h : zk0 c pc 27 = true) : decode c pc = .ok (.iload_n 1, 1) := zD0 (op := 27) rfl rfl h
theorem zo_28 {c : ByteArray} {pc : Nat} (h : zk0 c pc 28 = true) : decode c pc = .ok (.iload_n 2, 1) := zD0 (op := 28) rfl rfl h
theorem zo_29 {c : ByteArray} {pc : Nat} (h : zk0 c pc 29 = true) : decode c pc = .ok (.iload_n 3, 1) := zD0 (op := 29) rfl rfl h
theorem zo_30 {c : ByteArray} {pc : Nat} (h : zk0 c pc 30 = true) : decode c pc = .ok (.lload_n 0, 1) := zD0 (op := 30) rfl rfl h
theorem zo_32 {c : ByteArray} {pc : Nat} (h : zk0 c pc 32 = true) : decode c pc = .ok (.lload_n 2, 1) := zD0 (op := 32) rfl rfl h
theorem zo_42 {c : ByteArray} {pc : Nat} (h : zk0 c pc 42 = true) : decode c pc = .ok (.aload_n 0, 1) := zD0 (op := 42) rfl rfl h
theorem zo_43 {c : ByteArray} {pc : Nat} (h : zk0 c pc 43 = true) : decode c pc = .ok (.aload_n 1, 1) := zD0 (op := 43) rfl rfl h
theorem zo_44 {c : ByteArray} {pc : Nat} (h : zk0 c pc 44 = true) : decode c pc = .ok (.aload_n 2, 1) := zD0 (op := 44) rfl rfl h
theorem zo_45 {c : ByteArray} {pc : Nat} (h : zk0 c pc 45 = true) : decode c pc = .ok (.aload_n 3, 1) := zD0 (op := 45) rfl rfl h
theorem zo_46 {c : ByteArray} {pc : Nat} (h : zk0 c pc 46 = true) : decode c pc = .ok (.iaload, 1) := zD0 (op := 46) rfl rfl h
theorem zo_50 {c : ByteArray} {pc : Nat} (h : zk0 c pc 50 = true) : decode c pc = .ok (.aaload, 1) := zD0 (op := 50) rfl rfl h
theorem zo_51 {c : ByteArray} {pc : Nat} (h : zk0 c pc 51 = true) : decode c pc = .ok (.baload, 1) := zD0 (op := 51) rfl rfl h
theorem zo_54 {c : ByteArray} {pc : Nat} {n : Nat} (h : zk1 c pc 54 n = true) : decode c pc = .ok (.istore n, 2) := zD1 (G := fun n => .istore n) (op := 54) rfl rfl h
theorem zo_58 {c : ByteArray} {pc : Nat} {n : Nat} (h : zk1 c pc 58 n = true) : decode c pc = .ok (.astore n, 2) := zD1 (G := fun n => .astore n) (op := 58) rfl rfl h
theorem zo_59 {c : ByteArray} {pc : Nat} (h : zk0 c pc 59 = true) : decode c pc = .ok (.istore_n 0, 1) := zD0 (op := 59) rfl rfl h
theorem zo_60 {c : ByteArray} {pc : Nat} (h : zk0 c pc 60 = true) : decode c pc = .ok (.istore_n 1, 1) := zD0 (op := 60) rfl rfl h
theorem zo_61 {c : ByteArray} {pc : Nat} (h : zk0 c pc 61 = true) : decode c pc = .ok (.istore_n 2, 1) := zD0 (op := 61) rfl rfl h
theorem zo_62 {c : ByteArray} {pc : Nat} (h : zk0 c pc 62 = true) : decode c pc = .ok (.istore_n 3, 1) := zD0 (op := 62) rfl rfl h
theorem zo_65 {c : ByteArray} {pc : Nat} (h : zk0 c pc 65 = true) : decode c pc = .ok (.lstore_n 2, 1) := zD0 (op := 65) rfl rfl h
theorem zo_76 {c : ByteArray} {pc : Nat} (h : zk0 c pc 76 = true) : decode c pc = .ok (.astore_n 1, 1) := zD0 (op := 76) rfl rfl h
theorem zo_77 {c : ByteArray} {pc : Nat} (h : zk0 c pc 77 = true) : decode c pc = .ok (.astore_n 2, 1) := zD0 (op := 77) rfl rfl h
theorem zo_78 {c : ByteArray} {pc : Nat} (h : zk0 c pc 78 = true) : decode c pc = .ok (.astore_n 3, 1) := zD0 (op := 78) rfl rfl h
theorem zo_79 {c : ByteArray} {pc : Nat} (h : zk0 c pc 79 = true) : decode c pc = .ok (.iastore, 1) := zD0 (op := 79) rfl rfl h
theorem zo_83 {c : ByteArray} {pc : Nat} (h : zk0 c pc 83 = true) : decode c pc = .ok (.aastore, 1) := zD0 (op := 83) rfl rfl h
theorem zo_84 {c : ByteArray} {pc : Nat} (h : zk0 c pc 84 = true) : decode c pc = .ok (.bastore, 1) := zD0 (op := 84) rfl rfl h
theorem zo_87 {c : ByteArray} {pc : Nat} (h : zk0 c pc 87 = true) : decode c pc = .ok (.pop, 1) := zD0 (op := 87) rfl rfl h
theorem zo_89 {c : ByteArray} {pc : Nat} (h : zk0 c pc 89 = true) : decode c pc = .ok (.dup, 1) := zD0 (op := 89) rfl rfl h
theorem zo_92 {c : ByteArray} {pc : Nat} (h : zk0 c pc 92 = true) : decode c pc = .ok (.dup2, 1) := zD0 (op := 92) rfl rfl h
theorem zo_96 {c : ByteArray} {pc : Nat} (h : zk0 c pc 96 = true) : decode c pc = .ok (.iadd, 1) := zD0 (op := 96) rfl rfl h
theorem zo_97 {c : ByteArray} {pc : Nat} (h : zk0 c pc 97 = true) : decode c pc = .ok (.ladd, 1) := zD0 (op := 97) rfl rfl h
theorem zo_100 {c : ByteArray} {pc : Nat} (h : zk0 c pc 100 = true) : decode c pc = .ok (.isub, 1) := zD0 (op := 100) rfl rfl h
theorem zo_101 {c : ByteArray} {pc : Nat} (h : zk0 c pc 101 = true) : decode c pc = .ok (.lsub, 1) := zD0 (op := 101) rfl rfl h
theorem zo_104 {c : ByteArray} {pc : Nat} (h : zk0 c pc 104 = true) : decode c pc = .ok (.imul, 1) := zD0 (op := 104) rfl rfl h
theorem zo_105 {c : ByteArray} {pc : Nat} (h : zk0 c pc 105 = true) : decode c pc = .ok (.lmul, 1) := zD0 (op := 105) rfl rfl h
theorem zo_108 {c : ByteArray} {pc : Nat} (h : zk0 c pc 108 = true) : decode c pc = .ok (.idiv, 1) := zD0 (op := 108) rfl rfl h
theorem zo_112 {c : ByteArray} {pc : Nat} (h : zk0 c pc 112 = true) : decode c pc = .ok (.irem, 1) := zD0 (op := 112) rfl rfl h
theorem zo_120 {c : ByteArray} {pc : Nat} (h : zk0 c pc 120 = true) : decode c pc = .ok (.ishl, 1) := zD0 (op := 120) rfl rfl h
theorem zo_122 {c : ByteArray} {pc : Nat} (h : zk0 c pc 122 = true) : decode c pc = .ok (.ishr, 1) := zD0 (op := 122) rfl rfl h
theorem zo_124 {c : ByteArray} {pc : Nat} (h : zk0 c pc 124 = true) : decode c pc = .ok (.iushr, 1) := zD0 (op := 124) rfl rfl h
theorem zo_126 {c : ByteArray} {pc : Nat} (h : zk0 c pc 126 = true) : decode c pc = .ok (.iand, 1) := zD0 (op := 126) rfl rfl h
theorem zo_128 {c : ByteArray} {pc : Nat} (h : zk0 c pc 128 = true) : decode c pc = .ok (.ior, 1) := zD0 (op := 128) rfl rfl h
theorem zo_130 {c : ByteArray} {pc : Nat} (h : zk0 c pc 130 = true) : decode c pc = .ok (.ixor, 1) := zD0 (op := 130) rfl rfl h
theorem zo_132 {c : ByteArray} {pc n : Nat} {k : Int} (h : zki c pc n k = true) : decode c pc = .ok (.iinc n k, 3) := zDi (F := _) rfl rfl h
theorem zo_133 {c : ByteArray} {pc : Nat} (h : zk0 c pc 133 = true) : decode c pc = .ok (.i2l, 1) := zD0 (op := 133) rfl rfl h
theorem zo_145 {c : ByteArray} {pc : Nat} (h : zk0 c pc 145 = true) : decode c pc = .ok (.i2b, 1) := zD0 (op := 145) rfl rfl h
theorem zo_146 {c : ByteArray} {pc : Nat} (h : zk0 c pc 146 = true) : decode c pc = .ok (.i2c, 1) := zD0 (op := 146) rfl rfl h
theorem zo_148 {c : ByteArray} {pc : Nat} (h : zk0 c pc 148 = true) : decode c pc = .ok (.lcmp, 1) := zD0 (op := 148) rfl rfl h
theorem zo_153 {c : ByteArray} {pc : Nat} {n : Int} (h : zks2 c pc 153 n = true) : decode c pc = .ok (.ifCond .eq n, 3) := zDs2 (G := fun n => .ifCond .eq n) (op := 153) rfl rfl h
theorem zo_154 {c : ByteArray} {pc : Nat} {n : Int} (h : zks2 c pc 154 n = true) : decode c pc = .ok (.ifCond .ne n, 3) := zDs2 (G := fun n => .ifCond .ne n) (op := 154) rfl rfl h
theorem zo_155 {c : ByteArray} {pc : Nat} {n : Int} (h : zks2 c pc 155 n = true) : decode c pc = .ok (.ifCond .lt n, 3) := zDs2 (G := fun n => .ifCond .lt n) (op := 155) rfl rfl h
theorem zo_156 {c : ByteArray} {pc : Nat} {n : Int} (h : zks2 c pc 156 n = true) : decode c pc = .ok (.ifCond .ge n, 3) := zDs2 (G := fun n => .ifCond .ge n) (op := 156) rfl rfl h
theorem zo_158 {c : ByteArray} {pc : Nat} {n : Int} (h : zks2 c pc 158 n = true) : decode c pc = .ok (.ifCond .le n, 3) := zDs2 (G := fun n => .ifCond .le n) (op := 158) rfl rfl h
theorem zo_159 {c : ByteArray} {pc : Nat} {n : Int} (h : zks2 c pc 159 n = true) : decode c pc = .ok (.if_icmp .eq n, 3) := zDs2 (G := fun n => .if_icmp .eq n) (op := 159) rfl rfl h
theorem zo_160 {c : ByteArray} {pc : Nat} {n : Int} (h : zks2 c pc 160 n = true) : decode c pc = .ok (.if_icmp .ne n, 3) := zDs2 (G := fun n => .if_icmp .ne n) (op := 160) rfl rfl h
theorem zo_161 {c : ByteArray} {pc : Nat} {n : Int} (h : zks2 c pc 161 n = true) : decode c pc = .ok (.if_icmp .lt n, 3) := zDs2 (G := fun n => .if_icmp .lt n) (op := 161) rfl rfl h
theorem zo_162 {c : ByteArray} {pc : Nat} {n : Int} (h : zks2 c pc 162 n = true) : decode c pc = .ok (.if_icmp .ge n, 3) := zDs2 (G := fun n => .if_icmp .ge n) (op := 162) rfl rfl h
theorem zo_163 {c : ByteArray} {pc : Nat} {n : Int} (h : zks2 c pc 163 n = true) : decode c pc = .ok (.if_icmp .gt n, 3) := zDs2 (G := fun n => .if_icmp .gt n) (op := 163) rfl rfl h
theorem zo_164 {c : ByteArray} {pc : Nat} {n : Int} (h : zks2 c pc 164 n = true) : decode c pc = .ok (.if_icmp .le n, 3) := zDs2 (G := fun n => .if_icmp .le n) (op := 164) rfl rfl h
theorem zo_167 {c : ByteArray} {pc : Nat} {n : Int} (h : zks2 c pc 167 n = true) : decode c pc = .ok (.goto n, 3) := zDs2 (G := fun n => .goto n) (op := 167) rfl rfl h
theorem zo_172 {c : ByteArray} {pc : Nat} (h : zk0 c pc 172 = true) : decode c pc = .ok (.ireturn, 1) := zD0 (op := 172) rfl rfl h
theorem zo_173 {c : ByteArray} {pc : Nat} (h : zk0 c pc 173 = true) : decode c pc = .ok (.lreturn, 1) := zD0 (op := 173) rfl rfl h
theorem zo_176 {c : ByteArray} {pc : Nat} (h : zk0 c pc 176 = true) : decode c pc = .ok (.areturn, 1) := zD0 (op := 176) rfl rfl h
theorem zo_177 {c : ByteArray} {pc : Nat} (h : zk0 c pc 177 = true) : decode c pc = .ok (.return_, 1) := zD0 (op := 177) rfl rfl h
theorem zo_178 {c : ByteArray} {pc : Nat} {n : Nat} (h : zk2 c pc 178 n = true) : decode c pc = .ok (.getstatic n, 3) := zD2 (G := fun n => .getstatic n) (op := 178) rfl rfl h
theorem zo_180 {c : ByteArray} {pc : Nat} {n : Nat} (h : zk2 c pc 180 n = true) : decode c pc = .ok (.getfield n, 3) := zD2 (G := fun n => .getfield n) (op := 180) rfl rfl h
theorem zo_181 {c : ByteArray} {pc : Nat} {n : Nat} (h : zk2 c pc 181 n = true) : decode c pc = .ok (.putfield n, 3) := zD2 (G := fun n => .putfield n) (op := 181) rfl rfl h
theorem zo_182 {c : ByteArray} {pc : Nat} {n : Nat} (h : zk2 c pc 182 n = true) : decode c pc = .ok (.invokevirtual n, 3) := zD2 (G := fun n => .invokevirtual n) (op := 182) rfl rfl h
theorem zo_183 {c : ByteArray} {pc : Nat} {n : Nat} (h : zk2 c pc 183 n = true) : decode c pc = .ok (.invokespecial n, 3) := zD2 (G := fun n => .invokespecial n) (op := 183) rfl rfl h
theorem zo_184 {c : ByteArray} {pc : Nat} {n : Nat} (h : zk2 c pc 184 n = true) : decode c pc = .ok (.invokestatic n, 3) := zD2 (G := fun n => .invokestatic n) (op := 184) rfl rfl h
theorem zo_187 {c : ByteArray} {pc : Nat} {n : Nat} (h : zk2 c pc 187 n = true) : decode c pc = .ok (.new n, 3) := zD2 (G := fun n => .new n) (op := 187) rfl rfl h
theorem zo_189 {c : ByteArray} {pc : Nat} {n : Nat} (h : zk2 c pc 189 n = true) : decode c pc = .ok (.anewarray n, 3) := zD2 (G := fun n => .anewarray n) (op := 189) rfl rfl h
theorem zo_190 {c : ByteArray} {pc : Nat} (h : zk0 c pc 190 = true) : decode c pc = .ok (.arraylength, 1) := zD0 (op := 190) rfl rfl h
theorem zo_198 {c : ByteArray} {pc : Nat} {n : Int} (h : zks2 c pc 198 n = true) : decode c pc = .ok (.ifnull n, 3) := zDs2 (G := fun n => .ifnull n) (op := 198) rfl rfl h
theorem zo_199 {c : ByteArray} {pc : Nat} {n : Int} (h : zks2 c pc 199 n = true) : decode c pc = .ok (.ifnonnull n, 3) := zDs2 (G := fun n => .ifnonnull n) (op := 199) rfl rfl h
theorem zdr_a {l : List UInt8} {a p : Nat} : zdr l (a + p) = zdr (zdr l a) p := by
  rw [zdr_e, zdr_e, zdr_e]
  exact List.drop_drop.symm
noncomputable def zl0 (l : List UInt8) (p op : Nat) : Bool := match zdr l p with
  | x :: _ => Nat.beq x.toNat op
  | [] => false
theorem zT0 {c : ByteArray} {l : List UInt8} {a : Nat} {p : Nat} {op : Nat} (e : zdr c.data.toList a = l) (h : zl0 l p op = true) : zk0 c (a + p) op = true := by
  unfold zk0
  unfold zl0 at h
  rw [zdr_a, e]
  exact h
noncomputable def zl2 (l : List UInt8) (p op n : Nat) : Bool := match zdr l p with
  | x :: y :: z :: _ => Nat.beq x.toNat op && Nat.beq (y.toNat * 256 + z.toNat) n
  | _ => false
theorem zT2 {c : ByteArray} {l : List UInt8} {a : Nat} {p : Nat} {op : Nat} {n : Nat} (e : zdr c.data.toList a = l) (h : zl2 l p op n = true) : zk2 c (a + p) op n = true := by
  unfold zk2
  unfold zl2 at h
  rw [zdr_a, e]
  exact h
noncomputable def zls2 (l : List UInt8) (p op : Nat) (n : Int) : Bool := match zdr l p with
  | x :: y :: z :: _ => Nat.beq x.toNat op && decide (Reader.signed 16 (y.toNat * 256 + z.toNat) = n)
  | _ => false
theorem zTs2 {c : ByteArray} {l : List UInt8} {a : Nat} {p : Nat} {op : Nat} {n : Int} (e : zdr c.data.toList a = l) (h : zls2 l p op n = true) : zks2 c (a + p) op n = true := by
  unfold zks2
  unfold zls2 at h
  rw [zdr_a, e]
  exact h
noncomputable def zli (l : List UInt8) (p n : Nat) (k : Int) : Bool := match zdr l p with
  | x :: y :: z :: _ => Nat.beq x.toNat 132 && (Nat.beq y.toNat n && decide (Reader.signed 8 z.toNat = k))
  | _ => false
theorem zTi {c : ByteArray} {l : List UInt8} {a : Nat} {p : Nat} {n : Nat} {k : Int} (e : zdr c.data.toList a = l) (h : zli l p n k = true) : zki c (a + p) n k = true := by
  unfold zki
  unfold zli at h
  rw [zdr_a, e]
  exact h
set_option maxRecDepth 100000 in
def zLt0 : List UInt8 := [0x60, 0x2e, 0xb6, 0x00, 0x5c, 0x57, 0x2c, 0x2a, 0x1d, 0x04, 0x60, 0x2e, 0x2a, 0x1d, 0x05, 0x60, 0x2e, 0x2a, 0x1d, 0x06, 0x60, 0x2e, 0xb6, 0x00, 0x5f, 0x57, 0xa7, 0x02, 0xe5, 0x2b, 0x2a, 0x1d, 0x04, 0x60, 0x2e, 0x2a, 0x1d, 0x05, 0x60, 0x2e, 0x2a, 0x1d, 0x06, 0x60, 0x2e, 0x2a, 0x1d, 0x07, 0x60, 0x2e, 0xb6, 0x00, 0x60, 0x57, 0x2c, 0x2a, 0x1d, 0x04, 0x60, 0x2e, 0x2a, 0x1d, 0x05, 0x60, 0x2e, 0x2a, 0x1d, 0x06, 0x60, 0x2e, 0x2a, 0x1d, 0x07, 0x60, 0x2e, 0xb6, 0x00, 0x63, 0x57, 0xa7, 0x02, 0xb0, 0x2b, 0x2a, 0x1d, 0x04, 0x60, 0x2e, 0x2a, 0x1d, 0x05, 0x60, 0x2e, 0x2a, 0x1d, 0x06, 0x60, 0x2e, 0xb6, 0x00, 0x64, 0x57, 0x2c, 0x2a, 0x1d, 0x04, 0x60, 0x2e, 0x2a, 0x1d, 0x05, 0x60, 0x2e, 0x2a, 0x1d, 0x06, 0x60, 0x2e, 0xb6, 0x00, 0x67, 0x57, 0xa7, 0x02, 0x85, 0x2b, 0x2a, 0x1d, 0x04, 0x60, 0x2e, 0x2a, 0x1d, 0x05, 0x60, 0x2e, 0x2a, 0x1d, 0x06, 0x60, 0x2e, 0xb6, 0x00, 0x68, 0x57, 0x2c, 0x2a, 0x1d, 0x04, 0x60, 0x2e, 0x2a, 0x1d, 0x05, 0x60, 0x2e, 0x2a, 0x1d, 0x06, 0x60, 0x2e, 0xb6, 0x00, 0x6b, 0x57, 0xa7, 0x02, 0x5a, 0x2b, 0x2a, 0x1d, 0x04, 0x60, 0x2e, 0x2a, 0x1d, 0x05, 0x60, 0x2e, 0xb6, 0x00, 0x6c, 0x57, 0x2c, 0x2a, 0x1d, 0x04, 0x60, 0x2e, 0x2a, 0x1d, 0x05, 0x60, 0x2e, 0xb6, 0x00, 0x6f, 0x57, 0xa7, 0x02, 0x39, 0x2b, 0x2a, 0x1d, 0x04, 0x60, 0x2e, 0x2a, 0x1d, 0x05, 0x60, 0x2e, 0x2a, 0x1d, 0x06, 0x60, 0x2e, 0xb6, 0x00, 0x70, 0x57, 0x2c, 0x2a, 0x1d, 0x04, 0x60, 0x2e, 0x2a, 0x1d, 0x05, 0x60, 0x2e, 0x2a, 0x1d, 0x06, 0x60, 0x2e, 0xb6, 0x00, 0x73, 0x57, 0xa7, 0x02, 0x0e, 0x2b, 0x2a, 0x1d, 0x04, 0x60, 0x2e, 0x2a, 0x1d, 0x05, 0x60, 0x2e, 0x2a, 0x1d, 0x06, 0x60, 0x2e, 0xb6, 0x00, 0x74, 0x57, 0x2c, 0x2a, 0x1d, 0x04, 0x60, 0x2e, 0x2a, 0x1d, 0x05, 0x60, 0x2e, 0x2a, 0x1d, 0x06, 0x60, 0x2e, 0xb6, 0x00, 0x77, 0x57, 0xa7, 0x01, 0xe3, 0x2b, 0x2a, 0x1d, 0x04, 0x60, 0x2e, 0x2a, 0x1d, 0x05, 0x60, 0x2e, 0x2a, 0x1d, 0x06, 0x60, 0x2e, 0x2a, 0x1d, 0x07, 0x60, 0x2e, 0xb6, 0x00, 0x78, 0x57, 0x2c, 0x2a, 0x1d, 0x04, 0x60, 0x2e, 0x2a, 0x1d, 0x05, 0x60, 0x2e, 0x2a, 0x1d, 0x06, 0x60, 0x2e, 0x2a, 0x1d, 0x07, 0x60, 0x2e, 0xb6, 0x00, 0x7b, 0x57, 0xa7, 0x01, 0xae, 0x2b, 0x2a, 0x1d, 0x04, 0x60, 0x2e, 0x2a, 0x1d, 0x05, 0x60, 0x2e, 0x2a, 0x1d, 0x06, 0x60, 0x2e, 0x99, 0x00, 0x07, 0x04, 0xa7, 0x00, 0x04, 0x03, 0x2a, 0x1d, 0x07, 0x60, 0x2e, 0x99, 0x00, 0x07, 0x04, 0xa7, 0x00, 0x04, 0x03, 0xb6, 0x00, 0x7c, 0x57, 0x2c, 0x2a, 0x1d, 0x04, 0x60, 0x2e, 0x2a, 0x1d, 0x05, 0x60, 0x2e, 0x2a, 0x1d, 0x06, 0x60, 0x2e, 0x99, 0x00, 0x07, 0x04, 0xa7, 0x00, 0x04, 0x03, 0x2a, 0x1d, 0x07, 0x60, 0x2e, 0x99, 0x00, 0x07, 0x04, 0xa7, 0x00, 0x04, 0x03, 0xb6, 0x00, 0x80, 0x57, 0xa7, 0x01, 0x59, 0x2b, 0x2a, 0x1d, 0x04, 0x60, 0x2e, 0x2a, 0x1d, 0x05, 0x60, 0x2e, 0xb6, 0x00, 0x81, 0x57, 0x2c, 0x2a, 0x1d, 0x04, 0x60, 0x2e, 0x2a, 0x1d, 0x05, 0x60, 0x2e, 0xb6, 0x00, 0x84, 0x57, 0xa7, 0x01, 0x38, 0x2b, 0x2a, 0x1d, 0x04, 0x60, 0x2e, 0x2a, 0x1d, 0x05, 0x60, 0x2e, 0x2a, 0x1d, 0x06, 0x60, 0x2e, 0x99, 0x00, 0x07, 0x04, 0xa7, 0x00, 0x04, 0x03, 0xb6, 0x00, 0x85, 0x57, 0x2c, 0x2a, 0x1d, 0x04, 0x60, 0x2e, 0x2a, 0x1d, 0x05, 0x60, 0x2e, 0x2a, 0x1d, 0x06, 0x60, 0x2e, 0x99, 0x00, 0x07, 0x04, 0xa7, 0x00, 0x04, 0x03, 0xb6, 0x00, 0x88, 0x57, 0xa7, 0x00, 0xfd, 0x2b, 0x2a, 0x1d, 0x04, 0x60, 0x2e, 0x2a, 0x1d, 0x05, 0x60, 0x2e, 0x2a, 0x1d, 0x06, 0x60, 0x2e, 0xb6, 0x00, 0x89, 0x57, 0x2c, 0x2a, 0x1d, 0x04, 0x60, 0x2e, 0x2a, 0x1d, 0x05, 0x60, 0x2e, 0x2a, 0x1d, 0x06, 0x60, 0x2e, 0xb6, 0x00, 0x8c, 0x57, 0xa7, 0x00, 0xd2, 0x2b, 0x2a, 0x1d, 0x04, 0x60, 0x2e, 0x2a, 0x1d, 0x05, 0x60, 0x2e, 0x2a, 0x1d, 0x06, 0x60, 0x2e, 0x2a, 0x1d, 0x07, 0x60, 0x2e, 0x2a, 0x1d, 0x08, 0x60, 0x2e, 0x99, 0x00, 0x07, 0x04, 0xa7, 0x00, 0x04, 0x03, 0xb6, 0x00, 0x8d, 0x57, 0x2c, 0x2a, 0x1d, 0x04, 0x60, 0x2e, 0x2a, 0x1d, 0x05, 0x60, 0x2e, 0x2a, 0x1d, 0x06, 0x60, 0x2e, 0x2a, 0x1d, 0x07, 0x60, 0x2e, 0x2a, 0x1d, 0x08, 0x60, 0x2e, 0x99, 0x00, 0x07, 0x04, 0xa7, 0x00, 0x04, 0x03, 0xb6, 0x00, 0x91, 0x57, 0xa7, 0x00, 0x83, 0x2b, 0x2a, 0x1d, 0x04, 0x60, 0x2e, 0x2a, 0x1d, 0x05, 0x60, 0x2e, 0x2a, 0x1d, 0x06, 0x60, 0x2e, 0x99, 0x00, 0x07, 0x04, 0xa7, 0x00, 0x04, 0x03, 0xb6, 0x00, 0x92, 0x57, 0x2c, 0x2a, 0x1d, 0x04, 0x60, 0x2e, 0x2a, 0x1d, 0x05, 0x60, 0x2e, 0x2a, 0x1d, 0x06, 0x60, 0x2e, 0x99, 0x00, 0x07, 0x04, 0xa7, 0x00, 0x04, 0x03, 0xb6, 0x00, 0x95, 0x57, 0xa7, 0x00, 0x48, 0x2b, 0x2a, 0x1d, 0x04, 0x60, 0x2e, 0xb6, 0x00, 0x96, 0x57, 0x2c, 0x2a, 0x1d, 0x04, 0x60, 0x2e, 0xb6, 0x00, 0x99, 0x57, 0xa7, 0x00, 0x31, 0x2b, 0x2a, 0x1d, 0x04, 0x60, 0x2e, 0xb6, 0x00, 0x9a, 0x57, 0x2c, 0x2a, 0x1d, 0x04, 0x60, 0x2e, 0xb6, 0x00, 0x9e, 0x57, 0xa7, 0x00, 0x1a, 0x2b, 0x2a, 0x1d, 0x04, 0x60, 0x2e, 0xb6, 0x00, 0x9f, 0x57, 0x2c, 0x2a, 0x1d, 0x04, 0x60, 0x2e, 0xb6, 0x00, 0xa2, 0x57, 0xa7, 0x00, 0x03, 0x84, 0x03, 0x06, 0xa7, 0xf9, 0x28, 0x04, 0xac]
set_option maxRecDepth 100000 in
theorem zLt0_e : zdr cL_law.data.toList 1000 = zLt0 := rfl

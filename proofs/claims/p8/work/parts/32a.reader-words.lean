theorem m_fl_RX7_55 : Cond.fieldLink RX7 55 (TX7 11).1 (TX7 11).2.1 (TX7 11).2.2.1 ∈ zT := zmem1 zsub_1 187 (by decide +kernel) (by decide +kernel)
theorem m_fl_RX7_49 : Cond.fieldLink RX7 49 (TX7 3).1 (TX7 3).2.1 (TX7 3).2.2.1 ∈ zT := zmem1 zsub_1 177 (by decide +kernel) (by decide +kernel)
theorem m_fl_RX7_84 : Cond.fieldLink RX7 84 (TX7 9).1 (TX7 9).2.1 (TX7 9).2.2.1 ∈ zT := zmem1 zsub_1 185 (by decide +kernel) (by decide +kernel)
theorem m_fl_RX7_52 : Cond.fieldLink RX7 52 (TX7 4).1 (TX7 4).2.1 (TX7 4).2.2.1 ∈ zT := zmem1 zsub_1 179 (by decide +kernel) (by decide +kernel)
theorem m_fl_RX7_59 : Cond.fieldLink RX7 59 (TX7 12).1 (TX7 12).2.1 (TX7 12).2.2.1 ∈ zT := zmem1 zsub_1 188 (by decide +kernel) (by decide +kernel)
theorem m_fl_RX7_74 : Cond.fieldLink RX7 74 (TX7 8).1 (TX7 8).2.1 (TX7 8).2.2.1 ∈ zT := zmem1 zsub_1 184 (by decide +kernel) (by decide +kernel)
theorem m_fl_RX7_46 : Cond.fieldLink RX7 46 (TX7 7).1 (TX7 7).2.1 (TX7 7).2.2.1 ∈ zT := zmem1 zsub_1 183 (by decide +kernel) (by decide +kernel)
theorem m_fl_RX7_42 : Cond.fieldLink RX7 42 (TX7 6).1 (TX7 6).2.1 (TX7 6).2.2.1 ∈ zT := zmem1 zsub_1 182 (by decide +kernel) (by decide +kernel)
theorem m_co_X7_isLetter : Cond.code yX7_isLetter cX7_isLetter 1 (some .boolean) ∈ zT := zmem1 zsub_3 10 (by decide +kernel) (by decide +kernel)
theorem m_ml_RX7_148 : Cond.methodLink RX7 148 yX7_isLetter ∈ zT := zmem1 zsub_3 8 (by decide +kernel) (by decide +kernel)
theorem m_st_X7_isLetter : Cond.static yX7_isLetter ∈ zT := zmem1 zsub_3 9 (by decide +kernel) (by decide +kernel)
theorem m_ii_RX7 : Cond.initialized RX7 ∈ zT := zmem1 zsub_1 6 (by decide +kernel) (by decide +kernel)
theorem m_fl_RX7_141 : Cond.fieldLink RX7 141 (TX7 10).1 (TX7 10).2.1 (TX7 10).2.2.1 ∈ zT := zmem1 zsub_1 186 (by decide +kernel) (by decide +kernel)
theorem m_co_X7_isDigit : Cond.code yX7_isDigit cX7_isDigit 1 (some .boolean) ∈ zT := zmem1 zsub_3 17 (by decide +kernel) (by decide +kernel)
theorem m_ml_RX7_154 : Cond.methodLink RX7 154 yX7_isDigit ∈ zT := zmem1 zsub_3 15 (by decide +kernel) (by decide +kernel)
theorem m_st_X7_isDigit : Cond.static yX7_isDigit ∈ zT := zmem1 zsub_3 16 (by decide +kernel) (by decide +kernel)
theorem m_ml_RX7_36 : Cond.methodLink RX7 36 Lib.Math.min.name ∈ zT := zmem1 zsub_2 234 (by decide +kernel) (by decide +kernel)
theorem m_co_X7_takeLetters : Cond.code yX7_takeLetters cX7_takeLetters 1 none ∈ zT := zmem1 zsub_3 14 (by decide +kernel) (by decide +kernel)
theorem m_ml_RX7_151 : Cond.methodLink RX7 151 yX7_takeLetters ∈ zT := zmem1 zsub_3 11 (by decide +kernel) (by decide +kernel)
theorem m_im_X7_takeLetters : Cond.instanceMethod yX7_takeLetters ∈ zT := zmem1 zsub_3 13 (by decide +kernel) (by decide +kernel)
theorem m_se_X7_takeLetters : Cond.selects RX7 yX7_takeLetters yX7_takeLetters ∈ zT := zmem 1 (by decide +kernel) (by decide +kernel)
theorem m_co_X7_takeDigits : Cond.code yX7_takeDigits cX7_takeDigits 1 none ∈ zT := zmem1 zsub_3 21 (by decide +kernel) (by decide +kernel)
theorem m_ml_RX7_157 : Cond.methodLink RX7 157 yX7_takeDigits ∈ zT := zmem1 zsub_3 18 (by decide +kernel) (by decide +kernel)
theorem m_im_X7_takeDigits : Cond.instanceMethod yX7_takeDigits ∈ zT := zmem1 zsub_3 20 (by decide +kernel) (by decide +kernel)
theorem m_se_X7_takeDigits : Cond.selects RX7 yX7_takeDigits yX7_takeDigits ∈ zT := zmem 2 (by decide +kernel) (by decide +kernel)
theorem m_co_X7_isBlank : Cond.code yX7_isBlank cX7_isBlank 1 (some .boolean) ∈ zT := zmem1 zsub_3 7 (by decide +kernel) (by decide +kernel)
theorem m_ml_RX7_144 : Cond.methodLink RX7 144 yX7_isBlank ∈ zT := zmem1 zsub_3 5 (by decide +kernel) (by decide +kernel)
theorem m_st_X7_isBlank : Cond.static yX7_isBlank ∈ zT := zmem1 zsub_3 6 (by decide +kernel) (by decide +kernel)
theorem m_co_X7_breakHere : Cond.code yX7_breakHere cX7_breakHere 1 none ∈ zT := zmem1 zsub_3 97 (by decide +kernel) (by decide +kernel)
theorem m_ml_RX7_105 : Cond.methodLink RX7 105 yX7_breakHere ∈ zT := zmem1 zsub_3 94 (by decide +kernel) (by decide +kernel)
theorem m_im_X7_breakHere : Cond.instanceMethod yX7_breakHere ∈ zT := zmem1 zsub_3 96 (by decide +kernel) (by decide +kernel)
theorem m_se_X7_breakHere : Cond.selects RX7 yX7_breakHere yX7_breakHere ∈ zT := zmem 6 (by decide +kernel) (by decide +kernel)
theorem m_co_X7_nextToken : Cond.code yX7_nextToken cX7_nextToken 2 none ∈ zT := zmem1 zsub_3 4 (by decide +kernel) (by decide +kernel)
theorem m_ml_RX7_71 : Cond.methodLink RX7 71 yX7_nextToken ∈ zT := zmem1 zsub_3 1 (by decide +kernel) (by decide +kernel)
theorem m_im_X7_nextToken : Cond.instanceMethod yX7_nextToken ∈ zT := zmem1 zsub_3 3 (by decide +kernel) (by decide +kernel)
theorem m_se_X7_nextToken : Cond.selects RX7 yX7_nextToken yX7_nextToken ∈ zT := zmem 0 (by decide +kernel) (by decide +kernel)
theorem m_co_X7_note : Cond.code yX7_note cX7_note 3 none ∈ zT := zmem1 zsub_3 105 (by decide +kernel) (by decide +kernel)
theorem m_ml_RX7_90 : Cond.methodLink RX7 90 yX7_note ∈ zT := zmem1 zsub_3 102 (by decide +kernel) (by decide +kernel)
theorem m_im_X7_note : Cond.instanceMethod yX7_note ∈ zT := zmem1 zsub_3 104 (by decide +kernel) (by decide +kernel)
theorem m_se_X7_note : Cond.selects RX7 yX7_note yX7_note ∈ zT := zmem 8 (by decide +kernel) (by decide +kernel)
theorem m_co_J0_length_8abf5 : Cond.code yJ0_length_8abf5 cJ0_length_8abf5 1 (some .int) ∈ zT := zmem1 zsub_3 38 (by decide +kernel) (by decide +kernel)
theorem m_ml_RX7_185 : Cond.methodLink RX7 185 yJ0_length_8abf5 ∈ zT := zmem1 zsub_3 35 (by decide +kernel) (by decide +kernel)
theorem m_im_J0_length_8abf5 : Cond.instanceMethod yJ0_length_8abf5 ∈ zT := zmem1 zsub_3 36 (by decide +kernel) (by decide +kernel)
theorem m_se_J0_length_8abf5 : Cond.selects RJ0 yJ0_length_8abf5 yJ0_length_8abf5 ∈ zT := zmem1 zsub_3 37 (by decide +kernel) (by decide +kernel)
theorem m_co_J0_charAt_5068e : Cond.code yJ0_charAt_5068e cJ0_charAt_5068e 2 (some .char) ∈ zT := zmem1 zsub_3 48 (by decide +kernel) (by decide +kernel)
theorem m_ml_RX7_190 : Cond.methodLink RX7 190 yJ0_charAt_5068e ∈ zT := zmem1 zsub_3 45 (by decide +kernel) (by decide +kernel)
theorem m_im_J0_charAt_5068e : Cond.instanceMethod yJ0_charAt_5068e ∈ zT := zmem1 zsub_3 46 (by decide +kernel) (by decide +kernel)
theorem m_se_J0_charAt_5068e : Cond.selects RJ0 yJ0_charAt_5068e yJ0_charAt_5068e ∈ zT := zmem1 zsub_3 47 (by decide +kernel) (by decide +kernel)
theorem m_co_X7_reads : Cond.code yX7_reads cX7_reads 3 (some .boolean) ∈ zT := zmem1 zsub_3 34 (by decide +kernel) (by decide +kernel)
theorem m_ml_RX7_162 : Cond.methodLink RX7 162 yX7_reads ∈ zT := zmem1 zsub_3 31 (by decide +kernel) (by decide +kernel)
theorem m_im_X7_reads : Cond.instanceMethod yX7_reads ∈ zT := zmem1 zsub_3 33 (by decide +kernel) (by decide +kernel)
theorem m_se_X7_reads : Cond.selects RX7 yX7_reads yX7_reads ∈ zT := zmem 5 (by decide +kernel) (by decide +kernel)
theorem kS_RX7_148 {R : Room} {s : State} {args : Array Value} {d mc ms : Nat} (hts : ∀ w ∈ zT, w.before args s = true) (h1 : d + 1 ≤ R.frames) (h2 : 8 + (1 + 11) + 40 * d ≤ R.locals) : CallB R s args RX7 148 yX7_isLetter cX7_isLetter 1 (some .boolean) (zW yX7_isLetter cX7_isLetter 1 (some .boolean)) (zR d mc ms) mc ms 1 ∧ (Cond.static yX7_isLetter).before args s = true := z_cwS hts m_co_X7_isLetter m_ml_RX7_148 m_st_X7_isLetter m_ii_RX7 (by decide +kernel) h1 h2
theorem kS_RX7_154 {R : Room} {s : State} {args : Array Value} {d mc ms : Nat} (hts : ∀ w ∈ zT, w.before args s = true) (h1 : d + 1 ≤ R.frames) (h2 : 8 + (1 + 11) + 40 * d ≤ R.locals) : CallB R s args RX7 154 yX7_isDigit cX7_isDigit 1 (some .boolean) (zW yX7_isDigit cX7_isDigit 1 (some .boolean)) (zR d mc ms) mc ms 1 ∧ (Cond.static yX7_isDigit).before args s = true := z_cwS hts m_co_X7_isDigit m_ml_RX7_154 m_st_X7_isDigit m_ii_RX7 (by decide +kernel) h1 h2
theorem kV_RX7_151 {R : Room} {s : State} {args : Array Value} {d mc ms : Nat} (hts : ∀ w ∈ zT, w.before args s = true) (h1 : d + 1 ≤ R.frames) (h2 : 8 + (1 + 11) + 40 * d ≤ R.locals) : CallW R s args RX7 RX7 151 yX7_takeLetters cX7_takeLetters 1 none (zW yX7_takeLetters cX7_takeLetters 1 none) (zR d mc ms) mc ms 0 := z_cwV hts m_co_X7_takeLetters m_ml_RX7_151 m_im_X7_takeLetters m_se_X7_takeLetters m_ii_RX7 (by decide +kernel) h1 h2
theorem kV_RX7_157 {R : Room} {s : State} {args : Array Value} {d mc ms : Nat} (hts : ∀ w ∈ zT, w.before args s = true) (h1 : d + 1 ≤ R.frames) (h2 : 8 + (1 + 11) + 40 * d ≤ R.locals) : CallW R s args RX7 RX7 157 yX7_takeDigits cX7_takeDigits 1 none (zW yX7_takeDigits cX7_takeDigits 1 none) (zR d mc ms) mc ms 0 := z_cwV hts m_co_X7_takeDigits m_ml_RX7_157 m_im_X7_takeDigits m_se_X7_takeDigits m_ii_RX7 (by decide +kernel) h1 h2
theorem kS_RX7_144 {R : Room} {s : State} {args : Array Value} {d mc ms : Nat} (hts : ∀ w ∈ zT, w.before args s = true) (h1 : d + 1 ≤ R.frames) (h2 : 8 + (1 + 11) + 40 * d ≤ R.locals) : CallB R s args RX7 144 yX7_isBlank cX7_isBlank 1 (some .boolean) (zW yX7_isBlank cX7_isBlank 1 (some .boolean)) (zR d mc ms) mc ms 1 ∧ (Cond.static yX7_isBlank).before args s = true := z_cwS hts m_co_X7_isBlank m_ml_RX7_144 m_st_X7_isBlank m_ii_RX7 (by decide +kernel) h1 h2
theorem kV_RX7_105 {R : Room} {s : State} {args : Array Value} {d mc ms : Nat} (hts : ∀ w ∈ zT, w.before args s = true) (h1 : d + 1 ≤ R.frames) (h2 : 8 + (1 + 11) + 40 * d ≤ R.locals) : CallW R s args RX7 RX7 105 yX7_breakHere cX7_breakHere 1 none (zW yX7_breakHere cX7_breakHere 1 none) (zR d mc ms) mc ms 0 := z_cwV hts m_co_X7_breakHere m_ml_RX7_105 m_im_X7_breakHere m_se_X7_breakHere m_ii_RX7 (by decide +kernel) h1 h2
theorem kV_RX7_71 {R : Room} {s : State} {args : Array Value} {d mc ms : Nat} (hts : ∀ w ∈ zT, w.before args s = true) (h1 : d + 1 ≤ R.frames) (h2 : 8 + (2 + 11) + 40 * d ≤ R.locals) : CallW R s args RX7 RX7 71 yX7_nextToken cX7_nextToken 2 none (zW yX7_nextToken cX7_nextToken 2 none) (zR d mc ms) mc ms 0 := z_cwV hts m_co_X7_nextToken m_ml_RX7_71 m_im_X7_nextToken m_se_X7_nextToken m_ii_RX7 (by decide +kernel) h1 h2
theorem kV_RX7_90 {R : Room} {s : State} {args : Array Value} {d mc ms : Nat} (hts : ∀ w ∈ zT, w.before args s = true) (h1 : d + 1 ≤ R.frames) (h2 : 8 + (3 + 11) + 40 * d ≤ R.locals) : CallW R s args RX7 RX7 90 yX7_note cX7_note 3 none (zW yX7_note cX7_note 3 none) (zR d mc ms) mc ms 2 := z_cwV hts m_co_X7_note m_ml_RX7_90 m_im_X7_note m_se_X7_note m_ii_RX7 (by decide +kernel) h1 h2
theorem kV_RX7_185 {R : Room} {s : State} {args : Array Value} {d mc ms : Nat} (hts : ∀ w ∈ zT, w.before args s = true) (h1 : d + 1 ≤ R.frames) (h2 : 8 + (1 + 11) + 40 * d ≤ R.locals) : CallW R s args RX7 RJ0 185 yJ0_length_8abf5 cJ0_length_8abf5 1 (some .int) (zW yJ0_length_8abf5 cJ0_length_8abf5 1 (some .int)) (zR d mc ms) mc ms 0 := z_cwV hts m_co_J0_length_8abf5 m_ml_RX7_185 m_im_J0_length_8abf5 m_se_J0_length_8abf5 m_ii_RJ0 (by decide +kernel) h1 h2
theorem kV_RX7_190 {R : Room} {s : State} {args : Array Value} {d mc ms : Nat} (hts : ∀ w ∈ zT, w.before args s = true) (h1 : d + 1 ≤ R.frames) (h2 : 8 + (2 + 11) + 40 * d ≤ R.locals) : CallW R s args RX7 RJ0 190 yJ0_charAt_5068e cJ0_charAt_5068e 2 (some .char) (zW yJ0_charAt_5068e cJ0_charAt_5068e 2 (some .char)) (zR d mc ms) mc ms 1 := z_cwV hts m_co_J0_charAt_5068e m_ml_RX7_190 m_im_J0_charAt_5068e m_se_J0_charAt_5068e m_ii_RJ0 (by decide +kernel) h1 h2
theorem kV_RX7_162 {R : Room} {s : State} {args : Array Value} {d mc ms : Nat} (hts : ∀ w ∈ zT, w.before args s = true) (h1 : d + 1 ≤ R.frames) (h2 : 8 + (3 + 11) + 40 * d ≤ R.locals) : CallW R s args RX7 RX7 162 yX7_reads cX7_reads 3 (some .boolean) (zW yX7_reads cX7_reads 3 (some .boolean)) (zR d mc ms) mc ms 1 := z_cwV hts m_co_X7_reads m_ml_RX7_162 m_im_X7_reads m_se_X7_reads m_ii_RX7 (by decide +kernel) h1 h2
theorem dX7_isBlank_0 : decode cX7_isBlank 0 = .ok (.iload_n 0, 1) := by decide +kernel
theorem dX7_isBlank_1 : decode cX7_isBlank 1 = .ok (.bipush 10, 2) := by decide +kernel
theorem dX7_isBlank_3 : decode cX7_isBlank 3 = .ok (.if_icmp .eq 9, 3) := by decide +kernel
theorem dX7_isBlank_6 : decode cX7_isBlank 6 = .ok (.iload_n 0, 1) := by decide +kernel
theorem dX7_isBlank_7 : decode cX7_isBlank 7 = .ok (.bipush 32, 2) := by decide +kernel
theorem dX7_isBlank_9 : decode cX7_isBlank 9 = .ok (.if_icmp .ne 7, 3) := by decide +kernel
theorem dX7_isBlank_12 : decode cX7_isBlank 12 = .ok (.iconst 1, 1) := by decide +kernel
theorem dX7_isBlank_13 : decode cX7_isBlank 13 = .ok (.goto 4, 3) := by decide +kernel
theorem dX7_isBlank_16 : decode cX7_isBlank 16 = .ok (.iconst 0, 1) := by decide +kernel
theorem dX7_isBlank_17 : decode cX7_isBlank 17 = .ok (.ireturn, 1) := by decide +kernel
theorem dX7_isLetter_0 : decode cX7_isLetter 0 = .ok (.iload_n 0, 1) := by decide +kernel
theorem dX7_isLetter_1 : decode cX7_isLetter 1 = .ok (.bipush 97, 2) := by decide +kernel
theorem dX7_isLetter_3 : decode cX7_isLetter 3 = .ok (.if_icmp .lt 13, 3) := by decide +kernel
theorem dX7_isLetter_6 : decode cX7_isLetter 6 = .ok (.iload_n 0, 1) := by decide +kernel
theorem dX7_isLetter_7 : decode cX7_isLetter 7 = .ok (.bipush 122, 2) := by decide +kernel
theorem dX7_isLetter_9 : decode cX7_isLetter 9 = .ok (.if_icmp .gt 7, 3) := by decide +kernel
theorem dX7_isLetter_12 : decode cX7_isLetter 12 = .ok (.iconst 1, 1) := by decide +kernel
theorem dX7_isLetter_13 : decode cX7_isLetter 13 = .ok (.goto 4, 3) := by decide +kernel
theorem dX7_isLetter_16 : decode cX7_isLetter 16 = .ok (.iconst 0, 1) := by decide +kernel
theorem dX7_isLetter_17 : decode cX7_isLetter 17 = .ok (.ireturn, 1) := by decide +kernel
theorem dX7_isDigit_0 : decode cX7_isDigit 0 = .ok (.iload_n 0, 1) := by decide +kernel
theorem dX7_isDigit_1 : decode cX7_isDigit 1 = .ok (.bipush 48, 2) := by decide +kernel
theorem dX7_isDigit_3 : decode cX7_isDigit 3 = .ok (.if_icmp .lt 13, 3) := by decide +kernel
theorem dX7_isDigit_6 : decode cX7_isDigit 6 = .ok (.iload_n 0, 1) := by decide +kernel
theorem dX7_isDigit_7 : decode cX7_isDigit 7 = .ok (.bipush 57, 2) := by decide +kernel
theorem dX7_isDigit_9 : decode cX7_isDigit 9 = .ok (.if_icmp .gt 7, 3) := by decide +kernel
theorem dX7_isDigit_12 : decode cX7_isDigit 12 = .ok (.iconst 1, 1) := by decide +kernel
theorem dX7_isDigit_13 : decode cX7_isDigit 13 = .ok (.goto 4, 3) := by decide +kernel
theorem dX7_isDigit_16 : decode cX7_isDigit 16 = .ok (.iconst 0, 1) := by decide +kernel
theorem dX7_isDigit_17 : decode cX7_isDigit 17 = .ok (.ireturn, 1) := by decide +kernel
theorem dX7_breakHere_0 : decode cX7_breakHere 0 = .ok (.aload_n 0, 1) := by decide +kernel
theorem dX7_breakHere_1 : decode cX7_breakHere 1 = .ok (.getfield 55, 3) := by decide +kernel
theorem dX7_breakHere_4 : decode cX7_breakHere 4 = .ok (.ifCond .ne 21, 3) := by decide +kernel
theorem dX7_breakHere_7 : decode cX7_breakHere 7 = .ok (.aload_n 0, 1) := by decide +kernel
theorem dX7_breakHere_8 : decode cX7_breakHere 8 = .ok (.iconst 1, 1) := by decide +kernel
theorem dX7_breakHere_9 : decode cX7_breakHere 9 = .ok (.putfield 55, 3) := by decide +kernel
theorem dX7_breakHere_12 : decode cX7_breakHere 12 = .ok (.aload_n 0, 1) := by decide +kernel
theorem dX7_breakHere_13 : decode cX7_breakHere 13 = .ok (.iconst 1, 1) := by decide +kernel
theorem dX7_breakHere_14 : decode cX7_breakHere 14 = .ok (.putfield 49, 3) := by decide +kernel
theorem dX7_breakHere_17 : decode cX7_breakHere 17 = .ok (.aload_n 0, 1) := by decide +kernel
theorem dX7_breakHere_18 : decode cX7_breakHere 18 = .ok (.aload_n 0, 1) := by decide +kernel
theorem dX7_breakHere_19 : decode cX7_breakHere 19 = .ok (.getfield 84, 3) := by decide +kernel
theorem dX7_breakHere_22 : decode cX7_breakHere 22 = .ok (.putfield 52, 3) := by decide +kernel
theorem dX7_breakHere_25 : decode cX7_breakHere 25 = .ok (.return_, 1) := by decide +kernel
theorem dX7_note_0 : decode cX7_note 0 = .ok (.aload_n 0, 1) := by decide +kernel
theorem dX7_note_1 : decode cX7_note 1 = .ok (.getfield 49, 3) := by decide +kernel
theorem dX7_note_4 : decode cX7_note 4 = .ok (.ifCond .ne 13, 3) := by decide +kernel
theorem dX7_note_7 : decode cX7_note 7 = .ok (.aload_n 0, 1) := by decide +kernel
theorem dX7_note_8 : decode cX7_note 8 = .ok (.iload_n 1, 1) := by decide +kernel
theorem dX7_note_9 : decode cX7_note 9 = .ok (.putfield 49, 3) := by decide +kernel
theorem dX7_note_12 : decode cX7_note 12 = .ok (.aload_n 0, 1) := by decide +kernel
theorem dX7_note_13 : decode cX7_note 13 = .ok (.iload_n 2, 1) := by decide +kernel
theorem dX7_note_14 : decode cX7_note 14 = .ok (.putfield 52, 3) := by decide +kernel
theorem dX7_note_17 : decode cX7_note 17 = .ok (.return_, 1) := by decide +kernel
theorem dX7_tellOf_0 : decode cX7_tellOf 0 = .ok (.iload_n 1, 1) := by decide +kernel
theorem dX7_tellOf_1 : decode cX7_tellOf 1 = .ok (.ifCond .lt 21, 3) := by decide +kernel
theorem dX7_tellOf_4 : decode cX7_tellOf 4 = .ok (.iload_n 1, 1) := by decide +kernel
theorem dX7_tellOf_5 : decode cX7_tellOf 5 = .ok (.bipush 7, 2) := by decide +kernel
theorem dX7_tellOf_7 : decode cX7_tellOf 7 = .ok (.if_icmp .ge 15, 3) := by decide +kernel
theorem dX7_tellOf_10 : decode cX7_tellOf 10 = .ok (.aload_n 0, 1) := by decide +kernel
theorem dX7_tellOf_11 : decode cX7_tellOf 11 = .ok (.dup, 1) := by decide +kernel
theorem dX7_tellOf_12 : decode cX7_tellOf 12 = .ok (.getfield 59, 3) := by decide +kernel
theorem dX7_tellOf_15 : decode cX7_tellOf 15 = .ok (.iconst 1, 1) := by decide +kernel
theorem dX7_tellOf_16 : decode cX7_tellOf 16 = .ok (.iload_n 1, 1) := by decide +kernel
theorem dX7_tellOf_17 : decode cX7_tellOf 17 = .ok (.ishl, 1) := by decide +kernel
theorem dX7_tellOf_18 : decode cX7_tellOf 18 = .ok (.ior, 1) := by decide +kernel
theorem dX7_tellOf_19 : decode cX7_tellOf 19 = .ok (.putfield 59, 3) := by decide +kernel
theorem dX7_tellOf_22 : decode cX7_tellOf 22 = .ok (.return_, 1) := by decide +kernel
theorem dX7_takeLetters_0 : decode cX7_takeLetters 0 = .ok (.aload_n 0, 1) := by decide +kernel
theorem dX7_takeLetters_1 : decode cX7_takeLetters 1 = .ok (.iconst 1, 1) := by decide +kernel
theorem dX7_takeLetters_2 : decode cX7_takeLetters 2 = .ok (.putfield 74, 3) := by decide +kernel
theorem dX7_takeLetters_5 : decode cX7_takeLetters 5 = .ok (.aload_n 0, 1) := by decide +kernel
theorem dX7_takeLetters_6 : decode cX7_takeLetters 6 = .ok (.getfield 46, 3) := by decide +kernel
theorem dX7_takeLetters_9 : decode cX7_takeLetters 9 = .ok (.aload_n 0, 1) := by decide +kernel
theorem dX7_takeLetters_10 : decode cX7_takeLetters 10 = .ok (.getfield 42, 3) := by decide +kernel
theorem dX7_takeLetters_13 : decode cX7_takeLetters 13 = .ok (.if_icmp .ge 31, 3) := by decide +kernel
theorem dX7_takeLetters_16 : decode cX7_takeLetters 16 = .ok (.aload_n 0, 1) := by decide +kernel
theorem dX7_takeLetters_17 : decode cX7_takeLetters 17 = .ok (.getfield 32, 3) := by decide +kernel
theorem dX7_takeLetters_20 : decode cX7_takeLetters 20 = .ok (.aload_n 0, 1) := by decide +kernel
theorem dX7_takeLetters_21 : decode cX7_takeLetters 21 = .ok (.getfield 46, 3) := by decide +kernel
theorem dX7_takeLetters_24 : decode cX7_takeLetters 24 = .ok (.baload, 1) := by decide +kernel
theorem dX7_takeLetters_25 : decode cX7_takeLetters 25 = .ok (.invokestatic 148, 3) := by decide +kernel
theorem dX7_takeLetters_28 : decode cX7_takeLetters 28 = .ok (.ifCond .eq 16, 3) := by decide +kernel
theorem dX7_takeLetters_31 : decode cX7_takeLetters 31 = .ok (.aload_n 0, 1) := by decide +kernel
theorem dX7_takeLetters_32 : decode cX7_takeLetters 32 = .ok (.dup, 1) := by decide +kernel
theorem dX7_takeLetters_33 : decode cX7_takeLetters 33 = .ok (.getfield 46, 3) := by decide +kernel
theorem dX7_takeLetters_36 : decode cX7_takeLetters 36 = .ok (.iconst 1, 1) := by decide +kernel
theorem dX7_takeLetters_37 : decode cX7_takeLetters 37 = .ok (.iadd, 1) := by decide +kernel
theorem dX7_takeLetters_38 : decode cX7_takeLetters 38 = .ok (.putfield 46, 3) := by decide +kernel
theorem dX7_takeLetters_41 : decode cX7_takeLetters 41 = .ok (.goto (-36), 3) := by decide +kernel
theorem dX7_takeLetters_44 : decode cX7_takeLetters 44 = .ok (.return_, 1) := by decide +kernel
theorem dX7_takeDigits_0 : decode cX7_takeDigits 0 = .ok (.aload_n 0, 1) := by decide +kernel
theorem dX7_takeDigits_1 : decode cX7_takeDigits 1 = .ok (.iconst 0, 1) := by decide +kernel
theorem dX7_takeDigits_2 : decode cX7_takeDigits 2 = .ok (.putfield 141, 3) := by decide +kernel
theorem dX7_takeDigits_5 : decode cX7_takeDigits 5 = .ok (.aload_n 0, 1) := by decide +kernel
theorem dX7_takeDigits_6 : decode cX7_takeDigits 6 = .ok (.getfield 46, 3) := by decide +kernel
theorem dX7_takeDigits_9 : decode cX7_takeDigits 9 = .ok (.aload_n 0, 1) := by decide +kernel
theorem dX7_takeDigits_10 : decode cX7_takeDigits 10 = .ok (.getfield 42, 3) := by decide +kernel
theorem dX7_takeDigits_13 : decode cX7_takeDigits 13 = .ok (.if_icmp .ge 61, 3) := by decide +kernel
theorem dX7_takeDigits_16 : decode cX7_takeDigits 16 = .ok (.aload_n 0, 1) := by decide +kernel
theorem dX7_takeDigits_17 : decode cX7_takeDigits 17 = .ok (.getfield 32, 3) := by decide +kernel
theorem dX7_takeDigits_20 : decode cX7_takeDigits 20 = .ok (.aload_n 0, 1) := by decide +kernel
theorem dX7_takeDigits_21 : decode cX7_takeDigits 21 = .ok (.getfield 46, 3) := by decide +kernel
theorem dX7_takeDigits_24 : decode cX7_takeDigits 24 = .ok (.baload, 1) := by decide +kernel
theorem dX7_takeDigits_25 : decode cX7_takeDigits 25 = .ok (.invokestatic 154, 3) := by decide +kernel
theorem dX7_takeDigits_28 : decode cX7_takeDigits 28 = .ok (.ifCond .eq 46, 3) := by decide +kernel
theorem dX7_takeDigits_31 : decode cX7_takeDigits 31 = .ok (.aload_n 0, 1) := by decide +kernel
theorem dX7_takeDigits_32 : decode cX7_takeDigits 32 = .ok (.aload_n 0, 1) := by decide +kernel
theorem dX7_takeDigits_33 : decode cX7_takeDigits 33 = .ok (.getfield 141, 3) := by decide +kernel
theorem dX7_takeDigits_36 : decode cX7_takeDigits 36 = .ok (.bipush 10, 2) := by decide +kernel
theorem dX7_takeDigits_38 : decode cX7_takeDigits 38 = .ok (.imul, 1) := by decide +kernel
theorem dX7_takeDigits_39 : decode cX7_takeDigits 39 = .ok (.aload_n 0, 1) := by decide +kernel
theorem dX7_takeDigits_40 : decode cX7_takeDigits 40 = .ok (.getfield 32, 3) := by decide +kernel
theorem dX7_takeDigits_43 : decode cX7_takeDigits 43 = .ok (.aload_n 0, 1) := by decide +kernel
theorem dX7_takeDigits_44 : decode cX7_takeDigits 44 = .ok (.getfield 46, 3) := by decide +kernel
theorem dX7_takeDigits_47 : decode cX7_takeDigits 47 = .ok (.baload, 1) := by decide +kernel
theorem dX7_takeDigits_48 : decode cX7_takeDigits 48 = .ok (.iadd, 1) := by decide +kernel
theorem dX7_takeDigits_49 : decode cX7_takeDigits 49 = .ok (.bipush 48, 2) := by decide +kernel
theorem dX7_takeDigits_51 : decode cX7_takeDigits 51 = .ok (.isub, 1) := by decide +kernel
theorem dX7_takeDigits_52 : decode cX7_takeDigits 52 = .ok (.sipush 1000, 3) := by decide +kernel
theorem dX7_takeDigits_55 : decode cX7_takeDigits 55 = .ok (.invokestatic 36, 3) := by decide +kernel
theorem dX7_takeDigits_58 : decode cX7_takeDigits 58 = .ok (.putfield 141, 3) := by decide +kernel
theorem dX7_takeDigits_61 : decode cX7_takeDigits 61 = .ok (.aload_n 0, 1) := by decide +kernel
theorem dX7_takeDigits_62 : decode cX7_takeDigits 62 = .ok (.dup, 1) := by decide +kernel
theorem dX7_takeDigits_63 : decode cX7_takeDigits 63 = .ok (.getfield 46, 3) := by decide +kernel
theorem dX7_takeDigits_66 : decode cX7_takeDigits 66 = .ok (.iconst 1, 1) := by decide +kernel
theorem dX7_takeDigits_67 : decode cX7_takeDigits 67 = .ok (.iadd, 1) := by decide +kernel
theorem dX7_takeDigits_68 : decode cX7_takeDigits 68 = .ok (.putfield 46, 3) := by decide +kernel
theorem dX7_takeDigits_71 : decode cX7_takeDigits 71 = .ok (.goto (-66), 3) := by decide +kernel
theorem dX7_takeDigits_74 : decode cX7_takeDigits 74 = .ok (.aload_n 0, 1) := by decide +kernel
theorem dX7_takeDigits_75 : decode cX7_takeDigits 75 = .ok (.aload_n 0, 1) := by decide +kernel
theorem dX7_takeDigits_76 : decode cX7_takeDigits 76 = .ok (.getfield 46, 3) := by decide +kernel
theorem dX7_takeDigits_79 : decode cX7_takeDigits 79 = .ok (.aload_n 0, 1) := by decide +kernel
theorem dX7_takeDigits_80 : decode cX7_takeDigits 80 = .ok (.getfield 84, 3) := by decide +kernel
theorem dX7_takeDigits_83 : decode cX7_takeDigits 83 = .ok (.isub, 1) := by decide +kernel
theorem dX7_takeDigits_84 : decode cX7_takeDigits 84 = .ok (.iconst 2, 1) := by decide +kernel
theorem dX7_takeDigits_85 : decode cX7_takeDigits 85 = .ok (.if_icmp .gt 7, 3) := by decide +kernel
theorem dX7_takeDigits_88 : decode cX7_takeDigits 88 = .ok (.iconst 2, 1) := by decide +kernel
theorem dX7_takeDigits_89 : decode cX7_takeDigits 89 = .ok (.goto 4, 3) := by decide +kernel
theorem dX7_takeDigits_92 : decode cX7_takeDigits 92 = .ok (.iconst 4, 1) := by decide +kernel
theorem dX7_takeDigits_93 : decode cX7_takeDigits 93 = .ok (.putfield 74, 3) := by decide +kernel
theorem dX7_takeDigits_96 : decode cX7_takeDigits 96 = .ok (.return_, 1) := by decide +kernel
theorem dX7_nextToken_0 : decode cX7_nextToken 0 = .ok (.aload_n 0, 1) := by decide +kernel
theorem dX7_nextToken_1 : decode cX7_nextToken 1 = .ok (.getfield 46, 3) := by decide +kernel
theorem dX7_nextToken_4 : decode cX7_nextToken 4 = .ok (.istore_n 1, 1) := by decide +kernel
theorem dX7_nextToken_5 : decode cX7_nextToken 5 = .ok (.iload_n 1, 1) := by decide +kernel
theorem dX7_nextToken_6 : decode cX7_nextToken 6 = .ok (.aload_n 0, 1) := by decide +kernel
theorem dX7_nextToken_7 : decode cX7_nextToken 7 = .ok (.getfield 42, 3) := by decide +kernel
theorem dX7_nextToken_10 : decode cX7_nextToken 10 = .ok (.if_icmp .ge 28, 3) := by decide +kernel
theorem dX7_nextToken_13 : decode cX7_nextToken 13 = .ok (.aload_n 0, 1) := by decide +kernel
theorem dX7_nextToken_14 : decode cX7_nextToken 14 = .ok (.getfield 32, 3) := by decide +kernel
theorem dX7_nextToken_17 : decode cX7_nextToken 17 = .ok (.iload_n 1, 1) := by decide +kernel
theorem dX7_nextToken_18 : decode cX7_nextToken 18 = .ok (.baload, 1) := by decide +kernel
theorem dX7_nextToken_19 : decode cX7_nextToken 19 = .ok (.invokestatic 144, 3) := by decide +kernel
theorem dX7_nextToken_22 : decode cX7_nextToken 22 = .ok (.ifCond .eq 16, 3) := by decide +kernel
theorem dX7_nextToken_25 : decode cX7_nextToken 25 = .ok (.aload_n 0, 1) := by decide +kernel
theorem dX7_nextToken_26 : decode cX7_nextToken 26 = .ok (.iload_n 1, 1) := by decide +kernel
theorem dX7_nextToken_27 : decode cX7_nextToken 27 = .ok (.iconst 1, 1) := by decide +kernel
theorem dX7_nextToken_28 : decode cX7_nextToken 28 = .ok (.iadd, 1) := by decide +kernel
theorem dX7_nextToken_29 : decode cX7_nextToken 29 = .ok (.putfield 46, 3) := by decide +kernel
theorem dX7_nextToken_32 : decode cX7_nextToken 32 = .ok (.iinc 1 1, 3) := by decide +kernel
theorem dX7_nextToken_35 : decode cX7_nextToken 35 = .ok (.goto (-30), 3) := by decide +kernel
theorem dX7_nextToken_38 : decode cX7_nextToken 38 = .ok (.aload_n 0, 1) := by decide +kernel
theorem dX7_nextToken_39 : decode cX7_nextToken 39 = .ok (.aload_n 0, 1) := by decide +kernel
theorem dX7_nextToken_40 : decode cX7_nextToken 40 = .ok (.getfield 46, 3) := by decide +kernel
theorem dX7_nextToken_43 : decode cX7_nextToken 43 = .ok (.putfield 84, 3) := by decide +kernel
theorem dX7_nextToken_46 : decode cX7_nextToken 46 = .ok (.aload_n 0, 1) := by decide +kernel
theorem dX7_nextToken_47 : decode cX7_nextToken 47 = .ok (.getfield 46, 3) := by decide +kernel
theorem dX7_nextToken_50 : decode cX7_nextToken 50 = .ok (.aload_n 0, 1) := by decide +kernel
theorem dX7_nextToken_51 : decode cX7_nextToken 51 = .ok (.getfield 42, 3) := by decide +kernel
theorem dX7_nextToken_54 : decode cX7_nextToken 54 = .ok (.if_icmp .lt 11, 3) := by decide +kernel
theorem dX7_nextToken_57 : decode cX7_nextToken 57 = .ok (.aload_n 0, 1) := by decide +kernel
theorem dX7_nextToken_58 : decode cX7_nextToken 58 = .ok (.iconst 0, 1) := by decide +kernel
theorem dX7_nextToken_59 : decode cX7_nextToken 59 = .ok (.putfield 74, 3) := by decide +kernel
theorem dX7_nextToken_62 : decode cX7_nextToken 62 = .ok (.goto 80, 3) := by decide +kernel
theorem dX7_nextToken_65 : decode cX7_nextToken 65 = .ok (.aload_n 0, 1) := by decide +kernel
theorem dX7_nextToken_66 : decode cX7_nextToken 66 = .ok (.getfield 32, 3) := by decide +kernel
theorem dX7_nextToken_69 : decode cX7_nextToken 69 = .ok (.aload_n 0, 1) := by decide +kernel
theorem dX7_nextToken_70 : decode cX7_nextToken 70 = .ok (.getfield 46, 3) := by decide +kernel
theorem dX7_nextToken_73 : decode cX7_nextToken 73 = .ok (.baload, 1) := by decide +kernel
theorem dX7_nextToken_74 : decode cX7_nextToken 74 = .ok (.invokestatic 148, 3) := by decide +kernel
theorem dX7_nextToken_77 : decode cX7_nextToken 77 = .ok (.ifCond .eq 10, 3) := by decide +kernel
theorem dX7_nextToken_80 : decode cX7_nextToken 80 = .ok (.aload_n 0, 1) := by decide +kernel
theorem dX7_nextToken_81 : decode cX7_nextToken 81 = .ok (.invokevirtual 151, 3) := by decide +kernel
theorem dX7_nextToken_84 : decode cX7_nextToken 84 = .ok (.goto 58, 3) := by decide +kernel
theorem dX7_nextToken_87 : decode cX7_nextToken 87 = .ok (.aload_n 0, 1) := by decide +kernel
theorem dX7_nextToken_88 : decode cX7_nextToken 88 = .ok (.getfield 32, 3) := by decide +kernel
theorem dX7_nextToken_91 : decode cX7_nextToken 91 = .ok (.aload_n 0, 1) := by decide +kernel
theorem dX7_nextToken_92 : decode cX7_nextToken 92 = .ok (.getfield 46, 3) := by decide +kernel
theorem dX7_nextToken_95 : decode cX7_nextToken 95 = .ok (.baload, 1) := by decide +kernel
theorem dX7_nextToken_96 : decode cX7_nextToken 96 = .ok (.invokestatic 154, 3) := by decide +kernel
theorem dX7_nextToken_99 : decode cX7_nextToken 99 = .ok (.ifCond .eq 10, 3) := by decide +kernel
theorem dX7_nextToken_102 : decode cX7_nextToken 102 = .ok (.aload_n 0, 1) := by decide +kernel
theorem dX7_nextToken_103 : decode cX7_nextToken 103 = .ok (.invokevirtual 157, 3) := by decide +kernel
theorem dX7_nextToken_106 : decode cX7_nextToken 106 = .ok (.goto 36, 3) := by decide +kernel
theorem dX7_nextToken_109 : decode cX7_nextToken 109 = .ok (.aload_n 0, 1) := by decide +kernel
theorem dX7_nextToken_110 : decode cX7_nextToken 110 = .ok (.aload_n 0, 1) := by decide +kernel
theorem dX7_nextToken_111 : decode cX7_nextToken 111 = .ok (.getfield 32, 3) := by decide +kernel
theorem dX7_nextToken_114 : decode cX7_nextToken 114 = .ok (.aload_n 0, 1) := by decide +kernel
theorem dX7_nextToken_115 : decode cX7_nextToken 115 = .ok (.getfield 46, 3) := by decide +kernel
theorem dX7_nextToken_118 : decode cX7_nextToken 118 = .ok (.baload, 1) := by decide +kernel
theorem dX7_nextToken_119 : decode cX7_nextToken 119 = .ok (.bipush 59, 2) := by decide +kernel
theorem dX7_nextToken_121 : decode cX7_nextToken 121 = .ok (.if_icmp .ne 7, 3) := by decide +kernel
theorem dX7_nextToken_124 : decode cX7_nextToken 124 = .ok (.iconst 3, 1) := by decide +kernel
theorem dX7_nextToken_125 : decode cX7_nextToken 125 = .ok (.goto 4, 3) := by decide +kernel
theorem dX7_nextToken_128 : decode cX7_nextToken 128 = .ok (.iconst 4, 1) := by decide +kernel
theorem dX7_nextToken_129 : decode cX7_nextToken 129 = .ok (.putfield 74, 3) := by decide +kernel
theorem dX7_nextToken_132 : decode cX7_nextToken 132 = .ok (.aload_n 0, 1) := by decide +kernel
theorem dX7_nextToken_133 : decode cX7_nextToken 133 = .ok (.dup, 1) := by decide +kernel
theorem dX7_nextToken_134 : decode cX7_nextToken 134 = .ok (.getfield 46, 3) := by decide +kernel
theorem dX7_nextToken_137 : decode cX7_nextToken 137 = .ok (.iconst 1, 1) := by decide +kernel
theorem dX7_nextToken_138 : decode cX7_nextToken 138 = .ok (.iadd, 1) := by decide +kernel
theorem dX7_nextToken_139 : decode cX7_nextToken 139 = .ok (.putfield 46, 3) := by decide +kernel
theorem dX7_nextToken_142 : decode cX7_nextToken 142 = .ok (.return_, 1) := by decide +kernel
theorem dX7_readNumber_0 : decode cX7_readNumber 0 = .ok (.aload_n 0, 1) := by decide +kernel
theorem dX7_readNumber_1 : decode cX7_readNumber 1 = .ok (.getfield 55, 3) := by decide +kernel
theorem dX7_readNumber_4 : decode cX7_readNumber 4 = .ok (.ifCond .ne 11, 3) := by decide +kernel
theorem dX7_readNumber_7 : decode cX7_readNumber 7 = .ok (.aload_n 0, 1) := by decide +kernel
theorem dX7_readNumber_8 : decode cX7_readNumber 8 = .ok (.getfield 74, 3) := by decide +kernel
theorem dX7_readNumber_11 : decode cX7_readNumber 11 = .ok (.iconst 2, 1) := by decide +kernel
theorem dX7_readNumber_12 : decode cX7_readNumber 12 = .ok (.if_icmp .eq 9, 3) := by decide +kernel
theorem dX7_readNumber_15 : decode cX7_readNumber 15 = .ok (.aload_n 0, 1) := by decide +kernel
theorem dX7_readNumber_16 : decode cX7_readNumber 16 = .ok (.invokevirtual 105, 3) := by decide +kernel
theorem dX7_readNumber_19 : decode cX7_readNumber 19 = .ok (.iconst 0, 1) := by decide +kernel
theorem dX7_readNumber_20 : decode cX7_readNumber 20 = .ok (.ireturn, 1) := by decide +kernel
theorem dX7_readNumber_21 : decode cX7_readNumber 21 = .ok (.aload_n 0, 1) := by decide +kernel
theorem dX7_readNumber_22 : decode cX7_readNumber 22 = .ok (.getfield 141, 3) := by decide +kernel
theorem dX7_readNumber_25 : decode cX7_readNumber 25 = .ok (.istore_n 2, 1) := by decide +kernel
theorem dX7_readNumber_26 : decode cX7_readNumber 26 = .ok (.iload_n 2, 1) := by decide +kernel
theorem dX7_readNumber_27 : decode cX7_readNumber 27 = .ok (.iload_n 1, 1) := by decide +kernel
theorem dX7_readNumber_28 : decode cX7_readNumber 28 = .ok (.if_icmp .le 12, 3) := by decide +kernel
theorem dX7_readNumber_31 : decode cX7_readNumber 31 = .ok (.aload_n 0, 1) := by decide +kernel
theorem dX7_readNumber_32 : decode cX7_readNumber 32 = .ok (.iconst 2, 1) := by decide +kernel
theorem dX7_readNumber_33 : decode cX7_readNumber 33 = .ok (.aload_n 0, 1) := by decide +kernel
theorem dX7_readNumber_34 : decode cX7_readNumber 34 = .ok (.getfield 84, 3) := by decide +kernel
theorem dX7_readNumber_37 : decode cX7_readNumber 37 = .ok (.invokevirtual 90, 3) := by decide +kernel
theorem dX7_readNumber_40 : decode cX7_readNumber 40 = .ok (.aload_n 0, 1) := by decide +kernel
theorem dX7_readNumber_41 : decode cX7_readNumber 41 = .ok (.invokevirtual 71, 3) := by decide +kernel
theorem dX7_readNumber_44 : decode cX7_readNumber 44 = .ok (.iload_n 2, 1) := by decide +kernel
theorem dX7_readNumber_45 : decode cX7_readNumber 45 = .ok (.ireturn, 1) := by decide +kernel
theorem dX7_reads_0 : decode cX7_reads 0 = .ok (.aload_n 0, 1) := by decide +kernel
theorem dX7_reads_1 : decode cX7_reads 1 = .ok (.getfield 46, 3) := by decide +kernel
theorem dX7_reads_4 : decode cX7_reads 4 = .ok (.aload_n 0, 1) := by decide +kernel
theorem dX7_reads_5 : decode cX7_reads 5 = .ok (.getfield 84, 3) := by decide +kernel
theorem dX7_reads_8 : decode cX7_reads 8 = .ok (.isub, 1) := by decide +kernel
theorem dX7_reads_9 : decode cX7_reads 9 = .ok (.aload_n 1, 1) := by decide +kernel
theorem dX7_reads_10 : decode cX7_reads 10 = .ok (.invokevirtual 185, 3) := by decide +kernel
theorem dX7_reads_13 : decode cX7_reads 13 = .ok (.if_icmp .ne 21, 3) := by decide +kernel
theorem dX7_reads_16 : decode cX7_reads 16 = .ok (.aload_n 0, 1) := by decide +kernel
theorem dX7_reads_17 : decode cX7_reads 17 = .ok (.getfield 84, 3) := by decide +kernel
theorem dX7_reads_20 : decode cX7_reads 20 = .ok (.ifCond .lt 14, 3) := by decide +kernel
theorem dX7_reads_23 : decode cX7_reads 23 = .ok (.aload_n 0, 1) := by decide +kernel
theorem dX7_reads_24 : decode cX7_reads 24 = .ok (.getfield 46, 3) := by decide +kernel
theorem dX7_reads_27 : decode cX7_reads 27 = .ok (.aload_n 0, 1) := by decide +kernel
theorem dX7_reads_28 : decode cX7_reads 28 = .ok (.getfield 42, 3) := by decide +kernel
theorem dX7_reads_31 : decode cX7_reads 31 = .ok (.if_icmp .le 5, 3) := by decide +kernel
theorem dX7_reads_34 : decode cX7_reads 34 = .ok (.iconst 0, 1) := by decide +kernel
theorem dX7_reads_35 : decode cX7_reads 35 = .ok (.ireturn, 1) := by decide +kernel
theorem dX7_reads_36 : decode cX7_reads 36 = .ok (.iconst 0, 1) := by decide +kernel
theorem dX7_reads_37 : decode cX7_reads 37 = .ok (.istore_n 2, 1) := by decide +kernel
theorem dX7_reads_38 : decode cX7_reads 38 = .ok (.iload_n 2, 1) := by decide +kernel
theorem dX7_reads_39 : decode cX7_reads 39 = .ok (.aload_n 1, 1) := by decide +kernel
theorem dX7_reads_40 : decode cX7_reads 40 = .ok (.invokevirtual 185, 3) := by decide +kernel
theorem dX7_reads_43 : decode cX7_reads 43 = .ok (.if_icmp .ge 30, 3) := by decide +kernel
theorem dX7_reads_46 : decode cX7_reads 46 = .ok (.aload_n 0, 1) := by decide +kernel
theorem dX7_reads_47 : decode cX7_reads 47 = .ok (.getfield 32, 3) := by decide +kernel
theorem dX7_reads_50 : decode cX7_reads 50 = .ok (.aload_n 0, 1) := by decide +kernel
theorem dX7_reads_51 : decode cX7_reads 51 = .ok (.getfield 84, 3) := by decide +kernel
theorem dX7_reads_54 : decode cX7_reads 54 = .ok (.iload_n 2, 1) := by decide +kernel
theorem dX7_reads_55 : decode cX7_reads 55 = .ok (.iadd, 1) := by decide +kernel
theorem dX7_reads_56 : decode cX7_reads 56 = .ok (.baload, 1) := by decide +kernel
theorem dX7_reads_57 : decode cX7_reads 57 = .ok (.aload_n 1, 1) := by decide +kernel
theorem dX7_reads_58 : decode cX7_reads 58 = .ok (.iload_n 2, 1) := by decide +kernel
theorem dX7_reads_59 : decode cX7_reads 59 = .ok (.invokevirtual 190, 3) := by decide +kernel
theorem dX7_reads_62 : decode cX7_reads 62 = .ok (.if_icmp .eq 5, 3) := by decide +kernel
theorem dX7_reads_65 : decode cX7_reads 65 = .ok (.iconst 0, 1) := by decide +kernel
theorem dX7_reads_66 : decode cX7_reads 66 = .ok (.ireturn, 1) := by decide +kernel
theorem dX7_reads_67 : decode cX7_reads 67 = .ok (.iinc 2 1, 3) := by decide +kernel
theorem dX7_reads_70 : decode cX7_reads 70 = .ok (.goto (-32), 3) := by decide +kernel
theorem dX7_reads_73 : decode cX7_reads 73 = .ok (.iconst 1, 1) := by decide +kernel
theorem dX7_reads_74 : decode cX7_reads 74 = .ok (.ireturn, 1) := by decide +kernel
theorem dX7_wordOf_0 : decode cX7_wordOf 0 = .ok (.iload_n 1, 1) := by decide +kernel
theorem dX7_wordOf_1 : decode cX7_wordOf 1 = .ok (.ifCond .ne 57, 3) := by decide +kernel
theorem dX7_wordOf_4 : decode cX7_wordOf 4 = .ok (.aload_n 0, 1) := by decide +kernel
theorem dX7_wordOf_5 : decode cX7_wordOf 5 = .ok (.ldc 160, 2) := by decide +kernel
theorem dX7_wordOf_7 : decode cX7_wordOf 7 = .ok (.invokevirtual 162, 3) := by decide +kernel
theorem dX7_wordOf_10 : decode cX7_wordOf 10 = .ok (.ifCond .eq 7, 3) := by decide +kernel
theorem dX7_wordOf_13 : decode cX7_wordOf 13 = .ok (.iconst 0, 1) := by decide +kernel
theorem dX7_wordOf_14 : decode cX7_wordOf 14 = .ok (.goto 43, 3) := by decide +kernel
theorem dX7_wordOf_17 : decode cX7_wordOf 17 = .ok (.aload_n 0, 1) := by decide +kernel
theorem dX7_wordOf_18 : decode cX7_wordOf 18 = .ok (.ldc 166, 2) := by decide +kernel
theorem dX7_wordOf_20 : decode cX7_wordOf 20 = .ok (.invokevirtual 162, 3) := by decide +kernel
theorem dX7_wordOf_23 : decode cX7_wordOf 23 = .ok (.ifCond .eq 7, 3) := by decide +kernel
theorem dX7_wordOf_26 : decode cX7_wordOf 26 = .ok (.iconst 1, 1) := by decide +kernel
theorem dX7_wordOf_27 : decode cX7_wordOf 27 = .ok (.goto 30, 3) := by decide +kernel
theorem dX7_wordOf_30 : decode cX7_wordOf 30 = .ok (.aload_n 0, 1) := by decide +kernel
theorem dX7_wordOf_31 : decode cX7_wordOf 31 = .ok (.ldc 167, 2) := by decide +kernel
theorem dX7_wordOf_33 : decode cX7_wordOf 33 = .ok (.invokevirtual 162, 3) := by decide +kernel
theorem dX7_wordOf_36 : decode cX7_wordOf 36 = .ok (.ifCond .eq 7, 3) := by decide +kernel
theorem dX7_wordOf_39 : decode cX7_wordOf 39 = .ok (.iconst 2, 1) := by decide +kernel
theorem dX7_wordOf_40 : decode cX7_wordOf 40 = .ok (.goto 17, 3) := by decide +kernel
theorem dX7_wordOf_43 : decode cX7_wordOf 43 = .ok (.aload_n 0, 1) := by decide +kernel
theorem dX7_wordOf_44 : decode cX7_wordOf 44 = .ok (.ldc 168, 2) := by decide +kernel
theorem dX7_wordOf_46 : decode cX7_wordOf 46 = .ok (.invokevirtual 162, 3) := by decide +kernel
theorem dX7_wordOf_49 : decode cX7_wordOf 49 = .ok (.ifCond .eq 7, 3) := by decide +kernel
theorem dX7_wordOf_52 : decode cX7_wordOf 52 = .ok (.iconst 3, 1) := by decide +kernel
theorem dX7_wordOf_53 : decode cX7_wordOf 53 = .ok (.goto 4, 3) := by decide +kernel
theorem dX7_wordOf_56 : decode cX7_wordOf 56 = .ok (.iconst (-1), 1) := by decide +kernel
theorem dX7_wordOf_57 : decode cX7_wordOf 57 = .ok (.ireturn, 1) := by decide +kernel
theorem dX7_wordOf_58 : decode cX7_wordOf 58 = .ok (.iload_n 1, 1) := by decide +kernel
theorem dX7_wordOf_59 : decode cX7_wordOf 59 = .ok (.iconst 2, 1) := by decide +kernel
theorem dX7_wordOf_60 : decode cX7_wordOf 60 = .ok (.if_icmp .ne 31, 3) := by decide +kernel
theorem dX7_wordOf_63 : decode cX7_wordOf 63 = .ok (.aload_n 0, 1) := by decide +kernel
theorem dX7_wordOf_64 : decode cX7_wordOf 64 = .ok (.ldc 170, 2) := by decide +kernel
theorem dX7_wordOf_66 : decode cX7_wordOf 66 = .ok (.invokevirtual 162, 3) := by decide +kernel
theorem dX7_wordOf_69 : decode cX7_wordOf 69 = .ok (.ifCond .eq 7, 3) := by decide +kernel
theorem dX7_wordOf_72 : decode cX7_wordOf 72 = .ok (.iconst 0, 1) := by decide +kernel
theorem dX7_wordOf_73 : decode cX7_wordOf 73 = .ok (.goto 17, 3) := by decide +kernel
theorem dX7_wordOf_76 : decode cX7_wordOf 76 = .ok (.aload_n 0, 1) := by decide +kernel
theorem dX7_wordOf_77 : decode cX7_wordOf 77 = .ok (.ldc 172, 2) := by decide +kernel
theorem dX7_wordOf_79 : decode cX7_wordOf 79 = .ok (.invokevirtual 162, 3) := by decide +kernel
theorem dX7_wordOf_82 : decode cX7_wordOf 82 = .ok (.ifCond .eq 7, 3) := by decide +kernel
theorem dX7_wordOf_85 : decode cX7_wordOf 85 = .ok (.iconst 1, 1) := by decide +kernel
theorem dX7_wordOf_86 : decode cX7_wordOf 86 = .ok (.goto 4, 3) := by decide +kernel
theorem dX7_wordOf_89 : decode cX7_wordOf 89 = .ok (.iconst (-1), 1) := by decide +kernel
theorem dX7_wordOf_90 : decode cX7_wordOf 90 = .ok (.ireturn, 1) := by decide +kernel
theorem dX7_wordOf_91 : decode cX7_wordOf 91 = .ok (.aload_n 0, 1) := by decide +kernel
theorem dX7_wordOf_92 : decode cX7_wordOf 92 = .ok (.ldc 174, 2) := by decide +kernel
theorem dX7_wordOf_94 : decode cX7_wordOf 94 = .ok (.invokevirtual 162, 3) := by decide +kernel
theorem dX7_wordOf_97 : decode cX7_wordOf 97 = .ok (.ifCond .eq 5, 3) := by decide +kernel
theorem dX7_wordOf_100 : decode cX7_wordOf 100 = .ok (.iconst 0, 1) := by decide +kernel
theorem dX7_wordOf_101 : decode cX7_wordOf 101 = .ok (.ireturn, 1) := by decide +kernel
theorem dX7_wordOf_102 : decode cX7_wordOf 102 = .ok (.aload_n 0, 1) := by decide +kernel
theorem dX7_wordOf_103 : decode cX7_wordOf 103 = .ok (.ldc 176, 2) := by decide +kernel
theorem dX7_wordOf_105 : decode cX7_wordOf 105 = .ok (.invokevirtual 162, 3) := by decide +kernel
theorem dX7_wordOf_108 : decode cX7_wordOf 108 = .ok (.ifCond .eq 5, 3) := by decide +kernel
theorem dX7_wordOf_111 : decode cX7_wordOf 111 = .ok (.iconst 1, 1) := by decide +kernel
theorem dX7_wordOf_112 : decode cX7_wordOf 112 = .ok (.ireturn, 1) := by decide +kernel
theorem dX7_wordOf_113 : decode cX7_wordOf 113 = .ok (.aload_n 0, 1) := by decide +kernel
theorem dX7_wordOf_114 : decode cX7_wordOf 114 = .ok (.ldc 178, 2) := by decide +kernel
theorem dX7_wordOf_116 : decode cX7_wordOf 116 = .ok (.invokevirtual 162, 3) := by decide +kernel
theorem dX7_wordOf_119 : decode cX7_wordOf 119 = .ok (.ifCond .eq 5, 3) := by decide +kernel
theorem dX7_wordOf_122 : decode cX7_wordOf 122 = .ok (.iconst 2, 1) := by decide +kernel
theorem dX7_wordOf_123 : decode cX7_wordOf 123 = .ok (.ireturn, 1) := by decide +kernel
theorem dX7_wordOf_124 : decode cX7_wordOf 124 = .ok (.aload_n 0, 1) := by decide +kernel
theorem dX7_wordOf_125 : decode cX7_wordOf 125 = .ok (.ldc 180, 2) := by decide +kernel
theorem dX7_wordOf_127 : decode cX7_wordOf 127 = .ok (.invokevirtual 162, 3) := by decide +kernel
theorem dX7_wordOf_130 : decode cX7_wordOf 130 = .ok (.ifCond .eq 5, 3) := by decide +kernel
theorem dX7_wordOf_133 : decode cX7_wordOf 133 = .ok (.iconst 3, 1) := by decide +kernel
theorem dX7_wordOf_134 : decode cX7_wordOf 134 = .ok (.ireturn, 1) := by decide +kernel
theorem dX7_wordOf_135 : decode cX7_wordOf 135 = .ok (.aload_n 0, 1) := by decide +kernel
theorem dX7_wordOf_136 : decode cX7_wordOf 136 = .ok (.ldc 181, 2) := by decide +kernel
theorem dX7_wordOf_138 : decode cX7_wordOf 138 = .ok (.invokevirtual 162, 3) := by decide +kernel
theorem dX7_wordOf_141 : decode cX7_wordOf 141 = .ok (.ifCond .eq 7, 3) := by decide +kernel
theorem dX7_wordOf_144 : decode cX7_wordOf 144 = .ok (.iconst 4, 1) := by decide +kernel
theorem dX7_wordOf_145 : decode cX7_wordOf 145 = .ok (.goto 17, 3) := by decide +kernel
theorem dX7_wordOf_148 : decode cX7_wordOf 148 = .ok (.aload_n 0, 1) := by decide +kernel
theorem dX7_wordOf_149 : decode cX7_wordOf 149 = .ok (.ldc 183, 2) := by decide +kernel
theorem dX7_wordOf_151 : decode cX7_wordOf 151 = .ok (.invokevirtual 162, 3) := by decide +kernel
theorem dX7_wordOf_154 : decode cX7_wordOf 154 = .ok (.ifCond .eq 7, 3) := by decide +kernel
theorem dX7_wordOf_157 : decode cX7_wordOf 157 = .ok (.iconst 5, 1) := by decide +kernel
theorem dX7_wordOf_158 : decode cX7_wordOf 158 = .ok (.goto 4, 3) := by decide +kernel
theorem dX7_wordOf_161 : decode cX7_wordOf 161 = .ok (.iconst (-1), 1) := by decide +kernel
theorem dX7_wordOf_162 : decode cX7_wordOf 162 = .ok (.ireturn, 1) := by decide +kernel


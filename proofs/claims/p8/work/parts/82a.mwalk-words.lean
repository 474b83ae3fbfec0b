theorem m_fl_RX12_196 : Cond.fieldLink RX12 196 (TX12 17).1 (TX12 17).2.1 (TX12 17).2.2.1 ∈ zT := zmem1 zsub_6 12 (by decide +kernel) (by decide +kernel)
theorem m_fl_RX12_199 : Cond.fieldLink RX12 199 (TX12 18).1 (TX12 18).2.1 (TX12 18).2.2.1 ∈ zT := zmem1 zsub_6 13 (by decide +kernel) (by decide +kernel)
theorem m_co_X12_postTold : Cond.code yX12_postTold cX12_postTold 2 (some .int) ∈ zT := zmem1 zsub_6 239 (by decide +kernel) (by decide +kernel)
theorem m_ml_RX12_193 : Cond.methodLink RX12 193 yX12_postTold ∈ zT := zmem1 zsub_6 236 (by decide +kernel) (by decide +kernel)
theorem m_im_X12_postTold : Cond.instanceMethod yX12_postTold ∈ zT := zmem1 zsub_6 238 (by decide +kernel) (by decide +kernel)
theorem m_se_X12_postTold : Cond.selects RX12 yX12_postTold yX12_postTold ∈ zT := zmem 61 (by decide +kernel) (by decide +kernel)
theorem m_co_X12_begins : Cond.code yX12_begins cX12_begins 2 none ∈ zT := zmem1 zsub_6 235 (by decide +kernel) (by decide +kernel)
theorem m_ml_RX12_175 : Cond.methodLink RX12 175 yX12_begins ∈ zT := zmem1 zsub_6 232 (by decide +kernel) (by decide +kernel)
theorem m_im_X12_begins : Cond.instanceMethod yX12_begins ∈ zT := zmem1 zsub_6 234 (by decide +kernel) (by decide +kernel)
theorem m_se_X12_begins : Cond.selects RX12 yX12_begins yX12_begins ∈ zT := zmem 60 (by decide +kernel) (by decide +kernel)
theorem m_fl_RX12_202 : Cond.fieldLink RX12 202 (TX12 19).1 (TX12 19).2.1 (TX12 19).2.2.1 ∈ zT := zmem1 zsub_6 14 (by decide +kernel) (by decide +kernel)
theorem m_co_X12_turns : Cond.code yX12_turns cX12_turns 5 (some .boolean) ∈ zT := zmem1 zsub_7 35 (by decide +kernel) (by decide +kernel)
theorem m_ml_RX12_205 : Cond.methodLink RX12 205 yX12_turns ∈ zT := zmem1 zsub_7 32 (by decide +kernel) (by decide +kernel)
theorem m_im_X12_turns : Cond.instanceMethod yX12_turns ∈ zT := zmem1 zsub_7 34 (by decide +kernel) (by decide +kernel)
theorem m_se_X12_turns : Cond.selects RX12 yX12_turns yX12_turns ∈ zT := zmem 69 (by decide +kernel) (by decide +kernel)
theorem m_co_X12_leadsTo : Cond.code yX12_leadsTo cX12_leadsTo 3 (some .int) ∈ zT := zmem1 zsub_7 11 (by decide +kernel) (by decide +kernel)
theorem m_ml_RX12_190 : Cond.methodLink RX12 190 yX12_leadsTo ∈ zT := zmem1 zsub_7 8 (by decide +kernel) (by decide +kernel)
theorem m_im_X12_leadsTo : Cond.instanceMethod yX12_leadsTo ∈ zT := zmem1 zsub_7 10 (by decide +kernel) (by decide +kernel)
theorem m_se_X12_leadsTo : Cond.selects RX12 yX12_leadsTo yX12_leadsTo ∈ zT := zmem 64 (by decide +kernel) (by decide +kernel)
theorem m_fl_RX12_208 : Cond.fieldLink RX12 208 (TX12 20).1 (TX12 20).2.1 (TX12 20).2.2.1 ∈ zT := zmem1 zsub_6 15 (by decide +kernel) (by decide +kernel)
theorem kV_RX12_193 {R : Room} {s : State} {args : Array Value} {d mc ms : Nat} (hts : ∀ w ∈ zT, w.before args s = true) (h1 : d + 1 ≤ R.frames) (h2 : 8 + (2 + 11) + 40 * d ≤ R.locals) : CallW R s args RX12 RX12 193 yX12_postTold cX12_postTold 2 (some .int) (zW yX12_postTold cX12_postTold 2 (some .int)) (zR d mc ms) mc ms 1 := z_cwV hts m_co_X12_postTold m_ml_RX12_193 m_im_X12_postTold m_se_X12_postTold m_ii_RX12 (by decide +kernel) h1 h2
theorem kV_RX12_175 {R : Room} {s : State} {args : Array Value} {d mc ms : Nat} (hts : ∀ w ∈ zT, w.before args s = true) (h1 : d + 1 ≤ R.frames) (h2 : 8 + (2 + 11) + 40 * d ≤ R.locals) : CallW R s args RX12 RX12 175 yX12_begins cX12_begins 2 none (zW yX12_begins cX12_begins 2 none) (zR d mc ms) mc ms 0 := z_cwV hts m_co_X12_begins m_ml_RX12_175 m_im_X12_begins m_se_X12_begins m_ii_RX12 (by decide +kernel) h1 h2
theorem kV_RX12_205 {R : Room} {s : State} {args : Array Value} {d mc ms : Nat} (hts : ∀ w ∈ zT, w.before args s = true) (h1 : d + 1 ≤ R.frames) (h2 : 8 + (5 + 11) + 40 * d ≤ R.locals) : CallW R s args RX12 RX12 205 yX12_turns cX12_turns 5 (some .boolean) (zW yX12_turns cX12_turns 5 (some .boolean)) (zR d mc ms) mc ms 1 := z_cwV hts m_co_X12_turns m_ml_RX12_205 m_im_X12_turns m_se_X12_turns m_ii_RX12 (by decide +kernel) h1 h2
theorem kV_RX12_190 {R : Room} {s : State} {args : Array Value} {d mc ms : Nat} (hts : ∀ w ∈ zT, w.before args s = true) (h1 : d + 1 ≤ R.frames) (h2 : 8 + (3 + 11) + 40 * d ≤ R.locals) : CallW R s args RX12 RX12 190 yX12_leadsTo cX12_leadsTo 3 (some .int) (zW yX12_leadsTo cX12_leadsTo 3 (some .int)) (zR d mc ms) mc ms 2 := z_cwV hts m_co_X12_leadsTo m_ml_RX12_190 m_im_X12_leadsTo m_se_X12_leadsTo m_ii_RX12 (by decide +kernel) h1 h2
theorem dX12_begins_0 : decode cX12_begins 0 = .ok (.aload_n 0, 1) := by decide +kernel
theorem dX12_begins_1 : decode cX12_begins 1 = .ok (.iconst 0, 1) := by decide +kernel
theorem dX12_begins_2 : decode cX12_begins 2 = .ok (.putfield 196, 3) := by decide +kernel
theorem dX12_begins_5 : decode cX12_begins 5 = .ok (.aload_n 0, 1) := by decide +kernel
theorem dX12_begins_6 : decode cX12_begins 6 = .ok (.iconst 0, 1) := by decide +kernel
theorem dX12_begins_7 : decode cX12_begins 7 = .ok (.putfield 199, 3) := by decide +kernel
theorem dX12_begins_10 : decode cX12_begins 10 = .ok (.iconst 0, 1) := by decide +kernel
theorem dX12_begins_11 : decode cX12_begins 11 = .ok (.istore_n 1, 1) := by decide +kernel
theorem dX12_begins_12 : decode cX12_begins 12 = .ok (.iload_n 1, 1) := by decide +kernel
theorem dX12_begins_13 : decode cX12_begins 13 = .ok (.bipush 7, 2) := by decide +kernel
theorem dX12_begins_15 : decode cX12_begins 15 = .ok (.if_icmp .ge 47, 3) := by decide +kernel
theorem dX12_begins_18 : decode cX12_begins 18 = .ok (.aload_n 0, 1) := by decide +kernel
theorem dX12_begins_19 : decode cX12_begins 19 = .ok (.getfield 20, 3) := by decide +kernel
theorem dX12_begins_22 : decode cX12_begins 22 = .ok (.iload_n 1, 1) := by decide +kernel
theorem dX12_begins_23 : decode cX12_begins 23 = .ok (.aload_n 0, 1) := by decide +kernel
theorem dX12_begins_24 : decode cX12_begins 24 = .ok (.iload_n 1, 1) := by decide +kernel
theorem dX12_begins_25 : decode cX12_begins 25 = .ok (.invokevirtual 193, 3) := by decide +kernel
theorem dX12_begins_28 : decode cX12_begins 28 = .ok (.iastore, 1) := by decide +kernel
theorem dX12_begins_29 : decode cX12_begins 29 = .ok (.aload_n 0, 1) := by decide +kernel
theorem dX12_begins_30 : decode cX12_begins 30 = .ok (.getfield 23, 3) := by decide +kernel
theorem dX12_begins_33 : decode cX12_begins 33 = .ok (.iload_n 1, 1) := by decide +kernel
theorem dX12_begins_34 : decode cX12_begins 34 = .ok (.iconst 0, 1) := by decide +kernel
theorem dX12_begins_35 : decode cX12_begins 35 = .ok (.iastore, 1) := by decide +kernel
theorem dX12_begins_36 : decode cX12_begins 36 = .ok (.aload_n 0, 1) := by decide +kernel
theorem dX12_begins_37 : decode cX12_begins 37 = .ok (.getfield 26, 3) := by decide +kernel
theorem dX12_begins_40 : decode cX12_begins 40 = .ok (.iload_n 1, 1) := by decide +kernel
theorem dX12_begins_41 : decode cX12_begins 41 = .ok (.aload_n 0, 1) := by decide +kernel
theorem dX12_begins_42 : decode cX12_begins 42 = .ok (.getfield 7, 3) := by decide +kernel
theorem dX12_begins_45 : decode cX12_begins 45 = .ok (.aload_n 0, 1) := by decide +kernel
theorem dX12_begins_46 : decode cX12_begins 46 = .ok (.getfield 166, 3) := by decide +kernel
theorem dX12_begins_49 : decode cX12_begins 49 = .ok (.bipush 16, 2) := by decide +kernel
theorem dX12_begins_51 : decode cX12_begins 51 = .ok (.iadd, 1) := by decide +kernel
theorem dX12_begins_52 : decode cX12_begins 52 = .ok (.iload_n 1, 1) := by decide +kernel
theorem dX12_begins_53 : decode cX12_begins 53 = .ok (.iadd, 1) := by decide +kernel
theorem dX12_begins_54 : decode cX12_begins 54 = .ok (.iaload, 1) := by decide +kernel
theorem dX12_begins_55 : decode cX12_begins 55 = .ok (.iastore, 1) := by decide +kernel
theorem dX12_begins_56 : decode cX12_begins 56 = .ok (.iinc 1 1, 3) := by decide +kernel
theorem dX12_begins_59 : decode cX12_begins 59 = .ok (.goto (-47), 3) := by decide +kernel
theorem dX12_begins_62 : decode cX12_begins 62 = .ok (.return_, 1) := by decide +kernel
theorem dX12_isLand_0 : decode cX12_isLand 0 = .ok (.aload_n 0, 1) := by decide +kernel
theorem dX12_isLand_1 : decode cX12_isLand 1 = .ok (.iconst 0, 1) := by decide +kernel
theorem dX12_isLand_2 : decode cX12_isLand 2 = .ok (.iload_n 1, 1) := by decide +kernel
theorem dX12_isLand_3 : decode cX12_isLand 3 = .ok (.invokevirtual 143, 3) := by decide +kernel
theorem dX12_isLand_6 : decode cX12_isLand 6 = .ok (.ifCond .ne 5, 3) := by decide +kernel
theorem dX12_isLand_9 : decode cX12_isLand 9 = .ok (.iconst 0, 1) := by decide +kernel
theorem dX12_isLand_10 : decode cX12_isLand 10 = .ok (.ireturn, 1) := by decide +kernel
theorem dX12_isLand_11 : decode cX12_isLand 11 = .ok (.aload_n 0, 1) := by decide +kernel
theorem dX12_isLand_12 : decode cX12_isLand 12 = .ok (.iconst 0, 1) := by decide +kernel
theorem dX12_isLand_13 : decode cX12_isLand 13 = .ok (.iload_n 1, 1) := by decide +kernel
theorem dX12_isLand_14 : decode cX12_isLand 14 = .ok (.invokestatic 163, 3) := by decide +kernel
theorem dX12_isLand_17 : decode cX12_isLand 17 = .ok (.putfield 166, 3) := by decide +kernel
theorem dX12_isLand_20 : decode cX12_isLand 20 = .ok (.aload_n 0, 1) := by decide +kernel
theorem dX12_isLand_21 : decode cX12_isLand 21 = .ok (.aload_n 0, 1) := by decide +kernel
theorem dX12_isLand_22 : decode cX12_isLand 22 = .ok (.getfield 7, 3) := by decide +kernel
theorem dX12_isLand_25 : decode cX12_isLand 25 = .ok (.aload_n 0, 1) := by decide +kernel
theorem dX12_isLand_26 : decode cX12_isLand 26 = .ok (.getfield 166, 3) := by decide +kernel
theorem dX12_isLand_29 : decode cX12_isLand 29 = .ok (.iaload, 1) := by decide +kernel
theorem dX12_isLand_30 : decode cX12_isLand 30 = .ok (.putfield 169, 3) := by decide +kernel
theorem dX12_isLand_33 : decode cX12_isLand 33 = .ok (.aload_n 0, 1) := by decide +kernel
theorem dX12_isLand_34 : decode cX12_isLand 34 = .ok (.aload_n 0, 1) := by decide +kernel
theorem dX12_isLand_35 : decode cX12_isLand 35 = .ok (.getfield 7, 3) := by decide +kernel
theorem dX12_isLand_38 : decode cX12_isLand 38 = .ok (.aload_n 0, 1) := by decide +kernel
theorem dX12_isLand_39 : decode cX12_isLand 39 = .ok (.getfield 166, 3) := by decide +kernel
theorem dX12_isLand_42 : decode cX12_isLand 42 = .ok (.iconst 1, 1) := by decide +kernel
theorem dX12_isLand_43 : decode cX12_isLand 43 = .ok (.iadd, 1) := by decide +kernel
theorem dX12_isLand_44 : decode cX12_isLand 44 = .ok (.iaload, 1) := by decide +kernel
theorem dX12_isLand_45 : decode cX12_isLand 45 = .ok (.putfield 172, 3) := by decide +kernel
theorem dX12_isLand_48 : decode cX12_isLand 48 = .ok (.aload_n 0, 1) := by decide +kernel
theorem dX12_isLand_49 : decode cX12_isLand 49 = .ok (.invokevirtual 175, 3) := by decide +kernel
theorem dX12_isLand_52 : decode cX12_isLand 52 = .ok (.iconst 1, 1) := by decide +kernel
theorem dX12_isLand_53 : decode cX12_isLand 53 = .ok (.ireturn, 1) := by decide +kernel
theorem dX12_turns_0 : decode cX12_turns 0 = .ok (.aload_n 0, 1) := by decide +kernel
theorem dX12_turns_1 : decode cX12_turns 1 = .ok (.iload_n 1, 1) := by decide +kernel
theorem dX12_turns_2 : decode cX12_turns 2 = .ok (.invokevirtual 181, 3) := by decide +kernel
theorem dX12_turns_5 : decode cX12_turns 5 = .ok (.istore_n 2, 1) := by decide +kernel
theorem dX12_turns_6 : decode cX12_turns 6 = .ok (.iconst 1, 1) := by decide +kernel
theorem dX12_turns_7 : decode cX12_turns 7 = .ok (.istore_n 3, 1) := by decide +kernel
theorem dX12_turns_8 : decode cX12_turns 8 = .ok (.iload_n 3, 1) := by decide +kernel
theorem dX12_turns_9 : decode cX12_turns 9 = .ok (.iload_n 2, 1) := by decide +kernel
theorem dX12_turns_10 : decode cX12_turns 10 = .ok (.if_icmp .gt 49, 3) := by decide +kernel
theorem dX12_turns_13 : decode cX12_turns 13 = .ok (.aload_n 0, 1) := by decide +kernel
theorem dX12_turns_14 : decode cX12_turns 14 = .ok (.getfield 20, 3) := by decide +kernel
theorem dX12_turns_17 : decode cX12_turns 17 = .ok (.iload_n 1, 1) := by decide +kernel
theorem dX12_turns_18 : decode cX12_turns 18 = .ok (.iaload, 1) := by decide +kernel
theorem dX12_turns_19 : decode cX12_turns 19 = .ok (.iload_n 3, 1) := by decide +kernel
theorem dX12_turns_20 : decode cX12_turns 20 = .ok (.iadd, 1) := by decide +kernel
theorem dX12_turns_21 : decode cX12_turns 21 = .ok (.iload_n 2, 1) := by decide +kernel
theorem dX12_turns_22 : decode cX12_turns 22 = .ok (.irem, 1) := by decide +kernel
theorem dX12_turns_23 : decode cX12_turns 23 = .ok (.istore 4, 2) := by decide +kernel
theorem dX12_turns_25 : decode cX12_turns 25 = .ok (.aload_n 0, 1) := by decide +kernel
theorem dX12_turns_26 : decode cX12_turns 26 = .ok (.getfield 23, 3) := by decide +kernel
theorem dX12_turns_29 : decode cX12_turns 29 = .ok (.iload_n 1, 1) := by decide +kernel
theorem dX12_turns_30 : decode cX12_turns 30 = .ok (.iaload, 1) := by decide +kernel
theorem dX12_turns_31 : decode cX12_turns 31 = .ok (.iload 4, 2) := by decide +kernel
theorem dX12_turns_33 : decode cX12_turns 33 = .ok (.ishr, 1) := by decide +kernel
theorem dX12_turns_34 : decode cX12_turns 34 = .ok (.iconst 1, 1) := by decide +kernel
theorem dX12_turns_35 : decode cX12_turns 35 = .ok (.iand, 1) := by decide +kernel
theorem dX12_turns_36 : decode cX12_turns 36 = .ok (.iconst 1, 1) := by decide +kernel
theorem dX12_turns_37 : decode cX12_turns 37 = .ok (.if_icmp .ne 6, 3) := by decide +kernel
theorem dX12_turns_40 : decode cX12_turns 40 = .ok (.goto 13, 3) := by decide +kernel
theorem dX12_turns_43 : decode cX12_turns 43 = .ok (.aload_n 0, 1) := by decide +kernel
theorem dX12_turns_44 : decode cX12_turns 44 = .ok (.getfield 20, 3) := by decide +kernel
theorem dX12_turns_47 : decode cX12_turns 47 = .ok (.iload_n 1, 1) := by decide +kernel
theorem dX12_turns_48 : decode cX12_turns 48 = .ok (.iload 4, 2) := by decide +kernel
theorem dX12_turns_50 : decode cX12_turns 50 = .ok (.iastore, 1) := by decide +kernel
theorem dX12_turns_51 : decode cX12_turns 51 = .ok (.iconst 1, 1) := by decide +kernel
theorem dX12_turns_52 : decode cX12_turns 52 = .ok (.ireturn, 1) := by decide +kernel
theorem dX12_turns_53 : decode cX12_turns 53 = .ok (.iinc 3 1, 3) := by decide +kernel
theorem dX12_turns_56 : decode cX12_turns 56 = .ok (.goto (-48), 3) := by decide +kernel
theorem dX12_turns_59 : decode cX12_turns 59 = .ok (.iconst 0, 1) := by decide +kernel
theorem dX12_turns_60 : decode cX12_turns 60 = .ok (.ireturn, 1) := by decide +kernel
theorem dX12_stepsOn_0 : decode cX12_stepsOn 0 = .ok (.aload_n 0, 1) := by decide +kernel
theorem dX12_stepsOn_1 : decode cX12_stepsOn 1 = .ok (.aload_n 0, 1) := by decide +kernel
theorem dX12_stepsOn_2 : decode cX12_stepsOn 2 = .ok (.getfield 202, 3) := by decide +kernel
theorem dX12_stepsOn_5 : decode cX12_stepsOn 5 = .ok (.invokevirtual 178, 3) := by decide +kernel
theorem dX12_stepsOn_8 : decode cX12_stepsOn 8 = .ok (.ifCond .ne 14, 3) := by decide +kernel
theorem dX12_stepsOn_11 : decode cX12_stepsOn 11 = .ok (.aload_n 0, 1) := by decide +kernel
theorem dX12_stepsOn_12 : decode cX12_stepsOn 12 = .ok (.aload_n 0, 1) := by decide +kernel
theorem dX12_stepsOn_13 : decode cX12_stepsOn 13 = .ok (.getfield 202, 3) := by decide +kernel
theorem dX12_stepsOn_16 : decode cX12_stepsOn 16 = .ok (.invokevirtual 205, 3) := by decide +kernel
theorem dX12_stepsOn_19 : decode cX12_stepsOn 19 = .ok (.ifCond .ne 5, 3) := by decide +kernel
theorem dX12_stepsOn_22 : decode cX12_stepsOn 22 = .ok (.iconst 0, 1) := by decide +kernel
theorem dX12_stepsOn_23 : decode cX12_stepsOn 23 = .ok (.ireturn, 1) := by decide +kernel
theorem dX12_stepsOn_24 : decode cX12_stepsOn 24 = .ok (.aload_n 0, 1) := by decide +kernel
theorem dX12_stepsOn_25 : decode cX12_stepsOn 25 = .ok (.aload_n 0, 1) := by decide +kernel
theorem dX12_stepsOn_26 : decode cX12_stepsOn 26 = .ok (.aload_n 0, 1) := by decide +kernel
theorem dX12_stepsOn_27 : decode cX12_stepsOn 27 = .ok (.getfield 202, 3) := by decide +kernel
theorem dX12_stepsOn_30 : decode cX12_stepsOn 30 = .ok (.aload_n 0, 1) := by decide +kernel
theorem dX12_stepsOn_31 : decode cX12_stepsOn 31 = .ok (.getfield 20, 3) := by decide +kernel
theorem dX12_stepsOn_34 : decode cX12_stepsOn 34 = .ok (.aload_n 0, 1) := by decide +kernel
theorem dX12_stepsOn_35 : decode cX12_stepsOn 35 = .ok (.getfield 202, 3) := by decide +kernel
theorem dX12_stepsOn_38 : decode cX12_stepsOn 38 = .ok (.iaload, 1) := by decide +kernel
theorem dX12_stepsOn_39 : decode cX12_stepsOn 39 = .ok (.invokevirtual 190, 3) := by decide +kernel
theorem dX12_stepsOn_42 : decode cX12_stepsOn 42 = .ok (.putfield 202, 3) := by decide +kernel
theorem dX12_stepsOn_45 : decode cX12_stepsOn 45 = .ok (.aload_n 0, 1) := by decide +kernel
theorem dX12_stepsOn_46 : decode cX12_stepsOn 46 = .ok (.dup, 1) := by decide +kernel
theorem dX12_stepsOn_47 : decode cX12_stepsOn 47 = .ok (.getfield 208, 3) := by decide +kernel
theorem dX12_stepsOn_50 : decode cX12_stepsOn 50 = .ok (.iconst 1, 1) := by decide +kernel
theorem dX12_stepsOn_51 : decode cX12_stepsOn 51 = .ok (.iadd, 1) := by decide +kernel
theorem dX12_stepsOn_52 : decode cX12_stepsOn 52 = .ok (.putfield 208, 3) := by decide +kernel
theorem dX12_stepsOn_55 : decode cX12_stepsOn 55 = .ok (.aload_n 0, 1) := by decide +kernel
theorem dX12_stepsOn_56 : decode cX12_stepsOn 56 = .ok (.getfield 29, 3) := by decide +kernel
theorem dX12_stepsOn_59 : decode cX12_stepsOn 59 = .ok (.aload_n 0, 1) := by decide +kernel
theorem dX12_stepsOn_60 : decode cX12_stepsOn 60 = .ok (.getfield 202, 3) := by decide +kernel
theorem dX12_stepsOn_63 : decode cX12_stepsOn 63 = .ok (.dup2, 1) := by decide +kernel
theorem dX12_stepsOn_64 : decode cX12_stepsOn 64 = .ok (.iaload, 1) := by decide +kernel
theorem dX12_stepsOn_65 : decode cX12_stepsOn 65 = .ok (.iconst 1, 1) := by decide +kernel
theorem dX12_stepsOn_66 : decode cX12_stepsOn 66 = .ok (.iadd, 1) := by decide +kernel
theorem dX12_stepsOn_67 : decode cX12_stepsOn 67 = .ok (.iastore, 1) := by decide +kernel
theorem dX12_stepsOn_68 : decode cX12_stepsOn 68 = .ok (.iconst 1, 1) := by decide +kernel
theorem dX12_stepsOn_69 : decode cX12_stepsOn 69 = .ok (.ireturn, 1) := by decide +kernel


theorem m_ml_RX0_65 : Cond.methodLink RX0 65 Lib.Math.max.name ∈ zT := zmem1 zsub_4 220 (by decide +kernel) (by decide +kernel)
theorem m_ko_RX0_71 : Cond.constant RX0 71 131072 ∈ zT := zmem1 zsub_4 221 (by decide +kernel) (by decide +kernel)
theorem m_co_math_min : Cond.code Lib.Math.min.name Lib.Math.min.code 2 (some .int) ∈ zT := zmem1 zsub_2 236 (by decide +kernel) (by decide +kernel)
theorem m_ml_RX0_72 : Cond.methodLink RX0 72 Lib.Math.min.name ∈ zT := zmem1 zsub_4 222 (by decide +kernel) (by decide +kernel)
theorem m_st_math_min : Cond.static Lib.Math.min.name ∈ zT := zmem1 zsub_2 235 (by decide +kernel) (by decide +kernel)
theorem m_fl_RX0_75 : Cond.fieldLink RX0 75 (TX0 3).1 (TX0 3).2.1 (TX0 3).2.2.1 ∈ zT := zmem1 zsub_2 112 (by decide +kernel) (by decide +kernel)
theorem m_co_X0_countWays : Cond.code yX0_countWays cX0_countWays 3 none ∈ zT := zmem1 zsub_4 218 (by decide +kernel) (by decide +kernel)
theorem m_ml_RX0_41 : Cond.methodLink RX0 41 yX0_countWays ∈ zT := zmem1 zsub_4 215 (by decide +kernel) (by decide +kernel)
theorem m_im_X0_countWays : Cond.instanceMethod yX0_countWays ∈ zT := zmem1 zsub_4 217 (by decide +kernel) (by decide +kernel)
theorem m_se_X0_countWays : Cond.selects RX0 yX0_countWays yX0_countWays ∈ zT := zmem 32 (by decide +kernel) (by decide +kernel)
theorem m_co_X0_allComeByRow : Cond.code yX0_allComeByRow cX0_allComeByRow 2 (some .boolean) ∈ zT := zmem1 zsub_5 64 (by decide +kernel) (by decide +kernel)
theorem m_ml_RX0_122 : Cond.methodLink RX0 122 yX0_allComeByRow ∈ zT := zmem1 zsub_5 61 (by decide +kernel) (by decide +kernel)
theorem m_im_X0_allComeByRow : Cond.instanceMethod yX0_allComeByRow ∈ zT := zmem1 zsub_5 63 (by decide +kernel) (by decide +kernel)
theorem m_se_X0_allComeByRow : Cond.selects RX0 yX0_allComeByRow yX0_allComeByRow ∈ zT := zmem 38 (by decide +kernel) (by decide +kernel)
theorem m_co_X0_nextRow : Cond.code yX0_nextRow cX0_nextRow 2 none ∈ zT := zmem1 zsub_5 73 (by decide +kernel) (by decide +kernel)
theorem m_ml_RX0_126 : Cond.methodLink RX0 126 yX0_nextRow ∈ zT := zmem1 zsub_5 70 (by decide +kernel) (by decide +kernel)
theorem m_im_X0_nextRow : Cond.instanceMethod yX0_nextRow ∈ zT := zmem1 zsub_5 72 (by decide +kernel) (by decide +kernel)
theorem m_se_X0_nextRow : Cond.selects RX0 yX0_nextRow yX0_nextRow ∈ zT := zmem 40 (by decide +kernel) (by decide +kernel)
theorem m_co_X0_turned : Cond.code yX0_turned cX0_turned 4 (some .int) ∈ zT := zmem1 zsub_4 234 (by decide +kernel) (by decide +kernel)
theorem m_ml_RX0_78 : Cond.methodLink RX0 78 yX0_turned ∈ zT := zmem1 zsub_4 231 (by decide +kernel) (by decide +kernel)
theorem m_im_X0_turned : Cond.instanceMethod yX0_turned ∈ zT := zmem1 zsub_4 232 (by decide +kernel) (by decide +kernel)
theorem m_se_X0_turned : Cond.selects RX0 yX0_turned yX0_turned ∈ zT := zmem1 zsub_4 233 (by decide +kernel) (by decide +kernel)
theorem m_co_X0_place : Cond.code yX0_place cX0_place 2 (some .int) ∈ zT := zmem1 zsub_5 2 (by decide +kernel) (by decide +kernel)
theorem m_ml_RX0_87 : Cond.methodLink RX0 87 yX0_place ∈ zT := zmem1 zsub_5 0 (by decide +kernel) (by decide +kernel)
theorem m_st_X0_place : Cond.static yX0_place ∈ zT := zmem1 zsub_5 1 (by decide +kernel) (by decide +kernel)
theorem kV_RX0_41 {R : Room} {s : State} {args : Array Value} {d mc ms : Nat} (hts : ∀ w ∈ zT, w.before args s = true) (h1 : d + 1 ≤ R.frames) (h2 : 8 + (3 + 11) + 40 * d ≤ R.locals) : CallW R s args RX0 RX0 41 yX0_countWays cX0_countWays 3 none (zW yX0_countWays cX0_countWays 3 none) (zR d mc ms) mc ms 1 := z_cwV hts m_co_X0_countWays m_ml_RX0_41 m_im_X0_countWays m_se_X0_countWays m_ii_RX0 (by decide +kernel) h1 h2
theorem kV_RX0_122 {R : Room} {s : State} {args : Array Value} {d mc ms : Nat} (hts : ∀ w ∈ zT, w.before args s = true) (h1 : d + 1 ≤ R.frames) (h2 : 8 + (2 + 11) + 40 * d ≤ R.locals) : CallW R s args RX0 RX0 122 yX0_allComeByRow cX0_allComeByRow 2 (some .boolean) (zW yX0_allComeByRow cX0_allComeByRow 2 (some .boolean)) (zR d mc ms) mc ms 0 := z_cwV hts m_co_X0_allComeByRow m_ml_RX0_122 m_im_X0_allComeByRow m_se_X0_allComeByRow m_ii_RX0 (by decide +kernel) h1 h2
theorem kV_RX0_126 {R : Room} {s : State} {args : Array Value} {d mc ms : Nat} (hts : ∀ w ∈ zT, w.before args s = true) (h1 : d + 1 ≤ R.frames) (h2 : 8 + (2 + 11) + 40 * d ≤ R.locals) : CallW R s args RX0 RX0 126 yX0_nextRow cX0_nextRow 2 none (zW yX0_nextRow cX0_nextRow 2 none) (zR d mc ms) mc ms 0 := z_cwV hts m_co_X0_nextRow m_ml_RX0_126 m_im_X0_nextRow m_se_X0_nextRow m_ii_RX0 (by decide +kernel) h1 h2
theorem kV_RX0_78 {R : Room} {s : State} {args : Array Value} {d mc ms : Nat} (hts : ∀ w ∈ zT, w.before args s = true) (h1 : d + 1 ≤ R.frames) (h2 : 8 + (4 + 11) + 40 * d ≤ R.locals) : CallW R s args RX0 RX0 78 yX0_turned cX0_turned 4 (some .int) (zW yX0_turned cX0_turned 4 (some .int)) (zR d mc ms) mc ms 2 := z_cwV hts m_co_X0_turned m_ml_RX0_78 m_im_X0_turned m_se_X0_turned m_ii_RX0 (by decide +kernel) h1 h2
theorem kS_RX0_87 {R : Room} {s : State} {args : Array Value} {d mc ms : Nat} (hts : ∀ w ∈ zT, w.before args s = true) (h1 : d + 1 ≤ R.frames) (h2 : 8 + (2 + 11) + 40 * d ≤ R.locals) : CallB R s args RX0 87 yX0_place cX0_place 2 (some .int) (zW yX0_place cX0_place 2 (some .int)) (zR d mc ms) mc ms 2 ∧ (Cond.static yX0_place).before args s = true := z_cwS hts m_co_X0_place m_ml_RX0_87 m_st_X0_place m_ii_RX0 (by decide +kernel) h1 h2
theorem dX0_countWays_0 : decode cX0_countWays 0 = .ok (.aload_n 0, 1) := by decide +kernel
theorem dX0_countWays_1 : decode cX0_countWays 1 = .ok (.aload_n 1, 1) := by decide +kernel
theorem dX0_countWays_2 : decode cX0_countWays 2 = .ok (.putfield 14, 3) := by decide +kernel
theorem dX0_countWays_5 : decode cX0_countWays 5 = .ok (.aload_n 0, 1) := by decide +kernel
theorem dX0_countWays_6 : decode cX0_countWays 6 = .ok (.iconst 1, 1) := by decide +kernel
theorem dX0_countWays_7 : decode cX0_countWays 7 = .ok (.putfield 57, 3) := by decide +kernel
theorem dX0_countWays_10 : decode cX0_countWays 10 = .ok (.bipush 6, 2) := by decide +kernel
theorem dX0_countWays_12 : decode cX0_countWays 12 = .ok (.istore_n 2, 1) := by decide +kernel
theorem dX0_countWays_13 : decode cX0_countWays 13 = .ok (.iload_n 2, 1) := by decide +kernel
theorem dX0_countWays_14 : decode cX0_countWays 14 = .ok (.ifCond .lt 49, 3) := by decide +kernel
theorem dX0_countWays_17 : decode cX0_countWays 17 = .ok (.aload_n 0, 1) := by decide +kernel
theorem dX0_countWays_18 : decode cX0_countWays 18 = .ok (.getfield 18, 3) := by decide +kernel
theorem dX0_countWays_21 : decode cX0_countWays 21 = .ok (.iload_n 2, 1) := by decide +kernel
theorem dX0_countWays_22 : decode cX0_countWays 22 = .ok (.aload_n 1, 1) := by decide +kernel
theorem dX0_countWays_23 : decode cX0_countWays 23 = .ok (.iload_n 2, 1) := by decide +kernel
theorem dX0_countWays_24 : decode cX0_countWays 24 = .ok (.invokevirtual 61, 3) := by decide +kernel
theorem dX0_countWays_27 : decode cX0_countWays 27 = .ok (.iconst 1, 1) := by decide +kernel
theorem dX0_countWays_28 : decode cX0_countWays 28 = .ok (.invokestatic 65, 3) := by decide +kernel
theorem dX0_countWays_31 : decode cX0_countWays 31 = .ok (.iastore, 1) := by decide +kernel
theorem dX0_countWays_32 : decode cX0_countWays 32 = .ok (.aload_n 0, 1) := by decide +kernel
theorem dX0_countWays_33 : decode cX0_countWays 33 = .ok (.getfield 22, 3) := by decide +kernel
theorem dX0_countWays_36 : decode cX0_countWays 36 = .ok (.iload_n 2, 1) := by decide +kernel
theorem dX0_countWays_37 : decode cX0_countWays 37 = .ok (.aload_n 0, 1) := by decide +kernel
theorem dX0_countWays_38 : decode cX0_countWays 38 = .ok (.getfield 57, 3) := by decide +kernel
theorem dX0_countWays_41 : decode cX0_countWays 41 = .ok (.iastore, 1) := by decide +kernel
theorem dX0_countWays_42 : decode cX0_countWays 42 = .ok (.aload_n 0, 1) := by decide +kernel
theorem dX0_countWays_43 : decode cX0_countWays 43 = .ok (.dup, 1) := by decide +kernel
theorem dX0_countWays_44 : decode cX0_countWays 44 = .ok (.getfield 57, 3) := by decide +kernel
theorem dX0_countWays_47 : decode cX0_countWays 47 = .ok (.aload_n 0, 1) := by decide +kernel
theorem dX0_countWays_48 : decode cX0_countWays 48 = .ok (.getfield 18, 3) := by decide +kernel
theorem dX0_countWays_51 : decode cX0_countWays 51 = .ok (.iload_n 2, 1) := by decide +kernel
theorem dX0_countWays_52 : decode cX0_countWays 52 = .ok (.iaload, 1) := by decide +kernel
theorem dX0_countWays_53 : decode cX0_countWays 53 = .ok (.imul, 1) := by decide +kernel
theorem dX0_countWays_54 : decode cX0_countWays 54 = .ok (.putfield 57, 3) := by decide +kernel
theorem dX0_countWays_57 : decode cX0_countWays 57 = .ok (.iinc 2 (-1), 3) := by decide +kernel
theorem dX0_countWays_60 : decode cX0_countWays 60 = .ok (.goto (-47), 3) := by decide +kernel
theorem dX0_countWays_63 : decode cX0_countWays 63 = .ok (.aload_n 0, 1) := by decide +kernel
theorem dX0_countWays_64 : decode cX0_countWays 64 = .ok (.aload_n 0, 1) := by decide +kernel
theorem dX0_countWays_65 : decode cX0_countWays 65 = .ok (.getfield 57, 3) := by decide +kernel
theorem dX0_countWays_68 : decode cX0_countWays 68 = .ok (.iconst 3, 1) := by decide +kernel
theorem dX0_countWays_69 : decode cX0_countWays 69 = .ok (.ishl, 1) := by decide +kernel
theorem dX0_countWays_70 : decode cX0_countWays 70 = .ok (.ldc 71, 2) := by decide +kernel
theorem dX0_countWays_72 : decode cX0_countWays 72 = .ok (.invokestatic 72, 3) := by decide +kernel
theorem dX0_countWays_75 : decode cX0_countWays 75 = .ok (.putfield 75, 3) := by decide +kernel
theorem dX0_countWays_78 : decode cX0_countWays 78 = .ok (.return_, 1) := by decide +kernel
theorem dX0_grow_0 : decode cX0_grow 0 = .ok (.aload_n 0, 1) := by decide +kernel
theorem dX0_grow_1 : decode cX0_grow 1 = .ok (.getfield 31, 3) := by decide +kernel
theorem dX0_grow_4 : decode cX0_grow 4 = .ok (.arraylength, 1) := by decide +kernel
theorem dX0_grow_5 : decode cX0_grow 5 = .ok (.aload_n 0, 1) := by decide +kernel
theorem dX0_grow_6 : decode cX0_grow 6 = .ok (.getfield 75, 3) := by decide +kernel
theorem dX0_grow_9 : decode cX0_grow 9 = .ok (.if_icmp .lt 4, 3) := by decide +kernel
theorem dX0_grow_12 : decode cX0_grow 12 = .ok (.return_, 1) := by decide +kernel
theorem dX0_grow_13 : decode cX0_grow 13 = .ok (.bipush 64, 2) := by decide +kernel
theorem dX0_grow_15 : decode cX0_grow 15 = .ok (.istore_n 1, 1) := by decide +kernel
theorem dX0_grow_16 : decode cX0_grow 16 = .ok (.iload_n 1, 1) := by decide +kernel
theorem dX0_grow_17 : decode cX0_grow 17 = .ok (.aload_n 0, 1) := by decide +kernel
theorem dX0_grow_18 : decode cX0_grow 18 = .ok (.getfield 75, 3) := by decide +kernel
theorem dX0_grow_21 : decode cX0_grow 21 = .ok (.if_icmp .ge 16, 3) := by decide +kernel
theorem dX0_grow_24 : decode cX0_grow 24 = .ok (.iload_n 1, 1) := by decide +kernel
theorem dX0_grow_25 : decode cX0_grow 25 = .ok (.ldc 71, 2) := by decide +kernel
theorem dX0_grow_27 : decode cX0_grow 27 = .ok (.if_icmp .ge 10, 3) := by decide +kernel
theorem dX0_grow_30 : decode cX0_grow 30 = .ok (.iload_n 1, 1) := by decide +kernel
theorem dX0_grow_31 : decode cX0_grow 31 = .ok (.iconst 2, 1) := by decide +kernel
theorem dX0_grow_32 : decode cX0_grow 32 = .ok (.imul, 1) := by decide +kernel
theorem dX0_grow_33 : decode cX0_grow 33 = .ok (.istore_n 1, 1) := by decide +kernel
theorem dX0_grow_34 : decode cX0_grow 34 = .ok (.goto (-18), 3) := by decide +kernel
theorem dX0_grow_37 : decode cX0_grow 37 = .ok (.aload_n 0, 1) := by decide +kernel
theorem dX0_grow_38 : decode cX0_grow 38 = .ok (.iload_n 1, 1) := by decide +kernel
theorem dX0_grow_39 : decode cX0_grow 39 = .ok (.newarray .int, 2) := by decide +kernel
theorem dX0_grow_41 : decode cX0_grow 41 = .ok (.putfield 28, 3) := by decide +kernel
theorem dX0_grow_44 : decode cX0_grow 44 = .ok (.aload_n 0, 1) := by decide +kernel
theorem dX0_grow_45 : decode cX0_grow 45 = .ok (.iload_n 1, 1) := by decide +kernel
theorem dX0_grow_46 : decode cX0_grow 46 = .ok (.newarray .int, 2) := by decide +kernel
theorem dX0_grow_48 : decode cX0_grow 48 = .ok (.putfield 31, 3) := by decide +kernel
theorem dX0_grow_51 : decode cX0_grow 51 = .ok (.aload_n 0, 1) := by decide +kernel
theorem dX0_grow_52 : decode cX0_grow 52 = .ok (.iload_n 1, 1) := by decide +kernel
theorem dX0_grow_53 : decode cX0_grow 53 = .ok (.newarray .int, 2) := by decide +kernel
theorem dX0_grow_55 : decode cX0_grow 55 = .ok (.putfield 34, 3) := by decide +kernel
theorem dX0_grow_58 : decode cX0_grow 58 = .ok (.return_, 1) := by decide +kernel
theorem dX0_nextRow_0 : decode cX0_nextRow 0 = .ok (.bipush 6, 2) := by decide +kernel
theorem dX0_nextRow_2 : decode cX0_nextRow 2 = .ok (.istore_n 1, 1) := by decide +kernel
theorem dX0_nextRow_3 : decode cX0_nextRow 3 = .ok (.iload_n 1, 1) := by decide +kernel
theorem dX0_nextRow_4 : decode cX0_nextRow 4 = .ok (.ifCond .lt 42, 3) := by decide +kernel
theorem dX0_nextRow_7 : decode cX0_nextRow 7 = .ok (.aload_n 0, 1) := by decide +kernel
theorem dX0_nextRow_8 : decode cX0_nextRow 8 = .ok (.getfield 25, 3) := by decide +kernel
theorem dX0_nextRow_11 : decode cX0_nextRow 11 = .ok (.iload_n 1, 1) := by decide +kernel
theorem dX0_nextRow_12 : decode cX0_nextRow 12 = .ok (.dup2, 1) := by decide +kernel
theorem dX0_nextRow_13 : decode cX0_nextRow 13 = .ok (.iaload, 1) := by decide +kernel
theorem dX0_nextRow_14 : decode cX0_nextRow 14 = .ok (.iconst 1, 1) := by decide +kernel
theorem dX0_nextRow_15 : decode cX0_nextRow 15 = .ok (.iadd, 1) := by decide +kernel
theorem dX0_nextRow_16 : decode cX0_nextRow 16 = .ok (.iastore, 1) := by decide +kernel
theorem dX0_nextRow_17 : decode cX0_nextRow 17 = .ok (.aload_n 0, 1) := by decide +kernel
theorem dX0_nextRow_18 : decode cX0_nextRow 18 = .ok (.getfield 25, 3) := by decide +kernel
theorem dX0_nextRow_21 : decode cX0_nextRow 21 = .ok (.iload_n 1, 1) := by decide +kernel
theorem dX0_nextRow_22 : decode cX0_nextRow 22 = .ok (.iaload, 1) := by decide +kernel
theorem dX0_nextRow_23 : decode cX0_nextRow 23 = .ok (.aload_n 0, 1) := by decide +kernel
theorem dX0_nextRow_24 : decode cX0_nextRow 24 = .ok (.getfield 18, 3) := by decide +kernel
theorem dX0_nextRow_27 : decode cX0_nextRow 27 = .ok (.iload_n 1, 1) := by decide +kernel
theorem dX0_nextRow_28 : decode cX0_nextRow 28 = .ok (.iaload, 1) := by decide +kernel
theorem dX0_nextRow_29 : decode cX0_nextRow 29 = .ok (.if_icmp .ge 4, 3) := by decide +kernel
theorem dX0_nextRow_32 : decode cX0_nextRow 32 = .ok (.return_, 1) := by decide +kernel
theorem dX0_nextRow_33 : decode cX0_nextRow 33 = .ok (.aload_n 0, 1) := by decide +kernel
theorem dX0_nextRow_34 : decode cX0_nextRow 34 = .ok (.getfield 25, 3) := by decide +kernel
theorem dX0_nextRow_37 : decode cX0_nextRow 37 = .ok (.iload_n 1, 1) := by decide +kernel
theorem dX0_nextRow_38 : decode cX0_nextRow 38 = .ok (.iconst 0, 1) := by decide +kernel
theorem dX0_nextRow_39 : decode cX0_nextRow 39 = .ok (.iastore, 1) := by decide +kernel
theorem dX0_nextRow_40 : decode cX0_nextRow 40 = .ok (.iinc 1 (-1), 3) := by decide +kernel
theorem dX0_nextRow_43 : decode cX0_nextRow 43 = .ok (.goto (-40), 3) := by decide +kernel
theorem dX0_nextRow_46 : decode cX0_nextRow 46 = .ok (.return_, 1) := by decide +kernel
theorem dX0_treesOf_0 : decode cX0_treesOf 0 = .ok (.aload_n 0, 1) := by decide +kernel
theorem dX0_treesOf_1 : decode cX0_treesOf 1 = .ok (.aload_n 1, 1) := by decide +kernel
theorem dX0_treesOf_2 : decode cX0_treesOf 2 = .ok (.invokevirtual 41, 3) := by decide +kernel
theorem dX0_treesOf_5 : decode cX0_treesOf 5 = .ok (.iconst 0, 1) := by decide +kernel
theorem dX0_treesOf_6 : decode cX0_treesOf 6 = .ok (.istore_n 2, 1) := by decide +kernel
theorem dX0_treesOf_7 : decode cX0_treesOf 7 = .ok (.iconst 0, 1) := by decide +kernel
theorem dX0_treesOf_8 : decode cX0_treesOf 8 = .ok (.istore_n 3, 1) := by decide +kernel
theorem dX0_treesOf_9 : decode cX0_treesOf 9 = .ok (.iload_n 3, 1) := by decide +kernel
theorem dX0_treesOf_10 : decode cX0_treesOf 10 = .ok (.bipush 7, 2) := by decide +kernel
theorem dX0_treesOf_12 : decode cX0_treesOf 12 = .ok (.if_icmp .ge 16, 3) := by decide +kernel
theorem dX0_treesOf_15 : decode cX0_treesOf 15 = .ok (.aload_n 0, 1) := by decide +kernel
theorem dX0_treesOf_16 : decode cX0_treesOf 16 = .ok (.getfield 25, 3) := by decide +kernel
theorem dX0_treesOf_19 : decode cX0_treesOf 19 = .ok (.iload_n 3, 1) := by decide +kernel
theorem dX0_treesOf_20 : decode cX0_treesOf 20 = .ok (.iconst 0, 1) := by decide +kernel
theorem dX0_treesOf_21 : decode cX0_treesOf 21 = .ok (.iastore, 1) := by decide +kernel
theorem dX0_treesOf_22 : decode cX0_treesOf 22 = .ok (.iinc 3 1, 3) := by decide +kernel
theorem dX0_treesOf_25 : decode cX0_treesOf 25 = .ok (.goto (-16), 3) := by decide +kernel
theorem dX0_treesOf_28 : decode cX0_treesOf 28 = .ok (.iconst 0, 1) := by decide +kernel
theorem dX0_treesOf_29 : decode cX0_treesOf 29 = .ok (.istore_n 3, 1) := by decide +kernel
theorem dX0_treesOf_30 : decode cX0_treesOf 30 = .ok (.iload_n 3, 1) := by decide +kernel
theorem dX0_treesOf_31 : decode cX0_treesOf 31 = .ok (.aload_n 0, 1) := by decide +kernel
theorem dX0_treesOf_32 : decode cX0_treesOf 32 = .ok (.getfield 57, 3) := by decide +kernel
theorem dX0_treesOf_35 : decode cX0_treesOf 35 = .ok (.if_icmp .ge 23, 3) := by decide +kernel
theorem dX0_treesOf_38 : decode cX0_treesOf 38 = .ok (.aload_n 0, 1) := by decide +kernel
theorem dX0_treesOf_39 : decode cX0_treesOf 39 = .ok (.invokevirtual 122, 3) := by decide +kernel
theorem dX0_treesOf_42 : decode cX0_treesOf 42 = .ok (.ifCond .eq 6, 3) := by decide +kernel
theorem dX0_treesOf_45 : decode cX0_treesOf 45 = .ok (.iinc 2 1, 3) := by decide +kernel
theorem dX0_treesOf_48 : decode cX0_treesOf 48 = .ok (.aload_n 0, 1) := by decide +kernel
theorem dX0_treesOf_49 : decode cX0_treesOf 49 = .ok (.invokevirtual 126, 3) := by decide +kernel
theorem dX0_treesOf_52 : decode cX0_treesOf 52 = .ok (.iinc 3 1, 3) := by decide +kernel
theorem dX0_treesOf_55 : decode cX0_treesOf 55 = .ok (.goto (-25), 3) := by decide +kernel
theorem dX0_treesOf_58 : decode cX0_treesOf 58 = .ok (.iload_n 2, 1) := by decide +kernel
theorem dX0_treesOf_59 : decode cX0_treesOf 59 = .ok (.ireturn, 1) := by decide +kernel
theorem dX0_stepOnce_0 : decode cX0_stepOnce 0 = .ok (.iconst 0, 1) := by decide +kernel
theorem dX0_stepOnce_1 : decode cX0_stepOnce 1 = .ok (.istore_n 1, 1) := by decide +kernel
theorem dX0_stepOnce_2 : decode cX0_stepOnce 2 = .ok (.iload_n 1, 1) := by decide +kernel
theorem dX0_stepOnce_3 : decode cX0_stepOnce 3 = .ok (.aload_n 0, 1) := by decide +kernel
theorem dX0_stepOnce_4 : decode cX0_stepOnce 4 = .ok (.getfield 75, 3) := by decide +kernel
theorem dX0_stepOnce_7 : decode cX0_stepOnce 7 = .ok (.if_icmp .ge 101, 3) := by decide +kernel
theorem dX0_stepOnce_10 : decode cX0_stepOnce 10 = .ok (.iload_n 1, 1) := by decide +kernel
theorem dX0_stepOnce_11 : decode cX0_stepOnce 11 = .ok (.aload_n 0, 1) := by decide +kernel
theorem dX0_stepOnce_12 : decode cX0_stepOnce 12 = .ok (.getfield 28, 3) := by decide +kernel
theorem dX0_stepOnce_15 : decode cX0_stepOnce 15 = .ok (.arraylength, 1) := by decide +kernel
theorem dX0_stepOnce_16 : decode cX0_stepOnce 16 = .ok (.if_icmp .ge 92, 3) := by decide +kernel
theorem dX0_stepOnce_19 : decode cX0_stepOnce 19 = .ok (.iload_n 1, 1) := by decide +kernel
theorem dX0_stepOnce_20 : decode cX0_stepOnce 20 = .ok (.aload_n 0, 1) := by decide +kernel
theorem dX0_stepOnce_21 : decode cX0_stepOnce 21 = .ok (.getfield 31, 3) := by decide +kernel
theorem dX0_stepOnce_24 : decode cX0_stepOnce 24 = .ok (.arraylength, 1) := by decide +kernel
theorem dX0_stepOnce_25 : decode cX0_stepOnce 25 = .ok (.if_icmp .ge 83, 3) := by decide +kernel
theorem dX0_stepOnce_28 : decode cX0_stepOnce 28 = .ok (.iload_n 1, 1) := by decide +kernel
theorem dX0_stepOnce_29 : decode cX0_stepOnce 29 = .ok (.iconst 3, 1) := by decide +kernel
theorem dX0_stepOnce_30 : decode cX0_stepOnce 30 = .ok (.ishr, 1) := by decide +kernel
theorem dX0_stepOnce_31 : decode cX0_stepOnce 31 = .ok (.istore_n 2, 1) := by decide +kernel
theorem dX0_stepOnce_32 : decode cX0_stepOnce 32 = .ok (.iload_n 1, 1) := by decide +kernel
theorem dX0_stepOnce_33 : decode cX0_stepOnce 33 = .ok (.bipush 7, 2) := by decide +kernel
theorem dX0_stepOnce_35 : decode cX0_stepOnce 35 = .ok (.iand, 1) := by decide +kernel
theorem dX0_stepOnce_36 : decode cX0_stepOnce 36 = .ok (.istore_n 3, 1) := by decide +kernel
theorem dX0_stepOnce_37 : decode cX0_stepOnce 37 = .ok (.aload_n 0, 1) := by decide +kernel
theorem dX0_stepOnce_38 : decode cX0_stepOnce 38 = .ok (.iload_n 2, 1) := by decide +kernel
theorem dX0_stepOnce_39 : decode cX0_stepOnce 39 = .ok (.iload_n 3, 1) := by decide +kernel
theorem dX0_stepOnce_40 : decode cX0_stepOnce 40 = .ok (.invokevirtual 78, 3) := by decide +kernel
theorem dX0_stepOnce_43 : decode cX0_stepOnce 43 = .ok (.istore 4, 2) := by decide +kernel
theorem dX0_stepOnce_45 : decode cX0_stepOnce 45 = .ok (.iload 4, 2) := by decide +kernel
theorem dX0_stepOnce_47 : decode cX0_stepOnce 47 = .ok (.iconst (-1), 1) := by decide +kernel
theorem dX0_stepOnce_48 : decode cX0_stepOnce 48 = .ok (.if_icmp .ne 13, 3) := by decide +kernel
theorem dX0_stepOnce_51 : decode cX0_stepOnce 51 = .ok (.aload_n 0, 1) := by decide +kernel
theorem dX0_stepOnce_52 : decode cX0_stepOnce 52 = .ok (.getfield 28, 3) := by decide +kernel
theorem dX0_stepOnce_55 : decode cX0_stepOnce 55 = .ok (.iload_n 1, 1) := by decide +kernel
theorem dX0_stepOnce_56 : decode cX0_stepOnce 56 = .ok (.iload_n 1, 1) := by decide +kernel
theorem dX0_stepOnce_57 : decode cX0_stepOnce 57 = .ok (.iastore, 1) := by decide +kernel
theorem dX0_stepOnce_58 : decode cX0_stepOnce 58 = .ok (.goto 32, 3) := by decide +kernel
theorem dX0_stepOnce_61 : decode cX0_stepOnce 61 = .ok (.aload_n 0, 1) := by decide +kernel
theorem dX0_stepOnce_62 : decode cX0_stepOnce 62 = .ok (.getfield 28, 3) := by decide +kernel
theorem dX0_stepOnce_65 : decode cX0_stepOnce 65 = .ok (.iload_n 1, 1) := by decide +kernel
theorem dX0_stepOnce_66 : decode cX0_stepOnce 66 = .ok (.iload 4, 2) := by decide +kernel
theorem dX0_stepOnce_68 : decode cX0_stepOnce 68 = .ok (.aload_n 0, 1) := by decide +kernel
theorem dX0_stepOnce_69 : decode cX0_stepOnce 69 = .ok (.getfield 14, 3) := by decide +kernel
theorem dX0_stepOnce_72 : decode cX0_stepOnce 72 = .ok (.iload_n 3, 1) := by decide +kernel
theorem dX0_stepOnce_73 : decode cX0_stepOnce 73 = .ok (.aload_n 0, 1) := by decide +kernel
theorem dX0_stepOnce_74 : decode cX0_stepOnce 74 = .ok (.iload 4, 2) := by decide +kernel
theorem dX0_stepOnce_76 : decode cX0_stepOnce 76 = .ok (.iload_n 3, 1) := by decide +kernel
theorem dX0_stepOnce_77 : decode cX0_stepOnce 77 = .ok (.invokevirtual 81, 3) := by decide +kernel
theorem dX0_stepOnce_80 : decode cX0_stepOnce 80 = .ok (.invokevirtual 84, 3) := by decide +kernel
theorem dX0_stepOnce_83 : decode cX0_stepOnce 83 = .ok (.invokestatic 87, 3) := by decide +kernel
theorem dX0_stepOnce_86 : decode cX0_stepOnce 86 = .ok (.ldc 71, 2) := by decide +kernel
theorem dX0_stepOnce_88 : decode cX0_stepOnce 88 = .ok (.iadd, 1) := by decide +kernel
theorem dX0_stepOnce_89 : decode cX0_stepOnce 89 = .ok (.iastore, 1) := by decide +kernel
theorem dX0_stepOnce_90 : decode cX0_stepOnce 90 = .ok (.aload_n 0, 1) := by decide +kernel
theorem dX0_stepOnce_91 : decode cX0_stepOnce 91 = .ok (.getfield 31, 3) := by decide +kernel
theorem dX0_stepOnce_94 : decode cX0_stepOnce 94 = .ok (.iload_n 1, 1) := by decide +kernel
theorem dX0_stepOnce_95 : decode cX0_stepOnce 95 = .ok (.aload_n 0, 1) := by decide +kernel
theorem dX0_stepOnce_96 : decode cX0_stepOnce 96 = .ok (.getfield 28, 3) := by decide +kernel
theorem dX0_stepOnce_99 : decode cX0_stepOnce 99 = .ok (.iload_n 1, 1) := by decide +kernel
theorem dX0_stepOnce_100 : decode cX0_stepOnce 100 = .ok (.iaload, 1) := by decide +kernel
theorem dX0_stepOnce_101 : decode cX0_stepOnce 101 = .ok (.iastore, 1) := by decide +kernel
theorem dX0_stepOnce_102 : decode cX0_stepOnce 102 = .ok (.iinc 1 1, 3) := by decide +kernel
theorem dX0_stepOnce_105 : decode cX0_stepOnce 105 = .ok (.goto (-103), 3) := by decide +kernel
theorem dX0_stepOnce_108 : decode cX0_stepOnce 108 = .ok (.return_, 1) := by decide +kernel
theorem dX0_oneMore_0 : decode cX0_oneMore 0 = .ok (.iconst 0, 1) := by decide +kernel
theorem dX0_oneMore_1 : decode cX0_oneMore 1 = .ok (.istore_n 1, 1) := by decide +kernel
theorem dX0_oneMore_2 : decode cX0_oneMore 2 = .ok (.iload_n 1, 1) := by decide +kernel
theorem dX0_oneMore_3 : decode cX0_oneMore 3 = .ok (.aload_n 0, 1) := by decide +kernel
theorem dX0_oneMore_4 : decode cX0_oneMore 4 = .ok (.getfield 75, 3) := by decide +kernel
theorem dX0_oneMore_7 : decode cX0_oneMore 7 = .ok (.if_icmp .ge 59, 3) := by decide +kernel
theorem dX0_oneMore_10 : decode cX0_oneMore 10 = .ok (.iload_n 1, 1) := by decide +kernel
theorem dX0_oneMore_11 : decode cX0_oneMore 11 = .ok (.aload_n 0, 1) := by decide +kernel
theorem dX0_oneMore_12 : decode cX0_oneMore 12 = .ok (.getfield 31, 3) := by decide +kernel
theorem dX0_oneMore_15 : decode cX0_oneMore 15 = .ok (.arraylength, 1) := by decide +kernel
theorem dX0_oneMore_16 : decode cX0_oneMore 16 = .ok (.if_icmp .ge 50, 3) := by decide +kernel
theorem dX0_oneMore_19 : decode cX0_oneMore 19 = .ok (.aload_n 0, 1) := by decide +kernel
theorem dX0_oneMore_20 : decode cX0_oneMore 20 = .ok (.getfield 31, 3) := by decide +kernel
theorem dX0_oneMore_23 : decode cX0_oneMore 23 = .ok (.iload_n 1, 1) := by decide +kernel
theorem dX0_oneMore_24 : decode cX0_oneMore 24 = .ok (.iaload, 1) := by decide +kernel
theorem dX0_oneMore_25 : decode cX0_oneMore 25 = .ok (.istore_n 2, 1) := by decide +kernel
theorem dX0_oneMore_26 : decode cX0_oneMore 26 = .ok (.iload_n 2, 1) := by decide +kernel
theorem dX0_oneMore_27 : decode cX0_oneMore 27 = .ok (.ldc 90, 2) := by decide +kernel
theorem dX0_oneMore_29 : decode cX0_oneMore 29 = .ok (.iand, 1) := by decide +kernel
theorem dX0_oneMore_30 : decode cX0_oneMore 30 = .ok (.istore_n 3, 1) := by decide +kernel
theorem dX0_oneMore_31 : decode cX0_oneMore 31 = .ok (.aload_n 0, 1) := by decide +kernel
theorem dX0_oneMore_32 : decode cX0_oneMore 32 = .ok (.getfield 31, 3) := by decide +kernel
theorem dX0_oneMore_35 : decode cX0_oneMore 35 = .ok (.iload_n 1, 1) := by decide +kernel
theorem dX0_oneMore_36 : decode cX0_oneMore 36 = .ok (.iload_n 3, 1) := by decide +kernel
theorem dX0_oneMore_37 : decode cX0_oneMore 37 = .ok (.aload_n 0, 1) := by decide +kernel
theorem dX0_oneMore_38 : decode cX0_oneMore 38 = .ok (.getfield 28, 3) := by decide +kernel
theorem dX0_oneMore_41 : decode cX0_oneMore 41 = .ok (.arraylength, 1) := by decide +kernel
theorem dX0_oneMore_42 : decode cX0_oneMore 42 = .ok (.if_icmp .ge 16, 3) := by decide +kernel
theorem dX0_oneMore_45 : decode cX0_oneMore 45 = .ok (.aload_n 0, 1) := by decide +kernel
theorem dX0_oneMore_46 : decode cX0_oneMore 46 = .ok (.getfield 28, 3) := by decide +kernel
theorem dX0_oneMore_49 : decode cX0_oneMore 49 = .ok (.iload_n 3, 1) := by decide +kernel
theorem dX0_oneMore_50 : decode cX0_oneMore 50 = .ok (.iaload, 1) := by decide +kernel
theorem dX0_oneMore_51 : decode cX0_oneMore 51 = .ok (.iload_n 2, 1) := by decide +kernel
theorem dX0_oneMore_52 : decode cX0_oneMore 52 = .ok (.iload_n 3, 1) := by decide +kernel
theorem dX0_oneMore_53 : decode cX0_oneMore 53 = .ok (.isub, 1) := by decide +kernel
theorem dX0_oneMore_54 : decode cX0_oneMore 54 = .ok (.iadd, 1) := by decide +kernel
theorem dX0_oneMore_55 : decode cX0_oneMore 55 = .ok (.goto 4, 3) := by decide +kernel
theorem dX0_oneMore_58 : decode cX0_oneMore 58 = .ok (.iload_n 2, 1) := by decide +kernel
theorem dX0_oneMore_59 : decode cX0_oneMore 59 = .ok (.iastore, 1) := by decide +kernel
theorem dX0_oneMore_60 : decode cX0_oneMore 60 = .ok (.iinc 1 1, 3) := by decide +kernel
theorem dX0_oneMore_63 : decode cX0_oneMore 63 = .ok (.goto (-61), 3) := by decide +kernel
theorem dX0_oneMore_66 : decode cX0_oneMore 66 = .ok (.return_, 1) := by decide +kernel
theorem dX0_doubleAll_0 : decode cX0_doubleAll 0 = .ok (.aload_n 0, 1) := by decide +kernel
theorem dX0_doubleAll_1 : decode cX0_doubleAll 1 = .ok (.getfield 31, 3) := by decide +kernel
theorem dX0_doubleAll_4 : decode cX0_doubleAll 4 = .ok (.astore_n 1, 1) := by decide +kernel
theorem dX0_doubleAll_5 : decode cX0_doubleAll 5 = .ok (.aload_n 0, 1) := by decide +kernel
theorem dX0_doubleAll_6 : decode cX0_doubleAll 6 = .ok (.getfield 34, 3) := by decide +kernel
theorem dX0_doubleAll_9 : decode cX0_doubleAll 9 = .ok (.astore_n 2, 1) := by decide +kernel
theorem dX0_doubleAll_10 : decode cX0_doubleAll 10 = .ok (.iconst 0, 1) := by decide +kernel
theorem dX0_doubleAll_11 : decode cX0_doubleAll 11 = .ok (.istore_n 3, 1) := by decide +kernel
theorem dX0_doubleAll_12 : decode cX0_doubleAll 12 = .ok (.iload_n 3, 1) := by decide +kernel
theorem dX0_doubleAll_13 : decode cX0_doubleAll 13 = .ok (.aload_n 0, 1) := by decide +kernel
theorem dX0_doubleAll_14 : decode cX0_doubleAll 14 = .ok (.getfield 75, 3) := by decide +kernel
theorem dX0_doubleAll_17 : decode cX0_doubleAll 17 = .ok (.if_icmp .ge 58, 3) := by decide +kernel
theorem dX0_doubleAll_20 : decode cX0_doubleAll 20 = .ok (.iload_n 3, 1) := by decide +kernel
theorem dX0_doubleAll_21 : decode cX0_doubleAll 21 = .ok (.aload_n 1, 1) := by decide +kernel
theorem dX0_doubleAll_22 : decode cX0_doubleAll 22 = .ok (.arraylength, 1) := by decide +kernel
theorem dX0_doubleAll_23 : decode cX0_doubleAll 23 = .ok (.if_icmp .ge 52, 3) := by decide +kernel
theorem dX0_doubleAll_26 : decode cX0_doubleAll 26 = .ok (.iload_n 3, 1) := by decide +kernel
theorem dX0_doubleAll_27 : decode cX0_doubleAll 27 = .ok (.aload_n 2, 1) := by decide +kernel
theorem dX0_doubleAll_28 : decode cX0_doubleAll 28 = .ok (.arraylength, 1) := by decide +kernel
theorem dX0_doubleAll_29 : decode cX0_doubleAll 29 = .ok (.if_icmp .ge 46, 3) := by decide +kernel
theorem dX0_doubleAll_32 : decode cX0_doubleAll 32 = .ok (.aload_n 1, 1) := by decide +kernel
theorem dX0_doubleAll_33 : decode cX0_doubleAll 33 = .ok (.iload_n 3, 1) := by decide +kernel
theorem dX0_doubleAll_34 : decode cX0_doubleAll 34 = .ok (.iaload, 1) := by decide +kernel
theorem dX0_doubleAll_35 : decode cX0_doubleAll 35 = .ok (.istore 4, 2) := by decide +kernel
theorem dX0_doubleAll_37 : decode cX0_doubleAll 37 = .ok (.iload 4, 2) := by decide +kernel
theorem dX0_doubleAll_39 : decode cX0_doubleAll 39 = .ok (.ldc 90, 2) := by decide +kernel
theorem dX0_doubleAll_41 : decode cX0_doubleAll 41 = .ok (.iand, 1) := by decide +kernel
theorem dX0_doubleAll_42 : decode cX0_doubleAll 42 = .ok (.istore 5, 2) := by decide +kernel
theorem dX0_doubleAll_44 : decode cX0_doubleAll 44 = .ok (.aload_n 2, 1) := by decide +kernel
theorem dX0_doubleAll_45 : decode cX0_doubleAll 45 = .ok (.iload_n 3, 1) := by decide +kernel
theorem dX0_doubleAll_46 : decode cX0_doubleAll 46 = .ok (.iload 5, 2) := by decide +kernel
theorem dX0_doubleAll_48 : decode cX0_doubleAll 48 = .ok (.aload_n 1, 1) := by decide +kernel
theorem dX0_doubleAll_49 : decode cX0_doubleAll 49 = .ok (.arraylength, 1) := by decide +kernel
theorem dX0_doubleAll_50 : decode cX0_doubleAll 50 = .ok (.if_icmp .ge 16, 3) := by decide +kernel
theorem dX0_doubleAll_53 : decode cX0_doubleAll 53 = .ok (.aload_n 1, 1) := by decide +kernel
theorem dX0_doubleAll_54 : decode cX0_doubleAll 54 = .ok (.iload 5, 2) := by decide +kernel
theorem dX0_doubleAll_56 : decode cX0_doubleAll 56 = .ok (.iaload, 1) := by decide +kernel
theorem dX0_doubleAll_57 : decode cX0_doubleAll 57 = .ok (.iload 4, 2) := by decide +kernel
theorem dX0_doubleAll_59 : decode cX0_doubleAll 59 = .ok (.iload 5, 2) := by decide +kernel
theorem dX0_doubleAll_61 : decode cX0_doubleAll 61 = .ok (.isub, 1) := by decide +kernel
theorem dX0_doubleAll_62 : decode cX0_doubleAll 62 = .ok (.iadd, 1) := by decide +kernel
theorem dX0_doubleAll_63 : decode cX0_doubleAll 63 = .ok (.goto 5, 3) := by decide +kernel
theorem dX0_doubleAll_66 : decode cX0_doubleAll 66 = .ok (.iload 4, 2) := by decide +kernel
theorem dX0_doubleAll_68 : decode cX0_doubleAll 68 = .ok (.iastore, 1) := by decide +kernel
theorem dX0_doubleAll_69 : decode cX0_doubleAll 69 = .ok (.iinc 3 1, 3) := by decide +kernel
theorem dX0_doubleAll_72 : decode cX0_doubleAll 72 = .ok (.goto (-60), 3) := by decide +kernel
theorem dX0_doubleAll_75 : decode cX0_doubleAll 75 = .ok (.aload_n 0, 1) := by decide +kernel
theorem dX0_doubleAll_76 : decode cX0_doubleAll 76 = .ok (.aload_n 2, 1) := by decide +kernel
theorem dX0_doubleAll_77 : decode cX0_doubleAll 77 = .ok (.putfield 31, 3) := by decide +kernel
theorem dX0_doubleAll_80 : decode cX0_doubleAll 80 = .ok (.aload_n 0, 1) := by decide +kernel
theorem dX0_doubleAll_81 : decode cX0_doubleAll 81 = .ok (.aload_n 1, 1) := by decide +kernel
theorem dX0_doubleAll_82 : decode cX0_doubleAll 82 = .ok (.putfield 34, 3) := by decide +kernel
theorem dX0_doubleAll_85 : decode cX0_doubleAll 85 = .ok (.return_, 1) := by decide +kernel


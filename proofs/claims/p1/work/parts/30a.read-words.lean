theorem m_fl_RX7_46 : Cond.fieldLink RX7 46 (TX7 7).1 (TX7 7).2.1 (TX7 7).2.2.1 ∈ zT := zmem1 zsub_1 183 (by decide +kernel) (by decide +kernel)
theorem m_fl_RX7_42 : Cond.fieldLink RX7 42 (TX7 6).1 (TX7 6).2.1 (TX7 6).2.2.1 ∈ zT := zmem1 zsub_1 182 (by decide +kernel) (by decide +kernel)
theorem m_fl_RX7_84 : Cond.fieldLink RX7 84 (TX7 9).1 (TX7 9).2.1 (TX7 9).2.2.1 ∈ zT := zmem1 zsub_1 185 (by decide +kernel) (by decide +kernel)
theorem m_fl_RX7_74 : Cond.fieldLink RX7 74 (TX7 8).1 (TX7 8).2.1 (TX7 8).2.2.1 ∈ zT := zmem1 zsub_1 184 (by decide +kernel) (by decide +kernel)
theorem m_fl_RX7_59 : Cond.fieldLink RX7 59 (TX7 12).1 (TX7 12).2.1 (TX7 12).2.2.1 ∈ zT := zmem1 zsub_1 188 (by decide +kernel) (by decide +kernel)
theorem m_fl_RX7_87 : Cond.fieldLink RX7 87 (TX4 0).1 (TX4 0).2.1 (TX4 0).2.2.1 ∈ zT := zmem1 zsub_1 45 (by decide +kernel) (by decide +kernel)
theorem m_fl_RX7_94 : Cond.fieldLink RX7 94 (TX4 4).1 (TX4 4).2.1 (TX4 4).2.2.1 ∈ zT := zmem1 zsub_1 58 (by decide +kernel) (by decide +kernel)
theorem m_co_math_min : Cond.code Lib.Math.min.name Lib.Math.min.code 2 (some .int) ∈ zT := zmem1 zsub_2 236 (by decide +kernel) (by decide +kernel)
theorem m_ml_RX7_36 : Cond.methodLink RX7 36 Lib.Math.min.name ∈ zT := zmem1 zsub_2 234 (by decide +kernel) (by decide +kernel)
theorem m_st_math_min : Cond.static Lib.Math.min.name ∈ zT := zmem1 zsub_2 235 (by decide +kernel) (by decide +kernel)
theorem m_ii_math : Cond.initialized "java/lang/Math" ∈ zT := zmem1 zsub_1 13 (by decide +kernel) (by decide +kernel)
theorem m_fl_RX7_49 : Cond.fieldLink RX7 49 (TX7 3).1 (TX7 3).2.1 (TX7 3).2.2.1 ∈ zT := zmem1 zsub_1 177 (by decide +kernel) (by decide +kernel)
theorem m_fl_RX7_52 : Cond.fieldLink RX7 52 (TX7 4).1 (TX7 4).2.1 (TX7 4).2.2.1 ∈ zT := zmem1 zsub_1 179 (by decide +kernel) (by decide +kernel)
theorem m_fl_RX7_55 : Cond.fieldLink RX7 55 (TX7 11).1 (TX7 11).2.1 (TX7 11).2.2.1 ∈ zT := zmem1 zsub_1 187 (by decide +kernel) (by decide +kernel)
theorem m_co_X4_clear : Cond.code yX4_clear cX4_clear 2 none ∈ zT := zmem1 zsub_3 0 (by decide +kernel) (by decide +kernel)
theorem m_ml_RX7_62 : Cond.methodLink RX7 62 yX4_clear ∈ zT := zmem1 zsub_2 237 (by decide +kernel) (by decide +kernel)
theorem m_im_X4_clear : Cond.instanceMethod yX4_clear ∈ zT := zmem1 zsub_2 238 (by decide +kernel) (by decide +kernel)
theorem m_se_X4_clear : Cond.selects RX4 yX4_clear yX4_clear ∈ zT := zmem1 zsub_2 239 (by decide +kernel) (by decide +kernel)
theorem m_fl_RX7_65 : Cond.fieldLink RX7 65 (TX2 0).1 (TX2 0).2.1 (TX2 0).2.2.1 ∈ zT := zmem1 zsub_1 89 (by decide +kernel) (by decide +kernel)
theorem m_fl_RX7_68 : Cond.fieldLink RX7 68 (TX5 0).1 (TX5 0).2.1 (TX5 0).2.2.1 ∈ zT := zmem1 zsub_1 115 (by decide +kernel) (by decide +kernel)
theorem m_co_X7_nextToken : Cond.code yX7_nextToken cX7_nextToken 2 none ∈ zT := zmem1 zsub_3 4 (by decide +kernel) (by decide +kernel)
theorem m_ml_RX7_71 : Cond.methodLink RX7 71 yX7_nextToken ∈ zT := zmem1 zsub_3 1 (by decide +kernel) (by decide +kernel)
theorem m_im_X7_nextToken : Cond.instanceMethod yX7_nextToken ∈ zT := zmem1 zsub_3 3 (by decide +kernel) (by decide +kernel)
theorem m_se_X7_nextToken : Cond.selects RX7 yX7_nextToken yX7_nextToken ∈ zT := zmem 0 (by decide +kernel) (by decide +kernel)
theorem m_ii_RX7 : Cond.initialized RX7 ∈ zT := zmem1 zsub_1 6 (by decide +kernel) (by decide +kernel)
theorem m_co_X7_lookAtWhole : Cond.code yX7_lookAtWhole cX7_lookAtWhole 2 none ∈ zT := zmem1 zsub_3 145 (by decide +kernel) (by decide +kernel)
theorem m_ml_RX7_81 : Cond.methodLink RX7 81 yX7_lookAtWhole ∈ zT := zmem1 zsub_3 142 (by decide +kernel) (by decide +kernel)
theorem m_im_X7_lookAtWhole : Cond.instanceMethod yX7_lookAtWhole ∈ zT := zmem1 zsub_3 144 (by decide +kernel) (by decide +kernel)
theorem m_se_X7_lookAtWhole : Cond.selects RX7 yX7_lookAtWhole yX7_lookAtWhole ∈ zT := zmem 14 (by decide +kernel) (by decide +kernel)
theorem kV_RX7_62 {R : Room} {s : State} {args : Array Value} {d mc ms : Nat} (hts : ∀ w ∈ zT, w.before args s = true) (h1 : d + 1 ≤ R.frames) (h2 : 8 + (2 + 11) + 40 * d ≤ R.locals) : CallW R s args RX7 RX4 62 yX4_clear cX4_clear 2 none (zW yX4_clear cX4_clear 2 none) (zR d mc ms) mc ms 0 := z_cwV hts m_co_X4_clear m_ml_RX7_62 m_im_X4_clear m_se_X4_clear m_ii_RX4 (by decide +kernel) h1 h2
theorem kV_RX7_71 {R : Room} {s : State} {args : Array Value} {d mc ms : Nat} (hts : ∀ w ∈ zT, w.before args s = true) (h1 : d + 1 ≤ R.frames) (h2 : 8 + (2 + 11) + 40 * d ≤ R.locals) : CallW R s args RX7 RX7 71 yX7_nextToken cX7_nextToken 2 none (zW yX7_nextToken cX7_nextToken 2 none) (zR d mc ms) mc ms 0 := z_cwV hts m_co_X7_nextToken m_ml_RX7_71 m_im_X7_nextToken m_se_X7_nextToken m_ii_RX7 (by decide +kernel) h1 h2
theorem kV_RX7_81 {R : Room} {s : State} {args : Array Value} {d mc ms : Nat} (hts : ∀ w ∈ zT, w.before args s = true) (h1 : d + 1 ≤ R.frames) (h2 : 8 + (2 + 11) + 40 * d ≤ R.locals) : CallW R s args RX7 RX7 81 yX7_lookAtWhole cX7_lookAtWhole 2 none (zW yX7_lookAtWhole cX7_lookAtWhole 2 none) (zR d mc ms) mc ms 0 := z_cwV hts m_co_X7_lookAtWhole m_ml_RX7_81 m_im_X7_lookAtWhole m_se_X7_lookAtWhole m_ii_RX7 (by decide +kernel) h1 h2
theorem dX4_clear_0 : decode cX4_clear 0 = .ok (.aload_n 0, 1) := by decide +kernel
theorem dX4_clear_1 : decode cX4_clear 1 = .ok (.iconst 0, 1) := by decide +kernel
theorem dX4_clear_2 : decode cX4_clear 2 = .ok (.putfield 24, 3) := by decide +kernel
theorem dX4_clear_5 : decode cX4_clear 5 = .ok (.aload_n 0, 1) := by decide +kernel
theorem dX4_clear_6 : decode cX4_clear 6 = .ok (.iconst 0, 1) := by decide +kernel
theorem dX4_clear_7 : decode cX4_clear 7 = .ok (.putfield 28, 3) := by decide +kernel
theorem dX4_clear_10 : decode cX4_clear 10 = .ok (.iconst 0, 1) := by decide +kernel
theorem dX4_clear_11 : decode cX4_clear 11 = .ok (.istore_n 1, 1) := by decide +kernel
theorem dX4_clear_12 : decode cX4_clear 12 = .ok (.iload_n 1, 1) := by decide +kernel
theorem dX4_clear_13 : decode cX4_clear 13 = .ok (.bipush 7, 2) := by decide +kernel
theorem dX4_clear_15 : decode cX4_clear 15 = .ok (.if_icmp .ge 30, 3) := by decide +kernel
theorem dX4_clear_18 : decode cX4_clear 18 = .ok (.aload_n 0, 1) := by decide +kernel
theorem dX4_clear_19 : decode cX4_clear 19 = .ok (.getfield 9, 3) := by decide +kernel
theorem dX4_clear_22 : decode cX4_clear 22 = .ok (.iload_n 1, 1) := by decide +kernel
theorem dX4_clear_23 : decode cX4_clear 23 = .ok (.iconst 0, 1) := by decide +kernel
theorem dX4_clear_24 : decode cX4_clear 24 = .ok (.iastore, 1) := by decide +kernel
theorem dX4_clear_25 : decode cX4_clear 25 = .ok (.aload_n 0, 1) := by decide +kernel
theorem dX4_clear_26 : decode cX4_clear 26 = .ok (.getfield 18, 3) := by decide +kernel
theorem dX4_clear_29 : decode cX4_clear 29 = .ok (.iload_n 1, 1) := by decide +kernel
theorem dX4_clear_30 : decode cX4_clear 30 = .ok (.iconst 0, 1) := by decide +kernel
theorem dX4_clear_31 : decode cX4_clear 31 = .ok (.iastore, 1) := by decide +kernel
theorem dX4_clear_32 : decode cX4_clear 32 = .ok (.aload_n 0, 1) := by decide +kernel
theorem dX4_clear_33 : decode cX4_clear 33 = .ok (.getfield 21, 3) := by decide +kernel
theorem dX4_clear_36 : decode cX4_clear 36 = .ok (.iload_n 1, 1) := by decide +kernel
theorem dX4_clear_37 : decode cX4_clear 37 = .ok (.iconst 0, 1) := by decide +kernel
theorem dX4_clear_38 : decode cX4_clear 38 = .ok (.iastore, 1) := by decide +kernel
theorem dX4_clear_39 : decode cX4_clear 39 = .ok (.iinc 1 1, 3) := by decide +kernel
theorem dX4_clear_42 : decode cX4_clear 42 = .ok (.goto (-30), 3) := by decide +kernel
theorem dX4_clear_45 : decode cX4_clear 45 = .ok (.return_, 1) := by decide +kernel
theorem dX7_nextToken_0 : decode cX7_nextToken 0 = .ok (.aload_n 0, 1) := by decide +kernel
theorem dX7_nextToken_1 : decode cX7_nextToken 1 = .ok (.getfield 46, 3) := by decide +kernel
theorem dX7_nextToken_4 : decode cX7_nextToken 4 = .ok (.istore_n 1, 1) := by decide +kernel
theorem dX7_nextToken_5 : decode cX7_nextToken 5 = .ok (.iload_n 1, 1) := by decide +kernel
theorem dX7_nextToken_6 : decode cX7_nextToken 6 = .ok (.aload_n 0, 1) := by decide +kernel
theorem dX7_nextToken_7 : decode cX7_nextToken 7 = .ok (.getfield 42, 3) := by decide +kernel
theorem dX7_nextToken_10 : decode cX7_nextToken 10 = .ok (.if_icmp .ge 28, 3) := by decide +kernel
theorem dX7_nextToken_38 : decode cX7_nextToken 38 = .ok (.aload_n 0, 1) := by decide +kernel
theorem dX7_nextToken_39 : decode cX7_nextToken 39 = .ok (.aload_n 0, 1) := by decide +kernel
theorem dX7_nextToken_40 : decode cX7_nextToken 40 = .ok (.getfield 46, 3) := by decide +kernel
theorem dX7_nextToken_43 : decode cX7_nextToken 43 = .ok (.putfield 84, 3) := by decide +kernel
theorem dX7_nextToken_46 : decode cX7_nextToken 46 = .ok (.aload_n 0, 1) := by decide +kernel
theorem dX7_nextToken_47 : decode cX7_nextToken 47 = .ok (.getfield 46, 3) := by decide +kernel
theorem dX7_nextToken_50 : decode cX7_nextToken 50 = .ok (.aload_n 0, 1) := by decide +kernel
theorem dX7_nextToken_51 : decode cX7_nextToken 51 = .ok (.getfield 42, 3) := by decide +kernel
theorem dX7_nextToken_54 : decode cX7_nextToken 54 = .ok (.if_icmp .lt 11, 3) := by decide +kernel
theorem dX7_nextToken_57 : decode cX7_nextToken 57 = .ok (.aload_n 0, 1) := by decide +kernel
theorem dX7_nextToken_58 : decode cX7_nextToken 58 = .ok (.iconst 0, 1) := by decide +kernel
theorem dX7_nextToken_59 : decode cX7_nextToken 59 = .ok (.putfield 74, 3) := by decide +kernel
theorem dX7_nextToken_62 : decode cX7_nextToken 62 = .ok (.goto 80, 3) := by decide +kernel
theorem dX7_nextToken_142 : decode cX7_nextToken 142 = .ok (.return_, 1) := by decide +kernel
theorem dX7_lookAtWhole_0 : decode cX7_lookAtWhole 0 = .ok (.aload_n 0, 1) := by decide +kernel
theorem dX7_lookAtWhole_1 : decode cX7_lookAtWhole 1 = .ok (.getfield 59, 3) := by decide +kernel
theorem dX7_lookAtWhole_4 : decode cX7_lookAtWhole 4 = .ok (.aload_n 0, 1) := by decide +kernel
theorem dX7_lookAtWhole_5 : decode cX7_lookAtWhole 5 = .ok (.getfield 12, 3) := by decide +kernel
theorem dX7_lookAtWhole_8 : decode cX7_lookAtWhole 8 = .ok (.getfield 87, 3) := by decide +kernel
theorem dX7_lookAtWhole_11 : decode cX7_lookAtWhole 11 = .ok (.ishr, 1) := by decide +kernel
theorem dX7_lookAtWhole_12 : decode cX7_lookAtWhole 12 = .ok (.ifCond .eq 12, 3) := by decide +kernel
theorem dX7_lookAtWhole_24 : decode cX7_lookAtWhole 24 = .ok (.iconst 0, 1) := by decide +kernel
theorem dX7_lookAtWhole_25 : decode cX7_lookAtWhole 25 = .ok (.istore_n 1, 1) := by decide +kernel
theorem dX7_lookAtWhole_26 : decode cX7_lookAtWhole 26 = .ok (.iload_n 1, 1) := by decide +kernel
theorem dX7_lookAtWhole_27 : decode cX7_lookAtWhole 27 = .ok (.bipush 7, 2) := by decide +kernel
theorem dX7_lookAtWhole_29 : decode cX7_lookAtWhole 29 = .ok (.if_icmp .ge 51, 3) := by decide +kernel
theorem dX7_lookAtWhole_32 : decode cX7_lookAtWhole 32 = .ok (.aload_n 0, 1) := by decide +kernel
theorem dX7_lookAtWhole_33 : decode cX7_lookAtWhole 33 = .ok (.getfield 12, 3) := by decide +kernel
theorem dX7_lookAtWhole_36 : decode cX7_lookAtWhole 36 = .ok (.getfield 94, 3) := by decide +kernel
theorem dX7_lookAtWhole_39 : decode cX7_lookAtWhole 39 = .ok (.iload_n 1, 1) := by decide +kernel
theorem dX7_lookAtWhole_40 : decode cX7_lookAtWhole 40 = .ok (.iaload, 1) := by decide +kernel
theorem dX7_lookAtWhole_41 : decode cX7_lookAtWhole 41 = .ok (.ifCond .eq 33, 3) := by decide +kernel
theorem dX7_lookAtWhole_74 : decode cX7_lookAtWhole 74 = .ok (.iinc 1 1, 3) := by decide +kernel
theorem dX7_lookAtWhole_77 : decode cX7_lookAtWhole 77 = .ok (.goto (-51), 3) := by decide +kernel
theorem dX7_lookAtWhole_80 : decode cX7_lookAtWhole 80 = .ok (.return_, 1) := by decide +kernel
theorem dX7_read_0 : decode cX7_read 0 = .ok (.aload_n 0, 1) := by decide +kernel
theorem dX7_read_1 : decode cX7_read 1 = .ok (.aload_n 1, 1) := by decide +kernel
theorem dX7_read_2 : decode cX7_read 2 = .ok (.putfield 32, 3) := by decide +kernel
theorem dX7_read_5 : decode cX7_read 5 = .ok (.aload_n 0, 1) := by decide +kernel
theorem dX7_read_6 : decode cX7_read 6 = .ok (.iload_n 2, 1) := by decide +kernel
theorem dX7_read_7 : decode cX7_read 7 = .ok (.aload_n 1, 1) := by decide +kernel
theorem dX7_read_8 : decode cX7_read 8 = .ok (.arraylength, 1) := by decide +kernel
theorem dX7_read_9 : decode cX7_read 9 = .ok (.invokestatic 36, 3) := by decide +kernel
theorem dX7_read_12 : decode cX7_read 12 = .ok (.putfield 42, 3) := by decide +kernel
theorem dX7_read_15 : decode cX7_read 15 = .ok (.aload_n 0, 1) := by decide +kernel
theorem dX7_read_16 : decode cX7_read 16 = .ok (.iconst 0, 1) := by decide +kernel
theorem dX7_read_17 : decode cX7_read 17 = .ok (.putfield 46, 3) := by decide +kernel
theorem dX7_read_20 : decode cX7_read 20 = .ok (.aload_n 0, 1) := by decide +kernel
theorem dX7_read_21 : decode cX7_read 21 = .ok (.iconst 0, 1) := by decide +kernel
theorem dX7_read_22 : decode cX7_read 22 = .ok (.putfield 49, 3) := by decide +kernel
theorem dX7_read_25 : decode cX7_read 25 = .ok (.aload_n 0, 1) := by decide +kernel
theorem dX7_read_26 : decode cX7_read 26 = .ok (.iconst (-1), 1) := by decide +kernel
theorem dX7_read_27 : decode cX7_read 27 = .ok (.putfield 52, 3) := by decide +kernel
theorem dX7_read_30 : decode cX7_read 30 = .ok (.aload_n 0, 1) := by decide +kernel
theorem dX7_read_31 : decode cX7_read 31 = .ok (.iconst 0, 1) := by decide +kernel
theorem dX7_read_32 : decode cX7_read 32 = .ok (.putfield 55, 3) := by decide +kernel
theorem dX7_read_35 : decode cX7_read 35 = .ok (.aload_n 0, 1) := by decide +kernel
theorem dX7_read_36 : decode cX7_read 36 = .ok (.iconst 0, 1) := by decide +kernel
theorem dX7_read_37 : decode cX7_read 37 = .ok (.putfield 59, 3) := by decide +kernel
theorem dX7_read_40 : decode cX7_read 40 = .ok (.aload_n 0, 1) := by decide +kernel
theorem dX7_read_41 : decode cX7_read 41 = .ok (.getfield 12, 3) := by decide +kernel
theorem dX7_read_44 : decode cX7_read 44 = .ok (.invokevirtual 62, 3) := by decide +kernel
theorem dX7_read_47 : decode cX7_read 47 = .ok (.aload_n 0, 1) := by decide +kernel
theorem dX7_read_48 : decode cX7_read 48 = .ok (.getfield 21, 3) := by decide +kernel
theorem dX7_read_51 : decode cX7_read 51 = .ok (.iconst 0, 1) := by decide +kernel
theorem dX7_read_52 : decode cX7_read 52 = .ok (.putfield 65, 3) := by decide +kernel
theorem dX7_read_55 : decode cX7_read 55 = .ok (.aload_n 0, 1) := by decide +kernel
theorem dX7_read_56 : decode cX7_read 56 = .ok (.getfield 28, 3) := by decide +kernel
theorem dX7_read_59 : decode cX7_read 59 = .ok (.iconst 0, 1) := by decide +kernel
theorem dX7_read_60 : decode cX7_read 60 = .ok (.putfield 68, 3) := by decide +kernel
theorem dX7_read_63 : decode cX7_read 63 = .ok (.aload_n 0, 1) := by decide +kernel
theorem dX7_read_64 : decode cX7_read 64 = .ok (.invokevirtual 71, 3) := by decide +kernel
theorem dX7_read_67 : decode cX7_read 67 = .ok (.iconst 0, 1) := by decide +kernel
theorem dX7_read_68 : decode cX7_read 68 = .ok (.istore 4, 2) := by decide +kernel
theorem dX7_read_70 : decode cX7_read 70 = .ok (.iload 4, 2) := by decide +kernel
theorem dX7_read_72 : decode cX7_read 72 = .ok (.sipush 600, 3) := by decide +kernel
theorem dX7_read_75 : decode cX7_read 75 = .ok (.if_icmp .gt 28, 3) := by decide +kernel
theorem dX7_read_78 : decode cX7_read 78 = .ok (.aload_n 0, 1) := by decide +kernel
theorem dX7_read_79 : decode cX7_read 79 = .ok (.getfield 55, 3) := by decide +kernel
theorem dX7_read_82 : decode cX7_read 82 = .ok (.ifCond .ne 21, 3) := by decide +kernel
theorem dX7_read_85 : decode cX7_read 85 = .ok (.aload_n 0, 1) := by decide +kernel
theorem dX7_read_86 : decode cX7_read 86 = .ok (.getfield 74, 3) := by decide +kernel
theorem dX7_read_89 : decode cX7_read 89 = .ok (.ifCond .eq 14, 3) := by decide +kernel
theorem dX7_read_103 : decode cX7_read 103 = .ok (.iload_n 3, 1) := by decide +kernel
theorem dX7_read_104 : decode cX7_read 104 = .ok (.ifCond .ne 7, 3) := by decide +kernel
theorem dX7_read_107 : decode cX7_read 107 = .ok (.aload_n 0, 1) := by decide +kernel
theorem dX7_read_108 : decode cX7_read 108 = .ok (.invokevirtual 81, 3) := by decide +kernel
theorem dX7_read_111 : decode cX7_read 111 = .ok (.return_, 1) := by decide +kernel

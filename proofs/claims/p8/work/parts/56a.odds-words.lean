theorem m_co_X11_fit : Cond.code yX11_fit cX11_fit 5 (some .boolean) ∈ zT := zmem1 zsub_5 113 (by decide +kernel) (by decide +kernel)
theorem m_ml_RX11_302 : Cond.methodLink RX11 302 yX11_fit ∈ zT := zmem1 zsub_5 110 (by decide +kernel) (by decide +kernel)
theorem m_im_X11_fit : Cond.instanceMethod yX11_fit ∈ zT := zmem1 zsub_5 112 (by decide +kernel) (by decide +kernel)
theorem m_se_X11_fit : Cond.selects RX11 yX11_fit yX11_fit ∈ zT := zmem 41 (by decide +kernel) (by decide +kernel)
theorem m_fl_RX11_306 : Cond.fieldLink RX11 306 (TX3 3).1 (TX3 3).2.1 (TX3 3).2.2.1 ∈ zT := zmem1 zsub_2 152 (by decide +kernel) (by decide +kernel)
theorem m_fl_RX11_327 : Cond.fieldLink RX11 327 (TX3 4).1 (TX3 4).2.1 (TX3 4).2.2.1 ∈ zT := zmem1 zsub_2 154 (by decide +kernel) (by decide +kernel)
theorem m_fl_RX11_324 : Cond.fieldLink RX11 324 (TX3 5).1 (TX3 5).2.1 (TX3 5).2.2.1 ∈ zT := zmem1 zsub_2 156 (by decide +kernel) (by decide +kernel)
theorem m_ml_RX11_317 : Cond.methodLink RX11 317 yX3_way ∈ zT := zmem1 zsub_5 157 (by decide +kernel) (by decide +kernel)
theorem m_co_X3_sure : Cond.code yX3_sure cX3_sure 4 (some .int) ∈ zT := zmem1 zsub_5 147 (by decide +kernel) (by decide +kernel)
theorem m_ml_RX11_313 : Cond.methodLink RX11 313 yX3_sure ∈ zT := zmem1 zsub_5 144 (by decide +kernel) (by decide +kernel)
theorem m_im_X3_sure : Cond.instanceMethod yX3_sure ∈ zT := zmem1 zsub_5 145 (by decide +kernel) (by decide +kernel)
theorem m_se_X3_sure : Cond.selects RX3 yX3_sure yX3_sure ∈ zT := zmem1 zsub_5 146 (by decide +kernel) (by decide +kernel)
theorem m_co_X3_ask : Cond.code yX3_ask cX3_ask 6 (some .int) ∈ zT := zmem1 zsub_5 139 (by decide +kernel) (by decide +kernel)
theorem m_ml_RX11_309 : Cond.methodLink RX11 309 yX3_ask ∈ zT := zmem1 zsub_5 136 (by decide +kernel) (by decide +kernel)
theorem m_im_X3_ask : Cond.instanceMethod yX3_ask ∈ zT := zmem1 zsub_5 137 (by decide +kernel) (by decide +kernel)
theorem m_se_X3_ask : Cond.selects RX3 yX3_ask yX3_ask ∈ zT := zmem1 zsub_5 138 (by decide +kernel) (by decide +kernel)
theorem m_ml_RX11_320 : Cond.methodLink RX11 320 yX3_pointing ∈ zT := zmem1 zsub_5 162 (by decide +kernel) (by decide +kernel)
theorem kV_RX11_302 {R : Room} {s : State} {args : Array Value} {d mc ms : Nat} (hts : ∀ w ∈ zT, w.before args s = true) (h1 : d + 1 ≤ R.frames) (h2 : 8 + (5 + 11) + 40 * d ≤ R.locals) : CallW R s args RX11 RX11 302 yX11_fit cX11_fit 5 (some .boolean) (zW yX11_fit cX11_fit 5 (some .boolean)) (zR d mc ms) mc ms 2 := z_cwV hts m_co_X11_fit m_ml_RX11_302 m_im_X11_fit m_se_X11_fit m_ii_RX11 (by decide +kernel) h1 h2
theorem kV_RX11_317 {R : Room} {s : State} {args : Array Value} {d mc ms : Nat} (hts : ∀ w ∈ zT, w.before args s = true) (h1 : d + 1 ≤ R.frames) (h2 : 8 + (2 + 11) + 40 * d ≤ R.locals) : CallW R s args RX11 RX3 317 yX3_way cX3_way 2 (some .int) (zW yX3_way cX3_way 2 (some .int)) (zR d mc ms) mc ms 1 := z_cwV hts m_co_X3_way m_ml_RX11_317 m_im_X3_way m_se_X3_way m_ii_RX3 (by decide +kernel) h1 h2
theorem kV_RX11_313 {R : Room} {s : State} {args : Array Value} {d mc ms : Nat} (hts : ∀ w ∈ zT, w.before args s = true) (h1 : d + 1 ≤ R.frames) (h2 : 8 + (4 + 11) + 40 * d ≤ R.locals) : CallW R s args RX11 RX3 313 yX3_sure cX3_sure 4 (some .int) (zW yX3_sure cX3_sure 4 (some .int)) (zR d mc ms) mc ms 2 := z_cwV hts m_co_X3_sure m_ml_RX11_313 m_im_X3_sure m_se_X3_sure m_ii_RX3 (by decide +kernel) h1 h2
theorem kV_RX11_309 {R : Room} {s : State} {args : Array Value} {d mc ms : Nat} (hts : ∀ w ∈ zT, w.before args s = true) (h1 : d + 1 ≤ R.frames) (h2 : 8 + (6 + 11) + 40 * d ≤ R.locals) : CallW R s args RX11 RX3 309 yX3_ask cX3_ask 6 (some .int) (zW yX3_ask cX3_ask 6 (some .int)) (zR d mc ms) mc ms 1 := z_cwV hts m_co_X3_ask m_ml_RX11_309 m_im_X3_ask m_se_X3_ask m_ii_RX3 (by decide +kernel) h1 h2
theorem kV_RX11_320 {R : Room} {s : State} {args : Array Value} {d mc ms : Nat} (hts : ∀ w ∈ zT, w.before args s = true) (h1 : d + 1 ≤ R.frames) (h2 : 8 + (6 + 11) + 40 * d ≤ R.locals) : CallW R s args RX11 RX3 320 yX3_pointing cX3_pointing 6 (some .int) (zW yX3_pointing cX3_pointing 6 (some .int)) (zR d mc ms) mc ms 3 := z_cwV hts m_co_X3_pointing m_ml_RX11_320 m_im_X3_pointing m_se_X3_pointing m_ii_RX3 (by decide +kernel) h1 h2
theorem dX11_least_0 : decode cX11_least 0 = .ok (.aload_n 0, 1) := by decide +kernel
theorem dX11_least_1 : decode cX11_least 1 = .ok (.iload_n 1, 1) := by decide +kernel
theorem dX11_least_2 : decode cX11_least 2 = .ok (.iload_n 2, 1) := by decide +kernel
theorem dX11_least_3 : decode cX11_least 3 = .ok (.invokevirtual 302, 3) := by decide +kernel
theorem dX11_least_6 : decode cX11_least 6 = .ok (.ifCond .eq 13, 3) := by decide +kernel
theorem dX11_least_9 : decode cX11_least 9 = .ok (.aload_n 0, 1) := by decide +kernel
theorem dX11_least_10 : decode cX11_least 10 = .ok (.getfield 65, 3) := by decide +kernel
theorem dX11_least_13 : decode cX11_least 13 = .ok (.getfield 306, 3) := by decide +kernel
theorem dX11_least_16 : decode cX11_least 16 = .ok (.ifCond .ne 5, 3) := by decide +kernel
theorem dX11_least_19 : decode cX11_least 19 = .ok (.iconst (-1), 1) := by decide +kernel
theorem dX11_least_20 : decode cX11_least 20 = .ok (.ireturn, 1) := by decide +kernel
theorem dX11_least_21 : decode cX11_least 21 = .ok (.iload_n 3, 1) := by decide +kernel
theorem dX11_least_22 : decode cX11_least 22 = .ok (.ifCond .eq 13, 3) := by decide +kernel
theorem dX11_least_25 : decode cX11_least 25 = .ok (.aload_n 0, 1) := by decide +kernel
theorem dX11_least_26 : decode cX11_least 26 = .ok (.getfield 65, 3) := by decide +kernel
theorem dX11_least_29 : decode cX11_least 29 = .ok (.getfield 324, 3) := by decide +kernel
theorem dX11_least_32 : decode cX11_least 32 = .ok (.goto 10, 3) := by decide +kernel
theorem dX11_least_35 : decode cX11_least 35 = .ok (.aload_n 0, 1) := by decide +kernel
theorem dX11_least_36 : decode cX11_least 36 = .ok (.getfield 65, 3) := by decide +kernel
theorem dX11_least_39 : decode cX11_least 39 = .ok (.getfield 327, 3) := by decide +kernel
theorem dX11_least_42 : decode cX11_least 42 = .ok (.ireturn, 1) := by decide +kernel
theorem dX11_fits_0 : decode cX11_fits 0 = .ok (.aload_n 0, 1) := by decide +kernel
theorem dX11_fits_1 : decode cX11_fits 1 = .ok (.getfield 10, 3) := by decide +kernel
theorem dX11_fits_4 : decode cX11_fits 4 = .ok (.iload_n 1, 1) := by decide +kernel
theorem dX11_fits_5 : decode cX11_fits 5 = .ok (.invokevirtual 121, 3) := by decide +kernel
theorem dX11_fits_8 : decode cX11_fits 8 = .ok (.astore 4, 2) := by decide +kernel
theorem dX11_fits_10 : decode cX11_fits 10 = .ok (.aload_n 0, 1) := by decide +kernel
theorem dX11_fits_11 : decode cX11_fits 11 = .ok (.iload_n 1, 1) := by decide +kernel
theorem dX11_fits_12 : decode cX11_fits 12 = .ok (.iload_n 2, 1) := by decide +kernel
theorem dX11_fits_13 : decode cX11_fits 13 = .ok (.invokevirtual 302, 3) := by decide +kernel
theorem dX11_fits_16 : decode cX11_fits 16 = .ok (.ifCond .eq 12, 3) := by decide +kernel
theorem dX11_fits_19 : decode cX11_fits 19 = .ok (.aload 4, 2) := by decide +kernel
theorem dX11_fits_21 : decode cX11_fits 21 = .ok (.ifnull 7, 3) := by decide +kernel
theorem dX11_fits_24 : decode cX11_fits 24 = .ok (.iload_n 3, 1) := by decide +kernel
theorem dX11_fits_25 : decode cX11_fits 25 = .ok (.ifCond .ge 6, 3) := by decide +kernel
theorem dX11_fits_28 : decode cX11_fits 28 = .ok (.bipush (-2), 2) := by decide +kernel
theorem dX11_fits_30 : decode cX11_fits 30 = .ok (.ireturn, 1) := by decide +kernel
theorem dX11_fits_31 : decode cX11_fits 31 = .ok (.aload_n 0, 1) := by decide +kernel
theorem dX11_fits_32 : decode cX11_fits 32 = .ok (.iload_n 1, 1) := by decide +kernel
theorem dX11_fits_33 : decode cX11_fits 33 = .ok (.aload 4, 2) := by decide +kernel
theorem dX11_fits_35 : decode cX11_fits 35 = .ok (.invokevirtual 235, 3) := by decide +kernel
theorem dX11_fits_38 : decode cX11_fits 38 = .ok (.astore 5, 2) := by decide +kernel
theorem dX11_fits_40 : decode cX11_fits 40 = .ok (.iload_n 3, 1) := by decide +kernel
theorem dX11_fits_41 : decode cX11_fits 41 = .ok (.ifCond .ne 11, 3) := by decide +kernel
theorem dX11_fits_44 : decode cX11_fits 44 = .ok (.aload_n 0, 1) := by decide +kernel
theorem dX11_fits_45 : decode cX11_fits 45 = .ok (.getfield 65, 3) := by decide +kernel
theorem dX11_fits_48 : decode cX11_fits 48 = .ok (.getfield 306, 3) := by decide +kernel
theorem dX11_fits_51 : decode cX11_fits 51 = .ok (.ireturn, 1) := by decide +kernel
theorem dX11_fits_52 : decode cX11_fits 52 = .ok (.iload_n 3, 1) := by decide +kernel
theorem dX11_fits_53 : decode cX11_fits 53 = .ok (.iconst 1, 1) := by decide +kernel
theorem dX11_fits_54 : decode cX11_fits 54 = .ok (.if_icmp .ne 13, 3) := by decide +kernel
theorem dX11_fits_57 : decode cX11_fits 57 = .ok (.aload_n 0, 1) := by decide +kernel
theorem dX11_fits_58 : decode cX11_fits 58 = .ok (.getfield 65, 3) := by decide +kernel
theorem dX11_fits_61 : decode cX11_fits 61 = .ok (.aload 5, 2) := by decide +kernel
theorem dX11_fits_63 : decode cX11_fits 63 = .ok (.invokevirtual 309, 3) := by decide +kernel
theorem dX11_fits_66 : decode cX11_fits 66 = .ok (.ireturn, 1) := by decide +kernel
theorem dX11_fits_67 : decode cX11_fits 67 = .ok (.iload_n 3, 1) := by decide +kernel
theorem dX11_fits_68 : decode cX11_fits 68 = .ok (.bipush 9, 2) := by decide +kernel
theorem dX11_fits_70 : decode cX11_fits 70 = .ok (.if_icmp .ge 16, 3) := by decide +kernel
theorem dX11_fits_73 : decode cX11_fits 73 = .ok (.aload_n 0, 1) := by decide +kernel
theorem dX11_fits_74 : decode cX11_fits 74 = .ok (.getfield 65, 3) := by decide +kernel
theorem dX11_fits_77 : decode cX11_fits 77 = .ok (.aload 5, 2) := by decide +kernel
theorem dX11_fits_79 : decode cX11_fits 79 = .ok (.iload_n 3, 1) := by decide +kernel
theorem dX11_fits_80 : decode cX11_fits 80 = .ok (.iconst 2, 1) := by decide +kernel
theorem dX11_fits_81 : decode cX11_fits 81 = .ok (.isub, 1) := by decide +kernel
theorem dX11_fits_82 : decode cX11_fits 82 = .ok (.invokevirtual 313, 3) := by decide +kernel
theorem dX11_fits_85 : decode cX11_fits 85 = .ok (.ireturn, 1) := by decide +kernel
theorem dX11_fits_86 : decode cX11_fits 86 = .ok (.iload_n 3, 1) := by decide +kernel
theorem dX11_fits_87 : decode cX11_fits 87 = .ok (.bipush 10, 2) := by decide +kernel
theorem dX11_fits_89 : decode cX11_fits 89 = .ok (.isub, 1) := by decide +kernel
theorem dX11_fits_90 : decode cX11_fits 90 = .ok (.istore 6, 2) := by decide +kernel
theorem dX11_fits_92 : decode cX11_fits 92 = .ok (.iload 6, 2) := by decide +kernel
theorem dX11_fits_94 : decode cX11_fits 94 = .ok (.ifCond .lt 32, 3) := by decide +kernel
theorem dX11_fits_97 : decode cX11_fits 97 = .ok (.iload 6, 2) := by decide +kernel
theorem dX11_fits_99 : decode cX11_fits 99 = .ok (.aload_n 0, 1) := by decide +kernel
theorem dX11_fits_100 : decode cX11_fits 100 = .ok (.getfield 65, 3) := by decide +kernel
theorem dX11_fits_103 : decode cX11_fits 103 = .ok (.getfield 306, 3) := by decide +kernel
theorem dX11_fits_106 : decode cX11_fits 106 = .ok (.if_icmp .ge 20, 3) := by decide +kernel
theorem dX11_fits_109 : decode cX11_fits 109 = .ok (.aload 5, 2) := by decide +kernel
theorem dX11_fits_111 : decode cX11_fits 111 = .ok (.aload_n 0, 1) := by decide +kernel
theorem dX11_fits_112 : decode cX11_fits 112 = .ok (.getfield 65, 3) := by decide +kernel
theorem dX11_fits_115 : decode cX11_fits 115 = .ok (.iload 6, 2) := by decide +kernel
theorem dX11_fits_117 : decode cX11_fits 117 = .ok (.invokevirtual 317, 3) := by decide +kernel
theorem dX11_fits_120 : decode cX11_fits 120 = .ok (.invokevirtual 272, 3) := by decide +kernel
theorem dX11_fits_123 : decode cX11_fits 123 = .ok (.goto 5, 3) := by decide +kernel
theorem dX11_fits_126 : decode cX11_fits 126 = .ok (.bipush (-2), 2) := by decide +kernel
theorem dX11_fits_128 : decode cX11_fits 128 = .ok (.ireturn, 1) := by decide +kernel
theorem dX11_odds_0 : decode cX11_odds 0 = .ok (.aload_n 0, 1) := by decide +kernel
theorem dX11_odds_1 : decode cX11_odds 1 = .ok (.getfield 10, 3) := by decide +kernel
theorem dX11_odds_4 : decode cX11_odds 4 = .ok (.iload_n 1, 1) := by decide +kernel
theorem dX11_odds_5 : decode cX11_odds 5 = .ok (.invokevirtual 121, 3) := by decide +kernel
theorem dX11_odds_8 : decode cX11_odds 8 = .ok (.astore 6, 2) := by decide +kernel
theorem dX11_odds_10 : decode cX11_odds 10 = .ok (.aload_n 0, 1) := by decide +kernel
theorem dX11_odds_11 : decode cX11_odds 11 = .ok (.iload_n 1, 1) := by decide +kernel
theorem dX11_odds_12 : decode cX11_odds 12 = .ok (.iload_n 2, 1) := by decide +kernel
theorem dX11_odds_13 : decode cX11_odds 13 = .ok (.invokevirtual 302, 3) := by decide +kernel
theorem dX11_odds_16 : decode cX11_odds 16 = .ok (.ifCond .eq 24, 3) := by decide +kernel
theorem dX11_odds_19 : decode cX11_odds 19 = .ok (.aload 6, 2) := by decide +kernel
theorem dX11_odds_21 : decode cX11_odds 21 = .ok (.ifnull 19, 3) := by decide +kernel
theorem dX11_odds_24 : decode cX11_odds 24 = .ok (.iload 4, 2) := by decide +kernel
theorem dX11_odds_26 : decode cX11_odds 26 = .ok (.ifCond .lt 14, 3) := by decide +kernel
theorem dX11_odds_29 : decode cX11_odds 29 = .ok (.iload 4, 2) := by decide +kernel
theorem dX11_odds_31 : decode cX11_odds 31 = .ok (.aload 6, 2) := by decide +kernel
theorem dX11_odds_33 : decode cX11_odds 33 = .ok (.iload_n 3, 1) := by decide +kernel
theorem dX11_odds_34 : decode cX11_odds 34 = .ok (.invokevirtual 221, 3) := by decide +kernel
theorem dX11_odds_37 : decode cX11_odds 37 = .ok (.if_icmp .lt 5, 3) := by decide +kernel
theorem dX11_odds_40 : decode cX11_odds 40 = .ok (.iconst (-1), 1) := by decide +kernel
theorem dX11_odds_41 : decode cX11_odds 41 = .ok (.ireturn, 1) := by decide +kernel
theorem dX11_odds_42 : decode cX11_odds 42 = .ok (.aload_n 0, 1) := by decide +kernel
theorem dX11_odds_43 : decode cX11_odds 43 = .ok (.getfield 65, 3) := by decide +kernel
theorem dX11_odds_46 : decode cX11_odds 46 = .ok (.getfield 306, 3) := by decide +kernel
theorem dX11_odds_49 : decode cX11_odds 49 = .ok (.ifCond .ne 5, 3) := by decide +kernel
theorem dX11_odds_52 : decode cX11_odds 52 = .ok (.iconst (-1), 1) := by decide +kernel
theorem dX11_odds_53 : decode cX11_odds 53 = .ok (.ireturn, 1) := by decide +kernel
theorem dX11_odds_54 : decode cX11_odds 54 = .ok (.aload_n 0, 1) := by decide +kernel
theorem dX11_odds_55 : decode cX11_odds 55 = .ok (.getfield 65, 3) := by decide +kernel
theorem dX11_odds_58 : decode cX11_odds 58 = .ok (.aload_n 0, 1) := by decide +kernel
theorem dX11_odds_59 : decode cX11_odds 59 = .ok (.iload_n 1, 1) := by decide +kernel
theorem dX11_odds_60 : decode cX11_odds 60 = .ok (.aload 6, 2) := by decide +kernel
theorem dX11_odds_62 : decode cX11_odds 62 = .ok (.invokevirtual 235, 3) := by decide +kernel
theorem dX11_odds_65 : decode cX11_odds 65 = .ok (.iload_n 3, 1) := by decide +kernel
theorem dX11_odds_66 : decode cX11_odds 66 = .ok (.iload 4, 2) := by decide +kernel
theorem dX11_odds_68 : decode cX11_odds 68 = .ok (.invokevirtual 320, 3) := by decide +kernel
theorem dX11_odds_71 : decode cX11_odds 71 = .ok (.istore 7, 2) := by decide +kernel
theorem dX11_odds_73 : decode cX11_odds 73 = .ok (.iload 7, 2) := by decide +kernel
theorem dX11_odds_75 : decode cX11_odds 75 = .ok (.aload_n 0, 1) := by decide +kernel
theorem dX11_odds_76 : decode cX11_odds 76 = .ok (.getfield 65, 3) := by decide +kernel
theorem dX11_odds_79 : decode cX11_odds 79 = .ok (.getfield 306, 3) := by decide +kernel
theorem dX11_odds_82 : decode cX11_odds 82 = .ok (.iload 5, 2) := by decide +kernel
theorem dX11_odds_84 : decode cX11_odds 84 = .ok (.invokestatic 262, 3) := by decide +kernel
theorem dX11_odds_87 : decode cX11_odds 87 = .ok (.ireturn, 1) := by decide +kernel


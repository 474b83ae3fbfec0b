theorem m_ml_RX11_266 : Cond.methodLink RX11 266 yX0_steps ∈ zT := zmem1 zsub_5 49 (by decide +kernel) (by decide +kernel)
theorem m_co_X0_number : Cond.code yX0_number cX0_number 4 (some .int) ∈ zT := zmem1 zsub_5 81 (by decide +kernel) (by decide +kernel)
theorem m_ml_RX11_272 : Cond.methodLink RX11 272 yX0_number ∈ zT := zmem1 zsub_5 78 (by decide +kernel) (by decide +kernel)
theorem m_im_X0_number : Cond.instanceMethod yX0_number ∈ zT := zmem1 zsub_5 79 (by decide +kernel) (by decide +kernel)
theorem m_se_X0_number : Cond.selects RX0 yX0_number yX0_number ∈ zT := zmem1 zsub_5 80 (by decide +kernel) (by decide +kernel)
theorem m_ml_RX11_242 : Cond.methodLink RX11 242 yX0_wayTold ∈ zT := zmem1 zsub_5 33 (by decide +kernel) (by decide +kernel)
theorem m_ml_RX11_275 : Cond.methodLink RX11 275 yX0_wayAfter ∈ zT := zmem1 zsub_5 86 (by decide +kernel) (by decide +kernel)
theorem m_co_X0_nearestWay : Cond.code yX0_nearestWay cX0_nearestWay 9 (some .int) ∈ zT := zmem1 zsub_5 15 (by decide +kernel) (by decide +kernel)
theorem m_ml_RX11_239 : Cond.methodLink RX11 239 yX0_nearestWay ∈ zT := zmem1 zsub_5 12 (by decide +kernel) (by decide +kernel)
theorem m_im_X0_nearestWay : Cond.instanceMethod yX0_nearestWay ∈ zT := zmem1 zsub_5 13 (by decide +kernel) (by decide +kernel)
theorem m_se_X0_nearestWay : Cond.selects RX0 yX0_nearestWay yX0_nearestWay ∈ zT := zmem1 zsub_5 14 (by decide +kernel) (by decide +kernel)
theorem m_ml_RX11_245 : Cond.methodLink RX11 245 yX0_unlike ∈ zT := zmem1 zsub_5 34 (by decide +kernel) (by decide +kernel)
theorem m_ml_RX11_253 : Cond.methodLink RX11 253 yX0_road ∈ zT := zmem1 zsub_5 36 (by decide +kernel) (by decide +kernel)
theorem m_ml_RX11_248 : Cond.methodLink RX11 248 yJ6_bitCount_0f7a4 ∈ zT := zmem1 zsub_5 35 (by decide +kernel) (by decide +kernel)
theorem m_co_X11_bestTurn : Cond.code yX11_bestTurn cX11_bestTurn 7 (some .int) ∈ zT := zmem1 zsub_5 105 (by decide +kernel) (by decide +kernel)
theorem m_ml_RX11_282 : Cond.methodLink RX11 282 yX11_bestTurn ∈ zT := zmem1 zsub_5 103 (by decide +kernel) (by decide +kernel)
theorem m_st_X11_bestTurn : Cond.static yX11_bestTurn ∈ zT := zmem1 zsub_5 104 (by decide +kernel) (by decide +kernel)
theorem kV_RX11_266 {R : Room} {s : State} {args : Array Value} {d mc ms : Nat} (hts : ∀ w ∈ zT, w.before args s = true) (h1 : d + 1 ≤ R.frames) (h2 : 8 + (3 + 11) + 40 * d ≤ R.locals) : CallW R s args RX11 RX0 266 yX0_steps cX0_steps 3 (some .int) (zW yX0_steps cX0_steps 3 (some .int)) (zR d mc ms) mc ms 2 := z_cwV hts m_co_X0_steps m_ml_RX11_266 m_im_X0_steps m_se_X0_steps m_ii_RX0 (by decide +kernel) h1 h2
theorem kV_RX11_272 {R : Room} {s : State} {args : Array Value} {d mc ms : Nat} (hts : ∀ w ∈ zT, w.before args s = true) (h1 : d + 1 ≤ R.frames) (h2 : 8 + (4 + 11) + 40 * d ≤ R.locals) : CallW R s args RX11 RX0 272 yX0_number cX0_number 4 (some .int) (zW yX0_number cX0_number 4 (some .int)) (zR d mc ms) mc ms 1 := z_cwV hts m_co_X0_number m_ml_RX11_272 m_im_X0_number m_se_X0_number m_ii_RX0 (by decide +kernel) h1 h2
theorem kV_RX11_242 {R : Room} {s : State} {args : Array Value} {d mc ms : Nat} (hts : ∀ w ∈ zT, w.before args s = true) (h1 : d + 1 ≤ R.frames) (h2 : 8 + (3 + 11) + 40 * d ≤ R.locals) : CallW R s args RX11 RX0 242 yX0_wayTold cX0_wayTold 3 (some .int) (zW yX0_wayTold cX0_wayTold 3 (some .int)) (zR d mc ms) mc ms 0 := z_cwV hts m_co_X0_wayTold m_ml_RX11_242 m_im_X0_wayTold m_se_X0_wayTold m_ii_RX0 (by decide +kernel) h1 h2
theorem kV_RX11_275 {R : Room} {s : State} {args : Array Value} {d mc ms : Nat} (hts : ∀ w ∈ zT, w.before args s = true) (h1 : d + 1 ≤ R.frames) (h2 : 8 + (3 + 11) + 40 * d ≤ R.locals) : CallW R s args RX11 RX0 275 yX0_wayAfter cX0_wayAfter 3 (some .int) (zW yX0_wayAfter cX0_wayAfter 3 (some .int)) (zR d mc ms) mc ms 2 := z_cwV hts m_co_X0_wayAfter m_ml_RX11_275 m_im_X0_wayAfter m_se_X0_wayAfter m_ii_RX0 (by decide +kernel) h1 h2
theorem kV_RX11_239 {R : Room} {s : State} {args : Array Value} {d mc ms : Nat} (hts : ∀ w ∈ zT, w.before args s = true) (h1 : d + 1 ≤ R.frames) (h2 : 8 + (9 + 11) + 40 * d ≤ R.locals) : CallW R s args RX11 RX0 239 yX0_nearestWay cX0_nearestWay 9 (some .int) (zW yX0_nearestWay cX0_nearestWay 9 (some .int)) (zR d mc ms) mc ms 2 := z_cwV hts m_co_X0_nearestWay m_ml_RX11_239 m_im_X0_nearestWay m_se_X0_nearestWay m_ii_RX0 (by decide +kernel) h1 h2
theorem kV_RX11_245 {R : Room} {s : State} {args : Array Value} {d mc ms : Nat} (hts : ∀ w ∈ zT, w.before args s = true) (h1 : d + 1 ≤ R.frames) (h2 : 8 + (5 + 11) + 40 * d ≤ R.locals) : CallW R s args RX11 RX0 245 yX0_unlike cX0_unlike 5 (some .int) (zW yX0_unlike cX0_unlike 5 (some .int)) (zR d mc ms) mc ms 2 := z_cwV hts m_co_X0_unlike m_ml_RX11_245 m_im_X0_unlike m_se_X0_unlike m_ii_RX0 (by decide +kernel) h1 h2
theorem kV_RX11_253 {R : Room} {s : State} {args : Array Value} {d mc ms : Nat} (hts : ∀ w ∈ zT, w.before args s = true) (h1 : d + 1 ≤ R.frames) (h2 : 8 + (3 + 11) + 40 * d ≤ R.locals) : CallW R s args RX11 RX0 253 yX0_road cX0_road 3 (some .int) (zW yX0_road cX0_road 3 (some .int)) (zR d mc ms) mc ms 2 := z_cwV hts m_co_X0_road m_ml_RX11_253 m_im_X0_road m_se_X0_road m_ii_RX0 (by decide +kernel) h1 h2
theorem kS_RX11_248 {R : Room} {s : State} {args : Array Value} {d mc ms : Nat} (hts : ∀ w ∈ zT, w.before args s = true) (h1 : d + 1 ≤ R.frames) (h2 : 8 + (1 + 11) + 40 * d ≤ R.locals) : CallB R s args RX11 248 yJ6_bitCount_0f7a4 cJ6_bitCount_0f7a4 1 (some .int) (zW yJ6_bitCount_0f7a4 cJ6_bitCount_0f7a4 1 (some .int)) (zR d mc ms) mc ms 1 ∧ (Cond.static yJ6_bitCount_0f7a4).before args s = true := z_cwS hts m_co_J6_bitCount_0f7a4 m_ml_RX11_248 m_st_J6_bitCount_0f7a4 m_ii_RJ6 (by decide +kernel) h1 h2
theorem kS_RX11_282 {R : Room} {s : State} {args : Array Value} {d mc ms : Nat} (hts : ∀ w ∈ zT, w.before args s = true) (h1 : d + 1 ≤ R.frames) (h2 : 8 + (7 + 11) + 40 * d ≤ R.locals) : CallB R s args RX11 282 yX11_bestTurn cX11_bestTurn 7 (some .int) (zW yX11_bestTurn cX11_bestTurn 7 (some .int)) (zR d mc ms) mc ms 5 ∧ (Cond.static yX11_bestTurn).before args s = true := z_cwS hts m_co_X11_bestTurn m_ml_RX11_282 m_st_X11_bestTurn m_ii_RX11 (by decide +kernel) h1 h2
theorem dX11_mean_0 : decode cX11_mean 0 = .ok (.aload_n 0, 1) := by decide +kernel
theorem dX11_mean_1 : decode cX11_mean 1 = .ok (.getfield 10, 3) := by decide +kernel
theorem dX11_mean_4 : decode cX11_mean 4 = .ok (.iload_n 1, 1) := by decide +kernel
theorem dX11_mean_5 : decode cX11_mean 5 = .ok (.invokevirtual 121, 3) := by decide +kernel
theorem dX11_mean_8 : decode cX11_mean 8 = .ok (.astore 4, 2) := by decide +kernel
theorem dX11_mean_10 : decode cX11_mean 10 = .ok (.aload 4, 2) := by decide +kernel
theorem dX11_mean_12 : decode cX11_mean 12 = .ok (.ifnull 12, 3) := by decide +kernel
theorem dX11_mean_15 : decode cX11_mean 15 = .ok (.aload 4, 2) := by decide +kernel
theorem dX11_mean_17 : decode cX11_mean 17 = .ok (.iload_n 2, 1) := by decide +kernel
theorem dX11_mean_18 : decode cX11_mean 18 = .ok (.invokevirtual 160, 3) := by decide +kernel
theorem dX11_mean_21 : decode cX11_mean 21 = .ok (.ifCond .ne 5, 3) := by decide +kernel
theorem dX11_mean_24 : decode cX11_mean 24 = .ok (.iconst (-1), 1) := by decide +kernel
theorem dX11_mean_25 : decode cX11_mean 25 = .ok (.ireturn, 1) := by decide +kernel
theorem dX11_mean_26 : decode cX11_mean 26 = .ok (.aload_n 0, 1) := by decide +kernel
theorem dX11_mean_27 : decode cX11_mean 27 = .ok (.iload_n 1, 1) := by decide +kernel
theorem dX11_mean_28 : decode cX11_mean 28 = .ok (.aload 4, 2) := by decide +kernel
theorem dX11_mean_30 : decode cX11_mean 30 = .ok (.invokevirtual 235, 3) := by decide +kernel
theorem dX11_mean_33 : decode cX11_mean 33 = .ok (.astore 5, 2) := by decide +kernel
theorem dX11_mean_35 : decode cX11_mean 35 = .ok (.iconst 0, 1) := by decide +kernel
theorem dX11_mean_36 : decode cX11_mean 36 = .ok (.istore 6, 2) := by decide +kernel
theorem dX11_mean_38 : decode cX11_mean 38 = .ok (.iconst 0, 1) := by decide +kernel
theorem dX11_mean_39 : decode cX11_mean 39 = .ok (.istore 7, 2) := by decide +kernel
theorem dX11_mean_41 : decode cX11_mean 41 = .ok (.iload 7, 2) := by decide +kernel
theorem dX11_mean_43 : decode cX11_mean 43 = .ok (.aload 5, 2) := by decide +kernel
theorem dX11_mean_45 : decode cX11_mean 45 = .ok (.getfield 257, 3) := by decide +kernel
theorem dX11_mean_48 : decode cX11_mean 48 = .ok (.if_icmp .ge 40, 3) := by decide +kernel
theorem dX11_mean_51 : decode cX11_mean 51 = .ok (.aload 4, 2) := by decide +kernel
theorem dX11_mean_53 : decode cX11_mean 53 = .ok (.aload 5, 2) := by decide +kernel
theorem dX11_mean_55 : decode cX11_mean 55 = .ok (.iload 7, 2) := by decide +kernel
theorem dX11_mean_57 : decode cX11_mean 57 = .ok (.iload_n 2, 1) := by decide +kernel
theorem dX11_mean_58 : decode cX11_mean 58 = .ok (.invokevirtual 260, 3) := by decide +kernel
theorem dX11_mean_61 : decode cX11_mean 61 = .ok (.invokevirtual 174, 3) := by decide +kernel
theorem dX11_mean_64 : decode cX11_mean 64 = .ok (.ifCond .ne 5, 3) := by decide +kernel
theorem dX11_mean_67 : decode cX11_mean 67 = .ok (.iconst (-1), 1) := by decide +kernel
theorem dX11_mean_68 : decode cX11_mean 68 = .ok (.ireturn, 1) := by decide +kernel
theorem dX11_mean_69 : decode cX11_mean 69 = .ok (.iload 6, 2) := by decide +kernel
theorem dX11_mean_71 : decode cX11_mean 71 = .ok (.aload 5, 2) := by decide +kernel
theorem dX11_mean_73 : decode cX11_mean 73 = .ok (.iload 7, 2) := by decide +kernel
theorem dX11_mean_75 : decode cX11_mean 75 = .ok (.iload_n 2, 1) := by decide +kernel
theorem dX11_mean_76 : decode cX11_mean 76 = .ok (.invokevirtual 266, 3) := by decide +kernel
theorem dX11_mean_79 : decode cX11_mean 79 = .ok (.iadd, 1) := by decide +kernel
theorem dX11_mean_80 : decode cX11_mean 80 = .ok (.istore 6, 2) := by decide +kernel
theorem dX11_mean_82 : decode cX11_mean 82 = .ok (.iinc 7 1, 3) := by decide +kernel
theorem dX11_mean_85 : decode cX11_mean 85 = .ok (.goto (-44), 3) := by decide +kernel
theorem dX11_mean_88 : decode cX11_mean 88 = .ok (.iload 6, 2) := by decide +kernel
theorem dX11_mean_90 : decode cX11_mean 90 = .ok (.aload 5, 2) := by decide +kernel
theorem dX11_mean_92 : decode cX11_mean 92 = .ok (.getfield 257, 3) := by decide +kernel
theorem dX11_mean_95 : decode cX11_mean 95 = .ok (.iload_n 3, 1) := by decide +kernel
theorem dX11_mean_96 : decode cX11_mean 96 = .ok (.invokestatic 262, 3) := by decide +kernel
theorem dX11_mean_99 : decode cX11_mean 99 = .ok (.ireturn, 1) := by decide +kernel
theorem dX11_longest_0 : decode cX11_longest 0 = .ok (.aload_n 0, 1) := by decide +kernel
theorem dX11_longest_1 : decode cX11_longest 1 = .ok (.getfield 10, 3) := by decide +kernel
theorem dX11_longest_4 : decode cX11_longest 4 = .ok (.iload_n 1, 1) := by decide +kernel
theorem dX11_longest_5 : decode cX11_longest 5 = .ok (.invokevirtual 121, 3) := by decide +kernel
theorem dX11_longest_8 : decode cX11_longest 8 = .ok (.astore 5, 2) := by decide +kernel
theorem dX11_longest_10 : decode cX11_longest 10 = .ok (.aload 5, 2) := by decide +kernel
theorem dX11_longest_12 : decode cX11_longest 12 = .ok (.ifnull 12, 3) := by decide +kernel
theorem dX11_longest_15 : decode cX11_longest 15 = .ok (.aload 5, 2) := by decide +kernel
theorem dX11_longest_17 : decode cX11_longest 17 = .ok (.iload_n 2, 1) := by decide +kernel
theorem dX11_longest_18 : decode cX11_longest 18 = .ok (.invokevirtual 160, 3) := by decide +kernel
theorem dX11_longest_21 : decode cX11_longest 21 = .ok (.ifCond .ne 5, 3) := by decide +kernel
theorem dX11_longest_24 : decode cX11_longest 24 = .ok (.iconst (-1), 1) := by decide +kernel
theorem dX11_longest_25 : decode cX11_longest 25 = .ok (.ireturn, 1) := by decide +kernel
theorem dX11_longest_26 : decode cX11_longest 26 = .ok (.aload_n 0, 1) := by decide +kernel
theorem dX11_longest_27 : decode cX11_longest 27 = .ok (.iload_n 1, 1) := by decide +kernel
theorem dX11_longest_28 : decode cX11_longest 28 = .ok (.aload 5, 2) := by decide +kernel
theorem dX11_longest_30 : decode cX11_longest 30 = .ok (.invokevirtual 235, 3) := by decide +kernel
theorem dX11_longest_33 : decode cX11_longest 33 = .ok (.astore 6, 2) := by decide +kernel
theorem dX11_longest_35 : decode cX11_longest 35 = .ok (.iconst (-1), 1) := by decide +kernel
theorem dX11_longest_36 : decode cX11_longest 36 = .ok (.istore 7, 2) := by decide +kernel
theorem dX11_longest_38 : decode cX11_longest 38 = .ok (.iconst (-1), 1) := by decide +kernel
theorem dX11_longest_39 : decode cX11_longest 39 = .ok (.istore 8, 2) := by decide +kernel
theorem dX11_longest_41 : decode cX11_longest 41 = .ok (.iconst 0, 1) := by decide +kernel
theorem dX11_longest_42 : decode cX11_longest 42 = .ok (.istore 9, 2) := by decide +kernel
theorem dX11_longest_44 : decode cX11_longest 44 = .ok (.iload 9, 2) := by decide +kernel
theorem dX11_longest_46 : decode cX11_longest 46 = .ok (.aload 6, 2) := by decide +kernel
theorem dX11_longest_48 : decode cX11_longest 48 = .ok (.getfield 257, 3) := by decide +kernel
theorem dX11_longest_51 : decode cX11_longest 51 = .ok (.if_icmp .ge 82, 3) := by decide +kernel
theorem dX11_longest_54 : decode cX11_longest 54 = .ok (.aload 6, 2) := by decide +kernel
theorem dX11_longest_56 : decode cX11_longest 56 = .ok (.iload 9, 2) := by decide +kernel
theorem dX11_longest_58 : decode cX11_longest 58 = .ok (.iload_n 2, 1) := by decide +kernel
theorem dX11_longest_59 : decode cX11_longest 59 = .ok (.invokevirtual 266, 3) := by decide +kernel
theorem dX11_longest_62 : decode cX11_longest 62 = .ok (.istore 10, 2) := by decide +kernel
theorem dX11_longest_64 : decode cX11_longest 64 = .ok (.iload 7, 2) := by decide +kernel
theorem dX11_longest_66 : decode cX11_longest 66 = .ok (.iconst (-1), 1) := by decide +kernel
theorem dX11_longest_67 : decode cX11_longest 67 = .ok (.if_icmp .eq 24, 3) := by decide +kernel
theorem dX11_longest_70 : decode cX11_longest 70 = .ok (.iload_n 3, 1) := by decide +kernel
theorem dX11_longest_71 : decode cX11_longest 71 = .ok (.ifCond .eq 13, 3) := by decide +kernel
theorem dX11_longest_74 : decode cX11_longest 74 = .ok (.iload 10, 2) := by decide +kernel
theorem dX11_longest_76 : decode cX11_longest 76 = .ok (.iload 7, 2) := by decide +kernel
theorem dX11_longest_78 : decode cX11_longest 78 = .ok (.if_icmp .ge 17, 3) := by decide +kernel
theorem dX11_longest_81 : decode cX11_longest 81 = .ok (.goto 10, 3) := by decide +kernel
theorem dX11_longest_84 : decode cX11_longest 84 = .ok (.iload 10, 2) := by decide +kernel
theorem dX11_longest_86 : decode cX11_longest 86 = .ok (.iload 7, 2) := by decide +kernel
theorem dX11_longest_88 : decode cX11_longest 88 = .ok (.if_icmp .le 7, 3) := by decide +kernel
theorem dX11_longest_91 : decode cX11_longest 91 = .ok (.iconst 1, 1) := by decide +kernel
theorem dX11_longest_92 : decode cX11_longest 92 = .ok (.goto 4, 3) := by decide +kernel
theorem dX11_longest_95 : decode cX11_longest 95 = .ok (.iconst 0, 1) := by decide +kernel
theorem dX11_longest_96 : decode cX11_longest 96 = .ok (.istore 11, 2) := by decide +kernel
theorem dX11_longest_98 : decode cX11_longest 98 = .ok (.iload 11, 2) := by decide +kernel
theorem dX11_longest_100 : decode cX11_longest 100 = .ok (.ifCond .eq 27, 3) := by decide +kernel
theorem dX11_longest_103 : decode cX11_longest 103 = .ok (.aload 5, 2) := by decide +kernel
theorem dX11_longest_105 : decode cX11_longest 105 = .ok (.aload 6, 2) := by decide +kernel
theorem dX11_longest_107 : decode cX11_longest 107 = .ok (.iload 9, 2) := by decide +kernel
theorem dX11_longest_109 : decode cX11_longest 109 = .ok (.iload_n 2, 1) := by decide +kernel
theorem dX11_longest_110 : decode cX11_longest 110 = .ok (.invokevirtual 260, 3) := by decide +kernel
theorem dX11_longest_113 : decode cX11_longest 113 = .ok (.invokevirtual 174, 3) := by decide +kernel
theorem dX11_longest_116 : decode cX11_longest 116 = .ok (.ifCond .eq 11, 3) := by decide +kernel
theorem dX11_longest_119 : decode cX11_longest 119 = .ok (.iload 10, 2) := by decide +kernel
theorem dX11_longest_121 : decode cX11_longest 121 = .ok (.istore 7, 2) := by decide +kernel
theorem dX11_longest_123 : decode cX11_longest 123 = .ok (.iload 9, 2) := by decide +kernel
theorem dX11_longest_125 : decode cX11_longest 125 = .ok (.istore 8, 2) := by decide +kernel
theorem dX11_longest_127 : decode cX11_longest 127 = .ok (.iinc 9 1, 3) := by decide +kernel
theorem dX11_longest_130 : decode cX11_longest 130 = .ok (.goto (-86), 3) := by decide +kernel
theorem dX11_longest_133 : decode cX11_longest 133 = .ok (.iload 4, 2) := by decide +kernel
theorem dX11_longest_135 : decode cX11_longest 135 = .ok (.ifCond .eq 19, 3) := by decide +kernel
theorem dX11_longest_138 : decode cX11_longest 138 = .ok (.iload 8, 2) := by decide +kernel
theorem dX11_longest_140 : decode cX11_longest 140 = .ok (.iconst (-1), 1) := by decide +kernel
theorem dX11_longest_141 : decode cX11_longest 141 = .ok (.if_icmp .eq 13, 3) := by decide +kernel
theorem dX11_longest_144 : decode cX11_longest 144 = .ok (.aload 6, 2) := by decide +kernel
theorem dX11_longest_146 : decode cX11_longest 146 = .ok (.iload 8, 2) := by decide +kernel
theorem dX11_longest_148 : decode cX11_longest 148 = .ok (.invokevirtual 272, 3) := by decide +kernel
theorem dX11_longest_151 : decode cX11_longest 151 = .ok (.goto 5, 3) := by decide +kernel
theorem dX11_longest_154 : decode cX11_longest 154 = .ok (.iload 7, 2) := by decide +kernel
theorem dX11_longest_156 : decode cX11_longest 156 = .ok (.ireturn, 1) := by decide +kernel
theorem dX11_back_0 : decode cX11_back 0 = .ok (.aload_n 0, 1) := by decide +kernel
theorem dX11_back_1 : decode cX11_back 1 = .ok (.getfield 10, 3) := by decide +kernel
theorem dX11_back_4 : decode cX11_back 4 = .ok (.iload_n 1, 1) := by decide +kernel
theorem dX11_back_5 : decode cX11_back 5 = .ok (.invokevirtual 121, 3) := by decide +kernel
theorem dX11_back_8 : decode cX11_back 8 = .ok (.astore_n 3, 1) := by decide +kernel
theorem dX11_back_9 : decode cX11_back 9 = .ok (.aload_n 3, 1) := by decide +kernel
theorem dX11_back_10 : decode cX11_back 10 = .ok (.ifnull 11, 3) := by decide +kernel
theorem dX11_back_13 : decode cX11_back 13 = .ok (.aload_n 3, 1) := by decide +kernel
theorem dX11_back_14 : decode cX11_back 14 = .ok (.iload_n 2, 1) := by decide +kernel
theorem dX11_back_15 : decode cX11_back 15 = .ok (.invokevirtual 160, 3) := by decide +kernel
theorem dX11_back_18 : decode cX11_back 18 = .ok (.ifCond .ne 5, 3) := by decide +kernel
theorem dX11_back_21 : decode cX11_back 21 = .ok (.iconst (-1), 1) := by decide +kernel
theorem dX11_back_22 : decode cX11_back 22 = .ok (.ireturn, 1) := by decide +kernel
theorem dX11_back_23 : decode cX11_back 23 = .ok (.aload_n 0, 1) := by decide +kernel
theorem dX11_back_24 : decode cX11_back 24 = .ok (.iload_n 1, 1) := by decide +kernel
theorem dX11_back_25 : decode cX11_back 25 = .ok (.aload_n 3, 1) := by decide +kernel
theorem dX11_back_26 : decode cX11_back 26 = .ok (.invokevirtual 235, 3) := by decide +kernel
theorem dX11_back_29 : decode cX11_back 29 = .ok (.astore 4, 2) := by decide +kernel
theorem dX11_back_31 : decode cX11_back 31 = .ok (.aload 4, 2) := by decide +kernel
theorem dX11_back_33 : decode cX11_back 33 = .ok (.invokevirtual 242, 3) := by decide +kernel
theorem dX11_back_36 : decode cX11_back 36 = .ok (.istore 5, 2) := by decide +kernel
theorem dX11_back_38 : decode cX11_back 38 = .ok (.iconst 0, 1) := by decide +kernel
theorem dX11_back_39 : decode cX11_back 39 = .ok (.istore 6, 2) := by decide +kernel
theorem dX11_back_41 : decode cX11_back 41 = .ok (.iconst 0, 1) := by decide +kernel
theorem dX11_back_42 : decode cX11_back 42 = .ok (.istore 7, 2) := by decide +kernel
theorem dX11_back_44 : decode cX11_back 44 = .ok (.iload 7, 2) := by decide +kernel
theorem dX11_back_46 : decode cX11_back 46 = .ok (.aload 4, 2) := by decide +kernel
theorem dX11_back_48 : decode cX11_back 48 = .ok (.getfield 257, 3) := by decide +kernel
theorem dX11_back_51 : decode cX11_back 51 = .ok (.if_icmp .ge 25, 3) := by decide +kernel
theorem dX11_back_54 : decode cX11_back 54 = .ok (.aload 4, 2) := by decide +kernel
theorem dX11_back_56 : decode cX11_back 56 = .ok (.iload 7, 2) := by decide +kernel
theorem dX11_back_58 : decode cX11_back 58 = .ok (.iload_n 2, 1) := by decide +kernel
theorem dX11_back_59 : decode cX11_back 59 = .ok (.invokevirtual 275, 3) := by decide +kernel
theorem dX11_back_62 : decode cX11_back 62 = .ok (.iload 5, 2) := by decide +kernel
theorem dX11_back_64 : decode cX11_back 64 = .ok (.if_icmp .ne 6, 3) := by decide +kernel
theorem dX11_back_67 : decode cX11_back 67 = .ok (.iinc 6 1, 3) := by decide +kernel
theorem dX11_back_70 : decode cX11_back 70 = .ok (.iinc 7 1, 3) := by decide +kernel
theorem dX11_back_73 : decode cX11_back 73 = .ok (.goto (-29), 3) := by decide +kernel
theorem dX11_back_76 : decode cX11_back 76 = .ok (.iload 6, 2) := by decide +kernel
theorem dX11_back_78 : decode cX11_back 78 = .ok (.ireturn, 1) := by decide +kernel
theorem dX11_set_0 : decode cX11_set 0 = .ok (.aload_n 0, 1) := by decide +kernel
theorem dX11_set_1 : decode cX11_set 1 = .ok (.getfield 10, 3) := by decide +kernel
theorem dX11_set_4 : decode cX11_set 4 = .ok (.iload_n 1, 1) := by decide +kernel
theorem dX11_set_5 : decode cX11_set 5 = .ok (.invokevirtual 121, 3) := by decide +kernel
theorem dX11_set_8 : decode cX11_set 8 = .ok (.astore 5, 2) := by decide +kernel
theorem dX11_set_10 : decode cX11_set 10 = .ok (.aload 5, 2) := by decide +kernel
theorem dX11_set_12 : decode cX11_set 12 = .ok (.ifnull 21, 3) := by decide +kernel
theorem dX11_set_15 : decode cX11_set 15 = .ok (.aload 5, 2) := by decide +kernel
theorem dX11_set_17 : decode cX11_set 17 = .ok (.iload_n 2, 1) := by decide +kernel
theorem dX11_set_18 : decode cX11_set 18 = .ok (.invokevirtual 160, 3) := by decide +kernel
theorem dX11_set_21 : decode cX11_set 21 = .ok (.ifCond .eq 12, 3) := by decide +kernel
theorem dX11_set_24 : decode cX11_set 24 = .ok (.aload 5, 2) := by decide +kernel
theorem dX11_set_26 : decode cX11_set 26 = .ok (.iload_n 3, 1) := by decide +kernel
theorem dX11_set_27 : decode cX11_set 27 = .ok (.invokevirtual 174, 3) := by decide +kernel
theorem dX11_set_30 : decode cX11_set 30 = .ok (.ifCond .ne 5, 3) := by decide +kernel
theorem dX11_set_33 : decode cX11_set 33 = .ok (.iconst (-1), 1) := by decide +kernel
theorem dX11_set_34 : decode cX11_set 34 = .ok (.ireturn, 1) := by decide +kernel
theorem dX11_set_35 : decode cX11_set 35 = .ok (.aload_n 0, 1) := by decide +kernel
theorem dX11_set_36 : decode cX11_set 36 = .ok (.iload_n 1, 1) := by decide +kernel
theorem dX11_set_37 : decode cX11_set 37 = .ok (.aload 5, 2) := by decide +kernel
theorem dX11_set_39 : decode cX11_set 39 = .ok (.invokevirtual 235, 3) := by decide +kernel
theorem dX11_set_42 : decode cX11_set 42 = .ok (.astore 6, 2) := by decide +kernel
theorem dX11_set_44 : decode cX11_set 44 = .ok (.aload 6, 2) := by decide +kernel
theorem dX11_set_46 : decode cX11_set 46 = .ok (.iload_n 2, 1) := by decide +kernel
theorem dX11_set_47 : decode cX11_set 47 = .ok (.iload_n 3, 1) := by decide +kernel
theorem dX11_set_48 : decode cX11_set 48 = .ok (.invokevirtual 239, 3) := by decide +kernel
theorem dX11_set_51 : decode cX11_set 51 = .ok (.istore 7, 2) := by decide +kernel
theorem dX11_set_53 : decode cX11_set 53 = .ok (.iload 7, 2) := by decide +kernel
theorem dX11_set_55 : decode cX11_set 55 = .ok (.iconst (-1), 1) := by decide +kernel
theorem dX11_set_56 : decode cX11_set 56 = .ok (.if_icmp .ne 5, 3) := by decide +kernel
theorem dX11_set_59 : decode cX11_set 59 = .ok (.iconst (-1), 1) := by decide +kernel
theorem dX11_set_60 : decode cX11_set 60 = .ok (.ireturn, 1) := by decide +kernel
theorem dX11_set_61 : decode cX11_set 61 = .ok (.aload 6, 2) := by decide +kernel
theorem dX11_set_63 : decode cX11_set 63 = .ok (.iload 7, 2) := by decide +kernel
theorem dX11_set_65 : decode cX11_set 65 = .ok (.aload 6, 2) := by decide +kernel
theorem dX11_set_67 : decode cX11_set 67 = .ok (.invokevirtual 242, 3) := by decide +kernel
theorem dX11_set_70 : decode cX11_set 70 = .ok (.invokevirtual 245, 3) := by decide +kernel
theorem dX11_set_73 : decode cX11_set 73 = .ok (.istore 8, 2) := by decide +kernel
theorem dX11_set_75 : decode cX11_set 75 = .ok (.iload 4, 2) := by decide +kernel
theorem dX11_set_77 : decode cX11_set 77 = .ok (.ifCond .ne 9, 3) := by decide +kernel
theorem dX11_set_80 : decode cX11_set 80 = .ok (.iload 8, 2) := by decide +kernel
theorem dX11_set_82 : decode cX11_set 82 = .ok (.invokestatic 248, 3) := by decide +kernel
theorem dX11_set_85 : decode cX11_set 85 = .ok (.ireturn, 1) := by decide +kernel
theorem dX11_set_86 : decode cX11_set 86 = .ok (.iload 4, 2) := by decide +kernel
theorem dX11_set_88 : decode cX11_set 88 = .ok (.iconst 1, 1) := by decide +kernel
theorem dX11_set_89 : decode cX11_set 89 = .ok (.if_icmp .ne 6, 3) := by decide +kernel
theorem dX11_set_92 : decode cX11_set 92 = .ok (.iload 8, 2) := by decide +kernel
theorem dX11_set_94 : decode cX11_set 94 = .ok (.ireturn, 1) := by decide +kernel
theorem dX11_set_95 : decode cX11_set 95 = .ok (.iload 4, 2) := by decide +kernel
theorem dX11_set_97 : decode cX11_set 97 = .ok (.bipush 10, 2) := by decide +kernel
theorem dX11_set_99 : decode cX11_set 99 = .ok (.isub, 1) := by decide +kernel
theorem dX11_set_100 : decode cX11_set 100 = .ok (.istore 9, 2) := by decide +kernel
theorem dX11_set_102 : decode cX11_set 102 = .ok (.aload 5, 2) := by decide +kernel
theorem dX11_set_104 : decode cX11_set 104 = .ok (.iload 9, 2) := by decide +kernel
theorem dX11_set_106 : decode cX11_set 106 = .ok (.invokevirtual 160, 3) := by decide +kernel
theorem dX11_set_109 : decode cX11_set 109 = .ok (.ifCond .ne 5, 3) := by decide +kernel
theorem dX11_set_112 : decode cX11_set 112 = .ok (.iconst (-1), 1) := by decide +kernel
theorem dX11_set_113 : decode cX11_set 113 = .ok (.ireturn, 1) := by decide +kernel
theorem dX11_set_114 : decode cX11_set 114 = .ok (.aload 5, 2) := by decide +kernel
theorem dX11_set_116 : decode cX11_set 116 = .ok (.iload 9, 2) := by decide +kernel
theorem dX11_set_118 : decode cX11_set 118 = .ok (.invokevirtual 221, 3) := by decide +kernel
theorem dX11_set_121 : decode cX11_set 121 = .ok (.ifCond .le 15, 3) := by decide +kernel
theorem dX11_set_124 : decode cX11_set 124 = .ok (.aload 6, 2) := by decide +kernel
theorem dX11_set_126 : decode cX11_set 126 = .ok (.iload 7, 2) := by decide +kernel
theorem dX11_set_128 : decode cX11_set 128 = .ok (.iload 9, 2) := by decide +kernel
theorem dX11_set_130 : decode cX11_set 130 = .ok (.invokevirtual 253, 3) := by decide +kernel
theorem dX11_set_133 : decode cX11_set 133 = .ok (.goto 11, 3) := by decide +kernel
theorem dX11_set_136 : decode cX11_set 136 = .ok (.aload 5, 2) := by decide +kernel
theorem dX11_set_138 : decode cX11_set 138 = .ok (.getfield 256, 3) := by decide +kernel
theorem dX11_set_141 : decode cX11_set 141 = .ok (.iload 9, 2) := by decide +kernel
theorem dX11_set_143 : decode cX11_set 143 = .ok (.iaload, 1) := by decide +kernel
theorem dX11_set_144 : decode cX11_set 144 = .ok (.ireturn, 1) := by decide +kernel
theorem dX11_game_0 : decode cX11_game 0 = .ok (.aload_n 0, 1) := by decide +kernel
theorem dX11_game_1 : decode cX11_game 1 = .ok (.getfield 10, 3) := by decide +kernel
theorem dX11_game_4 : decode cX11_game 4 = .ok (.iload_n 1, 1) := by decide +kernel
theorem dX11_game_5 : decode cX11_game 5 = .ok (.invokevirtual 121, 3) := by decide +kernel
theorem dX11_game_8 : decode cX11_game 8 = .ok (.astore 5, 2) := by decide +kernel
theorem dX11_game_10 : decode cX11_game 10 = .ok (.aload 5, 2) := by decide +kernel
theorem dX11_game_12 : decode cX11_game 12 = .ok (.ifnull 21, 3) := by decide +kernel
theorem dX11_game_15 : decode cX11_game 15 = .ok (.aload 5, 2) := by decide +kernel
theorem dX11_game_17 : decode cX11_game 17 = .ok (.iload_n 2, 1) := by decide +kernel
theorem dX11_game_18 : decode cX11_game 18 = .ok (.invokevirtual 160, 3) := by decide +kernel
theorem dX11_game_21 : decode cX11_game 21 = .ok (.ifCond .eq 12, 3) := by decide +kernel
theorem dX11_game_24 : decode cX11_game 24 = .ok (.iload_n 3, 1) := by decide +kernel
theorem dX11_game_25 : decode cX11_game 25 = .ok (.ifCond .lt 8, 3) := by decide +kernel
theorem dX11_game_28 : decode cX11_game 28 = .ok (.iload_n 3, 1) := by decide +kernel
theorem dX11_game_29 : decode cX11_game 29 = .ok (.iconst 3, 1) := by decide +kernel
theorem dX11_game_30 : decode cX11_game 30 = .ok (.if_icmp .le 6, 3) := by decide +kernel
theorem dX11_game_33 : decode cX11_game 33 = .ok (.bipush (-9), 2) := by decide +kernel
theorem dX11_game_35 : decode cX11_game 35 = .ok (.ireturn, 1) := by decide +kernel
theorem dX11_game_36 : decode cX11_game 36 = .ok (.aload_n 0, 1) := by decide +kernel
theorem dX11_game_37 : decode cX11_game 37 = .ok (.iload_n 1, 1) := by decide +kernel
theorem dX11_game_38 : decode cX11_game 38 = .ok (.aload 5, 2) := by decide +kernel
theorem dX11_game_40 : decode cX11_game 40 = .ok (.invokevirtual 235, 3) := by decide +kernel
theorem dX11_game_43 : decode cX11_game 43 = .ok (.astore 6, 2) := by decide +kernel
theorem dX11_game_45 : decode cX11_game 45 = .ok (.aload 6, 2) := by decide +kernel
theorem dX11_game_47 : decode cX11_game 47 = .ok (.invokevirtual 242, 3) := by decide +kernel
theorem dX11_game_50 : decode cX11_game 50 = .ok (.istore 7, 2) := by decide +kernel
theorem dX11_game_52 : decode cX11_game 52 = .ok (.aload 6, 2) := by decide +kernel
theorem dX11_game_54 : decode cX11_game 54 = .ok (.iload 7, 2) := by decide +kernel
theorem dX11_game_56 : decode cX11_game 56 = .ok (.iload_n 2, 1) := by decide +kernel
theorem dX11_game_57 : decode cX11_game 57 = .ok (.iload_n 3, 1) := by decide +kernel
theorem dX11_game_58 : decode cX11_game 58 = .ok (.iconst 1, 1) := by decide +kernel
theorem dX11_game_59 : decode cX11_game 59 = .ok (.invokestatic 278, 3) := by decide +kernel
theorem dX11_game_62 : decode cX11_game 62 = .ok (.istore 8, 2) := by decide +kernel
theorem dX11_game_64 : decode cX11_game 64 = .ok (.iload 4, 2) := by decide +kernel
theorem dX11_game_66 : decode cX11_game 66 = .ok (.ifCond .ne 6, 3) := by decide +kernel
theorem dX11_game_69 : decode cX11_game 69 = .ok (.iload 8, 2) := by decide +kernel
theorem dX11_game_71 : decode cX11_game 71 = .ok (.ireturn, 1) := by decide +kernel
theorem dX11_game_72 : decode cX11_game 72 = .ok (.iload_n 3, 1) := by decide +kernel
theorem dX11_game_73 : decode cX11_game 73 = .ok (.ifCond .ne 7, 3) := by decide +kernel
theorem dX11_game_76 : decode cX11_game 76 = .ok (.iconst (-1), 1) := by decide +kernel
theorem dX11_game_77 : decode cX11_game 77 = .ok (.goto 14, 3) := by decide +kernel
theorem dX11_game_80 : decode cX11_game 80 = .ok (.aload 6, 2) := by decide +kernel
theorem dX11_game_82 : decode cX11_game 82 = .ok (.iload 7, 2) := by decide +kernel
theorem dX11_game_84 : decode cX11_game 84 = .ok (.iload_n 2, 1) := by decide +kernel
theorem dX11_game_85 : decode cX11_game 85 = .ok (.iload_n 3, 1) := by decide +kernel
theorem dX11_game_86 : decode cX11_game 86 = .ok (.iload 8, 2) := by decide +kernel
theorem dX11_game_88 : decode cX11_game 88 = .ok (.invokestatic 282, 3) := by decide +kernel
theorem dX11_game_91 : decode cX11_game 91 = .ok (.ireturn, 1) := by decide +kernel


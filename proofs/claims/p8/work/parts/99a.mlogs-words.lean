theorem m_fl_RX12_394 : Cond.fieldLink RX12 394 (TX12 42).1 (TX12 42).2.1 (TX12 42).2.2.1 ∈ zT := zmem1 zsub_6 37 (by decide +kernel) (by decide +kernel)
theorem m_ko_RX12_397 : Cond.constant RX12 397 1103515245 ∈ zT := zmem1 zsub_8 82 (by decide +kernel) (by decide +kernel)
theorem m_co_X12_below : Cond.code yX12_below cX12_below 2 (some .int) ∈ zT := zmem1 zsub_8 81 (by decide +kernel) (by decide +kernel)
theorem m_ml_RX12_398 : Cond.methodLink RX12 398 yX12_below ∈ zT := zmem1 zsub_8 78 (by decide +kernel) (by decide +kernel)
theorem m_im_X12_below : Cond.instanceMethod yX12_below ∈ zT := zmem1 zsub_8 80 (by decide +kernel) (by decide +kernel)
theorem m_se_X12_below : Cond.selects RX12 yX12_below yX12_below ∈ zT := zmem 112 (by decide +kernel) (by decide +kernel)
theorem m_co_X12_draws : Cond.code yX12_draws cX12_draws 4 none ∈ zT := zmem1 zsub_8 77 (by decide +kernel) (by decide +kernel)
theorem m_ml_RX12_401 : Cond.methodLink RX12 401 yX12_draws ∈ zT := zmem1 zsub_8 74 (by decide +kernel) (by decide +kernel)
theorem m_im_X12_draws : Cond.instanceMethod yX12_draws ∈ zT := zmem1 zsub_8 76 (by decide +kernel) (by decide +kernel)
theorem m_se_X12_draws : Cond.selects RX12 yX12_draws yX12_draws ∈ zT := zmem 111 (by decide +kernel) (by decide +kernel)
theorem m_fl_RX12_366 : Cond.fieldLink RX12 366 (TX12 36).1 (TX12 36).2.1 (TX12 36).2.2.1 ∈ zT := zmem1 zsub_6 31 (by decide +kernel) (by decide +kernel)
theorem m_fl_RX12_369 : Cond.fieldLink RX12 369 (TX12 37).1 (TX12 37).2.1 (TX12 37).2.2.1 ∈ zT := zmem1 zsub_6 32 (by decide +kernel) (by decide +kernel)
theorem m_fl_RX12_372 : Cond.fieldLink RX12 372 (TX12 38).1 (TX12 38).2.1 (TX12 38).2.2.1 ∈ zT := zmem1 zsub_6 33 (by decide +kernel) (by decide +kernel)
theorem m_co_X12_laysNoFits : Cond.code yX12_laysNoFits cX12_laysNoFits 2 none ∈ zT := zmem1 zsub_8 44 (by decide +kernel) (by decide +kernel)
theorem m_ml_RX12_375 : Cond.methodLink RX12 375 yX12_laysNoFits ∈ zT := zmem1 zsub_8 41 (by decide +kernel) (by decide +kernel)
theorem m_im_X12_laysNoFits : Cond.instanceMethod yX12_laysNoFits ∈ zT := zmem1 zsub_8 43 (by decide +kernel) (by decide +kernel)
theorem m_se_X12_laysNoFits : Cond.selects RX12 yX12_laysNoFits yX12_laysNoFits ∈ zT := zmem 106 (by decide +kernel) (by decide +kernel)
theorem m_co_X12_isSo : Cond.code yX12_isSo cX12_isSo 5 (some .boolean) ∈ zT := zmem1 zsub_8 48 (by decide +kernel) (by decide +kernel)
theorem m_ml_RX12_378 : Cond.methodLink RX12 378 yX12_isSo ∈ zT := zmem1 zsub_8 45 (by decide +kernel) (by decide +kernel)
theorem m_im_X12_isSo : Cond.instanceMethod yX12_isSo ∈ zT := zmem1 zsub_8 47 (by decide +kernel) (by decide +kernel)
theorem m_se_X12_isSo : Cond.selects RX12 yX12_isSo yX12_isSo ∈ zT := zmem 107 (by decide +kernel) (by decide +kernel)
theorem m_co_X12_laysEnds : Cond.code yX12_laysEnds cX12_laysEnds 3 none ∈ zT := zmem1 zsub_8 52 (by decide +kernel) (by decide +kernel)
theorem m_ml_RX12_381 : Cond.methodLink RX12 381 yX12_laysEnds ∈ zT := zmem1 zsub_8 49 (by decide +kernel) (by decide +kernel)
theorem m_im_X12_laysEnds : Cond.instanceMethod yX12_laysEnds ∈ zT := zmem1 zsub_8 51 (by decide +kernel) (by decide +kernel)
theorem m_se_X12_laysEnds : Cond.selects RX12 yX12_laysEnds yX12_laysEnds ∈ zT := zmem 108 (by decide +kernel) (by decide +kernel)
theorem m_ko_RX12_384 : Cond.constant RX12 384 99999999 ∈ zT := zmem1 zsub_8 57 (by decide +kernel) (by decide +kernel)
theorem m_co_X12_laysFits : Cond.code yX12_laysFits cX12_laysFits 7 (some .int) ∈ zT := zmem1 zsub_8 40 (by decide +kernel) (by decide +kernel)
theorem m_ml_RX12_385 : Cond.methodLink RX12 385 yX12_laysFits ∈ zT := zmem1 zsub_8 37 (by decide +kernel) (by decide +kernel)
theorem m_im_X12_laysFits : Cond.instanceMethod yX12_laysFits ∈ zT := zmem1 zsub_8 39 (by decide +kernel) (by decide +kernel)
theorem m_se_X12_laysFits : Cond.selects RX12 yX12_laysFits yX12_laysFits ∈ zT := zmem 105 (by decide +kernel) (by decide +kernel)
theorem m_co_X12_sureOf : Cond.code yX12_sureOf cX12_sureOf 3 (some .int) ∈ zT := zmem1 zsub_8 61 (by decide +kernel) (by decide +kernel)
theorem m_ml_RX12_391 : Cond.methodLink RX12 391 yX12_sureOf ∈ zT := zmem1 zsub_8 58 (by decide +kernel) (by decide +kernel)
theorem m_im_X12_sureOf : Cond.instanceMethod yX12_sureOf ∈ zT := zmem1 zsub_8 60 (by decide +kernel) (by decide +kernel)
theorem m_se_X12_sureOf : Cond.selects RX12 yX12_sureOf yX12_sureOf ∈ zT := zmem 110 (by decide +kernel) (by decide +kernel)
theorem m_co_X12_askOf : Cond.code yX12_askOf cX12_askOf 6 (some .int) ∈ zT := zmem1 zsub_8 56 (by decide +kernel) (by decide +kernel)
theorem m_ml_RX12_388 : Cond.methodLink RX12 388 yX12_askOf ∈ zT := zmem1 zsub_8 53 (by decide +kernel) (by decide +kernel)
theorem m_im_X12_askOf : Cond.instanceMethod yX12_askOf ∈ zT := zmem1 zsub_8 55 (by decide +kernel) (by decide +kernel)
theorem m_se_X12_askOf : Cond.selects RX12 yX12_askOf yX12_askOf ∈ zT := zmem 109 (by decide +kernel) (by decide +kernel)
theorem kV_RX12_398 {R : Room} {s : State} {args : Array Value} {d mc ms : Nat} (hts : ∀ w ∈ zT, w.before args s = true) (h1 : d + 1 ≤ R.frames) (h2 : 8 + (2 + 11) + 40 * d ≤ R.locals) : CallW R s args RX12 RX12 398 yX12_below cX12_below 2 (some .int) (zW yX12_below cX12_below 2 (some .int)) (zR d mc ms) mc ms 1 := z_cwV hts m_co_X12_below m_ml_RX12_398 m_im_X12_below m_se_X12_below m_ii_RX12 (by decide +kernel) h1 h2
theorem kV_RX12_401 {R : Room} {s : State} {args : Array Value} {d mc ms : Nat} (hts : ∀ w ∈ zT, w.before args s = true) (h1 : d + 1 ≤ R.frames) (h2 : 8 + (4 + 11) + 40 * d ≤ R.locals) : CallW R s args RX12 RX12 401 yX12_draws cX12_draws 4 none (zW yX12_draws cX12_draws 4 none) (zR d mc ms) mc ms 0 := z_cwV hts m_co_X12_draws m_ml_RX12_401 m_im_X12_draws m_se_X12_draws m_ii_RX12 (by decide +kernel) h1 h2
theorem kV_RX12_375 {R : Room} {s : State} {args : Array Value} {d mc ms : Nat} (hts : ∀ w ∈ zT, w.before args s = true) (h1 : d + 1 ≤ R.frames) (h2 : 8 + (2 + 11) + 40 * d ≤ R.locals) : CallW R s args RX12 RX12 375 yX12_laysNoFits cX12_laysNoFits 2 none (zW yX12_laysNoFits cX12_laysNoFits 2 none) (zR d mc ms) mc ms 0 := z_cwV hts m_co_X12_laysNoFits m_ml_RX12_375 m_im_X12_laysNoFits m_se_X12_laysNoFits m_ii_RX12 (by decide +kernel) h1 h2
theorem kV_RX12_378 {R : Room} {s : State} {args : Array Value} {d mc ms : Nat} (hts : ∀ w ∈ zT, w.before args s = true) (h1 : d + 1 ≤ R.frames) (h2 : 8 + (5 + 11) + 40 * d ≤ R.locals) : CallW R s args RX12 RX12 378 yX12_isSo cX12_isSo 5 (some .boolean) (zW yX12_isSo cX12_isSo 5 (some .boolean)) (zR d mc ms) mc ms 0 := z_cwV hts m_co_X12_isSo m_ml_RX12_378 m_im_X12_isSo m_se_X12_isSo m_ii_RX12 (by decide +kernel) h1 h2
theorem kV_RX12_381 {R : Room} {s : State} {args : Array Value} {d mc ms : Nat} (hts : ∀ w ∈ zT, w.before args s = true) (h1 : d + 1 ≤ R.frames) (h2 : 8 + (3 + 11) + 40 * d ≤ R.locals) : CallW R s args RX12 RX12 381 yX12_laysEnds cX12_laysEnds 3 none (zW yX12_laysEnds cX12_laysEnds 3 none) (zR d mc ms) mc ms 0 := z_cwV hts m_co_X12_laysEnds m_ml_RX12_381 m_im_X12_laysEnds m_se_X12_laysEnds m_ii_RX12 (by decide +kernel) h1 h2
theorem kV_RX12_385 {R : Room} {s : State} {args : Array Value} {d mc ms : Nat} (hts : ∀ w ∈ zT, w.before args s = true) (h1 : d + 1 ≤ R.frames) (h2 : 8 + (7 + 11) + 40 * d ≤ R.locals) : CallW R s args RX12 RX12 385 yX12_laysFits cX12_laysFits 7 (some .int) (zW yX12_laysFits cX12_laysFits 7 (some .int)) (zR d mc ms) mc ms 2 := z_cwV hts m_co_X12_laysFits m_ml_RX12_385 m_im_X12_laysFits m_se_X12_laysFits m_ii_RX12 (by decide +kernel) h1 h2
theorem kV_RX12_391 {R : Room} {s : State} {args : Array Value} {d mc ms : Nat} (hts : ∀ w ∈ zT, w.before args s = true) (h1 : d + 1 ≤ R.frames) (h2 : 8 + (3 + 11) + 40 * d ≤ R.locals) : CallW R s args RX12 RX12 391 yX12_sureOf cX12_sureOf 3 (some .int) (zW yX12_sureOf cX12_sureOf 3 (some .int)) (zR d mc ms) mc ms 1 := z_cwV hts m_co_X12_sureOf m_ml_RX12_391 m_im_X12_sureOf m_se_X12_sureOf m_ii_RX12 (by decide +kernel) h1 h2
theorem kV_RX12_388 {R : Room} {s : State} {args : Array Value} {d mc ms : Nat} (hts : ∀ w ∈ zT, w.before args s = true) (h1 : d + 1 ≤ R.frames) (h2 : 8 + (6 + 11) + 40 * d ≤ R.locals) : CallW R s args RX12 RX12 388 yX12_askOf cX12_askOf 6 (some .int) (zW yX12_askOf cX12_askOf 6 (some .int)) (zR d mc ms) mc ms 0 := z_cwV hts m_co_X12_askOf m_ml_RX12_388 m_im_X12_askOf m_se_X12_askOf m_ii_RX12 (by decide +kernel) h1 h2
theorem dX12_below_0 : decode cX12_below 0 = .ok (.aload_n 0, 1) := by decide +kernel
theorem dX12_below_1 : decode cX12_below 1 = .ok (.aload_n 0, 1) := by decide +kernel
theorem dX12_below_2 : decode cX12_below 2 = .ok (.getfield 394, 3) := by decide +kernel
theorem dX12_below_5 : decode cX12_below 5 = .ok (.ldc_w 397, 3) := by decide +kernel
theorem dX12_below_8 : decode cX12_below 8 = .ok (.imul, 1) := by decide +kernel
theorem dX12_below_9 : decode cX12_below 9 = .ok (.sipush 12345, 3) := by decide +kernel
theorem dX12_below_12 : decode cX12_below 12 = .ok (.iadd, 1) := by decide +kernel
theorem dX12_below_13 : decode cX12_below 13 = .ok (.putfield 394, 3) := by decide +kernel
theorem dX12_below_16 : decode cX12_below 16 = .ok (.aload_n 0, 1) := by decide +kernel
theorem dX12_below_17 : decode cX12_below 17 = .ok (.getfield 394, 3) := by decide +kernel
theorem dX12_below_20 : decode cX12_below 20 = .ok (.bipush 16, 2) := by decide +kernel
theorem dX12_below_22 : decode cX12_below 22 = .ok (.iushr, 1) := by decide +kernel
theorem dX12_below_23 : decode cX12_below 23 = .ok (.iload_n 1, 1) := by decide +kernel
theorem dX12_below_24 : decode cX12_below 24 = .ok (.irem, 1) := by decide +kernel
theorem dX12_below_25 : decode cX12_below 25 = .ok (.ireturn, 1) := by decide +kernel
theorem dX12_draws_0 : decode cX12_draws 0 = .ok (.aload_n 0, 1) := by decide +kernel
theorem dX12_draws_1 : decode cX12_draws 1 = .ok (.bipush 10, 2) := by decide +kernel
theorem dX12_draws_3 : decode cX12_draws 3 = .ok (.invokevirtual 398, 3) := by decide +kernel
theorem dX12_draws_6 : decode cX12_draws 6 = .ok (.istore_n 1, 1) := by decide +kernel
theorem dX12_draws_7 : decode cX12_draws 7 = .ok (.aload_n 0, 1) := by decide +kernel
theorem dX12_draws_8 : decode cX12_draws 8 = .ok (.getfield 169, 3) := by decide +kernel
theorem dX12_draws_11 : decode cX12_draws 11 = .ok (.ifCond .ne 4, 3) := by decide +kernel
theorem dX12_draws_14 : decode cX12_draws 14 = .ok (.return_, 1) := by decide +kernel
theorem dX12_draws_15 : decode cX12_draws 15 = .ok (.iload_n 1, 1) := by decide +kernel
theorem dX12_draws_16 : decode cX12_draws 16 = .ok (.iconst 4, 1) := by decide +kernel
theorem dX12_draws_17 : decode cX12_draws 17 = .ok (.if_icmp .ge 7, 3) := by decide +kernel
theorem dX12_draws_20 : decode cX12_draws 20 = .ok (.iconst 0, 1) := by decide +kernel
theorem dX12_draws_21 : decode cX12_draws 21 = .ok (.goto 28, 3) := by decide +kernel
theorem dX12_draws_24 : decode cX12_draws 24 = .ok (.iload_n 1, 1) := by decide +kernel
theorem dX12_draws_25 : decode cX12_draws 25 = .ok (.bipush 6, 2) := by decide +kernel
theorem dX12_draws_27 : decode cX12_draws 27 = .ok (.if_icmp .ge 9, 3) := by decide +kernel
theorem dX12_draws_30 : decode cX12_draws 30 = .ok (.iload_n 1, 1) := by decide +kernel
theorem dX12_draws_31 : decode cX12_draws 31 = .ok (.iconst 3, 1) := by decide +kernel
theorem dX12_draws_32 : decode cX12_draws 32 = .ok (.isub, 1) := by decide +kernel
theorem dX12_draws_33 : decode cX12_draws 33 = .ok (.goto 16, 3) := by decide +kernel
theorem dX12_draws_36 : decode cX12_draws 36 = .ok (.iload_n 1, 1) := by decide +kernel
theorem dX12_draws_37 : decode cX12_draws 37 = .ok (.bipush 8, 2) := by decide +kernel
theorem dX12_draws_39 : decode cX12_draws 39 = .ok (.if_icmp .ge 7, 3) := by decide +kernel
theorem dX12_draws_42 : decode cX12_draws 42 = .ok (.iconst 3, 1) := by decide +kernel
theorem dX12_draws_43 : decode cX12_draws 43 = .ok (.goto 6, 3) := by decide +kernel
theorem dX12_draws_46 : decode cX12_draws 46 = .ok (.iload_n 1, 1) := by decide +kernel
theorem dX12_draws_47 : decode cX12_draws 47 = .ok (.iconst 4, 1) := by decide +kernel
theorem dX12_draws_48 : decode cX12_draws 48 = .ok (.isub, 1) := by decide +kernel
theorem dX12_draws_49 : decode cX12_draws 49 = .ok (.istore_n 2, 1) := by decide +kernel
theorem dX12_draws_50 : decode cX12_draws 50 = .ok (.aload_n 0, 1) := by decide +kernel
theorem dX12_draws_51 : decode cX12_draws 51 = .ok (.aload_n 0, 1) := by decide +kernel
theorem dX12_draws_52 : decode cX12_draws 52 = .ok (.getfield 169, 3) := by decide +kernel
theorem dX12_draws_55 : decode cX12_draws 55 = .ok (.invokevirtual 398, 3) := by decide +kernel
theorem dX12_draws_58 : decode cX12_draws 58 = .ok (.istore_n 3, 1) := by decide +kernel
theorem dX12_draws_59 : decode cX12_draws 59 = .ok (.aload_n 0, 1) := by decide +kernel
theorem dX12_draws_60 : decode cX12_draws 60 = .ok (.iload_n 2, 1) := by decide +kernel
theorem dX12_draws_61 : decode cX12_draws 61 = .ok (.iload_n 3, 1) := by decide +kernel
theorem dX12_draws_62 : decode cX12_draws 62 = .ok (.iload_n 2, 1) := by decide +kernel
theorem dX12_draws_63 : decode cX12_draws 63 = .ok (.iconst 3, 1) := by decide +kernel
theorem dX12_draws_64 : decode cX12_draws 64 = .ok (.if_icmp .le 11, 3) := by decide +kernel
theorem dX12_draws_67 : decode cX12_draws 67 = .ok (.aload_n 0, 1) := by decide +kernel
theorem dX12_draws_68 : decode cX12_draws 68 = .ok (.iconst 4, 1) := by decide +kernel
theorem dX12_draws_69 : decode cX12_draws 69 = .ok (.invokevirtual 398, 3) := by decide +kernel
theorem dX12_draws_72 : decode cX12_draws 72 = .ok (.goto 4, 3) := by decide +kernel
theorem dX12_draws_75 : decode cX12_draws 75 = .ok (.iconst (-1), 1) := by decide +kernel
theorem dX12_draws_76 : decode cX12_draws 76 = .ok (.invokevirtual 345, 3) := by decide +kernel
theorem dX12_draws_79 : decode cX12_draws 79 = .ok (.pop, 1) := by decide +kernel
theorem dX12_draws_80 : decode cX12_draws 80 = .ok (.return_, 1) := by decide +kernel
theorem dX12_drawn_0 : decode cX12_drawn 0 = .ok (.aload_n 0, 1) := by decide +kernel
theorem dX12_drawn_1 : decode cX12_drawn 1 = .ok (.iload_n 1, 1) := by decide +kernel
theorem dX12_drawn_2 : decode cX12_drawn 2 = .ok (.invokevirtual 184, 3) := by decide +kernel
theorem dX12_drawn_5 : decode cX12_drawn 5 = .ok (.ifCond .eq 13, 3) := by decide +kernel
theorem dX12_drawn_8 : decode cX12_drawn 8 = .ok (.iload_n 3, 1) := by decide +kernel
theorem dX12_drawn_9 : decode cX12_drawn 9 = .ok (.iconst 0, 1) := by decide +kernel
theorem dX12_drawn_10 : decode cX12_drawn 10 = .ok (.bipush 60, 2) := by decide +kernel
theorem dX12_drawn_12 : decode cX12_drawn 12 = .ok (.invokestatic 111, 3) := by decide +kernel
theorem dX12_drawn_15 : decode cX12_drawn 15 = .ok (.ifCond .ne 6, 3) := by decide +kernel
theorem dX12_drawn_18 : decode cX12_drawn 18 = .ok (.bipush (-2), 2) := by decide +kernel
theorem dX12_drawn_20 : decode cX12_drawn 20 = .ok (.ireturn, 1) := by decide +kernel
theorem dX12_drawn_21 : decode cX12_drawn 21 = .ok (.aload_n 0, 1) := by decide +kernel
theorem dX12_drawn_22 : decode cX12_drawn 22 = .ok (.iload_n 2, 1) := by decide +kernel
theorem dX12_drawn_23 : decode cX12_drawn 23 = .ok (.putfield 394, 3) := by decide +kernel
theorem dX12_drawn_26 : decode cX12_drawn 26 = .ok (.aload_n 0, 1) := by decide +kernel
theorem dX12_drawn_27 : decode cX12_drawn 27 = .ok (.invokevirtual 342, 3) := by decide +kernel
theorem dX12_drawn_30 : decode cX12_drawn 30 = .ok (.iconst 0, 1) := by decide +kernel
theorem dX12_drawn_31 : decode cX12_drawn 31 = .ok (.istore 5, 2) := by decide +kernel
theorem dX12_drawn_33 : decode cX12_drawn 33 = .ok (.iload 5, 2) := by decide +kernel
theorem dX12_drawn_35 : decode cX12_drawn 35 = .ok (.iload_n 3, 1) := by decide +kernel
theorem dX12_drawn_36 : decode cX12_drawn 36 = .ok (.if_icmp .ge 13, 3) := by decide +kernel
theorem dX12_drawn_39 : decode cX12_drawn 39 = .ok (.aload_n 0, 1) := by decide +kernel
theorem dX12_drawn_40 : decode cX12_drawn 40 = .ok (.invokevirtual 401, 3) := by decide +kernel
theorem dX12_drawn_43 : decode cX12_drawn 43 = .ok (.iinc 5 1, 3) := by decide +kernel
theorem dX12_drawn_46 : decode cX12_drawn 46 = .ok (.goto (-13), 3) := by decide +kernel
theorem dX12_drawn_49 : decode cX12_drawn 49 = .ok (.aload_n 0, 1) := by decide +kernel
theorem dX12_drawn_50 : decode cX12_drawn 50 = .ok (.iload 4, 2) := by decide +kernel
theorem dX12_drawn_52 : decode cX12_drawn 52 = .ok (.invokevirtual 354, 3) := by decide +kernel
theorem dX12_drawn_55 : decode cX12_drawn 55 = .ok (.ireturn, 1) := by decide +kernel
theorem dX12_count_0 : decode cX12_count 0 = .ok (.iload_n 1, 1) := by decide +kernel
theorem dX12_count_1 : decode cX12_count 1 = .ok (.iconst 0, 1) := by decide +kernel
theorem dX12_count_2 : decode cX12_count 2 = .ok (.iconst 2, 1) := by decide +kernel
theorem dX12_count_3 : decode cX12_count 3 = .ok (.invokestatic 111, 3) := by decide +kernel
theorem dX12_count_6 : decode cX12_count 6 = .ok (.ifCond .eq 12, 3) := by decide +kernel
theorem dX12_count_9 : decode cX12_count 9 = .ok (.aload_n 0, 1) := by decide +kernel
theorem dX12_count_10 : decode cX12_count 10 = .ok (.getfield 7, 3) := by decide +kernel
theorem dX12_count_13 : decode cX12_count 13 = .ok (.iload_n 1, 1) := by decide +kernel
theorem dX12_count_14 : decode cX12_count 14 = .ok (.iaload, 1) := by decide +kernel
theorem dX12_count_15 : decode cX12_count 15 = .ok (.goto 5, 3) := by decide +kernel
theorem dX12_count_18 : decode cX12_count 18 = .ok (.bipush (-2), 2) := by decide +kernel
theorem dX12_count_20 : decode cX12_count 20 = .ok (.ireturn, 1) := by decide +kernel
theorem dX12_fault_0 : decode cX12_fault 0 = .ok (.iload_n 1, 1) := by decide +kernel
theorem dX12_fault_1 : decode cX12_fault 1 = .ok (.ifCond .ne 12, 3) := by decide +kernel
theorem dX12_fault_4 : decode cX12_fault 4 = .ok (.aload_n 0, 1) := by decide +kernel
theorem dX12_fault_5 : decode cX12_fault 5 = .ok (.getfield 7, 3) := by decide +kernel
theorem dX12_fault_8 : decode cX12_fault 8 = .ok (.iconst 5, 1) := by decide +kernel
theorem dX12_fault_9 : decode cX12_fault 9 = .ok (.iaload, 1) := by decide +kernel
theorem dX12_fault_10 : decode cX12_fault 10 = .ok (.goto 19, 3) := by decide +kernel
theorem dX12_fault_13 : decode cX12_fault 13 = .ok (.iload_n 1, 1) := by decide +kernel
theorem dX12_fault_14 : decode cX12_fault 14 = .ok (.iconst 1, 1) := by decide +kernel
theorem dX12_fault_15 : decode cX12_fault 15 = .ok (.if_icmp .ne 13, 3) := by decide +kernel
theorem dX12_fault_18 : decode cX12_fault 18 = .ok (.aload_n 0, 1) := by decide +kernel
theorem dX12_fault_19 : decode cX12_fault 19 = .ok (.getfield 7, 3) := by decide +kernel
theorem dX12_fault_22 : decode cX12_fault 22 = .ok (.bipush 6, 2) := by decide +kernel
theorem dX12_fault_24 : decode cX12_fault 24 = .ok (.iaload, 1) := by decide +kernel
theorem dX12_fault_25 : decode cX12_fault 25 = .ok (.goto 4, 3) := by decide +kernel
theorem dX12_fault_28 : decode cX12_fault 28 = .ok (.iconst (-1), 1) := by decide +kernel
theorem dX12_fault_29 : decode cX12_fault 29 = .ok (.ireturn, 1) := by decide +kernel
theorem dX12_isSo_0 : decode cX12_isSo 0 = .ok (.aload_n 0, 1) := by decide +kernel
theorem dX12_isSo_1 : decode cX12_isSo 1 = .ok (.iconst 0, 1) := by decide +kernel
theorem dX12_isSo_2 : decode cX12_isSo 2 = .ok (.putfield 196, 3) := by decide +kernel
theorem dX12_isSo_5 : decode cX12_isSo 5 = .ok (.iconst 0, 1) := by decide +kernel
theorem dX12_isSo_6 : decode cX12_isSo 6 = .ok (.istore_n 1, 1) := by decide +kernel
theorem dX12_isSo_7 : decode cX12_isSo 7 = .ok (.iload_n 1, 1) := by decide +kernel
theorem dX12_isSo_8 : decode cX12_isSo 8 = .ok (.aload_n 0, 1) := by decide +kernel
theorem dX12_isSo_9 : decode cX12_isSo 9 = .ok (.getfield 7, 3) := by decide +kernel
theorem dX12_isSo_12 : decode cX12_isSo 12 = .ok (.aload_n 0, 1) := by decide +kernel
theorem dX12_isSo_13 : decode cX12_isSo 13 = .ok (.getfield 360, 3) := by decide +kernel
theorem dX12_isSo_16 : decode cX12_isSo 16 = .ok (.iaload, 1) := by decide +kernel
theorem dX12_isSo_17 : decode cX12_isSo 17 = .ok (.if_icmp .ge 94, 3) := by decide +kernel
theorem dX12_isSo_20 : decode cX12_isSo 20 = .ok (.aload_n 0, 1) := by decide +kernel
theorem dX12_isSo_21 : decode cX12_isSo 21 = .ok (.getfield 7, 3) := by decide +kernel
theorem dX12_isSo_24 : decode cX12_isSo 24 = .ok (.aload_n 0, 1) := by decide +kernel
theorem dX12_isSo_25 : decode cX12_isSo 25 = .ok (.getfield 360, 3) := by decide +kernel
theorem dX12_isSo_28 : decode cX12_isSo 28 = .ok (.iconst 1, 1) := by decide +kernel
theorem dX12_isSo_29 : decode cX12_isSo 29 = .ok (.iadd, 1) := by decide +kernel
theorem dX12_isSo_30 : decode cX12_isSo 30 = .ok (.iconst 2, 1) := by decide +kernel
theorem dX12_isSo_31 : decode cX12_isSo 31 = .ok (.iload_n 1, 1) := by decide +kernel
theorem dX12_isSo_32 : decode cX12_isSo 32 = .ok (.imul, 1) := by decide +kernel
theorem dX12_isSo_33 : decode cX12_isSo 33 = .ok (.iadd, 1) := by decide +kernel
theorem dX12_isSo_34 : decode cX12_isSo 34 = .ok (.iaload, 1) := by decide +kernel
theorem dX12_isSo_35 : decode cX12_isSo 35 = .ok (.istore_n 2, 1) := by decide +kernel
theorem dX12_isSo_36 : decode cX12_isSo 36 = .ok (.aload_n 0, 1) := by decide +kernel
theorem dX12_isSo_37 : decode cX12_isSo 37 = .ok (.getfield 7, 3) := by decide +kernel
theorem dX12_isSo_40 : decode cX12_isSo 40 = .ok (.aload_n 0, 1) := by decide +kernel
theorem dX12_isSo_41 : decode cX12_isSo 41 = .ok (.getfield 360, 3) := by decide +kernel
theorem dX12_isSo_44 : decode cX12_isSo 44 = .ok (.iconst 2, 1) := by decide +kernel
theorem dX12_isSo_45 : decode cX12_isSo 45 = .ok (.iadd, 1) := by decide +kernel
theorem dX12_isSo_46 : decode cX12_isSo 46 = .ok (.iconst 2, 1) := by decide +kernel
theorem dX12_isSo_47 : decode cX12_isSo 47 = .ok (.iload_n 1, 1) := by decide +kernel
theorem dX12_isSo_48 : decode cX12_isSo 48 = .ok (.imul, 1) := by decide +kernel
theorem dX12_isSo_49 : decode cX12_isSo 49 = .ok (.iadd, 1) := by decide +kernel
theorem dX12_isSo_50 : decode cX12_isSo 50 = .ok (.iaload, 1) := by decide +kernel
theorem dX12_isSo_51 : decode cX12_isSo 51 = .ok (.istore_n 3, 1) := by decide +kernel
theorem dX12_isSo_52 : decode cX12_isSo 52 = .ok (.aload_n 0, 1) := by decide +kernel
theorem dX12_isSo_53 : decode cX12_isSo 53 = .ok (.iload_n 2, 1) := by decide +kernel
theorem dX12_isSo_54 : decode cX12_isSo 54 = .ok (.invokevirtual 187, 3) := by decide +kernel
theorem dX12_isSo_57 : decode cX12_isSo 57 = .ok (.ifCond .ne 5, 3) := by decide +kernel
theorem dX12_isSo_60 : decode cX12_isSo 60 = .ok (.iconst 0, 1) := by decide +kernel
theorem dX12_isSo_61 : decode cX12_isSo 61 = .ok (.ireturn, 1) := by decide +kernel
theorem dX12_isSo_62 : decode cX12_isSo 62 = .ok (.aload_n 0, 1) := by decide +kernel
theorem dX12_isSo_63 : decode cX12_isSo 63 = .ok (.iload_n 2, 1) := by decide +kernel
theorem dX12_isSo_64 : decode cX12_isSo 64 = .ok (.invokevirtual 217, 3) := by decide +kernel
theorem dX12_isSo_67 : decode cX12_isSo 67 = .ok (.istore 4, 2) := by decide +kernel
theorem dX12_isSo_69 : decode cX12_isSo 69 = .ok (.iload 4, 2) := by decide +kernel
theorem dX12_isSo_71 : decode cX12_isSo 71 = .ok (.ifCond .eq 14, 3) := by decide +kernel
theorem dX12_isSo_74 : decode cX12_isSo 74 = .ok (.aload_n 0, 1) := by decide +kernel
theorem dX12_isSo_75 : decode cX12_isSo 75 = .ok (.getfield 202, 3) := by decide +kernel
theorem dX12_isSo_78 : decode cX12_isSo 78 = .ok (.iload_n 3, 1) := by decide +kernel
theorem dX12_isSo_79 : decode cX12_isSo 79 = .ok (.if_icmp .eq 13, 3) := by decide +kernel
theorem dX12_isSo_82 : decode cX12_isSo 82 = .ok (.goto 8, 3) := by decide +kernel
theorem dX12_isSo_85 : decode cX12_isSo 85 = .ok (.iload_n 3, 1) := by decide +kernel
theorem dX12_isSo_86 : decode cX12_isSo 86 = .ok (.iconst (-1), 1) := by decide +kernel
theorem dX12_isSo_87 : decode cX12_isSo 87 = .ok (.if_icmp .eq 5, 3) := by decide +kernel
theorem dX12_isSo_90 : decode cX12_isSo 90 = .ok (.iconst 0, 1) := by decide +kernel
theorem dX12_isSo_91 : decode cX12_isSo 91 = .ok (.ireturn, 1) := by decide +kernel
theorem dX12_isSo_92 : decode cX12_isSo 92 = .ok (.aload_n 0, 1) := by decide +kernel
theorem dX12_isSo_93 : decode cX12_isSo 93 = .ok (.dup, 1) := by decide +kernel
theorem dX12_isSo_94 : decode cX12_isSo 94 = .ok (.getfield 196, 3) := by decide +kernel
theorem dX12_isSo_97 : decode cX12_isSo 97 = .ok (.aload_n 0, 1) := by decide +kernel
theorem dX12_isSo_98 : decode cX12_isSo 98 = .ok (.getfield 208, 3) := by decide +kernel
theorem dX12_isSo_101 : decode cX12_isSo 101 = .ok (.iadd, 1) := by decide +kernel
theorem dX12_isSo_102 : decode cX12_isSo 102 = .ok (.putfield 196, 3) := by decide +kernel
theorem dX12_isSo_105 : decode cX12_isSo 105 = .ok (.iinc 1 1, 3) := by decide +kernel
theorem dX12_isSo_108 : decode cX12_isSo 108 = .ok (.goto (-101), 3) := by decide +kernel
theorem dX12_isSo_111 : decode cX12_isSo 111 = .ok (.iconst 1, 1) := by decide +kernel
theorem dX12_isSo_112 : decode cX12_isSo 112 = .ok (.ireturn, 1) := by decide +kernel
theorem dX12_laysNoFits_0 : decode cX12_laysNoFits 0 = .ok (.aload_n 0, 1) := by decide +kernel
theorem dX12_laysNoFits_1 : decode cX12_laysNoFits 1 = .ok (.iconst 0, 1) := by decide +kernel
theorem dX12_laysNoFits_2 : decode cX12_laysNoFits 2 = .ok (.putfield 366, 3) := by decide +kernel
theorem dX12_laysNoFits_5 : decode cX12_laysNoFits 5 = .ok (.aload_n 0, 1) := by decide +kernel
theorem dX12_laysNoFits_6 : decode cX12_laysNoFits 6 = .ok (.iconst (-1), 1) := by decide +kernel
theorem dX12_laysNoFits_7 : decode cX12_laysNoFits 7 = .ok (.putfield 369, 3) := by decide +kernel
theorem dX12_laysNoFits_10 : decode cX12_laysNoFits 10 = .ok (.aload_n 0, 1) := by decide +kernel
theorem dX12_laysNoFits_11 : decode cX12_laysNoFits 11 = .ok (.iconst (-1), 1) := by decide +kernel
theorem dX12_laysNoFits_12 : decode cX12_laysNoFits 12 = .ok (.putfield 372, 3) := by decide +kernel
theorem dX12_laysNoFits_15 : decode cX12_laysNoFits 15 = .ok (.iconst 0, 1) := by decide +kernel
theorem dX12_laysNoFits_16 : decode cX12_laysNoFits 16 = .ok (.istore_n 1, 1) := by decide +kernel
theorem dX12_laysNoFits_17 : decode cX12_laysNoFits 17 = .ok (.iload_n 1, 1) := by decide +kernel
theorem dX12_laysNoFits_18 : decode cX12_laysNoFits 18 = .ok (.bipush 28, 2) := by decide +kernel
theorem dX12_laysNoFits_20 : decode cX12_laysNoFits 20 = .ok (.if_icmp .ge 16, 3) := by decide +kernel
theorem dX12_laysNoFits_23 : decode cX12_laysNoFits 23 = .ok (.aload_n 0, 1) := by decide +kernel
theorem dX12_laysNoFits_24 : decode cX12_laysNoFits 24 = .ok (.getfield 47, 3) := by decide +kernel
theorem dX12_laysNoFits_27 : decode cX12_laysNoFits 27 = .ok (.iload_n 1, 1) := by decide +kernel
theorem dX12_laysNoFits_28 : decode cX12_laysNoFits 28 = .ok (.iconst 0, 1) := by decide +kernel
theorem dX12_laysNoFits_29 : decode cX12_laysNoFits 29 = .ok (.iastore, 1) := by decide +kernel
theorem dX12_laysNoFits_30 : decode cX12_laysNoFits 30 = .ok (.iinc 1 1, 3) := by decide +kernel
theorem dX12_laysNoFits_33 : decode cX12_laysNoFits 33 = .ok (.goto (-16), 3) := by decide +kernel
theorem dX12_laysNoFits_36 : decode cX12_laysNoFits 36 = .ok (.iconst 0, 1) := by decide +kernel
theorem dX12_laysNoFits_37 : decode cX12_laysNoFits 37 = .ok (.istore_n 1, 1) := by decide +kernel
theorem dX12_laysNoFits_38 : decode cX12_laysNoFits 38 = .ok (.iload_n 1, 1) := by decide +kernel
theorem dX12_laysNoFits_39 : decode cX12_laysNoFits 39 = .ok (.bipush 49, 2) := by decide +kernel
theorem dX12_laysNoFits_41 : decode cX12_laysNoFits 41 = .ok (.if_icmp .ge 16, 3) := by decide +kernel
theorem dX12_laysNoFits_44 : decode cX12_laysNoFits 44 = .ok (.aload_n 0, 1) := by decide +kernel
theorem dX12_laysNoFits_45 : decode cX12_laysNoFits 45 = .ok (.getfield 50, 3) := by decide +kernel
theorem dX12_laysNoFits_48 : decode cX12_laysNoFits 48 = .ok (.iload_n 1, 1) := by decide +kernel
theorem dX12_laysNoFits_49 : decode cX12_laysNoFits 49 = .ok (.iconst 0, 1) := by decide +kernel
theorem dX12_laysNoFits_50 : decode cX12_laysNoFits 50 = .ok (.iastore, 1) := by decide +kernel
theorem dX12_laysNoFits_51 : decode cX12_laysNoFits 51 = .ok (.iinc 1 1, 3) := by decide +kernel
theorem dX12_laysNoFits_54 : decode cX12_laysNoFits 54 = .ok (.goto (-16), 3) := by decide +kernel
theorem dX12_laysNoFits_57 : decode cX12_laysNoFits 57 = .ok (.return_, 1) := by decide +kernel
theorem dX12_laysEnds_0 : decode cX12_laysEnds 0 = .ok (.iconst 0, 1) := by decide +kernel
theorem dX12_laysEnds_1 : decode cX12_laysEnds 1 = .ok (.istore_n 1, 1) := by decide +kernel
theorem dX12_laysEnds_2 : decode cX12_laysEnds 2 = .ok (.iload_n 1, 1) := by decide +kernel
theorem dX12_laysEnds_3 : decode cX12_laysEnds 3 = .ok (.aload_n 0, 1) := by decide +kernel
theorem dX12_laysEnds_4 : decode cX12_laysEnds 4 = .ok (.getfield 169, 3) := by decide +kernel
theorem dX12_laysEnds_7 : decode cX12_laysEnds 7 = .ok (.if_icmp .ge 21, 3) := by decide +kernel
theorem dX12_laysEnds_10 : decode cX12_laysEnds 10 = .ok (.aload_n 0, 1) := by decide +kernel
theorem dX12_laysEnds_11 : decode cX12_laysEnds 11 = .ok (.getfield 53, 3) := by decide +kernel
theorem dX12_laysEnds_14 : decode cX12_laysEnds 14 = .ok (.iload_n 1, 1) := by decide +kernel
theorem dX12_laysEnds_15 : decode cX12_laysEnds 15 = .ok (.aload_n 0, 1) := by decide +kernel
theorem dX12_laysEnds_16 : decode cX12_laysEnds 16 = .ok (.getfield 20, 3) := by decide +kernel
theorem dX12_laysEnds_19 : decode cX12_laysEnds 19 = .ok (.iload_n 1, 1) := by decide +kernel
theorem dX12_laysEnds_20 : decode cX12_laysEnds 20 = .ok (.iaload, 1) := by decide +kernel
theorem dX12_laysEnds_21 : decode cX12_laysEnds 21 = .ok (.iastore, 1) := by decide +kernel
theorem dX12_laysEnds_22 : decode cX12_laysEnds 22 = .ok (.iinc 1 1, 3) := by decide +kernel
theorem dX12_laysEnds_25 : decode cX12_laysEnds 25 = .ok (.goto (-23), 3) := by decide +kernel
theorem dX12_laysEnds_28 : decode cX12_laysEnds 28 = .ok (.iconst 0, 1) := by decide +kernel
theorem dX12_laysEnds_29 : decode cX12_laysEnds 29 = .ok (.istore_n 1, 1) := by decide +kernel
theorem dX12_laysEnds_30 : decode cX12_laysEnds 30 = .ok (.iload_n 1, 1) := by decide +kernel
theorem dX12_laysEnds_31 : decode cX12_laysEnds 31 = .ok (.aload_n 0, 1) := by decide +kernel
theorem dX12_laysEnds_32 : decode cX12_laysEnds 32 = .ok (.getfield 169, 3) := by decide +kernel
theorem dX12_laysEnds_35 : decode cX12_laysEnds 35 = .ok (.if_icmp .ge 72, 3) := by decide +kernel
theorem dX12_laysEnds_38 : decode cX12_laysEnds 38 = .ok (.aload_n 0, 1) := by decide +kernel
theorem dX12_laysEnds_39 : decode cX12_laysEnds 39 = .ok (.iload_n 1, 1) := by decide +kernel
theorem dX12_laysEnds_40 : decode cX12_laysEnds 40 = .ok (.invokevirtual 178, 3) := by decide +kernel
theorem dX12_laysEnds_43 : decode cX12_laysEnds 43 = .ok (.ifCond .eq 6, 3) := by decide +kernel
theorem dX12_laysEnds_46 : decode cX12_laysEnds 46 = .ok (.goto 55, 3) := by decide +kernel
theorem dX12_laysEnds_49 : decode cX12_laysEnds 49 = .ok (.aload_n 0, 1) := by decide +kernel
theorem dX12_laysEnds_50 : decode cX12_laysEnds 50 = .ok (.iload_n 1, 1) := by decide +kernel
theorem dX12_laysEnds_51 : decode cX12_laysEnds 51 = .ok (.invokevirtual 217, 3) := by decide +kernel
theorem dX12_laysEnds_54 : decode cX12_laysEnds 54 = .ok (.pop, 1) := by decide +kernel
theorem dX12_laysEnds_55 : decode cX12_laysEnds 55 = .ok (.aload_n 0, 1) := by decide +kernel
theorem dX12_laysEnds_56 : decode cX12_laysEnds 56 = .ok (.getfield 50, 3) := by decide +kernel
theorem dX12_laysEnds_59 : decode cX12_laysEnds 59 = .ok (.bipush 7, 2) := by decide +kernel
theorem dX12_laysEnds_61 : decode cX12_laysEnds 61 = .ok (.iload_n 1, 1) := by decide +kernel
theorem dX12_laysEnds_62 : decode cX12_laysEnds 62 = .ok (.imul, 1) := by decide +kernel
theorem dX12_laysEnds_63 : decode cX12_laysEnds 63 = .ok (.aload_n 0, 1) := by decide +kernel
theorem dX12_laysEnds_64 : decode cX12_laysEnds 64 = .ok (.getfield 202, 3) := by decide +kernel
theorem dX12_laysEnds_67 : decode cX12_laysEnds 67 = .ok (.iadd, 1) := by decide +kernel
theorem dX12_laysEnds_68 : decode cX12_laysEnds 68 = .ok (.dup2, 1) := by decide +kernel
theorem dX12_laysEnds_69 : decode cX12_laysEnds 69 = .ok (.iaload, 1) := by decide +kernel
theorem dX12_laysEnds_70 : decode cX12_laysEnds 70 = .ok (.iconst 1, 1) := by decide +kernel
theorem dX12_laysEnds_71 : decode cX12_laysEnds 71 = .ok (.iadd, 1) := by decide +kernel
theorem dX12_laysEnds_72 : decode cX12_laysEnds 72 = .ok (.iastore, 1) := by decide +kernel
theorem dX12_laysEnds_73 : decode cX12_laysEnds 73 = .ok (.iconst 0, 1) := by decide +kernel
theorem dX12_laysEnds_74 : decode cX12_laysEnds 74 = .ok (.istore_n 2, 1) := by decide +kernel
theorem dX12_laysEnds_75 : decode cX12_laysEnds 75 = .ok (.iload_n 2, 1) := by decide +kernel
theorem dX12_laysEnds_76 : decode cX12_laysEnds 76 = .ok (.aload_n 0, 1) := by decide +kernel
theorem dX12_laysEnds_77 : decode cX12_laysEnds 77 = .ok (.getfield 169, 3) := by decide +kernel
theorem dX12_laysEnds_80 : decode cX12_laysEnds 80 = .ok (.if_icmp .ge 21, 3) := by decide +kernel
theorem dX12_laysEnds_83 : decode cX12_laysEnds 83 = .ok (.aload_n 0, 1) := by decide +kernel
theorem dX12_laysEnds_84 : decode cX12_laysEnds 84 = .ok (.getfield 20, 3) := by decide +kernel
theorem dX12_laysEnds_87 : decode cX12_laysEnds 87 = .ok (.iload_n 2, 1) := by decide +kernel
theorem dX12_laysEnds_88 : decode cX12_laysEnds 88 = .ok (.aload_n 0, 1) := by decide +kernel
theorem dX12_laysEnds_89 : decode cX12_laysEnds 89 = .ok (.getfield 53, 3) := by decide +kernel
theorem dX12_laysEnds_92 : decode cX12_laysEnds 92 = .ok (.iload_n 2, 1) := by decide +kernel
theorem dX12_laysEnds_93 : decode cX12_laysEnds 93 = .ok (.iaload, 1) := by decide +kernel
theorem dX12_laysEnds_94 : decode cX12_laysEnds 94 = .ok (.iastore, 1) := by decide +kernel
theorem dX12_laysEnds_95 : decode cX12_laysEnds 95 = .ok (.iinc 2 1, 3) := by decide +kernel
theorem dX12_laysEnds_98 : decode cX12_laysEnds 98 = .ok (.goto (-23), 3) := by decide +kernel
theorem dX12_laysEnds_101 : decode cX12_laysEnds 101 = .ok (.iinc 1 1, 3) := by decide +kernel
theorem dX12_laysEnds_104 : decode cX12_laysEnds 104 = .ok (.goto (-74), 3) := by decide +kernel
theorem dX12_laysEnds_107 : decode cX12_laysEnds 107 = .ok (.return_, 1) := by decide +kernel
theorem dX12_laysFits_0 : decode cX12_laysFits 0 = .ok (.aload_n 0, 1) := by decide +kernel
theorem dX12_laysFits_1 : decode cX12_laysFits 1 = .ok (.invokevirtual 375, 3) := by decide +kernel
theorem dX12_laysFits_4 : decode cX12_laysFits 4 = .ok (.bipush (-2), 2) := by decide +kernel
theorem dX12_laysFits_6 : decode cX12_laysFits 6 = .ok (.istore_n 3, 1) := by decide +kernel
theorem dX12_laysFits_7 : decode cX12_laysFits 7 = .ok (.aload_n 0, 1) := by decide +kernel
theorem dX12_laysFits_8 : decode cX12_laysFits 8 = .ok (.invokevirtual 229, 3) := by decide +kernel
theorem dX12_laysFits_11 : decode cX12_laysFits 11 = .ok (.istore 4, 2) := by decide +kernel
theorem dX12_laysFits_13 : decode cX12_laysFits 13 = .ok (.iconst 0, 1) := by decide +kernel
theorem dX12_laysFits_14 : decode cX12_laysFits 14 = .ok (.istore 5, 2) := by decide +kernel
theorem dX12_laysFits_16 : decode cX12_laysFits 16 = .ok (.iload 5, 2) := by decide +kernel
theorem dX12_laysFits_18 : decode cX12_laysFits 18 = .ok (.iload 4, 2) := by decide +kernel
theorem dX12_laysFits_20 : decode cX12_laysFits 20 = .ok (.if_icmp .ge 163, 3) := by decide +kernel
theorem dX12_laysFits_23 : decode cX12_laysFits 23 = .ok (.aload_n 0, 1) := by decide +kernel
theorem dX12_laysFits_24 : decode cX12_laysFits 24 = .ok (.iload 5, 2) := by decide +kernel
theorem dX12_laysFits_26 : decode cX12_laysFits 26 = .ok (.invokevirtual 226, 3) := by decide +kernel
theorem dX12_laysFits_29 : decode cX12_laysFits 29 = .ok (.aload_n 0, 1) := by decide +kernel
theorem dX12_laysFits_30 : decode cX12_laysFits 30 = .ok (.invokevirtual 378, 3) := by decide +kernel
theorem dX12_laysFits_33 : decode cX12_laysFits 33 = .ok (.ifCond .ne 6, 3) := by decide +kernel
theorem dX12_laysFits_36 : decode cX12_laysFits 36 = .ok (.goto 141, 3) := by decide +kernel
theorem dX12_laysFits_39 : decode cX12_laysFits 39 = .ok (.iload_n 2, 1) := by decide +kernel
theorem dX12_laysFits_40 : decode cX12_laysFits 40 = .ok (.ifCond .eq 7, 3) := by decide +kernel
theorem dX12_laysFits_43 : decode cX12_laysFits 43 = .ok (.aload_n 0, 1) := by decide +kernel
theorem dX12_laysFits_44 : decode cX12_laysFits 44 = .ok (.invokevirtual 381, 3) := by decide +kernel
theorem dX12_laysFits_47 : decode cX12_laysFits 47 = .ok (.aload_n 0, 1) := by decide +kernel
theorem dX12_laysFits_48 : decode cX12_laysFits 48 = .ok (.iload 5, 2) := by decide +kernel
theorem dX12_laysFits_50 : decode cX12_laysFits 50 = .ok (.invokevirtual 226, 3) := by decide +kernel
theorem dX12_laysFits_53 : decode cX12_laysFits 53 = .ok (.iconst 0, 1) := by decide +kernel
theorem dX12_laysFits_54 : decode cX12_laysFits 54 = .ok (.istore 6, 2) := by decide +kernel
theorem dX12_laysFits_56 : decode cX12_laysFits 56 = .ok (.iload 6, 2) := by decide +kernel
theorem dX12_laysFits_58 : decode cX12_laysFits 58 = .ok (.aload_n 0, 1) := by decide +kernel
theorem dX12_laysFits_59 : decode cX12_laysFits 59 = .ok (.getfield 169, 3) := by decide +kernel
theorem dX12_laysFits_62 : decode cX12_laysFits 62 = .ok (.if_icmp .ge 30, 3) := by decide +kernel
theorem dX12_laysFits_65 : decode cX12_laysFits 65 = .ok (.aload_n 0, 1) := by decide +kernel
theorem dX12_laysFits_66 : decode cX12_laysFits 66 = .ok (.getfield 47, 3) := by decide +kernel
theorem dX12_laysFits_69 : decode cX12_laysFits 69 = .ok (.iconst 4, 1) := by decide +kernel
theorem dX12_laysFits_70 : decode cX12_laysFits 70 = .ok (.iload 6, 2) := by decide +kernel
theorem dX12_laysFits_72 : decode cX12_laysFits 72 = .ok (.imul, 1) := by decide +kernel
theorem dX12_laysFits_73 : decode cX12_laysFits 73 = .ok (.aload_n 0, 1) := by decide +kernel
theorem dX12_laysFits_74 : decode cX12_laysFits 74 = .ok (.getfield 20, 3) := by decide +kernel
theorem dX12_laysFits_77 : decode cX12_laysFits 77 = .ok (.iload 6, 2) := by decide +kernel
theorem dX12_laysFits_79 : decode cX12_laysFits 79 = .ok (.iaload, 1) := by decide +kernel
theorem dX12_laysFits_80 : decode cX12_laysFits 80 = .ok (.iadd, 1) := by decide +kernel
theorem dX12_laysFits_81 : decode cX12_laysFits 81 = .ok (.dup2, 1) := by decide +kernel
theorem dX12_laysFits_82 : decode cX12_laysFits 82 = .ok (.iaload, 1) := by decide +kernel
theorem dX12_laysFits_83 : decode cX12_laysFits 83 = .ok (.iconst 1, 1) := by decide +kernel
theorem dX12_laysFits_84 : decode cX12_laysFits 84 = .ok (.iadd, 1) := by decide +kernel
theorem dX12_laysFits_85 : decode cX12_laysFits 85 = .ok (.iastore, 1) := by decide +kernel
theorem dX12_laysFits_86 : decode cX12_laysFits 86 = .ok (.iinc 6 1, 3) := by decide +kernel
theorem dX12_laysFits_89 : decode cX12_laysFits 89 = .ok (.goto (-33), 3) := by decide +kernel
theorem dX12_laysFits_92 : decode cX12_laysFits 92 = .ok (.aload_n 0, 1) := by decide +kernel
theorem dX12_laysFits_93 : decode cX12_laysFits 93 = .ok (.getfield 366, 3) := by decide +kernel
theorem dX12_laysFits_96 : decode cX12_laysFits 96 = .ok (.iload_n 1, 1) := by decide +kernel
theorem dX12_laysFits_97 : decode cX12_laysFits 97 = .ok (.if_icmp .ne 10, 3) := by decide +kernel
theorem dX12_laysFits_100 : decode cX12_laysFits 100 = .ok (.aload_n 0, 1) := by decide +kernel
theorem dX12_laysFits_101 : decode cX12_laysFits 101 = .ok (.iload 5, 2) := by decide +kernel
theorem dX12_laysFits_103 : decode cX12_laysFits 103 = .ok (.invokevirtual 299, 3) := by decide +kernel
theorem dX12_laysFits_106 : decode cX12_laysFits 106 = .ok (.istore_n 3, 1) := by decide +kernel
theorem dX12_laysFits_107 : decode cX12_laysFits 107 = .ok (.aload_n 0, 1) := by decide +kernel
theorem dX12_laysFits_108 : decode cX12_laysFits 108 = .ok (.aload_n 0, 1) := by decide +kernel
theorem dX12_laysFits_109 : decode cX12_laysFits 109 = .ok (.getfield 369, 3) := by decide +kernel
theorem dX12_laysFits_112 : decode cX12_laysFits 112 = .ok (.iconst (-1), 1) := by decide +kernel
theorem dX12_laysFits_113 : decode cX12_laysFits 113 = .ok (.if_icmp .eq 14, 3) := by decide +kernel
theorem dX12_laysFits_116 : decode cX12_laysFits 116 = .ok (.aload_n 0, 1) := by decide +kernel
theorem dX12_laysFits_117 : decode cX12_laysFits 117 = .ok (.getfield 196, 3) := by decide +kernel
theorem dX12_laysFits_120 : decode cX12_laysFits 120 = .ok (.aload_n 0, 1) := by decide +kernel
theorem dX12_laysFits_121 : decode cX12_laysFits 121 = .ok (.getfield 369, 3) := by decide +kernel
theorem dX12_laysFits_124 : decode cX12_laysFits 124 = .ok (.if_icmp .ge 10, 3) := by decide +kernel
theorem dX12_laysFits_127 : decode cX12_laysFits 127 = .ok (.aload_n 0, 1) := by decide +kernel
theorem dX12_laysFits_128 : decode cX12_laysFits 128 = .ok (.getfield 196, 3) := by decide +kernel
theorem dX12_laysFits_131 : decode cX12_laysFits 131 = .ok (.goto 7, 3) := by decide +kernel
theorem dX12_laysFits_134 : decode cX12_laysFits 134 = .ok (.aload_n 0, 1) := by decide +kernel
theorem dX12_laysFits_135 : decode cX12_laysFits 135 = .ok (.getfield 369, 3) := by decide +kernel
theorem dX12_laysFits_138 : decode cX12_laysFits 138 = .ok (.putfield 369, 3) := by decide +kernel
theorem dX12_laysFits_141 : decode cX12_laysFits 141 = .ok (.aload_n 0, 1) := by decide +kernel
theorem dX12_laysFits_142 : decode cX12_laysFits 142 = .ok (.aload_n 0, 1) := by decide +kernel
theorem dX12_laysFits_143 : decode cX12_laysFits 143 = .ok (.getfield 196, 3) := by decide +kernel
theorem dX12_laysFits_146 : decode cX12_laysFits 146 = .ok (.aload_n 0, 1) := by decide +kernel
theorem dX12_laysFits_147 : decode cX12_laysFits 147 = .ok (.getfield 372, 3) := by decide +kernel
theorem dX12_laysFits_150 : decode cX12_laysFits 150 = .ok (.if_icmp .le 10, 3) := by decide +kernel
theorem dX12_laysFits_153 : decode cX12_laysFits 153 = .ok (.aload_n 0, 1) := by decide +kernel
theorem dX12_laysFits_154 : decode cX12_laysFits 154 = .ok (.getfield 196, 3) := by decide +kernel
theorem dX12_laysFits_157 : decode cX12_laysFits 157 = .ok (.goto 7, 3) := by decide +kernel
theorem dX12_laysFits_160 : decode cX12_laysFits 160 = .ok (.aload_n 0, 1) := by decide +kernel
theorem dX12_laysFits_161 : decode cX12_laysFits 161 = .ok (.getfield 372, 3) := by decide +kernel
theorem dX12_laysFits_164 : decode cX12_laysFits 164 = .ok (.putfield 372, 3) := by decide +kernel
theorem dX12_laysFits_167 : decode cX12_laysFits 167 = .ok (.aload_n 0, 1) := by decide +kernel
theorem dX12_laysFits_168 : decode cX12_laysFits 168 = .ok (.dup, 1) := by decide +kernel
theorem dX12_laysFits_169 : decode cX12_laysFits 169 = .ok (.getfield 366, 3) := by decide +kernel
theorem dX12_laysFits_172 : decode cX12_laysFits 172 = .ok (.iconst 1, 1) := by decide +kernel
theorem dX12_laysFits_173 : decode cX12_laysFits 173 = .ok (.iadd, 1) := by decide +kernel
theorem dX12_laysFits_174 : decode cX12_laysFits 174 = .ok (.putfield 366, 3) := by decide +kernel
theorem dX12_laysFits_177 : decode cX12_laysFits 177 = .ok (.iinc 5 1, 3) := by decide +kernel
theorem dX12_laysFits_180 : decode cX12_laysFits 180 = .ok (.goto (-164), 3) := by decide +kernel
theorem dX12_laysFits_183 : decode cX12_laysFits 183 = .ok (.iload_n 3, 1) := by decide +kernel
theorem dX12_laysFits_184 : decode cX12_laysFits 184 = .ok (.ireturn, 1) := by decide +kernel
theorem dX12_askOf_0 : decode cX12_askOf 0 = .ok (.iconst (-1), 1) := by decide +kernel
theorem dX12_askOf_1 : decode cX12_askOf 1 = .ok (.istore_n 1, 1) := by decide +kernel
theorem dX12_askOf_2 : decode cX12_askOf 2 = .ok (.ldc_w 384, 3) := by decide +kernel
theorem dX12_askOf_5 : decode cX12_askOf 5 = .ok (.istore_n 2, 1) := by decide +kernel
theorem dX12_askOf_6 : decode cX12_askOf 6 = .ok (.iconst 0, 1) := by decide +kernel
theorem dX12_askOf_7 : decode cX12_askOf 7 = .ok (.istore_n 3, 1) := by decide +kernel
theorem dX12_askOf_8 : decode cX12_askOf 8 = .ok (.iload_n 3, 1) := by decide +kernel
theorem dX12_askOf_9 : decode cX12_askOf 9 = .ok (.aload_n 0, 1) := by decide +kernel
theorem dX12_askOf_10 : decode cX12_askOf 10 = .ok (.getfield 169, 3) := by decide +kernel
theorem dX12_askOf_13 : decode cX12_askOf 13 = .ok (.if_icmp .ge 96, 3) := by decide +kernel
theorem dX12_askOf_16 : decode cX12_askOf 16 = .ok (.aload_n 0, 1) := by decide +kernel
theorem dX12_askOf_17 : decode cX12_askOf 17 = .ok (.getfield 366, 3) := by decide +kernel
theorem dX12_askOf_20 : decode cX12_askOf 20 = .ok (.ifCond .le 89, 3) := by decide +kernel
theorem dX12_askOf_23 : decode cX12_askOf 23 = .ok (.aload_n 0, 1) := by decide +kernel
theorem dX12_askOf_24 : decode cX12_askOf 24 = .ok (.iload_n 3, 1) := by decide +kernel
theorem dX12_askOf_25 : decode cX12_askOf 25 = .ok (.invokevirtual 178, 3) := by decide +kernel
theorem dX12_askOf_28 : decode cX12_askOf 28 = .ok (.ifCond .eq 6, 3) := by decide +kernel
theorem dX12_askOf_31 : decode cX12_askOf 31 = .ok (.goto 72, 3) := by decide +kernel
theorem dX12_askOf_34 : decode cX12_askOf 34 = .ok (.iconst 0, 1) := by decide +kernel
theorem dX12_askOf_35 : decode cX12_askOf 35 = .ok (.istore 4, 2) := by decide +kernel
theorem dX12_askOf_37 : decode cX12_askOf 37 = .ok (.iconst 0, 1) := by decide +kernel
theorem dX12_askOf_38 : decode cX12_askOf 38 = .ok (.istore 5, 2) := by decide +kernel
theorem dX12_askOf_40 : decode cX12_askOf 40 = .ok (.iload 5, 2) := by decide +kernel
theorem dX12_askOf_42 : decode cX12_askOf 42 = .ok (.bipush 7, 2) := by decide +kernel
theorem dX12_askOf_44 : decode cX12_askOf 44 = .ok (.if_icmp .ge 45, 3) := by decide +kernel
theorem dX12_askOf_47 : decode cX12_askOf 47 = .ok (.aload_n 0, 1) := by decide +kernel
theorem dX12_askOf_48 : decode cX12_askOf 48 = .ok (.getfield 50, 3) := by decide +kernel
theorem dX12_askOf_51 : decode cX12_askOf 51 = .ok (.bipush 7, 2) := by decide +kernel
theorem dX12_askOf_53 : decode cX12_askOf 53 = .ok (.iload_n 3, 1) := by decide +kernel
theorem dX12_askOf_54 : decode cX12_askOf 54 = .ok (.imul, 1) := by decide +kernel
theorem dX12_askOf_55 : decode cX12_askOf 55 = .ok (.iload 5, 2) := by decide +kernel
theorem dX12_askOf_57 : decode cX12_askOf 57 = .ok (.iadd, 1) := by decide +kernel
theorem dX12_askOf_58 : decode cX12_askOf 58 = .ok (.iaload, 1) := by decide +kernel
theorem dX12_askOf_59 : decode cX12_askOf 59 = .ok (.iload 4, 2) := by decide +kernel
theorem dX12_askOf_61 : decode cX12_askOf 61 = .ok (.if_icmp .le 18, 3) := by decide +kernel
theorem dX12_askOf_64 : decode cX12_askOf 64 = .ok (.aload_n 0, 1) := by decide +kernel
theorem dX12_askOf_65 : decode cX12_askOf 65 = .ok (.getfield 50, 3) := by decide +kernel
theorem dX12_askOf_68 : decode cX12_askOf 68 = .ok (.bipush 7, 2) := by decide +kernel
theorem dX12_askOf_70 : decode cX12_askOf 70 = .ok (.iload_n 3, 1) := by decide +kernel
theorem dX12_askOf_71 : decode cX12_askOf 71 = .ok (.imul, 1) := by decide +kernel
theorem dX12_askOf_72 : decode cX12_askOf 72 = .ok (.iload 5, 2) := by decide +kernel
theorem dX12_askOf_74 : decode cX12_askOf 74 = .ok (.iadd, 1) := by decide +kernel
theorem dX12_askOf_75 : decode cX12_askOf 75 = .ok (.iaload, 1) := by decide +kernel
theorem dX12_askOf_76 : decode cX12_askOf 76 = .ok (.goto 5, 3) := by decide +kernel
theorem dX12_askOf_79 : decode cX12_askOf 79 = .ok (.iload 4, 2) := by decide +kernel
theorem dX12_askOf_81 : decode cX12_askOf 81 = .ok (.istore 4, 2) := by decide +kernel
theorem dX12_askOf_83 : decode cX12_askOf 83 = .ok (.iinc 5 1, 3) := by decide +kernel
theorem dX12_askOf_86 : decode cX12_askOf 86 = .ok (.goto (-46), 3) := by decide +kernel
theorem dX12_askOf_89 : decode cX12_askOf 89 = .ok (.iload 4, 2) := by decide +kernel
theorem dX12_askOf_91 : decode cX12_askOf 91 = .ok (.iload_n 2, 1) := by decide +kernel
theorem dX12_askOf_92 : decode cX12_askOf 92 = .ok (.if_icmp .lt 6, 3) := by decide +kernel
theorem dX12_askOf_95 : decode cX12_askOf 95 = .ok (.goto 8, 3) := by decide +kernel
theorem dX12_askOf_98 : decode cX12_askOf 98 = .ok (.iload_n 3, 1) := by decide +kernel
theorem dX12_askOf_99 : decode cX12_askOf 99 = .ok (.istore_n 1, 1) := by decide +kernel
theorem dX12_askOf_100 : decode cX12_askOf 100 = .ok (.iload 4, 2) := by decide +kernel
theorem dX12_askOf_102 : decode cX12_askOf 102 = .ok (.istore_n 2, 1) := by decide +kernel
theorem dX12_askOf_103 : decode cX12_askOf 103 = .ok (.iinc 3 1, 3) := by decide +kernel
theorem dX12_askOf_106 : decode cX12_askOf 106 = .ok (.goto (-98), 3) := by decide +kernel
theorem dX12_askOf_109 : decode cX12_askOf 109 = .ok (.iload_n 1, 1) := by decide +kernel
theorem dX12_askOf_110 : decode cX12_askOf 110 = .ok (.ireturn, 1) := by decide +kernel
theorem dX12_sureOf_0 : decode cX12_sureOf 0 = .ok (.aload_n 0, 1) := by decide +kernel
theorem dX12_sureOf_1 : decode cX12_sureOf 1 = .ok (.iload_n 1, 1) := by decide +kernel
theorem dX12_sureOf_2 : decode cX12_sureOf 2 = .ok (.invokevirtual 187, 3) := by decide +kernel
theorem dX12_sureOf_5 : decode cX12_sureOf 5 = .ok (.ifCond .eq 10, 3) := by decide +kernel
theorem dX12_sureOf_8 : decode cX12_sureOf 8 = .ok (.aload_n 0, 1) := by decide +kernel
theorem dX12_sureOf_9 : decode cX12_sureOf 9 = .ok (.getfield 366, 3) := by decide +kernel
theorem dX12_sureOf_12 : decode cX12_sureOf 12 = .ok (.ifCond .ne 5, 3) := by decide +kernel
theorem dX12_sureOf_15 : decode cX12_sureOf 15 = .ok (.iconst (-1), 1) := by decide +kernel
theorem dX12_sureOf_16 : decode cX12_sureOf 16 = .ok (.ireturn, 1) := by decide +kernel
theorem dX12_sureOf_17 : decode cX12_sureOf 17 = .ok (.iconst 0, 1) := by decide +kernel
theorem dX12_sureOf_18 : decode cX12_sureOf 18 = .ok (.istore_n 2, 1) := by decide +kernel
theorem dX12_sureOf_19 : decode cX12_sureOf 19 = .ok (.iload_n 2, 1) := by decide +kernel
theorem dX12_sureOf_20 : decode cX12_sureOf 20 = .ok (.iconst 4, 1) := by decide +kernel
theorem dX12_sureOf_21 : decode cX12_sureOf 21 = .ok (.if_icmp .ge 28, 3) := by decide +kernel
theorem dX12_sureOf_24 : decode cX12_sureOf 24 = .ok (.aload_n 0, 1) := by decide +kernel
theorem dX12_sureOf_25 : decode cX12_sureOf 25 = .ok (.getfield 47, 3) := by decide +kernel
theorem dX12_sureOf_28 : decode cX12_sureOf 28 = .ok (.iconst 4, 1) := by decide +kernel
theorem dX12_sureOf_29 : decode cX12_sureOf 29 = .ok (.iload_n 1, 1) := by decide +kernel
theorem dX12_sureOf_30 : decode cX12_sureOf 30 = .ok (.imul, 1) := by decide +kernel
theorem dX12_sureOf_31 : decode cX12_sureOf 31 = .ok (.iload_n 2, 1) := by decide +kernel
theorem dX12_sureOf_32 : decode cX12_sureOf 32 = .ok (.iadd, 1) := by decide +kernel
theorem dX12_sureOf_33 : decode cX12_sureOf 33 = .ok (.iaload, 1) := by decide +kernel
theorem dX12_sureOf_34 : decode cX12_sureOf 34 = .ok (.aload_n 0, 1) := by decide +kernel
theorem dX12_sureOf_35 : decode cX12_sureOf 35 = .ok (.getfield 366, 3) := by decide +kernel
theorem dX12_sureOf_38 : decode cX12_sureOf 38 = .ok (.if_icmp .ne 5, 3) := by decide +kernel
theorem dX12_sureOf_41 : decode cX12_sureOf 41 = .ok (.iload_n 2, 1) := by decide +kernel
theorem dX12_sureOf_42 : decode cX12_sureOf 42 = .ok (.ireturn, 1) := by decide +kernel
theorem dX12_sureOf_43 : decode cX12_sureOf 43 = .ok (.iinc 2 1, 3) := by decide +kernel
theorem dX12_sureOf_46 : decode cX12_sureOf 46 = .ok (.goto (-27), 3) := by decide +kernel
theorem dX12_sureOf_49 : decode cX12_sureOf 49 = .ok (.iconst (-1), 1) := by decide +kernel
theorem dX12_sureOf_50 : decode cX12_sureOf 50 = .ok (.ireturn, 1) := by decide +kernel
theorem dX12_fits_0 : decode cX12_fits 0 = .ok (.aload_n 0, 1) := by decide +kernel
theorem dX12_fits_1 : decode cX12_fits 1 = .ok (.iload_n 1, 1) := by decide +kernel
theorem dX12_fits_2 : decode cX12_fits 2 = .ok (.invokevirtual 184, 3) := by decide +kernel
theorem dX12_fits_5 : decode cX12_fits 5 = .ok (.ifCond .eq 21, 3) := by decide +kernel
theorem dX12_fits_8 : decode cX12_fits 8 = .ok (.aload_n 0, 1) := by decide +kernel
theorem dX12_fits_9 : decode cX12_fits 9 = .ok (.iload_n 2, 1) := by decide +kernel
theorem dX12_fits_10 : decode cX12_fits 10 = .ok (.invokevirtual 363, 3) := by decide +kernel
theorem dX12_fits_13 : decode cX12_fits 13 = .ok (.ifCond .eq 13, 3) := by decide +kernel
theorem dX12_fits_16 : decode cX12_fits 16 = .ok (.iload_n 3, 1) := by decide +kernel
theorem dX12_fits_17 : decode cX12_fits 17 = .ok (.ifCond .lt 9, 3) := by decide +kernel
theorem dX12_fits_20 : decode cX12_fits 20 = .ok (.iload_n 3, 1) := by decide +kernel
theorem dX12_fits_21 : decode cX12_fits 21 = .ok (.bipush 9, 2) := by decide +kernel
theorem dX12_fits_23 : decode cX12_fits 23 = .ok (.if_icmp .ne 6, 3) := by decide +kernel
theorem dX12_fits_26 : decode cX12_fits 26 = .ok (.bipush (-2), 2) := by decide +kernel
theorem dX12_fits_28 : decode cX12_fits 28 = .ok (.ireturn, 1) := by decide +kernel
theorem dX12_fits_29 : decode cX12_fits 29 = .ok (.aload_n 0, 1) := by decide +kernel
theorem dX12_fits_30 : decode cX12_fits 30 = .ok (.iload_n 3, 1) := by decide +kernel
theorem dX12_fits_31 : decode cX12_fits 31 = .ok (.bipush 10, 2) := by decide +kernel
theorem dX12_fits_33 : decode cX12_fits 33 = .ok (.isub, 1) := by decide +kernel
theorem dX12_fits_34 : decode cX12_fits 34 = .ok (.iload_n 3, 1) := by decide +kernel
theorem dX12_fits_35 : decode cX12_fits 35 = .ok (.iconst 1, 1) := by decide +kernel
theorem dX12_fits_36 : decode cX12_fits 36 = .ok (.if_icmp .ne 7, 3) := by decide +kernel
theorem dX12_fits_39 : decode cX12_fits 39 = .ok (.iconst 1, 1) := by decide +kernel
theorem dX12_fits_40 : decode cX12_fits 40 = .ok (.goto 4, 3) := by decide +kernel
theorem dX12_fits_43 : decode cX12_fits 43 = .ok (.iconst 0, 1) := by decide +kernel
theorem dX12_fits_44 : decode cX12_fits 44 = .ok (.invokevirtual 385, 3) := by decide +kernel
theorem dX12_fits_47 : decode cX12_fits 47 = .ok (.istore 4, 2) := by decide +kernel
theorem dX12_fits_49 : decode cX12_fits 49 = .ok (.iload_n 3, 1) := by decide +kernel
theorem dX12_fits_50 : decode cX12_fits 50 = .ok (.ifCond .ne 8, 3) := by decide +kernel
theorem dX12_fits_53 : decode cX12_fits 53 = .ok (.aload_n 0, 1) := by decide +kernel
theorem dX12_fits_54 : decode cX12_fits 54 = .ok (.getfield 366, 3) := by decide +kernel
theorem dX12_fits_57 : decode cX12_fits 57 = .ok (.ireturn, 1) := by decide +kernel
theorem dX12_fits_58 : decode cX12_fits 58 = .ok (.iload_n 3, 1) := by decide +kernel
theorem dX12_fits_59 : decode cX12_fits 59 = .ok (.iconst 1, 1) := by decide +kernel
theorem dX12_fits_60 : decode cX12_fits 60 = .ok (.if_icmp .ne 8, 3) := by decide +kernel
theorem dX12_fits_63 : decode cX12_fits 63 = .ok (.aload_n 0, 1) := by decide +kernel
theorem dX12_fits_64 : decode cX12_fits 64 = .ok (.invokevirtual 388, 3) := by decide +kernel
theorem dX12_fits_67 : decode cX12_fits 67 = .ok (.ireturn, 1) := by decide +kernel
theorem dX12_fits_68 : decode cX12_fits 68 = .ok (.iload_n 3, 1) := by decide +kernel
theorem dX12_fits_69 : decode cX12_fits 69 = .ok (.bipush 9, 2) := by decide +kernel
theorem dX12_fits_71 : decode cX12_fits 71 = .ok (.if_icmp .ge 13, 3) := by decide +kernel
theorem dX12_fits_74 : decode cX12_fits 74 = .ok (.aload_n 0, 1) := by decide +kernel
theorem dX12_fits_75 : decode cX12_fits 75 = .ok (.iload_n 3, 1) := by decide +kernel
theorem dX12_fits_76 : decode cX12_fits 76 = .ok (.iconst 2, 1) := by decide +kernel
theorem dX12_fits_77 : decode cX12_fits 77 = .ok (.isub, 1) := by decide +kernel
theorem dX12_fits_78 : decode cX12_fits 78 = .ok (.invokevirtual 391, 3) := by decide +kernel
theorem dX12_fits_81 : decode cX12_fits 81 = .ok (.goto 5, 3) := by decide +kernel
theorem dX12_fits_84 : decode cX12_fits 84 = .ok (.iload 4, 2) := by decide +kernel
theorem dX12_fits_86 : decode cX12_fits 86 = .ok (.ireturn, 1) := by decide +kernel
theorem dX12_odds_0 : decode cX12_odds 0 = .ok (.aload_n 0, 1) := by decide +kernel
theorem dX12_odds_1 : decode cX12_odds 1 = .ok (.iload_n 1, 1) := by decide +kernel
theorem dX12_odds_2 : decode cX12_odds 2 = .ok (.invokevirtual 184, 3) := by decide +kernel
theorem dX12_odds_5 : decode cX12_odds 5 = .ok (.ifCond .eq 35, 3) := by decide +kernel
theorem dX12_odds_8 : decode cX12_odds 8 = .ok (.aload_n 0, 1) := by decide +kernel
theorem dX12_odds_9 : decode cX12_odds 9 = .ok (.iload_n 2, 1) := by decide +kernel
theorem dX12_odds_10 : decode cX12_odds 10 = .ok (.invokevirtual 363, 3) := by decide +kernel
theorem dX12_odds_13 : decode cX12_odds 13 = .ok (.ifCond .eq 27, 3) := by decide +kernel
theorem dX12_odds_16 : decode cX12_odds 16 = .ok (.aload_n 0, 1) := by decide +kernel
theorem dX12_odds_17 : decode cX12_odds 17 = .ok (.iload_n 3, 1) := by decide +kernel
theorem dX12_odds_18 : decode cX12_odds 18 = .ok (.invokevirtual 187, 3) := by decide +kernel
theorem dX12_odds_21 : decode cX12_odds 21 = .ok (.ifCond .eq 19, 3) := by decide +kernel
theorem dX12_odds_24 : decode cX12_odds 24 = .ok (.iload 4, 2) := by decide +kernel
theorem dX12_odds_26 : decode cX12_odds 26 = .ok (.iconst 0, 1) := by decide +kernel
theorem dX12_odds_27 : decode cX12_odds 27 = .ok (.aload_n 0, 1) := by decide +kernel
theorem dX12_odds_28 : decode cX12_odds 28 = .ok (.iload_n 3, 1) := by decide +kernel
theorem dX12_odds_29 : decode cX12_odds 29 = .ok (.invokevirtual 181, 3) := by decide +kernel
theorem dX12_odds_32 : decode cX12_odds 32 = .ok (.iconst 1, 1) := by decide +kernel
theorem dX12_odds_33 : decode cX12_odds 33 = .ok (.isub, 1) := by decide +kernel
theorem dX12_odds_34 : decode cX12_odds 34 = .ok (.invokestatic 111, 3) := by decide +kernel
theorem dX12_odds_37 : decode cX12_odds 37 = .ok (.ifCond .ne 5, 3) := by decide +kernel
theorem dX12_odds_40 : decode cX12_odds 40 = .ok (.iconst (-1), 1) := by decide +kernel
theorem dX12_odds_41 : decode cX12_odds 41 = .ok (.ireturn, 1) := by decide +kernel
theorem dX12_odds_42 : decode cX12_odds 42 = .ok (.aload_n 0, 1) := by decide +kernel
theorem dX12_odds_43 : decode cX12_odds 43 = .ok (.bipush (-2), 2) := by decide +kernel
theorem dX12_odds_45 : decode cX12_odds 45 = .ok (.iconst 0, 1) := by decide +kernel
theorem dX12_odds_46 : decode cX12_odds 46 = .ok (.invokevirtual 385, 3) := by decide +kernel
theorem dX12_odds_49 : decode cX12_odds 49 = .ok (.pop, 1) := by decide +kernel
theorem dX12_odds_50 : decode cX12_odds 50 = .ok (.aload_n 0, 1) := by decide +kernel
theorem dX12_odds_51 : decode cX12_odds 51 = .ok (.getfield 366, 3) := by decide +kernel
theorem dX12_odds_54 : decode cX12_odds 54 = .ok (.ifCond .ne 7, 3) := by decide +kernel
theorem dX12_odds_57 : decode cX12_odds 57 = .ok (.iconst (-1), 1) := by decide +kernel
theorem dX12_odds_58 : decode cX12_odds 58 = .ok (.goto 23, 3) := by decide +kernel
theorem dX12_odds_61 : decode cX12_odds 61 = .ok (.aload_n 0, 1) := by decide +kernel
theorem dX12_odds_62 : decode cX12_odds 62 = .ok (.getfield 47, 3) := by decide +kernel
theorem dX12_odds_65 : decode cX12_odds 65 = .ok (.iconst 4, 1) := by decide +kernel
theorem dX12_odds_66 : decode cX12_odds 66 = .ok (.iload_n 3, 1) := by decide +kernel
theorem dX12_odds_67 : decode cX12_odds 67 = .ok (.imul, 1) := by decide +kernel
theorem dX12_odds_68 : decode cX12_odds 68 = .ok (.iload 4, 2) := by decide +kernel
theorem dX12_odds_70 : decode cX12_odds 70 = .ok (.iadd, 1) := by decide +kernel
theorem dX12_odds_71 : decode cX12_odds 71 = .ok (.iaload, 1) := by decide +kernel
theorem dX12_odds_72 : decode cX12_odds 72 = .ok (.aload_n 0, 1) := by decide +kernel
theorem dX12_odds_73 : decode cX12_odds 73 = .ok (.getfield 366, 3) := by decide +kernel
theorem dX12_odds_76 : decode cX12_odds 76 = .ok (.iload 5, 2) := by decide +kernel
theorem dX12_odds_78 : decode cX12_odds 78 = .ok (.invokestatic 244, 3) := by decide +kernel
theorem dX12_odds_81 : decode cX12_odds 81 = .ok (.ireturn, 1) := by decide +kernel
theorem dX12_least_0 : decode cX12_least 0 = .ok (.aload_n 0, 1) := by decide +kernel
theorem dX12_least_1 : decode cX12_least 1 = .ok (.iload_n 1, 1) := by decide +kernel
theorem dX12_least_2 : decode cX12_least 2 = .ok (.invokevirtual 184, 3) := by decide +kernel
theorem dX12_least_5 : decode cX12_least 5 = .ok (.ifCond .eq 11, 3) := by decide +kernel
theorem dX12_least_8 : decode cX12_least 8 = .ok (.aload_n 0, 1) := by decide +kernel
theorem dX12_least_9 : decode cX12_least 9 = .ok (.iload_n 2, 1) := by decide +kernel
theorem dX12_least_10 : decode cX12_least 10 = .ok (.invokevirtual 363, 3) := by decide +kernel
theorem dX12_least_13 : decode cX12_least 13 = .ok (.ifCond .ne 5, 3) := by decide +kernel
theorem dX12_least_16 : decode cX12_least 16 = .ok (.iconst (-1), 1) := by decide +kernel
theorem dX12_least_17 : decode cX12_least 17 = .ok (.ireturn, 1) := by decide +kernel
theorem dX12_least_18 : decode cX12_least 18 = .ok (.aload_n 0, 1) := by decide +kernel
theorem dX12_least_19 : decode cX12_least 19 = .ok (.bipush (-2), 2) := by decide +kernel
theorem dX12_least_21 : decode cX12_least 21 = .ok (.iconst 0, 1) := by decide +kernel
theorem dX12_least_22 : decode cX12_least 22 = .ok (.invokevirtual 385, 3) := by decide +kernel
theorem dX12_least_25 : decode cX12_least 25 = .ok (.pop, 1) := by decide +kernel
theorem dX12_least_26 : decode cX12_least 26 = .ok (.iload_n 3, 1) := by decide +kernel
theorem dX12_least_27 : decode cX12_least 27 = .ok (.ifCond .eq 10, 3) := by decide +kernel
theorem dX12_least_30 : decode cX12_least 30 = .ok (.aload_n 0, 1) := by decide +kernel
theorem dX12_least_31 : decode cX12_least 31 = .ok (.getfield 372, 3) := by decide +kernel
theorem dX12_least_34 : decode cX12_least 34 = .ok (.goto 7, 3) := by decide +kernel
theorem dX12_least_37 : decode cX12_least 37 = .ok (.aload_n 0, 1) := by decide +kernel
theorem dX12_least_38 : decode cX12_least 38 = .ok (.getfield 369, 3) := by decide +kernel
theorem dX12_least_41 : decode cX12_least 41 = .ok (.ireturn, 1) := by decide +kernel


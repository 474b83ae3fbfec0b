theorem m_co_X0_stepsOrNever : Cond.code yX0_stepsOrNever cX0_stepsOrNever 3 (some .int) ∈ zT := zmem1 zsub_5 100 (by decide +kernel) (by decide +kernel)
theorem m_ml_RX11_286 : Cond.methodLink RX11 286 yX0_stepsOrNever ∈ zT := zmem1 zsub_5 97 (by decide +kernel) (by decide +kernel)
theorem m_im_X0_stepsOrNever : Cond.instanceMethod yX0_stepsOrNever ∈ zT := zmem1 zsub_5 98 (by decide +kernel) (by decide +kernel)
theorem m_se_X0_stepsOrNever : Cond.selects RX0 yX0_stepsOrNever yX0_stepsOrNever ∈ zT := zmem1 zsub_5 99 (by decide +kernel) (by decide +kernel)
theorem m_ml_RX11_289 : Cond.methodLink RX11 289 yX0_turned ∈ zT := zmem1 zsub_5 102 (by decide +kernel) (by decide +kernel)
theorem m_co_X11_worth : Cond.code yX11_worth cX11_worth 9 (some .int) ∈ zT := zmem1 zsub_5 96 (by decide +kernel) (by decide +kernel)
theorem m_ml_RX11_278 : Cond.methodLink RX11 278 yX11_worth ∈ zT := zmem1 zsub_5 94 (by decide +kernel) (by decide +kernel)
theorem m_st_X11_worth : Cond.static yX11_worth ∈ zT := zmem1 zsub_5 95 (by decide +kernel) (by decide +kernel)
theorem kV_RX11_286 {R : Room} {s : State} {args : Array Value} {d mc ms : Nat} (hts : ∀ w ∈ zT, w.before args s = true) (h1 : d + 1 ≤ R.frames) (h2 : 8 + (3 + 11) + 40 * d ≤ R.locals) : CallW R s args RX11 RX0 286 yX0_stepsOrNever cX0_stepsOrNever 3 (some .int) (zW yX0_stepsOrNever cX0_stepsOrNever 3 (some .int)) (zR d mc ms) mc ms 2 := z_cwV hts m_co_X0_stepsOrNever m_ml_RX11_286 m_im_X0_stepsOrNever m_se_X0_stepsOrNever m_ii_RX0 (by decide +kernel) h1 h2
theorem kV_RX11_289 {R : Room} {s : State} {args : Array Value} {d mc ms : Nat} (hts : ∀ w ∈ zT, w.before args s = true) (h1 : d + 1 ≤ R.frames) (h2 : 8 + (4 + 11) + 40 * d ≤ R.locals) : CallW R s args RX11 RX0 289 yX0_turned cX0_turned 4 (some .int) (zW yX0_turned cX0_turned 4 (some .int)) (zR d mc ms) mc ms 2 := z_cwV hts m_co_X0_turned m_ml_RX11_289 m_im_X0_turned m_se_X0_turned m_ii_RX0 (by decide +kernel) h1 h2
theorem kS_RX11_278 {R : Room} {s : State} {args : Array Value} {d mc ms : Nat} (hts : ∀ w ∈ zT, w.before args s = true) (h1 : d + 1 ≤ R.frames) (h2 : 8 + (9 + 11) + 40 * d ≤ R.locals) : CallB R s args RX11 278 yX11_worth cX11_worth 9 (some .int) (zW yX11_worth cX11_worth 9 (some .int)) (zR d mc ms) mc ms 5 ∧ (Cond.static yX11_worth).before args s = true := z_cwS hts m_co_X11_worth m_ml_RX11_278 m_st_X11_worth m_ii_RX11 (by decide +kernel) h1 h2
theorem dX11_worth_0 : decode cX11_worth 0 = .ok (.iload_n 3, 1) := by decide +kernel
theorem dX11_worth_1 : decode cX11_worth 1 = .ok (.ifCond .le 8, 3) := by decide +kernel
theorem dX11_worth_4 : decode cX11_worth 4 = .ok (.iload_n 3, 1) := by decide +kernel
theorem dX11_worth_5 : decode cX11_worth 5 = .ok (.iconst 3, 1) := by decide +kernel
theorem dX11_worth_6 : decode cX11_worth 6 = .ok (.if_icmp .le 10, 3) := by decide +kernel
theorem dX11_worth_9 : decode cX11_worth 9 = .ok (.aload_n 0, 1) := by decide +kernel
theorem dX11_worth_10 : decode cX11_worth 10 = .ok (.iload_n 1, 1) := by decide +kernel
theorem dX11_worth_11 : decode cX11_worth 11 = .ok (.iload_n 2, 1) := by decide +kernel
theorem dX11_worth_12 : decode cX11_worth 12 = .ok (.invokevirtual 286, 3) := by decide +kernel
theorem dX11_worth_15 : decode cX11_worth 15 = .ok (.ireturn, 1) := by decide +kernel
theorem dX11_worth_16 : decode cX11_worth 16 = .ok (.iconst (-1), 1) := by decide +kernel
theorem dX11_worth_17 : decode cX11_worth 17 = .ok (.istore 5, 2) := by decide +kernel
theorem dX11_worth_19 : decode cX11_worth 19 = .ok (.iconst 0, 1) := by decide +kernel
theorem dX11_worth_20 : decode cX11_worth 20 = .ok (.istore 6, 2) := by decide +kernel
theorem dX11_worth_22 : decode cX11_worth 22 = .ok (.iload 6, 2) := by decide +kernel
theorem dX11_worth_24 : decode cX11_worth 24 = .ok (.bipush 7, 2) := by decide +kernel
theorem dX11_worth_26 : decode cX11_worth 26 = .ok (.if_icmp .gt 94, 3) := by decide +kernel
theorem dX11_worth_29 : decode cX11_worth 29 = .ok (.iload 6, 2) := by decide +kernel
theorem dX11_worth_31 : decode cX11_worth 31 = .ok (.bipush 7, 2) := by decide +kernel
theorem dX11_worth_33 : decode cX11_worth 33 = .ok (.if_icmp .ne 7, 3) := by decide +kernel
theorem dX11_worth_36 : decode cX11_worth 36 = .ok (.iload_n 1, 1) := by decide +kernel
theorem dX11_worth_37 : decode cX11_worth 37 = .ok (.goto 10, 3) := by decide +kernel
theorem dX11_worth_40 : decode cX11_worth 40 = .ok (.aload_n 0, 1) := by decide +kernel
theorem dX11_worth_41 : decode cX11_worth 41 = .ok (.iload_n 1, 1) := by decide +kernel
theorem dX11_worth_42 : decode cX11_worth 42 = .ok (.iload 6, 2) := by decide +kernel
theorem dX11_worth_44 : decode cX11_worth 44 = .ok (.invokevirtual 289, 3) := by decide +kernel
theorem dX11_worth_47 : decode cX11_worth 47 = .ok (.istore 7, 2) := by decide +kernel
theorem dX11_worth_49 : decode cX11_worth 49 = .ok (.iload 7, 2) := by decide +kernel
theorem dX11_worth_51 : decode cX11_worth 51 = .ok (.iconst (-1), 1) := by decide +kernel
theorem dX11_worth_52 : decode cX11_worth 52 = .ok (.if_icmp .eq 62, 3) := by decide +kernel
theorem dX11_worth_55 : decode cX11_worth 55 = .ok (.aload_n 0, 1) := by decide +kernel
theorem dX11_worth_56 : decode cX11_worth 56 = .ok (.iload 7, 2) := by decide +kernel
theorem dX11_worth_58 : decode cX11_worth 58 = .ok (.iload_n 2, 1) := by decide +kernel
theorem dX11_worth_59 : decode cX11_worth 59 = .ok (.iload_n 3, 1) := by decide +kernel
theorem dX11_worth_60 : decode cX11_worth 60 = .ok (.iconst 1, 1) := by decide +kernel
theorem dX11_worth_61 : decode cX11_worth 61 = .ok (.isub, 1) := by decide +kernel
theorem dX11_worth_62 : decode cX11_worth 62 = .ok (.iload 4, 2) := by decide +kernel
theorem dX11_worth_64 : decode cX11_worth 64 = .ok (.ifCond .ne 7, 3) := by decide +kernel
theorem dX11_worth_67 : decode cX11_worth 67 = .ok (.iconst 1, 1) := by decide +kernel
theorem dX11_worth_68 : decode cX11_worth 68 = .ok (.goto 4, 3) := by decide +kernel
theorem dX11_worth_71 : decode cX11_worth 71 = .ok (.iconst 0, 1) := by decide +kernel
theorem dX11_worth_72 : decode cX11_worth 72 = .ok (.invokestatic 278, 3) := by decide +kernel
theorem dX11_worth_75 : decode cX11_worth 75 = .ok (.istore 8, 2) := by decide +kernel
theorem dX11_worth_77 : decode cX11_worth 77 = .ok (.iload 5, 2) := by decide +kernel
theorem dX11_worth_79 : decode cX11_worth 79 = .ok (.iconst (-1), 1) := by decide +kernel
theorem dX11_worth_80 : decode cX11_worth 80 = .ok (.if_icmp .eq 25, 3) := by decide +kernel
theorem dX11_worth_83 : decode cX11_worth 83 = .ok (.iload 4, 2) := by decide +kernel
theorem dX11_worth_85 : decode cX11_worth 85 = .ok (.ifCond .eq 13, 3) := by decide +kernel
theorem dX11_worth_88 : decode cX11_worth 88 = .ok (.iload 8, 2) := by decide +kernel
theorem dX11_worth_90 : decode cX11_worth 90 = .ok (.iload 5, 2) := by decide +kernel
theorem dX11_worth_92 : decode cX11_worth 92 = .ok (.if_icmp .ge 18, 3) := by decide +kernel
theorem dX11_worth_95 : decode cX11_worth 95 = .ok (.goto 10, 3) := by decide +kernel
theorem dX11_worth_98 : decode cX11_worth 98 = .ok (.iload 8, 2) := by decide +kernel
theorem dX11_worth_100 : decode cX11_worth 100 = .ok (.iload 5, 2) := by decide +kernel
theorem dX11_worth_102 : decode cX11_worth 102 = .ok (.if_icmp .le 8, 3) := by decide +kernel
theorem dX11_worth_105 : decode cX11_worth 105 = .ok (.iload 8, 2) := by decide +kernel
theorem dX11_worth_107 : decode cX11_worth 107 = .ok (.goto 5, 3) := by decide +kernel
theorem dX11_worth_110 : decode cX11_worth 110 = .ok (.iload 5, 2) := by decide +kernel
theorem dX11_worth_112 : decode cX11_worth 112 = .ok (.istore 5, 2) := by decide +kernel
theorem dX11_worth_114 : decode cX11_worth 114 = .ok (.iinc 6 1, 3) := by decide +kernel
theorem dX11_worth_117 : decode cX11_worth 117 = .ok (.goto (-95), 3) := by decide +kernel
theorem dX11_worth_120 : decode cX11_worth 120 = .ok (.iload 5, 2) := by decide +kernel
theorem dX11_worth_122 : decode cX11_worth 122 = .ok (.ireturn, 1) := by decide +kernel
theorem dX11_bestTurn_0 : decode cX11_bestTurn 0 = .ok (.iconst 0, 1) := by decide +kernel
theorem dX11_bestTurn_1 : decode cX11_bestTurn 1 = .ok (.istore 5, 2) := by decide +kernel
theorem dX11_bestTurn_3 : decode cX11_bestTurn 3 = .ok (.iload 5, 2) := by decide +kernel
theorem dX11_bestTurn_5 : decode cX11_bestTurn 5 = .ok (.bipush 7, 2) := by decide +kernel
theorem dX11_bestTurn_7 : decode cX11_bestTurn 7 = .ok (.if_icmp .ge 43, 3) := by decide +kernel
theorem dX11_bestTurn_10 : decode cX11_bestTurn 10 = .ok (.aload_n 0, 1) := by decide +kernel
theorem dX11_bestTurn_11 : decode cX11_bestTurn 11 = .ok (.iload_n 1, 1) := by decide +kernel
theorem dX11_bestTurn_12 : decode cX11_bestTurn 12 = .ok (.iload 5, 2) := by decide +kernel
theorem dX11_bestTurn_14 : decode cX11_bestTurn 14 = .ok (.invokevirtual 289, 3) := by decide +kernel
theorem dX11_bestTurn_17 : decode cX11_bestTurn 17 = .ok (.istore 6, 2) := by decide +kernel
theorem dX11_bestTurn_19 : decode cX11_bestTurn 19 = .ok (.iload 6, 2) := by decide +kernel
theorem dX11_bestTurn_21 : decode cX11_bestTurn 21 = .ok (.iconst (-1), 1) := by decide +kernel
theorem dX11_bestTurn_22 : decode cX11_bestTurn 22 = .ok (.if_icmp .eq 22, 3) := by decide +kernel
theorem dX11_bestTurn_25 : decode cX11_bestTurn 25 = .ok (.aload_n 0, 1) := by decide +kernel
theorem dX11_bestTurn_26 : decode cX11_bestTurn 26 = .ok (.iload 6, 2) := by decide +kernel
theorem dX11_bestTurn_28 : decode cX11_bestTurn 28 = .ok (.iload_n 2, 1) := by decide +kernel
theorem dX11_bestTurn_29 : decode cX11_bestTurn 29 = .ok (.iload_n 3, 1) := by decide +kernel
theorem dX11_bestTurn_30 : decode cX11_bestTurn 30 = .ok (.iconst 1, 1) := by decide +kernel
theorem dX11_bestTurn_31 : decode cX11_bestTurn 31 = .ok (.isub, 1) := by decide +kernel
theorem dX11_bestTurn_32 : decode cX11_bestTurn 32 = .ok (.iconst 0, 1) := by decide +kernel
theorem dX11_bestTurn_33 : decode cX11_bestTurn 33 = .ok (.invokestatic 278, 3) := by decide +kernel
theorem dX11_bestTurn_36 : decode cX11_bestTurn 36 = .ok (.iload 4, 2) := by decide +kernel
theorem dX11_bestTurn_38 : decode cX11_bestTurn 38 = .ok (.if_icmp .ne 6, 3) := by decide +kernel
theorem dX11_bestTurn_41 : decode cX11_bestTurn 41 = .ok (.iload 5, 2) := by decide +kernel
theorem dX11_bestTurn_43 : decode cX11_bestTurn 43 = .ok (.ireturn, 1) := by decide +kernel
theorem dX11_bestTurn_44 : decode cX11_bestTurn 44 = .ok (.iinc 5 1, 3) := by decide +kernel
theorem dX11_bestTurn_47 : decode cX11_bestTurn 47 = .ok (.goto (-44), 3) := by decide +kernel
theorem dX11_bestTurn_50 : decode cX11_bestTurn 50 = .ok (.bipush 7, 2) := by decide +kernel
theorem dX11_bestTurn_52 : decode cX11_bestTurn 52 = .ok (.ireturn, 1) := by decide +kernel


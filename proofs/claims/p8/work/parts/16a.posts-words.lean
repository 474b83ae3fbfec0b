theorem m_fl_RX6_28 : Cond.fieldLink RX6 28 (TX6 3).1 (TX6 3).2.1 (TX6 3).2.2.1 ∈ zT := zmem1 zsub_1 233 (by decide +kernel) (by decide +kernel)
theorem m_fl_RX6_32 : Cond.fieldLink RX6 32 (TX6 4).1 (TX6 4).2.1 (TX6 4).2.2.1 ∈ zT := zmem1 zsub_1 235 (by decide +kernel) (by decide +kernel)
theorem m_fl_RX6_35 : Cond.fieldLink RX6 35 (TX4 4).1 (TX4 4).2.1 (TX4 4).2.2.1 ∈ zT := zmem1 zsub_1 57 (by decide +kernel) (by decide +kernel)
theorem m_co_X4_waysOut : Cond.code yX4_waysOut cX4_waysOut 2 (some .int) ∈ zT := zmem1 zsub_4 12 (by decide +kernel) (by decide +kernel)
theorem m_ml_RX6_36 : Cond.methodLink RX6 36 yX4_waysOut ∈ zT := zmem1 zsub_4 9 (by decide +kernel) (by decide +kernel)
theorem m_im_X4_waysOut : Cond.instanceMethod yX4_waysOut ∈ zT := zmem1 zsub_4 10 (by decide +kernel) (by decide +kernel)
theorem m_se_X4_waysOut : Cond.selects RX4 yX4_waysOut yX4_waysOut ∈ zT := zmem1 zsub_4 11 (by decide +kernel) (by decide +kernel)
theorem m_ml_RX6_39 : Cond.methodLink RX6 39 yX4_hasRoad ∈ zT := zmem1 zsub_4 66 (by decide +kernel) (by decide +kernel)
theorem m_co_X6_turn : Cond.code yX6_turn cX6_turn 6 (some .int) ∈ zT := zmem1 zsub_4 38 (by decide +kernel) (by decide +kernel)
theorem m_ml_RX6_43 : Cond.methodLink RX6 43 yX6_turn ∈ zT := zmem1 zsub_4 35 (by decide +kernel) (by decide +kernel)
theorem m_im_X6_turn : Cond.instanceMethod yX6_turn ∈ zT := zmem1 zsub_4 36 (by decide +kernel) (by decide +kernel)
theorem m_se_X6_turn : Cond.selects RX6 yX6_turn yX6_turn ∈ zT := zmem1 zsub_4 37 (by decide +kernel) (by decide +kernel)
theorem m_fl_RX6_46 : Cond.fieldLink RX6 46 (TX4 3).1 (TX4 3).2.1 (TX4 3).2.2.1 ∈ zT := zmem1 zsub_1 55 (by decide +kernel) (by decide +kernel)
theorem m_co_X6_step : Cond.code yX6_step cX6_step 4 (some .int) ∈ zT := zmem1 zsub_4 34 (by decide +kernel) (by decide +kernel)
theorem m_ml_RX6_49 : Cond.methodLink RX6 49 yX6_step ∈ zT := zmem1 zsub_4 51 (by decide +kernel) (by decide +kernel)
theorem m_im_X6_step : Cond.instanceMethod yX6_step ∈ zT := zmem1 zsub_4 32 (by decide +kernel) (by decide +kernel)
theorem m_se_X6_step : Cond.selects RX6 yX6_step yX6_step ∈ zT := zmem1 zsub_4 33 (by decide +kernel) (by decide +kernel)
theorem kV_RX6_36 {R : Room} {s : State} {args : Array Value} {d mc ms : Nat} (hts : ∀ w ∈ zT, w.before args s = true) (h1 : d + 1 ≤ R.frames) (h2 : 8 + (2 + 11) + 40 * d ≤ R.locals) : CallW R s args RX6 RX4 36 yX4_waysOut cX4_waysOut 2 (some .int) (zW yX4_waysOut cX4_waysOut 2 (some .int)) (zR d mc ms) mc ms 1 := z_cwV hts m_co_X4_waysOut m_ml_RX6_36 m_im_X4_waysOut m_se_X4_waysOut m_ii_RX4 (by decide +kernel) h1 h2
theorem kV_RX6_39 {R : Room} {s : State} {args : Array Value} {d mc ms : Nat} (hts : ∀ w ∈ zT, w.before args s = true) (h1 : d + 1 ≤ R.frames) (h2 : 8 + (3 + 11) + 40 * d ≤ R.locals) : CallW R s args RX6 RX4 39 yX4_hasRoad cX4_hasRoad 3 (some .boolean) (zW yX4_hasRoad cX4_hasRoad 3 (some .boolean)) (zR d mc ms) mc ms 2 := z_cwV hts m_co_X4_hasRoad m_ml_RX6_39 m_im_X4_hasRoad m_se_X4_hasRoad m_ii_RX4 (by decide +kernel) h1 h2
theorem kV_RX6_43 {R : Room} {s : State} {args : Array Value} {d mc ms : Nat} (hts : ∀ w ∈ zT, w.before args s = true) (h1 : d + 1 ≤ R.frames) (h2 : 8 + (6 + 11) + 40 * d ≤ R.locals) : CallW R s args RX6 RX6 43 yX6_turn cX6_turn 6 (some .int) (zW yX6_turn cX6_turn 6 (some .int)) (zR d mc ms) mc ms 1 := z_cwV hts m_co_X6_turn m_ml_RX6_43 m_im_X6_turn m_se_X6_turn m_ii_RX6 (by decide +kernel) h1 h2
theorem kV_RX6_49 {R : Room} {s : State} {args : Array Value} {d mc ms : Nat} (hts : ∀ w ∈ zT, w.before args s = true) (h1 : d + 1 ≤ R.frames) (h2 : 8 + (4 + 11) + 40 * d ≤ R.locals) : CallW R s args RX6 RX6 49 yX6_step cX6_step 4 (some .int) (zW yX6_step cX6_step 4 (some .int)) (zR d mc ms) mc ms 1 := z_cwV hts m_co_X6_step m_ml_RX6_49 m_im_X6_step m_se_X6_step m_ii_RX6 (by decide +kernel) h1 h2
theorem dX6_begin_0 : decode cX6_begin 0 = .ok (.aload_n 0, 1) := by decide +kernel
theorem dX6_begin_1 : decode cX6_begin 1 = .ok (.aload_n 1, 1) := by decide +kernel
theorem dX6_begin_2 : decode cX6_begin 2 = .ok (.putfield 12, 3) := by decide +kernel
theorem dX6_begin_5 : decode cX6_begin 5 = .ok (.aload_n 0, 1) := by decide +kernel
theorem dX6_begin_6 : decode cX6_begin 6 = .ok (.iconst 0, 1) := by decide +kernel
theorem dX6_begin_7 : decode cX6_begin 7 = .ok (.putfield 28, 3) := by decide +kernel
theorem dX6_begin_10 : decode cX6_begin 10 = .ok (.aload_n 0, 1) := by decide +kernel
theorem dX6_begin_11 : decode cX6_begin 11 = .ok (.iconst 0, 1) := by decide +kernel
theorem dX6_begin_12 : decode cX6_begin 12 = .ok (.putfield 32, 3) := by decide +kernel
theorem dX6_begin_15 : decode cX6_begin 15 = .ok (.iconst 0, 1) := by decide +kernel
theorem dX6_begin_16 : decode cX6_begin 16 = .ok (.istore_n 2, 1) := by decide +kernel
theorem dX6_begin_17 : decode cX6_begin 17 = .ok (.iload_n 2, 1) := by decide +kernel
theorem dX6_begin_18 : decode cX6_begin 18 = .ok (.bipush 7, 2) := by decide +kernel
theorem dX6_begin_20 : decode cX6_begin 20 = .ok (.if_icmp .ge 39, 3) := by decide +kernel
theorem dX6_begin_23 : decode cX6_begin 23 = .ok (.aload_n 0, 1) := by decide +kernel
theorem dX6_begin_24 : decode cX6_begin 24 = .ok (.getfield 18, 3) := by decide +kernel
theorem dX6_begin_27 : decode cX6_begin 27 = .ok (.iload_n 2, 1) := by decide +kernel
theorem dX6_begin_28 : decode cX6_begin 28 = .ok (.aload_n 1, 1) := by decide +kernel
theorem dX6_begin_29 : decode cX6_begin 29 = .ok (.getfield 35, 3) := by decide +kernel
theorem dX6_begin_32 : decode cX6_begin 32 = .ok (.iload_n 2, 1) := by decide +kernel
theorem dX6_begin_33 : decode cX6_begin 33 = .ok (.iaload, 1) := by decide +kernel
theorem dX6_begin_34 : decode cX6_begin 34 = .ok (.iastore, 1) := by decide +kernel
theorem dX6_begin_35 : decode cX6_begin 35 = .ok (.aload_n 0, 1) := by decide +kernel
theorem dX6_begin_36 : decode cX6_begin 36 = .ok (.getfield 22, 3) := by decide +kernel
theorem dX6_begin_39 : decode cX6_begin 39 = .ok (.iload_n 2, 1) := by decide +kernel
theorem dX6_begin_40 : decode cX6_begin 40 = .ok (.iconst 0, 1) := by decide +kernel
theorem dX6_begin_41 : decode cX6_begin 41 = .ok (.iastore, 1) := by decide +kernel
theorem dX6_begin_42 : decode cX6_begin 42 = .ok (.aload_n 0, 1) := by decide +kernel
theorem dX6_begin_43 : decode cX6_begin 43 = .ok (.getfield 25, 3) := by decide +kernel
theorem dX6_begin_46 : decode cX6_begin 46 = .ok (.iload_n 2, 1) := by decide +kernel
theorem dX6_begin_47 : decode cX6_begin 47 = .ok (.aload_n 1, 1) := by decide +kernel
theorem dX6_begin_48 : decode cX6_begin 48 = .ok (.iload_n 2, 1) := by decide +kernel
theorem dX6_begin_49 : decode cX6_begin 49 = .ok (.invokevirtual 36, 3) := by decide +kernel
theorem dX6_begin_52 : decode cX6_begin 52 = .ok (.iastore, 1) := by decide +kernel
theorem dX6_begin_53 : decode cX6_begin 53 = .ok (.iinc 2 1, 3) := by decide +kernel
theorem dX6_begin_56 : decode cX6_begin 56 = .ok (.goto (-39), 3) := by decide +kernel
theorem dX6_begin_59 : decode cX6_begin 59 = .ok (.return_, 1) := by decide +kernel
theorem dX6_isShut_0 : decode cX6_isShut 0 = .ok (.aload_n 0, 1) := by decide +kernel
theorem dX6_isShut_1 : decode cX6_isShut 1 = .ok (.getfield 12, 3) := by decide +kernel
theorem dX6_isShut_4 : decode cX6_isShut 4 = .ok (.iload_n 1, 1) := by decide +kernel
theorem dX6_isShut_5 : decode cX6_isShut 5 = .ok (.iload_n 2, 1) := by decide +kernel
theorem dX6_isShut_6 : decode cX6_isShut 6 = .ok (.invokevirtual 39, 3) := by decide +kernel
theorem dX6_isShut_9 : decode cX6_isShut 9 = .ok (.ifCond .eq 20, 3) := by decide +kernel
theorem dX6_isShut_12 : decode cX6_isShut 12 = .ok (.aload_n 0, 1) := by decide +kernel
theorem dX6_isShut_13 : decode cX6_isShut 13 = .ok (.getfield 22, 3) := by decide +kernel
theorem dX6_isShut_16 : decode cX6_isShut 16 = .ok (.iload_n 1, 1) := by decide +kernel
theorem dX6_isShut_17 : decode cX6_isShut 17 = .ok (.iaload, 1) := by decide +kernel
theorem dX6_isShut_18 : decode cX6_isShut 18 = .ok (.iload_n 2, 1) := by decide +kernel
theorem dX6_isShut_19 : decode cX6_isShut 19 = .ok (.ishr, 1) := by decide +kernel
theorem dX6_isShut_20 : decode cX6_isShut 20 = .ok (.iconst 1, 1) := by decide +kernel
theorem dX6_isShut_21 : decode cX6_isShut 21 = .ok (.iand, 1) := by decide +kernel
theorem dX6_isShut_22 : decode cX6_isShut 22 = .ok (.ifCond .eq 7, 3) := by decide +kernel
theorem dX6_isShut_25 : decode cX6_isShut 25 = .ok (.iconst 1, 1) := by decide +kernel
theorem dX6_isShut_26 : decode cX6_isShut 26 = .ok (.goto 4, 3) := by decide +kernel
theorem dX6_isShut_29 : decode cX6_isShut 29 = .ok (.iconst 0, 1) := by decide +kernel
theorem dX6_isShut_30 : decode cX6_isShut 30 = .ok (.ireturn, 1) := by decide +kernel
theorem dX6_shutRoad_0 : decode cX6_shutRoad 0 = .ok (.aload_n 0, 1) := by decide +kernel
theorem dX6_shutRoad_1 : decode cX6_shutRoad 1 = .ok (.getfield 12, 3) := by decide +kernel
theorem dX6_shutRoad_4 : decode cX6_shutRoad 4 = .ok (.iload_n 1, 1) := by decide +kernel
theorem dX6_shutRoad_5 : decode cX6_shutRoad 5 = .ok (.iload_n 2, 1) := by decide +kernel
theorem dX6_shutRoad_6 : decode cX6_shutRoad 6 = .ok (.invokevirtual 39, 3) := by decide +kernel
theorem dX6_shutRoad_9 : decode cX6_shutRoad 9 = .ok (.ifCond .eq 15, 3) := by decide +kernel
theorem dX6_shutRoad_12 : decode cX6_shutRoad 12 = .ok (.aload_n 0, 1) := by decide +kernel
theorem dX6_shutRoad_13 : decode cX6_shutRoad 13 = .ok (.getfield 22, 3) := by decide +kernel
theorem dX6_shutRoad_16 : decode cX6_shutRoad 16 = .ok (.iload_n 1, 1) := by decide +kernel
theorem dX6_shutRoad_17 : decode cX6_shutRoad 17 = .ok (.dup2, 1) := by decide +kernel
theorem dX6_shutRoad_18 : decode cX6_shutRoad 18 = .ok (.iaload, 1) := by decide +kernel
theorem dX6_shutRoad_19 : decode cX6_shutRoad 19 = .ok (.iconst 1, 1) := by decide +kernel
theorem dX6_shutRoad_20 : decode cX6_shutRoad 20 = .ok (.iload_n 2, 1) := by decide +kernel
theorem dX6_shutRoad_21 : decode cX6_shutRoad 21 = .ok (.ishl, 1) := by decide +kernel
theorem dX6_shutRoad_22 : decode cX6_shutRoad 22 = .ok (.ior, 1) := by decide +kernel
theorem dX6_shutRoad_23 : decode cX6_shutRoad 23 = .ok (.iastore, 1) := by decide +kernel
theorem dX6_shutRoad_24 : decode cX6_shutRoad 24 = .ok (.return_, 1) := by decide +kernel
theorem dX6_openRoad_0 : decode cX6_openRoad 0 = .ok (.aload_n 0, 1) := by decide +kernel
theorem dX6_openRoad_1 : decode cX6_openRoad 1 = .ok (.getfield 12, 3) := by decide +kernel
theorem dX6_openRoad_4 : decode cX6_openRoad 4 = .ok (.iload_n 1, 1) := by decide +kernel
theorem dX6_openRoad_5 : decode cX6_openRoad 5 = .ok (.iload_n 2, 1) := by decide +kernel
theorem dX6_openRoad_6 : decode cX6_openRoad 6 = .ok (.invokevirtual 39, 3) := by decide +kernel
theorem dX6_openRoad_9 : decode cX6_openRoad 9 = .ok (.ifCond .eq 17, 3) := by decide +kernel
theorem dX6_openRoad_12 : decode cX6_openRoad 12 = .ok (.aload_n 0, 1) := by decide +kernel
theorem dX6_openRoad_13 : decode cX6_openRoad 13 = .ok (.getfield 22, 3) := by decide +kernel
theorem dX6_openRoad_16 : decode cX6_openRoad 16 = .ok (.iload_n 1, 1) := by decide +kernel
theorem dX6_openRoad_17 : decode cX6_openRoad 17 = .ok (.dup2, 1) := by decide +kernel
theorem dX6_openRoad_18 : decode cX6_openRoad 18 = .ok (.iaload, 1) := by decide +kernel
theorem dX6_openRoad_19 : decode cX6_openRoad 19 = .ok (.iconst 1, 1) := by decide +kernel
theorem dX6_openRoad_20 : decode cX6_openRoad 20 = .ok (.iload_n 2, 1) := by decide +kernel
theorem dX6_openRoad_21 : decode cX6_openRoad 21 = .ok (.ishl, 1) := by decide +kernel
theorem dX6_openRoad_22 : decode cX6_openRoad 22 = .ok (.iconst (-1), 1) := by decide +kernel
theorem dX6_openRoad_23 : decode cX6_openRoad 23 = .ok (.ixor, 1) := by decide +kernel
theorem dX6_openRoad_24 : decode cX6_openRoad 24 = .ok (.iand, 1) := by decide +kernel
theorem dX6_openRoad_25 : decode cX6_openRoad 25 = .ok (.iastore, 1) := by decide +kernel
theorem dX6_openRoad_26 : decode cX6_openRoad 26 = .ok (.return_, 1) := by decide +kernel
theorem dX6_turn_0 : decode cX6_turn 0 = .ok (.iload_n 1, 1) := by decide +kernel
theorem dX6_turn_1 : decode cX6_turn 1 = .ok (.ifCond .lt 9, 3) := by decide +kernel
theorem dX6_turn_4 : decode cX6_turn 4 = .ok (.iload_n 1, 1) := by decide +kernel
theorem dX6_turn_5 : decode cX6_turn 5 = .ok (.bipush 7, 2) := by decide +kernel
theorem dX6_turn_7 : decode cX6_turn 7 = .ok (.if_icmp .lt 5, 3) := by decide +kernel
theorem dX6_turn_10 : decode cX6_turn 10 = .ok (.iconst (-1), 1) := by decide +kernel
theorem dX6_turn_11 : decode cX6_turn 11 = .ok (.ireturn, 1) := by decide +kernel
theorem dX6_turn_12 : decode cX6_turn 12 = .ok (.aload_n 0, 1) := by decide +kernel
theorem dX6_turn_13 : decode cX6_turn 13 = .ok (.getfield 25, 3) := by decide +kernel
theorem dX6_turn_16 : decode cX6_turn 16 = .ok (.iload_n 1, 1) := by decide +kernel
theorem dX6_turn_17 : decode cX6_turn 17 = .ok (.iaload, 1) := by decide +kernel
theorem dX6_turn_18 : decode cX6_turn 18 = .ok (.istore_n 2, 1) := by decide +kernel
theorem dX6_turn_19 : decode cX6_turn 19 = .ok (.aload_n 0, 1) := by decide +kernel
theorem dX6_turn_20 : decode cX6_turn 20 = .ok (.getfield 22, 3) := by decide +kernel
theorem dX6_turn_23 : decode cX6_turn 23 = .ok (.iload_n 1, 1) := by decide +kernel
theorem dX6_turn_24 : decode cX6_turn 24 = .ok (.iaload, 1) := by decide +kernel
theorem dX6_turn_25 : decode cX6_turn 25 = .ok (.istore_n 3, 1) := by decide +kernel
theorem dX6_turn_26 : decode cX6_turn 26 = .ok (.aload_n 0, 1) := by decide +kernel
theorem dX6_turn_27 : decode cX6_turn 27 = .ok (.getfield 18, 3) := by decide +kernel
theorem dX6_turn_30 : decode cX6_turn 30 = .ok (.iload_n 1, 1) := by decide +kernel
theorem dX6_turn_31 : decode cX6_turn 31 = .ok (.iaload, 1) := by decide +kernel
theorem dX6_turn_32 : decode cX6_turn 32 = .ok (.istore 4, 2) := by decide +kernel
theorem dX6_turn_34 : decode cX6_turn 34 = .ok (.iconst 0, 1) := by decide +kernel
theorem dX6_turn_35 : decode cX6_turn 35 = .ok (.istore 5, 2) := by decide +kernel
theorem dX6_turn_37 : decode cX6_turn 37 = .ok (.iload 5, 2) := by decide +kernel
theorem dX6_turn_39 : decode cX6_turn 39 = .ok (.iload_n 2, 1) := by decide +kernel
theorem dX6_turn_40 : decode cX6_turn 40 = .ok (.if_icmp .ge 47, 3) := by decide +kernel
theorem dX6_turn_43 : decode cX6_turn 43 = .ok (.iload 4, 2) := by decide +kernel
theorem dX6_turn_45 : decode cX6_turn 45 = .ok (.iconst 1, 1) := by decide +kernel
theorem dX6_turn_46 : decode cX6_turn 46 = .ok (.iadd, 1) := by decide +kernel
theorem dX6_turn_47 : decode cX6_turn 47 = .ok (.iload_n 2, 1) := by decide +kernel
theorem dX6_turn_48 : decode cX6_turn 48 = .ok (.if_icmp .ge 10, 3) := by decide +kernel
theorem dX6_turn_51 : decode cX6_turn 51 = .ok (.iload 4, 2) := by decide +kernel
theorem dX6_turn_53 : decode cX6_turn 53 = .ok (.iconst 1, 1) := by decide +kernel
theorem dX6_turn_54 : decode cX6_turn 54 = .ok (.iadd, 1) := by decide +kernel
theorem dX6_turn_55 : decode cX6_turn 55 = .ok (.goto 4, 3) := by decide +kernel
theorem dX6_turn_58 : decode cX6_turn 58 = .ok (.iconst 0, 1) := by decide +kernel
theorem dX6_turn_59 : decode cX6_turn 59 = .ok (.istore 4, 2) := by decide +kernel
theorem dX6_turn_61 : decode cX6_turn 61 = .ok (.iload_n 3, 1) := by decide +kernel
theorem dX6_turn_62 : decode cX6_turn 62 = .ok (.iload 4, 2) := by decide +kernel
theorem dX6_turn_64 : decode cX6_turn 64 = .ok (.ishr, 1) := by decide +kernel
theorem dX6_turn_65 : decode cX6_turn 65 = .ok (.iconst 1, 1) := by decide +kernel
theorem dX6_turn_66 : decode cX6_turn 66 = .ok (.iand, 1) := by decide +kernel
theorem dX6_turn_67 : decode cX6_turn 67 = .ok (.ifCond .ne 14, 3) := by decide +kernel
theorem dX6_turn_70 : decode cX6_turn 70 = .ok (.aload_n 0, 1) := by decide +kernel
theorem dX6_turn_71 : decode cX6_turn 71 = .ok (.getfield 18, 3) := by decide +kernel
theorem dX6_turn_74 : decode cX6_turn 74 = .ok (.iload_n 1, 1) := by decide +kernel
theorem dX6_turn_75 : decode cX6_turn 75 = .ok (.iload 4, 2) := by decide +kernel
theorem dX6_turn_77 : decode cX6_turn 77 = .ok (.iastore, 1) := by decide +kernel
theorem dX6_turn_78 : decode cX6_turn 78 = .ok (.iload 4, 2) := by decide +kernel
theorem dX6_turn_80 : decode cX6_turn 80 = .ok (.ireturn, 1) := by decide +kernel
theorem dX6_turn_81 : decode cX6_turn 81 = .ok (.iinc 5 1, 3) := by decide +kernel
theorem dX6_turn_84 : decode cX6_turn 84 = .ok (.goto (-47), 3) := by decide +kernel
theorem dX6_turn_87 : decode cX6_turn 87 = .ok (.iconst (-1), 1) := by decide +kernel
theorem dX6_turn_88 : decode cX6_turn 88 = .ok (.ireturn, 1) := by decide +kernel
theorem dX6_step_0 : decode cX6_step 0 = .ok (.aload_n 0, 1) := by decide +kernel
theorem dX6_step_1 : decode cX6_step 1 = .ok (.iload_n 1, 1) := by decide +kernel
theorem dX6_step_2 : decode cX6_step 2 = .ok (.invokevirtual 43, 3) := by decide +kernel
theorem dX6_step_5 : decode cX6_step 5 = .ok (.istore_n 2, 1) := by decide +kernel
theorem dX6_step_6 : decode cX6_step 6 = .ok (.iload_n 1, 1) := by decide +kernel
theorem dX6_step_7 : decode cX6_step 7 = .ok (.iconst 4, 1) := by decide +kernel
theorem dX6_step_8 : decode cX6_step 8 = .ok (.imul, 1) := by decide +kernel
theorem dX6_step_9 : decode cX6_step 9 = .ok (.iload_n 2, 1) := by decide +kernel
theorem dX6_step_10 : decode cX6_step 10 = .ok (.iadd, 1) := by decide +kernel
theorem dX6_step_11 : decode cX6_step 11 = .ok (.istore_n 3, 1) := by decide +kernel
theorem dX6_step_12 : decode cX6_step 12 = .ok (.iload_n 2, 1) := by decide +kernel
theorem dX6_step_13 : decode cX6_step 13 = .ok (.ifCond .lt 21, 3) := by decide +kernel
theorem dX6_step_16 : decode cX6_step 16 = .ok (.iload_n 3, 1) := by decide +kernel
theorem dX6_step_17 : decode cX6_step 17 = .ok (.bipush 28, 2) := by decide +kernel
theorem dX6_step_19 : decode cX6_step 19 = .ok (.if_icmp .ge 15, 3) := by decide +kernel
theorem dX6_step_22 : decode cX6_step 22 = .ok (.aload_n 0, 1) := by decide +kernel
theorem dX6_step_23 : decode cX6_step 23 = .ok (.getfield 12, 3) := by decide +kernel
theorem dX6_step_26 : decode cX6_step 26 = .ok (.getfield 46, 3) := by decide +kernel
theorem dX6_step_29 : decode cX6_step 29 = .ok (.iload_n 3, 1) := by decide +kernel
theorem dX6_step_30 : decode cX6_step 30 = .ok (.iaload, 1) := by decide +kernel
theorem dX6_step_31 : decode cX6_step 31 = .ok (.goto 4, 3) := by decide +kernel
theorem dX6_step_34 : decode cX6_step 34 = .ok (.iconst (-1), 1) := by decide +kernel
theorem dX6_step_35 : decode cX6_step 35 = .ok (.ireturn, 1) := by decide +kernel
theorem dX6_run_0 : decode cX6_run 0 = .ok (.aload_n 0, 1) := by decide +kernel
theorem dX6_run_1 : decode cX6_run 1 = .ok (.iload_n 1, 1) := by decide +kernel
theorem dX6_run_2 : decode cX6_run 2 = .ok (.putfield 32, 3) := by decide +kernel
theorem dX6_run_5 : decode cX6_run 5 = .ok (.aload_n 0, 1) := by decide +kernel
theorem dX6_run_6 : decode cX6_run 6 = .ok (.iconst 0, 1) := by decide +kernel
theorem dX6_run_7 : decode cX6_run 7 = .ok (.putfield 28, 3) := by decide +kernel
theorem dX6_run_10 : decode cX6_run 10 = .ok (.iconst 0, 1) := by decide +kernel
theorem dX6_run_11 : decode cX6_run 11 = .ok (.istore_n 2, 1) := by decide +kernel
theorem dX6_run_12 : decode cX6_run 12 = .ok (.iload_n 2, 1) := by decide +kernel
theorem dX6_run_13 : decode cX6_run 13 = .ok (.sipush 499, 3) := by decide +kernel
theorem dX6_run_16 : decode cX6_run 16 = .ok (.if_icmp .ge 39, 3) := by decide +kernel
theorem dX6_run_19 : decode cX6_run 19 = .ok (.aload_n 0, 1) := by decide +kernel
theorem dX6_run_20 : decode cX6_run 20 = .ok (.aload_n 0, 1) := by decide +kernel
theorem dX6_run_21 : decode cX6_run 21 = .ok (.getfield 32, 3) := by decide +kernel
theorem dX6_run_24 : decode cX6_run 24 = .ok (.invokevirtual 49, 3) := by decide +kernel
theorem dX6_run_27 : decode cX6_run 27 = .ok (.istore_n 3, 1) := by decide +kernel
theorem dX6_run_28 : decode cX6_run 28 = .ok (.iload_n 3, 1) := by decide +kernel
theorem dX6_run_29 : decode cX6_run 29 = .ok (.iconst (-1), 1) := by decide +kernel
theorem dX6_run_30 : decode cX6_run 30 = .ok (.if_icmp .ne 4, 3) := by decide +kernel
theorem dX6_run_33 : decode cX6_run 33 = .ok (.return_, 1) := by decide +kernel
theorem dX6_run_34 : decode cX6_run 34 = .ok (.aload_n 0, 1) := by decide +kernel
theorem dX6_run_35 : decode cX6_run 35 = .ok (.iload_n 3, 1) := by decide +kernel
theorem dX6_run_36 : decode cX6_run 36 = .ok (.putfield 32, 3) := by decide +kernel
theorem dX6_run_39 : decode cX6_run 39 = .ok (.aload_n 0, 1) := by decide +kernel
theorem dX6_run_40 : decode cX6_run 40 = .ok (.dup, 1) := by decide +kernel
theorem dX6_run_41 : decode cX6_run 41 = .ok (.getfield 28, 3) := by decide +kernel
theorem dX6_run_44 : decode cX6_run 44 = .ok (.iconst 1, 1) := by decide +kernel
theorem dX6_run_45 : decode cX6_run 45 = .ok (.iadd, 1) := by decide +kernel
theorem dX6_run_46 : decode cX6_run 46 = .ok (.putfield 28, 3) := by decide +kernel
theorem dX6_run_49 : decode cX6_run 49 = .ok (.iinc 2 1, 3) := by decide +kernel
theorem dX6_run_52 : decode cX6_run 52 = .ok (.goto (-40), 3) := by decide +kernel
theorem dX6_run_55 : decode cX6_run 55 = .ok (.return_, 1) := by decide +kernel
theorem dX6_code_0 : decode cX6_code 0 = .ok (.iconst 0, 1) := by decide +kernel
theorem dX6_code_1 : decode cX6_code 1 = .ok (.istore_n 1, 1) := by decide +kernel
theorem dX6_code_2 : decode cX6_code 2 = .ok (.iconst 0, 1) := by decide +kernel
theorem dX6_code_3 : decode cX6_code 3 = .ok (.istore_n 2, 1) := by decide +kernel
theorem dX6_code_4 : decode cX6_code 4 = .ok (.iload_n 2, 1) := by decide +kernel
theorem dX6_code_5 : decode cX6_code 5 = .ok (.bipush 7, 2) := by decide +kernel
theorem dX6_code_7 : decode cX6_code 7 = .ok (.if_icmp .ge 20, 3) := by decide +kernel
theorem dX6_code_10 : decode cX6_code 10 = .ok (.iload_n 1, 1) := by decide +kernel
theorem dX6_code_11 : decode cX6_code 11 = .ok (.iconst 4, 1) := by decide +kernel
theorem dX6_code_12 : decode cX6_code 12 = .ok (.imul, 1) := by decide +kernel
theorem dX6_code_13 : decode cX6_code 13 = .ok (.aload_n 0, 1) := by decide +kernel
theorem dX6_code_14 : decode cX6_code 14 = .ok (.getfield 18, 3) := by decide +kernel
theorem dX6_code_17 : decode cX6_code 17 = .ok (.iload_n 2, 1) := by decide +kernel
theorem dX6_code_18 : decode cX6_code 18 = .ok (.iaload, 1) := by decide +kernel
theorem dX6_code_19 : decode cX6_code 19 = .ok (.iadd, 1) := by decide +kernel
theorem dX6_code_20 : decode cX6_code 20 = .ok (.istore_n 1, 1) := by decide +kernel
theorem dX6_code_21 : decode cX6_code 21 = .ok (.iinc 2 1, 3) := by decide +kernel
theorem dX6_code_24 : decode cX6_code 24 = .ok (.goto (-20), 3) := by decide +kernel
theorem dX6_code_27 : decode cX6_code 27 = .ok (.iload_n 1, 1) := by decide +kernel
theorem dX6_code_28 : decode cX6_code 28 = .ok (.ireturn, 1) := by decide +kernel


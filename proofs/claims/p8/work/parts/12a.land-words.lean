theorem m_fl_RX4_24 : Cond.fieldLink RX4 24 (TX4 0).1 (TX4 0).2.1 (TX4 0).2.2.1 ∈ zT := zmem1 zsub_1 41 (by decide +kernel) (by decide +kernel)
theorem m_co_X4_has : Cond.code yX4_has cX4_has 2 (some .boolean) ∈ zT := zmem1 zsub_3 133 (by decide +kernel) (by decide +kernel)
theorem m_ml_RX4_31 : Cond.methodLink RX4 31 yX4_has ∈ zT := zmem1 zsub_3 130 (by decide +kernel) (by decide +kernel)
theorem m_im_X4_has : Cond.instanceMethod yX4_has ∈ zT := zmem1 zsub_3 131 (by decide +kernel) (by decide +kernel)
theorem m_se_X4_has : Cond.selects RX4 yX4_has yX4_has ∈ zT := zmem1 zsub_3 132 (by decide +kernel) (by decide +kernel)
theorem m_fl_RX4_28 : Cond.fieldLink RX4 28 (TX4 1).1 (TX4 1).2.1 (TX4 1).2.2.1 ∈ zT := zmem1 zsub_1 49 (by decide +kernel) (by decide +kernel)
theorem m_co_X4_hasRoad : Cond.code yX4_hasRoad cX4_hasRoad 3 (some .boolean) ∈ zT := zmem1 zsub_3 208 (by decide +kernel) (by decide +kernel)
theorem m_ml_RX4_35 : Cond.methodLink RX4 35 yX4_hasRoad ∈ zT := zmem1 zsub_3 205 (by decide +kernel) (by decide +kernel)
theorem m_im_X4_hasRoad : Cond.instanceMethod yX4_hasRoad ∈ zT := zmem1 zsub_3 206 (by decide +kernel) (by decide +kernel)
theorem m_se_X4_hasRoad : Cond.selects RX4 yX4_hasRoad yX4_hasRoad ∈ zT := zmem1 zsub_3 207 (by decide +kernel) (by decide +kernel)
theorem m_co_X4_target : Cond.code yX4_target cX4_target 3 (some .int) ∈ zT := zmem1 zsub_3 204 (by decide +kernel) (by decide +kernel)
theorem m_ml_RX4_39 : Cond.methodLink RX4 39 yX4_target ∈ zT := zmem1 zsub_3 201 (by decide +kernel) (by decide +kernel)
theorem m_im_X4_target : Cond.instanceMethod yX4_target ∈ zT := zmem1 zsub_3 202 (by decide +kernel) (by decide +kernel)
theorem m_se_X4_target : Cond.selects RX4 yX4_target yX4_target ∈ zT := zmem1 zsub_3 203 (by decide +kernel) (by decide +kernel)
theorem kV_RX4_31 {R : Room} {s : State} {args : Array Value} {d mc ms : Nat} (hts : ∀ w ∈ zT, w.before args s = true) (h1 : d + 1 ≤ R.frames) (h2 : 8 + (2 + 11) + 40 * d ≤ R.locals) : CallW R s args RX4 RX4 31 yX4_has cX4_has 2 (some .boolean) (zW yX4_has cX4_has 2 (some .boolean)) (zR d mc ms) mc ms 1 := z_cwV hts m_co_X4_has m_ml_RX4_31 m_im_X4_has m_se_X4_has m_ii_RX4 (by decide +kernel) h1 h2
theorem kV_RX4_35 {R : Room} {s : State} {args : Array Value} {d mc ms : Nat} (hts : ∀ w ∈ zT, w.before args s = true) (h1 : d + 1 ≤ R.frames) (h2 : 8 + (3 + 11) + 40 * d ≤ R.locals) : CallW R s args RX4 RX4 35 yX4_hasRoad cX4_hasRoad 3 (some .boolean) (zW yX4_hasRoad cX4_hasRoad 3 (some .boolean)) (zR d mc ms) mc ms 2 := z_cwV hts m_co_X4_hasRoad m_ml_RX4_35 m_im_X4_hasRoad m_se_X4_hasRoad m_ii_RX4 (by decide +kernel) h1 h2
theorem kV_RX4_39 {R : Room} {s : State} {args : Array Value} {d mc ms : Nat} (hts : ∀ w ∈ zT, w.before args s = true) (h1 : d + 1 ≤ R.frames) (h2 : 8 + (3 + 11) + 40 * d ≤ R.locals) : CallW R s args RX4 RX4 39 yX4_target cX4_target 3 (some .int) (zW yX4_target cX4_target 3 (some .int)) (zR d mc ms) mc ms 2 := z_cwV hts m_co_X4_target m_ml_RX4_39 m_im_X4_target m_se_X4_target m_ii_RX4 (by decide +kernel) h1 h2
theorem dX4_has_0 : decode cX4_has 0 = .ok (.iload_n 1, 1) := by decide +kernel
theorem dX4_has_1 : decode cX4_has 1 = .ok (.ifCond .lt 21, 3) := by decide +kernel
theorem dX4_has_4 : decode cX4_has 4 = .ok (.iload_n 1, 1) := by decide +kernel
theorem dX4_has_5 : decode cX4_has 5 = .ok (.aload_n 0, 1) := by decide +kernel
theorem dX4_has_6 : decode cX4_has 6 = .ok (.getfield 24, 3) := by decide +kernel
theorem dX4_has_9 : decode cX4_has 9 = .ok (.if_icmp .ge 13, 3) := by decide +kernel
theorem dX4_has_12 : decode cX4_has 12 = .ok (.iload_n 1, 1) := by decide +kernel
theorem dX4_has_13 : decode cX4_has 13 = .ok (.bipush 7, 2) := by decide +kernel
theorem dX4_has_15 : decode cX4_has 15 = .ok (.if_icmp .ge 7, 3) := by decide +kernel
theorem dX4_has_18 : decode cX4_has 18 = .ok (.iconst 1, 1) := by decide +kernel
theorem dX4_has_19 : decode cX4_has 19 = .ok (.goto 4, 3) := by decide +kernel
theorem dX4_has_22 : decode cX4_has 22 = .ok (.iconst 0, 1) := by decide +kernel
theorem dX4_has_23 : decode cX4_has 23 = .ok (.ireturn, 1) := by decide +kernel
theorem dX4_isInn_0 : decode cX4_isInn 0 = .ok (.aload_n 0, 1) := by decide +kernel
theorem dX4_isInn_1 : decode cX4_isInn 1 = .ok (.iload_n 1, 1) := by decide +kernel
theorem dX4_isInn_2 : decode cX4_isInn 2 = .ok (.invokevirtual 31, 3) := by decide +kernel
theorem dX4_isInn_5 : decode cX4_isInn 5 = .ok (.ifCond .eq 18, 3) := by decide +kernel
theorem dX4_isInn_8 : decode cX4_isInn 8 = .ok (.aload_n 0, 1) := by decide +kernel
theorem dX4_isInn_9 : decode cX4_isInn 9 = .ok (.getfield 28, 3) := by decide +kernel
theorem dX4_isInn_12 : decode cX4_isInn 12 = .ok (.iload_n 1, 1) := by decide +kernel
theorem dX4_isInn_13 : decode cX4_isInn 13 = .ok (.ishr, 1) := by decide +kernel
theorem dX4_isInn_14 : decode cX4_isInn 14 = .ok (.iconst 1, 1) := by decide +kernel
theorem dX4_isInn_15 : decode cX4_isInn 15 = .ok (.iand, 1) := by decide +kernel
theorem dX4_isInn_16 : decode cX4_isInn 16 = .ok (.ifCond .eq 7, 3) := by decide +kernel
theorem dX4_isInn_19 : decode cX4_isInn 19 = .ok (.iconst 1, 1) := by decide +kernel
theorem dX4_isInn_20 : decode cX4_isInn 20 = .ok (.goto 4, 3) := by decide +kernel
theorem dX4_isInn_23 : decode cX4_isInn 23 = .ok (.iconst 0, 1) := by decide +kernel
theorem dX4_isInn_24 : decode cX4_isInn 24 = .ok (.ireturn, 1) := by decide +kernel
theorem dX4_hasRoad_0 : decode cX4_hasRoad 0 = .ok (.iload_n 1, 1) := by decide +kernel
theorem dX4_hasRoad_1 : decode cX4_hasRoad 1 = .ok (.ifCond .lt 40, 3) := by decide +kernel
theorem dX4_hasRoad_4 : decode cX4_hasRoad 4 = .ok (.iload_n 1, 1) := by decide +kernel
theorem dX4_hasRoad_5 : decode cX4_hasRoad 5 = .ok (.aload_n 0, 1) := by decide +kernel
theorem dX4_hasRoad_6 : decode cX4_hasRoad 6 = .ok (.getfield 24, 3) := by decide +kernel
theorem dX4_hasRoad_9 : decode cX4_hasRoad 9 = .ok (.if_icmp .ge 32, 3) := by decide +kernel
theorem dX4_hasRoad_12 : decode cX4_hasRoad 12 = .ok (.iload_n 1, 1) := by decide +kernel
theorem dX4_hasRoad_13 : decode cX4_hasRoad 13 = .ok (.bipush 7, 2) := by decide +kernel
theorem dX4_hasRoad_15 : decode cX4_hasRoad 15 = .ok (.if_icmp .ge 26, 3) := by decide +kernel
theorem dX4_hasRoad_18 : decode cX4_hasRoad 18 = .ok (.iload_n 2, 1) := by decide +kernel
theorem dX4_hasRoad_19 : decode cX4_hasRoad 19 = .ok (.ifCond .lt 22, 3) := by decide +kernel
theorem dX4_hasRoad_22 : decode cX4_hasRoad 22 = .ok (.iload_n 2, 1) := by decide +kernel
theorem dX4_hasRoad_23 : decode cX4_hasRoad 23 = .ok (.aload_n 0, 1) := by decide +kernel
theorem dX4_hasRoad_24 : decode cX4_hasRoad 24 = .ok (.getfield 9, 3) := by decide +kernel
theorem dX4_hasRoad_27 : decode cX4_hasRoad 27 = .ok (.iload_n 1, 1) := by decide +kernel
theorem dX4_hasRoad_28 : decode cX4_hasRoad 28 = .ok (.iaload, 1) := by decide +kernel
theorem dX4_hasRoad_29 : decode cX4_hasRoad 29 = .ok (.if_icmp .ge 12, 3) := by decide +kernel
theorem dX4_hasRoad_32 : decode cX4_hasRoad 32 = .ok (.iload_n 2, 1) := by decide +kernel
theorem dX4_hasRoad_33 : decode cX4_hasRoad 33 = .ok (.iconst 4, 1) := by decide +kernel
theorem dX4_hasRoad_34 : decode cX4_hasRoad 34 = .ok (.if_icmp .ge 7, 3) := by decide +kernel
theorem dX4_hasRoad_37 : decode cX4_hasRoad 37 = .ok (.iconst 1, 1) := by decide +kernel
theorem dX4_hasRoad_38 : decode cX4_hasRoad 38 = .ok (.goto 4, 3) := by decide +kernel
theorem dX4_hasRoad_41 : decode cX4_hasRoad 41 = .ok (.iconst 0, 1) := by decide +kernel
theorem dX4_hasRoad_42 : decode cX4_hasRoad 42 = .ok (.ireturn, 1) := by decide +kernel
theorem dX4_waysOut_0 : decode cX4_waysOut 0 = .ok (.iload_n 1, 1) := by decide +kernel
theorem dX4_waysOut_1 : decode cX4_waysOut 1 = .ok (.ifCond .lt 37, 3) := by decide +kernel
theorem dX4_waysOut_4 : decode cX4_waysOut 4 = .ok (.iload_n 1, 1) := by decide +kernel
theorem dX4_waysOut_5 : decode cX4_waysOut 5 = .ok (.aload_n 0, 1) := by decide +kernel
theorem dX4_waysOut_6 : decode cX4_waysOut 6 = .ok (.getfield 24, 3) := by decide +kernel
theorem dX4_waysOut_9 : decode cX4_waysOut 9 = .ok (.if_icmp .ge 29, 3) := by decide +kernel
theorem dX4_waysOut_12 : decode cX4_waysOut 12 = .ok (.iload_n 1, 1) := by decide +kernel
theorem dX4_waysOut_13 : decode cX4_waysOut 13 = .ok (.bipush 7, 2) := by decide +kernel
theorem dX4_waysOut_15 : decode cX4_waysOut 15 = .ok (.if_icmp .ge 23, 3) := by decide +kernel
theorem dX4_waysOut_18 : decode cX4_waysOut 18 = .ok (.aload_n 0, 1) := by decide +kernel
theorem dX4_waysOut_19 : decode cX4_waysOut 19 = .ok (.getfield 28, 3) := by decide +kernel
theorem dX4_waysOut_22 : decode cX4_waysOut 22 = .ok (.iload_n 1, 1) := by decide +kernel
theorem dX4_waysOut_23 : decode cX4_waysOut 23 = .ok (.ishr, 1) := by decide +kernel
theorem dX4_waysOut_24 : decode cX4_waysOut 24 = .ok (.iconst 1, 1) := by decide +kernel
theorem dX4_waysOut_25 : decode cX4_waysOut 25 = .ok (.iand, 1) := by decide +kernel
theorem dX4_waysOut_26 : decode cX4_waysOut 26 = .ok (.ifCond .ne 12, 3) := by decide +kernel
theorem dX4_waysOut_29 : decode cX4_waysOut 29 = .ok (.aload_n 0, 1) := by decide +kernel
theorem dX4_waysOut_30 : decode cX4_waysOut 30 = .ok (.getfield 9, 3) := by decide +kernel
theorem dX4_waysOut_33 : decode cX4_waysOut 33 = .ok (.iload_n 1, 1) := by decide +kernel
theorem dX4_waysOut_34 : decode cX4_waysOut 34 = .ok (.iaload, 1) := by decide +kernel
theorem dX4_waysOut_35 : decode cX4_waysOut 35 = .ok (.goto 4, 3) := by decide +kernel
theorem dX4_waysOut_38 : decode cX4_waysOut 38 = .ok (.iconst 0, 1) := by decide +kernel
theorem dX4_waysOut_39 : decode cX4_waysOut 39 = .ok (.ireturn, 1) := by decide +kernel
theorem dX4_target_0 : decode cX4_target 0 = .ok (.aload_n 0, 1) := by decide +kernel
theorem dX4_target_1 : decode cX4_target 1 = .ok (.iload_n 1, 1) := by decide +kernel
theorem dX4_target_2 : decode cX4_target 2 = .ok (.iload_n 2, 1) := by decide +kernel
theorem dX4_target_3 : decode cX4_target 3 = .ok (.invokevirtual 35, 3) := by decide +kernel
theorem dX4_target_6 : decode cX4_target 6 = .ok (.ifCond .eq 16, 3) := by decide +kernel
theorem dX4_target_9 : decode cX4_target 9 = .ok (.aload_n 0, 1) := by decide +kernel
theorem dX4_target_10 : decode cX4_target 10 = .ok (.getfield 15, 3) := by decide +kernel
theorem dX4_target_13 : decode cX4_target 13 = .ok (.iload_n 1, 1) := by decide +kernel
theorem dX4_target_14 : decode cX4_target 14 = .ok (.iconst 4, 1) := by decide +kernel
theorem dX4_target_15 : decode cX4_target 15 = .ok (.imul, 1) := by decide +kernel
theorem dX4_target_16 : decode cX4_target 16 = .ok (.iload_n 2, 1) := by decide +kernel
theorem dX4_target_17 : decode cX4_target 17 = .ok (.iadd, 1) := by decide +kernel
theorem dX4_target_18 : decode cX4_target 18 = .ok (.iaload, 1) := by decide +kernel
theorem dX4_target_19 : decode cX4_target 19 = .ok (.goto 4, 3) := by decide +kernel
theorem dX4_target_22 : decode cX4_target 22 = .ok (.iconst (-1), 1) := by decide +kernel
theorem dX4_target_23 : decode cX4_target 23 = .ok (.ireturn, 1) := by decide +kernel
theorem dX4_addRoad_0 : decode cX4_addRoad 0 = .ok (.aload_n 0, 1) := by decide +kernel
theorem dX4_addRoad_1 : decode cX4_addRoad 1 = .ok (.iload_n 1, 1) := by decide +kernel
theorem dX4_addRoad_2 : decode cX4_addRoad 2 = .ok (.invokevirtual 31, 3) := by decide +kernel
theorem dX4_addRoad_5 : decode cX4_addRoad 5 = .ok (.ifCond .eq 39, 3) := by decide +kernel
theorem dX4_addRoad_8 : decode cX4_addRoad 8 = .ok (.aload_n 0, 1) := by decide +kernel
theorem dX4_addRoad_9 : decode cX4_addRoad 9 = .ok (.getfield 9, 3) := by decide +kernel
theorem dX4_addRoad_12 : decode cX4_addRoad 12 = .ok (.iload_n 1, 1) := by decide +kernel
theorem dX4_addRoad_13 : decode cX4_addRoad 13 = .ok (.iaload, 1) := by decide +kernel
theorem dX4_addRoad_14 : decode cX4_addRoad 14 = .ok (.iconst 4, 1) := by decide +kernel
theorem dX4_addRoad_15 : decode cX4_addRoad 15 = .ok (.if_icmp .ge 29, 3) := by decide +kernel
theorem dX4_addRoad_18 : decode cX4_addRoad 18 = .ok (.aload_n 0, 1) := by decide +kernel
theorem dX4_addRoad_19 : decode cX4_addRoad 19 = .ok (.getfield 15, 3) := by decide +kernel
theorem dX4_addRoad_22 : decode cX4_addRoad 22 = .ok (.iload_n 1, 1) := by decide +kernel
theorem dX4_addRoad_23 : decode cX4_addRoad 23 = .ok (.iconst 4, 1) := by decide +kernel
theorem dX4_addRoad_24 : decode cX4_addRoad 24 = .ok (.imul, 1) := by decide +kernel
theorem dX4_addRoad_25 : decode cX4_addRoad 25 = .ok (.aload_n 0, 1) := by decide +kernel
theorem dX4_addRoad_26 : decode cX4_addRoad 26 = .ok (.getfield 9, 3) := by decide +kernel
theorem dX4_addRoad_29 : decode cX4_addRoad 29 = .ok (.iload_n 1, 1) := by decide +kernel
theorem dX4_addRoad_30 : decode cX4_addRoad 30 = .ok (.iaload, 1) := by decide +kernel
theorem dX4_addRoad_31 : decode cX4_addRoad 31 = .ok (.iadd, 1) := by decide +kernel
theorem dX4_addRoad_32 : decode cX4_addRoad 32 = .ok (.iload_n 2, 1) := by decide +kernel
theorem dX4_addRoad_33 : decode cX4_addRoad 33 = .ok (.iastore, 1) := by decide +kernel
theorem dX4_addRoad_34 : decode cX4_addRoad 34 = .ok (.aload_n 0, 1) := by decide +kernel
theorem dX4_addRoad_35 : decode cX4_addRoad 35 = .ok (.getfield 9, 3) := by decide +kernel
theorem dX4_addRoad_38 : decode cX4_addRoad 38 = .ok (.iload_n 1, 1) := by decide +kernel
theorem dX4_addRoad_39 : decode cX4_addRoad 39 = .ok (.dup2, 1) := by decide +kernel
theorem dX4_addRoad_40 : decode cX4_addRoad 40 = .ok (.iaload, 1) := by decide +kernel
theorem dX4_addRoad_41 : decode cX4_addRoad 41 = .ok (.iconst 1, 1) := by decide +kernel
theorem dX4_addRoad_42 : decode cX4_addRoad 42 = .ok (.iadd, 1) := by decide +kernel
theorem dX4_addRoad_43 : decode cX4_addRoad 43 = .ok (.iastore, 1) := by decide +kernel
theorem dX4_addRoad_44 : decode cX4_addRoad 44 = .ok (.return_, 1) := by decide +kernel
theorem dX4_told_0 : decode cX4_told 0 = .ok (.iload_n 1, 1) := by decide +kernel
theorem dX4_told_1 : decode cX4_told 1 = .ok (.ifCond .ne 8, 3) := by decide +kernel
theorem dX4_told_4 : decode cX4_told 4 = .ok (.aload_n 0, 1) := by decide +kernel
theorem dX4_told_5 : decode cX4_told 5 = .ok (.getfield 24, 3) := by decide +kernel
theorem dX4_told_8 : decode cX4_told 8 = .ok (.ireturn, 1) := by decide +kernel
theorem dX4_told_9 : decode cX4_told 9 = .ok (.iload_n 1, 1) := by decide +kernel
theorem dX4_told_10 : decode cX4_told 10 = .ok (.iconst 1, 1) := by decide +kernel
theorem dX4_told_11 : decode cX4_told 11 = .ok (.if_icmp .ne 8, 3) := by decide +kernel
theorem dX4_told_14 : decode cX4_told 14 = .ok (.aload_n 0, 1) := by decide +kernel
theorem dX4_told_15 : decode cX4_told 15 = .ok (.getfield 28, 3) := by decide +kernel
theorem dX4_told_18 : decode cX4_told 18 = .ok (.ireturn, 1) := by decide +kernel
theorem dX4_told_19 : decode cX4_told 19 = .ok (.iload_n 1, 1) := by decide +kernel
theorem dX4_told_20 : decode cX4_told 20 = .ok (.bipush 100, 2) := by decide +kernel
theorem dX4_told_22 : decode cX4_told 22 = .ok (.if_icmp .lt 22, 3) := by decide +kernel
theorem dX4_told_25 : decode cX4_told 25 = .ok (.aload_n 0, 1) := by decide +kernel
theorem dX4_told_26 : decode cX4_told 26 = .ok (.iload_n 1, 1) := by decide +kernel
theorem dX4_told_27 : decode cX4_told 27 = .ok (.bipush 100, 2) := by decide +kernel
theorem dX4_told_29 : decode cX4_told 29 = .ok (.isub, 1) := by decide +kernel
theorem dX4_told_30 : decode cX4_told 30 = .ok (.bipush 10, 2) := by decide +kernel
theorem dX4_told_32 : decode cX4_told 32 = .ok (.idiv, 1) := by decide +kernel
theorem dX4_told_33 : decode cX4_told 33 = .ok (.iload_n 1, 1) := by decide +kernel
theorem dX4_told_34 : decode cX4_told 34 = .ok (.bipush 100, 2) := by decide +kernel
theorem dX4_told_36 : decode cX4_told 36 = .ok (.isub, 1) := by decide +kernel
theorem dX4_told_37 : decode cX4_told 37 = .ok (.bipush 10, 2) := by decide +kernel
theorem dX4_told_39 : decode cX4_told 39 = .ok (.irem, 1) := by decide +kernel
theorem dX4_told_40 : decode cX4_told 40 = .ok (.invokevirtual 39, 3) := by decide +kernel
theorem dX4_told_43 : decode cX4_told 43 = .ok (.ireturn, 1) := by decide +kernel
theorem dX4_told_44 : decode cX4_told 44 = .ok (.iload_n 1, 1) := by decide +kernel
theorem dX4_told_45 : decode cX4_told 45 = .ok (.bipush 10, 2) := by decide +kernel
theorem dX4_told_47 : decode cX4_told 47 = .ok (.irem, 1) := by decide +kernel
theorem dX4_told_48 : decode cX4_told 48 = .ok (.istore_n 2, 1) := by decide +kernel
theorem dX4_told_49 : decode cX4_told 49 = .ok (.aload_n 0, 1) := by decide +kernel
theorem dX4_told_50 : decode cX4_told 50 = .ok (.iload_n 2, 1) := by decide +kernel
theorem dX4_told_51 : decode cX4_told 51 = .ok (.invokevirtual 31, 3) := by decide +kernel
theorem dX4_told_54 : decode cX4_told 54 = .ok (.ifCond .ne 5, 3) := by decide +kernel
theorem dX4_told_57 : decode cX4_told 57 = .ok (.iconst (-1), 1) := by decide +kernel
theorem dX4_told_58 : decode cX4_told 58 = .ok (.ireturn, 1) := by decide +kernel
theorem dX4_told_59 : decode cX4_told 59 = .ok (.iload_n 1, 1) := by decide +kernel
theorem dX4_told_60 : decode cX4_told 60 = .ok (.bipush 10, 2) := by decide +kernel
theorem dX4_told_62 : decode cX4_told 62 = .ok (.idiv, 1) := by decide +kernel
theorem dX4_told_63 : decode cX4_told 63 = .ok (.tableswitch 46 1 3 #[25, 32, 39], 25) := by decide +kernel
theorem dX4_told_88 : decode cX4_told 88 = .ok (.aload_n 0, 1) := by decide +kernel
theorem dX4_told_89 : decode cX4_told 89 = .ok (.getfield 9, 3) := by decide +kernel
theorem dX4_told_92 : decode cX4_told 92 = .ok (.iload_n 2, 1) := by decide +kernel
theorem dX4_told_93 : decode cX4_told 93 = .ok (.iaload, 1) := by decide +kernel
theorem dX4_told_94 : decode cX4_told 94 = .ok (.ireturn, 1) := by decide +kernel
theorem dX4_told_95 : decode cX4_told 95 = .ok (.aload_n 0, 1) := by decide +kernel
theorem dX4_told_96 : decode cX4_told 96 = .ok (.getfield 18, 3) := by decide +kernel
theorem dX4_told_99 : decode cX4_told 99 = .ok (.iload_n 2, 1) := by decide +kernel
theorem dX4_told_100 : decode cX4_told 100 = .ok (.iaload, 1) := by decide +kernel
theorem dX4_told_101 : decode cX4_told 101 = .ok (.ireturn, 1) := by decide +kernel
theorem dX4_told_102 : decode cX4_told 102 = .ok (.aload_n 0, 1) := by decide +kernel
theorem dX4_told_103 : decode cX4_told 103 = .ok (.getfield 21, 3) := by decide +kernel
theorem dX4_told_106 : decode cX4_told 106 = .ok (.iload_n 2, 1) := by decide +kernel
theorem dX4_told_107 : decode cX4_told 107 = .ok (.iaload, 1) := by decide +kernel
theorem dX4_told_108 : decode cX4_told 108 = .ok (.ireturn, 1) := by decide +kernel
theorem dX4_told_109 : decode cX4_told 109 = .ok (.iconst (-1), 1) := by decide +kernel
theorem dX4_told_110 : decode cX4_told 110 = .ok (.ireturn, 1) := by decide +kernel


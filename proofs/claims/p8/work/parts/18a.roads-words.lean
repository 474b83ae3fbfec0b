theorem m_fl_RX8_9 : Cond.fieldLink RX8 9 (TX4 0).1 (TX4 0).2.1 (TX4 0).2.2.1 ∈ zT := zmem1 zsub_1 42 (by decide +kernel) (by decide +kernel)
theorem m_ml_RX8_15 : Cond.methodLink RX8 15 yX4_waysOut ∈ zT := zmem1 zsub_4 134 (by decide +kernel) (by decide +kernel)
theorem m_ml_RX8_19 : Cond.methodLink RX8 19 yX4_target ∈ zT := zmem1 zsub_4 135 (by decide +kernel) (by decide +kernel)
theorem m_co_X8_spread : Cond.code yX8_spread cX8_spread 5 (some .int) ∈ zT := zmem1 zsub_4 133 (by decide +kernel) (by decide +kernel)
theorem m_ml_RX8_23 : Cond.methodLink RX8 23 yX8_spread ∈ zT := zmem1 zsub_4 131 (by decide +kernel) (by decide +kernel)
theorem m_st_X8_spread : Cond.static yX8_spread ∈ zT := zmem1 zsub_4 132 (by decide +kernel) (by decide +kernel)
theorem m_ii_RX8 : Cond.initialized RX8 ∈ zT := zmem1 zsub_1 18 (by decide +kernel) (by decide +kernel)
theorem m_fl_RX8_29 : Cond.fieldLink RX8 29 (TX4 1).1 (TX4 1).2.1 (TX4 1).2.2.1 ∈ zT := zmem1 zsub_1 50 (by decide +kernel) (by decide +kernel)
theorem m_co_X8_reached : Cond.code yX8_reached cX8_reached 4 (some .int) ∈ zT := zmem1 zsub_4 130 (by decide +kernel) (by decide +kernel)
theorem m_ml_RX8_45 : Cond.methodLink RX8 45 yX8_reached ∈ zT := zmem1 zsub_5 192 (by decide +kernel) (by decide +kernel)
theorem m_st_X8_reached : Cond.static yX8_reached ∈ zT := zmem1 zsub_4 129 (by decide +kernel) (by decide +kernel)
theorem m_co_X8_howManyLead : Cond.code yX8_howManyLead cX8_howManyLead 5 (some .int) ∈ zT := zmem1 zsub_5 207 (by decide +kernel) (by decide +kernel)
theorem m_ml_RX8_52 : Cond.methodLink RX8 52 yX8_howManyLead ∈ zT := zmem1 zsub_5 205 (by decide +kernel) (by decide +kernel)
theorem m_st_X8_howManyLead : Cond.static yX8_howManyLead ∈ zT := zmem1 zsub_5 206 (by decide +kernel) (by decide +kernel)
theorem m_co_X4_isInn : Cond.code yX4_isInn cX4_isInn 2 (some .boolean) ∈ zT := zmem1 zsub_4 20 (by decide +kernel) (by decide +kernel)
theorem m_ml_RX8_48 : Cond.methodLink RX8 48 yX4_isInn ∈ zT := zmem1 zsub_5 201 (by decide +kernel) (by decide +kernel)
theorem m_im_X4_isInn : Cond.instanceMethod yX4_isInn ∈ zT := zmem1 zsub_4 18 (by decide +kernel) (by decide +kernel)
theorem m_se_X4_isInn : Cond.selects RX4 yX4_isInn yX4_isInn ∈ zT := zmem1 zsub_4 19 (by decide +kernel) (by decide +kernel)
theorem m_co_X8_howManyLeadTo : Cond.code yX8_howManyLeadTo cX8_howManyLeadTo 4 (some .int) ∈ zT := zmem1 zsub_5 216 (by decide +kernel) (by decide +kernel)
theorem m_ml_RX8_56 : Cond.methodLink RX8 56 yX8_howManyLeadTo ∈ zT := zmem1 zsub_5 214 (by decide +kernel) (by decide +kernel)
theorem m_st_X8_howManyLeadTo : Cond.static yX8_howManyLeadTo ∈ zT := zmem1 zsub_5 215 (by decide +kernel) (by decide +kernel)
theorem m_ko_RJ6_265 : Cond.constant RJ6 265 1431655765 ∈ zT := zmem1 zsub_4 154 (by decide +kernel) (by decide +kernel)
theorem m_ko_RJ6_266 : Cond.constant RJ6 266 858993459 ∈ zT := zmem1 zsub_4 155 (by decide +kernel) (by decide +kernel)
theorem m_ko_RJ6_267 : Cond.constant RJ6 267 252645135 ∈ zT := zmem1 zsub_4 156 (by decide +kernel) (by decide +kernel)
theorem m_co_X8_inOneClass : Cond.code yX8_inOneClass cX8_inOneClass 5 (some .int) ∈ zT := zmem1 zsub_5 191 (by decide +kernel) (by decide +kernel)
theorem m_ml_RX8_32 : Cond.methodLink RX8 32 yX8_inOneClass ∈ zT := zmem1 zsub_5 189 (by decide +kernel) (by decide +kernel)
theorem m_st_X8_inOneClass : Cond.static yX8_inOneClass ∈ zT := zmem1 zsub_5 190 (by decide +kernel) (by decide +kernel)
theorem m_co_J6_bitCount_0f7a4 : Cond.code yJ6_bitCount_0f7a4 cJ6_bitCount_0f7a4 1 (some .int) ∈ zT := zmem1 zsub_4 153 (by decide +kernel) (by decide +kernel)
theorem m_ml_RX8_35 : Cond.methodLink RX8 35 yJ6_bitCount_0f7a4 ∈ zT := zmem1 zsub_5 193 (by decide +kernel) (by decide +kernel)
theorem m_st_J6_bitCount_0f7a4 : Cond.static yJ6_bitCount_0f7a4 ∈ zT := zmem1 zsub_4 152 (by decide +kernel) (by decide +kernel)
theorem m_ii_RJ6 : Cond.initialized RJ6 ∈ zT := zmem1 zsub_1 19 (by decide +kernel) (by decide +kernel)
theorem m_co_math_max : Cond.code Lib.Math.max.name Lib.Math.max.code 2 (some .int) ∈ zT := zmem1 zsub_3 164 (by decide +kernel) (by decide +kernel)
theorem m_ml_RX8_40 : Cond.methodLink RX8 40 Lib.Math.max.name ∈ zT := zmem1 zsub_5 194 (by decide +kernel) (by decide +kernel)
theorem m_st_math_max : Cond.static Lib.Math.max.name ∈ zT := zmem1 zsub_3 163 (by decide +kernel) (by decide +kernel)
theorem m_ii_math : Cond.initialized "java/lang/Math" ∈ zT := zmem1 zsub_1 13 (by decide +kernel) (by decide +kernel)
theorem m_ml_RX8_59 : Cond.methodLink RX8 59 yX4_has ∈ zT := zmem1 zsub_5 228 (by decide +kernel) (by decide +kernel)
theorem m_fl_RX8_62 : Cond.fieldLink RX8 62 (TX4 4).1 (TX4 4).2.1 (TX4 4).2.2.1 ∈ zT := zmem1 zsub_1 59 (by decide +kernel) (by decide +kernel)
theorem kV_RX8_15 {R : Room} {s : State} {args : Array Value} {d mc ms : Nat} (hts : ∀ w ∈ zT, w.before args s = true) (h1 : d + 1 ≤ R.frames) (h2 : 8 + (2 + 11) + 40 * d ≤ R.locals) : CallW R s args RX8 RX4 15 yX4_waysOut cX4_waysOut 2 (some .int) (zW yX4_waysOut cX4_waysOut 2 (some .int)) (zR d mc ms) mc ms 1 := z_cwV hts m_co_X4_waysOut m_ml_RX8_15 m_im_X4_waysOut m_se_X4_waysOut m_ii_RX4 (by decide +kernel) h1 h2
theorem kV_RX8_19 {R : Room} {s : State} {args : Array Value} {d mc ms : Nat} (hts : ∀ w ∈ zT, w.before args s = true) (h1 : d + 1 ≤ R.frames) (h2 : 8 + (3 + 11) + 40 * d ≤ R.locals) : CallW R s args RX8 RX4 19 yX4_target cX4_target 3 (some .int) (zW yX4_target cX4_target 3 (some .int)) (zR d mc ms) mc ms 2 := z_cwV hts m_co_X4_target m_ml_RX8_19 m_im_X4_target m_se_X4_target m_ii_RX4 (by decide +kernel) h1 h2
theorem kS_RX8_23 {R : Room} {s : State} {args : Array Value} {d mc ms : Nat} (hts : ∀ w ∈ zT, w.before args s = true) (h1 : d + 1 ≤ R.frames) (h2 : 8 + (5 + 11) + 40 * d ≤ R.locals) : CallB R s args RX8 23 yX8_spread cX8_spread 5 (some .int) (zW yX8_spread cX8_spread 5 (some .int)) (zR d mc ms) mc ms 2 ∧ (Cond.static yX8_spread).before args s = true := z_cwS hts m_co_X8_spread m_ml_RX8_23 m_st_X8_spread m_ii_RX8 (by decide +kernel) h1 h2
theorem kS_RX8_45 {R : Room} {s : State} {args : Array Value} {d mc ms : Nat} (hts : ∀ w ∈ zT, w.before args s = true) (h1 : d + 1 ≤ R.frames) (h2 : 8 + (4 + 11) + 40 * d ≤ R.locals) : CallB R s args RX8 45 yX8_reached cX8_reached 4 (some .int) (zW yX8_reached cX8_reached 4 (some .int)) (zR d mc ms) mc ms 2 ∧ (Cond.static yX8_reached).before args s = true := z_cwS hts m_co_X8_reached m_ml_RX8_45 m_st_X8_reached m_ii_RX8 (by decide +kernel) h1 h2
theorem kS_RX8_52 {R : Room} {s : State} {args : Array Value} {d mc ms : Nat} (hts : ∀ w ∈ zT, w.before args s = true) (h1 : d + 1 ≤ R.frames) (h2 : 8 + (5 + 11) + 40 * d ≤ R.locals) : CallB R s args RX8 52 yX8_howManyLead cX8_howManyLead 5 (some .int) (zW yX8_howManyLead cX8_howManyLead 5 (some .int)) (zR d mc ms) mc ms 3 ∧ (Cond.static yX8_howManyLead).before args s = true := z_cwS hts m_co_X8_howManyLead m_ml_RX8_52 m_st_X8_howManyLead m_ii_RX8 (by decide +kernel) h1 h2
theorem kV_RX8_48 {R : Room} {s : State} {args : Array Value} {d mc ms : Nat} (hts : ∀ w ∈ zT, w.before args s = true) (h1 : d + 1 ≤ R.frames) (h2 : 8 + (2 + 11) + 40 * d ≤ R.locals) : CallW R s args RX8 RX4 48 yX4_isInn cX4_isInn 2 (some .boolean) (zW yX4_isInn cX4_isInn 2 (some .boolean)) (zR d mc ms) mc ms 1 := z_cwV hts m_co_X4_isInn m_ml_RX8_48 m_im_X4_isInn m_se_X4_isInn m_ii_RX4 (by decide +kernel) h1 h2
theorem kS_RX8_56 {R : Room} {s : State} {args : Array Value} {d mc ms : Nat} (hts : ∀ w ∈ zT, w.before args s = true) (h1 : d + 1 ≤ R.frames) (h2 : 8 + (4 + 11) + 40 * d ≤ R.locals) : CallB R s args RX8 56 yX8_howManyLeadTo cX8_howManyLeadTo 4 (some .int) (zW yX8_howManyLeadTo cX8_howManyLeadTo 4 (some .int)) (zR d mc ms) mc ms 2 ∧ (Cond.static yX8_howManyLeadTo).before args s = true := z_cwS hts m_co_X8_howManyLeadTo m_ml_RX8_56 m_st_X8_howManyLeadTo m_ii_RX8 (by decide +kernel) h1 h2
theorem kS_RX8_32 {R : Room} {s : State} {args : Array Value} {d mc ms : Nat} (hts : ∀ w ∈ zT, w.before args s = true) (h1 : d + 1 ≤ R.frames) (h2 : 8 + (5 + 11) + 40 * d ≤ R.locals) : CallB R s args RX8 32 yX8_inOneClass cX8_inOneClass 5 (some .int) (zW yX8_inOneClass cX8_inOneClass 5 (some .int)) (zR d mc ms) mc ms 2 ∧ (Cond.static yX8_inOneClass).before args s = true := z_cwS hts m_co_X8_inOneClass m_ml_RX8_32 m_st_X8_inOneClass m_ii_RX8 (by decide +kernel) h1 h2
theorem kS_RX8_35 {R : Room} {s : State} {args : Array Value} {d mc ms : Nat} (hts : ∀ w ∈ zT, w.before args s = true) (h1 : d + 1 ≤ R.frames) (h2 : 8 + (1 + 11) + 40 * d ≤ R.locals) : CallB R s args RX8 35 yJ6_bitCount_0f7a4 cJ6_bitCount_0f7a4 1 (some .int) (zW yJ6_bitCount_0f7a4 cJ6_bitCount_0f7a4 1 (some .int)) (zR d mc ms) mc ms 1 ∧ (Cond.static yJ6_bitCount_0f7a4).before args s = true := z_cwS hts m_co_J6_bitCount_0f7a4 m_ml_RX8_35 m_st_J6_bitCount_0f7a4 m_ii_RJ6 (by decide +kernel) h1 h2
theorem kV_RX8_59 {R : Room} {s : State} {args : Array Value} {d mc ms : Nat} (hts : ∀ w ∈ zT, w.before args s = true) (h1 : d + 1 ≤ R.frames) (h2 : 8 + (2 + 11) + 40 * d ≤ R.locals) : CallW R s args RX8 RX4 59 yX4_has cX4_has 2 (some .boolean) (zW yX4_has cX4_has 2 (some .boolean)) (zR d mc ms) mc ms 1 := z_cwV hts m_co_X4_has m_ml_RX8_59 m_im_X4_has m_se_X4_has m_ii_RX4 (by decide +kernel) h1 h2
theorem dX8_spread_0 : decode cX8_spread 0 = .ok (.iload_n 1, 1) := by decide +kernel
theorem dX8_spread_1 : decode cX8_spread 1 = .ok (.istore_n 2, 1) := by decide +kernel
theorem dX8_spread_2 : decode cX8_spread 2 = .ok (.iconst 0, 1) := by decide +kernel
theorem dX8_spread_3 : decode cX8_spread 3 = .ok (.istore_n 3, 1) := by decide +kernel
theorem dX8_spread_4 : decode cX8_spread 4 = .ok (.iload_n 3, 1) := by decide +kernel
theorem dX8_spread_5 : decode cX8_spread 5 = .ok (.aload_n 0, 1) := by decide +kernel
theorem dX8_spread_6 : decode cX8_spread 6 = .ok (.getfield 9, 3) := by decide +kernel
theorem dX8_spread_9 : decode cX8_spread 9 = .ok (.if_icmp .ge 48, 3) := by decide +kernel
theorem dX8_spread_12 : decode cX8_spread 12 = .ok (.iload_n 1, 1) := by decide +kernel
theorem dX8_spread_13 : decode cX8_spread 13 = .ok (.iload_n 3, 1) := by decide +kernel
theorem dX8_spread_14 : decode cX8_spread 14 = .ok (.ishr, 1) := by decide +kernel
theorem dX8_spread_15 : decode cX8_spread 15 = .ok (.iconst 1, 1) := by decide +kernel
theorem dX8_spread_16 : decode cX8_spread 16 = .ok (.iand, 1) := by decide +kernel
theorem dX8_spread_17 : decode cX8_spread 17 = .ok (.ifCond .eq 34, 3) := by decide +kernel
theorem dX8_spread_20 : decode cX8_spread 20 = .ok (.iconst 0, 1) := by decide +kernel
theorem dX8_spread_21 : decode cX8_spread 21 = .ok (.istore 4, 2) := by decide +kernel
theorem dX8_spread_23 : decode cX8_spread 23 = .ok (.iload 4, 2) := by decide +kernel
theorem dX8_spread_25 : decode cX8_spread 25 = .ok (.aload_n 0, 1) := by decide +kernel
theorem dX8_spread_26 : decode cX8_spread 26 = .ok (.iload_n 3, 1) := by decide +kernel
theorem dX8_spread_27 : decode cX8_spread 27 = .ok (.invokevirtual 15, 3) := by decide +kernel
theorem dX8_spread_30 : decode cX8_spread 30 = .ok (.if_icmp .ge 21, 3) := by decide +kernel
theorem dX8_spread_33 : decode cX8_spread 33 = .ok (.iload_n 2, 1) := by decide +kernel
theorem dX8_spread_34 : decode cX8_spread 34 = .ok (.iconst 1, 1) := by decide +kernel
theorem dX8_spread_35 : decode cX8_spread 35 = .ok (.aload_n 0, 1) := by decide +kernel
theorem dX8_spread_36 : decode cX8_spread 36 = .ok (.iload_n 3, 1) := by decide +kernel
theorem dX8_spread_37 : decode cX8_spread 37 = .ok (.iload 4, 2) := by decide +kernel
theorem dX8_spread_39 : decode cX8_spread 39 = .ok (.invokevirtual 19, 3) := by decide +kernel
theorem dX8_spread_42 : decode cX8_spread 42 = .ok (.ishl, 1) := by decide +kernel
theorem dX8_spread_43 : decode cX8_spread 43 = .ok (.ior, 1) := by decide +kernel
theorem dX8_spread_44 : decode cX8_spread 44 = .ok (.istore_n 2, 1) := by decide +kernel
theorem dX8_spread_45 : decode cX8_spread 45 = .ok (.iinc 4 1, 3) := by decide +kernel
theorem dX8_spread_48 : decode cX8_spread 48 = .ok (.goto (-25), 3) := by decide +kernel
theorem dX8_spread_51 : decode cX8_spread 51 = .ok (.iinc 3 1, 3) := by decide +kernel
theorem dX8_spread_54 : decode cX8_spread 54 = .ok (.goto (-50), 3) := by decide +kernel
theorem dX8_spread_57 : decode cX8_spread 57 = .ok (.iload_n 2, 1) := by decide +kernel
theorem dX8_spread_58 : decode cX8_spread 58 = .ok (.ireturn, 1) := by decide +kernel
theorem dX8_distance_0 : decode cX8_distance 0 = .ok (.iconst 1, 1) := by decide +kernel
theorem dX8_distance_1 : decode cX8_distance 1 = .ok (.iload_n 1, 1) := by decide +kernel
theorem dX8_distance_2 : decode cX8_distance 2 = .ok (.ishl, 1) := by decide +kernel
theorem dX8_distance_3 : decode cX8_distance 3 = .ok (.istore_n 3, 1) := by decide +kernel
theorem dX8_distance_4 : decode cX8_distance 4 = .ok (.iconst 0, 1) := by decide +kernel
theorem dX8_distance_5 : decode cX8_distance 5 = .ok (.istore 4, 2) := by decide +kernel
theorem dX8_distance_7 : decode cX8_distance 7 = .ok (.iload 4, 2) := by decide +kernel
theorem dX8_distance_9 : decode cX8_distance 9 = .ok (.bipush 7, 2) := by decide +kernel
theorem dX8_distance_11 : decode cX8_distance 11 = .ok (.if_icmp .gt 26, 3) := by decide +kernel
theorem dX8_distance_14 : decode cX8_distance 14 = .ok (.iload_n 3, 1) := by decide +kernel
theorem dX8_distance_15 : decode cX8_distance 15 = .ok (.iload_n 2, 1) := by decide +kernel
theorem dX8_distance_16 : decode cX8_distance 16 = .ok (.ishr, 1) := by decide +kernel
theorem dX8_distance_17 : decode cX8_distance 17 = .ok (.iconst 1, 1) := by decide +kernel
theorem dX8_distance_18 : decode cX8_distance 18 = .ok (.iand, 1) := by decide +kernel
theorem dX8_distance_19 : decode cX8_distance 19 = .ok (.ifCond .eq 6, 3) := by decide +kernel
theorem dX8_distance_22 : decode cX8_distance 22 = .ok (.iload 4, 2) := by decide +kernel
theorem dX8_distance_24 : decode cX8_distance 24 = .ok (.ireturn, 1) := by decide +kernel
theorem dX8_distance_25 : decode cX8_distance 25 = .ok (.aload_n 0, 1) := by decide +kernel
theorem dX8_distance_26 : decode cX8_distance 26 = .ok (.iload_n 3, 1) := by decide +kernel
theorem dX8_distance_27 : decode cX8_distance 27 = .ok (.invokestatic 23, 3) := by decide +kernel
theorem dX8_distance_30 : decode cX8_distance 30 = .ok (.istore_n 3, 1) := by decide +kernel
theorem dX8_distance_31 : decode cX8_distance 31 = .ok (.iinc 4 1, 3) := by decide +kernel
theorem dX8_distance_34 : decode cX8_distance 34 = .ok (.goto (-27), 3) := by decide +kernel
theorem dX8_distance_37 : decode cX8_distance 37 = .ok (.iconst (-1), 1) := by decide +kernel
theorem dX8_distance_38 : decode cX8_distance 38 = .ok (.ireturn, 1) := by decide +kernel
theorem dX8_reached_0 : decode cX8_reached 0 = .ok (.iconst 1, 1) := by decide +kernel
theorem dX8_reached_1 : decode cX8_reached 1 = .ok (.iload_n 1, 1) := by decide +kernel
theorem dX8_reached_2 : decode cX8_reached 2 = .ok (.ishl, 1) := by decide +kernel
theorem dX8_reached_3 : decode cX8_reached 3 = .ok (.istore_n 2, 1) := by decide +kernel
theorem dX8_reached_4 : decode cX8_reached 4 = .ok (.iconst 0, 1) := by decide +kernel
theorem dX8_reached_5 : decode cX8_reached 5 = .ok (.istore_n 3, 1) := by decide +kernel
theorem dX8_reached_6 : decode cX8_reached 6 = .ok (.iload_n 3, 1) := by decide +kernel
theorem dX8_reached_7 : decode cX8_reached 7 = .ok (.bipush 7, 2) := by decide +kernel
theorem dX8_reached_9 : decode cX8_reached 9 = .ok (.if_icmp .ge 15, 3) := by decide +kernel
theorem dX8_reached_12 : decode cX8_reached 12 = .ok (.aload_n 0, 1) := by decide +kernel
theorem dX8_reached_13 : decode cX8_reached 13 = .ok (.iload_n 2, 1) := by decide +kernel
theorem dX8_reached_14 : decode cX8_reached 14 = .ok (.invokestatic 23, 3) := by decide +kernel
theorem dX8_reached_17 : decode cX8_reached 17 = .ok (.istore_n 2, 1) := by decide +kernel
theorem dX8_reached_18 : decode cX8_reached 18 = .ok (.iinc 3 1, 3) := by decide +kernel
theorem dX8_reached_21 : decode cX8_reached 21 = .ok (.goto (-15), 3) := by decide +kernel
theorem dX8_reached_24 : decode cX8_reached 24 = .ok (.iload_n 2, 1) := by decide +kernel
theorem dX8_reached_25 : decode cX8_reached 25 = .ok (.ireturn, 1) := by decide +kernel
theorem dX8_nearest_0 : decode cX8_nearest 0 = .ok (.iconst 1, 1) := by decide +kernel
theorem dX8_nearest_1 : decode cX8_nearest 1 = .ok (.iload_n 1, 1) := by decide +kernel
theorem dX8_nearest_2 : decode cX8_nearest 2 = .ok (.ishl, 1) := by decide +kernel
theorem dX8_nearest_3 : decode cX8_nearest 3 = .ok (.istore_n 2, 1) := by decide +kernel
theorem dX8_nearest_4 : decode cX8_nearest 4 = .ok (.iconst 0, 1) := by decide +kernel
theorem dX8_nearest_5 : decode cX8_nearest 5 = .ok (.istore_n 3, 1) := by decide +kernel
theorem dX8_nearest_6 : decode cX8_nearest 6 = .ok (.iload_n 3, 1) := by decide +kernel
theorem dX8_nearest_7 : decode cX8_nearest 7 = .ok (.bipush 7, 2) := by decide +kernel
theorem dX8_nearest_9 : decode cX8_nearest 9 = .ok (.if_icmp .gt 50, 3) := by decide +kernel
theorem dX8_nearest_12 : decode cX8_nearest 12 = .ok (.iconst 0, 1) := by decide +kernel
theorem dX8_nearest_13 : decode cX8_nearest 13 = .ok (.istore 4, 2) := by decide +kernel
theorem dX8_nearest_15 : decode cX8_nearest 15 = .ok (.iload 4, 2) := by decide +kernel
theorem dX8_nearest_17 : decode cX8_nearest 17 = .ok (.aload_n 0, 1) := by decide +kernel
theorem dX8_nearest_18 : decode cX8_nearest 18 = .ok (.getfield 9, 3) := by decide +kernel
theorem dX8_nearest_21 : decode cX8_nearest 21 = .ok (.if_icmp .ge 26, 3) := by decide +kernel
theorem dX8_nearest_24 : decode cX8_nearest 24 = .ok (.iload_n 2, 1) := by decide +kernel
theorem dX8_nearest_25 : decode cX8_nearest 25 = .ok (.aload_n 0, 1) := by decide +kernel
theorem dX8_nearest_26 : decode cX8_nearest 26 = .ok (.getfield 29, 3) := by decide +kernel
theorem dX8_nearest_29 : decode cX8_nearest 29 = .ok (.iand, 1) := by decide +kernel
theorem dX8_nearest_30 : decode cX8_nearest 30 = .ok (.iload 4, 2) := by decide +kernel
theorem dX8_nearest_32 : decode cX8_nearest 32 = .ok (.ishr, 1) := by decide +kernel
theorem dX8_nearest_33 : decode cX8_nearest 33 = .ok (.iconst 1, 1) := by decide +kernel
theorem dX8_nearest_34 : decode cX8_nearest 34 = .ok (.iand, 1) := by decide +kernel
theorem dX8_nearest_35 : decode cX8_nearest 35 = .ok (.ifCond .eq 6, 3) := by decide +kernel
theorem dX8_nearest_38 : decode cX8_nearest 38 = .ok (.iload 4, 2) := by decide +kernel
theorem dX8_nearest_40 : decode cX8_nearest 40 = .ok (.ireturn, 1) := by decide +kernel
theorem dX8_nearest_41 : decode cX8_nearest 41 = .ok (.iinc 4 1, 3) := by decide +kernel
theorem dX8_nearest_44 : decode cX8_nearest 44 = .ok (.goto (-29), 3) := by decide +kernel
theorem dX8_nearest_47 : decode cX8_nearest 47 = .ok (.aload_n 0, 1) := by decide +kernel
theorem dX8_nearest_48 : decode cX8_nearest 48 = .ok (.iload_n 2, 1) := by decide +kernel
theorem dX8_nearest_49 : decode cX8_nearest 49 = .ok (.invokestatic 23, 3) := by decide +kernel
theorem dX8_nearest_52 : decode cX8_nearest 52 = .ok (.istore_n 2, 1) := by decide +kernel
theorem dX8_nearest_53 : decode cX8_nearest 53 = .ok (.iinc 3 1, 3) := by decide +kernel
theorem dX8_nearest_56 : decode cX8_nearest 56 = .ok (.goto (-50), 3) := by decide +kernel
theorem dX8_nearest_59 : decode cX8_nearest 59 = .ok (.iconst (-1), 1) := by decide +kernel
theorem dX8_nearest_60 : decode cX8_nearest 60 = .ok (.ireturn, 1) := by decide +kernel
theorem dX8_inOneClass_0 : decode cX8_inOneClass 0 = .ok (.aload_n 0, 1) := by decide +kernel
theorem dX8_inOneClass_1 : decode cX8_inOneClass 1 = .ok (.iload_n 1, 1) := by decide +kernel
theorem dX8_inOneClass_2 : decode cX8_inOneClass 2 = .ok (.invokestatic 45, 3) := by decide +kernel
theorem dX8_inOneClass_5 : decode cX8_inOneClass 5 = .ok (.istore_n 2, 1) := by decide +kernel
theorem dX8_inOneClass_6 : decode cX8_inOneClass 6 = .ok (.iconst 0, 1) := by decide +kernel
theorem dX8_inOneClass_7 : decode cX8_inOneClass 7 = .ok (.istore_n 3, 1) := by decide +kernel
theorem dX8_inOneClass_8 : decode cX8_inOneClass 8 = .ok (.iconst 0, 1) := by decide +kernel
theorem dX8_inOneClass_9 : decode cX8_inOneClass 9 = .ok (.istore 4, 2) := by decide +kernel
theorem dX8_inOneClass_11 : decode cX8_inOneClass 11 = .ok (.iload 4, 2) := by decide +kernel
theorem dX8_inOneClass_13 : decode cX8_inOneClass 13 = .ok (.aload_n 0, 1) := by decide +kernel
theorem dX8_inOneClass_14 : decode cX8_inOneClass 14 = .ok (.getfield 9, 3) := by decide +kernel
theorem dX8_inOneClass_17 : decode cX8_inOneClass 17 = .ok (.if_icmp .ge 38, 3) := by decide +kernel
theorem dX8_inOneClass_20 : decode cX8_inOneClass 20 = .ok (.iload_n 2, 1) := by decide +kernel
theorem dX8_inOneClass_21 : decode cX8_inOneClass 21 = .ok (.iload 4, 2) := by decide +kernel
theorem dX8_inOneClass_23 : decode cX8_inOneClass 23 = .ok (.ishr, 1) := by decide +kernel
theorem dX8_inOneClass_24 : decode cX8_inOneClass 24 = .ok (.iconst 1, 1) := by decide +kernel
theorem dX8_inOneClass_25 : decode cX8_inOneClass 25 = .ok (.iand, 1) := by decide +kernel
theorem dX8_inOneClass_26 : decode cX8_inOneClass 26 = .ok (.ifCond .eq 23, 3) := by decide +kernel
theorem dX8_inOneClass_29 : decode cX8_inOneClass 29 = .ok (.aload_n 0, 1) := by decide +kernel
theorem dX8_inOneClass_30 : decode cX8_inOneClass 30 = .ok (.iload 4, 2) := by decide +kernel
theorem dX8_inOneClass_32 : decode cX8_inOneClass 32 = .ok (.invokestatic 45, 3) := by decide +kernel
theorem dX8_inOneClass_35 : decode cX8_inOneClass 35 = .ok (.iload_n 1, 1) := by decide +kernel
theorem dX8_inOneClass_36 : decode cX8_inOneClass 36 = .ok (.ishr, 1) := by decide +kernel
theorem dX8_inOneClass_37 : decode cX8_inOneClass 37 = .ok (.iconst 1, 1) := by decide +kernel
theorem dX8_inOneClass_38 : decode cX8_inOneClass 38 = .ok (.iand, 1) := by decide +kernel
theorem dX8_inOneClass_39 : decode cX8_inOneClass 39 = .ok (.ifCond .eq 10, 3) := by decide +kernel
theorem dX8_inOneClass_42 : decode cX8_inOneClass 42 = .ok (.iload_n 3, 1) := by decide +kernel
theorem dX8_inOneClass_43 : decode cX8_inOneClass 43 = .ok (.iconst 1, 1) := by decide +kernel
theorem dX8_inOneClass_44 : decode cX8_inOneClass 44 = .ok (.iload 4, 2) := by decide +kernel
theorem dX8_inOneClass_46 : decode cX8_inOneClass 46 = .ok (.ishl, 1) := by decide +kernel
theorem dX8_inOneClass_47 : decode cX8_inOneClass 47 = .ok (.ior, 1) := by decide +kernel
theorem dX8_inOneClass_48 : decode cX8_inOneClass 48 = .ok (.istore_n 3, 1) := by decide +kernel
theorem dX8_inOneClass_49 : decode cX8_inOneClass 49 = .ok (.iinc 4 1, 3) := by decide +kernel
theorem dX8_inOneClass_52 : decode cX8_inOneClass 52 = .ok (.goto (-41), 3) := by decide +kernel
theorem dX8_inOneClass_55 : decode cX8_inOneClass 55 = .ok (.iload_n 3, 1) := by decide +kernel
theorem dX8_inOneClass_56 : decode cX8_inOneClass 56 = .ok (.ireturn, 1) := by decide +kernel
theorem dX8_howManyLead_0 : decode cX8_howManyLead 0 = .ok (.iconst 0, 1) := by decide +kernel
theorem dX8_howManyLead_1 : decode cX8_howManyLead 1 = .ok (.istore_n 3, 1) := by decide +kernel
theorem dX8_howManyLead_2 : decode cX8_howManyLead 2 = .ok (.iconst 0, 1) := by decide +kernel
theorem dX8_howManyLead_3 : decode cX8_howManyLead 3 = .ok (.istore 4, 2) := by decide +kernel
theorem dX8_howManyLead_5 : decode cX8_howManyLead 5 = .ok (.iload 4, 2) := by decide +kernel
theorem dX8_howManyLead_7 : decode cX8_howManyLead 7 = .ok (.aload_n 0, 1) := by decide +kernel
theorem dX8_howManyLead_8 : decode cX8_howManyLead 8 = .ok (.iload_n 1, 1) := by decide +kernel
theorem dX8_howManyLead_9 : decode cX8_howManyLead 9 = .ok (.invokevirtual 15, 3) := by decide +kernel
theorem dX8_howManyLead_12 : decode cX8_howManyLead 12 = .ok (.if_icmp .ge 28, 3) := by decide +kernel
theorem dX8_howManyLead_15 : decode cX8_howManyLead 15 = .ok (.iload_n 3, 1) := by decide +kernel
theorem dX8_howManyLead_16 : decode cX8_howManyLead 16 = .ok (.aload_n 0, 1) := by decide +kernel
theorem dX8_howManyLead_17 : decode cX8_howManyLead 17 = .ok (.iload_n 1, 1) := by decide +kernel
theorem dX8_howManyLead_18 : decode cX8_howManyLead 18 = .ok (.iload 4, 2) := by decide +kernel
theorem dX8_howManyLead_20 : decode cX8_howManyLead 20 = .ok (.invokevirtual 19, 3) := by decide +kernel
theorem dX8_howManyLead_23 : decode cX8_howManyLead 23 = .ok (.iload_n 2, 1) := by decide +kernel
theorem dX8_howManyLead_24 : decode cX8_howManyLead 24 = .ok (.if_icmp .ne 7, 3) := by decide +kernel
theorem dX8_howManyLead_27 : decode cX8_howManyLead 27 = .ok (.iconst 1, 1) := by decide +kernel
theorem dX8_howManyLead_28 : decode cX8_howManyLead 28 = .ok (.goto 4, 3) := by decide +kernel
theorem dX8_howManyLead_31 : decode cX8_howManyLead 31 = .ok (.iconst 0, 1) := by decide +kernel
theorem dX8_howManyLead_32 : decode cX8_howManyLead 32 = .ok (.iadd, 1) := by decide +kernel
theorem dX8_howManyLead_33 : decode cX8_howManyLead 33 = .ok (.istore_n 3, 1) := by decide +kernel
theorem dX8_howManyLead_34 : decode cX8_howManyLead 34 = .ok (.iinc 4 1, 3) := by decide +kernel
theorem dX8_howManyLead_37 : decode cX8_howManyLead 37 = .ok (.goto (-32), 3) := by decide +kernel
theorem dX8_howManyLead_40 : decode cX8_howManyLead 40 = .ok (.iload_n 3, 1) := by decide +kernel
theorem dX8_howManyLead_41 : decode cX8_howManyLead 41 = .ok (.ireturn, 1) := by decide +kernel
theorem dX8_howManyLeadTo_0 : decode cX8_howManyLeadTo 0 = .ok (.iconst 0, 1) := by decide +kernel
theorem dX8_howManyLeadTo_1 : decode cX8_howManyLeadTo 1 = .ok (.istore_n 2, 1) := by decide +kernel
theorem dX8_howManyLeadTo_2 : decode cX8_howManyLeadTo 2 = .ok (.iconst 0, 1) := by decide +kernel
theorem dX8_howManyLeadTo_3 : decode cX8_howManyLeadTo 3 = .ok (.istore_n 3, 1) := by decide +kernel
theorem dX8_howManyLeadTo_4 : decode cX8_howManyLeadTo 4 = .ok (.iload_n 3, 1) := by decide +kernel
theorem dX8_howManyLeadTo_5 : decode cX8_howManyLeadTo 5 = .ok (.aload_n 0, 1) := by decide +kernel
theorem dX8_howManyLeadTo_6 : decode cX8_howManyLeadTo 6 = .ok (.getfield 9, 3) := by decide +kernel
theorem dX8_howManyLeadTo_9 : decode cX8_howManyLeadTo 9 = .ok (.if_icmp .ge 18, 3) := by decide +kernel
theorem dX8_howManyLeadTo_12 : decode cX8_howManyLeadTo 12 = .ok (.iload_n 2, 1) := by decide +kernel
theorem dX8_howManyLeadTo_13 : decode cX8_howManyLeadTo 13 = .ok (.aload_n 0, 1) := by decide +kernel
theorem dX8_howManyLeadTo_14 : decode cX8_howManyLeadTo 14 = .ok (.iload_n 3, 1) := by decide +kernel
theorem dX8_howManyLeadTo_15 : decode cX8_howManyLeadTo 15 = .ok (.iload_n 1, 1) := by decide +kernel
theorem dX8_howManyLeadTo_16 : decode cX8_howManyLeadTo 16 = .ok (.invokestatic 52, 3) := by decide +kernel
theorem dX8_howManyLeadTo_19 : decode cX8_howManyLeadTo 19 = .ok (.iadd, 1) := by decide +kernel
theorem dX8_howManyLeadTo_20 : decode cX8_howManyLeadTo 20 = .ok (.istore_n 2, 1) := by decide +kernel
theorem dX8_howManyLeadTo_21 : decode cX8_howManyLeadTo 21 = .ok (.iinc 3 1, 3) := by decide +kernel
theorem dX8_howManyLeadTo_24 : decode cX8_howManyLeadTo 24 = .ok (.goto (-20), 3) := by decide +kernel
theorem dX8_howManyLeadTo_27 : decode cX8_howManyLeadTo 27 = .ok (.iload_n 2, 1) := by decide +kernel
theorem dX8_howManyLeadTo_28 : decode cX8_howManyLeadTo 28 = .ok (.ireturn, 1) := by decide +kernel
theorem dX8_heads_0 : decode cX8_heads 0 = .ok (.iconst 0, 1) := by decide +kernel
theorem dX8_heads_1 : decode cX8_heads 1 = .ok (.istore_n 1, 1) := by decide +kernel
theorem dX8_heads_2 : decode cX8_heads 2 = .ok (.iconst 0, 1) := by decide +kernel
theorem dX8_heads_3 : decode cX8_heads 3 = .ok (.istore_n 2, 1) := by decide +kernel
theorem dX8_heads_4 : decode cX8_heads 4 = .ok (.iload_n 2, 1) := by decide +kernel
theorem dX8_heads_5 : decode cX8_heads 5 = .ok (.aload_n 0, 1) := by decide +kernel
theorem dX8_heads_6 : decode cX8_heads 6 = .ok (.getfield 9, 3) := by decide +kernel
theorem dX8_heads_9 : decode cX8_heads 9 = .ok (.if_icmp .ge 25, 3) := by decide +kernel
theorem dX8_heads_12 : decode cX8_heads 12 = .ok (.iload_n 1, 1) := by decide +kernel
theorem dX8_heads_13 : decode cX8_heads 13 = .ok (.aload_n 0, 1) := by decide +kernel
theorem dX8_heads_14 : decode cX8_heads 14 = .ok (.iconst 1, 1) := by decide +kernel
theorem dX8_heads_15 : decode cX8_heads 15 = .ok (.iload_n 2, 1) := by decide +kernel
theorem dX8_heads_16 : decode cX8_heads 16 = .ok (.ishl, 1) := by decide +kernel
theorem dX8_heads_17 : decode cX8_heads 17 = .ok (.invokestatic 23, 3) := by decide +kernel
theorem dX8_heads_20 : decode cX8_heads 20 = .ok (.iconst 1, 1) := by decide +kernel
theorem dX8_heads_21 : decode cX8_heads 21 = .ok (.iload_n 2, 1) := by decide +kernel
theorem dX8_heads_22 : decode cX8_heads 22 = .ok (.ishl, 1) := by decide +kernel
theorem dX8_heads_23 : decode cX8_heads 23 = .ok (.iconst (-1), 1) := by decide +kernel
theorem dX8_heads_24 : decode cX8_heads 24 = .ok (.ixor, 1) := by decide +kernel
theorem dX8_heads_25 : decode cX8_heads 25 = .ok (.iand, 1) := by decide +kernel
theorem dX8_heads_26 : decode cX8_heads 26 = .ok (.ior, 1) := by decide +kernel
theorem dX8_heads_27 : decode cX8_heads 27 = .ok (.istore_n 1, 1) := by decide +kernel
theorem dX8_heads_28 : decode cX8_heads 28 = .ok (.iinc 2 1, 3) := by decide +kernel
theorem dX8_heads_31 : decode cX8_heads 31 = .ok (.goto (-27), 3) := by decide +kernel
theorem dX8_heads_34 : decode cX8_heads 34 = .ok (.iload_n 1, 1) := by decide +kernel
theorem dX8_heads_35 : decode cX8_heads 35 = .ok (.iconst (-1), 1) := by decide +kernel
theorem dX8_heads_36 : decode cX8_heads 36 = .ok (.ixor, 1) := by decide +kernel
theorem dX8_heads_37 : decode cX8_heads 37 = .ok (.iconst 1, 1) := by decide +kernel
theorem dX8_heads_38 : decode cX8_heads 38 = .ok (.aload_n 0, 1) := by decide +kernel
theorem dX8_heads_39 : decode cX8_heads 39 = .ok (.getfield 9, 3) := by decide +kernel
theorem dX8_heads_42 : decode cX8_heads 42 = .ok (.ishl, 1) := by decide +kernel
theorem dX8_heads_43 : decode cX8_heads 43 = .ok (.iconst 1, 1) := by decide +kernel
theorem dX8_heads_44 : decode cX8_heads 44 = .ok (.isub, 1) := by decide +kernel
theorem dX8_heads_45 : decode cX8_heads 45 = .ok (.iand, 1) := by decide +kernel
theorem dX8_heads_46 : decode cX8_heads 46 = .ok (.ireturn, 1) := by decide +kernel
theorem dX8_ends_0 : decode cX8_ends 0 = .ok (.iconst 0, 1) := by decide +kernel
theorem dX8_ends_1 : decode cX8_ends 1 = .ok (.istore_n 1, 1) := by decide +kernel
theorem dX8_ends_2 : decode cX8_ends 2 = .ok (.iconst 0, 1) := by decide +kernel
theorem dX8_ends_3 : decode cX8_ends 3 = .ok (.istore_n 2, 1) := by decide +kernel
theorem dX8_ends_4 : decode cX8_ends 4 = .ok (.iload_n 2, 1) := by decide +kernel
theorem dX8_ends_5 : decode cX8_ends 5 = .ok (.aload_n 0, 1) := by decide +kernel
theorem dX8_ends_6 : decode cX8_ends 6 = .ok (.getfield 9, 3) := by decide +kernel
theorem dX8_ends_9 : decode cX8_ends 9 = .ok (.if_icmp .ge 35, 3) := by decide +kernel
theorem dX8_ends_12 : decode cX8_ends 12 = .ok (.iload_n 1, 1) := by decide +kernel
theorem dX8_ends_13 : decode cX8_ends 13 = .ok (.aload_n 0, 1) := by decide +kernel
theorem dX8_ends_14 : decode cX8_ends 14 = .ok (.iload_n 2, 1) := by decide +kernel
theorem dX8_ends_15 : decode cX8_ends 15 = .ok (.invokevirtual 15, 3) := by decide +kernel
theorem dX8_ends_18 : decode cX8_ends 18 = .ok (.ifCond .ne 17, 3) := by decide +kernel
theorem dX8_ends_21 : decode cX8_ends 21 = .ok (.aload_n 0, 1) := by decide +kernel
theorem dX8_ends_22 : decode cX8_ends 22 = .ok (.iload_n 2, 1) := by decide +kernel
theorem dX8_ends_23 : decode cX8_ends 23 = .ok (.invokevirtual 48, 3) := by decide +kernel
theorem dX8_ends_26 : decode cX8_ends 26 = .ok (.ifCond .ne 9, 3) := by decide +kernel
theorem dX8_ends_29 : decode cX8_ends 29 = .ok (.iconst 1, 1) := by decide +kernel
theorem dX8_ends_30 : decode cX8_ends 30 = .ok (.iload_n 2, 1) := by decide +kernel
theorem dX8_ends_31 : decode cX8_ends 31 = .ok (.ishl, 1) := by decide +kernel
theorem dX8_ends_32 : decode cX8_ends 32 = .ok (.goto 4, 3) := by decide +kernel
theorem dX8_ends_35 : decode cX8_ends 35 = .ok (.iconst 0, 1) := by decide +kernel
theorem dX8_ends_36 : decode cX8_ends 36 = .ok (.ior, 1) := by decide +kernel
theorem dX8_ends_37 : decode cX8_ends 37 = .ok (.istore_n 1, 1) := by decide +kernel
theorem dX8_ends_38 : decode cX8_ends 38 = .ok (.iinc 2 1, 3) := by decide +kernel
theorem dX8_ends_41 : decode cX8_ends 41 = .ok (.goto (-37), 3) := by decide +kernel
theorem dX8_ends_44 : decode cX8_ends 44 = .ok (.iload_n 1, 1) := by decide +kernel
theorem dX8_ends_45 : decode cX8_ends 45 = .ok (.ireturn, 1) := by decide +kernel
theorem dX8_loops_0 : decode cX8_loops 0 = .ok (.iconst 0, 1) := by decide +kernel
theorem dX8_loops_1 : decode cX8_loops 1 = .ok (.istore_n 1, 1) := by decide +kernel
theorem dX8_loops_2 : decode cX8_loops 2 = .ok (.iconst 0, 1) := by decide +kernel
theorem dX8_loops_3 : decode cX8_loops 3 = .ok (.istore_n 2, 1) := by decide +kernel
theorem dX8_loops_4 : decode cX8_loops 4 = .ok (.iload_n 2, 1) := by decide +kernel
theorem dX8_loops_5 : decode cX8_loops 5 = .ok (.aload_n 0, 1) := by decide +kernel
theorem dX8_loops_6 : decode cX8_loops 6 = .ok (.getfield 9, 3) := by decide +kernel
theorem dX8_loops_9 : decode cX8_loops 9 = .ok (.if_icmp .ge 18, 3) := by decide +kernel
theorem dX8_loops_12 : decode cX8_loops 12 = .ok (.iload_n 1, 1) := by decide +kernel
theorem dX8_loops_13 : decode cX8_loops 13 = .ok (.aload_n 0, 1) := by decide +kernel
theorem dX8_loops_14 : decode cX8_loops 14 = .ok (.iload_n 2, 1) := by decide +kernel
theorem dX8_loops_15 : decode cX8_loops 15 = .ok (.iload_n 2, 1) := by decide +kernel
theorem dX8_loops_16 : decode cX8_loops 16 = .ok (.invokestatic 52, 3) := by decide +kernel
theorem dX8_loops_19 : decode cX8_loops 19 = .ok (.iadd, 1) := by decide +kernel
theorem dX8_loops_20 : decode cX8_loops 20 = .ok (.istore_n 1, 1) := by decide +kernel
theorem dX8_loops_21 : decode cX8_loops 21 = .ok (.iinc 2 1, 3) := by decide +kernel
theorem dX8_loops_24 : decode cX8_loops 24 = .ok (.goto (-20), 3) := by decide +kernel
theorem dX8_loops_27 : decode cX8_loops 27 = .ok (.iload_n 1, 1) := by decide +kernel
theorem dX8_loops_28 : decode cX8_loops 28 = .ok (.ireturn, 1) := by decide +kernel
theorem dX8_doubles_0 : decode cX8_doubles 0 = .ok (.iconst 0, 1) := by decide +kernel
theorem dX8_doubles_1 : decode cX8_doubles 1 = .ok (.istore_n 1, 1) := by decide +kernel
theorem dX8_doubles_2 : decode cX8_doubles 2 = .ok (.iconst 0, 1) := by decide +kernel
theorem dX8_doubles_3 : decode cX8_doubles 3 = .ok (.istore_n 2, 1) := by decide +kernel
theorem dX8_doubles_4 : decode cX8_doubles 4 = .ok (.iload_n 2, 1) := by decide +kernel
theorem dX8_doubles_5 : decode cX8_doubles 5 = .ok (.aload_n 0, 1) := by decide +kernel
theorem dX8_doubles_6 : decode cX8_doubles 6 = .ok (.getfield 9, 3) := by decide +kernel
theorem dX8_doubles_9 : decode cX8_doubles 9 = .ok (.if_icmp .ge 45, 3) := by decide +kernel
theorem dX8_doubles_12 : decode cX8_doubles 12 = .ok (.iconst 0, 1) := by decide +kernel
theorem dX8_doubles_13 : decode cX8_doubles 13 = .ok (.istore_n 3, 1) := by decide +kernel
theorem dX8_doubles_14 : decode cX8_doubles 14 = .ok (.iload_n 3, 1) := by decide +kernel
theorem dX8_doubles_15 : decode cX8_doubles 15 = .ok (.aload_n 0, 1) := by decide +kernel
theorem dX8_doubles_16 : decode cX8_doubles 16 = .ok (.getfield 9, 3) := by decide +kernel
theorem dX8_doubles_19 : decode cX8_doubles 19 = .ok (.if_icmp .ge 29, 3) := by decide +kernel
theorem dX8_doubles_22 : decode cX8_doubles 22 = .ok (.aload_n 0, 1) := by decide +kernel
theorem dX8_doubles_23 : decode cX8_doubles 23 = .ok (.iload_n 2, 1) := by decide +kernel
theorem dX8_doubles_24 : decode cX8_doubles 24 = .ok (.iload_n 3, 1) := by decide +kernel
theorem dX8_doubles_25 : decode cX8_doubles 25 = .ok (.invokestatic 52, 3) := by decide +kernel
theorem dX8_doubles_28 : decode cX8_doubles 28 = .ok (.istore 4, 2) := by decide +kernel
theorem dX8_doubles_30 : decode cX8_doubles 30 = .ok (.iload_n 1, 1) := by decide +kernel
theorem dX8_doubles_31 : decode cX8_doubles 31 = .ok (.iload 4, 2) := by decide +kernel
theorem dX8_doubles_33 : decode cX8_doubles 33 = .ok (.iload 4, 2) := by decide +kernel
theorem dX8_doubles_35 : decode cX8_doubles 35 = .ok (.iconst 1, 1) := by decide +kernel
theorem dX8_doubles_36 : decode cX8_doubles 36 = .ok (.isub, 1) := by decide +kernel
theorem dX8_doubles_37 : decode cX8_doubles 37 = .ok (.imul, 1) := by decide +kernel
theorem dX8_doubles_38 : decode cX8_doubles 38 = .ok (.iconst 2, 1) := by decide +kernel
theorem dX8_doubles_39 : decode cX8_doubles 39 = .ok (.idiv, 1) := by decide +kernel
theorem dX8_doubles_40 : decode cX8_doubles 40 = .ok (.iadd, 1) := by decide +kernel
theorem dX8_doubles_41 : decode cX8_doubles 41 = .ok (.istore_n 1, 1) := by decide +kernel
theorem dX8_doubles_42 : decode cX8_doubles 42 = .ok (.iinc 3 1, 3) := by decide +kernel
theorem dX8_doubles_45 : decode cX8_doubles 45 = .ok (.goto (-31), 3) := by decide +kernel
theorem dX8_doubles_48 : decode cX8_doubles 48 = .ok (.iinc 2 1, 3) := by decide +kernel
theorem dX8_doubles_51 : decode cX8_doubles 51 = .ok (.goto (-47), 3) := by decide +kernel
theorem dX8_doubles_54 : decode cX8_doubles 54 = .ok (.iload_n 1, 1) := by decide +kernel
theorem dX8_doubles_55 : decode cX8_doubles 55 = .ok (.ireturn, 1) := by decide +kernel
theorem dX8_even_0 : decode cX8_even 0 = .ok (.iconst 0, 1) := by decide +kernel
theorem dX8_even_1 : decode cX8_even 1 = .ok (.istore_n 1, 1) := by decide +kernel
theorem dX8_even_2 : decode cX8_even 2 = .ok (.iconst 0, 1) := by decide +kernel
theorem dX8_even_3 : decode cX8_even 3 = .ok (.istore_n 2, 1) := by decide +kernel
theorem dX8_even_4 : decode cX8_even 4 = .ok (.iload_n 2, 1) := by decide +kernel
theorem dX8_even_5 : decode cX8_even 5 = .ok (.aload_n 0, 1) := by decide +kernel
theorem dX8_even_6 : decode cX8_even 6 = .ok (.getfield 9, 3) := by decide +kernel
theorem dX8_even_9 : decode cX8_even 9 = .ok (.if_icmp .ge 32, 3) := by decide +kernel
theorem dX8_even_12 : decode cX8_even 12 = .ok (.iload_n 1, 1) := by decide +kernel
theorem dX8_even_13 : decode cX8_even 13 = .ok (.aload_n 0, 1) := by decide +kernel
theorem dX8_even_14 : decode cX8_even 14 = .ok (.iload_n 2, 1) := by decide +kernel
theorem dX8_even_15 : decode cX8_even 15 = .ok (.invokestatic 56, 3) := by decide +kernel
theorem dX8_even_18 : decode cX8_even 18 = .ok (.aload_n 0, 1) := by decide +kernel
theorem dX8_even_19 : decode cX8_even 19 = .ok (.iload_n 2, 1) := by decide +kernel
theorem dX8_even_20 : decode cX8_even 20 = .ok (.invokevirtual 15, 3) := by decide +kernel
theorem dX8_even_23 : decode cX8_even 23 = .ok (.if_icmp .ne 9, 3) := by decide +kernel
theorem dX8_even_26 : decode cX8_even 26 = .ok (.iconst 1, 1) := by decide +kernel
theorem dX8_even_27 : decode cX8_even 27 = .ok (.iload_n 2, 1) := by decide +kernel
theorem dX8_even_28 : decode cX8_even 28 = .ok (.ishl, 1) := by decide +kernel
theorem dX8_even_29 : decode cX8_even 29 = .ok (.goto 4, 3) := by decide +kernel
theorem dX8_even_32 : decode cX8_even 32 = .ok (.iconst 0, 1) := by decide +kernel
theorem dX8_even_33 : decode cX8_even 33 = .ok (.ior, 1) := by decide +kernel
theorem dX8_even_34 : decode cX8_even 34 = .ok (.istore_n 1, 1) := by decide +kernel
theorem dX8_even_35 : decode cX8_even 35 = .ok (.iinc 2 1, 3) := by decide +kernel
theorem dX8_even_38 : decode cX8_even 38 = .ok (.goto (-34), 3) := by decide +kernel
theorem dX8_even_41 : decode cX8_even 41 = .ok (.iload_n 1, 1) := by decide +kernel
theorem dX8_even_42 : decode cX8_even 42 = .ok (.ireturn, 1) := by decide +kernel
theorem dX8_busy_0 : decode cX8_busy 0 = .ok (.iconst (-1), 1) := by decide +kernel
theorem dX8_busy_1 : decode cX8_busy 1 = .ok (.istore_n 1, 1) := by decide +kernel
theorem dX8_busy_2 : decode cX8_busy 2 = .ok (.iconst (-1), 1) := by decide +kernel
theorem dX8_busy_3 : decode cX8_busy 3 = .ok (.istore_n 2, 1) := by decide +kernel
theorem dX8_busy_4 : decode cX8_busy 4 = .ok (.iconst 0, 1) := by decide +kernel
theorem dX8_busy_5 : decode cX8_busy 5 = .ok (.istore_n 3, 1) := by decide +kernel
theorem dX8_busy_6 : decode cX8_busy 6 = .ok (.iload_n 3, 1) := by decide +kernel
theorem dX8_busy_7 : decode cX8_busy 7 = .ok (.aload_n 0, 1) := by decide +kernel
theorem dX8_busy_8 : decode cX8_busy 8 = .ok (.getfield 9, 3) := by decide +kernel
theorem dX8_busy_11 : decode cX8_busy 11 = .ok (.if_icmp .ge 27, 3) := by decide +kernel
theorem dX8_busy_14 : decode cX8_busy 14 = .ok (.aload_n 0, 1) := by decide +kernel
theorem dX8_busy_15 : decode cX8_busy 15 = .ok (.iload_n 3, 1) := by decide +kernel
theorem dX8_busy_16 : decode cX8_busy 16 = .ok (.invokestatic 56, 3) := by decide +kernel
theorem dX8_busy_19 : decode cX8_busy 19 = .ok (.istore 4, 2) := by decide +kernel
theorem dX8_busy_21 : decode cX8_busy 21 = .ok (.iload 4, 2) := by decide +kernel
theorem dX8_busy_23 : decode cX8_busy 23 = .ok (.iload_n 2, 1) := by decide +kernel
theorem dX8_busy_24 : decode cX8_busy 24 = .ok (.if_icmp .le 8, 3) := by decide +kernel
theorem dX8_busy_27 : decode cX8_busy 27 = .ok (.iload 4, 2) := by decide +kernel
theorem dX8_busy_29 : decode cX8_busy 29 = .ok (.istore_n 2, 1) := by decide +kernel
theorem dX8_busy_30 : decode cX8_busy 30 = .ok (.iload_n 3, 1) := by decide +kernel
theorem dX8_busy_31 : decode cX8_busy 31 = .ok (.istore_n 1, 1) := by decide +kernel
theorem dX8_busy_32 : decode cX8_busy 32 = .ok (.iinc 3 1, 3) := by decide +kernel
theorem dX8_busy_35 : decode cX8_busy 35 = .ok (.goto (-29), 3) := by decide +kernel
theorem dX8_busy_38 : decode cX8_busy 38 = .ok (.iload_n 1, 1) := by decide +kernel
theorem dX8_busy_39 : decode cX8_busy 39 = .ok (.ireturn, 1) := by decide +kernel
theorem dJ6_bitCount_0f7a4_0 : decode cJ6_bitCount_0f7a4 0 = .ok (.iload_n 0, 1) := by decide +kernel
theorem dJ6_bitCount_0f7a4_1 : decode cJ6_bitCount_0f7a4 1 = .ok (.iload_n 0, 1) := by decide +kernel
theorem dJ6_bitCount_0f7a4_2 : decode cJ6_bitCount_0f7a4 2 = .ok (.iconst 1, 1) := by decide +kernel
theorem dJ6_bitCount_0f7a4_3 : decode cJ6_bitCount_0f7a4 3 = .ok (.iushr, 1) := by decide +kernel
theorem dJ6_bitCount_0f7a4_4 : decode cJ6_bitCount_0f7a4 4 = .ok (.ldc_w 265, 3) := by decide +kernel
theorem dJ6_bitCount_0f7a4_7 : decode cJ6_bitCount_0f7a4 7 = .ok (.iand, 1) := by decide +kernel
theorem dJ6_bitCount_0f7a4_8 : decode cJ6_bitCount_0f7a4 8 = .ok (.isub, 1) := by decide +kernel
theorem dJ6_bitCount_0f7a4_9 : decode cJ6_bitCount_0f7a4 9 = .ok (.istore_n 0, 1) := by decide +kernel
theorem dJ6_bitCount_0f7a4_10 : decode cJ6_bitCount_0f7a4 10 = .ok (.iload_n 0, 1) := by decide +kernel
theorem dJ6_bitCount_0f7a4_11 : decode cJ6_bitCount_0f7a4 11 = .ok (.ldc_w 266, 3) := by decide +kernel
theorem dJ6_bitCount_0f7a4_14 : decode cJ6_bitCount_0f7a4 14 = .ok (.iand, 1) := by decide +kernel
theorem dJ6_bitCount_0f7a4_15 : decode cJ6_bitCount_0f7a4 15 = .ok (.iload_n 0, 1) := by decide +kernel
theorem dJ6_bitCount_0f7a4_16 : decode cJ6_bitCount_0f7a4 16 = .ok (.iconst 2, 1) := by decide +kernel
theorem dJ6_bitCount_0f7a4_17 : decode cJ6_bitCount_0f7a4 17 = .ok (.iushr, 1) := by decide +kernel
theorem dJ6_bitCount_0f7a4_18 : decode cJ6_bitCount_0f7a4 18 = .ok (.ldc_w 266, 3) := by decide +kernel
theorem dJ6_bitCount_0f7a4_21 : decode cJ6_bitCount_0f7a4 21 = .ok (.iand, 1) := by decide +kernel
theorem dJ6_bitCount_0f7a4_22 : decode cJ6_bitCount_0f7a4 22 = .ok (.iadd, 1) := by decide +kernel
theorem dJ6_bitCount_0f7a4_23 : decode cJ6_bitCount_0f7a4 23 = .ok (.istore_n 0, 1) := by decide +kernel
theorem dJ6_bitCount_0f7a4_24 : decode cJ6_bitCount_0f7a4 24 = .ok (.iload_n 0, 1) := by decide +kernel
theorem dJ6_bitCount_0f7a4_25 : decode cJ6_bitCount_0f7a4 25 = .ok (.iload_n 0, 1) := by decide +kernel
theorem dJ6_bitCount_0f7a4_26 : decode cJ6_bitCount_0f7a4 26 = .ok (.iconst 4, 1) := by decide +kernel
theorem dJ6_bitCount_0f7a4_27 : decode cJ6_bitCount_0f7a4 27 = .ok (.iushr, 1) := by decide +kernel
theorem dJ6_bitCount_0f7a4_28 : decode cJ6_bitCount_0f7a4 28 = .ok (.iadd, 1) := by decide +kernel
theorem dJ6_bitCount_0f7a4_29 : decode cJ6_bitCount_0f7a4 29 = .ok (.ldc_w 267, 3) := by decide +kernel
theorem dJ6_bitCount_0f7a4_32 : decode cJ6_bitCount_0f7a4 32 = .ok (.iand, 1) := by decide +kernel
theorem dJ6_bitCount_0f7a4_33 : decode cJ6_bitCount_0f7a4 33 = .ok (.istore_n 0, 1) := by decide +kernel
theorem dJ6_bitCount_0f7a4_34 : decode cJ6_bitCount_0f7a4 34 = .ok (.iload_n 0, 1) := by decide +kernel
theorem dJ6_bitCount_0f7a4_35 : decode cJ6_bitCount_0f7a4 35 = .ok (.iload_n 0, 1) := by decide +kernel
theorem dJ6_bitCount_0f7a4_36 : decode cJ6_bitCount_0f7a4 36 = .ok (.bipush 8, 2) := by decide +kernel
theorem dJ6_bitCount_0f7a4_38 : decode cJ6_bitCount_0f7a4 38 = .ok (.iushr, 1) := by decide +kernel
theorem dJ6_bitCount_0f7a4_39 : decode cJ6_bitCount_0f7a4 39 = .ok (.iadd, 1) := by decide +kernel
theorem dJ6_bitCount_0f7a4_40 : decode cJ6_bitCount_0f7a4 40 = .ok (.istore_n 0, 1) := by decide +kernel
theorem dJ6_bitCount_0f7a4_41 : decode cJ6_bitCount_0f7a4 41 = .ok (.iload_n 0, 1) := by decide +kernel
theorem dJ6_bitCount_0f7a4_42 : decode cJ6_bitCount_0f7a4 42 = .ok (.iload_n 0, 1) := by decide +kernel
theorem dJ6_bitCount_0f7a4_43 : decode cJ6_bitCount_0f7a4 43 = .ok (.bipush 16, 2) := by decide +kernel
theorem dJ6_bitCount_0f7a4_45 : decode cJ6_bitCount_0f7a4 45 = .ok (.iushr, 1) := by decide +kernel
theorem dJ6_bitCount_0f7a4_46 : decode cJ6_bitCount_0f7a4 46 = .ok (.iadd, 1) := by decide +kernel
theorem dJ6_bitCount_0f7a4_47 : decode cJ6_bitCount_0f7a4 47 = .ok (.istore_n 0, 1) := by decide +kernel
theorem dJ6_bitCount_0f7a4_48 : decode cJ6_bitCount_0f7a4 48 = .ok (.iload_n 0, 1) := by decide +kernel
theorem dJ6_bitCount_0f7a4_49 : decode cJ6_bitCount_0f7a4 49 = .ok (.bipush 63, 2) := by decide +kernel
theorem dJ6_bitCount_0f7a4_51 : decode cJ6_bitCount_0f7a4 51 = .ok (.iand, 1) := by decide +kernel
theorem dJ6_bitCount_0f7a4_52 : decode cJ6_bitCount_0f7a4 52 = .ok (.ireturn, 1) := by decide +kernel
theorem dX8_parts_0 : decode cX8_parts 0 = .ok (.iconst 0, 1) := by decide +kernel
theorem dX8_parts_1 : decode cX8_parts 1 = .ok (.istore_n 2, 1) := by decide +kernel
theorem dX8_parts_2 : decode cX8_parts 2 = .ok (.iconst 0, 1) := by decide +kernel
theorem dX8_parts_3 : decode cX8_parts 3 = .ok (.istore_n 3, 1) := by decide +kernel
theorem dX8_parts_4 : decode cX8_parts 4 = .ok (.iconst 0, 1) := by decide +kernel
theorem dX8_parts_5 : decode cX8_parts 5 = .ok (.istore 4, 2) := by decide +kernel
theorem dX8_parts_7 : decode cX8_parts 7 = .ok (.iload 4, 2) := by decide +kernel
theorem dX8_parts_9 : decode cX8_parts 9 = .ok (.aload_n 0, 1) := by decide +kernel
theorem dX8_parts_10 : decode cX8_parts 10 = .ok (.getfield 9, 3) := by decide +kernel
theorem dX8_parts_13 : decode cX8_parts 13 = .ok (.if_icmp .ge 42, 3) := by decide +kernel
theorem dX8_parts_16 : decode cX8_parts 16 = .ok (.aload_n 0, 1) := by decide +kernel
theorem dX8_parts_17 : decode cX8_parts 17 = .ok (.iload 4, 2) := by decide +kernel
theorem dX8_parts_19 : decode cX8_parts 19 = .ok (.invokestatic 32, 3) := by decide +kernel
theorem dX8_parts_22 : decode cX8_parts 22 = .ok (.istore 5, 2) := by decide +kernel
theorem dX8_parts_24 : decode cX8_parts 24 = .ok (.iload 5, 2) := by decide +kernel
theorem dX8_parts_26 : decode cX8_parts 26 = .ok (.iconst 1, 1) := by decide +kernel
theorem dX8_parts_27 : decode cX8_parts 27 = .ok (.iload 4, 2) := by decide +kernel
theorem dX8_parts_29 : decode cX8_parts 29 = .ok (.ishl, 1) := by decide +kernel
theorem dX8_parts_30 : decode cX8_parts 30 = .ok (.iconst 1, 1) := by decide +kernel
theorem dX8_parts_31 : decode cX8_parts 31 = .ok (.isub, 1) := by decide +kernel
theorem dX8_parts_32 : decode cX8_parts 32 = .ok (.iand, 1) := by decide +kernel
theorem dX8_parts_33 : decode cX8_parts 33 = .ok (.ifCond .ne 6, 3) := by decide +kernel
theorem dX8_parts_36 : decode cX8_parts 36 = .ok (.iinc 2 1, 3) := by decide +kernel
theorem dX8_parts_39 : decode cX8_parts 39 = .ok (.iload_n 3, 1) := by decide +kernel
theorem dX8_parts_40 : decode cX8_parts 40 = .ok (.iload 5, 2) := by decide +kernel
theorem dX8_parts_42 : decode cX8_parts 42 = .ok (.invokestatic 35, 3) := by decide +kernel
theorem dX8_parts_45 : decode cX8_parts 45 = .ok (.invokestatic 40, 3) := by decide +kernel
theorem dX8_parts_48 : decode cX8_parts 48 = .ok (.istore_n 3, 1) := by decide +kernel
theorem dX8_parts_49 : decode cX8_parts 49 = .ok (.iinc 4 1, 3) := by decide +kernel
theorem dX8_parts_52 : decode cX8_parts 52 = .ok (.goto (-45), 3) := by decide +kernel
theorem dX8_parts_55 : decode cX8_parts 55 = .ok (.iload_n 1, 1) := by decide +kernel
theorem dX8_parts_56 : decode cX8_parts 56 = .ok (.ifCond .eq 7, 3) := by decide +kernel
theorem dX8_parts_59 : decode cX8_parts 59 = .ok (.iload_n 3, 1) := by decide +kernel
theorem dX8_parts_60 : decode cX8_parts 60 = .ok (.goto 4, 3) := by decide +kernel
theorem dX8_parts_63 : decode cX8_parts 63 = .ok (.iload_n 2, 1) := by decide +kernel
theorem dX8_parts_64 : decode cX8_parts 64 = .ok (.ireturn, 1) := by decide +kernel
theorem dX8_ring_0 : decode cX8_ring 0 = .ok (.iload_n 1, 1) := by decide +kernel
theorem dX8_ring_1 : decode cX8_ring 1 = .ok (.istore_n 2, 1) := by decide +kernel
theorem dX8_ring_2 : decode cX8_ring 2 = .ok (.iconst 1, 1) := by decide +kernel
theorem dX8_ring_3 : decode cX8_ring 3 = .ok (.istore_n 3, 1) := by decide +kernel
theorem dX8_ring_4 : decode cX8_ring 4 = .ok (.iload_n 3, 1) := by decide +kernel
theorem dX8_ring_5 : decode cX8_ring 5 = .ok (.bipush 7, 2) := by decide +kernel
theorem dX8_ring_7 : decode cX8_ring 7 = .ok (.if_icmp .gt 40, 3) := by decide +kernel
theorem dX8_ring_10 : decode cX8_ring 10 = .ok (.aload_n 0, 1) := by decide +kernel
theorem dX8_ring_11 : decode cX8_ring 11 = .ok (.iload_n 2, 1) := by decide +kernel
theorem dX8_ring_12 : decode cX8_ring 12 = .ok (.invokevirtual 59, 3) := by decide +kernel
theorem dX8_ring_15 : decode cX8_ring 15 = .ok (.ifCond .eq 17, 3) := by decide +kernel
theorem dX8_ring_18 : decode cX8_ring 18 = .ok (.aload_n 0, 1) := by decide +kernel
theorem dX8_ring_19 : decode cX8_ring 19 = .ok (.iload_n 2, 1) := by decide +kernel
theorem dX8_ring_20 : decode cX8_ring 20 = .ok (.aload_n 0, 1) := by decide +kernel
theorem dX8_ring_21 : decode cX8_ring 21 = .ok (.getfield 62, 3) := by decide +kernel
theorem dX8_ring_24 : decode cX8_ring 24 = .ok (.iload_n 2, 1) := by decide +kernel
theorem dX8_ring_25 : decode cX8_ring 25 = .ok (.iaload, 1) := by decide +kernel
theorem dX8_ring_26 : decode cX8_ring 26 = .ok (.invokevirtual 19, 3) := by decide +kernel
theorem dX8_ring_29 : decode cX8_ring 29 = .ok (.goto 4, 3) := by decide +kernel
theorem dX8_ring_32 : decode cX8_ring 32 = .ok (.iconst (-1), 1) := by decide +kernel
theorem dX8_ring_33 : decode cX8_ring 33 = .ok (.istore_n 2, 1) := by decide +kernel
theorem dX8_ring_34 : decode cX8_ring 34 = .ok (.iload_n 2, 1) := by decide +kernel
theorem dX8_ring_35 : decode cX8_ring 35 = .ok (.iload_n 1, 1) := by decide +kernel
theorem dX8_ring_36 : decode cX8_ring 36 = .ok (.if_icmp .ne 5, 3) := by decide +kernel
theorem dX8_ring_39 : decode cX8_ring 39 = .ok (.iload_n 3, 1) := by decide +kernel
theorem dX8_ring_40 : decode cX8_ring 40 = .ok (.ireturn, 1) := by decide +kernel
theorem dX8_ring_41 : decode cX8_ring 41 = .ok (.iinc 3 1, 3) := by decide +kernel
theorem dX8_ring_44 : decode cX8_ring 44 = .ok (.goto (-40), 3) := by decide +kernel
theorem dX8_ring_47 : decode cX8_ring 47 = .ok (.iconst 0, 1) := by decide +kernel
theorem dX8_ring_48 : decode cX8_ring 48 = .ok (.ireturn, 1) := by decide +kernel


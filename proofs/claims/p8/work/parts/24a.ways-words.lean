theorem m_co_X0_entry : Cond.code yX0_entry cX0_entry 4 (some .int) ∈ zT := zmem1 zsub_5 27 (by decide +kernel) (by decide +kernel)
theorem m_ml_RX0_91 : Cond.methodLink RX0 91 yX0_entry ∈ zT := zmem1 zsub_5 24 (by decide +kernel) (by decide +kernel)
theorem m_im_X0_entry : Cond.instanceMethod yX0_entry ∈ zT := zmem1 zsub_5 26 (by decide +kernel) (by decide +kernel)
theorem m_se_X0_entry : Cond.selects RX0 yX0_entry yX0_entry ∈ zT := zmem 37 (by decide +kernel) (by decide +kernel)
theorem m_ii_RX0 : Cond.initialized RX0 ∈ zT := zmem1 zsub_1 10 (by decide +kernel) (by decide +kernel)
theorem m_ko_RX0_90 : Cond.constant RX0 90 131071 ∈ zT := zmem1 zsub_5 7 (by decide +kernel) (by decide +kernel)
theorem m_co_X0_where : Cond.code yX0_where cX0_where 3 (some .int) ∈ zT := zmem1 zsub_5 23 (by decide +kernel) (by decide +kernel)
theorem m_ml_RX0_94 : Cond.methodLink RX0 94 yX0_where ∈ zT := zmem1 zsub_5 20 (by decide +kernel) (by decide +kernel)
theorem m_im_X0_where : Cond.instanceMethod yX0_where ∈ zT := zmem1 zsub_5 21 (by decide +kernel) (by decide +kernel)
theorem m_se_X0_where : Cond.selects RX0 yX0_where yX0_where ∈ zT := zmem1 zsub_5 22 (by decide +kernel) (by decide +kernel)
theorem m_ml_RX0_97 : Cond.methodLink RX0 97 yX4_isInn ∈ zT := zmem1 zsub_5 69 (by decide +kernel) (by decide +kernel)
theorem m_co_X0_steps : Cond.code yX0_steps cX0_steps 3 (some .int) ∈ zT := zmem1 zsub_5 52 (by decide +kernel) (by decide +kernel)
theorem m_ml_RX0_101 : Cond.methodLink RX0 101 yX0_steps ∈ zT := zmem1 zsub_5 101 (by decide +kernel) (by decide +kernel)
theorem m_im_X0_steps : Cond.instanceMethod yX0_steps ∈ zT := zmem1 zsub_5 50 (by decide +kernel) (by decide +kernel)
theorem m_se_X0_steps : Cond.selects RX0 yX0_steps yX0_steps ∈ zT := zmem1 zsub_5 51 (by decide +kernel) (by decide +kernel)
theorem m_ml_RX0_61 : Cond.methodLink RX0 61 yX4_waysOut ∈ zT := zmem1 zsub_4 219 (by decide +kernel) (by decide +kernel)
theorem m_co_X0_road : Cond.code yX0_road cX0_road 3 (some .int) ∈ zT := zmem1 zsub_4 238 (by decide +kernel) (by decide +kernel)
theorem m_ml_RX0_81 : Cond.methodLink RX0 81 yX0_road ∈ zT := zmem1 zsub_4 235 (by decide +kernel) (by decide +kernel)
theorem m_im_X0_road : Cond.instanceMethod yX0_road ∈ zT := zmem1 zsub_4 236 (by decide +kernel) (by decide +kernel)
theorem m_se_X0_road : Cond.selects RX0 yX0_road yX0_road ∈ zT := zmem1 zsub_4 237 (by decide +kernel) (by decide +kernel)
theorem m_fl_RX0_104 : Cond.fieldLink RX0 104 (TX4 4).1 (TX4 4).2.1 (TX4 4).2.2.1 ∈ zT := zmem1 zsub_1 60 (by decide +kernel) (by decide +kernel)
theorem m_fl_RX0_107 : Cond.fieldLink RX0 107 (TX4 0).1 (TX4 0).2.1 (TX4 0).2.2.1 ∈ zT := zmem1 zsub_1 47 (by decide +kernel) (by decide +kernel)
theorem m_co_X0_wayTold : Cond.code yX0_wayTold cX0_wayTold 3 (some .int) ∈ zT := zmem1 zsub_5 19 (by decide +kernel) (by decide +kernel)
theorem m_ml_RX0_110 : Cond.methodLink RX0 110 yX0_wayTold ∈ zT := zmem1 zsub_5 16 (by decide +kernel) (by decide +kernel)
theorem m_im_X0_wayTold : Cond.instanceMethod yX0_wayTold ∈ zT := zmem1 zsub_5 17 (by decide +kernel) (by decide +kernel)
theorem m_se_X0_wayTold : Cond.selects RX0 yX0_wayTold yX0_wayTold ∈ zT := zmem1 zsub_5 18 (by decide +kernel) (by decide +kernel)
theorem m_fl_RX0_57 : Cond.fieldLink RX0 57 (TX0 1).1 (TX0 1).2.1 (TX0 1).2.2.1 ∈ zT := zmem1 zsub_2 108 (by decide +kernel) (by decide +kernel)
theorem m_co_X0_unlike : Cond.code yX0_unlike cX0_unlike 5 (some .int) ∈ zT := zmem1 zsub_5 31 (by decide +kernel) (by decide +kernel)
theorem m_ml_RX0_114 : Cond.methodLink RX0 114 yX0_unlike ∈ zT := zmem1 zsub_5 28 (by decide +kernel) (by decide +kernel)
theorem m_im_X0_unlike : Cond.instanceMethod yX0_unlike ∈ zT := zmem1 zsub_5 29 (by decide +kernel) (by decide +kernel)
theorem m_se_X0_unlike : Cond.selects RX0 yX0_unlike yX0_unlike ∈ zT := zmem1 zsub_5 30 (by decide +kernel) (by decide +kernel)
theorem m_ml_RX0_117 : Cond.methodLink RX0 117 yJ6_bitCount_0f7a4 ∈ zT := zmem1 zsub_5 32 (by decide +kernel) (by decide +kernel)
theorem m_ml_RX0_84 : Cond.methodLink RX0 84 yX4_target ∈ zT := zmem1 zsub_4 239 (by decide +kernel) (by decide +kernel)
theorem m_co_X0_comesByRow : Cond.code yX0_comesByRow cX0_comesByRow 4 (some .boolean) ∈ zT := zmem1 zsub_5 68 (by decide +kernel) (by decide +kernel)
theorem m_ml_RX0_129 : Cond.methodLink RX0 129 yX0_comesByRow ∈ zT := zmem1 zsub_5 65 (by decide +kernel) (by decide +kernel)
theorem m_im_X0_comesByRow : Cond.instanceMethod yX0_comesByRow ∈ zT := zmem1 zsub_5 67 (by decide +kernel) (by decide +kernel)
theorem m_se_X0_comesByRow : Cond.selects RX0 yX0_comesByRow yX0_comesByRow ∈ zT := zmem 39 (by decide +kernel) (by decide +kernel)
theorem kV_RX0_91 {R : Room} {s : State} {args : Array Value} {d mc ms : Nat} (hts : ∀ w ∈ zT, w.before args s = true) (h1 : d + 1 ≤ R.frames) (h2 : 8 + (4 + 11) + 40 * d ≤ R.locals) : CallW R s args RX0 RX0 91 yX0_entry cX0_entry 4 (some .int) (zW yX0_entry cX0_entry 4 (some .int)) (zR d mc ms) mc ms 2 := z_cwV hts m_co_X0_entry m_ml_RX0_91 m_im_X0_entry m_se_X0_entry m_ii_RX0 (by decide +kernel) h1 h2
theorem kV_RX0_94 {R : Room} {s : State} {args : Array Value} {d mc ms : Nat} (hts : ∀ w ∈ zT, w.before args s = true) (h1 : d + 1 ≤ R.frames) (h2 : 8 + (3 + 11) + 40 * d ≤ R.locals) : CallW R s args RX0 RX0 94 yX0_where cX0_where 3 (some .int) (zW yX0_where cX0_where 3 (some .int)) (zR d mc ms) mc ms 2 := z_cwV hts m_co_X0_where m_ml_RX0_94 m_im_X0_where m_se_X0_where m_ii_RX0 (by decide +kernel) h1 h2
theorem kV_RX0_97 {R : Room} {s : State} {args : Array Value} {d mc ms : Nat} (hts : ∀ w ∈ zT, w.before args s = true) (h1 : d + 1 ≤ R.frames) (h2 : 8 + (2 + 11) + 40 * d ≤ R.locals) : CallW R s args RX0 RX4 97 yX4_isInn cX4_isInn 2 (some .boolean) (zW yX4_isInn cX4_isInn 2 (some .boolean)) (zR d mc ms) mc ms 1 := z_cwV hts m_co_X4_isInn m_ml_RX0_97 m_im_X4_isInn m_se_X4_isInn m_ii_RX4 (by decide +kernel) h1 h2
theorem kV_RX0_101 {R : Room} {s : State} {args : Array Value} {d mc ms : Nat} (hts : ∀ w ∈ zT, w.before args s = true) (h1 : d + 1 ≤ R.frames) (h2 : 8 + (3 + 11) + 40 * d ≤ R.locals) : CallW R s args RX0 RX0 101 yX0_steps cX0_steps 3 (some .int) (zW yX0_steps cX0_steps 3 (some .int)) (zR d mc ms) mc ms 2 := z_cwV hts m_co_X0_steps m_ml_RX0_101 m_im_X0_steps m_se_X0_steps m_ii_RX0 (by decide +kernel) h1 h2
theorem kV_RX0_61 {R : Room} {s : State} {args : Array Value} {d mc ms : Nat} (hts : ∀ w ∈ zT, w.before args s = true) (h1 : d + 1 ≤ R.frames) (h2 : 8 + (2 + 11) + 40 * d ≤ R.locals) : CallW R s args RX0 RX4 61 yX4_waysOut cX4_waysOut 2 (some .int) (zW yX4_waysOut cX4_waysOut 2 (some .int)) (zR d mc ms) mc ms 1 := z_cwV hts m_co_X4_waysOut m_ml_RX0_61 m_im_X4_waysOut m_se_X4_waysOut m_ii_RX4 (by decide +kernel) h1 h2
theorem kV_RX0_81 {R : Room} {s : State} {args : Array Value} {d mc ms : Nat} (hts : ∀ w ∈ zT, w.before args s = true) (h1 : d + 1 ≤ R.frames) (h2 : 8 + (3 + 11) + 40 * d ≤ R.locals) : CallW R s args RX0 RX0 81 yX0_road cX0_road 3 (some .int) (zW yX0_road cX0_road 3 (some .int)) (zR d mc ms) mc ms 2 := z_cwV hts m_co_X0_road m_ml_RX0_81 m_im_X0_road m_se_X0_road m_ii_RX0 (by decide +kernel) h1 h2
theorem kV_RX0_110 {R : Room} {s : State} {args : Array Value} {d mc ms : Nat} (hts : ∀ w ∈ zT, w.before args s = true) (h1 : d + 1 ≤ R.frames) (h2 : 8 + (3 + 11) + 40 * d ≤ R.locals) : CallW R s args RX0 RX0 110 yX0_wayTold cX0_wayTold 3 (some .int) (zW yX0_wayTold cX0_wayTold 3 (some .int)) (zR d mc ms) mc ms 0 := z_cwV hts m_co_X0_wayTold m_ml_RX0_110 m_im_X0_wayTold m_se_X0_wayTold m_ii_RX0 (by decide +kernel) h1 h2
theorem kV_RX0_114 {R : Room} {s : State} {args : Array Value} {d mc ms : Nat} (hts : ∀ w ∈ zT, w.before args s = true) (h1 : d + 1 ≤ R.frames) (h2 : 8 + (5 + 11) + 40 * d ≤ R.locals) : CallW R s args RX0 RX0 114 yX0_unlike cX0_unlike 5 (some .int) (zW yX0_unlike cX0_unlike 5 (some .int)) (zR d mc ms) mc ms 2 := z_cwV hts m_co_X0_unlike m_ml_RX0_114 m_im_X0_unlike m_se_X0_unlike m_ii_RX0 (by decide +kernel) h1 h2
theorem kS_RX0_117 {R : Room} {s : State} {args : Array Value} {d mc ms : Nat} (hts : ∀ w ∈ zT, w.before args s = true) (h1 : d + 1 ≤ R.frames) (h2 : 8 + (1 + 11) + 40 * d ≤ R.locals) : CallB R s args RX0 117 yJ6_bitCount_0f7a4 cJ6_bitCount_0f7a4 1 (some .int) (zW yJ6_bitCount_0f7a4 cJ6_bitCount_0f7a4 1 (some .int)) (zR d mc ms) mc ms 1 ∧ (Cond.static yJ6_bitCount_0f7a4).before args s = true := z_cwS hts m_co_J6_bitCount_0f7a4 m_ml_RX0_117 m_st_J6_bitCount_0f7a4 m_ii_RJ6 (by decide +kernel) h1 h2
theorem kV_RX0_84 {R : Room} {s : State} {args : Array Value} {d mc ms : Nat} (hts : ∀ w ∈ zT, w.before args s = true) (h1 : d + 1 ≤ R.frames) (h2 : 8 + (3 + 11) + 40 * d ≤ R.locals) : CallW R s args RX0 RX4 84 yX4_target cX4_target 3 (some .int) (zW yX4_target cX4_target 3 (some .int)) (zR d mc ms) mc ms 2 := z_cwV hts m_co_X4_target m_ml_RX0_84 m_im_X4_target m_se_X4_target m_ii_RX4 (by decide +kernel) h1 h2
theorem kV_RX0_129 {R : Room} {s : State} {args : Array Value} {d mc ms : Nat} (hts : ∀ w ∈ zT, w.before args s = true) (h1 : d + 1 ≤ R.frames) (h2 : 8 + (4 + 11) + 40 * d ≤ R.locals) : CallW R s args RX0 RX0 129 yX0_comesByRow cX0_comesByRow 4 (some .boolean) (zW yX0_comesByRow cX0_comesByRow 4 (some .boolean)) (zR d mc ms) mc ms 1 := z_cwV hts m_co_X0_comesByRow m_ml_RX0_129 m_im_X0_comesByRow m_se_X0_comesByRow m_ii_RX0 (by decide +kernel) h1 h2
theorem dX0_place_0 : decode cX0_place 0 = .ok (.iload_n 0, 1) := by decide +kernel
theorem dX0_place_1 : decode cX0_place 1 = .ok (.iconst 3, 1) := by decide +kernel
theorem dX0_place_2 : decode cX0_place 2 = .ok (.ishl, 1) := by decide +kernel
theorem dX0_place_3 : decode cX0_place 3 = .ok (.iload_n 1, 1) := by decide +kernel
theorem dX0_place_4 : decode cX0_place 4 = .ok (.iadd, 1) := by decide +kernel
theorem dX0_place_5 : decode cX0_place 5 = .ok (.ireturn, 1) := by decide +kernel
theorem dX0_road_0 : decode cX0_road 0 = .ok (.iload_n 2, 1) := by decide +kernel
theorem dX0_road_1 : decode cX0_road 1 = .ok (.ifCond .lt 29, 3) := by decide +kernel
theorem dX0_road_4 : decode cX0_road 4 = .ok (.iload_n 2, 1) := by decide +kernel
theorem dX0_road_5 : decode cX0_road 5 = .ok (.bipush 7, 2) := by decide +kernel
theorem dX0_road_7 : decode cX0_road 7 = .ok (.if_icmp .ge 23, 3) := by decide +kernel
theorem dX0_road_10 : decode cX0_road 10 = .ok (.aload_n 0, 1) := by decide +kernel
theorem dX0_road_11 : decode cX0_road 11 = .ok (.getfield 22, 3) := by decide +kernel
theorem dX0_road_14 : decode cX0_road 14 = .ok (.iload_n 2, 1) := by decide +kernel
theorem dX0_road_15 : decode cX0_road 15 = .ok (.iaload, 1) := by decide +kernel
theorem dX0_road_16 : decode cX0_road 16 = .ok (.iconst 1, 1) := by decide +kernel
theorem dX0_road_17 : decode cX0_road 17 = .ok (.if_icmp .lt 13, 3) := by decide +kernel
theorem dX0_road_20 : decode cX0_road 20 = .ok (.aload_n 0, 1) := by decide +kernel
theorem dX0_road_21 : decode cX0_road 21 = .ok (.getfield 18, 3) := by decide +kernel
theorem dX0_road_24 : decode cX0_road 24 = .ok (.iload_n 2, 1) := by decide +kernel
theorem dX0_road_25 : decode cX0_road 25 = .ok (.iaload, 1) := by decide +kernel
theorem dX0_road_26 : decode cX0_road 26 = .ok (.iconst 1, 1) := by decide +kernel
theorem dX0_road_27 : decode cX0_road 27 = .ok (.if_icmp .ge 5, 3) := by decide +kernel
theorem dX0_road_30 : decode cX0_road 30 = .ok (.iconst 0, 1) := by decide +kernel
theorem dX0_road_31 : decode cX0_road 31 = .ok (.ireturn, 1) := by decide +kernel
theorem dX0_road_32 : decode cX0_road 32 = .ok (.iload_n 1, 1) := by decide +kernel
theorem dX0_road_33 : decode cX0_road 33 = .ok (.aload_n 0, 1) := by decide +kernel
theorem dX0_road_34 : decode cX0_road 34 = .ok (.getfield 22, 3) := by decide +kernel
theorem dX0_road_37 : decode cX0_road 37 = .ok (.iload_n 2, 1) := by decide +kernel
theorem dX0_road_38 : decode cX0_road 38 = .ok (.iaload, 1) := by decide +kernel
theorem dX0_road_39 : decode cX0_road 39 = .ok (.idiv, 1) := by decide +kernel
theorem dX0_road_40 : decode cX0_road 40 = .ok (.aload_n 0, 1) := by decide +kernel
theorem dX0_road_41 : decode cX0_road 41 = .ok (.getfield 18, 3) := by decide +kernel
theorem dX0_road_44 : decode cX0_road 44 = .ok (.iload_n 2, 1) := by decide +kernel
theorem dX0_road_45 : decode cX0_road 45 = .ok (.iaload, 1) := by decide +kernel
theorem dX0_road_46 : decode cX0_road 46 = .ok (.irem, 1) := by decide +kernel
theorem dX0_road_47 : decode cX0_road 47 = .ok (.ireturn, 1) := by decide +kernel
theorem dX0_entry_0 : decode cX0_entry 0 = .ok (.iload_n 1, 1) := by decide +kernel
theorem dX0_entry_1 : decode cX0_entry 1 = .ok (.iconst 3, 1) := by decide +kernel
theorem dX0_entry_2 : decode cX0_entry 2 = .ok (.ishl, 1) := by decide +kernel
theorem dX0_entry_3 : decode cX0_entry 3 = .ok (.iload_n 2, 1) := by decide +kernel
theorem dX0_entry_4 : decode cX0_entry 4 = .ok (.iadd, 1) := by decide +kernel
theorem dX0_entry_5 : decode cX0_entry 5 = .ok (.istore_n 3, 1) := by decide +kernel
theorem dX0_entry_6 : decode cX0_entry 6 = .ok (.iload_n 3, 1) := by decide +kernel
theorem dX0_entry_7 : decode cX0_entry 7 = .ok (.ifCond .lt 21, 3) := by decide +kernel
theorem dX0_entry_10 : decode cX0_entry 10 = .ok (.iload_n 3, 1) := by decide +kernel
theorem dX0_entry_11 : decode cX0_entry 11 = .ok (.aload_n 0, 1) := by decide +kernel
theorem dX0_entry_12 : decode cX0_entry 12 = .ok (.getfield 31, 3) := by decide +kernel
theorem dX0_entry_15 : decode cX0_entry 15 = .ok (.arraylength, 1) := by decide +kernel
theorem dX0_entry_16 : decode cX0_entry 16 = .ok (.if_icmp .ge 12, 3) := by decide +kernel
theorem dX0_entry_19 : decode cX0_entry 19 = .ok (.aload_n 0, 1) := by decide +kernel
theorem dX0_entry_20 : decode cX0_entry 20 = .ok (.getfield 31, 3) := by decide +kernel
theorem dX0_entry_23 : decode cX0_entry 23 = .ok (.iload_n 3, 1) := by decide +kernel
theorem dX0_entry_24 : decode cX0_entry 24 = .ok (.iaload, 1) := by decide +kernel
theorem dX0_entry_25 : decode cX0_entry 25 = .ok (.goto 4, 3) := by decide +kernel
theorem dX0_entry_28 : decode cX0_entry 28 = .ok (.iconst 0, 1) := by decide +kernel
theorem dX0_entry_29 : decode cX0_entry 29 = .ok (.ireturn, 1) := by decide +kernel
theorem dX0_where_0 : decode cX0_where 0 = .ok (.aload_n 0, 1) := by decide +kernel
theorem dX0_where_1 : decode cX0_where 1 = .ok (.iload_n 1, 1) := by decide +kernel
theorem dX0_where_2 : decode cX0_where 2 = .ok (.iload_n 2, 1) := by decide +kernel
theorem dX0_where_3 : decode cX0_where 3 = .ok (.invokevirtual 91, 3) := by decide +kernel
theorem dX0_where_6 : decode cX0_where 6 = .ok (.bipush 7, 2) := by decide +kernel
theorem dX0_where_8 : decode cX0_where 8 = .ok (.iand, 1) := by decide +kernel
theorem dX0_where_9 : decode cX0_where 9 = .ok (.ireturn, 1) := by decide +kernel
theorem dX0_steps_0 : decode cX0_steps 0 = .ok (.aload_n 0, 1) := by decide +kernel
theorem dX0_steps_1 : decode cX0_steps 1 = .ok (.iload_n 1, 1) := by decide +kernel
theorem dX0_steps_2 : decode cX0_steps 2 = .ok (.iload_n 2, 1) := by decide +kernel
theorem dX0_steps_3 : decode cX0_steps 3 = .ok (.invokevirtual 91, 3) := by decide +kernel
theorem dX0_steps_6 : decode cX0_steps 6 = .ok (.bipush 17, 2) := by decide +kernel
theorem dX0_steps_8 : decode cX0_steps 8 = .ok (.ishr, 1) := by decide +kernel
theorem dX0_steps_9 : decode cX0_steps 9 = .ok (.ireturn, 1) := by decide +kernel
theorem dX0_wayAfter_0 : decode cX0_wayAfter 0 = .ok (.aload_n 0, 1) := by decide +kernel
theorem dX0_wayAfter_1 : decode cX0_wayAfter 1 = .ok (.iload_n 1, 1) := by decide +kernel
theorem dX0_wayAfter_2 : decode cX0_wayAfter 2 = .ok (.iload_n 2, 1) := by decide +kernel
theorem dX0_wayAfter_3 : decode cX0_wayAfter 3 = .ok (.invokevirtual 91, 3) := by decide +kernel
theorem dX0_wayAfter_6 : decode cX0_wayAfter 6 = .ok (.ldc 90, 2) := by decide +kernel
theorem dX0_wayAfter_8 : decode cX0_wayAfter 8 = .ok (.iand, 1) := by decide +kernel
theorem dX0_wayAfter_9 : decode cX0_wayAfter 9 = .ok (.iconst 3, 1) := by decide +kernel
theorem dX0_wayAfter_10 : decode cX0_wayAfter 10 = .ok (.ishr, 1) := by decide +kernel
theorem dX0_wayAfter_11 : decode cX0_wayAfter 11 = .ok (.ireturn, 1) := by decide +kernel
theorem dX0_stepsOrNever_0 : decode cX0_stepsOrNever 0 = .ok (.aload_n 0, 1) := by decide +kernel
theorem dX0_stepsOrNever_1 : decode cX0_stepsOrNever 1 = .ok (.getfield 14, 3) := by decide +kernel
theorem dX0_stepsOrNever_4 : decode cX0_stepsOrNever 4 = .ok (.aload_n 0, 1) := by decide +kernel
theorem dX0_stepsOrNever_5 : decode cX0_stepsOrNever 5 = .ok (.iload_n 1, 1) := by decide +kernel
theorem dX0_stepsOrNever_6 : decode cX0_stepsOrNever 6 = .ok (.iload_n 2, 1) := by decide +kernel
theorem dX0_stepsOrNever_7 : decode cX0_stepsOrNever 7 = .ok (.invokevirtual 94, 3) := by decide +kernel
theorem dX0_stepsOrNever_10 : decode cX0_stepsOrNever 10 = .ok (.invokevirtual 97, 3) := by decide +kernel
theorem dX0_stepsOrNever_13 : decode cX0_stepsOrNever 13 = .ok (.ifCond .eq 12, 3) := by decide +kernel
theorem dX0_stepsOrNever_16 : decode cX0_stepsOrNever 16 = .ok (.aload_n 0, 1) := by decide +kernel
theorem dX0_stepsOrNever_17 : decode cX0_stepsOrNever 17 = .ok (.iload_n 1, 1) := by decide +kernel
theorem dX0_stepsOrNever_18 : decode cX0_stepsOrNever 18 = .ok (.iload_n 2, 1) := by decide +kernel
theorem dX0_stepsOrNever_19 : decode cX0_stepsOrNever 19 = .ok (.invokevirtual 101, 3) := by decide +kernel
theorem dX0_stepsOrNever_22 : decode cX0_stepsOrNever 22 = .ok (.goto 6, 3) := by decide +kernel
theorem dX0_stepsOrNever_25 : decode cX0_stepsOrNever 25 = .ok (.sipush 500, 3) := by decide +kernel
theorem dX0_stepsOrNever_28 : decode cX0_stepsOrNever 28 = .ok (.ireturn, 1) := by decide +kernel
theorem dX0_turned_0 : decode cX0_turned 0 = .ok (.aload_n 0, 1) := by decide +kernel
theorem dX0_turned_1 : decode cX0_turned 1 = .ok (.getfield 14, 3) := by decide +kernel
theorem dX0_turned_4 : decode cX0_turned 4 = .ok (.iload_n 2, 1) := by decide +kernel
theorem dX0_turned_5 : decode cX0_turned 5 = .ok (.invokevirtual 61, 3) := by decide +kernel
theorem dX0_turned_8 : decode cX0_turned 8 = .ok (.istore_n 3, 1) := by decide +kernel
theorem dX0_turned_9 : decode cX0_turned 9 = .ok (.iload_n 3, 1) := by decide +kernel
theorem dX0_turned_10 : decode cX0_turned 10 = .ok (.ifCond .ne 5, 3) := by decide +kernel
theorem dX0_turned_13 : decode cX0_turned 13 = .ok (.iconst (-1), 1) := by decide +kernel
theorem dX0_turned_14 : decode cX0_turned 14 = .ok (.ireturn, 1) := by decide +kernel
theorem dX0_turned_15 : decode cX0_turned 15 = .ok (.aload_n 0, 1) := by decide +kernel
theorem dX0_turned_16 : decode cX0_turned 16 = .ok (.iload_n 1, 1) := by decide +kernel
theorem dX0_turned_17 : decode cX0_turned 17 = .ok (.iload_n 2, 1) := by decide +kernel
theorem dX0_turned_18 : decode cX0_turned 18 = .ok (.invokevirtual 81, 3) := by decide +kernel
theorem dX0_turned_21 : decode cX0_turned 21 = .ok (.iconst 1, 1) := by decide +kernel
theorem dX0_turned_22 : decode cX0_turned 22 = .ok (.iadd, 1) := by decide +kernel
theorem dX0_turned_23 : decode cX0_turned 23 = .ok (.iload_n 3, 1) := by decide +kernel
theorem dX0_turned_24 : decode cX0_turned 24 = .ok (.if_icmp .ge 14, 3) := by decide +kernel
theorem dX0_turned_27 : decode cX0_turned 27 = .ok (.iload_n 1, 1) := by decide +kernel
theorem dX0_turned_28 : decode cX0_turned 28 = .ok (.aload_n 0, 1) := by decide +kernel
theorem dX0_turned_29 : decode cX0_turned 29 = .ok (.getfield 22, 3) := by decide +kernel
theorem dX0_turned_32 : decode cX0_turned 32 = .ok (.iload_n 2, 1) := by decide +kernel
theorem dX0_turned_33 : decode cX0_turned 33 = .ok (.iaload, 1) := by decide +kernel
theorem dX0_turned_34 : decode cX0_turned 34 = .ok (.iadd, 1) := by decide +kernel
theorem dX0_turned_35 : decode cX0_turned 35 = .ok (.goto 15, 3) := by decide +kernel
theorem dX0_turned_38 : decode cX0_turned 38 = .ok (.iload_n 1, 1) := by decide +kernel
theorem dX0_turned_39 : decode cX0_turned 39 = .ok (.iload_n 3, 1) := by decide +kernel
theorem dX0_turned_40 : decode cX0_turned 40 = .ok (.iconst 1, 1) := by decide +kernel
theorem dX0_turned_41 : decode cX0_turned 41 = .ok (.isub, 1) := by decide +kernel
theorem dX0_turned_42 : decode cX0_turned 42 = .ok (.aload_n 0, 1) := by decide +kernel
theorem dX0_turned_43 : decode cX0_turned 43 = .ok (.getfield 22, 3) := by decide +kernel
theorem dX0_turned_46 : decode cX0_turned 46 = .ok (.iload_n 2, 1) := by decide +kernel
theorem dX0_turned_47 : decode cX0_turned 47 = .ok (.iaload, 1) := by decide +kernel
theorem dX0_turned_48 : decode cX0_turned 48 = .ok (.imul, 1) := by decide +kernel
theorem dX0_turned_49 : decode cX0_turned 49 = .ok (.isub, 1) := by decide +kernel
theorem dX0_turned_50 : decode cX0_turned 50 = .ok (.ireturn, 1) := by decide +kernel
theorem dX0_wayTold_0 : decode cX0_wayTold 0 = .ok (.iconst 0, 1) := by decide +kernel
theorem dX0_wayTold_1 : decode cX0_wayTold 1 = .ok (.istore_n 1, 1) := by decide +kernel
theorem dX0_wayTold_2 : decode cX0_wayTold 2 = .ok (.iconst 0, 1) := by decide +kernel
theorem dX0_wayTold_3 : decode cX0_wayTold 3 = .ok (.istore_n 2, 1) := by decide +kernel
theorem dX0_wayTold_4 : decode cX0_wayTold 4 = .ok (.iload_n 2, 1) := by decide +kernel
theorem dX0_wayTold_5 : decode cX0_wayTold 5 = .ok (.bipush 7, 2) := by decide +kernel
theorem dX0_wayTold_7 : decode cX0_wayTold 7 = .ok (.if_icmp .ge 43, 3) := by decide +kernel
theorem dX0_wayTold_10 : decode cX0_wayTold 10 = .ok (.iload_n 1, 1) := by decide +kernel
theorem dX0_wayTold_11 : decode cX0_wayTold 11 = .ok (.aload_n 0, 1) := by decide +kernel
theorem dX0_wayTold_12 : decode cX0_wayTold 12 = .ok (.getfield 14, 3) := by decide +kernel
theorem dX0_wayTold_15 : decode cX0_wayTold 15 = .ok (.iload_n 2, 1) := by decide +kernel
theorem dX0_wayTold_16 : decode cX0_wayTold 16 = .ok (.invokevirtual 61, 3) := by decide +kernel
theorem dX0_wayTold_19 : decode cX0_wayTold 19 = .ok (.ifCond .le 22, 3) := by decide +kernel
theorem dX0_wayTold_22 : decode cX0_wayTold 22 = .ok (.aload_n 0, 1) := by decide +kernel
theorem dX0_wayTold_23 : decode cX0_wayTold 23 = .ok (.getfield 14, 3) := by decide +kernel
theorem dX0_wayTold_26 : decode cX0_wayTold 26 = .ok (.getfield 104, 3) := by decide +kernel
theorem dX0_wayTold_29 : decode cX0_wayTold 29 = .ok (.iload_n 2, 1) := by decide +kernel
theorem dX0_wayTold_30 : decode cX0_wayTold 30 = .ok (.iaload, 1) := by decide +kernel
theorem dX0_wayTold_31 : decode cX0_wayTold 31 = .ok (.aload_n 0, 1) := by decide +kernel
theorem dX0_wayTold_32 : decode cX0_wayTold 32 = .ok (.getfield 22, 3) := by decide +kernel
theorem dX0_wayTold_35 : decode cX0_wayTold 35 = .ok (.iload_n 2, 1) := by decide +kernel
theorem dX0_wayTold_36 : decode cX0_wayTold 36 = .ok (.iaload, 1) := by decide +kernel
theorem dX0_wayTold_37 : decode cX0_wayTold 37 = .ok (.imul, 1) := by decide +kernel
theorem dX0_wayTold_38 : decode cX0_wayTold 38 = .ok (.goto 4, 3) := by decide +kernel
theorem dX0_wayTold_41 : decode cX0_wayTold 41 = .ok (.iconst 0, 1) := by decide +kernel
theorem dX0_wayTold_42 : decode cX0_wayTold 42 = .ok (.iadd, 1) := by decide +kernel
theorem dX0_wayTold_43 : decode cX0_wayTold 43 = .ok (.istore_n 1, 1) := by decide +kernel
theorem dX0_wayTold_44 : decode cX0_wayTold 44 = .ok (.iinc 2 1, 3) := by decide +kernel
theorem dX0_wayTold_47 : decode cX0_wayTold 47 = .ok (.goto (-43), 3) := by decide +kernel
theorem dX0_wayTold_50 : decode cX0_wayTold 50 = .ok (.iload_n 1, 1) := by decide +kernel
theorem dX0_wayTold_51 : decode cX0_wayTold 51 = .ok (.ireturn, 1) := by decide +kernel
theorem dX0_number_0 : decode cX0_number 0 = .ok (.iconst 1, 1) := by decide +kernel
theorem dX0_number_1 : decode cX0_number 1 = .ok (.istore_n 2, 1) := by decide +kernel
theorem dX0_number_2 : decode cX0_number 2 = .ok (.iconst 0, 1) := by decide +kernel
theorem dX0_number_3 : decode cX0_number 3 = .ok (.istore_n 3, 1) := by decide +kernel
theorem dX0_number_4 : decode cX0_number 4 = .ok (.iload_n 3, 1) := by decide +kernel
theorem dX0_number_5 : decode cX0_number 5 = .ok (.aload_n 0, 1) := by decide +kernel
theorem dX0_number_6 : decode cX0_number 6 = .ok (.getfield 14, 3) := by decide +kernel
theorem dX0_number_9 : decode cX0_number 9 = .ok (.getfield 107, 3) := by decide +kernel
theorem dX0_number_12 : decode cX0_number 12 = .ok (.if_icmp .ge 21, 3) := by decide +kernel
theorem dX0_number_15 : decode cX0_number 15 = .ok (.iload_n 2, 1) := by decide +kernel
theorem dX0_number_16 : decode cX0_number 16 = .ok (.bipush 10, 2) := by decide +kernel
theorem dX0_number_18 : decode cX0_number 18 = .ok (.imul, 1) := by decide +kernel
theorem dX0_number_19 : decode cX0_number 19 = .ok (.aload_n 0, 1) := by decide +kernel
theorem dX0_number_20 : decode cX0_number 20 = .ok (.iload_n 1, 1) := by decide +kernel
theorem dX0_number_21 : decode cX0_number 21 = .ok (.iload_n 3, 1) := by decide +kernel
theorem dX0_number_22 : decode cX0_number 22 = .ok (.invokevirtual 81, 3) := by decide +kernel
theorem dX0_number_25 : decode cX0_number 25 = .ok (.iadd, 1) := by decide +kernel
theorem dX0_number_26 : decode cX0_number 26 = .ok (.istore_n 2, 1) := by decide +kernel
theorem dX0_number_27 : decode cX0_number 27 = .ok (.iinc 3 1, 3) := by decide +kernel
theorem dX0_number_30 : decode cX0_number 30 = .ok (.goto (-26), 3) := by decide +kernel
theorem dX0_number_33 : decode cX0_number 33 = .ok (.iload_n 2, 1) := by decide +kernel
theorem dX0_number_34 : decode cX0_number 34 = .ok (.ireturn, 1) := by decide +kernel
theorem dX0_unlike_0 : decode cX0_unlike 0 = .ok (.iconst 0, 1) := by decide +kernel
theorem dX0_unlike_1 : decode cX0_unlike 1 = .ok (.istore_n 3, 1) := by decide +kernel
theorem dX0_unlike_2 : decode cX0_unlike 2 = .ok (.iconst 0, 1) := by decide +kernel
theorem dX0_unlike_3 : decode cX0_unlike 3 = .ok (.istore 4, 2) := by decide +kernel
theorem dX0_unlike_5 : decode cX0_unlike 5 = .ok (.iload 4, 2) := by decide +kernel
theorem dX0_unlike_7 : decode cX0_unlike 7 = .ok (.aload_n 0, 1) := by decide +kernel
theorem dX0_unlike_8 : decode cX0_unlike 8 = .ok (.getfield 14, 3) := by decide +kernel
theorem dX0_unlike_11 : decode cX0_unlike 11 = .ok (.getfield 107, 3) := by decide +kernel
theorem dX0_unlike_14 : decode cX0_unlike 14 = .ok (.if_icmp .ge 37, 3) := by decide +kernel
theorem dX0_unlike_17 : decode cX0_unlike 17 = .ok (.iload_n 3, 1) := by decide +kernel
theorem dX0_unlike_18 : decode cX0_unlike 18 = .ok (.aload_n 0, 1) := by decide +kernel
theorem dX0_unlike_19 : decode cX0_unlike 19 = .ok (.iload_n 1, 1) := by decide +kernel
theorem dX0_unlike_20 : decode cX0_unlike 20 = .ok (.iload 4, 2) := by decide +kernel
theorem dX0_unlike_22 : decode cX0_unlike 22 = .ok (.invokevirtual 81, 3) := by decide +kernel
theorem dX0_unlike_25 : decode cX0_unlike 25 = .ok (.aload_n 0, 1) := by decide +kernel
theorem dX0_unlike_26 : decode cX0_unlike 26 = .ok (.iload_n 2, 1) := by decide +kernel
theorem dX0_unlike_27 : decode cX0_unlike 27 = .ok (.iload 4, 2) := by decide +kernel
theorem dX0_unlike_29 : decode cX0_unlike 29 = .ok (.invokevirtual 81, 3) := by decide +kernel
theorem dX0_unlike_32 : decode cX0_unlike 32 = .ok (.if_icmp .eq 10, 3) := by decide +kernel
theorem dX0_unlike_35 : decode cX0_unlike 35 = .ok (.iconst 1, 1) := by decide +kernel
theorem dX0_unlike_36 : decode cX0_unlike 36 = .ok (.iload 4, 2) := by decide +kernel
theorem dX0_unlike_38 : decode cX0_unlike 38 = .ok (.ishl, 1) := by decide +kernel
theorem dX0_unlike_39 : decode cX0_unlike 39 = .ok (.goto 4, 3) := by decide +kernel
theorem dX0_unlike_42 : decode cX0_unlike 42 = .ok (.iconst 0, 1) := by decide +kernel
theorem dX0_unlike_43 : decode cX0_unlike 43 = .ok (.ior, 1) := by decide +kernel
theorem dX0_unlike_44 : decode cX0_unlike 44 = .ok (.istore_n 3, 1) := by decide +kernel
theorem dX0_unlike_45 : decode cX0_unlike 45 = .ok (.iinc 4 1, 3) := by decide +kernel
theorem dX0_unlike_48 : decode cX0_unlike 48 = .ok (.goto (-43), 3) := by decide +kernel
theorem dX0_unlike_51 : decode cX0_unlike 51 = .ok (.iload_n 3, 1) := by decide +kernel
theorem dX0_unlike_52 : decode cX0_unlike 52 = .ok (.ireturn, 1) := by decide +kernel
theorem dX0_nearestWay_0 : decode cX0_nearestWay 0 = .ok (.aload_n 0, 1) := by decide +kernel
theorem dX0_nearestWay_1 : decode cX0_nearestWay 1 = .ok (.invokevirtual 110, 3) := by decide +kernel
theorem dX0_nearestWay_4 : decode cX0_nearestWay 4 = .ok (.istore_n 3, 1) := by decide +kernel
theorem dX0_nearestWay_5 : decode cX0_nearestWay 5 = .ok (.iconst (-1), 1) := by decide +kernel
theorem dX0_nearestWay_6 : decode cX0_nearestWay 6 = .ok (.istore 4, 2) := by decide +kernel
theorem dX0_nearestWay_8 : decode cX0_nearestWay 8 = .ok (.iconst 0, 1) := by decide +kernel
theorem dX0_nearestWay_9 : decode cX0_nearestWay 9 = .ok (.istore 5, 2) := by decide +kernel
theorem dX0_nearestWay_11 : decode cX0_nearestWay 11 = .ok (.iconst 0, 1) := by decide +kernel
theorem dX0_nearestWay_12 : decode cX0_nearestWay 12 = .ok (.istore 6, 2) := by decide +kernel
theorem dX0_nearestWay_14 : decode cX0_nearestWay 14 = .ok (.iload 6, 2) := by decide +kernel
theorem dX0_nearestWay_16 : decode cX0_nearestWay 16 = .ok (.aload_n 0, 1) := by decide +kernel
theorem dX0_nearestWay_17 : decode cX0_nearestWay 17 = .ok (.getfield 57, 3) := by decide +kernel
theorem dX0_nearestWay_20 : decode cX0_nearestWay 20 = .ok (.if_icmp .ge 63, 3) := by decide +kernel
theorem dX0_nearestWay_23 : decode cX0_nearestWay 23 = .ok (.aload_n 0, 1) := by decide +kernel
theorem dX0_nearestWay_24 : decode cX0_nearestWay 24 = .ok (.iload 6, 2) := by decide +kernel
theorem dX0_nearestWay_26 : decode cX0_nearestWay 26 = .ok (.iload_n 1, 1) := by decide +kernel
theorem dX0_nearestWay_27 : decode cX0_nearestWay 27 = .ok (.invokevirtual 94, 3) := by decide +kernel
theorem dX0_nearestWay_30 : decode cX0_nearestWay 30 = .ok (.iload_n 2, 1) := by decide +kernel
theorem dX0_nearestWay_31 : decode cX0_nearestWay 31 = .ok (.if_icmp .ne 46, 3) := by decide +kernel
theorem dX0_nearestWay_34 : decode cX0_nearestWay 34 = .ok (.aload_n 0, 1) := by decide +kernel
theorem dX0_nearestWay_35 : decode cX0_nearestWay 35 = .ok (.iload 6, 2) := by decide +kernel
theorem dX0_nearestWay_37 : decode cX0_nearestWay 37 = .ok (.iload_n 3, 1) := by decide +kernel
theorem dX0_nearestWay_38 : decode cX0_nearestWay 38 = .ok (.invokevirtual 114, 3) := by decide +kernel
theorem dX0_nearestWay_41 : decode cX0_nearestWay 41 = .ok (.istore 7, 2) := by decide +kernel
theorem dX0_nearestWay_43 : decode cX0_nearestWay 43 = .ok (.iload 7, 2) := by decide +kernel
theorem dX0_nearestWay_45 : decode cX0_nearestWay 45 = .ok (.invokestatic 117, 3) := by decide +kernel
theorem dX0_nearestWay_48 : decode cX0_nearestWay 48 = .ok (.bipush 7, 2) := by decide +kernel
theorem dX0_nearestWay_50 : decode cX0_nearestWay 50 = .ok (.ishl, 1) := by decide +kernel
theorem dX0_nearestWay_51 : decode cX0_nearestWay 51 = .ok (.iload 7, 2) := by decide +kernel
theorem dX0_nearestWay_53 : decode cX0_nearestWay 53 = .ok (.iadd, 1) := by decide +kernel
theorem dX0_nearestWay_54 : decode cX0_nearestWay 54 = .ok (.istore 8, 2) := by decide +kernel
theorem dX0_nearestWay_56 : decode cX0_nearestWay 56 = .ok (.iload 4, 2) := by decide +kernel
theorem dX0_nearestWay_58 : decode cX0_nearestWay 58 = .ok (.iconst (-1), 1) := by decide +kernel
theorem dX0_nearestWay_59 : decode cX0_nearestWay 59 = .ok (.if_icmp .eq 10, 3) := by decide +kernel
theorem dX0_nearestWay_62 : decode cX0_nearestWay 62 = .ok (.iload 8, 2) := by decide +kernel
theorem dX0_nearestWay_64 : decode cX0_nearestWay 64 = .ok (.iload 5, 2) := by decide +kernel
theorem dX0_nearestWay_66 : decode cX0_nearestWay 66 = .ok (.if_icmp .ge 11, 3) := by decide +kernel
theorem dX0_nearestWay_69 : decode cX0_nearestWay 69 = .ok (.iload 6, 2) := by decide +kernel
theorem dX0_nearestWay_71 : decode cX0_nearestWay 71 = .ok (.istore 4, 2) := by decide +kernel
theorem dX0_nearestWay_73 : decode cX0_nearestWay 73 = .ok (.iload 8, 2) := by decide +kernel
theorem dX0_nearestWay_75 : decode cX0_nearestWay 75 = .ok (.istore 5, 2) := by decide +kernel
theorem dX0_nearestWay_77 : decode cX0_nearestWay 77 = .ok (.iinc 6 1, 3) := by decide +kernel
theorem dX0_nearestWay_80 : decode cX0_nearestWay 80 = .ok (.goto (-66), 3) := by decide +kernel
theorem dX0_nearestWay_83 : decode cX0_nearestWay 83 = .ok (.iload 4, 2) := by decide +kernel
theorem dX0_nearestWay_85 : decode cX0_nearestWay 85 = .ok (.ireturn, 1) := by decide +kernel
theorem dX0_comesByRow_0 : decode cX0_comesByRow 0 = .ok (.iload_n 1, 1) := by decide +kernel
theorem dX0_comesByRow_1 : decode cX0_comesByRow 1 = .ok (.istore_n 2, 1) := by decide +kernel
theorem dX0_comesByRow_2 : decode cX0_comesByRow 2 = .ok (.iconst 0, 1) := by decide +kernel
theorem dX0_comesByRow_3 : decode cX0_comesByRow 3 = .ok (.istore_n 3, 1) := by decide +kernel
theorem dX0_comesByRow_4 : decode cX0_comesByRow 4 = .ok (.iload_n 3, 1) := by decide +kernel
theorem dX0_comesByRow_5 : decode cX0_comesByRow 5 = .ok (.aload_n 0, 1) := by decide +kernel
theorem dX0_comesByRow_6 : decode cX0_comesByRow 6 = .ok (.getfield 14, 3) := by decide +kernel
theorem dX0_comesByRow_9 : decode cX0_comesByRow 9 = .ok (.getfield 107, 3) := by decide +kernel
theorem dX0_comesByRow_12 : decode cX0_comesByRow 12 = .ok (.if_icmp .ge 35, 3) := by decide +kernel
theorem dX0_comesByRow_15 : decode cX0_comesByRow 15 = .ok (.aload_n 0, 1) := by decide +kernel
theorem dX0_comesByRow_16 : decode cX0_comesByRow 16 = .ok (.getfield 14, 3) := by decide +kernel
theorem dX0_comesByRow_19 : decode cX0_comesByRow 19 = .ok (.iload_n 2, 1) := by decide +kernel
theorem dX0_comesByRow_20 : decode cX0_comesByRow 20 = .ok (.invokevirtual 61, 3) := by decide +kernel
theorem dX0_comesByRow_23 : decode cX0_comesByRow 23 = .ok (.ifCond .le 24, 3) := by decide +kernel
theorem dX0_comesByRow_26 : decode cX0_comesByRow 26 = .ok (.aload_n 0, 1) := by decide +kernel
theorem dX0_comesByRow_27 : decode cX0_comesByRow 27 = .ok (.getfield 14, 3) := by decide +kernel
theorem dX0_comesByRow_30 : decode cX0_comesByRow 30 = .ok (.iload_n 2, 1) := by decide +kernel
theorem dX0_comesByRow_31 : decode cX0_comesByRow 31 = .ok (.aload_n 0, 1) := by decide +kernel
theorem dX0_comesByRow_32 : decode cX0_comesByRow 32 = .ok (.getfield 25, 3) := by decide +kernel
theorem dX0_comesByRow_35 : decode cX0_comesByRow 35 = .ok (.iload_n 2, 1) := by decide +kernel
theorem dX0_comesByRow_36 : decode cX0_comesByRow 36 = .ok (.iaload, 1) := by decide +kernel
theorem dX0_comesByRow_37 : decode cX0_comesByRow 37 = .ok (.invokevirtual 84, 3) := by decide +kernel
theorem dX0_comesByRow_40 : decode cX0_comesByRow 40 = .ok (.istore_n 2, 1) := by decide +kernel
theorem dX0_comesByRow_41 : decode cX0_comesByRow 41 = .ok (.iinc 3 1, 3) := by decide +kernel
theorem dX0_comesByRow_44 : decode cX0_comesByRow 44 = .ok (.goto (-40), 3) := by decide +kernel
theorem dX0_comesByRow_47 : decode cX0_comesByRow 47 = .ok (.aload_n 0, 1) := by decide +kernel
theorem dX0_comesByRow_48 : decode cX0_comesByRow 48 = .ok (.getfield 14, 3) := by decide +kernel
theorem dX0_comesByRow_51 : decode cX0_comesByRow 51 = .ok (.iload_n 2, 1) := by decide +kernel
theorem dX0_comesByRow_52 : decode cX0_comesByRow 52 = .ok (.invokevirtual 97, 3) := by decide +kernel
theorem dX0_comesByRow_55 : decode cX0_comesByRow 55 = .ok (.ireturn, 1) := by decide +kernel
theorem dX0_allComeByRow_0 : decode cX0_allComeByRow 0 = .ok (.iconst 0, 1) := by decide +kernel
theorem dX0_allComeByRow_1 : decode cX0_allComeByRow 1 = .ok (.istore_n 1, 1) := by decide +kernel
theorem dX0_allComeByRow_2 : decode cX0_allComeByRow 2 = .ok (.iload_n 1, 1) := by decide +kernel
theorem dX0_allComeByRow_3 : decode cX0_allComeByRow 3 = .ok (.aload_n 0, 1) := by decide +kernel
theorem dX0_allComeByRow_4 : decode cX0_allComeByRow 4 = .ok (.getfield 14, 3) := by decide +kernel
theorem dX0_allComeByRow_7 : decode cX0_allComeByRow 7 = .ok (.getfield 107, 3) := by decide +kernel
theorem dX0_allComeByRow_10 : decode cX0_allComeByRow 10 = .ok (.if_icmp .ge 30, 3) := by decide +kernel
theorem dX0_allComeByRow_13 : decode cX0_allComeByRow 13 = .ok (.aload_n 0, 1) := by decide +kernel
theorem dX0_allComeByRow_14 : decode cX0_allComeByRow 14 = .ok (.getfield 14, 3) := by decide +kernel
theorem dX0_allComeByRow_17 : decode cX0_allComeByRow 17 = .ok (.iload_n 1, 1) := by decide +kernel
theorem dX0_allComeByRow_18 : decode cX0_allComeByRow 18 = .ok (.invokevirtual 61, 3) := by decide +kernel
theorem dX0_allComeByRow_21 : decode cX0_allComeByRow 21 = .ok (.ifCond .le 13, 3) := by decide +kernel
theorem dX0_allComeByRow_24 : decode cX0_allComeByRow 24 = .ok (.aload_n 0, 1) := by decide +kernel
theorem dX0_allComeByRow_25 : decode cX0_allComeByRow 25 = .ok (.iload_n 1, 1) := by decide +kernel
theorem dX0_allComeByRow_26 : decode cX0_allComeByRow 26 = .ok (.invokevirtual 129, 3) := by decide +kernel
theorem dX0_allComeByRow_29 : decode cX0_allComeByRow 29 = .ok (.ifCond .ne 5, 3) := by decide +kernel
theorem dX0_allComeByRow_32 : decode cX0_allComeByRow 32 = .ok (.iconst 0, 1) := by decide +kernel
theorem dX0_allComeByRow_33 : decode cX0_allComeByRow 33 = .ok (.ireturn, 1) := by decide +kernel
theorem dX0_allComeByRow_34 : decode cX0_allComeByRow 34 = .ok (.iinc 1 1, 3) := by decide +kernel
theorem dX0_allComeByRow_37 : decode cX0_allComeByRow 37 = .ok (.goto (-35), 3) := by decide +kernel
theorem dX0_allComeByRow_40 : decode cX0_allComeByRow 40 = .ok (.iconst 1, 1) := by decide +kernel
theorem dX0_allComeByRow_41 : decode cX0_allComeByRow 41 = .ok (.ireturn, 1) := by decide +kernel


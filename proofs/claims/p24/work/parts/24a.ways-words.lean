theorem m_co_X0_entry : Cond.code yX0_entry cX0_entry 4 (some .int) ∈ zT := zmem1 zsub_5 27 rfl rfl
theorem m_ml_RX0_91 : Cond.methodLink RX0 91 yX0_entry ∈ zT := zmem1 zsub_5 24 rfl rfl
theorem m_im_X0_entry : Cond.instanceMethod yX0_entry ∈ zT := zmem1 zsub_5 26 rfl rfl
theorem m_se_X0_entry : Cond.selects RX0 yX0_entry yX0_entry ∈ zT := zmem 37 rfl rfl
theorem m_ii_RX0 : Cond.initialized RX0 ∈ zT := zmem1 zsub_1 10 rfl rfl
theorem m_ko_RX0_90 : Cond.constant RX0 90 131071 ∈ zT := zmem1 zsub_5 7 rfl rfl
theorem m_co_X0_where : Cond.code yX0_where cX0_where 3 (some .int) ∈ zT := zmem1 zsub_5 23 rfl rfl
theorem m_ml_RX0_94 : Cond.methodLink RX0 94 yX0_where ∈ zT := zmem1 zsub_5 20 rfl rfl
theorem m_im_X0_where : Cond.instanceMethod yX0_where ∈ zT := zmem1 zsub_5 21 rfl rfl
theorem m_se_X0_where : Cond.selects RX0 yX0_where yX0_where ∈ zT := zmem1 zsub_5 22 rfl rfl
theorem m_ml_RX0_97 : Cond.methodLink RX0 97 yX4_isInn ∈ zT := zmem1 zsub_5 69 rfl rfl
theorem m_co_X0_steps : Cond.code yX0_steps cX0_steps 3 (some .int) ∈ zT := zmem1 zsub_5 52 rfl rfl
theorem m_ml_RX0_101 : Cond.methodLink RX0 101 yX0_steps ∈ zT := zmem1 zsub_5 101 rfl rfl
theorem m_im_X0_steps : Cond.instanceMethod yX0_steps ∈ zT := zmem1 zsub_5 50 rfl rfl
theorem m_se_X0_steps : Cond.selects RX0 yX0_steps yX0_steps ∈ zT := zmem1 zsub_5 51 rfl rfl
theorem m_ml_RX0_61 : Cond.methodLink RX0 61 yX4_waysOut ∈ zT := zmem1 zsub_4 219 rfl rfl
theorem m_co_X0_road : Cond.code yX0_road cX0_road 3 (some .int) ∈ zT := zmem1 zsub_4 238 rfl rfl
theorem m_ml_RX0_81 : Cond.methodLink RX0 81 yX0_road ∈ zT := zmem1 zsub_4 235 rfl rfl
theorem m_im_X0_road : Cond.instanceMethod yX0_road ∈ zT := zmem1 zsub_4 236 rfl rfl
theorem m_se_X0_road : Cond.selects RX0 yX0_road yX0_road ∈ zT := zmem1 zsub_4 237 rfl rfl
theorem m_fl_RX0_104 : Cond.fieldLink RX0 104 (TX4 4).1 (TX4 4).2.1 (TX4 4).2.2.1 ∈ zT := zmem1 zsub_1 60 rfl rfl
theorem m_fl_RX0_107 : Cond.fieldLink RX0 107 (TX4 0).1 (TX4 0).2.1 (TX4 0).2.2.1 ∈ zT := zmem1 zsub_1 47 rfl rfl
theorem m_co_X0_wayTold : Cond.code yX0_wayTold cX0_wayTold 3 (some .int) ∈ zT := zmem1 zsub_5 19 rfl rfl
theorem m_ml_RX0_110 : Cond.methodLink RX0 110 yX0_wayTold ∈ zT := zmem1 zsub_5 16 rfl rfl
theorem m_im_X0_wayTold : Cond.instanceMethod yX0_wayTold ∈ zT := zmem1 zsub_5 17 rfl rfl
theorem m_se_X0_wayTold : Cond.selects RX0 yX0_wayTold yX0_wayTold ∈ zT := zmem1 zsub_5 18 rfl rfl
theorem m_fl_RX0_57 : Cond.fieldLink RX0 57 (TX0 1).1 (TX0 1).2.1 (TX0 1).2.2.1 ∈ zT := zmem1 zsub_2 108 rfl rfl
theorem m_co_X0_unlike : Cond.code yX0_unlike cX0_unlike 5 (some .int) ∈ zT := zmem1 zsub_5 31 rfl rfl
theorem m_ml_RX0_114 : Cond.methodLink RX0 114 yX0_unlike ∈ zT := zmem1 zsub_5 28 rfl rfl
theorem m_im_X0_unlike : Cond.instanceMethod yX0_unlike ∈ zT := zmem1 zsub_5 29 rfl rfl
theorem m_se_X0_unlike : Cond.selects RX0 yX0_unlike yX0_unlike ∈ zT := zmem1 zsub_5 30 rfl rfl
theorem m_ml_RX0_117 : Cond.methodLink RX0 117 yJ6_bitCount_0f7a4 ∈ zT := zmem1 zsub_5 32 rfl rfl
theorem m_ml_RX0_84 : Cond.methodLink RX0 84 yX4_target ∈ zT := zmem1 zsub_4 239 rfl rfl
theorem m_co_X0_comesByRow : Cond.code yX0_comesByRow cX0_comesByRow 4 (some .boolean) ∈ zT := zmem1 zsub_5 68 rfl rfl
theorem m_ml_RX0_129 : Cond.methodLink RX0 129 yX0_comesByRow ∈ zT := zmem1 zsub_5 65 rfl rfl
theorem m_im_X0_comesByRow : Cond.instanceMethod yX0_comesByRow ∈ zT := zmem1 zsub_5 67 rfl rfl
theorem m_se_X0_comesByRow : Cond.selects RX0 yX0_comesByRow yX0_comesByRow ∈ zT := zmem 39 rfl rfl
theorem kV_RX0_91 {R : Room} {s : State} {args : Array Value} {d mc ms : Nat} (hts : ∀ w ∈ zT, w.before args s = true) (h1 : d + 1 ≤ R.frames) (h2 : 8 + (4 + 11) + 40 * d ≤ R.locals) : CallW R s args RX0 RX0 91 yX0_entry cX0_entry 4 (some .int) (zW yX0_entry cX0_entry 4 (some .int)) (zR d mc ms) mc ms 2 := z_cwV hts m_co_X0_entry m_ml_RX0_91 m_im_X0_entry m_se_X0_entry m_ii_RX0 (by decide +kernel) h1 h2
theorem kV_RX0_94 {R : Room} {s : State} {args : Array Value} {d mc ms : Nat} (hts : ∀ w ∈ zT, w.before args s = true) (h1 : d + 1 ≤ R.frames) (h2 : 8 + (3 + 11) + 40 * d ≤ R.locals) : CallW R s args RX0 RX0 94 yX0_where cX0_where 3 (some .int) (zW yX0_where cX0_where 3 (some .int)) (zR d mc ms) mc ms 2 := z_cwV hts m_co_X0_where m_ml_RX0_94 m_im_X0_where m_se_X0_where m_ii_RX0 (by decide +kernel) h1 h2
theorem kV_RX0_97 {R : Room} {s : State} {args : Array Value} {d mc ms : Nat} (hts : ∀ w ∈ zT, w.before args s = true) (h1 : d + 1 ≤ R.frames) (h2 : 8 + (2 + 11) + 40 * d ≤ R.locals) : CallW R s args RX0 RX4 97 yX4_isInn cX4_isInn 2 (some .boolean) (zW yX4_isInn cX4_isInn 2 (some .boolean)) (zR d mc ms) mc ms 1 := z_cwV hts m_co_X4_isInn m_ml_RX0_97 m_im_X4_isInn m_se_X4_isInn m_ii_RX4 (by decide +kernel) h1 h2
theorem kV_RX0_101 {R : Room} {s : State} {args : Array Value} {d mc ms : Nat} (hts : ∀ w ∈ zT, w.before args s = true) (h1 : d + 1 ≤ R.frames) (h2 : 8 + (3 + 11) + 40 * d ≤ R.locals) : CallW R s args RX0 RX0 101 yX0_steps cX0_steps 3 (some .int) (zW yX0_steps cX0_steps 3 (some .int)) (zR d mc ms) mc ms 2 := z_cwV hts m_co_X0_steps m_ml_RX0_101 m_im_X0_steps m_se_X0_steps m_ii_RX0 (by decide +kernel) h1 h2
theorem kV_RX0_61 {R : Room} {s : State} {args : Array Value} {d mc ms : Nat} (hts : ∀ w ∈ zT, w.before args s = true) (h1 : d + 1 ≤ R.frames) (h2 : 8 + (2 + 11) + 40 * d ≤ R.locals) : CallW R s args RX0 RX4 61 yX4_waysOut cX4_waysOut 2 (some .int) (zW yX4_waysOut cX4_waysOut 2 (some .int)) (zR d mc ms) mc ms 1 := z_cwV hts m_co_X4_waysOut m_ml_RX0_61 m_im_X4_waysOut m_se_X4_waysOut m_ii_RX4 (by decide +kernel) h1 h2
theorem kV_RX0_81 {R : Room} {s : State} {args : Array Value} {d mc ms : Nat} (hts : ∀ w ∈ zT, w.before args s = true) (h1 : d + 1 ≤ R.frames) (h2 : 8 + (3 + 11) + 40 * d ≤ R.locals) : CallW R s args RX0 RX0 81 yX0_road cX0_road 3 (some .int) (zW yX0_road cX0_road 3 (some .int)) (zR d mc ms) mc ms 2 := z_cwV hts m_co_X0_road m_ml_RX0_81 m_im_X0_road m_se_X0_road m_ii_RX0 (by decide +kernel) h1 h2
theorem kV_RX0_110 {R : Room} {s : State} {args : Array Value} {d mc ms : Nat} (hts : ∀ w ∈ zT, w.before args s = true) (h1 : d + 1 ≤ R.frames) (h2 : 8 + (3 + 11) + 40 * d ≤ R.locals) : CallW R s args RX0 RX0 110 yX0_wayTold cX0_wayTold 3 (some .int) (zW yX0_wayTold cX0_wayTold 3 (some .int)) (zR d mc ms) mc ms 0 := z_cwV hts m_co_X0_wayTold m_ml_RX0_110 m_im_X0_wayTold m_se_X0_wayTold m_ii_RX0 (by decide +kernel) h1 h2
theorem kV_RX0_114 {R : Room} {s : State} {args : Array Value} {d mc ms : Nat} (hts : ∀ w ∈ zT, w.before args s = true) (h1 : d + 1 ≤ R.frames) (h2 : 8 + (5 + 11) + 40 * d ≤ R.locals) : CallW R s args RX0 RX0 114 yX0_unlike cX0_unlike 5 (some .int) (zW yX0_unlike cX0_unlike 5 (some .int)) (zR d mc ms) mc ms 2 := z_cwV hts m_co_X0_unlike m_ml_RX0_114 m_im_X0_unlike m_se_X0_unlike m_ii_RX0 (by decide +kernel) h1 h2
theorem kS_RX0_117 {R : Room} {s : State} {args : Array Value} {d mc ms : Nat} (hts : ∀ w ∈ zT, w.before args s = true) (h1 : d + 1 ≤ R.frames) (h2 : 8 + (1 + 11) + 40 * d ≤ R.locals) : CallB R s args RX0 117 yJ6_bitCount_0f7a4 cJ6_bitCount_0f7a4 1 (some .int) (zW yJ6_bitCount_0f7a4 cJ6_bitCount_0f7a4 1 (some .int)) (zR d mc ms) mc ms 1 ∧ (Cond.static yJ6_bitCount_0f7a4).before args s = true := z_cwS hts m_co_J6_bitCount_0f7a4 m_ml_RX0_117 m_st_J6_bitCount_0f7a4 m_ii_RJ6 (by decide +kernel) h1 h2
theorem kV_RX0_84 {R : Room} {s : State} {args : Array Value} {d mc ms : Nat} (hts : ∀ w ∈ zT, w.before args s = true) (h1 : d + 1 ≤ R.frames) (h2 : 8 + (3 + 11) + 40 * d ≤ R.locals) : CallW R s args RX0 RX4 84 yX4_target cX4_target 3 (some .int) (zW yX4_target cX4_target 3 (some .int)) (zR d mc ms) mc ms 2 := z_cwV hts m_co_X4_target m_ml_RX0_84 m_im_X4_target m_se_X4_target m_ii_RX4 (by decide +kernel) h1 h2
theorem kV_RX0_129 {R : Room} {s : State} {args : Array Value} {d mc ms : Nat} (hts : ∀ w ∈ zT, w.before args s = true) (h1 : d + 1 ≤ R.frames) (h2 : 8 + (4 + 11) + 40 * d ≤ R.locals) : CallW R s args RX0 RX0 129 yX0_comesByRow cX0_comesByRow 4 (some .boolean) (zW yX0_comesByRow cX0_comesByRow 4 (some .boolean)) (zR d mc ms) mc ms 1 := z_cwV hts m_co_X0_comesByRow m_ml_RX0_129 m_im_X0_comesByRow m_se_X0_comesByRow m_ii_RX0 (by decide +kernel) h1 h2
theorem dX0_place_0 : decode cX0_place 0 = .ok (.iload_n 0, 1) := zo_26 (by decide +kernel)
theorem dX0_place_1 : decode cX0_place 1 = .ok (.iconst 3, 1) := zo_6 (by decide +kernel)
theorem dX0_place_2 : decode cX0_place 2 = .ok (.ishl, 1) := zo_120 (by decide +kernel)
theorem dX0_place_3 : decode cX0_place 3 = .ok (.iload_n 1, 1) := zo_27 (by decide +kernel)
theorem dX0_place_4 : decode cX0_place 4 = .ok (.iadd, 1) := zo_96 (by decide +kernel)
theorem dX0_place_5 : decode cX0_place 5 = .ok (.ireturn, 1) := zo_172 (by decide +kernel)
theorem dX0_road_0 : decode cX0_road 0 = .ok (.iload_n 2, 1) := zo_28 (by decide +kernel)
theorem dX0_road_1 : decode cX0_road 1 = .ok (.ifCond .lt 29, 3) := zo_155 (by decide +kernel)
theorem dX0_road_4 : decode cX0_road 4 = .ok (.iload_n 2, 1) := zo_28 (by decide +kernel)
theorem dX0_road_5 : decode cX0_road 5 = .ok (.bipush 7, 2) := zo_16 (by decide +kernel)
theorem dX0_road_7 : decode cX0_road 7 = .ok (.if_icmp .ge 23, 3) := zo_162 (by decide +kernel)
theorem dX0_road_10 : decode cX0_road 10 = .ok (.aload_n 0, 1) := zo_42 (by decide +kernel)
theorem dX0_road_11 : decode cX0_road 11 = .ok (.getfield 22, 3) := zo_180 (by decide +kernel)
theorem dX0_road_14 : decode cX0_road 14 = .ok (.iload_n 2, 1) := zo_28 (by decide +kernel)
theorem dX0_road_15 : decode cX0_road 15 = .ok (.iaload, 1) := zo_46 (by decide +kernel)
theorem dX0_road_16 : decode cX0_road 16 = .ok (.iconst 1, 1) := zo_4 (by decide +kernel)
theorem dX0_road_17 : decode cX0_road 17 = .ok (.if_icmp .lt 13, 3) := zo_161 (by decide +kernel)
theorem dX0_road_20 : decode cX0_road 20 = .ok (.aload_n 0, 1) := zo_42 (by decide +kernel)
theorem dX0_road_21 : decode cX0_road 21 = .ok (.getfield 18, 3) := zo_180 (by decide +kernel)
theorem dX0_road_24 : decode cX0_road 24 = .ok (.iload_n 2, 1) := zo_28 (by decide +kernel)
theorem dX0_road_25 : decode cX0_road 25 = .ok (.iaload, 1) := zo_46 (by decide +kernel)
theorem dX0_road_26 : decode cX0_road 26 = .ok (.iconst 1, 1) := zo_4 (by decide +kernel)
theorem dX0_road_27 : decode cX0_road 27 = .ok (.if_icmp .ge 5, 3) := zo_162 (by decide +kernel)
theorem dX0_road_30 : decode cX0_road 30 = .ok (.iconst 0, 1) := zo_3 (by decide +kernel)
theorem dX0_road_31 : decode cX0_road 31 = .ok (.ireturn, 1) := zo_172 (by decide +kernel)
theorem dX0_road_32 : decode cX0_road 32 = .ok (.iload_n 1, 1) := zo_27 (by decide +kernel)
theorem dX0_road_33 : decode cX0_road 33 = .ok (.aload_n 0, 1) := zo_42 (by decide +kernel)
theorem dX0_road_34 : decode cX0_road 34 = .ok (.getfield 22, 3) := zo_180 (by decide +kernel)
theorem dX0_road_37 : decode cX0_road 37 = .ok (.iload_n 2, 1) := zo_28 (by decide +kernel)
theorem dX0_road_38 : decode cX0_road 38 = .ok (.iaload, 1) := zo_46 (by decide +kernel)
theorem dX0_road_39 : decode cX0_road 39 = .ok (.idiv, 1) := zo_108 (by decide +kernel)
theorem dX0_road_40 : decode cX0_road 40 = .ok (.aload_n 0, 1) := zo_42 (by decide +kernel)
theorem dX0_road_41 : decode cX0_road 41 = .ok (.getfield 18, 3) := zo_180 (by decide +kernel)
theorem dX0_road_44 : decode cX0_road 44 = .ok (.iload_n 2, 1) := zo_28 (by decide +kernel)
theorem dX0_road_45 : decode cX0_road 45 = .ok (.iaload, 1) := zo_46 (by decide +kernel)
theorem dX0_road_46 : decode cX0_road 46 = .ok (.irem, 1) := zo_112 (by decide +kernel)
theorem dX0_road_47 : decode cX0_road 47 = .ok (.ireturn, 1) := zo_172 (by decide +kernel)
theorem dX0_entry_0 : decode cX0_entry 0 = .ok (.iload_n 1, 1) := zo_27 (by decide +kernel)
theorem dX0_entry_1 : decode cX0_entry 1 = .ok (.iconst 3, 1) := zo_6 (by decide +kernel)
theorem dX0_entry_2 : decode cX0_entry 2 = .ok (.ishl, 1) := zo_120 (by decide +kernel)
theorem dX0_entry_3 : decode cX0_entry 3 = .ok (.iload_n 2, 1) := zo_28 (by decide +kernel)
theorem dX0_entry_4 : decode cX0_entry 4 = .ok (.iadd, 1) := zo_96 (by decide +kernel)
theorem dX0_entry_5 : decode cX0_entry 5 = .ok (.istore_n 3, 1) := zo_62 (by decide +kernel)
theorem dX0_entry_6 : decode cX0_entry 6 = .ok (.iload_n 3, 1) := zo_29 (by decide +kernel)
theorem dX0_entry_7 : decode cX0_entry 7 = .ok (.ifCond .lt 21, 3) := zo_155 (by decide +kernel)
theorem dX0_entry_10 : decode cX0_entry 10 = .ok (.iload_n 3, 1) := zo_29 (by decide +kernel)
theorem dX0_entry_11 : decode cX0_entry 11 = .ok (.aload_n 0, 1) := zo_42 (by decide +kernel)
theorem dX0_entry_12 : decode cX0_entry 12 = .ok (.getfield 31, 3) := zo_180 (by decide +kernel)
theorem dX0_entry_15 : decode cX0_entry 15 = .ok (.arraylength, 1) := zo_190 (by decide +kernel)
theorem dX0_entry_16 : decode cX0_entry 16 = .ok (.if_icmp .ge 12, 3) := zo_162 (by decide +kernel)
theorem dX0_entry_19 : decode cX0_entry 19 = .ok (.aload_n 0, 1) := zo_42 (by decide +kernel)
theorem dX0_entry_20 : decode cX0_entry 20 = .ok (.getfield 31, 3) := zo_180 (by decide +kernel)
theorem dX0_entry_23 : decode cX0_entry 23 = .ok (.iload_n 3, 1) := zo_29 (by decide +kernel)
theorem dX0_entry_24 : decode cX0_entry 24 = .ok (.iaload, 1) := zo_46 (by decide +kernel)
theorem dX0_entry_25 : decode cX0_entry 25 = .ok (.goto 4, 3) := zo_167 (by decide +kernel)
theorem dX0_entry_28 : decode cX0_entry 28 = .ok (.iconst 0, 1) := zo_3 (by decide +kernel)
theorem dX0_entry_29 : decode cX0_entry 29 = .ok (.ireturn, 1) := zo_172 (by decide +kernel)
theorem dX0_where_0 : decode cX0_where 0 = .ok (.aload_n 0, 1) := zo_42 (by decide +kernel)
theorem dX0_where_1 : decode cX0_where 1 = .ok (.iload_n 1, 1) := zo_27 (by decide +kernel)
theorem dX0_where_2 : decode cX0_where 2 = .ok (.iload_n 2, 1) := zo_28 (by decide +kernel)
theorem dX0_where_3 : decode cX0_where 3 = .ok (.invokevirtual 91, 3) := zo_182 (by decide +kernel)
theorem dX0_where_6 : decode cX0_where 6 = .ok (.bipush 7, 2) := zo_16 (by decide +kernel)
theorem dX0_where_8 : decode cX0_where 8 = .ok (.iand, 1) := zo_126 (by decide +kernel)
theorem dX0_where_9 : decode cX0_where 9 = .ok (.ireturn, 1) := zo_172 (by decide +kernel)
theorem dX0_steps_0 : decode cX0_steps 0 = .ok (.aload_n 0, 1) := zo_42 (by decide +kernel)
theorem dX0_steps_1 : decode cX0_steps 1 = .ok (.iload_n 1, 1) := zo_27 (by decide +kernel)
theorem dX0_steps_2 : decode cX0_steps 2 = .ok (.iload_n 2, 1) := zo_28 (by decide +kernel)
theorem dX0_steps_3 : decode cX0_steps 3 = .ok (.invokevirtual 91, 3) := zo_182 (by decide +kernel)
theorem dX0_steps_6 : decode cX0_steps 6 = .ok (.bipush 17, 2) := zo_16 (by decide +kernel)
theorem dX0_steps_8 : decode cX0_steps 8 = .ok (.ishr, 1) := zo_122 (by decide +kernel)
theorem dX0_steps_9 : decode cX0_steps 9 = .ok (.ireturn, 1) := zo_172 (by decide +kernel)
theorem dX0_wayAfter_0 : decode cX0_wayAfter 0 = .ok (.aload_n 0, 1) := zo_42 (by decide +kernel)
theorem dX0_wayAfter_1 : decode cX0_wayAfter 1 = .ok (.iload_n 1, 1) := zo_27 (by decide +kernel)
theorem dX0_wayAfter_2 : decode cX0_wayAfter 2 = .ok (.iload_n 2, 1) := zo_28 (by decide +kernel)
theorem dX0_wayAfter_3 : decode cX0_wayAfter 3 = .ok (.invokevirtual 91, 3) := zo_182 (by decide +kernel)
theorem dX0_wayAfter_6 : decode cX0_wayAfter 6 = .ok (.ldc 90, 2) := zo_18 (by decide +kernel)
theorem dX0_wayAfter_8 : decode cX0_wayAfter 8 = .ok (.iand, 1) := zo_126 (by decide +kernel)
theorem dX0_wayAfter_9 : decode cX0_wayAfter 9 = .ok (.iconst 3, 1) := zo_6 (by decide +kernel)
theorem dX0_wayAfter_10 : decode cX0_wayAfter 10 = .ok (.ishr, 1) := zo_122 (by decide +kernel)
theorem dX0_wayAfter_11 : decode cX0_wayAfter 11 = .ok (.ireturn, 1) := zo_172 (by decide +kernel)
theorem dX0_stepsOrNever_0 : decode cX0_stepsOrNever 0 = .ok (.aload_n 0, 1) := zo_42 (by decide +kernel)
theorem dX0_stepsOrNever_1 : decode cX0_stepsOrNever 1 = .ok (.getfield 14, 3) := zo_180 (by decide +kernel)
theorem dX0_stepsOrNever_4 : decode cX0_stepsOrNever 4 = .ok (.aload_n 0, 1) := zo_42 (by decide +kernel)
theorem dX0_stepsOrNever_5 : decode cX0_stepsOrNever 5 = .ok (.iload_n 1, 1) := zo_27 (by decide +kernel)
theorem dX0_stepsOrNever_6 : decode cX0_stepsOrNever 6 = .ok (.iload_n 2, 1) := zo_28 (by decide +kernel)
theorem dX0_stepsOrNever_7 : decode cX0_stepsOrNever 7 = .ok (.invokevirtual 94, 3) := zo_182 (by decide +kernel)
theorem dX0_stepsOrNever_10 : decode cX0_stepsOrNever 10 = .ok (.invokevirtual 97, 3) := zo_182 (by decide +kernel)
theorem dX0_stepsOrNever_13 : decode cX0_stepsOrNever 13 = .ok (.ifCond .eq 12, 3) := zo_153 (by decide +kernel)
theorem dX0_stepsOrNever_16 : decode cX0_stepsOrNever 16 = .ok (.aload_n 0, 1) := zo_42 (by decide +kernel)
theorem dX0_stepsOrNever_17 : decode cX0_stepsOrNever 17 = .ok (.iload_n 1, 1) := zo_27 (by decide +kernel)
theorem dX0_stepsOrNever_18 : decode cX0_stepsOrNever 18 = .ok (.iload_n 2, 1) := zo_28 (by decide +kernel)
theorem dX0_stepsOrNever_19 : decode cX0_stepsOrNever 19 = .ok (.invokevirtual 101, 3) := zo_182 (by decide +kernel)
theorem dX0_stepsOrNever_22 : decode cX0_stepsOrNever 22 = .ok (.goto 6, 3) := zo_167 (by decide +kernel)
theorem dX0_stepsOrNever_25 : decode cX0_stepsOrNever 25 = .ok (.sipush 500, 3) := zo_17 (by decide +kernel)
theorem dX0_stepsOrNever_28 : decode cX0_stepsOrNever 28 = .ok (.ireturn, 1) := zo_172 (by decide +kernel)
theorem dX0_turned_0 : decode cX0_turned 0 = .ok (.aload_n 0, 1) := zo_42 (by decide +kernel)
theorem dX0_turned_1 : decode cX0_turned 1 = .ok (.getfield 14, 3) := zo_180 (by decide +kernel)
theorem dX0_turned_4 : decode cX0_turned 4 = .ok (.iload_n 2, 1) := zo_28 (by decide +kernel)
theorem dX0_turned_5 : decode cX0_turned 5 = .ok (.invokevirtual 61, 3) := zo_182 (by decide +kernel)
theorem dX0_turned_8 : decode cX0_turned 8 = .ok (.istore_n 3, 1) := zo_62 (by decide +kernel)
theorem dX0_turned_9 : decode cX0_turned 9 = .ok (.iload_n 3, 1) := zo_29 (by decide +kernel)
theorem dX0_turned_10 : decode cX0_turned 10 = .ok (.ifCond .ne 5, 3) := zo_154 (by decide +kernel)
theorem dX0_turned_13 : decode cX0_turned 13 = .ok (.iconst (-1), 1) := zo_2 (by decide +kernel)
theorem dX0_turned_14 : decode cX0_turned 14 = .ok (.ireturn, 1) := zo_172 (by decide +kernel)
theorem dX0_turned_15 : decode cX0_turned 15 = .ok (.aload_n 0, 1) := zo_42 (by decide +kernel)
theorem dX0_turned_16 : decode cX0_turned 16 = .ok (.iload_n 1, 1) := zo_27 (by decide +kernel)
theorem dX0_turned_17 : decode cX0_turned 17 = .ok (.iload_n 2, 1) := zo_28 (by decide +kernel)
theorem dX0_turned_18 : decode cX0_turned 18 = .ok (.invokevirtual 81, 3) := zo_182 (by decide +kernel)
theorem dX0_turned_21 : decode cX0_turned 21 = .ok (.iconst 1, 1) := zo_4 (by decide +kernel)
theorem dX0_turned_22 : decode cX0_turned 22 = .ok (.iadd, 1) := zo_96 (by decide +kernel)
theorem dX0_turned_23 : decode cX0_turned 23 = .ok (.iload_n 3, 1) := zo_29 (by decide +kernel)
theorem dX0_turned_24 : decode cX0_turned 24 = .ok (.if_icmp .ge 14, 3) := zo_162 (by decide +kernel)
theorem dX0_turned_27 : decode cX0_turned 27 = .ok (.iload_n 1, 1) := zo_27 (by decide +kernel)
theorem dX0_turned_28 : decode cX0_turned 28 = .ok (.aload_n 0, 1) := zo_42 (by decide +kernel)
theorem dX0_turned_29 : decode cX0_turned 29 = .ok (.getfield 22, 3) := zo_180 (by decide +kernel)
theorem dX0_turned_32 : decode cX0_turned 32 = .ok (.iload_n 2, 1) := zo_28 (by decide +kernel)
theorem dX0_turned_33 : decode cX0_turned 33 = .ok (.iaload, 1) := zo_46 (by decide +kernel)
theorem dX0_turned_34 : decode cX0_turned 34 = .ok (.iadd, 1) := zo_96 (by decide +kernel)
theorem dX0_turned_35 : decode cX0_turned 35 = .ok (.goto 15, 3) := zo_167 (by decide +kernel)
theorem dX0_turned_38 : decode cX0_turned 38 = .ok (.iload_n 1, 1) := zo_27 (by decide +kernel)
theorem dX0_turned_39 : decode cX0_turned 39 = .ok (.iload_n 3, 1) := zo_29 (by decide +kernel)
theorem dX0_turned_40 : decode cX0_turned 40 = .ok (.iconst 1, 1) := zo_4 (by decide +kernel)
theorem dX0_turned_41 : decode cX0_turned 41 = .ok (.isub, 1) := zo_100 (by decide +kernel)
theorem dX0_turned_42 : decode cX0_turned 42 = .ok (.aload_n 0, 1) := zo_42 (by decide +kernel)
theorem dX0_turned_43 : decode cX0_turned 43 = .ok (.getfield 22, 3) := zo_180 (by decide +kernel)
theorem dX0_turned_46 : decode cX0_turned 46 = .ok (.iload_n 2, 1) := zo_28 (by decide +kernel)
theorem dX0_turned_47 : decode cX0_turned 47 = .ok (.iaload, 1) := zo_46 (by decide +kernel)
theorem dX0_turned_48 : decode cX0_turned 48 = .ok (.imul, 1) := zo_104 (by decide +kernel)
theorem dX0_turned_49 : decode cX0_turned 49 = .ok (.isub, 1) := zo_100 (by decide +kernel)
theorem dX0_turned_50 : decode cX0_turned 50 = .ok (.ireturn, 1) := zo_172 (by decide +kernel)
theorem dX0_wayTold_0 : decode cX0_wayTold 0 = .ok (.iconst 0, 1) := zo_3 (by decide +kernel)
theorem dX0_wayTold_1 : decode cX0_wayTold 1 = .ok (.istore_n 1, 1) := zo_60 (by decide +kernel)
theorem dX0_wayTold_2 : decode cX0_wayTold 2 = .ok (.iconst 0, 1) := zo_3 (by decide +kernel)
theorem dX0_wayTold_3 : decode cX0_wayTold 3 = .ok (.istore_n 2, 1) := zo_61 (by decide +kernel)
theorem dX0_wayTold_4 : decode cX0_wayTold 4 = .ok (.iload_n 2, 1) := zo_28 (by decide +kernel)
theorem dX0_wayTold_5 : decode cX0_wayTold 5 = .ok (.bipush 7, 2) := zo_16 (by decide +kernel)
theorem dX0_wayTold_7 : decode cX0_wayTold 7 = .ok (.if_icmp .ge 43, 3) := zo_162 (by decide +kernel)
theorem dX0_wayTold_10 : decode cX0_wayTold 10 = .ok (.iload_n 1, 1) := zo_27 (by decide +kernel)
theorem dX0_wayTold_11 : decode cX0_wayTold 11 = .ok (.aload_n 0, 1) := zo_42 (by decide +kernel)
theorem dX0_wayTold_12 : decode cX0_wayTold 12 = .ok (.getfield 14, 3) := zo_180 (by decide +kernel)
theorem dX0_wayTold_15 : decode cX0_wayTold 15 = .ok (.iload_n 2, 1) := zo_28 (by decide +kernel)
theorem dX0_wayTold_16 : decode cX0_wayTold 16 = .ok (.invokevirtual 61, 3) := zo_182 (by decide +kernel)
theorem dX0_wayTold_19 : decode cX0_wayTold 19 = .ok (.ifCond .le 22, 3) := zo_158 (by decide +kernel)
theorem dX0_wayTold_22 : decode cX0_wayTold 22 = .ok (.aload_n 0, 1) := zo_42 (by decide +kernel)
theorem dX0_wayTold_23 : decode cX0_wayTold 23 = .ok (.getfield 14, 3) := zo_180 (by decide +kernel)
theorem dX0_wayTold_26 : decode cX0_wayTold 26 = .ok (.getfield 104, 3) := zo_180 (by decide +kernel)
theorem dX0_wayTold_29 : decode cX0_wayTold 29 = .ok (.iload_n 2, 1) := zo_28 (by decide +kernel)
theorem dX0_wayTold_30 : decode cX0_wayTold 30 = .ok (.iaload, 1) := zo_46 (by decide +kernel)
theorem dX0_wayTold_31 : decode cX0_wayTold 31 = .ok (.aload_n 0, 1) := zo_42 (by decide +kernel)
theorem dX0_wayTold_32 : decode cX0_wayTold 32 = .ok (.getfield 22, 3) := zo_180 (by decide +kernel)
theorem dX0_wayTold_35 : decode cX0_wayTold 35 = .ok (.iload_n 2, 1) := zo_28 (by decide +kernel)
theorem dX0_wayTold_36 : decode cX0_wayTold 36 = .ok (.iaload, 1) := zo_46 (by decide +kernel)
theorem dX0_wayTold_37 : decode cX0_wayTold 37 = .ok (.imul, 1) := zo_104 (by decide +kernel)
theorem dX0_wayTold_38 : decode cX0_wayTold 38 = .ok (.goto 4, 3) := zo_167 (by decide +kernel)
theorem dX0_wayTold_41 : decode cX0_wayTold 41 = .ok (.iconst 0, 1) := zo_3 (by decide +kernel)
theorem dX0_wayTold_42 : decode cX0_wayTold 42 = .ok (.iadd, 1) := zo_96 (by decide +kernel)
theorem dX0_wayTold_43 : decode cX0_wayTold 43 = .ok (.istore_n 1, 1) := zo_60 (by decide +kernel)
theorem dX0_wayTold_44 : decode cX0_wayTold 44 = .ok (.iinc 2 1, 3) := zo_132 (by decide +kernel)
theorem dX0_wayTold_47 : decode cX0_wayTold 47 = .ok (.goto (-43), 3) := zo_167 (by decide +kernel)
theorem dX0_wayTold_50 : decode cX0_wayTold 50 = .ok (.iload_n 1, 1) := zo_27 (by decide +kernel)
theorem dX0_wayTold_51 : decode cX0_wayTold 51 = .ok (.ireturn, 1) := zo_172 (by decide +kernel)
theorem dX0_number_0 : decode cX0_number 0 = .ok (.iconst 1, 1) := zo_4 (by decide +kernel)
theorem dX0_number_1 : decode cX0_number 1 = .ok (.istore_n 2, 1) := zo_61 (by decide +kernel)
theorem dX0_number_2 : decode cX0_number 2 = .ok (.iconst 0, 1) := zo_3 (by decide +kernel)
theorem dX0_number_3 : decode cX0_number 3 = .ok (.istore_n 3, 1) := zo_62 (by decide +kernel)
theorem dX0_number_4 : decode cX0_number 4 = .ok (.iload_n 3, 1) := zo_29 (by decide +kernel)
theorem dX0_number_5 : decode cX0_number 5 = .ok (.aload_n 0, 1) := zo_42 (by decide +kernel)
theorem dX0_number_6 : decode cX0_number 6 = .ok (.getfield 14, 3) := zo_180 (by decide +kernel)
theorem dX0_number_9 : decode cX0_number 9 = .ok (.getfield 107, 3) := zo_180 (by decide +kernel)
theorem dX0_number_12 : decode cX0_number 12 = .ok (.if_icmp .ge 21, 3) := zo_162 (by decide +kernel)
theorem dX0_number_15 : decode cX0_number 15 = .ok (.iload_n 2, 1) := zo_28 (by decide +kernel)
theorem dX0_number_16 : decode cX0_number 16 = .ok (.bipush 10, 2) := zo_16 (by decide +kernel)
theorem dX0_number_18 : decode cX0_number 18 = .ok (.imul, 1) := zo_104 (by decide +kernel)
theorem dX0_number_19 : decode cX0_number 19 = .ok (.aload_n 0, 1) := zo_42 (by decide +kernel)
theorem dX0_number_20 : decode cX0_number 20 = .ok (.iload_n 1, 1) := zo_27 (by decide +kernel)
theorem dX0_number_21 : decode cX0_number 21 = .ok (.iload_n 3, 1) := zo_29 (by decide +kernel)
theorem dX0_number_22 : decode cX0_number 22 = .ok (.invokevirtual 81, 3) := zo_182 (by decide +kernel)
theorem dX0_number_25 : decode cX0_number 25 = .ok (.iadd, 1) := zo_96 (by decide +kernel)
theorem dX0_number_26 : decode cX0_number 26 = .ok (.istore_n 2, 1) := zo_61 (by decide +kernel)
theorem dX0_number_27 : decode cX0_number 27 = .ok (.iinc 3 1, 3) := zo_132 (by decide +kernel)
theorem dX0_number_30 : decode cX0_number 30 = .ok (.goto (-26), 3) := zo_167 (by decide +kernel)
theorem dX0_number_33 : decode cX0_number 33 = .ok (.iload_n 2, 1) := zo_28 (by decide +kernel)
theorem dX0_number_34 : decode cX0_number 34 = .ok (.ireturn, 1) := zo_172 (by decide +kernel)
theorem dX0_unlike_0 : decode cX0_unlike 0 = .ok (.iconst 0, 1) := zo_3 (by decide +kernel)
theorem dX0_unlike_1 : decode cX0_unlike 1 = .ok (.istore_n 3, 1) := zo_62 (by decide +kernel)
theorem dX0_unlike_2 : decode cX0_unlike 2 = .ok (.iconst 0, 1) := zo_3 (by decide +kernel)
theorem dX0_unlike_3 : decode cX0_unlike 3 = .ok (.istore 4, 2) := zo_54 (by decide +kernel)
theorem dX0_unlike_5 : decode cX0_unlike 5 = .ok (.iload 4, 2) := zo_21 (by decide +kernel)
theorem dX0_unlike_7 : decode cX0_unlike 7 = .ok (.aload_n 0, 1) := zo_42 (by decide +kernel)
theorem dX0_unlike_8 : decode cX0_unlike 8 = .ok (.getfield 14, 3) := zo_180 (by decide +kernel)
theorem dX0_unlike_11 : decode cX0_unlike 11 = .ok (.getfield 107, 3) := zo_180 (by decide +kernel)
theorem dX0_unlike_14 : decode cX0_unlike 14 = .ok (.if_icmp .ge 37, 3) := zo_162 (by decide +kernel)
theorem dX0_unlike_17 : decode cX0_unlike 17 = .ok (.iload_n 3, 1) := zo_29 (by decide +kernel)
theorem dX0_unlike_18 : decode cX0_unlike 18 = .ok (.aload_n 0, 1) := zo_42 (by decide +kernel)
theorem dX0_unlike_19 : decode cX0_unlike 19 = .ok (.iload_n 1, 1) := zo_27 (by decide +kernel)
theorem dX0_unlike_20 : decode cX0_unlike 20 = .ok (.iload 4, 2) := zo_21 (by decide +kernel)
theorem dX0_unlike_22 : decode cX0_unlike 22 = .ok (.invokevirtual 81, 3) := zo_182 (by decide +kernel)
theorem dX0_unlike_25 : decode cX0_unlike 25 = .ok (.aload_n 0, 1) := zo_42 (by decide +kernel)
theorem dX0_unlike_26 : decode cX0_unlike 26 = .ok (.iload_n 2, 1) := zo_28 (by decide +kernel)
theorem dX0_unlike_27 : decode cX0_unlike 27 = .ok (.iload 4, 2) := zo_21 (by decide +kernel)
theorem dX0_unlike_29 : decode cX0_unlike 29 = .ok (.invokevirtual 81, 3) := zo_182 (by decide +kernel)
theorem dX0_unlike_32 : decode cX0_unlike 32 = .ok (.if_icmp .eq 10, 3) := zo_159 (by decide +kernel)
theorem dX0_unlike_35 : decode cX0_unlike 35 = .ok (.iconst 1, 1) := zo_4 (by decide +kernel)
theorem dX0_unlike_36 : decode cX0_unlike 36 = .ok (.iload 4, 2) := zo_21 (by decide +kernel)
theorem dX0_unlike_38 : decode cX0_unlike 38 = .ok (.ishl, 1) := zo_120 (by decide +kernel)
theorem dX0_unlike_39 : decode cX0_unlike 39 = .ok (.goto 4, 3) := zo_167 (by decide +kernel)
theorem dX0_unlike_42 : decode cX0_unlike 42 = .ok (.iconst 0, 1) := zo_3 (by decide +kernel)
theorem dX0_unlike_43 : decode cX0_unlike 43 = .ok (.ior, 1) := zo_128 (by decide +kernel)
theorem dX0_unlike_44 : decode cX0_unlike 44 = .ok (.istore_n 3, 1) := zo_62 (by decide +kernel)
theorem dX0_unlike_45 : decode cX0_unlike 45 = .ok (.iinc 4 1, 3) := zo_132 (by decide +kernel)
theorem dX0_unlike_48 : decode cX0_unlike 48 = .ok (.goto (-43), 3) := zo_167 (by decide +kernel)
theorem dX0_unlike_51 : decode cX0_unlike 51 = .ok (.iload_n 3, 1) := zo_29 (by decide +kernel)
theorem dX0_unlike_52 : decode cX0_unlike 52 = .ok (.ireturn, 1) := zo_172 (by decide +kernel)
theorem dX0_nearestWay_0 : decode cX0_nearestWay 0 = .ok (.aload_n 0, 1) := zo_42 (by decide +kernel)
theorem dX0_nearestWay_1 : decode cX0_nearestWay 1 = .ok (.invokevirtual 110, 3) := zo_182 (by decide +kernel)
theorem dX0_nearestWay_4 : decode cX0_nearestWay 4 = .ok (.istore_n 3, 1) := zo_62 (by decide +kernel)
theorem dX0_nearestWay_5 : decode cX0_nearestWay 5 = .ok (.iconst (-1), 1) := zo_2 (by decide +kernel)
theorem dX0_nearestWay_6 : decode cX0_nearestWay 6 = .ok (.istore 4, 2) := zo_54 (by decide +kernel)
theorem dX0_nearestWay_8 : decode cX0_nearestWay 8 = .ok (.iconst 0, 1) := zo_3 (by decide +kernel)
theorem dX0_nearestWay_9 : decode cX0_nearestWay 9 = .ok (.istore 5, 2) := zo_54 (by decide +kernel)
theorem dX0_nearestWay_11 : decode cX0_nearestWay 11 = .ok (.iconst 0, 1) := zo_3 (by decide +kernel)
theorem dX0_nearestWay_12 : decode cX0_nearestWay 12 = .ok (.istore 6, 2) := zo_54 (by decide +kernel)
theorem dX0_nearestWay_14 : decode cX0_nearestWay 14 = .ok (.iload 6, 2) := zo_21 (by decide +kernel)
theorem dX0_nearestWay_16 : decode cX0_nearestWay 16 = .ok (.aload_n 0, 1) := zo_42 (by decide +kernel)
theorem dX0_nearestWay_17 : decode cX0_nearestWay 17 = .ok (.getfield 57, 3) := zo_180 (by decide +kernel)
theorem dX0_nearestWay_20 : decode cX0_nearestWay 20 = .ok (.if_icmp .ge 63, 3) := zo_162 (by decide +kernel)
theorem dX0_nearestWay_23 : decode cX0_nearestWay 23 = .ok (.aload_n 0, 1) := zo_42 (by decide +kernel)
theorem dX0_nearestWay_24 : decode cX0_nearestWay 24 = .ok (.iload 6, 2) := zo_21 (by decide +kernel)
theorem dX0_nearestWay_26 : decode cX0_nearestWay 26 = .ok (.iload_n 1, 1) := zo_27 (by decide +kernel)
theorem dX0_nearestWay_27 : decode cX0_nearestWay 27 = .ok (.invokevirtual 94, 3) := zo_182 (by decide +kernel)
theorem dX0_nearestWay_30 : decode cX0_nearestWay 30 = .ok (.iload_n 2, 1) := zo_28 (by decide +kernel)
theorem dX0_nearestWay_31 : decode cX0_nearestWay 31 = .ok (.if_icmp .ne 46, 3) := zo_160 (by decide +kernel)
theorem dX0_nearestWay_34 : decode cX0_nearestWay 34 = .ok (.aload_n 0, 1) := zo_42 (by decide +kernel)
theorem dX0_nearestWay_35 : decode cX0_nearestWay 35 = .ok (.iload 6, 2) := zo_21 (by decide +kernel)
theorem dX0_nearestWay_37 : decode cX0_nearestWay 37 = .ok (.iload_n 3, 1) := zo_29 (by decide +kernel)
theorem dX0_nearestWay_38 : decode cX0_nearestWay 38 = .ok (.invokevirtual 114, 3) := zo_182 (by decide +kernel)
theorem dX0_nearestWay_41 : decode cX0_nearestWay 41 = .ok (.istore 7, 2) := zo_54 (by decide +kernel)
theorem dX0_nearestWay_43 : decode cX0_nearestWay 43 = .ok (.iload 7, 2) := zo_21 (by decide +kernel)
theorem dX0_nearestWay_45 : decode cX0_nearestWay 45 = .ok (.invokestatic 117, 3) := zo_184 (by decide +kernel)
theorem dX0_nearestWay_48 : decode cX0_nearestWay 48 = .ok (.bipush 7, 2) := zo_16 (by decide +kernel)
theorem dX0_nearestWay_50 : decode cX0_nearestWay 50 = .ok (.ishl, 1) := zo_120 (by decide +kernel)
theorem dX0_nearestWay_51 : decode cX0_nearestWay 51 = .ok (.iload 7, 2) := zo_21 (by decide +kernel)
theorem dX0_nearestWay_53 : decode cX0_nearestWay 53 = .ok (.iadd, 1) := zo_96 (by decide +kernel)
theorem dX0_nearestWay_54 : decode cX0_nearestWay 54 = .ok (.istore 8, 2) := zo_54 (by decide +kernel)
theorem dX0_nearestWay_56 : decode cX0_nearestWay 56 = .ok (.iload 4, 2) := zo_21 (by decide +kernel)
theorem dX0_nearestWay_58 : decode cX0_nearestWay 58 = .ok (.iconst (-1), 1) := zo_2 (by decide +kernel)
theorem dX0_nearestWay_59 : decode cX0_nearestWay 59 = .ok (.if_icmp .eq 10, 3) := zo_159 (by decide +kernel)
theorem dX0_nearestWay_62 : decode cX0_nearestWay 62 = .ok (.iload 8, 2) := zo_21 (by decide +kernel)
theorem dX0_nearestWay_64 : decode cX0_nearestWay 64 = .ok (.iload 5, 2) := zo_21 (by decide +kernel)
theorem dX0_nearestWay_66 : decode cX0_nearestWay 66 = .ok (.if_icmp .ge 11, 3) := zo_162 (by decide +kernel)
theorem dX0_nearestWay_69 : decode cX0_nearestWay 69 = .ok (.iload 6, 2) := zo_21 (by decide +kernel)
theorem dX0_nearestWay_71 : decode cX0_nearestWay 71 = .ok (.istore 4, 2) := zo_54 (by decide +kernel)
theorem dX0_nearestWay_73 : decode cX0_nearestWay 73 = .ok (.iload 8, 2) := zo_21 (by decide +kernel)
theorem dX0_nearestWay_75 : decode cX0_nearestWay 75 = .ok (.istore 5, 2) := zo_54 (by decide +kernel)
theorem dX0_nearestWay_77 : decode cX0_nearestWay 77 = .ok (.iinc 6 1, 3) := zo_132 (by decide +kernel)
theorem dX0_nearestWay_80 : decode cX0_nearestWay 80 = .ok (.goto (-66), 3) := zo_167 (by decide +kernel)
theorem dX0_nearestWay_83 : decode cX0_nearestWay 83 = .ok (.iload 4, 2) := zo_21 (by decide +kernel)
theorem dX0_nearestWay_85 : decode cX0_nearestWay 85 = .ok (.ireturn, 1) := zo_172 (by decide +kernel)
theorem dX0_comesByRow_0 : decode cX0_comesByRow 0 = .ok (.iload_n 1, 1) := zo_27 (by decide +kernel)
theorem dX0_comesByRow_1 : decode cX0_comesByRow 1 = .ok (.istore_n 2, 1) := zo_61 (by decide +kernel)
theorem dX0_comesByRow_2 : decode cX0_comesByRow 2 = .ok (.iconst 0, 1) := zo_3 (by decide +kernel)
theorem dX0_comesByRow_3 : decode cX0_comesByRow 3 = .ok (.istore_n 3, 1) := zo_62 (by decide +kernel)
theorem dX0_comesByRow_4 : decode cX0_comesByRow 4 = .ok (.iload_n 3, 1) := zo_29 (by decide +kernel)
theorem dX0_comesByRow_5 : decode cX0_comesByRow 5 = .ok (.aload_n 0, 1) := zo_42 (by decide +kernel)
theorem dX0_comesByRow_6 : decode cX0_comesByRow 6 = .ok (.getfield 14, 3) := zo_180 (by decide +kernel)
theorem dX0_comesByRow_9 : decode cX0_comesByRow 9 = .ok (.getfield 107, 3) := zo_180 (by decide +kernel)
theorem dX0_comesByRow_12 : decode cX0_comesByRow 12 = .ok (.if_icmp .ge 35, 3) := zo_162 (by decide +kernel)
theorem dX0_comesByRow_15 : decode cX0_comesByRow 15 = .ok (.aload_n 0, 1) := zo_42 (by decide +kernel)
theorem dX0_comesByRow_16 : decode cX0_comesByRow 16 = .ok (.getfield 14, 3) := zo_180 (by decide +kernel)
theorem dX0_comesByRow_19 : decode cX0_comesByRow 19 = .ok (.iload_n 2, 1) := zo_28 (by decide +kernel)
theorem dX0_comesByRow_20 : decode cX0_comesByRow 20 = .ok (.invokevirtual 61, 3) := zo_182 (by decide +kernel)
theorem dX0_comesByRow_23 : decode cX0_comesByRow 23 = .ok (.ifCond .le 24, 3) := zo_158 (by decide +kernel)
theorem dX0_comesByRow_26 : decode cX0_comesByRow 26 = .ok (.aload_n 0, 1) := zo_42 (by decide +kernel)
theorem dX0_comesByRow_27 : decode cX0_comesByRow 27 = .ok (.getfield 14, 3) := zo_180 (by decide +kernel)
theorem dX0_comesByRow_30 : decode cX0_comesByRow 30 = .ok (.iload_n 2, 1) := zo_28 (by decide +kernel)
theorem dX0_comesByRow_31 : decode cX0_comesByRow 31 = .ok (.aload_n 0, 1) := zo_42 (by decide +kernel)
theorem dX0_comesByRow_32 : decode cX0_comesByRow 32 = .ok (.getfield 25, 3) := zo_180 (by decide +kernel)
theorem dX0_comesByRow_35 : decode cX0_comesByRow 35 = .ok (.iload_n 2, 1) := zo_28 (by decide +kernel)
theorem dX0_comesByRow_36 : decode cX0_comesByRow 36 = .ok (.iaload, 1) := zo_46 (by decide +kernel)
theorem dX0_comesByRow_37 : decode cX0_comesByRow 37 = .ok (.invokevirtual 84, 3) := zo_182 (by decide +kernel)
theorem dX0_comesByRow_40 : decode cX0_comesByRow 40 = .ok (.istore_n 2, 1) := zo_61 (by decide +kernel)
theorem dX0_comesByRow_41 : decode cX0_comesByRow 41 = .ok (.iinc 3 1, 3) := zo_132 (by decide +kernel)
theorem dX0_comesByRow_44 : decode cX0_comesByRow 44 = .ok (.goto (-40), 3) := zo_167 (by decide +kernel)
theorem dX0_comesByRow_47 : decode cX0_comesByRow 47 = .ok (.aload_n 0, 1) := zo_42 (by decide +kernel)
theorem dX0_comesByRow_48 : decode cX0_comesByRow 48 = .ok (.getfield 14, 3) := zo_180 (by decide +kernel)
theorem dX0_comesByRow_51 : decode cX0_comesByRow 51 = .ok (.iload_n 2, 1) := zo_28 (by decide +kernel)
theorem dX0_comesByRow_52 : decode cX0_comesByRow 52 = .ok (.invokevirtual 97, 3) := zo_182 (by decide +kernel)
theorem dX0_comesByRow_55 : decode cX0_comesByRow 55 = .ok (.ireturn, 1) := zo_172 (by decide +kernel)
theorem dX0_allComeByRow_0 : decode cX0_allComeByRow 0 = .ok (.iconst 0, 1) := zo_3 (by decide +kernel)
theorem dX0_allComeByRow_1 : decode cX0_allComeByRow 1 = .ok (.istore_n 1, 1) := zo_60 (by decide +kernel)
theorem dX0_allComeByRow_2 : decode cX0_allComeByRow 2 = .ok (.iload_n 1, 1) := zo_27 (by decide +kernel)
theorem dX0_allComeByRow_3 : decode cX0_allComeByRow 3 = .ok (.aload_n 0, 1) := zo_42 (by decide +kernel)
theorem dX0_allComeByRow_4 : decode cX0_allComeByRow 4 = .ok (.getfield 14, 3) := zo_180 (by decide +kernel)
theorem dX0_allComeByRow_7 : decode cX0_allComeByRow 7 = .ok (.getfield 107, 3) := zo_180 (by decide +kernel)
theorem dX0_allComeByRow_10 : decode cX0_allComeByRow 10 = .ok (.if_icmp .ge 30, 3) := zo_162 (by decide +kernel)
theorem dX0_allComeByRow_13 : decode cX0_allComeByRow 13 = .ok (.aload_n 0, 1) := zo_42 (by decide +kernel)
theorem dX0_allComeByRow_14 : decode cX0_allComeByRow 14 = .ok (.getfield 14, 3) := zo_180 (by decide +kernel)
theorem dX0_allComeByRow_17 : decode cX0_allComeByRow 17 = .ok (.iload_n 1, 1) := zo_27 (by decide +kernel)
theorem dX0_allComeByRow_18 : decode cX0_allComeByRow 18 = .ok (.invokevirtual 61, 3) := zo_182 (by decide +kernel)
theorem dX0_allComeByRow_21 : decode cX0_allComeByRow 21 = .ok (.ifCond .le 13, 3) := zo_158 (by decide +kernel)
theorem dX0_allComeByRow_24 : decode cX0_allComeByRow 24 = .ok (.aload_n 0, 1) := zo_42 (by decide +kernel)
theorem dX0_allComeByRow_25 : decode cX0_allComeByRow 25 = .ok (.iload_n 1, 1) := zo_27 (by decide +kernel)
theorem dX0_allComeByRow_26 : decode cX0_allComeByRow 26 = .ok (.invokevirtual 129, 3) := zo_182 (by decide +kernel)
theorem dX0_allComeByRow_29 : decode cX0_allComeByRow 29 = .ok (.ifCond .ne 5, 3) := zo_154 (by decide +kernel)
theorem dX0_allComeByRow_32 : decode cX0_allComeByRow 32 = .ok (.iconst 0, 1) := zo_3 (by decide +kernel)
theorem dX0_allComeByRow_33 : decode cX0_allComeByRow 33 = .ok (.ireturn, 1) := zo_172 (by decide +kernel)
theorem dX0_allComeByRow_34 : decode cX0_allComeByRow 34 = .ok (.iinc 1 1, 3) := zo_132 (by decide +kernel)
theorem dX0_allComeByRow_37 : decode cX0_allComeByRow 37 = .ok (.goto (-35), 3) := zo_167 (by decide +kernel)
theorem dX0_allComeByRow_40 : decode cX0_allComeByRow 40 = .ok (.iconst 1, 1) := zo_4 (by decide +kernel)
theorem dX0_allComeByRow_41 : decode cX0_allComeByRow 41 = .ok (.ireturn, 1) := zo_172 (by decide +kernel)
def zRoad (f1 f2 : Nat → Int32) (way x : Int32) : Int32 := if x.toInt < 0 ∨ 7 ≤ x.toInt ∨ (f2 x.toNatClampNeg).toInt < 1 ∨ (f1 x.toNatClampNeg).toInt < 1 then 0 else way / f2 x.toNatClampNeg - way / f2 x.toNatClampNeg / f1 x.toNatClampNeg * f1 x.toNatClampNeg
def zEntry (f5 : Nat → Int32) (n : Nat) (way x : Int32) : Int32 := if 0 ≤ ((way <<< (3 &&& 31)) + x).toInt ∧ ((way <<< (3 &&& 31)) + x).toInt < n then f5 ((way <<< (3 &&& 31)) + x).toNatClampNeg else 0
theorem z_and7 (x : Int32) : 0 ≤ (x &&& 7).toInt ∧ (x &&& 7).toInt ≤ 7 := by
  obtain ⟨j, hj, e⟩ := pk_andE x (m := 7) 3 (by decide)
  rw [e, nI_toInt (by omega)]
  omega
theorem z_andP (x : Int32) : 0 ≤ (x &&& 131071).toInt := by
  obtain ⟨j, hj, e⟩ := pk_andE x (m := 131071) 17 (by decide)
  rw [e, nI_toInt (by omega)]
  omega
set_option maxHeartbeats 4000000 in
set_option maxRecDepth 100000 in
/-- place -/
theorem c_place (l : Launch) (T : zTy) (x : Int32) (y : Int32) : zMi l T yX0_place cX0_place 2 (some .int) 1 0 0 [.int x, .int y] [] (fun (r : Int32) bs => bs = [] ∧ r = (x <<< (3 &&& 31)) + y) := by
  refine zMi_of (own := RX0) (by decide) rfl (Nat.le_of_ble_eq_true rfl) ?_
  intro p e s m args below meth c A ls C hr hlocks hnm hAe G hl
  refine zHide (fun Qz_ hQz_ => ?_)
  have hx := C.1
  have hb := C.2.1
  have hl : lv_has ls 2 [(0, .int x), (1, .int y)] := hl
  refine lv_iload_n hx hb dX0_place_0 rfl (lv_at hl 0 rfl) ?_
  refine lv_iconst (v := 3) hx hb dX0_place_1 (by decide) ?_
  refine lv_ishl hx hb dX0_place_2 ?_
  refine lv_iload_n hx hb dX0_place_3 rfl (lv_at hl 1 rfl) ?_
  refine lv_iadd hx hb dX0_place_4 ?_
  exact z_back hQz_ (z_iret C hr hlocks G (Nat.le_of_ble_eq_true rfl) (Nat.le_of_ble_eq_true rfl) dX0_place_5 ⟨rfl, rfl⟩)
set_option maxHeartbeats 4000000 in
set_option maxRecDepth 100000 in
/-- c_road -/
theorem c_road (l : Launch) (T : zTy) (h : Nat) (la : Nat) (md : Int32) (wy : Int32) (pc_ : Int32) (f1 : Nat → Int32) (f2 : Nat → Int32) (f3 : Nat → Int32) (f4 : Nat → Int32) (f5 : Nat → Int32) (f6 : Nat → Int32) (n4 : Nat) (ww : va_W) (x : Int32) (y : Int32) (hww : bWays T h la md wy pc_ f1 f2 f3 f4 f5 f6 n4 ww) : zMi l T yX0_road cX0_road 3 (some .int) 1 0 0 [.ref h, .int x, .int y] [ww] (fun (r : Int32) bs => bs = [ww] ∧ r = zRoad f1 f2 x y) := by
  refine zMi_of (own := RX0) (by decide) rfl (Nat.le_of_ble_eq_true rfl) ?_
  intro p e s m args below meth c A ls C hr hlocks hnm hAe G hl
  refine zHide (fun Qz_ hQz_ => ?_)
  have hx := C.1
  have hb := C.2.1
  have hl : lv_has ls 3 [(0, .ref h), (1, .int x), (2, .int y)] := hl
  refine lv_iload_n hx hb dX0_road_0 rfl (lv_at hl 2 rfl) ?_
  refine lv_if_lt (tgt := 30) hx hb dX0_road_1 (by decide) (fun c_1 => ?_) (fun c_1 => ?_)
  · have c_1n : y.toInt < (0 : Int) := (fa_lt _ _).mp c_1
    refine lv_iconst (v := 0) hx hb dX0_road_30 (by decide) ?_
    exact z_back hQz_ (z_iret C hr hlocks G (Nat.le_of_ble_eq_true rfl) (Nat.le_of_ble_eq_true rfl) dX0_road_31 ⟨rfl, (by unfold zRoad; rw [if_pos (by omega)])⟩)
  · have c_1n : ¬ y.toInt < (0 : Int) := fun q => c_1 ((fa_lt _ _).mpr q)
    refine lv_iload_n hx hb dX0_road_4 rfl (lv_at hl 2 rfl) ?_
    refine lv_bipush (v := 7) hx hb dX0_road_5 (by decide) ?_
    refine lv_icmp_ge (tgt := 30) hx hb dX0_road_7 (by decide) (fun c_2 => ?_) (fun c_2 => ?_)
    · have c_2n : (7 : Int) ≤ y.toInt := (fa_le _ _).mp c_2
      refine lv_iconst (v := 0) hx hb dX0_road_30 (by decide) ?_
      exact z_back hQz_ (z_iret C hr hlocks G (Nat.le_of_ble_eq_true rfl) (Nat.le_of_ble_eq_true rfl) dX0_road_31 ⟨rfl, (by unfold zRoad; rw [if_pos (by omega)])⟩)
    · have c_2n : ¬ (7 : Int) ≤ y.toInt := fun q => c_2 ((fa_le _ _).mpr q)
      refine lv_aload_n hx hb dX0_road_10 rfl (lv_at hl 0 rfl) ?_
      refine zEx6 hww ?_
      intro a1_3 a2_4 a3_5 a4_6 a5_7 a6_8 hbs9
      clear hww
      subst hbs9
      have G : zS T A s.heap s [[zO0 h md wy la pc_ a1_3 a2_4 a3_5 a4_6 a5_7 a6_8], [zAr T 0 a1_3 7 f1], [zAr T 0 a2_4 7 f2], [zAr T 0 a3_5 7 f3], [zAr T 0 a4_6 n4 f4], [zAr T 0 a5_7 n4 f5], [zAr T 0 a6_8 n4 f6]] _ _ := G.re rfl
      refine z_get C G clX0 0 rfl 5 (by decide) m_fl_RX0_22 rfl dX0_road_11 ?_
      refine lv_iload_n hx hb dX0_road_14 rfl (lv_at hl 2 rfl) ?_
      refine z_ild C G 2 rfl (vp_in_iff.mpr ⟨by omega, by omega⟩) dX0_road_15 ?_
      refine lv_topi (fun v_9 ev_9 => ?_)
      subst ev_9
      refine lv_iconst (v := 1) hx hb dX0_road_16 (by decide) ?_
      refine lv_icmp_lt (tgt := 30) hx hb dX0_road_17 (by decide) (fun c_10 => ?_) (fun c_10 => ?_)
      · have c_10n : (f2 y.toNatClampNeg).toInt < (1 : Int) := (fa_lt _ _).mp c_10
        refine lv_iconst (v := 0) hx hb dX0_road_30 (by decide) ?_
        have hw_11 : bWays T h la md wy pc_ f1 f2 f3 f4 f5 f6 n4 [zO0 h md wy la pc_ a1_3 a2_4 a3_5 a4_6 a5_7 a6_8, zAr T 0 a1_3 7 f1, zAr T 0 a2_4 7 f2, zAr T 0 a3_5 7 f3, zAr T 0 a4_6 n4 f4, zAr T 0 a5_7 n4 f5, zAr T 0 a6_8 n4 f6] := ⟨a1_3, a2_4, a3_5, a4_6, a5_7, a6_8, rfl⟩
        have G : zS T A s.heap s [[zO0 h md wy la pc_ a1_3 a2_4 a3_5 a4_6 a5_7 a6_8, zAr T 0 a1_3 7 f1, zAr T 0 a2_4 7 f2, zAr T 0 a3_5 7 f3, zAr T 0 a4_6 n4 f4, zAr T 0 a5_7 n4 f5, zAr T 0 a6_8 n4 f6]] _ _ := G.re rfl
        exact z_back hQz_ (z_iret C hr hlocks G (Nat.le_of_ble_eq_true rfl) (Nat.le_of_ble_eq_true rfl) dX0_road_31 ⟨rfl, (by unfold zRoad; rw [if_pos (by omega)])⟩)
      · have c_10n : ¬ (f2 y.toNatClampNeg).toInt < (1 : Int) := fun q => c_10 ((fa_lt _ _).mpr q)
        refine lv_aload_n hx hb dX0_road_20 rfl (lv_at hl 0 rfl) ?_
        refine z_get C G clX0 0 rfl 4 (by decide) m_fl_RX0_18 rfl dX0_road_21 ?_
        refine lv_iload_n hx hb dX0_road_24 rfl (lv_at hl 2 rfl) ?_
        refine z_ild C G 1 rfl (vp_in_iff.mpr ⟨by omega, by omega⟩) dX0_road_25 ?_
        refine lv_topi (fun v_12 ev_12 => ?_)
        subst ev_12
        refine lv_iconst (v := 1) hx hb dX0_road_26 (by decide) ?_
        refine lv_icmp_ge (tgt := 32) hx hb dX0_road_27 (by decide) (fun c_13 => ?_) (fun c_13 => ?_)
        · have c_13n : (1 : Int) ≤ (f1 y.toNatClampNeg).toInt := (fa_le _ _).mp c_13
          refine lv_iload_n hx hb dX0_road_32 rfl (lv_at hl 1 rfl) ?_
          refine lv_aload_n hx hb dX0_road_33 rfl (lv_at hl 0 rfl) ?_
          refine z_get C G clX0 0 rfl 5 (by decide) m_fl_RX0_22 rfl dX0_road_34 ?_
          refine lv_iload_n hx hb dX0_road_37 rfl (lv_at hl 2 rfl) ?_
          refine z_ild C G 2 rfl (vp_in_iff.mpr ⟨by omega, by omega⟩) dX0_road_38 ?_
          refine lv_topi (fun v_14 ev_14 => ?_)
          subst ev_14
          refine lv_idiv hx hb dX0_road_39 (fun q => absurd (congrArg Int32.toInt q) (by show ¬ _ = (0 : Int); omega)) ?_
          refine lv_aload_n hx hb dX0_road_40 rfl (lv_at hl 0 rfl) ?_
          refine z_get C G clX0 0 rfl 4 (by decide) m_fl_RX0_18 rfl dX0_road_41 ?_
          refine lv_iload_n hx hb dX0_road_44 rfl (lv_at hl 2 rfl) ?_
          refine z_ild C G 1 rfl (vp_in_iff.mpr ⟨by omega, by omega⟩) dX0_road_45 ?_
          refine lv_topi (fun v_15 ev_15 => ?_)
          subst ev_15
          refine lv_irem hx hb dX0_road_46 (fun q => absurd (congrArg Int32.toInt q) (by show ¬ _ = (0 : Int); omega)) ?_
          have hw_16 : bWays T h la md wy pc_ f1 f2 f3 f4 f5 f6 n4 [zO0 h md wy la pc_ a1_3 a2_4 a3_5 a4_6 a5_7 a6_8, zAr T 0 a1_3 7 f1, zAr T 0 a2_4 7 f2, zAr T 0 a3_5 7 f3, zAr T 0 a4_6 n4 f4, zAr T 0 a5_7 n4 f5, zAr T 0 a6_8 n4 f6] := ⟨a1_3, a2_4, a3_5, a4_6, a5_7, a6_8, rfl⟩
          have G : zS T A s.heap s [[zO0 h md wy la pc_ a1_3 a2_4 a3_5 a4_6 a5_7 a6_8, zAr T 0 a1_3 7 f1, zAr T 0 a2_4 7 f2, zAr T 0 a3_5 7 f3, zAr T 0 a4_6 n4 f4, zAr T 0 a5_7 n4 f5, zAr T 0 a6_8 n4 f6]] _ _ := G.re rfl
          exact z_back hQz_ (z_iret C hr hlocks G (Nat.le_of_ble_eq_true rfl) (Nat.le_of_ble_eq_true rfl) dX0_road_47 ⟨rfl, (by unfold zRoad; rw [if_neg (by omega)])⟩)
        · have c_13n : ¬ (1 : Int) ≤ (f1 y.toNatClampNeg).toInt := fun q => c_13 ((fa_le _ _).mpr q)
          refine lv_iconst (v := 0) hx hb dX0_road_30 (by decide) ?_
          have hw_17 : bWays T h la md wy pc_ f1 f2 f3 f4 f5 f6 n4 [zO0 h md wy la pc_ a1_3 a2_4 a3_5 a4_6 a5_7 a6_8, zAr T 0 a1_3 7 f1, zAr T 0 a2_4 7 f2, zAr T 0 a3_5 7 f3, zAr T 0 a4_6 n4 f4, zAr T 0 a5_7 n4 f5, zAr T 0 a6_8 n4 f6] := ⟨a1_3, a2_4, a3_5, a4_6, a5_7, a6_8, rfl⟩
          have G : zS T A s.heap s [[zO0 h md wy la pc_ a1_3 a2_4 a3_5 a4_6 a5_7 a6_8, zAr T 0 a1_3 7 f1, zAr T 0 a2_4 7 f2, zAr T 0 a3_5 7 f3, zAr T 0 a4_6 n4 f4, zAr T 0 a5_7 n4 f5, zAr T 0 a6_8 n4 f6]] _ _ := G.re rfl
          exact z_back hQz_ (z_iret C hr hlocks G (Nat.le_of_ble_eq_true rfl) (Nat.le_of_ble_eq_true rfl) dX0_road_31 ⟨rfl, (by unfold zRoad; rw [if_pos (by omega)])⟩)
set_option maxHeartbeats 4000000 in
set_option maxRecDepth 100000 in
/-- c_entry -/
theorem c_entry (l : Launch) (T : zTy) (h : Nat) (la : Nat) (md : Int32) (wy : Int32) (pc_ : Int32) (f1 : Nat → Int32) (f2 : Nat → Int32) (f3 : Nat → Int32) (f4 : Nat → Int32) (f5 : Nat → Int32) (f6 : Nat → Int32) (n4 : Nat) (ww : va_W) (x : Int32) (y : Int32) (hww : bWays T h la md wy pc_ f1 f2 f3 f4 f5 f6 n4 ww) (hn : n4 ≤ 131072) : zMi l T yX0_entry cX0_entry 4 (some .int) 1 0 0 [.ref h, .int x, .int y] [ww] (fun (r : Int32) bs => bs = [ww] ∧ r = zEntry f5 n4 x y) := by
  refine zMi_of (own := RX0) (by decide) rfl (Nat.le_of_ble_eq_true rfl) ?_
  intro p e s m args below meth c A ls C hr hlocks hnm hAe G hl
  refine zHide (fun Qz_ hQz_ => ?_)
  have hx := C.1
  have hb := C.2.1
  have hl : lv_has ls 4 [(0, .ref h), (1, .int x), (2, .int y)] := hl
  refine lv_iload_n hx hb dX0_entry_0 rfl (lv_at hl 1 rfl) ?_
  refine lv_iconst (v := 3) hx hb dX0_entry_1 (by decide) ?_
  refine lv_ishl hx hb dX0_entry_2 ?_
  refine lv_iload_n hx hb dX0_entry_3 rfl (lv_at hl 2 rfl) ?_
  refine lv_iadd hx hb dX0_entry_4 ?_
  refine lv_istore_n (lv' := [(3, .int ((x <<< (3 &&& 31)) + y)), (0, .ref h), (1, .int x), (2, .int y)]) hx hb dX0_entry_5 rfl hl (by decide) (zLvf_h rfl) (fun ls hl => ?_)
  refine lv_iload_n hx hb dX0_entry_6 rfl (lv_at hl 0 rfl) ?_
  refine lv_if_lt (tgt := 28) hx hb dX0_entry_7 (by decide) (fun c_1 => ?_) (fun c_1 => ?_)
  · have c_1n : ((x <<< (3 &&& 31)) + y).toInt < (0 : Int) := (fa_lt _ _).mp c_1
    refine lv_iconst (v := 0) hx hb dX0_entry_28 (by decide) ?_
    exact z_back hQz_ (z_iret C hr hlocks G (Nat.le_of_ble_eq_true rfl) (Nat.le_of_ble_eq_true rfl) dX0_entry_29 ⟨rfl, (by unfold zEntry; rw [if_neg (by omega)])⟩)
  · have c_1n : ¬ ((x <<< (3 &&& 31)) + y).toInt < (0 : Int) := fun q => c_1 ((fa_lt _ _).mpr q)
    refine lv_iload_n hx hb dX0_entry_10 rfl (lv_at hl 0 rfl) ?_
    refine lv_aload_n hx hb dX0_entry_11 rfl (lv_at hl 1 rfl) ?_
    refine zEx6 hww ?_
    intro a1_2 a2_3 a3_4 a4_5 a5_6 a6_7 hbs9
    clear hww
    subst hbs9
    have G : zS T A s.heap s [[zO0 h md wy la pc_ a1_2 a2_3 a3_4 a4_5 a5_6 a6_7], [zAr T 0 a1_2 7 f1], [zAr T 0 a2_3 7 f2], [zAr T 0 a3_4 7 f3], [zAr T 0 a4_5 n4 f4], [zAr T 0 a5_6 n4 f5], [zAr T 0 a6_7 n4 f6]] _ _ := G.re rfl
    refine z_get C G clX0 0 rfl 8 (by decide) m_fl_RX0_31 rfl dX0_entry_12 ?_
    refine z_alen C G 5 0 rfl (v := nI n4) rfl rfl dX0_entry_15 ?_
    refine lv_icmp_ge (tgt := 28) hx hb dX0_entry_16 (by decide) (fun c_8 => ?_) (fun c_8 => ?_)
    · have c_8n : (n4 : Int) ≤ ((x <<< (3 &&& 31)) + y).toInt := by have q := (fa_le _ _).mp c_8; rw [nI_toInt (n := n4) (by omega)] at q; exact q
      refine lv_iconst (v := 0) hx hb dX0_entry_28 (by decide) ?_
      have hw_9 : bWays T h la md wy pc_ f1 f2 f3 f4 f5 f6 n4 [zO0 h md wy la pc_ a1_2 a2_3 a3_4 a4_5 a5_6 a6_7, zAr T 0 a1_2 7 f1, zAr T 0 a2_3 7 f2, zAr T 0 a3_4 7 f3, zAr T 0 a4_5 n4 f4, zAr T 0 a5_6 n4 f5, zAr T 0 a6_7 n4 f6] := ⟨a1_2, a2_3, a3_4, a4_5, a5_6, a6_7, rfl⟩
      have G : zS T A s.heap s [[zO0 h md wy la pc_ a1_2 a2_3 a3_4 a4_5 a5_6 a6_7, zAr T 0 a1_2 7 f1, zAr T 0 a2_3 7 f2, zAr T 0 a3_4 7 f3, zAr T 0 a4_5 n4 f4, zAr T 0 a5_6 n4 f5, zAr T 0 a6_7 n4 f6]] _ _ := G.re rfl
      exact z_back hQz_ (z_iret C hr hlocks G (Nat.le_of_ble_eq_true rfl) (Nat.le_of_ble_eq_true rfl) dX0_entry_29 ⟨rfl, (by unfold zEntry; rw [if_neg (by omega)])⟩)
    · have c_8n : ¬ (n4 : Int) ≤ ((x <<< (3 &&& 31)) + y).toInt := fun q => c_8 ((fa_le _ _).mpr (by rw [nI_toInt (n := n4) (by omega)]; exact q))
      refine lv_aload_n hx hb dX0_entry_19 rfl (lv_at hl 1 rfl) ?_
      refine z_get C G clX0 0 rfl 8 (by decide) m_fl_RX0_31 rfl dX0_entry_20 ?_
      refine lv_iload_n hx hb dX0_entry_23 rfl (lv_at hl 0 rfl) ?_
      refine z_ild C G 5 rfl (vp_in_iff.mpr ⟨by omega, by omega⟩) dX0_entry_24 ?_
      refine lv_topi (fun v_10 ev_10 => ?_)
      subst ev_10
      refine lv_goto (tgt := 29) hx hb dX0_entry_25 (by decide) ?_
      have hw_11 : bWays T h la md wy pc_ f1 f2 f3 f4 f5 f6 n4 [zO0 h md wy la pc_ a1_2 a2_3 a3_4 a4_5 a5_6 a6_7, zAr T 0 a1_2 7 f1, zAr T 0 a2_3 7 f2, zAr T 0 a3_4 7 f3, zAr T 0 a4_5 n4 f4, zAr T 0 a5_6 n4 f5, zAr T 0 a6_7 n4 f6] := ⟨a1_2, a2_3, a3_4, a4_5, a5_6, a6_7, rfl⟩
      have G : zS T A s.heap s [[zO0 h md wy la pc_ a1_2 a2_3 a3_4 a4_5 a5_6 a6_7, zAr T 0 a1_2 7 f1, zAr T 0 a2_3 7 f2, zAr T 0 a3_4 7 f3, zAr T 0 a4_5 n4 f4, zAr T 0 a5_6 n4 f5, zAr T 0 a6_7 n4 f6]] _ _ := G.re rfl
      exact z_back hQz_ (z_iret C hr hlocks G (Nat.le_of_ble_eq_true rfl) (Nat.le_of_ble_eq_true rfl) dX0_entry_29 ⟨rfl, (by unfold zEntry; rw [if_pos (by omega)])⟩)
set_option maxHeartbeats 4000000 in
set_option maxRecDepth 100000 in
/-- c_where -/
theorem c_where (l : Launch) (T : zTy) (h : Nat) (la : Nat) (md : Int32) (wy : Int32) (pc_ : Int32) (f1 : Nat → Int32) (f2 : Nat → Int32) (f3 : Nat → Int32) (f4 : Nat → Int32) (f5 : Nat → Int32) (f6 : Nat → Int32) (n4 : Nat) (ww : va_W) (x : Int32) (y : Int32) (hww : bWays T h la md wy pc_ f1 f2 f3 f4 f5 f6 n4 ww) (hn : n4 ≤ 131072) : zMi l T yX0_where cX0_where 3 (some .int) 2 0 0 [.ref h, .int x, .int y] [ww] (fun (r : Int32) bs => bs = [ww] ∧ r = zEntry f5 n4 x y &&& 7) := by
  refine zMi_of (own := RX0) (by decide) rfl (Nat.le_of_ble_eq_true rfl) ?_
  intro p e s m args below meth c A ls C hr hlocks hnm hAe G hl
  refine zHide (fun Qz_ hQz_ => ?_)
  have hx := C.1
  have hb := C.2.1
  have hl : lv_has ls 3 [(0, .ref h), (1, .int x), (2, .int y)] := hl
  refine lv_aload_n hx hb dX0_where_0 rfl (lv_at hl 0 rfl) ?_
  refine lv_iload_n hx hb dX0_where_1 rfl (lv_at hl 1 rfl) ?_
  refine lv_iload_n hx hb dX0_where_2 rfl (lv_at hl 2 rfl) ?_
  refine z_Vi (bc := [ww]) (br := []) (As := [.int x, .int y]) (rest := []) C G (c_entry l T h la md wy pc_ f1 f2 f3 f4 f5 f6 n4 ww x y hww (by first | with_reducible assumption | with_reducible rfl | omega | assumption | rfl)) (kV_RX0_91 C.2.2.2.2 (Nat.le_of_ble_eq_true rfl) (Nat.le_of_ble_eq_true rfl)) [0] [0] rfl rfl (ci := 0) (qc := (RX0, TX0, 10)) rfl rfl (List.mem_flatten.mpr ⟨_, List.mem_of_getElem? (i := 0) rfl, (bWays_mem hww).choose_spec⟩) rfl rfl hl.1 dX0_where_3 (Nat.le_of_ble_eq_true rfl) (Nat.le_of_ble_eq_true rfl) (fun r_2 b1 H locs hw G => ?_)
  refine zAn2 hw ?_
  intro hbs9 h_1
  clear hw
  subst hbs9
  have G : zS T A s.heap s [ww] _ _ := G
  subst h_1
  refine lv_bipush (v := 7) hx hb dX0_where_6 (by decide) ?_
  refine lv_iand hx hb dX0_where_8 ?_
  exact z_back hQz_ (z_iret C hr hlocks G (Nat.le_of_ble_eq_true rfl) (Nat.le_of_ble_eq_true rfl) dX0_where_9 ⟨rfl, rfl⟩)
set_option maxHeartbeats 4000000 in
set_option maxRecDepth 100000 in
/-- c_steps -/
theorem c_steps (l : Launch) (T : zTy) (h : Nat) (la : Nat) (md : Int32) (wy : Int32) (pc_ : Int32) (f1 : Nat → Int32) (f2 : Nat → Int32) (f3 : Nat → Int32) (f4 : Nat → Int32) (f5 : Nat → Int32) (f6 : Nat → Int32) (n4 : Nat) (ww : va_W) (x : Int32) (y : Int32) (hww : bWays T h la md wy pc_ f1 f2 f3 f4 f5 f6 n4 ww) (hn : n4 ≤ 131072) : zMi l T yX0_steps cX0_steps 3 (some .int) 2 0 0 [.ref h, .int x, .int y] [ww] (fun (r : Int32) bs => bs = [ww] ∧ r = zEntry f5 n4 x y >>> (17 &&& 31)) := by
  refine zMi_of (own := RX0) (by decide) rfl (Nat.le_of_ble_eq_true rfl) ?_
  intro p e s m args below meth c A ls C hr hlocks hnm hAe G hl
  refine zHide (fun Qz_ hQz_ => ?_)
  have hx := C.1
  have hb := C.2.1
  have hl : lv_has ls 3 [(0, .ref h), (1, .int x), (2, .int y)] := hl
  refine lv_aload_n hx hb dX0_steps_0 rfl (lv_at hl 0 rfl) ?_
  refine lv_iload_n hx hb dX0_steps_1 rfl (lv_at hl 1 rfl) ?_
  refine lv_iload_n hx hb dX0_steps_2 rfl (lv_at hl 2 rfl) ?_
  refine z_Vi (bc := [ww]) (br := []) (As := [.int x, .int y]) (rest := []) C G (c_entry l T h la md wy pc_ f1 f2 f3 f4 f5 f6 n4 ww x y hww (by first | with_reducible assumption | with_reducible rfl | omega | assumption | rfl)) (kV_RX0_91 C.2.2.2.2 (Nat.le_of_ble_eq_true rfl) (Nat.le_of_ble_eq_true rfl)) [0] [0] rfl rfl (ci := 0) (qc := (RX0, TX0, 10)) rfl rfl (List.mem_flatten.mpr ⟨_, List.mem_of_getElem? (i := 0) rfl, (bWays_mem hww).choose_spec⟩) rfl rfl hl.1 dX0_steps_3 (Nat.le_of_ble_eq_true rfl) (Nat.le_of_ble_eq_true rfl) (fun r_2 b1 H locs hw G => ?_)
  refine zAn2 hw ?_
  intro hbs9 h_1
  clear hw
  subst hbs9
  have G : zS T A s.heap s [ww] _ _ := G
  subst h_1
  refine lv_bipush (v := 17) hx hb dX0_steps_6 (by decide) ?_
  refine lv_ishr hx hb dX0_steps_8 ?_
  exact z_back hQz_ (z_iret C hr hlocks G (Nat.le_of_ble_eq_true rfl) (Nat.le_of_ble_eq_true rfl) dX0_steps_9 ⟨rfl, rfl⟩)
set_option maxHeartbeats 4000000 in
set_option maxRecDepth 100000 in
/-- c_wayAfter -/
theorem c_wayAfter (l : Launch) (T : zTy) (h : Nat) (la : Nat) (md : Int32) (wy : Int32) (pc_ : Int32) (f1 : Nat → Int32) (f2 : Nat → Int32) (f3 : Nat → Int32) (f4 : Nat → Int32) (f5 : Nat → Int32) (f6 : Nat → Int32) (n4 : Nat) (ww : va_W) (x : Int32) (y : Int32) (hww : bWays T h la md wy pc_ f1 f2 f3 f4 f5 f6 n4 ww) (hn : n4 ≤ 131072) : zMi l T yX0_wayAfter cX0_wayAfter 3 (some .int) 2 0 0 [.ref h, .int x, .int y] [ww] (fun (r : Int32) bs => bs = [ww] ∧ r = (zEntry f5 n4 x y &&& 131071) >>> (3 &&& 31)) := by
  refine zMi_of (own := RX0) (by decide) rfl (Nat.le_of_ble_eq_true rfl) ?_
  intro p e s m args below meth c A ls C hr hlocks hnm hAe G hl
  refine zHide (fun Qz_ hQz_ => ?_)
  have hx := C.1
  have hb := C.2.1
  have hl : lv_has ls 3 [(0, .ref h), (1, .int x), (2, .int y)] := hl
  refine lv_aload_n hx hb dX0_wayAfter_0 rfl (lv_at hl 0 rfl) ?_
  refine lv_iload_n hx hb dX0_wayAfter_1 rfl (lv_at hl 1 rfl) ?_
  refine lv_iload_n hx hb dX0_wayAfter_2 rfl (lv_at hl 2 rfl) ?_
  refine z_Vi (bc := [ww]) (br := []) (As := [.int x, .int y]) (rest := []) C G (c_entry l T h la md wy pc_ f1 f2 f3 f4 f5 f6 n4 ww x y hww (by first | with_reducible assumption | with_reducible rfl | omega | assumption | rfl)) (kV_RX0_91 C.2.2.2.2 (Nat.le_of_ble_eq_true rfl) (Nat.le_of_ble_eq_true rfl)) [0] [0] rfl rfl (ci := 0) (qc := (RX0, TX0, 10)) rfl rfl (List.mem_flatten.mpr ⟨_, List.mem_of_getElem? (i := 0) rfl, (bWays_mem hww).choose_spec⟩) rfl rfl hl.1 dX0_wayAfter_3 (Nat.le_of_ble_eq_true rfl) (Nat.le_of_ble_eq_true rfl) (fun r_2 b1 H locs hw G => ?_)
  refine zAn2 hw ?_
  intro hbs9 h_1
  clear hw
  subst hbs9
  have G : zS T A s.heap s [ww] _ _ := G
  subst h_1
  refine lv_ldc (v := 131071) hx hb C.2.2.2.1 (C.2.2.2.2 _ m_ko_RX0_90) dX0_wayAfter_6 ?_
  refine lv_iand hx hb dX0_wayAfter_8 ?_
  refine lv_iconst (v := 3) hx hb dX0_wayAfter_9 (by decide) ?_
  refine lv_ishr hx hb dX0_wayAfter_10 ?_
  exact z_back hQz_ (z_iret C hr hlocks G (Nat.le_of_ble_eq_true rfl) (Nat.le_of_ble_eq_true rfl) dX0_wayAfter_11 ⟨rfl, rfl⟩)
set_option maxHeartbeats 4000000 in
set_option maxRecDepth 100000 in
/-- c_stepsOrNever -/
theorem c_stepsOrNever (l : Launch) (T : zTy) (h : Nat) (la : Nat) (md : Int32) (wy : Int32) (pc_ : Int32) (f1 : Nat → Int32) (f2 : Nat → Int32) (f3 : Nat → Int32) (f4 : Nat → Int32) (f5 : Nat → Int32) (f6 : Nat → Int32) (n4 : Nat) (ww : va_W) (cr : Int32) (inn : Int32) (k1 : Nat → Int32) (k2 : Nat → Int32) (k3 : Nat → Int32) (k4 : Nat → Int32) (z : va_W) (x : Int32) (y : Int32) (hww : bWays T h la md wy pc_ f1 f2 f3 f4 f5 f6 n4 ww) (hz : bLand T la cr inn k1 k2 k3 k4 z) (hn : n4 ≤ 131072) : zMi l T yX0_stepsOrNever cX0_stepsOrNever 3 (some .int) 3 0 0 [.ref h, .int x, .int y] [ww, z] (fun (r : Int32) bs => bs = [ww, z]) := by
  refine zMi_of (own := RX0) (by decide) rfl (Nat.le_of_ble_eq_true rfl) ?_
  intro p e s m args below meth c A ls C hr hlocks hnm hAe G hl
  refine zHide (fun Qz_ hQz_ => ?_)
  have hx := C.1
  have hb := C.2.1
  have hl : lv_has ls 3 [(0, .ref h), (1, .int x), (2, .int y)] := hl
  refine lv_aload_n hx hb dX0_stepsOrNever_0 rfl (lv_at hl 0 rfl) ?_
  refine zEx6 hww ?_
  intro a1_1 a2_2 a3_3 a4_4 a5_5 a6_6 hbs9
  clear hww
  subst hbs9
  have G : zS T A s.heap s [[zO0 h md wy la pc_ a1_1 a2_2 a3_3 a4_4 a5_5 a6_6], [zAr T 0 a1_1 7 f1], [zAr T 0 a2_2 7 f2], [zAr T 0 a3_3 7 f3], [zAr T 0 a4_4 n4 f4], [zAr T 0 a5_5 n4 f5], [zAr T 0 a6_6 n4 f6], z] _ _ := G.re rfl
  refine z_get C G clX0 0 rfl 2 (by decide) m_fl_RX0_14 rfl dX0_stepsOrNever_1 ?_
  refine lv_aload_n hx hb dX0_stepsOrNever_4 rfl (lv_at hl 0 rfl) ?_
  refine lv_iload_n hx hb dX0_stepsOrNever_5 rfl (lv_at hl 1 rfl) ?_
  refine lv_iload_n hx hb dX0_stepsOrNever_6 rfl (lv_at hl 2 rfl) ?_
  have hw_7 : bWays T h la md wy pc_ f1 f2 f3 f4 f5 f6 n4 [zO0 h md wy la pc_ a1_1 a2_2 a3_3 a4_4 a5_5 a6_6, zAr T 0 a1_1 7 f1, zAr T 0 a2_2 7 f2, zAr T 0 a3_3 7 f3, zAr T 0 a4_4 n4 f4, zAr T 0 a5_5 n4 f5, zAr T 0 a6_6 n4 f6] := ⟨a1_1, a2_2, a3_3, a4_4, a5_5, a6_6, rfl⟩
  have G : zS T A s.heap s [[zO0 h md wy la pc_ a1_1 a2_2 a3_3 a4_4 a5_5 a6_6, zAr T 0 a1_1 7 f1, zAr T 0 a2_2 7 f2, zAr T 0 a3_3 7 f3, zAr T 0 a4_4 n4 f4, zAr T 0 a5_5 n4 f5, zAr T 0 a6_6 n4 f6], z] _ _ := G.re rfl
  refine z_Vi (bc := [[zO0 h md wy la pc_ a1_1 a2_2 a3_3 a4_4 a5_5 a6_6, zAr T 0 a1_1 7 f1, zAr T 0 a2_2 7 f2, zAr T 0 a3_3 7 f3, zAr T 0 a4_4 n4 f4, zAr T 0 a5_5 n4 f5, zAr T 0 a6_6 n4 f6]]) (br := [z]) (As := [.int x, .int y]) (rest := [.ref la]) C G (c_where l T h la md wy pc_ f1 f2 f3 f4 f5 f6 n4 ([zO0 h md wy la pc_ a1_1 a2_2 a3_3 a4_4 a5_5 a6_6, zAr T 0 a1_1 7 f1, zAr T 0 a2_2 7 f2, zAr T 0 a3_3 7 f3, zAr T 0 a4_4 n4 f4, zAr T 0 a5_5 n4 f5, zAr T 0 a6_6 n4 f6]) x y hw_7 (by first | with_reducible assumption | with_reducible rfl | omega | assumption | rfl)) (kV_RX0_94 C.2.2.2.2 (Nat.le_of_ble_eq_true rfl) (Nat.le_of_ble_eq_true rfl)) [0] [0] rfl rfl (ci := 0) (qc := (RX0, TX0, 10)) rfl rfl (List.mem_flatten.mpr ⟨_, List.mem_of_getElem? (i := 0) rfl, (bWays_mem hw_7).choose_spec⟩) rfl rfl hl.1 dX0_stepsOrNever_7 (Nat.le_of_ble_eq_true rfl) (Nat.le_of_ble_eq_true rfl) (fun r_9 b1 H locs hw G => ?_)
  refine zAn2 hw ?_
  intro hbs9 h_8
  clear hw
  subst hbs9
  have G : zS T A s.heap s [z, [zO0 h md wy la pc_ a1_1 a2_2 a3_3 a4_4 a5_5 a6_6, zAr T 0 a1_1 7 f1, zAr T 0 a2_2 7 f2, zAr T 0 a3_3 7 f3, zAr T 0 a4_4 n4 f4, zAr T 0 a5_5 n4 f5, zAr T 0 a6_6 n4 f6]] _ _ := G
  subst h_8
  refine z_Vi (bc := [z]) (br := [[zO0 h md wy la pc_ a1_1 a2_2 a3_3 a4_4 a5_5 a6_6, zAr T 0 a1_1 7 f1, zAr T 0 a2_2 7 f2, zAr T 0 a3_3 7 f3, zAr T 0 a4_4 n4 f4, zAr T 0 a5_5 n4 f5, zAr T 0 a6_6 n4 f6]]) (As := [.int (zEntry f5 n4 x y &&& 7)]) (rest := []) C G (c_isInn l T la cr inn k1 k2 k3 k4 z (zEntry f5 n4 x y &&& 7) hz) (kV_RX0_97 C.2.2.2.2 (Nat.le_of_ble_eq_true rfl) (Nat.le_of_ble_eq_true rfl)) [0] [0] rfl rfl (ci := 4) (qc := (RX4, TX4, 6)) rfl rfl (List.mem_flatten.mpr ⟨_, List.mem_of_getElem? (i := 0) rfl, (bLand_mem hz).choose_spec⟩) rfl rfl hl.1 dX0_stepsOrNever_10 (Nat.le_of_ble_eq_true rfl) (Nat.le_of_ble_eq_true rfl) (fun r_11 b1 H locs hw G => ?_)
  refine zAn2 hw ?_
  intro hbs9 hc_10
  clear hw
  subst hbs9
  have G : zS T A s.heap s [[zO0 h md wy la pc_ a1_1 a2_2 a3_3 a4_4 a5_5 a6_6, zAr T 0 a1_1 7 f1, zAr T 0 a2_2 7 f2, zAr T 0 a3_3 7 f3, zAr T 0 a4_4 n4 f4, zAr T 0 a5_5 n4 f5, zAr T 0 a6_6 n4 f6], z] _ _ := G
  rcases hc_10 with ⟨rfl, h_12, h_13, h_14, h_15⟩ | ⟨rfl, h_16⟩
  · have h_12 : 0 ≤ (zEntry f5 n4 x y &&& 7).toInt := h_12
    have h_13 : (zEntry f5 n4 x y &&& 7).toInt < cr.toInt := h_13
    have h_14 : (zEntry f5 n4 x y &&& 7).toInt < 7 := h_14
    have h_15 : ¬ zBit inn (zEntry f5 n4 x y &&& 7) = 0 := h_15
    refine lv_if_eq (tgt := 25) hx hb dX0_stepsOrNever_13 (by decide) (fun q => absurd q (by decide)) (fun _ => ?_)
    refine lv_aload_n hx hb dX0_stepsOrNever_16 rfl (lv_at hl 0 rfl) ?_
    refine lv_iload_n hx hb dX0_stepsOrNever_17 rfl (lv_at hl 1 rfl) ?_
    refine lv_iload_n hx hb dX0_stepsOrNever_18 rfl (lv_at hl 2 rfl) ?_
    refine z_Vi (bc := [[zO0 h md wy la pc_ a1_1 a2_2 a3_3 a4_4 a5_5 a6_6, zAr T 0 a1_1 7 f1, zAr T 0 a2_2 7 f2, zAr T 0 a3_3 7 f3, zAr T 0 a4_4 n4 f4, zAr T 0 a5_5 n4 f5, zAr T 0 a6_6 n4 f6]]) (br := [z]) (As := [.int x, .int y]) (rest := []) C G (c_steps l T h la md wy pc_ f1 f2 f3 f4 f5 f6 n4 ([zO0 h md wy la pc_ a1_1 a2_2 a3_3 a4_4 a5_5 a6_6, zAr T 0 a1_1 7 f1, zAr T 0 a2_2 7 f2, zAr T 0 a3_3 7 f3, zAr T 0 a4_4 n4 f4, zAr T 0 a5_5 n4 f5, zAr T 0 a6_6 n4 f6]) x y hw_7 (by first | with_reducible assumption | with_reducible rfl | omega | assumption | rfl)) (kV_RX0_101 C.2.2.2.2 (Nat.le_of_ble_eq_true rfl) (Nat.le_of_ble_eq_true rfl)) [0] [0] rfl rfl (ci := 0) (qc := (RX0, TX0, 10)) rfl rfl (List.mem_flatten.mpr ⟨_, List.mem_of_getElem? (i := 0) rfl, (bWays_mem hw_7).choose_spec⟩) rfl rfl hl.1 dX0_stepsOrNever_19 (Nat.le_of_ble_eq_true rfl) (Nat.le_of_ble_eq_true rfl) (fun r_18 b1 H locs hw G => ?_)
    refine zAn2 hw ?_
    intro hbs9 h_17
    clear hw
    subst hbs9
    have G : zS T A s.heap s [z, [zO0 h md wy la pc_ a1_1 a2_2 a3_3 a4_4 a5_5 a6_6, zAr T 0 a1_1 7 f1, zAr T 0 a2_2 7 f2, zAr T 0 a3_3 7 f3, zAr T 0 a4_4 n4 f4, zAr T 0 a5_5 n4 f5, zAr T 0 a6_6 n4 f6]] _ _ := G
    subst h_17
    refine lv_goto (tgt := 28) hx hb dX0_stepsOrNever_22 (by decide) ?_
    have G := G.sub (bs' := [[zO0 h md wy la pc_ a1_1 a2_2 a3_3 a4_4 a5_5 a6_6, zAr T 0 a1_1 7 f1, zAr T 0 a2_2 7 f2, zAr T 0 a3_3 7 f3, zAr T 0 a4_4 n4 f4, zAr T 0 a5_5 n4 f5, zAr T 0 a6_6 n4 f6], z]) [1, 0] rfl
    exact z_back hQz_ (z_iret C hr hlocks G (Nat.le_of_ble_eq_true rfl) (Nat.le_of_ble_eq_true rfl) dX0_stepsOrNever_28 rfl)
  · have h_16 : ((zEntry f5 n4 x y &&& 7).toInt < 0 ∨ cr.toInt ≤ (zEntry f5 n4 x y &&& 7).toInt ∨ 7 ≤ (zEntry f5 n4 x y &&& 7).toInt ∨ zBit inn (zEntry f5 n4 x y &&& 7) = 0) := h_16
    refine lv_if_eq (tgt := 25) hx hb dX0_stepsOrNever_13 (by decide) (fun _ => ?_) (fun q => absurd (by decide) q)
    refine lv_sipush (v := 500) hx hb dX0_stepsOrNever_25 (by decide) ?_
    exact z_back hQz_ (z_iret C hr hlocks G (Nat.le_of_ble_eq_true rfl) (Nat.le_of_ble_eq_true rfl) dX0_stepsOrNever_28 rfl)
set_option maxHeartbeats 4000000 in
set_option maxRecDepth 100000 in
/-- c_turned -/
theorem c_turned (l : Launch) (T : zTy) (h : Nat) (la : Nat) (md : Int32) (wy : Int32) (pc_ : Int32) (f1 : Nat → Int32) (f2 : Nat → Int32) (f3 : Nat → Int32) (f4 : Nat → Int32) (f5 : Nat → Int32) (f6 : Nat → Int32) (n4 : Nat) (ww : va_W) (cr : Int32) (inn : Int32) (k1 : Nat → Int32) (k2 : Nat → Int32) (k3 : Nat → Int32) (k4 : Nat → Int32) (z : va_W) (x : Int32) (y : Int32) (hww : bWays T h la md wy pc_ f1 f2 f3 f4 f5 f6 n4 ww) (hz : bLand T la cr inn k1 k2 k3 k4 z) (hI : zLI cr k1 k3) : zMi l T yX0_turned cX0_turned 4 (some .int) 2 0 0 [.ref h, .int x, .int y] [ww, z] (fun (r : Int32) bs => bs = [ww, z]) := by
  refine zMi_of (own := RX0) (by decide) rfl (Nat.le_of_ble_eq_true rfl) ?_
  intro p e s m args below meth c A ls C hr hlocks hnm hAe G hl
  refine zHide (fun Qz_ hQz_ => ?_)
  have hx := C.1
  have hb := C.2.1
  have hl : lv_has ls 4 [(0, .ref h), (1, .int x), (2, .int y)] := hl
  refine lv_aload_n hx hb dX0_turned_0 rfl (lv_at hl 0 rfl) ?_
  refine zEx6 hww ?_
  intro a1_1 a2_2 a3_3 a4_4 a5_5 a6_6 hbs9
  clear hww
  subst hbs9
  have G : zS T A s.heap s [[zO0 h md wy la pc_ a1_1 a2_2 a3_3 a4_4 a5_5 a6_6], [zAr T 0 a1_1 7 f1], [zAr T 0 a2_2 7 f2], [zAr T 0 a3_3 7 f3], [zAr T 0 a4_4 n4 f4], [zAr T 0 a5_5 n4 f5], [zAr T 0 a6_6 n4 f6], z] _ _ := G.re rfl
  refine z_get C G clX0 0 rfl 2 (by decide) m_fl_RX0_14 rfl dX0_turned_1 ?_
  refine lv_iload_n hx hb dX0_turned_4 rfl (lv_at hl 2 rfl) ?_
  refine z_Vi (bc := [z]) (br := [[zO0 h md wy la pc_ a1_1 a2_2 a3_3 a4_4 a5_5 a6_6], [zAr T 0 a1_1 7 f1], [zAr T 0 a2_2 7 f2], [zAr T 0 a3_3 7 f3], [zAr T 0 a4_4 n4 f4], [zAr T 0 a5_5 n4 f5], [zAr T 0 a6_6 n4 f6]]) (As := [.int y]) (rest := []) C G (c_waysOut l T la cr inn k1 k2 k3 k4 z y hz) (kV_RX0_61 C.2.2.2.2 (Nat.le_of_ble_eq_true rfl) (Nat.le_of_ble_eq_true rfl)) [7] [7] rfl rfl (ci := 4) (qc := (RX4, TX4, 6)) rfl rfl (List.mem_flatten.mpr ⟨_, List.mem_of_getElem? (i := 0) rfl, (bLand_mem hz).choose_spec⟩) rfl rfl hl.1 dX0_turned_5 (Nat.le_of_ble_eq_true rfl) (Nat.le_of_ble_eq_true rfl) (fun r_8 b1 H locs hw G => ?_)
  refine zAn2 hw ?_
  intro hbs9 h_7
  clear hw
  subst hbs9
  have G : zS T A s.heap s [[zO0 h md wy la pc_ a1_1 a2_2 a3_3 a4_4 a5_5 a6_6], [zAr T 0 a1_1 7 f1], [zAr T 0 a2_2 7 f2], [zAr T 0 a3_3 7 f3], [zAr T 0 a4_4 n4 f4], [zAr T 0 a5_5 n4 f5], [zAr T 0 a6_6 n4 f6], z] _ _ := G
  subst h_7
  refine lv_istore_n (lv' := [(3, .int (zWays cr inn k1 y)), (0, .ref h), (1, .int x), (2, .int y)]) hx hb dX0_turned_8 rfl hl (by decide) (zLvf_h rfl) (fun ls hl => ?_)
  refine lv_iload_n hx hb dX0_turned_9 rfl (lv_at hl 0 rfl) ?_
  refine lv_if_ne (tgt := 15) hx hb dX0_turned_10 (by decide) (fun c_9 => ?_) (fun c_9 => ?_)
  · have c_9n : ¬ (zWays cr inn k1 y).toInt = (0 : Int) := fun q => c_9 ((fa_eq _ _).mpr q)
    have hwi := zWays_in (cr := cr) (inn := inn) (f1 := k1) (x := y) (by first | with_reducible assumption | assumption)
    refine lv_aload_n hx hb dX0_turned_15 rfl (lv_at hl 1 rfl) ?_
    refine lv_iload_n hx hb dX0_turned_16 rfl (lv_at hl 2 rfl) ?_
    refine lv_iload_n hx hb dX0_turned_17 rfl (lv_at hl 3 rfl) ?_
    have hw_10 : bWays T h la md wy pc_ f1 f2 f3 f4 f5 f6 n4 [zO0 h md wy la pc_ a1_1 a2_2 a3_3 a4_4 a5_5 a6_6, zAr T 0 a1_1 7 f1, zAr T 0 a2_2 7 f2, zAr T 0 a3_3 7 f3, zAr T 0 a4_4 n4 f4, zAr T 0 a5_5 n4 f5, zAr T 0 a6_6 n4 f6] := ⟨a1_1, a2_2, a3_3, a4_4, a5_5, a6_6, rfl⟩
    have G : zS T A s.heap s [[zO0 h md wy la pc_ a1_1 a2_2 a3_3 a4_4 a5_5 a6_6, zAr T 0 a1_1 7 f1, zAr T 0 a2_2 7 f2, zAr T 0 a3_3 7 f3, zAr T 0 a4_4 n4 f4, zAr T 0 a5_5 n4 f5, zAr T 0 a6_6 n4 f6], z] _ _ := G.re rfl
    refine z_Vi (bc := [[zO0 h md wy la pc_ a1_1 a2_2 a3_3 a4_4 a5_5 a6_6, zAr T 0 a1_1 7 f1, zAr T 0 a2_2 7 f2, zAr T 0 a3_3 7 f3, zAr T 0 a4_4 n4 f4, zAr T 0 a5_5 n4 f5, zAr T 0 a6_6 n4 f6]]) (br := [z]) (As := [.int x, .int y]) (rest := []) C G (c_road l T h la md wy pc_ f1 f2 f3 f4 f5 f6 n4 ([zO0 h md wy la pc_ a1_1 a2_2 a3_3 a4_4 a5_5 a6_6, zAr T 0 a1_1 7 f1, zAr T 0 a2_2 7 f2, zAr T 0 a3_3 7 f3, zAr T 0 a4_4 n4 f4, zAr T 0 a5_5 n4 f5, zAr T 0 a6_6 n4 f6]) x y hw_10) (kV_RX0_81 C.2.2.2.2 (Nat.le_of_ble_eq_true rfl) (Nat.le_of_ble_eq_true rfl)) [0] [0] rfl rfl (ci := 0) (qc := (RX0, TX0, 10)) rfl rfl (List.mem_flatten.mpr ⟨_, List.mem_of_getElem? (i := 0) rfl, (bWays_mem hw_10).choose_spec⟩) rfl rfl hl.1 dX0_turned_18 (Nat.le_of_ble_eq_true rfl) (Nat.le_of_ble_eq_true rfl) (fun r_12 b1 H locs hw G => ?_)
    refine zAn2 hw ?_
    intro hbs9 h_11
    clear hw
    subst hbs9
    have G : zS T A s.heap s [z, [zO0 h md wy la pc_ a1_1 a2_2 a3_3 a4_4 a5_5 a6_6, zAr T 0 a1_1 7 f1, zAr T 0 a2_2 7 f2, zAr T 0 a3_3 7 f3, zAr T 0 a4_4 n4 f4, zAr T 0 a5_5 n4 f5, zAr T 0 a6_6 n4 f6]] _ _ := G
    subst h_11
    refine lv_iconst (v := 1) hx hb dX0_turned_21 (by decide) ?_
    refine lv_iadd hx hb dX0_turned_22 ?_
    refine lv_iload_n hx hb dX0_turned_23 rfl (lv_at hl 0 rfl) ?_
    refine lv_icmp_ge (tgt := 38) hx hb dX0_turned_24 (by decide) (fun c_13 => ?_) (fun c_13 => ?_)
    · have c_13n : (zWays cr inn k1 y).toInt ≤ ((zRoad f1 f2 x y) + 1).toInt := (fa_le _ _).mp c_13
      refine lv_iload_n hx hb dX0_turned_38 rfl (lv_at hl 2 rfl) ?_
      refine lv_iload_n hx hb dX0_turned_39 rfl (lv_at hl 0 rfl) ?_
      refine lv_iconst (v := 1) hx hb dX0_turned_40 (by decide) ?_
      refine lv_isub hx hb dX0_turned_41 ?_
      refine lv_aload_n hx hb dX0_turned_42 rfl (lv_at hl 1 rfl) ?_
      have G : zS T A s.heap s [z, [zO0 h md wy la pc_ a1_1 a2_2 a3_3 a4_4 a5_5 a6_6], [zAr T 0 a1_1 7 f1], [zAr T 0 a2_2 7 f2], [zAr T 0 a3_3 7 f3], [zAr T 0 a4_4 n4 f4], [zAr T 0 a5_5 n4 f5], [zAr T 0 a6_6 n4 f6]] _ _ := G.re rfl
      refine z_get C G clX0 1 rfl 5 (by decide) m_fl_RX0_22 rfl dX0_turned_43 ?_
      refine lv_iload_n hx hb dX0_turned_46 rfl (lv_at hl 3 rfl) ?_
      refine z_ild C G 3 rfl (vp_in_iff.mpr ⟨hwi.1, hwi.2.2.1⟩) dX0_turned_47 ?_
      refine lv_topi (fun v_14 ev_14 => ?_)
      subst ev_14
      refine lv_imul hx hb dX0_turned_48 ?_
      refine lv_isub hx hb dX0_turned_49 ?_
      have hw_15 : bWays T h la md wy pc_ f1 f2 f3 f4 f5 f6 n4 [zO0 h md wy la pc_ a1_1 a2_2 a3_3 a4_4 a5_5 a6_6, zAr T 0 a1_1 7 f1, zAr T 0 a2_2 7 f2, zAr T 0 a3_3 7 f3, zAr T 0 a4_4 n4 f4, zAr T 0 a5_5 n4 f5, zAr T 0 a6_6 n4 f6] := ⟨a1_1, a2_2, a3_3, a4_4, a5_5, a6_6, rfl⟩
      have G : zS T A s.heap s [z, [zO0 h md wy la pc_ a1_1 a2_2 a3_3 a4_4 a5_5 a6_6, zAr T 0 a1_1 7 f1, zAr T 0 a2_2 7 f2, zAr T 0 a3_3 7 f3, zAr T 0 a4_4 n4 f4, zAr T 0 a5_5 n4 f5, zAr T 0 a6_6 n4 f6]] _ _ := G.re rfl
      have G := G.sub (bs' := [[zO0 h md wy la pc_ a1_1 a2_2 a3_3 a4_4 a5_5 a6_6, zAr T 0 a1_1 7 f1, zAr T 0 a2_2 7 f2, zAr T 0 a3_3 7 f3, zAr T 0 a4_4 n4 f4, zAr T 0 a5_5 n4 f5, zAr T 0 a6_6 n4 f6], z]) [1, 0] rfl
      exact z_back hQz_ (z_iret C hr hlocks G (Nat.le_of_ble_eq_true rfl) (Nat.le_of_ble_eq_true rfl) dX0_turned_50 rfl)
    · have c_13n : ¬ (zWays cr inn k1 y).toInt ≤ ((zRoad f1 f2 x y) + 1).toInt := fun q => c_13 ((fa_le _ _).mpr q)
      refine lv_iload_n hx hb dX0_turned_27 rfl (lv_at hl 2 rfl) ?_
      refine lv_aload_n hx hb dX0_turned_28 rfl (lv_at hl 1 rfl) ?_
      have G : zS T A s.heap s [z, [zO0 h md wy la pc_ a1_1 a2_2 a3_3 a4_4 a5_5 a6_6], [zAr T 0 a1_1 7 f1], [zAr T 0 a2_2 7 f2], [zAr T 0 a3_3 7 f3], [zAr T 0 a4_4 n4 f4], [zAr T 0 a5_5 n4 f5], [zAr T 0 a6_6 n4 f6]] _ _ := G.re rfl
      refine z_get C G clX0 1 rfl 5 (by decide) m_fl_RX0_22 rfl dX0_turned_29 ?_
      refine lv_iload_n hx hb dX0_turned_32 rfl (lv_at hl 3 rfl) ?_
      refine z_ild C G 3 rfl (vp_in_iff.mpr ⟨hwi.1, hwi.2.2.1⟩) dX0_turned_33 ?_
      refine lv_topi (fun v_16 ev_16 => ?_)
      subst ev_16
      refine lv_iadd hx hb dX0_turned_34 ?_
      refine lv_goto (tgt := 50) hx hb dX0_turned_35 (by decide) ?_
      have hw_17 : bWays T h la md wy pc_ f1 f2 f3 f4 f5 f6 n4 [zO0 h md wy la pc_ a1_1 a2_2 a3_3 a4_4 a5_5 a6_6, zAr T 0 a1_1 7 f1, zAr T 0 a2_2 7 f2, zAr T 0 a3_3 7 f3, zAr T 0 a4_4 n4 f4, zAr T 0 a5_5 n4 f5, zAr T 0 a6_6 n4 f6] := ⟨a1_1, a2_2, a3_3, a4_4, a5_5, a6_6, rfl⟩
      have G : zS T A s.heap s [z, [zO0 h md wy la pc_ a1_1 a2_2 a3_3 a4_4 a5_5 a6_6, zAr T 0 a1_1 7 f1, zAr T 0 a2_2 7 f2, zAr T 0 a3_3 7 f3, zAr T 0 a4_4 n4 f4, zAr T 0 a5_5 n4 f5, zAr T 0 a6_6 n4 f6]] _ _ := G.re rfl
      have G := G.sub (bs' := [[zO0 h md wy la pc_ a1_1 a2_2 a3_3 a4_4 a5_5 a6_6, zAr T 0 a1_1 7 f1, zAr T 0 a2_2 7 f2, zAr T 0 a3_3 7 f3, zAr T 0 a4_4 n4 f4, zAr T 0 a5_5 n4 f5, zAr T 0 a6_6 n4 f6], z]) [1, 0] rfl
      exact z_back hQz_ (z_iret C hr hlocks G (Nat.le_of_ble_eq_true rfl) (Nat.le_of_ble_eq_true rfl) dX0_turned_50 rfl)
  · have c_9n : (zWays cr inn k1 y).toInt = (0 : Int) := (fa_eq _ _).mp c_9
    refine lv_iconst (v := (-1)) hx hb dX0_turned_13 (by decide) ?_
    have hw_18 : bWays T h la md wy pc_ f1 f2 f3 f4 f5 f6 n4 [zO0 h md wy la pc_ a1_1 a2_2 a3_3 a4_4 a5_5 a6_6, zAr T 0 a1_1 7 f1, zAr T 0 a2_2 7 f2, zAr T 0 a3_3 7 f3, zAr T 0 a4_4 n4 f4, zAr T 0 a5_5 n4 f5, zAr T 0 a6_6 n4 f6] := ⟨a1_1, a2_2, a3_3, a4_4, a5_5, a6_6, rfl⟩
    have G : zS T A s.heap s [[zO0 h md wy la pc_ a1_1 a2_2 a3_3 a4_4 a5_5 a6_6, zAr T 0 a1_1 7 f1, zAr T 0 a2_2 7 f2, zAr T 0 a3_3 7 f3, zAr T 0 a4_4 n4 f4, zAr T 0 a5_5 n4 f5, zAr T 0 a6_6 n4 f6], z] _ _ := G.re rfl
    exact z_back hQz_ (z_iret C hr hlocks G (Nat.le_of_ble_eq_true rfl) (Nat.le_of_ble_eq_true rfl) dX0_turned_14 rfl)
set_option maxHeartbeats 4000000 in
set_option maxRecDepth 100000 in
/-- c_wayTold -/
theorem c_wayTold (l : Launch) (T : zTy) (h : Nat) (la : Nat) (md : Int32) (wy : Int32) (pc_ : Int32) (f1 : Nat → Int32) (f2 : Nat → Int32) (f3 : Nat → Int32) (f4 : Nat → Int32) (f5 : Nat → Int32) (f6 : Nat → Int32) (n4 : Nat) (ww : va_W) (cr : Int32) (inn : Int32) (k1 : Nat → Int32) (k2 : Nat → Int32) (k3 : Nat → Int32) (k4 : Nat → Int32) (z : va_W) (hww : bWays T h la md wy pc_ f1 f2 f3 f4 f5 f6 n4 ww) (hz : bLand T la cr inn k1 k2 k3 k4 z) (hI : zLI cr k1 k3) : zMi l T yX0_wayTold cX0_wayTold 3 (some .int) 2 0 0 [.ref h] [ww, z] (fun (r : Int32) bs => bs = [ww, z]) := by
  refine zMi_of (own := RX0) (by decide) rfl (Nat.le_of_ble_eq_true rfl) ?_
  intro p e s m args below meth c A ls C hr hlocks hnm hAe G hl
  refine zHide (fun Qz_ hQz_ => ?_)
  have hx := C.1
  have hb := C.2.1
  have hl : lv_has ls 3 [(0, .ref h)] := hl
  have hcr := hI.1
  refine lv_iconst (v := 0) hx hb dX0_wayTold_0 (by decide) ?_
  refine lv_istore_n (lv' := [(1, .int 0), (0, .ref h)]) hx hb dX0_wayTold_1 rfl hl (by decide) (zLvf_h rfl) (fun ls hl => ?_)
  refine lv_iconst (v := 0) hx hb dX0_wayTold_2 (by decide) ?_
  refine lv_istore_n (lv' := [(2, .int 0), (1, .int 0), (0, .ref h)]) hx hb dX0_wayTold_3 rfl hl (by decide) (zLvf_h rfl) (fun ls hl => ?_)
  refine zEx6 hww ?_
  intro a1_1 a2_2 a3_3 a4_4 a5_5 a6_6 hbs9
  clear hww
  subst hbs9
  have G : zS T A s.heap s [[zO0 h md wy la pc_ a1_1 a2_2 a3_3 a4_4 a5_5 a6_6], [zAr T 0 a1_1 7 f1], [zAr T 0 a2_2 7 f2], [zAr T 0 a3_3 7 f3], [zAr T 0 a4_4 n4 f4], [zAr T 0 a5_5 n4 f5], [zAr T 0 a6_6 n4 f6], z] _ _ := G.re rfl
  refine zEx4 hz ?_
  intro a1_7 a2_8 a3_9 a4_10 hbs9
  clear hz
  subst hbs9
  have G : zS T A s.heap s [[zO0 h md wy la pc_ a1_1 a2_2 a3_3 a4_4 a5_5 a6_6], [zAr T 0 a1_1 7 f1], [zAr T 0 a2_2 7 f2], [zAr T 0 a3_3 7 f3], [zAr T 0 a4_4 n4 f4], [zAr T 0 a5_5 n4 f5], [zAr T 0 a6_6 n4 f6], [zO4 la cr inn a1_7 a2_8 a3_9 a4_10], [zAr T 0 a1_7 7 k1], [zAr T 0 a2_8 28 k2], [zAr T 0 a3_9 7 k3], [zAr T 0 a4_10 7 k4]] _ _ := G.re rfl
  have hw_11 : bWays T h la md wy pc_ f1 f2 f3 f4 f5 f6 n4 [zO0 h md wy la pc_ a1_1 a2_2 a3_3 a4_4 a5_5 a6_6, zAr T 0 a1_1 7 f1, zAr T 0 a2_2 7 f2, zAr T 0 a3_3 7 f3, zAr T 0 a4_4 n4 f4, zAr T 0 a5_5 n4 f5, zAr T 0 a6_6 n4 f6] := ⟨a1_1, a2_2, a3_3, a4_4, a5_5, a6_6, rfl⟩
  have G : zS T A s.heap s [[zO0 h md wy la pc_ a1_1 a2_2 a3_3 a4_4 a5_5 a6_6, zAr T 0 a1_1 7 f1, zAr T 0 a2_2 7 f2, zAr T 0 a3_3 7 f3, zAr T 0 a4_4 n4 f4, zAr T 0 a5_5 n4 f5, zAr T 0 a6_6 n4 f6], [zO4 la cr inn a1_7 a2_8 a3_9 a4_10], [zAr T 0 a1_7 7 k1], [zAr T 0 a2_8 28 k2], [zAr T 0 a3_9 7 k3], [zAr T 0 a4_10 7 k4]] _ _ := G.re rfl
  have hw_12 : bLand T la cr inn k1 k2 k3 k4 [zO4 la cr inn a1_7 a2_8 a3_9 a4_10, zAr T 0 a1_7 7 k1, zAr T 0 a2_8 28 k2, zAr T 0 a3_9 7 k3, zAr T 0 a4_10 7 k4] := ⟨a1_7, a2_8, a3_9, a4_10, rfl⟩
  have G : zS T A s.heap s [[zO0 h md wy la pc_ a1_1 a2_2 a3_3 a4_4 a5_5 a6_6, zAr T 0 a1_1 7 f1, zAr T 0 a2_2 7 f2, zAr T 0 a3_3 7 f3, zAr T 0 a4_4 n4 f4, zAr T 0 a5_5 n4 f5, zAr T 0 a6_6 n4 f6], [zO4 la cr inn a1_7 a2_8 a3_9 a4_10, zAr T 0 a1_7 7 k1, zAr T 0 a2_8 28 k2, zAr T 0 a3_9 7 k3, zAr T 0 a4_10 7 k4]] _ _ := G.re rfl
  refine z_lp2 (T := T) 4 (fun (i : Nat) (u : Int32) => [[zO0 h md wy la pc_ a1_1 a2_2 a3_3 a4_4 a5_5 a6_6, zAr T 0 a1_1 7 f1, zAr T 0 a2_2 7 f2, zAr T 0 a3_3 7 f3, zAr T 0 a4_4 n4 f4, zAr T 0 a5_5 n4 f5, zAr T 0 a6_6 n4 f6], [zO4 la cr inn a1_7 a2_8 a3_9 a4_10, zAr T 0 a1_7 7 k1, zAr T 0 a2_8 28 k2, zAr T 0 a3_9 7 k3, zAr T 0 a4_10 7 k4]]) (fun (i : Nat) (u : Int32) => [(2, .int (nI i)), (1, .int u), (0, .ref h)]) (fun (i : Nat) (u : Int32) => i ≤ 7) (fun (i : Nat) (u : Int32) => 7 - i) ?_ 0 0 (show 0 ≤ 7 from by omega) G (lv_sub hl [0, 1, 2] rfl)
  intro i u hi ih_4 H locs ls G hl
  replace hi : i ≤ 7 := hi
  replace G : zS T A s.heap s [[zO0 h md wy la pc_ a1_1 a2_2 a3_3 a4_4 a5_5 a6_6, zAr T 0 a1_1 7 f1, zAr T 0 a2_2 7 f2, zAr T 0 a3_3 7 f3, zAr T 0 a4_4 n4 f4, zAr T 0 a5_5 n4 f5, zAr T 0 a6_6 n4 f6], [zO4 la cr inn a1_7 a2_8 a3_9 a4_10, zAr T 0 a1_7 7 k1, zAr T 0 a2_8 28 k2, zAr T 0 a3_9 7 k3, zAr T 0 a4_10 7 k4]] _ _ := G
  replace hl : lv_has ls 3 [(2, .int (nI i)), (1, .int u), (0, .ref h)] := hl
  refine lv_iload_n hx hb dX0_wayTold_4 rfl (lv_at hl 0 rfl) ?_
  refine lv_bipush (v := 7) hx hb dX0_wayTold_5 (by decide) ?_
  refine lv_icmp_ge (tgt := 50) hx hb dX0_wayTold_7 (by decide) (fun c_13 => ?_) (fun c_13 => ?_)
  · have c_13n : 7 ≤ i := (nI_leI (a := 7) (b := i) (by omega) (by omega)).mp c_13
    refine lv_iload_n hx hb dX0_wayTold_50 rfl (lv_at hl 1 rfl) ?_
    exact z_back hQz_ (z_iret C hr hlocks G (Nat.le_of_ble_eq_true rfl) (Nat.le_of_ble_eq_true rfl) dX0_wayTold_51 rfl)
  · have c_13n : ¬ 7 ≤ i := fun q => c_13 ((nI_leI (a := 7) (b := i) (by omega) (by omega)).mpr q)
    refine lv_iload_n hx hb dX0_wayTold_10 rfl (lv_at hl 1 rfl) ?_
    refine lv_aload_n hx hb dX0_wayTold_11 rfl (lv_at hl 2 rfl) ?_
    have G : zS T A s.heap s [[zO0 h md wy la pc_ a1_1 a2_2 a3_3 a4_4 a5_5 a6_6], [zAr T 0 a1_1 7 f1], [zAr T 0 a2_2 7 f2], [zAr T 0 a3_3 7 f3], [zAr T 0 a4_4 n4 f4], [zAr T 0 a5_5 n4 f5], [zAr T 0 a6_6 n4 f6], [zO4 la cr inn a1_7 a2_8 a3_9 a4_10, zAr T 0 a1_7 7 k1, zAr T 0 a2_8 28 k2, zAr T 0 a3_9 7 k3, zAr T 0 a4_10 7 k4]] _ _ := G.re rfl
    refine z_get C G clX0 0 rfl 2 (by decide) m_fl_RX0_14 rfl dX0_wayTold_12 ?_
    refine lv_iload_n hx hb dX0_wayTold_15 rfl (lv_at hl 0 rfl) ?_
    refine z_Vi (bc := [[zO4 la cr inn a1_7 a2_8 a3_9 a4_10, zAr T 0 a1_7 7 k1, zAr T 0 a2_8 28 k2, zAr T 0 a3_9 7 k3, zAr T 0 a4_10 7 k4]]) (br := [[zO0 h md wy la pc_ a1_1 a2_2 a3_3 a4_4 a5_5 a6_6], [zAr T 0 a1_1 7 f1], [zAr T 0 a2_2 7 f2], [zAr T 0 a3_3 7 f3], [zAr T 0 a4_4 n4 f4], [zAr T 0 a5_5 n4 f5], [zAr T 0 a6_6 n4 f6]]) (As := [.int (nI i)]) (rest := [.int u]) C G (c_waysOut l T la cr inn k1 k2 k3 k4 ([zO4 la cr inn a1_7 a2_8 a3_9 a4_10, zAr T 0 a1_7 7 k1, zAr T 0 a2_8 28 k2, zAr T 0 a3_9 7 k3, zAr T 0 a4_10 7 k4]) (nI i) hw_12) (kV_RX0_61 C.2.2.2.2 (Nat.le_of_ble_eq_true rfl) (Nat.le_of_ble_eq_true rfl)) [7] [7] rfl rfl (ci := 4) (qc := (RX4, TX4, 6)) rfl rfl (List.mem_flatten.mpr ⟨_, List.mem_of_getElem? (i := 0) rfl, (bLand_mem hw_12).choose_spec⟩) rfl rfl hl.1 dX0_wayTold_16 (Nat.le_of_ble_eq_true rfl) (Nat.le_of_ble_eq_true rfl) (fun r_15 b1 H locs hw G => ?_)
    refine zAn2 hw ?_
    intro hbs9 h_14
    clear hw
    subst hbs9
    have G : zS T A s.heap s [[zO0 h md wy la pc_ a1_1 a2_2 a3_3 a4_4 a5_5 a6_6], [zAr T 0 a1_1 7 f1], [zAr T 0 a2_2 7 f2], [zAr T 0 a3_3 7 f3], [zAr T 0 a4_4 n4 f4], [zAr T 0 a5_5 n4 f5], [zAr T 0 a6_6 n4 f6], [zO4 la cr inn a1_7 a2_8 a3_9 a4_10, zAr T 0 a1_7 7 k1, zAr T 0 a2_8 28 k2, zAr T 0 a3_9 7 k3, zAr T 0 a4_10 7 k4]] _ _ := G
    subst h_14
    refine lv_if_le (tgt := 41) hx hb dX0_wayTold_19 (by decide) (fun c_16 => ?_) (fun c_16 => ?_)
    · have c_16n : (zWays cr inn k1 (nI i)).toInt ≤ (0 : Int) := (fa_le _ _).mp c_16
      refine lv_iconst (v := 0) hx hb dX0_wayTold_41 (by decide) ?_
      refine lv_iadd hx hb dX0_wayTold_42 ?_
      refine lv_istore_n (lv' := [(1, .int (u + 0)), (2, .int (nI i)), (0, .ref h)]) hx hb dX0_wayTold_43 rfl hl (by decide) (zLvf_h rfl) (fun ls hl => ?_)
      refine lv_iinc (v := nI (i + 1)) (lv' := [(2, .int (nI (i + 1))), (1, .int (u + 0)), (0, .ref h)]) hx hb dX0_wayTold_44 hl (k := 1) rfl (z_inc i 1) (by decide) (zLvf_h rfl) (fun ls hl => ?_)
      refine lv_goto (tgt := 4) hx hb dX0_wayTold_47 (by decide) ?_
      have hw_17 : bWays T h la md wy pc_ f1 f2 f3 f4 f5 f6 n4 [zO0 h md wy la pc_ a1_1 a2_2 a3_3 a4_4 a5_5 a6_6, zAr T 0 a1_1 7 f1, zAr T 0 a2_2 7 f2, zAr T 0 a3_3 7 f3, zAr T 0 a4_4 n4 f4, zAr T 0 a5_5 n4 f5, zAr T 0 a6_6 n4 f6] := ⟨a1_1, a2_2, a3_3, a4_4, a5_5, a6_6, rfl⟩
      have G : zS T A s.heap s [[zO0 h md wy la pc_ a1_1 a2_2 a3_3 a4_4 a5_5 a6_6, zAr T 0 a1_1 7 f1, zAr T 0 a2_2 7 f2, zAr T 0 a3_3 7 f3, zAr T 0 a4_4 n4 f4, zAr T 0 a5_5 n4 f5, zAr T 0 a6_6 n4 f6], [zO4 la cr inn a1_7 a2_8 a3_9 a4_10, zAr T 0 a1_7 7 k1, zAr T 0 a2_8 28 k2, zAr T 0 a3_9 7 k3, zAr T 0 a4_10 7 k4]] _ _ := G.re rfl
      exact ih_4 (i + 1) (u + 0) (show (i + 1) ≤ 7 from by omega) (show 7 - (i + 1) < 7 - i from by omega) _ _ ls G (lv_sub hl [0, 1, 2] rfl)
    · have c_16n : ¬ (zWays cr inn k1 (nI i)).toInt ≤ (0 : Int) := fun q => c_16 ((fa_le _ _).mpr q)
      refine lv_aload_n hx hb dX0_wayTold_22 rfl (lv_at hl 2 rfl) ?_
      refine z_get C G clX0 0 rfl 2 (by decide) m_fl_RX0_14 rfl dX0_wayTold_23 ?_
      have G : zS T A s.heap s [[zO0 h md wy la pc_ a1_1 a2_2 a3_3 a4_4 a5_5 a6_6], [zAr T 0 a1_1 7 f1], [zAr T 0 a2_2 7 f2], [zAr T 0 a3_3 7 f3], [zAr T 0 a4_4 n4 f4], [zAr T 0 a5_5 n4 f5], [zAr T 0 a6_6 n4 f6], [zO4 la cr inn a1_7 a2_8 a3_9 a4_10], [zAr T 0 a1_7 7 k1], [zAr T 0 a2_8 28 k2], [zAr T 0 a3_9 7 k3], [zAr T 0 a4_10 7 k4]] _ _ := G.re rfl
      refine z_get C G clX4 7 rfl 4 (by decide) m_fl_RX0_104 rfl dX0_wayTold_26 ?_
      refine lv_iload_n hx hb dX0_wayTold_29 rfl (lv_at hl 0 rfl) ?_
      refine z_ild C G 10 rfl (vp_in_nI (by omega) (by decide)) dX0_wayTold_30 ?_
      refine lv_topi (fun v_18 ev_18 => ?_)
      rw [nI_clamp (by omega)] at ev_18
      subst ev_18
      refine lv_aload_n hx hb dX0_wayTold_31 rfl (lv_at hl 2 rfl) ?_
      refine z_get C G clX0 0 rfl 5 (by decide) m_fl_RX0_22 rfl dX0_wayTold_32 ?_
      refine lv_iload_n hx hb dX0_wayTold_35 rfl (lv_at hl 0 rfl) ?_
      refine z_ild C G 2 rfl (vp_in_nI (by omega) (by decide)) dX0_wayTold_36 ?_
      refine lv_topi (fun v_19 ev_19 => ?_)
      rw [nI_clamp (by omega)] at ev_19
      subst ev_19
      refine lv_imul hx hb dX0_wayTold_37 ?_
      refine lv_goto (tgt := 42) hx hb dX0_wayTold_38 (by decide) ?_
      refine lv_iadd hx hb dX0_wayTold_42 ?_
      refine lv_istore_n (lv' := [(1, .int (u + ((k3 i) * (f2 i)))), (2, .int (nI i)), (0, .ref h)]) hx hb dX0_wayTold_43 rfl hl (by decide) (zLvf_h rfl) (fun ls hl => ?_)
      refine lv_iinc (v := nI (i + 1)) (lv' := [(2, .int (nI (i + 1))), (1, .int (u + ((k3 i) * (f2 i)))), (0, .ref h)]) hx hb dX0_wayTold_44 hl (k := 1) rfl (z_inc i 1) (by decide) (zLvf_h rfl) (fun ls hl => ?_)
      refine lv_goto (tgt := 4) hx hb dX0_wayTold_47 (by decide) ?_
      have hw_20 : bWays T h la md wy pc_ f1 f2 f3 f4 f5 f6 n4 [zO0 h md wy la pc_ a1_1 a2_2 a3_3 a4_4 a5_5 a6_6, zAr T 0 a1_1 7 f1, zAr T 0 a2_2 7 f2, zAr T 0 a3_3 7 f3, zAr T 0 a4_4 n4 f4, zAr T 0 a5_5 n4 f5, zAr T 0 a6_6 n4 f6] := ⟨a1_1, a2_2, a3_3, a4_4, a5_5, a6_6, rfl⟩
      have G : zS T A s.heap s [[zO0 h md wy la pc_ a1_1 a2_2 a3_3 a4_4 a5_5 a6_6, zAr T 0 a1_1 7 f1, zAr T 0 a2_2 7 f2, zAr T 0 a3_3 7 f3, zAr T 0 a4_4 n4 f4, zAr T 0 a5_5 n4 f5, zAr T 0 a6_6 n4 f6], [zO4 la cr inn a1_7 a2_8 a3_9 a4_10], [zAr T 0 a1_7 7 k1], [zAr T 0 a2_8 28 k2], [zAr T 0 a3_9 7 k3], [zAr T 0 a4_10 7 k4]] _ _ := G.re rfl
      have hw_21 : bLand T la cr inn k1 k2 k3 k4 [zO4 la cr inn a1_7 a2_8 a3_9 a4_10, zAr T 0 a1_7 7 k1, zAr T 0 a2_8 28 k2, zAr T 0 a3_9 7 k3, zAr T 0 a4_10 7 k4] := ⟨a1_7, a2_8, a3_9, a4_10, rfl⟩
      have G : zS T A s.heap s [[zO0 h md wy la pc_ a1_1 a2_2 a3_3 a4_4 a5_5 a6_6, zAr T 0 a1_1 7 f1, zAr T 0 a2_2 7 f2, zAr T 0 a3_3 7 f3, zAr T 0 a4_4 n4 f4, zAr T 0 a5_5 n4 f5, zAr T 0 a6_6 n4 f6], [zO4 la cr inn a1_7 a2_8 a3_9 a4_10, zAr T 0 a1_7 7 k1, zAr T 0 a2_8 28 k2, zAr T 0 a3_9 7 k3, zAr T 0 a4_10 7 k4]] _ _ := G.re rfl
      exact ih_4 (i + 1) (u + ((k3 i) * (f2 i))) (show (i + 1) ≤ 7 from by omega) (show 7 - (i + 1) < 7 - i from by omega) _ _ ls G (lv_sub hl [0, 1, 2] rfl)
set_option maxHeartbeats 4000000 in
set_option maxRecDepth 100000 in
/-- c_number -/
theorem c_number (l : Launch) (T : zTy) (h : Nat) (la : Nat) (md : Int32) (wy : Int32) (pc_ : Int32) (f1 : Nat → Int32) (f2 : Nat → Int32) (f3 : Nat → Int32) (f4 : Nat → Int32) (f5 : Nat → Int32) (f6 : Nat → Int32) (n4 : Nat) (ww : va_W) (cr : Int32) (inn : Int32) (k1 : Nat → Int32) (k2 : Nat → Int32) (k3 : Nat → Int32) (k4 : Nat → Int32) (z : va_W) (x : Int32) (hww : bWays T h la md wy pc_ f1 f2 f3 f4 f5 f6 n4 ww) (hz : bLand T la cr inn k1 k2 k3 k4 z) (hI : zLI cr k1 k3) : zMi l T yX0_number cX0_number 4 (some .int) 2 0 0 [.ref h, .int x] [ww, z] (fun (r : Int32) bs => bs = [ww, z]) := by
  refine zMi_of (own := RX0) (by decide) rfl (Nat.le_of_ble_eq_true rfl) ?_
  intro p e s m args below meth c A ls C hr hlocks hnm hAe G hl
  refine zHide (fun Qz_ hQz_ => ?_)
  have hx := C.1
  have hb := C.2.1
  have hl : lv_has ls 4 [(0, .ref h), (1, .int x)] := hl
  have hcr := hI.1
  refine lv_iconst (v := 1) hx hb dX0_number_0 (by decide) ?_
  refine lv_istore_n (lv' := [(2, .int 1), (0, .ref h), (1, .int x)]) hx hb dX0_number_1 rfl hl (by decide) (zLvf_h rfl) (fun ls hl => ?_)
  refine lv_iconst (v := 0) hx hb dX0_number_2 (by decide) ?_
  refine lv_istore_n (lv' := [(3, .int 0), (2, .int 1), (0, .ref h), (1, .int x)]) hx hb dX0_number_3 rfl hl (by decide) (zLvf_h rfl) (fun ls hl => ?_)
  refine zEx6 hww ?_
  intro a1_1 a2_2 a3_3 a4_4 a5_5 a6_6 hbs9
  clear hww
  subst hbs9
  have G : zS T A s.heap s [[zO0 h md wy la pc_ a1_1 a2_2 a3_3 a4_4 a5_5 a6_6], [zAr T 0 a1_1 7 f1], [zAr T 0 a2_2 7 f2], [zAr T 0 a3_3 7 f3], [zAr T 0 a4_4 n4 f4], [zAr T 0 a5_5 n4 f5], [zAr T 0 a6_6 n4 f6], z] _ _ := G.re rfl
  refine zEx4 hz ?_
  intro a1_7 a2_8 a3_9 a4_10 hbs9
  clear hz
  subst hbs9
  have G : zS T A s.heap s [[zO0 h md wy la pc_ a1_1 a2_2 a3_3 a4_4 a5_5 a6_6], [zAr T 0 a1_1 7 f1], [zAr T 0 a2_2 7 f2], [zAr T 0 a3_3 7 f3], [zAr T 0 a4_4 n4 f4], [zAr T 0 a5_5 n4 f5], [zAr T 0 a6_6 n4 f6], [zO4 la cr inn a1_7 a2_8 a3_9 a4_10], [zAr T 0 a1_7 7 k1], [zAr T 0 a2_8 28 k2], [zAr T 0 a3_9 7 k3], [zAr T 0 a4_10 7 k4]] _ _ := G.re rfl
  have hw_11 : bWays T h la md wy pc_ f1 f2 f3 f4 f5 f6 n4 [zO0 h md wy la pc_ a1_1 a2_2 a3_3 a4_4 a5_5 a6_6, zAr T 0 a1_1 7 f1, zAr T 0 a2_2 7 f2, zAr T 0 a3_3 7 f3, zAr T 0 a4_4 n4 f4, zAr T 0 a5_5 n4 f5, zAr T 0 a6_6 n4 f6] := ⟨a1_1, a2_2, a3_3, a4_4, a5_5, a6_6, rfl⟩
  have G : zS T A s.heap s [[zO0 h md wy la pc_ a1_1 a2_2 a3_3 a4_4 a5_5 a6_6, zAr T 0 a1_1 7 f1, zAr T 0 a2_2 7 f2, zAr T 0 a3_3 7 f3, zAr T 0 a4_4 n4 f4, zAr T 0 a5_5 n4 f5, zAr T 0 a6_6 n4 f6], [zO4 la cr inn a1_7 a2_8 a3_9 a4_10], [zAr T 0 a1_7 7 k1], [zAr T 0 a2_8 28 k2], [zAr T 0 a3_9 7 k3], [zAr T 0 a4_10 7 k4]] _ _ := G.re rfl
  have hw_12 : bLand T la cr inn k1 k2 k3 k4 [zO4 la cr inn a1_7 a2_8 a3_9 a4_10, zAr T 0 a1_7 7 k1, zAr T 0 a2_8 28 k2, zAr T 0 a3_9 7 k3, zAr T 0 a4_10 7 k4] := ⟨a1_7, a2_8, a3_9, a4_10, rfl⟩
  have G : zS T A s.heap s [[zO0 h md wy la pc_ a1_1 a2_2 a3_3 a4_4 a5_5 a6_6, zAr T 0 a1_1 7 f1, zAr T 0 a2_2 7 f2, zAr T 0 a3_3 7 f3, zAr T 0 a4_4 n4 f4, zAr T 0 a5_5 n4 f5, zAr T 0 a6_6 n4 f6], [zO4 la cr inn a1_7 a2_8 a3_9 a4_10, zAr T 0 a1_7 7 k1, zAr T 0 a2_8 28 k2, zAr T 0 a3_9 7 k3, zAr T 0 a4_10 7 k4]] _ _ := G.re rfl
  refine z_lp2 (T := T) 4 (fun (i : Nat) (u2 : Int32) => [[zO0 h md wy la pc_ a1_1 a2_2 a3_3 a4_4 a5_5 a6_6, zAr T 0 a1_1 7 f1, zAr T 0 a2_2 7 f2, zAr T 0 a3_3 7 f3, zAr T 0 a4_4 n4 f4, zAr T 0 a5_5 n4 f5, zAr T 0 a6_6 n4 f6], [zO4 la cr inn a1_7 a2_8 a3_9 a4_10, zAr T 0 a1_7 7 k1, zAr T 0 a2_8 28 k2, zAr T 0 a3_9 7 k3, zAr T 0 a4_10 7 k4]]) (fun (i : Nat) (u2 : Int32) => [(3, .int (nI i)), (2, .int u2), (0, .ref h), (1, .int x)]) (fun (i : Nat) (u2 : Int32) => i ≤ cr.toInt.toNat) (fun (i : Nat) (u2 : Int32) => cr.toInt.toNat - i) ?_ 0 1 (show 0 ≤ cr.toInt.toNat from by omega) G (lv_sub hl [0, 1, 2, 3] rfl)
  intro i u2 hi ih_4 H locs ls G hl
  replace hi : i ≤ cr.toInt.toNat := hi
  replace G : zS T A s.heap s [[zO0 h md wy la pc_ a1_1 a2_2 a3_3 a4_4 a5_5 a6_6, zAr T 0 a1_1 7 f1, zAr T 0 a2_2 7 f2, zAr T 0 a3_3 7 f3, zAr T 0 a4_4 n4 f4, zAr T 0 a5_5 n4 f5, zAr T 0 a6_6 n4 f6], [zO4 la cr inn a1_7 a2_8 a3_9 a4_10, zAr T 0 a1_7 7 k1, zAr T 0 a2_8 28 k2, zAr T 0 a3_9 7 k3, zAr T 0 a4_10 7 k4]] _ _ := G
  replace hl : lv_has ls 4 [(3, .int (nI i)), (2, .int u2), (0, .ref h), (1, .int x)] := hl
  refine lv_iload_n hx hb dX0_number_4 rfl (lv_at hl 0 rfl) ?_
  refine lv_aload_n hx hb dX0_number_5 rfl (lv_at hl 2 rfl) ?_
  have G : zS T A s.heap s [[zO0 h md wy la pc_ a1_1 a2_2 a3_3 a4_4 a5_5 a6_6], [zAr T 0 a1_1 7 f1], [zAr T 0 a2_2 7 f2], [zAr T 0 a3_3 7 f3], [zAr T 0 a4_4 n4 f4], [zAr T 0 a5_5 n4 f5], [zAr T 0 a6_6 n4 f6], [zO4 la cr inn a1_7 a2_8 a3_9 a4_10, zAr T 0 a1_7 7 k1, zAr T 0 a2_8 28 k2, zAr T 0 a3_9 7 k3, zAr T 0 a4_10 7 k4]] _ _ := G.re rfl
  refine z_get C G clX0 0 rfl 2 (by decide) m_fl_RX0_14 rfl dX0_number_6 ?_
  have G : zS T A s.heap s [[zO0 h md wy la pc_ a1_1 a2_2 a3_3 a4_4 a5_5 a6_6], [zAr T 0 a1_1 7 f1], [zAr T 0 a2_2 7 f2], [zAr T 0 a3_3 7 f3], [zAr T 0 a4_4 n4 f4], [zAr T 0 a5_5 n4 f5], [zAr T 0 a6_6 n4 f6], [zO4 la cr inn a1_7 a2_8 a3_9 a4_10], [zAr T 0 a1_7 7 k1], [zAr T 0 a2_8 28 k2], [zAr T 0 a3_9 7 k3], [zAr T 0 a4_10 7 k4]] _ _ := G.re rfl
  refine z_get C G clX4 7 rfl 0 (by decide) m_fl_RX0_107 rfl dX0_number_9 ?_
  refine lv_icmp_ge (tgt := 33) hx hb dX0_number_12 (by decide) (fun c_13 => ?_) (fun c_13 => ?_)
  · have c_13n : cr.toInt ≤ (i : Int) := by have q := (fa_le _ _).mp c_13; rw [nI_toInt (n := i) (by omega)] at q; exact q
    refine lv_iload_n hx hb dX0_number_33 rfl (lv_at hl 1 rfl) ?_
    have hw_14 : bWays T h la md wy pc_ f1 f2 f3 f4 f5 f6 n4 [zO0 h md wy la pc_ a1_1 a2_2 a3_3 a4_4 a5_5 a6_6, zAr T 0 a1_1 7 f1, zAr T 0 a2_2 7 f2, zAr T 0 a3_3 7 f3, zAr T 0 a4_4 n4 f4, zAr T 0 a5_5 n4 f5, zAr T 0 a6_6 n4 f6] := ⟨a1_1, a2_2, a3_3, a4_4, a5_5, a6_6, rfl⟩
    have G : zS T A s.heap s [[zO0 h md wy la pc_ a1_1 a2_2 a3_3 a4_4 a5_5 a6_6, zAr T 0 a1_1 7 f1, zAr T 0 a2_2 7 f2, zAr T 0 a3_3 7 f3, zAr T 0 a4_4 n4 f4, zAr T 0 a5_5 n4 f5, zAr T 0 a6_6 n4 f6], [zO4 la cr inn a1_7 a2_8 a3_9 a4_10], [zAr T 0 a1_7 7 k1], [zAr T 0 a2_8 28 k2], [zAr T 0 a3_9 7 k3], [zAr T 0 a4_10 7 k4]] _ _ := G.re rfl
    have hw_15 : bLand T la cr inn k1 k2 k3 k4 [zO4 la cr inn a1_7 a2_8 a3_9 a4_10, zAr T 0 a1_7 7 k1, zAr T 0 a2_8 28 k2, zAr T 0 a3_9 7 k3, zAr T 0 a4_10 7 k4] := ⟨a1_7, a2_8, a3_9, a4_10, rfl⟩
    have G : zS T A s.heap s [[zO0 h md wy la pc_ a1_1 a2_2 a3_3 a4_4 a5_5 a6_6, zAr T 0 a1_1 7 f1, zAr T 0 a2_2 7 f2, zAr T 0 a3_3 7 f3, zAr T 0 a4_4 n4 f4, zAr T 0 a5_5 n4 f5, zAr T 0 a6_6 n4 f6], [zO4 la cr inn a1_7 a2_8 a3_9 a4_10, zAr T 0 a1_7 7 k1, zAr T 0 a2_8 28 k2, zAr T 0 a3_9 7 k3, zAr T 0 a4_10 7 k4]] _ _ := G.re rfl
    exact z_back hQz_ (z_iret C hr hlocks G (Nat.le_of_ble_eq_true rfl) (Nat.le_of_ble_eq_true rfl) dX0_number_34 rfl)
  · have c_13n : ¬ cr.toInt ≤ (i : Int) := fun q => c_13 ((fa_le _ _).mpr (by rw [nI_toInt (n := i) (by omega)]; exact q))
    refine lv_iload_n hx hb dX0_number_15 rfl (lv_at hl 1 rfl) ?_
    refine lv_bipush (v := 10) hx hb dX0_number_16 (by decide) ?_
    refine lv_imul hx hb dX0_number_18 ?_
    refine lv_aload_n hx hb dX0_number_19 rfl (lv_at hl 2 rfl) ?_
    refine lv_iload_n hx hb dX0_number_20 rfl (lv_at hl 3 rfl) ?_
    refine lv_iload_n hx hb dX0_number_21 rfl (lv_at hl 0 rfl) ?_
    have hw_16 : bWays T h la md wy pc_ f1 f2 f3 f4 f5 f6 n4 [zO0 h md wy la pc_ a1_1 a2_2 a3_3 a4_4 a5_5 a6_6, zAr T 0 a1_1 7 f1, zAr T 0 a2_2 7 f2, zAr T 0 a3_3 7 f3, zAr T 0 a4_4 n4 f4, zAr T 0 a5_5 n4 f5, zAr T 0 a6_6 n4 f6] := ⟨a1_1, a2_2, a3_3, a4_4, a5_5, a6_6, rfl⟩
    have G : zS T A s.heap s [[zO0 h md wy la pc_ a1_1 a2_2 a3_3 a4_4 a5_5 a6_6, zAr T 0 a1_1 7 f1, zAr T 0 a2_2 7 f2, zAr T 0 a3_3 7 f3, zAr T 0 a4_4 n4 f4, zAr T 0 a5_5 n4 f5, zAr T 0 a6_6 n4 f6], [zO4 la cr inn a1_7 a2_8 a3_9 a4_10], [zAr T 0 a1_7 7 k1], [zAr T 0 a2_8 28 k2], [zAr T 0 a3_9 7 k3], [zAr T 0 a4_10 7 k4]] _ _ := G.re rfl
    refine z_Vi (bc := [[zO0 h md wy la pc_ a1_1 a2_2 a3_3 a4_4 a5_5 a6_6, zAr T 0 a1_1 7 f1, zAr T 0 a2_2 7 f2, zAr T 0 a3_3 7 f3, zAr T 0 a4_4 n4 f4, zAr T 0 a5_5 n4 f5, zAr T 0 a6_6 n4 f6]]) (br := [[zO4 la cr inn a1_7 a2_8 a3_9 a4_10], [zAr T 0 a1_7 7 k1], [zAr T 0 a2_8 28 k2], [zAr T 0 a3_9 7 k3], [zAr T 0 a4_10 7 k4]]) (As := [.int x, .int (nI i)]) (rest := [.int (u2 * 10)]) C G (c_road l T h la md wy pc_ f1 f2 f3 f4 f5 f6 n4 ([zO0 h md wy la pc_ a1_1 a2_2 a3_3 a4_4 a5_5 a6_6, zAr T 0 a1_1 7 f1, zAr T 0 a2_2 7 f2, zAr T 0 a3_3 7 f3, zAr T 0 a4_4 n4 f4, zAr T 0 a5_5 n4 f5, zAr T 0 a6_6 n4 f6]) x (nI i) hw_16) (kV_RX0_81 C.2.2.2.2 (Nat.le_of_ble_eq_true rfl) (Nat.le_of_ble_eq_true rfl)) [0] [0] rfl rfl (ci := 0) (qc := (RX0, TX0, 10)) rfl rfl (List.mem_flatten.mpr ⟨_, List.mem_of_getElem? (i := 0) rfl, (bWays_mem hw_16).choose_spec⟩) rfl rfl hl.1 dX0_number_22 (Nat.le_of_ble_eq_true rfl) (Nat.le_of_ble_eq_true rfl) (fun r_18 b1 H locs hw G => ?_)
    refine zAn2 hw ?_
    intro hbs9 h_17
    clear hw
    subst hbs9
    have G : zS T A s.heap s [[zO4 la cr inn a1_7 a2_8 a3_9 a4_10], [zAr T 0 a1_7 7 k1], [zAr T 0 a2_8 28 k2], [zAr T 0 a3_9 7 k3], [zAr T 0 a4_10 7 k4], [zO0 h md wy la pc_ a1_1 a2_2 a3_3 a4_4 a5_5 a6_6, zAr T 0 a1_1 7 f1, zAr T 0 a2_2 7 f2, zAr T 0 a3_3 7 f3, zAr T 0 a4_4 n4 f4, zAr T 0 a5_5 n4 f5, zAr T 0 a6_6 n4 f6]] _ _ := G
    subst h_17
    refine lv_iadd hx hb dX0_number_25 ?_
    refine lv_istore_n (lv' := [(2, .int ((u2 * 10) + (zRoad f1 f2 x (nI i)))), (3, .int (nI i)), (0, .ref h), (1, .int x)]) hx hb dX0_number_26 rfl hl (by decide) (zLvf_h rfl) (fun ls hl => ?_)
    refine lv_iinc (v := nI (i + 1)) (lv' := [(3, .int (nI (i + 1))), (2, .int ((u2 * 10) + (zRoad f1 f2 x (nI i)))), (0, .ref h), (1, .int x)]) hx hb dX0_number_27 hl (k := 1) rfl (z_inc i 1) (by decide) (zLvf_h rfl) (fun ls hl => ?_)
    refine lv_goto (tgt := 4) hx hb dX0_number_30 (by decide) ?_
    have hw_19 : bLand T la cr inn k1 k2 k3 k4 [zO4 la cr inn a1_7 a2_8 a3_9 a4_10, zAr T 0 a1_7 7 k1, zAr T 0 a2_8 28 k2, zAr T 0 a3_9 7 k3, zAr T 0 a4_10 7 k4] := ⟨a1_7, a2_8, a3_9, a4_10, rfl⟩
    have G : zS T A s.heap s [[zO4 la cr inn a1_7 a2_8 a3_9 a4_10, zAr T 0 a1_7 7 k1, zAr T 0 a2_8 28 k2, zAr T 0 a3_9 7 k3, zAr T 0 a4_10 7 k4], [zO0 h md wy la pc_ a1_1 a2_2 a3_3 a4_4 a5_5 a6_6, zAr T 0 a1_1 7 f1, zAr T 0 a2_2 7 f2, zAr T 0 a3_3 7 f3, zAr T 0 a4_4 n4 f4, zAr T 0 a5_5 n4 f5, zAr T 0 a6_6 n4 f6]] _ _ := G.re rfl
    have G := G.sub (bs' := [[zO0 h md wy la pc_ a1_1 a2_2 a3_3 a4_4 a5_5 a6_6, zAr T 0 a1_1 7 f1, zAr T 0 a2_2 7 f2, zAr T 0 a3_3 7 f3, zAr T 0 a4_4 n4 f4, zAr T 0 a5_5 n4 f5, zAr T 0 a6_6 n4 f6], [zO4 la cr inn a1_7 a2_8 a3_9 a4_10, zAr T 0 a1_7 7 k1, zAr T 0 a2_8 28 k2, zAr T 0 a3_9 7 k3, zAr T 0 a4_10 7 k4]]) [1, 0] rfl
    exact ih_4 (i + 1) ((u2 * 10) + (zRoad f1 f2 x (nI i))) (show (i + 1) ≤ cr.toInt.toNat from by omega) (show cr.toInt.toNat - (i + 1) < cr.toInt.toNat - i from by omega) _ _ ls G (lv_sub hl [0, 1, 2, 3] rfl)
set_option maxHeartbeats 4000000 in
set_option maxRecDepth 100000 in
/-- c_unlike -/
theorem c_unlike (l : Launch) (T : zTy) (h : Nat) (la : Nat) (md : Int32) (wy : Int32) (pc_ : Int32) (f1 : Nat → Int32) (f2 : Nat → Int32) (f3 : Nat → Int32) (f4 : Nat → Int32) (f5 : Nat → Int32) (f6 : Nat → Int32) (n4 : Nat) (ww : va_W) (cr : Int32) (inn : Int32) (k1 : Nat → Int32) (k2 : Nat → Int32) (k3 : Nat → Int32) (k4 : Nat → Int32) (z : va_W) (x : Int32) (y : Int32) (hww : bWays T h la md wy pc_ f1 f2 f3 f4 f5 f6 n4 ww) (hz : bLand T la cr inn k1 k2 k3 k4 z) (hI : zLI cr k1 k3) : zMi l T yX0_unlike cX0_unlike 5 (some .int) 2 0 0 [.ref h, .int x, .int y] [ww, z] (fun (r : Int32) bs => bs = [ww, z]) := by
  refine zMi_of (own := RX0) (by decide) rfl (Nat.le_of_ble_eq_true rfl) ?_
  intro p e s m args below meth c A ls C hr hlocks hnm hAe G hl
  refine zHide (fun Qz_ hQz_ => ?_)
  have hx := C.1
  have hb := C.2.1
  have hl : lv_has ls 5 [(0, .ref h), (1, .int x), (2, .int y)] := hl
  have hcr := hI.1
  refine lv_iconst (v := 0) hx hb dX0_unlike_0 (by decide) ?_
  refine lv_istore_n (lv' := [(3, .int 0), (0, .ref h), (1, .int x), (2, .int y)]) hx hb dX0_unlike_1 rfl hl (by decide) (zLvf_h rfl) (fun ls hl => ?_)
  refine lv_iconst (v := 0) hx hb dX0_unlike_2 (by decide) ?_
  refine lv_istore (lv' := [(4, .int 0), (3, .int 0), (0, .ref h), (1, .int x), (2, .int y)]) hx hb dX0_unlike_3 hl (by decide) (zLvf_h rfl) (fun ls hl => ?_)
  refine zEx6 hww ?_
  intro a1_1 a2_2 a3_3 a4_4 a5_5 a6_6 hbs9
  clear hww
  subst hbs9
  have G : zS T A s.heap s [[zO0 h md wy la pc_ a1_1 a2_2 a3_3 a4_4 a5_5 a6_6], [zAr T 0 a1_1 7 f1], [zAr T 0 a2_2 7 f2], [zAr T 0 a3_3 7 f3], [zAr T 0 a4_4 n4 f4], [zAr T 0 a5_5 n4 f5], [zAr T 0 a6_6 n4 f6], z] _ _ := G.re rfl
  refine zEx4 hz ?_
  intro a1_7 a2_8 a3_9 a4_10 hbs9
  clear hz
  subst hbs9
  have G : zS T A s.heap s [[zO0 h md wy la pc_ a1_1 a2_2 a3_3 a4_4 a5_5 a6_6], [zAr T 0 a1_1 7 f1], [zAr T 0 a2_2 7 f2], [zAr T 0 a3_3 7 f3], [zAr T 0 a4_4 n4 f4], [zAr T 0 a5_5 n4 f5], [zAr T 0 a6_6 n4 f6], [zO4 la cr inn a1_7 a2_8 a3_9 a4_10], [zAr T 0 a1_7 7 k1], [zAr T 0 a2_8 28 k2], [zAr T 0 a3_9 7 k3], [zAr T 0 a4_10 7 k4]] _ _ := G.re rfl
  have hw_11 : bWays T h la md wy pc_ f1 f2 f3 f4 f5 f6 n4 [zO0 h md wy la pc_ a1_1 a2_2 a3_3 a4_4 a5_5 a6_6, zAr T 0 a1_1 7 f1, zAr T 0 a2_2 7 f2, zAr T 0 a3_3 7 f3, zAr T 0 a4_4 n4 f4, zAr T 0 a5_5 n4 f5, zAr T 0 a6_6 n4 f6] := ⟨a1_1, a2_2, a3_3, a4_4, a5_5, a6_6, rfl⟩
  have G : zS T A s.heap s [[zO0 h md wy la pc_ a1_1 a2_2 a3_3 a4_4 a5_5 a6_6, zAr T 0 a1_1 7 f1, zAr T 0 a2_2 7 f2, zAr T 0 a3_3 7 f3, zAr T 0 a4_4 n4 f4, zAr T 0 a5_5 n4 f5, zAr T 0 a6_6 n4 f6], [zO4 la cr inn a1_7 a2_8 a3_9 a4_10], [zAr T 0 a1_7 7 k1], [zAr T 0 a2_8 28 k2], [zAr T 0 a3_9 7 k3], [zAr T 0 a4_10 7 k4]] _ _ := G.re rfl
  have hw_12 : bLand T la cr inn k1 k2 k3 k4 [zO4 la cr inn a1_7 a2_8 a3_9 a4_10, zAr T 0 a1_7 7 k1, zAr T 0 a2_8 28 k2, zAr T 0 a3_9 7 k3, zAr T 0 a4_10 7 k4] := ⟨a1_7, a2_8, a3_9, a4_10, rfl⟩
  have G : zS T A s.heap s [[zO0 h md wy la pc_ a1_1 a2_2 a3_3 a4_4 a5_5 a6_6, zAr T 0 a1_1 7 f1, zAr T 0 a2_2 7 f2, zAr T 0 a3_3 7 f3, zAr T 0 a4_4 n4 f4, zAr T 0 a5_5 n4 f5, zAr T 0 a6_6 n4 f6], [zO4 la cr inn a1_7 a2_8 a3_9 a4_10, zAr T 0 a1_7 7 k1, zAr T 0 a2_8 28 k2, zAr T 0 a3_9 7 k3, zAr T 0 a4_10 7 k4]] _ _ := G.re rfl
  refine z_lp2 (T := T) 5 (fun (i : Nat) (u3 : Int32) => [[zO0 h md wy la pc_ a1_1 a2_2 a3_3 a4_4 a5_5 a6_6, zAr T 0 a1_1 7 f1, zAr T 0 a2_2 7 f2, zAr T 0 a3_3 7 f3, zAr T 0 a4_4 n4 f4, zAr T 0 a5_5 n4 f5, zAr T 0 a6_6 n4 f6], [zO4 la cr inn a1_7 a2_8 a3_9 a4_10, zAr T 0 a1_7 7 k1, zAr T 0 a2_8 28 k2, zAr T 0 a3_9 7 k3, zAr T 0 a4_10 7 k4]]) (fun (i : Nat) (u3 : Int32) => [(4, .int (nI i)), (3, .int u3), (0, .ref h), (1, .int x), (2, .int y)]) (fun (i : Nat) (u3 : Int32) => i ≤ cr.toInt.toNat) (fun (i : Nat) (u3 : Int32) => cr.toInt.toNat - i) ?_ 0 0 (show 0 ≤ cr.toInt.toNat from by omega) G (lv_sub hl [0, 1, 2, 3, 4] rfl)
  intro i u3 hi ih_5 H locs ls G hl
  replace hi : i ≤ cr.toInt.toNat := hi
  replace G : zS T A s.heap s [[zO0 h md wy la pc_ a1_1 a2_2 a3_3 a4_4 a5_5 a6_6, zAr T 0 a1_1 7 f1, zAr T 0 a2_2 7 f2, zAr T 0 a3_3 7 f3, zAr T 0 a4_4 n4 f4, zAr T 0 a5_5 n4 f5, zAr T 0 a6_6 n4 f6], [zO4 la cr inn a1_7 a2_8 a3_9 a4_10, zAr T 0 a1_7 7 k1, zAr T 0 a2_8 28 k2, zAr T 0 a3_9 7 k3, zAr T 0 a4_10 7 k4]] _ _ := G
  replace hl : lv_has ls 5 [(4, .int (nI i)), (3, .int u3), (0, .ref h), (1, .int x), (2, .int y)] := hl
  refine lv_iload hx hb dX0_unlike_5 (lv_at hl 0 rfl) ?_
  refine lv_aload_n hx hb dX0_unlike_7 rfl (lv_at hl 2 rfl) ?_
  have G : zS T A s.heap s [[zO0 h md wy la pc_ a1_1 a2_2 a3_3 a4_4 a5_5 a6_6], [zAr T 0 a1_1 7 f1], [zAr T 0 a2_2 7 f2], [zAr T 0 a3_3 7 f3], [zAr T 0 a4_4 n4 f4], [zAr T 0 a5_5 n4 f5], [zAr T 0 a6_6 n4 f6], [zO4 la cr inn a1_7 a2_8 a3_9 a4_10, zAr T 0 a1_7 7 k1, zAr T 0 a2_8 28 k2, zAr T 0 a3_9 7 k3, zAr T 0 a4_10 7 k4]] _ _ := G.re rfl
  refine z_get C G clX0 0 rfl 2 (by decide) m_fl_RX0_14 rfl dX0_unlike_8 ?_
  have G : zS T A s.heap s [[zO0 h md wy la pc_ a1_1 a2_2 a3_3 a4_4 a5_5 a6_6], [zAr T 0 a1_1 7 f1], [zAr T 0 a2_2 7 f2], [zAr T 0 a3_3 7 f3], [zAr T 0 a4_4 n4 f4], [zAr T 0 a5_5 n4 f5], [zAr T 0 a6_6 n4 f6], [zO4 la cr inn a1_7 a2_8 a3_9 a4_10], [zAr T 0 a1_7 7 k1], [zAr T 0 a2_8 28 k2], [zAr T 0 a3_9 7 k3], [zAr T 0 a4_10 7 k4]] _ _ := G.re rfl
  refine z_get C G clX4 7 rfl 0 (by decide) m_fl_RX0_107 rfl dX0_unlike_11 ?_
  refine lv_icmp_ge (tgt := 51) hx hb dX0_unlike_14 (by decide) (fun c_13 => ?_) (fun c_13 => ?_)
  · have c_13n : cr.toInt ≤ (i : Int) := by have q := (fa_le _ _).mp c_13; rw [nI_toInt (n := i) (by omega)] at q; exact q
    refine lv_iload_n hx hb dX0_unlike_51 rfl (lv_at hl 1 rfl) ?_
    have hw_14 : bWays T h la md wy pc_ f1 f2 f3 f4 f5 f6 n4 [zO0 h md wy la pc_ a1_1 a2_2 a3_3 a4_4 a5_5 a6_6, zAr T 0 a1_1 7 f1, zAr T 0 a2_2 7 f2, zAr T 0 a3_3 7 f3, zAr T 0 a4_4 n4 f4, zAr T 0 a5_5 n4 f5, zAr T 0 a6_6 n4 f6] := ⟨a1_1, a2_2, a3_3, a4_4, a5_5, a6_6, rfl⟩
    have G : zS T A s.heap s [[zO0 h md wy la pc_ a1_1 a2_2 a3_3 a4_4 a5_5 a6_6, zAr T 0 a1_1 7 f1, zAr T 0 a2_2 7 f2, zAr T 0 a3_3 7 f3, zAr T 0 a4_4 n4 f4, zAr T 0 a5_5 n4 f5, zAr T 0 a6_6 n4 f6], [zO4 la cr inn a1_7 a2_8 a3_9 a4_10], [zAr T 0 a1_7 7 k1], [zAr T 0 a2_8 28 k2], [zAr T 0 a3_9 7 k3], [zAr T 0 a4_10 7 k4]] _ _ := G.re rfl
    have hw_15 : bLand T la cr inn k1 k2 k3 k4 [zO4 la cr inn a1_7 a2_8 a3_9 a4_10, zAr T 0 a1_7 7 k1, zAr T 0 a2_8 28 k2, zAr T 0 a3_9 7 k3, zAr T 0 a4_10 7 k4] := ⟨a1_7, a2_8, a3_9, a4_10, rfl⟩
    have G : zS T A s.heap s [[zO0 h md wy la pc_ a1_1 a2_2 a3_3 a4_4 a5_5 a6_6, zAr T 0 a1_1 7 f1, zAr T 0 a2_2 7 f2, zAr T 0 a3_3 7 f3, zAr T 0 a4_4 n4 f4, zAr T 0 a5_5 n4 f5, zAr T 0 a6_6 n4 f6], [zO4 la cr inn a1_7 a2_8 a3_9 a4_10, zAr T 0 a1_7 7 k1, zAr T 0 a2_8 28 k2, zAr T 0 a3_9 7 k3, zAr T 0 a4_10 7 k4]] _ _ := G.re rfl
    exact z_back hQz_ (z_iret C hr hlocks G (Nat.le_of_ble_eq_true rfl) (Nat.le_of_ble_eq_true rfl) dX0_unlike_52 rfl)
  · have c_13n : ¬ cr.toInt ≤ (i : Int) := fun q => c_13 ((fa_le _ _).mpr (by rw [nI_toInt (n := i) (by omega)]; exact q))
    refine lv_iload_n hx hb dX0_unlike_17 rfl (lv_at hl 1 rfl) ?_
    refine lv_aload_n hx hb dX0_unlike_18 rfl (lv_at hl 2 rfl) ?_
    refine lv_iload_n hx hb dX0_unlike_19 rfl (lv_at hl 3 rfl) ?_
    refine lv_iload hx hb dX0_unlike_20 (lv_at hl 0 rfl) ?_
    have hw_16 : bWays T h la md wy pc_ f1 f2 f3 f4 f5 f6 n4 [zO0 h md wy la pc_ a1_1 a2_2 a3_3 a4_4 a5_5 a6_6, zAr T 0 a1_1 7 f1, zAr T 0 a2_2 7 f2, zAr T 0 a3_3 7 f3, zAr T 0 a4_4 n4 f4, zAr T 0 a5_5 n4 f5, zAr T 0 a6_6 n4 f6] := ⟨a1_1, a2_2, a3_3, a4_4, a5_5, a6_6, rfl⟩
    have G : zS T A s.heap s [[zO0 h md wy la pc_ a1_1 a2_2 a3_3 a4_4 a5_5 a6_6, zAr T 0 a1_1 7 f1, zAr T 0 a2_2 7 f2, zAr T 0 a3_3 7 f3, zAr T 0 a4_4 n4 f4, zAr T 0 a5_5 n4 f5, zAr T 0 a6_6 n4 f6], [zO4 la cr inn a1_7 a2_8 a3_9 a4_10], [zAr T 0 a1_7 7 k1], [zAr T 0 a2_8 28 k2], [zAr T 0 a3_9 7 k3], [zAr T 0 a4_10 7 k4]] _ _ := G.re rfl
    refine z_Vi (bc := [[zO0 h md wy la pc_ a1_1 a2_2 a3_3 a4_4 a5_5 a6_6, zAr T 0 a1_1 7 f1, zAr T 0 a2_2 7 f2, zAr T 0 a3_3 7 f3, zAr T 0 a4_4 n4 f4, zAr T 0 a5_5 n4 f5, zAr T 0 a6_6 n4 f6]]) (br := [[zO4 la cr inn a1_7 a2_8 a3_9 a4_10], [zAr T 0 a1_7 7 k1], [zAr T 0 a2_8 28 k2], [zAr T 0 a3_9 7 k3], [zAr T 0 a4_10 7 k4]]) (As := [.int x, .int (nI i)]) (rest := [.int u3]) C G (c_road l T h la md wy pc_ f1 f2 f3 f4 f5 f6 n4 ([zO0 h md wy la pc_ a1_1 a2_2 a3_3 a4_4 a5_5 a6_6, zAr T 0 a1_1 7 f1, zAr T 0 a2_2 7 f2, zAr T 0 a3_3 7 f3, zAr T 0 a4_4 n4 f4, zAr T 0 a5_5 n4 f5, zAr T 0 a6_6 n4 f6]) x (nI i) hw_16) (kV_RX0_81 C.2.2.2.2 (Nat.le_of_ble_eq_true rfl) (Nat.le_of_ble_eq_true rfl)) [0] [0] rfl rfl (ci := 0) (qc := (RX0, TX0, 10)) rfl rfl (List.mem_flatten.mpr ⟨_, List.mem_of_getElem? (i := 0) rfl, (bWays_mem hw_16).choose_spec⟩) rfl rfl hl.1 dX0_unlike_22 (Nat.le_of_ble_eq_true rfl) (Nat.le_of_ble_eq_true rfl) (fun r_18 b1 H locs hw G => ?_)
    refine zAn2 hw ?_
    intro hbs9 h_17
    clear hw
    subst hbs9
    have G : zS T A s.heap s [[zO4 la cr inn a1_7 a2_8 a3_9 a4_10], [zAr T 0 a1_7 7 k1], [zAr T 0 a2_8 28 k2], [zAr T 0 a3_9 7 k3], [zAr T 0 a4_10 7 k4], [zO0 h md wy la pc_ a1_1 a2_2 a3_3 a4_4 a5_5 a6_6, zAr T 0 a1_1 7 f1, zAr T 0 a2_2 7 f2, zAr T 0 a3_3 7 f3, zAr T 0 a4_4 n4 f4, zAr T 0 a5_5 n4 f5, zAr T 0 a6_6 n4 f6]] _ _ := G
    subst h_17
    refine lv_aload_n hx hb dX0_unlike_25 rfl (lv_at hl 2 rfl) ?_
    refine lv_iload_n hx hb dX0_unlike_26 rfl (lv_at hl 4 rfl) ?_
    refine lv_iload hx hb dX0_unlike_27 (lv_at hl 0 rfl) ?_
    refine z_Vi (bc := [[zO0 h md wy la pc_ a1_1 a2_2 a3_3 a4_4 a5_5 a6_6, zAr T 0 a1_1 7 f1, zAr T 0 a2_2 7 f2, zAr T 0 a3_3 7 f3, zAr T 0 a4_4 n4 f4, zAr T 0 a5_5 n4 f5, zAr T 0 a6_6 n4 f6]]) (br := [[zO4 la cr inn a1_7 a2_8 a3_9 a4_10], [zAr T 0 a1_7 7 k1], [zAr T 0 a2_8 28 k2], [zAr T 0 a3_9 7 k3], [zAr T 0 a4_10 7 k4]]) (As := [.int y, .int (nI i)]) (rest := [.int (zRoad f1 f2 x (nI i)), .int u3]) C G (c_road l T h la md wy pc_ f1 f2 f3 f4 f5 f6 n4 ([zO0 h md wy la pc_ a1_1 a2_2 a3_3 a4_4 a5_5 a6_6, zAr T 0 a1_1 7 f1, zAr T 0 a2_2 7 f2, zAr T 0 a3_3 7 f3, zAr T 0 a4_4 n4 f4, zAr T 0 a5_5 n4 f5, zAr T 0 a6_6 n4 f6]) y (nI i) hw_16) (kV_RX0_81 C.2.2.2.2 (Nat.le_of_ble_eq_true rfl) (Nat.le_of_ble_eq_true rfl)) [5] [5] rfl rfl (ci := 0) (qc := (RX0, TX0, 10)) rfl rfl (List.mem_flatten.mpr ⟨_, List.mem_of_getElem? (i := 0) rfl, (bWays_mem hw_16).choose_spec⟩) rfl rfl hl.1 dX0_unlike_29 (Nat.le_of_ble_eq_true rfl) (Nat.le_of_ble_eq_true rfl) (fun r_20 b1 H locs hw G => ?_)
    refine zAn2 hw ?_
    intro hbs9 h_19
    clear hw
    subst hbs9
    have G : zS T A s.heap s [[zO4 la cr inn a1_7 a2_8 a3_9 a4_10], [zAr T 0 a1_7 7 k1], [zAr T 0 a2_8 28 k2], [zAr T 0 a3_9 7 k3], [zAr T 0 a4_10 7 k4], [zO0 h md wy la pc_ a1_1 a2_2 a3_3 a4_4 a5_5 a6_6, zAr T 0 a1_1 7 f1, zAr T 0 a2_2 7 f2, zAr T 0 a3_3 7 f3, zAr T 0 a4_4 n4 f4, zAr T 0 a5_5 n4 f5, zAr T 0 a6_6 n4 f6]] _ _ := G
    subst h_19
    refine lv_icmp_eq (tgt := 42) hx hb dX0_unlike_32 (by decide) (fun c_21 => ?_) (fun c_21 => ?_)
    · have c_21n : (zRoad f1 f2 x (nI i)).toInt = (zRoad f1 f2 y (nI i)).toInt := (fa_eq _ _).mp c_21
      refine lv_iconst (v := 0) hx hb dX0_unlike_42 (by decide) ?_
      refine lv_ior hx hb dX0_unlike_43 ?_
      refine lv_istore_n (lv' := [(3, .int (u3 ||| 0)), (4, .int (nI i)), (0, .ref h), (1, .int x), (2, .int y)]) hx hb dX0_unlike_44 rfl hl (by decide) (zLvf_h rfl) (fun ls hl => ?_)
      refine lv_iinc (v := nI (i + 1)) (lv' := [(4, .int (nI (i + 1))), (3, .int (u3 ||| 0)), (0, .ref h), (1, .int x), (2, .int y)]) hx hb dX0_unlike_45 hl (k := 1) rfl (z_inc i 1) (by decide) (zLvf_h rfl) (fun ls hl => ?_)
      refine lv_goto (tgt := 5) hx hb dX0_unlike_48 (by decide) ?_
      have hw_22 : bLand T la cr inn k1 k2 k3 k4 [zO4 la cr inn a1_7 a2_8 a3_9 a4_10, zAr T 0 a1_7 7 k1, zAr T 0 a2_8 28 k2, zAr T 0 a3_9 7 k3, zAr T 0 a4_10 7 k4] := ⟨a1_7, a2_8, a3_9, a4_10, rfl⟩
      have G : zS T A s.heap s [[zO4 la cr inn a1_7 a2_8 a3_9 a4_10, zAr T 0 a1_7 7 k1, zAr T 0 a2_8 28 k2, zAr T 0 a3_9 7 k3, zAr T 0 a4_10 7 k4], [zO0 h md wy la pc_ a1_1 a2_2 a3_3 a4_4 a5_5 a6_6, zAr T 0 a1_1 7 f1, zAr T 0 a2_2 7 f2, zAr T 0 a3_3 7 f3, zAr T 0 a4_4 n4 f4, zAr T 0 a5_5 n4 f5, zAr T 0 a6_6 n4 f6]] _ _ := G.re rfl
      have G := G.sub (bs' := [[zO0 h md wy la pc_ a1_1 a2_2 a3_3 a4_4 a5_5 a6_6, zAr T 0 a1_1 7 f1, zAr T 0 a2_2 7 f2, zAr T 0 a3_3 7 f3, zAr T 0 a4_4 n4 f4, zAr T 0 a5_5 n4 f5, zAr T 0 a6_6 n4 f6], [zO4 la cr inn a1_7 a2_8 a3_9 a4_10, zAr T 0 a1_7 7 k1, zAr T 0 a2_8 28 k2, zAr T 0 a3_9 7 k3, zAr T 0 a4_10 7 k4]]) [1, 0] rfl
      exact ih_5 (i + 1) (u3 ||| 0) (show (i + 1) ≤ cr.toInt.toNat from by omega) (show cr.toInt.toNat - (i + 1) < cr.toInt.toNat - i from by omega) _ _ ls G (lv_sub hl [0, 1, 2, 3, 4] rfl)
    · have c_21n : ¬ (zRoad f1 f2 x (nI i)).toInt = (zRoad f1 f2 y (nI i)).toInt := fun q => c_21 ((fa_eq _ _).mpr q)
      refine lv_iconst (v := 1) hx hb dX0_unlike_35 (by decide) ?_
      refine lv_iload hx hb dX0_unlike_36 (lv_at hl 0 rfl) ?_
      refine lv_ishl hx hb dX0_unlike_38 ?_
      refine lv_goto (tgt := 43) hx hb dX0_unlike_39 (by decide) ?_
      refine lv_ior hx hb dX0_unlike_43 ?_
      refine lv_istore_n (lv' := [(3, .int (u3 ||| (1 <<< ((nI i) &&& 31)))), (4, .int (nI i)), (0, .ref h), (1, .int x), (2, .int y)]) hx hb dX0_unlike_44 rfl hl (by decide) (zLvf_h rfl) (fun ls hl => ?_)
      refine lv_iinc (v := nI (i + 1)) (lv' := [(4, .int (nI (i + 1))), (3, .int (u3 ||| (1 <<< ((nI i) &&& 31)))), (0, .ref h), (1, .int x), (2, .int y)]) hx hb dX0_unlike_45 hl (k := 1) rfl (z_inc i 1) (by decide) (zLvf_h rfl) (fun ls hl => ?_)
      refine lv_goto (tgt := 5) hx hb dX0_unlike_48 (by decide) ?_
      have hw_23 : bLand T la cr inn k1 k2 k3 k4 [zO4 la cr inn a1_7 a2_8 a3_9 a4_10, zAr T 0 a1_7 7 k1, zAr T 0 a2_8 28 k2, zAr T 0 a3_9 7 k3, zAr T 0 a4_10 7 k4] := ⟨a1_7, a2_8, a3_9, a4_10, rfl⟩
      have G : zS T A s.heap s [[zO4 la cr inn a1_7 a2_8 a3_9 a4_10, zAr T 0 a1_7 7 k1, zAr T 0 a2_8 28 k2, zAr T 0 a3_9 7 k3, zAr T 0 a4_10 7 k4], [zO0 h md wy la pc_ a1_1 a2_2 a3_3 a4_4 a5_5 a6_6, zAr T 0 a1_1 7 f1, zAr T 0 a2_2 7 f2, zAr T 0 a3_3 7 f3, zAr T 0 a4_4 n4 f4, zAr T 0 a5_5 n4 f5, zAr T 0 a6_6 n4 f6]] _ _ := G.re rfl
      have G := G.sub (bs' := [[zO0 h md wy la pc_ a1_1 a2_2 a3_3 a4_4 a5_5 a6_6, zAr T 0 a1_1 7 f1, zAr T 0 a2_2 7 f2, zAr T 0 a3_3 7 f3, zAr T 0 a4_4 n4 f4, zAr T 0 a5_5 n4 f5, zAr T 0 a6_6 n4 f6], [zO4 la cr inn a1_7 a2_8 a3_9 a4_10, zAr T 0 a1_7 7 k1, zAr T 0 a2_8 28 k2, zAr T 0 a3_9 7 k3, zAr T 0 a4_10 7 k4]]) [1, 0] rfl
      exact ih_5 (i + 1) (u3 ||| (1 <<< ((nI i) &&& 31))) (show (i + 1) ≤ cr.toInt.toNat from by omega) (show cr.toInt.toNat - (i + 1) < cr.toInt.toNat - i from by omega) _ _ ls G (lv_sub hl [0, 1, 2, 3, 4] rfl)
set_option maxHeartbeats 4000000 in
set_option maxRecDepth 100000 in
/-- c_nearestWay -/
theorem c_nearestWay (l : Launch) (T : zTy) (h : Nat) (la : Nat) (md : Int32) (wy : Int32) (pc_ : Int32) (f1 : Nat → Int32) (f2 : Nat → Int32) (f3 : Nat → Int32) (f4 : Nat → Int32) (f5 : Nat → Int32) (f6 : Nat → Int32) (n4 : Nat) (ww : va_W) (cr : Int32) (inn : Int32) (k1 : Nat → Int32) (k2 : Nat → Int32) (k3 : Nat → Int32) (k4 : Nat → Int32) (z : va_W) (x : Int32) (y : Int32) (hww : bWays T h la md wy pc_ f1 f2 f3 f4 f5 f6 n4 ww) (hz : bLand T la cr inn k1 k2 k3 k4 z) (hn : n4 ≤ 131072) (hI : zLI cr k1 k3) (hwy : 0 ≤ wy.toInt) : zMi l T yX0_nearestWay cX0_nearestWay 9 (some .int) 4 0 0 [.ref h, .int x, .int y] [ww, z] (fun (r : Int32) bs => bs = [ww, z]) := by
  refine zMi_of (own := RX0) (by decide) rfl (Nat.le_of_ble_eq_true rfl) ?_
  intro p e s m args below meth c A ls C hr hlocks hnm hAe G hl
  refine zHide (fun Qz_ hQz_ => ?_)
  have hx := C.1
  have hb := C.2.1
  have hl : lv_has ls 9 [(0, .ref h), (1, .int x), (2, .int y)] := hl
  have hcr := hI.1
  have hwl := Int32.toInt_lt wy
  refine lv_aload_n hx hb dX0_nearestWay_0 rfl (lv_at hl 0 rfl) ?_
  refine z_Vi (bc := [ww, z]) (br := []) (As := []) (rest := []) C G (c_wayTold l T h la md wy pc_ f1 f2 f3 f4 f5 f6 n4 ww cr inn k1 k2 k3 k4 z hww hz (by first | with_reducible assumption | with_reducible rfl | omega | assumption | rfl)) (kV_RX0_110 C.2.2.2.2 (Nat.le_of_ble_eq_true rfl) (Nat.le_of_ble_eq_true rfl)) [0, 1] [0, 0] rfl rfl (ci := 0) (qc := (RX0, TX0, 10)) rfl rfl (List.mem_flatten.mpr ⟨_, List.mem_of_getElem? (i := 0) rfl, (bWays_mem hww).choose_spec⟩) rfl rfl hl.1 dX0_nearestWay_1 (Nat.le_of_ble_eq_true rfl) (Nat.le_of_ble_eq_true rfl) (fun r_1 b1 H locs hw G => ?_)
  obtain rfl := hw
  have G : zS T A s.heap s [ww, z] _ _ := G
  refine lv_istore_n (lv' := [(3, .int r_1), (0, .ref h), (1, .int x), (2, .int y)]) hx hb dX0_nearestWay_4 rfl hl (by decide) (zLvf_h rfl) (fun ls hl => ?_)
  refine lv_iconst (v := (-1)) hx hb dX0_nearestWay_5 (by decide) ?_
  refine lv_istore (lv' := [(4, .int (-1)), (3, .int r_1), (0, .ref h), (1, .int x), (2, .int y)]) hx hb dX0_nearestWay_6 hl (by decide) (zLvf_h rfl) (fun ls hl => ?_)
  refine lv_iconst (v := 0) hx hb dX0_nearestWay_8 (by decide) ?_
  refine lv_istore (lv' := [(5, .int 0), (4, .int (-1)), (3, .int r_1), (0, .ref h), (1, .int x), (2, .int y)]) hx hb dX0_nearestWay_9 hl (by decide) (zLvf_h rfl) (fun ls hl => ?_)
  refine lv_iconst (v := 0) hx hb dX0_nearestWay_11 (by decide) ?_
  refine lv_istore (lv' := [(6, .int 0), (5, .int 0), (4, .int (-1)), (3, .int r_1), (0, .ref h), (1, .int x), (2, .int y)]) hx hb dX0_nearestWay_12 hl (by decide) (zLvf_h rfl) (fun ls hl => ?_)
  refine zEx6 hww ?_
  intro a1_2 a2_3 a3_4 a4_5 a5_6 a6_7 hbs9
  clear hww
  subst hbs9
  have G : zS T A s.heap s [[zO0 h md wy la pc_ a1_2 a2_3 a3_4 a4_5 a5_6 a6_7], [zAr T 0 a1_2 7 f1], [zAr T 0 a2_3 7 f2], [zAr T 0 a3_4 7 f3], [zAr T 0 a4_5 n4 f4], [zAr T 0 a5_6 n4 f5], [zAr T 0 a6_7 n4 f6], z] _ _ := G.re rfl
  have hw_8 : bWays T h la md wy pc_ f1 f2 f3 f4 f5 f6 n4 [zO0 h md wy la pc_ a1_2 a2_3 a3_4 a4_5 a5_6 a6_7, zAr T 0 a1_2 7 f1, zAr T 0 a2_3 7 f2, zAr T 0 a3_4 7 f3, zAr T 0 a4_5 n4 f4, zAr T 0 a5_6 n4 f5, zAr T 0 a6_7 n4 f6] := ⟨a1_2, a2_3, a3_4, a4_5, a5_6, a6_7, rfl⟩
  have G : zS T A s.heap s [[zO0 h md wy la pc_ a1_2 a2_3 a3_4 a4_5 a5_6 a6_7, zAr T 0 a1_2 7 f1, zAr T 0 a2_3 7 f2, zAr T 0 a3_4 7 f3, zAr T 0 a4_5 n4 f4, zAr T 0 a5_6 n4 f5, zAr T 0 a6_7 n4 f6], z] _ _ := G.re rfl
  refine z_lp3 (T := T) 14 (fun (i : Nat) (ui4 : Int32) (ui5 : Int32) => [[zO0 h md wy la pc_ a1_2 a2_3 a3_4 a4_5 a5_6 a6_7, zAr T 0 a1_2 7 f1, zAr T 0 a2_3 7 f2, zAr T 0 a3_4 7 f3, zAr T 0 a4_5 n4 f4, zAr T 0 a5_6 n4 f5, zAr T 0 a6_7 n4 f6], z]) (fun (i : Nat) (ui4 : Int32) (ui5 : Int32) => [(6, .int (nI i)), (5, .int ui5), (4, .int ui4), (3, .int r_1), (0, .ref h), (1, .int x), (2, .int y)]) (fun (i : Nat) (ui4 : Int32) (ui5 : Int32) => i ≤ wy.toInt.toNat) (fun (i : Nat) (ui4 : Int32) (ui5 : Int32) => wy.toInt.toNat - i) ?_ 0 (-1) 0 (show 0 ≤ wy.toInt.toNat from by omega) G (lv_sub hl [0, 1, 2, 3, 4, 5, 6] rfl)
  intro i ui4 ui5 hi ih_14 H locs ls G hl
  replace hi : i ≤ wy.toInt.toNat := hi
  replace G : zS T A s.heap s [[zO0 h md wy la pc_ a1_2 a2_3 a3_4 a4_5 a5_6 a6_7, zAr T 0 a1_2 7 f1, zAr T 0 a2_3 7 f2, zAr T 0 a3_4 7 f3, zAr T 0 a4_5 n4 f4, zAr T 0 a5_6 n4 f5, zAr T 0 a6_7 n4 f6], z] _ _ := G
  replace hl : lv_has ls 9 [(6, .int (nI i)), (5, .int ui5), (4, .int ui4), (3, .int r_1), (0, .ref h), (1, .int x), (2, .int y)] := hl
  refine lv_iload hx hb dX0_nearestWay_14 (lv_at hl 0 rfl) ?_
  refine lv_aload_n hx hb dX0_nearestWay_16 rfl (lv_at hl 4 rfl) ?_
  have G : zS T A s.heap s [[zO0 h md wy la pc_ a1_2 a2_3 a3_4 a4_5 a5_6 a6_7], [zAr T 0 a1_2 7 f1], [zAr T 0 a2_3 7 f2], [zAr T 0 a3_4 7 f3], [zAr T 0 a4_5 n4 f4], [zAr T 0 a5_6 n4 f5], [zAr T 0 a6_7 n4 f6], z] _ _ := G.re rfl
  refine z_get C G clX0 0 rfl 1 (by decide) m_fl_RX0_57 rfl dX0_nearestWay_17 ?_
  refine lv_icmp_ge (tgt := 83) hx hb dX0_nearestWay_20 (by decide) (fun c_9 => ?_) (fun c_9 => ?_)
  · have c_9n : wy.toInt ≤ (i : Int) := by have q := (fa_le _ _).mp c_9; rw [nI_toInt (n := i) (by omega)] at q; exact q
    refine lv_iload hx hb dX0_nearestWay_83 (lv_at hl 2 rfl) ?_
    have hw_10 : bWays T h la md wy pc_ f1 f2 f3 f4 f5 f6 n4 [zO0 h md wy la pc_ a1_2 a2_3 a3_4 a4_5 a5_6 a6_7, zAr T 0 a1_2 7 f1, zAr T 0 a2_3 7 f2, zAr T 0 a3_4 7 f3, zAr T 0 a4_5 n4 f4, zAr T 0 a5_6 n4 f5, zAr T 0 a6_7 n4 f6] := ⟨a1_2, a2_3, a3_4, a4_5, a5_6, a6_7, rfl⟩
    have G : zS T A s.heap s [[zO0 h md wy la pc_ a1_2 a2_3 a3_4 a4_5 a5_6 a6_7, zAr T 0 a1_2 7 f1, zAr T 0 a2_3 7 f2, zAr T 0 a3_4 7 f3, zAr T 0 a4_5 n4 f4, zAr T 0 a5_6 n4 f5, zAr T 0 a6_7 n4 f6], z] _ _ := G.re rfl
    exact z_back hQz_ (z_iret C hr hlocks G (Nat.le_of_ble_eq_true rfl) (Nat.le_of_ble_eq_true rfl) dX0_nearestWay_85 rfl)
  · have c_9n : ¬ wy.toInt ≤ (i : Int) := fun q => c_9 ((fa_le _ _).mpr (by rw [nI_toInt (n := i) (by omega)]; exact q))
    refine lv_aload_n hx hb dX0_nearestWay_23 rfl (lv_at hl 4 rfl) ?_
    refine lv_iload hx hb dX0_nearestWay_24 (lv_at hl 0 rfl) ?_
    refine lv_iload_n hx hb dX0_nearestWay_26 rfl (lv_at hl 5 rfl) ?_
    have hw_11 : bWays T h la md wy pc_ f1 f2 f3 f4 f5 f6 n4 [zO0 h md wy la pc_ a1_2 a2_3 a3_4 a4_5 a5_6 a6_7, zAr T 0 a1_2 7 f1, zAr T 0 a2_3 7 f2, zAr T 0 a3_4 7 f3, zAr T 0 a4_5 n4 f4, zAr T 0 a5_6 n4 f5, zAr T 0 a6_7 n4 f6] := ⟨a1_2, a2_3, a3_4, a4_5, a5_6, a6_7, rfl⟩
    have G : zS T A s.heap s [[zO0 h md wy la pc_ a1_2 a2_3 a3_4 a4_5 a5_6 a6_7, zAr T 0 a1_2 7 f1, zAr T 0 a2_3 7 f2, zAr T 0 a3_4 7 f3, zAr T 0 a4_5 n4 f4, zAr T 0 a5_6 n4 f5, zAr T 0 a6_7 n4 f6], z] _ _ := G.re rfl
    refine z_Vi (bc := [[zO0 h md wy la pc_ a1_2 a2_3 a3_4 a4_5 a5_6 a6_7, zAr T 0 a1_2 7 f1, zAr T 0 a2_3 7 f2, zAr T 0 a3_4 7 f3, zAr T 0 a4_5 n4 f4, zAr T 0 a5_6 n4 f5, zAr T 0 a6_7 n4 f6]]) (br := [z]) (As := [.int (nI i), .int x]) (rest := []) C G (c_where l T h la md wy pc_ f1 f2 f3 f4 f5 f6 n4 ([zO0 h md wy la pc_ a1_2 a2_3 a3_4 a4_5 a5_6 a6_7, zAr T 0 a1_2 7 f1, zAr T 0 a2_3 7 f2, zAr T 0 a3_4 7 f3, zAr T 0 a4_5 n4 f4, zAr T 0 a5_6 n4 f5, zAr T 0 a6_7 n4 f6]) (nI i) x hw_11 (by first | with_reducible assumption | with_reducible rfl | omega | assumption | rfl)) (kV_RX0_94 C.2.2.2.2 (Nat.le_of_ble_eq_true rfl) (Nat.le_of_ble_eq_true rfl)) [0] [0] rfl rfl (ci := 0) (qc := (RX0, TX0, 10)) rfl rfl (List.mem_flatten.mpr ⟨_, List.mem_of_getElem? (i := 0) rfl, (bWays_mem hw_11).choose_spec⟩) rfl rfl hl.1 dX0_nearestWay_27 (Nat.le_of_ble_eq_true rfl) (Nat.le_of_ble_eq_true rfl) (fun r_13 b1 H locs hw G => ?_)
    refine zAn2 hw ?_
    intro hbs9 h_12
    clear hw
    subst hbs9
    have G : zS T A s.heap s [z, [zO0 h md wy la pc_ a1_2 a2_3 a3_4 a4_5 a5_6 a6_7, zAr T 0 a1_2 7 f1, zAr T 0 a2_3 7 f2, zAr T 0 a3_4 7 f3, zAr T 0 a4_5 n4 f4, zAr T 0 a5_6 n4 f5, zAr T 0 a6_7 n4 f6]] _ _ := G
    subst h_12
    refine lv_iload_n hx hb dX0_nearestWay_30 rfl (lv_at hl 6 rfl) ?_
    refine lv_icmp_ne (tgt := 77) hx hb dX0_nearestWay_31 (by decide) (fun c_14 => ?_) (fun c_14 => ?_)
    · have c_14n : ¬ (zEntry f5 n4 (nI i) x &&& 7).toInt = y.toInt := fun q => c_14 ((fa_eq _ _).mpr q)
      refine lv_iinc (v := nI (i + 1)) (lv' := [(6, .int (nI (i + 1))), (5, .int ui5), (4, .int ui4), (3, .int r_1), (0, .ref h), (1, .int x), (2, .int y)]) hx hb dX0_nearestWay_77 hl (k := 0) rfl (z_inc i 1) (by decide) (zLvf_h rfl) (fun ls hl => ?_)
      refine lv_goto (tgt := 14) hx hb dX0_nearestWay_80 (by decide) ?_
      have G := G.sub (bs' := [[zO0 h md wy la pc_ a1_2 a2_3 a3_4 a4_5 a5_6 a6_7, zAr T 0 a1_2 7 f1, zAr T 0 a2_3 7 f2, zAr T 0 a3_4 7 f3, zAr T 0 a4_5 n4 f4, zAr T 0 a5_6 n4 f5, zAr T 0 a6_7 n4 f6], z]) [1, 0] rfl
      exact ih_14 (i + 1) ui4 ui5 (show (i + 1) ≤ wy.toInt.toNat from by omega) (show wy.toInt.toNat - (i + 1) < wy.toInt.toNat - i from by omega) _ _ ls G (lv_sub hl [0, 1, 2, 3, 4, 5, 6] rfl)
    · have c_14n : (zEntry f5 n4 (nI i) x &&& 7).toInt = y.toInt := (fa_eq _ _).mp c_14
      refine lv_aload_n hx hb dX0_nearestWay_34 rfl (lv_at hl 4 rfl) ?_
      refine lv_iload hx hb dX0_nearestWay_35 (lv_at hl 0 rfl) ?_
      refine lv_iload_n hx hb dX0_nearestWay_37 rfl (lv_at hl 3 rfl) ?_
      refine z_Vi (bc := [[zO0 h md wy la pc_ a1_2 a2_3 a3_4 a4_5 a5_6 a6_7, zAr T 0 a1_2 7 f1, zAr T 0 a2_3 7 f2, zAr T 0 a3_4 7 f3, zAr T 0 a4_5 n4 f4, zAr T 0 a5_6 n4 f5, zAr T 0 a6_7 n4 f6], z]) (br := []) (As := [.int (nI i), .int r_1]) (rest := []) C G (c_unlike l T h la md wy pc_ f1 f2 f3 f4 f5 f6 n4 ([zO0 h md wy la pc_ a1_2 a2_3 a3_4 a4_5 a5_6 a6_7, zAr T 0 a1_2 7 f1, zAr T 0 a2_3 7 f2, zAr T 0 a3_4 7 f3, zAr T 0 a4_5 n4 f4, zAr T 0 a5_6 n4 f5, zAr T 0 a6_7 n4 f6]) cr inn k1 k2 k3 k4 z (nI i) r_1 hw_11 hz (by first | with_reducible assumption | with_reducible rfl | omega | assumption | rfl)) (kV_RX0_114 C.2.2.2.2 (Nat.le_of_ble_eq_true rfl) (Nat.le_of_ble_eq_true rfl)) [1, 0] [0, 0] rfl rfl (ci := 0) (qc := (RX0, TX0, 10)) rfl rfl (List.mem_flatten.mpr ⟨_, List.mem_of_getElem? (i := 0) rfl, (bWays_mem hw_11).choose_spec⟩) rfl rfl hl.1 dX0_nearestWay_38 (Nat.le_of_ble_eq_true rfl) (Nat.le_of_ble_eq_true rfl) (fun r_15 b1 H locs hw G => ?_)
      obtain rfl := hw
      have G : zS T A s.heap s [[zO0 h md wy la pc_ a1_2 a2_3 a3_4 a4_5 a5_6 a6_7, zAr T 0 a1_2 7 f1, zAr T 0 a2_3 7 f2, zAr T 0 a3_4 7 f3, zAr T 0 a4_5 n4 f4, zAr T 0 a5_6 n4 f5, zAr T 0 a6_7 n4 f6], z] _ _ := G
      refine lv_istore (lv' := [(7, .int r_15), (6, .int (nI i)), (5, .int ui5), (4, .int ui4), (3, .int r_1), (0, .ref h), (1, .int x), (2, .int y)]) hx hb dX0_nearestWay_41 hl (by decide) (zLvf_h rfl) (fun ls hl => ?_)
      refine lv_iload hx hb dX0_nearestWay_43 (lv_at hl 0 rfl) ?_
      refine z_Si (bc := []) (br := [[zO0 h md wy la pc_ a1_2 a2_3 a3_4 a4_5 a5_6 a6_7, zAr T 0 a1_2 7 f1, zAr T 0 a2_3 7 f2, zAr T 0 a3_4 7 f3, zAr T 0 a4_5 n4 f4, zAr T 0 a5_6 n4 f5, zAr T 0 a6_7 n4 f6], z]) (As := [.int r_15]) (rest := []) C G (c_bitCount l T r_15) (kS_RX0_117 C.2.2.2.2 (Nat.le_of_ble_eq_true rfl) (Nat.le_of_ble_eq_true rfl)) [] [] rfl rfl rfl rfl hl.1 dX0_nearestWay_45 (Nat.le_of_ble_eq_true rfl) (Nat.le_of_ble_eq_true rfl) (fun r_16 b1 H locs hw G => ?_)
      obtain rfl := hw
      have G : zS T A s.heap s [[zO0 h md wy la pc_ a1_2 a2_3 a3_4 a4_5 a5_6 a6_7, zAr T 0 a1_2 7 f1, zAr T 0 a2_3 7 f2, zAr T 0 a3_4 7 f3, zAr T 0 a4_5 n4 f4, zAr T 0 a5_6 n4 f5, zAr T 0 a6_7 n4 f6], z] _ _ := G
      refine lv_bipush (v := 7) hx hb dX0_nearestWay_48 (by decide) ?_
      refine lv_ishl hx hb dX0_nearestWay_50 ?_
      refine lv_iload hx hb dX0_nearestWay_51 (lv_at hl 0 rfl) ?_
      refine lv_iadd hx hb dX0_nearestWay_53 ?_
      refine lv_istore (lv' := [(8, .int ((r_16 <<< (7 &&& 31)) + r_15)), (7, .int r_15), (6, .int (nI i)), (5, .int ui5), (4, .int ui4), (3, .int r_1), (0, .ref h), (1, .int x), (2, .int y)]) hx hb dX0_nearestWay_54 hl (by decide) (zLvf_h rfl) (fun ls hl => ?_)
      refine lv_iload hx hb dX0_nearestWay_56 (lv_at hl 4 rfl) ?_
      refine lv_iconst (v := (-1)) hx hb dX0_nearestWay_58 (by decide) ?_
      refine lv_icmp_eq (tgt := 69) hx hb dX0_nearestWay_59 (by decide) (fun c_17 => ?_) (fun c_17 => ?_)
      · have c_17n : ui4.toInt = (-1 : Int) := (fa_eq _ _).mp c_17
        refine lv_iload hx hb dX0_nearestWay_69 (lv_at hl 2 rfl) ?_
        refine lv_istore (lv' := [(4, .int (nI i)), (8, .int ((r_16 <<< (7 &&& 31)) + r_15)), (7, .int r_15), (6, .int (nI i)), (5, .int ui5), (3, .int r_1), (0, .ref h), (1, .int x), (2, .int y)]) hx hb dX0_nearestWay_71 hl (by decide) (zLvf_h rfl) (fun ls hl => ?_)
        refine lv_iload hx hb dX0_nearestWay_73 (lv_at hl 1 rfl) ?_
        refine lv_istore (lv' := [(5, .int ((r_16 <<< (7 &&& 31)) + r_15)), (4, .int (nI i)), (8, .int ((r_16 <<< (7 &&& 31)) + r_15)), (7, .int r_15), (6, .int (nI i)), (3, .int r_1), (0, .ref h), (1, .int x), (2, .int y)]) hx hb dX0_nearestWay_75 hl (by decide) (zLvf_h rfl) (fun ls hl => ?_)
        refine lv_iinc (v := nI (i + 1)) (lv' := [(6, .int (nI (i + 1))), (5, .int ((r_16 <<< (7 &&& 31)) + r_15)), (4, .int (nI i)), (8, .int ((r_16 <<< (7 &&& 31)) + r_15)), (7, .int r_15), (3, .int r_1), (0, .ref h), (1, .int x), (2, .int y)]) hx hb dX0_nearestWay_77 hl (k := 4) rfl (z_inc i 1) (by decide) (zLvf_h rfl) (fun ls hl => ?_)
        refine lv_goto (tgt := 14) hx hb dX0_nearestWay_80 (by decide) ?_
        exact ih_14 (i + 1) (nI i) ((r_16 <<< (7 &&& 31)) + r_15) (show (i + 1) ≤ wy.toInt.toNat from by omega) (show wy.toInt.toNat - (i + 1) < wy.toInt.toNat - i from by omega) _ _ ls G (lv_sub hl [0, 1, 2, 5, 6, 7, 8] rfl)
      · have c_17n : ¬ ui4.toInt = (-1 : Int) := fun q => c_17 ((fa_eq _ _).mpr q)
        refine lv_iload hx hb dX0_nearestWay_62 (lv_at hl 0 rfl) ?_
        refine lv_iload hx hb dX0_nearestWay_64 (lv_at hl 3 rfl) ?_
        refine lv_icmp_ge (tgt := 77) hx hb dX0_nearestWay_66 (by decide) (fun c_18 => ?_) (fun c_18 => ?_)
        · have c_18n : ui5.toInt ≤ ((r_16 <<< (7 &&& 31)) + r_15).toInt := (fa_le _ _).mp c_18
          refine lv_iinc (v := nI (i + 1)) (lv' := [(6, .int (nI (i + 1))), (8, .int ((r_16 <<< (7 &&& 31)) + r_15)), (7, .int r_15), (5, .int ui5), (4, .int ui4), (3, .int r_1), (0, .ref h), (1, .int x), (2, .int y)]) hx hb dX0_nearestWay_77 hl (k := 2) rfl (z_inc i 1) (by decide) (zLvf_h rfl) (fun ls hl => ?_)
          refine lv_goto (tgt := 14) hx hb dX0_nearestWay_80 (by decide) ?_
          exact ih_14 (i + 1) ui4 ui5 (show (i + 1) ≤ wy.toInt.toNat from by omega) (show wy.toInt.toNat - (i + 1) < wy.toInt.toNat - i from by omega) _ _ ls G (lv_sub hl [0, 3, 4, 5, 6, 7, 8] rfl)
        · have c_18n : ¬ ui5.toInt ≤ ((r_16 <<< (7 &&& 31)) + r_15).toInt := fun q => c_18 ((fa_le _ _).mpr q)
          refine lv_iload hx hb dX0_nearestWay_69 (lv_at hl 2 rfl) ?_
          refine lv_istore (lv' := [(4, .int (nI i)), (8, .int ((r_16 <<< (7 &&& 31)) + r_15)), (7, .int r_15), (6, .int (nI i)), (5, .int ui5), (3, .int r_1), (0, .ref h), (1, .int x), (2, .int y)]) hx hb dX0_nearestWay_71 hl (by decide) (zLvf_h rfl) (fun ls hl => ?_)
          refine lv_iload hx hb dX0_nearestWay_73 (lv_at hl 1 rfl) ?_
          refine lv_istore (lv' := [(5, .int ((r_16 <<< (7 &&& 31)) + r_15)), (4, .int (nI i)), (8, .int ((r_16 <<< (7 &&& 31)) + r_15)), (7, .int r_15), (6, .int (nI i)), (3, .int r_1), (0, .ref h), (1, .int x), (2, .int y)]) hx hb dX0_nearestWay_75 hl (by decide) (zLvf_h rfl) (fun ls hl => ?_)
          refine lv_iinc (v := nI (i + 1)) (lv' := [(6, .int (nI (i + 1))), (5, .int ((r_16 <<< (7 &&& 31)) + r_15)), (4, .int (nI i)), (8, .int ((r_16 <<< (7 &&& 31)) + r_15)), (7, .int r_15), (3, .int r_1), (0, .ref h), (1, .int x), (2, .int y)]) hx hb dX0_nearestWay_77 hl (k := 4) rfl (z_inc i 1) (by decide) (zLvf_h rfl) (fun ls hl => ?_)
          refine lv_goto (tgt := 14) hx hb dX0_nearestWay_80 (by decide) ?_
          exact ih_14 (i + 1) (nI i) ((r_16 <<< (7 &&& 31)) + r_15) (show (i + 1) ≤ wy.toInt.toNat from by omega) (show wy.toInt.toNat - (i + 1) < wy.toInt.toNat - i from by omega) _ _ ls G (lv_sub hl [0, 1, 2, 5, 6, 7, 8] rfl)
set_option maxHeartbeats 4000000 in
set_option maxRecDepth 100000 in
/-- c_comesByRow -/
theorem c_comesByRow (l : Launch) (T : zTy) (h : Nat) (la : Nat) (md : Int32) (wy : Int32) (pc_ : Int32) (f1 : Nat → Int32) (f2 : Nat → Int32) (f3 : Nat → Int32) (f4 : Nat → Int32) (f5 : Nat → Int32) (f6 : Nat → Int32) (n4 : Nat) (ww : va_W) (cr : Int32) (inn : Int32) (k1 : Nat → Int32) (k2 : Nat → Int32) (k3 : Nat → Int32) (k4 : Nat → Int32) (z : va_W) (x : Int32) (hww : bWays T h la md wy pc_ f1 f2 f3 f4 f5 f6 n4 ww) (hz : bLand T la cr inn k1 k2 k3 k4 z) (hI : zLI cr k1 k3) : zMi l T yX0_comesByRow cX0_comesByRow 4 (some .boolean) 3 0 0 [.ref h, .int x] [ww, z] (fun (r : Int32) bs => bs = [ww, z] ∧ (r = 0 ∨ r = 1)) := by
  refine zMi_of (own := RX0) (by decide) rfl (Nat.le_of_ble_eq_true rfl) ?_
  intro p e s m args below meth c A ls C hr hlocks hnm hAe G hl
  refine zHide (fun Qz_ hQz_ => ?_)
  have hx := C.1
  have hb := C.2.1
  have hl : lv_has ls 4 [(0, .ref h), (1, .int x)] := hl
  have hcr := hI.1
  refine lv_iload_n hx hb dX0_comesByRow_0 rfl (lv_at hl 1 rfl) ?_
  refine lv_istore_n (lv' := [(2, .int x), (0, .ref h), (1, .int x)]) hx hb dX0_comesByRow_1 rfl hl (by decide) (zLvf_h rfl) (fun ls hl => ?_)
  refine lv_iconst (v := 0) hx hb dX0_comesByRow_2 (by decide) ?_
  refine lv_istore_n (lv' := [(3, .int 0), (2, .int x), (0, .ref h), (1, .int x)]) hx hb dX0_comesByRow_3 rfl hl (by decide) (zLvf_h rfl) (fun ls hl => ?_)
  refine zEx6 hww ?_
  intro a1_1 a2_2 a3_3 a4_4 a5_5 a6_6 hbs9
  clear hww
  subst hbs9
  have G : zS T A s.heap s [[zO0 h md wy la pc_ a1_1 a2_2 a3_3 a4_4 a5_5 a6_6], [zAr T 0 a1_1 7 f1], [zAr T 0 a2_2 7 f2], [zAr T 0 a3_3 7 f3], [zAr T 0 a4_4 n4 f4], [zAr T 0 a5_5 n4 f5], [zAr T 0 a6_6 n4 f6], z] _ _ := G.re rfl
  refine zEx4 hz ?_
  intro a1_7 a2_8 a3_9 a4_10 hbs9
  clear hz
  subst hbs9
  have G : zS T A s.heap s [[zO0 h md wy la pc_ a1_1 a2_2 a3_3 a4_4 a5_5 a6_6], [zAr T 0 a1_1 7 f1], [zAr T 0 a2_2 7 f2], [zAr T 0 a3_3 7 f3], [zAr T 0 a4_4 n4 f4], [zAr T 0 a5_5 n4 f5], [zAr T 0 a6_6 n4 f6], [zO4 la cr inn a1_7 a2_8 a3_9 a4_10], [zAr T 0 a1_7 7 k1], [zAr T 0 a2_8 28 k2], [zAr T 0 a3_9 7 k3], [zAr T 0 a4_10 7 k4]] _ _ := G.re rfl
  have hw_11 : bWays T h la md wy pc_ f1 f2 f3 f4 f5 f6 n4 [zO0 h md wy la pc_ a1_1 a2_2 a3_3 a4_4 a5_5 a6_6, zAr T 0 a1_1 7 f1, zAr T 0 a2_2 7 f2, zAr T 0 a3_3 7 f3, zAr T 0 a4_4 n4 f4, zAr T 0 a5_5 n4 f5, zAr T 0 a6_6 n4 f6] := ⟨a1_1, a2_2, a3_3, a4_4, a5_5, a6_6, rfl⟩
  have G : zS T A s.heap s [[zO0 h md wy la pc_ a1_1 a2_2 a3_3 a4_4 a5_5 a6_6, zAr T 0 a1_1 7 f1, zAr T 0 a2_2 7 f2, zAr T 0 a3_3 7 f3, zAr T 0 a4_4 n4 f4, zAr T 0 a5_5 n4 f5, zAr T 0 a6_6 n4 f6], [zO4 la cr inn a1_7 a2_8 a3_9 a4_10], [zAr T 0 a1_7 7 k1], [zAr T 0 a2_8 28 k2], [zAr T 0 a3_9 7 k3], [zAr T 0 a4_10 7 k4]] _ _ := G.re rfl
  have hw_12 : bLand T la cr inn k1 k2 k3 k4 [zO4 la cr inn a1_7 a2_8 a3_9 a4_10, zAr T 0 a1_7 7 k1, zAr T 0 a2_8 28 k2, zAr T 0 a3_9 7 k3, zAr T 0 a4_10 7 k4] := ⟨a1_7, a2_8, a3_9, a4_10, rfl⟩
  have G : zS T A s.heap s [[zO0 h md wy la pc_ a1_1 a2_2 a3_3 a4_4 a5_5 a6_6, zAr T 0 a1_1 7 f1, zAr T 0 a2_2 7 f2, zAr T 0 a3_3 7 f3, zAr T 0 a4_4 n4 f4, zAr T 0 a5_5 n4 f5, zAr T 0 a6_6 n4 f6], [zO4 la cr inn a1_7 a2_8 a3_9 a4_10, zAr T 0 a1_7 7 k1, zAr T 0 a2_8 28 k2, zAr T 0 a3_9 7 k3, zAr T 0 a4_10 7 k4]] _ _ := G.re rfl
  refine z_lp2 (T := T) 4 (fun (i : Nat) (u2 : Int32) => [[zO0 h md wy la pc_ a1_1 a2_2 a3_3 a4_4 a5_5 a6_6, zAr T 0 a1_1 7 f1, zAr T 0 a2_2 7 f2, zAr T 0 a3_3 7 f3, zAr T 0 a4_4 n4 f4, zAr T 0 a5_5 n4 f5, zAr T 0 a6_6 n4 f6], [zO4 la cr inn a1_7 a2_8 a3_9 a4_10, zAr T 0 a1_7 7 k1, zAr T 0 a2_8 28 k2, zAr T 0 a3_9 7 k3, zAr T 0 a4_10 7 k4]]) (fun (i : Nat) (u2 : Int32) => [(3, .int (nI i)), (2, .int u2), (0, .ref h), (1, .int x)]) (fun (i : Nat) (u2 : Int32) => i ≤ cr.toInt.toNat) (fun (i : Nat) (u2 : Int32) => cr.toInt.toNat - i) ?_ 0 x (show 0 ≤ cr.toInt.toNat from by omega) G (lv_sub hl [0, 1, 2, 3] rfl)
  intro i u2 hi ih_4 H locs ls G hl
  replace hi : i ≤ cr.toInt.toNat := hi
  replace G : zS T A s.heap s [[zO0 h md wy la pc_ a1_1 a2_2 a3_3 a4_4 a5_5 a6_6, zAr T 0 a1_1 7 f1, zAr T 0 a2_2 7 f2, zAr T 0 a3_3 7 f3, zAr T 0 a4_4 n4 f4, zAr T 0 a5_5 n4 f5, zAr T 0 a6_6 n4 f6], [zO4 la cr inn a1_7 a2_8 a3_9 a4_10, zAr T 0 a1_7 7 k1, zAr T 0 a2_8 28 k2, zAr T 0 a3_9 7 k3, zAr T 0 a4_10 7 k4]] _ _ := G
  replace hl : lv_has ls 4 [(3, .int (nI i)), (2, .int u2), (0, .ref h), (1, .int x)] := hl
  refine lv_iload_n hx hb dX0_comesByRow_4 rfl (lv_at hl 0 rfl) ?_
  refine lv_aload_n hx hb dX0_comesByRow_5 rfl (lv_at hl 2 rfl) ?_
  have G : zS T A s.heap s [[zO0 h md wy la pc_ a1_1 a2_2 a3_3 a4_4 a5_5 a6_6], [zAr T 0 a1_1 7 f1], [zAr T 0 a2_2 7 f2], [zAr T 0 a3_3 7 f3], [zAr T 0 a4_4 n4 f4], [zAr T 0 a5_5 n4 f5], [zAr T 0 a6_6 n4 f6], [zO4 la cr inn a1_7 a2_8 a3_9 a4_10, zAr T 0 a1_7 7 k1, zAr T 0 a2_8 28 k2, zAr T 0 a3_9 7 k3, zAr T 0 a4_10 7 k4]] _ _ := G.re rfl
  refine z_get C G clX0 0 rfl 2 (by decide) m_fl_RX0_14 rfl dX0_comesByRow_6 ?_
  have G : zS T A s.heap s [[zO0 h md wy la pc_ a1_1 a2_2 a3_3 a4_4 a5_5 a6_6], [zAr T 0 a1_1 7 f1], [zAr T 0 a2_2 7 f2], [zAr T 0 a3_3 7 f3], [zAr T 0 a4_4 n4 f4], [zAr T 0 a5_5 n4 f5], [zAr T 0 a6_6 n4 f6], [zO4 la cr inn a1_7 a2_8 a3_9 a4_10], [zAr T 0 a1_7 7 k1], [zAr T 0 a2_8 28 k2], [zAr T 0 a3_9 7 k3], [zAr T 0 a4_10 7 k4]] _ _ := G.re rfl
  refine z_get C G clX4 7 rfl 0 (by decide) m_fl_RX0_107 rfl dX0_comesByRow_9 ?_
  refine lv_icmp_ge (tgt := 47) hx hb dX0_comesByRow_12 (by decide) (fun c_13 => ?_) (fun c_13 => ?_)
  · have c_13n : cr.toInt ≤ (i : Int) := by have q := (fa_le _ _).mp c_13; rw [nI_toInt (n := i) (by omega)] at q; exact q
    refine lv_aload_n hx hb dX0_comesByRow_47 rfl (lv_at hl 2 rfl) ?_
    refine z_get C G clX0 0 rfl 2 (by decide) m_fl_RX0_14 rfl dX0_comesByRow_48 ?_
    refine lv_iload_n hx hb dX0_comesByRow_51 rfl (lv_at hl 1 rfl) ?_
    have hw_14 : bLand T la cr inn k1 k2 k3 k4 [zO4 la cr inn a1_7 a2_8 a3_9 a4_10, zAr T 0 a1_7 7 k1, zAr T 0 a2_8 28 k2, zAr T 0 a3_9 7 k3, zAr T 0 a4_10 7 k4] := ⟨a1_7, a2_8, a3_9, a4_10, rfl⟩
    have G : zS T A s.heap s [[zO0 h md wy la pc_ a1_1 a2_2 a3_3 a4_4 a5_5 a6_6], [zAr T 0 a1_1 7 f1], [zAr T 0 a2_2 7 f2], [zAr T 0 a3_3 7 f3], [zAr T 0 a4_4 n4 f4], [zAr T 0 a5_5 n4 f5], [zAr T 0 a6_6 n4 f6], [zO4 la cr inn a1_7 a2_8 a3_9 a4_10, zAr T 0 a1_7 7 k1, zAr T 0 a2_8 28 k2, zAr T 0 a3_9 7 k3, zAr T 0 a4_10 7 k4]] _ _ := G.re rfl
    refine z_Vi (bc := [[zO4 la cr inn a1_7 a2_8 a3_9 a4_10, zAr T 0 a1_7 7 k1, zAr T 0 a2_8 28 k2, zAr T 0 a3_9 7 k3, zAr T 0 a4_10 7 k4]]) (br := [[zO0 h md wy la pc_ a1_1 a2_2 a3_3 a4_4 a5_5 a6_6], [zAr T 0 a1_1 7 f1], [zAr T 0 a2_2 7 f2], [zAr T 0 a3_3 7 f3], [zAr T 0 a4_4 n4 f4], [zAr T 0 a5_5 n4 f5], [zAr T 0 a6_6 n4 f6]]) (As := [.int u2]) (rest := []) C G (c_isInn l T la cr inn k1 k2 k3 k4 ([zO4 la cr inn a1_7 a2_8 a3_9 a4_10, zAr T 0 a1_7 7 k1, zAr T 0 a2_8 28 k2, zAr T 0 a3_9 7 k3, zAr T 0 a4_10 7 k4]) u2 hw_14) (kV_RX0_97 C.2.2.2.2 (Nat.le_of_ble_eq_true rfl) (Nat.le_of_ble_eq_true rfl)) [7] [7] rfl rfl (ci := 4) (qc := (RX4, TX4, 6)) rfl rfl (List.mem_flatten.mpr ⟨_, List.mem_of_getElem? (i := 0) rfl, (bLand_mem hw_14).choose_spec⟩) rfl rfl hl.1 dX0_comesByRow_52 (Nat.le_of_ble_eq_true rfl) (Nat.le_of_ble_eq_true rfl) (fun r_16 b1 H locs hw G => ?_)
    refine zAn2 hw ?_
    intro hbs9 hc_15
    clear hw
    subst hbs9
    have G : zS T A s.heap s [[zO0 h md wy la pc_ a1_1 a2_2 a3_3 a4_4 a5_5 a6_6], [zAr T 0 a1_1 7 f1], [zAr T 0 a2_2 7 f2], [zAr T 0 a3_3 7 f3], [zAr T 0 a4_4 n4 f4], [zAr T 0 a5_5 n4 f5], [zAr T 0 a6_6 n4 f6], [zO4 la cr inn a1_7 a2_8 a3_9 a4_10, zAr T 0 a1_7 7 k1, zAr T 0 a2_8 28 k2, zAr T 0 a3_9 7 k3, zAr T 0 a4_10 7 k4]] _ _ := G
    rcases hc_15 with ⟨rfl, h_17, h_18, h_19, h_20⟩ | ⟨rfl, h_21⟩
    · have h_17 : 0 ≤ u2.toInt := h_17
      have h_18 : u2.toInt < cr.toInt := h_18
      have h_19 : u2.toInt < 7 := h_19
      have h_20 : ¬ zBit inn u2 = 0 := h_20
      have hw_22 : bWays T h la md wy pc_ f1 f2 f3 f4 f5 f6 n4 [zO0 h md wy la pc_ a1_1 a2_2 a3_3 a4_4 a5_5 a6_6, zAr T 0 a1_1 7 f1, zAr T 0 a2_2 7 f2, zAr T 0 a3_3 7 f3, zAr T 0 a4_4 n4 f4, zAr T 0 a5_5 n4 f5, zAr T 0 a6_6 n4 f6] := ⟨a1_1, a2_2, a3_3, a4_4, a5_5, a6_6, rfl⟩
      have G : zS T A s.heap s [[zO0 h md wy la pc_ a1_1 a2_2 a3_3 a4_4 a5_5 a6_6, zAr T 0 a1_1 7 f1, zAr T 0 a2_2 7 f2, zAr T 0 a3_3 7 f3, zAr T 0 a4_4 n4 f4, zAr T 0 a5_5 n4 f5, zAr T 0 a6_6 n4 f6], [zO4 la cr inn a1_7 a2_8 a3_9 a4_10, zAr T 0 a1_7 7 k1, zAr T 0 a2_8 28 k2, zAr T 0 a3_9 7 k3, zAr T 0 a4_10 7 k4]] _ _ := G.re rfl
      exact z_back hQz_ (z_zret C hr hlocks G (Nat.le_of_ble_eq_true rfl) (Nat.le_of_ble_eq_true rfl) dX0_comesByRow_55 rfl ⟨rfl, (by first | exact Or.inl rfl | exact Or.inr rfl)⟩)
    · have h_21 : (u2.toInt < 0 ∨ cr.toInt ≤ u2.toInt ∨ 7 ≤ u2.toInt ∨ zBit inn u2 = 0) := h_21
      have hw_23 : bWays T h la md wy pc_ f1 f2 f3 f4 f5 f6 n4 [zO0 h md wy la pc_ a1_1 a2_2 a3_3 a4_4 a5_5 a6_6, zAr T 0 a1_1 7 f1, zAr T 0 a2_2 7 f2, zAr T 0 a3_3 7 f3, zAr T 0 a4_4 n4 f4, zAr T 0 a5_5 n4 f5, zAr T 0 a6_6 n4 f6] := ⟨a1_1, a2_2, a3_3, a4_4, a5_5, a6_6, rfl⟩
      have G : zS T A s.heap s [[zO0 h md wy la pc_ a1_1 a2_2 a3_3 a4_4 a5_5 a6_6, zAr T 0 a1_1 7 f1, zAr T 0 a2_2 7 f2, zAr T 0 a3_3 7 f3, zAr T 0 a4_4 n4 f4, zAr T 0 a5_5 n4 f5, zAr T 0 a6_6 n4 f6], [zO4 la cr inn a1_7 a2_8 a3_9 a4_10, zAr T 0 a1_7 7 k1, zAr T 0 a2_8 28 k2, zAr T 0 a3_9 7 k3, zAr T 0 a4_10 7 k4]] _ _ := G.re rfl
      exact z_back hQz_ (z_zret C hr hlocks G (Nat.le_of_ble_eq_true rfl) (Nat.le_of_ble_eq_true rfl) dX0_comesByRow_55 rfl ⟨rfl, (by first | exact Or.inl rfl | exact Or.inr rfl)⟩)
  · have c_13n : ¬ cr.toInt ≤ (i : Int) := fun q => c_13 ((fa_le _ _).mpr (by rw [nI_toInt (n := i) (by omega)]; exact q))
    refine lv_aload_n hx hb dX0_comesByRow_15 rfl (lv_at hl 2 rfl) ?_
    refine z_get C G clX0 0 rfl 2 (by decide) m_fl_RX0_14 rfl dX0_comesByRow_16 ?_
    refine lv_iload_n hx hb dX0_comesByRow_19 rfl (lv_at hl 1 rfl) ?_
    have hw_24 : bLand T la cr inn k1 k2 k3 k4 [zO4 la cr inn a1_7 a2_8 a3_9 a4_10, zAr T 0 a1_7 7 k1, zAr T 0 a2_8 28 k2, zAr T 0 a3_9 7 k3, zAr T 0 a4_10 7 k4] := ⟨a1_7, a2_8, a3_9, a4_10, rfl⟩
    have G : zS T A s.heap s [[zO0 h md wy la pc_ a1_1 a2_2 a3_3 a4_4 a5_5 a6_6], [zAr T 0 a1_1 7 f1], [zAr T 0 a2_2 7 f2], [zAr T 0 a3_3 7 f3], [zAr T 0 a4_4 n4 f4], [zAr T 0 a5_5 n4 f5], [zAr T 0 a6_6 n4 f6], [zO4 la cr inn a1_7 a2_8 a3_9 a4_10, zAr T 0 a1_7 7 k1, zAr T 0 a2_8 28 k2, zAr T 0 a3_9 7 k3, zAr T 0 a4_10 7 k4]] _ _ := G.re rfl
    refine z_Vi (bc := [[zO4 la cr inn a1_7 a2_8 a3_9 a4_10, zAr T 0 a1_7 7 k1, zAr T 0 a2_8 28 k2, zAr T 0 a3_9 7 k3, zAr T 0 a4_10 7 k4]]) (br := [[zO0 h md wy la pc_ a1_1 a2_2 a3_3 a4_4 a5_5 a6_6], [zAr T 0 a1_1 7 f1], [zAr T 0 a2_2 7 f2], [zAr T 0 a3_3 7 f3], [zAr T 0 a4_4 n4 f4], [zAr T 0 a5_5 n4 f5], [zAr T 0 a6_6 n4 f6]]) (As := [.int u2]) (rest := []) C G (c_waysOut l T la cr inn k1 k2 k3 k4 ([zO4 la cr inn a1_7 a2_8 a3_9 a4_10, zAr T 0 a1_7 7 k1, zAr T 0 a2_8 28 k2, zAr T 0 a3_9 7 k3, zAr T 0 a4_10 7 k4]) u2 hw_24) (kV_RX0_61 C.2.2.2.2 (Nat.le_of_ble_eq_true rfl) (Nat.le_of_ble_eq_true rfl)) [7] [7] rfl rfl (ci := 4) (qc := (RX4, TX4, 6)) rfl rfl (List.mem_flatten.mpr ⟨_, List.mem_of_getElem? (i := 0) rfl, (bLand_mem hw_24).choose_spec⟩) rfl rfl hl.1 dX0_comesByRow_20 (Nat.le_of_ble_eq_true rfl) (Nat.le_of_ble_eq_true rfl) (fun r_26 b1 H locs hw G => ?_)
    refine zAn2 hw ?_
    intro hbs9 h_25
    clear hw
    subst hbs9
    have G : zS T A s.heap s [[zO0 h md wy la pc_ a1_1 a2_2 a3_3 a4_4 a5_5 a6_6], [zAr T 0 a1_1 7 f1], [zAr T 0 a2_2 7 f2], [zAr T 0 a3_3 7 f3], [zAr T 0 a4_4 n4 f4], [zAr T 0 a5_5 n4 f5], [zAr T 0 a6_6 n4 f6], [zO4 la cr inn a1_7 a2_8 a3_9 a4_10, zAr T 0 a1_7 7 k1, zAr T 0 a2_8 28 k2, zAr T 0 a3_9 7 k3, zAr T 0 a4_10 7 k4]] _ _ := G
    subst h_25
    refine lv_if_le (tgt := 47) hx hb dX0_comesByRow_23 (by decide) (fun c_27 => ?_) (fun c_27 => ?_)
    · have c_27n : (zWays cr inn k1 u2).toInt ≤ (0 : Int) := (fa_le _ _).mp c_27
      refine lv_aload_n hx hb dX0_comesByRow_47 rfl (lv_at hl 2 rfl) ?_
      refine z_get C G clX0 0 rfl 2 (by decide) m_fl_RX0_14 rfl dX0_comesByRow_48 ?_
      refine lv_iload_n hx hb dX0_comesByRow_51 rfl (lv_at hl 1 rfl) ?_
      refine z_Vi (bc := [[zO4 la cr inn a1_7 a2_8 a3_9 a4_10, zAr T 0 a1_7 7 k1, zAr T 0 a2_8 28 k2, zAr T 0 a3_9 7 k3, zAr T 0 a4_10 7 k4]]) (br := [[zO0 h md wy la pc_ a1_1 a2_2 a3_3 a4_4 a5_5 a6_6], [zAr T 0 a1_1 7 f1], [zAr T 0 a2_2 7 f2], [zAr T 0 a3_3 7 f3], [zAr T 0 a4_4 n4 f4], [zAr T 0 a5_5 n4 f5], [zAr T 0 a6_6 n4 f6]]) (As := [.int u2]) (rest := []) C G (c_isInn l T la cr inn k1 k2 k3 k4 ([zO4 la cr inn a1_7 a2_8 a3_9 a4_10, zAr T 0 a1_7 7 k1, zAr T 0 a2_8 28 k2, zAr T 0 a3_9 7 k3, zAr T 0 a4_10 7 k4]) u2 hw_24) (kV_RX0_97 C.2.2.2.2 (Nat.le_of_ble_eq_true rfl) (Nat.le_of_ble_eq_true rfl)) [7] [7] rfl rfl (ci := 4) (qc := (RX4, TX4, 6)) rfl rfl (List.mem_flatten.mpr ⟨_, List.mem_of_getElem? (i := 0) rfl, (bLand_mem hw_24).choose_spec⟩) rfl rfl hl.1 dX0_comesByRow_52 (Nat.le_of_ble_eq_true rfl) (Nat.le_of_ble_eq_true rfl) (fun r_29 b1 H locs hw G => ?_)
      refine zAn2 hw ?_
      intro hbs9 hc_28
      clear hw
      subst hbs9
      have G : zS T A s.heap s [[zO0 h md wy la pc_ a1_1 a2_2 a3_3 a4_4 a5_5 a6_6], [zAr T 0 a1_1 7 f1], [zAr T 0 a2_2 7 f2], [zAr T 0 a3_3 7 f3], [zAr T 0 a4_4 n4 f4], [zAr T 0 a5_5 n4 f5], [zAr T 0 a6_6 n4 f6], [zO4 la cr inn a1_7 a2_8 a3_9 a4_10, zAr T 0 a1_7 7 k1, zAr T 0 a2_8 28 k2, zAr T 0 a3_9 7 k3, zAr T 0 a4_10 7 k4]] _ _ := G
      rcases hc_28 with ⟨rfl, h_30, h_31, h_32, h_33⟩ | ⟨rfl, h_34⟩
      · have h_30 : 0 ≤ u2.toInt := h_30
        have h_31 : u2.toInt < cr.toInt := h_31
        have h_32 : u2.toInt < 7 := h_32
        have h_33 : ¬ zBit inn u2 = 0 := h_33
        have hw_35 : bWays T h la md wy pc_ f1 f2 f3 f4 f5 f6 n4 [zO0 h md wy la pc_ a1_1 a2_2 a3_3 a4_4 a5_5 a6_6, zAr T 0 a1_1 7 f1, zAr T 0 a2_2 7 f2, zAr T 0 a3_3 7 f3, zAr T 0 a4_4 n4 f4, zAr T 0 a5_5 n4 f5, zAr T 0 a6_6 n4 f6] := ⟨a1_1, a2_2, a3_3, a4_4, a5_5, a6_6, rfl⟩
        have G : zS T A s.heap s [[zO0 h md wy la pc_ a1_1 a2_2 a3_3 a4_4 a5_5 a6_6, zAr T 0 a1_1 7 f1, zAr T 0 a2_2 7 f2, zAr T 0 a3_3 7 f3, zAr T 0 a4_4 n4 f4, zAr T 0 a5_5 n4 f5, zAr T 0 a6_6 n4 f6], [zO4 la cr inn a1_7 a2_8 a3_9 a4_10, zAr T 0 a1_7 7 k1, zAr T 0 a2_8 28 k2, zAr T 0 a3_9 7 k3, zAr T 0 a4_10 7 k4]] _ _ := G.re rfl
        exact z_back hQz_ (z_zret C hr hlocks G (Nat.le_of_ble_eq_true rfl) (Nat.le_of_ble_eq_true rfl) dX0_comesByRow_55 rfl ⟨rfl, (by first | exact Or.inl rfl | exact Or.inr rfl)⟩)
      · have h_34 : (u2.toInt < 0 ∨ cr.toInt ≤ u2.toInt ∨ 7 ≤ u2.toInt ∨ zBit inn u2 = 0) := h_34
        have hw_36 : bWays T h la md wy pc_ f1 f2 f3 f4 f5 f6 n4 [zO0 h md wy la pc_ a1_1 a2_2 a3_3 a4_4 a5_5 a6_6, zAr T 0 a1_1 7 f1, zAr T 0 a2_2 7 f2, zAr T 0 a3_3 7 f3, zAr T 0 a4_4 n4 f4, zAr T 0 a5_5 n4 f5, zAr T 0 a6_6 n4 f6] := ⟨a1_1, a2_2, a3_3, a4_4, a5_5, a6_6, rfl⟩
        have G : zS T A s.heap s [[zO0 h md wy la pc_ a1_1 a2_2 a3_3 a4_4 a5_5 a6_6, zAr T 0 a1_1 7 f1, zAr T 0 a2_2 7 f2, zAr T 0 a3_3 7 f3, zAr T 0 a4_4 n4 f4, zAr T 0 a5_5 n4 f5, zAr T 0 a6_6 n4 f6], [zO4 la cr inn a1_7 a2_8 a3_9 a4_10, zAr T 0 a1_7 7 k1, zAr T 0 a2_8 28 k2, zAr T 0 a3_9 7 k3, zAr T 0 a4_10 7 k4]] _ _ := G.re rfl
        exact z_back hQz_ (z_zret C hr hlocks G (Nat.le_of_ble_eq_true rfl) (Nat.le_of_ble_eq_true rfl) dX0_comesByRow_55 rfl ⟨rfl, (by first | exact Or.inl rfl | exact Or.inr rfl)⟩)
    · have c_27n : ¬ (zWays cr inn k1 u2).toInt ≤ (0 : Int) := fun q => c_27 ((fa_le _ _).mpr q)
      have hwi := zWays_in (cr := cr) (inn := inn) (f1 := k1) (x := u2) (fun q => absurd (congrArg Int32.toInt q) (by show ¬ _ = (0 : Int); omega))
      refine lv_aload_n hx hb dX0_comesByRow_26 rfl (lv_at hl 2 rfl) ?_
      refine z_get C G clX0 0 rfl 2 (by decide) m_fl_RX0_14 rfl dX0_comesByRow_27 ?_
      refine lv_iload_n hx hb dX0_comesByRow_30 rfl (lv_at hl 1 rfl) ?_
      refine lv_aload_n hx hb dX0_comesByRow_31 rfl (lv_at hl 2 rfl) ?_
      refine z_get C G clX0 0 rfl 6 (by decide) m_fl_RX0_25 rfl dX0_comesByRow_32 ?_
      refine lv_iload_n hx hb dX0_comesByRow_35 rfl (lv_at hl 1 rfl) ?_
      refine z_ild C G 3 rfl (vp_in_iff.mpr ⟨hwi.1, hwi.2.2.1⟩) dX0_comesByRow_36 ?_
      refine lv_topi (fun v_37 ev_37 => ?_)
      subst ev_37
      refine z_Vi (bc := [[zO4 la cr inn a1_7 a2_8 a3_9 a4_10, zAr T 0 a1_7 7 k1, zAr T 0 a2_8 28 k2, zAr T 0 a3_9 7 k3, zAr T 0 a4_10 7 k4]]) (br := [[zO0 h md wy la pc_ a1_1 a2_2 a3_3 a4_4 a5_5 a6_6], [zAr T 0 a1_1 7 f1], [zAr T 0 a2_2 7 f2], [zAr T 0 a3_3 7 f3], [zAr T 0 a4_4 n4 f4], [zAr T 0 a5_5 n4 f5], [zAr T 0 a6_6 n4 f6]]) (As := [.int u2, .int (f3 u2.toNatClampNeg)]) (rest := []) C G (c_target l T la cr inn k1 k2 k3 k4 ([zO4 la cr inn a1_7 a2_8 a3_9 a4_10, zAr T 0 a1_7 7 k1, zAr T 0 a2_8 28 k2, zAr T 0 a3_9 7 k3, zAr T 0 a4_10 7 k4]) u2 (f3 u2.toNatClampNeg) hw_24) (kV_RX0_84 C.2.2.2.2 (Nat.le_of_ble_eq_true rfl) (Nat.le_of_ble_eq_true rfl)) [7] [7] rfl rfl (ci := 4) (qc := (RX4, TX4, 6)) rfl rfl (List.mem_flatten.mpr ⟨_, List.mem_of_getElem? (i := 0) rfl, (bLand_mem hw_24).choose_spec⟩) rfl rfl hl.1 dX0_comesByRow_37 (Nat.le_of_ble_eq_true rfl) (Nat.le_of_ble_eq_true rfl) (fun r_39 b1 H locs hw G => ?_)
      refine zAn2 hw ?_
      intro hbs9 h_38
      clear hw
      subst hbs9
      have G : zS T A s.heap s [[zO0 h md wy la pc_ a1_1 a2_2 a3_3 a4_4 a5_5 a6_6], [zAr T 0 a1_1 7 f1], [zAr T 0 a2_2 7 f2], [zAr T 0 a3_3 7 f3], [zAr T 0 a4_4 n4 f4], [zAr T 0 a5_5 n4 f5], [zAr T 0 a6_6 n4 f6], [zO4 la cr inn a1_7 a2_8 a3_9 a4_10, zAr T 0 a1_7 7 k1, zAr T 0 a2_8 28 k2, zAr T 0 a3_9 7 k3, zAr T 0 a4_10 7 k4]] _ _ := G
      subst h_38
      refine lv_istore_n (lv' := [(2, .int (zTarget cr k1 k2 u2 (f3 u2.toNatClampNeg))), (3, .int (nI i)), (0, .ref h), (1, .int x)]) hx hb dX0_comesByRow_40 rfl hl (by decide) (zLvf_h rfl) (fun ls hl => ?_)
      refine lv_iinc (v := nI (i + 1)) (lv' := [(3, .int (nI (i + 1))), (2, .int (zTarget cr k1 k2 u2 (f3 u2.toNatClampNeg))), (0, .ref h), (1, .int x)]) hx hb dX0_comesByRow_41 hl (k := 1) rfl (z_inc i 1) (by decide) (zLvf_h rfl) (fun ls hl => ?_)
      refine lv_goto (tgt := 4) hx hb dX0_comesByRow_44 (by decide) ?_
      have hw_40 : bWays T h la md wy pc_ f1 f2 f3 f4 f5 f6 n4 [zO0 h md wy la pc_ a1_1 a2_2 a3_3 a4_4 a5_5 a6_6, zAr T 0 a1_1 7 f1, zAr T 0 a2_2 7 f2, zAr T 0 a3_3 7 f3, zAr T 0 a4_4 n4 f4, zAr T 0 a5_5 n4 f5, zAr T 0 a6_6 n4 f6] := ⟨a1_1, a2_2, a3_3, a4_4, a5_5, a6_6, rfl⟩
      have G : zS T A s.heap s [[zO0 h md wy la pc_ a1_1 a2_2 a3_3 a4_4 a5_5 a6_6, zAr T 0 a1_1 7 f1, zAr T 0 a2_2 7 f2, zAr T 0 a3_3 7 f3, zAr T 0 a4_4 n4 f4, zAr T 0 a5_5 n4 f5, zAr T 0 a6_6 n4 f6], [zO4 la cr inn a1_7 a2_8 a3_9 a4_10, zAr T 0 a1_7 7 k1, zAr T 0 a2_8 28 k2, zAr T 0 a3_9 7 k3, zAr T 0 a4_10 7 k4]] _ _ := G.re rfl
      exact ih_4 (i + 1) (zTarget cr k1 k2 u2 (f3 u2.toNatClampNeg)) (show (i + 1) ≤ cr.toInt.toNat from by omega) (show cr.toInt.toNat - (i + 1) < cr.toInt.toNat - i from by omega) _ _ ls G (lv_sub hl [0, 1, 2, 3] rfl)
set_option maxHeartbeats 4000000 in
set_option maxRecDepth 100000 in
/-- c_allComeByRow -/
theorem c_allComeByRow (l : Launch) (T : zTy) (h : Nat) (la : Nat) (md : Int32) (wy : Int32) (pc_ : Int32) (f1 : Nat → Int32) (f2 : Nat → Int32) (f3 : Nat → Int32) (f4 : Nat → Int32) (f5 : Nat → Int32) (f6 : Nat → Int32) (n4 : Nat) (ww : va_W) (cr : Int32) (inn : Int32) (k1 : Nat → Int32) (k2 : Nat → Int32) (k3 : Nat → Int32) (k4 : Nat → Int32) (z : va_W) (hww : bWays T h la md wy pc_ f1 f2 f3 f4 f5 f6 n4 ww) (hz : bLand T la cr inn k1 k2 k3 k4 z) (hI : zLI cr k1 k3) : zMi l T yX0_allComeByRow cX0_allComeByRow 2 (some .boolean) 4 0 0 [.ref h] [ww, z] (fun (r : Int32) bs => bs = [ww, z] ∧ (r = 0 ∨ r = 1)) := by
  refine zMi_of (own := RX0) (by decide) rfl (Nat.le_of_ble_eq_true rfl) ?_
  intro p e s m args below meth c A ls C hr hlocks hnm hAe G hl
  refine zHide (fun Qz_ hQz_ => ?_)
  have hx := C.1
  have hb := C.2.1
  have hl : lv_has ls 2 [(0, .ref h)] := hl
  have hcr := hI.1
  refine lv_iconst (v := 0) hx hb dX0_allComeByRow_0 (by decide) ?_
  refine lv_istore_n (lv' := [(1, .int 0), (0, .ref h)]) hx hb dX0_allComeByRow_1 rfl hl (by decide) (zLvf_h rfl) (fun ls hl => ?_)
  refine zEx6 hww ?_
  intro a1_1 a2_2 a3_3 a4_4 a5_5 a6_6 hbs9
  clear hww
  subst hbs9
  have G : zS T A s.heap s [[zO0 h md wy la pc_ a1_1 a2_2 a3_3 a4_4 a5_5 a6_6], [zAr T 0 a1_1 7 f1], [zAr T 0 a2_2 7 f2], [zAr T 0 a3_3 7 f3], [zAr T 0 a4_4 n4 f4], [zAr T 0 a5_5 n4 f5], [zAr T 0 a6_6 n4 f6], z] _ _ := G.re rfl
  refine zEx4 hz ?_
  intro a1_7 a2_8 a3_9 a4_10 hbs9
  clear hz
  subst hbs9
  have G : zS T A s.heap s [[zO0 h md wy la pc_ a1_1 a2_2 a3_3 a4_4 a5_5 a6_6], [zAr T 0 a1_1 7 f1], [zAr T 0 a2_2 7 f2], [zAr T 0 a3_3 7 f3], [zAr T 0 a4_4 n4 f4], [zAr T 0 a5_5 n4 f5], [zAr T 0 a6_6 n4 f6], [zO4 la cr inn a1_7 a2_8 a3_9 a4_10], [zAr T 0 a1_7 7 k1], [zAr T 0 a2_8 28 k2], [zAr T 0 a3_9 7 k3], [zAr T 0 a4_10 7 k4]] _ _ := G.re rfl
  have hw_11 : bWays T h la md wy pc_ f1 f2 f3 f4 f5 f6 n4 [zO0 h md wy la pc_ a1_1 a2_2 a3_3 a4_4 a5_5 a6_6, zAr T 0 a1_1 7 f1, zAr T 0 a2_2 7 f2, zAr T 0 a3_3 7 f3, zAr T 0 a4_4 n4 f4, zAr T 0 a5_5 n4 f5, zAr T 0 a6_6 n4 f6] := ⟨a1_1, a2_2, a3_3, a4_4, a5_5, a6_6, rfl⟩
  have G : zS T A s.heap s [[zO0 h md wy la pc_ a1_1 a2_2 a3_3 a4_4 a5_5 a6_6, zAr T 0 a1_1 7 f1, zAr T 0 a2_2 7 f2, zAr T 0 a3_3 7 f3, zAr T 0 a4_4 n4 f4, zAr T 0 a5_5 n4 f5, zAr T 0 a6_6 n4 f6], [zO4 la cr inn a1_7 a2_8 a3_9 a4_10], [zAr T 0 a1_7 7 k1], [zAr T 0 a2_8 28 k2], [zAr T 0 a3_9 7 k3], [zAr T 0 a4_10 7 k4]] _ _ := G.re rfl
  have hw_12 : bLand T la cr inn k1 k2 k3 k4 [zO4 la cr inn a1_7 a2_8 a3_9 a4_10, zAr T 0 a1_7 7 k1, zAr T 0 a2_8 28 k2, zAr T 0 a3_9 7 k3, zAr T 0 a4_10 7 k4] := ⟨a1_7, a2_8, a3_9, a4_10, rfl⟩
  have G : zS T A s.heap s [[zO0 h md wy la pc_ a1_1 a2_2 a3_3 a4_4 a5_5 a6_6, zAr T 0 a1_1 7 f1, zAr T 0 a2_2 7 f2, zAr T 0 a3_3 7 f3, zAr T 0 a4_4 n4 f4, zAr T 0 a5_5 n4 f5, zAr T 0 a6_6 n4 f6], [zO4 la cr inn a1_7 a2_8 a3_9 a4_10, zAr T 0 a1_7 7 k1, zAr T 0 a2_8 28 k2, zAr T 0 a3_9 7 k3, zAr T 0 a4_10 7 k4]] _ _ := G.re rfl
  refine z_lp1 (T := T) 2 (fun (i : Nat) => [[zO0 h md wy la pc_ a1_1 a2_2 a3_3 a4_4 a5_5 a6_6, zAr T 0 a1_1 7 f1, zAr T 0 a2_2 7 f2, zAr T 0 a3_3 7 f3, zAr T 0 a4_4 n4 f4, zAr T 0 a5_5 n4 f5, zAr T 0 a6_6 n4 f6], [zO4 la cr inn a1_7 a2_8 a3_9 a4_10, zAr T 0 a1_7 7 k1, zAr T 0 a2_8 28 k2, zAr T 0 a3_9 7 k3, zAr T 0 a4_10 7 k4]]) (fun (i : Nat) => [(1, .int (nI i)), (0, .ref h)]) (fun (i : Nat) => i ≤ cr.toInt.toNat) (fun (i : Nat) => cr.toInt.toNat - i) ?_ 0 (show 0 ≤ cr.toInt.toNat from by omega) G (lv_sub hl [0, 1] rfl)
  intro i hi ih_2 H locs ls G hl
  replace hi : i ≤ cr.toInt.toNat := hi
  replace G : zS T A s.heap s [[zO0 h md wy la pc_ a1_1 a2_2 a3_3 a4_4 a5_5 a6_6, zAr T 0 a1_1 7 f1, zAr T 0 a2_2 7 f2, zAr T 0 a3_3 7 f3, zAr T 0 a4_4 n4 f4, zAr T 0 a5_5 n4 f5, zAr T 0 a6_6 n4 f6], [zO4 la cr inn a1_7 a2_8 a3_9 a4_10, zAr T 0 a1_7 7 k1, zAr T 0 a2_8 28 k2, zAr T 0 a3_9 7 k3, zAr T 0 a4_10 7 k4]] _ _ := G
  replace hl : lv_has ls 2 [(1, .int (nI i)), (0, .ref h)] := hl
  refine lv_iload_n hx hb dX0_allComeByRow_2 rfl (lv_at hl 0 rfl) ?_
  refine lv_aload_n hx hb dX0_allComeByRow_3 rfl (lv_at hl 1 rfl) ?_
  have G : zS T A s.heap s [[zO0 h md wy la pc_ a1_1 a2_2 a3_3 a4_4 a5_5 a6_6], [zAr T 0 a1_1 7 f1], [zAr T 0 a2_2 7 f2], [zAr T 0 a3_3 7 f3], [zAr T 0 a4_4 n4 f4], [zAr T 0 a5_5 n4 f5], [zAr T 0 a6_6 n4 f6], [zO4 la cr inn a1_7 a2_8 a3_9 a4_10, zAr T 0 a1_7 7 k1, zAr T 0 a2_8 28 k2, zAr T 0 a3_9 7 k3, zAr T 0 a4_10 7 k4]] _ _ := G.re rfl
  refine z_get C G clX0 0 rfl 2 (by decide) m_fl_RX0_14 rfl dX0_allComeByRow_4 ?_
  have G : zS T A s.heap s [[zO0 h md wy la pc_ a1_1 a2_2 a3_3 a4_4 a5_5 a6_6], [zAr T 0 a1_1 7 f1], [zAr T 0 a2_2 7 f2], [zAr T 0 a3_3 7 f3], [zAr T 0 a4_4 n4 f4], [zAr T 0 a5_5 n4 f5], [zAr T 0 a6_6 n4 f6], [zO4 la cr inn a1_7 a2_8 a3_9 a4_10], [zAr T 0 a1_7 7 k1], [zAr T 0 a2_8 28 k2], [zAr T 0 a3_9 7 k3], [zAr T 0 a4_10 7 k4]] _ _ := G.re rfl
  refine z_get C G clX4 7 rfl 0 (by decide) m_fl_RX0_107 rfl dX0_allComeByRow_7 ?_
  refine lv_icmp_ge (tgt := 40) hx hb dX0_allComeByRow_10 (by decide) (fun c_13 => ?_) (fun c_13 => ?_)
  · have c_13n : cr.toInt ≤ (i : Int) := by have q := (fa_le _ _).mp c_13; rw [nI_toInt (n := i) (by omega)] at q; exact q
    refine lv_iconst (v := 1) hx hb dX0_allComeByRow_40 (by decide) ?_
    have hw_14 : bWays T h la md wy pc_ f1 f2 f3 f4 f5 f6 n4 [zO0 h md wy la pc_ a1_1 a2_2 a3_3 a4_4 a5_5 a6_6, zAr T 0 a1_1 7 f1, zAr T 0 a2_2 7 f2, zAr T 0 a3_3 7 f3, zAr T 0 a4_4 n4 f4, zAr T 0 a5_5 n4 f5, zAr T 0 a6_6 n4 f6] := ⟨a1_1, a2_2, a3_3, a4_4, a5_5, a6_6, rfl⟩
    have G : zS T A s.heap s [[zO0 h md wy la pc_ a1_1 a2_2 a3_3 a4_4 a5_5 a6_6, zAr T 0 a1_1 7 f1, zAr T 0 a2_2 7 f2, zAr T 0 a3_3 7 f3, zAr T 0 a4_4 n4 f4, zAr T 0 a5_5 n4 f5, zAr T 0 a6_6 n4 f6], [zO4 la cr inn a1_7 a2_8 a3_9 a4_10], [zAr T 0 a1_7 7 k1], [zAr T 0 a2_8 28 k2], [zAr T 0 a3_9 7 k3], [zAr T 0 a4_10 7 k4]] _ _ := G.re rfl
    have hw_15 : bLand T la cr inn k1 k2 k3 k4 [zO4 la cr inn a1_7 a2_8 a3_9 a4_10, zAr T 0 a1_7 7 k1, zAr T 0 a2_8 28 k2, zAr T 0 a3_9 7 k3, zAr T 0 a4_10 7 k4] := ⟨a1_7, a2_8, a3_9, a4_10, rfl⟩
    have G : zS T A s.heap s [[zO0 h md wy la pc_ a1_1 a2_2 a3_3 a4_4 a5_5 a6_6, zAr T 0 a1_1 7 f1, zAr T 0 a2_2 7 f2, zAr T 0 a3_3 7 f3, zAr T 0 a4_4 n4 f4, zAr T 0 a5_5 n4 f5, zAr T 0 a6_6 n4 f6], [zO4 la cr inn a1_7 a2_8 a3_9 a4_10, zAr T 0 a1_7 7 k1, zAr T 0 a2_8 28 k2, zAr T 0 a3_9 7 k3, zAr T 0 a4_10 7 k4]] _ _ := G.re rfl
    exact z_back hQz_ (z_zret C hr hlocks G (Nat.le_of_ble_eq_true rfl) (Nat.le_of_ble_eq_true rfl) dX0_allComeByRow_41 rfl ⟨rfl, (by first | exact Or.inl rfl | exact Or.inr rfl)⟩)
  · have c_13n : ¬ cr.toInt ≤ (i : Int) := fun q => c_13 ((fa_le _ _).mpr (by rw [nI_toInt (n := i) (by omega)]; exact q))
    refine lv_aload_n hx hb dX0_allComeByRow_13 rfl (lv_at hl 1 rfl) ?_
    refine z_get C G clX0 0 rfl 2 (by decide) m_fl_RX0_14 rfl dX0_allComeByRow_14 ?_
    refine lv_iload_n hx hb dX0_allComeByRow_17 rfl (lv_at hl 0 rfl) ?_
    have hw_16 : bLand T la cr inn k1 k2 k3 k4 [zO4 la cr inn a1_7 a2_8 a3_9 a4_10, zAr T 0 a1_7 7 k1, zAr T 0 a2_8 28 k2, zAr T 0 a3_9 7 k3, zAr T 0 a4_10 7 k4] := ⟨a1_7, a2_8, a3_9, a4_10, rfl⟩
    have G : zS T A s.heap s [[zO0 h md wy la pc_ a1_1 a2_2 a3_3 a4_4 a5_5 a6_6], [zAr T 0 a1_1 7 f1], [zAr T 0 a2_2 7 f2], [zAr T 0 a3_3 7 f3], [zAr T 0 a4_4 n4 f4], [zAr T 0 a5_5 n4 f5], [zAr T 0 a6_6 n4 f6], [zO4 la cr inn a1_7 a2_8 a3_9 a4_10, zAr T 0 a1_7 7 k1, zAr T 0 a2_8 28 k2, zAr T 0 a3_9 7 k3, zAr T 0 a4_10 7 k4]] _ _ := G.re rfl
    refine z_Vi (bc := [[zO4 la cr inn a1_7 a2_8 a3_9 a4_10, zAr T 0 a1_7 7 k1, zAr T 0 a2_8 28 k2, zAr T 0 a3_9 7 k3, zAr T 0 a4_10 7 k4]]) (br := [[zO0 h md wy la pc_ a1_1 a2_2 a3_3 a4_4 a5_5 a6_6], [zAr T 0 a1_1 7 f1], [zAr T 0 a2_2 7 f2], [zAr T 0 a3_3 7 f3], [zAr T 0 a4_4 n4 f4], [zAr T 0 a5_5 n4 f5], [zAr T 0 a6_6 n4 f6]]) (As := [.int (nI i)]) (rest := []) C G (c_waysOut l T la cr inn k1 k2 k3 k4 ([zO4 la cr inn a1_7 a2_8 a3_9 a4_10, zAr T 0 a1_7 7 k1, zAr T 0 a2_8 28 k2, zAr T 0 a3_9 7 k3, zAr T 0 a4_10 7 k4]) (nI i) hw_16) (kV_RX0_61 C.2.2.2.2 (Nat.le_of_ble_eq_true rfl) (Nat.le_of_ble_eq_true rfl)) [7] [7] rfl rfl (ci := 4) (qc := (RX4, TX4, 6)) rfl rfl (List.mem_flatten.mpr ⟨_, List.mem_of_getElem? (i := 0) rfl, (bLand_mem hw_16).choose_spec⟩) rfl rfl hl.1 dX0_allComeByRow_18 (Nat.le_of_ble_eq_true rfl) (Nat.le_of_ble_eq_true rfl) (fun r_18 b1 H locs hw G => ?_)
    refine zAn2 hw ?_
    intro hbs9 h_17
    clear hw
    subst hbs9
    have G : zS T A s.heap s [[zO0 h md wy la pc_ a1_1 a2_2 a3_3 a4_4 a5_5 a6_6], [zAr T 0 a1_1 7 f1], [zAr T 0 a2_2 7 f2], [zAr T 0 a3_3 7 f3], [zAr T 0 a4_4 n4 f4], [zAr T 0 a5_5 n4 f5], [zAr T 0 a6_6 n4 f6], [zO4 la cr inn a1_7 a2_8 a3_9 a4_10, zAr T 0 a1_7 7 k1, zAr T 0 a2_8 28 k2, zAr T 0 a3_9 7 k3, zAr T 0 a4_10 7 k4]] _ _ := G
    subst h_17
    refine lv_if_le (tgt := 34) hx hb dX0_allComeByRow_21 (by decide) (fun c_19 => ?_) (fun c_19 => ?_)
    · have c_19n : (zWays cr inn k1 (nI i)).toInt ≤ (0 : Int) := (fa_le _ _).mp c_19
      refine lv_iinc (v := nI (i + 1)) (lv' := [(1, .int (nI (i + 1))), (0, .ref h)]) hx hb dX0_allComeByRow_34 hl (k := 0) rfl (z_inc i 1) (by decide) (zLvf_h rfl) (fun ls hl => ?_)
      refine lv_goto (tgt := 2) hx hb dX0_allComeByRow_37 (by decide) ?_
      have hw_20 : bWays T h la md wy pc_ f1 f2 f3 f4 f5 f6 n4 [zO0 h md wy la pc_ a1_1 a2_2 a3_3 a4_4 a5_5 a6_6, zAr T 0 a1_1 7 f1, zAr T 0 a2_2 7 f2, zAr T 0 a3_3 7 f3, zAr T 0 a4_4 n4 f4, zAr T 0 a5_5 n4 f5, zAr T 0 a6_6 n4 f6] := ⟨a1_1, a2_2, a3_3, a4_4, a5_5, a6_6, rfl⟩
      have G : zS T A s.heap s [[zO0 h md wy la pc_ a1_1 a2_2 a3_3 a4_4 a5_5 a6_6, zAr T 0 a1_1 7 f1, zAr T 0 a2_2 7 f2, zAr T 0 a3_3 7 f3, zAr T 0 a4_4 n4 f4, zAr T 0 a5_5 n4 f5, zAr T 0 a6_6 n4 f6], [zO4 la cr inn a1_7 a2_8 a3_9 a4_10, zAr T 0 a1_7 7 k1, zAr T 0 a2_8 28 k2, zAr T 0 a3_9 7 k3, zAr T 0 a4_10 7 k4]] _ _ := G.re rfl
      exact ih_2 (i + 1) (show (i + 1) ≤ cr.toInt.toNat from by omega) (show cr.toInt.toNat - (i + 1) < cr.toInt.toNat - i from by omega) _ _ ls G (lv_sub hl [0, 1] rfl)
    · have c_19n : ¬ (zWays cr inn k1 (nI i)).toInt ≤ (0 : Int) := fun q => c_19 ((fa_le _ _).mpr q)
      refine lv_aload_n hx hb dX0_allComeByRow_24 rfl (lv_at hl 1 rfl) ?_
      refine lv_iload_n hx hb dX0_allComeByRow_25 rfl (lv_at hl 0 rfl) ?_
      have hw_21 : bWays T h la md wy pc_ f1 f2 f3 f4 f5 f6 n4 [zO0 h md wy la pc_ a1_1 a2_2 a3_3 a4_4 a5_5 a6_6, zAr T 0 a1_1 7 f1, zAr T 0 a2_2 7 f2, zAr T 0 a3_3 7 f3, zAr T 0 a4_4 n4 f4, zAr T 0 a5_5 n4 f5, zAr T 0 a6_6 n4 f6] := ⟨a1_1, a2_2, a3_3, a4_4, a5_5, a6_6, rfl⟩
      have G : zS T A s.heap s [[zO0 h md wy la pc_ a1_1 a2_2 a3_3 a4_4 a5_5 a6_6, zAr T 0 a1_1 7 f1, zAr T 0 a2_2 7 f2, zAr T 0 a3_3 7 f3, zAr T 0 a4_4 n4 f4, zAr T 0 a5_5 n4 f5, zAr T 0 a6_6 n4 f6], [zO4 la cr inn a1_7 a2_8 a3_9 a4_10, zAr T 0 a1_7 7 k1, zAr T 0 a2_8 28 k2, zAr T 0 a3_9 7 k3, zAr T 0 a4_10 7 k4]] _ _ := G.re rfl
      refine z_Vi (bc := [[zO0 h md wy la pc_ a1_1 a2_2 a3_3 a4_4 a5_5 a6_6, zAr T 0 a1_1 7 f1, zAr T 0 a2_2 7 f2, zAr T 0 a3_3 7 f3, zAr T 0 a4_4 n4 f4, zAr T 0 a5_5 n4 f5, zAr T 0 a6_6 n4 f6], [zO4 la cr inn a1_7 a2_8 a3_9 a4_10, zAr T 0 a1_7 7 k1, zAr T 0 a2_8 28 k2, zAr T 0 a3_9 7 k3, zAr T 0 a4_10 7 k4]]) (br := []) (As := [.int (nI i)]) (rest := []) C G (c_comesByRow l T h la md wy pc_ f1 f2 f3 f4 f5 f6 n4 ([zO0 h md wy la pc_ a1_1 a2_2 a3_3 a4_4 a5_5 a6_6, zAr T 0 a1_1 7 f1, zAr T 0 a2_2 7 f2, zAr T 0 a3_3 7 f3, zAr T 0 a4_4 n4 f4, zAr T 0 a5_5 n4 f5, zAr T 0 a6_6 n4 f6]) cr inn k1 k2 k3 k4 ([zO4 la cr inn a1_7 a2_8 a3_9 a4_10, zAr T 0 a1_7 7 k1, zAr T 0 a2_8 28 k2, zAr T 0 a3_9 7 k3, zAr T 0 a4_10 7 k4]) (nI i) hw_21 hw_16 (by first | with_reducible assumption | with_reducible rfl | omega | assumption | rfl)) (kV_RX0_129 C.2.2.2.2 (Nat.le_of_ble_eq_true rfl) (Nat.le_of_ble_eq_true rfl)) [0, 1] [0, 0] rfl rfl (ci := 0) (qc := (RX0, TX0, 10)) rfl rfl (List.mem_flatten.mpr ⟨_, List.mem_of_getElem? (i := 0) rfl, (bWays_mem hw_21).choose_spec⟩) rfl rfl hl.1 dX0_allComeByRow_26 (Nat.le_of_ble_eq_true rfl) (Nat.le_of_ble_eq_true rfl) (fun r_23 b1 H locs hw G => ?_)
      refine zAn2 hw ?_
      intro hbs9 h_22
      clear hw
      subst hbs9
      have G : zS T A s.heap s [[zO0 h md wy la pc_ a1_1 a2_2 a3_3 a4_4 a5_5 a6_6, zAr T 0 a1_1 7 f1, zAr T 0 a2_2 7 f2, zAr T 0 a3_3 7 f3, zAr T 0 a4_4 n4 f4, zAr T 0 a5_5 n4 f5, zAr T 0 a6_6 n4 f6], [zO4 la cr inn a1_7 a2_8 a3_9 a4_10, zAr T 0 a1_7 7 k1, zAr T 0 a2_8 28 k2, zAr T 0 a3_9 7 k3, zAr T 0 a4_10 7 k4]] _ _ := G
      replace h_22 : zHd ((r_23 = 0 ∨ r_23 = 1)) := h_22
      refine lv_if_ne (tgt := 34) hx hb dX0_allComeByRow_29 (by decide) (fun c_24 => ?_) (fun c_24 => ?_)
      · have c_24n : ¬ r_23.toInt = (0 : Int) := fun q => c_24 ((fa_eq _ _).mpr q)
        refine lv_iinc (v := nI (i + 1)) (lv' := [(1, .int (nI (i + 1))), (0, .ref h)]) hx hb dX0_allComeByRow_34 hl (k := 0) rfl (z_inc i 1) (by decide) (zLvf_h rfl) (fun ls hl => ?_)
        refine lv_goto (tgt := 2) hx hb dX0_allComeByRow_37 (by decide) ?_
        exact ih_2 (i + 1) (show (i + 1) ≤ cr.toInt.toNat from by omega) (show cr.toInt.toNat - (i + 1) < cr.toInt.toNat - i from by omega) _ _ ls G (lv_sub hl [0, 1] rfl)
      · have c_24n : r_23.toInt = (0 : Int) := (fa_eq _ _).mp c_24
        refine lv_iconst (v := 0) hx hb dX0_allComeByRow_32 (by decide) ?_
        exact z_back hQz_ (z_zret C hr hlocks G (Nat.le_of_ble_eq_true rfl) (Nat.le_of_ble_eq_true rfl) dX0_allComeByRow_33 rfl ⟨rfl, (by first | exact Or.inl rfl | exact Or.inr rfl)⟩)
theorem m_ml_RX0_65 : Cond.methodLink RX0 65 Lib.Math.max.name ∈ zT := zmem1 zsub_4 220 rfl rfl
theorem m_ko_RX0_71 : Cond.constant RX0 71 131072 ∈ zT := zmem1 zsub_4 221 rfl rfl
theorem m_co_math_min : Cond.code Lib.Math.min.name Lib.Math.min.code 2 (some .int) ∈ zT := zmem1 zsub_2 236 rfl rfl
theorem m_ml_RX0_72 : Cond.methodLink RX0 72 Lib.Math.min.name ∈ zT := zmem1 zsub_4 222 rfl rfl
theorem m_st_math_min : Cond.static Lib.Math.min.name ∈ zT := zmem1 zsub_2 235 rfl rfl
theorem m_fl_RX0_75 : Cond.fieldLink RX0 75 (TX0 3).1 (TX0 3).2.1 (TX0 3).2.2.1 ∈ zT := zmem1 zsub_2 112 rfl rfl
theorem m_co_X0_countWays : Cond.code yX0_countWays cX0_countWays 3 none ∈ zT := zmem1 zsub_4 218 rfl rfl
theorem m_ml_RX0_41 : Cond.methodLink RX0 41 yX0_countWays ∈ zT := zmem1 zsub_4 215 rfl rfl
theorem m_im_X0_countWays : Cond.instanceMethod yX0_countWays ∈ zT := zmem1 zsub_4 217 rfl rfl
theorem m_se_X0_countWays : Cond.selects RX0 yX0_countWays yX0_countWays ∈ zT := zmem 32 rfl rfl
theorem m_co_X0_allComeByRow : Cond.code yX0_allComeByRow cX0_allComeByRow 2 (some .boolean) ∈ zT := zmem1 zsub_5 64 rfl rfl
theorem m_ml_RX0_122 : Cond.methodLink RX0 122 yX0_allComeByRow ∈ zT := zmem1 zsub_5 61 rfl rfl
theorem m_im_X0_allComeByRow : Cond.instanceMethod yX0_allComeByRow ∈ zT := zmem1 zsub_5 63 rfl rfl
theorem m_se_X0_allComeByRow : Cond.selects RX0 yX0_allComeByRow yX0_allComeByRow ∈ zT := zmem 38 rfl rfl
theorem m_co_X0_nextRow : Cond.code yX0_nextRow cX0_nextRow 2 none ∈ zT := zmem1 zsub_5 73 rfl rfl
theorem m_ml_RX0_126 : Cond.methodLink RX0 126 yX0_nextRow ∈ zT := zmem1 zsub_5 70 rfl rfl
theorem m_im_X0_nextRow : Cond.instanceMethod yX0_nextRow ∈ zT := zmem1 zsub_5 72 rfl rfl
theorem m_se_X0_nextRow : Cond.selects RX0 yX0_nextRow yX0_nextRow ∈ zT := zmem 40 rfl rfl
theorem m_co_X0_turned : Cond.code yX0_turned cX0_turned 4 (some .int) ∈ zT := zmem1 zsub_4 234 rfl rfl
theorem m_ml_RX0_78 : Cond.methodLink RX0 78 yX0_turned ∈ zT := zmem1 zsub_4 231 rfl rfl
theorem m_im_X0_turned : Cond.instanceMethod yX0_turned ∈ zT := zmem1 zsub_4 232 rfl rfl
theorem m_se_X0_turned : Cond.selects RX0 yX0_turned yX0_turned ∈ zT := zmem1 zsub_4 233 rfl rfl
theorem m_co_X0_place : Cond.code yX0_place cX0_place 2 (some .int) ∈ zT := zmem1 zsub_5 2 rfl rfl
theorem m_ml_RX0_87 : Cond.methodLink RX0 87 yX0_place ∈ zT := zmem1 zsub_5 0 rfl rfl
theorem m_st_X0_place : Cond.static yX0_place ∈ zT := zmem1 zsub_5 1 rfl rfl
theorem kV_RX0_41 {R : Room} {s : State} {args : Array Value} {d mc ms : Nat} (hts : ∀ w ∈ zT, w.before args s = true) (h1 : d + 1 ≤ R.frames) (h2 : 8 + (3 + 11) + 40 * d ≤ R.locals) : CallW R s args RX0 RX0 41 yX0_countWays cX0_countWays 3 none (zW yX0_countWays cX0_countWays 3 none) (zR d mc ms) mc ms 1 := z_cwV hts m_co_X0_countWays m_ml_RX0_41 m_im_X0_countWays m_se_X0_countWays m_ii_RX0 (by decide +kernel) h1 h2
theorem kV_RX0_122 {R : Room} {s : State} {args : Array Value} {d mc ms : Nat} (hts : ∀ w ∈ zT, w.before args s = true) (h1 : d + 1 ≤ R.frames) (h2 : 8 + (2 + 11) + 40 * d ≤ R.locals) : CallW R s args RX0 RX0 122 yX0_allComeByRow cX0_allComeByRow 2 (some .boolean) (zW yX0_allComeByRow cX0_allComeByRow 2 (some .boolean)) (zR d mc ms) mc ms 0 := z_cwV hts m_co_X0_allComeByRow m_ml_RX0_122 m_im_X0_allComeByRow m_se_X0_allComeByRow m_ii_RX0 (by decide +kernel) h1 h2
theorem kV_RX0_126 {R : Room} {s : State} {args : Array Value} {d mc ms : Nat} (hts : ∀ w ∈ zT, w.before args s = true) (h1 : d + 1 ≤ R.frames) (h2 : 8 + (2 + 11) + 40 * d ≤ R.locals) : CallW R s args RX0 RX0 126 yX0_nextRow cX0_nextRow 2 none (zW yX0_nextRow cX0_nextRow 2 none) (zR d mc ms) mc ms 0 := z_cwV hts m_co_X0_nextRow m_ml_RX0_126 m_im_X0_nextRow m_se_X0_nextRow m_ii_RX0 (by decide +kernel) h1 h2
theorem kV_RX0_78 {R : Room} {s : State} {args : Array Value} {d mc ms : Nat} (hts : ∀ w ∈ zT, w.before args s = true) (h1 : d + 1 ≤ R.frames) (h2 : 8 + (4 + 11) + 40 * d ≤ R.locals) : CallW R s args RX0 RX0 78 yX0_turned cX0_turned 4 (some .int) (zW yX0_turned cX0_turned 4 (some .int)) (zR d mc ms) mc ms 2 := z_cwV hts m_co_X0_turned m_ml_RX0_78 m_im_X0_turned m_se_X0_turned m_ii_RX0 (by decide +kernel) h1 h2
theorem kS_RX0_87 {R : Room} {s : State} {args : Array Value} {d mc ms : Nat} (hts : ∀ w ∈ zT, w.before args s = true) (h1 : d + 1 ≤ R.frames) (h2 : 8 + (2 + 11) + 40 * d ≤ R.locals) : CallB R s args RX0 87 yX0_place cX0_place 2 (some .int) (zW yX0_place cX0_place 2 (some .int)) (zR d mc ms) mc ms 2 ∧ (Cond.static yX0_place).before args s = true := z_cwS hts m_co_X0_place m_ml_RX0_87 m_st_X0_place m_ii_RX0 (by decide +kernel) h1 h2
theorem dX0_countWays_0 : decode cX0_countWays 0 = .ok (.aload_n 0, 1) := zo_42 (by decide +kernel)
theorem dX0_countWays_1 : decode cX0_countWays 1 = .ok (.aload_n 1, 1) := zo_43 (by decide +kernel)
theorem dX0_countWays_2 : decode cX0_countWays 2 = .ok (.putfield 14, 3) := zo_181 (by decide +kernel)
theorem dX0_countWays_5 : decode cX0_countWays 5 = .ok (.aload_n 0, 1) := zo_42 (by decide +kernel)
theorem dX0_countWays_6 : decode cX0_countWays 6 = .ok (.iconst 1, 1) := zo_4 (by decide +kernel)
theorem dX0_countWays_7 : decode cX0_countWays 7 = .ok (.putfield 57, 3) := zo_181 (by decide +kernel)
theorem dX0_countWays_10 : decode cX0_countWays 10 = .ok (.bipush 6, 2) := zo_16 (by decide +kernel)
theorem dX0_countWays_12 : decode cX0_countWays 12 = .ok (.istore_n 2, 1) := zo_61 (by decide +kernel)
theorem dX0_countWays_13 : decode cX0_countWays 13 = .ok (.iload_n 2, 1) := zo_28 (by decide +kernel)
theorem dX0_countWays_14 : decode cX0_countWays 14 = .ok (.ifCond .lt 49, 3) := zo_155 (by decide +kernel)
theorem dX0_countWays_17 : decode cX0_countWays 17 = .ok (.aload_n 0, 1) := zo_42 (by decide +kernel)
theorem dX0_countWays_18 : decode cX0_countWays 18 = .ok (.getfield 18, 3) := zo_180 (by decide +kernel)
theorem dX0_countWays_21 : decode cX0_countWays 21 = .ok (.iload_n 2, 1) := zo_28 (by decide +kernel)
theorem dX0_countWays_22 : decode cX0_countWays 22 = .ok (.aload_n 1, 1) := zo_43 (by decide +kernel)
theorem dX0_countWays_23 : decode cX0_countWays 23 = .ok (.iload_n 2, 1) := zo_28 (by decide +kernel)
theorem dX0_countWays_24 : decode cX0_countWays 24 = .ok (.invokevirtual 61, 3) := zo_182 (by decide +kernel)
theorem dX0_countWays_27 : decode cX0_countWays 27 = .ok (.iconst 1, 1) := zo_4 (by decide +kernel)
theorem dX0_countWays_28 : decode cX0_countWays 28 = .ok (.invokestatic 65, 3) := zo_184 (by decide +kernel)
theorem dX0_countWays_31 : decode cX0_countWays 31 = .ok (.iastore, 1) := zo_79 (by decide +kernel)
theorem dX0_countWays_32 : decode cX0_countWays 32 = .ok (.aload_n 0, 1) := zo_42 (by decide +kernel)
theorem dX0_countWays_33 : decode cX0_countWays 33 = .ok (.getfield 22, 3) := zo_180 (by decide +kernel)
theorem dX0_countWays_36 : decode cX0_countWays 36 = .ok (.iload_n 2, 1) := zo_28 (by decide +kernel)
theorem dX0_countWays_37 : decode cX0_countWays 37 = .ok (.aload_n 0, 1) := zo_42 (by decide +kernel)
theorem dX0_countWays_38 : decode cX0_countWays 38 = .ok (.getfield 57, 3) := zo_180 (by decide +kernel)
theorem dX0_countWays_41 : decode cX0_countWays 41 = .ok (.iastore, 1) := zo_79 (by decide +kernel)
theorem dX0_countWays_42 : decode cX0_countWays 42 = .ok (.aload_n 0, 1) := zo_42 (by decide +kernel)
theorem dX0_countWays_43 : decode cX0_countWays 43 = .ok (.dup, 1) := zo_89 (by decide +kernel)
theorem dX0_countWays_44 : decode cX0_countWays 44 = .ok (.getfield 57, 3) := zo_180 (by decide +kernel)
theorem dX0_countWays_47 : decode cX0_countWays 47 = .ok (.aload_n 0, 1) := zo_42 (by decide +kernel)
theorem dX0_countWays_48 : decode cX0_countWays 48 = .ok (.getfield 18, 3) := zo_180 (by decide +kernel)
theorem dX0_countWays_51 : decode cX0_countWays 51 = .ok (.iload_n 2, 1) := zo_28 (by decide +kernel)
theorem dX0_countWays_52 : decode cX0_countWays 52 = .ok (.iaload, 1) := zo_46 (by decide +kernel)
theorem dX0_countWays_53 : decode cX0_countWays 53 = .ok (.imul, 1) := zo_104 (by decide +kernel)
theorem dX0_countWays_54 : decode cX0_countWays 54 = .ok (.putfield 57, 3) := zo_181 (by decide +kernel)
theorem dX0_countWays_57 : decode cX0_countWays 57 = .ok (.iinc 2 (-1), 3) := zo_132 (by decide +kernel)
theorem dX0_countWays_60 : decode cX0_countWays 60 = .ok (.goto (-47), 3) := zo_167 (by decide +kernel)
theorem dX0_countWays_63 : decode cX0_countWays 63 = .ok (.aload_n 0, 1) := zo_42 (by decide +kernel)
theorem dX0_countWays_64 : decode cX0_countWays 64 = .ok (.aload_n 0, 1) := zo_42 (by decide +kernel)
theorem dX0_countWays_65 : decode cX0_countWays 65 = .ok (.getfield 57, 3) := zo_180 (by decide +kernel)
theorem dX0_countWays_68 : decode cX0_countWays 68 = .ok (.iconst 3, 1) := zo_6 (by decide +kernel)
theorem dX0_countWays_69 : decode cX0_countWays 69 = .ok (.ishl, 1) := zo_120 (by decide +kernel)
theorem dX0_countWays_70 : decode cX0_countWays 70 = .ok (.ldc 71, 2) := zo_18 (by decide +kernel)
theorem dX0_countWays_72 : decode cX0_countWays 72 = .ok (.invokestatic 72, 3) := zo_184 (by decide +kernel)
theorem dX0_countWays_75 : decode cX0_countWays 75 = .ok (.putfield 75, 3) := zo_181 (by decide +kernel)
theorem dX0_countWays_78 : decode cX0_countWays 78 = .ok (.return_, 1) := zo_177 (by decide +kernel)
theorem dX0_grow_0 : decode cX0_grow 0 = .ok (.aload_n 0, 1) := zo_42 (by decide +kernel)
theorem dX0_grow_1 : decode cX0_grow 1 = .ok (.getfield 31, 3) := zo_180 (by decide +kernel)
theorem dX0_grow_4 : decode cX0_grow 4 = .ok (.arraylength, 1) := zo_190 (by decide +kernel)
theorem dX0_grow_5 : decode cX0_grow 5 = .ok (.aload_n 0, 1) := zo_42 (by decide +kernel)
theorem dX0_grow_6 : decode cX0_grow 6 = .ok (.getfield 75, 3) := zo_180 (by decide +kernel)
theorem dX0_grow_9 : decode cX0_grow 9 = .ok (.if_icmp .lt 4, 3) := zo_161 (by decide +kernel)
theorem dX0_grow_12 : decode cX0_grow 12 = .ok (.return_, 1) := zo_177 (by decide +kernel)
theorem dX0_grow_13 : decode cX0_grow 13 = .ok (.bipush 64, 2) := zo_16 (by decide +kernel)
theorem dX0_grow_15 : decode cX0_grow 15 = .ok (.istore_n 1, 1) := zo_60 (by decide +kernel)
theorem dX0_grow_16 : decode cX0_grow 16 = .ok (.iload_n 1, 1) := zo_27 (by decide +kernel)
theorem dX0_grow_17 : decode cX0_grow 17 = .ok (.aload_n 0, 1) := zo_42 (by decide +kernel)
theorem dX0_grow_18 : decode cX0_grow 18 = .ok (.getfield 75, 3) := zo_180 (by decide +kernel)
theorem dX0_grow_21 : decode cX0_grow 21 = .ok (.if_icmp .ge 16, 3) := zo_162 (by decide +kernel)
theorem dX0_grow_24 : decode cX0_grow 24 = .ok (.iload_n 1, 1) := zo_27 (by decide +kernel)
theorem dX0_grow_25 : decode cX0_grow 25 = .ok (.ldc 71, 2) := zo_18 (by decide +kernel)
theorem dX0_grow_27 : decode cX0_grow 27 = .ok (.if_icmp .ge 10, 3) := zo_162 (by decide +kernel)
theorem dX0_grow_30 : decode cX0_grow 30 = .ok (.iload_n 1, 1) := zo_27 (by decide +kernel)
theorem dX0_grow_31 : decode cX0_grow 31 = .ok (.iconst 2, 1) := zo_5 (by decide +kernel)
theorem dX0_grow_32 : decode cX0_grow 32 = .ok (.imul, 1) := zo_104 (by decide +kernel)
theorem dX0_grow_33 : decode cX0_grow 33 = .ok (.istore_n 1, 1) := zo_60 (by decide +kernel)
theorem dX0_grow_34 : decode cX0_grow 34 = .ok (.goto (-18), 3) := zo_167 (by decide +kernel)
theorem dX0_grow_37 : decode cX0_grow 37 = .ok (.aload_n 0, 1) := zo_42 (by decide +kernel)
theorem dX0_grow_38 : decode cX0_grow 38 = .ok (.iload_n 1, 1) := zo_27 (by decide +kernel)
theorem dX0_grow_39 : decode cX0_grow 39 = .ok (.newarray .int, 2) := by decide +kernel
theorem dX0_grow_41 : decode cX0_grow 41 = .ok (.putfield 28, 3) := zo_181 (by decide +kernel)
theorem dX0_grow_44 : decode cX0_grow 44 = .ok (.aload_n 0, 1) := zo_42 (by decide +kernel)
theorem dX0_grow_45 : decode cX0_grow 45 = .ok (.iload_n 1, 1) := zo_27 (by decide +kernel)
theorem dX0_grow_46 : decode cX0_grow 46 = .ok (.newarray .int, 2) := by decide +kernel
theorem dX0_grow_48 : decode cX0_grow 48 = .ok (.putfield 31, 3) := zo_181 (by decide +kernel)
theorem dX0_grow_51 : decode cX0_grow 51 = .ok (.aload_n 0, 1) := zo_42 (by decide +kernel)
theorem dX0_grow_52 : decode cX0_grow 52 = .ok (.iload_n 1, 1) := zo_27 (by decide +kernel)
theorem dX0_grow_53 : decode cX0_grow 53 = .ok (.newarray .int, 2) := by decide +kernel
theorem dX0_grow_55 : decode cX0_grow 55 = .ok (.putfield 34, 3) := zo_181 (by decide +kernel)
theorem dX0_grow_58 : decode cX0_grow 58 = .ok (.return_, 1) := zo_177 (by decide +kernel)
theorem dX0_nextRow_0 : decode cX0_nextRow 0 = .ok (.bipush 6, 2) := zo_16 (by decide +kernel)
theorem dX0_nextRow_2 : decode cX0_nextRow 2 = .ok (.istore_n 1, 1) := zo_60 (by decide +kernel)
theorem dX0_nextRow_3 : decode cX0_nextRow 3 = .ok (.iload_n 1, 1) := zo_27 (by decide +kernel)
theorem dX0_nextRow_4 : decode cX0_nextRow 4 = .ok (.ifCond .lt 42, 3) := zo_155 (by decide +kernel)
theorem dX0_nextRow_7 : decode cX0_nextRow 7 = .ok (.aload_n 0, 1) := zo_42 (by decide +kernel)
theorem dX0_nextRow_8 : decode cX0_nextRow 8 = .ok (.getfield 25, 3) := zo_180 (by decide +kernel)
theorem dX0_nextRow_11 : decode cX0_nextRow 11 = .ok (.iload_n 1, 1) := zo_27 (by decide +kernel)
theorem dX0_nextRow_12 : decode cX0_nextRow 12 = .ok (.dup2, 1) := zo_92 (by decide +kernel)
theorem dX0_nextRow_13 : decode cX0_nextRow 13 = .ok (.iaload, 1) := zo_46 (by decide +kernel)
theorem dX0_nextRow_14 : decode cX0_nextRow 14 = .ok (.iconst 1, 1) := zo_4 (by decide +kernel)
theorem dX0_nextRow_15 : decode cX0_nextRow 15 = .ok (.iadd, 1) := zo_96 (by decide +kernel)
theorem dX0_nextRow_16 : decode cX0_nextRow 16 = .ok (.iastore, 1) := zo_79 (by decide +kernel)
theorem dX0_nextRow_17 : decode cX0_nextRow 17 = .ok (.aload_n 0, 1) := zo_42 (by decide +kernel)
theorem dX0_nextRow_18 : decode cX0_nextRow 18 = .ok (.getfield 25, 3) := zo_180 (by decide +kernel)
theorem dX0_nextRow_21 : decode cX0_nextRow 21 = .ok (.iload_n 1, 1) := zo_27 (by decide +kernel)
theorem dX0_nextRow_22 : decode cX0_nextRow 22 = .ok (.iaload, 1) := zo_46 (by decide +kernel)
theorem dX0_nextRow_23 : decode cX0_nextRow 23 = .ok (.aload_n 0, 1) := zo_42 (by decide +kernel)
theorem dX0_nextRow_24 : decode cX0_nextRow 24 = .ok (.getfield 18, 3) := zo_180 (by decide +kernel)
theorem dX0_nextRow_27 : decode cX0_nextRow 27 = .ok (.iload_n 1, 1) := zo_27 (by decide +kernel)
theorem dX0_nextRow_28 : decode cX0_nextRow 28 = .ok (.iaload, 1) := zo_46 (by decide +kernel)
theorem dX0_nextRow_29 : decode cX0_nextRow 29 = .ok (.if_icmp .ge 4, 3) := zo_162 (by decide +kernel)
theorem dX0_nextRow_32 : decode cX0_nextRow 32 = .ok (.return_, 1) := zo_177 (by decide +kernel)
theorem dX0_nextRow_33 : decode cX0_nextRow 33 = .ok (.aload_n 0, 1) := zo_42 (by decide +kernel)
theorem dX0_nextRow_34 : decode cX0_nextRow 34 = .ok (.getfield 25, 3) := zo_180 (by decide +kernel)
theorem dX0_nextRow_37 : decode cX0_nextRow 37 = .ok (.iload_n 1, 1) := zo_27 (by decide +kernel)
theorem dX0_nextRow_38 : decode cX0_nextRow 38 = .ok (.iconst 0, 1) := zo_3 (by decide +kernel)
theorem dX0_nextRow_39 : decode cX0_nextRow 39 = .ok (.iastore, 1) := zo_79 (by decide +kernel)
theorem dX0_nextRow_40 : decode cX0_nextRow 40 = .ok (.iinc 1 (-1), 3) := zo_132 (by decide +kernel)
theorem dX0_nextRow_43 : decode cX0_nextRow 43 = .ok (.goto (-40), 3) := zo_167 (by decide +kernel)
theorem dX0_nextRow_46 : decode cX0_nextRow 46 = .ok (.return_, 1) := zo_177 (by decide +kernel)
theorem dX0_treesOf_0 : decode cX0_treesOf 0 = .ok (.aload_n 0, 1) := zo_42 (by decide +kernel)
theorem dX0_treesOf_1 : decode cX0_treesOf 1 = .ok (.aload_n 1, 1) := zo_43 (by decide +kernel)
theorem dX0_treesOf_2 : decode cX0_treesOf 2 = .ok (.invokevirtual 41, 3) := zo_182 (by decide +kernel)
theorem dX0_treesOf_5 : decode cX0_treesOf 5 = .ok (.iconst 0, 1) := zo_3 (by decide +kernel)
theorem dX0_treesOf_6 : decode cX0_treesOf 6 = .ok (.istore_n 2, 1) := zo_61 (by decide +kernel)
theorem dX0_treesOf_7 : decode cX0_treesOf 7 = .ok (.iconst 0, 1) := zo_3 (by decide +kernel)
theorem dX0_treesOf_8 : decode cX0_treesOf 8 = .ok (.istore_n 3, 1) := zo_62 (by decide +kernel)
theorem dX0_treesOf_9 : decode cX0_treesOf 9 = .ok (.iload_n 3, 1) := zo_29 (by decide +kernel)
theorem dX0_treesOf_10 : decode cX0_treesOf 10 = .ok (.bipush 7, 2) := zo_16 (by decide +kernel)
theorem dX0_treesOf_12 : decode cX0_treesOf 12 = .ok (.if_icmp .ge 16, 3) := zo_162 (by decide +kernel)
theorem dX0_treesOf_15 : decode cX0_treesOf 15 = .ok (.aload_n 0, 1) := zo_42 (by decide +kernel)
theorem dX0_treesOf_16 : decode cX0_treesOf 16 = .ok (.getfield 25, 3) := zo_180 (by decide +kernel)
theorem dX0_treesOf_19 : decode cX0_treesOf 19 = .ok (.iload_n 3, 1) := zo_29 (by decide +kernel)
theorem dX0_treesOf_20 : decode cX0_treesOf 20 = .ok (.iconst 0, 1) := zo_3 (by decide +kernel)
theorem dX0_treesOf_21 : decode cX0_treesOf 21 = .ok (.iastore, 1) := zo_79 (by decide +kernel)
theorem dX0_treesOf_22 : decode cX0_treesOf 22 = .ok (.iinc 3 1, 3) := zo_132 (by decide +kernel)
theorem dX0_treesOf_25 : decode cX0_treesOf 25 = .ok (.goto (-16), 3) := zo_167 (by decide +kernel)
theorem dX0_treesOf_28 : decode cX0_treesOf 28 = .ok (.iconst 0, 1) := zo_3 (by decide +kernel)
theorem dX0_treesOf_29 : decode cX0_treesOf 29 = .ok (.istore_n 3, 1) := zo_62 (by decide +kernel)
theorem dX0_treesOf_30 : decode cX0_treesOf 30 = .ok (.iload_n 3, 1) := zo_29 (by decide +kernel)
theorem dX0_treesOf_31 : decode cX0_treesOf 31 = .ok (.aload_n 0, 1) := zo_42 (by decide +kernel)
theorem dX0_treesOf_32 : decode cX0_treesOf 32 = .ok (.getfield 57, 3) := zo_180 (by decide +kernel)
theorem dX0_treesOf_35 : decode cX0_treesOf 35 = .ok (.if_icmp .ge 23, 3) := zo_162 (by decide +kernel)
theorem dX0_treesOf_38 : decode cX0_treesOf 38 = .ok (.aload_n 0, 1) := zo_42 (by decide +kernel)
theorem dX0_treesOf_39 : decode cX0_treesOf 39 = .ok (.invokevirtual 122, 3) := zo_182 (by decide +kernel)
theorem dX0_treesOf_42 : decode cX0_treesOf 42 = .ok (.ifCond .eq 6, 3) := zo_153 (by decide +kernel)
theorem dX0_treesOf_45 : decode cX0_treesOf 45 = .ok (.iinc 2 1, 3) := zo_132 (by decide +kernel)
theorem dX0_treesOf_48 : decode cX0_treesOf 48 = .ok (.aload_n 0, 1) := zo_42 (by decide +kernel)
theorem dX0_treesOf_49 : decode cX0_treesOf 49 = .ok (.invokevirtual 126, 3) := zo_182 (by decide +kernel)
theorem dX0_treesOf_52 : decode cX0_treesOf 52 = .ok (.iinc 3 1, 3) := zo_132 (by decide +kernel)
theorem dX0_treesOf_55 : decode cX0_treesOf 55 = .ok (.goto (-25), 3) := zo_167 (by decide +kernel)
theorem dX0_treesOf_58 : decode cX0_treesOf 58 = .ok (.iload_n 2, 1) := zo_28 (by decide +kernel)
theorem dX0_treesOf_59 : decode cX0_treesOf 59 = .ok (.ireturn, 1) := zo_172 (by decide +kernel)
theorem dX0_stepOnce_0 : decode cX0_stepOnce 0 = .ok (.iconst 0, 1) := zo_3 (by decide +kernel)
theorem dX0_stepOnce_1 : decode cX0_stepOnce 1 = .ok (.istore_n 1, 1) := zo_60 (by decide +kernel)
theorem dX0_stepOnce_2 : decode cX0_stepOnce 2 = .ok (.iload_n 1, 1) := zo_27 (by decide +kernel)
theorem dX0_stepOnce_3 : decode cX0_stepOnce 3 = .ok (.aload_n 0, 1) := zo_42 (by decide +kernel)
theorem dX0_stepOnce_4 : decode cX0_stepOnce 4 = .ok (.getfield 75, 3) := zo_180 (by decide +kernel)
theorem dX0_stepOnce_7 : decode cX0_stepOnce 7 = .ok (.if_icmp .ge 101, 3) := zo_162 (by decide +kernel)
theorem dX0_stepOnce_10 : decode cX0_stepOnce 10 = .ok (.iload_n 1, 1) := zo_27 (by decide +kernel)
theorem dX0_stepOnce_11 : decode cX0_stepOnce 11 = .ok (.aload_n 0, 1) := zo_42 (by decide +kernel)
theorem dX0_stepOnce_12 : decode cX0_stepOnce 12 = .ok (.getfield 28, 3) := zo_180 (by decide +kernel)
theorem dX0_stepOnce_15 : decode cX0_stepOnce 15 = .ok (.arraylength, 1) := zo_190 (by decide +kernel)
theorem dX0_stepOnce_16 : decode cX0_stepOnce 16 = .ok (.if_icmp .ge 92, 3) := zo_162 (by decide +kernel)
theorem dX0_stepOnce_19 : decode cX0_stepOnce 19 = .ok (.iload_n 1, 1) := zo_27 (by decide +kernel)
theorem dX0_stepOnce_20 : decode cX0_stepOnce 20 = .ok (.aload_n 0, 1) := zo_42 (by decide +kernel)
theorem dX0_stepOnce_21 : decode cX0_stepOnce 21 = .ok (.getfield 31, 3) := zo_180 (by decide +kernel)
theorem dX0_stepOnce_24 : decode cX0_stepOnce 24 = .ok (.arraylength, 1) := zo_190 (by decide +kernel)
theorem dX0_stepOnce_25 : decode cX0_stepOnce 25 = .ok (.if_icmp .ge 83, 3) := zo_162 (by decide +kernel)
theorem dX0_stepOnce_28 : decode cX0_stepOnce 28 = .ok (.iload_n 1, 1) := zo_27 (by decide +kernel)
theorem dX0_stepOnce_29 : decode cX0_stepOnce 29 = .ok (.iconst 3, 1) := zo_6 (by decide +kernel)
theorem dX0_stepOnce_30 : decode cX0_stepOnce 30 = .ok (.ishr, 1) := zo_122 (by decide +kernel)
theorem dX0_stepOnce_31 : decode cX0_stepOnce 31 = .ok (.istore_n 2, 1) := zo_61 (by decide +kernel)
theorem dX0_stepOnce_32 : decode cX0_stepOnce 32 = .ok (.iload_n 1, 1) := zo_27 (by decide +kernel)
theorem dX0_stepOnce_33 : decode cX0_stepOnce 33 = .ok (.bipush 7, 2) := zo_16 (by decide +kernel)
theorem dX0_stepOnce_35 : decode cX0_stepOnce 35 = .ok (.iand, 1) := zo_126 (by decide +kernel)
theorem dX0_stepOnce_36 : decode cX0_stepOnce 36 = .ok (.istore_n 3, 1) := zo_62 (by decide +kernel)
theorem dX0_stepOnce_37 : decode cX0_stepOnce 37 = .ok (.aload_n 0, 1) := zo_42 (by decide +kernel)
theorem dX0_stepOnce_38 : decode cX0_stepOnce 38 = .ok (.iload_n 2, 1) := zo_28 (by decide +kernel)
theorem dX0_stepOnce_39 : decode cX0_stepOnce 39 = .ok (.iload_n 3, 1) := zo_29 (by decide +kernel)
theorem dX0_stepOnce_40 : decode cX0_stepOnce 40 = .ok (.invokevirtual 78, 3) := zo_182 (by decide +kernel)
theorem dX0_stepOnce_43 : decode cX0_stepOnce 43 = .ok (.istore 4, 2) := zo_54 (by decide +kernel)
theorem dX0_stepOnce_45 : decode cX0_stepOnce 45 = .ok (.iload 4, 2) := zo_21 (by decide +kernel)
theorem dX0_stepOnce_47 : decode cX0_stepOnce 47 = .ok (.iconst (-1), 1) := zo_2 (by decide +kernel)
theorem dX0_stepOnce_48 : decode cX0_stepOnce 48 = .ok (.if_icmp .ne 13, 3) := zo_160 (by decide +kernel)
theorem dX0_stepOnce_51 : decode cX0_stepOnce 51 = .ok (.aload_n 0, 1) := zo_42 (by decide +kernel)
theorem dX0_stepOnce_52 : decode cX0_stepOnce 52 = .ok (.getfield 28, 3) := zo_180 (by decide +kernel)
theorem dX0_stepOnce_55 : decode cX0_stepOnce 55 = .ok (.iload_n 1, 1) := zo_27 (by decide +kernel)
theorem dX0_stepOnce_56 : decode cX0_stepOnce 56 = .ok (.iload_n 1, 1) := zo_27 (by decide +kernel)
theorem dX0_stepOnce_57 : decode cX0_stepOnce 57 = .ok (.iastore, 1) := zo_79 (by decide +kernel)
theorem dX0_stepOnce_58 : decode cX0_stepOnce 58 = .ok (.goto 32, 3) := zo_167 (by decide +kernel)
theorem dX0_stepOnce_61 : decode cX0_stepOnce 61 = .ok (.aload_n 0, 1) := zo_42 (by decide +kernel)
theorem dX0_stepOnce_62 : decode cX0_stepOnce 62 = .ok (.getfield 28, 3) := zo_180 (by decide +kernel)
theorem dX0_stepOnce_65 : decode cX0_stepOnce 65 = .ok (.iload_n 1, 1) := zo_27 (by decide +kernel)
theorem dX0_stepOnce_66 : decode cX0_stepOnce 66 = .ok (.iload 4, 2) := zo_21 (by decide +kernel)
theorem dX0_stepOnce_68 : decode cX0_stepOnce 68 = .ok (.aload_n 0, 1) := zo_42 (by decide +kernel)
theorem dX0_stepOnce_69 : decode cX0_stepOnce 69 = .ok (.getfield 14, 3) := zo_180 (by decide +kernel)
theorem dX0_stepOnce_72 : decode cX0_stepOnce 72 = .ok (.iload_n 3, 1) := zo_29 (by decide +kernel)
theorem dX0_stepOnce_73 : decode cX0_stepOnce 73 = .ok (.aload_n 0, 1) := zo_42 (by decide +kernel)
theorem dX0_stepOnce_74 : decode cX0_stepOnce 74 = .ok (.iload 4, 2) := zo_21 (by decide +kernel)
theorem dX0_stepOnce_76 : decode cX0_stepOnce 76 = .ok (.iload_n 3, 1) := zo_29 (by decide +kernel)
theorem dX0_stepOnce_77 : decode cX0_stepOnce 77 = .ok (.invokevirtual 81, 3) := zo_182 (by decide +kernel)
theorem dX0_stepOnce_80 : decode cX0_stepOnce 80 = .ok (.invokevirtual 84, 3) := zo_182 (by decide +kernel)
theorem dX0_stepOnce_83 : decode cX0_stepOnce 83 = .ok (.invokestatic 87, 3) := zo_184 (by decide +kernel)
theorem dX0_stepOnce_86 : decode cX0_stepOnce 86 = .ok (.ldc 71, 2) := zo_18 (by decide +kernel)
theorem dX0_stepOnce_88 : decode cX0_stepOnce 88 = .ok (.iadd, 1) := zo_96 (by decide +kernel)
theorem dX0_stepOnce_89 : decode cX0_stepOnce 89 = .ok (.iastore, 1) := zo_79 (by decide +kernel)
theorem dX0_stepOnce_90 : decode cX0_stepOnce 90 = .ok (.aload_n 0, 1) := zo_42 (by decide +kernel)
theorem dX0_stepOnce_91 : decode cX0_stepOnce 91 = .ok (.getfield 31, 3) := zo_180 (by decide +kernel)
theorem dX0_stepOnce_94 : decode cX0_stepOnce 94 = .ok (.iload_n 1, 1) := zo_27 (by decide +kernel)
theorem dX0_stepOnce_95 : decode cX0_stepOnce 95 = .ok (.aload_n 0, 1) := zo_42 (by decide +kernel)
theorem dX0_stepOnce_96 : decode cX0_stepOnce 96 = .ok (.getfield 28, 3) := zo_180 (by decide +kernel)
theorem dX0_stepOnce_99 : decode cX0_stepOnce 99 = .ok (.iload_n 1, 1) := zo_27 (by decide +kernel)
theorem dX0_stepOnce_100 : decode cX0_stepOnce 100 = .ok (.iaload, 1) := zo_46 (by decide +kernel)
theorem dX0_stepOnce_101 : decode cX0_stepOnce 101 = .ok (.iastore, 1) := zo_79 (by decide +kernel)
theorem dX0_stepOnce_102 : decode cX0_stepOnce 102 = .ok (.iinc 1 1, 3) := zo_132 (by decide +kernel)
theorem dX0_stepOnce_105 : decode cX0_stepOnce 105 = .ok (.goto (-103), 3) := zo_167 (by decide +kernel)
theorem dX0_stepOnce_108 : decode cX0_stepOnce 108 = .ok (.return_, 1) := zo_177 (by decide +kernel)
theorem dX0_oneMore_0 : decode cX0_oneMore 0 = .ok (.iconst 0, 1) := zo_3 (by decide +kernel)
theorem dX0_oneMore_1 : decode cX0_oneMore 1 = .ok (.istore_n 1, 1) := zo_60 (by decide +kernel)
theorem dX0_oneMore_2 : decode cX0_oneMore 2 = .ok (.iload_n 1, 1) := zo_27 (by decide +kernel)
theorem dX0_oneMore_3 : decode cX0_oneMore 3 = .ok (.aload_n 0, 1) := zo_42 (by decide +kernel)
theorem dX0_oneMore_4 : decode cX0_oneMore 4 = .ok (.getfield 75, 3) := zo_180 (by decide +kernel)
theorem dX0_oneMore_7 : decode cX0_oneMore 7 = .ok (.if_icmp .ge 59, 3) := zo_162 (by decide +kernel)
theorem dX0_oneMore_10 : decode cX0_oneMore 10 = .ok (.iload_n 1, 1) := zo_27 (by decide +kernel)
theorem dX0_oneMore_11 : decode cX0_oneMore 11 = .ok (.aload_n 0, 1) := zo_42 (by decide +kernel)
theorem dX0_oneMore_12 : decode cX0_oneMore 12 = .ok (.getfield 31, 3) := zo_180 (by decide +kernel)
theorem dX0_oneMore_15 : decode cX0_oneMore 15 = .ok (.arraylength, 1) := zo_190 (by decide +kernel)
theorem dX0_oneMore_16 : decode cX0_oneMore 16 = .ok (.if_icmp .ge 50, 3) := zo_162 (by decide +kernel)
theorem dX0_oneMore_19 : decode cX0_oneMore 19 = .ok (.aload_n 0, 1) := zo_42 (by decide +kernel)
theorem dX0_oneMore_20 : decode cX0_oneMore 20 = .ok (.getfield 31, 3) := zo_180 (by decide +kernel)
theorem dX0_oneMore_23 : decode cX0_oneMore 23 = .ok (.iload_n 1, 1) := zo_27 (by decide +kernel)
theorem dX0_oneMore_24 : decode cX0_oneMore 24 = .ok (.iaload, 1) := zo_46 (by decide +kernel)
theorem dX0_oneMore_25 : decode cX0_oneMore 25 = .ok (.istore_n 2, 1) := zo_61 (by decide +kernel)
theorem dX0_oneMore_26 : decode cX0_oneMore 26 = .ok (.iload_n 2, 1) := zo_28 (by decide +kernel)
theorem dX0_oneMore_27 : decode cX0_oneMore 27 = .ok (.ldc 90, 2) := zo_18 (by decide +kernel)
theorem dX0_oneMore_29 : decode cX0_oneMore 29 = .ok (.iand, 1) := zo_126 (by decide +kernel)
theorem dX0_oneMore_30 : decode cX0_oneMore 30 = .ok (.istore_n 3, 1) := zo_62 (by decide +kernel)
theorem dX0_oneMore_31 : decode cX0_oneMore 31 = .ok (.aload_n 0, 1) := zo_42 (by decide +kernel)
theorem dX0_oneMore_32 : decode cX0_oneMore 32 = .ok (.getfield 31, 3) := zo_180 (by decide +kernel)
theorem dX0_oneMore_35 : decode cX0_oneMore 35 = .ok (.iload_n 1, 1) := zo_27 (by decide +kernel)
theorem dX0_oneMore_36 : decode cX0_oneMore 36 = .ok (.iload_n 3, 1) := zo_29 (by decide +kernel)
theorem dX0_oneMore_37 : decode cX0_oneMore 37 = .ok (.aload_n 0, 1) := zo_42 (by decide +kernel)
theorem dX0_oneMore_38 : decode cX0_oneMore 38 = .ok (.getfield 28, 3) := zo_180 (by decide +kernel)
theorem dX0_oneMore_41 : decode cX0_oneMore 41 = .ok (.arraylength, 1) := zo_190 (by decide +kernel)
theorem dX0_oneMore_42 : decode cX0_oneMore 42 = .ok (.if_icmp .ge 16, 3) := zo_162 (by decide +kernel)
theorem dX0_oneMore_45 : decode cX0_oneMore 45 = .ok (.aload_n 0, 1) := zo_42 (by decide +kernel)
theorem dX0_oneMore_46 : decode cX0_oneMore 46 = .ok (.getfield 28, 3) := zo_180 (by decide +kernel)
theorem dX0_oneMore_49 : decode cX0_oneMore 49 = .ok (.iload_n 3, 1) := zo_29 (by decide +kernel)
theorem dX0_oneMore_50 : decode cX0_oneMore 50 = .ok (.iaload, 1) := zo_46 (by decide +kernel)
theorem dX0_oneMore_51 : decode cX0_oneMore 51 = .ok (.iload_n 2, 1) := zo_28 (by decide +kernel)
theorem dX0_oneMore_52 : decode cX0_oneMore 52 = .ok (.iload_n 3, 1) := zo_29 (by decide +kernel)
theorem dX0_oneMore_53 : decode cX0_oneMore 53 = .ok (.isub, 1) := zo_100 (by decide +kernel)
theorem dX0_oneMore_54 : decode cX0_oneMore 54 = .ok (.iadd, 1) := zo_96 (by decide +kernel)
theorem dX0_oneMore_55 : decode cX0_oneMore 55 = .ok (.goto 4, 3) := zo_167 (by decide +kernel)
theorem dX0_oneMore_58 : decode cX0_oneMore 58 = .ok (.iload_n 2, 1) := zo_28 (by decide +kernel)
theorem dX0_oneMore_59 : decode cX0_oneMore 59 = .ok (.iastore, 1) := zo_79 (by decide +kernel)
theorem dX0_oneMore_60 : decode cX0_oneMore 60 = .ok (.iinc 1 1, 3) := zo_132 (by decide +kernel)
theorem dX0_oneMore_63 : decode cX0_oneMore 63 = .ok (.goto (-61), 3) := zo_167 (by decide +kernel)
theorem dX0_oneMore_66 : decode cX0_oneMore 66 = .ok (.return_, 1) := zo_177 (by decide +kernel)
theorem dX0_doubleAll_0 : decode cX0_doubleAll 0 = .ok (.aload_n 0, 1) := zo_42 (by decide +kernel)
theorem dX0_doubleAll_1 : decode cX0_doubleAll 1 = .ok (.getfield 31, 3) := zo_180 (by decide +kernel)
theorem dX0_doubleAll_4 : decode cX0_doubleAll 4 = .ok (.astore_n 1, 1) := zo_76 (by decide +kernel)
theorem dX0_doubleAll_5 : decode cX0_doubleAll 5 = .ok (.aload_n 0, 1) := zo_42 (by decide +kernel)
theorem dX0_doubleAll_6 : decode cX0_doubleAll 6 = .ok (.getfield 34, 3) := zo_180 (by decide +kernel)
theorem dX0_doubleAll_9 : decode cX0_doubleAll 9 = .ok (.astore_n 2, 1) := zo_77 (by decide +kernel)
theorem dX0_doubleAll_10 : decode cX0_doubleAll 10 = .ok (.iconst 0, 1) := zo_3 (by decide +kernel)
theorem dX0_doubleAll_11 : decode cX0_doubleAll 11 = .ok (.istore_n 3, 1) := zo_62 (by decide +kernel)
theorem dX0_doubleAll_12 : decode cX0_doubleAll 12 = .ok (.iload_n 3, 1) := zo_29 (by decide +kernel)
theorem dX0_doubleAll_13 : decode cX0_doubleAll 13 = .ok (.aload_n 0, 1) := zo_42 (by decide +kernel)
theorem dX0_doubleAll_14 : decode cX0_doubleAll 14 = .ok (.getfield 75, 3) := zo_180 (by decide +kernel)
theorem dX0_doubleAll_17 : decode cX0_doubleAll 17 = .ok (.if_icmp .ge 58, 3) := zo_162 (by decide +kernel)
theorem dX0_doubleAll_20 : decode cX0_doubleAll 20 = .ok (.iload_n 3, 1) := zo_29 (by decide +kernel)
theorem dX0_doubleAll_21 : decode cX0_doubleAll 21 = .ok (.aload_n 1, 1) := zo_43 (by decide +kernel)
theorem dX0_doubleAll_22 : decode cX0_doubleAll 22 = .ok (.arraylength, 1) := zo_190 (by decide +kernel)
theorem dX0_doubleAll_23 : decode cX0_doubleAll 23 = .ok (.if_icmp .ge 52, 3) := zo_162 (by decide +kernel)
theorem dX0_doubleAll_26 : decode cX0_doubleAll 26 = .ok (.iload_n 3, 1) := zo_29 (by decide +kernel)
theorem dX0_doubleAll_27 : decode cX0_doubleAll 27 = .ok (.aload_n 2, 1) := zo_44 (by decide +kernel)
theorem dX0_doubleAll_28 : decode cX0_doubleAll 28 = .ok (.arraylength, 1) := zo_190 (by decide +kernel)
theorem dX0_doubleAll_29 : decode cX0_doubleAll 29 = .ok (.if_icmp .ge 46, 3) := zo_162 (by decide +kernel)
theorem dX0_doubleAll_32 : decode cX0_doubleAll 32 = .ok (.aload_n 1, 1) := zo_43 (by decide +kernel)
theorem dX0_doubleAll_33 : decode cX0_doubleAll 33 = .ok (.iload_n 3, 1) := zo_29 (by decide +kernel)
theorem dX0_doubleAll_34 : decode cX0_doubleAll 34 = .ok (.iaload, 1) := zo_46 (by decide +kernel)
theorem dX0_doubleAll_35 : decode cX0_doubleAll 35 = .ok (.istore 4, 2) := zo_54 (by decide +kernel)
theorem dX0_doubleAll_37 : decode cX0_doubleAll 37 = .ok (.iload 4, 2) := zo_21 (by decide +kernel)
theorem dX0_doubleAll_39 : decode cX0_doubleAll 39 = .ok (.ldc 90, 2) := zo_18 (by decide +kernel)
theorem dX0_doubleAll_41 : decode cX0_doubleAll 41 = .ok (.iand, 1) := zo_126 (by decide +kernel)
theorem dX0_doubleAll_42 : decode cX0_doubleAll 42 = .ok (.istore 5, 2) := zo_54 (by decide +kernel)
theorem dX0_doubleAll_44 : decode cX0_doubleAll 44 = .ok (.aload_n 2, 1) := zo_44 (by decide +kernel)
theorem dX0_doubleAll_45 : decode cX0_doubleAll 45 = .ok (.iload_n 3, 1) := zo_29 (by decide +kernel)
theorem dX0_doubleAll_46 : decode cX0_doubleAll 46 = .ok (.iload 5, 2) := zo_21 (by decide +kernel)
theorem dX0_doubleAll_48 : decode cX0_doubleAll 48 = .ok (.aload_n 1, 1) := zo_43 (by decide +kernel)
theorem dX0_doubleAll_49 : decode cX0_doubleAll 49 = .ok (.arraylength, 1) := zo_190 (by decide +kernel)
theorem dX0_doubleAll_50 : decode cX0_doubleAll 50 = .ok (.if_icmp .ge 16, 3) := zo_162 (by decide +kernel)
theorem dX0_doubleAll_53 : decode cX0_doubleAll 53 = .ok (.aload_n 1, 1) := zo_43 (by decide +kernel)
theorem dX0_doubleAll_54 : decode cX0_doubleAll 54 = .ok (.iload 5, 2) := zo_21 (by decide +kernel)
theorem dX0_doubleAll_56 : decode cX0_doubleAll 56 = .ok (.iaload, 1) := zo_46 (by decide +kernel)
theorem dX0_doubleAll_57 : decode cX0_doubleAll 57 = .ok (.iload 4, 2) := zo_21 (by decide +kernel)
theorem dX0_doubleAll_59 : decode cX0_doubleAll 59 = .ok (.iload 5, 2) := zo_21 (by decide +kernel)
theorem dX0_doubleAll_61 : decode cX0_doubleAll 61 = .ok (.isub, 1) := zo_100 (by decide +kernel)
theorem dX0_doubleAll_62 : decode cX0_doubleAll 62 = .ok (.iadd, 1) := zo_96 (by decide +kernel)
theorem dX0_doubleAll_63 : decode cX0_doubleAll 63 = .ok (.goto 5, 3) := zo_167 (by decide +kernel)
theorem dX0_doubleAll_66 : decode cX0_doubleAll 66 = .ok (.iload 4, 2) := zo_21 (by decide +kernel)
theorem dX0_doubleAll_68 : decode cX0_doubleAll 68 = .ok (.iastore, 1) := zo_79 (by decide +kernel)
theorem dX0_doubleAll_69 : decode cX0_doubleAll 69 = .ok (.iinc 3 1, 3) := zo_132 (by decide +kernel)
theorem dX0_doubleAll_72 : decode cX0_doubleAll 72 = .ok (.goto (-60), 3) := zo_167 (by decide +kernel)
theorem dX0_doubleAll_75 : decode cX0_doubleAll 75 = .ok (.aload_n 0, 1) := zo_42 (by decide +kernel)
theorem dX0_doubleAll_76 : decode cX0_doubleAll 76 = .ok (.aload_n 2, 1) := zo_44 (by decide +kernel)
theorem dX0_doubleAll_77 : decode cX0_doubleAll 77 = .ok (.putfield 31, 3) := zo_181 (by decide +kernel)
theorem dX0_doubleAll_80 : decode cX0_doubleAll 80 = .ok (.aload_n 0, 1) := zo_42 (by decide +kernel)
theorem dX0_doubleAll_81 : decode cX0_doubleAll 81 = .ok (.aload_n 1, 1) := zo_43 (by decide +kernel)
theorem dX0_doubleAll_82 : decode cX0_doubleAll 82 = .ok (.putfield 34, 3) := zo_181 (by decide +kernel)
theorem dX0_doubleAll_85 : decode cX0_doubleAll 85 = .ok (.return_, 1) := zo_177 (by decide +kernel)
def zCh (cr inn : Int32) (k1 : Nat → Int32) (x : Int32) : Int32 := if zWays cr inn k1 x < 1 then 1 else zWays cr inn k1 x
def zWyN (cr inn : Int32) (k1 : Nat → Int32) : Nat → Int32
  | 0 => 1
  | 1 => 1 * zCh cr inn k1 6
  | 2 => 1 * zCh cr inn k1 6 * zCh cr inn k1 5
  | 3 => 1 * zCh cr inn k1 6 * zCh cr inn k1 5 * zCh cr inn k1 4
  | 4 => 1 * zCh cr inn k1 6 * zCh cr inn k1 5 * zCh cr inn k1 4 * zCh cr inn k1 3
  | 5 => 1 * zCh cr inn k1 6 * zCh cr inn k1 5 * zCh cr inn k1 4 * zCh cr inn k1 3 * zCh cr inn k1 2
  | 6 => 1 * zCh cr inn k1 6 * zCh cr inn k1 5 * zCh cr inn k1 4 * zCh cr inn k1 3 * zCh cr inn k1 2 * zCh cr inn k1 1
  | _ => 1 * zCh cr inn k1 6 * zCh cr inn k1 5 * zCh cr inn k1 4 * zCh cr inn k1 3 * zCh cr inn k1 2 * zCh cr inn k1 1 * zCh cr inn k1 0
def zWy (cr inn : Int32) (k1 : Nat → Int32) : Int32 := zWyN cr inn k1 7
def zPl (cr inn : Int32) (k1 : Nat → Int32) : Int32 := if (131072 : Int32) < zWy cr inn k1 <<< (3 &&& 31) then 131072 else zWy cr inn k1 <<< (3 &&& 31)
theorem zPl_le (cr inn : Int32) (k1 : Nat → Int32) : (zPl cr inn k1).toInt ≤ 131072 := by
  unfold zPl
  split
  · decide
  · rename_i q
    exact Int.not_lt.mp (fun z => q ((fa_lt _ _).mpr z))
/-- how long the rows are made -/
def zLenN (pl : Int32) : Nat → Nat → Nat
  | 0, L => L
  | k + 1, L => if (L : Int) < pl.toInt ∧ L < 131072 then zLenN pl k (2 * L) else L
def zNl (n : Nat) (pl : Int32) : Nat := if pl.toInt ≤ n then n else zLenN pl 12 64
def zPw (n : Nat) : Prop := n = 0 ∨ ∃ k, k ≤ 11 ∧ n = 64 * 2 ^ k
theorem zLenN_pw {pl : Int32} : ∀ (f k : Nat), k ≤ 11 → 11 ≤ f + k → ∃ j, k ≤ j ∧ j ≤ 11 ∧ zLenN pl f (64 * 2 ^ k) = 64 * 2 ^ j
  | 0, k, h, h2 => ⟨k, Nat.le_refl _, h, rfl⟩
  | f + 1, k, h, h2 => by
    rw [zLenN]
    split
    · rename_i q
      have hk : k < 11 := by
        rcases Nat.lt_or_ge k 11 with z | z
        · exact z
        · have e : k = 11 := by omega
          subst e
          exact absurd q.2 (by decide)
      rw [show 2 * (64 * 2 ^ k) = 64 * 2 ^ (k + 1) by rw [Nat.pow_succ]; omega]
      obtain ⟨j, h3, h4, h5⟩ := zLenN_pw f (k + 1) (by omega) (by omega)
      exact ⟨j, by omega, h4, h5⟩
    · exact ⟨k, Nat.le_refl _, h, rfl⟩
theorem zLenN_ge {pl : Int32} (hp : pl.toInt ≤ 131072) : ∀ (f k : Nat), k ≤ 11 → 12 ≤ f + k → pl.toInt ≤ (zLenN pl f (64 * 2 ^ k) : Nat)
  | 0, k, h, h2 => by omega
  | f + 1, k, h, h2 => by
    rw [zLenN]
    split
    · rename_i q
      have hk : k < 11 := by
        rcases Nat.lt_or_ge k 11 with z | z
        · exact z
        · have e : k = 11 := by omega
          subst e
          exact absurd q.2 (by decide)
      rw [show 2 * (64 * 2 ^ k) = 64 * 2 ^ (k + 1) by rw [Nat.pow_succ]; omega]
      exact zLenN_ge hp f (k + 1) (by omega) (by omega)
    · rename_i q
      by_cases z : (64 * 2 ^ k : Nat) < 131072
      · by_cases y : ((64 * 2 ^ k : Nat) : Int) < pl.toInt
        · exact absurd ⟨y, z⟩ q
        · omega
      · omega
theorem zPw_le {n : Nat} (h : zPw n) : n ≤ 131072 := by
  rcases h with h | ⟨k, h1, h2⟩
  · omega
  · have h3 : 2 ^ k ≤ 2 ^ 11 := Nat.pow_le_pow_right (by decide) h1
    rw [h2]
    omega
theorem zNl_pw {n : Nat} {pl : Int32} (h : zPw n) : zPw (zNl n pl) := by
  unfold zNl
  split
  · exact h
  · obtain ⟨j, h1, h2, h3⟩ := zLenN_pw (pl := pl) 12 0 (by decide) (by decide)
    exact Or.inr ⟨j, h2, h3⟩
theorem zNl_room {n : Nat} {pl : Int32} (h : zPw n) (hp : pl.toInt ≤ 131072) (hg : ¬ pl.toInt ≤ n) : 2 * n ≤ zLenN pl 12 64 := by
  have h0 := zLenN_ge hp 12 0 (by decide) (by decide)
  obtain ⟨j, h1, h2, h3⟩ := zLenN_pw (pl := pl) 12 0 (by decide) (by decide)
  have e : (64 * 2 ^ 0 : Nat) = 64 := by decide
  rw [e] at h0 h3
  rcases h with h | ⟨k, k1, k2⟩
  · omega
  · rw [h3] at h0 ⊢
    rw [k2] at hg ⊢
    have hlt : 64 * 2 ^ k < 64 * 2 ^ j := by omega
    have hkj : k < j := by
      rcases Nat.lt_or_ge k j with z | z
      · exact z
      · have := Nat.pow_le_pow_right (n := 2) (by decide) z
        omega
    have h5 : 2 ^ (k + 1) ≤ 2 ^ j := Nat.pow_le_pow_right (by decide) hkj
    rw [Nat.pow_succ] at h5
    omega
theorem z_k11 {k L : Nat} (hk : k ≤ 11) (hL : L = 64 * 2 ^ k) (h : L < 131072) : k + 1 ≤ 11 := by
  rcases Nat.lt_or_ge k 11 with z | z
  · omega
  · have e : k = 11 := by omega
    subst e
    omega
theorem z_k11b {k L : Nat} (hk : k ≤ 11) (hL : L = 64 * 2 ^ k) (h : L < 131072) : L * 2 ≤ 131072 := by
  have h1 := z_k11 hk hL h
  have h2 : 2 ^ (k + 1) ≤ 2 ^ 11 := Nat.pow_le_pow_right (by decide) h1
  rw [Nat.pow_succ] at h2
  omega
set_option maxHeartbeats 4000000 in
set_option maxRecDepth 100000 in
/-- countWays -/
theorem c_countWays (l : Launch) (T : zTy) (h : Nat) (la : Nat) (md : Int32) (wy : Int32) (pc_ : Int32) (f1 : Nat → Int32) (f2 : Nat → Int32) (f3 : Nat → Int32) (f4 : Nat → Int32) (f5 : Nat → Int32) (f6 : Nat → Int32) (n4 : Nat) (ww : va_W) (o : Nat) (cr : Int32) (inn : Int32) (k1 : Nat → Int32) (k2 : Nat → Int32) (k3 : Nat → Int32) (k4 : Nat → Int32) (z : va_W) (hww : bWays T h la md wy pc_ f1 f2 f3 f4 f5 f6 n4 ww) (hz : bLand T o cr inn k1 k2 k3 k4 z) : zMv l T yX0_countWays cX0_countWays 3 2 0 0 [.ref h, .ref o] [ww, z] (fun bs => ∃ (w2 : va_W) (g1 : Nat → Int32) (g2 : Nat → Int32), bs = [w2, z] ∧ bWays T h o md (zWy cr inn k1) (zPl cr inn k1) g1 g2 f3 f4 f5 f6 n4 w2) := by
  refine zMv_of (own := RX0) (by decide) rfl (Nat.le_of_ble_eq_true rfl) ?_
  intro p e s m args below meth c A ls C hr hlocks hnm hAe G hl
  refine zHide (fun Qz_ hQz_ => ?_)
  have hx := C.1
  have hb := C.2.1
  have hl : lv_has ls 3 [(0, .ref h), (1, .ref o)] := hl
  have hz0 : (1 : Int32) = zWyN cr inn k1 0 := rfl
  refine lv_aload_n hx hb dX0_countWays_0 rfl (lv_at hl 0 rfl) ?_
  refine lv_aload_n hx hb dX0_countWays_1 rfl (lv_at hl 1 rfl) ?_
  refine zEx6 hww ?_
  intro a1_1 a2_2 a3_3 a4_4 a5_5 a6_6 hbs9
  clear hww
  subst hbs9
  have G : zS T A s.heap s [[zO0 h md wy la pc_ a1_1 a2_2 a3_3 a4_4 a5_5 a6_6], [zAr T 0 a1_1 7 f1], [zAr T 0 a2_2 7 f2], [zAr T 0 a3_3 7 f3], [zAr T 0 a4_4 n4 f4], [zAr T 0 a5_5 n4 f5], [zAr T 0 a6_6 n4 f6], z] _ _ := G.re rfl
  refine z_put C G clX0 0 rfl 2 (by decide) m_fl_RX0_14 rfl rfl rfl (Nat.le_of_ble_eq_true rfl) dX0_countWays_2 (fun H locs G => ?_)
  have G : zS T A s.heap s [[zO0 h md wy o pc_ a1_1 a2_2 a3_3 a4_4 a5_5 a6_6], [zAr T 0 a1_1 7 f1], [zAr T 0 a2_2 7 f2], [zAr T 0 a3_3 7 f3], [zAr T 0 a4_4 n4 f4], [zAr T 0 a5_5 n4 f5], [zAr T 0 a6_6 n4 f6], z] _ _ := G
  refine lv_aload_n hx hb dX0_countWays_5 rfl (lv_at hl 0 rfl) ?_
  refine lv_iconst (v := 1) hx hb dX0_countWays_6 (by decide) ?_
  refine z_put C G clX0 0 rfl 1 (by decide) m_fl_RX0_57 rfl rfl rfl (Nat.le_of_ble_eq_true rfl) dX0_countWays_7 (fun H locs G => ?_)
  have G : zS T A s.heap s [[zO0 h md 1 o pc_ a1_1 a2_2 a3_3 a4_4 a5_5 a6_6], [zAr T 0 a1_1 7 f1], [zAr T 0 a2_2 7 f2], [zAr T 0 a3_3 7 f3], [zAr T 0 a4_4 n4 f4], [zAr T 0 a5_5 n4 f5], [zAr T 0 a6_6 n4 f6], z] _ _ := G
  refine lv_bipush (v := 6) hx hb dX0_countWays_10 (by decide) ?_
  refine lv_istore_n (lv' := [(2, .int 6), (0, .ref h), (1, .ref o)]) hx hb dX0_countWays_12 rfl hl (by decide) (zLvf_h rfl) (fun ls hl => ?_)
  refine lv_iload_n hx hb dX0_countWays_13 rfl (lv_at hl 0 rfl) ?_
  refine lv_if_lt (tgt := 63) hx hb dX0_countWays_14 (by decide) (fun q => absurd q (by decide)) (fun _ => ?_)
  refine lv_aload_n hx hb dX0_countWays_17 rfl (lv_at hl 1 rfl) ?_
  refine z_get C G clX0 0 rfl 4 (by decide) m_fl_RX0_18 rfl dX0_countWays_18 ?_
  refine lv_iload_n hx hb dX0_countWays_21 rfl (lv_at hl 0 rfl) ?_
  refine lv_aload_n hx hb dX0_countWays_22 rfl (lv_at hl 2 rfl) ?_
  refine lv_iload_n hx hb dX0_countWays_23 rfl (lv_at hl 0 rfl) ?_
  refine z_Vi (bc := [z]) (br := [[zO0 h md 1 o pc_ a1_1 a2_2 a3_3 a4_4 a5_5 a6_6], [zAr T 0 a1_1 7 f1], [zAr T 0 a2_2 7 f2], [zAr T 0 a3_3 7 f3], [zAr T 0 a4_4 n4 f4], [zAr T 0 a5_5 n4 f5], [zAr T 0 a6_6 n4 f6]]) (As := [.int 6]) (rest := [.int 6, .ref a1_1]) C G (c_waysOut l T o cr inn k1 k2 k3 k4 z 6 hz) (kV_RX0_61 C.2.2.2.2 (Nat.le_of_ble_eq_true rfl) (Nat.le_of_ble_eq_true rfl)) [7] [7] rfl rfl (ci := 4) (qc := (RX4, TX4, 6)) rfl rfl (List.mem_flatten.mpr ⟨_, List.mem_of_getElem? (i := 0) rfl, (bLand_mem hz).choose_spec⟩) rfl rfl hl.1 dX0_countWays_24 (Nat.le_of_ble_eq_true rfl) (Nat.le_of_ble_eq_true rfl) (fun r_8 b1 H locs hw G => ?_)
  refine zAn2 hw ?_
  intro hbs9 h_7
  clear hw
  subst hbs9
  have G : zS T A s.heap s [[zO0 h md 1 o pc_ a1_1 a2_2 a3_3 a4_4 a5_5 a6_6], [zAr T 0 a1_1 7 f1], [zAr T 0 a2_2 7 f2], [zAr T 0 a3_3 7 f3], [zAr T 0 a4_4 n4 f4], [zAr T 0 a5_5 n4 f5], [zAr T 0 a6_6 n4 f6], z] _ _ := G
  subst h_7
  refine lv_iconst (v := 1) hx hb dX0_countWays_27 (by decide) ?_
  refine va_mmax hx hb (C.2.2.1.trans hl.1.symm) C.2.2.2.1 (C.2.2.2.2 _ m_ml_RX0_65) (C.2.2.2.2 _ m_st_math_max) (C.2.2.2.2 _ m_ii_math) (C.2.2.2.2 _ m_co_math_max) (Nat.le_of_ble_eq_true rfl) (Nat.le_of_ble_eq_true rfl) (Nat.le_of_ble_eq_true rfl) (Nat.le_of_ble_eq_true rfl) dX0_countWays_28 ?_
  refine lv_topi (fun v_9 ev_9 => ?_)
  subst ev_9
  refine lv_topi (fun y_10 ey_10 => ?_)
  obtain rfl : y_10 = zCh cr inn k1 6 := ey_10
  refine z_ist C G 1 rfl (vp_in_nI (n := 6) (by decide) (by decide)) dX0_countWays_31 (fun H locs G => ?_)
  have G : zS T A s.heap s [[zO0 h md 1 o pc_ a1_1 a2_2 a3_3 a4_4 a5_5 a6_6], [zAr T 0 a1_1 7 (upd f1 6 (zCh cr inn k1 6))], [zAr T 0 a2_2 7 f2], [zAr T 0 a3_3 7 f3], [zAr T 0 a4_4 n4 f4], [zAr T 0 a5_5 n4 f5], [zAr T 0 a6_6 n4 f6], z] _ _ := G
  refine lv_aload_n hx hb dX0_countWays_32 rfl (lv_at hl 1 rfl) ?_
  refine z_get C G clX0 0 rfl 5 (by decide) m_fl_RX0_22 rfl dX0_countWays_33 ?_
  refine lv_iload_n hx hb dX0_countWays_36 rfl (lv_at hl 0 rfl) ?_
  refine lv_aload_n hx hb dX0_countWays_37 rfl (lv_at hl 1 rfl) ?_
  refine z_get C G clX0 0 rfl 1 (by decide) m_fl_RX0_57 rfl dX0_countWays_38 ?_
  refine z_ist C G 2 rfl (vp_in_nI (n := 6) (by decide) (by decide)) dX0_countWays_41 (fun H locs G => ?_)
  have G : zS T A s.heap s [[zO0 h md 1 o pc_ a1_1 a2_2 a3_3 a4_4 a5_5 a6_6], [zAr T 0 a1_1 7 (upd f1 6 (zCh cr inn k1 6))], [zAr T 0 a2_2 7 (upd f2 6 1)], [zAr T 0 a3_3 7 f3], [zAr T 0 a4_4 n4 f4], [zAr T 0 a5_5 n4 f5], [zAr T 0 a6_6 n4 f6], z] _ _ := G
  refine lv_aload_n hx hb dX0_countWays_42 rfl (lv_at hl 1 rfl) ?_
  refine lv_dup hx hb dX0_countWays_43 rfl ?_
  refine z_get C G clX0 0 rfl 1 (by decide) m_fl_RX0_57 rfl dX0_countWays_44 ?_
  refine lv_aload_n hx hb dX0_countWays_47 rfl (lv_at hl 1 rfl) ?_
  refine z_get C G clX0 0 rfl 4 (by decide) m_fl_RX0_18 rfl dX0_countWays_48 ?_
  refine lv_iload_n hx hb dX0_countWays_51 rfl (lv_at hl 0 rfl) ?_
  refine z_ild C G 1 rfl (vp_in_nI (n := 6) (by decide) (by decide)) dX0_countWays_52 ?_
  refine lv_topi (fun v_11 ev_11 => ?_)
  have ev_11 : v_11 = zCh cr inn k1 6 := ev_11
  subst ev_11
  refine lv_imul hx hb dX0_countWays_53 ?_
  refine lv_topi (fun y_12 ey_12 => ?_)
  obtain rfl : y_12 = zWyN cr inn k1 1 := ey_12
  refine z_put C G clX0 0 rfl 1 (by decide) m_fl_RX0_57 rfl rfl rfl (Nat.le_of_ble_eq_true rfl) dX0_countWays_54 (fun H locs G => ?_)
  have G : zS T A s.heap s [[zO0 h md (zWyN cr inn k1 1) o pc_ a1_1 a2_2 a3_3 a4_4 a5_5 a6_6], [zAr T 0 a1_1 7 (upd f1 6 (zCh cr inn k1 6))], [zAr T 0 a2_2 7 (upd f2 6 1)], [zAr T 0 a3_3 7 f3], [zAr T 0 a4_4 n4 f4], [zAr T 0 a5_5 n4 f5], [zAr T 0 a6_6 n4 f6], z] _ _ := G
  refine lv_iinc (v := 5) (lv' := [(2, .int 5), (0, .ref h), (1, .ref o)]) hx hb dX0_countWays_57 hl (k := 0) rfl (by decide) (by decide) (zLvf_h rfl) (fun ls hl => ?_)
  refine lv_goto (tgt := 13) hx hb dX0_countWays_60 (by decide) ?_
  refine lv_iload_n hx hb dX0_countWays_13 rfl (lv_at hl 0 rfl) ?_
  refine lv_if_lt (tgt := 63) hx hb dX0_countWays_14 (by decide) (fun q => absurd q (by decide)) (fun _ => ?_)
  refine lv_aload_n hx hb dX0_countWays_17 rfl (lv_at hl 1 rfl) ?_
  refine z_get C G clX0 0 rfl 4 (by decide) m_fl_RX0_18 rfl dX0_countWays_18 ?_
  refine lv_iload_n hx hb dX0_countWays_21 rfl (lv_at hl 0 rfl) ?_
  refine lv_aload_n hx hb dX0_countWays_22 rfl (lv_at hl 2 rfl) ?_
  refine lv_iload_n hx hb dX0_countWays_23 rfl (lv_at hl 0 rfl) ?_
  refine z_Vi (bc := [z]) (br := [[zO0 h md (zWyN cr inn k1 1) o pc_ a1_1 a2_2 a3_3 a4_4 a5_5 a6_6], [zAr T 0 a1_1 7 (upd f1 6 (zCh cr inn k1 6))], [zAr T 0 a2_2 7 (upd f2 6 1)], [zAr T 0 a3_3 7 f3], [zAr T 0 a4_4 n4 f4], [zAr T 0 a5_5 n4 f5], [zAr T 0 a6_6 n4 f6]]) (As := [.int 5]) (rest := [.int 5, .ref a1_1]) C G (c_waysOut l T o cr inn k1 k2 k3 k4 z 5 hz) (kV_RX0_61 C.2.2.2.2 (Nat.le_of_ble_eq_true rfl) (Nat.le_of_ble_eq_true rfl)) [7] [7] rfl rfl (ci := 4) (qc := (RX4, TX4, 6)) rfl rfl (List.mem_flatten.mpr ⟨_, List.mem_of_getElem? (i := 0) rfl, (bLand_mem hz).choose_spec⟩) rfl rfl hl.1 dX0_countWays_24 (Nat.le_of_ble_eq_true rfl) (Nat.le_of_ble_eq_true rfl) (fun r_14 b1 H locs hw G => ?_)
  refine zAn2 hw ?_
  intro hbs9 h_13
  clear hw
  subst hbs9
  have G : zS T A s.heap s [[zO0 h md (zWyN cr inn k1 1) o pc_ a1_1 a2_2 a3_3 a4_4 a5_5 a6_6], [zAr T 0 a1_1 7 (upd f1 6 (zCh cr inn k1 6))], [zAr T 0 a2_2 7 (upd f2 6 1)], [zAr T 0 a3_3 7 f3], [zAr T 0 a4_4 n4 f4], [zAr T 0 a5_5 n4 f5], [zAr T 0 a6_6 n4 f6], z] _ _ := G
  subst h_13
  refine lv_iconst (v := 1) hx hb dX0_countWays_27 (by decide) ?_
  refine va_mmax hx hb (C.2.2.1.trans hl.1.symm) C.2.2.2.1 (C.2.2.2.2 _ m_ml_RX0_65) (C.2.2.2.2 _ m_st_math_max) (C.2.2.2.2 _ m_ii_math) (C.2.2.2.2 _ m_co_math_max) (Nat.le_of_ble_eq_true rfl) (Nat.le_of_ble_eq_true rfl) (Nat.le_of_ble_eq_true rfl) (Nat.le_of_ble_eq_true rfl) dX0_countWays_28 ?_
  refine lv_topi (fun v_15 ev_15 => ?_)
  subst ev_15
  refine lv_topi (fun y_16 ey_16 => ?_)
  obtain rfl : y_16 = zCh cr inn k1 5 := ey_16
  refine z_ist C G 1 rfl (vp_in_nI (n := 5) (by decide) (by decide)) dX0_countWays_31 (fun H locs G => ?_)
  have G : zS T A s.heap s [[zO0 h md (zWyN cr inn k1 1) o pc_ a1_1 a2_2 a3_3 a4_4 a5_5 a6_6], [zAr T 0 a1_1 7 (upd (upd f1 6 (zCh cr inn k1 6)) 5 (zCh cr inn k1 5))], [zAr T 0 a2_2 7 (upd f2 6 1)], [zAr T 0 a3_3 7 f3], [zAr T 0 a4_4 n4 f4], [zAr T 0 a5_5 n4 f5], [zAr T 0 a6_6 n4 f6], z] _ _ := G
  refine lv_aload_n hx hb dX0_countWays_32 rfl (lv_at hl 1 rfl) ?_
  refine z_get C G clX0 0 rfl 5 (by decide) m_fl_RX0_22 rfl dX0_countWays_33 ?_
  refine lv_iload_n hx hb dX0_countWays_36 rfl (lv_at hl 0 rfl) ?_
  refine lv_aload_n hx hb dX0_countWays_37 rfl (lv_at hl 1 rfl) ?_
  refine z_get C G clX0 0 rfl 1 (by decide) m_fl_RX0_57 rfl dX0_countWays_38 ?_
  refine z_ist C G 2 rfl (vp_in_nI (n := 5) (by decide) (by decide)) dX0_countWays_41 (fun H locs G => ?_)
  have G : zS T A s.heap s [[zO0 h md (zWyN cr inn k1 1) o pc_ a1_1 a2_2 a3_3 a4_4 a5_5 a6_6], [zAr T 0 a1_1 7 (upd (upd f1 6 (zCh cr inn k1 6)) 5 (zCh cr inn k1 5))], [zAr T 0 a2_2 7 (upd (upd f2 6 1) 5 (zWyN cr inn k1 1))], [zAr T 0 a3_3 7 f3], [zAr T 0 a4_4 n4 f4], [zAr T 0 a5_5 n4 f5], [zAr T 0 a6_6 n4 f6], z] _ _ := G
  refine lv_aload_n hx hb dX0_countWays_42 rfl (lv_at hl 1 rfl) ?_
  refine lv_dup hx hb dX0_countWays_43 rfl ?_
  refine z_get C G clX0 0 rfl 1 (by decide) m_fl_RX0_57 rfl dX0_countWays_44 ?_
  refine lv_aload_n hx hb dX0_countWays_47 rfl (lv_at hl 1 rfl) ?_
  refine z_get C G clX0 0 rfl 4 (by decide) m_fl_RX0_18 rfl dX0_countWays_48 ?_
  refine lv_iload_n hx hb dX0_countWays_51 rfl (lv_at hl 0 rfl) ?_
  refine z_ild C G 1 rfl (vp_in_nI (n := 5) (by decide) (by decide)) dX0_countWays_52 ?_
  refine lv_topi (fun v_17 ev_17 => ?_)
  have ev_17 : v_17 = zCh cr inn k1 5 := ev_17
  subst ev_17
  refine lv_imul hx hb dX0_countWays_53 ?_
  refine lv_topi (fun y_18 ey_18 => ?_)
  obtain rfl : y_18 = zWyN cr inn k1 2 := ey_18
  refine z_put C G clX0 0 rfl 1 (by decide) m_fl_RX0_57 rfl rfl rfl (Nat.le_of_ble_eq_true rfl) dX0_countWays_54 (fun H locs G => ?_)
  have G : zS T A s.heap s [[zO0 h md (zWyN cr inn k1 2) o pc_ a1_1 a2_2 a3_3 a4_4 a5_5 a6_6], [zAr T 0 a1_1 7 (upd (upd f1 6 (zCh cr inn k1 6)) 5 (zCh cr inn k1 5))], [zAr T 0 a2_2 7 (upd (upd f2 6 1) 5 (zWyN cr inn k1 1))], [zAr T 0 a3_3 7 f3], [zAr T 0 a4_4 n4 f4], [zAr T 0 a5_5 n4 f5], [zAr T 0 a6_6 n4 f6], z] _ _ := G
  refine lv_iinc (v := 4) (lv' := [(2, .int 4), (0, .ref h), (1, .ref o)]) hx hb dX0_countWays_57 hl (k := 0) rfl (by decide) (by decide) (zLvf_h rfl) (fun ls hl => ?_)
  refine lv_goto (tgt := 13) hx hb dX0_countWays_60 (by decide) ?_
  refine lv_iload_n hx hb dX0_countWays_13 rfl (lv_at hl 0 rfl) ?_
  refine lv_if_lt (tgt := 63) hx hb dX0_countWays_14 (by decide) (fun q => absurd q (by decide)) (fun _ => ?_)
  refine lv_aload_n hx hb dX0_countWays_17 rfl (lv_at hl 1 rfl) ?_
  refine z_get C G clX0 0 rfl 4 (by decide) m_fl_RX0_18 rfl dX0_countWays_18 ?_
  refine lv_iload_n hx hb dX0_countWays_21 rfl (lv_at hl 0 rfl) ?_
  refine lv_aload_n hx hb dX0_countWays_22 rfl (lv_at hl 2 rfl) ?_
  refine lv_iload_n hx hb dX0_countWays_23 rfl (lv_at hl 0 rfl) ?_
  refine z_Vi (bc := [z]) (br := [[zO0 h md (zWyN cr inn k1 2) o pc_ a1_1 a2_2 a3_3 a4_4 a5_5 a6_6], [zAr T 0 a1_1 7 (upd (upd f1 6 (zCh cr inn k1 6)) 5 (zCh cr inn k1 5))], [zAr T 0 a2_2 7 (upd (upd f2 6 1) 5 (zWyN cr inn k1 1))], [zAr T 0 a3_3 7 f3], [zAr T 0 a4_4 n4 f4], [zAr T 0 a5_5 n4 f5], [zAr T 0 a6_6 n4 f6]]) (As := [.int 4]) (rest := [.int 4, .ref a1_1]) C G (c_waysOut l T o cr inn k1 k2 k3 k4 z 4 hz) (kV_RX0_61 C.2.2.2.2 (Nat.le_of_ble_eq_true rfl) (Nat.le_of_ble_eq_true rfl)) [7] [7] rfl rfl (ci := 4) (qc := (RX4, TX4, 6)) rfl rfl (List.mem_flatten.mpr ⟨_, List.mem_of_getElem? (i := 0) rfl, (bLand_mem hz).choose_spec⟩) rfl rfl hl.1 dX0_countWays_24 (Nat.le_of_ble_eq_true rfl) (Nat.le_of_ble_eq_true rfl) (fun r_20 b1 H locs hw G => ?_)
  refine zAn2 hw ?_
  intro hbs9 h_19
  clear hw
  subst hbs9
  have G : zS T A s.heap s [[zO0 h md (zWyN cr inn k1 2) o pc_ a1_1 a2_2 a3_3 a4_4 a5_5 a6_6], [zAr T 0 a1_1 7 (upd (upd f1 6 (zCh cr inn k1 6)) 5 (zCh cr inn k1 5))], [zAr T 0 a2_2 7 (upd (upd f2 6 1) 5 (zWyN cr inn k1 1))], [zAr T 0 a3_3 7 f3], [zAr T 0 a4_4 n4 f4], [zAr T 0 a5_5 n4 f5], [zAr T 0 a6_6 n4 f6], z] _ _ := G
  subst h_19
  refine lv_iconst (v := 1) hx hb dX0_countWays_27 (by decide) ?_
  refine va_mmax hx hb (C.2.2.1.trans hl.1.symm) C.2.2.2.1 (C.2.2.2.2 _ m_ml_RX0_65) (C.2.2.2.2 _ m_st_math_max) (C.2.2.2.2 _ m_ii_math) (C.2.2.2.2 _ m_co_math_max) (Nat.le_of_ble_eq_true rfl) (Nat.le_of_ble_eq_true rfl) (Nat.le_of_ble_eq_true rfl) (Nat.le_of_ble_eq_true rfl) dX0_countWays_28 ?_
  refine lv_topi (fun v_21 ev_21 => ?_)
  subst ev_21
  refine lv_topi (fun y_22 ey_22 => ?_)
  obtain rfl : y_22 = zCh cr inn k1 4 := ey_22
  refine z_ist C G 1 rfl (vp_in_nI (n := 4) (by decide) (by decide)) dX0_countWays_31 (fun H locs G => ?_)
  have G : zS T A s.heap s [[zO0 h md (zWyN cr inn k1 2) o pc_ a1_1 a2_2 a3_3 a4_4 a5_5 a6_6], [zAr T 0 a1_1 7 (upd (upd (upd f1 6 (zCh cr inn k1 6)) 5 (zCh cr inn k1 5)) 4 (zCh cr inn k1 4))], [zAr T 0 a2_2 7 (upd (upd f2 6 1) 5 (zWyN cr inn k1 1))], [zAr T 0 a3_3 7 f3], [zAr T 0 a4_4 n4 f4], [zAr T 0 a5_5 n4 f5], [zAr T 0 a6_6 n4 f6], z] _ _ := G
  refine lv_aload_n hx hb dX0_countWays_32 rfl (lv_at hl 1 rfl) ?_
  refine z_get C G clX0 0 rfl 5 (by decide) m_fl_RX0_22 rfl dX0_countWays_33 ?_
  refine lv_iload_n hx hb dX0_countWays_36 rfl (lv_at hl 0 rfl) ?_
  refine lv_aload_n hx hb dX0_countWays_37 rfl (lv_at hl 1 rfl) ?_
  refine z_get C G clX0 0 rfl 1 (by decide) m_fl_RX0_57 rfl dX0_countWays_38 ?_
  refine z_ist C G 2 rfl (vp_in_nI (n := 4) (by decide) (by decide)) dX0_countWays_41 (fun H locs G => ?_)
  have G : zS T A s.heap s [[zO0 h md (zWyN cr inn k1 2) o pc_ a1_1 a2_2 a3_3 a4_4 a5_5 a6_6], [zAr T 0 a1_1 7 (upd (upd (upd f1 6 (zCh cr inn k1 6)) 5 (zCh cr inn k1 5)) 4 (zCh cr inn k1 4))], [zAr T 0 a2_2 7 (upd (upd (upd f2 6 1) 5 (zWyN cr inn k1 1)) 4 (zWyN cr inn k1 2))], [zAr T 0 a3_3 7 f3], [zAr T 0 a4_4 n4 f4], [zAr T 0 a5_5 n4 f5], [zAr T 0 a6_6 n4 f6], z] _ _ := G
  refine lv_aload_n hx hb dX0_countWays_42 rfl (lv_at hl 1 rfl) ?_
  refine lv_dup hx hb dX0_countWays_43 rfl ?_
  refine z_get C G clX0 0 rfl 1 (by decide) m_fl_RX0_57 rfl dX0_countWays_44 ?_
  refine lv_aload_n hx hb dX0_countWays_47 rfl (lv_at hl 1 rfl) ?_
  refine z_get C G clX0 0 rfl 4 (by decide) m_fl_RX0_18 rfl dX0_countWays_48 ?_
  refine lv_iload_n hx hb dX0_countWays_51 rfl (lv_at hl 0 rfl) ?_
  refine z_ild C G 1 rfl (vp_in_nI (n := 4) (by decide) (by decide)) dX0_countWays_52 ?_
  refine lv_topi (fun v_23 ev_23 => ?_)
  have ev_23 : v_23 = zCh cr inn k1 4 := ev_23
  subst ev_23
  refine lv_imul hx hb dX0_countWays_53 ?_
  refine lv_topi (fun y_24 ey_24 => ?_)
  obtain rfl : y_24 = zWyN cr inn k1 3 := ey_24
  refine z_put C G clX0 0 rfl 1 (by decide) m_fl_RX0_57 rfl rfl rfl (Nat.le_of_ble_eq_true rfl) dX0_countWays_54 (fun H locs G => ?_)
  have G : zS T A s.heap s [[zO0 h md (zWyN cr inn k1 3) o pc_ a1_1 a2_2 a3_3 a4_4 a5_5 a6_6], [zAr T 0 a1_1 7 (upd (upd (upd f1 6 (zCh cr inn k1 6)) 5 (zCh cr inn k1 5)) 4 (zCh cr inn k1 4))], [zAr T 0 a2_2 7 (upd (upd (upd f2 6 1) 5 (zWyN cr inn k1 1)) 4 (zWyN cr inn k1 2))], [zAr T 0 a3_3 7 f3], [zAr T 0 a4_4 n4 f4], [zAr T 0 a5_5 n4 f5], [zAr T 0 a6_6 n4 f6], z] _ _ := G
  refine lv_iinc (v := 3) (lv' := [(2, .int 3), (0, .ref h), (1, .ref o)]) hx hb dX0_countWays_57 hl (k := 0) rfl (by decide) (by decide) (zLvf_h rfl) (fun ls hl => ?_)
  refine lv_goto (tgt := 13) hx hb dX0_countWays_60 (by decide) ?_
  refine lv_iload_n hx hb dX0_countWays_13 rfl (lv_at hl 0 rfl) ?_
  refine lv_if_lt (tgt := 63) hx hb dX0_countWays_14 (by decide) (fun q => absurd q (by decide)) (fun _ => ?_)
  refine lv_aload_n hx hb dX0_countWays_17 rfl (lv_at hl 1 rfl) ?_
  refine z_get C G clX0 0 rfl 4 (by decide) m_fl_RX0_18 rfl dX0_countWays_18 ?_
  refine lv_iload_n hx hb dX0_countWays_21 rfl (lv_at hl 0 rfl) ?_
  refine lv_aload_n hx hb dX0_countWays_22 rfl (lv_at hl 2 rfl) ?_
  refine lv_iload_n hx hb dX0_countWays_23 rfl (lv_at hl 0 rfl) ?_
  refine z_Vi (bc := [z]) (br := [[zO0 h md (zWyN cr inn k1 3) o pc_ a1_1 a2_2 a3_3 a4_4 a5_5 a6_6], [zAr T 0 a1_1 7 (upd (upd (upd f1 6 (zCh cr inn k1 6)) 5 (zCh cr inn k1 5)) 4 (zCh cr inn k1 4))], [zAr T 0 a2_2 7 (upd (upd (upd f2 6 1) 5 (zWyN cr inn k1 1)) 4 (zWyN cr inn k1 2))], [zAr T 0 a3_3 7 f3], [zAr T 0 a4_4 n4 f4], [zAr T 0 a5_5 n4 f5], [zAr T 0 a6_6 n4 f6]]) (As := [.int 3]) (rest := [.int 3, .ref a1_1]) C G (c_waysOut l T o cr inn k1 k2 k3 k4 z 3 hz) (kV_RX0_61 C.2.2.2.2 (Nat.le_of_ble_eq_true rfl) (Nat.le_of_ble_eq_true rfl)) [7] [7] rfl rfl (ci := 4) (qc := (RX4, TX4, 6)) rfl rfl (List.mem_flatten.mpr ⟨_, List.mem_of_getElem? (i := 0) rfl, (bLand_mem hz).choose_spec⟩) rfl rfl hl.1 dX0_countWays_24 (Nat.le_of_ble_eq_true rfl) (Nat.le_of_ble_eq_true rfl) (fun r_26 b1 H locs hw G => ?_)
  refine zAn2 hw ?_
  intro hbs9 h_25
  clear hw
  subst hbs9
  have G : zS T A s.heap s [[zO0 h md (zWyN cr inn k1 3) o pc_ a1_1 a2_2 a3_3 a4_4 a5_5 a6_6], [zAr T 0 a1_1 7 (upd (upd (upd f1 6 (zCh cr inn k1 6)) 5 (zCh cr inn k1 5)) 4 (zCh cr inn k1 4))], [zAr T 0 a2_2 7 (upd (upd (upd f2 6 1) 5 (zWyN cr inn k1 1)) 4 (zWyN cr inn k1 2))], [zAr T 0 a3_3 7 f3], [zAr T 0 a4_4 n4 f4], [zAr T 0 a5_5 n4 f5], [zAr T 0 a6_6 n4 f6], z] _ _ := G
  subst h_25
  refine lv_iconst (v := 1) hx hb dX0_countWays_27 (by decide) ?_
  refine va_mmax hx hb (C.2.2.1.trans hl.1.symm) C.2.2.2.1 (C.2.2.2.2 _ m_ml_RX0_65) (C.2.2.2.2 _ m_st_math_max) (C.2.2.2.2 _ m_ii_math) (C.2.2.2.2 _ m_co_math_max) (Nat.le_of_ble_eq_true rfl) (Nat.le_of_ble_eq_true rfl) (Nat.le_of_ble_eq_true rfl) (Nat.le_of_ble_eq_true rfl) dX0_countWays_28 ?_
  refine lv_topi (fun v_27 ev_27 => ?_)
  subst ev_27
  refine lv_topi (fun y_28 ey_28 => ?_)
  obtain rfl : y_28 = zCh cr inn k1 3 := ey_28
  refine z_ist C G 1 rfl (vp_in_nI (n := 3) (by decide) (by decide)) dX0_countWays_31 (fun H locs G => ?_)
  have G : zS T A s.heap s [[zO0 h md (zWyN cr inn k1 3) o pc_ a1_1 a2_2 a3_3 a4_4 a5_5 a6_6], [zAr T 0 a1_1 7 (upd (upd (upd (upd f1 6 (zCh cr inn k1 6)) 5 (zCh cr inn k1 5)) 4 (zCh cr inn k1 4)) 3 (zCh cr inn k1 3))], [zAr T 0 a2_2 7 (upd (upd (upd f2 6 1) 5 (zWyN cr inn k1 1)) 4 (zWyN cr inn k1 2))], [zAr T 0 a3_3 7 f3], [zAr T 0 a4_4 n4 f4], [zAr T 0 a5_5 n4 f5], [zAr T 0 a6_6 n4 f6], z] _ _ := G
  refine lv_aload_n hx hb dX0_countWays_32 rfl (lv_at hl 1 rfl) ?_
  refine z_get C G clX0 0 rfl 5 (by decide) m_fl_RX0_22 rfl dX0_countWays_33 ?_
  refine lv_iload_n hx hb dX0_countWays_36 rfl (lv_at hl 0 rfl) ?_
  refine lv_aload_n hx hb dX0_countWays_37 rfl (lv_at hl 1 rfl) ?_
  refine z_get C G clX0 0 rfl 1 (by decide) m_fl_RX0_57 rfl dX0_countWays_38 ?_
  refine z_ist C G 2 rfl (vp_in_nI (n := 3) (by decide) (by decide)) dX0_countWays_41 (fun H locs G => ?_)
  have G : zS T A s.heap s [[zO0 h md (zWyN cr inn k1 3) o pc_ a1_1 a2_2 a3_3 a4_4 a5_5 a6_6], [zAr T 0 a1_1 7 (upd (upd (upd (upd f1 6 (zCh cr inn k1 6)) 5 (zCh cr inn k1 5)) 4 (zCh cr inn k1 4)) 3 (zCh cr inn k1 3))], [zAr T 0 a2_2 7 (upd (upd (upd (upd f2 6 1) 5 (zWyN cr inn k1 1)) 4 (zWyN cr inn k1 2)) 3 (zWyN cr inn k1 3))], [zAr T 0 a3_3 7 f3], [zAr T 0 a4_4 n4 f4], [zAr T 0 a5_5 n4 f5], [zAr T 0 a6_6 n4 f6], z] _ _ := G
  refine lv_aload_n hx hb dX0_countWays_42 rfl (lv_at hl 1 rfl) ?_
  refine lv_dup hx hb dX0_countWays_43 rfl ?_
  refine z_get C G clX0 0 rfl 1 (by decide) m_fl_RX0_57 rfl dX0_countWays_44 ?_
  refine lv_aload_n hx hb dX0_countWays_47 rfl (lv_at hl 1 rfl) ?_
  refine z_get C G clX0 0 rfl 4 (by decide) m_fl_RX0_18 rfl dX0_countWays_48 ?_
  refine lv_iload_n hx hb dX0_countWays_51 rfl (lv_at hl 0 rfl) ?_
  refine z_ild C G 1 rfl (vp_in_nI (n := 3) (by decide) (by decide)) dX0_countWays_52 ?_
  refine lv_topi (fun v_29 ev_29 => ?_)
  have ev_29 : v_29 = zCh cr inn k1 3 := ev_29
  subst ev_29
  refine lv_imul hx hb dX0_countWays_53 ?_
  refine lv_topi (fun y_30 ey_30 => ?_)
  obtain rfl : y_30 = zWyN cr inn k1 4 := ey_30
  refine z_put C G clX0 0 rfl 1 (by decide) m_fl_RX0_57 rfl rfl rfl (Nat.le_of_ble_eq_true rfl) dX0_countWays_54 (fun H locs G => ?_)
  have G : zS T A s.heap s [[zO0 h md (zWyN cr inn k1 4) o pc_ a1_1 a2_2 a3_3 a4_4 a5_5 a6_6], [zAr T 0 a1_1 7 (upd (upd (upd (upd f1 6 (zCh cr inn k1 6)) 5 (zCh cr inn k1 5)) 4 (zCh cr inn k1 4)) 3 (zCh cr inn k1 3))], [zAr T 0 a2_2 7 (upd (upd (upd (upd f2 6 1) 5 (zWyN cr inn k1 1)) 4 (zWyN cr inn k1 2)) 3 (zWyN cr inn k1 3))], [zAr T 0 a3_3 7 f3], [zAr T 0 a4_4 n4 f4], [zAr T 0 a5_5 n4 f5], [zAr T 0 a6_6 n4 f6], z] _ _ := G
  refine lv_iinc (v := 2) (lv' := [(2, .int 2), (0, .ref h), (1, .ref o)]) hx hb dX0_countWays_57 hl (k := 0) rfl (by decide) (by decide) (zLvf_h rfl) (fun ls hl => ?_)
  refine lv_goto (tgt := 13) hx hb dX0_countWays_60 (by decide) ?_
  refine lv_iload_n hx hb dX0_countWays_13 rfl (lv_at hl 0 rfl) ?_
  refine lv_if_lt (tgt := 63) hx hb dX0_countWays_14 (by decide) (fun q => absurd q (by decide)) (fun _ => ?_)
  refine lv_aload_n hx hb dX0_countWays_17 rfl (lv_at hl 1 rfl) ?_
  refine z_get C G clX0 0 rfl 4 (by decide) m_fl_RX0_18 rfl dX0_countWays_18 ?_
  refine lv_iload_n hx hb dX0_countWays_21 rfl (lv_at hl 0 rfl) ?_
  refine lv_aload_n hx hb dX0_countWays_22 rfl (lv_at hl 2 rfl) ?_
  refine lv_iload_n hx hb dX0_countWays_23 rfl (lv_at hl 0 rfl) ?_
  refine z_Vi (bc := [z]) (br := [[zO0 h md (zWyN cr inn k1 4) o pc_ a1_1 a2_2 a3_3 a4_4 a5_5 a6_6], [zAr T 0 a1_1 7 (upd (upd (upd (upd f1 6 (zCh cr inn k1 6)) 5 (zCh cr inn k1 5)) 4 (zCh cr inn k1 4)) 3 (zCh cr inn k1 3))], [zAr T 0 a2_2 7 (upd (upd (upd (upd f2 6 1) 5 (zWyN cr inn k1 1)) 4 (zWyN cr inn k1 2)) 3 (zWyN cr inn k1 3))], [zAr T 0 a3_3 7 f3], [zAr T 0 a4_4 n4 f4], [zAr T 0 a5_5 n4 f5], [zAr T 0 a6_6 n4 f6]]) (As := [.int 2]) (rest := [.int 2, .ref a1_1]) C G (c_waysOut l T o cr inn k1 k2 k3 k4 z 2 hz) (kV_RX0_61 C.2.2.2.2 (Nat.le_of_ble_eq_true rfl) (Nat.le_of_ble_eq_true rfl)) [7] [7] rfl rfl (ci := 4) (qc := (RX4, TX4, 6)) rfl rfl (List.mem_flatten.mpr ⟨_, List.mem_of_getElem? (i := 0) rfl, (bLand_mem hz).choose_spec⟩) rfl rfl hl.1 dX0_countWays_24 (Nat.le_of_ble_eq_true rfl) (Nat.le_of_ble_eq_true rfl) (fun r_32 b1 H locs hw G => ?_)
  refine zAn2 hw ?_
  intro hbs9 h_31
  clear hw
  subst hbs9
  have G : zS T A s.heap s [[zO0 h md (zWyN cr inn k1 4) o pc_ a1_1 a2_2 a3_3 a4_4 a5_5 a6_6], [zAr T 0 a1_1 7 (upd (upd (upd (upd f1 6 (zCh cr inn k1 6)) 5 (zCh cr inn k1 5)) 4 (zCh cr inn k1 4)) 3 (zCh cr inn k1 3))], [zAr T 0 a2_2 7 (upd (upd (upd (upd f2 6 1) 5 (zWyN cr inn k1 1)) 4 (zWyN cr inn k1 2)) 3 (zWyN cr inn k1 3))], [zAr T 0 a3_3 7 f3], [zAr T 0 a4_4 n4 f4], [zAr T 0 a5_5 n4 f5], [zAr T 0 a6_6 n4 f6], z] _ _ := G
  subst h_31
  refine lv_iconst (v := 1) hx hb dX0_countWays_27 (by decide) ?_
  refine va_mmax hx hb (C.2.2.1.trans hl.1.symm) C.2.2.2.1 (C.2.2.2.2 _ m_ml_RX0_65) (C.2.2.2.2 _ m_st_math_max) (C.2.2.2.2 _ m_ii_math) (C.2.2.2.2 _ m_co_math_max) (Nat.le_of_ble_eq_true rfl) (Nat.le_of_ble_eq_true rfl) (Nat.le_of_ble_eq_true rfl) (Nat.le_of_ble_eq_true rfl) dX0_countWays_28 ?_
  refine lv_topi (fun v_33 ev_33 => ?_)
  subst ev_33
  refine lv_topi (fun y_34 ey_34 => ?_)
  obtain rfl : y_34 = zCh cr inn k1 2 := ey_34
  refine z_ist C G 1 rfl (vp_in_nI (n := 2) (by decide) (by decide)) dX0_countWays_31 (fun H locs G => ?_)
  have G : zS T A s.heap s [[zO0 h md (zWyN cr inn k1 4) o pc_ a1_1 a2_2 a3_3 a4_4 a5_5 a6_6], [zAr T 0 a1_1 7 (upd (upd (upd (upd (upd f1 6 (zCh cr inn k1 6)) 5 (zCh cr inn k1 5)) 4 (zCh cr inn k1 4)) 3 (zCh cr inn k1 3)) 2 (zCh cr inn k1 2))], [zAr T 0 a2_2 7 (upd (upd (upd (upd f2 6 1) 5 (zWyN cr inn k1 1)) 4 (zWyN cr inn k1 2)) 3 (zWyN cr inn k1 3))], [zAr T 0 a3_3 7 f3], [zAr T 0 a4_4 n4 f4], [zAr T 0 a5_5 n4 f5], [zAr T 0 a6_6 n4 f6], z] _ _ := G
  refine lv_aload_n hx hb dX0_countWays_32 rfl (lv_at hl 1 rfl) ?_
  refine z_get C G clX0 0 rfl 5 (by decide) m_fl_RX0_22 rfl dX0_countWays_33 ?_
  refine lv_iload_n hx hb dX0_countWays_36 rfl (lv_at hl 0 rfl) ?_
  refine lv_aload_n hx hb dX0_countWays_37 rfl (lv_at hl 1 rfl) ?_
  refine z_get C G clX0 0 rfl 1 (by decide) m_fl_RX0_57 rfl dX0_countWays_38 ?_
  refine z_ist C G 2 rfl (vp_in_nI (n := 2) (by decide) (by decide)) dX0_countWays_41 (fun H locs G => ?_)
  have G : zS T A s.heap s [[zO0 h md (zWyN cr inn k1 4) o pc_ a1_1 a2_2 a3_3 a4_4 a5_5 a6_6], [zAr T 0 a1_1 7 (upd (upd (upd (upd (upd f1 6 (zCh cr inn k1 6)) 5 (zCh cr inn k1 5)) 4 (zCh cr inn k1 4)) 3 (zCh cr inn k1 3)) 2 (zCh cr inn k1 2))], [zAr T 0 a2_2 7 (upd (upd (upd (upd (upd f2 6 1) 5 (zWyN cr inn k1 1)) 4 (zWyN cr inn k1 2)) 3 (zWyN cr inn k1 3)) 2 (zWyN cr inn k1 4))], [zAr T 0 a3_3 7 f3], [zAr T 0 a4_4 n4 f4], [zAr T 0 a5_5 n4 f5], [zAr T 0 a6_6 n4 f6], z] _ _ := G
  refine lv_aload_n hx hb dX0_countWays_42 rfl (lv_at hl 1 rfl) ?_
  refine lv_dup hx hb dX0_countWays_43 rfl ?_
  refine z_get C G clX0 0 rfl 1 (by decide) m_fl_RX0_57 rfl dX0_countWays_44 ?_
  refine lv_aload_n hx hb dX0_countWays_47 rfl (lv_at hl 1 rfl) ?_
  refine z_get C G clX0 0 rfl 4 (by decide) m_fl_RX0_18 rfl dX0_countWays_48 ?_
  refine lv_iload_n hx hb dX0_countWays_51 rfl (lv_at hl 0 rfl) ?_
  refine z_ild C G 1 rfl (vp_in_nI (n := 2) (by decide) (by decide)) dX0_countWays_52 ?_
  refine lv_topi (fun v_35 ev_35 => ?_)
  have ev_35 : v_35 = zCh cr inn k1 2 := ev_35
  subst ev_35
  refine lv_imul hx hb dX0_countWays_53 ?_
  refine lv_topi (fun y_36 ey_36 => ?_)
  obtain rfl : y_36 = zWyN cr inn k1 5 := ey_36
  refine z_put C G clX0 0 rfl 1 (by decide) m_fl_RX0_57 rfl rfl rfl (Nat.le_of_ble_eq_true rfl) dX0_countWays_54 (fun H locs G => ?_)
  have G : zS T A s.heap s [[zO0 h md (zWyN cr inn k1 5) o pc_ a1_1 a2_2 a3_3 a4_4 a5_5 a6_6], [zAr T 0 a1_1 7 (upd (upd (upd (upd (upd f1 6 (zCh cr inn k1 6)) 5 (zCh cr inn k1 5)) 4 (zCh cr inn k1 4)) 3 (zCh cr inn k1 3)) 2 (zCh cr inn k1 2))], [zAr T 0 a2_2 7 (upd (upd (upd (upd (upd f2 6 1) 5 (zWyN cr inn k1 1)) 4 (zWyN cr inn k1 2)) 3 (zWyN cr inn k1 3)) 2 (zWyN cr inn k1 4))], [zAr T 0 a3_3 7 f3], [zAr T 0 a4_4 n4 f4], [zAr T 0 a5_5 n4 f5], [zAr T 0 a6_6 n4 f6], z] _ _ := G
  refine lv_iinc (v := 1) (lv' := [(2, .int 1), (0, .ref h), (1, .ref o)]) hx hb dX0_countWays_57 hl (k := 0) rfl (by decide) (by decide) (zLvf_h rfl) (fun ls hl => ?_)
  refine lv_goto (tgt := 13) hx hb dX0_countWays_60 (by decide) ?_
  refine lv_iload_n hx hb dX0_countWays_13 rfl (lv_at hl 0 rfl) ?_
  refine lv_if_lt (tgt := 63) hx hb dX0_countWays_14 (by decide) (fun q => absurd q (by decide)) (fun _ => ?_)
  refine lv_aload_n hx hb dX0_countWays_17 rfl (lv_at hl 1 rfl) ?_
  refine z_get C G clX0 0 rfl 4 (by decide) m_fl_RX0_18 rfl dX0_countWays_18 ?_
  refine lv_iload_n hx hb dX0_countWays_21 rfl (lv_at hl 0 rfl) ?_
  refine lv_aload_n hx hb dX0_countWays_22 rfl (lv_at hl 2 rfl) ?_
  refine lv_iload_n hx hb dX0_countWays_23 rfl (lv_at hl 0 rfl) ?_
  refine z_Vi (bc := [z]) (br := [[zO0 h md (zWyN cr inn k1 5) o pc_ a1_1 a2_2 a3_3 a4_4 a5_5 a6_6], [zAr T 0 a1_1 7 (upd (upd (upd (upd (upd f1 6 (zCh cr inn k1 6)) 5 (zCh cr inn k1 5)) 4 (zCh cr inn k1 4)) 3 (zCh cr inn k1 3)) 2 (zCh cr inn k1 2))], [zAr T 0 a2_2 7 (upd (upd (upd (upd (upd f2 6 1) 5 (zWyN cr inn k1 1)) 4 (zWyN cr inn k1 2)) 3 (zWyN cr inn k1 3)) 2 (zWyN cr inn k1 4))], [zAr T 0 a3_3 7 f3], [zAr T 0 a4_4 n4 f4], [zAr T 0 a5_5 n4 f5], [zAr T 0 a6_6 n4 f6]]) (As := [.int 1]) (rest := [.int 1, .ref a1_1]) C G (c_waysOut l T o cr inn k1 k2 k3 k4 z 1 hz) (kV_RX0_61 C.2.2.2.2 (Nat.le_of_ble_eq_true rfl) (Nat.le_of_ble_eq_true rfl)) [7] [7] rfl rfl (ci := 4) (qc := (RX4, TX4, 6)) rfl rfl (List.mem_flatten.mpr ⟨_, List.mem_of_getElem? (i := 0) rfl, (bLand_mem hz).choose_spec⟩) rfl rfl hl.1 dX0_countWays_24 (Nat.le_of_ble_eq_true rfl) (Nat.le_of_ble_eq_true rfl) (fun r_38 b1 H locs hw G => ?_)
  refine zAn2 hw ?_
  intro hbs9 h_37
  clear hw
  subst hbs9
  have G : zS T A s.heap s [[zO0 h md (zWyN cr inn k1 5) o pc_ a1_1 a2_2 a3_3 a4_4 a5_5 a6_6], [zAr T 0 a1_1 7 (upd (upd (upd (upd (upd f1 6 (zCh cr inn k1 6)) 5 (zCh cr inn k1 5)) 4 (zCh cr inn k1 4)) 3 (zCh cr inn k1 3)) 2 (zCh cr inn k1 2))], [zAr T 0 a2_2 7 (upd (upd (upd (upd (upd f2 6 1) 5 (zWyN cr inn k1 1)) 4 (zWyN cr inn k1 2)) 3 (zWyN cr inn k1 3)) 2 (zWyN cr inn k1 4))], [zAr T 0 a3_3 7 f3], [zAr T 0 a4_4 n4 f4], [zAr T 0 a5_5 n4 f5], [zAr T 0 a6_6 n4 f6], z] _ _ := G
  subst h_37
  refine lv_iconst (v := 1) hx hb dX0_countWays_27 (by decide) ?_
  refine va_mmax hx hb (C.2.2.1.trans hl.1.symm) C.2.2.2.1 (C.2.2.2.2 _ m_ml_RX0_65) (C.2.2.2.2 _ m_st_math_max) (C.2.2.2.2 _ m_ii_math) (C.2.2.2.2 _ m_co_math_max) (Nat.le_of_ble_eq_true rfl) (Nat.le_of_ble_eq_true rfl) (Nat.le_of_ble_eq_true rfl) (Nat.le_of_ble_eq_true rfl) dX0_countWays_28 ?_
  refine lv_topi (fun v_39 ev_39 => ?_)
  subst ev_39
  refine lv_topi (fun y_40 ey_40 => ?_)
  obtain rfl : y_40 = zCh cr inn k1 1 := ey_40
  refine z_ist C G 1 rfl (vp_in_nI (n := 1) (by decide) (by decide)) dX0_countWays_31 (fun H locs G => ?_)
  have G : zS T A s.heap s [[zO0 h md (zWyN cr inn k1 5) o pc_ a1_1 a2_2 a3_3 a4_4 a5_5 a6_6], [zAr T 0 a1_1 7 (upd (upd (upd (upd (upd (upd f1 6 (zCh cr inn k1 6)) 5 (zCh cr inn k1 5)) 4 (zCh cr inn k1 4)) 3 (zCh cr inn k1 3)) 2 (zCh cr inn k1 2)) 1 (zCh cr inn k1 1))], [zAr T 0 a2_2 7 (upd (upd (upd (upd (upd f2 6 1) 5 (zWyN cr inn k1 1)) 4 (zWyN cr inn k1 2)) 3 (zWyN cr inn k1 3)) 2 (zWyN cr inn k1 4))], [zAr T 0 a3_3 7 f3], [zAr T 0 a4_4 n4 f4], [zAr T 0 a5_5 n4 f5], [zAr T 0 a6_6 n4 f6], z] _ _ := G
  refine lv_aload_n hx hb dX0_countWays_32 rfl (lv_at hl 1 rfl) ?_
  refine z_get C G clX0 0 rfl 5 (by decide) m_fl_RX0_22 rfl dX0_countWays_33 ?_
  refine lv_iload_n hx hb dX0_countWays_36 rfl (lv_at hl 0 rfl) ?_
  refine lv_aload_n hx hb dX0_countWays_37 rfl (lv_at hl 1 rfl) ?_
  refine z_get C G clX0 0 rfl 1 (by decide) m_fl_RX0_57 rfl dX0_countWays_38 ?_
  refine z_ist C G 2 rfl (vp_in_nI (n := 1) (by decide) (by decide)) dX0_countWays_41 (fun H locs G => ?_)
  have G : zS T A s.heap s [[zO0 h md (zWyN cr inn k1 5) o pc_ a1_1 a2_2 a3_3 a4_4 a5_5 a6_6], [zAr T 0 a1_1 7 (upd (upd (upd (upd (upd (upd f1 6 (zCh cr inn k1 6)) 5 (zCh cr inn k1 5)) 4 (zCh cr inn k1 4)) 3 (zCh cr inn k1 3)) 2 (zCh cr inn k1 2)) 1 (zCh cr inn k1 1))], [zAr T 0 a2_2 7 (upd (upd (upd (upd (upd (upd f2 6 1) 5 (zWyN cr inn k1 1)) 4 (zWyN cr inn k1 2)) 3 (zWyN cr inn k1 3)) 2 (zWyN cr inn k1 4)) 1 (zWyN cr inn k1 5))], [zAr T 0 a3_3 7 f3], [zAr T 0 a4_4 n4 f4], [zAr T 0 a5_5 n4 f5], [zAr T 0 a6_6 n4 f6], z] _ _ := G
  refine lv_aload_n hx hb dX0_countWays_42 rfl (lv_at hl 1 rfl) ?_
  refine lv_dup hx hb dX0_countWays_43 rfl ?_
  refine z_get C G clX0 0 rfl 1 (by decide) m_fl_RX0_57 rfl dX0_countWays_44 ?_
  refine lv_aload_n hx hb dX0_countWays_47 rfl (lv_at hl 1 rfl) ?_
  refine z_get C G clX0 0 rfl 4 (by decide) m_fl_RX0_18 rfl dX0_countWays_48 ?_
  refine lv_iload_n hx hb dX0_countWays_51 rfl (lv_at hl 0 rfl) ?_
  refine z_ild C G 1 rfl (vp_in_nI (n := 1) (by decide) (by decide)) dX0_countWays_52 ?_
  refine lv_topi (fun v_41 ev_41 => ?_)
  have ev_41 : v_41 = zCh cr inn k1 1 := ev_41
  subst ev_41
  refine lv_imul hx hb dX0_countWays_53 ?_
  refine lv_topi (fun y_42 ey_42 => ?_)
  obtain rfl : y_42 = zWyN cr inn k1 6 := ey_42
  refine z_put C G clX0 0 rfl 1 (by decide) m_fl_RX0_57 rfl rfl rfl (Nat.le_of_ble_eq_true rfl) dX0_countWays_54 (fun H locs G => ?_)
  have G : zS T A s.heap s [[zO0 h md (zWyN cr inn k1 6) o pc_ a1_1 a2_2 a3_3 a4_4 a5_5 a6_6], [zAr T 0 a1_1 7 (upd (upd (upd (upd (upd (upd f1 6 (zCh cr inn k1 6)) 5 (zCh cr inn k1 5)) 4 (zCh cr inn k1 4)) 3 (zCh cr inn k1 3)) 2 (zCh cr inn k1 2)) 1 (zCh cr inn k1 1))], [zAr T 0 a2_2 7 (upd (upd (upd (upd (upd (upd f2 6 1) 5 (zWyN cr inn k1 1)) 4 (zWyN cr inn k1 2)) 3 (zWyN cr inn k1 3)) 2 (zWyN cr inn k1 4)) 1 (zWyN cr inn k1 5))], [zAr T 0 a3_3 7 f3], [zAr T 0 a4_4 n4 f4], [zAr T 0 a5_5 n4 f5], [zAr T 0 a6_6 n4 f6], z] _ _ := G
  refine lv_iinc (v := 0) (lv' := [(2, .int 0), (0, .ref h), (1, .ref o)]) hx hb dX0_countWays_57 hl (k := 0) rfl (by decide) (by decide) (zLvf_h rfl) (fun ls hl => ?_)
  refine lv_goto (tgt := 13) hx hb dX0_countWays_60 (by decide) ?_
  refine lv_iload_n hx hb dX0_countWays_13 rfl (lv_at hl 0 rfl) ?_
  refine lv_if_lt (tgt := 63) hx hb dX0_countWays_14 (by decide) (fun q => absurd q (by decide)) (fun _ => ?_)
  refine lv_aload_n hx hb dX0_countWays_17 rfl (lv_at hl 1 rfl) ?_
  refine z_get C G clX0 0 rfl 4 (by decide) m_fl_RX0_18 rfl dX0_countWays_18 ?_
  refine lv_iload_n hx hb dX0_countWays_21 rfl (lv_at hl 0 rfl) ?_
  refine lv_aload_n hx hb dX0_countWays_22 rfl (lv_at hl 2 rfl) ?_
  refine lv_iload_n hx hb dX0_countWays_23 rfl (lv_at hl 0 rfl) ?_
  refine z_Vi (bc := [z]) (br := [[zO0 h md (zWyN cr inn k1 6) o pc_ a1_1 a2_2 a3_3 a4_4 a5_5 a6_6], [zAr T 0 a1_1 7 (upd (upd (upd (upd (upd (upd f1 6 (zCh cr inn k1 6)) 5 (zCh cr inn k1 5)) 4 (zCh cr inn k1 4)) 3 (zCh cr inn k1 3)) 2 (zCh cr inn k1 2)) 1 (zCh cr inn k1 1))], [zAr T 0 a2_2 7 (upd (upd (upd (upd (upd (upd f2 6 1) 5 (zWyN cr inn k1 1)) 4 (zWyN cr inn k1 2)) 3 (zWyN cr inn k1 3)) 2 (zWyN cr inn k1 4)) 1 (zWyN cr inn k1 5))], [zAr T 0 a3_3 7 f3], [zAr T 0 a4_4 n4 f4], [zAr T 0 a5_5 n4 f5], [zAr T 0 a6_6 n4 f6]]) (As := [.int 0]) (rest := [.int 0, .ref a1_1]) C G (c_waysOut l T o cr inn k1 k2 k3 k4 z 0 hz) (kV_RX0_61 C.2.2.2.2 (Nat.le_of_ble_eq_true rfl) (Nat.le_of_ble_eq_true rfl)) [7] [7] rfl rfl (ci := 4) (qc := (RX4, TX4, 6)) rfl rfl (List.mem_flatten.mpr ⟨_, List.mem_of_getElem? (i := 0) rfl, (bLand_mem hz).choose_spec⟩) rfl rfl hl.1 dX0_countWays_24 (Nat.le_of_ble_eq_true rfl) (Nat.le_of_ble_eq_true rfl) (fun r_44 b1 H locs hw G => ?_)
  refine zAn2 hw ?_
  intro hbs9 h_43
  clear hw
  subst hbs9
  have G : zS T A s.heap s [[zO0 h md (zWyN cr inn k1 6) o pc_ a1_1 a2_2 a3_3 a4_4 a5_5 a6_6], [zAr T 0 a1_1 7 (upd (upd (upd (upd (upd (upd f1 6 (zCh cr inn k1 6)) 5 (zCh cr inn k1 5)) 4 (zCh cr inn k1 4)) 3 (zCh cr inn k1 3)) 2 (zCh cr inn k1 2)) 1 (zCh cr inn k1 1))], [zAr T 0 a2_2 7 (upd (upd (upd (upd (upd (upd f2 6 1) 5 (zWyN cr inn k1 1)) 4 (zWyN cr inn k1 2)) 3 (zWyN cr inn k1 3)) 2 (zWyN cr inn k1 4)) 1 (zWyN cr inn k1 5))], [zAr T 0 a3_3 7 f3], [zAr T 0 a4_4 n4 f4], [zAr T 0 a5_5 n4 f5], [zAr T 0 a6_6 n4 f6], z] _ _ := G
  subst h_43
  refine lv_iconst (v := 1) hx hb dX0_countWays_27 (by decide) ?_
  refine va_mmax hx hb (C.2.2.1.trans hl.1.symm) C.2.2.2.1 (C.2.2.2.2 _ m_ml_RX0_65) (C.2.2.2.2 _ m_st_math_max) (C.2.2.2.2 _ m_ii_math) (C.2.2.2.2 _ m_co_math_max) (Nat.le_of_ble_eq_true rfl) (Nat.le_of_ble_eq_true rfl) (Nat.le_of_ble_eq_true rfl) (Nat.le_of_ble_eq_true rfl) dX0_countWays_28 ?_
  refine lv_topi (fun v_45 ev_45 => ?_)
  subst ev_45
  refine lv_topi (fun y_46 ey_46 => ?_)
  obtain rfl : y_46 = zCh cr inn k1 0 := ey_46
  refine z_ist C G 1 rfl (vp_in_nI (n := 0) (by decide) (by decide)) dX0_countWays_31 (fun H locs G => ?_)
  have G : zS T A s.heap s [[zO0 h md (zWyN cr inn k1 6) o pc_ a1_1 a2_2 a3_3 a4_4 a5_5 a6_6], [zAr T 0 a1_1 7 (upd (upd (upd (upd (upd (upd (upd f1 6 (zCh cr inn k1 6)) 5 (zCh cr inn k1 5)) 4 (zCh cr inn k1 4)) 3 (zCh cr inn k1 3)) 2 (zCh cr inn k1 2)) 1 (zCh cr inn k1 1)) 0 (zCh cr inn k1 0))], [zAr T 0 a2_2 7 (upd (upd (upd (upd (upd (upd f2 6 1) 5 (zWyN cr inn k1 1)) 4 (zWyN cr inn k1 2)) 3 (zWyN cr inn k1 3)) 2 (zWyN cr inn k1 4)) 1 (zWyN cr inn k1 5))], [zAr T 0 a3_3 7 f3], [zAr T 0 a4_4 n4 f4], [zAr T 0 a5_5 n4 f5], [zAr T 0 a6_6 n4 f6], z] _ _ := G
  refine lv_aload_n hx hb dX0_countWays_32 rfl (lv_at hl 1 rfl) ?_
  refine z_get C G clX0 0 rfl 5 (by decide) m_fl_RX0_22 rfl dX0_countWays_33 ?_
  refine lv_iload_n hx hb dX0_countWays_36 rfl (lv_at hl 0 rfl) ?_
  refine lv_aload_n hx hb dX0_countWays_37 rfl (lv_at hl 1 rfl) ?_
  refine z_get C G clX0 0 rfl 1 (by decide) m_fl_RX0_57 rfl dX0_countWays_38 ?_
  refine z_ist C G 2 rfl (vp_in_nI (n := 0) (by decide) (by decide)) dX0_countWays_41 (fun H locs G => ?_)
  have G : zS T A s.heap s [[zO0 h md (zWyN cr inn k1 6) o pc_ a1_1 a2_2 a3_3 a4_4 a5_5 a6_6], [zAr T 0 a1_1 7 (upd (upd (upd (upd (upd (upd (upd f1 6 (zCh cr inn k1 6)) 5 (zCh cr inn k1 5)) 4 (zCh cr inn k1 4)) 3 (zCh cr inn k1 3)) 2 (zCh cr inn k1 2)) 1 (zCh cr inn k1 1)) 0 (zCh cr inn k1 0))], [zAr T 0 a2_2 7 (upd (upd (upd (upd (upd (upd (upd f2 6 1) 5 (zWyN cr inn k1 1)) 4 (zWyN cr inn k1 2)) 3 (zWyN cr inn k1 3)) 2 (zWyN cr inn k1 4)) 1 (zWyN cr inn k1 5)) 0 (zWyN cr inn k1 6))], [zAr T 0 a3_3 7 f3], [zAr T 0 a4_4 n4 f4], [zAr T 0 a5_5 n4 f5], [zAr T 0 a6_6 n4 f6], z] _ _ := G
  refine lv_aload_n hx hb dX0_countWays_42 rfl (lv_at hl 1 rfl) ?_
  refine lv_dup hx hb dX0_countWays_43 rfl ?_
  refine z_get C G clX0 0 rfl 1 (by decide) m_fl_RX0_57 rfl dX0_countWays_44 ?_
  refine lv_aload_n hx hb dX0_countWays_47 rfl (lv_at hl 1 rfl) ?_
  refine z_get C G clX0 0 rfl 4 (by decide) m_fl_RX0_18 rfl dX0_countWays_48 ?_
  refine lv_iload_n hx hb dX0_countWays_51 rfl (lv_at hl 0 rfl) ?_
  refine z_ild C G 1 rfl (vp_in_nI (n := 0) (by decide) (by decide)) dX0_countWays_52 ?_
  refine lv_topi (fun v_47 ev_47 => ?_)
  have ev_47 : v_47 = zCh cr inn k1 0 := ev_47
  subst ev_47
  refine lv_imul hx hb dX0_countWays_53 ?_
  refine lv_topi (fun y_48 ey_48 => ?_)
  obtain rfl : y_48 = zWyN cr inn k1 7 := ey_48
  refine z_put C G clX0 0 rfl 1 (by decide) m_fl_RX0_57 rfl rfl rfl (Nat.le_of_ble_eq_true rfl) dX0_countWays_54 (fun H locs G => ?_)
  have G : zS T A s.heap s [[zO0 h md (zWyN cr inn k1 7) o pc_ a1_1 a2_2 a3_3 a4_4 a5_5 a6_6], [zAr T 0 a1_1 7 (upd (upd (upd (upd (upd (upd (upd f1 6 (zCh cr inn k1 6)) 5 (zCh cr inn k1 5)) 4 (zCh cr inn k1 4)) 3 (zCh cr inn k1 3)) 2 (zCh cr inn k1 2)) 1 (zCh cr inn k1 1)) 0 (zCh cr inn k1 0))], [zAr T 0 a2_2 7 (upd (upd (upd (upd (upd (upd (upd f2 6 1) 5 (zWyN cr inn k1 1)) 4 (zWyN cr inn k1 2)) 3 (zWyN cr inn k1 3)) 2 (zWyN cr inn k1 4)) 1 (zWyN cr inn k1 5)) 0 (zWyN cr inn k1 6))], [zAr T 0 a3_3 7 f3], [zAr T 0 a4_4 n4 f4], [zAr T 0 a5_5 n4 f5], [zAr T 0 a6_6 n4 f6], z] _ _ := G
  refine lv_iinc (v := (-1)) (lv' := [(2, .int (-1)), (0, .ref h), (1, .ref o)]) hx hb dX0_countWays_57 hl (k := 0) rfl (by decide) (by decide) (zLvf_h rfl) (fun ls hl => ?_)
  refine lv_goto (tgt := 13) hx hb dX0_countWays_60 (by decide) ?_
  refine lv_iload_n hx hb dX0_countWays_13 rfl (lv_at hl 0 rfl) ?_
  refine lv_if_lt (tgt := 63) hx hb dX0_countWays_14 (by decide) (fun _ => ?_) (fun q => absurd (by decide) q)
  refine lv_aload_n hx hb dX0_countWays_63 rfl (lv_at hl 1 rfl) ?_
  refine lv_aload_n hx hb dX0_countWays_64 rfl (lv_at hl 1 rfl) ?_
  refine z_get C G clX0 0 rfl 1 (by decide) m_fl_RX0_57 rfl dX0_countWays_65 ?_
  refine lv_iconst (v := 3) hx hb dX0_countWays_68 (by decide) ?_
  refine lv_ishl hx hb dX0_countWays_69 ?_
  refine lv_ldc (v := 131072) hx hb C.2.2.2.1 (C.2.2.2.2 _ m_ko_RX0_71) dX0_countWays_70 ?_
  refine va_mmin hx hb (C.2.2.1.trans hl.1.symm) C.2.2.2.1 (C.2.2.2.2 _ m_ml_RX0_72) (C.2.2.2.2 _ m_st_math_min) (C.2.2.2.2 _ m_ii_math) (C.2.2.2.2 _ m_co_math_min) (Nat.le_of_ble_eq_true rfl) (Nat.le_of_ble_eq_true rfl) (Nat.le_of_ble_eq_true rfl) (Nat.le_of_ble_eq_true rfl) dX0_countWays_72 ?_
  refine lv_topi (fun v_49 ev_49 => ?_)
  subst ev_49
  refine lv_topi (fun y_50 ey_50 => ?_)
  obtain rfl : y_50 = zPl cr inn k1 := ey_50
  refine z_put C G clX0 0 rfl 3 (by decide) m_fl_RX0_75 rfl rfl rfl (Nat.le_of_ble_eq_true rfl) dX0_countWays_75 (fun H locs G => ?_)
  have G : zS T A s.heap s [[zO0 h md (zWyN cr inn k1 7) o (zPl cr inn k1) a1_1 a2_2 a3_3 a4_4 a5_5 a6_6], [zAr T 0 a1_1 7 (upd (upd (upd (upd (upd (upd (upd f1 6 (zCh cr inn k1 6)) 5 (zCh cr inn k1 5)) 4 (zCh cr inn k1 4)) 3 (zCh cr inn k1 3)) 2 (zCh cr inn k1 2)) 1 (zCh cr inn k1 1)) 0 (zCh cr inn k1 0))], [zAr T 0 a2_2 7 (upd (upd (upd (upd (upd (upd (upd f2 6 1) 5 (zWyN cr inn k1 1)) 4 (zWyN cr inn k1 2)) 3 (zWyN cr inn k1 3)) 2 (zWyN cr inn k1 4)) 1 (zWyN cr inn k1 5)) 0 (zWyN cr inn k1 6))], [zAr T 0 a3_3 7 f3], [zAr T 0 a4_4 n4 f4], [zAr T 0 a5_5 n4 f5], [zAr T 0 a6_6 n4 f6], z] _ _ := G
  have hw_51 : bWays T h o md (zWyN cr inn k1 7) (zPl cr inn k1) (upd (upd (upd (upd (upd (upd (upd f1 6 (zCh cr inn k1 6)) 5 (zCh cr inn k1 5)) 4 (zCh cr inn k1 4)) 3 (zCh cr inn k1 3)) 2 (zCh cr inn k1 2)) 1 (zCh cr inn k1 1)) 0 (zCh cr inn k1 0)) (upd (upd (upd (upd (upd (upd (upd f2 6 1) 5 (zWyN cr inn k1 1)) 4 (zWyN cr inn k1 2)) 3 (zWyN cr inn k1 3)) 2 (zWyN cr inn k1 4)) 1 (zWyN cr inn k1 5)) 0 (zWyN cr inn k1 6)) f3 f4 f5 f6 n4 [zO0 h md (zWyN cr inn k1 7) o (zPl cr inn k1) a1_1 a2_2 a3_3 a4_4 a5_5 a6_6, zAr T 0 a1_1 7 (upd (upd (upd (upd (upd (upd (upd f1 6 (zCh cr inn k1 6)) 5 (zCh cr inn k1 5)) 4 (zCh cr inn k1 4)) 3 (zCh cr inn k1 3)) 2 (zCh cr inn k1 2)) 1 (zCh cr inn k1 1)) 0 (zCh cr inn k1 0)), zAr T 0 a2_2 7 (upd (upd (upd (upd (upd (upd (upd f2 6 1) 5 (zWyN cr inn k1 1)) 4 (zWyN cr inn k1 2)) 3 (zWyN cr inn k1 3)) 2 (zWyN cr inn k1 4)) 1 (zWyN cr inn k1 5)) 0 (zWyN cr inn k1 6)), zAr T 0 a3_3 7 f3, zAr T 0 a4_4 n4 f4, zAr T 0 a5_5 n4 f5, zAr T 0 a6_6 n4 f6] := ⟨a1_1, a2_2, a3_3, a4_4, a5_5, a6_6, rfl⟩
  have G : zS T A s.heap s [[zO0 h md (zWyN cr inn k1 7) o (zPl cr inn k1) a1_1 a2_2 a3_3 a4_4 a5_5 a6_6, zAr T 0 a1_1 7 (upd (upd (upd (upd (upd (upd (upd f1 6 (zCh cr inn k1 6)) 5 (zCh cr inn k1 5)) 4 (zCh cr inn k1 4)) 3 (zCh cr inn k1 3)) 2 (zCh cr inn k1 2)) 1 (zCh cr inn k1 1)) 0 (zCh cr inn k1 0)), zAr T 0 a2_2 7 (upd (upd (upd (upd (upd (upd (upd f2 6 1) 5 (zWyN cr inn k1 1)) 4 (zWyN cr inn k1 2)) 3 (zWyN cr inn k1 3)) 2 (zWyN cr inn k1 4)) 1 (zWyN cr inn k1 5)) 0 (zWyN cr inn k1 6)), zAr T 0 a3_3 7 f3, zAr T 0 a4_4 n4 f4, zAr T 0 a5_5 n4 f5, zAr T 0 a6_6 n4 f6], z] _ _ := G.re rfl
  exact z_back hQz_ (z_vret C hr hlocks G (Nat.le_of_ble_eq_true rfl) (Nat.le_of_ble_eq_true rfl) dX0_countWays_78 ⟨([zO0 h md (zWyN cr inn k1 7) o (zPl cr inn k1) a1_1 a2_2 a3_3 a4_4 a5_5 a6_6, zAr T 0 a1_1 7 (upd (upd (upd (upd (upd (upd (upd f1 6 (zCh cr inn k1 6)) 5 (zCh cr inn k1 5)) 4 (zCh cr inn k1 4)) 3 (zCh cr inn k1 3)) 2 (zCh cr inn k1 2)) 1 (zCh cr inn k1 1)) 0 (zCh cr inn k1 0)), zAr T 0 a2_2 7 (upd (upd (upd (upd (upd (upd (upd f2 6 1) 5 (zWyN cr inn k1 1)) 4 (zWyN cr inn k1 2)) 3 (zWyN cr inn k1 3)) 2 (zWyN cr inn k1 4)) 1 (zWyN cr inn k1 5)) 0 (zWyN cr inn k1 6)), zAr T 0 a3_3 7 f3, zAr T 0 a4_4 n4 f4, zAr T 0 a5_5 n4 f5, zAr T 0 a6_6 n4 f6]), (upd (upd (upd (upd (upd (upd (upd f1 6 (zCh cr inn k1 6)) 5 (zCh cr inn k1 5)) 4 (zCh cr inn k1 4)) 3 (zCh cr inn k1 3)) 2 (zCh cr inn k1 2)) 1 (zCh cr inn k1 1)) 0 (zCh cr inn k1 0)), (upd (upd (upd (upd (upd (upd (upd f2 6 1) 5 (zWyN cr inn k1 1)) 4 (zWyN cr inn k1 2)) 3 (zWyN cr inn k1 3)) 2 (zWyN cr inn k1 4)) 1 (zWyN cr inn k1 5)) 0 (zWyN cr inn k1 6)), rfl, hw_51⟩)
set_option maxHeartbeats 4000000 in
set_option maxRecDepth 100000 in
/-- grow -/
theorem c_Ways_grow (l : Launch) (T : zTy) (h : Nat) (la : Nat) (md : Int32) (wy : Int32) (pc_ : Int32) (f1 : Nat → Int32) (f2 : Nat → Int32) (f3 : Nat → Int32) (f4 : Nat → Int32) (f5 : Nat → Int32) (f6 : Nat → Int32) (n4 : Nat) (ww : va_W) (hww : bWays T h la md wy pc_ f1 f2 f3 f4 f5 f6 n4 ww) (hpw : zPw n4) (hpl : pc_.toInt ≤ 131072) : zMv l T yX0_grow cX0_grow 2 1 3 (6 * (zNl n4 pc_ - n4)) [.ref h] [ww] (fun bs => ∃ (w2 : va_W) (g4 : Nat → Int32) (g5 : Nat → Int32) (g6 : Nat → Int32), bs = [w2] ∧ bWays T h la md wy pc_ f1 f2 f3 g4 g5 g6 (zNl n4 pc_) w2) := by
  refine zMv_of (own := RX0) (by decide) rfl (Nat.le_of_ble_eq_true rfl) ?_
  intro p e s m args below meth c A ls C hr hlocks hnm hAe G hl
  refine zHide (fun Qz_ hQz_ => ?_)
  have hx := C.1
  have hb := C.2.1
  have hl : lv_has ls 2 [(0, .ref h)] := hl
  have hn4 := zPw_le hpw
  refine lv_aload_n hx hb dX0_grow_0 rfl (lv_at hl 0 rfl) ?_
  refine zEx6 hww ?_
  intro a1_1 a2_2 a3_3 a4_4 a5_5 a6_6 hbs9
  clear hww
  subst hbs9
  have G : zS T A s.heap s [[zO0 h md wy la pc_ a1_1 a2_2 a3_3 a4_4 a5_5 a6_6], [zAr T 0 a1_1 7 f1], [zAr T 0 a2_2 7 f2], [zAr T 0 a3_3 7 f3], [zAr T 0 a4_4 n4 f4], [zAr T 0 a5_5 n4 f5], [zAr T 0 a6_6 n4 f6]] _ _ := G.re rfl
  refine z_get C G clX0 0 rfl 8 (by decide) m_fl_RX0_31 rfl dX0_grow_1 ?_
  refine z_alen C G 5 0 rfl (v := nI n4) rfl rfl dX0_grow_4 ?_
  refine lv_aload_n hx hb dX0_grow_5 rfl (lv_at hl 0 rfl) ?_
  refine z_get C G clX0 0 rfl 3 (by decide) m_fl_RX0_75 rfl dX0_grow_6 ?_
  refine lv_icmp_lt (tgt := 13) hx hb dX0_grow_9 (by decide) (fun c_7 => ?_) (fun c_7 => ?_)
  · have c_7n : (n4 : Int) < pc_.toInt := by have q := (fa_lt _ _).mp c_7; rw [nI_toInt (n := n4) (by omega)] at q; exact q
    have hng : ¬ pc_.toInt ≤ (n4 : Int) := by omega
    have hE : zNl n4 pc_ = zLenN pc_ 12 64 := by unfold zNl; rw [if_neg hng]
    have hR := zNl_room hpw hpl hng
    refine lv_bipush (v := 64) hx hb dX0_grow_13 (by decide) ?_
    refine lv_istore_n (lv' := [(1, .int 64), (0, .ref h)]) hx hb dX0_grow_15 rfl hl (by decide) (zLvf_h rfl) (fun ls hl => ?_)
    have hw_8 : bWays T h la md wy pc_ f1 f2 f3 f4 f5 f6 n4 [zO0 h md wy la pc_ a1_1 a2_2 a3_3 a4_4 a5_5 a6_6, zAr T 0 a1_1 7 f1, zAr T 0 a2_2 7 f2, zAr T 0 a3_3 7 f3, zAr T 0 a4_4 n4 f4, zAr T 0 a5_5 n4 f5, zAr T 0 a6_6 n4 f6] := ⟨a1_1, a2_2, a3_3, a4_4, a5_5, a6_6, rfl⟩
    have G : zS T A s.heap s [[zO0 h md wy la pc_ a1_1 a2_2 a3_3 a4_4 a5_5 a6_6, zAr T 0 a1_1 7 f1, zAr T 0 a2_2 7 f2, zAr T 0 a3_3 7 f3, zAr T 0 a4_4 n4 f4, zAr T 0 a5_5 n4 f5, zAr T 0 a6_6 n4 f6]] _ _ := G.re rfl
    refine z_lp2 (T := T) 16 (fun (k : Nat) (L : Nat) => [[zO0 h md wy la pc_ a1_1 a2_2 a3_3 a4_4 a5_5 a6_6, zAr T 0 a1_1 7 f1, zAr T 0 a2_2 7 f2, zAr T 0 a3_3 7 f3, zAr T 0 a4_4 n4 f4, zAr T 0 a5_5 n4 f5, zAr T 0 a6_6 n4 f6]]) (fun (k : Nat) (L : Nat) => [(1, .int (nI L)), (0, .ref h)]) (fun (k : Nat) (L : Nat) => k ≤ 11 ∧ L = 64 * 2 ^ k ∧ zLenN pc_ 12 64 = zLenN pc_ (12 - k) L ∧ L ≤ 131072) (fun (k : Nat) (L : Nat) => 12 - k) ?_ 0 64 (show 0 ≤ 11 ∧ 64 = 64 * 2 ^ 0 ∧ zLenN pc_ 12 64 = zLenN pc_ (12 - 0) 64 ∧ 64 ≤ 131072 from ⟨by omega, rfl, rfl, by omega⟩) G (lv_sub hl [0, 1] rfl)
    intro k L hI9 ih_16 H locs ls G hl
    replace hI9 : k ≤ 11 ∧ L = 64 * 2 ^ k ∧ zLenN pc_ 12 64 = zLenN pc_ (12 - k) L ∧ L ≤ 131072 := hI9
    refine zAn4 hI9 ?_
    intro hk hL hG hL2
    clear hI9
    replace G : zS T A s.heap s [[zO0 h md wy la pc_ a1_1 a2_2 a3_3 a4_4 a5_5 a6_6, zAr T 0 a1_1 7 f1, zAr T 0 a2_2 7 f2, zAr T 0 a3_3 7 f3, zAr T 0 a4_4 n4 f4, zAr T 0 a5_5 n4 f5, zAr T 0 a6_6 n4 f6]] _ _ := G
    replace hl : lv_has ls 2 [(1, .int (nI L)), (0, .ref h)] := hl
    refine lv_iload_n hx hb dX0_grow_16 rfl (lv_at hl 0 rfl) ?_
    refine lv_aload_n hx hb dX0_grow_17 rfl (lv_at hl 1 rfl) ?_
    have G : zS T A s.heap s [[zO0 h md wy la pc_ a1_1 a2_2 a3_3 a4_4 a5_5 a6_6], [zAr T 0 a1_1 7 f1], [zAr T 0 a2_2 7 f2], [zAr T 0 a3_3 7 f3], [zAr T 0 a4_4 n4 f4], [zAr T 0 a5_5 n4 f5], [zAr T 0 a6_6 n4 f6]] _ _ := G.re rfl
    refine z_get C G clX0 0 rfl 3 (by decide) m_fl_RX0_75 rfl dX0_grow_18 ?_
    refine lv_icmp_ge (tgt := 37) hx hb dX0_grow_21 (by decide) (fun c_9 => ?_) (fun c_9 => ?_)
    · have c_9n : pc_.toInt ≤ (L : Int) := by have q := (fa_le _ _).mp c_9; rw [nI_toInt (n := L) (by omega)] at q; exact q
      have hF : zLenN pc_ 12 64 = L := by rw [hG, show 12 - k = (11 - k) + 1 by omega, zLenN, if_neg (by omega)]
      have hF2 : zNl n4 pc_ = L := hE.trans hF
      refine lv_aload_n hx hb dX0_grow_37 rfl (lv_at hl 1 rfl) ?_
      refine lv_iload_n hx hb dX0_grow_38 rfl (lv_at hl 0 rfl) ?_
      refine z_newa C G 0 (ty := .int) (N' := L) (a0 := (L, .inl (fun _ => 0))) rfl z_uint m_ar_int rfl (fun _ => rfl) (nI_pos (by omega)) (nI_clamp (by omega)) (by show L * 4 ≤ 536870912; omega) (by show _ ≤ 3; omega) (by show _ ≤ 6 * (zNl n4 pc_ - n4); omega) dX0_grow_39 (fun q_10 H G => ?_)
      have G : zS T A s.heap s [[zO0 h md wy la pc_ a1_1 a2_2 a3_3 a4_4 a5_5 a6_6], [zAr T 0 a1_1 7 f1], [zAr T 0 a2_2 7 f2], [zAr T 0 a3_3 7 f3], [zAr T 0 a4_4 n4 f4], [zAr T 0 a5_5 n4 f5], [zAr T 0 a6_6 n4 f6], [zAr T 0 q_10 L (fun _ => 0)]] _ _ := G
      refine z_put C G clX0 0 rfl 7 (by decide) m_fl_RX0_28 rfl rfl rfl (Nat.le_of_ble_eq_true rfl) dX0_grow_41 (fun H locs G => ?_)
      have G : zS T A s.heap s [[zO0 h md wy la pc_ a1_1 a2_2 a3_3 q_10 a5_5 a6_6], [zAr T 0 a1_1 7 f1], [zAr T 0 a2_2 7 f2], [zAr T 0 a3_3 7 f3], [zAr T 0 a4_4 n4 f4], [zAr T 0 a5_5 n4 f5], [zAr T 0 a6_6 n4 f6], [zAr T 0 q_10 L (fun _ => 0)]] _ _ := G
      refine lv_aload_n hx hb dX0_grow_44 rfl (lv_at hl 1 rfl) ?_
      refine lv_iload_n hx hb dX0_grow_45 rfl (lv_at hl 0 rfl) ?_
      refine z_newa C G 0 (ty := .int) (N' := L) (a0 := (L, .inl (fun _ => 0))) rfl z_uint m_ar_int rfl (fun _ => rfl) (nI_pos (by omega)) (nI_clamp (by omega)) (by show L * 4 ≤ 536870912; omega) (by show _ ≤ 3; omega) (by show _ ≤ 6 * (zNl n4 pc_ - n4); omega) dX0_grow_46 (fun q_11 H G => ?_)
      have G : zS T A s.heap s [[zO0 h md wy la pc_ a1_1 a2_2 a3_3 q_10 a5_5 a6_6], [zAr T 0 a1_1 7 f1], [zAr T 0 a2_2 7 f2], [zAr T 0 a3_3 7 f3], [zAr T 0 a4_4 n4 f4], [zAr T 0 a5_5 n4 f5], [zAr T 0 a6_6 n4 f6], [zAr T 0 q_10 L (fun _ => 0)], [zAr T 0 q_11 L (fun _ => 0)]] _ _ := G
      refine z_put C G clX0 0 rfl 8 (by decide) m_fl_RX0_31 rfl rfl rfl (Nat.le_of_ble_eq_true rfl) dX0_grow_48 (fun H locs G => ?_)
      have G : zS T A s.heap s [[zO0 h md wy la pc_ a1_1 a2_2 a3_3 q_10 q_11 a6_6], [zAr T 0 a1_1 7 f1], [zAr T 0 a2_2 7 f2], [zAr T 0 a3_3 7 f3], [zAr T 0 a4_4 n4 f4], [zAr T 0 a5_5 n4 f5], [zAr T 0 a6_6 n4 f6], [zAr T 0 q_10 L (fun _ => 0)], [zAr T 0 q_11 L (fun _ => 0)]] _ _ := G
      refine lv_aload_n hx hb dX0_grow_51 rfl (lv_at hl 1 rfl) ?_
      refine lv_iload_n hx hb dX0_grow_52 rfl (lv_at hl 0 rfl) ?_
      refine z_newa C G 0 (ty := .int) (N' := L) (a0 := (L, .inl (fun _ => 0))) rfl z_uint m_ar_int rfl (fun _ => rfl) (nI_pos (by omega)) (nI_clamp (by omega)) (by show L * 4 ≤ 536870912; omega) (by show _ ≤ 3; omega) (by show _ ≤ 6 * (zNl n4 pc_ - n4); omega) dX0_grow_53 (fun q_12 H G => ?_)
      have G : zS T A s.heap s [[zO0 h md wy la pc_ a1_1 a2_2 a3_3 q_10 q_11 a6_6], [zAr T 0 a1_1 7 f1], [zAr T 0 a2_2 7 f2], [zAr T 0 a3_3 7 f3], [zAr T 0 a4_4 n4 f4], [zAr T 0 a5_5 n4 f5], [zAr T 0 a6_6 n4 f6], [zAr T 0 q_10 L (fun _ => 0)], [zAr T 0 q_11 L (fun _ => 0)], [zAr T 0 q_12 L (fun _ => 0)]] _ _ := G
      refine z_put C G clX0 0 rfl 9 (by decide) m_fl_RX0_34 rfl rfl rfl (Nat.le_of_ble_eq_true rfl) dX0_grow_55 (fun H locs G => ?_)
      have G : zS T A s.heap s [[zO0 h md wy la pc_ a1_1 a2_2 a3_3 q_10 q_11 q_12], [zAr T 0 a1_1 7 f1], [zAr T 0 a2_2 7 f2], [zAr T 0 a3_3 7 f3], [zAr T 0 a4_4 n4 f4], [zAr T 0 a5_5 n4 f5], [zAr T 0 a6_6 n4 f6], [zAr T 0 q_10 L (fun _ => 0)], [zAr T 0 q_11 L (fun _ => 0)], [zAr T 0 q_12 L (fun _ => 0)]] _ _ := G
      have G := G.sub (bs' := [[zO0 h md wy la pc_ a1_1 a2_2 a3_3 q_10 q_11 q_12], [zAr T 0 a1_1 7 f1], [zAr T 0 a2_2 7 f2], [zAr T 0 a3_3 7 f3], [zAr T 0 q_10 L (fun _ => 0)], [zAr T 0 q_11 L (fun _ => 0)], [zAr T 0 q_12 L (fun _ => 0)], [zAr T 0 a4_4 n4 f4], [zAr T 0 a5_5 n4 f5], [zAr T 0 a6_6 n4 f6]]) [0, 1, 2, 3, 7, 8, 9, 4, 5, 6] rfl
      have hw_13 : bWays T h la md wy pc_ f1 f2 f3 (fun _ => 0) (fun _ => 0) (fun _ => 0) L [zO0 h md wy la pc_ a1_1 a2_2 a3_3 q_10 q_11 q_12, zAr T 0 a1_1 7 f1, zAr T 0 a2_2 7 f2, zAr T 0 a3_3 7 f3, zAr T 0 q_10 L (fun _ => 0), zAr T 0 q_11 L (fun _ => 0), zAr T 0 q_12 L (fun _ => 0)] := ⟨a1_1, a2_2, a3_3, q_10, q_11, q_12, rfl⟩
      have G : zS T A s.heap s [[zO0 h md wy la pc_ a1_1 a2_2 a3_3 q_10 q_11 q_12, zAr T 0 a1_1 7 f1, zAr T 0 a2_2 7 f2, zAr T 0 a3_3 7 f3, zAr T 0 q_10 L (fun _ => 0), zAr T 0 q_11 L (fun _ => 0), zAr T 0 q_12 L (fun _ => 0)], [zAr T 0 a4_4 n4 f4], [zAr T 0 a5_5 n4 f5], [zAr T 0 a6_6 n4 f6]] _ _ := G.re rfl
      have G := G.sub (bs' := [[zO0 h md wy la pc_ a1_1 a2_2 a3_3 q_10 q_11 q_12, zAr T 0 a1_1 7 f1, zAr T 0 a2_2 7 f2, zAr T 0 a3_3 7 f3, zAr T 0 q_10 L (fun _ => 0), zAr T 0 q_11 L (fun _ => 0), zAr T 0 q_12 L (fun _ => 0)]]) [0] rfl
      exact z_back hQz_ (z_vret C hr hlocks G (Nat.le_of_ble_eq_true rfl) (by omega) dX0_grow_58 ⟨([zO0 h md wy la pc_ a1_1 a2_2 a3_3 q_10 q_11 q_12, zAr T 0 a1_1 7 f1, zAr T 0 a2_2 7 f2, zAr T 0 a3_3 7 f3, zAr T 0 q_10 L (fun _ => 0), zAr T 0 q_11 L (fun _ => 0), zAr T 0 q_12 L (fun _ => 0)]), (fun _ => 0), (fun _ => 0), (fun _ => 0), rfl, (hF2.symm ▸ hw_13)⟩)
    · have c_9n : ¬ pc_.toInt ≤ (L : Int) := fun q => c_9 ((fa_le _ _).mpr (by rw [nI_toInt (n := L) (by omega)]; exact q))
      refine lv_iload_n hx hb dX0_grow_24 rfl (lv_at hl 0 rfl) ?_
      refine lv_ldc (v := 131072) hx hb C.2.2.2.1 (C.2.2.2.2 _ m_ko_RX0_71) dX0_grow_25 ?_
      refine lv_icmp_ge (tgt := 37) hx hb dX0_grow_27 (by decide) (fun c_14 => ?_) (fun c_14 => ?_)
      · have c_14n : 131072 ≤ L := (nI_leI (a := 131072) (b := L) (by omega) (by omega)).mp c_14
        have hF : zLenN pc_ 12 64 = L := by rw [hG, show 12 - k = (11 - k) + 1 by omega, zLenN, if_neg (by omega)]
        have hF2 : zNl n4 pc_ = L := hE.trans hF
        refine lv_aload_n hx hb dX0_grow_37 rfl (lv_at hl 1 rfl) ?_
        refine lv_iload_n hx hb dX0_grow_38 rfl (lv_at hl 0 rfl) ?_
        refine z_newa C G 0 (ty := .int) (N' := L) (a0 := (L, .inl (fun _ => 0))) rfl z_uint m_ar_int rfl (fun _ => rfl) (nI_pos (by omega)) (nI_clamp (by omega)) (by show L * 4 ≤ 536870912; omega) (by show _ ≤ 3; omega) (by show _ ≤ 6 * (zNl n4 pc_ - n4); omega) dX0_grow_39 (fun q_15 H G => ?_)
        have G : zS T A s.heap s [[zO0 h md wy la pc_ a1_1 a2_2 a3_3 a4_4 a5_5 a6_6], [zAr T 0 a1_1 7 f1], [zAr T 0 a2_2 7 f2], [zAr T 0 a3_3 7 f3], [zAr T 0 a4_4 n4 f4], [zAr T 0 a5_5 n4 f5], [zAr T 0 a6_6 n4 f6], [zAr T 0 q_15 L (fun _ => 0)]] _ _ := G
        refine z_put C G clX0 0 rfl 7 (by decide) m_fl_RX0_28 rfl rfl rfl (Nat.le_of_ble_eq_true rfl) dX0_grow_41 (fun H locs G => ?_)
        have G : zS T A s.heap s [[zO0 h md wy la pc_ a1_1 a2_2 a3_3 q_15 a5_5 a6_6], [zAr T 0 a1_1 7 f1], [zAr T 0 a2_2 7 f2], [zAr T 0 a3_3 7 f3], [zAr T 0 a4_4 n4 f4], [zAr T 0 a5_5 n4 f5], [zAr T 0 a6_6 n4 f6], [zAr T 0 q_15 L (fun _ => 0)]] _ _ := G
        refine lv_aload_n hx hb dX0_grow_44 rfl (lv_at hl 1 rfl) ?_
        refine lv_iload_n hx hb dX0_grow_45 rfl (lv_at hl 0 rfl) ?_
        refine z_newa C G 0 (ty := .int) (N' := L) (a0 := (L, .inl (fun _ => 0))) rfl z_uint m_ar_int rfl (fun _ => rfl) (nI_pos (by omega)) (nI_clamp (by omega)) (by show L * 4 ≤ 536870912; omega) (by show _ ≤ 3; omega) (by show _ ≤ 6 * (zNl n4 pc_ - n4); omega) dX0_grow_46 (fun q_16 H G => ?_)
        have G : zS T A s.heap s [[zO0 h md wy la pc_ a1_1 a2_2 a3_3 q_15 a5_5 a6_6], [zAr T 0 a1_1 7 f1], [zAr T 0 a2_2 7 f2], [zAr T 0 a3_3 7 f3], [zAr T 0 a4_4 n4 f4], [zAr T 0 a5_5 n4 f5], [zAr T 0 a6_6 n4 f6], [zAr T 0 q_15 L (fun _ => 0)], [zAr T 0 q_16 L (fun _ => 0)]] _ _ := G
        refine z_put C G clX0 0 rfl 8 (by decide) m_fl_RX0_31 rfl rfl rfl (Nat.le_of_ble_eq_true rfl) dX0_grow_48 (fun H locs G => ?_)
        have G : zS T A s.heap s [[zO0 h md wy la pc_ a1_1 a2_2 a3_3 q_15 q_16 a6_6], [zAr T 0 a1_1 7 f1], [zAr T 0 a2_2 7 f2], [zAr T 0 a3_3 7 f3], [zAr T 0 a4_4 n4 f4], [zAr T 0 a5_5 n4 f5], [zAr T 0 a6_6 n4 f6], [zAr T 0 q_15 L (fun _ => 0)], [zAr T 0 q_16 L (fun _ => 0)]] _ _ := G
        refine lv_aload_n hx hb dX0_grow_51 rfl (lv_at hl 1 rfl) ?_
        refine lv_iload_n hx hb dX0_grow_52 rfl (lv_at hl 0 rfl) ?_
        refine z_newa C G 0 (ty := .int) (N' := L) (a0 := (L, .inl (fun _ => 0))) rfl z_uint m_ar_int rfl (fun _ => rfl) (nI_pos (by omega)) (nI_clamp (by omega)) (by show L * 4 ≤ 536870912; omega) (by show _ ≤ 3; omega) (by show _ ≤ 6 * (zNl n4 pc_ - n4); omega) dX0_grow_53 (fun q_17 H G => ?_)
        have G : zS T A s.heap s [[zO0 h md wy la pc_ a1_1 a2_2 a3_3 q_15 q_16 a6_6], [zAr T 0 a1_1 7 f1], [zAr T 0 a2_2 7 f2], [zAr T 0 a3_3 7 f3], [zAr T 0 a4_4 n4 f4], [zAr T 0 a5_5 n4 f5], [zAr T 0 a6_6 n4 f6], [zAr T 0 q_15 L (fun _ => 0)], [zAr T 0 q_16 L (fun _ => 0)], [zAr T 0 q_17 L (fun _ => 0)]] _ _ := G
        refine z_put C G clX0 0 rfl 9 (by decide) m_fl_RX0_34 rfl rfl rfl (Nat.le_of_ble_eq_true rfl) dX0_grow_55 (fun H locs G => ?_)
        have G : zS T A s.heap s [[zO0 h md wy la pc_ a1_1 a2_2 a3_3 q_15 q_16 q_17], [zAr T 0 a1_1 7 f1], [zAr T 0 a2_2 7 f2], [zAr T 0 a3_3 7 f3], [zAr T 0 a4_4 n4 f4], [zAr T 0 a5_5 n4 f5], [zAr T 0 a6_6 n4 f6], [zAr T 0 q_15 L (fun _ => 0)], [zAr T 0 q_16 L (fun _ => 0)], [zAr T 0 q_17 L (fun _ => 0)]] _ _ := G
        have G := G.sub (bs' := [[zO0 h md wy la pc_ a1_1 a2_2 a3_3 q_15 q_16 q_17], [zAr T 0 a1_1 7 f1], [zAr T 0 a2_2 7 f2], [zAr T 0 a3_3 7 f3], [zAr T 0 q_15 L (fun _ => 0)], [zAr T 0 q_16 L (fun _ => 0)], [zAr T 0 q_17 L (fun _ => 0)], [zAr T 0 a4_4 n4 f4], [zAr T 0 a5_5 n4 f5], [zAr T 0 a6_6 n4 f6]]) [0, 1, 2, 3, 7, 8, 9, 4, 5, 6] rfl
        have hw_18 : bWays T h la md wy pc_ f1 f2 f3 (fun _ => 0) (fun _ => 0) (fun _ => 0) L [zO0 h md wy la pc_ a1_1 a2_2 a3_3 q_15 q_16 q_17, zAr T 0 a1_1 7 f1, zAr T 0 a2_2 7 f2, zAr T 0 a3_3 7 f3, zAr T 0 q_15 L (fun _ => 0), zAr T 0 q_16 L (fun _ => 0), zAr T 0 q_17 L (fun _ => 0)] := ⟨a1_1, a2_2, a3_3, q_15, q_16, q_17, rfl⟩
        have G : zS T A s.heap s [[zO0 h md wy la pc_ a1_1 a2_2 a3_3 q_15 q_16 q_17, zAr T 0 a1_1 7 f1, zAr T 0 a2_2 7 f2, zAr T 0 a3_3 7 f3, zAr T 0 q_15 L (fun _ => 0), zAr T 0 q_16 L (fun _ => 0), zAr T 0 q_17 L (fun _ => 0)], [zAr T 0 a4_4 n4 f4], [zAr T 0 a5_5 n4 f5], [zAr T 0 a6_6 n4 f6]] _ _ := G.re rfl
        have G := G.sub (bs' := [[zO0 h md wy la pc_ a1_1 a2_2 a3_3 q_15 q_16 q_17, zAr T 0 a1_1 7 f1, zAr T 0 a2_2 7 f2, zAr T 0 a3_3 7 f3, zAr T 0 q_15 L (fun _ => 0), zAr T 0 q_16 L (fun _ => 0), zAr T 0 q_17 L (fun _ => 0)]]) [0] rfl
        exact z_back hQz_ (z_vret C hr hlocks G (Nat.le_of_ble_eq_true rfl) (by omega) dX0_grow_58 ⟨([zO0 h md wy la pc_ a1_1 a2_2 a3_3 q_15 q_16 q_17, zAr T 0 a1_1 7 f1, zAr T 0 a2_2 7 f2, zAr T 0 a3_3 7 f3, zAr T 0 q_15 L (fun _ => 0), zAr T 0 q_16 L (fun _ => 0), zAr T 0 q_17 L (fun _ => 0)]), (fun _ => 0), (fun _ => 0), (fun _ => 0), rfl, (hF2.symm ▸ hw_18)⟩)
      · have c_14n : ¬ 131072 ≤ L := fun q => c_14 ((nI_leI (a := 131072) (b := L) (by omega) (by omega)).mpr q)
        refine lv_iload_n hx hb dX0_grow_30 rfl (lv_at hl 0 rfl) ?_
        refine lv_iconst (v := 2) hx hb dX0_grow_31 (by decide) ?_
        refine lv_imul hx hb dX0_grow_32 ?_
        refine lv_topi (fun y_19 ey_19 => ?_)
        obtain rfl : y_19 = nI (L * 2) := ey_19.trans (z_imuln L 2 rfl rfl)
        refine lv_istore_n (lv' := [(1, .int (nI (L * 2))), (0, .ref h)]) hx hb dX0_grow_33 rfl hl (by decide) (zLvf_h rfl) (fun ls hl => ?_)
        refine lv_goto (tgt := 16) hx hb dX0_grow_34 (by decide) ?_
        have hw_20 : bWays T h la md wy pc_ f1 f2 f3 f4 f5 f6 n4 [zO0 h md wy la pc_ a1_1 a2_2 a3_3 a4_4 a5_5 a6_6, zAr T 0 a1_1 7 f1, zAr T 0 a2_2 7 f2, zAr T 0 a3_3 7 f3, zAr T 0 a4_4 n4 f4, zAr T 0 a5_5 n4 f5, zAr T 0 a6_6 n4 f6] := ⟨a1_1, a2_2, a3_3, a4_4, a5_5, a6_6, rfl⟩
        have G : zS T A s.heap s [[zO0 h md wy la pc_ a1_1 a2_2 a3_3 a4_4 a5_5 a6_6, zAr T 0 a1_1 7 f1, zAr T 0 a2_2 7 f2, zAr T 0 a3_3 7 f3, zAr T 0 a4_4 n4 f4, zAr T 0 a5_5 n4 f5, zAr T 0 a6_6 n4 f6]] _ _ := G.re rfl
        exact ih_16 (k + 1) (L * 2) (show (k + 1) ≤ 11 ∧ (L * 2) = 64 * 2 ^ (k + 1) ∧ zLenN pc_ 12 64 = zLenN pc_ (12 - (k + 1)) (L * 2) ∧ (L * 2) ≤ 131072 from ⟨z_k11 hk hL (by omega), by rw [hL, Nat.pow_succ]; omega, by rw [hG, show 12 - k = (12 - (k + 1)) + 1 by omega, zLenN, if_pos ⟨by omega, by omega⟩, Nat.mul_comm], z_k11b hk hL (by omega)⟩) (show 12 - (k + 1) < 12 - k from by omega) _ _ ls G (lv_sub hl [0, 1] rfl)
  · have c_7n : ¬ (n4 : Int) < pc_.toInt := fun q => c_7 ((fa_lt _ _).mpr (by rw [nI_toInt (n := n4) (by omega)]; exact q))
    have hw_21 : bWays T h la md wy pc_ f1 f2 f3 f4 f5 f6 n4 [zO0 h md wy la pc_ a1_1 a2_2 a3_3 a4_4 a5_5 a6_6, zAr T 0 a1_1 7 f1, zAr T 0 a2_2 7 f2, zAr T 0 a3_3 7 f3, zAr T 0 a4_4 n4 f4, zAr T 0 a5_5 n4 f5, zAr T 0 a6_6 n4 f6] := ⟨a1_1, a2_2, a3_3, a4_4, a5_5, a6_6, rfl⟩
    have G : zS T A s.heap s [[zO0 h md wy la pc_ a1_1 a2_2 a3_3 a4_4 a5_5 a6_6, zAr T 0 a1_1 7 f1, zAr T 0 a2_2 7 f2, zAr T 0 a3_3 7 f3, zAr T 0 a4_4 n4 f4, zAr T 0 a5_5 n4 f5, zAr T 0 a6_6 n4 f6]] _ _ := G.re rfl
    exact z_back hQz_ (z_vret C hr hlocks G (Nat.le_of_ble_eq_true rfl) (by omega) dX0_grow_12 ⟨([zO0 h md wy la pc_ a1_1 a2_2 a3_3 a4_4 a5_5 a6_6, zAr T 0 a1_1 7 f1, zAr T 0 a2_2 7 f2, zAr T 0 a3_3 7 f3, zAr T 0 a4_4 n4 f4, zAr T 0 a5_5 n4 f5, zAr T 0 a6_6 n4 f6]), f4, f5, f6, rfl, ((show n4 = zNl n4 pc_ from by unfold zNl; rw [if_pos (by omega)]) ▸ hw_21)⟩)
set_option maxHeartbeats 4000000 in
set_option maxRecDepth 100000 in
/-- nextRow -/
theorem c_nextRow (l : Launch) (T : zTy) (h : Nat) (la : Nat) (md : Int32) (wy : Int32) (pc_ : Int32) (f1 : Nat → Int32) (f2 : Nat → Int32) (f3 : Nat → Int32) (f4 : Nat → Int32) (f5 : Nat → Int32) (f6 : Nat → Int32) (n4 : Nat) (ww : va_W) (hww : bWays T h la md wy pc_ f1 f2 f3 f4 f5 f6 n4 ww) : zMv l T yX0_nextRow cX0_nextRow 2 1 0 0 [.ref h] [ww] (fun bs => ∃ (w2 : va_W) (g3 : Nat → Int32), bs = [w2] ∧ bWays T h la md wy pc_ f1 f2 g3 f4 f5 f6 n4 w2) := by
  refine zMv_of (own := RX0) (by decide) rfl (Nat.le_of_ble_eq_true rfl) ?_
  intro p e s m args below meth c A ls C hr hlocks hnm hAe G hl
  refine zHide (fun Qz_ hQz_ => ?_)
  have hx := C.1
  have hb := C.2.1
  have hl : lv_has ls 2 [(0, .ref h)] := hl
  refine lv_bipush (v := 6) hx hb dX0_nextRow_0 (by decide) ?_
  refine lv_istore_n (lv' := [(1, .int 6), (0, .ref h)]) hx hb dX0_nextRow_2 rfl hl (by decide) (zLvf_h rfl) (fun ls hl => ?_)
  refine lv_iload_n hx hb dX0_nextRow_3 rfl (lv_at hl 0 rfl) ?_
  refine lv_if_lt (tgt := 46) hx hb dX0_nextRow_4 (by decide) (fun q => absurd q (by decide)) (fun _ => ?_)
  refine lv_aload_n hx hb dX0_nextRow_7 rfl (lv_at hl 1 rfl) ?_
  refine zEx6 hww ?_
  intro a1_1 a2_2 a3_3 a4_4 a5_5 a6_6 hbs9
  clear hww
  subst hbs9
  have G : zS T A s.heap s [[zO0 h md wy la pc_ a1_1 a2_2 a3_3 a4_4 a5_5 a6_6], [zAr T 0 a1_1 7 f1], [zAr T 0 a2_2 7 f2], [zAr T 0 a3_3 7 f3], [zAr T 0 a4_4 n4 f4], [zAr T 0 a5_5 n4 f5], [zAr T 0 a6_6 n4 f6]] _ _ := G.re rfl
  refine z_get C G clX0 0 rfl 6 (by decide) m_fl_RX0_25 rfl dX0_nextRow_8 ?_
  refine lv_iload_n hx hb dX0_nextRow_11 rfl (lv_at hl 0 rfl) ?_
  refine lv_dup2_11 hx hb dX0_nextRow_12 rfl rfl ?_
  refine z_ild C G 3 rfl (vp_in_nI (n := 6) (by decide) (by decide)) dX0_nextRow_13 ?_
  refine lv_topi (fun v_7 ev_7 => ?_)
  rw [show ((6 : Int32).toNatClampNeg) = 6 from rfl] at ev_7
  subst ev_7
  refine lv_iconst (v := 1) hx hb dX0_nextRow_14 (by decide) ?_
  refine lv_iadd hx hb dX0_nextRow_15 ?_
  refine z_ist C G 3 rfl (vp_in_nI (n := 6) (by decide) (by decide)) dX0_nextRow_16 (fun H locs G => ?_)
  have G : zS T A s.heap s [[zO0 h md wy la pc_ a1_1 a2_2 a3_3 a4_4 a5_5 a6_6], [zAr T 0 a1_1 7 f1], [zAr T 0 a2_2 7 f2], [zAr T 0 a3_3 7 (upd f3 6 ((f3 6) + 1))], [zAr T 0 a4_4 n4 f4], [zAr T 0 a5_5 n4 f5], [zAr T 0 a6_6 n4 f6]] _ _ := G
  refine lv_aload_n hx hb dX0_nextRow_17 rfl (lv_at hl 1 rfl) ?_
  refine z_get C G clX0 0 rfl 6 (by decide) m_fl_RX0_25 rfl dX0_nextRow_18 ?_
  refine lv_iload_n hx hb dX0_nextRow_21 rfl (lv_at hl 0 rfl) ?_
  refine z_ild C G 3 rfl (vp_in_nI (n := 6) (by decide) (by decide)) dX0_nextRow_22 ?_
  refine lv_topi (fun v_8 ev_8 => ?_)
  have ev_8 : v_8 = (f3 6) + 1 := ev_8
  subst ev_8
  refine lv_aload_n hx hb dX0_nextRow_23 rfl (lv_at hl 1 rfl) ?_
  refine z_get C G clX0 0 rfl 4 (by decide) m_fl_RX0_18 rfl dX0_nextRow_24 ?_
  refine lv_iload_n hx hb dX0_nextRow_27 rfl (lv_at hl 0 rfl) ?_
  refine z_ild C G 1 rfl (vp_in_nI (n := 6) (by decide) (by decide)) dX0_nextRow_28 ?_
  refine lv_topi (fun v_9 ev_9 => ?_)
  rw [show ((6 : Int32).toNatClampNeg) = 6 from rfl] at ev_9
  subst ev_9
  refine lv_icmp_ge (tgt := 33) hx hb dX0_nextRow_29 (by decide) (fun c_10 => ?_) (fun c_10 => ?_)
  · have c_10n : (f1 6).toInt ≤ ((f3 6) + 1).toInt := (fa_le _ _).mp c_10
    refine lv_aload_n hx hb dX0_nextRow_33 rfl (lv_at hl 1 rfl) ?_
    refine z_get C G clX0 0 rfl 6 (by decide) m_fl_RX0_25 rfl dX0_nextRow_34 ?_
    refine lv_iload_n hx hb dX0_nextRow_37 rfl (lv_at hl 0 rfl) ?_
    refine lv_iconst (v := 0) hx hb dX0_nextRow_38 (by decide) ?_
    refine z_ist C G 3 rfl (vp_in_nI (n := 6) (by decide) (by decide)) dX0_nextRow_39 (fun H locs G => ?_)
    have G : zS T A s.heap s [[zO0 h md wy la pc_ a1_1 a2_2 a3_3 a4_4 a5_5 a6_6], [zAr T 0 a1_1 7 f1], [zAr T 0 a2_2 7 f2], [zAr T 0 a3_3 7 (upd (upd f3 6 ((f3 6) + 1)) 6 0)], [zAr T 0 a4_4 n4 f4], [zAr T 0 a5_5 n4 f5], [zAr T 0 a6_6 n4 f6]] _ _ := G
    refine lv_iinc (v := 5) (lv' := [(1, .int 5), (0, .ref h)]) hx hb dX0_nextRow_40 hl (k := 0) rfl (by decide) (by decide) (zLvf_h rfl) (fun ls hl => ?_)
    refine lv_goto (tgt := 3) hx hb dX0_nextRow_43 (by decide) ?_
    refine lv_iload_n hx hb dX0_nextRow_3 rfl (lv_at hl 0 rfl) ?_
    refine lv_if_lt (tgt := 46) hx hb dX0_nextRow_4 (by decide) (fun q => absurd q (by decide)) (fun _ => ?_)
    refine lv_aload_n hx hb dX0_nextRow_7 rfl (lv_at hl 1 rfl) ?_
    refine z_get C G clX0 0 rfl 6 (by decide) m_fl_RX0_25 rfl dX0_nextRow_8 ?_
    refine lv_iload_n hx hb dX0_nextRow_11 rfl (lv_at hl 0 rfl) ?_
    refine lv_dup2_11 hx hb dX0_nextRow_12 rfl rfl ?_
    refine z_ild C G 3 rfl (vp_in_nI (n := 5) (by decide) (by decide)) dX0_nextRow_13 ?_
    refine lv_topi (fun v_11 ev_11 => ?_)
    rw [show ((5 : Int32).toNatClampNeg) = 5 from rfl] at ev_11
    subst ev_11
    refine lv_iconst (v := 1) hx hb dX0_nextRow_14 (by decide) ?_
    refine lv_iadd hx hb dX0_nextRow_15 ?_
    refine z_ist C G 3 rfl (vp_in_nI (n := 5) (by decide) (by decide)) dX0_nextRow_16 (fun H locs G => ?_)
    have G : zS T A s.heap s [[zO0 h md wy la pc_ a1_1 a2_2 a3_3 a4_4 a5_5 a6_6], [zAr T 0 a1_1 7 f1], [zAr T 0 a2_2 7 f2], [zAr T 0 a3_3 7 (upd (upd (upd f3 6 ((f3 6) + 1)) 6 0) 5 (((upd (upd f3 6 ((f3 6) + 1)) 6 0) 5) + 1))], [zAr T 0 a4_4 n4 f4], [zAr T 0 a5_5 n4 f5], [zAr T 0 a6_6 n4 f6]] _ _ := G
    refine lv_aload_n hx hb dX0_nextRow_17 rfl (lv_at hl 1 rfl) ?_
    refine z_get C G clX0 0 rfl 6 (by decide) m_fl_RX0_25 rfl dX0_nextRow_18 ?_
    refine lv_iload_n hx hb dX0_nextRow_21 rfl (lv_at hl 0 rfl) ?_
    refine z_ild C G 3 rfl (vp_in_nI (n := 5) (by decide) (by decide)) dX0_nextRow_22 ?_
    refine lv_topi (fun v_12 ev_12 => ?_)
    have ev_12 : v_12 = ((upd (upd f3 6 ((f3 6) + 1)) 6 0) 5) + 1 := ev_12
    subst ev_12
    refine lv_aload_n hx hb dX0_nextRow_23 rfl (lv_at hl 1 rfl) ?_
    refine z_get C G clX0 0 rfl 4 (by decide) m_fl_RX0_18 rfl dX0_nextRow_24 ?_
    refine lv_iload_n hx hb dX0_nextRow_27 rfl (lv_at hl 0 rfl) ?_
    refine z_ild C G 1 rfl (vp_in_nI (n := 5) (by decide) (by decide)) dX0_nextRow_28 ?_
    refine lv_topi (fun v_13 ev_13 => ?_)
    rw [show ((5 : Int32).toNatClampNeg) = 5 from rfl] at ev_13
    subst ev_13
    refine lv_icmp_ge (tgt := 33) hx hb dX0_nextRow_29 (by decide) (fun c_14 => ?_) (fun c_14 => ?_)
    · have c_14n : (f1 5).toInt ≤ (((upd (upd f3 6 ((f3 6) + 1)) 6 0) 5) + 1).toInt := (fa_le _ _).mp c_14
      refine lv_aload_n hx hb dX0_nextRow_33 rfl (lv_at hl 1 rfl) ?_
      refine z_get C G clX0 0 rfl 6 (by decide) m_fl_RX0_25 rfl dX0_nextRow_34 ?_
      refine lv_iload_n hx hb dX0_nextRow_37 rfl (lv_at hl 0 rfl) ?_
      refine lv_iconst (v := 0) hx hb dX0_nextRow_38 (by decide) ?_
      refine z_ist C G 3 rfl (vp_in_nI (n := 5) (by decide) (by decide)) dX0_nextRow_39 (fun H locs G => ?_)
      have G : zS T A s.heap s [[zO0 h md wy la pc_ a1_1 a2_2 a3_3 a4_4 a5_5 a6_6], [zAr T 0 a1_1 7 f1], [zAr T 0 a2_2 7 f2], [zAr T 0 a3_3 7 (upd (upd (upd (upd f3 6 ((f3 6) + 1)) 6 0) 5 (((upd (upd f3 6 ((f3 6) + 1)) 6 0) 5) + 1)) 5 0)], [zAr T 0 a4_4 n4 f4], [zAr T 0 a5_5 n4 f5], [zAr T 0 a6_6 n4 f6]] _ _ := G
      refine lv_iinc (v := 4) (lv' := [(1, .int 4), (0, .ref h)]) hx hb dX0_nextRow_40 hl (k := 0) rfl (by decide) (by decide) (zLvf_h rfl) (fun ls hl => ?_)
      refine lv_goto (tgt := 3) hx hb dX0_nextRow_43 (by decide) ?_
      refine lv_iload_n hx hb dX0_nextRow_3 rfl (lv_at hl 0 rfl) ?_
      refine lv_if_lt (tgt := 46) hx hb dX0_nextRow_4 (by decide) (fun q => absurd q (by decide)) (fun _ => ?_)
      refine lv_aload_n hx hb dX0_nextRow_7 rfl (lv_at hl 1 rfl) ?_
      refine z_get C G clX0 0 rfl 6 (by decide) m_fl_RX0_25 rfl dX0_nextRow_8 ?_
      refine lv_iload_n hx hb dX0_nextRow_11 rfl (lv_at hl 0 rfl) ?_
      refine lv_dup2_11 hx hb dX0_nextRow_12 rfl rfl ?_
      refine z_ild C G 3 rfl (vp_in_nI (n := 4) (by decide) (by decide)) dX0_nextRow_13 ?_
      refine lv_topi (fun v_15 ev_15 => ?_)
      rw [show ((4 : Int32).toNatClampNeg) = 4 from rfl] at ev_15
      subst ev_15
      refine lv_iconst (v := 1) hx hb dX0_nextRow_14 (by decide) ?_
      refine lv_iadd hx hb dX0_nextRow_15 ?_
      refine z_ist C G 3 rfl (vp_in_nI (n := 4) (by decide) (by decide)) dX0_nextRow_16 (fun H locs G => ?_)
      have G : zS T A s.heap s [[zO0 h md wy la pc_ a1_1 a2_2 a3_3 a4_4 a5_5 a6_6], [zAr T 0 a1_1 7 f1], [zAr T 0 a2_2 7 f2], [zAr T 0 a3_3 7 (upd (upd (upd (upd (upd f3 6 ((f3 6) + 1)) 6 0) 5 (((upd (upd f3 6 ((f3 6) + 1)) 6 0) 5) + 1)) 5 0) 4 (((upd (upd (upd (upd f3 6 ((f3 6) + 1)) 6 0) 5 (((upd (upd f3 6 ((f3 6) + 1)) 6 0) 5) + 1)) 5 0) 4) + 1))], [zAr T 0 a4_4 n4 f4], [zAr T 0 a5_5 n4 f5], [zAr T 0 a6_6 n4 f6]] _ _ := G
      refine lv_aload_n hx hb dX0_nextRow_17 rfl (lv_at hl 1 rfl) ?_
      refine z_get C G clX0 0 rfl 6 (by decide) m_fl_RX0_25 rfl dX0_nextRow_18 ?_
      refine lv_iload_n hx hb dX0_nextRow_21 rfl (lv_at hl 0 rfl) ?_
      refine z_ild C G 3 rfl (vp_in_nI (n := 4) (by decide) (by decide)) dX0_nextRow_22 ?_
      refine lv_topi (fun v_16 ev_16 => ?_)
      have ev_16 : v_16 = ((upd (upd (upd (upd f3 6 ((f3 6) + 1)) 6 0) 5 (((upd (upd f3 6 ((f3 6) + 1)) 6 0) 5) + 1)) 5 0) 4) + 1 := ev_16
      subst ev_16
      refine lv_aload_n hx hb dX0_nextRow_23 rfl (lv_at hl 1 rfl) ?_
      refine z_get C G clX0 0 rfl 4 (by decide) m_fl_RX0_18 rfl dX0_nextRow_24 ?_
      refine lv_iload_n hx hb dX0_nextRow_27 rfl (lv_at hl 0 rfl) ?_
      refine z_ild C G 1 rfl (vp_in_nI (n := 4) (by decide) (by decide)) dX0_nextRow_28 ?_
      refine lv_topi (fun v_17 ev_17 => ?_)
      rw [show ((4 : Int32).toNatClampNeg) = 4 from rfl] at ev_17
      subst ev_17
      refine lv_icmp_ge (tgt := 33) hx hb dX0_nextRow_29 (by decide) (fun c_18 => ?_) (fun c_18 => ?_)
      · have c_18n : (f1 4).toInt ≤ (((upd (upd (upd (upd f3 6 ((f3 6) + 1)) 6 0) 5 (((upd (upd f3 6 ((f3 6) + 1)) 6 0) 5) + 1)) 5 0) 4) + 1).toInt := (fa_le _ _).mp c_18
        refine lv_aload_n hx hb dX0_nextRow_33 rfl (lv_at hl 1 rfl) ?_
        refine z_get C G clX0 0 rfl 6 (by decide) m_fl_RX0_25 rfl dX0_nextRow_34 ?_
        refine lv_iload_n hx hb dX0_nextRow_37 rfl (lv_at hl 0 rfl) ?_
        refine lv_iconst (v := 0) hx hb dX0_nextRow_38 (by decide) ?_
        refine z_ist C G 3 rfl (vp_in_nI (n := 4) (by decide) (by decide)) dX0_nextRow_39 (fun H locs G => ?_)
        have G : zS T A s.heap s [[zO0 h md wy la pc_ a1_1 a2_2 a3_3 a4_4 a5_5 a6_6], [zAr T 0 a1_1 7 f1], [zAr T 0 a2_2 7 f2], [zAr T 0 a3_3 7 (upd (upd (upd (upd (upd (upd f3 6 ((f3 6) + 1)) 6 0) 5 (((upd (upd f3 6 ((f3 6) + 1)) 6 0) 5) + 1)) 5 0) 4 (((upd (upd (upd (upd f3 6 ((f3 6) + 1)) 6 0) 5 (((upd (upd f3 6 ((f3 6) + 1)) 6 0) 5) + 1)) 5 0) 4) + 1)) 4 0)], [zAr T 0 a4_4 n4 f4], [zAr T 0 a5_5 n4 f5], [zAr T 0 a6_6 n4 f6]] _ _ := G
        refine lv_iinc (v := 3) (lv' := [(1, .int 3), (0, .ref h)]) hx hb dX0_nextRow_40 hl (k := 0) rfl (by decide) (by decide) (zLvf_h rfl) (fun ls hl => ?_)
        refine lv_goto (tgt := 3) hx hb dX0_nextRow_43 (by decide) ?_
        refine lv_iload_n hx hb dX0_nextRow_3 rfl (lv_at hl 0 rfl) ?_
        refine lv_if_lt (tgt := 46) hx hb dX0_nextRow_4 (by decide) (fun q => absurd q (by decide)) (fun _ => ?_)
        refine lv_aload_n hx hb dX0_nextRow_7 rfl (lv_at hl 1 rfl) ?_
        refine z_get C G clX0 0 rfl 6 (by decide) m_fl_RX0_25 rfl dX0_nextRow_8 ?_
        refine lv_iload_n hx hb dX0_nextRow_11 rfl (lv_at hl 0 rfl) ?_
        refine lv_dup2_11 hx hb dX0_nextRow_12 rfl rfl ?_
        refine z_ild C G 3 rfl (vp_in_nI (n := 3) (by decide) (by decide)) dX0_nextRow_13 ?_
        refine lv_topi (fun v_19 ev_19 => ?_)
        rw [show ((3 : Int32).toNatClampNeg) = 3 from rfl] at ev_19
        subst ev_19
        refine lv_iconst (v := 1) hx hb dX0_nextRow_14 (by decide) ?_
        refine lv_iadd hx hb dX0_nextRow_15 ?_
        refine z_ist C G 3 rfl (vp_in_nI (n := 3) (by decide) (by decide)) dX0_nextRow_16 (fun H locs G => ?_)
        have G : zS T A s.heap s [[zO0 h md wy la pc_ a1_1 a2_2 a3_3 a4_4 a5_5 a6_6], [zAr T 0 a1_1 7 f1], [zAr T 0 a2_2 7 f2], [zAr T 0 a3_3 7 (upd (upd (upd (upd (upd (upd (upd f3 6 ((f3 6) + 1)) 6 0) 5 (((upd (upd f3 6 ((f3 6) + 1)) 6 0) 5) + 1)) 5 0) 4 (((upd (upd (upd (upd f3 6 ((f3 6) + 1)) 6 0) 5 (((upd (upd f3 6 ((f3 6) + 1)) 6 0) 5) + 1)) 5 0) 4) + 1)) 4 0) 3 (((upd (upd (upd (upd (upd (upd f3 6 ((f3 6) + 1)) 6 0) 5 (((upd (upd f3 6 ((f3 6) + 1)) 6 0) 5) + 1)) 5 0) 4 (((upd (upd (upd (upd f3 6 ((f3 6) + 1)) 6 0) 5 (((upd (upd f3 6 ((f3 6) + 1)) 6 0) 5) + 1)) 5 0) 4) + 1)) 4 0) 3) + 1))], [zAr T 0 a4_4 n4 f4], [zAr T 0 a5_5 n4 f5], [zAr T 0 a6_6 n4 f6]] _ _ := G
        refine lv_aload_n hx hb dX0_nextRow_17 rfl (lv_at hl 1 rfl) ?_
        refine z_get C G clX0 0 rfl 6 (by decide) m_fl_RX0_25 rfl dX0_nextRow_18 ?_
        refine lv_iload_n hx hb dX0_nextRow_21 rfl (lv_at hl 0 rfl) ?_
        refine z_ild C G 3 rfl (vp_in_nI (n := 3) (by decide) (by decide)) dX0_nextRow_22 ?_
        refine lv_topi (fun v_20 ev_20 => ?_)
        have ev_20 : v_20 = ((upd (upd (upd (upd (upd (upd f3 6 ((f3 6) + 1)) 6 0) 5 (((upd (upd f3 6 ((f3 6) + 1)) 6 0) 5) + 1)) 5 0) 4 (((upd (upd (upd (upd f3 6 ((f3 6) + 1)) 6 0) 5 (((upd (upd f3 6 ((f3 6) + 1)) 6 0) 5) + 1)) 5 0) 4) + 1)) 4 0) 3) + 1 := ev_20
        subst ev_20
        refine lv_aload_n hx hb dX0_nextRow_23 rfl (lv_at hl 1 rfl) ?_
        refine z_get C G clX0 0 rfl 4 (by decide) m_fl_RX0_18 rfl dX0_nextRow_24 ?_
        refine lv_iload_n hx hb dX0_nextRow_27 rfl (lv_at hl 0 rfl) ?_
        refine z_ild C G 1 rfl (vp_in_nI (n := 3) (by decide) (by decide)) dX0_nextRow_28 ?_
        refine lv_topi (fun v_21 ev_21 => ?_)
        rw [show ((3 : Int32).toNatClampNeg) = 3 from rfl] at ev_21
        subst ev_21
        refine lv_icmp_ge (tgt := 33) hx hb dX0_nextRow_29 (by decide) (fun c_22 => ?_) (fun c_22 => ?_)
        · have c_22n : (f1 3).toInt ≤ (((upd (upd (upd (upd (upd (upd f3 6 ((f3 6) + 1)) 6 0) 5 (((upd (upd f3 6 ((f3 6) + 1)) 6 0) 5) + 1)) 5 0) 4 (((upd (upd (upd (upd f3 6 ((f3 6) + 1)) 6 0) 5 (((upd (upd f3 6 ((f3 6) + 1)) 6 0) 5) + 1)) 5 0) 4) + 1)) 4 0) 3) + 1).toInt := (fa_le _ _).mp c_22
          refine lv_aload_n hx hb dX0_nextRow_33 rfl (lv_at hl 1 rfl) ?_
          refine z_get C G clX0 0 rfl 6 (by decide) m_fl_RX0_25 rfl dX0_nextRow_34 ?_
          refine lv_iload_n hx hb dX0_nextRow_37 rfl (lv_at hl 0 rfl) ?_
          refine lv_iconst (v := 0) hx hb dX0_nextRow_38 (by decide) ?_
          refine z_ist C G 3 rfl (vp_in_nI (n := 3) (by decide) (by decide)) dX0_nextRow_39 (fun H locs G => ?_)
          have G : zS T A s.heap s [[zO0 h md wy la pc_ a1_1 a2_2 a3_3 a4_4 a5_5 a6_6], [zAr T 0 a1_1 7 f1], [zAr T 0 a2_2 7 f2], [zAr T 0 a3_3 7 (upd (upd (upd (upd (upd (upd (upd (upd f3 6 ((f3 6) + 1)) 6 0) 5 (((upd (upd f3 6 ((f3 6) + 1)) 6 0) 5) + 1)) 5 0) 4 (((upd (upd (upd (upd f3 6 ((f3 6) + 1)) 6 0) 5 (((upd (upd f3 6 ((f3 6) + 1)) 6 0) 5) + 1)) 5 0) 4) + 1)) 4 0) 3 (((upd (upd (upd (upd (upd (upd f3 6 ((f3 6) + 1)) 6 0) 5 (((upd (upd f3 6 ((f3 6) + 1)) 6 0) 5) + 1)) 5 0) 4 (((upd (upd (upd (upd f3 6 ((f3 6) + 1)) 6 0) 5 (((upd (upd f3 6 ((f3 6) + 1)) 6 0) 5) + 1)) 5 0) 4) + 1)) 4 0) 3) + 1)) 3 0)], [zAr T 0 a4_4 n4 f4], [zAr T 0 a5_5 n4 f5], [zAr T 0 a6_6 n4 f6]] _ _ := G
          refine lv_iinc (v := 2) (lv' := [(1, .int 2), (0, .ref h)]) hx hb dX0_nextRow_40 hl (k := 0) rfl (by decide) (by decide) (zLvf_h rfl) (fun ls hl => ?_)
          refine lv_goto (tgt := 3) hx hb dX0_nextRow_43 (by decide) ?_
          refine lv_iload_n hx hb dX0_nextRow_3 rfl (lv_at hl 0 rfl) ?_
          refine lv_if_lt (tgt := 46) hx hb dX0_nextRow_4 (by decide) (fun q => absurd q (by decide)) (fun _ => ?_)
          refine lv_aload_n hx hb dX0_nextRow_7 rfl (lv_at hl 1 rfl) ?_
          refine z_get C G clX0 0 rfl 6 (by decide) m_fl_RX0_25 rfl dX0_nextRow_8 ?_
          refine lv_iload_n hx hb dX0_nextRow_11 rfl (lv_at hl 0 rfl) ?_
          refine lv_dup2_11 hx hb dX0_nextRow_12 rfl rfl ?_
          refine z_ild C G 3 rfl (vp_in_nI (n := 2) (by decide) (by decide)) dX0_nextRow_13 ?_
          refine lv_topi (fun v_23 ev_23 => ?_)
          rw [show ((2 : Int32).toNatClampNeg) = 2 from rfl] at ev_23
          subst ev_23
          refine lv_iconst (v := 1) hx hb dX0_nextRow_14 (by decide) ?_
          refine lv_iadd hx hb dX0_nextRow_15 ?_
          refine z_ist C G 3 rfl (vp_in_nI (n := 2) (by decide) (by decide)) dX0_nextRow_16 (fun H locs G => ?_)
          have G : zS T A s.heap s [[zO0 h md wy la pc_ a1_1 a2_2 a3_3 a4_4 a5_5 a6_6], [zAr T 0 a1_1 7 f1], [zAr T 0 a2_2 7 f2], [zAr T 0 a3_3 7 (upd (upd (upd (upd (upd (upd (upd (upd (upd f3 6 ((f3 6) + 1)) 6 0) 5 (((upd (upd f3 6 ((f3 6) + 1)) 6 0) 5) + 1)) 5 0) 4 (((upd (upd (upd (upd f3 6 ((f3 6) + 1)) 6 0) 5 (((upd (upd f3 6 ((f3 6) + 1)) 6 0) 5) + 1)) 5 0) 4) + 1)) 4 0) 3 (((upd (upd (upd (upd (upd (upd f3 6 ((f3 6) + 1)) 6 0) 5 (((upd (upd f3 6 ((f3 6) + 1)) 6 0) 5) + 1)) 5 0) 4 (((upd (upd (upd (upd f3 6 ((f3 6) + 1)) 6 0) 5 (((upd (upd f3 6 ((f3 6) + 1)) 6 0) 5) + 1)) 5 0) 4) + 1)) 4 0) 3) + 1)) 3 0) 2 (((upd (upd (upd (upd (upd (upd (upd (upd f3 6 ((f3 6) + 1)) 6 0) 5 (((upd (upd f3 6 ((f3 6) + 1)) 6 0) 5) + 1)) 5 0) 4 (((upd (upd (upd (upd f3 6 ((f3 6) + 1)) 6 0) 5 (((upd (upd f3 6 ((f3 6) + 1)) 6 0) 5) + 1)) 5 0) 4) + 1)) 4 0) 3 (((upd (upd (upd (upd (upd (upd f3 6 ((f3 6) + 1)) 6 0) 5 (((upd (upd f3 6 ((f3 6) + 1)) 6 0) 5) + 1)) 5 0) 4 (((upd (upd (upd (upd f3 6 ((f3 6) + 1)) 6 0) 5 (((upd (upd f3 6 ((f3 6) + 1)) 6 0) 5) + 1)) 5 0) 4) + 1)) 4 0) 3) + 1)) 3 0) 2) + 1))], [zAr T 0 a4_4 n4 f4], [zAr T 0 a5_5 n4 f5], [zAr T 0 a6_6 n4 f6]] _ _ := G
          refine lv_aload_n hx hb dX0_nextRow_17 rfl (lv_at hl 1 rfl) ?_
          refine z_get C G clX0 0 rfl 6 (by decide) m_fl_RX0_25 rfl dX0_nextRow_18 ?_
          refine lv_iload_n hx hb dX0_nextRow_21 rfl (lv_at hl 0 rfl) ?_
          refine z_ild C G 3 rfl (vp_in_nI (n := 2) (by decide) (by decide)) dX0_nextRow_22 ?_
          refine lv_topi (fun v_24 ev_24 => ?_)
          have ev_24 : v_24 = ((upd (upd (upd (upd (upd (upd (upd (upd f3 6 ((f3 6) + 1)) 6 0) 5 (((upd (upd f3 6 ((f3 6) + 1)) 6 0) 5) + 1)) 5 0) 4 (((upd (upd (upd (upd f3 6 ((f3 6) + 1)) 6 0) 5 (((upd (upd f3 6 ((f3 6) + 1)) 6 0) 5) + 1)) 5 0) 4) + 1)) 4 0) 3 (((upd (upd (upd (upd (upd (upd f3 6 ((f3 6) + 1)) 6 0) 5 (((upd (upd f3 6 ((f3 6) + 1)) 6 0) 5) + 1)) 5 0) 4 (((upd (upd (upd (upd f3 6 ((f3 6) + 1)) 6 0) 5 (((upd (upd f3 6 ((f3 6) + 1)) 6 0) 5) + 1)) 5 0) 4) + 1)) 4 0) 3) + 1)) 3 0) 2) + 1 := ev_24
          subst ev_24
          refine lv_aload_n hx hb dX0_nextRow_23 rfl (lv_at hl 1 rfl) ?_
          refine z_get C G clX0 0 rfl 4 (by decide) m_fl_RX0_18 rfl dX0_nextRow_24 ?_
          refine lv_iload_n hx hb dX0_nextRow_27 rfl (lv_at hl 0 rfl) ?_
          refine z_ild C G 1 rfl (vp_in_nI (n := 2) (by decide) (by decide)) dX0_nextRow_28 ?_
          refine lv_topi (fun v_25 ev_25 => ?_)
          rw [show ((2 : Int32).toNatClampNeg) = 2 from rfl] at ev_25
          subst ev_25
          refine lv_icmp_ge (tgt := 33) hx hb dX0_nextRow_29 (by decide) (fun c_26 => ?_) (fun c_26 => ?_)
          · have c_26n : (f1 2).toInt ≤ (((upd (upd (upd (upd (upd (upd (upd (upd f3 6 ((f3 6) + 1)) 6 0) 5 (((upd (upd f3 6 ((f3 6) + 1)) 6 0) 5) + 1)) 5 0) 4 (((upd (upd (upd (upd f3 6 ((f3 6) + 1)) 6 0) 5 (((upd (upd f3 6 ((f3 6) + 1)) 6 0) 5) + 1)) 5 0) 4) + 1)) 4 0) 3 (((upd (upd (upd (upd (upd (upd f3 6 ((f3 6) + 1)) 6 0) 5 (((upd (upd f3 6 ((f3 6) + 1)) 6 0) 5) + 1)) 5 0) 4 (((upd (upd (upd (upd f3 6 ((f3 6) + 1)) 6 0) 5 (((upd (upd f3 6 ((f3 6) + 1)) 6 0) 5) + 1)) 5 0) 4) + 1)) 4 0) 3) + 1)) 3 0) 2) + 1).toInt := (fa_le _ _).mp c_26
            refine lv_aload_n hx hb dX0_nextRow_33 rfl (lv_at hl 1 rfl) ?_
            refine z_get C G clX0 0 rfl 6 (by decide) m_fl_RX0_25 rfl dX0_nextRow_34 ?_
            refine lv_iload_n hx hb dX0_nextRow_37 rfl (lv_at hl 0 rfl) ?_
            refine lv_iconst (v := 0) hx hb dX0_nextRow_38 (by decide) ?_
            refine z_ist C G 3 rfl (vp_in_nI (n := 2) (by decide) (by decide)) dX0_nextRow_39 (fun H locs G => ?_)
            have G : zS T A s.heap s [[zO0 h md wy la pc_ a1_1 a2_2 a3_3 a4_4 a5_5 a6_6], [zAr T 0 a1_1 7 f1], [zAr T 0 a2_2 7 f2], [zAr T 0 a3_3 7 (upd (upd (upd (upd (upd (upd (upd (upd (upd (upd f3 6 ((f3 6) + 1)) 6 0) 5 (((upd (upd f3 6 ((f3 6) + 1)) 6 0) 5) + 1)) 5 0) 4 (((upd (upd (upd (upd f3 6 ((f3 6) + 1)) 6 0) 5 (((upd (upd f3 6 ((f3 6) + 1)) 6 0) 5) + 1)) 5 0) 4) + 1)) 4 0) 3 (((upd (upd (upd (upd (upd (upd f3 6 ((f3 6) + 1)) 6 0) 5 (((upd (upd f3 6 ((f3 6) + 1)) 6 0) 5) + 1)) 5 0) 4 (((upd (upd (upd (upd f3 6 ((f3 6) + 1)) 6 0) 5 (((upd (upd f3 6 ((f3 6) + 1)) 6 0) 5) + 1)) 5 0) 4) + 1)) 4 0) 3) + 1)) 3 0) 2 (((upd (upd (upd (upd (upd (upd (upd (upd f3 6 ((f3 6) + 1)) 6 0) 5 (((upd (upd f3 6 ((f3 6) + 1)) 6 0) 5) + 1)) 5 0) 4 (((upd (upd (upd (upd f3 6 ((f3 6) + 1)) 6 0) 5 (((upd (upd f3 6 ((f3 6) + 1)) 6 0) 5) + 1)) 5 0) 4) + 1)) 4 0) 3 (((upd (upd (upd (upd (upd (upd f3 6 ((f3 6) + 1)) 6 0) 5 (((upd (upd f3 6 ((f3 6) + 1)) 6 0) 5) + 1)) 5 0) 4 (((upd (upd (upd (upd f3 6 ((f3 6) + 1)) 6 0) 5 (((upd (upd f3 6 ((f3 6) + 1)) 6 0) 5) + 1)) 5 0) 4) + 1)) 4 0) 3) + 1)) 3 0) 2) + 1)) 2 0)], [zAr T 0 a4_4 n4 f4], [zAr T 0 a5_5 n4 f5], [zAr T 0 a6_6 n4 f6]] _ _ := G
            refine lv_iinc (v := 1) (lv' := [(1, .int 1), (0, .ref h)]) hx hb dX0_nextRow_40 hl (k := 0) rfl (by decide) (by decide) (zLvf_h rfl) (fun ls hl => ?_)
            refine lv_goto (tgt := 3) hx hb dX0_nextRow_43 (by decide) ?_
            refine lv_iload_n hx hb dX0_nextRow_3 rfl (lv_at hl 0 rfl) ?_
            refine lv_if_lt (tgt := 46) hx hb dX0_nextRow_4 (by decide) (fun q => absurd q (by decide)) (fun _ => ?_)
            refine lv_aload_n hx hb dX0_nextRow_7 rfl (lv_at hl 1 rfl) ?_
            refine z_get C G clX0 0 rfl 6 (by decide) m_fl_RX0_25 rfl dX0_nextRow_8 ?_
            refine lv_iload_n hx hb dX0_nextRow_11 rfl (lv_at hl 0 rfl) ?_
            refine lv_dup2_11 hx hb dX0_nextRow_12 rfl rfl ?_
            refine z_ild C G 3 rfl (vp_in_nI (n := 1) (by decide) (by decide)) dX0_nextRow_13 ?_
            refine lv_topi (fun v_27 ev_27 => ?_)
            rw [show ((1 : Int32).toNatClampNeg) = 1 from rfl] at ev_27
            subst ev_27
            refine lv_iconst (v := 1) hx hb dX0_nextRow_14 (by decide) ?_
            refine lv_iadd hx hb dX0_nextRow_15 ?_
            refine z_ist C G 3 rfl (vp_in_nI (n := 1) (by decide) (by decide)) dX0_nextRow_16 (fun H locs G => ?_)
            have G : zS T A s.heap s [[zO0 h md wy la pc_ a1_1 a2_2 a3_3 a4_4 a5_5 a6_6], [zAr T 0 a1_1 7 f1], [zAr T 0 a2_2 7 f2], [zAr T 0 a3_3 7 (upd (upd (upd (upd (upd (upd (upd (upd (upd (upd (upd f3 6 ((f3 6) + 1)) 6 0) 5 (((upd (upd f3 6 ((f3 6) + 1)) 6 0) 5) + 1)) 5 0) 4 (((upd (upd (upd (upd f3 6 ((f3 6) + 1)) 6 0) 5 (((upd (upd f3 6 ((f3 6) + 1)) 6 0) 5) + 1)) 5 0) 4) + 1)) 4 0) 3 (((upd (upd (upd (upd (upd (upd f3 6 ((f3 6) + 1)) 6 0) 5 (((upd (upd f3 6 ((f3 6) + 1)) 6 0) 5) + 1)) 5 0) 4 (((upd (upd (upd (upd f3 6 ((f3 6) + 1)) 6 0) 5 (((upd (upd f3 6 ((f3 6) + 1)) 6 0) 5) + 1)) 5 0) 4) + 1)) 4 0) 3) + 1)) 3 0) 2 (((upd (upd (upd (upd (upd (upd (upd (upd f3 6 ((f3 6) + 1)) 6 0) 5 (((upd (upd f3 6 ((f3 6) + 1)) 6 0) 5) + 1)) 5 0) 4 (((upd (upd (upd (upd f3 6 ((f3 6) + 1)) 6 0) 5 (((upd (upd f3 6 ((f3 6) + 1)) 6 0) 5) + 1)) 5 0) 4) + 1)) 4 0) 3 (((upd (upd (upd (upd (upd (upd f3 6 ((f3 6) + 1)) 6 0) 5 (((upd (upd f3 6 ((f3 6) + 1)) 6 0) 5) + 1)) 5 0) 4 (((upd (upd (upd (upd f3 6 ((f3 6) + 1)) 6 0) 5 (((upd (upd f3 6 ((f3 6) + 1)) 6 0) 5) + 1)) 5 0) 4) + 1)) 4 0) 3) + 1)) 3 0) 2) + 1)) 2 0) 1 (((upd (upd (upd (upd (upd (upd (upd (upd (upd (upd f3 6 ((f3 6) + 1)) 6 0) 5 (((upd (upd f3 6 ((f3 6) + 1)) 6 0) 5) + 1)) 5 0) 4 (((upd (upd (upd (upd f3 6 ((f3 6) + 1)) 6 0) 5 (((upd (upd f3 6 ((f3 6) + 1)) 6 0) 5) + 1)) 5 0) 4) + 1)) 4 0) 3 (((upd (upd (upd (upd (upd (upd f3 6 ((f3 6) + 1)) 6 0) 5 (((upd (upd f3 6 ((f3 6) + 1)) 6 0) 5) + 1)) 5 0) 4 (((upd (upd (upd (upd f3 6 ((f3 6) + 1)) 6 0) 5 (((upd (upd f3 6 ((f3 6) + 1)) 6 0) 5) + 1)) 5 0) 4) + 1)) 4 0) 3) + 1)) 3 0) 2 (((upd (upd (upd (upd (upd (upd (upd (upd f3 6 ((f3 6) + 1)) 6 0) 5 (((upd (upd f3 6 ((f3 6) + 1)) 6 0) 5) + 1)) 5 0) 4 (((upd (upd (upd (upd f3 6 ((f3 6) + 1)) 6 0) 5 (((upd (upd f3 6 ((f3 6) + 1)) 6 0) 5) + 1)) 5 0) 4) + 1)) 4 0) 3 (((upd (upd (upd (upd (upd (upd f3 6 ((f3 6) + 1)) 6 0) 5 (((upd (upd f3 6 ((f3 6) + 1)) 6 0) 5) + 1)) 5 0) 4 (((upd (upd (upd (upd f3 6 ((f3 6) + 1)) 6 0) 5 (((upd (upd f3 6 ((f3 6) + 1)) 6 0) 5) + 1)) 5 0) 4) + 1)) 4 0) 3) + 1)) 3 0) 2) + 1)) 2 0) 1) + 1))], [zAr T 0 a4_4 n4 f4], [zAr T 0 a5_5 n4 f5], [zAr T 0 a6_6 n4 f6]] _ _ := G
            refine lv_aload_n hx hb dX0_nextRow_17 rfl (lv_at hl 1 rfl) ?_
            refine z_get C G clX0 0 rfl 6 (by decide) m_fl_RX0_25 rfl dX0_nextRow_18 ?_
            refine lv_iload_n hx hb dX0_nextRow_21 rfl (lv_at hl 0 rfl) ?_
            refine z_ild C G 3 rfl (vp_in_nI (n := 1) (by decide) (by decide)) dX0_nextRow_22 ?_
            refine lv_topi (fun v_28 ev_28 => ?_)
            have ev_28 : v_28 = ((upd (upd (upd (upd (upd (upd (upd (upd (upd (upd f3 6 ((f3 6) + 1)) 6 0) 5 (((upd (upd f3 6 ((f3 6) + 1)) 6 0) 5) + 1)) 5 0) 4 (((upd (upd (upd (upd f3 6 ((f3 6) + 1)) 6 0) 5 (((upd (upd f3 6 ((f3 6) + 1)) 6 0) 5) + 1)) 5 0) 4) + 1)) 4 0) 3 (((upd (upd (upd (upd (upd (upd f3 6 ((f3 6) + 1)) 6 0) 5 (((upd (upd f3 6 ((f3 6) + 1)) 6 0) 5) + 1)) 5 0) 4 (((upd (upd (upd (upd f3 6 ((f3 6) + 1)) 6 0) 5 (((upd (upd f3 6 ((f3 6) + 1)) 6 0) 5) + 1)) 5 0) 4) + 1)) 4 0) 3) + 1)) 3 0) 2 (((upd (upd (upd (upd (upd (upd (upd (upd f3 6 ((f3 6) + 1)) 6 0) 5 (((upd (upd f3 6 ((f3 6) + 1)) 6 0) 5) + 1)) 5 0) 4 (((upd (upd (upd (upd f3 6 ((f3 6) + 1)) 6 0) 5 (((upd (upd f3 6 ((f3 6) + 1)) 6 0) 5) + 1)) 5 0) 4) + 1)) 4 0) 3 (((upd (upd (upd (upd (upd (upd f3 6 ((f3 6) + 1)) 6 0) 5 (((upd (upd f3 6 ((f3 6) + 1)) 6 0) 5) + 1)) 5 0) 4 (((upd (upd (upd (upd f3 6 ((f3 6) + 1)) 6 0) 5 (((upd (upd f3 6 ((f3 6) + 1)) 6 0) 5) + 1)) 5 0) 4) + 1)) 4 0) 3) + 1)) 3 0) 2) + 1)) 2 0) 1) + 1 := ev_28
            subst ev_28
            refine lv_aload_n hx hb dX0_nextRow_23 rfl (lv_at hl 1 rfl) ?_
            refine z_get C G clX0 0 rfl 4 (by decide) m_fl_RX0_18 rfl dX0_nextRow_24 ?_
            refine lv_iload_n hx hb dX0_nextRow_27 rfl (lv_at hl 0 rfl) ?_
            refine z_ild C G 1 rfl (vp_in_nI (n := 1) (by decide) (by decide)) dX0_nextRow_28 ?_
            refine lv_topi (fun v_29 ev_29 => ?_)
            rw [show ((1 : Int32).toNatClampNeg) = 1 from rfl] at ev_29
            subst ev_29
            refine lv_icmp_ge (tgt := 33) hx hb dX0_nextRow_29 (by decide) (fun c_30 => ?_) (fun c_30 => ?_)
            · have c_30n : (f1 1).toInt ≤ (((upd (upd (upd (upd (upd (upd (upd (upd (upd (upd f3 6 ((f3 6) + 1)) 6 0) 5 (((upd (upd f3 6 ((f3 6) + 1)) 6 0) 5) + 1)) 5 0) 4 (((upd (upd (upd (upd f3 6 ((f3 6) + 1)) 6 0) 5 (((upd (upd f3 6 ((f3 6) + 1)) 6 0) 5) + 1)) 5 0) 4) + 1)) 4 0) 3 (((upd (upd (upd (upd (upd (upd f3 6 ((f3 6) + 1)) 6 0) 5 (((upd (upd f3 6 ((f3 6) + 1)) 6 0) 5) + 1)) 5 0) 4 (((upd (upd (upd (upd f3 6 ((f3 6) + 1)) 6 0) 5 (((upd (upd f3 6 ((f3 6) + 1)) 6 0) 5) + 1)) 5 0) 4) + 1)) 4 0) 3) + 1)) 3 0) 2 (((upd (upd (upd (upd (upd (upd (upd (upd f3 6 ((f3 6) + 1)) 6 0) 5 (((upd (upd f3 6 ((f3 6) + 1)) 6 0) 5) + 1)) 5 0) 4 (((upd (upd (upd (upd f3 6 ((f3 6) + 1)) 6 0) 5 (((upd (upd f3 6 ((f3 6) + 1)) 6 0) 5) + 1)) 5 0) 4) + 1)) 4 0) 3 (((upd (upd (upd (upd (upd (upd f3 6 ((f3 6) + 1)) 6 0) 5 (((upd (upd f3 6 ((f3 6) + 1)) 6 0) 5) + 1)) 5 0) 4 (((upd (upd (upd (upd f3 6 ((f3 6) + 1)) 6 0) 5 (((upd (upd f3 6 ((f3 6) + 1)) 6 0) 5) + 1)) 5 0) 4) + 1)) 4 0) 3) + 1)) 3 0) 2) + 1)) 2 0) 1) + 1).toInt := (fa_le _ _).mp c_30
              refine lv_aload_n hx hb dX0_nextRow_33 rfl (lv_at hl 1 rfl) ?_
              refine z_get C G clX0 0 rfl 6 (by decide) m_fl_RX0_25 rfl dX0_nextRow_34 ?_
              refine lv_iload_n hx hb dX0_nextRow_37 rfl (lv_at hl 0 rfl) ?_
              refine lv_iconst (v := 0) hx hb dX0_nextRow_38 (by decide) ?_
              refine z_ist C G 3 rfl (vp_in_nI (n := 1) (by decide) (by decide)) dX0_nextRow_39 (fun H locs G => ?_)
              have G : zS T A s.heap s [[zO0 h md wy la pc_ a1_1 a2_2 a3_3 a4_4 a5_5 a6_6], [zAr T 0 a1_1 7 f1], [zAr T 0 a2_2 7 f2], [zAr T 0 a3_3 7 (upd (upd (upd (upd (upd (upd (upd (upd (upd (upd (upd (upd f3 6 ((f3 6) + 1)) 6 0) 5 (((upd (upd f3 6 ((f3 6) + 1)) 6 0) 5) + 1)) 5 0) 4 (((upd (upd (upd (upd f3 6 ((f3 6) + 1)) 6 0) 5 (((upd (upd f3 6 ((f3 6) + 1)) 6 0) 5) + 1)) 5 0) 4) + 1)) 4 0) 3 (((upd (upd (upd (upd (upd (upd f3 6 ((f3 6) + 1)) 6 0) 5 (((upd (upd f3 6 ((f3 6) + 1)) 6 0) 5) + 1)) 5 0) 4 (((upd (upd (upd (upd f3 6 ((f3 6) + 1)) 6 0) 5 (((upd (upd f3 6 ((f3 6) + 1)) 6 0) 5) + 1)) 5 0) 4) + 1)) 4 0) 3) + 1)) 3 0) 2 (((upd (upd (upd (upd (upd (upd (upd (upd f3 6 ((f3 6) + 1)) 6 0) 5 (((upd (upd f3 6 ((f3 6) + 1)) 6 0) 5) + 1)) 5 0) 4 (((upd (upd (upd (upd f3 6 ((f3 6) + 1)) 6 0) 5 (((upd (upd f3 6 ((f3 6) + 1)) 6 0) 5) + 1)) 5 0) 4) + 1)) 4 0) 3 (((upd (upd (upd (upd (upd (upd f3 6 ((f3 6) + 1)) 6 0) 5 (((upd (upd f3 6 ((f3 6) + 1)) 6 0) 5) + 1)) 5 0) 4 (((upd (upd (upd (upd f3 6 ((f3 6) + 1)) 6 0) 5 (((upd (upd f3 6 ((f3 6) + 1)) 6 0) 5) + 1)) 5 0) 4) + 1)) 4 0) 3) + 1)) 3 0) 2) + 1)) 2 0) 1 (((upd (upd (upd (upd (upd (upd (upd (upd (upd (upd f3 6 ((f3 6) + 1)) 6 0) 5 (((upd (upd f3 6 ((f3 6) + 1)) 6 0) 5) + 1)) 5 0) 4 (((upd (upd (upd (upd f3 6 ((f3 6) + 1)) 6 0) 5 (((upd (upd f3 6 ((f3 6) + 1)) 6 0) 5) + 1)) 5 0) 4) + 1)) 4 0) 3 (((upd (upd (upd (upd (upd (upd f3 6 ((f3 6) + 1)) 6 0) 5 (((upd (upd f3 6 ((f3 6) + 1)) 6 0) 5) + 1)) 5 0) 4 (((upd (upd (upd (upd f3 6 ((f3 6) + 1)) 6 0) 5 (((upd (upd f3 6 ((f3 6) + 1)) 6 0) 5) + 1)) 5 0) 4) + 1)) 4 0) 3) + 1)) 3 0) 2 (((upd (upd (upd (upd (upd (upd (upd (upd f3 6 ((f3 6) + 1)) 6 0) 5 (((upd (upd f3 6 ((f3 6) + 1)) 6 0) 5) + 1)) 5 0) 4 (((upd (upd (upd (upd f3 6 ((f3 6) + 1)) 6 0) 5 (((upd (upd f3 6 ((f3 6) + 1)) 6 0) 5) + 1)) 5 0) 4) + 1)) 4 0) 3 (((upd (upd (upd (upd (upd (upd f3 6 ((f3 6) + 1)) 6 0) 5 (((upd (upd f3 6 ((f3 6) + 1)) 6 0) 5) + 1)) 5 0) 4 (((upd (upd (upd (upd f3 6 ((f3 6) + 1)) 6 0) 5 (((upd (upd f3 6 ((f3 6) + 1)) 6 0) 5) + 1)) 5 0) 4) + 1)) 4 0) 3) + 1)) 3 0) 2) + 1)) 2 0) 1) + 1)) 1 0)], [zAr T 0 a4_4 n4 f4], [zAr T 0 a5_5 n4 f5], [zAr T 0 a6_6 n4 f6]] _ _ := G
              refine lv_iinc (v := 0) (lv' := [(1, .int 0), (0, .ref h)]) hx hb dX0_nextRow_40 hl (k := 0) rfl (by decide) (by decide) (zLvf_h rfl) (fun ls hl => ?_)
              refine lv_goto (tgt := 3) hx hb dX0_nextRow_43 (by decide) ?_
              refine lv_iload_n hx hb dX0_nextRow_3 rfl (lv_at hl 0 rfl) ?_
              refine lv_if_lt (tgt := 46) hx hb dX0_nextRow_4 (by decide) (fun q => absurd q (by decide)) (fun _ => ?_)
              refine lv_aload_n hx hb dX0_nextRow_7 rfl (lv_at hl 1 rfl) ?_
              refine z_get C G clX0 0 rfl 6 (by decide) m_fl_RX0_25 rfl dX0_nextRow_8 ?_
              refine lv_iload_n hx hb dX0_nextRow_11 rfl (lv_at hl 0 rfl) ?_
              refine lv_dup2_11 hx hb dX0_nextRow_12 rfl rfl ?_
              refine z_ild C G 3 rfl (vp_in_nI (n := 0) (by decide) (by decide)) dX0_nextRow_13 ?_
              refine lv_topi (fun v_31 ev_31 => ?_)
              rw [show ((0 : Int32).toNatClampNeg) = 0 from rfl] at ev_31
              subst ev_31
              refine lv_iconst (v := 1) hx hb dX0_nextRow_14 (by decide) ?_
              refine lv_iadd hx hb dX0_nextRow_15 ?_
              refine z_ist C G 3 rfl (vp_in_nI (n := 0) (by decide) (by decide)) dX0_nextRow_16 (fun H locs G => ?_)
              have G : zS T A s.heap s [[zO0 h md wy la pc_ a1_1 a2_2 a3_3 a4_4 a5_5 a6_6], [zAr T 0 a1_1 7 f1], [zAr T 0 a2_2 7 f2], [zAr T 0 a3_3 7 (upd (upd (upd (upd (upd (upd (upd (upd (upd (upd (upd (upd (upd f3 6 ((f3 6) + 1)) 6 0) 5 (((upd (upd f3 6 ((f3 6) + 1)) 6 0) 5) + 1)) 5 0) 4 (((upd (upd (upd (upd f3 6 ((f3 6) + 1)) 6 0) 5 (((upd (upd f3 6 ((f3 6) + 1)) 6 0) 5) + 1)) 5 0) 4) + 1)) 4 0) 3 (((upd (upd (upd (upd (upd (upd f3 6 ((f3 6) + 1)) 6 0) 5 (((upd (upd f3 6 ((f3 6) + 1)) 6 0) 5) + 1)) 5 0) 4 (((upd (upd (upd (upd f3 6 ((f3 6) + 1)) 6 0) 5 (((upd (upd f3 6 ((f3 6) + 1)) 6 0) 5) + 1)) 5 0) 4) + 1)) 4 0) 3) + 1)) 3 0) 2 (((upd (upd (upd (upd (upd (upd (upd (upd f3 6 ((f3 6) + 1)) 6 0) 5 (((upd (upd f3 6 ((f3 6) + 1)) 6 0) 5) + 1)) 5 0) 4 (((upd (upd (upd (upd f3 6 ((f3 6) + 1)) 6 0) 5 (((upd (upd f3 6 ((f3 6) + 1)) 6 0) 5) + 1)) 5 0) 4) + 1)) 4 0) 3 (((upd (upd (upd (upd (upd (upd f3 6 ((f3 6) + 1)) 6 0) 5 (((upd (upd f3 6 ((f3 6) + 1)) 6 0) 5) + 1)) 5 0) 4 (((upd (upd (upd (upd f3 6 ((f3 6) + 1)) 6 0) 5 (((upd (upd f3 6 ((f3 6) + 1)) 6 0) 5) + 1)) 5 0) 4) + 1)) 4 0) 3) + 1)) 3 0) 2) + 1)) 2 0) 1 (((upd (upd (upd (upd (upd (upd (upd (upd (upd (upd f3 6 ((f3 6) + 1)) 6 0) 5 (((upd (upd f3 6 ((f3 6) + 1)) 6 0) 5) + 1)) 5 0) 4 (((upd (upd (upd (upd f3 6 ((f3 6) + 1)) 6 0) 5 (((upd (upd f3 6 ((f3 6) + 1)) 6 0) 5) + 1)) 5 0) 4) + 1)) 4 0) 3 (((upd (upd (upd (upd (upd (upd f3 6 ((f3 6) + 1)) 6 0) 5 (((upd (upd f3 6 ((f3 6) + 1)) 6 0) 5) + 1)) 5 0) 4 (((upd (upd (upd (upd f3 6 ((f3 6) + 1)) 6 0) 5 (((upd (upd f3 6 ((f3 6) + 1)) 6 0) 5) + 1)) 5 0) 4) + 1)) 4 0) 3) + 1)) 3 0) 2 (((upd (upd (upd (upd (upd (upd (upd (upd f3 6 ((f3 6) + 1)) 6 0) 5 (((upd (upd f3 6 ((f3 6) + 1)) 6 0) 5) + 1)) 5 0) 4 (((upd (upd (upd (upd f3 6 ((f3 6) + 1)) 6 0) 5 (((upd (upd f3 6 ((f3 6) + 1)) 6 0) 5) + 1)) 5 0) 4) + 1)) 4 0) 3 (((upd (upd (upd (upd (upd (upd f3 6 ((f3 6) + 1)) 6 0) 5 (((upd (upd f3 6 ((f3 6) + 1)) 6 0) 5) + 1)) 5 0) 4 (((upd (upd (upd (upd f3 6 ((f3 6) + 1)) 6 0) 5 (((upd (upd f3 6 ((f3 6) + 1)) 6 0) 5) + 1)) 5 0) 4) + 1)) 4 0) 3) + 1)) 3 0) 2) + 1)) 2 0) 1) + 1)) 1 0) 0 (((upd (upd (upd (upd (upd (upd (upd (upd (upd (upd (upd (upd f3 6 ((f3 6) + 1)) 6 0) 5 (((upd (upd f3 6 ((f3 6) + 1)) 6 0) 5) + 1)) 5 0) 4 (((upd (upd (upd (upd f3 6 ((f3 6) + 1)) 6 0) 5 (((upd (upd f3 6 ((f3 6) + 1)) 6 0) 5) + 1)) 5 0) 4) + 1)) 4 0) 3 (((upd (upd (upd (upd (upd (upd f3 6 ((f3 6) + 1)) 6 0) 5 (((upd (upd f3 6 ((f3 6) + 1)) 6 0) 5) + 1)) 5 0) 4 (((upd (upd (upd (upd f3 6 ((f3 6) + 1)) 6 0) 5 (((upd (upd f3 6 ((f3 6) + 1)) 6 0) 5) + 1)) 5 0) 4) + 1)) 4 0) 3) + 1)) 3 0) 2 (((upd (upd (upd (upd (upd (upd (upd (upd f3 6 ((f3 6) + 1)) 6 0) 5 (((upd (upd f3 6 ((f3 6) + 1)) 6 0) 5) + 1)) 5 0) 4 (((upd (upd (upd (upd f3 6 ((f3 6) + 1)) 6 0) 5 (((upd (upd f3 6 ((f3 6) + 1)) 6 0) 5) + 1)) 5 0) 4) + 1)) 4 0) 3 (((upd (upd (upd (upd (upd (upd f3 6 ((f3 6) + 1)) 6 0) 5 (((upd (upd f3 6 ((f3 6) + 1)) 6 0) 5) + 1)) 5 0) 4 (((upd (upd (upd (upd f3 6 ((f3 6) + 1)) 6 0) 5 (((upd (upd f3 6 ((f3 6) + 1)) 6 0) 5) + 1)) 5 0) 4) + 1)) 4 0) 3) + 1)) 3 0) 2) + 1)) 2 0) 1 (((upd (upd (upd (upd (upd (upd (upd (upd (upd (upd f3 6 ((f3 6) + 1)) 6 0) 5 (((upd (upd f3 6 ((f3 6) + 1)) 6 0) 5) + 1)) 5 0) 4 (((upd (upd (upd (upd f3 6 ((f3 6) + 1)) 6 0) 5 (((upd (upd f3 6 ((f3 6) + 1)) 6 0) 5) + 1)) 5 0) 4) + 1)) 4 0) 3 (((upd (upd (upd (upd (upd (upd f3 6 ((f3 6) + 1)) 6 0) 5 (((upd (upd f3 6 ((f3 6) + 1)) 6 0) 5) + 1)) 5 0) 4 (((upd (upd (upd (upd f3 6 ((f3 6) + 1)) 6 0) 5 (((upd (upd f3 6 ((f3 6) + 1)) 6 0) 5) + 1)) 5 0) 4) + 1)) 4 0) 3) + 1)) 3 0) 2 (((upd (upd (upd (upd (upd (upd (upd (upd f3 6 ((f3 6) + 1)) 6 0) 5 (((upd (upd f3 6 ((f3 6) + 1)) 6 0) 5) + 1)) 5 0) 4 (((upd (upd (upd (upd f3 6 ((f3 6) + 1)) 6 0) 5 (((upd (upd f3 6 ((f3 6) + 1)) 6 0) 5) + 1)) 5 0) 4) + 1)) 4 0) 3 (((upd (upd (upd (upd (upd (upd f3 6 ((f3 6) + 1)) 6 0) 5 (((upd (upd f3 6 ((f3 6) + 1)) 6 0) 5) + 1)) 5 0) 4 (((upd (upd (upd (upd f3 6 ((f3 6) + 1)) 6 0) 5 (((upd (upd f3 6 ((f3 6) + 1)) 6 0) 5) + 1)) 5 0) 4) + 1)) 4 0) 3) + 1)) 3 0) 2) + 1)) 2 0) 1) + 1)) 1 0) 0) + 1))], [zAr T 0 a4_4 n4 f4], [zAr T 0 a5_5 n4 f5], [zAr T 0 a6_6 n4 f6]] _ _ := G
              refine lv_aload_n hx hb dX0_nextRow_17 rfl (lv_at hl 1 rfl) ?_
              refine z_get C G clX0 0 rfl 6 (by decide) m_fl_RX0_25 rfl dX0_nextRow_18 ?_
              refine lv_iload_n hx hb dX0_nextRow_21 rfl (lv_at hl 0 rfl) ?_
              refine z_ild C G 3 rfl (vp_in_nI (n := 0) (by decide) (by decide)) dX0_nextRow_22 ?_
              refine lv_topi (fun v_32 ev_32 => ?_)
              have ev_32 : v_32 = ((upd (upd (upd (upd (upd (upd (upd (upd (upd (upd (upd (upd f3 6 ((f3 6) + 1)) 6 0) 5 (((upd (upd f3 6 ((f3 6) + 1)) 6 0) 5) + 1)) 5 0) 4 (((upd (upd (upd (upd f3 6 ((f3 6) + 1)) 6 0) 5 (((upd (upd f3 6 ((f3 6) + 1)) 6 0) 5) + 1)) 5 0) 4) + 1)) 4 0) 3 (((upd (upd (upd (upd (upd (upd f3 6 ((f3 6) + 1)) 6 0) 5 (((upd (upd f3 6 ((f3 6) + 1)) 6 0) 5) + 1)) 5 0) 4 (((upd (upd (upd (upd f3 6 ((f3 6) + 1)) 6 0) 5 (((upd (upd f3 6 ((f3 6) + 1)) 6 0) 5) + 1)) 5 0) 4) + 1)) 4 0) 3) + 1)) 3 0) 2 (((upd (upd (upd (upd (upd (upd (upd (upd f3 6 ((f3 6) + 1)) 6 0) 5 (((upd (upd f3 6 ((f3 6) + 1)) 6 0) 5) + 1)) 5 0) 4 (((upd (upd (upd (upd f3 6 ((f3 6) + 1)) 6 0) 5 (((upd (upd f3 6 ((f3 6) + 1)) 6 0) 5) + 1)) 5 0) 4) + 1)) 4 0) 3 (((upd (upd (upd (upd (upd (upd f3 6 ((f3 6) + 1)) 6 0) 5 (((upd (upd f3 6 ((f3 6) + 1)) 6 0) 5) + 1)) 5 0) 4 (((upd (upd (upd (upd f3 6 ((f3 6) + 1)) 6 0) 5 (((upd (upd f3 6 ((f3 6) + 1)) 6 0) 5) + 1)) 5 0) 4) + 1)) 4 0) 3) + 1)) 3 0) 2) + 1)) 2 0) 1 (((upd (upd (upd (upd (upd (upd (upd (upd (upd (upd f3 6 ((f3 6) + 1)) 6 0) 5 (((upd (upd f3 6 ((f3 6) + 1)) 6 0) 5) + 1)) 5 0) 4 (((upd (upd (upd (upd f3 6 ((f3 6) + 1)) 6 0) 5 (((upd (upd f3 6 ((f3 6) + 1)) 6 0) 5) + 1)) 5 0) 4) + 1)) 4 0) 3 (((upd (upd (upd (upd (upd (upd f3 6 ((f3 6) + 1)) 6 0) 5 (((upd (upd f3 6 ((f3 6) + 1)) 6 0) 5) + 1)) 5 0) 4 (((upd (upd (upd (upd f3 6 ((f3 6) + 1)) 6 0) 5 (((upd (upd f3 6 ((f3 6) + 1)) 6 0) 5) + 1)) 5 0) 4) + 1)) 4 0) 3) + 1)) 3 0) 2 (((upd (upd (upd (upd (upd (upd (upd (upd f3 6 ((f3 6) + 1)) 6 0) 5 (((upd (upd f3 6 ((f3 6) + 1)) 6 0) 5) + 1)) 5 0) 4 (((upd (upd (upd (upd f3 6 ((f3 6) + 1)) 6 0) 5 (((upd (upd f3 6 ((f3 6) + 1)) 6 0) 5) + 1)) 5 0) 4) + 1)) 4 0) 3 (((upd (upd (upd (upd (upd (upd f3 6 ((f3 6) + 1)) 6 0) 5 (((upd (upd f3 6 ((f3 6) + 1)) 6 0) 5) + 1)) 5 0) 4 (((upd (upd (upd (upd f3 6 ((f3 6) + 1)) 6 0) 5 (((upd (upd f3 6 ((f3 6) + 1)) 6 0) 5) + 1)) 5 0) 4) + 1)) 4 0) 3) + 1)) 3 0) 2) + 1)) 2 0) 1) + 1)) 1 0) 0) + 1 := ev_32
              subst ev_32
              refine lv_aload_n hx hb dX0_nextRow_23 rfl (lv_at hl 1 rfl) ?_
              refine z_get C G clX0 0 rfl 4 (by decide) m_fl_RX0_18 rfl dX0_nextRow_24 ?_
              refine lv_iload_n hx hb dX0_nextRow_27 rfl (lv_at hl 0 rfl) ?_
              refine z_ild C G 1 rfl (vp_in_nI (n := 0) (by decide) (by decide)) dX0_nextRow_28 ?_
              refine lv_topi (fun v_33 ev_33 => ?_)
              rw [show ((0 : Int32).toNatClampNeg) = 0 from rfl] at ev_33
              subst ev_33
              refine lv_icmp_ge (tgt := 33) hx hb dX0_nextRow_29 (by decide) (fun c_34 => ?_) (fun c_34 => ?_)
              · have c_34n : (f1 0).toInt ≤ (((upd (upd (upd (upd (upd (upd (upd (upd (upd (upd (upd (upd f3 6 ((f3 6) + 1)) 6 0) 5 (((upd (upd f3 6 ((f3 6) + 1)) 6 0) 5) + 1)) 5 0) 4 (((upd (upd (upd (upd f3 6 ((f3 6) + 1)) 6 0) 5 (((upd (upd f3 6 ((f3 6) + 1)) 6 0) 5) + 1)) 5 0) 4) + 1)) 4 0) 3 (((upd (upd (upd (upd (upd (upd f3 6 ((f3 6) + 1)) 6 0) 5 (((upd (upd f3 6 ((f3 6) + 1)) 6 0) 5) + 1)) 5 0) 4 (((upd (upd (upd (upd f3 6 ((f3 6) + 1)) 6 0) 5 (((upd (upd f3 6 ((f3 6) + 1)) 6 0) 5) + 1)) 5 0) 4) + 1)) 4 0) 3) + 1)) 3 0) 2 (((upd (upd (upd (upd (upd (upd (upd (upd f3 6 ((f3 6) + 1)) 6 0) 5 (((upd (upd f3 6 ((f3 6) + 1)) 6 0) 5) + 1)) 5 0) 4 (((upd (upd (upd (upd f3 6 ((f3 6) + 1)) 6 0) 5 (((upd (upd f3 6 ((f3 6) + 1)) 6 0) 5) + 1)) 5 0) 4) + 1)) 4 0) 3 (((upd (upd (upd (upd (upd (upd f3 6 ((f3 6) + 1)) 6 0) 5 (((upd (upd f3 6 ((f3 6) + 1)) 6 0) 5) + 1)) 5 0) 4 (((upd (upd (upd (upd f3 6 ((f3 6) + 1)) 6 0) 5 (((upd (upd f3 6 ((f3 6) + 1)) 6 0) 5) + 1)) 5 0) 4) + 1)) 4 0) 3) + 1)) 3 0) 2) + 1)) 2 0) 1 (((upd (upd (upd (upd (upd (upd (upd (upd (upd (upd f3 6 ((f3 6) + 1)) 6 0) 5 (((upd (upd f3 6 ((f3 6) + 1)) 6 0) 5) + 1)) 5 0) 4 (((upd (upd (upd (upd f3 6 ((f3 6) + 1)) 6 0) 5 (((upd (upd f3 6 ((f3 6) + 1)) 6 0) 5) + 1)) 5 0) 4) + 1)) 4 0) 3 (((upd (upd (upd (upd (upd (upd f3 6 ((f3 6) + 1)) 6 0) 5 (((upd (upd f3 6 ((f3 6) + 1)) 6 0) 5) + 1)) 5 0) 4 (((upd (upd (upd (upd f3 6 ((f3 6) + 1)) 6 0) 5 (((upd (upd f3 6 ((f3 6) + 1)) 6 0) 5) + 1)) 5 0) 4) + 1)) 4 0) 3) + 1)) 3 0) 2 (((upd (upd (upd (upd (upd (upd (upd (upd f3 6 ((f3 6) + 1)) 6 0) 5 (((upd (upd f3 6 ((f3 6) + 1)) 6 0) 5) + 1)) 5 0) 4 (((upd (upd (upd (upd f3 6 ((f3 6) + 1)) 6 0) 5 (((upd (upd f3 6 ((f3 6) + 1)) 6 0) 5) + 1)) 5 0) 4) + 1)) 4 0) 3 (((upd (upd (upd (upd (upd (upd f3 6 ((f3 6) + 1)) 6 0) 5 (((upd (upd f3 6 ((f3 6) + 1)) 6 0) 5) + 1)) 5 0) 4 (((upd (upd (upd (upd f3 6 ((f3 6) + 1)) 6 0) 5 (((upd (upd f3 6 ((f3 6) + 1)) 6 0) 5) + 1)) 5 0) 4) + 1)) 4 0) 3) + 1)) 3 0) 2) + 1)) 2 0) 1) + 1)) 1 0) 0) + 1).toInt := (fa_le _ _).mp c_34
                refine lv_aload_n hx hb dX0_nextRow_33 rfl (lv_at hl 1 rfl) ?_
                refine z_get C G clX0 0 rfl 6 (by decide) m_fl_RX0_25 rfl dX0_nextRow_34 ?_
                refine lv_iload_n hx hb dX0_nextRow_37 rfl (lv_at hl 0 rfl) ?_
                refine lv_iconst (v := 0) hx hb dX0_nextRow_38 (by decide) ?_
                refine z_ist C G 3 rfl (vp_in_nI (n := 0) (by decide) (by decide)) dX0_nextRow_39 (fun H locs G => ?_)
                have G : zS T A s.heap s [[zO0 h md wy la pc_ a1_1 a2_2 a3_3 a4_4 a5_5 a6_6], [zAr T 0 a1_1 7 f1], [zAr T 0 a2_2 7 f2], [zAr T 0 a3_3 7 (upd (upd (upd (upd (upd (upd (upd (upd (upd (upd (upd (upd (upd (upd f3 6 ((f3 6) + 1)) 6 0) 5 (((upd (upd f3 6 ((f3 6) + 1)) 6 0) 5) + 1)) 5 0) 4 (((upd (upd (upd (upd f3 6 ((f3 6) + 1)) 6 0) 5 (((upd (upd f3 6 ((f3 6) + 1)) 6 0) 5) + 1)) 5 0) 4) + 1)) 4 0) 3 (((upd (upd (upd (upd (upd (upd f3 6 ((f3 6) + 1)) 6 0) 5 (((upd (upd f3 6 ((f3 6) + 1)) 6 0) 5) + 1)) 5 0) 4 (((upd (upd (upd (upd f3 6 ((f3 6) + 1)) 6 0) 5 (((upd (upd f3 6 ((f3 6) + 1)) 6 0) 5) + 1)) 5 0) 4) + 1)) 4 0) 3) + 1)) 3 0) 2 (((upd (upd (upd (upd (upd (upd (upd (upd f3 6 ((f3 6) + 1)) 6 0) 5 (((upd (upd f3 6 ((f3 6) + 1)) 6 0) 5) + 1)) 5 0) 4 (((upd (upd (upd (upd f3 6 ((f3 6) + 1)) 6 0) 5 (((upd (upd f3 6 ((f3 6) + 1)) 6 0) 5) + 1)) 5 0) 4) + 1)) 4 0) 3 (((upd (upd (upd (upd (upd (upd f3 6 ((f3 6) + 1)) 6 0) 5 (((upd (upd f3 6 ((f3 6) + 1)) 6 0) 5) + 1)) 5 0) 4 (((upd (upd (upd (upd f3 6 ((f3 6) + 1)) 6 0) 5 (((upd (upd f3 6 ((f3 6) + 1)) 6 0) 5) + 1)) 5 0) 4) + 1)) 4 0) 3) + 1)) 3 0) 2) + 1)) 2 0) 1 (((upd (upd (upd (upd (upd (upd (upd (upd (upd (upd f3 6 ((f3 6) + 1)) 6 0) 5 (((upd (upd f3 6 ((f3 6) + 1)) 6 0) 5) + 1)) 5 0) 4 (((upd (upd (upd (upd f3 6 ((f3 6) + 1)) 6 0) 5 (((upd (upd f3 6 ((f3 6) + 1)) 6 0) 5) + 1)) 5 0) 4) + 1)) 4 0) 3 (((upd (upd (upd (upd (upd (upd f3 6 ((f3 6) + 1)) 6 0) 5 (((upd (upd f3 6 ((f3 6) + 1)) 6 0) 5) + 1)) 5 0) 4 (((upd (upd (upd (upd f3 6 ((f3 6) + 1)) 6 0) 5 (((upd (upd f3 6 ((f3 6) + 1)) 6 0) 5) + 1)) 5 0) 4) + 1)) 4 0) 3) + 1)) 3 0) 2 (((upd (upd (upd (upd (upd (upd (upd (upd f3 6 ((f3 6) + 1)) 6 0) 5 (((upd (upd f3 6 ((f3 6) + 1)) 6 0) 5) + 1)) 5 0) 4 (((upd (upd (upd (upd f3 6 ((f3 6) + 1)) 6 0) 5 (((upd (upd f3 6 ((f3 6) + 1)) 6 0) 5) + 1)) 5 0) 4) + 1)) 4 0) 3 (((upd (upd (upd (upd (upd (upd f3 6 ((f3 6) + 1)) 6 0) 5 (((upd (upd f3 6 ((f3 6) + 1)) 6 0) 5) + 1)) 5 0) 4 (((upd (upd (upd (upd f3 6 ((f3 6) + 1)) 6 0) 5 (((upd (upd f3 6 ((f3 6) + 1)) 6 0) 5) + 1)) 5 0) 4) + 1)) 4 0) 3) + 1)) 3 0) 2) + 1)) 2 0) 1) + 1)) 1 0) 0 (((upd (upd (upd (upd (upd (upd (upd (upd (upd (upd (upd (upd f3 6 ((f3 6) + 1)) 6 0) 5 (((upd (upd f3 6 ((f3 6) + 1)) 6 0) 5) + 1)) 5 0) 4 (((upd (upd (upd (upd f3 6 ((f3 6) + 1)) 6 0) 5 (((upd (upd f3 6 ((f3 6) + 1)) 6 0) 5) + 1)) 5 0) 4) + 1)) 4 0) 3 (((upd (upd (upd (upd (upd (upd f3 6 ((f3 6) + 1)) 6 0) 5 (((upd (upd f3 6 ((f3 6) + 1)) 6 0) 5) + 1)) 5 0) 4 (((upd (upd (upd (upd f3 6 ((f3 6) + 1)) 6 0) 5 (((upd (upd f3 6 ((f3 6) + 1)) 6 0) 5) + 1)) 5 0) 4) + 1)) 4 0) 3) + 1)) 3 0) 2 (((upd (upd (upd (upd (upd (upd (upd (upd f3 6 ((f3 6) + 1)) 6 0) 5 (((upd (upd f3 6 ((f3 6) + 1)) 6 0) 5) + 1)) 5 0) 4 (((upd (upd (upd (upd f3 6 ((f3 6) + 1)) 6 0) 5 (((upd (upd f3 6 ((f3 6) + 1)) 6 0) 5) + 1)) 5 0) 4) + 1)) 4 0) 3 (((upd (upd (upd (upd (upd (upd f3 6 ((f3 6) + 1)) 6 0) 5 (((upd (upd f3 6 ((f3 6) + 1)) 6 0) 5) + 1)) 5 0) 4 (((upd (upd (upd (upd f3 6 ((f3 6) + 1)) 6 0) 5 (((upd (upd f3 6 ((f3 6) + 1)) 6 0) 5) + 1)) 5 0) 4) + 1)) 4 0) 3) + 1)) 3 0) 2) + 1)) 2 0) 1 (((upd (upd (upd (upd (upd (upd (upd (upd (upd (upd f3 6 ((f3 6) + 1)) 6 0) 5 (((upd (upd f3 6 ((f3 6) + 1)) 6 0) 5) + 1)) 5 0) 4 (((upd (upd (upd (upd f3 6 ((f3 6) + 1)) 6 0) 5 (((upd (upd f3 6 ((f3 6) + 1)) 6 0) 5) + 1)) 5 0) 4) + 1)) 4 0) 3 (((upd (upd (upd (upd (upd (upd f3 6 ((f3 6) + 1)) 6 0) 5 (((upd (upd f3 6 ((f3 6) + 1)) 6 0) 5) + 1)) 5 0) 4 (((upd (upd (upd (upd f3 6 ((f3 6) + 1)) 6 0) 5 (((upd (upd f3 6 ((f3 6) + 1)) 6 0) 5) + 1)) 5 0) 4) + 1)) 4 0) 3) + 1)) 3 0) 2 (((upd (upd (upd (upd (upd (upd (upd (upd f3 6 ((f3 6) + 1)) 6 0) 5 (((upd (upd f3 6 ((f3 6) + 1)) 6 0) 5) + 1)) 5 0) 4 (((upd (upd (upd (upd f3 6 ((f3 6) + 1)) 6 0) 5 (((upd (upd f3 6 ((f3 6) + 1)) 6 0) 5) + 1)) 5 0) 4) + 1)) 4 0) 3 (((upd (upd (upd (upd (upd (upd f3 6 ((f3 6) + 1)) 6 0) 5 (((upd (upd f3 6 ((f3 6) + 1)) 6 0) 5) + 1)) 5 0) 4 (((upd (upd (upd (upd f3 6 ((f3 6) + 1)) 6 0) 5 (((upd (upd f3 6 ((f3 6) + 1)) 6 0) 5) + 1)) 5 0) 4) + 1)) 4 0) 3) + 1)) 3 0) 2) + 1)) 2 0) 1) + 1)) 1 0) 0) + 1)) 0 0)], [zAr T 0 a4_4 n4 f4], [zAr T 0 a5_5 n4 f5], [zAr T 0 a6_6 n4 f6]] _ _ := G
                refine lv_iinc (v := (-1)) (lv' := [(1, .int (-1)), (0, .ref h)]) hx hb dX0_nextRow_40 hl (k := 0) rfl (by decide) (by decide) (zLvf_h rfl) (fun ls hl => ?_)
                refine lv_goto (tgt := 3) hx hb dX0_nextRow_43 (by decide) ?_
                refine lv_iload_n hx hb dX0_nextRow_3 rfl (lv_at hl 0 rfl) ?_
                refine lv_if_lt (tgt := 46) hx hb dX0_nextRow_4 (by decide) (fun _ => ?_) (fun q => absurd (by decide) q)
                have hw_35 : bWays T h la md wy pc_ f1 f2 (upd (upd (upd (upd (upd (upd (upd (upd (upd (upd (upd (upd (upd (upd f3 6 ((f3 6) + 1)) 6 0) 5 (((upd (upd f3 6 ((f3 6) + 1)) 6 0) 5) + 1)) 5 0) 4 (((upd (upd (upd (upd f3 6 ((f3 6) + 1)) 6 0) 5 (((upd (upd f3 6 ((f3 6) + 1)) 6 0) 5) + 1)) 5 0) 4) + 1)) 4 0) 3 (((upd (upd (upd (upd (upd (upd f3 6 ((f3 6) + 1)) 6 0) 5 (((upd (upd f3 6 ((f3 6) + 1)) 6 0) 5) + 1)) 5 0) 4 (((upd (upd (upd (upd f3 6 ((f3 6) + 1)) 6 0) 5 (((upd (upd f3 6 ((f3 6) + 1)) 6 0) 5) + 1)) 5 0) 4) + 1)) 4 0) 3) + 1)) 3 0) 2 (((upd (upd (upd (upd (upd (upd (upd (upd f3 6 ((f3 6) + 1)) 6 0) 5 (((upd (upd f3 6 ((f3 6) + 1)) 6 0) 5) + 1)) 5 0) 4 (((upd (upd (upd (upd f3 6 ((f3 6) + 1)) 6 0) 5 (((upd (upd f3 6 ((f3 6) + 1)) 6 0) 5) + 1)) 5 0) 4) + 1)) 4 0) 3 (((upd (upd (upd (upd (upd (upd f3 6 ((f3 6) + 1)) 6 0) 5 (((upd (upd f3 6 ((f3 6) + 1)) 6 0) 5) + 1)) 5 0) 4 (((upd (upd (upd (upd f3 6 ((f3 6) + 1)) 6 0) 5 (((upd (upd f3 6 ((f3 6) + 1)) 6 0) 5) + 1)) 5 0) 4) + 1)) 4 0) 3) + 1)) 3 0) 2) + 1)) 2 0) 1 (((upd (upd (upd (upd (upd (upd (upd (upd (upd (upd f3 6 ((f3 6) + 1)) 6 0) 5 (((upd (upd f3 6 ((f3 6) + 1)) 6 0) 5) + 1)) 5 0) 4 (((upd (upd (upd (upd f3 6 ((f3 6) + 1)) 6 0) 5 (((upd (upd f3 6 ((f3 6) + 1)) 6 0) 5) + 1)) 5 0) 4) + 1)) 4 0) 3 (((upd (upd (upd (upd (upd (upd f3 6 ((f3 6) + 1)) 6 0) 5 (((upd (upd f3 6 ((f3 6) + 1)) 6 0) 5) + 1)) 5 0) 4 (((upd (upd (upd (upd f3 6 ((f3 6) + 1)) 6 0) 5 (((upd (upd f3 6 ((f3 6) + 1)) 6 0) 5) + 1)) 5 0) 4) + 1)) 4 0) 3) + 1)) 3 0) 2 (((upd (upd (upd (upd (upd (upd (upd (upd f3 6 ((f3 6) + 1)) 6 0) 5 (((upd (upd f3 6 ((f3 6) + 1)) 6 0) 5) + 1)) 5 0) 4 (((upd (upd (upd (upd f3 6 ((f3 6) + 1)) 6 0) 5 (((upd (upd f3 6 ((f3 6) + 1)) 6 0) 5) + 1)) 5 0) 4) + 1)) 4 0) 3 (((upd (upd (upd (upd (upd (upd f3 6 ((f3 6) + 1)) 6 0) 5 (((upd (upd f3 6 ((f3 6) + 1)) 6 0) 5) + 1)) 5 0) 4 (((upd (upd (upd (upd f3 6 ((f3 6) + 1)) 6 0) 5 (((upd (upd f3 6 ((f3 6) + 1)) 6 0) 5) + 1)) 5 0) 4) + 1)) 4 0) 3) + 1)) 3 0) 2) + 1)) 2 0) 1) + 1)) 1 0) 0 (((upd (upd (upd (upd (upd (upd (upd (upd (upd (upd (upd (upd f3 6 ((f3 6) + 1)) 6 0) 5 (((upd (upd f3 6 ((f3 6) + 1)) 6 0) 5) + 1)) 5 0) 4 (((upd (upd (upd (upd f3 6 ((f3 6) + 1)) 6 0) 5 (((upd (upd f3 6 ((f3 6) + 1)) 6 0) 5) + 1)) 5 0) 4) + 1)) 4 0) 3 (((upd (upd (upd (upd (upd (upd f3 6 ((f3 6) + 1)) 6 0) 5 (((upd (upd f3 6 ((f3 6) + 1)) 6 0) 5) + 1)) 5 0) 4 (((upd (upd (upd (upd f3 6 ((f3 6) + 1)) 6 0) 5 (((upd (upd f3 6 ((f3 6) + 1)) 6 0) 5) + 1)) 5 0) 4) + 1)) 4 0) 3) + 1)) 3 0) 2 (((upd (upd (upd (upd (upd (upd (upd (upd f3 6 ((f3 6) + 1)) 6 0) 5 (((upd (upd f3 6 ((f3 6) + 1)) 6 0) 5) + 1)) 5 0) 4 (((upd (upd (upd (upd f3 6 ((f3 6) + 1)) 6 0) 5 (((upd (upd f3 6 ((f3 6) + 1)) 6 0) 5) + 1)) 5 0) 4) + 1)) 4 0) 3 (((upd (upd (upd (upd (upd (upd f3 6 ((f3 6) + 1)) 6 0) 5 (((upd (upd f3 6 ((f3 6) + 1)) 6 0) 5) + 1)) 5 0) 4 (((upd (upd (upd (upd f3 6 ((f3 6) + 1)) 6 0) 5 (((upd (upd f3 6 ((f3 6) + 1)) 6 0) 5) + 1)) 5 0) 4) + 1)) 4 0) 3) + 1)) 3 0) 2) + 1)) 2 0) 1 (((upd (upd (upd (upd (upd (upd (upd (upd (upd (upd f3 6 ((f3 6) + 1)) 6 0) 5 (((upd (upd f3 6 ((f3 6) + 1)) 6 0) 5) + 1)) 5 0) 4 (((upd (upd (upd (upd f3 6 ((f3 6) + 1)) 6 0) 5 (((upd (upd f3 6 ((f3 6) + 1)) 6 0) 5) + 1)) 5 0) 4) + 1)) 4 0) 3 (((upd (upd (upd (upd (upd (upd f3 6 ((f3 6) + 1)) 6 0) 5 (((upd (upd f3 6 ((f3 6) + 1)) 6 0) 5) + 1)) 5 0) 4 (((upd (upd (upd (upd f3 6 ((f3 6) + 1)) 6 0) 5 (((upd (upd f3 6 ((f3 6) + 1)) 6 0) 5) + 1)) 5 0) 4) + 1)) 4 0) 3) + 1)) 3 0) 2 (((upd (upd (upd (upd (upd (upd (upd (upd f3 6 ((f3 6) + 1)) 6 0) 5 (((upd (upd f3 6 ((f3 6) + 1)) 6 0) 5) + 1)) 5 0) 4 (((upd (upd (upd (upd f3 6 ((f3 6) + 1)) 6 0) 5 (((upd (upd f3 6 ((f3 6) + 1)) 6 0) 5) + 1)) 5 0) 4) + 1)) 4 0) 3 (((upd (upd (upd (upd (upd (upd f3 6 ((f3 6) + 1)) 6 0) 5 (((upd (upd f3 6 ((f3 6) + 1)) 6 0) 5) + 1)) 5 0) 4 (((upd (upd (upd (upd f3 6 ((f3 6) + 1)) 6 0) 5 (((upd (upd f3 6 ((f3 6) + 1)) 6 0) 5) + 1)) 5 0) 4) + 1)) 4 0) 3) + 1)) 3 0) 2) + 1)) 2 0) 1) + 1)) 1 0) 0) + 1)) 0 0) f4 f5 f6 n4 [zO0 h md wy la pc_ a1_1 a2_2 a3_3 a4_4 a5_5 a6_6, zAr T 0 a1_1 7 f1, zAr T 0 a2_2 7 f2, zAr T 0 a3_3 7 (upd (upd (upd (upd (upd (upd (upd (upd (upd (upd (upd (upd (upd (upd f3 6 ((f3 6) + 1)) 6 0) 5 (((upd (upd f3 6 ((f3 6) + 1)) 6 0) 5) + 1)) 5 0) 4 (((upd (upd (upd (upd f3 6 ((f3 6) + 1)) 6 0) 5 (((upd (upd f3 6 ((f3 6) + 1)) 6 0) 5) + 1)) 5 0) 4) + 1)) 4 0) 3 (((upd (upd (upd (upd (upd (upd f3 6 ((f3 6) + 1)) 6 0) 5 (((upd (upd f3 6 ((f3 6) + 1)) 6 0) 5) + 1)) 5 0) 4 (((upd (upd (upd (upd f3 6 ((f3 6) + 1)) 6 0) 5 (((upd (upd f3 6 ((f3 6) + 1)) 6 0) 5) + 1)) 5 0) 4) + 1)) 4 0) 3) + 1)) 3 0) 2 (((upd (upd (upd (upd (upd (upd (upd (upd f3 6 ((f3 6) + 1)) 6 0) 5 (((upd (upd f3 6 ((f3 6) + 1)) 6 0) 5) + 1)) 5 0) 4 (((upd (upd (upd (upd f3 6 ((f3 6) + 1)) 6 0) 5 (((upd (upd f3 6 ((f3 6) + 1)) 6 0) 5) + 1)) 5 0) 4) + 1)) 4 0) 3 (((upd (upd (upd (upd (upd (upd f3 6 ((f3 6) + 1)) 6 0) 5 (((upd (upd f3 6 ((f3 6) + 1)) 6 0) 5) + 1)) 5 0) 4 (((upd (upd (upd (upd f3 6 ((f3 6) + 1)) 6 0) 5 (((upd (upd f3 6 ((f3 6) + 1)) 6 0) 5) + 1)) 5 0) 4) + 1)) 4 0) 3) + 1)) 3 0) 2) + 1)) 2 0) 1 (((upd (upd (upd (upd (upd (upd (upd (upd (upd (upd f3 6 ((f3 6) + 1)) 6 0) 5 (((upd (upd f3 6 ((f3 6) + 1)) 6 0) 5) + 1)) 5 0) 4 (((upd (upd (upd (upd f3 6 ((f3 6) + 1)) 6 0) 5 (((upd (upd f3 6 ((f3 6) + 1)) 6 0) 5) + 1)) 5 0) 4) + 1)) 4 0) 3 (((upd (upd (upd (upd (upd (upd f3 6 ((f3 6) + 1)) 6 0) 5 (((upd (upd f3 6 ((f3 6) + 1)) 6 0) 5) + 1)) 5 0) 4 (((upd (upd (upd (upd f3 6 ((f3 6) + 1)) 6 0) 5 (((upd (upd f3 6 ((f3 6) + 1)) 6 0) 5) + 1)) 5 0) 4) + 1)) 4 0) 3) + 1)) 3 0) 2 (((upd (upd (upd (upd (upd (upd (upd (upd f3 6 ((f3 6) + 1)) 6 0) 5 (((upd (upd f3 6 ((f3 6) + 1)) 6 0) 5) + 1)) 5 0) 4 (((upd (upd (upd (upd f3 6 ((f3 6) + 1)) 6 0) 5 (((upd (upd f3 6 ((f3 6) + 1)) 6 0) 5) + 1)) 5 0) 4) + 1)) 4 0) 3 (((upd (upd (upd (upd (upd (upd f3 6 ((f3 6) + 1)) 6 0) 5 (((upd (upd f3 6 ((f3 6) + 1)) 6 0) 5) + 1)) 5 0) 4 (((upd (upd (upd (upd f3 6 ((f3 6) + 1)) 6 0) 5 (((upd (upd f3 6 ((f3 6) + 1)) 6 0) 5) + 1)) 5 0) 4) + 1)) 4 0) 3) + 1)) 3 0) 2) + 1)) 2 0) 1) + 1)) 1 0) 0 (((upd (upd (upd (upd (upd (upd (upd (upd (upd (upd (upd (upd f3 6 ((f3 6) + 1)) 6 0) 5 (((upd (upd f3 6 ((f3 6) + 1)) 6 0) 5) + 1)) 5 0) 4 (((upd (upd (upd (upd f3 6 ((f3 6) + 1)) 6 0) 5 (((upd (upd f3 6 ((f3 6) + 1)) 6 0) 5) + 1)) 5 0) 4) + 1)) 4 0) 3 (((upd (upd (upd (upd (upd (upd f3 6 ((f3 6) + 1)) 6 0) 5 (((upd (upd f3 6 ((f3 6) + 1)) 6 0) 5) + 1)) 5 0) 4 (((upd (upd (upd (upd f3 6 ((f3 6) + 1)) 6 0) 5 (((upd (upd f3 6 ((f3 6) + 1)) 6 0) 5) + 1)) 5 0) 4) + 1)) 4 0) 3) + 1)) 3 0) 2 (((upd (upd (upd (upd (upd (upd (upd (upd f3 6 ((f3 6) + 1)) 6 0) 5 (((upd (upd f3 6 ((f3 6) + 1)) 6 0) 5) + 1)) 5 0) 4 (((upd (upd (upd (upd f3 6 ((f3 6) + 1)) 6 0) 5 (((upd (upd f3 6 ((f3 6) + 1)) 6 0) 5) + 1)) 5 0) 4) + 1)) 4 0) 3 (((upd (upd (upd (upd (upd (upd f3 6 ((f3 6) + 1)) 6 0) 5 (((upd (upd f3 6 ((f3 6) + 1)) 6 0) 5) + 1)) 5 0) 4 (((upd (upd (upd (upd f3 6 ((f3 6) + 1)) 6 0) 5 (((upd (upd f3 6 ((f3 6) + 1)) 6 0) 5) + 1)) 5 0) 4) + 1)) 4 0) 3) + 1)) 3 0) 2) + 1)) 2 0) 1 (((upd (upd (upd (upd (upd (upd (upd (upd (upd (upd f3 6 ((f3 6) + 1)) 6 0) 5 (((upd (upd f3 6 ((f3 6) + 1)) 6 0) 5) + 1)) 5 0) 4 (((upd (upd (upd (upd f3 6 ((f3 6) + 1)) 6 0) 5 (((upd (upd f3 6 ((f3 6) + 1)) 6 0) 5) + 1)) 5 0) 4) + 1)) 4 0) 3 (((upd (upd (upd (upd (upd (upd f3 6 ((f3 6) + 1)) 6 0) 5 (((upd (upd f3 6 ((f3 6) + 1)) 6 0) 5) + 1)) 5 0) 4 (((upd (upd (upd (upd f3 6 ((f3 6) + 1)) 6 0) 5 (((upd (upd f3 6 ((f3 6) + 1)) 6 0) 5) + 1)) 5 0) 4) + 1)) 4 0) 3) + 1)) 3 0) 2 (((upd (upd (upd (upd (upd (upd (upd (upd f3 6 ((f3 6) + 1)) 6 0) 5 (((upd (upd f3 6 ((f3 6) + 1)) 6 0) 5) + 1)) 5 0) 4 (((upd (upd (upd (upd f3 6 ((f3 6) + 1)) 6 0) 5 (((upd (upd f3 6 ((f3 6) + 1)) 6 0) 5) + 1)) 5 0) 4) + 1)) 4 0) 3 (((upd (upd (upd (upd (upd (upd f3 6 ((f3 6) + 1)) 6 0) 5 (((upd (upd f3 6 ((f3 6) + 1)) 6 0) 5) + 1)) 5 0) 4 (((upd (upd (upd (upd f3 6 ((f3 6) + 1)) 6 0) 5 (((upd (upd f3 6 ((f3 6) + 1)) 6 0) 5) + 1)) 5 0) 4) + 1)) 4 0) 3) + 1)) 3 0) 2) + 1)) 2 0) 1) + 1)) 1 0) 0) + 1)) 0 0), zAr T 0 a4_4 n4 f4, zAr T 0 a5_5 n4 f5, zAr T 0 a6_6 n4 f6] := ⟨a1_1, a2_2, a3_3, a4_4, a5_5, a6_6, rfl⟩
                have G : zS T A s.heap s [[zO0 h md wy la pc_ a1_1 a2_2 a3_3 a4_4 a5_5 a6_6, zAr T 0 a1_1 7 f1, zAr T 0 a2_2 7 f2, zAr T 0 a3_3 7 (upd (upd (upd (upd (upd (upd (upd (upd (upd (upd (upd (upd (upd (upd f3 6 ((f3 6) + 1)) 6 0) 5 (((upd (upd f3 6 ((f3 6) + 1)) 6 0) 5) + 1)) 5 0) 4 (((upd (upd (upd (upd f3 6 ((f3 6) + 1)) 6 0) 5 (((upd (upd f3 6 ((f3 6) + 1)) 6 0) 5) + 1)) 5 0) 4) + 1)) 4 0) 3 (((upd (upd (upd (upd (upd (upd f3 6 ((f3 6) + 1)) 6 0) 5 (((upd (upd f3 6 ((f3 6) + 1)) 6 0) 5) + 1)) 5 0) 4 (((upd (upd (upd (upd f3 6 ((f3 6) + 1)) 6 0) 5 (((upd (upd f3 6 ((f3 6) + 1)) 6 0) 5) + 1)) 5 0) 4) + 1)) 4 0) 3) + 1)) 3 0) 2 (((upd (upd (upd (upd (upd (upd (upd (upd f3 6 ((f3 6) + 1)) 6 0) 5 (((upd (upd f3 6 ((f3 6) + 1)) 6 0) 5) + 1)) 5 0) 4 (((upd (upd (upd (upd f3 6 ((f3 6) + 1)) 6 0) 5 (((upd (upd f3 6 ((f3 6) + 1)) 6 0) 5) + 1)) 5 0) 4) + 1)) 4 0) 3 (((upd (upd (upd (upd (upd (upd f3 6 ((f3 6) + 1)) 6 0) 5 (((upd (upd f3 6 ((f3 6) + 1)) 6 0) 5) + 1)) 5 0) 4 (((upd (upd (upd (upd f3 6 ((f3 6) + 1)) 6 0) 5 (((upd (upd f3 6 ((f3 6) + 1)) 6 0) 5) + 1)) 5 0) 4) + 1)) 4 0) 3) + 1)) 3 0) 2) + 1)) 2 0) 1 (((upd (upd (upd (upd (upd (upd (upd (upd (upd (upd f3 6 ((f3 6) + 1)) 6 0) 5 (((upd (upd f3 6 ((f3 6) + 1)) 6 0) 5) + 1)) 5 0) 4 (((upd (upd (upd (upd f3 6 ((f3 6) + 1)) 6 0) 5 (((upd (upd f3 6 ((f3 6) + 1)) 6 0) 5) + 1)) 5 0) 4) + 1)) 4 0) 3 (((upd (upd (upd (upd (upd (upd f3 6 ((f3 6) + 1)) 6 0) 5 (((upd (upd f3 6 ((f3 6) + 1)) 6 0) 5) + 1)) 5 0) 4 (((upd (upd (upd (upd f3 6 ((f3 6) + 1)) 6 0) 5 (((upd (upd f3 6 ((f3 6) + 1)) 6 0) 5) + 1)) 5 0) 4) + 1)) 4 0) 3) + 1)) 3 0) 2 (((upd (upd (upd (upd (upd (upd (upd (upd f3 6 ((f3 6) + 1)) 6 0) 5 (((upd (upd f3 6 ((f3 6) + 1)) 6 0) 5) + 1)) 5 0) 4 (((upd (upd (upd (upd f3 6 ((f3 6) + 1)) 6 0) 5 (((upd (upd f3 6 ((f3 6) + 1)) 6 0) 5) + 1)) 5 0) 4) + 1)) 4 0) 3 (((upd (upd (upd (upd (upd (upd f3 6 ((f3 6) + 1)) 6 0) 5 (((upd (upd f3 6 ((f3 6) + 1)) 6 0) 5) + 1)) 5 0) 4 (((upd (upd (upd (upd f3 6 ((f3 6) + 1)) 6 0) 5 (((upd (upd f3 6 ((f3 6) + 1)) 6 0) 5) + 1)) 5 0) 4) + 1)) 4 0) 3) + 1)) 3 0) 2) + 1)) 2 0) 1) + 1)) 1 0) 0 (((upd (upd (upd (upd (upd (upd (upd (upd (upd (upd (upd (upd f3 6 ((f3 6) + 1)) 6 0) 5 (((upd (upd f3 6 ((f3 6) + 1)) 6 0) 5) + 1)) 5 0) 4 (((upd (upd (upd (upd f3 6 ((f3 6) + 1)) 6 0) 5 (((upd (upd f3 6 ((f3 6) + 1)) 6 0) 5) + 1)) 5 0) 4) + 1)) 4 0) 3 (((upd (upd (upd (upd (upd (upd f3 6 ((f3 6) + 1)) 6 0) 5 (((upd (upd f3 6 ((f3 6) + 1)) 6 0) 5) + 1)) 5 0) 4 (((upd (upd (upd (upd f3 6 ((f3 6) + 1)) 6 0) 5 (((upd (upd f3 6 ((f3 6) + 1)) 6 0) 5) + 1)) 5 0) 4) + 1)) 4 0) 3) + 1)) 3 0) 2 (((upd (upd (upd (upd (upd (upd (upd (upd f3 6 ((f3 6) + 1)) 6 0) 5 (((upd (upd f3 6 ((f3 6) + 1)) 6 0) 5) + 1)) 5 0) 4 (((upd (upd (upd (upd f3 6 ((f3 6) + 1)) 6 0) 5 (((upd (upd f3 6 ((f3 6) + 1)) 6 0) 5) + 1)) 5 0) 4) + 1)) 4 0) 3 (((upd (upd (upd (upd (upd (upd f3 6 ((f3 6) + 1)) 6 0) 5 (((upd (upd f3 6 ((f3 6) + 1)) 6 0) 5) + 1)) 5 0) 4 (((upd (upd (upd (upd f3 6 ((f3 6) + 1)) 6 0) 5 (((upd (upd f3 6 ((f3 6) + 1)) 6 0) 5) + 1)) 5 0) 4) + 1)) 4 0) 3) + 1)) 3 0) 2) + 1)) 2 0) 1 (((upd (upd (upd (upd (upd (upd (upd (upd (upd (upd f3 6 ((f3 6) + 1)) 6 0) 5 (((upd (upd f3 6 ((f3 6) + 1)) 6 0) 5) + 1)) 5 0) 4 (((upd (upd (upd (upd f3 6 ((f3 6) + 1)) 6 0) 5 (((upd (upd f3 6 ((f3 6) + 1)) 6 0) 5) + 1)) 5 0) 4) + 1)) 4 0) 3 (((upd (upd (upd (upd (upd (upd f3 6 ((f3 6) + 1)) 6 0) 5 (((upd (upd f3 6 ((f3 6) + 1)) 6 0) 5) + 1)) 5 0) 4 (((upd (upd (upd (upd f3 6 ((f3 6) + 1)) 6 0) 5 (((upd (upd f3 6 ((f3 6) + 1)) 6 0) 5) + 1)) 5 0) 4) + 1)) 4 0) 3) + 1)) 3 0) 2 (((upd (upd (upd (upd (upd (upd (upd (upd f3 6 ((f3 6) + 1)) 6 0) 5 (((upd (upd f3 6 ((f3 6) + 1)) 6 0) 5) + 1)) 5 0) 4 (((upd (upd (upd (upd f3 6 ((f3 6) + 1)) 6 0) 5 (((upd (upd f3 6 ((f3 6) + 1)) 6 0) 5) + 1)) 5 0) 4) + 1)) 4 0) 3 (((upd (upd (upd (upd (upd (upd f3 6 ((f3 6) + 1)) 6 0) 5 (((upd (upd f3 6 ((f3 6) + 1)) 6 0) 5) + 1)) 5 0) 4 (((upd (upd (upd (upd f3 6 ((f3 6) + 1)) 6 0) 5 (((upd (upd f3 6 ((f3 6) + 1)) 6 0) 5) + 1)) 5 0) 4) + 1)) 4 0) 3) + 1)) 3 0) 2) + 1)) 2 0) 1) + 1)) 1 0) 0) + 1)) 0 0), zAr T 0 a4_4 n4 f4, zAr T 0 a5_5 n4 f5, zAr T 0 a6_6 n4 f6]] _ _ := G.re rfl
                exact z_back hQz_ (z_vret C hr hlocks G (Nat.le_of_ble_eq_true rfl) (Nat.le_of_ble_eq_true rfl) dX0_nextRow_46 ⟨([zO0 h md wy la pc_ a1_1 a2_2 a3_3 a4_4 a5_5 a6_6, zAr T 0 a1_1 7 f1, zAr T 0 a2_2 7 f2, zAr T 0 a3_3 7 (upd (upd (upd (upd (upd (upd (upd (upd (upd (upd (upd (upd (upd (upd f3 6 ((f3 6) + 1)) 6 0) 5 (((upd (upd f3 6 ((f3 6) + 1)) 6 0) 5) + 1)) 5 0) 4 (((upd (upd (upd (upd f3 6 ((f3 6) + 1)) 6 0) 5 (((upd (upd f3 6 ((f3 6) + 1)) 6 0) 5) + 1)) 5 0) 4) + 1)) 4 0) 3 (((upd (upd (upd (upd (upd (upd f3 6 ((f3 6) + 1)) 6 0) 5 (((upd (upd f3 6 ((f3 6) + 1)) 6 0) 5) + 1)) 5 0) 4 (((upd (upd (upd (upd f3 6 ((f3 6) + 1)) 6 0) 5 (((upd (upd f3 6 ((f3 6) + 1)) 6 0) 5) + 1)) 5 0) 4) + 1)) 4 0) 3) + 1)) 3 0) 2 (((upd (upd (upd (upd (upd (upd (upd (upd f3 6 ((f3 6) + 1)) 6 0) 5 (((upd (upd f3 6 ((f3 6) + 1)) 6 0) 5) + 1)) 5 0) 4 (((upd (upd (upd (upd f3 6 ((f3 6) + 1)) 6 0) 5 (((upd (upd f3 6 ((f3 6) + 1)) 6 0) 5) + 1)) 5 0) 4) + 1)) 4 0) 3 (((upd (upd (upd (upd (upd (upd f3 6 ((f3 6) + 1)) 6 0) 5 (((upd (upd f3 6 ((f3 6) + 1)) 6 0) 5) + 1)) 5 0) 4 (((upd (upd (upd (upd f3 6 ((f3 6) + 1)) 6 0) 5 (((upd (upd f3 6 ((f3 6) + 1)) 6 0) 5) + 1)) 5 0) 4) + 1)) 4 0) 3) + 1)) 3 0) 2) + 1)) 2 0) 1 (((upd (upd (upd (upd (upd (upd (upd (upd (upd (upd f3 6 ((f3 6) + 1)) 6 0) 5 (((upd (upd f3 6 ((f3 6) + 1)) 6 0) 5) + 1)) 5 0) 4 (((upd (upd (upd (upd f3 6 ((f3 6) + 1)) 6 0) 5 (((upd (upd f3 6 ((f3 6) + 1)) 6 0) 5) + 1)) 5 0) 4) + 1)) 4 0) 3 (((upd (upd (upd (upd (upd (upd f3 6 ((f3 6) + 1)) 6 0) 5 (((upd (upd f3 6 ((f3 6) + 1)) 6 0) 5) + 1)) 5 0) 4 (((upd (upd (upd (upd f3 6 ((f3 6) + 1)) 6 0) 5 (((upd (upd f3 6 ((f3 6) + 1)) 6 0) 5) + 1)) 5 0) 4) + 1)) 4 0) 3) + 1)) 3 0) 2 (((upd (upd (upd (upd (upd (upd (upd (upd f3 6 ((f3 6) + 1)) 6 0) 5 (((upd (upd f3 6 ((f3 6) + 1)) 6 0) 5) + 1)) 5 0) 4 (((upd (upd (upd (upd f3 6 ((f3 6) + 1)) 6 0) 5 (((upd (upd f3 6 ((f3 6) + 1)) 6 0) 5) + 1)) 5 0) 4) + 1)) 4 0) 3 (((upd (upd (upd (upd (upd (upd f3 6 ((f3 6) + 1)) 6 0) 5 (((upd (upd f3 6 ((f3 6) + 1)) 6 0) 5) + 1)) 5 0) 4 (((upd (upd (upd (upd f3 6 ((f3 6) + 1)) 6 0) 5 (((upd (upd f3 6 ((f3 6) + 1)) 6 0) 5) + 1)) 5 0) 4) + 1)) 4 0) 3) + 1)) 3 0) 2) + 1)) 2 0) 1) + 1)) 1 0) 0 (((upd (upd (upd (upd (upd (upd (upd (upd (upd (upd (upd (upd f3 6 ((f3 6) + 1)) 6 0) 5 (((upd (upd f3 6 ((f3 6) + 1)) 6 0) 5) + 1)) 5 0) 4 (((upd (upd (upd (upd f3 6 ((f3 6) + 1)) 6 0) 5 (((upd (upd f3 6 ((f3 6) + 1)) 6 0) 5) + 1)) 5 0) 4) + 1)) 4 0) 3 (((upd (upd (upd (upd (upd (upd f3 6 ((f3 6) + 1)) 6 0) 5 (((upd (upd f3 6 ((f3 6) + 1)) 6 0) 5) + 1)) 5 0) 4 (((upd (upd (upd (upd f3 6 ((f3 6) + 1)) 6 0) 5 (((upd (upd f3 6 ((f3 6) + 1)) 6 0) 5) + 1)) 5 0) 4) + 1)) 4 0) 3) + 1)) 3 0) 2 (((upd (upd (upd (upd (upd (upd (upd (upd f3 6 ((f3 6) + 1)) 6 0) 5 (((upd (upd f3 6 ((f3 6) + 1)) 6 0) 5) + 1)) 5 0) 4 (((upd (upd (upd (upd f3 6 ((f3 6) + 1)) 6 0) 5 (((upd (upd f3 6 ((f3 6) + 1)) 6 0) 5) + 1)) 5 0) 4) + 1)) 4 0) 3 (((upd (upd (upd (upd (upd (upd f3 6 ((f3 6) + 1)) 6 0) 5 (((upd (upd f3 6 ((f3 6) + 1)) 6 0) 5) + 1)) 5 0) 4 (((upd (upd (upd (upd f3 6 ((f3 6) + 1)) 6 0) 5 (((upd (upd f3 6 ((f3 6) + 1)) 6 0) 5) + 1)) 5 0) 4) + 1)) 4 0) 3) + 1)) 3 0) 2) + 1)) 2 0) 1 (((upd (upd (upd (upd (upd (upd (upd (upd (upd (upd f3 6 ((f3 6) + 1)) 6 0) 5 (((upd (upd f3 6 ((f3 6) + 1)) 6 0) 5) + 1)) 5 0) 4 (((upd (upd (upd (upd f3 6 ((f3 6) + 1)) 6 0) 5 (((upd (upd f3 6 ((f3 6) + 1)) 6 0) 5) + 1)) 5 0) 4) + 1)) 4 0) 3 (((upd (upd (upd (upd (upd (upd f3 6 ((f3 6) + 1)) 6 0) 5 (((upd (upd f3 6 ((f3 6) + 1)) 6 0) 5) + 1)) 5 0) 4 (((upd (upd (upd (upd f3 6 ((f3 6) + 1)) 6 0) 5 (((upd (upd f3 6 ((f3 6) + 1)) 6 0) 5) + 1)) 5 0) 4) + 1)) 4 0) 3) + 1)) 3 0) 2 (((upd (upd (upd (upd (upd (upd (upd (upd f3 6 ((f3 6) + 1)) 6 0) 5 (((upd (upd f3 6 ((f3 6) + 1)) 6 0) 5) + 1)) 5 0) 4 (((upd (upd (upd (upd f3 6 ((f3 6) + 1)) 6 0) 5 (((upd (upd f3 6 ((f3 6) + 1)) 6 0) 5) + 1)) 5 0) 4) + 1)) 4 0) 3 (((upd (upd (upd (upd (upd (upd f3 6 ((f3 6) + 1)) 6 0) 5 (((upd (upd f3 6 ((f3 6) + 1)) 6 0) 5) + 1)) 5 0) 4 (((upd (upd (upd (upd f3 6 ((f3 6) + 1)) 6 0) 5 (((upd (upd f3 6 ((f3 6) + 1)) 6 0) 5) + 1)) 5 0) 4) + 1)) 4 0) 3) + 1)) 3 0) 2) + 1)) 2 0) 1) + 1)) 1 0) 0) + 1)) 0 0), zAr T 0 a4_4 n4 f4, zAr T 0 a5_5 n4 f5, zAr T 0 a6_6 n4 f6]), (upd (upd (upd (upd (upd (upd (upd (upd (upd (upd (upd (upd (upd (upd f3 6 ((f3 6) + 1)) 6 0) 5 (((upd (upd f3 6 ((f3 6) + 1)) 6 0) 5) + 1)) 5 0) 4 (((upd (upd (upd (upd f3 6 ((f3 6) + 1)) 6 0) 5 (((upd (upd f3 6 ((f3 6) + 1)) 6 0) 5) + 1)) 5 0) 4) + 1)) 4 0) 3 (((upd (upd (upd (upd (upd (upd f3 6 ((f3 6) + 1)) 6 0) 5 (((upd (upd f3 6 ((f3 6) + 1)) 6 0) 5) + 1)) 5 0) 4 (((upd (upd (upd (upd f3 6 ((f3 6) + 1)) 6 0) 5 (((upd (upd f3 6 ((f3 6) + 1)) 6 0) 5) + 1)) 5 0) 4) + 1)) 4 0) 3) + 1)) 3 0) 2 (((upd (upd (upd (upd (upd (upd (upd (upd f3 6 ((f3 6) + 1)) 6 0) 5 (((upd (upd f3 6 ((f3 6) + 1)) 6 0) 5) + 1)) 5 0) 4 (((upd (upd (upd (upd f3 6 ((f3 6) + 1)) 6 0) 5 (((upd (upd f3 6 ((f3 6) + 1)) 6 0) 5) + 1)) 5 0) 4) + 1)) 4 0) 3 (((upd (upd (upd (upd (upd (upd f3 6 ((f3 6) + 1)) 6 0) 5 (((upd (upd f3 6 ((f3 6) + 1)) 6 0) 5) + 1)) 5 0) 4 (((upd (upd (upd (upd f3 6 ((f3 6) + 1)) 6 0) 5 (((upd (upd f3 6 ((f3 6) + 1)) 6 0) 5) + 1)) 5 0) 4) + 1)) 4 0) 3) + 1)) 3 0) 2) + 1)) 2 0) 1 (((upd (upd (upd (upd (upd (upd (upd (upd (upd (upd f3 6 ((f3 6) + 1)) 6 0) 5 (((upd (upd f3 6 ((f3 6) + 1)) 6 0) 5) + 1)) 5 0) 4 (((upd (upd (upd (upd f3 6 ((f3 6) + 1)) 6 0) 5 (((upd (upd f3 6 ((f3 6) + 1)) 6 0) 5) + 1)) 5 0) 4) + 1)) 4 0) 3 (((upd (upd (upd (upd (upd (upd f3 6 ((f3 6) + 1)) 6 0) 5 (((upd (upd f3 6 ((f3 6) + 1)) 6 0) 5) + 1)) 5 0) 4 (((upd (upd (upd (upd f3 6 ((f3 6) + 1)) 6 0) 5 (((upd (upd f3 6 ((f3 6) + 1)) 6 0) 5) + 1)) 5 0) 4) + 1)) 4 0) 3) + 1)) 3 0) 2 (((upd (upd (upd (upd (upd (upd (upd (upd f3 6 ((f3 6) + 1)) 6 0) 5 (((upd (upd f3 6 ((f3 6) + 1)) 6 0) 5) + 1)) 5 0) 4 (((upd (upd (upd (upd f3 6 ((f3 6) + 1)) 6 0) 5 (((upd (upd f3 6 ((f3 6) + 1)) 6 0) 5) + 1)) 5 0) 4) + 1)) 4 0) 3 (((upd (upd (upd (upd (upd (upd f3 6 ((f3 6) + 1)) 6 0) 5 (((upd (upd f3 6 ((f3 6) + 1)) 6 0) 5) + 1)) 5 0) 4 (((upd (upd (upd (upd f3 6 ((f3 6) + 1)) 6 0) 5 (((upd (upd f3 6 ((f3 6) + 1)) 6 0) 5) + 1)) 5 0) 4) + 1)) 4 0) 3) + 1)) 3 0) 2) + 1)) 2 0) 1) + 1)) 1 0) 0 (((upd (upd (upd (upd (upd (upd (upd (upd (upd (upd (upd (upd f3 6 ((f3 6) + 1)) 6 0) 5 (((upd (upd f3 6 ((f3 6) + 1)) 6 0) 5) + 1)) 5 0) 4 (((upd (upd (upd (upd f3 6 ((f3 6) + 1)) 6 0) 5 (((upd (upd f3 6 ((f3 6) + 1)) 6 0) 5) + 1)) 5 0) 4) + 1)) 4 0) 3 (((upd (upd (upd (upd (upd (upd f3 6 ((f3 6) + 1)) 6 0) 5 (((upd (upd f3 6 ((f3 6) + 1)) 6 0) 5) + 1)) 5 0) 4 (((upd (upd (upd (upd f3 6 ((f3 6) + 1)) 6 0) 5 (((upd (upd f3 6 ((f3 6) + 1)) 6 0) 5) + 1)) 5 0) 4) + 1)) 4 0) 3) + 1)) 3 0) 2 (((upd (upd (upd (upd (upd (upd (upd (upd f3 6 ((f3 6) + 1)) 6 0) 5 (((upd (upd f3 6 ((f3 6) + 1)) 6 0) 5) + 1)) 5 0) 4 (((upd (upd (upd (upd f3 6 ((f3 6) + 1)) 6 0) 5 (((upd (upd f3 6 ((f3 6) + 1)) 6 0) 5) + 1)) 5 0) 4) + 1)) 4 0) 3 (((upd (upd (upd (upd (upd (upd f3 6 ((f3 6) + 1)) 6 0) 5 (((upd (upd f3 6 ((f3 6) + 1)) 6 0) 5) + 1)) 5 0) 4 (((upd (upd (upd (upd f3 6 ((f3 6) + 1)) 6 0) 5 (((upd (upd f3 6 ((f3 6) + 1)) 6 0) 5) + 1)) 5 0) 4) + 1)) 4 0) 3) + 1)) 3 0) 2) + 1)) 2 0) 1 (((upd (upd (upd (upd (upd (upd (upd (upd (upd (upd f3 6 ((f3 6) + 1)) 6 0) 5 (((upd (upd f3 6 ((f3 6) + 1)) 6 0) 5) + 1)) 5 0) 4 (((upd (upd (upd (upd f3 6 ((f3 6) + 1)) 6 0) 5 (((upd (upd f3 6 ((f3 6) + 1)) 6 0) 5) + 1)) 5 0) 4) + 1)) 4 0) 3 (((upd (upd (upd (upd (upd (upd f3 6 ((f3 6) + 1)) 6 0) 5 (((upd (upd f3 6 ((f3 6) + 1)) 6 0) 5) + 1)) 5 0) 4 (((upd (upd (upd (upd f3 6 ((f3 6) + 1)) 6 0) 5 (((upd (upd f3 6 ((f3 6) + 1)) 6 0) 5) + 1)) 5 0) 4) + 1)) 4 0) 3) + 1)) 3 0) 2 (((upd (upd (upd (upd (upd (upd (upd (upd f3 6 ((f3 6) + 1)) 6 0) 5 (((upd (upd f3 6 ((f3 6) + 1)) 6 0) 5) + 1)) 5 0) 4 (((upd (upd (upd (upd f3 6 ((f3 6) + 1)) 6 0) 5 (((upd (upd f3 6 ((f3 6) + 1)) 6 0) 5) + 1)) 5 0) 4) + 1)) 4 0) 3 (((upd (upd (upd (upd (upd (upd f3 6 ((f3 6) + 1)) 6 0) 5 (((upd (upd f3 6 ((f3 6) + 1)) 6 0) 5) + 1)) 5 0) 4 (((upd (upd (upd (upd f3 6 ((f3 6) + 1)) 6 0) 5 (((upd (upd f3 6 ((f3 6) + 1)) 6 0) 5) + 1)) 5 0) 4) + 1)) 4 0) 3) + 1)) 3 0) 2) + 1)) 2 0) 1) + 1)) 1 0) 0) + 1)) 0 0), rfl, hw_35⟩)
              · have c_34n : ¬ (f1 0).toInt ≤ (((upd (upd (upd (upd (upd (upd (upd (upd (upd (upd (upd (upd f3 6 ((f3 6) + 1)) 6 0) 5 (((upd (upd f3 6 ((f3 6) + 1)) 6 0) 5) + 1)) 5 0) 4 (((upd (upd (upd (upd f3 6 ((f3 6) + 1)) 6 0) 5 (((upd (upd f3 6 ((f3 6) + 1)) 6 0) 5) + 1)) 5 0) 4) + 1)) 4 0) 3 (((upd (upd (upd (upd (upd (upd f3 6 ((f3 6) + 1)) 6 0) 5 (((upd (upd f3 6 ((f3 6) + 1)) 6 0) 5) + 1)) 5 0) 4 (((upd (upd (upd (upd f3 6 ((f3 6) + 1)) 6 0) 5 (((upd (upd f3 6 ((f3 6) + 1)) 6 0) 5) + 1)) 5 0) 4) + 1)) 4 0) 3) + 1)) 3 0) 2 (((upd (upd (upd (upd (upd (upd (upd (upd f3 6 ((f3 6) + 1)) 6 0) 5 (((upd (upd f3 6 ((f3 6) + 1)) 6 0) 5) + 1)) 5 0) 4 (((upd (upd (upd (upd f3 6 ((f3 6) + 1)) 6 0) 5 (((upd (upd f3 6 ((f3 6) + 1)) 6 0) 5) + 1)) 5 0) 4) + 1)) 4 0) 3 (((upd (upd (upd (upd (upd (upd f3 6 ((f3 6) + 1)) 6 0) 5 (((upd (upd f3 6 ((f3 6) + 1)) 6 0) 5) + 1)) 5 0) 4 (((upd (upd (upd (upd f3 6 ((f3 6) + 1)) 6 0) 5 (((upd (upd f3 6 ((f3 6) + 1)) 6 0) 5) + 1)) 5 0) 4) + 1)) 4 0) 3) + 1)) 3 0) 2) + 1)) 2 0) 1 (((upd (upd (upd (upd (upd (upd (upd (upd (upd (upd f3 6 ((f3 6) + 1)) 6 0) 5 (((upd (upd f3 6 ((f3 6) + 1)) 6 0) 5) + 1)) 5 0) 4 (((upd (upd (upd (upd f3 6 ((f3 6) + 1)) 6 0) 5 (((upd (upd f3 6 ((f3 6) + 1)) 6 0) 5) + 1)) 5 0) 4) + 1)) 4 0) 3 (((upd (upd (upd (upd (upd (upd f3 6 ((f3 6) + 1)) 6 0) 5 (((upd (upd f3 6 ((f3 6) + 1)) 6 0) 5) + 1)) 5 0) 4 (((upd (upd (upd (upd f3 6 ((f3 6) + 1)) 6 0) 5 (((upd (upd f3 6 ((f3 6) + 1)) 6 0) 5) + 1)) 5 0) 4) + 1)) 4 0) 3) + 1)) 3 0) 2 (((upd (upd (upd (upd (upd (upd (upd (upd f3 6 ((f3 6) + 1)) 6 0) 5 (((upd (upd f3 6 ((f3 6) + 1)) 6 0) 5) + 1)) 5 0) 4 (((upd (upd (upd (upd f3 6 ((f3 6) + 1)) 6 0) 5 (((upd (upd f3 6 ((f3 6) + 1)) 6 0) 5) + 1)) 5 0) 4) + 1)) 4 0) 3 (((upd (upd (upd (upd (upd (upd f3 6 ((f3 6) + 1)) 6 0) 5 (((upd (upd f3 6 ((f3 6) + 1)) 6 0) 5) + 1)) 5 0) 4 (((upd (upd (upd (upd f3 6 ((f3 6) + 1)) 6 0) 5 (((upd (upd f3 6 ((f3 6) + 1)) 6 0) 5) + 1)) 5 0) 4) + 1)) 4 0) 3) + 1)) 3 0) 2) + 1)) 2 0) 1) + 1)) 1 0) 0) + 1).toInt := fun q => c_34 ((fa_le _ _).mpr q)
                have hw_36 : bWays T h la md wy pc_ f1 f2 (upd (upd (upd (upd (upd (upd (upd (upd (upd (upd (upd (upd (upd f3 6 ((f3 6) + 1)) 6 0) 5 (((upd (upd f3 6 ((f3 6) + 1)) 6 0) 5) + 1)) 5 0) 4 (((upd (upd (upd (upd f3 6 ((f3 6) + 1)) 6 0) 5 (((upd (upd f3 6 ((f3 6) + 1)) 6 0) 5) + 1)) 5 0) 4) + 1)) 4 0) 3 (((upd (upd (upd (upd (upd (upd f3 6 ((f3 6) + 1)) 6 0) 5 (((upd (upd f3 6 ((f3 6) + 1)) 6 0) 5) + 1)) 5 0) 4 (((upd (upd (upd (upd f3 6 ((f3 6) + 1)) 6 0) 5 (((upd (upd f3 6 ((f3 6) + 1)) 6 0) 5) + 1)) 5 0) 4) + 1)) 4 0) 3) + 1)) 3 0) 2 (((upd (upd (upd (upd (upd (upd (upd (upd f3 6 ((f3 6) + 1)) 6 0) 5 (((upd (upd f3 6 ((f3 6) + 1)) 6 0) 5) + 1)) 5 0) 4 (((upd (upd (upd (upd f3 6 ((f3 6) + 1)) 6 0) 5 (((upd (upd f3 6 ((f3 6) + 1)) 6 0) 5) + 1)) 5 0) 4) + 1)) 4 0) 3 (((upd (upd (upd (upd (upd (upd f3 6 ((f3 6) + 1)) 6 0) 5 (((upd (upd f3 6 ((f3 6) + 1)) 6 0) 5) + 1)) 5 0) 4 (((upd (upd (upd (upd f3 6 ((f3 6) + 1)) 6 0) 5 (((upd (upd f3 6 ((f3 6) + 1)) 6 0) 5) + 1)) 5 0) 4) + 1)) 4 0) 3) + 1)) 3 0) 2) + 1)) 2 0) 1 (((upd (upd (upd (upd (upd (upd (upd (upd (upd (upd f3 6 ((f3 6) + 1)) 6 0) 5 (((upd (upd f3 6 ((f3 6) + 1)) 6 0) 5) + 1)) 5 0) 4 (((upd (upd (upd (upd f3 6 ((f3 6) + 1)) 6 0) 5 (((upd (upd f3 6 ((f3 6) + 1)) 6 0) 5) + 1)) 5 0) 4) + 1)) 4 0) 3 (((upd (upd (upd (upd (upd (upd f3 6 ((f3 6) + 1)) 6 0) 5 (((upd (upd f3 6 ((f3 6) + 1)) 6 0) 5) + 1)) 5 0) 4 (((upd (upd (upd (upd f3 6 ((f3 6) + 1)) 6 0) 5 (((upd (upd f3 6 ((f3 6) + 1)) 6 0) 5) + 1)) 5 0) 4) + 1)) 4 0) 3) + 1)) 3 0) 2 (((upd (upd (upd (upd (upd (upd (upd (upd f3 6 ((f3 6) + 1)) 6 0) 5 (((upd (upd f3 6 ((f3 6) + 1)) 6 0) 5) + 1)) 5 0) 4 (((upd (upd (upd (upd f3 6 ((f3 6) + 1)) 6 0) 5 (((upd (upd f3 6 ((f3 6) + 1)) 6 0) 5) + 1)) 5 0) 4) + 1)) 4 0) 3 (((upd (upd (upd (upd (upd (upd f3 6 ((f3 6) + 1)) 6 0) 5 (((upd (upd f3 6 ((f3 6) + 1)) 6 0) 5) + 1)) 5 0) 4 (((upd (upd (upd (upd f3 6 ((f3 6) + 1)) 6 0) 5 (((upd (upd f3 6 ((f3 6) + 1)) 6 0) 5) + 1)) 5 0) 4) + 1)) 4 0) 3) + 1)) 3 0) 2) + 1)) 2 0) 1) + 1)) 1 0) 0 (((upd (upd (upd (upd (upd (upd (upd (upd (upd (upd (upd (upd f3 6 ((f3 6) + 1)) 6 0) 5 (((upd (upd f3 6 ((f3 6) + 1)) 6 0) 5) + 1)) 5 0) 4 (((upd (upd (upd (upd f3 6 ((f3 6) + 1)) 6 0) 5 (((upd (upd f3 6 ((f3 6) + 1)) 6 0) 5) + 1)) 5 0) 4) + 1)) 4 0) 3 (((upd (upd (upd (upd (upd (upd f3 6 ((f3 6) + 1)) 6 0) 5 (((upd (upd f3 6 ((f3 6) + 1)) 6 0) 5) + 1)) 5 0) 4 (((upd (upd (upd (upd f3 6 ((f3 6) + 1)) 6 0) 5 (((upd (upd f3 6 ((f3 6) + 1)) 6 0) 5) + 1)) 5 0) 4) + 1)) 4 0) 3) + 1)) 3 0) 2 (((upd (upd (upd (upd (upd (upd (upd (upd f3 6 ((f3 6) + 1)) 6 0) 5 (((upd (upd f3 6 ((f3 6) + 1)) 6 0) 5) + 1)) 5 0) 4 (((upd (upd (upd (upd f3 6 ((f3 6) + 1)) 6 0) 5 (((upd (upd f3 6 ((f3 6) + 1)) 6 0) 5) + 1)) 5 0) 4) + 1)) 4 0) 3 (((upd (upd (upd (upd (upd (upd f3 6 ((f3 6) + 1)) 6 0) 5 (((upd (upd f3 6 ((f3 6) + 1)) 6 0) 5) + 1)) 5 0) 4 (((upd (upd (upd (upd f3 6 ((f3 6) + 1)) 6 0) 5 (((upd (upd f3 6 ((f3 6) + 1)) 6 0) 5) + 1)) 5 0) 4) + 1)) 4 0) 3) + 1)) 3 0) 2) + 1)) 2 0) 1 (((upd (upd (upd (upd (upd (upd (upd (upd (upd (upd f3 6 ((f3 6) + 1)) 6 0) 5 (((upd (upd f3 6 ((f3 6) + 1)) 6 0) 5) + 1)) 5 0) 4 (((upd (upd (upd (upd f3 6 ((f3 6) + 1)) 6 0) 5 (((upd (upd f3 6 ((f3 6) + 1)) 6 0) 5) + 1)) 5 0) 4) + 1)) 4 0) 3 (((upd (upd (upd (upd (upd (upd f3 6 ((f3 6) + 1)) 6 0) 5 (((upd (upd f3 6 ((f3 6) + 1)) 6 0) 5) + 1)) 5 0) 4 (((upd (upd (upd (upd f3 6 ((f3 6) + 1)) 6 0) 5 (((upd (upd f3 6 ((f3 6) + 1)) 6 0) 5) + 1)) 5 0) 4) + 1)) 4 0) 3) + 1)) 3 0) 2 (((upd (upd (upd (upd (upd (upd (upd (upd f3 6 ((f3 6) + 1)) 6 0) 5 (((upd (upd f3 6 ((f3 6) + 1)) 6 0) 5) + 1)) 5 0) 4 (((upd (upd (upd (upd f3 6 ((f3 6) + 1)) 6 0) 5 (((upd (upd f3 6 ((f3 6) + 1)) 6 0) 5) + 1)) 5 0) 4) + 1)) 4 0) 3 (((upd (upd (upd (upd (upd (upd f3 6 ((f3 6) + 1)) 6 0) 5 (((upd (upd f3 6 ((f3 6) + 1)) 6 0) 5) + 1)) 5 0) 4 (((upd (upd (upd (upd f3 6 ((f3 6) + 1)) 6 0) 5 (((upd (upd f3 6 ((f3 6) + 1)) 6 0) 5) + 1)) 5 0) 4) + 1)) 4 0) 3) + 1)) 3 0) 2) + 1)) 2 0) 1) + 1)) 1 0) 0) + 1)) f4 f5 f6 n4 [zO0 h md wy la pc_ a1_1 a2_2 a3_3 a4_4 a5_5 a6_6, zAr T 0 a1_1 7 f1, zAr T 0 a2_2 7 f2, zAr T 0 a3_3 7 (upd (upd (upd (upd (upd (upd (upd (upd (upd (upd (upd (upd (upd f3 6 ((f3 6) + 1)) 6 0) 5 (((upd (upd f3 6 ((f3 6) + 1)) 6 0) 5) + 1)) 5 0) 4 (((upd (upd (upd (upd f3 6 ((f3 6) + 1)) 6 0) 5 (((upd (upd f3 6 ((f3 6) + 1)) 6 0) 5) + 1)) 5 0) 4) + 1)) 4 0) 3 (((upd (upd (upd (upd (upd (upd f3 6 ((f3 6) + 1)) 6 0) 5 (((upd (upd f3 6 ((f3 6) + 1)) 6 0) 5) + 1)) 5 0) 4 (((upd (upd (upd (upd f3 6 ((f3 6) + 1)) 6 0) 5 (((upd (upd f3 6 ((f3 6) + 1)) 6 0) 5) + 1)) 5 0) 4) + 1)) 4 0) 3) + 1)) 3 0) 2 (((upd (upd (upd (upd (upd (upd (upd (upd f3 6 ((f3 6) + 1)) 6 0) 5 (((upd (upd f3 6 ((f3 6) + 1)) 6 0) 5) + 1)) 5 0) 4 (((upd (upd (upd (upd f3 6 ((f3 6) + 1)) 6 0) 5 (((upd (upd f3 6 ((f3 6) + 1)) 6 0) 5) + 1)) 5 0) 4) + 1)) 4 0) 3 (((upd (upd (upd (upd (upd (upd f3 6 ((f3 6) + 1)) 6 0) 5 (((upd (upd f3 6 ((f3 6) + 1)) 6 0) 5) + 1)) 5 0) 4 (((upd (upd (upd (upd f3 6 ((f3 6) + 1)) 6 0) 5 (((upd (upd f3 6 ((f3 6) + 1)) 6 0) 5) + 1)) 5 0) 4) + 1)) 4 0) 3) + 1)) 3 0) 2) + 1)) 2 0) 1 (((upd (upd (upd (upd (upd (upd (upd (upd (upd (upd f3 6 ((f3 6) + 1)) 6 0) 5 (((upd (upd f3 6 ((f3 6) + 1)) 6 0) 5) + 1)) 5 0) 4 (((upd (upd (upd (upd f3 6 ((f3 6) + 1)) 6 0) 5 (((upd (upd f3 6 ((f3 6) + 1)) 6 0) 5) + 1)) 5 0) 4) + 1)) 4 0) 3 (((upd (upd (upd (upd (upd (upd f3 6 ((f3 6) + 1)) 6 0) 5 (((upd (upd f3 6 ((f3 6) + 1)) 6 0) 5) + 1)) 5 0) 4 (((upd (upd (upd (upd f3 6 ((f3 6) + 1)) 6 0) 5 (((upd (upd f3 6 ((f3 6) + 1)) 6 0) 5) + 1)) 5 0) 4) + 1)) 4 0) 3) + 1)) 3 0) 2 (((upd (upd (upd (upd (upd (upd (upd (upd f3 6 ((f3 6) + 1)) 6 0) 5 (((upd (upd f3 6 ((f3 6) + 1)) 6 0) 5) + 1)) 5 0) 4 (((upd (upd (upd (upd f3 6 ((f3 6) + 1)) 6 0) 5 (((upd (upd f3 6 ((f3 6) + 1)) 6 0) 5) + 1)) 5 0) 4) + 1)) 4 0) 3 (((upd (upd (upd (upd (upd (upd f3 6 ((f3 6) + 1)) 6 0) 5 (((upd (upd f3 6 ((f3 6) + 1)) 6 0) 5) + 1)) 5 0) 4 (((upd (upd (upd (upd f3 6 ((f3 6) + 1)) 6 0) 5 (((upd (upd f3 6 ((f3 6) + 1)) 6 0) 5) + 1)) 5 0) 4) + 1)) 4 0) 3) + 1)) 3 0) 2) + 1)) 2 0) 1) + 1)) 1 0) 0 (((upd (upd (upd (upd (upd (upd (upd (upd (upd (upd (upd (upd f3 6 ((f3 6) + 1)) 6 0) 5 (((upd (upd f3 6 ((f3 6) + 1)) 6 0) 5) + 1)) 5 0) 4 (((upd (upd (upd (upd f3 6 ((f3 6) + 1)) 6 0) 5 (((upd (upd f3 6 ((f3 6) + 1)) 6 0) 5) + 1)) 5 0) 4) + 1)) 4 0) 3 (((upd (upd (upd (upd (upd (upd f3 6 ((f3 6) + 1)) 6 0) 5 (((upd (upd f3 6 ((f3 6) + 1)) 6 0) 5) + 1)) 5 0) 4 (((upd (upd (upd (upd f3 6 ((f3 6) + 1)) 6 0) 5 (((upd (upd f3 6 ((f3 6) + 1)) 6 0) 5) + 1)) 5 0) 4) + 1)) 4 0) 3) + 1)) 3 0) 2 (((upd (upd (upd (upd (upd (upd (upd (upd f3 6 ((f3 6) + 1)) 6 0) 5 (((upd (upd f3 6 ((f3 6) + 1)) 6 0) 5) + 1)) 5 0) 4 (((upd (upd (upd (upd f3 6 ((f3 6) + 1)) 6 0) 5 (((upd (upd f3 6 ((f3 6) + 1)) 6 0) 5) + 1)) 5 0) 4) + 1)) 4 0) 3 (((upd (upd (upd (upd (upd (upd f3 6 ((f3 6) + 1)) 6 0) 5 (((upd (upd f3 6 ((f3 6) + 1)) 6 0) 5) + 1)) 5 0) 4 (((upd (upd (upd (upd f3 6 ((f3 6) + 1)) 6 0) 5 (((upd (upd f3 6 ((f3 6) + 1)) 6 0) 5) + 1)) 5 0) 4) + 1)) 4 0) 3) + 1)) 3 0) 2) + 1)) 2 0) 1 (((upd (upd (upd (upd (upd (upd (upd (upd (upd (upd f3 6 ((f3 6) + 1)) 6 0) 5 (((upd (upd f3 6 ((f3 6) + 1)) 6 0) 5) + 1)) 5 0) 4 (((upd (upd (upd (upd f3 6 ((f3 6) + 1)) 6 0) 5 (((upd (upd f3 6 ((f3 6) + 1)) 6 0) 5) + 1)) 5 0) 4) + 1)) 4 0) 3 (((upd (upd (upd (upd (upd (upd f3 6 ((f3 6) + 1)) 6 0) 5 (((upd (upd f3 6 ((f3 6) + 1)) 6 0) 5) + 1)) 5 0) 4 (((upd (upd (upd (upd f3 6 ((f3 6) + 1)) 6 0) 5 (((upd (upd f3 6 ((f3 6) + 1)) 6 0) 5) + 1)) 5 0) 4) + 1)) 4 0) 3) + 1)) 3 0) 2 (((upd (upd (upd (upd (upd (upd (upd (upd f3 6 ((f3 6) + 1)) 6 0) 5 (((upd (upd f3 6 ((f3 6) + 1)) 6 0) 5) + 1)) 5 0) 4 (((upd (upd (upd (upd f3 6 ((f3 6) + 1)) 6 0) 5 (((upd (upd f3 6 ((f3 6) + 1)) 6 0) 5) + 1)) 5 0) 4) + 1)) 4 0) 3 (((upd (upd (upd (upd (upd (upd f3 6 ((f3 6) + 1)) 6 0) 5 (((upd (upd f3 6 ((f3 6) + 1)) 6 0) 5) + 1)) 5 0) 4 (((upd (upd (upd (upd f3 6 ((f3 6) + 1)) 6 0) 5 (((upd (upd f3 6 ((f3 6) + 1)) 6 0) 5) + 1)) 5 0) 4) + 1)) 4 0) 3) + 1)) 3 0) 2) + 1)) 2 0) 1) + 1)) 1 0) 0) + 1)), zAr T 0 a4_4 n4 f4, zAr T 0 a5_5 n4 f5, zAr T 0 a6_6 n4 f6] := ⟨a1_1, a2_2, a3_3, a4_4, a5_5, a6_6, rfl⟩
                have G : zS T A s.heap s [[zO0 h md wy la pc_ a1_1 a2_2 a3_3 a4_4 a5_5 a6_6, zAr T 0 a1_1 7 f1, zAr T 0 a2_2 7 f2, zAr T 0 a3_3 7 (upd (upd (upd (upd (upd (upd (upd (upd (upd (upd (upd (upd (upd f3 6 ((f3 6) + 1)) 6 0) 5 (((upd (upd f3 6 ((f3 6) + 1)) 6 0) 5) + 1)) 5 0) 4 (((upd (upd (upd (upd f3 6 ((f3 6) + 1)) 6 0) 5 (((upd (upd f3 6 ((f3 6) + 1)) 6 0) 5) + 1)) 5 0) 4) + 1)) 4 0) 3 (((upd (upd (upd (upd (upd (upd f3 6 ((f3 6) + 1)) 6 0) 5 (((upd (upd f3 6 ((f3 6) + 1)) 6 0) 5) + 1)) 5 0) 4 (((upd (upd (upd (upd f3 6 ((f3 6) + 1)) 6 0) 5 (((upd (upd f3 6 ((f3 6) + 1)) 6 0) 5) + 1)) 5 0) 4) + 1)) 4 0) 3) + 1)) 3 0) 2 (((upd (upd (upd (upd (upd (upd (upd (upd f3 6 ((f3 6) + 1)) 6 0) 5 (((upd (upd f3 6 ((f3 6) + 1)) 6 0) 5) + 1)) 5 0) 4 (((upd (upd (upd (upd f3 6 ((f3 6) + 1)) 6 0) 5 (((upd (upd f3 6 ((f3 6) + 1)) 6 0) 5) + 1)) 5 0) 4) + 1)) 4 0) 3 (((upd (upd (upd (upd (upd (upd f3 6 ((f3 6) + 1)) 6 0) 5 (((upd (upd f3 6 ((f3 6) + 1)) 6 0) 5) + 1)) 5 0) 4 (((upd (upd (upd (upd f3 6 ((f3 6) + 1)) 6 0) 5 (((upd (upd f3 6 ((f3 6) + 1)) 6 0) 5) + 1)) 5 0) 4) + 1)) 4 0) 3) + 1)) 3 0) 2) + 1)) 2 0) 1 (((upd (upd (upd (upd (upd (upd (upd (upd (upd (upd f3 6 ((f3 6) + 1)) 6 0) 5 (((upd (upd f3 6 ((f3 6) + 1)) 6 0) 5) + 1)) 5 0) 4 (((upd (upd (upd (upd f3 6 ((f3 6) + 1)) 6 0) 5 (((upd (upd f3 6 ((f3 6) + 1)) 6 0) 5) + 1)) 5 0) 4) + 1)) 4 0) 3 (((upd (upd (upd (upd (upd (upd f3 6 ((f3 6) + 1)) 6 0) 5 (((upd (upd f3 6 ((f3 6) + 1)) 6 0) 5) + 1)) 5 0) 4 (((upd (upd (upd (upd f3 6 ((f3 6) + 1)) 6 0) 5 (((upd (upd f3 6 ((f3 6) + 1)) 6 0) 5) + 1)) 5 0) 4) + 1)) 4 0) 3) + 1)) 3 0) 2 (((upd (upd (upd (upd (upd (upd (upd (upd f3 6 ((f3 6) + 1)) 6 0) 5 (((upd (upd f3 6 ((f3 6) + 1)) 6 0) 5) + 1)) 5 0) 4 (((upd (upd (upd (upd f3 6 ((f3 6) + 1)) 6 0) 5 (((upd (upd f3 6 ((f3 6) + 1)) 6 0) 5) + 1)) 5 0) 4) + 1)) 4 0) 3 (((upd (upd (upd (upd (upd (upd f3 6 ((f3 6) + 1)) 6 0) 5 (((upd (upd f3 6 ((f3 6) + 1)) 6 0) 5) + 1)) 5 0) 4 (((upd (upd (upd (upd f3 6 ((f3 6) + 1)) 6 0) 5 (((upd (upd f3 6 ((f3 6) + 1)) 6 0) 5) + 1)) 5 0) 4) + 1)) 4 0) 3) + 1)) 3 0) 2) + 1)) 2 0) 1) + 1)) 1 0) 0 (((upd (upd (upd (upd (upd (upd (upd (upd (upd (upd (upd (upd f3 6 ((f3 6) + 1)) 6 0) 5 (((upd (upd f3 6 ((f3 6) + 1)) 6 0) 5) + 1)) 5 0) 4 (((upd (upd (upd (upd f3 6 ((f3 6) + 1)) 6 0) 5 (((upd (upd f3 6 ((f3 6) + 1)) 6 0) 5) + 1)) 5 0) 4) + 1)) 4 0) 3 (((upd (upd (upd (upd (upd (upd f3 6 ((f3 6) + 1)) 6 0) 5 (((upd (upd f3 6 ((f3 6) + 1)) 6 0) 5) + 1)) 5 0) 4 (((upd (upd (upd (upd f3 6 ((f3 6) + 1)) 6 0) 5 (((upd (upd f3 6 ((f3 6) + 1)) 6 0) 5) + 1)) 5 0) 4) + 1)) 4 0) 3) + 1)) 3 0) 2 (((upd (upd (upd (upd (upd (upd (upd (upd f3 6 ((f3 6) + 1)) 6 0) 5 (((upd (upd f3 6 ((f3 6) + 1)) 6 0) 5) + 1)) 5 0) 4 (((upd (upd (upd (upd f3 6 ((f3 6) + 1)) 6 0) 5 (((upd (upd f3 6 ((f3 6) + 1)) 6 0) 5) + 1)) 5 0) 4) + 1)) 4 0) 3 (((upd (upd (upd (upd (upd (upd f3 6 ((f3 6) + 1)) 6 0) 5 (((upd (upd f3 6 ((f3 6) + 1)) 6 0) 5) + 1)) 5 0) 4 (((upd (upd (upd (upd f3 6 ((f3 6) + 1)) 6 0) 5 (((upd (upd f3 6 ((f3 6) + 1)) 6 0) 5) + 1)) 5 0) 4) + 1)) 4 0) 3) + 1)) 3 0) 2) + 1)) 2 0) 1 (((upd (upd (upd (upd (upd (upd (upd (upd (upd (upd f3 6 ((f3 6) + 1)) 6 0) 5 (((upd (upd f3 6 ((f3 6) + 1)) 6 0) 5) + 1)) 5 0) 4 (((upd (upd (upd (upd f3 6 ((f3 6) + 1)) 6 0) 5 (((upd (upd f3 6 ((f3 6) + 1)) 6 0) 5) + 1)) 5 0) 4) + 1)) 4 0) 3 (((upd (upd (upd (upd (upd (upd f3 6 ((f3 6) + 1)) 6 0) 5 (((upd (upd f3 6 ((f3 6) + 1)) 6 0) 5) + 1)) 5 0) 4 (((upd (upd (upd (upd f3 6 ((f3 6) + 1)) 6 0) 5 (((upd (upd f3 6 ((f3 6) + 1)) 6 0) 5) + 1)) 5 0) 4) + 1)) 4 0) 3) + 1)) 3 0) 2 (((upd (upd (upd (upd (upd (upd (upd (upd f3 6 ((f3 6) + 1)) 6 0) 5 (((upd (upd f3 6 ((f3 6) + 1)) 6 0) 5) + 1)) 5 0) 4 (((upd (upd (upd (upd f3 6 ((f3 6) + 1)) 6 0) 5 (((upd (upd f3 6 ((f3 6) + 1)) 6 0) 5) + 1)) 5 0) 4) + 1)) 4 0) 3 (((upd (upd (upd (upd (upd (upd f3 6 ((f3 6) + 1)) 6 0) 5 (((upd (upd f3 6 ((f3 6) + 1)) 6 0) 5) + 1)) 5 0) 4 (((upd (upd (upd (upd f3 6 ((f3 6) + 1)) 6 0) 5 (((upd (upd f3 6 ((f3 6) + 1)) 6 0) 5) + 1)) 5 0) 4) + 1)) 4 0) 3) + 1)) 3 0) 2) + 1)) 2 0) 1) + 1)) 1 0) 0) + 1)), zAr T 0 a4_4 n4 f4, zAr T 0 a5_5 n4 f5, zAr T 0 a6_6 n4 f6]] _ _ := G.re rfl
                exact z_back hQz_ (z_vret C hr hlocks G (Nat.le_of_ble_eq_true rfl) (Nat.le_of_ble_eq_true rfl) dX0_nextRow_32 ⟨([zO0 h md wy la pc_ a1_1 a2_2 a3_3 a4_4 a5_5 a6_6, zAr T 0 a1_1 7 f1, zAr T 0 a2_2 7 f2, zAr T 0 a3_3 7 (upd (upd (upd (upd (upd (upd (upd (upd (upd (upd (upd (upd (upd f3 6 ((f3 6) + 1)) 6 0) 5 (((upd (upd f3 6 ((f3 6) + 1)) 6 0) 5) + 1)) 5 0) 4 (((upd (upd (upd (upd f3 6 ((f3 6) + 1)) 6 0) 5 (((upd (upd f3 6 ((f3 6) + 1)) 6 0) 5) + 1)) 5 0) 4) + 1)) 4 0) 3 (((upd (upd (upd (upd (upd (upd f3 6 ((f3 6) + 1)) 6 0) 5 (((upd (upd f3 6 ((f3 6) + 1)) 6 0) 5) + 1)) 5 0) 4 (((upd (upd (upd (upd f3 6 ((f3 6) + 1)) 6 0) 5 (((upd (upd f3 6 ((f3 6) + 1)) 6 0) 5) + 1)) 5 0) 4) + 1)) 4 0) 3) + 1)) 3 0) 2 (((upd (upd (upd (upd (upd (upd (upd (upd f3 6 ((f3 6) + 1)) 6 0) 5 (((upd (upd f3 6 ((f3 6) + 1)) 6 0) 5) + 1)) 5 0) 4 (((upd (upd (upd (upd f3 6 ((f3 6) + 1)) 6 0) 5 (((upd (upd f3 6 ((f3 6) + 1)) 6 0) 5) + 1)) 5 0) 4) + 1)) 4 0) 3 (((upd (upd (upd (upd (upd (upd f3 6 ((f3 6) + 1)) 6 0) 5 (((upd (upd f3 6 ((f3 6) + 1)) 6 0) 5) + 1)) 5 0) 4 (((upd (upd (upd (upd f3 6 ((f3 6) + 1)) 6 0) 5 (((upd (upd f3 6 ((f3 6) + 1)) 6 0) 5) + 1)) 5 0) 4) + 1)) 4 0) 3) + 1)) 3 0) 2) + 1)) 2 0) 1 (((upd (upd (upd (upd (upd (upd (upd (upd (upd (upd f3 6 ((f3 6) + 1)) 6 0) 5 (((upd (upd f3 6 ((f3 6) + 1)) 6 0) 5) + 1)) 5 0) 4 (((upd (upd (upd (upd f3 6 ((f3 6) + 1)) 6 0) 5 (((upd (upd f3 6 ((f3 6) + 1)) 6 0) 5) + 1)) 5 0) 4) + 1)) 4 0) 3 (((upd (upd (upd (upd (upd (upd f3 6 ((f3 6) + 1)) 6 0) 5 (((upd (upd f3 6 ((f3 6) + 1)) 6 0) 5) + 1)) 5 0) 4 (((upd (upd (upd (upd f3 6 ((f3 6) + 1)) 6 0) 5 (((upd (upd f3 6 ((f3 6) + 1)) 6 0) 5) + 1)) 5 0) 4) + 1)) 4 0) 3) + 1)) 3 0) 2 (((upd (upd (upd (upd (upd (upd (upd (upd f3 6 ((f3 6) + 1)) 6 0) 5 (((upd (upd f3 6 ((f3 6) + 1)) 6 0) 5) + 1)) 5 0) 4 (((upd (upd (upd (upd f3 6 ((f3 6) + 1)) 6 0) 5 (((upd (upd f3 6 ((f3 6) + 1)) 6 0) 5) + 1)) 5 0) 4) + 1)) 4 0) 3 (((upd (upd (upd (upd (upd (upd f3 6 ((f3 6) + 1)) 6 0) 5 (((upd (upd f3 6 ((f3 6) + 1)) 6 0) 5) + 1)) 5 0) 4 (((upd (upd (upd (upd f3 6 ((f3 6) + 1)) 6 0) 5 (((upd (upd f3 6 ((f3 6) + 1)) 6 0) 5) + 1)) 5 0) 4) + 1)) 4 0) 3) + 1)) 3 0) 2) + 1)) 2 0) 1) + 1)) 1 0) 0 (((upd (upd (upd (upd (upd (upd (upd (upd (upd (upd (upd (upd f3 6 ((f3 6) + 1)) 6 0) 5 (((upd (upd f3 6 ((f3 6) + 1)) 6 0) 5) + 1)) 5 0) 4 (((upd (upd (upd (upd f3 6 ((f3 6) + 1)) 6 0) 5 (((upd (upd f3 6 ((f3 6) + 1)) 6 0) 5) + 1)) 5 0) 4) + 1)) 4 0) 3 (((upd (upd (upd (upd (upd (upd f3 6 ((f3 6) + 1)) 6 0) 5 (((upd (upd f3 6 ((f3 6) + 1)) 6 0) 5) + 1)) 5 0) 4 (((upd (upd (upd (upd f3 6 ((f3 6) + 1)) 6 0) 5 (((upd (upd f3 6 ((f3 6) + 1)) 6 0) 5) + 1)) 5 0) 4) + 1)) 4 0) 3) + 1)) 3 0) 2 (((upd (upd (upd (upd (upd (upd (upd (upd f3 6 ((f3 6) + 1)) 6 0) 5 (((upd (upd f3 6 ((f3 6) + 1)) 6 0) 5) + 1)) 5 0) 4 (((upd (upd (upd (upd f3 6 ((f3 6) + 1)) 6 0) 5 (((upd (upd f3 6 ((f3 6) + 1)) 6 0) 5) + 1)) 5 0) 4) + 1)) 4 0) 3 (((upd (upd (upd (upd (upd (upd f3 6 ((f3 6) + 1)) 6 0) 5 (((upd (upd f3 6 ((f3 6) + 1)) 6 0) 5) + 1)) 5 0) 4 (((upd (upd (upd (upd f3 6 ((f3 6) + 1)) 6 0) 5 (((upd (upd f3 6 ((f3 6) + 1)) 6 0) 5) + 1)) 5 0) 4) + 1)) 4 0) 3) + 1)) 3 0) 2) + 1)) 2 0) 1 (((upd (upd (upd (upd (upd (upd (upd (upd (upd (upd f3 6 ((f3 6) + 1)) 6 0) 5 (((upd (upd f3 6 ((f3 6) + 1)) 6 0) 5) + 1)) 5 0) 4 (((upd (upd (upd (upd f3 6 ((f3 6) + 1)) 6 0) 5 (((upd (upd f3 6 ((f3 6) + 1)) 6 0) 5) + 1)) 5 0) 4) + 1)) 4 0) 3 (((upd (upd (upd (upd (upd (upd f3 6 ((f3 6) + 1)) 6 0) 5 (((upd (upd f3 6 ((f3 6) + 1)) 6 0) 5) + 1)) 5 0) 4 (((upd (upd (upd (upd f3 6 ((f3 6) + 1)) 6 0) 5 (((upd (upd f3 6 ((f3 6) + 1)) 6 0) 5) + 1)) 5 0) 4) + 1)) 4 0) 3) + 1)) 3 0) 2 (((upd (upd (upd (upd (upd (upd (upd (upd f3 6 ((f3 6) + 1)) 6 0) 5 (((upd (upd f3 6 ((f3 6) + 1)) 6 0) 5) + 1)) 5 0) 4 (((upd (upd (upd (upd f3 6 ((f3 6) + 1)) 6 0) 5 (((upd (upd f3 6 ((f3 6) + 1)) 6 0) 5) + 1)) 5 0) 4) + 1)) 4 0) 3 (((upd (upd (upd (upd (upd (upd f3 6 ((f3 6) + 1)) 6 0) 5 (((upd (upd f3 6 ((f3 6) + 1)) 6 0) 5) + 1)) 5 0) 4 (((upd (upd (upd (upd f3 6 ((f3 6) + 1)) 6 0) 5 (((upd (upd f3 6 ((f3 6) + 1)) 6 0) 5) + 1)) 5 0) 4) + 1)) 4 0) 3) + 1)) 3 0) 2) + 1)) 2 0) 1) + 1)) 1 0) 0) + 1)), zAr T 0 a4_4 n4 f4, zAr T 0 a5_5 n4 f5, zAr T 0 a6_6 n4 f6]), (upd (upd (upd (upd (upd (upd (upd (upd (upd (upd (upd (upd (upd f3 6 ((f3 6) + 1)) 6 0) 5 (((upd (upd f3 6 ((f3 6) + 1)) 6 0) 5) + 1)) 5 0) 4 (((upd (upd (upd (upd f3 6 ((f3 6) + 1)) 6 0) 5 (((upd (upd f3 6 ((f3 6) + 1)) 6 0) 5) + 1)) 5 0) 4) + 1)) 4 0) 3 (((upd (upd (upd (upd (upd (upd f3 6 ((f3 6) + 1)) 6 0) 5 (((upd (upd f3 6 ((f3 6) + 1)) 6 0) 5) + 1)) 5 0) 4 (((upd (upd (upd (upd f3 6 ((f3 6) + 1)) 6 0) 5 (((upd (upd f3 6 ((f3 6) + 1)) 6 0) 5) + 1)) 5 0) 4) + 1)) 4 0) 3) + 1)) 3 0) 2 (((upd (upd (upd (upd (upd (upd (upd (upd f3 6 ((f3 6) + 1)) 6 0) 5 (((upd (upd f3 6 ((f3 6) + 1)) 6 0) 5) + 1)) 5 0) 4 (((upd (upd (upd (upd f3 6 ((f3 6) + 1)) 6 0) 5 (((upd (upd f3 6 ((f3 6) + 1)) 6 0) 5) + 1)) 5 0) 4) + 1)) 4 0) 3 (((upd (upd (upd (upd (upd (upd f3 6 ((f3 6) + 1)) 6 0) 5 (((upd (upd f3 6 ((f3 6) + 1)) 6 0) 5) + 1)) 5 0) 4 (((upd (upd (upd (upd f3 6 ((f3 6) + 1)) 6 0) 5 (((upd (upd f3 6 ((f3 6) + 1)) 6 0) 5) + 1)) 5 0) 4) + 1)) 4 0) 3) + 1)) 3 0) 2) + 1)) 2 0) 1 (((upd (upd (upd (upd (upd (upd (upd (upd (upd (upd f3 6 ((f3 6) + 1)) 6 0) 5 (((upd (upd f3 6 ((f3 6) + 1)) 6 0) 5) + 1)) 5 0) 4 (((upd (upd (upd (upd f3 6 ((f3 6) + 1)) 6 0) 5 (((upd (upd f3 6 ((f3 6) + 1)) 6 0) 5) + 1)) 5 0) 4) + 1)) 4 0) 3 (((upd (upd (upd (upd (upd (upd f3 6 ((f3 6) + 1)) 6 0) 5 (((upd (upd f3 6 ((f3 6) + 1)) 6 0) 5) + 1)) 5 0) 4 (((upd (upd (upd (upd f3 6 ((f3 6) + 1)) 6 0) 5 (((upd (upd f3 6 ((f3 6) + 1)) 6 0) 5) + 1)) 5 0) 4) + 1)) 4 0) 3) + 1)) 3 0) 2 (((upd (upd (upd (upd (upd (upd (upd (upd f3 6 ((f3 6) + 1)) 6 0) 5 (((upd (upd f3 6 ((f3 6) + 1)) 6 0) 5) + 1)) 5 0) 4 (((upd (upd (upd (upd f3 6 ((f3 6) + 1)) 6 0) 5 (((upd (upd f3 6 ((f3 6) + 1)) 6 0) 5) + 1)) 5 0) 4) + 1)) 4 0) 3 (((upd (upd (upd (upd (upd (upd f3 6 ((f3 6) + 1)) 6 0) 5 (((upd (upd f3 6 ((f3 6) + 1)) 6 0) 5) + 1)) 5 0) 4 (((upd (upd (upd (upd f3 6 ((f3 6) + 1)) 6 0) 5 (((upd (upd f3 6 ((f3 6) + 1)) 6 0) 5) + 1)) 5 0) 4) + 1)) 4 0) 3) + 1)) 3 0) 2) + 1)) 2 0) 1) + 1)) 1 0) 0 (((upd (upd (upd (upd (upd (upd (upd (upd (upd (upd (upd (upd f3 6 ((f3 6) + 1)) 6 0) 5 (((upd (upd f3 6 ((f3 6) + 1)) 6 0) 5) + 1)) 5 0) 4 (((upd (upd (upd (upd f3 6 ((f3 6) + 1)) 6 0) 5 (((upd (upd f3 6 ((f3 6) + 1)) 6 0) 5) + 1)) 5 0) 4) + 1)) 4 0) 3 (((upd (upd (upd (upd (upd (upd f3 6 ((f3 6) + 1)) 6 0) 5 (((upd (upd f3 6 ((f3 6) + 1)) 6 0) 5) + 1)) 5 0) 4 (((upd (upd (upd (upd f3 6 ((f3 6) + 1)) 6 0) 5 (((upd (upd f3 6 ((f3 6) + 1)) 6 0) 5) + 1)) 5 0) 4) + 1)) 4 0) 3) + 1)) 3 0) 2 (((upd (upd (upd (upd (upd (upd (upd (upd f3 6 ((f3 6) + 1)) 6 0) 5 (((upd (upd f3 6 ((f3 6) + 1)) 6 0) 5) + 1)) 5 0) 4 (((upd (upd (upd (upd f3 6 ((f3 6) + 1)) 6 0) 5 (((upd (upd f3 6 ((f3 6) + 1)) 6 0) 5) + 1)) 5 0) 4) + 1)) 4 0) 3 (((upd (upd (upd (upd (upd (upd f3 6 ((f3 6) + 1)) 6 0) 5 (((upd (upd f3 6 ((f3 6) + 1)) 6 0) 5) + 1)) 5 0) 4 (((upd (upd (upd (upd f3 6 ((f3 6) + 1)) 6 0) 5 (((upd (upd f3 6 ((f3 6) + 1)) 6 0) 5) + 1)) 5 0) 4) + 1)) 4 0) 3) + 1)) 3 0) 2) + 1)) 2 0) 1 (((upd (upd (upd (upd (upd (upd (upd (upd (upd (upd f3 6 ((f3 6) + 1)) 6 0) 5 (((upd (upd f3 6 ((f3 6) + 1)) 6 0) 5) + 1)) 5 0) 4 (((upd (upd (upd (upd f3 6 ((f3 6) + 1)) 6 0) 5 (((upd (upd f3 6 ((f3 6) + 1)) 6 0) 5) + 1)) 5 0) 4) + 1)) 4 0) 3 (((upd (upd (upd (upd (upd (upd f3 6 ((f3 6) + 1)) 6 0) 5 (((upd (upd f3 6 ((f3 6) + 1)) 6 0) 5) + 1)) 5 0) 4 (((upd (upd (upd (upd f3 6 ((f3 6) + 1)) 6 0) 5 (((upd (upd f3 6 ((f3 6) + 1)) 6 0) 5) + 1)) 5 0) 4) + 1)) 4 0) 3) + 1)) 3 0) 2 (((upd (upd (upd (upd (upd (upd (upd (upd f3 6 ((f3 6) + 1)) 6 0) 5 (((upd (upd f3 6 ((f3 6) + 1)) 6 0) 5) + 1)) 5 0) 4 (((upd (upd (upd (upd f3 6 ((f3 6) + 1)) 6 0) 5 (((upd (upd f3 6 ((f3 6) + 1)) 6 0) 5) + 1)) 5 0) 4) + 1)) 4 0) 3 (((upd (upd (upd (upd (upd (upd f3 6 ((f3 6) + 1)) 6 0) 5 (((upd (upd f3 6 ((f3 6) + 1)) 6 0) 5) + 1)) 5 0) 4 (((upd (upd (upd (upd f3 6 ((f3 6) + 1)) 6 0) 5 (((upd (upd f3 6 ((f3 6) + 1)) 6 0) 5) + 1)) 5 0) 4) + 1)) 4 0) 3) + 1)) 3 0) 2) + 1)) 2 0) 1) + 1)) 1 0) 0) + 1)), rfl, hw_36⟩)
            · have c_30n : ¬ (f1 1).toInt ≤ (((upd (upd (upd (upd (upd (upd (upd (upd (upd (upd f3 6 ((f3 6) + 1)) 6 0) 5 (((upd (upd f3 6 ((f3 6) + 1)) 6 0) 5) + 1)) 5 0) 4 (((upd (upd (upd (upd f3 6 ((f3 6) + 1)) 6 0) 5 (((upd (upd f3 6 ((f3 6) + 1)) 6 0) 5) + 1)) 5 0) 4) + 1)) 4 0) 3 (((upd (upd (upd (upd (upd (upd f3 6 ((f3 6) + 1)) 6 0) 5 (((upd (upd f3 6 ((f3 6) + 1)) 6 0) 5) + 1)) 5 0) 4 (((upd (upd (upd (upd f3 6 ((f3 6) + 1)) 6 0) 5 (((upd (upd f3 6 ((f3 6) + 1)) 6 0) 5) + 1)) 5 0) 4) + 1)) 4 0) 3) + 1)) 3 0) 2 (((upd (upd (upd (upd (upd (upd (upd (upd f3 6 ((f3 6) + 1)) 6 0) 5 (((upd (upd f3 6 ((f3 6) + 1)) 6 0) 5) + 1)) 5 0) 4 (((upd (upd (upd (upd f3 6 ((f3 6) + 1)) 6 0) 5 (((upd (upd f3 6 ((f3 6) + 1)) 6 0) 5) + 1)) 5 0) 4) + 1)) 4 0) 3 (((upd (upd (upd (upd (upd (upd f3 6 ((f3 6) + 1)) 6 0) 5 (((upd (upd f3 6 ((f3 6) + 1)) 6 0) 5) + 1)) 5 0) 4 (((upd (upd (upd (upd f3 6 ((f3 6) + 1)) 6 0) 5 (((upd (upd f3 6 ((f3 6) + 1)) 6 0) 5) + 1)) 5 0) 4) + 1)) 4 0) 3) + 1)) 3 0) 2) + 1)) 2 0) 1) + 1).toInt := fun q => c_30 ((fa_le _ _).mpr q)
              have hw_37 : bWays T h la md wy pc_ f1 f2 (upd (upd (upd (upd (upd (upd (upd (upd (upd (upd (upd f3 6 ((f3 6) + 1)) 6 0) 5 (((upd (upd f3 6 ((f3 6) + 1)) 6 0) 5) + 1)) 5 0) 4 (((upd (upd (upd (upd f3 6 ((f3 6) + 1)) 6 0) 5 (((upd (upd f3 6 ((f3 6) + 1)) 6 0) 5) + 1)) 5 0) 4) + 1)) 4 0) 3 (((upd (upd (upd (upd (upd (upd f3 6 ((f3 6) + 1)) 6 0) 5 (((upd (upd f3 6 ((f3 6) + 1)) 6 0) 5) + 1)) 5 0) 4 (((upd (upd (upd (upd f3 6 ((f3 6) + 1)) 6 0) 5 (((upd (upd f3 6 ((f3 6) + 1)) 6 0) 5) + 1)) 5 0) 4) + 1)) 4 0) 3) + 1)) 3 0) 2 (((upd (upd (upd (upd (upd (upd (upd (upd f3 6 ((f3 6) + 1)) 6 0) 5 (((upd (upd f3 6 ((f3 6) + 1)) 6 0) 5) + 1)) 5 0) 4 (((upd (upd (upd (upd f3 6 ((f3 6) + 1)) 6 0) 5 (((upd (upd f3 6 ((f3 6) + 1)) 6 0) 5) + 1)) 5 0) 4) + 1)) 4 0) 3 (((upd (upd (upd (upd (upd (upd f3 6 ((f3 6) + 1)) 6 0) 5 (((upd (upd f3 6 ((f3 6) + 1)) 6 0) 5) + 1)) 5 0) 4 (((upd (upd (upd (upd f3 6 ((f3 6) + 1)) 6 0) 5 (((upd (upd f3 6 ((f3 6) + 1)) 6 0) 5) + 1)) 5 0) 4) + 1)) 4 0) 3) + 1)) 3 0) 2) + 1)) 2 0) 1 (((upd (upd (upd (upd (upd (upd (upd (upd (upd (upd f3 6 ((f3 6) + 1)) 6 0) 5 (((upd (upd f3 6 ((f3 6) + 1)) 6 0) 5) + 1)) 5 0) 4 (((upd (upd (upd (upd f3 6 ((f3 6) + 1)) 6 0) 5 (((upd (upd f3 6 ((f3 6) + 1)) 6 0) 5) + 1)) 5 0) 4) + 1)) 4 0) 3 (((upd (upd (upd (upd (upd (upd f3 6 ((f3 6) + 1)) 6 0) 5 (((upd (upd f3 6 ((f3 6) + 1)) 6 0) 5) + 1)) 5 0) 4 (((upd (upd (upd (upd f3 6 ((f3 6) + 1)) 6 0) 5 (((upd (upd f3 6 ((f3 6) + 1)) 6 0) 5) + 1)) 5 0) 4) + 1)) 4 0) 3) + 1)) 3 0) 2 (((upd (upd (upd (upd (upd (upd (upd (upd f3 6 ((f3 6) + 1)) 6 0) 5 (((upd (upd f3 6 ((f3 6) + 1)) 6 0) 5) + 1)) 5 0) 4 (((upd (upd (upd (upd f3 6 ((f3 6) + 1)) 6 0) 5 (((upd (upd f3 6 ((f3 6) + 1)) 6 0) 5) + 1)) 5 0) 4) + 1)) 4 0) 3 (((upd (upd (upd (upd (upd (upd f3 6 ((f3 6) + 1)) 6 0) 5 (((upd (upd f3 6 ((f3 6) + 1)) 6 0) 5) + 1)) 5 0) 4 (((upd (upd (upd (upd f3 6 ((f3 6) + 1)) 6 0) 5 (((upd (upd f3 6 ((f3 6) + 1)) 6 0) 5) + 1)) 5 0) 4) + 1)) 4 0) 3) + 1)) 3 0) 2) + 1)) 2 0) 1) + 1)) f4 f5 f6 n4 [zO0 h md wy la pc_ a1_1 a2_2 a3_3 a4_4 a5_5 a6_6, zAr T 0 a1_1 7 f1, zAr T 0 a2_2 7 f2, zAr T 0 a3_3 7 (upd (upd (upd (upd (upd (upd (upd (upd (upd (upd (upd f3 6 ((f3 6) + 1)) 6 0) 5 (((upd (upd f3 6 ((f3 6) + 1)) 6 0) 5) + 1)) 5 0) 4 (((upd (upd (upd (upd f3 6 ((f3 6) + 1)) 6 0) 5 (((upd (upd f3 6 ((f3 6) + 1)) 6 0) 5) + 1)) 5 0) 4) + 1)) 4 0) 3 (((upd (upd (upd (upd (upd (upd f3 6 ((f3 6) + 1)) 6 0) 5 (((upd (upd f3 6 ((f3 6) + 1)) 6 0) 5) + 1)) 5 0) 4 (((upd (upd (upd (upd f3 6 ((f3 6) + 1)) 6 0) 5 (((upd (upd f3 6 ((f3 6) + 1)) 6 0) 5) + 1)) 5 0) 4) + 1)) 4 0) 3) + 1)) 3 0) 2 (((upd (upd (upd (upd (upd (upd (upd (upd f3 6 ((f3 6) + 1)) 6 0) 5 (((upd (upd f3 6 ((f3 6) + 1)) 6 0) 5) + 1)) 5 0) 4 (((upd (upd (upd (upd f3 6 ((f3 6) + 1)) 6 0) 5 (((upd (upd f3 6 ((f3 6) + 1)) 6 0) 5) + 1)) 5 0) 4) + 1)) 4 0) 3 (((upd (upd (upd (upd (upd (upd f3 6 ((f3 6) + 1)) 6 0) 5 (((upd (upd f3 6 ((f3 6) + 1)) 6 0) 5) + 1)) 5 0) 4 (((upd (upd (upd (upd f3 6 ((f3 6) + 1)) 6 0) 5 (((upd (upd f3 6 ((f3 6) + 1)) 6 0) 5) + 1)) 5 0) 4) + 1)) 4 0) 3) + 1)) 3 0) 2) + 1)) 2 0) 1 (((upd (upd (upd (upd (upd (upd (upd (upd (upd (upd f3 6 ((f3 6) + 1)) 6 0) 5 (((upd (upd f3 6 ((f3 6) + 1)) 6 0) 5) + 1)) 5 0) 4 (((upd (upd (upd (upd f3 6 ((f3 6) + 1)) 6 0) 5 (((upd (upd f3 6 ((f3 6) + 1)) 6 0) 5) + 1)) 5 0) 4) + 1)) 4 0) 3 (((upd (upd (upd (upd (upd (upd f3 6 ((f3 6) + 1)) 6 0) 5 (((upd (upd f3 6 ((f3 6) + 1)) 6 0) 5) + 1)) 5 0) 4 (((upd (upd (upd (upd f3 6 ((f3 6) + 1)) 6 0) 5 (((upd (upd f3 6 ((f3 6) + 1)) 6 0) 5) + 1)) 5 0) 4) + 1)) 4 0) 3) + 1)) 3 0) 2 (((upd (upd (upd (upd (upd (upd (upd (upd f3 6 ((f3 6) + 1)) 6 0) 5 (((upd (upd f3 6 ((f3 6) + 1)) 6 0) 5) + 1)) 5 0) 4 (((upd (upd (upd (upd f3 6 ((f3 6) + 1)) 6 0) 5 (((upd (upd f3 6 ((f3 6) + 1)) 6 0) 5) + 1)) 5 0) 4) + 1)) 4 0) 3 (((upd (upd (upd (upd (upd (upd f3 6 ((f3 6) + 1)) 6 0) 5 (((upd (upd f3 6 ((f3 6) + 1)) 6 0) 5) + 1)) 5 0) 4 (((upd (upd (upd (upd f3 6 ((f3 6) + 1)) 6 0) 5 (((upd (upd f3 6 ((f3 6) + 1)) 6 0) 5) + 1)) 5 0) 4) + 1)) 4 0) 3) + 1)) 3 0) 2) + 1)) 2 0) 1) + 1)), zAr T 0 a4_4 n4 f4, zAr T 0 a5_5 n4 f5, zAr T 0 a6_6 n4 f6] := ⟨a1_1, a2_2, a3_3, a4_4, a5_5, a6_6, rfl⟩
              have G : zS T A s.heap s [[zO0 h md wy la pc_ a1_1 a2_2 a3_3 a4_4 a5_5 a6_6, zAr T 0 a1_1 7 f1, zAr T 0 a2_2 7 f2, zAr T 0 a3_3 7 (upd (upd (upd (upd (upd (upd (upd (upd (upd (upd (upd f3 6 ((f3 6) + 1)) 6 0) 5 (((upd (upd f3 6 ((f3 6) + 1)) 6 0) 5) + 1)) 5 0) 4 (((upd (upd (upd (upd f3 6 ((f3 6) + 1)) 6 0) 5 (((upd (upd f3 6 ((f3 6) + 1)) 6 0) 5) + 1)) 5 0) 4) + 1)) 4 0) 3 (((upd (upd (upd (upd (upd (upd f3 6 ((f3 6) + 1)) 6 0) 5 (((upd (upd f3 6 ((f3 6) + 1)) 6 0) 5) + 1)) 5 0) 4 (((upd (upd (upd (upd f3 6 ((f3 6) + 1)) 6 0) 5 (((upd (upd f3 6 ((f3 6) + 1)) 6 0) 5) + 1)) 5 0) 4) + 1)) 4 0) 3) + 1)) 3 0) 2 (((upd (upd (upd (upd (upd (upd (upd (upd f3 6 ((f3 6) + 1)) 6 0) 5 (((upd (upd f3 6 ((f3 6) + 1)) 6 0) 5) + 1)) 5 0) 4 (((upd (upd (upd (upd f3 6 ((f3 6) + 1)) 6 0) 5 (((upd (upd f3 6 ((f3 6) + 1)) 6 0) 5) + 1)) 5 0) 4) + 1)) 4 0) 3 (((upd (upd (upd (upd (upd (upd f3 6 ((f3 6) + 1)) 6 0) 5 (((upd (upd f3 6 ((f3 6) + 1)) 6 0) 5) + 1)) 5 0) 4 (((upd (upd (upd (upd f3 6 ((f3 6) + 1)) 6 0) 5 (((upd (upd f3 6 ((f3 6) + 1)) 6 0) 5) + 1)) 5 0) 4) + 1)) 4 0) 3) + 1)) 3 0) 2) + 1)) 2 0) 1 (((upd (upd (upd (upd (upd (upd (upd (upd (upd (upd f3 6 ((f3 6) + 1)) 6 0) 5 (((upd (upd f3 6 ((f3 6) + 1)) 6 0) 5) + 1)) 5 0) 4 (((upd (upd (upd (upd f3 6 ((f3 6) + 1)) 6 0) 5 (((upd (upd f3 6 ((f3 6) + 1)) 6 0) 5) + 1)) 5 0) 4) + 1)) 4 0) 3 (((upd (upd (upd (upd (upd (upd f3 6 ((f3 6) + 1)) 6 0) 5 (((upd (upd f3 6 ((f3 6) + 1)) 6 0) 5) + 1)) 5 0) 4 (((upd (upd (upd (upd f3 6 ((f3 6) + 1)) 6 0) 5 (((upd (upd f3 6 ((f3 6) + 1)) 6 0) 5) + 1)) 5 0) 4) + 1)) 4 0) 3) + 1)) 3 0) 2 (((upd (upd (upd (upd (upd (upd (upd (upd f3 6 ((f3 6) + 1)) 6 0) 5 (((upd (upd f3 6 ((f3 6) + 1)) 6 0) 5) + 1)) 5 0) 4 (((upd (upd (upd (upd f3 6 ((f3 6) + 1)) 6 0) 5 (((upd (upd f3 6 ((f3 6) + 1)) 6 0) 5) + 1)) 5 0) 4) + 1)) 4 0) 3 (((upd (upd (upd (upd (upd (upd f3 6 ((f3 6) + 1)) 6 0) 5 (((upd (upd f3 6 ((f3 6) + 1)) 6 0) 5) + 1)) 5 0) 4 (((upd (upd (upd (upd f3 6 ((f3 6) + 1)) 6 0) 5 (((upd (upd f3 6 ((f3 6) + 1)) 6 0) 5) + 1)) 5 0) 4) + 1)) 4 0) 3) + 1)) 3 0) 2) + 1)) 2 0) 1) + 1)), zAr T 0 a4_4 n4 f4, zAr T 0 a5_5 n4 f5, zAr T 0 a6_6 n4 f6]] _ _ := G.re rfl
              exact z_back hQz_ (z_vret C hr hlocks G (Nat.le_of_ble_eq_true rfl) (Nat.le_of_ble_eq_true rfl) dX0_nextRow_32 ⟨([zO0 h md wy la pc_ a1_1 a2_2 a3_3 a4_4 a5_5 a6_6, zAr T 0 a1_1 7 f1, zAr T 0 a2_2 7 f2, zAr T 0 a3_3 7 (upd (upd (upd (upd (upd (upd (upd (upd (upd (upd (upd f3 6 ((f3 6) + 1)) 6 0) 5 (((upd (upd f3 6 ((f3 6) + 1)) 6 0) 5) + 1)) 5 0) 4 (((upd (upd (upd (upd f3 6 ((f3 6) + 1)) 6 0) 5 (((upd (upd f3 6 ((f3 6) + 1)) 6 0) 5) + 1)) 5 0) 4) + 1)) 4 0) 3 (((upd (upd (upd (upd (upd (upd f3 6 ((f3 6) + 1)) 6 0) 5 (((upd (upd f3 6 ((f3 6) + 1)) 6 0) 5) + 1)) 5 0) 4 (((upd (upd (upd (upd f3 6 ((f3 6) + 1)) 6 0) 5 (((upd (upd f3 6 ((f3 6) + 1)) 6 0) 5) + 1)) 5 0) 4) + 1)) 4 0) 3) + 1)) 3 0) 2 (((upd (upd (upd (upd (upd (upd (upd (upd f3 6 ((f3 6) + 1)) 6 0) 5 (((upd (upd f3 6 ((f3 6) + 1)) 6 0) 5) + 1)) 5 0) 4 (((upd (upd (upd (upd f3 6 ((f3 6) + 1)) 6 0) 5 (((upd (upd f3 6 ((f3 6) + 1)) 6 0) 5) + 1)) 5 0) 4) + 1)) 4 0) 3 (((upd (upd (upd (upd (upd (upd f3 6 ((f3 6) + 1)) 6 0) 5 (((upd (upd f3 6 ((f3 6) + 1)) 6 0) 5) + 1)) 5 0) 4 (((upd (upd (upd (upd f3 6 ((f3 6) + 1)) 6 0) 5 (((upd (upd f3 6 ((f3 6) + 1)) 6 0) 5) + 1)) 5 0) 4) + 1)) 4 0) 3) + 1)) 3 0) 2) + 1)) 2 0) 1 (((upd (upd (upd (upd (upd (upd (upd (upd (upd (upd f3 6 ((f3 6) + 1)) 6 0) 5 (((upd (upd f3 6 ((f3 6) + 1)) 6 0) 5) + 1)) 5 0) 4 (((upd (upd (upd (upd f3 6 ((f3 6) + 1)) 6 0) 5 (((upd (upd f3 6 ((f3 6) + 1)) 6 0) 5) + 1)) 5 0) 4) + 1)) 4 0) 3 (((upd (upd (upd (upd (upd (upd f3 6 ((f3 6) + 1)) 6 0) 5 (((upd (upd f3 6 ((f3 6) + 1)) 6 0) 5) + 1)) 5 0) 4 (((upd (upd (upd (upd f3 6 ((f3 6) + 1)) 6 0) 5 (((upd (upd f3 6 ((f3 6) + 1)) 6 0) 5) + 1)) 5 0) 4) + 1)) 4 0) 3) + 1)) 3 0) 2 (((upd (upd (upd (upd (upd (upd (upd (upd f3 6 ((f3 6) + 1)) 6 0) 5 (((upd (upd f3 6 ((f3 6) + 1)) 6 0) 5) + 1)) 5 0) 4 (((upd (upd (upd (upd f3 6 ((f3 6) + 1)) 6 0) 5 (((upd (upd f3 6 ((f3 6) + 1)) 6 0) 5) + 1)) 5 0) 4) + 1)) 4 0) 3 (((upd (upd (upd (upd (upd (upd f3 6 ((f3 6) + 1)) 6 0) 5 (((upd (upd f3 6 ((f3 6) + 1)) 6 0) 5) + 1)) 5 0) 4 (((upd (upd (upd (upd f3 6 ((f3 6) + 1)) 6 0) 5 (((upd (upd f3 6 ((f3 6) + 1)) 6 0) 5) + 1)) 5 0) 4) + 1)) 4 0) 3) + 1)) 3 0) 2) + 1)) 2 0) 1) + 1)), zAr T 0 a4_4 n4 f4, zAr T 0 a5_5 n4 f5, zAr T 0 a6_6 n4 f6]), (upd (upd (upd (upd (upd (upd (upd (upd (upd (upd (upd f3 6 ((f3 6) + 1)) 6 0) 5 (((upd (upd f3 6 ((f3 6) + 1)) 6 0) 5) + 1)) 5 0) 4 (((upd (upd (upd (upd f3 6 ((f3 6) + 1)) 6 0) 5 (((upd (upd f3 6 ((f3 6) + 1)) 6 0) 5) + 1)) 5 0) 4) + 1)) 4 0) 3 (((upd (upd (upd (upd (upd (upd f3 6 ((f3 6) + 1)) 6 0) 5 (((upd (upd f3 6 ((f3 6) + 1)) 6 0) 5) + 1)) 5 0) 4 (((upd (upd (upd (upd f3 6 ((f3 6) + 1)) 6 0) 5 (((upd (upd f3 6 ((f3 6) + 1)) 6 0) 5) + 1)) 5 0) 4) + 1)) 4 0) 3) + 1)) 3 0) 2 (((upd (upd (upd (upd (upd (upd (upd (upd f3 6 ((f3 6) + 1)) 6 0) 5 (((upd (upd f3 6 ((f3 6) + 1)) 6 0) 5) + 1)) 5 0) 4 (((upd (upd (upd (upd f3 6 ((f3 6) + 1)) 6 0) 5 (((upd (upd f3 6 ((f3 6) + 1)) 6 0) 5) + 1)) 5 0) 4) + 1)) 4 0) 3 (((upd (upd (upd (upd (upd (upd f3 6 ((f3 6) + 1)) 6 0) 5 (((upd (upd f3 6 ((f3 6) + 1)) 6 0) 5) + 1)) 5 0) 4 (((upd (upd (upd (upd f3 6 ((f3 6) + 1)) 6 0) 5 (((upd (upd f3 6 ((f3 6) + 1)) 6 0) 5) + 1)) 5 0) 4) + 1)) 4 0) 3) + 1)) 3 0) 2) + 1)) 2 0) 1 (((upd (upd (upd (upd (upd (upd (upd (upd (upd (upd f3 6 ((f3 6) + 1)) 6 0) 5 (((upd (upd f3 6 ((f3 6) + 1)) 6 0) 5) + 1)) 5 0) 4 (((upd (upd (upd (upd f3 6 ((f3 6) + 1)) 6 0) 5 (((upd (upd f3 6 ((f3 6) + 1)) 6 0) 5) + 1)) 5 0) 4) + 1)) 4 0) 3 (((upd (upd (upd (upd (upd (upd f3 6 ((f3 6) + 1)) 6 0) 5 (((upd (upd f3 6 ((f3 6) + 1)) 6 0) 5) + 1)) 5 0) 4 (((upd (upd (upd (upd f3 6 ((f3 6) + 1)) 6 0) 5 (((upd (upd f3 6 ((f3 6) + 1)) 6 0) 5) + 1)) 5 0) 4) + 1)) 4 0) 3) + 1)) 3 0) 2 (((upd (upd (upd (upd (upd (upd (upd (upd f3 6 ((f3 6) + 1)) 6 0) 5 (((upd (upd f3 6 ((f3 6) + 1)) 6 0) 5) + 1)) 5 0) 4 (((upd (upd (upd (upd f3 6 ((f3 6) + 1)) 6 0) 5 (((upd (upd f3 6 ((f3 6) + 1)) 6 0) 5) + 1)) 5 0) 4) + 1)) 4 0) 3 (((upd (upd (upd (upd (upd (upd f3 6 ((f3 6) + 1)) 6 0) 5 (((upd (upd f3 6 ((f3 6) + 1)) 6 0) 5) + 1)) 5 0) 4 (((upd (upd (upd (upd f3 6 ((f3 6) + 1)) 6 0) 5 (((upd (upd f3 6 ((f3 6) + 1)) 6 0) 5) + 1)) 5 0) 4) + 1)) 4 0) 3) + 1)) 3 0) 2) + 1)) 2 0) 1) + 1)), rfl, hw_37⟩)
          · have c_26n : ¬ (f1 2).toInt ≤ (((upd (upd (upd (upd (upd (upd (upd (upd f3 6 ((f3 6) + 1)) 6 0) 5 (((upd (upd f3 6 ((f3 6) + 1)) 6 0) 5) + 1)) 5 0) 4 (((upd (upd (upd (upd f3 6 ((f3 6) + 1)) 6 0) 5 (((upd (upd f3 6 ((f3 6) + 1)) 6 0) 5) + 1)) 5 0) 4) + 1)) 4 0) 3 (((upd (upd (upd (upd (upd (upd f3 6 ((f3 6) + 1)) 6 0) 5 (((upd (upd f3 6 ((f3 6) + 1)) 6 0) 5) + 1)) 5 0) 4 (((upd (upd (upd (upd f3 6 ((f3 6) + 1)) 6 0) 5 (((upd (upd f3 6 ((f3 6) + 1)) 6 0) 5) + 1)) 5 0) 4) + 1)) 4 0) 3) + 1)) 3 0) 2) + 1).toInt := fun q => c_26 ((fa_le _ _).mpr q)
            have hw_38 : bWays T h la md wy pc_ f1 f2 (upd (upd (upd (upd (upd (upd (upd (upd (upd f3 6 ((f3 6) + 1)) 6 0) 5 (((upd (upd f3 6 ((f3 6) + 1)) 6 0) 5) + 1)) 5 0) 4 (((upd (upd (upd (upd f3 6 ((f3 6) + 1)) 6 0) 5 (((upd (upd f3 6 ((f3 6) + 1)) 6 0) 5) + 1)) 5 0) 4) + 1)) 4 0) 3 (((upd (upd (upd (upd (upd (upd f3 6 ((f3 6) + 1)) 6 0) 5 (((upd (upd f3 6 ((f3 6) + 1)) 6 0) 5) + 1)) 5 0) 4 (((upd (upd (upd (upd f3 6 ((f3 6) + 1)) 6 0) 5 (((upd (upd f3 6 ((f3 6) + 1)) 6 0) 5) + 1)) 5 0) 4) + 1)) 4 0) 3) + 1)) 3 0) 2 (((upd (upd (upd (upd (upd (upd (upd (upd f3 6 ((f3 6) + 1)) 6 0) 5 (((upd (upd f3 6 ((f3 6) + 1)) 6 0) 5) + 1)) 5 0) 4 (((upd (upd (upd (upd f3 6 ((f3 6) + 1)) 6 0) 5 (((upd (upd f3 6 ((f3 6) + 1)) 6 0) 5) + 1)) 5 0) 4) + 1)) 4 0) 3 (((upd (upd (upd (upd (upd (upd f3 6 ((f3 6) + 1)) 6 0) 5 (((upd (upd f3 6 ((f3 6) + 1)) 6 0) 5) + 1)) 5 0) 4 (((upd (upd (upd (upd f3 6 ((f3 6) + 1)) 6 0) 5 (((upd (upd f3 6 ((f3 6) + 1)) 6 0) 5) + 1)) 5 0) 4) + 1)) 4 0) 3) + 1)) 3 0) 2) + 1)) f4 f5 f6 n4 [zO0 h md wy la pc_ a1_1 a2_2 a3_3 a4_4 a5_5 a6_6, zAr T 0 a1_1 7 f1, zAr T 0 a2_2 7 f2, zAr T 0 a3_3 7 (upd (upd (upd (upd (upd (upd (upd (upd (upd f3 6 ((f3 6) + 1)) 6 0) 5 (((upd (upd f3 6 ((f3 6) + 1)) 6 0) 5) + 1)) 5 0) 4 (((upd (upd (upd (upd f3 6 ((f3 6) + 1)) 6 0) 5 (((upd (upd f3 6 ((f3 6) + 1)) 6 0) 5) + 1)) 5 0) 4) + 1)) 4 0) 3 (((upd (upd (upd (upd (upd (upd f3 6 ((f3 6) + 1)) 6 0) 5 (((upd (upd f3 6 ((f3 6) + 1)) 6 0) 5) + 1)) 5 0) 4 (((upd (upd (upd (upd f3 6 ((f3 6) + 1)) 6 0) 5 (((upd (upd f3 6 ((f3 6) + 1)) 6 0) 5) + 1)) 5 0) 4) + 1)) 4 0) 3) + 1)) 3 0) 2 (((upd (upd (upd (upd (upd (upd (upd (upd f3 6 ((f3 6) + 1)) 6 0) 5 (((upd (upd f3 6 ((f3 6) + 1)) 6 0) 5) + 1)) 5 0) 4 (((upd (upd (upd (upd f3 6 ((f3 6) + 1)) 6 0) 5 (((upd (upd f3 6 ((f3 6) + 1)) 6 0) 5) + 1)) 5 0) 4) + 1)) 4 0) 3 (((upd (upd (upd (upd (upd (upd f3 6 ((f3 6) + 1)) 6 0) 5 (((upd (upd f3 6 ((f3 6) + 1)) 6 0) 5) + 1)) 5 0) 4 (((upd (upd (upd (upd f3 6 ((f3 6) + 1)) 6 0) 5 (((upd (upd f3 6 ((f3 6) + 1)) 6 0) 5) + 1)) 5 0) 4) + 1)) 4 0) 3) + 1)) 3 0) 2) + 1)), zAr T 0 a4_4 n4 f4, zAr T 0 a5_5 n4 f5, zAr T 0 a6_6 n4 f6] := ⟨a1_1, a2_2, a3_3, a4_4, a5_5, a6_6, rfl⟩
            have G : zS T A s.heap s [[zO0 h md wy la pc_ a1_1 a2_2 a3_3 a4_4 a5_5 a6_6, zAr T 0 a1_1 7 f1, zAr T 0 a2_2 7 f2, zAr T 0 a3_3 7 (upd (upd (upd (upd (upd (upd (upd (upd (upd f3 6 ((f3 6) + 1)) 6 0) 5 (((upd (upd f3 6 ((f3 6) + 1)) 6 0) 5) + 1)) 5 0) 4 (((upd (upd (upd (upd f3 6 ((f3 6) + 1)) 6 0) 5 (((upd (upd f3 6 ((f3 6) + 1)) 6 0) 5) + 1)) 5 0) 4) + 1)) 4 0) 3 (((upd (upd (upd (upd (upd (upd f3 6 ((f3 6) + 1)) 6 0) 5 (((upd (upd f3 6 ((f3 6) + 1)) 6 0) 5) + 1)) 5 0) 4 (((upd (upd (upd (upd f3 6 ((f3 6) + 1)) 6 0) 5 (((upd (upd f3 6 ((f3 6) + 1)) 6 0) 5) + 1)) 5 0) 4) + 1)) 4 0) 3) + 1)) 3 0) 2 (((upd (upd (upd (upd (upd (upd (upd (upd f3 6 ((f3 6) + 1)) 6 0) 5 (((upd (upd f3 6 ((f3 6) + 1)) 6 0) 5) + 1)) 5 0) 4 (((upd (upd (upd (upd f3 6 ((f3 6) + 1)) 6 0) 5 (((upd (upd f3 6 ((f3 6) + 1)) 6 0) 5) + 1)) 5 0) 4) + 1)) 4 0) 3 (((upd (upd (upd (upd (upd (upd f3 6 ((f3 6) + 1)) 6 0) 5 (((upd (upd f3 6 ((f3 6) + 1)) 6 0) 5) + 1)) 5 0) 4 (((upd (upd (upd (upd f3 6 ((f3 6) + 1)) 6 0) 5 (((upd (upd f3 6 ((f3 6) + 1)) 6 0) 5) + 1)) 5 0) 4) + 1)) 4 0) 3) + 1)) 3 0) 2) + 1)), zAr T 0 a4_4 n4 f4, zAr T 0 a5_5 n4 f5, zAr T 0 a6_6 n4 f6]] _ _ := G.re rfl
            exact z_back hQz_ (z_vret C hr hlocks G (Nat.le_of_ble_eq_true rfl) (Nat.le_of_ble_eq_true rfl) dX0_nextRow_32 ⟨([zO0 h md wy la pc_ a1_1 a2_2 a3_3 a4_4 a5_5 a6_6, zAr T 0 a1_1 7 f1, zAr T 0 a2_2 7 f2, zAr T 0 a3_3 7 (upd (upd (upd (upd (upd (upd (upd (upd (upd f3 6 ((f3 6) + 1)) 6 0) 5 (((upd (upd f3 6 ((f3 6) + 1)) 6 0) 5) + 1)) 5 0) 4 (((upd (upd (upd (upd f3 6 ((f3 6) + 1)) 6 0) 5 (((upd (upd f3 6 ((f3 6) + 1)) 6 0) 5) + 1)) 5 0) 4) + 1)) 4 0) 3 (((upd (upd (upd (upd (upd (upd f3 6 ((f3 6) + 1)) 6 0) 5 (((upd (upd f3 6 ((f3 6) + 1)) 6 0) 5) + 1)) 5 0) 4 (((upd (upd (upd (upd f3 6 ((f3 6) + 1)) 6 0) 5 (((upd (upd f3 6 ((f3 6) + 1)) 6 0) 5) + 1)) 5 0) 4) + 1)) 4 0) 3) + 1)) 3 0) 2 (((upd (upd (upd (upd (upd (upd (upd (upd f3 6 ((f3 6) + 1)) 6 0) 5 (((upd (upd f3 6 ((f3 6) + 1)) 6 0) 5) + 1)) 5 0) 4 (((upd (upd (upd (upd f3 6 ((f3 6) + 1)) 6 0) 5 (((upd (upd f3 6 ((f3 6) + 1)) 6 0) 5) + 1)) 5 0) 4) + 1)) 4 0) 3 (((upd (upd (upd (upd (upd (upd f3 6 ((f3 6) + 1)) 6 0) 5 (((upd (upd f3 6 ((f3 6) + 1)) 6 0) 5) + 1)) 5 0) 4 (((upd (upd (upd (upd f3 6 ((f3 6) + 1)) 6 0) 5 (((upd (upd f3 6 ((f3 6) + 1)) 6 0) 5) + 1)) 5 0) 4) + 1)) 4 0) 3) + 1)) 3 0) 2) + 1)), zAr T 0 a4_4 n4 f4, zAr T 0 a5_5 n4 f5, zAr T 0 a6_6 n4 f6]), (upd (upd (upd (upd (upd (upd (upd (upd (upd f3 6 ((f3 6) + 1)) 6 0) 5 (((upd (upd f3 6 ((f3 6) + 1)) 6 0) 5) + 1)) 5 0) 4 (((upd (upd (upd (upd f3 6 ((f3 6) + 1)) 6 0) 5 (((upd (upd f3 6 ((f3 6) + 1)) 6 0) 5) + 1)) 5 0) 4) + 1)) 4 0) 3 (((upd (upd (upd (upd (upd (upd f3 6 ((f3 6) + 1)) 6 0) 5 (((upd (upd f3 6 ((f3 6) + 1)) 6 0) 5) + 1)) 5 0) 4 (((upd (upd (upd (upd f3 6 ((f3 6) + 1)) 6 0) 5 (((upd (upd f3 6 ((f3 6) + 1)) 6 0) 5) + 1)) 5 0) 4) + 1)) 4 0) 3) + 1)) 3 0) 2 (((upd (upd (upd (upd (upd (upd (upd (upd f3 6 ((f3 6) + 1)) 6 0) 5 (((upd (upd f3 6 ((f3 6) + 1)) 6 0) 5) + 1)) 5 0) 4 (((upd (upd (upd (upd f3 6 ((f3 6) + 1)) 6 0) 5 (((upd (upd f3 6 ((f3 6) + 1)) 6 0) 5) + 1)) 5 0) 4) + 1)) 4 0) 3 (((upd (upd (upd (upd (upd (upd f3 6 ((f3 6) + 1)) 6 0) 5 (((upd (upd f3 6 ((f3 6) + 1)) 6 0) 5) + 1)) 5 0) 4 (((upd (upd (upd (upd f3 6 ((f3 6) + 1)) 6 0) 5 (((upd (upd f3 6 ((f3 6) + 1)) 6 0) 5) + 1)) 5 0) 4) + 1)) 4 0) 3) + 1)) 3 0) 2) + 1)), rfl, hw_38⟩)
        · have c_22n : ¬ (f1 3).toInt ≤ (((upd (upd (upd (upd (upd (upd f3 6 ((f3 6) + 1)) 6 0) 5 (((upd (upd f3 6 ((f3 6) + 1)) 6 0) 5) + 1)) 5 0) 4 (((upd (upd (upd (upd f3 6 ((f3 6) + 1)) 6 0) 5 (((upd (upd f3 6 ((f3 6) + 1)) 6 0) 5) + 1)) 5 0) 4) + 1)) 4 0) 3) + 1).toInt := fun q => c_22 ((fa_le _ _).mpr q)
          have hw_39 : bWays T h la md wy pc_ f1 f2 (upd (upd (upd (upd (upd (upd (upd f3 6 ((f3 6) + 1)) 6 0) 5 (((upd (upd f3 6 ((f3 6) + 1)) 6 0) 5) + 1)) 5 0) 4 (((upd (upd (upd (upd f3 6 ((f3 6) + 1)) 6 0) 5 (((upd (upd f3 6 ((f3 6) + 1)) 6 0) 5) + 1)) 5 0) 4) + 1)) 4 0) 3 (((upd (upd (upd (upd (upd (upd f3 6 ((f3 6) + 1)) 6 0) 5 (((upd (upd f3 6 ((f3 6) + 1)) 6 0) 5) + 1)) 5 0) 4 (((upd (upd (upd (upd f3 6 ((f3 6) + 1)) 6 0) 5 (((upd (upd f3 6 ((f3 6) + 1)) 6 0) 5) + 1)) 5 0) 4) + 1)) 4 0) 3) + 1)) f4 f5 f6 n4 [zO0 h md wy la pc_ a1_1 a2_2 a3_3 a4_4 a5_5 a6_6, zAr T 0 a1_1 7 f1, zAr T 0 a2_2 7 f2, zAr T 0 a3_3 7 (upd (upd (upd (upd (upd (upd (upd f3 6 ((f3 6) + 1)) 6 0) 5 (((upd (upd f3 6 ((f3 6) + 1)) 6 0) 5) + 1)) 5 0) 4 (((upd (upd (upd (upd f3 6 ((f3 6) + 1)) 6 0) 5 (((upd (upd f3 6 ((f3 6) + 1)) 6 0) 5) + 1)) 5 0) 4) + 1)) 4 0) 3 (((upd (upd (upd (upd (upd (upd f3 6 ((f3 6) + 1)) 6 0) 5 (((upd (upd f3 6 ((f3 6) + 1)) 6 0) 5) + 1)) 5 0) 4 (((upd (upd (upd (upd f3 6 ((f3 6) + 1)) 6 0) 5 (((upd (upd f3 6 ((f3 6) + 1)) 6 0) 5) + 1)) 5 0) 4) + 1)) 4 0) 3) + 1)), zAr T 0 a4_4 n4 f4, zAr T 0 a5_5 n4 f5, zAr T 0 a6_6 n4 f6] := ⟨a1_1, a2_2, a3_3, a4_4, a5_5, a6_6, rfl⟩
          have G : zS T A s.heap s [[zO0 h md wy la pc_ a1_1 a2_2 a3_3 a4_4 a5_5 a6_6, zAr T 0 a1_1 7 f1, zAr T 0 a2_2 7 f2, zAr T 0 a3_3 7 (upd (upd (upd (upd (upd (upd (upd f3 6 ((f3 6) + 1)) 6 0) 5 (((upd (upd f3 6 ((f3 6) + 1)) 6 0) 5) + 1)) 5 0) 4 (((upd (upd (upd (upd f3 6 ((f3 6) + 1)) 6 0) 5 (((upd (upd f3 6 ((f3 6) + 1)) 6 0) 5) + 1)) 5 0) 4) + 1)) 4 0) 3 (((upd (upd (upd (upd (upd (upd f3 6 ((f3 6) + 1)) 6 0) 5 (((upd (upd f3 6 ((f3 6) + 1)) 6 0) 5) + 1)) 5 0) 4 (((upd (upd (upd (upd f3 6 ((f3 6) + 1)) 6 0) 5 (((upd (upd f3 6 ((f3 6) + 1)) 6 0) 5) + 1)) 5 0) 4) + 1)) 4 0) 3) + 1)), zAr T 0 a4_4 n4 f4, zAr T 0 a5_5 n4 f5, zAr T 0 a6_6 n4 f6]] _ _ := G.re rfl
          exact z_back hQz_ (z_vret C hr hlocks G (Nat.le_of_ble_eq_true rfl) (Nat.le_of_ble_eq_true rfl) dX0_nextRow_32 ⟨([zO0 h md wy la pc_ a1_1 a2_2 a3_3 a4_4 a5_5 a6_6, zAr T 0 a1_1 7 f1, zAr T 0 a2_2 7 f2, zAr T 0 a3_3 7 (upd (upd (upd (upd (upd (upd (upd f3 6 ((f3 6) + 1)) 6 0) 5 (((upd (upd f3 6 ((f3 6) + 1)) 6 0) 5) + 1)) 5 0) 4 (((upd (upd (upd (upd f3 6 ((f3 6) + 1)) 6 0) 5 (((upd (upd f3 6 ((f3 6) + 1)) 6 0) 5) + 1)) 5 0) 4) + 1)) 4 0) 3 (((upd (upd (upd (upd (upd (upd f3 6 ((f3 6) + 1)) 6 0) 5 (((upd (upd f3 6 ((f3 6) + 1)) 6 0) 5) + 1)) 5 0) 4 (((upd (upd (upd (upd f3 6 ((f3 6) + 1)) 6 0) 5 (((upd (upd f3 6 ((f3 6) + 1)) 6 0) 5) + 1)) 5 0) 4) + 1)) 4 0) 3) + 1)), zAr T 0 a4_4 n4 f4, zAr T 0 a5_5 n4 f5, zAr T 0 a6_6 n4 f6]), (upd (upd (upd (upd (upd (upd (upd f3 6 ((f3 6) + 1)) 6 0) 5 (((upd (upd f3 6 ((f3 6) + 1)) 6 0) 5) + 1)) 5 0) 4 (((upd (upd (upd (upd f3 6 ((f3 6) + 1)) 6 0) 5 (((upd (upd f3 6 ((f3 6) + 1)) 6 0) 5) + 1)) 5 0) 4) + 1)) 4 0) 3 (((upd (upd (upd (upd (upd (upd f3 6 ((f3 6) + 1)) 6 0) 5 (((upd (upd f3 6 ((f3 6) + 1)) 6 0) 5) + 1)) 5 0) 4 (((upd (upd (upd (upd f3 6 ((f3 6) + 1)) 6 0) 5 (((upd (upd f3 6 ((f3 6) + 1)) 6 0) 5) + 1)) 5 0) 4) + 1)) 4 0) 3) + 1)), rfl, hw_39⟩)
      · have c_18n : ¬ (f1 4).toInt ≤ (((upd (upd (upd (upd f3 6 ((f3 6) + 1)) 6 0) 5 (((upd (upd f3 6 ((f3 6) + 1)) 6 0) 5) + 1)) 5 0) 4) + 1).toInt := fun q => c_18 ((fa_le _ _).mpr q)
        have hw_40 : bWays T h la md wy pc_ f1 f2 (upd (upd (upd (upd (upd f3 6 ((f3 6) + 1)) 6 0) 5 (((upd (upd f3 6 ((f3 6) + 1)) 6 0) 5) + 1)) 5 0) 4 (((upd (upd (upd (upd f3 6 ((f3 6) + 1)) 6 0) 5 (((upd (upd f3 6 ((f3 6) + 1)) 6 0) 5) + 1)) 5 0) 4) + 1)) f4 f5 f6 n4 [zO0 h md wy la pc_ a1_1 a2_2 a3_3 a4_4 a5_5 a6_6, zAr T 0 a1_1 7 f1, zAr T 0 a2_2 7 f2, zAr T 0 a3_3 7 (upd (upd (upd (upd (upd f3 6 ((f3 6) + 1)) 6 0) 5 (((upd (upd f3 6 ((f3 6) + 1)) 6 0) 5) + 1)) 5 0) 4 (((upd (upd (upd (upd f3 6 ((f3 6) + 1)) 6 0) 5 (((upd (upd f3 6 ((f3 6) + 1)) 6 0) 5) + 1)) 5 0) 4) + 1)), zAr T 0 a4_4 n4 f4, zAr T 0 a5_5 n4 f5, zAr T 0 a6_6 n4 f6] := ⟨a1_1, a2_2, a3_3, a4_4, a5_5, a6_6, rfl⟩
        have G : zS T A s.heap s [[zO0 h md wy la pc_ a1_1 a2_2 a3_3 a4_4 a5_5 a6_6, zAr T 0 a1_1 7 f1, zAr T 0 a2_2 7 f2, zAr T 0 a3_3 7 (upd (upd (upd (upd (upd f3 6 ((f3 6) + 1)) 6 0) 5 (((upd (upd f3 6 ((f3 6) + 1)) 6 0) 5) + 1)) 5 0) 4 (((upd (upd (upd (upd f3 6 ((f3 6) + 1)) 6 0) 5 (((upd (upd f3 6 ((f3 6) + 1)) 6 0) 5) + 1)) 5 0) 4) + 1)), zAr T 0 a4_4 n4 f4, zAr T 0 a5_5 n4 f5, zAr T 0 a6_6 n4 f6]] _ _ := G.re rfl
        exact z_back hQz_ (z_vret C hr hlocks G (Nat.le_of_ble_eq_true rfl) (Nat.le_of_ble_eq_true rfl) dX0_nextRow_32 ⟨([zO0 h md wy la pc_ a1_1 a2_2 a3_3 a4_4 a5_5 a6_6, zAr T 0 a1_1 7 f1, zAr T 0 a2_2 7 f2, zAr T 0 a3_3 7 (upd (upd (upd (upd (upd f3 6 ((f3 6) + 1)) 6 0) 5 (((upd (upd f3 6 ((f3 6) + 1)) 6 0) 5) + 1)) 5 0) 4 (((upd (upd (upd (upd f3 6 ((f3 6) + 1)) 6 0) 5 (((upd (upd f3 6 ((f3 6) + 1)) 6 0) 5) + 1)) 5 0) 4) + 1)), zAr T 0 a4_4 n4 f4, zAr T 0 a5_5 n4 f5, zAr T 0 a6_6 n4 f6]), (upd (upd (upd (upd (upd f3 6 ((f3 6) + 1)) 6 0) 5 (((upd (upd f3 6 ((f3 6) + 1)) 6 0) 5) + 1)) 5 0) 4 (((upd (upd (upd (upd f3 6 ((f3 6) + 1)) 6 0) 5 (((upd (upd f3 6 ((f3 6) + 1)) 6 0) 5) + 1)) 5 0) 4) + 1)), rfl, hw_40⟩)
    · have c_14n : ¬ (f1 5).toInt ≤ (((upd (upd f3 6 ((f3 6) + 1)) 6 0) 5) + 1).toInt := fun q => c_14 ((fa_le _ _).mpr q)
      have hw_41 : bWays T h la md wy pc_ f1 f2 (upd (upd (upd f3 6 ((f3 6) + 1)) 6 0) 5 (((upd (upd f3 6 ((f3 6) + 1)) 6 0) 5) + 1)) f4 f5 f6 n4 [zO0 h md wy la pc_ a1_1 a2_2 a3_3 a4_4 a5_5 a6_6, zAr T 0 a1_1 7 f1, zAr T 0 a2_2 7 f2, zAr T 0 a3_3 7 (upd (upd (upd f3 6 ((f3 6) + 1)) 6 0) 5 (((upd (upd f3 6 ((f3 6) + 1)) 6 0) 5) + 1)), zAr T 0 a4_4 n4 f4, zAr T 0 a5_5 n4 f5, zAr T 0 a6_6 n4 f6] := ⟨a1_1, a2_2, a3_3, a4_4, a5_5, a6_6, rfl⟩
      have G : zS T A s.heap s [[zO0 h md wy la pc_ a1_1 a2_2 a3_3 a4_4 a5_5 a6_6, zAr T 0 a1_1 7 f1, zAr T 0 a2_2 7 f2, zAr T 0 a3_3 7 (upd (upd (upd f3 6 ((f3 6) + 1)) 6 0) 5 (((upd (upd f3 6 ((f3 6) + 1)) 6 0) 5) + 1)), zAr T 0 a4_4 n4 f4, zAr T 0 a5_5 n4 f5, zAr T 0 a6_6 n4 f6]] _ _ := G.re rfl
      exact z_back hQz_ (z_vret C hr hlocks G (Nat.le_of_ble_eq_true rfl) (Nat.le_of_ble_eq_true rfl) dX0_nextRow_32 ⟨([zO0 h md wy la pc_ a1_1 a2_2 a3_3 a4_4 a5_5 a6_6, zAr T 0 a1_1 7 f1, zAr T 0 a2_2 7 f2, zAr T 0 a3_3 7 (upd (upd (upd f3 6 ((f3 6) + 1)) 6 0) 5 (((upd (upd f3 6 ((f3 6) + 1)) 6 0) 5) + 1)), zAr T 0 a4_4 n4 f4, zAr T 0 a5_5 n4 f5, zAr T 0 a6_6 n4 f6]), (upd (upd (upd f3 6 ((f3 6) + 1)) 6 0) 5 (((upd (upd f3 6 ((f3 6) + 1)) 6 0) 5) + 1)), rfl, hw_41⟩)
  · have c_10n : ¬ (f1 6).toInt ≤ ((f3 6) + 1).toInt := fun q => c_10 ((fa_le _ _).mpr q)
    have hw_42 : bWays T h la md wy pc_ f1 f2 (upd f3 6 ((f3 6) + 1)) f4 f5 f6 n4 [zO0 h md wy la pc_ a1_1 a2_2 a3_3 a4_4 a5_5 a6_6, zAr T 0 a1_1 7 f1, zAr T 0 a2_2 7 f2, zAr T 0 a3_3 7 (upd f3 6 ((f3 6) + 1)), zAr T 0 a4_4 n4 f4, zAr T 0 a5_5 n4 f5, zAr T 0 a6_6 n4 f6] := ⟨a1_1, a2_2, a3_3, a4_4, a5_5, a6_6, rfl⟩
    have G : zS T A s.heap s [[zO0 h md wy la pc_ a1_1 a2_2 a3_3 a4_4 a5_5 a6_6, zAr T 0 a1_1 7 f1, zAr T 0 a2_2 7 f2, zAr T 0 a3_3 7 (upd f3 6 ((f3 6) + 1)), zAr T 0 a4_4 n4 f4, zAr T 0 a5_5 n4 f5, zAr T 0 a6_6 n4 f6]] _ _ := G.re rfl
    exact z_back hQz_ (z_vret C hr hlocks G (Nat.le_of_ble_eq_true rfl) (Nat.le_of_ble_eq_true rfl) dX0_nextRow_32 ⟨([zO0 h md wy la pc_ a1_1 a2_2 a3_3 a4_4 a5_5 a6_6, zAr T 0 a1_1 7 f1, zAr T 0 a2_2 7 f2, zAr T 0 a3_3 7 (upd f3 6 ((f3 6) + 1)), zAr T 0 a4_4 n4 f4, zAr T 0 a5_5 n4 f5, zAr T 0 a6_6 n4 f6]), (upd f3 6 ((f3 6) + 1)), rfl, hw_42⟩)
set_option maxHeartbeats 4000000 in
set_option maxRecDepth 100000 in
/-- treesOf -/
theorem c_treesOf (l : Launch) (T : zTy) (h : Nat) (la : Nat) (md : Int32) (wy : Int32) (pc_ : Int32) (f1 : Nat → Int32) (f2 : Nat → Int32) (f3 : Nat → Int32) (f4 : Nat → Int32) (f5 : Nat → Int32) (f6 : Nat → Int32) (n4 : Nat) (ww : va_W) (o : Nat) (cr : Int32) (inn : Int32) (k1 : Nat → Int32) (k2 : Nat → Int32) (k3 : Nat → Int32) (k4 : Nat → Int32) (z : va_W) (hww : bWays T h la md wy pc_ f1 f2 f3 f4 f5 f6 n4 ww) (hz : bLand T o cr inn k1 k2 k3 k4 z) (hI : zLI cr k1 k3) : zMi l T yX0_treesOf cX0_treesOf 4 (some .int) 5 0 0 [.ref h, .ref o] [ww, z] (fun (r : Int32) bs => ∃ (w2 : va_W) (g1 : Nat → Int32) (g2 : Nat → Int32) (g3 : Nat → Int32), bs = [w2, z] ∧ bWays T h o md (zWy cr inn k1) (zPl cr inn k1) g1 g2 g3 f4 f5 f6 n4 w2) := by
  refine zMi_of (own := RX0) (by decide) rfl (Nat.le_of_ble_eq_true rfl) ?_
  intro p e s m args below meth c A ls C hr hlocks hnm hAe G hl
  refine zHide (fun Qz_ hQz_ => ?_)
  have hx := C.1
  have hb := C.2.1
  have hl : lv_has ls 4 [(0, .ref h), (1, .ref o)] := hl
  refine lv_aload_n hx hb dX0_treesOf_0 rfl (lv_at hl 0 rfl) ?_
  refine lv_aload_n hx hb dX0_treesOf_1 rfl (lv_at hl 1 rfl) ?_
  refine z_Vv (bc := [ww, z]) (br := []) (As := [.ref o]) (rest := []) C G (c_countWays l T h la md wy pc_ f1 f2 f3 f4 f5 f6 n4 ww o cr inn k1 k2 k3 k4 z hww hz) (kV_RX0_41 C.2.2.2.2 (Nat.le_of_ble_eq_true rfl) (Nat.le_of_ble_eq_true rfl)) [0, 1] [0, 0] rfl rfl (ci := 0) (qc := (RX0, TX0, 10)) rfl rfl (List.mem_flatten.mpr ⟨_, List.mem_of_getElem? (i := 0) rfl, (bWays_mem hww).choose_spec⟩) rfl rfl hl.1 dX0_treesOf_2 (Nat.le_of_ble_eq_true rfl) (Nat.le_of_ble_eq_true rfl) (fun b1 H locs hw G => ?_)
  refine zEx3 hw ?_
  intro w2_1 g1_2 g2_3
  refine zCu2 ?_
  intro hbs9 h_4
  clear hw
  subst hbs9
  have G : zS T A s.heap s [w2_1, z] _ _ := G
  have hwl := Int32.toInt_lt (zWy cr inn k1)
  refine lv_iconst (v := 0) hx hb dX0_treesOf_5 (by decide) ?_
  refine lv_istore_n (lv' := [(2, .int 0), (0, .ref h), (1, .ref o)]) hx hb dX0_treesOf_6 rfl hl (by decide) (zLvf_h rfl) (fun ls hl => ?_)
  refine lv_iconst (v := 0) hx hb dX0_treesOf_7 (by decide) ?_
  refine lv_istore_n (lv' := [(3, .int 0), (2, .int 0), (0, .ref h), (1, .ref o)]) hx hb dX0_treesOf_8 rfl hl (by decide) (zLvf_h rfl) (fun ls hl => ?_)
  refine zEx6 h_4 ?_
  intro a1_6 a2_7 a3_8 a4_9 a5_10 a6_11 hbs9
  clear h_4
  subst hbs9
  have G : zS T A s.heap s [[zO0 h md (zWy cr inn k1) o (zPl cr inn k1) a1_6 a2_7 a3_8 a4_9 a5_10 a6_11], [zAr T 0 a1_6 7 g1_2], [zAr T 0 a2_7 7 g2_3], [zAr T 0 a3_8 7 f3], [zAr T 0 a4_9 n4 f4], [zAr T 0 a5_10 n4 f5], [zAr T 0 a6_11 n4 f6], z] _ _ := G.re rfl
  have hw_12 : bWays T h o md (zWy cr inn k1) (zPl cr inn k1) g1_2 g2_3 f3 f4 f5 f6 n4 [zO0 h md (zWy cr inn k1) o (zPl cr inn k1) a1_6 a2_7 a3_8 a4_9 a5_10 a6_11, zAr T 0 a1_6 7 g1_2, zAr T 0 a2_7 7 g2_3, zAr T 0 a3_8 7 f3, zAr T 0 a4_9 n4 f4, zAr T 0 a5_10 n4 f5, zAr T 0 a6_11 n4 f6] := ⟨a1_6, a2_7, a3_8, a4_9, a5_10, a6_11, rfl⟩
  have G : zS T A s.heap s [[zO0 h md (zWy cr inn k1) o (zPl cr inn k1) a1_6 a2_7 a3_8 a4_9 a5_10 a6_11, zAr T 0 a1_6 7 g1_2, zAr T 0 a2_7 7 g2_3, zAr T 0 a3_8 7 f3, zAr T 0 a4_9 n4 f4, zAr T 0 a5_10 n4 f5, zAr T 0 a6_11 n4 f6], z] _ _ := G.re rfl
  refine z_lp3 (T := T) 9 (fun (i : Nat) (wt : va_W) (x3 : Nat → Int32) => [wt, z]) (fun (i : Nat) (wt : va_W) (x3 : Nat → Int32) => [(3, .int (nI i)), (2, .int 0), (0, .ref h), (1, .ref o)]) (fun (i : Nat) (wt : va_W) (x3 : Nat → Int32) => bWays T h o md (zWy cr inn k1) (zPl cr inn k1) g1_2 g2_3 x3 f4 f5 f6 n4 wt ∧ i ≤ 7) (fun (i : Nat) (wt : va_W) (x3 : Nat → Int32) => 7 - i) ?_ 0 ([zO0 h md (zWy cr inn k1) o (zPl cr inn k1) a1_6 a2_7 a3_8 a4_9 a5_10 a6_11, zAr T 0 a1_6 7 g1_2, zAr T 0 a2_7 7 g2_3, zAr T 0 a3_8 7 f3, zAr T 0 a4_9 n4 f4, zAr T 0 a5_10 n4 f5, zAr T 0 a6_11 n4 f6]) f3 (show bWays T h o md (zWy cr inn k1) (zPl cr inn k1) g1_2 g2_3 f3 f4 f5 f6 n4 ([zO0 h md (zWy cr inn k1) o (zPl cr inn k1) a1_6 a2_7 a3_8 a4_9 a5_10 a6_11, zAr T 0 a1_6 7 g1_2, zAr T 0 a2_7 7 g2_3, zAr T 0 a3_8 7 f3, zAr T 0 a4_9 n4 f4, zAr T 0 a5_10 n4 f5, zAr T 0 a6_11 n4 f6]) ∧ 0 ≤ 7 from ⟨hw_12, by omega⟩) G (lv_sub hl [0, 1, 2, 3] rfl)
  intro i wt x3 hI9 ih_9 H locs ls G hl
  replace hI9 : bWays T h o md (zWy cr inn k1) (zPl cr inn k1) g1_2 g2_3 x3 f4 f5 f6 n4 wt ∧ i ≤ 7 := hI9
  refine zAn2 hI9 ?_
  intro hwt hi
  clear hI9
  replace G : zS T A s.heap s [wt, z] _ _ := G
  replace hl : lv_has ls 4 [(3, .int (nI i)), (2, .int 0), (0, .ref h), (1, .ref o)] := hl
  refine lv_iload_n hx hb dX0_treesOf_9 rfl (lv_at hl 0 rfl) ?_
  refine lv_bipush (v := 7) hx hb dX0_treesOf_10 (by decide) ?_
  refine lv_icmp_ge (tgt := 28) hx hb dX0_treesOf_12 (by decide) (fun c_13 => ?_) (fun c_13 => ?_)
  · have c_13n : 7 ≤ i := (nI_leI (a := 7) (b := i) (by omega) (by omega)).mp c_13
    refine lv_iconst (v := 0) hx hb dX0_treesOf_28 (by decide) ?_
    refine lv_istore_n (lv' := [(3, .int 0), (2, .int 0), (0, .ref h), (1, .ref o)]) hx hb dX0_treesOf_29 rfl hl (by decide) (zLvf_h rfl) (fun ls hl => ?_)
    refine zEx6 hwt ?_
    intro a1_14 a2_15 a3_16 a4_17 a5_18 a6_19 hbs9
    clear hwt
    subst hbs9
    have G : zS T A s.heap s [[zO0 h md (zWy cr inn k1) o (zPl cr inn k1) a1_14 a2_15 a3_16 a4_17 a5_18 a6_19], [zAr T 0 a1_14 7 g1_2], [zAr T 0 a2_15 7 g2_3], [zAr T 0 a3_16 7 x3], [zAr T 0 a4_17 n4 f4], [zAr T 0 a5_18 n4 f5], [zAr T 0 a6_19 n4 f6], z] _ _ := G.re rfl
    have hw_20 : bWays T h o md (zWy cr inn k1) (zPl cr inn k1) g1_2 g2_3 x3 f4 f5 f6 n4 [zO0 h md (zWy cr inn k1) o (zPl cr inn k1) a1_14 a2_15 a3_16 a4_17 a5_18 a6_19, zAr T 0 a1_14 7 g1_2, zAr T 0 a2_15 7 g2_3, zAr T 0 a3_16 7 x3, zAr T 0 a4_17 n4 f4, zAr T 0 a5_18 n4 f5, zAr T 0 a6_19 n4 f6] := ⟨a1_14, a2_15, a3_16, a4_17, a5_18, a6_19, rfl⟩
    have G : zS T A s.heap s [[zO0 h md (zWy cr inn k1) o (zPl cr inn k1) a1_14 a2_15 a3_16 a4_17 a5_18 a6_19, zAr T 0 a1_14 7 g1_2, zAr T 0 a2_15 7 g2_3, zAr T 0 a3_16 7 x3, zAr T 0 a4_17 n4 f4, zAr T 0 a5_18 n4 f5, zAr T 0 a6_19 n4 f6], z] _ _ := G.re rfl
    refine z_lp4 (T := T) 30 (fun (j : Nat) (u : Int32) (wu : va_W) (y3 : Nat → Int32) => [wu, z]) (fun (j : Nat) (u : Int32) (wu : va_W) (y3 : Nat → Int32) => [(3, .int (nI j)), (2, .int u), (0, .ref h), (1, .ref o)]) (fun (j : Nat) (u : Int32) (wu : va_W) (y3 : Nat → Int32) => bWays T h o md (zWy cr inn k1) (zPl cr inn k1) g1_2 g2_3 y3 f4 f5 f6 n4 wu ∧ j ≤ (zWy cr inn k1).toInt.toNat) (fun (j : Nat) (u : Int32) (wu : va_W) (y3 : Nat → Int32) => (zWy cr inn k1).toInt.toNat - j) ?_ 0 0 ([zO0 h md (zWy cr inn k1) o (zPl cr inn k1) a1_14 a2_15 a3_16 a4_17 a5_18 a6_19, zAr T 0 a1_14 7 g1_2, zAr T 0 a2_15 7 g2_3, zAr T 0 a3_16 7 x3, zAr T 0 a4_17 n4 f4, zAr T 0 a5_18 n4 f5, zAr T 0 a6_19 n4 f6]) x3 (show bWays T h o md (zWy cr inn k1) (zPl cr inn k1) g1_2 g2_3 x3 f4 f5 f6 n4 ([zO0 h md (zWy cr inn k1) o (zPl cr inn k1) a1_14 a2_15 a3_16 a4_17 a5_18 a6_19, zAr T 0 a1_14 7 g1_2, zAr T 0 a2_15 7 g2_3, zAr T 0 a3_16 7 x3, zAr T 0 a4_17 n4 f4, zAr T 0 a5_18 n4 f5, zAr T 0 a6_19 n4 f6]) ∧ 0 ≤ (zWy cr inn k1).toInt.toNat from ⟨hw_20, by omega⟩) G (lv_sub hl [0, 1, 2, 3] rfl)
    intro j u wu y3 hI9 ih_30 H locs ls G hl
    replace hI9 : bWays T h o md (zWy cr inn k1) (zPl cr inn k1) g1_2 g2_3 y3 f4 f5 f6 n4 wu ∧ j ≤ (zWy cr inn k1).toInt.toNat := hI9
    refine zAn2 hI9 ?_
    intro hwu hj
    clear hI9
    replace G : zS T A s.heap s [wu, z] _ _ := G
    replace hl : lv_has ls 4 [(3, .int (nI j)), (2, .int u), (0, .ref h), (1, .ref o)] := hl
    refine lv_iload_n hx hb dX0_treesOf_30 rfl (lv_at hl 0 rfl) ?_
    refine lv_aload_n hx hb dX0_treesOf_31 rfl (lv_at hl 2 rfl) ?_
    refine zEx6 hwu ?_
    intro a1_21 a2_22 a3_23 a4_24 a5_25 a6_26 hbs9
    clear hwu
    subst hbs9
    have G : zS T A s.heap s [[zO0 h md (zWy cr inn k1) o (zPl cr inn k1) a1_21 a2_22 a3_23 a4_24 a5_25 a6_26], [zAr T 0 a1_21 7 g1_2], [zAr T 0 a2_22 7 g2_3], [zAr T 0 a3_23 7 y3], [zAr T 0 a4_24 n4 f4], [zAr T 0 a5_25 n4 f5], [zAr T 0 a6_26 n4 f6], z] _ _ := G.re rfl
    refine z_get C G clX0 0 rfl 1 (by decide) m_fl_RX0_57 rfl dX0_treesOf_32 ?_
    refine lv_icmp_ge (tgt := 58) hx hb dX0_treesOf_35 (by decide) (fun c_27 => ?_) (fun c_27 => ?_)
    · have c_27n : (zWy cr inn k1).toInt ≤ (j : Int) := by have q := (fa_le _ _).mp c_27; rw [nI_toInt (n := j) (by omega)] at q; exact q
      refine lv_iload_n hx hb dX0_treesOf_58 rfl (lv_at hl 1 rfl) ?_
      have hw_28 : bWays T h o md (zWy cr inn k1) (zPl cr inn k1) g1_2 g2_3 y3 f4 f5 f6 n4 [zO0 h md (zWy cr inn k1) o (zPl cr inn k1) a1_21 a2_22 a3_23 a4_24 a5_25 a6_26, zAr T 0 a1_21 7 g1_2, zAr T 0 a2_22 7 g2_3, zAr T 0 a3_23 7 y3, zAr T 0 a4_24 n4 f4, zAr T 0 a5_25 n4 f5, zAr T 0 a6_26 n4 f6] := ⟨a1_21, a2_22, a3_23, a4_24, a5_25, a6_26, rfl⟩
      have G : zS T A s.heap s [[zO0 h md (zWy cr inn k1) o (zPl cr inn k1) a1_21 a2_22 a3_23 a4_24 a5_25 a6_26, zAr T 0 a1_21 7 g1_2, zAr T 0 a2_22 7 g2_3, zAr T 0 a3_23 7 y3, zAr T 0 a4_24 n4 f4, zAr T 0 a5_25 n4 f5, zAr T 0 a6_26 n4 f6], z] _ _ := G.re rfl
      exact z_back hQz_ (z_iret C hr hlocks G (Nat.le_of_ble_eq_true rfl) (Nat.le_of_ble_eq_true rfl) dX0_treesOf_59 ⟨([zO0 h md (zWy cr inn k1) o (zPl cr inn k1) a1_21 a2_22 a3_23 a4_24 a5_25 a6_26, zAr T 0 a1_21 7 g1_2, zAr T 0 a2_22 7 g2_3, zAr T 0 a3_23 7 y3, zAr T 0 a4_24 n4 f4, zAr T 0 a5_25 n4 f5, zAr T 0 a6_26 n4 f6]), g1_2, g2_3, y3, rfl, hw_28⟩)
    · have c_27n : ¬ (zWy cr inn k1).toInt ≤ (j : Int) := fun q => c_27 ((fa_le _ _).mpr (by rw [nI_toInt (n := j) (by omega)]; exact q))
      refine lv_aload_n hx hb dX0_treesOf_38 rfl (lv_at hl 2 rfl) ?_
      have hw_29 : bWays T h o md (zWy cr inn k1) (zPl cr inn k1) g1_2 g2_3 y3 f4 f5 f6 n4 [zO0 h md (zWy cr inn k1) o (zPl cr inn k1) a1_21 a2_22 a3_23 a4_24 a5_25 a6_26, zAr T 0 a1_21 7 g1_2, zAr T 0 a2_22 7 g2_3, zAr T 0 a3_23 7 y3, zAr T 0 a4_24 n4 f4, zAr T 0 a5_25 n4 f5, zAr T 0 a6_26 n4 f6] := ⟨a1_21, a2_22, a3_23, a4_24, a5_25, a6_26, rfl⟩
      have G : zS T A s.heap s [[zO0 h md (zWy cr inn k1) o (zPl cr inn k1) a1_21 a2_22 a3_23 a4_24 a5_25 a6_26, zAr T 0 a1_21 7 g1_2, zAr T 0 a2_22 7 g2_3, zAr T 0 a3_23 7 y3, zAr T 0 a4_24 n4 f4, zAr T 0 a5_25 n4 f5, zAr T 0 a6_26 n4 f6], z] _ _ := G.re rfl
      refine z_Vi (bc := [[zO0 h md (zWy cr inn k1) o (zPl cr inn k1) a1_21 a2_22 a3_23 a4_24 a5_25 a6_26, zAr T 0 a1_21 7 g1_2, zAr T 0 a2_22 7 g2_3, zAr T 0 a3_23 7 y3, zAr T 0 a4_24 n4 f4, zAr T 0 a5_25 n4 f5, zAr T 0 a6_26 n4 f6], z]) (br := []) (As := []) (rest := []) C G (c_allComeByRow l T h o md (zWy cr inn k1) (zPl cr inn k1) g1_2 g2_3 y3 f4 f5 f6 n4 ([zO0 h md (zWy cr inn k1) o (zPl cr inn k1) a1_21 a2_22 a3_23 a4_24 a5_25 a6_26, zAr T 0 a1_21 7 g1_2, zAr T 0 a2_22 7 g2_3, zAr T 0 a3_23 7 y3, zAr T 0 a4_24 n4 f4, zAr T 0 a5_25 n4 f5, zAr T 0 a6_26 n4 f6]) cr inn k1 k2 k3 k4 z hw_29 hz (by first | with_reducible assumption | with_reducible rfl | omega | assumption | rfl)) (kV_RX0_122 C.2.2.2.2 (Nat.le_of_ble_eq_true rfl) (Nat.le_of_ble_eq_true rfl)) [0, 1] [0, 0] rfl rfl (ci := 0) (qc := (RX0, TX0, 10)) rfl rfl (List.mem_flatten.mpr ⟨_, List.mem_of_getElem? (i := 0) rfl, (bWays_mem hw_29).choose_spec⟩) rfl rfl hl.1 dX0_treesOf_39 (Nat.le_of_ble_eq_true rfl) (Nat.le_of_ble_eq_true rfl) (fun r_31 b1 H locs hw G => ?_)
      refine zAn2 hw ?_
      intro hbs9 h_30
      clear hw
      subst hbs9
      have G : zS T A s.heap s [[zO0 h md (zWy cr inn k1) o (zPl cr inn k1) a1_21 a2_22 a3_23 a4_24 a5_25 a6_26, zAr T 0 a1_21 7 g1_2, zAr T 0 a2_22 7 g2_3, zAr T 0 a3_23 7 y3, zAr T 0 a4_24 n4 f4, zAr T 0 a5_25 n4 f5, zAr T 0 a6_26 n4 f6], z] _ _ := G
      replace h_30 : zHd ((r_31 = 0 ∨ r_31 = 1)) := h_30
      refine lv_if_eq (tgt := 48) hx hb dX0_treesOf_42 (by decide) (fun c_32 => ?_) (fun c_32 => ?_)
      · have c_32n : r_31.toInt = (0 : Int) := (fa_eq _ _).mp c_32
        refine lv_aload_n hx hb dX0_treesOf_48 rfl (lv_at hl 2 rfl) ?_
        refine z_Vv (bc := [[zO0 h md (zWy cr inn k1) o (zPl cr inn k1) a1_21 a2_22 a3_23 a4_24 a5_25 a6_26, zAr T 0 a1_21 7 g1_2, zAr T 0 a2_22 7 g2_3, zAr T 0 a3_23 7 y3, zAr T 0 a4_24 n4 f4, zAr T 0 a5_25 n4 f5, zAr T 0 a6_26 n4 f6]]) (br := [z]) (As := []) (rest := []) C G (c_nextRow l T h o md (zWy cr inn k1) (zPl cr inn k1) g1_2 g2_3 y3 f4 f5 f6 n4 ([zO0 h md (zWy cr inn k1) o (zPl cr inn k1) a1_21 a2_22 a3_23 a4_24 a5_25 a6_26, zAr T 0 a1_21 7 g1_2, zAr T 0 a2_22 7 g2_3, zAr T 0 a3_23 7 y3, zAr T 0 a4_24 n4 f4, zAr T 0 a5_25 n4 f5, zAr T 0 a6_26 n4 f6]) hw_29) (kV_RX0_126 C.2.2.2.2 (Nat.le_of_ble_eq_true rfl) (Nat.le_of_ble_eq_true rfl)) [0] [0] rfl rfl (ci := 0) (qc := (RX0, TX0, 10)) rfl rfl (List.mem_flatten.mpr ⟨_, List.mem_of_getElem? (i := 0) rfl, (bWays_mem hw_29).choose_spec⟩) rfl rfl hl.1 dX0_treesOf_49 (Nat.le_of_ble_eq_true rfl) (Nat.le_of_ble_eq_true rfl) (fun b1 H locs hw G => ?_)
        refine zEx2 hw ?_
        intro w2_33 g3_34
        refine zCu2 ?_
        intro hbs9 h_35
        clear hw
        subst hbs9
        have G : zS T A s.heap s [z, w2_33] _ _ := G
        refine lv_iinc (v := nI (j + 1)) (lv' := [(3, .int (nI (j + 1))), (2, .int u), (0, .ref h), (1, .ref o)]) hx hb dX0_treesOf_52 hl (k := 0) rfl (z_inc j 1) (by decide) (zLvf_h rfl) (fun ls hl => ?_)
        refine lv_goto (tgt := 30) hx hb dX0_treesOf_55 (by decide) ?_
        have G := G.sub (bs' := [w2_33, z]) [1, 0] rfl
        exact ih_30 (j + 1) u w2_33 g3_34 (show bWays T h o md (zWy cr inn k1) (zPl cr inn k1) g1_2 g2_3 g3_34 f4 f5 f6 n4 w2_33 ∧ (j + 1) ≤ (zWy cr inn k1).toInt.toNat from ⟨h_35, by omega⟩) (show (zWy cr inn k1).toInt.toNat - (j + 1) < (zWy cr inn k1).toInt.toNat - j from by omega) _ _ ls G (lv_sub hl [0, 1, 2, 3] rfl)
      · have c_32n : ¬ r_31.toInt = (0 : Int) := fun q => c_32 ((fa_eq _ _).mpr q)
        refine lv_iinc (v := u + 1) (lv' := [(2, .int (u + 1)), (3, .int (nI j)), (0, .ref h), (1, .ref o)]) hx hb dX0_treesOf_45 hl (k := 1) rfl rfl (by decide) (zLvf_h rfl) (fun ls hl => ?_)
        refine lv_aload_n hx hb dX0_treesOf_48 rfl (lv_at hl 2 rfl) ?_
        refine z_Vv (bc := [[zO0 h md (zWy cr inn k1) o (zPl cr inn k1) a1_21 a2_22 a3_23 a4_24 a5_25 a6_26, zAr T 0 a1_21 7 g1_2, zAr T 0 a2_22 7 g2_3, zAr T 0 a3_23 7 y3, zAr T 0 a4_24 n4 f4, zAr T 0 a5_25 n4 f5, zAr T 0 a6_26 n4 f6]]) (br := [z]) (As := []) (rest := []) C G (c_nextRow l T h o md (zWy cr inn k1) (zPl cr inn k1) g1_2 g2_3 y3 f4 f5 f6 n4 ([zO0 h md (zWy cr inn k1) o (zPl cr inn k1) a1_21 a2_22 a3_23 a4_24 a5_25 a6_26, zAr T 0 a1_21 7 g1_2, zAr T 0 a2_22 7 g2_3, zAr T 0 a3_23 7 y3, zAr T 0 a4_24 n4 f4, zAr T 0 a5_25 n4 f5, zAr T 0 a6_26 n4 f6]) hw_29) (kV_RX0_126 C.2.2.2.2 (Nat.le_of_ble_eq_true rfl) (Nat.le_of_ble_eq_true rfl)) [0] [0] rfl rfl (ci := 0) (qc := (RX0, TX0, 10)) rfl rfl (List.mem_flatten.mpr ⟨_, List.mem_of_getElem? (i := 0) rfl, (bWays_mem hw_29).choose_spec⟩) rfl rfl hl.1 dX0_treesOf_49 (Nat.le_of_ble_eq_true rfl) (Nat.le_of_ble_eq_true rfl) (fun b1 H locs hw G => ?_)
        refine zEx2 hw ?_
        intro w2_37 g3_38
        refine zCu2 ?_
        intro hbs9 h_39
        clear hw
        subst hbs9
        have G : zS T A s.heap s [z, w2_37] _ _ := G
        refine lv_iinc (v := nI (j + 1)) (lv' := [(3, .int (nI (j + 1))), (2, .int (u + 1)), (0, .ref h), (1, .ref o)]) hx hb dX0_treesOf_52 hl (k := 1) rfl (z_inc j 1) (by decide) (zLvf_h rfl) (fun ls hl => ?_)
        refine lv_goto (tgt := 30) hx hb dX0_treesOf_55 (by decide) ?_
        have G := G.sub (bs' := [w2_37, z]) [1, 0] rfl
        exact ih_30 (j + 1) (u + 1) w2_37 g3_38 (show bWays T h o md (zWy cr inn k1) (zPl cr inn k1) g1_2 g2_3 g3_38 f4 f5 f6 n4 w2_37 ∧ (j + 1) ≤ (zWy cr inn k1).toInt.toNat from ⟨h_39, by omega⟩) (show (zWy cr inn k1).toInt.toNat - (j + 1) < (zWy cr inn k1).toInt.toNat - j from by omega) _ _ ls G (lv_sub hl [0, 1, 2, 3] rfl)
  · have c_13n : ¬ 7 ≤ i := fun q => c_13 ((nI_leI (a := 7) (b := i) (by omega) (by omega)).mpr q)
    refine lv_aload_n hx hb dX0_treesOf_15 rfl (lv_at hl 2 rfl) ?_
    refine zEx6 hwt ?_
    intro a1_41 a2_42 a3_43 a4_44 a5_45 a6_46 hbs9
    clear hwt
    subst hbs9
    have G : zS T A s.heap s [[zO0 h md (zWy cr inn k1) o (zPl cr inn k1) a1_41 a2_42 a3_43 a4_44 a5_45 a6_46], [zAr T 0 a1_41 7 g1_2], [zAr T 0 a2_42 7 g2_3], [zAr T 0 a3_43 7 x3], [zAr T 0 a4_44 n4 f4], [zAr T 0 a5_45 n4 f5], [zAr T 0 a6_46 n4 f6], z] _ _ := G.re rfl
    refine z_get C G clX0 0 rfl 6 (by decide) m_fl_RX0_25 rfl dX0_treesOf_16 ?_
    refine lv_iload_n hx hb dX0_treesOf_19 rfl (lv_at hl 0 rfl) ?_
    refine lv_iconst (v := 0) hx hb dX0_treesOf_20 (by decide) ?_
    refine z_ist C G 3 rfl (vp_in_nI (by omega) (by decide)) dX0_treesOf_21 (fun H locs G => ?_)
    rw [nI_clamp (by omega)] at G
    have G : zS T A s.heap s [[zO0 h md (zWy cr inn k1) o (zPl cr inn k1) a1_41 a2_42 a3_43 a4_44 a5_45 a6_46], [zAr T 0 a1_41 7 g1_2], [zAr T 0 a2_42 7 g2_3], [zAr T 0 a3_43 7 (upd x3 i 0)], [zAr T 0 a4_44 n4 f4], [zAr T 0 a5_45 n4 f5], [zAr T 0 a6_46 n4 f6], z] _ _ := G
    refine lv_iinc (v := nI (i + 1)) (lv' := [(3, .int (nI (i + 1))), (2, .int 0), (0, .ref h), (1, .ref o)]) hx hb dX0_treesOf_22 hl (k := 0) rfl (z_inc i 1) (by decide) (zLvf_h rfl) (fun ls hl => ?_)
    refine lv_goto (tgt := 9) hx hb dX0_treesOf_25 (by decide) ?_
    have hw_47 : bWays T h o md (zWy cr inn k1) (zPl cr inn k1) g1_2 g2_3 (upd x3 i 0) f4 f5 f6 n4 [zO0 h md (zWy cr inn k1) o (zPl cr inn k1) a1_41 a2_42 a3_43 a4_44 a5_45 a6_46, zAr T 0 a1_41 7 g1_2, zAr T 0 a2_42 7 g2_3, zAr T 0 a3_43 7 (upd x3 i 0), zAr T 0 a4_44 n4 f4, zAr T 0 a5_45 n4 f5, zAr T 0 a6_46 n4 f6] := ⟨a1_41, a2_42, a3_43, a4_44, a5_45, a6_46, rfl⟩
    have G : zS T A s.heap s [[zO0 h md (zWy cr inn k1) o (zPl cr inn k1) a1_41 a2_42 a3_43 a4_44 a5_45 a6_46, zAr T 0 a1_41 7 g1_2, zAr T 0 a2_42 7 g2_3, zAr T 0 a3_43 7 (upd x3 i 0), zAr T 0 a4_44 n4 f4, zAr T 0 a5_45 n4 f5, zAr T 0 a6_46 n4 f6], z] _ _ := G.re rfl
    exact ih_9 (i + 1) ([zO0 h md (zWy cr inn k1) o (zPl cr inn k1) a1_41 a2_42 a3_43 a4_44 a5_45 a6_46, zAr T 0 a1_41 7 g1_2, zAr T 0 a2_42 7 g2_3, zAr T 0 a3_43 7 (upd x3 i 0), zAr T 0 a4_44 n4 f4, zAr T 0 a5_45 n4 f5, zAr T 0 a6_46 n4 f6]) (upd x3 i 0) (show bWays T h o md (zWy cr inn k1) (zPl cr inn k1) g1_2 g2_3 (upd x3 i 0) f4 f5 f6 n4 ([zO0 h md (zWy cr inn k1) o (zPl cr inn k1) a1_41 a2_42 a3_43 a4_44 a5_45 a6_46, zAr T 0 a1_41 7 g1_2, zAr T 0 a2_42 7 g2_3, zAr T 0 a3_43 7 (upd x3 i 0), zAr T 0 a4_44 n4 f4, zAr T 0 a5_45 n4 f5, zAr T 0 a6_46 n4 f6]) ∧ (i + 1) ≤ 7 from ⟨hw_47, by omega⟩) (show 7 - (i + 1) < 7 - i from by omega) _ _ ls G (lv_sub hl [0, 1, 2, 3] rfl)
set_option maxHeartbeats 4000000 in
set_option maxRecDepth 100000 in
/-- stepOnce -/
theorem c_stepOnce (l : Launch) (T : zTy) (h : Nat) (la : Nat) (md : Int32) (wy : Int32) (pc_ : Int32) (f1 : Nat → Int32) (f2 : Nat → Int32) (f3 : Nat → Int32) (f4 : Nat → Int32) (f5 : Nat → Int32) (f6 : Nat → Int32) (n4 : Nat) (ww : va_W) (cr : Int32) (inn : Int32) (k1 : Nat → Int32) (k2 : Nat → Int32) (k3 : Nat → Int32) (k4 : Nat → Int32) (z : va_W) (hww : bWays T h la md wy pc_ f1 f2 f3 f4 f5 f6 n4 ww) (hz : bLand T la cr inn k1 k2 k3 k4 z) (hI : zLI cr k1 k3) (hn : n4 ≤ 131072) (hpl : pc_.toInt ≤ 131072) : zMv l T yX0_stepOnce cX0_stepOnce 5 4 0 0 [.ref h] [ww, z] (fun bs => ∃ (w2 : va_W) (g4 : Nat → Int32) (g5 : Nat → Int32), bs = [w2, z] ∧ bWays T h la md wy pc_ f1 f2 f3 g4 g5 f6 n4 w2) := by
  refine zMv_of (own := RX0) (by decide) rfl (Nat.le_of_ble_eq_true rfl) ?_
  intro p e s m args below meth c A ls C hr hlocks hnm hAe G hl
  refine zHide (fun Qz_ hQz_ => ?_)
  have hx := C.1
  have hb := C.2.1
  have hl : lv_has ls 5 [(0, .ref h)] := hl
  refine lv_iconst (v := 0) hx hb dX0_stepOnce_0 (by decide) ?_
  refine lv_istore_n (lv' := [(1, .int 0), (0, .ref h)]) hx hb dX0_stepOnce_1 rfl hl (by decide) (zLvf_h rfl) (fun ls hl => ?_)
  refine zEx6 hww ?_
  intro a1_1 a2_2 a3_3 a4_4 a5_5 a6_6 hbs9
  clear hww
  subst hbs9
  have G : zS T A s.heap s [[zO0 h md wy la pc_ a1_1 a2_2 a3_3 a4_4 a5_5 a6_6], [zAr T 0 a1_1 7 f1], [zAr T 0 a2_2 7 f2], [zAr T 0 a3_3 7 f3], [zAr T 0 a4_4 n4 f4], [zAr T 0 a5_5 n4 f5], [zAr T 0 a6_6 n4 f6], z] _ _ := G.re rfl
  refine zEx4 hz ?_
  intro a1_7 a2_8 a3_9 a4_10 hbs9
  clear hz
  subst hbs9
  have G : zS T A s.heap s [[zO0 h md wy la pc_ a1_1 a2_2 a3_3 a4_4 a5_5 a6_6], [zAr T 0 a1_1 7 f1], [zAr T 0 a2_2 7 f2], [zAr T 0 a3_3 7 f3], [zAr T 0 a4_4 n4 f4], [zAr T 0 a5_5 n4 f5], [zAr T 0 a6_6 n4 f6], [zO4 la cr inn a1_7 a2_8 a3_9 a4_10], [zAr T 0 a1_7 7 k1], [zAr T 0 a2_8 28 k2], [zAr T 0 a3_9 7 k3], [zAr T 0 a4_10 7 k4]] _ _ := G.re rfl
  have hw_11 : bWays T h la md wy pc_ f1 f2 f3 f4 f5 f6 n4 [zO0 h md wy la pc_ a1_1 a2_2 a3_3 a4_4 a5_5 a6_6, zAr T 0 a1_1 7 f1, zAr T 0 a2_2 7 f2, zAr T 0 a3_3 7 f3, zAr T 0 a4_4 n4 f4, zAr T 0 a5_5 n4 f5, zAr T 0 a6_6 n4 f6] := ⟨a1_1, a2_2, a3_3, a4_4, a5_5, a6_6, rfl⟩
  have G : zS T A s.heap s [[zO0 h md wy la pc_ a1_1 a2_2 a3_3 a4_4 a5_5 a6_6, zAr T 0 a1_1 7 f1, zAr T 0 a2_2 7 f2, zAr T 0 a3_3 7 f3, zAr T 0 a4_4 n4 f4, zAr T 0 a5_5 n4 f5, zAr T 0 a6_6 n4 f6], [zO4 la cr inn a1_7 a2_8 a3_9 a4_10], [zAr T 0 a1_7 7 k1], [zAr T 0 a2_8 28 k2], [zAr T 0 a3_9 7 k3], [zAr T 0 a4_10 7 k4]] _ _ := G.re rfl
  have hw_12 : bLand T la cr inn k1 k2 k3 k4 [zO4 la cr inn a1_7 a2_8 a3_9 a4_10, zAr T 0 a1_7 7 k1, zAr T 0 a2_8 28 k2, zAr T 0 a3_9 7 k3, zAr T 0 a4_10 7 k4] := ⟨a1_7, a2_8, a3_9, a4_10, rfl⟩
  have G : zS T A s.heap s [[zO0 h md wy la pc_ a1_1 a2_2 a3_3 a4_4 a5_5 a6_6, zAr T 0 a1_1 7 f1, zAr T 0 a2_2 7 f2, zAr T 0 a3_3 7 f3, zAr T 0 a4_4 n4 f4, zAr T 0 a5_5 n4 f5, zAr T 0 a6_6 n4 f6], [zO4 la cr inn a1_7 a2_8 a3_9 a4_10, zAr T 0 a1_7 7 k1, zAr T 0 a2_8 28 k2, zAr T 0 a3_9 7 k3, zAr T 0 a4_10 7 k4]] _ _ := G.re rfl
  refine z_lp4 (T := T) 2 (fun (i : Nat) (wt : va_W) (x4 : Nat → Int32) (x5 : Nat → Int32) => [wt, [zO4 la cr inn a1_7 a2_8 a3_9 a4_10, zAr T 0 a1_7 7 k1, zAr T 0 a2_8 28 k2, zAr T 0 a3_9 7 k3, zAr T 0 a4_10 7 k4]]) (fun (i : Nat) (wt : va_W) (x4 : Nat → Int32) (x5 : Nat → Int32) => [(1, .int (nI i)), (0, .ref h)]) (fun (i : Nat) (wt : va_W) (x4 : Nat → Int32) (x5 : Nat → Int32) => bWays T h la md wy pc_ f1 f2 f3 x4 x5 f6 n4 wt ∧ i ≤ pc_.toInt.toNat) (fun (i : Nat) (wt : va_W) (x4 : Nat → Int32) (x5 : Nat → Int32) => pc_.toInt.toNat - i) ?_ 0 ([zO0 h md wy la pc_ a1_1 a2_2 a3_3 a4_4 a5_5 a6_6, zAr T 0 a1_1 7 f1, zAr T 0 a2_2 7 f2, zAr T 0 a3_3 7 f3, zAr T 0 a4_4 n4 f4, zAr T 0 a5_5 n4 f5, zAr T 0 a6_6 n4 f6]) f4 f5 (show bWays T h la md wy pc_ f1 f2 f3 f4 f5 f6 n4 ([zO0 h md wy la pc_ a1_1 a2_2 a3_3 a4_4 a5_5 a6_6, zAr T 0 a1_1 7 f1, zAr T 0 a2_2 7 f2, zAr T 0 a3_3 7 f3, zAr T 0 a4_4 n4 f4, zAr T 0 a5_5 n4 f5, zAr T 0 a6_6 n4 f6]) ∧ 0 ≤ pc_.toInt.toNat from ⟨hw_11, by omega⟩) G (lv_sub hl [0, 1] rfl)
  intro i wt x4 x5 hI9 ih_2 H locs ls G hl
  replace hI9 : bWays T h la md wy pc_ f1 f2 f3 x4 x5 f6 n4 wt ∧ i ≤ pc_.toInt.toNat := hI9
  refine zAn2 hI9 ?_
  intro hwt hi
  clear hI9
  replace G : zS T A s.heap s [wt, [zO4 la cr inn a1_7 a2_8 a3_9 a4_10, zAr T 0 a1_7 7 k1, zAr T 0 a2_8 28 k2, zAr T 0 a3_9 7 k3, zAr T 0 a4_10 7 k4]] _ _ := G
  replace hl : lv_has ls 5 [(1, .int (nI i)), (0, .ref h)] := hl
  refine lv_iload_n hx hb dX0_stepOnce_2 rfl (lv_at hl 0 rfl) ?_
  refine lv_aload_n hx hb dX0_stepOnce_3 rfl (lv_at hl 1 rfl) ?_
  refine zEx6 hwt ?_
  intro a1_13 a2_14 a3_15 a4_16 a5_17 a6_18 hbs9
  clear hwt
  subst hbs9
  have G : zS T A s.heap s [[zO0 h md wy la pc_ a1_13 a2_14 a3_15 a4_16 a5_17 a6_18], [zAr T 0 a1_13 7 f1], [zAr T 0 a2_14 7 f2], [zAr T 0 a3_15 7 f3], [zAr T 0 a4_16 n4 x4], [zAr T 0 a5_17 n4 x5], [zAr T 0 a6_18 n4 f6], [zO4 la cr inn a1_7 a2_8 a3_9 a4_10, zAr T 0 a1_7 7 k1, zAr T 0 a2_8 28 k2, zAr T 0 a3_9 7 k3, zAr T 0 a4_10 7 k4]] _ _ := G.re rfl
  refine z_get C G clX0 0 rfl 3 (by decide) m_fl_RX0_75 rfl dX0_stepOnce_4 ?_
  refine lv_icmp_ge (tgt := 108) hx hb dX0_stepOnce_7 (by decide) (fun c_19 => ?_) (fun c_19 => ?_)
  · have c_19n : pc_.toInt ≤ (i : Int) := by have q := (fa_le _ _).mp c_19; rw [nI_toInt (n := i) (by omega)] at q; exact q
    have hw_20 : bWays T h la md wy pc_ f1 f2 f3 x4 x5 f6 n4 [zO0 h md wy la pc_ a1_13 a2_14 a3_15 a4_16 a5_17 a6_18, zAr T 0 a1_13 7 f1, zAr T 0 a2_14 7 f2, zAr T 0 a3_15 7 f3, zAr T 0 a4_16 n4 x4, zAr T 0 a5_17 n4 x5, zAr T 0 a6_18 n4 f6] := ⟨a1_13, a2_14, a3_15, a4_16, a5_17, a6_18, rfl⟩
    have G : zS T A s.heap s [[zO0 h md wy la pc_ a1_13 a2_14 a3_15 a4_16 a5_17 a6_18, zAr T 0 a1_13 7 f1, zAr T 0 a2_14 7 f2, zAr T 0 a3_15 7 f3, zAr T 0 a4_16 n4 x4, zAr T 0 a5_17 n4 x5, zAr T 0 a6_18 n4 f6], [zO4 la cr inn a1_7 a2_8 a3_9 a4_10, zAr T 0 a1_7 7 k1, zAr T 0 a2_8 28 k2, zAr T 0 a3_9 7 k3, zAr T 0 a4_10 7 k4]] _ _ := G.re rfl
    exact z_back hQz_ (z_vret C hr hlocks G (Nat.le_of_ble_eq_true rfl) (Nat.le_of_ble_eq_true rfl) dX0_stepOnce_108 ⟨([zO0 h md wy la pc_ a1_13 a2_14 a3_15 a4_16 a5_17 a6_18, zAr T 0 a1_13 7 f1, zAr T 0 a2_14 7 f2, zAr T 0 a3_15 7 f3, zAr T 0 a4_16 n4 x4, zAr T 0 a5_17 n4 x5, zAr T 0 a6_18 n4 f6]), x4, x5, rfl, hw_20⟩)
  · have c_19n : ¬ pc_.toInt ≤ (i : Int) := fun q => c_19 ((fa_le _ _).mpr (by rw [nI_toInt (n := i) (by omega)]; exact q))
    refine lv_iload_n hx hb dX0_stepOnce_10 rfl (lv_at hl 0 rfl) ?_
    refine lv_aload_n hx hb dX0_stepOnce_11 rfl (lv_at hl 1 rfl) ?_
    refine z_get C G clX0 0 rfl 7 (by decide) m_fl_RX0_28 rfl dX0_stepOnce_12 ?_
    refine z_alen C G 4 0 rfl (v := nI n4) rfl rfl dX0_stepOnce_15 ?_
    refine lv_icmp_ge (tgt := 108) hx hb dX0_stepOnce_16 (by decide) (fun c_21 => ?_) (fun c_21 => ?_)
    · have c_21n : n4 ≤ i := (nI_leI (a := n4) (b := i) (by omega) (by omega)).mp c_21
      have hw_22 : bWays T h la md wy pc_ f1 f2 f3 x4 x5 f6 n4 [zO0 h md wy la pc_ a1_13 a2_14 a3_15 a4_16 a5_17 a6_18, zAr T 0 a1_13 7 f1, zAr T 0 a2_14 7 f2, zAr T 0 a3_15 7 f3, zAr T 0 a4_16 n4 x4, zAr T 0 a5_17 n4 x5, zAr T 0 a6_18 n4 f6] := ⟨a1_13, a2_14, a3_15, a4_16, a5_17, a6_18, rfl⟩
      have G : zS T A s.heap s [[zO0 h md wy la pc_ a1_13 a2_14 a3_15 a4_16 a5_17 a6_18, zAr T 0 a1_13 7 f1, zAr T 0 a2_14 7 f2, zAr T 0 a3_15 7 f3, zAr T 0 a4_16 n4 x4, zAr T 0 a5_17 n4 x5, zAr T 0 a6_18 n4 f6], [zO4 la cr inn a1_7 a2_8 a3_9 a4_10, zAr T 0 a1_7 7 k1, zAr T 0 a2_8 28 k2, zAr T 0 a3_9 7 k3, zAr T 0 a4_10 7 k4]] _ _ := G.re rfl
      exact z_back hQz_ (z_vret C hr hlocks G (Nat.le_of_ble_eq_true rfl) (Nat.le_of_ble_eq_true rfl) dX0_stepOnce_108 ⟨([zO0 h md wy la pc_ a1_13 a2_14 a3_15 a4_16 a5_17 a6_18, zAr T 0 a1_13 7 f1, zAr T 0 a2_14 7 f2, zAr T 0 a3_15 7 f3, zAr T 0 a4_16 n4 x4, zAr T 0 a5_17 n4 x5, zAr T 0 a6_18 n4 f6]), x4, x5, rfl, hw_22⟩)
    · have c_21n : ¬ n4 ≤ i := fun q => c_21 ((nI_leI (a := n4) (b := i) (by omega) (by omega)).mpr q)
      refine lv_iload_n hx hb dX0_stepOnce_19 rfl (lv_at hl 0 rfl) ?_
      refine lv_aload_n hx hb dX0_stepOnce_20 rfl (lv_at hl 1 rfl) ?_
      refine z_get C G clX0 0 rfl 8 (by decide) m_fl_RX0_31 rfl dX0_stepOnce_21 ?_
      refine z_alen C G 5 0 rfl (v := nI n4) rfl rfl dX0_stepOnce_24 ?_
      refine lv_icmp_ge (tgt := 108) hx hb dX0_stepOnce_25 (by decide) (fun q => absurd q c_21) (fun _ => ?_)
      refine lv_iload_n hx hb dX0_stepOnce_28 rfl (lv_at hl 0 rfl) ?_
      refine lv_iconst (v := 3) hx hb dX0_stepOnce_29 (by decide) ?_
      refine lv_ishr hx hb dX0_stepOnce_30 ?_
      refine lv_istore_n (lv' := [(2, .int ((nI i) >>> (3 &&& 31))), (1, .int (nI i)), (0, .ref h)]) hx hb dX0_stepOnce_31 rfl hl (by decide) (zLvf_h rfl) (fun ls hl => ?_)
      refine lv_iload_n hx hb dX0_stepOnce_32 rfl (lv_at hl 1 rfl) ?_
      refine lv_bipush (v := 7) hx hb dX0_stepOnce_33 (by decide) ?_
      refine lv_iand hx hb dX0_stepOnce_35 ?_
      refine lv_istore_n (lv' := [(3, .int ((nI i) &&& 7)), (2, .int ((nI i) >>> (3 &&& 31))), (1, .int (nI i)), (0, .ref h)]) hx hb dX0_stepOnce_36 rfl hl (by decide) (zLvf_h rfl) (fun ls hl => ?_)
      refine lv_aload_n hx hb dX0_stepOnce_37 rfl (lv_at hl 3 rfl) ?_
      refine lv_iload_n hx hb dX0_stepOnce_38 rfl (lv_at hl 1 rfl) ?_
      refine lv_iload_n hx hb dX0_stepOnce_39 rfl (lv_at hl 0 rfl) ?_
      have hw_23 : bWays T h la md wy pc_ f1 f2 f3 x4 x5 f6 n4 [zO0 h md wy la pc_ a1_13 a2_14 a3_15 a4_16 a5_17 a6_18, zAr T 0 a1_13 7 f1, zAr T 0 a2_14 7 f2, zAr T 0 a3_15 7 f3, zAr T 0 a4_16 n4 x4, zAr T 0 a5_17 n4 x5, zAr T 0 a6_18 n4 f6] := ⟨a1_13, a2_14, a3_15, a4_16, a5_17, a6_18, rfl⟩
      have G : zS T A s.heap s [[zO0 h md wy la pc_ a1_13 a2_14 a3_15 a4_16 a5_17 a6_18, zAr T 0 a1_13 7 f1, zAr T 0 a2_14 7 f2, zAr T 0 a3_15 7 f3, zAr T 0 a4_16 n4 x4, zAr T 0 a5_17 n4 x5, zAr T 0 a6_18 n4 f6], [zO4 la cr inn a1_7 a2_8 a3_9 a4_10, zAr T 0 a1_7 7 k1, zAr T 0 a2_8 28 k2, zAr T 0 a3_9 7 k3, zAr T 0 a4_10 7 k4]] _ _ := G.re rfl
      refine z_Vi (bc := [[zO0 h md wy la pc_ a1_13 a2_14 a3_15 a4_16 a5_17 a6_18, zAr T 0 a1_13 7 f1, zAr T 0 a2_14 7 f2, zAr T 0 a3_15 7 f3, zAr T 0 a4_16 n4 x4, zAr T 0 a5_17 n4 x5, zAr T 0 a6_18 n4 f6], [zO4 la cr inn a1_7 a2_8 a3_9 a4_10, zAr T 0 a1_7 7 k1, zAr T 0 a2_8 28 k2, zAr T 0 a3_9 7 k3, zAr T 0 a4_10 7 k4]]) (br := []) (As := [.int ((nI i) >>> (3 &&& 31)), .int ((nI i) &&& 7)]) (rest := []) C G (c_turned l T h la md wy pc_ f1 f2 f3 x4 x5 f6 n4 ([zO0 h md wy la pc_ a1_13 a2_14 a3_15 a4_16 a5_17 a6_18, zAr T 0 a1_13 7 f1, zAr T 0 a2_14 7 f2, zAr T 0 a3_15 7 f3, zAr T 0 a4_16 n4 x4, zAr T 0 a5_17 n4 x5, zAr T 0 a6_18 n4 f6]) cr inn k1 k2 k3 k4 ([zO4 la cr inn a1_7 a2_8 a3_9 a4_10, zAr T 0 a1_7 7 k1, zAr T 0 a2_8 28 k2, zAr T 0 a3_9 7 k3, zAr T 0 a4_10 7 k4]) ((nI i) >>> (3 &&& 31)) ((nI i) &&& 7) hw_23 hw_12 (by first | with_reducible assumption | with_reducible rfl | omega | assumption | rfl)) (kV_RX0_78 C.2.2.2.2 (Nat.le_of_ble_eq_true rfl) (Nat.le_of_ble_eq_true rfl)) [0, 1] [0, 0] rfl rfl (ci := 0) (qc := (RX0, TX0, 10)) rfl rfl (List.mem_flatten.mpr ⟨_, List.mem_of_getElem? (i := 0) rfl, (bWays_mem hw_23).choose_spec⟩) rfl rfl hl.1 dX0_stepOnce_40 (Nat.le_of_ble_eq_true rfl) (Nat.le_of_ble_eq_true rfl) (fun r_24 b1 H locs hw G => ?_)
      obtain rfl := hw
      have G : zS T A s.heap s [[zO0 h md wy la pc_ a1_13 a2_14 a3_15 a4_16 a5_17 a6_18, zAr T 0 a1_13 7 f1, zAr T 0 a2_14 7 f2, zAr T 0 a3_15 7 f3, zAr T 0 a4_16 n4 x4, zAr T 0 a5_17 n4 x5, zAr T 0 a6_18 n4 f6], [zO4 la cr inn a1_7 a2_8 a3_9 a4_10, zAr T 0 a1_7 7 k1, zAr T 0 a2_8 28 k2, zAr T 0 a3_9 7 k3, zAr T 0 a4_10 7 k4]] _ _ := G
      refine lv_istore (lv' := [(4, .int r_24), (3, .int ((nI i) &&& 7)), (2, .int ((nI i) >>> (3 &&& 31))), (1, .int (nI i)), (0, .ref h)]) hx hb dX0_stepOnce_43 hl (by decide) (zLvf_h rfl) (fun ls hl => ?_)
      refine lv_iload hx hb dX0_stepOnce_45 (lv_at hl 0 rfl) ?_
      refine lv_iconst (v := (-1)) hx hb dX0_stepOnce_47 (by decide) ?_
      refine lv_icmp_ne (tgt := 61) hx hb dX0_stepOnce_48 (by decide) (fun c_25 => ?_) (fun c_25 => ?_)
      · have c_25n : ¬ r_24.toInt = (-1 : Int) := fun q => c_25 ((fa_eq _ _).mpr q)
        refine lv_aload_n hx hb dX0_stepOnce_61 rfl (lv_at hl 4 rfl) ?_
        have G : zS T A s.heap s [[zO0 h md wy la pc_ a1_13 a2_14 a3_15 a4_16 a5_17 a6_18], [zAr T 0 a1_13 7 f1], [zAr T 0 a2_14 7 f2], [zAr T 0 a3_15 7 f3], [zAr T 0 a4_16 n4 x4], [zAr T 0 a5_17 n4 x5], [zAr T 0 a6_18 n4 f6], [zO4 la cr inn a1_7 a2_8 a3_9 a4_10, zAr T 0 a1_7 7 k1, zAr T 0 a2_8 28 k2, zAr T 0 a3_9 7 k3, zAr T 0 a4_10 7 k4]] _ _ := G.re rfl
        refine z_get C G clX0 0 rfl 7 (by decide) m_fl_RX0_28 rfl dX0_stepOnce_62 ?_
        refine lv_iload_n hx hb dX0_stepOnce_65 rfl (lv_at hl 3 rfl) ?_
        refine lv_iload hx hb dX0_stepOnce_66 (lv_at hl 0 rfl) ?_
        refine lv_aload_n hx hb dX0_stepOnce_68 rfl (lv_at hl 4 rfl) ?_
        refine z_get C G clX0 0 rfl 2 (by decide) m_fl_RX0_14 rfl dX0_stepOnce_69 ?_
        refine lv_iload_n hx hb dX0_stepOnce_72 rfl (lv_at hl 1 rfl) ?_
        refine lv_aload_n hx hb dX0_stepOnce_73 rfl (lv_at hl 4 rfl) ?_
        refine lv_iload hx hb dX0_stepOnce_74 (lv_at hl 0 rfl) ?_
        refine lv_iload_n hx hb dX0_stepOnce_76 rfl (lv_at hl 1 rfl) ?_
        have hw_26 : bWays T h la md wy pc_ f1 f2 f3 x4 x5 f6 n4 [zO0 h md wy la pc_ a1_13 a2_14 a3_15 a4_16 a5_17 a6_18, zAr T 0 a1_13 7 f1, zAr T 0 a2_14 7 f2, zAr T 0 a3_15 7 f3, zAr T 0 a4_16 n4 x4, zAr T 0 a5_17 n4 x5, zAr T 0 a6_18 n4 f6] := ⟨a1_13, a2_14, a3_15, a4_16, a5_17, a6_18, rfl⟩
        have G : zS T A s.heap s [[zO0 h md wy la pc_ a1_13 a2_14 a3_15 a4_16 a5_17 a6_18, zAr T 0 a1_13 7 f1, zAr T 0 a2_14 7 f2, zAr T 0 a3_15 7 f3, zAr T 0 a4_16 n4 x4, zAr T 0 a5_17 n4 x5, zAr T 0 a6_18 n4 f6], [zO4 la cr inn a1_7 a2_8 a3_9 a4_10, zAr T 0 a1_7 7 k1, zAr T 0 a2_8 28 k2, zAr T 0 a3_9 7 k3, zAr T 0 a4_10 7 k4]] _ _ := G.re rfl
        refine z_Vi (bc := [[zO0 h md wy la pc_ a1_13 a2_14 a3_15 a4_16 a5_17 a6_18, zAr T 0 a1_13 7 f1, zAr T 0 a2_14 7 f2, zAr T 0 a3_15 7 f3, zAr T 0 a4_16 n4 x4, zAr T 0 a5_17 n4 x5, zAr T 0 a6_18 n4 f6]]) (br := [[zO4 la cr inn a1_7 a2_8 a3_9 a4_10, zAr T 0 a1_7 7 k1, zAr T 0 a2_8 28 k2, zAr T 0 a3_9 7 k3, zAr T 0 a4_10 7 k4]]) (As := [.int r_24, .int ((nI i) &&& 7)]) (rest := [.int ((nI i) &&& 7), .ref la, .int r_24, .int (nI i), .ref a4_16]) C G (c_road l T h la md wy pc_ f1 f2 f3 x4 x5 f6 n4 ([zO0 h md wy la pc_ a1_13 a2_14 a3_15 a4_16 a5_17 a6_18, zAr T 0 a1_13 7 f1, zAr T 0 a2_14 7 f2, zAr T 0 a3_15 7 f3, zAr T 0 a4_16 n4 x4, zAr T 0 a5_17 n4 x5, zAr T 0 a6_18 n4 f6]) r_24 ((nI i) &&& 7) hw_26) (kV_RX0_81 C.2.2.2.2 (Nat.le_of_ble_eq_true rfl) (Nat.le_of_ble_eq_true rfl)) [0] [0] rfl rfl (ci := 0) (qc := (RX0, TX0, 10)) rfl rfl (List.mem_flatten.mpr ⟨_, List.mem_of_getElem? (i := 0) rfl, (bWays_mem hw_26).choose_spec⟩) rfl rfl hl.1 dX0_stepOnce_77 (Nat.le_of_ble_eq_true rfl) (Nat.le_of_ble_eq_true rfl) (fun r_28 b1 H locs hw G => ?_)
        refine zAn2 hw ?_
        intro hbs9 h_27
        clear hw
        subst hbs9
        have G : zS T A s.heap s [[zO4 la cr inn a1_7 a2_8 a3_9 a4_10, zAr T 0 a1_7 7 k1, zAr T 0 a2_8 28 k2, zAr T 0 a3_9 7 k3, zAr T 0 a4_10 7 k4], [zO0 h md wy la pc_ a1_13 a2_14 a3_15 a4_16 a5_17 a6_18, zAr T 0 a1_13 7 f1, zAr T 0 a2_14 7 f2, zAr T 0 a3_15 7 f3, zAr T 0 a4_16 n4 x4, zAr T 0 a5_17 n4 x5, zAr T 0 a6_18 n4 f6]] _ _ := G
        subst h_27
        refine z_Vi (bc := [[zO4 la cr inn a1_7 a2_8 a3_9 a4_10, zAr T 0 a1_7 7 k1, zAr T 0 a2_8 28 k2, zAr T 0 a3_9 7 k3, zAr T 0 a4_10 7 k4]]) (br := [[zO0 h md wy la pc_ a1_13 a2_14 a3_15 a4_16 a5_17 a6_18, zAr T 0 a1_13 7 f1, zAr T 0 a2_14 7 f2, zAr T 0 a3_15 7 f3, zAr T 0 a4_16 n4 x4, zAr T 0 a5_17 n4 x5, zAr T 0 a6_18 n4 f6]]) (As := [.int ((nI i) &&& 7), .int (zRoad f1 f2 r_24 ((nI i) &&& 7))]) (rest := [.int r_24, .int (nI i), .ref a4_16]) C G (c_target l T la cr inn k1 k2 k3 k4 ([zO4 la cr inn a1_7 a2_8 a3_9 a4_10, zAr T 0 a1_7 7 k1, zAr T 0 a2_8 28 k2, zAr T 0 a3_9 7 k3, zAr T 0 a4_10 7 k4]) ((nI i) &&& 7) (zRoad f1 f2 r_24 ((nI i) &&& 7)) hw_12) (kV_RX0_84 C.2.2.2.2 (Nat.le_of_ble_eq_true rfl) (Nat.le_of_ble_eq_true rfl)) [0] [0] rfl rfl (ci := 4) (qc := (RX4, TX4, 6)) rfl rfl (List.mem_flatten.mpr ⟨_, List.mem_of_getElem? (i := 0) rfl, (bLand_mem hw_12).choose_spec⟩) rfl rfl hl.1 dX0_stepOnce_80 (Nat.le_of_ble_eq_true rfl) (Nat.le_of_ble_eq_true rfl) (fun r_30 b1 H locs hw G => ?_)
        refine zAn2 hw ?_
        intro hbs9 h_29
        clear hw
        subst hbs9
        have G : zS T A s.heap s [[zO0 h md wy la pc_ a1_13 a2_14 a3_15 a4_16 a5_17 a6_18, zAr T 0 a1_13 7 f1, zAr T 0 a2_14 7 f2, zAr T 0 a3_15 7 f3, zAr T 0 a4_16 n4 x4, zAr T 0 a5_17 n4 x5, zAr T 0 a6_18 n4 f6], [zO4 la cr inn a1_7 a2_8 a3_9 a4_10, zAr T 0 a1_7 7 k1, zAr T 0 a2_8 28 k2, zAr T 0 a3_9 7 k3, zAr T 0 a4_10 7 k4]] _ _ := G
        subst h_29
        refine z_Si (bc := []) (br := [[zO0 h md wy la pc_ a1_13 a2_14 a3_15 a4_16 a5_17 a6_18, zAr T 0 a1_13 7 f1, zAr T 0 a2_14 7 f2, zAr T 0 a3_15 7 f3, zAr T 0 a4_16 n4 x4, zAr T 0 a5_17 n4 x5, zAr T 0 a6_18 n4 f6], [zO4 la cr inn a1_7 a2_8 a3_9 a4_10, zAr T 0 a1_7 7 k1, zAr T 0 a2_8 28 k2, zAr T 0 a3_9 7 k3, zAr T 0 a4_10 7 k4]]) (As := [.int r_24, .int (zTarget cr k1 k2 ((nI i) &&& 7) (zRoad f1 f2 r_24 ((nI i) &&& 7)))]) (rest := [.int (nI i), .ref a4_16]) C G (c_place l T r_24 (zTarget cr k1 k2 ((nI i) &&& 7) (zRoad f1 f2 r_24 ((nI i) &&& 7)))) (kS_RX0_87 C.2.2.2.2 (Nat.le_of_ble_eq_true rfl) (Nat.le_of_ble_eq_true rfl)) [] [] rfl rfl rfl rfl hl.1 dX0_stepOnce_83 (Nat.le_of_ble_eq_true rfl) (Nat.le_of_ble_eq_true rfl) (fun r_32 b1 H locs hw G => ?_)
        refine zAn2 hw ?_
        intro hbs9 h_31
        clear hw
        subst hbs9
        have G : zS T A s.heap s [[zO0 h md wy la pc_ a1_13 a2_14 a3_15 a4_16 a5_17 a6_18, zAr T 0 a1_13 7 f1, zAr T 0 a2_14 7 f2, zAr T 0 a3_15 7 f3, zAr T 0 a4_16 n4 x4, zAr T 0 a5_17 n4 x5, zAr T 0 a6_18 n4 f6], [zO4 la cr inn a1_7 a2_8 a3_9 a4_10, zAr T 0 a1_7 7 k1, zAr T 0 a2_8 28 k2, zAr T 0 a3_9 7 k3, zAr T 0 a4_10 7 k4]] _ _ := G
        subst h_31
        refine lv_ldc (v := 131072) hx hb C.2.2.2.1 (C.2.2.2.2 _ m_ko_RX0_71) dX0_stepOnce_86 ?_
        refine lv_iadd hx hb dX0_stepOnce_88 ?_
        have G : zS T A s.heap s [[zO0 h md wy la pc_ a1_13 a2_14 a3_15 a4_16 a5_17 a6_18], [zAr T 0 a1_13 7 f1], [zAr T 0 a2_14 7 f2], [zAr T 0 a3_15 7 f3], [zAr T 0 a4_16 n4 x4], [zAr T 0 a5_17 n4 x5], [zAr T 0 a6_18 n4 f6], [zO4 la cr inn a1_7 a2_8 a3_9 a4_10, zAr T 0 a1_7 7 k1, zAr T 0 a2_8 28 k2, zAr T 0 a3_9 7 k3, zAr T 0 a4_10 7 k4]] _ _ := G.re rfl
        refine z_ist C G 4 rfl (vp_in_nI (by omega) (by omega)) dX0_stepOnce_89 (fun H locs G => ?_)
        rw [nI_clamp (by omega)] at G
        have G : zS T A s.heap s [[zO0 h md wy la pc_ a1_13 a2_14 a3_15 a4_16 a5_17 a6_18], [zAr T 0 a1_13 7 f1], [zAr T 0 a2_14 7 f2], [zAr T 0 a3_15 7 f3], [zAr T 0 a4_16 n4 (upd x4 i (((r_24 <<< (3 &&& 31)) + (zTarget cr k1 k2 ((nI i) &&& 7) (zRoad f1 f2 r_24 ((nI i) &&& 7)))) + 131072))], [zAr T 0 a5_17 n4 x5], [zAr T 0 a6_18 n4 f6], [zO4 la cr inn a1_7 a2_8 a3_9 a4_10, zAr T 0 a1_7 7 k1, zAr T 0 a2_8 28 k2, zAr T 0 a3_9 7 k3, zAr T 0 a4_10 7 k4]] _ _ := G
        refine lv_aload_n hx hb dX0_stepOnce_90 rfl (lv_at hl 4 rfl) ?_
        refine z_get C G clX0 0 rfl 8 (by decide) m_fl_RX0_31 rfl dX0_stepOnce_91 ?_
        refine lv_iload_n hx hb dX0_stepOnce_94 rfl (lv_at hl 3 rfl) ?_
        refine lv_aload_n hx hb dX0_stepOnce_95 rfl (lv_at hl 4 rfl) ?_
        refine z_get C G clX0 0 rfl 7 (by decide) m_fl_RX0_28 rfl dX0_stepOnce_96 ?_
        refine lv_iload_n hx hb dX0_stepOnce_99 rfl (lv_at hl 3 rfl) ?_
        refine z_ild C G 4 rfl (vp_in_nI (by omega) (by omega)) dX0_stepOnce_100 ?_
        refine lv_topi (fun v_33 ev_33 => ?_)
        rw [nI_clamp (by omega)] at ev_33
        subst ev_33
        refine z_ist C G 5 rfl (vp_in_nI (by omega) (by omega)) dX0_stepOnce_101 (fun H locs G => ?_)
        rw [nI_clamp (by omega)] at G
        have G : zS T A s.heap s [[zO0 h md wy la pc_ a1_13 a2_14 a3_15 a4_16 a5_17 a6_18], [zAr T 0 a1_13 7 f1], [zAr T 0 a2_14 7 f2], [zAr T 0 a3_15 7 f3], [zAr T 0 a4_16 n4 (upd x4 i (((r_24 <<< (3 &&& 31)) + (zTarget cr k1 k2 ((nI i) &&& 7) (zRoad f1 f2 r_24 ((nI i) &&& 7)))) + 131072))], [zAr T 0 a5_17 n4 (upd x5 i ((upd x4 i (((r_24 <<< (3 &&& 31)) + (zTarget cr k1 k2 ((nI i) &&& 7) (zRoad f1 f2 r_24 ((nI i) &&& 7)))) + 131072)) i))], [zAr T 0 a6_18 n4 f6], [zO4 la cr inn a1_7 a2_8 a3_9 a4_10, zAr T 0 a1_7 7 k1, zAr T 0 a2_8 28 k2, zAr T 0 a3_9 7 k3, zAr T 0 a4_10 7 k4]] _ _ := G
        refine lv_iinc (v := nI (i + 1)) (lv' := [(1, .int (nI (i + 1))), (4, .int r_24), (3, .int ((nI i) &&& 7)), (2, .int ((nI i) >>> (3 &&& 31))), (0, .ref h)]) hx hb dX0_stepOnce_102 hl (k := 3) rfl (z_inc i 1) (by decide) (zLvf_h rfl) (fun ls hl => ?_)
        refine lv_goto (tgt := 2) hx hb dX0_stepOnce_105 (by decide) ?_
        have hw_34 : bWays T h la md wy pc_ f1 f2 f3 (upd x4 i (((r_24 <<< (3 &&& 31)) + (zTarget cr k1 k2 ((nI i) &&& 7) (zRoad f1 f2 r_24 ((nI i) &&& 7)))) + 131072)) (upd x5 i ((upd x4 i (((r_24 <<< (3 &&& 31)) + (zTarget cr k1 k2 ((nI i) &&& 7) (zRoad f1 f2 r_24 ((nI i) &&& 7)))) + 131072)) i)) f6 n4 [zO0 h md wy la pc_ a1_13 a2_14 a3_15 a4_16 a5_17 a6_18, zAr T 0 a1_13 7 f1, zAr T 0 a2_14 7 f2, zAr T 0 a3_15 7 f3, zAr T 0 a4_16 n4 (upd x4 i (((r_24 <<< (3 &&& 31)) + (zTarget cr k1 k2 ((nI i) &&& 7) (zRoad f1 f2 r_24 ((nI i) &&& 7)))) + 131072)), zAr T 0 a5_17 n4 (upd x5 i ((upd x4 i (((r_24 <<< (3 &&& 31)) + (zTarget cr k1 k2 ((nI i) &&& 7) (zRoad f1 f2 r_24 ((nI i) &&& 7)))) + 131072)) i)), zAr T 0 a6_18 n4 f6] := ⟨a1_13, a2_14, a3_15, a4_16, a5_17, a6_18, rfl⟩
        have G : zS T A s.heap s [[zO0 h md wy la pc_ a1_13 a2_14 a3_15 a4_16 a5_17 a6_18, zAr T 0 a1_13 7 f1, zAr T 0 a2_14 7 f2, zAr T 0 a3_15 7 f3, zAr T 0 a4_16 n4 (upd x4 i (((r_24 <<< (3 &&& 31)) + (zTarget cr k1 k2 ((nI i) &&& 7) (zRoad f1 f2 r_24 ((nI i) &&& 7)))) + 131072)), zAr T 0 a5_17 n4 (upd x5 i ((upd x4 i (((r_24 <<< (3 &&& 31)) + (zTarget cr k1 k2 ((nI i) &&& 7) (zRoad f1 f2 r_24 ((nI i) &&& 7)))) + 131072)) i)), zAr T 0 a6_18 n4 f6], [zO4 la cr inn a1_7 a2_8 a3_9 a4_10, zAr T 0 a1_7 7 k1, zAr T 0 a2_8 28 k2, zAr T 0 a3_9 7 k3, zAr T 0 a4_10 7 k4]] _ _ := G.re rfl
        exact ih_2 (i + 1) ([zO0 h md wy la pc_ a1_13 a2_14 a3_15 a4_16 a5_17 a6_18, zAr T 0 a1_13 7 f1, zAr T 0 a2_14 7 f2, zAr T 0 a3_15 7 f3, zAr T 0 a4_16 n4 (upd x4 i (((r_24 <<< (3 &&& 31)) + (zTarget cr k1 k2 ((nI i) &&& 7) (zRoad f1 f2 r_24 ((nI i) &&& 7)))) + 131072)), zAr T 0 a5_17 n4 (upd x5 i ((upd x4 i (((r_24 <<< (3 &&& 31)) + (zTarget cr k1 k2 ((nI i) &&& 7) (zRoad f1 f2 r_24 ((nI i) &&& 7)))) + 131072)) i)), zAr T 0 a6_18 n4 f6]) (upd x4 i (((r_24 <<< (3 &&& 31)) + (zTarget cr k1 k2 ((nI i) &&& 7) (zRoad f1 f2 r_24 ((nI i) &&& 7)))) + 131072)) (upd x5 i ((upd x4 i (((r_24 <<< (3 &&& 31)) + (zTarget cr k1 k2 ((nI i) &&& 7) (zRoad f1 f2 r_24 ((nI i) &&& 7)))) + 131072)) i)) (show bWays T h la md wy pc_ f1 f2 f3 (upd x4 i (((r_24 <<< (3 &&& 31)) + (zTarget cr k1 k2 ((nI i) &&& 7) (zRoad f1 f2 r_24 ((nI i) &&& 7)))) + 131072)) (upd x5 i ((upd x4 i (((r_24 <<< (3 &&& 31)) + (zTarget cr k1 k2 ((nI i) &&& 7) (zRoad f1 f2 r_24 ((nI i) &&& 7)))) + 131072)) i)) f6 n4 ([zO0 h md wy la pc_ a1_13 a2_14 a3_15 a4_16 a5_17 a6_18, zAr T 0 a1_13 7 f1, zAr T 0 a2_14 7 f2, zAr T 0 a3_15 7 f3, zAr T 0 a4_16 n4 (upd x4 i (((r_24 <<< (3 &&& 31)) + (zTarget cr k1 k2 ((nI i) &&& 7) (zRoad f1 f2 r_24 ((nI i) &&& 7)))) + 131072)), zAr T 0 a5_17 n4 (upd x5 i ((upd x4 i (((r_24 <<< (3 &&& 31)) + (zTarget cr k1 k2 ((nI i) &&& 7) (zRoad f1 f2 r_24 ((nI i) &&& 7)))) + 131072)) i)), zAr T 0 a6_18 n4 f6]) ∧ (i + 1) ≤ pc_.toInt.toNat from ⟨hw_34, by omega⟩) (show pc_.toInt.toNat - (i + 1) < pc_.toInt.toNat - i from by omega) _ _ ls G (lv_sub hl [0, 4] rfl)
      · have c_25n : r_24.toInt = (-1 : Int) := (fa_eq _ _).mp c_25
        refine lv_aload_n hx hb dX0_stepOnce_51 rfl (lv_at hl 4 rfl) ?_
        have G : zS T A s.heap s [[zO0 h md wy la pc_ a1_13 a2_14 a3_15 a4_16 a5_17 a6_18], [zAr T 0 a1_13 7 f1], [zAr T 0 a2_14 7 f2], [zAr T 0 a3_15 7 f3], [zAr T 0 a4_16 n4 x4], [zAr T 0 a5_17 n4 x5], [zAr T 0 a6_18 n4 f6], [zO4 la cr inn a1_7 a2_8 a3_9 a4_10, zAr T 0 a1_7 7 k1, zAr T 0 a2_8 28 k2, zAr T 0 a3_9 7 k3, zAr T 0 a4_10 7 k4]] _ _ := G.re rfl
        refine z_get C G clX0 0 rfl 7 (by decide) m_fl_RX0_28 rfl dX0_stepOnce_52 ?_
        refine lv_iload_n hx hb dX0_stepOnce_55 rfl (lv_at hl 3 rfl) ?_
        refine lv_iload_n hx hb dX0_stepOnce_56 rfl (lv_at hl 3 rfl) ?_
        refine z_ist C G 4 rfl (vp_in_nI (by omega) (by omega)) dX0_stepOnce_57 (fun H locs G => ?_)
        rw [nI_clamp (by omega)] at G
        have G : zS T A s.heap s [[zO0 h md wy la pc_ a1_13 a2_14 a3_15 a4_16 a5_17 a6_18], [zAr T 0 a1_13 7 f1], [zAr T 0 a2_14 7 f2], [zAr T 0 a3_15 7 f3], [zAr T 0 a4_16 n4 (upd x4 i (nI i))], [zAr T 0 a5_17 n4 x5], [zAr T 0 a6_18 n4 f6], [zO4 la cr inn a1_7 a2_8 a3_9 a4_10, zAr T 0 a1_7 7 k1, zAr T 0 a2_8 28 k2, zAr T 0 a3_9 7 k3, zAr T 0 a4_10 7 k4]] _ _ := G
        refine lv_goto (tgt := 90) hx hb dX0_stepOnce_58 (by decide) ?_
        refine lv_aload_n hx hb dX0_stepOnce_90 rfl (lv_at hl 4 rfl) ?_
        refine z_get C G clX0 0 rfl 8 (by decide) m_fl_RX0_31 rfl dX0_stepOnce_91 ?_
        refine lv_iload_n hx hb dX0_stepOnce_94 rfl (lv_at hl 3 rfl) ?_
        refine lv_aload_n hx hb dX0_stepOnce_95 rfl (lv_at hl 4 rfl) ?_
        refine z_get C G clX0 0 rfl 7 (by decide) m_fl_RX0_28 rfl dX0_stepOnce_96 ?_
        refine lv_iload_n hx hb dX0_stepOnce_99 rfl (lv_at hl 3 rfl) ?_
        refine z_ild C G 4 rfl (vp_in_nI (by omega) (by omega)) dX0_stepOnce_100 ?_
        refine lv_topi (fun v_35 ev_35 => ?_)
        rw [nI_clamp (by omega)] at ev_35
        subst ev_35
        refine z_ist C G 5 rfl (vp_in_nI (by omega) (by omega)) dX0_stepOnce_101 (fun H locs G => ?_)
        rw [nI_clamp (by omega)] at G
        have G : zS T A s.heap s [[zO0 h md wy la pc_ a1_13 a2_14 a3_15 a4_16 a5_17 a6_18], [zAr T 0 a1_13 7 f1], [zAr T 0 a2_14 7 f2], [zAr T 0 a3_15 7 f3], [zAr T 0 a4_16 n4 (upd x4 i (nI i))], [zAr T 0 a5_17 n4 (upd x5 i ((upd x4 i (nI i)) i))], [zAr T 0 a6_18 n4 f6], [zO4 la cr inn a1_7 a2_8 a3_9 a4_10, zAr T 0 a1_7 7 k1, zAr T 0 a2_8 28 k2, zAr T 0 a3_9 7 k3, zAr T 0 a4_10 7 k4]] _ _ := G
        refine lv_iinc (v := nI (i + 1)) (lv' := [(1, .int (nI (i + 1))), (4, .int r_24), (3, .int ((nI i) &&& 7)), (2, .int ((nI i) >>> (3 &&& 31))), (0, .ref h)]) hx hb dX0_stepOnce_102 hl (k := 3) rfl (z_inc i 1) (by decide) (zLvf_h rfl) (fun ls hl => ?_)
        refine lv_goto (tgt := 2) hx hb dX0_stepOnce_105 (by decide) ?_
        have hw_36 : bWays T h la md wy pc_ f1 f2 f3 (upd x4 i (nI i)) (upd x5 i ((upd x4 i (nI i)) i)) f6 n4 [zO0 h md wy la pc_ a1_13 a2_14 a3_15 a4_16 a5_17 a6_18, zAr T 0 a1_13 7 f1, zAr T 0 a2_14 7 f2, zAr T 0 a3_15 7 f3, zAr T 0 a4_16 n4 (upd x4 i (nI i)), zAr T 0 a5_17 n4 (upd x5 i ((upd x4 i (nI i)) i)), zAr T 0 a6_18 n4 f6] := ⟨a1_13, a2_14, a3_15, a4_16, a5_17, a6_18, rfl⟩
        have G : zS T A s.heap s [[zO0 h md wy la pc_ a1_13 a2_14 a3_15 a4_16 a5_17 a6_18, zAr T 0 a1_13 7 f1, zAr T 0 a2_14 7 f2, zAr T 0 a3_15 7 f3, zAr T 0 a4_16 n4 (upd x4 i (nI i)), zAr T 0 a5_17 n4 (upd x5 i ((upd x4 i (nI i)) i)), zAr T 0 a6_18 n4 f6], [zO4 la cr inn a1_7 a2_8 a3_9 a4_10, zAr T 0 a1_7 7 k1, zAr T 0 a2_8 28 k2, zAr T 0 a3_9 7 k3, zAr T 0 a4_10 7 k4]] _ _ := G.re rfl
        exact ih_2 (i + 1) ([zO0 h md wy la pc_ a1_13 a2_14 a3_15 a4_16 a5_17 a6_18, zAr T 0 a1_13 7 f1, zAr T 0 a2_14 7 f2, zAr T 0 a3_15 7 f3, zAr T 0 a4_16 n4 (upd x4 i (nI i)), zAr T 0 a5_17 n4 (upd x5 i ((upd x4 i (nI i)) i)), zAr T 0 a6_18 n4 f6]) (upd x4 i (nI i)) (upd x5 i ((upd x4 i (nI i)) i)) (show bWays T h la md wy pc_ f1 f2 f3 (upd x4 i (nI i)) (upd x5 i ((upd x4 i (nI i)) i)) f6 n4 ([zO0 h md wy la pc_ a1_13 a2_14 a3_15 a4_16 a5_17 a6_18, zAr T 0 a1_13 7 f1, zAr T 0 a2_14 7 f2, zAr T 0 a3_15 7 f3, zAr T 0 a4_16 n4 (upd x4 i (nI i)), zAr T 0 a5_17 n4 (upd x5 i ((upd x4 i (nI i)) i)), zAr T 0 a6_18 n4 f6]) ∧ (i + 1) ≤ pc_.toInt.toNat from ⟨hw_36, by omega⟩) (show pc_.toInt.toNat - (i + 1) < pc_.toInt.toNat - i from by omega) _ _ ls G (lv_sub hl [0, 4] rfl)
set_option maxHeartbeats 4000000 in
set_option maxRecDepth 100000 in
/-- oneMore -/
theorem c_oneMore (l : Launch) (T : zTy) (h : Nat) (la : Nat) (md : Int32) (wy : Int32) (pc_ : Int32) (f1 : Nat → Int32) (f2 : Nat → Int32) (f3 : Nat → Int32) (f4 : Nat → Int32) (f5 : Nat → Int32) (f6 : Nat → Int32) (n4 : Nat) (ww : va_W) (hww : bWays T h la md wy pc_ f1 f2 f3 f4 f5 f6 n4 ww) (hn : n4 ≤ 131072) (hpl : pc_.toInt ≤ 131072) : zMv l T yX0_oneMore cX0_oneMore 4 1 0 0 [.ref h] [ww] (fun bs => ∃ (w2 : va_W) (g5 : Nat → Int32) (g6 : Nat → Int32), bs = [w2] ∧ bWays T h la md wy pc_ f1 f2 f3 f4 g5 g6 n4 w2) := by
  refine zMv_of (own := RX0) (by decide) rfl (Nat.le_of_ble_eq_true rfl) ?_
  intro p e s m args below meth c A ls C hr hlocks hnm hAe G hl
  refine zHide (fun Qz_ hQz_ => ?_)
  have hx := C.1
  have hb := C.2.1
  have hl : lv_has ls 4 [(0, .ref h)] := hl
  refine lv_iconst (v := 0) hx hb dX0_oneMore_0 (by decide) ?_
  refine lv_istore_n (lv' := [(1, .int 0), (0, .ref h)]) hx hb dX0_oneMore_1 rfl hl (by decide) (zLvf_h rfl) (fun ls hl => ?_)
  refine zEx6 hww ?_
  intro a1_1 a2_2 a3_3 a4_4 a5_5 a6_6 hbs9
  clear hww
  subst hbs9
  have G : zS T A s.heap s [[zO0 h md wy la pc_ a1_1 a2_2 a3_3 a4_4 a5_5 a6_6], [zAr T 0 a1_1 7 f1], [zAr T 0 a2_2 7 f2], [zAr T 0 a3_3 7 f3], [zAr T 0 a4_4 n4 f4], [zAr T 0 a5_5 n4 f5], [zAr T 0 a6_6 n4 f6]] _ _ := G.re rfl
  have hw_7 : bWays T h la md wy pc_ f1 f2 f3 f4 f5 f6 n4 [zO0 h md wy la pc_ a1_1 a2_2 a3_3 a4_4 a5_5 a6_6, zAr T 0 a1_1 7 f1, zAr T 0 a2_2 7 f2, zAr T 0 a3_3 7 f3, zAr T 0 a4_4 n4 f4, zAr T 0 a5_5 n4 f5, zAr T 0 a6_6 n4 f6] := ⟨a1_1, a2_2, a3_3, a4_4, a5_5, a6_6, rfl⟩
  have G : zS T A s.heap s [[zO0 h md wy la pc_ a1_1 a2_2 a3_3 a4_4 a5_5 a6_6, zAr T 0 a1_1 7 f1, zAr T 0 a2_2 7 f2, zAr T 0 a3_3 7 f3, zAr T 0 a4_4 n4 f4, zAr T 0 a5_5 n4 f5, zAr T 0 a6_6 n4 f6]] _ _ := G.re rfl
  refine z_lp3 (T := T) 2 (fun (i : Nat) (wt : va_W) (x5 : Nat → Int32) => [wt]) (fun (i : Nat) (wt : va_W) (x5 : Nat → Int32) => [(1, .int (nI i)), (0, .ref h)]) (fun (i : Nat) (wt : va_W) (x5 : Nat → Int32) => bWays T h la md wy pc_ f1 f2 f3 f4 x5 f6 n4 wt ∧ i ≤ pc_.toInt.toNat) (fun (i : Nat) (wt : va_W) (x5 : Nat → Int32) => pc_.toInt.toNat - i) ?_ 0 ([zO0 h md wy la pc_ a1_1 a2_2 a3_3 a4_4 a5_5 a6_6, zAr T 0 a1_1 7 f1, zAr T 0 a2_2 7 f2, zAr T 0 a3_3 7 f3, zAr T 0 a4_4 n4 f4, zAr T 0 a5_5 n4 f5, zAr T 0 a6_6 n4 f6]) f5 (show bWays T h la md wy pc_ f1 f2 f3 f4 f5 f6 n4 ([zO0 h md wy la pc_ a1_1 a2_2 a3_3 a4_4 a5_5 a6_6, zAr T 0 a1_1 7 f1, zAr T 0 a2_2 7 f2, zAr T 0 a3_3 7 f3, zAr T 0 a4_4 n4 f4, zAr T 0 a5_5 n4 f5, zAr T 0 a6_6 n4 f6]) ∧ 0 ≤ pc_.toInt.toNat from ⟨hw_7, by omega⟩) G (lv_sub hl [0, 1] rfl)
  intro i wt x5 hI9 ih_2 H locs ls G hl
  replace hI9 : bWays T h la md wy pc_ f1 f2 f3 f4 x5 f6 n4 wt ∧ i ≤ pc_.toInt.toNat := hI9
  refine zAn2 hI9 ?_
  intro hwt hi
  clear hI9
  replace G : zS T A s.heap s [wt] _ _ := G
  replace hl : lv_has ls 4 [(1, .int (nI i)), (0, .ref h)] := hl
  refine lv_iload_n hx hb dX0_oneMore_2 rfl (lv_at hl 0 rfl) ?_
  refine lv_aload_n hx hb dX0_oneMore_3 rfl (lv_at hl 1 rfl) ?_
  refine zEx6 hwt ?_
  intro a1_8 a2_9 a3_10 a4_11 a5_12 a6_13 hbs9
  clear hwt
  subst hbs9
  have G : zS T A s.heap s [[zO0 h md wy la pc_ a1_8 a2_9 a3_10 a4_11 a5_12 a6_13], [zAr T 0 a1_8 7 f1], [zAr T 0 a2_9 7 f2], [zAr T 0 a3_10 7 f3], [zAr T 0 a4_11 n4 f4], [zAr T 0 a5_12 n4 x5], [zAr T 0 a6_13 n4 f6]] _ _ := G.re rfl
  refine z_get C G clX0 0 rfl 3 (by decide) m_fl_RX0_75 rfl dX0_oneMore_4 ?_
  refine lv_icmp_ge (tgt := 66) hx hb dX0_oneMore_7 (by decide) (fun c_14 => ?_) (fun c_14 => ?_)
  · have c_14n : pc_.toInt ≤ (i : Int) := by have q := (fa_le _ _).mp c_14; rw [nI_toInt (n := i) (by omega)] at q; exact q
    have hw_15 : bWays T h la md wy pc_ f1 f2 f3 f4 x5 f6 n4 [zO0 h md wy la pc_ a1_8 a2_9 a3_10 a4_11 a5_12 a6_13, zAr T 0 a1_8 7 f1, zAr T 0 a2_9 7 f2, zAr T 0 a3_10 7 f3, zAr T 0 a4_11 n4 f4, zAr T 0 a5_12 n4 x5, zAr T 0 a6_13 n4 f6] := ⟨a1_8, a2_9, a3_10, a4_11, a5_12, a6_13, rfl⟩
    have G : zS T A s.heap s [[zO0 h md wy la pc_ a1_8 a2_9 a3_10 a4_11 a5_12 a6_13, zAr T 0 a1_8 7 f1, zAr T 0 a2_9 7 f2, zAr T 0 a3_10 7 f3, zAr T 0 a4_11 n4 f4, zAr T 0 a5_12 n4 x5, zAr T 0 a6_13 n4 f6]] _ _ := G.re rfl
    exact z_back hQz_ (z_vret C hr hlocks G (Nat.le_of_ble_eq_true rfl) (Nat.le_of_ble_eq_true rfl) dX0_oneMore_66 ⟨([zO0 h md wy la pc_ a1_8 a2_9 a3_10 a4_11 a5_12 a6_13, zAr T 0 a1_8 7 f1, zAr T 0 a2_9 7 f2, zAr T 0 a3_10 7 f3, zAr T 0 a4_11 n4 f4, zAr T 0 a5_12 n4 x5, zAr T 0 a6_13 n4 f6]), x5, f6, rfl, hw_15⟩)
  · have c_14n : ¬ pc_.toInt ≤ (i : Int) := fun q => c_14 ((fa_le _ _).mpr (by rw [nI_toInt (n := i) (by omega)]; exact q))
    refine lv_iload_n hx hb dX0_oneMore_10 rfl (lv_at hl 0 rfl) ?_
    refine lv_aload_n hx hb dX0_oneMore_11 rfl (lv_at hl 1 rfl) ?_
    refine z_get C G clX0 0 rfl 8 (by decide) m_fl_RX0_31 rfl dX0_oneMore_12 ?_
    refine z_alen C G 5 0 rfl (v := nI n4) rfl rfl dX0_oneMore_15 ?_
    refine lv_icmp_ge (tgt := 66) hx hb dX0_oneMore_16 (by decide) (fun c_16 => ?_) (fun c_16 => ?_)
    · have c_16n : n4 ≤ i := (nI_leI (a := n4) (b := i) (by omega) (by omega)).mp c_16
      have hw_17 : bWays T h la md wy pc_ f1 f2 f3 f4 x5 f6 n4 [zO0 h md wy la pc_ a1_8 a2_9 a3_10 a4_11 a5_12 a6_13, zAr T 0 a1_8 7 f1, zAr T 0 a2_9 7 f2, zAr T 0 a3_10 7 f3, zAr T 0 a4_11 n4 f4, zAr T 0 a5_12 n4 x5, zAr T 0 a6_13 n4 f6] := ⟨a1_8, a2_9, a3_10, a4_11, a5_12, a6_13, rfl⟩
      have G : zS T A s.heap s [[zO0 h md wy la pc_ a1_8 a2_9 a3_10 a4_11 a5_12 a6_13, zAr T 0 a1_8 7 f1, zAr T 0 a2_9 7 f2, zAr T 0 a3_10 7 f3, zAr T 0 a4_11 n4 f4, zAr T 0 a5_12 n4 x5, zAr T 0 a6_13 n4 f6]] _ _ := G.re rfl
      exact z_back hQz_ (z_vret C hr hlocks G (Nat.le_of_ble_eq_true rfl) (Nat.le_of_ble_eq_true rfl) dX0_oneMore_66 ⟨([zO0 h md wy la pc_ a1_8 a2_9 a3_10 a4_11 a5_12 a6_13, zAr T 0 a1_8 7 f1, zAr T 0 a2_9 7 f2, zAr T 0 a3_10 7 f3, zAr T 0 a4_11 n4 f4, zAr T 0 a5_12 n4 x5, zAr T 0 a6_13 n4 f6]), x5, f6, rfl, hw_17⟩)
    · have c_16n : ¬ n4 ≤ i := fun q => c_16 ((nI_leI (a := n4) (b := i) (by omega) (by omega)).mpr q)
      refine lv_aload_n hx hb dX0_oneMore_19 rfl (lv_at hl 1 rfl) ?_
      refine z_get C G clX0 0 rfl 8 (by decide) m_fl_RX0_31 rfl dX0_oneMore_20 ?_
      refine lv_iload_n hx hb dX0_oneMore_23 rfl (lv_at hl 0 rfl) ?_
      refine z_ild C G 5 rfl (vp_in_nI (by omega) (by omega)) dX0_oneMore_24 ?_
      refine lv_topi (fun v_18 ev_18 => ?_)
      rw [nI_clamp (by omega)] at ev_18
      subst ev_18
      refine lv_istore_n (lv' := [(2, .int (x5 i)), (1, .int (nI i)), (0, .ref h)]) hx hb dX0_oneMore_25 rfl hl (by decide) (zLvf_h rfl) (fun ls hl => ?_)
      refine lv_iload_n hx hb dX0_oneMore_26 rfl (lv_at hl 0 rfl) ?_
      refine lv_ldc (v := 131071) hx hb C.2.2.2.1 (C.2.2.2.2 _ m_ko_RX0_90) dX0_oneMore_27 ?_
      refine lv_iand hx hb dX0_oneMore_29 ?_
      refine lv_istore_n (lv' := [(3, .int ((x5 i) &&& 131071)), (2, .int (x5 i)), (1, .int (nI i)), (0, .ref h)]) hx hb dX0_oneMore_30 rfl hl (by decide) (zLvf_h rfl) (fun ls hl => ?_)
      refine lv_aload_n hx hb dX0_oneMore_31 rfl (lv_at hl 3 rfl) ?_
      refine z_get C G clX0 0 rfl 8 (by decide) m_fl_RX0_31 rfl dX0_oneMore_32 ?_
      refine lv_iload_n hx hb dX0_oneMore_35 rfl (lv_at hl 2 rfl) ?_
      refine lv_iload_n hx hb dX0_oneMore_36 rfl (lv_at hl 0 rfl) ?_
      refine lv_aload_n hx hb dX0_oneMore_37 rfl (lv_at hl 3 rfl) ?_
      refine z_get C G clX0 0 rfl 7 (by decide) m_fl_RX0_28 rfl dX0_oneMore_38 ?_
      refine z_alen C G 4 0 rfl (v := nI n4) rfl rfl dX0_oneMore_41 ?_
      refine lv_icmp_ge (tgt := 58) hx hb dX0_oneMore_42 (by decide) (fun c_19 => ?_) (fun c_19 => ?_)
      · have c_19n : (n4 : Int) ≤ ((x5 i) &&& 131071).toInt := by have q := (fa_le _ _).mp c_19; rw [nI_toInt (n := n4) (by omega)] at q; exact q
        refine lv_iload_n hx hb dX0_oneMore_58 rfl (lv_at hl 1 rfl) ?_
        refine z_ist C G 5 rfl (vp_in_nI (by omega) (by omega)) dX0_oneMore_59 (fun H locs G => ?_)
        rw [nI_clamp (by omega)] at G
        have G : zS T A s.heap s [[zO0 h md wy la pc_ a1_8 a2_9 a3_10 a4_11 a5_12 a6_13], [zAr T 0 a1_8 7 f1], [zAr T 0 a2_9 7 f2], [zAr T 0 a3_10 7 f3], [zAr T 0 a4_11 n4 f4], [zAr T 0 a5_12 n4 (upd x5 i (x5 i))], [zAr T 0 a6_13 n4 f6]] _ _ := G
        refine lv_iinc (v := nI (i + 1)) (lv' := [(1, .int (nI (i + 1))), (3, .int ((x5 i) &&& 131071)), (2, .int (x5 i)), (0, .ref h)]) hx hb dX0_oneMore_60 hl (k := 2) rfl (z_inc i 1) (by decide) (zLvf_h rfl) (fun ls hl => ?_)
        refine lv_goto (tgt := 2) hx hb dX0_oneMore_63 (by decide) ?_
        have hw_20 : bWays T h la md wy pc_ f1 f2 f3 f4 (upd x5 i (x5 i)) f6 n4 [zO0 h md wy la pc_ a1_8 a2_9 a3_10 a4_11 a5_12 a6_13, zAr T 0 a1_8 7 f1, zAr T 0 a2_9 7 f2, zAr T 0 a3_10 7 f3, zAr T 0 a4_11 n4 f4, zAr T 0 a5_12 n4 (upd x5 i (x5 i)), zAr T 0 a6_13 n4 f6] := ⟨a1_8, a2_9, a3_10, a4_11, a5_12, a6_13, rfl⟩
        have G : zS T A s.heap s [[zO0 h md wy la pc_ a1_8 a2_9 a3_10 a4_11 a5_12 a6_13, zAr T 0 a1_8 7 f1, zAr T 0 a2_9 7 f2, zAr T 0 a3_10 7 f3, zAr T 0 a4_11 n4 f4, zAr T 0 a5_12 n4 (upd x5 i (x5 i)), zAr T 0 a6_13 n4 f6]] _ _ := G.re rfl
        exact ih_2 (i + 1) ([zO0 h md wy la pc_ a1_8 a2_9 a3_10 a4_11 a5_12 a6_13, zAr T 0 a1_8 7 f1, zAr T 0 a2_9 7 f2, zAr T 0 a3_10 7 f3, zAr T 0 a4_11 n4 f4, zAr T 0 a5_12 n4 (upd x5 i (x5 i)), zAr T 0 a6_13 n4 f6]) (upd x5 i (x5 i)) (show bWays T h la md wy pc_ f1 f2 f3 f4 (upd x5 i (x5 i)) f6 n4 ([zO0 h md wy la pc_ a1_8 a2_9 a3_10 a4_11 a5_12 a6_13, zAr T 0 a1_8 7 f1, zAr T 0 a2_9 7 f2, zAr T 0 a3_10 7 f3, zAr T 0 a4_11 n4 f4, zAr T 0 a5_12 n4 (upd x5 i (x5 i)), zAr T 0 a6_13 n4 f6]) ∧ (i + 1) ≤ pc_.toInt.toNat from ⟨hw_20, by omega⟩) (show pc_.toInt.toNat - (i + 1) < pc_.toInt.toNat - i from by omega) _ _ ls G (lv_sub hl [0, 3] rfl)
      · have c_19n : ¬ (n4 : Int) ≤ ((x5 i) &&& 131071).toInt := fun q => c_19 ((fa_le _ _).mpr (by rw [nI_toInt (n := n4) (by omega)]; exact q))
        refine lv_aload_n hx hb dX0_oneMore_45 rfl (lv_at hl 3 rfl) ?_
        refine z_get C G clX0 0 rfl 7 (by decide) m_fl_RX0_28 rfl dX0_oneMore_46 ?_
        refine lv_iload_n hx hb dX0_oneMore_49 rfl (lv_at hl 0 rfl) ?_
        refine z_ild C G 4 rfl (vp_in_iff.mpr ⟨z_andP _, by omega⟩) dX0_oneMore_50 ?_
        refine lv_topi (fun v_21 ev_21 => ?_)
        subst ev_21
        refine lv_iload_n hx hb dX0_oneMore_51 rfl (lv_at hl 1 rfl) ?_
        refine lv_iload_n hx hb dX0_oneMore_52 rfl (lv_at hl 0 rfl) ?_
        refine lv_isub hx hb dX0_oneMore_53 ?_
        refine lv_iadd hx hb dX0_oneMore_54 ?_
        refine lv_goto (tgt := 59) hx hb dX0_oneMore_55 (by decide) ?_
        refine z_ist C G 5 rfl (vp_in_nI (by omega) (by omega)) dX0_oneMore_59 (fun H locs G => ?_)
        rw [nI_clamp (by omega)] at G
        have G : zS T A s.heap s [[zO0 h md wy la pc_ a1_8 a2_9 a3_10 a4_11 a5_12 a6_13], [zAr T 0 a1_8 7 f1], [zAr T 0 a2_9 7 f2], [zAr T 0 a3_10 7 f3], [zAr T 0 a4_11 n4 f4], [zAr T 0 a5_12 n4 (upd x5 i ((f4 ((x5 i) &&& 131071).toNatClampNeg) + ((x5 i) - ((x5 i) &&& 131071))))], [zAr T 0 a6_13 n4 f6]] _ _ := G
        refine lv_iinc (v := nI (i + 1)) (lv' := [(1, .int (nI (i + 1))), (3, .int ((x5 i) &&& 131071)), (2, .int (x5 i)), (0, .ref h)]) hx hb dX0_oneMore_60 hl (k := 2) rfl (z_inc i 1) (by decide) (zLvf_h rfl) (fun ls hl => ?_)
        refine lv_goto (tgt := 2) hx hb dX0_oneMore_63 (by decide) ?_
        have hw_22 : bWays T h la md wy pc_ f1 f2 f3 f4 (upd x5 i ((f4 ((x5 i) &&& 131071).toNatClampNeg) + ((x5 i) - ((x5 i) &&& 131071)))) f6 n4 [zO0 h md wy la pc_ a1_8 a2_9 a3_10 a4_11 a5_12 a6_13, zAr T 0 a1_8 7 f1, zAr T 0 a2_9 7 f2, zAr T 0 a3_10 7 f3, zAr T 0 a4_11 n4 f4, zAr T 0 a5_12 n4 (upd x5 i ((f4 ((x5 i) &&& 131071).toNatClampNeg) + ((x5 i) - ((x5 i) &&& 131071)))), zAr T 0 a6_13 n4 f6] := ⟨a1_8, a2_9, a3_10, a4_11, a5_12, a6_13, rfl⟩
        have G : zS T A s.heap s [[zO0 h md wy la pc_ a1_8 a2_9 a3_10 a4_11 a5_12 a6_13, zAr T 0 a1_8 7 f1, zAr T 0 a2_9 7 f2, zAr T 0 a3_10 7 f3, zAr T 0 a4_11 n4 f4, zAr T 0 a5_12 n4 (upd x5 i ((f4 ((x5 i) &&& 131071).toNatClampNeg) + ((x5 i) - ((x5 i) &&& 131071)))), zAr T 0 a6_13 n4 f6]] _ _ := G.re rfl
        exact ih_2 (i + 1) ([zO0 h md wy la pc_ a1_8 a2_9 a3_10 a4_11 a5_12 a6_13, zAr T 0 a1_8 7 f1, zAr T 0 a2_9 7 f2, zAr T 0 a3_10 7 f3, zAr T 0 a4_11 n4 f4, zAr T 0 a5_12 n4 (upd x5 i ((f4 ((x5 i) &&& 131071).toNatClampNeg) + ((x5 i) - ((x5 i) &&& 131071)))), zAr T 0 a6_13 n4 f6]) (upd x5 i ((f4 ((x5 i) &&& 131071).toNatClampNeg) + ((x5 i) - ((x5 i) &&& 131071)))) (show bWays T h la md wy pc_ f1 f2 f3 f4 (upd x5 i ((f4 ((x5 i) &&& 131071).toNatClampNeg) + ((x5 i) - ((x5 i) &&& 131071)))) f6 n4 ([zO0 h md wy la pc_ a1_8 a2_9 a3_10 a4_11 a5_12 a6_13, zAr T 0 a1_8 7 f1, zAr T 0 a2_9 7 f2, zAr T 0 a3_10 7 f3, zAr T 0 a4_11 n4 f4, zAr T 0 a5_12 n4 (upd x5 i ((f4 ((x5 i) &&& 131071).toNatClampNeg) + ((x5 i) - ((x5 i) &&& 131071)))), zAr T 0 a6_13 n4 f6]) ∧ (i + 1) ≤ pc_.toInt.toNat from ⟨hw_22, by omega⟩) (show pc_.toInt.toNat - (i + 1) < pc_.toInt.toNat - i from by omega) _ _ ls G (lv_sub hl [0, 3] rfl)
set_option maxHeartbeats 4000000 in
set_option maxRecDepth 100000 in
/-- doubleAll -/
theorem c_doubleAll (l : Launch) (T : zTy) (h : Nat) (la : Nat) (md : Int32) (wy : Int32) (pc_ : Int32) (f1 : Nat → Int32) (f2 : Nat → Int32) (f3 : Nat → Int32) (f4 : Nat → Int32) (f5 : Nat → Int32) (f6 : Nat → Int32) (n4 : Nat) (ww : va_W) (hww : bWays T h la md wy pc_ f1 f2 f3 f4 f5 f6 n4 ww) (hn : n4 ≤ 131072) (hpl : pc_.toInt ≤ 131072) : zMv l T yX0_doubleAll cX0_doubleAll 6 1 0 0 [.ref h] [ww] (fun bs => ∃ (w2 : va_W) (g5 : Nat → Int32) (g6 : Nat → Int32), bs = [w2] ∧ bWays T h la md wy pc_ f1 f2 f3 f4 g5 g6 n4 w2) := by
  refine zMv_of (own := RX0) (by decide) rfl (Nat.le_of_ble_eq_true rfl) ?_
  intro p e s m args below meth c A ls C hr hlocks hnm hAe G hl
  refine zHide (fun Qz_ hQz_ => ?_)
  have hx := C.1
  have hb := C.2.1
  have hl : lv_has ls 6 [(0, .ref h)] := hl
  refine lv_aload_n hx hb dX0_doubleAll_0 rfl (lv_at hl 0 rfl) ?_
  refine zEx6 hww ?_
  intro a1_1 a2_2 a3_3 a4_4 a5_5 a6_6 hbs9
  clear hww
  subst hbs9
  have G : zS T A s.heap s [[zO0 h md wy la pc_ a1_1 a2_2 a3_3 a4_4 a5_5 a6_6], [zAr T 0 a1_1 7 f1], [zAr T 0 a2_2 7 f2], [zAr T 0 a3_3 7 f3], [zAr T 0 a4_4 n4 f4], [zAr T 0 a5_5 n4 f5], [zAr T 0 a6_6 n4 f6]] _ _ := G.re rfl
  refine z_get C G clX0 0 rfl 8 (by decide) m_fl_RX0_31 rfl dX0_doubleAll_1 ?_
  refine lv_astore_n (lv' := [(1, .ref a5_5), (0, .ref h)]) hx hb dX0_doubleAll_4 rfl hl (by decide) (zLvf_h rfl) (fun ls hl => ?_)
  refine lv_aload_n hx hb dX0_doubleAll_5 rfl (lv_at hl 1 rfl) ?_
  refine z_get C G clX0 0 rfl 9 (by decide) m_fl_RX0_34 rfl dX0_doubleAll_6 ?_
  refine lv_astore_n (lv' := [(2, .ref a6_6), (1, .ref a5_5), (0, .ref h)]) hx hb dX0_doubleAll_9 rfl hl (by decide) (zLvf_h rfl) (fun ls hl => ?_)
  refine lv_iconst (v := 0) hx hb dX0_doubleAll_10 (by decide) ?_
  refine lv_istore_n (lv' := [(3, .int 0), (2, .ref a6_6), (1, .ref a5_5), (0, .ref h)]) hx hb dX0_doubleAll_11 rfl hl (by decide) (zLvf_h rfl) (fun ls hl => ?_)
  refine z_lp2 (T := T) 12 (fun (i : Nat) (x6 : Nat → Int32) => [[zO0 h md wy la pc_ a1_1 a2_2 a3_3 a4_4 a5_5 a6_6], [zAr T 0 a1_1 7 f1], [zAr T 0 a2_2 7 f2], [zAr T 0 a3_3 7 f3], [zAr T 0 a4_4 n4 f4], [zAr T 0 a5_5 n4 f5], [zAr T 0 a6_6 n4 x6]]) (fun (i : Nat) (x6 : Nat → Int32) => [(3, .int (nI i)), (2, .ref a6_6), (1, .ref a5_5), (0, .ref h)]) (fun (i : Nat) (x6 : Nat → Int32) => i ≤ pc_.toInt.toNat) (fun (i : Nat) (x6 : Nat → Int32) => pc_.toInt.toNat - i) ?_ 0 f6 (show 0 ≤ pc_.toInt.toNat from by omega) G (lv_sub hl [0, 1, 2, 3] rfl)
  intro i x6 hi ih_12 H locs ls G hl
  replace hi : i ≤ pc_.toInt.toNat := hi
  replace G : zS T A s.heap s [[zO0 h md wy la pc_ a1_1 a2_2 a3_3 a4_4 a5_5 a6_6], [zAr T 0 a1_1 7 f1], [zAr T 0 a2_2 7 f2], [zAr T 0 a3_3 7 f3], [zAr T 0 a4_4 n4 f4], [zAr T 0 a5_5 n4 f5], [zAr T 0 a6_6 n4 x6]] _ _ := G
  replace hl : lv_has ls 6 [(3, .int (nI i)), (2, .ref a6_6), (1, .ref a5_5), (0, .ref h)] := hl
  refine lv_iload_n hx hb dX0_doubleAll_12 rfl (lv_at hl 0 rfl) ?_
  refine lv_aload_n hx hb dX0_doubleAll_13 rfl (lv_at hl 3 rfl) ?_
  refine z_get C G clX0 0 rfl 3 (by decide) m_fl_RX0_75 rfl dX0_doubleAll_14 ?_
  refine lv_icmp_ge (tgt := 75) hx hb dX0_doubleAll_17 (by decide) (fun c_7 => ?_) (fun c_7 => ?_)
  · have c_7n : pc_.toInt ≤ (i : Int) := by have q := (fa_le _ _).mp c_7; rw [nI_toInt (n := i) (by omega)] at q; exact q
    refine lv_aload_n hx hb dX0_doubleAll_75 rfl (lv_at hl 3 rfl) ?_
    refine lv_aload_n hx hb dX0_doubleAll_76 rfl (lv_at hl 1 rfl) ?_
    refine z_put C G clX0 0 rfl 8 (by decide) m_fl_RX0_31 rfl rfl rfl (Nat.le_of_ble_eq_true rfl) dX0_doubleAll_77 (fun H locs G => ?_)
    have G : zS T A s.heap s [[zO0 h md wy la pc_ a1_1 a2_2 a3_3 a4_4 a6_6 a6_6], [zAr T 0 a1_1 7 f1], [zAr T 0 a2_2 7 f2], [zAr T 0 a3_3 7 f3], [zAr T 0 a4_4 n4 f4], [zAr T 0 a5_5 n4 f5], [zAr T 0 a6_6 n4 x6]] _ _ := G
    refine lv_aload_n hx hb dX0_doubleAll_80 rfl (lv_at hl 3 rfl) ?_
    refine lv_aload_n hx hb dX0_doubleAll_81 rfl (lv_at hl 2 rfl) ?_
    refine z_put C G clX0 0 rfl 9 (by decide) m_fl_RX0_34 rfl rfl rfl (Nat.le_of_ble_eq_true rfl) dX0_doubleAll_82 (fun H locs G => ?_)
    have G : zS T A s.heap s [[zO0 h md wy la pc_ a1_1 a2_2 a3_3 a4_4 a6_6 a5_5], [zAr T 0 a1_1 7 f1], [zAr T 0 a2_2 7 f2], [zAr T 0 a3_3 7 f3], [zAr T 0 a4_4 n4 f4], [zAr T 0 a5_5 n4 f5], [zAr T 0 a6_6 n4 x6]] _ _ := G
    have G := G.sub (bs' := [[zO0 h md wy la pc_ a1_1 a2_2 a3_3 a4_4 a6_6 a5_5], [zAr T 0 a1_1 7 f1], [zAr T 0 a2_2 7 f2], [zAr T 0 a3_3 7 f3], [zAr T 0 a4_4 n4 f4], [zAr T 0 a6_6 n4 x6], [zAr T 0 a5_5 n4 f5]]) [0, 1, 2, 3, 4, 6, 5] rfl
    have hw_8 : bWays T h la md wy pc_ f1 f2 f3 f4 x6 f5 n4 [zO0 h md wy la pc_ a1_1 a2_2 a3_3 a4_4 a6_6 a5_5, zAr T 0 a1_1 7 f1, zAr T 0 a2_2 7 f2, zAr T 0 a3_3 7 f3, zAr T 0 a4_4 n4 f4, zAr T 0 a6_6 n4 x6, zAr T 0 a5_5 n4 f5] := ⟨a1_1, a2_2, a3_3, a4_4, a6_6, a5_5, rfl⟩
    have G : zS T A s.heap s [[zO0 h md wy la pc_ a1_1 a2_2 a3_3 a4_4 a6_6 a5_5, zAr T 0 a1_1 7 f1, zAr T 0 a2_2 7 f2, zAr T 0 a3_3 7 f3, zAr T 0 a4_4 n4 f4, zAr T 0 a6_6 n4 x6, zAr T 0 a5_5 n4 f5]] _ _ := G.re rfl
    exact z_back hQz_ (z_vret C hr hlocks G (Nat.le_of_ble_eq_true rfl) (Nat.le_of_ble_eq_true rfl) dX0_doubleAll_85 ⟨([zO0 h md wy la pc_ a1_1 a2_2 a3_3 a4_4 a6_6 a5_5, zAr T 0 a1_1 7 f1, zAr T 0 a2_2 7 f2, zAr T 0 a3_3 7 f3, zAr T 0 a4_4 n4 f4, zAr T 0 a6_6 n4 x6, zAr T 0 a5_5 n4 f5]), x6, f5, rfl, hw_8⟩)
  · have c_7n : ¬ pc_.toInt ≤ (i : Int) := fun q => c_7 ((fa_le _ _).mpr (by rw [nI_toInt (n := i) (by omega)]; exact q))
    refine lv_iload_n hx hb dX0_doubleAll_20 rfl (lv_at hl 0 rfl) ?_
    refine lv_aload_n hx hb dX0_doubleAll_21 rfl (lv_at hl 2 rfl) ?_
    refine z_alen C G 5 0 rfl (v := nI n4) rfl rfl dX0_doubleAll_22 ?_
    refine lv_icmp_ge (tgt := 75) hx hb dX0_doubleAll_23 (by decide) (fun c_9 => ?_) (fun c_9 => ?_)
    · have c_9n : n4 ≤ i := (nI_leI (a := n4) (b := i) (by omega) (by omega)).mp c_9
      refine lv_aload_n hx hb dX0_doubleAll_75 rfl (lv_at hl 3 rfl) ?_
      refine lv_aload_n hx hb dX0_doubleAll_76 rfl (lv_at hl 1 rfl) ?_
      refine z_put C G clX0 0 rfl 8 (by decide) m_fl_RX0_31 rfl rfl rfl (Nat.le_of_ble_eq_true rfl) dX0_doubleAll_77 (fun H locs G => ?_)
      have G : zS T A s.heap s [[zO0 h md wy la pc_ a1_1 a2_2 a3_3 a4_4 a6_6 a6_6], [zAr T 0 a1_1 7 f1], [zAr T 0 a2_2 7 f2], [zAr T 0 a3_3 7 f3], [zAr T 0 a4_4 n4 f4], [zAr T 0 a5_5 n4 f5], [zAr T 0 a6_6 n4 x6]] _ _ := G
      refine lv_aload_n hx hb dX0_doubleAll_80 rfl (lv_at hl 3 rfl) ?_
      refine lv_aload_n hx hb dX0_doubleAll_81 rfl (lv_at hl 2 rfl) ?_
      refine z_put C G clX0 0 rfl 9 (by decide) m_fl_RX0_34 rfl rfl rfl (Nat.le_of_ble_eq_true rfl) dX0_doubleAll_82 (fun H locs G => ?_)
      have G : zS T A s.heap s [[zO0 h md wy la pc_ a1_1 a2_2 a3_3 a4_4 a6_6 a5_5], [zAr T 0 a1_1 7 f1], [zAr T 0 a2_2 7 f2], [zAr T 0 a3_3 7 f3], [zAr T 0 a4_4 n4 f4], [zAr T 0 a5_5 n4 f5], [zAr T 0 a6_6 n4 x6]] _ _ := G
      have G := G.sub (bs' := [[zO0 h md wy la pc_ a1_1 a2_2 a3_3 a4_4 a6_6 a5_5], [zAr T 0 a1_1 7 f1], [zAr T 0 a2_2 7 f2], [zAr T 0 a3_3 7 f3], [zAr T 0 a4_4 n4 f4], [zAr T 0 a6_6 n4 x6], [zAr T 0 a5_5 n4 f5]]) [0, 1, 2, 3, 4, 6, 5] rfl
      have hw_10 : bWays T h la md wy pc_ f1 f2 f3 f4 x6 f5 n4 [zO0 h md wy la pc_ a1_1 a2_2 a3_3 a4_4 a6_6 a5_5, zAr T 0 a1_1 7 f1, zAr T 0 a2_2 7 f2, zAr T 0 a3_3 7 f3, zAr T 0 a4_4 n4 f4, zAr T 0 a6_6 n4 x6, zAr T 0 a5_5 n4 f5] := ⟨a1_1, a2_2, a3_3, a4_4, a6_6, a5_5, rfl⟩
      have G : zS T A s.heap s [[zO0 h md wy la pc_ a1_1 a2_2 a3_3 a4_4 a6_6 a5_5, zAr T 0 a1_1 7 f1, zAr T 0 a2_2 7 f2, zAr T 0 a3_3 7 f3, zAr T 0 a4_4 n4 f4, zAr T 0 a6_6 n4 x6, zAr T 0 a5_5 n4 f5]] _ _ := G.re rfl
      exact z_back hQz_ (z_vret C hr hlocks G (Nat.le_of_ble_eq_true rfl) (Nat.le_of_ble_eq_true rfl) dX0_doubleAll_85 ⟨([zO0 h md wy la pc_ a1_1 a2_2 a3_3 a4_4 a6_6 a5_5, zAr T 0 a1_1 7 f1, zAr T 0 a2_2 7 f2, zAr T 0 a3_3 7 f3, zAr T 0 a4_4 n4 f4, zAr T 0 a6_6 n4 x6, zAr T 0 a5_5 n4 f5]), x6, f5, rfl, hw_10⟩)
    · have c_9n : ¬ n4 ≤ i := fun q => c_9 ((nI_leI (a := n4) (b := i) (by omega) (by omega)).mpr q)
      refine lv_iload_n hx hb dX0_doubleAll_26 rfl (lv_at hl 0 rfl) ?_
      refine lv_aload_n hx hb dX0_doubleAll_27 rfl (lv_at hl 1 rfl) ?_
      refine z_alen C G 6 0 rfl (v := nI n4) rfl rfl dX0_doubleAll_28 ?_
      refine lv_icmp_ge (tgt := 75) hx hb dX0_doubleAll_29 (by decide) (fun q => absurd q c_9) (fun _ => ?_)
      refine lv_aload_n hx hb dX0_doubleAll_32 rfl (lv_at hl 2 rfl) ?_
      refine lv_iload_n hx hb dX0_doubleAll_33 rfl (lv_at hl 0 rfl) ?_
      refine z_ild C G 5 rfl (vp_in_nI (by omega) (by omega)) dX0_doubleAll_34 ?_
      refine lv_topi (fun v_11 ev_11 => ?_)
      rw [nI_clamp (by omega)] at ev_11
      subst ev_11
      refine lv_istore (lv' := [(4, .int (f5 i)), (3, .int (nI i)), (2, .ref a6_6), (1, .ref a5_5), (0, .ref h)]) hx hb dX0_doubleAll_35 hl (by decide) (zLvf_h rfl) (fun ls hl => ?_)
      refine lv_iload hx hb dX0_doubleAll_37 (lv_at hl 0 rfl) ?_
      refine lv_ldc (v := 131071) hx hb C.2.2.2.1 (C.2.2.2.2 _ m_ko_RX0_90) dX0_doubleAll_39 ?_
      refine lv_iand hx hb dX0_doubleAll_41 ?_
      refine lv_istore (lv' := [(5, .int ((f5 i) &&& 131071)), (4, .int (f5 i)), (3, .int (nI i)), (2, .ref a6_6), (1, .ref a5_5), (0, .ref h)]) hx hb dX0_doubleAll_42 hl (by decide) (zLvf_h rfl) (fun ls hl => ?_)
      refine lv_aload_n hx hb dX0_doubleAll_44 rfl (lv_at hl 3 rfl) ?_
      refine lv_iload_n hx hb dX0_doubleAll_45 rfl (lv_at hl 2 rfl) ?_
      refine lv_iload hx hb dX0_doubleAll_46 (lv_at hl 0 rfl) ?_
      refine lv_aload_n hx hb dX0_doubleAll_48 rfl (lv_at hl 4 rfl) ?_
      refine z_alen C G 5 0 rfl (v := nI n4) rfl rfl dX0_doubleAll_49 ?_
      refine lv_icmp_ge (tgt := 66) hx hb dX0_doubleAll_50 (by decide) (fun c_12 => ?_) (fun c_12 => ?_)
      · have c_12n : (n4 : Int) ≤ ((f5 i) &&& 131071).toInt := by have q := (fa_le _ _).mp c_12; rw [nI_toInt (n := n4) (by omega)] at q; exact q
        refine lv_iload hx hb dX0_doubleAll_66 (lv_at hl 1 rfl) ?_
        refine z_ist C G 6 rfl (vp_in_nI (by omega) (by omega)) dX0_doubleAll_68 (fun H locs G => ?_)
        rw [nI_clamp (by omega)] at G
        have G : zS T A s.heap s [[zO0 h md wy la pc_ a1_1 a2_2 a3_3 a4_4 a5_5 a6_6], [zAr T 0 a1_1 7 f1], [zAr T 0 a2_2 7 f2], [zAr T 0 a3_3 7 f3], [zAr T 0 a4_4 n4 f4], [zAr T 0 a5_5 n4 f5], [zAr T 0 a6_6 n4 (upd x6 i (f5 i))]] _ _ := G
        refine lv_iinc (v := nI (i + 1)) (lv' := [(3, .int (nI (i + 1))), (5, .int ((f5 i) &&& 131071)), (4, .int (f5 i)), (2, .ref a6_6), (1, .ref a5_5), (0, .ref h)]) hx hb dX0_doubleAll_69 hl (k := 2) rfl (z_inc i 1) (by decide) (zLvf_h rfl) (fun ls hl => ?_)
        refine lv_goto (tgt := 12) hx hb dX0_doubleAll_72 (by decide) ?_
        exact ih_12 (i + 1) (upd x6 i (f5 i)) (show (i + 1) ≤ pc_.toInt.toNat from by omega) (show pc_.toInt.toNat - (i + 1) < pc_.toInt.toNat - i from by omega) _ _ ls G (lv_sub hl [0, 3, 4, 5] rfl)
      · have c_12n : ¬ (n4 : Int) ≤ ((f5 i) &&& 131071).toInt := fun q => c_12 ((fa_le _ _).mpr (by rw [nI_toInt (n := n4) (by omega)]; exact q))
        refine lv_aload_n hx hb dX0_doubleAll_53 rfl (lv_at hl 4 rfl) ?_
        refine lv_iload hx hb dX0_doubleAll_54 (lv_at hl 0 rfl) ?_
        refine z_ild C G 5 rfl (vp_in_iff.mpr ⟨z_andP _, by omega⟩) dX0_doubleAll_56 ?_
        refine lv_topi (fun v_13 ev_13 => ?_)
        subst ev_13
        refine lv_iload hx hb dX0_doubleAll_57 (lv_at hl 1 rfl) ?_
        refine lv_iload hx hb dX0_doubleAll_59 (lv_at hl 0 rfl) ?_
        refine lv_isub hx hb dX0_doubleAll_61 ?_
        refine lv_iadd hx hb dX0_doubleAll_62 ?_
        refine lv_goto (tgt := 68) hx hb dX0_doubleAll_63 (by decide) ?_
        refine z_ist C G 6 rfl (vp_in_nI (by omega) (by omega)) dX0_doubleAll_68 (fun H locs G => ?_)
        rw [nI_clamp (by omega)] at G
        have G : zS T A s.heap s [[zO0 h md wy la pc_ a1_1 a2_2 a3_3 a4_4 a5_5 a6_6], [zAr T 0 a1_1 7 f1], [zAr T 0 a2_2 7 f2], [zAr T 0 a3_3 7 f3], [zAr T 0 a4_4 n4 f4], [zAr T 0 a5_5 n4 f5], [zAr T 0 a6_6 n4 (upd x6 i ((f5 ((f5 i) &&& 131071).toNatClampNeg) + ((f5 i) - ((f5 i) &&& 131071))))]] _ _ := G
        refine lv_iinc (v := nI (i + 1)) (lv' := [(3, .int (nI (i + 1))), (5, .int ((f5 i) &&& 131071)), (4, .int (f5 i)), (2, .ref a6_6), (1, .ref a5_5), (0, .ref h)]) hx hb dX0_doubleAll_69 hl (k := 2) rfl (z_inc i 1) (by decide) (zLvf_h rfl) (fun ls hl => ?_)
        refine lv_goto (tgt := 12) hx hb dX0_doubleAll_72 (by decide) ?_
        exact ih_12 (i + 1) (upd x6 i ((f5 ((f5 i) &&& 131071).toNatClampNeg) + ((f5 i) - ((f5 i) &&& 131071)))) (show (i + 1) ≤ pc_.toInt.toNat from by omega) (show pc_.toInt.toNat - (i + 1) < pc_.toInt.toNat - i from by omega) _ _ ls G (lv_sub hl [0, 3, 4, 5] rfl)

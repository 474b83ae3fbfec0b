theorem m_fl_RX0_37 : Cond.fieldLink RX0 37 (TX0 0).1 (TX0 0).2.1 (TX0 0).2.2.1 ∈ zT := zmem1 zsub_2 105 rfl rfl
theorem m_co_X0_grow : Cond.code yX0_grow cX0_grow 2 none ∈ zT := zmem1 zsub_4 226 rfl rfl
theorem m_ml_RX0_45 : Cond.methodLink RX0 45 yX0_grow ∈ zT := zmem1 zsub_4 223 rfl rfl
theorem m_im_X0_grow : Cond.instanceMethod yX0_grow ∈ zT := zmem1 zsub_4 225 rfl rfl
theorem m_se_X0_grow : Cond.selects RX0 yX0_grow yX0_grow ∈ zT := zmem 33 rfl rfl
theorem m_co_X0_stepOnce : Cond.code yX0_stepOnce cX0_stepOnce 5 none ∈ zT := zmem1 zsub_4 230 rfl rfl
theorem m_ml_RX0_48 : Cond.methodLink RX0 48 yX0_stepOnce ∈ zT := zmem1 zsub_4 227 rfl rfl
theorem m_im_X0_stepOnce : Cond.instanceMethod yX0_stepOnce ∈ zT := zmem1 zsub_4 229 rfl rfl
theorem m_se_X0_stepOnce : Cond.selects RX0 yX0_stepOnce yX0_stepOnce ∈ zT := zmem 34 rfl rfl
theorem m_co_X0_doubleAll : Cond.code yX0_doubleAll cX0_doubleAll 6 none ∈ zT := zmem1 zsub_5 6 rfl rfl
theorem m_ml_RX0_51 : Cond.methodLink RX0 51 yX0_doubleAll ∈ zT := zmem1 zsub_5 3 rfl rfl
theorem m_im_X0_doubleAll : Cond.instanceMethod yX0_doubleAll ∈ zT := zmem1 zsub_5 5 rfl rfl
theorem m_se_X0_doubleAll : Cond.selects RX0 yX0_doubleAll yX0_doubleAll ∈ zT := zmem 35 rfl rfl
theorem m_co_X0_oneMore : Cond.code yX0_oneMore cX0_oneMore 4 none ∈ zT := zmem1 zsub_5 11 rfl rfl
theorem m_ml_RX0_54 : Cond.methodLink RX0 54 yX0_oneMore ∈ zT := zmem1 zsub_5 8 rfl rfl
theorem m_im_X0_oneMore : Cond.instanceMethod yX0_oneMore ∈ zT := zmem1 zsub_5 10 rfl rfl
theorem m_se_X0_oneMore : Cond.selects RX0 yX0_oneMore yX0_oneMore ∈ zT := zmem 36 rfl rfl
theorem m_fl_RX3_34 : Cond.fieldLink RX3 34 (TX3 3).1 (TX3 3).2.1 (TX3 3).2.2.1 ∈ zT := zmem1 zsub_2 151 rfl rfl
theorem m_co_X3_way : Cond.code yX3_way cX3_way 2 (some .int) ∈ zT := zmem1 zsub_5 151 rfl rfl
theorem m_ml_RX3_92 : Cond.methodLink RX3 92 yX3_way ∈ zT := zmem1 zsub_5 148 rfl rfl
theorem m_im_X3_way : Cond.instanceMethod yX3_way ∈ zT := zmem1 zsub_5 149 rfl rfl
theorem m_se_X3_way : Cond.selects RX3 yX3_way yX3_way ∈ zT := zmem1 zsub_5 150 rfl rfl
theorem m_ii_RX3 : Cond.initialized RX3 ∈ zT := zmem1 zsub_1 11 rfl rfl
theorem m_ml_RX3_96 : Cond.methodLink RX3 96 yX0_road ∈ zT := zmem1 zsub_5 152 rfl rfl
theorem m_fl_RX3_55 : Cond.fieldLink RX3 55 (TX0 2).1 (TX0 2).2.1 (TX0 2).2.2.1 ∈ zT := zmem1 zsub_2 111 rfl rfl
theorem m_ml_RX3_58 : Cond.methodLink RX3 58 yX4_has ∈ zT := zmem1 zsub_5 126 rfl rfl
theorem m_co_X3_pointing : Cond.code yX3_pointing cX3_pointing 6 (some .int) ∈ zT := zmem1 zsub_5 156 rfl rfl
theorem m_ml_RX3_99 : Cond.methodLink RX3 99 yX3_pointing ∈ zT := zmem1 zsub_5 153 rfl rfl
theorem m_im_X3_pointing : Cond.instanceMethod yX3_pointing ∈ zT := zmem1 zsub_5 154 rfl rfl
theorem m_se_X3_pointing : Cond.selects RX3 yX3_pointing yX3_pointing ∈ zT := zmem1 zsub_5 155 rfl rfl
theorem m_ml_RX3_86 : Cond.methodLink RX3 86 yX0_where ∈ zT := zmem1 zsub_5 130 rfl rfl
theorem m_ml_RX3_89 : Cond.methodLink RX3 89 yX4_isInn ∈ zT := zmem1 zsub_5 131 rfl rfl
theorem m_ml_RX3_83 : Cond.methodLink RX3 83 Lib.Math.max.name ∈ zT := zmem1 zsub_5 135 rfl rfl
theorem m_fl_RX3_103 : Cond.fieldLink RX3 103 (TX4 0).1 (TX4 0).2.1 (TX4 0).2.2.1 ∈ zT := zmem1 zsub_1 46 rfl rfl
theorem m_co_X3_mostTogether : Cond.code yX3_mostTogether cX3_mostTogether 6 (some .int) ∈ zT := zmem1 zsub_5 143 rfl rfl
theorem m_ml_RX3_106 : Cond.methodLink RX3 106 yX3_mostTogether ∈ zT := zmem1 zsub_5 140 rfl rfl
theorem m_im_X3_mostTogether : Cond.instanceMethod yX3_mostTogether ∈ zT := zmem1 zsub_5 142 rfl rfl
theorem m_se_X3_mostTogether : Cond.selects RX3 yX3_mostTogether yX3_mostTogether ∈ zT := zmem 44 rfl rfl
theorem m_fl_RX3_47 : Cond.fieldLink RX3 47 (TX5 0).1 (TX5 0).2.1 (TX5 0).2.2.1 ∈ zT := zmem1 zsub_1 116 rfl rfl
theorem m_fl_RX3_37 : Cond.fieldLink RX3 37 (TX3 4).1 (TX3 4).2.1 (TX3 4).2.2.1 ∈ zT := zmem1 zsub_2 153 rfl rfl
theorem m_ml_RX3_78 : Cond.methodLink RX3 78 Lib.Math.min.name ∈ zT := zmem1 zsub_5 134 rfl rfl
theorem m_fl_RX3_40 : Cond.fieldLink RX3 40 (TX3 5).1 (TX3 5).2.1 (TX3 5).2.2.1 ∈ zT := zmem1 zsub_2 155 rfl rfl
theorem m_fl_RX3_52 : Cond.fieldLink RX3 52 (TX5 1).1 (TX5 1).2.1 (TX5 1).2.2.1 ∈ zT := zmem1 zsub_1 118 rfl rfl
theorem m_fl_RX3_64 : Cond.fieldLink RX3 64 (TX5 2).1 (TX5 2).2.1 (TX5 2).2.2.1 ∈ zT := zmem1 zsub_1 120 rfl rfl
theorem m_co_X3_isSo : Cond.code yX3_isSo cX3_isSo 5 (some .boolean) ∈ zT := zmem1 zsub_5 129 rfl rfl
theorem m_ml_RX3_67 : Cond.methodLink RX3 67 yX3_isSo ∈ zT := zmem1 zsub_5 127 rfl rfl
theorem m_st_X3_isSo : Cond.static yX3_isSo ∈ zT := zmem1 zsub_5 128 rfl rfl
theorem m_ml_RX3_71 : Cond.methodLink RX3 71 yX0_steps ∈ zT := zmem1 zsub_5 132 rfl rfl
theorem m_co_X0_wayAfter : Cond.code yX0_wayAfter cX0_wayAfter 3 (some .int) ∈ zT := zmem1 zsub_5 89 rfl rfl
theorem m_ml_RX3_75 : Cond.methodLink RX3 75 yX0_wayAfter ∈ zT := zmem1 zsub_5 133 rfl rfl
theorem m_im_X0_wayAfter : Cond.instanceMethod yX0_wayAfter ∈ zT := zmem1 zsub_5 87 rfl rfl
theorem m_se_X0_wayAfter : Cond.selects RX0 yX0_wayAfter yX0_wayAfter ∈ zT := zmem1 zsub_5 88 rfl rfl
theorem m_fl_RX3_25 : Cond.fieldLink RX3 25 (TX0 1).1 (TX0 1).2.1 (TX0 1).2.2.1 ∈ zT := zmem1 zsub_2 107 rfl rfl
theorem m_co_X3_grow : Cond.code yX3_grow cX3_grow 3 none ∈ zT := zmem1 zsub_5 121 rfl rfl
theorem m_ml_RX3_30 : Cond.methodLink RX3 30 yX3_grow ∈ zT := zmem1 zsub_5 118 rfl rfl
theorem m_im_X3_grow : Cond.instanceMethod yX3_grow ∈ zT := zmem1 zsub_5 120 rfl rfl
theorem m_se_X3_grow : Cond.selects RX3 yX3_grow yX3_grow ∈ zT := zmem 42 rfl rfl
theorem m_co_X3_tryWay : Cond.code yX3_tryWay cX3_tryWay 8 none ∈ zT := zmem1 zsub_5 125 rfl rfl
theorem m_ml_RX3_43 : Cond.methodLink RX3 43 yX3_tryWay ∈ zT := zmem1 zsub_5 122 rfl rfl
theorem m_im_X3_tryWay : Cond.instanceMethod yX3_tryWay ∈ zT := zmem1 zsub_5 124 rfl rfl
theorem m_se_X3_tryWay : Cond.selects RX3 yX3_tryWay yX3_tryWay ∈ zT := zmem 43 rfl rfl
theorem kV_RX0_45 {R : Room} {s : State} {args : Array Value} {d mc ms : Nat} (hts : ∀ w ∈ zT, w.before args s = true) (h1 : d + 1 ≤ R.frames) (h2 : 8 + (2 + 11) + 40 * d ≤ R.locals) : CallW R s args RX0 RX0 45 yX0_grow cX0_grow 2 none (zW yX0_grow cX0_grow 2 none) (zR d mc ms) mc ms 0 := z_cwV hts m_co_X0_grow m_ml_RX0_45 m_im_X0_grow m_se_X0_grow m_ii_RX0 (by decide +kernel) h1 h2
theorem kV_RX0_48 {R : Room} {s : State} {args : Array Value} {d mc ms : Nat} (hts : ∀ w ∈ zT, w.before args s = true) (h1 : d + 1 ≤ R.frames) (h2 : 8 + (5 + 11) + 40 * d ≤ R.locals) : CallW R s args RX0 RX0 48 yX0_stepOnce cX0_stepOnce 5 none (zW yX0_stepOnce cX0_stepOnce 5 none) (zR d mc ms) mc ms 0 := z_cwV hts m_co_X0_stepOnce m_ml_RX0_48 m_im_X0_stepOnce m_se_X0_stepOnce m_ii_RX0 (by decide +kernel) h1 h2
theorem kV_RX0_51 {R : Room} {s : State} {args : Array Value} {d mc ms : Nat} (hts : ∀ w ∈ zT, w.before args s = true) (h1 : d + 1 ≤ R.frames) (h2 : 8 + (6 + 11) + 40 * d ≤ R.locals) : CallW R s args RX0 RX0 51 yX0_doubleAll cX0_doubleAll 6 none (zW yX0_doubleAll cX0_doubleAll 6 none) (zR d mc ms) mc ms 0 := z_cwV hts m_co_X0_doubleAll m_ml_RX0_51 m_im_X0_doubleAll m_se_X0_doubleAll m_ii_RX0 (by decide +kernel) h1 h2
theorem kV_RX0_54 {R : Room} {s : State} {args : Array Value} {d mc ms : Nat} (hts : ∀ w ∈ zT, w.before args s = true) (h1 : d + 1 ≤ R.frames) (h2 : 8 + (4 + 11) + 40 * d ≤ R.locals) : CallW R s args RX0 RX0 54 yX0_oneMore cX0_oneMore 4 none (zW yX0_oneMore cX0_oneMore 4 none) (zR d mc ms) mc ms 0 := z_cwV hts m_co_X0_oneMore m_ml_RX0_54 m_im_X0_oneMore m_se_X0_oneMore m_ii_RX0 (by decide +kernel) h1 h2
theorem kV_RX3_92 {R : Room} {s : State} {args : Array Value} {d mc ms : Nat} (hts : ∀ w ∈ zT, w.before args s = true) (h1 : d + 1 ≤ R.frames) (h2 : 8 + (2 + 11) + 40 * d ≤ R.locals) : CallW R s args RX3 RX3 92 yX3_way cX3_way 2 (some .int) (zW yX3_way cX3_way 2 (some .int)) (zR d mc ms) mc ms 1 := z_cwV hts m_co_X3_way m_ml_RX3_92 m_im_X3_way m_se_X3_way m_ii_RX3 (by decide +kernel) h1 h2
theorem kV_RX3_96 {R : Room} {s : State} {args : Array Value} {d mc ms : Nat} (hts : ∀ w ∈ zT, w.before args s = true) (h1 : d + 1 ≤ R.frames) (h2 : 8 + (3 + 11) + 40 * d ≤ R.locals) : CallW R s args RX3 RX0 96 yX0_road cX0_road 3 (some .int) (zW yX0_road cX0_road 3 (some .int)) (zR d mc ms) mc ms 2 := z_cwV hts m_co_X0_road m_ml_RX3_96 m_im_X0_road m_se_X0_road m_ii_RX0 (by decide +kernel) h1 h2
theorem kV_RX3_58 {R : Room} {s : State} {args : Array Value} {d mc ms : Nat} (hts : ∀ w ∈ zT, w.before args s = true) (h1 : d + 1 ≤ R.frames) (h2 : 8 + (2 + 11) + 40 * d ≤ R.locals) : CallW R s args RX3 RX4 58 yX4_has cX4_has 2 (some .boolean) (zW yX4_has cX4_has 2 (some .boolean)) (zR d mc ms) mc ms 1 := z_cwV hts m_co_X4_has m_ml_RX3_58 m_im_X4_has m_se_X4_has m_ii_RX4 (by decide +kernel) h1 h2
theorem kV_RX3_99 {R : Room} {s : State} {args : Array Value} {d mc ms : Nat} (hts : ∀ w ∈ zT, w.before args s = true) (h1 : d + 1 ≤ R.frames) (h2 : 8 + (6 + 11) + 40 * d ≤ R.locals) : CallW R s args RX3 RX3 99 yX3_pointing cX3_pointing 6 (some .int) (zW yX3_pointing cX3_pointing 6 (some .int)) (zR d mc ms) mc ms 3 := z_cwV hts m_co_X3_pointing m_ml_RX3_99 m_im_X3_pointing m_se_X3_pointing m_ii_RX3 (by decide +kernel) h1 h2
theorem kV_RX3_86 {R : Room} {s : State} {args : Array Value} {d mc ms : Nat} (hts : ∀ w ∈ zT, w.before args s = true) (h1 : d + 1 ≤ R.frames) (h2 : 8 + (3 + 11) + 40 * d ≤ R.locals) : CallW R s args RX3 RX0 86 yX0_where cX0_where 3 (some .int) (zW yX0_where cX0_where 3 (some .int)) (zR d mc ms) mc ms 2 := z_cwV hts m_co_X0_where m_ml_RX3_86 m_im_X0_where m_se_X0_where m_ii_RX0 (by decide +kernel) h1 h2
theorem kV_RX3_89 {R : Room} {s : State} {args : Array Value} {d mc ms : Nat} (hts : ∀ w ∈ zT, w.before args s = true) (h1 : d + 1 ≤ R.frames) (h2 : 8 + (2 + 11) + 40 * d ≤ R.locals) : CallW R s args RX3 RX4 89 yX4_isInn cX4_isInn 2 (some .boolean) (zW yX4_isInn cX4_isInn 2 (some .boolean)) (zR d mc ms) mc ms 1 := z_cwV hts m_co_X4_isInn m_ml_RX3_89 m_im_X4_isInn m_se_X4_isInn m_ii_RX4 (by decide +kernel) h1 h2
theorem kV_RX3_106 {R : Room} {s : State} {args : Array Value} {d mc ms : Nat} (hts : ∀ w ∈ zT, w.before args s = true) (h1 : d + 1 ≤ R.frames) (h2 : 8 + (6 + 11) + 40 * d ≤ R.locals) : CallW R s args RX3 RX3 106 yX3_mostTogether cX3_mostTogether 6 (some .int) (zW yX3_mostTogether cX3_mostTogether 6 (some .int)) (zR d mc ms) mc ms 2 := z_cwV hts m_co_X3_mostTogether m_ml_RX3_106 m_im_X3_mostTogether m_se_X3_mostTogether m_ii_RX3 (by decide +kernel) h1 h2
theorem kS_RX3_67 {R : Room} {s : State} {args : Array Value} {d mc ms : Nat} (hts : ∀ w ∈ zT, w.before args s = true) (h1 : d + 1 ≤ R.frames) (h2 : 8 + (5 + 11) + 40 * d ≤ R.locals) : CallB R s args RX3 67 yX3_isSo cX3_isSo 5 (some .boolean) (zW yX3_isSo cX3_isSo 5 (some .boolean)) (zR d mc ms) mc ms 4 ∧ (Cond.static yX3_isSo).before args s = true := z_cwS hts m_co_X3_isSo m_ml_RX3_67 m_st_X3_isSo m_ii_RX3 (by decide +kernel) h1 h2
theorem kV_RX3_71 {R : Room} {s : State} {args : Array Value} {d mc ms : Nat} (hts : ∀ w ∈ zT, w.before args s = true) (h1 : d + 1 ≤ R.frames) (h2 : 8 + (3 + 11) + 40 * d ≤ R.locals) : CallW R s args RX3 RX0 71 yX0_steps cX0_steps 3 (some .int) (zW yX0_steps cX0_steps 3 (some .int)) (zR d mc ms) mc ms 2 := z_cwV hts m_co_X0_steps m_ml_RX3_71 m_im_X0_steps m_se_X0_steps m_ii_RX0 (by decide +kernel) h1 h2
theorem kV_RX3_75 {R : Room} {s : State} {args : Array Value} {d mc ms : Nat} (hts : ∀ w ∈ zT, w.before args s = true) (h1 : d + 1 ≤ R.frames) (h2 : 8 + (3 + 11) + 40 * d ≤ R.locals) : CallW R s args RX3 RX0 75 yX0_wayAfter cX0_wayAfter 3 (some .int) (zW yX0_wayAfter cX0_wayAfter 3 (some .int)) (zR d mc ms) mc ms 2 := z_cwV hts m_co_X0_wayAfter m_ml_RX3_75 m_im_X0_wayAfter m_se_X0_wayAfter m_ii_RX0 (by decide +kernel) h1 h2
theorem kV_RX3_30 {R : Room} {s : State} {args : Array Value} {d mc ms : Nat} (hts : ∀ w ∈ zT, w.before args s = true) (h1 : d + 1 ≤ R.frames) (h2 : 8 + (3 + 11) + 40 * d ≤ R.locals) : CallW R s args RX3 RX3 30 yX3_grow cX3_grow 3 none (zW yX3_grow cX3_grow 3 none) (zR d mc ms) mc ms 1 := z_cwV hts m_co_X3_grow m_ml_RX3_30 m_im_X3_grow m_se_X3_grow m_ii_RX3 (by decide +kernel) h1 h2
theorem kV_RX3_43 {R : Room} {s : State} {args : Array Value} {d mc ms : Nat} (hts : ∀ w ∈ zT, w.before args s = true) (h1 : d + 1 ≤ R.frames) (h2 : 8 + (8 + 11) + 40 * d ≤ R.locals) : CallW R s args RX3 RX3 43 yX3_tryWay cX3_tryWay 8 none (zW yX3_tryWay cX3_tryWay 8 none) (zR d mc ms) mc ms 3 := z_cwV hts m_co_X3_tryWay m_ml_RX3_43 m_im_X3_tryWay m_se_X3_tryWay m_ii_RX3 (by decide +kernel) h1 h2
theorem dX0_make_0 : decode cX0_make 0 = .ok (.aload_n 0, 1) := zo_42 (by decide +kernel)
theorem dX0_make_1 : decode cX0_make 1 = .ok (.getfield 37, 3) := zo_180 (by decide +kernel)
theorem dX0_make_4 : decode cX0_make 4 = .ok (.ifCond .eq 4, 3) := zo_153 (by decide +kernel)
theorem dX0_make_7 : decode cX0_make 7 = .ok (.return_, 1) := zo_177 (by decide +kernel)
theorem dX0_make_8 : decode cX0_make 8 = .ok (.aload_n 0, 1) := zo_42 (by decide +kernel)
theorem dX0_make_9 : decode cX0_make 9 = .ok (.aload_n 1, 1) := zo_43 (by decide +kernel)
theorem dX0_make_10 : decode cX0_make 10 = .ok (.invokevirtual 41, 3) := zo_182 (by decide +kernel)
theorem dX0_make_13 : decode cX0_make 13 = .ok (.aload_n 0, 1) := zo_42 (by decide +kernel)
theorem dX0_make_14 : decode cX0_make 14 = .ok (.invokevirtual 45, 3) := zo_182 (by decide +kernel)
theorem dX0_make_17 : decode cX0_make 17 = .ok (.aload_n 0, 1) := zo_42 (by decide +kernel)
theorem dX0_make_18 : decode cX0_make 18 = .ok (.invokevirtual 48, 3) := zo_182 (by decide +kernel)
theorem dX0_make_21 : decode cX0_make 21 = .ok (.sipush 128, 3) := zo_17 (by decide +kernel)
theorem dX0_make_24 : decode cX0_make 24 = .ok (.istore_n 2, 1) := zo_61 (by decide +kernel)
theorem dX0_make_25 : decode cX0_make 25 = .ok (.iload_n 2, 1) := zo_28 (by decide +kernel)
theorem dX0_make_26 : decode cX0_make 26 = .ok (.ifCond .le 26, 3) := zo_158 (by decide +kernel)
theorem dX0_make_29 : decode cX0_make 29 = .ok (.aload_n 0, 1) := zo_42 (by decide +kernel)
theorem dX0_make_30 : decode cX0_make 30 = .ok (.invokevirtual 51, 3) := zo_182 (by decide +kernel)
theorem dX0_make_33 : decode cX0_make 33 = .ok (.sipush 499, 3) := zo_17 (by decide +kernel)
theorem dX0_make_36 : decode cX0_make 36 = .ok (.iload_n 2, 1) := zo_28 (by decide +kernel)
theorem dX0_make_37 : decode cX0_make 37 = .ok (.iand, 1) := zo_126 (by decide +kernel)
theorem dX0_make_38 : decode cX0_make 38 = .ok (.ifCond .eq 7, 3) := zo_153 (by decide +kernel)
theorem dX0_make_41 : decode cX0_make 41 = .ok (.aload_n 0, 1) := zo_42 (by decide +kernel)
theorem dX0_make_42 : decode cX0_make 42 = .ok (.invokevirtual 54, 3) := zo_182 (by decide +kernel)
theorem dX0_make_45 : decode cX0_make 45 = .ok (.iload_n 2, 1) := zo_28 (by decide +kernel)
theorem dX0_make_46 : decode cX0_make 46 = .ok (.iconst 1, 1) := zo_4 (by decide +kernel)
theorem dX0_make_47 : decode cX0_make 47 = .ok (.ishr, 1) := zo_122 (by decide +kernel)
theorem dX0_make_48 : decode cX0_make 48 = .ok (.istore_n 2, 1) := zo_61 (by decide +kernel)
theorem dX0_make_49 : decode cX0_make 49 = .ok (.goto (-24), 3) := zo_167 (by decide +kernel)
theorem dX0_make_52 : decode cX0_make 52 = .ok (.aload_n 0, 1) := zo_42 (by decide +kernel)
theorem dX0_make_53 : decode cX0_make 53 = .ok (.iconst 1, 1) := zo_4 (by decide +kernel)
theorem dX0_make_54 : decode cX0_make 54 = .ok (.putfield 37, 3) := zo_181 (by decide +kernel)
theorem dX0_make_57 : decode cX0_make 57 = .ok (.return_, 1) := zo_177 (by decide +kernel)
theorem dX3_way_0 : decode cX3_way 0 = .ok (.iload_n 1, 1) := zo_27 (by decide +kernel)
theorem dX3_way_1 : decode cX3_way 1 = .ok (.ifCond .lt 25, 3) := zo_155 (by decide +kernel)
theorem dX3_way_4 : decode cX3_way 4 = .ok (.iload_n 1, 1) := zo_27 (by decide +kernel)
theorem dX3_way_5 : decode cX3_way 5 = .ok (.aload_n 0, 1) := zo_42 (by decide +kernel)
theorem dX3_way_6 : decode cX3_way 6 = .ok (.getfield 18, 3) := zo_180 (by decide +kernel)
theorem dX3_way_9 : decode cX3_way 9 = .ok (.arraylength, 1) := zo_190 (by decide +kernel)
theorem dX3_way_10 : decode cX3_way 10 = .ok (.if_icmp .ge 16, 3) := zo_162 (by decide +kernel)
theorem dX3_way_13 : decode cX3_way 13 = .ok (.aload_n 0, 1) := zo_42 (by decide +kernel)
theorem dX3_way_14 : decode cX3_way 14 = .ok (.getfield 18, 3) := zo_180 (by decide +kernel)
theorem dX3_way_17 : decode cX3_way 17 = .ok (.iload_n 1, 1) := zo_27 (by decide +kernel)
theorem dX3_way_18 : decode cX3_way 18 = .ok (.iaload, 1) := zo_46 (by decide +kernel)
theorem dX3_way_19 : decode cX3_way 19 = .ok (.sipush 16383, 3) := zo_17 (by decide +kernel)
theorem dX3_way_22 : decode cX3_way 22 = .ok (.iand, 1) := zo_126 (by decide +kernel)
theorem dX3_way_23 : decode cX3_way 23 = .ok (.goto 4, 3) := zo_167 (by decide +kernel)
theorem dX3_way_26 : decode cX3_way 26 = .ok (.iconst 0, 1) := zo_3 (by decide +kernel)
theorem dX3_way_27 : decode cX3_way 27 = .ok (.ireturn, 1) := zo_172 (by decide +kernel)
theorem dX3_pointing_0 : decode cX3_pointing 0 = .ok (.iconst 0, 1) := zo_3 (by decide +kernel)
theorem dX3_pointing_1 : decode cX3_pointing 1 = .ok (.istore 4, 2) := zo_54 (by decide +kernel)
theorem dX3_pointing_3 : decode cX3_pointing 3 = .ok (.iconst 0, 1) := zo_3 (by decide +kernel)
theorem dX3_pointing_4 : decode cX3_pointing 4 = .ok (.istore 5, 2) := zo_54 (by decide +kernel)
theorem dX3_pointing_6 : decode cX3_pointing 6 = .ok (.iload 5, 2) := zo_21 (by decide +kernel)
theorem dX3_pointing_8 : decode cX3_pointing 8 = .ok (.aload_n 0, 1) := zo_42 (by decide +kernel)
theorem dX3_pointing_9 : decode cX3_pointing 9 = .ok (.getfield 34, 3) := zo_180 (by decide +kernel)
theorem dX3_pointing_12 : decode cX3_pointing 12 = .ok (.if_icmp .ge 27, 3) := zo_162 (by decide +kernel)
theorem dX3_pointing_15 : decode cX3_pointing 15 = .ok (.aload_n 1, 1) := zo_43 (by decide +kernel)
theorem dX3_pointing_16 : decode cX3_pointing 16 = .ok (.aload_n 0, 1) := zo_42 (by decide +kernel)
theorem dX3_pointing_17 : decode cX3_pointing 17 = .ok (.iload 5, 2) := zo_21 (by decide +kernel)
theorem dX3_pointing_19 : decode cX3_pointing 19 = .ok (.invokevirtual 92, 3) := zo_182 (by decide +kernel)
theorem dX3_pointing_22 : decode cX3_pointing 22 = .ok (.iload_n 2, 1) := zo_28 (by decide +kernel)
theorem dX3_pointing_23 : decode cX3_pointing 23 = .ok (.invokevirtual 96, 3) := zo_182 (by decide +kernel)
theorem dX3_pointing_26 : decode cX3_pointing 26 = .ok (.iload_n 3, 1) := zo_29 (by decide +kernel)
theorem dX3_pointing_27 : decode cX3_pointing 27 = .ok (.if_icmp .ne 6, 3) := zo_160 (by decide +kernel)
theorem dX3_pointing_30 : decode cX3_pointing 30 = .ok (.iinc 4 1, 3) := zo_132 (by decide +kernel)
theorem dX3_pointing_33 : decode cX3_pointing 33 = .ok (.iinc 5 1, 3) := zo_132 (by decide +kernel)
theorem dX3_pointing_36 : decode cX3_pointing 36 = .ok (.goto (-30), 3) := zo_167 (by decide +kernel)
theorem dX3_pointing_39 : decode cX3_pointing 39 = .ok (.iload 4, 2) := zo_21 (by decide +kernel)
theorem dX3_pointing_41 : decode cX3_pointing 41 = .ok (.ireturn, 1) := zo_172 (by decide +kernel)
theorem dX3_sure_0 : decode cX3_sure 0 = .ok (.aload_n 0, 1) := zo_42 (by decide +kernel)
theorem dX3_sure_1 : decode cX3_sure 1 = .ok (.getfield 34, 3) := zo_180 (by decide +kernel)
theorem dX3_sure_4 : decode cX3_sure 4 = .ok (.ifCond .eq 14, 3) := zo_153 (by decide +kernel)
theorem dX3_sure_7 : decode cX3_sure 7 = .ok (.aload_n 1, 1) := zo_43 (by decide +kernel)
theorem dX3_sure_8 : decode cX3_sure 8 = .ok (.getfield 55, 3) := zo_180 (by decide +kernel)
theorem dX3_sure_11 : decode cX3_sure 11 = .ok (.iload_n 2, 1) := zo_28 (by decide +kernel)
theorem dX3_sure_12 : decode cX3_sure 12 = .ok (.invokevirtual 58, 3) := zo_182 (by decide +kernel)
theorem dX3_sure_15 : decode cX3_sure 15 = .ok (.ifCond .ne 5, 3) := zo_154 (by decide +kernel)
theorem dX3_sure_18 : decode cX3_sure 18 = .ok (.iconst (-1), 1) := zo_2 (by decide +kernel)
theorem dX3_sure_19 : decode cX3_sure 19 = .ok (.ireturn, 1) := zo_172 (by decide +kernel)
theorem dX3_sure_20 : decode cX3_sure 20 = .ok (.aload_n 1, 1) := zo_43 (by decide +kernel)
theorem dX3_sure_21 : decode cX3_sure 21 = .ok (.aload_n 0, 1) := zo_42 (by decide +kernel)
theorem dX3_sure_22 : decode cX3_sure 22 = .ok (.iconst 0, 1) := zo_3 (by decide +kernel)
theorem dX3_sure_23 : decode cX3_sure 23 = .ok (.invokevirtual 92, 3) := zo_182 (by decide +kernel)
theorem dX3_sure_26 : decode cX3_sure 26 = .ok (.iload_n 2, 1) := zo_28 (by decide +kernel)
theorem dX3_sure_27 : decode cX3_sure 27 = .ok (.invokevirtual 96, 3) := zo_182 (by decide +kernel)
theorem dX3_sure_30 : decode cX3_sure 30 = .ok (.istore_n 3, 1) := zo_62 (by decide +kernel)
theorem dX3_sure_31 : decode cX3_sure 31 = .ok (.aload_n 0, 1) := zo_42 (by decide +kernel)
theorem dX3_sure_32 : decode cX3_sure 32 = .ok (.aload_n 1, 1) := zo_43 (by decide +kernel)
theorem dX3_sure_33 : decode cX3_sure 33 = .ok (.iload_n 2, 1) := zo_28 (by decide +kernel)
theorem dX3_sure_34 : decode cX3_sure 34 = .ok (.iload_n 3, 1) := zo_29 (by decide +kernel)
theorem dX3_sure_35 : decode cX3_sure 35 = .ok (.invokevirtual 99, 3) := zo_182 (by decide +kernel)
theorem dX3_sure_38 : decode cX3_sure 38 = .ok (.aload_n 0, 1) := zo_42 (by decide +kernel)
theorem dX3_sure_39 : decode cX3_sure 39 = .ok (.getfield 34, 3) := zo_180 (by decide +kernel)
theorem dX3_sure_42 : decode cX3_sure 42 = .ok (.if_icmp .ne 7, 3) := zo_160 (by decide +kernel)
theorem dX3_sure_45 : decode cX3_sure 45 = .ok (.iload_n 3, 1) := zo_29 (by decide +kernel)
theorem dX3_sure_46 : decode cX3_sure 46 = .ok (.goto 4, 3) := zo_167 (by decide +kernel)
theorem dX3_sure_49 : decode cX3_sure 49 = .ok (.iconst (-1), 1) := zo_2 (by decide +kernel)
theorem dX3_sure_50 : decode cX3_sure 50 = .ok (.ireturn, 1) := zo_172 (by decide +kernel)
theorem dX3_isSo_0 : decode cX3_isSo 0 = .ok (.aload_n 0, 1) := zo_42 (by decide +kernel)
theorem dX3_isSo_1 : decode cX3_isSo 1 = .ok (.iload_n 1, 1) := zo_27 (by decide +kernel)
theorem dX3_isSo_2 : decode cX3_isSo 2 = .ok (.iload_n 2, 1) := zo_28 (by decide +kernel)
theorem dX3_isSo_3 : decode cX3_isSo 3 = .ok (.invokevirtual 86, 3) := zo_182 (by decide +kernel)
theorem dX3_isSo_6 : decode cX3_isSo 6 = .ok (.istore 4, 2) := zo_54 (by decide +kernel)
theorem dX3_isSo_8 : decode cX3_isSo 8 = .ok (.aload_n 0, 1) := zo_42 (by decide +kernel)
theorem dX3_isSo_9 : decode cX3_isSo 9 = .ok (.getfield 55, 3) := zo_180 (by decide +kernel)
theorem dX3_isSo_12 : decode cX3_isSo 12 = .ok (.iload 4, 2) := zo_21 (by decide +kernel)
theorem dX3_isSo_14 : decode cX3_isSo 14 = .ok (.invokevirtual 89, 3) := zo_182 (by decide +kernel)
theorem dX3_isSo_17 : decode cX3_isSo 17 = .ok (.ifCond .eq 17, 3) := zo_153 (by decide +kernel)
theorem dX3_isSo_20 : decode cX3_isSo 20 = .ok (.iload 4, 2) := zo_21 (by decide +kernel)
theorem dX3_isSo_22 : decode cX3_isSo 22 = .ok (.iload_n 3, 1) := zo_29 (by decide +kernel)
theorem dX3_isSo_23 : decode cX3_isSo 23 = .ok (.if_icmp .ne 7, 3) := zo_160 (by decide +kernel)
theorem dX3_isSo_26 : decode cX3_isSo 26 = .ok (.iconst 1, 1) := zo_4 (by decide +kernel)
theorem dX3_isSo_27 : decode cX3_isSo 27 = .ok (.goto 17, 3) := zo_167 (by decide +kernel)
theorem dX3_isSo_30 : decode cX3_isSo 30 = .ok (.iconst 0, 1) := zo_3 (by decide +kernel)
theorem dX3_isSo_31 : decode cX3_isSo 31 = .ok (.goto 13, 3) := zo_167 (by decide +kernel)
theorem dX3_isSo_34 : decode cX3_isSo 34 = .ok (.iload_n 3, 1) := zo_29 (by decide +kernel)
theorem dX3_isSo_35 : decode cX3_isSo 35 = .ok (.iconst (-1), 1) := zo_2 (by decide +kernel)
theorem dX3_isSo_36 : decode cX3_isSo 36 = .ok (.if_icmp .ne 7, 3) := zo_160 (by decide +kernel)
theorem dX3_isSo_39 : decode cX3_isSo 39 = .ok (.iconst 1, 1) := zo_4 (by decide +kernel)
theorem dX3_isSo_40 : decode cX3_isSo 40 = .ok (.goto 4, 3) := zo_167 (by decide +kernel)
theorem dX3_isSo_43 : decode cX3_isSo 43 = .ok (.iconst 0, 1) := zo_3 (by decide +kernel)
theorem dX3_isSo_44 : decode cX3_isSo 44 = .ok (.ireturn, 1) := zo_172 (by decide +kernel)
theorem dX3_mostTogether_0 : decode cX3_mostTogether 0 = .ok (.iconst 0, 1) := zo_3 (by decide +kernel)
theorem dX3_mostTogether_1 : decode cX3_mostTogether 1 = .ok (.istore_n 3, 1) := zo_62 (by decide +kernel)
theorem dX3_mostTogether_2 : decode cX3_mostTogether 2 = .ok (.iload_n 3, 1) := zo_29 (by decide +kernel)
theorem dX3_mostTogether_3 : decode cX3_mostTogether 3 = .ok (.bipush 7, 2) := zo_16 (by decide +kernel)
theorem dX3_mostTogether_5 : decode cX3_mostTogether 5 = .ok (.if_icmp .ge 16, 3) := zo_162 (by decide +kernel)
theorem dX3_mostTogether_8 : decode cX3_mostTogether 8 = .ok (.aload_n 0, 1) := zo_42 (by decide +kernel)
theorem dX3_mostTogether_9 : decode cX3_mostTogether 9 = .ok (.getfield 22, 3) := zo_180 (by decide +kernel)
theorem dX3_mostTogether_12 : decode cX3_mostTogether 12 = .ok (.iload_n 3, 1) := zo_29 (by decide +kernel)
theorem dX3_mostTogether_13 : decode cX3_mostTogether 13 = .ok (.iconst 0, 1) := zo_3 (by decide +kernel)
theorem dX3_mostTogether_14 : decode cX3_mostTogether 14 = .ok (.iastore, 1) := zo_79 (by decide +kernel)
theorem dX3_mostTogether_15 : decode cX3_mostTogether 15 = .ok (.iinc 3 1, 3) := zo_132 (by decide +kernel)
theorem dX3_mostTogether_18 : decode cX3_mostTogether 18 = .ok (.goto (-16), 3) := zo_167 (by decide +kernel)
theorem dX3_mostTogether_21 : decode cX3_mostTogether 21 = .ok (.iconst 0, 1) := zo_3 (by decide +kernel)
theorem dX3_mostTogether_22 : decode cX3_mostTogether 22 = .ok (.istore_n 3, 1) := zo_62 (by decide +kernel)
theorem dX3_mostTogether_23 : decode cX3_mostTogether 23 = .ok (.iconst 0, 1) := zo_3 (by decide +kernel)
theorem dX3_mostTogether_24 : decode cX3_mostTogether 24 = .ok (.istore 4, 2) := zo_54 (by decide +kernel)
theorem dX3_mostTogether_26 : decode cX3_mostTogether 26 = .ok (.iload 4, 2) := zo_21 (by decide +kernel)
theorem dX3_mostTogether_28 : decode cX3_mostTogether 28 = .ok (.aload_n 0, 1) := zo_42 (by decide +kernel)
theorem dX3_mostTogether_29 : decode cX3_mostTogether 29 = .ok (.getfield 34, 3) := zo_180 (by decide +kernel)
theorem dX3_mostTogether_32 : decode cX3_mostTogether 32 = .ok (.if_icmp .ge 66, 3) := zo_162 (by decide +kernel)
theorem dX3_mostTogether_35 : decode cX3_mostTogether 35 = .ok (.iload 4, 2) := zo_21 (by decide +kernel)
theorem dX3_mostTogether_37 : decode cX3_mostTogether 37 = .ok (.aload_n 0, 1) := zo_42 (by decide +kernel)
theorem dX3_mostTogether_38 : decode cX3_mostTogether 38 = .ok (.getfield 18, 3) := zo_180 (by decide +kernel)
theorem dX3_mostTogether_41 : decode cX3_mostTogether 41 = .ok (.arraylength, 1) := zo_190 (by decide +kernel)
theorem dX3_mostTogether_42 : decode cX3_mostTogether 42 = .ok (.if_icmp .ge 56, 3) := zo_162 (by decide +kernel)
theorem dX3_mostTogether_45 : decode cX3_mostTogether 45 = .ok (.aload_n 1, 1) := zo_43 (by decide +kernel)
theorem dX3_mostTogether_46 : decode cX3_mostTogether 46 = .ok (.aload_n 0, 1) := zo_42 (by decide +kernel)
theorem dX3_mostTogether_47 : decode cX3_mostTogether 47 = .ok (.getfield 18, 3) := zo_180 (by decide +kernel)
theorem dX3_mostTogether_50 : decode cX3_mostTogether 50 = .ok (.iload 4, 2) := zo_21 (by decide +kernel)
theorem dX3_mostTogether_52 : decode cX3_mostTogether 52 = .ok (.iaload, 1) := zo_46 (by decide +kernel)
theorem dX3_mostTogether_53 : decode cX3_mostTogether 53 = .ok (.bipush 14, 2) := zo_16 (by decide +kernel)
theorem dX3_mostTogether_55 : decode cX3_mostTogether 55 = .ok (.ishr, 1) := zo_122 (by decide +kernel)
theorem dX3_mostTogether_56 : decode cX3_mostTogether 56 = .ok (.iload_n 2, 1) := zo_28 (by decide +kernel)
theorem dX3_mostTogether_57 : decode cX3_mostTogether 57 = .ok (.invokevirtual 86, 3) := zo_182 (by decide +kernel)
theorem dX3_mostTogether_60 : decode cX3_mostTogether 60 = .ok (.istore 5, 2) := zo_54 (by decide +kernel)
theorem dX3_mostTogether_62 : decode cX3_mostTogether 62 = .ok (.iload 5, 2) := zo_21 (by decide +kernel)
theorem dX3_mostTogether_64 : decode cX3_mostTogether 64 = .ok (.bipush 7, 2) := zo_16 (by decide +kernel)
theorem dX3_mostTogether_66 : decode cX3_mostTogether 66 = .ok (.if_icmp .ge 26, 3) := zo_162 (by decide +kernel)
theorem dX3_mostTogether_69 : decode cX3_mostTogether 69 = .ok (.aload_n 0, 1) := zo_42 (by decide +kernel)
theorem dX3_mostTogether_70 : decode cX3_mostTogether 70 = .ok (.getfield 22, 3) := zo_180 (by decide +kernel)
theorem dX3_mostTogether_73 : decode cX3_mostTogether 73 = .ok (.iload 5, 2) := zo_21 (by decide +kernel)
theorem dX3_mostTogether_75 : decode cX3_mostTogether 75 = .ok (.dup2, 1) := zo_92 (by decide +kernel)
theorem dX3_mostTogether_76 : decode cX3_mostTogether 76 = .ok (.iaload, 1) := zo_46 (by decide +kernel)
theorem dX3_mostTogether_77 : decode cX3_mostTogether 77 = .ok (.iconst 1, 1) := zo_4 (by decide +kernel)
theorem dX3_mostTogether_78 : decode cX3_mostTogether 78 = .ok (.iadd, 1) := zo_96 (by decide +kernel)
theorem dX3_mostTogether_79 : decode cX3_mostTogether 79 = .ok (.iastore, 1) := zo_79 (by decide +kernel)
theorem dX3_mostTogether_80 : decode cX3_mostTogether 80 = .ok (.iload_n 3, 1) := zo_29 (by decide +kernel)
theorem dX3_mostTogether_81 : decode cX3_mostTogether 81 = .ok (.aload_n 0, 1) := zo_42 (by decide +kernel)
theorem dX3_mostTogether_82 : decode cX3_mostTogether 82 = .ok (.getfield 22, 3) := zo_180 (by decide +kernel)
theorem dX3_mostTogether_85 : decode cX3_mostTogether 85 = .ok (.iload 5, 2) := zo_21 (by decide +kernel)
theorem dX3_mostTogether_87 : decode cX3_mostTogether 87 = .ok (.iaload, 1) := zo_46 (by decide +kernel)
theorem dX3_mostTogether_88 : decode cX3_mostTogether 88 = .ok (.invokestatic 83, 3) := zo_184 (by decide +kernel)
theorem dX3_mostTogether_91 : decode cX3_mostTogether 91 = .ok (.istore_n 3, 1) := zo_62 (by decide +kernel)
theorem dX3_mostTogether_92 : decode cX3_mostTogether 92 = .ok (.iinc 4 1, 3) := zo_132 (by decide +kernel)
theorem dX3_mostTogether_95 : decode cX3_mostTogether 95 = .ok (.goto (-69), 3) := zo_167 (by decide +kernel)
theorem dX3_mostTogether_98 : decode cX3_mostTogether 98 = .ok (.iload_n 3, 1) := zo_29 (by decide +kernel)
theorem dX3_mostTogether_99 : decode cX3_mostTogether 99 = .ok (.ireturn, 1) := zo_172 (by decide +kernel)
theorem dX3_ask_0 : decode cX3_ask 0 = .ok (.iconst (-1), 1) := zo_2 (by decide +kernel)
theorem dX3_ask_1 : decode cX3_ask 1 = .ok (.istore_n 2, 1) := zo_61 (by decide +kernel)
theorem dX3_ask_2 : decode cX3_ask 2 = .ok (.iconst 0, 1) := zo_3 (by decide +kernel)
theorem dX3_ask_3 : decode cX3_ask 3 = .ok (.istore_n 3, 1) := zo_62 (by decide +kernel)
theorem dX3_ask_4 : decode cX3_ask 4 = .ok (.iconst 0, 1) := zo_3 (by decide +kernel)
theorem dX3_ask_5 : decode cX3_ask 5 = .ok (.istore 4, 2) := zo_54 (by decide +kernel)
theorem dX3_ask_7 : decode cX3_ask 7 = .ok (.iload 4, 2) := zo_21 (by decide +kernel)
theorem dX3_ask_9 : decode cX3_ask 9 = .ok (.aload_n 1, 1) := zo_43 (by decide +kernel)
theorem dX3_ask_10 : decode cX3_ask 10 = .ok (.getfield 55, 3) := zo_180 (by decide +kernel)
theorem dX3_ask_13 : decode cX3_ask 13 = .ok (.getfield 103, 3) := zo_180 (by decide +kernel)
theorem dX3_ask_16 : decode cX3_ask 16 = .ok (.if_icmp .ge 54, 3) := zo_162 (by decide +kernel)
theorem dX3_ask_19 : decode cX3_ask 19 = .ok (.aload_n 0, 1) := zo_42 (by decide +kernel)
theorem dX3_ask_20 : decode cX3_ask 20 = .ok (.getfield 34, 3) := zo_180 (by decide +kernel)
theorem dX3_ask_23 : decode cX3_ask 23 = .ok (.ifCond .le 47, 3) := zo_158 (by decide +kernel)
theorem dX3_ask_26 : decode cX3_ask 26 = .ok (.aload_n 1, 1) := zo_43 (by decide +kernel)
theorem dX3_ask_27 : decode cX3_ask 27 = .ok (.getfield 55, 3) := zo_180 (by decide +kernel)
theorem dX3_ask_30 : decode cX3_ask 30 = .ok (.iload 4, 2) := zo_21 (by decide +kernel)
theorem dX3_ask_32 : decode cX3_ask 32 = .ok (.invokevirtual 89, 3) := zo_182 (by decide +kernel)
theorem dX3_ask_35 : decode cX3_ask 35 = .ok (.ifCond .ne 29, 3) := zo_154 (by decide +kernel)
theorem dX3_ask_38 : decode cX3_ask 38 = .ok (.aload_n 0, 1) := zo_42 (by decide +kernel)
theorem dX3_ask_39 : decode cX3_ask 39 = .ok (.aload_n 1, 1) := zo_43 (by decide +kernel)
theorem dX3_ask_40 : decode cX3_ask 40 = .ok (.iload 4, 2) := zo_21 (by decide +kernel)
theorem dX3_ask_42 : decode cX3_ask 42 = .ok (.invokevirtual 106, 3) := zo_182 (by decide +kernel)
theorem dX3_ask_45 : decode cX3_ask 45 = .ok (.istore 5, 2) := zo_54 (by decide +kernel)
theorem dX3_ask_47 : decode cX3_ask 47 = .ok (.iload_n 2, 1) := zo_28 (by decide +kernel)
theorem dX3_ask_48 : decode cX3_ask 48 = .ok (.iconst (-1), 1) := zo_2 (by decide +kernel)
theorem dX3_ask_49 : decode cX3_ask 49 = .ok (.if_icmp .eq 9, 3) := zo_159 (by decide +kernel)
theorem dX3_ask_52 : decode cX3_ask 52 = .ok (.iload 5, 2) := zo_21 (by decide +kernel)
theorem dX3_ask_54 : decode cX3_ask 54 = .ok (.iload_n 3, 1) := zo_29 (by decide +kernel)
theorem dX3_ask_55 : decode cX3_ask 55 = .ok (.if_icmp .ge 9, 3) := zo_162 (by decide +kernel)
theorem dX3_ask_58 : decode cX3_ask 58 = .ok (.iload 4, 2) := zo_21 (by decide +kernel)
theorem dX3_ask_60 : decode cX3_ask 60 = .ok (.istore_n 2, 1) := zo_61 (by decide +kernel)
theorem dX3_ask_61 : decode cX3_ask 61 = .ok (.iload 5, 2) := zo_21 (by decide +kernel)
theorem dX3_ask_63 : decode cX3_ask 63 = .ok (.istore_n 3, 1) := zo_62 (by decide +kernel)
theorem dX3_ask_64 : decode cX3_ask 64 = .ok (.iinc 4 1, 3) := zo_132 (by decide +kernel)
theorem dX3_ask_67 : decode cX3_ask 67 = .ok (.goto (-60), 3) := zo_167 (by decide +kernel)
theorem dX3_ask_70 : decode cX3_ask 70 = .ok (.iload_n 2, 1) := zo_28 (by decide +kernel)
theorem dX3_ask_71 : decode cX3_ask 71 = .ok (.ireturn, 1) := zo_172 (by decide +kernel)
theorem dX3_grow_0 : decode cX3_grow 0 = .ok (.aload_n 0, 1) := zo_42 (by decide +kernel)
theorem dX3_grow_1 : decode cX3_grow 1 = .ok (.getfield 18, 3) := zo_180 (by decide +kernel)
theorem dX3_grow_4 : decode cX3_grow 4 = .ok (.arraylength, 1) := zo_190 (by decide +kernel)
theorem dX3_grow_5 : decode cX3_grow 5 = .ok (.iload_n 1, 1) := zo_27 (by decide +kernel)
theorem dX3_grow_6 : decode cX3_grow 6 = .ok (.if_icmp .lt 4, 3) := zo_161 (by decide +kernel)
theorem dX3_grow_9 : decode cX3_grow 9 = .ok (.return_, 1) := zo_177 (by decide +kernel)
theorem dX3_grow_10 : decode cX3_grow 10 = .ok (.bipush 16, 2) := zo_16 (by decide +kernel)
theorem dX3_grow_12 : decode cX3_grow 12 = .ok (.istore_n 2, 1) := zo_61 (by decide +kernel)
theorem dX3_grow_13 : decode cX3_grow 13 = .ok (.iload_n 2, 1) := zo_28 (by decide +kernel)
theorem dX3_grow_14 : decode cX3_grow 14 = .ok (.iload_n 1, 1) := zo_27 (by decide +kernel)
theorem dX3_grow_15 : decode cX3_grow 15 = .ok (.if_icmp .ge 17, 3) := zo_162 (by decide +kernel)
theorem dX3_grow_18 : decode cX3_grow 18 = .ok (.iload_n 2, 1) := zo_28 (by decide +kernel)
theorem dX3_grow_19 : decode cX3_grow 19 = .ok (.sipush 16383, 3) := zo_17 (by decide +kernel)
theorem dX3_grow_22 : decode cX3_grow 22 = .ok (.if_icmp .gt 10, 3) := zo_163 (by decide +kernel)
theorem dX3_grow_25 : decode cX3_grow 25 = .ok (.iload_n 2, 1) := zo_28 (by decide +kernel)
theorem dX3_grow_26 : decode cX3_grow 26 = .ok (.iconst 2, 1) := zo_5 (by decide +kernel)
theorem dX3_grow_27 : decode cX3_grow 27 = .ok (.imul, 1) := zo_104 (by decide +kernel)
theorem dX3_grow_28 : decode cX3_grow 28 = .ok (.istore_n 2, 1) := zo_61 (by decide +kernel)
theorem dX3_grow_29 : decode cX3_grow 29 = .ok (.goto (-16), 3) := zo_167 (by decide +kernel)
theorem dX3_grow_32 : decode cX3_grow 32 = .ok (.aload_n 0, 1) := zo_42 (by decide +kernel)
theorem dX3_grow_33 : decode cX3_grow 33 = .ok (.iload_n 2, 1) := zo_28 (by decide +kernel)
theorem dX3_grow_34 : decode cX3_grow 34 = .ok (.newarray .int, 2) := by decide +kernel
theorem dX3_grow_36 : decode cX3_grow 36 = .ok (.putfield 18, 3) := zo_181 (by decide +kernel)
theorem dX3_grow_39 : decode cX3_grow 39 = .ok (.return_, 1) := zo_177 (by decide +kernel)
theorem dX3_tryWay_0 : decode cX3_tryWay 0 = .ok (.iload_n 3, 1) := zo_29 (by decide +kernel)
theorem dX3_tryWay_1 : decode cX3_tryWay 1 = .ok (.istore 4, 2) := zo_54 (by decide +kernel)
theorem dX3_tryWay_3 : decode cX3_tryWay 3 = .ok (.iconst 0, 1) := zo_3 (by decide +kernel)
theorem dX3_tryWay_4 : decode cX3_tryWay 4 = .ok (.istore 5, 2) := zo_54 (by decide +kernel)
theorem dX3_tryWay_6 : decode cX3_tryWay 6 = .ok (.iconst 0, 1) := zo_3 (by decide +kernel)
theorem dX3_tryWay_7 : decode cX3_tryWay 7 = .ok (.istore 6, 2) := zo_54 (by decide +kernel)
theorem dX3_tryWay_9 : decode cX3_tryWay 9 = .ok (.iload 6, 2) := zo_21 (by decide +kernel)
theorem dX3_tryWay_11 : decode cX3_tryWay 11 = .ok (.aload_n 2, 1) := zo_44 (by decide +kernel)
theorem dX3_tryWay_12 : decode cX3_tryWay 12 = .ok (.getfield 47, 3) := zo_180 (by decide +kernel)
theorem dX3_tryWay_15 : decode cX3_tryWay 15 = .ok (.if_icmp .ge 79, 3) := zo_162 (by decide +kernel)
theorem dX3_tryWay_18 : decode cX3_tryWay 18 = .ok (.iload 6, 2) := zo_21 (by decide +kernel)
theorem dX3_tryWay_20 : decode cX3_tryWay 20 = .ok (.bipush 8, 2) := zo_16 (by decide +kernel)
theorem dX3_tryWay_22 : decode cX3_tryWay 22 = .ok (.if_icmp .ge 72, 3) := zo_162 (by decide +kernel)
theorem dX3_tryWay_25 : decode cX3_tryWay 25 = .ok (.aload_n 2, 1) := zo_44 (by decide +kernel)
theorem dX3_tryWay_26 : decode cX3_tryWay 26 = .ok (.getfield 52, 3) := zo_180 (by decide +kernel)
theorem dX3_tryWay_29 : decode cX3_tryWay 29 = .ok (.iload 6, 2) := zo_21 (by decide +kernel)
theorem dX3_tryWay_31 : decode cX3_tryWay 31 = .ok (.iaload, 1) := zo_46 (by decide +kernel)
theorem dX3_tryWay_32 : decode cX3_tryWay 32 = .ok (.istore 7, 2) := zo_54 (by decide +kernel)
theorem dX3_tryWay_34 : decode cX3_tryWay 34 = .ok (.aload_n 1, 1) := zo_43 (by decide +kernel)
theorem dX3_tryWay_35 : decode cX3_tryWay 35 = .ok (.getfield 55, 3) := zo_180 (by decide +kernel)
theorem dX3_tryWay_38 : decode cX3_tryWay 38 = .ok (.iload 7, 2) := zo_21 (by decide +kernel)
theorem dX3_tryWay_40 : decode cX3_tryWay 40 = .ok (.invokevirtual 58, 3) := zo_182 (by decide +kernel)
theorem dX3_tryWay_43 : decode cX3_tryWay 43 = .ok (.ifCond .eq 21, 3) := zo_153 (by decide +kernel)
theorem dX3_tryWay_46 : decode cX3_tryWay 46 = .ok (.aload_n 1, 1) := zo_43 (by decide +kernel)
theorem dX3_tryWay_47 : decode cX3_tryWay 47 = .ok (.iload 4, 2) := zo_21 (by decide +kernel)
theorem dX3_tryWay_49 : decode cX3_tryWay 49 = .ok (.iload 7, 2) := zo_21 (by decide +kernel)
theorem dX3_tryWay_51 : decode cX3_tryWay 51 = .ok (.aload_n 2, 1) := zo_44 (by decide +kernel)
theorem dX3_tryWay_52 : decode cX3_tryWay 52 = .ok (.getfield 64, 3) := zo_180 (by decide +kernel)
theorem dX3_tryWay_55 : decode cX3_tryWay 55 = .ok (.iload 6, 2) := zo_21 (by decide +kernel)
theorem dX3_tryWay_57 : decode cX3_tryWay 57 = .ok (.iaload, 1) := zo_46 (by decide +kernel)
theorem dX3_tryWay_58 : decode cX3_tryWay 58 = .ok (.invokestatic 67, 3) := zo_184 (by decide +kernel)
theorem dX3_tryWay_61 : decode cX3_tryWay 61 = .ok (.ifCond .ne 4, 3) := zo_154 (by decide +kernel)
theorem dX3_tryWay_64 : decode cX3_tryWay 64 = .ok (.return_, 1) := zo_177 (by decide +kernel)
theorem dX3_tryWay_65 : decode cX3_tryWay 65 = .ok (.iload 5, 2) := zo_21 (by decide +kernel)
theorem dX3_tryWay_67 : decode cX3_tryWay 67 = .ok (.aload_n 1, 1) := zo_43 (by decide +kernel)
theorem dX3_tryWay_68 : decode cX3_tryWay 68 = .ok (.iload 4, 2) := zo_21 (by decide +kernel)
theorem dX3_tryWay_70 : decode cX3_tryWay 70 = .ok (.iload 7, 2) := zo_21 (by decide +kernel)
theorem dX3_tryWay_72 : decode cX3_tryWay 72 = .ok (.invokevirtual 71, 3) := zo_182 (by decide +kernel)
theorem dX3_tryWay_75 : decode cX3_tryWay 75 = .ok (.iadd, 1) := zo_96 (by decide +kernel)
theorem dX3_tryWay_76 : decode cX3_tryWay 76 = .ok (.istore 5, 2) := zo_54 (by decide +kernel)
theorem dX3_tryWay_78 : decode cX3_tryWay 78 = .ok (.aload_n 1, 1) := zo_43 (by decide +kernel)
theorem dX3_tryWay_79 : decode cX3_tryWay 79 = .ok (.iload 4, 2) := zo_21 (by decide +kernel)
theorem dX3_tryWay_81 : decode cX3_tryWay 81 = .ok (.iload 7, 2) := zo_21 (by decide +kernel)
theorem dX3_tryWay_83 : decode cX3_tryWay 83 = .ok (.invokevirtual 75, 3) := zo_182 (by decide +kernel)
theorem dX3_tryWay_86 : decode cX3_tryWay 86 = .ok (.istore 4, 2) := zo_54 (by decide +kernel)
theorem dX3_tryWay_88 : decode cX3_tryWay 88 = .ok (.iinc 6 1, 3) := zo_132 (by decide +kernel)
theorem dX3_tryWay_91 : decode cX3_tryWay 91 = .ok (.goto (-82), 3) := zo_167 (by decide +kernel)
theorem dX3_tryWay_94 : decode cX3_tryWay 94 = .ok (.aload_n 0, 1) := zo_42 (by decide +kernel)
theorem dX3_tryWay_95 : decode cX3_tryWay 95 = .ok (.getfield 34, 3) := zo_180 (by decide +kernel)
theorem dX3_tryWay_98 : decode cX3_tryWay 98 = .ok (.aload_n 0, 1) := zo_42 (by decide +kernel)
theorem dX3_tryWay_99 : decode cX3_tryWay 99 = .ok (.getfield 18, 3) := zo_180 (by decide +kernel)
theorem dX3_tryWay_102 : decode cX3_tryWay 102 = .ok (.arraylength, 1) := zo_190 (by decide +kernel)
theorem dX3_tryWay_103 : decode cX3_tryWay 103 = .ok (.if_icmp .ge 67, 3) := zo_162 (by decide +kernel)
theorem dX3_tryWay_106 : decode cX3_tryWay 106 = .ok (.aload_n 0, 1) := zo_42 (by decide +kernel)
theorem dX3_tryWay_107 : decode cX3_tryWay 107 = .ok (.aload_n 0, 1) := zo_42 (by decide +kernel)
theorem dX3_tryWay_108 : decode cX3_tryWay 108 = .ok (.getfield 34, 3) := zo_180 (by decide +kernel)
theorem dX3_tryWay_111 : decode cX3_tryWay 111 = .ok (.ifCond .ne 8, 3) := zo_154 (by decide +kernel)
theorem dX3_tryWay_114 : decode cX3_tryWay 114 = .ok (.iload 5, 2) := zo_21 (by decide +kernel)
theorem dX3_tryWay_116 : decode cX3_tryWay 116 = .ok (.goto 12, 3) := zo_167 (by decide +kernel)
theorem dX3_tryWay_119 : decode cX3_tryWay 119 = .ok (.aload_n 0, 1) := zo_42 (by decide +kernel)
theorem dX3_tryWay_120 : decode cX3_tryWay 120 = .ok (.getfield 37, 3) := zo_180 (by decide +kernel)
theorem dX3_tryWay_123 : decode cX3_tryWay 123 = .ok (.iload 5, 2) := zo_21 (by decide +kernel)
theorem dX3_tryWay_125 : decode cX3_tryWay 125 = .ok (.invokestatic 78, 3) := zo_184 (by decide +kernel)
theorem dX3_tryWay_128 : decode cX3_tryWay 128 = .ok (.putfield 37, 3) := zo_181 (by decide +kernel)
theorem dX3_tryWay_131 : decode cX3_tryWay 131 = .ok (.aload_n 0, 1) := zo_42 (by decide +kernel)
theorem dX3_tryWay_132 : decode cX3_tryWay 132 = .ok (.aload_n 0, 1) := zo_42 (by decide +kernel)
theorem dX3_tryWay_133 : decode cX3_tryWay 133 = .ok (.getfield 40, 3) := zo_180 (by decide +kernel)
theorem dX3_tryWay_136 : decode cX3_tryWay 136 = .ok (.iload 5, 2) := zo_21 (by decide +kernel)
theorem dX3_tryWay_138 : decode cX3_tryWay 138 = .ok (.invokestatic 83, 3) := zo_184 (by decide +kernel)
theorem dX3_tryWay_141 : decode cX3_tryWay 141 = .ok (.putfield 40, 3) := zo_181 (by decide +kernel)
theorem dX3_tryWay_144 : decode cX3_tryWay 144 = .ok (.aload_n 0, 1) := zo_42 (by decide +kernel)
theorem dX3_tryWay_145 : decode cX3_tryWay 145 = .ok (.getfield 18, 3) := zo_180 (by decide +kernel)
theorem dX3_tryWay_148 : decode cX3_tryWay 148 = .ok (.aload_n 0, 1) := zo_42 (by decide +kernel)
theorem dX3_tryWay_149 : decode cX3_tryWay 149 = .ok (.getfield 34, 3) := zo_180 (by decide +kernel)
theorem dX3_tryWay_152 : decode cX3_tryWay 152 = .ok (.iload 4, 2) := zo_21 (by decide +kernel)
theorem dX3_tryWay_154 : decode cX3_tryWay 154 = .ok (.bipush 14, 2) := zo_16 (by decide +kernel)
theorem dX3_tryWay_156 : decode cX3_tryWay 156 = .ok (.ishl, 1) := zo_120 (by decide +kernel)
theorem dX3_tryWay_157 : decode cX3_tryWay 157 = .ok (.iload_n 3, 1) := zo_29 (by decide +kernel)
theorem dX3_tryWay_158 : decode cX3_tryWay 158 = .ok (.iadd, 1) := zo_96 (by decide +kernel)
theorem dX3_tryWay_159 : decode cX3_tryWay 159 = .ok (.iastore, 1) := zo_79 (by decide +kernel)
theorem dX3_tryWay_160 : decode cX3_tryWay 160 = .ok (.aload_n 0, 1) := zo_42 (by decide +kernel)
theorem dX3_tryWay_161 : decode cX3_tryWay 161 = .ok (.dup, 1) := zo_89 (by decide +kernel)
theorem dX3_tryWay_162 : decode cX3_tryWay 162 = .ok (.getfield 34, 3) := zo_180 (by decide +kernel)
theorem dX3_tryWay_165 : decode cX3_tryWay 165 = .ok (.iconst 1, 1) := zo_4 (by decide +kernel)
theorem dX3_tryWay_166 : decode cX3_tryWay 166 = .ok (.iadd, 1) := zo_96 (by decide +kernel)
theorem dX3_tryWay_167 : decode cX3_tryWay 167 = .ok (.putfield 34, 3) := zo_181 (by decide +kernel)
theorem dX3_tryWay_170 : decode cX3_tryWay 170 = .ok (.return_, 1) := zo_177 (by decide +kernel)
theorem dX3_find_0 : decode cX3_find 0 = .ok (.aload_n 0, 1) := zo_42 (by decide +kernel)
theorem dX3_find_1 : decode cX3_find 1 = .ok (.aload_n 1, 1) := zo_43 (by decide +kernel)
theorem dX3_find_2 : decode cX3_find 2 = .ok (.getfield 25, 3) := zo_180 (by decide +kernel)
theorem dX3_find_5 : decode cX3_find 5 = .ok (.invokevirtual 30, 3) := zo_182 (by decide +kernel)
theorem dX3_find_8 : decode cX3_find 8 = .ok (.aload_n 0, 1) := zo_42 (by decide +kernel)
theorem dX3_find_9 : decode cX3_find 9 = .ok (.iconst 0, 1) := zo_3 (by decide +kernel)
theorem dX3_find_10 : decode cX3_find 10 = .ok (.putfield 34, 3) := zo_181 (by decide +kernel)
theorem dX3_find_13 : decode cX3_find 13 = .ok (.aload_n 0, 1) := zo_42 (by decide +kernel)
theorem dX3_find_14 : decode cX3_find 14 = .ok (.iconst 0, 1) := zo_3 (by decide +kernel)
theorem dX3_find_15 : decode cX3_find 15 = .ok (.putfield 37, 3) := zo_181 (by decide +kernel)
theorem dX3_find_18 : decode cX3_find 18 = .ok (.aload_n 0, 1) := zo_42 (by decide +kernel)
theorem dX3_find_19 : decode cX3_find 19 = .ok (.iconst 0, 1) := zo_3 (by decide +kernel)
theorem dX3_find_20 : decode cX3_find 20 = .ok (.putfield 40, 3) := zo_181 (by decide +kernel)
theorem dX3_find_23 : decode cX3_find 23 = .ok (.iconst 0, 1) := zo_3 (by decide +kernel)
theorem dX3_find_24 : decode cX3_find 24 = .ok (.istore_n 3, 1) := zo_62 (by decide +kernel)
theorem dX3_find_25 : decode cX3_find 25 = .ok (.iload_n 3, 1) := zo_29 (by decide +kernel)
theorem dX3_find_26 : decode cX3_find 26 = .ok (.aload_n 1, 1) := zo_43 (by decide +kernel)
theorem dX3_find_27 : decode cX3_find 27 = .ok (.getfield 25, 3) := zo_180 (by decide +kernel)
theorem dX3_find_30 : decode cX3_find 30 = .ok (.if_icmp .ge 23, 3) := zo_162 (by decide +kernel)
theorem dX3_find_33 : decode cX3_find 33 = .ok (.iload_n 3, 1) := zo_29 (by decide +kernel)
theorem dX3_find_34 : decode cX3_find 34 = .ok (.sipush 16383, 3) := zo_17 (by decide +kernel)
theorem dX3_find_37 : decode cX3_find 37 = .ok (.if_icmp .gt 16, 3) := zo_163 (by decide +kernel)
theorem dX3_find_40 : decode cX3_find 40 = .ok (.aload_n 0, 1) := zo_42 (by decide +kernel)
theorem dX3_find_41 : decode cX3_find 41 = .ok (.aload_n 1, 1) := zo_43 (by decide +kernel)
theorem dX3_find_42 : decode cX3_find 42 = .ok (.aload_n 2, 1) := zo_44 (by decide +kernel)
theorem dX3_find_43 : decode cX3_find 43 = .ok (.iload_n 3, 1) := zo_29 (by decide +kernel)
theorem dX3_find_44 : decode cX3_find 44 = .ok (.invokevirtual 43, 3) := zo_182 (by decide +kernel)
theorem dX3_find_47 : decode cX3_find 47 = .ok (.iinc 3 1, 3) := zo_132 (by decide +kernel)
theorem dX3_find_50 : decode cX3_find 50 = .ok (.goto (-25), 3) := zo_167 (by decide +kernel)
theorem dX3_find_53 : decode cX3_find 53 = .ok (.return_, 1) := zo_177 (by decide +kernel)
def zMw (md wy cr inn : Int32) (k1 : Nat → Int32) : Int32 := if md = 0 then zWy cr inn k1 else wy
def zMk (md : Int32) (n : Nat) (pl : Int32) : Nat := if md = 0 then zNl n pl else n
theorem zMk_pw {md : Int32} {n : Nat} {pl : Int32} (h : zPw n) : zPw (zMk md n pl) := by
  unfold zMk
  split
  · exact zNl_pw h
  · exact h
theorem z_mul4 {x y : Int32} {M : Int} (hx : 1 ≤ x.toInt ∧ x.toInt ≤ M) (hy : 1 ≤ y.toInt ∧ y.toInt ≤ 4) (hM : M * 4 < 2147483648) : 1 ≤ (x * y).toInt ∧ (x * y).toInt ≤ M * 4 := by
  have h1 : x.toInt * y.toInt ≤ M * 4 := Int.mul_le_mul hx.2 hy.2 (by omega) (by omega)
  have h0 : 1 * 1 ≤ x.toInt * y.toInt := Int.mul_le_mul hx.1 hy.1 (by omega) (by omega)
  rw [z_imulI (by omega) (by omega)]
  omega
theorem zCh_in {cr inn : Int32} {k1 k3 : Nat → Int32} (hI : zLI cr k1 k3) (x : Int32) : 1 ≤ (zCh cr inn k1 x).toInt ∧ (zCh cr inn k1 x).toInt ≤ 4 := by
  have h := zWays_le (inn := inn) hI x
  unfold zCh
  split
  · decide
  · rename_i q
    have h1 : ¬ (zWays cr inn k1 x).toInt < 1 := fun z => q ((fa_lt _ _).mpr z)
    omega
theorem zWy_in {cr inn : Int32} {k1 k3 : Nat → Int32} (hI : zLI cr k1 k3) : 1 ≤ (zWy cr inn k1).toInt ∧ (zWy cr inn k1).toInt ≤ 16384 := by
  have c := fun x => zCh_in (inn := inn) hI x
  have h1 := z_mul4 (x := 1) (M := 1) (by decide) (c 6) (by decide)
  have h2 := z_mul4 h1 (c 5) (by decide)
  have h3 := z_mul4 h2 (c 4) (by decide)
  have h4 := z_mul4 h3 (c 3) (by decide)
  have h5 := z_mul4 h4 (c 2) (by decide)
  have h6 := z_mul4 h5 (c 1) (by decide)
  have h7 := z_mul4 h6 (c 0) (by decide)
  exact ⟨h7.1, Int.le_trans h7.2 (by decide)⟩
/-- how long the rows of what fits are made -/
def zFnN (wy : Int32) : Nat → Nat → Nat
  | 0, L => L
  | k + 1, L => if (L : Int) < wy.toInt ∧ L ≤ 16383 then zFnN wy k (2 * L) else L
def zFl (n : Nat) (wy : Int32) : Nat := if wy.toInt ≤ n then n else zFnN wy 11 16
def zFw (n : Nat) : Prop := n = 0 ∨ ∃ k, k ≤ 10 ∧ n = 16 * 2 ^ k
theorem zFnN_pw {wy : Int32} : ∀ (f k : Nat), k ≤ 10 → 10 ≤ f + k → ∃ j, k ≤ j ∧ j ≤ 10 ∧ zFnN wy f (16 * 2 ^ k) = 16 * 2 ^ j
  | 0, k, h, h2 => ⟨k, Nat.le_refl _, h, rfl⟩
  | f + 1, k, h, h2 => by
    rw [zFnN]
    split
    · rename_i q
      have hk : k < 10 := by
        rcases Nat.lt_or_ge k 10 with z | z
        · exact z
        · have e : k = 10 := by omega
          subst e
          exact absurd q.2 (by decide)
      rw [show 2 * (16 * 2 ^ k) = 16 * 2 ^ (k + 1) by rw [Nat.pow_succ]; omega]
      obtain ⟨j, h3, h4, h5⟩ := zFnN_pw f (k + 1) (by omega) (by omega)
      exact ⟨j, by omega, h4, h5⟩
    · exact ⟨k, Nat.le_refl _, h, rfl⟩
theorem zFnN_ge {wy : Int32} (hp : wy.toInt ≤ 16384) : ∀ (f k : Nat), k ≤ 10 → 11 ≤ f + k → wy.toInt ≤ (zFnN wy f (16 * 2 ^ k) : Nat)
  | 0, k, h, h2 => by omega
  | f + 1, k, h, h2 => by
    rw [zFnN]
    split
    · rename_i q
      have hk : k < 10 := by
        rcases Nat.lt_or_ge k 10 with z | z
        · exact z
        · have e : k = 10 := by omega
          subst e
          exact absurd q.2 (by decide)
      rw [show 2 * (16 * 2 ^ k) = 16 * 2 ^ (k + 1) by rw [Nat.pow_succ]; omega]
      exact zFnN_ge hp f (k + 1) (by omega) (by omega)
    · rename_i q
      by_cases z : (16 * 2 ^ k : Nat) ≤ 16383
      · by_cases y : ((16 * 2 ^ k : Nat) : Int) < wy.toInt
        · exact absurd ⟨y, z⟩ q
        · omega
      · omega
theorem zFw_le {n : Nat} (h : zFw n) : n ≤ 16384 := by
  rcases h with h | ⟨k, h1, h2⟩
  · omega
  · have h3 : 2 ^ k ≤ 2 ^ 10 := Nat.pow_le_pow_right (by decide) h1
    rw [h2]
    omega
theorem zFl_pw {n : Nat} {wy : Int32} (h : zFw n) : zFw (zFl n wy) := by
  unfold zFl
  split
  · exact h
  · obtain ⟨j, h1, h2, h3⟩ := zFnN_pw (wy := wy) 11 0 (by decide) (by decide)
    exact Or.inr ⟨j, h2, h3⟩
theorem zFl_room {n : Nat} {wy : Int32} (h : zFw n) (hp : wy.toInt ≤ 16384) (hg : ¬ wy.toInt ≤ n) : 2 * n ≤ zFnN wy 11 16 := by
  have h0 := zFnN_ge hp 11 0 (by decide) (by decide)
  obtain ⟨j, h1, h2, h3⟩ := zFnN_pw (wy := wy) 11 0 (by decide) (by decide)
  have e : (16 * 2 ^ 0 : Nat) = 16 := by decide
  rw [e] at h0 h3
  rcases h with h | ⟨k, k1, k2⟩
  · omega
  · rw [h3] at h0 ⊢
    rw [k2] at hg ⊢
    have hlt : 16 * 2 ^ k < 16 * 2 ^ j := by omega
    have hkj : k < j := by
      rcases Nat.lt_or_ge k j with z | z
      · exact z
      · have := Nat.pow_le_pow_right (n := 2) (by decide) z
        omega
    have h5 : 2 ^ (k + 1) ≤ 2 ^ j := Nat.pow_le_pow_right (by decide) hkj
    rw [Nat.pow_succ] at h5
    omega
theorem z_k10 {k L : Nat} (hk : k ≤ 10) (hL : L = 16 * 2 ^ k) (h : L ≤ 16383) : k + 1 ≤ 10 := by
  rcases Nat.lt_or_ge k 10 with z | z
  · omega
  · have e : k = 10 := by omega
    subst e
    omega
theorem z_k10b {k L : Nat} (hk : k ≤ 10) (hL : L = 16 * 2 ^ k) (h : L ≤ 16383) : L * 2 ≤ 16384 := by
  have h1 := z_k10 hk hL h
  have h2 : 2 ^ (k + 1) ≤ 2 ^ 10 := Nat.pow_le_pow_right (by decide) h1
  rw [Nat.pow_succ] at h2
  omega
def zFway (r1 : Nat → Int32) (m1 : Nat) (k : Int32) : Int32 := if 0 ≤ k.toInt ∧ k.toInt < m1 then r1 k.toNatClampNeg &&& 16383 else 0
set_option maxHeartbeats 4000000 in
set_option maxRecDepth 100000 in
/-- c_way -/
theorem c_way (l : Launch) (T : zTy) (t : Nat) (e0 : Int32) (e1 : Int32) (e2 : Int32) (e3 : Int32) (e4 : Int32) (e5 : Int32) (r1 : Nat → Int32) (m1 : Nat) (r2 : Nat → Int32) (wf : va_W) (k : Int32) (hwf : bFit T t e0 e1 e2 e3 e4 e5 r1 m1 r2 wf) (hm : m1 ≤ 16384) : zMi l T yX3_way cX3_way 2 (some .int) 1 0 0 [.ref t, .int k] [wf] (fun (r : Int32) bs => bs = [wf] ∧ r = zFway r1 m1 k) := by
  refine zMi_of (own := RX3) (by decide) rfl (Nat.le_of_ble_eq_true rfl) ?_
  intro p e s m args below meth c A ls C hr hlocks hnm hAe G hl
  refine zHide (fun Qz_ hQz_ => ?_)
  have hx := C.1
  have hb := C.2.1
  have hl : lv_has ls 2 [(0, .ref t), (1, .int k)] := hl
  refine lv_iload_n hx hb dX3_way_0 rfl (lv_at hl 1 rfl) ?_
  refine lv_if_lt (tgt := 26) hx hb dX3_way_1 (by decide) (fun c_1 => ?_) (fun c_1 => ?_)
  · have c_1n : k.toInt < (0 : Int) := (fa_lt _ _).mp c_1
    refine lv_iconst (v := 0) hx hb dX3_way_26 (by decide) ?_
    exact z_back hQz_ (z_iret C hr hlocks G (Nat.le_of_ble_eq_true rfl) (Nat.le_of_ble_eq_true rfl) dX3_way_27 ⟨rfl, (by unfold zFway; rw [if_neg (by omega)])⟩)
  · have c_1n : ¬ k.toInt < (0 : Int) := fun q => c_1 ((fa_lt _ _).mpr q)
    refine lv_iload_n hx hb dX3_way_4 rfl (lv_at hl 1 rfl) ?_
    refine lv_aload_n hx hb dX3_way_5 rfl (lv_at hl 0 rfl) ?_
    refine zEx2 hwf ?_
    intro a1_2 a2_3 hbs9
    clear hwf
    subst hbs9
    have G : zS T A s.heap s [[zO3 t e0 e1 e2 e3 e4 e5 a1_2 a2_3], [zAr T 0 a1_2 m1 r1], [zAr T 0 a2_3 7 r2]] _ _ := G.re rfl
    refine z_get C G clX3 0 rfl 6 (by decide) m_fl_RX3_18 rfl dX3_way_6 ?_
    refine z_alen C G 1 0 rfl (v := nI m1) rfl rfl dX3_way_9 ?_
    refine lv_icmp_ge (tgt := 26) hx hb dX3_way_10 (by decide) (fun c_4 => ?_) (fun c_4 => ?_)
    · have c_4n : (m1 : Int) ≤ k.toInt := by have q := (fa_le _ _).mp c_4; rw [nI_toInt (n := m1) (by omega)] at q; exact q
      refine lv_iconst (v := 0) hx hb dX3_way_26 (by decide) ?_
      have hw_5 : bFit T t e0 e1 e2 e3 e4 e5 r1 m1 r2 [zO3 t e0 e1 e2 e3 e4 e5 a1_2 a2_3, zAr T 0 a1_2 m1 r1, zAr T 0 a2_3 7 r2] := ⟨a1_2, a2_3, rfl⟩
      have G : zS T A s.heap s [[zO3 t e0 e1 e2 e3 e4 e5 a1_2 a2_3, zAr T 0 a1_2 m1 r1, zAr T 0 a2_3 7 r2]] _ _ := G.re rfl
      exact z_back hQz_ (z_iret C hr hlocks G (Nat.le_of_ble_eq_true rfl) (Nat.le_of_ble_eq_true rfl) dX3_way_27 ⟨rfl, (by unfold zFway; rw [if_neg (by omega)])⟩)
    · have c_4n : ¬ (m1 : Int) ≤ k.toInt := fun q => c_4 ((fa_le _ _).mpr (by rw [nI_toInt (n := m1) (by omega)]; exact q))
      refine lv_aload_n hx hb dX3_way_13 rfl (lv_at hl 0 rfl) ?_
      refine z_get C G clX3 0 rfl 6 (by decide) m_fl_RX3_18 rfl dX3_way_14 ?_
      refine lv_iload_n hx hb dX3_way_17 rfl (lv_at hl 1 rfl) ?_
      refine z_ild C G 1 rfl (vp_in_iff.mpr ⟨by omega, by omega⟩) dX3_way_18 ?_
      refine lv_topi (fun v_6 ev_6 => ?_)
      subst ev_6
      refine lv_sipush (v := 16383) hx hb dX3_way_19 (by decide) ?_
      refine lv_iand hx hb dX3_way_22 ?_
      refine lv_goto (tgt := 27) hx hb dX3_way_23 (by decide) ?_
      have hw_7 : bFit T t e0 e1 e2 e3 e4 e5 r1 m1 r2 [zO3 t e0 e1 e2 e3 e4 e5 a1_2 a2_3, zAr T 0 a1_2 m1 r1, zAr T 0 a2_3 7 r2] := ⟨a1_2, a2_3, rfl⟩
      have G : zS T A s.heap s [[zO3 t e0 e1 e2 e3 e4 e5 a1_2 a2_3, zAr T 0 a1_2 m1 r1, zAr T 0 a2_3 7 r2]] _ _ := G.re rfl
      exact z_back hQz_ (z_iret C hr hlocks G (Nat.le_of_ble_eq_true rfl) (Nat.le_of_ble_eq_true rfl) dX3_way_27 ⟨rfl, (by unfold zFway; rw [if_pos (by omega)])⟩)
set_option maxHeartbeats 4000000 in
set_option maxRecDepth 100000 in
/-- c_pointing -/
theorem c_pointing (l : Launch) (T : zTy) (t : Nat) (e0 : Int32) (e1 : Int32) (e2 : Int32) (e3 : Int32) (e4 : Int32) (e5 : Int32) (r1 : Nat → Int32) (m1 : Nat) (r2 : Nat → Int32) (wf : va_W) (h : Nat) (la : Nat) (md : Int32) (wy : Int32) (pc_ : Int32) (f1 : Nat → Int32) (f2 : Nat → Int32) (f3 : Nat → Int32) (f4 : Nat → Int32) (f5 : Nat → Int32) (f6 : Nat → Int32) (n4 : Nat) (ww : va_W) (x : Int32) (y : Int32) (hwf : bFit T t e0 e1 e2 e3 e4 e5 r1 m1 r2 wf) (hww : bWays T h la md wy pc_ f1 f2 f3 f4 f5 f6 n4 ww) (hm : m1 ≤ 16384) : zMi l T yX3_pointing cX3_pointing 6 (some .int) 3 0 0 [.ref t, .ref h, .int x, .int y] [wf, ww] (fun (r : Int32) bs => bs = [wf, ww]) := by
  refine zMi_of (own := RX3) (by decide) rfl (Nat.le_of_ble_eq_true rfl) ?_
  intro p e s m args below meth c A ls C hr hlocks hnm hAe G hl
  refine zHide (fun Qz_ hQz_ => ?_)
  have hx := C.1
  have hb := C.2.1
  have hl : lv_has ls 6 [(0, .ref t), (1, .ref h), (2, .int x), (3, .int y)] := hl
  have hge := Int32.toInt_lt e3
  refine lv_iconst (v := 0) hx hb dX3_pointing_0 (by decide) ?_
  refine lv_istore (lv' := [(4, .int 0), (0, .ref t), (1, .ref h), (2, .int x), (3, .int y)]) hx hb dX3_pointing_1 hl (by decide) (zLvf_h rfl) (fun ls hl => ?_)
  refine lv_iconst (v := 0) hx hb dX3_pointing_3 (by decide) ?_
  refine lv_istore (lv' := [(5, .int 0), (4, .int 0), (0, .ref t), (1, .ref h), (2, .int x), (3, .int y)]) hx hb dX3_pointing_4 hl (by decide) (zLvf_h rfl) (fun ls hl => ?_)
  refine zEx2 hwf ?_
  intro a1_1 a2_2 hbs9
  clear hwf
  subst hbs9
  have G : zS T A s.heap s [[zO3 t e0 e1 e2 e3 e4 e5 a1_1 a2_2], [zAr T 0 a1_1 m1 r1], [zAr T 0 a2_2 7 r2], ww] _ _ := G.re rfl
  have hw_3 : bFit T t e0 e1 e2 e3 e4 e5 r1 m1 r2 [zO3 t e0 e1 e2 e3 e4 e5 a1_1 a2_2, zAr T 0 a1_1 m1 r1, zAr T 0 a2_2 7 r2] := ⟨a1_1, a2_2, rfl⟩
  have G : zS T A s.heap s [[zO3 t e0 e1 e2 e3 e4 e5 a1_1 a2_2, zAr T 0 a1_1 m1 r1, zAr T 0 a2_2 7 r2], ww] _ _ := G.re rfl
  refine z_lp2 (T := T) 6 (fun (i : Nat) (ui4 : Int32) => [[zO3 t e0 e1 e2 e3 e4 e5 a1_1 a2_2, zAr T 0 a1_1 m1 r1, zAr T 0 a2_2 7 r2], ww]) (fun (i : Nat) (ui4 : Int32) => [(5, .int (nI i)), (4, .int ui4), (0, .ref t), (1, .ref h), (2, .int x), (3, .int y)]) (fun (i : Nat) (ui4 : Int32) => i ≤ e3.toInt.toNat) (fun (i : Nat) (ui4 : Int32) => e3.toInt.toNat - i) ?_ 0 0 (show 0 ≤ e3.toInt.toNat from by omega) G (lv_sub hl [0, 1, 2, 3, 4, 5] rfl)
  intro i ui4 hi ih_6 H locs ls G hl
  replace hi : i ≤ e3.toInt.toNat := hi
  replace G : zS T A s.heap s [[zO3 t e0 e1 e2 e3 e4 e5 a1_1 a2_2, zAr T 0 a1_1 m1 r1, zAr T 0 a2_2 7 r2], ww] _ _ := G
  replace hl : lv_has ls 6 [(5, .int (nI i)), (4, .int ui4), (0, .ref t), (1, .ref h), (2, .int x), (3, .int y)] := hl
  refine lv_iload hx hb dX3_pointing_6 (lv_at hl 0 rfl) ?_
  refine lv_aload_n hx hb dX3_pointing_8 rfl (lv_at hl 2 rfl) ?_
  have G : zS T A s.heap s [[zO3 t e0 e1 e2 e3 e4 e5 a1_1 a2_2], [zAr T 0 a1_1 m1 r1], [zAr T 0 a2_2 7 r2], ww] _ _ := G.re rfl
  refine z_get C G clX3 0 rfl 3 (by decide) m_fl_RX3_34 rfl dX3_pointing_9 ?_
  refine lv_icmp_ge (tgt := 39) hx hb dX3_pointing_12 (by decide) (fun c_4 => ?_) (fun c_4 => ?_)
  · have c_4n : e3.toInt ≤ (i : Int) := by have q := (fa_le _ _).mp c_4; rw [nI_toInt (n := i) (by omega)] at q; exact q
    refine lv_iload hx hb dX3_pointing_39 (lv_at hl 1 rfl) ?_
    have hw_5 : bFit T t e0 e1 e2 e3 e4 e5 r1 m1 r2 [zO3 t e0 e1 e2 e3 e4 e5 a1_1 a2_2, zAr T 0 a1_1 m1 r1, zAr T 0 a2_2 7 r2] := ⟨a1_1, a2_2, rfl⟩
    have G : zS T A s.heap s [[zO3 t e0 e1 e2 e3 e4 e5 a1_1 a2_2, zAr T 0 a1_1 m1 r1, zAr T 0 a2_2 7 r2], ww] _ _ := G.re rfl
    exact z_back hQz_ (z_iret C hr hlocks G (Nat.le_of_ble_eq_true rfl) (Nat.le_of_ble_eq_true rfl) dX3_pointing_41 rfl)
  · have c_4n : ¬ e3.toInt ≤ (i : Int) := fun q => c_4 ((fa_le _ _).mpr (by rw [nI_toInt (n := i) (by omega)]; exact q))
    refine lv_aload_n hx hb dX3_pointing_15 rfl (lv_at hl 3 rfl) ?_
    refine lv_aload_n hx hb dX3_pointing_16 rfl (lv_at hl 2 rfl) ?_
    refine lv_iload hx hb dX3_pointing_17 (lv_at hl 0 rfl) ?_
    have hw_6 : bFit T t e0 e1 e2 e3 e4 e5 r1 m1 r2 [zO3 t e0 e1 e2 e3 e4 e5 a1_1 a2_2, zAr T 0 a1_1 m1 r1, zAr T 0 a2_2 7 r2] := ⟨a1_1, a2_2, rfl⟩
    have G : zS T A s.heap s [[zO3 t e0 e1 e2 e3 e4 e5 a1_1 a2_2, zAr T 0 a1_1 m1 r1, zAr T 0 a2_2 7 r2], ww] _ _ := G.re rfl
    refine z_Vi (bc := [[zO3 t e0 e1 e2 e3 e4 e5 a1_1 a2_2, zAr T 0 a1_1 m1 r1, zAr T 0 a2_2 7 r2]]) (br := [ww]) (As := [.int (nI i)]) (rest := [.ref h]) C G (c_way l T t e0 e1 e2 e3 e4 e5 r1 m1 r2 ([zO3 t e0 e1 e2 e3 e4 e5 a1_1 a2_2, zAr T 0 a1_1 m1 r1, zAr T 0 a2_2 7 r2]) (nI i) hw_6 (by first | with_reducible assumption | with_reducible rfl | omega | assumption | rfl)) (kV_RX3_92 C.2.2.2.2 (Nat.le_of_ble_eq_true rfl) (Nat.le_of_ble_eq_true rfl)) [0] [0] rfl rfl (ci := 3) (qc := (RX3, TX3, 8)) rfl rfl (List.mem_flatten.mpr ⟨_, List.mem_of_getElem? (i := 0) rfl, (bFit_mem hw_6).choose_spec⟩) rfl rfl hl.1 dX3_pointing_19 (Nat.le_of_ble_eq_true rfl) (Nat.le_of_ble_eq_true rfl) (fun r_8 b1 H locs hw G => ?_)
    refine zAn2 hw ?_
    intro hbs9 h_7
    clear hw
    subst hbs9
    have G : zS T A s.heap s [ww, [zO3 t e0 e1 e2 e3 e4 e5 a1_1 a2_2, zAr T 0 a1_1 m1 r1, zAr T 0 a2_2 7 r2]] _ _ := G
    subst h_7
    refine lv_iload_n hx hb dX3_pointing_22 rfl (lv_at hl 4 rfl) ?_
    refine z_Vi (bc := [ww]) (br := [[zO3 t e0 e1 e2 e3 e4 e5 a1_1 a2_2, zAr T 0 a1_1 m1 r1, zAr T 0 a2_2 7 r2]]) (As := [.int (zFway r1 m1 (nI i)), .int x]) (rest := []) C G (c_road l T h la md wy pc_ f1 f2 f3 f4 f5 f6 n4 ww (zFway r1 m1 (nI i)) x hww) (kV_RX3_96 C.2.2.2.2 (Nat.le_of_ble_eq_true rfl) (Nat.le_of_ble_eq_true rfl)) [0] [0] rfl rfl (ci := 0) (qc := (RX0, TX0, 10)) rfl rfl (List.mem_flatten.mpr ⟨_, List.mem_of_getElem? (i := 0) rfl, (bWays_mem hww).choose_spec⟩) rfl rfl hl.1 dX3_pointing_23 (Nat.le_of_ble_eq_true rfl) (Nat.le_of_ble_eq_true rfl) (fun r_10 b1 H locs hw G => ?_)
    refine zAn2 hw ?_
    intro hbs9 h_9
    clear hw
    subst hbs9
    have G : zS T A s.heap s [[zO3 t e0 e1 e2 e3 e4 e5 a1_1 a2_2, zAr T 0 a1_1 m1 r1, zAr T 0 a2_2 7 r2], ww] _ _ := G
    subst h_9
    refine lv_iload_n hx hb dX3_pointing_26 rfl (lv_at hl 5 rfl) ?_
    refine lv_icmp_ne (tgt := 33) hx hb dX3_pointing_27 (by decide) (fun c_11 => ?_) (fun c_11 => ?_)
    · have c_11n : ¬ (zRoad f1 f2 (zFway r1 m1 (nI i)) x).toInt = y.toInt := fun q => c_11 ((fa_eq _ _).mpr q)
      refine lv_iinc (v := nI (i + 1)) (lv' := [(5, .int (nI (i + 1))), (4, .int ui4), (0, .ref t), (1, .ref h), (2, .int x), (3, .int y)]) hx hb dX3_pointing_33 hl (k := 0) rfl (z_inc i 1) (by decide) (zLvf_h rfl) (fun ls hl => ?_)
      refine lv_goto (tgt := 6) hx hb dX3_pointing_36 (by decide) ?_
      exact ih_6 (i + 1) ui4 (show (i + 1) ≤ e3.toInt.toNat from by omega) (show e3.toInt.toNat - (i + 1) < e3.toInt.toNat - i from by omega) _ _ ls G (lv_sub hl [0, 1, 2, 3, 4, 5] rfl)
    · have c_11n : (zRoad f1 f2 (zFway r1 m1 (nI i)) x).toInt = y.toInt := (fa_eq _ _).mp c_11
      refine lv_iinc (v := ui4 + 1) (lv' := [(4, .int (ui4 + 1)), (5, .int (nI i)), (0, .ref t), (1, .ref h), (2, .int x), (3, .int y)]) hx hb dX3_pointing_30 hl (k := 1) rfl rfl (by decide) (zLvf_h rfl) (fun ls hl => ?_)
      refine lv_iinc (v := nI (i + 1)) (lv' := [(5, .int (nI (i + 1))), (4, .int (ui4 + 1)), (0, .ref t), (1, .ref h), (2, .int x), (3, .int y)]) hx hb dX3_pointing_33 hl (k := 1) rfl (z_inc i 1) (by decide) (zLvf_h rfl) (fun ls hl => ?_)
      refine lv_goto (tgt := 6) hx hb dX3_pointing_36 (by decide) ?_
      exact ih_6 (i + 1) (ui4 + 1) (show (i + 1) ≤ e3.toInt.toNat from by omega) (show e3.toInt.toNat - (i + 1) < e3.toInt.toNat - i from by omega) _ _ ls G (lv_sub hl [0, 1, 2, 3, 4, 5] rfl)
set_option maxHeartbeats 4000000 in
set_option maxRecDepth 100000 in
/-- c_sure -/
theorem c_sure (l : Launch) (T : zTy) (t : Nat) (e0 : Int32) (e1 : Int32) (e2 : Int32) (e3 : Int32) (e4 : Int32) (e5 : Int32) (r1 : Nat → Int32) (m1 : Nat) (r2 : Nat → Int32) (wf : va_W) (h : Nat) (la : Nat) (md : Int32) (wy : Int32) (pc_ : Int32) (f1 : Nat → Int32) (f2 : Nat → Int32) (f3 : Nat → Int32) (f4 : Nat → Int32) (f5 : Nat → Int32) (f6 : Nat → Int32) (n4 : Nat) (ww : va_W) (cr : Int32) (inn : Int32) (k1 : Nat → Int32) (k2 : Nat → Int32) (k3 : Nat → Int32) (k4 : Nat → Int32) (z : va_W) (x : Int32) (hwf : bFit T t e0 e1 e2 e3 e4 e5 r1 m1 r2 wf) (hww : bWays T h la md wy pc_ f1 f2 f3 f4 f5 f6 n4 ww) (hz : bLand T la cr inn k1 k2 k3 k4 z) (hm : m1 ≤ 16384) : zMi l T yX3_sure cX3_sure 4 (some .int) 4 0 0 [.ref t, .ref h, .int x] [wf, ww, z] (fun (r : Int32) bs => bs = [wf, ww, z]) := by
  refine zMi_of (own := RX3) (by decide) rfl (Nat.le_of_ble_eq_true rfl) ?_
  intro p e s m args below meth c A ls C hr hlocks hnm hAe G hl
  refine zHide (fun Qz_ hQz_ => ?_)
  have hx := C.1
  have hb := C.2.1
  have hl : lv_has ls 4 [(0, .ref t), (1, .ref h), (2, .int x)] := hl
  refine lv_aload_n hx hb dX3_sure_0 rfl (lv_at hl 0 rfl) ?_
  refine zEx2 hwf ?_
  intro a1_1 a2_2 hbs9
  clear hwf
  subst hbs9
  have G : zS T A s.heap s [[zO3 t e0 e1 e2 e3 e4 e5 a1_1 a2_2], [zAr T 0 a1_1 m1 r1], [zAr T 0 a2_2 7 r2], ww, z] _ _ := G.re rfl
  refine z_get C G clX3 0 rfl 3 (by decide) m_fl_RX3_34 rfl dX3_sure_1 ?_
  refine lv_if_eq (tgt := 18) hx hb dX3_sure_4 (by decide) (fun c_3 => ?_) (fun c_3 => ?_)
  · have c_3n : e3.toInt = (0 : Int) := (fa_eq _ _).mp c_3
    refine lv_iconst (v := (-1)) hx hb dX3_sure_18 (by decide) ?_
    have hw_4 : bFit T t e0 e1 e2 e3 e4 e5 r1 m1 r2 [zO3 t e0 e1 e2 e3 e4 e5 a1_1 a2_2, zAr T 0 a1_1 m1 r1, zAr T 0 a2_2 7 r2] := ⟨a1_1, a2_2, rfl⟩
    have G : zS T A s.heap s [[zO3 t e0 e1 e2 e3 e4 e5 a1_1 a2_2, zAr T 0 a1_1 m1 r1, zAr T 0 a2_2 7 r2], ww, z] _ _ := G.re rfl
    exact z_back hQz_ (z_iret C hr hlocks G (Nat.le_of_ble_eq_true rfl) (Nat.le_of_ble_eq_true rfl) dX3_sure_19 rfl)
  · have c_3n : ¬ e3.toInt = (0 : Int) := fun q => c_3 ((fa_eq _ _).mpr q)
    refine lv_aload_n hx hb dX3_sure_7 rfl (lv_at hl 1 rfl) ?_
    refine zEx6 hww ?_
    intro a1_5 a2_6 a3_7 a4_8 a5_9 a6_10 hbs9
    clear hww
    subst hbs9
    have G : zS T A s.heap s [[zO3 t e0 e1 e2 e3 e4 e5 a1_1 a2_2], [zAr T 0 a1_1 m1 r1], [zAr T 0 a2_2 7 r2], [zO0 h md wy la pc_ a1_5 a2_6 a3_7 a4_8 a5_9 a6_10], [zAr T 0 a1_5 7 f1], [zAr T 0 a2_6 7 f2], [zAr T 0 a3_7 7 f3], [zAr T 0 a4_8 n4 f4], [zAr T 0 a5_9 n4 f5], [zAr T 0 a6_10 n4 f6], z] _ _ := G.re rfl
    refine z_get C G clX0 3 rfl 2 (by decide) m_fl_RX3_55 rfl dX3_sure_8 ?_
    refine lv_iload_n hx hb dX3_sure_11 rfl (lv_at hl 2 rfl) ?_
    refine z_Vi (bc := [z]) (br := [[zO3 t e0 e1 e2 e3 e4 e5 a1_1 a2_2], [zAr T 0 a1_1 m1 r1], [zAr T 0 a2_2 7 r2], [zO0 h md wy la pc_ a1_5 a2_6 a3_7 a4_8 a5_9 a6_10], [zAr T 0 a1_5 7 f1], [zAr T 0 a2_6 7 f2], [zAr T 0 a3_7 7 f3], [zAr T 0 a4_8 n4 f4], [zAr T 0 a5_9 n4 f5], [zAr T 0 a6_10 n4 f6]]) (As := [.int x]) (rest := []) C G (c_has l T la cr inn k1 k2 k3 k4 z x hz) (kV_RX3_58 C.2.2.2.2 (Nat.le_of_ble_eq_true rfl) (Nat.le_of_ble_eq_true rfl)) [10] [10] rfl rfl (ci := 4) (qc := (RX4, TX4, 6)) rfl rfl (List.mem_flatten.mpr ⟨_, List.mem_of_getElem? (i := 0) rfl, (bLand_mem hz).choose_spec⟩) rfl rfl hl.1 dX3_sure_12 (Nat.le_of_ble_eq_true rfl) (Nat.le_of_ble_eq_true rfl) (fun r_12 b1 H locs hw G => ?_)
    refine zAn2 hw ?_
    intro hbs9 hc_11
    clear hw
    subst hbs9
    have G : zS T A s.heap s [[zO3 t e0 e1 e2 e3 e4 e5 a1_1 a2_2], [zAr T 0 a1_1 m1 r1], [zAr T 0 a2_2 7 r2], [zO0 h md wy la pc_ a1_5 a2_6 a3_7 a4_8 a5_9 a6_10], [zAr T 0 a1_5 7 f1], [zAr T 0 a2_6 7 f2], [zAr T 0 a3_7 7 f3], [zAr T 0 a4_8 n4 f4], [zAr T 0 a5_9 n4 f5], [zAr T 0 a6_10 n4 f6], z] _ _ := G
    rcases hc_11 with ⟨rfl, h_13, h_14, h_15⟩ | ⟨rfl, h_16⟩
    · have h_13 : 0 ≤ x.toInt := h_13
      have h_14 : x.toInt < cr.toInt := h_14
      have h_15 : x.toInt < 7 := h_15
      refine lv_if_ne (tgt := 20) hx hb dX3_sure_15 (by decide) (fun _ => ?_) (fun q => absurd q (by decide))
      refine lv_aload_n hx hb dX3_sure_20 rfl (lv_at hl 1 rfl) ?_
      refine lv_aload_n hx hb dX3_sure_21 rfl (lv_at hl 0 rfl) ?_
      refine lv_iconst (v := 0) hx hb dX3_sure_22 (by decide) ?_
      have hw_17 : bFit T t e0 e1 e2 e3 e4 e5 r1 m1 r2 [zO3 t e0 e1 e2 e3 e4 e5 a1_1 a2_2, zAr T 0 a1_1 m1 r1, zAr T 0 a2_2 7 r2] := ⟨a1_1, a2_2, rfl⟩
      have G : zS T A s.heap s [[zO3 t e0 e1 e2 e3 e4 e5 a1_1 a2_2, zAr T 0 a1_1 m1 r1, zAr T 0 a2_2 7 r2], [zO0 h md wy la pc_ a1_5 a2_6 a3_7 a4_8 a5_9 a6_10], [zAr T 0 a1_5 7 f1], [zAr T 0 a2_6 7 f2], [zAr T 0 a3_7 7 f3], [zAr T 0 a4_8 n4 f4], [zAr T 0 a5_9 n4 f5], [zAr T 0 a6_10 n4 f6], z] _ _ := G.re rfl
      refine z_Vi (bc := [[zO3 t e0 e1 e2 e3 e4 e5 a1_1 a2_2, zAr T 0 a1_1 m1 r1, zAr T 0 a2_2 7 r2]]) (br := [[zO0 h md wy la pc_ a1_5 a2_6 a3_7 a4_8 a5_9 a6_10], [zAr T 0 a1_5 7 f1], [zAr T 0 a2_6 7 f2], [zAr T 0 a3_7 7 f3], [zAr T 0 a4_8 n4 f4], [zAr T 0 a5_9 n4 f5], [zAr T 0 a6_10 n4 f6], z]) (As := [.int 0]) (rest := [.ref h]) C G (c_way l T t e0 e1 e2 e3 e4 e5 r1 m1 r2 ([zO3 t e0 e1 e2 e3 e4 e5 a1_1 a2_2, zAr T 0 a1_1 m1 r1, zAr T 0 a2_2 7 r2]) 0 hw_17 (by first | with_reducible assumption | with_reducible rfl | omega | assumption | rfl)) (kV_RX3_92 C.2.2.2.2 (Nat.le_of_ble_eq_true rfl) (Nat.le_of_ble_eq_true rfl)) [0] [0] rfl rfl (ci := 3) (qc := (RX3, TX3, 8)) rfl rfl (List.mem_flatten.mpr ⟨_, List.mem_of_getElem? (i := 0) rfl, (bFit_mem hw_17).choose_spec⟩) rfl rfl hl.1 dX3_sure_23 (Nat.le_of_ble_eq_true rfl) (Nat.le_of_ble_eq_true rfl) (fun r_19 b1 H locs hw G => ?_)
      refine zAn2 hw ?_
      intro hbs9 h_18
      clear hw
      subst hbs9
      have G : zS T A s.heap s [[zO0 h md wy la pc_ a1_5 a2_6 a3_7 a4_8 a5_9 a6_10], [zAr T 0 a1_5 7 f1], [zAr T 0 a2_6 7 f2], [zAr T 0 a3_7 7 f3], [zAr T 0 a4_8 n4 f4], [zAr T 0 a5_9 n4 f5], [zAr T 0 a6_10 n4 f6], z, [zO3 t e0 e1 e2 e3 e4 e5 a1_1 a2_2, zAr T 0 a1_1 m1 r1, zAr T 0 a2_2 7 r2]] _ _ := G
      subst h_18
      refine lv_iload_n hx hb dX3_sure_26 rfl (lv_at hl 2 rfl) ?_
      have hw_20 : bWays T h la md wy pc_ f1 f2 f3 f4 f5 f6 n4 [zO0 h md wy la pc_ a1_5 a2_6 a3_7 a4_8 a5_9 a6_10, zAr T 0 a1_5 7 f1, zAr T 0 a2_6 7 f2, zAr T 0 a3_7 7 f3, zAr T 0 a4_8 n4 f4, zAr T 0 a5_9 n4 f5, zAr T 0 a6_10 n4 f6] := ⟨a1_5, a2_6, a3_7, a4_8, a5_9, a6_10, rfl⟩
      have G : zS T A s.heap s [[zO0 h md wy la pc_ a1_5 a2_6 a3_7 a4_8 a5_9 a6_10, zAr T 0 a1_5 7 f1, zAr T 0 a2_6 7 f2, zAr T 0 a3_7 7 f3, zAr T 0 a4_8 n4 f4, zAr T 0 a5_9 n4 f5, zAr T 0 a6_10 n4 f6], z, [zO3 t e0 e1 e2 e3 e4 e5 a1_1 a2_2, zAr T 0 a1_1 m1 r1, zAr T 0 a2_2 7 r2]] _ _ := G.re rfl
      refine z_Vi (bc := [[zO0 h md wy la pc_ a1_5 a2_6 a3_7 a4_8 a5_9 a6_10, zAr T 0 a1_5 7 f1, zAr T 0 a2_6 7 f2, zAr T 0 a3_7 7 f3, zAr T 0 a4_8 n4 f4, zAr T 0 a5_9 n4 f5, zAr T 0 a6_10 n4 f6]]) (br := [z, [zO3 t e0 e1 e2 e3 e4 e5 a1_1 a2_2, zAr T 0 a1_1 m1 r1, zAr T 0 a2_2 7 r2]]) (As := [.int (zFway r1 m1 0), .int x]) (rest := []) C G (c_road l T h la md wy pc_ f1 f2 f3 f4 f5 f6 n4 ([zO0 h md wy la pc_ a1_5 a2_6 a3_7 a4_8 a5_9 a6_10, zAr T 0 a1_5 7 f1, zAr T 0 a2_6 7 f2, zAr T 0 a3_7 7 f3, zAr T 0 a4_8 n4 f4, zAr T 0 a5_9 n4 f5, zAr T 0 a6_10 n4 f6]) (zFway r1 m1 0) x hw_20) (kV_RX3_96 C.2.2.2.2 (Nat.le_of_ble_eq_true rfl) (Nat.le_of_ble_eq_true rfl)) [0] [0] rfl rfl (ci := 0) (qc := (RX0, TX0, 10)) rfl rfl (List.mem_flatten.mpr ⟨_, List.mem_of_getElem? (i := 0) rfl, (bWays_mem hw_20).choose_spec⟩) rfl rfl hl.1 dX3_sure_27 (Nat.le_of_ble_eq_true rfl) (Nat.le_of_ble_eq_true rfl) (fun r_22 b1 H locs hw G => ?_)
      refine zAn2 hw ?_
      intro hbs9 h_21
      clear hw
      subst hbs9
      have G : zS T A s.heap s [z, [zO3 t e0 e1 e2 e3 e4 e5 a1_1 a2_2, zAr T 0 a1_1 m1 r1, zAr T 0 a2_2 7 r2], [zO0 h md wy la pc_ a1_5 a2_6 a3_7 a4_8 a5_9 a6_10, zAr T 0 a1_5 7 f1, zAr T 0 a2_6 7 f2, zAr T 0 a3_7 7 f3, zAr T 0 a4_8 n4 f4, zAr T 0 a5_9 n4 f5, zAr T 0 a6_10 n4 f6]] _ _ := G
      subst h_21
      refine lv_istore_n (lv' := [(3, .int (zRoad f1 f2 (zFway r1 m1 0) x)), (0, .ref t), (1, .ref h), (2, .int x)]) hx hb dX3_sure_30 rfl hl (by decide) (zLvf_h rfl) (fun ls hl => ?_)
      refine lv_aload_n hx hb dX3_sure_31 rfl (lv_at hl 1 rfl) ?_
      refine lv_aload_n hx hb dX3_sure_32 rfl (lv_at hl 2 rfl) ?_
      refine lv_iload_n hx hb dX3_sure_33 rfl (lv_at hl 3 rfl) ?_
      refine lv_iload_n hx hb dX3_sure_34 rfl (lv_at hl 0 rfl) ?_
      refine z_Vi (bc := [[zO3 t e0 e1 e2 e3 e4 e5 a1_1 a2_2, zAr T 0 a1_1 m1 r1, zAr T 0 a2_2 7 r2], [zO0 h md wy la pc_ a1_5 a2_6 a3_7 a4_8 a5_9 a6_10, zAr T 0 a1_5 7 f1, zAr T 0 a2_6 7 f2, zAr T 0 a3_7 7 f3, zAr T 0 a4_8 n4 f4, zAr T 0 a5_9 n4 f5, zAr T 0 a6_10 n4 f6]]) (br := [z]) (As := [.ref h, .int x, .int (zRoad f1 f2 (zFway r1 m1 0) x)]) (rest := []) C G (c_pointing l T t e0 e1 e2 e3 e4 e5 r1 m1 r2 ([zO3 t e0 e1 e2 e3 e4 e5 a1_1 a2_2, zAr T 0 a1_1 m1 r1, zAr T 0 a2_2 7 r2]) h la md wy pc_ f1 f2 f3 f4 f5 f6 n4 ([zO0 h md wy la pc_ a1_5 a2_6 a3_7 a4_8 a5_9 a6_10, zAr T 0 a1_5 7 f1, zAr T 0 a2_6 7 f2, zAr T 0 a3_7 7 f3, zAr T 0 a4_8 n4 f4, zAr T 0 a5_9 n4 f5, zAr T 0 a6_10 n4 f6]) x (zRoad f1 f2 (zFway r1 m1 0) x) hw_17 hw_20 (by first | with_reducible assumption | with_reducible rfl | omega | assumption | rfl)) (kV_RX3_99 C.2.2.2.2 (Nat.le_of_ble_eq_true rfl) (Nat.le_of_ble_eq_true rfl)) [1, 2] [1, 0] rfl rfl (ci := 3) (qc := (RX3, TX3, 8)) rfl rfl (List.mem_flatten.mpr ⟨_, List.mem_of_getElem? (i := 0) rfl, (bFit_mem hw_17).choose_spec⟩) rfl rfl hl.1 dX3_sure_35 (Nat.le_of_ble_eq_true rfl) (Nat.le_of_ble_eq_true rfl) (fun r_23 b1 H locs hw G => ?_)
      obtain rfl := hw
      have G : zS T A s.heap s [z, [zO3 t e0 e1 e2 e3 e4 e5 a1_1 a2_2, zAr T 0 a1_1 m1 r1, zAr T 0 a2_2 7 r2], [zO0 h md wy la pc_ a1_5 a2_6 a3_7 a4_8 a5_9 a6_10, zAr T 0 a1_5 7 f1, zAr T 0 a2_6 7 f2, zAr T 0 a3_7 7 f3, zAr T 0 a4_8 n4 f4, zAr T 0 a5_9 n4 f5, zAr T 0 a6_10 n4 f6]] _ _ := G
      refine lv_aload_n hx hb dX3_sure_38 rfl (lv_at hl 1 rfl) ?_
      have G : zS T A s.heap s [z, [zO3 t e0 e1 e2 e3 e4 e5 a1_1 a2_2], [zAr T 0 a1_1 m1 r1], [zAr T 0 a2_2 7 r2], [zO0 h md wy la pc_ a1_5 a2_6 a3_7 a4_8 a5_9 a6_10, zAr T 0 a1_5 7 f1, zAr T 0 a2_6 7 f2, zAr T 0 a3_7 7 f3, zAr T 0 a4_8 n4 f4, zAr T 0 a5_9 n4 f5, zAr T 0 a6_10 n4 f6]] _ _ := G.re rfl
      refine z_get C G clX3 1 rfl 3 (by decide) m_fl_RX3_34 rfl dX3_sure_39 ?_
      refine lv_icmp_ne (tgt := 49) hx hb dX3_sure_42 (by decide) (fun c_24 => ?_) (fun c_24 => ?_)
      · have c_24n : ¬ r_23.toInt = e3.toInt := fun q => c_24 ((fa_eq _ _).mpr q)
        refine lv_iconst (v := (-1)) hx hb dX3_sure_49 (by decide) ?_
        have hw_25 : bFit T t e0 e1 e2 e3 e4 e5 r1 m1 r2 [zO3 t e0 e1 e2 e3 e4 e5 a1_1 a2_2, zAr T 0 a1_1 m1 r1, zAr T 0 a2_2 7 r2] := ⟨a1_1, a2_2, rfl⟩
        have G : zS T A s.heap s [z, [zO3 t e0 e1 e2 e3 e4 e5 a1_1 a2_2, zAr T 0 a1_1 m1 r1, zAr T 0 a2_2 7 r2], [zO0 h md wy la pc_ a1_5 a2_6 a3_7 a4_8 a5_9 a6_10, zAr T 0 a1_5 7 f1, zAr T 0 a2_6 7 f2, zAr T 0 a3_7 7 f3, zAr T 0 a4_8 n4 f4, zAr T 0 a5_9 n4 f5, zAr T 0 a6_10 n4 f6]] _ _ := G.re rfl
        have G := G.sub (bs' := [[zO3 t e0 e1 e2 e3 e4 e5 a1_1 a2_2, zAr T 0 a1_1 m1 r1, zAr T 0 a2_2 7 r2], [zO0 h md wy la pc_ a1_5 a2_6 a3_7 a4_8 a5_9 a6_10, zAr T 0 a1_5 7 f1, zAr T 0 a2_6 7 f2, zAr T 0 a3_7 7 f3, zAr T 0 a4_8 n4 f4, zAr T 0 a5_9 n4 f5, zAr T 0 a6_10 n4 f6], z]) [1, 2, 0] rfl
        exact z_back hQz_ (z_iret C hr hlocks G (Nat.le_of_ble_eq_true rfl) (Nat.le_of_ble_eq_true rfl) dX3_sure_50 rfl)
      · have c_24n : r_23.toInt = e3.toInt := (fa_eq _ _).mp c_24
        refine lv_iload_n hx hb dX3_sure_45 rfl (lv_at hl 0 rfl) ?_
        refine lv_goto (tgt := 50) hx hb dX3_sure_46 (by decide) ?_
        have hw_26 : bFit T t e0 e1 e2 e3 e4 e5 r1 m1 r2 [zO3 t e0 e1 e2 e3 e4 e5 a1_1 a2_2, zAr T 0 a1_1 m1 r1, zAr T 0 a2_2 7 r2] := ⟨a1_1, a2_2, rfl⟩
        have G : zS T A s.heap s [z, [zO3 t e0 e1 e2 e3 e4 e5 a1_1 a2_2, zAr T 0 a1_1 m1 r1, zAr T 0 a2_2 7 r2], [zO0 h md wy la pc_ a1_5 a2_6 a3_7 a4_8 a5_9 a6_10, zAr T 0 a1_5 7 f1, zAr T 0 a2_6 7 f2, zAr T 0 a3_7 7 f3, zAr T 0 a4_8 n4 f4, zAr T 0 a5_9 n4 f5, zAr T 0 a6_10 n4 f6]] _ _ := G.re rfl
        have G := G.sub (bs' := [[zO3 t e0 e1 e2 e3 e4 e5 a1_1 a2_2, zAr T 0 a1_1 m1 r1, zAr T 0 a2_2 7 r2], [zO0 h md wy la pc_ a1_5 a2_6 a3_7 a4_8 a5_9 a6_10, zAr T 0 a1_5 7 f1, zAr T 0 a2_6 7 f2, zAr T 0 a3_7 7 f3, zAr T 0 a4_8 n4 f4, zAr T 0 a5_9 n4 f5, zAr T 0 a6_10 n4 f6], z]) [1, 2, 0] rfl
        exact z_back hQz_ (z_iret C hr hlocks G (Nat.le_of_ble_eq_true rfl) (Nat.le_of_ble_eq_true rfl) dX3_sure_50 rfl)
    · have h_16 : (x.toInt < 0 ∨ cr.toInt ≤ x.toInt ∨ 7 ≤ x.toInt) := h_16
      refine lv_if_ne (tgt := 20) hx hb dX3_sure_15 (by decide) (fun q => absurd (by decide) q) (fun _ => ?_)
      refine lv_iconst (v := (-1)) hx hb dX3_sure_18 (by decide) ?_
      have hw_27 : bFit T t e0 e1 e2 e3 e4 e5 r1 m1 r2 [zO3 t e0 e1 e2 e3 e4 e5 a1_1 a2_2, zAr T 0 a1_1 m1 r1, zAr T 0 a2_2 7 r2] := ⟨a1_1, a2_2, rfl⟩
      have G : zS T A s.heap s [[zO3 t e0 e1 e2 e3 e4 e5 a1_1 a2_2, zAr T 0 a1_1 m1 r1, zAr T 0 a2_2 7 r2], [zO0 h md wy la pc_ a1_5 a2_6 a3_7 a4_8 a5_9 a6_10], [zAr T 0 a1_5 7 f1], [zAr T 0 a2_6 7 f2], [zAr T 0 a3_7 7 f3], [zAr T 0 a4_8 n4 f4], [zAr T 0 a5_9 n4 f5], [zAr T 0 a6_10 n4 f6], z] _ _ := G.re rfl
      have hw_28 : bWays T h la md wy pc_ f1 f2 f3 f4 f5 f6 n4 [zO0 h md wy la pc_ a1_5 a2_6 a3_7 a4_8 a5_9 a6_10, zAr T 0 a1_5 7 f1, zAr T 0 a2_6 7 f2, zAr T 0 a3_7 7 f3, zAr T 0 a4_8 n4 f4, zAr T 0 a5_9 n4 f5, zAr T 0 a6_10 n4 f6] := ⟨a1_5, a2_6, a3_7, a4_8, a5_9, a6_10, rfl⟩
      have G : zS T A s.heap s [[zO3 t e0 e1 e2 e3 e4 e5 a1_1 a2_2, zAr T 0 a1_1 m1 r1, zAr T 0 a2_2 7 r2], [zO0 h md wy la pc_ a1_5 a2_6 a3_7 a4_8 a5_9 a6_10, zAr T 0 a1_5 7 f1, zAr T 0 a2_6 7 f2, zAr T 0 a3_7 7 f3, zAr T 0 a4_8 n4 f4, zAr T 0 a5_9 n4 f5, zAr T 0 a6_10 n4 f6], z] _ _ := G.re rfl
      exact z_back hQz_ (z_iret C hr hlocks G (Nat.le_of_ble_eq_true rfl) (Nat.le_of_ble_eq_true rfl) dX3_sure_19 rfl)
set_option maxHeartbeats 4000000 in
set_option maxRecDepth 100000 in
/-- isSo -/
theorem c_isSo_x (l : Launch) (T : zTy) (h : Nat) (la : Nat) (md : Int32) (wy : Int32) (pc_ : Int32) (f1 : Nat → Int32) (f2 : Nat → Int32) (f3 : Nat → Int32) (f4 : Nat → Int32) (f5 : Nat → Int32) (f6 : Nat → Int32) (n4 : Nat) (ww : va_W) (cr : Int32) (inn : Int32) (k1 : Nat → Int32) (k2 : Nat → Int32) (k3 : Nat → Int32) (k4 : Nat → Int32) (z : va_W) (x : Int32) (y : Int32) (q : Int32) (hww : bWays T h la md wy pc_ f1 f2 f3 f4 f5 f6 n4 ww) (hz : bLand T la cr inn k1 k2 k3 k4 z) (hn : n4 ≤ 131072) : zMi l T yX3_isSo cX3_isSo 5 (some .boolean) 3 0 0 [.ref h, .int x, .int y, .int q] [ww, z] (fun (r : Int32) bs => bs = [ww, z] ∧ (r = 0 ∨ r = 1)) := by
  refine zMi_of (own := RX3) (by decide) rfl (Nat.le_of_ble_eq_true rfl) ?_
  intro p e s m args below meth c A ls C hr hlocks hnm hAe G hl
  refine zHide (fun Qz_ hQz_ => ?_)
  have hx := C.1
  have hb := C.2.1
  have hl : lv_has ls 5 [(0, .ref h), (1, .int x), (2, .int y), (3, .int q)] := hl
  refine lv_aload_n hx hb dX3_isSo_0 rfl (lv_at hl 0 rfl) ?_
  refine lv_iload_n hx hb dX3_isSo_1 rfl (lv_at hl 1 rfl) ?_
  refine lv_iload_n hx hb dX3_isSo_2 rfl (lv_at hl 2 rfl) ?_
  refine z_Vi (bc := [ww]) (br := [z]) (As := [.int x, .int y]) (rest := []) C G (c_where l T h la md wy pc_ f1 f2 f3 f4 f5 f6 n4 ww x y hww (by first | with_reducible assumption | with_reducible rfl | omega | assumption | rfl)) (kV_RX3_86 C.2.2.2.2 (Nat.le_of_ble_eq_true rfl) (Nat.le_of_ble_eq_true rfl)) [0] [0] rfl rfl (ci := 0) (qc := (RX0, TX0, 10)) rfl rfl (List.mem_flatten.mpr ⟨_, List.mem_of_getElem? (i := 0) rfl, (bWays_mem hww).choose_spec⟩) rfl rfl hl.1 dX3_isSo_3 (Nat.le_of_ble_eq_true rfl) (Nat.le_of_ble_eq_true rfl) (fun r_2 b1 H locs hw G => ?_)
  refine zAn2 hw ?_
  intro hbs9 h_1
  clear hw
  subst hbs9
  have G : zS T A s.heap s [z, ww] _ _ := G
  subst h_1
  refine lv_istore (lv' := [(4, .int (zEntry f5 n4 x y &&& 7)), (0, .ref h), (1, .int x), (2, .int y), (3, .int q)]) hx hb dX3_isSo_6 hl (by decide) (zLvf_h rfl) (fun ls hl => ?_)
  refine lv_aload_n hx hb dX3_isSo_8 rfl (lv_at hl 1 rfl) ?_
  refine zEx6 hww ?_
  intro a1_3 a2_4 a3_5 a4_6 a5_7 a6_8 hbs9
  clear hww
  subst hbs9
  have G : zS T A s.heap s [z, [zO0 h md wy la pc_ a1_3 a2_4 a3_5 a4_6 a5_7 a6_8], [zAr T 0 a1_3 7 f1], [zAr T 0 a2_4 7 f2], [zAr T 0 a3_5 7 f3], [zAr T 0 a4_6 n4 f4], [zAr T 0 a5_7 n4 f5], [zAr T 0 a6_8 n4 f6]] _ _ := G.re rfl
  refine z_get C G clX0 1 rfl 2 (by decide) m_fl_RX3_55 rfl dX3_isSo_9 ?_
  refine lv_iload hx hb dX3_isSo_12 (lv_at hl 0 rfl) ?_
  refine z_Vi (bc := [z]) (br := [[zO0 h md wy la pc_ a1_3 a2_4 a3_5 a4_6 a5_7 a6_8], [zAr T 0 a1_3 7 f1], [zAr T 0 a2_4 7 f2], [zAr T 0 a3_5 7 f3], [zAr T 0 a4_6 n4 f4], [zAr T 0 a5_7 n4 f5], [zAr T 0 a6_8 n4 f6]]) (As := [.int (zEntry f5 n4 x y &&& 7)]) (rest := []) C G (c_isInn l T la cr inn k1 k2 k3 k4 z (zEntry f5 n4 x y &&& 7) hz) (kV_RX3_89 C.2.2.2.2 (Nat.le_of_ble_eq_true rfl) (Nat.le_of_ble_eq_true rfl)) [0] [0] rfl rfl (ci := 4) (qc := (RX4, TX4, 6)) rfl rfl (List.mem_flatten.mpr ⟨_, List.mem_of_getElem? (i := 0) rfl, (bLand_mem hz).choose_spec⟩) rfl rfl hl.1 dX3_isSo_14 (Nat.le_of_ble_eq_true rfl) (Nat.le_of_ble_eq_true rfl) (fun r_10 b1 H locs hw G => ?_)
  refine zAn2 hw ?_
  intro hbs9 hc_9
  clear hw
  subst hbs9
  have G : zS T A s.heap s [[zO0 h md wy la pc_ a1_3 a2_4 a3_5 a4_6 a5_7 a6_8], [zAr T 0 a1_3 7 f1], [zAr T 0 a2_4 7 f2], [zAr T 0 a3_5 7 f3], [zAr T 0 a4_6 n4 f4], [zAr T 0 a5_7 n4 f5], [zAr T 0 a6_8 n4 f6], z] _ _ := G
  rcases hc_9 with ⟨rfl, h_11, h_12, h_13, h_14⟩ | ⟨rfl, h_15⟩
  · have h_11 : 0 ≤ (zEntry f5 n4 x y &&& 7).toInt := h_11
    have h_12 : (zEntry f5 n4 x y &&& 7).toInt < cr.toInt := h_12
    have h_13 : (zEntry f5 n4 x y &&& 7).toInt < 7 := h_13
    have h_14 : ¬ zBit inn (zEntry f5 n4 x y &&& 7) = 0 := h_14
    refine lv_if_eq (tgt := 34) hx hb dX3_isSo_17 (by decide) (fun q => absurd q (by decide)) (fun _ => ?_)
    refine lv_iload hx hb dX3_isSo_20 (lv_at hl 0 rfl) ?_
    refine lv_iload_n hx hb dX3_isSo_22 rfl (lv_at hl 4 rfl) ?_
    refine lv_icmp_ne (tgt := 30) hx hb dX3_isSo_23 (by decide) (fun c_16 => ?_) (fun c_16 => ?_)
    · have c_16n : ¬ (zEntry f5 n4 x y &&& 7).toInt = q.toInt := fun q => c_16 ((fa_eq _ _).mpr q)
      refine lv_iconst (v := 0) hx hb dX3_isSo_30 (by decide) ?_
      refine lv_goto (tgt := 44) hx hb dX3_isSo_31 (by decide) ?_
      have hw_17 : bWays T h la md wy pc_ f1 f2 f3 f4 f5 f6 n4 [zO0 h md wy la pc_ a1_3 a2_4 a3_5 a4_6 a5_7 a6_8, zAr T 0 a1_3 7 f1, zAr T 0 a2_4 7 f2, zAr T 0 a3_5 7 f3, zAr T 0 a4_6 n4 f4, zAr T 0 a5_7 n4 f5, zAr T 0 a6_8 n4 f6] := ⟨a1_3, a2_4, a3_5, a4_6, a5_7, a6_8, rfl⟩
      have G : zS T A s.heap s [[zO0 h md wy la pc_ a1_3 a2_4 a3_5 a4_6 a5_7 a6_8, zAr T 0 a1_3 7 f1, zAr T 0 a2_4 7 f2, zAr T 0 a3_5 7 f3, zAr T 0 a4_6 n4 f4, zAr T 0 a5_7 n4 f5, zAr T 0 a6_8 n4 f6], z] _ _ := G.re rfl
      exact z_back hQz_ (z_zret C hr hlocks G (Nat.le_of_ble_eq_true rfl) (Nat.le_of_ble_eq_true rfl) dX3_isSo_44 rfl ⟨rfl, (by first | exact Or.inl rfl | exact Or.inr rfl)⟩)
    · have c_16n : (zEntry f5 n4 x y &&& 7).toInt = q.toInt := (fa_eq _ _).mp c_16
      refine lv_iconst (v := 1) hx hb dX3_isSo_26 (by decide) ?_
      refine lv_goto (tgt := 44) hx hb dX3_isSo_27 (by decide) ?_
      have hw_18 : bWays T h la md wy pc_ f1 f2 f3 f4 f5 f6 n4 [zO0 h md wy la pc_ a1_3 a2_4 a3_5 a4_6 a5_7 a6_8, zAr T 0 a1_3 7 f1, zAr T 0 a2_4 7 f2, zAr T 0 a3_5 7 f3, zAr T 0 a4_6 n4 f4, zAr T 0 a5_7 n4 f5, zAr T 0 a6_8 n4 f6] := ⟨a1_3, a2_4, a3_5, a4_6, a5_7, a6_8, rfl⟩
      have G : zS T A s.heap s [[zO0 h md wy la pc_ a1_3 a2_4 a3_5 a4_6 a5_7 a6_8, zAr T 0 a1_3 7 f1, zAr T 0 a2_4 7 f2, zAr T 0 a3_5 7 f3, zAr T 0 a4_6 n4 f4, zAr T 0 a5_7 n4 f5, zAr T 0 a6_8 n4 f6], z] _ _ := G.re rfl
      exact z_back hQz_ (z_zret C hr hlocks G (Nat.le_of_ble_eq_true rfl) (Nat.le_of_ble_eq_true rfl) dX3_isSo_44 rfl ⟨rfl, (by first | exact Or.inl rfl | exact Or.inr rfl)⟩)
  · have h_15 : ((zEntry f5 n4 x y &&& 7).toInt < 0 ∨ cr.toInt ≤ (zEntry f5 n4 x y &&& 7).toInt ∨ 7 ≤ (zEntry f5 n4 x y &&& 7).toInt ∨ zBit inn (zEntry f5 n4 x y &&& 7) = 0) := h_15
    refine lv_if_eq (tgt := 34) hx hb dX3_isSo_17 (by decide) (fun _ => ?_) (fun q => absurd (by decide) q)
    refine lv_iload_n hx hb dX3_isSo_34 rfl (lv_at hl 4 rfl) ?_
    refine lv_iconst (v := (-1)) hx hb dX3_isSo_35 (by decide) ?_
    refine lv_icmp_ne (tgt := 43) hx hb dX3_isSo_36 (by decide) (fun c_19 => ?_) (fun c_19 => ?_)
    · have c_19n : ¬ q.toInt = (-1 : Int) := fun q => c_19 ((fa_eq _ _).mpr q)
      refine lv_iconst (v := 0) hx hb dX3_isSo_43 (by decide) ?_
      have hw_20 : bWays T h la md wy pc_ f1 f2 f3 f4 f5 f6 n4 [zO0 h md wy la pc_ a1_3 a2_4 a3_5 a4_6 a5_7 a6_8, zAr T 0 a1_3 7 f1, zAr T 0 a2_4 7 f2, zAr T 0 a3_5 7 f3, zAr T 0 a4_6 n4 f4, zAr T 0 a5_7 n4 f5, zAr T 0 a6_8 n4 f6] := ⟨a1_3, a2_4, a3_5, a4_6, a5_7, a6_8, rfl⟩
      have G : zS T A s.heap s [[zO0 h md wy la pc_ a1_3 a2_4 a3_5 a4_6 a5_7 a6_8, zAr T 0 a1_3 7 f1, zAr T 0 a2_4 7 f2, zAr T 0 a3_5 7 f3, zAr T 0 a4_6 n4 f4, zAr T 0 a5_7 n4 f5, zAr T 0 a6_8 n4 f6], z] _ _ := G.re rfl
      exact z_back hQz_ (z_zret C hr hlocks G (Nat.le_of_ble_eq_true rfl) (Nat.le_of_ble_eq_true rfl) dX3_isSo_44 rfl ⟨rfl, (by first | exact Or.inl rfl | exact Or.inr rfl)⟩)
    · have c_19n : q.toInt = (-1 : Int) := (fa_eq _ _).mp c_19
      refine lv_iconst (v := 1) hx hb dX3_isSo_39 (by decide) ?_
      refine lv_goto (tgt := 44) hx hb dX3_isSo_40 (by decide) ?_
      have hw_21 : bWays T h la md wy pc_ f1 f2 f3 f4 f5 f6 n4 [zO0 h md wy la pc_ a1_3 a2_4 a3_5 a4_6 a5_7 a6_8, zAr T 0 a1_3 7 f1, zAr T 0 a2_4 7 f2, zAr T 0 a3_5 7 f3, zAr T 0 a4_6 n4 f4, zAr T 0 a5_7 n4 f5, zAr T 0 a6_8 n4 f6] := ⟨a1_3, a2_4, a3_5, a4_6, a5_7, a6_8, rfl⟩
      have G : zS T A s.heap s [[zO0 h md wy la pc_ a1_3 a2_4 a3_5 a4_6 a5_7 a6_8, zAr T 0 a1_3 7 f1, zAr T 0 a2_4 7 f2, zAr T 0 a3_5 7 f3, zAr T 0 a4_6 n4 f4, zAr T 0 a5_7 n4 f5, zAr T 0 a6_8 n4 f6], z] _ _ := G.re rfl
      exact z_back hQz_ (z_zret C hr hlocks G (Nat.le_of_ble_eq_true rfl) (Nat.le_of_ble_eq_true rfl) dX3_isSo_44 rfl ⟨rfl, (by first | exact Or.inl rfl | exact Or.inr rfl)⟩)
set_option maxHeartbeats 4000000 in
set_option maxRecDepth 100000 in
/-- c_mostTogether -/
theorem c_mostTogether (l : Launch) (T : zTy) (t : Nat) (e0 : Int32) (e1 : Int32) (e2 : Int32) (e3 : Int32) (e4 : Int32) (e5 : Int32) (r1 : Nat → Int32) (m1 : Nat) (r2 : Nat → Int32) (wf : va_W) (h : Nat) (la : Nat) (md : Int32) (wy : Int32) (pc_ : Int32) (f1 : Nat → Int32) (f2 : Nat → Int32) (f3 : Nat → Int32) (f4 : Nat → Int32) (f5 : Nat → Int32) (f6 : Nat → Int32) (n4 : Nat) (ww : va_W) (x : Int32) (hwf : bFit T t e0 e1 e2 e3 e4 e5 r1 m1 r2 wf) (hww : bWays T h la md wy pc_ f1 f2 f3 f4 f5 f6 n4 ww) (hn : n4 ≤ 131072) (hm : m1 ≤ 16384) : zMi l T yX3_mostTogether cX3_mostTogether 6 (some .int) 3 0 0 [.ref t, .ref h, .int x] [wf, ww] (fun (r : Int32) bs => ∃ (w2 : va_W) (g2 : Nat → Int32), bs = [w2, ww] ∧ bFit T t e0 e1 e2 e3 e4 e5 r1 m1 g2 w2) := by
  refine zMi_of (own := RX3) (by decide) rfl (Nat.le_of_ble_eq_true rfl) ?_
  intro p e s m args below meth c A ls C hr hlocks hnm hAe G hl
  refine zHide (fun Qz_ hQz_ => ?_)
  have hx := C.1
  have hb := C.2.1
  have hl : lv_has ls 6 [(0, .ref t), (1, .ref h), (2, .int x)] := hl
  have hge := Int32.toInt_lt e3
  refine lv_iconst (v := 0) hx hb dX3_mostTogether_0 (by decide) ?_
  refine lv_istore_n (lv' := [(3, .int 0), (0, .ref t), (1, .ref h), (2, .int x)]) hx hb dX3_mostTogether_1 rfl hl (by decide) (zLvf_h rfl) (fun ls hl => ?_)
  refine zEx2 hwf ?_
  intro a1_1 a2_2 hbs9
  clear hwf
  subst hbs9
  have G : zS T A s.heap s [[zO3 t e0 e1 e2 e3 e4 e5 a1_1 a2_2], [zAr T 0 a1_1 m1 r1], [zAr T 0 a2_2 7 r2], ww] _ _ := G.re rfl
  have hw_3 : bFit T t e0 e1 e2 e3 e4 e5 r1 m1 r2 [zO3 t e0 e1 e2 e3 e4 e5 a1_1 a2_2, zAr T 0 a1_1 m1 r1, zAr T 0 a2_2 7 r2] := ⟨a1_1, a2_2, rfl⟩
  have G : zS T A s.heap s [[zO3 t e0 e1 e2 e3 e4 e5 a1_1 a2_2, zAr T 0 a1_1 m1 r1, zAr T 0 a2_2 7 r2], ww] _ _ := G.re rfl
  refine z_lp3 (T := T) 2 (fun (i : Nat) (wt : va_W) (x2 : Nat → Int32) => [wt, ww]) (fun (i : Nat) (wt : va_W) (x2 : Nat → Int32) => [(3, .int (nI i)), (0, .ref t), (1, .ref h), (2, .int x)]) (fun (i : Nat) (wt : va_W) (x2 : Nat → Int32) => bFit T t e0 e1 e2 e3 e4 e5 r1 m1 x2 wt ∧ i ≤ 7) (fun (i : Nat) (wt : va_W) (x2 : Nat → Int32) => 7 - i) ?_ 0 ([zO3 t e0 e1 e2 e3 e4 e5 a1_1 a2_2, zAr T 0 a1_1 m1 r1, zAr T 0 a2_2 7 r2]) r2 (show bFit T t e0 e1 e2 e3 e4 e5 r1 m1 r2 ([zO3 t e0 e1 e2 e3 e4 e5 a1_1 a2_2, zAr T 0 a1_1 m1 r1, zAr T 0 a2_2 7 r2]) ∧ 0 ≤ 7 from ⟨hw_3, by omega⟩) G (lv_sub hl [0, 1, 2, 3] rfl)
  intro i wt x2 hI9 ih_2 H locs ls G hl
  replace hI9 : bFit T t e0 e1 e2 e3 e4 e5 r1 m1 x2 wt ∧ i ≤ 7 := hI9
  refine zAn2 hI9 ?_
  intro hwt hi
  clear hI9
  replace G : zS T A s.heap s [wt, ww] _ _ := G
  replace hl : lv_has ls 6 [(3, .int (nI i)), (0, .ref t), (1, .ref h), (2, .int x)] := hl
  refine lv_iload_n hx hb dX3_mostTogether_2 rfl (lv_at hl 0 rfl) ?_
  refine lv_bipush (v := 7) hx hb dX3_mostTogether_3 (by decide) ?_
  refine lv_icmp_ge (tgt := 21) hx hb dX3_mostTogether_5 (by decide) (fun c_4 => ?_) (fun c_4 => ?_)
  · have c_4n : 7 ≤ i := (nI_leI (a := 7) (b := i) (by omega) (by omega)).mp c_4
    refine lv_iconst (v := 0) hx hb dX3_mostTogether_21 (by decide) ?_
    refine lv_istore_n (lv' := [(3, .int 0), (0, .ref t), (1, .ref h), (2, .int x)]) hx hb dX3_mostTogether_22 rfl hl (by decide) (zLvf_h rfl) (fun ls hl => ?_)
    refine lv_iconst (v := 0) hx hb dX3_mostTogether_23 (by decide) ?_
    refine lv_istore (lv' := [(4, .int 0), (3, .int 0), (0, .ref t), (1, .ref h), (2, .int x)]) hx hb dX3_mostTogether_24 hl (by decide) (zLvf_h rfl) (fun ls hl => ?_)
    refine zEx2 hwt ?_
    intro a1_5 a2_6 hbs9
    clear hwt
    subst hbs9
    have G : zS T A s.heap s [[zO3 t e0 e1 e2 e3 e4 e5 a1_5 a2_6], [zAr T 0 a1_5 m1 r1], [zAr T 0 a2_6 7 x2], ww] _ _ := G.re rfl
    have hw_7 : bFit T t e0 e1 e2 e3 e4 e5 r1 m1 x2 [zO3 t e0 e1 e2 e3 e4 e5 a1_5 a2_6, zAr T 0 a1_5 m1 r1, zAr T 0 a2_6 7 x2] := ⟨a1_5, a2_6, rfl⟩
    have G : zS T A s.heap s [[zO3 t e0 e1 e2 e3 e4 e5 a1_5 a2_6, zAr T 0 a1_5 m1 r1, zAr T 0 a2_6 7 x2], ww] _ _ := G.re rfl
    refine z_lp4 (T := T) 26 (fun (i : Nat) (ui3 : Int32) (wt2 : va_W) (y2 : Nat → Int32) => [wt2, ww]) (fun (i : Nat) (ui3 : Int32) (wt2 : va_W) (y2 : Nat → Int32) => [(4, .int (nI i)), (3, .int ui3), (0, .ref t), (1, .ref h), (2, .int x)]) (fun (i : Nat) (ui3 : Int32) (wt2 : va_W) (y2 : Nat → Int32) => bFit T t e0 e1 e2 e3 e4 e5 r1 m1 y2 wt2 ∧ i ≤ e3.toInt.toNat) (fun (i : Nat) (ui3 : Int32) (wt2 : va_W) (y2 : Nat → Int32) => e3.toInt.toNat - i) ?_ 0 0 ([zO3 t e0 e1 e2 e3 e4 e5 a1_5 a2_6, zAr T 0 a1_5 m1 r1, zAr T 0 a2_6 7 x2]) x2 (show bFit T t e0 e1 e2 e3 e4 e5 r1 m1 x2 ([zO3 t e0 e1 e2 e3 e4 e5 a1_5 a2_6, zAr T 0 a1_5 m1 r1, zAr T 0 a2_6 7 x2]) ∧ 0 ≤ e3.toInt.toNat from ⟨hw_7, by omega⟩) G (lv_sub hl [0, 1, 2, 3, 4] rfl)
    intro i ui3 wt2 y2 hI9 ih_26 H locs ls G hl
    replace hI9 : bFit T t e0 e1 e2 e3 e4 e5 r1 m1 y2 wt2 ∧ i ≤ e3.toInt.toNat := hI9
    refine zAn2 hI9 ?_
    intro hwt2 hi
    clear hI9
    replace G : zS T A s.heap s [wt2, ww] _ _ := G
    replace hl : lv_has ls 6 [(4, .int (nI i)), (3, .int ui3), (0, .ref t), (1, .ref h), (2, .int x)] := hl
    refine lv_iload hx hb dX3_mostTogether_26 (lv_at hl 0 rfl) ?_
    refine lv_aload_n hx hb dX3_mostTogether_28 rfl (lv_at hl 2 rfl) ?_
    refine zEx2 hwt2 ?_
    intro a1_8 a2_9 hbs9
    clear hwt2
    subst hbs9
    have G : zS T A s.heap s [[zO3 t e0 e1 e2 e3 e4 e5 a1_8 a2_9], [zAr T 0 a1_8 m1 r1], [zAr T 0 a2_9 7 y2], ww] _ _ := G.re rfl
    refine z_get C G clX3 0 rfl 3 (by decide) m_fl_RX3_34 rfl dX3_mostTogether_29 ?_
    refine lv_icmp_ge (tgt := 98) hx hb dX3_mostTogether_32 (by decide) (fun c_10 => ?_) (fun c_10 => ?_)
    · have c_10n : e3.toInt ≤ (i : Int) := by have q := (fa_le _ _).mp c_10; rw [nI_toInt (n := i) (by omega)] at q; exact q
      refine lv_iload_n hx hb dX3_mostTogether_98 rfl (lv_at hl 1 rfl) ?_
      have hw_11 : bFit T t e0 e1 e2 e3 e4 e5 r1 m1 y2 [zO3 t e0 e1 e2 e3 e4 e5 a1_8 a2_9, zAr T 0 a1_8 m1 r1, zAr T 0 a2_9 7 y2] := ⟨a1_8, a2_9, rfl⟩
      have G : zS T A s.heap s [[zO3 t e0 e1 e2 e3 e4 e5 a1_8 a2_9, zAr T 0 a1_8 m1 r1, zAr T 0 a2_9 7 y2], ww] _ _ := G.re rfl
      exact z_back hQz_ (z_iret C hr hlocks G (Nat.le_of_ble_eq_true rfl) (Nat.le_of_ble_eq_true rfl) dX3_mostTogether_99 ⟨([zO3 t e0 e1 e2 e3 e4 e5 a1_8 a2_9, zAr T 0 a1_8 m1 r1, zAr T 0 a2_9 7 y2]), y2, rfl, hw_11⟩)
    · have c_10n : ¬ e3.toInt ≤ (i : Int) := fun q => c_10 ((fa_le _ _).mpr (by rw [nI_toInt (n := i) (by omega)]; exact q))
      refine lv_iload hx hb dX3_mostTogether_35 (lv_at hl 0 rfl) ?_
      refine lv_aload_n hx hb dX3_mostTogether_37 rfl (lv_at hl 2 rfl) ?_
      refine z_get C G clX3 0 rfl 6 (by decide) m_fl_RX3_18 rfl dX3_mostTogether_38 ?_
      refine z_alen C G 1 0 rfl (v := nI m1) rfl rfl dX3_mostTogether_41 ?_
      refine lv_icmp_ge (tgt := 98) hx hb dX3_mostTogether_42 (by decide) (fun c_12 => ?_) (fun c_12 => ?_)
      · have c_12n : m1 ≤ i := (nI_leI (a := m1) (b := i) (by omega) (by omega)).mp c_12
        refine lv_iload_n hx hb dX3_mostTogether_98 rfl (lv_at hl 1 rfl) ?_
        have hw_13 : bFit T t e0 e1 e2 e3 e4 e5 r1 m1 y2 [zO3 t e0 e1 e2 e3 e4 e5 a1_8 a2_9, zAr T 0 a1_8 m1 r1, zAr T 0 a2_9 7 y2] := ⟨a1_8, a2_9, rfl⟩
        have G : zS T A s.heap s [[zO3 t e0 e1 e2 e3 e4 e5 a1_8 a2_9, zAr T 0 a1_8 m1 r1, zAr T 0 a2_9 7 y2], ww] _ _ := G.re rfl
        exact z_back hQz_ (z_iret C hr hlocks G (Nat.le_of_ble_eq_true rfl) (Nat.le_of_ble_eq_true rfl) dX3_mostTogether_99 ⟨([zO3 t e0 e1 e2 e3 e4 e5 a1_8 a2_9, zAr T 0 a1_8 m1 r1, zAr T 0 a2_9 7 y2]), y2, rfl, hw_13⟩)
      · have c_12n : ¬ m1 ≤ i := fun q => c_12 ((nI_leI (a := m1) (b := i) (by omega) (by omega)).mpr q)
        refine lv_aload_n hx hb dX3_mostTogether_45 rfl (lv_at hl 3 rfl) ?_
        refine lv_aload_n hx hb dX3_mostTogether_46 rfl (lv_at hl 2 rfl) ?_
        refine z_get C G clX3 0 rfl 6 (by decide) m_fl_RX3_18 rfl dX3_mostTogether_47 ?_
        refine lv_iload hx hb dX3_mostTogether_50 (lv_at hl 0 rfl) ?_
        refine z_ild C G 1 rfl (vp_in_nI (by omega) (by omega)) dX3_mostTogether_52 ?_
        refine lv_topi (fun v_14 ev_14 => ?_)
        rw [nI_clamp (by omega)] at ev_14
        subst ev_14
        refine lv_bipush (v := 14) hx hb dX3_mostTogether_53 (by decide) ?_
        refine lv_ishr hx hb dX3_mostTogether_55 ?_
        refine lv_iload_n hx hb dX3_mostTogether_56 rfl (lv_at hl 4 rfl) ?_
        refine z_Vi (bc := [ww]) (br := [[zO3 t e0 e1 e2 e3 e4 e5 a1_8 a2_9], [zAr T 0 a1_8 m1 r1], [zAr T 0 a2_9 7 y2]]) (As := [.int ((r1 i) >>> (14 &&& 31)), .int x]) (rest := []) C G (c_where l T h la md wy pc_ f1 f2 f3 f4 f5 f6 n4 ww ((r1 i) >>> (14 &&& 31)) x hww (by first | with_reducible assumption | with_reducible rfl | omega | assumption | rfl)) (kV_RX3_86 C.2.2.2.2 (Nat.le_of_ble_eq_true rfl) (Nat.le_of_ble_eq_true rfl)) [3] [3] rfl rfl (ci := 0) (qc := (RX0, TX0, 10)) rfl rfl (List.mem_flatten.mpr ⟨_, List.mem_of_getElem? (i := 0) rfl, (bWays_mem hww).choose_spec⟩) rfl rfl hl.1 dX3_mostTogether_57 (Nat.le_of_ble_eq_true rfl) (Nat.le_of_ble_eq_true rfl) (fun r_16 b1 H locs hw G => ?_)
        refine zAn2 hw ?_
        intro hbs9 h_15
        clear hw
        subst hbs9
        have G : zS T A s.heap s [[zO3 t e0 e1 e2 e3 e4 e5 a1_8 a2_9], [zAr T 0 a1_8 m1 r1], [zAr T 0 a2_9 7 y2], ww] _ _ := G
        subst h_15
        refine lv_istore (lv' := [(5, .int (zEntry f5 n4 ((r1 i) >>> (14 &&& 31)) x &&& 7)), (4, .int (nI i)), (3, .int ui3), (0, .ref t), (1, .ref h), (2, .int x)]) hx hb dX3_mostTogether_60 hl (by decide) (zLvf_h rfl) (fun ls hl => ?_)
        refine lv_iload hx hb dX3_mostTogether_62 (lv_at hl 0 rfl) ?_
        refine lv_bipush (v := 7) hx hb dX3_mostTogether_64 (by decide) ?_
        refine lv_icmp_ge (tgt := 92) hx hb dX3_mostTogether_66 (by decide) (fun c_17 => ?_) (fun c_17 => ?_)
        · have c_17n : (7 : Int) ≤ (zEntry f5 n4 ((r1 i) >>> (14 &&& 31)) x &&& 7).toInt := (fa_le _ _).mp c_17
          refine lv_iinc (v := nI (i + 1)) (lv' := [(4, .int (nI (i + 1))), (5, .int (zEntry f5 n4 ((r1 i) >>> (14 &&& 31)) x &&& 7)), (3, .int ui3), (0, .ref t), (1, .ref h), (2, .int x)]) hx hb dX3_mostTogether_92 hl (k := 1) rfl (z_inc i 1) (by decide) (zLvf_h rfl) (fun ls hl => ?_)
          refine lv_goto (tgt := 26) hx hb dX3_mostTogether_95 (by decide) ?_
          have hw_18 : bFit T t e0 e1 e2 e3 e4 e5 r1 m1 y2 [zO3 t e0 e1 e2 e3 e4 e5 a1_8 a2_9, zAr T 0 a1_8 m1 r1, zAr T 0 a2_9 7 y2] := ⟨a1_8, a2_9, rfl⟩
          have G : zS T A s.heap s [[zO3 t e0 e1 e2 e3 e4 e5 a1_8 a2_9, zAr T 0 a1_8 m1 r1, zAr T 0 a2_9 7 y2], ww] _ _ := G.re rfl
          exact ih_26 (i + 1) ui3 ([zO3 t e0 e1 e2 e3 e4 e5 a1_8 a2_9, zAr T 0 a1_8 m1 r1, zAr T 0 a2_9 7 y2]) y2 (show bFit T t e0 e1 e2 e3 e4 e5 r1 m1 y2 ([zO3 t e0 e1 e2 e3 e4 e5 a1_8 a2_9, zAr T 0 a1_8 m1 r1, zAr T 0 a2_9 7 y2]) ∧ (i + 1) ≤ e3.toInt.toNat from ⟨hw_18, by omega⟩) (show e3.toInt.toNat - (i + 1) < e3.toInt.toNat - i from by omega) _ _ ls G (lv_sub hl [0, 2, 3, 4, 5] rfl)
        · have c_17n : ¬ (7 : Int) ≤ (zEntry f5 n4 ((r1 i) >>> (14 &&& 31)) x &&& 7).toInt := fun q => c_17 ((fa_le _ _).mpr q)
          refine lv_aload_n hx hb dX3_mostTogether_69 rfl (lv_at hl 3 rfl) ?_
          refine z_get C G clX3 0 rfl 7 (by decide) m_fl_RX3_22 rfl dX3_mostTogether_70 ?_
          refine lv_iload hx hb dX3_mostTogether_73 (lv_at hl 0 rfl) ?_
          refine lv_dup2_11 hx hb dX3_mostTogether_75 rfl rfl ?_
          refine z_ild C G 2 rfl (vp_in_iff.mpr ⟨(z_and7 _).1, by omega⟩) dX3_mostTogether_76 ?_
          refine lv_topi (fun v_19 ev_19 => ?_)
          subst ev_19
          refine lv_iconst (v := 1) hx hb dX3_mostTogether_77 (by decide) ?_
          refine lv_iadd hx hb dX3_mostTogether_78 ?_
          refine z_ist C G 2 rfl (vp_in_iff.mpr ⟨(z_and7 _).1, by omega⟩) dX3_mostTogether_79 (fun H locs G => ?_)
          have G : zS T A s.heap s [[zO3 t e0 e1 e2 e3 e4 e5 a1_8 a2_9], [zAr T 0 a1_8 m1 r1], [zAr T 0 a2_9 7 (upd y2 (zEntry f5 n4 ((r1 i) >>> (14 &&& 31)) x &&& 7).toNatClampNeg ((y2 (zEntry f5 n4 ((r1 i) >>> (14 &&& 31)) x &&& 7).toNatClampNeg) + 1))], ww] _ _ := G
          refine lv_iload_n hx hb dX3_mostTogether_80 rfl (lv_at hl 2 rfl) ?_
          refine lv_aload_n hx hb dX3_mostTogether_81 rfl (lv_at hl 3 rfl) ?_
          refine z_get C G clX3 0 rfl 7 (by decide) m_fl_RX3_22 rfl dX3_mostTogether_82 ?_
          refine lv_iload hx hb dX3_mostTogether_85 (lv_at hl 0 rfl) ?_
          refine z_ild C G 2 rfl (vp_in_iff.mpr ⟨(z_and7 _).1, by omega⟩) dX3_mostTogether_87 ?_
          refine lv_topi (fun v_20 ev_20 => ?_)
          subst ev_20
          refine va_mmax hx hb (C.2.2.1.trans hl.1.symm) C.2.2.2.1 (C.2.2.2.2 _ m_ml_RX3_83) (C.2.2.2.2 _ m_st_math_max) (C.2.2.2.2 _ m_ii_math) (C.2.2.2.2 _ m_co_math_max) (Nat.le_of_ble_eq_true rfl) (Nat.le_of_ble_eq_true rfl) (Nat.le_of_ble_eq_true rfl) (Nat.le_of_ble_eq_true rfl) dX3_mostTogether_88 ?_
          refine lv_topi (fun v_21 ev_21 => ?_)
          subst ev_21
          refine lv_istore_n (lv' := [(3, .int (if ui3 < ((upd y2 (zEntry f5 n4 ((r1 i) >>> (14 &&& 31)) x &&& 7).toNatClampNeg ((y2 (zEntry f5 n4 ((r1 i) >>> (14 &&& 31)) x &&& 7).toNatClampNeg) + 1)) (zEntry f5 n4 ((r1 i) >>> (14 &&& 31)) x &&& 7).toNatClampNeg) then ((upd y2 (zEntry f5 n4 ((r1 i) >>> (14 &&& 31)) x &&& 7).toNatClampNeg ((y2 (zEntry f5 n4 ((r1 i) >>> (14 &&& 31)) x &&& 7).toNatClampNeg) + 1)) (zEntry f5 n4 ((r1 i) >>> (14 &&& 31)) x &&& 7).toNatClampNeg) else ui3)), (5, .int (zEntry f5 n4 ((r1 i) >>> (14 &&& 31)) x &&& 7)), (4, .int (nI i)), (0, .ref t), (1, .ref h), (2, .int x)]) hx hb dX3_mostTogether_91 rfl hl (by decide) (zLvf_h rfl) (fun ls hl => ?_)
          refine lv_iinc (v := nI (i + 1)) (lv' := [(4, .int (nI (i + 1))), (3, .int (if ui3 < ((upd y2 (zEntry f5 n4 ((r1 i) >>> (14 &&& 31)) x &&& 7).toNatClampNeg ((y2 (zEntry f5 n4 ((r1 i) >>> (14 &&& 31)) x &&& 7).toNatClampNeg) + 1)) (zEntry f5 n4 ((r1 i) >>> (14 &&& 31)) x &&& 7).toNatClampNeg) then ((upd y2 (zEntry f5 n4 ((r1 i) >>> (14 &&& 31)) x &&& 7).toNatClampNeg ((y2 (zEntry f5 n4 ((r1 i) >>> (14 &&& 31)) x &&& 7).toNatClampNeg) + 1)) (zEntry f5 n4 ((r1 i) >>> (14 &&& 31)) x &&& 7).toNatClampNeg) else ui3)), (5, .int (zEntry f5 n4 ((r1 i) >>> (14 &&& 31)) x &&& 7)), (0, .ref t), (1, .ref h), (2, .int x)]) hx hb dX3_mostTogether_92 hl (k := 2) rfl (z_inc i 1) (by decide) (zLvf_h rfl) (fun ls hl => ?_)
          refine lv_goto (tgt := 26) hx hb dX3_mostTogether_95 (by decide) ?_
          have hw_22 : bFit T t e0 e1 e2 e3 e4 e5 r1 m1 (upd y2 (zEntry f5 n4 ((r1 i) >>> (14 &&& 31)) x &&& 7).toNatClampNeg ((y2 (zEntry f5 n4 ((r1 i) >>> (14 &&& 31)) x &&& 7).toNatClampNeg) + 1)) [zO3 t e0 e1 e2 e3 e4 e5 a1_8 a2_9, zAr T 0 a1_8 m1 r1, zAr T 0 a2_9 7 (upd y2 (zEntry f5 n4 ((r1 i) >>> (14 &&& 31)) x &&& 7).toNatClampNeg ((y2 (zEntry f5 n4 ((r1 i) >>> (14 &&& 31)) x &&& 7).toNatClampNeg) + 1))] := ⟨a1_8, a2_9, rfl⟩
          have G : zS T A s.heap s [[zO3 t e0 e1 e2 e3 e4 e5 a1_8 a2_9, zAr T 0 a1_8 m1 r1, zAr T 0 a2_9 7 (upd y2 (zEntry f5 n4 ((r1 i) >>> (14 &&& 31)) x &&& 7).toNatClampNeg ((y2 (zEntry f5 n4 ((r1 i) >>> (14 &&& 31)) x &&& 7).toNatClampNeg) + 1))], ww] _ _ := G.re rfl
          exact ih_26 (i + 1) (if ui3 < ((upd y2 (zEntry f5 n4 ((r1 i) >>> (14 &&& 31)) x &&& 7).toNatClampNeg ((y2 (zEntry f5 n4 ((r1 i) >>> (14 &&& 31)) x &&& 7).toNatClampNeg) + 1)) (zEntry f5 n4 ((r1 i) >>> (14 &&& 31)) x &&& 7).toNatClampNeg) then ((upd y2 (zEntry f5 n4 ((r1 i) >>> (14 &&& 31)) x &&& 7).toNatClampNeg ((y2 (zEntry f5 n4 ((r1 i) >>> (14 &&& 31)) x &&& 7).toNatClampNeg) + 1)) (zEntry f5 n4 ((r1 i) >>> (14 &&& 31)) x &&& 7).toNatClampNeg) else ui3) ([zO3 t e0 e1 e2 e3 e4 e5 a1_8 a2_9, zAr T 0 a1_8 m1 r1, zAr T 0 a2_9 7 (upd y2 (zEntry f5 n4 ((r1 i) >>> (14 &&& 31)) x &&& 7).toNatClampNeg ((y2 (zEntry f5 n4 ((r1 i) >>> (14 &&& 31)) x &&& 7).toNatClampNeg) + 1))]) (upd y2 (zEntry f5 n4 ((r1 i) >>> (14 &&& 31)) x &&& 7).toNatClampNeg ((y2 (zEntry f5 n4 ((r1 i) >>> (14 &&& 31)) x &&& 7).toNatClampNeg) + 1)) (show bFit T t e0 e1 e2 e3 e4 e5 r1 m1 (upd y2 (zEntry f5 n4 ((r1 i) >>> (14 &&& 31)) x &&& 7).toNatClampNeg ((y2 (zEntry f5 n4 ((r1 i) >>> (14 &&& 31)) x &&& 7).toNatClampNeg) + 1)) ([zO3 t e0 e1 e2 e3 e4 e5 a1_8 a2_9, zAr T 0 a1_8 m1 r1, zAr T 0 a2_9 7 (upd y2 (zEntry f5 n4 ((r1 i) >>> (14 &&& 31)) x &&& 7).toNatClampNeg ((y2 (zEntry f5 n4 ((r1 i) >>> (14 &&& 31)) x &&& 7).toNatClampNeg) + 1))]) ∧ (i + 1) ≤ e3.toInt.toNat from ⟨hw_22, by omega⟩) (show e3.toInt.toNat - (i + 1) < e3.toInt.toNat - i from by omega) _ _ ls G (lv_sub hl [0, 1, 3, 4, 5] rfl)
  · have c_4n : ¬ 7 ≤ i := fun q => c_4 ((nI_leI (a := 7) (b := i) (by omega) (by omega)).mpr q)
    refine lv_aload_n hx hb dX3_mostTogether_8 rfl (lv_at hl 1 rfl) ?_
    refine zEx2 hwt ?_
    intro a1_23 a2_24 hbs9
    clear hwt
    subst hbs9
    have G : zS T A s.heap s [[zO3 t e0 e1 e2 e3 e4 e5 a1_23 a2_24], [zAr T 0 a1_23 m1 r1], [zAr T 0 a2_24 7 x2], ww] _ _ := G.re rfl
    refine z_get C G clX3 0 rfl 7 (by decide) m_fl_RX3_22 rfl dX3_mostTogether_9 ?_
    refine lv_iload_n hx hb dX3_mostTogether_12 rfl (lv_at hl 0 rfl) ?_
    refine lv_iconst (v := 0) hx hb dX3_mostTogether_13 (by decide) ?_
    refine z_ist C G 2 rfl (vp_in_nI (by omega) (by decide)) dX3_mostTogether_14 (fun H locs G => ?_)
    rw [nI_clamp (by omega)] at G
    have G : zS T A s.heap s [[zO3 t e0 e1 e2 e3 e4 e5 a1_23 a2_24], [zAr T 0 a1_23 m1 r1], [zAr T 0 a2_24 7 (upd x2 i 0)], ww] _ _ := G
    refine lv_iinc (v := nI (i + 1)) (lv' := [(3, .int (nI (i + 1))), (0, .ref t), (1, .ref h), (2, .int x)]) hx hb dX3_mostTogether_15 hl (k := 0) rfl (z_inc i 1) (by decide) (zLvf_h rfl) (fun ls hl => ?_)
    refine lv_goto (tgt := 2) hx hb dX3_mostTogether_18 (by decide) ?_
    have hw_25 : bFit T t e0 e1 e2 e3 e4 e5 r1 m1 (upd x2 i 0) [zO3 t e0 e1 e2 e3 e4 e5 a1_23 a2_24, zAr T 0 a1_23 m1 r1, zAr T 0 a2_24 7 (upd x2 i 0)] := ⟨a1_23, a2_24, rfl⟩
    have G : zS T A s.heap s [[zO3 t e0 e1 e2 e3 e4 e5 a1_23 a2_24, zAr T 0 a1_23 m1 r1, zAr T 0 a2_24 7 (upd x2 i 0)], ww] _ _ := G.re rfl
    exact ih_2 (i + 1) ([zO3 t e0 e1 e2 e3 e4 e5 a1_23 a2_24, zAr T 0 a1_23 m1 r1, zAr T 0 a2_24 7 (upd x2 i 0)]) (upd x2 i 0) (show bFit T t e0 e1 e2 e3 e4 e5 r1 m1 (upd x2 i 0) ([zO3 t e0 e1 e2 e3 e4 e5 a1_23 a2_24, zAr T 0 a1_23 m1 r1, zAr T 0 a2_24 7 (upd x2 i 0)]) ∧ (i + 1) ≤ 7 from ⟨hw_25, by omega⟩) (show 7 - (i + 1) < 7 - i from by omega) _ _ ls G (lv_sub hl [0, 1, 2, 3] rfl)
set_option maxHeartbeats 4000000 in
set_option maxRecDepth 100000 in
/-- c_ask -/
theorem c_ask (l : Launch) (T : zTy) (t : Nat) (e0 : Int32) (e1 : Int32) (e2 : Int32) (e3 : Int32) (e4 : Int32) (e5 : Int32) (r1 : Nat → Int32) (m1 : Nat) (r2 : Nat → Int32) (wf : va_W) (h : Nat) (la : Nat) (md : Int32) (wy : Int32) (pc_ : Int32) (f1 : Nat → Int32) (f2 : Nat → Int32) (f3 : Nat → Int32) (f4 : Nat → Int32) (f5 : Nat → Int32) (f6 : Nat → Int32) (n4 : Nat) (ww : va_W) (cr : Int32) (inn : Int32) (k1 : Nat → Int32) (k2 : Nat → Int32) (k3 : Nat → Int32) (k4 : Nat → Int32) (z : va_W) (hwf : bFit T t e0 e1 e2 e3 e4 e5 r1 m1 r2 wf) (hww : bWays T h la md wy pc_ f1 f2 f3 f4 f5 f6 n4 ww) (hz : bLand T la cr inn k1 k2 k3 k4 z) (hn : n4 ≤ 131072) (hm : m1 ≤ 16384) (hI : zLI cr k1 k3) : zMi l T yX3_ask cX3_ask 6 (some .int) 4 0 0 [.ref t, .ref h] [wf, ww, z] (fun (r : Int32) bs => ∃ (w2 : va_W) (g2 : Nat → Int32), bs = [w2, ww, z] ∧ bFit T t e0 e1 e2 e3 e4 e5 r1 m1 g2 w2) := by
  refine zMi_of (own := RX3) (by decide) rfl (Nat.le_of_ble_eq_true rfl) ?_
  intro p e s m args below meth c A ls C hr hlocks hnm hAe G hl
  refine zHide (fun Qz_ hQz_ => ?_)
  have hx := C.1
  have hb := C.2.1
  have hl : lv_has ls 6 [(0, .ref t), (1, .ref h)] := hl
  have hcr := hI.1
  refine lv_iconst (v := (-1)) hx hb dX3_ask_0 (by decide) ?_
  refine lv_istore_n (lv' := [(2, .int (-1)), (0, .ref t), (1, .ref h)]) hx hb dX3_ask_1 rfl hl (by decide) (zLvf_h rfl) (fun ls hl => ?_)
  refine lv_iconst (v := 0) hx hb dX3_ask_2 (by decide) ?_
  refine lv_istore_n (lv' := [(3, .int 0), (2, .int (-1)), (0, .ref t), (1, .ref h)]) hx hb dX3_ask_3 rfl hl (by decide) (zLvf_h rfl) (fun ls hl => ?_)
  refine lv_iconst (v := 0) hx hb dX3_ask_4 (by decide) ?_
  refine lv_istore (lv' := [(4, .int 0), (3, .int 0), (2, .int (-1)), (0, .ref t), (1, .ref h)]) hx hb dX3_ask_5 hl (by decide) (zLvf_h rfl) (fun ls hl => ?_)
  refine zEx2 hwf ?_
  intro a1_1 a2_2 hbs9
  clear hwf
  subst hbs9
  have G : zS T A s.heap s [[zO3 t e0 e1 e2 e3 e4 e5 a1_1 a2_2], [zAr T 0 a1_1 m1 r1], [zAr T 0 a2_2 7 r2], ww, z] _ _ := G.re rfl
  refine zEx6 hww ?_
  intro a1_3 a2_4 a3_5 a4_6 a5_7 a6_8 hbs9
  clear hww
  subst hbs9
  have G : zS T A s.heap s [[zO3 t e0 e1 e2 e3 e4 e5 a1_1 a2_2], [zAr T 0 a1_1 m1 r1], [zAr T 0 a2_2 7 r2], [zO0 h md wy la pc_ a1_3 a2_4 a3_5 a4_6 a5_7 a6_8], [zAr T 0 a1_3 7 f1], [zAr T 0 a2_4 7 f2], [zAr T 0 a3_5 7 f3], [zAr T 0 a4_6 n4 f4], [zAr T 0 a5_7 n4 f5], [zAr T 0 a6_8 n4 f6], z] _ _ := G.re rfl
  refine zEx4 hz ?_
  intro a1_9 a2_10 a3_11 a4_12 hbs9
  clear hz
  subst hbs9
  have G : zS T A s.heap s [[zO3 t e0 e1 e2 e3 e4 e5 a1_1 a2_2], [zAr T 0 a1_1 m1 r1], [zAr T 0 a2_2 7 r2], [zO0 h md wy la pc_ a1_3 a2_4 a3_5 a4_6 a5_7 a6_8], [zAr T 0 a1_3 7 f1], [zAr T 0 a2_4 7 f2], [zAr T 0 a3_5 7 f3], [zAr T 0 a4_6 n4 f4], [zAr T 0 a5_7 n4 f5], [zAr T 0 a6_8 n4 f6], [zO4 la cr inn a1_9 a2_10 a3_11 a4_12], [zAr T 0 a1_9 7 k1], [zAr T 0 a2_10 28 k2], [zAr T 0 a3_11 7 k3], [zAr T 0 a4_12 7 k4]] _ _ := G.re rfl
  have hw_13 : bFit T t e0 e1 e2 e3 e4 e5 r1 m1 r2 [zO3 t e0 e1 e2 e3 e4 e5 a1_1 a2_2, zAr T 0 a1_1 m1 r1, zAr T 0 a2_2 7 r2] := ⟨a1_1, a2_2, rfl⟩
  have G : zS T A s.heap s [[zO3 t e0 e1 e2 e3 e4 e5 a1_1 a2_2, zAr T 0 a1_1 m1 r1, zAr T 0 a2_2 7 r2], [zO0 h md wy la pc_ a1_3 a2_4 a3_5 a4_6 a5_7 a6_8], [zAr T 0 a1_3 7 f1], [zAr T 0 a2_4 7 f2], [zAr T 0 a3_5 7 f3], [zAr T 0 a4_6 n4 f4], [zAr T 0 a5_7 n4 f5], [zAr T 0 a6_8 n4 f6], [zO4 la cr inn a1_9 a2_10 a3_11 a4_12], [zAr T 0 a1_9 7 k1], [zAr T 0 a2_10 28 k2], [zAr T 0 a3_11 7 k3], [zAr T 0 a4_12 7 k4]] _ _ := G.re rfl
  have hw_14 : bWays T h la md wy pc_ f1 f2 f3 f4 f5 f6 n4 [zO0 h md wy la pc_ a1_3 a2_4 a3_5 a4_6 a5_7 a6_8, zAr T 0 a1_3 7 f1, zAr T 0 a2_4 7 f2, zAr T 0 a3_5 7 f3, zAr T 0 a4_6 n4 f4, zAr T 0 a5_7 n4 f5, zAr T 0 a6_8 n4 f6] := ⟨a1_3, a2_4, a3_5, a4_6, a5_7, a6_8, rfl⟩
  have G : zS T A s.heap s [[zO3 t e0 e1 e2 e3 e4 e5 a1_1 a2_2, zAr T 0 a1_1 m1 r1, zAr T 0 a2_2 7 r2], [zO0 h md wy la pc_ a1_3 a2_4 a3_5 a4_6 a5_7 a6_8, zAr T 0 a1_3 7 f1, zAr T 0 a2_4 7 f2, zAr T 0 a3_5 7 f3, zAr T 0 a4_6 n4 f4, zAr T 0 a5_7 n4 f5, zAr T 0 a6_8 n4 f6], [zO4 la cr inn a1_9 a2_10 a3_11 a4_12], [zAr T 0 a1_9 7 k1], [zAr T 0 a2_10 28 k2], [zAr T 0 a3_11 7 k3], [zAr T 0 a4_12 7 k4]] _ _ := G.re rfl
  have hw_15 : bLand T la cr inn k1 k2 k3 k4 [zO4 la cr inn a1_9 a2_10 a3_11 a4_12, zAr T 0 a1_9 7 k1, zAr T 0 a2_10 28 k2, zAr T 0 a3_11 7 k3, zAr T 0 a4_12 7 k4] := ⟨a1_9, a2_10, a3_11, a4_12, rfl⟩
  have G : zS T A s.heap s [[zO3 t e0 e1 e2 e3 e4 e5 a1_1 a2_2, zAr T 0 a1_1 m1 r1, zAr T 0 a2_2 7 r2], [zO0 h md wy la pc_ a1_3 a2_4 a3_5 a4_6 a5_7 a6_8, zAr T 0 a1_3 7 f1, zAr T 0 a2_4 7 f2, zAr T 0 a3_5 7 f3, zAr T 0 a4_6 n4 f4, zAr T 0 a5_7 n4 f5, zAr T 0 a6_8 n4 f6], [zO4 la cr inn a1_9 a2_10 a3_11 a4_12, zAr T 0 a1_9 7 k1, zAr T 0 a2_10 28 k2, zAr T 0 a3_11 7 k3, zAr T 0 a4_12 7 k4]] _ _ := G.re rfl
  refine z_lp5 (T := T) 7 (fun (i : Nat) (u2 : Int32) (u3 : Int32) (wt2 : va_W) (y2 : Nat → Int32) => [wt2, [zO0 h md wy la pc_ a1_3 a2_4 a3_5 a4_6 a5_7 a6_8, zAr T 0 a1_3 7 f1, zAr T 0 a2_4 7 f2, zAr T 0 a3_5 7 f3, zAr T 0 a4_6 n4 f4, zAr T 0 a5_7 n4 f5, zAr T 0 a6_8 n4 f6], [zO4 la cr inn a1_9 a2_10 a3_11 a4_12, zAr T 0 a1_9 7 k1, zAr T 0 a2_10 28 k2, zAr T 0 a3_11 7 k3, zAr T 0 a4_12 7 k4]]) (fun (i : Nat) (u2 : Int32) (u3 : Int32) (wt2 : va_W) (y2 : Nat → Int32) => [(4, .int (nI i)), (3, .int u3), (2, .int u2), (0, .ref t), (1, .ref h)]) (fun (i : Nat) (u2 : Int32) (u3 : Int32) (wt2 : va_W) (y2 : Nat → Int32) => bFit T t e0 e1 e2 e3 e4 e5 r1 m1 y2 wt2 ∧ i ≤ cr.toInt.toNat) (fun (i : Nat) (u2 : Int32) (u3 : Int32) (wt2 : va_W) (y2 : Nat → Int32) => cr.toInt.toNat - i) ?_ 0 (-1) 0 ([zO3 t e0 e1 e2 e3 e4 e5 a1_1 a2_2, zAr T 0 a1_1 m1 r1, zAr T 0 a2_2 7 r2]) r2 (show bFit T t e0 e1 e2 e3 e4 e5 r1 m1 r2 ([zO3 t e0 e1 e2 e3 e4 e5 a1_1 a2_2, zAr T 0 a1_1 m1 r1, zAr T 0 a2_2 7 r2]) ∧ 0 ≤ cr.toInt.toNat from ⟨hw_13, by omega⟩) G (lv_sub hl [0, 1, 2, 3, 4] rfl)
  intro i u2 u3 wt2 y2 hI9 ih_7 H locs ls G hl
  replace hI9 : bFit T t e0 e1 e2 e3 e4 e5 r1 m1 y2 wt2 ∧ i ≤ cr.toInt.toNat := hI9
  refine zAn2 hI9 ?_
  intro hwt2 hi
  clear hI9
  replace G : zS T A s.heap s [wt2, [zO0 h md wy la pc_ a1_3 a2_4 a3_5 a4_6 a5_7 a6_8, zAr T 0 a1_3 7 f1, zAr T 0 a2_4 7 f2, zAr T 0 a3_5 7 f3, zAr T 0 a4_6 n4 f4, zAr T 0 a5_7 n4 f5, zAr T 0 a6_8 n4 f6], [zO4 la cr inn a1_9 a2_10 a3_11 a4_12, zAr T 0 a1_9 7 k1, zAr T 0 a2_10 28 k2, zAr T 0 a3_11 7 k3, zAr T 0 a4_12 7 k4]] _ _ := G
  replace hl : lv_has ls 6 [(4, .int (nI i)), (3, .int u3), (2, .int u2), (0, .ref t), (1, .ref h)] := hl
  refine lv_iload hx hb dX3_ask_7 (lv_at hl 0 rfl) ?_
  refine lv_aload_n hx hb dX3_ask_9 rfl (lv_at hl 4 rfl) ?_
  have G : zS T A s.heap s [wt2, [zO0 h md wy la pc_ a1_3 a2_4 a3_5 a4_6 a5_7 a6_8], [zAr T 0 a1_3 7 f1], [zAr T 0 a2_4 7 f2], [zAr T 0 a3_5 7 f3], [zAr T 0 a4_6 n4 f4], [zAr T 0 a5_7 n4 f5], [zAr T 0 a6_8 n4 f6], [zO4 la cr inn a1_9 a2_10 a3_11 a4_12, zAr T 0 a1_9 7 k1, zAr T 0 a2_10 28 k2, zAr T 0 a3_11 7 k3, zAr T 0 a4_12 7 k4]] _ _ := G.re rfl
  refine z_get C G clX0 1 rfl 2 (by decide) m_fl_RX3_55 rfl dX3_ask_10 ?_
  have G : zS T A s.heap s [wt2, [zO0 h md wy la pc_ a1_3 a2_4 a3_5 a4_6 a5_7 a6_8], [zAr T 0 a1_3 7 f1], [zAr T 0 a2_4 7 f2], [zAr T 0 a3_5 7 f3], [zAr T 0 a4_6 n4 f4], [zAr T 0 a5_7 n4 f5], [zAr T 0 a6_8 n4 f6], [zO4 la cr inn a1_9 a2_10 a3_11 a4_12], [zAr T 0 a1_9 7 k1], [zAr T 0 a2_10 28 k2], [zAr T 0 a3_11 7 k3], [zAr T 0 a4_12 7 k4]] _ _ := G.re rfl
  refine z_get C G clX4 8 rfl 0 (by decide) m_fl_RX3_103 rfl dX3_ask_13 ?_
  refine lv_icmp_ge (tgt := 70) hx hb dX3_ask_16 (by decide) (fun c_16 => ?_) (fun c_16 => ?_)
  · have c_16n : cr.toInt ≤ (i : Int) := by have q := (fa_le _ _).mp c_16; rw [nI_toInt (n := i) (by omega)] at q; exact q
    refine lv_iload_n hx hb dX3_ask_70 rfl (lv_at hl 2 rfl) ?_
    have hw_17 : bWays T h la md wy pc_ f1 f2 f3 f4 f5 f6 n4 [zO0 h md wy la pc_ a1_3 a2_4 a3_5 a4_6 a5_7 a6_8, zAr T 0 a1_3 7 f1, zAr T 0 a2_4 7 f2, zAr T 0 a3_5 7 f3, zAr T 0 a4_6 n4 f4, zAr T 0 a5_7 n4 f5, zAr T 0 a6_8 n4 f6] := ⟨a1_3, a2_4, a3_5, a4_6, a5_7, a6_8, rfl⟩
    have G : zS T A s.heap s [wt2, [zO0 h md wy la pc_ a1_3 a2_4 a3_5 a4_6 a5_7 a6_8, zAr T 0 a1_3 7 f1, zAr T 0 a2_4 7 f2, zAr T 0 a3_5 7 f3, zAr T 0 a4_6 n4 f4, zAr T 0 a5_7 n4 f5, zAr T 0 a6_8 n4 f6], [zO4 la cr inn a1_9 a2_10 a3_11 a4_12], [zAr T 0 a1_9 7 k1], [zAr T 0 a2_10 28 k2], [zAr T 0 a3_11 7 k3], [zAr T 0 a4_12 7 k4]] _ _ := G.re rfl
    have hw_18 : bLand T la cr inn k1 k2 k3 k4 [zO4 la cr inn a1_9 a2_10 a3_11 a4_12, zAr T 0 a1_9 7 k1, zAr T 0 a2_10 28 k2, zAr T 0 a3_11 7 k3, zAr T 0 a4_12 7 k4] := ⟨a1_9, a2_10, a3_11, a4_12, rfl⟩
    have G : zS T A s.heap s [wt2, [zO0 h md wy la pc_ a1_3 a2_4 a3_5 a4_6 a5_7 a6_8, zAr T 0 a1_3 7 f1, zAr T 0 a2_4 7 f2, zAr T 0 a3_5 7 f3, zAr T 0 a4_6 n4 f4, zAr T 0 a5_7 n4 f5, zAr T 0 a6_8 n4 f6], [zO4 la cr inn a1_9 a2_10 a3_11 a4_12, zAr T 0 a1_9 7 k1, zAr T 0 a2_10 28 k2, zAr T 0 a3_11 7 k3, zAr T 0 a4_12 7 k4]] _ _ := G.re rfl
    exact z_back hQz_ (z_iret C hr hlocks G (Nat.le_of_ble_eq_true rfl) (Nat.le_of_ble_eq_true rfl) dX3_ask_71 ⟨wt2, y2, rfl, hwt2⟩)
  · have c_16n : ¬ cr.toInt ≤ (i : Int) := fun q => c_16 ((fa_le _ _).mpr (by rw [nI_toInt (n := i) (by omega)]; exact q))
    refine lv_aload_n hx hb dX3_ask_19 rfl (lv_at hl 3 rfl) ?_
    refine zEx2 hwt2 ?_
    intro a1_19 a2_20 hbs9
    clear hwt2
    subst hbs9
    have G : zS T A s.heap s [[zO3 t e0 e1 e2 e3 e4 e5 a1_19 a2_20], [zAr T 0 a1_19 m1 r1], [zAr T 0 a2_20 7 y2], [zO0 h md wy la pc_ a1_3 a2_4 a3_5 a4_6 a5_7 a6_8], [zAr T 0 a1_3 7 f1], [zAr T 0 a2_4 7 f2], [zAr T 0 a3_5 7 f3], [zAr T 0 a4_6 n4 f4], [zAr T 0 a5_7 n4 f5], [zAr T 0 a6_8 n4 f6], [zO4 la cr inn a1_9 a2_10 a3_11 a4_12], [zAr T 0 a1_9 7 k1], [zAr T 0 a2_10 28 k2], [zAr T 0 a3_11 7 k3], [zAr T 0 a4_12 7 k4]] _ _ := G.re rfl
    refine z_get C G clX3 0 rfl 3 (by decide) m_fl_RX3_34 rfl dX3_ask_20 ?_
    refine lv_if_le (tgt := 70) hx hb dX3_ask_23 (by decide) (fun c_21 => ?_) (fun c_21 => ?_)
    · have c_21n : e3.toInt ≤ (0 : Int) := (fa_le _ _).mp c_21
      refine lv_iload_n hx hb dX3_ask_70 rfl (lv_at hl 2 rfl) ?_
      have hw_22 : bFit T t e0 e1 e2 e3 e4 e5 r1 m1 y2 [zO3 t e0 e1 e2 e3 e4 e5 a1_19 a2_20, zAr T 0 a1_19 m1 r1, zAr T 0 a2_20 7 y2] := ⟨a1_19, a2_20, rfl⟩
      have G : zS T A s.heap s [[zO3 t e0 e1 e2 e3 e4 e5 a1_19 a2_20, zAr T 0 a1_19 m1 r1, zAr T 0 a2_20 7 y2], [zO0 h md wy la pc_ a1_3 a2_4 a3_5 a4_6 a5_7 a6_8], [zAr T 0 a1_3 7 f1], [zAr T 0 a2_4 7 f2], [zAr T 0 a3_5 7 f3], [zAr T 0 a4_6 n4 f4], [zAr T 0 a5_7 n4 f5], [zAr T 0 a6_8 n4 f6], [zO4 la cr inn a1_9 a2_10 a3_11 a4_12], [zAr T 0 a1_9 7 k1], [zAr T 0 a2_10 28 k2], [zAr T 0 a3_11 7 k3], [zAr T 0 a4_12 7 k4]] _ _ := G.re rfl
      have hw_23 : bWays T h la md wy pc_ f1 f2 f3 f4 f5 f6 n4 [zO0 h md wy la pc_ a1_3 a2_4 a3_5 a4_6 a5_7 a6_8, zAr T 0 a1_3 7 f1, zAr T 0 a2_4 7 f2, zAr T 0 a3_5 7 f3, zAr T 0 a4_6 n4 f4, zAr T 0 a5_7 n4 f5, zAr T 0 a6_8 n4 f6] := ⟨a1_3, a2_4, a3_5, a4_6, a5_7, a6_8, rfl⟩
      have G : zS T A s.heap s [[zO3 t e0 e1 e2 e3 e4 e5 a1_19 a2_20, zAr T 0 a1_19 m1 r1, zAr T 0 a2_20 7 y2], [zO0 h md wy la pc_ a1_3 a2_4 a3_5 a4_6 a5_7 a6_8, zAr T 0 a1_3 7 f1, zAr T 0 a2_4 7 f2, zAr T 0 a3_5 7 f3, zAr T 0 a4_6 n4 f4, zAr T 0 a5_7 n4 f5, zAr T 0 a6_8 n4 f6], [zO4 la cr inn a1_9 a2_10 a3_11 a4_12], [zAr T 0 a1_9 7 k1], [zAr T 0 a2_10 28 k2], [zAr T 0 a3_11 7 k3], [zAr T 0 a4_12 7 k4]] _ _ := G.re rfl
      have hw_24 : bLand T la cr inn k1 k2 k3 k4 [zO4 la cr inn a1_9 a2_10 a3_11 a4_12, zAr T 0 a1_9 7 k1, zAr T 0 a2_10 28 k2, zAr T 0 a3_11 7 k3, zAr T 0 a4_12 7 k4] := ⟨a1_9, a2_10, a3_11, a4_12, rfl⟩
      have G : zS T A s.heap s [[zO3 t e0 e1 e2 e3 e4 e5 a1_19 a2_20, zAr T 0 a1_19 m1 r1, zAr T 0 a2_20 7 y2], [zO0 h md wy la pc_ a1_3 a2_4 a3_5 a4_6 a5_7 a6_8, zAr T 0 a1_3 7 f1, zAr T 0 a2_4 7 f2, zAr T 0 a3_5 7 f3, zAr T 0 a4_6 n4 f4, zAr T 0 a5_7 n4 f5, zAr T 0 a6_8 n4 f6], [zO4 la cr inn a1_9 a2_10 a3_11 a4_12, zAr T 0 a1_9 7 k1, zAr T 0 a2_10 28 k2, zAr T 0 a3_11 7 k3, zAr T 0 a4_12 7 k4]] _ _ := G.re rfl
      exact z_back hQz_ (z_iret C hr hlocks G (Nat.le_of_ble_eq_true rfl) (Nat.le_of_ble_eq_true rfl) dX3_ask_71 ⟨([zO3 t e0 e1 e2 e3 e4 e5 a1_19 a2_20, zAr T 0 a1_19 m1 r1, zAr T 0 a2_20 7 y2]), y2, rfl, hw_22⟩)
    · have c_21n : ¬ e3.toInt ≤ (0 : Int) := fun q => c_21 ((fa_le _ _).mpr q)
      refine lv_aload_n hx hb dX3_ask_26 rfl (lv_at hl 4 rfl) ?_
      refine z_get C G clX0 3 rfl 2 (by decide) m_fl_RX3_55 rfl dX3_ask_27 ?_
      refine lv_iload hx hb dX3_ask_30 (lv_at hl 0 rfl) ?_
      have hw_25 : bLand T la cr inn k1 k2 k3 k4 [zO4 la cr inn a1_9 a2_10 a3_11 a4_12, zAr T 0 a1_9 7 k1, zAr T 0 a2_10 28 k2, zAr T 0 a3_11 7 k3, zAr T 0 a4_12 7 k4] := ⟨a1_9, a2_10, a3_11, a4_12, rfl⟩
      have G : zS T A s.heap s [[zO3 t e0 e1 e2 e3 e4 e5 a1_19 a2_20], [zAr T 0 a1_19 m1 r1], [zAr T 0 a2_20 7 y2], [zO0 h md wy la pc_ a1_3 a2_4 a3_5 a4_6 a5_7 a6_8], [zAr T 0 a1_3 7 f1], [zAr T 0 a2_4 7 f2], [zAr T 0 a3_5 7 f3], [zAr T 0 a4_6 n4 f4], [zAr T 0 a5_7 n4 f5], [zAr T 0 a6_8 n4 f6], [zO4 la cr inn a1_9 a2_10 a3_11 a4_12, zAr T 0 a1_9 7 k1, zAr T 0 a2_10 28 k2, zAr T 0 a3_11 7 k3, zAr T 0 a4_12 7 k4]] _ _ := G.re rfl
      refine z_Vi (bc := [[zO4 la cr inn a1_9 a2_10 a3_11 a4_12, zAr T 0 a1_9 7 k1, zAr T 0 a2_10 28 k2, zAr T 0 a3_11 7 k3, zAr T 0 a4_12 7 k4]]) (br := [[zO3 t e0 e1 e2 e3 e4 e5 a1_19 a2_20], [zAr T 0 a1_19 m1 r1], [zAr T 0 a2_20 7 y2], [zO0 h md wy la pc_ a1_3 a2_4 a3_5 a4_6 a5_7 a6_8], [zAr T 0 a1_3 7 f1], [zAr T 0 a2_4 7 f2], [zAr T 0 a3_5 7 f3], [zAr T 0 a4_6 n4 f4], [zAr T 0 a5_7 n4 f5], [zAr T 0 a6_8 n4 f6]]) (As := [.int (nI i)]) (rest := []) C G (c_isInn l T la cr inn k1 k2 k3 k4 ([zO4 la cr inn a1_9 a2_10 a3_11 a4_12, zAr T 0 a1_9 7 k1, zAr T 0 a2_10 28 k2, zAr T 0 a3_11 7 k3, zAr T 0 a4_12 7 k4]) (nI i) hw_25) (kV_RX3_89 C.2.2.2.2 (Nat.le_of_ble_eq_true rfl) (Nat.le_of_ble_eq_true rfl)) [10] [10] rfl rfl (ci := 4) (qc := (RX4, TX4, 6)) rfl rfl (List.mem_flatten.mpr ⟨_, List.mem_of_getElem? (i := 0) rfl, (bLand_mem hw_25).choose_spec⟩) rfl rfl hl.1 dX3_ask_32 (Nat.le_of_ble_eq_true rfl) (Nat.le_of_ble_eq_true rfl) (fun r_27 b1 H locs hw G => ?_)
      refine zAn2 hw ?_
      intro hbs9 hc_26
      clear hw
      subst hbs9
      have G : zS T A s.heap s [[zO3 t e0 e1 e2 e3 e4 e5 a1_19 a2_20], [zAr T 0 a1_19 m1 r1], [zAr T 0 a2_20 7 y2], [zO0 h md wy la pc_ a1_3 a2_4 a3_5 a4_6 a5_7 a6_8], [zAr T 0 a1_3 7 f1], [zAr T 0 a2_4 7 f2], [zAr T 0 a3_5 7 f3], [zAr T 0 a4_6 n4 f4], [zAr T 0 a5_7 n4 f5], [zAr T 0 a6_8 n4 f6], [zO4 la cr inn a1_9 a2_10 a3_11 a4_12, zAr T 0 a1_9 7 k1, zAr T 0 a2_10 28 k2, zAr T 0 a3_11 7 k3, zAr T 0 a4_12 7 k4]] _ _ := G
      rcases hc_26 with ⟨rfl, h_28, h_29, h_30, h_31⟩ | ⟨rfl, h_32⟩
      · have h_28 : 0 ≤ (nI i).toInt := h_28
        have h_29 : (nI i).toInt < cr.toInt := h_29
        have h_30 : (nI i).toInt < 7 := h_30
        have h_31 : ¬ zBit inn (nI i) = 0 := h_31
        refine lv_if_ne (tgt := 64) hx hb dX3_ask_35 (by decide) (fun _ => ?_) (fun q => absurd q (by decide))
        refine lv_iinc (v := nI (i + 1)) (lv' := [(4, .int (nI (i + 1))), (3, .int u3), (2, .int u2), (0, .ref t), (1, .ref h)]) hx hb dX3_ask_64 hl (k := 0) rfl (z_inc i 1) (by decide) (zLvf_h rfl) (fun ls hl => ?_)
        refine lv_goto (tgt := 7) hx hb dX3_ask_67 (by decide) ?_
        have hw_33 : bFit T t e0 e1 e2 e3 e4 e5 r1 m1 y2 [zO3 t e0 e1 e2 e3 e4 e5 a1_19 a2_20, zAr T 0 a1_19 m1 r1, zAr T 0 a2_20 7 y2] := ⟨a1_19, a2_20, rfl⟩
        have G : zS T A s.heap s [[zO3 t e0 e1 e2 e3 e4 e5 a1_19 a2_20, zAr T 0 a1_19 m1 r1, zAr T 0 a2_20 7 y2], [zO0 h md wy la pc_ a1_3 a2_4 a3_5 a4_6 a5_7 a6_8], [zAr T 0 a1_3 7 f1], [zAr T 0 a2_4 7 f2], [zAr T 0 a3_5 7 f3], [zAr T 0 a4_6 n4 f4], [zAr T 0 a5_7 n4 f5], [zAr T 0 a6_8 n4 f6], [zO4 la cr inn a1_9 a2_10 a3_11 a4_12, zAr T 0 a1_9 7 k1, zAr T 0 a2_10 28 k2, zAr T 0 a3_11 7 k3, zAr T 0 a4_12 7 k4]] _ _ := G.re rfl
        have hw_34 : bWays T h la md wy pc_ f1 f2 f3 f4 f5 f6 n4 [zO0 h md wy la pc_ a1_3 a2_4 a3_5 a4_6 a5_7 a6_8, zAr T 0 a1_3 7 f1, zAr T 0 a2_4 7 f2, zAr T 0 a3_5 7 f3, zAr T 0 a4_6 n4 f4, zAr T 0 a5_7 n4 f5, zAr T 0 a6_8 n4 f6] := ⟨a1_3, a2_4, a3_5, a4_6, a5_7, a6_8, rfl⟩
        have G : zS T A s.heap s [[zO3 t e0 e1 e2 e3 e4 e5 a1_19 a2_20, zAr T 0 a1_19 m1 r1, zAr T 0 a2_20 7 y2], [zO0 h md wy la pc_ a1_3 a2_4 a3_5 a4_6 a5_7 a6_8, zAr T 0 a1_3 7 f1, zAr T 0 a2_4 7 f2, zAr T 0 a3_5 7 f3, zAr T 0 a4_6 n4 f4, zAr T 0 a5_7 n4 f5, zAr T 0 a6_8 n4 f6], [zO4 la cr inn a1_9 a2_10 a3_11 a4_12, zAr T 0 a1_9 7 k1, zAr T 0 a2_10 28 k2, zAr T 0 a3_11 7 k3, zAr T 0 a4_12 7 k4]] _ _ := G.re rfl
        exact ih_7 (i + 1) u2 u3 ([zO3 t e0 e1 e2 e3 e4 e5 a1_19 a2_20, zAr T 0 a1_19 m1 r1, zAr T 0 a2_20 7 y2]) y2 (show bFit T t e0 e1 e2 e3 e4 e5 r1 m1 y2 ([zO3 t e0 e1 e2 e3 e4 e5 a1_19 a2_20, zAr T 0 a1_19 m1 r1, zAr T 0 a2_20 7 y2]) ∧ (i + 1) ≤ cr.toInt.toNat from ⟨hw_33, by omega⟩) (show cr.toInt.toNat - (i + 1) < cr.toInt.toNat - i from by omega) _ _ ls G (lv_sub hl [0, 1, 2, 3, 4] rfl)
      · have h_32 : ((nI i).toInt < 0 ∨ cr.toInt ≤ (nI i).toInt ∨ 7 ≤ (nI i).toInt ∨ zBit inn (nI i) = 0) := h_32
        refine lv_if_ne (tgt := 64) hx hb dX3_ask_35 (by decide) (fun q => absurd (by decide) q) (fun _ => ?_)
        refine lv_aload_n hx hb dX3_ask_38 rfl (lv_at hl 3 rfl) ?_
        refine lv_aload_n hx hb dX3_ask_39 rfl (lv_at hl 4 rfl) ?_
        refine lv_iload hx hb dX3_ask_40 (lv_at hl 0 rfl) ?_
        have hw_35 : bFit T t e0 e1 e2 e3 e4 e5 r1 m1 y2 [zO3 t e0 e1 e2 e3 e4 e5 a1_19 a2_20, zAr T 0 a1_19 m1 r1, zAr T 0 a2_20 7 y2] := ⟨a1_19, a2_20, rfl⟩
        have G : zS T A s.heap s [[zO3 t e0 e1 e2 e3 e4 e5 a1_19 a2_20, zAr T 0 a1_19 m1 r1, zAr T 0 a2_20 7 y2], [zO0 h md wy la pc_ a1_3 a2_4 a3_5 a4_6 a5_7 a6_8], [zAr T 0 a1_3 7 f1], [zAr T 0 a2_4 7 f2], [zAr T 0 a3_5 7 f3], [zAr T 0 a4_6 n4 f4], [zAr T 0 a5_7 n4 f5], [zAr T 0 a6_8 n4 f6], [zO4 la cr inn a1_9 a2_10 a3_11 a4_12, zAr T 0 a1_9 7 k1, zAr T 0 a2_10 28 k2, zAr T 0 a3_11 7 k3, zAr T 0 a4_12 7 k4]] _ _ := G.re rfl
        have hw_36 : bWays T h la md wy pc_ f1 f2 f3 f4 f5 f6 n4 [zO0 h md wy la pc_ a1_3 a2_4 a3_5 a4_6 a5_7 a6_8, zAr T 0 a1_3 7 f1, zAr T 0 a2_4 7 f2, zAr T 0 a3_5 7 f3, zAr T 0 a4_6 n4 f4, zAr T 0 a5_7 n4 f5, zAr T 0 a6_8 n4 f6] := ⟨a1_3, a2_4, a3_5, a4_6, a5_7, a6_8, rfl⟩
        have G : zS T A s.heap s [[zO3 t e0 e1 e2 e3 e4 e5 a1_19 a2_20, zAr T 0 a1_19 m1 r1, zAr T 0 a2_20 7 y2], [zO0 h md wy la pc_ a1_3 a2_4 a3_5 a4_6 a5_7 a6_8, zAr T 0 a1_3 7 f1, zAr T 0 a2_4 7 f2, zAr T 0 a3_5 7 f3, zAr T 0 a4_6 n4 f4, zAr T 0 a5_7 n4 f5, zAr T 0 a6_8 n4 f6], [zO4 la cr inn a1_9 a2_10 a3_11 a4_12, zAr T 0 a1_9 7 k1, zAr T 0 a2_10 28 k2, zAr T 0 a3_11 7 k3, zAr T 0 a4_12 7 k4]] _ _ := G.re rfl
        refine z_Vi (bc := [[zO3 t e0 e1 e2 e3 e4 e5 a1_19 a2_20, zAr T 0 a1_19 m1 r1, zAr T 0 a2_20 7 y2], [zO0 h md wy la pc_ a1_3 a2_4 a3_5 a4_6 a5_7 a6_8, zAr T 0 a1_3 7 f1, zAr T 0 a2_4 7 f2, zAr T 0 a3_5 7 f3, zAr T 0 a4_6 n4 f4, zAr T 0 a5_7 n4 f5, zAr T 0 a6_8 n4 f6]]) (br := [[zO4 la cr inn a1_9 a2_10 a3_11 a4_12, zAr T 0 a1_9 7 k1, zAr T 0 a2_10 28 k2, zAr T 0 a3_11 7 k3, zAr T 0 a4_12 7 k4]]) (As := [.ref h, .int (nI i)]) (rest := []) C G (c_mostTogether l T t e0 e1 e2 e3 e4 e5 r1 m1 y2 ([zO3 t e0 e1 e2 e3 e4 e5 a1_19 a2_20, zAr T 0 a1_19 m1 r1, zAr T 0 a2_20 7 y2]) h la md wy pc_ f1 f2 f3 f4 f5 f6 n4 ([zO0 h md wy la pc_ a1_3 a2_4 a3_5 a4_6 a5_7 a6_8, zAr T 0 a1_3 7 f1, zAr T 0 a2_4 7 f2, zAr T 0 a3_5 7 f3, zAr T 0 a4_6 n4 f4, zAr T 0 a5_7 n4 f5, zAr T 0 a6_8 n4 f6]) (nI i) hw_35 hw_36 (by first | with_reducible assumption | with_reducible rfl | omega | assumption | rfl) (by first | with_reducible assumption | with_reducible rfl | omega | assumption | rfl)) (kV_RX3_106 C.2.2.2.2 (Nat.le_of_ble_eq_true rfl) (Nat.le_of_ble_eq_true rfl)) [0, 1] [0, 0] rfl rfl (ci := 3) (qc := (RX3, TX3, 8)) rfl rfl (List.mem_flatten.mpr ⟨_, List.mem_of_getElem? (i := 0) rfl, (bFit_mem hw_35).choose_spec⟩) rfl rfl hl.1 dX3_ask_42 (Nat.le_of_ble_eq_true rfl) (Nat.le_of_ble_eq_true rfl) (fun r_40 b1 H locs hw G => ?_)
        refine zEx2 hw ?_
        intro w2_37 g2_38
        refine zCu2 ?_
        intro hbs9 h_39
        clear hw
        subst hbs9
        have G : zS T A s.heap s [[zO4 la cr inn a1_9 a2_10 a3_11 a4_12, zAr T 0 a1_9 7 k1, zAr T 0 a2_10 28 k2, zAr T 0 a3_11 7 k3, zAr T 0 a4_12 7 k4], w2_37, [zO0 h md wy la pc_ a1_3 a2_4 a3_5 a4_6 a5_7 a6_8, zAr T 0 a1_3 7 f1, zAr T 0 a2_4 7 f2, zAr T 0 a3_5 7 f3, zAr T 0 a4_6 n4 f4, zAr T 0 a5_7 n4 f5, zAr T 0 a6_8 n4 f6]] _ _ := G
        refine lv_istore (lv' := [(5, .int r_40), (4, .int (nI i)), (3, .int u3), (2, .int u2), (0, .ref t), (1, .ref h)]) hx hb dX3_ask_45 hl (by decide) (zLvf_h rfl) (fun ls hl => ?_)
        refine lv_iload_n hx hb dX3_ask_47 rfl (lv_at hl 3 rfl) ?_
        refine lv_iconst (v := (-1)) hx hb dX3_ask_48 (by decide) ?_
        refine lv_icmp_eq (tgt := 58) hx hb dX3_ask_49 (by decide) (fun c_41 => ?_) (fun c_41 => ?_)
        · have c_41n : u2.toInt = (-1 : Int) := (fa_eq _ _).mp c_41
          refine lv_iload hx hb dX3_ask_58 (lv_at hl 1 rfl) ?_
          refine lv_istore_n (lv' := [(2, .int (nI i)), (5, .int r_40), (4, .int (nI i)), (3, .int u3), (0, .ref t), (1, .ref h)]) hx hb dX3_ask_60 rfl hl (by decide) (zLvf_h rfl) (fun ls hl => ?_)
          refine lv_iload hx hb dX3_ask_61 (lv_at hl 1 rfl) ?_
          refine lv_istore_n (lv' := [(3, .int r_40), (2, .int (nI i)), (5, .int r_40), (4, .int (nI i)), (0, .ref t), (1, .ref h)]) hx hb dX3_ask_63 rfl hl (by decide) (zLvf_h rfl) (fun ls hl => ?_)
          refine lv_iinc (v := nI (i + 1)) (lv' := [(4, .int (nI (i + 1))), (3, .int r_40), (2, .int (nI i)), (5, .int r_40), (0, .ref t), (1, .ref h)]) hx hb dX3_ask_64 hl (k := 3) rfl (z_inc i 1) (by decide) (zLvf_h rfl) (fun ls hl => ?_)
          refine lv_goto (tgt := 7) hx hb dX3_ask_67 (by decide) ?_
          have G := G.sub (bs' := [w2_37, [zO0 h md wy la pc_ a1_3 a2_4 a3_5 a4_6 a5_7 a6_8, zAr T 0 a1_3 7 f1, zAr T 0 a2_4 7 f2, zAr T 0 a3_5 7 f3, zAr T 0 a4_6 n4 f4, zAr T 0 a5_7 n4 f5, zAr T 0 a6_8 n4 f6], [zO4 la cr inn a1_9 a2_10 a3_11 a4_12, zAr T 0 a1_9 7 k1, zAr T 0 a2_10 28 k2, zAr T 0 a3_11 7 k3, zAr T 0 a4_12 7 k4]]) [1, 2, 0] rfl
          exact ih_7 (i + 1) (nI i) r_40 w2_37 g2_38 (show bFit T t e0 e1 e2 e3 e4 e5 r1 m1 g2_38 w2_37 ∧ (i + 1) ≤ cr.toInt.toNat from ⟨h_39, by omega⟩) (show cr.toInt.toNat - (i + 1) < cr.toInt.toNat - i from by omega) _ _ ls G (lv_sub hl [0, 1, 2, 4, 5] rfl)
        · have c_41n : ¬ u2.toInt = (-1 : Int) := fun q => c_41 ((fa_eq _ _).mpr q)
          refine lv_iload hx hb dX3_ask_52 (lv_at hl 0 rfl) ?_
          refine lv_iload_n hx hb dX3_ask_54 rfl (lv_at hl 2 rfl) ?_
          refine lv_icmp_ge (tgt := 64) hx hb dX3_ask_55 (by decide) (fun c_42 => ?_) (fun c_42 => ?_)
          · have c_42n : u3.toInt ≤ r_40.toInt := (fa_le _ _).mp c_42
            refine lv_iinc (v := nI (i + 1)) (lv' := [(4, .int (nI (i + 1))), (5, .int r_40), (3, .int u3), (2, .int u2), (0, .ref t), (1, .ref h)]) hx hb dX3_ask_64 hl (k := 1) rfl (z_inc i 1) (by decide) (zLvf_h rfl) (fun ls hl => ?_)
            refine lv_goto (tgt := 7) hx hb dX3_ask_67 (by decide) ?_
            have G := G.sub (bs' := [w2_37, [zO0 h md wy la pc_ a1_3 a2_4 a3_5 a4_6 a5_7 a6_8, zAr T 0 a1_3 7 f1, zAr T 0 a2_4 7 f2, zAr T 0 a3_5 7 f3, zAr T 0 a4_6 n4 f4, zAr T 0 a5_7 n4 f5, zAr T 0 a6_8 n4 f6], [zO4 la cr inn a1_9 a2_10 a3_11 a4_12, zAr T 0 a1_9 7 k1, zAr T 0 a2_10 28 k2, zAr T 0 a3_11 7 k3, zAr T 0 a4_12 7 k4]]) [1, 2, 0] rfl
            exact ih_7 (i + 1) u2 u3 w2_37 g2_38 (show bFit T t e0 e1 e2 e3 e4 e5 r1 m1 g2_38 w2_37 ∧ (i + 1) ≤ cr.toInt.toNat from ⟨h_39, by omega⟩) (show cr.toInt.toNat - (i + 1) < cr.toInt.toNat - i from by omega) _ _ ls G (lv_sub hl [0, 2, 3, 4, 5] rfl)
          · have c_42n : ¬ u3.toInt ≤ r_40.toInt := fun q => c_42 ((fa_le _ _).mpr q)
            refine lv_iload hx hb dX3_ask_58 (lv_at hl 1 rfl) ?_
            refine lv_istore_n (lv' := [(2, .int (nI i)), (5, .int r_40), (4, .int (nI i)), (3, .int u3), (0, .ref t), (1, .ref h)]) hx hb dX3_ask_60 rfl hl (by decide) (zLvf_h rfl) (fun ls hl => ?_)
            refine lv_iload hx hb dX3_ask_61 (lv_at hl 1 rfl) ?_
            refine lv_istore_n (lv' := [(3, .int r_40), (2, .int (nI i)), (5, .int r_40), (4, .int (nI i)), (0, .ref t), (1, .ref h)]) hx hb dX3_ask_63 rfl hl (by decide) (zLvf_h rfl) (fun ls hl => ?_)
            refine lv_iinc (v := nI (i + 1)) (lv' := [(4, .int (nI (i + 1))), (3, .int r_40), (2, .int (nI i)), (5, .int r_40), (0, .ref t), (1, .ref h)]) hx hb dX3_ask_64 hl (k := 3) rfl (z_inc i 1) (by decide) (zLvf_h rfl) (fun ls hl => ?_)
            refine lv_goto (tgt := 7) hx hb dX3_ask_67 (by decide) ?_
            have G := G.sub (bs' := [w2_37, [zO0 h md wy la pc_ a1_3 a2_4 a3_5 a4_6 a5_7 a6_8, zAr T 0 a1_3 7 f1, zAr T 0 a2_4 7 f2, zAr T 0 a3_5 7 f3, zAr T 0 a4_6 n4 f4, zAr T 0 a5_7 n4 f5, zAr T 0 a6_8 n4 f6], [zO4 la cr inn a1_9 a2_10 a3_11 a4_12, zAr T 0 a1_9 7 k1, zAr T 0 a2_10 28 k2, zAr T 0 a3_11 7 k3, zAr T 0 a4_12 7 k4]]) [1, 2, 0] rfl
            exact ih_7 (i + 1) (nI i) r_40 w2_37 g2_38 (show bFit T t e0 e1 e2 e3 e4 e5 r1 m1 g2_38 w2_37 ∧ (i + 1) ≤ cr.toInt.toNat from ⟨h_39, by omega⟩) (show cr.toInt.toNat - (i + 1) < cr.toInt.toNat - i from by omega) _ _ ls G (lv_sub hl [0, 1, 2, 4, 5] rfl)
set_option maxHeartbeats 4000000 in
set_option maxRecDepth 100000 in
/-- grow -/
theorem c_Fit_grow (l : Launch) (T : zTy) (t : Nat) (e0 : Int32) (e1 : Int32) (e2 : Int32) (e3 : Int32) (e4 : Int32) (e5 : Int32) (r1 : Nat → Int32) (m1 : Nat) (r2 : Nat → Int32) (wf : va_W) (x : Int32) (hwf : bFit T t e0 e1 e2 e3 e4 e5 r1 m1 r2 wf) (hfw : zFw m1) (hxx : x.toInt ≤ 16384) : zMv l T yX3_grow cX3_grow 3 1 1 (2 * (zFl m1 x - m1)) [.ref t, .int x] [wf] (fun bs => ∃ (w2 : va_W) (g1 : Nat → Int32), bs = [w2] ∧ bFit T t e0 e1 e2 e3 e4 e5 g1 (zFl m1 x) r2 w2) := by
  refine zMv_of (own := RX3) (by decide) rfl (Nat.le_of_ble_eq_true rfl) ?_
  intro p e s m args below meth c A ls C hr hlocks hnm hAe G hl
  refine zHide (fun Qz_ hQz_ => ?_)
  have hx := C.1
  have hb := C.2.1
  have hl : lv_has ls 3 [(0, .ref t), (1, .int x)] := hl
  have hm1 := zFw_le hfw
  refine lv_aload_n hx hb dX3_grow_0 rfl (lv_at hl 0 rfl) ?_
  refine zEx2 hwf ?_
  intro a1_1 a2_2 hbs9
  clear hwf
  subst hbs9
  have G : zS T A s.heap s [[zO3 t e0 e1 e2 e3 e4 e5 a1_1 a2_2], [zAr T 0 a1_1 m1 r1], [zAr T 0 a2_2 7 r2]] _ _ := G.re rfl
  refine z_get C G clX3 0 rfl 6 (by decide) m_fl_RX3_18 rfl dX3_grow_1 ?_
  refine z_alen C G 1 0 rfl (v := nI m1) rfl rfl dX3_grow_4 ?_
  refine lv_iload_n hx hb dX3_grow_5 rfl (lv_at hl 1 rfl) ?_
  refine lv_icmp_lt (tgt := 10) hx hb dX3_grow_6 (by decide) (fun c_3 => ?_) (fun c_3 => ?_)
  · have c_3n : (m1 : Int) < x.toInt := by have q := (fa_lt _ _).mp c_3; rw [nI_toInt (n := m1) (by omega)] at q; exact q
    have hng : ¬ x.toInt ≤ (m1 : Int) := by omega
    have hE : zFl m1 x = zFnN x 11 16 := by unfold zFl; rw [if_neg hng]
    have hR := zFl_room hfw hxx hng
    refine lv_bipush (v := 16) hx hb dX3_grow_10 (by decide) ?_
    refine lv_istore_n (lv' := [(2, .int 16), (0, .ref t), (1, .int x)]) hx hb dX3_grow_12 rfl hl (by decide) (zLvf_h rfl) (fun ls hl => ?_)
    have hw_4 : bFit T t e0 e1 e2 e3 e4 e5 r1 m1 r2 [zO3 t e0 e1 e2 e3 e4 e5 a1_1 a2_2, zAr T 0 a1_1 m1 r1, zAr T 0 a2_2 7 r2] := ⟨a1_1, a2_2, rfl⟩
    have G : zS T A s.heap s [[zO3 t e0 e1 e2 e3 e4 e5 a1_1 a2_2, zAr T 0 a1_1 m1 r1, zAr T 0 a2_2 7 r2]] _ _ := G.re rfl
    refine z_lp2 (T := T) 13 (fun (k : Nat) (L : Nat) => [[zO3 t e0 e1 e2 e3 e4 e5 a1_1 a2_2, zAr T 0 a1_1 m1 r1, zAr T 0 a2_2 7 r2]]) (fun (k : Nat) (L : Nat) => [(2, .int (nI L)), (0, .ref t), (1, .int x)]) (fun (k : Nat) (L : Nat) => k ≤ 10 ∧ L = 16 * 2 ^ k ∧ zFnN x 11 16 = zFnN x (11 - k) L ∧ L ≤ 16384) (fun (k : Nat) (L : Nat) => 11 - k) ?_ 0 16 (show 0 ≤ 10 ∧ 16 = 16 * 2 ^ 0 ∧ zFnN x 11 16 = zFnN x (11 - 0) 16 ∧ 16 ≤ 16384 from ⟨by omega, rfl, rfl, by omega⟩) G (lv_sub hl [0, 1, 2] rfl)
    intro k L hI9 ih_13 H locs ls G hl
    replace hI9 : k ≤ 10 ∧ L = 16 * 2 ^ k ∧ zFnN x 11 16 = zFnN x (11 - k) L ∧ L ≤ 16384 := hI9
    refine zAn4 hI9 ?_
    intro hk hL hG hL2
    clear hI9
    replace G : zS T A s.heap s [[zO3 t e0 e1 e2 e3 e4 e5 a1_1 a2_2, zAr T 0 a1_1 m1 r1, zAr T 0 a2_2 7 r2]] _ _ := G
    replace hl : lv_has ls 3 [(2, .int (nI L)), (0, .ref t), (1, .int x)] := hl
    refine lv_iload_n hx hb dX3_grow_13 rfl (lv_at hl 0 rfl) ?_
    refine lv_iload_n hx hb dX3_grow_14 rfl (lv_at hl 2 rfl) ?_
    refine lv_icmp_ge (tgt := 32) hx hb dX3_grow_15 (by decide) (fun c_5 => ?_) (fun c_5 => ?_)
    · have c_5n : x.toInt ≤ (L : Int) := by have q := (fa_le _ _).mp c_5; rw [nI_toInt (n := L) (by omega)] at q; exact q
      have hF : zFnN x 11 16 = L := by rw [hG, show 11 - k = (10 - k) + 1 by omega, zFnN, if_neg (by omega)]
      have hF2 : zFl m1 x = L := hE.trans hF
      refine lv_aload_n hx hb dX3_grow_32 rfl (lv_at hl 1 rfl) ?_
      refine lv_iload_n hx hb dX3_grow_33 rfl (lv_at hl 0 rfl) ?_
      refine z_newa C G 0 (ty := .int) (N' := L) (a0 := (L, .inl (fun _ => 0))) rfl z_uint m_ar_int rfl (fun _ => rfl) (nI_pos (by omega)) (nI_clamp (by omega)) (by show L * 4 ≤ 536870912; omega) (by show _ ≤ 1; omega) (by show _ ≤ 2 * (zFl m1 x - m1); omega) dX3_grow_34 (fun q_6 H G => ?_)
      have G : zS T A s.heap s [[zO3 t e0 e1 e2 e3 e4 e5 a1_1 a2_2, zAr T 0 a1_1 m1 r1, zAr T 0 a2_2 7 r2], [zAr T 0 q_6 L (fun _ => 0)]] _ _ := G
      have G : zS T A s.heap s [[zO3 t e0 e1 e2 e3 e4 e5 a1_1 a2_2], [zAr T 0 a1_1 m1 r1], [zAr T 0 a2_2 7 r2], [zAr T 0 q_6 L (fun _ => 0)]] _ _ := G.re rfl
      refine z_put C G clX3 0 rfl 6 (by decide) m_fl_RX3_18 rfl rfl rfl (Nat.le_of_ble_eq_true rfl) dX3_grow_36 (fun H locs G => ?_)
      have G : zS T A s.heap s [[zO3 t e0 e1 e2 e3 e4 e5 q_6 a2_2], [zAr T 0 a1_1 m1 r1], [zAr T 0 a2_2 7 r2], [zAr T 0 q_6 L (fun _ => 0)]] _ _ := G
      have G := G.sub (bs' := [[zO3 t e0 e1 e2 e3 e4 e5 q_6 a2_2], [zAr T 0 q_6 L (fun _ => 0)], [zAr T 0 a2_2 7 r2], [zAr T 0 a1_1 m1 r1]]) [0, 3, 2, 1] rfl
      have hw_7 : bFit T t e0 e1 e2 e3 e4 e5 (fun _ => 0) L r2 [zO3 t e0 e1 e2 e3 e4 e5 q_6 a2_2, zAr T 0 q_6 L (fun _ => 0), zAr T 0 a2_2 7 r2] := ⟨q_6, a2_2, rfl⟩
      have G : zS T A s.heap s [[zO3 t e0 e1 e2 e3 e4 e5 q_6 a2_2, zAr T 0 q_6 L (fun _ => 0), zAr T 0 a2_2 7 r2], [zAr T 0 a1_1 m1 r1]] _ _ := G.re rfl
      have G := G.sub (bs' := [[zO3 t e0 e1 e2 e3 e4 e5 q_6 a2_2, zAr T 0 q_6 L (fun _ => 0), zAr T 0 a2_2 7 r2]]) [0] rfl
      exact z_back hQz_ (z_vret C hr hlocks G (Nat.le_of_ble_eq_true rfl) (by omega) dX3_grow_39 ⟨([zO3 t e0 e1 e2 e3 e4 e5 q_6 a2_2, zAr T 0 q_6 L (fun _ => 0), zAr T 0 a2_2 7 r2]), (fun _ => 0), rfl, (hF2.symm ▸ hw_7)⟩)
    · have c_5n : ¬ x.toInt ≤ (L : Int) := fun q => c_5 ((fa_le _ _).mpr (by rw [nI_toInt (n := L) (by omega)]; exact q))
      refine lv_iload_n hx hb dX3_grow_18 rfl (lv_at hl 0 rfl) ?_
      refine lv_sipush (v := 16383) hx hb dX3_grow_19 (by decide) ?_
      refine lv_icmp_gt (tgt := 32) hx hb dX3_grow_22 (by decide) (fun c_8 => ?_) (fun c_8 => ?_)
      · have c_8n : 16383 < L := (nI_ltI (a := 16383) (b := L) (by omega) (by omega)).mp c_8
        have hF : zFnN x 11 16 = L := by rw [hG, show 11 - k = (10 - k) + 1 by omega, zFnN, if_neg (by omega)]
        have hF2 : zFl m1 x = L := hE.trans hF
        refine lv_aload_n hx hb dX3_grow_32 rfl (lv_at hl 1 rfl) ?_
        refine lv_iload_n hx hb dX3_grow_33 rfl (lv_at hl 0 rfl) ?_
        refine z_newa C G 0 (ty := .int) (N' := L) (a0 := (L, .inl (fun _ => 0))) rfl z_uint m_ar_int rfl (fun _ => rfl) (nI_pos (by omega)) (nI_clamp (by omega)) (by show L * 4 ≤ 536870912; omega) (by show _ ≤ 1; omega) (by show _ ≤ 2 * (zFl m1 x - m1); omega) dX3_grow_34 (fun q_9 H G => ?_)
        have G : zS T A s.heap s [[zO3 t e0 e1 e2 e3 e4 e5 a1_1 a2_2, zAr T 0 a1_1 m1 r1, zAr T 0 a2_2 7 r2], [zAr T 0 q_9 L (fun _ => 0)]] _ _ := G
        have G : zS T A s.heap s [[zO3 t e0 e1 e2 e3 e4 e5 a1_1 a2_2], [zAr T 0 a1_1 m1 r1], [zAr T 0 a2_2 7 r2], [zAr T 0 q_9 L (fun _ => 0)]] _ _ := G.re rfl
        refine z_put C G clX3 0 rfl 6 (by decide) m_fl_RX3_18 rfl rfl rfl (Nat.le_of_ble_eq_true rfl) dX3_grow_36 (fun H locs G => ?_)
        have G : zS T A s.heap s [[zO3 t e0 e1 e2 e3 e4 e5 q_9 a2_2], [zAr T 0 a1_1 m1 r1], [zAr T 0 a2_2 7 r2], [zAr T 0 q_9 L (fun _ => 0)]] _ _ := G
        have G := G.sub (bs' := [[zO3 t e0 e1 e2 e3 e4 e5 q_9 a2_2], [zAr T 0 q_9 L (fun _ => 0)], [zAr T 0 a2_2 7 r2], [zAr T 0 a1_1 m1 r1]]) [0, 3, 2, 1] rfl
        have hw_10 : bFit T t e0 e1 e2 e3 e4 e5 (fun _ => 0) L r2 [zO3 t e0 e1 e2 e3 e4 e5 q_9 a2_2, zAr T 0 q_9 L (fun _ => 0), zAr T 0 a2_2 7 r2] := ⟨q_9, a2_2, rfl⟩
        have G : zS T A s.heap s [[zO3 t e0 e1 e2 e3 e4 e5 q_9 a2_2, zAr T 0 q_9 L (fun _ => 0), zAr T 0 a2_2 7 r2], [zAr T 0 a1_1 m1 r1]] _ _ := G.re rfl
        have G := G.sub (bs' := [[zO3 t e0 e1 e2 e3 e4 e5 q_9 a2_2, zAr T 0 q_9 L (fun _ => 0), zAr T 0 a2_2 7 r2]]) [0] rfl
        exact z_back hQz_ (z_vret C hr hlocks G (Nat.le_of_ble_eq_true rfl) (by omega) dX3_grow_39 ⟨([zO3 t e0 e1 e2 e3 e4 e5 q_9 a2_2, zAr T 0 q_9 L (fun _ => 0), zAr T 0 a2_2 7 r2]), (fun _ => 0), rfl, (hF2.symm ▸ hw_10)⟩)
      · have c_8n : ¬ 16383 < L := fun q => c_8 ((nI_ltI (a := 16383) (b := L) (by omega) (by omega)).mpr q)
        refine lv_iload_n hx hb dX3_grow_25 rfl (lv_at hl 0 rfl) ?_
        refine lv_iconst (v := 2) hx hb dX3_grow_26 (by decide) ?_
        refine lv_imul hx hb dX3_grow_27 ?_
        refine lv_topi (fun y_11 ey_11 => ?_)
        obtain rfl : y_11 = nI (L * 2) := ey_11.trans (z_imuln L 2 rfl rfl)
        refine lv_istore_n (lv' := [(2, .int (nI (L * 2))), (0, .ref t), (1, .int x)]) hx hb dX3_grow_28 rfl hl (by decide) (zLvf_h rfl) (fun ls hl => ?_)
        refine lv_goto (tgt := 13) hx hb dX3_grow_29 (by decide) ?_
        exact ih_13 (k + 1) (L * 2) (show (k + 1) ≤ 10 ∧ (L * 2) = 16 * 2 ^ (k + 1) ∧ zFnN x 11 16 = zFnN x (11 - (k + 1)) (L * 2) ∧ (L * 2) ≤ 16384 from ⟨z_k10 hk hL (by omega), by rw [hL, Nat.pow_succ]; omega, by rw [hG, show 11 - k = (11 - (k + 1)) + 1 by omega, zFnN, if_pos ⟨by omega, by omega⟩, Nat.mul_comm], z_k10b hk hL (by omega)⟩) (show 11 - (k + 1) < 11 - k from by omega) _ _ ls G (lv_sub hl [0, 1, 2] rfl)
  · have c_3n : ¬ (m1 : Int) < x.toInt := fun q => c_3 ((fa_lt _ _).mpr (by rw [nI_toInt (n := m1) (by omega)]; exact q))
    have hw_12 : bFit T t e0 e1 e2 e3 e4 e5 r1 m1 r2 [zO3 t e0 e1 e2 e3 e4 e5 a1_1 a2_2, zAr T 0 a1_1 m1 r1, zAr T 0 a2_2 7 r2] := ⟨a1_1, a2_2, rfl⟩
    have G : zS T A s.heap s [[zO3 t e0 e1 e2 e3 e4 e5 a1_1 a2_2, zAr T 0 a1_1 m1 r1, zAr T 0 a2_2 7 r2]] _ _ := G.re rfl
    exact z_back hQz_ (z_vret C hr hlocks G (Nat.le_of_ble_eq_true rfl) (by omega) dX3_grow_9 ⟨([zO3 t e0 e1 e2 e3 e4 e5 a1_1 a2_2, zAr T 0 a1_1 m1 r1, zAr T 0 a2_2 7 r2]), r1, rfl, ((show m1 = zFl m1 x from by unfold zFl; rw [if_pos (by omega)]) ▸ hw_12)⟩)
set_option maxHeartbeats 4000000 in
set_option maxRecDepth 100000 in
/-- c_tryWay -/
theorem c_tryWay (l : Launch) (T : zTy) (t : Nat) (e0 : Int32) (e1 : Int32) (e2 : Int32) (e3 : Int32) (e4 : Int32) (e5 : Int32) (r1 : Nat → Int32) (m1 : Nat) (r2 : Nat → Int32) (wf : va_W) (h : Nat) (la : Nat) (md : Int32) (wy : Int32) (pc_ : Int32) (f1 : Nat → Int32) (f2 : Nat → Int32) (f3 : Nat → Int32) (f4 : Nat → Int32) (f5 : Nat → Int32) (f6 : Nat → Int32) (n4 : Nat) (ww : va_W) (cr : Int32) (inn : Int32) (k1 : Nat → Int32) (k2 : Nat → Int32) (k3 : Nat → Int32) (k4 : Nat → Int32) (z : va_W) (lg : Nat) (gg : Int32) (d1 : Nat → Int32) (d2 : Nat → Int32) (wg : va_W) (x : Int32) (hwf : bFit T t e0 e1 e2 e3 e4 e5 r1 m1 r2 wf) (hww : bWays T h la md wy pc_ f1 f2 f3 f4 f5 f6 n4 ww) (hz : bLand T la cr inn k1 k2 k3 k4 z) (hg : bLog T lg gg d1 d2 wg) (hn : n4 ≤ 131072) (hm : m1 ≤ 16384) (h3 : 0 ≤ e3.toInt) : zMv l T yX3_tryWay cX3_tryWay 8 4 0 0 [.ref t, .ref h, .ref lg, .int x] [wf, ww, z, wg] (fun bs => ∃ (w2 : va_W) (s3 : Int32) (s4 : Int32) (s5 : Int32) (g1 : Nat → Int32), bs = [w2, ww, z, wg] ∧ bFit T t e0 e1 e2 s3 s4 s5 g1 m1 r2 w2 ∧ 0 ≤ s3.toInt) := by
  refine zMv_of (own := RX3) (by decide) rfl (Nat.le_of_ble_eq_true rfl) ?_
  intro p e s m args below meth c A ls C hr hlocks hnm hAe G hl
  refine zHide (fun Qz_ hQz_ => ?_)
  have hx := C.1
  have hb := C.2.1
  have hl : lv_has ls 8 [(0, .ref t), (1, .ref h), (2, .ref lg), (3, .int x)] := hl
  refine lv_iload_n hx hb dX3_tryWay_0 rfl (lv_at hl 3 rfl) ?_
  refine lv_istore (lv' := [(4, .int x), (0, .ref t), (1, .ref h), (2, .ref lg), (3, .int x)]) hx hb dX3_tryWay_1 hl (by decide) (zLvf_h rfl) (fun ls hl => ?_)
  refine lv_iconst (v := 0) hx hb dX3_tryWay_3 (by decide) ?_
  refine lv_istore (lv' := [(5, .int 0), (4, .int x), (0, .ref t), (1, .ref h), (2, .ref lg), (3, .int x)]) hx hb dX3_tryWay_4 hl (by decide) (zLvf_h rfl) (fun ls hl => ?_)
  refine lv_iconst (v := 0) hx hb dX3_tryWay_6 (by decide) ?_
  refine lv_istore (lv' := [(6, .int 0), (5, .int 0), (4, .int x), (0, .ref t), (1, .ref h), (2, .ref lg), (3, .int x)]) hx hb dX3_tryWay_7 hl (by decide) (zLvf_h rfl) (fun ls hl => ?_)
  refine zEx2 hwf ?_
  intro a1_1 a2_2 hbs9
  clear hwf
  subst hbs9
  have G : zS T A s.heap s [[zO3 t e0 e1 e2 e3 e4 e5 a1_1 a2_2], [zAr T 0 a1_1 m1 r1], [zAr T 0 a2_2 7 r2], ww, z, wg] _ _ := G.re rfl
  refine zEx6 hww ?_
  intro a1_3 a2_4 a3_5 a4_6 a5_7 a6_8 hbs9
  clear hww
  subst hbs9
  have G : zS T A s.heap s [[zO3 t e0 e1 e2 e3 e4 e5 a1_1 a2_2], [zAr T 0 a1_1 m1 r1], [zAr T 0 a2_2 7 r2], [zO0 h md wy la pc_ a1_3 a2_4 a3_5 a4_6 a5_7 a6_8], [zAr T 0 a1_3 7 f1], [zAr T 0 a2_4 7 f2], [zAr T 0 a3_5 7 f3], [zAr T 0 a4_6 n4 f4], [zAr T 0 a5_7 n4 f5], [zAr T 0 a6_8 n4 f6], z, wg] _ _ := G.re rfl
  refine zEx4 hz ?_
  intro a1_9 a2_10 a3_11 a4_12 hbs9
  clear hz
  subst hbs9
  have G : zS T A s.heap s [[zO3 t e0 e1 e2 e3 e4 e5 a1_1 a2_2], [zAr T 0 a1_1 m1 r1], [zAr T 0 a2_2 7 r2], [zO0 h md wy la pc_ a1_3 a2_4 a3_5 a4_6 a5_7 a6_8], [zAr T 0 a1_3 7 f1], [zAr T 0 a2_4 7 f2], [zAr T 0 a3_5 7 f3], [zAr T 0 a4_6 n4 f4], [zAr T 0 a5_7 n4 f5], [zAr T 0 a6_8 n4 f6], [zO4 la cr inn a1_9 a2_10 a3_11 a4_12], [zAr T 0 a1_9 7 k1], [zAr T 0 a2_10 28 k2], [zAr T 0 a3_11 7 k3], [zAr T 0 a4_12 7 k4], wg] _ _ := G.re rfl
  refine zEx2 hg ?_
  intro a1_13 a2_14 hbs9
  clear hg
  subst hbs9
  have G : zS T A s.heap s [[zO3 t e0 e1 e2 e3 e4 e5 a1_1 a2_2], [zAr T 0 a1_1 m1 r1], [zAr T 0 a2_2 7 r2], [zO0 h md wy la pc_ a1_3 a2_4 a3_5 a4_6 a5_7 a6_8], [zAr T 0 a1_3 7 f1], [zAr T 0 a2_4 7 f2], [zAr T 0 a3_5 7 f3], [zAr T 0 a4_6 n4 f4], [zAr T 0 a5_7 n4 f5], [zAr T 0 a6_8 n4 f6], [zO4 la cr inn a1_9 a2_10 a3_11 a4_12], [zAr T 0 a1_9 7 k1], [zAr T 0 a2_10 28 k2], [zAr T 0 a3_11 7 k3], [zAr T 0 a4_12 7 k4], [(lg, .inr (5, [.int gg, .ref a1_13, .ref a2_14]))], [zAr T 0 a1_13 8 d1], [zAr T 0 a2_14 8 d2]] _ _ := G.re rfl
  have hw_15 : bFit T t e0 e1 e2 e3 e4 e5 r1 m1 r2 [zO3 t e0 e1 e2 e3 e4 e5 a1_1 a2_2, zAr T 0 a1_1 m1 r1, zAr T 0 a2_2 7 r2] := ⟨a1_1, a2_2, rfl⟩
  have G : zS T A s.heap s [[zO3 t e0 e1 e2 e3 e4 e5 a1_1 a2_2, zAr T 0 a1_1 m1 r1, zAr T 0 a2_2 7 r2], [zO0 h md wy la pc_ a1_3 a2_4 a3_5 a4_6 a5_7 a6_8], [zAr T 0 a1_3 7 f1], [zAr T 0 a2_4 7 f2], [zAr T 0 a3_5 7 f3], [zAr T 0 a4_6 n4 f4], [zAr T 0 a5_7 n4 f5], [zAr T 0 a6_8 n4 f6], [zO4 la cr inn a1_9 a2_10 a3_11 a4_12], [zAr T 0 a1_9 7 k1], [zAr T 0 a2_10 28 k2], [zAr T 0 a3_11 7 k3], [zAr T 0 a4_12 7 k4], [(lg, .inr (5, [.int gg, .ref a1_13, .ref a2_14]))], [zAr T 0 a1_13 8 d1], [zAr T 0 a2_14 8 d2]] _ _ := G.re rfl
  have hw_16 : bWays T h la md wy pc_ f1 f2 f3 f4 f5 f6 n4 [zO0 h md wy la pc_ a1_3 a2_4 a3_5 a4_6 a5_7 a6_8, zAr T 0 a1_3 7 f1, zAr T 0 a2_4 7 f2, zAr T 0 a3_5 7 f3, zAr T 0 a4_6 n4 f4, zAr T 0 a5_7 n4 f5, zAr T 0 a6_8 n4 f6] := ⟨a1_3, a2_4, a3_5, a4_6, a5_7, a6_8, rfl⟩
  have G : zS T A s.heap s [[zO3 t e0 e1 e2 e3 e4 e5 a1_1 a2_2, zAr T 0 a1_1 m1 r1, zAr T 0 a2_2 7 r2], [zO0 h md wy la pc_ a1_3 a2_4 a3_5 a4_6 a5_7 a6_8, zAr T 0 a1_3 7 f1, zAr T 0 a2_4 7 f2, zAr T 0 a3_5 7 f3, zAr T 0 a4_6 n4 f4, zAr T 0 a5_7 n4 f5, zAr T 0 a6_8 n4 f6], [zO4 la cr inn a1_9 a2_10 a3_11 a4_12], [zAr T 0 a1_9 7 k1], [zAr T 0 a2_10 28 k2], [zAr T 0 a3_11 7 k3], [zAr T 0 a4_12 7 k4], [(lg, .inr (5, [.int gg, .ref a1_13, .ref a2_14]))], [zAr T 0 a1_13 8 d1], [zAr T 0 a2_14 8 d2]] _ _ := G.re rfl
  have hw_17 : bLand T la cr inn k1 k2 k3 k4 [zO4 la cr inn a1_9 a2_10 a3_11 a4_12, zAr T 0 a1_9 7 k1, zAr T 0 a2_10 28 k2, zAr T 0 a3_11 7 k3, zAr T 0 a4_12 7 k4] := ⟨a1_9, a2_10, a3_11, a4_12, rfl⟩
  have G : zS T A s.heap s [[zO3 t e0 e1 e2 e3 e4 e5 a1_1 a2_2, zAr T 0 a1_1 m1 r1, zAr T 0 a2_2 7 r2], [zO0 h md wy la pc_ a1_3 a2_4 a3_5 a4_6 a5_7 a6_8, zAr T 0 a1_3 7 f1, zAr T 0 a2_4 7 f2, zAr T 0 a3_5 7 f3, zAr T 0 a4_6 n4 f4, zAr T 0 a5_7 n4 f5, zAr T 0 a6_8 n4 f6], [zO4 la cr inn a1_9 a2_10 a3_11 a4_12, zAr T 0 a1_9 7 k1, zAr T 0 a2_10 28 k2, zAr T 0 a3_11 7 k3, zAr T 0 a4_12 7 k4], [(lg, .inr (5, [.int gg, .ref a1_13, .ref a2_14]))], [zAr T 0 a1_13 8 d1], [zAr T 0 a2_14 8 d2]] _ _ := G.re rfl
  have hw_18 : bLog T lg gg d1 d2 [(lg, .inr (5, [.int gg, .ref a1_13, .ref a2_14])), zAr T 0 a1_13 8 d1, zAr T 0 a2_14 8 d2] := ⟨a1_13, a2_14, rfl⟩
  have G : zS T A s.heap s [[zO3 t e0 e1 e2 e3 e4 e5 a1_1 a2_2, zAr T 0 a1_1 m1 r1, zAr T 0 a2_2 7 r2], [zO0 h md wy la pc_ a1_3 a2_4 a3_5 a4_6 a5_7 a6_8, zAr T 0 a1_3 7 f1, zAr T 0 a2_4 7 f2, zAr T 0 a3_5 7 f3, zAr T 0 a4_6 n4 f4, zAr T 0 a5_7 n4 f5, zAr T 0 a6_8 n4 f6], [zO4 la cr inn a1_9 a2_10 a3_11 a4_12, zAr T 0 a1_9 7 k1, zAr T 0 a2_10 28 k2, zAr T 0 a3_11 7 k3, zAr T 0 a4_12 7 k4], [(lg, .inr (5, [.int gg, .ref a1_13, .ref a2_14])), zAr T 0 a1_13 8 d1, zAr T 0 a2_14 8 d2]] _ _ := G.re rfl
  refine z_lp3 (T := T) 9 (fun (i : Nat) (u4 : Int32) (u5 : Int32) => [[zO3 t e0 e1 e2 e3 e4 e5 a1_1 a2_2, zAr T 0 a1_1 m1 r1, zAr T 0 a2_2 7 r2], [zO0 h md wy la pc_ a1_3 a2_4 a3_5 a4_6 a5_7 a6_8, zAr T 0 a1_3 7 f1, zAr T 0 a2_4 7 f2, zAr T 0 a3_5 7 f3, zAr T 0 a4_6 n4 f4, zAr T 0 a5_7 n4 f5, zAr T 0 a6_8 n4 f6], [zO4 la cr inn a1_9 a2_10 a3_11 a4_12, zAr T 0 a1_9 7 k1, zAr T 0 a2_10 28 k2, zAr T 0 a3_11 7 k3, zAr T 0 a4_12 7 k4], [(lg, .inr (5, [.int gg, .ref a1_13, .ref a2_14])), zAr T 0 a1_13 8 d1, zAr T 0 a2_14 8 d2]]) (fun (i : Nat) (u4 : Int32) (u5 : Int32) => [(6, .int (nI i)), (5, .int u5), (4, .int u4), (0, .ref t), (1, .ref h), (2, .ref lg), (3, .int x)]) (fun (i : Nat) (u4 : Int32) (u5 : Int32) => i ≤ 8) (fun (i : Nat) (u4 : Int32) (u5 : Int32) => 8 - i) ?_ 0 x 0 (show 0 ≤ 8 from by omega) G (lv_sub hl [0, 1, 2, 3, 4, 5, 6] rfl)
  intro i u4 u5 hi ih_9 H locs ls G hl
  replace hi : i ≤ 8 := hi
  replace G : zS T A s.heap s [[zO3 t e0 e1 e2 e3 e4 e5 a1_1 a2_2, zAr T 0 a1_1 m1 r1, zAr T 0 a2_2 7 r2], [zO0 h md wy la pc_ a1_3 a2_4 a3_5 a4_6 a5_7 a6_8, zAr T 0 a1_3 7 f1, zAr T 0 a2_4 7 f2, zAr T 0 a3_5 7 f3, zAr T 0 a4_6 n4 f4, zAr T 0 a5_7 n4 f5, zAr T 0 a6_8 n4 f6], [zO4 la cr inn a1_9 a2_10 a3_11 a4_12, zAr T 0 a1_9 7 k1, zAr T 0 a2_10 28 k2, zAr T 0 a3_11 7 k3, zAr T 0 a4_12 7 k4], [(lg, .inr (5, [.int gg, .ref a1_13, .ref a2_14])), zAr T 0 a1_13 8 d1, zAr T 0 a2_14 8 d2]] _ _ := G
  replace hl : lv_has ls 8 [(6, .int (nI i)), (5, .int u5), (4, .int u4), (0, .ref t), (1, .ref h), (2, .ref lg), (3, .int x)] := hl
  refine lv_iload hx hb dX3_tryWay_9 (lv_at hl 0 rfl) ?_
  refine lv_aload_n hx hb dX3_tryWay_11 rfl (lv_at hl 5 rfl) ?_
  have G : zS T A s.heap s [[zO3 t e0 e1 e2 e3 e4 e5 a1_1 a2_2, zAr T 0 a1_1 m1 r1, zAr T 0 a2_2 7 r2], [zO0 h md wy la pc_ a1_3 a2_4 a3_5 a4_6 a5_7 a6_8, zAr T 0 a1_3 7 f1, zAr T 0 a2_4 7 f2, zAr T 0 a3_5 7 f3, zAr T 0 a4_6 n4 f4, zAr T 0 a5_7 n4 f5, zAr T 0 a6_8 n4 f6], [zO4 la cr inn a1_9 a2_10 a3_11 a4_12, zAr T 0 a1_9 7 k1, zAr T 0 a2_10 28 k2, zAr T 0 a3_11 7 k3, zAr T 0 a4_12 7 k4], [(lg, .inr (5, [.int gg, .ref a1_13, .ref a2_14]))], [zAr T 0 a1_13 8 d1], [zAr T 0 a2_14 8 d2]] _ _ := G.re rfl
  refine z_get C G clX5 3 rfl 0 (by decide) m_fl_RX3_47 rfl dX3_tryWay_12 ?_
  refine lv_icmp_ge (tgt := 94) hx hb dX3_tryWay_15 (by decide) (fun c_19 => ?_) (fun c_19 => ?_)
  · have c_19n : gg.toInt ≤ (i : Int) := by have q := (fa_le _ _).mp c_19; rw [nI_toInt (n := i) (by omega)] at q; exact q
    refine lv_aload_n hx hb dX3_tryWay_94 rfl (lv_at hl 3 rfl) ?_
    have G : zS T A s.heap s [[zO3 t e0 e1 e2 e3 e4 e5 a1_1 a2_2], [zAr T 0 a1_1 m1 r1], [zAr T 0 a2_2 7 r2], [zO0 h md wy la pc_ a1_3 a2_4 a3_5 a4_6 a5_7 a6_8, zAr T 0 a1_3 7 f1, zAr T 0 a2_4 7 f2, zAr T 0 a3_5 7 f3, zAr T 0 a4_6 n4 f4, zAr T 0 a5_7 n4 f5, zAr T 0 a6_8 n4 f6], [zO4 la cr inn a1_9 a2_10 a3_11 a4_12, zAr T 0 a1_9 7 k1, zAr T 0 a2_10 28 k2, zAr T 0 a3_11 7 k3, zAr T 0 a4_12 7 k4], [(lg, .inr (5, [.int gg, .ref a1_13, .ref a2_14]))], [zAr T 0 a1_13 8 d1], [zAr T 0 a2_14 8 d2]] _ _ := G.re rfl
    refine z_get C G clX3 0 rfl 3 (by decide) m_fl_RX3_34 rfl dX3_tryWay_95 ?_
    refine lv_aload_n hx hb dX3_tryWay_98 rfl (lv_at hl 3 rfl) ?_
    refine z_get C G clX3 0 rfl 6 (by decide) m_fl_RX3_18 rfl dX3_tryWay_99 ?_
    refine z_alen C G 1 0 rfl (v := nI m1) rfl rfl dX3_tryWay_102 ?_
    refine lv_icmp_ge (tgt := 170) hx hb dX3_tryWay_103 (by decide) (fun c_20 => ?_) (fun c_20 => ?_)
    · have c_20n : (m1 : Int) ≤ e3.toInt := by have q := (fa_le _ _).mp c_20; rw [nI_toInt (n := m1) (by omega)] at q; exact q
      have hw_21 : bFit T t e0 e1 e2 e3 e4 e5 r1 m1 r2 [zO3 t e0 e1 e2 e3 e4 e5 a1_1 a2_2, zAr T 0 a1_1 m1 r1, zAr T 0 a2_2 7 r2] := ⟨a1_1, a2_2, rfl⟩
      have G : zS T A s.heap s [[zO3 t e0 e1 e2 e3 e4 e5 a1_1 a2_2, zAr T 0 a1_1 m1 r1, zAr T 0 a2_2 7 r2], [zO0 h md wy la pc_ a1_3 a2_4 a3_5 a4_6 a5_7 a6_8, zAr T 0 a1_3 7 f1, zAr T 0 a2_4 7 f2, zAr T 0 a3_5 7 f3, zAr T 0 a4_6 n4 f4, zAr T 0 a5_7 n4 f5, zAr T 0 a6_8 n4 f6], [zO4 la cr inn a1_9 a2_10 a3_11 a4_12, zAr T 0 a1_9 7 k1, zAr T 0 a2_10 28 k2, zAr T 0 a3_11 7 k3, zAr T 0 a4_12 7 k4], [(lg, .inr (5, [.int gg, .ref a1_13, .ref a2_14]))], [zAr T 0 a1_13 8 d1], [zAr T 0 a2_14 8 d2]] _ _ := G.re rfl
      have hw_22 : bLog T lg gg d1 d2 [(lg, .inr (5, [.int gg, .ref a1_13, .ref a2_14])), zAr T 0 a1_13 8 d1, zAr T 0 a2_14 8 d2] := ⟨a1_13, a2_14, rfl⟩
      have G : zS T A s.heap s [[zO3 t e0 e1 e2 e3 e4 e5 a1_1 a2_2, zAr T 0 a1_1 m1 r1, zAr T 0 a2_2 7 r2], [zO0 h md wy la pc_ a1_3 a2_4 a3_5 a4_6 a5_7 a6_8, zAr T 0 a1_3 7 f1, zAr T 0 a2_4 7 f2, zAr T 0 a3_5 7 f3, zAr T 0 a4_6 n4 f4, zAr T 0 a5_7 n4 f5, zAr T 0 a6_8 n4 f6], [zO4 la cr inn a1_9 a2_10 a3_11 a4_12, zAr T 0 a1_9 7 k1, zAr T 0 a2_10 28 k2, zAr T 0 a3_11 7 k3, zAr T 0 a4_12 7 k4], [(lg, .inr (5, [.int gg, .ref a1_13, .ref a2_14])), zAr T 0 a1_13 8 d1, zAr T 0 a2_14 8 d2]] _ _ := G.re rfl
      exact z_back hQz_ (z_vret C hr hlocks G (Nat.le_of_ble_eq_true rfl) (Nat.le_of_ble_eq_true rfl) dX3_tryWay_170 ⟨([zO3 t e0 e1 e2 e3 e4 e5 a1_1 a2_2, zAr T 0 a1_1 m1 r1, zAr T 0 a2_2 7 r2]), e3, e4, e5, r1, rfl, hw_21, h3⟩)
    · have c_20n : ¬ (m1 : Int) ≤ e3.toInt := fun q => c_20 ((fa_le _ _).mpr (by rw [nI_toInt (n := m1) (by omega)]; exact q))
      refine lv_aload_n hx hb dX3_tryWay_106 rfl (lv_at hl 3 rfl) ?_
      refine lv_aload_n hx hb dX3_tryWay_107 rfl (lv_at hl 3 rfl) ?_
      refine z_get C G clX3 0 rfl 3 (by decide) m_fl_RX3_34 rfl dX3_tryWay_108 ?_
      refine lv_if_ne (tgt := 119) hx hb dX3_tryWay_111 (by decide) (fun c_23 => ?_) (fun c_23 => ?_)
      · have c_23n : ¬ e3.toInt = (0 : Int) := fun q => c_23 ((fa_eq _ _).mpr q)
        refine lv_aload_n hx hb dX3_tryWay_119 rfl (lv_at hl 3 rfl) ?_
        refine z_get C G clX3 0 rfl 4 (by decide) m_fl_RX3_37 rfl dX3_tryWay_120 ?_
        refine lv_iload hx hb dX3_tryWay_123 (lv_at hl 1 rfl) ?_
        refine va_mmin hx hb (C.2.2.1.trans hl.1.symm) C.2.2.2.1 (C.2.2.2.2 _ m_ml_RX3_78) (C.2.2.2.2 _ m_st_math_min) (C.2.2.2.2 _ m_ii_math) (C.2.2.2.2 _ m_co_math_min) (Nat.le_of_ble_eq_true rfl) (Nat.le_of_ble_eq_true rfl) (Nat.le_of_ble_eq_true rfl) (Nat.le_of_ble_eq_true rfl) dX3_tryWay_125 ?_
        refine lv_topi (fun v_24 ev_24 => ?_)
        subst ev_24
        refine z_put C G clX3 0 rfl 4 (by decide) m_fl_RX3_37 rfl rfl rfl (Nat.le_of_ble_eq_true rfl) dX3_tryWay_128 (fun H locs G => ?_)
        have G : zS T A s.heap s [[zO3 t e0 e1 e2 e3 (if u5 < e4 then u5 else e4) e5 a1_1 a2_2], [zAr T 0 a1_1 m1 r1], [zAr T 0 a2_2 7 r2], [zO0 h md wy la pc_ a1_3 a2_4 a3_5 a4_6 a5_7 a6_8, zAr T 0 a1_3 7 f1, zAr T 0 a2_4 7 f2, zAr T 0 a3_5 7 f3, zAr T 0 a4_6 n4 f4, zAr T 0 a5_7 n4 f5, zAr T 0 a6_8 n4 f6], [zO4 la cr inn a1_9 a2_10 a3_11 a4_12, zAr T 0 a1_9 7 k1, zAr T 0 a2_10 28 k2, zAr T 0 a3_11 7 k3, zAr T 0 a4_12 7 k4], [(lg, .inr (5, [.int gg, .ref a1_13, .ref a2_14]))], [zAr T 0 a1_13 8 d1], [zAr T 0 a2_14 8 d2]] _ _ := G
        refine lv_aload_n hx hb dX3_tryWay_131 rfl (lv_at hl 3 rfl) ?_
        refine lv_aload_n hx hb dX3_tryWay_132 rfl (lv_at hl 3 rfl) ?_
        refine z_get C G clX3 0 rfl 5 (by decide) m_fl_RX3_40 rfl dX3_tryWay_133 ?_
        refine lv_iload hx hb dX3_tryWay_136 (lv_at hl 1 rfl) ?_
        refine va_mmax hx hb (C.2.2.1.trans hl.1.symm) C.2.2.2.1 (C.2.2.2.2 _ m_ml_RX3_83) (C.2.2.2.2 _ m_st_math_max) (C.2.2.2.2 _ m_ii_math) (C.2.2.2.2 _ m_co_math_max) (Nat.le_of_ble_eq_true rfl) (Nat.le_of_ble_eq_true rfl) (Nat.le_of_ble_eq_true rfl) (Nat.le_of_ble_eq_true rfl) dX3_tryWay_138 ?_
        refine lv_topi (fun v_25 ev_25 => ?_)
        subst ev_25
        refine z_put C G clX3 0 rfl 5 (by decide) m_fl_RX3_40 rfl rfl rfl (Nat.le_of_ble_eq_true rfl) dX3_tryWay_141 (fun H locs G => ?_)
        have G : zS T A s.heap s [[zO3 t e0 e1 e2 e3 (if u5 < e4 then u5 else e4) (if e5 < u5 then u5 else e5) a1_1 a2_2], [zAr T 0 a1_1 m1 r1], [zAr T 0 a2_2 7 r2], [zO0 h md wy la pc_ a1_3 a2_4 a3_5 a4_6 a5_7 a6_8, zAr T 0 a1_3 7 f1, zAr T 0 a2_4 7 f2, zAr T 0 a3_5 7 f3, zAr T 0 a4_6 n4 f4, zAr T 0 a5_7 n4 f5, zAr T 0 a6_8 n4 f6], [zO4 la cr inn a1_9 a2_10 a3_11 a4_12, zAr T 0 a1_9 7 k1, zAr T 0 a2_10 28 k2, zAr T 0 a3_11 7 k3, zAr T 0 a4_12 7 k4], [(lg, .inr (5, [.int gg, .ref a1_13, .ref a2_14]))], [zAr T 0 a1_13 8 d1], [zAr T 0 a2_14 8 d2]] _ _ := G
        refine lv_aload_n hx hb dX3_tryWay_144 rfl (lv_at hl 3 rfl) ?_
        refine z_get C G clX3 0 rfl 6 (by decide) m_fl_RX3_18 rfl dX3_tryWay_145 ?_
        refine lv_aload_n hx hb dX3_tryWay_148 rfl (lv_at hl 3 rfl) ?_
        refine z_get C G clX3 0 rfl 3 (by decide) m_fl_RX3_34 rfl dX3_tryWay_149 ?_
        refine lv_iload hx hb dX3_tryWay_152 (lv_at hl 2 rfl) ?_
        refine lv_bipush (v := 14) hx hb dX3_tryWay_154 (by decide) ?_
        refine lv_ishl hx hb dX3_tryWay_156 ?_
        refine lv_iload_n hx hb dX3_tryWay_157 rfl (lv_at hl 6 rfl) ?_
        refine lv_iadd hx hb dX3_tryWay_158 ?_
        refine z_ist C G 1 rfl (vp_in_iff.mpr ⟨by omega, by omega⟩) dX3_tryWay_159 (fun H locs G => ?_)
        have G : zS T A s.heap s [[zO3 t e0 e1 e2 e3 (if u5 < e4 then u5 else e4) (if e5 < u5 then u5 else e5) a1_1 a2_2], [zAr T 0 a1_1 m1 (upd r1 e3.toNatClampNeg ((u4 <<< (14 &&& 31)) + x))], [zAr T 0 a2_2 7 r2], [zO0 h md wy la pc_ a1_3 a2_4 a3_5 a4_6 a5_7 a6_8, zAr T 0 a1_3 7 f1, zAr T 0 a2_4 7 f2, zAr T 0 a3_5 7 f3, zAr T 0 a4_6 n4 f4, zAr T 0 a5_7 n4 f5, zAr T 0 a6_8 n4 f6], [zO4 la cr inn a1_9 a2_10 a3_11 a4_12, zAr T 0 a1_9 7 k1, zAr T 0 a2_10 28 k2, zAr T 0 a3_11 7 k3, zAr T 0 a4_12 7 k4], [(lg, .inr (5, [.int gg, .ref a1_13, .ref a2_14]))], [zAr T 0 a1_13 8 d1], [zAr T 0 a2_14 8 d2]] _ _ := G
        refine lv_aload_n hx hb dX3_tryWay_160 rfl (lv_at hl 3 rfl) ?_
        refine lv_dup hx hb dX3_tryWay_161 rfl ?_
        refine z_get C G clX3 0 rfl 3 (by decide) m_fl_RX3_34 rfl dX3_tryWay_162 ?_
        refine lv_iconst (v := 1) hx hb dX3_tryWay_165 (by decide) ?_
        refine lv_iadd hx hb dX3_tryWay_166 ?_
        refine lv_topi (fun y_26 ey_26 => ?_)
        have ey_26i : y_26.toInt = e3.toInt + (1 : Int) := by rw [ey_26]; exact z_iaddI (x := e3) (y := (1 : Int32)) (by show -2147483648 ≤ e3.toInt + (1 : Int); omega) (by show e3.toInt + (1 : Int) < 2147483648; omega)
        refine z_put C G clX3 0 rfl 3 (by decide) m_fl_RX3_34 rfl rfl rfl (Nat.le_of_ble_eq_true rfl) dX3_tryWay_167 (fun H locs G => ?_)
        have G : zS T A s.heap s [[zO3 t e0 e1 e2 y_26 (if u5 < e4 then u5 else e4) (if e5 < u5 then u5 else e5) a1_1 a2_2], [zAr T 0 a1_1 m1 (upd r1 e3.toNatClampNeg ((u4 <<< (14 &&& 31)) + x))], [zAr T 0 a2_2 7 r2], [zO0 h md wy la pc_ a1_3 a2_4 a3_5 a4_6 a5_7 a6_8, zAr T 0 a1_3 7 f1, zAr T 0 a2_4 7 f2, zAr T 0 a3_5 7 f3, zAr T 0 a4_6 n4 f4, zAr T 0 a5_7 n4 f5, zAr T 0 a6_8 n4 f6], [zO4 la cr inn a1_9 a2_10 a3_11 a4_12, zAr T 0 a1_9 7 k1, zAr T 0 a2_10 28 k2, zAr T 0 a3_11 7 k3, zAr T 0 a4_12 7 k4], [(lg, .inr (5, [.int gg, .ref a1_13, .ref a2_14]))], [zAr T 0 a1_13 8 d1], [zAr T 0 a2_14 8 d2]] _ _ := G
        have hw_27 : bFit T t e0 e1 e2 y_26 (if u5 < e4 then u5 else e4) (if e5 < u5 then u5 else e5) (upd r1 e3.toNatClampNeg ((u4 <<< (14 &&& 31)) + x)) m1 r2 [zO3 t e0 e1 e2 y_26 (if u5 < e4 then u5 else e4) (if e5 < u5 then u5 else e5) a1_1 a2_2, zAr T 0 a1_1 m1 (upd r1 e3.toNatClampNeg ((u4 <<< (14 &&& 31)) + x)), zAr T 0 a2_2 7 r2] := ⟨a1_1, a2_2, rfl⟩
        have G : zS T A s.heap s [[zO3 t e0 e1 e2 y_26 (if u5 < e4 then u5 else e4) (if e5 < u5 then u5 else e5) a1_1 a2_2, zAr T 0 a1_1 m1 (upd r1 e3.toNatClampNeg ((u4 <<< (14 &&& 31)) + x)), zAr T 0 a2_2 7 r2], [zO0 h md wy la pc_ a1_3 a2_4 a3_5 a4_6 a5_7 a6_8, zAr T 0 a1_3 7 f1, zAr T 0 a2_4 7 f2, zAr T 0 a3_5 7 f3, zAr T 0 a4_6 n4 f4, zAr T 0 a5_7 n4 f5, zAr T 0 a6_8 n4 f6], [zO4 la cr inn a1_9 a2_10 a3_11 a4_12, zAr T 0 a1_9 7 k1, zAr T 0 a2_10 28 k2, zAr T 0 a3_11 7 k3, zAr T 0 a4_12 7 k4], [(lg, .inr (5, [.int gg, .ref a1_13, .ref a2_14]))], [zAr T 0 a1_13 8 d1], [zAr T 0 a2_14 8 d2]] _ _ := G.re rfl
        have hw_28 : bLog T lg gg d1 d2 [(lg, .inr (5, [.int gg, .ref a1_13, .ref a2_14])), zAr T 0 a1_13 8 d1, zAr T 0 a2_14 8 d2] := ⟨a1_13, a2_14, rfl⟩
        have G : zS T A s.heap s [[zO3 t e0 e1 e2 y_26 (if u5 < e4 then u5 else e4) (if e5 < u5 then u5 else e5) a1_1 a2_2, zAr T 0 a1_1 m1 (upd r1 e3.toNatClampNeg ((u4 <<< (14 &&& 31)) + x)), zAr T 0 a2_2 7 r2], [zO0 h md wy la pc_ a1_3 a2_4 a3_5 a4_6 a5_7 a6_8, zAr T 0 a1_3 7 f1, zAr T 0 a2_4 7 f2, zAr T 0 a3_5 7 f3, zAr T 0 a4_6 n4 f4, zAr T 0 a5_7 n4 f5, zAr T 0 a6_8 n4 f6], [zO4 la cr inn a1_9 a2_10 a3_11 a4_12, zAr T 0 a1_9 7 k1, zAr T 0 a2_10 28 k2, zAr T 0 a3_11 7 k3, zAr T 0 a4_12 7 k4], [(lg, .inr (5, [.int gg, .ref a1_13, .ref a2_14])), zAr T 0 a1_13 8 d1, zAr T 0 a2_14 8 d2]] _ _ := G.re rfl
        exact z_back hQz_ (z_vret C hr hlocks G (Nat.le_of_ble_eq_true rfl) (Nat.le_of_ble_eq_true rfl) dX3_tryWay_170 ⟨([zO3 t e0 e1 e2 y_26 (if u5 < e4 then u5 else e4) (if e5 < u5 then u5 else e5) a1_1 a2_2, zAr T 0 a1_1 m1 (upd r1 e3.toNatClampNeg ((u4 <<< (14 &&& 31)) + x)), zAr T 0 a2_2 7 r2]), y_26, (if u5 < e4 then u5 else e4), (if e5 < u5 then u5 else e5), (upd r1 e3.toNatClampNeg ((u4 <<< (14 &&& 31)) + x)), rfl, hw_27, (by omega)⟩)
      · have c_23n : e3.toInt = (0 : Int) := (fa_eq _ _).mp c_23
        refine lv_iload hx hb dX3_tryWay_114 (lv_at hl 1 rfl) ?_
        refine lv_goto (tgt := 128) hx hb dX3_tryWay_116 (by decide) ?_
        refine z_put C G clX3 0 rfl 4 (by decide) m_fl_RX3_37 rfl rfl rfl (Nat.le_of_ble_eq_true rfl) dX3_tryWay_128 (fun H locs G => ?_)
        have G : zS T A s.heap s [[zO3 t e0 e1 e2 e3 u5 e5 a1_1 a2_2], [zAr T 0 a1_1 m1 r1], [zAr T 0 a2_2 7 r2], [zO0 h md wy la pc_ a1_3 a2_4 a3_5 a4_6 a5_7 a6_8, zAr T 0 a1_3 7 f1, zAr T 0 a2_4 7 f2, zAr T 0 a3_5 7 f3, zAr T 0 a4_6 n4 f4, zAr T 0 a5_7 n4 f5, zAr T 0 a6_8 n4 f6], [zO4 la cr inn a1_9 a2_10 a3_11 a4_12, zAr T 0 a1_9 7 k1, zAr T 0 a2_10 28 k2, zAr T 0 a3_11 7 k3, zAr T 0 a4_12 7 k4], [(lg, .inr (5, [.int gg, .ref a1_13, .ref a2_14]))], [zAr T 0 a1_13 8 d1], [zAr T 0 a2_14 8 d2]] _ _ := G
        refine lv_aload_n hx hb dX3_tryWay_131 rfl (lv_at hl 3 rfl) ?_
        refine lv_aload_n hx hb dX3_tryWay_132 rfl (lv_at hl 3 rfl) ?_
        refine z_get C G clX3 0 rfl 5 (by decide) m_fl_RX3_40 rfl dX3_tryWay_133 ?_
        refine lv_iload hx hb dX3_tryWay_136 (lv_at hl 1 rfl) ?_
        refine va_mmax hx hb (C.2.2.1.trans hl.1.symm) C.2.2.2.1 (C.2.2.2.2 _ m_ml_RX3_83) (C.2.2.2.2 _ m_st_math_max) (C.2.2.2.2 _ m_ii_math) (C.2.2.2.2 _ m_co_math_max) (Nat.le_of_ble_eq_true rfl) (Nat.le_of_ble_eq_true rfl) (Nat.le_of_ble_eq_true rfl) (Nat.le_of_ble_eq_true rfl) dX3_tryWay_138 ?_
        refine lv_topi (fun v_29 ev_29 => ?_)
        subst ev_29
        refine z_put C G clX3 0 rfl 5 (by decide) m_fl_RX3_40 rfl rfl rfl (Nat.le_of_ble_eq_true rfl) dX3_tryWay_141 (fun H locs G => ?_)
        have G : zS T A s.heap s [[zO3 t e0 e1 e2 e3 u5 (if e5 < u5 then u5 else e5) a1_1 a2_2], [zAr T 0 a1_1 m1 r1], [zAr T 0 a2_2 7 r2], [zO0 h md wy la pc_ a1_3 a2_4 a3_5 a4_6 a5_7 a6_8, zAr T 0 a1_3 7 f1, zAr T 0 a2_4 7 f2, zAr T 0 a3_5 7 f3, zAr T 0 a4_6 n4 f4, zAr T 0 a5_7 n4 f5, zAr T 0 a6_8 n4 f6], [zO4 la cr inn a1_9 a2_10 a3_11 a4_12, zAr T 0 a1_9 7 k1, zAr T 0 a2_10 28 k2, zAr T 0 a3_11 7 k3, zAr T 0 a4_12 7 k4], [(lg, .inr (5, [.int gg, .ref a1_13, .ref a2_14]))], [zAr T 0 a1_13 8 d1], [zAr T 0 a2_14 8 d2]] _ _ := G
        refine lv_aload_n hx hb dX3_tryWay_144 rfl (lv_at hl 3 rfl) ?_
        refine z_get C G clX3 0 rfl 6 (by decide) m_fl_RX3_18 rfl dX3_tryWay_145 ?_
        refine lv_aload_n hx hb dX3_tryWay_148 rfl (lv_at hl 3 rfl) ?_
        refine z_get C G clX3 0 rfl 3 (by decide) m_fl_RX3_34 rfl dX3_tryWay_149 ?_
        refine lv_iload hx hb dX3_tryWay_152 (lv_at hl 2 rfl) ?_
        refine lv_bipush (v := 14) hx hb dX3_tryWay_154 (by decide) ?_
        refine lv_ishl hx hb dX3_tryWay_156 ?_
        refine lv_iload_n hx hb dX3_tryWay_157 rfl (lv_at hl 6 rfl) ?_
        refine lv_iadd hx hb dX3_tryWay_158 ?_
        refine z_ist C G 1 rfl (vp_in_iff.mpr ⟨by omega, by omega⟩) dX3_tryWay_159 (fun H locs G => ?_)
        have G : zS T A s.heap s [[zO3 t e0 e1 e2 e3 u5 (if e5 < u5 then u5 else e5) a1_1 a2_2], [zAr T 0 a1_1 m1 (upd r1 e3.toNatClampNeg ((u4 <<< (14 &&& 31)) + x))], [zAr T 0 a2_2 7 r2], [zO0 h md wy la pc_ a1_3 a2_4 a3_5 a4_6 a5_7 a6_8, zAr T 0 a1_3 7 f1, zAr T 0 a2_4 7 f2, zAr T 0 a3_5 7 f3, zAr T 0 a4_6 n4 f4, zAr T 0 a5_7 n4 f5, zAr T 0 a6_8 n4 f6], [zO4 la cr inn a1_9 a2_10 a3_11 a4_12, zAr T 0 a1_9 7 k1, zAr T 0 a2_10 28 k2, zAr T 0 a3_11 7 k3, zAr T 0 a4_12 7 k4], [(lg, .inr (5, [.int gg, .ref a1_13, .ref a2_14]))], [zAr T 0 a1_13 8 d1], [zAr T 0 a2_14 8 d2]] _ _ := G
        refine lv_aload_n hx hb dX3_tryWay_160 rfl (lv_at hl 3 rfl) ?_
        refine lv_dup hx hb dX3_tryWay_161 rfl ?_
        refine z_get C G clX3 0 rfl 3 (by decide) m_fl_RX3_34 rfl dX3_tryWay_162 ?_
        refine lv_iconst (v := 1) hx hb dX3_tryWay_165 (by decide) ?_
        refine lv_iadd hx hb dX3_tryWay_166 ?_
        refine lv_topi (fun y_30 ey_30 => ?_)
        have ey_30i : y_30.toInt = e3.toInt + (1 : Int) := by rw [ey_30]; exact z_iaddI (x := e3) (y := (1 : Int32)) (by show -2147483648 ≤ e3.toInt + (1 : Int); omega) (by show e3.toInt + (1 : Int) < 2147483648; omega)
        refine z_put C G clX3 0 rfl 3 (by decide) m_fl_RX3_34 rfl rfl rfl (Nat.le_of_ble_eq_true rfl) dX3_tryWay_167 (fun H locs G => ?_)
        have G : zS T A s.heap s [[zO3 t e0 e1 e2 y_30 u5 (if e5 < u5 then u5 else e5) a1_1 a2_2], [zAr T 0 a1_1 m1 (upd r1 e3.toNatClampNeg ((u4 <<< (14 &&& 31)) + x))], [zAr T 0 a2_2 7 r2], [zO0 h md wy la pc_ a1_3 a2_4 a3_5 a4_6 a5_7 a6_8, zAr T 0 a1_3 7 f1, zAr T 0 a2_4 7 f2, zAr T 0 a3_5 7 f3, zAr T 0 a4_6 n4 f4, zAr T 0 a5_7 n4 f5, zAr T 0 a6_8 n4 f6], [zO4 la cr inn a1_9 a2_10 a3_11 a4_12, zAr T 0 a1_9 7 k1, zAr T 0 a2_10 28 k2, zAr T 0 a3_11 7 k3, zAr T 0 a4_12 7 k4], [(lg, .inr (5, [.int gg, .ref a1_13, .ref a2_14]))], [zAr T 0 a1_13 8 d1], [zAr T 0 a2_14 8 d2]] _ _ := G
        have hw_31 : bFit T t e0 e1 e2 y_30 u5 (if e5 < u5 then u5 else e5) (upd r1 e3.toNatClampNeg ((u4 <<< (14 &&& 31)) + x)) m1 r2 [zO3 t e0 e1 e2 y_30 u5 (if e5 < u5 then u5 else e5) a1_1 a2_2, zAr T 0 a1_1 m1 (upd r1 e3.toNatClampNeg ((u4 <<< (14 &&& 31)) + x)), zAr T 0 a2_2 7 r2] := ⟨a1_1, a2_2, rfl⟩
        have G : zS T A s.heap s [[zO3 t e0 e1 e2 y_30 u5 (if e5 < u5 then u5 else e5) a1_1 a2_2, zAr T 0 a1_1 m1 (upd r1 e3.toNatClampNeg ((u4 <<< (14 &&& 31)) + x)), zAr T 0 a2_2 7 r2], [zO0 h md wy la pc_ a1_3 a2_4 a3_5 a4_6 a5_7 a6_8, zAr T 0 a1_3 7 f1, zAr T 0 a2_4 7 f2, zAr T 0 a3_5 7 f3, zAr T 0 a4_6 n4 f4, zAr T 0 a5_7 n4 f5, zAr T 0 a6_8 n4 f6], [zO4 la cr inn a1_9 a2_10 a3_11 a4_12, zAr T 0 a1_9 7 k1, zAr T 0 a2_10 28 k2, zAr T 0 a3_11 7 k3, zAr T 0 a4_12 7 k4], [(lg, .inr (5, [.int gg, .ref a1_13, .ref a2_14]))], [zAr T 0 a1_13 8 d1], [zAr T 0 a2_14 8 d2]] _ _ := G.re rfl
        have hw_32 : bLog T lg gg d1 d2 [(lg, .inr (5, [.int gg, .ref a1_13, .ref a2_14])), zAr T 0 a1_13 8 d1, zAr T 0 a2_14 8 d2] := ⟨a1_13, a2_14, rfl⟩
        have G : zS T A s.heap s [[zO3 t e0 e1 e2 y_30 u5 (if e5 < u5 then u5 else e5) a1_1 a2_2, zAr T 0 a1_1 m1 (upd r1 e3.toNatClampNeg ((u4 <<< (14 &&& 31)) + x)), zAr T 0 a2_2 7 r2], [zO0 h md wy la pc_ a1_3 a2_4 a3_5 a4_6 a5_7 a6_8, zAr T 0 a1_3 7 f1, zAr T 0 a2_4 7 f2, zAr T 0 a3_5 7 f3, zAr T 0 a4_6 n4 f4, zAr T 0 a5_7 n4 f5, zAr T 0 a6_8 n4 f6], [zO4 la cr inn a1_9 a2_10 a3_11 a4_12, zAr T 0 a1_9 7 k1, zAr T 0 a2_10 28 k2, zAr T 0 a3_11 7 k3, zAr T 0 a4_12 7 k4], [(lg, .inr (5, [.int gg, .ref a1_13, .ref a2_14])), zAr T 0 a1_13 8 d1, zAr T 0 a2_14 8 d2]] _ _ := G.re rfl
        exact z_back hQz_ (z_vret C hr hlocks G (Nat.le_of_ble_eq_true rfl) (Nat.le_of_ble_eq_true rfl) dX3_tryWay_170 ⟨([zO3 t e0 e1 e2 y_30 u5 (if e5 < u5 then u5 else e5) a1_1 a2_2, zAr T 0 a1_1 m1 (upd r1 e3.toNatClampNeg ((u4 <<< (14 &&& 31)) + x)), zAr T 0 a2_2 7 r2]), y_30, u5, (if e5 < u5 then u5 else e5), (upd r1 e3.toNatClampNeg ((u4 <<< (14 &&& 31)) + x)), rfl, hw_31, (by omega)⟩)
  · have c_19n : ¬ gg.toInt ≤ (i : Int) := fun q => c_19 ((fa_le _ _).mpr (by rw [nI_toInt (n := i) (by omega)]; exact q))
    refine lv_iload hx hb dX3_tryWay_18 (lv_at hl 0 rfl) ?_
    refine lv_bipush (v := 8) hx hb dX3_tryWay_20 (by decide) ?_
    refine lv_icmp_ge (tgt := 94) hx hb dX3_tryWay_22 (by decide) (fun c_33 => ?_) (fun c_33 => ?_)
    · have c_33n : 8 ≤ i := (nI_leI (a := 8) (b := i) (by omega) (by omega)).mp c_33
      refine lv_aload_n hx hb dX3_tryWay_94 rfl (lv_at hl 3 rfl) ?_
      have G : zS T A s.heap s [[zO3 t e0 e1 e2 e3 e4 e5 a1_1 a2_2], [zAr T 0 a1_1 m1 r1], [zAr T 0 a2_2 7 r2], [zO0 h md wy la pc_ a1_3 a2_4 a3_5 a4_6 a5_7 a6_8, zAr T 0 a1_3 7 f1, zAr T 0 a2_4 7 f2, zAr T 0 a3_5 7 f3, zAr T 0 a4_6 n4 f4, zAr T 0 a5_7 n4 f5, zAr T 0 a6_8 n4 f6], [zO4 la cr inn a1_9 a2_10 a3_11 a4_12, zAr T 0 a1_9 7 k1, zAr T 0 a2_10 28 k2, zAr T 0 a3_11 7 k3, zAr T 0 a4_12 7 k4], [(lg, .inr (5, [.int gg, .ref a1_13, .ref a2_14]))], [zAr T 0 a1_13 8 d1], [zAr T 0 a2_14 8 d2]] _ _ := G.re rfl
      refine z_get C G clX3 0 rfl 3 (by decide) m_fl_RX3_34 rfl dX3_tryWay_95 ?_
      refine lv_aload_n hx hb dX3_tryWay_98 rfl (lv_at hl 3 rfl) ?_
      refine z_get C G clX3 0 rfl 6 (by decide) m_fl_RX3_18 rfl dX3_tryWay_99 ?_
      refine z_alen C G 1 0 rfl (v := nI m1) rfl rfl dX3_tryWay_102 ?_
      refine lv_icmp_ge (tgt := 170) hx hb dX3_tryWay_103 (by decide) (fun c_34 => ?_) (fun c_34 => ?_)
      · have c_34n : (m1 : Int) ≤ e3.toInt := by have q := (fa_le _ _).mp c_34; rw [nI_toInt (n := m1) (by omega)] at q; exact q
        have hw_35 : bFit T t e0 e1 e2 e3 e4 e5 r1 m1 r2 [zO3 t e0 e1 e2 e3 e4 e5 a1_1 a2_2, zAr T 0 a1_1 m1 r1, zAr T 0 a2_2 7 r2] := ⟨a1_1, a2_2, rfl⟩
        have G : zS T A s.heap s [[zO3 t e0 e1 e2 e3 e4 e5 a1_1 a2_2, zAr T 0 a1_1 m1 r1, zAr T 0 a2_2 7 r2], [zO0 h md wy la pc_ a1_3 a2_4 a3_5 a4_6 a5_7 a6_8, zAr T 0 a1_3 7 f1, zAr T 0 a2_4 7 f2, zAr T 0 a3_5 7 f3, zAr T 0 a4_6 n4 f4, zAr T 0 a5_7 n4 f5, zAr T 0 a6_8 n4 f6], [zO4 la cr inn a1_9 a2_10 a3_11 a4_12, zAr T 0 a1_9 7 k1, zAr T 0 a2_10 28 k2, zAr T 0 a3_11 7 k3, zAr T 0 a4_12 7 k4], [(lg, .inr (5, [.int gg, .ref a1_13, .ref a2_14]))], [zAr T 0 a1_13 8 d1], [zAr T 0 a2_14 8 d2]] _ _ := G.re rfl
        have hw_36 : bLog T lg gg d1 d2 [(lg, .inr (5, [.int gg, .ref a1_13, .ref a2_14])), zAr T 0 a1_13 8 d1, zAr T 0 a2_14 8 d2] := ⟨a1_13, a2_14, rfl⟩
        have G : zS T A s.heap s [[zO3 t e0 e1 e2 e3 e4 e5 a1_1 a2_2, zAr T 0 a1_1 m1 r1, zAr T 0 a2_2 7 r2], [zO0 h md wy la pc_ a1_3 a2_4 a3_5 a4_6 a5_7 a6_8, zAr T 0 a1_3 7 f1, zAr T 0 a2_4 7 f2, zAr T 0 a3_5 7 f3, zAr T 0 a4_6 n4 f4, zAr T 0 a5_7 n4 f5, zAr T 0 a6_8 n4 f6], [zO4 la cr inn a1_9 a2_10 a3_11 a4_12, zAr T 0 a1_9 7 k1, zAr T 0 a2_10 28 k2, zAr T 0 a3_11 7 k3, zAr T 0 a4_12 7 k4], [(lg, .inr (5, [.int gg, .ref a1_13, .ref a2_14])), zAr T 0 a1_13 8 d1, zAr T 0 a2_14 8 d2]] _ _ := G.re rfl
        exact z_back hQz_ (z_vret C hr hlocks G (Nat.le_of_ble_eq_true rfl) (Nat.le_of_ble_eq_true rfl) dX3_tryWay_170 ⟨([zO3 t e0 e1 e2 e3 e4 e5 a1_1 a2_2, zAr T 0 a1_1 m1 r1, zAr T 0 a2_2 7 r2]), e3, e4, e5, r1, rfl, hw_35, h3⟩)
      · have c_34n : ¬ (m1 : Int) ≤ e3.toInt := fun q => c_34 ((fa_le _ _).mpr (by rw [nI_toInt (n := m1) (by omega)]; exact q))
        refine lv_aload_n hx hb dX3_tryWay_106 rfl (lv_at hl 3 rfl) ?_
        refine lv_aload_n hx hb dX3_tryWay_107 rfl (lv_at hl 3 rfl) ?_
        refine z_get C G clX3 0 rfl 3 (by decide) m_fl_RX3_34 rfl dX3_tryWay_108 ?_
        refine lv_if_ne (tgt := 119) hx hb dX3_tryWay_111 (by decide) (fun c_37 => ?_) (fun c_37 => ?_)
        · have c_37n : ¬ e3.toInt = (0 : Int) := fun q => c_37 ((fa_eq _ _).mpr q)
          refine lv_aload_n hx hb dX3_tryWay_119 rfl (lv_at hl 3 rfl) ?_
          refine z_get C G clX3 0 rfl 4 (by decide) m_fl_RX3_37 rfl dX3_tryWay_120 ?_
          refine lv_iload hx hb dX3_tryWay_123 (lv_at hl 1 rfl) ?_
          refine va_mmin hx hb (C.2.2.1.trans hl.1.symm) C.2.2.2.1 (C.2.2.2.2 _ m_ml_RX3_78) (C.2.2.2.2 _ m_st_math_min) (C.2.2.2.2 _ m_ii_math) (C.2.2.2.2 _ m_co_math_min) (Nat.le_of_ble_eq_true rfl) (Nat.le_of_ble_eq_true rfl) (Nat.le_of_ble_eq_true rfl) (Nat.le_of_ble_eq_true rfl) dX3_tryWay_125 ?_
          refine lv_topi (fun v_38 ev_38 => ?_)
          subst ev_38
          refine z_put C G clX3 0 rfl 4 (by decide) m_fl_RX3_37 rfl rfl rfl (Nat.le_of_ble_eq_true rfl) dX3_tryWay_128 (fun H locs G => ?_)
          have G : zS T A s.heap s [[zO3 t e0 e1 e2 e3 (if u5 < e4 then u5 else e4) e5 a1_1 a2_2], [zAr T 0 a1_1 m1 r1], [zAr T 0 a2_2 7 r2], [zO0 h md wy la pc_ a1_3 a2_4 a3_5 a4_6 a5_7 a6_8, zAr T 0 a1_3 7 f1, zAr T 0 a2_4 7 f2, zAr T 0 a3_5 7 f3, zAr T 0 a4_6 n4 f4, zAr T 0 a5_7 n4 f5, zAr T 0 a6_8 n4 f6], [zO4 la cr inn a1_9 a2_10 a3_11 a4_12, zAr T 0 a1_9 7 k1, zAr T 0 a2_10 28 k2, zAr T 0 a3_11 7 k3, zAr T 0 a4_12 7 k4], [(lg, .inr (5, [.int gg, .ref a1_13, .ref a2_14]))], [zAr T 0 a1_13 8 d1], [zAr T 0 a2_14 8 d2]] _ _ := G
          refine lv_aload_n hx hb dX3_tryWay_131 rfl (lv_at hl 3 rfl) ?_
          refine lv_aload_n hx hb dX3_tryWay_132 rfl (lv_at hl 3 rfl) ?_
          refine z_get C G clX3 0 rfl 5 (by decide) m_fl_RX3_40 rfl dX3_tryWay_133 ?_
          refine lv_iload hx hb dX3_tryWay_136 (lv_at hl 1 rfl) ?_
          refine va_mmax hx hb (C.2.2.1.trans hl.1.symm) C.2.2.2.1 (C.2.2.2.2 _ m_ml_RX3_83) (C.2.2.2.2 _ m_st_math_max) (C.2.2.2.2 _ m_ii_math) (C.2.2.2.2 _ m_co_math_max) (Nat.le_of_ble_eq_true rfl) (Nat.le_of_ble_eq_true rfl) (Nat.le_of_ble_eq_true rfl) (Nat.le_of_ble_eq_true rfl) dX3_tryWay_138 ?_
          refine lv_topi (fun v_39 ev_39 => ?_)
          subst ev_39
          refine z_put C G clX3 0 rfl 5 (by decide) m_fl_RX3_40 rfl rfl rfl (Nat.le_of_ble_eq_true rfl) dX3_tryWay_141 (fun H locs G => ?_)
          have G : zS T A s.heap s [[zO3 t e0 e1 e2 e3 (if u5 < e4 then u5 else e4) (if e5 < u5 then u5 else e5) a1_1 a2_2], [zAr T 0 a1_1 m1 r1], [zAr T 0 a2_2 7 r2], [zO0 h md wy la pc_ a1_3 a2_4 a3_5 a4_6 a5_7 a6_8, zAr T 0 a1_3 7 f1, zAr T 0 a2_4 7 f2, zAr T 0 a3_5 7 f3, zAr T 0 a4_6 n4 f4, zAr T 0 a5_7 n4 f5, zAr T 0 a6_8 n4 f6], [zO4 la cr inn a1_9 a2_10 a3_11 a4_12, zAr T 0 a1_9 7 k1, zAr T 0 a2_10 28 k2, zAr T 0 a3_11 7 k3, zAr T 0 a4_12 7 k4], [(lg, .inr (5, [.int gg, .ref a1_13, .ref a2_14]))], [zAr T 0 a1_13 8 d1], [zAr T 0 a2_14 8 d2]] _ _ := G
          refine lv_aload_n hx hb dX3_tryWay_144 rfl (lv_at hl 3 rfl) ?_
          refine z_get C G clX3 0 rfl 6 (by decide) m_fl_RX3_18 rfl dX3_tryWay_145 ?_
          refine lv_aload_n hx hb dX3_tryWay_148 rfl (lv_at hl 3 rfl) ?_
          refine z_get C G clX3 0 rfl 3 (by decide) m_fl_RX3_34 rfl dX3_tryWay_149 ?_
          refine lv_iload hx hb dX3_tryWay_152 (lv_at hl 2 rfl) ?_
          refine lv_bipush (v := 14) hx hb dX3_tryWay_154 (by decide) ?_
          refine lv_ishl hx hb dX3_tryWay_156 ?_
          refine lv_iload_n hx hb dX3_tryWay_157 rfl (lv_at hl 6 rfl) ?_
          refine lv_iadd hx hb dX3_tryWay_158 ?_
          refine z_ist C G 1 rfl (vp_in_iff.mpr ⟨by omega, by omega⟩) dX3_tryWay_159 (fun H locs G => ?_)
          have G : zS T A s.heap s [[zO3 t e0 e1 e2 e3 (if u5 < e4 then u5 else e4) (if e5 < u5 then u5 else e5) a1_1 a2_2], [zAr T 0 a1_1 m1 (upd r1 e3.toNatClampNeg ((u4 <<< (14 &&& 31)) + x))], [zAr T 0 a2_2 7 r2], [zO0 h md wy la pc_ a1_3 a2_4 a3_5 a4_6 a5_7 a6_8, zAr T 0 a1_3 7 f1, zAr T 0 a2_4 7 f2, zAr T 0 a3_5 7 f3, zAr T 0 a4_6 n4 f4, zAr T 0 a5_7 n4 f5, zAr T 0 a6_8 n4 f6], [zO4 la cr inn a1_9 a2_10 a3_11 a4_12, zAr T 0 a1_9 7 k1, zAr T 0 a2_10 28 k2, zAr T 0 a3_11 7 k3, zAr T 0 a4_12 7 k4], [(lg, .inr (5, [.int gg, .ref a1_13, .ref a2_14]))], [zAr T 0 a1_13 8 d1], [zAr T 0 a2_14 8 d2]] _ _ := G
          refine lv_aload_n hx hb dX3_tryWay_160 rfl (lv_at hl 3 rfl) ?_
          refine lv_dup hx hb dX3_tryWay_161 rfl ?_
          refine z_get C G clX3 0 rfl 3 (by decide) m_fl_RX3_34 rfl dX3_tryWay_162 ?_
          refine lv_iconst (v := 1) hx hb dX3_tryWay_165 (by decide) ?_
          refine lv_iadd hx hb dX3_tryWay_166 ?_
          refine lv_topi (fun y_40 ey_40 => ?_)
          have ey_40i : y_40.toInt = e3.toInt + (1 : Int) := by rw [ey_40]; exact z_iaddI (x := e3) (y := (1 : Int32)) (by show -2147483648 ≤ e3.toInt + (1 : Int); omega) (by show e3.toInt + (1 : Int) < 2147483648; omega)
          refine z_put C G clX3 0 rfl 3 (by decide) m_fl_RX3_34 rfl rfl rfl (Nat.le_of_ble_eq_true rfl) dX3_tryWay_167 (fun H locs G => ?_)
          have G : zS T A s.heap s [[zO3 t e0 e1 e2 y_40 (if u5 < e4 then u5 else e4) (if e5 < u5 then u5 else e5) a1_1 a2_2], [zAr T 0 a1_1 m1 (upd r1 e3.toNatClampNeg ((u4 <<< (14 &&& 31)) + x))], [zAr T 0 a2_2 7 r2], [zO0 h md wy la pc_ a1_3 a2_4 a3_5 a4_6 a5_7 a6_8, zAr T 0 a1_3 7 f1, zAr T 0 a2_4 7 f2, zAr T 0 a3_5 7 f3, zAr T 0 a4_6 n4 f4, zAr T 0 a5_7 n4 f5, zAr T 0 a6_8 n4 f6], [zO4 la cr inn a1_9 a2_10 a3_11 a4_12, zAr T 0 a1_9 7 k1, zAr T 0 a2_10 28 k2, zAr T 0 a3_11 7 k3, zAr T 0 a4_12 7 k4], [(lg, .inr (5, [.int gg, .ref a1_13, .ref a2_14]))], [zAr T 0 a1_13 8 d1], [zAr T 0 a2_14 8 d2]] _ _ := G
          have hw_41 : bFit T t e0 e1 e2 y_40 (if u5 < e4 then u5 else e4) (if e5 < u5 then u5 else e5) (upd r1 e3.toNatClampNeg ((u4 <<< (14 &&& 31)) + x)) m1 r2 [zO3 t e0 e1 e2 y_40 (if u5 < e4 then u5 else e4) (if e5 < u5 then u5 else e5) a1_1 a2_2, zAr T 0 a1_1 m1 (upd r1 e3.toNatClampNeg ((u4 <<< (14 &&& 31)) + x)), zAr T 0 a2_2 7 r2] := ⟨a1_1, a2_2, rfl⟩
          have G : zS T A s.heap s [[zO3 t e0 e1 e2 y_40 (if u5 < e4 then u5 else e4) (if e5 < u5 then u5 else e5) a1_1 a2_2, zAr T 0 a1_1 m1 (upd r1 e3.toNatClampNeg ((u4 <<< (14 &&& 31)) + x)), zAr T 0 a2_2 7 r2], [zO0 h md wy la pc_ a1_3 a2_4 a3_5 a4_6 a5_7 a6_8, zAr T 0 a1_3 7 f1, zAr T 0 a2_4 7 f2, zAr T 0 a3_5 7 f3, zAr T 0 a4_6 n4 f4, zAr T 0 a5_7 n4 f5, zAr T 0 a6_8 n4 f6], [zO4 la cr inn a1_9 a2_10 a3_11 a4_12, zAr T 0 a1_9 7 k1, zAr T 0 a2_10 28 k2, zAr T 0 a3_11 7 k3, zAr T 0 a4_12 7 k4], [(lg, .inr (5, [.int gg, .ref a1_13, .ref a2_14]))], [zAr T 0 a1_13 8 d1], [zAr T 0 a2_14 8 d2]] _ _ := G.re rfl
          have hw_42 : bLog T lg gg d1 d2 [(lg, .inr (5, [.int gg, .ref a1_13, .ref a2_14])), zAr T 0 a1_13 8 d1, zAr T 0 a2_14 8 d2] := ⟨a1_13, a2_14, rfl⟩
          have G : zS T A s.heap s [[zO3 t e0 e1 e2 y_40 (if u5 < e4 then u5 else e4) (if e5 < u5 then u5 else e5) a1_1 a2_2, zAr T 0 a1_1 m1 (upd r1 e3.toNatClampNeg ((u4 <<< (14 &&& 31)) + x)), zAr T 0 a2_2 7 r2], [zO0 h md wy la pc_ a1_3 a2_4 a3_5 a4_6 a5_7 a6_8, zAr T 0 a1_3 7 f1, zAr T 0 a2_4 7 f2, zAr T 0 a3_5 7 f3, zAr T 0 a4_6 n4 f4, zAr T 0 a5_7 n4 f5, zAr T 0 a6_8 n4 f6], [zO4 la cr inn a1_9 a2_10 a3_11 a4_12, zAr T 0 a1_9 7 k1, zAr T 0 a2_10 28 k2, zAr T 0 a3_11 7 k3, zAr T 0 a4_12 7 k4], [(lg, .inr (5, [.int gg, .ref a1_13, .ref a2_14])), zAr T 0 a1_13 8 d1, zAr T 0 a2_14 8 d2]] _ _ := G.re rfl
          exact z_back hQz_ (z_vret C hr hlocks G (Nat.le_of_ble_eq_true rfl) (Nat.le_of_ble_eq_true rfl) dX3_tryWay_170 ⟨([zO3 t e0 e1 e2 y_40 (if u5 < e4 then u5 else e4) (if e5 < u5 then u5 else e5) a1_1 a2_2, zAr T 0 a1_1 m1 (upd r1 e3.toNatClampNeg ((u4 <<< (14 &&& 31)) + x)), zAr T 0 a2_2 7 r2]), y_40, (if u5 < e4 then u5 else e4), (if e5 < u5 then u5 else e5), (upd r1 e3.toNatClampNeg ((u4 <<< (14 &&& 31)) + x)), rfl, hw_41, (by omega)⟩)
        · have c_37n : e3.toInt = (0 : Int) := (fa_eq _ _).mp c_37
          refine lv_iload hx hb dX3_tryWay_114 (lv_at hl 1 rfl) ?_
          refine lv_goto (tgt := 128) hx hb dX3_tryWay_116 (by decide) ?_
          refine z_put C G clX3 0 rfl 4 (by decide) m_fl_RX3_37 rfl rfl rfl (Nat.le_of_ble_eq_true rfl) dX3_tryWay_128 (fun H locs G => ?_)
          have G : zS T A s.heap s [[zO3 t e0 e1 e2 e3 u5 e5 a1_1 a2_2], [zAr T 0 a1_1 m1 r1], [zAr T 0 a2_2 7 r2], [zO0 h md wy la pc_ a1_3 a2_4 a3_5 a4_6 a5_7 a6_8, zAr T 0 a1_3 7 f1, zAr T 0 a2_4 7 f2, zAr T 0 a3_5 7 f3, zAr T 0 a4_6 n4 f4, zAr T 0 a5_7 n4 f5, zAr T 0 a6_8 n4 f6], [zO4 la cr inn a1_9 a2_10 a3_11 a4_12, zAr T 0 a1_9 7 k1, zAr T 0 a2_10 28 k2, zAr T 0 a3_11 7 k3, zAr T 0 a4_12 7 k4], [(lg, .inr (5, [.int gg, .ref a1_13, .ref a2_14]))], [zAr T 0 a1_13 8 d1], [zAr T 0 a2_14 8 d2]] _ _ := G
          refine lv_aload_n hx hb dX3_tryWay_131 rfl (lv_at hl 3 rfl) ?_
          refine lv_aload_n hx hb dX3_tryWay_132 rfl (lv_at hl 3 rfl) ?_
          refine z_get C G clX3 0 rfl 5 (by decide) m_fl_RX3_40 rfl dX3_tryWay_133 ?_
          refine lv_iload hx hb dX3_tryWay_136 (lv_at hl 1 rfl) ?_
          refine va_mmax hx hb (C.2.2.1.trans hl.1.symm) C.2.2.2.1 (C.2.2.2.2 _ m_ml_RX3_83) (C.2.2.2.2 _ m_st_math_max) (C.2.2.2.2 _ m_ii_math) (C.2.2.2.2 _ m_co_math_max) (Nat.le_of_ble_eq_true rfl) (Nat.le_of_ble_eq_true rfl) (Nat.le_of_ble_eq_true rfl) (Nat.le_of_ble_eq_true rfl) dX3_tryWay_138 ?_
          refine lv_topi (fun v_43 ev_43 => ?_)
          subst ev_43
          refine z_put C G clX3 0 rfl 5 (by decide) m_fl_RX3_40 rfl rfl rfl (Nat.le_of_ble_eq_true rfl) dX3_tryWay_141 (fun H locs G => ?_)
          have G : zS T A s.heap s [[zO3 t e0 e1 e2 e3 u5 (if e5 < u5 then u5 else e5) a1_1 a2_2], [zAr T 0 a1_1 m1 r1], [zAr T 0 a2_2 7 r2], [zO0 h md wy la pc_ a1_3 a2_4 a3_5 a4_6 a5_7 a6_8, zAr T 0 a1_3 7 f1, zAr T 0 a2_4 7 f2, zAr T 0 a3_5 7 f3, zAr T 0 a4_6 n4 f4, zAr T 0 a5_7 n4 f5, zAr T 0 a6_8 n4 f6], [zO4 la cr inn a1_9 a2_10 a3_11 a4_12, zAr T 0 a1_9 7 k1, zAr T 0 a2_10 28 k2, zAr T 0 a3_11 7 k3, zAr T 0 a4_12 7 k4], [(lg, .inr (5, [.int gg, .ref a1_13, .ref a2_14]))], [zAr T 0 a1_13 8 d1], [zAr T 0 a2_14 8 d2]] _ _ := G
          refine lv_aload_n hx hb dX3_tryWay_144 rfl (lv_at hl 3 rfl) ?_
          refine z_get C G clX3 0 rfl 6 (by decide) m_fl_RX3_18 rfl dX3_tryWay_145 ?_
          refine lv_aload_n hx hb dX3_tryWay_148 rfl (lv_at hl 3 rfl) ?_
          refine z_get C G clX3 0 rfl 3 (by decide) m_fl_RX3_34 rfl dX3_tryWay_149 ?_
          refine lv_iload hx hb dX3_tryWay_152 (lv_at hl 2 rfl) ?_
          refine lv_bipush (v := 14) hx hb dX3_tryWay_154 (by decide) ?_
          refine lv_ishl hx hb dX3_tryWay_156 ?_
          refine lv_iload_n hx hb dX3_tryWay_157 rfl (lv_at hl 6 rfl) ?_
          refine lv_iadd hx hb dX3_tryWay_158 ?_
          refine z_ist C G 1 rfl (vp_in_iff.mpr ⟨by omega, by omega⟩) dX3_tryWay_159 (fun H locs G => ?_)
          have G : zS T A s.heap s [[zO3 t e0 e1 e2 e3 u5 (if e5 < u5 then u5 else e5) a1_1 a2_2], [zAr T 0 a1_1 m1 (upd r1 e3.toNatClampNeg ((u4 <<< (14 &&& 31)) + x))], [zAr T 0 a2_2 7 r2], [zO0 h md wy la pc_ a1_3 a2_4 a3_5 a4_6 a5_7 a6_8, zAr T 0 a1_3 7 f1, zAr T 0 a2_4 7 f2, zAr T 0 a3_5 7 f3, zAr T 0 a4_6 n4 f4, zAr T 0 a5_7 n4 f5, zAr T 0 a6_8 n4 f6], [zO4 la cr inn a1_9 a2_10 a3_11 a4_12, zAr T 0 a1_9 7 k1, zAr T 0 a2_10 28 k2, zAr T 0 a3_11 7 k3, zAr T 0 a4_12 7 k4], [(lg, .inr (5, [.int gg, .ref a1_13, .ref a2_14]))], [zAr T 0 a1_13 8 d1], [zAr T 0 a2_14 8 d2]] _ _ := G
          refine lv_aload_n hx hb dX3_tryWay_160 rfl (lv_at hl 3 rfl) ?_
          refine lv_dup hx hb dX3_tryWay_161 rfl ?_
          refine z_get C G clX3 0 rfl 3 (by decide) m_fl_RX3_34 rfl dX3_tryWay_162 ?_
          refine lv_iconst (v := 1) hx hb dX3_tryWay_165 (by decide) ?_
          refine lv_iadd hx hb dX3_tryWay_166 ?_
          refine lv_topi (fun y_44 ey_44 => ?_)
          have ey_44i : y_44.toInt = e3.toInt + (1 : Int) := by rw [ey_44]; exact z_iaddI (x := e3) (y := (1 : Int32)) (by show -2147483648 ≤ e3.toInt + (1 : Int); omega) (by show e3.toInt + (1 : Int) < 2147483648; omega)
          refine z_put C G clX3 0 rfl 3 (by decide) m_fl_RX3_34 rfl rfl rfl (Nat.le_of_ble_eq_true rfl) dX3_tryWay_167 (fun H locs G => ?_)
          have G : zS T A s.heap s [[zO3 t e0 e1 e2 y_44 u5 (if e5 < u5 then u5 else e5) a1_1 a2_2], [zAr T 0 a1_1 m1 (upd r1 e3.toNatClampNeg ((u4 <<< (14 &&& 31)) + x))], [zAr T 0 a2_2 7 r2], [zO0 h md wy la pc_ a1_3 a2_4 a3_5 a4_6 a5_7 a6_8, zAr T 0 a1_3 7 f1, zAr T 0 a2_4 7 f2, zAr T 0 a3_5 7 f3, zAr T 0 a4_6 n4 f4, zAr T 0 a5_7 n4 f5, zAr T 0 a6_8 n4 f6], [zO4 la cr inn a1_9 a2_10 a3_11 a4_12, zAr T 0 a1_9 7 k1, zAr T 0 a2_10 28 k2, zAr T 0 a3_11 7 k3, zAr T 0 a4_12 7 k4], [(lg, .inr (5, [.int gg, .ref a1_13, .ref a2_14]))], [zAr T 0 a1_13 8 d1], [zAr T 0 a2_14 8 d2]] _ _ := G
          have hw_45 : bFit T t e0 e1 e2 y_44 u5 (if e5 < u5 then u5 else e5) (upd r1 e3.toNatClampNeg ((u4 <<< (14 &&& 31)) + x)) m1 r2 [zO3 t e0 e1 e2 y_44 u5 (if e5 < u5 then u5 else e5) a1_1 a2_2, zAr T 0 a1_1 m1 (upd r1 e3.toNatClampNeg ((u4 <<< (14 &&& 31)) + x)), zAr T 0 a2_2 7 r2] := ⟨a1_1, a2_2, rfl⟩
          have G : zS T A s.heap s [[zO3 t e0 e1 e2 y_44 u5 (if e5 < u5 then u5 else e5) a1_1 a2_2, zAr T 0 a1_1 m1 (upd r1 e3.toNatClampNeg ((u4 <<< (14 &&& 31)) + x)), zAr T 0 a2_2 7 r2], [zO0 h md wy la pc_ a1_3 a2_4 a3_5 a4_6 a5_7 a6_8, zAr T 0 a1_3 7 f1, zAr T 0 a2_4 7 f2, zAr T 0 a3_5 7 f3, zAr T 0 a4_6 n4 f4, zAr T 0 a5_7 n4 f5, zAr T 0 a6_8 n4 f6], [zO4 la cr inn a1_9 a2_10 a3_11 a4_12, zAr T 0 a1_9 7 k1, zAr T 0 a2_10 28 k2, zAr T 0 a3_11 7 k3, zAr T 0 a4_12 7 k4], [(lg, .inr (5, [.int gg, .ref a1_13, .ref a2_14]))], [zAr T 0 a1_13 8 d1], [zAr T 0 a2_14 8 d2]] _ _ := G.re rfl
          have hw_46 : bLog T lg gg d1 d2 [(lg, .inr (5, [.int gg, .ref a1_13, .ref a2_14])), zAr T 0 a1_13 8 d1, zAr T 0 a2_14 8 d2] := ⟨a1_13, a2_14, rfl⟩
          have G : zS T A s.heap s [[zO3 t e0 e1 e2 y_44 u5 (if e5 < u5 then u5 else e5) a1_1 a2_2, zAr T 0 a1_1 m1 (upd r1 e3.toNatClampNeg ((u4 <<< (14 &&& 31)) + x)), zAr T 0 a2_2 7 r2], [zO0 h md wy la pc_ a1_3 a2_4 a3_5 a4_6 a5_7 a6_8, zAr T 0 a1_3 7 f1, zAr T 0 a2_4 7 f2, zAr T 0 a3_5 7 f3, zAr T 0 a4_6 n4 f4, zAr T 0 a5_7 n4 f5, zAr T 0 a6_8 n4 f6], [zO4 la cr inn a1_9 a2_10 a3_11 a4_12, zAr T 0 a1_9 7 k1, zAr T 0 a2_10 28 k2, zAr T 0 a3_11 7 k3, zAr T 0 a4_12 7 k4], [(lg, .inr (5, [.int gg, .ref a1_13, .ref a2_14])), zAr T 0 a1_13 8 d1, zAr T 0 a2_14 8 d2]] _ _ := G.re rfl
          exact z_back hQz_ (z_vret C hr hlocks G (Nat.le_of_ble_eq_true rfl) (Nat.le_of_ble_eq_true rfl) dX3_tryWay_170 ⟨([zO3 t e0 e1 e2 y_44 u5 (if e5 < u5 then u5 else e5) a1_1 a2_2, zAr T 0 a1_1 m1 (upd r1 e3.toNatClampNeg ((u4 <<< (14 &&& 31)) + x)), zAr T 0 a2_2 7 r2]), y_44, u5, (if e5 < u5 then u5 else e5), (upd r1 e3.toNatClampNeg ((u4 <<< (14 &&& 31)) + x)), rfl, hw_45, (by omega)⟩)
    · have c_33n : ¬ 8 ≤ i := fun q => c_33 ((nI_leI (a := 8) (b := i) (by omega) (by omega)).mpr q)
      refine lv_aload_n hx hb dX3_tryWay_25 rfl (lv_at hl 5 rfl) ?_
      refine z_get C G clX5 3 rfl 1 (by decide) m_fl_RX3_52 rfl dX3_tryWay_26 ?_
      refine lv_iload hx hb dX3_tryWay_29 (lv_at hl 0 rfl) ?_
      refine z_ild C G 4 rfl (vp_in_nI (by omega) (by decide)) dX3_tryWay_31 ?_
      refine lv_topi (fun v_47 ev_47 => ?_)
      rw [nI_clamp (by omega)] at ev_47
      subst ev_47
      refine lv_istore (lv' := [(7, .int (d1 i)), (6, .int (nI i)), (5, .int u5), (4, .int u4), (0, .ref t), (1, .ref h), (2, .ref lg), (3, .int x)]) hx hb dX3_tryWay_32 hl (by decide) (zLvf_h rfl) (fun ls hl => ?_)
      refine lv_aload_n hx hb dX3_tryWay_34 rfl (lv_at hl 5 rfl) ?_
      have G : zS T A s.heap s [[zO3 t e0 e1 e2 e3 e4 e5 a1_1 a2_2, zAr T 0 a1_1 m1 r1, zAr T 0 a2_2 7 r2], [zO0 h md wy la pc_ a1_3 a2_4 a3_5 a4_6 a5_7 a6_8], [zAr T 0 a1_3 7 f1], [zAr T 0 a2_4 7 f2], [zAr T 0 a3_5 7 f3], [zAr T 0 a4_6 n4 f4], [zAr T 0 a5_7 n4 f5], [zAr T 0 a6_8 n4 f6], [zO4 la cr inn a1_9 a2_10 a3_11 a4_12, zAr T 0 a1_9 7 k1, zAr T 0 a2_10 28 k2, zAr T 0 a3_11 7 k3, zAr T 0 a4_12 7 k4], [(lg, .inr (5, [.int gg, .ref a1_13, .ref a2_14]))], [zAr T 0 a1_13 8 d1], [zAr T 0 a2_14 8 d2]] _ _ := G.re rfl
      refine z_get C G clX0 1 rfl 2 (by decide) m_fl_RX3_55 rfl dX3_tryWay_35 ?_
      refine lv_iload hx hb dX3_tryWay_38 (lv_at hl 0 rfl) ?_
      refine z_Vi (bc := [[zO4 la cr inn a1_9 a2_10 a3_11 a4_12, zAr T 0 a1_9 7 k1, zAr T 0 a2_10 28 k2, zAr T 0 a3_11 7 k3, zAr T 0 a4_12 7 k4]]) (br := [[zO3 t e0 e1 e2 e3 e4 e5 a1_1 a2_2, zAr T 0 a1_1 m1 r1, zAr T 0 a2_2 7 r2], [zO0 h md wy la pc_ a1_3 a2_4 a3_5 a4_6 a5_7 a6_8], [zAr T 0 a1_3 7 f1], [zAr T 0 a2_4 7 f2], [zAr T 0 a3_5 7 f3], [zAr T 0 a4_6 n4 f4], [zAr T 0 a5_7 n4 f5], [zAr T 0 a6_8 n4 f6], [(lg, .inr (5, [.int gg, .ref a1_13, .ref a2_14]))], [zAr T 0 a1_13 8 d1], [zAr T 0 a2_14 8 d2]]) (As := [.int (d1 i)]) (rest := []) C G (c_has l T la cr inn k1 k2 k3 k4 ([zO4 la cr inn a1_9 a2_10 a3_11 a4_12, zAr T 0 a1_9 7 k1, zAr T 0 a2_10 28 k2, zAr T 0 a3_11 7 k3, zAr T 0 a4_12 7 k4]) (d1 i) hw_17) (kV_RX3_58 C.2.2.2.2 (Nat.le_of_ble_eq_true rfl) (Nat.le_of_ble_eq_true rfl)) [8] [8] rfl rfl (ci := 4) (qc := (RX4, TX4, 6)) rfl rfl (List.mem_flatten.mpr ⟨_, List.mem_of_getElem? (i := 0) rfl, (bLand_mem hw_17).choose_spec⟩) rfl rfl hl.1 dX3_tryWay_40 (Nat.le_of_ble_eq_true rfl) (Nat.le_of_ble_eq_true rfl) (fun r_49 b1 H locs hw G => ?_)
      refine zAn2 hw ?_
      intro hbs9 hc_48
      clear hw
      subst hbs9
      have G : zS T A s.heap s [[zO3 t e0 e1 e2 e3 e4 e5 a1_1 a2_2, zAr T 0 a1_1 m1 r1, zAr T 0 a2_2 7 r2], [zO0 h md wy la pc_ a1_3 a2_4 a3_5 a4_6 a5_7 a6_8], [zAr T 0 a1_3 7 f1], [zAr T 0 a2_4 7 f2], [zAr T 0 a3_5 7 f3], [zAr T 0 a4_6 n4 f4], [zAr T 0 a5_7 n4 f5], [zAr T 0 a6_8 n4 f6], [(lg, .inr (5, [.int gg, .ref a1_13, .ref a2_14]))], [zAr T 0 a1_13 8 d1], [zAr T 0 a2_14 8 d2], [zO4 la cr inn a1_9 a2_10 a3_11 a4_12, zAr T 0 a1_9 7 k1, zAr T 0 a2_10 28 k2, zAr T 0 a3_11 7 k3, zAr T 0 a4_12 7 k4]] _ _ := G
      rcases hc_48 with ⟨rfl, h_50, h_51, h_52⟩ | ⟨rfl, h_53⟩
      · have h_50 : 0 ≤ (d1 i).toInt := h_50
        have h_51 : (d1 i).toInt < cr.toInt := h_51
        have h_52 : (d1 i).toInt < 7 := h_52
        refine lv_if_eq (tgt := 64) hx hb dX3_tryWay_43 (by decide) (fun q => absurd q (by decide)) (fun _ => ?_)
        refine lv_aload_n hx hb dX3_tryWay_46 rfl (lv_at hl 5 rfl) ?_
        refine lv_iload hx hb dX3_tryWay_47 (lv_at hl 3 rfl) ?_
        refine lv_iload hx hb dX3_tryWay_49 (lv_at hl 0 rfl) ?_
        refine lv_aload_n hx hb dX3_tryWay_51 rfl (lv_at hl 6 rfl) ?_
        refine z_get C G clX5 8 rfl 2 (by decide) m_fl_RX3_64 rfl dX3_tryWay_52 ?_
        refine lv_iload hx hb dX3_tryWay_55 (lv_at hl 1 rfl) ?_
        refine z_ild C G 10 rfl (vp_in_nI (by omega) (by decide)) dX3_tryWay_57 ?_
        refine lv_topi (fun v_54 ev_54 => ?_)
        rw [nI_clamp (by omega)] at ev_54
        subst ev_54
        have hw_55 : bWays T h la md wy pc_ f1 f2 f3 f4 f5 f6 n4 [zO0 h md wy la pc_ a1_3 a2_4 a3_5 a4_6 a5_7 a6_8, zAr T 0 a1_3 7 f1, zAr T 0 a2_4 7 f2, zAr T 0 a3_5 7 f3, zAr T 0 a4_6 n4 f4, zAr T 0 a5_7 n4 f5, zAr T 0 a6_8 n4 f6] := ⟨a1_3, a2_4, a3_5, a4_6, a5_7, a6_8, rfl⟩
        have G : zS T A s.heap s [[zO3 t e0 e1 e2 e3 e4 e5 a1_1 a2_2, zAr T 0 a1_1 m1 r1, zAr T 0 a2_2 7 r2], [zO0 h md wy la pc_ a1_3 a2_4 a3_5 a4_6 a5_7 a6_8, zAr T 0 a1_3 7 f1, zAr T 0 a2_4 7 f2, zAr T 0 a3_5 7 f3, zAr T 0 a4_6 n4 f4, zAr T 0 a5_7 n4 f5, zAr T 0 a6_8 n4 f6], [(lg, .inr (5, [.int gg, .ref a1_13, .ref a2_14]))], [zAr T 0 a1_13 8 d1], [zAr T 0 a2_14 8 d2], [zO4 la cr inn a1_9 a2_10 a3_11 a4_12, zAr T 0 a1_9 7 k1, zAr T 0 a2_10 28 k2, zAr T 0 a3_11 7 k3, zAr T 0 a4_12 7 k4]] _ _ := G.re rfl
        refine z_Si (bc := [[zO0 h md wy la pc_ a1_3 a2_4 a3_5 a4_6 a5_7 a6_8, zAr T 0 a1_3 7 f1, zAr T 0 a2_4 7 f2, zAr T 0 a3_5 7 f3, zAr T 0 a4_6 n4 f4, zAr T 0 a5_7 n4 f5, zAr T 0 a6_8 n4 f6], [zO4 la cr inn a1_9 a2_10 a3_11 a4_12, zAr T 0 a1_9 7 k1, zAr T 0 a2_10 28 k2, zAr T 0 a3_11 7 k3, zAr T 0 a4_12 7 k4]]) (br := [[zO3 t e0 e1 e2 e3 e4 e5 a1_1 a2_2, zAr T 0 a1_1 m1 r1, zAr T 0 a2_2 7 r2], [(lg, .inr (5, [.int gg, .ref a1_13, .ref a2_14]))], [zAr T 0 a1_13 8 d1], [zAr T 0 a2_14 8 d2]]) (As := [.ref h, .int u4, .int (d1 i), .int (d2 i)]) (rest := []) C G (c_isSo_x l T h la md wy pc_ f1 f2 f3 f4 f5 f6 n4 ([zO0 h md wy la pc_ a1_3 a2_4 a3_5 a4_6 a5_7 a6_8, zAr T 0 a1_3 7 f1, zAr T 0 a2_4 7 f2, zAr T 0 a3_5 7 f3, zAr T 0 a4_6 n4 f4, zAr T 0 a5_7 n4 f5, zAr T 0 a6_8 n4 f6]) cr inn k1 k2 k3 k4 ([zO4 la cr inn a1_9 a2_10 a3_11 a4_12, zAr T 0 a1_9 7 k1, zAr T 0 a2_10 28 k2, zAr T 0 a3_11 7 k3, zAr T 0 a4_12 7 k4]) u4 (d1 i) (d2 i) hw_55 hw_17 (by first | with_reducible assumption | with_reducible rfl | omega | assumption | rfl)) (kS_RX3_67 C.2.2.2.2 (Nat.le_of_ble_eq_true rfl) (Nat.le_of_ble_eq_true rfl)) [1, 5] [1, 3] rfl rfl rfl rfl hl.1 dX3_tryWay_58 (Nat.le_of_ble_eq_true rfl) (Nat.le_of_ble_eq_true rfl) (fun r_57 b1 H locs hw G => ?_)
        refine zAn2 hw ?_
        intro hbs9 h_56
        clear hw
        subst hbs9
        have G : zS T A s.heap s [[zO3 t e0 e1 e2 e3 e4 e5 a1_1 a2_2, zAr T 0 a1_1 m1 r1, zAr T 0 a2_2 7 r2], [(lg, .inr (5, [.int gg, .ref a1_13, .ref a2_14]))], [zAr T 0 a1_13 8 d1], [zAr T 0 a2_14 8 d2], [zO0 h md wy la pc_ a1_3 a2_4 a3_5 a4_6 a5_7 a6_8, zAr T 0 a1_3 7 f1, zAr T 0 a2_4 7 f2, zAr T 0 a3_5 7 f3, zAr T 0 a4_6 n4 f4, zAr T 0 a5_7 n4 f5, zAr T 0 a6_8 n4 f6], [zO4 la cr inn a1_9 a2_10 a3_11 a4_12, zAr T 0 a1_9 7 k1, zAr T 0 a2_10 28 k2, zAr T 0 a3_11 7 k3, zAr T 0 a4_12 7 k4]] _ _ := G
        replace h_56 : zHd ((r_57 = 0 ∨ r_57 = 1)) := h_56
        refine lv_if_ne (tgt := 65) hx hb dX3_tryWay_61 (by decide) (fun c_58 => ?_) (fun c_58 => ?_)
        · have c_58n : ¬ r_57.toInt = (0 : Int) := fun q => c_58 ((fa_eq _ _).mpr q)
          refine lv_iload hx hb dX3_tryWay_65 (lv_at hl 2 rfl) ?_
          refine lv_aload_n hx hb dX3_tryWay_67 rfl (lv_at hl 5 rfl) ?_
          refine lv_iload hx hb dX3_tryWay_68 (lv_at hl 3 rfl) ?_
          refine lv_iload hx hb dX3_tryWay_70 (lv_at hl 0 rfl) ?_
          refine z_Vi (bc := [[zO0 h md wy la pc_ a1_3 a2_4 a3_5 a4_6 a5_7 a6_8, zAr T 0 a1_3 7 f1, zAr T 0 a2_4 7 f2, zAr T 0 a3_5 7 f3, zAr T 0 a4_6 n4 f4, zAr T 0 a5_7 n4 f5, zAr T 0 a6_8 n4 f6]]) (br := [[zO3 t e0 e1 e2 e3 e4 e5 a1_1 a2_2, zAr T 0 a1_1 m1 r1, zAr T 0 a2_2 7 r2], [(lg, .inr (5, [.int gg, .ref a1_13, .ref a2_14]))], [zAr T 0 a1_13 8 d1], [zAr T 0 a2_14 8 d2], [zO4 la cr inn a1_9 a2_10 a3_11 a4_12, zAr T 0 a1_9 7 k1, zAr T 0 a2_10 28 k2, zAr T 0 a3_11 7 k3, zAr T 0 a4_12 7 k4]]) (As := [.int u4, .int (d1 i)]) (rest := [.int u5]) C G (c_steps l T h la md wy pc_ f1 f2 f3 f4 f5 f6 n4 ([zO0 h md wy la pc_ a1_3 a2_4 a3_5 a4_6 a5_7 a6_8, zAr T 0 a1_3 7 f1, zAr T 0 a2_4 7 f2, zAr T 0 a3_5 7 f3, zAr T 0 a4_6 n4 f4, zAr T 0 a5_7 n4 f5, zAr T 0 a6_8 n4 f6]) u4 (d1 i) hw_55 (by first | with_reducible assumption | with_reducible rfl | omega | assumption | rfl)) (kV_RX3_71 C.2.2.2.2 (Nat.le_of_ble_eq_true rfl) (Nat.le_of_ble_eq_true rfl)) [4] [4] rfl rfl (ci := 0) (qc := (RX0, TX0, 10)) rfl rfl (List.mem_flatten.mpr ⟨_, List.mem_of_getElem? (i := 0) rfl, (bWays_mem hw_55).choose_spec⟩) rfl rfl hl.1 dX3_tryWay_72 (Nat.le_of_ble_eq_true rfl) (Nat.le_of_ble_eq_true rfl) (fun r_60 b1 H locs hw G => ?_)
          refine zAn2 hw ?_
          intro hbs9 h_59
          clear hw
          subst hbs9
          have G : zS T A s.heap s [[zO3 t e0 e1 e2 e3 e4 e5 a1_1 a2_2, zAr T 0 a1_1 m1 r1, zAr T 0 a2_2 7 r2], [(lg, .inr (5, [.int gg, .ref a1_13, .ref a2_14]))], [zAr T 0 a1_13 8 d1], [zAr T 0 a2_14 8 d2], [zO4 la cr inn a1_9 a2_10 a3_11 a4_12, zAr T 0 a1_9 7 k1, zAr T 0 a2_10 28 k2, zAr T 0 a3_11 7 k3, zAr T 0 a4_12 7 k4], [zO0 h md wy la pc_ a1_3 a2_4 a3_5 a4_6 a5_7 a6_8, zAr T 0 a1_3 7 f1, zAr T 0 a2_4 7 f2, zAr T 0 a3_5 7 f3, zAr T 0 a4_6 n4 f4, zAr T 0 a5_7 n4 f5, zAr T 0 a6_8 n4 f6]] _ _ := G
          subst h_59
          refine lv_iadd hx hb dX3_tryWay_75 ?_
          refine lv_istore (lv' := [(5, .int (u5 + (zEntry f5 n4 u4 (d1 i) >>> (17 &&& 31)))), (7, .int (d1 i)), (6, .int (nI i)), (4, .int u4), (0, .ref t), (1, .ref h), (2, .ref lg), (3, .int x)]) hx hb dX3_tryWay_76 hl (by decide) (zLvf_h rfl) (fun ls hl => ?_)
          refine lv_aload_n hx hb dX3_tryWay_78 rfl (lv_at hl 5 rfl) ?_
          refine lv_iload hx hb dX3_tryWay_79 (lv_at hl 3 rfl) ?_
          refine lv_iload hx hb dX3_tryWay_81 (lv_at hl 1 rfl) ?_
          refine z_Vi (bc := [[zO0 h md wy la pc_ a1_3 a2_4 a3_5 a4_6 a5_7 a6_8, zAr T 0 a1_3 7 f1, zAr T 0 a2_4 7 f2, zAr T 0 a3_5 7 f3, zAr T 0 a4_6 n4 f4, zAr T 0 a5_7 n4 f5, zAr T 0 a6_8 n4 f6]]) (br := [[zO3 t e0 e1 e2 e3 e4 e5 a1_1 a2_2, zAr T 0 a1_1 m1 r1, zAr T 0 a2_2 7 r2], [(lg, .inr (5, [.int gg, .ref a1_13, .ref a2_14]))], [zAr T 0 a1_13 8 d1], [zAr T 0 a2_14 8 d2], [zO4 la cr inn a1_9 a2_10 a3_11 a4_12, zAr T 0 a1_9 7 k1, zAr T 0 a2_10 28 k2, zAr T 0 a3_11 7 k3, zAr T 0 a4_12 7 k4]]) (As := [.int u4, .int (d1 i)]) (rest := []) C G (c_wayAfter l T h la md wy pc_ f1 f2 f3 f4 f5 f6 n4 ([zO0 h md wy la pc_ a1_3 a2_4 a3_5 a4_6 a5_7 a6_8, zAr T 0 a1_3 7 f1, zAr T 0 a2_4 7 f2, zAr T 0 a3_5 7 f3, zAr T 0 a4_6 n4 f4, zAr T 0 a5_7 n4 f5, zAr T 0 a6_8 n4 f6]) u4 (d1 i) hw_55 (by first | with_reducible assumption | with_reducible rfl | omega | assumption | rfl)) (kV_RX3_75 C.2.2.2.2 (Nat.le_of_ble_eq_true rfl) (Nat.le_of_ble_eq_true rfl)) [5] [5] rfl rfl (ci := 0) (qc := (RX0, TX0, 10)) rfl rfl (List.mem_flatten.mpr ⟨_, List.mem_of_getElem? (i := 0) rfl, (bWays_mem hw_55).choose_spec⟩) rfl rfl hl.1 dX3_tryWay_83 (Nat.le_of_ble_eq_true rfl) (Nat.le_of_ble_eq_true rfl) (fun r_62 b1 H locs hw G => ?_)
          refine zAn2 hw ?_
          intro hbs9 h_61
          clear hw
          subst hbs9
          have G : zS T A s.heap s [[zO3 t e0 e1 e2 e3 e4 e5 a1_1 a2_2, zAr T 0 a1_1 m1 r1, zAr T 0 a2_2 7 r2], [(lg, .inr (5, [.int gg, .ref a1_13, .ref a2_14]))], [zAr T 0 a1_13 8 d1], [zAr T 0 a2_14 8 d2], [zO4 la cr inn a1_9 a2_10 a3_11 a4_12, zAr T 0 a1_9 7 k1, zAr T 0 a2_10 28 k2, zAr T 0 a3_11 7 k3, zAr T 0 a4_12 7 k4], [zO0 h md wy la pc_ a1_3 a2_4 a3_5 a4_6 a5_7 a6_8, zAr T 0 a1_3 7 f1, zAr T 0 a2_4 7 f2, zAr T 0 a3_5 7 f3, zAr T 0 a4_6 n4 f4, zAr T 0 a5_7 n4 f5, zAr T 0 a6_8 n4 f6]] _ _ := G
          subst h_61
          refine lv_istore (lv' := [(4, .int ((zEntry f5 n4 u4 (d1 i) &&& 131071) >>> (3 &&& 31))), (5, .int (u5 + (zEntry f5 n4 u4 (d1 i) >>> (17 &&& 31)))), (7, .int (d1 i)), (6, .int (nI i)), (0, .ref t), (1, .ref h), (2, .ref lg), (3, .int x)]) hx hb dX3_tryWay_86 hl (by decide) (zLvf_h rfl) (fun ls hl => ?_)
          refine lv_iinc (v := nI (i + 1)) (lv' := [(6, .int (nI (i + 1))), (4, .int ((zEntry f5 n4 u4 (d1 i) &&& 131071) >>> (3 &&& 31))), (5, .int (u5 + (zEntry f5 n4 u4 (d1 i) >>> (17 &&& 31)))), (7, .int (d1 i)), (0, .ref t), (1, .ref h), (2, .ref lg), (3, .int x)]) hx hb dX3_tryWay_88 hl (k := 3) rfl (z_inc i 1) (by decide) (zLvf_h rfl) (fun ls hl => ?_)
          refine lv_goto (tgt := 9) hx hb dX3_tryWay_91 (by decide) ?_
          have hw_63 : bLog T lg gg d1 d2 [(lg, .inr (5, [.int gg, .ref a1_13, .ref a2_14])), zAr T 0 a1_13 8 d1, zAr T 0 a2_14 8 d2] := ⟨a1_13, a2_14, rfl⟩
          have G : zS T A s.heap s [[zO3 t e0 e1 e2 e3 e4 e5 a1_1 a2_2, zAr T 0 a1_1 m1 r1, zAr T 0 a2_2 7 r2], [(lg, .inr (5, [.int gg, .ref a1_13, .ref a2_14])), zAr T 0 a1_13 8 d1, zAr T 0 a2_14 8 d2], [zO4 la cr inn a1_9 a2_10 a3_11 a4_12, zAr T 0 a1_9 7 k1, zAr T 0 a2_10 28 k2, zAr T 0 a3_11 7 k3, zAr T 0 a4_12 7 k4], [zO0 h md wy la pc_ a1_3 a2_4 a3_5 a4_6 a5_7 a6_8, zAr T 0 a1_3 7 f1, zAr T 0 a2_4 7 f2, zAr T 0 a3_5 7 f3, zAr T 0 a4_6 n4 f4, zAr T 0 a5_7 n4 f5, zAr T 0 a6_8 n4 f6]] _ _ := G.re rfl
          have G := G.sub (bs' := [[zO3 t e0 e1 e2 e3 e4 e5 a1_1 a2_2, zAr T 0 a1_1 m1 r1, zAr T 0 a2_2 7 r2], [zO0 h md wy la pc_ a1_3 a2_4 a3_5 a4_6 a5_7 a6_8, zAr T 0 a1_3 7 f1, zAr T 0 a2_4 7 f2, zAr T 0 a3_5 7 f3, zAr T 0 a4_6 n4 f4, zAr T 0 a5_7 n4 f5, zAr T 0 a6_8 n4 f6], [zO4 la cr inn a1_9 a2_10 a3_11 a4_12, zAr T 0 a1_9 7 k1, zAr T 0 a2_10 28 k2, zAr T 0 a3_11 7 k3, zAr T 0 a4_12 7 k4], [(lg, .inr (5, [.int gg, .ref a1_13, .ref a2_14])), zAr T 0 a1_13 8 d1, zAr T 0 a2_14 8 d2]]) [0, 3, 2, 1] rfl
          exact ih_9 (i + 1) ((zEntry f5 n4 u4 (d1 i) &&& 131071) >>> (3 &&& 31)) (u5 + (zEntry f5 n4 u4 (d1 i) >>> (17 &&& 31))) (show (i + 1) ≤ 8 from by omega) (show 8 - (i + 1) < 8 - i from by omega) _ _ ls G (lv_sub hl [0, 2, 1, 4, 5, 6, 7] rfl)
        · have c_58n : r_57.toInt = (0 : Int) := (fa_eq _ _).mp c_58
          have hw_64 : bLog T lg gg d1 d2 [(lg, .inr (5, [.int gg, .ref a1_13, .ref a2_14])), zAr T 0 a1_13 8 d1, zAr T 0 a2_14 8 d2] := ⟨a1_13, a2_14, rfl⟩
          have G : zS T A s.heap s [[zO3 t e0 e1 e2 e3 e4 e5 a1_1 a2_2, zAr T 0 a1_1 m1 r1, zAr T 0 a2_2 7 r2], [(lg, .inr (5, [.int gg, .ref a1_13, .ref a2_14])), zAr T 0 a1_13 8 d1, zAr T 0 a2_14 8 d2], [zO0 h md wy la pc_ a1_3 a2_4 a3_5 a4_6 a5_7 a6_8, zAr T 0 a1_3 7 f1, zAr T 0 a2_4 7 f2, zAr T 0 a3_5 7 f3, zAr T 0 a4_6 n4 f4, zAr T 0 a5_7 n4 f5, zAr T 0 a6_8 n4 f6], [zO4 la cr inn a1_9 a2_10 a3_11 a4_12, zAr T 0 a1_9 7 k1, zAr T 0 a2_10 28 k2, zAr T 0 a3_11 7 k3, zAr T 0 a4_12 7 k4]] _ _ := G.re rfl
          have G := G.sub (bs' := [[zO3 t e0 e1 e2 e3 e4 e5 a1_1 a2_2, zAr T 0 a1_1 m1 r1, zAr T 0 a2_2 7 r2], [zO0 h md wy la pc_ a1_3 a2_4 a3_5 a4_6 a5_7 a6_8, zAr T 0 a1_3 7 f1, zAr T 0 a2_4 7 f2, zAr T 0 a3_5 7 f3, zAr T 0 a4_6 n4 f4, zAr T 0 a5_7 n4 f5, zAr T 0 a6_8 n4 f6], [zO4 la cr inn a1_9 a2_10 a3_11 a4_12, zAr T 0 a1_9 7 k1, zAr T 0 a2_10 28 k2, zAr T 0 a3_11 7 k3, zAr T 0 a4_12 7 k4], [(lg, .inr (5, [.int gg, .ref a1_13, .ref a2_14])), zAr T 0 a1_13 8 d1, zAr T 0 a2_14 8 d2]]) [0, 2, 3, 1] rfl
          exact z_back hQz_ (z_vret C hr hlocks G (Nat.le_of_ble_eq_true rfl) (Nat.le_of_ble_eq_true rfl) dX3_tryWay_64 ⟨([zO3 t e0 e1 e2 e3 e4 e5 a1_1 a2_2, zAr T 0 a1_1 m1 r1, zAr T 0 a2_2 7 r2]), e3, e4, e5, r1, rfl, hw_15, h3⟩)
      · have h_53 : ((d1 i).toInt < 0 ∨ cr.toInt ≤ (d1 i).toInt ∨ 7 ≤ (d1 i).toInt) := h_53
        refine lv_if_eq (tgt := 64) hx hb dX3_tryWay_43 (by decide) (fun _ => ?_) (fun q => absurd (by decide) q)
        have hw_65 : bWays T h la md wy pc_ f1 f2 f3 f4 f5 f6 n4 [zO0 h md wy la pc_ a1_3 a2_4 a3_5 a4_6 a5_7 a6_8, zAr T 0 a1_3 7 f1, zAr T 0 a2_4 7 f2, zAr T 0 a3_5 7 f3, zAr T 0 a4_6 n4 f4, zAr T 0 a5_7 n4 f5, zAr T 0 a6_8 n4 f6] := ⟨a1_3, a2_4, a3_5, a4_6, a5_7, a6_8, rfl⟩
        have G : zS T A s.heap s [[zO3 t e0 e1 e2 e3 e4 e5 a1_1 a2_2, zAr T 0 a1_1 m1 r1, zAr T 0 a2_2 7 r2], [zO0 h md wy la pc_ a1_3 a2_4 a3_5 a4_6 a5_7 a6_8, zAr T 0 a1_3 7 f1, zAr T 0 a2_4 7 f2, zAr T 0 a3_5 7 f3, zAr T 0 a4_6 n4 f4, zAr T 0 a5_7 n4 f5, zAr T 0 a6_8 n4 f6], [(lg, .inr (5, [.int gg, .ref a1_13, .ref a2_14]))], [zAr T 0 a1_13 8 d1], [zAr T 0 a2_14 8 d2], [zO4 la cr inn a1_9 a2_10 a3_11 a4_12, zAr T 0 a1_9 7 k1, zAr T 0 a2_10 28 k2, zAr T 0 a3_11 7 k3, zAr T 0 a4_12 7 k4]] _ _ := G.re rfl
        have hw_66 : bLog T lg gg d1 d2 [(lg, .inr (5, [.int gg, .ref a1_13, .ref a2_14])), zAr T 0 a1_13 8 d1, zAr T 0 a2_14 8 d2] := ⟨a1_13, a2_14, rfl⟩
        have G : zS T A s.heap s [[zO3 t e0 e1 e2 e3 e4 e5 a1_1 a2_2, zAr T 0 a1_1 m1 r1, zAr T 0 a2_2 7 r2], [zO0 h md wy la pc_ a1_3 a2_4 a3_5 a4_6 a5_7 a6_8, zAr T 0 a1_3 7 f1, zAr T 0 a2_4 7 f2, zAr T 0 a3_5 7 f3, zAr T 0 a4_6 n4 f4, zAr T 0 a5_7 n4 f5, zAr T 0 a6_8 n4 f6], [(lg, .inr (5, [.int gg, .ref a1_13, .ref a2_14])), zAr T 0 a1_13 8 d1, zAr T 0 a2_14 8 d2], [zO4 la cr inn a1_9 a2_10 a3_11 a4_12, zAr T 0 a1_9 7 k1, zAr T 0 a2_10 28 k2, zAr T 0 a3_11 7 k3, zAr T 0 a4_12 7 k4]] _ _ := G.re rfl
        have G := G.sub (bs' := [[zO3 t e0 e1 e2 e3 e4 e5 a1_1 a2_2, zAr T 0 a1_1 m1 r1, zAr T 0 a2_2 7 r2], [zO0 h md wy la pc_ a1_3 a2_4 a3_5 a4_6 a5_7 a6_8, zAr T 0 a1_3 7 f1, zAr T 0 a2_4 7 f2, zAr T 0 a3_5 7 f3, zAr T 0 a4_6 n4 f4, zAr T 0 a5_7 n4 f5, zAr T 0 a6_8 n4 f6], [zO4 la cr inn a1_9 a2_10 a3_11 a4_12, zAr T 0 a1_9 7 k1, zAr T 0 a2_10 28 k2, zAr T 0 a3_11 7 k3, zAr T 0 a4_12 7 k4], [(lg, .inr (5, [.int gg, .ref a1_13, .ref a2_14])), zAr T 0 a1_13 8 d1, zAr T 0 a2_14 8 d2]]) [0, 1, 3, 2] rfl
        exact z_back hQz_ (z_vret C hr hlocks G (Nat.le_of_ble_eq_true rfl) (Nat.le_of_ble_eq_true rfl) dX3_tryWay_64 ⟨([zO3 t e0 e1 e2 e3 e4 e5 a1_1 a2_2, zAr T 0 a1_1 m1 r1, zAr T 0 a2_2 7 r2]), e3, e4, e5, r1, rfl, hw_15, h3⟩)
set_option maxHeartbeats 4000000 in
set_option maxRecDepth 100000 in
/-- c_find -/
theorem c_find (l : Launch) (T : zTy) (t : Nat) (e0 : Int32) (e1 : Int32) (e2 : Int32) (e3 : Int32) (e4 : Int32) (e5 : Int32) (r1 : Nat → Int32) (m1 : Nat) (r2 : Nat → Int32) (wf : va_W) (h : Nat) (la : Nat) (md : Int32) (wy : Int32) (pc_ : Int32) (f1 : Nat → Int32) (f2 : Nat → Int32) (f3 : Nat → Int32) (f4 : Nat → Int32) (f5 : Nat → Int32) (f6 : Nat → Int32) (n4 : Nat) (ww : va_W) (cr : Int32) (inn : Int32) (k1 : Nat → Int32) (k2 : Nat → Int32) (k3 : Nat → Int32) (k4 : Nat → Int32) (z : va_W) (lg : Nat) (gg : Int32) (d1 : Nat → Int32) (d2 : Nat → Int32) (wg : va_W) (hwf : bFit T t e0 e1 e2 e3 e4 e5 r1 m1 r2 wf) (hww : bWays T h la md wy pc_ f1 f2 f3 f4 f5 f6 n4 ww) (hz : bLand T la cr inn k1 k2 k3 k4 z) (hg : bLog T lg gg d1 d2 wg) (hn : n4 ≤ 131072) (hfw : zFw m1) (hwm : 0 ≤ wy.toInt ∧ wy.toInt ≤ 16384) : zMv l T yX3_find cX3_find 4 5 1 (2 * (zFl m1 wy - m1)) [.ref t, .ref h, .ref lg] [wf, ww, z, wg] (fun bs => ∃ (w2 : va_W) (s3 : Int32) (s4 : Int32) (s5 : Int32) (g1 : Nat → Int32), bs = [w2, ww, z, wg] ∧ bFit T t e0 e1 e2 s3 s4 s5 g1 (zFl m1 wy) r2 w2 ∧ 0 ≤ s3.toInt) := by
  refine zMv_of (own := RX3) (by decide) rfl (Nat.le_of_ble_eq_true rfl) ?_
  intro p e s m args below meth c A ls C hr hlocks hnm hAe G hl
  refine zHide (fun Qz_ hQz_ => ?_)
  have hx := C.1
  have hb := C.2.1
  have hl : lv_has ls 4 [(0, .ref t), (1, .ref h), (2, .ref lg)] := hl
  refine lv_aload_n hx hb dX3_find_0 rfl (lv_at hl 0 rfl) ?_
  refine lv_aload_n hx hb dX3_find_1 rfl (lv_at hl 1 rfl) ?_
  refine zEx6 hww ?_
  intro a1_1 a2_2 a3_3 a4_4 a5_5 a6_6 hbs9
  clear hww
  subst hbs9
  have G : zS T A s.heap s [wf, [zO0 h md wy la pc_ a1_1 a2_2 a3_3 a4_4 a5_5 a6_6], [zAr T 0 a1_1 7 f1], [zAr T 0 a2_2 7 f2], [zAr T 0 a3_3 7 f3], [zAr T 0 a4_4 n4 f4], [zAr T 0 a5_5 n4 f5], [zAr T 0 a6_6 n4 f6], z, wg] _ _ := G.re rfl
  refine z_get C G clX0 1 rfl 1 (by decide) m_fl_RX3_25 rfl dX3_find_2 ?_
  have hfw2 := zFl_pw (wy := wy) hfw
  have hm2 := zFw_le hfw2
  refine z_Vv (bc := [wf]) (br := [[zO0 h md wy la pc_ a1_1 a2_2 a3_3 a4_4 a5_5 a6_6], [zAr T 0 a1_1 7 f1], [zAr T 0 a2_2 7 f2], [zAr T 0 a3_3 7 f3], [zAr T 0 a4_4 n4 f4], [zAr T 0 a5_5 n4 f5], [zAr T 0 a6_6 n4 f6], z, wg]) (As := [.int wy]) (rest := []) C G (c_Fit_grow l T t e0 e1 e2 e3 e4 e5 r1 m1 r2 wf wy hwf (by first | with_reducible assumption | with_reducible rfl | omega | assumption | rfl) hwm.2) (kV_RX3_30 C.2.2.2.2 (Nat.le_of_ble_eq_true rfl) (Nat.le_of_ble_eq_true rfl)) [0] [0] rfl rfl (ci := 3) (qc := (RX3, TX3, 8)) rfl rfl (List.mem_flatten.mpr ⟨_, List.mem_of_getElem? (i := 0) rfl, (bFit_mem hwf).choose_spec⟩) rfl rfl hl.1 dX3_find_5 (Nat.le_of_ble_eq_true rfl) (by show _ + (2 * (zFl m1 wy - m1)) ≤ 2 * (zFl m1 wy - m1); omega) (fun b1 H locs hw G => ?_)
  refine zEx2 hw ?_
  intro w2_7 g1_8
  refine zCu2 ?_
  intro hbs9 h_9
  clear hw
  subst hbs9
  have G : zS T A s.heap s [[zO0 h md wy la pc_ a1_1 a2_2 a3_3 a4_4 a5_5 a6_6], [zAr T 0 a1_1 7 f1], [zAr T 0 a2_2 7 f2], [zAr T 0 a3_3 7 f3], [zAr T 0 a4_4 n4 f4], [zAr T 0 a5_5 n4 f5], [zAr T 0 a6_6 n4 f6], z, wg, w2_7] _ _ := G
  refine lv_aload_n hx hb dX3_find_8 rfl (lv_at hl 0 rfl) ?_
  refine lv_iconst (v := 0) hx hb dX3_find_9 (by decide) ?_
  refine zEx2 h_9 ?_
  intro a1_11 a2_12 hbs9
  clear h_9
  subst hbs9
  have G : zS T A s.heap s [[zO0 h md wy la pc_ a1_1 a2_2 a3_3 a4_4 a5_5 a6_6], [zAr T 0 a1_1 7 f1], [zAr T 0 a2_2 7 f2], [zAr T 0 a3_3 7 f3], [zAr T 0 a4_4 n4 f4], [zAr T 0 a5_5 n4 f5], [zAr T 0 a6_6 n4 f6], z, wg, [zO3 t e0 e1 e2 e3 e4 e5 a1_11 a2_12], [zAr T 0 a1_11 (zFl m1 wy) g1_8], [zAr T 0 a2_12 7 r2]] _ _ := G.re rfl
  refine z_put C G clX3 9 rfl 3 (by decide) m_fl_RX3_34 rfl rfl rfl (Nat.le_of_ble_eq_true rfl) dX3_find_10 (fun H locs G => ?_)
  have G : zS T A s.heap s [[zO0 h md wy la pc_ a1_1 a2_2 a3_3 a4_4 a5_5 a6_6], [zAr T 0 a1_1 7 f1], [zAr T 0 a2_2 7 f2], [zAr T 0 a3_3 7 f3], [zAr T 0 a4_4 n4 f4], [zAr T 0 a5_5 n4 f5], [zAr T 0 a6_6 n4 f6], z, wg, [zO3 t e0 e1 e2 0 e4 e5 a1_11 a2_12], [zAr T 0 a1_11 (zFl m1 wy) g1_8], [zAr T 0 a2_12 7 r2]] _ _ := G
  refine lv_aload_n hx hb dX3_find_13 rfl (lv_at hl 0 rfl) ?_
  refine lv_iconst (v := 0) hx hb dX3_find_14 (by decide) ?_
  refine z_put C G clX3 9 rfl 4 (by decide) m_fl_RX3_37 rfl rfl rfl (Nat.le_of_ble_eq_true rfl) dX3_find_15 (fun H locs G => ?_)
  have G : zS T A s.heap s [[zO0 h md wy la pc_ a1_1 a2_2 a3_3 a4_4 a5_5 a6_6], [zAr T 0 a1_1 7 f1], [zAr T 0 a2_2 7 f2], [zAr T 0 a3_3 7 f3], [zAr T 0 a4_4 n4 f4], [zAr T 0 a5_5 n4 f5], [zAr T 0 a6_6 n4 f6], z, wg, [zO3 t e0 e1 e2 0 0 e5 a1_11 a2_12], [zAr T 0 a1_11 (zFl m1 wy) g1_8], [zAr T 0 a2_12 7 r2]] _ _ := G
  refine lv_aload_n hx hb dX3_find_18 rfl (lv_at hl 0 rfl) ?_
  refine lv_iconst (v := 0) hx hb dX3_find_19 (by decide) ?_
  refine z_put C G clX3 9 rfl 5 (by decide) m_fl_RX3_40 rfl rfl rfl (Nat.le_of_ble_eq_true rfl) dX3_find_20 (fun H locs G => ?_)
  have G : zS T A s.heap s [[zO0 h md wy la pc_ a1_1 a2_2 a3_3 a4_4 a5_5 a6_6], [zAr T 0 a1_1 7 f1], [zAr T 0 a2_2 7 f2], [zAr T 0 a3_3 7 f3], [zAr T 0 a4_4 n4 f4], [zAr T 0 a5_5 n4 f5], [zAr T 0 a6_6 n4 f6], z, wg, [zO3 t e0 e1 e2 0 0 0 a1_11 a2_12], [zAr T 0 a1_11 (zFl m1 wy) g1_8], [zAr T 0 a2_12 7 r2]] _ _ := G
  refine lv_iconst (v := 0) hx hb dX3_find_23 (by decide) ?_
  refine lv_istore_n (lv' := [(3, .int 0), (0, .ref t), (1, .ref h), (2, .ref lg)]) hx hb dX3_find_24 rfl hl (by decide) (zLvf_h rfl) (fun ls hl => ?_)
  refine zEx4 hz ?_
  intro a1_13 a2_14 a3_15 a4_16 hbs9
  clear hz
  subst hbs9
  have G : zS T A s.heap s [[zO0 h md wy la pc_ a1_1 a2_2 a3_3 a4_4 a5_5 a6_6], [zAr T 0 a1_1 7 f1], [zAr T 0 a2_2 7 f2], [zAr T 0 a3_3 7 f3], [zAr T 0 a4_4 n4 f4], [zAr T 0 a5_5 n4 f5], [zAr T 0 a6_6 n4 f6], [zO4 la cr inn a1_13 a2_14 a3_15 a4_16], [zAr T 0 a1_13 7 k1], [zAr T 0 a2_14 28 k2], [zAr T 0 a3_15 7 k3], [zAr T 0 a4_16 7 k4], wg, [zO3 t e0 e1 e2 0 0 0 a1_11 a2_12], [zAr T 0 a1_11 (zFl m1 wy) g1_8], [zAr T 0 a2_12 7 r2]] _ _ := G.re rfl
  refine zEx2 hg ?_
  intro a1_17 a2_18 hbs9
  clear hg
  subst hbs9
  have G : zS T A s.heap s [[zO0 h md wy la pc_ a1_1 a2_2 a3_3 a4_4 a5_5 a6_6], [zAr T 0 a1_1 7 f1], [zAr T 0 a2_2 7 f2], [zAr T 0 a3_3 7 f3], [zAr T 0 a4_4 n4 f4], [zAr T 0 a5_5 n4 f5], [zAr T 0 a6_6 n4 f6], [zO4 la cr inn a1_13 a2_14 a3_15 a4_16], [zAr T 0 a1_13 7 k1], [zAr T 0 a2_14 28 k2], [zAr T 0 a3_15 7 k3], [zAr T 0 a4_16 7 k4], [(lg, .inr (5, [.int gg, .ref a1_17, .ref a2_18]))], [zAr T 0 a1_17 8 d1], [zAr T 0 a2_18 8 d2], [zO3 t e0 e1 e2 0 0 0 a1_11 a2_12], [zAr T 0 a1_11 (zFl m1 wy) g1_8], [zAr T 0 a2_12 7 r2]] _ _ := G.re rfl
  have hw_19 : bWays T h la md wy pc_ f1 f2 f3 f4 f5 f6 n4 [zO0 h md wy la pc_ a1_1 a2_2 a3_3 a4_4 a5_5 a6_6, zAr T 0 a1_1 7 f1, zAr T 0 a2_2 7 f2, zAr T 0 a3_3 7 f3, zAr T 0 a4_4 n4 f4, zAr T 0 a5_5 n4 f5, zAr T 0 a6_6 n4 f6] := ⟨a1_1, a2_2, a3_3, a4_4, a5_5, a6_6, rfl⟩
  have G : zS T A s.heap s [[zO0 h md wy la pc_ a1_1 a2_2 a3_3 a4_4 a5_5 a6_6, zAr T 0 a1_1 7 f1, zAr T 0 a2_2 7 f2, zAr T 0 a3_3 7 f3, zAr T 0 a4_4 n4 f4, zAr T 0 a5_5 n4 f5, zAr T 0 a6_6 n4 f6], [zO4 la cr inn a1_13 a2_14 a3_15 a4_16], [zAr T 0 a1_13 7 k1], [zAr T 0 a2_14 28 k2], [zAr T 0 a3_15 7 k3], [zAr T 0 a4_16 7 k4], [(lg, .inr (5, [.int gg, .ref a1_17, .ref a2_18]))], [zAr T 0 a1_17 8 d1], [zAr T 0 a2_18 8 d2], [zO3 t e0 e1 e2 0 0 0 a1_11 a2_12], [zAr T 0 a1_11 (zFl m1 wy) g1_8], [zAr T 0 a2_12 7 r2]] _ _ := G.re rfl
  have hw_20 : bFit T t e0 e1 e2 0 0 0 g1_8 (zFl m1 wy) r2 [zO3 t e0 e1 e2 0 0 0 a1_11 a2_12, zAr T 0 a1_11 (zFl m1 wy) g1_8, zAr T 0 a2_12 7 r2] := ⟨a1_11, a2_12, rfl⟩
  have G : zS T A s.heap s [[zO0 h md wy la pc_ a1_1 a2_2 a3_3 a4_4 a5_5 a6_6, zAr T 0 a1_1 7 f1, zAr T 0 a2_2 7 f2, zAr T 0 a3_3 7 f3, zAr T 0 a4_4 n4 f4, zAr T 0 a5_5 n4 f5, zAr T 0 a6_6 n4 f6], [zO4 la cr inn a1_13 a2_14 a3_15 a4_16], [zAr T 0 a1_13 7 k1], [zAr T 0 a2_14 28 k2], [zAr T 0 a3_15 7 k3], [zAr T 0 a4_16 7 k4], [(lg, .inr (5, [.int gg, .ref a1_17, .ref a2_18]))], [zAr T 0 a1_17 8 d1], [zAr T 0 a2_18 8 d2], [zO3 t e0 e1 e2 0 0 0 a1_11 a2_12, zAr T 0 a1_11 (zFl m1 wy) g1_8, zAr T 0 a2_12 7 r2]] _ _ := G.re rfl
  have hw_21 : bLand T la cr inn k1 k2 k3 k4 [zO4 la cr inn a1_13 a2_14 a3_15 a4_16, zAr T 0 a1_13 7 k1, zAr T 0 a2_14 28 k2, zAr T 0 a3_15 7 k3, zAr T 0 a4_16 7 k4] := ⟨a1_13, a2_14, a3_15, a4_16, rfl⟩
  have G : zS T A s.heap s [[zO0 h md wy la pc_ a1_1 a2_2 a3_3 a4_4 a5_5 a6_6, zAr T 0 a1_1 7 f1, zAr T 0 a2_2 7 f2, zAr T 0 a3_3 7 f3, zAr T 0 a4_4 n4 f4, zAr T 0 a5_5 n4 f5, zAr T 0 a6_6 n4 f6], [zO4 la cr inn a1_13 a2_14 a3_15 a4_16, zAr T 0 a1_13 7 k1, zAr T 0 a2_14 28 k2, zAr T 0 a3_15 7 k3, zAr T 0 a4_16 7 k4], [(lg, .inr (5, [.int gg, .ref a1_17, .ref a2_18]))], [zAr T 0 a1_17 8 d1], [zAr T 0 a2_18 8 d2], [zO3 t e0 e1 e2 0 0 0 a1_11 a2_12, zAr T 0 a1_11 (zFl m1 wy) g1_8, zAr T 0 a2_12 7 r2]] _ _ := G.re rfl
  have hw_22 : bLog T lg gg d1 d2 [(lg, .inr (5, [.int gg, .ref a1_17, .ref a2_18])), zAr T 0 a1_17 8 d1, zAr T 0 a2_18 8 d2] := ⟨a1_17, a2_18, rfl⟩
  have G : zS T A s.heap s [[zO0 h md wy la pc_ a1_1 a2_2 a3_3 a4_4 a5_5 a6_6, zAr T 0 a1_1 7 f1, zAr T 0 a2_2 7 f2, zAr T 0 a3_3 7 f3, zAr T 0 a4_4 n4 f4, zAr T 0 a5_5 n4 f5, zAr T 0 a6_6 n4 f6], [zO4 la cr inn a1_13 a2_14 a3_15 a4_16, zAr T 0 a1_13 7 k1, zAr T 0 a2_14 28 k2, zAr T 0 a3_15 7 k3, zAr T 0 a4_16 7 k4], [(lg, .inr (5, [.int gg, .ref a1_17, .ref a2_18])), zAr T 0 a1_17 8 d1, zAr T 0 a2_18 8 d2], [zO3 t e0 e1 e2 0 0 0 a1_11 a2_12, zAr T 0 a1_11 (zFl m1 wy) g1_8, zAr T 0 a2_12 7 r2]] _ _ := G.re rfl
  refine z_lp6 (T := T) 25 (fun (i : Nat) (wt : va_W) (y3 : Int32) (y4 : Int32) (y5 : Int32) (x1 : Nat → Int32) => [[zO0 h md wy la pc_ a1_1 a2_2 a3_3 a4_4 a5_5 a6_6, zAr T 0 a1_1 7 f1, zAr T 0 a2_2 7 f2, zAr T 0 a3_3 7 f3, zAr T 0 a4_4 n4 f4, zAr T 0 a5_5 n4 f5, zAr T 0 a6_6 n4 f6], [zO4 la cr inn a1_13 a2_14 a3_15 a4_16, zAr T 0 a1_13 7 k1, zAr T 0 a2_14 28 k2, zAr T 0 a3_15 7 k3, zAr T 0 a4_16 7 k4], [(lg, .inr (5, [.int gg, .ref a1_17, .ref a2_18])), zAr T 0 a1_17 8 d1, zAr T 0 a2_18 8 d2], wt]) (fun (i : Nat) (wt : va_W) (y3 : Int32) (y4 : Int32) (y5 : Int32) (x1 : Nat → Int32) => [(3, .int (nI i)), (0, .ref t), (1, .ref h), (2, .ref lg)]) (fun (i : Nat) (wt : va_W) (y3 : Int32) (y4 : Int32) (y5 : Int32) (x1 : Nat → Int32) => bFit T t e0 e1 e2 y3 y4 y5 x1 (zFl m1 wy) r2 wt ∧ i ≤ 16384 ∧ 0 ≤ y3.toInt) (fun (i : Nat) (wt : va_W) (y3 : Int32) (y4 : Int32) (y5 : Int32) (x1 : Nat → Int32) => 16384 - i) ?_ 0 ([zO3 t e0 e1 e2 0 0 0 a1_11 a2_12, zAr T 0 a1_11 (zFl m1 wy) g1_8, zAr T 0 a2_12 7 r2]) 0 0 0 g1_8 (show bFit T t e0 e1 e2 0 0 0 g1_8 (zFl m1 wy) r2 ([zO3 t e0 e1 e2 0 0 0 a1_11 a2_12, zAr T 0 a1_11 (zFl m1 wy) g1_8, zAr T 0 a2_12 7 r2]) ∧ 0 ≤ 16384 ∧ 0 ≤ (0 : Int32).toInt from ⟨hw_20, by omega, by decide⟩) G (lv_sub hl [0, 1, 2, 3] rfl)
  intro i wt y3 y4 y5 x1 hI9 ih_25 H locs ls G hl
  replace hI9 : bFit T t e0 e1 e2 y3 y4 y5 x1 (zFl m1 wy) r2 wt ∧ i ≤ 16384 ∧ 0 ≤ y3.toInt := hI9
  refine zAn3 hI9 ?_
  intro hwt hi h3
  clear hI9
  replace G : zS T A s.heap s [[zO0 h md wy la pc_ a1_1 a2_2 a3_3 a4_4 a5_5 a6_6, zAr T 0 a1_1 7 f1, zAr T 0 a2_2 7 f2, zAr T 0 a3_3 7 f3, zAr T 0 a4_4 n4 f4, zAr T 0 a5_5 n4 f5, zAr T 0 a6_6 n4 f6], [zO4 la cr inn a1_13 a2_14 a3_15 a4_16, zAr T 0 a1_13 7 k1, zAr T 0 a2_14 28 k2, zAr T 0 a3_15 7 k3, zAr T 0 a4_16 7 k4], [(lg, .inr (5, [.int gg, .ref a1_17, .ref a2_18])), zAr T 0 a1_17 8 d1, zAr T 0 a2_18 8 d2], wt] _ _ := G
  replace hl : lv_has ls 4 [(3, .int (nI i)), (0, .ref t), (1, .ref h), (2, .ref lg)] := hl
  refine lv_iload_n hx hb dX3_find_25 rfl (lv_at hl 0 rfl) ?_
  refine lv_aload_n hx hb dX3_find_26 rfl (lv_at hl 2 rfl) ?_
  have G : zS T A s.heap s [[zO0 h md wy la pc_ a1_1 a2_2 a3_3 a4_4 a5_5 a6_6], [zAr T 0 a1_1 7 f1], [zAr T 0 a2_2 7 f2], [zAr T 0 a3_3 7 f3], [zAr T 0 a4_4 n4 f4], [zAr T 0 a5_5 n4 f5], [zAr T 0 a6_6 n4 f6], [zO4 la cr inn a1_13 a2_14 a3_15 a4_16, zAr T 0 a1_13 7 k1, zAr T 0 a2_14 28 k2, zAr T 0 a3_15 7 k3, zAr T 0 a4_16 7 k4], [(lg, .inr (5, [.int gg, .ref a1_17, .ref a2_18])), zAr T 0 a1_17 8 d1, zAr T 0 a2_18 8 d2], wt] _ _ := G.re rfl
  refine z_get C G clX0 0 rfl 1 (by decide) m_fl_RX3_25 rfl dX3_find_27 ?_
  refine lv_icmp_ge (tgt := 53) hx hb dX3_find_30 (by decide) (fun c_23 => ?_) (fun c_23 => ?_)
  · have c_23n : wy.toInt ≤ (i : Int) := by have q := (fa_le _ _).mp c_23; rw [nI_toInt (n := i) (by omega)] at q; exact q
    have hw_24 : bWays T h la md wy pc_ f1 f2 f3 f4 f5 f6 n4 [zO0 h md wy la pc_ a1_1 a2_2 a3_3 a4_4 a5_5 a6_6, zAr T 0 a1_1 7 f1, zAr T 0 a2_2 7 f2, zAr T 0 a3_3 7 f3, zAr T 0 a4_4 n4 f4, zAr T 0 a5_5 n4 f5, zAr T 0 a6_6 n4 f6] := ⟨a1_1, a2_2, a3_3, a4_4, a5_5, a6_6, rfl⟩
    have G : zS T A s.heap s [[zO0 h md wy la pc_ a1_1 a2_2 a3_3 a4_4 a5_5 a6_6, zAr T 0 a1_1 7 f1, zAr T 0 a2_2 7 f2, zAr T 0 a3_3 7 f3, zAr T 0 a4_4 n4 f4, zAr T 0 a5_5 n4 f5, zAr T 0 a6_6 n4 f6], [zO4 la cr inn a1_13 a2_14 a3_15 a4_16, zAr T 0 a1_13 7 k1, zAr T 0 a2_14 28 k2, zAr T 0 a3_15 7 k3, zAr T 0 a4_16 7 k4], [(lg, .inr (5, [.int gg, .ref a1_17, .ref a2_18])), zAr T 0 a1_17 8 d1, zAr T 0 a2_18 8 d2], wt] _ _ := G.re rfl
    have G := G.sub (bs' := [wt, [zO0 h md wy la pc_ a1_1 a2_2 a3_3 a4_4 a5_5 a6_6, zAr T 0 a1_1 7 f1, zAr T 0 a2_2 7 f2, zAr T 0 a3_3 7 f3, zAr T 0 a4_4 n4 f4, zAr T 0 a5_5 n4 f5, zAr T 0 a6_6 n4 f6], [zO4 la cr inn a1_13 a2_14 a3_15 a4_16, zAr T 0 a1_13 7 k1, zAr T 0 a2_14 28 k2, zAr T 0 a3_15 7 k3, zAr T 0 a4_16 7 k4], [(lg, .inr (5, [.int gg, .ref a1_17, .ref a2_18])), zAr T 0 a1_17 8 d1, zAr T 0 a2_18 8 d2]]) [3, 0, 1, 2] rfl
    exact z_back hQz_ (z_vret C hr hlocks G (Nat.le_of_ble_eq_true rfl) (by omega) dX3_find_53 ⟨wt, y3, y4, y5, x1, rfl, hwt, (by first | with_reducible assumption | omega | trivial | assumption)⟩)
  · have c_23n : ¬ wy.toInt ≤ (i : Int) := fun q => c_23 ((fa_le _ _).mpr (by rw [nI_toInt (n := i) (by omega)]; exact q))
    refine lv_iload_n hx hb dX3_find_33 rfl (lv_at hl 0 rfl) ?_
    refine lv_sipush (v := 16383) hx hb dX3_find_34 (by decide) ?_
    refine lv_icmp_gt (tgt := 53) hx hb dX3_find_37 (by decide) (fun c_25 => ?_) (fun c_25 => ?_)
    · have c_25n : 16383 < i := (nI_ltI (a := 16383) (b := i) (by omega) (by omega)).mp c_25
      have hw_26 : bWays T h la md wy pc_ f1 f2 f3 f4 f5 f6 n4 [zO0 h md wy la pc_ a1_1 a2_2 a3_3 a4_4 a5_5 a6_6, zAr T 0 a1_1 7 f1, zAr T 0 a2_2 7 f2, zAr T 0 a3_3 7 f3, zAr T 0 a4_4 n4 f4, zAr T 0 a5_5 n4 f5, zAr T 0 a6_6 n4 f6] := ⟨a1_1, a2_2, a3_3, a4_4, a5_5, a6_6, rfl⟩
      have G : zS T A s.heap s [[zO0 h md wy la pc_ a1_1 a2_2 a3_3 a4_4 a5_5 a6_6, zAr T 0 a1_1 7 f1, zAr T 0 a2_2 7 f2, zAr T 0 a3_3 7 f3, zAr T 0 a4_4 n4 f4, zAr T 0 a5_5 n4 f5, zAr T 0 a6_6 n4 f6], [zO4 la cr inn a1_13 a2_14 a3_15 a4_16, zAr T 0 a1_13 7 k1, zAr T 0 a2_14 28 k2, zAr T 0 a3_15 7 k3, zAr T 0 a4_16 7 k4], [(lg, .inr (5, [.int gg, .ref a1_17, .ref a2_18])), zAr T 0 a1_17 8 d1, zAr T 0 a2_18 8 d2], wt] _ _ := G.re rfl
      have G := G.sub (bs' := [wt, [zO0 h md wy la pc_ a1_1 a2_2 a3_3 a4_4 a5_5 a6_6, zAr T 0 a1_1 7 f1, zAr T 0 a2_2 7 f2, zAr T 0 a3_3 7 f3, zAr T 0 a4_4 n4 f4, zAr T 0 a5_5 n4 f5, zAr T 0 a6_6 n4 f6], [zO4 la cr inn a1_13 a2_14 a3_15 a4_16, zAr T 0 a1_13 7 k1, zAr T 0 a2_14 28 k2, zAr T 0 a3_15 7 k3, zAr T 0 a4_16 7 k4], [(lg, .inr (5, [.int gg, .ref a1_17, .ref a2_18])), zAr T 0 a1_17 8 d1, zAr T 0 a2_18 8 d2]]) [3, 0, 1, 2] rfl
      exact z_back hQz_ (z_vret C hr hlocks G (Nat.le_of_ble_eq_true rfl) (by omega) dX3_find_53 ⟨wt, y3, y4, y5, x1, rfl, hwt, (by first | with_reducible assumption | omega | trivial | assumption)⟩)
    · have c_25n : ¬ 16383 < i := fun q => c_25 ((nI_ltI (a := 16383) (b := i) (by omega) (by omega)).mpr q)
      refine lv_aload_n hx hb dX3_find_40 rfl (lv_at hl 1 rfl) ?_
      refine lv_aload_n hx hb dX3_find_41 rfl (lv_at hl 2 rfl) ?_
      refine lv_aload_n hx hb dX3_find_42 rfl (lv_at hl 3 rfl) ?_
      refine lv_iload_n hx hb dX3_find_43 rfl (lv_at hl 0 rfl) ?_
      have hw_27 : bWays T h la md wy pc_ f1 f2 f3 f4 f5 f6 n4 [zO0 h md wy la pc_ a1_1 a2_2 a3_3 a4_4 a5_5 a6_6, zAr T 0 a1_1 7 f1, zAr T 0 a2_2 7 f2, zAr T 0 a3_3 7 f3, zAr T 0 a4_4 n4 f4, zAr T 0 a5_5 n4 f5, zAr T 0 a6_6 n4 f6] := ⟨a1_1, a2_2, a3_3, a4_4, a5_5, a6_6, rfl⟩
      have G : zS T A s.heap s [[zO0 h md wy la pc_ a1_1 a2_2 a3_3 a4_4 a5_5 a6_6, zAr T 0 a1_1 7 f1, zAr T 0 a2_2 7 f2, zAr T 0 a3_3 7 f3, zAr T 0 a4_4 n4 f4, zAr T 0 a5_5 n4 f5, zAr T 0 a6_6 n4 f6], [zO4 la cr inn a1_13 a2_14 a3_15 a4_16, zAr T 0 a1_13 7 k1, zAr T 0 a2_14 28 k2, zAr T 0 a3_15 7 k3, zAr T 0 a4_16 7 k4], [(lg, .inr (5, [.int gg, .ref a1_17, .ref a2_18])), zAr T 0 a1_17 8 d1, zAr T 0 a2_18 8 d2], wt] _ _ := G.re rfl
      refine z_Vv (bc := [wt, [zO0 h md wy la pc_ a1_1 a2_2 a3_3 a4_4 a5_5 a6_6, zAr T 0 a1_1 7 f1, zAr T 0 a2_2 7 f2, zAr T 0 a3_3 7 f3, zAr T 0 a4_4 n4 f4, zAr T 0 a5_5 n4 f5, zAr T 0 a6_6 n4 f6], [zO4 la cr inn a1_13 a2_14 a3_15 a4_16, zAr T 0 a1_13 7 k1, zAr T 0 a2_14 28 k2, zAr T 0 a3_15 7 k3, zAr T 0 a4_16 7 k4], [(lg, .inr (5, [.int gg, .ref a1_17, .ref a2_18])), zAr T 0 a1_17 8 d1, zAr T 0 a2_18 8 d2]]) (br := []) (As := [.ref h, .ref lg, .int (nI i)]) (rest := []) C G (c_tryWay l T t e0 e1 e2 y3 y4 y5 x1 (zFl m1 wy) r2 wt h la md wy pc_ f1 f2 f3 f4 f5 f6 n4 ([zO0 h md wy la pc_ a1_1 a2_2 a3_3 a4_4 a5_5 a6_6, zAr T 0 a1_1 7 f1, zAr T 0 a2_2 7 f2, zAr T 0 a3_3 7 f3, zAr T 0 a4_4 n4 f4, zAr T 0 a5_5 n4 f5, zAr T 0 a6_6 n4 f6]) cr inn k1 k2 k3 k4 ([zO4 la cr inn a1_13 a2_14 a3_15 a4_16, zAr T 0 a1_13 7 k1, zAr T 0 a2_14 28 k2, zAr T 0 a3_15 7 k3, zAr T 0 a4_16 7 k4]) lg gg d1 d2 ([(lg, .inr (5, [.int gg, .ref a1_17, .ref a2_18])), zAr T 0 a1_17 8 d1, zAr T 0 a2_18 8 d2]) (nI i) hwt hw_27 hw_21 hw_22 (by first | with_reducible assumption | with_reducible rfl | omega | assumption | rfl) (by first | with_reducible assumption | with_reducible rfl | omega | assumption | rfl) h3) (kV_RX3_43 C.2.2.2.2 (Nat.le_of_ble_eq_true rfl) (Nat.le_of_ble_eq_true rfl)) [3, 0, 1, 2] [0, 0, 0, 0] rfl rfl (ci := 3) (qc := (RX3, TX3, 8)) rfl rfl (List.mem_flatten.mpr ⟨_, List.mem_of_getElem? (i := 0) rfl, (bFit_mem hwt).choose_spec⟩) rfl rfl hl.1 dX3_find_44 (Nat.le_of_ble_eq_true rfl) (by show _ + 0 ≤ 2 * (zFl m1 wy - m1); omega) (fun b1 H locs hw G => ?_)
      refine zEx5 hw ?_
      intro w2_28 s3_29 s4_30 s5_31 g1_32
      refine zCu3 ?_
      intro hbs9 h_33 h_34
      clear hw
      subst hbs9
      have G : zS T A s.heap s [w2_28, [zO0 h md wy la pc_ a1_1 a2_2 a3_3 a4_4 a5_5 a6_6, zAr T 0 a1_1 7 f1, zAr T 0 a2_2 7 f2, zAr T 0 a3_3 7 f3, zAr T 0 a4_4 n4 f4, zAr T 0 a5_5 n4 f5, zAr T 0 a6_6 n4 f6], [zO4 la cr inn a1_13 a2_14 a3_15 a4_16, zAr T 0 a1_13 7 k1, zAr T 0 a2_14 28 k2, zAr T 0 a3_15 7 k3, zAr T 0 a4_16 7 k4], [(lg, .inr (5, [.int gg, .ref a1_17, .ref a2_18])), zAr T 0 a1_17 8 d1, zAr T 0 a2_18 8 d2]] _ _ := G
      refine lv_iinc (v := nI (i + 1)) (lv' := [(3, .int (nI (i + 1))), (0, .ref t), (1, .ref h), (2, .ref lg)]) hx hb dX3_find_47 hl (k := 0) rfl (z_inc i 1) (by decide) (zLvf_h rfl) (fun ls hl => ?_)
      refine lv_goto (tgt := 25) hx hb dX3_find_50 (by decide) ?_
      have G := G.sub (bs' := [[zO0 h md wy la pc_ a1_1 a2_2 a3_3 a4_4 a5_5 a6_6, zAr T 0 a1_1 7 f1, zAr T 0 a2_2 7 f2, zAr T 0 a3_3 7 f3, zAr T 0 a4_4 n4 f4, zAr T 0 a5_5 n4 f5, zAr T 0 a6_6 n4 f6], [zO4 la cr inn a1_13 a2_14 a3_15 a4_16, zAr T 0 a1_13 7 k1, zAr T 0 a2_14 28 k2, zAr T 0 a3_15 7 k3, zAr T 0 a4_16 7 k4], [(lg, .inr (5, [.int gg, .ref a1_17, .ref a2_18])), zAr T 0 a1_17 8 d1, zAr T 0 a2_18 8 d2], w2_28]) [1, 2, 3, 0] rfl
      exact ih_25 (i + 1) w2_28 s3_29 s4_30 s5_31 g1_32 (show bFit T t e0 e1 e2 s3_29 s4_30 s5_31 g1_32 (zFl m1 wy) r2 w2_28 ∧ (i + 1) ≤ 16384 ∧ 0 ≤ s3_29.toInt from ⟨h_33, by omega, h_34⟩) (show 16384 - (i + 1) < 16384 - i from by omega) _ _ ls G (lv_sub hl [0, 1, 2, 3] rfl)
theorem m_fs_RJ0_38 : Cond.fieldLink RJ0 38 "java/lang/String" "COMPACT_STRINGS" "Z" ∈ zT := zmem1 zsub_3 43 rfl rfl
theorem m_fs_RJ0_15 : Cond.fieldLink RJ0 15 "java/lang/String" "coder" "B" ∈ zT := zmem1 zsub_8 96 rfl rfl
theorem m_fs_RJ0_9 : Cond.fieldLink RJ0 9 "java/lang/String" "value" "[B" ∈ zT := zmem1 zsub_8 95 rfl rfl
theorem m_co_J0_coder_7d493 : Cond.code yJ0_coder_7d493 cJ0_coder_7d493 1 (some .byte) ∈ zT := zmem1 zsub_3 42 rfl rfl
theorem m_ml_RJ0_335 : Cond.methodLink RJ0 335 yJ0_coder_7d493 ∈ zT := zmem1 zsub_3 39 rfl rfl
theorem m_im_J0_coder_7d493 : Cond.instanceMethod yJ0_coder_7d493 ∈ zT := zmem1 zsub_3 40 rfl rfl
theorem m_se_J0_coder_7d493 : Cond.selects RJ0 yJ0_coder_7d493 yJ0_coder_7d493 ∈ zT := zmem1 zsub_3 41 rfl rfl
theorem m_ii_RJ0 : Cond.initialized RJ0 ∈ zT := zmem1 zsub_1 14 rfl rfl
theorem m_fs_RJ0_1053 : Cond.fieldLink RJ0 1053 "jdk/internal/util/Preconditions" "SIOOBE_FORMATTER" "Ljava/util/function/BiFunction;" ∈ zT := zmem1 zsub_3 59 rfl rfl
theorem m_co_J3_checkIndex_8e157 : Cond.code yJ3_checkIndex_8e157 cJ3_checkIndex_8e157 3 (some .int) ∈ zT := zmem1 zsub_3 63 rfl rfl
theorem m_ml_RJ0_1059 : Cond.methodLink RJ0 1059 yJ3_checkIndex_8e157 ∈ zT := zmem1 zsub_3 61 rfl rfl
theorem m_st_J3_checkIndex_8e157 : Cond.static yJ3_checkIndex_8e157 ∈ zT := zmem1 zsub_3 62 rfl rfl
theorem m_ii_RJ3 : Cond.initialized RJ3 ∈ zT := zmem1 zsub_1 16 rfl rfl
theorem m_co_J0_checkIndex_df160 : Cond.code yJ0_checkIndex_df160 cJ0_checkIndex_df160 2 none ∈ zT := zmem1 zsub_3 58 rfl rfl
theorem m_ml_RJ1_9 : Cond.methodLink RJ1 9 yJ0_checkIndex_df160 ∈ zT := zmem1 zsub_3 56 rfl rfl
theorem m_st_J0_checkIndex_df160 : Cond.static yJ0_checkIndex_df160 ∈ zT := zmem1 zsub_3 57 rfl rfl
theorem m_co_J0_isLatin1_aae02 : Cond.code yJ0_isLatin1_aae02 cJ0_isLatin1_aae02 1 (some .boolean) ∈ zT := zmem1 zsub_3 52 rfl rfl
theorem m_ml_RJ0_492 : Cond.methodLink RJ0 492 yJ0_isLatin1_aae02 ∈ zT := zmem1 zsub_3 49 rfl rfl
theorem m_im_J0_isLatin1_aae02 : Cond.instanceMethod yJ0_isLatin1_aae02 ∈ zT := zmem1 zsub_3 50 rfl rfl
theorem m_se_J0_isLatin1_aae02 : Cond.selects RJ0 yJ0_isLatin1_aae02 yJ0_isLatin1_aae02 ∈ zT := zmem1 zsub_3 51 rfl rfl
theorem m_co_J1_charAt_3b067 : Cond.code yJ1_charAt_3b067 cJ1_charAt_3b067 2 (some .char) ∈ zT := zmem1 zsub_3 55 rfl rfl
theorem m_ml_RJ0_495 : Cond.methodLink RJ0 495 yJ1_charAt_3b067 ∈ zT := zmem1 zsub_3 53 rfl rfl
theorem m_st_J1_charAt_3b067 : Cond.static yJ1_charAt_3b067 ∈ zT := zmem1 zsub_3 54 rfl rfl
theorem m_ii_RJ1 : Cond.initialized RJ1 ∈ zT := zmem1 zsub_1 15 rfl rfl
theorem m_fl_RX1_78 : Cond.fieldLink RX1 78 (TX1 10).1 (TX1 10).2.1 (TX1 10).2.2.1 ∈ zT := zmem1 zsub_2 35 rfl rfl
theorem m_ko_RX1_91 : Cond.constant RX1 91 1103515245 ∈ zT := zmem1 zsub_4 117 rfl rfl
theorem m_co_X1_drawBelow : Cond.code yX1_drawBelow cX1_drawBelow 2 (some .int) ∈ zT := zmem1 zsub_4 116 rfl rfl
theorem m_ml_RX1_84 : Cond.methodLink RX1 84 yX1_drawBelow ∈ zT := zmem1 zsub_4 113 rfl rfl
theorem m_im_X1_drawBelow : Cond.instanceMethod yX1_drawBelow ∈ zT := zmem1 zsub_4 115 rfl rfl
theorem m_se_X1_drawBelow : Cond.selects RX1 yX1_drawBelow yX1_drawBelow ∈ zT := zmem 27 rfl rfl
theorem kV_RJ0_335 {R : Room} {s : State} {args : Array Value} {d mc ms : Nat} (hts : ∀ w ∈ zT, w.before args s = true) (h1 : d + 1 ≤ R.frames) (h2 : 8 + (1 + 11) + 40 * d ≤ R.locals) : CallW R s args RJ0 RJ0 335 yJ0_coder_7d493 cJ0_coder_7d493 1 (some .byte) (zW yJ0_coder_7d493 cJ0_coder_7d493 1 (some .byte)) (zR d mc ms) mc ms 0 := z_cwV hts m_co_J0_coder_7d493 m_ml_RJ0_335 m_im_J0_coder_7d493 m_se_J0_coder_7d493 m_ii_RJ0 (by decide +kernel) h1 h2
theorem kS_RJ0_1059 {R : Room} {s : State} {args : Array Value} {d mc ms : Nat} (hts : ∀ w ∈ zT, w.before args s = true) (h1 : d + 1 ≤ R.frames) (h2 : 8 + (3 + 11) + 40 * d ≤ R.locals) : CallB R s args RJ0 1059 yJ3_checkIndex_8e157 cJ3_checkIndex_8e157 3 (some .int) (zW yJ3_checkIndex_8e157 cJ3_checkIndex_8e157 3 (some .int)) (zR d mc ms) mc ms 3 ∧ (Cond.static yJ3_checkIndex_8e157).before args s = true := z_cwS hts m_co_J3_checkIndex_8e157 m_ml_RJ0_1059 m_st_J3_checkIndex_8e157 m_ii_RJ3 (by decide +kernel) h1 h2
theorem kS_RJ1_9 {R : Room} {s : State} {args : Array Value} {d mc ms : Nat} (hts : ∀ w ∈ zT, w.before args s = true) (h1 : d + 1 ≤ R.frames) (h2 : 8 + (2 + 11) + 40 * d ≤ R.locals) : CallB R s args RJ1 9 yJ0_checkIndex_df160 cJ0_checkIndex_df160 2 none (zW yJ0_checkIndex_df160 cJ0_checkIndex_df160 2 none) (zR d mc ms) mc ms 2 ∧ (Cond.static yJ0_checkIndex_df160).before args s = true := z_cwS hts m_co_J0_checkIndex_df160 m_ml_RJ1_9 m_st_J0_checkIndex_df160 m_ii_RJ0 (by decide +kernel) h1 h2
theorem kV_RJ0_492 {R : Room} {s : State} {args : Array Value} {d mc ms : Nat} (hts : ∀ w ∈ zT, w.before args s = true) (h1 : d + 1 ≤ R.frames) (h2 : 8 + (1 + 11) + 40 * d ≤ R.locals) : CallW R s args RJ0 RJ0 492 yJ0_isLatin1_aae02 cJ0_isLatin1_aae02 1 (some .boolean) (zW yJ0_isLatin1_aae02 cJ0_isLatin1_aae02 1 (some .boolean)) (zR d mc ms) mc ms 0 := z_cwV hts m_co_J0_isLatin1_aae02 m_ml_RJ0_492 m_im_J0_isLatin1_aae02 m_se_J0_isLatin1_aae02 m_ii_RJ0 (by decide +kernel) h1 h2
theorem kS_RJ0_495 {R : Room} {s : State} {args : Array Value} {d mc ms : Nat} (hts : ∀ w ∈ zT, w.before args s = true) (h1 : d + 1 ≤ R.frames) (h2 : 8 + (2 + 11) + 40 * d ≤ R.locals) : CallB R s args RJ0 495 yJ1_charAt_3b067 cJ1_charAt_3b067 2 (some .char) (zW yJ1_charAt_3b067 cJ1_charAt_3b067 2 (some .char)) (zR d mc ms) mc ms 2 ∧ (Cond.static yJ1_charAt_3b067).before args s = true := z_cwS hts m_co_J1_charAt_3b067 m_ml_RJ0_495 m_st_J1_charAt_3b067 m_ii_RJ1 (by decide +kernel) h1 h2
theorem kV_RX1_84 {R : Room} {s : State} {args : Array Value} {d mc ms : Nat} (hts : ∀ w ∈ zT, w.before args s = true) (h1 : d + 1 ≤ R.frames) (h2 : 8 + (2 + 11) + 40 * d ≤ R.locals) : CallW R s args RX1 RX1 84 yX1_drawBelow cX1_drawBelow 2 (some .int) (zW yX1_drawBelow cX1_drawBelow 2 (some .int)) (zR d mc ms) mc ms 1 := z_cwV hts m_co_X1_drawBelow m_ml_RX1_84 m_im_X1_drawBelow m_se_X1_drawBelow m_ii_RX1 (by decide +kernel) h1 h2
theorem dJ0_coder_7d493_0 : decode cJ0_coder_7d493 0 = .ok (.getstatic 38, 3) := zo_178 (by decide +kernel)
theorem dJ0_coder_7d493_3 : decode cJ0_coder_7d493 3 = .ok (.ifCond .eq 10, 3) := zo_153 (by decide +kernel)
theorem dJ0_coder_7d493_6 : decode cJ0_coder_7d493 6 = .ok (.aload_n 0, 1) := zo_42 (by decide +kernel)
theorem dJ0_coder_7d493_7 : decode cJ0_coder_7d493 7 = .ok (.getfield 15, 3) := zo_180 (by decide +kernel)
theorem dJ0_coder_7d493_10 : decode cJ0_coder_7d493 10 = .ok (.goto 4, 3) := zo_167 (by decide +kernel)
theorem dJ0_coder_7d493_14 : decode cJ0_coder_7d493 14 = .ok (.ireturn, 1) := zo_172 (by decide +kernel)
theorem dJ0_isLatin1_aae02_0 : decode cJ0_isLatin1_aae02 0 = .ok (.getstatic 38, 3) := zo_178 (by decide +kernel)
theorem dJ0_isLatin1_aae02_3 : decode cJ0_isLatin1_aae02 3 = .ok (.ifCond .eq 14, 3) := zo_153 (by decide +kernel)
theorem dJ0_isLatin1_aae02_6 : decode cJ0_isLatin1_aae02 6 = .ok (.aload_n 0, 1) := zo_42 (by decide +kernel)
theorem dJ0_isLatin1_aae02_7 : decode cJ0_isLatin1_aae02 7 = .ok (.getfield 15, 3) := zo_180 (by decide +kernel)
theorem dJ0_isLatin1_aae02_10 : decode cJ0_isLatin1_aae02 10 = .ok (.ifCond .ne 7, 3) := zo_154 (by decide +kernel)
theorem dJ0_isLatin1_aae02_13 : decode cJ0_isLatin1_aae02 13 = .ok (.iconst 1, 1) := zo_4 (by decide +kernel)
theorem dJ0_isLatin1_aae02_14 : decode cJ0_isLatin1_aae02 14 = .ok (.goto 4, 3) := zo_167 (by decide +kernel)
theorem dJ0_isLatin1_aae02_18 : decode cJ0_isLatin1_aae02 18 = .ok (.ireturn, 1) := zo_172 (by decide +kernel)
theorem dJ0_length_8abf5_0 : decode cJ0_length_8abf5 0 = .ok (.aload_n 0, 1) := zo_42 (by decide +kernel)
theorem dJ0_length_8abf5_1 : decode cJ0_length_8abf5 1 = .ok (.getfield 9, 3) := zo_180 (by decide +kernel)
theorem dJ0_length_8abf5_4 : decode cJ0_length_8abf5 4 = .ok (.arraylength, 1) := zo_190 (by decide +kernel)
theorem dJ0_length_8abf5_5 : decode cJ0_length_8abf5 5 = .ok (.aload_n 0, 1) := zo_42 (by decide +kernel)
theorem dJ0_length_8abf5_6 : decode cJ0_length_8abf5 6 = .ok (.invokevirtual 335, 3) := zo_182 (by decide +kernel)
theorem dJ0_length_8abf5_9 : decode cJ0_length_8abf5 9 = .ok (.ishr, 1) := zo_122 (by decide +kernel)
theorem dJ0_length_8abf5_10 : decode cJ0_length_8abf5 10 = .ok (.ireturn, 1) := zo_172 (by decide +kernel)
theorem dJ3_checkIndex_8e157_0 : decode cJ3_checkIndex_8e157 0 = .ok (.iload_n 0, 1) := zo_26 (by decide +kernel)
theorem dJ3_checkIndex_8e157_1 : decode cJ3_checkIndex_8e157 1 = .ok (.ifCond .lt 8, 3) := zo_155 (by decide +kernel)
theorem dJ3_checkIndex_8e157_4 : decode cJ3_checkIndex_8e157 4 = .ok (.iload_n 0, 1) := zo_26 (by decide +kernel)
theorem dJ3_checkIndex_8e157_5 : decode cJ3_checkIndex_8e157 5 = .ok (.iload_n 1, 1) := zo_27 (by decide +kernel)
theorem dJ3_checkIndex_8e157_6 : decode cJ3_checkIndex_8e157 6 = .ok (.if_icmp .lt 10, 3) := zo_161 (by decide +kernel)
theorem dJ3_checkIndex_8e157_16 : decode cJ3_checkIndex_8e157 16 = .ok (.iload_n 0, 1) := zo_26 (by decide +kernel)
theorem dJ3_checkIndex_8e157_17 : decode cJ3_checkIndex_8e157 17 = .ok (.ireturn, 1) := zo_172 (by decide +kernel)
theorem dJ0_checkIndex_df160_0 : decode cJ0_checkIndex_df160 0 = .ok (.iload_n 0, 1) := zo_26 (by decide +kernel)
theorem dJ0_checkIndex_df160_1 : decode cJ0_checkIndex_df160 1 = .ok (.iload_n 1, 1) := zo_27 (by decide +kernel)
theorem dJ0_checkIndex_df160_2 : decode cJ0_checkIndex_df160 2 = .ok (.getstatic 1053, 3) := zo_178 (by decide +kernel)
theorem dJ0_checkIndex_df160_5 : decode cJ0_checkIndex_df160 5 = .ok (.invokestatic 1059, 3) := zo_184 (by decide +kernel)
theorem dJ0_checkIndex_df160_8 : decode cJ0_checkIndex_df160 8 = .ok (.pop, 1) := zo_87 (by decide +kernel)
theorem dJ0_checkIndex_df160_9 : decode cJ0_checkIndex_df160 9 = .ok (.return_, 1) := zo_177 (by decide +kernel)
theorem dJ1_charAt_3b067_0 : decode cJ1_charAt_3b067 0 = .ok (.iload_n 1, 1) := zo_27 (by decide +kernel)
theorem dJ1_charAt_3b067_1 : decode cJ1_charAt_3b067 1 = .ok (.aload_n 0, 1) := zo_42 (by decide +kernel)
theorem dJ1_charAt_3b067_2 : decode cJ1_charAt_3b067 2 = .ok (.arraylength, 1) := zo_190 (by decide +kernel)
theorem dJ1_charAt_3b067_3 : decode cJ1_charAt_3b067 3 = .ok (.invokestatic 9, 3) := zo_184 (by decide +kernel)
theorem dJ1_charAt_3b067_6 : decode cJ1_charAt_3b067 6 = .ok (.aload_n 0, 1) := zo_42 (by decide +kernel)
theorem dJ1_charAt_3b067_7 : decode cJ1_charAt_3b067 7 = .ok (.iload_n 1, 1) := zo_27 (by decide +kernel)
theorem dJ1_charAt_3b067_8 : decode cJ1_charAt_3b067 8 = .ok (.baload, 1) := zo_51 (by decide +kernel)
theorem dJ1_charAt_3b067_9 : decode cJ1_charAt_3b067 9 = .ok (.sipush 255, 3) := zo_17 (by decide +kernel)
theorem dJ1_charAt_3b067_12 : decode cJ1_charAt_3b067 12 = .ok (.iand, 1) := zo_126 (by decide +kernel)
theorem dJ1_charAt_3b067_13 : decode cJ1_charAt_3b067 13 = .ok (.i2c, 1) := zo_146 (by decide +kernel)
theorem dJ1_charAt_3b067_14 : decode cJ1_charAt_3b067 14 = .ok (.ireturn, 1) := zo_172 (by decide +kernel)
theorem dJ0_charAt_5068e_0 : decode cJ0_charAt_5068e 0 = .ok (.aload_n 0, 1) := zo_42 (by decide +kernel)
theorem dJ0_charAt_5068e_1 : decode cJ0_charAt_5068e 1 = .ok (.invokevirtual 492, 3) := zo_182 (by decide +kernel)
theorem dJ0_charAt_5068e_4 : decode cJ0_charAt_5068e 4 = .ok (.ifCond .eq 12, 3) := zo_153 (by decide +kernel)
theorem dJ0_charAt_5068e_7 : decode cJ0_charAt_5068e 7 = .ok (.aload_n 0, 1) := zo_42 (by decide +kernel)
theorem dJ0_charAt_5068e_8 : decode cJ0_charAt_5068e 8 = .ok (.getfield 9, 3) := zo_180 (by decide +kernel)
theorem dJ0_charAt_5068e_11 : decode cJ0_charAt_5068e 11 = .ok (.iload_n 1, 1) := zo_27 (by decide +kernel)
theorem dJ0_charAt_5068e_12 : decode cJ0_charAt_5068e 12 = .ok (.invokestatic 495, 3) := zo_184 (by decide +kernel)
theorem dJ0_charAt_5068e_15 : decode cJ0_charAt_5068e 15 = .ok (.ireturn, 1) := zo_172 (by decide +kernel)
theorem dX1_drawBelow_0 : decode cX1_drawBelow 0 = .ok (.aload_n 0, 1) := zo_42 (by decide +kernel)
theorem dX1_drawBelow_1 : decode cX1_drawBelow 1 = .ok (.aload_n 0, 1) := zo_42 (by decide +kernel)
theorem dX1_drawBelow_2 : decode cX1_drawBelow 2 = .ok (.getfield 78, 3) := zo_180 (by decide +kernel)
theorem dX1_drawBelow_5 : decode cX1_drawBelow 5 = .ok (.ldc 91, 2) := zo_18 (by decide +kernel)
theorem dX1_drawBelow_7 : decode cX1_drawBelow 7 = .ok (.imul, 1) := zo_104 (by decide +kernel)
theorem dX1_drawBelow_8 : decode cX1_drawBelow 8 = .ok (.sipush 12345, 3) := zo_17 (by decide +kernel)
theorem dX1_drawBelow_11 : decode cX1_drawBelow 11 = .ok (.iadd, 1) := zo_96 (by decide +kernel)
theorem dX1_drawBelow_12 : decode cX1_drawBelow 12 = .ok (.putfield 78, 3) := zo_181 (by decide +kernel)
theorem dX1_drawBelow_15 : decode cX1_drawBelow 15 = .ok (.iload_n 1, 1) := zo_27 (by decide +kernel)
theorem dX1_drawBelow_16 : decode cX1_drawBelow 16 = .ok (.iconst 1, 1) := zo_4 (by decide +kernel)
theorem dX1_drawBelow_17 : decode cX1_drawBelow 17 = .ok (.if_icmp .ge 7, 3) := zo_162 (by decide +kernel)
theorem dX1_drawBelow_24 : decode cX1_drawBelow 24 = .ok (.aload_n 0, 1) := zo_42 (by decide +kernel)
theorem dX1_drawBelow_25 : decode cX1_drawBelow 25 = .ok (.getfield 78, 3) := zo_180 (by decide +kernel)
theorem dX1_drawBelow_28 : decode cX1_drawBelow 28 = .ok (.bipush 16, 2) := zo_16 (by decide +kernel)
theorem dX1_drawBelow_30 : decode cX1_drawBelow 30 = .ok (.iushr, 1) := zo_124 (by decide +kernel)
theorem dX1_drawBelow_31 : decode cX1_drawBelow 31 = .ok (.iload_n 1, 1) := zo_27 (by decide +kernel)
theorem dX1_drawBelow_32 : decode cX1_drawBelow 32 = .ok (.irem, 1) := zo_112 (by decide +kernel)
theorem dX1_drawBelow_33 : decode cX1_drawBelow 33 = .ok (.ireturn, 1) := zo_172 (by decide +kernel)
theorem dX1_draw_0 : decode cX1_draw 0 = .ok (.aload_n 0, 1) := zo_42 (by decide +kernel)
theorem dX1_draw_1 : decode cX1_draw 1 = .ok (.aload_n 1, 1) := zo_43 (by decide +kernel)
theorem dX1_draw_2 : decode cX1_draw 2 = .ok (.invokevirtual 59, 3) := zo_182 (by decide +kernel)
theorem dX1_draw_5 : decode cX1_draw 5 = .ok (.aload_n 0, 1) := zo_42 (by decide +kernel)
theorem dX1_draw_6 : decode cX1_draw 6 = .ok (.iload_n 2, 1) := zo_28 (by decide +kernel)
theorem dX1_draw_7 : decode cX1_draw 7 = .ok (.putfield 78, 3) := zo_181 (by decide +kernel)
theorem dX1_draw_10 : decode cX1_draw 10 = .ok (.iconst 0, 1) := zo_3 (by decide +kernel)
theorem dX1_draw_11 : decode cX1_draw 11 = .ok (.istore 4, 2) := zo_54 (by decide +kernel)
theorem dX1_draw_13 : decode cX1_draw 13 = .ok (.iload 4, 2) := zo_21 (by decide +kernel)
theorem dX1_draw_15 : decode cX1_draw 15 = .ok (.iload_n 3, 1) := zo_29 (by decide +kernel)
theorem dX1_draw_16 : decode cX1_draw 16 = .ok (.if_icmp .ge 81, 3) := zo_162 (by decide +kernel)
theorem dX1_draw_19 : decode cX1_draw 19 = .ok (.iload 4, 2) := zo_21 (by decide +kernel)
theorem dX1_draw_21 : decode cX1_draw 21 = .ok (.bipush 60, 2) := zo_16 (by decide +kernel)
theorem dX1_draw_23 : decode cX1_draw 23 = .ok (.if_icmp .ge 74, 3) := zo_162 (by decide +kernel)
theorem dX1_draw_26 : decode cX1_draw 26 = .ok (.getstatic 81, 3) := zo_178 (by decide +kernel)
theorem dX1_draw_29 : decode cX1_draw 29 = .ok (.aload_n 0, 1) := zo_42 (by decide +kernel)
theorem dX1_draw_30 : decode cX1_draw 30 = .ok (.getstatic 81, 3) := zo_178 (by decide +kernel)
theorem dX1_draw_33 : decode cX1_draw 33 = .ok (.arraylength, 1) := zo_190 (by decide +kernel)
theorem dX1_draw_34 : decode cX1_draw 34 = .ok (.invokevirtual 84, 3) := zo_182 (by decide +kernel)
theorem dX1_draw_37 : decode cX1_draw 37 = .ok (.iaload, 1) := zo_46 (by decide +kernel)
theorem dX1_draw_38 : decode cX1_draw 38 = .ok (.istore 5, 2) := zo_54 (by decide +kernel)
theorem dX1_draw_40 : decode cX1_draw 40 = .ok (.aload_n 1, 1) := zo_43 (by decide +kernel)
theorem dX1_draw_41 : decode cX1_draw 41 = .ok (.getfield 88, 3) := zo_180 (by decide +kernel)
theorem dX1_draw_44 : decode cX1_draw 44 = .ok (.ifCond .le 47, 3) := zo_158 (by decide +kernel)
theorem dX1_draw_47 : decode cX1_draw 47 = .ok (.aload_n 0, 1) := zo_42 (by decide +kernel)
theorem dX1_draw_48 : decode cX1_draw 48 = .ok (.aload_n 1, 1) := zo_43 (by decide +kernel)
theorem dX1_draw_49 : decode cX1_draw 49 = .ok (.getfield 88, 3) := zo_180 (by decide +kernel)
theorem dX1_draw_52 : decode cX1_draw 52 = .ok (.invokevirtual 84, 3) := zo_182 (by decide +kernel)
theorem dX1_draw_55 : decode cX1_draw 55 = .ok (.istore 6, 2) := zo_54 (by decide +kernel)
theorem dX1_draw_57 : decode cX1_draw 57 = .ok (.iload 5, 2) := zo_21 (by decide +kernel)
theorem dX1_draw_59 : decode cX1_draw 59 = .ok (.iconst 4, 1) := zo_7 (by decide +kernel)
theorem dX1_draw_60 : decode cX1_draw 60 = .ok (.if_icmp .eq 9, 3) := zo_159 (by decide +kernel)
theorem dX1_draw_63 : decode cX1_draw 63 = .ok (.iload 5, 2) := zo_21 (by decide +kernel)
theorem dX1_draw_65 : decode cX1_draw 65 = .ok (.iconst 5, 1) := zo_8 (by decide +kernel)
theorem dX1_draw_66 : decode cX1_draw 66 = .ok (.if_icmp .ne 11, 3) := zo_160 (by decide +kernel)
theorem dX1_draw_69 : decode cX1_draw 69 = .ok (.aload_n 0, 1) := zo_42 (by decide +kernel)
theorem dX1_draw_70 : decode cX1_draw 70 = .ok (.iconst 4, 1) := zo_7 (by decide +kernel)
theorem dX1_draw_71 : decode cX1_draw 71 = .ok (.invokevirtual 84, 3) := zo_182 (by decide +kernel)
theorem dX1_draw_74 : decode cX1_draw 74 = .ok (.goto 4, 3) := zo_167 (by decide +kernel)
theorem dX1_draw_77 : decode cX1_draw 77 = .ok (.iconst (-1), 1) := zo_2 (by decide +kernel)
theorem dX1_draw_78 : decode cX1_draw 78 = .ok (.istore 7, 2) := zo_54 (by decide +kernel)
theorem dX1_draw_80 : decode cX1_draw 80 = .ok (.aload_n 0, 1) := zo_42 (by decide +kernel)
theorem dX1_draw_81 : decode cX1_draw 81 = .ok (.iload 5, 2) := zo_21 (by decide +kernel)
theorem dX1_draw_83 : decode cX1_draw 83 = .ok (.iload 6, 2) := zo_21 (by decide +kernel)
theorem dX1_draw_85 : decode cX1_draw 85 = .ok (.iload 7, 2) := zo_21 (by decide +kernel)
theorem dX1_draw_87 : decode cX1_draw 87 = .ok (.invokevirtual 74, 3) := zo_182 (by decide +kernel)
theorem dX1_draw_90 : decode cX1_draw 90 = .ok (.pop, 1) := zo_87 (by decide +kernel)
theorem dX1_draw_91 : decode cX1_draw 91 = .ok (.iinc 4 1, 3) := zo_132 (by decide +kernel)
theorem dX1_draw_94 : decode cX1_draw 94 = .ok (.goto (-81), 3) := zo_167 (by decide +kernel)
theorem dX1_draw_97 : decode cX1_draw 97 = .ok (.return_, 1) := zo_177 (by decide +kernel)
theorem zLen_le : ∀ i, i < 12 → zLen.getD i 0 ≤ 7 := by decide +kernel
theorem zLen_sh : ∀ i, i < 12 → nI (zLen.getD i 0) >>> ((0 : Int32) &&& 31) = nI (zLen.getD i 0) := by decide +kernel
def zChar (i k : Nat) : Int32 := (((((zByt.getD i []).getD k 0) &&& 255).toUInt32) % 65536).toInt32
theorem zChar_n : ∀ i, i < 12 → ∀ k, k < 7 → narrow .char (.int (zChar i k)) = .int (zChar i k) := by decide +kernel
set_option maxHeartbeats 4000000 in
set_option maxRecDepth 100000 in
/-- c_coder -/
theorem c_coder (l : Launch) (T : zTy) (i : Nat) (hi : i < 12) : zMi l T yJ0_coder_7d493 cJ0_coder_7d493 1 (some .byte) 1 0 0 [.ref (T.2 (100 + i))] [] (fun (r : Int32) bs => bs = [] ∧ r = 0) := by
  refine zMi_of (own := RJ0) (by decide) rfl (Nat.le_of_ble_eq_true rfl) ?_
  intro p e s m args below meth c A ls C hr hlocks hnm hAe G hl
  refine zHide (fun Qz_ hQz_ => ?_)
  have hx := C.1
  have hb := C.2.1
  have hl : lv_has ls 1 [(0, .ref (T.2 (100 + i)))] := hl
  refine z_gst C G G.2.2.2.2.2.2.2.2.2.1 m_fs_RJ0_38 dJ0_coder_7d493_0 ?_
  refine lv_if_eq (tgt := 13) hx hb dJ0_coder_7d493_3 (by decide) (fun q => absurd q (by decide)) (fun _ => ?_)
  refine lv_aload_n hx hb dJ0_coder_7d493_6 rfl (lv_at hl 0 rfl) ?_
  refine z_scod C G (i := i) (by first | with_reducible assumption | omega | assumption) m_fs_RJ0_15 dJ0_coder_7d493_7 ?_
  refine lv_goto (tgt := 14) hx hb dJ0_coder_7d493_10 (by decide) ?_
  exact z_back hQz_ (z_zret C hr hlocks G (Nat.le_of_ble_eq_true rfl) (Nat.le_of_ble_eq_true rfl) dJ0_coder_7d493_14 rfl ⟨rfl, rfl⟩)
set_option maxHeartbeats 4000000 in
set_option maxRecDepth 100000 in
/-- c_isLatin1 -/
theorem c_isLatin1 (l : Launch) (T : zTy) (i : Nat) (hi : i < 12) : zMi l T yJ0_isLatin1_aae02 cJ0_isLatin1_aae02 1 (some .boolean) 1 0 0 [.ref (T.2 (100 + i))] [] (fun (r : Int32) bs => bs = [] ∧ r = 1) := by
  refine zMi_of (own := RJ0) (by decide) rfl (Nat.le_of_ble_eq_true rfl) ?_
  intro p e s m args below meth c A ls C hr hlocks hnm hAe G hl
  refine zHide (fun Qz_ hQz_ => ?_)
  have hx := C.1
  have hb := C.2.1
  have hl : lv_has ls 1 [(0, .ref (T.2 (100 + i)))] := hl
  refine z_gst C G G.2.2.2.2.2.2.2.2.2.1 m_fs_RJ0_38 dJ0_isLatin1_aae02_0 ?_
  refine lv_if_eq (tgt := 17) hx hb dJ0_isLatin1_aae02_3 (by decide) (fun q => absurd q (by decide)) (fun _ => ?_)
  refine lv_aload_n hx hb dJ0_isLatin1_aae02_6 rfl (lv_at hl 0 rfl) ?_
  refine z_scod C G (i := i) (by first | with_reducible assumption | omega | assumption) m_fs_RJ0_15 dJ0_isLatin1_aae02_7 ?_
  refine lv_if_ne (tgt := 17) hx hb dJ0_isLatin1_aae02_10 (by decide) (fun q => absurd (by decide) q) (fun _ => ?_)
  refine lv_iconst (v := 1) hx hb dJ0_isLatin1_aae02_13 (by decide) ?_
  refine lv_goto (tgt := 18) hx hb dJ0_isLatin1_aae02_14 (by decide) ?_
  exact z_back hQz_ (z_zret C hr hlocks G (Nat.le_of_ble_eq_true rfl) (Nat.le_of_ble_eq_true rfl) dJ0_isLatin1_aae02_18 rfl ⟨rfl, rfl⟩)
set_option maxHeartbeats 4000000 in
set_option maxRecDepth 100000 in
/-- c_slen -/
theorem c_slen (l : Launch) (T : zTy) (i : Nat) (hi : i < 12) : zMi l T yJ0_length_8abf5 cJ0_length_8abf5 1 (some .int) 2 0 0 [.ref (T.2 (100 + i))] [] (fun (r : Int32) bs => bs = [] ∧ r = nI (zLen.getD i 0)) := by
  refine zMi_of (own := RJ0) (by decide) rfl (Nat.le_of_ble_eq_true rfl) ?_
  intro p e s m args below meth c A ls C hr hlocks hnm hAe G hl
  refine zHide (fun Qz_ hQz_ => ?_)
  have hx := C.1
  have hb := C.2.1
  have hl : lv_has ls 1 [(0, .ref (T.2 (100 + i)))] := hl
  refine lv_aload_n hx hb dJ0_length_8abf5_0 rfl (lv_at hl 0 rfl) ?_
  refine z_sval C G (i := i) (by first | with_reducible assumption | omega | assumption) m_fs_RJ0_9 dJ0_length_8abf5_1 ?_
  refine z_sbl C G (i := i) (by first | with_reducible assumption | omega | assumption) dJ0_length_8abf5_4 ?_
  refine lv_aload_n hx hb dJ0_length_8abf5_5 rfl (lv_at hl 0 rfl) ?_
  refine z_Wi (bc := []) (br := []) (As := []) (rest := [.int (nI (zLen.getD i 0))]) C G (c_coder l T i (by first | with_reducible assumption | with_reducible rfl | omega | assumption | rfl)) (kV_RJ0_335 C.2.2.2.2 (Nat.le_of_ble_eq_true rfl) (Nat.le_of_ble_eq_true rfl)) [] [] rfl rfl (z_srecv G (by first | with_reducible assumption | omega | assumption)) rfl rfl hl.1 dJ0_length_8abf5_6 (Nat.le_of_ble_eq_true rfl) (Nat.le_of_ble_eq_true rfl) (fun r_2 b1 H locs hw G => ?_)
  refine zAn2 hw ?_
  intro hbs9 h_1
  clear hw
  subst hbs9
  have G : zS T A s.heap s [] _ _ := G
  subst h_1
  refine lv_ishr hx hb dJ0_length_8abf5_9 ?_
  exact z_back hQz_ (z_iret C hr hlocks G (Nat.le_of_ble_eq_true rfl) (Nat.le_of_ble_eq_true rfl) dJ0_length_8abf5_10 ⟨rfl, (zLen_sh i hi)⟩)
set_option maxHeartbeats 4000000 in
set_option maxRecDepth 100000 in
/-- c_pIndexN -/
theorem c_pIndexN (l : Launch) (T : zTy) (x : Int32) (y : Int32) (hx0 : 0 ≤ x.toInt) (hxy : x.toInt < y.toInt) : zMi l T yJ3_checkIndex_8e157 cJ3_checkIndex_8e157 3 (some .int) 1 0 0 [.int x, .int y, .null] [] (fun (r : Int32) bs => bs = [] ∧ r = x) := by
  refine zMi_of (own := RJ3) (by decide) rfl (Nat.le_of_ble_eq_true rfl) ?_
  intro p e s m args below meth c A ls C hr hlocks hnm hAe G hl
  refine zHide (fun Qz_ hQz_ => ?_)
  have hx := C.1
  have hb := C.2.1
  have hl : lv_has ls 3 [(0, .int x), (1, .int y), (2, .null)] := hl
  refine lv_iload_n hx hb dJ3_checkIndex_8e157_0 rfl (lv_at hl 0 rfl) ?_
  refine lv_if_lt (tgt := 9) hx hb dJ3_checkIndex_8e157_1 (by decide) (fun q => absurd q (fun q2 => absurd (show x.toInt < (0 : Int) from (fa_lt x (0 : Int32)).mp q2) (by omega))) (fun _ => ?_)
  refine lv_iload_n hx hb dJ3_checkIndex_8e157_4 rfl (lv_at hl 0 rfl) ?_
  refine lv_iload_n hx hb dJ3_checkIndex_8e157_5 rfl (lv_at hl 1 rfl) ?_
  refine lv_icmp_lt (tgt := 16) hx hb dJ3_checkIndex_8e157_6 (by decide) (fun _ => ?_) (fun q => absurd ((fa_lt x y).mpr (by show x.toInt < y.toInt; omega)) q)
  refine lv_iload_n hx hb dJ3_checkIndex_8e157_16 rfl (lv_at hl 0 rfl) ?_
  exact z_back hQz_ (z_iret C hr hlocks G (Nat.le_of_ble_eq_true rfl) (Nat.le_of_ble_eq_true rfl) dJ3_checkIndex_8e157_17 ⟨rfl, rfl⟩)
set_option maxHeartbeats 4000000 in
set_option maxRecDepth 100000 in
/-- c_pIndexR -/
theorem c_pIndexR (l : Launch) (T : zTy) (x : Int32) (y : Int32) (q : Nat) (hx0 : 0 ≤ x.toInt) (hxy : x.toInt < y.toInt) : zMi l T yJ3_checkIndex_8e157 cJ3_checkIndex_8e157 3 (some .int) 1 0 0 [.int x, .int y, .ref q] [] (fun (r : Int32) bs => bs = [] ∧ r = x) := by
  refine zMi_of (own := RJ3) (by decide) rfl (Nat.le_of_ble_eq_true rfl) ?_
  intro p e s m args below meth c A ls C hr hlocks hnm hAe G hl
  refine zHide (fun Qz_ hQz_ => ?_)
  have hx := C.1
  have hb := C.2.1
  have hl : lv_has ls 3 [(0, .int x), (1, .int y), (2, .ref q)] := hl
  refine lv_iload_n hx hb dJ3_checkIndex_8e157_0 rfl (lv_at hl 0 rfl) ?_
  refine lv_if_lt (tgt := 9) hx hb dJ3_checkIndex_8e157_1 (by decide) (fun q => absurd q (fun q2 => absurd (show x.toInt < (0 : Int) from (fa_lt x (0 : Int32)).mp q2) (by omega))) (fun _ => ?_)
  refine lv_iload_n hx hb dJ3_checkIndex_8e157_4 rfl (lv_at hl 0 rfl) ?_
  refine lv_iload_n hx hb dJ3_checkIndex_8e157_5 rfl (lv_at hl 1 rfl) ?_
  refine lv_icmp_lt (tgt := 16) hx hb dJ3_checkIndex_8e157_6 (by decide) (fun _ => ?_) (fun q => absurd ((fa_lt x y).mpr (by show x.toInt < y.toInt; omega)) q)
  refine lv_iload_n hx hb dJ3_checkIndex_8e157_16 rfl (lv_at hl 0 rfl) ?_
  exact z_back hQz_ (z_iret C hr hlocks G (Nat.le_of_ble_eq_true rfl) (Nat.le_of_ble_eq_true rfl) dJ3_checkIndex_8e157_17 ⟨rfl, rfl⟩)
set_option maxHeartbeats 4000000 in
set_option maxRecDepth 100000 in
/-- c_sIndex -/
theorem c_sIndex (l : Launch) (T : zTy) (x : Int32) (y : Int32) (hx0 : 0 ≤ x.toInt) (hxy : x.toInt < y.toInt) : zMv l T yJ0_checkIndex_df160 cJ0_checkIndex_df160 2 2 0 0 [.int x, .int y] [] (fun bs => bs = []) := by
  refine zMv_of (own := RJ0) (by decide) rfl (Nat.le_of_ble_eq_true rfl) ?_
  intro p e s m args below meth c A ls C hr hlocks hnm hAe G hl
  refine zHide (fun Qz_ hQz_ => ?_)
  have hx := C.1
  have hb := C.2.1
  have hl : lv_has ls 2 [(0, .int x), (1, .int y)] := hl
  refine lv_iload_n hx hb dJ0_checkIndex_df160_0 rfl (lv_at hl 0 rfl) ?_
  refine lv_iload_n hx hb dJ0_checkIndex_df160_1 rfl (lv_at hl 1 rfl) ?_
  obtain ⟨q_1, eq_1⟩ := zZq G.2.2.2.2.2.2.2.2.2.2.1
  rcases q_1 with _ | q_1
  · refine z_gst C G (v := .null) eq_1 m_fs_RJ0_1053 dJ0_checkIndex_df160_2 ?_
    refine z_Si (bc := []) (br := []) (As := [.int x, .int y, .null]) (rest := []) C G (c_pIndexN l T x y (by first | with_reducible assumption | with_reducible rfl | omega | assumption | rfl) (by first | with_reducible assumption | with_reducible rfl | omega | assumption | rfl)) (kS_RJ0_1059 C.2.2.2.2 (Nat.le_of_ble_eq_true rfl) (Nat.le_of_ble_eq_true rfl)) [] [] rfl rfl rfl rfl hl.1 dJ0_checkIndex_df160_5 (Nat.le_of_ble_eq_true rfl) (Nat.le_of_ble_eq_true rfl) (fun r_3 b1 H locs hw G => ?_)
    refine zAn2 hw ?_
    intro hbs9 h_2
    clear hw
    subst hbs9
    have G : zS T A s.heap s [] _ _ := G
    subst h_2
    refine lv_pop hx hb dJ0_checkIndex_df160_8 rfl ?_
    exact z_back hQz_ (z_vret C hr hlocks G (Nat.le_of_ble_eq_true rfl) (Nat.le_of_ble_eq_true rfl) dJ0_checkIndex_df160_9 rfl)
  · refine z_gst C G (v := .ref q_1) eq_1 m_fs_RJ0_1053 dJ0_checkIndex_df160_2 ?_
    refine z_Si (bc := []) (br := []) (As := [.int x, .int y, .ref q_1]) (rest := []) C G (c_pIndexR l T x y q_1 (by first | with_reducible assumption | with_reducible rfl | omega | assumption | rfl) (by first | with_reducible assumption | with_reducible rfl | omega | assumption | rfl)) (kS_RJ0_1059 C.2.2.2.2 (Nat.le_of_ble_eq_true rfl) (Nat.le_of_ble_eq_true rfl)) [] [] rfl rfl rfl rfl hl.1 dJ0_checkIndex_df160_5 (Nat.le_of_ble_eq_true rfl) (Nat.le_of_ble_eq_true rfl) (fun r_5 b1 H locs hw G => ?_)
    refine zAn2 hw ?_
    intro hbs9 h_4
    clear hw
    subst hbs9
    have G : zS T A s.heap s [] _ _ := G
    subst h_4
    refine lv_pop hx hb dJ0_checkIndex_df160_8 rfl ?_
    exact z_back hQz_ (z_vret C hr hlocks G (Nat.le_of_ble_eq_true rfl) (Nat.le_of_ble_eq_true rfl) dJ0_checkIndex_df160_9 rfl)
set_option maxHeartbeats 4000000 in
set_option maxRecDepth 100000 in
/-- c_lchar -/
theorem c_lchar (l : Launch) (T : zTy) (i : Nat) (k : Nat) (hi : i < 12) (hk : k < zLen.getD i 0) : zMi l T yJ1_charAt_3b067 cJ1_charAt_3b067 2 (some .char) 3 0 0 [.ref (T.2 (200 + i)), .int (nI k)] [] (fun (r : Int32) bs => bs = [] ∧ r = zChar i k) := by
  refine zMi_of (own := RJ1) (by decide) rfl (Nat.le_of_ble_eq_true rfl) ?_
  intro p e s m args below meth c A ls C hr hlocks hnm hAe G hl
  refine zHide (fun Qz_ hQz_ => ?_)
  have hx := C.1
  have hb := C.2.1
  have hl : lv_has ls 2 [(0, .ref (T.2 (200 + i))), (1, .int (nI k))] := hl
  have hL := zLen_le i hi
  refine lv_iload_n hx hb dJ1_charAt_3b067_0 rfl (lv_at hl 1 rfl) ?_
  refine lv_aload_n hx hb dJ1_charAt_3b067_1 rfl (lv_at hl 0 rfl) ?_
  refine z_sbl C G (i := i) (by first | with_reducible assumption | omega | assumption) dJ1_charAt_3b067_2 ?_
  refine z_Sv (bc := []) (br := []) (As := [.int (nI k), .int (nI (zLen.getD i 0))]) (rest := []) C G (c_sIndex l T (nI k) (nI (zLen.getD i 0)) (by rw [nI_toInt (by omega)]; omega) (by rw [nI_toInt (by omega), nI_toInt (by omega)]; omega)) (kS_RJ1_9 C.2.2.2.2 (Nat.le_of_ble_eq_true rfl) (Nat.le_of_ble_eq_true rfl)) [] [] rfl rfl rfl rfl hl.1 dJ1_charAt_3b067_3 (Nat.le_of_ble_eq_true rfl) (Nat.le_of_ble_eq_true rfl) (fun b1 H locs hw G => ?_)
  obtain rfl := hw
  have G : zS T A s.heap s [] _ _ := G
  refine lv_aload_n hx hb dJ1_charAt_3b067_6 rfl (lv_at hl 0 rfl) ?_
  refine lv_iload_n hx hb dJ1_charAt_3b067_7 rfl (lv_at hl 1 rfl) ?_
  refine z_sbb C G (i := i) (by first | with_reducible assumption | omega | assumption) (vp_in_nI (by omega) (by omega)) dJ1_charAt_3b067_8 ?_
  rw [nI_clamp (by omega)]
  refine lv_sipush (v := 255) hx hb dJ1_charAt_3b067_9 (by decide) ?_
  refine lv_iand hx hb dJ1_charAt_3b067_12 ?_
  refine lv_i2c hx hb dJ1_charAt_3b067_13 rfl ?_
  exact z_back hQz_ (z_zret C hr hlocks G (Nat.le_of_ble_eq_true rfl) (Nat.le_of_ble_eq_true rfl) dJ1_charAt_3b067_14 (zChar_n i hi k (by omega)) ⟨rfl, rfl⟩)
set_option maxHeartbeats 4000000 in
set_option maxRecDepth 100000 in
/-- c_schar -/
theorem c_schar (l : Launch) (T : zTy) (i : Nat) (k : Nat) (hi : i < 12) (hk : k < zLen.getD i 0) : zMi l T yJ0_charAt_5068e cJ0_charAt_5068e 2 (some .char) 4 0 0 [.ref (T.2 (100 + i)), .int (nI k)] [] (fun (r : Int32) bs => bs = [] ∧ r = zChar i k) := by
  refine zMi_of (own := RJ0) (by decide) rfl (Nat.le_of_ble_eq_true rfl) ?_
  intro p e s m args below meth c A ls C hr hlocks hnm hAe G hl
  refine zHide (fun Qz_ hQz_ => ?_)
  have hx := C.1
  have hb := C.2.1
  have hl : lv_has ls 2 [(0, .ref (T.2 (100 + i))), (1, .int (nI k))] := hl
  have hL := zLen_le i hi
  refine lv_aload_n hx hb dJ0_charAt_5068e_0 rfl (lv_at hl 0 rfl) ?_
  refine z_Wi (bc := []) (br := []) (As := []) (rest := []) C G (c_isLatin1 l T i (by first | with_reducible assumption | with_reducible rfl | omega | assumption | rfl)) (kV_RJ0_492 C.2.2.2.2 (Nat.le_of_ble_eq_true rfl) (Nat.le_of_ble_eq_true rfl)) [] [] rfl rfl (z_srecv G (by first | with_reducible assumption | omega | assumption)) rfl rfl hl.1 dJ0_charAt_5068e_1 (Nat.le_of_ble_eq_true rfl) (Nat.le_of_ble_eq_true rfl) (fun r_2 b1 H locs hw G => ?_)
  refine zAn2 hw ?_
  intro hbs9 h_1
  clear hw
  subst hbs9
  have G : zS T A s.heap s [] _ _ := G
  subst h_1
  refine lv_if_eq (tgt := 16) hx hb dJ0_charAt_5068e_4 (by decide) (fun q => absurd q (by decide)) (fun _ => ?_)
  refine lv_aload_n hx hb dJ0_charAt_5068e_7 rfl (lv_at hl 0 rfl) ?_
  refine z_sval C G (i := i) (by first | with_reducible assumption | omega | assumption) m_fs_RJ0_9 dJ0_charAt_5068e_8 ?_
  refine lv_iload_n hx hb dJ0_charAt_5068e_11 rfl (lv_at hl 1 rfl) ?_
  refine z_Si (bc := []) (br := []) (As := [.ref (T.2 (200 + i)), .int (nI k)]) (rest := []) C G (c_lchar l T i k (by first | with_reducible assumption | with_reducible rfl | omega | assumption | rfl) (by first | with_reducible assumption | with_reducible rfl | omega | assumption | rfl)) (kS_RJ0_495 C.2.2.2.2 (Nat.le_of_ble_eq_true rfl) (Nat.le_of_ble_eq_true rfl)) [] [] rfl rfl rfl rfl hl.1 dJ0_charAt_5068e_12 (Nat.le_of_ble_eq_true rfl) (Nat.le_of_ble_eq_true rfl) (fun r_4 b1 H locs hw G => ?_)
  refine zAn2 hw ?_
  intro hbs9 h_3
  clear hw
  subst hbs9
  have G : zS T A s.heap s [] _ _ := G
  subst h_3
  exact z_back hQz_ (z_zret C hr hlocks G (Nat.le_of_ble_eq_true rfl) (Nat.le_of_ble_eq_true rfl) dJ0_charAt_5068e_15 (zChar_n i hi k (by omega)) ⟨rfl, rfl⟩)
theorem zDraw {n : Int32} (h1 : 1 ≤ n.toInt) (h2 : n.toInt ≤ 1000) (x : Int32) : 0 ≤ ((x.toUInt32 >>> (Int32.toUInt32 16 &&& Int32.toUInt32 31)).toInt32 - (x.toUInt32 >>> (Int32.toUInt32 16 &&& Int32.toUInt32 31)).toInt32 / n * n).toInt ∧ ((x.toUInt32 >>> (Int32.toUInt32 16 &&& Int32.toUInt32 31)).toInt32 - (x.toUInt32 >>> (Int32.toUInt32 16 &&& Int32.toUInt32 31)).toInt32 / n * n).toInt < n.toInt := by
  have hb : x.toBitVec.toNat < 4294967296 := x.toBitVec.isLt
  have e0 := pk_ushr x 16 16 (by decide)
  have hlt : x.toBitVec.toNat / 2 ^ 16 < 65536 := by omega
  have e : (x.toUInt32 >>> (Int32.toUInt32 16 &&& Int32.toUInt32 31)).toInt32 = nI (x.toBitVec.toNat / 2 ^ 16) := by
    apply Int32.toBitVec_inj.mp
    apply BitVec.eq_of_toNat_eq
    rw [e0, pk_tn (by omega)]
  have en : n = nI n.toInt.toNat := by
    apply Int32.toInt_inj.mp
    rw [nI_toInt (by omega)]
    omega
  generalize x.toBitVec.toNat / 2 ^ 16 = a at *
  rw [e]
  have hp : 0 < n.toInt.toNat := by omega
  have hn2 : n.toInt.toNat < 2 ^ 31 := by omega
  have r := pk_rem (a := a) (d := n.toInt.toNat) (by omega) hp hn2
  rw [← en] at r
  rw [r]
  have hm := Nat.mod_lt a hp
  rw [nI_toInt (by omega)]
  omega
set_option maxHeartbeats 4000000 in
set_option maxRecDepth 100000 in
/-- c_drawBelow -/
theorem c_drawBelow (l : Launch) (T : zTy) (h : Nat) (po : Nat) (la : Nat) (fw : Nat → Int32) (v0 : Int32) (v1 : Int32) (v2 : Int32) (v3 : Int32) (v4 : Int32) (v5 : Int32) (v6 : Int32) (v7 : Int32) (wc : va_W) (x : Int32) (hc : bCourse T h po la fw v0 v1 v2 v3 v4 v5 v6 v7 wc) (hx1 : 1 ≤ x.toInt) (hx9 : x.toInt ≤ 1000) : zMi l T yX1_drawBelow cX1_drawBelow 2 (some .int) 1 0 0 [.ref h, .int x] [wc] (fun (r : Int32) bs => ∃ (wc2 : va_W) (u7 : Int32), bs = [wc2] ∧ bCourse T h po la fw v0 v1 v2 v3 v4 v5 v6 u7 wc2 ∧ 0 ≤ r.toInt ∧ r.toInt < x.toInt) := by
  refine zMi_of (own := RX1) (by decide) rfl (Nat.le_of_ble_eq_true rfl) ?_
  intro p e s m args below meth c A ls C hr hlocks hnm hAe G hl
  refine zHide (fun Qz_ hQz_ => ?_)
  have hx := C.1
  have hb := C.2.1
  have hl : lv_has ls 2 [(0, .ref h), (1, .int x)] := hl
  refine lv_aload_n hx hb dX1_drawBelow_0 rfl (lv_at hl 0 rfl) ?_
  refine lv_aload_n hx hb dX1_drawBelow_1 rfl (lv_at hl 0 rfl) ?_
  refine zEx1 hc ?_
  intro a1_1 hbs9
  clear hc
  subst hbs9
  have G : zS T A s.heap s [[zO1 h po a1_1 v0 la v1 v2 v3 v4 v5 v6 v7], [zAr T 0 a1_1 7 fw]] _ _ := G.re rfl
  refine z_get C G clX1 0 rfl 10 (by decide) m_fl_RX1_78 rfl dX1_drawBelow_2 ?_
  refine lv_ldc (v := 1103515245) hx hb C.2.2.2.1 (C.2.2.2.2 _ m_ko_RX1_91) dX1_drawBelow_5 ?_
  refine lv_imul hx hb dX1_drawBelow_7 ?_
  refine lv_sipush (v := 12345) hx hb dX1_drawBelow_8 (by decide) ?_
  refine lv_iadd hx hb dX1_drawBelow_11 ?_
  refine z_put C G clX1 0 rfl 10 (by decide) m_fl_RX1_78 rfl rfl rfl (Nat.le_of_ble_eq_true rfl) dX1_drawBelow_12 (fun H locs G => ?_)
  have G : zS T A s.heap s [[zO1 h po a1_1 v0 la v1 v2 v3 v4 v5 v6 ((v7 * 1103515245) + 12345)], [zAr T 0 a1_1 7 fw]] _ _ := G
  refine lv_iload_n hx hb dX1_drawBelow_15 rfl (lv_at hl 1 rfl) ?_
  refine lv_iconst (v := 1) hx hb dX1_drawBelow_16 (by decide) ?_
  refine lv_icmp_ge (tgt := 24) hx hb dX1_drawBelow_17 (by decide) (fun _ => ?_) (fun q => absurd ((fa_le (1 : Int32) x).mpr (by show (1 : Int) ≤ x.toInt; omega)) q)
  refine lv_aload_n hx hb dX1_drawBelow_24 rfl (lv_at hl 0 rfl) ?_
  refine z_get C G clX1 0 rfl 10 (by decide) m_fl_RX1_78 rfl dX1_drawBelow_25 ?_
  refine lv_bipush (v := 16) hx hb dX1_drawBelow_28 (by decide) ?_
  refine lv_iushr hx hb dX1_drawBelow_30 rfl ?_
  refine lv_iload_n hx hb dX1_drawBelow_31 rfl (lv_at hl 1 rfl) ?_
  refine lv_irem hx hb dX1_drawBelow_32 (fun q => absurd (show x.toInt = 0 from by rw [q]; rfl) (by omega)) ?_
  have hw_2 : bCourse T h po la fw v0 v1 v2 v3 v4 v5 v6 ((v7 * 1103515245) + 12345) [zO1 h po a1_1 v0 la v1 v2 v3 v4 v5 v6 ((v7 * 1103515245) + 12345), zAr T 0 a1_1 7 fw] := ⟨a1_1, rfl⟩
  have G : zS T A s.heap s [[zO1 h po a1_1 v0 la v1 v2 v3 v4 v5 v6 ((v7 * 1103515245) + 12345), zAr T 0 a1_1 7 fw]] _ _ := G.re rfl
  exact z_back hQz_ (z_iret C hr hlocks G (Nat.le_of_ble_eq_true rfl) (Nat.le_of_ble_eq_true rfl) dX1_drawBelow_33 ⟨([zO1 h po a1_1 v0 la v1 v2 v3 v4 v5 v6 ((v7 * 1103515245) + 12345), zAr T 0 a1_1 7 fw]), ((v7 * 1103515245) + 12345), rfl, hw_2, (zDraw hx1 hx9 _).1, (zDraw hx1 hx9 _).2⟩)
set_option maxHeartbeats 4000000 in
set_option maxRecDepth 100000 in
/-- draw -/
theorem c_draw (l : Launch) (T : zTy) (h : Nat) (po : Nat) (la : Nat) (fw : Nat → Int32) (v0 : Int32) (v1 : Int32) (v2 : Int32) (v3 : Int32) (v4 : Int32) (v5 : Int32) (v6 : Int32) (v7 : Int32) (wc : va_W) (lp : Nat) (f1 : Nat → Int32) (f2 : Nat → Int32) (f3 : Nat → Int32) (st : Int32) (wh : Int32) (wp : va_W) (o : Nat) (cr : Int32) (inn : Int32) (k1 : Nat → Int32) (k2 : Nat → Int32) (k3 : Nat → Int32) (k4 : Nat → Int32) (z : va_W) (sd : Int32) (n : Int32) (hc : bCourse T h po la fw v0 v1 v2 v3 v4 v5 v6 v7 wc) (hp : bPosts T po lp f1 f2 f3 st wh wp) (hz : bLand T o cr inn k1 k2 k3 k4 z) (hI : zLI cr k1 k3) : zMv l T yX1_draw cX1_draw 8 7 0 0 [.ref h, .ref o, .int sd, .int n] [wc, wp, z] (fun bs => ∃ (wc2 : va_W) (gw : Nat → Int32) (u0 : Int32) (u1 : Int32) (u2 : Int32) (u3 : Int32) (u4 : Int32) (u5 : Int32) (u6 : Int32) (u7 : Int32) (wp2 : va_W) (g1 : Nat → Int32) (g2 : Nat → Int32) (g3 : Nat → Int32) (sa : Int32) (wa : Int32), bs = [wc2, wp2, z] ∧ bCourse T h po o gw u0 u1 u2 u3 u4 u5 u6 u7 wc2 ∧ bPosts T po o g1 g2 g3 sa wa wp2 ∧ zP3 g1 g3) := by
  refine zMv_of (own := RX1) (by decide) rfl (Nat.le_of_ble_eq_true rfl) ?_
  intro p e s m args below meth c A ls C hr hlocks hnm hAe G hl
  refine zHide (fun Qz_ hQz_ => ?_)
  have hx := C.1
  have hb := C.2.1
  have hl : lv_has ls 8 [(0, .ref h), (1, .ref o), (2, .int sd), (3, .int n)] := hl
  refine lv_aload_n hx hb dX1_draw_0 rfl (lv_at hl 0 rfl) ?_
  refine lv_aload_n hx hb dX1_draw_1 rfl (lv_at hl 1 rfl) ?_
  refine z_Vv (bc := [wc, wp, z]) (br := []) (As := [.ref o]) (rest := []) C G (c_Course_begin l T h po la fw v0 v1 v2 v3 v4 v5 v6 v7 wc lp f1 f2 f3 st wh wp o cr inn k1 k2 k3 k4 z hc hp hz (by first | with_reducible assumption | with_reducible rfl | omega | assumption | rfl)) (kV_RX1_59 C.2.2.2.2 (Nat.le_of_ble_eq_true rfl) (Nat.le_of_ble_eq_true rfl)) [0, 1, 2] [0, 0, 0] rfl rfl (ci := 1) (qc := (RX1, TX1, 11)) rfl rfl (List.mem_flatten.mpr ⟨_, List.mem_of_getElem? (i := 0) rfl, (bCourse_mem hc).choose_spec⟩) rfl rfl hl.1 dX1_draw_2 (Nat.le_of_ble_eq_true rfl) (Nat.le_of_ble_eq_true rfl) (fun b1 H locs hw G => ?_)
  refine zEx7 hw ?_
  intro wc2_1 gw_2 u6_3 wp2_4 g1_5 g2_6 g3_7
  refine zCu8 ?_
  intro hbs9 h_8 h_9 h_10 h_11 h_12 h_13 h_14
  clear hw
  subst hbs9
  have G : zS T A s.heap s [wc2_1, wp2_4, z] _ _ := G
  have hQ : zP3 g1_5 g3_7 := h_11
  have hcr := hI.1
  refine lv_aload_n hx hb dX1_draw_5 rfl (lv_at hl 0 rfl) ?_
  refine lv_iload_n hx hb dX1_draw_6 rfl (lv_at hl 2 rfl) ?_
  refine zEx1 h_8 ?_
  intro a1_16 hbs9
  clear h_8
  subst hbs9
  have G : zS T A s.heap s [[zO1 h po a1_16 0 o 0 0 (-1) 0 0 u6_3 v7], [zAr T 0 a1_16 7 gw_2], wp2_4, z] _ _ := G.re rfl
  refine z_put C G clX1 0 rfl 10 (by decide) m_fl_RX1_78 rfl rfl rfl (Nat.le_of_ble_eq_true rfl) dX1_draw_7 (fun H locs G => ?_)
  have G : zS T A s.heap s [[zO1 h po a1_16 0 o 0 0 (-1) 0 0 u6_3 sd], [zAr T 0 a1_16 7 gw_2], wp2_4, z] _ _ := G
  refine lv_iconst (v := 0) hx hb dX1_draw_10 (by decide) ?_
  refine lv_istore (lv' := [(4, .int 0), (0, .ref h), (1, .ref o), (2, .int sd), (3, .int n)]) hx hb dX1_draw_11 hl (by decide) (zLvf_h rfl) (fun ls hl => ?_)
  refine zEx3 h_9 ?_
  intro a1_17 a2_18 a3_19 hbs9
  clear h_9
  subst hbs9
  have G : zS T A s.heap s [[zO1 h po a1_16 0 o 0 0 (-1) 0 0 u6_3 sd], [zAr T 0 a1_16 7 gw_2], [zO6 po o a1_17 a2_18 0 0 a3_19], [zAr T 0 a1_17 7 g1_5], [zAr T 0 a2_18 7 g2_6], [zAr T 0 a3_19 7 g3_7], z] _ _ := G.re rfl
  refine zEx4 hz ?_
  intro a1_20 a2_21 a3_22 a4_23 hbs9
  clear hz
  subst hbs9
  have G : zS T A s.heap s [[zO1 h po a1_16 0 o 0 0 (-1) 0 0 u6_3 sd], [zAr T 0 a1_16 7 gw_2], [zO6 po o a1_17 a2_18 0 0 a3_19], [zAr T 0 a1_17 7 g1_5], [zAr T 0 a2_18 7 g2_6], [zAr T 0 a3_19 7 g3_7], [zO4 o cr inn a1_20 a2_21 a3_22 a4_23], [zAr T 0 a1_20 7 k1], [zAr T 0 a2_21 28 k2], [zAr T 0 a3_22 7 k3], [zAr T 0 a4_23 7 k4]] _ _ := G.re rfl
  have hw_24 : bCourse T h po o gw_2 0 0 0 (-1) 0 0 u6_3 sd [zO1 h po a1_16 0 o 0 0 (-1) 0 0 u6_3 sd, zAr T 0 a1_16 7 gw_2] := ⟨a1_16, rfl⟩
  have G : zS T A s.heap s [[zO1 h po a1_16 0 o 0 0 (-1) 0 0 u6_3 sd, zAr T 0 a1_16 7 gw_2], [zO6 po o a1_17 a2_18 0 0 a3_19], [zAr T 0 a1_17 7 g1_5], [zAr T 0 a2_18 7 g2_6], [zAr T 0 a3_19 7 g3_7], [zO4 o cr inn a1_20 a2_21 a3_22 a4_23], [zAr T 0 a1_20 7 k1], [zAr T 0 a2_21 28 k2], [zAr T 0 a3_22 7 k3], [zAr T 0 a4_23 7 k4]] _ _ := G.re rfl
  have hw_25 : bPosts T po o g1_5 g2_6 g3_7 0 0 [zO6 po o a1_17 a2_18 0 0 a3_19, zAr T 0 a1_17 7 g1_5, zAr T 0 a2_18 7 g2_6, zAr T 0 a3_19 7 g3_7] := ⟨a1_17, a2_18, a3_19, rfl⟩
  have G : zS T A s.heap s [[zO1 h po a1_16 0 o 0 0 (-1) 0 0 u6_3 sd, zAr T 0 a1_16 7 gw_2], [zO6 po o a1_17 a2_18 0 0 a3_19, zAr T 0 a1_17 7 g1_5, zAr T 0 a2_18 7 g2_6, zAr T 0 a3_19 7 g3_7], [zO4 o cr inn a1_20 a2_21 a3_22 a4_23], [zAr T 0 a1_20 7 k1], [zAr T 0 a2_21 28 k2], [zAr T 0 a3_22 7 k3], [zAr T 0 a4_23 7 k4]] _ _ := G.re rfl
  have hw_26 : bLand T o cr inn k1 k2 k3 k4 [zO4 o cr inn a1_20 a2_21 a3_22 a4_23, zAr T 0 a1_20 7 k1, zAr T 0 a2_21 28 k2, zAr T 0 a3_22 7 k3, zAr T 0 a4_23 7 k4] := ⟨a1_20, a2_21, a3_22, a4_23, rfl⟩
  have G : zS T A s.heap s [[zO1 h po a1_16 0 o 0 0 (-1) 0 0 u6_3 sd, zAr T 0 a1_16 7 gw_2], [zO6 po o a1_17 a2_18 0 0 a3_19, zAr T 0 a1_17 7 g1_5, zAr T 0 a2_18 7 g2_6, zAr T 0 a3_19 7 g3_7], [zO4 o cr inn a1_20 a2_21 a3_22 a4_23, zAr T 0 a1_20 7 k1, zAr T 0 a2_21 28 k2, zAr T 0 a3_22 7 k3, zAr T 0 a4_23 7 k4]] _ _ := G.re rfl
  refine z_lp16 (T := T) 13 (fun (i : Nat) (wc3 : va_W) (xw : Nat → Int32) (y0 : Int32) (y1 : Int32) (y2 : Int32) (y3 : Int32) (y4 : Int32) (y5 : Int32) (y6 : Int32) (y7 : Int32) (wp3 : va_W) (x1 : Nat → Int32) (x2 : Nat → Int32) (sb : Int32) (wb : Int32) => [wc3, wp3, [zO4 o cr inn a1_20 a2_21 a3_22 a4_23, zAr T 0 a1_20 7 k1, zAr T 0 a2_21 28 k2, zAr T 0 a3_22 7 k3, zAr T 0 a4_23 7 k4]]) (fun (i : Nat) (wc3 : va_W) (xw : Nat → Int32) (y0 : Int32) (y1 : Int32) (y2 : Int32) (y3 : Int32) (y4 : Int32) (y5 : Int32) (y6 : Int32) (y7 : Int32) (wp3 : va_W) (x1 : Nat → Int32) (x2 : Nat → Int32) (sb : Int32) (wb : Int32) => [(4, .int (nI i)), (0, .ref h), (1, .ref o), (2, .int sd), (3, .int n)]) (fun (i : Nat) (wc3 : va_W) (xw : Nat → Int32) (y0 : Int32) (y1 : Int32) (y2 : Int32) (y3 : Int32) (y4 : Int32) (y5 : Int32) (y6 : Int32) (y7 : Int32) (wp3 : va_W) (x1 : Nat → Int32) (x2 : Nat → Int32) (sb : Int32) (wb : Int32) => bCourse T h po o xw y0 y1 y2 y3 y4 y5 y6 y7 wc3 ∧ bPosts T po o x1 x2 g3_7 sb wb wp3 ∧ i ≤ 60 ∧ zP3 x1 g3_7) (fun (i : Nat) (wc3 : va_W) (xw : Nat → Int32) (y0 : Int32) (y1 : Int32) (y2 : Int32) (y3 : Int32) (y4 : Int32) (y5 : Int32) (y6 : Int32) (y7 : Int32) (wp3 : va_W) (x1 : Nat → Int32) (x2 : Nat → Int32) (sb : Int32) (wb : Int32) => 60 - i) ?_ 0 ([zO1 h po a1_16 0 o 0 0 (-1) 0 0 u6_3 sd, zAr T 0 a1_16 7 gw_2]) gw_2 0 0 0 (-1) 0 0 u6_3 sd ([zO6 po o a1_17 a2_18 0 0 a3_19, zAr T 0 a1_17 7 g1_5, zAr T 0 a2_18 7 g2_6, zAr T 0 a3_19 7 g3_7]) g1_5 g2_6 0 0 (show bCourse T h po o gw_2 0 0 0 (-1) 0 0 u6_3 sd ([zO1 h po a1_16 0 o 0 0 (-1) 0 0 u6_3 sd, zAr T 0 a1_16 7 gw_2]) ∧ bPosts T po o g1_5 g2_6 g3_7 0 0 ([zO6 po o a1_17 a2_18 0 0 a3_19, zAr T 0 a1_17 7 g1_5, zAr T 0 a2_18 7 g2_6, zAr T 0 a3_19 7 g3_7]) ∧ 0 ≤ 60 ∧ zP3 g1_5 g3_7 from ⟨hw_24, hw_25, by omega, hQ⟩) G (lv_sub hl [0, 1, 2, 3, 4] rfl)
  intro i wc3 xw y0 y1 y2 y3 y4 y5 y6 y7 wp3 x1 x2 sb wb hI9 ih_13 H locs ls G hl
  replace hI9 : bCourse T h po o xw y0 y1 y2 y3 y4 y5 y6 y7 wc3 ∧ bPosts T po o x1 x2 g3_7 sb wb wp3 ∧ i ≤ 60 ∧ zP3 x1 g3_7 := hI9
  refine zAn4 hI9 ?_
  intro hc3 hp3 hi hQx
  clear hI9
  replace G : zS T A s.heap s [wc3, wp3, [zO4 o cr inn a1_20 a2_21 a3_22 a4_23, zAr T 0 a1_20 7 k1, zAr T 0 a2_21 28 k2, zAr T 0 a3_22 7 k3, zAr T 0 a4_23 7 k4]] _ _ := G
  replace hl : lv_has ls 8 [(4, .int (nI i)), (0, .ref h), (1, .ref o), (2, .int sd), (3, .int n)] := hl
  refine lv_iload hx hb dX1_draw_13 (lv_at hl 0 rfl) ?_
  refine lv_iload_n hx hb dX1_draw_15 rfl (lv_at hl 4 rfl) ?_
  refine lv_icmp_ge (tgt := 97) hx hb dX1_draw_16 (by decide) (fun c_27 => ?_) (fun c_27 => ?_)
  · have c_27n : n.toInt ≤ (i : Int) := by have q := (fa_le _ _).mp c_27; rw [nI_toInt (n := i) (by omega)] at q; exact q
    exact z_back hQz_ (z_vret C hr hlocks G (Nat.le_of_ble_eq_true rfl) (Nat.le_of_ble_eq_true rfl) dX1_draw_97 ⟨wc3, xw, y0, y1, y2, y3, y4, y5, y6, y7, wp3, x1, x2, g3_7, sb, wb, rfl, hc3, hp3, hQx⟩)
  · have c_27n : ¬ n.toInt ≤ (i : Int) := fun q => c_27 ((fa_le _ _).mpr (by rw [nI_toInt (n := i) (by omega)]; exact q))
    refine lv_iload hx hb dX1_draw_19 (lv_at hl 0 rfl) ?_
    refine lv_bipush (v := 60) hx hb dX1_draw_21 (by decide) ?_
    refine lv_icmp_ge (tgt := 97) hx hb dX1_draw_23 (by decide) (fun c_28 => ?_) (fun c_28 => ?_)
    · have c_28n : 60 ≤ i := (nI_leI (a := 60) (b := i) (by omega) (by omega)).mp c_28
      exact z_back hQz_ (z_vret C hr hlocks G (Nat.le_of_ble_eq_true rfl) (Nat.le_of_ble_eq_true rfl) dX1_draw_97 ⟨wc3, xw, y0, y1, y2, y3, y4, y5, y6, y7, wp3, x1, x2, g3_7, sb, wb, rfl, hc3, hp3, hQx⟩)
    · have c_28n : ¬ 60 ≤ i := fun q => c_28 ((nI_leI (a := 60) (b := i) (by omega) (by omega)).mpr q)
      refine z_gstN C G G.2.2.2.2.2.2.2.1 (va_Nw.use rfl G.2.2.2.2.2.2.2.2.2.2.2.2) dX1_draw_26 ?_
      refine lv_aload_n hx hb dX1_draw_29 rfl (lv_at hl 1 rfl) ?_
      refine z_gstN C G G.2.2.2.2.2.2.2.1 (va_Nw.use rfl G.2.2.2.2.2.2.2.2.2.2.2.2) dX1_draw_30 ?_
      refine z_ddl C G dX1_draw_33 ?_
      refine z_Vi (bc := [wc3]) (br := [wp3, [zO4 o cr inn a1_20 a2_21 a3_22 a4_23, zAr T 0 a1_20 7 k1, zAr T 0 a2_21 28 k2, zAr T 0 a3_22 7 k3, zAr T 0 a4_23 7 k4]]) (As := [.int 10]) (rest := [.ref (T.2 300)]) C G (c_drawBelow l T h po o xw y0 y1 y2 y3 y4 y5 y6 y7 wc3 10 hc3 (by decide) (by decide)) (kV_RX1_84 C.2.2.2.2 (Nat.le_of_ble_eq_true rfl) (Nat.le_of_ble_eq_true rfl)) [0] [0] rfl rfl (ci := 1) (qc := (RX1, TX1, 11)) rfl rfl (List.mem_flatten.mpr ⟨_, List.mem_of_getElem? (i := 0) rfl, (bCourse_mem hc3).choose_spec⟩) rfl rfl hl.1 dX1_draw_34 (Nat.le_of_ble_eq_true rfl) (Nat.le_of_ble_eq_true rfl) (fun r_34 b1 H locs hw G => ?_)
      refine zEx2 hw ?_
      intro wc2_29 u7_30
      refine zCu4 ?_
      intro hbs9 h_31 h_32 h_33
      clear hw
      subst hbs9
      have G : zS T A s.heap s [wp3, [zO4 o cr inn a1_20 a2_21 a3_22 a4_23, zAr T 0 a1_20 7 k1, zAr T 0 a2_21 28 k2, zAr T 0 a3_22 7 k3, zAr T 0 a4_23 7 k4], wc2_29] _ _ := G
      have hr1 : r_34.toInt < 10 := h_33
      refine z_ddi C G (vp_in_iff.mpr ⟨by omega, by omega⟩) dX1_draw_37 ?_
      refine lv_istore (lv' := [(5, .int (zDD.getD r_34.toNatClampNeg 0)), (4, .int (nI i)), (0, .ref h), (1, .ref o), (2, .int sd), (3, .int n)]) hx hb dX1_draw_38 hl (by decide) (zLvf_h rfl) (fun ls hl => ?_)
      refine lv_aload_n hx hb dX1_draw_40 rfl (lv_at hl 3 rfl) ?_
      have G : zS T A s.heap s [wp3, [zO4 o cr inn a1_20 a2_21 a3_22 a4_23], [zAr T 0 a1_20 7 k1], [zAr T 0 a2_21 28 k2], [zAr T 0 a3_22 7 k3], [zAr T 0 a4_23 7 k4], wc2_29] _ _ := G.re rfl
      refine z_get C G clX4 1 rfl 0 (by decide) m_fl_RX1_88 rfl dX1_draw_41 ?_
      refine lv_if_le (tgt := 91) hx hb dX1_draw_44 (by decide) (fun c_35 => ?_) (fun c_35 => ?_)
      · have c_35n : cr.toInt ≤ (0 : Int) := (fa_le _ _).mp c_35
        refine lv_iinc (v := nI (i + 1)) (lv' := [(4, .int (nI (i + 1))), (5, .int (zDD.getD r_34.toNatClampNeg 0)), (0, .ref h), (1, .ref o), (2, .int sd), (3, .int n)]) hx hb dX1_draw_91 hl (k := 1) rfl (z_inc i 1) (by decide) (zLvf_h rfl) (fun ls hl => ?_)
        refine lv_goto (tgt := 13) hx hb dX1_draw_94 (by decide) ?_
        have hw_36 : bLand T o cr inn k1 k2 k3 k4 [zO4 o cr inn a1_20 a2_21 a3_22 a4_23, zAr T 0 a1_20 7 k1, zAr T 0 a2_21 28 k2, zAr T 0 a3_22 7 k3, zAr T 0 a4_23 7 k4] := ⟨a1_20, a2_21, a3_22, a4_23, rfl⟩
        have G : zS T A s.heap s [wp3, [zO4 o cr inn a1_20 a2_21 a3_22 a4_23, zAr T 0 a1_20 7 k1, zAr T 0 a2_21 28 k2, zAr T 0 a3_22 7 k3, zAr T 0 a4_23 7 k4], wc2_29] _ _ := G.re rfl
        have G := G.sub (bs' := [wc2_29, wp3, [zO4 o cr inn a1_20 a2_21 a3_22 a4_23, zAr T 0 a1_20 7 k1, zAr T 0 a2_21 28 k2, zAr T 0 a3_22 7 k3, zAr T 0 a4_23 7 k4]]) [2, 0, 1] rfl
        exact ih_13 (i + 1) wc2_29 xw y0 y1 y2 y3 y4 y5 y6 u7_30 wp3 x1 x2 sb wb (show bCourse T h po o xw y0 y1 y2 y3 y4 y5 y6 u7_30 wc2_29 ∧ bPosts T po o x1 x2 g3_7 sb wb wp3 ∧ (i + 1) ≤ 60 ∧ zP3 x1 g3_7 from ⟨h_31, hp3, by omega, (by first | exact hQ2 | exact hQx)⟩) (show 60 - (i + 1) < 60 - i from by omega) _ _ ls G (lv_sub hl [0, 2, 3, 4, 5] rfl)
      · have c_35n : ¬ cr.toInt ≤ (0 : Int) := fun q => c_35 ((fa_le _ _).mpr q)
        refine lv_aload_n hx hb dX1_draw_47 rfl (lv_at hl 2 rfl) ?_
        refine lv_aload_n hx hb dX1_draw_48 rfl (lv_at hl 3 rfl) ?_
        refine z_get C G clX4 1 rfl 0 (by decide) m_fl_RX1_88 rfl dX1_draw_49 ?_
        refine z_Vi (bc := [wc2_29]) (br := [wp3, [zO4 o cr inn a1_20 a2_21 a3_22 a4_23], [zAr T 0 a1_20 7 k1], [zAr T 0 a2_21 28 k2], [zAr T 0 a3_22 7 k3], [zAr T 0 a4_23 7 k4]]) (As := [.int cr]) (rest := []) C G (c_drawBelow l T h po o xw y0 y1 y2 y3 y4 y5 y6 u7_30 wc2_29 cr h_31 (by omega) (by omega)) (kV_RX1_84 C.2.2.2.2 (Nat.le_of_ble_eq_true rfl) (Nat.le_of_ble_eq_true rfl)) [6] [6] rfl rfl (ci := 1) (qc := (RX1, TX1, 11)) rfl rfl (List.mem_flatten.mpr ⟨_, List.mem_of_getElem? (i := 0) rfl, (bCourse_mem h_31).choose_spec⟩) rfl rfl hl.1 dX1_draw_52 (Nat.le_of_ble_eq_true rfl) (Nat.le_of_ble_eq_true rfl) (fun r_42 b1 H locs hw G => ?_)
        refine zEx2 hw ?_
        intro wc2_37 u7_38
        refine zCu4 ?_
        intro hbs9 h_39 h_40 h_41
        clear hw
        subst hbs9
        have G : zS T A s.heap s [wp3, [zO4 o cr inn a1_20 a2_21 a3_22 a4_23], [zAr T 0 a1_20 7 k1], [zAr T 0 a2_21 28 k2], [zAr T 0 a3_22 7 k3], [zAr T 0 a4_23 7 k4], wc2_37] _ _ := G
        refine lv_istore (lv' := [(6, .int r_42), (5, .int (zDD.getD r_34.toNatClampNeg 0)), (4, .int (nI i)), (0, .ref h), (1, .ref o), (2, .int sd), (3, .int n)]) hx hb dX1_draw_55 hl (by decide) (zLvf_h rfl) (fun ls hl => ?_)
        refine lv_iload hx hb dX1_draw_57 (lv_at hl 1 rfl) ?_
        refine lv_iconst (v := 4) hx hb dX1_draw_59 (by decide) ?_
        refine lv_icmp_eq (tgt := 69) hx hb dX1_draw_60 (by decide) (fun c_43 => ?_) (fun c_43 => ?_)
        · have c_43n : (zDD.getD r_34.toNatClampNeg 0).toInt = (4 : Int) := (fa_eq _ _).mp c_43
          refine lv_aload_n hx hb dX1_draw_69 rfl (lv_at hl 3 rfl) ?_
          refine lv_iconst (v := 4) hx hb dX1_draw_70 (by decide) ?_
          refine z_Vi (bc := [wc2_37]) (br := [wp3, [zO4 o cr inn a1_20 a2_21 a3_22 a4_23], [zAr T 0 a1_20 7 k1], [zAr T 0 a2_21 28 k2], [zAr T 0 a3_22 7 k3], [zAr T 0 a4_23 7 k4]]) (As := [.int 4]) (rest := []) C G (c_drawBelow l T h po o xw y0 y1 y2 y3 y4 y5 y6 u7_38 wc2_37 4 h_39 (by decide) (by decide)) (kV_RX1_84 C.2.2.2.2 (Nat.le_of_ble_eq_true rfl) (Nat.le_of_ble_eq_true rfl)) [6] [6] rfl rfl (ci := 1) (qc := (RX1, TX1, 11)) rfl rfl (List.mem_flatten.mpr ⟨_, List.mem_of_getElem? (i := 0) rfl, (bCourse_mem h_39).choose_spec⟩) rfl rfl hl.1 dX1_draw_71 (Nat.le_of_ble_eq_true rfl) (Nat.le_of_ble_eq_true rfl) (fun r_49 b1 H locs hw G => ?_)
          refine zEx2 hw ?_
          intro wc2_44 u7_45
          refine zCu4 ?_
          intro hbs9 h_46 h_47 h_48
          clear hw
          subst hbs9
          have G : zS T A s.heap s [wp3, [zO4 o cr inn a1_20 a2_21 a3_22 a4_23], [zAr T 0 a1_20 7 k1], [zAr T 0 a2_21 28 k2], [zAr T 0 a3_22 7 k3], [zAr T 0 a4_23 7 k4], wc2_44] _ _ := G
          refine lv_goto (tgt := 78) hx hb dX1_draw_74 (by decide) ?_
          refine lv_istore (lv' := [(7, .int r_49), (6, .int r_42), (5, .int (zDD.getD r_34.toNatClampNeg 0)), (4, .int (nI i)), (0, .ref h), (1, .ref o), (2, .int sd), (3, .int n)]) hx hb dX1_draw_78 hl (by decide) (zLvf_h rfl) (fun ls hl => ?_)
          refine lv_aload_n hx hb dX1_draw_80 rfl (lv_at hl 4 rfl) ?_
          refine lv_iload hx hb dX1_draw_81 (lv_at hl 2 rfl) ?_
          refine lv_iload hx hb dX1_draw_83 (lv_at hl 1 rfl) ?_
          refine lv_iload hx hb dX1_draw_85 (lv_at hl 0 rfl) ?_
          have hw_50 : bLand T o cr inn k1 k2 k3 k4 [zO4 o cr inn a1_20 a2_21 a3_22 a4_23, zAr T 0 a1_20 7 k1, zAr T 0 a2_21 28 k2, zAr T 0 a3_22 7 k3, zAr T 0 a4_23 7 k4] := ⟨a1_20, a2_21, a3_22, a4_23, rfl⟩
          have G : zS T A s.heap s [wp3, [zO4 o cr inn a1_20 a2_21 a3_22 a4_23, zAr T 0 a1_20 7 k1, zAr T 0 a2_21 28 k2, zAr T 0 a3_22 7 k3, zAr T 0 a4_23 7 k4], wc2_44] _ _ := G.re rfl
          refine z_Vi (bc := [wc2_44, wp3, [zO4 o cr inn a1_20 a2_21 a3_22 a4_23, zAr T 0 a1_20 7 k1, zAr T 0 a2_21 28 k2, zAr T 0 a3_22 7 k3, zAr T 0 a4_23 7 k4]]) (br := []) (As := [.int (zDD.getD r_34.toNatClampNeg 0), .int r_42, .int r_49]) (rest := []) C G (c_does l T h po o xw y0 y1 y2 y3 y4 y5 y6 u7_45 wc2_44 x1 x2 g3_7 sb wb wp3 cr inn k1 k2 k3 k4 ([zO4 o cr inn a1_20 a2_21 a3_22 a4_23, zAr T 0 a1_20 7 k1, zAr T 0 a2_21 28 k2, zAr T 0 a3_22 7 k3, zAr T 0 a4_23 7 k4]) (zDD.getD r_34.toNatClampNeg 0) r_42 r_49 h_46 hp3 hw_50 hQx hI) (kV_RX1_74 C.2.2.2.2 (Nat.le_of_ble_eq_true rfl) (Nat.le_of_ble_eq_true rfl)) [2, 0, 1] [0, 0, 0] rfl rfl (ci := 1) (qc := (RX1, TX1, 11)) rfl rfl (List.mem_flatten.mpr ⟨_, List.mem_of_getElem? (i := 0) rfl, (bCourse_mem h_46).choose_spec⟩) rfl rfl hl.1 dX1_draw_87 (Nat.le_of_ble_eq_true rfl) (Nat.le_of_ble_eq_true rfl) (fun r_70 b1 H locs hw G => ?_)
          refine zEx15 hw ?_
          intro wc2_51 gw_52 u0_53 u1_54 u2_55 u3_56 u4_57 u5_58 u6_59 u7_60 wp2_61 g1_62 g2_63 sa_64 wa_65
          refine zCu5 ?_
          intro hbs9 h_66 h_67 h_68 h_69
          clear hw
          subst hbs9
          have G : zS T A s.heap s [wc2_51, wp2_61, [zO4 o cr inn a1_20 a2_21 a3_22 a4_23, zAr T 0 a1_20 7 k1, zAr T 0 a2_21 28 k2, zAr T 0 a3_22 7 k3, zAr T 0 a4_23 7 k4]] _ _ := G
          replace h_69 : zHd ((r_70 = 0 ∨ r_70 = 1)) := h_69
          have hQ2 : zP3 g1_62 g3_7 := h_68
          refine lv_pop hx hb dX1_draw_90 rfl ?_
          refine lv_iinc (v := nI (i + 1)) (lv' := [(4, .int (nI (i + 1))), (7, .int r_49), (6, .int r_42), (5, .int (zDD.getD r_34.toNatClampNeg 0)), (0, .ref h), (1, .ref o), (2, .int sd), (3, .int n)]) hx hb dX1_draw_91 hl (k := 3) rfl (z_inc i 1) (by decide) (zLvf_h rfl) (fun ls hl => ?_)
          refine lv_goto (tgt := 13) hx hb dX1_draw_94 (by decide) ?_
          exact ih_13 (i + 1) wc2_51 gw_52 u0_53 u1_54 u2_55 u3_56 u4_57 u5_58 u6_59 u7_60 wp2_61 g1_62 g2_63 sa_64 wa_65 (show bCourse T h po o gw_52 u0_53 u1_54 u2_55 u3_56 u4_57 u5_58 u6_59 u7_60 wc2_51 ∧ bPosts T po o g1_62 g2_63 g3_7 sa_64 wa_65 wp2_61 ∧ (i + 1) ≤ 60 ∧ zP3 g1_62 g3_7 from ⟨h_66, h_67, by omega, (by first | exact hQ2 | exact hQx)⟩) (show 60 - (i + 1) < 60 - i from by omega) _ _ ls G (lv_sub hl [0, 4, 5, 6, 7] rfl)
        · have c_43n : ¬ (zDD.getD r_34.toNatClampNeg 0).toInt = (4 : Int) := fun q => c_43 ((fa_eq _ _).mpr q)
          refine lv_iload hx hb dX1_draw_63 (lv_at hl 1 rfl) ?_
          refine lv_iconst (v := 5) hx hb dX1_draw_65 (by decide) ?_
          refine lv_icmp_ne (tgt := 77) hx hb dX1_draw_66 (by decide) (fun c_71 => ?_) (fun c_71 => ?_)
          · have c_71n : ¬ (zDD.getD r_34.toNatClampNeg 0).toInt = (5 : Int) := fun q => c_71 ((fa_eq _ _).mpr q)
            refine lv_iconst (v := (-1)) hx hb dX1_draw_77 (by decide) ?_
            refine lv_istore (lv' := [(7, .int (-1)), (6, .int r_42), (5, .int (zDD.getD r_34.toNatClampNeg 0)), (4, .int (nI i)), (0, .ref h), (1, .ref o), (2, .int sd), (3, .int n)]) hx hb dX1_draw_78 hl (by decide) (zLvf_h rfl) (fun ls hl => ?_)
            refine lv_aload_n hx hb dX1_draw_80 rfl (lv_at hl 4 rfl) ?_
            refine lv_iload hx hb dX1_draw_81 (lv_at hl 2 rfl) ?_
            refine lv_iload hx hb dX1_draw_83 (lv_at hl 1 rfl) ?_
            refine lv_iload hx hb dX1_draw_85 (lv_at hl 0 rfl) ?_
            have hw_72 : bLand T o cr inn k1 k2 k3 k4 [zO4 o cr inn a1_20 a2_21 a3_22 a4_23, zAr T 0 a1_20 7 k1, zAr T 0 a2_21 28 k2, zAr T 0 a3_22 7 k3, zAr T 0 a4_23 7 k4] := ⟨a1_20, a2_21, a3_22, a4_23, rfl⟩
            have G : zS T A s.heap s [wp3, [zO4 o cr inn a1_20 a2_21 a3_22 a4_23, zAr T 0 a1_20 7 k1, zAr T 0 a2_21 28 k2, zAr T 0 a3_22 7 k3, zAr T 0 a4_23 7 k4], wc2_37] _ _ := G.re rfl
            refine z_Vi (bc := [wc2_37, wp3, [zO4 o cr inn a1_20 a2_21 a3_22 a4_23, zAr T 0 a1_20 7 k1, zAr T 0 a2_21 28 k2, zAr T 0 a3_22 7 k3, zAr T 0 a4_23 7 k4]]) (br := []) (As := [.int (zDD.getD r_34.toNatClampNeg 0), .int r_42, .int (-1)]) (rest := []) C G (c_does l T h po o xw y0 y1 y2 y3 y4 y5 y6 u7_38 wc2_37 x1 x2 g3_7 sb wb wp3 cr inn k1 k2 k3 k4 ([zO4 o cr inn a1_20 a2_21 a3_22 a4_23, zAr T 0 a1_20 7 k1, zAr T 0 a2_21 28 k2, zAr T 0 a3_22 7 k3, zAr T 0 a4_23 7 k4]) (zDD.getD r_34.toNatClampNeg 0) r_42 (-1) h_39 hp3 hw_72 hQx hI) (kV_RX1_74 C.2.2.2.2 (Nat.le_of_ble_eq_true rfl) (Nat.le_of_ble_eq_true rfl)) [2, 0, 1] [0, 0, 0] rfl rfl (ci := 1) (qc := (RX1, TX1, 11)) rfl rfl (List.mem_flatten.mpr ⟨_, List.mem_of_getElem? (i := 0) rfl, (bCourse_mem h_39).choose_spec⟩) rfl rfl hl.1 dX1_draw_87 (Nat.le_of_ble_eq_true rfl) (Nat.le_of_ble_eq_true rfl) (fun r_92 b1 H locs hw G => ?_)
            refine zEx15 hw ?_
            intro wc2_73 gw_74 u0_75 u1_76 u2_77 u3_78 u4_79 u5_80 u6_81 u7_82 wp2_83 g1_84 g2_85 sa_86 wa_87
            refine zCu5 ?_
            intro hbs9 h_88 h_89 h_90 h_91
            clear hw
            subst hbs9
            have G : zS T A s.heap s [wc2_73, wp2_83, [zO4 o cr inn a1_20 a2_21 a3_22 a4_23, zAr T 0 a1_20 7 k1, zAr T 0 a2_21 28 k2, zAr T 0 a3_22 7 k3, zAr T 0 a4_23 7 k4]] _ _ := G
            replace h_91 : zHd ((r_92 = 0 ∨ r_92 = 1)) := h_91
            have hQ2 : zP3 g1_84 g3_7 := h_90
            refine lv_pop hx hb dX1_draw_90 rfl ?_
            refine lv_iinc (v := nI (i + 1)) (lv' := [(4, .int (nI (i + 1))), (7, .int (-1)), (6, .int r_42), (5, .int (zDD.getD r_34.toNatClampNeg 0)), (0, .ref h), (1, .ref o), (2, .int sd), (3, .int n)]) hx hb dX1_draw_91 hl (k := 3) rfl (z_inc i 1) (by decide) (zLvf_h rfl) (fun ls hl => ?_)
            refine lv_goto (tgt := 13) hx hb dX1_draw_94 (by decide) ?_
            exact ih_13 (i + 1) wc2_73 gw_74 u0_75 u1_76 u2_77 u3_78 u4_79 u5_80 u6_81 u7_82 wp2_83 g1_84 g2_85 sa_86 wa_87 (show bCourse T h po o gw_74 u0_75 u1_76 u2_77 u3_78 u4_79 u5_80 u6_81 u7_82 wc2_73 ∧ bPosts T po o g1_84 g2_85 g3_7 sa_86 wa_87 wp2_83 ∧ (i + 1) ≤ 60 ∧ zP3 g1_84 g3_7 from ⟨h_88, h_89, by omega, (by first | exact hQ2 | exact hQx)⟩) (show 60 - (i + 1) < 60 - i from by omega) _ _ ls G (lv_sub hl [0, 4, 5, 6, 7] rfl)
          · have c_71n : (zDD.getD r_34.toNatClampNeg 0).toInt = (5 : Int) := (fa_eq _ _).mp c_71
            refine lv_aload_n hx hb dX1_draw_69 rfl (lv_at hl 3 rfl) ?_
            refine lv_iconst (v := 4) hx hb dX1_draw_70 (by decide) ?_
            refine z_Vi (bc := [wc2_37]) (br := [wp3, [zO4 o cr inn a1_20 a2_21 a3_22 a4_23], [zAr T 0 a1_20 7 k1], [zAr T 0 a2_21 28 k2], [zAr T 0 a3_22 7 k3], [zAr T 0 a4_23 7 k4]]) (As := [.int 4]) (rest := []) C G (c_drawBelow l T h po o xw y0 y1 y2 y3 y4 y5 y6 u7_38 wc2_37 4 h_39 (by decide) (by decide)) (kV_RX1_84 C.2.2.2.2 (Nat.le_of_ble_eq_true rfl) (Nat.le_of_ble_eq_true rfl)) [6] [6] rfl rfl (ci := 1) (qc := (RX1, TX1, 11)) rfl rfl (List.mem_flatten.mpr ⟨_, List.mem_of_getElem? (i := 0) rfl, (bCourse_mem h_39).choose_spec⟩) rfl rfl hl.1 dX1_draw_71 (Nat.le_of_ble_eq_true rfl) (Nat.le_of_ble_eq_true rfl) (fun r_98 b1 H locs hw G => ?_)
            refine zEx2 hw ?_
            intro wc2_93 u7_94
            refine zCu4 ?_
            intro hbs9 h_95 h_96 h_97
            clear hw
            subst hbs9
            have G : zS T A s.heap s [wp3, [zO4 o cr inn a1_20 a2_21 a3_22 a4_23], [zAr T 0 a1_20 7 k1], [zAr T 0 a2_21 28 k2], [zAr T 0 a3_22 7 k3], [zAr T 0 a4_23 7 k4], wc2_93] _ _ := G
            refine lv_goto (tgt := 78) hx hb dX1_draw_74 (by decide) ?_
            refine lv_istore (lv' := [(7, .int r_98), (6, .int r_42), (5, .int (zDD.getD r_34.toNatClampNeg 0)), (4, .int (nI i)), (0, .ref h), (1, .ref o), (2, .int sd), (3, .int n)]) hx hb dX1_draw_78 hl (by decide) (zLvf_h rfl) (fun ls hl => ?_)
            refine lv_aload_n hx hb dX1_draw_80 rfl (lv_at hl 4 rfl) ?_
            refine lv_iload hx hb dX1_draw_81 (lv_at hl 2 rfl) ?_
            refine lv_iload hx hb dX1_draw_83 (lv_at hl 1 rfl) ?_
            refine lv_iload hx hb dX1_draw_85 (lv_at hl 0 rfl) ?_
            have hw_99 : bLand T o cr inn k1 k2 k3 k4 [zO4 o cr inn a1_20 a2_21 a3_22 a4_23, zAr T 0 a1_20 7 k1, zAr T 0 a2_21 28 k2, zAr T 0 a3_22 7 k3, zAr T 0 a4_23 7 k4] := ⟨a1_20, a2_21, a3_22, a4_23, rfl⟩
            have G : zS T A s.heap s [wp3, [zO4 o cr inn a1_20 a2_21 a3_22 a4_23, zAr T 0 a1_20 7 k1, zAr T 0 a2_21 28 k2, zAr T 0 a3_22 7 k3, zAr T 0 a4_23 7 k4], wc2_93] _ _ := G.re rfl
            refine z_Vi (bc := [wc2_93, wp3, [zO4 o cr inn a1_20 a2_21 a3_22 a4_23, zAr T 0 a1_20 7 k1, zAr T 0 a2_21 28 k2, zAr T 0 a3_22 7 k3, zAr T 0 a4_23 7 k4]]) (br := []) (As := [.int (zDD.getD r_34.toNatClampNeg 0), .int r_42, .int r_98]) (rest := []) C G (c_does l T h po o xw y0 y1 y2 y3 y4 y5 y6 u7_94 wc2_93 x1 x2 g3_7 sb wb wp3 cr inn k1 k2 k3 k4 ([zO4 o cr inn a1_20 a2_21 a3_22 a4_23, zAr T 0 a1_20 7 k1, zAr T 0 a2_21 28 k2, zAr T 0 a3_22 7 k3, zAr T 0 a4_23 7 k4]) (zDD.getD r_34.toNatClampNeg 0) r_42 r_98 h_95 hp3 hw_99 hQx hI) (kV_RX1_74 C.2.2.2.2 (Nat.le_of_ble_eq_true rfl) (Nat.le_of_ble_eq_true rfl)) [2, 0, 1] [0, 0, 0] rfl rfl (ci := 1) (qc := (RX1, TX1, 11)) rfl rfl (List.mem_flatten.mpr ⟨_, List.mem_of_getElem? (i := 0) rfl, (bCourse_mem h_95).choose_spec⟩) rfl rfl hl.1 dX1_draw_87 (Nat.le_of_ble_eq_true rfl) (Nat.le_of_ble_eq_true rfl) (fun r_119 b1 H locs hw G => ?_)
            refine zEx15 hw ?_
            intro wc2_100 gw_101 u0_102 u1_103 u2_104 u3_105 u4_106 u5_107 u6_108 u7_109 wp2_110 g1_111 g2_112 sa_113 wa_114
            refine zCu5 ?_
            intro hbs9 h_115 h_116 h_117 h_118
            clear hw
            subst hbs9
            have G : zS T A s.heap s [wc2_100, wp2_110, [zO4 o cr inn a1_20 a2_21 a3_22 a4_23, zAr T 0 a1_20 7 k1, zAr T 0 a2_21 28 k2, zAr T 0 a3_22 7 k3, zAr T 0 a4_23 7 k4]] _ _ := G
            replace h_118 : zHd ((r_119 = 0 ∨ r_119 = 1)) := h_118
            have hQ2 : zP3 g1_111 g3_7 := h_117
            refine lv_pop hx hb dX1_draw_90 rfl ?_
            refine lv_iinc (v := nI (i + 1)) (lv' := [(4, .int (nI (i + 1))), (7, .int r_98), (6, .int r_42), (5, .int (zDD.getD r_34.toNatClampNeg 0)), (0, .ref h), (1, .ref o), (2, .int sd), (3, .int n)]) hx hb dX1_draw_91 hl (k := 3) rfl (z_inc i 1) (by decide) (zLvf_h rfl) (fun ls hl => ?_)
            refine lv_goto (tgt := 13) hx hb dX1_draw_94 (by decide) ?_
            exact ih_13 (i + 1) wc2_100 gw_101 u0_102 u1_103 u2_104 u3_105 u4_106 u5_107 u6_108 u7_109 wp2_110 g1_111 g2_112 sa_113 wa_114 (show bCourse T h po o gw_101 u0_102 u1_103 u2_104 u3_105 u4_106 u5_107 u6_108 u7_109 wc2_100 ∧ bPosts T po o g1_111 g2_112 g3_7 sa_113 wa_114 wp2_110 ∧ (i + 1) ≤ 60 ∧ zP3 g1_111 g3_7 from ⟨h_115, h_116, by omega, (by first | exact hQ2 | exact hQx)⟩) (show 60 - (i + 1) < 60 - i from by omega) _ _ ls G (lv_sub hl [0, 4, 5, 6, 7] rfl)
theorem m_fl_RX7_55 : Cond.fieldLink RX7 55 (TX7 11).1 (TX7 11).2.1 (TX7 11).2.2.1 ∈ zT := zmem1 zsub_1 187 rfl rfl
theorem m_fl_RX7_49 : Cond.fieldLink RX7 49 (TX7 3).1 (TX7 3).2.1 (TX7 3).2.2.1 ∈ zT := zmem1 zsub_1 177 rfl rfl
theorem m_fl_RX7_84 : Cond.fieldLink RX7 84 (TX7 9).1 (TX7 9).2.1 (TX7 9).2.2.1 ∈ zT := zmem1 zsub_1 185 rfl rfl
theorem m_fl_RX7_52 : Cond.fieldLink RX7 52 (TX7 4).1 (TX7 4).2.1 (TX7 4).2.2.1 ∈ zT := zmem1 zsub_1 179 rfl rfl
theorem m_fl_RX7_59 : Cond.fieldLink RX7 59 (TX7 12).1 (TX7 12).2.1 (TX7 12).2.2.1 ∈ zT := zmem1 zsub_1 188 rfl rfl
theorem m_fl_RX7_74 : Cond.fieldLink RX7 74 (TX7 8).1 (TX7 8).2.1 (TX7 8).2.2.1 ∈ zT := zmem1 zsub_1 184 rfl rfl
theorem m_fl_RX7_46 : Cond.fieldLink RX7 46 (TX7 7).1 (TX7 7).2.1 (TX7 7).2.2.1 ∈ zT := zmem1 zsub_1 183 rfl rfl
theorem m_fl_RX7_42 : Cond.fieldLink RX7 42 (TX7 6).1 (TX7 6).2.1 (TX7 6).2.2.1 ∈ zT := zmem1 zsub_1 182 rfl rfl
theorem m_co_X7_isLetter : Cond.code yX7_isLetter cX7_isLetter 1 (some .boolean) ∈ zT := zmem1 zsub_3 10 rfl rfl
theorem m_ml_RX7_148 : Cond.methodLink RX7 148 yX7_isLetter ∈ zT := zmem1 zsub_3 8 rfl rfl
theorem m_st_X7_isLetter : Cond.static yX7_isLetter ∈ zT := zmem1 zsub_3 9 rfl rfl
theorem m_ii_RX7 : Cond.initialized RX7 ∈ zT := zmem1 zsub_1 6 rfl rfl
theorem m_fl_RX7_141 : Cond.fieldLink RX7 141 (TX7 10).1 (TX7 10).2.1 (TX7 10).2.2.1 ∈ zT := zmem1 zsub_1 186 rfl rfl
theorem m_co_X7_isDigit : Cond.code yX7_isDigit cX7_isDigit 1 (some .boolean) ∈ zT := zmem1 zsub_3 17 rfl rfl
theorem m_ml_RX7_154 : Cond.methodLink RX7 154 yX7_isDigit ∈ zT := zmem1 zsub_3 15 rfl rfl
theorem m_st_X7_isDigit : Cond.static yX7_isDigit ∈ zT := zmem1 zsub_3 16 rfl rfl
theorem m_ml_RX7_36 : Cond.methodLink RX7 36 Lib.Math.min.name ∈ zT := zmem1 zsub_2 234 rfl rfl
theorem m_co_X7_takeLetters : Cond.code yX7_takeLetters cX7_takeLetters 1 none ∈ zT := zmem1 zsub_3 14 rfl rfl
theorem m_ml_RX7_151 : Cond.methodLink RX7 151 yX7_takeLetters ∈ zT := zmem1 zsub_3 11 rfl rfl
theorem m_im_X7_takeLetters : Cond.instanceMethod yX7_takeLetters ∈ zT := zmem1 zsub_3 13 rfl rfl
theorem m_se_X7_takeLetters : Cond.selects RX7 yX7_takeLetters yX7_takeLetters ∈ zT := zmem 1 rfl rfl
theorem m_co_X7_takeDigits : Cond.code yX7_takeDigits cX7_takeDigits 1 none ∈ zT := zmem1 zsub_3 21 rfl rfl
theorem m_ml_RX7_157 : Cond.methodLink RX7 157 yX7_takeDigits ∈ zT := zmem1 zsub_3 18 rfl rfl
theorem m_im_X7_takeDigits : Cond.instanceMethod yX7_takeDigits ∈ zT := zmem1 zsub_3 20 rfl rfl
theorem m_se_X7_takeDigits : Cond.selects RX7 yX7_takeDigits yX7_takeDigits ∈ zT := zmem 2 rfl rfl
theorem m_co_X7_isBlank : Cond.code yX7_isBlank cX7_isBlank 1 (some .boolean) ∈ zT := zmem1 zsub_3 7 rfl rfl
theorem m_ml_RX7_144 : Cond.methodLink RX7 144 yX7_isBlank ∈ zT := zmem1 zsub_3 5 rfl rfl
theorem m_st_X7_isBlank : Cond.static yX7_isBlank ∈ zT := zmem1 zsub_3 6 rfl rfl
theorem m_co_X7_breakHere : Cond.code yX7_breakHere cX7_breakHere 1 none ∈ zT := zmem1 zsub_3 97 rfl rfl
theorem m_ml_RX7_105 : Cond.methodLink RX7 105 yX7_breakHere ∈ zT := zmem1 zsub_3 94 rfl rfl
theorem m_im_X7_breakHere : Cond.instanceMethod yX7_breakHere ∈ zT := zmem1 zsub_3 96 rfl rfl
theorem m_se_X7_breakHere : Cond.selects RX7 yX7_breakHere yX7_breakHere ∈ zT := zmem 6 rfl rfl
theorem m_co_X7_nextToken : Cond.code yX7_nextToken cX7_nextToken 2 none ∈ zT := zmem1 zsub_3 4 rfl rfl
theorem m_ml_RX7_71 : Cond.methodLink RX7 71 yX7_nextToken ∈ zT := zmem1 zsub_3 1 rfl rfl
theorem m_im_X7_nextToken : Cond.instanceMethod yX7_nextToken ∈ zT := zmem1 zsub_3 3 rfl rfl
theorem m_se_X7_nextToken : Cond.selects RX7 yX7_nextToken yX7_nextToken ∈ zT := zmem 0 rfl rfl
theorem m_co_X7_note : Cond.code yX7_note cX7_note 3 none ∈ zT := zmem1 zsub_3 105 rfl rfl
theorem m_ml_RX7_90 : Cond.methodLink RX7 90 yX7_note ∈ zT := zmem1 zsub_3 102 rfl rfl
theorem m_im_X7_note : Cond.instanceMethod yX7_note ∈ zT := zmem1 zsub_3 104 rfl rfl
theorem m_se_X7_note : Cond.selects RX7 yX7_note yX7_note ∈ zT := zmem 8 rfl rfl
theorem m_co_J0_length_8abf5 : Cond.code yJ0_length_8abf5 cJ0_length_8abf5 1 (some .int) ∈ zT := zmem1 zsub_3 38 rfl rfl
theorem m_ml_RX7_185 : Cond.methodLink RX7 185 yJ0_length_8abf5 ∈ zT := zmem1 zsub_3 35 rfl rfl
theorem m_im_J0_length_8abf5 : Cond.instanceMethod yJ0_length_8abf5 ∈ zT := zmem1 zsub_3 36 rfl rfl
theorem m_se_J0_length_8abf5 : Cond.selects RJ0 yJ0_length_8abf5 yJ0_length_8abf5 ∈ zT := zmem1 zsub_3 37 rfl rfl
theorem m_co_J0_charAt_5068e : Cond.code yJ0_charAt_5068e cJ0_charAt_5068e 2 (some .char) ∈ zT := zmem1 zsub_3 48 rfl rfl
theorem m_ml_RX7_190 : Cond.methodLink RX7 190 yJ0_charAt_5068e ∈ zT := zmem1 zsub_3 45 rfl rfl
theorem m_im_J0_charAt_5068e : Cond.instanceMethod yJ0_charAt_5068e ∈ zT := zmem1 zsub_3 46 rfl rfl
theorem m_se_J0_charAt_5068e : Cond.selects RJ0 yJ0_charAt_5068e yJ0_charAt_5068e ∈ zT := zmem1 zsub_3 47 rfl rfl
theorem m_co_X7_reads : Cond.code yX7_reads cX7_reads 3 (some .boolean) ∈ zT := zmem1 zsub_3 34 rfl rfl
theorem m_ml_RX7_162 : Cond.methodLink RX7 162 yX7_reads ∈ zT := zmem1 zsub_3 31 rfl rfl
theorem m_im_X7_reads : Cond.instanceMethod yX7_reads ∈ zT := zmem1 zsub_3 33 rfl rfl
theorem m_se_X7_reads : Cond.selects RX7 yX7_reads yX7_reads ∈ zT := zmem 5 rfl rfl
theorem kS_RX7_148 {R : Room} {s : State} {args : Array Value} {d mc ms : Nat} (hts : ∀ w ∈ zT, w.before args s = true) (h1 : d + 1 ≤ R.frames) (h2 : 8 + (1 + 11) + 40 * d ≤ R.locals) : CallB R s args RX7 148 yX7_isLetter cX7_isLetter 1 (some .boolean) (zW yX7_isLetter cX7_isLetter 1 (some .boolean)) (zR d mc ms) mc ms 1 ∧ (Cond.static yX7_isLetter).before args s = true := z_cwS hts m_co_X7_isLetter m_ml_RX7_148 m_st_X7_isLetter m_ii_RX7 (by decide +kernel) h1 h2
theorem kS_RX7_154 {R : Room} {s : State} {args : Array Value} {d mc ms : Nat} (hts : ∀ w ∈ zT, w.before args s = true) (h1 : d + 1 ≤ R.frames) (h2 : 8 + (1 + 11) + 40 * d ≤ R.locals) : CallB R s args RX7 154 yX7_isDigit cX7_isDigit 1 (some .boolean) (zW yX7_isDigit cX7_isDigit 1 (some .boolean)) (zR d mc ms) mc ms 1 ∧ (Cond.static yX7_isDigit).before args s = true := z_cwS hts m_co_X7_isDigit m_ml_RX7_154 m_st_X7_isDigit m_ii_RX7 (by decide +kernel) h1 h2
theorem kV_RX7_151 {R : Room} {s : State} {args : Array Value} {d mc ms : Nat} (hts : ∀ w ∈ zT, w.before args s = true) (h1 : d + 1 ≤ R.frames) (h2 : 8 + (1 + 11) + 40 * d ≤ R.locals) : CallW R s args RX7 RX7 151 yX7_takeLetters cX7_takeLetters 1 none (zW yX7_takeLetters cX7_takeLetters 1 none) (zR d mc ms) mc ms 0 := z_cwV hts m_co_X7_takeLetters m_ml_RX7_151 m_im_X7_takeLetters m_se_X7_takeLetters m_ii_RX7 (by decide +kernel) h1 h2
theorem kV_RX7_157 {R : Room} {s : State} {args : Array Value} {d mc ms : Nat} (hts : ∀ w ∈ zT, w.before args s = true) (h1 : d + 1 ≤ R.frames) (h2 : 8 + (1 + 11) + 40 * d ≤ R.locals) : CallW R s args RX7 RX7 157 yX7_takeDigits cX7_takeDigits 1 none (zW yX7_takeDigits cX7_takeDigits 1 none) (zR d mc ms) mc ms 0 := z_cwV hts m_co_X7_takeDigits m_ml_RX7_157 m_im_X7_takeDigits m_se_X7_takeDigits m_ii_RX7 (by decide +kernel) h1 h2
theorem kS_RX7_144 {R : Room} {s : State} {args : Array Value} {d mc ms : Nat} (hts : ∀ w ∈ zT, w.before args s = true) (h1 : d + 1 ≤ R.frames) (h2 : 8 + (1 + 11) + 40 * d ≤ R.locals) : CallB R s args RX7 144 yX7_isBlank cX7_isBlank 1 (some .boolean) (zW yX7_isBlank cX7_isBlank 1 (some .boolean)) (zR d mc ms) mc ms 1 ∧ (Cond.static yX7_isBlank).before args s = true := z_cwS hts m_co_X7_isBlank m_ml_RX7_144 m_st_X7_isBlank m_ii_RX7 (by decide +kernel) h1 h2
theorem kV_RX7_105 {R : Room} {s : State} {args : Array Value} {d mc ms : Nat} (hts : ∀ w ∈ zT, w.before args s = true) (h1 : d + 1 ≤ R.frames) (h2 : 8 + (1 + 11) + 40 * d ≤ R.locals) : CallW R s args RX7 RX7 105 yX7_breakHere cX7_breakHere 1 none (zW yX7_breakHere cX7_breakHere 1 none) (zR d mc ms) mc ms 0 := z_cwV hts m_co_X7_breakHere m_ml_RX7_105 m_im_X7_breakHere m_se_X7_breakHere m_ii_RX7 (by decide +kernel) h1 h2
theorem kV_RX7_71 {R : Room} {s : State} {args : Array Value} {d mc ms : Nat} (hts : ∀ w ∈ zT, w.before args s = true) (h1 : d + 1 ≤ R.frames) (h2 : 8 + (2 + 11) + 40 * d ≤ R.locals) : CallW R s args RX7 RX7 71 yX7_nextToken cX7_nextToken 2 none (zW yX7_nextToken cX7_nextToken 2 none) (zR d mc ms) mc ms 0 := z_cwV hts m_co_X7_nextToken m_ml_RX7_71 m_im_X7_nextToken m_se_X7_nextToken m_ii_RX7 (by decide +kernel) h1 h2
theorem kV_RX7_90 {R : Room} {s : State} {args : Array Value} {d mc ms : Nat} (hts : ∀ w ∈ zT, w.before args s = true) (h1 : d + 1 ≤ R.frames) (h2 : 8 + (3 + 11) + 40 * d ≤ R.locals) : CallW R s args RX7 RX7 90 yX7_note cX7_note 3 none (zW yX7_note cX7_note 3 none) (zR d mc ms) mc ms 2 := z_cwV hts m_co_X7_note m_ml_RX7_90 m_im_X7_note m_se_X7_note m_ii_RX7 (by decide +kernel) h1 h2
theorem kV_RX7_185 {R : Room} {s : State} {args : Array Value} {d mc ms : Nat} (hts : ∀ w ∈ zT, w.before args s = true) (h1 : d + 1 ≤ R.frames) (h2 : 8 + (1 + 11) + 40 * d ≤ R.locals) : CallW R s args RX7 RJ0 185 yJ0_length_8abf5 cJ0_length_8abf5 1 (some .int) (zW yJ0_length_8abf5 cJ0_length_8abf5 1 (some .int)) (zR d mc ms) mc ms 0 := z_cwV hts m_co_J0_length_8abf5 m_ml_RX7_185 m_im_J0_length_8abf5 m_se_J0_length_8abf5 m_ii_RJ0 (by decide +kernel) h1 h2
theorem kV_RX7_190 {R : Room} {s : State} {args : Array Value} {d mc ms : Nat} (hts : ∀ w ∈ zT, w.before args s = true) (h1 : d + 1 ≤ R.frames) (h2 : 8 + (2 + 11) + 40 * d ≤ R.locals) : CallW R s args RX7 RJ0 190 yJ0_charAt_5068e cJ0_charAt_5068e 2 (some .char) (zW yJ0_charAt_5068e cJ0_charAt_5068e 2 (some .char)) (zR d mc ms) mc ms 1 := z_cwV hts m_co_J0_charAt_5068e m_ml_RX7_190 m_im_J0_charAt_5068e m_se_J0_charAt_5068e m_ii_RJ0 (by decide +kernel) h1 h2
theorem kV_RX7_162 {R : Room} {s : State} {args : Array Value} {d mc ms : Nat} (hts : ∀ w ∈ zT, w.before args s = true) (h1 : d + 1 ≤ R.frames) (h2 : 8 + (3 + 11) + 40 * d ≤ R.locals) : CallW R s args RX7 RX7 162 yX7_reads cX7_reads 3 (some .boolean) (zW yX7_reads cX7_reads 3 (some .boolean)) (zR d mc ms) mc ms 1 := z_cwV hts m_co_X7_reads m_ml_RX7_162 m_im_X7_reads m_se_X7_reads m_ii_RX7 (by decide +kernel) h1 h2
theorem dX7_isBlank_0 : decode cX7_isBlank 0 = .ok (.iload_n 0, 1) := zo_26 (by decide +kernel)
theorem dX7_isBlank_1 : decode cX7_isBlank 1 = .ok (.bipush 10, 2) := zo_16 (by decide +kernel)
theorem dX7_isBlank_3 : decode cX7_isBlank 3 = .ok (.if_icmp .eq 9, 3) := zo_159 (by decide +kernel)
theorem dX7_isBlank_6 : decode cX7_isBlank 6 = .ok (.iload_n 0, 1) := zo_26 (by decide +kernel)
theorem dX7_isBlank_7 : decode cX7_isBlank 7 = .ok (.bipush 32, 2) := zo_16 (by decide +kernel)
theorem dX7_isBlank_9 : decode cX7_isBlank 9 = .ok (.if_icmp .ne 7, 3) := zo_160 (by decide +kernel)
theorem dX7_isBlank_12 : decode cX7_isBlank 12 = .ok (.iconst 1, 1) := zo_4 (by decide +kernel)
theorem dX7_isBlank_13 : decode cX7_isBlank 13 = .ok (.goto 4, 3) := zo_167 (by decide +kernel)
theorem dX7_isBlank_16 : decode cX7_isBlank 16 = .ok (.iconst 0, 1) := zo_3 (by decide +kernel)
theorem dX7_isBlank_17 : decode cX7_isBlank 17 = .ok (.ireturn, 1) := zo_172 (by decide +kernel)
theorem dX7_isLetter_0 : decode cX7_isLetter 0 = .ok (.iload_n 0, 1) := zo_26 (by decide +kernel)
theorem dX7_isLetter_1 : decode cX7_isLetter 1 = .ok (.bipush 97, 2) := zo_16 (by decide +kernel)
theorem dX7_isLetter_3 : decode cX7_isLetter 3 = .ok (.if_icmp .lt 13, 3) := zo_161 (by decide +kernel)
theorem dX7_isLetter_6 : decode cX7_isLetter 6 = .ok (.iload_n 0, 1) := zo_26 (by decide +kernel)
theorem dX7_isLetter_7 : decode cX7_isLetter 7 = .ok (.bipush 122, 2) := zo_16 (by decide +kernel)
theorem dX7_isLetter_9 : decode cX7_isLetter 9 = .ok (.if_icmp .gt 7, 3) := zo_163 (by decide +kernel)
theorem dX7_isLetter_12 : decode cX7_isLetter 12 = .ok (.iconst 1, 1) := zo_4 (by decide +kernel)
theorem dX7_isLetter_13 : decode cX7_isLetter 13 = .ok (.goto 4, 3) := zo_167 (by decide +kernel)
theorem dX7_isLetter_16 : decode cX7_isLetter 16 = .ok (.iconst 0, 1) := zo_3 (by decide +kernel)
theorem dX7_isLetter_17 : decode cX7_isLetter 17 = .ok (.ireturn, 1) := zo_172 (by decide +kernel)
theorem dX7_isDigit_0 : decode cX7_isDigit 0 = .ok (.iload_n 0, 1) := zo_26 (by decide +kernel)
theorem dX7_isDigit_1 : decode cX7_isDigit 1 = .ok (.bipush 48, 2) := zo_16 (by decide +kernel)
theorem dX7_isDigit_3 : decode cX7_isDigit 3 = .ok (.if_icmp .lt 13, 3) := zo_161 (by decide +kernel)
theorem dX7_isDigit_6 : decode cX7_isDigit 6 = .ok (.iload_n 0, 1) := zo_26 (by decide +kernel)
theorem dX7_isDigit_7 : decode cX7_isDigit 7 = .ok (.bipush 57, 2) := zo_16 (by decide +kernel)
theorem dX7_isDigit_9 : decode cX7_isDigit 9 = .ok (.if_icmp .gt 7, 3) := zo_163 (by decide +kernel)
theorem dX7_isDigit_12 : decode cX7_isDigit 12 = .ok (.iconst 1, 1) := zo_4 (by decide +kernel)
theorem dX7_isDigit_13 : decode cX7_isDigit 13 = .ok (.goto 4, 3) := zo_167 (by decide +kernel)
theorem dX7_isDigit_16 : decode cX7_isDigit 16 = .ok (.iconst 0, 1) := zo_3 (by decide +kernel)
theorem dX7_isDigit_17 : decode cX7_isDigit 17 = .ok (.ireturn, 1) := zo_172 (by decide +kernel)
theorem dX7_breakHere_0 : decode cX7_breakHere 0 = .ok (.aload_n 0, 1) := zo_42 (by decide +kernel)
theorem dX7_breakHere_1 : decode cX7_breakHere 1 = .ok (.getfield 55, 3) := zo_180 (by decide +kernel)
theorem dX7_breakHere_4 : decode cX7_breakHere 4 = .ok (.ifCond .ne 21, 3) := zo_154 (by decide +kernel)
theorem dX7_breakHere_7 : decode cX7_breakHere 7 = .ok (.aload_n 0, 1) := zo_42 (by decide +kernel)
theorem dX7_breakHere_8 : decode cX7_breakHere 8 = .ok (.iconst 1, 1) := zo_4 (by decide +kernel)
theorem dX7_breakHere_9 : decode cX7_breakHere 9 = .ok (.putfield 55, 3) := zo_181 (by decide +kernel)
theorem dX7_breakHere_12 : decode cX7_breakHere 12 = .ok (.aload_n 0, 1) := zo_42 (by decide +kernel)
theorem dX7_breakHere_13 : decode cX7_breakHere 13 = .ok (.iconst 1, 1) := zo_4 (by decide +kernel)
theorem dX7_breakHere_14 : decode cX7_breakHere 14 = .ok (.putfield 49, 3) := zo_181 (by decide +kernel)
theorem dX7_breakHere_17 : decode cX7_breakHere 17 = .ok (.aload_n 0, 1) := zo_42 (by decide +kernel)
theorem dX7_breakHere_18 : decode cX7_breakHere 18 = .ok (.aload_n 0, 1) := zo_42 (by decide +kernel)
theorem dX7_breakHere_19 : decode cX7_breakHere 19 = .ok (.getfield 84, 3) := zo_180 (by decide +kernel)
theorem dX7_breakHere_22 : decode cX7_breakHere 22 = .ok (.putfield 52, 3) := zo_181 (by decide +kernel)
theorem dX7_breakHere_25 : decode cX7_breakHere 25 = .ok (.return_, 1) := zo_177 (by decide +kernel)
theorem dX7_note_0 : decode cX7_note 0 = .ok (.aload_n 0, 1) := zo_42 (by decide +kernel)
theorem dX7_note_1 : decode cX7_note 1 = .ok (.getfield 49, 3) := zo_180 (by decide +kernel)
theorem dX7_note_4 : decode cX7_note 4 = .ok (.ifCond .ne 13, 3) := zo_154 (by decide +kernel)
theorem dX7_note_7 : decode cX7_note 7 = .ok (.aload_n 0, 1) := zo_42 (by decide +kernel)
theorem dX7_note_8 : decode cX7_note 8 = .ok (.iload_n 1, 1) := zo_27 (by decide +kernel)
theorem dX7_note_9 : decode cX7_note 9 = .ok (.putfield 49, 3) := zo_181 (by decide +kernel)
theorem dX7_note_12 : decode cX7_note 12 = .ok (.aload_n 0, 1) := zo_42 (by decide +kernel)
theorem dX7_note_13 : decode cX7_note 13 = .ok (.iload_n 2, 1) := zo_28 (by decide +kernel)
theorem dX7_note_14 : decode cX7_note 14 = .ok (.putfield 52, 3) := zo_181 (by decide +kernel)
theorem dX7_note_17 : decode cX7_note 17 = .ok (.return_, 1) := zo_177 (by decide +kernel)
theorem dX7_tellOf_0 : decode cX7_tellOf 0 = .ok (.iload_n 1, 1) := zo_27 (by decide +kernel)
theorem dX7_tellOf_1 : decode cX7_tellOf 1 = .ok (.ifCond .lt 21, 3) := zo_155 (by decide +kernel)
theorem dX7_tellOf_4 : decode cX7_tellOf 4 = .ok (.iload_n 1, 1) := zo_27 (by decide +kernel)
theorem dX7_tellOf_5 : decode cX7_tellOf 5 = .ok (.bipush 7, 2) := zo_16 (by decide +kernel)
theorem dX7_tellOf_7 : decode cX7_tellOf 7 = .ok (.if_icmp .ge 15, 3) := zo_162 (by decide +kernel)
theorem dX7_tellOf_10 : decode cX7_tellOf 10 = .ok (.aload_n 0, 1) := zo_42 (by decide +kernel)
theorem dX7_tellOf_11 : decode cX7_tellOf 11 = .ok (.dup, 1) := zo_89 (by decide +kernel)
theorem dX7_tellOf_12 : decode cX7_tellOf 12 = .ok (.getfield 59, 3) := zo_180 (by decide +kernel)
theorem dX7_tellOf_15 : decode cX7_tellOf 15 = .ok (.iconst 1, 1) := zo_4 (by decide +kernel)
theorem dX7_tellOf_16 : decode cX7_tellOf 16 = .ok (.iload_n 1, 1) := zo_27 (by decide +kernel)
theorem dX7_tellOf_17 : decode cX7_tellOf 17 = .ok (.ishl, 1) := zo_120 (by decide +kernel)
theorem dX7_tellOf_18 : decode cX7_tellOf 18 = .ok (.ior, 1) := zo_128 (by decide +kernel)
theorem dX7_tellOf_19 : decode cX7_tellOf 19 = .ok (.putfield 59, 3) := zo_181 (by decide +kernel)
theorem dX7_tellOf_22 : decode cX7_tellOf 22 = .ok (.return_, 1) := zo_177 (by decide +kernel)
theorem dX7_takeLetters_0 : decode cX7_takeLetters 0 = .ok (.aload_n 0, 1) := zo_42 (by decide +kernel)
theorem dX7_takeLetters_1 : decode cX7_takeLetters 1 = .ok (.iconst 1, 1) := zo_4 (by decide +kernel)
theorem dX7_takeLetters_2 : decode cX7_takeLetters 2 = .ok (.putfield 74, 3) := zo_181 (by decide +kernel)
theorem dX7_takeLetters_5 : decode cX7_takeLetters 5 = .ok (.aload_n 0, 1) := zo_42 (by decide +kernel)
theorem dX7_takeLetters_6 : decode cX7_takeLetters 6 = .ok (.getfield 46, 3) := zo_180 (by decide +kernel)
theorem dX7_takeLetters_9 : decode cX7_takeLetters 9 = .ok (.aload_n 0, 1) := zo_42 (by decide +kernel)
theorem dX7_takeLetters_10 : decode cX7_takeLetters 10 = .ok (.getfield 42, 3) := zo_180 (by decide +kernel)
theorem dX7_takeLetters_13 : decode cX7_takeLetters 13 = .ok (.if_icmp .ge 31, 3) := zo_162 (by decide +kernel)
theorem dX7_takeLetters_16 : decode cX7_takeLetters 16 = .ok (.aload_n 0, 1) := zo_42 (by decide +kernel)
theorem dX7_takeLetters_17 : decode cX7_takeLetters 17 = .ok (.getfield 32, 3) := zo_180 (by decide +kernel)
theorem dX7_takeLetters_20 : decode cX7_takeLetters 20 = .ok (.aload_n 0, 1) := zo_42 (by decide +kernel)
theorem dX7_takeLetters_21 : decode cX7_takeLetters 21 = .ok (.getfield 46, 3) := zo_180 (by decide +kernel)
theorem dX7_takeLetters_24 : decode cX7_takeLetters 24 = .ok (.baload, 1) := zo_51 (by decide +kernel)
theorem dX7_takeLetters_25 : decode cX7_takeLetters 25 = .ok (.invokestatic 148, 3) := zo_184 (by decide +kernel)
theorem dX7_takeLetters_28 : decode cX7_takeLetters 28 = .ok (.ifCond .eq 16, 3) := zo_153 (by decide +kernel)
theorem dX7_takeLetters_31 : decode cX7_takeLetters 31 = .ok (.aload_n 0, 1) := zo_42 (by decide +kernel)
theorem dX7_takeLetters_32 : decode cX7_takeLetters 32 = .ok (.dup, 1) := zo_89 (by decide +kernel)
theorem dX7_takeLetters_33 : decode cX7_takeLetters 33 = .ok (.getfield 46, 3) := zo_180 (by decide +kernel)
theorem dX7_takeLetters_36 : decode cX7_takeLetters 36 = .ok (.iconst 1, 1) := zo_4 (by decide +kernel)
theorem dX7_takeLetters_37 : decode cX7_takeLetters 37 = .ok (.iadd, 1) := zo_96 (by decide +kernel)
theorem dX7_takeLetters_38 : decode cX7_takeLetters 38 = .ok (.putfield 46, 3) := zo_181 (by decide +kernel)
theorem dX7_takeLetters_41 : decode cX7_takeLetters 41 = .ok (.goto (-36), 3) := zo_167 (by decide +kernel)
theorem dX7_takeLetters_44 : decode cX7_takeLetters 44 = .ok (.return_, 1) := zo_177 (by decide +kernel)
theorem dX7_takeDigits_0 : decode cX7_takeDigits 0 = .ok (.aload_n 0, 1) := zo_42 (by decide +kernel)
theorem dX7_takeDigits_1 : decode cX7_takeDigits 1 = .ok (.iconst 0, 1) := zo_3 (by decide +kernel)
theorem dX7_takeDigits_2 : decode cX7_takeDigits 2 = .ok (.putfield 141, 3) := zo_181 (by decide +kernel)
theorem dX7_takeDigits_5 : decode cX7_takeDigits 5 = .ok (.aload_n 0, 1) := zo_42 (by decide +kernel)
theorem dX7_takeDigits_6 : decode cX7_takeDigits 6 = .ok (.getfield 46, 3) := zo_180 (by decide +kernel)
theorem dX7_takeDigits_9 : decode cX7_takeDigits 9 = .ok (.aload_n 0, 1) := zo_42 (by decide +kernel)
theorem dX7_takeDigits_10 : decode cX7_takeDigits 10 = .ok (.getfield 42, 3) := zo_180 (by decide +kernel)
theorem dX7_takeDigits_13 : decode cX7_takeDigits 13 = .ok (.if_icmp .ge 61, 3) := zo_162 (by decide +kernel)
theorem dX7_takeDigits_16 : decode cX7_takeDigits 16 = .ok (.aload_n 0, 1) := zo_42 (by decide +kernel)
theorem dX7_takeDigits_17 : decode cX7_takeDigits 17 = .ok (.getfield 32, 3) := zo_180 (by decide +kernel)
theorem dX7_takeDigits_20 : decode cX7_takeDigits 20 = .ok (.aload_n 0, 1) := zo_42 (by decide +kernel)
theorem dX7_takeDigits_21 : decode cX7_takeDigits 21 = .ok (.getfield 46, 3) := zo_180 (by decide +kernel)
theorem dX7_takeDigits_24 : decode cX7_takeDigits 24 = .ok (.baload, 1) := zo_51 (by decide +kernel)
theorem dX7_takeDigits_25 : decode cX7_takeDigits 25 = .ok (.invokestatic 154, 3) := zo_184 (by decide +kernel)
theorem dX7_takeDigits_28 : decode cX7_takeDigits 28 = .ok (.ifCond .eq 46, 3) := zo_153 (by decide +kernel)
theorem dX7_takeDigits_31 : decode cX7_takeDigits 31 = .ok (.aload_n 0, 1) := zo_42 (by decide +kernel)
theorem dX7_takeDigits_32 : decode cX7_takeDigits 32 = .ok (.aload_n 0, 1) := zo_42 (by decide +kernel)
theorem dX7_takeDigits_33 : decode cX7_takeDigits 33 = .ok (.getfield 141, 3) := zo_180 (by decide +kernel)
theorem dX7_takeDigits_36 : decode cX7_takeDigits 36 = .ok (.bipush 10, 2) := zo_16 (by decide +kernel)
theorem dX7_takeDigits_38 : decode cX7_takeDigits 38 = .ok (.imul, 1) := zo_104 (by decide +kernel)
theorem dX7_takeDigits_39 : decode cX7_takeDigits 39 = .ok (.aload_n 0, 1) := zo_42 (by decide +kernel)
theorem dX7_takeDigits_40 : decode cX7_takeDigits 40 = .ok (.getfield 32, 3) := zo_180 (by decide +kernel)
theorem dX7_takeDigits_43 : decode cX7_takeDigits 43 = .ok (.aload_n 0, 1) := zo_42 (by decide +kernel)
theorem dX7_takeDigits_44 : decode cX7_takeDigits 44 = .ok (.getfield 46, 3) := zo_180 (by decide +kernel)
theorem dX7_takeDigits_47 : decode cX7_takeDigits 47 = .ok (.baload, 1) := zo_51 (by decide +kernel)
theorem dX7_takeDigits_48 : decode cX7_takeDigits 48 = .ok (.iadd, 1) := zo_96 (by decide +kernel)
theorem dX7_takeDigits_49 : decode cX7_takeDigits 49 = .ok (.bipush 48, 2) := zo_16 (by decide +kernel)
theorem dX7_takeDigits_51 : decode cX7_takeDigits 51 = .ok (.isub, 1) := zo_100 (by decide +kernel)
theorem dX7_takeDigits_52 : decode cX7_takeDigits 52 = .ok (.sipush 1000, 3) := zo_17 (by decide +kernel)
theorem dX7_takeDigits_55 : decode cX7_takeDigits 55 = .ok (.invokestatic 36, 3) := zo_184 (by decide +kernel)
theorem dX7_takeDigits_58 : decode cX7_takeDigits 58 = .ok (.putfield 141, 3) := zo_181 (by decide +kernel)
theorem dX7_takeDigits_61 : decode cX7_takeDigits 61 = .ok (.aload_n 0, 1) := zo_42 (by decide +kernel)
theorem dX7_takeDigits_62 : decode cX7_takeDigits 62 = .ok (.dup, 1) := zo_89 (by decide +kernel)
theorem dX7_takeDigits_63 : decode cX7_takeDigits 63 = .ok (.getfield 46, 3) := zo_180 (by decide +kernel)
theorem dX7_takeDigits_66 : decode cX7_takeDigits 66 = .ok (.iconst 1, 1) := zo_4 (by decide +kernel)
theorem dX7_takeDigits_67 : decode cX7_takeDigits 67 = .ok (.iadd, 1) := zo_96 (by decide +kernel)
theorem dX7_takeDigits_68 : decode cX7_takeDigits 68 = .ok (.putfield 46, 3) := zo_181 (by decide +kernel)
theorem dX7_takeDigits_71 : decode cX7_takeDigits 71 = .ok (.goto (-66), 3) := zo_167 (by decide +kernel)
theorem dX7_takeDigits_74 : decode cX7_takeDigits 74 = .ok (.aload_n 0, 1) := zo_42 (by decide +kernel)
theorem dX7_takeDigits_75 : decode cX7_takeDigits 75 = .ok (.aload_n 0, 1) := zo_42 (by decide +kernel)
theorem dX7_takeDigits_76 : decode cX7_takeDigits 76 = .ok (.getfield 46, 3) := zo_180 (by decide +kernel)
theorem dX7_takeDigits_79 : decode cX7_takeDigits 79 = .ok (.aload_n 0, 1) := zo_42 (by decide +kernel)
theorem dX7_takeDigits_80 : decode cX7_takeDigits 80 = .ok (.getfield 84, 3) := zo_180 (by decide +kernel)
theorem dX7_takeDigits_83 : decode cX7_takeDigits 83 = .ok (.isub, 1) := zo_100 (by decide +kernel)
theorem dX7_takeDigits_84 : decode cX7_takeDigits 84 = .ok (.iconst 2, 1) := zo_5 (by decide +kernel)
theorem dX7_takeDigits_85 : decode cX7_takeDigits 85 = .ok (.if_icmp .gt 7, 3) := zo_163 (by decide +kernel)
theorem dX7_takeDigits_88 : decode cX7_takeDigits 88 = .ok (.iconst 2, 1) := zo_5 (by decide +kernel)
theorem dX7_takeDigits_89 : decode cX7_takeDigits 89 = .ok (.goto 4, 3) := zo_167 (by decide +kernel)
theorem dX7_takeDigits_92 : decode cX7_takeDigits 92 = .ok (.iconst 4, 1) := zo_7 (by decide +kernel)
theorem dX7_takeDigits_93 : decode cX7_takeDigits 93 = .ok (.putfield 74, 3) := zo_181 (by decide +kernel)
theorem dX7_takeDigits_96 : decode cX7_takeDigits 96 = .ok (.return_, 1) := zo_177 (by decide +kernel)
theorem dX7_nextToken_0 : decode cX7_nextToken 0 = .ok (.aload_n 0, 1) := zo_42 (by decide +kernel)
theorem dX7_nextToken_1 : decode cX7_nextToken 1 = .ok (.getfield 46, 3) := zo_180 (by decide +kernel)
theorem dX7_nextToken_4 : decode cX7_nextToken 4 = .ok (.istore_n 1, 1) := zo_60 (by decide +kernel)
theorem dX7_nextToken_5 : decode cX7_nextToken 5 = .ok (.iload_n 1, 1) := zo_27 (by decide +kernel)
theorem dX7_nextToken_6 : decode cX7_nextToken 6 = .ok (.aload_n 0, 1) := zo_42 (by decide +kernel)
theorem dX7_nextToken_7 : decode cX7_nextToken 7 = .ok (.getfield 42, 3) := zo_180 (by decide +kernel)
theorem dX7_nextToken_10 : decode cX7_nextToken 10 = .ok (.if_icmp .ge 28, 3) := zo_162 (by decide +kernel)
theorem dX7_nextToken_13 : decode cX7_nextToken 13 = .ok (.aload_n 0, 1) := zo_42 (by decide +kernel)
theorem dX7_nextToken_14 : decode cX7_nextToken 14 = .ok (.getfield 32, 3) := zo_180 (by decide +kernel)
theorem dX7_nextToken_17 : decode cX7_nextToken 17 = .ok (.iload_n 1, 1) := zo_27 (by decide +kernel)
theorem dX7_nextToken_18 : decode cX7_nextToken 18 = .ok (.baload, 1) := zo_51 (by decide +kernel)
theorem dX7_nextToken_19 : decode cX7_nextToken 19 = .ok (.invokestatic 144, 3) := zo_184 (by decide +kernel)
theorem dX7_nextToken_22 : decode cX7_nextToken 22 = .ok (.ifCond .eq 16, 3) := zo_153 (by decide +kernel)
theorem dX7_nextToken_25 : decode cX7_nextToken 25 = .ok (.aload_n 0, 1) := zo_42 (by decide +kernel)
theorem dX7_nextToken_26 : decode cX7_nextToken 26 = .ok (.iload_n 1, 1) := zo_27 (by decide +kernel)
theorem dX7_nextToken_27 : decode cX7_nextToken 27 = .ok (.iconst 1, 1) := zo_4 (by decide +kernel)
theorem dX7_nextToken_28 : decode cX7_nextToken 28 = .ok (.iadd, 1) := zo_96 (by decide +kernel)
theorem dX7_nextToken_29 : decode cX7_nextToken 29 = .ok (.putfield 46, 3) := zo_181 (by decide +kernel)
theorem dX7_nextToken_32 : decode cX7_nextToken 32 = .ok (.iinc 1 1, 3) := zo_132 (by decide +kernel)
theorem dX7_nextToken_35 : decode cX7_nextToken 35 = .ok (.goto (-30), 3) := zo_167 (by decide +kernel)
theorem dX7_nextToken_38 : decode cX7_nextToken 38 = .ok (.aload_n 0, 1) := zo_42 (by decide +kernel)
theorem dX7_nextToken_39 : decode cX7_nextToken 39 = .ok (.aload_n 0, 1) := zo_42 (by decide +kernel)
theorem dX7_nextToken_40 : decode cX7_nextToken 40 = .ok (.getfield 46, 3) := zo_180 (by decide +kernel)
theorem dX7_nextToken_43 : decode cX7_nextToken 43 = .ok (.putfield 84, 3) := zo_181 (by decide +kernel)
theorem dX7_nextToken_46 : decode cX7_nextToken 46 = .ok (.aload_n 0, 1) := zo_42 (by decide +kernel)
theorem dX7_nextToken_47 : decode cX7_nextToken 47 = .ok (.getfield 46, 3) := zo_180 (by decide +kernel)
theorem dX7_nextToken_50 : decode cX7_nextToken 50 = .ok (.aload_n 0, 1) := zo_42 (by decide +kernel)
theorem dX7_nextToken_51 : decode cX7_nextToken 51 = .ok (.getfield 42, 3) := zo_180 (by decide +kernel)
theorem dX7_nextToken_54 : decode cX7_nextToken 54 = .ok (.if_icmp .lt 11, 3) := zo_161 (by decide +kernel)
theorem dX7_nextToken_57 : decode cX7_nextToken 57 = .ok (.aload_n 0, 1) := zo_42 (by decide +kernel)
theorem dX7_nextToken_58 : decode cX7_nextToken 58 = .ok (.iconst 0, 1) := zo_3 (by decide +kernel)
theorem dX7_nextToken_59 : decode cX7_nextToken 59 = .ok (.putfield 74, 3) := zo_181 (by decide +kernel)
theorem dX7_nextToken_62 : decode cX7_nextToken 62 = .ok (.goto 80, 3) := zo_167 (by decide +kernel)
theorem dX7_nextToken_65 : decode cX7_nextToken 65 = .ok (.aload_n 0, 1) := zo_42 (by decide +kernel)
theorem dX7_nextToken_66 : decode cX7_nextToken 66 = .ok (.getfield 32, 3) := zo_180 (by decide +kernel)
theorem dX7_nextToken_69 : decode cX7_nextToken 69 = .ok (.aload_n 0, 1) := zo_42 (by decide +kernel)
theorem dX7_nextToken_70 : decode cX7_nextToken 70 = .ok (.getfield 46, 3) := zo_180 (by decide +kernel)
theorem dX7_nextToken_73 : decode cX7_nextToken 73 = .ok (.baload, 1) := zo_51 (by decide +kernel)
theorem dX7_nextToken_74 : decode cX7_nextToken 74 = .ok (.invokestatic 148, 3) := zo_184 (by decide +kernel)
theorem dX7_nextToken_77 : decode cX7_nextToken 77 = .ok (.ifCond .eq 10, 3) := zo_153 (by decide +kernel)
theorem dX7_nextToken_80 : decode cX7_nextToken 80 = .ok (.aload_n 0, 1) := zo_42 (by decide +kernel)
theorem dX7_nextToken_81 : decode cX7_nextToken 81 = .ok (.invokevirtual 151, 3) := zo_182 (by decide +kernel)
theorem dX7_nextToken_84 : decode cX7_nextToken 84 = .ok (.goto 58, 3) := zo_167 (by decide +kernel)
theorem dX7_nextToken_87 : decode cX7_nextToken 87 = .ok (.aload_n 0, 1) := zo_42 (by decide +kernel)
theorem dX7_nextToken_88 : decode cX7_nextToken 88 = .ok (.getfield 32, 3) := zo_180 (by decide +kernel)
theorem dX7_nextToken_91 : decode cX7_nextToken 91 = .ok (.aload_n 0, 1) := zo_42 (by decide +kernel)
theorem dX7_nextToken_92 : decode cX7_nextToken 92 = .ok (.getfield 46, 3) := zo_180 (by decide +kernel)
theorem dX7_nextToken_95 : decode cX7_nextToken 95 = .ok (.baload, 1) := zo_51 (by decide +kernel)
theorem dX7_nextToken_96 : decode cX7_nextToken 96 = .ok (.invokestatic 154, 3) := zo_184 (by decide +kernel)
theorem dX7_nextToken_99 : decode cX7_nextToken 99 = .ok (.ifCond .eq 10, 3) := zo_153 (by decide +kernel)
theorem dX7_nextToken_102 : decode cX7_nextToken 102 = .ok (.aload_n 0, 1) := zo_42 (by decide +kernel)
theorem dX7_nextToken_103 : decode cX7_nextToken 103 = .ok (.invokevirtual 157, 3) := zo_182 (by decide +kernel)
theorem dX7_nextToken_106 : decode cX7_nextToken 106 = .ok (.goto 36, 3) := zo_167 (by decide +kernel)
theorem dX7_nextToken_109 : decode cX7_nextToken 109 = .ok (.aload_n 0, 1) := zo_42 (by decide +kernel)
theorem dX7_nextToken_110 : decode cX7_nextToken 110 = .ok (.aload_n 0, 1) := zo_42 (by decide +kernel)
theorem dX7_nextToken_111 : decode cX7_nextToken 111 = .ok (.getfield 32, 3) := zo_180 (by decide +kernel)
theorem dX7_nextToken_114 : decode cX7_nextToken 114 = .ok (.aload_n 0, 1) := zo_42 (by decide +kernel)
theorem dX7_nextToken_115 : decode cX7_nextToken 115 = .ok (.getfield 46, 3) := zo_180 (by decide +kernel)
theorem dX7_nextToken_118 : decode cX7_nextToken 118 = .ok (.baload, 1) := zo_51 (by decide +kernel)
theorem dX7_nextToken_119 : decode cX7_nextToken 119 = .ok (.bipush 59, 2) := zo_16 (by decide +kernel)
theorem dX7_nextToken_121 : decode cX7_nextToken 121 = .ok (.if_icmp .ne 7, 3) := zo_160 (by decide +kernel)
theorem dX7_nextToken_124 : decode cX7_nextToken 124 = .ok (.iconst 3, 1) := zo_6 (by decide +kernel)
theorem dX7_nextToken_125 : decode cX7_nextToken 125 = .ok (.goto 4, 3) := zo_167 (by decide +kernel)
theorem dX7_nextToken_128 : decode cX7_nextToken 128 = .ok (.iconst 4, 1) := zo_7 (by decide +kernel)
theorem dX7_nextToken_129 : decode cX7_nextToken 129 = .ok (.putfield 74, 3) := zo_181 (by decide +kernel)
theorem dX7_nextToken_132 : decode cX7_nextToken 132 = .ok (.aload_n 0, 1) := zo_42 (by decide +kernel)
theorem dX7_nextToken_133 : decode cX7_nextToken 133 = .ok (.dup, 1) := zo_89 (by decide +kernel)
theorem dX7_nextToken_134 : decode cX7_nextToken 134 = .ok (.getfield 46, 3) := zo_180 (by decide +kernel)
theorem dX7_nextToken_137 : decode cX7_nextToken 137 = .ok (.iconst 1, 1) := zo_4 (by decide +kernel)
theorem dX7_nextToken_138 : decode cX7_nextToken 138 = .ok (.iadd, 1) := zo_96 (by decide +kernel)
theorem dX7_nextToken_139 : decode cX7_nextToken 139 = .ok (.putfield 46, 3) := zo_181 (by decide +kernel)
theorem dX7_nextToken_142 : decode cX7_nextToken 142 = .ok (.return_, 1) := zo_177 (by decide +kernel)
theorem dX7_readNumber_0 : decode cX7_readNumber 0 = .ok (.aload_n 0, 1) := zo_42 (by decide +kernel)
theorem dX7_readNumber_1 : decode cX7_readNumber 1 = .ok (.getfield 55, 3) := zo_180 (by decide +kernel)
theorem dX7_readNumber_4 : decode cX7_readNumber 4 = .ok (.ifCond .ne 11, 3) := zo_154 (by decide +kernel)
theorem dX7_readNumber_7 : decode cX7_readNumber 7 = .ok (.aload_n 0, 1) := zo_42 (by decide +kernel)
theorem dX7_readNumber_8 : decode cX7_readNumber 8 = .ok (.getfield 74, 3) := zo_180 (by decide +kernel)
theorem dX7_readNumber_11 : decode cX7_readNumber 11 = .ok (.iconst 2, 1) := zo_5 (by decide +kernel)
theorem dX7_readNumber_12 : decode cX7_readNumber 12 = .ok (.if_icmp .eq 9, 3) := zo_159 (by decide +kernel)
theorem dX7_readNumber_15 : decode cX7_readNumber 15 = .ok (.aload_n 0, 1) := zo_42 (by decide +kernel)
theorem dX7_readNumber_16 : decode cX7_readNumber 16 = .ok (.invokevirtual 105, 3) := zo_182 (by decide +kernel)
theorem dX7_readNumber_19 : decode cX7_readNumber 19 = .ok (.iconst 0, 1) := zo_3 (by decide +kernel)
theorem dX7_readNumber_20 : decode cX7_readNumber 20 = .ok (.ireturn, 1) := zo_172 (by decide +kernel)
theorem dX7_readNumber_21 : decode cX7_readNumber 21 = .ok (.aload_n 0, 1) := zo_42 (by decide +kernel)
theorem dX7_readNumber_22 : decode cX7_readNumber 22 = .ok (.getfield 141, 3) := zo_180 (by decide +kernel)
theorem dX7_readNumber_25 : decode cX7_readNumber 25 = .ok (.istore_n 2, 1) := zo_61 (by decide +kernel)
theorem dX7_readNumber_26 : decode cX7_readNumber 26 = .ok (.iload_n 2, 1) := zo_28 (by decide +kernel)
theorem dX7_readNumber_27 : decode cX7_readNumber 27 = .ok (.iload_n 1, 1) := zo_27 (by decide +kernel)
theorem dX7_readNumber_28 : decode cX7_readNumber 28 = .ok (.if_icmp .le 12, 3) := zo_164 (by decide +kernel)
theorem dX7_readNumber_31 : decode cX7_readNumber 31 = .ok (.aload_n 0, 1) := zo_42 (by decide +kernel)
theorem dX7_readNumber_32 : decode cX7_readNumber 32 = .ok (.iconst 2, 1) := zo_5 (by decide +kernel)
theorem dX7_readNumber_33 : decode cX7_readNumber 33 = .ok (.aload_n 0, 1) := zo_42 (by decide +kernel)
theorem dX7_readNumber_34 : decode cX7_readNumber 34 = .ok (.getfield 84, 3) := zo_180 (by decide +kernel)
theorem dX7_readNumber_37 : decode cX7_readNumber 37 = .ok (.invokevirtual 90, 3) := zo_182 (by decide +kernel)
theorem dX7_readNumber_40 : decode cX7_readNumber 40 = .ok (.aload_n 0, 1) := zo_42 (by decide +kernel)
theorem dX7_readNumber_41 : decode cX7_readNumber 41 = .ok (.invokevirtual 71, 3) := zo_182 (by decide +kernel)
theorem dX7_readNumber_44 : decode cX7_readNumber 44 = .ok (.iload_n 2, 1) := zo_28 (by decide +kernel)
theorem dX7_readNumber_45 : decode cX7_readNumber 45 = .ok (.ireturn, 1) := zo_172 (by decide +kernel)
theorem dX7_reads_0 : decode cX7_reads 0 = .ok (.aload_n 0, 1) := zo_42 (by decide +kernel)
theorem dX7_reads_1 : decode cX7_reads 1 = .ok (.getfield 46, 3) := zo_180 (by decide +kernel)
theorem dX7_reads_4 : decode cX7_reads 4 = .ok (.aload_n 0, 1) := zo_42 (by decide +kernel)
theorem dX7_reads_5 : decode cX7_reads 5 = .ok (.getfield 84, 3) := zo_180 (by decide +kernel)
theorem dX7_reads_8 : decode cX7_reads 8 = .ok (.isub, 1) := zo_100 (by decide +kernel)
theorem dX7_reads_9 : decode cX7_reads 9 = .ok (.aload_n 1, 1) := zo_43 (by decide +kernel)
theorem dX7_reads_10 : decode cX7_reads 10 = .ok (.invokevirtual 185, 3) := zo_182 (by decide +kernel)
theorem dX7_reads_13 : decode cX7_reads 13 = .ok (.if_icmp .ne 21, 3) := zo_160 (by decide +kernel)
theorem dX7_reads_16 : decode cX7_reads 16 = .ok (.aload_n 0, 1) := zo_42 (by decide +kernel)
theorem dX7_reads_17 : decode cX7_reads 17 = .ok (.getfield 84, 3) := zo_180 (by decide +kernel)
theorem dX7_reads_20 : decode cX7_reads 20 = .ok (.ifCond .lt 14, 3) := zo_155 (by decide +kernel)
theorem dX7_reads_23 : decode cX7_reads 23 = .ok (.aload_n 0, 1) := zo_42 (by decide +kernel)
theorem dX7_reads_24 : decode cX7_reads 24 = .ok (.getfield 46, 3) := zo_180 (by decide +kernel)
theorem dX7_reads_27 : decode cX7_reads 27 = .ok (.aload_n 0, 1) := zo_42 (by decide +kernel)
theorem dX7_reads_28 : decode cX7_reads 28 = .ok (.getfield 42, 3) := zo_180 (by decide +kernel)
theorem dX7_reads_31 : decode cX7_reads 31 = .ok (.if_icmp .le 5, 3) := zo_164 (by decide +kernel)
theorem dX7_reads_34 : decode cX7_reads 34 = .ok (.iconst 0, 1) := zo_3 (by decide +kernel)
theorem dX7_reads_35 : decode cX7_reads 35 = .ok (.ireturn, 1) := zo_172 (by decide +kernel)
theorem dX7_reads_36 : decode cX7_reads 36 = .ok (.iconst 0, 1) := zo_3 (by decide +kernel)
theorem dX7_reads_37 : decode cX7_reads 37 = .ok (.istore_n 2, 1) := zo_61 (by decide +kernel)
theorem dX7_reads_38 : decode cX7_reads 38 = .ok (.iload_n 2, 1) := zo_28 (by decide +kernel)
theorem dX7_reads_39 : decode cX7_reads 39 = .ok (.aload_n 1, 1) := zo_43 (by decide +kernel)
theorem dX7_reads_40 : decode cX7_reads 40 = .ok (.invokevirtual 185, 3) := zo_182 (by decide +kernel)
theorem dX7_reads_43 : decode cX7_reads 43 = .ok (.if_icmp .ge 30, 3) := zo_162 (by decide +kernel)
theorem dX7_reads_46 : decode cX7_reads 46 = .ok (.aload_n 0, 1) := zo_42 (by decide +kernel)
theorem dX7_reads_47 : decode cX7_reads 47 = .ok (.getfield 32, 3) := zo_180 (by decide +kernel)
theorem dX7_reads_50 : decode cX7_reads 50 = .ok (.aload_n 0, 1) := zo_42 (by decide +kernel)
theorem dX7_reads_51 : decode cX7_reads 51 = .ok (.getfield 84, 3) := zo_180 (by decide +kernel)
theorem dX7_reads_54 : decode cX7_reads 54 = .ok (.iload_n 2, 1) := zo_28 (by decide +kernel)
theorem dX7_reads_55 : decode cX7_reads 55 = .ok (.iadd, 1) := zo_96 (by decide +kernel)
theorem dX7_reads_56 : decode cX7_reads 56 = .ok (.baload, 1) := zo_51 (by decide +kernel)
theorem dX7_reads_57 : decode cX7_reads 57 = .ok (.aload_n 1, 1) := zo_43 (by decide +kernel)
theorem dX7_reads_58 : decode cX7_reads 58 = .ok (.iload_n 2, 1) := zo_28 (by decide +kernel)
theorem dX7_reads_59 : decode cX7_reads 59 = .ok (.invokevirtual 190, 3) := zo_182 (by decide +kernel)
theorem dX7_reads_62 : decode cX7_reads 62 = .ok (.if_icmp .eq 5, 3) := zo_159 (by decide +kernel)
theorem dX7_reads_65 : decode cX7_reads 65 = .ok (.iconst 0, 1) := zo_3 (by decide +kernel)
theorem dX7_reads_66 : decode cX7_reads 66 = .ok (.ireturn, 1) := zo_172 (by decide +kernel)
theorem dX7_reads_67 : decode cX7_reads 67 = .ok (.iinc 2 1, 3) := zo_132 (by decide +kernel)
theorem dX7_reads_70 : decode cX7_reads 70 = .ok (.goto (-32), 3) := zo_167 (by decide +kernel)
theorem dX7_reads_73 : decode cX7_reads 73 = .ok (.iconst 1, 1) := zo_4 (by decide +kernel)
theorem dX7_reads_74 : decode cX7_reads 74 = .ok (.ireturn, 1) := zo_172 (by decide +kernel)
theorem dX7_wordOf_0 : decode cX7_wordOf 0 = .ok (.iload_n 1, 1) := zo_27 (by decide +kernel)
theorem dX7_wordOf_1 : decode cX7_wordOf 1 = .ok (.ifCond .ne 57, 3) := zo_154 (by decide +kernel)
theorem dX7_wordOf_4 : decode cX7_wordOf 4 = .ok (.aload_n 0, 1) := zo_42 (by decide +kernel)
theorem dX7_wordOf_5 : decode cX7_wordOf 5 = .ok (.ldc 160, 2) := zo_18 (by decide +kernel)
theorem dX7_wordOf_7 : decode cX7_wordOf 7 = .ok (.invokevirtual 162, 3) := zo_182 (by decide +kernel)
theorem dX7_wordOf_10 : decode cX7_wordOf 10 = .ok (.ifCond .eq 7, 3) := zo_153 (by decide +kernel)
theorem dX7_wordOf_13 : decode cX7_wordOf 13 = .ok (.iconst 0, 1) := zo_3 (by decide +kernel)
theorem dX7_wordOf_14 : decode cX7_wordOf 14 = .ok (.goto 43, 3) := zo_167 (by decide +kernel)
theorem dX7_wordOf_17 : decode cX7_wordOf 17 = .ok (.aload_n 0, 1) := zo_42 (by decide +kernel)
theorem dX7_wordOf_18 : decode cX7_wordOf 18 = .ok (.ldc 166, 2) := zo_18 (by decide +kernel)
theorem dX7_wordOf_20 : decode cX7_wordOf 20 = .ok (.invokevirtual 162, 3) := zo_182 (by decide +kernel)
theorem dX7_wordOf_23 : decode cX7_wordOf 23 = .ok (.ifCond .eq 7, 3) := zo_153 (by decide +kernel)
theorem dX7_wordOf_26 : decode cX7_wordOf 26 = .ok (.iconst 1, 1) := zo_4 (by decide +kernel)
theorem dX7_wordOf_27 : decode cX7_wordOf 27 = .ok (.goto 30, 3) := zo_167 (by decide +kernel)
theorem dX7_wordOf_30 : decode cX7_wordOf 30 = .ok (.aload_n 0, 1) := zo_42 (by decide +kernel)
theorem dX7_wordOf_31 : decode cX7_wordOf 31 = .ok (.ldc 167, 2) := zo_18 (by decide +kernel)
theorem dX7_wordOf_33 : decode cX7_wordOf 33 = .ok (.invokevirtual 162, 3) := zo_182 (by decide +kernel)
theorem dX7_wordOf_36 : decode cX7_wordOf 36 = .ok (.ifCond .eq 7, 3) := zo_153 (by decide +kernel)
theorem dX7_wordOf_39 : decode cX7_wordOf 39 = .ok (.iconst 2, 1) := zo_5 (by decide +kernel)
theorem dX7_wordOf_40 : decode cX7_wordOf 40 = .ok (.goto 17, 3) := zo_167 (by decide +kernel)
theorem dX7_wordOf_43 : decode cX7_wordOf 43 = .ok (.aload_n 0, 1) := zo_42 (by decide +kernel)
theorem dX7_wordOf_44 : decode cX7_wordOf 44 = .ok (.ldc 168, 2) := zo_18 (by decide +kernel)
theorem dX7_wordOf_46 : decode cX7_wordOf 46 = .ok (.invokevirtual 162, 3) := zo_182 (by decide +kernel)
theorem dX7_wordOf_49 : decode cX7_wordOf 49 = .ok (.ifCond .eq 7, 3) := zo_153 (by decide +kernel)
theorem dX7_wordOf_52 : decode cX7_wordOf 52 = .ok (.iconst 3, 1) := zo_6 (by decide +kernel)
theorem dX7_wordOf_53 : decode cX7_wordOf 53 = .ok (.goto 4, 3) := zo_167 (by decide +kernel)
theorem dX7_wordOf_56 : decode cX7_wordOf 56 = .ok (.iconst (-1), 1) := zo_2 (by decide +kernel)
theorem dX7_wordOf_57 : decode cX7_wordOf 57 = .ok (.ireturn, 1) := zo_172 (by decide +kernel)
theorem dX7_wordOf_58 : decode cX7_wordOf 58 = .ok (.iload_n 1, 1) := zo_27 (by decide +kernel)
theorem dX7_wordOf_59 : decode cX7_wordOf 59 = .ok (.iconst 2, 1) := zo_5 (by decide +kernel)
theorem dX7_wordOf_60 : decode cX7_wordOf 60 = .ok (.if_icmp .ne 31, 3) := zo_160 (by decide +kernel)
theorem dX7_wordOf_63 : decode cX7_wordOf 63 = .ok (.aload_n 0, 1) := zo_42 (by decide +kernel)
theorem dX7_wordOf_64 : decode cX7_wordOf 64 = .ok (.ldc 170, 2) := zo_18 (by decide +kernel)
theorem dX7_wordOf_66 : decode cX7_wordOf 66 = .ok (.invokevirtual 162, 3) := zo_182 (by decide +kernel)
theorem dX7_wordOf_69 : decode cX7_wordOf 69 = .ok (.ifCond .eq 7, 3) := zo_153 (by decide +kernel)
theorem dX7_wordOf_72 : decode cX7_wordOf 72 = .ok (.iconst 0, 1) := zo_3 (by decide +kernel)
theorem dX7_wordOf_73 : decode cX7_wordOf 73 = .ok (.goto 17, 3) := zo_167 (by decide +kernel)
theorem dX7_wordOf_76 : decode cX7_wordOf 76 = .ok (.aload_n 0, 1) := zo_42 (by decide +kernel)
theorem dX7_wordOf_77 : decode cX7_wordOf 77 = .ok (.ldc 172, 2) := zo_18 (by decide +kernel)
theorem dX7_wordOf_79 : decode cX7_wordOf 79 = .ok (.invokevirtual 162, 3) := zo_182 (by decide +kernel)
theorem dX7_wordOf_82 : decode cX7_wordOf 82 = .ok (.ifCond .eq 7, 3) := zo_153 (by decide +kernel)
theorem dX7_wordOf_85 : decode cX7_wordOf 85 = .ok (.iconst 1, 1) := zo_4 (by decide +kernel)
theorem dX7_wordOf_86 : decode cX7_wordOf 86 = .ok (.goto 4, 3) := zo_167 (by decide +kernel)
theorem dX7_wordOf_89 : decode cX7_wordOf 89 = .ok (.iconst (-1), 1) := zo_2 (by decide +kernel)
theorem dX7_wordOf_90 : decode cX7_wordOf 90 = .ok (.ireturn, 1) := zo_172 (by decide +kernel)
theorem dX7_wordOf_91 : decode cX7_wordOf 91 = .ok (.aload_n 0, 1) := zo_42 (by decide +kernel)
theorem dX7_wordOf_92 : decode cX7_wordOf 92 = .ok (.ldc 174, 2) := zo_18 (by decide +kernel)
theorem dX7_wordOf_94 : decode cX7_wordOf 94 = .ok (.invokevirtual 162, 3) := zo_182 (by decide +kernel)
theorem dX7_wordOf_97 : decode cX7_wordOf 97 = .ok (.ifCond .eq 5, 3) := zo_153 (by decide +kernel)
theorem dX7_wordOf_100 : decode cX7_wordOf 100 = .ok (.iconst 0, 1) := zo_3 (by decide +kernel)
theorem dX7_wordOf_101 : decode cX7_wordOf 101 = .ok (.ireturn, 1) := zo_172 (by decide +kernel)
theorem dX7_wordOf_102 : decode cX7_wordOf 102 = .ok (.aload_n 0, 1) := zo_42 (by decide +kernel)
theorem dX7_wordOf_103 : decode cX7_wordOf 103 = .ok (.ldc 176, 2) := zo_18 (by decide +kernel)
theorem dX7_wordOf_105 : decode cX7_wordOf 105 = .ok (.invokevirtual 162, 3) := zo_182 (by decide +kernel)
theorem dX7_wordOf_108 : decode cX7_wordOf 108 = .ok (.ifCond .eq 5, 3) := zo_153 (by decide +kernel)
theorem dX7_wordOf_111 : decode cX7_wordOf 111 = .ok (.iconst 1, 1) := zo_4 (by decide +kernel)
theorem dX7_wordOf_112 : decode cX7_wordOf 112 = .ok (.ireturn, 1) := zo_172 (by decide +kernel)
theorem dX7_wordOf_113 : decode cX7_wordOf 113 = .ok (.aload_n 0, 1) := zo_42 (by decide +kernel)
theorem dX7_wordOf_114 : decode cX7_wordOf 114 = .ok (.ldc 178, 2) := zo_18 (by decide +kernel)
theorem dX7_wordOf_116 : decode cX7_wordOf 116 = .ok (.invokevirtual 162, 3) := zo_182 (by decide +kernel)
theorem dX7_wordOf_119 : decode cX7_wordOf 119 = .ok (.ifCond .eq 5, 3) := zo_153 (by decide +kernel)
theorem dX7_wordOf_122 : decode cX7_wordOf 122 = .ok (.iconst 2, 1) := zo_5 (by decide +kernel)
theorem dX7_wordOf_123 : decode cX7_wordOf 123 = .ok (.ireturn, 1) := zo_172 (by decide +kernel)
theorem dX7_wordOf_124 : decode cX7_wordOf 124 = .ok (.aload_n 0, 1) := zo_42 (by decide +kernel)
theorem dX7_wordOf_125 : decode cX7_wordOf 125 = .ok (.ldc 180, 2) := zo_18 (by decide +kernel)
theorem dX7_wordOf_127 : decode cX7_wordOf 127 = .ok (.invokevirtual 162, 3) := zo_182 (by decide +kernel)
theorem dX7_wordOf_130 : decode cX7_wordOf 130 = .ok (.ifCond .eq 5, 3) := zo_153 (by decide +kernel)
theorem dX7_wordOf_133 : decode cX7_wordOf 133 = .ok (.iconst 3, 1) := zo_6 (by decide +kernel)
theorem dX7_wordOf_134 : decode cX7_wordOf 134 = .ok (.ireturn, 1) := zo_172 (by decide +kernel)
theorem dX7_wordOf_135 : decode cX7_wordOf 135 = .ok (.aload_n 0, 1) := zo_42 (by decide +kernel)
theorem dX7_wordOf_136 : decode cX7_wordOf 136 = .ok (.ldc 181, 2) := zo_18 (by decide +kernel)
theorem dX7_wordOf_138 : decode cX7_wordOf 138 = .ok (.invokevirtual 162, 3) := zo_182 (by decide +kernel)
theorem dX7_wordOf_141 : decode cX7_wordOf 141 = .ok (.ifCond .eq 7, 3) := zo_153 (by decide +kernel)
theorem dX7_wordOf_144 : decode cX7_wordOf 144 = .ok (.iconst 4, 1) := zo_7 (by decide +kernel)
theorem dX7_wordOf_145 : decode cX7_wordOf 145 = .ok (.goto 17, 3) := zo_167 (by decide +kernel)
theorem dX7_wordOf_148 : decode cX7_wordOf 148 = .ok (.aload_n 0, 1) := zo_42 (by decide +kernel)
theorem dX7_wordOf_149 : decode cX7_wordOf 149 = .ok (.ldc 183, 2) := zo_18 (by decide +kernel)
theorem dX7_wordOf_151 : decode cX7_wordOf 151 = .ok (.invokevirtual 162, 3) := zo_182 (by decide +kernel)
theorem dX7_wordOf_154 : decode cX7_wordOf 154 = .ok (.ifCond .eq 7, 3) := zo_153 (by decide +kernel)
theorem dX7_wordOf_157 : decode cX7_wordOf 157 = .ok (.iconst 5, 1) := zo_8 (by decide +kernel)
theorem dX7_wordOf_158 : decode cX7_wordOf 158 = .ok (.goto 4, 3) := zo_167 (by decide +kernel)
theorem dX7_wordOf_161 : decode cX7_wordOf 161 = .ok (.iconst (-1), 1) := zo_2 (by decide +kernel)
theorem dX7_wordOf_162 : decode cX7_wordOf 162 = .ok (.ireturn, 1) := zo_172 (by decide +kernel)
theorem z_p1 {x : Int32} (h0 : -2147483648 ≤ x.toInt) (h : x.toInt < 2147483647) : (x + 1).toInt = x.toInt + 1 := z_iaddI (y := 1) (by show -2147483648 ≤ x.toInt + 1; omega) (by show x.toInt + 1 < 2147483648; omega)
theorem z_min1k {y : Int32} (h : 0 ≤ y.toInt) : 0 ≤ (if (1000 : Int32) < y then 1000 else y).toInt ∧ (if (1000 : Int32) < y then 1000 else y).toInt ≤ 1000 := by
  split
  · exact ⟨by decide, by decide⟩
  · rename_i q
    have q2 : ¬ (1000 : Int) < y.toInt := fun z => q ((fa_lt _ _).mpr z)
    exact ⟨h, by omega⟩
theorem zLI_add {cr : Int32} {f1 f3 : Nat → Int32} (h : zLI cr f1 f3) (x : Int32) : zLI cr (zAddA cr f1 x) f3 := by
  refine ⟨h.1, fun j hj => ?_, h.2.2⟩
  unfold zAddA
  split
  · rename_i q
    unfold upd
    split
    · have e := z_clI q.1
      have g := h.2.1 x.toNatClampNeg (by omega)
      have g2 := z_p1 (x := f1 x.toNatClampNeg) (by omega) (by omega)
      omega
    · exact h.2.1 j hj
  · exact h.2.1 j hj
theorem zLI_post {cr : Int32} {f1 f3 : Nat → Int32} (h : zLI cr f1 f3) (k : Nat) {v : Int32} (hv : 0 ≤ v.toInt ∧ v.toInt ≤ 1000) : zLI cr f1 (upd f3 k v) := by
  refine ⟨h.1, h.2.1, fun j hj => ?_⟩
  unfold upd
  split
  · exact hv
  · exact h.2.2 j hj
theorem zLI_cr {cr cr' : Int32} {f1 f3 : Nat → Int32} (h : zLI cr f1 f3) (hc : 0 ≤ cr'.toInt ∧ cr'.toInt ≤ 7) : zLI cr' f1 f3 := ⟨hc, h.2⟩
theorem zLI_zero {f1 f3 : Nat → Int32} (h1 : ∀ j, j < 7 → f1 j = 0) (h3 : ∀ j, j < 7 → f3 j = 0) : zLI 0 f1 f3 := ⟨by decide, fun j hj => by rw [h1 j hj]; decide, fun j hj => by rw [h3 j hj]; decide⟩
theorem m_fl_RX7_87 : Cond.fieldLink RX7 87 (TX4 0).1 (TX4 0).2.1 (TX4 0).2.2.1 ∈ zT := zmem1 zsub_1 45 rfl rfl
theorem m_co_X7_readNumber : Cond.code yX7_readNumber cX7_readNumber 3 (some .int) ∈ zT := zmem1 zsub_3 109 rfl rfl
theorem m_ml_RX7_120 : Cond.methodLink RX7 120 yX7_readNumber ∈ zT := zmem1 zsub_3 106 rfl rfl
theorem m_im_X7_readNumber : Cond.instanceMethod yX7_readNumber ∈ zT := zmem1 zsub_3 108 rfl rfl
theorem m_se_X7_readNumber : Cond.selects RX7 yX7_readNumber yX7_readNumber ∈ zT := zmem 9 rfl rfl
theorem m_co_X4_addRoad : Cond.code yX4_addRoad cX4_addRoad 3 none ∈ zT := zmem1 zsub_3 129 rfl rfl
theorem m_ml_RX7_123 : Cond.methodLink RX7 123 yX4_addRoad ∈ zT := zmem1 zsub_3 126 rfl rfl
theorem m_im_X4_addRoad : Cond.instanceMethod yX4_addRoad ∈ zT := zmem1 zsub_3 127 rfl rfl
theorem m_se_X4_addRoad : Cond.selects RX4 yX4_addRoad yX4_addRoad ∈ zT := zmem1 zsub_3 128 rfl rfl
theorem m_co_X7_tellOf : Cond.code yX7_tellOf cX7_tellOf 2 none ∈ zT := zmem1 zsub_3 137 rfl rfl
theorem m_ml_RX7_126 : Cond.methodLink RX7 126 yX7_tellOf ∈ zT := zmem1 zsub_3 134 rfl rfl
theorem m_im_X7_tellOf : Cond.instanceMethod yX7_tellOf ∈ zT := zmem1 zsub_3 136 rfl rfl
theorem m_se_X7_tellOf : Cond.selects RX7 yX7_tellOf yX7_tellOf ∈ zT := zmem 12 rfl rfl
theorem m_fl_RX7_132 : Cond.fieldLink RX7 132 (TX4 5).1 (TX4 5).2.1 (TX4 5).2.2.1 ∈ zT := zmem1 zsub_1 65 rfl rfl
theorem m_fl_RX7_94 : Cond.fieldLink RX7 94 (TX4 4).1 (TX4 4).2.1 (TX4 4).2.2.1 ∈ zT := zmem1 zsub_1 58 rfl rfl
theorem m_fl_RX7_129 : Cond.fieldLink RX7 129 (TX4 1).1 (TX4 1).2.1 (TX4 1).2.2.1 ∈ zT := zmem1 zsub_1 51 rfl rfl
theorem m_fl_RX7_65 : Cond.fieldLink RX7 65 (TX2 0).1 (TX2 0).2.1 (TX2 0).2.2.1 ∈ zT := zmem1 zsub_1 89 rfl rfl
theorem m_co_X2_add : Cond.code yX2_add cX2_add 4 none ∈ zT := zmem1 zsub_3 113 rfl rfl
theorem m_ml_RX7_135 : Cond.methodLink RX7 135 yX2_add ∈ zT := zmem1 zsub_3 110 rfl rfl
theorem m_im_X2_add : Cond.instanceMethod yX2_add ∈ zT := zmem1 zsub_3 111 rfl rfl
theorem m_se_X2_add : Cond.selects RX2 yX2_add yX2_add ∈ zT := zmem1 zsub_3 112 rfl rfl
theorem m_fl_RX7_68 : Cond.fieldLink RX7 68 (TX5 0).1 (TX5 0).2.1 (TX5 0).2.2.1 ∈ zT := zmem1 zsub_1 115 rfl rfl
theorem m_co_X5_add : Cond.code yX5_add cX5_add 3 none ∈ zT := zmem1 zsub_3 121 rfl rfl
theorem m_ml_RX7_139 : Cond.methodLink RX7 139 yX5_add ∈ zT := zmem1 zsub_3 118 rfl rfl
theorem m_im_X5_add : Cond.instanceMethod yX5_add ∈ zT := zmem1 zsub_3 119 rfl rfl
theorem m_se_X5_add : Cond.selects RX5 yX5_add yX5_add ∈ zT := zmem1 zsub_3 120 rfl rfl
theorem m_co_X7_wordOf : Cond.code yX7_wordOf cX7_wordOf 2 (some .int) ∈ zT := zmem1 zsub_3 29 rfl rfl
theorem m_ml_RX7_101 : Cond.methodLink RX7 101 yX7_wordOf ∈ zT := zmem1 zsub_3 26 rfl rfl
theorem m_im_X7_wordOf : Cond.instanceMethod yX7_wordOf ∈ zT := zmem1 zsub_3 28 rfl rfl
theorem m_se_X7_wordOf : Cond.selects RX7 yX7_wordOf yX7_wordOf ∈ zT := zmem 4 rfl rfl
theorem m_co_X7_readOther : Cond.code yX7_readOther cX7_readOther 4 none ∈ zT := zmem1 zsub_3 141 rfl rfl
theorem m_ml_RX7_117 : Cond.methodLink RX7 117 yX7_readOther ∈ zT := zmem1 zsub_3 138 rfl rfl
theorem m_im_X7_readOther : Cond.instanceMethod yX7_readOther ∈ zT := zmem1 zsub_3 140 rfl rfl
theorem m_se_X7_readOther : Cond.selects RX7 yX7_readOther yX7_readOther ∈ zT := zmem 13 rfl rfl
theorem m_co_X7_readCrossing : Cond.code yX7_readCrossing cX7_readCrossing 6 none ∈ zT := zmem1 zsub_3 125 rfl rfl
theorem m_ml_RX7_114 : Cond.methodLink RX7 114 yX7_readCrossing ∈ zT := zmem1 zsub_3 122 rfl rfl
theorem m_im_X7_readCrossing : Cond.instanceMethod yX7_readCrossing ∈ zT := zmem1 zsub_3 124 rfl rfl
theorem m_se_X7_readCrossing : Cond.selects RX7 yX7_readCrossing yX7_readCrossing ∈ zT := zmem 11 rfl rfl
theorem m_co_X7_readFact : Cond.code yX7_readFact cX7_readFact 4 none ∈ zT := zmem1 zsub_3 117 rfl rfl
theorem m_ml_RX7_111 : Cond.methodLink RX7 111 yX7_readFact ∈ zT := zmem1 zsub_3 114 rfl rfl
theorem m_im_X7_readFact : Cond.instanceMethod yX7_readFact ∈ zT := zmem1 zsub_3 116 rfl rfl
theorem m_se_X7_readFact : Cond.selects RX7 yX7_readFact yX7_readFact ∈ zT := zmem 10 rfl rfl
theorem m_co_X7_readDeed : Cond.code yX7_readDeed cX7_readDeed 4 none ∈ zT := zmem1 zsub_3 101 rfl rfl
theorem m_ml_RX7_108 : Cond.methodLink RX7 108 yX7_readDeed ∈ zT := zmem1 zsub_3 98 rfl rfl
theorem m_im_X7_readDeed : Cond.instanceMethod yX7_readDeed ∈ zT := zmem1 zsub_3 100 rfl rfl
theorem m_se_X7_readDeed : Cond.selects RX7 yX7_readDeed yX7_readDeed ∈ zT := zmem 7 rfl rfl
theorem m_fl_RX7_98 : Cond.fieldLink RX7 98 (TX4 2).1 (TX4 2).2.1 (TX4 2).2.2.1 ∈ zT := zmem1 zsub_1 53 rfl rfl
theorem m_co_X4_clear : Cond.code yX4_clear cX4_clear 2 none ∈ zT := zmem1 zsub_3 0 rfl rfl
theorem m_ml_RX7_62 : Cond.methodLink RX7 62 yX4_clear ∈ zT := zmem1 zsub_2 237 rfl rfl
theorem m_im_X4_clear : Cond.instanceMethod yX4_clear ∈ zT := zmem1 zsub_2 238 rfl rfl
theorem m_se_X4_clear : Cond.selects RX4 yX4_clear yX4_clear ∈ zT := zmem1 zsub_2 239 rfl rfl
theorem m_co_X7_lookAtWhole : Cond.code yX7_lookAtWhole cX7_lookAtWhole 2 none ∈ zT := zmem1 zsub_3 145 rfl rfl
theorem m_ml_RX7_81 : Cond.methodLink RX7 81 yX7_lookAtWhole ∈ zT := zmem1 zsub_3 142 rfl rfl
theorem m_im_X7_lookAtWhole : Cond.instanceMethod yX7_lookAtWhole ∈ zT := zmem1 zsub_3 144 rfl rfl
theorem m_se_X7_lookAtWhole : Cond.selects RX7 yX7_lookAtWhole yX7_lookAtWhole ∈ zT := zmem 14 rfl rfl
theorem m_co_X7_readLine : Cond.code yX7_readLine cX7_readLine 3 none ∈ zT := zmem1 zsub_3 25 rfl rfl
theorem m_ml_RX7_77 : Cond.methodLink RX7 77 yX7_readLine ∈ zT := zmem1 zsub_3 22 rfl rfl
theorem m_im_X7_readLine : Cond.instanceMethod yX7_readLine ∈ zT := zmem1 zsub_3 24 rfl rfl
theorem m_se_X7_readLine : Cond.selects RX7 yX7_readLine yX7_readLine ∈ zT := zmem 3 rfl rfl
theorem kV_RX7_120 {R : Room} {s : State} {args : Array Value} {d mc ms : Nat} (hts : ∀ w ∈ zT, w.before args s = true) (h1 : d + 1 ≤ R.frames) (h2 : 8 + (3 + 11) + 40 * d ≤ R.locals) : CallW R s args RX7 RX7 120 yX7_readNumber cX7_readNumber 3 (some .int) (zW yX7_readNumber cX7_readNumber 3 (some .int)) (zR d mc ms) mc ms 1 := z_cwV hts m_co_X7_readNumber m_ml_RX7_120 m_im_X7_readNumber m_se_X7_readNumber m_ii_RX7 (by decide +kernel) h1 h2
theorem kV_RX7_123 {R : Room} {s : State} {args : Array Value} {d mc ms : Nat} (hts : ∀ w ∈ zT, w.before args s = true) (h1 : d + 1 ≤ R.frames) (h2 : 8 + (3 + 11) + 40 * d ≤ R.locals) : CallW R s args RX7 RX4 123 yX4_addRoad cX4_addRoad 3 none (zW yX4_addRoad cX4_addRoad 3 none) (zR d mc ms) mc ms 2 := z_cwV hts m_co_X4_addRoad m_ml_RX7_123 m_im_X4_addRoad m_se_X4_addRoad m_ii_RX4 (by decide +kernel) h1 h2
theorem kV_RX7_126 {R : Room} {s : State} {args : Array Value} {d mc ms : Nat} (hts : ∀ w ∈ zT, w.before args s = true) (h1 : d + 1 ≤ R.frames) (h2 : 8 + (2 + 11) + 40 * d ≤ R.locals) : CallW R s args RX7 RX7 126 yX7_tellOf cX7_tellOf 2 none (zW yX7_tellOf cX7_tellOf 2 none) (zR d mc ms) mc ms 1 := z_cwV hts m_co_X7_tellOf m_ml_RX7_126 m_im_X7_tellOf m_se_X7_tellOf m_ii_RX7 (by decide +kernel) h1 h2
theorem kV_RX7_135 {R : Room} {s : State} {args : Array Value} {d mc ms : Nat} (hts : ∀ w ∈ zT, w.before args s = true) (h1 : d + 1 ≤ R.frames) (h2 : 8 + (4 + 11) + 40 * d ≤ R.locals) : CallW R s args RX7 RX2 135 yX2_add cX2_add 4 none (zW yX2_add cX2_add 4 none) (zR d mc ms) mc ms 3 := z_cwV hts m_co_X2_add m_ml_RX7_135 m_im_X2_add m_se_X2_add m_ii_RX2 (by decide +kernel) h1 h2
theorem kV_RX7_139 {R : Room} {s : State} {args : Array Value} {d mc ms : Nat} (hts : ∀ w ∈ zT, w.before args s = true) (h1 : d + 1 ≤ R.frames) (h2 : 8 + (3 + 11) + 40 * d ≤ R.locals) : CallW R s args RX7 RX5 139 yX5_add cX5_add 3 none (zW yX5_add cX5_add 3 none) (zR d mc ms) mc ms 2 := z_cwV hts m_co_X5_add m_ml_RX7_139 m_im_X5_add m_se_X5_add m_ii_RX5 (by decide +kernel) h1 h2
theorem kV_RX7_101 {R : Room} {s : State} {args : Array Value} {d mc ms : Nat} (hts : ∀ w ∈ zT, w.before args s = true) (h1 : d + 1 ≤ R.frames) (h2 : 8 + (2 + 11) + 40 * d ≤ R.locals) : CallW R s args RX7 RX7 101 yX7_wordOf cX7_wordOf 2 (some .int) (zW yX7_wordOf cX7_wordOf 2 (some .int)) (zR d mc ms) mc ms 1 := z_cwV hts m_co_X7_wordOf m_ml_RX7_101 m_im_X7_wordOf m_se_X7_wordOf m_ii_RX7 (by decide +kernel) h1 h2
theorem kV_RX7_117 {R : Room} {s : State} {args : Array Value} {d mc ms : Nat} (hts : ∀ w ∈ zT, w.before args s = true) (h1 : d + 1 ≤ R.frames) (h2 : 8 + (4 + 11) + 40 * d ≤ R.locals) : CallW R s args RX7 RX7 117 yX7_readOther cX7_readOther 4 none (zW yX7_readOther cX7_readOther 4 none) (zR d mc ms) mc ms 1 := z_cwV hts m_co_X7_readOther m_ml_RX7_117 m_im_X7_readOther m_se_X7_readOther m_ii_RX7 (by decide +kernel) h1 h2
theorem kV_RX7_114 {R : Room} {s : State} {args : Array Value} {d mc ms : Nat} (hts : ∀ w ∈ zT, w.before args s = true) (h1 : d + 1 ≤ R.frames) (h2 : 8 + (6 + 11) + 40 * d ≤ R.locals) : CallW R s args RX7 RX7 114 yX7_readCrossing cX7_readCrossing 6 none (zW yX7_readCrossing cX7_readCrossing 6 none) (zR d mc ms) mc ms 0 := z_cwV hts m_co_X7_readCrossing m_ml_RX7_114 m_im_X7_readCrossing m_se_X7_readCrossing m_ii_RX7 (by decide +kernel) h1 h2
theorem kV_RX7_111 {R : Room} {s : State} {args : Array Value} {d mc ms : Nat} (hts : ∀ w ∈ zT, w.before args s = true) (h1 : d + 1 ≤ R.frames) (h2 : 8 + (4 + 11) + 40 * d ≤ R.locals) : CallW R s args RX7 RX7 111 yX7_readFact cX7_readFact 4 none (zW yX7_readFact cX7_readFact 4 none) (zR d mc ms) mc ms 1 := z_cwV hts m_co_X7_readFact m_ml_RX7_111 m_im_X7_readFact m_se_X7_readFact m_ii_RX7 (by decide +kernel) h1 h2
theorem kV_RX7_108 {R : Room} {s : State} {args : Array Value} {d mc ms : Nat} (hts : ∀ w ∈ zT, w.before args s = true) (h1 : d + 1 ≤ R.frames) (h2 : 8 + (4 + 11) + 40 * d ≤ R.locals) : CallW R s args RX7 RX7 108 yX7_readDeed cX7_readDeed 4 none (zW yX7_readDeed cX7_readDeed 4 none) (zR d mc ms) mc ms 1 := z_cwV hts m_co_X7_readDeed m_ml_RX7_108 m_im_X7_readDeed m_se_X7_readDeed m_ii_RX7 (by decide +kernel) h1 h2
theorem kV_RX7_62 {R : Room} {s : State} {args : Array Value} {d mc ms : Nat} (hts : ∀ w ∈ zT, w.before args s = true) (h1 : d + 1 ≤ R.frames) (h2 : 8 + (2 + 11) + 40 * d ≤ R.locals) : CallW R s args RX7 RX4 62 yX4_clear cX4_clear 2 none (zW yX4_clear cX4_clear 2 none) (zR d mc ms) mc ms 0 := z_cwV hts m_co_X4_clear m_ml_RX7_62 m_im_X4_clear m_se_X4_clear m_ii_RX4 (by decide +kernel) h1 h2
theorem kV_RX7_81 {R : Room} {s : State} {args : Array Value} {d mc ms : Nat} (hts : ∀ w ∈ zT, w.before args s = true) (h1 : d + 1 ≤ R.frames) (h2 : 8 + (2 + 11) + 40 * d ≤ R.locals) : CallW R s args RX7 RX7 81 yX7_lookAtWhole cX7_lookAtWhole 2 none (zW yX7_lookAtWhole cX7_lookAtWhole 2 none) (zR d mc ms) mc ms 0 := z_cwV hts m_co_X7_lookAtWhole m_ml_RX7_81 m_im_X7_lookAtWhole m_se_X7_lookAtWhole m_ii_RX7 (by decide +kernel) h1 h2
theorem kV_RX7_77 {R : Room} {s : State} {args : Array Value} {d mc ms : Nat} (hts : ∀ w ∈ zT, w.before args s = true) (h1 : d + 1 ≤ R.frames) (h2 : 8 + (3 + 11) + 40 * d ≤ R.locals) : CallW R s args RX7 RX7 77 yX7_readLine cX7_readLine 3 none (zW yX7_readLine cX7_readLine 3 none) (zR d mc ms) mc ms 1 := z_cwV hts m_co_X7_readLine m_ml_RX7_77 m_im_X7_readLine m_se_X7_readLine m_ii_RX7 (by decide +kernel) h1 h2
theorem dX7_readCrossing_0 : decode cX7_readCrossing 0 = .ok (.aload_n 0, 1) := zo_42 (by decide +kernel)
theorem dX7_readCrossing_1 : decode cX7_readCrossing 1 = .ok (.getfield 12, 3) := zo_180 (by decide +kernel)
theorem dX7_readCrossing_4 : decode cX7_readCrossing 4 = .ok (.getfield 87, 3) := zo_180 (by decide +kernel)
theorem dX7_readCrossing_7 : decode cX7_readCrossing 7 = .ok (.istore_n 1, 1) := zo_60 (by decide +kernel)
theorem dX7_readCrossing_8 : decode cX7_readCrossing 8 = .ok (.iload_n 1, 1) := zo_27 (by decide +kernel)
theorem dX7_readCrossing_9 : decode cX7_readCrossing 9 = .ok (.bipush 7, 2) := zo_16 (by decide +kernel)
theorem dX7_readCrossing_11 : decode cX7_readCrossing 11 = .ok (.if_icmp .lt 15, 3) := zo_161 (by decide +kernel)
theorem dX7_readCrossing_14 : decode cX7_readCrossing 14 = .ok (.aload_n 0, 1) := zo_42 (by decide +kernel)
theorem dX7_readCrossing_15 : decode cX7_readCrossing 15 = .ok (.iconst 3, 1) := zo_6 (by decide +kernel)
theorem dX7_readCrossing_16 : decode cX7_readCrossing 16 = .ok (.aload_n 0, 1) := zo_42 (by decide +kernel)
theorem dX7_readCrossing_17 : decode cX7_readCrossing 17 = .ok (.getfield 84, 3) := zo_180 (by decide +kernel)
theorem dX7_readCrossing_20 : decode cX7_readCrossing 20 = .ok (.invokevirtual 90, 3) := zo_182 (by decide +kernel)
theorem dX7_readCrossing_23 : decode cX7_readCrossing 23 = .ok (.goto 16, 3) := zo_167 (by decide +kernel)
theorem dX7_readCrossing_26 : decode cX7_readCrossing 26 = .ok (.aload_n 0, 1) := zo_42 (by decide +kernel)
theorem dX7_readCrossing_27 : decode cX7_readCrossing 27 = .ok (.getfield 12, 3) := zo_180 (by decide +kernel)
theorem dX7_readCrossing_30 : decode cX7_readCrossing 30 = .ok (.dup, 1) := zo_89 (by decide +kernel)
theorem dX7_readCrossing_31 : decode cX7_readCrossing 31 = .ok (.getfield 87, 3) := zo_180 (by decide +kernel)
theorem dX7_readCrossing_34 : decode cX7_readCrossing 34 = .ok (.iconst 1, 1) := zo_4 (by decide +kernel)
theorem dX7_readCrossing_35 : decode cX7_readCrossing 35 = .ok (.iadd, 1) := zo_96 (by decide +kernel)
theorem dX7_readCrossing_36 : decode cX7_readCrossing 36 = .ok (.putfield 87, 3) := zo_181 (by decide +kernel)
theorem dX7_readCrossing_39 : decode cX7_readCrossing 39 = .ok (.aload_n 0, 1) := zo_42 (by decide +kernel)
theorem dX7_readCrossing_40 : decode cX7_readCrossing 40 = .ok (.invokevirtual 71, 3) := zo_182 (by decide +kernel)
theorem dX7_readCrossing_43 : decode cX7_readCrossing 43 = .ok (.iconst 0, 1) := zo_3 (by decide +kernel)
theorem dX7_readCrossing_44 : decode cX7_readCrossing 44 = .ok (.istore_n 2, 1) := zo_61 (by decide +kernel)
theorem dX7_readCrossing_45 : decode cX7_readCrossing 45 = .ok (.iconst 0, 1) := zo_3 (by decide +kernel)
theorem dX7_readCrossing_46 : decode cX7_readCrossing 46 = .ok (.istore_n 3, 1) := zo_62 (by decide +kernel)
theorem dX7_readCrossing_47 : decode cX7_readCrossing 47 = .ok (.iload_n 3, 1) := zo_29 (by decide +kernel)
theorem dX7_readCrossing_48 : decode cX7_readCrossing 48 = .ok (.sipush 600, 3) := zo_17 (by decide +kernel)
theorem dX7_readCrossing_51 : decode cX7_readCrossing 51 = .ok (.if_icmp .gt 62, 3) := zo_163 (by decide +kernel)
theorem dX7_readCrossing_54 : decode cX7_readCrossing 54 = .ok (.aload_n 0, 1) := zo_42 (by decide +kernel)
theorem dX7_readCrossing_55 : decode cX7_readCrossing 55 = .ok (.getfield 74, 3) := zo_180 (by decide +kernel)
theorem dX7_readCrossing_58 : decode cX7_readCrossing 58 = .ok (.iconst 2, 1) := zo_5 (by decide +kernel)
theorem dX7_readCrossing_59 : decode cX7_readCrossing 59 = .ok (.if_icmp .ne 54, 3) := zo_160 (by decide +kernel)
theorem dX7_readCrossing_62 : decode cX7_readCrossing 62 = .ok (.aload_n 0, 1) := zo_42 (by decide +kernel)
theorem dX7_readCrossing_63 : decode cX7_readCrossing 63 = .ok (.getfield 84, 3) := zo_180 (by decide +kernel)
theorem dX7_readCrossing_66 : decode cX7_readCrossing 66 = .ok (.istore 4, 2) := zo_54 (by decide +kernel)
theorem dX7_readCrossing_68 : decode cX7_readCrossing 68 = .ok (.aload_n 0, 1) := zo_42 (by decide +kernel)
theorem dX7_readCrossing_69 : decode cX7_readCrossing 69 = .ok (.bipush 6, 2) := zo_16 (by decide +kernel)
theorem dX7_readCrossing_71 : decode cX7_readCrossing 71 = .ok (.invokevirtual 120, 3) := zo_182 (by decide +kernel)
theorem dX7_readCrossing_74 : decode cX7_readCrossing 74 = .ok (.istore 5, 2) := zo_54 (by decide +kernel)
theorem dX7_readCrossing_76 : decode cX7_readCrossing 76 = .ok (.iload_n 2, 1) := zo_28 (by decide +kernel)
theorem dX7_readCrossing_77 : decode cX7_readCrossing 77 = .ok (.iconst 4, 1) := zo_7 (by decide +kernel)
theorem dX7_readCrossing_78 : decode cX7_readCrossing 78 = .ok (.if_icmp .lt 10, 3) := zo_161 (by decide +kernel)
theorem dX7_readCrossing_81 : decode cX7_readCrossing 81 = .ok (.aload_n 0, 1) := zo_42 (by decide +kernel)
theorem dX7_readCrossing_82 : decode cX7_readCrossing 82 = .ok (.iconst 3, 1) := zo_6 (by decide +kernel)
theorem dX7_readCrossing_83 : decode cX7_readCrossing 83 = .ok (.iload 4, 2) := zo_21 (by decide +kernel)
theorem dX7_readCrossing_85 : decode cX7_readCrossing 85 = .ok (.invokevirtual 90, 3) := zo_182 (by decide +kernel)
theorem dX7_readCrossing_88 : decode cX7_readCrossing 88 = .ok (.iinc 2 1, 3) := zo_132 (by decide +kernel)
theorem dX7_readCrossing_91 : decode cX7_readCrossing 91 = .ok (.aload_n 0, 1) := zo_42 (by decide +kernel)
theorem dX7_readCrossing_92 : decode cX7_readCrossing 92 = .ok (.getfield 12, 3) := zo_180 (by decide +kernel)
theorem dX7_readCrossing_95 : decode cX7_readCrossing 95 = .ok (.iload_n 1, 1) := zo_27 (by decide +kernel)
theorem dX7_readCrossing_96 : decode cX7_readCrossing 96 = .ok (.iload 5, 2) := zo_21 (by decide +kernel)
theorem dX7_readCrossing_98 : decode cX7_readCrossing 98 = .ok (.invokevirtual 123, 3) := zo_182 (by decide +kernel)
theorem dX7_readCrossing_101 : decode cX7_readCrossing 101 = .ok (.aload_n 0, 1) := zo_42 (by decide +kernel)
theorem dX7_readCrossing_102 : decode cX7_readCrossing 102 = .ok (.iload 5, 2) := zo_21 (by decide +kernel)
theorem dX7_readCrossing_104 : decode cX7_readCrossing 104 = .ok (.invokevirtual 126, 3) := zo_182 (by decide +kernel)
theorem dX7_readCrossing_107 : decode cX7_readCrossing 107 = .ok (.iinc 3 1, 3) := zo_132 (by decide +kernel)
theorem dX7_readCrossing_110 : decode cX7_readCrossing 110 = .ok (.goto (-63), 3) := zo_167 (by decide +kernel)
theorem dX7_readCrossing_113 : decode cX7_readCrossing 113 = .ok (.return_, 1) := zo_177 (by decide +kernel)
theorem dX7_readOther_0 : decode cX7_readOther 0 = .ok (.aload_n 0, 1) := zo_42 (by decide +kernel)
theorem dX7_readOther_1 : decode cX7_readOther 1 = .ok (.invokevirtual 71, 3) := zo_182 (by decide +kernel)
theorem dX7_readOther_4 : decode cX7_readOther 4 = .ok (.aload_n 0, 1) := zo_42 (by decide +kernel)
theorem dX7_readOther_5 : decode cX7_readOther 5 = .ok (.bipush 6, 2) := zo_16 (by decide +kernel)
theorem dX7_readOther_7 : decode cX7_readOther 7 = .ok (.invokevirtual 120, 3) := zo_182 (by decide +kernel)
theorem dX7_readOther_10 : decode cX7_readOther 10 = .ok (.istore_n 2, 1) := zo_61 (by decide +kernel)
theorem dX7_readOther_11 : decode cX7_readOther 11 = .ok (.aload_n 0, 1) := zo_42 (by decide +kernel)
theorem dX7_readOther_12 : decode cX7_readOther 12 = .ok (.iload_n 2, 1) := zo_28 (by decide +kernel)
theorem dX7_readOther_13 : decode cX7_readOther 13 = .ok (.invokevirtual 126, 3) := zo_182 (by decide +kernel)
theorem dX7_readOther_16 : decode cX7_readOther 16 = .ok (.iload_n 1, 1) := zo_27 (by decide +kernel)
theorem dX7_readOther_17 : decode cX7_readOther 17 = .ok (.iconst 3, 1) := zo_6 (by decide +kernel)
theorem dX7_readOther_18 : decode cX7_readOther 18 = .ok (.if_icmp .ne 33, 3) := zo_160 (by decide +kernel)
theorem dX7_readOther_21 : decode cX7_readOther 21 = .ok (.aload_n 0, 1) := zo_42 (by decide +kernel)
theorem dX7_readOther_22 : decode cX7_readOther 22 = .ok (.getfield 12, 3) := zo_180 (by decide +kernel)
theorem dX7_readOther_25 : decode cX7_readOther 25 = .ok (.dup, 1) := zo_89 (by decide +kernel)
theorem dX7_readOther_26 : decode cX7_readOther 26 = .ok (.getfield 129, 3) := zo_180 (by decide +kernel)
theorem dX7_readOther_29 : decode cX7_readOther 29 = .ok (.iload_n 2, 1) := zo_28 (by decide +kernel)
theorem dX7_readOther_30 : decode cX7_readOther 30 = .ok (.ifCond .lt 15, 3) := zo_155 (by decide +kernel)
theorem dX7_readOther_33 : decode cX7_readOther 33 = .ok (.iload_n 2, 1) := zo_28 (by decide +kernel)
theorem dX7_readOther_34 : decode cX7_readOther 34 = .ok (.bipush 7, 2) := zo_16 (by decide +kernel)
theorem dX7_readOther_36 : decode cX7_readOther 36 = .ok (.if_icmp .ge 9, 3) := zo_162 (by decide +kernel)
theorem dX7_readOther_39 : decode cX7_readOther 39 = .ok (.iconst 1, 1) := zo_4 (by decide +kernel)
theorem dX7_readOther_40 : decode cX7_readOther 40 = .ok (.iload_n 2, 1) := zo_28 (by decide +kernel)
theorem dX7_readOther_41 : decode cX7_readOther 41 = .ok (.ishl, 1) := zo_120 (by decide +kernel)
theorem dX7_readOther_42 : decode cX7_readOther 42 = .ok (.goto 4, 3) := zo_167 (by decide +kernel)
theorem dX7_readOther_45 : decode cX7_readOther 45 = .ok (.iconst 0, 1) := zo_3 (by decide +kernel)
theorem dX7_readOther_46 : decode cX7_readOther 46 = .ok (.ior, 1) := zo_128 (by decide +kernel)
theorem dX7_readOther_47 : decode cX7_readOther 47 = .ok (.putfield 129, 3) := zo_181 (by decide +kernel)
theorem dX7_readOther_50 : decode cX7_readOther 50 = .ok (.return_, 1) := zo_177 (by decide +kernel)
theorem dX7_readOther_51 : decode cX7_readOther 51 = .ok (.aload_n 0, 1) := zo_42 (by decide +kernel)
theorem dX7_readOther_52 : decode cX7_readOther 52 = .ok (.iload_n 1, 1) := zo_27 (by decide +kernel)
theorem dX7_readOther_53 : decode cX7_readOther 53 = .ok (.iconst 1, 1) := zo_4 (by decide +kernel)
theorem dX7_readOther_54 : decode cX7_readOther 54 = .ok (.if_icmp .ne 7, 3) := zo_160 (by decide +kernel)
theorem dX7_readOther_57 : decode cX7_readOther 57 = .ok (.iconst 3, 1) := zo_6 (by decide +kernel)
theorem dX7_readOther_58 : decode cX7_readOther 58 = .ok (.goto 5, 3) := zo_167 (by decide +kernel)
theorem dX7_readOther_61 : decode cX7_readOther 61 = .ok (.bipush 9, 2) := zo_16 (by decide +kernel)
theorem dX7_readOther_63 : decode cX7_readOther 63 = .ok (.invokevirtual 120, 3) := zo_182 (by decide +kernel)
theorem dX7_readOther_66 : decode cX7_readOther 66 = .ok (.istore_n 3, 1) := zo_62 (by decide +kernel)
theorem dX7_readOther_67 : decode cX7_readOther 67 = .ok (.iload_n 2, 1) := zo_28 (by decide +kernel)
theorem dX7_readOther_68 : decode cX7_readOther 68 = .ok (.ifCond .lt 9, 3) := zo_155 (by decide +kernel)
theorem dX7_readOther_71 : decode cX7_readOther 71 = .ok (.iload_n 2, 1) := zo_28 (by decide +kernel)
theorem dX7_readOther_72 : decode cX7_readOther 72 = .ok (.bipush 7, 2) := zo_16 (by decide +kernel)
theorem dX7_readOther_74 : decode cX7_readOther 74 = .ok (.if_icmp .lt 4, 3) := zo_161 (by decide +kernel)
theorem dX7_readOther_77 : decode cX7_readOther 77 = .ok (.return_, 1) := zo_177 (by decide +kernel)
theorem dX7_readOther_78 : decode cX7_readOther 78 = .ok (.iload_n 1, 1) := zo_27 (by decide +kernel)
theorem dX7_readOther_79 : decode cX7_readOther 79 = .ok (.iconst 1, 1) := zo_4 (by decide +kernel)
theorem dX7_readOther_80 : decode cX7_readOther 80 = .ok (.if_icmp .ne 16, 3) := zo_160 (by decide +kernel)
theorem dX7_readOther_83 : decode cX7_readOther 83 = .ok (.aload_n 0, 1) := zo_42 (by decide +kernel)
theorem dX7_readOther_84 : decode cX7_readOther 84 = .ok (.getfield 12, 3) := zo_180 (by decide +kernel)
theorem dX7_readOther_87 : decode cX7_readOther 87 = .ok (.getfield 94, 3) := zo_180 (by decide +kernel)
theorem dX7_readOther_90 : decode cX7_readOther 90 = .ok (.iload_n 2, 1) := zo_28 (by decide +kernel)
theorem dX7_readOther_91 : decode cX7_readOther 91 = .ok (.iload_n 3, 1) := zo_29 (by decide +kernel)
theorem dX7_readOther_92 : decode cX7_readOther 92 = .ok (.iastore, 1) := zo_79 (by decide +kernel)
theorem dX7_readOther_93 : decode cX7_readOther 93 = .ok (.goto 13, 3) := zo_167 (by decide +kernel)
theorem dX7_readOther_96 : decode cX7_readOther 96 = .ok (.aload_n 0, 1) := zo_42 (by decide +kernel)
theorem dX7_readOther_97 : decode cX7_readOther 97 = .ok (.getfield 12, 3) := zo_180 (by decide +kernel)
theorem dX7_readOther_100 : decode cX7_readOther 100 = .ok (.getfield 132, 3) := zo_180 (by decide +kernel)
theorem dX7_readOther_103 : decode cX7_readOther 103 = .ok (.iload_n 2, 1) := zo_28 (by decide +kernel)
theorem dX7_readOther_104 : decode cX7_readOther 104 = .ok (.iload_n 3, 1) := zo_29 (by decide +kernel)
theorem dX7_readOther_105 : decode cX7_readOther 105 = .ok (.iastore, 1) := zo_79 (by decide +kernel)
theorem dX7_readOther_106 : decode cX7_readOther 106 = .ok (.return_, 1) := zo_177 (by decide +kernel)
theorem dX7_readDeed_0 : decode cX7_readDeed 0 = .ok (.aload_n 0, 1) := zo_42 (by decide +kernel)
theorem dX7_readDeed_1 : decode cX7_readDeed 1 = .ok (.getfield 21, 3) := zo_180 (by decide +kernel)
theorem dX7_readDeed_4 : decode cX7_readDeed 4 = .ok (.getfield 65, 3) := zo_180 (by decide +kernel)
theorem dX7_readDeed_7 : decode cX7_readDeed 7 = .ok (.bipush 40, 2) := zo_16 (by decide +kernel)
theorem dX7_readDeed_9 : decode cX7_readDeed 9 = .ok (.if_icmp .lt 12, 3) := zo_161 (by decide +kernel)
theorem dX7_readDeed_12 : decode cX7_readDeed 12 = .ok (.aload_n 0, 1) := zo_42 (by decide +kernel)
theorem dX7_readDeed_13 : decode cX7_readDeed 13 = .ok (.iconst 3, 1) := zo_6 (by decide +kernel)
theorem dX7_readDeed_14 : decode cX7_readDeed 14 = .ok (.aload_n 0, 1) := zo_42 (by decide +kernel)
theorem dX7_readDeed_15 : decode cX7_readDeed 15 = .ok (.getfield 84, 3) := zo_180 (by decide +kernel)
theorem dX7_readDeed_18 : decode cX7_readDeed 18 = .ok (.invokevirtual 90, 3) := zo_182 (by decide +kernel)
theorem dX7_readDeed_21 : decode cX7_readDeed 21 = .ok (.aload_n 0, 1) := zo_42 (by decide +kernel)
theorem dX7_readDeed_22 : decode cX7_readDeed 22 = .ok (.invokevirtual 71, 3) := zo_182 (by decide +kernel)
theorem dX7_readDeed_25 : decode cX7_readDeed 25 = .ok (.aload_n 0, 1) := zo_42 (by decide +kernel)
theorem dX7_readDeed_26 : decode cX7_readDeed 26 = .ok (.bipush 6, 2) := zo_16 (by decide +kernel)
theorem dX7_readDeed_28 : decode cX7_readDeed 28 = .ok (.invokevirtual 120, 3) := zo_182 (by decide +kernel)
theorem dX7_readDeed_31 : decode cX7_readDeed 31 = .ok (.istore_n 2, 1) := zo_61 (by decide +kernel)
theorem dX7_readDeed_32 : decode cX7_readDeed 32 = .ok (.iload_n 1, 1) := zo_27 (by decide +kernel)
theorem dX7_readDeed_33 : decode cX7_readDeed 33 = .ok (.iconst 4, 1) := zo_7 (by decide +kernel)
theorem dX7_readDeed_34 : decode cX7_readDeed 34 = .ok (.if_icmp .eq 8, 3) := zo_159 (by decide +kernel)
theorem dX7_readDeed_37 : decode cX7_readDeed 37 = .ok (.iload_n 1, 1) := zo_27 (by decide +kernel)
theorem dX7_readDeed_38 : decode cX7_readDeed 38 = .ok (.iconst 5, 1) := zo_8 (by decide +kernel)
theorem dX7_readDeed_39 : decode cX7_readDeed 39 = .ok (.if_icmp .ne 11, 3) := zo_160 (by decide +kernel)
theorem dX7_readDeed_42 : decode cX7_readDeed 42 = .ok (.aload_n 0, 1) := zo_42 (by decide +kernel)
theorem dX7_readDeed_43 : decode cX7_readDeed 43 = .ok (.iconst 3, 1) := zo_6 (by decide +kernel)
theorem dX7_readDeed_44 : decode cX7_readDeed 44 = .ok (.invokevirtual 120, 3) := zo_182 (by decide +kernel)
theorem dX7_readDeed_47 : decode cX7_readDeed 47 = .ok (.goto 4, 3) := zo_167 (by decide +kernel)
theorem dX7_readDeed_50 : decode cX7_readDeed 50 = .ok (.iconst (-1), 1) := zo_2 (by decide +kernel)
theorem dX7_readDeed_51 : decode cX7_readDeed 51 = .ok (.istore_n 3, 1) := zo_62 (by decide +kernel)
theorem dX7_readDeed_52 : decode cX7_readDeed 52 = .ok (.aload_n 0, 1) := zo_42 (by decide +kernel)
theorem dX7_readDeed_53 : decode cX7_readDeed 53 = .ok (.getfield 21, 3) := zo_180 (by decide +kernel)
theorem dX7_readDeed_56 : decode cX7_readDeed 56 = .ok (.iload_n 1, 1) := zo_27 (by decide +kernel)
theorem dX7_readDeed_57 : decode cX7_readDeed 57 = .ok (.iload_n 2, 1) := zo_28 (by decide +kernel)
theorem dX7_readDeed_58 : decode cX7_readDeed 58 = .ok (.iload_n 3, 1) := zo_29 (by decide +kernel)
theorem dX7_readDeed_59 : decode cX7_readDeed 59 = .ok (.invokevirtual 135, 3) := zo_182 (by decide +kernel)
theorem dX7_readDeed_62 : decode cX7_readDeed 62 = .ok (.return_, 1) := zo_177 (by decide +kernel)
theorem dX7_readFact_0 : decode cX7_readFact 0 = .ok (.aload_n 0, 1) := zo_42 (by decide +kernel)
theorem dX7_readFact_1 : decode cX7_readFact 1 = .ok (.getfield 28, 3) := zo_180 (by decide +kernel)
theorem dX7_readFact_4 : decode cX7_readFact 4 = .ok (.getfield 68, 3) := zo_180 (by decide +kernel)
theorem dX7_readFact_7 : decode cX7_readFact 7 = .ok (.bipush 8, 2) := zo_16 (by decide +kernel)
theorem dX7_readFact_9 : decode cX7_readFact 9 = .ok (.if_icmp .lt 12, 3) := zo_161 (by decide +kernel)
theorem dX7_readFact_12 : decode cX7_readFact 12 = .ok (.aload_n 0, 1) := zo_42 (by decide +kernel)
theorem dX7_readFact_13 : decode cX7_readFact 13 = .ok (.iconst 3, 1) := zo_6 (by decide +kernel)
theorem dX7_readFact_14 : decode cX7_readFact 14 = .ok (.aload_n 0, 1) := zo_42 (by decide +kernel)
theorem dX7_readFact_15 : decode cX7_readFact 15 = .ok (.getfield 84, 3) := zo_180 (by decide +kernel)
theorem dX7_readFact_18 : decode cX7_readFact 18 = .ok (.invokevirtual 90, 3) := zo_182 (by decide +kernel)
theorem dX7_readFact_21 : decode cX7_readFact 21 = .ok (.aload_n 0, 1) := zo_42 (by decide +kernel)
theorem dX7_readFact_22 : decode cX7_readFact 22 = .ok (.invokevirtual 71, 3) := zo_182 (by decide +kernel)
theorem dX7_readFact_25 : decode cX7_readFact 25 = .ok (.aload_n 0, 1) := zo_42 (by decide +kernel)
theorem dX7_readFact_26 : decode cX7_readFact 26 = .ok (.bipush 6, 2) := zo_16 (by decide +kernel)
theorem dX7_readFact_28 : decode cX7_readFact 28 = .ok (.invokevirtual 120, 3) := zo_182 (by decide +kernel)
theorem dX7_readFact_31 : decode cX7_readFact 31 = .ok (.istore_n 2, 1) := zo_61 (by decide +kernel)
theorem dX7_readFact_32 : decode cX7_readFact 32 = .ok (.iload_n 1, 1) := zo_27 (by decide +kernel)
theorem dX7_readFact_33 : decode cX7_readFact 33 = .ok (.ifCond .ne 12, 3) := zo_154 (by decide +kernel)
theorem dX7_readFact_36 : decode cX7_readFact 36 = .ok (.aload_n 0, 1) := zo_42 (by decide +kernel)
theorem dX7_readFact_37 : decode cX7_readFact 37 = .ok (.bipush 6, 2) := zo_16 (by decide +kernel)
theorem dX7_readFact_39 : decode cX7_readFact 39 = .ok (.invokevirtual 120, 3) := zo_182 (by decide +kernel)
theorem dX7_readFact_42 : decode cX7_readFact 42 = .ok (.goto 4, 3) := zo_167 (by decide +kernel)
theorem dX7_readFact_45 : decode cX7_readFact 45 = .ok (.iconst (-1), 1) := zo_2 (by decide +kernel)
theorem dX7_readFact_46 : decode cX7_readFact 46 = .ok (.istore_n 3, 1) := zo_62 (by decide +kernel)
theorem dX7_readFact_47 : decode cX7_readFact 47 = .ok (.aload_n 0, 1) := zo_42 (by decide +kernel)
theorem dX7_readFact_48 : decode cX7_readFact 48 = .ok (.getfield 28, 3) := zo_180 (by decide +kernel)
theorem dX7_readFact_51 : decode cX7_readFact 51 = .ok (.iload_n 2, 1) := zo_28 (by decide +kernel)
theorem dX7_readFact_52 : decode cX7_readFact 52 = .ok (.iload_n 3, 1) := zo_29 (by decide +kernel)
theorem dX7_readFact_53 : decode cX7_readFact 53 = .ok (.invokevirtual 139, 3) := zo_182 (by decide +kernel)
theorem dX7_readFact_56 : decode cX7_readFact 56 = .ok (.return_, 1) := zo_177 (by decide +kernel)
theorem dX7_readLine_0 : decode cX7_readLine 0 = .ok (.aload_n 0, 1) := zo_42 (by decide +kernel)
theorem dX7_readLine_1 : decode cX7_readLine 1 = .ok (.getfield 74, 3) := zo_180 (by decide +kernel)
theorem dX7_readLine_4 : decode cX7_readLine 4 = .ok (.iconst 1, 1) := zo_4 (by decide +kernel)
theorem dX7_readLine_5 : decode cX7_readLine 5 = .ok (.if_icmp .ne 11, 3) := zo_160 (by decide +kernel)
theorem dX7_readLine_8 : decode cX7_readLine 8 = .ok (.aload_n 0, 1) := zo_42 (by decide +kernel)
theorem dX7_readLine_9 : decode cX7_readLine 9 = .ok (.iload_n 1, 1) := zo_27 (by decide +kernel)
theorem dX7_readLine_10 : decode cX7_readLine 10 = .ok (.invokevirtual 101, 3) := zo_182 (by decide +kernel)
theorem dX7_readLine_13 : decode cX7_readLine 13 = .ok (.goto 4, 3) := zo_167 (by decide +kernel)
theorem dX7_readLine_16 : decode cX7_readLine 16 = .ok (.iconst (-1), 1) := zo_2 (by decide +kernel)
theorem dX7_readLine_17 : decode cX7_readLine 17 = .ok (.istore_n 2, 1) := zo_61 (by decide +kernel)
theorem dX7_readLine_18 : decode cX7_readLine 18 = .ok (.iload_n 2, 1) := zo_28 (by decide +kernel)
theorem dX7_readLine_19 : decode cX7_readLine 19 = .ok (.iconst (-1), 1) := zo_2 (by decide +kernel)
theorem dX7_readLine_20 : decode cX7_readLine 20 = .ok (.if_icmp .ne 8, 3) := zo_160 (by decide +kernel)
theorem dX7_readLine_23 : decode cX7_readLine 23 = .ok (.aload_n 0, 1) := zo_42 (by decide +kernel)
theorem dX7_readLine_24 : decode cX7_readLine 24 = .ok (.invokevirtual 105, 3) := zo_182 (by decide +kernel)
theorem dX7_readLine_27 : decode cX7_readLine 27 = .ok (.return_, 1) := zo_177 (by decide +kernel)
theorem dX7_readLine_28 : decode cX7_readLine 28 = .ok (.iload_n 1, 1) := zo_27 (by decide +kernel)
theorem dX7_readLine_29 : decode cX7_readLine 29 = .ok (.iconst 1, 1) := zo_4 (by decide +kernel)
theorem dX7_readLine_30 : decode cX7_readLine 30 = .ok (.if_icmp .ne 11, 3) := zo_160 (by decide +kernel)
theorem dX7_readLine_33 : decode cX7_readLine 33 = .ok (.aload_n 0, 1) := zo_42 (by decide +kernel)
theorem dX7_readLine_34 : decode cX7_readLine 34 = .ok (.iload_n 2, 1) := zo_28 (by decide +kernel)
theorem dX7_readLine_35 : decode cX7_readLine 35 = .ok (.invokevirtual 108, 3) := zo_182 (by decide +kernel)
theorem dX7_readLine_38 : decode cX7_readLine 38 = .ok (.goto 32, 3) := zo_167 (by decide +kernel)
theorem dX7_readLine_41 : decode cX7_readLine 41 = .ok (.iload_n 1, 1) := zo_27 (by decide +kernel)
theorem dX7_readLine_42 : decode cX7_readLine 42 = .ok (.iconst 2, 1) := zo_5 (by decide +kernel)
theorem dX7_readLine_43 : decode cX7_readLine 43 = .ok (.if_icmp .ne 11, 3) := zo_160 (by decide +kernel)
theorem dX7_readLine_46 : decode cX7_readLine 46 = .ok (.aload_n 0, 1) := zo_42 (by decide +kernel)
theorem dX7_readLine_47 : decode cX7_readLine 47 = .ok (.iload_n 2, 1) := zo_28 (by decide +kernel)
theorem dX7_readLine_48 : decode cX7_readLine 48 = .ok (.invokevirtual 111, 3) := zo_182 (by decide +kernel)
theorem dX7_readLine_51 : decode cX7_readLine 51 = .ok (.goto 19, 3) := zo_167 (by decide +kernel)
theorem dX7_readLine_54 : decode cX7_readLine 54 = .ok (.iload_n 2, 1) := zo_28 (by decide +kernel)
theorem dX7_readLine_55 : decode cX7_readLine 55 = .ok (.ifCond .ne 10, 3) := zo_154 (by decide +kernel)
theorem dX7_readLine_58 : decode cX7_readLine 58 = .ok (.aload_n 0, 1) := zo_42 (by decide +kernel)
theorem dX7_readLine_59 : decode cX7_readLine 59 = .ok (.invokevirtual 114, 3) := zo_182 (by decide +kernel)
theorem dX7_readLine_62 : decode cX7_readLine 62 = .ok (.goto 8, 3) := zo_167 (by decide +kernel)
theorem dX7_readLine_65 : decode cX7_readLine 65 = .ok (.aload_n 0, 1) := zo_42 (by decide +kernel)
theorem dX7_readLine_66 : decode cX7_readLine 66 = .ok (.iload_n 2, 1) := zo_28 (by decide +kernel)
theorem dX7_readLine_67 : decode cX7_readLine 67 = .ok (.invokevirtual 117, 3) := zo_182 (by decide +kernel)
theorem dX7_readLine_70 : decode cX7_readLine 70 = .ok (.aload_n 0, 1) := zo_42 (by decide +kernel)
theorem dX7_readLine_71 : decode cX7_readLine 71 = .ok (.getfield 74, 3) := zo_180 (by decide +kernel)
theorem dX7_readLine_74 : decode cX7_readLine 74 = .ok (.iconst 3, 1) := zo_6 (by decide +kernel)
theorem dX7_readLine_75 : decode cX7_readLine 75 = .ok (.if_icmp .ne 10, 3) := zo_160 (by decide +kernel)
theorem dX7_readLine_78 : decode cX7_readLine 78 = .ok (.aload_n 0, 1) := zo_42 (by decide +kernel)
theorem dX7_readLine_79 : decode cX7_readLine 79 = .ok (.invokevirtual 71, 3) := zo_182 (by decide +kernel)
theorem dX7_readLine_82 : decode cX7_readLine 82 = .ok (.goto 7, 3) := zo_167 (by decide +kernel)
theorem dX7_readLine_85 : decode cX7_readLine 85 = .ok (.aload_n 0, 1) := zo_42 (by decide +kernel)
theorem dX7_readLine_86 : decode cX7_readLine 86 = .ok (.invokevirtual 105, 3) := zo_182 (by decide +kernel)
theorem dX7_readLine_89 : decode cX7_readLine 89 = .ok (.return_, 1) := zo_177 (by decide +kernel)
theorem dX7_lookAtWhole_0 : decode cX7_lookAtWhole 0 = .ok (.aload_n 0, 1) := zo_42 (by decide +kernel)
theorem dX7_lookAtWhole_1 : decode cX7_lookAtWhole 1 = .ok (.getfield 59, 3) := zo_180 (by decide +kernel)
theorem dX7_lookAtWhole_4 : decode cX7_lookAtWhole 4 = .ok (.aload_n 0, 1) := zo_42 (by decide +kernel)
theorem dX7_lookAtWhole_5 : decode cX7_lookAtWhole 5 = .ok (.getfield 12, 3) := zo_180 (by decide +kernel)
theorem dX7_lookAtWhole_8 : decode cX7_lookAtWhole 8 = .ok (.getfield 87, 3) := zo_180 (by decide +kernel)
theorem dX7_lookAtWhole_11 : decode cX7_lookAtWhole 11 = .ok (.ishr, 1) := zo_122 (by decide +kernel)
theorem dX7_lookAtWhole_12 : decode cX7_lookAtWhole 12 = .ok (.ifCond .eq 12, 3) := zo_153 (by decide +kernel)
theorem dX7_lookAtWhole_15 : decode cX7_lookAtWhole 15 = .ok (.aload_n 0, 1) := zo_42 (by decide +kernel)
theorem dX7_lookAtWhole_16 : decode cX7_lookAtWhole 16 = .ok (.iconst 4, 1) := zo_7 (by decide +kernel)
theorem dX7_lookAtWhole_17 : decode cX7_lookAtWhole 17 = .ok (.aload_n 0, 1) := zo_42 (by decide +kernel)
theorem dX7_lookAtWhole_18 : decode cX7_lookAtWhole 18 = .ok (.getfield 42, 3) := zo_180 (by decide +kernel)
theorem dX7_lookAtWhole_21 : decode cX7_lookAtWhole 21 = .ok (.invokevirtual 90, 3) := zo_182 (by decide +kernel)
theorem dX7_lookAtWhole_24 : decode cX7_lookAtWhole 24 = .ok (.iconst 0, 1) := zo_3 (by decide +kernel)
theorem dX7_lookAtWhole_25 : decode cX7_lookAtWhole 25 = .ok (.istore_n 1, 1) := zo_60 (by decide +kernel)
theorem dX7_lookAtWhole_26 : decode cX7_lookAtWhole 26 = .ok (.iload_n 1, 1) := zo_27 (by decide +kernel)
theorem dX7_lookAtWhole_27 : decode cX7_lookAtWhole 27 = .ok (.bipush 7, 2) := zo_16 (by decide +kernel)
theorem dX7_lookAtWhole_29 : decode cX7_lookAtWhole 29 = .ok (.if_icmp .ge 51, 3) := zo_162 (by decide +kernel)
theorem dX7_lookAtWhole_32 : decode cX7_lookAtWhole 32 = .ok (.aload_n 0, 1) := zo_42 (by decide +kernel)
theorem dX7_lookAtWhole_33 : decode cX7_lookAtWhole 33 = .ok (.getfield 12, 3) := zo_180 (by decide +kernel)
theorem dX7_lookAtWhole_36 : decode cX7_lookAtWhole 36 = .ok (.getfield 94, 3) := zo_180 (by decide +kernel)
theorem dX7_lookAtWhole_39 : decode cX7_lookAtWhole 39 = .ok (.iload_n 1, 1) := zo_27 (by decide +kernel)
theorem dX7_lookAtWhole_40 : decode cX7_lookAtWhole 40 = .ok (.iaload, 1) := zo_46 (by decide +kernel)
theorem dX7_lookAtWhole_41 : decode cX7_lookAtWhole 41 = .ok (.ifCond .eq 33, 3) := zo_153 (by decide +kernel)
theorem dX7_lookAtWhole_44 : decode cX7_lookAtWhole 44 = .ok (.aload_n 0, 1) := zo_42 (by decide +kernel)
theorem dX7_lookAtWhole_45 : decode cX7_lookAtWhole 45 = .ok (.getfield 12, 3) := zo_180 (by decide +kernel)
theorem dX7_lookAtWhole_48 : decode cX7_lookAtWhole 48 = .ok (.getfield 94, 3) := zo_180 (by decide +kernel)
theorem dX7_lookAtWhole_51 : decode cX7_lookAtWhole 51 = .ok (.iload_n 1, 1) := zo_27 (by decide +kernel)
theorem dX7_lookAtWhole_52 : decode cX7_lookAtWhole 52 = .ok (.iaload, 1) := zo_46 (by decide +kernel)
theorem dX7_lookAtWhole_53 : decode cX7_lookAtWhole 53 = .ok (.aload_n 0, 1) := zo_42 (by decide +kernel)
theorem dX7_lookAtWhole_54 : decode cX7_lookAtWhole 54 = .ok (.getfield 12, 3) := zo_180 (by decide +kernel)
theorem dX7_lookAtWhole_57 : decode cX7_lookAtWhole 57 = .ok (.getfield 98, 3) := zo_180 (by decide +kernel)
theorem dX7_lookAtWhole_60 : decode cX7_lookAtWhole 60 = .ok (.iload_n 1, 1) := zo_27 (by decide +kernel)
theorem dX7_lookAtWhole_61 : decode cX7_lookAtWhole 61 = .ok (.iaload, 1) := zo_46 (by decide +kernel)
theorem dX7_lookAtWhole_62 : decode cX7_lookAtWhole 62 = .ok (.if_icmp .lt 12, 3) := zo_161 (by decide +kernel)
theorem dX7_lookAtWhole_65 : decode cX7_lookAtWhole 65 = .ok (.aload_n 0, 1) := zo_42 (by decide +kernel)
theorem dX7_lookAtWhole_66 : decode cX7_lookAtWhole 66 = .ok (.iconst 5, 1) := zo_8 (by decide +kernel)
theorem dX7_lookAtWhole_67 : decode cX7_lookAtWhole 67 = .ok (.aload_n 0, 1) := zo_42 (by decide +kernel)
theorem dX7_lookAtWhole_68 : decode cX7_lookAtWhole 68 = .ok (.getfield 42, 3) := zo_180 (by decide +kernel)
theorem dX7_lookAtWhole_71 : decode cX7_lookAtWhole 71 = .ok (.invokevirtual 90, 3) := zo_182 (by decide +kernel)
theorem dX7_lookAtWhole_74 : decode cX7_lookAtWhole 74 = .ok (.iinc 1 1, 3) := zo_132 (by decide +kernel)
theorem dX7_lookAtWhole_77 : decode cX7_lookAtWhole 77 = .ok (.goto (-51), 3) := zo_167 (by decide +kernel)
theorem dX7_lookAtWhole_80 : decode cX7_lookAtWhole 80 = .ok (.return_, 1) := zo_177 (by decide +kernel)
theorem dX7_read_0 : decode cX7_read 0 = .ok (.aload_n 0, 1) := zo_42 (by decide +kernel)
theorem dX7_read_1 : decode cX7_read 1 = .ok (.aload_n 1, 1) := zo_43 (by decide +kernel)
theorem dX7_read_2 : decode cX7_read 2 = .ok (.putfield 32, 3) := zo_181 (by decide +kernel)
theorem dX7_read_5 : decode cX7_read 5 = .ok (.aload_n 0, 1) := zo_42 (by decide +kernel)
theorem dX7_read_6 : decode cX7_read 6 = .ok (.iload_n 2, 1) := zo_28 (by decide +kernel)
theorem dX7_read_7 : decode cX7_read 7 = .ok (.aload_n 1, 1) := zo_43 (by decide +kernel)
theorem dX7_read_8 : decode cX7_read 8 = .ok (.arraylength, 1) := zo_190 (by decide +kernel)
theorem dX7_read_9 : decode cX7_read 9 = .ok (.invokestatic 36, 3) := zo_184 (by decide +kernel)
theorem dX7_read_12 : decode cX7_read 12 = .ok (.putfield 42, 3) := zo_181 (by decide +kernel)
theorem dX7_read_15 : decode cX7_read 15 = .ok (.aload_n 0, 1) := zo_42 (by decide +kernel)
theorem dX7_read_16 : decode cX7_read 16 = .ok (.iconst 0, 1) := zo_3 (by decide +kernel)
theorem dX7_read_17 : decode cX7_read 17 = .ok (.putfield 46, 3) := zo_181 (by decide +kernel)
theorem dX7_read_20 : decode cX7_read 20 = .ok (.aload_n 0, 1) := zo_42 (by decide +kernel)
theorem dX7_read_21 : decode cX7_read 21 = .ok (.iconst 0, 1) := zo_3 (by decide +kernel)
theorem dX7_read_22 : decode cX7_read 22 = .ok (.putfield 49, 3) := zo_181 (by decide +kernel)
theorem dX7_read_25 : decode cX7_read 25 = .ok (.aload_n 0, 1) := zo_42 (by decide +kernel)
theorem dX7_read_26 : decode cX7_read 26 = .ok (.iconst (-1), 1) := zo_2 (by decide +kernel)
theorem dX7_read_27 : decode cX7_read 27 = .ok (.putfield 52, 3) := zo_181 (by decide +kernel)
theorem dX7_read_30 : decode cX7_read 30 = .ok (.aload_n 0, 1) := zo_42 (by decide +kernel)
theorem dX7_read_31 : decode cX7_read 31 = .ok (.iconst 0, 1) := zo_3 (by decide +kernel)
theorem dX7_read_32 : decode cX7_read 32 = .ok (.putfield 55, 3) := zo_181 (by decide +kernel)
theorem dX7_read_35 : decode cX7_read 35 = .ok (.aload_n 0, 1) := zo_42 (by decide +kernel)
theorem dX7_read_36 : decode cX7_read 36 = .ok (.iconst 0, 1) := zo_3 (by decide +kernel)
theorem dX7_read_37 : decode cX7_read 37 = .ok (.putfield 59, 3) := zo_181 (by decide +kernel)
theorem dX7_read_40 : decode cX7_read 40 = .ok (.aload_n 0, 1) := zo_42 (by decide +kernel)
theorem dX7_read_41 : decode cX7_read 41 = .ok (.getfield 12, 3) := zo_180 (by decide +kernel)
theorem dX7_read_44 : decode cX7_read 44 = .ok (.invokevirtual 62, 3) := zo_182 (by decide +kernel)
theorem dX7_read_47 : decode cX7_read 47 = .ok (.aload_n 0, 1) := zo_42 (by decide +kernel)
theorem dX7_read_48 : decode cX7_read 48 = .ok (.getfield 21, 3) := zo_180 (by decide +kernel)
theorem dX7_read_51 : decode cX7_read 51 = .ok (.iconst 0, 1) := zo_3 (by decide +kernel)
theorem dX7_read_52 : decode cX7_read 52 = .ok (.putfield 65, 3) := zo_181 (by decide +kernel)
theorem dX7_read_55 : decode cX7_read 55 = .ok (.aload_n 0, 1) := zo_42 (by decide +kernel)
theorem dX7_read_56 : decode cX7_read 56 = .ok (.getfield 28, 3) := zo_180 (by decide +kernel)
theorem dX7_read_59 : decode cX7_read 59 = .ok (.iconst 0, 1) := zo_3 (by decide +kernel)
theorem dX7_read_60 : decode cX7_read 60 = .ok (.putfield 68, 3) := zo_181 (by decide +kernel)
theorem dX7_read_63 : decode cX7_read 63 = .ok (.aload_n 0, 1) := zo_42 (by decide +kernel)
theorem dX7_read_64 : decode cX7_read 64 = .ok (.invokevirtual 71, 3) := zo_182 (by decide +kernel)
theorem dX7_read_67 : decode cX7_read 67 = .ok (.iconst 0, 1) := zo_3 (by decide +kernel)
theorem dX7_read_68 : decode cX7_read 68 = .ok (.istore 4, 2) := zo_54 (by decide +kernel)
theorem dX7_read_70 : decode cX7_read 70 = .ok (.iload 4, 2) := zo_21 (by decide +kernel)
theorem dX7_read_72 : decode cX7_read 72 = .ok (.sipush 600, 3) := zo_17 (by decide +kernel)
theorem dX7_read_75 : decode cX7_read 75 = .ok (.if_icmp .gt 28, 3) := zo_163 (by decide +kernel)
theorem dX7_read_78 : decode cX7_read 78 = .ok (.aload_n 0, 1) := zo_42 (by decide +kernel)
theorem dX7_read_79 : decode cX7_read 79 = .ok (.getfield 55, 3) := zo_180 (by decide +kernel)
theorem dX7_read_82 : decode cX7_read 82 = .ok (.ifCond .ne 21, 3) := zo_154 (by decide +kernel)
theorem dX7_read_85 : decode cX7_read 85 = .ok (.aload_n 0, 1) := zo_42 (by decide +kernel)
theorem dX7_read_86 : decode cX7_read 86 = .ok (.getfield 74, 3) := zo_180 (by decide +kernel)
theorem dX7_read_89 : decode cX7_read 89 = .ok (.ifCond .eq 14, 3) := zo_153 (by decide +kernel)
theorem dX7_read_92 : decode cX7_read 92 = .ok (.aload_n 0, 1) := zo_42 (by decide +kernel)
theorem dX7_read_93 : decode cX7_read 93 = .ok (.iload_n 3, 1) := zo_29 (by decide +kernel)
theorem dX7_read_94 : decode cX7_read 94 = .ok (.invokevirtual 77, 3) := zo_182 (by decide +kernel)
theorem dX7_read_97 : decode cX7_read 97 = .ok (.iinc 4 1, 3) := zo_132 (by decide +kernel)
theorem dX7_read_100 : decode cX7_read 100 = .ok (.goto (-30), 3) := zo_167 (by decide +kernel)
theorem dX7_read_103 : decode cX7_read 103 = .ok (.iload_n 3, 1) := zo_29 (by decide +kernel)
theorem dX7_read_104 : decode cX7_read 104 = .ok (.ifCond .ne 7, 3) := zo_154 (by decide +kernel)
theorem dX7_read_107 : decode cX7_read 107 = .ok (.aload_n 0, 1) := zo_42 (by decide +kernel)
theorem dX7_read_108 : decode cX7_read 108 = .ok (.invokevirtual 81, 3) := zo_182 (by decide +kernel)
theorem dX7_read_111 : decode cX7_read 111 = .ok (.return_, 1) := zo_177 (by decide +kernel)
theorem m_fl_RX9_44 : Cond.fieldLink RX9 44 (TX9 1).1 (TX9 1).2.1 (TX9 1).2.2.1 ∈ zT := zmem1 zsub_1 131 rfl rfl
theorem dX9_append_0 : decode cX9_append 0 = .ok (.bipush 24, 2) := zo_16 (by decide +kernel)
theorem dX9_append_2 : decode cX9_append 2 = .ok (.istore_n 2, 1) := zo_61 (by decide +kernel)
theorem dX9_append_3 : decode cX9_append 3 = .ok (.iload_n 2, 1) := zo_28 (by decide +kernel)
theorem dX9_append_4 : decode cX9_append 4 = .ok (.ifCond .lt 42, 3) := zo_155 (by decide +kernel)
theorem dX9_append_7 : decode cX9_append 7 = .ok (.aload_n 0, 1) := zo_42 (by decide +kernel)
theorem dX9_append_8 : decode cX9_append 8 = .ok (.getfield 44, 3) := zo_180 (by decide +kernel)
theorem dX9_append_11 : decode cX9_append 11 = .ok (.sipush 600, 3) := zo_17 (by decide +kernel)
theorem dX9_append_14 : decode cX9_append 14 = .ok (.if_icmp .ge 26, 3) := zo_162 (by decide +kernel)
theorem dX9_append_17 : decode cX9_append 17 = .ok (.aload_n 0, 1) := zo_42 (by decide +kernel)
theorem dX9_append_18 : decode cX9_append 18 = .ok (.getfield 9, 3) := zo_180 (by decide +kernel)
theorem dX9_append_21 : decode cX9_append 21 = .ok (.aload_n 0, 1) := zo_42 (by decide +kernel)
theorem dX9_append_22 : decode cX9_append 22 = .ok (.getfield 44, 3) := zo_180 (by decide +kernel)
theorem dX9_append_25 : decode cX9_append 25 = .ok (.iload_n 1, 1) := zo_27 (by decide +kernel)
theorem dX9_append_26 : decode cX9_append 26 = .ok (.iload_n 2, 1) := zo_28 (by decide +kernel)
theorem dX9_append_27 : decode cX9_append 27 = .ok (.ishr, 1) := zo_122 (by decide +kernel)
theorem dX9_append_28 : decode cX9_append 28 = .ok (.i2b, 1) := zo_145 (by decide +kernel)
theorem dX9_append_29 : decode cX9_append 29 = .ok (.bastore, 1) := zo_84 (by decide +kernel)
theorem dX9_append_30 : decode cX9_append 30 = .ok (.aload_n 0, 1) := zo_42 (by decide +kernel)
theorem dX9_append_31 : decode cX9_append 31 = .ok (.dup, 1) := zo_89 (by decide +kernel)
theorem dX9_append_32 : decode cX9_append 32 = .ok (.getfield 44, 3) := zo_180 (by decide +kernel)
theorem dX9_append_35 : decode cX9_append 35 = .ok (.iconst 1, 1) := zo_4 (by decide +kernel)
theorem dX9_append_36 : decode cX9_append 36 = .ok (.iadd, 1) := zo_96 (by decide +kernel)
theorem dX9_append_37 : decode cX9_append 37 = .ok (.putfield 44, 3) := zo_181 (by decide +kernel)
theorem dX9_append_40 : decode cX9_append 40 = .ok (.iinc 2 (-8), 3) := zo_132 (by decide +kernel)
theorem dX9_append_43 : decode cX9_append 43 = .ok (.goto (-40), 3) := zo_167 (by decide +kernel)
theorem dX9_append_46 : decode cX9_append 46 = .ok (.return_, 1) := zo_177 (by decide +kernel)
theorem dX9_placeFor_0 : decode cX9_placeFor 0 = .ok (.iload_n 1, 1) := zo_27 (by decide +kernel)
theorem dX9_placeFor_1 : decode cX9_placeFor 1 = .ok (.ifCond .lt 8, 3) := zo_155 (by decide +kernel)
theorem dX9_placeFor_4 : decode cX9_placeFor 4 = .ok (.iload_n 1, 1) := zo_27 (by decide +kernel)
theorem dX9_placeFor_5 : decode cX9_placeFor 5 = .ok (.iconst 2, 1) := zo_5 (by decide +kernel)
theorem dX9_placeFor_6 : decode cX9_placeFor 6 = .ok (.if_icmp .le 6, 3) := zo_164 (by decide +kernel)
theorem dX9_placeFor_9 : decode cX9_placeFor 9 = .ok (.bipush (-2), 2) := zo_16 (by decide +kernel)
theorem dX9_placeFor_11 : decode cX9_placeFor 11 = .ok (.ireturn, 1) := zo_172 (by decide +kernel)
theorem dX9_placeFor_12 : decode cX9_placeFor 12 = .ok (.iload_n 2, 1) := zo_28 (by decide +kernel)
theorem dX9_placeFor_13 : decode cX9_placeFor 13 = .ok (.iconst (-1), 1) := zo_2 (by decide +kernel)
theorem dX9_placeFor_14 : decode cX9_placeFor 14 = .ok (.if_icmp .ne 25, 3) := zo_160 (by decide +kernel)
theorem dX9_placeFor_17 : decode cX9_placeFor 17 = .ok (.aload_n 0, 1) := zo_42 (by decide +kernel)
theorem dX9_placeFor_18 : decode cX9_placeFor 18 = .ok (.getfield 19, 3) := zo_180 (by decide +kernel)
theorem dX9_placeFor_21 : decode cX9_placeFor 21 = .ok (.iload_n 1, 1) := zo_27 (by decide +kernel)
theorem dX9_placeFor_22 : decode cX9_placeFor 22 = .ok (.iaload, 1) := zo_46 (by decide +kernel)
theorem dX9_placeFor_23 : decode cX9_placeFor 23 = .ok (.iconst 2, 1) := zo_5 (by decide +kernel)
theorem dX9_placeFor_24 : decode cX9_placeFor 24 = .ok (.if_icmp .ge 12, 3) := zo_162 (by decide +kernel)
theorem dX9_placeFor_27 : decode cX9_placeFor 27 = .ok (.aload_n 0, 1) := zo_42 (by decide +kernel)
theorem dX9_placeFor_28 : decode cX9_placeFor 28 = .ok (.getfield 19, 3) := zo_180 (by decide +kernel)
theorem dX9_placeFor_31 : decode cX9_placeFor 31 = .ok (.iload_n 1, 1) := zo_27 (by decide +kernel)
theorem dX9_placeFor_32 : decode cX9_placeFor 32 = .ok (.iaload, 1) := zo_46 (by decide +kernel)
theorem dX9_placeFor_33 : decode cX9_placeFor 33 = .ok (.goto 5, 3) := zo_167 (by decide +kernel)
theorem dX9_placeFor_36 : decode cX9_placeFor 36 = .ok (.bipush (-2), 2) := zo_16 (by decide +kernel)
theorem dX9_placeFor_38 : decode cX9_placeFor 38 = .ok (.ireturn, 1) := zo_172 (by decide +kernel)
theorem dX9_placeFor_39 : decode cX9_placeFor 39 = .ok (.iload_n 2, 1) := zo_28 (by decide +kernel)
theorem dX9_placeFor_40 : decode cX9_placeFor 40 = .ok (.ifCond .lt 17, 3) := zo_155 (by decide +kernel)
theorem dX9_placeFor_43 : decode cX9_placeFor 43 = .ok (.iload_n 2, 1) := zo_28 (by decide +kernel)
theorem dX9_placeFor_44 : decode cX9_placeFor 44 = .ok (.aload_n 0, 1) := zo_42 (by decide +kernel)
theorem dX9_placeFor_45 : decode cX9_placeFor 45 = .ok (.getfield 19, 3) := zo_180 (by decide +kernel)
theorem dX9_placeFor_48 : decode cX9_placeFor 48 = .ok (.iload_n 1, 1) := zo_27 (by decide +kernel)
theorem dX9_placeFor_49 : decode cX9_placeFor 49 = .ok (.iaload, 1) := zo_46 (by decide +kernel)
theorem dX9_placeFor_50 : decode cX9_placeFor 50 = .ok (.if_icmp .ge 7, 3) := zo_162 (by decide +kernel)
theorem dX9_placeFor_53 : decode cX9_placeFor 53 = .ok (.iload_n 2, 1) := zo_28 (by decide +kernel)
theorem dX9_placeFor_54 : decode cX9_placeFor 54 = .ok (.goto 5, 3) := zo_167 (by decide +kernel)
theorem dX9_placeFor_57 : decode cX9_placeFor 57 = .ok (.bipush (-2), 2) := zo_16 (by decide +kernel)
theorem dX9_placeFor_59 : decode cX9_placeFor 59 = .ok (.ireturn, 1) := zo_172 (by decide +kernel)
theorem dX9_landAt_0 : decode cX9_landAt 0 = .ok (.iload_n 1, 1) := zo_27 (by decide +kernel)
theorem dX9_landAt_1 : decode cX9_landAt 1 = .ok (.ifCond .lt 27, 3) := zo_155 (by decide +kernel)
theorem dX9_landAt_4 : decode cX9_landAt 4 = .ok (.iload_n 1, 1) := zo_27 (by decide +kernel)
theorem dX9_landAt_5 : decode cX9_landAt 5 = .ok (.aload_n 0, 1) := zo_42 (by decide +kernel)
theorem dX9_landAt_6 : decode cX9_landAt 6 = .ok (.getfield 19, 3) := zo_180 (by decide +kernel)
theorem dX9_landAt_9 : decode cX9_landAt 9 = .ok (.iconst 0, 1) := zo_3 (by decide +kernel)
theorem dX9_landAt_10 : decode cX9_landAt 10 = .ok (.iaload, 1) := zo_46 (by decide +kernel)
theorem dX9_landAt_11 : decode cX9_landAt 11 = .ok (.if_icmp .ge 17, 3) := zo_162 (by decide +kernel)
theorem dX9_landAt_14 : decode cX9_landAt 14 = .ok (.iload_n 1, 1) := zo_27 (by decide +kernel)
theorem dX9_landAt_15 : decode cX9_landAt 15 = .ok (.iconst 2, 1) := zo_5 (by decide +kernel)
theorem dX9_landAt_16 : decode cX9_landAt 16 = .ok (.if_icmp .ge 12, 3) := zo_162 (by decide +kernel)
theorem dX9_landAt_19 : decode cX9_landAt 19 = .ok (.aload_n 0, 1) := zo_42 (by decide +kernel)
theorem dX9_landAt_20 : decode cX9_landAt 20 = .ok (.getfield 26, 3) := zo_180 (by decide +kernel)
theorem dX9_landAt_23 : decode cX9_landAt 23 = .ok (.iload_n 1, 1) := zo_27 (by decide +kernel)
theorem dX9_landAt_24 : decode cX9_landAt 24 = .ok (.aaload, 1) := zo_50 (by decide +kernel)
theorem dX9_landAt_25 : decode cX9_landAt 25 = .ok (.goto 4, 3) := zo_167 (by decide +kernel)
theorem dX9_landAt_28 : decode cX9_landAt 28 = .ok (.aconst_null, 1) := zo_1 (by decide +kernel)
theorem dX9_landAt_29 : decode cX9_landAt 29 = .ok (.areturn, 1) := zo_176 (by decide +kernel)
theorem dX9_dayAt_0 : decode cX9_dayAt 0 = .ok (.iload_n 1, 1) := zo_27 (by decide +kernel)
theorem dX9_dayAt_1 : decode cX9_dayAt 1 = .ok (.ifCond .lt 27, 3) := zo_155 (by decide +kernel)
theorem dX9_dayAt_4 : decode cX9_dayAt 4 = .ok (.iload_n 1, 1) := zo_27 (by decide +kernel)
theorem dX9_dayAt_5 : decode cX9_dayAt 5 = .ok (.aload_n 0, 1) := zo_42 (by decide +kernel)
theorem dX9_dayAt_6 : decode cX9_dayAt 6 = .ok (.getfield 19, 3) := zo_180 (by decide +kernel)
theorem dX9_dayAt_9 : decode cX9_dayAt 9 = .ok (.iconst 1, 1) := zo_4 (by decide +kernel)
theorem dX9_dayAt_10 : decode cX9_dayAt 10 = .ok (.iaload, 1) := zo_46 (by decide +kernel)
theorem dX9_dayAt_11 : decode cX9_dayAt 11 = .ok (.if_icmp .ge 17, 3) := zo_162 (by decide +kernel)
theorem dX9_dayAt_14 : decode cX9_dayAt 14 = .ok (.iload_n 1, 1) := zo_27 (by decide +kernel)
theorem dX9_dayAt_15 : decode cX9_dayAt 15 = .ok (.iconst 2, 1) := zo_5 (by decide +kernel)
theorem dX9_dayAt_16 : decode cX9_dayAt 16 = .ok (.if_icmp .ge 12, 3) := zo_162 (by decide +kernel)
theorem dX9_dayAt_19 : decode cX9_dayAt 19 = .ok (.aload_n 0, 1) := zo_42 (by decide +kernel)
theorem dX9_dayAt_20 : decode cX9_dayAt 20 = .ok (.getfield 33, 3) := zo_180 (by decide +kernel)
theorem dX9_dayAt_23 : decode cX9_dayAt 23 = .ok (.iload_n 1, 1) := zo_27 (by decide +kernel)
theorem dX9_dayAt_24 : decode cX9_dayAt 24 = .ok (.aaload, 1) := zo_50 (by decide +kernel)
theorem dX9_dayAt_25 : decode cX9_dayAt 25 = .ok (.goto 4, 3) := zo_167 (by decide +kernel)
theorem dX9_dayAt_28 : decode cX9_dayAt 28 = .ok (.aconst_null, 1) := zo_1 (by decide +kernel)
theorem dX9_dayAt_29 : decode cX9_dayAt 29 = .ok (.areturn, 1) := zo_176 (by decide +kernel)
theorem dX9_logAt_0 : decode cX9_logAt 0 = .ok (.iload_n 1, 1) := zo_27 (by decide +kernel)
theorem dX9_logAt_1 : decode cX9_logAt 1 = .ok (.ifCond .lt 27, 3) := zo_155 (by decide +kernel)
theorem dX9_logAt_4 : decode cX9_logAt 4 = .ok (.iload_n 1, 1) := zo_27 (by decide +kernel)
theorem dX9_logAt_5 : decode cX9_logAt 5 = .ok (.aload_n 0, 1) := zo_42 (by decide +kernel)
theorem dX9_logAt_6 : decode cX9_logAt 6 = .ok (.getfield 19, 3) := zo_180 (by decide +kernel)
theorem dX9_logAt_9 : decode cX9_logAt 9 = .ok (.iconst 2, 1) := zo_5 (by decide +kernel)
theorem dX9_logAt_10 : decode cX9_logAt 10 = .ok (.iaload, 1) := zo_46 (by decide +kernel)
theorem dX9_logAt_11 : decode cX9_logAt 11 = .ok (.if_icmp .ge 17, 3) := zo_162 (by decide +kernel)
theorem dX9_logAt_14 : decode cX9_logAt 14 = .ok (.iload_n 1, 1) := zo_27 (by decide +kernel)
theorem dX9_logAt_15 : decode cX9_logAt 15 = .ok (.iconst 2, 1) := zo_5 (by decide +kernel)
theorem dX9_logAt_16 : decode cX9_logAt 16 = .ok (.if_icmp .ge 12, 3) := zo_162 (by decide +kernel)
theorem dX9_logAt_19 : decode cX9_logAt 19 = .ok (.aload_n 0, 1) := zo_42 (by decide +kernel)
theorem dX9_logAt_20 : decode cX9_logAt 20 = .ok (.getfield 40, 3) := zo_180 (by decide +kernel)
theorem dX9_logAt_23 : decode cX9_logAt 23 = .ok (.iload_n 1, 1) := zo_27 (by decide +kernel)
theorem dX9_logAt_24 : decode cX9_logAt 24 = .ok (.aaload, 1) := zo_50 (by decide +kernel)
theorem dX9_logAt_25 : decode cX9_logAt 25 = .ok (.goto 4, 3) := zo_167 (by decide +kernel)
theorem dX9_logAt_28 : decode cX9_logAt 28 = .ok (.aconst_null, 1) := zo_1 (by decide +kernel)
theorem dX9_logAt_29 : decode cX9_logAt 29 = .ok (.areturn, 1) := zo_176 (by decide +kernel)
def zKT (f : Nat → Int32) : Prop := ∀ j, j < 3 → 0 ≤ (f j).toInt ∧ (f j).toInt ≤ 2
theorem zKT_upd {f : Nat → Int32} (h : zKT f) (k : Nat) {v : Int32} (hv : 0 ≤ v.toInt ∧ v.toInt ≤ 2) : zKT (upd f k v) := by
  intro j hj
  unfold upd
  split
  · exact hv
  · exact h j hj
theorem z_maxK {x y : Int32} (hx : 0 ≤ x.toInt ∧ x.toInt ≤ 2) (hy : 0 ≤ y.toInt ∧ y.toInt ≤ 2) : 0 ≤ (if x < y then y else x).toInt ∧ (if x < y then y else x).toInt ≤ 2 := by
  split
  · exact hy
  · exact hx
theorem zLI_eq {cr : Int32} {f1 f3 g1 g3 : Nat → Int32} (h : zLI cr f1 f3) (h1 : ∀ j, j < 7 → g1 j = f1 j) (h3 : ∀ j, j < 7 → g3 j = f3 j) : zLI cr g1 g3 := ⟨h.1, fun j hj => by rw [h1 j hj]; exact h.2.1 j hj, fun j hj => by rw [h3 j hj]; exact h.2.2 j hj⟩
set_option maxHeartbeats 4000000 in
set_option maxRecDepth 100000 in
/-- placeFor -/
theorem c_placeFor (l : Launch) (T : zTy) (t : Nat) (l0 : Nat) (l1 : Nat) (d0 : Nat) (d1 : Nat) (g0 : Nat) (g1 : Nat) (ln : Int32) (fl : Int32) (pl : Int32) (ft : Nat → Int32) (fk : Nat → Int32) (wt : va_W) (x : Int32) (y : Int32) (ht : bTold T t l0 l1 d0 d1 g0 g1 ln fl pl ft fk wt) (hK : zKT fk) : zMi l T yX9_placeFor cX9_placeFor 3 (some .int) 1 0 0 [.ref t, .int x, .int y] [wt] (fun (r : Int32) bs => bs = [wt] ∧ (r.toInt = -2 ∨ ((0 ≤ x.toInt ∧ x.toInt ≤ 2) ∧ (0 ≤ r.toInt ∧ r.toInt ≤ 1)))) := by
  refine zMi_of (own := RX9) (by decide) rfl (Nat.le_of_ble_eq_true rfl) ?_
  intro p e s m args below meth c A ls C hr hlocks hnm hAe G hl
  refine zHide (fun Qz_ hQz_ => ?_)
  have hx := C.1
  have hb := C.2.1
  have hl : lv_has ls 3 [(0, .ref t), (1, .int x), (2, .int y)] := hl
  refine lv_iload_n hx hb dX9_placeFor_0 rfl (lv_at hl 1 rfl) ?_
  refine lv_if_lt (tgt := 9) hx hb dX9_placeFor_1 (by decide) (fun c_1 => ?_) (fun c_1 => ?_)
  · have c_1n : x.toInt < (0 : Int) := (fa_lt _ _).mp c_1
    refine lv_bipush (v := (-2)) hx hb dX9_placeFor_9 (by decide) ?_
    exact z_back hQz_ (z_iret C hr hlocks G (Nat.le_of_ble_eq_true rfl) (Nat.le_of_ble_eq_true rfl) dX9_placeFor_11 ⟨rfl, (by first | exact Or.inl (by decide) | exact Or.inr ⟨by omega, by omega⟩)⟩)
  · have c_1n : ¬ x.toInt < (0 : Int) := fun q => c_1 ((fa_lt _ _).mpr q)
    refine lv_iload_n hx hb dX9_placeFor_4 rfl (lv_at hl 1 rfl) ?_
    refine lv_iconst (v := 2) hx hb dX9_placeFor_5 (by decide) ?_
    refine lv_icmp_le (tgt := 12) hx hb dX9_placeFor_6 (by decide) (fun c_2 => ?_) (fun c_2 => ?_)
    · have c_2n : x.toInt ≤ (2 : Int) := (fa_le _ _).mp c_2
      have hKx := hK x.toNatClampNeg (by have := z_clI (x := x) (by omega); omega)
      refine lv_iload_n hx hb dX9_placeFor_12 rfl (lv_at hl 2 rfl) ?_
      refine lv_iconst (v := (-1)) hx hb dX9_placeFor_13 (by decide) ?_
      refine lv_icmp_ne (tgt := 39) hx hb dX9_placeFor_14 (by decide) (fun c_3 => ?_) (fun c_3 => ?_)
      · have c_3n : ¬ y.toInt = (-1 : Int) := fun q => c_3 ((fa_eq _ _).mpr q)
        refine lv_iload_n hx hb dX9_placeFor_39 rfl (lv_at hl 2 rfl) ?_
        refine lv_if_lt (tgt := 57) hx hb dX9_placeFor_40 (by decide) (fun c_4 => ?_) (fun c_4 => ?_)
        · have c_4n : y.toInt < (0 : Int) := (fa_lt _ _).mp c_4
          refine lv_bipush (v := (-2)) hx hb dX9_placeFor_57 (by decide) ?_
          exact z_back hQz_ (z_iret C hr hlocks G (Nat.le_of_ble_eq_true rfl) (Nat.le_of_ble_eq_true rfl) dX9_placeFor_59 ⟨rfl, (by first | exact Or.inl (by decide) | exact Or.inr ⟨by omega, by omega⟩)⟩)
        · have c_4n : ¬ y.toInt < (0 : Int) := fun q => c_4 ((fa_lt _ _).mpr q)
          refine lv_iload_n hx hb dX9_placeFor_43 rfl (lv_at hl 2 rfl) ?_
          refine lv_aload_n hx hb dX9_placeFor_44 rfl (lv_at hl 0 rfl) ?_
          refine zEx8 ht ?_
          intro a1_5 a2_6 a3_7 a4_8 a5_9 q1_10 q2_11 q3_12
          refine zCu7 ?_
          intro hbs9 h_13 h_14 h_15 h_16 h_17 h_18
          clear ht
          subst hbs9
          have G : zS T A s.heap s [[zO8 t a1_5 ln fl pl a2_6 a3_7 a4_8 a5_9], [zAr T 1 a1_5 600 ft], [zAr T 0 a2_6 3 fk], [zArq T 3 a3_7 2 q1_10], [zArq T 4 a4_8 2 q2_11], [zArq T 5 a5_9 2 q3_12]] _ _ := G.re rfl
          refine z_get C G clX9 0 rfl 4 (by decide) m_fl_RX9_19 rfl dX9_placeFor_45 ?_
          refine lv_iload_n hx hb dX9_placeFor_48 rfl (lv_at hl 1 rfl) ?_
          refine z_ild C G 2 rfl (vp_in_iff.mpr ⟨by omega, by omega⟩) dX9_placeFor_49 ?_
          refine lv_topi (fun v_19 ev_19 => ?_)
          subst ev_19
          refine lv_icmp_ge (tgt := 57) hx hb dX9_placeFor_50 (by decide) (fun c_20 => ?_) (fun c_20 => ?_)
          · have c_20n : (fk x.toNatClampNeg).toInt ≤ y.toInt := (fa_le _ _).mp c_20
            refine lv_bipush (v := (-2)) hx hb dX9_placeFor_57 (by decide) ?_
            have hw_21 : bTold T t l0 l1 d0 d1 g0 g1 ln fl pl ft fk [zO8 t a1_5 ln fl pl a2_6 a3_7 a4_8 a5_9, zAr T 1 a1_5 600 ft, zAr T 0 a2_6 3 fk, zArq T 3 a3_7 2 q1_10, zArq T 4 a4_8 2 q2_11, zArq T 5 a5_9 2 q3_12] := ⟨a1_5, a2_6, a3_7, a4_8, a5_9, q1_10, q2_11, q3_12, rfl, h_13, h_14, h_15, h_16, h_17, h_18⟩
            have G : zS T A s.heap s [[zO8 t a1_5 ln fl pl a2_6 a3_7 a4_8 a5_9, zAr T 1 a1_5 600 ft, zAr T 0 a2_6 3 fk, zArq T 3 a3_7 2 q1_10, zArq T 4 a4_8 2 q2_11, zArq T 5 a5_9 2 q3_12]] _ _ := G.re rfl
            exact z_back hQz_ (z_iret C hr hlocks G (Nat.le_of_ble_eq_true rfl) (Nat.le_of_ble_eq_true rfl) dX9_placeFor_59 ⟨rfl, (by first | exact Or.inl (by decide) | exact Or.inr ⟨by omega, by omega⟩)⟩)
          · have c_20n : ¬ (fk x.toNatClampNeg).toInt ≤ y.toInt := fun q => c_20 ((fa_le _ _).mpr q)
            refine lv_iload_n hx hb dX9_placeFor_53 rfl (lv_at hl 2 rfl) ?_
            refine lv_goto (tgt := 59) hx hb dX9_placeFor_54 (by decide) ?_
            have hw_22 : bTold T t l0 l1 d0 d1 g0 g1 ln fl pl ft fk [zO8 t a1_5 ln fl pl a2_6 a3_7 a4_8 a5_9, zAr T 1 a1_5 600 ft, zAr T 0 a2_6 3 fk, zArq T 3 a3_7 2 q1_10, zArq T 4 a4_8 2 q2_11, zArq T 5 a5_9 2 q3_12] := ⟨a1_5, a2_6, a3_7, a4_8, a5_9, q1_10, q2_11, q3_12, rfl, h_13, h_14, h_15, h_16, h_17, h_18⟩
            have G : zS T A s.heap s [[zO8 t a1_5 ln fl pl a2_6 a3_7 a4_8 a5_9, zAr T 1 a1_5 600 ft, zAr T 0 a2_6 3 fk, zArq T 3 a3_7 2 q1_10, zArq T 4 a4_8 2 q2_11, zArq T 5 a5_9 2 q3_12]] _ _ := G.re rfl
            exact z_back hQz_ (z_iret C hr hlocks G (Nat.le_of_ble_eq_true rfl) (Nat.le_of_ble_eq_true rfl) dX9_placeFor_59 ⟨rfl, (by first | exact Or.inl (by decide) | exact Or.inr ⟨by omega, by omega⟩)⟩)
      · have c_3n : y.toInt = (-1 : Int) := (fa_eq _ _).mp c_3
        refine lv_aload_n hx hb dX9_placeFor_17 rfl (lv_at hl 0 rfl) ?_
        refine zEx8 ht ?_
        intro a1_23 a2_24 a3_25 a4_26 a5_27 q1_28 q2_29 q3_30
        refine zCu7 ?_
        intro hbs9 h_31 h_32 h_33 h_34 h_35 h_36
        clear ht
        subst hbs9
        have G : zS T A s.heap s [[zO8 t a1_23 ln fl pl a2_24 a3_25 a4_26 a5_27], [zAr T 1 a1_23 600 ft], [zAr T 0 a2_24 3 fk], [zArq T 3 a3_25 2 q1_28], [zArq T 4 a4_26 2 q2_29], [zArq T 5 a5_27 2 q3_30]] _ _ := G.re rfl
        refine z_get C G clX9 0 rfl 4 (by decide) m_fl_RX9_19 rfl dX9_placeFor_18 ?_
        refine lv_iload_n hx hb dX9_placeFor_21 rfl (lv_at hl 1 rfl) ?_
        refine z_ild C G 2 rfl (vp_in_iff.mpr ⟨by omega, by omega⟩) dX9_placeFor_22 ?_
        refine lv_topi (fun v_37 ev_37 => ?_)
        subst ev_37
        refine lv_iconst (v := 2) hx hb dX9_placeFor_23 (by decide) ?_
        refine lv_icmp_ge (tgt := 36) hx hb dX9_placeFor_24 (by decide) (fun c_38 => ?_) (fun c_38 => ?_)
        · have c_38n : (2 : Int) ≤ (fk x.toNatClampNeg).toInt := (fa_le _ _).mp c_38
          refine lv_bipush (v := (-2)) hx hb dX9_placeFor_36 (by decide) ?_
          have hw_39 : bTold T t l0 l1 d0 d1 g0 g1 ln fl pl ft fk [zO8 t a1_23 ln fl pl a2_24 a3_25 a4_26 a5_27, zAr T 1 a1_23 600 ft, zAr T 0 a2_24 3 fk, zArq T 3 a3_25 2 q1_28, zArq T 4 a4_26 2 q2_29, zArq T 5 a5_27 2 q3_30] := ⟨a1_23, a2_24, a3_25, a4_26, a5_27, q1_28, q2_29, q3_30, rfl, h_31, h_32, h_33, h_34, h_35, h_36⟩
          have G : zS T A s.heap s [[zO8 t a1_23 ln fl pl a2_24 a3_25 a4_26 a5_27, zAr T 1 a1_23 600 ft, zAr T 0 a2_24 3 fk, zArq T 3 a3_25 2 q1_28, zArq T 4 a4_26 2 q2_29, zArq T 5 a5_27 2 q3_30]] _ _ := G.re rfl
          exact z_back hQz_ (z_iret C hr hlocks G (Nat.le_of_ble_eq_true rfl) (Nat.le_of_ble_eq_true rfl) dX9_placeFor_38 ⟨rfl, (by first | exact Or.inl (by decide) | exact Or.inr ⟨by omega, by omega⟩)⟩)
        · have c_38n : ¬ (2 : Int) ≤ (fk x.toNatClampNeg).toInt := fun q => c_38 ((fa_le _ _).mpr q)
          refine lv_aload_n hx hb dX9_placeFor_27 rfl (lv_at hl 0 rfl) ?_
          refine z_get C G clX9 0 rfl 4 (by decide) m_fl_RX9_19 rfl dX9_placeFor_28 ?_
          refine lv_iload_n hx hb dX9_placeFor_31 rfl (lv_at hl 1 rfl) ?_
          refine z_ild C G 2 rfl (vp_in_iff.mpr ⟨by omega, by omega⟩) dX9_placeFor_32 ?_
          refine lv_topi (fun v_40 ev_40 => ?_)
          subst ev_40
          refine lv_goto (tgt := 38) hx hb dX9_placeFor_33 (by decide) ?_
          have hw_41 : bTold T t l0 l1 d0 d1 g0 g1 ln fl pl ft fk [zO8 t a1_23 ln fl pl a2_24 a3_25 a4_26 a5_27, zAr T 1 a1_23 600 ft, zAr T 0 a2_24 3 fk, zArq T 3 a3_25 2 q1_28, zArq T 4 a4_26 2 q2_29, zArq T 5 a5_27 2 q3_30] := ⟨a1_23, a2_24, a3_25, a4_26, a5_27, q1_28, q2_29, q3_30, rfl, h_31, h_32, h_33, h_34, h_35, h_36⟩
          have G : zS T A s.heap s [[zO8 t a1_23 ln fl pl a2_24 a3_25 a4_26 a5_27, zAr T 1 a1_23 600 ft, zAr T 0 a2_24 3 fk, zArq T 3 a3_25 2 q1_28, zArq T 4 a4_26 2 q2_29, zArq T 5 a5_27 2 q3_30]] _ _ := G.re rfl
          exact z_back hQz_ (z_iret C hr hlocks G (Nat.le_of_ble_eq_true rfl) (Nat.le_of_ble_eq_true rfl) dX9_placeFor_38 ⟨rfl, (by first | exact Or.inl (by decide) | exact Or.inr ⟨by omega, by omega⟩)⟩)
    · have c_2n : ¬ x.toInt ≤ (2 : Int) := fun q => c_2 ((fa_le _ _).mpr q)
      refine lv_bipush (v := (-2)) hx hb dX9_placeFor_9 (by decide) ?_
      exact z_back hQz_ (z_iret C hr hlocks G (Nat.le_of_ble_eq_true rfl) (Nat.le_of_ble_eq_true rfl) dX9_placeFor_11 ⟨rfl, (by first | exact Or.inl (by decide) | exact Or.inr ⟨by omega, by omega⟩)⟩)
set_option maxHeartbeats 4000000 in
set_option maxRecDepth 100000 in
/-- c_landAt -/
theorem c_landAt (l : Launch) (T : zTy) (t : Nat) (l0 : Nat) (l1 : Nat) (d0 : Nat) (d1 : Nat) (g0 : Nat) (g1 : Nat) (ln : Int32) (fl : Int32) (pl : Int32) (ft : Nat → Int32) (fk : Nat → Int32) (wt : va_W) (x : Int32) (ht : bTold T t l0 l1 d0 d1 g0 g1 ln fl pl ft fk wt) : zMq l T yX9_landAt cX9_landAt 2 (some (.object "TurnedPosts$Land")) 1 0 0 [.ref t, .int x] [wt] (fun (r : Option Nat) bs => bs = [wt] ∧ ((r = none ∧ (x.toInt < 0 ∨ (fk 0).toInt ≤ x.toInt ∨ 2 ≤ x.toInt)) ∨ (r = some l0 ∧ x.toInt = 0 ∧ 0 < (fk 0).toInt) ∨ (r = some l1 ∧ x.toInt = 1 ∧ 1 < (fk 0).toInt))) := by
  refine zMq_of (own := RX9) (by decide) rfl (Nat.le_of_ble_eq_true rfl) ?_
  intro p e s m args below meth c A ls C hr hlocks hnm hAe G hl
  refine zHide (fun Qz_ hQz_ => ?_)
  have hx := C.1
  have hb := C.2.1
  have hl : lv_has ls 2 [(0, .ref t), (1, .int x)] := hl
  refine lv_iload_n hx hb dX9_landAt_0 rfl (lv_at hl 1 rfl) ?_
  refine lv_if_lt (tgt := 28) hx hb dX9_landAt_1 (by decide) (fun c_1 => ?_) (fun c_1 => ?_)
  · have c_1n : x.toInt < (0 : Int) := (fa_lt _ _).mp c_1
    refine lv_null hx hb dX9_landAt_28 ?_
    exact z_back hQz_ (z_aret (r := none) C hr (Or.inl ⟨_, rfl⟩) hlocks G (Nat.le_of_ble_eq_true rfl) (Nat.le_of_ble_eq_true rfl) dX9_landAt_29 ⟨rfl, (Or.inl (⟨rfl, (by first | with_reducible assumption | omega | assumption)⟩))⟩)
  · have c_1n : ¬ x.toInt < (0 : Int) := fun q => c_1 ((fa_lt _ _).mpr q)
    refine lv_iload_n hx hb dX9_landAt_4 rfl (lv_at hl 1 rfl) ?_
    refine lv_aload_n hx hb dX9_landAt_5 rfl (lv_at hl 0 rfl) ?_
    refine zEx8 ht ?_
    intro a1_2 a2_3 a3_4 a4_5 a5_6 q1_7 q2_8 q3_9
    refine zCu7 ?_
    intro hbs9 h_10 h_11 h_12 h_13 h_14 h_15
    clear ht
    subst hbs9
    have G : zS T A s.heap s [[zO8 t a1_2 ln fl pl a2_3 a3_4 a4_5 a5_6], [zAr T 1 a1_2 600 ft], [zAr T 0 a2_3 3 fk], [zArq T 3 a3_4 2 q1_7], [zArq T 4 a4_5 2 q2_8], [zArq T 5 a5_6 2 q3_9]] _ _ := G.re rfl
    refine z_get C G clX9 0 rfl 4 (by decide) m_fl_RX9_19 rfl dX9_landAt_6 ?_
    refine lv_iconst (v := 0) hx hb dX9_landAt_9 (by decide) ?_
    refine z_ild C G 2 rfl (vp_in_nI (n := 0) (by decide) (by decide)) dX9_landAt_10 ?_
    refine lv_topi (fun v_16 ev_16 => ?_)
    rw [show ((0 : Int32).toNatClampNeg) = 0 from rfl] at ev_16
    subst ev_16
    refine lv_icmp_ge (tgt := 28) hx hb dX9_landAt_11 (by decide) (fun c_17 => ?_) (fun c_17 => ?_)
    · have c_17n : (fk 0).toInt ≤ x.toInt := (fa_le _ _).mp c_17
      refine lv_null hx hb dX9_landAt_28 ?_
      have hw_18 : bTold T t l0 l1 d0 d1 g0 g1 ln fl pl ft fk [zO8 t a1_2 ln fl pl a2_3 a3_4 a4_5 a5_6, zAr T 1 a1_2 600 ft, zAr T 0 a2_3 3 fk, zArq T 3 a3_4 2 q1_7, zArq T 4 a4_5 2 q2_8, zArq T 5 a5_6 2 q3_9] := ⟨a1_2, a2_3, a3_4, a4_5, a5_6, q1_7, q2_8, q3_9, rfl, h_10, h_11, h_12, h_13, h_14, h_15⟩
      have G : zS T A s.heap s [[zO8 t a1_2 ln fl pl a2_3 a3_4 a4_5 a5_6, zAr T 1 a1_2 600 ft, zAr T 0 a2_3 3 fk, zArq T 3 a3_4 2 q1_7, zArq T 4 a4_5 2 q2_8, zArq T 5 a5_6 2 q3_9]] _ _ := G.re rfl
      exact z_back hQz_ (z_aret (r := none) C hr (Or.inl ⟨_, rfl⟩) hlocks G (Nat.le_of_ble_eq_true rfl) (Nat.le_of_ble_eq_true rfl) dX9_landAt_29 ⟨rfl, (Or.inl (⟨rfl, (by first | with_reducible assumption | omega | assumption)⟩))⟩)
    · have c_17n : ¬ (fk 0).toInt ≤ x.toInt := fun q => c_17 ((fa_le _ _).mpr q)
      refine lv_iload_n hx hb dX9_landAt_14 rfl (lv_at hl 1 rfl) ?_
      refine lv_iconst (v := 2) hx hb dX9_landAt_15 (by decide) ?_
      refine lv_icmp_ge (tgt := 28) hx hb dX9_landAt_16 (by decide) (fun c_19 => ?_) (fun c_19 => ?_)
      · have c_19n : (2 : Int) ≤ x.toInt := (fa_le _ _).mp c_19
        refine lv_null hx hb dX9_landAt_28 ?_
        have hw_20 : bTold T t l0 l1 d0 d1 g0 g1 ln fl pl ft fk [zO8 t a1_2 ln fl pl a2_3 a3_4 a4_5 a5_6, zAr T 1 a1_2 600 ft, zAr T 0 a2_3 3 fk, zArq T 3 a3_4 2 q1_7, zArq T 4 a4_5 2 q2_8, zArq T 5 a5_6 2 q3_9] := ⟨a1_2, a2_3, a3_4, a4_5, a5_6, q1_7, q2_8, q3_9, rfl, h_10, h_11, h_12, h_13, h_14, h_15⟩
        have G : zS T A s.heap s [[zO8 t a1_2 ln fl pl a2_3 a3_4 a4_5 a5_6, zAr T 1 a1_2 600 ft, zAr T 0 a2_3 3 fk, zArq T 3 a3_4 2 q1_7, zArq T 4 a4_5 2 q2_8, zArq T 5 a5_6 2 q3_9]] _ _ := G.re rfl
        exact z_back hQz_ (z_aret (r := none) C hr (Or.inl ⟨_, rfl⟩) hlocks G (Nat.le_of_ble_eq_true rfl) (Nat.le_of_ble_eq_true rfl) dX9_landAt_29 ⟨rfl, (Or.inl (⟨rfl, (by first | with_reducible assumption | omega | assumption)⟩))⟩)
      · have c_19n : ¬ (2 : Int) ≤ x.toInt := fun q => c_19 ((fa_le _ _).mpr q)
        refine lv_aload_n hx hb dX9_landAt_19 rfl (lv_at hl 0 rfl) ?_
        refine z_get C G clX9 0 rfl 5 (by decide) m_fl_RX9_26 rfl dX9_landAt_20 ?_
        refine lv_iload_n hx hb dX9_landAt_23 rfl (lv_at hl 1 rfl) ?_
        rcases (show x.toInt = 0 ∨ x.toInt = 1 from by omega) with hx0 | hx1
        · have hxk := hx0
          refine z_ald C G 3 3 rfl rfl (vp_in_iff.mpr ⟨by omega, by omega⟩) dX9_landAt_24 ?_
          rw [show q1_7 (x.toNatClampNeg) = some l0 from by rw [show x.toNatClampNeg = 0 from by show x.toInt.toNat = 0; omega]; exact h_10]
          refine lv_goto (tgt := 29) hx hb dX9_landAt_25 (by decide) ?_
          have hw_21 : bTold T t l0 l1 d0 d1 g0 g1 ln fl pl ft fk [zO8 t a1_2 ln fl pl a2_3 a3_4 a4_5 a5_6, zAr T 1 a1_2 600 ft, zAr T 0 a2_3 3 fk, zArq T 3 a3_4 2 q1_7, zArq T 4 a4_5 2 q2_8, zArq T 5 a5_6 2 q3_9] := ⟨a1_2, a2_3, a3_4, a4_5, a5_6, q1_7, q2_8, q3_9, rfl, h_10, h_11, h_12, h_13, h_14, h_15⟩
          have G : zS T A s.heap s [[zO8 t a1_2 ln fl pl a2_3 a3_4 a4_5 a5_6, zAr T 1 a1_2 600 ft, zAr T 0 a2_3 3 fk, zArq T 3 a3_4 2 q1_7, zArq T 4 a4_5 2 q2_8, zArq T 5 a5_6 2 q3_9]] _ _ := G.re rfl
          exact z_back hQz_ (z_aret (r := (some l0)) C hr (Or.inl ⟨_, rfl⟩) hlocks G (Nat.le_of_ble_eq_true rfl) (Nat.le_of_ble_eq_true rfl) dX9_landAt_29 ⟨rfl, (Or.inr (Or.inl (⟨rfl, (by first | with_reducible assumption | omega | assumption), (by first | with_reducible assumption | omega | assumption)⟩)))⟩)
        · have hxk := hx1
          refine z_ald C G 3 3 rfl rfl (vp_in_iff.mpr ⟨by omega, by omega⟩) dX9_landAt_24 ?_
          rw [show q1_7 (x.toNatClampNeg) = some l1 from by rw [show x.toNatClampNeg = 1 from by show x.toInt.toNat = 1; omega]; exact h_11]
          refine lv_goto (tgt := 29) hx hb dX9_landAt_25 (by decide) ?_
          have hw_22 : bTold T t l0 l1 d0 d1 g0 g1 ln fl pl ft fk [zO8 t a1_2 ln fl pl a2_3 a3_4 a4_5 a5_6, zAr T 1 a1_2 600 ft, zAr T 0 a2_3 3 fk, zArq T 3 a3_4 2 q1_7, zArq T 4 a4_5 2 q2_8, zArq T 5 a5_6 2 q3_9] := ⟨a1_2, a2_3, a3_4, a4_5, a5_6, q1_7, q2_8, q3_9, rfl, h_10, h_11, h_12, h_13, h_14, h_15⟩
          have G : zS T A s.heap s [[zO8 t a1_2 ln fl pl a2_3 a3_4 a4_5 a5_6, zAr T 1 a1_2 600 ft, zAr T 0 a2_3 3 fk, zArq T 3 a3_4 2 q1_7, zArq T 4 a4_5 2 q2_8, zArq T 5 a5_6 2 q3_9]] _ _ := G.re rfl
          exact z_back hQz_ (z_aret (r := (some l1)) C hr (Or.inl ⟨_, rfl⟩) hlocks G (Nat.le_of_ble_eq_true rfl) (Nat.le_of_ble_eq_true rfl) dX9_landAt_29 ⟨rfl, (Or.inr (Or.inr (⟨rfl, (by first | with_reducible assumption | omega | assumption), (by first | with_reducible assumption | omega | assumption)⟩)))⟩)
set_option maxHeartbeats 4000000 in
set_option maxRecDepth 100000 in
/-- c_dayAt -/
theorem c_dayAt (l : Launch) (T : zTy) (t : Nat) (l0 : Nat) (l1 : Nat) (d0 : Nat) (d1 : Nat) (g0 : Nat) (g1 : Nat) (ln : Int32) (fl : Int32) (pl : Int32) (ft : Nat → Int32) (fk : Nat → Int32) (wt : va_W) (x : Int32) (ht : bTold T t l0 l1 d0 d1 g0 g1 ln fl pl ft fk wt) : zMq l T yX9_dayAt cX9_dayAt 2 (some (.object "TurnedPosts$Day")) 1 0 0 [.ref t, .int x] [wt] (fun (r : Option Nat) bs => bs = [wt] ∧ ((r = none ∧ (x.toInt < 0 ∨ (fk 1).toInt ≤ x.toInt ∨ 2 ≤ x.toInt)) ∨ (r = some d0 ∧ x.toInt = 0 ∧ 0 < (fk 1).toInt) ∨ (r = some d1 ∧ x.toInt = 1 ∧ 1 < (fk 1).toInt))) := by
  refine zMq_of (own := RX9) (by decide) rfl (Nat.le_of_ble_eq_true rfl) ?_
  intro p e s m args below meth c A ls C hr hlocks hnm hAe G hl
  refine zHide (fun Qz_ hQz_ => ?_)
  have hx := C.1
  have hb := C.2.1
  have hl : lv_has ls 2 [(0, .ref t), (1, .int x)] := hl
  refine lv_iload_n hx hb dX9_dayAt_0 rfl (lv_at hl 1 rfl) ?_
  refine lv_if_lt (tgt := 28) hx hb dX9_dayAt_1 (by decide) (fun c_1 => ?_) (fun c_1 => ?_)
  · have c_1n : x.toInt < (0 : Int) := (fa_lt _ _).mp c_1
    refine lv_null hx hb dX9_dayAt_28 ?_
    exact z_back hQz_ (z_aret (r := none) C hr (Or.inl ⟨_, rfl⟩) hlocks G (Nat.le_of_ble_eq_true rfl) (Nat.le_of_ble_eq_true rfl) dX9_dayAt_29 ⟨rfl, (Or.inl (⟨rfl, (by first | with_reducible assumption | omega | assumption)⟩))⟩)
  · have c_1n : ¬ x.toInt < (0 : Int) := fun q => c_1 ((fa_lt _ _).mpr q)
    refine lv_iload_n hx hb dX9_dayAt_4 rfl (lv_at hl 1 rfl) ?_
    refine lv_aload_n hx hb dX9_dayAt_5 rfl (lv_at hl 0 rfl) ?_
    refine zEx8 ht ?_
    intro a1_2 a2_3 a3_4 a4_5 a5_6 q1_7 q2_8 q3_9
    refine zCu7 ?_
    intro hbs9 h_10 h_11 h_12 h_13 h_14 h_15
    clear ht
    subst hbs9
    have G : zS T A s.heap s [[zO8 t a1_2 ln fl pl a2_3 a3_4 a4_5 a5_6], [zAr T 1 a1_2 600 ft], [zAr T 0 a2_3 3 fk], [zArq T 3 a3_4 2 q1_7], [zArq T 4 a4_5 2 q2_8], [zArq T 5 a5_6 2 q3_9]] _ _ := G.re rfl
    refine z_get C G clX9 0 rfl 4 (by decide) m_fl_RX9_19 rfl dX9_dayAt_6 ?_
    refine lv_iconst (v := 1) hx hb dX9_dayAt_9 (by decide) ?_
    refine z_ild C G 2 rfl (vp_in_nI (n := 1) (by decide) (by decide)) dX9_dayAt_10 ?_
    refine lv_topi (fun v_16 ev_16 => ?_)
    rw [show ((1 : Int32).toNatClampNeg) = 1 from rfl] at ev_16
    subst ev_16
    refine lv_icmp_ge (tgt := 28) hx hb dX9_dayAt_11 (by decide) (fun c_17 => ?_) (fun c_17 => ?_)
    · have c_17n : (fk 1).toInt ≤ x.toInt := (fa_le _ _).mp c_17
      refine lv_null hx hb dX9_dayAt_28 ?_
      have hw_18 : bTold T t l0 l1 d0 d1 g0 g1 ln fl pl ft fk [zO8 t a1_2 ln fl pl a2_3 a3_4 a4_5 a5_6, zAr T 1 a1_2 600 ft, zAr T 0 a2_3 3 fk, zArq T 3 a3_4 2 q1_7, zArq T 4 a4_5 2 q2_8, zArq T 5 a5_6 2 q3_9] := ⟨a1_2, a2_3, a3_4, a4_5, a5_6, q1_7, q2_8, q3_9, rfl, h_10, h_11, h_12, h_13, h_14, h_15⟩
      have G : zS T A s.heap s [[zO8 t a1_2 ln fl pl a2_3 a3_4 a4_5 a5_6, zAr T 1 a1_2 600 ft, zAr T 0 a2_3 3 fk, zArq T 3 a3_4 2 q1_7, zArq T 4 a4_5 2 q2_8, zArq T 5 a5_6 2 q3_9]] _ _ := G.re rfl
      exact z_back hQz_ (z_aret (r := none) C hr (Or.inl ⟨_, rfl⟩) hlocks G (Nat.le_of_ble_eq_true rfl) (Nat.le_of_ble_eq_true rfl) dX9_dayAt_29 ⟨rfl, (Or.inl (⟨rfl, (by first | with_reducible assumption | omega | assumption)⟩))⟩)
    · have c_17n : ¬ (fk 1).toInt ≤ x.toInt := fun q => c_17 ((fa_le _ _).mpr q)
      refine lv_iload_n hx hb dX9_dayAt_14 rfl (lv_at hl 1 rfl) ?_
      refine lv_iconst (v := 2) hx hb dX9_dayAt_15 (by decide) ?_
      refine lv_icmp_ge (tgt := 28) hx hb dX9_dayAt_16 (by decide) (fun c_19 => ?_) (fun c_19 => ?_)
      · have c_19n : (2 : Int) ≤ x.toInt := (fa_le _ _).mp c_19
        refine lv_null hx hb dX9_dayAt_28 ?_
        have hw_20 : bTold T t l0 l1 d0 d1 g0 g1 ln fl pl ft fk [zO8 t a1_2 ln fl pl a2_3 a3_4 a4_5 a5_6, zAr T 1 a1_2 600 ft, zAr T 0 a2_3 3 fk, zArq T 3 a3_4 2 q1_7, zArq T 4 a4_5 2 q2_8, zArq T 5 a5_6 2 q3_9] := ⟨a1_2, a2_3, a3_4, a4_5, a5_6, q1_7, q2_8, q3_9, rfl, h_10, h_11, h_12, h_13, h_14, h_15⟩
        have G : zS T A s.heap s [[zO8 t a1_2 ln fl pl a2_3 a3_4 a4_5 a5_6, zAr T 1 a1_2 600 ft, zAr T 0 a2_3 3 fk, zArq T 3 a3_4 2 q1_7, zArq T 4 a4_5 2 q2_8, zArq T 5 a5_6 2 q3_9]] _ _ := G.re rfl
        exact z_back hQz_ (z_aret (r := none) C hr (Or.inl ⟨_, rfl⟩) hlocks G (Nat.le_of_ble_eq_true rfl) (Nat.le_of_ble_eq_true rfl) dX9_dayAt_29 ⟨rfl, (Or.inl (⟨rfl, (by first | with_reducible assumption | omega | assumption)⟩))⟩)
      · have c_19n : ¬ (2 : Int) ≤ x.toInt := fun q => c_19 ((fa_le _ _).mpr q)
        refine lv_aload_n hx hb dX9_dayAt_19 rfl (lv_at hl 0 rfl) ?_
        refine z_get C G clX9 0 rfl 6 (by decide) m_fl_RX9_33 rfl dX9_dayAt_20 ?_
        refine lv_iload_n hx hb dX9_dayAt_23 rfl (lv_at hl 1 rfl) ?_
        rcases (show x.toInt = 0 ∨ x.toInt = 1 from by omega) with hx0 | hx1
        · have hxk := hx0
          refine z_ald C G 4 4 rfl rfl (vp_in_iff.mpr ⟨by omega, by omega⟩) dX9_dayAt_24 ?_
          rw [show q2_8 (x.toNatClampNeg) = some d0 from by rw [show x.toNatClampNeg = 0 from by show x.toInt.toNat = 0; omega]; exact h_12]
          refine lv_goto (tgt := 29) hx hb dX9_dayAt_25 (by decide) ?_
          have hw_21 : bTold T t l0 l1 d0 d1 g0 g1 ln fl pl ft fk [zO8 t a1_2 ln fl pl a2_3 a3_4 a4_5 a5_6, zAr T 1 a1_2 600 ft, zAr T 0 a2_3 3 fk, zArq T 3 a3_4 2 q1_7, zArq T 4 a4_5 2 q2_8, zArq T 5 a5_6 2 q3_9] := ⟨a1_2, a2_3, a3_4, a4_5, a5_6, q1_7, q2_8, q3_9, rfl, h_10, h_11, h_12, h_13, h_14, h_15⟩
          have G : zS T A s.heap s [[zO8 t a1_2 ln fl pl a2_3 a3_4 a4_5 a5_6, zAr T 1 a1_2 600 ft, zAr T 0 a2_3 3 fk, zArq T 3 a3_4 2 q1_7, zArq T 4 a4_5 2 q2_8, zArq T 5 a5_6 2 q3_9]] _ _ := G.re rfl
          exact z_back hQz_ (z_aret (r := (some d0)) C hr (Or.inl ⟨_, rfl⟩) hlocks G (Nat.le_of_ble_eq_true rfl) (Nat.le_of_ble_eq_true rfl) dX9_dayAt_29 ⟨rfl, (Or.inr (Or.inl (⟨rfl, (by first | with_reducible assumption | omega | assumption), (by first | with_reducible assumption | omega | assumption)⟩)))⟩)
        · have hxk := hx1
          refine z_ald C G 4 4 rfl rfl (vp_in_iff.mpr ⟨by omega, by omega⟩) dX9_dayAt_24 ?_
          rw [show q2_8 (x.toNatClampNeg) = some d1 from by rw [show x.toNatClampNeg = 1 from by show x.toInt.toNat = 1; omega]; exact h_13]
          refine lv_goto (tgt := 29) hx hb dX9_dayAt_25 (by decide) ?_
          have hw_22 : bTold T t l0 l1 d0 d1 g0 g1 ln fl pl ft fk [zO8 t a1_2 ln fl pl a2_3 a3_4 a4_5 a5_6, zAr T 1 a1_2 600 ft, zAr T 0 a2_3 3 fk, zArq T 3 a3_4 2 q1_7, zArq T 4 a4_5 2 q2_8, zArq T 5 a5_6 2 q3_9] := ⟨a1_2, a2_3, a3_4, a4_5, a5_6, q1_7, q2_8, q3_9, rfl, h_10, h_11, h_12, h_13, h_14, h_15⟩
          have G : zS T A s.heap s [[zO8 t a1_2 ln fl pl a2_3 a3_4 a4_5 a5_6, zAr T 1 a1_2 600 ft, zAr T 0 a2_3 3 fk, zArq T 3 a3_4 2 q1_7, zArq T 4 a4_5 2 q2_8, zArq T 5 a5_6 2 q3_9]] _ _ := G.re rfl
          exact z_back hQz_ (z_aret (r := (some d1)) C hr (Or.inl ⟨_, rfl⟩) hlocks G (Nat.le_of_ble_eq_true rfl) (Nat.le_of_ble_eq_true rfl) dX9_dayAt_29 ⟨rfl, (Or.inr (Or.inr (⟨rfl, (by first | with_reducible assumption | omega | assumption), (by first | with_reducible assumption | omega | assumption)⟩)))⟩)
set_option maxHeartbeats 4000000 in
set_option maxRecDepth 100000 in
/-- c_logAt -/
theorem c_logAt (l : Launch) (T : zTy) (t : Nat) (l0 : Nat) (l1 : Nat) (d0 : Nat) (d1 : Nat) (g0 : Nat) (g1 : Nat) (ln : Int32) (fl : Int32) (pl : Int32) (ft : Nat → Int32) (fk : Nat → Int32) (wt : va_W) (x : Int32) (ht : bTold T t l0 l1 d0 d1 g0 g1 ln fl pl ft fk wt) : zMq l T yX9_logAt cX9_logAt 2 (some (.object "TurnedPosts$Log")) 1 0 0 [.ref t, .int x] [wt] (fun (r : Option Nat) bs => bs = [wt] ∧ ((r = none ∧ (x.toInt < 0 ∨ (fk 2).toInt ≤ x.toInt ∨ 2 ≤ x.toInt)) ∨ (r = some g0 ∧ x.toInt = 0 ∧ 0 < (fk 2).toInt) ∨ (r = some g1 ∧ x.toInt = 1 ∧ 1 < (fk 2).toInt))) := by
  refine zMq_of (own := RX9) (by decide) rfl (Nat.le_of_ble_eq_true rfl) ?_
  intro p e s m args below meth c A ls C hr hlocks hnm hAe G hl
  refine zHide (fun Qz_ hQz_ => ?_)
  have hx := C.1
  have hb := C.2.1
  have hl : lv_has ls 2 [(0, .ref t), (1, .int x)] := hl
  refine lv_iload_n hx hb dX9_logAt_0 rfl (lv_at hl 1 rfl) ?_
  refine lv_if_lt (tgt := 28) hx hb dX9_logAt_1 (by decide) (fun c_1 => ?_) (fun c_1 => ?_)
  · have c_1n : x.toInt < (0 : Int) := (fa_lt _ _).mp c_1
    refine lv_null hx hb dX9_logAt_28 ?_
    exact z_back hQz_ (z_aret (r := none) C hr (Or.inl ⟨_, rfl⟩) hlocks G (Nat.le_of_ble_eq_true rfl) (Nat.le_of_ble_eq_true rfl) dX9_logAt_29 ⟨rfl, (Or.inl (⟨rfl, (by first | with_reducible assumption | omega | assumption)⟩))⟩)
  · have c_1n : ¬ x.toInt < (0 : Int) := fun q => c_1 ((fa_lt _ _).mpr q)
    refine lv_iload_n hx hb dX9_logAt_4 rfl (lv_at hl 1 rfl) ?_
    refine lv_aload_n hx hb dX9_logAt_5 rfl (lv_at hl 0 rfl) ?_
    refine zEx8 ht ?_
    intro a1_2 a2_3 a3_4 a4_5 a5_6 q1_7 q2_8 q3_9
    refine zCu7 ?_
    intro hbs9 h_10 h_11 h_12 h_13 h_14 h_15
    clear ht
    subst hbs9
    have G : zS T A s.heap s [[zO8 t a1_2 ln fl pl a2_3 a3_4 a4_5 a5_6], [zAr T 1 a1_2 600 ft], [zAr T 0 a2_3 3 fk], [zArq T 3 a3_4 2 q1_7], [zArq T 4 a4_5 2 q2_8], [zArq T 5 a5_6 2 q3_9]] _ _ := G.re rfl
    refine z_get C G clX9 0 rfl 4 (by decide) m_fl_RX9_19 rfl dX9_logAt_6 ?_
    refine lv_iconst (v := 2) hx hb dX9_logAt_9 (by decide) ?_
    refine z_ild C G 2 rfl (vp_in_nI (n := 2) (by decide) (by decide)) dX9_logAt_10 ?_
    refine lv_topi (fun v_16 ev_16 => ?_)
    rw [show ((2 : Int32).toNatClampNeg) = 2 from rfl] at ev_16
    subst ev_16
    refine lv_icmp_ge (tgt := 28) hx hb dX9_logAt_11 (by decide) (fun c_17 => ?_) (fun c_17 => ?_)
    · have c_17n : (fk 2).toInt ≤ x.toInt := (fa_le _ _).mp c_17
      refine lv_null hx hb dX9_logAt_28 ?_
      have hw_18 : bTold T t l0 l1 d0 d1 g0 g1 ln fl pl ft fk [zO8 t a1_2 ln fl pl a2_3 a3_4 a4_5 a5_6, zAr T 1 a1_2 600 ft, zAr T 0 a2_3 3 fk, zArq T 3 a3_4 2 q1_7, zArq T 4 a4_5 2 q2_8, zArq T 5 a5_6 2 q3_9] := ⟨a1_2, a2_3, a3_4, a4_5, a5_6, q1_7, q2_8, q3_9, rfl, h_10, h_11, h_12, h_13, h_14, h_15⟩
      have G : zS T A s.heap s [[zO8 t a1_2 ln fl pl a2_3 a3_4 a4_5 a5_6, zAr T 1 a1_2 600 ft, zAr T 0 a2_3 3 fk, zArq T 3 a3_4 2 q1_7, zArq T 4 a4_5 2 q2_8, zArq T 5 a5_6 2 q3_9]] _ _ := G.re rfl
      exact z_back hQz_ (z_aret (r := none) C hr (Or.inl ⟨_, rfl⟩) hlocks G (Nat.le_of_ble_eq_true rfl) (Nat.le_of_ble_eq_true rfl) dX9_logAt_29 ⟨rfl, (Or.inl (⟨rfl, (by first | with_reducible assumption | omega | assumption)⟩))⟩)
    · have c_17n : ¬ (fk 2).toInt ≤ x.toInt := fun q => c_17 ((fa_le _ _).mpr q)
      refine lv_iload_n hx hb dX9_logAt_14 rfl (lv_at hl 1 rfl) ?_
      refine lv_iconst (v := 2) hx hb dX9_logAt_15 (by decide) ?_
      refine lv_icmp_ge (tgt := 28) hx hb dX9_logAt_16 (by decide) (fun c_19 => ?_) (fun c_19 => ?_)
      · have c_19n : (2 : Int) ≤ x.toInt := (fa_le _ _).mp c_19
        refine lv_null hx hb dX9_logAt_28 ?_
        have hw_20 : bTold T t l0 l1 d0 d1 g0 g1 ln fl pl ft fk [zO8 t a1_2 ln fl pl a2_3 a3_4 a4_5 a5_6, zAr T 1 a1_2 600 ft, zAr T 0 a2_3 3 fk, zArq T 3 a3_4 2 q1_7, zArq T 4 a4_5 2 q2_8, zArq T 5 a5_6 2 q3_9] := ⟨a1_2, a2_3, a3_4, a4_5, a5_6, q1_7, q2_8, q3_9, rfl, h_10, h_11, h_12, h_13, h_14, h_15⟩
        have G : zS T A s.heap s [[zO8 t a1_2 ln fl pl a2_3 a3_4 a4_5 a5_6, zAr T 1 a1_2 600 ft, zAr T 0 a2_3 3 fk, zArq T 3 a3_4 2 q1_7, zArq T 4 a4_5 2 q2_8, zArq T 5 a5_6 2 q3_9]] _ _ := G.re rfl
        exact z_back hQz_ (z_aret (r := none) C hr (Or.inl ⟨_, rfl⟩) hlocks G (Nat.le_of_ble_eq_true rfl) (Nat.le_of_ble_eq_true rfl) dX9_logAt_29 ⟨rfl, (Or.inl (⟨rfl, (by first | with_reducible assumption | omega | assumption)⟩))⟩)
      · have c_19n : ¬ (2 : Int) ≤ x.toInt := fun q => c_19 ((fa_le _ _).mpr q)
        refine lv_aload_n hx hb dX9_logAt_19 rfl (lv_at hl 0 rfl) ?_
        refine z_get C G clX9 0 rfl 7 (by decide) m_fl_RX9_40 rfl dX9_logAt_20 ?_
        refine lv_iload_n hx hb dX9_logAt_23 rfl (lv_at hl 1 rfl) ?_
        rcases (show x.toInt = 0 ∨ x.toInt = 1 from by omega) with hx0 | hx1
        · have hxk := hx0
          refine z_ald C G 5 5 rfl rfl (vp_in_iff.mpr ⟨by omega, by omega⟩) dX9_logAt_24 ?_
          rw [show q3_9 (x.toNatClampNeg) = some g0 from by rw [show x.toNatClampNeg = 0 from by show x.toInt.toNat = 0; omega]; exact h_14]
          refine lv_goto (tgt := 29) hx hb dX9_logAt_25 (by decide) ?_
          have hw_21 : bTold T t l0 l1 d0 d1 g0 g1 ln fl pl ft fk [zO8 t a1_2 ln fl pl a2_3 a3_4 a4_5 a5_6, zAr T 1 a1_2 600 ft, zAr T 0 a2_3 3 fk, zArq T 3 a3_4 2 q1_7, zArq T 4 a4_5 2 q2_8, zArq T 5 a5_6 2 q3_9] := ⟨a1_2, a2_3, a3_4, a4_5, a5_6, q1_7, q2_8, q3_9, rfl, h_10, h_11, h_12, h_13, h_14, h_15⟩
          have G : zS T A s.heap s [[zO8 t a1_2 ln fl pl a2_3 a3_4 a4_5 a5_6, zAr T 1 a1_2 600 ft, zAr T 0 a2_3 3 fk, zArq T 3 a3_4 2 q1_7, zArq T 4 a4_5 2 q2_8, zArq T 5 a5_6 2 q3_9]] _ _ := G.re rfl
          exact z_back hQz_ (z_aret (r := (some g0)) C hr (Or.inl ⟨_, rfl⟩) hlocks G (Nat.le_of_ble_eq_true rfl) (Nat.le_of_ble_eq_true rfl) dX9_logAt_29 ⟨rfl, (Or.inr (Or.inl (⟨rfl, (by first | with_reducible assumption | omega | assumption), (by first | with_reducible assumption | omega | assumption)⟩)))⟩)
        · have hxk := hx1
          refine z_ald C G 5 5 rfl rfl (vp_in_iff.mpr ⟨by omega, by omega⟩) dX9_logAt_24 ?_
          rw [show q3_9 (x.toNatClampNeg) = some g1 from by rw [show x.toNatClampNeg = 1 from by show x.toInt.toNat = 1; omega]; exact h_15]
          refine lv_goto (tgt := 29) hx hb dX9_logAt_25 (by decide) ?_
          have hw_22 : bTold T t l0 l1 d0 d1 g0 g1 ln fl pl ft fk [zO8 t a1_2 ln fl pl a2_3 a3_4 a4_5 a5_6, zAr T 1 a1_2 600 ft, zAr T 0 a2_3 3 fk, zArq T 3 a3_4 2 q1_7, zArq T 4 a4_5 2 q2_8, zArq T 5 a5_6 2 q3_9] := ⟨a1_2, a2_3, a3_4, a4_5, a5_6, q1_7, q2_8, q3_9, rfl, h_10, h_11, h_12, h_13, h_14, h_15⟩
          have G : zS T A s.heap s [[zO8 t a1_2 ln fl pl a2_3 a3_4 a4_5 a5_6, zAr T 1 a1_2 600 ft, zAr T 0 a2_3 3 fk, zArq T 3 a3_4 2 q1_7, zArq T 4 a4_5 2 q2_8, zArq T 5 a5_6 2 q3_9]] _ _ := G.re rfl
          exact z_back hQz_ (z_aret (r := (some g1)) C hr (Or.inl ⟨_, rfl⟩) hlocks G (Nat.le_of_ble_eq_true rfl) (Nat.le_of_ble_eq_true rfl) dX9_logAt_29 ⟨rfl, (Or.inr (Or.inr (⟨rfl, (by first | with_reducible assumption | omega | assumption), (by first | with_reducible assumption | omega | assumption)⟩)))⟩)
theorem m_fl_RX9_47 : Cond.fieldLink RX9 47 (TX7 0).1 (TX7 0).2.1 (TX7 0).2.2.1 ∈ zT := zmem1 zsub_1 172 rfl rfl
theorem m_co_X4_takeAll : Cond.code yX4_takeAll cX4_takeAll 3 none ∈ zT := zmem1 zsub_3 153 rfl rfl
theorem m_ml_RX9_53 : Cond.methodLink RX9 53 yX4_takeAll ∈ zT := zmem1 zsub_3 150 rfl rfl
theorem m_im_X4_takeAll : Cond.instanceMethod yX4_takeAll ∈ zT := zmem1 zsub_3 151 rfl rfl
theorem m_se_X4_takeAll : Cond.selects RX4 yX4_takeAll yX4_takeAll ∈ zT := zmem1 zsub_3 152 rfl rfl
theorem m_ml_RX9_71 : Cond.methodLink RX9 71 Lib.Math.max.name ∈ zT := zmem1 zsub_3 162 rfl rfl
theorem m_fl_RX9_57 : Cond.fieldLink RX9 57 (TX7 1).1 (TX7 1).2.1 (TX7 1).2.2.1 ∈ zT := zmem1 zsub_1 174 rfl rfl
theorem m_co_X2_takeAll : Cond.code yX2_takeAll cX2_takeAll 3 none ∈ zT := zmem1 zsub_3 157 rfl rfl
theorem m_ml_RX9_61 : Cond.methodLink RX9 61 yX2_takeAll ∈ zT := zmem1 zsub_3 154 rfl rfl
theorem m_im_X2_takeAll : Cond.instanceMethod yX2_takeAll ∈ zT := zmem1 zsub_3 155 rfl rfl
theorem m_se_X2_takeAll : Cond.selects RX2 yX2_takeAll yX2_takeAll ∈ zT := zmem1 zsub_3 156 rfl rfl
theorem m_fl_RX9_64 : Cond.fieldLink RX9 64 (TX7 2).1 (TX7 2).2.1 (TX7 2).2.2.1 ∈ zT := zmem1 zsub_1 176 rfl rfl
theorem m_co_X5_takeAll : Cond.code yX5_takeAll cX5_takeAll 3 none ∈ zT := zmem1 zsub_3 161 rfl rfl
theorem m_ml_RX9_68 : Cond.methodLink RX9 68 yX5_takeAll ∈ zT := zmem1 zsub_3 158 rfl rfl
theorem m_im_X5_takeAll : Cond.instanceMethod yX5_takeAll ∈ zT := zmem1 zsub_3 159 rfl rfl
theorem m_se_X5_takeAll : Cond.selects RX5 yX5_takeAll yX5_takeAll ∈ zT := zmem1 zsub_3 160 rfl rfl
theorem m_fl_RX9_77 : Cond.fieldLink RX9 77 (TX9 2).1 (TX9 2).2.1 (TX9 2).2.2.1 ∈ zT := zmem1 zsub_1 133 rfl rfl
theorem kV_RX9_53 {R : Room} {s : State} {args : Array Value} {d mc ms : Nat} (hts : ∀ w ∈ zT, w.before args s = true) (h1 : d + 1 ≤ R.frames) (h2 : 8 + (3 + 11) + 40 * d ≤ R.locals) : CallW R s args RX9 RX4 53 yX4_takeAll cX4_takeAll 3 none (zW yX4_takeAll cX4_takeAll 3 none) (zR d mc ms) mc ms 1 := z_cwV hts m_co_X4_takeAll m_ml_RX9_53 m_im_X4_takeAll m_se_X4_takeAll m_ii_RX4 (by decide +kernel) h1 h2
theorem kV_RX9_61 {R : Room} {s : State} {args : Array Value} {d mc ms : Nat} (hts : ∀ w ∈ zT, w.before args s = true) (h1 : d + 1 ≤ R.frames) (h2 : 8 + (3 + 11) + 40 * d ≤ R.locals) : CallW R s args RX9 RX2 61 yX2_takeAll cX2_takeAll 3 none (zW yX2_takeAll cX2_takeAll 3 none) (zR d mc ms) mc ms 1 := z_cwV hts m_co_X2_takeAll m_ml_RX9_61 m_im_X2_takeAll m_se_X2_takeAll m_ii_RX2 (by decide +kernel) h1 h2
theorem kV_RX9_68 {R : Room} {s : State} {args : Array Value} {d mc ms : Nat} (hts : ∀ w ∈ zT, w.before args s = true) (h1 : d + 1 ≤ R.frames) (h2 : 8 + (3 + 11) + 40 * d ≤ R.locals) : CallW R s args RX9 RX5 68 yX5_takeAll cX5_takeAll 3 none (zW yX5_takeAll cX5_takeAll 3 none) (zR d mc ms) mc ms 1 := z_cwV hts m_co_X5_takeAll m_ml_RX9_68 m_im_X5_takeAll m_se_X5_takeAll m_ii_RX5 (by decide +kernel) h1 h2
theorem dX9_keep_0 : decode cX9_keep 0 = .ok (.iload_n 1, 1) := zo_27 (by decide +kernel)
theorem dX9_keep_1 : decode cX9_keep 1 = .ok (.ifCond .lt 17, 3) := zo_155 (by decide +kernel)
theorem dX9_keep_4 : decode cX9_keep 4 = .ok (.iload_n 1, 1) := zo_27 (by decide +kernel)
theorem dX9_keep_5 : decode cX9_keep 5 = .ok (.iconst 2, 1) := zo_5 (by decide +kernel)
theorem dX9_keep_6 : decode cX9_keep 6 = .ok (.if_icmp .gt 12, 3) := zo_163 (by decide +kernel)
theorem dX9_keep_9 : decode cX9_keep 9 = .ok (.iload_n 2, 1) := zo_28 (by decide +kernel)
theorem dX9_keep_10 : decode cX9_keep 10 = .ok (.ifCond .lt 8, 3) := zo_155 (by decide +kernel)
theorem dX9_keep_13 : decode cX9_keep 13 = .ok (.iload_n 2, 1) := zo_28 (by decide +kernel)
theorem dX9_keep_14 : decode cX9_keep 14 = .ok (.iconst 2, 1) := zo_5 (by decide +kernel)
theorem dX9_keep_15 : decode cX9_keep 15 = .ok (.if_icmp .lt 4, 3) := zo_161 (by decide +kernel)
theorem dX9_keep_19 : decode cX9_keep 19 = .ok (.iload_n 1, 1) := zo_27 (by decide +kernel)
theorem dX9_keep_20 : decode cX9_keep 20 = .ok (.ifCond .ne 19, 3) := zo_154 (by decide +kernel)
theorem dX9_keep_23 : decode cX9_keep 23 = .ok (.aload_n 0, 1) := zo_42 (by decide +kernel)
theorem dX9_keep_24 : decode cX9_keep 24 = .ok (.getfield 26, 3) := zo_180 (by decide +kernel)
theorem dX9_keep_27 : decode cX9_keep 27 = .ok (.iload_n 2, 1) := zo_28 (by decide +kernel)
theorem dX9_keep_28 : decode cX9_keep 28 = .ok (.aaload, 1) := zo_50 (by decide +kernel)
theorem dX9_keep_29 : decode cX9_keep 29 = .ok (.aload_n 3, 1) := zo_45 (by decide +kernel)
theorem dX9_keep_30 : decode cX9_keep 30 = .ok (.getfield 47, 3) := zo_180 (by decide +kernel)
theorem dX9_keep_33 : decode cX9_keep 33 = .ok (.invokevirtual 53, 3) := zo_182 (by decide +kernel)
theorem dX9_keep_36 : decode cX9_keep 36 = .ok (.goto 37, 3) := zo_167 (by decide +kernel)
theorem dX9_keep_39 : decode cX9_keep 39 = .ok (.iload_n 1, 1) := zo_27 (by decide +kernel)
theorem dX9_keep_40 : decode cX9_keep 40 = .ok (.iconst 1, 1) := zo_4 (by decide +kernel)
theorem dX9_keep_41 : decode cX9_keep 41 = .ok (.if_icmp .ne 19, 3) := zo_160 (by decide +kernel)
theorem dX9_keep_44 : decode cX9_keep 44 = .ok (.aload_n 0, 1) := zo_42 (by decide +kernel)
theorem dX9_keep_45 : decode cX9_keep 45 = .ok (.getfield 33, 3) := zo_180 (by decide +kernel)
theorem dX9_keep_48 : decode cX9_keep 48 = .ok (.iload_n 2, 1) := zo_28 (by decide +kernel)
theorem dX9_keep_49 : decode cX9_keep 49 = .ok (.aaload, 1) := zo_50 (by decide +kernel)
theorem dX9_keep_50 : decode cX9_keep 50 = .ok (.aload_n 3, 1) := zo_45 (by decide +kernel)
theorem dX9_keep_51 : decode cX9_keep 51 = .ok (.getfield 57, 3) := zo_180 (by decide +kernel)
theorem dX9_keep_54 : decode cX9_keep 54 = .ok (.invokevirtual 61, 3) := zo_182 (by decide +kernel)
theorem dX9_keep_57 : decode cX9_keep 57 = .ok (.goto 16, 3) := zo_167 (by decide +kernel)
theorem dX9_keep_60 : decode cX9_keep 60 = .ok (.aload_n 0, 1) := zo_42 (by decide +kernel)
theorem dX9_keep_61 : decode cX9_keep 61 = .ok (.getfield 40, 3) := zo_180 (by decide +kernel)
theorem dX9_keep_64 : decode cX9_keep 64 = .ok (.iload_n 2, 1) := zo_28 (by decide +kernel)
theorem dX9_keep_65 : decode cX9_keep 65 = .ok (.aaload, 1) := zo_50 (by decide +kernel)
theorem dX9_keep_66 : decode cX9_keep 66 = .ok (.aload_n 3, 1) := zo_45 (by decide +kernel)
theorem dX9_keep_67 : decode cX9_keep 67 = .ok (.getfield 64, 3) := zo_180 (by decide +kernel)
theorem dX9_keep_70 : decode cX9_keep 70 = .ok (.invokevirtual 68, 3) := zo_182 (by decide +kernel)
theorem dX9_keep_73 : decode cX9_keep 73 = .ok (.aload_n 0, 1) := zo_42 (by decide +kernel)
theorem dX9_keep_74 : decode cX9_keep 74 = .ok (.getfield 19, 3) := zo_180 (by decide +kernel)
theorem dX9_keep_77 : decode cX9_keep 77 = .ok (.iload_n 1, 1) := zo_27 (by decide +kernel)
theorem dX9_keep_78 : decode cX9_keep 78 = .ok (.aload_n 0, 1) := zo_42 (by decide +kernel)
theorem dX9_keep_79 : decode cX9_keep 79 = .ok (.getfield 19, 3) := zo_180 (by decide +kernel)
theorem dX9_keep_82 : decode cX9_keep 82 = .ok (.iload_n 1, 1) := zo_27 (by decide +kernel)
theorem dX9_keep_83 : decode cX9_keep 83 = .ok (.iaload, 1) := zo_46 (by decide +kernel)
theorem dX9_keep_84 : decode cX9_keep 84 = .ok (.iload_n 2, 1) := zo_28 (by decide +kernel)
theorem dX9_keep_85 : decode cX9_keep 85 = .ok (.iconst 1, 1) := zo_4 (by decide +kernel)
theorem dX9_keep_86 : decode cX9_keep 86 = .ok (.iadd, 1) := zo_96 (by decide +kernel)
theorem dX9_keep_87 : decode cX9_keep 87 = .ok (.invokestatic 71, 3) := zo_184 (by decide +kernel)
theorem dX9_keep_90 : decode cX9_keep 90 = .ok (.iastore, 1) := zo_79 (by decide +kernel)
theorem dX9_keep_91 : decode cX9_keep 91 = .ok (.return_, 1) := zo_177 (by decide +kernel)
theorem dX9_takeAll_0 : decode cX9_takeAll 0 = .ok (.iconst 0, 1) := zo_3 (by decide +kernel)
theorem dX9_takeAll_1 : decode cX9_takeAll 1 = .ok (.istore_n 2, 1) := zo_61 (by decide +kernel)
theorem dX9_takeAll_2 : decode cX9_takeAll 2 = .ok (.iload_n 2, 1) := zo_28 (by decide +kernel)
theorem dX9_takeAll_3 : decode cX9_takeAll 3 = .ok (.sipush 600, 3) := zo_17 (by decide +kernel)
theorem dX9_takeAll_6 : decode cX9_takeAll 6 = .ok (.if_icmp .ge 21, 3) := zo_162 (by decide +kernel)
theorem dX9_takeAll_9 : decode cX9_takeAll 9 = .ok (.aload_n 0, 1) := zo_42 (by decide +kernel)
theorem dX9_takeAll_10 : decode cX9_takeAll 10 = .ok (.getfield 9, 3) := zo_180 (by decide +kernel)
theorem dX9_takeAll_13 : decode cX9_takeAll 13 = .ok (.iload_n 2, 1) := zo_28 (by decide +kernel)
theorem dX9_takeAll_14 : decode cX9_takeAll 14 = .ok (.aload_n 1, 1) := zo_43 (by decide +kernel)
theorem dX9_takeAll_15 : decode cX9_takeAll 15 = .ok (.getfield 9, 3) := zo_180 (by decide +kernel)
theorem dX9_takeAll_18 : decode cX9_takeAll 18 = .ok (.iload_n 2, 1) := zo_28 (by decide +kernel)
theorem dX9_takeAll_19 : decode cX9_takeAll 19 = .ok (.baload, 1) := zo_51 (by decide +kernel)
theorem dX9_takeAll_20 : decode cX9_takeAll 20 = .ok (.bastore, 1) := zo_84 (by decide +kernel)
theorem dX9_takeAll_21 : decode cX9_takeAll 21 = .ok (.iinc 2 1, 3) := zo_132 (by decide +kernel)
theorem dX9_takeAll_24 : decode cX9_takeAll 24 = .ok (.goto (-22), 3) := zo_167 (by decide +kernel)
theorem dX9_takeAll_27 : decode cX9_takeAll 27 = .ok (.aload_n 0, 1) := zo_42 (by decide +kernel)
theorem dX9_takeAll_28 : decode cX9_takeAll 28 = .ok (.aload_n 1, 1) := zo_43 (by decide +kernel)
theorem dX9_takeAll_29 : decode cX9_takeAll 29 = .ok (.getfield 44, 3) := zo_180 (by decide +kernel)
theorem dX9_takeAll_32 : decode cX9_takeAll 32 = .ok (.putfield 44, 3) := zo_181 (by decide +kernel)
theorem dX9_takeAll_35 : decode cX9_takeAll 35 = .ok (.aload_n 0, 1) := zo_42 (by decide +kernel)
theorem dX9_takeAll_36 : decode cX9_takeAll 36 = .ok (.aload_n 1, 1) := zo_43 (by decide +kernel)
theorem dX9_takeAll_37 : decode cX9_takeAll 37 = .ok (.getfield 77, 3) := zo_180 (by decide +kernel)
theorem dX9_takeAll_40 : decode cX9_takeAll 40 = .ok (.putfield 77, 3) := zo_181 (by decide +kernel)
theorem dX9_takeAll_43 : decode cX9_takeAll 43 = .ok (.aload_n 0, 1) := zo_42 (by decide +kernel)
theorem dX9_takeAll_44 : decode cX9_takeAll 44 = .ok (.aload_n 1, 1) := zo_43 (by decide +kernel)
theorem dX9_takeAll_45 : decode cX9_takeAll 45 = .ok (.getfield 15, 3) := zo_180 (by decide +kernel)
theorem dX9_takeAll_48 : decode cX9_takeAll 48 = .ok (.putfield 15, 3) := zo_181 (by decide +kernel)
theorem dX9_takeAll_51 : decode cX9_takeAll 51 = .ok (.iconst 0, 1) := zo_3 (by decide +kernel)
theorem dX9_takeAll_52 : decode cX9_takeAll 52 = .ok (.istore_n 2, 1) := zo_61 (by decide +kernel)
theorem dX9_takeAll_53 : decode cX9_takeAll 53 = .ok (.iload_n 2, 1) := zo_28 (by decide +kernel)
theorem dX9_takeAll_54 : decode cX9_takeAll 54 = .ok (.iconst 2, 1) := zo_5 (by decide +kernel)
theorem dX9_takeAll_55 : decode cX9_takeAll 55 = .ok (.if_icmp .gt 21, 3) := zo_163 (by decide +kernel)
theorem dX9_takeAll_58 : decode cX9_takeAll 58 = .ok (.aload_n 0, 1) := zo_42 (by decide +kernel)
theorem dX9_takeAll_59 : decode cX9_takeAll 59 = .ok (.getfield 19, 3) := zo_180 (by decide +kernel)
theorem dX9_takeAll_62 : decode cX9_takeAll 62 = .ok (.iload_n 2, 1) := zo_28 (by decide +kernel)
theorem dX9_takeAll_63 : decode cX9_takeAll 63 = .ok (.aload_n 1, 1) := zo_43 (by decide +kernel)
theorem dX9_takeAll_64 : decode cX9_takeAll 64 = .ok (.getfield 19, 3) := zo_180 (by decide +kernel)
theorem dX9_takeAll_67 : decode cX9_takeAll 67 = .ok (.iload_n 2, 1) := zo_28 (by decide +kernel)
theorem dX9_takeAll_68 : decode cX9_takeAll 68 = .ok (.iaload, 1) := zo_46 (by decide +kernel)
theorem dX9_takeAll_69 : decode cX9_takeAll 69 = .ok (.iastore, 1) := zo_79 (by decide +kernel)
theorem dX9_takeAll_70 : decode cX9_takeAll 70 = .ok (.iinc 2 1, 3) := zo_132 (by decide +kernel)
theorem dX9_takeAll_73 : decode cX9_takeAll 73 = .ok (.goto (-20), 3) := zo_167 (by decide +kernel)
theorem dX9_takeAll_76 : decode cX9_takeAll 76 = .ok (.iconst 0, 1) := zo_3 (by decide +kernel)
theorem dX9_takeAll_77 : decode cX9_takeAll 77 = .ok (.istore_n 2, 1) := zo_61 (by decide +kernel)
theorem dX9_takeAll_78 : decode cX9_takeAll 78 = .ok (.iload_n 2, 1) := zo_28 (by decide +kernel)
theorem dX9_takeAll_79 : decode cX9_takeAll 79 = .ok (.iconst 2, 1) := zo_5 (by decide +kernel)
theorem dX9_takeAll_80 : decode cX9_takeAll 80 = .ok (.if_icmp .ge 54, 3) := zo_162 (by decide +kernel)
theorem dX9_takeAll_83 : decode cX9_takeAll 83 = .ok (.aload_n 0, 1) := zo_42 (by decide +kernel)
theorem dX9_takeAll_84 : decode cX9_takeAll 84 = .ok (.getfield 26, 3) := zo_180 (by decide +kernel)
theorem dX9_takeAll_87 : decode cX9_takeAll 87 = .ok (.iload_n 2, 1) := zo_28 (by decide +kernel)
theorem dX9_takeAll_88 : decode cX9_takeAll 88 = .ok (.aaload, 1) := zo_50 (by decide +kernel)
theorem dX9_takeAll_89 : decode cX9_takeAll 89 = .ok (.aload_n 1, 1) := zo_43 (by decide +kernel)
theorem dX9_takeAll_90 : decode cX9_takeAll 90 = .ok (.getfield 26, 3) := zo_180 (by decide +kernel)
theorem dX9_takeAll_93 : decode cX9_takeAll 93 = .ok (.iload_n 2, 1) := zo_28 (by decide +kernel)
theorem dX9_takeAll_94 : decode cX9_takeAll 94 = .ok (.aaload, 1) := zo_50 (by decide +kernel)
theorem dX9_takeAll_95 : decode cX9_takeAll 95 = .ok (.invokevirtual 53, 3) := zo_182 (by decide +kernel)
theorem dX9_takeAll_98 : decode cX9_takeAll 98 = .ok (.aload_n 0, 1) := zo_42 (by decide +kernel)
theorem dX9_takeAll_99 : decode cX9_takeAll 99 = .ok (.getfield 33, 3) := zo_180 (by decide +kernel)
theorem dX9_takeAll_102 : decode cX9_takeAll 102 = .ok (.iload_n 2, 1) := zo_28 (by decide +kernel)
theorem dX9_takeAll_103 : decode cX9_takeAll 103 = .ok (.aaload, 1) := zo_50 (by decide +kernel)
theorem dX9_takeAll_104 : decode cX9_takeAll 104 = .ok (.aload_n 1, 1) := zo_43 (by decide +kernel)
theorem dX9_takeAll_105 : decode cX9_takeAll 105 = .ok (.getfield 33, 3) := zo_180 (by decide +kernel)
theorem dX9_takeAll_108 : decode cX9_takeAll 108 = .ok (.iload_n 2, 1) := zo_28 (by decide +kernel)
theorem dX9_takeAll_109 : decode cX9_takeAll 109 = .ok (.aaload, 1) := zo_50 (by decide +kernel)
theorem dX9_takeAll_110 : decode cX9_takeAll 110 = .ok (.invokevirtual 61, 3) := zo_182 (by decide +kernel)
theorem dX9_takeAll_113 : decode cX9_takeAll 113 = .ok (.aload_n 0, 1) := zo_42 (by decide +kernel)
theorem dX9_takeAll_114 : decode cX9_takeAll 114 = .ok (.getfield 40, 3) := zo_180 (by decide +kernel)
theorem dX9_takeAll_117 : decode cX9_takeAll 117 = .ok (.iload_n 2, 1) := zo_28 (by decide +kernel)
theorem dX9_takeAll_118 : decode cX9_takeAll 118 = .ok (.aaload, 1) := zo_50 (by decide +kernel)
theorem dX9_takeAll_119 : decode cX9_takeAll 119 = .ok (.aload_n 1, 1) := zo_43 (by decide +kernel)
theorem dX9_takeAll_120 : decode cX9_takeAll 120 = .ok (.getfield 40, 3) := zo_180 (by decide +kernel)
theorem dX9_takeAll_123 : decode cX9_takeAll 123 = .ok (.iload_n 2, 1) := zo_28 (by decide +kernel)
theorem dX9_takeAll_124 : decode cX9_takeAll 124 = .ok (.aaload, 1) := zo_50 (by decide +kernel)
theorem dX9_takeAll_125 : decode cX9_takeAll 125 = .ok (.invokevirtual 68, 3) := zo_182 (by decide +kernel)
theorem dX9_takeAll_128 : decode cX9_takeAll 128 = .ok (.iinc 2 1, 3) := zo_132 (by decide +kernel)
theorem dX9_takeAll_131 : decode cX9_takeAll 131 = .ok (.goto (-53), 3) := zo_167 (by decide +kernel)
theorem dX9_takeAll_134 : decode cX9_takeAll 134 = .ok (.return_, 1) := zo_177 (by decide +kernel)

theorem m_fl_RX0_37 : Cond.fieldLink RX0 37 (TX0 0).1 (TX0 0).2.1 (TX0 0).2.2.1 ∈ zT := zmem1 zsub_2 105 (by decide +kernel) (by decide +kernel)
theorem m_co_X0_grow : Cond.code yX0_grow cX0_grow 2 none ∈ zT := zmem1 zsub_4 226 (by decide +kernel) (by decide +kernel)
theorem m_ml_RX0_45 : Cond.methodLink RX0 45 yX0_grow ∈ zT := zmem1 zsub_4 223 (by decide +kernel) (by decide +kernel)
theorem m_im_X0_grow : Cond.instanceMethod yX0_grow ∈ zT := zmem1 zsub_4 225 (by decide +kernel) (by decide +kernel)
theorem m_se_X0_grow : Cond.selects RX0 yX0_grow yX0_grow ∈ zT := zmem 33 (by decide +kernel) (by decide +kernel)
theorem m_co_X0_stepOnce : Cond.code yX0_stepOnce cX0_stepOnce 5 none ∈ zT := zmem1 zsub_4 230 (by decide +kernel) (by decide +kernel)
theorem m_ml_RX0_48 : Cond.methodLink RX0 48 yX0_stepOnce ∈ zT := zmem1 zsub_4 227 (by decide +kernel) (by decide +kernel)
theorem m_im_X0_stepOnce : Cond.instanceMethod yX0_stepOnce ∈ zT := zmem1 zsub_4 229 (by decide +kernel) (by decide +kernel)
theorem m_se_X0_stepOnce : Cond.selects RX0 yX0_stepOnce yX0_stepOnce ∈ zT := zmem 34 (by decide +kernel) (by decide +kernel)
theorem m_co_X0_doubleAll : Cond.code yX0_doubleAll cX0_doubleAll 6 none ∈ zT := zmem1 zsub_5 6 (by decide +kernel) (by decide +kernel)
theorem m_ml_RX0_51 : Cond.methodLink RX0 51 yX0_doubleAll ∈ zT := zmem1 zsub_5 3 (by decide +kernel) (by decide +kernel)
theorem m_im_X0_doubleAll : Cond.instanceMethod yX0_doubleAll ∈ zT := zmem1 zsub_5 5 (by decide +kernel) (by decide +kernel)
theorem m_se_X0_doubleAll : Cond.selects RX0 yX0_doubleAll yX0_doubleAll ∈ zT := zmem 35 (by decide +kernel) (by decide +kernel)
theorem m_co_X0_oneMore : Cond.code yX0_oneMore cX0_oneMore 4 none ∈ zT := zmem1 zsub_5 11 (by decide +kernel) (by decide +kernel)
theorem m_ml_RX0_54 : Cond.methodLink RX0 54 yX0_oneMore ∈ zT := zmem1 zsub_5 8 (by decide +kernel) (by decide +kernel)
theorem m_im_X0_oneMore : Cond.instanceMethod yX0_oneMore ∈ zT := zmem1 zsub_5 10 (by decide +kernel) (by decide +kernel)
theorem m_se_X0_oneMore : Cond.selects RX0 yX0_oneMore yX0_oneMore ∈ zT := zmem 36 (by decide +kernel) (by decide +kernel)
theorem m_fl_RX3_34 : Cond.fieldLink RX3 34 (TX3 3).1 (TX3 3).2.1 (TX3 3).2.2.1 ∈ zT := zmem1 zsub_2 151 (by decide +kernel) (by decide +kernel)
theorem m_co_X3_way : Cond.code yX3_way cX3_way 2 (some .int) ∈ zT := zmem1 zsub_5 151 (by decide +kernel) (by decide +kernel)
theorem m_ml_RX3_92 : Cond.methodLink RX3 92 yX3_way ∈ zT := zmem1 zsub_5 148 (by decide +kernel) (by decide +kernel)
theorem m_im_X3_way : Cond.instanceMethod yX3_way ∈ zT := zmem1 zsub_5 149 (by decide +kernel) (by decide +kernel)
theorem m_se_X3_way : Cond.selects RX3 yX3_way yX3_way ∈ zT := zmem1 zsub_5 150 (by decide +kernel) (by decide +kernel)
theorem m_ii_RX3 : Cond.initialized RX3 ∈ zT := zmem1 zsub_1 11 (by decide +kernel) (by decide +kernel)
theorem m_ml_RX3_96 : Cond.methodLink RX3 96 yX0_road ∈ zT := zmem1 zsub_5 152 (by decide +kernel) (by decide +kernel)
theorem m_fl_RX3_55 : Cond.fieldLink RX3 55 (TX0 2).1 (TX0 2).2.1 (TX0 2).2.2.1 ∈ zT := zmem1 zsub_2 111 (by decide +kernel) (by decide +kernel)
theorem m_ml_RX3_58 : Cond.methodLink RX3 58 yX4_has ∈ zT := zmem1 zsub_5 126 (by decide +kernel) (by decide +kernel)
theorem m_co_X3_pointing : Cond.code yX3_pointing cX3_pointing 6 (some .int) ∈ zT := zmem1 zsub_5 156 (by decide +kernel) (by decide +kernel)
theorem m_ml_RX3_99 : Cond.methodLink RX3 99 yX3_pointing ∈ zT := zmem1 zsub_5 153 (by decide +kernel) (by decide +kernel)
theorem m_im_X3_pointing : Cond.instanceMethod yX3_pointing ∈ zT := zmem1 zsub_5 154 (by decide +kernel) (by decide +kernel)
theorem m_se_X3_pointing : Cond.selects RX3 yX3_pointing yX3_pointing ∈ zT := zmem1 zsub_5 155 (by decide +kernel) (by decide +kernel)
theorem m_ml_RX3_86 : Cond.methodLink RX3 86 yX0_where ∈ zT := zmem1 zsub_5 130 (by decide +kernel) (by decide +kernel)
theorem m_ml_RX3_89 : Cond.methodLink RX3 89 yX4_isInn ∈ zT := zmem1 zsub_5 131 (by decide +kernel) (by decide +kernel)
theorem m_ml_RX3_83 : Cond.methodLink RX3 83 Lib.Math.max.name ∈ zT := zmem1 zsub_5 135 (by decide +kernel) (by decide +kernel)
theorem m_fl_RX3_103 : Cond.fieldLink RX3 103 (TX4 0).1 (TX4 0).2.1 (TX4 0).2.2.1 ∈ zT := zmem1 zsub_1 46 (by decide +kernel) (by decide +kernel)
theorem m_co_X3_mostTogether : Cond.code yX3_mostTogether cX3_mostTogether 6 (some .int) ∈ zT := zmem1 zsub_5 143 (by decide +kernel) (by decide +kernel)
theorem m_ml_RX3_106 : Cond.methodLink RX3 106 yX3_mostTogether ∈ zT := zmem1 zsub_5 140 (by decide +kernel) (by decide +kernel)
theorem m_im_X3_mostTogether : Cond.instanceMethod yX3_mostTogether ∈ zT := zmem1 zsub_5 142 (by decide +kernel) (by decide +kernel)
theorem m_se_X3_mostTogether : Cond.selects RX3 yX3_mostTogether yX3_mostTogether ∈ zT := zmem 44 (by decide +kernel) (by decide +kernel)
theorem m_fl_RX3_47 : Cond.fieldLink RX3 47 (TX5 0).1 (TX5 0).2.1 (TX5 0).2.2.1 ∈ zT := zmem1 zsub_1 116 (by decide +kernel) (by decide +kernel)
theorem m_fl_RX3_37 : Cond.fieldLink RX3 37 (TX3 4).1 (TX3 4).2.1 (TX3 4).2.2.1 ∈ zT := zmem1 zsub_2 153 (by decide +kernel) (by decide +kernel)
theorem m_ml_RX3_78 : Cond.methodLink RX3 78 Lib.Math.min.name ∈ zT := zmem1 zsub_5 134 (by decide +kernel) (by decide +kernel)
theorem m_fl_RX3_40 : Cond.fieldLink RX3 40 (TX3 5).1 (TX3 5).2.1 (TX3 5).2.2.1 ∈ zT := zmem1 zsub_2 155 (by decide +kernel) (by decide +kernel)
theorem m_fl_RX3_52 : Cond.fieldLink RX3 52 (TX5 1).1 (TX5 1).2.1 (TX5 1).2.2.1 ∈ zT := zmem1 zsub_1 118 (by decide +kernel) (by decide +kernel)
theorem m_fl_RX3_64 : Cond.fieldLink RX3 64 (TX5 2).1 (TX5 2).2.1 (TX5 2).2.2.1 ∈ zT := zmem1 zsub_1 120 (by decide +kernel) (by decide +kernel)
theorem m_co_X3_isSo : Cond.code yX3_isSo cX3_isSo 5 (some .boolean) ∈ zT := zmem1 zsub_5 129 (by decide +kernel) (by decide +kernel)
theorem m_ml_RX3_67 : Cond.methodLink RX3 67 yX3_isSo ∈ zT := zmem1 zsub_5 127 (by decide +kernel) (by decide +kernel)
theorem m_st_X3_isSo : Cond.static yX3_isSo ∈ zT := zmem1 zsub_5 128 (by decide +kernel) (by decide +kernel)
theorem m_ml_RX3_71 : Cond.methodLink RX3 71 yX0_steps ∈ zT := zmem1 zsub_5 132 (by decide +kernel) (by decide +kernel)
theorem m_co_X0_wayAfter : Cond.code yX0_wayAfter cX0_wayAfter 3 (some .int) ∈ zT := zmem1 zsub_5 89 (by decide +kernel) (by decide +kernel)
theorem m_ml_RX3_75 : Cond.methodLink RX3 75 yX0_wayAfter ∈ zT := zmem1 zsub_5 133 (by decide +kernel) (by decide +kernel)
theorem m_im_X0_wayAfter : Cond.instanceMethod yX0_wayAfter ∈ zT := zmem1 zsub_5 87 (by decide +kernel) (by decide +kernel)
theorem m_se_X0_wayAfter : Cond.selects RX0 yX0_wayAfter yX0_wayAfter ∈ zT := zmem1 zsub_5 88 (by decide +kernel) (by decide +kernel)
theorem m_fl_RX3_25 : Cond.fieldLink RX3 25 (TX0 1).1 (TX0 1).2.1 (TX0 1).2.2.1 ∈ zT := zmem1 zsub_2 107 (by decide +kernel) (by decide +kernel)
theorem m_co_X3_grow : Cond.code yX3_grow cX3_grow 3 none ∈ zT := zmem1 zsub_5 121 (by decide +kernel) (by decide +kernel)
theorem m_ml_RX3_30 : Cond.methodLink RX3 30 yX3_grow ∈ zT := zmem1 zsub_5 118 (by decide +kernel) (by decide +kernel)
theorem m_im_X3_grow : Cond.instanceMethod yX3_grow ∈ zT := zmem1 zsub_5 120 (by decide +kernel) (by decide +kernel)
theorem m_se_X3_grow : Cond.selects RX3 yX3_grow yX3_grow ∈ zT := zmem 42 (by decide +kernel) (by decide +kernel)
theorem m_co_X3_tryWay : Cond.code yX3_tryWay cX3_tryWay 8 none ∈ zT := zmem1 zsub_5 125 (by decide +kernel) (by decide +kernel)
theorem m_ml_RX3_43 : Cond.methodLink RX3 43 yX3_tryWay ∈ zT := zmem1 zsub_5 122 (by decide +kernel) (by decide +kernel)
theorem m_im_X3_tryWay : Cond.instanceMethod yX3_tryWay ∈ zT := zmem1 zsub_5 124 (by decide +kernel) (by decide +kernel)
theorem m_se_X3_tryWay : Cond.selects RX3 yX3_tryWay yX3_tryWay ∈ zT := zmem 43 (by decide +kernel) (by decide +kernel)
theorem kV_RX0_45 {R : Room} {s : State} {args : Array Value} {d mc ms : Nat} (hts : ∀ w ∈ zT, w.before args s = true) (h1 : d + 1 ≤ R.frames) (h2 : 8 + (2 + 11) + 40 * d ≤ R.locals) : CallW R s args RX0 RX0 45 yX0_grow cX0_grow 2 none (zW yX0_grow cX0_grow 2 none) (zR d mc ms) mc ms 0 := z_cwV hts m_co_X0_grow m_ml_RX0_45 m_im_X0_grow m_se_X0_grow m_ii_RX0 (by decide +kernel) h1 h2
theorem kV_RX0_48 {R : Room} {s : State} {args : Array Value} {d mc ms : Nat} (hts : ∀ w ∈ zT, w.before args s = true) (h1 : d + 1 ≤ R.frames) (h2 : 8 + (5 + 11) + 40 * d ≤ R.locals) : CallW R s args RX0 RX0 48 yX0_stepOnce cX0_stepOnce 5 none (zW yX0_stepOnce cX0_stepOnce 5 none) (zR d mc ms) mc ms 0 := z_cwV hts m_co_X0_stepOnce m_ml_RX0_48 m_im_X0_stepOnce m_se_X0_stepOnce m_ii_RX0 (by decide +kernel) h1 h2
theorem kV_RX0_51 {R : Room} {s : State} {args : Array Value} {d mc ms : Nat} (hts : ∀ w ∈ zT, w.before args s = true) (h1 : d + 1 ≤ R.frames) (h2 : 8 + (6 + 11) + 40 * d ≤ R.locals) : CallW R s args RX0 RX0 51 yX0_doubleAll cX0_doubleAll 6 none (zW yX0_doubleAll cX0_doubleAll 6 none) (zR d mc ms) mc ms 0 := z_cwV hts m_co_X0_doubleAll m_ml_RX0_51 m_im_X0_doubleAll m_se_X0_doubleAll m_ii_RX0 (by decide +kernel) h1 h2
theorem kV_RX0_54 {R : Room} {s : State} {args : Array Value} {d mc ms : Nat} (hts : ∀ w ∈ zT, w.before args s = true) (h1 : d + 1 ≤ R.frames) (h2 : 8 + (4 + 11) + 40 * d ≤ R.locals) : CallW R s args RX0 RX0 54 yX0_oneMore cX0_oneMore 4 none (zW yX0_oneMore cX0_oneMore 4 none) (zR d mc ms) mc ms 0 := z_cwV hts m_co_X0_oneMore m_ml_RX0_54 m_im_X0_oneMore m_se_X0_oneMore m_ii_RX0 (by decide +kernel) h1 h2
theorem kV_RX3_92 {R : Room} {s : State} {args : Array Value} {d mc ms : Nat} (hts : ∀ w ∈ zT, w.before args s = true) (h1 : d + 1 ≤ R.frames) (h2 : 8 + (2 + 11) + 40 * d ≤ R.locals) : CallW R s args RX3 RX3 92 yX3_way cX3_way 2 (some .int) (zW yX3_way cX3_way 2 (some .int)) (zR d mc ms) mc ms 1 := z_cwV hts m_co_X3_way m_ml_RX3_92 m_im_X3_way m_se_X3_way m_ii_RX3 (by decide +kernel) h1 h2
theorem kV_RX3_96 {R : Room} {s : State} {args : Array Value} {d mc ms : Nat} (hts : ∀ w ∈ zT, w.before args s = true) (h1 : d + 1 ≤ R.frames) (h2 : 8 + (3 + 11) + 40 * d ≤ R.locals) : CallW R s args RX3 RX0 96 yX0_road cX0_road 3 (some .int) (zW yX0_road cX0_road 3 (some .int)) (zR d mc ms) mc ms 2 := z_cwV hts m_co_X0_road m_ml_RX3_96 m_im_X0_road m_se_X0_road m_ii_RX0 (by decide +kernel) h1 h2
theorem kV_RX3_58 {R : Room} {s : State} {args : Array Value} {d mc ms : Nat} (hts : ∀ w ∈ zT, w.before args s = true) (h1 : d + 1 ≤ R.frames) (h2 : 8 + (2 + 11) + 40 * d ≤ R.locals) : CallW R s args RX3 RX4 58 yX4_has cX4_has 2 (some .boolean) (zW yX4_has cX4_has 2 (some .boolean)) (zR d mc ms) mc ms 1 := z_cwV hts m_co_X4_has m_ml_RX3_58 m_im_X4_has m_se_X4_has m_ii_RX4 (by decide +kernel) h1 h2
theorem kV_RX3_99 {R : Room} {s : State} {args : Array Value} {d mc ms : Nat} (hts : ∀ w ∈ zT, w.before args s = true) (h1 : d + 1 ≤ R.frames) (h2 : 8 + (6 + 11) + 40 * d ≤ R.locals) : CallW R s args RX3 RX3 99 yX3_pointing cX3_pointing 6 (some .int) (zW yX3_pointing cX3_pointing 6 (some .int)) (zR d mc ms) mc ms 3 := z_cwV hts m_co_X3_pointing m_ml_RX3_99 m_im_X3_pointing m_se_X3_pointing m_ii_RX3 (by decide +kernel) h1 h2
theorem kV_RX3_86 {R : Room} {s : State} {args : Array Value} {d mc ms : Nat} (hts : ∀ w ∈ zT, w.before args s = true) (h1 : d + 1 ≤ R.frames) (h2 : 8 + (3 + 11) + 40 * d ≤ R.locals) : CallW R s args RX3 RX0 86 yX0_where cX0_where 3 (some .int) (zW yX0_where cX0_where 3 (some .int)) (zR d mc ms) mc ms 2 := z_cwV hts m_co_X0_where m_ml_RX3_86 m_im_X0_where m_se_X0_where m_ii_RX0 (by decide +kernel) h1 h2
theorem kV_RX3_89 {R : Room} {s : State} {args : Array Value} {d mc ms : Nat} (hts : ∀ w ∈ zT, w.before args s = true) (h1 : d + 1 ≤ R.frames) (h2 : 8 + (2 + 11) + 40 * d ≤ R.locals) : CallW R s args RX3 RX4 89 yX4_isInn cX4_isInn 2 (some .boolean) (zW yX4_isInn cX4_isInn 2 (some .boolean)) (zR d mc ms) mc ms 1 := z_cwV hts m_co_X4_isInn m_ml_RX3_89 m_im_X4_isInn m_se_X4_isInn m_ii_RX4 (by decide +kernel) h1 h2
theorem kV_RX3_106 {R : Room} {s : State} {args : Array Value} {d mc ms : Nat} (hts : ∀ w ∈ zT, w.before args s = true) (h1 : d + 1 ≤ R.frames) (h2 : 8 + (6 + 11) + 40 * d ≤ R.locals) : CallW R s args RX3 RX3 106 yX3_mostTogether cX3_mostTogether 6 (some .int) (zW yX3_mostTogether cX3_mostTogether 6 (some .int)) (zR d mc ms) mc ms 2 := z_cwV hts m_co_X3_mostTogether m_ml_RX3_106 m_im_X3_mostTogether m_se_X3_mostTogether m_ii_RX3 (by decide +kernel) h1 h2
theorem kS_RX3_67 {R : Room} {s : State} {args : Array Value} {d mc ms : Nat} (hts : ∀ w ∈ zT, w.before args s = true) (h1 : d + 1 ≤ R.frames) (h2 : 8 + (5 + 11) + 40 * d ≤ R.locals) : CallB R s args RX3 67 yX3_isSo cX3_isSo 5 (some .boolean) (zW yX3_isSo cX3_isSo 5 (some .boolean)) (zR d mc ms) mc ms 4 ∧ (Cond.static yX3_isSo).before args s = true := z_cwS hts m_co_X3_isSo m_ml_RX3_67 m_st_X3_isSo m_ii_RX3 (by decide +kernel) h1 h2
theorem kV_RX3_71 {R : Room} {s : State} {args : Array Value} {d mc ms : Nat} (hts : ∀ w ∈ zT, w.before args s = true) (h1 : d + 1 ≤ R.frames) (h2 : 8 + (3 + 11) + 40 * d ≤ R.locals) : CallW R s args RX3 RX0 71 yX0_steps cX0_steps 3 (some .int) (zW yX0_steps cX0_steps 3 (some .int)) (zR d mc ms) mc ms 2 := z_cwV hts m_co_X0_steps m_ml_RX3_71 m_im_X0_steps m_se_X0_steps m_ii_RX0 (by decide +kernel) h1 h2
theorem kV_RX3_75 {R : Room} {s : State} {args : Array Value} {d mc ms : Nat} (hts : ∀ w ∈ zT, w.before args s = true) (h1 : d + 1 ≤ R.frames) (h2 : 8 + (3 + 11) + 40 * d ≤ R.locals) : CallW R s args RX3 RX0 75 yX0_wayAfter cX0_wayAfter 3 (some .int) (zW yX0_wayAfter cX0_wayAfter 3 (some .int)) (zR d mc ms) mc ms 2 := z_cwV hts m_co_X0_wayAfter m_ml_RX3_75 m_im_X0_wayAfter m_se_X0_wayAfter m_ii_RX0 (by decide +kernel) h1 h2
theorem kV_RX3_30 {R : Room} {s : State} {args : Array Value} {d mc ms : Nat} (hts : ∀ w ∈ zT, w.before args s = true) (h1 : d + 1 ≤ R.frames) (h2 : 8 + (3 + 11) + 40 * d ≤ R.locals) : CallW R s args RX3 RX3 30 yX3_grow cX3_grow 3 none (zW yX3_grow cX3_grow 3 none) (zR d mc ms) mc ms 1 := z_cwV hts m_co_X3_grow m_ml_RX3_30 m_im_X3_grow m_se_X3_grow m_ii_RX3 (by decide +kernel) h1 h2
theorem kV_RX3_43 {R : Room} {s : State} {args : Array Value} {d mc ms : Nat} (hts : ∀ w ∈ zT, w.before args s = true) (h1 : d + 1 ≤ R.frames) (h2 : 8 + (8 + 11) + 40 * d ≤ R.locals) : CallW R s args RX3 RX3 43 yX3_tryWay cX3_tryWay 8 none (zW yX3_tryWay cX3_tryWay 8 none) (zR d mc ms) mc ms 3 := z_cwV hts m_co_X3_tryWay m_ml_RX3_43 m_im_X3_tryWay m_se_X3_tryWay m_ii_RX3 (by decide +kernel) h1 h2
theorem dX0_make_0 : decode cX0_make 0 = .ok (.aload_n 0, 1) := by decide +kernel
theorem dX0_make_1 : decode cX0_make 1 = .ok (.getfield 37, 3) := by decide +kernel
theorem dX0_make_4 : decode cX0_make 4 = .ok (.ifCond .eq 4, 3) := by decide +kernel
theorem dX0_make_7 : decode cX0_make 7 = .ok (.return_, 1) := by decide +kernel
theorem dX0_make_8 : decode cX0_make 8 = .ok (.aload_n 0, 1) := by decide +kernel
theorem dX0_make_9 : decode cX0_make 9 = .ok (.aload_n 1, 1) := by decide +kernel
theorem dX0_make_10 : decode cX0_make 10 = .ok (.invokevirtual 41, 3) := by decide +kernel
theorem dX0_make_13 : decode cX0_make 13 = .ok (.aload_n 0, 1) := by decide +kernel
theorem dX0_make_14 : decode cX0_make 14 = .ok (.invokevirtual 45, 3) := by decide +kernel
theorem dX0_make_17 : decode cX0_make 17 = .ok (.aload_n 0, 1) := by decide +kernel
theorem dX0_make_18 : decode cX0_make 18 = .ok (.invokevirtual 48, 3) := by decide +kernel
theorem dX0_make_21 : decode cX0_make 21 = .ok (.sipush 128, 3) := by decide +kernel
theorem dX0_make_24 : decode cX0_make 24 = .ok (.istore_n 2, 1) := by decide +kernel
theorem dX0_make_25 : decode cX0_make 25 = .ok (.iload_n 2, 1) := by decide +kernel
theorem dX0_make_26 : decode cX0_make 26 = .ok (.ifCond .le 26, 3) := by decide +kernel
theorem dX0_make_29 : decode cX0_make 29 = .ok (.aload_n 0, 1) := by decide +kernel
theorem dX0_make_30 : decode cX0_make 30 = .ok (.invokevirtual 51, 3) := by decide +kernel
theorem dX0_make_33 : decode cX0_make 33 = .ok (.sipush 499, 3) := by decide +kernel
theorem dX0_make_36 : decode cX0_make 36 = .ok (.iload_n 2, 1) := by decide +kernel
theorem dX0_make_37 : decode cX0_make 37 = .ok (.iand, 1) := by decide +kernel
theorem dX0_make_38 : decode cX0_make 38 = .ok (.ifCond .eq 7, 3) := by decide +kernel
theorem dX0_make_41 : decode cX0_make 41 = .ok (.aload_n 0, 1) := by decide +kernel
theorem dX0_make_42 : decode cX0_make 42 = .ok (.invokevirtual 54, 3) := by decide +kernel
theorem dX0_make_45 : decode cX0_make 45 = .ok (.iload_n 2, 1) := by decide +kernel
theorem dX0_make_46 : decode cX0_make 46 = .ok (.iconst 1, 1) := by decide +kernel
theorem dX0_make_47 : decode cX0_make 47 = .ok (.ishr, 1) := by decide +kernel
theorem dX0_make_48 : decode cX0_make 48 = .ok (.istore_n 2, 1) := by decide +kernel
theorem dX0_make_49 : decode cX0_make 49 = .ok (.goto (-24), 3) := by decide +kernel
theorem dX0_make_52 : decode cX0_make 52 = .ok (.aload_n 0, 1) := by decide +kernel
theorem dX0_make_53 : decode cX0_make 53 = .ok (.iconst 1, 1) := by decide +kernel
theorem dX0_make_54 : decode cX0_make 54 = .ok (.putfield 37, 3) := by decide +kernel
theorem dX0_make_57 : decode cX0_make 57 = .ok (.return_, 1) := by decide +kernel
theorem dX3_way_0 : decode cX3_way 0 = .ok (.iload_n 1, 1) := by decide +kernel
theorem dX3_way_1 : decode cX3_way 1 = .ok (.ifCond .lt 25, 3) := by decide +kernel
theorem dX3_way_4 : decode cX3_way 4 = .ok (.iload_n 1, 1) := by decide +kernel
theorem dX3_way_5 : decode cX3_way 5 = .ok (.aload_n 0, 1) := by decide +kernel
theorem dX3_way_6 : decode cX3_way 6 = .ok (.getfield 18, 3) := by decide +kernel
theorem dX3_way_9 : decode cX3_way 9 = .ok (.arraylength, 1) := by decide +kernel
theorem dX3_way_10 : decode cX3_way 10 = .ok (.if_icmp .ge 16, 3) := by decide +kernel
theorem dX3_way_13 : decode cX3_way 13 = .ok (.aload_n 0, 1) := by decide +kernel
theorem dX3_way_14 : decode cX3_way 14 = .ok (.getfield 18, 3) := by decide +kernel
theorem dX3_way_17 : decode cX3_way 17 = .ok (.iload_n 1, 1) := by decide +kernel
theorem dX3_way_18 : decode cX3_way 18 = .ok (.iaload, 1) := by decide +kernel
theorem dX3_way_19 : decode cX3_way 19 = .ok (.sipush 16383, 3) := by decide +kernel
theorem dX3_way_22 : decode cX3_way 22 = .ok (.iand, 1) := by decide +kernel
theorem dX3_way_23 : decode cX3_way 23 = .ok (.goto 4, 3) := by decide +kernel
theorem dX3_way_26 : decode cX3_way 26 = .ok (.iconst 0, 1) := by decide +kernel
theorem dX3_way_27 : decode cX3_way 27 = .ok (.ireturn, 1) := by decide +kernel
theorem dX3_pointing_0 : decode cX3_pointing 0 = .ok (.iconst 0, 1) := by decide +kernel
theorem dX3_pointing_1 : decode cX3_pointing 1 = .ok (.istore 4, 2) := by decide +kernel
theorem dX3_pointing_3 : decode cX3_pointing 3 = .ok (.iconst 0, 1) := by decide +kernel
theorem dX3_pointing_4 : decode cX3_pointing 4 = .ok (.istore 5, 2) := by decide +kernel
theorem dX3_pointing_6 : decode cX3_pointing 6 = .ok (.iload 5, 2) := by decide +kernel
theorem dX3_pointing_8 : decode cX3_pointing 8 = .ok (.aload_n 0, 1) := by decide +kernel
theorem dX3_pointing_9 : decode cX3_pointing 9 = .ok (.getfield 34, 3) := by decide +kernel
theorem dX3_pointing_12 : decode cX3_pointing 12 = .ok (.if_icmp .ge 27, 3) := by decide +kernel
theorem dX3_pointing_15 : decode cX3_pointing 15 = .ok (.aload_n 1, 1) := by decide +kernel
theorem dX3_pointing_16 : decode cX3_pointing 16 = .ok (.aload_n 0, 1) := by decide +kernel
theorem dX3_pointing_17 : decode cX3_pointing 17 = .ok (.iload 5, 2) := by decide +kernel
theorem dX3_pointing_19 : decode cX3_pointing 19 = .ok (.invokevirtual 92, 3) := by decide +kernel
theorem dX3_pointing_22 : decode cX3_pointing 22 = .ok (.iload_n 2, 1) := by decide +kernel
theorem dX3_pointing_23 : decode cX3_pointing 23 = .ok (.invokevirtual 96, 3) := by decide +kernel
theorem dX3_pointing_26 : decode cX3_pointing 26 = .ok (.iload_n 3, 1) := by decide +kernel
theorem dX3_pointing_27 : decode cX3_pointing 27 = .ok (.if_icmp .ne 6, 3) := by decide +kernel
theorem dX3_pointing_30 : decode cX3_pointing 30 = .ok (.iinc 4 1, 3) := by decide +kernel
theorem dX3_pointing_33 : decode cX3_pointing 33 = .ok (.iinc 5 1, 3) := by decide +kernel
theorem dX3_pointing_36 : decode cX3_pointing 36 = .ok (.goto (-30), 3) := by decide +kernel
theorem dX3_pointing_39 : decode cX3_pointing 39 = .ok (.iload 4, 2) := by decide +kernel
theorem dX3_pointing_41 : decode cX3_pointing 41 = .ok (.ireturn, 1) := by decide +kernel
theorem dX3_sure_0 : decode cX3_sure 0 = .ok (.aload_n 0, 1) := by decide +kernel
theorem dX3_sure_1 : decode cX3_sure 1 = .ok (.getfield 34, 3) := by decide +kernel
theorem dX3_sure_4 : decode cX3_sure 4 = .ok (.ifCond .eq 14, 3) := by decide +kernel
theorem dX3_sure_7 : decode cX3_sure 7 = .ok (.aload_n 1, 1) := by decide +kernel
theorem dX3_sure_8 : decode cX3_sure 8 = .ok (.getfield 55, 3) := by decide +kernel
theorem dX3_sure_11 : decode cX3_sure 11 = .ok (.iload_n 2, 1) := by decide +kernel
theorem dX3_sure_12 : decode cX3_sure 12 = .ok (.invokevirtual 58, 3) := by decide +kernel
theorem dX3_sure_15 : decode cX3_sure 15 = .ok (.ifCond .ne 5, 3) := by decide +kernel
theorem dX3_sure_18 : decode cX3_sure 18 = .ok (.iconst (-1), 1) := by decide +kernel
theorem dX3_sure_19 : decode cX3_sure 19 = .ok (.ireturn, 1) := by decide +kernel
theorem dX3_sure_20 : decode cX3_sure 20 = .ok (.aload_n 1, 1) := by decide +kernel
theorem dX3_sure_21 : decode cX3_sure 21 = .ok (.aload_n 0, 1) := by decide +kernel
theorem dX3_sure_22 : decode cX3_sure 22 = .ok (.iconst 0, 1) := by decide +kernel
theorem dX3_sure_23 : decode cX3_sure 23 = .ok (.invokevirtual 92, 3) := by decide +kernel
theorem dX3_sure_26 : decode cX3_sure 26 = .ok (.iload_n 2, 1) := by decide +kernel
theorem dX3_sure_27 : decode cX3_sure 27 = .ok (.invokevirtual 96, 3) := by decide +kernel
theorem dX3_sure_30 : decode cX3_sure 30 = .ok (.istore_n 3, 1) := by decide +kernel
theorem dX3_sure_31 : decode cX3_sure 31 = .ok (.aload_n 0, 1) := by decide +kernel
theorem dX3_sure_32 : decode cX3_sure 32 = .ok (.aload_n 1, 1) := by decide +kernel
theorem dX3_sure_33 : decode cX3_sure 33 = .ok (.iload_n 2, 1) := by decide +kernel
theorem dX3_sure_34 : decode cX3_sure 34 = .ok (.iload_n 3, 1) := by decide +kernel
theorem dX3_sure_35 : decode cX3_sure 35 = .ok (.invokevirtual 99, 3) := by decide +kernel
theorem dX3_sure_38 : decode cX3_sure 38 = .ok (.aload_n 0, 1) := by decide +kernel
theorem dX3_sure_39 : decode cX3_sure 39 = .ok (.getfield 34, 3) := by decide +kernel
theorem dX3_sure_42 : decode cX3_sure 42 = .ok (.if_icmp .ne 7, 3) := by decide +kernel
theorem dX3_sure_45 : decode cX3_sure 45 = .ok (.iload_n 3, 1) := by decide +kernel
theorem dX3_sure_46 : decode cX3_sure 46 = .ok (.goto 4, 3) := by decide +kernel
theorem dX3_sure_49 : decode cX3_sure 49 = .ok (.iconst (-1), 1) := by decide +kernel
theorem dX3_sure_50 : decode cX3_sure 50 = .ok (.ireturn, 1) := by decide +kernel
theorem dX3_isSo_0 : decode cX3_isSo 0 = .ok (.aload_n 0, 1) := by decide +kernel
theorem dX3_isSo_1 : decode cX3_isSo 1 = .ok (.iload_n 1, 1) := by decide +kernel
theorem dX3_isSo_2 : decode cX3_isSo 2 = .ok (.iload_n 2, 1) := by decide +kernel
theorem dX3_isSo_3 : decode cX3_isSo 3 = .ok (.invokevirtual 86, 3) := by decide +kernel
theorem dX3_isSo_6 : decode cX3_isSo 6 = .ok (.istore 4, 2) := by decide +kernel
theorem dX3_isSo_8 : decode cX3_isSo 8 = .ok (.aload_n 0, 1) := by decide +kernel
theorem dX3_isSo_9 : decode cX3_isSo 9 = .ok (.getfield 55, 3) := by decide +kernel
theorem dX3_isSo_12 : decode cX3_isSo 12 = .ok (.iload 4, 2) := by decide +kernel
theorem dX3_isSo_14 : decode cX3_isSo 14 = .ok (.invokevirtual 89, 3) := by decide +kernel
theorem dX3_isSo_17 : decode cX3_isSo 17 = .ok (.ifCond .eq 17, 3) := by decide +kernel
theorem dX3_isSo_20 : decode cX3_isSo 20 = .ok (.iload 4, 2) := by decide +kernel
theorem dX3_isSo_22 : decode cX3_isSo 22 = .ok (.iload_n 3, 1) := by decide +kernel
theorem dX3_isSo_23 : decode cX3_isSo 23 = .ok (.if_icmp .ne 7, 3) := by decide +kernel
theorem dX3_isSo_26 : decode cX3_isSo 26 = .ok (.iconst 1, 1) := by decide +kernel
theorem dX3_isSo_27 : decode cX3_isSo 27 = .ok (.goto 17, 3) := by decide +kernel
theorem dX3_isSo_30 : decode cX3_isSo 30 = .ok (.iconst 0, 1) := by decide +kernel
theorem dX3_isSo_31 : decode cX3_isSo 31 = .ok (.goto 13, 3) := by decide +kernel
theorem dX3_isSo_34 : decode cX3_isSo 34 = .ok (.iload_n 3, 1) := by decide +kernel
theorem dX3_isSo_35 : decode cX3_isSo 35 = .ok (.iconst (-1), 1) := by decide +kernel
theorem dX3_isSo_36 : decode cX3_isSo 36 = .ok (.if_icmp .ne 7, 3) := by decide +kernel
theorem dX3_isSo_39 : decode cX3_isSo 39 = .ok (.iconst 1, 1) := by decide +kernel
theorem dX3_isSo_40 : decode cX3_isSo 40 = .ok (.goto 4, 3) := by decide +kernel
theorem dX3_isSo_43 : decode cX3_isSo 43 = .ok (.iconst 0, 1) := by decide +kernel
theorem dX3_isSo_44 : decode cX3_isSo 44 = .ok (.ireturn, 1) := by decide +kernel
theorem dX3_mostTogether_0 : decode cX3_mostTogether 0 = .ok (.iconst 0, 1) := by decide +kernel
theorem dX3_mostTogether_1 : decode cX3_mostTogether 1 = .ok (.istore_n 3, 1) := by decide +kernel
theorem dX3_mostTogether_2 : decode cX3_mostTogether 2 = .ok (.iload_n 3, 1) := by decide +kernel
theorem dX3_mostTogether_3 : decode cX3_mostTogether 3 = .ok (.bipush 7, 2) := by decide +kernel
theorem dX3_mostTogether_5 : decode cX3_mostTogether 5 = .ok (.if_icmp .ge 16, 3) := by decide +kernel
theorem dX3_mostTogether_8 : decode cX3_mostTogether 8 = .ok (.aload_n 0, 1) := by decide +kernel
theorem dX3_mostTogether_9 : decode cX3_mostTogether 9 = .ok (.getfield 22, 3) := by decide +kernel
theorem dX3_mostTogether_12 : decode cX3_mostTogether 12 = .ok (.iload_n 3, 1) := by decide +kernel
theorem dX3_mostTogether_13 : decode cX3_mostTogether 13 = .ok (.iconst 0, 1) := by decide +kernel
theorem dX3_mostTogether_14 : decode cX3_mostTogether 14 = .ok (.iastore, 1) := by decide +kernel
theorem dX3_mostTogether_15 : decode cX3_mostTogether 15 = .ok (.iinc 3 1, 3) := by decide +kernel
theorem dX3_mostTogether_18 : decode cX3_mostTogether 18 = .ok (.goto (-16), 3) := by decide +kernel
theorem dX3_mostTogether_21 : decode cX3_mostTogether 21 = .ok (.iconst 0, 1) := by decide +kernel
theorem dX3_mostTogether_22 : decode cX3_mostTogether 22 = .ok (.istore_n 3, 1) := by decide +kernel
theorem dX3_mostTogether_23 : decode cX3_mostTogether 23 = .ok (.iconst 0, 1) := by decide +kernel
theorem dX3_mostTogether_24 : decode cX3_mostTogether 24 = .ok (.istore 4, 2) := by decide +kernel
theorem dX3_mostTogether_26 : decode cX3_mostTogether 26 = .ok (.iload 4, 2) := by decide +kernel
theorem dX3_mostTogether_28 : decode cX3_mostTogether 28 = .ok (.aload_n 0, 1) := by decide +kernel
theorem dX3_mostTogether_29 : decode cX3_mostTogether 29 = .ok (.getfield 34, 3) := by decide +kernel
theorem dX3_mostTogether_32 : decode cX3_mostTogether 32 = .ok (.if_icmp .ge 66, 3) := by decide +kernel
theorem dX3_mostTogether_35 : decode cX3_mostTogether 35 = .ok (.iload 4, 2) := by decide +kernel
theorem dX3_mostTogether_37 : decode cX3_mostTogether 37 = .ok (.aload_n 0, 1) := by decide +kernel
theorem dX3_mostTogether_38 : decode cX3_mostTogether 38 = .ok (.getfield 18, 3) := by decide +kernel
theorem dX3_mostTogether_41 : decode cX3_mostTogether 41 = .ok (.arraylength, 1) := by decide +kernel
theorem dX3_mostTogether_42 : decode cX3_mostTogether 42 = .ok (.if_icmp .ge 56, 3) := by decide +kernel
theorem dX3_mostTogether_45 : decode cX3_mostTogether 45 = .ok (.aload_n 1, 1) := by decide +kernel
theorem dX3_mostTogether_46 : decode cX3_mostTogether 46 = .ok (.aload_n 0, 1) := by decide +kernel
theorem dX3_mostTogether_47 : decode cX3_mostTogether 47 = .ok (.getfield 18, 3) := by decide +kernel
theorem dX3_mostTogether_50 : decode cX3_mostTogether 50 = .ok (.iload 4, 2) := by decide +kernel
theorem dX3_mostTogether_52 : decode cX3_mostTogether 52 = .ok (.iaload, 1) := by decide +kernel
theorem dX3_mostTogether_53 : decode cX3_mostTogether 53 = .ok (.bipush 14, 2) := by decide +kernel
theorem dX3_mostTogether_55 : decode cX3_mostTogether 55 = .ok (.ishr, 1) := by decide +kernel
theorem dX3_mostTogether_56 : decode cX3_mostTogether 56 = .ok (.iload_n 2, 1) := by decide +kernel
theorem dX3_mostTogether_57 : decode cX3_mostTogether 57 = .ok (.invokevirtual 86, 3) := by decide +kernel
theorem dX3_mostTogether_60 : decode cX3_mostTogether 60 = .ok (.istore 5, 2) := by decide +kernel
theorem dX3_mostTogether_62 : decode cX3_mostTogether 62 = .ok (.iload 5, 2) := by decide +kernel
theorem dX3_mostTogether_64 : decode cX3_mostTogether 64 = .ok (.bipush 7, 2) := by decide +kernel
theorem dX3_mostTogether_66 : decode cX3_mostTogether 66 = .ok (.if_icmp .ge 26, 3) := by decide +kernel
theorem dX3_mostTogether_69 : decode cX3_mostTogether 69 = .ok (.aload_n 0, 1) := by decide +kernel
theorem dX3_mostTogether_70 : decode cX3_mostTogether 70 = .ok (.getfield 22, 3) := by decide +kernel
theorem dX3_mostTogether_73 : decode cX3_mostTogether 73 = .ok (.iload 5, 2) := by decide +kernel
theorem dX3_mostTogether_75 : decode cX3_mostTogether 75 = .ok (.dup2, 1) := by decide +kernel
theorem dX3_mostTogether_76 : decode cX3_mostTogether 76 = .ok (.iaload, 1) := by decide +kernel
theorem dX3_mostTogether_77 : decode cX3_mostTogether 77 = .ok (.iconst 1, 1) := by decide +kernel
theorem dX3_mostTogether_78 : decode cX3_mostTogether 78 = .ok (.iadd, 1) := by decide +kernel
theorem dX3_mostTogether_79 : decode cX3_mostTogether 79 = .ok (.iastore, 1) := by decide +kernel
theorem dX3_mostTogether_80 : decode cX3_mostTogether 80 = .ok (.iload_n 3, 1) := by decide +kernel
theorem dX3_mostTogether_81 : decode cX3_mostTogether 81 = .ok (.aload_n 0, 1) := by decide +kernel
theorem dX3_mostTogether_82 : decode cX3_mostTogether 82 = .ok (.getfield 22, 3) := by decide +kernel
theorem dX3_mostTogether_85 : decode cX3_mostTogether 85 = .ok (.iload 5, 2) := by decide +kernel
theorem dX3_mostTogether_87 : decode cX3_mostTogether 87 = .ok (.iaload, 1) := by decide +kernel
theorem dX3_mostTogether_88 : decode cX3_mostTogether 88 = .ok (.invokestatic 83, 3) := by decide +kernel
theorem dX3_mostTogether_91 : decode cX3_mostTogether 91 = .ok (.istore_n 3, 1) := by decide +kernel
theorem dX3_mostTogether_92 : decode cX3_mostTogether 92 = .ok (.iinc 4 1, 3) := by decide +kernel
theorem dX3_mostTogether_95 : decode cX3_mostTogether 95 = .ok (.goto (-69), 3) := by decide +kernel
theorem dX3_mostTogether_98 : decode cX3_mostTogether 98 = .ok (.iload_n 3, 1) := by decide +kernel
theorem dX3_mostTogether_99 : decode cX3_mostTogether 99 = .ok (.ireturn, 1) := by decide +kernel
theorem dX3_ask_0 : decode cX3_ask 0 = .ok (.iconst (-1), 1) := by decide +kernel
theorem dX3_ask_1 : decode cX3_ask 1 = .ok (.istore_n 2, 1) := by decide +kernel
theorem dX3_ask_2 : decode cX3_ask 2 = .ok (.iconst 0, 1) := by decide +kernel
theorem dX3_ask_3 : decode cX3_ask 3 = .ok (.istore_n 3, 1) := by decide +kernel
theorem dX3_ask_4 : decode cX3_ask 4 = .ok (.iconst 0, 1) := by decide +kernel
theorem dX3_ask_5 : decode cX3_ask 5 = .ok (.istore 4, 2) := by decide +kernel
theorem dX3_ask_7 : decode cX3_ask 7 = .ok (.iload 4, 2) := by decide +kernel
theorem dX3_ask_9 : decode cX3_ask 9 = .ok (.aload_n 1, 1) := by decide +kernel
theorem dX3_ask_10 : decode cX3_ask 10 = .ok (.getfield 55, 3) := by decide +kernel
theorem dX3_ask_13 : decode cX3_ask 13 = .ok (.getfield 103, 3) := by decide +kernel
theorem dX3_ask_16 : decode cX3_ask 16 = .ok (.if_icmp .ge 54, 3) := by decide +kernel
theorem dX3_ask_19 : decode cX3_ask 19 = .ok (.aload_n 0, 1) := by decide +kernel
theorem dX3_ask_20 : decode cX3_ask 20 = .ok (.getfield 34, 3) := by decide +kernel
theorem dX3_ask_23 : decode cX3_ask 23 = .ok (.ifCond .le 47, 3) := by decide +kernel
theorem dX3_ask_26 : decode cX3_ask 26 = .ok (.aload_n 1, 1) := by decide +kernel
theorem dX3_ask_27 : decode cX3_ask 27 = .ok (.getfield 55, 3) := by decide +kernel
theorem dX3_ask_30 : decode cX3_ask 30 = .ok (.iload 4, 2) := by decide +kernel
theorem dX3_ask_32 : decode cX3_ask 32 = .ok (.invokevirtual 89, 3) := by decide +kernel
theorem dX3_ask_35 : decode cX3_ask 35 = .ok (.ifCond .ne 29, 3) := by decide +kernel
theorem dX3_ask_38 : decode cX3_ask 38 = .ok (.aload_n 0, 1) := by decide +kernel
theorem dX3_ask_39 : decode cX3_ask 39 = .ok (.aload_n 1, 1) := by decide +kernel
theorem dX3_ask_40 : decode cX3_ask 40 = .ok (.iload 4, 2) := by decide +kernel
theorem dX3_ask_42 : decode cX3_ask 42 = .ok (.invokevirtual 106, 3) := by decide +kernel
theorem dX3_ask_45 : decode cX3_ask 45 = .ok (.istore 5, 2) := by decide +kernel
theorem dX3_ask_47 : decode cX3_ask 47 = .ok (.iload_n 2, 1) := by decide +kernel
theorem dX3_ask_48 : decode cX3_ask 48 = .ok (.iconst (-1), 1) := by decide +kernel
theorem dX3_ask_49 : decode cX3_ask 49 = .ok (.if_icmp .eq 9, 3) := by decide +kernel
theorem dX3_ask_52 : decode cX3_ask 52 = .ok (.iload 5, 2) := by decide +kernel
theorem dX3_ask_54 : decode cX3_ask 54 = .ok (.iload_n 3, 1) := by decide +kernel
theorem dX3_ask_55 : decode cX3_ask 55 = .ok (.if_icmp .ge 9, 3) := by decide +kernel
theorem dX3_ask_58 : decode cX3_ask 58 = .ok (.iload 4, 2) := by decide +kernel
theorem dX3_ask_60 : decode cX3_ask 60 = .ok (.istore_n 2, 1) := by decide +kernel
theorem dX3_ask_61 : decode cX3_ask 61 = .ok (.iload 5, 2) := by decide +kernel
theorem dX3_ask_63 : decode cX3_ask 63 = .ok (.istore_n 3, 1) := by decide +kernel
theorem dX3_ask_64 : decode cX3_ask 64 = .ok (.iinc 4 1, 3) := by decide +kernel
theorem dX3_ask_67 : decode cX3_ask 67 = .ok (.goto (-60), 3) := by decide +kernel
theorem dX3_ask_70 : decode cX3_ask 70 = .ok (.iload_n 2, 1) := by decide +kernel
theorem dX3_ask_71 : decode cX3_ask 71 = .ok (.ireturn, 1) := by decide +kernel
theorem dX3_grow_0 : decode cX3_grow 0 = .ok (.aload_n 0, 1) := by decide +kernel
theorem dX3_grow_1 : decode cX3_grow 1 = .ok (.getfield 18, 3) := by decide +kernel
theorem dX3_grow_4 : decode cX3_grow 4 = .ok (.arraylength, 1) := by decide +kernel
theorem dX3_grow_5 : decode cX3_grow 5 = .ok (.iload_n 1, 1) := by decide +kernel
theorem dX3_grow_6 : decode cX3_grow 6 = .ok (.if_icmp .lt 4, 3) := by decide +kernel
theorem dX3_grow_9 : decode cX3_grow 9 = .ok (.return_, 1) := by decide +kernel
theorem dX3_grow_10 : decode cX3_grow 10 = .ok (.bipush 16, 2) := by decide +kernel
theorem dX3_grow_12 : decode cX3_grow 12 = .ok (.istore_n 2, 1) := by decide +kernel
theorem dX3_grow_13 : decode cX3_grow 13 = .ok (.iload_n 2, 1) := by decide +kernel
theorem dX3_grow_14 : decode cX3_grow 14 = .ok (.iload_n 1, 1) := by decide +kernel
theorem dX3_grow_15 : decode cX3_grow 15 = .ok (.if_icmp .ge 17, 3) := by decide +kernel
theorem dX3_grow_18 : decode cX3_grow 18 = .ok (.iload_n 2, 1) := by decide +kernel
theorem dX3_grow_19 : decode cX3_grow 19 = .ok (.sipush 16383, 3) := by decide +kernel
theorem dX3_grow_22 : decode cX3_grow 22 = .ok (.if_icmp .gt 10, 3) := by decide +kernel
theorem dX3_grow_25 : decode cX3_grow 25 = .ok (.iload_n 2, 1) := by decide +kernel
theorem dX3_grow_26 : decode cX3_grow 26 = .ok (.iconst 2, 1) := by decide +kernel
theorem dX3_grow_27 : decode cX3_grow 27 = .ok (.imul, 1) := by decide +kernel
theorem dX3_grow_28 : decode cX3_grow 28 = .ok (.istore_n 2, 1) := by decide +kernel
theorem dX3_grow_29 : decode cX3_grow 29 = .ok (.goto (-16), 3) := by decide +kernel
theorem dX3_grow_32 : decode cX3_grow 32 = .ok (.aload_n 0, 1) := by decide +kernel
theorem dX3_grow_33 : decode cX3_grow 33 = .ok (.iload_n 2, 1) := by decide +kernel
theorem dX3_grow_34 : decode cX3_grow 34 = .ok (.newarray .int, 2) := by decide +kernel
theorem dX3_grow_36 : decode cX3_grow 36 = .ok (.putfield 18, 3) := by decide +kernel
theorem dX3_grow_39 : decode cX3_grow 39 = .ok (.return_, 1) := by decide +kernel
theorem dX3_tryWay_0 : decode cX3_tryWay 0 = .ok (.iload_n 3, 1) := by decide +kernel
theorem dX3_tryWay_1 : decode cX3_tryWay 1 = .ok (.istore 4, 2) := by decide +kernel
theorem dX3_tryWay_3 : decode cX3_tryWay 3 = .ok (.iconst 0, 1) := by decide +kernel
theorem dX3_tryWay_4 : decode cX3_tryWay 4 = .ok (.istore 5, 2) := by decide +kernel
theorem dX3_tryWay_6 : decode cX3_tryWay 6 = .ok (.iconst 0, 1) := by decide +kernel
theorem dX3_tryWay_7 : decode cX3_tryWay 7 = .ok (.istore 6, 2) := by decide +kernel
theorem dX3_tryWay_9 : decode cX3_tryWay 9 = .ok (.iload 6, 2) := by decide +kernel
theorem dX3_tryWay_11 : decode cX3_tryWay 11 = .ok (.aload_n 2, 1) := by decide +kernel
theorem dX3_tryWay_12 : decode cX3_tryWay 12 = .ok (.getfield 47, 3) := by decide +kernel
theorem dX3_tryWay_15 : decode cX3_tryWay 15 = .ok (.if_icmp .ge 79, 3) := by decide +kernel
theorem dX3_tryWay_18 : decode cX3_tryWay 18 = .ok (.iload 6, 2) := by decide +kernel
theorem dX3_tryWay_20 : decode cX3_tryWay 20 = .ok (.bipush 8, 2) := by decide +kernel
theorem dX3_tryWay_22 : decode cX3_tryWay 22 = .ok (.if_icmp .ge 72, 3) := by decide +kernel
theorem dX3_tryWay_25 : decode cX3_tryWay 25 = .ok (.aload_n 2, 1) := by decide +kernel
theorem dX3_tryWay_26 : decode cX3_tryWay 26 = .ok (.getfield 52, 3) := by decide +kernel
theorem dX3_tryWay_29 : decode cX3_tryWay 29 = .ok (.iload 6, 2) := by decide +kernel
theorem dX3_tryWay_31 : decode cX3_tryWay 31 = .ok (.iaload, 1) := by decide +kernel
theorem dX3_tryWay_32 : decode cX3_tryWay 32 = .ok (.istore 7, 2) := by decide +kernel
theorem dX3_tryWay_34 : decode cX3_tryWay 34 = .ok (.aload_n 1, 1) := by decide +kernel
theorem dX3_tryWay_35 : decode cX3_tryWay 35 = .ok (.getfield 55, 3) := by decide +kernel
theorem dX3_tryWay_38 : decode cX3_tryWay 38 = .ok (.iload 7, 2) := by decide +kernel
theorem dX3_tryWay_40 : decode cX3_tryWay 40 = .ok (.invokevirtual 58, 3) := by decide +kernel
theorem dX3_tryWay_43 : decode cX3_tryWay 43 = .ok (.ifCond .eq 21, 3) := by decide +kernel
theorem dX3_tryWay_46 : decode cX3_tryWay 46 = .ok (.aload_n 1, 1) := by decide +kernel
theorem dX3_tryWay_47 : decode cX3_tryWay 47 = .ok (.iload 4, 2) := by decide +kernel
theorem dX3_tryWay_49 : decode cX3_tryWay 49 = .ok (.iload 7, 2) := by decide +kernel
theorem dX3_tryWay_51 : decode cX3_tryWay 51 = .ok (.aload_n 2, 1) := by decide +kernel
theorem dX3_tryWay_52 : decode cX3_tryWay 52 = .ok (.getfield 64, 3) := by decide +kernel
theorem dX3_tryWay_55 : decode cX3_tryWay 55 = .ok (.iload 6, 2) := by decide +kernel
theorem dX3_tryWay_57 : decode cX3_tryWay 57 = .ok (.iaload, 1) := by decide +kernel
theorem dX3_tryWay_58 : decode cX3_tryWay 58 = .ok (.invokestatic 67, 3) := by decide +kernel
theorem dX3_tryWay_61 : decode cX3_tryWay 61 = .ok (.ifCond .ne 4, 3) := by decide +kernel
theorem dX3_tryWay_64 : decode cX3_tryWay 64 = .ok (.return_, 1) := by decide +kernel
theorem dX3_tryWay_65 : decode cX3_tryWay 65 = .ok (.iload 5, 2) := by decide +kernel
theorem dX3_tryWay_67 : decode cX3_tryWay 67 = .ok (.aload_n 1, 1) := by decide +kernel
theorem dX3_tryWay_68 : decode cX3_tryWay 68 = .ok (.iload 4, 2) := by decide +kernel
theorem dX3_tryWay_70 : decode cX3_tryWay 70 = .ok (.iload 7, 2) := by decide +kernel
theorem dX3_tryWay_72 : decode cX3_tryWay 72 = .ok (.invokevirtual 71, 3) := by decide +kernel
theorem dX3_tryWay_75 : decode cX3_tryWay 75 = .ok (.iadd, 1) := by decide +kernel
theorem dX3_tryWay_76 : decode cX3_tryWay 76 = .ok (.istore 5, 2) := by decide +kernel
theorem dX3_tryWay_78 : decode cX3_tryWay 78 = .ok (.aload_n 1, 1) := by decide +kernel
theorem dX3_tryWay_79 : decode cX3_tryWay 79 = .ok (.iload 4, 2) := by decide +kernel
theorem dX3_tryWay_81 : decode cX3_tryWay 81 = .ok (.iload 7, 2) := by decide +kernel
theorem dX3_tryWay_83 : decode cX3_tryWay 83 = .ok (.invokevirtual 75, 3) := by decide +kernel
theorem dX3_tryWay_86 : decode cX3_tryWay 86 = .ok (.istore 4, 2) := by decide +kernel
theorem dX3_tryWay_88 : decode cX3_tryWay 88 = .ok (.iinc 6 1, 3) := by decide +kernel
theorem dX3_tryWay_91 : decode cX3_tryWay 91 = .ok (.goto (-82), 3) := by decide +kernel
theorem dX3_tryWay_94 : decode cX3_tryWay 94 = .ok (.aload_n 0, 1) := by decide +kernel
theorem dX3_tryWay_95 : decode cX3_tryWay 95 = .ok (.getfield 34, 3) := by decide +kernel
theorem dX3_tryWay_98 : decode cX3_tryWay 98 = .ok (.aload_n 0, 1) := by decide +kernel
theorem dX3_tryWay_99 : decode cX3_tryWay 99 = .ok (.getfield 18, 3) := by decide +kernel
theorem dX3_tryWay_102 : decode cX3_tryWay 102 = .ok (.arraylength, 1) := by decide +kernel
theorem dX3_tryWay_103 : decode cX3_tryWay 103 = .ok (.if_icmp .ge 67, 3) := by decide +kernel
theorem dX3_tryWay_106 : decode cX3_tryWay 106 = .ok (.aload_n 0, 1) := by decide +kernel
theorem dX3_tryWay_107 : decode cX3_tryWay 107 = .ok (.aload_n 0, 1) := by decide +kernel
theorem dX3_tryWay_108 : decode cX3_tryWay 108 = .ok (.getfield 34, 3) := by decide +kernel
theorem dX3_tryWay_111 : decode cX3_tryWay 111 = .ok (.ifCond .ne 8, 3) := by decide +kernel
theorem dX3_tryWay_114 : decode cX3_tryWay 114 = .ok (.iload 5, 2) := by decide +kernel
theorem dX3_tryWay_116 : decode cX3_tryWay 116 = .ok (.goto 12, 3) := by decide +kernel
theorem dX3_tryWay_119 : decode cX3_tryWay 119 = .ok (.aload_n 0, 1) := by decide +kernel
theorem dX3_tryWay_120 : decode cX3_tryWay 120 = .ok (.getfield 37, 3) := by decide +kernel
theorem dX3_tryWay_123 : decode cX3_tryWay 123 = .ok (.iload 5, 2) := by decide +kernel
theorem dX3_tryWay_125 : decode cX3_tryWay 125 = .ok (.invokestatic 78, 3) := by decide +kernel
theorem dX3_tryWay_128 : decode cX3_tryWay 128 = .ok (.putfield 37, 3) := by decide +kernel
theorem dX3_tryWay_131 : decode cX3_tryWay 131 = .ok (.aload_n 0, 1) := by decide +kernel
theorem dX3_tryWay_132 : decode cX3_tryWay 132 = .ok (.aload_n 0, 1) := by decide +kernel
theorem dX3_tryWay_133 : decode cX3_tryWay 133 = .ok (.getfield 40, 3) := by decide +kernel
theorem dX3_tryWay_136 : decode cX3_tryWay 136 = .ok (.iload 5, 2) := by decide +kernel
theorem dX3_tryWay_138 : decode cX3_tryWay 138 = .ok (.invokestatic 83, 3) := by decide +kernel
theorem dX3_tryWay_141 : decode cX3_tryWay 141 = .ok (.putfield 40, 3) := by decide +kernel
theorem dX3_tryWay_144 : decode cX3_tryWay 144 = .ok (.aload_n 0, 1) := by decide +kernel
theorem dX3_tryWay_145 : decode cX3_tryWay 145 = .ok (.getfield 18, 3) := by decide +kernel
theorem dX3_tryWay_148 : decode cX3_tryWay 148 = .ok (.aload_n 0, 1) := by decide +kernel
theorem dX3_tryWay_149 : decode cX3_tryWay 149 = .ok (.getfield 34, 3) := by decide +kernel
theorem dX3_tryWay_152 : decode cX3_tryWay 152 = .ok (.iload 4, 2) := by decide +kernel
theorem dX3_tryWay_154 : decode cX3_tryWay 154 = .ok (.bipush 14, 2) := by decide +kernel
theorem dX3_tryWay_156 : decode cX3_tryWay 156 = .ok (.ishl, 1) := by decide +kernel
theorem dX3_tryWay_157 : decode cX3_tryWay 157 = .ok (.iload_n 3, 1) := by decide +kernel
theorem dX3_tryWay_158 : decode cX3_tryWay 158 = .ok (.iadd, 1) := by decide +kernel
theorem dX3_tryWay_159 : decode cX3_tryWay 159 = .ok (.iastore, 1) := by decide +kernel
theorem dX3_tryWay_160 : decode cX3_tryWay 160 = .ok (.aload_n 0, 1) := by decide +kernel
theorem dX3_tryWay_161 : decode cX3_tryWay 161 = .ok (.dup, 1) := by decide +kernel
theorem dX3_tryWay_162 : decode cX3_tryWay 162 = .ok (.getfield 34, 3) := by decide +kernel
theorem dX3_tryWay_165 : decode cX3_tryWay 165 = .ok (.iconst 1, 1) := by decide +kernel
theorem dX3_tryWay_166 : decode cX3_tryWay 166 = .ok (.iadd, 1) := by decide +kernel
theorem dX3_tryWay_167 : decode cX3_tryWay 167 = .ok (.putfield 34, 3) := by decide +kernel
theorem dX3_tryWay_170 : decode cX3_tryWay 170 = .ok (.return_, 1) := by decide +kernel
theorem dX3_find_0 : decode cX3_find 0 = .ok (.aload_n 0, 1) := by decide +kernel
theorem dX3_find_1 : decode cX3_find 1 = .ok (.aload_n 1, 1) := by decide +kernel
theorem dX3_find_2 : decode cX3_find 2 = .ok (.getfield 25, 3) := by decide +kernel
theorem dX3_find_5 : decode cX3_find 5 = .ok (.invokevirtual 30, 3) := by decide +kernel
theorem dX3_find_8 : decode cX3_find 8 = .ok (.aload_n 0, 1) := by decide +kernel
theorem dX3_find_9 : decode cX3_find 9 = .ok (.iconst 0, 1) := by decide +kernel
theorem dX3_find_10 : decode cX3_find 10 = .ok (.putfield 34, 3) := by decide +kernel
theorem dX3_find_13 : decode cX3_find 13 = .ok (.aload_n 0, 1) := by decide +kernel
theorem dX3_find_14 : decode cX3_find 14 = .ok (.iconst 0, 1) := by decide +kernel
theorem dX3_find_15 : decode cX3_find 15 = .ok (.putfield 37, 3) := by decide +kernel
theorem dX3_find_18 : decode cX3_find 18 = .ok (.aload_n 0, 1) := by decide +kernel
theorem dX3_find_19 : decode cX3_find 19 = .ok (.iconst 0, 1) := by decide +kernel
theorem dX3_find_20 : decode cX3_find 20 = .ok (.putfield 40, 3) := by decide +kernel
theorem dX3_find_23 : decode cX3_find 23 = .ok (.iconst 0, 1) := by decide +kernel
theorem dX3_find_24 : decode cX3_find 24 = .ok (.istore_n 3, 1) := by decide +kernel
theorem dX3_find_25 : decode cX3_find 25 = .ok (.iload_n 3, 1) := by decide +kernel
theorem dX3_find_26 : decode cX3_find 26 = .ok (.aload_n 1, 1) := by decide +kernel
theorem dX3_find_27 : decode cX3_find 27 = .ok (.getfield 25, 3) := by decide +kernel
theorem dX3_find_30 : decode cX3_find 30 = .ok (.if_icmp .ge 23, 3) := by decide +kernel
theorem dX3_find_33 : decode cX3_find 33 = .ok (.iload_n 3, 1) := by decide +kernel
theorem dX3_find_34 : decode cX3_find 34 = .ok (.sipush 16383, 3) := by decide +kernel
theorem dX3_find_37 : decode cX3_find 37 = .ok (.if_icmp .gt 16, 3) := by decide +kernel
theorem dX3_find_40 : decode cX3_find 40 = .ok (.aload_n 0, 1) := by decide +kernel
theorem dX3_find_41 : decode cX3_find 41 = .ok (.aload_n 1, 1) := by decide +kernel
theorem dX3_find_42 : decode cX3_find 42 = .ok (.aload_n 2, 1) := by decide +kernel
theorem dX3_find_43 : decode cX3_find 43 = .ok (.iload_n 3, 1) := by decide +kernel
theorem dX3_find_44 : decode cX3_find 44 = .ok (.invokevirtual 43, 3) := by decide +kernel
theorem dX3_find_47 : decode cX3_find 47 = .ok (.iinc 3 1, 3) := by decide +kernel
theorem dX3_find_50 : decode cX3_find 50 = .ok (.goto (-25), 3) := by decide +kernel
theorem dX3_find_53 : decode cX3_find 53 = .ok (.return_, 1) := by decide +kernel


theorem m_fl_RX10_51 : Cond.fieldLink RX10 51 (TX10 5).1 (TX10 5).2.1 (TX10 5).2.2.1 ∈ zT := zmem1 zsub_2 74 (by decide +kernel) (by decide +kernel)
theorem m_fl_RX10_44 : Cond.fieldLink RX10 44 (TX10 6).1 (TX10 6).2.1 (TX10 6).2.2.1 ∈ zT := zmem1 zsub_2 76 (by decide +kernel) (by decide +kernel)
theorem m_fl_RX10_35 : Cond.fieldLink RX10 35 (TX10 3).1 (TX10 3).2.1 (TX10 3).2.2.1 ∈ zT := zmem1 zsub_2 71 (by decide +kernel) (by decide +kernel)
theorem m_fl_RX10_38 : Cond.fieldLink RX10 38 (TX10 4).1 (TX10 4).2.1 (TX10 4).2.2.1 ∈ zT := zmem1 zsub_2 72 (by decide +kernel) (by decide +kernel)
theorem m_co_X6_begin : Cond.code yX6_begin cX6_begin 3 none ∈ zT := zmem1 zsub_4 8 (by decide +kernel) (by decide +kernel)
theorem m_ml_RX10_25 : Cond.methodLink RX10 25 yX6_begin ∈ zT := zmem1 zsub_4 127 (by decide +kernel) (by decide +kernel)
theorem m_im_X6_begin : Cond.instanceMethod yX6_begin ∈ zT := zmem1 zsub_4 6 (by decide +kernel) (by decide +kernel)
theorem m_se_X6_begin : Cond.selects RX6 yX6_begin yX6_begin ∈ zT := zmem1 zsub_4 7 (by decide +kernel) (by decide +kernel)
theorem m_ml_RX10_29 : Cond.methodLink RX10 29 yX8_reached ∈ zT := zmem1 zsub_4 128 (by decide +kernel) (by decide +kernel)
theorem m_fl_RX10_41 : Cond.fieldLink RX10 41 (TX10 7).1 (TX10 7).2.1 (TX10 7).2.2.1 ∈ zT := zmem1 zsub_2 78 (by decide +kernel) (by decide +kernel)
theorem m_co_X10_arrive : Cond.code yX10_arrive cX10_arrive 4 (some .int) ∈ zT := zmem1 zsub_4 139 (by decide +kernel) (by decide +kernel)
theorem m_ml_RX10_47 : Cond.methodLink RX10 47 yX10_arrive ∈ zT := zmem1 zsub_4 136 (by decide +kernel) (by decide +kernel)
theorem m_im_X10_arrive : Cond.instanceMethod yX10_arrive ∈ zT := zmem1 zsub_4 138 (by decide +kernel) (by decide +kernel)
theorem m_se_X10_arrive : Cond.selects RX10 yX10_arrive yX10_arrive ∈ zT := zmem 28 (by decide +kernel) (by decide +kernel)
theorem m_ii_RX10 : Cond.initialized RX10 ∈ zT := zmem1 zsub_1 9 (by decide +kernel) (by decide +kernel)
theorem m_ml_RX10_54 : Cond.methodLink RX10 54 yX6_step ∈ zT := zmem1 zsub_4 140 (by decide +kernel) (by decide +kernel)
theorem m_fl_RX10_58 : Cond.fieldLink RX10 58 (TX6 1).1 (TX6 1).2.1 (TX6 1).2.2.1 ∈ zT := zmem1 zsub_1 228 (by decide +kernel) (by decide +kernel)
theorem m_fl_RX10_61 : Cond.fieldLink RX10 61 (TX6 0).1 (TX6 0).2.1 (TX6 0).2.2.1 ∈ zT := zmem1 zsub_1 226 (by decide +kernel) (by decide +kernel)
theorem m_fl_RX10_65 : Cond.fieldLink RX10 65 (TX4 0).1 (TX4 0).2.1 (TX4 0).2.2.1 ∈ zT := zmem1 zsub_1 43 (by decide +kernel) (by decide +kernel)
theorem m_ml_RX10_70 : Cond.methodLink RX10 70 yX4_waysOut ∈ zT := zmem1 zsub_4 150 (by decide +kernel) (by decide +kernel)
theorem m_ml_RX10_73 : Cond.methodLink RX10 73 yJ6_bitCount_0f7a4 ∈ zT := zmem1 zsub_4 151 (by decide +kernel) (by decide +kernel)
theorem m_ml_RX10_78 : Cond.methodLink RX10 78 yX4_isInn ∈ zT := zmem1 zsub_4 161 (by decide +kernel) (by decide +kernel)
theorem m_co_X6_code : Cond.code yX6_code cX6_code 3 (some .int) ∈ zT := zmem1 zsub_4 165 (by decide +kernel) (by decide +kernel)
theorem m_ml_RX10_82 : Cond.methodLink RX10 82 yX6_code ∈ zT := zmem1 zsub_4 162 (by decide +kernel) (by decide +kernel)
theorem m_im_X6_code : Cond.instanceMethod yX6_code ∈ zT := zmem1 zsub_4 163 (by decide +kernel) (by decide +kernel)
theorem m_se_X6_code : Cond.selects RX6 yX6_code yX6_code ∈ zT := zmem1 zsub_4 164 (by decide +kernel) (by decide +kernel)
theorem m_fl_RX1_88 : Cond.fieldLink RX1 88 (TX4 0).1 (TX4 0).2.1 (TX4 0).2.2.1 ∈ zT := zmem1 zsub_1 44 (by decide +kernel) (by decide +kernel)
theorem m_ml_RX1_135 : Cond.methodLink RX1 135 yX4_isInn ∈ zT := zmem1 zsub_4 17 (by decide +kernel) (by decide +kernel)
theorem m_fl_RX1_53 : Cond.fieldLink RX1 53 (TX1 9).1 (TX1 9).2.1 (TX1 9).2.2.1 ∈ zT := zmem1 zsub_2 34 (by decide +kernel) (by decide +kernel)
theorem m_ml_RX1_126 : Cond.methodLink RX1 126 Lib.Math.max.name ∈ zT := zmem1 zsub_4 21 (by decide +kernel) (by decide +kernel)
theorem m_fl_RX1_154 : Cond.fieldLink RX1 154 (TX6 1).1 (TX6 1).2.1 (TX6 1).2.2.1 ∈ zT := zmem1 zsub_1 229 (by decide +kernel) (by decide +kernel)
theorem m_fl_RX1_163 : Cond.fieldLink RX1 163 (TX4 4).1 (TX4 4).2.1 (TX4 4).2.2.1 ∈ zT := zmem1 zsub_1 61 (by decide +kernel) (by decide +kernel)
theorem m_fl_RX1_44 : Cond.fieldLink RX1 44 (TX1 6).1 (TX1 6).2.1 (TX1 6).2.2.1 ∈ zT := zmem1 zsub_2 31 (by decide +kernel) (by decide +kernel)
theorem m_fl_RX1_47 : Cond.fieldLink RX1 47 (TX1 7).1 (TX1 7).2.1 (TX1 7).2.2.1 ∈ zT := zmem1 zsub_2 32 (by decide +kernel) (by decide +kernel)
theorem m_fl_RX1_50 : Cond.fieldLink RX1 50 (TX1 8).1 (TX1 8).2.1 (TX1 8).2.2.1 ∈ zT := zmem1 zsub_2 33 (by decide +kernel) (by decide +kernel)
theorem m_co_X1_unlikeTold : Cond.code yX1_unlikeTold cX1_unlikeTold 3 (some .int) ∈ zT := zmem1 zsub_4 102 (by decide +kernel) (by decide +kernel)
theorem m_ml_RX1_159 : Cond.methodLink RX1 159 yX1_unlikeTold ∈ zT := zmem1 zsub_4 99 (by decide +kernel) (by decide +kernel)
theorem m_im_X1_unlikeTold : Cond.instanceMethod yX1_unlikeTold ∈ zT := zmem1 zsub_4 101 (by decide +kernel) (by decide +kernel)
theorem m_se_X1_unlikeTold : Cond.selects RX1 yX1_unlikeTold yX1_unlikeTold ∈ zT := zmem 26 (by decide +kernel) (by decide +kernel)
theorem m_ii_RX1 : Cond.initialized RX1 ∈ zT := zmem1 zsub_1 8 (by decide +kernel) (by decide +kernel)
theorem m_ml_RX1_112 : Cond.methodLink RX1 112 yX4_has ∈ zT := zmem1 zsub_4 30 (by decide +kernel) (by decide +kernel)
theorem m_fl_RX1_157 : Cond.fieldLink RX1 157 (TX6 2).1 (TX6 2).2.1 (TX6 2).2.2.1 ∈ zT := zmem1 zsub_1 232 (by decide +kernel) (by decide +kernel)
theorem m_fl_RX1_34 : Cond.fieldLink RX1 34 (TX1 2).1 (TX1 2).2.1 (TX1 2).2.2.1 ∈ zT := zmem1 zsub_2 26 (by decide +kernel) (by decide +kernel)
theorem m_co_X1_walkersInAll : Cond.code yX1_walkersInAll cX1_walkersInAll 4 (some .int) ∈ zT := zmem1 zsub_4 90 (by decide +kernel) (by decide +kernel)
theorem m_ml_RX1_150 : Cond.methodLink RX1 150 yX1_walkersInAll ∈ zT := zmem1 zsub_4 87 (by decide +kernel) (by decide +kernel)
theorem m_im_X1_walkersInAll : Cond.instanceMethod yX1_walkersInAll ∈ zT := zmem1 zsub_4 89 (by decide +kernel) (by decide +kernel)
theorem m_se_X1_walkersInAll : Cond.selects RX1 yX1_walkersInAll yX1_walkersInAll ∈ zT := zmem 25 (by decide +kernel) (by decide +kernel)
theorem m_fl_RX1_38 : Cond.fieldLink RX1 38 (TX1 4).1 (TX1 4).2.1 (TX1 4).2.2.1 ∈ zT := zmem1 zsub_2 29 (by decide +kernel) (by decide +kernel)
theorem m_fl_RX1_41 : Cond.fieldLink RX1 41 (TX1 5).1 (TX1 5).2.1 (TX1 5).2.2.1 ∈ zT := zmem1 zsub_2 30 (by decide +kernel) (by decide +kernel)
theorem m_ml_RX1_115 : Cond.methodLink RX1 115 yX6_step ∈ zT := zmem1 zsub_4 31 (by decide +kernel) (by decide +kernel)
theorem m_co_X1_move : Cond.code yX1_move cX1_move 3 none ∈ zT := zmem1 zsub_4 42 (by decide +kernel) (by decide +kernel)
theorem m_ml_RX1_118 : Cond.methodLink RX1 118 yX1_move ∈ zT := zmem1 zsub_4 39 (by decide +kernel) (by decide +kernel)
theorem m_im_X1_move : Cond.instanceMethod yX1_move ∈ zT := zmem1 zsub_4 41 (by decide +kernel) (by decide +kernel)
theorem m_se_X1_move : Cond.selects RX1 yX1_move yX1_move ∈ zT := zmem 20 (by decide +kernel) (by decide +kernel)
theorem m_co_X6_run : Cond.code yX6_run cX6_run 4 none ∈ zT := zmem1 zsub_4 50 (by decide +kernel) (by decide +kernel)
theorem m_ml_RX1_122 : Cond.methodLink RX1 122 yX6_run ∈ zT := zmem1 zsub_4 47 (by decide +kernel) (by decide +kernel)
theorem m_im_X6_run : Cond.instanceMethod yX6_run ∈ zT := zmem1 zsub_4 48 (by decide +kernel) (by decide +kernel)
theorem m_se_X6_run : Cond.selects RX6 yX6_run yX6_run ∈ zT := zmem1 zsub_4 49 (by decide +kernel) (by decide +kernel)
theorem m_fl_RX1_125 : Cond.fieldLink RX1 125 (TX6 3).1 (TX6 3).2.1 (TX6 3).2.2.1 ∈ zT := zmem1 zsub_1 234 (by decide +kernel) (by decide +kernel)
theorem m_fl_RX1_132 : Cond.fieldLink RX1 132 (TX6 4).1 (TX6 4).2.1 (TX6 4).2.2.1 ∈ zT := zmem1 zsub_1 236 (by decide +kernel) (by decide +kernel)
theorem m_ml_RX1_138 : Cond.methodLink RX1 138 yX4_hasRoad ∈ zT := zmem1 zsub_4 61 (by decide +kernel) (by decide +kernel)
theorem m_co_X6_isShut : Cond.code yX6_isShut cX6_isShut 3 (some .boolean) ∈ zT := zmem1 zsub_4 65 (by decide +kernel) (by decide +kernel)
theorem m_ml_RX1_141 : Cond.methodLink RX1 141 yX6_isShut ∈ zT := zmem1 zsub_4 62 (by decide +kernel) (by decide +kernel)
theorem m_im_X6_isShut : Cond.instanceMethod yX6_isShut ∈ zT := zmem1 zsub_4 63 (by decide +kernel) (by decide +kernel)
theorem m_se_X6_isShut : Cond.selects RX6 yX6_isShut yX6_isShut ∈ zT := zmem1 zsub_4 64 (by decide +kernel) (by decide +kernel)
theorem m_co_X6_shutRoad : Cond.code yX6_shutRoad cX6_shutRoad 3 none ∈ zT := zmem1 zsub_4 70 (by decide +kernel) (by decide +kernel)
theorem m_ml_RX1_144 : Cond.methodLink RX1 144 yX6_shutRoad ∈ zT := zmem1 zsub_4 67 (by decide +kernel) (by decide +kernel)
theorem m_im_X6_shutRoad : Cond.instanceMethod yX6_shutRoad ∈ zT := zmem1 zsub_4 68 (by decide +kernel) (by decide +kernel)
theorem m_se_X6_shutRoad : Cond.selects RX6 yX6_shutRoad yX6_shutRoad ∈ zT := zmem1 zsub_4 69 (by decide +kernel) (by decide +kernel)
theorem m_co_X6_openRoad : Cond.code yX6_openRoad cX6_openRoad 3 none ∈ zT := zmem1 zsub_4 78 (by decide +kernel) (by decide +kernel)
theorem m_ml_RX1_147 : Cond.methodLink RX1 147 yX6_openRoad ∈ zT := zmem1 zsub_4 75 (by decide +kernel) (by decide +kernel)
theorem m_im_X6_openRoad : Cond.instanceMethod yX6_openRoad ∈ zT := zmem1 zsub_4 76 (by decide +kernel) (by decide +kernel)
theorem m_se_X6_openRoad : Cond.selects RX6 yX6_openRoad yX6_openRoad ∈ zT := zmem1 zsub_4 77 (by decide +kernel) (by decide +kernel)
theorem kV_RX10_25 {R : Room} {s : State} {args : Array Value} {d mc ms : Nat} (hts : ∀ w ∈ zT, w.before args s = true) (h1 : d + 1 ≤ R.frames) (h2 : 8 + (3 + 11) + 40 * d ≤ R.locals) : CallW R s args RX10 RX6 25 yX6_begin cX6_begin 3 none (zW yX6_begin cX6_begin 3 none) (zR d mc ms) mc ms 1 := z_cwV hts m_co_X6_begin m_ml_RX10_25 m_im_X6_begin m_se_X6_begin m_ii_RX6 (by decide +kernel) h1 h2
theorem kS_RX10_29 {R : Room} {s : State} {args : Array Value} {d mc ms : Nat} (hts : ∀ w ∈ zT, w.before args s = true) (h1 : d + 1 ≤ R.frames) (h2 : 8 + (4 + 11) + 40 * d ≤ R.locals) : CallB R s args RX10 29 yX8_reached cX8_reached 4 (some .int) (zW yX8_reached cX8_reached 4 (some .int)) (zR d mc ms) mc ms 2 ∧ (Cond.static yX8_reached).before args s = true := z_cwS hts m_co_X8_reached m_ml_RX10_29 m_st_X8_reached m_ii_RX8 (by decide +kernel) h1 h2
theorem kV_RX10_47 {R : Room} {s : State} {args : Array Value} {d mc ms : Nat} (hts : ∀ w ∈ zT, w.before args s = true) (h1 : d + 1 ≤ R.frames) (h2 : 8 + (4 + 11) + 40 * d ≤ R.locals) : CallW R s args RX10 RX10 47 yX10_arrive cX10_arrive 4 (some .int) (zW yX10_arrive cX10_arrive 4 (some .int)) (zR d mc ms) mc ms 2 := z_cwV hts m_co_X10_arrive m_ml_RX10_47 m_im_X10_arrive m_se_X10_arrive m_ii_RX10 (by decide +kernel) h1 h2
theorem kV_RX10_54 {R : Room} {s : State} {args : Array Value} {d mc ms : Nat} (hts : ∀ w ∈ zT, w.before args s = true) (h1 : d + 1 ≤ R.frames) (h2 : 8 + (4 + 11) + 40 * d ≤ R.locals) : CallW R s args RX10 RX6 54 yX6_step cX6_step 4 (some .int) (zW yX6_step cX6_step 4 (some .int)) (zR d mc ms) mc ms 1 := z_cwV hts m_co_X6_step m_ml_RX10_54 m_im_X6_step m_se_X6_step m_ii_RX6 (by decide +kernel) h1 h2
theorem kV_RX10_70 {R : Room} {s : State} {args : Array Value} {d mc ms : Nat} (hts : ∀ w ∈ zT, w.before args s = true) (h1 : d + 1 ≤ R.frames) (h2 : 8 + (2 + 11) + 40 * d ≤ R.locals) : CallW R s args RX10 RX4 70 yX4_waysOut cX4_waysOut 2 (some .int) (zW yX4_waysOut cX4_waysOut 2 (some .int)) (zR d mc ms) mc ms 1 := z_cwV hts m_co_X4_waysOut m_ml_RX10_70 m_im_X4_waysOut m_se_X4_waysOut m_ii_RX4 (by decide +kernel) h1 h2
theorem kS_RX10_73 {R : Room} {s : State} {args : Array Value} {d mc ms : Nat} (hts : ∀ w ∈ zT, w.before args s = true) (h1 : d + 1 ≤ R.frames) (h2 : 8 + (1 + 11) + 40 * d ≤ R.locals) : CallB R s args RX10 73 yJ6_bitCount_0f7a4 cJ6_bitCount_0f7a4 1 (some .int) (zW yJ6_bitCount_0f7a4 cJ6_bitCount_0f7a4 1 (some .int)) (zR d mc ms) mc ms 1 ∧ (Cond.static yJ6_bitCount_0f7a4).before args s = true := z_cwS hts m_co_J6_bitCount_0f7a4 m_ml_RX10_73 m_st_J6_bitCount_0f7a4 m_ii_RJ6 (by decide +kernel) h1 h2
theorem kV_RX10_78 {R : Room} {s : State} {args : Array Value} {d mc ms : Nat} (hts : ∀ w ∈ zT, w.before args s = true) (h1 : d + 1 ≤ R.frames) (h2 : 8 + (2 + 11) + 40 * d ≤ R.locals) : CallW R s args RX10 RX4 78 yX4_isInn cX4_isInn 2 (some .boolean) (zW yX4_isInn cX4_isInn 2 (some .boolean)) (zR d mc ms) mc ms 1 := z_cwV hts m_co_X4_isInn m_ml_RX10_78 m_im_X4_isInn m_se_X4_isInn m_ii_RX4 (by decide +kernel) h1 h2
theorem kV_RX10_82 {R : Room} {s : State} {args : Array Value} {d mc ms : Nat} (hts : ∀ w ∈ zT, w.before args s = true) (h1 : d + 1 ≤ R.frames) (h2 : 8 + (3 + 11) + 40 * d ≤ R.locals) : CallW R s args RX10 RX6 82 yX6_code cX6_code 3 (some .int) (zW yX6_code cX6_code 3 (some .int)) (zR d mc ms) mc ms 0 := z_cwV hts m_co_X6_code m_ml_RX10_82 m_im_X6_code m_se_X6_code m_ii_RX6 (by decide +kernel) h1 h2
theorem kV_RX1_135 {R : Room} {s : State} {args : Array Value} {d mc ms : Nat} (hts : ∀ w ∈ zT, w.before args s = true) (h1 : d + 1 ≤ R.frames) (h2 : 8 + (2 + 11) + 40 * d ≤ R.locals) : CallW R s args RX1 RX4 135 yX4_isInn cX4_isInn 2 (some .boolean) (zW yX4_isInn cX4_isInn 2 (some .boolean)) (zR d mc ms) mc ms 1 := z_cwV hts m_co_X4_isInn m_ml_RX1_135 m_im_X4_isInn m_se_X4_isInn m_ii_RX4 (by decide +kernel) h1 h2
theorem kV_RX1_159 {R : Room} {s : State} {args : Array Value} {d mc ms : Nat} (hts : ∀ w ∈ zT, w.before args s = true) (h1 : d + 1 ≤ R.frames) (h2 : 8 + (3 + 11) + 40 * d ≤ R.locals) : CallW R s args RX1 RX1 159 yX1_unlikeTold cX1_unlikeTold 3 (some .int) (zW yX1_unlikeTold cX1_unlikeTold 3 (some .int)) (zR d mc ms) mc ms 0 := z_cwV hts m_co_X1_unlikeTold m_ml_RX1_159 m_im_X1_unlikeTold m_se_X1_unlikeTold m_ii_RX1 (by decide +kernel) h1 h2
theorem kV_RX1_112 {R : Room} {s : State} {args : Array Value} {d mc ms : Nat} (hts : ∀ w ∈ zT, w.before args s = true) (h1 : d + 1 ≤ R.frames) (h2 : 8 + (2 + 11) + 40 * d ≤ R.locals) : CallW R s args RX1 RX4 112 yX4_has cX4_has 2 (some .boolean) (zW yX4_has cX4_has 2 (some .boolean)) (zR d mc ms) mc ms 1 := z_cwV hts m_co_X4_has m_ml_RX1_112 m_im_X4_has m_se_X4_has m_ii_RX4 (by decide +kernel) h1 h2
theorem kV_RX1_150 {R : Room} {s : State} {args : Array Value} {d mc ms : Nat} (hts : ∀ w ∈ zT, w.before args s = true) (h1 : d + 1 ≤ R.frames) (h2 : 8 + (4 + 11) + 40 * d ≤ R.locals) : CallW R s args RX1 RX1 150 yX1_walkersInAll cX1_walkersInAll 4 (some .int) (zW yX1_walkersInAll cX1_walkersInAll 4 (some .int)) (zR d mc ms) mc ms 1 := z_cwV hts m_co_X1_walkersInAll m_ml_RX1_150 m_im_X1_walkersInAll m_se_X1_walkersInAll m_ii_RX1 (by decide +kernel) h1 h2
theorem kV_RX1_115 {R : Room} {s : State} {args : Array Value} {d mc ms : Nat} (hts : ∀ w ∈ zT, w.before args s = true) (h1 : d + 1 ≤ R.frames) (h2 : 8 + (4 + 11) + 40 * d ≤ R.locals) : CallW R s args RX1 RX6 115 yX6_step cX6_step 4 (some .int) (zW yX6_step cX6_step 4 (some .int)) (zR d mc ms) mc ms 1 := z_cwV hts m_co_X6_step m_ml_RX1_115 m_im_X6_step m_se_X6_step m_ii_RX6 (by decide +kernel) h1 h2
theorem kV_RX1_118 {R : Room} {s : State} {args : Array Value} {d mc ms : Nat} (hts : ∀ w ∈ zT, w.before args s = true) (h1 : d + 1 ≤ R.frames) (h2 : 8 + (3 + 11) + 40 * d ≤ R.locals) : CallW R s args RX1 RX1 118 yX1_move cX1_move 3 none (zW yX1_move cX1_move 3 none) (zR d mc ms) mc ms 2 := z_cwV hts m_co_X1_move m_ml_RX1_118 m_im_X1_move m_se_X1_move m_ii_RX1 (by decide +kernel) h1 h2
theorem kV_RX1_122 {R : Room} {s : State} {args : Array Value} {d mc ms : Nat} (hts : ∀ w ∈ zT, w.before args s = true) (h1 : d + 1 ≤ R.frames) (h2 : 8 + (4 + 11) + 40 * d ≤ R.locals) : CallW R s args RX1 RX6 122 yX6_run cX6_run 4 none (zW yX6_run cX6_run 4 none) (zR d mc ms) mc ms 1 := z_cwV hts m_co_X6_run m_ml_RX1_122 m_im_X6_run m_se_X6_run m_ii_RX6 (by decide +kernel) h1 h2
theorem kV_RX1_138 {R : Room} {s : State} {args : Array Value} {d mc ms : Nat} (hts : ∀ w ∈ zT, w.before args s = true) (h1 : d + 1 ≤ R.frames) (h2 : 8 + (3 + 11) + 40 * d ≤ R.locals) : CallW R s args RX1 RX4 138 yX4_hasRoad cX4_hasRoad 3 (some .boolean) (zW yX4_hasRoad cX4_hasRoad 3 (some .boolean)) (zR d mc ms) mc ms 2 := z_cwV hts m_co_X4_hasRoad m_ml_RX1_138 m_im_X4_hasRoad m_se_X4_hasRoad m_ii_RX4 (by decide +kernel) h1 h2
theorem kV_RX1_141 {R : Room} {s : State} {args : Array Value} {d mc ms : Nat} (hts : ∀ w ∈ zT, w.before args s = true) (h1 : d + 1 ≤ R.frames) (h2 : 8 + (3 + 11) + 40 * d ≤ R.locals) : CallW R s args RX1 RX6 141 yX6_isShut cX6_isShut 3 (some .boolean) (zW yX6_isShut cX6_isShut 3 (some .boolean)) (zR d mc ms) mc ms 2 := z_cwV hts m_co_X6_isShut m_ml_RX1_141 m_im_X6_isShut m_se_X6_isShut m_ii_RX6 (by decide +kernel) h1 h2
theorem kV_RX1_144 {R : Room} {s : State} {args : Array Value} {d mc ms : Nat} (hts : ∀ w ∈ zT, w.before args s = true) (h1 : d + 1 ≤ R.frames) (h2 : 8 + (3 + 11) + 40 * d ≤ R.locals) : CallW R s args RX1 RX6 144 yX6_shutRoad cX6_shutRoad 3 none (zW yX6_shutRoad cX6_shutRoad 3 none) (zR d mc ms) mc ms 2 := z_cwV hts m_co_X6_shutRoad m_ml_RX1_144 m_im_X6_shutRoad m_se_X6_shutRoad m_ii_RX6 (by decide +kernel) h1 h2
theorem kV_RX1_147 {R : Room} {s : State} {args : Array Value} {d mc ms : Nat} (hts : ∀ w ∈ zT, w.before args s = true) (h1 : d + 1 ≤ R.frames) (h2 : 8 + (3 + 11) + 40 * d ≤ R.locals) : CallW R s args RX1 RX6 147 yX6_openRoad cX6_openRoad 3 none (zW yX6_openRoad cX6_openRoad 3 none) (zR d mc ms) mc ms 2 := z_cwV hts m_co_X6_openRoad m_ml_RX1_147 m_im_X6_openRoad m_se_X6_openRoad m_ii_RX6 (by decide +kernel) h1 h2
theorem dX10_arrive_0 : decode cX10_arrive 0 = .ok (.aload_n 0, 1) := by decide +kernel
theorem dX10_arrive_1 : decode cX10_arrive 1 = .ok (.iload_n 1, 1) := by decide +kernel
theorem dX10_arrive_2 : decode cX10_arrive 2 = .ok (.putfield 51, 3) := by decide +kernel
theorem dX10_arrive_5 : decode cX10_arrive 5 = .ok (.iload_n 1, 1) := by decide +kernel
theorem dX10_arrive_6 : decode cX10_arrive 6 = .ok (.ifCond .lt 9, 3) := by decide +kernel
theorem dX10_arrive_9 : decode cX10_arrive 9 = .ok (.iload_n 1, 1) := by decide +kernel
theorem dX10_arrive_10 : decode cX10_arrive 10 = .ok (.bipush 7, 2) := by decide +kernel
theorem dX10_arrive_12 : decode cX10_arrive 12 = .ok (.if_icmp .lt 5, 3) := by decide +kernel
theorem dX10_arrive_15 : decode cX10_arrive 15 = .ok (.iload_n 2, 1) := by decide +kernel
theorem dX10_arrive_16 : decode cX10_arrive 16 = .ok (.ireturn, 1) := by decide +kernel
theorem dX10_arrive_17 : decode cX10_arrive 17 = .ok (.aload_n 0, 1) := by decide +kernel
theorem dX10_arrive_18 : decode cX10_arrive 18 = .ok (.getfield 18, 3) := by decide +kernel
theorem dX10_arrive_21 : decode cX10_arrive 21 = .ok (.iload_n 1, 1) := by decide +kernel
theorem dX10_arrive_22 : decode cX10_arrive 22 = .ok (.dup2, 1) := by decide +kernel
theorem dX10_arrive_23 : decode cX10_arrive 23 = .ok (.iaload, 1) := by decide +kernel
theorem dX10_arrive_24 : decode cX10_arrive 24 = .ok (.iconst 1, 1) := by decide +kernel
theorem dX10_arrive_25 : decode cX10_arrive 25 = .ok (.iadd, 1) := by decide +kernel
theorem dX10_arrive_26 : decode cX10_arrive 26 = .ok (.iastore, 1) := by decide +kernel
theorem dX10_arrive_27 : decode cX10_arrive 27 = .ok (.iload_n 2, 1) := by decide +kernel
theorem dX10_arrive_28 : decode cX10_arrive 28 = .ok (.iconst 1, 1) := by decide +kernel
theorem dX10_arrive_29 : decode cX10_arrive 29 = .ok (.iload_n 1, 1) := by decide +kernel
theorem dX10_arrive_30 : decode cX10_arrive 30 = .ok (.ishl, 1) := by decide +kernel
theorem dX10_arrive_31 : decode cX10_arrive 31 = .ok (.ior, 1) := by decide +kernel
theorem dX10_arrive_32 : decode cX10_arrive 32 = .ok (.istore_n 3, 1) := by decide +kernel
theorem dX10_arrive_33 : decode cX10_arrive 33 = .ok (.aload_n 0, 1) := by decide +kernel
theorem dX10_arrive_34 : decode cX10_arrive 34 = .ok (.aload_n 0, 1) := by decide +kernel
theorem dX10_arrive_35 : decode cX10_arrive 35 = .ok (.getfield 44, 3) := by decide +kernel
theorem dX10_arrive_38 : decode cX10_arrive 38 = .ok (.iconst (-1), 1) := by decide +kernel
theorem dX10_arrive_39 : decode cX10_arrive 39 = .ok (.if_icmp .ne 18, 3) := by decide +kernel
theorem dX10_arrive_42 : decode cX10_arrive 42 = .ok (.iload_n 3, 1) := by decide +kernel
theorem dX10_arrive_43 : decode cX10_arrive 43 = .ok (.aload_n 0, 1) := by decide +kernel
theorem dX10_arrive_44 : decode cX10_arrive 44 = .ok (.getfield 35, 3) := by decide +kernel
theorem dX10_arrive_47 : decode cX10_arrive 47 = .ok (.if_icmp .ne 10, 3) := by decide +kernel
theorem dX10_arrive_50 : decode cX10_arrive 50 = .ok (.aload_n 0, 1) := by decide +kernel
theorem dX10_arrive_51 : decode cX10_arrive 51 = .ok (.getfield 38, 3) := by decide +kernel
theorem dX10_arrive_54 : decode cX10_arrive 54 = .ok (.goto 7, 3) := by decide +kernel
theorem dX10_arrive_57 : decode cX10_arrive 57 = .ok (.aload_n 0, 1) := by decide +kernel
theorem dX10_arrive_58 : decode cX10_arrive 58 = .ok (.getfield 44, 3) := by decide +kernel
theorem dX10_arrive_61 : decode cX10_arrive 61 = .ok (.putfield 44, 3) := by decide +kernel
theorem dX10_arrive_64 : decode cX10_arrive 64 = .ok (.iload_n 3, 1) := by decide +kernel
theorem dX10_arrive_65 : decode cX10_arrive 65 = .ok (.ireturn, 1) := by decide +kernel
theorem dX10_follow_0 : decode cX10_follow 0 = .ok (.aload_n 0, 1) := by decide +kernel
theorem dX10_follow_1 : decode cX10_follow 1 = .ok (.getfield 12, 3) := by decide +kernel
theorem dX10_follow_4 : decode cX10_follow 4 = .ok (.aload_n 1, 1) := by decide +kernel
theorem dX10_follow_5 : decode cX10_follow 5 = .ok (.invokevirtual 25, 3) := by decide +kernel
theorem dX10_follow_8 : decode cX10_follow 8 = .ok (.iconst 0, 1) := by decide +kernel
theorem dX10_follow_9 : decode cX10_follow 9 = .ok (.istore_n 3, 1) := by decide +kernel
theorem dX10_follow_10 : decode cX10_follow 10 = .ok (.iload_n 3, 1) := by decide +kernel
theorem dX10_follow_11 : decode cX10_follow 11 = .ok (.bipush 7, 2) := by decide +kernel
theorem dX10_follow_13 : decode cX10_follow 13 = .ok (.if_icmp .ge 23, 3) := by decide +kernel
theorem dX10_follow_16 : decode cX10_follow 16 = .ok (.aload_n 0, 1) := by decide +kernel
theorem dX10_follow_17 : decode cX10_follow 17 = .ok (.getfield 18, 3) := by decide +kernel
theorem dX10_follow_20 : decode cX10_follow 20 = .ok (.iload_n 3, 1) := by decide +kernel
theorem dX10_follow_21 : decode cX10_follow 21 = .ok (.iconst 0, 1) := by decide +kernel
theorem dX10_follow_22 : decode cX10_follow 22 = .ok (.iastore, 1) := by decide +kernel
theorem dX10_follow_23 : decode cX10_follow 23 = .ok (.aload_n 0, 1) := by decide +kernel
theorem dX10_follow_24 : decode cX10_follow 24 = .ok (.getfield 22, 3) := by decide +kernel
theorem dX10_follow_27 : decode cX10_follow 27 = .ok (.iload_n 3, 1) := by decide +kernel
theorem dX10_follow_28 : decode cX10_follow 28 = .ok (.iconst 0, 1) := by decide +kernel
theorem dX10_follow_29 : decode cX10_follow 29 = .ok (.iastore, 1) := by decide +kernel
theorem dX10_follow_30 : decode cX10_follow 30 = .ok (.iinc 3 1, 3) := by decide +kernel
theorem dX10_follow_33 : decode cX10_follow 33 = .ok (.goto (-23), 3) := by decide +kernel
theorem dX10_follow_36 : decode cX10_follow 36 = .ok (.aload_n 0, 1) := by decide +kernel
theorem dX10_follow_37 : decode cX10_follow 37 = .ok (.aload_n 1, 1) := by decide +kernel
theorem dX10_follow_38 : decode cX10_follow 38 = .ok (.iload_n 2, 1) := by decide +kernel
theorem dX10_follow_39 : decode cX10_follow 39 = .ok (.invokestatic 29, 3) := by decide +kernel
theorem dX10_follow_42 : decode cX10_follow 42 = .ok (.putfield 35, 3) := by decide +kernel
theorem dX10_follow_45 : decode cX10_follow 45 = .ok (.aload_n 0, 1) := by decide +kernel
theorem dX10_follow_46 : decode cX10_follow 46 = .ok (.iconst 0, 1) := by decide +kernel
theorem dX10_follow_47 : decode cX10_follow 47 = .ok (.putfield 38, 3) := by decide +kernel
theorem dX10_follow_50 : decode cX10_follow 50 = .ok (.aload_n 0, 1) := by decide +kernel
theorem dX10_follow_51 : decode cX10_follow 51 = .ok (.iconst (-1), 1) := by decide +kernel
theorem dX10_follow_52 : decode cX10_follow 52 = .ok (.putfield 41, 3) := by decide +kernel
theorem dX10_follow_55 : decode cX10_follow 55 = .ok (.aload_n 0, 1) := by decide +kernel
theorem dX10_follow_56 : decode cX10_follow 56 = .ok (.iconst (-1), 1) := by decide +kernel
theorem dX10_follow_57 : decode cX10_follow 57 = .ok (.putfield 44, 3) := by decide +kernel
theorem dX10_follow_60 : decode cX10_follow 60 = .ok (.aload_n 0, 1) := by decide +kernel
theorem dX10_follow_61 : decode cX10_follow 61 = .ok (.iload_n 2, 1) := by decide +kernel
theorem dX10_follow_62 : decode cX10_follow 62 = .ok (.iconst 0, 1) := by decide +kernel
theorem dX10_follow_63 : decode cX10_follow 63 = .ok (.invokevirtual 47, 3) := by decide +kernel
theorem dX10_follow_66 : decode cX10_follow 66 = .ok (.istore_n 3, 1) := by decide +kernel
theorem dX10_follow_67 : decode cX10_follow 67 = .ok (.iconst 0, 1) := by decide +kernel
theorem dX10_follow_68 : decode cX10_follow 68 = .ok (.istore 4, 2) := by decide +kernel
theorem dX10_follow_70 : decode cX10_follow 70 = .ok (.iload 4, 2) := by decide +kernel
theorem dX10_follow_72 : decode cX10_follow 72 = .ok (.sipush 499, 3) := by decide +kernel
theorem dX10_follow_75 : decode cX10_follow 75 = .ok (.if_icmp .ge 102, 3) := by decide +kernel
theorem dX10_follow_78 : decode cX10_follow 78 = .ok (.aload_n 0, 1) := by decide +kernel
theorem dX10_follow_79 : decode cX10_follow 79 = .ok (.getfield 12, 3) := by decide +kernel
theorem dX10_follow_82 : decode cX10_follow 82 = .ok (.aload_n 0, 1) := by decide +kernel
theorem dX10_follow_83 : decode cX10_follow 83 = .ok (.getfield 51, 3) := by decide +kernel
theorem dX10_follow_86 : decode cX10_follow 86 = .ok (.invokevirtual 54, 3) := by decide +kernel
theorem dX10_follow_89 : decode cX10_follow 89 = .ok (.istore 5, 2) := by decide +kernel
theorem dX10_follow_91 : decode cX10_follow 91 = .ok (.iload 5, 2) := by decide +kernel
theorem dX10_follow_93 : decode cX10_follow 93 = .ok (.iconst (-1), 1) := by decide +kernel
theorem dX10_follow_94 : decode cX10_follow 94 = .ok (.if_icmp .ne 4, 3) := by decide +kernel
theorem dX10_follow_97 : decode cX10_follow 97 = .ok (.return_, 1) := by decide +kernel
theorem dX10_follow_98 : decode cX10_follow 98 = .ok (.aload_n 0, 1) := by decide +kernel
theorem dX10_follow_99 : decode cX10_follow 99 = .ok (.getfield 22, 3) := by decide +kernel
theorem dX10_follow_102 : decode cX10_follow 102 = .ok (.aload_n 0, 1) := by decide +kernel
theorem dX10_follow_103 : decode cX10_follow 103 = .ok (.getfield 51, 3) := by decide +kernel
theorem dX10_follow_106 : decode cX10_follow 106 = .ok (.dup2, 1) := by decide +kernel
theorem dX10_follow_107 : decode cX10_follow 107 = .ok (.iaload, 1) := by decide +kernel
theorem dX10_follow_108 : decode cX10_follow 108 = .ok (.iconst 1, 1) := by decide +kernel
theorem dX10_follow_109 : decode cX10_follow 109 = .ok (.aload_n 0, 1) := by decide +kernel
theorem dX10_follow_110 : decode cX10_follow 110 = .ok (.getfield 12, 3) := by decide +kernel
theorem dX10_follow_113 : decode cX10_follow 113 = .ok (.getfield 58, 3) := by decide +kernel
theorem dX10_follow_116 : decode cX10_follow 116 = .ok (.aload_n 0, 1) := by decide +kernel
theorem dX10_follow_117 : decode cX10_follow 117 = .ok (.getfield 51, 3) := by decide +kernel
theorem dX10_follow_120 : decode cX10_follow 120 = .ok (.iaload, 1) := by decide +kernel
theorem dX10_follow_121 : decode cX10_follow 121 = .ok (.ishl, 1) := by decide +kernel
theorem dX10_follow_122 : decode cX10_follow 122 = .ok (.ior, 1) := by decide +kernel
theorem dX10_follow_123 : decode cX10_follow 123 = .ok (.iastore, 1) := by decide +kernel
theorem dX10_follow_124 : decode cX10_follow 124 = .ok (.aload_n 0, 1) := by decide +kernel
theorem dX10_follow_125 : decode cX10_follow 125 = .ok (.dup, 1) := by decide +kernel
theorem dX10_follow_126 : decode cX10_follow 126 = .ok (.getfield 38, 3) := by decide +kernel
theorem dX10_follow_129 : decode cX10_follow 129 = .ok (.iconst 1, 1) := by decide +kernel
theorem dX10_follow_130 : decode cX10_follow 130 = .ok (.iadd, 1) := by decide +kernel
theorem dX10_follow_131 : decode cX10_follow 131 = .ok (.putfield 38, 3) := by decide +kernel
theorem dX10_follow_134 : decode cX10_follow 134 = .ok (.aload_n 0, 1) := by decide +kernel
theorem dX10_follow_135 : decode cX10_follow 135 = .ok (.iload 5, 2) := by decide +kernel
theorem dX10_follow_137 : decode cX10_follow 137 = .ok (.iload_n 2, 1) := by decide +kernel
theorem dX10_follow_138 : decode cX10_follow 138 = .ok (.if_icmp .ne 18, 3) := by decide +kernel
theorem dX10_follow_141 : decode cX10_follow 141 = .ok (.aload_n 0, 1) := by decide +kernel
theorem dX10_follow_142 : decode cX10_follow 142 = .ok (.getfield 41, 3) := by decide +kernel
theorem dX10_follow_145 : decode cX10_follow 145 = .ok (.iconst (-1), 1) := by decide +kernel
theorem dX10_follow_146 : decode cX10_follow 146 = .ok (.if_icmp .ne 10, 3) := by decide +kernel
theorem dX10_follow_149 : decode cX10_follow 149 = .ok (.aload_n 0, 1) := by decide +kernel
theorem dX10_follow_150 : decode cX10_follow 150 = .ok (.getfield 38, 3) := by decide +kernel
theorem dX10_follow_153 : decode cX10_follow 153 = .ok (.goto 7, 3) := by decide +kernel
theorem dX10_follow_156 : decode cX10_follow 156 = .ok (.aload_n 0, 1) := by decide +kernel
theorem dX10_follow_157 : decode cX10_follow 157 = .ok (.getfield 41, 3) := by decide +kernel
theorem dX10_follow_160 : decode cX10_follow 160 = .ok (.putfield 41, 3) := by decide +kernel
theorem dX10_follow_163 : decode cX10_follow 163 = .ok (.aload_n 0, 1) := by decide +kernel
theorem dX10_follow_164 : decode cX10_follow 164 = .ok (.iload 5, 2) := by decide +kernel
theorem dX10_follow_166 : decode cX10_follow 166 = .ok (.iload_n 3, 1) := by decide +kernel
theorem dX10_follow_167 : decode cX10_follow 167 = .ok (.invokevirtual 47, 3) := by decide +kernel
theorem dX10_follow_170 : decode cX10_follow 170 = .ok (.istore_n 3, 1) := by decide +kernel
theorem dX10_follow_171 : decode cX10_follow 171 = .ok (.iinc 4 1, 3) := by decide +kernel
theorem dX10_follow_174 : decode cX10_follow 174 = .ok (.goto (-104), 3) := by decide +kernel
theorem dX10_follow_177 : decode cX10_follow 177 = .ok (.return_, 1) := by decide +kernel
theorem dX10_unused_0 : decode cX10_unused 0 = .ok (.iconst 0, 1) := by decide +kernel
theorem dX10_unused_1 : decode cX10_unused 1 = .ok (.istore_n 1, 1) := by decide +kernel
theorem dX10_unused_2 : decode cX10_unused 2 = .ok (.iconst 0, 1) := by decide +kernel
theorem dX10_unused_3 : decode cX10_unused 3 = .ok (.istore_n 2, 1) := by decide +kernel
theorem dX10_unused_4 : decode cX10_unused 4 = .ok (.iload_n 2, 1) := by decide +kernel
theorem dX10_unused_5 : decode cX10_unused 5 = .ok (.aload_n 0, 1) := by decide +kernel
theorem dX10_unused_6 : decode cX10_unused 6 = .ok (.getfield 12, 3) := by decide +kernel
theorem dX10_unused_9 : decode cX10_unused 9 = .ok (.getfield 61, 3) := by decide +kernel
theorem dX10_unused_12 : decode cX10_unused 12 = .ok (.getfield 65, 3) := by decide +kernel
theorem dX10_unused_15 : decode cX10_unused 15 = .ok (.if_icmp .ge 44, 3) := by decide +kernel
theorem dX10_unused_18 : decode cX10_unused 18 = .ok (.aload_n 0, 1) := by decide +kernel
theorem dX10_unused_19 : decode cX10_unused 19 = .ok (.getfield 35, 3) := by decide +kernel
theorem dX10_unused_22 : decode cX10_unused 22 = .ok (.iload_n 2, 1) := by decide +kernel
theorem dX10_unused_23 : decode cX10_unused 23 = .ok (.ishr, 1) := by decide +kernel
theorem dX10_unused_24 : decode cX10_unused 24 = .ok (.iconst 1, 1) := by decide +kernel
theorem dX10_unused_25 : decode cX10_unused 25 = .ok (.iand, 1) := by decide +kernel
theorem dX10_unused_26 : decode cX10_unused 26 = .ok (.ifCond .eq 27, 3) := by decide +kernel
theorem dX10_unused_29 : decode cX10_unused 29 = .ok (.iload_n 1, 1) := by decide +kernel
theorem dX10_unused_30 : decode cX10_unused 30 = .ok (.aload_n 0, 1) := by decide +kernel
theorem dX10_unused_31 : decode cX10_unused 31 = .ok (.getfield 12, 3) := by decide +kernel
theorem dX10_unused_34 : decode cX10_unused 34 = .ok (.getfield 61, 3) := by decide +kernel
theorem dX10_unused_37 : decode cX10_unused 37 = .ok (.iload_n 2, 1) := by decide +kernel
theorem dX10_unused_38 : decode cX10_unused 38 = .ok (.invokevirtual 70, 3) := by decide +kernel
theorem dX10_unused_41 : decode cX10_unused 41 = .ok (.aload_n 0, 1) := by decide +kernel
theorem dX10_unused_42 : decode cX10_unused 42 = .ok (.getfield 22, 3) := by decide +kernel
theorem dX10_unused_45 : decode cX10_unused 45 = .ok (.iload_n 2, 1) := by decide +kernel
theorem dX10_unused_46 : decode cX10_unused 46 = .ok (.iaload, 1) := by decide +kernel
theorem dX10_unused_47 : decode cX10_unused 47 = .ok (.invokestatic 73, 3) := by decide +kernel
theorem dX10_unused_50 : decode cX10_unused 50 = .ok (.isub, 1) := by decide +kernel
theorem dX10_unused_51 : decode cX10_unused 51 = .ok (.iadd, 1) := by decide +kernel
theorem dX10_unused_52 : decode cX10_unused 52 = .ok (.istore_n 1, 1) := by decide +kernel
theorem dX10_unused_53 : decode cX10_unused 53 = .ok (.iinc 2 1, 3) := by decide +kernel
theorem dX10_unused_56 : decode cX10_unused 56 = .ok (.goto (-52), 3) := by decide +kernel
theorem dX10_unused_59 : decode cX10_unused 59 = .ok (.iload_n 1, 1) := by decide +kernel
theorem dX10_unused_60 : decode cX10_unused 60 = .ok (.ireturn, 1) := by decide +kernel
theorem dX10_round_0 : decode cX10_round 0 = .ok (.aload_n 0, 1) := by decide +kernel
theorem dX10_round_1 : decode cX10_round 1 = .ok (.getfield 38, 3) := by decide +kernel
theorem dX10_round_4 : decode cX10_round 4 = .ok (.sipush 499, 3) := by decide +kernel
theorem dX10_round_7 : decode cX10_round 7 = .ok (.if_icmp .lt 20, 3) := by decide +kernel
theorem dX10_round_10 : decode cX10_round 10 = .ok (.aload_n 0, 1) := by decide +kernel
theorem dX10_round_11 : decode cX10_round 11 = .ok (.getfield 12, 3) := by decide +kernel
theorem dX10_round_14 : decode cX10_round 14 = .ok (.getfield 61, 3) := by decide +kernel
theorem dX10_round_17 : decode cX10_round 17 = .ok (.aload_n 0, 1) := by decide +kernel
theorem dX10_round_18 : decode cX10_round 18 = .ok (.getfield 51, 3) := by decide +kernel
theorem dX10_round_21 : decode cX10_round 21 = .ok (.invokevirtual 78, 3) := by decide +kernel
theorem dX10_round_24 : decode cX10_round 24 = .ok (.ifCond .eq 5, 3) := by decide +kernel
theorem dX10_round_27 : decode cX10_round 27 = .ok (.iconst (-1), 1) := by decide +kernel
theorem dX10_round_28 : decode cX10_round 28 = .ok (.ireturn, 1) := by decide +kernel
theorem dX10_round_29 : decode cX10_round 29 = .ok (.aload_n 0, 1) := by decide +kernel
theorem dX10_round_30 : decode cX10_round 30 = .ok (.getfield 12, 3) := by decide +kernel
theorem dX10_round_33 : decode cX10_round 33 = .ok (.invokevirtual 82, 3) := by decide +kernel
theorem dX10_round_36 : decode cX10_round 36 = .ok (.istore_n 1, 1) := by decide +kernel
theorem dX10_round_37 : decode cX10_round 37 = .ok (.aload_n 0, 1) := by decide +kernel
theorem dX10_round_38 : decode cX10_round 38 = .ok (.getfield 51, 3) := by decide +kernel
theorem dX10_round_41 : decode cX10_round 41 = .ok (.istore_n 2, 1) := by decide +kernel
theorem dX10_round_42 : decode cX10_round 42 = .ok (.iconst 1, 1) := by decide +kernel
theorem dX10_round_43 : decode cX10_round 43 = .ok (.istore_n 3, 1) := by decide +kernel
theorem dX10_round_44 : decode cX10_round 44 = .ok (.iload_n 3, 1) := by decide +kernel
theorem dX10_round_45 : decode cX10_round 45 = .ok (.sipush 999, 3) := by decide +kernel
theorem dX10_round_48 : decode cX10_round 48 = .ok (.if_icmp .gt 46, 3) := by decide +kernel
theorem dX10_round_51 : decode cX10_round 51 = .ok (.aload_n 0, 1) := by decide +kernel
theorem dX10_round_52 : decode cX10_round 52 = .ok (.getfield 12, 3) := by decide +kernel
theorem dX10_round_55 : decode cX10_round 55 = .ok (.iload_n 2, 1) := by decide +kernel
theorem dX10_round_56 : decode cX10_round 56 = .ok (.invokevirtual 54, 3) := by decide +kernel
theorem dX10_round_59 : decode cX10_round 59 = .ok (.istore_n 2, 1) := by decide +kernel
theorem dX10_round_60 : decode cX10_round 60 = .ok (.iload_n 2, 1) := by decide +kernel
theorem dX10_round_61 : decode cX10_round 61 = .ok (.iconst (-1), 1) := by decide +kernel
theorem dX10_round_62 : decode cX10_round 62 = .ok (.if_icmp .ne 5, 3) := by decide +kernel
theorem dX10_round_65 : decode cX10_round 65 = .ok (.iconst (-1), 1) := by decide +kernel
theorem dX10_round_66 : decode cX10_round 66 = .ok (.ireturn, 1) := by decide +kernel
theorem dX10_round_67 : decode cX10_round 67 = .ok (.iload_n 2, 1) := by decide +kernel
theorem dX10_round_68 : decode cX10_round 68 = .ok (.aload_n 0, 1) := by decide +kernel
theorem dX10_round_69 : decode cX10_round 69 = .ok (.getfield 51, 3) := by decide +kernel
theorem dX10_round_72 : decode cX10_round 72 = .ok (.if_icmp .ne 16, 3) := by decide +kernel
theorem dX10_round_75 : decode cX10_round 75 = .ok (.aload_n 0, 1) := by decide +kernel
theorem dX10_round_76 : decode cX10_round 76 = .ok (.getfield 12, 3) := by decide +kernel
theorem dX10_round_79 : decode cX10_round 79 = .ok (.invokevirtual 82, 3) := by decide +kernel
theorem dX10_round_82 : decode cX10_round 82 = .ok (.iload_n 1, 1) := by decide +kernel
theorem dX10_round_83 : decode cX10_round 83 = .ok (.if_icmp .ne 5, 3) := by decide +kernel
theorem dX10_round_86 : decode cX10_round 86 = .ok (.iload_n 3, 1) := by decide +kernel
theorem dX10_round_87 : decode cX10_round 87 = .ok (.ireturn, 1) := by decide +kernel
theorem dX10_round_88 : decode cX10_round 88 = .ok (.iinc 3 1, 3) := by decide +kernel
theorem dX10_round_91 : decode cX10_round 91 = .ok (.goto (-47), 3) := by decide +kernel
theorem dX10_round_94 : decode cX10_round 94 = .ok (.iconst (-1), 1) := by decide +kernel
theorem dX10_round_95 : decode cX10_round 95 = .ok (.ireturn, 1) := by decide +kernel
theorem dX1_lookAtCrowd_0 : decode cX1_lookAtCrowd 0 = .ok (.iconst 0, 1) := by decide +kernel
theorem dX1_lookAtCrowd_1 : decode cX1_lookAtCrowd 1 = .ok (.istore_n 1, 1) := by decide +kernel
theorem dX1_lookAtCrowd_2 : decode cX1_lookAtCrowd 2 = .ok (.iload_n 1, 1) := by decide +kernel
theorem dX1_lookAtCrowd_3 : decode cX1_lookAtCrowd 3 = .ok (.aload_n 0, 1) := by decide +kernel
theorem dX1_lookAtCrowd_4 : decode cX1_lookAtCrowd 4 = .ok (.getfield 25, 3) := by decide +kernel
theorem dX1_lookAtCrowd_7 : decode cX1_lookAtCrowd 7 = .ok (.getfield 88, 3) := by decide +kernel
theorem dX1_lookAtCrowd_10 : decode cX1_lookAtCrowd 10 = .ok (.if_icmp .ge 43, 3) := by decide +kernel
theorem dX1_lookAtCrowd_13 : decode cX1_lookAtCrowd 13 = .ok (.iload_n 1, 1) := by decide +kernel
theorem dX1_lookAtCrowd_14 : decode cX1_lookAtCrowd 14 = .ok (.bipush 7, 2) := by decide +kernel
theorem dX1_lookAtCrowd_16 : decode cX1_lookAtCrowd 16 = .ok (.if_icmp .ge 37, 3) := by decide +kernel
theorem dX1_lookAtCrowd_19 : decode cX1_lookAtCrowd 19 = .ok (.aload_n 0, 1) := by decide +kernel
theorem dX1_lookAtCrowd_20 : decode cX1_lookAtCrowd 20 = .ok (.getfield 25, 3) := by decide +kernel
theorem dX1_lookAtCrowd_23 : decode cX1_lookAtCrowd 23 = .ok (.iload_n 1, 1) := by decide +kernel
theorem dX1_lookAtCrowd_24 : decode cX1_lookAtCrowd 24 = .ok (.invokevirtual 135, 3) := by decide +kernel
theorem dX1_lookAtCrowd_27 : decode cX1_lookAtCrowd 27 = .ok (.ifCond .ne 20, 3) := by decide +kernel
theorem dX1_lookAtCrowd_30 : decode cX1_lookAtCrowd 30 = .ok (.aload_n 0, 1) := by decide +kernel
theorem dX1_lookAtCrowd_31 : decode cX1_lookAtCrowd 31 = .ok (.aload_n 0, 1) := by decide +kernel
theorem dX1_lookAtCrowd_32 : decode cX1_lookAtCrowd 32 = .ok (.getfield 53, 3) := by decide +kernel
theorem dX1_lookAtCrowd_35 : decode cX1_lookAtCrowd 35 = .ok (.aload_n 0, 1) := by decide +kernel
theorem dX1_lookAtCrowd_36 : decode cX1_lookAtCrowd 36 = .ok (.getfield 18, 3) := by decide +kernel
theorem dX1_lookAtCrowd_39 : decode cX1_lookAtCrowd 39 = .ok (.iload_n 1, 1) := by decide +kernel
theorem dX1_lookAtCrowd_40 : decode cX1_lookAtCrowd 40 = .ok (.iaload, 1) := by decide +kernel
theorem dX1_lookAtCrowd_41 : decode cX1_lookAtCrowd 41 = .ok (.invokestatic 126, 3) := by decide +kernel
theorem dX1_lookAtCrowd_44 : decode cX1_lookAtCrowd 44 = .ok (.putfield 53, 3) := by decide +kernel
theorem dX1_lookAtCrowd_47 : decode cX1_lookAtCrowd 47 = .ok (.iinc 1 1, 3) := by decide +kernel
theorem dX1_lookAtCrowd_50 : decode cX1_lookAtCrowd 50 = .ok (.goto (-48), 3) := by decide +kernel
theorem dX1_lookAtCrowd_53 : decode cX1_lookAtCrowd 53 = .ok (.return_, 1) := by decide +kernel
theorem dX1_walkersInAll_0 : decode cX1_walkersInAll 0 = .ok (.iconst 0, 1) := by decide +kernel
theorem dX1_walkersInAll_1 : decode cX1_walkersInAll 1 = .ok (.istore_n 2, 1) := by decide +kernel
theorem dX1_walkersInAll_2 : decode cX1_walkersInAll 2 = .ok (.iconst 0, 1) := by decide +kernel
theorem dX1_walkersInAll_3 : decode cX1_walkersInAll 3 = .ok (.istore_n 3, 1) := by decide +kernel
theorem dX1_walkersInAll_4 : decode cX1_walkersInAll 4 = .ok (.iload_n 3, 1) := by decide +kernel
theorem dX1_walkersInAll_5 : decode cX1_walkersInAll 5 = .ok (.aload_n 0, 1) := by decide +kernel
theorem dX1_walkersInAll_6 : decode cX1_walkersInAll 6 = .ok (.getfield 25, 3) := by decide +kernel
theorem dX1_walkersInAll_9 : decode cX1_walkersInAll 9 = .ok (.getfield 88, 3) := by decide +kernel
theorem dX1_walkersInAll_12 : decode cX1_walkersInAll 12 = .ok (.if_icmp .ge 43, 3) := by decide +kernel
theorem dX1_walkersInAll_15 : decode cX1_walkersInAll 15 = .ok (.iload_n 3, 1) := by decide +kernel
theorem dX1_walkersInAll_16 : decode cX1_walkersInAll 16 = .ok (.bipush 7, 2) := by decide +kernel
theorem dX1_walkersInAll_18 : decode cX1_walkersInAll 18 = .ok (.if_icmp .ge 37, 3) := by decide +kernel
theorem dX1_walkersInAll_21 : decode cX1_walkersInAll 21 = .ok (.iload_n 2, 1) := by decide +kernel
theorem dX1_walkersInAll_22 : decode cX1_walkersInAll 22 = .ok (.iload_n 1, 1) := by decide +kernel
theorem dX1_walkersInAll_23 : decode cX1_walkersInAll 23 = .ok (.ifCond .eq 14, 3) := by decide +kernel
theorem dX1_walkersInAll_26 : decode cX1_walkersInAll 26 = .ok (.aload_n 0, 1) := by decide +kernel
theorem dX1_walkersInAll_27 : decode cX1_walkersInAll 27 = .ok (.getfield 25, 3) := by decide +kernel
theorem dX1_walkersInAll_30 : decode cX1_walkersInAll 30 = .ok (.iload_n 3, 1) := by decide +kernel
theorem dX1_walkersInAll_31 : decode cX1_walkersInAll 31 = .ok (.invokevirtual 135, 3) := by decide +kernel
theorem dX1_walkersInAll_34 : decode cX1_walkersInAll 34 = .ok (.ifCond .eq 12, 3) := by decide +kernel
theorem dX1_walkersInAll_37 : decode cX1_walkersInAll 37 = .ok (.aload_n 0, 1) := by decide +kernel
theorem dX1_walkersInAll_38 : decode cX1_walkersInAll 38 = .ok (.getfield 18, 3) := by decide +kernel
theorem dX1_walkersInAll_41 : decode cX1_walkersInAll 41 = .ok (.iload_n 3, 1) := by decide +kernel
theorem dX1_walkersInAll_42 : decode cX1_walkersInAll 42 = .ok (.iaload, 1) := by decide +kernel
theorem dX1_walkersInAll_43 : decode cX1_walkersInAll 43 = .ok (.goto 4, 3) := by decide +kernel
theorem dX1_walkersInAll_46 : decode cX1_walkersInAll 46 = .ok (.iconst 0, 1) := by decide +kernel
theorem dX1_walkersInAll_47 : decode cX1_walkersInAll 47 = .ok (.iadd, 1) := by decide +kernel
theorem dX1_walkersInAll_48 : decode cX1_walkersInAll 48 = .ok (.istore_n 2, 1) := by decide +kernel
theorem dX1_walkersInAll_49 : decode cX1_walkersInAll 49 = .ok (.iinc 3 1, 3) := by decide +kernel
theorem dX1_walkersInAll_52 : decode cX1_walkersInAll 52 = .ok (.goto (-48), 3) := by decide +kernel
theorem dX1_walkersInAll_55 : decode cX1_walkersInAll 55 = .ok (.iload_n 2, 1) := by decide +kernel
theorem dX1_walkersInAll_56 : decode cX1_walkersInAll 56 = .ok (.ireturn, 1) := by decide +kernel
theorem dX1_unlikeTold_0 : decode cX1_unlikeTold 0 = .ok (.iconst 0, 1) := by decide +kernel
theorem dX1_unlikeTold_1 : decode cX1_unlikeTold 1 = .ok (.istore_n 1, 1) := by decide +kernel
theorem dX1_unlikeTold_2 : decode cX1_unlikeTold 2 = .ok (.iconst 0, 1) := by decide +kernel
theorem dX1_unlikeTold_3 : decode cX1_unlikeTold 3 = .ok (.istore_n 2, 1) := by decide +kernel
theorem dX1_unlikeTold_4 : decode cX1_unlikeTold 4 = .ok (.iload_n 2, 1) := by decide +kernel
theorem dX1_unlikeTold_5 : decode cX1_unlikeTold 5 = .ok (.aload_n 0, 1) := by decide +kernel
theorem dX1_unlikeTold_6 : decode cX1_unlikeTold 6 = .ok (.getfield 25, 3) := by decide +kernel
theorem dX1_unlikeTold_9 : decode cX1_unlikeTold 9 = .ok (.getfield 88, 3) := by decide +kernel
theorem dX1_unlikeTold_12 : decode cX1_unlikeTold 12 = .ok (.if_icmp .ge 46, 3) := by decide +kernel
theorem dX1_unlikeTold_15 : decode cX1_unlikeTold 15 = .ok (.iload_n 2, 1) := by decide +kernel
theorem dX1_unlikeTold_16 : decode cX1_unlikeTold 16 = .ok (.bipush 7, 2) := by decide +kernel
theorem dX1_unlikeTold_18 : decode cX1_unlikeTold 18 = .ok (.if_icmp .ge 40, 3) := by decide +kernel
theorem dX1_unlikeTold_21 : decode cX1_unlikeTold 21 = .ok (.iload_n 1, 1) := by decide +kernel
theorem dX1_unlikeTold_22 : decode cX1_unlikeTold 22 = .ok (.aload_n 0, 1) := by decide +kernel
theorem dX1_unlikeTold_23 : decode cX1_unlikeTold 23 = .ok (.getfield 12, 3) := by decide +kernel
theorem dX1_unlikeTold_26 : decode cX1_unlikeTold 26 = .ok (.getfield 154, 3) := by decide +kernel
theorem dX1_unlikeTold_29 : decode cX1_unlikeTold 29 = .ok (.iload_n 2, 1) := by decide +kernel
theorem dX1_unlikeTold_30 : decode cX1_unlikeTold 30 = .ok (.iaload, 1) := by decide +kernel
theorem dX1_unlikeTold_31 : decode cX1_unlikeTold 31 = .ok (.aload_n 0, 1) := by decide +kernel
theorem dX1_unlikeTold_32 : decode cX1_unlikeTold 32 = .ok (.getfield 25, 3) := by decide +kernel
theorem dX1_unlikeTold_35 : decode cX1_unlikeTold 35 = .ok (.getfield 163, 3) := by decide +kernel
theorem dX1_unlikeTold_38 : decode cX1_unlikeTold 38 = .ok (.iload_n 2, 1) := by decide +kernel
theorem dX1_unlikeTold_39 : decode cX1_unlikeTold 39 = .ok (.iaload, 1) := by decide +kernel
theorem dX1_unlikeTold_40 : decode cX1_unlikeTold 40 = .ok (.if_icmp .eq 9, 3) := by decide +kernel
theorem dX1_unlikeTold_43 : decode cX1_unlikeTold 43 = .ok (.iconst 1, 1) := by decide +kernel
theorem dX1_unlikeTold_44 : decode cX1_unlikeTold 44 = .ok (.iload_n 2, 1) := by decide +kernel
theorem dX1_unlikeTold_45 : decode cX1_unlikeTold 45 = .ok (.ishl, 1) := by decide +kernel
theorem dX1_unlikeTold_46 : decode cX1_unlikeTold 46 = .ok (.goto 4, 3) := by decide +kernel
theorem dX1_unlikeTold_49 : decode cX1_unlikeTold 49 = .ok (.iconst 0, 1) := by decide +kernel
theorem dX1_unlikeTold_50 : decode cX1_unlikeTold 50 = .ok (.ior, 1) := by decide +kernel
theorem dX1_unlikeTold_51 : decode cX1_unlikeTold 51 = .ok (.istore_n 1, 1) := by decide +kernel
theorem dX1_unlikeTold_52 : decode cX1_unlikeTold 52 = .ok (.iinc 2 1, 3) := by decide +kernel
theorem dX1_unlikeTold_55 : decode cX1_unlikeTold 55 = .ok (.goto (-51), 3) := by decide +kernel
theorem dX1_unlikeTold_58 : decode cX1_unlikeTold 58 = .ok (.iload_n 1, 1) := by decide +kernel
theorem dX1_unlikeTold_59 : decode cX1_unlikeTold 59 = .ok (.ireturn, 1) := by decide +kernel
theorem dX1_toldAfter_0 : decode cX1_toldAfter 0 = .ok (.iload_n 1, 1) := by decide +kernel
theorem dX1_toldAfter_1 : decode cX1_toldAfter 1 = .ok (.tableswitch 60 0 4 #[35, 40, 45, 50, 55], 35) := by decide +kernel
theorem dX1_toldAfter_36 : decode cX1_toldAfter 36 = .ok (.aload_n 0, 1) := by decide +kernel
theorem dX1_toldAfter_37 : decode cX1_toldAfter 37 = .ok (.getfield 44, 3) := by decide +kernel
theorem dX1_toldAfter_40 : decode cX1_toldAfter 40 = .ok (.ireturn, 1) := by decide +kernel
theorem dX1_toldAfter_41 : decode cX1_toldAfter 41 = .ok (.aload_n 0, 1) := by decide +kernel
theorem dX1_toldAfter_42 : decode cX1_toldAfter 42 = .ok (.getfield 47, 3) := by decide +kernel
theorem dX1_toldAfter_45 : decode cX1_toldAfter 45 = .ok (.ireturn, 1) := by decide +kernel
theorem dX1_toldAfter_46 : decode cX1_toldAfter 46 = .ok (.aload_n 0, 1) := by decide +kernel
theorem dX1_toldAfter_47 : decode cX1_toldAfter 47 = .ok (.getfield 50, 3) := by decide +kernel
theorem dX1_toldAfter_50 : decode cX1_toldAfter 50 = .ok (.ireturn, 1) := by decide +kernel
theorem dX1_toldAfter_51 : decode cX1_toldAfter 51 = .ok (.aload_n 0, 1) := by decide +kernel
theorem dX1_toldAfter_52 : decode cX1_toldAfter 52 = .ok (.getfield 53, 3) := by decide +kernel
theorem dX1_toldAfter_55 : decode cX1_toldAfter 55 = .ok (.ireturn, 1) := by decide +kernel
theorem dX1_toldAfter_56 : decode cX1_toldAfter 56 = .ok (.aload_n 0, 1) := by decide +kernel
theorem dX1_toldAfter_57 : decode cX1_toldAfter 57 = .ok (.invokevirtual 159, 3) := by decide +kernel
theorem dX1_toldAfter_60 : decode cX1_toldAfter 60 = .ok (.ireturn, 1) := by decide +kernel
theorem dX1_toldAfter_61 : decode cX1_toldAfter 61 = .ok (.bipush (-2), 2) := by decide +kernel
theorem dX1_toldAfter_63 : decode cX1_toldAfter 63 = .ok (.ireturn, 1) := by decide +kernel
theorem dX1_told_0 : decode cX1_told 0 = .ok (.iload_n 1, 1) := by decide +kernel
theorem dX1_told_1 : decode cX1_told 1 = .ok (.tableswitch 53 0 3 #[31, 36, 42, 48], 31) := by decide +kernel
theorem dX1_told_32 : decode cX1_told 32 = .ok (.aload_n 0, 1) := by decide +kernel
theorem dX1_told_33 : decode cX1_told 33 = .ok (.getfield 34, 3) := by decide +kernel
theorem dX1_told_36 : decode cX1_told 36 = .ok (.ireturn, 1) := by decide +kernel
theorem dX1_told_37 : decode cX1_told 37 = .ok (.aload_n 0, 1) := by decide +kernel
theorem dX1_told_38 : decode cX1_told 38 = .ok (.iconst 1, 1) := by decide +kernel
theorem dX1_told_39 : decode cX1_told 39 = .ok (.invokevirtual 150, 3) := by decide +kernel
theorem dX1_told_42 : decode cX1_told 42 = .ok (.ireturn, 1) := by decide +kernel
theorem dX1_told_43 : decode cX1_told 43 = .ok (.aload_n 0, 1) := by decide +kernel
theorem dX1_told_44 : decode cX1_told 44 = .ok (.iconst 0, 1) := by decide +kernel
theorem dX1_told_45 : decode cX1_told 45 = .ok (.invokevirtual 150, 3) := by decide +kernel
theorem dX1_told_48 : decode cX1_told 48 = .ok (.ireturn, 1) := by decide +kernel
theorem dX1_told_49 : decode cX1_told 49 = .ok (.aload_n 0, 1) := by decide +kernel
theorem dX1_told_50 : decode cX1_told 50 = .ok (.getfield 38, 3) := by decide +kernel
theorem dX1_told_53 : decode cX1_told 53 = .ok (.ireturn, 1) := by decide +kernel
theorem dX1_told_54 : decode cX1_told 54 = .ok (.iload_n 1, 1) := by decide +kernel
theorem dX1_told_55 : decode cX1_told 55 = .ok (.bipush 10, 2) := by decide +kernel
theorem dX1_told_57 : decode cX1_told 57 = .ok (.irem, 1) := by decide +kernel
theorem dX1_told_58 : decode cX1_told 58 = .ok (.istore_n 2, 1) := by decide +kernel
theorem dX1_told_59 : decode cX1_told 59 = .ok (.aload_n 0, 1) := by decide +kernel
theorem dX1_told_60 : decode cX1_told 60 = .ok (.getfield 25, 3) := by decide +kernel
theorem dX1_told_63 : decode cX1_told 63 = .ok (.iload_n 2, 1) := by decide +kernel
theorem dX1_told_64 : decode cX1_told 64 = .ok (.invokevirtual 112, 3) := by decide +kernel
theorem dX1_told_67 : decode cX1_told 67 = .ok (.ifCond .ne 6, 3) := by decide +kernel
theorem dX1_told_70 : decode cX1_told 70 = .ok (.bipush (-2), 2) := by decide +kernel
theorem dX1_told_72 : decode cX1_told 72 = .ok (.ireturn, 1) := by decide +kernel
theorem dX1_told_73 : decode cX1_told 73 = .ok (.iload_n 1, 1) := by decide +kernel
theorem dX1_told_74 : decode cX1_told 74 = .ok (.bipush 10, 2) := by decide +kernel
theorem dX1_told_76 : decode cX1_told 76 = .ok (.idiv, 1) := by decide +kernel
theorem dX1_told_77 : decode cX1_told 77 = .ok (.tableswitch 54 1 3 #[27, 37, 44], 27) := by decide +kernel
theorem dX1_told_104 : decode cX1_told 104 = .ok (.aload_n 0, 1) := by decide +kernel
theorem dX1_told_105 : decode cX1_told 105 = .ok (.getfield 12, 3) := by decide +kernel
theorem dX1_told_108 : decode cX1_told 108 = .ok (.getfield 154, 3) := by decide +kernel
theorem dX1_told_111 : decode cX1_told 111 = .ok (.iload_n 2, 1) := by decide +kernel
theorem dX1_told_112 : decode cX1_told 112 = .ok (.iaload, 1) := by decide +kernel
theorem dX1_told_113 : decode cX1_told 113 = .ok (.ireturn, 1) := by decide +kernel
theorem dX1_told_114 : decode cX1_told 114 = .ok (.aload_n 0, 1) := by decide +kernel
theorem dX1_told_115 : decode cX1_told 115 = .ok (.getfield 18, 3) := by decide +kernel
theorem dX1_told_118 : decode cX1_told 118 = .ok (.iload_n 2, 1) := by decide +kernel
theorem dX1_told_119 : decode cX1_told 119 = .ok (.iaload, 1) := by decide +kernel
theorem dX1_told_120 : decode cX1_told 120 = .ok (.ireturn, 1) := by decide +kernel
theorem dX1_told_121 : decode cX1_told 121 = .ok (.aload_n 0, 1) := by decide +kernel
theorem dX1_told_122 : decode cX1_told 122 = .ok (.getfield 12, 3) := by decide +kernel
theorem dX1_told_125 : decode cX1_told 125 = .ok (.getfield 157, 3) := by decide +kernel
theorem dX1_told_128 : decode cX1_told 128 = .ok (.iload_n 2, 1) := by decide +kernel
theorem dX1_told_129 : decode cX1_told 129 = .ok (.iaload, 1) := by decide +kernel
theorem dX1_told_130 : decode cX1_told 130 = .ok (.ireturn, 1) := by decide +kernel
theorem dX1_told_131 : decode cX1_told 131 = .ok (.bipush (-2), 2) := by decide +kernel
theorem dX1_told_133 : decode cX1_told 133 = .ok (.ireturn, 1) := by decide +kernel
theorem dX1_move_0 : decode cX1_move 0 = .ok (.aload_n 0, 1) := by decide +kernel
theorem dX1_move_1 : decode cX1_move 1 = .ok (.getfield 25, 3) := by decide +kernel
theorem dX1_move_4 : decode cX1_move 4 = .ok (.iload_n 1, 1) := by decide +kernel
theorem dX1_move_5 : decode cX1_move 5 = .ok (.invokevirtual 112, 3) := by decide +kernel
theorem dX1_move_8 : decode cX1_move 8 = .ok (.ifCond .eq 14, 3) := by decide +kernel
theorem dX1_move_11 : decode cX1_move 11 = .ok (.aload_n 0, 1) := by decide +kernel
theorem dX1_move_12 : decode cX1_move 12 = .ok (.getfield 25, 3) := by decide +kernel
theorem dX1_move_15 : decode cX1_move 15 = .ok (.iload_n 2, 1) := by decide +kernel
theorem dX1_move_16 : decode cX1_move 16 = .ok (.invokevirtual 112, 3) := by decide +kernel
theorem dX1_move_19 : decode cX1_move 19 = .ok (.ifCond .ne 4, 3) := by decide +kernel
theorem dX1_move_22 : decode cX1_move 22 = .ok (.return_, 1) := by decide +kernel
theorem dX1_move_23 : decode cX1_move 23 = .ok (.aload_n 0, 1) := by decide +kernel
theorem dX1_move_24 : decode cX1_move 24 = .ok (.getfield 18, 3) := by decide +kernel
theorem dX1_move_27 : decode cX1_move 27 = .ok (.iload_n 1, 1) := by decide +kernel
theorem dX1_move_28 : decode cX1_move 28 = .ok (.dup2, 1) := by decide +kernel
theorem dX1_move_29 : decode cX1_move 29 = .ok (.iaload, 1) := by decide +kernel
theorem dX1_move_30 : decode cX1_move 30 = .ok (.iconst 1, 1) := by decide +kernel
theorem dX1_move_31 : decode cX1_move 31 = .ok (.isub, 1) := by decide +kernel
theorem dX1_move_32 : decode cX1_move 32 = .ok (.iastore, 1) := by decide +kernel
theorem dX1_move_33 : decode cX1_move 33 = .ok (.aload_n 0, 1) := by decide +kernel
theorem dX1_move_34 : decode cX1_move 34 = .ok (.getfield 18, 3) := by decide +kernel
theorem dX1_move_37 : decode cX1_move 37 = .ok (.iload_n 2, 1) := by decide +kernel
theorem dX1_move_38 : decode cX1_move 38 = .ok (.dup2, 1) := by decide +kernel
theorem dX1_move_39 : decode cX1_move 39 = .ok (.iaload, 1) := by decide +kernel
theorem dX1_move_40 : decode cX1_move 40 = .ok (.iconst 1, 1) := by decide +kernel
theorem dX1_move_41 : decode cX1_move 41 = .ok (.iadd, 1) := by decide +kernel
theorem dX1_move_42 : decode cX1_move 42 = .ok (.iastore, 1) := by decide +kernel
theorem dX1_move_43 : decode cX1_move 43 = .ok (.iload_n 1, 1) := by decide +kernel
theorem dX1_move_44 : decode cX1_move 44 = .ok (.iload_n 2, 1) := by decide +kernel
theorem dX1_move_45 : decode cX1_move 45 = .ok (.if_icmp .eq 13, 3) := by decide +kernel
theorem dX1_move_48 : decode cX1_move 48 = .ok (.aload_n 0, 1) := by decide +kernel
theorem dX1_move_49 : decode cX1_move 49 = .ok (.dup, 1) := by decide +kernel
theorem dX1_move_50 : decode cX1_move 50 = .ok (.getfield 50, 3) := by decide +kernel
theorem dX1_move_53 : decode cX1_move 53 = .ok (.iconst 1, 1) := by decide +kernel
theorem dX1_move_54 : decode cX1_move 54 = .ok (.iadd, 1) := by decide +kernel
theorem dX1_move_55 : decode cX1_move 55 = .ok (.putfield 50, 3) := by decide +kernel
theorem dX1_move_58 : decode cX1_move 58 = .ok (.aload_n 0, 1) := by decide +kernel
theorem dX1_move_59 : decode cX1_move 59 = .ok (.getfield 44, 3) := by decide +kernel
theorem dX1_move_62 : decode cX1_move 62 = .ok (.iconst (-1), 1) := by decide +kernel
theorem dX1_move_63 : decode cX1_move 63 = .ok (.if_icmp .ne 33, 3) := by decide +kernel
theorem dX1_move_66 : decode cX1_move 66 = .ok (.aload_n 0, 1) := by decide +kernel
theorem dX1_move_67 : decode cX1_move 67 = .ok (.getfield 25, 3) := by decide +kernel
theorem dX1_move_70 : decode cX1_move 70 = .ok (.iload_n 2, 1) := by decide +kernel
theorem dX1_move_71 : decode cX1_move 71 = .ok (.invokevirtual 135, 3) := by decide +kernel
theorem dX1_move_74 : decode cX1_move 74 = .ok (.ifCond .eq 22, 3) := by decide +kernel
theorem dX1_move_77 : decode cX1_move 77 = .ok (.aload_n 0, 1) := by decide +kernel
theorem dX1_move_78 : decode cX1_move 78 = .ok (.getfield 25, 3) := by decide +kernel
theorem dX1_move_81 : decode cX1_move 81 = .ok (.iload_n 1, 1) := by decide +kernel
theorem dX1_move_82 : decode cX1_move 82 = .ok (.invokevirtual 135, 3) := by decide +kernel
theorem dX1_move_85 : decode cX1_move 85 = .ok (.ifCond .ne 11, 3) := by decide +kernel
theorem dX1_move_88 : decode cX1_move 88 = .ok (.aload_n 0, 1) := by decide +kernel
theorem dX1_move_89 : decode cX1_move 89 = .ok (.aload_n 0, 1) := by decide +kernel
theorem dX1_move_90 : decode cX1_move 90 = .ok (.getfield 41, 3) := by decide +kernel
theorem dX1_move_93 : decode cX1_move 93 = .ok (.putfield 44, 3) := by decide +kernel
theorem dX1_move_96 : decode cX1_move 96 = .ok (.return_, 1) := by decide +kernel
theorem dX1_add_0 : decode cX1_add 0 = .ok (.aload_n 0, 1) := by decide +kernel
theorem dX1_add_1 : decode cX1_add 1 = .ok (.getfield 25, 3) := by decide +kernel
theorem dX1_add_4 : decode cX1_add 4 = .ok (.iload_n 1, 1) := by decide +kernel
theorem dX1_add_5 : decode cX1_add 5 = .ok (.invokevirtual 112, 3) := by decide +kernel
theorem dX1_add_8 : decode cX1_add 8 = .ok (.ifCond .eq 14, 3) := by decide +kernel
theorem dX1_add_11 : decode cX1_add 11 = .ok (.aload_n 0, 1) := by decide +kernel
theorem dX1_add_12 : decode cX1_add 12 = .ok (.getfield 18, 3) := by decide +kernel
theorem dX1_add_15 : decode cX1_add 15 = .ok (.iload_n 1, 1) := by decide +kernel
theorem dX1_add_16 : decode cX1_add 16 = .ok (.iaload, 1) := by decide +kernel
theorem dX1_add_17 : decode cX1_add 17 = .ok (.bipush 99, 2) := by decide +kernel
theorem dX1_add_19 : decode cX1_add 19 = .ok (.if_icmp .lt 5, 3) := by decide +kernel
theorem dX1_add_22 : decode cX1_add 22 = .ok (.iconst 0, 1) := by decide +kernel
theorem dX1_add_23 : decode cX1_add 23 = .ok (.ireturn, 1) := by decide +kernel
theorem dX1_add_24 : decode cX1_add 24 = .ok (.aload_n 0, 1) := by decide +kernel
theorem dX1_add_25 : decode cX1_add 25 = .ok (.getfield 18, 3) := by decide +kernel
theorem dX1_add_28 : decode cX1_add 28 = .ok (.iload_n 1, 1) := by decide +kernel
theorem dX1_add_29 : decode cX1_add 29 = .ok (.dup2, 1) := by decide +kernel
theorem dX1_add_30 : decode cX1_add 30 = .ok (.iaload, 1) := by decide +kernel
theorem dX1_add_31 : decode cX1_add 31 = .ok (.iconst 1, 1) := by decide +kernel
theorem dX1_add_32 : decode cX1_add 32 = .ok (.iadd, 1) := by decide +kernel
theorem dX1_add_33 : decode cX1_add 33 = .ok (.iastore, 1) := by decide +kernel
theorem dX1_add_34 : decode cX1_add 34 = .ok (.iconst 1, 1) := by decide +kernel
theorem dX1_add_35 : decode cX1_add 35 = .ok (.ireturn, 1) := by decide +kernel
theorem dX1_go_0 : decode cX1_go 0 = .ok (.aload_n 0, 1) := by decide +kernel
theorem dX1_go_1 : decode cX1_go 1 = .ok (.getfield 25, 3) := by decide +kernel
theorem dX1_go_4 : decode cX1_go 4 = .ok (.iload_n 1, 1) := by decide +kernel
theorem dX1_go_5 : decode cX1_go 5 = .ok (.invokevirtual 112, 3) := by decide +kernel
theorem dX1_go_8 : decode cX1_go 8 = .ok (.ifCond .eq 13, 3) := by decide +kernel
theorem dX1_go_11 : decode cX1_go 11 = .ok (.aload_n 0, 1) := by decide +kernel
theorem dX1_go_12 : decode cX1_go 12 = .ok (.getfield 18, 3) := by decide +kernel
theorem dX1_go_15 : decode cX1_go 15 = .ok (.iload_n 1, 1) := by decide +kernel
theorem dX1_go_16 : decode cX1_go 16 = .ok (.iaload, 1) := by decide +kernel
theorem dX1_go_17 : decode cX1_go 17 = .ok (.iconst 1, 1) := by decide +kernel
theorem dX1_go_18 : decode cX1_go 18 = .ok (.if_icmp .ge 5, 3) := by decide +kernel
theorem dX1_go_21 : decode cX1_go 21 = .ok (.iconst 0, 1) := by decide +kernel
theorem dX1_go_22 : decode cX1_go 22 = .ok (.ireturn, 1) := by decide +kernel
theorem dX1_go_23 : decode cX1_go 23 = .ok (.aload_n 0, 1) := by decide +kernel
theorem dX1_go_24 : decode cX1_go 24 = .ok (.getfield 12, 3) := by decide +kernel
theorem dX1_go_27 : decode cX1_go 27 = .ok (.iload_n 1, 1) := by decide +kernel
theorem dX1_go_28 : decode cX1_go 28 = .ok (.invokevirtual 115, 3) := by decide +kernel
theorem dX1_go_31 : decode cX1_go 31 = .ok (.istore_n 2, 1) := by decide +kernel
theorem dX1_go_32 : decode cX1_go 32 = .ok (.iload_n 2, 1) := by decide +kernel
theorem dX1_go_33 : decode cX1_go 33 = .ok (.iconst (-1), 1) := by decide +kernel
theorem dX1_go_34 : decode cX1_go 34 = .ok (.if_icmp .ne 5, 3) := by decide +kernel
theorem dX1_go_37 : decode cX1_go 37 = .ok (.iconst 0, 1) := by decide +kernel
theorem dX1_go_38 : decode cX1_go 38 = .ok (.ireturn, 1) := by decide +kernel
theorem dX1_go_39 : decode cX1_go 39 = .ok (.aload_n 0, 1) := by decide +kernel
theorem dX1_go_40 : decode cX1_go 40 = .ok (.dup, 1) := by decide +kernel
theorem dX1_go_41 : decode cX1_go 41 = .ok (.getfield 34, 3) := by decide +kernel
theorem dX1_go_44 : decode cX1_go 44 = .ok (.iconst 1, 1) := by decide +kernel
theorem dX1_go_45 : decode cX1_go 45 = .ok (.iadd, 1) := by decide +kernel
theorem dX1_go_46 : decode cX1_go 46 = .ok (.putfield 34, 3) := by decide +kernel
theorem dX1_go_49 : decode cX1_go 49 = .ok (.aload_n 0, 1) := by decide +kernel
theorem dX1_go_50 : decode cX1_go 50 = .ok (.iload_n 1, 1) := by decide +kernel
theorem dX1_go_51 : decode cX1_go 51 = .ok (.iload_n 2, 1) := by decide +kernel
theorem dX1_go_52 : decode cX1_go 52 = .ok (.invokevirtual 118, 3) := by decide +kernel
theorem dX1_go_55 : decode cX1_go 55 = .ok (.iconst 1, 1) := by decide +kernel
theorem dX1_go_56 : decode cX1_go 56 = .ok (.ireturn, 1) := by decide +kernel
theorem dX1_run_0 : decode cX1_run 0 = .ok (.aload_n 0, 1) := by decide +kernel
theorem dX1_run_1 : decode cX1_run 1 = .ok (.getfield 25, 3) := by decide +kernel
theorem dX1_run_4 : decode cX1_run 4 = .ok (.iload_n 1, 1) := by decide +kernel
theorem dX1_run_5 : decode cX1_run 5 = .ok (.invokevirtual 112, 3) := by decide +kernel
theorem dX1_run_8 : decode cX1_run 8 = .ok (.ifCond .eq 13, 3) := by decide +kernel
theorem dX1_run_11 : decode cX1_run 11 = .ok (.aload_n 0, 1) := by decide +kernel
theorem dX1_run_12 : decode cX1_run 12 = .ok (.getfield 18, 3) := by decide +kernel
theorem dX1_run_15 : decode cX1_run 15 = .ok (.iload_n 1, 1) := by decide +kernel
theorem dX1_run_16 : decode cX1_run 16 = .ok (.iaload, 1) := by decide +kernel
theorem dX1_run_17 : decode cX1_run 17 = .ok (.iconst 1, 1) := by decide +kernel
theorem dX1_run_18 : decode cX1_run 18 = .ok (.if_icmp .ge 5, 3) := by decide +kernel
theorem dX1_run_21 : decode cX1_run 21 = .ok (.iconst 0, 1) := by decide +kernel
theorem dX1_run_22 : decode cX1_run 22 = .ok (.ireturn, 1) := by decide +kernel
theorem dX1_run_23 : decode cX1_run 23 = .ok (.aload_n 0, 1) := by decide +kernel
theorem dX1_run_24 : decode cX1_run 24 = .ok (.getfield 12, 3) := by decide +kernel
theorem dX1_run_27 : decode cX1_run 27 = .ok (.iload_n 1, 1) := by decide +kernel
theorem dX1_run_28 : decode cX1_run 28 = .ok (.invokevirtual 122, 3) := by decide +kernel
theorem dX1_run_31 : decode cX1_run 31 = .ok (.aload_n 0, 1) := by decide +kernel
theorem dX1_run_32 : decode cX1_run 32 = .ok (.dup, 1) := by decide +kernel
theorem dX1_run_33 : decode cX1_run 33 = .ok (.getfield 34, 3) := by decide +kernel
theorem dX1_run_36 : decode cX1_run 36 = .ok (.aload_n 0, 1) := by decide +kernel
theorem dX1_run_37 : decode cX1_run 37 = .ok (.getfield 12, 3) := by decide +kernel
theorem dX1_run_40 : decode cX1_run 40 = .ok (.getfield 125, 3) := by decide +kernel
theorem dX1_run_43 : decode cX1_run 43 = .ok (.iadd, 1) := by decide +kernel
theorem dX1_run_44 : decode cX1_run 44 = .ok (.putfield 34, 3) := by decide +kernel
theorem dX1_run_47 : decode cX1_run 47 = .ok (.aload_n 0, 1) := by decide +kernel
theorem dX1_run_48 : decode cX1_run 48 = .ok (.aload_n 0, 1) := by decide +kernel
theorem dX1_run_49 : decode cX1_run 49 = .ok (.getfield 47, 3) := by decide +kernel
theorem dX1_run_52 : decode cX1_run 52 = .ok (.aload_n 0, 1) := by decide +kernel
theorem dX1_run_53 : decode cX1_run 53 = .ok (.getfield 12, 3) := by decide +kernel
theorem dX1_run_56 : decode cX1_run 56 = .ok (.getfield 125, 3) := by decide +kernel
theorem dX1_run_59 : decode cX1_run 59 = .ok (.invokestatic 126, 3) := by decide +kernel
theorem dX1_run_62 : decode cX1_run 62 = .ok (.putfield 47, 3) := by decide +kernel
theorem dX1_run_65 : decode cX1_run 65 = .ok (.aload_n 0, 1) := by decide +kernel
theorem dX1_run_66 : decode cX1_run 66 = .ok (.getfield 25, 3) := by decide +kernel
theorem dX1_run_69 : decode cX1_run 69 = .ok (.aload_n 0, 1) := by decide +kernel
theorem dX1_run_70 : decode cX1_run 70 = .ok (.getfield 12, 3) := by decide +kernel
theorem dX1_run_73 : decode cX1_run 73 = .ok (.getfield 132, 3) := by decide +kernel
theorem dX1_run_76 : decode cX1_run 76 = .ok (.invokevirtual 135, 3) := by decide +kernel
theorem dX1_run_79 : decode cX1_run 79 = .ok (.ifCond .ne 13, 3) := by decide +kernel
theorem dX1_run_82 : decode cX1_run 82 = .ok (.aload_n 0, 1) := by decide +kernel
theorem dX1_run_83 : decode cX1_run 83 = .ok (.dup, 1) := by decide +kernel
theorem dX1_run_84 : decode cX1_run 84 = .ok (.getfield 38, 3) := by decide +kernel
theorem dX1_run_87 : decode cX1_run 87 = .ok (.iconst 1, 1) := by decide +kernel
theorem dX1_run_88 : decode cX1_run 88 = .ok (.iadd, 1) := by decide +kernel
theorem dX1_run_89 : decode cX1_run 89 = .ok (.putfield 38, 3) := by decide +kernel
theorem dX1_run_92 : decode cX1_run 92 = .ok (.aload_n 0, 1) := by decide +kernel
theorem dX1_run_93 : decode cX1_run 93 = .ok (.iload_n 1, 1) := by decide +kernel
theorem dX1_run_94 : decode cX1_run 94 = .ok (.aload_n 0, 1) := by decide +kernel
theorem dX1_run_95 : decode cX1_run 95 = .ok (.getfield 12, 3) := by decide +kernel
theorem dX1_run_98 : decode cX1_run 98 = .ok (.getfield 132, 3) := by decide +kernel
theorem dX1_run_101 : decode cX1_run 101 = .ok (.invokevirtual 118, 3) := by decide +kernel
theorem dX1_run_104 : decode cX1_run 104 = .ok (.iconst 1, 1) := by decide +kernel
theorem dX1_run_105 : decode cX1_run 105 = .ok (.ireturn, 1) := by decide +kernel
theorem dX1_shut_0 : decode cX1_shut 0 = .ok (.aload_n 0, 1) := by decide +kernel
theorem dX1_shut_1 : decode cX1_shut 1 = .ok (.getfield 25, 3) := by decide +kernel
theorem dX1_shut_4 : decode cX1_shut 4 = .ok (.iload_n 1, 1) := by decide +kernel
theorem dX1_shut_5 : decode cX1_shut 5 = .ok (.iload_n 2, 1) := by decide +kernel
theorem dX1_shut_6 : decode cX1_shut 6 = .ok (.invokevirtual 138, 3) := by decide +kernel
theorem dX1_shut_9 : decode cX1_shut 9 = .ok (.ifCond .eq 19, 3) := by decide +kernel
theorem dX1_shut_12 : decode cX1_shut 12 = .ok (.aload_n 0, 1) := by decide +kernel
theorem dX1_shut_13 : decode cX1_shut 13 = .ok (.getfield 12, 3) := by decide +kernel
theorem dX1_shut_16 : decode cX1_shut 16 = .ok (.iload_n 1, 1) := by decide +kernel
theorem dX1_shut_17 : decode cX1_shut 17 = .ok (.iload_n 2, 1) := by decide +kernel
theorem dX1_shut_18 : decode cX1_shut 18 = .ok (.invokevirtual 141, 3) := by decide +kernel
theorem dX1_shut_21 : decode cX1_shut 21 = .ok (.ifCond .ne 7, 3) := by decide +kernel
theorem dX1_shut_24 : decode cX1_shut 24 = .ok (.iconst 1, 1) := by decide +kernel
theorem dX1_shut_25 : decode cX1_shut 25 = .ok (.goto 4, 3) := by decide +kernel
theorem dX1_shut_28 : decode cX1_shut 28 = .ok (.iconst 0, 1) := by decide +kernel
theorem dX1_shut_29 : decode cX1_shut 29 = .ok (.istore_n 3, 1) := by decide +kernel
theorem dX1_shut_30 : decode cX1_shut 30 = .ok (.iload_n 3, 1) := by decide +kernel
theorem dX1_shut_31 : decode cX1_shut 31 = .ok (.ifCond .eq 12, 3) := by decide +kernel
theorem dX1_shut_34 : decode cX1_shut 34 = .ok (.aload_n 0, 1) := by decide +kernel
theorem dX1_shut_35 : decode cX1_shut 35 = .ok (.getfield 12, 3) := by decide +kernel
theorem dX1_shut_38 : decode cX1_shut 38 = .ok (.iload_n 1, 1) := by decide +kernel
theorem dX1_shut_39 : decode cX1_shut 39 = .ok (.iload_n 2, 1) := by decide +kernel
theorem dX1_shut_40 : decode cX1_shut 40 = .ok (.invokevirtual 144, 3) := by decide +kernel
theorem dX1_shut_43 : decode cX1_shut 43 = .ok (.iload_n 3, 1) := by decide +kernel
theorem dX1_shut_44 : decode cX1_shut 44 = .ok (.ireturn, 1) := by decide +kernel
theorem dX1_open_0 : decode cX1_open 0 = .ok (.aload_n 0, 1) := by decide +kernel
theorem dX1_open_1 : decode cX1_open 1 = .ok (.getfield 12, 3) := by decide +kernel
theorem dX1_open_4 : decode cX1_open 4 = .ok (.iload_n 1, 1) := by decide +kernel
theorem dX1_open_5 : decode cX1_open 5 = .ok (.iload_n 2, 1) := by decide +kernel
theorem dX1_open_6 : decode cX1_open 6 = .ok (.invokevirtual 141, 3) := by decide +kernel
theorem dX1_open_9 : decode cX1_open 9 = .ok (.istore_n 3, 1) := by decide +kernel
theorem dX1_open_10 : decode cX1_open 10 = .ok (.iload_n 3, 1) := by decide +kernel
theorem dX1_open_11 : decode cX1_open 11 = .ok (.ifCond .eq 12, 3) := by decide +kernel
theorem dX1_open_14 : decode cX1_open 14 = .ok (.aload_n 0, 1) := by decide +kernel
theorem dX1_open_15 : decode cX1_open 15 = .ok (.getfield 12, 3) := by decide +kernel
theorem dX1_open_18 : decode cX1_open 18 = .ok (.iload_n 1, 1) := by decide +kernel
theorem dX1_open_19 : decode cX1_open 19 = .ok (.iload_n 2, 1) := by decide +kernel
theorem dX1_open_20 : decode cX1_open 20 = .ok (.invokevirtual 147, 3) := by decide +kernel
theorem dX1_open_23 : decode cX1_open 23 = .ok (.iload_n 3, 1) := by decide +kernel
theorem dX1_open_24 : decode cX1_open 24 = .ok (.ireturn, 1) := by decide +kernel


theorem m_ml_RX4_3 : Cond.methodLink RX4 3 objectInit ∈ zT := zmem1 zsub_1 40 (by decide +kernel) (by decide +kernel)
theorem m_ar_int : Cond.arrayClass .int ∈ zT := zmem1 zsub_1 80 (by decide +kernel) (by decide +kernel)
theorem m_fl_RX4_9 : Cond.fieldLink RX4 9 (TX4 2).1 (TX4 2).2.1 (TX4 2).2.2.1 ∈ zT := zmem1 zsub_1 52 (by decide +kernel) (by decide +kernel)
theorem m_fl_RX4_15 : Cond.fieldLink RX4 15 (TX4 3).1 (TX4 3).2.1 (TX4 3).2.2.1 ∈ zT := zmem1 zsub_1 54 (by decide +kernel) (by decide +kernel)
theorem m_fl_RX4_18 : Cond.fieldLink RX4 18 (TX4 4).1 (TX4 4).2.1 (TX4 4).2.2.1 ∈ zT := zmem1 zsub_1 56 (by decide +kernel) (by decide +kernel)
theorem m_fl_RX4_21 : Cond.fieldLink RX4 21 (TX4 5).1 (TX4 5).2.1 (TX4 5).2.2.1 ∈ zT := zmem1 zsub_1 63 (by decide +kernel) (by decide +kernel)
theorem m_ml_RX2_3 : Cond.methodLink RX2 3 objectInit ∈ zT := zmem1 zsub_1 87 (by decide +kernel) (by decide +kernel)
theorem m_fl_RX2_9 : Cond.fieldLink RX2 9 (TX2 1).1 (TX2 1).2.1 (TX2 1).2.2.1 ∈ zT := zmem1 zsub_1 92 (by decide +kernel) (by decide +kernel)
theorem m_fl_RX2_15 : Cond.fieldLink RX2 15 (TX2 2).1 (TX2 2).2.1 (TX2 2).2.2.1 ∈ zT := zmem1 zsub_1 94 (by decide +kernel) (by decide +kernel)
theorem m_fl_RX2_18 : Cond.fieldLink RX2 18 (TX2 3).1 (TX2 3).2.1 (TX2 3).2.2.1 ∈ zT := zmem1 zsub_1 96 (by decide +kernel) (by decide +kernel)
theorem m_ml_RX5_3 : Cond.methodLink RX5 3 objectInit ∈ zT := zmem1 zsub_1 113 (by decide +kernel) (by decide +kernel)
theorem m_fl_RX5_9 : Cond.fieldLink RX5 9 (TX5 1).1 (TX5 1).2.1 (TX5 1).2.2.1 ∈ zT := zmem1 zsub_1 117 (by decide +kernel) (by decide +kernel)
theorem m_fl_RX5_15 : Cond.fieldLink RX5 15 (TX5 2).1 (TX5 2).2.1 (TX5 2).2.2.1 ∈ zT := zmem1 zsub_1 119 (by decide +kernel) (by decide +kernel)
theorem m_ml_RX9_3 : Cond.methodLink RX9 3 objectInit ∈ zT := zmem1 zsub_1 33 (by decide +kernel) (by decide +kernel)
theorem m_ar_byte : Cond.arrayClass .byte ∈ zT := zmem1 zsub_1 79 (by decide +kernel) (by decide +kernel)
theorem m_fl_RX9_9 : Cond.fieldLink RX9 9 (TX9 0).1 (TX9 0).2.1 (TX9 0).2.2.1 ∈ zT := zmem1 zsub_1 128 (by decide +kernel) (by decide +kernel)
theorem m_fl_RX9_15 : Cond.fieldLink RX9 15 (TX9 3).1 (TX9 3).2.1 (TX9 3).2.2.1 ∈ zT := zmem1 zsub_1 134 (by decide +kernel) (by decide +kernel)
theorem m_fl_RX9_19 : Cond.fieldLink RX9 19 (TX9 4).1 (TX9 4).2.1 (TX9 4).2.2.1 ∈ zT := zmem1 zsub_1 136 (by decide +kernel) (by decide +kernel)
theorem m_cl_RX9_23 : Cond.classLink RX9 23 RX4 ∈ zT := zmem1 zsub_1 34 (by decide +kernel) (by decide +kernel)
theorem m_in_RX4 : Cond.instantiable RX4 6 ∈ zT := zmem1 zsub_1 36 (by decide +kernel) (by decide +kernel)
theorem m_ii_RX4 : Cond.initialized RX4 ∈ zT := zmem1 zsub_1 3 (by decide +kernel) (by decide +kernel)
theorem m_co_X4_init : Cond.code yX4_init cX4_init 1 none ∈ zT := zmem1 zsub_1 39 (by decide +kernel) (by decide +kernel)
theorem m_im_X4_init : Cond.instanceMethod yX4_init ∈ zT := zmem1 zsub_1 38 (by decide +kernel) (by decide +kernel)
theorem m_fl_RX9_26 : Cond.fieldLink RX9 26 (TX9 5).1 (TX9 5).2.1 (TX9 5).2.2.1 ∈ zT := zmem1 zsub_1 138 (by decide +kernel) (by decide +kernel)
theorem m_cl_RX9_30 : Cond.classLink RX9 30 RX2 ∈ zT := zmem1 zsub_1 81 (by decide +kernel) (by decide +kernel)
theorem m_in_RX2 : Cond.instantiable RX2 4 ∈ zT := zmem1 zsub_1 83 (by decide +kernel) (by decide +kernel)
theorem m_ii_RX2 : Cond.initialized RX2 ∈ zT := zmem1 zsub_1 4 (by decide +kernel) (by decide +kernel)
theorem m_co_X2_init : Cond.code yX2_init cX2_init 1 none ∈ zT := zmem1 zsub_1 86 (by decide +kernel) (by decide +kernel)
theorem m_im_X2_init : Cond.instanceMethod yX2_init ∈ zT := zmem1 zsub_1 85 (by decide +kernel) (by decide +kernel)
theorem m_fl_RX9_33 : Cond.fieldLink RX9 33 (TX9 6).1 (TX9 6).2.1 (TX9 6).2.2.1 ∈ zT := zmem1 zsub_1 139 (by decide +kernel) (by decide +kernel)
theorem m_cl_RX9_37 : Cond.classLink RX9 37 RX5 ∈ zT := zmem1 zsub_1 107 (by decide +kernel) (by decide +kernel)
theorem m_in_RX5 : Cond.instantiable RX5 3 ∈ zT := zmem1 zsub_1 109 (by decide +kernel) (by decide +kernel)
theorem m_ii_RX5 : Cond.initialized RX5 ∈ zT := zmem1 zsub_1 5 (by decide +kernel) (by decide +kernel)
theorem m_co_X5_init : Cond.code yX5_init cX5_init 1 none ∈ zT := zmem1 zsub_1 112 (by decide +kernel) (by decide +kernel)
theorem m_im_X5_init : Cond.instanceMethod yX5_init ∈ zT := zmem1 zsub_1 111 (by decide +kernel) (by decide +kernel)
theorem m_fl_RX9_40 : Cond.fieldLink RX9 40 (TX9 7).1 (TX9 7).2.1 (TX9 7).2.2.1 ∈ zT := zmem1 zsub_1 140 (by decide +kernel) (by decide +kernel)
theorem m_ml_RX6_3 : Cond.methodLink RX6 3 objectInit ∈ zT := zmem1 zsub_1 222 (by decide +kernel) (by decide +kernel)
theorem m_cl_RX6_9 : Cond.classLink RX6 9 RX4 ∈ zT := zmem1 zsub_1 223 (by decide +kernel) (by decide +kernel)
theorem m_fl_RX6_12 : Cond.fieldLink RX6 12 (TX6 0).1 (TX6 0).2.1 (TX6 0).2.2.1 ∈ zT := zmem1 zsub_1 225 (by decide +kernel) (by decide +kernel)
theorem m_fl_RX6_18 : Cond.fieldLink RX6 18 (TX6 1).1 (TX6 1).2.1 (TX6 1).2.2.1 ∈ zT := zmem1 zsub_1 227 (by decide +kernel) (by decide +kernel)
theorem m_fl_RX6_22 : Cond.fieldLink RX6 22 (TX6 2).1 (TX6 2).2.1 (TX6 2).2.2.1 ∈ zT := zmem1 zsub_1 231 (by decide +kernel) (by decide +kernel)
theorem m_fl_RX6_25 : Cond.fieldLink RX6 25 (TX6 5).1 (TX6 5).2.1 (TX6 5).2.2.1 ∈ zT := zmem1 zsub_1 238 (by decide +kernel) (by decide +kernel)
theorem m_ml_RX10_3 : Cond.methodLink RX10 3 objectInit ∈ zT := zmem1 zsub_2 64 (by decide +kernel) (by decide +kernel)
theorem m_cl_RX10_9 : Cond.classLink RX10 9 RX6 ∈ zT := zmem1 zsub_2 65 (by decide +kernel) (by decide +kernel)
theorem m_in_RX6 : Cond.instantiable RX6 6 ∈ zT := zmem1 zsub_1 218 (by decide +kernel) (by decide +kernel)
theorem m_ii_RX6 : Cond.initialized RX6 ∈ zT := zmem1 zsub_1 7 (by decide +kernel) (by decide +kernel)
theorem m_co_X6_init : Cond.code yX6_init cX6_init 1 none ∈ zT := zmem1 zsub_1 221 (by decide +kernel) (by decide +kernel)
theorem m_im_X6_init : Cond.instanceMethod yX6_init ∈ zT := zmem1 zsub_1 220 (by decide +kernel) (by decide +kernel)
theorem m_fl_RX10_12 : Cond.fieldLink RX10 12 (TX10 0).1 (TX10 0).2.1 (TX10 0).2.2.1 ∈ zT := zmem1 zsub_2 67 (by decide +kernel) (by decide +kernel)
theorem m_fl_RX10_18 : Cond.fieldLink RX10 18 (TX10 1).1 (TX10 1).2.1 (TX10 1).2.2.1 ∈ zT := zmem1 zsub_2 68 (by decide +kernel) (by decide +kernel)
theorem m_fl_RX10_22 : Cond.fieldLink RX10 22 (TX10 2).1 (TX10 2).2.1 (TX10 2).2.2.1 ∈ zT := zmem1 zsub_2 70 (by decide +kernel) (by decide +kernel)
theorem m_ml_RX1_3 : Cond.methodLink RX1 3 objectInit ∈ zT := zmem1 zsub_2 17 (by decide +kernel) (by decide +kernel)
theorem m_cl_RX1_9 : Cond.classLink RX1 9 RX6 ∈ zT := zmem1 zsub_2 18 (by decide +kernel) (by decide +kernel)
theorem m_fl_RX1_12 : Cond.fieldLink RX1 12 (TX1 0).1 (TX1 0).2.1 (TX1 0).2.2.1 ∈ zT := zmem1 zsub_2 22 (by decide +kernel) (by decide +kernel)
theorem m_fl_RX1_18 : Cond.fieldLink RX1 18 (TX1 1).1 (TX1 1).2.1 (TX1 1).2.2.1 ∈ zT := zmem1 zsub_2 24 (by decide +kernel) (by decide +kernel)
theorem m_cl_RX1_22 : Cond.classLink RX1 22 RX4 ∈ zT := zmem1 zsub_2 20 (by decide +kernel) (by decide +kernel)
theorem m_fl_RX1_25 : Cond.fieldLink RX1 25 (TX1 3).1 (TX1 3).2.1 (TX1 3).2.2.1 ∈ zT := zmem1 zsub_2 28 (by decide +kernel) (by decide +kernel)
theorem m_ml_RX0_5 : Cond.methodLink RX0 5 objectInit ∈ zT := zmem1 zsub_2 102 (by decide +kernel) (by decide +kernel)
theorem m_cl_RX0_11 : Cond.classLink RX0 11 RX4 ∈ zT := zmem1 zsub_2 103 (by decide +kernel) (by decide +kernel)
theorem m_fl_RX0_14 : Cond.fieldLink RX0 14 (TX0 2).1 (TX0 2).2.1 (TX0 2).2.2.1 ∈ zT := zmem1 zsub_2 110 (by decide +kernel) (by decide +kernel)
theorem m_fl_RX0_18 : Cond.fieldLink RX0 18 (TX0 4).1 (TX0 4).2.1 (TX0 4).2.2.1 ∈ zT := zmem1 zsub_2 113 (by decide +kernel) (by decide +kernel)
theorem m_fl_RX0_22 : Cond.fieldLink RX0 22 (TX0 5).1 (TX0 5).2.1 (TX0 5).2.2.1 ∈ zT := zmem1 zsub_2 114 (by decide +kernel) (by decide +kernel)
theorem m_fl_RX0_25 : Cond.fieldLink RX0 25 (TX0 6).1 (TX0 6).2.1 (TX0 6).2.2.1 ∈ zT := zmem1 zsub_2 115 (by decide +kernel) (by decide +kernel)
theorem m_fl_RX0_28 : Cond.fieldLink RX0 28 (TX0 7).1 (TX0 7).2.1 (TX0 7).2.2.1 ∈ zT := zmem1 zsub_2 116 (by decide +kernel) (by decide +kernel)
theorem m_fl_RX0_31 : Cond.fieldLink RX0 31 (TX0 8).1 (TX0 8).2.1 (TX0 8).2.2.1 ∈ zT := zmem1 zsub_2 117 (by decide +kernel) (by decide +kernel)
theorem m_fl_RX0_34 : Cond.fieldLink RX0 34 (TX0 9).1 (TX0 9).2.1 (TX0 9).2.2.1 ∈ zT := zmem1 zsub_2 118 (by decide +kernel) (by decide +kernel)
theorem m_ml_RX3_5 : Cond.methodLink RX3 5 objectInit ∈ zT := zmem1 zsub_2 145 (by decide +kernel) (by decide +kernel)
theorem m_fl_RX3_11 : Cond.fieldLink RX3 11 (TX3 1).1 (TX3 1).2.1 (TX3 1).2.2.1 ∈ zT := zmem1 zsub_2 147 (by decide +kernel) (by decide +kernel)
theorem m_fl_RX3_15 : Cond.fieldLink RX3 15 (TX3 2).1 (TX3 2).2.1 (TX3 2).2.2.1 ∈ zT := zmem1 zsub_2 149 (by decide +kernel) (by decide +kernel)
theorem m_fl_RX3_18 : Cond.fieldLink RX3 18 (TX3 6).1 (TX3 6).2.1 (TX3 6).2.2.1 ∈ zT := zmem1 zsub_2 157 (by decide +kernel) (by decide +kernel)
theorem m_fl_RX3_22 : Cond.fieldLink RX3 22 (TX3 7).1 (TX3 7).2.1 (TX3 7).2.2.1 ∈ zT := zmem1 zsub_2 158 (by decide +kernel) (by decide +kernel)
theorem m_ml_RX7_3 : Cond.methodLink RX7 3 objectInit ∈ zT := zmem1 zsub_1 164 (by decide +kernel) (by decide +kernel)
theorem m_cl_RX7_9 : Cond.classLink RX7 9 RX4 ∈ zT := zmem1 zsub_1 165 (by decide +kernel) (by decide +kernel)
theorem m_fl_RX7_12 : Cond.fieldLink RX7 12 (TX7 0).1 (TX7 0).2.1 (TX7 0).2.2.1 ∈ zT := zmem1 zsub_1 171 (by decide +kernel) (by decide +kernel)
theorem m_cl_RX7_18 : Cond.classLink RX7 18 RX2 ∈ zT := zmem1 zsub_1 167 (by decide +kernel) (by decide +kernel)
theorem m_fl_RX7_21 : Cond.fieldLink RX7 21 (TX7 1).1 (TX7 1).2.1 (TX7 1).2.2.1 ∈ zT := zmem1 zsub_1 173 (by decide +kernel) (by decide +kernel)
theorem m_cl_RX7_25 : Cond.classLink RX7 25 RX5 ∈ zT := zmem1 zsub_1 169 (by decide +kernel) (by decide +kernel)
theorem m_fl_RX7_28 : Cond.fieldLink RX7 28 (TX7 2).1 (TX7 2).2.1 (TX7 2).2.2.1 ∈ zT := zmem1 zsub_1 175 (by decide +kernel) (by decide +kernel)
theorem m_fl_RX7_32 : Cond.fieldLink RX7 32 (TX7 5).1 (TX7 5).2.1 (TX7 5).2.2.1 ∈ zT := zmem1 zsub_1 181 (by decide +kernel) (by decide +kernel)
theorem kJ_RX9_25 {R : Room} {s : State} {args : Array Value} {d mc ms : Nat} (hX : zX s) (hts : ∀ w ∈ zT, w.before args s = true) (h1 : d + 1 ≤ R.frames) (h2 : 8 + (1 + 11) + 40 * d ≤ R.locals) : va_CN R s args RX9 25 yX4_init RX11 cX4_init 1 none (zW yX4_init cX4_init 1 none) (zR d mc ms) mc ms 0 ∧ yX4_init.name = "<init>" ∧ (Cond.instanceMethod yX4_init).before args s = true := z_cwJ hts m_co_X4_init (hX.1 (RX9, 25, yX4_init, RX11) (List.mem_of_getElem? (i := 14) rfl)) m_im_X4_init m_ii_RX4 rfl (by decide +kernel) h1 h2
theorem kJ_RX9_32 {R : Room} {s : State} {args : Array Value} {d mc ms : Nat} (hX : zX s) (hts : ∀ w ∈ zT, w.before args s = true) (h1 : d + 1 ≤ R.frames) (h2 : 8 + (1 + 11) + 40 * d ≤ R.locals) : va_CN R s args RX9 32 yX2_init RX11 cX2_init 1 none (zW yX2_init cX2_init 1 none) (zR d mc ms) mc ms 0 ∧ yX2_init.name = "<init>" ∧ (Cond.instanceMethod yX2_init).before args s = true := z_cwJ hts m_co_X2_init (hX.1 (RX9, 32, yX2_init, RX11) (List.mem_of_getElem? (i := 15) rfl)) m_im_X2_init m_ii_RX2 rfl (by decide +kernel) h1 h2
theorem kJ_RX9_39 {R : Room} {s : State} {args : Array Value} {d mc ms : Nat} (hX : zX s) (hts : ∀ w ∈ zT, w.before args s = true) (h1 : d + 1 ≤ R.frames) (h2 : 8 + (1 + 11) + 40 * d ≤ R.locals) : va_CN R s args RX9 39 yX5_init RX11 cX5_init 1 none (zW yX5_init cX5_init 1 none) (zR d mc ms) mc ms 0 ∧ yX5_init.name = "<init>" ∧ (Cond.instanceMethod yX5_init).before args s = true := z_cwJ hts m_co_X5_init (hX.1 (RX9, 39, yX5_init, RX11) (List.mem_of_getElem? (i := 16) rfl)) m_im_X5_init m_ii_RX5 rfl (by decide +kernel) h1 h2
theorem kJ_RX6_11 {R : Room} {s : State} {args : Array Value} {d mc ms : Nat} (hX : zX s) (hts : ∀ w ∈ zT, w.before args s = true) (h1 : d + 1 ≤ R.frames) (h2 : 8 + (1 + 11) + 40 * d ≤ R.locals) : va_CN R s args RX6 11 yX4_init RX11 cX4_init 1 none (zW yX4_init cX4_init 1 none) (zR d mc ms) mc ms 0 ∧ yX4_init.name = "<init>" ∧ (Cond.instanceMethod yX4_init).before args s = true := z_cwJ hts m_co_X4_init (hX.1 (RX6, 11, yX4_init, RX11) (List.mem_of_getElem? (i := 10) rfl)) m_im_X4_init m_ii_RX4 rfl (by decide +kernel) h1 h2
theorem kJ_RX10_11 {R : Room} {s : State} {args : Array Value} {d mc ms : Nat} (hX : zX s) (hts : ∀ w ∈ zT, w.before args s = true) (h1 : d + 1 ≤ R.frames) (h2 : 8 + (1 + 11) + 40 * d ≤ R.locals) : va_CN R s args RX10 11 yX6_init RX11 cX6_init 1 none (zW yX6_init cX6_init 1 none) (zR d mc ms) mc ms 0 ∧ yX6_init.name = "<init>" ∧ (Cond.instanceMethod yX6_init).before args s = true := z_cwJ hts m_co_X6_init (hX.1 (RX10, 11, yX6_init, RX11) (List.mem_of_getElem? (i := 17) rfl)) m_im_X6_init m_ii_RX6 rfl (by decide +kernel) h1 h2
theorem kJ_RX1_11 {R : Room} {s : State} {args : Array Value} {d mc ms : Nat} (hX : zX s) (hts : ∀ w ∈ zT, w.before args s = true) (h1 : d + 1 ≤ R.frames) (h2 : 8 + (1 + 11) + 40 * d ≤ R.locals) : va_CN R s args RX1 11 yX6_init RX11 cX6_init 1 none (zW yX6_init cX6_init 1 none) (zR d mc ms) mc ms 0 ∧ yX6_init.name = "<init>" ∧ (Cond.instanceMethod yX6_init).before args s = true := z_cwJ hts m_co_X6_init (hX.1 (RX1, 11, yX6_init, RX11) (List.mem_of_getElem? (i := 8) rfl)) m_im_X6_init m_ii_RX6 rfl (by decide +kernel) h1 h2
theorem kJ_RX1_24 {R : Room} {s : State} {args : Array Value} {d mc ms : Nat} (hX : zX s) (hts : ∀ w ∈ zT, w.before args s = true) (h1 : d + 1 ≤ R.frames) (h2 : 8 + (1 + 11) + 40 * d ≤ R.locals) : va_CN R s args RX1 24 yX4_init RX11 cX4_init 1 none (zW yX4_init cX4_init 1 none) (zR d mc ms) mc ms 0 ∧ yX4_init.name = "<init>" ∧ (Cond.instanceMethod yX4_init).before args s = true := z_cwJ hts m_co_X4_init (hX.1 (RX1, 24, yX4_init, RX11) (List.mem_of_getElem? (i := 9) rfl)) m_im_X4_init m_ii_RX4 rfl (by decide +kernel) h1 h2
theorem kJ_RX0_13 {R : Room} {s : State} {args : Array Value} {d mc ms : Nat} (hX : zX s) (hts : ∀ w ∈ zT, w.before args s = true) (h1 : d + 1 ≤ R.frames) (h2 : 8 + (1 + 11) + 40 * d ≤ R.locals) : va_CN R s args RX0 13 yX4_init RX11 cX4_init 1 none (zW yX4_init cX4_init 1 none) (zR d mc ms) mc ms 0 ∧ yX4_init.name = "<init>" ∧ (Cond.instanceMethod yX4_init).before args s = true := z_cwJ hts m_co_X4_init (hX.1 (RX0, 13, yX4_init, RX11) (List.mem_of_getElem? (i := 7) rfl)) m_im_X4_init m_ii_RX4 rfl (by decide +kernel) h1 h2
theorem kJ_RX7_11 {R : Room} {s : State} {args : Array Value} {d mc ms : Nat} (hX : zX s) (hts : ∀ w ∈ zT, w.before args s = true) (h1 : d + 1 ≤ R.frames) (h2 : 8 + (1 + 11) + 40 * d ≤ R.locals) : va_CN R s args RX7 11 yX4_init RX11 cX4_init 1 none (zW yX4_init cX4_init 1 none) (zR d mc ms) mc ms 0 ∧ yX4_init.name = "<init>" ∧ (Cond.instanceMethod yX4_init).before args s = true := z_cwJ hts m_co_X4_init (hX.1 (RX7, 11, yX4_init, RX11) (List.mem_of_getElem? (i := 11) rfl)) m_im_X4_init m_ii_RX4 rfl (by decide +kernel) h1 h2
theorem kJ_RX7_20 {R : Room} {s : State} {args : Array Value} {d mc ms : Nat} (hX : zX s) (hts : ∀ w ∈ zT, w.before args s = true) (h1 : d + 1 ≤ R.frames) (h2 : 8 + (1 + 11) + 40 * d ≤ R.locals) : va_CN R s args RX7 20 yX2_init RX11 cX2_init 1 none (zW yX2_init cX2_init 1 none) (zR d mc ms) mc ms 0 ∧ yX2_init.name = "<init>" ∧ (Cond.instanceMethod yX2_init).before args s = true := z_cwJ hts m_co_X2_init (hX.1 (RX7, 20, yX2_init, RX11) (List.mem_of_getElem? (i := 12) rfl)) m_im_X2_init m_ii_RX2 rfl (by decide +kernel) h1 h2
theorem kJ_RX7_27 {R : Room} {s : State} {args : Array Value} {d mc ms : Nat} (hX : zX s) (hts : ∀ w ∈ zT, w.before args s = true) (h1 : d + 1 ≤ R.frames) (h2 : 8 + (1 + 11) + 40 * d ≤ R.locals) : va_CN R s args RX7 27 yX5_init RX11 cX5_init 1 none (zW yX5_init cX5_init 1 none) (zR d mc ms) mc ms 0 ∧ yX5_init.name = "<init>" ∧ (Cond.instanceMethod yX5_init).before args s = true := z_cwJ hts m_co_X5_init (hX.1 (RX7, 27, yX5_init, RX11) (List.mem_of_getElem? (i := 13) rfl)) m_im_X5_init m_ii_RX5 rfl (by decide +kernel) h1 h2
theorem dX4_init_0 : decode cX4_init 0 = .ok (.aload_n 0, 1) := by decide +kernel
theorem dX4_init_1 : decode cX4_init 1 = .ok (.invokespecial 3, 3) := by decide +kernel
theorem dX4_init_4 : decode cX4_init 4 = .ok (.aload_n 0, 1) := by decide +kernel
theorem dX4_init_5 : decode cX4_init 5 = .ok (.bipush 7, 2) := by decide +kernel
theorem dX4_init_7 : decode cX4_init 7 = .ok (.newarray .int, 2) := by decide +kernel
theorem dX4_init_9 : decode cX4_init 9 = .ok (.putfield 9, 3) := by decide +kernel
theorem dX4_init_12 : decode cX4_init 12 = .ok (.aload_n 0, 1) := by decide +kernel
theorem dX4_init_13 : decode cX4_init 13 = .ok (.bipush 28, 2) := by decide +kernel
theorem dX4_init_15 : decode cX4_init 15 = .ok (.newarray .int, 2) := by decide +kernel
theorem dX4_init_17 : decode cX4_init 17 = .ok (.putfield 15, 3) := by decide +kernel
theorem dX4_init_20 : decode cX4_init 20 = .ok (.aload_n 0, 1) := by decide +kernel
theorem dX4_init_21 : decode cX4_init 21 = .ok (.bipush 7, 2) := by decide +kernel
theorem dX4_init_23 : decode cX4_init 23 = .ok (.newarray .int, 2) := by decide +kernel
theorem dX4_init_25 : decode cX4_init 25 = .ok (.putfield 18, 3) := by decide +kernel
theorem dX4_init_28 : decode cX4_init 28 = .ok (.aload_n 0, 1) := by decide +kernel
theorem dX4_init_29 : decode cX4_init 29 = .ok (.bipush 7, 2) := by decide +kernel
theorem dX4_init_31 : decode cX4_init 31 = .ok (.newarray .int, 2) := by decide +kernel
theorem dX4_init_33 : decode cX4_init 33 = .ok (.putfield 21, 3) := by decide +kernel
theorem dX4_init_36 : decode cX4_init 36 = .ok (.return_, 1) := by decide +kernel
theorem dX2_init_0 : decode cX2_init 0 = .ok (.aload_n 0, 1) := by decide +kernel
theorem dX2_init_1 : decode cX2_init 1 = .ok (.invokespecial 3, 3) := by decide +kernel
theorem dX2_init_4 : decode cX2_init 4 = .ok (.aload_n 0, 1) := by decide +kernel
theorem dX2_init_5 : decode cX2_init 5 = .ok (.bipush 40, 2) := by decide +kernel
theorem dX2_init_7 : decode cX2_init 7 = .ok (.newarray .int, 2) := by decide +kernel
theorem dX2_init_9 : decode cX2_init 9 = .ok (.putfield 9, 3) := by decide +kernel
theorem dX2_init_12 : decode cX2_init 12 = .ok (.aload_n 0, 1) := by decide +kernel
theorem dX2_init_13 : decode cX2_init 13 = .ok (.bipush 40, 2) := by decide +kernel
theorem dX2_init_15 : decode cX2_init 15 = .ok (.newarray .int, 2) := by decide +kernel
theorem dX2_init_17 : decode cX2_init 17 = .ok (.putfield 15, 3) := by decide +kernel
theorem dX2_init_20 : decode cX2_init 20 = .ok (.aload_n 0, 1) := by decide +kernel
theorem dX2_init_21 : decode cX2_init 21 = .ok (.bipush 40, 2) := by decide +kernel
theorem dX2_init_23 : decode cX2_init 23 = .ok (.newarray .int, 2) := by decide +kernel
theorem dX2_init_25 : decode cX2_init 25 = .ok (.putfield 18, 3) := by decide +kernel
theorem dX2_init_28 : decode cX2_init 28 = .ok (.return_, 1) := by decide +kernel
theorem dX5_init_0 : decode cX5_init 0 = .ok (.aload_n 0, 1) := by decide +kernel
theorem dX5_init_1 : decode cX5_init 1 = .ok (.invokespecial 3, 3) := by decide +kernel
theorem dX5_init_4 : decode cX5_init 4 = .ok (.aload_n 0, 1) := by decide +kernel
theorem dX5_init_5 : decode cX5_init 5 = .ok (.bipush 8, 2) := by decide +kernel
theorem dX5_init_7 : decode cX5_init 7 = .ok (.newarray .int, 2) := by decide +kernel
theorem dX5_init_9 : decode cX5_init 9 = .ok (.putfield 9, 3) := by decide +kernel
theorem dX5_init_12 : decode cX5_init 12 = .ok (.aload_n 0, 1) := by decide +kernel
theorem dX5_init_13 : decode cX5_init 13 = .ok (.bipush 8, 2) := by decide +kernel
theorem dX5_init_15 : decode cX5_init 15 = .ok (.newarray .int, 2) := by decide +kernel
theorem dX5_init_17 : decode cX5_init 17 = .ok (.putfield 15, 3) := by decide +kernel
theorem dX5_init_20 : decode cX5_init 20 = .ok (.return_, 1) := by decide +kernel
theorem dX9_init_0 : decode cX9_init 0 = .ok (.aload_n 0, 1) := by decide +kernel
theorem dX9_init_1 : decode cX9_init 1 = .ok (.invokespecial 3, 3) := by decide +kernel
theorem dX9_init_4 : decode cX9_init 4 = .ok (.aload_n 0, 1) := by decide +kernel
theorem dX9_init_5 : decode cX9_init 5 = .ok (.sipush 600, 3) := by decide +kernel
theorem dX9_init_8 : decode cX9_init 8 = .ok (.newarray .byte, 2) := by decide +kernel
theorem dX9_init_10 : decode cX9_init 10 = .ok (.putfield 9, 3) := by decide +kernel
theorem dX9_init_13 : decode cX9_init 13 = .ok (.aload_n 0, 1) := by decide +kernel
theorem dX9_init_14 : decode cX9_init 14 = .ok (.iconst (-1), 1) := by decide +kernel
theorem dX9_init_15 : decode cX9_init 15 = .ok (.putfield 15, 3) := by decide +kernel
theorem dX9_init_18 : decode cX9_init 18 = .ok (.aload_n 0, 1) := by decide +kernel
theorem dX9_init_19 : decode cX9_init 19 = .ok (.iconst 3, 1) := by decide +kernel
theorem dX9_init_20 : decode cX9_init 20 = .ok (.newarray .int, 2) := by decide +kernel
theorem dX9_init_22 : decode cX9_init 22 = .ok (.putfield 19, 3) := by decide +kernel
theorem dX9_init_25 : decode cX9_init 25 = .ok (.aload_n 0, 1) := by decide +kernel
theorem dX9_init_26 : decode cX9_init 26 = .ok (.iconst 2, 1) := by decide +kernel
theorem dX9_init_27 : decode cX9_init 27 = .ok (.anewarray 23, 3) := by decide +kernel
theorem dX9_init_30 : decode cX9_init 30 = .ok (.dup, 1) := by decide +kernel
theorem dX9_init_31 : decode cX9_init 31 = .ok (.iconst 0, 1) := by decide +kernel
theorem dX9_init_32 : decode cX9_init 32 = .ok (.new 23, 3) := by decide +kernel
theorem dX9_init_35 : decode cX9_init 35 = .ok (.dup, 1) := by decide +kernel
theorem dX9_init_36 : decode cX9_init 36 = .ok (.invokespecial 25, 3) := by decide +kernel
theorem dX9_init_39 : decode cX9_init 39 = .ok (.aastore, 1) := by decide +kernel
theorem dX9_init_40 : decode cX9_init 40 = .ok (.dup, 1) := by decide +kernel
theorem dX9_init_41 : decode cX9_init 41 = .ok (.iconst 1, 1) := by decide +kernel
theorem dX9_init_42 : decode cX9_init 42 = .ok (.new 23, 3) := by decide +kernel
theorem dX9_init_45 : decode cX9_init 45 = .ok (.dup, 1) := by decide +kernel
theorem dX9_init_46 : decode cX9_init 46 = .ok (.invokespecial 25, 3) := by decide +kernel
theorem dX9_init_49 : decode cX9_init 49 = .ok (.aastore, 1) := by decide +kernel
theorem dX9_init_50 : decode cX9_init 50 = .ok (.putfield 26, 3) := by decide +kernel
theorem dX9_init_53 : decode cX9_init 53 = .ok (.aload_n 0, 1) := by decide +kernel
theorem dX9_init_54 : decode cX9_init 54 = .ok (.iconst 2, 1) := by decide +kernel
theorem dX9_init_55 : decode cX9_init 55 = .ok (.anewarray 30, 3) := by decide +kernel
theorem dX9_init_58 : decode cX9_init 58 = .ok (.dup, 1) := by decide +kernel
theorem dX9_init_59 : decode cX9_init 59 = .ok (.iconst 0, 1) := by decide +kernel
theorem dX9_init_60 : decode cX9_init 60 = .ok (.new 30, 3) := by decide +kernel
theorem dX9_init_63 : decode cX9_init 63 = .ok (.dup, 1) := by decide +kernel
theorem dX9_init_64 : decode cX9_init 64 = .ok (.invokespecial 32, 3) := by decide +kernel
theorem dX9_init_67 : decode cX9_init 67 = .ok (.aastore, 1) := by decide +kernel
theorem dX9_init_68 : decode cX9_init 68 = .ok (.dup, 1) := by decide +kernel
theorem dX9_init_69 : decode cX9_init 69 = .ok (.iconst 1, 1) := by decide +kernel
theorem dX9_init_70 : decode cX9_init 70 = .ok (.new 30, 3) := by decide +kernel
theorem dX9_init_73 : decode cX9_init 73 = .ok (.dup, 1) := by decide +kernel
theorem dX9_init_74 : decode cX9_init 74 = .ok (.invokespecial 32, 3) := by decide +kernel
theorem dX9_init_77 : decode cX9_init 77 = .ok (.aastore, 1) := by decide +kernel
theorem dX9_init_78 : decode cX9_init 78 = .ok (.putfield 33, 3) := by decide +kernel
theorem dX9_init_81 : decode cX9_init 81 = .ok (.aload_n 0, 1) := by decide +kernel
theorem dX9_init_82 : decode cX9_init 82 = .ok (.iconst 2, 1) := by decide +kernel
theorem dX9_init_83 : decode cX9_init 83 = .ok (.anewarray 37, 3) := by decide +kernel
theorem dX9_init_86 : decode cX9_init 86 = .ok (.dup, 1) := by decide +kernel
theorem dX9_init_87 : decode cX9_init 87 = .ok (.iconst 0, 1) := by decide +kernel
theorem dX9_init_88 : decode cX9_init 88 = .ok (.new 37, 3) := by decide +kernel
theorem dX9_init_91 : decode cX9_init 91 = .ok (.dup, 1) := by decide +kernel
theorem dX9_init_92 : decode cX9_init 92 = .ok (.invokespecial 39, 3) := by decide +kernel
theorem dX9_init_95 : decode cX9_init 95 = .ok (.aastore, 1) := by decide +kernel
theorem dX9_init_96 : decode cX9_init 96 = .ok (.dup, 1) := by decide +kernel
theorem dX9_init_97 : decode cX9_init 97 = .ok (.iconst 1, 1) := by decide +kernel
theorem dX9_init_98 : decode cX9_init 98 = .ok (.new 37, 3) := by decide +kernel
theorem dX9_init_101 : decode cX9_init 101 = .ok (.dup, 1) := by decide +kernel
theorem dX9_init_102 : decode cX9_init 102 = .ok (.invokespecial 39, 3) := by decide +kernel
theorem dX9_init_105 : decode cX9_init 105 = .ok (.aastore, 1) := by decide +kernel
theorem dX9_init_106 : decode cX9_init 106 = .ok (.putfield 40, 3) := by decide +kernel
theorem dX9_init_109 : decode cX9_init 109 = .ok (.return_, 1) := by decide +kernel
theorem dX6_init_0 : decode cX6_init 0 = .ok (.aload_n 0, 1) := by decide +kernel
theorem dX6_init_1 : decode cX6_init 1 = .ok (.invokespecial 3, 3) := by decide +kernel
theorem dX6_init_4 : decode cX6_init 4 = .ok (.aload_n 0, 1) := by decide +kernel
theorem dX6_init_5 : decode cX6_init 5 = .ok (.new 9, 3) := by decide +kernel
theorem dX6_init_8 : decode cX6_init 8 = .ok (.dup, 1) := by decide +kernel
theorem dX6_init_9 : decode cX6_init 9 = .ok (.invokespecial 11, 3) := by decide +kernel
theorem dX6_init_12 : decode cX6_init 12 = .ok (.putfield 12, 3) := by decide +kernel
theorem dX6_init_15 : decode cX6_init 15 = .ok (.aload_n 0, 1) := by decide +kernel
theorem dX6_init_16 : decode cX6_init 16 = .ok (.bipush 7, 2) := by decide +kernel
theorem dX6_init_18 : decode cX6_init 18 = .ok (.newarray .int, 2) := by decide +kernel
theorem dX6_init_20 : decode cX6_init 20 = .ok (.putfield 18, 3) := by decide +kernel
theorem dX6_init_23 : decode cX6_init 23 = .ok (.aload_n 0, 1) := by decide +kernel
theorem dX6_init_24 : decode cX6_init 24 = .ok (.bipush 7, 2) := by decide +kernel
theorem dX6_init_26 : decode cX6_init 26 = .ok (.newarray .int, 2) := by decide +kernel
theorem dX6_init_28 : decode cX6_init 28 = .ok (.putfield 22, 3) := by decide +kernel
theorem dX6_init_31 : decode cX6_init 31 = .ok (.aload_n 0, 1) := by decide +kernel
theorem dX6_init_32 : decode cX6_init 32 = .ok (.bipush 7, 2) := by decide +kernel
theorem dX6_init_34 : decode cX6_init 34 = .ok (.newarray .int, 2) := by decide +kernel
theorem dX6_init_36 : decode cX6_init 36 = .ok (.putfield 25, 3) := by decide +kernel
theorem dX6_init_39 : decode cX6_init 39 = .ok (.return_, 1) := by decide +kernel
theorem dX10_init_0 : decode cX10_init 0 = .ok (.aload_n 0, 1) := by decide +kernel
theorem dX10_init_1 : decode cX10_init 1 = .ok (.invokespecial 3, 3) := by decide +kernel
theorem dX10_init_4 : decode cX10_init 4 = .ok (.aload_n 0, 1) := by decide +kernel
theorem dX10_init_5 : decode cX10_init 5 = .ok (.new 9, 3) := by decide +kernel
theorem dX10_init_8 : decode cX10_init 8 = .ok (.dup, 1) := by decide +kernel
theorem dX10_init_9 : decode cX10_init 9 = .ok (.invokespecial 11, 3) := by decide +kernel
theorem dX10_init_12 : decode cX10_init 12 = .ok (.putfield 12, 3) := by decide +kernel
theorem dX10_init_15 : decode cX10_init 15 = .ok (.aload_n 0, 1) := by decide +kernel
theorem dX10_init_16 : decode cX10_init 16 = .ok (.bipush 7, 2) := by decide +kernel
theorem dX10_init_18 : decode cX10_init 18 = .ok (.newarray .int, 2) := by decide +kernel
theorem dX10_init_20 : decode cX10_init 20 = .ok (.putfield 18, 3) := by decide +kernel
theorem dX10_init_23 : decode cX10_init 23 = .ok (.aload_n 0, 1) := by decide +kernel
theorem dX10_init_24 : decode cX10_init 24 = .ok (.bipush 7, 2) := by decide +kernel
theorem dX10_init_26 : decode cX10_init 26 = .ok (.newarray .int, 2) := by decide +kernel
theorem dX10_init_28 : decode cX10_init 28 = .ok (.putfield 22, 3) := by decide +kernel
theorem dX10_init_31 : decode cX10_init 31 = .ok (.return_, 1) := by decide +kernel
theorem dX1_init_0 : decode cX1_init 0 = .ok (.aload_n 0, 1) := by decide +kernel
theorem dX1_init_1 : decode cX1_init 1 = .ok (.invokespecial 3, 3) := by decide +kernel
theorem dX1_init_4 : decode cX1_init 4 = .ok (.aload_n 0, 1) := by decide +kernel
theorem dX1_init_5 : decode cX1_init 5 = .ok (.new 9, 3) := by decide +kernel
theorem dX1_init_8 : decode cX1_init 8 = .ok (.dup, 1) := by decide +kernel
theorem dX1_init_9 : decode cX1_init 9 = .ok (.invokespecial 11, 3) := by decide +kernel
theorem dX1_init_12 : decode cX1_init 12 = .ok (.putfield 12, 3) := by decide +kernel
theorem dX1_init_15 : decode cX1_init 15 = .ok (.aload_n 0, 1) := by decide +kernel
theorem dX1_init_16 : decode cX1_init 16 = .ok (.bipush 7, 2) := by decide +kernel
theorem dX1_init_18 : decode cX1_init 18 = .ok (.newarray .int, 2) := by decide +kernel
theorem dX1_init_20 : decode cX1_init 20 = .ok (.putfield 18, 3) := by decide +kernel
theorem dX1_init_23 : decode cX1_init 23 = .ok (.aload_n 0, 1) := by decide +kernel
theorem dX1_init_24 : decode cX1_init 24 = .ok (.new 22, 3) := by decide +kernel
theorem dX1_init_27 : decode cX1_init 27 = .ok (.dup, 1) := by decide +kernel
theorem dX1_init_28 : decode cX1_init 28 = .ok (.invokespecial 24, 3) := by decide +kernel
theorem dX1_init_31 : decode cX1_init 31 = .ok (.putfield 25, 3) := by decide +kernel
theorem dX1_init_34 : decode cX1_init 34 = .ok (.return_, 1) := by decide +kernel
theorem dX0_init_0 : decode cX0_init 0 = .ok (.aload_n 0, 1) := by decide +kernel
theorem dX0_init_1 : decode cX0_init 1 = .ok (.invokespecial 5, 3) := by decide +kernel
theorem dX0_init_4 : decode cX0_init 4 = .ok (.aload_n 0, 1) := by decide +kernel
theorem dX0_init_5 : decode cX0_init 5 = .ok (.new 11, 3) := by decide +kernel
theorem dX0_init_8 : decode cX0_init 8 = .ok (.dup, 1) := by decide +kernel
theorem dX0_init_9 : decode cX0_init 9 = .ok (.invokespecial 13, 3) := by decide +kernel
theorem dX0_init_12 : decode cX0_init 12 = .ok (.putfield 14, 3) := by decide +kernel
theorem dX0_init_15 : decode cX0_init 15 = .ok (.aload_n 0, 1) := by decide +kernel
theorem dX0_init_16 : decode cX0_init 16 = .ok (.bipush 7, 2) := by decide +kernel
theorem dX0_init_18 : decode cX0_init 18 = .ok (.newarray .int, 2) := by decide +kernel
theorem dX0_init_20 : decode cX0_init 20 = .ok (.putfield 18, 3) := by decide +kernel
theorem dX0_init_23 : decode cX0_init 23 = .ok (.aload_n 0, 1) := by decide +kernel
theorem dX0_init_24 : decode cX0_init 24 = .ok (.bipush 7, 2) := by decide +kernel
theorem dX0_init_26 : decode cX0_init 26 = .ok (.newarray .int, 2) := by decide +kernel
theorem dX0_init_28 : decode cX0_init 28 = .ok (.putfield 22, 3) := by decide +kernel
theorem dX0_init_31 : decode cX0_init 31 = .ok (.aload_n 0, 1) := by decide +kernel
theorem dX0_init_32 : decode cX0_init 32 = .ok (.bipush 7, 2) := by decide +kernel
theorem dX0_init_34 : decode cX0_init 34 = .ok (.newarray .int, 2) := by decide +kernel
theorem dX0_init_36 : decode cX0_init 36 = .ok (.putfield 25, 3) := by decide +kernel
theorem dX0_init_39 : decode cX0_init 39 = .ok (.aload_n 0, 1) := by decide +kernel
theorem dX0_init_40 : decode cX0_init 40 = .ok (.iconst 0, 1) := by decide +kernel
theorem dX0_init_41 : decode cX0_init 41 = .ok (.newarray .int, 2) := by decide +kernel
theorem dX0_init_43 : decode cX0_init 43 = .ok (.putfield 28, 3) := by decide +kernel
theorem dX0_init_46 : decode cX0_init 46 = .ok (.aload_n 0, 1) := by decide +kernel
theorem dX0_init_47 : decode cX0_init 47 = .ok (.iconst 0, 1) := by decide +kernel
theorem dX0_init_48 : decode cX0_init 48 = .ok (.newarray .int, 2) := by decide +kernel
theorem dX0_init_50 : decode cX0_init 50 = .ok (.putfield 31, 3) := by decide +kernel
theorem dX0_init_53 : decode cX0_init 53 = .ok (.aload_n 0, 1) := by decide +kernel
theorem dX0_init_54 : decode cX0_init 54 = .ok (.iconst 0, 1) := by decide +kernel
theorem dX0_init_55 : decode cX0_init 55 = .ok (.newarray .int, 2) := by decide +kernel
theorem dX0_init_57 : decode cX0_init 57 = .ok (.putfield 34, 3) := by decide +kernel
theorem dX0_init_60 : decode cX0_init 60 = .ok (.return_, 1) := by decide +kernel
theorem dX3_init_0 : decode cX3_init 0 = .ok (.aload_n 0, 1) := by decide +kernel
theorem dX3_init_1 : decode cX3_init 1 = .ok (.invokespecial 5, 3) := by decide +kernel
theorem dX3_init_4 : decode cX3_init 4 = .ok (.aload_n 0, 1) := by decide +kernel
theorem dX3_init_5 : decode cX3_init 5 = .ok (.iconst (-1), 1) := by decide +kernel
theorem dX3_init_6 : decode cX3_init 6 = .ok (.putfield 11, 3) := by decide +kernel
theorem dX3_init_9 : decode cX3_init 9 = .ok (.aload_n 0, 1) := by decide +kernel
theorem dX3_init_10 : decode cX3_init 10 = .ok (.iconst (-1), 1) := by decide +kernel
theorem dX3_init_11 : decode cX3_init 11 = .ok (.putfield 15, 3) := by decide +kernel
theorem dX3_init_14 : decode cX3_init 14 = .ok (.aload_n 0, 1) := by decide +kernel
theorem dX3_init_15 : decode cX3_init 15 = .ok (.iconst 0, 1) := by decide +kernel
theorem dX3_init_16 : decode cX3_init 16 = .ok (.newarray .int, 2) := by decide +kernel
theorem dX3_init_18 : decode cX3_init 18 = .ok (.putfield 18, 3) := by decide +kernel
theorem dX3_init_21 : decode cX3_init 21 = .ok (.aload_n 0, 1) := by decide +kernel
theorem dX3_init_22 : decode cX3_init 22 = .ok (.bipush 7, 2) := by decide +kernel
theorem dX3_init_24 : decode cX3_init 24 = .ok (.newarray .int, 2) := by decide +kernel
theorem dX3_init_26 : decode cX3_init 26 = .ok (.putfield 22, 3) := by decide +kernel
theorem dX3_init_29 : decode cX3_init 29 = .ok (.return_, 1) := by decide +kernel
theorem dX7_init_0 : decode cX7_init 0 = .ok (.aload_n 0, 1) := by decide +kernel
theorem dX7_init_1 : decode cX7_init 1 = .ok (.invokespecial 3, 3) := by decide +kernel
theorem dX7_init_4 : decode cX7_init 4 = .ok (.aload_n 0, 1) := by decide +kernel
theorem dX7_init_5 : decode cX7_init 5 = .ok (.new 9, 3) := by decide +kernel
theorem dX7_init_8 : decode cX7_init 8 = .ok (.dup, 1) := by decide +kernel
theorem dX7_init_9 : decode cX7_init 9 = .ok (.invokespecial 11, 3) := by decide +kernel
theorem dX7_init_12 : decode cX7_init 12 = .ok (.putfield 12, 3) := by decide +kernel
theorem dX7_init_15 : decode cX7_init 15 = .ok (.aload_n 0, 1) := by decide +kernel
theorem dX7_init_16 : decode cX7_init 16 = .ok (.new 18, 3) := by decide +kernel
theorem dX7_init_19 : decode cX7_init 19 = .ok (.dup, 1) := by decide +kernel
theorem dX7_init_20 : decode cX7_init 20 = .ok (.invokespecial 20, 3) := by decide +kernel
theorem dX7_init_23 : decode cX7_init 23 = .ok (.putfield 21, 3) := by decide +kernel
theorem dX7_init_26 : decode cX7_init 26 = .ok (.aload_n 0, 1) := by decide +kernel
theorem dX7_init_27 : decode cX7_init 27 = .ok (.new 25, 3) := by decide +kernel
theorem dX7_init_30 : decode cX7_init 30 = .ok (.dup, 1) := by decide +kernel
theorem dX7_init_31 : decode cX7_init 31 = .ok (.invokespecial 27, 3) := by decide +kernel
theorem dX7_init_34 : decode cX7_init 34 = .ok (.putfield 28, 3) := by decide +kernel
theorem dX7_init_37 : decode cX7_init 37 = .ok (.aload_n 0, 1) := by decide +kernel
theorem dX7_init_38 : decode cX7_init 38 = .ok (.iconst 0, 1) := by decide +kernel
theorem dX7_init_39 : decode cX7_init 39 = .ok (.newarray .byte, 2) := by decide +kernel
theorem dX7_init_41 : decode cX7_init 41 = .ok (.putfield 32, 3) := by decide +kernel
theorem dX7_init_44 : decode cX7_init 44 = .ok (.return_, 1) := by decide +kernel


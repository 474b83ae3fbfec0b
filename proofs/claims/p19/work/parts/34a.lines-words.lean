theorem m_fl_RX7_87 : Cond.fieldLink RX7 87 (TX4 0).1 (TX4 0).2.1 (TX4 0).2.2.1 ∈ zT := zmem1 zsub_1 45 rfl rfl
theorem m_co_X7_readNumber : Cond.code yX7_readNumber cX7_readNumber 3 (some .int) ∈ zT := zmem1 zsub_3 109 rfl rfl
theorem m_ml_RX7_120 : Cond.methodLink RX7 120 yX7_readNumber ∈ zT := zmem1 zsub_3 106 rfl rfl
theorem m_im_X7_readNumber : Cond.instanceMethod yX7_readNumber ∈ zT := zmem1 zsub_3 108 rfl rfl
theorem m_se_X7_readNumber : Cond.selects RX7 yX7_readNumber yX7_readNumber ∈ zT := zmem 9 rfl rfl
theorem m_co_X4_addRoad : Cond.code yX4_addRoad cX4_addRoad 3 none ∈ zT := zmem1 zsub_3 129 rfl rfl
theorem m_ml_RX7_123 : Cond.methodLink RX7 123 yX4_addRoad ∈ zT := zmem1 zsub_3 126 rfl rfl
theorem m_im_X4_addRoad : Cond.instanceMethod yX4_addRoad ∈ zT := zmem1 zsub_3 127 rfl rfl
theorem m_se_X4_addRoad : Cond.selects RX4 yX4_addRoad yX4_addRoad ∈ zT := zmem1 zsub_3 128 rfl rfl
theorem m_co_X7_tellOf : Cond.code yX7_tellOf cX7_tellOf 2 none ∈ zT := zmem1 zsub_3 137 rfl rfl
theorem m_ml_RX7_126 : Cond.methodLink RX7 126 yX7_tellOf ∈ zT := zmem1 zsub_3 134 rfl rfl
theorem m_im_X7_tellOf : Cond.instanceMethod yX7_tellOf ∈ zT := zmem1 zsub_3 136 rfl rfl
theorem m_se_X7_tellOf : Cond.selects RX7 yX7_tellOf yX7_tellOf ∈ zT := zmem 12 rfl rfl
theorem m_fl_RX7_132 : Cond.fieldLink RX7 132 (TX4 5).1 (TX4 5).2.1 (TX4 5).2.2.1 ∈ zT := zmem1 zsub_1 65 rfl rfl
theorem m_fl_RX7_94 : Cond.fieldLink RX7 94 (TX4 4).1 (TX4 4).2.1 (TX4 4).2.2.1 ∈ zT := zmem1 zsub_1 58 rfl rfl
theorem m_fl_RX7_129 : Cond.fieldLink RX7 129 (TX4 1).1 (TX4 1).2.1 (TX4 1).2.2.1 ∈ zT := zmem1 zsub_1 51 rfl rfl
theorem m_fl_RX7_65 : Cond.fieldLink RX7 65 (TX2 0).1 (TX2 0).2.1 (TX2 0).2.2.1 ∈ zT := zmem1 zsub_1 89 rfl rfl
theorem m_co_X2_add : Cond.code yX2_add cX2_add 4 none ∈ zT := zmem1 zsub_3 113 rfl rfl
theorem m_ml_RX7_135 : Cond.methodLink RX7 135 yX2_add ∈ zT := zmem1 zsub_3 110 rfl rfl
theorem m_im_X2_add : Cond.instanceMethod yX2_add ∈ zT := zmem1 zsub_3 111 rfl rfl
theorem m_se_X2_add : Cond.selects RX2 yX2_add yX2_add ∈ zT := zmem1 zsub_3 112 rfl rfl
theorem m_fl_RX7_68 : Cond.fieldLink RX7 68 (TX5 0).1 (TX5 0).2.1 (TX5 0).2.2.1 ∈ zT := zmem1 zsub_1 115 rfl rfl
theorem m_co_X5_add : Cond.code yX5_add cX5_add 3 none ∈ zT := zmem1 zsub_3 121 rfl rfl
theorem m_ml_RX7_139 : Cond.methodLink RX7 139 yX5_add ∈ zT := zmem1 zsub_3 118 rfl rfl
theorem m_im_X5_add : Cond.instanceMethod yX5_add ∈ zT := zmem1 zsub_3 119 rfl rfl
theorem m_se_X5_add : Cond.selects RX5 yX5_add yX5_add ∈ zT := zmem1 zsub_3 120 rfl rfl
theorem m_co_X7_wordOf : Cond.code yX7_wordOf cX7_wordOf 2 (some .int) ∈ zT := zmem1 zsub_3 29 rfl rfl
theorem m_ml_RX7_101 : Cond.methodLink RX7 101 yX7_wordOf ∈ zT := zmem1 zsub_3 26 rfl rfl
theorem m_im_X7_wordOf : Cond.instanceMethod yX7_wordOf ∈ zT := zmem1 zsub_3 28 rfl rfl
theorem m_se_X7_wordOf : Cond.selects RX7 yX7_wordOf yX7_wordOf ∈ zT := zmem 4 rfl rfl
theorem m_co_X7_readOther : Cond.code yX7_readOther cX7_readOther 4 none ∈ zT := zmem1 zsub_3 141 rfl rfl
theorem m_ml_RX7_117 : Cond.methodLink RX7 117 yX7_readOther ∈ zT := zmem1 zsub_3 138 rfl rfl
theorem m_im_X7_readOther : Cond.instanceMethod yX7_readOther ∈ zT := zmem1 zsub_3 140 rfl rfl
theorem m_se_X7_readOther : Cond.selects RX7 yX7_readOther yX7_readOther ∈ zT := zmem 13 rfl rfl
theorem m_co_X7_readCrossing : Cond.code yX7_readCrossing cX7_readCrossing 6 none ∈ zT := zmem1 zsub_3 125 rfl rfl
theorem m_ml_RX7_114 : Cond.methodLink RX7 114 yX7_readCrossing ∈ zT := zmem1 zsub_3 122 rfl rfl
theorem m_im_X7_readCrossing : Cond.instanceMethod yX7_readCrossing ∈ zT := zmem1 zsub_3 124 rfl rfl
theorem m_se_X7_readCrossing : Cond.selects RX7 yX7_readCrossing yX7_readCrossing ∈ zT := zmem 11 rfl rfl
theorem m_co_X7_readFact : Cond.code yX7_readFact cX7_readFact 4 none ∈ zT := zmem1 zsub_3 117 rfl rfl
theorem m_ml_RX7_111 : Cond.methodLink RX7 111 yX7_readFact ∈ zT := zmem1 zsub_3 114 rfl rfl
theorem m_im_X7_readFact : Cond.instanceMethod yX7_readFact ∈ zT := zmem1 zsub_3 116 rfl rfl
theorem m_se_X7_readFact : Cond.selects RX7 yX7_readFact yX7_readFact ∈ zT := zmem 10 rfl rfl
theorem m_co_X7_readDeed : Cond.code yX7_readDeed cX7_readDeed 4 none ∈ zT := zmem1 zsub_3 101 rfl rfl
theorem m_ml_RX7_108 : Cond.methodLink RX7 108 yX7_readDeed ∈ zT := zmem1 zsub_3 98 rfl rfl
theorem m_im_X7_readDeed : Cond.instanceMethod yX7_readDeed ∈ zT := zmem1 zsub_3 100 rfl rfl
theorem m_se_X7_readDeed : Cond.selects RX7 yX7_readDeed yX7_readDeed ∈ zT := zmem 7 rfl rfl
theorem m_fl_RX7_98 : Cond.fieldLink RX7 98 (TX4 2).1 (TX4 2).2.1 (TX4 2).2.2.1 ∈ zT := zmem1 zsub_1 53 rfl rfl
theorem m_co_X4_clear : Cond.code yX4_clear cX4_clear 2 none ∈ zT := zmem1 zsub_3 0 rfl rfl
theorem m_ml_RX7_62 : Cond.methodLink RX7 62 yX4_clear ∈ zT := zmem1 zsub_2 237 rfl rfl
theorem m_im_X4_clear : Cond.instanceMethod yX4_clear ∈ zT := zmem1 zsub_2 238 rfl rfl
theorem m_se_X4_clear : Cond.selects RX4 yX4_clear yX4_clear ∈ zT := zmem1 zsub_2 239 rfl rfl
theorem m_co_X7_lookAtWhole : Cond.code yX7_lookAtWhole cX7_lookAtWhole 2 none ∈ zT := zmem1 zsub_3 145 rfl rfl
theorem m_ml_RX7_81 : Cond.methodLink RX7 81 yX7_lookAtWhole ∈ zT := zmem1 zsub_3 142 rfl rfl
theorem m_im_X7_lookAtWhole : Cond.instanceMethod yX7_lookAtWhole ∈ zT := zmem1 zsub_3 144 rfl rfl
theorem m_se_X7_lookAtWhole : Cond.selects RX7 yX7_lookAtWhole yX7_lookAtWhole ∈ zT := zmem 14 rfl rfl
theorem m_co_X7_readLine : Cond.code yX7_readLine cX7_readLine 3 none ∈ zT := zmem1 zsub_3 25 rfl rfl
theorem m_ml_RX7_77 : Cond.methodLink RX7 77 yX7_readLine ∈ zT := zmem1 zsub_3 22 rfl rfl
theorem m_im_X7_readLine : Cond.instanceMethod yX7_readLine ∈ zT := zmem1 zsub_3 24 rfl rfl
theorem m_se_X7_readLine : Cond.selects RX7 yX7_readLine yX7_readLine ∈ zT := zmem 3 rfl rfl
theorem kV_RX7_120 {R : Room} {s : State} {args : Array Value} {d mc ms : Nat} (hts : ∀ w ∈ zT, w.before args s = true) (h1 : d + 1 ≤ R.frames) (h2 : 8 + (3 + 11) + 40 * d ≤ R.locals) : CallW R s args RX7 RX7 120 yX7_readNumber cX7_readNumber 3 (some .int) (zW yX7_readNumber cX7_readNumber 3 (some .int)) (zR d mc ms) mc ms 1 := z_cwV hts m_co_X7_readNumber m_ml_RX7_120 m_im_X7_readNumber m_se_X7_readNumber m_ii_RX7 (by decide +kernel) h1 h2
theorem kV_RX7_123 {R : Room} {s : State} {args : Array Value} {d mc ms : Nat} (hts : ∀ w ∈ zT, w.before args s = true) (h1 : d + 1 ≤ R.frames) (h2 : 8 + (3 + 11) + 40 * d ≤ R.locals) : CallW R s args RX7 RX4 123 yX4_addRoad cX4_addRoad 3 none (zW yX4_addRoad cX4_addRoad 3 none) (zR d mc ms) mc ms 2 := z_cwV hts m_co_X4_addRoad m_ml_RX7_123 m_im_X4_addRoad m_se_X4_addRoad m_ii_RX4 (by decide +kernel) h1 h2
theorem kV_RX7_126 {R : Room} {s : State} {args : Array Value} {d mc ms : Nat} (hts : ∀ w ∈ zT, w.before args s = true) (h1 : d + 1 ≤ R.frames) (h2 : 8 + (2 + 11) + 40 * d ≤ R.locals) : CallW R s args RX7 RX7 126 yX7_tellOf cX7_tellOf 2 none (zW yX7_tellOf cX7_tellOf 2 none) (zR d mc ms) mc ms 1 := z_cwV hts m_co_X7_tellOf m_ml_RX7_126 m_im_X7_tellOf m_se_X7_tellOf m_ii_RX7 (by decide +kernel) h1 h2
theorem kV_RX7_135 {R : Room} {s : State} {args : Array Value} {d mc ms : Nat} (hts : ∀ w ∈ zT, w.before args s = true) (h1 : d + 1 ≤ R.frames) (h2 : 8 + (4 + 11) + 40 * d ≤ R.locals) : CallW R s args RX7 RX2 135 yX2_add cX2_add 4 none (zW yX2_add cX2_add 4 none) (zR d mc ms) mc ms 3 := z_cwV hts m_co_X2_add m_ml_RX7_135 m_im_X2_add m_se_X2_add m_ii_RX2 (by decide +kernel) h1 h2
theorem kV_RX7_139 {R : Room} {s : State} {args : Array Value} {d mc ms : Nat} (hts : ∀ w ∈ zT, w.before args s = true) (h1 : d + 1 ≤ R.frames) (h2 : 8 + (3 + 11) + 40 * d ≤ R.locals) : CallW R s args RX7 RX5 139 yX5_add cX5_add 3 none (zW yX5_add cX5_add 3 none) (zR d mc ms) mc ms 2 := z_cwV hts m_co_X5_add m_ml_RX7_139 m_im_X5_add m_se_X5_add m_ii_RX5 (by decide +kernel) h1 h2
theorem kV_RX7_101 {R : Room} {s : State} {args : Array Value} {d mc ms : Nat} (hts : ∀ w ∈ zT, w.before args s = true) (h1 : d + 1 ≤ R.frames) (h2 : 8 + (2 + 11) + 40 * d ≤ R.locals) : CallW R s args RX7 RX7 101 yX7_wordOf cX7_wordOf 2 (some .int) (zW yX7_wordOf cX7_wordOf 2 (some .int)) (zR d mc ms) mc ms 1 := z_cwV hts m_co_X7_wordOf m_ml_RX7_101 m_im_X7_wordOf m_se_X7_wordOf m_ii_RX7 (by decide +kernel) h1 h2
theorem kV_RX7_117 {R : Room} {s : State} {args : Array Value} {d mc ms : Nat} (hts : ∀ w ∈ zT, w.before args s = true) (h1 : d + 1 ≤ R.frames) (h2 : 8 + (4 + 11) + 40 * d ≤ R.locals) : CallW R s args RX7 RX7 117 yX7_readOther cX7_readOther 4 none (zW yX7_readOther cX7_readOther 4 none) (zR d mc ms) mc ms 1 := z_cwV hts m_co_X7_readOther m_ml_RX7_117 m_im_X7_readOther m_se_X7_readOther m_ii_RX7 (by decide +kernel) h1 h2
theorem kV_RX7_114 {R : Room} {s : State} {args : Array Value} {d mc ms : Nat} (hts : ∀ w ∈ zT, w.before args s = true) (h1 : d + 1 ≤ R.frames) (h2 : 8 + (6 + 11) + 40 * d ≤ R.locals) : CallW R s args RX7 RX7 114 yX7_readCrossing cX7_readCrossing 6 none (zW yX7_readCrossing cX7_readCrossing 6 none) (zR d mc ms) mc ms 0 := z_cwV hts m_co_X7_readCrossing m_ml_RX7_114 m_im_X7_readCrossing m_se_X7_readCrossing m_ii_RX7 (by decide +kernel) h1 h2
theorem kV_RX7_111 {R : Room} {s : State} {args : Array Value} {d mc ms : Nat} (hts : ∀ w ∈ zT, w.before args s = true) (h1 : d + 1 ≤ R.frames) (h2 : 8 + (4 + 11) + 40 * d ≤ R.locals) : CallW R s args RX7 RX7 111 yX7_readFact cX7_readFact 4 none (zW yX7_readFact cX7_readFact 4 none) (zR d mc ms) mc ms 1 := z_cwV hts m_co_X7_readFact m_ml_RX7_111 m_im_X7_readFact m_se_X7_readFact m_ii_RX7 (by decide +kernel) h1 h2
theorem kV_RX7_108 {R : Room} {s : State} {args : Array Value} {d mc ms : Nat} (hts : ∀ w ∈ zT, w.before args s = true) (h1 : d + 1 ≤ R.frames) (h2 : 8 + (4 + 11) + 40 * d ≤ R.locals) : CallW R s args RX7 RX7 108 yX7_readDeed cX7_readDeed 4 none (zW yX7_readDeed cX7_readDeed 4 none) (zR d mc ms) mc ms 1 := z_cwV hts m_co_X7_readDeed m_ml_RX7_108 m_im_X7_readDeed m_se_X7_readDeed m_ii_RX7 (by decide +kernel) h1 h2
theorem kV_RX7_62 {R : Room} {s : State} {args : Array Value} {d mc ms : Nat} (hts : ∀ w ∈ zT, w.before args s = true) (h1 : d + 1 ≤ R.frames) (h2 : 8 + (2 + 11) + 40 * d ≤ R.locals) : CallW R s args RX7 RX4 62 yX4_clear cX4_clear 2 none (zW yX4_clear cX4_clear 2 none) (zR d mc ms) mc ms 0 := z_cwV hts m_co_X4_clear m_ml_RX7_62 m_im_X4_clear m_se_X4_clear m_ii_RX4 (by decide +kernel) h1 h2
theorem kV_RX7_81 {R : Room} {s : State} {args : Array Value} {d mc ms : Nat} (hts : ∀ w ∈ zT, w.before args s = true) (h1 : d + 1 ≤ R.frames) (h2 : 8 + (2 + 11) + 40 * d ≤ R.locals) : CallW R s args RX7 RX7 81 yX7_lookAtWhole cX7_lookAtWhole 2 none (zW yX7_lookAtWhole cX7_lookAtWhole 2 none) (zR d mc ms) mc ms 0 := z_cwV hts m_co_X7_lookAtWhole m_ml_RX7_81 m_im_X7_lookAtWhole m_se_X7_lookAtWhole m_ii_RX7 (by decide +kernel) h1 h2
theorem kV_RX7_77 {R : Room} {s : State} {args : Array Value} {d mc ms : Nat} (hts : ∀ w ∈ zT, w.before args s = true) (h1 : d + 1 ≤ R.frames) (h2 : 8 + (3 + 11) + 40 * d ≤ R.locals) : CallW R s args RX7 RX7 77 yX7_readLine cX7_readLine 3 none (zW yX7_readLine cX7_readLine 3 none) (zR d mc ms) mc ms 1 := z_cwV hts m_co_X7_readLine m_ml_RX7_77 m_im_X7_readLine m_se_X7_readLine m_ii_RX7 (by decide +kernel) h1 h2
theorem dX7_readCrossing_0 : decode cX7_readCrossing 0 = .ok (.aload_n 0, 1) := zo_42 (by decide +kernel)
theorem dX7_readCrossing_1 : decode cX7_readCrossing 1 = .ok (.getfield 12, 3) := zo_180 (by decide +kernel)
theorem dX7_readCrossing_4 : decode cX7_readCrossing 4 = .ok (.getfield 87, 3) := zo_180 (by decide +kernel)
theorem dX7_readCrossing_7 : decode cX7_readCrossing 7 = .ok (.istore_n 1, 1) := zo_60 (by decide +kernel)
theorem dX7_readCrossing_8 : decode cX7_readCrossing 8 = .ok (.iload_n 1, 1) := zo_27 (by decide +kernel)
theorem dX7_readCrossing_9 : decode cX7_readCrossing 9 = .ok (.bipush 7, 2) := zo_16 (by decide +kernel)
theorem dX7_readCrossing_11 : decode cX7_readCrossing 11 = .ok (.if_icmp .lt 15, 3) := zo_161 (by decide +kernel)
theorem dX7_readCrossing_14 : decode cX7_readCrossing 14 = .ok (.aload_n 0, 1) := zo_42 (by decide +kernel)
theorem dX7_readCrossing_15 : decode cX7_readCrossing 15 = .ok (.iconst 3, 1) := zo_6 (by decide +kernel)
theorem dX7_readCrossing_16 : decode cX7_readCrossing 16 = .ok (.aload_n 0, 1) := zo_42 (by decide +kernel)
theorem dX7_readCrossing_17 : decode cX7_readCrossing 17 = .ok (.getfield 84, 3) := zo_180 (by decide +kernel)
theorem dX7_readCrossing_20 : decode cX7_readCrossing 20 = .ok (.invokevirtual 90, 3) := zo_182 (by decide +kernel)
theorem dX7_readCrossing_23 : decode cX7_readCrossing 23 = .ok (.goto 16, 3) := zo_167 (by decide +kernel)
theorem dX7_readCrossing_26 : decode cX7_readCrossing 26 = .ok (.aload_n 0, 1) := zo_42 (by decide +kernel)
theorem dX7_readCrossing_27 : decode cX7_readCrossing 27 = .ok (.getfield 12, 3) := zo_180 (by decide +kernel)
theorem dX7_readCrossing_30 : decode cX7_readCrossing 30 = .ok (.dup, 1) := zo_89 (by decide +kernel)
theorem dX7_readCrossing_31 : decode cX7_readCrossing 31 = .ok (.getfield 87, 3) := zo_180 (by decide +kernel)
theorem dX7_readCrossing_34 : decode cX7_readCrossing 34 = .ok (.iconst 1, 1) := zo_4 (by decide +kernel)
theorem dX7_readCrossing_35 : decode cX7_readCrossing 35 = .ok (.iadd, 1) := zo_96 (by decide +kernel)
theorem dX7_readCrossing_36 : decode cX7_readCrossing 36 = .ok (.putfield 87, 3) := zo_181 (by decide +kernel)
theorem dX7_readCrossing_39 : decode cX7_readCrossing 39 = .ok (.aload_n 0, 1) := zo_42 (by decide +kernel)
theorem dX7_readCrossing_40 : decode cX7_readCrossing 40 = .ok (.invokevirtual 71, 3) := zo_182 (by decide +kernel)
theorem dX7_readCrossing_43 : decode cX7_readCrossing 43 = .ok (.iconst 0, 1) := zo_3 (by decide +kernel)
theorem dX7_readCrossing_44 : decode cX7_readCrossing 44 = .ok (.istore_n 2, 1) := zo_61 (by decide +kernel)
theorem dX7_readCrossing_45 : decode cX7_readCrossing 45 = .ok (.iconst 0, 1) := zo_3 (by decide +kernel)
theorem dX7_readCrossing_46 : decode cX7_readCrossing 46 = .ok (.istore_n 3, 1) := zo_62 (by decide +kernel)
theorem dX7_readCrossing_47 : decode cX7_readCrossing 47 = .ok (.iload_n 3, 1) := zo_29 (by decide +kernel)
theorem dX7_readCrossing_48 : decode cX7_readCrossing 48 = .ok (.sipush 600, 3) := zo_17 (by decide +kernel)
theorem dX7_readCrossing_51 : decode cX7_readCrossing 51 = .ok (.if_icmp .gt 62, 3) := zo_163 (by decide +kernel)
theorem dX7_readCrossing_54 : decode cX7_readCrossing 54 = .ok (.aload_n 0, 1) := zo_42 (by decide +kernel)
theorem dX7_readCrossing_55 : decode cX7_readCrossing 55 = .ok (.getfield 74, 3) := zo_180 (by decide +kernel)
theorem dX7_readCrossing_58 : decode cX7_readCrossing 58 = .ok (.iconst 2, 1) := zo_5 (by decide +kernel)
theorem dX7_readCrossing_59 : decode cX7_readCrossing 59 = .ok (.if_icmp .ne 54, 3) := zo_160 (by decide +kernel)
theorem dX7_readCrossing_62 : decode cX7_readCrossing 62 = .ok (.aload_n 0, 1) := zo_42 (by decide +kernel)
theorem dX7_readCrossing_63 : decode cX7_readCrossing 63 = .ok (.getfield 84, 3) := zo_180 (by decide +kernel)
theorem dX7_readCrossing_66 : decode cX7_readCrossing 66 = .ok (.istore 4, 2) := zo_54 (by decide +kernel)
theorem dX7_readCrossing_68 : decode cX7_readCrossing 68 = .ok (.aload_n 0, 1) := zo_42 (by decide +kernel)
theorem dX7_readCrossing_69 : decode cX7_readCrossing 69 = .ok (.bipush 6, 2) := zo_16 (by decide +kernel)
theorem dX7_readCrossing_71 : decode cX7_readCrossing 71 = .ok (.invokevirtual 120, 3) := zo_182 (by decide +kernel)
theorem dX7_readCrossing_74 : decode cX7_readCrossing 74 = .ok (.istore 5, 2) := zo_54 (by decide +kernel)
theorem dX7_readCrossing_76 : decode cX7_readCrossing 76 = .ok (.iload_n 2, 1) := zo_28 (by decide +kernel)
theorem dX7_readCrossing_77 : decode cX7_readCrossing 77 = .ok (.iconst 4, 1) := zo_7 (by decide +kernel)
theorem dX7_readCrossing_78 : decode cX7_readCrossing 78 = .ok (.if_icmp .lt 10, 3) := zo_161 (by decide +kernel)
theorem dX7_readCrossing_81 : decode cX7_readCrossing 81 = .ok (.aload_n 0, 1) := zo_42 (by decide +kernel)
theorem dX7_readCrossing_82 : decode cX7_readCrossing 82 = .ok (.iconst 3, 1) := zo_6 (by decide +kernel)
theorem dX7_readCrossing_83 : decode cX7_readCrossing 83 = .ok (.iload 4, 2) := zo_21 (by decide +kernel)
theorem dX7_readCrossing_85 : decode cX7_readCrossing 85 = .ok (.invokevirtual 90, 3) := zo_182 (by decide +kernel)
theorem dX7_readCrossing_88 : decode cX7_readCrossing 88 = .ok (.iinc 2 1, 3) := zo_132 (by decide +kernel)
theorem dX7_readCrossing_91 : decode cX7_readCrossing 91 = .ok (.aload_n 0, 1) := zo_42 (by decide +kernel)
theorem dX7_readCrossing_92 : decode cX7_readCrossing 92 = .ok (.getfield 12, 3) := zo_180 (by decide +kernel)
theorem dX7_readCrossing_95 : decode cX7_readCrossing 95 = .ok (.iload_n 1, 1) := zo_27 (by decide +kernel)
theorem dX7_readCrossing_96 : decode cX7_readCrossing 96 = .ok (.iload 5, 2) := zo_21 (by decide +kernel)
theorem dX7_readCrossing_98 : decode cX7_readCrossing 98 = .ok (.invokevirtual 123, 3) := zo_182 (by decide +kernel)
theorem dX7_readCrossing_101 : decode cX7_readCrossing 101 = .ok (.aload_n 0, 1) := zo_42 (by decide +kernel)
theorem dX7_readCrossing_102 : decode cX7_readCrossing 102 = .ok (.iload 5, 2) := zo_21 (by decide +kernel)
theorem dX7_readCrossing_104 : decode cX7_readCrossing 104 = .ok (.invokevirtual 126, 3) := zo_182 (by decide +kernel)
theorem dX7_readCrossing_107 : decode cX7_readCrossing 107 = .ok (.iinc 3 1, 3) := zo_132 (by decide +kernel)
theorem dX7_readCrossing_110 : decode cX7_readCrossing 110 = .ok (.goto (-63), 3) := zo_167 (by decide +kernel)
theorem dX7_readCrossing_113 : decode cX7_readCrossing 113 = .ok (.return_, 1) := zo_177 (by decide +kernel)
theorem dX7_readOther_0 : decode cX7_readOther 0 = .ok (.aload_n 0, 1) := zo_42 (by decide +kernel)
theorem dX7_readOther_1 : decode cX7_readOther 1 = .ok (.invokevirtual 71, 3) := zo_182 (by decide +kernel)
theorem dX7_readOther_4 : decode cX7_readOther 4 = .ok (.aload_n 0, 1) := zo_42 (by decide +kernel)
theorem dX7_readOther_5 : decode cX7_readOther 5 = .ok (.bipush 6, 2) := zo_16 (by decide +kernel)
theorem dX7_readOther_7 : decode cX7_readOther 7 = .ok (.invokevirtual 120, 3) := zo_182 (by decide +kernel)
theorem dX7_readOther_10 : decode cX7_readOther 10 = .ok (.istore_n 2, 1) := zo_61 (by decide +kernel)
theorem dX7_readOther_11 : decode cX7_readOther 11 = .ok (.aload_n 0, 1) := zo_42 (by decide +kernel)
theorem dX7_readOther_12 : decode cX7_readOther 12 = .ok (.iload_n 2, 1) := zo_28 (by decide +kernel)
theorem dX7_readOther_13 : decode cX7_readOther 13 = .ok (.invokevirtual 126, 3) := zo_182 (by decide +kernel)
theorem dX7_readOther_16 : decode cX7_readOther 16 = .ok (.iload_n 1, 1) := zo_27 (by decide +kernel)
theorem dX7_readOther_17 : decode cX7_readOther 17 = .ok (.iconst 3, 1) := zo_6 (by decide +kernel)
theorem dX7_readOther_18 : decode cX7_readOther 18 = .ok (.if_icmp .ne 33, 3) := zo_160 (by decide +kernel)
theorem dX7_readOther_21 : decode cX7_readOther 21 = .ok (.aload_n 0, 1) := zo_42 (by decide +kernel)
theorem dX7_readOther_22 : decode cX7_readOther 22 = .ok (.getfield 12, 3) := zo_180 (by decide +kernel)
theorem dX7_readOther_25 : decode cX7_readOther 25 = .ok (.dup, 1) := zo_89 (by decide +kernel)
theorem dX7_readOther_26 : decode cX7_readOther 26 = .ok (.getfield 129, 3) := zo_180 (by decide +kernel)
theorem dX7_readOther_29 : decode cX7_readOther 29 = .ok (.iload_n 2, 1) := zo_28 (by decide +kernel)
theorem dX7_readOther_30 : decode cX7_readOther 30 = .ok (.ifCond .lt 15, 3) := zo_155 (by decide +kernel)
theorem dX7_readOther_33 : decode cX7_readOther 33 = .ok (.iload_n 2, 1) := zo_28 (by decide +kernel)
theorem dX7_readOther_34 : decode cX7_readOther 34 = .ok (.bipush 7, 2) := zo_16 (by decide +kernel)
theorem dX7_readOther_36 : decode cX7_readOther 36 = .ok (.if_icmp .ge 9, 3) := zo_162 (by decide +kernel)
theorem dX7_readOther_39 : decode cX7_readOther 39 = .ok (.iconst 1, 1) := zo_4 (by decide +kernel)
theorem dX7_readOther_40 : decode cX7_readOther 40 = .ok (.iload_n 2, 1) := zo_28 (by decide +kernel)
theorem dX7_readOther_41 : decode cX7_readOther 41 = .ok (.ishl, 1) := zo_120 (by decide +kernel)
theorem dX7_readOther_42 : decode cX7_readOther 42 = .ok (.goto 4, 3) := zo_167 (by decide +kernel)
theorem dX7_readOther_45 : decode cX7_readOther 45 = .ok (.iconst 0, 1) := zo_3 (by decide +kernel)
theorem dX7_readOther_46 : decode cX7_readOther 46 = .ok (.ior, 1) := zo_128 (by decide +kernel)
theorem dX7_readOther_47 : decode cX7_readOther 47 = .ok (.putfield 129, 3) := zo_181 (by decide +kernel)
theorem dX7_readOther_50 : decode cX7_readOther 50 = .ok (.return_, 1) := zo_177 (by decide +kernel)
theorem dX7_readOther_51 : decode cX7_readOther 51 = .ok (.aload_n 0, 1) := zo_42 (by decide +kernel)
theorem dX7_readOther_52 : decode cX7_readOther 52 = .ok (.iload_n 1, 1) := zo_27 (by decide +kernel)
theorem dX7_readOther_53 : decode cX7_readOther 53 = .ok (.iconst 1, 1) := zo_4 (by decide +kernel)
theorem dX7_readOther_54 : decode cX7_readOther 54 = .ok (.if_icmp .ne 7, 3) := zo_160 (by decide +kernel)
theorem dX7_readOther_57 : decode cX7_readOther 57 = .ok (.iconst 3, 1) := zo_6 (by decide +kernel)
theorem dX7_readOther_58 : decode cX7_readOther 58 = .ok (.goto 5, 3) := zo_167 (by decide +kernel)
theorem dX7_readOther_61 : decode cX7_readOther 61 = .ok (.bipush 9, 2) := zo_16 (by decide +kernel)
theorem dX7_readOther_63 : decode cX7_readOther 63 = .ok (.invokevirtual 120, 3) := zo_182 (by decide +kernel)
theorem dX7_readOther_66 : decode cX7_readOther 66 = .ok (.istore_n 3, 1) := zo_62 (by decide +kernel)
theorem dX7_readOther_67 : decode cX7_readOther 67 = .ok (.iload_n 2, 1) := zo_28 (by decide +kernel)
theorem dX7_readOther_68 : decode cX7_readOther 68 = .ok (.ifCond .lt 9, 3) := zo_155 (by decide +kernel)
theorem dX7_readOther_71 : decode cX7_readOther 71 = .ok (.iload_n 2, 1) := zo_28 (by decide +kernel)
theorem dX7_readOther_72 : decode cX7_readOther 72 = .ok (.bipush 7, 2) := zo_16 (by decide +kernel)
theorem dX7_readOther_74 : decode cX7_readOther 74 = .ok (.if_icmp .lt 4, 3) := zo_161 (by decide +kernel)
theorem dX7_readOther_77 : decode cX7_readOther 77 = .ok (.return_, 1) := zo_177 (by decide +kernel)
theorem dX7_readOther_78 : decode cX7_readOther 78 = .ok (.iload_n 1, 1) := zo_27 (by decide +kernel)
theorem dX7_readOther_79 : decode cX7_readOther 79 = .ok (.iconst 1, 1) := zo_4 (by decide +kernel)
theorem dX7_readOther_80 : decode cX7_readOther 80 = .ok (.if_icmp .ne 16, 3) := zo_160 (by decide +kernel)
theorem dX7_readOther_83 : decode cX7_readOther 83 = .ok (.aload_n 0, 1) := zo_42 (by decide +kernel)
theorem dX7_readOther_84 : decode cX7_readOther 84 = .ok (.getfield 12, 3) := zo_180 (by decide +kernel)
theorem dX7_readOther_87 : decode cX7_readOther 87 = .ok (.getfield 94, 3) := zo_180 (by decide +kernel)
theorem dX7_readOther_90 : decode cX7_readOther 90 = .ok (.iload_n 2, 1) := zo_28 (by decide +kernel)
theorem dX7_readOther_91 : decode cX7_readOther 91 = .ok (.iload_n 3, 1) := zo_29 (by decide +kernel)
theorem dX7_readOther_92 : decode cX7_readOther 92 = .ok (.iastore, 1) := zo_79 (by decide +kernel)
theorem dX7_readOther_93 : decode cX7_readOther 93 = .ok (.goto 13, 3) := zo_167 (by decide +kernel)
theorem dX7_readOther_96 : decode cX7_readOther 96 = .ok (.aload_n 0, 1) := zo_42 (by decide +kernel)
theorem dX7_readOther_97 : decode cX7_readOther 97 = .ok (.getfield 12, 3) := zo_180 (by decide +kernel)
theorem dX7_readOther_100 : decode cX7_readOther 100 = .ok (.getfield 132, 3) := zo_180 (by decide +kernel)
theorem dX7_readOther_103 : decode cX7_readOther 103 = .ok (.iload_n 2, 1) := zo_28 (by decide +kernel)
theorem dX7_readOther_104 : decode cX7_readOther 104 = .ok (.iload_n 3, 1) := zo_29 (by decide +kernel)
theorem dX7_readOther_105 : decode cX7_readOther 105 = .ok (.iastore, 1) := zo_79 (by decide +kernel)
theorem dX7_readOther_106 : decode cX7_readOther 106 = .ok (.return_, 1) := zo_177 (by decide +kernel)
theorem dX7_readDeed_0 : decode cX7_readDeed 0 = .ok (.aload_n 0, 1) := zo_42 (by decide +kernel)
theorem dX7_readDeed_1 : decode cX7_readDeed 1 = .ok (.getfield 21, 3) := zo_180 (by decide +kernel)
theorem dX7_readDeed_4 : decode cX7_readDeed 4 = .ok (.getfield 65, 3) := zo_180 (by decide +kernel)
theorem dX7_readDeed_7 : decode cX7_readDeed 7 = .ok (.bipush 40, 2) := zo_16 (by decide +kernel)
theorem dX7_readDeed_9 : decode cX7_readDeed 9 = .ok (.if_icmp .lt 12, 3) := zo_161 (by decide +kernel)
theorem dX7_readDeed_12 : decode cX7_readDeed 12 = .ok (.aload_n 0, 1) := zo_42 (by decide +kernel)
theorem dX7_readDeed_13 : decode cX7_readDeed 13 = .ok (.iconst 3, 1) := zo_6 (by decide +kernel)
theorem dX7_readDeed_14 : decode cX7_readDeed 14 = .ok (.aload_n 0, 1) := zo_42 (by decide +kernel)
theorem dX7_readDeed_15 : decode cX7_readDeed 15 = .ok (.getfield 84, 3) := zo_180 (by decide +kernel)
theorem dX7_readDeed_18 : decode cX7_readDeed 18 = .ok (.invokevirtual 90, 3) := zo_182 (by decide +kernel)
theorem dX7_readDeed_21 : decode cX7_readDeed 21 = .ok (.aload_n 0, 1) := zo_42 (by decide +kernel)
theorem dX7_readDeed_22 : decode cX7_readDeed 22 = .ok (.invokevirtual 71, 3) := zo_182 (by decide +kernel)
theorem dX7_readDeed_25 : decode cX7_readDeed 25 = .ok (.aload_n 0, 1) := zo_42 (by decide +kernel)
theorem dX7_readDeed_26 : decode cX7_readDeed 26 = .ok (.bipush 6, 2) := zo_16 (by decide +kernel)
theorem dX7_readDeed_28 : decode cX7_readDeed 28 = .ok (.invokevirtual 120, 3) := zo_182 (by decide +kernel)
theorem dX7_readDeed_31 : decode cX7_readDeed 31 = .ok (.istore_n 2, 1) := zo_61 (by decide +kernel)
theorem dX7_readDeed_32 : decode cX7_readDeed 32 = .ok (.iload_n 1, 1) := zo_27 (by decide +kernel)
theorem dX7_readDeed_33 : decode cX7_readDeed 33 = .ok (.iconst 4, 1) := zo_7 (by decide +kernel)
theorem dX7_readDeed_34 : decode cX7_readDeed 34 = .ok (.if_icmp .eq 8, 3) := zo_159 (by decide +kernel)
theorem dX7_readDeed_37 : decode cX7_readDeed 37 = .ok (.iload_n 1, 1) := zo_27 (by decide +kernel)
theorem dX7_readDeed_38 : decode cX7_readDeed 38 = .ok (.iconst 5, 1) := zo_8 (by decide +kernel)
theorem dX7_readDeed_39 : decode cX7_readDeed 39 = .ok (.if_icmp .ne 11, 3) := zo_160 (by decide +kernel)
theorem dX7_readDeed_42 : decode cX7_readDeed 42 = .ok (.aload_n 0, 1) := zo_42 (by decide +kernel)
theorem dX7_readDeed_43 : decode cX7_readDeed 43 = .ok (.iconst 3, 1) := zo_6 (by decide +kernel)
theorem dX7_readDeed_44 : decode cX7_readDeed 44 = .ok (.invokevirtual 120, 3) := zo_182 (by decide +kernel)
theorem dX7_readDeed_47 : decode cX7_readDeed 47 = .ok (.goto 4, 3) := zo_167 (by decide +kernel)
theorem dX7_readDeed_50 : decode cX7_readDeed 50 = .ok (.iconst (-1), 1) := zo_2 (by decide +kernel)
theorem dX7_readDeed_51 : decode cX7_readDeed 51 = .ok (.istore_n 3, 1) := zo_62 (by decide +kernel)
theorem dX7_readDeed_52 : decode cX7_readDeed 52 = .ok (.aload_n 0, 1) := zo_42 (by decide +kernel)
theorem dX7_readDeed_53 : decode cX7_readDeed 53 = .ok (.getfield 21, 3) := zo_180 (by decide +kernel)
theorem dX7_readDeed_56 : decode cX7_readDeed 56 = .ok (.iload_n 1, 1) := zo_27 (by decide +kernel)
theorem dX7_readDeed_57 : decode cX7_readDeed 57 = .ok (.iload_n 2, 1) := zo_28 (by decide +kernel)
theorem dX7_readDeed_58 : decode cX7_readDeed 58 = .ok (.iload_n 3, 1) := zo_29 (by decide +kernel)
theorem dX7_readDeed_59 : decode cX7_readDeed 59 = .ok (.invokevirtual 135, 3) := zo_182 (by decide +kernel)
theorem dX7_readDeed_62 : decode cX7_readDeed 62 = .ok (.return_, 1) := zo_177 (by decide +kernel)
theorem dX7_readFact_0 : decode cX7_readFact 0 = .ok (.aload_n 0, 1) := zo_42 (by decide +kernel)
theorem dX7_readFact_1 : decode cX7_readFact 1 = .ok (.getfield 28, 3) := zo_180 (by decide +kernel)
theorem dX7_readFact_4 : decode cX7_readFact 4 = .ok (.getfield 68, 3) := zo_180 (by decide +kernel)
theorem dX7_readFact_7 : decode cX7_readFact 7 = .ok (.bipush 8, 2) := zo_16 (by decide +kernel)
theorem dX7_readFact_9 : decode cX7_readFact 9 = .ok (.if_icmp .lt 12, 3) := zo_161 (by decide +kernel)
theorem dX7_readFact_12 : decode cX7_readFact 12 = .ok (.aload_n 0, 1) := zo_42 (by decide +kernel)
theorem dX7_readFact_13 : decode cX7_readFact 13 = .ok (.iconst 3, 1) := zo_6 (by decide +kernel)
theorem dX7_readFact_14 : decode cX7_readFact 14 = .ok (.aload_n 0, 1) := zo_42 (by decide +kernel)
theorem dX7_readFact_15 : decode cX7_readFact 15 = .ok (.getfield 84, 3) := zo_180 (by decide +kernel)
theorem dX7_readFact_18 : decode cX7_readFact 18 = .ok (.invokevirtual 90, 3) := zo_182 (by decide +kernel)
theorem dX7_readFact_21 : decode cX7_readFact 21 = .ok (.aload_n 0, 1) := zo_42 (by decide +kernel)
theorem dX7_readFact_22 : decode cX7_readFact 22 = .ok (.invokevirtual 71, 3) := zo_182 (by decide +kernel)
theorem dX7_readFact_25 : decode cX7_readFact 25 = .ok (.aload_n 0, 1) := zo_42 (by decide +kernel)
theorem dX7_readFact_26 : decode cX7_readFact 26 = .ok (.bipush 6, 2) := zo_16 (by decide +kernel)
theorem dX7_readFact_28 : decode cX7_readFact 28 = .ok (.invokevirtual 120, 3) := zo_182 (by decide +kernel)
theorem dX7_readFact_31 : decode cX7_readFact 31 = .ok (.istore_n 2, 1) := zo_61 (by decide +kernel)
theorem dX7_readFact_32 : decode cX7_readFact 32 = .ok (.iload_n 1, 1) := zo_27 (by decide +kernel)
theorem dX7_readFact_33 : decode cX7_readFact 33 = .ok (.ifCond .ne 12, 3) := zo_154 (by decide +kernel)
theorem dX7_readFact_36 : decode cX7_readFact 36 = .ok (.aload_n 0, 1) := zo_42 (by decide +kernel)
theorem dX7_readFact_37 : decode cX7_readFact 37 = .ok (.bipush 6, 2) := zo_16 (by decide +kernel)
theorem dX7_readFact_39 : decode cX7_readFact 39 = .ok (.invokevirtual 120, 3) := zo_182 (by decide +kernel)
theorem dX7_readFact_42 : decode cX7_readFact 42 = .ok (.goto 4, 3) := zo_167 (by decide +kernel)
theorem dX7_readFact_45 : decode cX7_readFact 45 = .ok (.iconst (-1), 1) := zo_2 (by decide +kernel)
theorem dX7_readFact_46 : decode cX7_readFact 46 = .ok (.istore_n 3, 1) := zo_62 (by decide +kernel)
theorem dX7_readFact_47 : decode cX7_readFact 47 = .ok (.aload_n 0, 1) := zo_42 (by decide +kernel)
theorem dX7_readFact_48 : decode cX7_readFact 48 = .ok (.getfield 28, 3) := zo_180 (by decide +kernel)
theorem dX7_readFact_51 : decode cX7_readFact 51 = .ok (.iload_n 2, 1) := zo_28 (by decide +kernel)
theorem dX7_readFact_52 : decode cX7_readFact 52 = .ok (.iload_n 3, 1) := zo_29 (by decide +kernel)
theorem dX7_readFact_53 : decode cX7_readFact 53 = .ok (.invokevirtual 139, 3) := zo_182 (by decide +kernel)
theorem dX7_readFact_56 : decode cX7_readFact 56 = .ok (.return_, 1) := zo_177 (by decide +kernel)
theorem dX7_readLine_0 : decode cX7_readLine 0 = .ok (.aload_n 0, 1) := zo_42 (by decide +kernel)
theorem dX7_readLine_1 : decode cX7_readLine 1 = .ok (.getfield 74, 3) := zo_180 (by decide +kernel)
theorem dX7_readLine_4 : decode cX7_readLine 4 = .ok (.iconst 1, 1) := zo_4 (by decide +kernel)
theorem dX7_readLine_5 : decode cX7_readLine 5 = .ok (.if_icmp .ne 11, 3) := zo_160 (by decide +kernel)
theorem dX7_readLine_8 : decode cX7_readLine 8 = .ok (.aload_n 0, 1) := zo_42 (by decide +kernel)
theorem dX7_readLine_9 : decode cX7_readLine 9 = .ok (.iload_n 1, 1) := zo_27 (by decide +kernel)
theorem dX7_readLine_10 : decode cX7_readLine 10 = .ok (.invokevirtual 101, 3) := zo_182 (by decide +kernel)
theorem dX7_readLine_13 : decode cX7_readLine 13 = .ok (.goto 4, 3) := zo_167 (by decide +kernel)
theorem dX7_readLine_16 : decode cX7_readLine 16 = .ok (.iconst (-1), 1) := zo_2 (by decide +kernel)
theorem dX7_readLine_17 : decode cX7_readLine 17 = .ok (.istore_n 2, 1) := zo_61 (by decide +kernel)
theorem dX7_readLine_18 : decode cX7_readLine 18 = .ok (.iload_n 2, 1) := zo_28 (by decide +kernel)
theorem dX7_readLine_19 : decode cX7_readLine 19 = .ok (.iconst (-1), 1) := zo_2 (by decide +kernel)
theorem dX7_readLine_20 : decode cX7_readLine 20 = .ok (.if_icmp .ne 8, 3) := zo_160 (by decide +kernel)
theorem dX7_readLine_23 : decode cX7_readLine 23 = .ok (.aload_n 0, 1) := zo_42 (by decide +kernel)
theorem dX7_readLine_24 : decode cX7_readLine 24 = .ok (.invokevirtual 105, 3) := zo_182 (by decide +kernel)
theorem dX7_readLine_27 : decode cX7_readLine 27 = .ok (.return_, 1) := zo_177 (by decide +kernel)
theorem dX7_readLine_28 : decode cX7_readLine 28 = .ok (.iload_n 1, 1) := zo_27 (by decide +kernel)
theorem dX7_readLine_29 : decode cX7_readLine 29 = .ok (.iconst 1, 1) := zo_4 (by decide +kernel)
theorem dX7_readLine_30 : decode cX7_readLine 30 = .ok (.if_icmp .ne 11, 3) := zo_160 (by decide +kernel)
theorem dX7_readLine_33 : decode cX7_readLine 33 = .ok (.aload_n 0, 1) := zo_42 (by decide +kernel)
theorem dX7_readLine_34 : decode cX7_readLine 34 = .ok (.iload_n 2, 1) := zo_28 (by decide +kernel)
theorem dX7_readLine_35 : decode cX7_readLine 35 = .ok (.invokevirtual 108, 3) := zo_182 (by decide +kernel)
theorem dX7_readLine_38 : decode cX7_readLine 38 = .ok (.goto 32, 3) := zo_167 (by decide +kernel)
theorem dX7_readLine_41 : decode cX7_readLine 41 = .ok (.iload_n 1, 1) := zo_27 (by decide +kernel)
theorem dX7_readLine_42 : decode cX7_readLine 42 = .ok (.iconst 2, 1) := zo_5 (by decide +kernel)
theorem dX7_readLine_43 : decode cX7_readLine 43 = .ok (.if_icmp .ne 11, 3) := zo_160 (by decide +kernel)
theorem dX7_readLine_46 : decode cX7_readLine 46 = .ok (.aload_n 0, 1) := zo_42 (by decide +kernel)
theorem dX7_readLine_47 : decode cX7_readLine 47 = .ok (.iload_n 2, 1) := zo_28 (by decide +kernel)
theorem dX7_readLine_48 : decode cX7_readLine 48 = .ok (.invokevirtual 111, 3) := zo_182 (by decide +kernel)
theorem dX7_readLine_51 : decode cX7_readLine 51 = .ok (.goto 19, 3) := zo_167 (by decide +kernel)
theorem dX7_readLine_54 : decode cX7_readLine 54 = .ok (.iload_n 2, 1) := zo_28 (by decide +kernel)
theorem dX7_readLine_55 : decode cX7_readLine 55 = .ok (.ifCond .ne 10, 3) := zo_154 (by decide +kernel)
theorem dX7_readLine_58 : decode cX7_readLine 58 = .ok (.aload_n 0, 1) := zo_42 (by decide +kernel)
theorem dX7_readLine_59 : decode cX7_readLine 59 = .ok (.invokevirtual 114, 3) := zo_182 (by decide +kernel)
theorem dX7_readLine_62 : decode cX7_readLine 62 = .ok (.goto 8, 3) := zo_167 (by decide +kernel)
theorem dX7_readLine_65 : decode cX7_readLine 65 = .ok (.aload_n 0, 1) := zo_42 (by decide +kernel)
theorem dX7_readLine_66 : decode cX7_readLine 66 = .ok (.iload_n 2, 1) := zo_28 (by decide +kernel)
theorem dX7_readLine_67 : decode cX7_readLine 67 = .ok (.invokevirtual 117, 3) := zo_182 (by decide +kernel)
theorem dX7_readLine_70 : decode cX7_readLine 70 = .ok (.aload_n 0, 1) := zo_42 (by decide +kernel)
theorem dX7_readLine_71 : decode cX7_readLine 71 = .ok (.getfield 74, 3) := zo_180 (by decide +kernel)
theorem dX7_readLine_74 : decode cX7_readLine 74 = .ok (.iconst 3, 1) := zo_6 (by decide +kernel)
theorem dX7_readLine_75 : decode cX7_readLine 75 = .ok (.if_icmp .ne 10, 3) := zo_160 (by decide +kernel)
theorem dX7_readLine_78 : decode cX7_readLine 78 = .ok (.aload_n 0, 1) := zo_42 (by decide +kernel)
theorem dX7_readLine_79 : decode cX7_readLine 79 = .ok (.invokevirtual 71, 3) := zo_182 (by decide +kernel)
theorem dX7_readLine_82 : decode cX7_readLine 82 = .ok (.goto 7, 3) := zo_167 (by decide +kernel)
theorem dX7_readLine_85 : decode cX7_readLine 85 = .ok (.aload_n 0, 1) := zo_42 (by decide +kernel)
theorem dX7_readLine_86 : decode cX7_readLine 86 = .ok (.invokevirtual 105, 3) := zo_182 (by decide +kernel)
theorem dX7_readLine_89 : decode cX7_readLine 89 = .ok (.return_, 1) := zo_177 (by decide +kernel)
theorem dX7_lookAtWhole_0 : decode cX7_lookAtWhole 0 = .ok (.aload_n 0, 1) := zo_42 (by decide +kernel)
theorem dX7_lookAtWhole_1 : decode cX7_lookAtWhole 1 = .ok (.getfield 59, 3) := zo_180 (by decide +kernel)
theorem dX7_lookAtWhole_4 : decode cX7_lookAtWhole 4 = .ok (.aload_n 0, 1) := zo_42 (by decide +kernel)
theorem dX7_lookAtWhole_5 : decode cX7_lookAtWhole 5 = .ok (.getfield 12, 3) := zo_180 (by decide +kernel)
theorem dX7_lookAtWhole_8 : decode cX7_lookAtWhole 8 = .ok (.getfield 87, 3) := zo_180 (by decide +kernel)
theorem dX7_lookAtWhole_11 : decode cX7_lookAtWhole 11 = .ok (.ishr, 1) := zo_122 (by decide +kernel)
theorem dX7_lookAtWhole_12 : decode cX7_lookAtWhole 12 = .ok (.ifCond .eq 12, 3) := zo_153 (by decide +kernel)
theorem dX7_lookAtWhole_15 : decode cX7_lookAtWhole 15 = .ok (.aload_n 0, 1) := zo_42 (by decide +kernel)
theorem dX7_lookAtWhole_16 : decode cX7_lookAtWhole 16 = .ok (.iconst 4, 1) := zo_7 (by decide +kernel)
theorem dX7_lookAtWhole_17 : decode cX7_lookAtWhole 17 = .ok (.aload_n 0, 1) := zo_42 (by decide +kernel)
theorem dX7_lookAtWhole_18 : decode cX7_lookAtWhole 18 = .ok (.getfield 42, 3) := zo_180 (by decide +kernel)
theorem dX7_lookAtWhole_21 : decode cX7_lookAtWhole 21 = .ok (.invokevirtual 90, 3) := zo_182 (by decide +kernel)
theorem dX7_lookAtWhole_24 : decode cX7_lookAtWhole 24 = .ok (.iconst 0, 1) := zo_3 (by decide +kernel)
theorem dX7_lookAtWhole_25 : decode cX7_lookAtWhole 25 = .ok (.istore_n 1, 1) := zo_60 (by decide +kernel)
theorem dX7_lookAtWhole_26 : decode cX7_lookAtWhole 26 = .ok (.iload_n 1, 1) := zo_27 (by decide +kernel)
theorem dX7_lookAtWhole_27 : decode cX7_lookAtWhole 27 = .ok (.bipush 7, 2) := zo_16 (by decide +kernel)
theorem dX7_lookAtWhole_29 : decode cX7_lookAtWhole 29 = .ok (.if_icmp .ge 51, 3) := zo_162 (by decide +kernel)
theorem dX7_lookAtWhole_32 : decode cX7_lookAtWhole 32 = .ok (.aload_n 0, 1) := zo_42 (by decide +kernel)
theorem dX7_lookAtWhole_33 : decode cX7_lookAtWhole 33 = .ok (.getfield 12, 3) := zo_180 (by decide +kernel)
theorem dX7_lookAtWhole_36 : decode cX7_lookAtWhole 36 = .ok (.getfield 94, 3) := zo_180 (by decide +kernel)
theorem dX7_lookAtWhole_39 : decode cX7_lookAtWhole 39 = .ok (.iload_n 1, 1) := zo_27 (by decide +kernel)
theorem dX7_lookAtWhole_40 : decode cX7_lookAtWhole 40 = .ok (.iaload, 1) := zo_46 (by decide +kernel)
theorem dX7_lookAtWhole_41 : decode cX7_lookAtWhole 41 = .ok (.ifCond .eq 33, 3) := zo_153 (by decide +kernel)
theorem dX7_lookAtWhole_44 : decode cX7_lookAtWhole 44 = .ok (.aload_n 0, 1) := zo_42 (by decide +kernel)
theorem dX7_lookAtWhole_45 : decode cX7_lookAtWhole 45 = .ok (.getfield 12, 3) := zo_180 (by decide +kernel)
theorem dX7_lookAtWhole_48 : decode cX7_lookAtWhole 48 = .ok (.getfield 94, 3) := zo_180 (by decide +kernel)
theorem dX7_lookAtWhole_51 : decode cX7_lookAtWhole 51 = .ok (.iload_n 1, 1) := zo_27 (by decide +kernel)
theorem dX7_lookAtWhole_52 : decode cX7_lookAtWhole 52 = .ok (.iaload, 1) := zo_46 (by decide +kernel)
theorem dX7_lookAtWhole_53 : decode cX7_lookAtWhole 53 = .ok (.aload_n 0, 1) := zo_42 (by decide +kernel)
theorem dX7_lookAtWhole_54 : decode cX7_lookAtWhole 54 = .ok (.getfield 12, 3) := zo_180 (by decide +kernel)
theorem dX7_lookAtWhole_57 : decode cX7_lookAtWhole 57 = .ok (.getfield 98, 3) := zo_180 (by decide +kernel)
theorem dX7_lookAtWhole_60 : decode cX7_lookAtWhole 60 = .ok (.iload_n 1, 1) := zo_27 (by decide +kernel)
theorem dX7_lookAtWhole_61 : decode cX7_lookAtWhole 61 = .ok (.iaload, 1) := zo_46 (by decide +kernel)
theorem dX7_lookAtWhole_62 : decode cX7_lookAtWhole 62 = .ok (.if_icmp .lt 12, 3) := zo_161 (by decide +kernel)
theorem dX7_lookAtWhole_65 : decode cX7_lookAtWhole 65 = .ok (.aload_n 0, 1) := zo_42 (by decide +kernel)
theorem dX7_lookAtWhole_66 : decode cX7_lookAtWhole 66 = .ok (.iconst 5, 1) := zo_8 (by decide +kernel)
theorem dX7_lookAtWhole_67 : decode cX7_lookAtWhole 67 = .ok (.aload_n 0, 1) := zo_42 (by decide +kernel)
theorem dX7_lookAtWhole_68 : decode cX7_lookAtWhole 68 = .ok (.getfield 42, 3) := zo_180 (by decide +kernel)
theorem dX7_lookAtWhole_71 : decode cX7_lookAtWhole 71 = .ok (.invokevirtual 90, 3) := zo_182 (by decide +kernel)
theorem dX7_lookAtWhole_74 : decode cX7_lookAtWhole 74 = .ok (.iinc 1 1, 3) := zo_132 (by decide +kernel)
theorem dX7_lookAtWhole_77 : decode cX7_lookAtWhole 77 = .ok (.goto (-51), 3) := zo_167 (by decide +kernel)
theorem dX7_lookAtWhole_80 : decode cX7_lookAtWhole 80 = .ok (.return_, 1) := zo_177 (by decide +kernel)
theorem dX7_read_0 : decode cX7_read 0 = .ok (.aload_n 0, 1) := zo_42 (by decide +kernel)
theorem dX7_read_1 : decode cX7_read 1 = .ok (.aload_n 1, 1) := zo_43 (by decide +kernel)
theorem dX7_read_2 : decode cX7_read 2 = .ok (.putfield 32, 3) := zo_181 (by decide +kernel)
theorem dX7_read_5 : decode cX7_read 5 = .ok (.aload_n 0, 1) := zo_42 (by decide +kernel)
theorem dX7_read_6 : decode cX7_read 6 = .ok (.iload_n 2, 1) := zo_28 (by decide +kernel)
theorem dX7_read_7 : decode cX7_read 7 = .ok (.aload_n 1, 1) := zo_43 (by decide +kernel)
theorem dX7_read_8 : decode cX7_read 8 = .ok (.arraylength, 1) := zo_190 (by decide +kernel)
theorem dX7_read_9 : decode cX7_read 9 = .ok (.invokestatic 36, 3) := zo_184 (by decide +kernel)
theorem dX7_read_12 : decode cX7_read 12 = .ok (.putfield 42, 3) := zo_181 (by decide +kernel)
theorem dX7_read_15 : decode cX7_read 15 = .ok (.aload_n 0, 1) := zo_42 (by decide +kernel)
theorem dX7_read_16 : decode cX7_read 16 = .ok (.iconst 0, 1) := zo_3 (by decide +kernel)
theorem dX7_read_17 : decode cX7_read 17 = .ok (.putfield 46, 3) := zo_181 (by decide +kernel)
theorem dX7_read_20 : decode cX7_read 20 = .ok (.aload_n 0, 1) := zo_42 (by decide +kernel)
theorem dX7_read_21 : decode cX7_read 21 = .ok (.iconst 0, 1) := zo_3 (by decide +kernel)
theorem dX7_read_22 : decode cX7_read 22 = .ok (.putfield 49, 3) := zo_181 (by decide +kernel)
theorem dX7_read_25 : decode cX7_read 25 = .ok (.aload_n 0, 1) := zo_42 (by decide +kernel)
theorem dX7_read_26 : decode cX7_read 26 = .ok (.iconst (-1), 1) := zo_2 (by decide +kernel)
theorem dX7_read_27 : decode cX7_read 27 = .ok (.putfield 52, 3) := zo_181 (by decide +kernel)
theorem dX7_read_30 : decode cX7_read 30 = .ok (.aload_n 0, 1) := zo_42 (by decide +kernel)
theorem dX7_read_31 : decode cX7_read 31 = .ok (.iconst 0, 1) := zo_3 (by decide +kernel)
theorem dX7_read_32 : decode cX7_read 32 = .ok (.putfield 55, 3) := zo_181 (by decide +kernel)
theorem dX7_read_35 : decode cX7_read 35 = .ok (.aload_n 0, 1) := zo_42 (by decide +kernel)
theorem dX7_read_36 : decode cX7_read 36 = .ok (.iconst 0, 1) := zo_3 (by decide +kernel)
theorem dX7_read_37 : decode cX7_read 37 = .ok (.putfield 59, 3) := zo_181 (by decide +kernel)
theorem dX7_read_40 : decode cX7_read 40 = .ok (.aload_n 0, 1) := zo_42 (by decide +kernel)
theorem dX7_read_41 : decode cX7_read 41 = .ok (.getfield 12, 3) := zo_180 (by decide +kernel)
theorem dX7_read_44 : decode cX7_read 44 = .ok (.invokevirtual 62, 3) := zo_182 (by decide +kernel)
theorem dX7_read_47 : decode cX7_read 47 = .ok (.aload_n 0, 1) := zo_42 (by decide +kernel)
theorem dX7_read_48 : decode cX7_read 48 = .ok (.getfield 21, 3) := zo_180 (by decide +kernel)
theorem dX7_read_51 : decode cX7_read 51 = .ok (.iconst 0, 1) := zo_3 (by decide +kernel)
theorem dX7_read_52 : decode cX7_read 52 = .ok (.putfield 65, 3) := zo_181 (by decide +kernel)
theorem dX7_read_55 : decode cX7_read 55 = .ok (.aload_n 0, 1) := zo_42 (by decide +kernel)
theorem dX7_read_56 : decode cX7_read 56 = .ok (.getfield 28, 3) := zo_180 (by decide +kernel)
theorem dX7_read_59 : decode cX7_read 59 = .ok (.iconst 0, 1) := zo_3 (by decide +kernel)
theorem dX7_read_60 : decode cX7_read 60 = .ok (.putfield 68, 3) := zo_181 (by decide +kernel)
theorem dX7_read_63 : decode cX7_read 63 = .ok (.aload_n 0, 1) := zo_42 (by decide +kernel)
theorem dX7_read_64 : decode cX7_read 64 = .ok (.invokevirtual 71, 3) := zo_182 (by decide +kernel)
theorem dX7_read_67 : decode cX7_read 67 = .ok (.iconst 0, 1) := zo_3 (by decide +kernel)
theorem dX7_read_68 : decode cX7_read 68 = .ok (.istore 4, 2) := zo_54 (by decide +kernel)
theorem dX7_read_70 : decode cX7_read 70 = .ok (.iload 4, 2) := zo_21 (by decide +kernel)
theorem dX7_read_72 : decode cX7_read 72 = .ok (.sipush 600, 3) := zo_17 (by decide +kernel)
theorem dX7_read_75 : decode cX7_read 75 = .ok (.if_icmp .gt 28, 3) := zo_163 (by decide +kernel)
theorem dX7_read_78 : decode cX7_read 78 = .ok (.aload_n 0, 1) := zo_42 (by decide +kernel)
theorem dX7_read_79 : decode cX7_read 79 = .ok (.getfield 55, 3) := zo_180 (by decide +kernel)
theorem dX7_read_82 : decode cX7_read 82 = .ok (.ifCond .ne 21, 3) := zo_154 (by decide +kernel)
theorem dX7_read_85 : decode cX7_read 85 = .ok (.aload_n 0, 1) := zo_42 (by decide +kernel)
theorem dX7_read_86 : decode cX7_read 86 = .ok (.getfield 74, 3) := zo_180 (by decide +kernel)
theorem dX7_read_89 : decode cX7_read 89 = .ok (.ifCond .eq 14, 3) := zo_153 (by decide +kernel)
theorem dX7_read_92 : decode cX7_read 92 = .ok (.aload_n 0, 1) := zo_42 (by decide +kernel)
theorem dX7_read_93 : decode cX7_read 93 = .ok (.iload_n 3, 1) := zo_29 (by decide +kernel)
theorem dX7_read_94 : decode cX7_read 94 = .ok (.invokevirtual 77, 3) := zo_182 (by decide +kernel)
theorem dX7_read_97 : decode cX7_read 97 = .ok (.iinc 4 1, 3) := zo_132 (by decide +kernel)
theorem dX7_read_100 : decode cX7_read 100 = .ok (.goto (-30), 3) := zo_167 (by decide +kernel)
theorem dX7_read_103 : decode cX7_read 103 = .ok (.iload_n 3, 1) := zo_29 (by decide +kernel)
theorem dX7_read_104 : decode cX7_read 104 = .ok (.ifCond .ne 7, 3) := zo_154 (by decide +kernel)
theorem dX7_read_107 : decode cX7_read 107 = .ok (.aload_n 0, 1) := zo_42 (by decide +kernel)
theorem dX7_read_108 : decode cX7_read 108 = .ok (.invokevirtual 81, 3) := zo_182 (by decide +kernel)
theorem dX7_read_111 : decode cX7_read 111 = .ok (.return_, 1) := zo_177 (by decide +kernel)
theorem m_fl_RX9_44 : Cond.fieldLink RX9 44 (TX9 1).1 (TX9 1).2.1 (TX9 1).2.2.1 ∈ zT := zmem1 zsub_1 131 rfl rfl
theorem dX9_append_0 : decode cX9_append 0 = .ok (.bipush 24, 2) := zo_16 (by decide +kernel)
theorem dX9_append_2 : decode cX9_append 2 = .ok (.istore_n 2, 1) := zo_61 (by decide +kernel)
theorem dX9_append_3 : decode cX9_append 3 = .ok (.iload_n 2, 1) := zo_28 (by decide +kernel)
theorem dX9_append_4 : decode cX9_append 4 = .ok (.ifCond .lt 42, 3) := zo_155 (by decide +kernel)
theorem dX9_append_7 : decode cX9_append 7 = .ok (.aload_n 0, 1) := zo_42 (by decide +kernel)
theorem dX9_append_8 : decode cX9_append 8 = .ok (.getfield 44, 3) := zo_180 (by decide +kernel)
theorem dX9_append_11 : decode cX9_append 11 = .ok (.sipush 600, 3) := zo_17 (by decide +kernel)
theorem dX9_append_14 : decode cX9_append 14 = .ok (.if_icmp .ge 26, 3) := zo_162 (by decide +kernel)
theorem dX9_append_17 : decode cX9_append 17 = .ok (.aload_n 0, 1) := zo_42 (by decide +kernel)
theorem dX9_append_18 : decode cX9_append 18 = .ok (.getfield 9, 3) := zo_180 (by decide +kernel)
theorem dX9_append_21 : decode cX9_append 21 = .ok (.aload_n 0, 1) := zo_42 (by decide +kernel)
theorem dX9_append_22 : decode cX9_append 22 = .ok (.getfield 44, 3) := zo_180 (by decide +kernel)
theorem dX9_append_25 : decode cX9_append 25 = .ok (.iload_n 1, 1) := zo_27 (by decide +kernel)
theorem dX9_append_26 : decode cX9_append 26 = .ok (.iload_n 2, 1) := zo_28 (by decide +kernel)
theorem dX9_append_27 : decode cX9_append 27 = .ok (.ishr, 1) := zo_122 (by decide +kernel)
theorem dX9_append_28 : decode cX9_append 28 = .ok (.i2b, 1) := zo_145 (by decide +kernel)
theorem dX9_append_29 : decode cX9_append 29 = .ok (.bastore, 1) := zo_84 (by decide +kernel)
theorem dX9_append_30 : decode cX9_append 30 = .ok (.aload_n 0, 1) := zo_42 (by decide +kernel)
theorem dX9_append_31 : decode cX9_append 31 = .ok (.dup, 1) := zo_89 (by decide +kernel)
theorem dX9_append_32 : decode cX9_append 32 = .ok (.getfield 44, 3) := zo_180 (by decide +kernel)
theorem dX9_append_35 : decode cX9_append 35 = .ok (.iconst 1, 1) := zo_4 (by decide +kernel)
theorem dX9_append_36 : decode cX9_append 36 = .ok (.iadd, 1) := zo_96 (by decide +kernel)
theorem dX9_append_37 : decode cX9_append 37 = .ok (.putfield 44, 3) := zo_181 (by decide +kernel)
theorem dX9_append_40 : decode cX9_append 40 = .ok (.iinc 2 (-8), 3) := zo_132 (by decide +kernel)
theorem dX9_append_43 : decode cX9_append 43 = .ok (.goto (-40), 3) := zo_167 (by decide +kernel)
theorem dX9_append_46 : decode cX9_append 46 = .ok (.return_, 1) := zo_177 (by decide +kernel)
theorem dX9_placeFor_0 : decode cX9_placeFor 0 = .ok (.iload_n 1, 1) := zo_27 (by decide +kernel)
theorem dX9_placeFor_1 : decode cX9_placeFor 1 = .ok (.ifCond .lt 8, 3) := zo_155 (by decide +kernel)
theorem dX9_placeFor_4 : decode cX9_placeFor 4 = .ok (.iload_n 1, 1) := zo_27 (by decide +kernel)
theorem dX9_placeFor_5 : decode cX9_placeFor 5 = .ok (.iconst 2, 1) := zo_5 (by decide +kernel)
theorem dX9_placeFor_6 : decode cX9_placeFor 6 = .ok (.if_icmp .le 6, 3) := zo_164 (by decide +kernel)
theorem dX9_placeFor_9 : decode cX9_placeFor 9 = .ok (.bipush (-2), 2) := zo_16 (by decide +kernel)
theorem dX9_placeFor_11 : decode cX9_placeFor 11 = .ok (.ireturn, 1) := zo_172 (by decide +kernel)
theorem dX9_placeFor_12 : decode cX9_placeFor 12 = .ok (.iload_n 2, 1) := zo_28 (by decide +kernel)
theorem dX9_placeFor_13 : decode cX9_placeFor 13 = .ok (.iconst (-1), 1) := zo_2 (by decide +kernel)
theorem dX9_placeFor_14 : decode cX9_placeFor 14 = .ok (.if_icmp .ne 25, 3) := zo_160 (by decide +kernel)
theorem dX9_placeFor_17 : decode cX9_placeFor 17 = .ok (.aload_n 0, 1) := zo_42 (by decide +kernel)
theorem dX9_placeFor_18 : decode cX9_placeFor 18 = .ok (.getfield 19, 3) := zo_180 (by decide +kernel)
theorem dX9_placeFor_21 : decode cX9_placeFor 21 = .ok (.iload_n 1, 1) := zo_27 (by decide +kernel)
theorem dX9_placeFor_22 : decode cX9_placeFor 22 = .ok (.iaload, 1) := zo_46 (by decide +kernel)
theorem dX9_placeFor_23 : decode cX9_placeFor 23 = .ok (.iconst 2, 1) := zo_5 (by decide +kernel)
theorem dX9_placeFor_24 : decode cX9_placeFor 24 = .ok (.if_icmp .ge 12, 3) := zo_162 (by decide +kernel)
theorem dX9_placeFor_27 : decode cX9_placeFor 27 = .ok (.aload_n 0, 1) := zo_42 (by decide +kernel)
theorem dX9_placeFor_28 : decode cX9_placeFor 28 = .ok (.getfield 19, 3) := zo_180 (by decide +kernel)
theorem dX9_placeFor_31 : decode cX9_placeFor 31 = .ok (.iload_n 1, 1) := zo_27 (by decide +kernel)
theorem dX9_placeFor_32 : decode cX9_placeFor 32 = .ok (.iaload, 1) := zo_46 (by decide +kernel)
theorem dX9_placeFor_33 : decode cX9_placeFor 33 = .ok (.goto 5, 3) := zo_167 (by decide +kernel)
theorem dX9_placeFor_36 : decode cX9_placeFor 36 = .ok (.bipush (-2), 2) := zo_16 (by decide +kernel)
theorem dX9_placeFor_38 : decode cX9_placeFor 38 = .ok (.ireturn, 1) := zo_172 (by decide +kernel)
theorem dX9_placeFor_39 : decode cX9_placeFor 39 = .ok (.iload_n 2, 1) := zo_28 (by decide +kernel)
theorem dX9_placeFor_40 : decode cX9_placeFor 40 = .ok (.ifCond .lt 17, 3) := zo_155 (by decide +kernel)
theorem dX9_placeFor_43 : decode cX9_placeFor 43 = .ok (.iload_n 2, 1) := zo_28 (by decide +kernel)
theorem dX9_placeFor_44 : decode cX9_placeFor 44 = .ok (.aload_n 0, 1) := zo_42 (by decide +kernel)
theorem dX9_placeFor_45 : decode cX9_placeFor 45 = .ok (.getfield 19, 3) := zo_180 (by decide +kernel)
theorem dX9_placeFor_48 : decode cX9_placeFor 48 = .ok (.iload_n 1, 1) := zo_27 (by decide +kernel)
theorem dX9_placeFor_49 : decode cX9_placeFor 49 = .ok (.iaload, 1) := zo_46 (by decide +kernel)
theorem dX9_placeFor_50 : decode cX9_placeFor 50 = .ok (.if_icmp .ge 7, 3) := zo_162 (by decide +kernel)
theorem dX9_placeFor_53 : decode cX9_placeFor 53 = .ok (.iload_n 2, 1) := zo_28 (by decide +kernel)
theorem dX9_placeFor_54 : decode cX9_placeFor 54 = .ok (.goto 5, 3) := zo_167 (by decide +kernel)
theorem dX9_placeFor_57 : decode cX9_placeFor 57 = .ok (.bipush (-2), 2) := zo_16 (by decide +kernel)
theorem dX9_placeFor_59 : decode cX9_placeFor 59 = .ok (.ireturn, 1) := zo_172 (by decide +kernel)
theorem dX9_landAt_0 : decode cX9_landAt 0 = .ok (.iload_n 1, 1) := zo_27 (by decide +kernel)
theorem dX9_landAt_1 : decode cX9_landAt 1 = .ok (.ifCond .lt 27, 3) := zo_155 (by decide +kernel)
theorem dX9_landAt_4 : decode cX9_landAt 4 = .ok (.iload_n 1, 1) := zo_27 (by decide +kernel)
theorem dX9_landAt_5 : decode cX9_landAt 5 = .ok (.aload_n 0, 1) := zo_42 (by decide +kernel)
theorem dX9_landAt_6 : decode cX9_landAt 6 = .ok (.getfield 19, 3) := zo_180 (by decide +kernel)
theorem dX9_landAt_9 : decode cX9_landAt 9 = .ok (.iconst 0, 1) := zo_3 (by decide +kernel)
theorem dX9_landAt_10 : decode cX9_landAt 10 = .ok (.iaload, 1) := zo_46 (by decide +kernel)
theorem dX9_landAt_11 : decode cX9_landAt 11 = .ok (.if_icmp .ge 17, 3) := zo_162 (by decide +kernel)
theorem dX9_landAt_14 : decode cX9_landAt 14 = .ok (.iload_n 1, 1) := zo_27 (by decide +kernel)
theorem dX9_landAt_15 : decode cX9_landAt 15 = .ok (.iconst 2, 1) := zo_5 (by decide +kernel)
theorem dX9_landAt_16 : decode cX9_landAt 16 = .ok (.if_icmp .ge 12, 3) := zo_162 (by decide +kernel)
theorem dX9_landAt_19 : decode cX9_landAt 19 = .ok (.aload_n 0, 1) := zo_42 (by decide +kernel)
theorem dX9_landAt_20 : decode cX9_landAt 20 = .ok (.getfield 26, 3) := zo_180 (by decide +kernel)
theorem dX9_landAt_23 : decode cX9_landAt 23 = .ok (.iload_n 1, 1) := zo_27 (by decide +kernel)
theorem dX9_landAt_24 : decode cX9_landAt 24 = .ok (.aaload, 1) := zo_50 (by decide +kernel)
theorem dX9_landAt_25 : decode cX9_landAt 25 = .ok (.goto 4, 3) := zo_167 (by decide +kernel)
theorem dX9_landAt_28 : decode cX9_landAt 28 = .ok (.aconst_null, 1) := zo_1 (by decide +kernel)
theorem dX9_landAt_29 : decode cX9_landAt 29 = .ok (.areturn, 1) := zo_176 (by decide +kernel)
theorem dX9_dayAt_0 : decode cX9_dayAt 0 = .ok (.iload_n 1, 1) := zo_27 (by decide +kernel)
theorem dX9_dayAt_1 : decode cX9_dayAt 1 = .ok (.ifCond .lt 27, 3) := zo_155 (by decide +kernel)
theorem dX9_dayAt_4 : decode cX9_dayAt 4 = .ok (.iload_n 1, 1) := zo_27 (by decide +kernel)
theorem dX9_dayAt_5 : decode cX9_dayAt 5 = .ok (.aload_n 0, 1) := zo_42 (by decide +kernel)
theorem dX9_dayAt_6 : decode cX9_dayAt 6 = .ok (.getfield 19, 3) := zo_180 (by decide +kernel)
theorem dX9_dayAt_9 : decode cX9_dayAt 9 = .ok (.iconst 1, 1) := zo_4 (by decide +kernel)
theorem dX9_dayAt_10 : decode cX9_dayAt 10 = .ok (.iaload, 1) := zo_46 (by decide +kernel)
theorem dX9_dayAt_11 : decode cX9_dayAt 11 = .ok (.if_icmp .ge 17, 3) := zo_162 (by decide +kernel)
theorem dX9_dayAt_14 : decode cX9_dayAt 14 = .ok (.iload_n 1, 1) := zo_27 (by decide +kernel)
theorem dX9_dayAt_15 : decode cX9_dayAt 15 = .ok (.iconst 2, 1) := zo_5 (by decide +kernel)
theorem dX9_dayAt_16 : decode cX9_dayAt 16 = .ok (.if_icmp .ge 12, 3) := zo_162 (by decide +kernel)
theorem dX9_dayAt_19 : decode cX9_dayAt 19 = .ok (.aload_n 0, 1) := zo_42 (by decide +kernel)
theorem dX9_dayAt_20 : decode cX9_dayAt 20 = .ok (.getfield 33, 3) := zo_180 (by decide +kernel)
theorem dX9_dayAt_23 : decode cX9_dayAt 23 = .ok (.iload_n 1, 1) := zo_27 (by decide +kernel)
theorem dX9_dayAt_24 : decode cX9_dayAt 24 = .ok (.aaload, 1) := zo_50 (by decide +kernel)
theorem dX9_dayAt_25 : decode cX9_dayAt 25 = .ok (.goto 4, 3) := zo_167 (by decide +kernel)
theorem dX9_dayAt_28 : decode cX9_dayAt 28 = .ok (.aconst_null, 1) := zo_1 (by decide +kernel)
theorem dX9_dayAt_29 : decode cX9_dayAt 29 = .ok (.areturn, 1) := zo_176 (by decide +kernel)
theorem dX9_logAt_0 : decode cX9_logAt 0 = .ok (.iload_n 1, 1) := zo_27 (by decide +kernel)
theorem dX9_logAt_1 : decode cX9_logAt 1 = .ok (.ifCond .lt 27, 3) := zo_155 (by decide +kernel)
theorem dX9_logAt_4 : decode cX9_logAt 4 = .ok (.iload_n 1, 1) := zo_27 (by decide +kernel)
theorem dX9_logAt_5 : decode cX9_logAt 5 = .ok (.aload_n 0, 1) := zo_42 (by decide +kernel)
theorem dX9_logAt_6 : decode cX9_logAt 6 = .ok (.getfield 19, 3) := zo_180 (by decide +kernel)
theorem dX9_logAt_9 : decode cX9_logAt 9 = .ok (.iconst 2, 1) := zo_5 (by decide +kernel)
theorem dX9_logAt_10 : decode cX9_logAt 10 = .ok (.iaload, 1) := zo_46 (by decide +kernel)
theorem dX9_logAt_11 : decode cX9_logAt 11 = .ok (.if_icmp .ge 17, 3) := zo_162 (by decide +kernel)
theorem dX9_logAt_14 : decode cX9_logAt 14 = .ok (.iload_n 1, 1) := zo_27 (by decide +kernel)
theorem dX9_logAt_15 : decode cX9_logAt 15 = .ok (.iconst 2, 1) := zo_5 (by decide +kernel)
theorem dX9_logAt_16 : decode cX9_logAt 16 = .ok (.if_icmp .ge 12, 3) := zo_162 (by decide +kernel)
theorem dX9_logAt_19 : decode cX9_logAt 19 = .ok (.aload_n 0, 1) := zo_42 (by decide +kernel)
theorem dX9_logAt_20 : decode cX9_logAt 20 = .ok (.getfield 40, 3) := zo_180 (by decide +kernel)
theorem dX9_logAt_23 : decode cX9_logAt 23 = .ok (.iload_n 1, 1) := zo_27 (by decide +kernel)
theorem dX9_logAt_24 : decode cX9_logAt 24 = .ok (.aaload, 1) := zo_50 (by decide +kernel)
theorem dX9_logAt_25 : decode cX9_logAt 25 = .ok (.goto 4, 3) := zo_167 (by decide +kernel)
theorem dX9_logAt_28 : decode cX9_logAt 28 = .ok (.aconst_null, 1) := zo_1 (by decide +kernel)
theorem dX9_logAt_29 : decode cX9_logAt 29 = .ok (.areturn, 1) := zo_176 (by decide +kernel)
def zKT (f : Nat → Int32) : Prop := ∀ j, j < 3 → 0 ≤ (f j).toInt ∧ (f j).toInt ≤ 2
theorem zKT_upd {f : Nat → Int32} (h : zKT f) (k : Nat) {v : Int32} (hv : 0 ≤ v.toInt ∧ v.toInt ≤ 2) : zKT (upd f k v) := by
  intro j hj
  unfold upd
  split
  · exact hv
  · exact h j hj
theorem z_maxK {x y : Int32} (hx : 0 ≤ x.toInt ∧ x.toInt ≤ 2) (hy : 0 ≤ y.toInt ∧ y.toInt ≤ 2) : 0 ≤ (if x < y then y else x).toInt ∧ (if x < y then y else x).toInt ≤ 2 := by
  split
  · exact hy
  · exact hx
theorem zLI_eq {cr : Int32} {f1 f3 g1 g3 : Nat → Int32} (h : zLI cr f1 f3) (h1 : ∀ j, j < 7 → g1 j = f1 j) (h3 : ∀ j, j < 7 → g3 j = f3 j) : zLI cr g1 g3 := ⟨h.1, fun j hj => by rw [h1 j hj]; exact h.2.1 j hj, fun j hj => by rw [h3 j hj]; exact h.2.2 j hj⟩
set_option maxHeartbeats 4000000 in
set_option maxRecDepth 100000 in
/-- placeFor -/
theorem c_placeFor (l : Launch) (T : zTy) (t : Nat) (l0 : Nat) (l1 : Nat) (d0 : Nat) (d1 : Nat) (g0 : Nat) (g1 : Nat) (ln : Int32) (fl : Int32) (pl : Int32) (ft : Nat → Int32) (fk : Nat → Int32) (wt : va_W) (x : Int32) (y : Int32) (ht : bTold T t l0 l1 d0 d1 g0 g1 ln fl pl ft fk wt) (hK : zKT fk) : zMi l T yX9_placeFor cX9_placeFor 3 (some .int) 1 0 0 [.ref t, .int x, .int y] [wt] (fun (r : Int32) bs => bs = [wt] ∧ (r.toInt = -2 ∨ ((0 ≤ x.toInt ∧ x.toInt ≤ 2) ∧ (0 ≤ r.toInt ∧ r.toInt ≤ 1)))) := by
  refine zMi_of (own := RX9) (by decide) rfl (Nat.le_of_ble_eq_true rfl) ?_
  intro p e s m args below meth c A ls C hr hlocks hnm hAe G hl
  refine zHide (fun Q9 hQ9 => ?_)
  have hx := C.1
  have hb := C.2.1
  have hl : lv_has ls 3 [(0, .ref t), (1, .int x), (2, .int y)] := hl
  refine lv_iload_n hx hb dX9_placeFor_0 rfl (lv_at hl 1 rfl) ?_
  refine lv_if_lt (tgt := 9) hx hb dX9_placeFor_1 (by decide) (fun c_1 => ?_) (fun c_1 => ?_)
  · have c_1n : x.toInt < (0 : Int) := (fa_lt _ _).mp c_1
    refine lv_bipush (v := (-2)) hx hb dX9_placeFor_9 (by decide) ?_
    exact z_back hQ9 (z_iret C hr hlocks G (Nat.le_of_ble_eq_true rfl) (Nat.le_of_ble_eq_true rfl) dX9_placeFor_11 ⟨rfl, (by first | exact Or.inl (by decide) | exact Or.inr ⟨by omega, by omega⟩)⟩)
  · have c_1n : ¬ x.toInt < (0 : Int) := fun q => c_1 ((fa_lt _ _).mpr q)
    refine lv_iload_n hx hb dX9_placeFor_4 rfl (lv_at hl 1 rfl) ?_
    refine lv_iconst (v := 2) hx hb dX9_placeFor_5 (by decide) ?_
    refine lv_icmp_le (tgt := 12) hx hb dX9_placeFor_6 (by decide) (fun c_2 => ?_) (fun c_2 => ?_)
    · have c_2n : x.toInt ≤ (2 : Int) := (fa_le _ _).mp c_2
      have hKx := hK x.toNatClampNeg (by have := z_clI (x := x) (by omega); omega)
      refine lv_iload_n hx hb dX9_placeFor_12 rfl (lv_at hl 2 rfl) ?_
      refine lv_iconst (v := (-1)) hx hb dX9_placeFor_13 (by decide) ?_
      refine lv_icmp_ne (tgt := 39) hx hb dX9_placeFor_14 (by decide) (fun c_3 => ?_) (fun c_3 => ?_)
      · have c_3n : ¬ y.toInt = (-1 : Int) := fun q => c_3 ((fa_eq _ _).mpr q)
        refine lv_iload_n hx hb dX9_placeFor_39 rfl (lv_at hl 2 rfl) ?_
        refine lv_if_lt (tgt := 57) hx hb dX9_placeFor_40 (by decide) (fun c_4 => ?_) (fun c_4 => ?_)
        · have c_4n : y.toInt < (0 : Int) := (fa_lt _ _).mp c_4
          refine lv_bipush (v := (-2)) hx hb dX9_placeFor_57 (by decide) ?_
          exact z_back hQ9 (z_iret C hr hlocks G (Nat.le_of_ble_eq_true rfl) (Nat.le_of_ble_eq_true rfl) dX9_placeFor_59 ⟨rfl, (by first | exact Or.inl (by decide) | exact Or.inr ⟨by omega, by omega⟩)⟩)
        · have c_4n : ¬ y.toInt < (0 : Int) := fun q => c_4 ((fa_lt _ _).mpr q)
          refine lv_iload_n hx hb dX9_placeFor_43 rfl (lv_at hl 2 rfl) ?_
          refine lv_aload_n hx hb dX9_placeFor_44 rfl (lv_at hl 0 rfl) ?_
          refine zEx8 ht ?_
          intro a1_5 a2_6 a3_7 a4_8 a5_9 q1_10 q2_11 q3_12
          refine zCu7 ?_
          intro hbs9 h_13 h_14 h_15 h_16 h_17 h_18
          clear ht
          subst hbs9
          have G : zS T A s.heap s [[zO8 t a1_5 ln fl pl a2_6 a3_7 a4_8 a5_9], [zAr T 1 a1_5 600 ft], [zAr T 0 a2_6 3 fk], [zArq T 3 a3_7 2 q1_10], [zArq T 4 a4_8 2 q2_11], [zArq T 5 a5_9 2 q3_12]] _ _ := G.re rfl
          refine z_get C G clX9 0 rfl 4 (by decide) m_fl_RX9_19 rfl dX9_placeFor_45 ?_
          refine lv_iload_n hx hb dX9_placeFor_48 rfl (lv_at hl 1 rfl) ?_
          refine z_ild C G 2 rfl (vp_in_iff.mpr ⟨by omega, by omega⟩) dX9_placeFor_49 ?_
          refine lv_topi (fun v_19 ev_19 => ?_)
          subst ev_19
          refine lv_icmp_ge (tgt := 57) hx hb dX9_placeFor_50 (by decide) (fun c_20 => ?_) (fun c_20 => ?_)
          · have c_20n : (fk x.toNatClampNeg).toInt ≤ y.toInt := (fa_le _ _).mp c_20
            refine lv_bipush (v := (-2)) hx hb dX9_placeFor_57 (by decide) ?_
            have hw_21 : bTold T t l0 l1 d0 d1 g0 g1 ln fl pl ft fk [zO8 t a1_5 ln fl pl a2_6 a3_7 a4_8 a5_9, zAr T 1 a1_5 600 ft, zAr T 0 a2_6 3 fk, zArq T 3 a3_7 2 q1_10, zArq T 4 a4_8 2 q2_11, zArq T 5 a5_9 2 q3_12] := ⟨a1_5, a2_6, a3_7, a4_8, a5_9, q1_10, q2_11, q3_12, rfl, h_13, h_14, h_15, h_16, h_17, h_18⟩
            have G : zS T A s.heap s [[zO8 t a1_5 ln fl pl a2_6 a3_7 a4_8 a5_9, zAr T 1 a1_5 600 ft, zAr T 0 a2_6 3 fk, zArq T 3 a3_7 2 q1_10, zArq T 4 a4_8 2 q2_11, zArq T 5 a5_9 2 q3_12]] _ _ := G.re rfl
            exact z_back hQ9 (z_iret C hr hlocks G (Nat.le_of_ble_eq_true rfl) (Nat.le_of_ble_eq_true rfl) dX9_placeFor_59 ⟨rfl, (by first | exact Or.inl (by decide) | exact Or.inr ⟨by omega, by omega⟩)⟩)
          · have c_20n : ¬ (fk x.toNatClampNeg).toInt ≤ y.toInt := fun q => c_20 ((fa_le _ _).mpr q)
            refine lv_iload_n hx hb dX9_placeFor_53 rfl (lv_at hl 2 rfl) ?_
            refine lv_goto (tgt := 59) hx hb dX9_placeFor_54 (by decide) ?_
            have hw_22 : bTold T t l0 l1 d0 d1 g0 g1 ln fl pl ft fk [zO8 t a1_5 ln fl pl a2_6 a3_7 a4_8 a5_9, zAr T 1 a1_5 600 ft, zAr T 0 a2_6 3 fk, zArq T 3 a3_7 2 q1_10, zArq T 4 a4_8 2 q2_11, zArq T 5 a5_9 2 q3_12] := ⟨a1_5, a2_6, a3_7, a4_8, a5_9, q1_10, q2_11, q3_12, rfl, h_13, h_14, h_15, h_16, h_17, h_18⟩
            have G : zS T A s.heap s [[zO8 t a1_5 ln fl pl a2_6 a3_7 a4_8 a5_9, zAr T 1 a1_5 600 ft, zAr T 0 a2_6 3 fk, zArq T 3 a3_7 2 q1_10, zArq T 4 a4_8 2 q2_11, zArq T 5 a5_9 2 q3_12]] _ _ := G.re rfl
            exact z_back hQ9 (z_iret C hr hlocks G (Nat.le_of_ble_eq_true rfl) (Nat.le_of_ble_eq_true rfl) dX9_placeFor_59 ⟨rfl, (by first | exact Or.inl (by decide) | exact Or.inr ⟨by omega, by omega⟩)⟩)
      · have c_3n : y.toInt = (-1 : Int) := (fa_eq _ _).mp c_3
        refine lv_aload_n hx hb dX9_placeFor_17 rfl (lv_at hl 0 rfl) ?_
        refine zEx8 ht ?_
        intro a1_23 a2_24 a3_25 a4_26 a5_27 q1_28 q2_29 q3_30
        refine zCu7 ?_
        intro hbs9 h_31 h_32 h_33 h_34 h_35 h_36
        clear ht
        subst hbs9
        have G : zS T A s.heap s [[zO8 t a1_23 ln fl pl a2_24 a3_25 a4_26 a5_27], [zAr T 1 a1_23 600 ft], [zAr T 0 a2_24 3 fk], [zArq T 3 a3_25 2 q1_28], [zArq T 4 a4_26 2 q2_29], [zArq T 5 a5_27 2 q3_30]] _ _ := G.re rfl
        refine z_get C G clX9 0 rfl 4 (by decide) m_fl_RX9_19 rfl dX9_placeFor_18 ?_
        refine lv_iload_n hx hb dX9_placeFor_21 rfl (lv_at hl 1 rfl) ?_
        refine z_ild C G 2 rfl (vp_in_iff.mpr ⟨by omega, by omega⟩) dX9_placeFor_22 ?_
        refine lv_topi (fun v_37 ev_37 => ?_)
        subst ev_37
        refine lv_iconst (v := 2) hx hb dX9_placeFor_23 (by decide) ?_
        refine lv_icmp_ge (tgt := 36) hx hb dX9_placeFor_24 (by decide) (fun c_38 => ?_) (fun c_38 => ?_)
        · have c_38n : (2 : Int) ≤ (fk x.toNatClampNeg).toInt := (fa_le _ _).mp c_38
          refine lv_bipush (v := (-2)) hx hb dX9_placeFor_36 (by decide) ?_
          have hw_39 : bTold T t l0 l1 d0 d1 g0 g1 ln fl pl ft fk [zO8 t a1_23 ln fl pl a2_24 a3_25 a4_26 a5_27, zAr T 1 a1_23 600 ft, zAr T 0 a2_24 3 fk, zArq T 3 a3_25 2 q1_28, zArq T 4 a4_26 2 q2_29, zArq T 5 a5_27 2 q3_30] := ⟨a1_23, a2_24, a3_25, a4_26, a5_27, q1_28, q2_29, q3_30, rfl, h_31, h_32, h_33, h_34, h_35, h_36⟩
          have G : zS T A s.heap s [[zO8 t a1_23 ln fl pl a2_24 a3_25 a4_26 a5_27, zAr T 1 a1_23 600 ft, zAr T 0 a2_24 3 fk, zArq T 3 a3_25 2 q1_28, zArq T 4 a4_26 2 q2_29, zArq T 5 a5_27 2 q3_30]] _ _ := G.re rfl
          exact z_back hQ9 (z_iret C hr hlocks G (Nat.le_of_ble_eq_true rfl) (Nat.le_of_ble_eq_true rfl) dX9_placeFor_38 ⟨rfl, (by first | exact Or.inl (by decide) | exact Or.inr ⟨by omega, by omega⟩)⟩)
        · have c_38n : ¬ (2 : Int) ≤ (fk x.toNatClampNeg).toInt := fun q => c_38 ((fa_le _ _).mpr q)
          refine lv_aload_n hx hb dX9_placeFor_27 rfl (lv_at hl 0 rfl) ?_
          refine z_get C G clX9 0 rfl 4 (by decide) m_fl_RX9_19 rfl dX9_placeFor_28 ?_
          refine lv_iload_n hx hb dX9_placeFor_31 rfl (lv_at hl 1 rfl) ?_
          refine z_ild C G 2 rfl (vp_in_iff.mpr ⟨by omega, by omega⟩) dX9_placeFor_32 ?_
          refine lv_topi (fun v_40 ev_40 => ?_)
          subst ev_40
          refine lv_goto (tgt := 38) hx hb dX9_placeFor_33 (by decide) ?_
          have hw_41 : bTold T t l0 l1 d0 d1 g0 g1 ln fl pl ft fk [zO8 t a1_23 ln fl pl a2_24 a3_25 a4_26 a5_27, zAr T 1 a1_23 600 ft, zAr T 0 a2_24 3 fk, zArq T 3 a3_25 2 q1_28, zArq T 4 a4_26 2 q2_29, zArq T 5 a5_27 2 q3_30] := ⟨a1_23, a2_24, a3_25, a4_26, a5_27, q1_28, q2_29, q3_30, rfl, h_31, h_32, h_33, h_34, h_35, h_36⟩
          have G : zS T A s.heap s [[zO8 t a1_23 ln fl pl a2_24 a3_25 a4_26 a5_27, zAr T 1 a1_23 600 ft, zAr T 0 a2_24 3 fk, zArq T 3 a3_25 2 q1_28, zArq T 4 a4_26 2 q2_29, zArq T 5 a5_27 2 q3_30]] _ _ := G.re rfl
          exact z_back hQ9 (z_iret C hr hlocks G (Nat.le_of_ble_eq_true rfl) (Nat.le_of_ble_eq_true rfl) dX9_placeFor_38 ⟨rfl, (by first | exact Or.inl (by decide) | exact Or.inr ⟨by omega, by omega⟩)⟩)
    · have c_2n : ¬ x.toInt ≤ (2 : Int) := fun q => c_2 ((fa_le _ _).mpr q)
      refine lv_bipush (v := (-2)) hx hb dX9_placeFor_9 (by decide) ?_
      exact z_back hQ9 (z_iret C hr hlocks G (Nat.le_of_ble_eq_true rfl) (Nat.le_of_ble_eq_true rfl) dX9_placeFor_11 ⟨rfl, (by first | exact Or.inl (by decide) | exact Or.inr ⟨by omega, by omega⟩)⟩)
set_option maxHeartbeats 4000000 in
set_option maxRecDepth 100000 in
/-- c_landAt -/
theorem c_landAt (l : Launch) (T : zTy) (t : Nat) (l0 : Nat) (l1 : Nat) (d0 : Nat) (d1 : Nat) (g0 : Nat) (g1 : Nat) (ln : Int32) (fl : Int32) (pl : Int32) (ft : Nat → Int32) (fk : Nat → Int32) (wt : va_W) (x : Int32) (ht : bTold T t l0 l1 d0 d1 g0 g1 ln fl pl ft fk wt) : zMq l T yX9_landAt cX9_landAt 2 (some (.object "TurnedPosts$Land")) 1 0 0 [.ref t, .int x] [wt] (fun (r : Option Nat) bs => bs = [wt] ∧ ((r = none ∧ (x.toInt < 0 ∨ (fk 0).toInt ≤ x.toInt ∨ 2 ≤ x.toInt)) ∨ (r = some l0 ∧ x.toInt = 0 ∧ 0 < (fk 0).toInt) ∨ (r = some l1 ∧ x.toInt = 1 ∧ 1 < (fk 0).toInt))) := by
  refine zMq_of (own := RX9) (by decide) rfl (Nat.le_of_ble_eq_true rfl) ?_
  intro p e s m args below meth c A ls C hr hlocks hnm hAe G hl
  refine zHide (fun Q9 hQ9 => ?_)
  have hx := C.1
  have hb := C.2.1
  have hl : lv_has ls 2 [(0, .ref t), (1, .int x)] := hl
  refine lv_iload_n hx hb dX9_landAt_0 rfl (lv_at hl 1 rfl) ?_
  refine lv_if_lt (tgt := 28) hx hb dX9_landAt_1 (by decide) (fun c_1 => ?_) (fun c_1 => ?_)
  · have c_1n : x.toInt < (0 : Int) := (fa_lt _ _).mp c_1
    refine lv_null hx hb dX9_landAt_28 ?_
    exact z_back hQ9 (z_aret (r := none) C hr (Or.inl ⟨_, rfl⟩) hlocks G (Nat.le_of_ble_eq_true rfl) (Nat.le_of_ble_eq_true rfl) dX9_landAt_29 ⟨rfl, (Or.inl (⟨rfl, (by first | with_reducible assumption | omega | assumption)⟩))⟩)
  · have c_1n : ¬ x.toInt < (0 : Int) := fun q => c_1 ((fa_lt _ _).mpr q)
    refine lv_iload_n hx hb dX9_landAt_4 rfl (lv_at hl 1 rfl) ?_
    refine lv_aload_n hx hb dX9_landAt_5 rfl (lv_at hl 0 rfl) ?_
    refine zEx8 ht ?_
    intro a1_2 a2_3 a3_4 a4_5 a5_6 q1_7 q2_8 q3_9
    refine zCu7 ?_
    intro hbs9 h_10 h_11 h_12 h_13 h_14 h_15
    clear ht
    subst hbs9
    have G : zS T A s.heap s [[zO8 t a1_2 ln fl pl a2_3 a3_4 a4_5 a5_6], [zAr T 1 a1_2 600 ft], [zAr T 0 a2_3 3 fk], [zArq T 3 a3_4 2 q1_7], [zArq T 4 a4_5 2 q2_8], [zArq T 5 a5_6 2 q3_9]] _ _ := G.re rfl
    refine z_get C G clX9 0 rfl 4 (by decide) m_fl_RX9_19 rfl dX9_landAt_6 ?_
    refine lv_iconst (v := 0) hx hb dX9_landAt_9 (by decide) ?_
    refine z_ild C G 2 rfl (vp_in_nI (n := 0) (by decide) (by decide)) dX9_landAt_10 ?_
    refine lv_topi (fun v_16 ev_16 => ?_)
    rw [show ((0 : Int32).toNatClampNeg) = 0 from rfl] at ev_16
    subst ev_16
    refine lv_icmp_ge (tgt := 28) hx hb dX9_landAt_11 (by decide) (fun c_17 => ?_) (fun c_17 => ?_)
    · have c_17n : (fk 0).toInt ≤ x.toInt := (fa_le _ _).mp c_17
      refine lv_null hx hb dX9_landAt_28 ?_
      have hw_18 : bTold T t l0 l1 d0 d1 g0 g1 ln fl pl ft fk [zO8 t a1_2 ln fl pl a2_3 a3_4 a4_5 a5_6, zAr T 1 a1_2 600 ft, zAr T 0 a2_3 3 fk, zArq T 3 a3_4 2 q1_7, zArq T 4 a4_5 2 q2_8, zArq T 5 a5_6 2 q3_9] := ⟨a1_2, a2_3, a3_4, a4_5, a5_6, q1_7, q2_8, q3_9, rfl, h_10, h_11, h_12, h_13, h_14, h_15⟩
      have G : zS T A s.heap s [[zO8 t a1_2 ln fl pl a2_3 a3_4 a4_5 a5_6, zAr T 1 a1_2 600 ft, zAr T 0 a2_3 3 fk, zArq T 3 a3_4 2 q1_7, zArq T 4 a4_5 2 q2_8, zArq T 5 a5_6 2 q3_9]] _ _ := G.re rfl
      exact z_back hQ9 (z_aret (r := none) C hr (Or.inl ⟨_, rfl⟩) hlocks G (Nat.le_of_ble_eq_true rfl) (Nat.le_of_ble_eq_true rfl) dX9_landAt_29 ⟨rfl, (Or.inl (⟨rfl, (by first | with_reducible assumption | omega | assumption)⟩))⟩)
    · have c_17n : ¬ (fk 0).toInt ≤ x.toInt := fun q => c_17 ((fa_le _ _).mpr q)
      refine lv_iload_n hx hb dX9_landAt_14 rfl (lv_at hl 1 rfl) ?_
      refine lv_iconst (v := 2) hx hb dX9_landAt_15 (by decide) ?_
      refine lv_icmp_ge (tgt := 28) hx hb dX9_landAt_16 (by decide) (fun c_19 => ?_) (fun c_19 => ?_)
      · have c_19n : (2 : Int) ≤ x.toInt := (fa_le _ _).mp c_19
        refine lv_null hx hb dX9_landAt_28 ?_
        have hw_20 : bTold T t l0 l1 d0 d1 g0 g1 ln fl pl ft fk [zO8 t a1_2 ln fl pl a2_3 a3_4 a4_5 a5_6, zAr T 1 a1_2 600 ft, zAr T 0 a2_3 3 fk, zArq T 3 a3_4 2 q1_7, zArq T 4 a4_5 2 q2_8, zArq T 5 a5_6 2 q3_9] := ⟨a1_2, a2_3, a3_4, a4_5, a5_6, q1_7, q2_8, q3_9, rfl, h_10, h_11, h_12, h_13, h_14, h_15⟩
        have G : zS T A s.heap s [[zO8 t a1_2 ln fl pl a2_3 a3_4 a4_5 a5_6, zAr T 1 a1_2 600 ft, zAr T 0 a2_3 3 fk, zArq T 3 a3_4 2 q1_7, zArq T 4 a4_5 2 q2_8, zArq T 5 a5_6 2 q3_9]] _ _ := G.re rfl
        exact z_back hQ9 (z_aret (r := none) C hr (Or.inl ⟨_, rfl⟩) hlocks G (Nat.le_of_ble_eq_true rfl) (Nat.le_of_ble_eq_true rfl) dX9_landAt_29 ⟨rfl, (Or.inl (⟨rfl, (by first | with_reducible assumption | omega | assumption)⟩))⟩)
      · have c_19n : ¬ (2 : Int) ≤ x.toInt := fun q => c_19 ((fa_le _ _).mpr q)
        refine lv_aload_n hx hb dX9_landAt_19 rfl (lv_at hl 0 rfl) ?_
        refine z_get C G clX9 0 rfl 5 (by decide) m_fl_RX9_26 rfl dX9_landAt_20 ?_
        refine lv_iload_n hx hb dX9_landAt_23 rfl (lv_at hl 1 rfl) ?_
        rcases (show x.toInt = 0 ∨ x.toInt = 1 from by omega) with hx0 | hx1
        · have hxk := hx0
          refine z_ald C G 3 3 rfl rfl (vp_in_iff.mpr ⟨by omega, by omega⟩) dX9_landAt_24 ?_
          rw [show q1_7 (x.toNatClampNeg) = some l0 from by rw [show x.toNatClampNeg = 0 from by show x.toInt.toNat = 0; omega]; exact h_10]
          refine lv_goto (tgt := 29) hx hb dX9_landAt_25 (by decide) ?_
          have hw_21 : bTold T t l0 l1 d0 d1 g0 g1 ln fl pl ft fk [zO8 t a1_2 ln fl pl a2_3 a3_4 a4_5 a5_6, zAr T 1 a1_2 600 ft, zAr T 0 a2_3 3 fk, zArq T 3 a3_4 2 q1_7, zArq T 4 a4_5 2 q2_8, zArq T 5 a5_6 2 q3_9] := ⟨a1_2, a2_3, a3_4, a4_5, a5_6, q1_7, q2_8, q3_9, rfl, h_10, h_11, h_12, h_13, h_14, h_15⟩
          have G : zS T A s.heap s [[zO8 t a1_2 ln fl pl a2_3 a3_4 a4_5 a5_6, zAr T 1 a1_2 600 ft, zAr T 0 a2_3 3 fk, zArq T 3 a3_4 2 q1_7, zArq T 4 a4_5 2 q2_8, zArq T 5 a5_6 2 q3_9]] _ _ := G.re rfl
          exact z_back hQ9 (z_aret (r := (some l0)) C hr (Or.inl ⟨_, rfl⟩) hlocks G (Nat.le_of_ble_eq_true rfl) (Nat.le_of_ble_eq_true rfl) dX9_landAt_29 ⟨rfl, (Or.inr (Or.inl (⟨rfl, (by first | with_reducible assumption | omega | assumption), (by first | with_reducible assumption | omega | assumption)⟩)))⟩)
        · have hxk := hx1
          refine z_ald C G 3 3 rfl rfl (vp_in_iff.mpr ⟨by omega, by omega⟩) dX9_landAt_24 ?_
          rw [show q1_7 (x.toNatClampNeg) = some l1 from by rw [show x.toNatClampNeg = 1 from by show x.toInt.toNat = 1; omega]; exact h_11]
          refine lv_goto (tgt := 29) hx hb dX9_landAt_25 (by decide) ?_
          have hw_22 : bTold T t l0 l1 d0 d1 g0 g1 ln fl pl ft fk [zO8 t a1_2 ln fl pl a2_3 a3_4 a4_5 a5_6, zAr T 1 a1_2 600 ft, zAr T 0 a2_3 3 fk, zArq T 3 a3_4 2 q1_7, zArq T 4 a4_5 2 q2_8, zArq T 5 a5_6 2 q3_9] := ⟨a1_2, a2_3, a3_4, a4_5, a5_6, q1_7, q2_8, q3_9, rfl, h_10, h_11, h_12, h_13, h_14, h_15⟩
          have G : zS T A s.heap s [[zO8 t a1_2 ln fl pl a2_3 a3_4 a4_5 a5_6, zAr T 1 a1_2 600 ft, zAr T 0 a2_3 3 fk, zArq T 3 a3_4 2 q1_7, zArq T 4 a4_5 2 q2_8, zArq T 5 a5_6 2 q3_9]] _ _ := G.re rfl
          exact z_back hQ9 (z_aret (r := (some l1)) C hr (Or.inl ⟨_, rfl⟩) hlocks G (Nat.le_of_ble_eq_true rfl) (Nat.le_of_ble_eq_true rfl) dX9_landAt_29 ⟨rfl, (Or.inr (Or.inr (⟨rfl, (by first | with_reducible assumption | omega | assumption), (by first | with_reducible assumption | omega | assumption)⟩)))⟩)
set_option maxHeartbeats 4000000 in
set_option maxRecDepth 100000 in
/-- c_dayAt -/
theorem c_dayAt (l : Launch) (T : zTy) (t : Nat) (l0 : Nat) (l1 : Nat) (d0 : Nat) (d1 : Nat) (g0 : Nat) (g1 : Nat) (ln : Int32) (fl : Int32) (pl : Int32) (ft : Nat → Int32) (fk : Nat → Int32) (wt : va_W) (x : Int32) (ht : bTold T t l0 l1 d0 d1 g0 g1 ln fl pl ft fk wt) : zMq l T yX9_dayAt cX9_dayAt 2 (some (.object "TurnedPosts$Day")) 1 0 0 [.ref t, .int x] [wt] (fun (r : Option Nat) bs => bs = [wt] ∧ ((r = none ∧ (x.toInt < 0 ∨ (fk 1).toInt ≤ x.toInt ∨ 2 ≤ x.toInt)) ∨ (r = some d0 ∧ x.toInt = 0 ∧ 0 < (fk 1).toInt) ∨ (r = some d1 ∧ x.toInt = 1 ∧ 1 < (fk 1).toInt))) := by
  refine zMq_of (own := RX9) (by decide) rfl (Nat.le_of_ble_eq_true rfl) ?_
  intro p e s m args below meth c A ls C hr hlocks hnm hAe G hl
  refine zHide (fun Q9 hQ9 => ?_)
  have hx := C.1
  have hb := C.2.1
  have hl : lv_has ls 2 [(0, .ref t), (1, .int x)] := hl
  refine lv_iload_n hx hb dX9_dayAt_0 rfl (lv_at hl 1 rfl) ?_
  refine lv_if_lt (tgt := 28) hx hb dX9_dayAt_1 (by decide) (fun c_1 => ?_) (fun c_1 => ?_)
  · have c_1n : x.toInt < (0 : Int) := (fa_lt _ _).mp c_1
    refine lv_null hx hb dX9_dayAt_28 ?_
    exact z_back hQ9 (z_aret (r := none) C hr (Or.inl ⟨_, rfl⟩) hlocks G (Nat.le_of_ble_eq_true rfl) (Nat.le_of_ble_eq_true rfl) dX9_dayAt_29 ⟨rfl, (Or.inl (⟨rfl, (by first | with_reducible assumption | omega | assumption)⟩))⟩)
  · have c_1n : ¬ x.toInt < (0 : Int) := fun q => c_1 ((fa_lt _ _).mpr q)
    refine lv_iload_n hx hb dX9_dayAt_4 rfl (lv_at hl 1 rfl) ?_
    refine lv_aload_n hx hb dX9_dayAt_5 rfl (lv_at hl 0 rfl) ?_
    refine zEx8 ht ?_
    intro a1_2 a2_3 a3_4 a4_5 a5_6 q1_7 q2_8 q3_9
    refine zCu7 ?_
    intro hbs9 h_10 h_11 h_12 h_13 h_14 h_15
    clear ht
    subst hbs9
    have G : zS T A s.heap s [[zO8 t a1_2 ln fl pl a2_3 a3_4 a4_5 a5_6], [zAr T 1 a1_2 600 ft], [zAr T 0 a2_3 3 fk], [zArq T 3 a3_4 2 q1_7], [zArq T 4 a4_5 2 q2_8], [zArq T 5 a5_6 2 q3_9]] _ _ := G.re rfl
    refine z_get C G clX9 0 rfl 4 (by decide) m_fl_RX9_19 rfl dX9_dayAt_6 ?_
    refine lv_iconst (v := 1) hx hb dX9_dayAt_9 (by decide) ?_
    refine z_ild C G 2 rfl (vp_in_nI (n := 1) (by decide) (by decide)) dX9_dayAt_10 ?_
    refine lv_topi (fun v_16 ev_16 => ?_)
    rw [show ((1 : Int32).toNatClampNeg) = 1 from rfl] at ev_16
    subst ev_16
    refine lv_icmp_ge (tgt := 28) hx hb dX9_dayAt_11 (by decide) (fun c_17 => ?_) (fun c_17 => ?_)
    · have c_17n : (fk 1).toInt ≤ x.toInt := (fa_le _ _).mp c_17
      refine lv_null hx hb dX9_dayAt_28 ?_
      have hw_18 : bTold T t l0 l1 d0 d1 g0 g1 ln fl pl ft fk [zO8 t a1_2 ln fl pl a2_3 a3_4 a4_5 a5_6, zAr T 1 a1_2 600 ft, zAr T 0 a2_3 3 fk, zArq T 3 a3_4 2 q1_7, zArq T 4 a4_5 2 q2_8, zArq T 5 a5_6 2 q3_9] := ⟨a1_2, a2_3, a3_4, a4_5, a5_6, q1_7, q2_8, q3_9, rfl, h_10, h_11, h_12, h_13, h_14, h_15⟩
      have G : zS T A s.heap s [[zO8 t a1_2 ln fl pl a2_3 a3_4 a4_5 a5_6, zAr T 1 a1_2 600 ft, zAr T 0 a2_3 3 fk, zArq T 3 a3_4 2 q1_7, zArq T 4 a4_5 2 q2_8, zArq T 5 a5_6 2 q3_9]] _ _ := G.re rfl
      exact z_back hQ9 (z_aret (r := none) C hr (Or.inl ⟨_, rfl⟩) hlocks G (Nat.le_of_ble_eq_true rfl) (Nat.le_of_ble_eq_true rfl) dX9_dayAt_29 ⟨rfl, (Or.inl (⟨rfl, (by first | with_reducible assumption | omega | assumption)⟩))⟩)
    · have c_17n : ¬ (fk 1).toInt ≤ x.toInt := fun q => c_17 ((fa_le _ _).mpr q)
      refine lv_iload_n hx hb dX9_dayAt_14 rfl (lv_at hl 1 rfl) ?_
      refine lv_iconst (v := 2) hx hb dX9_dayAt_15 (by decide) ?_
      refine lv_icmp_ge (tgt := 28) hx hb dX9_dayAt_16 (by decide) (fun c_19 => ?_) (fun c_19 => ?_)
      · have c_19n : (2 : Int) ≤ x.toInt := (fa_le _ _).mp c_19
        refine lv_null hx hb dX9_dayAt_28 ?_
        have hw_20 : bTold T t l0 l1 d0 d1 g0 g1 ln fl pl ft fk [zO8 t a1_2 ln fl pl a2_3 a3_4 a4_5 a5_6, zAr T 1 a1_2 600 ft, zAr T 0 a2_3 3 fk, zArq T 3 a3_4 2 q1_7, zArq T 4 a4_5 2 q2_8, zArq T 5 a5_6 2 q3_9] := ⟨a1_2, a2_3, a3_4, a4_5, a5_6, q1_7, q2_8, q3_9, rfl, h_10, h_11, h_12, h_13, h_14, h_15⟩
        have G : zS T A s.heap s [[zO8 t a1_2 ln fl pl a2_3 a3_4 a4_5 a5_6, zAr T 1 a1_2 600 ft, zAr T 0 a2_3 3 fk, zArq T 3 a3_4 2 q1_7, zArq T 4 a4_5 2 q2_8, zArq T 5 a5_6 2 q3_9]] _ _ := G.re rfl
        exact z_back hQ9 (z_aret (r := none) C hr (Or.inl ⟨_, rfl⟩) hlocks G (Nat.le_of_ble_eq_true rfl) (Nat.le_of_ble_eq_true rfl) dX9_dayAt_29 ⟨rfl, (Or.inl (⟨rfl, (by first | with_reducible assumption | omega | assumption)⟩))⟩)
      · have c_19n : ¬ (2 : Int) ≤ x.toInt := fun q => c_19 ((fa_le _ _).mpr q)
        refine lv_aload_n hx hb dX9_dayAt_19 rfl (lv_at hl 0 rfl) ?_
        refine z_get C G clX9 0 rfl 6 (by decide) m_fl_RX9_33 rfl dX9_dayAt_20 ?_
        refine lv_iload_n hx hb dX9_dayAt_23 rfl (lv_at hl 1 rfl) ?_
        rcases (show x.toInt = 0 ∨ x.toInt = 1 from by omega) with hx0 | hx1
        · have hxk := hx0
          refine z_ald C G 4 4 rfl rfl (vp_in_iff.mpr ⟨by omega, by omega⟩) dX9_dayAt_24 ?_
          rw [show q2_8 (x.toNatClampNeg) = some d0 from by rw [show x.toNatClampNeg = 0 from by show x.toInt.toNat = 0; omega]; exact h_12]
          refine lv_goto (tgt := 29) hx hb dX9_dayAt_25 (by decide) ?_
          have hw_21 : bTold T t l0 l1 d0 d1 g0 g1 ln fl pl ft fk [zO8 t a1_2 ln fl pl a2_3 a3_4 a4_5 a5_6, zAr T 1 a1_2 600 ft, zAr T 0 a2_3 3 fk, zArq T 3 a3_4 2 q1_7, zArq T 4 a4_5 2 q2_8, zArq T 5 a5_6 2 q3_9] := ⟨a1_2, a2_3, a3_4, a4_5, a5_6, q1_7, q2_8, q3_9, rfl, h_10, h_11, h_12, h_13, h_14, h_15⟩
          have G : zS T A s.heap s [[zO8 t a1_2 ln fl pl a2_3 a3_4 a4_5 a5_6, zAr T 1 a1_2 600 ft, zAr T 0 a2_3 3 fk, zArq T 3 a3_4 2 q1_7, zArq T 4 a4_5 2 q2_8, zArq T 5 a5_6 2 q3_9]] _ _ := G.re rfl
          exact z_back hQ9 (z_aret (r := (some d0)) C hr (Or.inl ⟨_, rfl⟩) hlocks G (Nat.le_of_ble_eq_true rfl) (Nat.le_of_ble_eq_true rfl) dX9_dayAt_29 ⟨rfl, (Or.inr (Or.inl (⟨rfl, (by first | with_reducible assumption | omega | assumption), (by first | with_reducible assumption | omega | assumption)⟩)))⟩)
        · have hxk := hx1
          refine z_ald C G 4 4 rfl rfl (vp_in_iff.mpr ⟨by omega, by omega⟩) dX9_dayAt_24 ?_
          rw [show q2_8 (x.toNatClampNeg) = some d1 from by rw [show x.toNatClampNeg = 1 from by show x.toInt.toNat = 1; omega]; exact h_13]
          refine lv_goto (tgt := 29) hx hb dX9_dayAt_25 (by decide) ?_
          have hw_22 : bTold T t l0 l1 d0 d1 g0 g1 ln fl pl ft fk [zO8 t a1_2 ln fl pl a2_3 a3_4 a4_5 a5_6, zAr T 1 a1_2 600 ft, zAr T 0 a2_3 3 fk, zArq T 3 a3_4 2 q1_7, zArq T 4 a4_5 2 q2_8, zArq T 5 a5_6 2 q3_9] := ⟨a1_2, a2_3, a3_4, a4_5, a5_6, q1_7, q2_8, q3_9, rfl, h_10, h_11, h_12, h_13, h_14, h_15⟩
          have G : zS T A s.heap s [[zO8 t a1_2 ln fl pl a2_3 a3_4 a4_5 a5_6, zAr T 1 a1_2 600 ft, zAr T 0 a2_3 3 fk, zArq T 3 a3_4 2 q1_7, zArq T 4 a4_5 2 q2_8, zArq T 5 a5_6 2 q3_9]] _ _ := G.re rfl
          exact z_back hQ9 (z_aret (r := (some d1)) C hr (Or.inl ⟨_, rfl⟩) hlocks G (Nat.le_of_ble_eq_true rfl) (Nat.le_of_ble_eq_true rfl) dX9_dayAt_29 ⟨rfl, (Or.inr (Or.inr (⟨rfl, (by first | with_reducible assumption | omega | assumption), (by first | with_reducible assumption | omega | assumption)⟩)))⟩)
set_option maxHeartbeats 4000000 in
set_option maxRecDepth 100000 in
/-- c_logAt -/
theorem c_logAt (l : Launch) (T : zTy) (t : Nat) (l0 : Nat) (l1 : Nat) (d0 : Nat) (d1 : Nat) (g0 : Nat) (g1 : Nat) (ln : Int32) (fl : Int32) (pl : Int32) (ft : Nat → Int32) (fk : Nat → Int32) (wt : va_W) (x : Int32) (ht : bTold T t l0 l1 d0 d1 g0 g1 ln fl pl ft fk wt) : zMq l T yX9_logAt cX9_logAt 2 (some (.object "TurnedPosts$Log")) 1 0 0 [.ref t, .int x] [wt] (fun (r : Option Nat) bs => bs = [wt] ∧ ((r = none ∧ (x.toInt < 0 ∨ (fk 2).toInt ≤ x.toInt ∨ 2 ≤ x.toInt)) ∨ (r = some g0 ∧ x.toInt = 0 ∧ 0 < (fk 2).toInt) ∨ (r = some g1 ∧ x.toInt = 1 ∧ 1 < (fk 2).toInt))) := by
  refine zMq_of (own := RX9) (by decide) rfl (Nat.le_of_ble_eq_true rfl) ?_
  intro p e s m args below meth c A ls C hr hlocks hnm hAe G hl
  refine zHide (fun Q9 hQ9 => ?_)
  have hx := C.1
  have hb := C.2.1
  have hl : lv_has ls 2 [(0, .ref t), (1, .int x)] := hl
  refine lv_iload_n hx hb dX9_logAt_0 rfl (lv_at hl 1 rfl) ?_
  refine lv_if_lt (tgt := 28) hx hb dX9_logAt_1 (by decide) (fun c_1 => ?_) (fun c_1 => ?_)
  · have c_1n : x.toInt < (0 : Int) := (fa_lt _ _).mp c_1
    refine lv_null hx hb dX9_logAt_28 ?_
    exact z_back hQ9 (z_aret (r := none) C hr (Or.inl ⟨_, rfl⟩) hlocks G (Nat.le_of_ble_eq_true rfl) (Nat.le_of_ble_eq_true rfl) dX9_logAt_29 ⟨rfl, (Or.inl (⟨rfl, (by first | with_reducible assumption | omega | assumption)⟩))⟩)
  · have c_1n : ¬ x.toInt < (0 : Int) := fun q => c_1 ((fa_lt _ _).mpr q)
    refine lv_iload_n hx hb dX9_logAt_4 rfl (lv_at hl 1 rfl) ?_
    refine lv_aload_n hx hb dX9_logAt_5 rfl (lv_at hl 0 rfl) ?_
    refine zEx8 ht ?_
    intro a1_2 a2_3 a3_4 a4_5 a5_6 q1_7 q2_8 q3_9
    refine zCu7 ?_
    intro hbs9 h_10 h_11 h_12 h_13 h_14 h_15
    clear ht
    subst hbs9
    have G : zS T A s.heap s [[zO8 t a1_2 ln fl pl a2_3 a3_4 a4_5 a5_6], [zAr T 1 a1_2 600 ft], [zAr T 0 a2_3 3 fk], [zArq T 3 a3_4 2 q1_7], [zArq T 4 a4_5 2 q2_8], [zArq T 5 a5_6 2 q3_9]] _ _ := G.re rfl
    refine z_get C G clX9 0 rfl 4 (by decide) m_fl_RX9_19 rfl dX9_logAt_6 ?_
    refine lv_iconst (v := 2) hx hb dX9_logAt_9 (by decide) ?_
    refine z_ild C G 2 rfl (vp_in_nI (n := 2) (by decide) (by decide)) dX9_logAt_10 ?_
    refine lv_topi (fun v_16 ev_16 => ?_)
    rw [show ((2 : Int32).toNatClampNeg) = 2 from rfl] at ev_16
    subst ev_16
    refine lv_icmp_ge (tgt := 28) hx hb dX9_logAt_11 (by decide) (fun c_17 => ?_) (fun c_17 => ?_)
    · have c_17n : (fk 2).toInt ≤ x.toInt := (fa_le _ _).mp c_17
      refine lv_null hx hb dX9_logAt_28 ?_
      have hw_18 : bTold T t l0 l1 d0 d1 g0 g1 ln fl pl ft fk [zO8 t a1_2 ln fl pl a2_3 a3_4 a4_5 a5_6, zAr T 1 a1_2 600 ft, zAr T 0 a2_3 3 fk, zArq T 3 a3_4 2 q1_7, zArq T 4 a4_5 2 q2_8, zArq T 5 a5_6 2 q3_9] := ⟨a1_2, a2_3, a3_4, a4_5, a5_6, q1_7, q2_8, q3_9, rfl, h_10, h_11, h_12, h_13, h_14, h_15⟩
      have G : zS T A s.heap s [[zO8 t a1_2 ln fl pl a2_3 a3_4 a4_5 a5_6, zAr T 1 a1_2 600 ft, zAr T 0 a2_3 3 fk, zArq T 3 a3_4 2 q1_7, zArq T 4 a4_5 2 q2_8, zArq T 5 a5_6 2 q3_9]] _ _ := G.re rfl
      exact z_back hQ9 (z_aret (r := none) C hr (Or.inl ⟨_, rfl⟩) hlocks G (Nat.le_of_ble_eq_true rfl) (Nat.le_of_ble_eq_true rfl) dX9_logAt_29 ⟨rfl, (Or.inl (⟨rfl, (by first | with_reducible assumption | omega | assumption)⟩))⟩)
    · have c_17n : ¬ (fk 2).toInt ≤ x.toInt := fun q => c_17 ((fa_le _ _).mpr q)
      refine lv_iload_n hx hb dX9_logAt_14 rfl (lv_at hl 1 rfl) ?_
      refine lv_iconst (v := 2) hx hb dX9_logAt_15 (by decide) ?_
      refine lv_icmp_ge (tgt := 28) hx hb dX9_logAt_16 (by decide) (fun c_19 => ?_) (fun c_19 => ?_)
      · have c_19n : (2 : Int) ≤ x.toInt := (fa_le _ _).mp c_19
        refine lv_null hx hb dX9_logAt_28 ?_
        have hw_20 : bTold T t l0 l1 d0 d1 g0 g1 ln fl pl ft fk [zO8 t a1_2 ln fl pl a2_3 a3_4 a4_5 a5_6, zAr T 1 a1_2 600 ft, zAr T 0 a2_3 3 fk, zArq T 3 a3_4 2 q1_7, zArq T 4 a4_5 2 q2_8, zArq T 5 a5_6 2 q3_9] := ⟨a1_2, a2_3, a3_4, a4_5, a5_6, q1_7, q2_8, q3_9, rfl, h_10, h_11, h_12, h_13, h_14, h_15⟩
        have G : zS T A s.heap s [[zO8 t a1_2 ln fl pl a2_3 a3_4 a4_5 a5_6, zAr T 1 a1_2 600 ft, zAr T 0 a2_3 3 fk, zArq T 3 a3_4 2 q1_7, zArq T 4 a4_5 2 q2_8, zArq T 5 a5_6 2 q3_9]] _ _ := G.re rfl
        exact z_back hQ9 (z_aret (r := none) C hr (Or.inl ⟨_, rfl⟩) hlocks G (Nat.le_of_ble_eq_true rfl) (Nat.le_of_ble_eq_true rfl) dX9_logAt_29 ⟨rfl, (Or.inl (⟨rfl, (by first | with_reducible assumption | omega | assumption)⟩))⟩)
      · have c_19n : ¬ (2 : Int) ≤ x.toInt := fun q => c_19 ((fa_le _ _).mpr q)
        refine lv_aload_n hx hb dX9_logAt_19 rfl (lv_at hl 0 rfl) ?_
        refine z_get C G clX9 0 rfl 7 (by decide) m_fl_RX9_40 rfl dX9_logAt_20 ?_
        refine lv_iload_n hx hb dX9_logAt_23 rfl (lv_at hl 1 rfl) ?_
        rcases (show x.toInt = 0 ∨ x.toInt = 1 from by omega) with hx0 | hx1
        · have hxk := hx0
          refine z_ald C G 5 5 rfl rfl (vp_in_iff.mpr ⟨by omega, by omega⟩) dX9_logAt_24 ?_
          rw [show q3_9 (x.toNatClampNeg) = some g0 from by rw [show x.toNatClampNeg = 0 from by show x.toInt.toNat = 0; omega]; exact h_14]
          refine lv_goto (tgt := 29) hx hb dX9_logAt_25 (by decide) ?_
          have hw_21 : bTold T t l0 l1 d0 d1 g0 g1 ln fl pl ft fk [zO8 t a1_2 ln fl pl a2_3 a3_4 a4_5 a5_6, zAr T 1 a1_2 600 ft, zAr T 0 a2_3 3 fk, zArq T 3 a3_4 2 q1_7, zArq T 4 a4_5 2 q2_8, zArq T 5 a5_6 2 q3_9] := ⟨a1_2, a2_3, a3_4, a4_5, a5_6, q1_7, q2_8, q3_9, rfl, h_10, h_11, h_12, h_13, h_14, h_15⟩
          have G : zS T A s.heap s [[zO8 t a1_2 ln fl pl a2_3 a3_4 a4_5 a5_6, zAr T 1 a1_2 600 ft, zAr T 0 a2_3 3 fk, zArq T 3 a3_4 2 q1_7, zArq T 4 a4_5 2 q2_8, zArq T 5 a5_6 2 q3_9]] _ _ := G.re rfl
          exact z_back hQ9 (z_aret (r := (some g0)) C hr (Or.inl ⟨_, rfl⟩) hlocks G (Nat.le_of_ble_eq_true rfl) (Nat.le_of_ble_eq_true rfl) dX9_logAt_29 ⟨rfl, (Or.inr (Or.inl (⟨rfl, (by first | with_reducible assumption | omega | assumption), (by first | with_reducible assumption | omega | assumption)⟩)))⟩)
        · have hxk := hx1
          refine z_ald C G 5 5 rfl rfl (vp_in_iff.mpr ⟨by omega, by omega⟩) dX9_logAt_24 ?_
          rw [show q3_9 (x.toNatClampNeg) = some g1 from by rw [show x.toNatClampNeg = 1 from by show x.toInt.toNat = 1; omega]; exact h_15]
          refine lv_goto (tgt := 29) hx hb dX9_logAt_25 (by decide) ?_
          have hw_22 : bTold T t l0 l1 d0 d1 g0 g1 ln fl pl ft fk [zO8 t a1_2 ln fl pl a2_3 a3_4 a4_5 a5_6, zAr T 1 a1_2 600 ft, zAr T 0 a2_3 3 fk, zArq T 3 a3_4 2 q1_7, zArq T 4 a4_5 2 q2_8, zArq T 5 a5_6 2 q3_9] := ⟨a1_2, a2_3, a3_4, a4_5, a5_6, q1_7, q2_8, q3_9, rfl, h_10, h_11, h_12, h_13, h_14, h_15⟩
          have G : zS T A s.heap s [[zO8 t a1_2 ln fl pl a2_3 a3_4 a4_5 a5_6, zAr T 1 a1_2 600 ft, zAr T 0 a2_3 3 fk, zArq T 3 a3_4 2 q1_7, zArq T 4 a4_5 2 q2_8, zArq T 5 a5_6 2 q3_9]] _ _ := G.re rfl
          exact z_back hQ9 (z_aret (r := (some g1)) C hr (Or.inl ⟨_, rfl⟩) hlocks G (Nat.le_of_ble_eq_true rfl) (Nat.le_of_ble_eq_true rfl) dX9_logAt_29 ⟨rfl, (Or.inr (Or.inr (⟨rfl, (by first | with_reducible assumption | omega | assumption), (by first | with_reducible assumption | omega | assumption)⟩)))⟩)
theorem m_fl_RX9_47 : Cond.fieldLink RX9 47 (TX7 0).1 (TX7 0).2.1 (TX7 0).2.2.1 ∈ zT := zmem1 zsub_1 172 rfl rfl
theorem m_co_X4_takeAll : Cond.code yX4_takeAll cX4_takeAll 3 none ∈ zT := zmem1 zsub_3 153 rfl rfl
theorem m_ml_RX9_53 : Cond.methodLink RX9 53 yX4_takeAll ∈ zT := zmem1 zsub_3 150 rfl rfl
theorem m_im_X4_takeAll : Cond.instanceMethod yX4_takeAll ∈ zT := zmem1 zsub_3 151 rfl rfl
theorem m_se_X4_takeAll : Cond.selects RX4 yX4_takeAll yX4_takeAll ∈ zT := zmem1 zsub_3 152 rfl rfl
theorem m_ml_RX9_71 : Cond.methodLink RX9 71 Lib.Math.max.name ∈ zT := zmem1 zsub_3 162 rfl rfl
theorem m_fl_RX9_57 : Cond.fieldLink RX9 57 (TX7 1).1 (TX7 1).2.1 (TX7 1).2.2.1 ∈ zT := zmem1 zsub_1 174 rfl rfl
theorem m_co_X2_takeAll : Cond.code yX2_takeAll cX2_takeAll 3 none ∈ zT := zmem1 zsub_3 157 rfl rfl
theorem m_ml_RX9_61 : Cond.methodLink RX9 61 yX2_takeAll ∈ zT := zmem1 zsub_3 154 rfl rfl
theorem m_im_X2_takeAll : Cond.instanceMethod yX2_takeAll ∈ zT := zmem1 zsub_3 155 rfl rfl
theorem m_se_X2_takeAll : Cond.selects RX2 yX2_takeAll yX2_takeAll ∈ zT := zmem1 zsub_3 156 rfl rfl
theorem m_fl_RX9_64 : Cond.fieldLink RX9 64 (TX7 2).1 (TX7 2).2.1 (TX7 2).2.2.1 ∈ zT := zmem1 zsub_1 176 rfl rfl
theorem m_co_X5_takeAll : Cond.code yX5_takeAll cX5_takeAll 3 none ∈ zT := zmem1 zsub_3 161 rfl rfl
theorem m_ml_RX9_68 : Cond.methodLink RX9 68 yX5_takeAll ∈ zT := zmem1 zsub_3 158 rfl rfl
theorem m_im_X5_takeAll : Cond.instanceMethod yX5_takeAll ∈ zT := zmem1 zsub_3 159 rfl rfl
theorem m_se_X5_takeAll : Cond.selects RX5 yX5_takeAll yX5_takeAll ∈ zT := zmem1 zsub_3 160 rfl rfl
theorem m_fl_RX9_77 : Cond.fieldLink RX9 77 (TX9 2).1 (TX9 2).2.1 (TX9 2).2.2.1 ∈ zT := zmem1 zsub_1 133 rfl rfl
theorem kV_RX9_53 {R : Room} {s : State} {args : Array Value} {d mc ms : Nat} (hts : ∀ w ∈ zT, w.before args s = true) (h1 : d + 1 ≤ R.frames) (h2 : 8 + (3 + 11) + 40 * d ≤ R.locals) : CallW R s args RX9 RX4 53 yX4_takeAll cX4_takeAll 3 none (zW yX4_takeAll cX4_takeAll 3 none) (zR d mc ms) mc ms 1 := z_cwV hts m_co_X4_takeAll m_ml_RX9_53 m_im_X4_takeAll m_se_X4_takeAll m_ii_RX4 (by decide +kernel) h1 h2
theorem kV_RX9_61 {R : Room} {s : State} {args : Array Value} {d mc ms : Nat} (hts : ∀ w ∈ zT, w.before args s = true) (h1 : d + 1 ≤ R.frames) (h2 : 8 + (3 + 11) + 40 * d ≤ R.locals) : CallW R s args RX9 RX2 61 yX2_takeAll cX2_takeAll 3 none (zW yX2_takeAll cX2_takeAll 3 none) (zR d mc ms) mc ms 1 := z_cwV hts m_co_X2_takeAll m_ml_RX9_61 m_im_X2_takeAll m_se_X2_takeAll m_ii_RX2 (by decide +kernel) h1 h2
theorem kV_RX9_68 {R : Room} {s : State} {args : Array Value} {d mc ms : Nat} (hts : ∀ w ∈ zT, w.before args s = true) (h1 : d + 1 ≤ R.frames) (h2 : 8 + (3 + 11) + 40 * d ≤ R.locals) : CallW R s args RX9 RX5 68 yX5_takeAll cX5_takeAll 3 none (zW yX5_takeAll cX5_takeAll 3 none) (zR d mc ms) mc ms 1 := z_cwV hts m_co_X5_takeAll m_ml_RX9_68 m_im_X5_takeAll m_se_X5_takeAll m_ii_RX5 (by decide +kernel) h1 h2
theorem dX9_keep_0 : decode cX9_keep 0 = .ok (.iload_n 1, 1) := zo_27 (by decide +kernel)
theorem dX9_keep_1 : decode cX9_keep 1 = .ok (.ifCond .lt 17, 3) := zo_155 (by decide +kernel)
theorem dX9_keep_4 : decode cX9_keep 4 = .ok (.iload_n 1, 1) := zo_27 (by decide +kernel)
theorem dX9_keep_5 : decode cX9_keep 5 = .ok (.iconst 2, 1) := zo_5 (by decide +kernel)
theorem dX9_keep_6 : decode cX9_keep 6 = .ok (.if_icmp .gt 12, 3) := zo_163 (by decide +kernel)
theorem dX9_keep_9 : decode cX9_keep 9 = .ok (.iload_n 2, 1) := zo_28 (by decide +kernel)
theorem dX9_keep_10 : decode cX9_keep 10 = .ok (.ifCond .lt 8, 3) := zo_155 (by decide +kernel)
theorem dX9_keep_13 : decode cX9_keep 13 = .ok (.iload_n 2, 1) := zo_28 (by decide +kernel)
theorem dX9_keep_14 : decode cX9_keep 14 = .ok (.iconst 2, 1) := zo_5 (by decide +kernel)
theorem dX9_keep_15 : decode cX9_keep 15 = .ok (.if_icmp .lt 4, 3) := zo_161 (by decide +kernel)
theorem dX9_keep_19 : decode cX9_keep 19 = .ok (.iload_n 1, 1) := zo_27 (by decide +kernel)
theorem dX9_keep_20 : decode cX9_keep 20 = .ok (.ifCond .ne 19, 3) := zo_154 (by decide +kernel)
theorem dX9_keep_23 : decode cX9_keep 23 = .ok (.aload_n 0, 1) := zo_42 (by decide +kernel)
theorem dX9_keep_24 : decode cX9_keep 24 = .ok (.getfield 26, 3) := zo_180 (by decide +kernel)
theorem dX9_keep_27 : decode cX9_keep 27 = .ok (.iload_n 2, 1) := zo_28 (by decide +kernel)
theorem dX9_keep_28 : decode cX9_keep 28 = .ok (.aaload, 1) := zo_50 (by decide +kernel)
theorem dX9_keep_29 : decode cX9_keep 29 = .ok (.aload_n 3, 1) := zo_45 (by decide +kernel)
theorem dX9_keep_30 : decode cX9_keep 30 = .ok (.getfield 47, 3) := zo_180 (by decide +kernel)
theorem dX9_keep_33 : decode cX9_keep 33 = .ok (.invokevirtual 53, 3) := zo_182 (by decide +kernel)
theorem dX9_keep_36 : decode cX9_keep 36 = .ok (.goto 37, 3) := zo_167 (by decide +kernel)
theorem dX9_keep_39 : decode cX9_keep 39 = .ok (.iload_n 1, 1) := zo_27 (by decide +kernel)
theorem dX9_keep_40 : decode cX9_keep 40 = .ok (.iconst 1, 1) := zo_4 (by decide +kernel)
theorem dX9_keep_41 : decode cX9_keep 41 = .ok (.if_icmp .ne 19, 3) := zo_160 (by decide +kernel)
theorem dX9_keep_44 : decode cX9_keep 44 = .ok (.aload_n 0, 1) := zo_42 (by decide +kernel)
theorem dX9_keep_45 : decode cX9_keep 45 = .ok (.getfield 33, 3) := zo_180 (by decide +kernel)
theorem dX9_keep_48 : decode cX9_keep 48 = .ok (.iload_n 2, 1) := zo_28 (by decide +kernel)
theorem dX9_keep_49 : decode cX9_keep 49 = .ok (.aaload, 1) := zo_50 (by decide +kernel)
theorem dX9_keep_50 : decode cX9_keep 50 = .ok (.aload_n 3, 1) := zo_45 (by decide +kernel)
theorem dX9_keep_51 : decode cX9_keep 51 = .ok (.getfield 57, 3) := zo_180 (by decide +kernel)
theorem dX9_keep_54 : decode cX9_keep 54 = .ok (.invokevirtual 61, 3) := zo_182 (by decide +kernel)
theorem dX9_keep_57 : decode cX9_keep 57 = .ok (.goto 16, 3) := zo_167 (by decide +kernel)
theorem dX9_keep_60 : decode cX9_keep 60 = .ok (.aload_n 0, 1) := zo_42 (by decide +kernel)
theorem dX9_keep_61 : decode cX9_keep 61 = .ok (.getfield 40, 3) := zo_180 (by decide +kernel)
theorem dX9_keep_64 : decode cX9_keep 64 = .ok (.iload_n 2, 1) := zo_28 (by decide +kernel)
theorem dX9_keep_65 : decode cX9_keep 65 = .ok (.aaload, 1) := zo_50 (by decide +kernel)
theorem dX9_keep_66 : decode cX9_keep 66 = .ok (.aload_n 3, 1) := zo_45 (by decide +kernel)
theorem dX9_keep_67 : decode cX9_keep 67 = .ok (.getfield 64, 3) := zo_180 (by decide +kernel)
theorem dX9_keep_70 : decode cX9_keep 70 = .ok (.invokevirtual 68, 3) := zo_182 (by decide +kernel)
theorem dX9_keep_73 : decode cX9_keep 73 = .ok (.aload_n 0, 1) := zo_42 (by decide +kernel)
theorem dX9_keep_74 : decode cX9_keep 74 = .ok (.getfield 19, 3) := zo_180 (by decide +kernel)
theorem dX9_keep_77 : decode cX9_keep 77 = .ok (.iload_n 1, 1) := zo_27 (by decide +kernel)
theorem dX9_keep_78 : decode cX9_keep 78 = .ok (.aload_n 0, 1) := zo_42 (by decide +kernel)
theorem dX9_keep_79 : decode cX9_keep 79 = .ok (.getfield 19, 3) := zo_180 (by decide +kernel)
theorem dX9_keep_82 : decode cX9_keep 82 = .ok (.iload_n 1, 1) := zo_27 (by decide +kernel)
theorem dX9_keep_83 : decode cX9_keep 83 = .ok (.iaload, 1) := zo_46 (by decide +kernel)
theorem dX9_keep_84 : decode cX9_keep 84 = .ok (.iload_n 2, 1) := zo_28 (by decide +kernel)
theorem dX9_keep_85 : decode cX9_keep 85 = .ok (.iconst 1, 1) := zo_4 (by decide +kernel)
theorem dX9_keep_86 : decode cX9_keep 86 = .ok (.iadd, 1) := zo_96 (by decide +kernel)
theorem dX9_keep_87 : decode cX9_keep 87 = .ok (.invokestatic 71, 3) := zo_184 (by decide +kernel)
theorem dX9_keep_90 : decode cX9_keep 90 = .ok (.iastore, 1) := zo_79 (by decide +kernel)
theorem dX9_keep_91 : decode cX9_keep 91 = .ok (.return_, 1) := zo_177 (by decide +kernel)
theorem dX9_takeAll_0 : decode cX9_takeAll 0 = .ok (.iconst 0, 1) := zo_3 (by decide +kernel)
theorem dX9_takeAll_1 : decode cX9_takeAll 1 = .ok (.istore_n 2, 1) := zo_61 (by decide +kernel)
theorem dX9_takeAll_2 : decode cX9_takeAll 2 = .ok (.iload_n 2, 1) := zo_28 (by decide +kernel)
theorem dX9_takeAll_3 : decode cX9_takeAll 3 = .ok (.sipush 600, 3) := zo_17 (by decide +kernel)
theorem dX9_takeAll_6 : decode cX9_takeAll 6 = .ok (.if_icmp .ge 21, 3) := zo_162 (by decide +kernel)
theorem dX9_takeAll_9 : decode cX9_takeAll 9 = .ok (.aload_n 0, 1) := zo_42 (by decide +kernel)
theorem dX9_takeAll_10 : decode cX9_takeAll 10 = .ok (.getfield 9, 3) := zo_180 (by decide +kernel)
theorem dX9_takeAll_13 : decode cX9_takeAll 13 = .ok (.iload_n 2, 1) := zo_28 (by decide +kernel)
theorem dX9_takeAll_14 : decode cX9_takeAll 14 = .ok (.aload_n 1, 1) := zo_43 (by decide +kernel)
theorem dX9_takeAll_15 : decode cX9_takeAll 15 = .ok (.getfield 9, 3) := zo_180 (by decide +kernel)
theorem dX9_takeAll_18 : decode cX9_takeAll 18 = .ok (.iload_n 2, 1) := zo_28 (by decide +kernel)
theorem dX9_takeAll_19 : decode cX9_takeAll 19 = .ok (.baload, 1) := zo_51 (by decide +kernel)
theorem dX9_takeAll_20 : decode cX9_takeAll 20 = .ok (.bastore, 1) := zo_84 (by decide +kernel)
theorem dX9_takeAll_21 : decode cX9_takeAll 21 = .ok (.iinc 2 1, 3) := zo_132 (by decide +kernel)
theorem dX9_takeAll_24 : decode cX9_takeAll 24 = .ok (.goto (-22), 3) := zo_167 (by decide +kernel)
theorem dX9_takeAll_27 : decode cX9_takeAll 27 = .ok (.aload_n 0, 1) := zo_42 (by decide +kernel)
theorem dX9_takeAll_28 : decode cX9_takeAll 28 = .ok (.aload_n 1, 1) := zo_43 (by decide +kernel)
theorem dX9_takeAll_29 : decode cX9_takeAll 29 = .ok (.getfield 44, 3) := zo_180 (by decide +kernel)
theorem dX9_takeAll_32 : decode cX9_takeAll 32 = .ok (.putfield 44, 3) := zo_181 (by decide +kernel)
theorem dX9_takeAll_35 : decode cX9_takeAll 35 = .ok (.aload_n 0, 1) := zo_42 (by decide +kernel)
theorem dX9_takeAll_36 : decode cX9_takeAll 36 = .ok (.aload_n 1, 1) := zo_43 (by decide +kernel)
theorem dX9_takeAll_37 : decode cX9_takeAll 37 = .ok (.getfield 77, 3) := zo_180 (by decide +kernel)
theorem dX9_takeAll_40 : decode cX9_takeAll 40 = .ok (.putfield 77, 3) := zo_181 (by decide +kernel)
theorem dX9_takeAll_43 : decode cX9_takeAll 43 = .ok (.aload_n 0, 1) := zo_42 (by decide +kernel)
theorem dX9_takeAll_44 : decode cX9_takeAll 44 = .ok (.aload_n 1, 1) := zo_43 (by decide +kernel)
theorem dX9_takeAll_45 : decode cX9_takeAll 45 = .ok (.getfield 15, 3) := zo_180 (by decide +kernel)
theorem dX9_takeAll_48 : decode cX9_takeAll 48 = .ok (.putfield 15, 3) := zo_181 (by decide +kernel)
theorem dX9_takeAll_51 : decode cX9_takeAll 51 = .ok (.iconst 0, 1) := zo_3 (by decide +kernel)
theorem dX9_takeAll_52 : decode cX9_takeAll 52 = .ok (.istore_n 2, 1) := zo_61 (by decide +kernel)
theorem dX9_takeAll_53 : decode cX9_takeAll 53 = .ok (.iload_n 2, 1) := zo_28 (by decide +kernel)
theorem dX9_takeAll_54 : decode cX9_takeAll 54 = .ok (.iconst 2, 1) := zo_5 (by decide +kernel)
theorem dX9_takeAll_55 : decode cX9_takeAll 55 = .ok (.if_icmp .gt 21, 3) := zo_163 (by decide +kernel)
theorem dX9_takeAll_58 : decode cX9_takeAll 58 = .ok (.aload_n 0, 1) := zo_42 (by decide +kernel)
theorem dX9_takeAll_59 : decode cX9_takeAll 59 = .ok (.getfield 19, 3) := zo_180 (by decide +kernel)
theorem dX9_takeAll_62 : decode cX9_takeAll 62 = .ok (.iload_n 2, 1) := zo_28 (by decide +kernel)
theorem dX9_takeAll_63 : decode cX9_takeAll 63 = .ok (.aload_n 1, 1) := zo_43 (by decide +kernel)
theorem dX9_takeAll_64 : decode cX9_takeAll 64 = .ok (.getfield 19, 3) := zo_180 (by decide +kernel)
theorem dX9_takeAll_67 : decode cX9_takeAll 67 = .ok (.iload_n 2, 1) := zo_28 (by decide +kernel)
theorem dX9_takeAll_68 : decode cX9_takeAll 68 = .ok (.iaload, 1) := zo_46 (by decide +kernel)
theorem dX9_takeAll_69 : decode cX9_takeAll 69 = .ok (.iastore, 1) := zo_79 (by decide +kernel)
theorem dX9_takeAll_70 : decode cX9_takeAll 70 = .ok (.iinc 2 1, 3) := zo_132 (by decide +kernel)
theorem dX9_takeAll_73 : decode cX9_takeAll 73 = .ok (.goto (-20), 3) := zo_167 (by decide +kernel)
theorem dX9_takeAll_76 : decode cX9_takeAll 76 = .ok (.iconst 0, 1) := zo_3 (by decide +kernel)
theorem dX9_takeAll_77 : decode cX9_takeAll 77 = .ok (.istore_n 2, 1) := zo_61 (by decide +kernel)
theorem dX9_takeAll_78 : decode cX9_takeAll 78 = .ok (.iload_n 2, 1) := zo_28 (by decide +kernel)
theorem dX9_takeAll_79 : decode cX9_takeAll 79 = .ok (.iconst 2, 1) := zo_5 (by decide +kernel)
theorem dX9_takeAll_80 : decode cX9_takeAll 80 = .ok (.if_icmp .ge 54, 3) := zo_162 (by decide +kernel)
theorem dX9_takeAll_83 : decode cX9_takeAll 83 = .ok (.aload_n 0, 1) := zo_42 (by decide +kernel)
theorem dX9_takeAll_84 : decode cX9_takeAll 84 = .ok (.getfield 26, 3) := zo_180 (by decide +kernel)
theorem dX9_takeAll_87 : decode cX9_takeAll 87 = .ok (.iload_n 2, 1) := zo_28 (by decide +kernel)
theorem dX9_takeAll_88 : decode cX9_takeAll 88 = .ok (.aaload, 1) := zo_50 (by decide +kernel)
theorem dX9_takeAll_89 : decode cX9_takeAll 89 = .ok (.aload_n 1, 1) := zo_43 (by decide +kernel)
theorem dX9_takeAll_90 : decode cX9_takeAll 90 = .ok (.getfield 26, 3) := zo_180 (by decide +kernel)
theorem dX9_takeAll_93 : decode cX9_takeAll 93 = .ok (.iload_n 2, 1) := zo_28 (by decide +kernel)
theorem dX9_takeAll_94 : decode cX9_takeAll 94 = .ok (.aaload, 1) := zo_50 (by decide +kernel)
theorem dX9_takeAll_95 : decode cX9_takeAll 95 = .ok (.invokevirtual 53, 3) := zo_182 (by decide +kernel)
theorem dX9_takeAll_98 : decode cX9_takeAll 98 = .ok (.aload_n 0, 1) := zo_42 (by decide +kernel)
theorem dX9_takeAll_99 : decode cX9_takeAll 99 = .ok (.getfield 33, 3) := zo_180 (by decide +kernel)
theorem dX9_takeAll_102 : decode cX9_takeAll 102 = .ok (.iload_n 2, 1) := zo_28 (by decide +kernel)
theorem dX9_takeAll_103 : decode cX9_takeAll 103 = .ok (.aaload, 1) := zo_50 (by decide +kernel)
theorem dX9_takeAll_104 : decode cX9_takeAll 104 = .ok (.aload_n 1, 1) := zo_43 (by decide +kernel)
theorem dX9_takeAll_105 : decode cX9_takeAll 105 = .ok (.getfield 33, 3) := zo_180 (by decide +kernel)
theorem dX9_takeAll_108 : decode cX9_takeAll 108 = .ok (.iload_n 2, 1) := zo_28 (by decide +kernel)
theorem dX9_takeAll_109 : decode cX9_takeAll 109 = .ok (.aaload, 1) := zo_50 (by decide +kernel)
theorem dX9_takeAll_110 : decode cX9_takeAll 110 = .ok (.invokevirtual 61, 3) := zo_182 (by decide +kernel)
theorem dX9_takeAll_113 : decode cX9_takeAll 113 = .ok (.aload_n 0, 1) := zo_42 (by decide +kernel)
theorem dX9_takeAll_114 : decode cX9_takeAll 114 = .ok (.getfield 40, 3) := zo_180 (by decide +kernel)
theorem dX9_takeAll_117 : decode cX9_takeAll 117 = .ok (.iload_n 2, 1) := zo_28 (by decide +kernel)
theorem dX9_takeAll_118 : decode cX9_takeAll 118 = .ok (.aaload, 1) := zo_50 (by decide +kernel)
theorem dX9_takeAll_119 : decode cX9_takeAll 119 = .ok (.aload_n 1, 1) := zo_43 (by decide +kernel)
theorem dX9_takeAll_120 : decode cX9_takeAll 120 = .ok (.getfield 40, 3) := zo_180 (by decide +kernel)
theorem dX9_takeAll_123 : decode cX9_takeAll 123 = .ok (.iload_n 2, 1) := zo_28 (by decide +kernel)
theorem dX9_takeAll_124 : decode cX9_takeAll 124 = .ok (.aaload, 1) := zo_50 (by decide +kernel)
theorem dX9_takeAll_125 : decode cX9_takeAll 125 = .ok (.invokevirtual 68, 3) := zo_182 (by decide +kernel)
theorem dX9_takeAll_128 : decode cX9_takeAll 128 = .ok (.iinc 2 1, 3) := zo_132 (by decide +kernel)
theorem dX9_takeAll_131 : decode cX9_takeAll 131 = .ok (.goto (-53), 3) := zo_167 (by decide +kernel)
theorem dX9_takeAll_134 : decode cX9_takeAll 134 = .ok (.return_, 1) := zo_177 (by decide +kernel)
theorem m_fl_RX11_10 : Cond.fieldLink RX11 10 (TX11 0).1 (TX11 0).2.1 (TX11 0).2.2.1 ∈ zT := zmem1 zsub_2 176 rfl rfl
theorem m_fl_RX11_73 : Cond.fieldLink RX11 73 (TX9 1).1 (TX9 1).2.1 (TX9 1).2.2.1 ∈ zT := zmem1 zsub_1 130 rfl rfl
theorem m_co_X9_append : Cond.code yX9_append cX9_append 3 none ∈ zT := zmem1 zsub_2 217 rfl rfl
theorem m_ml_RX11_77 : Cond.methodLink RX11 77 yX9_append ∈ zT := zmem1 zsub_2 214 rfl rfl
theorem m_im_X9_append : Cond.instanceMethod yX9_append ∈ zT := zmem1 zsub_2 215 rfl rfl
theorem m_se_X9_append : Cond.selects RX9 yX9_append yX9_append ∈ zT := zmem1 zsub_2 216 rfl rfl
theorem m_ii_RX9 : Cond.initialized RX9 ∈ zT := zmem1 zsub_1 2 rfl rfl
theorem m_fl_RX11_88 : Cond.fieldLink RX11 88 (TX9 3).1 (TX9 3).2.1 (TX9 3).2.2.1 ∈ zT := zmem1 zsub_1 135 rfl rfl
theorem m_fl_RX11_85 : Cond.fieldLink RX11 85 (TX9 2).1 (TX9 2).2.1 (TX9 2).2.2.1 ∈ zT := zmem1 zsub_1 132 rfl rfl
theorem m_fl_RX11_114 : Cond.fieldLink RX11 114 (TX9 4).1 (TX9 4).2.1 (TX9 4).2.2.1 ∈ zT := zmem1 zsub_1 137 rfl rfl
theorem m_co_X9_landAt : Cond.code yX9_landAt cX9_landAt 2 (some (.object "TurnedPosts$Land")) ∈ zT := zmem1 zsub_3 196 rfl rfl
theorem m_ml_RX11_121 : Cond.methodLink RX11 121 yX9_landAt ∈ zT := zmem1 zsub_3 193 rfl rfl
theorem m_im_X9_landAt : Cond.instanceMethod yX9_landAt ∈ zT := zmem1 zsub_3 194 rfl rfl
theorem m_se_X9_landAt : Cond.selects RX9 yX9_landAt yX9_landAt ∈ zT := zmem1 zsub_3 195 rfl rfl
theorem m_co_X4_told : Cond.code yX4_told cX4_told 3 (some .int) ∈ zT := zmem1 zsub_3 200 rfl rfl
theorem m_ml_RX11_125 : Cond.methodLink RX11 125 yX4_told ∈ zT := zmem1 zsub_3 197 rfl rfl
theorem m_im_X4_told : Cond.instanceMethod yX4_told ∈ zT := zmem1 zsub_3 198 rfl rfl
theorem m_se_X4_told : Cond.selects RX4 yX4_told yX4_told ∈ zT := zmem1 zsub_3 199 rfl rfl
theorem m_co_X9_dayAt : Cond.code yX9_dayAt cX9_dayAt 2 (some (.object "TurnedPosts$Day")) ∈ zT := zmem1 zsub_3 216 rfl rfl
theorem m_ml_RX11_130 : Cond.methodLink RX11 130 yX9_dayAt ∈ zT := zmem1 zsub_3 213 rfl rfl
theorem m_im_X9_dayAt : Cond.instanceMethod yX9_dayAt ∈ zT := zmem1 zsub_3 214 rfl rfl
theorem m_se_X9_dayAt : Cond.selects RX9 yX9_dayAt yX9_dayAt ∈ zT := zmem1 zsub_3 215 rfl rfl
theorem m_co_X2_told : Cond.code yX2_told cX2_told 3 (some .int) ∈ zT := zmem1 zsub_3 220 rfl rfl
theorem m_ml_RX11_134 : Cond.methodLink RX11 134 yX2_told ∈ zT := zmem1 zsub_3 217 rfl rfl
theorem m_im_X2_told : Cond.instanceMethod yX2_told ∈ zT := zmem1 zsub_3 218 rfl rfl
theorem m_se_X2_told : Cond.selects RX2 yX2_told yX2_told ∈ zT := zmem1 zsub_3 219 rfl rfl
theorem m_co_X9_logAt : Cond.code yX9_logAt cX9_logAt 2 (some (.object "TurnedPosts$Log")) ∈ zT := zmem1 zsub_3 228 rfl rfl
theorem m_ml_RX11_138 : Cond.methodLink RX11 138 yX9_logAt ∈ zT := zmem1 zsub_3 225 rfl rfl
theorem m_im_X9_logAt : Cond.instanceMethod yX9_logAt ∈ zT := zmem1 zsub_3 226 rfl rfl
theorem m_se_X9_logAt : Cond.selects RX9 yX9_logAt yX9_logAt ∈ zT := zmem1 zsub_3 227 rfl rfl
theorem m_co_X5_told : Cond.code yX5_told cX5_told 3 (some .int) ∈ zT := zmem1 zsub_3 232 rfl rfl
theorem m_ml_RX11_142 : Cond.methodLink RX11 142 yX5_told ∈ zT := zmem1 zsub_3 229 rfl rfl
theorem m_im_X5_told : Cond.instanceMethod yX5_told ∈ zT := zmem1 zsub_3 230 rfl rfl
theorem m_se_X5_told : Cond.selects RX5 yX5_told yX5_told ∈ zT := zmem1 zsub_3 231 rfl rfl
theorem m_ml_RX11_160 : Cond.methodLink RX11 160 yX4_has ∈ zT := zmem1 zsub_4 122 rfl rfl
theorem m_co_X8_distance : Cond.code yX8_distance cX8_distance 5 (some .int) ∈ zT := zmem1 zsub_5 173 rfl rfl
theorem m_ml_RX11_330 : Cond.methodLink RX11 330 yX8_distance ∈ zT := zmem1 zsub_5 171 rfl rfl
theorem m_st_X8_distance : Cond.static yX8_distance ∈ zT := zmem1 zsub_5 172 rfl rfl
theorem m_co_X8_nearest : Cond.code yX8_nearest cX8_nearest 5 (some .int) ∈ zT := zmem1 zsub_5 181 rfl rfl
theorem m_ml_RX11_340 : Cond.methodLink RX11 340 yX8_nearest ∈ zT := zmem1 zsub_5 179 rfl rfl
theorem m_st_X8_nearest : Cond.static yX8_nearest ∈ zT := zmem1 zsub_5 180 rfl rfl
theorem m_ml_RX11_336 : Cond.methodLink RX11 336 yX8_reached ∈ zT := zmem1 zsub_5 178 rfl rfl
theorem m_co_X8_parts : Cond.code yX8_parts cX8_parts 6 (some .int) ∈ zT := zmem1 zsub_5 188 rfl rfl
theorem m_ml_RX11_343 : Cond.methodLink RX11 343 yX8_parts ∈ zT := zmem1 zsub_5 186 rfl rfl
theorem m_st_X8_parts : Cond.static yX8_parts ∈ zT := zmem1 zsub_5 187 rfl rfl
theorem m_co_X8_heads : Cond.code yX8_heads cX8_heads 3 (some .int) ∈ zT := zmem1 zsub_5 197 rfl rfl
theorem m_ml_RX11_347 : Cond.methodLink RX11 347 yX8_heads ∈ zT := zmem1 zsub_5 195 rfl rfl
theorem m_st_X8_heads : Cond.static yX8_heads ∈ zT := zmem1 zsub_5 196 rfl rfl
theorem m_co_X8_ends : Cond.code yX8_ends cX8_ends 3 (some .int) ∈ zT := zmem1 zsub_5 200 rfl rfl
theorem m_ml_RX11_350 : Cond.methodLink RX11 350 yX8_ends ∈ zT := zmem1 zsub_5 198 rfl rfl
theorem m_st_X8_ends : Cond.static yX8_ends ∈ zT := zmem1 zsub_5 199 rfl rfl
theorem m_co_X8_loops : Cond.code yX8_loops cX8_loops 3 (some .int) ∈ zT := zmem1 zsub_5 204 rfl rfl
theorem m_ml_RX11_353 : Cond.methodLink RX11 353 yX8_loops ∈ zT := zmem1 zsub_5 202 rfl rfl
theorem m_st_X8_loops : Cond.static yX8_loops ∈ zT := zmem1 zsub_5 203 rfl rfl
theorem m_co_X8_doubles : Cond.code yX8_doubles cX8_doubles 5 (some .int) ∈ zT := zmem1 zsub_5 210 rfl rfl
theorem m_ml_RX11_356 : Cond.methodLink RX11 356 yX8_doubles ∈ zT := zmem1 zsub_5 208 rfl rfl
theorem m_st_X8_doubles : Cond.static yX8_doubles ∈ zT := zmem1 zsub_5 209 rfl rfl
theorem m_co_X8_even : Cond.code yX8_even cX8_even 3 (some .int) ∈ zT := zmem1 zsub_5 213 rfl rfl
theorem m_ml_RX11_359 : Cond.methodLink RX11 359 yX8_even ∈ zT := zmem1 zsub_5 211 rfl rfl
theorem m_st_X8_even : Cond.static yX8_even ∈ zT := zmem1 zsub_5 212 rfl rfl
theorem m_co_X8_busy : Cond.code yX8_busy cX8_busy 5 (some .int) ∈ zT := zmem1 zsub_5 219 rfl rfl
theorem m_ml_RX11_362 : Cond.methodLink RX11 362 yX8_busy ∈ zT := zmem1 zsub_5 217 rfl rfl
theorem m_st_X8_busy : Cond.static yX8_busy ∈ zT := zmem1 zsub_5 218 rfl rfl
theorem kV_RX11_77 {R : Room} {s : State} {args : Array Value} {d mc ms : Nat} (hts : ∀ w ∈ zT, w.before args s = true) (h1 : d + 1 ≤ R.frames) (h2 : 8 + (3 + 11) + 40 * d ≤ R.locals) : CallW R s args RX11 RX9 77 yX9_append cX9_append 3 none (zW yX9_append cX9_append 3 none) (zR d mc ms) mc ms 1 := z_cwV hts m_co_X9_append m_ml_RX11_77 m_im_X9_append m_se_X9_append m_ii_RX9 (by decide +kernel) h1 h2
theorem kV_RX11_121 {R : Room} {s : State} {args : Array Value} {d mc ms : Nat} (hts : ∀ w ∈ zT, w.before args s = true) (h1 : d + 1 ≤ R.frames) (h2 : 8 + (2 + 11) + 40 * d ≤ R.locals) : CallW R s args RX11 RX9 121 yX9_landAt cX9_landAt 2 (some (.object "TurnedPosts$Land")) (zW yX9_landAt cX9_landAt 2 (some (.object "TurnedPosts$Land"))) (zR d mc ms) mc ms 1 := z_cwV hts m_co_X9_landAt m_ml_RX11_121 m_im_X9_landAt m_se_X9_landAt m_ii_RX9 (by decide +kernel) h1 h2
theorem kV_RX11_125 {R : Room} {s : State} {args : Array Value} {d mc ms : Nat} (hts : ∀ w ∈ zT, w.before args s = true) (h1 : d + 1 ≤ R.frames) (h2 : 8 + (3 + 11) + 40 * d ≤ R.locals) : CallW R s args RX11 RX4 125 yX4_told cX4_told 3 (some .int) (zW yX4_told cX4_told 3 (some .int)) (zR d mc ms) mc ms 1 := z_cwV hts m_co_X4_told m_ml_RX11_125 m_im_X4_told m_se_X4_told m_ii_RX4 (by decide +kernel) h1 h2
theorem kV_RX11_130 {R : Room} {s : State} {args : Array Value} {d mc ms : Nat} (hts : ∀ w ∈ zT, w.before args s = true) (h1 : d + 1 ≤ R.frames) (h2 : 8 + (2 + 11) + 40 * d ≤ R.locals) : CallW R s args RX11 RX9 130 yX9_dayAt cX9_dayAt 2 (some (.object "TurnedPosts$Day")) (zW yX9_dayAt cX9_dayAt 2 (some (.object "TurnedPosts$Day"))) (zR d mc ms) mc ms 1 := z_cwV hts m_co_X9_dayAt m_ml_RX11_130 m_im_X9_dayAt m_se_X9_dayAt m_ii_RX9 (by decide +kernel) h1 h2
theorem kV_RX11_134 {R : Room} {s : State} {args : Array Value} {d mc ms : Nat} (hts : ∀ w ∈ zT, w.before args s = true) (h1 : d + 1 ≤ R.frames) (h2 : 8 + (3 + 11) + 40 * d ≤ R.locals) : CallW R s args RX11 RX2 134 yX2_told cX2_told 3 (some .int) (zW yX2_told cX2_told 3 (some .int)) (zR d mc ms) mc ms 2 := z_cwV hts m_co_X2_told m_ml_RX11_134 m_im_X2_told m_se_X2_told m_ii_RX2 (by decide +kernel) h1 h2
theorem kV_RX11_138 {R : Room} {s : State} {args : Array Value} {d mc ms : Nat} (hts : ∀ w ∈ zT, w.before args s = true) (h1 : d + 1 ≤ R.frames) (h2 : 8 + (2 + 11) + 40 * d ≤ R.locals) : CallW R s args RX11 RX9 138 yX9_logAt cX9_logAt 2 (some (.object "TurnedPosts$Log")) (zW yX9_logAt cX9_logAt 2 (some (.object "TurnedPosts$Log"))) (zR d mc ms) mc ms 1 := z_cwV hts m_co_X9_logAt m_ml_RX11_138 m_im_X9_logAt m_se_X9_logAt m_ii_RX9 (by decide +kernel) h1 h2
theorem kV_RX11_142 {R : Room} {s : State} {args : Array Value} {d mc ms : Nat} (hts : ∀ w ∈ zT, w.before args s = true) (h1 : d + 1 ≤ R.frames) (h2 : 8 + (3 + 11) + 40 * d ≤ R.locals) : CallW R s args RX11 RX5 142 yX5_told cX5_told 3 (some .int) (zW yX5_told cX5_told 3 (some .int)) (zR d mc ms) mc ms 2 := z_cwV hts m_co_X5_told m_ml_RX11_142 m_im_X5_told m_se_X5_told m_ii_RX5 (by decide +kernel) h1 h2
theorem kV_RX11_160 {R : Room} {s : State} {args : Array Value} {d mc ms : Nat} (hts : ∀ w ∈ zT, w.before args s = true) (h1 : d + 1 ≤ R.frames) (h2 : 8 + (2 + 11) + 40 * d ≤ R.locals) : CallW R s args RX11 RX4 160 yX4_has cX4_has 2 (some .boolean) (zW yX4_has cX4_has 2 (some .boolean)) (zR d mc ms) mc ms 1 := z_cwV hts m_co_X4_has m_ml_RX11_160 m_im_X4_has m_se_X4_has m_ii_RX4 (by decide +kernel) h1 h2
theorem kS_RX11_330 {R : Room} {s : State} {args : Array Value} {d mc ms : Nat} (hts : ∀ w ∈ zT, w.before args s = true) (h1 : d + 1 ≤ R.frames) (h2 : 8 + (5 + 11) + 40 * d ≤ R.locals) : CallB R s args RX11 330 yX8_distance cX8_distance 5 (some .int) (zW yX8_distance cX8_distance 5 (some .int)) (zR d mc ms) mc ms 3 ∧ (Cond.static yX8_distance).before args s = true := z_cwS hts m_co_X8_distance m_ml_RX11_330 m_st_X8_distance m_ii_RX8 (by decide +kernel) h1 h2
theorem kS_RX11_340 {R : Room} {s : State} {args : Array Value} {d mc ms : Nat} (hts : ∀ w ∈ zT, w.before args s = true) (h1 : d + 1 ≤ R.frames) (h2 : 8 + (5 + 11) + 40 * d ≤ R.locals) : CallB R s args RX11 340 yX8_nearest cX8_nearest 5 (some .int) (zW yX8_nearest cX8_nearest 5 (some .int)) (zR d mc ms) mc ms 2 ∧ (Cond.static yX8_nearest).before args s = true := z_cwS hts m_co_X8_nearest m_ml_RX11_340 m_st_X8_nearest m_ii_RX8 (by decide +kernel) h1 h2
theorem kS_RX11_336 {R : Room} {s : State} {args : Array Value} {d mc ms : Nat} (hts : ∀ w ∈ zT, w.before args s = true) (h1 : d + 1 ≤ R.frames) (h2 : 8 + (4 + 11) + 40 * d ≤ R.locals) : CallB R s args RX11 336 yX8_reached cX8_reached 4 (some .int) (zW yX8_reached cX8_reached 4 (some .int)) (zR d mc ms) mc ms 2 ∧ (Cond.static yX8_reached).before args s = true := z_cwS hts m_co_X8_reached m_ml_RX11_336 m_st_X8_reached m_ii_RX8 (by decide +kernel) h1 h2
theorem kS_RX11_343 {R : Room} {s : State} {args : Array Value} {d mc ms : Nat} (hts : ∀ w ∈ zT, w.before args s = true) (h1 : d + 1 ≤ R.frames) (h2 : 8 + (6 + 11) + 40 * d ≤ R.locals) : CallB R s args RX11 343 yX8_parts cX8_parts 6 (some .int) (zW yX8_parts cX8_parts 6 (some .int)) (zR d mc ms) mc ms 2 ∧ (Cond.static yX8_parts).before args s = true := z_cwS hts m_co_X8_parts m_ml_RX11_343 m_st_X8_parts m_ii_RX8 (by decide +kernel) h1 h2
theorem kS_RX11_347 {R : Room} {s : State} {args : Array Value} {d mc ms : Nat} (hts : ∀ w ∈ zT, w.before args s = true) (h1 : d + 1 ≤ R.frames) (h2 : 8 + (3 + 11) + 40 * d ≤ R.locals) : CallB R s args RX11 347 yX8_heads cX8_heads 3 (some .int) (zW yX8_heads cX8_heads 3 (some .int)) (zR d mc ms) mc ms 1 ∧ (Cond.static yX8_heads).before args s = true := z_cwS hts m_co_X8_heads m_ml_RX11_347 m_st_X8_heads m_ii_RX8 (by decide +kernel) h1 h2
theorem kS_RX11_350 {R : Room} {s : State} {args : Array Value} {d mc ms : Nat} (hts : ∀ w ∈ zT, w.before args s = true) (h1 : d + 1 ≤ R.frames) (h2 : 8 + (3 + 11) + 40 * d ≤ R.locals) : CallB R s args RX11 350 yX8_ends cX8_ends 3 (some .int) (zW yX8_ends cX8_ends 3 (some .int)) (zR d mc ms) mc ms 1 ∧ (Cond.static yX8_ends).before args s = true := z_cwS hts m_co_X8_ends m_ml_RX11_350 m_st_X8_ends m_ii_RX8 (by decide +kernel) h1 h2
theorem kS_RX11_353 {R : Room} {s : State} {args : Array Value} {d mc ms : Nat} (hts : ∀ w ∈ zT, w.before args s = true) (h1 : d + 1 ≤ R.frames) (h2 : 8 + (3 + 11) + 40 * d ≤ R.locals) : CallB R s args RX11 353 yX8_loops cX8_loops 3 (some .int) (zW yX8_loops cX8_loops 3 (some .int)) (zR d mc ms) mc ms 1 ∧ (Cond.static yX8_loops).before args s = true := z_cwS hts m_co_X8_loops m_ml_RX11_353 m_st_X8_loops m_ii_RX8 (by decide +kernel) h1 h2
theorem kS_RX11_356 {R : Room} {s : State} {args : Array Value} {d mc ms : Nat} (hts : ∀ w ∈ zT, w.before args s = true) (h1 : d + 1 ≤ R.frames) (h2 : 8 + (5 + 11) + 40 * d ≤ R.locals) : CallB R s args RX11 356 yX8_doubles cX8_doubles 5 (some .int) (zW yX8_doubles cX8_doubles 5 (some .int)) (zR d mc ms) mc ms 1 ∧ (Cond.static yX8_doubles).before args s = true := z_cwS hts m_co_X8_doubles m_ml_RX11_356 m_st_X8_doubles m_ii_RX8 (by decide +kernel) h1 h2
theorem kS_RX11_359 {R : Room} {s : State} {args : Array Value} {d mc ms : Nat} (hts : ∀ w ∈ zT, w.before args s = true) (h1 : d + 1 ≤ R.frames) (h2 : 8 + (3 + 11) + 40 * d ≤ R.locals) : CallB R s args RX11 359 yX8_even cX8_even 3 (some .int) (zW yX8_even cX8_even 3 (some .int)) (zR d mc ms) mc ms 1 ∧ (Cond.static yX8_even).before args s = true := z_cwS hts m_co_X8_even m_ml_RX11_359 m_st_X8_even m_ii_RX8 (by decide +kernel) h1 h2
theorem kS_RX11_362 {R : Room} {s : State} {args : Array Value} {d mc ms : Nat} (hts : ∀ w ∈ zT, w.before args s = true) (h1 : d + 1 ≤ R.frames) (h2 : 8 + (5 + 11) + 40 * d ≤ R.locals) : CallB R s args RX11 362 yX8_busy cX8_busy 5 (some .int) (zW yX8_busy cX8_busy 5 (some .int)) (zR d mc ms) mc ms 1 ∧ (Cond.static yX8_busy).before args s = true := z_cwS hts m_co_X8_busy m_ml_RX11_362 m_st_X8_busy m_ii_RX8 (by decide +kernel) h1 h2
theorem dX11_feed_0 : decode cX11_feed 0 = .ok (.aload_n 0, 1) := zo_42 (by decide +kernel)
theorem dX11_feed_1 : decode cX11_feed 1 = .ok (.getfield 10, 3) := zo_180 (by decide +kernel)
theorem dX11_feed_4 : decode cX11_feed 4 = .ok (.getfield 73, 3) := zo_180 (by decide +kernel)
theorem dX11_feed_7 : decode cX11_feed 7 = .ok (.bipush 20, 2) := zo_16 (by decide +kernel)
theorem dX11_feed_9 : decode cX11_feed 9 = .ok (.iadd, 1) := zo_96 (by decide +kernel)
theorem dX11_feed_10 : decode cX11_feed 10 = .ok (.sipush 600, 3) := zo_17 (by decide +kernel)
theorem dX11_feed_13 : decode cX11_feed 13 = .ok (.if_icmp .le 5, 3) := zo_164 (by decide +kernel)
theorem dX11_feed_16 : decode cX11_feed 16 = .ok (.iconst (-1), 1) := zo_2 (by decide +kernel)
theorem dX11_feed_17 : decode cX11_feed 17 = .ok (.ireturn, 1) := zo_172 (by decide +kernel)
theorem dX11_feed_18 : decode cX11_feed 18 = .ok (.aload_n 0, 1) := zo_42 (by decide +kernel)
theorem dX11_feed_19 : decode cX11_feed 19 = .ok (.getfield 10, 3) := zo_180 (by decide +kernel)
theorem dX11_feed_22 : decode cX11_feed 22 = .ok (.iload_n 1, 1) := zo_27 (by decide +kernel)
theorem dX11_feed_23 : decode cX11_feed 23 = .ok (.invokevirtual 77, 3) := zo_182 (by decide +kernel)
theorem dX11_feed_26 : decode cX11_feed 26 = .ok (.aload_n 0, 1) := zo_42 (by decide +kernel)
theorem dX11_feed_27 : decode cX11_feed 27 = .ok (.getfield 10, 3) := zo_180 (by decide +kernel)
theorem dX11_feed_30 : decode cX11_feed 30 = .ok (.iload_n 2, 1) := zo_28 (by decide +kernel)
theorem dX11_feed_31 : decode cX11_feed 31 = .ok (.invokevirtual 77, 3) := zo_182 (by decide +kernel)
theorem dX11_feed_34 : decode cX11_feed 34 = .ok (.aload_n 0, 1) := zo_42 (by decide +kernel)
theorem dX11_feed_35 : decode cX11_feed 35 = .ok (.getfield 10, 3) := zo_180 (by decide +kernel)
theorem dX11_feed_38 : decode cX11_feed 38 = .ok (.iload_n 3, 1) := zo_29 (by decide +kernel)
theorem dX11_feed_39 : decode cX11_feed 39 = .ok (.invokevirtual 77, 3) := zo_182 (by decide +kernel)
theorem dX11_feed_42 : decode cX11_feed 42 = .ok (.aload_n 0, 1) := zo_42 (by decide +kernel)
theorem dX11_feed_43 : decode cX11_feed 43 = .ok (.getfield 10, 3) := zo_180 (by decide +kernel)
theorem dX11_feed_46 : decode cX11_feed 46 = .ok (.iload 4, 2) := zo_21 (by decide +kernel)
theorem dX11_feed_48 : decode cX11_feed 48 = .ok (.invokevirtual 77, 3) := zo_182 (by decide +kernel)
theorem dX11_feed_51 : decode cX11_feed 51 = .ok (.aload_n 0, 1) := zo_42 (by decide +kernel)
theorem dX11_feed_52 : decode cX11_feed 52 = .ok (.getfield 10, 3) := zo_180 (by decide +kernel)
theorem dX11_feed_55 : decode cX11_feed 55 = .ok (.iload 5, 2) := zo_21 (by decide +kernel)
theorem dX11_feed_57 : decode cX11_feed 57 = .ok (.invokevirtual 77, 3) := zo_182 (by decide +kernel)
theorem dX11_feed_60 : decode cX11_feed 60 = .ok (.aload_n 0, 1) := zo_42 (by decide +kernel)
theorem dX11_feed_61 : decode cX11_feed 61 = .ok (.getfield 10, 3) := zo_180 (by decide +kernel)
theorem dX11_feed_64 : decode cX11_feed 64 = .ok (.getfield 73, 3) := zo_180 (by decide +kernel)
theorem dX11_feed_67 : decode cX11_feed 67 = .ok (.ireturn, 1) := zo_172 (by decide +kernel)
theorem dX11_end_0 : decode cX11_end 0 = .ok (.iload_n 1, 1) := zo_27 (by decide +kernel)
theorem dX11_end_1 : decode cX11_end 1 = .ok (.ifCond .lt 14, 3) := zo_155 (by decide +kernel)
theorem dX11_end_4 : decode cX11_end 4 = .ok (.iload_n 1, 1) := zo_27 (by decide +kernel)
theorem dX11_end_5 : decode cX11_end 5 = .ok (.aload_n 0, 1) := zo_42 (by decide +kernel)
theorem dX11_end_6 : decode cX11_end 6 = .ok (.getfield 10, 3) := zo_180 (by decide +kernel)
theorem dX11_end_9 : decode cX11_end 9 = .ok (.getfield 73, 3) := zo_180 (by decide +kernel)
theorem dX11_end_12 : decode cX11_end 12 = .ok (.if_icmp .le 5, 3) := zo_164 (by decide +kernel)
theorem dX11_end_15 : decode cX11_end 15 = .ok (.iconst (-1), 1) := zo_2 (by decide +kernel)
theorem dX11_end_16 : decode cX11_end 16 = .ok (.ireturn, 1) := zo_172 (by decide +kernel)
theorem dX11_end_17 : decode cX11_end 17 = .ok (.aload_n 0, 1) := zo_42 (by decide +kernel)
theorem dX11_end_18 : decode cX11_end 18 = .ok (.getfield 10, 3) := zo_180 (by decide +kernel)
theorem dX11_end_21 : decode cX11_end 21 = .ok (.iload_n 1, 1) := zo_27 (by decide +kernel)
theorem dX11_end_22 : decode cX11_end 22 = .ok (.putfield 73, 3) := zo_181 (by decide +kernel)
theorem dX11_end_25 : decode cX11_end 25 = .ok (.iload_n 1, 1) := zo_27 (by decide +kernel)
theorem dX11_end_26 : decode cX11_end 26 = .ok (.ireturn, 1) := zo_172 (by decide +kernel)
theorem dX11_fault_0 : decode cX11_fault 0 = .ok (.iload_n 1, 1) := zo_27 (by decide +kernel)
theorem dX11_fault_1 : decode cX11_fault 1 = .ok (.ifCond .ne 13, 3) := zo_154 (by decide +kernel)
theorem dX11_fault_4 : decode cX11_fault 4 = .ok (.aload_n 0, 1) := zo_42 (by decide +kernel)
theorem dX11_fault_5 : decode cX11_fault 5 = .ok (.getfield 10, 3) := zo_180 (by decide +kernel)
theorem dX11_fault_8 : decode cX11_fault 8 = .ok (.getfield 85, 3) := zo_180 (by decide +kernel)
theorem dX11_fault_11 : decode cX11_fault 11 = .ok (.goto 19, 3) := zo_167 (by decide +kernel)
theorem dX11_fault_14 : decode cX11_fault 14 = .ok (.iload_n 1, 1) := zo_27 (by decide +kernel)
theorem dX11_fault_15 : decode cX11_fault 15 = .ok (.iconst 1, 1) := zo_4 (by decide +kernel)
theorem dX11_fault_16 : decode cX11_fault 16 = .ok (.if_icmp .ne 13, 3) := zo_160 (by decide +kernel)
theorem dX11_fault_19 : decode cX11_fault 19 = .ok (.aload_n 0, 1) := zo_42 (by decide +kernel)
theorem dX11_fault_20 : decode cX11_fault 20 = .ok (.getfield 10, 3) := zo_180 (by decide +kernel)
theorem dX11_fault_23 : decode cX11_fault 23 = .ok (.getfield 88, 3) := zo_180 (by decide +kernel)
theorem dX11_fault_26 : decode cX11_fault 26 = .ok (.goto 4, 3) := zo_167 (by decide +kernel)
theorem dX11_fault_29 : decode cX11_fault 29 = .ok (.iconst (-1), 1) := zo_2 (by decide +kernel)
theorem dX11_fault_30 : decode cX11_fault 30 = .ok (.ireturn, 1) := zo_172 (by decide +kernel)
theorem dX11_count_0 : decode cX11_count 0 = .ok (.iload_n 1, 1) := zo_27 (by decide +kernel)
theorem dX11_count_1 : decode cX11_count 1 = .ok (.ifCond .lt 20, 3) := zo_155 (by decide +kernel)
theorem dX11_count_4 : decode cX11_count 4 = .ok (.iload_n 1, 1) := zo_27 (by decide +kernel)
theorem dX11_count_5 : decode cX11_count 5 = .ok (.iconst 2, 1) := zo_5 (by decide +kernel)
theorem dX11_count_6 : decode cX11_count 6 = .ok (.if_icmp .gt 15, 3) := zo_163 (by decide +kernel)
theorem dX11_count_9 : decode cX11_count 9 = .ok (.aload_n 0, 1) := zo_42 (by decide +kernel)
theorem dX11_count_10 : decode cX11_count 10 = .ok (.getfield 10, 3) := zo_180 (by decide +kernel)
theorem dX11_count_13 : decode cX11_count 13 = .ok (.getfield 114, 3) := zo_180 (by decide +kernel)
theorem dX11_count_16 : decode cX11_count 16 = .ok (.iload_n 1, 1) := zo_27 (by decide +kernel)
theorem dX11_count_17 : decode cX11_count 17 = .ok (.iaload, 1) := zo_46 (by decide +kernel)
theorem dX11_count_18 : decode cX11_count 18 = .ok (.goto 5, 3) := zo_167 (by decide +kernel)
theorem dX11_count_21 : decode cX11_count 21 = .ok (.bipush (-2), 2) := zo_16 (by decide +kernel)
theorem dX11_count_23 : decode cX11_count 23 = .ok (.ireturn, 1) := zo_172 (by decide +kernel)
theorem dX11_land_0 : decode cX11_land 0 = .ok (.aload_n 0, 1) := zo_42 (by decide +kernel)
theorem dX11_land_1 : decode cX11_land 1 = .ok (.getfield 10, 3) := zo_180 (by decide +kernel)
theorem dX11_land_4 : decode cX11_land 4 = .ok (.iload_n 1, 1) := zo_27 (by decide +kernel)
theorem dX11_land_5 : decode cX11_land 5 = .ok (.invokevirtual 121, 3) := zo_182 (by decide +kernel)
theorem dX11_land_8 : decode cX11_land 8 = .ok (.astore_n 3, 1) := zo_78 (by decide +kernel)
theorem dX11_land_9 : decode cX11_land 9 = .ok (.aload_n 3, 1) := zo_45 (by decide +kernel)
theorem dX11_land_10 : decode cX11_land 10 = .ok (.ifnonnull 7, 3) := zo_199 (by decide +kernel)
theorem dX11_land_13 : decode cX11_land 13 = .ok (.iconst (-1), 1) := zo_2 (by decide +kernel)
theorem dX11_land_14 : decode cX11_land 14 = .ok (.goto 8, 3) := zo_167 (by decide +kernel)
theorem dX11_land_17 : decode cX11_land 17 = .ok (.aload_n 3, 1) := zo_45 (by decide +kernel)
theorem dX11_land_18 : decode cX11_land 18 = .ok (.iload_n 2, 1) := zo_28 (by decide +kernel)
theorem dX11_land_19 : decode cX11_land 19 = .ok (.invokevirtual 125, 3) := zo_182 (by decide +kernel)
theorem dX11_land_22 : decode cX11_land 22 = .ok (.ireturn, 1) := zo_172 (by decide +kernel)
theorem dX11_deed_0 : decode cX11_deed 0 = .ok (.aload_n 0, 1) := zo_42 (by decide +kernel)
theorem dX11_deed_1 : decode cX11_deed 1 = .ok (.getfield 10, 3) := zo_180 (by decide +kernel)
theorem dX11_deed_4 : decode cX11_deed 4 = .ok (.iload_n 1, 1) := zo_27 (by decide +kernel)
theorem dX11_deed_5 : decode cX11_deed 5 = .ok (.invokevirtual 130, 3) := zo_182 (by decide +kernel)
theorem dX11_deed_8 : decode cX11_deed 8 = .ok (.astore 4, 2) := zo_58 (by decide +kernel)
theorem dX11_deed_10 : decode cX11_deed 10 = .ok (.aload 4, 2) := zo_25 (by decide +kernel)
theorem dX11_deed_12 : decode cX11_deed 12 = .ok (.ifnonnull 8, 3) := zo_199 (by decide +kernel)
theorem dX11_deed_15 : decode cX11_deed 15 = .ok (.bipush (-2), 2) := zo_16 (by decide +kernel)
theorem dX11_deed_17 : decode cX11_deed 17 = .ok (.goto 10, 3) := zo_167 (by decide +kernel)
theorem dX11_deed_20 : decode cX11_deed 20 = .ok (.aload 4, 2) := zo_25 (by decide +kernel)
theorem dX11_deed_22 : decode cX11_deed 22 = .ok (.iload_n 2, 1) := zo_28 (by decide +kernel)
theorem dX11_deed_23 : decode cX11_deed 23 = .ok (.iload_n 3, 1) := zo_29 (by decide +kernel)
theorem dX11_deed_24 : decode cX11_deed 24 = .ok (.invokevirtual 134, 3) := zo_182 (by decide +kernel)
theorem dX11_deed_27 : decode cX11_deed 27 = .ok (.ireturn, 1) := zo_172 (by decide +kernel)
theorem dX11_fact_0 : decode cX11_fact 0 = .ok (.aload_n 0, 1) := zo_42 (by decide +kernel)
theorem dX11_fact_1 : decode cX11_fact 1 = .ok (.getfield 10, 3) := zo_180 (by decide +kernel)
theorem dX11_fact_4 : decode cX11_fact 4 = .ok (.iload_n 1, 1) := zo_27 (by decide +kernel)
theorem dX11_fact_5 : decode cX11_fact 5 = .ok (.invokevirtual 138, 3) := zo_182 (by decide +kernel)
theorem dX11_fact_8 : decode cX11_fact 8 = .ok (.astore 4, 2) := zo_58 (by decide +kernel)
theorem dX11_fact_10 : decode cX11_fact 10 = .ok (.aload 4, 2) := zo_25 (by decide +kernel)
theorem dX11_fact_12 : decode cX11_fact 12 = .ok (.ifnonnull 8, 3) := zo_199 (by decide +kernel)
theorem dX11_fact_15 : decode cX11_fact 15 = .ok (.bipush (-2), 2) := zo_16 (by decide +kernel)
theorem dX11_fact_17 : decode cX11_fact 17 = .ok (.goto 10, 3) := zo_167 (by decide +kernel)
theorem dX11_fact_20 : decode cX11_fact 20 = .ok (.aload 4, 2) := zo_25 (by decide +kernel)
theorem dX11_fact_22 : decode cX11_fact 22 = .ok (.iload_n 2, 1) := zo_28 (by decide +kernel)
theorem dX11_fact_23 : decode cX11_fact 23 = .ok (.iload_n 3, 1) := zo_29 (by decide +kernel)
theorem dX11_fact_24 : decode cX11_fact 24 = .ok (.invokevirtual 142, 3) := zo_182 (by decide +kernel)
theorem dX11_fact_27 : decode cX11_fact 27 = .ok (.ireturn, 1) := zo_172 (by decide +kernel)
theorem dX11_far_0 : decode cX11_far 0 = .ok (.aload_n 0, 1) := zo_42 (by decide +kernel)
theorem dX11_far_1 : decode cX11_far 1 = .ok (.getfield 10, 3) := zo_180 (by decide +kernel)
theorem dX11_far_4 : decode cX11_far 4 = .ok (.iload_n 1, 1) := zo_27 (by decide +kernel)
theorem dX11_far_5 : decode cX11_far 5 = .ok (.invokevirtual 121, 3) := zo_182 (by decide +kernel)
theorem dX11_far_8 : decode cX11_far 8 = .ok (.astore 4, 2) := zo_58 (by decide +kernel)
theorem dX11_far_10 : decode cX11_far 10 = .ok (.aload 4, 2) := zo_25 (by decide +kernel)
theorem dX11_far_12 : decode cX11_far 12 = .ok (.ifnull 21, 3) := zo_198 (by decide +kernel)
theorem dX11_far_15 : decode cX11_far 15 = .ok (.aload 4, 2) := zo_25 (by decide +kernel)
theorem dX11_far_17 : decode cX11_far 17 = .ok (.iload_n 2, 1) := zo_28 (by decide +kernel)
theorem dX11_far_18 : decode cX11_far 18 = .ok (.invokevirtual 160, 3) := zo_182 (by decide +kernel)
theorem dX11_far_21 : decode cX11_far 21 = .ok (.ifCond .eq 12, 3) := zo_153 (by decide +kernel)
theorem dX11_far_24 : decode cX11_far 24 = .ok (.aload 4, 2) := zo_25 (by decide +kernel)
theorem dX11_far_26 : decode cX11_far 26 = .ok (.iload_n 3, 1) := zo_29 (by decide +kernel)
theorem dX11_far_27 : decode cX11_far 27 = .ok (.invokevirtual 160, 3) := zo_182 (by decide +kernel)
theorem dX11_far_30 : decode cX11_far 30 = .ok (.ifCond .ne 7, 3) := zo_154 (by decide +kernel)
theorem dX11_far_33 : decode cX11_far 33 = .ok (.iconst (-1), 1) := zo_2 (by decide +kernel)
theorem dX11_far_34 : decode cX11_far 34 = .ok (.goto 10, 3) := zo_167 (by decide +kernel)
theorem dX11_far_37 : decode cX11_far 37 = .ok (.aload 4, 2) := zo_25 (by decide +kernel)
theorem dX11_far_39 : decode cX11_far 39 = .ok (.iload_n 2, 1) := zo_28 (by decide +kernel)
theorem dX11_far_40 : decode cX11_far 40 = .ok (.iload_n 3, 1) := zo_29 (by decide +kernel)
theorem dX11_far_41 : decode cX11_far 41 = .ok (.invokestatic 330, 3) := zo_184 (by decide +kernel)
theorem dX11_far_44 : decode cX11_far 44 = .ok (.ireturn, 1) := zo_172 (by decide +kernel)
theorem dX11_reach_0 : decode cX11_reach 0 = .ok (.aload_n 0, 1) := zo_42 (by decide +kernel)
theorem dX11_reach_1 : decode cX11_reach 1 = .ok (.getfield 10, 3) := zo_180 (by decide +kernel)
theorem dX11_reach_4 : decode cX11_reach 4 = .ok (.iload_n 1, 1) := zo_27 (by decide +kernel)
theorem dX11_reach_5 : decode cX11_reach 5 = .ok (.invokevirtual 121, 3) := zo_182 (by decide +kernel)
theorem dX11_reach_8 : decode cX11_reach 8 = .ok (.astore 4, 2) := zo_58 (by decide +kernel)
theorem dX11_reach_10 : decode cX11_reach 10 = .ok (.aload 4, 2) := zo_25 (by decide +kernel)
theorem dX11_reach_12 : decode cX11_reach 12 = .ok (.ifnull 21, 3) := zo_198 (by decide +kernel)
theorem dX11_reach_15 : decode cX11_reach 15 = .ok (.aload 4, 2) := zo_25 (by decide +kernel)
theorem dX11_reach_17 : decode cX11_reach 17 = .ok (.iload_n 2, 1) := zo_28 (by decide +kernel)
theorem dX11_reach_18 : decode cX11_reach 18 = .ok (.invokevirtual 160, 3) := zo_182 (by decide +kernel)
theorem dX11_reach_21 : decode cX11_reach 21 = .ok (.ifCond .eq 12, 3) := zo_153 (by decide +kernel)
theorem dX11_reach_24 : decode cX11_reach 24 = .ok (.iload_n 3, 1) := zo_29 (by decide +kernel)
theorem dX11_reach_25 : decode cX11_reach 25 = .ok (.ifCond .lt 8, 3) := zo_155 (by decide +kernel)
theorem dX11_reach_28 : decode cX11_reach 28 = .ok (.iload_n 3, 1) := zo_29 (by decide +kernel)
theorem dX11_reach_29 : decode cX11_reach 29 = .ok (.iconst 1, 1) := zo_4 (by decide +kernel)
theorem dX11_reach_30 : decode cX11_reach 30 = .ok (.if_icmp .le 6, 3) := zo_164 (by decide +kernel)
theorem dX11_reach_33 : decode cX11_reach 33 = .ok (.bipush (-2), 2) := zo_16 (by decide +kernel)
theorem dX11_reach_35 : decode cX11_reach 35 = .ok (.ireturn, 1) := zo_172 (by decide +kernel)
theorem dX11_reach_36 : decode cX11_reach 36 = .ok (.iload_n 3, 1) := zo_29 (by decide +kernel)
theorem dX11_reach_37 : decode cX11_reach 37 = .ok (.ifCond .ne 12, 3) := zo_154 (by decide +kernel)
theorem dX11_reach_40 : decode cX11_reach 40 = .ok (.aload 4, 2) := zo_25 (by decide +kernel)
theorem dX11_reach_42 : decode cX11_reach 42 = .ok (.iload_n 2, 1) := zo_28 (by decide +kernel)
theorem dX11_reach_43 : decode cX11_reach 43 = .ok (.invokestatic 336, 3) := zo_184 (by decide +kernel)
theorem dX11_reach_46 : decode cX11_reach 46 = .ok (.goto 9, 3) := zo_167 (by decide +kernel)
theorem dX11_reach_49 : decode cX11_reach 49 = .ok (.aload 4, 2) := zo_25 (by decide +kernel)
theorem dX11_reach_51 : decode cX11_reach 51 = .ok (.iload_n 2, 1) := zo_28 (by decide +kernel)
theorem dX11_reach_52 : decode cX11_reach 52 = .ok (.invokestatic 340, 3) := zo_184 (by decide +kernel)
theorem dX11_reach_55 : decode cX11_reach 55 = .ok (.ireturn, 1) := zo_172 (by decide +kernel)
theorem dX11_classes_0 : decode cX11_classes 0 = .ok (.aload_n 0, 1) := zo_42 (by decide +kernel)
theorem dX11_classes_1 : decode cX11_classes 1 = .ok (.getfield 10, 3) := zo_180 (by decide +kernel)
theorem dX11_classes_4 : decode cX11_classes 4 = .ok (.iload_n 1, 1) := zo_27 (by decide +kernel)
theorem dX11_classes_5 : decode cX11_classes 5 = .ok (.invokevirtual 121, 3) := zo_182 (by decide +kernel)
theorem dX11_classes_8 : decode cX11_classes 8 = .ok (.astore_n 3, 1) := zo_78 (by decide +kernel)
theorem dX11_classes_9 : decode cX11_classes 9 = .ok (.aload_n 3, 1) := zo_45 (by decide +kernel)
theorem dX11_classes_10 : decode cX11_classes 10 = .ok (.ifnonnull 6, 3) := zo_199 (by decide +kernel)
theorem dX11_classes_13 : decode cX11_classes 13 = .ok (.bipush (-2), 2) := zo_16 (by decide +kernel)
theorem dX11_classes_15 : decode cX11_classes 15 = .ok (.ireturn, 1) := zo_172 (by decide +kernel)
theorem dX11_classes_16 : decode cX11_classes 16 = .ok (.iload_n 2, 1) := zo_28 (by decide +kernel)
theorem dX11_classes_17 : decode cX11_classes 17 = .ok (.tableswitch 89 0 7 #[47, 53, 59, 64, 69, 74, 79, 84], 47) := by decide +kernel
theorem dX11_classes_64 : decode cX11_classes 64 = .ok (.aload_n 3, 1) := zo_45 (by decide +kernel)
theorem dX11_classes_65 : decode cX11_classes 65 = .ok (.iconst 0, 1) := zo_3 (by decide +kernel)
theorem dX11_classes_66 : decode cX11_classes 66 = .ok (.invokestatic 343, 3) := zo_184 (by decide +kernel)
theorem dX11_classes_69 : decode cX11_classes 69 = .ok (.ireturn, 1) := zo_172 (by decide +kernel)
theorem dX11_classes_70 : decode cX11_classes 70 = .ok (.aload_n 3, 1) := zo_45 (by decide +kernel)
theorem dX11_classes_71 : decode cX11_classes 71 = .ok (.iconst 1, 1) := zo_4 (by decide +kernel)
theorem dX11_classes_72 : decode cX11_classes 72 = .ok (.invokestatic 343, 3) := zo_184 (by decide +kernel)
theorem dX11_classes_75 : decode cX11_classes 75 = .ok (.ireturn, 1) := zo_172 (by decide +kernel)
theorem dX11_classes_76 : decode cX11_classes 76 = .ok (.aload_n 3, 1) := zo_45 (by decide +kernel)
theorem dX11_classes_77 : decode cX11_classes 77 = .ok (.invokestatic 347, 3) := zo_184 (by decide +kernel)
theorem dX11_classes_80 : decode cX11_classes 80 = .ok (.ireturn, 1) := zo_172 (by decide +kernel)
theorem dX11_classes_81 : decode cX11_classes 81 = .ok (.aload_n 3, 1) := zo_45 (by decide +kernel)
theorem dX11_classes_82 : decode cX11_classes 82 = .ok (.invokestatic 350, 3) := zo_184 (by decide +kernel)
theorem dX11_classes_85 : decode cX11_classes 85 = .ok (.ireturn, 1) := zo_172 (by decide +kernel)
theorem dX11_classes_86 : decode cX11_classes 86 = .ok (.aload_n 3, 1) := zo_45 (by decide +kernel)
theorem dX11_classes_87 : decode cX11_classes 87 = .ok (.invokestatic 353, 3) := zo_184 (by decide +kernel)
theorem dX11_classes_90 : decode cX11_classes 90 = .ok (.ireturn, 1) := zo_172 (by decide +kernel)
theorem dX11_classes_91 : decode cX11_classes 91 = .ok (.aload_n 3, 1) := zo_45 (by decide +kernel)
theorem dX11_classes_92 : decode cX11_classes 92 = .ok (.invokestatic 356, 3) := zo_184 (by decide +kernel)
theorem dX11_classes_95 : decode cX11_classes 95 = .ok (.ireturn, 1) := zo_172 (by decide +kernel)
theorem dX11_classes_96 : decode cX11_classes 96 = .ok (.aload_n 3, 1) := zo_45 (by decide +kernel)
theorem dX11_classes_97 : decode cX11_classes 97 = .ok (.invokestatic 359, 3) := zo_184 (by decide +kernel)
theorem dX11_classes_100 : decode cX11_classes 100 = .ok (.ireturn, 1) := zo_172 (by decide +kernel)
theorem dX11_classes_101 : decode cX11_classes 101 = .ok (.aload_n 3, 1) := zo_45 (by decide +kernel)
theorem dX11_classes_102 : decode cX11_classes 102 = .ok (.invokestatic 362, 3) := zo_184 (by decide +kernel)
theorem dX11_classes_105 : decode cX11_classes 105 = .ok (.ireturn, 1) := zo_172 (by decide +kernel)
theorem dX11_classes_106 : decode cX11_classes 106 = .ok (.bipush (-2), 2) := zo_16 (by decide +kernel)
theorem dX11_classes_108 : decode cX11_classes 108 = .ok (.ireturn, 1) := zo_172 (by decide +kernel)

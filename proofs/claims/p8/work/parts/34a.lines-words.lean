theorem m_fl_RX7_87 : Cond.fieldLink RX7 87 (TX4 0).1 (TX4 0).2.1 (TX4 0).2.2.1 ∈ zT := zmem1 zsub_1 45 (by decide +kernel) (by decide +kernel)
theorem m_co_X7_readNumber : Cond.code yX7_readNumber cX7_readNumber 3 (some .int) ∈ zT := zmem1 zsub_3 109 (by decide +kernel) (by decide +kernel)
theorem m_ml_RX7_120 : Cond.methodLink RX7 120 yX7_readNumber ∈ zT := zmem1 zsub_3 106 (by decide +kernel) (by decide +kernel)
theorem m_im_X7_readNumber : Cond.instanceMethod yX7_readNumber ∈ zT := zmem1 zsub_3 108 (by decide +kernel) (by decide +kernel)
theorem m_se_X7_readNumber : Cond.selects RX7 yX7_readNumber yX7_readNumber ∈ zT := zmem 9 (by decide +kernel) (by decide +kernel)
theorem m_co_X4_addRoad : Cond.code yX4_addRoad cX4_addRoad 3 none ∈ zT := zmem1 zsub_3 129 (by decide +kernel) (by decide +kernel)
theorem m_ml_RX7_123 : Cond.methodLink RX7 123 yX4_addRoad ∈ zT := zmem1 zsub_3 126 (by decide +kernel) (by decide +kernel)
theorem m_im_X4_addRoad : Cond.instanceMethod yX4_addRoad ∈ zT := zmem1 zsub_3 127 (by decide +kernel) (by decide +kernel)
theorem m_se_X4_addRoad : Cond.selects RX4 yX4_addRoad yX4_addRoad ∈ zT := zmem1 zsub_3 128 (by decide +kernel) (by decide +kernel)
theorem m_co_X7_tellOf : Cond.code yX7_tellOf cX7_tellOf 2 none ∈ zT := zmem1 zsub_3 137 (by decide +kernel) (by decide +kernel)
theorem m_ml_RX7_126 : Cond.methodLink RX7 126 yX7_tellOf ∈ zT := zmem1 zsub_3 134 (by decide +kernel) (by decide +kernel)
theorem m_im_X7_tellOf : Cond.instanceMethod yX7_tellOf ∈ zT := zmem1 zsub_3 136 (by decide +kernel) (by decide +kernel)
theorem m_se_X7_tellOf : Cond.selects RX7 yX7_tellOf yX7_tellOf ∈ zT := zmem 12 (by decide +kernel) (by decide +kernel)
theorem m_fl_RX7_132 : Cond.fieldLink RX7 132 (TX4 5).1 (TX4 5).2.1 (TX4 5).2.2.1 ∈ zT := zmem1 zsub_1 65 (by decide +kernel) (by decide +kernel)
theorem m_fl_RX7_94 : Cond.fieldLink RX7 94 (TX4 4).1 (TX4 4).2.1 (TX4 4).2.2.1 ∈ zT := zmem1 zsub_1 58 (by decide +kernel) (by decide +kernel)
theorem m_fl_RX7_129 : Cond.fieldLink RX7 129 (TX4 1).1 (TX4 1).2.1 (TX4 1).2.2.1 ∈ zT := zmem1 zsub_1 51 (by decide +kernel) (by decide +kernel)
theorem m_fl_RX7_65 : Cond.fieldLink RX7 65 (TX2 0).1 (TX2 0).2.1 (TX2 0).2.2.1 ∈ zT := zmem1 zsub_1 89 (by decide +kernel) (by decide +kernel)
theorem m_co_X2_add : Cond.code yX2_add cX2_add 4 none ∈ zT := zmem1 zsub_3 113 (by decide +kernel) (by decide +kernel)
theorem m_ml_RX7_135 : Cond.methodLink RX7 135 yX2_add ∈ zT := zmem1 zsub_3 110 (by decide +kernel) (by decide +kernel)
theorem m_im_X2_add : Cond.instanceMethod yX2_add ∈ zT := zmem1 zsub_3 111 (by decide +kernel) (by decide +kernel)
theorem m_se_X2_add : Cond.selects RX2 yX2_add yX2_add ∈ zT := zmem1 zsub_3 112 (by decide +kernel) (by decide +kernel)
theorem m_fl_RX7_68 : Cond.fieldLink RX7 68 (TX5 0).1 (TX5 0).2.1 (TX5 0).2.2.1 ∈ zT := zmem1 zsub_1 115 (by decide +kernel) (by decide +kernel)
theorem m_co_X5_add : Cond.code yX5_add cX5_add 3 none ∈ zT := zmem1 zsub_3 121 (by decide +kernel) (by decide +kernel)
theorem m_ml_RX7_139 : Cond.methodLink RX7 139 yX5_add ∈ zT := zmem1 zsub_3 118 (by decide +kernel) (by decide +kernel)
theorem m_im_X5_add : Cond.instanceMethod yX5_add ∈ zT := zmem1 zsub_3 119 (by decide +kernel) (by decide +kernel)
theorem m_se_X5_add : Cond.selects RX5 yX5_add yX5_add ∈ zT := zmem1 zsub_3 120 (by decide +kernel) (by decide +kernel)
theorem m_co_X7_wordOf : Cond.code yX7_wordOf cX7_wordOf 2 (some .int) ∈ zT := zmem1 zsub_3 29 (by decide +kernel) (by decide +kernel)
theorem m_ml_RX7_101 : Cond.methodLink RX7 101 yX7_wordOf ∈ zT := zmem1 zsub_3 26 (by decide +kernel) (by decide +kernel)
theorem m_im_X7_wordOf : Cond.instanceMethod yX7_wordOf ∈ zT := zmem1 zsub_3 28 (by decide +kernel) (by decide +kernel)
theorem m_se_X7_wordOf : Cond.selects RX7 yX7_wordOf yX7_wordOf ∈ zT := zmem 4 (by decide +kernel) (by decide +kernel)
theorem m_co_X7_readOther : Cond.code yX7_readOther cX7_readOther 4 none ∈ zT := zmem1 zsub_3 141 (by decide +kernel) (by decide +kernel)
theorem m_ml_RX7_117 : Cond.methodLink RX7 117 yX7_readOther ∈ zT := zmem1 zsub_3 138 (by decide +kernel) (by decide +kernel)
theorem m_im_X7_readOther : Cond.instanceMethod yX7_readOther ∈ zT := zmem1 zsub_3 140 (by decide +kernel) (by decide +kernel)
theorem m_se_X7_readOther : Cond.selects RX7 yX7_readOther yX7_readOther ∈ zT := zmem 13 (by decide +kernel) (by decide +kernel)
theorem m_co_X7_readCrossing : Cond.code yX7_readCrossing cX7_readCrossing 6 none ∈ zT := zmem1 zsub_3 125 (by decide +kernel) (by decide +kernel)
theorem m_ml_RX7_114 : Cond.methodLink RX7 114 yX7_readCrossing ∈ zT := zmem1 zsub_3 122 (by decide +kernel) (by decide +kernel)
theorem m_im_X7_readCrossing : Cond.instanceMethod yX7_readCrossing ∈ zT := zmem1 zsub_3 124 (by decide +kernel) (by decide +kernel)
theorem m_se_X7_readCrossing : Cond.selects RX7 yX7_readCrossing yX7_readCrossing ∈ zT := zmem 11 (by decide +kernel) (by decide +kernel)
theorem m_co_X7_readFact : Cond.code yX7_readFact cX7_readFact 4 none ∈ zT := zmem1 zsub_3 117 (by decide +kernel) (by decide +kernel)
theorem m_ml_RX7_111 : Cond.methodLink RX7 111 yX7_readFact ∈ zT := zmem1 zsub_3 114 (by decide +kernel) (by decide +kernel)
theorem m_im_X7_readFact : Cond.instanceMethod yX7_readFact ∈ zT := zmem1 zsub_3 116 (by decide +kernel) (by decide +kernel)
theorem m_se_X7_readFact : Cond.selects RX7 yX7_readFact yX7_readFact ∈ zT := zmem 10 (by decide +kernel) (by decide +kernel)
theorem m_co_X7_readDeed : Cond.code yX7_readDeed cX7_readDeed 4 none ∈ zT := zmem1 zsub_3 101 (by decide +kernel) (by decide +kernel)
theorem m_ml_RX7_108 : Cond.methodLink RX7 108 yX7_readDeed ∈ zT := zmem1 zsub_3 98 (by decide +kernel) (by decide +kernel)
theorem m_im_X7_readDeed : Cond.instanceMethod yX7_readDeed ∈ zT := zmem1 zsub_3 100 (by decide +kernel) (by decide +kernel)
theorem m_se_X7_readDeed : Cond.selects RX7 yX7_readDeed yX7_readDeed ∈ zT := zmem 7 (by decide +kernel) (by decide +kernel)
theorem m_fl_RX7_98 : Cond.fieldLink RX7 98 (TX4 2).1 (TX4 2).2.1 (TX4 2).2.2.1 ∈ zT := zmem1 zsub_1 53 (by decide +kernel) (by decide +kernel)
theorem m_co_X4_clear : Cond.code yX4_clear cX4_clear 2 none ∈ zT := zmem1 zsub_3 0 (by decide +kernel) (by decide +kernel)
theorem m_ml_RX7_62 : Cond.methodLink RX7 62 yX4_clear ∈ zT := zmem1 zsub_2 237 (by decide +kernel) (by decide +kernel)
theorem m_im_X4_clear : Cond.instanceMethod yX4_clear ∈ zT := zmem1 zsub_2 238 (by decide +kernel) (by decide +kernel)
theorem m_se_X4_clear : Cond.selects RX4 yX4_clear yX4_clear ∈ zT := zmem1 zsub_2 239 (by decide +kernel) (by decide +kernel)
theorem m_co_X7_lookAtWhole : Cond.code yX7_lookAtWhole cX7_lookAtWhole 2 none ∈ zT := zmem1 zsub_3 145 (by decide +kernel) (by decide +kernel)
theorem m_ml_RX7_81 : Cond.methodLink RX7 81 yX7_lookAtWhole ∈ zT := zmem1 zsub_3 142 (by decide +kernel) (by decide +kernel)
theorem m_im_X7_lookAtWhole : Cond.instanceMethod yX7_lookAtWhole ∈ zT := zmem1 zsub_3 144 (by decide +kernel) (by decide +kernel)
theorem m_se_X7_lookAtWhole : Cond.selects RX7 yX7_lookAtWhole yX7_lookAtWhole ∈ zT := zmem 14 (by decide +kernel) (by decide +kernel)
theorem m_co_X7_readLine : Cond.code yX7_readLine cX7_readLine 3 none ∈ zT := zmem1 zsub_3 25 (by decide +kernel) (by decide +kernel)
theorem m_ml_RX7_77 : Cond.methodLink RX7 77 yX7_readLine ∈ zT := zmem1 zsub_3 22 (by decide +kernel) (by decide +kernel)
theorem m_im_X7_readLine : Cond.instanceMethod yX7_readLine ∈ zT := zmem1 zsub_3 24 (by decide +kernel) (by decide +kernel)
theorem m_se_X7_readLine : Cond.selects RX7 yX7_readLine yX7_readLine ∈ zT := zmem 3 (by decide +kernel) (by decide +kernel)
theorem kV_RX7_120 {R : Room} {s : State} {args : Array Value} {d mc ms : Nat} (hts : ∀ w ∈ zT, w.before args s = true) (h1 : d + 1 ≤ R.frames) (h2 : 8 + (3 + 11) + 40 * d ≤ R.locals) : CallW R s args RX7 RX7 120 yX7_readNumber cX7_readNumber 3 (some .int) (zW yX7_readNumber cX7_readNumber 3 (some .int)) (zR d mc ms) mc ms 1 := z_cwV hts m_co_X7_readNumber m_ml_RX7_120 m_im_X7_readNumber m_se_X7_readNumber m_ii_RX7 (by decide +kernel) h1 h2
theorem kV_RX7_123 {R : Room} {s : State} {args : Array Value} {d mc ms : Nat} (hts : ∀ w ∈ zT, w.before args s = true) (h1 : d + 1 ≤ R.frames) (h2 : 8 + (3 + 11) + 40 * d ≤ R.locals) : CallW R s args RX7 RX4 123 yX4_addRoad cX4_addRoad 3 none (zW yX4_addRoad cX4_addRoad 3 none) (zR d mc ms) mc ms 2 := z_cwV hts m_co_X4_addRoad m_ml_RX7_123 m_im_X4_addRoad m_se_X4_addRoad m_ii_RX4 (by decide +kernel) h1 h2
theorem kV_RX7_126 {R : Room} {s : State} {args : Array Value} {d mc ms : Nat} (hts : ∀ w ∈ zT, w.before args s = true) (h1 : d + 1 ≤ R.frames) (h2 : 8 + (2 + 11) + 40 * d ≤ R.locals) : CallW R s args RX7 RX7 126 yX7_tellOf cX7_tellOf 2 none (zW yX7_tellOf cX7_tellOf 2 none) (zR d mc ms) mc ms 1 := z_cwV hts m_co_X7_tellOf m_ml_RX7_126 m_im_X7_tellOf m_se_X7_tellOf m_ii_RX7 (by decide +kernel) h1 h2
theorem kV_RX7_135 {R : Room} {s : State} {args : Array Value} {d mc ms : Nat} (hts : ∀ w ∈ zT, w.before args s = true) (h1 : d + 1 ≤ R.frames) (h2 : 8 + (4 + 11) + 40 * d ≤ R.locals) : CallW R s args RX7 RX2 135 yX2_add cX2_add 4 none (zW yX2_add cX2_add 4 none) (zR d mc ms) mc ms 3 := z_cwV hts m_co_X2_add m_ml_RX7_135 m_im_X2_add m_se_X2_add m_ii_RX2 (by decide +kernel) h1 h2
theorem kV_RX7_139 {R : Room} {s : State} {args : Array Value} {d mc ms : Nat} (hts : ∀ w ∈ zT, w.before args s = true) (h1 : d + 1 ≤ R.frames) (h2 : 8 + (3 + 11) + 40 * d ≤ R.locals) : CallW R s args RX7 RX5 139 yX5_add cX5_add 3 none (zW yX5_add cX5_add 3 none) (zR d mc ms) mc ms 2 := z_cwV hts m_co_X5_add m_ml_RX7_139 m_im_X5_add m_se_X5_add m_ii_RX5 (by decide +kernel) h1 h2
theorem kV_RX7_101 {R : Room} {s : State} {args : Array Value} {d mc ms : Nat} (hts : ∀ w ∈ zT, w.before args s = true) (h1 : d + 1 ≤ R.frames) (h2 : 8 + (2 + 11) + 40 * d ≤ R.locals) : CallW R s args RX7 RX7 101 yX7_wordOf cX7_wordOf 2 (some .int) (zW yX7_wordOf cX7_wordOf 2 (some .int)) (zR d mc ms) mc ms 1 := z_cwV hts m_co_X7_wordOf m_ml_RX7_101 m_im_X7_wordOf m_se_X7_wordOf m_ii_RX7 (by decide +kernel) h1 h2
theorem kV_RX7_117 {R : Room} {s : State} {args : Array Value} {d mc ms : Nat} (hts : ∀ w ∈ zT, w.before args s = true) (h1 : d + 1 ≤ R.frames) (h2 : 8 + (4 + 11) + 40 * d ≤ R.locals) : CallW R s args RX7 RX7 117 yX7_readOther cX7_readOther 4 none (zW yX7_readOther cX7_readOther 4 none) (zR d mc ms) mc ms 1 := z_cwV hts m_co_X7_readOther m_ml_RX7_117 m_im_X7_readOther m_se_X7_readOther m_ii_RX7 (by decide +kernel) h1 h2
theorem kV_RX7_114 {R : Room} {s : State} {args : Array Value} {d mc ms : Nat} (hts : ∀ w ∈ zT, w.before args s = true) (h1 : d + 1 ≤ R.frames) (h2 : 8 + (6 + 11) + 40 * d ≤ R.locals) : CallW R s args RX7 RX7 114 yX7_readCrossing cX7_readCrossing 6 none (zW yX7_readCrossing cX7_readCrossing 6 none) (zR d mc ms) mc ms 0 := z_cwV hts m_co_X7_readCrossing m_ml_RX7_114 m_im_X7_readCrossing m_se_X7_readCrossing m_ii_RX7 (by decide +kernel) h1 h2
theorem kV_RX7_111 {R : Room} {s : State} {args : Array Value} {d mc ms : Nat} (hts : ∀ w ∈ zT, w.before args s = true) (h1 : d + 1 ≤ R.frames) (h2 : 8 + (4 + 11) + 40 * d ≤ R.locals) : CallW R s args RX7 RX7 111 yX7_readFact cX7_readFact 4 none (zW yX7_readFact cX7_readFact 4 none) (zR d mc ms) mc ms 1 := z_cwV hts m_co_X7_readFact m_ml_RX7_111 m_im_X7_readFact m_se_X7_readFact m_ii_RX7 (by decide +kernel) h1 h2
theorem kV_RX7_108 {R : Room} {s : State} {args : Array Value} {d mc ms : Nat} (hts : ∀ w ∈ zT, w.before args s = true) (h1 : d + 1 ≤ R.frames) (h2 : 8 + (4 + 11) + 40 * d ≤ R.locals) : CallW R s args RX7 RX7 108 yX7_readDeed cX7_readDeed 4 none (zW yX7_readDeed cX7_readDeed 4 none) (zR d mc ms) mc ms 1 := z_cwV hts m_co_X7_readDeed m_ml_RX7_108 m_im_X7_readDeed m_se_X7_readDeed m_ii_RX7 (by decide +kernel) h1 h2
theorem kV_RX7_62 {R : Room} {s : State} {args : Array Value} {d mc ms : Nat} (hts : ∀ w ∈ zT, w.before args s = true) (h1 : d + 1 ≤ R.frames) (h2 : 8 + (2 + 11) + 40 * d ≤ R.locals) : CallW R s args RX7 RX4 62 yX4_clear cX4_clear 2 none (zW yX4_clear cX4_clear 2 none) (zR d mc ms) mc ms 0 := z_cwV hts m_co_X4_clear m_ml_RX7_62 m_im_X4_clear m_se_X4_clear m_ii_RX4 (by decide +kernel) h1 h2
theorem kV_RX7_81 {R : Room} {s : State} {args : Array Value} {d mc ms : Nat} (hts : ∀ w ∈ zT, w.before args s = true) (h1 : d + 1 ≤ R.frames) (h2 : 8 + (2 + 11) + 40 * d ≤ R.locals) : CallW R s args RX7 RX7 81 yX7_lookAtWhole cX7_lookAtWhole 2 none (zW yX7_lookAtWhole cX7_lookAtWhole 2 none) (zR d mc ms) mc ms 0 := z_cwV hts m_co_X7_lookAtWhole m_ml_RX7_81 m_im_X7_lookAtWhole m_se_X7_lookAtWhole m_ii_RX7 (by decide +kernel) h1 h2
theorem kV_RX7_77 {R : Room} {s : State} {args : Array Value} {d mc ms : Nat} (hts : ∀ w ∈ zT, w.before args s = true) (h1 : d + 1 ≤ R.frames) (h2 : 8 + (3 + 11) + 40 * d ≤ R.locals) : CallW R s args RX7 RX7 77 yX7_readLine cX7_readLine 3 none (zW yX7_readLine cX7_readLine 3 none) (zR d mc ms) mc ms 1 := z_cwV hts m_co_X7_readLine m_ml_RX7_77 m_im_X7_readLine m_se_X7_readLine m_ii_RX7 (by decide +kernel) h1 h2
theorem dX7_readCrossing_0 : decode cX7_readCrossing 0 = .ok (.aload_n 0, 1) := by decide +kernel
theorem dX7_readCrossing_1 : decode cX7_readCrossing 1 = .ok (.getfield 12, 3) := by decide +kernel
theorem dX7_readCrossing_4 : decode cX7_readCrossing 4 = .ok (.getfield 87, 3) := by decide +kernel
theorem dX7_readCrossing_7 : decode cX7_readCrossing 7 = .ok (.istore_n 1, 1) := by decide +kernel
theorem dX7_readCrossing_8 : decode cX7_readCrossing 8 = .ok (.iload_n 1, 1) := by decide +kernel
theorem dX7_readCrossing_9 : decode cX7_readCrossing 9 = .ok (.bipush 7, 2) := by decide +kernel
theorem dX7_readCrossing_11 : decode cX7_readCrossing 11 = .ok (.if_icmp .lt 15, 3) := by decide +kernel
theorem dX7_readCrossing_14 : decode cX7_readCrossing 14 = .ok (.aload_n 0, 1) := by decide +kernel
theorem dX7_readCrossing_15 : decode cX7_readCrossing 15 = .ok (.iconst 3, 1) := by decide +kernel
theorem dX7_readCrossing_16 : decode cX7_readCrossing 16 = .ok (.aload_n 0, 1) := by decide +kernel
theorem dX7_readCrossing_17 : decode cX7_readCrossing 17 = .ok (.getfield 84, 3) := by decide +kernel
theorem dX7_readCrossing_20 : decode cX7_readCrossing 20 = .ok (.invokevirtual 90, 3) := by decide +kernel
theorem dX7_readCrossing_23 : decode cX7_readCrossing 23 = .ok (.goto 16, 3) := by decide +kernel
theorem dX7_readCrossing_26 : decode cX7_readCrossing 26 = .ok (.aload_n 0, 1) := by decide +kernel
theorem dX7_readCrossing_27 : decode cX7_readCrossing 27 = .ok (.getfield 12, 3) := by decide +kernel
theorem dX7_readCrossing_30 : decode cX7_readCrossing 30 = .ok (.dup, 1) := by decide +kernel
theorem dX7_readCrossing_31 : decode cX7_readCrossing 31 = .ok (.getfield 87, 3) := by decide +kernel
theorem dX7_readCrossing_34 : decode cX7_readCrossing 34 = .ok (.iconst 1, 1) := by decide +kernel
theorem dX7_readCrossing_35 : decode cX7_readCrossing 35 = .ok (.iadd, 1) := by decide +kernel
theorem dX7_readCrossing_36 : decode cX7_readCrossing 36 = .ok (.putfield 87, 3) := by decide +kernel
theorem dX7_readCrossing_39 : decode cX7_readCrossing 39 = .ok (.aload_n 0, 1) := by decide +kernel
theorem dX7_readCrossing_40 : decode cX7_readCrossing 40 = .ok (.invokevirtual 71, 3) := by decide +kernel
theorem dX7_readCrossing_43 : decode cX7_readCrossing 43 = .ok (.iconst 0, 1) := by decide +kernel
theorem dX7_readCrossing_44 : decode cX7_readCrossing 44 = .ok (.istore_n 2, 1) := by decide +kernel
theorem dX7_readCrossing_45 : decode cX7_readCrossing 45 = .ok (.iconst 0, 1) := by decide +kernel
theorem dX7_readCrossing_46 : decode cX7_readCrossing 46 = .ok (.istore_n 3, 1) := by decide +kernel
theorem dX7_readCrossing_47 : decode cX7_readCrossing 47 = .ok (.iload_n 3, 1) := by decide +kernel
theorem dX7_readCrossing_48 : decode cX7_readCrossing 48 = .ok (.sipush 600, 3) := by decide +kernel
theorem dX7_readCrossing_51 : decode cX7_readCrossing 51 = .ok (.if_icmp .gt 62, 3) := by decide +kernel
theorem dX7_readCrossing_54 : decode cX7_readCrossing 54 = .ok (.aload_n 0, 1) := by decide +kernel
theorem dX7_readCrossing_55 : decode cX7_readCrossing 55 = .ok (.getfield 74, 3) := by decide +kernel
theorem dX7_readCrossing_58 : decode cX7_readCrossing 58 = .ok (.iconst 2, 1) := by decide +kernel
theorem dX7_readCrossing_59 : decode cX7_readCrossing 59 = .ok (.if_icmp .ne 54, 3) := by decide +kernel
theorem dX7_readCrossing_62 : decode cX7_readCrossing 62 = .ok (.aload_n 0, 1) := by decide +kernel
theorem dX7_readCrossing_63 : decode cX7_readCrossing 63 = .ok (.getfield 84, 3) := by decide +kernel
theorem dX7_readCrossing_66 : decode cX7_readCrossing 66 = .ok (.istore 4, 2) := by decide +kernel
theorem dX7_readCrossing_68 : decode cX7_readCrossing 68 = .ok (.aload_n 0, 1) := by decide +kernel
theorem dX7_readCrossing_69 : decode cX7_readCrossing 69 = .ok (.bipush 6, 2) := by decide +kernel
theorem dX7_readCrossing_71 : decode cX7_readCrossing 71 = .ok (.invokevirtual 120, 3) := by decide +kernel
theorem dX7_readCrossing_74 : decode cX7_readCrossing 74 = .ok (.istore 5, 2) := by decide +kernel
theorem dX7_readCrossing_76 : decode cX7_readCrossing 76 = .ok (.iload_n 2, 1) := by decide +kernel
theorem dX7_readCrossing_77 : decode cX7_readCrossing 77 = .ok (.iconst 4, 1) := by decide +kernel
theorem dX7_readCrossing_78 : decode cX7_readCrossing 78 = .ok (.if_icmp .lt 10, 3) := by decide +kernel
theorem dX7_readCrossing_81 : decode cX7_readCrossing 81 = .ok (.aload_n 0, 1) := by decide +kernel
theorem dX7_readCrossing_82 : decode cX7_readCrossing 82 = .ok (.iconst 3, 1) := by decide +kernel
theorem dX7_readCrossing_83 : decode cX7_readCrossing 83 = .ok (.iload 4, 2) := by decide +kernel
theorem dX7_readCrossing_85 : decode cX7_readCrossing 85 = .ok (.invokevirtual 90, 3) := by decide +kernel
theorem dX7_readCrossing_88 : decode cX7_readCrossing 88 = .ok (.iinc 2 1, 3) := by decide +kernel
theorem dX7_readCrossing_91 : decode cX7_readCrossing 91 = .ok (.aload_n 0, 1) := by decide +kernel
theorem dX7_readCrossing_92 : decode cX7_readCrossing 92 = .ok (.getfield 12, 3) := by decide +kernel
theorem dX7_readCrossing_95 : decode cX7_readCrossing 95 = .ok (.iload_n 1, 1) := by decide +kernel
theorem dX7_readCrossing_96 : decode cX7_readCrossing 96 = .ok (.iload 5, 2) := by decide +kernel
theorem dX7_readCrossing_98 : decode cX7_readCrossing 98 = .ok (.invokevirtual 123, 3) := by decide +kernel
theorem dX7_readCrossing_101 : decode cX7_readCrossing 101 = .ok (.aload_n 0, 1) := by decide +kernel
theorem dX7_readCrossing_102 : decode cX7_readCrossing 102 = .ok (.iload 5, 2) := by decide +kernel
theorem dX7_readCrossing_104 : decode cX7_readCrossing 104 = .ok (.invokevirtual 126, 3) := by decide +kernel
theorem dX7_readCrossing_107 : decode cX7_readCrossing 107 = .ok (.iinc 3 1, 3) := by decide +kernel
theorem dX7_readCrossing_110 : decode cX7_readCrossing 110 = .ok (.goto (-63), 3) := by decide +kernel
theorem dX7_readCrossing_113 : decode cX7_readCrossing 113 = .ok (.return_, 1) := by decide +kernel
theorem dX7_readOther_0 : decode cX7_readOther 0 = .ok (.aload_n 0, 1) := by decide +kernel
theorem dX7_readOther_1 : decode cX7_readOther 1 = .ok (.invokevirtual 71, 3) := by decide +kernel
theorem dX7_readOther_4 : decode cX7_readOther 4 = .ok (.aload_n 0, 1) := by decide +kernel
theorem dX7_readOther_5 : decode cX7_readOther 5 = .ok (.bipush 6, 2) := by decide +kernel
theorem dX7_readOther_7 : decode cX7_readOther 7 = .ok (.invokevirtual 120, 3) := by decide +kernel
theorem dX7_readOther_10 : decode cX7_readOther 10 = .ok (.istore_n 2, 1) := by decide +kernel
theorem dX7_readOther_11 : decode cX7_readOther 11 = .ok (.aload_n 0, 1) := by decide +kernel
theorem dX7_readOther_12 : decode cX7_readOther 12 = .ok (.iload_n 2, 1) := by decide +kernel
theorem dX7_readOther_13 : decode cX7_readOther 13 = .ok (.invokevirtual 126, 3) := by decide +kernel
theorem dX7_readOther_16 : decode cX7_readOther 16 = .ok (.iload_n 1, 1) := by decide +kernel
theorem dX7_readOther_17 : decode cX7_readOther 17 = .ok (.iconst 3, 1) := by decide +kernel
theorem dX7_readOther_18 : decode cX7_readOther 18 = .ok (.if_icmp .ne 33, 3) := by decide +kernel
theorem dX7_readOther_21 : decode cX7_readOther 21 = .ok (.aload_n 0, 1) := by decide +kernel
theorem dX7_readOther_22 : decode cX7_readOther 22 = .ok (.getfield 12, 3) := by decide +kernel
theorem dX7_readOther_25 : decode cX7_readOther 25 = .ok (.dup, 1) := by decide +kernel
theorem dX7_readOther_26 : decode cX7_readOther 26 = .ok (.getfield 129, 3) := by decide +kernel
theorem dX7_readOther_29 : decode cX7_readOther 29 = .ok (.iload_n 2, 1) := by decide +kernel
theorem dX7_readOther_30 : decode cX7_readOther 30 = .ok (.ifCond .lt 15, 3) := by decide +kernel
theorem dX7_readOther_33 : decode cX7_readOther 33 = .ok (.iload_n 2, 1) := by decide +kernel
theorem dX7_readOther_34 : decode cX7_readOther 34 = .ok (.bipush 7, 2) := by decide +kernel
theorem dX7_readOther_36 : decode cX7_readOther 36 = .ok (.if_icmp .ge 9, 3) := by decide +kernel
theorem dX7_readOther_39 : decode cX7_readOther 39 = .ok (.iconst 1, 1) := by decide +kernel
theorem dX7_readOther_40 : decode cX7_readOther 40 = .ok (.iload_n 2, 1) := by decide +kernel
theorem dX7_readOther_41 : decode cX7_readOther 41 = .ok (.ishl, 1) := by decide +kernel
theorem dX7_readOther_42 : decode cX7_readOther 42 = .ok (.goto 4, 3) := by decide +kernel
theorem dX7_readOther_45 : decode cX7_readOther 45 = .ok (.iconst 0, 1) := by decide +kernel
theorem dX7_readOther_46 : decode cX7_readOther 46 = .ok (.ior, 1) := by decide +kernel
theorem dX7_readOther_47 : decode cX7_readOther 47 = .ok (.putfield 129, 3) := by decide +kernel
theorem dX7_readOther_50 : decode cX7_readOther 50 = .ok (.return_, 1) := by decide +kernel
theorem dX7_readOther_51 : decode cX7_readOther 51 = .ok (.aload_n 0, 1) := by decide +kernel
theorem dX7_readOther_52 : decode cX7_readOther 52 = .ok (.iload_n 1, 1) := by decide +kernel
theorem dX7_readOther_53 : decode cX7_readOther 53 = .ok (.iconst 1, 1) := by decide +kernel
theorem dX7_readOther_54 : decode cX7_readOther 54 = .ok (.if_icmp .ne 7, 3) := by decide +kernel
theorem dX7_readOther_57 : decode cX7_readOther 57 = .ok (.iconst 3, 1) := by decide +kernel
theorem dX7_readOther_58 : decode cX7_readOther 58 = .ok (.goto 5, 3) := by decide +kernel
theorem dX7_readOther_61 : decode cX7_readOther 61 = .ok (.bipush 9, 2) := by decide +kernel
theorem dX7_readOther_63 : decode cX7_readOther 63 = .ok (.invokevirtual 120, 3) := by decide +kernel
theorem dX7_readOther_66 : decode cX7_readOther 66 = .ok (.istore_n 3, 1) := by decide +kernel
theorem dX7_readOther_67 : decode cX7_readOther 67 = .ok (.iload_n 2, 1) := by decide +kernel
theorem dX7_readOther_68 : decode cX7_readOther 68 = .ok (.ifCond .lt 9, 3) := by decide +kernel
theorem dX7_readOther_71 : decode cX7_readOther 71 = .ok (.iload_n 2, 1) := by decide +kernel
theorem dX7_readOther_72 : decode cX7_readOther 72 = .ok (.bipush 7, 2) := by decide +kernel
theorem dX7_readOther_74 : decode cX7_readOther 74 = .ok (.if_icmp .lt 4, 3) := by decide +kernel
theorem dX7_readOther_77 : decode cX7_readOther 77 = .ok (.return_, 1) := by decide +kernel
theorem dX7_readOther_78 : decode cX7_readOther 78 = .ok (.iload_n 1, 1) := by decide +kernel
theorem dX7_readOther_79 : decode cX7_readOther 79 = .ok (.iconst 1, 1) := by decide +kernel
theorem dX7_readOther_80 : decode cX7_readOther 80 = .ok (.if_icmp .ne 16, 3) := by decide +kernel
theorem dX7_readOther_83 : decode cX7_readOther 83 = .ok (.aload_n 0, 1) := by decide +kernel
theorem dX7_readOther_84 : decode cX7_readOther 84 = .ok (.getfield 12, 3) := by decide +kernel
theorem dX7_readOther_87 : decode cX7_readOther 87 = .ok (.getfield 94, 3) := by decide +kernel
theorem dX7_readOther_90 : decode cX7_readOther 90 = .ok (.iload_n 2, 1) := by decide +kernel
theorem dX7_readOther_91 : decode cX7_readOther 91 = .ok (.iload_n 3, 1) := by decide +kernel
theorem dX7_readOther_92 : decode cX7_readOther 92 = .ok (.iastore, 1) := by decide +kernel
theorem dX7_readOther_93 : decode cX7_readOther 93 = .ok (.goto 13, 3) := by decide +kernel
theorem dX7_readOther_96 : decode cX7_readOther 96 = .ok (.aload_n 0, 1) := by decide +kernel
theorem dX7_readOther_97 : decode cX7_readOther 97 = .ok (.getfield 12, 3) := by decide +kernel
theorem dX7_readOther_100 : decode cX7_readOther 100 = .ok (.getfield 132, 3) := by decide +kernel
theorem dX7_readOther_103 : decode cX7_readOther 103 = .ok (.iload_n 2, 1) := by decide +kernel
theorem dX7_readOther_104 : decode cX7_readOther 104 = .ok (.iload_n 3, 1) := by decide +kernel
theorem dX7_readOther_105 : decode cX7_readOther 105 = .ok (.iastore, 1) := by decide +kernel
theorem dX7_readOther_106 : decode cX7_readOther 106 = .ok (.return_, 1) := by decide +kernel
theorem dX7_readDeed_0 : decode cX7_readDeed 0 = .ok (.aload_n 0, 1) := by decide +kernel
theorem dX7_readDeed_1 : decode cX7_readDeed 1 = .ok (.getfield 21, 3) := by decide +kernel
theorem dX7_readDeed_4 : decode cX7_readDeed 4 = .ok (.getfield 65, 3) := by decide +kernel
theorem dX7_readDeed_7 : decode cX7_readDeed 7 = .ok (.bipush 40, 2) := by decide +kernel
theorem dX7_readDeed_9 : decode cX7_readDeed 9 = .ok (.if_icmp .lt 12, 3) := by decide +kernel
theorem dX7_readDeed_12 : decode cX7_readDeed 12 = .ok (.aload_n 0, 1) := by decide +kernel
theorem dX7_readDeed_13 : decode cX7_readDeed 13 = .ok (.iconst 3, 1) := by decide +kernel
theorem dX7_readDeed_14 : decode cX7_readDeed 14 = .ok (.aload_n 0, 1) := by decide +kernel
theorem dX7_readDeed_15 : decode cX7_readDeed 15 = .ok (.getfield 84, 3) := by decide +kernel
theorem dX7_readDeed_18 : decode cX7_readDeed 18 = .ok (.invokevirtual 90, 3) := by decide +kernel
theorem dX7_readDeed_21 : decode cX7_readDeed 21 = .ok (.aload_n 0, 1) := by decide +kernel
theorem dX7_readDeed_22 : decode cX7_readDeed 22 = .ok (.invokevirtual 71, 3) := by decide +kernel
theorem dX7_readDeed_25 : decode cX7_readDeed 25 = .ok (.aload_n 0, 1) := by decide +kernel
theorem dX7_readDeed_26 : decode cX7_readDeed 26 = .ok (.bipush 6, 2) := by decide +kernel
theorem dX7_readDeed_28 : decode cX7_readDeed 28 = .ok (.invokevirtual 120, 3) := by decide +kernel
theorem dX7_readDeed_31 : decode cX7_readDeed 31 = .ok (.istore_n 2, 1) := by decide +kernel
theorem dX7_readDeed_32 : decode cX7_readDeed 32 = .ok (.iload_n 1, 1) := by decide +kernel
theorem dX7_readDeed_33 : decode cX7_readDeed 33 = .ok (.iconst 4, 1) := by decide +kernel
theorem dX7_readDeed_34 : decode cX7_readDeed 34 = .ok (.if_icmp .eq 8, 3) := by decide +kernel
theorem dX7_readDeed_37 : decode cX7_readDeed 37 = .ok (.iload_n 1, 1) := by decide +kernel
theorem dX7_readDeed_38 : decode cX7_readDeed 38 = .ok (.iconst 5, 1) := by decide +kernel
theorem dX7_readDeed_39 : decode cX7_readDeed 39 = .ok (.if_icmp .ne 11, 3) := by decide +kernel
theorem dX7_readDeed_42 : decode cX7_readDeed 42 = .ok (.aload_n 0, 1) := by decide +kernel
theorem dX7_readDeed_43 : decode cX7_readDeed 43 = .ok (.iconst 3, 1) := by decide +kernel
theorem dX7_readDeed_44 : decode cX7_readDeed 44 = .ok (.invokevirtual 120, 3) := by decide +kernel
theorem dX7_readDeed_47 : decode cX7_readDeed 47 = .ok (.goto 4, 3) := by decide +kernel
theorem dX7_readDeed_50 : decode cX7_readDeed 50 = .ok (.iconst (-1), 1) := by decide +kernel
theorem dX7_readDeed_51 : decode cX7_readDeed 51 = .ok (.istore_n 3, 1) := by decide +kernel
theorem dX7_readDeed_52 : decode cX7_readDeed 52 = .ok (.aload_n 0, 1) := by decide +kernel
theorem dX7_readDeed_53 : decode cX7_readDeed 53 = .ok (.getfield 21, 3) := by decide +kernel
theorem dX7_readDeed_56 : decode cX7_readDeed 56 = .ok (.iload_n 1, 1) := by decide +kernel
theorem dX7_readDeed_57 : decode cX7_readDeed 57 = .ok (.iload_n 2, 1) := by decide +kernel
theorem dX7_readDeed_58 : decode cX7_readDeed 58 = .ok (.iload_n 3, 1) := by decide +kernel
theorem dX7_readDeed_59 : decode cX7_readDeed 59 = .ok (.invokevirtual 135, 3) := by decide +kernel
theorem dX7_readDeed_62 : decode cX7_readDeed 62 = .ok (.return_, 1) := by decide +kernel
theorem dX7_readFact_0 : decode cX7_readFact 0 = .ok (.aload_n 0, 1) := by decide +kernel
theorem dX7_readFact_1 : decode cX7_readFact 1 = .ok (.getfield 28, 3) := by decide +kernel
theorem dX7_readFact_4 : decode cX7_readFact 4 = .ok (.getfield 68, 3) := by decide +kernel
theorem dX7_readFact_7 : decode cX7_readFact 7 = .ok (.bipush 8, 2) := by decide +kernel
theorem dX7_readFact_9 : decode cX7_readFact 9 = .ok (.if_icmp .lt 12, 3) := by decide +kernel
theorem dX7_readFact_12 : decode cX7_readFact 12 = .ok (.aload_n 0, 1) := by decide +kernel
theorem dX7_readFact_13 : decode cX7_readFact 13 = .ok (.iconst 3, 1) := by decide +kernel
theorem dX7_readFact_14 : decode cX7_readFact 14 = .ok (.aload_n 0, 1) := by decide +kernel
theorem dX7_readFact_15 : decode cX7_readFact 15 = .ok (.getfield 84, 3) := by decide +kernel
theorem dX7_readFact_18 : decode cX7_readFact 18 = .ok (.invokevirtual 90, 3) := by decide +kernel
theorem dX7_readFact_21 : decode cX7_readFact 21 = .ok (.aload_n 0, 1) := by decide +kernel
theorem dX7_readFact_22 : decode cX7_readFact 22 = .ok (.invokevirtual 71, 3) := by decide +kernel
theorem dX7_readFact_25 : decode cX7_readFact 25 = .ok (.aload_n 0, 1) := by decide +kernel
theorem dX7_readFact_26 : decode cX7_readFact 26 = .ok (.bipush 6, 2) := by decide +kernel
theorem dX7_readFact_28 : decode cX7_readFact 28 = .ok (.invokevirtual 120, 3) := by decide +kernel
theorem dX7_readFact_31 : decode cX7_readFact 31 = .ok (.istore_n 2, 1) := by decide +kernel
theorem dX7_readFact_32 : decode cX7_readFact 32 = .ok (.iload_n 1, 1) := by decide +kernel
theorem dX7_readFact_33 : decode cX7_readFact 33 = .ok (.ifCond .ne 12, 3) := by decide +kernel
theorem dX7_readFact_36 : decode cX7_readFact 36 = .ok (.aload_n 0, 1) := by decide +kernel
theorem dX7_readFact_37 : decode cX7_readFact 37 = .ok (.bipush 6, 2) := by decide +kernel
theorem dX7_readFact_39 : decode cX7_readFact 39 = .ok (.invokevirtual 120, 3) := by decide +kernel
theorem dX7_readFact_42 : decode cX7_readFact 42 = .ok (.goto 4, 3) := by decide +kernel
theorem dX7_readFact_45 : decode cX7_readFact 45 = .ok (.iconst (-1), 1) := by decide +kernel
theorem dX7_readFact_46 : decode cX7_readFact 46 = .ok (.istore_n 3, 1) := by decide +kernel
theorem dX7_readFact_47 : decode cX7_readFact 47 = .ok (.aload_n 0, 1) := by decide +kernel
theorem dX7_readFact_48 : decode cX7_readFact 48 = .ok (.getfield 28, 3) := by decide +kernel
theorem dX7_readFact_51 : decode cX7_readFact 51 = .ok (.iload_n 2, 1) := by decide +kernel
theorem dX7_readFact_52 : decode cX7_readFact 52 = .ok (.iload_n 3, 1) := by decide +kernel
theorem dX7_readFact_53 : decode cX7_readFact 53 = .ok (.invokevirtual 139, 3) := by decide +kernel
theorem dX7_readFact_56 : decode cX7_readFact 56 = .ok (.return_, 1) := by decide +kernel
theorem dX7_readLine_0 : decode cX7_readLine 0 = .ok (.aload_n 0, 1) := by decide +kernel
theorem dX7_readLine_1 : decode cX7_readLine 1 = .ok (.getfield 74, 3) := by decide +kernel
theorem dX7_readLine_4 : decode cX7_readLine 4 = .ok (.iconst 1, 1) := by decide +kernel
theorem dX7_readLine_5 : decode cX7_readLine 5 = .ok (.if_icmp .ne 11, 3) := by decide +kernel
theorem dX7_readLine_8 : decode cX7_readLine 8 = .ok (.aload_n 0, 1) := by decide +kernel
theorem dX7_readLine_9 : decode cX7_readLine 9 = .ok (.iload_n 1, 1) := by decide +kernel
theorem dX7_readLine_10 : decode cX7_readLine 10 = .ok (.invokevirtual 101, 3) := by decide +kernel
theorem dX7_readLine_13 : decode cX7_readLine 13 = .ok (.goto 4, 3) := by decide +kernel
theorem dX7_readLine_16 : decode cX7_readLine 16 = .ok (.iconst (-1), 1) := by decide +kernel
theorem dX7_readLine_17 : decode cX7_readLine 17 = .ok (.istore_n 2, 1) := by decide +kernel
theorem dX7_readLine_18 : decode cX7_readLine 18 = .ok (.iload_n 2, 1) := by decide +kernel
theorem dX7_readLine_19 : decode cX7_readLine 19 = .ok (.iconst (-1), 1) := by decide +kernel
theorem dX7_readLine_20 : decode cX7_readLine 20 = .ok (.if_icmp .ne 8, 3) := by decide +kernel
theorem dX7_readLine_23 : decode cX7_readLine 23 = .ok (.aload_n 0, 1) := by decide +kernel
theorem dX7_readLine_24 : decode cX7_readLine 24 = .ok (.invokevirtual 105, 3) := by decide +kernel
theorem dX7_readLine_27 : decode cX7_readLine 27 = .ok (.return_, 1) := by decide +kernel
theorem dX7_readLine_28 : decode cX7_readLine 28 = .ok (.iload_n 1, 1) := by decide +kernel
theorem dX7_readLine_29 : decode cX7_readLine 29 = .ok (.iconst 1, 1) := by decide +kernel
theorem dX7_readLine_30 : decode cX7_readLine 30 = .ok (.if_icmp .ne 11, 3) := by decide +kernel
theorem dX7_readLine_33 : decode cX7_readLine 33 = .ok (.aload_n 0, 1) := by decide +kernel
theorem dX7_readLine_34 : decode cX7_readLine 34 = .ok (.iload_n 2, 1) := by decide +kernel
theorem dX7_readLine_35 : decode cX7_readLine 35 = .ok (.invokevirtual 108, 3) := by decide +kernel
theorem dX7_readLine_38 : decode cX7_readLine 38 = .ok (.goto 32, 3) := by decide +kernel
theorem dX7_readLine_41 : decode cX7_readLine 41 = .ok (.iload_n 1, 1) := by decide +kernel
theorem dX7_readLine_42 : decode cX7_readLine 42 = .ok (.iconst 2, 1) := by decide +kernel
theorem dX7_readLine_43 : decode cX7_readLine 43 = .ok (.if_icmp .ne 11, 3) := by decide +kernel
theorem dX7_readLine_46 : decode cX7_readLine 46 = .ok (.aload_n 0, 1) := by decide +kernel
theorem dX7_readLine_47 : decode cX7_readLine 47 = .ok (.iload_n 2, 1) := by decide +kernel
theorem dX7_readLine_48 : decode cX7_readLine 48 = .ok (.invokevirtual 111, 3) := by decide +kernel
theorem dX7_readLine_51 : decode cX7_readLine 51 = .ok (.goto 19, 3) := by decide +kernel
theorem dX7_readLine_54 : decode cX7_readLine 54 = .ok (.iload_n 2, 1) := by decide +kernel
theorem dX7_readLine_55 : decode cX7_readLine 55 = .ok (.ifCond .ne 10, 3) := by decide +kernel
theorem dX7_readLine_58 : decode cX7_readLine 58 = .ok (.aload_n 0, 1) := by decide +kernel
theorem dX7_readLine_59 : decode cX7_readLine 59 = .ok (.invokevirtual 114, 3) := by decide +kernel
theorem dX7_readLine_62 : decode cX7_readLine 62 = .ok (.goto 8, 3) := by decide +kernel
theorem dX7_readLine_65 : decode cX7_readLine 65 = .ok (.aload_n 0, 1) := by decide +kernel
theorem dX7_readLine_66 : decode cX7_readLine 66 = .ok (.iload_n 2, 1) := by decide +kernel
theorem dX7_readLine_67 : decode cX7_readLine 67 = .ok (.invokevirtual 117, 3) := by decide +kernel
theorem dX7_readLine_70 : decode cX7_readLine 70 = .ok (.aload_n 0, 1) := by decide +kernel
theorem dX7_readLine_71 : decode cX7_readLine 71 = .ok (.getfield 74, 3) := by decide +kernel
theorem dX7_readLine_74 : decode cX7_readLine 74 = .ok (.iconst 3, 1) := by decide +kernel
theorem dX7_readLine_75 : decode cX7_readLine 75 = .ok (.if_icmp .ne 10, 3) := by decide +kernel
theorem dX7_readLine_78 : decode cX7_readLine 78 = .ok (.aload_n 0, 1) := by decide +kernel
theorem dX7_readLine_79 : decode cX7_readLine 79 = .ok (.invokevirtual 71, 3) := by decide +kernel
theorem dX7_readLine_82 : decode cX7_readLine 82 = .ok (.goto 7, 3) := by decide +kernel
theorem dX7_readLine_85 : decode cX7_readLine 85 = .ok (.aload_n 0, 1) := by decide +kernel
theorem dX7_readLine_86 : decode cX7_readLine 86 = .ok (.invokevirtual 105, 3) := by decide +kernel
theorem dX7_readLine_89 : decode cX7_readLine 89 = .ok (.return_, 1) := by decide +kernel
theorem dX7_lookAtWhole_0 : decode cX7_lookAtWhole 0 = .ok (.aload_n 0, 1) := by decide +kernel
theorem dX7_lookAtWhole_1 : decode cX7_lookAtWhole 1 = .ok (.getfield 59, 3) := by decide +kernel
theorem dX7_lookAtWhole_4 : decode cX7_lookAtWhole 4 = .ok (.aload_n 0, 1) := by decide +kernel
theorem dX7_lookAtWhole_5 : decode cX7_lookAtWhole 5 = .ok (.getfield 12, 3) := by decide +kernel
theorem dX7_lookAtWhole_8 : decode cX7_lookAtWhole 8 = .ok (.getfield 87, 3) := by decide +kernel
theorem dX7_lookAtWhole_11 : decode cX7_lookAtWhole 11 = .ok (.ishr, 1) := by decide +kernel
theorem dX7_lookAtWhole_12 : decode cX7_lookAtWhole 12 = .ok (.ifCond .eq 12, 3) := by decide +kernel
theorem dX7_lookAtWhole_15 : decode cX7_lookAtWhole 15 = .ok (.aload_n 0, 1) := by decide +kernel
theorem dX7_lookAtWhole_16 : decode cX7_lookAtWhole 16 = .ok (.iconst 4, 1) := by decide +kernel
theorem dX7_lookAtWhole_17 : decode cX7_lookAtWhole 17 = .ok (.aload_n 0, 1) := by decide +kernel
theorem dX7_lookAtWhole_18 : decode cX7_lookAtWhole 18 = .ok (.getfield 42, 3) := by decide +kernel
theorem dX7_lookAtWhole_21 : decode cX7_lookAtWhole 21 = .ok (.invokevirtual 90, 3) := by decide +kernel
theorem dX7_lookAtWhole_24 : decode cX7_lookAtWhole 24 = .ok (.iconst 0, 1) := by decide +kernel
theorem dX7_lookAtWhole_25 : decode cX7_lookAtWhole 25 = .ok (.istore_n 1, 1) := by decide +kernel
theorem dX7_lookAtWhole_26 : decode cX7_lookAtWhole 26 = .ok (.iload_n 1, 1) := by decide +kernel
theorem dX7_lookAtWhole_27 : decode cX7_lookAtWhole 27 = .ok (.bipush 7, 2) := by decide +kernel
theorem dX7_lookAtWhole_29 : decode cX7_lookAtWhole 29 = .ok (.if_icmp .ge 51, 3) := by decide +kernel
theorem dX7_lookAtWhole_32 : decode cX7_lookAtWhole 32 = .ok (.aload_n 0, 1) := by decide +kernel
theorem dX7_lookAtWhole_33 : decode cX7_lookAtWhole 33 = .ok (.getfield 12, 3) := by decide +kernel
theorem dX7_lookAtWhole_36 : decode cX7_lookAtWhole 36 = .ok (.getfield 94, 3) := by decide +kernel
theorem dX7_lookAtWhole_39 : decode cX7_lookAtWhole 39 = .ok (.iload_n 1, 1) := by decide +kernel
theorem dX7_lookAtWhole_40 : decode cX7_lookAtWhole 40 = .ok (.iaload, 1) := by decide +kernel
theorem dX7_lookAtWhole_41 : decode cX7_lookAtWhole 41 = .ok (.ifCond .eq 33, 3) := by decide +kernel
theorem dX7_lookAtWhole_44 : decode cX7_lookAtWhole 44 = .ok (.aload_n 0, 1) := by decide +kernel
theorem dX7_lookAtWhole_45 : decode cX7_lookAtWhole 45 = .ok (.getfield 12, 3) := by decide +kernel
theorem dX7_lookAtWhole_48 : decode cX7_lookAtWhole 48 = .ok (.getfield 94, 3) := by decide +kernel
theorem dX7_lookAtWhole_51 : decode cX7_lookAtWhole 51 = .ok (.iload_n 1, 1) := by decide +kernel
theorem dX7_lookAtWhole_52 : decode cX7_lookAtWhole 52 = .ok (.iaload, 1) := by decide +kernel
theorem dX7_lookAtWhole_53 : decode cX7_lookAtWhole 53 = .ok (.aload_n 0, 1) := by decide +kernel
theorem dX7_lookAtWhole_54 : decode cX7_lookAtWhole 54 = .ok (.getfield 12, 3) := by decide +kernel
theorem dX7_lookAtWhole_57 : decode cX7_lookAtWhole 57 = .ok (.getfield 98, 3) := by decide +kernel
theorem dX7_lookAtWhole_60 : decode cX7_lookAtWhole 60 = .ok (.iload_n 1, 1) := by decide +kernel
theorem dX7_lookAtWhole_61 : decode cX7_lookAtWhole 61 = .ok (.iaload, 1) := by decide +kernel
theorem dX7_lookAtWhole_62 : decode cX7_lookAtWhole 62 = .ok (.if_icmp .lt 12, 3) := by decide +kernel
theorem dX7_lookAtWhole_65 : decode cX7_lookAtWhole 65 = .ok (.aload_n 0, 1) := by decide +kernel
theorem dX7_lookAtWhole_66 : decode cX7_lookAtWhole 66 = .ok (.iconst 5, 1) := by decide +kernel
theorem dX7_lookAtWhole_67 : decode cX7_lookAtWhole 67 = .ok (.aload_n 0, 1) := by decide +kernel
theorem dX7_lookAtWhole_68 : decode cX7_lookAtWhole 68 = .ok (.getfield 42, 3) := by decide +kernel
theorem dX7_lookAtWhole_71 : decode cX7_lookAtWhole 71 = .ok (.invokevirtual 90, 3) := by decide +kernel
theorem dX7_lookAtWhole_74 : decode cX7_lookAtWhole 74 = .ok (.iinc 1 1, 3) := by decide +kernel
theorem dX7_lookAtWhole_77 : decode cX7_lookAtWhole 77 = .ok (.goto (-51), 3) := by decide +kernel
theorem dX7_lookAtWhole_80 : decode cX7_lookAtWhole 80 = .ok (.return_, 1) := by decide +kernel
theorem dX7_read_0 : decode cX7_read 0 = .ok (.aload_n 0, 1) := by decide +kernel
theorem dX7_read_1 : decode cX7_read 1 = .ok (.aload_n 1, 1) := by decide +kernel
theorem dX7_read_2 : decode cX7_read 2 = .ok (.putfield 32, 3) := by decide +kernel
theorem dX7_read_5 : decode cX7_read 5 = .ok (.aload_n 0, 1) := by decide +kernel
theorem dX7_read_6 : decode cX7_read 6 = .ok (.iload_n 2, 1) := by decide +kernel
theorem dX7_read_7 : decode cX7_read 7 = .ok (.aload_n 1, 1) := by decide +kernel
theorem dX7_read_8 : decode cX7_read 8 = .ok (.arraylength, 1) := by decide +kernel
theorem dX7_read_9 : decode cX7_read 9 = .ok (.invokestatic 36, 3) := by decide +kernel
theorem dX7_read_12 : decode cX7_read 12 = .ok (.putfield 42, 3) := by decide +kernel
theorem dX7_read_15 : decode cX7_read 15 = .ok (.aload_n 0, 1) := by decide +kernel
theorem dX7_read_16 : decode cX7_read 16 = .ok (.iconst 0, 1) := by decide +kernel
theorem dX7_read_17 : decode cX7_read 17 = .ok (.putfield 46, 3) := by decide +kernel
theorem dX7_read_20 : decode cX7_read 20 = .ok (.aload_n 0, 1) := by decide +kernel
theorem dX7_read_21 : decode cX7_read 21 = .ok (.iconst 0, 1) := by decide +kernel
theorem dX7_read_22 : decode cX7_read 22 = .ok (.putfield 49, 3) := by decide +kernel
theorem dX7_read_25 : decode cX7_read 25 = .ok (.aload_n 0, 1) := by decide +kernel
theorem dX7_read_26 : decode cX7_read 26 = .ok (.iconst (-1), 1) := by decide +kernel
theorem dX7_read_27 : decode cX7_read 27 = .ok (.putfield 52, 3) := by decide +kernel
theorem dX7_read_30 : decode cX7_read 30 = .ok (.aload_n 0, 1) := by decide +kernel
theorem dX7_read_31 : decode cX7_read 31 = .ok (.iconst 0, 1) := by decide +kernel
theorem dX7_read_32 : decode cX7_read 32 = .ok (.putfield 55, 3) := by decide +kernel
theorem dX7_read_35 : decode cX7_read 35 = .ok (.aload_n 0, 1) := by decide +kernel
theorem dX7_read_36 : decode cX7_read 36 = .ok (.iconst 0, 1) := by decide +kernel
theorem dX7_read_37 : decode cX7_read 37 = .ok (.putfield 59, 3) := by decide +kernel
theorem dX7_read_40 : decode cX7_read 40 = .ok (.aload_n 0, 1) := by decide +kernel
theorem dX7_read_41 : decode cX7_read 41 = .ok (.getfield 12, 3) := by decide +kernel
theorem dX7_read_44 : decode cX7_read 44 = .ok (.invokevirtual 62, 3) := by decide +kernel
theorem dX7_read_47 : decode cX7_read 47 = .ok (.aload_n 0, 1) := by decide +kernel
theorem dX7_read_48 : decode cX7_read 48 = .ok (.getfield 21, 3) := by decide +kernel
theorem dX7_read_51 : decode cX7_read 51 = .ok (.iconst 0, 1) := by decide +kernel
theorem dX7_read_52 : decode cX7_read 52 = .ok (.putfield 65, 3) := by decide +kernel
theorem dX7_read_55 : decode cX7_read 55 = .ok (.aload_n 0, 1) := by decide +kernel
theorem dX7_read_56 : decode cX7_read 56 = .ok (.getfield 28, 3) := by decide +kernel
theorem dX7_read_59 : decode cX7_read 59 = .ok (.iconst 0, 1) := by decide +kernel
theorem dX7_read_60 : decode cX7_read 60 = .ok (.putfield 68, 3) := by decide +kernel
theorem dX7_read_63 : decode cX7_read 63 = .ok (.aload_n 0, 1) := by decide +kernel
theorem dX7_read_64 : decode cX7_read 64 = .ok (.invokevirtual 71, 3) := by decide +kernel
theorem dX7_read_67 : decode cX7_read 67 = .ok (.iconst 0, 1) := by decide +kernel
theorem dX7_read_68 : decode cX7_read 68 = .ok (.istore 4, 2) := by decide +kernel
theorem dX7_read_70 : decode cX7_read 70 = .ok (.iload 4, 2) := by decide +kernel
theorem dX7_read_72 : decode cX7_read 72 = .ok (.sipush 600, 3) := by decide +kernel
theorem dX7_read_75 : decode cX7_read 75 = .ok (.if_icmp .gt 28, 3) := by decide +kernel
theorem dX7_read_78 : decode cX7_read 78 = .ok (.aload_n 0, 1) := by decide +kernel
theorem dX7_read_79 : decode cX7_read 79 = .ok (.getfield 55, 3) := by decide +kernel
theorem dX7_read_82 : decode cX7_read 82 = .ok (.ifCond .ne 21, 3) := by decide +kernel
theorem dX7_read_85 : decode cX7_read 85 = .ok (.aload_n 0, 1) := by decide +kernel
theorem dX7_read_86 : decode cX7_read 86 = .ok (.getfield 74, 3) := by decide +kernel
theorem dX7_read_89 : decode cX7_read 89 = .ok (.ifCond .eq 14, 3) := by decide +kernel
theorem dX7_read_92 : decode cX7_read 92 = .ok (.aload_n 0, 1) := by decide +kernel
theorem dX7_read_93 : decode cX7_read 93 = .ok (.iload_n 3, 1) := by decide +kernel
theorem dX7_read_94 : decode cX7_read 94 = .ok (.invokevirtual 77, 3) := by decide +kernel
theorem dX7_read_97 : decode cX7_read 97 = .ok (.iinc 4 1, 3) := by decide +kernel
theorem dX7_read_100 : decode cX7_read 100 = .ok (.goto (-30), 3) := by decide +kernel
theorem dX7_read_103 : decode cX7_read 103 = .ok (.iload_n 3, 1) := by decide +kernel
theorem dX7_read_104 : decode cX7_read 104 = .ok (.ifCond .ne 7, 3) := by decide +kernel
theorem dX7_read_107 : decode cX7_read 107 = .ok (.aload_n 0, 1) := by decide +kernel
theorem dX7_read_108 : decode cX7_read 108 = .ok (.invokevirtual 81, 3) := by decide +kernel
theorem dX7_read_111 : decode cX7_read 111 = .ok (.return_, 1) := by decide +kernel


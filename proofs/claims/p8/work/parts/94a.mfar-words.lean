theorem m_co_X12_laysFar : Cond.code yX12_laysFar cX12_laysFar 7 none ∈ zT := zmem1 zsub_7 120 (by decide +kernel) (by decide +kernel)
theorem m_ml_RX12_258 : Cond.methodLink RX12 258 yX12_laysFar ∈ zT := zmem1 zsub_7 117 (by decide +kernel) (by decide +kernel)
theorem m_im_X12_laysFar : Cond.instanceMethod yX12_laysFar ∈ zT := zmem1 zsub_7 119 (by decide +kernel) (by decide +kernel)
theorem m_se_X12_laysFar : Cond.selects RX12 yX12_laysFar yX12_laysFar ∈ zT := zmem 78 (by decide +kernel) (by decide +kernel)
theorem m_co_X12_reachOf : Cond.code yX12_reachOf cX12_reachOf 4 (some .int) ∈ zT := zmem1 zsub_7 132 (by decide +kernel) (by decide +kernel)
theorem m_ml_RX12_261 : Cond.methodLink RX12 261 yX12_reachOf ∈ zT := zmem1 zsub_7 129 (by decide +kernel) (by decide +kernel)
theorem m_im_X12_reachOf : Cond.instanceMethod yX12_reachOf ∈ zT := zmem1 zsub_7 131 (by decide +kernel) (by decide +kernel)
theorem m_se_X12_reachOf : Cond.selects RX12 yX12_reachOf yX12_reachOf ∈ zT := zmem 80 (by decide +kernel) (by decide +kernel)
theorem m_co_X12_classOf : Cond.code yX12_classOf cX12_classOf 4 (some .int) ∈ zT := zmem1 zsub_7 144 (by decide +kernel) (by decide +kernel)
theorem m_ml_RX12_264 : Cond.methodLink RX12 264 yX12_classOf ∈ zT := zmem1 zsub_7 141 (by decide +kernel) (by decide +kernel)
theorem m_im_X12_classOf : Cond.instanceMethod yX12_classOf ∈ zT := zmem1 zsub_7 143 (by decide +kernel) (by decide +kernel)
theorem m_se_X12_classOf : Cond.selects RX12 yX12_classOf yX12_classOf ∈ zT := zmem 82 (by decide +kernel) (by decide +kernel)
theorem m_co_X12_leadHere : Cond.code yX12_leadHere cX12_leadHere 6 (some .int) ∈ zT := zmem1 zsub_7 152 (by decide +kernel) (by decide +kernel)
theorem m_ml_RX12_267 : Cond.methodLink RX12 267 yX12_leadHere ∈ zT := zmem1 zsub_7 149 (by decide +kernel) (by decide +kernel)
theorem m_im_X12_leadHere : Cond.instanceMethod yX12_leadHere ∈ zT := zmem1 zsub_7 151 (by decide +kernel) (by decide +kernel)
theorem m_se_X12_leadHere : Cond.selects RX12 yX12_leadHere yX12_leadHere ∈ zT := zmem 84 (by decide +kernel) (by decide +kernel)
theorem m_co_X12_classesOf : Cond.code yX12_classesOf cX12_classesOf 5 (some .int) ∈ zT := zmem1 zsub_7 140 (by decide +kernel) (by decide +kernel)
theorem m_ml_RX12_271 : Cond.methodLink RX12 271 yX12_classesOf ∈ zT := zmem1 zsub_7 137 (by decide +kernel) (by decide +kernel)
theorem m_im_X12_classesOf : Cond.instanceMethod yX12_classesOf ∈ zT := zmem1 zsub_7 139 (by decide +kernel) (by decide +kernel)
theorem m_se_X12_classesOf : Cond.selects RX12 yX12_classesOf yX12_classesOf ∈ zT := zmem 81 (by decide +kernel) (by decide +kernel)
theorem m_co_X12_crossingsOf : Cond.code yX12_crossingsOf cX12_crossingsOf 5 (some .int) ∈ zT := zmem1 zsub_7 148 (by decide +kernel) (by decide +kernel)
theorem m_ml_RX12_275 : Cond.methodLink RX12 275 yX12_crossingsOf ∈ zT := zmem1 zsub_7 145 (by decide +kernel) (by decide +kernel)
theorem m_im_X12_crossingsOf : Cond.instanceMethod yX12_crossingsOf ∈ zT := zmem1 zsub_7 147 (by decide +kernel) (by decide +kernel)
theorem m_se_X12_crossingsOf : Cond.selects RX12 yX12_crossingsOf yX12_crossingsOf ∈ zT := zmem 83 (by decide +kernel) (by decide +kernel)
theorem m_co_X12_loops : Cond.code yX12_loops cX12_loops 6 (some .int) ∈ zT := zmem1 zsub_7 156 (by decide +kernel) (by decide +kernel)
theorem m_ml_RX12_278 : Cond.methodLink RX12 278 yX12_loops ∈ zT := zmem1 zsub_7 153 (by decide +kernel) (by decide +kernel)
theorem m_im_X12_loops : Cond.instanceMethod yX12_loops ∈ zT := zmem1 zsub_7 155 (by decide +kernel) (by decide +kernel)
theorem m_se_X12_loops : Cond.selects RX12 yX12_loops yX12_loops ∈ zT := zmem 85 (by decide +kernel) (by decide +kernel)
theorem m_co_X12_busyOf : Cond.code yX12_busyOf cX12_busyOf 3 (some .int) ∈ zT := zmem1 zsub_7 160 (by decide +kernel) (by decide +kernel)
theorem m_ml_RX12_281 : Cond.methodLink RX12 281 yX12_busyOf ∈ zT := zmem1 zsub_7 157 (by decide +kernel) (by decide +kernel)
theorem m_im_X12_busyOf : Cond.instanceMethod yX12_busyOf ∈ zT := zmem1 zsub_7 159 (by decide +kernel) (by decide +kernel)
theorem m_se_X12_busyOf : Cond.selects RX12 yX12_busyOf yX12_busyOf ∈ zT := zmem 86 (by decide +kernel) (by decide +kernel)
theorem kV_RX12_258 {R : Room} {s : State} {args : Array Value} {d mc ms : Nat} (hts : ∀ w ∈ zT, w.before args s = true) (h1 : d + 1 ≤ R.frames) (h2 : 8 + (7 + 11) + 40 * d ≤ R.locals) : CallW R s args RX12 RX12 258 yX12_laysFar cX12_laysFar 7 none (zW yX12_laysFar cX12_laysFar 7 none) (zR d mc ms) mc ms 0 := z_cwV hts m_co_X12_laysFar m_ml_RX12_258 m_im_X12_laysFar m_se_X12_laysFar m_ii_RX12 (by decide +kernel) h1 h2
theorem kV_RX12_261 {R : Room} {s : State} {args : Array Value} {d mc ms : Nat} (hts : ∀ w ∈ zT, w.before args s = true) (h1 : d + 1 ≤ R.frames) (h2 : 8 + (4 + 11) + 40 * d ≤ R.locals) : CallW R s args RX12 RX12 261 yX12_reachOf cX12_reachOf 4 (some .int) (zW yX12_reachOf cX12_reachOf 4 (some .int)) (zR d mc ms) mc ms 1 := z_cwV hts m_co_X12_reachOf m_ml_RX12_261 m_im_X12_reachOf m_se_X12_reachOf m_ii_RX12 (by decide +kernel) h1 h2
theorem kV_RX12_264 {R : Room} {s : State} {args : Array Value} {d mc ms : Nat} (hts : ∀ w ∈ zT, w.before args s = true) (h1 : d + 1 ≤ R.frames) (h2 : 8 + (4 + 11) + 40 * d ≤ R.locals) : CallW R s args RX12 RX12 264 yX12_classOf cX12_classOf 4 (some .int) (zW yX12_classOf cX12_classOf 4 (some .int)) (zR d mc ms) mc ms 1 := z_cwV hts m_co_X12_classOf m_ml_RX12_264 m_im_X12_classOf m_se_X12_classOf m_ii_RX12 (by decide +kernel) h1 h2
theorem kV_RX12_267 {R : Room} {s : State} {args : Array Value} {d mc ms : Nat} (hts : ∀ w ∈ zT, w.before args s = true) (h1 : d + 1 ≤ R.frames) (h2 : 8 + (6 + 11) + 40 * d ≤ R.locals) : CallW R s args RX12 RX12 267 yX12_leadHere cX12_leadHere 6 (some .int) (zW yX12_leadHere cX12_leadHere 6 (some .int)) (zR d mc ms) mc ms 2 := z_cwV hts m_co_X12_leadHere m_ml_RX12_267 m_im_X12_leadHere m_se_X12_leadHere m_ii_RX12 (by decide +kernel) h1 h2
theorem kV_RX12_271 {R : Room} {s : State} {args : Array Value} {d mc ms : Nat} (hts : ∀ w ∈ zT, w.before args s = true) (h1 : d + 1 ≤ R.frames) (h2 : 8 + (5 + 11) + 40 * d ≤ R.locals) : CallW R s args RX12 RX12 271 yX12_classesOf cX12_classesOf 5 (some .int) (zW yX12_classesOf cX12_classesOf 5 (some .int)) (zR d mc ms) mc ms 1 := z_cwV hts m_co_X12_classesOf m_ml_RX12_271 m_im_X12_classesOf m_se_X12_classesOf m_ii_RX12 (by decide +kernel) h1 h2
theorem kV_RX12_275 {R : Room} {s : State} {args : Array Value} {d mc ms : Nat} (hts : ∀ w ∈ zT, w.before args s = true) (h1 : d + 1 ≤ R.frames) (h2 : 8 + (5 + 11) + 40 * d ≤ R.locals) : CallW R s args RX12 RX12 275 yX12_crossingsOf cX12_crossingsOf 5 (some .int) (zW yX12_crossingsOf cX12_crossingsOf 5 (some .int)) (zR d mc ms) mc ms 1 := z_cwV hts m_co_X12_crossingsOf m_ml_RX12_275 m_im_X12_crossingsOf m_se_X12_crossingsOf m_ii_RX12 (by decide +kernel) h1 h2
theorem kV_RX12_278 {R : Room} {s : State} {args : Array Value} {d mc ms : Nat} (hts : ∀ w ∈ zT, w.before args s = true) (h1 : d + 1 ≤ R.frames) (h2 : 8 + (6 + 11) + 40 * d ≤ R.locals) : CallW R s args RX12 RX12 278 yX12_loops cX12_loops 6 (some .int) (zW yX12_loops cX12_loops 6 (some .int)) (zR d mc ms) mc ms 1 := z_cwV hts m_co_X12_loops m_ml_RX12_278 m_im_X12_loops m_se_X12_loops m_ii_RX12 (by decide +kernel) h1 h2
theorem kV_RX12_281 {R : Room} {s : State} {args : Array Value} {d mc ms : Nat} (hts : ∀ w ∈ zT, w.before args s = true) (h1 : d + 1 ≤ R.frames) (h2 : 8 + (3 + 11) + 40 * d ≤ R.locals) : CallW R s args RX12 RX12 281 yX12_busyOf cX12_busyOf 3 (some .int) (zW yX12_busyOf cX12_busyOf 3 (some .int)) (zR d mc ms) mc ms 0 := z_cwV hts m_co_X12_busyOf m_ml_RX12_281 m_im_X12_busyOf m_se_X12_busyOf m_ii_RX12 (by decide +kernel) h1 h2
theorem dX12_laysFar_0 : decode cX12_laysFar 0 = .ok (.iconst 0, 1) := by decide +kernel
theorem dX12_laysFar_1 : decode cX12_laysFar 1 = .ok (.istore_n 1, 1) := by decide +kernel
theorem dX12_laysFar_2 : decode cX12_laysFar 2 = .ok (.iload_n 1, 1) := by decide +kernel
theorem dX12_laysFar_3 : decode cX12_laysFar 3 = .ok (.bipush 7, 2) := by decide +kernel
theorem dX12_laysFar_5 : decode cX12_laysFar 5 = .ok (.if_icmp .ge 189, 3) := by decide +kernel
theorem dX12_laysFar_8 : decode cX12_laysFar 8 = .ok (.iconst 0, 1) := by decide +kernel
theorem dX12_laysFar_9 : decode cX12_laysFar 9 = .ok (.istore_n 2, 1) := by decide +kernel
theorem dX12_laysFar_10 : decode cX12_laysFar 10 = .ok (.iload_n 2, 1) := by decide +kernel
theorem dX12_laysFar_11 : decode cX12_laysFar 11 = .ok (.bipush 7, 2) := by decide +kernel
theorem dX12_laysFar_13 : decode cX12_laysFar 13 = .ok (.if_icmp .ge 30, 3) := by decide +kernel
theorem dX12_laysFar_16 : decode cX12_laysFar 16 = .ok (.aload_n 0, 1) := by decide +kernel
theorem dX12_laysFar_17 : decode cX12_laysFar 17 = .ok (.getfield 41, 3) := by decide +kernel
theorem dX12_laysFar_20 : decode cX12_laysFar 20 = .ok (.bipush 7, 2) := by decide +kernel
theorem dX12_laysFar_22 : decode cX12_laysFar 22 = .ok (.iload_n 1, 1) := by decide +kernel
theorem dX12_laysFar_23 : decode cX12_laysFar 23 = .ok (.imul, 1) := by decide +kernel
theorem dX12_laysFar_24 : decode cX12_laysFar 24 = .ok (.iload_n 2, 1) := by decide +kernel
theorem dX12_laysFar_25 : decode cX12_laysFar 25 = .ok (.iadd, 1) := by decide +kernel
theorem dX12_laysFar_26 : decode cX12_laysFar 26 = .ok (.iload_n 1, 1) := by decide +kernel
theorem dX12_laysFar_27 : decode cX12_laysFar 27 = .ok (.iload_n 2, 1) := by decide +kernel
theorem dX12_laysFar_28 : decode cX12_laysFar 28 = .ok (.if_icmp .ne 7, 3) := by decide +kernel
theorem dX12_laysFar_31 : decode cX12_laysFar 31 = .ok (.iconst 0, 1) := by decide +kernel
theorem dX12_laysFar_32 : decode cX12_laysFar 32 = .ok (.goto 4, 3) := by decide +kernel
theorem dX12_laysFar_35 : decode cX12_laysFar 35 = .ok (.iconst (-1), 1) := by decide +kernel
theorem dX12_laysFar_36 : decode cX12_laysFar 36 = .ok (.iastore, 1) := by decide +kernel
theorem dX12_laysFar_37 : decode cX12_laysFar 37 = .ok (.iinc 2 1, 3) := by decide +kernel
theorem dX12_laysFar_40 : decode cX12_laysFar 40 = .ok (.goto (-30), 3) := by decide +kernel
theorem dX12_laysFar_43 : decode cX12_laysFar 43 = .ok (.iconst 1, 1) := by decide +kernel
theorem dX12_laysFar_44 : decode cX12_laysFar 44 = .ok (.iload_n 1, 1) := by decide +kernel
theorem dX12_laysFar_45 : decode cX12_laysFar 45 = .ok (.ishl, 1) := by decide +kernel
theorem dX12_laysFar_46 : decode cX12_laysFar 46 = .ok (.istore_n 2, 1) := by decide +kernel
theorem dX12_laysFar_47 : decode cX12_laysFar 47 = .ok (.iconst 1, 1) := by decide +kernel
theorem dX12_laysFar_48 : decode cX12_laysFar 48 = .ok (.istore_n 3, 1) := by decide +kernel
theorem dX12_laysFar_49 : decode cX12_laysFar 49 = .ok (.iload_n 3, 1) := by decide +kernel
theorem dX12_laysFar_50 : decode cX12_laysFar 50 = .ok (.bipush 7, 2) := by decide +kernel
theorem dX12_laysFar_52 : decode cX12_laysFar 52 = .ok (.if_icmp .ge 136, 3) := by decide +kernel
theorem dX12_laysFar_55 : decode cX12_laysFar 55 = .ok (.iload_n 1, 1) := by decide +kernel
theorem dX12_laysFar_56 : decode cX12_laysFar 56 = .ok (.aload_n 0, 1) := by decide +kernel
theorem dX12_laysFar_57 : decode cX12_laysFar 57 = .ok (.getfield 169, 3) := by decide +kernel
theorem dX12_laysFar_60 : decode cX12_laysFar 60 = .ok (.if_icmp .ge 128, 3) := by decide +kernel
theorem dX12_laysFar_63 : decode cX12_laysFar 63 = .ok (.iload_n 2, 1) := by decide +kernel
theorem dX12_laysFar_64 : decode cX12_laysFar 64 = .ok (.istore 4, 2) := by decide +kernel
theorem dX12_laysFar_66 : decode cX12_laysFar 66 = .ok (.iconst 0, 1) := by decide +kernel
theorem dX12_laysFar_67 : decode cX12_laysFar 67 = .ok (.istore 5, 2) := by decide +kernel
theorem dX12_laysFar_69 : decode cX12_laysFar 69 = .ok (.iload 5, 2) := by decide +kernel
theorem dX12_laysFar_71 : decode cX12_laysFar 71 = .ok (.aload_n 0, 1) := by decide +kernel
theorem dX12_laysFar_72 : decode cX12_laysFar 72 = .ok (.getfield 169, 3) := by decide +kernel
theorem dX12_laysFar_75 : decode cX12_laysFar 75 = .ok (.if_icmp .ge 58, 3) := by decide +kernel
theorem dX12_laysFar_78 : decode cX12_laysFar 78 = .ok (.iconst 0, 1) := by decide +kernel
theorem dX12_laysFar_79 : decode cX12_laysFar 79 = .ok (.istore 6, 2) := by decide +kernel
theorem dX12_laysFar_81 : decode cX12_laysFar 81 = .ok (.iload 6, 2) := by decide +kernel
theorem dX12_laysFar_83 : decode cX12_laysFar 83 = .ok (.aload_n 0, 1) := by decide +kernel
theorem dX12_laysFar_84 : decode cX12_laysFar 84 = .ok (.iload 5, 2) := by decide +kernel
theorem dX12_laysFar_86 : decode cX12_laysFar 86 = .ok (.invokevirtual 255, 3) := by decide +kernel
theorem dX12_laysFar_89 : decode cX12_laysFar 89 = .ok (.if_icmp .ge 38, 3) := by decide +kernel
theorem dX12_laysFar_92 : decode cX12_laysFar 92 = .ok (.iload 4, 2) := by decide +kernel
theorem dX12_laysFar_94 : decode cX12_laysFar 94 = .ok (.iload_n 2, 1) := by decide +kernel
theorem dX12_laysFar_95 : decode cX12_laysFar 95 = .ok (.iload 5, 2) := by decide +kernel
theorem dX12_laysFar_97 : decode cX12_laysFar 97 = .ok (.ishr, 1) := by decide +kernel
theorem dX12_laysFar_98 : decode cX12_laysFar 98 = .ok (.iconst 1, 1) := by decide +kernel
theorem dX12_laysFar_99 : decode cX12_laysFar 99 = .ok (.iand, 1) := by decide +kernel
theorem dX12_laysFar_100 : decode cX12_laysFar 100 = .ok (.iconst 1, 1) := by decide +kernel
theorem dX12_laysFar_101 : decode cX12_laysFar 101 = .ok (.if_icmp .ne 16, 3) := by decide +kernel
theorem dX12_laysFar_104 : decode cX12_laysFar 104 = .ok (.iconst 1, 1) := by decide +kernel
theorem dX12_laysFar_105 : decode cX12_laysFar 105 = .ok (.aload_n 0, 1) := by decide +kernel
theorem dX12_laysFar_106 : decode cX12_laysFar 106 = .ok (.iload 5, 2) := by decide +kernel
theorem dX12_laysFar_108 : decode cX12_laysFar 108 = .ok (.iload 6, 2) := by decide +kernel
theorem dX12_laysFar_110 : decode cX12_laysFar 110 = .ok (.invokevirtual 190, 3) := by decide +kernel
theorem dX12_laysFar_113 : decode cX12_laysFar 113 = .ok (.ishl, 1) := by decide +kernel
theorem dX12_laysFar_114 : decode cX12_laysFar 114 = .ok (.goto 4, 3) := by decide +kernel
theorem dX12_laysFar_117 : decode cX12_laysFar 117 = .ok (.iconst 0, 1) := by decide +kernel
theorem dX12_laysFar_118 : decode cX12_laysFar 118 = .ok (.ior, 1) := by decide +kernel
theorem dX12_laysFar_119 : decode cX12_laysFar 119 = .ok (.istore 4, 2) := by decide +kernel
theorem dX12_laysFar_121 : decode cX12_laysFar 121 = .ok (.iinc 6 1, 3) := by decide +kernel
theorem dX12_laysFar_124 : decode cX12_laysFar 124 = .ok (.goto (-43), 3) := by decide +kernel
theorem dX12_laysFar_127 : decode cX12_laysFar 127 = .ok (.iinc 5 1, 3) := by decide +kernel
theorem dX12_laysFar_130 : decode cX12_laysFar 130 = .ok (.goto (-61), 3) := by decide +kernel
theorem dX12_laysFar_133 : decode cX12_laysFar 133 = .ok (.iconst 0, 1) := by decide +kernel
theorem dX12_laysFar_134 : decode cX12_laysFar 134 = .ok (.istore 5, 2) := by decide +kernel
theorem dX12_laysFar_136 : decode cX12_laysFar 136 = .ok (.iload 5, 2) := by decide +kernel
theorem dX12_laysFar_138 : decode cX12_laysFar 138 = .ok (.aload_n 0, 1) := by decide +kernel
theorem dX12_laysFar_139 : decode cX12_laysFar 139 = .ok (.getfield 169, 3) := by decide +kernel
theorem dX12_laysFar_142 : decode cX12_laysFar 142 = .ok (.if_icmp .ge 37, 3) := by decide +kernel
theorem dX12_laysFar_145 : decode cX12_laysFar 145 = .ok (.iload 4, 2) := by decide +kernel
theorem dX12_laysFar_147 : decode cX12_laysFar 147 = .ok (.iload_n 2, 1) := by decide +kernel
theorem dX12_laysFar_148 : decode cX12_laysFar 148 = .ok (.iconst (-1), 1) := by decide +kernel
theorem dX12_laysFar_149 : decode cX12_laysFar 149 = .ok (.ixor, 1) := by decide +kernel
theorem dX12_laysFar_150 : decode cX12_laysFar 150 = .ok (.iand, 1) := by decide +kernel
theorem dX12_laysFar_151 : decode cX12_laysFar 151 = .ok (.iload 5, 2) := by decide +kernel
theorem dX12_laysFar_153 : decode cX12_laysFar 153 = .ok (.ishr, 1) := by decide +kernel
theorem dX12_laysFar_154 : decode cX12_laysFar 154 = .ok (.iconst 1, 1) := by decide +kernel
theorem dX12_laysFar_155 : decode cX12_laysFar 155 = .ok (.iand, 1) := by decide +kernel
theorem dX12_laysFar_156 : decode cX12_laysFar 156 = .ok (.iconst 1, 1) := by decide +kernel
theorem dX12_laysFar_157 : decode cX12_laysFar 157 = .ok (.if_icmp .ne 16, 3) := by decide +kernel
theorem dX12_laysFar_160 : decode cX12_laysFar 160 = .ok (.aload_n 0, 1) := by decide +kernel
theorem dX12_laysFar_161 : decode cX12_laysFar 161 = .ok (.getfield 41, 3) := by decide +kernel
theorem dX12_laysFar_164 : decode cX12_laysFar 164 = .ok (.bipush 7, 2) := by decide +kernel
theorem dX12_laysFar_166 : decode cX12_laysFar 166 = .ok (.iload_n 1, 1) := by decide +kernel
theorem dX12_laysFar_167 : decode cX12_laysFar 167 = .ok (.imul, 1) := by decide +kernel
theorem dX12_laysFar_168 : decode cX12_laysFar 168 = .ok (.iload 5, 2) := by decide +kernel
theorem dX12_laysFar_170 : decode cX12_laysFar 170 = .ok (.iadd, 1) := by decide +kernel
theorem dX12_laysFar_171 : decode cX12_laysFar 171 = .ok (.iload_n 3, 1) := by decide +kernel
theorem dX12_laysFar_172 : decode cX12_laysFar 172 = .ok (.iastore, 1) := by decide +kernel
theorem dX12_laysFar_173 : decode cX12_laysFar 173 = .ok (.iinc 5 1, 3) := by decide +kernel
theorem dX12_laysFar_176 : decode cX12_laysFar 176 = .ok (.goto (-40), 3) := by decide +kernel
theorem dX12_laysFar_179 : decode cX12_laysFar 179 = .ok (.iload 4, 2) := by decide +kernel
theorem dX12_laysFar_181 : decode cX12_laysFar 181 = .ok (.istore_n 2, 1) := by decide +kernel
theorem dX12_laysFar_182 : decode cX12_laysFar 182 = .ok (.iinc 3 1, 3) := by decide +kernel
theorem dX12_laysFar_185 : decode cX12_laysFar 185 = .ok (.goto (-136), 3) := by decide +kernel
theorem dX12_laysFar_188 : decode cX12_laysFar 188 = .ok (.iinc 1 1, 3) := by decide +kernel
theorem dX12_laysFar_191 : decode cX12_laysFar 191 = .ok (.goto (-189), 3) := by decide +kernel
theorem dX12_laysFar_194 : decode cX12_laysFar 194 = .ok (.return_, 1) := by decide +kernel
theorem dX12_reachOf_0 : decode cX12_reachOf 0 = .ok (.iconst 0, 1) := by decide +kernel
theorem dX12_reachOf_1 : decode cX12_reachOf 1 = .ok (.istore_n 2, 1) := by decide +kernel
theorem dX12_reachOf_2 : decode cX12_reachOf 2 = .ok (.iconst 0, 1) := by decide +kernel
theorem dX12_reachOf_3 : decode cX12_reachOf 3 = .ok (.istore_n 3, 1) := by decide +kernel
theorem dX12_reachOf_4 : decode cX12_reachOf 4 = .ok (.iload_n 3, 1) := by decide +kernel
theorem dX12_reachOf_5 : decode cX12_reachOf 5 = .ok (.aload_n 0, 1) := by decide +kernel
theorem dX12_reachOf_6 : decode cX12_reachOf 6 = .ok (.getfield 169, 3) := by decide +kernel
theorem dX12_reachOf_9 : decode cX12_reachOf 9 = .ok (.if_icmp .ge 34, 3) := by decide +kernel
theorem dX12_reachOf_12 : decode cX12_reachOf 12 = .ok (.iload_n 2, 1) := by decide +kernel
theorem dX12_reachOf_13 : decode cX12_reachOf 13 = .ok (.aload_n 0, 1) := by decide +kernel
theorem dX12_reachOf_14 : decode cX12_reachOf 14 = .ok (.getfield 41, 3) := by decide +kernel
theorem dX12_reachOf_17 : decode cX12_reachOf 17 = .ok (.bipush 7, 2) := by decide +kernel
theorem dX12_reachOf_19 : decode cX12_reachOf 19 = .ok (.iload_n 1, 1) := by decide +kernel
theorem dX12_reachOf_20 : decode cX12_reachOf 20 = .ok (.imul, 1) := by decide +kernel
theorem dX12_reachOf_21 : decode cX12_reachOf 21 = .ok (.iload_n 3, 1) := by decide +kernel
theorem dX12_reachOf_22 : decode cX12_reachOf 22 = .ok (.iadd, 1) := by decide +kernel
theorem dX12_reachOf_23 : decode cX12_reachOf 23 = .ok (.iaload, 1) := by decide +kernel
theorem dX12_reachOf_24 : decode cX12_reachOf 24 = .ok (.iconst (-1), 1) := by decide +kernel
theorem dX12_reachOf_25 : decode cX12_reachOf 25 = .ok (.if_icmp .ne 7, 3) := by decide +kernel
theorem dX12_reachOf_28 : decode cX12_reachOf 28 = .ok (.iconst 0, 1) := by decide +kernel
theorem dX12_reachOf_29 : decode cX12_reachOf 29 = .ok (.goto 6, 3) := by decide +kernel
theorem dX12_reachOf_32 : decode cX12_reachOf 32 = .ok (.iconst 1, 1) := by decide +kernel
theorem dX12_reachOf_33 : decode cX12_reachOf 33 = .ok (.iload_n 3, 1) := by decide +kernel
theorem dX12_reachOf_34 : decode cX12_reachOf 34 = .ok (.ishl, 1) := by decide +kernel
theorem dX12_reachOf_35 : decode cX12_reachOf 35 = .ok (.ior, 1) := by decide +kernel
theorem dX12_reachOf_36 : decode cX12_reachOf 36 = .ok (.istore_n 2, 1) := by decide +kernel
theorem dX12_reachOf_37 : decode cX12_reachOf 37 = .ok (.iinc 3 1, 3) := by decide +kernel
theorem dX12_reachOf_40 : decode cX12_reachOf 40 = .ok (.goto (-36), 3) := by decide +kernel
theorem dX12_reachOf_43 : decode cX12_reachOf 43 = .ok (.iload_n 2, 1) := by decide +kernel
theorem dX12_reachOf_44 : decode cX12_reachOf 44 = .ok (.ireturn, 1) := by decide +kernel
theorem dX12_far_0 : decode cX12_far 0 = .ok (.aload_n 0, 1) := by decide +kernel
theorem dX12_far_1 : decode cX12_far 1 = .ok (.iload_n 1, 1) := by decide +kernel
theorem dX12_far_2 : decode cX12_far 2 = .ok (.invokevirtual 184, 3) := by decide +kernel
theorem dX12_far_5 : decode cX12_far 5 = .ok (.ifCond .eq 19, 3) := by decide +kernel
theorem dX12_far_8 : decode cX12_far 8 = .ok (.aload_n 0, 1) := by decide +kernel
theorem dX12_far_9 : decode cX12_far 9 = .ok (.iload_n 2, 1) := by decide +kernel
theorem dX12_far_10 : decode cX12_far 10 = .ok (.invokevirtual 187, 3) := by decide +kernel
theorem dX12_far_13 : decode cX12_far 13 = .ok (.ifCond .eq 11, 3) := by decide +kernel
theorem dX12_far_16 : decode cX12_far 16 = .ok (.aload_n 0, 1) := by decide +kernel
theorem dX12_far_17 : decode cX12_far 17 = .ok (.iload_n 3, 1) := by decide +kernel
theorem dX12_far_18 : decode cX12_far 18 = .ok (.invokevirtual 187, 3) := by decide +kernel
theorem dX12_far_21 : decode cX12_far 21 = .ok (.ifCond .ne 5, 3) := by decide +kernel
theorem dX12_far_24 : decode cX12_far 24 = .ok (.iconst (-1), 1) := by decide +kernel
theorem dX12_far_25 : decode cX12_far 25 = .ok (.ireturn, 1) := by decide +kernel
theorem dX12_far_26 : decode cX12_far 26 = .ok (.aload_n 0, 1) := by decide +kernel
theorem dX12_far_27 : decode cX12_far 27 = .ok (.invokevirtual 258, 3) := by decide +kernel
theorem dX12_far_30 : decode cX12_far 30 = .ok (.aload_n 0, 1) := by decide +kernel
theorem dX12_far_31 : decode cX12_far 31 = .ok (.getfield 41, 3) := by decide +kernel
theorem dX12_far_34 : decode cX12_far 34 = .ok (.bipush 7, 2) := by decide +kernel
theorem dX12_far_36 : decode cX12_far 36 = .ok (.iload_n 2, 1) := by decide +kernel
theorem dX12_far_37 : decode cX12_far 37 = .ok (.imul, 1) := by decide +kernel
theorem dX12_far_38 : decode cX12_far 38 = .ok (.iload_n 3, 1) := by decide +kernel
theorem dX12_far_39 : decode cX12_far 39 = .ok (.iadd, 1) := by decide +kernel
theorem dX12_far_40 : decode cX12_far 40 = .ok (.iaload, 1) := by decide +kernel
theorem dX12_far_41 : decode cX12_far 41 = .ok (.ireturn, 1) := by decide +kernel
theorem dX12_reach_0 : decode cX12_reach 0 = .ok (.aload_n 0, 1) := by decide +kernel
theorem dX12_reach_1 : decode cX12_reach 1 = .ok (.iload_n 1, 1) := by decide +kernel
theorem dX12_reach_2 : decode cX12_reach 2 = .ok (.invokevirtual 184, 3) := by decide +kernel
theorem dX12_reach_5 : decode cX12_reach 5 = .ok (.ifCond .eq 11, 3) := by decide +kernel
theorem dX12_reach_8 : decode cX12_reach 8 = .ok (.aload_n 0, 1) := by decide +kernel
theorem dX12_reach_9 : decode cX12_reach 9 = .ok (.iload_n 2, 1) := by decide +kernel
theorem dX12_reach_10 : decode cX12_reach 10 = .ok (.invokevirtual 187, 3) := by decide +kernel
theorem dX12_reach_13 : decode cX12_reach 13 = .ok (.ifCond .ne 6, 3) := by decide +kernel
theorem dX12_reach_16 : decode cX12_reach 16 = .ok (.bipush (-2), 2) := by decide +kernel
theorem dX12_reach_18 : decode cX12_reach 18 = .ok (.ireturn, 1) := by decide +kernel
theorem dX12_reach_19 : decode cX12_reach 19 = .ok (.aload_n 0, 1) := by decide +kernel
theorem dX12_reach_20 : decode cX12_reach 20 = .ok (.invokevirtual 258, 3) := by decide +kernel
theorem dX12_reach_23 : decode cX12_reach 23 = .ok (.iload_n 3, 1) := by decide +kernel
theorem dX12_reach_24 : decode cX12_reach 24 = .ok (.ifCond .ne 9, 3) := by decide +kernel
theorem dX12_reach_27 : decode cX12_reach 27 = .ok (.aload_n 0, 1) := by decide +kernel
theorem dX12_reach_28 : decode cX12_reach 28 = .ok (.iload_n 2, 1) := by decide +kernel
theorem dX12_reach_29 : decode cX12_reach 29 = .ok (.invokevirtual 261, 3) := by decide +kernel
theorem dX12_reach_32 : decode cX12_reach 32 = .ok (.ireturn, 1) := by decide +kernel
theorem dX12_reach_33 : decode cX12_reach 33 = .ok (.iload_n 3, 1) := by decide +kernel
theorem dX12_reach_34 : decode cX12_reach 34 = .ok (.iconst 1, 1) := by decide +kernel
theorem dX12_reach_35 : decode cX12_reach 35 = .ok (.if_icmp .eq 6, 3) := by decide +kernel
theorem dX12_reach_38 : decode cX12_reach 38 = .ok (.bipush (-2), 2) := by decide +kernel
theorem dX12_reach_40 : decode cX12_reach 40 = .ok (.ireturn, 1) := by decide +kernel
theorem dX12_reach_41 : decode cX12_reach 41 = .ok (.iconst (-1), 1) := by decide +kernel
theorem dX12_reach_42 : decode cX12_reach 42 = .ok (.istore 4, 2) := by decide +kernel
theorem dX12_reach_44 : decode cX12_reach 44 = .ok (.iconst 0, 1) := by decide +kernel
theorem dX12_reach_45 : decode cX12_reach 45 = .ok (.istore 5, 2) := by decide +kernel
theorem dX12_reach_47 : decode cX12_reach 47 = .ok (.iload 5, 2) := by decide +kernel
theorem dX12_reach_49 : decode cX12_reach 49 = .ok (.aload_n 0, 1) := by decide +kernel
theorem dX12_reach_50 : decode cX12_reach 50 = .ok (.getfield 169, 3) := by decide +kernel
theorem dX12_reach_53 : decode cX12_reach 53 = .ok (.if_icmp .ge 65, 3) := by decide +kernel
theorem dX12_reach_56 : decode cX12_reach 56 = .ok (.aload_n 0, 1) := by decide +kernel
theorem dX12_reach_57 : decode cX12_reach 57 = .ok (.getfield 41, 3) := by decide +kernel
theorem dX12_reach_60 : decode cX12_reach 60 = .ok (.bipush 7, 2) := by decide +kernel
theorem dX12_reach_62 : decode cX12_reach 62 = .ok (.iload_n 2, 1) := by decide +kernel
theorem dX12_reach_63 : decode cX12_reach 63 = .ok (.imul, 1) := by decide +kernel
theorem dX12_reach_64 : decode cX12_reach 64 = .ok (.iload 5, 2) := by decide +kernel
theorem dX12_reach_66 : decode cX12_reach 66 = .ok (.iadd, 1) := by decide +kernel
theorem dX12_reach_67 : decode cX12_reach 67 = .ok (.iaload, 1) := by decide +kernel
theorem dX12_reach_68 : decode cX12_reach 68 = .ok (.istore 6, 2) := by decide +kernel
theorem dX12_reach_70 : decode cX12_reach 70 = .ok (.aload_n 0, 1) := by decide +kernel
theorem dX12_reach_71 : decode cX12_reach 71 = .ok (.iload 5, 2) := by decide +kernel
theorem dX12_reach_73 : decode cX12_reach 73 = .ok (.invokevirtual 178, 3) := by decide +kernel
theorem dX12_reach_76 : decode cX12_reach 76 = .ok (.ifCond .eq 36, 3) := by decide +kernel
theorem dX12_reach_79 : decode cX12_reach 79 = .ok (.iload 6, 2) := by decide +kernel
theorem dX12_reach_81 : decode cX12_reach 81 = .ok (.iconst (-1), 1) := by decide +kernel
theorem dX12_reach_82 : decode cX12_reach 82 = .ok (.if_icmp .eq 30, 3) := by decide +kernel
theorem dX12_reach_85 : decode cX12_reach 85 = .ok (.iload 4, 2) := by decide +kernel
theorem dX12_reach_87 : decode cX12_reach 87 = .ok (.iconst (-1), 1) := by decide +kernel
theorem dX12_reach_88 : decode cX12_reach 88 = .ok (.if_icmp .eq 20, 3) := by decide +kernel
theorem dX12_reach_91 : decode cX12_reach 91 = .ok (.iload 6, 2) := by decide +kernel
theorem dX12_reach_93 : decode cX12_reach 93 = .ok (.aload_n 0, 1) := by decide +kernel
theorem dX12_reach_94 : decode cX12_reach 94 = .ok (.getfield 41, 3) := by decide +kernel
theorem dX12_reach_97 : decode cX12_reach 97 = .ok (.bipush 7, 2) := by decide +kernel
theorem dX12_reach_99 : decode cX12_reach 99 = .ok (.iload_n 2, 1) := by decide +kernel
theorem dX12_reach_100 : decode cX12_reach 100 = .ok (.imul, 1) := by decide +kernel
theorem dX12_reach_101 : decode cX12_reach 101 = .ok (.iload 4, 2) := by decide +kernel
theorem dX12_reach_103 : decode cX12_reach 103 = .ok (.iadd, 1) := by decide +kernel
theorem dX12_reach_104 : decode cX12_reach 104 = .ok (.iaload, 1) := by decide +kernel
theorem dX12_reach_105 : decode cX12_reach 105 = .ok (.if_icmp .ge 7, 3) := by decide +kernel
theorem dX12_reach_108 : decode cX12_reach 108 = .ok (.iload 5, 2) := by decide +kernel
theorem dX12_reach_110 : decode cX12_reach 110 = .ok (.istore 4, 2) := by decide +kernel
theorem dX12_reach_112 : decode cX12_reach 112 = .ok (.iinc 5 1, 3) := by decide +kernel
theorem dX12_reach_115 : decode cX12_reach 115 = .ok (.goto (-68), 3) := by decide +kernel
theorem dX12_reach_118 : decode cX12_reach 118 = .ok (.iload 4, 2) := by decide +kernel
theorem dX12_reach_120 : decode cX12_reach 120 = .ok (.ireturn, 1) := by decide +kernel
theorem dX12_classOf_0 : decode cX12_classOf 0 = .ok (.iconst 0, 1) := by decide +kernel
theorem dX12_classOf_1 : decode cX12_classOf 1 = .ok (.istore_n 2, 1) := by decide +kernel
theorem dX12_classOf_2 : decode cX12_classOf 2 = .ok (.iconst 0, 1) := by decide +kernel
theorem dX12_classOf_3 : decode cX12_classOf 3 = .ok (.istore_n 3, 1) := by decide +kernel
theorem dX12_classOf_4 : decode cX12_classOf 4 = .ok (.iload_n 3, 1) := by decide +kernel
theorem dX12_classOf_5 : decode cX12_classOf 5 = .ok (.aload_n 0, 1) := by decide +kernel
theorem dX12_classOf_6 : decode cX12_classOf 6 = .ok (.getfield 169, 3) := by decide +kernel
theorem dX12_classOf_9 : decode cX12_classOf 9 = .ok (.if_icmp .ge 49, 3) := by decide +kernel
theorem dX12_classOf_12 : decode cX12_classOf 12 = .ok (.iload_n 2, 1) := by decide +kernel
theorem dX12_classOf_13 : decode cX12_classOf 13 = .ok (.aload_n 0, 1) := by decide +kernel
theorem dX12_classOf_14 : decode cX12_classOf 14 = .ok (.getfield 41, 3) := by decide +kernel
theorem dX12_classOf_17 : decode cX12_classOf 17 = .ok (.bipush 7, 2) := by decide +kernel
theorem dX12_classOf_19 : decode cX12_classOf 19 = .ok (.iload_n 1, 1) := by decide +kernel
theorem dX12_classOf_20 : decode cX12_classOf 20 = .ok (.imul, 1) := by decide +kernel
theorem dX12_classOf_21 : decode cX12_classOf 21 = .ok (.iload_n 3, 1) := by decide +kernel
theorem dX12_classOf_22 : decode cX12_classOf 22 = .ok (.iadd, 1) := by decide +kernel
theorem dX12_classOf_23 : decode cX12_classOf 23 = .ok (.iaload, 1) := by decide +kernel
theorem dX12_classOf_24 : decode cX12_classOf 24 = .ok (.iconst (-1), 1) := by decide +kernel
theorem dX12_classOf_25 : decode cX12_classOf 25 = .ok (.if_icmp .eq 24, 3) := by decide +kernel
theorem dX12_classOf_28 : decode cX12_classOf 28 = .ok (.aload_n 0, 1) := by decide +kernel
theorem dX12_classOf_29 : decode cX12_classOf 29 = .ok (.getfield 41, 3) := by decide +kernel
theorem dX12_classOf_32 : decode cX12_classOf 32 = .ok (.bipush 7, 2) := by decide +kernel
theorem dX12_classOf_34 : decode cX12_classOf 34 = .ok (.iload_n 3, 1) := by decide +kernel
theorem dX12_classOf_35 : decode cX12_classOf 35 = .ok (.imul, 1) := by decide +kernel
theorem dX12_classOf_36 : decode cX12_classOf 36 = .ok (.iload_n 1, 1) := by decide +kernel
theorem dX12_classOf_37 : decode cX12_classOf 37 = .ok (.iadd, 1) := by decide +kernel
theorem dX12_classOf_38 : decode cX12_classOf 38 = .ok (.iaload, 1) := by decide +kernel
theorem dX12_classOf_39 : decode cX12_classOf 39 = .ok (.iconst (-1), 1) := by decide +kernel
theorem dX12_classOf_40 : decode cX12_classOf 40 = .ok (.if_icmp .eq 9, 3) := by decide +kernel
theorem dX12_classOf_43 : decode cX12_classOf 43 = .ok (.iconst 1, 1) := by decide +kernel
theorem dX12_classOf_44 : decode cX12_classOf 44 = .ok (.iload_n 3, 1) := by decide +kernel
theorem dX12_classOf_45 : decode cX12_classOf 45 = .ok (.ishl, 1) := by decide +kernel
theorem dX12_classOf_46 : decode cX12_classOf 46 = .ok (.goto 4, 3) := by decide +kernel
theorem dX12_classOf_49 : decode cX12_classOf 49 = .ok (.iconst 0, 1) := by decide +kernel
theorem dX12_classOf_50 : decode cX12_classOf 50 = .ok (.ior, 1) := by decide +kernel
theorem dX12_classOf_51 : decode cX12_classOf 51 = .ok (.istore_n 2, 1) := by decide +kernel
theorem dX12_classOf_52 : decode cX12_classOf 52 = .ok (.iinc 3 1, 3) := by decide +kernel
theorem dX12_classOf_55 : decode cX12_classOf 55 = .ok (.goto (-51), 3) := by decide +kernel
theorem dX12_classOf_58 : decode cX12_classOf 58 = .ok (.iload_n 2, 1) := by decide +kernel
theorem dX12_classOf_59 : decode cX12_classOf 59 = .ok (.ireturn, 1) := by decide +kernel
theorem dX12_classesOf_0 : decode cX12_classesOf 0 = .ok (.aload_n 0, 1) := by decide +kernel
theorem dX12_classesOf_1 : decode cX12_classesOf 1 = .ok (.invokevirtual 258, 3) := by decide +kernel
theorem dX12_classesOf_4 : decode cX12_classesOf 4 = .ok (.iconst 0, 1) := by decide +kernel
theorem dX12_classesOf_5 : decode cX12_classesOf 5 = .ok (.istore_n 2, 1) := by decide +kernel
theorem dX12_classesOf_6 : decode cX12_classesOf 6 = .ok (.iconst 0, 1) := by decide +kernel
theorem dX12_classesOf_7 : decode cX12_classesOf 7 = .ok (.istore_n 3, 1) := by decide +kernel
theorem dX12_classesOf_8 : decode cX12_classesOf 8 = .ok (.iconst 0, 1) := by decide +kernel
theorem dX12_classesOf_9 : decode cX12_classesOf 9 = .ok (.istore 4, 2) := by decide +kernel
theorem dX12_classesOf_11 : decode cX12_classesOf 11 = .ok (.iload 4, 2) := by decide +kernel
theorem dX12_classesOf_13 : decode cX12_classesOf 13 = .ok (.aload_n 0, 1) := by decide +kernel
theorem dX12_classesOf_14 : decode cX12_classesOf 14 = .ok (.getfield 169, 3) := by decide +kernel
theorem dX12_classesOf_17 : decode cX12_classesOf 17 = .ok (.if_icmp .ge 60, 3) := by decide +kernel
theorem dX12_classesOf_20 : decode cX12_classesOf 20 = .ok (.iload_n 2, 1) := by decide +kernel
theorem dX12_classesOf_21 : decode cX12_classesOf 21 = .ok (.aload_n 0, 1) := by decide +kernel
theorem dX12_classesOf_22 : decode cX12_classesOf 22 = .ok (.iload 4, 2) := by decide +kernel
theorem dX12_classesOf_24 : decode cX12_classesOf 24 = .ok (.invokevirtual 264, 3) := by decide +kernel
theorem dX12_classesOf_27 : decode cX12_classesOf 27 = .ok (.iconst 1, 1) := by decide +kernel
theorem dX12_classesOf_28 : decode cX12_classesOf 28 = .ok (.iload 4, 2) := by decide +kernel
theorem dX12_classesOf_30 : decode cX12_classesOf 30 = .ok (.ishl, 1) := by decide +kernel
theorem dX12_classesOf_31 : decode cX12_classesOf 31 = .ok (.iconst 1, 1) := by decide +kernel
theorem dX12_classesOf_32 : decode cX12_classesOf 32 = .ok (.isub, 1) := by decide +kernel
theorem dX12_classesOf_33 : decode cX12_classesOf 33 = .ok (.iand, 1) := by decide +kernel
theorem dX12_classesOf_34 : decode cX12_classesOf 34 = .ok (.ifCond .ne 7, 3) := by decide +kernel
theorem dX12_classesOf_37 : decode cX12_classesOf 37 = .ok (.iconst 1, 1) := by decide +kernel
theorem dX12_classesOf_38 : decode cX12_classesOf 38 = .ok (.goto 4, 3) := by decide +kernel
theorem dX12_classesOf_41 : decode cX12_classesOf 41 = .ok (.iconst 0, 1) := by decide +kernel
theorem dX12_classesOf_42 : decode cX12_classesOf 42 = .ok (.iadd, 1) := by decide +kernel
theorem dX12_classesOf_43 : decode cX12_classesOf 43 = .ok (.istore_n 2, 1) := by decide +kernel
theorem dX12_classesOf_44 : decode cX12_classesOf 44 = .ok (.aload_n 0, 1) := by decide +kernel
theorem dX12_classesOf_45 : decode cX12_classesOf 45 = .ok (.iload 4, 2) := by decide +kernel
theorem dX12_classesOf_47 : decode cX12_classesOf 47 = .ok (.invokevirtual 264, 3) := by decide +kernel
theorem dX12_classesOf_50 : decode cX12_classesOf 50 = .ok (.invokestatic 235, 3) := by decide +kernel
theorem dX12_classesOf_53 : decode cX12_classesOf 53 = .ok (.iload_n 3, 1) := by decide +kernel
theorem dX12_classesOf_54 : decode cX12_classesOf 54 = .ok (.if_icmp .le 15, 3) := by decide +kernel
theorem dX12_classesOf_57 : decode cX12_classesOf 57 = .ok (.aload_n 0, 1) := by decide +kernel
theorem dX12_classesOf_58 : decode cX12_classesOf 58 = .ok (.iload 4, 2) := by decide +kernel
theorem dX12_classesOf_60 : decode cX12_classesOf 60 = .ok (.invokevirtual 264, 3) := by decide +kernel
theorem dX12_classesOf_63 : decode cX12_classesOf 63 = .ok (.invokestatic 235, 3) := by decide +kernel
theorem dX12_classesOf_66 : decode cX12_classesOf 66 = .ok (.goto 4, 3) := by decide +kernel
theorem dX12_classesOf_69 : decode cX12_classesOf 69 = .ok (.iload_n 3, 1) := by decide +kernel
theorem dX12_classesOf_70 : decode cX12_classesOf 70 = .ok (.istore_n 3, 1) := by decide +kernel
theorem dX12_classesOf_71 : decode cX12_classesOf 71 = .ok (.iinc 4 1, 3) := by decide +kernel
theorem dX12_classesOf_74 : decode cX12_classesOf 74 = .ok (.goto (-63), 3) := by decide +kernel
theorem dX12_classesOf_77 : decode cX12_classesOf 77 = .ok (.iload_n 1, 1) := by decide +kernel
theorem dX12_classesOf_78 : decode cX12_classesOf 78 = .ok (.ifCond .eq 7, 3) := by decide +kernel
theorem dX12_classesOf_81 : decode cX12_classesOf 81 = .ok (.iload_n 3, 1) := by decide +kernel
theorem dX12_classesOf_82 : decode cX12_classesOf 82 = .ok (.goto 4, 3) := by decide +kernel
theorem dX12_classesOf_85 : decode cX12_classesOf 85 = .ok (.iload_n 2, 1) := by decide +kernel
theorem dX12_classesOf_86 : decode cX12_classesOf 86 = .ok (.ireturn, 1) := by decide +kernel
theorem dX12_leadHere_0 : decode cX12_leadHere 0 = .ok (.iconst 0, 1) := by decide +kernel
theorem dX12_leadHere_1 : decode cX12_leadHere 1 = .ok (.istore_n 3, 1) := by decide +kernel
theorem dX12_leadHere_2 : decode cX12_leadHere 2 = .ok (.iconst 0, 1) := by decide +kernel
theorem dX12_leadHere_3 : decode cX12_leadHere 3 = .ok (.istore 4, 2) := by decide +kernel
theorem dX12_leadHere_5 : decode cX12_leadHere 5 = .ok (.iload 4, 2) := by decide +kernel
theorem dX12_leadHere_7 : decode cX12_leadHere 7 = .ok (.aload_n 0, 1) := by decide +kernel
theorem dX12_leadHere_8 : decode cX12_leadHere 8 = .ok (.getfield 169, 3) := by decide +kernel
theorem dX12_leadHere_11 : decode cX12_leadHere 11 = .ok (.if_icmp .ge 59, 3) := by decide +kernel
theorem dX12_leadHere_14 : decode cX12_leadHere 14 = .ok (.iconst 0, 1) := by decide +kernel
theorem dX12_leadHere_15 : decode cX12_leadHere 15 = .ok (.istore 5, 2) := by decide +kernel
theorem dX12_leadHere_17 : decode cX12_leadHere 17 = .ok (.iload 5, 2) := by decide +kernel
theorem dX12_leadHere_19 : decode cX12_leadHere 19 = .ok (.aload_n 0, 1) := by decide +kernel
theorem dX12_leadHere_20 : decode cX12_leadHere 20 = .ok (.iload 4, 2) := by decide +kernel
theorem dX12_leadHere_22 : decode cX12_leadHere 22 = .ok (.invokevirtual 255, 3) := by decide +kernel
theorem dX12_leadHere_25 : decode cX12_leadHere 25 = .ok (.if_icmp .ge 39, 3) := by decide +kernel
theorem dX12_leadHere_28 : decode cX12_leadHere 28 = .ok (.iload_n 3, 1) := by decide +kernel
theorem dX12_leadHere_29 : decode cX12_leadHere 29 = .ok (.aload_n 0, 1) := by decide +kernel
theorem dX12_leadHere_30 : decode cX12_leadHere 30 = .ok (.iload 4, 2) := by decide +kernel
theorem dX12_leadHere_32 : decode cX12_leadHere 32 = .ok (.iload 5, 2) := by decide +kernel
theorem dX12_leadHere_34 : decode cX12_leadHere 34 = .ok (.invokevirtual 190, 3) := by decide +kernel
theorem dX12_leadHere_37 : decode cX12_leadHere 37 = .ok (.iload_n 1, 1) := by decide +kernel
theorem dX12_leadHere_38 : decode cX12_leadHere 38 = .ok (.if_icmp .ne 17, 3) := by decide +kernel
theorem dX12_leadHere_41 : decode cX12_leadHere 41 = .ok (.iload_n 2, 1) := by decide +kernel
theorem dX12_leadHere_42 : decode cX12_leadHere 42 = .ok (.ifCond .ne 9, 3) := by decide +kernel
theorem dX12_leadHere_45 : decode cX12_leadHere 45 = .ok (.iload 4, 2) := by decide +kernel
theorem dX12_leadHere_47 : decode cX12_leadHere 47 = .ok (.iload_n 1, 1) := by decide +kernel
theorem dX12_leadHere_48 : decode cX12_leadHere 48 = .ok (.if_icmp .eq 7, 3) := by decide +kernel
theorem dX12_leadHere_51 : decode cX12_leadHere 51 = .ok (.iconst 1, 1) := by decide +kernel
theorem dX12_leadHere_52 : decode cX12_leadHere 52 = .ok (.goto 4, 3) := by decide +kernel
theorem dX12_leadHere_55 : decode cX12_leadHere 55 = .ok (.iconst 0, 1) := by decide +kernel
theorem dX12_leadHere_56 : decode cX12_leadHere 56 = .ok (.iadd, 1) := by decide +kernel
theorem dX12_leadHere_57 : decode cX12_leadHere 57 = .ok (.istore_n 3, 1) := by decide +kernel
theorem dX12_leadHere_58 : decode cX12_leadHere 58 = .ok (.iinc 5 1, 3) := by decide +kernel
theorem dX12_leadHere_61 : decode cX12_leadHere 61 = .ok (.goto (-44), 3) := by decide +kernel
theorem dX12_leadHere_64 : decode cX12_leadHere 64 = .ok (.iinc 4 1, 3) := by decide +kernel
theorem dX12_leadHere_67 : decode cX12_leadHere 67 = .ok (.goto (-62), 3) := by decide +kernel
theorem dX12_leadHere_70 : decode cX12_leadHere 70 = .ok (.iload_n 3, 1) := by decide +kernel
theorem dX12_leadHere_71 : decode cX12_leadHere 71 = .ok (.ireturn, 1) := by decide +kernel
theorem dX12_crossingsOf_0 : decode cX12_crossingsOf 0 = .ok (.iconst 0, 1) := by decide +kernel
theorem dX12_crossingsOf_1 : decode cX12_crossingsOf 1 = .ok (.istore_n 2, 1) := by decide +kernel
theorem dX12_crossingsOf_2 : decode cX12_crossingsOf 2 = .ok (.iconst 0, 1) := by decide +kernel
theorem dX12_crossingsOf_3 : decode cX12_crossingsOf 3 = .ok (.istore_n 3, 1) := by decide +kernel
theorem dX12_crossingsOf_4 : decode cX12_crossingsOf 4 = .ok (.iload_n 3, 1) := by decide +kernel
theorem dX12_crossingsOf_5 : decode cX12_crossingsOf 5 = .ok (.aload_n 0, 1) := by decide +kernel
theorem dX12_crossingsOf_6 : decode cX12_crossingsOf 6 = .ok (.getfield 169, 3) := by decide +kernel
theorem dX12_crossingsOf_9 : decode cX12_crossingsOf 9 = .ok (.if_icmp .ge 96, 3) := by decide +kernel
theorem dX12_crossingsOf_12 : decode cX12_crossingsOf 12 = .ok (.iload_n 1, 1) := by decide +kernel
theorem dX12_crossingsOf_13 : decode cX12_crossingsOf 13 = .ok (.iconst 2, 1) := by decide +kernel
theorem dX12_crossingsOf_14 : decode cX12_crossingsOf 14 = .ok (.if_icmp .ne 20, 3) := by decide +kernel
theorem dX12_crossingsOf_17 : decode cX12_crossingsOf 17 = .ok (.aload_n 0, 1) := by decide +kernel
theorem dX12_crossingsOf_18 : decode cX12_crossingsOf 18 = .ok (.iload_n 3, 1) := by decide +kernel
theorem dX12_crossingsOf_19 : decode cX12_crossingsOf 19 = .ok (.iconst 0, 1) := by decide +kernel
theorem dX12_crossingsOf_20 : decode cX12_crossingsOf 20 = .ok (.invokevirtual 267, 3) := by decide +kernel
theorem dX12_crossingsOf_23 : decode cX12_crossingsOf 23 = .ok (.ifCond .ne 7, 3) := by decide +kernel
theorem dX12_crossingsOf_26 : decode cX12_crossingsOf 26 = .ok (.iconst 1, 1) := by decide +kernel
theorem dX12_crossingsOf_27 : decode cX12_crossingsOf 27 = .ok (.goto 55, 3) := by decide +kernel
theorem dX12_crossingsOf_30 : decode cX12_crossingsOf 30 = .ok (.iconst 0, 1) := by decide +kernel
theorem dX12_crossingsOf_31 : decode cX12_crossingsOf 31 = .ok (.goto 51, 3) := by decide +kernel
theorem dX12_crossingsOf_34 : decode cX12_crossingsOf 34 = .ok (.iload_n 1, 1) := by decide +kernel
theorem dX12_crossingsOf_35 : decode cX12_crossingsOf 35 = .ok (.iconst 3, 1) := by decide +kernel
theorem dX12_crossingsOf_36 : decode cX12_crossingsOf 36 = .ok (.if_icmp .ne 27, 3) := by decide +kernel
theorem dX12_crossingsOf_39 : decode cX12_crossingsOf 39 = .ok (.aload_n 0, 1) := by decide +kernel
theorem dX12_crossingsOf_40 : decode cX12_crossingsOf 40 = .ok (.iload_n 3, 1) := by decide +kernel
theorem dX12_crossingsOf_41 : decode cX12_crossingsOf 41 = .ok (.invokevirtual 178, 3) := by decide +kernel
theorem dX12_crossingsOf_44 : decode cX12_crossingsOf 44 = .ok (.ifCond .ne 15, 3) := by decide +kernel
theorem dX12_crossingsOf_47 : decode cX12_crossingsOf 47 = .ok (.aload_n 0, 1) := by decide +kernel
theorem dX12_crossingsOf_48 : decode cX12_crossingsOf 48 = .ok (.iload_n 3, 1) := by decide +kernel
theorem dX12_crossingsOf_49 : decode cX12_crossingsOf 49 = .ok (.invokevirtual 181, 3) := by decide +kernel
theorem dX12_crossingsOf_52 : decode cX12_crossingsOf 52 = .ok (.ifCond .ne 7, 3) := by decide +kernel
theorem dX12_crossingsOf_55 : decode cX12_crossingsOf 55 = .ok (.iconst 1, 1) := by decide +kernel
theorem dX12_crossingsOf_56 : decode cX12_crossingsOf 56 = .ok (.goto 26, 3) := by decide +kernel
theorem dX12_crossingsOf_59 : decode cX12_crossingsOf 59 = .ok (.iconst 0, 1) := by decide +kernel
theorem dX12_crossingsOf_60 : decode cX12_crossingsOf 60 = .ok (.goto 22, 3) := by decide +kernel
theorem dX12_crossingsOf_63 : decode cX12_crossingsOf 63 = .ok (.aload_n 0, 1) := by decide +kernel
theorem dX12_crossingsOf_64 : decode cX12_crossingsOf 64 = .ok (.iload_n 3, 1) := by decide +kernel
theorem dX12_crossingsOf_65 : decode cX12_crossingsOf 65 = .ok (.iconst 1, 1) := by decide +kernel
theorem dX12_crossingsOf_66 : decode cX12_crossingsOf 66 = .ok (.invokevirtual 267, 3) := by decide +kernel
theorem dX12_crossingsOf_69 : decode cX12_crossingsOf 69 = .ok (.aload_n 0, 1) := by decide +kernel
theorem dX12_crossingsOf_70 : decode cX12_crossingsOf 70 = .ok (.iload_n 3, 1) := by decide +kernel
theorem dX12_crossingsOf_71 : decode cX12_crossingsOf 71 = .ok (.invokevirtual 255, 3) := by decide +kernel
theorem dX12_crossingsOf_74 : decode cX12_crossingsOf 74 = .ok (.if_icmp .ne 7, 3) := by decide +kernel
theorem dX12_crossingsOf_77 : decode cX12_crossingsOf 77 = .ok (.iconst 1, 1) := by decide +kernel
theorem dX12_crossingsOf_78 : decode cX12_crossingsOf 78 = .ok (.goto 4, 3) := by decide +kernel
theorem dX12_crossingsOf_81 : decode cX12_crossingsOf 81 = .ok (.iconst 0, 1) := by decide +kernel
theorem dX12_crossingsOf_82 : decode cX12_crossingsOf 82 = .ok (.istore 4, 2) := by decide +kernel
theorem dX12_crossingsOf_84 : decode cX12_crossingsOf 84 = .ok (.iload_n 2, 1) := by decide +kernel
theorem dX12_crossingsOf_85 : decode cX12_crossingsOf 85 = .ok (.iload 4, 2) := by decide +kernel
theorem dX12_crossingsOf_87 : decode cX12_crossingsOf 87 = .ok (.ifCond .eq 9, 3) := by decide +kernel
theorem dX12_crossingsOf_90 : decode cX12_crossingsOf 90 = .ok (.iconst 1, 1) := by decide +kernel
theorem dX12_crossingsOf_91 : decode cX12_crossingsOf 91 = .ok (.iload_n 3, 1) := by decide +kernel
theorem dX12_crossingsOf_92 : decode cX12_crossingsOf 92 = .ok (.ishl, 1) := by decide +kernel
theorem dX12_crossingsOf_93 : decode cX12_crossingsOf 93 = .ok (.goto 4, 3) := by decide +kernel
theorem dX12_crossingsOf_96 : decode cX12_crossingsOf 96 = .ok (.iconst 0, 1) := by decide +kernel
theorem dX12_crossingsOf_97 : decode cX12_crossingsOf 97 = .ok (.ior, 1) := by decide +kernel
theorem dX12_crossingsOf_98 : decode cX12_crossingsOf 98 = .ok (.istore_n 2, 1) := by decide +kernel
theorem dX12_crossingsOf_99 : decode cX12_crossingsOf 99 = .ok (.iinc 3 1, 3) := by decide +kernel
theorem dX12_crossingsOf_102 : decode cX12_crossingsOf 102 = .ok (.goto (-98), 3) := by decide +kernel
theorem dX12_crossingsOf_105 : decode cX12_crossingsOf 105 = .ok (.iload_n 2, 1) := by decide +kernel
theorem dX12_crossingsOf_106 : decode cX12_crossingsOf 106 = .ok (.ireturn, 1) := by decide +kernel
theorem dX12_loops_0 : decode cX12_loops 0 = .ok (.iconst 0, 1) := by decide +kernel
theorem dX12_loops_1 : decode cX12_loops 1 = .ok (.istore_n 2, 1) := by decide +kernel
theorem dX12_loops_2 : decode cX12_loops 2 = .ok (.iconst 0, 1) := by decide +kernel
theorem dX12_loops_3 : decode cX12_loops 3 = .ok (.istore_n 3, 1) := by decide +kernel
theorem dX12_loops_4 : decode cX12_loops 4 = .ok (.iload_n 3, 1) := by decide +kernel
theorem dX12_loops_5 : decode cX12_loops 5 = .ok (.aload_n 0, 1) := by decide +kernel
theorem dX12_loops_6 : decode cX12_loops 6 = .ok (.getfield 169, 3) := by decide +kernel
theorem dX12_loops_9 : decode cX12_loops 9 = .ok (.if_icmp .ge 96, 3) := by decide +kernel
theorem dX12_loops_12 : decode cX12_loops 12 = .ok (.iconst 0, 1) := by decide +kernel
theorem dX12_loops_13 : decode cX12_loops 13 = .ok (.istore 4, 2) := by decide +kernel
theorem dX12_loops_15 : decode cX12_loops 15 = .ok (.iload 4, 2) := by decide +kernel
theorem dX12_loops_17 : decode cX12_loops 17 = .ok (.aload_n 0, 1) := by decide +kernel
theorem dX12_loops_18 : decode cX12_loops 18 = .ok (.iload_n 3, 1) := by decide +kernel
theorem dX12_loops_19 : decode cX12_loops 19 = .ok (.invokevirtual 255, 3) := by decide +kernel
theorem dX12_loops_22 : decode cX12_loops 22 = .ok (.if_icmp .ge 77, 3) := by decide +kernel
theorem dX12_loops_25 : decode cX12_loops 25 = .ok (.iload_n 2, 1) := by decide +kernel
theorem dX12_loops_26 : decode cX12_loops 26 = .ok (.iload_n 1, 1) := by decide +kernel
theorem dX12_loops_27 : decode cX12_loops 27 = .ok (.ifCond .ne 18, 3) := by decide +kernel
theorem dX12_loops_30 : decode cX12_loops 30 = .ok (.aload_n 0, 1) := by decide +kernel
theorem dX12_loops_31 : decode cX12_loops 31 = .ok (.iload_n 3, 1) := by decide +kernel
theorem dX12_loops_32 : decode cX12_loops 32 = .ok (.iload 4, 2) := by decide +kernel
theorem dX12_loops_34 : decode cX12_loops 34 = .ok (.invokevirtual 190, 3) := by decide +kernel
theorem dX12_loops_37 : decode cX12_loops 37 = .ok (.iload_n 3, 1) := by decide +kernel
theorem dX12_loops_38 : decode cX12_loops 38 = .ok (.if_icmp .ne 7, 3) := by decide +kernel
theorem dX12_loops_41 : decode cX12_loops 41 = .ok (.iconst 1, 1) := by decide +kernel
theorem dX12_loops_42 : decode cX12_loops 42 = .ok (.goto 4, 3) := by decide +kernel
theorem dX12_loops_45 : decode cX12_loops 45 = .ok (.iconst 0, 1) := by decide +kernel
theorem dX12_loops_46 : decode cX12_loops 46 = .ok (.iadd, 1) := by decide +kernel
theorem dX12_loops_47 : decode cX12_loops 47 = .ok (.istore_n 2, 1) := by decide +kernel
theorem dX12_loops_48 : decode cX12_loops 48 = .ok (.iconst 0, 1) := by decide +kernel
theorem dX12_loops_49 : decode cX12_loops 49 = .ok (.istore 5, 2) := by decide +kernel
theorem dX12_loops_51 : decode cX12_loops 51 = .ok (.iload 5, 2) := by decide +kernel
theorem dX12_loops_53 : decode cX12_loops 53 = .ok (.iload 4, 2) := by decide +kernel
theorem dX12_loops_55 : decode cX12_loops 55 = .ok (.if_icmp .ge 38, 3) := by decide +kernel
theorem dX12_loops_58 : decode cX12_loops 58 = .ok (.iload_n 2, 1) := by decide +kernel
theorem dX12_loops_59 : decode cX12_loops 59 = .ok (.iload_n 1, 1) := by decide +kernel
theorem dX12_loops_60 : decode cX12_loops 60 = .ok (.ifCond .eq 24, 3) := by decide +kernel
theorem dX12_loops_63 : decode cX12_loops 63 = .ok (.aload_n 0, 1) := by decide +kernel
theorem dX12_loops_64 : decode cX12_loops 64 = .ok (.iload_n 3, 1) := by decide +kernel
theorem dX12_loops_65 : decode cX12_loops 65 = .ok (.iload 4, 2) := by decide +kernel
theorem dX12_loops_67 : decode cX12_loops 67 = .ok (.invokevirtual 190, 3) := by decide +kernel
theorem dX12_loops_70 : decode cX12_loops 70 = .ok (.aload_n 0, 1) := by decide +kernel
theorem dX12_loops_71 : decode cX12_loops 71 = .ok (.iload_n 3, 1) := by decide +kernel
theorem dX12_loops_72 : decode cX12_loops 72 = .ok (.iload 5, 2) := by decide +kernel
theorem dX12_loops_74 : decode cX12_loops 74 = .ok (.invokevirtual 190, 3) := by decide +kernel
theorem dX12_loops_77 : decode cX12_loops 77 = .ok (.if_icmp .ne 7, 3) := by decide +kernel
theorem dX12_loops_80 : decode cX12_loops 80 = .ok (.iconst 1, 1) := by decide +kernel
theorem dX12_loops_81 : decode cX12_loops 81 = .ok (.goto 4, 3) := by decide +kernel
theorem dX12_loops_84 : decode cX12_loops 84 = .ok (.iconst 0, 1) := by decide +kernel
theorem dX12_loops_85 : decode cX12_loops 85 = .ok (.iadd, 1) := by decide +kernel
theorem dX12_loops_86 : decode cX12_loops 86 = .ok (.istore_n 2, 1) := by decide +kernel
theorem dX12_loops_87 : decode cX12_loops 87 = .ok (.iinc 5 1, 3) := by decide +kernel
theorem dX12_loops_90 : decode cX12_loops 90 = .ok (.goto (-39), 3) := by decide +kernel
theorem dX12_loops_93 : decode cX12_loops 93 = .ok (.iinc 4 1, 3) := by decide +kernel
theorem dX12_loops_96 : decode cX12_loops 96 = .ok (.goto (-81), 3) := by decide +kernel
theorem dX12_loops_99 : decode cX12_loops 99 = .ok (.iinc 3 1, 3) := by decide +kernel
theorem dX12_loops_102 : decode cX12_loops 102 = .ok (.goto (-98), 3) := by decide +kernel
theorem dX12_loops_105 : decode cX12_loops 105 = .ok (.iload_n 2, 1) := by decide +kernel
theorem dX12_loops_106 : decode cX12_loops 106 = .ok (.ireturn, 1) := by decide +kernel
theorem dX12_busyOf_0 : decode cX12_busyOf 0 = .ok (.aload_n 0, 1) := by decide +kernel
theorem dX12_busyOf_1 : decode cX12_busyOf 1 = .ok (.getfield 169, 3) := by decide +kernel
theorem dX12_busyOf_4 : decode cX12_busyOf 4 = .ok (.ifCond .ne 7, 3) := by decide +kernel
theorem dX12_busyOf_7 : decode cX12_busyOf 7 = .ok (.iconst (-1), 1) := by decide +kernel
theorem dX12_busyOf_8 : decode cX12_busyOf 8 = .ok (.goto 4, 3) := by decide +kernel
theorem dX12_busyOf_11 : decode cX12_busyOf 11 = .ok (.iconst 0, 1) := by decide +kernel
theorem dX12_busyOf_12 : decode cX12_busyOf 12 = .ok (.istore_n 1, 1) := by decide +kernel
theorem dX12_busyOf_13 : decode cX12_busyOf 13 = .ok (.iconst 1, 1) := by decide +kernel
theorem dX12_busyOf_14 : decode cX12_busyOf 14 = .ok (.istore_n 2, 1) := by decide +kernel
theorem dX12_busyOf_15 : decode cX12_busyOf 15 = .ok (.iload_n 2, 1) := by decide +kernel
theorem dX12_busyOf_16 : decode cX12_busyOf 16 = .ok (.aload_n 0, 1) := by decide +kernel
theorem dX12_busyOf_17 : decode cX12_busyOf 17 = .ok (.getfield 169, 3) := by decide +kernel
theorem dX12_busyOf_20 : decode cX12_busyOf 20 = .ok (.if_icmp .ge 30, 3) := by decide +kernel
theorem dX12_busyOf_23 : decode cX12_busyOf 23 = .ok (.aload_n 0, 1) := by decide +kernel
theorem dX12_busyOf_24 : decode cX12_busyOf 24 = .ok (.iload_n 2, 1) := by decide +kernel
theorem dX12_busyOf_25 : decode cX12_busyOf 25 = .ok (.iconst 1, 1) := by decide +kernel
theorem dX12_busyOf_26 : decode cX12_busyOf 26 = .ok (.invokevirtual 267, 3) := by decide +kernel
theorem dX12_busyOf_29 : decode cX12_busyOf 29 = .ok (.aload_n 0, 1) := by decide +kernel
theorem dX12_busyOf_30 : decode cX12_busyOf 30 = .ok (.iload_n 1, 1) := by decide +kernel
theorem dX12_busyOf_31 : decode cX12_busyOf 31 = .ok (.iconst 1, 1) := by decide +kernel
theorem dX12_busyOf_32 : decode cX12_busyOf 32 = .ok (.invokevirtual 267, 3) := by decide +kernel
theorem dX12_busyOf_35 : decode cX12_busyOf 35 = .ok (.if_icmp .le 7, 3) := by decide +kernel
theorem dX12_busyOf_38 : decode cX12_busyOf 38 = .ok (.iload_n 2, 1) := by decide +kernel
theorem dX12_busyOf_39 : decode cX12_busyOf 39 = .ok (.goto 4, 3) := by decide +kernel
theorem dX12_busyOf_42 : decode cX12_busyOf 42 = .ok (.iload_n 1, 1) := by decide +kernel
theorem dX12_busyOf_43 : decode cX12_busyOf 43 = .ok (.istore_n 1, 1) := by decide +kernel
theorem dX12_busyOf_44 : decode cX12_busyOf 44 = .ok (.iinc 2 1, 3) := by decide +kernel
theorem dX12_busyOf_47 : decode cX12_busyOf 47 = .ok (.goto (-32), 3) := by decide +kernel
theorem dX12_busyOf_50 : decode cX12_busyOf 50 = .ok (.iload_n 1, 1) := by decide +kernel
theorem dX12_busyOf_51 : decode cX12_busyOf 51 = .ok (.ireturn, 1) := by decide +kernel
theorem dX12_classes_0 : decode cX12_classes 0 = .ok (.aload_n 0, 1) := by decide +kernel
theorem dX12_classes_1 : decode cX12_classes 1 = .ok (.iload_n 1, 1) := by decide +kernel
theorem dX12_classes_2 : decode cX12_classes 2 = .ok (.invokevirtual 184, 3) := by decide +kernel
theorem dX12_classes_5 : decode cX12_classes 5 = .ok (.ifCond .ne 6, 3) := by decide +kernel
theorem dX12_classes_8 : decode cX12_classes 8 = .ok (.bipush (-2), 2) := by decide +kernel
theorem dX12_classes_10 : decode cX12_classes 10 = .ok (.ireturn, 1) := by decide +kernel
theorem dX12_classes_11 : decode cX12_classes 11 = .ok (.iload_n 2, 1) := by decide +kernel
theorem dX12_classes_12 : decode cX12_classes 12 = .ok (.tableswitch 89 0 7 #[48, 48, 63, 63, 69, 69, 63, 84], 48) := by decide +kernel
theorem dX12_classes_60 : decode cX12_classes 60 = .ok (.aload_n 0, 1) := by decide +kernel
theorem dX12_classes_61 : decode cX12_classes 61 = .ok (.iload_n 2, 1) := by decide +kernel
theorem dX12_classes_62 : decode cX12_classes 62 = .ok (.iconst 1, 1) := by decide +kernel
theorem dX12_classes_63 : decode cX12_classes 63 = .ok (.if_icmp .ne 7, 3) := by decide +kernel
theorem dX12_classes_66 : decode cX12_classes 66 = .ok (.iconst 1, 1) := by decide +kernel
theorem dX12_classes_67 : decode cX12_classes 67 = .ok (.goto 4, 3) := by decide +kernel
theorem dX12_classes_70 : decode cX12_classes 70 = .ok (.iconst 0, 1) := by decide +kernel
theorem dX12_classes_71 : decode cX12_classes 71 = .ok (.invokevirtual 271, 3) := by decide +kernel
theorem dX12_classes_74 : decode cX12_classes 74 = .ok (.ireturn, 1) := by decide +kernel
theorem dX12_classes_75 : decode cX12_classes 75 = .ok (.aload_n 0, 1) := by decide +kernel
theorem dX12_classes_76 : decode cX12_classes 76 = .ok (.iload_n 2, 1) := by decide +kernel
theorem dX12_classes_77 : decode cX12_classes 77 = .ok (.invokevirtual 275, 3) := by decide +kernel
theorem dX12_classes_80 : decode cX12_classes 80 = .ok (.ireturn, 1) := by decide +kernel
theorem dX12_classes_81 : decode cX12_classes 81 = .ok (.aload_n 0, 1) := by decide +kernel
theorem dX12_classes_82 : decode cX12_classes 82 = .ok (.iload_n 2, 1) := by decide +kernel
theorem dX12_classes_83 : decode cX12_classes 83 = .ok (.iconst 5, 1) := by decide +kernel
theorem dX12_classes_84 : decode cX12_classes 84 = .ok (.if_icmp .ne 7, 3) := by decide +kernel
theorem dX12_classes_87 : decode cX12_classes 87 = .ok (.iconst 1, 1) := by decide +kernel
theorem dX12_classes_88 : decode cX12_classes 88 = .ok (.goto 4, 3) := by decide +kernel
theorem dX12_classes_91 : decode cX12_classes 91 = .ok (.iconst 0, 1) := by decide +kernel
theorem dX12_classes_92 : decode cX12_classes 92 = .ok (.invokevirtual 278, 3) := by decide +kernel
theorem dX12_classes_95 : decode cX12_classes 95 = .ok (.ireturn, 1) := by decide +kernel
theorem dX12_classes_96 : decode cX12_classes 96 = .ok (.aload_n 0, 1) := by decide +kernel
theorem dX12_classes_97 : decode cX12_classes 97 = .ok (.invokevirtual 281, 3) := by decide +kernel
theorem dX12_classes_100 : decode cX12_classes 100 = .ok (.ireturn, 1) := by decide +kernel
theorem dX12_classes_101 : decode cX12_classes 101 = .ok (.bipush (-2), 2) := by decide +kernel
theorem dX12_classes_103 : decode cX12_classes 103 = .ok (.ireturn, 1) := by decide +kernel


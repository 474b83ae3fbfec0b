theorem m_fl_RX12_284 : Cond.fieldLink RX12 284 (TX12 27).1 (TX12 27).2.1 (TX12 27).2.2.1 ∈ zT := zmem1 zsub_6 22 (by decide +kernel) (by decide +kernel)
theorem m_fl_RX12_287 : Cond.fieldLink RX12 287 (TX12 28).1 (TX12 28).2.1 (TX12 28).2.2.1 ∈ zT := zmem1 zsub_6 23 (by decide +kernel) (by decide +kernel)
theorem m_co_X12_walksFar : Cond.code yX12_walksFar cX12_walksFar 5 none ∈ zT := zmem1 zsub_7 172 (by decide +kernel) (by decide +kernel)
theorem m_ml_RX12_290 : Cond.methodLink RX12 290 yX12_walksFar ∈ zT := zmem1 zsub_7 169 (by decide +kernel) (by decide +kernel)
theorem m_im_X12_walksFar : Cond.instanceMethod yX12_walksFar ∈ zT := zmem1 zsub_7 171 (by decide +kernel) (by decide +kernel)
theorem m_se_X12_walksFar : Cond.selects RX12 yX12_walksFar yX12_walksFar ∈ zT := zmem 87 (by decide +kernel) (by decide +kernel)
theorem m_co_X12_unusedOf : Cond.code yX12_unusedOf cX12_unusedOf 5 (some .int) ∈ zT := zmem1 zsub_7 176 (by decide +kernel) (by decide +kernel)
theorem m_ml_RX12_293 : Cond.methodLink RX12 293 yX12_unusedOf ∈ zT := zmem1 zsub_7 173 (by decide +kernel) (by decide +kernel)
theorem m_im_X12_unusedOf : Cond.instanceMethod yX12_unusedOf ∈ zT := zmem1 zsub_7 175 (by decide +kernel) (by decide +kernel)
theorem m_se_X12_unusedOf : Cond.selects RX12 yX12_unusedOf yX12_unusedOf ∈ zT := zmem 88 (by decide +kernel) (by decide +kernel)
theorem m_co_X12_roundOf : Cond.code yX12_roundOf cX12_roundOf 4 (some .int) ∈ zT := zmem1 zsub_7 180 (by decide +kernel) (by decide +kernel)
theorem m_ml_RX12_296 : Cond.methodLink RX12 296 yX12_roundOf ∈ zT := zmem1 zsub_7 177 (by decide +kernel) (by decide +kernel)
theorem m_im_X12_roundOf : Cond.instanceMethod yX12_roundOf ∈ zT := zmem1 zsub_7 179 (by decide +kernel) (by decide +kernel)
theorem m_se_X12_roundOf : Cond.selects RX12 yX12_roundOf yX12_roundOf ∈ zT := zmem 89 (by decide +kernel) (by decide +kernel)
theorem kV_RX12_290 {R : Room} {s : State} {args : Array Value} {d mc ms : Nat} (hts : ∀ w ∈ zT, w.before args s = true) (h1 : d + 1 ≤ R.frames) (h2 : 8 + (5 + 11) + 40 * d ≤ R.locals) : CallW R s args RX12 RX12 290 yX12_walksFar cX12_walksFar 5 none (zW yX12_walksFar cX12_walksFar 5 none) (zR d mc ms) mc ms 1 := z_cwV hts m_co_X12_walksFar m_ml_RX12_290 m_im_X12_walksFar m_se_X12_walksFar m_ii_RX12 (by decide +kernel) h1 h2
theorem kV_RX12_293 {R : Room} {s : State} {args : Array Value} {d mc ms : Nat} (hts : ∀ w ∈ zT, w.before args s = true) (h1 : d + 1 ≤ R.frames) (h2 : 8 + (5 + 11) + 40 * d ≤ R.locals) : CallW R s args RX12 RX12 293 yX12_unusedOf cX12_unusedOf 5 (some .int) (zW yX12_unusedOf cX12_unusedOf 5 (some .int)) (zR d mc ms) mc ms 1 := z_cwV hts m_co_X12_unusedOf m_ml_RX12_293 m_im_X12_unusedOf m_se_X12_unusedOf m_ii_RX12 (by decide +kernel) h1 h2
theorem kV_RX12_296 {R : Room} {s : State} {args : Array Value} {d mc ms : Nat} (hts : ∀ w ∈ zT, w.before args s = true) (h1 : d + 1 ≤ R.frames) (h2 : 8 + (4 + 11) + 40 * d ≤ R.locals) : CallW R s args RX12 RX12 296 yX12_roundOf cX12_roundOf 4 (some .int) (zW yX12_roundOf cX12_roundOf 4 (some .int)) (zR d mc ms) mc ms 0 := z_cwV hts m_co_X12_roundOf m_ml_RX12_296 m_im_X12_roundOf m_se_X12_roundOf m_ii_RX12 (by decide +kernel) h1 h2
theorem dX12_walksFar_0 : decode cX12_walksFar 0 = .ok (.aload_n 0, 1) := by decide +kernel
theorem dX12_walksFar_1 : decode cX12_walksFar 1 = .ok (.iload_n 1, 1) := by decide +kernel
theorem dX12_walksFar_2 : decode cX12_walksFar 2 = .ok (.invokevirtual 261, 3) := by decide +kernel
theorem dX12_walksFar_5 : decode cX12_walksFar 5 = .ok (.istore_n 2, 1) := by decide +kernel
theorem dX12_walksFar_6 : decode cX12_walksFar 6 = .ok (.iconst 1, 1) := by decide +kernel
theorem dX12_walksFar_7 : decode cX12_walksFar 7 = .ok (.iload_n 1, 1) := by decide +kernel
theorem dX12_walksFar_8 : decode cX12_walksFar 8 = .ok (.ishl, 1) := by decide +kernel
theorem dX12_walksFar_9 : decode cX12_walksFar 9 = .ok (.istore_n 3, 1) := by decide +kernel
theorem dX12_walksFar_10 : decode cX12_walksFar 10 = .ok (.iconst 0, 1) := by decide +kernel
theorem dX12_walksFar_11 : decode cX12_walksFar 11 = .ok (.istore 4, 2) := by decide +kernel
theorem dX12_walksFar_13 : decode cX12_walksFar 13 = .ok (.iload 4, 2) := by decide +kernel
theorem dX12_walksFar_15 : decode cX12_walksFar 15 = .ok (.bipush 7, 2) := by decide +kernel
theorem dX12_walksFar_17 : decode cX12_walksFar 17 = .ok (.if_icmp .ge 17, 3) := by decide +kernel
theorem dX12_walksFar_20 : decode cX12_walksFar 20 = .ok (.aload_n 0, 1) := by decide +kernel
theorem dX12_walksFar_21 : decode cX12_walksFar 21 = .ok (.getfield 44, 3) := by decide +kernel
theorem dX12_walksFar_24 : decode cX12_walksFar 24 = .ok (.iload 4, 2) := by decide +kernel
theorem dX12_walksFar_26 : decode cX12_walksFar 26 = .ok (.iconst 0, 1) := by decide +kernel
theorem dX12_walksFar_27 : decode cX12_walksFar 27 = .ok (.iastore, 1) := by decide +kernel
theorem dX12_walksFar_28 : decode cX12_walksFar 28 = .ok (.iinc 4 1, 3) := by decide +kernel
theorem dX12_walksFar_31 : decode cX12_walksFar 31 = .ok (.goto (-18), 3) := by decide +kernel
theorem dX12_walksFar_34 : decode cX12_walksFar 34 = .ok (.aload_n 0, 1) := by decide +kernel
theorem dX12_walksFar_35 : decode cX12_walksFar 35 = .ok (.iload_n 3, 1) := by decide +kernel
theorem dX12_walksFar_36 : decode cX12_walksFar 36 = .ok (.iload_n 2, 1) := by decide +kernel
theorem dX12_walksFar_37 : decode cX12_walksFar 37 = .ok (.if_icmp .ne 7, 3) := by decide +kernel
theorem dX12_walksFar_40 : decode cX12_walksFar 40 = .ok (.iconst 0, 1) := by decide +kernel
theorem dX12_walksFar_41 : decode cX12_walksFar 41 = .ok (.goto 4, 3) := by decide +kernel
theorem dX12_walksFar_44 : decode cX12_walksFar 44 = .ok (.iconst (-1), 1) := by decide +kernel
theorem dX12_walksFar_45 : decode cX12_walksFar 45 = .ok (.putfield 284, 3) := by decide +kernel
theorem dX12_walksFar_48 : decode cX12_walksFar 48 = .ok (.aload_n 0, 1) := by decide +kernel
theorem dX12_walksFar_49 : decode cX12_walksFar 49 = .ok (.iconst (-1), 1) := by decide +kernel
theorem dX12_walksFar_50 : decode cX12_walksFar 50 = .ok (.putfield 287, 3) := by decide +kernel
theorem dX12_walksFar_53 : decode cX12_walksFar 53 = .ok (.aload_n 0, 1) := by decide +kernel
theorem dX12_walksFar_54 : decode cX12_walksFar 54 = .ok (.iload_n 1, 1) := by decide +kernel
theorem dX12_walksFar_55 : decode cX12_walksFar 55 = .ok (.invokevirtual 211, 3) := by decide +kernel
theorem dX12_walksFar_58 : decode cX12_walksFar 58 = .ok (.iload_n 1, 1) := by decide +kernel
theorem dX12_walksFar_59 : decode cX12_walksFar 59 = .ok (.istore 4, 2) := by decide +kernel
theorem dX12_walksFar_61 : decode cX12_walksFar 61 = .ok (.aload_n 0, 1) := by decide +kernel
theorem dX12_walksFar_62 : decode cX12_walksFar 62 = .ok (.getfield 208, 3) := by decide +kernel
theorem dX12_walksFar_65 : decode cX12_walksFar 65 = .ok (.sipush 499, 3) := by decide +kernel
theorem dX12_walksFar_68 : decode cX12_walksFar 68 = .ok (.if_icmp .ge 92, 3) := by decide +kernel
theorem dX12_walksFar_71 : decode cX12_walksFar 71 = .ok (.aload_n 0, 1) := by decide +kernel
theorem dX12_walksFar_72 : decode cX12_walksFar 72 = .ok (.invokevirtual 214, 3) := by decide +kernel
theorem dX12_walksFar_75 : decode cX12_walksFar 75 = .ok (.ifCond .eq 85, 3) := by decide +kernel
theorem dX12_walksFar_78 : decode cX12_walksFar 78 = .ok (.aload_n 0, 1) := by decide +kernel
theorem dX12_walksFar_79 : decode cX12_walksFar 79 = .ok (.getfield 44, 3) := by decide +kernel
theorem dX12_walksFar_82 : decode cX12_walksFar 82 = .ok (.iload 4, 2) := by decide +kernel
theorem dX12_walksFar_84 : decode cX12_walksFar 84 = .ok (.dup2, 1) := by decide +kernel
theorem dX12_walksFar_85 : decode cX12_walksFar 85 = .ok (.iaload, 1) := by decide +kernel
theorem dX12_walksFar_86 : decode cX12_walksFar 86 = .ok (.iconst 1, 1) := by decide +kernel
theorem dX12_walksFar_87 : decode cX12_walksFar 87 = .ok (.aload_n 0, 1) := by decide +kernel
theorem dX12_walksFar_88 : decode cX12_walksFar 88 = .ok (.getfield 20, 3) := by decide +kernel
theorem dX12_walksFar_91 : decode cX12_walksFar 91 = .ok (.iload 4, 2) := by decide +kernel
theorem dX12_walksFar_93 : decode cX12_walksFar 93 = .ok (.iaload, 1) := by decide +kernel
theorem dX12_walksFar_94 : decode cX12_walksFar 94 = .ok (.ishl, 1) := by decide +kernel
theorem dX12_walksFar_95 : decode cX12_walksFar 95 = .ok (.ior, 1) := by decide +kernel
theorem dX12_walksFar_96 : decode cX12_walksFar 96 = .ok (.iastore, 1) := by decide +kernel
theorem dX12_walksFar_97 : decode cX12_walksFar 97 = .ok (.iload_n 3, 1) := by decide +kernel
theorem dX12_walksFar_98 : decode cX12_walksFar 98 = .ok (.iconst 1, 1) := by decide +kernel
theorem dX12_walksFar_99 : decode cX12_walksFar 99 = .ok (.aload_n 0, 1) := by decide +kernel
theorem dX12_walksFar_100 : decode cX12_walksFar 100 = .ok (.getfield 202, 3) := by decide +kernel
theorem dX12_walksFar_103 : decode cX12_walksFar 103 = .ok (.ishl, 1) := by decide +kernel
theorem dX12_walksFar_104 : decode cX12_walksFar 104 = .ok (.ior, 1) := by decide +kernel
theorem dX12_walksFar_105 : decode cX12_walksFar 105 = .ok (.istore_n 3, 1) := by decide +kernel
theorem dX12_walksFar_106 : decode cX12_walksFar 106 = .ok (.aload_n 0, 1) := by decide +kernel
theorem dX12_walksFar_107 : decode cX12_walksFar 107 = .ok (.getfield 284, 3) := by decide +kernel
theorem dX12_walksFar_110 : decode cX12_walksFar 110 = .ok (.iconst (-1), 1) := by decide +kernel
theorem dX12_walksFar_111 : decode cX12_walksFar 111 = .ok (.if_icmp .ne 16, 3) := by decide +kernel
theorem dX12_walksFar_114 : decode cX12_walksFar 114 = .ok (.iload_n 3, 1) := by decide +kernel
theorem dX12_walksFar_115 : decode cX12_walksFar 115 = .ok (.iload_n 2, 1) := by decide +kernel
theorem dX12_walksFar_116 : decode cX12_walksFar 116 = .ok (.if_icmp .ne 11, 3) := by decide +kernel
theorem dX12_walksFar_119 : decode cX12_walksFar 119 = .ok (.aload_n 0, 1) := by decide +kernel
theorem dX12_walksFar_120 : decode cX12_walksFar 120 = .ok (.aload_n 0, 1) := by decide +kernel
theorem dX12_walksFar_121 : decode cX12_walksFar 121 = .ok (.getfield 208, 3) := by decide +kernel
theorem dX12_walksFar_124 : decode cX12_walksFar 124 = .ok (.putfield 284, 3) := by decide +kernel
theorem dX12_walksFar_127 : decode cX12_walksFar 127 = .ok (.aload_n 0, 1) := by decide +kernel
theorem dX12_walksFar_128 : decode cX12_walksFar 128 = .ok (.getfield 287, 3) := by decide +kernel
theorem dX12_walksFar_131 : decode cX12_walksFar 131 = .ok (.iconst (-1), 1) := by decide +kernel
theorem dX12_walksFar_132 : decode cX12_walksFar 132 = .ok (.if_icmp .ne 19, 3) := by decide +kernel
theorem dX12_walksFar_135 : decode cX12_walksFar 135 = .ok (.aload_n 0, 1) := by decide +kernel
theorem dX12_walksFar_136 : decode cX12_walksFar 136 = .ok (.getfield 202, 3) := by decide +kernel
theorem dX12_walksFar_139 : decode cX12_walksFar 139 = .ok (.iload_n 1, 1) := by decide +kernel
theorem dX12_walksFar_140 : decode cX12_walksFar 140 = .ok (.if_icmp .ne 11, 3) := by decide +kernel
theorem dX12_walksFar_143 : decode cX12_walksFar 143 = .ok (.aload_n 0, 1) := by decide +kernel
theorem dX12_walksFar_144 : decode cX12_walksFar 144 = .ok (.aload_n 0, 1) := by decide +kernel
theorem dX12_walksFar_145 : decode cX12_walksFar 145 = .ok (.getfield 208, 3) := by decide +kernel
theorem dX12_walksFar_148 : decode cX12_walksFar 148 = .ok (.putfield 287, 3) := by decide +kernel
theorem dX12_walksFar_151 : decode cX12_walksFar 151 = .ok (.aload_n 0, 1) := by decide +kernel
theorem dX12_walksFar_152 : decode cX12_walksFar 152 = .ok (.getfield 202, 3) := by decide +kernel
theorem dX12_walksFar_155 : decode cX12_walksFar 155 = .ok (.istore 4, 2) := by decide +kernel
theorem dX12_walksFar_157 : decode cX12_walksFar 157 = .ok (.goto (-96), 3) := by decide +kernel
theorem dX12_walksFar_160 : decode cX12_walksFar 160 = .ok (.return_, 1) := by decide +kernel
theorem dX12_unusedOf_0 : decode cX12_unusedOf 0 = .ok (.iconst 0, 1) := by decide +kernel
theorem dX12_unusedOf_1 : decode cX12_unusedOf 1 = .ok (.istore_n 2, 1) := by decide +kernel
theorem dX12_unusedOf_2 : decode cX12_unusedOf 2 = .ok (.iconst 0, 1) := by decide +kernel
theorem dX12_unusedOf_3 : decode cX12_unusedOf 3 = .ok (.istore_n 3, 1) := by decide +kernel
theorem dX12_unusedOf_4 : decode cX12_unusedOf 4 = .ok (.iload_n 3, 1) := by decide +kernel
theorem dX12_unusedOf_5 : decode cX12_unusedOf 5 = .ok (.aload_n 0, 1) := by decide +kernel
theorem dX12_unusedOf_6 : decode cX12_unusedOf 6 = .ok (.getfield 169, 3) := by decide +kernel
theorem dX12_unusedOf_9 : decode cX12_unusedOf 9 = .ok (.if_icmp .ge 59, 3) := by decide +kernel
theorem dX12_unusedOf_12 : decode cX12_unusedOf 12 = .ok (.iconst 0, 1) := by decide +kernel
theorem dX12_unusedOf_13 : decode cX12_unusedOf 13 = .ok (.istore 4, 2) := by decide +kernel
theorem dX12_unusedOf_15 : decode cX12_unusedOf 15 = .ok (.iload 4, 2) := by decide +kernel
theorem dX12_unusedOf_17 : decode cX12_unusedOf 17 = .ok (.aload_n 0, 1) := by decide +kernel
theorem dX12_unusedOf_18 : decode cX12_unusedOf 18 = .ok (.iload_n 3, 1) := by decide +kernel
theorem dX12_unusedOf_19 : decode cX12_unusedOf 19 = .ok (.invokevirtual 255, 3) := by decide +kernel
theorem dX12_unusedOf_22 : decode cX12_unusedOf 22 = .ok (.if_icmp .ge 40, 3) := by decide +kernel
theorem dX12_unusedOf_25 : decode cX12_unusedOf 25 = .ok (.iload_n 2, 1) := by decide +kernel
theorem dX12_unusedOf_26 : decode cX12_unusedOf 26 = .ok (.iload_n 1, 1) := by decide +kernel
theorem dX12_unusedOf_27 : decode cX12_unusedOf 27 = .ok (.iload_n 3, 1) := by decide +kernel
theorem dX12_unusedOf_28 : decode cX12_unusedOf 28 = .ok (.ishr, 1) := by decide +kernel
theorem dX12_unusedOf_29 : decode cX12_unusedOf 29 = .ok (.iconst 1, 1) := by decide +kernel
theorem dX12_unusedOf_30 : decode cX12_unusedOf 30 = .ok (.iand, 1) := by decide +kernel
theorem dX12_unusedOf_31 : decode cX12_unusedOf 31 = .ok (.iconst 1, 1) := by decide +kernel
theorem dX12_unusedOf_32 : decode cX12_unusedOf 32 = .ok (.if_icmp .ne 21, 3) := by decide +kernel
theorem dX12_unusedOf_35 : decode cX12_unusedOf 35 = .ok (.aload_n 0, 1) := by decide +kernel
theorem dX12_unusedOf_36 : decode cX12_unusedOf 36 = .ok (.getfield 44, 3) := by decide +kernel
theorem dX12_unusedOf_39 : decode cX12_unusedOf 39 = .ok (.iload_n 3, 1) := by decide +kernel
theorem dX12_unusedOf_40 : decode cX12_unusedOf 40 = .ok (.iaload, 1) := by decide +kernel
theorem dX12_unusedOf_41 : decode cX12_unusedOf 41 = .ok (.iload 4, 2) := by decide +kernel
theorem dX12_unusedOf_43 : decode cX12_unusedOf 43 = .ok (.ishr, 1) := by decide +kernel
theorem dX12_unusedOf_44 : decode cX12_unusedOf 44 = .ok (.iconst 1, 1) := by decide +kernel
theorem dX12_unusedOf_45 : decode cX12_unusedOf 45 = .ok (.iand, 1) := by decide +kernel
theorem dX12_unusedOf_46 : decode cX12_unusedOf 46 = .ok (.ifCond .ne 7, 3) := by decide +kernel
theorem dX12_unusedOf_49 : decode cX12_unusedOf 49 = .ok (.iconst 1, 1) := by decide +kernel
theorem dX12_unusedOf_50 : decode cX12_unusedOf 50 = .ok (.goto 4, 3) := by decide +kernel
theorem dX12_unusedOf_53 : decode cX12_unusedOf 53 = .ok (.iconst 0, 1) := by decide +kernel
theorem dX12_unusedOf_54 : decode cX12_unusedOf 54 = .ok (.iadd, 1) := by decide +kernel
theorem dX12_unusedOf_55 : decode cX12_unusedOf 55 = .ok (.istore_n 2, 1) := by decide +kernel
theorem dX12_unusedOf_56 : decode cX12_unusedOf 56 = .ok (.iinc 4 1, 3) := by decide +kernel
theorem dX12_unusedOf_59 : decode cX12_unusedOf 59 = .ok (.goto (-44), 3) := by decide +kernel
theorem dX12_unusedOf_62 : decode cX12_unusedOf 62 = .ok (.iinc 3 1, 3) := by decide +kernel
theorem dX12_unusedOf_65 : decode cX12_unusedOf 65 = .ok (.goto (-61), 3) := by decide +kernel
theorem dX12_unusedOf_68 : decode cX12_unusedOf 68 = .ok (.iload_n 2, 1) := by decide +kernel
theorem dX12_unusedOf_69 : decode cX12_unusedOf 69 = .ok (.ireturn, 1) := by decide +kernel
theorem dX12_roundOf_0 : decode cX12_roundOf 0 = .ok (.aload_n 0, 1) := by decide +kernel
theorem dX12_roundOf_1 : decode cX12_roundOf 1 = .ok (.getfield 208, 3) := by decide +kernel
theorem dX12_roundOf_4 : decode cX12_roundOf 4 = .ok (.sipush 499, 3) := by decide +kernel
theorem dX12_roundOf_7 : decode cX12_roundOf 7 = .ok (.if_icmp .lt 14, 3) := by decide +kernel
theorem dX12_roundOf_10 : decode cX12_roundOf 10 = .ok (.aload_n 0, 1) := by decide +kernel
theorem dX12_roundOf_11 : decode cX12_roundOf 11 = .ok (.aload_n 0, 1) := by decide +kernel
theorem dX12_roundOf_12 : decode cX12_roundOf 12 = .ok (.getfield 202, 3) := by decide +kernel
theorem dX12_roundOf_15 : decode cX12_roundOf 15 = .ok (.invokevirtual 178, 3) := by decide +kernel
theorem dX12_roundOf_18 : decode cX12_roundOf 18 = .ok (.ifCond .eq 5, 3) := by decide +kernel
theorem dX12_roundOf_21 : decode cX12_roundOf 21 = .ok (.iconst (-1), 1) := by decide +kernel
theorem dX12_roundOf_22 : decode cX12_roundOf 22 = .ok (.ireturn, 1) := by decide +kernel
theorem dX12_roundOf_23 : decode cX12_roundOf 23 = .ok (.aload_n 0, 1) := by decide +kernel
theorem dX12_roundOf_24 : decode cX12_roundOf 24 = .ok (.getfield 202, 3) := by decide +kernel
theorem dX12_roundOf_27 : decode cX12_roundOf 27 = .ok (.istore_n 1, 1) := by decide +kernel
theorem dX12_roundOf_28 : decode cX12_roundOf 28 = .ok (.aload_n 0, 1) := by decide +kernel
theorem dX12_roundOf_29 : decode cX12_roundOf 29 = .ok (.invokevirtual 220, 3) := by decide +kernel
theorem dX12_roundOf_32 : decode cX12_roundOf 32 = .ok (.istore_n 2, 1) := by decide +kernel
theorem dX12_roundOf_33 : decode cX12_roundOf 33 = .ok (.iconst 1, 1) := by decide +kernel
theorem dX12_roundOf_34 : decode cX12_roundOf 34 = .ok (.istore_n 3, 1) := by decide +kernel
theorem dX12_roundOf_35 : decode cX12_roundOf 35 = .ok (.iload_n 3, 1) := by decide +kernel
theorem dX12_roundOf_36 : decode cX12_roundOf 36 = .ok (.sipush 1000, 3) := by decide +kernel
theorem dX12_roundOf_39 : decode cX12_roundOf 39 = .ok (.if_icmp .ge 32, 3) := by decide +kernel
theorem dX12_roundOf_42 : decode cX12_roundOf 42 = .ok (.aload_n 0, 1) := by decide +kernel
theorem dX12_roundOf_43 : decode cX12_roundOf 43 = .ok (.invokevirtual 214, 3) := by decide +kernel
theorem dX12_roundOf_46 : decode cX12_roundOf 46 = .ok (.pop, 1) := by decide +kernel
theorem dX12_roundOf_47 : decode cX12_roundOf 47 = .ok (.aload_n 0, 1) := by decide +kernel
theorem dX12_roundOf_48 : decode cX12_roundOf 48 = .ok (.getfield 202, 3) := by decide +kernel
theorem dX12_roundOf_51 : decode cX12_roundOf 51 = .ok (.iload_n 1, 1) := by decide +kernel
theorem dX12_roundOf_52 : decode cX12_roundOf 52 = .ok (.if_icmp .ne 13, 3) := by decide +kernel
theorem dX12_roundOf_55 : decode cX12_roundOf 55 = .ok (.aload_n 0, 1) := by decide +kernel
theorem dX12_roundOf_56 : decode cX12_roundOf 56 = .ok (.invokevirtual 220, 3) := by decide +kernel
theorem dX12_roundOf_59 : decode cX12_roundOf 59 = .ok (.iload_n 2, 1) := by decide +kernel
theorem dX12_roundOf_60 : decode cX12_roundOf 60 = .ok (.if_icmp .ne 5, 3) := by decide +kernel
theorem dX12_roundOf_63 : decode cX12_roundOf 63 = .ok (.iload_n 3, 1) := by decide +kernel
theorem dX12_roundOf_64 : decode cX12_roundOf 64 = .ok (.ireturn, 1) := by decide +kernel
theorem dX12_roundOf_65 : decode cX12_roundOf 65 = .ok (.iinc 3 1, 3) := by decide +kernel
theorem dX12_roundOf_68 : decode cX12_roundOf 68 = .ok (.goto (-33), 3) := by decide +kernel
theorem dX12_roundOf_71 : decode cX12_roundOf 71 = .ok (.iconst (-1), 1) := by decide +kernel
theorem dX12_roundOf_72 : decode cX12_roundOf 72 = .ok (.ireturn, 1) := by decide +kernel
theorem dX12_cover_0 : decode cX12_cover 0 = .ok (.aload_n 0, 1) := by decide +kernel
theorem dX12_cover_1 : decode cX12_cover 1 = .ok (.iload_n 1, 1) := by decide +kernel
theorem dX12_cover_2 : decode cX12_cover 2 = .ok (.invokevirtual 184, 3) := by decide +kernel
theorem dX12_cover_5 : decode cX12_cover 5 = .ok (.ifCond .eq 11, 3) := by decide +kernel
theorem dX12_cover_8 : decode cX12_cover 8 = .ok (.aload_n 0, 1) := by decide +kernel
theorem dX12_cover_9 : decode cX12_cover 9 = .ok (.iload_n 2, 1) := by decide +kernel
theorem dX12_cover_10 : decode cX12_cover 10 = .ok (.invokevirtual 187, 3) := by decide +kernel
theorem dX12_cover_13 : decode cX12_cover 13 = .ok (.ifCond .ne 6, 3) := by decide +kernel
theorem dX12_cover_16 : decode cX12_cover 16 = .ok (.bipush (-2), 2) := by decide +kernel
theorem dX12_cover_18 : decode cX12_cover 18 = .ok (.ireturn, 1) := by decide +kernel
theorem dX12_cover_19 : decode cX12_cover 19 = .ok (.aload_n 0, 1) := by decide +kernel
theorem dX12_cover_20 : decode cX12_cover 20 = .ok (.invokevirtual 258, 3) := by decide +kernel
theorem dX12_cover_23 : decode cX12_cover 23 = .ok (.aload_n 0, 1) := by decide +kernel
theorem dX12_cover_24 : decode cX12_cover 24 = .ok (.iload_n 2, 1) := by decide +kernel
theorem dX12_cover_25 : decode cX12_cover 25 = .ok (.invokevirtual 290, 3) := by decide +kernel
theorem dX12_cover_28 : decode cX12_cover 28 = .ok (.iload_n 3, 1) := by decide +kernel
theorem dX12_cover_29 : decode cX12_cover 29 = .ok (.tableswitch 56 0 3 #[31, 36, 41, 51], 31) := by decide +kernel
theorem dX12_cover_60 : decode cX12_cover 60 = .ok (.aload_n 0, 1) := by decide +kernel
theorem dX12_cover_61 : decode cX12_cover 61 = .ok (.getfield 284, 3) := by decide +kernel
theorem dX12_cover_64 : decode cX12_cover 64 = .ok (.ireturn, 1) := by decide +kernel
theorem dX12_cover_65 : decode cX12_cover 65 = .ok (.aload_n 0, 1) := by decide +kernel
theorem dX12_cover_66 : decode cX12_cover 66 = .ok (.getfield 287, 3) := by decide +kernel
theorem dX12_cover_69 : decode cX12_cover 69 = .ok (.ireturn, 1) := by decide +kernel
theorem dX12_cover_70 : decode cX12_cover 70 = .ok (.aload_n 0, 1) := by decide +kernel
theorem dX12_cover_71 : decode cX12_cover 71 = .ok (.aload_n 0, 1) := by decide +kernel
theorem dX12_cover_72 : decode cX12_cover 72 = .ok (.iload_n 2, 1) := by decide +kernel
theorem dX12_cover_73 : decode cX12_cover 73 = .ok (.invokevirtual 261, 3) := by decide +kernel
theorem dX12_cover_76 : decode cX12_cover 76 = .ok (.invokevirtual 293, 3) := by decide +kernel
theorem dX12_cover_79 : decode cX12_cover 79 = .ok (.ireturn, 1) := by decide +kernel
theorem dX12_cover_80 : decode cX12_cover 80 = .ok (.aload_n 0, 1) := by decide +kernel
theorem dX12_cover_81 : decode cX12_cover 81 = .ok (.invokevirtual 296, 3) := by decide +kernel
theorem dX12_cover_84 : decode cX12_cover 84 = .ok (.ireturn, 1) := by decide +kernel
theorem dX12_cover_85 : decode cX12_cover 85 = .ok (.bipush (-2), 2) := by decide +kernel
theorem dX12_cover_87 : decode cX12_cover 87 = .ok (.ireturn, 1) := by decide +kernel


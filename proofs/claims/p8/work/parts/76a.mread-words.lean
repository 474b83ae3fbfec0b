theorem m_co_X12_crossingTold : Cond.code yX12_crossingTold cX12_crossingTold 2 (some .int) ∈ zT := zmem1 zsub_6 193 (by decide +kernel) (by decide +kernel)
theorem m_ml_RX12_129 : Cond.methodLink RX12 129 yX12_crossingTold ∈ zT := zmem1 zsub_6 190 (by decide +kernel) (by decide +kernel)
theorem m_im_X12_crossingTold : Cond.instanceMethod yX12_crossingTold ∈ zT := zmem1 zsub_6 192 (by decide +kernel) (by decide +kernel)
theorem m_se_X12_crossingTold : Cond.selects RX12 yX12_crossingTold yX12_crossingTold ∈ zT := zmem 53 (by decide +kernel) (by decide +kernel)
theorem m_co_X12_wordIn : Cond.code yX12_wordIn cX12_wordIn 4 (some .int) ∈ zT := zmem1 zsub_6 177 (by decide +kernel) (by decide +kernel)
theorem m_ml_RX12_133 : Cond.methodLink RX12 133 yX12_wordIn ∈ zT := zmem1 zsub_6 174 (by decide +kernel) (by decide +kernel)
theorem m_im_X12_wordIn : Cond.instanceMethod yX12_wordIn ∈ zT := zmem1 zsub_6 176 (by decide +kernel) (by decide +kernel)
theorem m_se_X12_wordIn : Cond.selects RX12 yX12_wordIn yX12_wordIn ∈ zT := zmem 49 (by decide +kernel) (by decide +kernel)
theorem m_co_X12_endsLine : Cond.code yX12_endsLine cX12_endsLine 1 none ∈ zT := zmem1 zsub_6 201 (by decide +kernel) (by decide +kernel)
theorem m_ml_RX12_140 : Cond.methodLink RX12 140 yX12_endsLine ∈ zT := zmem1 zsub_6 198 (by decide +kernel) (by decide +kernel)
theorem m_im_X12_endsLine : Cond.instanceMethod yX12_endsLine ∈ zT := zmem1 zsub_6 200 (by decide +kernel) (by decide +kernel)
theorem m_se_X12_endsLine : Cond.selects RX12 yX12_endsLine yX12_endsLine ∈ zT := zmem 55 (by decide +kernel) (by decide +kernel)
theorem m_co_X12_crossTold : Cond.code yX12_crossTold cX12_crossTold 4 none ∈ zT := zmem1 zsub_6 185 (by decide +kernel) (by decide +kernel)
theorem m_ml_RX12_136 : Cond.methodLink RX12 136 yX12_crossTold ∈ zT := zmem1 zsub_6 182 (by decide +kernel) (by decide +kernel)
theorem m_im_X12_crossTold : Cond.instanceMethod yX12_crossTold ∈ zT := zmem1 zsub_6 184 (by decide +kernel) (by decide +kernel)
theorem m_se_X12_crossTold : Cond.selects RX12 yX12_crossTold yX12_crossTold ∈ zT := zmem 51 (by decide +kernel) (by decide +kernel)
theorem kV_RX12_129 {R : Room} {s : State} {args : Array Value} {d mc ms : Nat} (hts : ∀ w ∈ zT, w.before args s = true) (h1 : d + 1 ≤ R.frames) (h2 : 8 + (2 + 11) + 40 * d ≤ R.locals) : CallW R s args RX12 RX12 129 yX12_crossingTold cX12_crossingTold 2 (some .int) (zW yX12_crossingTold cX12_crossingTold 2 (some .int)) (zR d mc ms) mc ms 0 := z_cwV hts m_co_X12_crossingTold m_ml_RX12_129 m_im_X12_crossingTold m_se_X12_crossingTold m_ii_RX12 (by decide +kernel) h1 h2
theorem kV_RX12_133 {R : Room} {s : State} {args : Array Value} {d mc ms : Nat} (hts : ∀ w ∈ zT, w.before args s = true) (h1 : d + 1 ≤ R.frames) (h2 : 8 + (4 + 11) + 40 * d ≤ R.locals) : CallW R s args RX12 RX12 133 yX12_wordIn cX12_wordIn 4 (some .int) (zW yX12_wordIn cX12_wordIn 4 (some .int)) (zR d mc ms) mc ms 2 := z_cwV hts m_co_X12_wordIn m_ml_RX12_133 m_im_X12_wordIn m_se_X12_wordIn m_ii_RX12 (by decide +kernel) h1 h2
theorem kV_RX12_140 {R : Room} {s : State} {args : Array Value} {d mc ms : Nat} (hts : ∀ w ∈ zT, w.before args s = true) (h1 : d + 1 ≤ R.frames) (h2 : 8 + (1 + 11) + 40 * d ≤ R.locals) : CallW R s args RX12 RX12 140 yX12_endsLine cX12_endsLine 1 none (zW yX12_endsLine cX12_endsLine 1 none) (zR d mc ms) mc ms 0 := z_cwV hts m_co_X12_endsLine m_ml_RX12_140 m_im_X12_endsLine m_se_X12_endsLine m_ii_RX12 (by decide +kernel) h1 h2
theorem kV_RX12_136 {R : Room} {s : State} {args : Array Value} {d mc ms : Nat} (hts : ∀ w ∈ zT, w.before args s = true) (h1 : d + 1 ≤ R.frames) (h2 : 8 + (4 + 11) + 40 * d ≤ R.locals) : CallW R s args RX12 RX12 136 yX12_crossTold cX12_crossTold 4 none (zW yX12_crossTold cX12_crossTold 4 none) (zR d mc ms) mc ms 1 := z_cwV hts m_co_X12_crossTold m_ml_RX12_136 m_im_X12_crossTold m_se_X12_crossTold m_ii_RX12 (by decide +kernel) h1 h2
theorem dX12_crossTold_0 : decode cX12_crossTold 0 = .ok (.aload_n 0, 1) := by decide +kernel
theorem dX12_crossTold_1 : decode cX12_crossTold 1 = .ok (.getfield 17, 3) := by decide +kernel
theorem dX12_crossTold_4 : decode cX12_crossTold 4 = .ok (.iconst 0, 1) := by decide +kernel
theorem dX12_crossTold_5 : decode cX12_crossTold 5 = .ok (.iaload, 1) := by decide +kernel
theorem dX12_crossTold_6 : decode cX12_crossTold 6 = .ok (.bipush 7, 2) := by decide +kernel
theorem dX12_crossTold_8 : decode cX12_crossTold 8 = .ok (.if_icmp .lt 9, 3) := by decide +kernel
theorem dX12_crossTold_11 : decode cX12_crossTold 11 = .ok (.aload_n 0, 1) := by decide +kernel
theorem dX12_crossTold_12 : decode cX12_crossTold 12 = .ok (.iconst 3, 1) := by decide +kernel
theorem dX12_crossTold_13 : decode cX12_crossTold 13 = .ok (.iload_n 1, 1) := by decide +kernel
theorem dX12_crossTold_14 : decode cX12_crossTold 14 = .ok (.invokevirtual 115, 3) := by decide +kernel
theorem dX12_crossTold_17 : decode cX12_crossTold 17 = .ok (.iconst 0, 1) := by decide +kernel
theorem dX12_crossTold_18 : decode cX12_crossTold 18 = .ok (.istore_n 2, 1) := by decide +kernel
theorem dX12_crossTold_19 : decode cX12_crossTold 19 = .ok (.aload_n 0, 1) := by decide +kernel
theorem dX12_crossTold_20 : decode cX12_crossTold 20 = .ok (.getfield 104, 3) := by decide +kernel
theorem dX12_crossTold_23 : decode cX12_crossTold 23 = .ok (.ifCond .ne 81, 3) := by decide +kernel
theorem dX12_crossTold_26 : decode cX12_crossTold 26 = .ok (.aload_n 0, 1) := by decide +kernel
theorem dX12_crossTold_27 : decode cX12_crossTold 27 = .ok (.getfield 80, 3) := by decide +kernel
theorem dX12_crossTold_30 : decode cX12_crossTold 30 = .ok (.iconst 1, 1) := by decide +kernel
theorem dX12_crossTold_31 : decode cX12_crossTold 31 = .ok (.if_icmp .ne 73, 3) := by decide +kernel
theorem dX12_crossTold_34 : decode cX12_crossTold 34 = .ok (.iload_n 2, 1) := by decide +kernel
theorem dX12_crossTold_35 : decode cX12_crossTold 35 = .ok (.iconst 4, 1) := by decide +kernel
theorem dX12_crossTold_36 : decode cX12_crossTold 36 = .ok (.if_icmp .ne 12, 3) := by decide +kernel
theorem dX12_crossTold_39 : decode cX12_crossTold 39 = .ok (.aload_n 0, 1) := by decide +kernel
theorem dX12_crossTold_40 : decode cX12_crossTold 40 = .ok (.iconst 3, 1) := by decide +kernel
theorem dX12_crossTold_41 : decode cX12_crossTold 41 = .ok (.aload_n 0, 1) := by decide +kernel
theorem dX12_crossTold_42 : decode cX12_crossTold 42 = .ok (.getfield 77, 3) := by decide +kernel
theorem dX12_crossTold_45 : decode cX12_crossTold 45 = .ok (.invokevirtual 115, 3) := by decide +kernel
theorem dX12_crossTold_48 : decode cX12_crossTold 48 = .ok (.aload_n 0, 1) := by decide +kernel
theorem dX12_crossTold_49 : decode cX12_crossTold 49 = .ok (.invokevirtual 129, 3) := by decide +kernel
theorem dX12_crossTold_52 : decode cX12_crossTold 52 = .ok (.istore_n 3, 1) := by decide +kernel
theorem dX12_crossTold_53 : decode cX12_crossTold 53 = .ok (.aload_n 0, 1) := by decide +kernel
theorem dX12_crossTold_54 : decode cX12_crossTold 54 = .ok (.getfield 17, 3) := by decide +kernel
theorem dX12_crossTold_57 : decode cX12_crossTold 57 = .ok (.iconst 0, 1) := by decide +kernel
theorem dX12_crossTold_58 : decode cX12_crossTold 58 = .ok (.iaload, 1) := by decide +kernel
theorem dX12_crossTold_59 : decode cX12_crossTold 59 = .ok (.bipush 7, 2) := by decide +kernel
theorem dX12_crossTold_61 : decode cX12_crossTold 61 = .ok (.if_icmp .ge 27, 3) := by decide +kernel
theorem dX12_crossTold_64 : decode cX12_crossTold 64 = .ok (.iload_n 2, 1) := by decide +kernel
theorem dX12_crossTold_65 : decode cX12_crossTold 65 = .ok (.iconst 4, 1) := by decide +kernel
theorem dX12_crossTold_66 : decode cX12_crossTold 66 = .ok (.if_icmp .ge 22, 3) := by decide +kernel
theorem dX12_crossTold_69 : decode cX12_crossTold 69 = .ok (.aload_n 0, 1) := by decide +kernel
theorem dX12_crossTold_70 : decode cX12_crossTold 70 = .ok (.getfield 17, 3) := by decide +kernel
theorem dX12_crossTold_73 : decode cX12_crossTold 73 = .ok (.bipush 23, 2) := by decide +kernel
theorem dX12_crossTold_75 : decode cX12_crossTold 75 = .ok (.iconst 4, 1) := by decide +kernel
theorem dX12_crossTold_76 : decode cX12_crossTold 76 = .ok (.aload_n 0, 1) := by decide +kernel
theorem dX12_crossTold_77 : decode cX12_crossTold 77 = .ok (.getfield 17, 3) := by decide +kernel
theorem dX12_crossTold_80 : decode cX12_crossTold 80 = .ok (.iconst 0, 1) := by decide +kernel
theorem dX12_crossTold_81 : decode cX12_crossTold 81 = .ok (.iaload, 1) := by decide +kernel
theorem dX12_crossTold_82 : decode cX12_crossTold 82 = .ok (.imul, 1) := by decide +kernel
theorem dX12_crossTold_83 : decode cX12_crossTold 83 = .ok (.iadd, 1) := by decide +kernel
theorem dX12_crossTold_84 : decode cX12_crossTold 84 = .ok (.iload_n 2, 1) := by decide +kernel
theorem dX12_crossTold_85 : decode cX12_crossTold 85 = .ok (.iadd, 1) := by decide +kernel
theorem dX12_crossTold_86 : decode cX12_crossTold 86 = .ok (.iload_n 3, 1) := by decide +kernel
theorem dX12_crossTold_87 : decode cX12_crossTold 87 = .ok (.iastore, 1) := by decide +kernel
theorem dX12_crossTold_88 : decode cX12_crossTold 88 = .ok (.iload_n 2, 1) := by decide +kernel
theorem dX12_crossTold_89 : decode cX12_crossTold 89 = .ok (.iconst 4, 1) := by decide +kernel
theorem dX12_crossTold_90 : decode cX12_crossTold 90 = .ok (.if_icmp .ge 9, 3) := by decide +kernel
theorem dX12_crossTold_93 : decode cX12_crossTold 93 = .ok (.iload_n 2, 1) := by decide +kernel
theorem dX12_crossTold_94 : decode cX12_crossTold 94 = .ok (.iconst 1, 1) := by decide +kernel
theorem dX12_crossTold_95 : decode cX12_crossTold 95 = .ok (.iadd, 1) := by decide +kernel
theorem dX12_crossTold_96 : decode cX12_crossTold 96 = .ok (.goto 4, 3) := by decide +kernel
theorem dX12_crossTold_99 : decode cX12_crossTold 99 = .ok (.iconst 4, 1) := by decide +kernel
theorem dX12_crossTold_100 : decode cX12_crossTold 100 = .ok (.istore_n 2, 1) := by decide +kernel
theorem dX12_crossTold_101 : decode cX12_crossTold 101 = .ok (.goto (-82), 3) := by decide +kernel
theorem dX12_crossTold_104 : decode cX12_crossTold 104 = .ok (.aload_n 0, 1) := by decide +kernel
theorem dX12_crossTold_105 : decode cX12_crossTold 105 = .ok (.getfield 17, 3) := by decide +kernel
theorem dX12_crossTold_108 : decode cX12_crossTold 108 = .ok (.iconst 0, 1) := by decide +kernel
theorem dX12_crossTold_109 : decode cX12_crossTold 109 = .ok (.iaload, 1) := by decide +kernel
theorem dX12_crossTold_110 : decode cX12_crossTold 110 = .ok (.bipush 7, 2) := by decide +kernel
theorem dX12_crossTold_112 : decode cX12_crossTold 112 = .ok (.if_icmp .lt 4, 3) := by decide +kernel
theorem dX12_crossTold_115 : decode cX12_crossTold 115 = .ok (.return_, 1) := by decide +kernel
theorem dX12_crossTold_116 : decode cX12_crossTold 116 = .ok (.aload_n 0, 1) := by decide +kernel
theorem dX12_crossTold_117 : decode cX12_crossTold 117 = .ok (.getfield 17, 3) := by decide +kernel
theorem dX12_crossTold_120 : decode cX12_crossTold 120 = .ok (.iconst 2, 1) := by decide +kernel
theorem dX12_crossTold_121 : decode cX12_crossTold 121 = .ok (.aload_n 0, 1) := by decide +kernel
theorem dX12_crossTold_122 : decode cX12_crossTold 122 = .ok (.getfield 17, 3) := by decide +kernel
theorem dX12_crossTold_125 : decode cX12_crossTold 125 = .ok (.iconst 0, 1) := by decide +kernel
theorem dX12_crossTold_126 : decode cX12_crossTold 126 = .ok (.iaload, 1) := by decide +kernel
theorem dX12_crossTold_127 : decode cX12_crossTold 127 = .ok (.iadd, 1) := by decide +kernel
theorem dX12_crossTold_128 : decode cX12_crossTold 128 = .ok (.iload_n 2, 1) := by decide +kernel
theorem dX12_crossTold_129 : decode cX12_crossTold 129 = .ok (.iastore, 1) := by decide +kernel
theorem dX12_crossTold_130 : decode cX12_crossTold 130 = .ok (.aload_n 0, 1) := by decide +kernel
theorem dX12_crossTold_131 : decode cX12_crossTold 131 = .ok (.getfield 17, 3) := by decide +kernel
theorem dX12_crossTold_134 : decode cX12_crossTold 134 = .ok (.iconst 0, 1) := by decide +kernel
theorem dX12_crossTold_135 : decode cX12_crossTold 135 = .ok (.dup2, 1) := by decide +kernel
theorem dX12_crossTold_136 : decode cX12_crossTold 136 = .ok (.iaload, 1) := by decide +kernel
theorem dX12_crossTold_137 : decode cX12_crossTold 137 = .ok (.iconst 1, 1) := by decide +kernel
theorem dX12_crossTold_138 : decode cX12_crossTold 138 = .ok (.iadd, 1) := by decide +kernel
theorem dX12_crossTold_139 : decode cX12_crossTold 139 = .ok (.iastore, 1) := by decide +kernel
theorem dX12_crossTold_140 : decode cX12_crossTold 140 = .ok (.return_, 1) := by decide +kernel
theorem dX12_landLine_0 : decode cX12_landLine 0 = .ok (.aload_n 0, 1) := by decide +kernel
theorem dX12_landLine_1 : decode cX12_landLine 1 = .ok (.getfield 77, 3) := by decide +kernel
theorem dX12_landLine_4 : decode cX12_landLine 4 = .ok (.istore_n 1, 1) := by decide +kernel
theorem dX12_landLine_5 : decode cX12_landLine 5 = .ok (.aload_n 0, 1) := by decide +kernel
theorem dX12_landLine_6 : decode cX12_landLine 6 = .ok (.iconst 1, 1) := by decide +kernel
theorem dX12_landLine_7 : decode cX12_landLine 7 = .ok (.iconst 4, 1) := by decide +kernel
theorem dX12_landLine_8 : decode cX12_landLine 8 = .ok (.invokevirtual 133, 3) := by decide +kernel
theorem dX12_landLine_11 : decode cX12_landLine 11 = .ok (.istore_n 2, 1) := by decide +kernel
theorem dX12_landLine_12 : decode cX12_landLine 12 = .ok (.aload_n 0, 1) := by decide +kernel
theorem dX12_landLine_13 : decode cX12_landLine 13 = .ok (.getfield 104, 3) := by decide +kernel
theorem dX12_landLine_16 : decode cX12_landLine 16 = .ok (.ifCond .eq 7, 3) := by decide +kernel
theorem dX12_landLine_19 : decode cX12_landLine 19 = .ok (.iconst 0, 1) := by decide +kernel
theorem dX12_landLine_20 : decode cX12_landLine 20 = .ok (.goto 4, 3) := by decide +kernel
theorem dX12_landLine_23 : decode cX12_landLine 23 = .ok (.iload_n 2, 1) := by decide +kernel
theorem dX12_landLine_24 : decode cX12_landLine 24 = .ok (.tableswitch 105 1 4 #[32, 40, 63, 87], 32) := by decide +kernel
theorem dX12_landLine_56 : decode cX12_landLine 56 = .ok (.aload_n 0, 1) := by decide +kernel
theorem dX12_landLine_57 : decode cX12_landLine 57 = .ok (.iload_n 1, 1) := by decide +kernel
theorem dX12_landLine_58 : decode cX12_landLine 58 = .ok (.invokevirtual 136, 3) := by decide +kernel
theorem dX12_landLine_61 : decode cX12_landLine 61 = .ok (.goto 68, 3) := by decide +kernel
theorem dX12_landLine_64 : decode cX12_landLine 64 = .ok (.aload_n 0, 1) := by decide +kernel
theorem dX12_landLine_65 : decode cX12_landLine 65 = .ok (.invokevirtual 129, 3) := by decide +kernel
theorem dX12_landLine_68 : decode cX12_landLine 68 = .ok (.istore_n 3, 1) := by decide +kernel
theorem dX12_landLine_69 : decode cX12_landLine 69 = .ok (.aload_n 0, 1) := by decide +kernel
theorem dX12_landLine_70 : decode cX12_landLine 70 = .ok (.getfield 17, 3) := by decide +kernel
theorem dX12_landLine_73 : decode cX12_landLine 73 = .ok (.bipush 9, 2) := by decide +kernel
theorem dX12_landLine_75 : decode cX12_landLine 75 = .ok (.iload_n 3, 1) := by decide +kernel
theorem dX12_landLine_76 : decode cX12_landLine 76 = .ok (.iadd, 1) := by decide +kernel
theorem dX12_landLine_77 : decode cX12_landLine 77 = .ok (.aload_n 0, 1) := by decide +kernel
theorem dX12_landLine_78 : decode cX12_landLine 78 = .ok (.iconst 0, 1) := by decide +kernel
theorem dX12_landLine_79 : decode cX12_landLine 79 = .ok (.iconst 3, 1) := by decide +kernel
theorem dX12_landLine_80 : decode cX12_landLine 80 = .ok (.invokevirtual 122, 3) := by decide +kernel
theorem dX12_landLine_83 : decode cX12_landLine 83 = .ok (.iastore, 1) := by decide +kernel
theorem dX12_landLine_84 : decode cX12_landLine 84 = .ok (.goto 45, 3) := by decide +kernel
theorem dX12_landLine_87 : decode cX12_landLine 87 = .ok (.aload_n 0, 1) := by decide +kernel
theorem dX12_landLine_88 : decode cX12_landLine 88 = .ok (.invokevirtual 129, 3) := by decide +kernel
theorem dX12_landLine_91 : decode cX12_landLine 91 = .ok (.istore_n 3, 1) := by decide +kernel
theorem dX12_landLine_92 : decode cX12_landLine 92 = .ok (.aload_n 0, 1) := by decide +kernel
theorem dX12_landLine_93 : decode cX12_landLine 93 = .ok (.getfield 17, 3) := by decide +kernel
theorem dX12_landLine_96 : decode cX12_landLine 96 = .ok (.bipush 16, 2) := by decide +kernel
theorem dX12_landLine_98 : decode cX12_landLine 98 = .ok (.iload_n 3, 1) := by decide +kernel
theorem dX12_landLine_99 : decode cX12_landLine 99 = .ok (.iadd, 1) := by decide +kernel
theorem dX12_landLine_100 : decode cX12_landLine 100 = .ok (.aload_n 0, 1) := by decide +kernel
theorem dX12_landLine_101 : decode cX12_landLine 101 = .ok (.iconst 0, 1) := by decide +kernel
theorem dX12_landLine_102 : decode cX12_landLine 102 = .ok (.bipush 9, 2) := by decide +kernel
theorem dX12_landLine_104 : decode cX12_landLine 104 = .ok (.invokevirtual 122, 3) := by decide +kernel
theorem dX12_landLine_107 : decode cX12_landLine 107 = .ok (.iastore, 1) := by decide +kernel
theorem dX12_landLine_108 : decode cX12_landLine 108 = .ok (.goto 21, 3) := by decide +kernel
theorem dX12_landLine_111 : decode cX12_landLine 111 = .ok (.aload_n 0, 1) := by decide +kernel
theorem dX12_landLine_112 : decode cX12_landLine 112 = .ok (.getfield 17, 3) := by decide +kernel
theorem dX12_landLine_115 : decode cX12_landLine 115 = .ok (.iconst 1, 1) := by decide +kernel
theorem dX12_landLine_116 : decode cX12_landLine 116 = .ok (.dup2, 1) := by decide +kernel
theorem dX12_landLine_117 : decode cX12_landLine 117 = .ok (.iaload, 1) := by decide +kernel
theorem dX12_landLine_118 : decode cX12_landLine 118 = .ok (.iconst 1, 1) := by decide +kernel
theorem dX12_landLine_119 : decode cX12_landLine 119 = .ok (.aload_n 0, 1) := by decide +kernel
theorem dX12_landLine_120 : decode cX12_landLine 120 = .ok (.invokevirtual 129, 3) := by decide +kernel
theorem dX12_landLine_123 : decode cX12_landLine 123 = .ok (.ishl, 1) := by decide +kernel
theorem dX12_landLine_124 : decode cX12_landLine 124 = .ok (.ior, 1) := by decide +kernel
theorem dX12_landLine_125 : decode cX12_landLine 125 = .ok (.iastore, 1) := by decide +kernel
theorem dX12_landLine_126 : decode cX12_landLine 126 = .ok (.goto 3, 3) := by decide +kernel
theorem dX12_landLine_129 : decode cX12_landLine 129 = .ok (.aload_n 0, 1) := by decide +kernel
theorem dX12_landLine_130 : decode cX12_landLine 130 = .ok (.invokevirtual 140, 3) := by decide +kernel
theorem dX12_landLine_133 : decode cX12_landLine 133 = .ok (.return_, 1) := by decide +kernel
theorem dX12_dayLine_0 : decode cX12_dayLine 0 = .ok (.aload_n 0, 1) := by decide +kernel
theorem dX12_dayLine_1 : decode cX12_dayLine 1 = .ok (.getfield 77, 3) := by decide +kernel
theorem dX12_dayLine_4 : decode cX12_dayLine 4 = .ok (.istore_n 1, 1) := by decide +kernel
theorem dX12_dayLine_5 : decode cX12_dayLine 5 = .ok (.aload_n 0, 1) := by decide +kernel
theorem dX12_dayLine_6 : decode cX12_dayLine 6 = .ok (.iconst 5, 1) := by decide +kernel
theorem dX12_dayLine_7 : decode cX12_dayLine 7 = .ok (.bipush 10, 2) := by decide +kernel
theorem dX12_dayLine_9 : decode cX12_dayLine 9 = .ok (.invokevirtual 133, 3) := by decide +kernel
theorem dX12_dayLine_12 : decode cX12_dayLine 12 = .ok (.iconst 5, 1) := by decide +kernel
theorem dX12_dayLine_13 : decode cX12_dayLine 13 = .ok (.isub, 1) := by decide +kernel
theorem dX12_dayLine_14 : decode cX12_dayLine 14 = .ok (.istore_n 2, 1) := by decide +kernel
theorem dX12_dayLine_15 : decode cX12_dayLine 15 = .ok (.aload_n 0, 1) := by decide +kernel
theorem dX12_dayLine_16 : decode cX12_dayLine 16 = .ok (.getfield 104, 3) := by decide +kernel
theorem dX12_dayLine_19 : decode cX12_dayLine 19 = .ok (.ifCond .ne 20, 3) := by decide +kernel
theorem dX12_dayLine_22 : decode cX12_dayLine 22 = .ok (.aload_n 0, 1) := by decide +kernel
theorem dX12_dayLine_23 : decode cX12_dayLine 23 = .ok (.getfield 17, 3) := by decide +kernel
theorem dX12_dayLine_26 : decode cX12_dayLine 26 = .ok (.iconst 0, 1) := by decide +kernel
theorem dX12_dayLine_27 : decode cX12_dayLine 27 = .ok (.iaload, 1) := by decide +kernel
theorem dX12_dayLine_28 : decode cX12_dayLine 28 = .ok (.bipush 40, 2) := by decide +kernel
theorem dX12_dayLine_30 : decode cX12_dayLine 30 = .ok (.if_icmp .lt 9, 3) := by decide +kernel
theorem dX12_dayLine_33 : decode cX12_dayLine 33 = .ok (.aload_n 0, 1) := by decide +kernel
theorem dX12_dayLine_34 : decode cX12_dayLine 34 = .ok (.iconst 3, 1) := by decide +kernel
theorem dX12_dayLine_35 : decode cX12_dayLine 35 = .ok (.iload_n 1, 1) := by decide +kernel
theorem dX12_dayLine_36 : decode cX12_dayLine 36 = .ok (.invokevirtual 115, 3) := by decide +kernel
theorem dX12_dayLine_39 : decode cX12_dayLine 39 = .ok (.aload_n 0, 1) := by decide +kernel
theorem dX12_dayLine_40 : decode cX12_dayLine 40 = .ok (.iconst 0, 1) := by decide +kernel
theorem dX12_dayLine_41 : decode cX12_dayLine 41 = .ok (.bipush 6, 2) := by decide +kernel
theorem dX12_dayLine_43 : decode cX12_dayLine 43 = .ok (.invokevirtual 122, 3) := by decide +kernel
theorem dX12_dayLine_46 : decode cX12_dayLine 46 = .ok (.istore_n 3, 1) := by decide +kernel
theorem dX12_dayLine_47 : decode cX12_dayLine 47 = .ok (.iload_n 2, 1) := by decide +kernel
theorem dX12_dayLine_48 : decode cX12_dayLine 48 = .ok (.iconst 3, 1) := by decide +kernel
theorem dX12_dayLine_49 : decode cX12_dayLine 49 = .ok (.if_icmp .le 12, 3) := by decide +kernel
theorem dX12_dayLine_52 : decode cX12_dayLine 52 = .ok (.aload_n 0, 1) := by decide +kernel
theorem dX12_dayLine_53 : decode cX12_dayLine 53 = .ok (.iconst 0, 1) := by decide +kernel
theorem dX12_dayLine_54 : decode cX12_dayLine 54 = .ok (.iconst 3, 1) := by decide +kernel
theorem dX12_dayLine_55 : decode cX12_dayLine 55 = .ok (.invokevirtual 122, 3) := by decide +kernel
theorem dX12_dayLine_58 : decode cX12_dayLine 58 = .ok (.goto 4, 3) := by decide +kernel
theorem dX12_dayLine_61 : decode cX12_dayLine 61 = .ok (.iconst (-1), 1) := by decide +kernel
theorem dX12_dayLine_62 : decode cX12_dayLine 62 = .ok (.istore 4, 2) := by decide +kernel
theorem dX12_dayLine_64 : decode cX12_dayLine 64 = .ok (.aload_n 0, 1) := by decide +kernel
theorem dX12_dayLine_65 : decode cX12_dayLine 65 = .ok (.getfield 17, 3) := by decide +kernel
theorem dX12_dayLine_68 : decode cX12_dayLine 68 = .ok (.iconst 0, 1) := by decide +kernel
theorem dX12_dayLine_69 : decode cX12_dayLine 69 = .ok (.iaload, 1) := by decide +kernel
theorem dX12_dayLine_70 : decode cX12_dayLine 70 = .ok (.bipush 40, 2) := by decide +kernel
theorem dX12_dayLine_72 : decode cX12_dayLine 72 = .ok (.if_icmp .ge 54, 3) := by decide +kernel
theorem dX12_dayLine_75 : decode cX12_dayLine 75 = .ok (.iconst 1, 1) := by decide +kernel
theorem dX12_dayLine_76 : decode cX12_dayLine 76 = .ok (.iconst 3, 1) := by decide +kernel
theorem dX12_dayLine_77 : decode cX12_dayLine 77 = .ok (.aload_n 0, 1) := by decide +kernel
theorem dX12_dayLine_78 : decode cX12_dayLine 78 = .ok (.getfield 17, 3) := by decide +kernel
theorem dX12_dayLine_81 : decode cX12_dayLine 81 = .ok (.iconst 0, 1) := by decide +kernel
theorem dX12_dayLine_82 : decode cX12_dayLine 82 = .ok (.iaload, 1) := by decide +kernel
theorem dX12_dayLine_83 : decode cX12_dayLine 83 = .ok (.imul, 1) := by decide +kernel
theorem dX12_dayLine_84 : decode cX12_dayLine 84 = .ok (.iadd, 1) := by decide +kernel
theorem dX12_dayLine_85 : decode cX12_dayLine 85 = .ok (.istore 5, 2) := by decide +kernel
theorem dX12_dayLine_87 : decode cX12_dayLine 87 = .ok (.aload_n 0, 1) := by decide +kernel
theorem dX12_dayLine_88 : decode cX12_dayLine 88 = .ok (.getfield 17, 3) := by decide +kernel
theorem dX12_dayLine_91 : decode cX12_dayLine 91 = .ok (.iload 5, 2) := by decide +kernel
theorem dX12_dayLine_93 : decode cX12_dayLine 93 = .ok (.iload_n 2, 1) := by decide +kernel
theorem dX12_dayLine_94 : decode cX12_dayLine 94 = .ok (.iastore, 1) := by decide +kernel
theorem dX12_dayLine_95 : decode cX12_dayLine 95 = .ok (.aload_n 0, 1) := by decide +kernel
theorem dX12_dayLine_96 : decode cX12_dayLine 96 = .ok (.getfield 17, 3) := by decide +kernel
theorem dX12_dayLine_99 : decode cX12_dayLine 99 = .ok (.iload 5, 2) := by decide +kernel
theorem dX12_dayLine_101 : decode cX12_dayLine 101 = .ok (.iconst 1, 1) := by decide +kernel
theorem dX12_dayLine_102 : decode cX12_dayLine 102 = .ok (.iadd, 1) := by decide +kernel
theorem dX12_dayLine_103 : decode cX12_dayLine 103 = .ok (.iload_n 3, 1) := by decide +kernel
theorem dX12_dayLine_104 : decode cX12_dayLine 104 = .ok (.iastore, 1) := by decide +kernel
theorem dX12_dayLine_105 : decode cX12_dayLine 105 = .ok (.aload_n 0, 1) := by decide +kernel
theorem dX12_dayLine_106 : decode cX12_dayLine 106 = .ok (.getfield 17, 3) := by decide +kernel
theorem dX12_dayLine_109 : decode cX12_dayLine 109 = .ok (.iload 5, 2) := by decide +kernel
theorem dX12_dayLine_111 : decode cX12_dayLine 111 = .ok (.iconst 2, 1) := by decide +kernel
theorem dX12_dayLine_112 : decode cX12_dayLine 112 = .ok (.iadd, 1) := by decide +kernel
theorem dX12_dayLine_113 : decode cX12_dayLine 113 = .ok (.iload 4, 2) := by decide +kernel
theorem dX12_dayLine_115 : decode cX12_dayLine 115 = .ok (.iastore, 1) := by decide +kernel
theorem dX12_dayLine_116 : decode cX12_dayLine 116 = .ok (.aload_n 0, 1) := by decide +kernel
theorem dX12_dayLine_117 : decode cX12_dayLine 117 = .ok (.getfield 17, 3) := by decide +kernel
theorem dX12_dayLine_120 : decode cX12_dayLine 120 = .ok (.iconst 0, 1) := by decide +kernel
theorem dX12_dayLine_121 : decode cX12_dayLine 121 = .ok (.dup2, 1) := by decide +kernel
theorem dX12_dayLine_122 : decode cX12_dayLine 122 = .ok (.iaload, 1) := by decide +kernel
theorem dX12_dayLine_123 : decode cX12_dayLine 123 = .ok (.iconst 1, 1) := by decide +kernel
theorem dX12_dayLine_124 : decode cX12_dayLine 124 = .ok (.iadd, 1) := by decide +kernel
theorem dX12_dayLine_125 : decode cX12_dayLine 125 = .ok (.iastore, 1) := by decide +kernel
theorem dX12_dayLine_126 : decode cX12_dayLine 126 = .ok (.aload_n 0, 1) := by decide +kernel
theorem dX12_dayLine_127 : decode cX12_dayLine 127 = .ok (.invokevirtual 140, 3) := by decide +kernel
theorem dX12_dayLine_130 : decode cX12_dayLine 130 = .ok (.return_, 1) := by decide +kernel
theorem dX12_logLine_0 : decode cX12_logLine 0 = .ok (.aload_n 0, 1) := by decide +kernel
theorem dX12_logLine_1 : decode cX12_logLine 1 = .ok (.getfield 77, 3) := by decide +kernel
theorem dX12_logLine_4 : decode cX12_logLine 4 = .ok (.istore_n 1, 1) := by decide +kernel
theorem dX12_logLine_5 : decode cX12_logLine 5 = .ok (.aload_n 0, 1) := by decide +kernel
theorem dX12_logLine_6 : decode cX12_logLine 6 = .ok (.bipush 11, 2) := by decide +kernel
theorem dX12_logLine_8 : decode cX12_logLine 8 = .ok (.bipush 12, 2) := by decide +kernel
theorem dX12_logLine_10 : decode cX12_logLine 10 = .ok (.invokevirtual 133, 3) := by decide +kernel
theorem dX12_logLine_13 : decode cX12_logLine 13 = .ok (.bipush 11, 2) := by decide +kernel
theorem dX12_logLine_15 : decode cX12_logLine 15 = .ok (.if_icmp .ne 7, 3) := by decide +kernel
theorem dX12_logLine_18 : decode cX12_logLine 18 = .ok (.iconst 1, 1) := by decide +kernel
theorem dX12_logLine_19 : decode cX12_logLine 19 = .ok (.goto 4, 3) := by decide +kernel
theorem dX12_logLine_22 : decode cX12_logLine 22 = .ok (.iconst 0, 1) := by decide +kernel
theorem dX12_logLine_23 : decode cX12_logLine 23 = .ok (.istore_n 2, 1) := by decide +kernel
theorem dX12_logLine_24 : decode cX12_logLine 24 = .ok (.aload_n 0, 1) := by decide +kernel
theorem dX12_logLine_25 : decode cX12_logLine 25 = .ok (.getfield 104, 3) := by decide +kernel
theorem dX12_logLine_28 : decode cX12_logLine 28 = .ok (.ifCond .ne 20, 3) := by decide +kernel
theorem dX12_logLine_31 : decode cX12_logLine 31 = .ok (.aload_n 0, 1) := by decide +kernel
theorem dX12_logLine_32 : decode cX12_logLine 32 = .ok (.getfield 17, 3) := by decide +kernel
theorem dX12_logLine_35 : decode cX12_logLine 35 = .ok (.iconst 0, 1) := by decide +kernel
theorem dX12_logLine_36 : decode cX12_logLine 36 = .ok (.iaload, 1) := by decide +kernel
theorem dX12_logLine_37 : decode cX12_logLine 37 = .ok (.bipush 8, 2) := by decide +kernel
theorem dX12_logLine_39 : decode cX12_logLine 39 = .ok (.if_icmp .lt 9, 3) := by decide +kernel
theorem dX12_logLine_42 : decode cX12_logLine 42 = .ok (.aload_n 0, 1) := by decide +kernel
theorem dX12_logLine_43 : decode cX12_logLine 43 = .ok (.iconst 3, 1) := by decide +kernel
theorem dX12_logLine_44 : decode cX12_logLine 44 = .ok (.iload_n 1, 1) := by decide +kernel
theorem dX12_logLine_45 : decode cX12_logLine 45 = .ok (.invokevirtual 115, 3) := by decide +kernel
theorem dX12_logLine_48 : decode cX12_logLine 48 = .ok (.aload_n 0, 1) := by decide +kernel
theorem dX12_logLine_49 : decode cX12_logLine 49 = .ok (.iconst 0, 1) := by decide +kernel
theorem dX12_logLine_50 : decode cX12_logLine 50 = .ok (.bipush 6, 2) := by decide +kernel
theorem dX12_logLine_52 : decode cX12_logLine 52 = .ok (.invokevirtual 122, 3) := by decide +kernel
theorem dX12_logLine_55 : decode cX12_logLine 55 = .ok (.istore_n 3, 1) := by decide +kernel
theorem dX12_logLine_56 : decode cX12_logLine 56 = .ok (.iload_n 2, 1) := by decide +kernel
theorem dX12_logLine_57 : decode cX12_logLine 57 = .ok (.ifCond .eq 13, 3) := by decide +kernel
theorem dX12_logLine_60 : decode cX12_logLine 60 = .ok (.aload_n 0, 1) := by decide +kernel
theorem dX12_logLine_61 : decode cX12_logLine 61 = .ok (.iconst 0, 1) := by decide +kernel
theorem dX12_logLine_62 : decode cX12_logLine 62 = .ok (.bipush 6, 2) := by decide +kernel
theorem dX12_logLine_64 : decode cX12_logLine 64 = .ok (.invokevirtual 122, 3) := by decide +kernel
theorem dX12_logLine_67 : decode cX12_logLine 67 = .ok (.goto 4, 3) := by decide +kernel
theorem dX12_logLine_70 : decode cX12_logLine 70 = .ok (.iconst (-1), 1) := by decide +kernel
theorem dX12_logLine_71 : decode cX12_logLine 71 = .ok (.istore 4, 2) := by decide +kernel
theorem dX12_logLine_73 : decode cX12_logLine 73 = .ok (.aload_n 0, 1) := by decide +kernel
theorem dX12_logLine_74 : decode cX12_logLine 74 = .ok (.getfield 17, 3) := by decide +kernel
theorem dX12_logLine_77 : decode cX12_logLine 77 = .ok (.iconst 0, 1) := by decide +kernel
theorem dX12_logLine_78 : decode cX12_logLine 78 = .ok (.iaload, 1) := by decide +kernel
theorem dX12_logLine_79 : decode cX12_logLine 79 = .ok (.bipush 8, 2) := by decide +kernel
theorem dX12_logLine_81 : decode cX12_logLine 81 = .ok (.if_icmp .ge 46, 3) := by decide +kernel
theorem dX12_logLine_84 : decode cX12_logLine 84 = .ok (.aload_n 0, 1) := by decide +kernel
theorem dX12_logLine_85 : decode cX12_logLine 85 = .ok (.getfield 17, 3) := by decide +kernel
theorem dX12_logLine_88 : decode cX12_logLine 88 = .ok (.iconst 1, 1) := by decide +kernel
theorem dX12_logLine_89 : decode cX12_logLine 89 = .ok (.iconst 2, 1) := by decide +kernel
theorem dX12_logLine_90 : decode cX12_logLine 90 = .ok (.aload_n 0, 1) := by decide +kernel
theorem dX12_logLine_91 : decode cX12_logLine 91 = .ok (.getfield 17, 3) := by decide +kernel
theorem dX12_logLine_94 : decode cX12_logLine 94 = .ok (.iconst 0, 1) := by decide +kernel
theorem dX12_logLine_95 : decode cX12_logLine 95 = .ok (.iaload, 1) := by decide +kernel
theorem dX12_logLine_96 : decode cX12_logLine 96 = .ok (.imul, 1) := by decide +kernel
theorem dX12_logLine_97 : decode cX12_logLine 97 = .ok (.iadd, 1) := by decide +kernel
theorem dX12_logLine_98 : decode cX12_logLine 98 = .ok (.iload_n 3, 1) := by decide +kernel
theorem dX12_logLine_99 : decode cX12_logLine 99 = .ok (.iastore, 1) := by decide +kernel
theorem dX12_logLine_100 : decode cX12_logLine 100 = .ok (.aload_n 0, 1) := by decide +kernel
theorem dX12_logLine_101 : decode cX12_logLine 101 = .ok (.getfield 17, 3) := by decide +kernel
theorem dX12_logLine_104 : decode cX12_logLine 104 = .ok (.iconst 2, 1) := by decide +kernel
theorem dX12_logLine_105 : decode cX12_logLine 105 = .ok (.iconst 2, 1) := by decide +kernel
theorem dX12_logLine_106 : decode cX12_logLine 106 = .ok (.aload_n 0, 1) := by decide +kernel
theorem dX12_logLine_107 : decode cX12_logLine 107 = .ok (.getfield 17, 3) := by decide +kernel
theorem dX12_logLine_110 : decode cX12_logLine 110 = .ok (.iconst 0, 1) := by decide +kernel
theorem dX12_logLine_111 : decode cX12_logLine 111 = .ok (.iaload, 1) := by decide +kernel
theorem dX12_logLine_112 : decode cX12_logLine 112 = .ok (.imul, 1) := by decide +kernel
theorem dX12_logLine_113 : decode cX12_logLine 113 = .ok (.iadd, 1) := by decide +kernel
theorem dX12_logLine_114 : decode cX12_logLine 114 = .ok (.iload 4, 2) := by decide +kernel
theorem dX12_logLine_116 : decode cX12_logLine 116 = .ok (.iastore, 1) := by decide +kernel
theorem dX12_logLine_117 : decode cX12_logLine 117 = .ok (.aload_n 0, 1) := by decide +kernel
theorem dX12_logLine_118 : decode cX12_logLine 118 = .ok (.getfield 17, 3) := by decide +kernel
theorem dX12_logLine_121 : decode cX12_logLine 121 = .ok (.iconst 0, 1) := by decide +kernel
theorem dX12_logLine_122 : decode cX12_logLine 122 = .ok (.dup2, 1) := by decide +kernel
theorem dX12_logLine_123 : decode cX12_logLine 123 = .ok (.iaload, 1) := by decide +kernel
theorem dX12_logLine_124 : decode cX12_logLine 124 = .ok (.iconst 1, 1) := by decide +kernel
theorem dX12_logLine_125 : decode cX12_logLine 125 = .ok (.iadd, 1) := by decide +kernel
theorem dX12_logLine_126 : decode cX12_logLine 126 = .ok (.iastore, 1) := by decide +kernel
theorem dX12_logLine_127 : decode cX12_logLine 127 = .ok (.aload_n 0, 1) := by decide +kernel
theorem dX12_logLine_128 : decode cX12_logLine 128 = .ok (.invokevirtual 140, 3) := by decide +kernel
theorem dX12_logLine_131 : decode cX12_logLine 131 = .ok (.return_, 1) := by decide +kernel


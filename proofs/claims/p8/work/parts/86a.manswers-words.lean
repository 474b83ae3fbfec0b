theorem m_co_X12_isLand : Cond.code yX12_isLand cX12_isLand 2 (some .boolean) ∈ zT := zmem1 zsub_6 231 (by decide +kernel) (by decide +kernel)
theorem m_ml_RX12_184 : Cond.methodLink RX12 184 yX12_isLand ∈ zT := zmem1 zsub_6 228 (by decide +kernel) (by decide +kernel)
theorem m_im_X12_isLand : Cond.instanceMethod yX12_isLand ∈ zT := zmem1 zsub_6 230 (by decide +kernel) (by decide +kernel)
theorem m_se_X12_isLand : Cond.selects RX12 yX12_isLand yX12_isLand ∈ zT := zmem 59 (by decide +kernel) (by decide +kernel)
theorem m_co_X12_isCrossing : Cond.code yX12_isCrossing cX12_isCrossing 2 (some .boolean) ∈ zT := zmem1 zsub_7 3 (by decide +kernel) (by decide +kernel)
theorem m_ml_RX12_187 : Cond.methodLink RX12 187 yX12_isCrossing ∈ zT := zmem1 zsub_7 0 (by decide +kernel) (by decide +kernel)
theorem m_im_X12_isCrossing : Cond.instanceMethod yX12_isCrossing ∈ zT := zmem1 zsub_7 2 (by decide +kernel) (by decide +kernel)
theorem m_se_X12_isCrossing : Cond.selects RX12 yX12_isCrossing yX12_isCrossing ∈ zT := zmem 62 (by decide +kernel) (by decide +kernel)
theorem m_co_X12_walks : Cond.code yX12_walks cX12_walks 3 (some .boolean) ∈ zT := zmem1 zsub_7 19 (by decide +kernel) (by decide +kernel)
theorem m_ml_RX12_217 : Cond.methodLink RX12 217 yX12_walks ∈ zT := zmem1 zsub_7 16 (by decide +kernel) (by decide +kernel)
theorem m_im_X12_walks : Cond.instanceMethod yX12_walks ∈ zT := zmem1 zsub_7 18 (by decide +kernel) (by decide +kernel)
theorem m_se_X12_walks : Cond.selects RX12 yX12_walks yX12_walks ∈ zT := zmem 65 (by decide +kernel) (by decide +kernel)
theorem m_co_X12_postsNow : Cond.code yX12_postsNow cX12_postsNow 3 (some .int) ∈ zT := zmem1 zsub_7 55 (by decide +kernel) (by decide +kernel)
theorem m_ml_RX12_220 : Cond.methodLink RX12 220 yX12_postsNow ∈ zT := zmem1 zsub_7 52 (by decide +kernel) (by decide +kernel)
theorem m_im_X12_postsNow : Cond.instanceMethod yX12_postsNow ∈ zT := zmem1 zsub_7 54 (by decide +kernel) (by decide +kernel)
theorem m_se_X12_postsNow : Cond.selects RX12 yX12_postsNow yX12_postsNow ∈ zT := zmem 70 (by decide +kernel) (by decide +kernel)
theorem kV_RX12_184 {R : Room} {s : State} {args : Array Value} {d mc ms : Nat} (hts : ∀ w ∈ zT, w.before args s = true) (h1 : d + 1 ≤ R.frames) (h2 : 8 + (2 + 11) + 40 * d ≤ R.locals) : CallW R s args RX12 RX12 184 yX12_isLand cX12_isLand 2 (some .boolean) (zW yX12_isLand cX12_isLand 2 (some .boolean)) (zR d mc ms) mc ms 1 := z_cwV hts m_co_X12_isLand m_ml_RX12_184 m_im_X12_isLand m_se_X12_isLand m_ii_RX12 (by decide +kernel) h1 h2
theorem kV_RX12_187 {R : Room} {s : State} {args : Array Value} {d mc ms : Nat} (hts : ∀ w ∈ zT, w.before args s = true) (h1 : d + 1 ≤ R.frames) (h2 : 8 + (2 + 11) + 40 * d ≤ R.locals) : CallW R s args RX12 RX12 187 yX12_isCrossing cX12_isCrossing 2 (some .boolean) (zW yX12_isCrossing cX12_isCrossing 2 (some .boolean)) (zR d mc ms) mc ms 1 := z_cwV hts m_co_X12_isCrossing m_ml_RX12_187 m_im_X12_isCrossing m_se_X12_isCrossing m_ii_RX12 (by decide +kernel) h1 h2
theorem kV_RX12_217 {R : Room} {s : State} {args : Array Value} {d mc ms : Nat} (hts : ∀ w ∈ zT, w.before args s = true) (h1 : d + 1 ≤ R.frames) (h2 : 8 + (3 + 11) + 40 * d ≤ R.locals) : CallW R s args RX12 RX12 217 yX12_walks cX12_walks 3 (some .boolean) (zW yX12_walks cX12_walks 3 (some .boolean)) (zR d mc ms) mc ms 1 := z_cwV hts m_co_X12_walks m_ml_RX12_217 m_im_X12_walks m_se_X12_walks m_ii_RX12 (by decide +kernel) h1 h2
theorem kV_RX12_220 {R : Room} {s : State} {args : Array Value} {d mc ms : Nat} (hts : ∀ w ∈ zT, w.before args s = true) (h1 : d + 1 ≤ R.frames) (h2 : 8 + (3 + 11) + 40 * d ≤ R.locals) : CallW R s args RX12 RX12 220 yX12_postsNow cX12_postsNow 3 (some .int) (zW yX12_postsNow cX12_postsNow 3 (some .int)) (zR d mc ms) mc ms 0 := z_cwV hts m_co_X12_postsNow m_ml_RX12_220 m_im_X12_postsNow m_se_X12_postsNow m_ii_RX12 (by decide +kernel) h1 h2
theorem dX12_land_0 : decode cX12_land 0 = .ok (.aload_n 0, 1) := by decide +kernel
theorem dX12_land_1 : decode cX12_land 1 = .ok (.iload_n 1, 1) := by decide +kernel
theorem dX12_land_2 : decode cX12_land 2 = .ok (.invokevirtual 184, 3) := by decide +kernel
theorem dX12_land_5 : decode cX12_land 5 = .ok (.ifCond .eq 7, 3) := by decide +kernel
theorem dX12_land_8 : decode cX12_land 8 = .ok (.iload_n 2, 1) := by decide +kernel
theorem dX12_land_9 : decode cX12_land 9 = .ok (.ifCond .ge 5, 3) := by decide +kernel
theorem dX12_land_12 : decode cX12_land 12 = .ok (.iconst (-1), 1) := by decide +kernel
theorem dX12_land_13 : decode cX12_land 13 = .ok (.ireturn, 1) := by decide +kernel
theorem dX12_land_14 : decode cX12_land 14 = .ok (.iload_n 2, 1) := by decide +kernel
theorem dX12_land_15 : decode cX12_land 15 = .ok (.iconst 2, 1) := by decide +kernel
theorem dX12_land_16 : decode cX12_land 16 = .ok (.if_icmp .ge 15, 3) := by decide +kernel
theorem dX12_land_19 : decode cX12_land 19 = .ok (.aload_n 0, 1) := by decide +kernel
theorem dX12_land_20 : decode cX12_land 20 = .ok (.getfield 7, 3) := by decide +kernel
theorem dX12_land_23 : decode cX12_land 23 = .ok (.aload_n 0, 1) := by decide +kernel
theorem dX12_land_24 : decode cX12_land 24 = .ok (.getfield 166, 3) := by decide +kernel
theorem dX12_land_27 : decode cX12_land 27 = .ok (.iload_n 2, 1) := by decide +kernel
theorem dX12_land_28 : decode cX12_land 28 = .ok (.iadd, 1) := by decide +kernel
theorem dX12_land_29 : decode cX12_land 29 = .ok (.iaload, 1) := by decide +kernel
theorem dX12_land_30 : decode cX12_land 30 = .ok (.ireturn, 1) := by decide +kernel
theorem dX12_land_31 : decode cX12_land 31 = .ok (.iload_n 2, 1) := by decide +kernel
theorem dX12_land_32 : decode cX12_land 32 = .ok (.bipush 10, 2) := by decide +kernel
theorem dX12_land_34 : decode cX12_land 34 = .ok (.irem, 1) := by decide +kernel
theorem dX12_land_35 : decode cX12_land 35 = .ok (.istore_n 3, 1) := by decide +kernel
theorem dX12_land_36 : decode cX12_land 36 = .ok (.iload_n 2, 1) := by decide +kernel
theorem dX12_land_37 : decode cX12_land 37 = .ok (.bipush 100, 2) := by decide +kernel
theorem dX12_land_39 : decode cX12_land 39 = .ok (.if_icmp .lt 49, 3) := by decide +kernel
theorem dX12_land_42 : decode cX12_land 42 = .ok (.aload_n 0, 1) := by decide +kernel
theorem dX12_land_43 : decode cX12_land 43 = .ok (.iload_n 2, 1) := by decide +kernel
theorem dX12_land_44 : decode cX12_land 44 = .ok (.bipush 10, 2) := by decide +kernel
theorem dX12_land_46 : decode cX12_land 46 = .ok (.idiv, 1) := by decide +kernel
theorem dX12_land_47 : decode cX12_land 47 = .ok (.bipush 10, 2) := by decide +kernel
theorem dX12_land_49 : decode cX12_land 49 = .ok (.isub, 1) := by decide +kernel
theorem dX12_land_50 : decode cX12_land 50 = .ok (.invokevirtual 187, 3) := by decide +kernel
theorem dX12_land_53 : decode cX12_land 53 = .ok (.ifCond .eq 33, 3) := by decide +kernel
theorem dX12_land_56 : decode cX12_land 56 = .ok (.iload_n 3, 1) := by decide +kernel
theorem dX12_land_57 : decode cX12_land 57 = .ok (.aload_n 0, 1) := by decide +kernel
theorem dX12_land_58 : decode cX12_land 58 = .ok (.iload_n 2, 1) := by decide +kernel
theorem dX12_land_59 : decode cX12_land 59 = .ok (.bipush 10, 2) := by decide +kernel
theorem dX12_land_61 : decode cX12_land 61 = .ok (.idiv, 1) := by decide +kernel
theorem dX12_land_62 : decode cX12_land 62 = .ok (.bipush 10, 2) := by decide +kernel
theorem dX12_land_64 : decode cX12_land 64 = .ok (.isub, 1) := by decide +kernel
theorem dX12_land_65 : decode cX12_land 65 = .ok (.invokevirtual 181, 3) := by decide +kernel
theorem dX12_land_68 : decode cX12_land 68 = .ok (.if_icmp .ge 18, 3) := by decide +kernel
theorem dX12_land_71 : decode cX12_land 71 = .ok (.aload_n 0, 1) := by decide +kernel
theorem dX12_land_72 : decode cX12_land 72 = .ok (.iload_n 2, 1) := by decide +kernel
theorem dX12_land_73 : decode cX12_land 73 = .ok (.bipush 10, 2) := by decide +kernel
theorem dX12_land_75 : decode cX12_land 75 = .ok (.idiv, 1) := by decide +kernel
theorem dX12_land_76 : decode cX12_land 76 = .ok (.bipush 10, 2) := by decide +kernel
theorem dX12_land_78 : decode cX12_land 78 = .ok (.isub, 1) := by decide +kernel
theorem dX12_land_79 : decode cX12_land 79 = .ok (.iload_n 3, 1) := by decide +kernel
theorem dX12_land_80 : decode cX12_land 80 = .ok (.invokevirtual 190, 3) := by decide +kernel
theorem dX12_land_83 : decode cX12_land 83 = .ok (.goto 4, 3) := by decide +kernel
theorem dX12_land_86 : decode cX12_land 86 = .ok (.iconst (-1), 1) := by decide +kernel
theorem dX12_land_87 : decode cX12_land 87 = .ok (.ireturn, 1) := by decide +kernel
theorem dX12_land_88 : decode cX12_land 88 = .ok (.iload_n 2, 1) := by decide +kernel
theorem dX12_land_89 : decode cX12_land 89 = .ok (.bipush 10, 2) := by decide +kernel
theorem dX12_land_91 : decode cX12_land 91 = .ok (.bipush 39, 2) := by decide +kernel
theorem dX12_land_93 : decode cX12_land 93 = .ok (.invokestatic 111, 3) := by decide +kernel
theorem dX12_land_96 : decode cX12_land 96 = .ok (.ifCond .eq 11, 3) := by decide +kernel
theorem dX12_land_99 : decode cX12_land 99 = .ok (.aload_n 0, 1) := by decide +kernel
theorem dX12_land_100 : decode cX12_land 100 = .ok (.iload_n 3, 1) := by decide +kernel
theorem dX12_land_101 : decode cX12_land 101 = .ok (.invokevirtual 187, 3) := by decide +kernel
theorem dX12_land_104 : decode cX12_land 104 = .ok (.ifCond .ne 5, 3) := by decide +kernel
theorem dX12_land_107 : decode cX12_land 107 = .ok (.iconst (-1), 1) := by decide +kernel
theorem dX12_land_108 : decode cX12_land 108 = .ok (.ireturn, 1) := by decide +kernel
theorem dX12_land_109 : decode cX12_land 109 = .ok (.iload_n 2, 1) := by decide +kernel
theorem dX12_land_110 : decode cX12_land 110 = .ok (.bipush 20, 2) := by decide +kernel
theorem dX12_land_112 : decode cX12_land 112 = .ok (.if_icmp .ge 11, 3) := by decide +kernel
theorem dX12_land_115 : decode cX12_land 115 = .ok (.aload_n 0, 1) := by decide +kernel
theorem dX12_land_116 : decode cX12_land 116 = .ok (.iload_n 3, 1) := by decide +kernel
theorem dX12_land_117 : decode cX12_land 117 = .ok (.invokevirtual 181, 3) := by decide +kernel
theorem dX12_land_120 : decode cX12_land 120 = .ok (.goto 31, 3) := by decide +kernel
theorem dX12_land_123 : decode cX12_land 123 = .ok (.iload_n 2, 1) := by decide +kernel
theorem dX12_land_124 : decode cX12_land 124 = .ok (.bipush 30, 2) := by decide +kernel
theorem dX12_land_126 : decode cX12_land 126 = .ok (.if_icmp .ge 11, 3) := by decide +kernel
theorem dX12_land_129 : decode cX12_land 129 = .ok (.aload_n 0, 1) := by decide +kernel
theorem dX12_land_130 : decode cX12_land 130 = .ok (.iload_n 3, 1) := by decide +kernel
theorem dX12_land_131 : decode cX12_land 131 = .ok (.invokevirtual 193, 3) := by decide +kernel
theorem dX12_land_134 : decode cX12_land 134 = .ok (.goto 17, 3) := by decide +kernel
theorem dX12_land_137 : decode cX12_land 137 = .ok (.aload_n 0, 1) := by decide +kernel
theorem dX12_land_138 : decode cX12_land 138 = .ok (.getfield 7, 3) := by decide +kernel
theorem dX12_land_141 : decode cX12_land 141 = .ok (.aload_n 0, 1) := by decide +kernel
theorem dX12_land_142 : decode cX12_land 142 = .ok (.getfield 166, 3) := by decide +kernel
theorem dX12_land_145 : decode cX12_land 145 = .ok (.bipush 16, 2) := by decide +kernel
theorem dX12_land_147 : decode cX12_land 147 = .ok (.iadd, 1) := by decide +kernel
theorem dX12_land_148 : decode cX12_land 148 = .ok (.iload_n 3, 1) := by decide +kernel
theorem dX12_land_149 : decode cX12_land 149 = .ok (.iadd, 1) := by decide +kernel
theorem dX12_land_150 : decode cX12_land 150 = .ok (.iaload, 1) := by decide +kernel
theorem dX12_land_151 : decode cX12_land 151 = .ok (.ireturn, 1) := by decide +kernel
theorem dX12_walk_0 : decode cX12_walk 0 = .ok (.aload_n 0, 1) := by decide +kernel
theorem dX12_walk_1 : decode cX12_walk 1 = .ok (.iload_n 1, 1) := by decide +kernel
theorem dX12_walk_2 : decode cX12_walk 2 = .ok (.invokevirtual 184, 3) := by decide +kernel
theorem dX12_walk_5 : decode cX12_walk 5 = .ok (.ifCond .eq 11, 3) := by decide +kernel
theorem dX12_walk_8 : decode cX12_walk 8 = .ok (.aload_n 0, 1) := by decide +kernel
theorem dX12_walk_9 : decode cX12_walk 9 = .ok (.iload_n 2, 1) := by decide +kernel
theorem dX12_walk_10 : decode cX12_walk 10 = .ok (.invokevirtual 187, 3) := by decide +kernel
theorem dX12_walk_13 : decode cX12_walk 13 = .ok (.ifCond .ne 6, 3) := by decide +kernel
theorem dX12_walk_16 : decode cX12_walk 16 = .ok (.bipush (-2), 2) := by decide +kernel
theorem dX12_walk_18 : decode cX12_walk 18 = .ok (.ireturn, 1) := by decide +kernel
theorem dX12_walk_19 : decode cX12_walk 19 = .ok (.aload_n 0, 1) := by decide +kernel
theorem dX12_walk_20 : decode cX12_walk 20 = .ok (.iload_n 2, 1) := by decide +kernel
theorem dX12_walk_21 : decode cX12_walk 21 = .ok (.invokevirtual 217, 3) := by decide +kernel
theorem dX12_walk_24 : decode cX12_walk 24 = .ok (.istore 4, 2) := by decide +kernel
theorem dX12_walk_26 : decode cX12_walk 26 = .ok (.iload_n 3, 1) := by decide +kernel
theorem dX12_walk_27 : decode cX12_walk 27 = .ok (.tableswitch 46 0 2 #[25, 30, 35], 25) := by decide +kernel
theorem dX12_walk_52 : decode cX12_walk 52 = .ok (.aload_n 0, 1) := by decide +kernel
theorem dX12_walk_53 : decode cX12_walk 53 = .ok (.getfield 208, 3) := by decide +kernel
theorem dX12_walk_56 : decode cX12_walk 56 = .ok (.ireturn, 1) := by decide +kernel
theorem dX12_walk_57 : decode cX12_walk 57 = .ok (.aload_n 0, 1) := by decide +kernel
theorem dX12_walk_58 : decode cX12_walk 58 = .ok (.getfield 202, 3) := by decide +kernel
theorem dX12_walk_61 : decode cX12_walk 61 = .ok (.ireturn, 1) := by decide +kernel
theorem dX12_walk_62 : decode cX12_walk 62 = .ok (.iload 4, 2) := by decide +kernel
theorem dX12_walk_64 : decode cX12_walk 64 = .ok (.ifCond .eq 7, 3) := by decide +kernel
theorem dX12_walk_67 : decode cX12_walk 67 = .ok (.iconst 1, 1) := by decide +kernel
theorem dX12_walk_68 : decode cX12_walk 68 = .ok (.goto 4, 3) := by decide +kernel
theorem dX12_walk_71 : decode cX12_walk 71 = .ok (.iconst 0, 1) := by decide +kernel
theorem dX12_walk_72 : decode cX12_walk 72 = .ok (.ireturn, 1) := by decide +kernel
theorem dX12_walk_73 : decode cX12_walk 73 = .ok (.iload_n 3, 1) := by decide +kernel
theorem dX12_walk_74 : decode cX12_walk 74 = .ok (.bipush 10, 2) := by decide +kernel
theorem dX12_walk_76 : decode cX12_walk 76 = .ok (.bipush 16, 2) := by decide +kernel
theorem dX12_walk_78 : decode cX12_walk 78 = .ok (.invokestatic 111, 3) := by decide +kernel
theorem dX12_walk_81 : decode cX12_walk 81 = .ok (.ifCond .eq 26, 3) := by decide +kernel
theorem dX12_walk_84 : decode cX12_walk 84 = .ok (.aload_n 0, 1) := by decide +kernel
theorem dX12_walk_85 : decode cX12_walk 85 = .ok (.iload_n 3, 1) := by decide +kernel
theorem dX12_walk_86 : decode cX12_walk 86 = .ok (.bipush 10, 2) := by decide +kernel
theorem dX12_walk_88 : decode cX12_walk 88 = .ok (.isub, 1) := by decide +kernel
theorem dX12_walk_89 : decode cX12_walk 89 = .ok (.invokevirtual 187, 3) := by decide +kernel
theorem dX12_walk_92 : decode cX12_walk 92 = .ok (.ifCond .eq 15, 3) := by decide +kernel
theorem dX12_walk_95 : decode cX12_walk 95 = .ok (.aload_n 0, 1) := by decide +kernel
theorem dX12_walk_96 : decode cX12_walk 96 = .ok (.getfield 29, 3) := by decide +kernel
theorem dX12_walk_99 : decode cX12_walk 99 = .ok (.iload_n 3, 1) := by decide +kernel
theorem dX12_walk_100 : decode cX12_walk 100 = .ok (.bipush 10, 2) := by decide +kernel
theorem dX12_walk_102 : decode cX12_walk 102 = .ok (.isub, 1) := by decide +kernel
theorem dX12_walk_103 : decode cX12_walk 103 = .ok (.iaload, 1) := by decide +kernel
theorem dX12_walk_104 : decode cX12_walk 104 = .ok (.goto 5, 3) := by decide +kernel
theorem dX12_walk_107 : decode cX12_walk 107 = .ok (.bipush (-2), 2) := by decide +kernel
theorem dX12_walk_109 : decode cX12_walk 109 = .ok (.ireturn, 1) := by decide +kernel
theorem dX12_come_0 : decode cX12_come 0 = .ok (.aload_n 0, 1) := by decide +kernel
theorem dX12_come_1 : decode cX12_come 1 = .ok (.iload_n 1, 1) := by decide +kernel
theorem dX12_come_2 : decode cX12_come 2 = .ok (.invokevirtual 184, 3) := by decide +kernel
theorem dX12_come_5 : decode cX12_come 5 = .ok (.ifCond .eq 21, 3) := by decide +kernel
theorem dX12_come_8 : decode cX12_come 8 = .ok (.aload_n 0, 1) := by decide +kernel
theorem dX12_come_9 : decode cX12_come 9 = .ok (.iload_n 2, 1) := by decide +kernel
theorem dX12_come_10 : decode cX12_come 10 = .ok (.invokevirtual 187, 3) := by decide +kernel
theorem dX12_come_13 : decode cX12_come 13 = .ok (.ifCond .eq 13, 3) := by decide +kernel
theorem dX12_come_16 : decode cX12_come 16 = .ok (.iload_n 3, 1) := by decide +kernel
theorem dX12_come_17 : decode cX12_come 17 = .ok (.iconst 1, 1) := by decide +kernel
theorem dX12_come_18 : decode cX12_come 18 = .ok (.bipush 99, 2) := by decide +kernel
theorem dX12_come_20 : decode cX12_come 20 = .ok (.invokestatic 111, 3) := by decide +kernel
theorem dX12_come_23 : decode cX12_come 23 = .ok (.ifCond .ne 5, 3) := by decide +kernel
theorem dX12_come_26 : decode cX12_come 26 = .ok (.iconst (-1), 1) := by decide +kernel
theorem dX12_come_27 : decode cX12_come 27 = .ok (.ireturn, 1) := by decide +kernel
theorem dX12_come_28 : decode cX12_come 28 = .ok (.iconst 0, 1) := by decide +kernel
theorem dX12_come_29 : decode cX12_come 29 = .ok (.istore 4, 2) := by decide +kernel
theorem dX12_come_31 : decode cX12_come 31 = .ok (.iload 4, 2) := by decide +kernel
theorem dX12_come_33 : decode cX12_come 33 = .ok (.iload_n 3, 1) := by decide +kernel
theorem dX12_come_34 : decode cX12_come 34 = .ok (.if_icmp .ge 15, 3) := by decide +kernel
theorem dX12_come_37 : decode cX12_come 37 = .ok (.aload_n 0, 1) := by decide +kernel
theorem dX12_come_38 : decode cX12_come 38 = .ok (.iload_n 2, 1) := by decide +kernel
theorem dX12_come_39 : decode cX12_come 39 = .ok (.invokevirtual 217, 3) := by decide +kernel
theorem dX12_come_42 : decode cX12_come 42 = .ok (.pop, 1) := by decide +kernel
theorem dX12_come_43 : decode cX12_come 43 = .ok (.iinc 4 1, 3) := by decide +kernel
theorem dX12_come_46 : decode cX12_come 46 = .ok (.goto (-15), 3) := by decide +kernel
theorem dX12_come_49 : decode cX12_come 49 = .ok (.aload_n 0, 1) := by decide +kernel
theorem dX12_come_50 : decode cX12_come 50 = .ok (.getfield 202, 3) := by decide +kernel
theorem dX12_come_53 : decode cX12_come 53 = .ok (.ireturn, 1) := by decide +kernel
theorem dX12_share_0 : decode cX12_share 0 = .ok (.aload_n 0, 1) := by decide +kernel
theorem dX12_share_1 : decode cX12_share 1 = .ok (.iload_n 1, 1) := by decide +kernel
theorem dX12_share_2 : decode cX12_share 2 = .ok (.invokevirtual 184, 3) := by decide +kernel
theorem dX12_share_5 : decode cX12_share 5 = .ok (.ifCond .eq 39, 3) := by decide +kernel
theorem dX12_share_8 : decode cX12_share 8 = .ok (.aload_n 0, 1) := by decide +kernel
theorem dX12_share_9 : decode cX12_share 9 = .ok (.iload_n 2, 1) := by decide +kernel
theorem dX12_share_10 : decode cX12_share 10 = .ok (.invokevirtual 187, 3) := by decide +kernel
theorem dX12_share_13 : decode cX12_share 13 = .ok (.ifCond .eq 31, 3) := by decide +kernel
theorem dX12_share_16 : decode cX12_share 16 = .ok (.iload_n 3, 1) := by decide +kernel
theorem dX12_share_17 : decode cX12_share 17 = .ok (.iconst 0, 1) := by decide +kernel
theorem dX12_share_18 : decode cX12_share 18 = .ok (.bipush 99, 2) := by decide +kernel
theorem dX12_share_20 : decode cX12_share 20 = .ok (.invokestatic 111, 3) := by decide +kernel
theorem dX12_share_23 : decode cX12_share 23 = .ok (.ifCond .eq 21, 3) := by decide +kernel
theorem dX12_share_26 : decode cX12_share 26 = .ok (.aload_n 0, 1) := by decide +kernel
theorem dX12_share_27 : decode cX12_share 27 = .ok (.iload 4, 2) := by decide +kernel
theorem dX12_share_29 : decode cX12_share 29 = .ok (.invokevirtual 187, 3) := by decide +kernel
theorem dX12_share_32 : decode cX12_share 32 = .ok (.ifCond .eq 12, 3) := by decide +kernel
theorem dX12_share_35 : decode cX12_share 35 = .ok (.aload_n 0, 1) := by decide +kernel
theorem dX12_share_36 : decode cX12_share 36 = .ok (.iload 4, 2) := by decide +kernel
theorem dX12_share_38 : decode cX12_share 38 = .ok (.invokevirtual 178, 3) := by decide +kernel
theorem dX12_share_41 : decode cX12_share 41 = .ok (.ifCond .ne 5, 3) := by decide +kernel
theorem dX12_share_44 : decode cX12_share 44 = .ok (.iconst (-1), 1) := by decide +kernel
theorem dX12_share_45 : decode cX12_share 45 = .ok (.ireturn, 1) := by decide +kernel
theorem dX12_share_46 : decode cX12_share 46 = .ok (.iconst 0, 1) := by decide +kernel
theorem dX12_share_47 : decode cX12_share 47 = .ok (.istore 5, 2) := by decide +kernel
theorem dX12_share_49 : decode cX12_share 49 = .ok (.iconst 0, 1) := by decide +kernel
theorem dX12_share_50 : decode cX12_share 50 = .ok (.istore 6, 2) := by decide +kernel
theorem dX12_share_52 : decode cX12_share 52 = .ok (.iload 6, 2) := by decide +kernel
theorem dX12_share_54 : decode cX12_share 54 = .ok (.iload_n 3, 1) := by decide +kernel
theorem dX12_share_55 : decode cX12_share 55 = .ok (.if_icmp .ge 34, 3) := by decide +kernel
theorem dX12_share_58 : decode cX12_share 58 = .ok (.aload_n 0, 1) := by decide +kernel
theorem dX12_share_59 : decode cX12_share 59 = .ok (.iload_n 2, 1) := by decide +kernel
theorem dX12_share_60 : decode cX12_share 60 = .ok (.invokevirtual 217, 3) := by decide +kernel
theorem dX12_share_63 : decode cX12_share 63 = .ok (.pop, 1) := by decide +kernel
theorem dX12_share_64 : decode cX12_share 64 = .ok (.iload 5, 2) := by decide +kernel
theorem dX12_share_66 : decode cX12_share 66 = .ok (.aload_n 0, 1) := by decide +kernel
theorem dX12_share_67 : decode cX12_share 67 = .ok (.getfield 202, 3) := by decide +kernel
theorem dX12_share_70 : decode cX12_share 70 = .ok (.iload 4, 2) := by decide +kernel
theorem dX12_share_72 : decode cX12_share 72 = .ok (.if_icmp .ne 7, 3) := by decide +kernel
theorem dX12_share_75 : decode cX12_share 75 = .ok (.iconst 1, 1) := by decide +kernel
theorem dX12_share_76 : decode cX12_share 76 = .ok (.goto 4, 3) := by decide +kernel
theorem dX12_share_79 : decode cX12_share 79 = .ok (.iconst 0, 1) := by decide +kernel
theorem dX12_share_80 : decode cX12_share 80 = .ok (.iadd, 1) := by decide +kernel
theorem dX12_share_81 : decode cX12_share 81 = .ok (.istore 5, 2) := by decide +kernel
theorem dX12_share_83 : decode cX12_share 83 = .ok (.iinc 6 1, 3) := by decide +kernel
theorem dX12_share_86 : decode cX12_share 86 = .ok (.goto (-34), 3) := by decide +kernel
theorem dX12_share_89 : decode cX12_share 89 = .ok (.iload 5, 2) := by decide +kernel
theorem dX12_share_91 : decode cX12_share 91 = .ok (.ireturn, 1) := by decide +kernel
theorem dX12_endOf_0 : decode cX12_endOf 0 = .ok (.aload_n 0, 1) := by decide +kernel
theorem dX12_endOf_1 : decode cX12_endOf 1 = .ok (.iload_n 1, 1) := by decide +kernel
theorem dX12_endOf_2 : decode cX12_endOf 2 = .ok (.invokevirtual 184, 3) := by decide +kernel
theorem dX12_endOf_5 : decode cX12_endOf 5 = .ok (.ifCond .ne 6, 3) := by decide +kernel
theorem dX12_endOf_8 : decode cX12_endOf 8 = .ok (.bipush (-2), 2) := by decide +kernel
theorem dX12_endOf_10 : decode cX12_endOf 10 = .ok (.ireturn, 1) := by decide +kernel
theorem dX12_endOf_11 : decode cX12_endOf 11 = .ok (.iconst 0, 1) := by decide +kernel
theorem dX12_endOf_12 : decode cX12_endOf 12 = .ok (.istore_n 3, 1) := by decide +kernel
theorem dX12_endOf_13 : decode cX12_endOf 13 = .ok (.iload_n 3, 1) := by decide +kernel
theorem dX12_endOf_14 : decode cX12_endOf 14 = .ok (.bipush 7, 2) := by decide +kernel
theorem dX12_endOf_16 : decode cX12_endOf 16 = .ok (.if_icmp .ge 16, 3) := by decide +kernel
theorem dX12_endOf_19 : decode cX12_endOf 19 = .ok (.aload_n 0, 1) := by decide +kernel
theorem dX12_endOf_20 : decode cX12_endOf 20 = .ok (.getfield 32, 3) := by decide +kernel
theorem dX12_endOf_23 : decode cX12_endOf 23 = .ok (.iload_n 3, 1) := by decide +kernel
theorem dX12_endOf_24 : decode cX12_endOf 24 = .ok (.iconst 0, 1) := by decide +kernel
theorem dX12_endOf_25 : decode cX12_endOf 25 = .ok (.iastore, 1) := by decide +kernel
theorem dX12_endOf_26 : decode cX12_endOf 26 = .ok (.iinc 3 1, 3) := by decide +kernel
theorem dX12_endOf_29 : decode cX12_endOf 29 = .ok (.goto (-16), 3) := by decide +kernel
theorem dX12_endOf_32 : decode cX12_endOf 32 = .ok (.iconst 0, 1) := by decide +kernel
theorem dX12_endOf_33 : decode cX12_endOf 33 = .ok (.istore_n 3, 1) := by decide +kernel
theorem dX12_endOf_34 : decode cX12_endOf 34 = .ok (.iload_n 3, 1) := by decide +kernel
theorem dX12_endOf_35 : decode cX12_endOf 35 = .ok (.aload_n 0, 1) := by decide +kernel
theorem dX12_endOf_36 : decode cX12_endOf 36 = .ok (.getfield 169, 3) := by decide +kernel
theorem dX12_endOf_39 : decode cX12_endOf 39 = .ok (.if_icmp .ge 61, 3) := by decide +kernel
theorem dX12_endOf_42 : decode cX12_endOf 42 = .ok (.iconst 0, 1) := by decide +kernel
theorem dX12_endOf_43 : decode cX12_endOf 43 = .ok (.istore 4, 2) := by decide +kernel
theorem dX12_endOf_45 : decode cX12_endOf 45 = .ok (.iload 4, 2) := by decide +kernel
theorem dX12_endOf_47 : decode cX12_endOf 47 = .ok (.aload_n 0, 1) := by decide +kernel
theorem dX12_endOf_48 : decode cX12_endOf 48 = .ok (.getfield 26, 3) := by decide +kernel
theorem dX12_endOf_51 : decode cX12_endOf 51 = .ok (.iload_n 3, 1) := by decide +kernel
theorem dX12_endOf_52 : decode cX12_endOf 52 = .ok (.iaload, 1) := by decide +kernel
theorem dX12_endOf_53 : decode cX12_endOf 53 = .ok (.if_icmp .ge 41, 3) := by decide +kernel
theorem dX12_endOf_56 : decode cX12_endOf 56 = .ok (.aload_n 0, 1) := by decide +kernel
theorem dX12_endOf_57 : decode cX12_endOf 57 = .ok (.iload_n 3, 1) := by decide +kernel
theorem dX12_endOf_58 : decode cX12_endOf 58 = .ok (.invokevirtual 217, 3) := by decide +kernel
theorem dX12_endOf_61 : decode cX12_endOf 61 = .ok (.pop, 1) := by decide +kernel
theorem dX12_endOf_62 : decode cX12_endOf 62 = .ok (.aload_n 0, 1) := by decide +kernel
theorem dX12_endOf_63 : decode cX12_endOf 63 = .ok (.dup, 1) := by decide +kernel
theorem dX12_endOf_64 : decode cX12_endOf 64 = .ok (.getfield 196, 3) := by decide +kernel
theorem dX12_endOf_67 : decode cX12_endOf 67 = .ok (.aload_n 0, 1) := by decide +kernel
theorem dX12_endOf_68 : decode cX12_endOf 68 = .ok (.getfield 208, 3) := by decide +kernel
theorem dX12_endOf_71 : decode cX12_endOf 71 = .ok (.iadd, 1) := by decide +kernel
theorem dX12_endOf_72 : decode cX12_endOf 72 = .ok (.putfield 196, 3) := by decide +kernel
theorem dX12_endOf_75 : decode cX12_endOf 75 = .ok (.aload_n 0, 1) := by decide +kernel
theorem dX12_endOf_76 : decode cX12_endOf 76 = .ok (.getfield 32, 3) := by decide +kernel
theorem dX12_endOf_79 : decode cX12_endOf 79 = .ok (.aload_n 0, 1) := by decide +kernel
theorem dX12_endOf_80 : decode cX12_endOf 80 = .ok (.getfield 202, 3) := by decide +kernel
theorem dX12_endOf_83 : decode cX12_endOf 83 = .ok (.dup2, 1) := by decide +kernel
theorem dX12_endOf_84 : decode cX12_endOf 84 = .ok (.iaload, 1) := by decide +kernel
theorem dX12_endOf_85 : decode cX12_endOf 85 = .ok (.iconst 1, 1) := by decide +kernel
theorem dX12_endOf_86 : decode cX12_endOf 86 = .ok (.iadd, 1) := by decide +kernel
theorem dX12_endOf_87 : decode cX12_endOf 87 = .ok (.iastore, 1) := by decide +kernel
theorem dX12_endOf_88 : decode cX12_endOf 88 = .ok (.iinc 4 1, 3) := by decide +kernel
theorem dX12_endOf_91 : decode cX12_endOf 91 = .ok (.goto (-46), 3) := by decide +kernel
theorem dX12_endOf_94 : decode cX12_endOf 94 = .ok (.iinc 3 1, 3) := by decide +kernel
theorem dX12_endOf_97 : decode cX12_endOf 97 = .ok (.goto (-63), 3) := by decide +kernel
theorem dX12_endOf_100 : decode cX12_endOf 100 = .ok (.iload_n 2, 1) := by decide +kernel
theorem dX12_endOf_101 : decode cX12_endOf 101 = .ok (.ifCond .ne 8, 3) := by decide +kernel
theorem dX12_endOf_104 : decode cX12_endOf 104 = .ok (.aload_n 0, 1) := by decide +kernel
theorem dX12_endOf_105 : decode cX12_endOf 105 = .ok (.getfield 196, 3) := by decide +kernel
theorem dX12_endOf_108 : decode cX12_endOf 108 = .ok (.ireturn, 1) := by decide +kernel
theorem dX12_endOf_109 : decode cX12_endOf 109 = .ok (.iload_n 2, 1) := by decide +kernel
theorem dX12_endOf_110 : decode cX12_endOf 110 = .ok (.bipush 10, 2) := by decide +kernel
theorem dX12_endOf_112 : decode cX12_endOf 112 = .ok (.irem, 1) := by decide +kernel
theorem dX12_endOf_113 : decode cX12_endOf 113 = .ok (.istore_n 3, 1) := by decide +kernel
theorem dX12_endOf_114 : decode cX12_endOf 114 = .ok (.iload_n 2, 1) := by decide +kernel
theorem dX12_endOf_115 : decode cX12_endOf 115 = .ok (.bipush 10, 2) := by decide +kernel
theorem dX12_endOf_117 : decode cX12_endOf 117 = .ok (.bipush 29, 2) := by decide +kernel
theorem dX12_endOf_119 : decode cX12_endOf 119 = .ok (.invokestatic 111, 3) := by decide +kernel
theorem dX12_endOf_122 : decode cX12_endOf 122 = .ok (.ifCond .eq 11, 3) := by decide +kernel
theorem dX12_endOf_125 : decode cX12_endOf 125 = .ok (.aload_n 0, 1) := by decide +kernel
theorem dX12_endOf_126 : decode cX12_endOf 126 = .ok (.iload_n 3, 1) := by decide +kernel
theorem dX12_endOf_127 : decode cX12_endOf 127 = .ok (.invokevirtual 187, 3) := by decide +kernel
theorem dX12_endOf_130 : decode cX12_endOf 130 = .ok (.ifCond .ne 8, 3) := by decide +kernel
theorem dX12_endOf_133 : decode cX12_endOf 133 = .ok (.bipush (-2), 2) := by decide +kernel
theorem dX12_endOf_135 : decode cX12_endOf 135 = .ok (.goto 24, 3) := by decide +kernel
theorem dX12_endOf_138 : decode cX12_endOf 138 = .ok (.iload_n 2, 1) := by decide +kernel
theorem dX12_endOf_139 : decode cX12_endOf 139 = .ok (.bipush 20, 2) := by decide +kernel
theorem dX12_endOf_141 : decode cX12_endOf 141 = .ok (.if_icmp .ge 12, 3) := by decide +kernel
theorem dX12_endOf_144 : decode cX12_endOf 144 = .ok (.aload_n 0, 1) := by decide +kernel
theorem dX12_endOf_145 : decode cX12_endOf 145 = .ok (.getfield 32, 3) := by decide +kernel
theorem dX12_endOf_148 : decode cX12_endOf 148 = .ok (.iload_n 3, 1) := by decide +kernel
theorem dX12_endOf_149 : decode cX12_endOf 149 = .ok (.iaload, 1) := by decide +kernel
theorem dX12_endOf_150 : decode cX12_endOf 150 = .ok (.goto 9, 3) := by decide +kernel
theorem dX12_endOf_153 : decode cX12_endOf 153 = .ok (.aload_n 0, 1) := by decide +kernel
theorem dX12_endOf_154 : decode cX12_endOf 154 = .ok (.getfield 20, 3) := by decide +kernel
theorem dX12_endOf_157 : decode cX12_endOf 157 = .ok (.iload_n 3, 1) := by decide +kernel
theorem dX12_endOf_158 : decode cX12_endOf 158 = .ok (.iaload, 1) := by decide +kernel
theorem dX12_endOf_159 : decode cX12_endOf 159 = .ok (.ireturn, 1) := by decide +kernel
theorem dX12_period_0 : decode cX12_period 0 = .ok (.aload_n 0, 1) := by decide +kernel
theorem dX12_period_1 : decode cX12_period 1 = .ok (.iload_n 1, 1) := by decide +kernel
theorem dX12_period_2 : decode cX12_period 2 = .ok (.invokevirtual 184, 3) := by decide +kernel
theorem dX12_period_5 : decode cX12_period 5 = .ok (.ifCond .eq 11, 3) := by decide +kernel
theorem dX12_period_8 : decode cX12_period 8 = .ok (.aload_n 0, 1) := by decide +kernel
theorem dX12_period_9 : decode cX12_period 9 = .ok (.iload_n 2, 1) := by decide +kernel
theorem dX12_period_10 : decode cX12_period 10 = .ok (.invokevirtual 187, 3) := by decide +kernel
theorem dX12_period_13 : decode cX12_period 13 = .ok (.ifCond .ne 5, 3) := by decide +kernel
theorem dX12_period_16 : decode cX12_period 16 = .ok (.iconst (-1), 1) := by decide +kernel
theorem dX12_period_17 : decode cX12_period 17 = .ok (.ireturn, 1) := by decide +kernel
theorem dX12_period_18 : decode cX12_period 18 = .ok (.iconst 0, 1) := by decide +kernel
theorem dX12_period_19 : decode cX12_period 19 = .ok (.istore 4, 2) := by decide +kernel
theorem dX12_period_21 : decode cX12_period 21 = .ok (.iload 4, 2) := by decide +kernel
theorem dX12_period_23 : decode cX12_period 23 = .ok (.sipush 16384, 3) := by decide +kernel
theorem dX12_period_26 : decode cX12_period 26 = .ok (.if_icmp .ge 17, 3) := by decide +kernel
theorem dX12_period_29 : decode cX12_period 29 = .ok (.aload_n 0, 1) := by decide +kernel
theorem dX12_period_30 : decode cX12_period 30 = .ok (.getfield 35, 3) := by decide +kernel
theorem dX12_period_33 : decode cX12_period 33 = .ok (.iload 4, 2) := by decide +kernel
theorem dX12_period_35 : decode cX12_period 35 = .ok (.iconst 0, 1) := by decide +kernel
theorem dX12_period_36 : decode cX12_period 36 = .ok (.iastore, 1) := by decide +kernel
theorem dX12_period_37 : decode cX12_period 37 = .ok (.iinc 4 1, 3) := by decide +kernel
theorem dX12_period_40 : decode cX12_period 40 = .ok (.goto (-19), 3) := by decide +kernel
theorem dX12_period_43 : decode cX12_period 43 = .ok (.aload_n 0, 1) := by decide +kernel
theorem dX12_period_44 : decode cX12_period 44 = .ok (.getfield 35, 3) := by decide +kernel
theorem dX12_period_47 : decode cX12_period 47 = .ok (.aload_n 0, 1) := by decide +kernel
theorem dX12_period_48 : decode cX12_period 48 = .ok (.invokevirtual 220, 3) := by decide +kernel
theorem dX12_period_51 : decode cX12_period 51 = .ok (.iconst 1, 1) := by decide +kernel
theorem dX12_period_52 : decode cX12_period 52 = .ok (.iastore, 1) := by decide +kernel
theorem dX12_period_53 : decode cX12_period 53 = .ok (.iconst 1, 1) := by decide +kernel
theorem dX12_period_54 : decode cX12_period 54 = .ok (.istore 4, 2) := by decide +kernel
theorem dX12_period_56 : decode cX12_period 56 = .ok (.iload 4, 2) := by decide +kernel
theorem dX12_period_58 : decode cX12_period 58 = .ok (.sipush 1000, 3) := by decide +kernel
theorem dX12_period_61 : decode cX12_period 61 = .ok (.if_icmp .ge 63, 3) := by decide +kernel
theorem dX12_period_64 : decode cX12_period 64 = .ok (.aload_n 0, 1) := by decide +kernel
theorem dX12_period_65 : decode cX12_period 65 = .ok (.iload_n 2, 1) := by decide +kernel
theorem dX12_period_66 : decode cX12_period 66 = .ok (.invokevirtual 217, 3) := by decide +kernel
theorem dX12_period_69 : decode cX12_period 69 = .ok (.pop, 1) := by decide +kernel
theorem dX12_period_70 : decode cX12_period 70 = .ok (.aload_n 0, 1) := by decide +kernel
theorem dX12_period_71 : decode cX12_period 71 = .ok (.getfield 35, 3) := by decide +kernel
theorem dX12_period_74 : decode cX12_period 74 = .ok (.aload_n 0, 1) := by decide +kernel
theorem dX12_period_75 : decode cX12_period 75 = .ok (.invokevirtual 220, 3) := by decide +kernel
theorem dX12_period_78 : decode cX12_period 78 = .ok (.iaload, 1) := by decide +kernel
theorem dX12_period_79 : decode cX12_period 79 = .ok (.istore 5, 2) := by decide +kernel
theorem dX12_period_81 : decode cX12_period 81 = .ok (.iload 5, 2) := by decide +kernel
theorem dX12_period_83 : decode cX12_period 83 = .ok (.ifCond .le 22, 3) := by decide +kernel
theorem dX12_period_86 : decode cX12_period 86 = .ok (.iload_n 3, 1) := by decide +kernel
theorem dX12_period_87 : decode cX12_period 87 = .ok (.ifCond .eq 10, 3) := by decide +kernel
theorem dX12_period_90 : decode cX12_period 90 = .ok (.iload 5, 2) := by decide +kernel
theorem dX12_period_92 : decode cX12_period 92 = .ok (.iconst 1, 1) := by decide +kernel
theorem dX12_period_93 : decode cX12_period 93 = .ok (.isub, 1) := by decide +kernel
theorem dX12_period_94 : decode cX12_period 94 = .ok (.goto 10, 3) := by decide +kernel
theorem dX12_period_97 : decode cX12_period 97 = .ok (.iload 4, 2) := by decide +kernel
theorem dX12_period_99 : decode cX12_period 99 = .ok (.iconst 1, 1) := by decide +kernel
theorem dX12_period_100 : decode cX12_period 100 = .ok (.iadd, 1) := by decide +kernel
theorem dX12_period_101 : decode cX12_period 101 = .ok (.iload 5, 2) := by decide +kernel
theorem dX12_period_103 : decode cX12_period 103 = .ok (.isub, 1) := by decide +kernel
theorem dX12_period_104 : decode cX12_period 104 = .ok (.ireturn, 1) := by decide +kernel
theorem dX12_period_105 : decode cX12_period 105 = .ok (.aload_n 0, 1) := by decide +kernel
theorem dX12_period_106 : decode cX12_period 106 = .ok (.getfield 35, 3) := by decide +kernel
theorem dX12_period_109 : decode cX12_period 109 = .ok (.aload_n 0, 1) := by decide +kernel
theorem dX12_period_110 : decode cX12_period 110 = .ok (.invokevirtual 220, 3) := by decide +kernel
theorem dX12_period_113 : decode cX12_period 113 = .ok (.iload 4, 2) := by decide +kernel
theorem dX12_period_115 : decode cX12_period 115 = .ok (.iconst 1, 1) := by decide +kernel
theorem dX12_period_116 : decode cX12_period 116 = .ok (.iadd, 1) := by decide +kernel
theorem dX12_period_117 : decode cX12_period 117 = .ok (.iastore, 1) := by decide +kernel
theorem dX12_period_118 : decode cX12_period 118 = .ok (.iinc 4 1, 3) := by decide +kernel
theorem dX12_period_121 : decode cX12_period 121 = .ok (.goto (-65), 3) := by decide +kernel
theorem dX12_period_124 : decode cX12_period 124 = .ok (.iconst (-1), 1) := by decide +kernel
theorem dX12_period_125 : decode cX12_period 125 = .ok (.ireturn, 1) := by decide +kernel


theorem m_fl_RX9_47 : Cond.fieldLink RX9 47 (TX7 0).1 (TX7 0).2.1 (TX7 0).2.2.1 ∈ zT := zmem1 zsub_1 172 (by decide +kernel) (by decide +kernel)
theorem m_co_X4_takeAll : Cond.code yX4_takeAll cX4_takeAll 3 none ∈ zT := zmem1 zsub_3 153 (by decide +kernel) (by decide +kernel)
theorem m_ml_RX9_53 : Cond.methodLink RX9 53 yX4_takeAll ∈ zT := zmem1 zsub_3 150 (by decide +kernel) (by decide +kernel)
theorem m_im_X4_takeAll : Cond.instanceMethod yX4_takeAll ∈ zT := zmem1 zsub_3 151 (by decide +kernel) (by decide +kernel)
theorem m_se_X4_takeAll : Cond.selects RX4 yX4_takeAll yX4_takeAll ∈ zT := zmem1 zsub_3 152 (by decide +kernel) (by decide +kernel)
theorem m_ml_RX9_71 : Cond.methodLink RX9 71 Lib.Math.max.name ∈ zT := zmem1 zsub_3 162 (by decide +kernel) (by decide +kernel)
theorem m_fl_RX9_57 : Cond.fieldLink RX9 57 (TX7 1).1 (TX7 1).2.1 (TX7 1).2.2.1 ∈ zT := zmem1 zsub_1 174 (by decide +kernel) (by decide +kernel)
theorem m_co_X2_takeAll : Cond.code yX2_takeAll cX2_takeAll 3 none ∈ zT := zmem1 zsub_3 157 (by decide +kernel) (by decide +kernel)
theorem m_ml_RX9_61 : Cond.methodLink RX9 61 yX2_takeAll ∈ zT := zmem1 zsub_3 154 (by decide +kernel) (by decide +kernel)
theorem m_im_X2_takeAll : Cond.instanceMethod yX2_takeAll ∈ zT := zmem1 zsub_3 155 (by decide +kernel) (by decide +kernel)
theorem m_se_X2_takeAll : Cond.selects RX2 yX2_takeAll yX2_takeAll ∈ zT := zmem1 zsub_3 156 (by decide +kernel) (by decide +kernel)
theorem m_fl_RX9_64 : Cond.fieldLink RX9 64 (TX7 2).1 (TX7 2).2.1 (TX7 2).2.2.1 ∈ zT := zmem1 zsub_1 176 (by decide +kernel) (by decide +kernel)
theorem m_co_X5_takeAll : Cond.code yX5_takeAll cX5_takeAll 3 none ∈ zT := zmem1 zsub_3 161 (by decide +kernel) (by decide +kernel)
theorem m_ml_RX9_68 : Cond.methodLink RX9 68 yX5_takeAll ∈ zT := zmem1 zsub_3 158 (by decide +kernel) (by decide +kernel)
theorem m_im_X5_takeAll : Cond.instanceMethod yX5_takeAll ∈ zT := zmem1 zsub_3 159 (by decide +kernel) (by decide +kernel)
theorem m_se_X5_takeAll : Cond.selects RX5 yX5_takeAll yX5_takeAll ∈ zT := zmem1 zsub_3 160 (by decide +kernel) (by decide +kernel)
theorem m_fl_RX9_77 : Cond.fieldLink RX9 77 (TX9 2).1 (TX9 2).2.1 (TX9 2).2.2.1 ∈ zT := zmem1 zsub_1 133 (by decide +kernel) (by decide +kernel)
theorem kV_RX9_53 {R : Room} {s : State} {args : Array Value} {d mc ms : Nat} (hts : ∀ w ∈ zT, w.before args s = true) (h1 : d + 1 ≤ R.frames) (h2 : 8 + (3 + 11) + 40 * d ≤ R.locals) : CallW R s args RX9 RX4 53 yX4_takeAll cX4_takeAll 3 none (zW yX4_takeAll cX4_takeAll 3 none) (zR d mc ms) mc ms 1 := z_cwV hts m_co_X4_takeAll m_ml_RX9_53 m_im_X4_takeAll m_se_X4_takeAll m_ii_RX4 (by decide +kernel) h1 h2
theorem kV_RX9_61 {R : Room} {s : State} {args : Array Value} {d mc ms : Nat} (hts : ∀ w ∈ zT, w.before args s = true) (h1 : d + 1 ≤ R.frames) (h2 : 8 + (3 + 11) + 40 * d ≤ R.locals) : CallW R s args RX9 RX2 61 yX2_takeAll cX2_takeAll 3 none (zW yX2_takeAll cX2_takeAll 3 none) (zR d mc ms) mc ms 1 := z_cwV hts m_co_X2_takeAll m_ml_RX9_61 m_im_X2_takeAll m_se_X2_takeAll m_ii_RX2 (by decide +kernel) h1 h2
theorem kV_RX9_68 {R : Room} {s : State} {args : Array Value} {d mc ms : Nat} (hts : ∀ w ∈ zT, w.before args s = true) (h1 : d + 1 ≤ R.frames) (h2 : 8 + (3 + 11) + 40 * d ≤ R.locals) : CallW R s args RX9 RX5 68 yX5_takeAll cX5_takeAll 3 none (zW yX5_takeAll cX5_takeAll 3 none) (zR d mc ms) mc ms 1 := z_cwV hts m_co_X5_takeAll m_ml_RX9_68 m_im_X5_takeAll m_se_X5_takeAll m_ii_RX5 (by decide +kernel) h1 h2
theorem dX9_keep_0 : decode cX9_keep 0 = .ok (.iload_n 1, 1) := by decide +kernel
theorem dX9_keep_1 : decode cX9_keep 1 = .ok (.ifCond .lt 17, 3) := by decide +kernel
theorem dX9_keep_4 : decode cX9_keep 4 = .ok (.iload_n 1, 1) := by decide +kernel
theorem dX9_keep_5 : decode cX9_keep 5 = .ok (.iconst 2, 1) := by decide +kernel
theorem dX9_keep_6 : decode cX9_keep 6 = .ok (.if_icmp .gt 12, 3) := by decide +kernel
theorem dX9_keep_9 : decode cX9_keep 9 = .ok (.iload_n 2, 1) := by decide +kernel
theorem dX9_keep_10 : decode cX9_keep 10 = .ok (.ifCond .lt 8, 3) := by decide +kernel
theorem dX9_keep_13 : decode cX9_keep 13 = .ok (.iload_n 2, 1) := by decide +kernel
theorem dX9_keep_14 : decode cX9_keep 14 = .ok (.iconst 2, 1) := by decide +kernel
theorem dX9_keep_15 : decode cX9_keep 15 = .ok (.if_icmp .lt 4, 3) := by decide +kernel
theorem dX9_keep_19 : decode cX9_keep 19 = .ok (.iload_n 1, 1) := by decide +kernel
theorem dX9_keep_20 : decode cX9_keep 20 = .ok (.ifCond .ne 19, 3) := by decide +kernel
theorem dX9_keep_23 : decode cX9_keep 23 = .ok (.aload_n 0, 1) := by decide +kernel
theorem dX9_keep_24 : decode cX9_keep 24 = .ok (.getfield 26, 3) := by decide +kernel
theorem dX9_keep_27 : decode cX9_keep 27 = .ok (.iload_n 2, 1) := by decide +kernel
theorem dX9_keep_28 : decode cX9_keep 28 = .ok (.aaload, 1) := by decide +kernel
theorem dX9_keep_29 : decode cX9_keep 29 = .ok (.aload_n 3, 1) := by decide +kernel
theorem dX9_keep_30 : decode cX9_keep 30 = .ok (.getfield 47, 3) := by decide +kernel
theorem dX9_keep_33 : decode cX9_keep 33 = .ok (.invokevirtual 53, 3) := by decide +kernel
theorem dX9_keep_36 : decode cX9_keep 36 = .ok (.goto 37, 3) := by decide +kernel
theorem dX9_keep_39 : decode cX9_keep 39 = .ok (.iload_n 1, 1) := by decide +kernel
theorem dX9_keep_40 : decode cX9_keep 40 = .ok (.iconst 1, 1) := by decide +kernel
theorem dX9_keep_41 : decode cX9_keep 41 = .ok (.if_icmp .ne 19, 3) := by decide +kernel
theorem dX9_keep_44 : decode cX9_keep 44 = .ok (.aload_n 0, 1) := by decide +kernel
theorem dX9_keep_45 : decode cX9_keep 45 = .ok (.getfield 33, 3) := by decide +kernel
theorem dX9_keep_48 : decode cX9_keep 48 = .ok (.iload_n 2, 1) := by decide +kernel
theorem dX9_keep_49 : decode cX9_keep 49 = .ok (.aaload, 1) := by decide +kernel
theorem dX9_keep_50 : decode cX9_keep 50 = .ok (.aload_n 3, 1) := by decide +kernel
theorem dX9_keep_51 : decode cX9_keep 51 = .ok (.getfield 57, 3) := by decide +kernel
theorem dX9_keep_54 : decode cX9_keep 54 = .ok (.invokevirtual 61, 3) := by decide +kernel
theorem dX9_keep_57 : decode cX9_keep 57 = .ok (.goto 16, 3) := by decide +kernel
theorem dX9_keep_60 : decode cX9_keep 60 = .ok (.aload_n 0, 1) := by decide +kernel
theorem dX9_keep_61 : decode cX9_keep 61 = .ok (.getfield 40, 3) := by decide +kernel
theorem dX9_keep_64 : decode cX9_keep 64 = .ok (.iload_n 2, 1) := by decide +kernel
theorem dX9_keep_65 : decode cX9_keep 65 = .ok (.aaload, 1) := by decide +kernel
theorem dX9_keep_66 : decode cX9_keep 66 = .ok (.aload_n 3, 1) := by decide +kernel
theorem dX9_keep_67 : decode cX9_keep 67 = .ok (.getfield 64, 3) := by decide +kernel
theorem dX9_keep_70 : decode cX9_keep 70 = .ok (.invokevirtual 68, 3) := by decide +kernel
theorem dX9_keep_73 : decode cX9_keep 73 = .ok (.aload_n 0, 1) := by decide +kernel
theorem dX9_keep_74 : decode cX9_keep 74 = .ok (.getfield 19, 3) := by decide +kernel
theorem dX9_keep_77 : decode cX9_keep 77 = .ok (.iload_n 1, 1) := by decide +kernel
theorem dX9_keep_78 : decode cX9_keep 78 = .ok (.aload_n 0, 1) := by decide +kernel
theorem dX9_keep_79 : decode cX9_keep 79 = .ok (.getfield 19, 3) := by decide +kernel
theorem dX9_keep_82 : decode cX9_keep 82 = .ok (.iload_n 1, 1) := by decide +kernel
theorem dX9_keep_83 : decode cX9_keep 83 = .ok (.iaload, 1) := by decide +kernel
theorem dX9_keep_84 : decode cX9_keep 84 = .ok (.iload_n 2, 1) := by decide +kernel
theorem dX9_keep_85 : decode cX9_keep 85 = .ok (.iconst 1, 1) := by decide +kernel
theorem dX9_keep_86 : decode cX9_keep 86 = .ok (.iadd, 1) := by decide +kernel
theorem dX9_keep_87 : decode cX9_keep 87 = .ok (.invokestatic 71, 3) := by decide +kernel
theorem dX9_keep_90 : decode cX9_keep 90 = .ok (.iastore, 1) := by decide +kernel
theorem dX9_keep_91 : decode cX9_keep 91 = .ok (.return_, 1) := by decide +kernel
theorem dX9_takeAll_0 : decode cX9_takeAll 0 = .ok (.iconst 0, 1) := by decide +kernel
theorem dX9_takeAll_1 : decode cX9_takeAll 1 = .ok (.istore_n 2, 1) := by decide +kernel
theorem dX9_takeAll_2 : decode cX9_takeAll 2 = .ok (.iload_n 2, 1) := by decide +kernel
theorem dX9_takeAll_3 : decode cX9_takeAll 3 = .ok (.sipush 600, 3) := by decide +kernel
theorem dX9_takeAll_6 : decode cX9_takeAll 6 = .ok (.if_icmp .ge 21, 3) := by decide +kernel
theorem dX9_takeAll_9 : decode cX9_takeAll 9 = .ok (.aload_n 0, 1) := by decide +kernel
theorem dX9_takeAll_10 : decode cX9_takeAll 10 = .ok (.getfield 9, 3) := by decide +kernel
theorem dX9_takeAll_13 : decode cX9_takeAll 13 = .ok (.iload_n 2, 1) := by decide +kernel
theorem dX9_takeAll_14 : decode cX9_takeAll 14 = .ok (.aload_n 1, 1) := by decide +kernel
theorem dX9_takeAll_15 : decode cX9_takeAll 15 = .ok (.getfield 9, 3) := by decide +kernel
theorem dX9_takeAll_18 : decode cX9_takeAll 18 = .ok (.iload_n 2, 1) := by decide +kernel
theorem dX9_takeAll_19 : decode cX9_takeAll 19 = .ok (.baload, 1) := by decide +kernel
theorem dX9_takeAll_20 : decode cX9_takeAll 20 = .ok (.bastore, 1) := by decide +kernel
theorem dX9_takeAll_21 : decode cX9_takeAll 21 = .ok (.iinc 2 1, 3) := by decide +kernel
theorem dX9_takeAll_24 : decode cX9_takeAll 24 = .ok (.goto (-22), 3) := by decide +kernel
theorem dX9_takeAll_27 : decode cX9_takeAll 27 = .ok (.aload_n 0, 1) := by decide +kernel
theorem dX9_takeAll_28 : decode cX9_takeAll 28 = .ok (.aload_n 1, 1) := by decide +kernel
theorem dX9_takeAll_29 : decode cX9_takeAll 29 = .ok (.getfield 44, 3) := by decide +kernel
theorem dX9_takeAll_32 : decode cX9_takeAll 32 = .ok (.putfield 44, 3) := by decide +kernel
theorem dX9_takeAll_35 : decode cX9_takeAll 35 = .ok (.aload_n 0, 1) := by decide +kernel
theorem dX9_takeAll_36 : decode cX9_takeAll 36 = .ok (.aload_n 1, 1) := by decide +kernel
theorem dX9_takeAll_37 : decode cX9_takeAll 37 = .ok (.getfield 77, 3) := by decide +kernel
theorem dX9_takeAll_40 : decode cX9_takeAll 40 = .ok (.putfield 77, 3) := by decide +kernel
theorem dX9_takeAll_43 : decode cX9_takeAll 43 = .ok (.aload_n 0, 1) := by decide +kernel
theorem dX9_takeAll_44 : decode cX9_takeAll 44 = .ok (.aload_n 1, 1) := by decide +kernel
theorem dX9_takeAll_45 : decode cX9_takeAll 45 = .ok (.getfield 15, 3) := by decide +kernel
theorem dX9_takeAll_48 : decode cX9_takeAll 48 = .ok (.putfield 15, 3) := by decide +kernel
theorem dX9_takeAll_51 : decode cX9_takeAll 51 = .ok (.iconst 0, 1) := by decide +kernel
theorem dX9_takeAll_52 : decode cX9_takeAll 52 = .ok (.istore_n 2, 1) := by decide +kernel
theorem dX9_takeAll_53 : decode cX9_takeAll 53 = .ok (.iload_n 2, 1) := by decide +kernel
theorem dX9_takeAll_54 : decode cX9_takeAll 54 = .ok (.iconst 2, 1) := by decide +kernel
theorem dX9_takeAll_55 : decode cX9_takeAll 55 = .ok (.if_icmp .gt 21, 3) := by decide +kernel
theorem dX9_takeAll_58 : decode cX9_takeAll 58 = .ok (.aload_n 0, 1) := by decide +kernel
theorem dX9_takeAll_59 : decode cX9_takeAll 59 = .ok (.getfield 19, 3) := by decide +kernel
theorem dX9_takeAll_62 : decode cX9_takeAll 62 = .ok (.iload_n 2, 1) := by decide +kernel
theorem dX9_takeAll_63 : decode cX9_takeAll 63 = .ok (.aload_n 1, 1) := by decide +kernel
theorem dX9_takeAll_64 : decode cX9_takeAll 64 = .ok (.getfield 19, 3) := by decide +kernel
theorem dX9_takeAll_67 : decode cX9_takeAll 67 = .ok (.iload_n 2, 1) := by decide +kernel
theorem dX9_takeAll_68 : decode cX9_takeAll 68 = .ok (.iaload, 1) := by decide +kernel
theorem dX9_takeAll_69 : decode cX9_takeAll 69 = .ok (.iastore, 1) := by decide +kernel
theorem dX9_takeAll_70 : decode cX9_takeAll 70 = .ok (.iinc 2 1, 3) := by decide +kernel
theorem dX9_takeAll_73 : decode cX9_takeAll 73 = .ok (.goto (-20), 3) := by decide +kernel
theorem dX9_takeAll_76 : decode cX9_takeAll 76 = .ok (.iconst 0, 1) := by decide +kernel
theorem dX9_takeAll_77 : decode cX9_takeAll 77 = .ok (.istore_n 2, 1) := by decide +kernel
theorem dX9_takeAll_78 : decode cX9_takeAll 78 = .ok (.iload_n 2, 1) := by decide +kernel
theorem dX9_takeAll_79 : decode cX9_takeAll 79 = .ok (.iconst 2, 1) := by decide +kernel
theorem dX9_takeAll_80 : decode cX9_takeAll 80 = .ok (.if_icmp .ge 54, 3) := by decide +kernel
theorem dX9_takeAll_83 : decode cX9_takeAll 83 = .ok (.aload_n 0, 1) := by decide +kernel
theorem dX9_takeAll_84 : decode cX9_takeAll 84 = .ok (.getfield 26, 3) := by decide +kernel
theorem dX9_takeAll_87 : decode cX9_takeAll 87 = .ok (.iload_n 2, 1) := by decide +kernel
theorem dX9_takeAll_88 : decode cX9_takeAll 88 = .ok (.aaload, 1) := by decide +kernel
theorem dX9_takeAll_89 : decode cX9_takeAll 89 = .ok (.aload_n 1, 1) := by decide +kernel
theorem dX9_takeAll_90 : decode cX9_takeAll 90 = .ok (.getfield 26, 3) := by decide +kernel
theorem dX9_takeAll_93 : decode cX9_takeAll 93 = .ok (.iload_n 2, 1) := by decide +kernel
theorem dX9_takeAll_94 : decode cX9_takeAll 94 = .ok (.aaload, 1) := by decide +kernel
theorem dX9_takeAll_95 : decode cX9_takeAll 95 = .ok (.invokevirtual 53, 3) := by decide +kernel
theorem dX9_takeAll_98 : decode cX9_takeAll 98 = .ok (.aload_n 0, 1) := by decide +kernel
theorem dX9_takeAll_99 : decode cX9_takeAll 99 = .ok (.getfield 33, 3) := by decide +kernel
theorem dX9_takeAll_102 : decode cX9_takeAll 102 = .ok (.iload_n 2, 1) := by decide +kernel
theorem dX9_takeAll_103 : decode cX9_takeAll 103 = .ok (.aaload, 1) := by decide +kernel
theorem dX9_takeAll_104 : decode cX9_takeAll 104 = .ok (.aload_n 1, 1) := by decide +kernel
theorem dX9_takeAll_105 : decode cX9_takeAll 105 = .ok (.getfield 33, 3) := by decide +kernel
theorem dX9_takeAll_108 : decode cX9_takeAll 108 = .ok (.iload_n 2, 1) := by decide +kernel
theorem dX9_takeAll_109 : decode cX9_takeAll 109 = .ok (.aaload, 1) := by decide +kernel
theorem dX9_takeAll_110 : decode cX9_takeAll 110 = .ok (.invokevirtual 61, 3) := by decide +kernel
theorem dX9_takeAll_113 : decode cX9_takeAll 113 = .ok (.aload_n 0, 1) := by decide +kernel
theorem dX9_takeAll_114 : decode cX9_takeAll 114 = .ok (.getfield 40, 3) := by decide +kernel
theorem dX9_takeAll_117 : decode cX9_takeAll 117 = .ok (.iload_n 2, 1) := by decide +kernel
theorem dX9_takeAll_118 : decode cX9_takeAll 118 = .ok (.aaload, 1) := by decide +kernel
theorem dX9_takeAll_119 : decode cX9_takeAll 119 = .ok (.aload_n 1, 1) := by decide +kernel
theorem dX9_takeAll_120 : decode cX9_takeAll 120 = .ok (.getfield 40, 3) := by decide +kernel
theorem dX9_takeAll_123 : decode cX9_takeAll 123 = .ok (.iload_n 2, 1) := by decide +kernel
theorem dX9_takeAll_124 : decode cX9_takeAll 124 = .ok (.aaload, 1) := by decide +kernel
theorem dX9_takeAll_125 : decode cX9_takeAll 125 = .ok (.invokevirtual 68, 3) := by decide +kernel
theorem dX9_takeAll_128 : decode cX9_takeAll 128 = .ok (.iinc 2 1, 3) := by decide +kernel
theorem dX9_takeAll_131 : decode cX9_takeAll 131 = .ok (.goto (-53), 3) := by decide +kernel
theorem dX9_takeAll_134 : decode cX9_takeAll 134 = .ok (.return_, 1) := by decide +kernel


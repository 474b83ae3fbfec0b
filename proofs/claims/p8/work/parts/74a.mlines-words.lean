theorem m_fl_RX12_104 : Cond.fieldLink RX12 104 (TX12 8).1 (TX12 8).2.1 (TX12 8).2.2.1 ∈ zT := zmem1 zsub_6 3 (by decide +kernel) (by decide +kernel)
theorem m_co_X12_ends : Cond.code yX12_ends cX12_ends 1 none ∈ zT := zmem1 zsub_6 181 (by decide +kernel) (by decide +kernel)
theorem m_ml_RX12_108 : Cond.methodLink RX12 108 yX12_ends ∈ zT := zmem1 zsub_6 178 (by decide +kernel) (by decide +kernel)
theorem m_im_X12_ends : Cond.instanceMethod yX12_ends ∈ zT := zmem1 zsub_6 180 (by decide +kernel) (by decide +kernel)
theorem m_se_X12_ends : Cond.selects RX12 yX12_ends yX12_ends ∈ zT := zmem 50 (by decide +kernel) (by decide +kernel)
theorem m_co_X12_advance : Cond.code yX12_advance cX12_advance 4 none ∈ zT := zmem1 zsub_6 147 (by decide +kernel) (by decide +kernel)
theorem m_ml_RX12_119 : Cond.methodLink RX12 119 yX12_advance ∈ zT := zmem1 zsub_6 144 (by decide +kernel) (by decide +kernel)
theorem m_im_X12_advance : Cond.instanceMethod yX12_advance ∈ zT := zmem1 zsub_6 146 (by decide +kernel) (by decide +kernel)
theorem m_se_X12_advance : Cond.selects RX12 yX12_advance yX12_advance ∈ zT := zmem 46 (by decide +kernel) (by decide +kernel)
theorem m_co_X12_also : Cond.code yX12_also cX12_also 3 none ∈ zT := zmem1 zsub_6 189 (by decide +kernel) (by decide +kernel)
theorem m_ml_RX12_115 : Cond.methodLink RX12 115 yX12_also ∈ zT := zmem1 zsub_6 186 (by decide +kernel) (by decide +kernel)
theorem m_im_X12_also : Cond.instanceMethod yX12_also ∈ zT := zmem1 zsub_6 188 (by decide +kernel) (by decide +kernel)
theorem m_se_X12_also : Cond.selects RX12 yX12_also yX12_also ∈ zT := zmem 52 (by decide +kernel) (by decide +kernel)
theorem m_co_X12_numbered : Cond.code yX12_numbered cX12_numbered 4 (some .int) ∈ zT := zmem1 zsub_6 197 (by decide +kernel) (by decide +kernel)
theorem m_ml_RX12_122 : Cond.methodLink RX12 122 yX12_numbered ∈ zT := zmem1 zsub_6 194 (by decide +kernel) (by decide +kernel)
theorem m_im_X12_numbered : Cond.instanceMethod yX12_numbered ∈ zT := zmem1 zsub_6 196 (by decide +kernel) (by decide +kernel)
theorem m_se_X12_numbered : Cond.selects RX12 yX12_numbered yX12_numbered ∈ zT := zmem 54 (by decide +kernel) (by decide +kernel)
theorem m_fl_RX12_126 : Cond.fieldLink RX12 126 (TX12 9).1 (TX12 9).2.1 (TX12 9).2.2.1 ∈ zT := zmem1 zsub_6 4 (by decide +kernel) (by decide +kernel)
theorem kV_RX12_108 {R : Room} {s : State} {args : Array Value} {d mc ms : Nat} (hts : ∀ w ∈ zT, w.before args s = true) (h1 : d + 1 ≤ R.frames) (h2 : 8 + (1 + 11) + 40 * d ≤ R.locals) : CallW R s args RX12 RX12 108 yX12_ends cX12_ends 1 none (zW yX12_ends cX12_ends 1 none) (zR d mc ms) mc ms 0 := z_cwV hts m_co_X12_ends m_ml_RX12_108 m_im_X12_ends m_se_X12_ends m_ii_RX12 (by decide +kernel) h1 h2
theorem kV_RX12_119 {R : Room} {s : State} {args : Array Value} {d mc ms : Nat} (hts : ∀ w ∈ zT, w.before args s = true) (h1 : d + 1 ≤ R.frames) (h2 : 8 + (4 + 11) + 40 * d ≤ R.locals) : CallW R s args RX12 RX12 119 yX12_advance cX12_advance 4 none (zW yX12_advance cX12_advance 4 none) (zR d mc ms) mc ms 0 := z_cwV hts m_co_X12_advance m_ml_RX12_119 m_im_X12_advance m_se_X12_advance m_ii_RX12 (by decide +kernel) h1 h2
theorem kV_RX12_115 {R : Room} {s : State} {args : Array Value} {d mc ms : Nat} (hts : ∀ w ∈ zT, w.before args s = true) (h1 : d + 1 ≤ R.frames) (h2 : 8 + (3 + 11) + 40 * d ≤ R.locals) : CallW R s args RX12 RX12 115 yX12_also cX12_also 3 none (zW yX12_also cX12_also 3 none) (zR d mc ms) mc ms 2 := z_cwV hts m_co_X12_also m_ml_RX12_115 m_im_X12_also m_se_X12_also m_ii_RX12 (by decide +kernel) h1 h2
theorem kV_RX12_122 {R : Room} {s : State} {args : Array Value} {d mc ms : Nat} (hts : ∀ w ∈ zT, w.before args s = true) (h1 : d + 1 ≤ R.frames) (h2 : 8 + (4 + 11) + 40 * d ≤ R.locals) : CallW R s args RX12 RX12 122 yX12_numbered cX12_numbered 4 (some .int) (zW yX12_numbered cX12_numbered 4 (some .int)) (zR d mc ms) mc ms 2 := z_cwV hts m_co_X12_numbered m_ml_RX12_122 m_im_X12_numbered m_se_X12_numbered m_ii_RX12 (by decide +kernel) h1 h2
theorem dX12_ends_0 : decode cX12_ends 0 = .ok (.aload_n 0, 1) := by decide +kernel
theorem dX12_ends_1 : decode cX12_ends 1 = .ok (.getfield 104, 3) := by decide +kernel
theorem dX12_ends_4 : decode cX12_ends 4 = .ok (.ifCond .eq 4, 3) := by decide +kernel
theorem dX12_ends_7 : decode cX12_ends 7 = .ok (.return_, 1) := by decide +kernel
theorem dX12_ends_8 : decode cX12_ends 8 = .ok (.aload_n 0, 1) := by decide +kernel
theorem dX12_ends_9 : decode cX12_ends 9 = .ok (.iconst 1, 1) := by decide +kernel
theorem dX12_ends_10 : decode cX12_ends 10 = .ok (.putfield 104, 3) := by decide +kernel
theorem dX12_ends_13 : decode cX12_ends 13 = .ok (.aload_n 0, 1) := by decide +kernel
theorem dX12_ends_14 : decode cX12_ends 14 = .ok (.getfield 7, 3) := by decide +kernel
theorem dX12_ends_17 : decode cX12_ends 17 = .ok (.iconst 5, 1) := by decide +kernel
theorem dX12_ends_18 : decode cX12_ends 18 = .ok (.iconst 1, 1) := by decide +kernel
theorem dX12_ends_19 : decode cX12_ends 19 = .ok (.iastore, 1) := by decide +kernel
theorem dX12_ends_20 : decode cX12_ends 20 = .ok (.aload_n 0, 1) := by decide +kernel
theorem dX12_ends_21 : decode cX12_ends 21 = .ok (.getfield 7, 3) := by decide +kernel
theorem dX12_ends_24 : decode cX12_ends 24 = .ok (.bipush 6, 2) := by decide +kernel
theorem dX12_ends_26 : decode cX12_ends 26 = .ok (.aload_n 0, 1) := by decide +kernel
theorem dX12_ends_27 : decode cX12_ends 27 = .ok (.getfield 77, 3) := by decide +kernel
theorem dX12_ends_30 : decode cX12_ends 30 = .ok (.iastore, 1) := by decide +kernel
theorem dX12_ends_31 : decode cX12_ends 31 = .ok (.return_, 1) := by decide +kernel
theorem dX12_also_0 : decode cX12_also 0 = .ok (.aload_n 0, 1) := by decide +kernel
theorem dX12_also_1 : decode cX12_also 1 = .ok (.getfield 104, 3) := by decide +kernel
theorem dX12_also_4 : decode cX12_also 4 = .ok (.ifCond .ne 44, 3) := by decide +kernel
theorem dX12_also_7 : decode cX12_also 7 = .ok (.aload_n 0, 1) := by decide +kernel
theorem dX12_also_8 : decode cX12_also 8 = .ok (.getfield 7, 3) := by decide +kernel
theorem dX12_also_11 : decode cX12_also 11 = .ok (.iconst 5, 1) := by decide +kernel
theorem dX12_also_12 : decode cX12_also 12 = .ok (.iaload, 1) := by decide +kernel
theorem dX12_also_13 : decode cX12_also 13 = .ok (.ifCond .eq 36, 3) := by decide +kernel
theorem dX12_also_16 : decode cX12_also 16 = .ok (.aload_n 0, 1) := by decide +kernel
theorem dX12_also_17 : decode cX12_also 17 = .ok (.getfield 7, 3) := by decide +kernel
theorem dX12_also_20 : decode cX12_also 20 = .ok (.bipush 6, 2) := by decide +kernel
theorem dX12_also_22 : decode cX12_also 22 = .ok (.iaload, 1) := by decide +kernel
theorem dX12_also_23 : decode cX12_also 23 = .ok (.iload_n 2, 1) := by decide +kernel
theorem dX12_also_24 : decode cX12_also 24 = .ok (.if_icmp .lt 24, 3) := by decide +kernel
theorem dX12_also_27 : decode cX12_also 27 = .ok (.aload_n 0, 1) := by decide +kernel
theorem dX12_also_28 : decode cX12_also 28 = .ok (.getfield 7, 3) := by decide +kernel
theorem dX12_also_31 : decode cX12_also 31 = .ok (.bipush 6, 2) := by decide +kernel
theorem dX12_also_33 : decode cX12_also 33 = .ok (.iaload, 1) := by decide +kernel
theorem dX12_also_34 : decode cX12_also 34 = .ok (.iload_n 2, 1) := by decide +kernel
theorem dX12_also_35 : decode cX12_also 35 = .ok (.if_icmp .ne 14, 3) := by decide +kernel
theorem dX12_also_38 : decode cX12_also 38 = .ok (.aload_n 0, 1) := by decide +kernel
theorem dX12_also_39 : decode cX12_also 39 = .ok (.getfield 7, 3) := by decide +kernel
theorem dX12_also_42 : decode cX12_also 42 = .ok (.iconst 5, 1) := by decide +kernel
theorem dX12_also_43 : decode cX12_also 43 = .ok (.iaload, 1) := by decide +kernel
theorem dX12_also_44 : decode cX12_also 44 = .ok (.iload_n 1, 1) := by decide +kernel
theorem dX12_also_45 : decode cX12_also 45 = .ok (.if_icmp .gt 4, 3) := by decide +kernel
theorem dX12_also_48 : decode cX12_also 48 = .ok (.return_, 1) := by decide +kernel
theorem dX12_also_49 : decode cX12_also 49 = .ok (.aload_n 0, 1) := by decide +kernel
theorem dX12_also_50 : decode cX12_also 50 = .ok (.getfield 7, 3) := by decide +kernel
theorem dX12_also_53 : decode cX12_also 53 = .ok (.iconst 5, 1) := by decide +kernel
theorem dX12_also_54 : decode cX12_also 54 = .ok (.iload_n 1, 1) := by decide +kernel
theorem dX12_also_55 : decode cX12_also 55 = .ok (.iastore, 1) := by decide +kernel
theorem dX12_also_56 : decode cX12_also 56 = .ok (.aload_n 0, 1) := by decide +kernel
theorem dX12_also_57 : decode cX12_also 57 = .ok (.getfield 7, 3) := by decide +kernel
theorem dX12_also_60 : decode cX12_also 60 = .ok (.bipush 6, 2) := by decide +kernel
theorem dX12_also_62 : decode cX12_also 62 = .ok (.iload_n 2, 1) := by decide +kernel
theorem dX12_also_63 : decode cX12_also 63 = .ok (.iastore, 1) := by decide +kernel
theorem dX12_also_64 : decode cX12_also 64 = .ok (.return_, 1) := by decide +kernel
theorem dX12_numbered_0 : decode cX12_numbered 0 = .ok (.aload_n 0, 1) := by decide +kernel
theorem dX12_numbered_1 : decode cX12_numbered 1 = .ok (.getfield 104, 3) := by decide +kernel
theorem dX12_numbered_4 : decode cX12_numbered 4 = .ok (.ifCond .ne 11, 3) := by decide +kernel
theorem dX12_numbered_7 : decode cX12_numbered 7 = .ok (.aload_n 0, 1) := by decide +kernel
theorem dX12_numbered_8 : decode cX12_numbered 8 = .ok (.getfield 80, 3) := by decide +kernel
theorem dX12_numbered_11 : decode cX12_numbered 11 = .ok (.iconst 1, 1) := by decide +kernel
theorem dX12_numbered_12 : decode cX12_numbered 12 = .ok (.if_icmp .eq 9, 3) := by decide +kernel
theorem dX12_numbered_15 : decode cX12_numbered 15 = .ok (.aload_n 0, 1) := by decide +kernel
theorem dX12_numbered_16 : decode cX12_numbered 16 = .ok (.invokevirtual 108, 3) := by decide +kernel
theorem dX12_numbered_19 : decode cX12_numbered 19 = .ok (.iload_n 1, 1) := by decide +kernel
theorem dX12_numbered_20 : decode cX12_numbered 20 = .ok (.ireturn, 1) := by decide +kernel
theorem dX12_numbered_21 : decode cX12_numbered 21 = .ok (.aload_n 0, 1) := by decide +kernel
theorem dX12_numbered_22 : decode cX12_numbered 22 = .ok (.getfield 101, 3) := by decide +kernel
theorem dX12_numbered_25 : decode cX12_numbered 25 = .ok (.istore_n 3, 1) := by decide +kernel
theorem dX12_numbered_26 : decode cX12_numbered 26 = .ok (.iload_n 3, 1) := by decide +kernel
theorem dX12_numbered_27 : decode cX12_numbered 27 = .ok (.iload_n 1, 1) := by decide +kernel
theorem dX12_numbered_28 : decode cX12_numbered 28 = .ok (.iload_n 2, 1) := by decide +kernel
theorem dX12_numbered_29 : decode cX12_numbered 29 = .ok (.invokestatic 111, 3) := by decide +kernel
theorem dX12_numbered_32 : decode cX12_numbered 32 = .ok (.ifCond .ne 12, 3) := by decide +kernel
theorem dX12_numbered_35 : decode cX12_numbered 35 = .ok (.aload_n 0, 1) := by decide +kernel
theorem dX12_numbered_36 : decode cX12_numbered 36 = .ok (.iconst 2, 1) := by decide +kernel
theorem dX12_numbered_37 : decode cX12_numbered 37 = .ok (.aload_n 0, 1) := by decide +kernel
theorem dX12_numbered_38 : decode cX12_numbered 38 = .ok (.getfield 77, 3) := by decide +kernel
theorem dX12_numbered_41 : decode cX12_numbered 41 = .ok (.invokevirtual 115, 3) := by decide +kernel
theorem dX12_numbered_44 : decode cX12_numbered 44 = .ok (.aload_n 0, 1) := by decide +kernel
theorem dX12_numbered_45 : decode cX12_numbered 45 = .ok (.invokevirtual 119, 3) := by decide +kernel
theorem dX12_numbered_48 : decode cX12_numbered 48 = .ok (.iload_n 3, 1) := by decide +kernel
theorem dX12_numbered_49 : decode cX12_numbered 49 = .ok (.iload_n 1, 1) := by decide +kernel
theorem dX12_numbered_50 : decode cX12_numbered 50 = .ok (.iload_n 2, 1) := by decide +kernel
theorem dX12_numbered_51 : decode cX12_numbered 51 = .ok (.invokestatic 111, 3) := by decide +kernel
theorem dX12_numbered_54 : decode cX12_numbered 54 = .ok (.ifCond .eq 7, 3) := by decide +kernel
theorem dX12_numbered_57 : decode cX12_numbered 57 = .ok (.iload_n 3, 1) := by decide +kernel
theorem dX12_numbered_58 : decode cX12_numbered 58 = .ok (.goto 4, 3) := by decide +kernel
theorem dX12_numbered_61 : decode cX12_numbered 61 = .ok (.iload_n 1, 1) := by decide +kernel
theorem dX12_numbered_62 : decode cX12_numbered 62 = .ok (.ireturn, 1) := by decide +kernel
theorem dX12_wordIn_0 : decode cX12_wordIn 0 = .ok (.aload_n 0, 1) := by decide +kernel
theorem dX12_wordIn_1 : decode cX12_wordIn 1 = .ok (.getfield 104, 3) := by decide +kernel
theorem dX12_wordIn_4 : decode cX12_wordIn 4 = .ok (.ifCond .ne 23, 3) := by decide +kernel
theorem dX12_wordIn_7 : decode cX12_wordIn 7 = .ok (.aload_n 0, 1) := by decide +kernel
theorem dX12_wordIn_8 : decode cX12_wordIn 8 = .ok (.getfield 80, 3) := by decide +kernel
theorem dX12_wordIn_11 : decode cX12_wordIn 11 = .ok (.iconst 3, 1) := by decide +kernel
theorem dX12_wordIn_12 : decode cX12_wordIn 12 = .ok (.if_icmp .ne 15, 3) := by decide +kernel
theorem dX12_wordIn_15 : decode cX12_wordIn 15 = .ok (.aload_n 0, 1) := by decide +kernel
theorem dX12_wordIn_16 : decode cX12_wordIn 16 = .ok (.getfield 95, 3) := by decide +kernel
theorem dX12_wordIn_19 : decode cX12_wordIn 19 = .ok (.iload_n 1, 1) := by decide +kernel
theorem dX12_wordIn_20 : decode cX12_wordIn 20 = .ok (.iload_n 2, 1) := by decide +kernel
theorem dX12_wordIn_21 : decode cX12_wordIn 21 = .ok (.invokestatic 111, 3) := by decide +kernel
theorem dX12_wordIn_24 : decode cX12_wordIn 24 = .ok (.ifCond .ne 9, 3) := by decide +kernel
theorem dX12_wordIn_27 : decode cX12_wordIn 27 = .ok (.aload_n 0, 1) := by decide +kernel
theorem dX12_wordIn_28 : decode cX12_wordIn 28 = .ok (.invokevirtual 108, 3) := by decide +kernel
theorem dX12_wordIn_31 : decode cX12_wordIn 31 = .ok (.iconst 0, 1) := by decide +kernel
theorem dX12_wordIn_32 : decode cX12_wordIn 32 = .ok (.ireturn, 1) := by decide +kernel
theorem dX12_wordIn_33 : decode cX12_wordIn 33 = .ok (.aload_n 0, 1) := by decide +kernel
theorem dX12_wordIn_34 : decode cX12_wordIn 34 = .ok (.getfield 95, 3) := by decide +kernel
theorem dX12_wordIn_37 : decode cX12_wordIn 37 = .ok (.istore_n 3, 1) := by decide +kernel
theorem dX12_wordIn_38 : decode cX12_wordIn 38 = .ok (.aload_n 0, 1) := by decide +kernel
theorem dX12_wordIn_39 : decode cX12_wordIn 39 = .ok (.invokevirtual 119, 3) := by decide +kernel
theorem dX12_wordIn_42 : decode cX12_wordIn 42 = .ok (.iload_n 3, 1) := by decide +kernel
theorem dX12_wordIn_43 : decode cX12_wordIn 43 = .ok (.ireturn, 1) := by decide +kernel
theorem dX12_endsLine_0 : decode cX12_endsLine 0 = .ok (.aload_n 0, 1) := by decide +kernel
theorem dX12_endsLine_1 : decode cX12_endsLine 1 = .ok (.getfield 104, 3) := by decide +kernel
theorem dX12_endsLine_4 : decode cX12_endsLine 4 = .ok (.ifCond .ne 18, 3) := by decide +kernel
theorem dX12_endsLine_7 : decode cX12_endsLine 7 = .ok (.aload_n 0, 1) := by decide +kernel
theorem dX12_endsLine_8 : decode cX12_endsLine 8 = .ok (.getfield 80, 3) := by decide +kernel
theorem dX12_endsLine_11 : decode cX12_endsLine 11 = .ok (.iconst 2, 1) := by decide +kernel
theorem dX12_endsLine_12 : decode cX12_endsLine 12 = .ok (.if_icmp .ne 10, 3) := by decide +kernel
theorem dX12_endsLine_15 : decode cX12_endsLine 15 = .ok (.aload_n 0, 1) := by decide +kernel
theorem dX12_endsLine_16 : decode cX12_endsLine 16 = .ok (.invokevirtual 119, 3) := by decide +kernel
theorem dX12_endsLine_19 : decode cX12_endsLine 19 = .ok (.goto 7, 3) := by decide +kernel
theorem dX12_endsLine_22 : decode cX12_endsLine 22 = .ok (.aload_n 0, 1) := by decide +kernel
theorem dX12_endsLine_23 : decode cX12_endsLine 23 = .ok (.invokevirtual 108, 3) := by decide +kernel
theorem dX12_endsLine_26 : decode cX12_endsLine 26 = .ok (.return_, 1) := by decide +kernel
theorem dX12_crossingTold_0 : decode cX12_crossingTold 0 = .ok (.aload_n 0, 1) := by decide +kernel
theorem dX12_crossingTold_1 : decode cX12_crossingTold 1 = .ok (.iconst 0, 1) := by decide +kernel
theorem dX12_crossingTold_2 : decode cX12_crossingTold 2 = .ok (.bipush 6, 2) := by decide +kernel
theorem dX12_crossingTold_4 : decode cX12_crossingTold 4 = .ok (.invokevirtual 122, 3) := by decide +kernel
theorem dX12_crossingTold_7 : decode cX12_crossingTold 7 = .ok (.istore_n 1, 1) := by decide +kernel
theorem dX12_crossingTold_8 : decode cX12_crossingTold 8 = .ok (.aload_n 0, 1) := by decide +kernel
theorem dX12_crossingTold_9 : decode cX12_crossingTold 9 = .ok (.iload_n 1, 1) := by decide +kernel
theorem dX12_crossingTold_10 : decode cX12_crossingTold 10 = .ok (.aload_n 0, 1) := by decide +kernel
theorem dX12_crossingTold_11 : decode cX12_crossingTold 11 = .ok (.getfield 126, 3) := by decide +kernel
theorem dX12_crossingTold_14 : decode cX12_crossingTold 14 = .ok (.if_icmp .le 7, 3) := by decide +kernel
theorem dX12_crossingTold_17 : decode cX12_crossingTold 17 = .ok (.iload_n 1, 1) := by decide +kernel
theorem dX12_crossingTold_18 : decode cX12_crossingTold 18 = .ok (.goto 7, 3) := by decide +kernel
theorem dX12_crossingTold_21 : decode cX12_crossingTold 21 = .ok (.aload_n 0, 1) := by decide +kernel
theorem dX12_crossingTold_22 : decode cX12_crossingTold 22 = .ok (.getfield 126, 3) := by decide +kernel
theorem dX12_crossingTold_25 : decode cX12_crossingTold 25 = .ok (.putfield 126, 3) := by decide +kernel
theorem dX12_crossingTold_28 : decode cX12_crossingTold 28 = .ok (.iload_n 1, 1) := by decide +kernel
theorem dX12_crossingTold_29 : decode cX12_crossingTold 29 = .ok (.ireturn, 1) := by decide +kernel


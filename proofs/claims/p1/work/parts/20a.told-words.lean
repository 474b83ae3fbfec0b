theorem m_fl_RX4_24 : Cond.fieldLink RX4 24 (TX4 0).1 (TX4 0).2.1 (TX4 0).2.2.1 ∈ zT := zmem1 zsub_1 41 (by decide +kernel) (by decide +kernel)
theorem m_fl_RX4_28 : Cond.fieldLink RX4 28 (TX4 1).1 (TX4 1).2.1 (TX4 1).2.2.1 ∈ zT := zmem1 zsub_1 49 (by decide +kernel) (by decide +kernel)
theorem m_fl_RX2_21 : Cond.fieldLink RX2 21 (TX2 0).1 (TX2 0).2.1 (TX2 0).2.2.1 ∈ zT := zmem1 zsub_1 88 (by decide +kernel) (by decide +kernel)
theorem m_fl_RX5_18 : Cond.fieldLink RX5 18 (TX5 0).1 (TX5 0).2.1 (TX5 0).2.2.1 ∈ zT := zmem1 zsub_1 114 (by decide +kernel) (by decide +kernel)
theorem m_fl_RX9_44 : Cond.fieldLink RX9 44 (TX9 1).1 (TX9 1).2.1 (TX9 1).2.2.1 ∈ zT := zmem1 zsub_1 131 (by decide +kernel) (by decide +kernel)
theorem m_fl_RX9_77 : Cond.fieldLink RX9 77 (TX9 2).1 (TX9 2).2.1 (TX9 2).2.2.1 ∈ zT := zmem1 zsub_1 133 (by decide +kernel) (by decide +kernel)
theorem m_co_X4_takeAll : Cond.code yX4_takeAll cX4_takeAll 3 none ∈ zT := zmem1 zsub_3 153 (by decide +kernel) (by decide +kernel)
theorem m_ml_RX9_53 : Cond.methodLink RX9 53 yX4_takeAll ∈ zT := zmem1 zsub_3 150 (by decide +kernel) (by decide +kernel)
theorem m_im_X4_takeAll : Cond.instanceMethod yX4_takeAll ∈ zT := zmem1 zsub_3 151 (by decide +kernel) (by decide +kernel)
theorem m_se_X4_takeAll : Cond.selects RX4 yX4_takeAll yX4_takeAll ∈ zT := zmem1 zsub_3 152 (by decide +kernel) (by decide +kernel)
theorem m_co_X2_takeAll : Cond.code yX2_takeAll cX2_takeAll 3 none ∈ zT := zmem1 zsub_3 157 (by decide +kernel) (by decide +kernel)
theorem m_ml_RX9_61 : Cond.methodLink RX9 61 yX2_takeAll ∈ zT := zmem1 zsub_3 154 (by decide +kernel) (by decide +kernel)
theorem m_im_X2_takeAll : Cond.instanceMethod yX2_takeAll ∈ zT := zmem1 zsub_3 155 (by decide +kernel) (by decide +kernel)
theorem m_se_X2_takeAll : Cond.selects RX2 yX2_takeAll yX2_takeAll ∈ zT := zmem1 zsub_3 156 (by decide +kernel) (by decide +kernel)
theorem m_co_X5_takeAll : Cond.code yX5_takeAll cX5_takeAll 3 none ∈ zT := zmem1 zsub_3 161 (by decide +kernel) (by decide +kernel)
theorem m_ml_RX9_68 : Cond.methodLink RX9 68 yX5_takeAll ∈ zT := zmem1 zsub_3 158 (by decide +kernel) (by decide +kernel)
theorem m_im_X5_takeAll : Cond.instanceMethod yX5_takeAll ∈ zT := zmem1 zsub_3 159 (by decide +kernel) (by decide +kernel)
theorem m_se_X5_takeAll : Cond.selects RX5 yX5_takeAll yX5_takeAll ∈ zT := zmem1 zsub_3 160 (by decide +kernel) (by decide +kernel)
theorem kV_RX9_53 {R : Room} {s : State} {args : Array Value} {d mc ms : Nat} (hts : ∀ w ∈ zT, w.before args s = true) (h1 : d + 1 ≤ R.frames) (h2 : 8 + (3 + 11) + 40 * d ≤ R.locals) : CallW R s args RX9 RX4 53 yX4_takeAll cX4_takeAll 3 none (zW yX4_takeAll cX4_takeAll 3 none) (zR d mc ms) mc ms 1 := z_cwV hts m_co_X4_takeAll m_ml_RX9_53 m_im_X4_takeAll m_se_X4_takeAll m_ii_RX4 (by decide +kernel) h1 h2
theorem kV_RX9_61 {R : Room} {s : State} {args : Array Value} {d mc ms : Nat} (hts : ∀ w ∈ zT, w.before args s = true) (h1 : d + 1 ≤ R.frames) (h2 : 8 + (3 + 11) + 40 * d ≤ R.locals) : CallW R s args RX9 RX2 61 yX2_takeAll cX2_takeAll 3 none (zW yX2_takeAll cX2_takeAll 3 none) (zR d mc ms) mc ms 1 := z_cwV hts m_co_X2_takeAll m_ml_RX9_61 m_im_X2_takeAll m_se_X2_takeAll m_ii_RX2 (by decide +kernel) h1 h2
theorem kV_RX9_68 {R : Room} {s : State} {args : Array Value} {d mc ms : Nat} (hts : ∀ w ∈ zT, w.before args s = true) (h1 : d + 1 ≤ R.frames) (h2 : 8 + (3 + 11) + 40 * d ≤ R.locals) : CallW R s args RX9 RX5 68 yX5_takeAll cX5_takeAll 3 none (zW yX5_takeAll cX5_takeAll 3 none) (zR d mc ms) mc ms 1 := z_cwV hts m_co_X5_takeAll m_ml_RX9_68 m_im_X5_takeAll m_se_X5_takeAll m_ii_RX5 (by decide +kernel) h1 h2
theorem dX4_takeAll_0 : decode cX4_takeAll 0 = .ok (.aload_n 0, 1) := by decide +kernel
theorem dX4_takeAll_1 : decode cX4_takeAll 1 = .ok (.aload_n 1, 1) := by decide +kernel
theorem dX4_takeAll_2 : decode cX4_takeAll 2 = .ok (.getfield 24, 3) := by decide +kernel
theorem dX4_takeAll_5 : decode cX4_takeAll 5 = .ok (.putfield 24, 3) := by decide +kernel
theorem dX4_takeAll_8 : decode cX4_takeAll 8 = .ok (.aload_n 0, 1) := by decide +kernel
theorem dX4_takeAll_9 : decode cX4_takeAll 9 = .ok (.aload_n 1, 1) := by decide +kernel
theorem dX4_takeAll_10 : decode cX4_takeAll 10 = .ok (.getfield 28, 3) := by decide +kernel
theorem dX4_takeAll_13 : decode cX4_takeAll 13 = .ok (.putfield 28, 3) := by decide +kernel
theorem dX4_takeAll_16 : decode cX4_takeAll 16 = .ok (.iconst 0, 1) := by decide +kernel
theorem dX4_takeAll_17 : decode cX4_takeAll 17 = .ok (.istore_n 2, 1) := by decide +kernel
theorem dX4_takeAll_18 : decode cX4_takeAll 18 = .ok (.iload_n 2, 1) := by decide +kernel
theorem dX4_takeAll_19 : decode cX4_takeAll 19 = .ok (.bipush 7, 2) := by decide +kernel
theorem dX4_takeAll_21 : decode cX4_takeAll 21 = .ok (.if_icmp .ge 45, 3) := by decide +kernel
theorem dX4_takeAll_24 : decode cX4_takeAll 24 = .ok (.aload_n 0, 1) := by decide +kernel
theorem dX4_takeAll_25 : decode cX4_takeAll 25 = .ok (.getfield 9, 3) := by decide +kernel
theorem dX4_takeAll_28 : decode cX4_takeAll 28 = .ok (.iload_n 2, 1) := by decide +kernel
theorem dX4_takeAll_29 : decode cX4_takeAll 29 = .ok (.aload_n 1, 1) := by decide +kernel
theorem dX4_takeAll_30 : decode cX4_takeAll 30 = .ok (.getfield 9, 3) := by decide +kernel
theorem dX4_takeAll_33 : decode cX4_takeAll 33 = .ok (.iload_n 2, 1) := by decide +kernel
theorem dX4_takeAll_34 : decode cX4_takeAll 34 = .ok (.iaload, 1) := by decide +kernel
theorem dX4_takeAll_35 : decode cX4_takeAll 35 = .ok (.iastore, 1) := by decide +kernel
theorem dX4_takeAll_36 : decode cX4_takeAll 36 = .ok (.aload_n 0, 1) := by decide +kernel
theorem dX4_takeAll_37 : decode cX4_takeAll 37 = .ok (.getfield 18, 3) := by decide +kernel
theorem dX4_takeAll_40 : decode cX4_takeAll 40 = .ok (.iload_n 2, 1) := by decide +kernel
theorem dX4_takeAll_41 : decode cX4_takeAll 41 = .ok (.aload_n 1, 1) := by decide +kernel
theorem dX4_takeAll_42 : decode cX4_takeAll 42 = .ok (.getfield 18, 3) := by decide +kernel
theorem dX4_takeAll_45 : decode cX4_takeAll 45 = .ok (.iload_n 2, 1) := by decide +kernel
theorem dX4_takeAll_46 : decode cX4_takeAll 46 = .ok (.iaload, 1) := by decide +kernel
theorem dX4_takeAll_47 : decode cX4_takeAll 47 = .ok (.iastore, 1) := by decide +kernel
theorem dX4_takeAll_48 : decode cX4_takeAll 48 = .ok (.aload_n 0, 1) := by decide +kernel
theorem dX4_takeAll_49 : decode cX4_takeAll 49 = .ok (.getfield 21, 3) := by decide +kernel
theorem dX4_takeAll_52 : decode cX4_takeAll 52 = .ok (.iload_n 2, 1) := by decide +kernel
theorem dX4_takeAll_53 : decode cX4_takeAll 53 = .ok (.aload_n 1, 1) := by decide +kernel
theorem dX4_takeAll_54 : decode cX4_takeAll 54 = .ok (.getfield 21, 3) := by decide +kernel
theorem dX4_takeAll_57 : decode cX4_takeAll 57 = .ok (.iload_n 2, 1) := by decide +kernel
theorem dX4_takeAll_58 : decode cX4_takeAll 58 = .ok (.iaload, 1) := by decide +kernel
theorem dX4_takeAll_59 : decode cX4_takeAll 59 = .ok (.iastore, 1) := by decide +kernel
theorem dX4_takeAll_60 : decode cX4_takeAll 60 = .ok (.iinc 2 1, 3) := by decide +kernel
theorem dX4_takeAll_63 : decode cX4_takeAll 63 = .ok (.goto (-45), 3) := by decide +kernel
theorem dX4_takeAll_66 : decode cX4_takeAll 66 = .ok (.iconst 0, 1) := by decide +kernel
theorem dX4_takeAll_67 : decode cX4_takeAll 67 = .ok (.istore_n 2, 1) := by decide +kernel
theorem dX4_takeAll_68 : decode cX4_takeAll 68 = .ok (.iload_n 2, 1) := by decide +kernel
theorem dX4_takeAll_69 : decode cX4_takeAll 69 = .ok (.bipush 28, 2) := by decide +kernel
theorem dX4_takeAll_71 : decode cX4_takeAll 71 = .ok (.if_icmp .ge 21, 3) := by decide +kernel
theorem dX4_takeAll_74 : decode cX4_takeAll 74 = .ok (.aload_n 0, 1) := by decide +kernel
theorem dX4_takeAll_75 : decode cX4_takeAll 75 = .ok (.getfield 15, 3) := by decide +kernel
theorem dX4_takeAll_78 : decode cX4_takeAll 78 = .ok (.iload_n 2, 1) := by decide +kernel
theorem dX4_takeAll_79 : decode cX4_takeAll 79 = .ok (.aload_n 1, 1) := by decide +kernel
theorem dX4_takeAll_80 : decode cX4_takeAll 80 = .ok (.getfield 15, 3) := by decide +kernel
theorem dX4_takeAll_83 : decode cX4_takeAll 83 = .ok (.iload_n 2, 1) := by decide +kernel
theorem dX4_takeAll_84 : decode cX4_takeAll 84 = .ok (.iaload, 1) := by decide +kernel
theorem dX4_takeAll_85 : decode cX4_takeAll 85 = .ok (.iastore, 1) := by decide +kernel
theorem dX4_takeAll_86 : decode cX4_takeAll 86 = .ok (.iinc 2 1, 3) := by decide +kernel
theorem dX4_takeAll_89 : decode cX4_takeAll 89 = .ok (.goto (-21), 3) := by decide +kernel
theorem dX4_takeAll_92 : decode cX4_takeAll 92 = .ok (.return_, 1) := by decide +kernel
theorem dX2_takeAll_0 : decode cX2_takeAll 0 = .ok (.aload_n 0, 1) := by decide +kernel
theorem dX2_takeAll_1 : decode cX2_takeAll 1 = .ok (.aload_n 1, 1) := by decide +kernel
theorem dX2_takeAll_2 : decode cX2_takeAll 2 = .ok (.getfield 21, 3) := by decide +kernel
theorem dX2_takeAll_5 : decode cX2_takeAll 5 = .ok (.putfield 21, 3) := by decide +kernel
theorem dX2_takeAll_8 : decode cX2_takeAll 8 = .ok (.iconst 0, 1) := by decide +kernel
theorem dX2_takeAll_9 : decode cX2_takeAll 9 = .ok (.istore_n 2, 1) := by decide +kernel
theorem dX2_takeAll_10 : decode cX2_takeAll 10 = .ok (.iload_n 2, 1) := by decide +kernel
theorem dX2_takeAll_11 : decode cX2_takeAll 11 = .ok (.bipush 40, 2) := by decide +kernel
theorem dX2_takeAll_13 : decode cX2_takeAll 13 = .ok (.if_icmp .ge 45, 3) := by decide +kernel
theorem dX2_takeAll_16 : decode cX2_takeAll 16 = .ok (.aload_n 0, 1) := by decide +kernel
theorem dX2_takeAll_17 : decode cX2_takeAll 17 = .ok (.getfield 9, 3) := by decide +kernel
theorem dX2_takeAll_20 : decode cX2_takeAll 20 = .ok (.iload_n 2, 1) := by decide +kernel
theorem dX2_takeAll_21 : decode cX2_takeAll 21 = .ok (.aload_n 1, 1) := by decide +kernel
theorem dX2_takeAll_22 : decode cX2_takeAll 22 = .ok (.getfield 9, 3) := by decide +kernel
theorem dX2_takeAll_25 : decode cX2_takeAll 25 = .ok (.iload_n 2, 1) := by decide +kernel
theorem dX2_takeAll_26 : decode cX2_takeAll 26 = .ok (.iaload, 1) := by decide +kernel
theorem dX2_takeAll_27 : decode cX2_takeAll 27 = .ok (.iastore, 1) := by decide +kernel
theorem dX2_takeAll_28 : decode cX2_takeAll 28 = .ok (.aload_n 0, 1) := by decide +kernel
theorem dX2_takeAll_29 : decode cX2_takeAll 29 = .ok (.getfield 15, 3) := by decide +kernel
theorem dX2_takeAll_32 : decode cX2_takeAll 32 = .ok (.iload_n 2, 1) := by decide +kernel
theorem dX2_takeAll_33 : decode cX2_takeAll 33 = .ok (.aload_n 1, 1) := by decide +kernel
theorem dX2_takeAll_34 : decode cX2_takeAll 34 = .ok (.getfield 15, 3) := by decide +kernel
theorem dX2_takeAll_37 : decode cX2_takeAll 37 = .ok (.iload_n 2, 1) := by decide +kernel
theorem dX2_takeAll_38 : decode cX2_takeAll 38 = .ok (.iaload, 1) := by decide +kernel
theorem dX2_takeAll_39 : decode cX2_takeAll 39 = .ok (.iastore, 1) := by decide +kernel
theorem dX2_takeAll_40 : decode cX2_takeAll 40 = .ok (.aload_n 0, 1) := by decide +kernel
theorem dX2_takeAll_41 : decode cX2_takeAll 41 = .ok (.getfield 18, 3) := by decide +kernel
theorem dX2_takeAll_44 : decode cX2_takeAll 44 = .ok (.iload_n 2, 1) := by decide +kernel
theorem dX2_takeAll_45 : decode cX2_takeAll 45 = .ok (.aload_n 1, 1) := by decide +kernel
theorem dX2_takeAll_46 : decode cX2_takeAll 46 = .ok (.getfield 18, 3) := by decide +kernel
theorem dX2_takeAll_49 : decode cX2_takeAll 49 = .ok (.iload_n 2, 1) := by decide +kernel
theorem dX2_takeAll_50 : decode cX2_takeAll 50 = .ok (.iaload, 1) := by decide +kernel
theorem dX2_takeAll_51 : decode cX2_takeAll 51 = .ok (.iastore, 1) := by decide +kernel
theorem dX2_takeAll_52 : decode cX2_takeAll 52 = .ok (.iinc 2 1, 3) := by decide +kernel
theorem dX2_takeAll_55 : decode cX2_takeAll 55 = .ok (.goto (-45), 3) := by decide +kernel
theorem dX2_takeAll_58 : decode cX2_takeAll 58 = .ok (.return_, 1) := by decide +kernel
theorem dX5_takeAll_0 : decode cX5_takeAll 0 = .ok (.aload_n 0, 1) := by decide +kernel
theorem dX5_takeAll_1 : decode cX5_takeAll 1 = .ok (.aload_n 1, 1) := by decide +kernel
theorem dX5_takeAll_2 : decode cX5_takeAll 2 = .ok (.getfield 18, 3) := by decide +kernel
theorem dX5_takeAll_5 : decode cX5_takeAll 5 = .ok (.putfield 18, 3) := by decide +kernel
theorem dX5_takeAll_8 : decode cX5_takeAll 8 = .ok (.iconst 0, 1) := by decide +kernel
theorem dX5_takeAll_9 : decode cX5_takeAll 9 = .ok (.istore_n 2, 1) := by decide +kernel
theorem dX5_takeAll_10 : decode cX5_takeAll 10 = .ok (.iload_n 2, 1) := by decide +kernel
theorem dX5_takeAll_11 : decode cX5_takeAll 11 = .ok (.bipush 8, 2) := by decide +kernel
theorem dX5_takeAll_13 : decode cX5_takeAll 13 = .ok (.if_icmp .ge 33, 3) := by decide +kernel
theorem dX5_takeAll_16 : decode cX5_takeAll 16 = .ok (.aload_n 0, 1) := by decide +kernel
theorem dX5_takeAll_17 : decode cX5_takeAll 17 = .ok (.getfield 9, 3) := by decide +kernel
theorem dX5_takeAll_20 : decode cX5_takeAll 20 = .ok (.iload_n 2, 1) := by decide +kernel
theorem dX5_takeAll_21 : decode cX5_takeAll 21 = .ok (.aload_n 1, 1) := by decide +kernel
theorem dX5_takeAll_22 : decode cX5_takeAll 22 = .ok (.getfield 9, 3) := by decide +kernel
theorem dX5_takeAll_25 : decode cX5_takeAll 25 = .ok (.iload_n 2, 1) := by decide +kernel
theorem dX5_takeAll_26 : decode cX5_takeAll 26 = .ok (.iaload, 1) := by decide +kernel
theorem dX5_takeAll_27 : decode cX5_takeAll 27 = .ok (.iastore, 1) := by decide +kernel
theorem dX5_takeAll_28 : decode cX5_takeAll 28 = .ok (.aload_n 0, 1) := by decide +kernel
theorem dX5_takeAll_29 : decode cX5_takeAll 29 = .ok (.getfield 15, 3) := by decide +kernel
theorem dX5_takeAll_32 : decode cX5_takeAll 32 = .ok (.iload_n 2, 1) := by decide +kernel
theorem dX5_takeAll_33 : decode cX5_takeAll 33 = .ok (.aload_n 1, 1) := by decide +kernel
theorem dX5_takeAll_34 : decode cX5_takeAll 34 = .ok (.getfield 15, 3) := by decide +kernel
theorem dX5_takeAll_37 : decode cX5_takeAll 37 = .ok (.iload_n 2, 1) := by decide +kernel
theorem dX5_takeAll_38 : decode cX5_takeAll 38 = .ok (.iaload, 1) := by decide +kernel
theorem dX5_takeAll_39 : decode cX5_takeAll 39 = .ok (.iastore, 1) := by decide +kernel
theorem dX5_takeAll_40 : decode cX5_takeAll 40 = .ok (.iinc 2 1, 3) := by decide +kernel
theorem dX5_takeAll_43 : decode cX5_takeAll 43 = .ok (.goto (-33), 3) := by decide +kernel
theorem dX5_takeAll_46 : decode cX5_takeAll 46 = .ok (.return_, 1) := by decide +kernel
theorem dX9_append_0 : decode cX9_append 0 = .ok (.bipush 24, 2) := by decide +kernel
theorem dX9_append_2 : decode cX9_append 2 = .ok (.istore_n 2, 1) := by decide +kernel
theorem dX9_append_3 : decode cX9_append 3 = .ok (.iload_n 2, 1) := by decide +kernel
theorem dX9_append_4 : decode cX9_append 4 = .ok (.ifCond .lt 42, 3) := by decide +kernel
theorem dX9_append_7 : decode cX9_append 7 = .ok (.aload_n 0, 1) := by decide +kernel
theorem dX9_append_8 : decode cX9_append 8 = .ok (.getfield 44, 3) := by decide +kernel
theorem dX9_append_11 : decode cX9_append 11 = .ok (.sipush 600, 3) := by decide +kernel
theorem dX9_append_14 : decode cX9_append 14 = .ok (.if_icmp .ge 26, 3) := by decide +kernel
theorem dX9_append_17 : decode cX9_append 17 = .ok (.aload_n 0, 1) := by decide +kernel
theorem dX9_append_18 : decode cX9_append 18 = .ok (.getfield 9, 3) := by decide +kernel
theorem dX9_append_21 : decode cX9_append 21 = .ok (.aload_n 0, 1) := by decide +kernel
theorem dX9_append_22 : decode cX9_append 22 = .ok (.getfield 44, 3) := by decide +kernel
theorem dX9_append_25 : decode cX9_append 25 = .ok (.iload_n 1, 1) := by decide +kernel
theorem dX9_append_26 : decode cX9_append 26 = .ok (.iload_n 2, 1) := by decide +kernel
theorem dX9_append_27 : decode cX9_append 27 = .ok (.ishr, 1) := by decide +kernel
theorem dX9_append_28 : decode cX9_append 28 = .ok (.i2b, 1) := by decide +kernel
theorem dX9_append_29 : decode cX9_append 29 = .ok (.bastore, 1) := by decide +kernel
theorem dX9_append_30 : decode cX9_append 30 = .ok (.aload_n 0, 1) := by decide +kernel
theorem dX9_append_31 : decode cX9_append 31 = .ok (.dup, 1) := by decide +kernel
theorem dX9_append_32 : decode cX9_append 32 = .ok (.getfield 44, 3) := by decide +kernel
theorem dX9_append_35 : decode cX9_append 35 = .ok (.iconst 1, 1) := by decide +kernel
theorem dX9_append_36 : decode cX9_append 36 = .ok (.iadd, 1) := by decide +kernel
theorem dX9_append_37 : decode cX9_append 37 = .ok (.putfield 44, 3) := by decide +kernel
theorem dX9_append_40 : decode cX9_append 40 = .ok (.iinc 2 (-8), 3) := by decide +kernel
theorem dX9_append_43 : decode cX9_append 43 = .ok (.goto (-40), 3) := by decide +kernel
theorem dX9_append_46 : decode cX9_append 46 = .ok (.return_, 1) := by decide +kernel
theorem dX9_placeFor_0 : decode cX9_placeFor 0 = .ok (.iload_n 1, 1) := by decide +kernel
theorem dX9_placeFor_1 : decode cX9_placeFor 1 = .ok (.ifCond .lt 8, 3) := by decide +kernel
theorem dX9_placeFor_4 : decode cX9_placeFor 4 = .ok (.iload_n 1, 1) := by decide +kernel
theorem dX9_placeFor_5 : decode cX9_placeFor 5 = .ok (.iconst 2, 1) := by decide +kernel
theorem dX9_placeFor_6 : decode cX9_placeFor 6 = .ok (.if_icmp .le 6, 3) := by decide +kernel
theorem dX9_placeFor_9 : decode cX9_placeFor 9 = .ok (.bipush (-2), 2) := by decide +kernel
theorem dX9_placeFor_11 : decode cX9_placeFor 11 = .ok (.ireturn, 1) := by decide +kernel
theorem dX9_placeFor_12 : decode cX9_placeFor 12 = .ok (.iload_n 2, 1) := by decide +kernel
theorem dX9_placeFor_13 : decode cX9_placeFor 13 = .ok (.iconst (-1), 1) := by decide +kernel
theorem dX9_placeFor_14 : decode cX9_placeFor 14 = .ok (.if_icmp .ne 25, 3) := by decide +kernel
theorem dX9_placeFor_17 : decode cX9_placeFor 17 = .ok (.aload_n 0, 1) := by decide +kernel
theorem dX9_placeFor_18 : decode cX9_placeFor 18 = .ok (.getfield 19, 3) := by decide +kernel
theorem dX9_placeFor_21 : decode cX9_placeFor 21 = .ok (.iload_n 1, 1) := by decide +kernel
theorem dX9_placeFor_22 : decode cX9_placeFor 22 = .ok (.iaload, 1) := by decide +kernel
theorem dX9_placeFor_23 : decode cX9_placeFor 23 = .ok (.iconst 2, 1) := by decide +kernel
theorem dX9_placeFor_24 : decode cX9_placeFor 24 = .ok (.if_icmp .ge 12, 3) := by decide +kernel
theorem dX9_placeFor_27 : decode cX9_placeFor 27 = .ok (.aload_n 0, 1) := by decide +kernel
theorem dX9_placeFor_28 : decode cX9_placeFor 28 = .ok (.getfield 19, 3) := by decide +kernel
theorem dX9_placeFor_31 : decode cX9_placeFor 31 = .ok (.iload_n 1, 1) := by decide +kernel
theorem dX9_placeFor_32 : decode cX9_placeFor 32 = .ok (.iaload, 1) := by decide +kernel
theorem dX9_placeFor_33 : decode cX9_placeFor 33 = .ok (.goto 5, 3) := by decide +kernel
theorem dX9_placeFor_38 : decode cX9_placeFor 38 = .ok (.ireturn, 1) := by decide +kernel
theorem dX9_placeFor_39 : decode cX9_placeFor 39 = .ok (.iload_n 2, 1) := by decide +kernel
theorem dX9_placeFor_40 : decode cX9_placeFor 40 = .ok (.ifCond .lt 17, 3) := by decide +kernel
theorem dX9_placeFor_43 : decode cX9_placeFor 43 = .ok (.iload_n 2, 1) := by decide +kernel
theorem dX9_placeFor_44 : decode cX9_placeFor 44 = .ok (.aload_n 0, 1) := by decide +kernel
theorem dX9_placeFor_45 : decode cX9_placeFor 45 = .ok (.getfield 19, 3) := by decide +kernel
theorem dX9_placeFor_48 : decode cX9_placeFor 48 = .ok (.iload_n 1, 1) := by decide +kernel
theorem dX9_placeFor_49 : decode cX9_placeFor 49 = .ok (.iaload, 1) := by decide +kernel
theorem dX9_placeFor_50 : decode cX9_placeFor 50 = .ok (.if_icmp .ge 7, 3) := by decide +kernel
theorem dX9_placeFor_57 : decode cX9_placeFor 57 = .ok (.bipush (-2), 2) := by decide +kernel
theorem dX9_placeFor_59 : decode cX9_placeFor 59 = .ok (.ireturn, 1) := by decide +kernel
theorem dX9_landAt_0 : decode cX9_landAt 0 = .ok (.iload_n 1, 1) := by decide +kernel
theorem dX9_landAt_1 : decode cX9_landAt 1 = .ok (.ifCond .lt 27, 3) := by decide +kernel
theorem dX9_landAt_4 : decode cX9_landAt 4 = .ok (.iload_n 1, 1) := by decide +kernel
theorem dX9_landAt_5 : decode cX9_landAt 5 = .ok (.aload_n 0, 1) := by decide +kernel
theorem dX9_landAt_6 : decode cX9_landAt 6 = .ok (.getfield 19, 3) := by decide +kernel
theorem dX9_landAt_9 : decode cX9_landAt 9 = .ok (.iconst 0, 1) := by decide +kernel
theorem dX9_landAt_10 : decode cX9_landAt 10 = .ok (.iaload, 1) := by decide +kernel
theorem dX9_landAt_11 : decode cX9_landAt 11 = .ok (.if_icmp .ge 17, 3) := by decide +kernel
theorem dX9_landAt_28 : decode cX9_landAt 28 = .ok (.aconst_null, 1) := by decide +kernel
theorem dX9_landAt_29 : decode cX9_landAt 29 = .ok (.areturn, 1) := by decide +kernel
theorem dX9_dayAt_0 : decode cX9_dayAt 0 = .ok (.iload_n 1, 1) := by decide +kernel
theorem dX9_dayAt_1 : decode cX9_dayAt 1 = .ok (.ifCond .lt 27, 3) := by decide +kernel
theorem dX9_dayAt_4 : decode cX9_dayAt 4 = .ok (.iload_n 1, 1) := by decide +kernel
theorem dX9_dayAt_5 : decode cX9_dayAt 5 = .ok (.aload_n 0, 1) := by decide +kernel
theorem dX9_dayAt_6 : decode cX9_dayAt 6 = .ok (.getfield 19, 3) := by decide +kernel
theorem dX9_dayAt_9 : decode cX9_dayAt 9 = .ok (.iconst 1, 1) := by decide +kernel
theorem dX9_dayAt_10 : decode cX9_dayAt 10 = .ok (.iaload, 1) := by decide +kernel
theorem dX9_dayAt_11 : decode cX9_dayAt 11 = .ok (.if_icmp .ge 17, 3) := by decide +kernel
theorem dX9_dayAt_28 : decode cX9_dayAt 28 = .ok (.aconst_null, 1) := by decide +kernel
theorem dX9_dayAt_29 : decode cX9_dayAt 29 = .ok (.areturn, 1) := by decide +kernel
theorem dX9_logAt_0 : decode cX9_logAt 0 = .ok (.iload_n 1, 1) := by decide +kernel
theorem dX9_logAt_1 : decode cX9_logAt 1 = .ok (.ifCond .lt 27, 3) := by decide +kernel
theorem dX9_logAt_4 : decode cX9_logAt 4 = .ok (.iload_n 1, 1) := by decide +kernel
theorem dX9_logAt_5 : decode cX9_logAt 5 = .ok (.aload_n 0, 1) := by decide +kernel
theorem dX9_logAt_6 : decode cX9_logAt 6 = .ok (.getfield 19, 3) := by decide +kernel
theorem dX9_logAt_9 : decode cX9_logAt 9 = .ok (.iconst 2, 1) := by decide +kernel
theorem dX9_logAt_10 : decode cX9_logAt 10 = .ok (.iaload, 1) := by decide +kernel
theorem dX9_logAt_11 : decode cX9_logAt 11 = .ok (.if_icmp .ge 17, 3) := by decide +kernel
theorem dX9_logAt_28 : decode cX9_logAt 28 = .ok (.aconst_null, 1) := by decide +kernel
theorem dX9_logAt_29 : decode cX9_logAt 29 = .ok (.areturn, 1) := by decide +kernel
theorem dX9_takeAll_0 : decode cX9_takeAll 0 = .ok (.iconst 0, 1) := by decide +kernel
theorem dX9_takeAll_1 : decode cX9_takeAll 1 = .ok (.istore_n 2, 1) := by decide +kernel
theorem dX9_takeAll_2 : decode cX9_takeAll 2 = .ok (.iload_n 2, 1) := by decide +kernel
theorem dX9_takeAll_3 : decode cX9_takeAll 3 = .ok (.sipush 600, 3) := by decide +kernel
theorem dX9_takeAll_6 : decode cX9_takeAll 6 = .ok (.if_icmp .ge 21, 3) := by decide +kernel
theorem dX9_takeAll_9 : decode cX9_takeAll 9 = .ok (.aload_n 0, 1) := by decide +kernel
theorem dX9_takeAll_10 : decode cX9_takeAll 10 = .ok (.getfield 9, 3) := by decide +kernel
theorem dX9_takeAll_13 : decode cX9_takeAll 13 = .ok (.iload_n 2, 1) := by decide +kernel
theorem dX9_takeAll_14 : decode cX9_takeAll 14 = .ok (.aload_n 1, 1) := by decide +kernel
theorem dX9_takeAll_15 : decode cX9_takeAll 15 = .ok (.getfield 9, 3) := by decide +kernel
theorem dX9_takeAll_18 : decode cX9_takeAll 18 = .ok (.iload_n 2, 1) := by decide +kernel
theorem dX9_takeAll_19 : decode cX9_takeAll 19 = .ok (.baload, 1) := by decide +kernel
theorem dX9_takeAll_20 : decode cX9_takeAll 20 = .ok (.bastore, 1) := by decide +kernel
theorem dX9_takeAll_21 : decode cX9_takeAll 21 = .ok (.iinc 2 1, 3) := by decide +kernel
theorem dX9_takeAll_24 : decode cX9_takeAll 24 = .ok (.goto (-22), 3) := by decide +kernel
theorem dX9_takeAll_27 : decode cX9_takeAll 27 = .ok (.aload_n 0, 1) := by decide +kernel
theorem dX9_takeAll_28 : decode cX9_takeAll 28 = .ok (.aload_n 1, 1) := by decide +kernel
theorem dX9_takeAll_29 : decode cX9_takeAll 29 = .ok (.getfield 44, 3) := by decide +kernel
theorem dX9_takeAll_32 : decode cX9_takeAll 32 = .ok (.putfield 44, 3) := by decide +kernel
theorem dX9_takeAll_35 : decode cX9_takeAll 35 = .ok (.aload_n 0, 1) := by decide +kernel
theorem dX9_takeAll_36 : decode cX9_takeAll 36 = .ok (.aload_n 1, 1) := by decide +kernel
theorem dX9_takeAll_37 : decode cX9_takeAll 37 = .ok (.getfield 77, 3) := by decide +kernel
theorem dX9_takeAll_40 : decode cX9_takeAll 40 = .ok (.putfield 77, 3) := by decide +kernel
theorem dX9_takeAll_43 : decode cX9_takeAll 43 = .ok (.aload_n 0, 1) := by decide +kernel
theorem dX9_takeAll_44 : decode cX9_takeAll 44 = .ok (.aload_n 1, 1) := by decide +kernel
theorem dX9_takeAll_45 : decode cX9_takeAll 45 = .ok (.getfield 15, 3) := by decide +kernel
theorem dX9_takeAll_48 : decode cX9_takeAll 48 = .ok (.putfield 15, 3) := by decide +kernel
theorem dX9_takeAll_51 : decode cX9_takeAll 51 = .ok (.iconst 0, 1) := by decide +kernel
theorem dX9_takeAll_52 : decode cX9_takeAll 52 = .ok (.istore_n 2, 1) := by decide +kernel
theorem dX9_takeAll_53 : decode cX9_takeAll 53 = .ok (.iload_n 2, 1) := by decide +kernel
theorem dX9_takeAll_54 : decode cX9_takeAll 54 = .ok (.iconst 2, 1) := by decide +kernel
theorem dX9_takeAll_55 : decode cX9_takeAll 55 = .ok (.if_icmp .gt 21, 3) := by decide +kernel
theorem dX9_takeAll_58 : decode cX9_takeAll 58 = .ok (.aload_n 0, 1) := by decide +kernel
theorem dX9_takeAll_59 : decode cX9_takeAll 59 = .ok (.getfield 19, 3) := by decide +kernel
theorem dX9_takeAll_62 : decode cX9_takeAll 62 = .ok (.iload_n 2, 1) := by decide +kernel
theorem dX9_takeAll_63 : decode cX9_takeAll 63 = .ok (.aload_n 1, 1) := by decide +kernel
theorem dX9_takeAll_64 : decode cX9_takeAll 64 = .ok (.getfield 19, 3) := by decide +kernel
theorem dX9_takeAll_67 : decode cX9_takeAll 67 = .ok (.iload_n 2, 1) := by decide +kernel
theorem dX9_takeAll_68 : decode cX9_takeAll 68 = .ok (.iaload, 1) := by decide +kernel
theorem dX9_takeAll_69 : decode cX9_takeAll 69 = .ok (.iastore, 1) := by decide +kernel
theorem dX9_takeAll_70 : decode cX9_takeAll 70 = .ok (.iinc 2 1, 3) := by decide +kernel
theorem dX9_takeAll_73 : decode cX9_takeAll 73 = .ok (.goto (-20), 3) := by decide +kernel
theorem dX9_takeAll_76 : decode cX9_takeAll 76 = .ok (.iconst 0, 1) := by decide +kernel
theorem dX9_takeAll_77 : decode cX9_takeAll 77 = .ok (.istore_n 2, 1) := by decide +kernel
theorem dX9_takeAll_78 : decode cX9_takeAll 78 = .ok (.iload_n 2, 1) := by decide +kernel
theorem dX9_takeAll_79 : decode cX9_takeAll 79 = .ok (.iconst 2, 1) := by decide +kernel
theorem dX9_takeAll_80 : decode cX9_takeAll 80 = .ok (.if_icmp .ge 54, 3) := by decide +kernel
theorem dX9_takeAll_83 : decode cX9_takeAll 83 = .ok (.aload_n 0, 1) := by decide +kernel
theorem dX9_takeAll_84 : decode cX9_takeAll 84 = .ok (.getfield 26, 3) := by decide +kernel
theorem dX9_takeAll_87 : decode cX9_takeAll 87 = .ok (.iload_n 2, 1) := by decide +kernel
theorem dX9_takeAll_88 : decode cX9_takeAll 88 = .ok (.aaload, 1) := by decide +kernel
theorem dX9_takeAll_89 : decode cX9_takeAll 89 = .ok (.aload_n 1, 1) := by decide +kernel
theorem dX9_takeAll_90 : decode cX9_takeAll 90 = .ok (.getfield 26, 3) := by decide +kernel
theorem dX9_takeAll_93 : decode cX9_takeAll 93 = .ok (.iload_n 2, 1) := by decide +kernel
theorem dX9_takeAll_94 : decode cX9_takeAll 94 = .ok (.aaload, 1) := by decide +kernel
theorem dX9_takeAll_95 : decode cX9_takeAll 95 = .ok (.invokevirtual 53, 3) := by decide +kernel
theorem dX9_takeAll_98 : decode cX9_takeAll 98 = .ok (.aload_n 0, 1) := by decide +kernel
theorem dX9_takeAll_99 : decode cX9_takeAll 99 = .ok (.getfield 33, 3) := by decide +kernel
theorem dX9_takeAll_102 : decode cX9_takeAll 102 = .ok (.iload_n 2, 1) := by decide +kernel
theorem dX9_takeAll_103 : decode cX9_takeAll 103 = .ok (.aaload, 1) := by decide +kernel
theorem dX9_takeAll_104 : decode cX9_takeAll 104 = .ok (.aload_n 1, 1) := by decide +kernel
theorem dX9_takeAll_105 : decode cX9_takeAll 105 = .ok (.getfield 33, 3) := by decide +kernel
theorem dX9_takeAll_108 : decode cX9_takeAll 108 = .ok (.iload_n 2, 1) := by decide +kernel
theorem dX9_takeAll_109 : decode cX9_takeAll 109 = .ok (.aaload, 1) := by decide +kernel
theorem dX9_takeAll_110 : decode cX9_takeAll 110 = .ok (.invokevirtual 61, 3) := by decide +kernel
theorem dX9_takeAll_113 : decode cX9_takeAll 113 = .ok (.aload_n 0, 1) := by decide +kernel
theorem dX9_takeAll_114 : decode cX9_takeAll 114 = .ok (.getfield 40, 3) := by decide +kernel
theorem dX9_takeAll_117 : decode cX9_takeAll 117 = .ok (.iload_n 2, 1) := by decide +kernel
theorem dX9_takeAll_118 : decode cX9_takeAll 118 = .ok (.aaload, 1) := by decide +kernel
theorem dX9_takeAll_119 : decode cX9_takeAll 119 = .ok (.aload_n 1, 1) := by decide +kernel
theorem dX9_takeAll_120 : decode cX9_takeAll 120 = .ok (.getfield 40, 3) := by decide +kernel
theorem dX9_takeAll_123 : decode cX9_takeAll 123 = .ok (.iload_n 2, 1) := by decide +kernel
theorem dX9_takeAll_124 : decode cX9_takeAll 124 = .ok (.aaload, 1) := by decide +kernel
theorem dX9_takeAll_125 : decode cX9_takeAll 125 = .ok (.invokevirtual 68, 3) := by decide +kernel
theorem dX9_takeAll_128 : decode cX9_takeAll 128 = .ok (.iinc 2 1, 3) := by decide +kernel
theorem dX9_takeAll_131 : decode cX9_takeAll 131 = .ok (.goto (-53), 3) := by decide +kernel
theorem dX9_takeAll_134 : decode cX9_takeAll 134 = .ok (.return_, 1) := by decide +kernel

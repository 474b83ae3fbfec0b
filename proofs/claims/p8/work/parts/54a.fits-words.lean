theorem m_co_X3_find : Cond.code yX3_find cX3_find 4 none ∈ zT := zmem1 zsub_5 117 (by decide +kernel) (by decide +kernel)
theorem m_ml_RX11_298 : Cond.methodLink RX11 298 yX3_find ∈ zT := zmem1 zsub_5 114 (by decide +kernel) (by decide +kernel)
theorem m_im_X3_find : Cond.instanceMethod yX3_find ∈ zT := zmem1 zsub_5 115 (by decide +kernel) (by decide +kernel)
theorem m_se_X3_find : Cond.selects RX3 yX3_find yX3_find ∈ zT := zmem1 zsub_5 116 (by decide +kernel) (by decide +kernel)
theorem m_fl_RX11_292 : Cond.fieldLink RX11 292 (TX3 1).1 (TX3 1).2.1 (TX3 1).2.2.1 ∈ zT := zmem1 zsub_2 148 (by decide +kernel) (by decide +kernel)
theorem m_fl_RX11_295 : Cond.fieldLink RX11 295 (TX3 2).1 (TX3 2).2.1 (TX3 2).2.2.1 ∈ zT := zmem1 zsub_2 150 (by decide +kernel) (by decide +kernel)
theorem kV_RX11_298 {R : Room} {s : State} {args : Array Value} {d mc ms : Nat} (hts : ∀ w ∈ zT, w.before args s = true) (h1 : d + 1 ≤ R.frames) (h2 : 8 + (4 + 11) + 40 * d ≤ R.locals) : CallW R s args RX11 RX3 298 yX3_find cX3_find 4 none (zW yX3_find cX3_find 4 none) (zR d mc ms) mc ms 2 := z_cwV hts m_co_X3_find m_ml_RX11_298 m_im_X3_find m_se_X3_find m_ii_RX3 (by decide +kernel) h1 h2
theorem dX11_fit_0 : decode cX11_fit 0 = .ok (.aload_n 0, 1) := by decide +kernel
theorem dX11_fit_1 : decode cX11_fit 1 = .ok (.getfield 10, 3) := by decide +kernel
theorem dX11_fit_4 : decode cX11_fit 4 = .ok (.iload_n 1, 1) := by decide +kernel
theorem dX11_fit_5 : decode cX11_fit 5 = .ok (.invokevirtual 121, 3) := by decide +kernel
theorem dX11_fit_8 : decode cX11_fit 8 = .ok (.astore_n 3, 1) := by decide +kernel
theorem dX11_fit_9 : decode cX11_fit 9 = .ok (.aload_n 0, 1) := by decide +kernel
theorem dX11_fit_10 : decode cX11_fit 10 = .ok (.getfield 10, 3) := by decide +kernel
theorem dX11_fit_13 : decode cX11_fit 13 = .ok (.iload_n 2, 1) := by decide +kernel
theorem dX11_fit_14 : decode cX11_fit 14 = .ok (.invokevirtual 138, 3) := by decide +kernel
theorem dX11_fit_17 : decode cX11_fit 17 = .ok (.astore 4, 2) := by decide +kernel
theorem dX11_fit_19 : decode cX11_fit 19 = .ok (.aload_n 3, 1) := by decide +kernel
theorem dX11_fit_20 : decode cX11_fit 20 = .ok (.ifnull 8, 3) := by decide +kernel
theorem dX11_fit_23 : decode cX11_fit 23 = .ok (.aload 4, 2) := by decide +kernel
theorem dX11_fit_25 : decode cX11_fit 25 = .ok (.ifnonnull 5, 3) := by decide +kernel
theorem dX11_fit_28 : decode cX11_fit 28 = .ok (.iconst 0, 1) := by decide +kernel
theorem dX11_fit_29 : decode cX11_fit 29 = .ok (.ireturn, 1) := by decide +kernel
theorem dX11_fit_30 : decode cX11_fit 30 = .ok (.aload_n 0, 1) := by decide +kernel
theorem dX11_fit_31 : decode cX11_fit 31 = .ok (.getfield 65, 3) := by decide +kernel
theorem dX11_fit_34 : decode cX11_fit 34 = .ok (.getfield 109, 3) := by decide +kernel
theorem dX11_fit_37 : decode cX11_fit 37 = .ok (.ifCond .eq 25, 3) := by decide +kernel
theorem dX11_fit_40 : decode cX11_fit 40 = .ok (.aload_n 0, 1) := by decide +kernel
theorem dX11_fit_41 : decode cX11_fit 41 = .ok (.getfield 65, 3) := by decide +kernel
theorem dX11_fit_44 : decode cX11_fit 44 = .ok (.getfield 292, 3) := by decide +kernel
theorem dX11_fit_47 : decode cX11_fit 47 = .ok (.iload_n 1, 1) := by decide +kernel
theorem dX11_fit_48 : decode cX11_fit 48 = .ok (.if_icmp .ne 14, 3) := by decide +kernel
theorem dX11_fit_51 : decode cX11_fit 51 = .ok (.aload_n 0, 1) := by decide +kernel
theorem dX11_fit_52 : decode cX11_fit 52 = .ok (.getfield 65, 3) := by decide +kernel
theorem dX11_fit_55 : decode cX11_fit 55 = .ok (.getfield 295, 3) := by decide +kernel
theorem dX11_fit_58 : decode cX11_fit 58 = .ok (.iload_n 2, 1) := by decide +kernel
theorem dX11_fit_59 : decode cX11_fit 59 = .ok (.if_icmp .eq 42, 3) := by decide +kernel
theorem dX11_fit_62 : decode cX11_fit 62 = .ok (.aload_n 0, 1) := by decide +kernel
theorem dX11_fit_63 : decode cX11_fit 63 = .ok (.getfield 65, 3) := by decide +kernel
theorem dX11_fit_66 : decode cX11_fit 66 = .ok (.aload_n 0, 1) := by decide +kernel
theorem dX11_fit_67 : decode cX11_fit 67 = .ok (.iload_n 1, 1) := by decide +kernel
theorem dX11_fit_68 : decode cX11_fit 68 = .ok (.aload_n 3, 1) := by decide +kernel
theorem dX11_fit_69 : decode cX11_fit 69 = .ok (.invokevirtual 235, 3) := by decide +kernel
theorem dX11_fit_72 : decode cX11_fit 72 = .ok (.aload 4, 2) := by decide +kernel
theorem dX11_fit_74 : decode cX11_fit 74 = .ok (.invokevirtual 298, 3) := by decide +kernel
theorem dX11_fit_77 : decode cX11_fit 77 = .ok (.aload_n 0, 1) := by decide +kernel
theorem dX11_fit_78 : decode cX11_fit 78 = .ok (.getfield 65, 3) := by decide +kernel
theorem dX11_fit_81 : decode cX11_fit 81 = .ok (.iload_n 1, 1) := by decide +kernel
theorem dX11_fit_82 : decode cX11_fit 82 = .ok (.putfield 292, 3) := by decide +kernel
theorem dX11_fit_85 : decode cX11_fit 85 = .ok (.aload_n 0, 1) := by decide +kernel
theorem dX11_fit_86 : decode cX11_fit 86 = .ok (.getfield 65, 3) := by decide +kernel
theorem dX11_fit_89 : decode cX11_fit 89 = .ok (.iload_n 2, 1) := by decide +kernel
theorem dX11_fit_90 : decode cX11_fit 90 = .ok (.putfield 295, 3) := by decide +kernel
theorem dX11_fit_93 : decode cX11_fit 93 = .ok (.aload_n 0, 1) := by decide +kernel
theorem dX11_fit_94 : decode cX11_fit 94 = .ok (.getfield 65, 3) := by decide +kernel
theorem dX11_fit_97 : decode cX11_fit 97 = .ok (.iconst 1, 1) := by decide +kernel
theorem dX11_fit_98 : decode cX11_fit 98 = .ok (.putfield 109, 3) := by decide +kernel
theorem dX11_fit_101 : decode cX11_fit 101 = .ok (.iconst 1, 1) := by decide +kernel
theorem dX11_fit_102 : decode cX11_fit 102 = .ok (.ireturn, 1) := by decide +kernel


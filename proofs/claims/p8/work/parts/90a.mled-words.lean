theorem m_co_X12_ledTo : Cond.code yX12_ledTo cX12_ledTo 5 (some .int) ∈ zT := zmem1 zsub_7 104 (by decide +kernel) (by decide +kernel)
theorem m_ml_RX12_248 : Cond.methodLink RX12 248 yX12_ledTo ∈ zT := zmem1 zsub_7 101 (by decide +kernel) (by decide +kernel)
theorem m_im_X12_ledTo : Cond.instanceMethod yX12_ledTo ∈ zT := zmem1 zsub_7 103 (by decide +kernel) (by decide +kernel)
theorem m_se_X12_ledTo : Cond.selects RX12 yX12_ledTo yX12_ledTo ∈ zT := zmem 76 (by decide +kernel) (by decide +kernel)
theorem kV_RX12_248 {R : Room} {s : State} {args : Array Value} {d mc ms : Nat} (hts : ∀ w ∈ zT, w.before args s = true) (h1 : d + 1 ≤ R.frames) (h2 : 8 + (5 + 11) + 40 * d ≤ R.locals) : CallW R s args RX12 RX12 248 yX12_ledTo cX12_ledTo 5 (some .int) (zW yX12_ledTo cX12_ledTo 5 (some .int)) (zR d mc ms) mc ms 2 := z_cwV hts m_co_X12_ledTo m_ml_RX12_248 m_im_X12_ledTo m_se_X12_ledTo m_ii_RX12 (by decide +kernel) h1 h2
theorem dX12_ledTo_0 : decode cX12_ledTo 0 = .ok (.iload_n 1, 1) := by decide +kernel
theorem dX12_ledTo_1 : decode cX12_ledTo 1 = .ok (.istore_n 3, 1) := by decide +kernel
theorem dX12_ledTo_2 : decode cX12_ledTo 2 = .ok (.iconst 0, 1) := by decide +kernel
theorem dX12_ledTo_3 : decode cX12_ledTo 3 = .ok (.istore 4, 2) := by decide +kernel
theorem dX12_ledTo_5 : decode cX12_ledTo 5 = .ok (.iload 4, 2) := by decide +kernel
theorem dX12_ledTo_7 : decode cX12_ledTo 7 = .ok (.iload_n 2, 1) := by decide +kernel
theorem dX12_ledTo_8 : decode cX12_ledTo 8 = .ok (.if_icmp .ge 29, 3) := by decide +kernel
theorem dX12_ledTo_11 : decode cX12_ledTo 11 = .ok (.aload_n 0, 1) := by decide +kernel
theorem dX12_ledTo_12 : decode cX12_ledTo 12 = .ok (.iload_n 3, 1) := by decide +kernel
theorem dX12_ledTo_13 : decode cX12_ledTo 13 = .ok (.invokevirtual 223, 3) := by decide +kernel
theorem dX12_ledTo_16 : decode cX12_ledTo 16 = .ok (.ifCond .eq 21, 3) := by decide +kernel
theorem dX12_ledTo_19 : decode cX12_ledTo 19 = .ok (.aload_n 0, 1) := by decide +kernel
theorem dX12_ledTo_20 : decode cX12_ledTo 20 = .ok (.iload_n 3, 1) := by decide +kernel
theorem dX12_ledTo_21 : decode cX12_ledTo 21 = .ok (.aload_n 0, 1) := by decide +kernel
theorem dX12_ledTo_22 : decode cX12_ledTo 22 = .ok (.getfield 20, 3) := by decide +kernel
theorem dX12_ledTo_25 : decode cX12_ledTo 25 = .ok (.iload_n 3, 1) := by decide +kernel
theorem dX12_ledTo_26 : decode cX12_ledTo 26 = .ok (.iaload, 1) := by decide +kernel
theorem dX12_ledTo_27 : decode cX12_ledTo 27 = .ok (.invokevirtual 190, 3) := by decide +kernel
theorem dX12_ledTo_30 : decode cX12_ledTo 30 = .ok (.istore_n 3, 1) := by decide +kernel
theorem dX12_ledTo_31 : decode cX12_ledTo 31 = .ok (.iinc 4 1, 3) := by decide +kernel
theorem dX12_ledTo_34 : decode cX12_ledTo 34 = .ok (.goto (-29), 3) := by decide +kernel
theorem dX12_ledTo_37 : decode cX12_ledTo 37 = .ok (.iload_n 3, 1) := by decide +kernel
theorem dX12_ledTo_38 : decode cX12_ledTo 38 = .ok (.ireturn, 1) := by decide +kernel
theorem dX12_trees_0 : decode cX12_trees 0 = .ok (.aload_n 0, 1) := by decide +kernel
theorem dX12_trees_1 : decode cX12_trees 1 = .ok (.iload_n 1, 1) := by decide +kernel
theorem dX12_trees_2 : decode cX12_trees 2 = .ok (.invokevirtual 184, 3) := by decide +kernel
theorem dX12_trees_5 : decode cX12_trees 5 = .ok (.ifCond .ne 5, 3) := by decide +kernel
theorem dX12_trees_8 : decode cX12_trees 8 = .ok (.iconst (-1), 1) := by decide +kernel
theorem dX12_trees_9 : decode cX12_trees 9 = .ok (.ireturn, 1) := by decide +kernel
theorem dX12_trees_10 : decode cX12_trees 10 = .ok (.aload_n 0, 1) := by decide +kernel
theorem dX12_trees_11 : decode cX12_trees 11 = .ok (.invokevirtual 229, 3) := by decide +kernel
theorem dX12_trees_14 : decode cX12_trees 14 = .ok (.istore_n 2, 1) := by decide +kernel
theorem dX12_trees_15 : decode cX12_trees 15 = .ok (.iconst 0, 1) := by decide +kernel
theorem dX12_trees_16 : decode cX12_trees 16 = .ok (.istore_n 3, 1) := by decide +kernel
theorem dX12_trees_17 : decode cX12_trees 17 = .ok (.iconst 0, 1) := by decide +kernel
theorem dX12_trees_18 : decode cX12_trees 18 = .ok (.istore 4, 2) := by decide +kernel
theorem dX12_trees_20 : decode cX12_trees 20 = .ok (.iload 4, 2) := by decide +kernel
theorem dX12_trees_22 : decode cX12_trees 22 = .ok (.iload_n 2, 1) := by decide +kernel
theorem dX12_trees_23 : decode cX12_trees 23 = .ok (.if_icmp .ge 85, 3) := by decide +kernel
theorem dX12_trees_26 : decode cX12_trees 26 = .ok (.aload_n 0, 1) := by decide +kernel
theorem dX12_trees_27 : decode cX12_trees 27 = .ok (.iload 4, 2) := by decide +kernel
theorem dX12_trees_29 : decode cX12_trees 29 = .ok (.invokevirtual 226, 3) := by decide +kernel
theorem dX12_trees_32 : decode cX12_trees 32 = .ok (.iconst 1, 1) := by decide +kernel
theorem dX12_trees_33 : decode cX12_trees 33 = .ok (.istore 5, 2) := by decide +kernel
theorem dX12_trees_35 : decode cX12_trees 35 = .ok (.iconst 0, 1) := by decide +kernel
theorem dX12_trees_36 : decode cX12_trees 36 = .ok (.istore 6, 2) := by decide +kernel
theorem dX12_trees_38 : decode cX12_trees 38 = .ok (.iload 6, 2) := by decide +kernel
theorem dX12_trees_40 : decode cX12_trees 40 = .ok (.aload_n 0, 1) := by decide +kernel
theorem dX12_trees_41 : decode cX12_trees 41 = .ok (.getfield 169, 3) := by decide +kernel
theorem dX12_trees_44 : decode cX12_trees 44 = .ok (.if_icmp .ge 45, 3) := by decide +kernel
theorem dX12_trees_47 : decode cX12_trees 47 = .ok (.iload 5, 2) := by decide +kernel
theorem dX12_trees_49 : decode cX12_trees 49 = .ok (.ifCond .eq 40, 3) := by decide +kernel
theorem dX12_trees_52 : decode cX12_trees 52 = .ok (.aload_n 0, 1) := by decide +kernel
theorem dX12_trees_53 : decode cX12_trees 53 = .ok (.iload 6, 2) := by decide +kernel
theorem dX12_trees_55 : decode cX12_trees 55 = .ok (.invokevirtual 223, 3) := by decide +kernel
theorem dX12_trees_58 : decode cX12_trees 58 = .ok (.ifCond .eq 18, 3) := by decide +kernel
theorem dX12_trees_61 : decode cX12_trees 61 = .ok (.aload_n 0, 1) := by decide +kernel
theorem dX12_trees_62 : decode cX12_trees 62 = .ok (.aload_n 0, 1) := by decide +kernel
theorem dX12_trees_63 : decode cX12_trees 63 = .ok (.iload 6, 2) := by decide +kernel
theorem dX12_trees_65 : decode cX12_trees 65 = .ok (.bipush 7, 2) := by decide +kernel
theorem dX12_trees_67 : decode cX12_trees 67 = .ok (.invokevirtual 248, 3) := by decide +kernel
theorem dX12_trees_70 : decode cX12_trees 70 = .ok (.invokevirtual 178, 3) := by decide +kernel
theorem dX12_trees_73 : decode cX12_trees 73 = .ok (.ifCond .eq 7, 3) := by decide +kernel
theorem dX12_trees_76 : decode cX12_trees 76 = .ok (.iconst 1, 1) := by decide +kernel
theorem dX12_trees_77 : decode cX12_trees 77 = .ok (.goto 4, 3) := by decide +kernel
theorem dX12_trees_80 : decode cX12_trees 80 = .ok (.iconst 0, 1) := by decide +kernel
theorem dX12_trees_81 : decode cX12_trees 81 = .ok (.istore 5, 2) := by decide +kernel
theorem dX12_trees_83 : decode cX12_trees 83 = .ok (.iinc 6 1, 3) := by decide +kernel
theorem dX12_trees_86 : decode cX12_trees 86 = .ok (.goto (-48), 3) := by decide +kernel
theorem dX12_trees_89 : decode cX12_trees 89 = .ok (.iload_n 3, 1) := by decide +kernel
theorem dX12_trees_90 : decode cX12_trees 90 = .ok (.iload 5, 2) := by decide +kernel
theorem dX12_trees_92 : decode cX12_trees 92 = .ok (.ifCond .eq 7, 3) := by decide +kernel
theorem dX12_trees_95 : decode cX12_trees 95 = .ok (.iconst 1, 1) := by decide +kernel
theorem dX12_trees_96 : decode cX12_trees 96 = .ok (.goto 4, 3) := by decide +kernel
theorem dX12_trees_99 : decode cX12_trees 99 = .ok (.iconst 0, 1) := by decide +kernel
theorem dX12_trees_100 : decode cX12_trees 100 = .ok (.iadd, 1) := by decide +kernel
theorem dX12_trees_101 : decode cX12_trees 101 = .ok (.istore_n 3, 1) := by decide +kernel
theorem dX12_trees_102 : decode cX12_trees 102 = .ok (.iinc 4 1, 3) := by decide +kernel
theorem dX12_trees_105 : decode cX12_trees 105 = .ok (.goto (-85), 3) := by decide +kernel
theorem dX12_trees_108 : decode cX12_trees 108 = .ok (.iload_n 3, 1) := by decide +kernel
theorem dX12_trees_109 : decode cX12_trees 109 = .ok (.ireturn, 1) := by decide +kernel


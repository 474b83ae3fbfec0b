theorem m_co_X12_gameBy : Cond.code yX12_gameBy cX12_gameBy 6 (some .int) ∈ zT := zmem1 zsub_7 112 (by decide +kernel) (by decide +kernel)
theorem m_ml_RX12_251 : Cond.methodLink RX12 251 yX12_gameBy ∈ zT := zmem1 zsub_7 109 (by decide +kernel) (by decide +kernel)
theorem m_im_X12_gameBy : Cond.instanceMethod yX12_gameBy ∈ zT := zmem1 zsub_7 111 (by decide +kernel) (by decide +kernel)
theorem m_se_X12_gameBy : Cond.selects RX12 yX12_gameBy yX12_gameBy ∈ zT := zmem 77 (by decide +kernel) (by decide +kernel)
theorem kV_RX12_251 {R : Room} {s : State} {args : Array Value} {d mc ms : Nat} (hts : ∀ w ∈ zT, w.before args s = true) (h1 : d + 1 ≤ R.frames) (h2 : 8 + (6 + 11) + 40 * d ≤ R.locals) : CallW R s args RX12 RX12 251 yX12_gameBy cX12_gameBy 6 (some .int) (zW yX12_gameBy cX12_gameBy 6 (some .int)) (zR d mc ms) mc ms 3 := z_cwV hts m_co_X12_gameBy m_ml_RX12_251 m_im_X12_gameBy m_se_X12_gameBy m_ii_RX12 (by decide +kernel) h1 h2
theorem dX12_led_0 : decode cX12_led 0 = .ok (.aload_n 0, 1) := by decide +kernel
theorem dX12_led_1 : decode cX12_led 1 = .ok (.iload_n 1, 1) := by decide +kernel
theorem dX12_led_2 : decode cX12_led 2 = .ok (.invokevirtual 184, 3) := by decide +kernel
theorem dX12_led_5 : decode cX12_led 5 = .ok (.ifCond .eq 20, 3) := by decide +kernel
theorem dX12_led_8 : decode cX12_led 8 = .ok (.aload_n 0, 1) := by decide +kernel
theorem dX12_led_9 : decode cX12_led 9 = .ok (.iload_n 2, 1) := by decide +kernel
theorem dX12_led_10 : decode cX12_led 10 = .ok (.invokevirtual 187, 3) := by decide +kernel
theorem dX12_led_13 : decode cX12_led 13 = .ok (.ifCond .eq 12, 3) := by decide +kernel
theorem dX12_led_16 : decode cX12_led 16 = .ok (.iload_n 3, 1) := by decide +kernel
theorem dX12_led_17 : decode cX12_led 17 = .ok (.iconst 0, 1) := by decide +kernel
theorem dX12_led_18 : decode cX12_led 18 = .ok (.iconst 2, 1) := by decide +kernel
theorem dX12_led_19 : decode cX12_led 19 = .ok (.invokestatic 111, 3) := by decide +kernel
theorem dX12_led_22 : decode cX12_led 22 = .ok (.ifCond .ne 6, 3) := by decide +kernel
theorem dX12_led_25 : decode cX12_led 25 = .ok (.bipush (-2), 2) := by decide +kernel
theorem dX12_led_27 : decode cX12_led 27 = .ok (.ireturn, 1) := by decide +kernel
theorem dX12_led_28 : decode cX12_led 28 = .ok (.aload_n 0, 1) := by decide +kernel
theorem dX12_led_29 : decode cX12_led 29 = .ok (.iload_n 2, 1) := by decide +kernel
theorem dX12_led_30 : decode cX12_led 30 = .ok (.bipush 7, 2) := by decide +kernel
theorem dX12_led_32 : decode cX12_led 32 = .ok (.invokevirtual 248, 3) := by decide +kernel
theorem dX12_led_35 : decode cX12_led 35 = .ok (.istore 4, 2) := by decide +kernel
theorem dX12_led_37 : decode cX12_led 37 = .ok (.aload_n 0, 1) := by decide +kernel
theorem dX12_led_38 : decode cX12_led 38 = .ok (.iload 4, 2) := by decide +kernel
theorem dX12_led_40 : decode cX12_led 40 = .ok (.invokevirtual 223, 3) := by decide +kernel
theorem dX12_led_43 : decode cX12_led 43 = .ok (.ifCond .ne 45, 3) := by decide +kernel
theorem dX12_led_46 : decode cX12_led 46 = .ok (.iconst 0, 1) := by decide +kernel
theorem dX12_led_47 : decode cX12_led 47 = .ok (.istore 5, 2) := by decide +kernel
theorem dX12_led_49 : decode cX12_led 49 = .ok (.aload_n 0, 1) := by decide +kernel
theorem dX12_led_50 : decode cX12_led 50 = .ok (.iload_n 2, 1) := by decide +kernel
theorem dX12_led_51 : decode cX12_led 51 = .ok (.iload 5, 2) := by decide +kernel
theorem dX12_led_53 : decode cX12_led 53 = .ok (.invokevirtual 248, 3) := by decide +kernel
theorem dX12_led_56 : decode cX12_led 56 = .ok (.iload 4, 2) := by decide +kernel
theorem dX12_led_58 : decode cX12_led 58 = .ok (.if_icmp .eq 9, 3) := by decide +kernel
theorem dX12_led_61 : decode cX12_led 61 = .ok (.iinc 5 1, 3) := by decide +kernel
theorem dX12_led_64 : decode cX12_led 64 = .ok (.goto (-15), 3) := by decide +kernel
theorem dX12_led_67 : decode cX12_led 67 = .ok (.iload_n 3, 1) := by decide +kernel
theorem dX12_led_68 : decode cX12_led 68 = .ok (.ifCond .ne 8, 3) := by decide +kernel
theorem dX12_led_71 : decode cX12_led 71 = .ok (.iload 5, 2) := by decide +kernel
theorem dX12_led_73 : decode cX12_led 73 = .ok (.goto 14, 3) := by decide +kernel
theorem dX12_led_76 : decode cX12_led 76 = .ok (.iload_n 3, 1) := by decide +kernel
theorem dX12_led_77 : decode cX12_led 77 = .ok (.iconst 1, 1) := by decide +kernel
theorem dX12_led_78 : decode cX12_led 78 = .ok (.if_icmp .ne 8, 3) := by decide +kernel
theorem dX12_led_81 : decode cX12_led 81 = .ok (.iload 4, 2) := by decide +kernel
theorem dX12_led_83 : decode cX12_led 83 = .ok (.goto 4, 3) := by decide +kernel
theorem dX12_led_86 : decode cX12_led 86 = .ok (.iconst 0, 1) := by decide +kernel
theorem dX12_led_87 : decode cX12_led 87 = .ok (.ireturn, 1) := by decide +kernel
theorem dX12_led_88 : decode cX12_led 88 = .ok (.iconst 1, 1) := by decide +kernel
theorem dX12_led_89 : decode cX12_led 89 = .ok (.istore 5, 2) := by decide +kernel
theorem dX12_led_91 : decode cX12_led 91 = .ok (.aload_n 0, 1) := by decide +kernel
theorem dX12_led_92 : decode cX12_led 92 = .ok (.iload 4, 2) := by decide +kernel
theorem dX12_led_94 : decode cX12_led 94 = .ok (.iload 5, 2) := by decide +kernel
theorem dX12_led_96 : decode cX12_led 96 = .ok (.invokevirtual 248, 3) := by decide +kernel
theorem dX12_led_99 : decode cX12_led 99 = .ok (.iload 4, 2) := by decide +kernel
theorem dX12_led_101 : decode cX12_led 101 = .ok (.if_icmp .eq 9, 3) := by decide +kernel
theorem dX12_led_104 : decode cX12_led 104 = .ok (.iinc 5 1, 3) := by decide +kernel
theorem dX12_led_107 : decode cX12_led 107 = .ok (.goto (-16), 3) := by decide +kernel
theorem dX12_led_110 : decode cX12_led 110 = .ok (.iload_n 3, 1) := by decide +kernel
theorem dX12_led_111 : decode cX12_led 111 = .ok (.iconst 2, 1) := by decide +kernel
theorem dX12_led_112 : decode cX12_led 112 = .ok (.if_icmp .ne 8, 3) := by decide +kernel
theorem dX12_led_115 : decode cX12_led 115 = .ok (.iload 5, 2) := by decide +kernel
theorem dX12_led_117 : decode cX12_led 117 = .ok (.goto 4, 3) := by decide +kernel
theorem dX12_led_120 : decode cX12_led 120 = .ok (.iconst (-1), 1) := by decide +kernel
theorem dX12_led_121 : decode cX12_led 121 = .ok (.ireturn, 1) := by decide +kernel
theorem dX12_gameBy_0 : decode cX12_gameBy 0 = .ok (.aload_n 0, 1) := by decide +kernel
theorem dX12_gameBy_1 : decode cX12_gameBy 1 = .ok (.invokevirtual 175, 3) := by decide +kernel
theorem dX12_gameBy_4 : decode cX12_gameBy 4 = .ok (.iload_n 2, 1) := by decide +kernel
theorem dX12_gameBy_5 : decode cX12_gameBy 5 = .ok (.iconst 1, 1) := by decide +kernel
theorem dX12_gameBy_6 : decode cX12_gameBy 6 = .ok (.isub, 1) := by decide +kernel
theorem dX12_gameBy_7 : decode cX12_gameBy 7 = .ok (.istore 4, 2) := by decide +kernel
theorem dX12_gameBy_9 : decode cX12_gameBy 9 = .ok (.iload 4, 2) := by decide +kernel
theorem dX12_gameBy_11 : decode cX12_gameBy 11 = .ok (.ifCond .lt 57, 3) := by decide +kernel
theorem dX12_gameBy_14 : decode cX12_gameBy 14 = .ok (.iload_n 1, 1) := by decide +kernel
theorem dX12_gameBy_15 : decode cX12_gameBy 15 = .ok (.iconst 3, 1) := by decide +kernel
theorem dX12_gameBy_16 : decode cX12_gameBy 16 = .ok (.iload 4, 2) := by decide +kernel
theorem dX12_gameBy_18 : decode cX12_gameBy 18 = .ok (.imul, 1) := by decide +kernel
theorem dX12_gameBy_19 : decode cX12_gameBy 19 = .ok (.ishr, 1) := by decide +kernel
theorem dX12_gameBy_20 : decode cX12_gameBy 20 = .ok (.bipush 7, 2) := by decide +kernel
theorem dX12_gameBy_22 : decode cX12_gameBy 22 = .ok (.iand, 1) := by decide +kernel
theorem dX12_gameBy_23 : decode cX12_gameBy 23 = .ok (.istore 5, 2) := by decide +kernel
theorem dX12_gameBy_25 : decode cX12_gameBy 25 = .ok (.iload 5, 2) := by decide +kernel
theorem dX12_gameBy_27 : decode cX12_gameBy 27 = .ok (.bipush 7, 2) := by decide +kernel
theorem dX12_gameBy_29 : decode cX12_gameBy 29 = .ok (.if_icmp .ne 6, 3) := by decide +kernel
theorem dX12_gameBy_32 : decode cX12_gameBy 32 = .ok (.goto 30, 3) := by decide +kernel
theorem dX12_gameBy_35 : decode cX12_gameBy 35 = .ok (.aload_n 0, 1) := by decide +kernel
theorem dX12_gameBy_36 : decode cX12_gameBy 36 = .ok (.iload 5, 2) := by decide +kernel
theorem dX12_gameBy_38 : decode cX12_gameBy 38 = .ok (.invokevirtual 187, 3) := by decide +kernel
theorem dX12_gameBy_41 : decode cX12_gameBy 41 = .ok (.ifCond .eq 12, 3) := by decide +kernel
theorem dX12_gameBy_44 : decode cX12_gameBy 44 = .ok (.aload_n 0, 1) := by decide +kernel
theorem dX12_gameBy_45 : decode cX12_gameBy 45 = .ok (.iload 5, 2) := by decide +kernel
theorem dX12_gameBy_47 : decode cX12_gameBy 47 = .ok (.invokevirtual 223, 3) := by decide +kernel
theorem dX12_gameBy_50 : decode cX12_gameBy 50 = .ok (.ifCond .ne 5, 3) := by decide +kernel
theorem dX12_gameBy_53 : decode cX12_gameBy 53 = .ok (.iconst (-1), 1) := by decide +kernel
theorem dX12_gameBy_54 : decode cX12_gameBy 54 = .ok (.ireturn, 1) := by decide +kernel
theorem dX12_gameBy_55 : decode cX12_gameBy 55 = .ok (.aload_n 0, 1) := by decide +kernel
theorem dX12_gameBy_56 : decode cX12_gameBy 56 = .ok (.iload 5, 2) := by decide +kernel
theorem dX12_gameBy_58 : decode cX12_gameBy 58 = .ok (.invokevirtual 205, 3) := by decide +kernel
theorem dX12_gameBy_61 : decode cX12_gameBy 61 = .ok (.pop, 1) := by decide +kernel
theorem dX12_gameBy_62 : decode cX12_gameBy 62 = .ok (.iinc 4 (-1), 3) := by decide +kernel
theorem dX12_gameBy_65 : decode cX12_gameBy 65 = .ok (.goto (-56), 3) := by decide +kernel
theorem dX12_gameBy_68 : decode cX12_gameBy 68 = .ok (.aload_n 0, 1) := by decide +kernel
theorem dX12_gameBy_69 : decode cX12_gameBy 69 = .ok (.iload_n 3, 1) := by decide +kernel
theorem dX12_gameBy_70 : decode cX12_gameBy 70 = .ok (.invokevirtual 217, 3) := by decide +kernel
theorem dX12_gameBy_73 : decode cX12_gameBy 73 = .ok (.ifCond .eq 10, 3) := by decide +kernel
theorem dX12_gameBy_76 : decode cX12_gameBy 76 = .ok (.aload_n 0, 1) := by decide +kernel
theorem dX12_gameBy_77 : decode cX12_gameBy 77 = .ok (.getfield 208, 3) := by decide +kernel
theorem dX12_gameBy_80 : decode cX12_gameBy 80 = .ok (.goto 6, 3) := by decide +kernel
theorem dX12_gameBy_83 : decode cX12_gameBy 83 = .ok (.sipush 500, 3) := by decide +kernel
theorem dX12_gameBy_86 : decode cX12_gameBy 86 = .ok (.ireturn, 1) := by decide +kernel
theorem dX12_game_0 : decode cX12_game 0 = .ok (.aload_n 0, 1) := by decide +kernel
theorem dX12_game_1 : decode cX12_game 1 = .ok (.iload_n 1, 1) := by decide +kernel
theorem dX12_game_2 : decode cX12_game 2 = .ok (.invokevirtual 184, 3) := by decide +kernel
theorem dX12_game_5 : decode cX12_game 5 = .ok (.ifCond .eq 20, 3) := by decide +kernel
theorem dX12_game_8 : decode cX12_game 8 = .ok (.aload_n 0, 1) := by decide +kernel
theorem dX12_game_9 : decode cX12_game 9 = .ok (.iload_n 2, 1) := by decide +kernel
theorem dX12_game_10 : decode cX12_game 10 = .ok (.invokevirtual 187, 3) := by decide +kernel
theorem dX12_game_13 : decode cX12_game 13 = .ok (.ifCond .eq 12, 3) := by decide +kernel
theorem dX12_game_16 : decode cX12_game 16 = .ok (.iload_n 3, 1) := by decide +kernel
theorem dX12_game_17 : decode cX12_game 17 = .ok (.iconst 0, 1) := by decide +kernel
theorem dX12_game_18 : decode cX12_game 18 = .ok (.iconst 3, 1) := by decide +kernel
theorem dX12_game_19 : decode cX12_game 19 = .ok (.invokestatic 111, 3) := by decide +kernel
theorem dX12_game_22 : decode cX12_game 22 = .ok (.ifCond .ne 6, 3) := by decide +kernel
theorem dX12_game_25 : decode cX12_game 25 = .ok (.bipush (-9), 2) := by decide +kernel
theorem dX12_game_27 : decode cX12_game 27 = .ok (.ireturn, 1) := by decide +kernel
theorem dX12_game_28 : decode cX12_game 28 = .ok (.iconst 1, 1) := by decide +kernel
theorem dX12_game_29 : decode cX12_game 29 = .ok (.iconst 3, 1) := by decide +kernel
theorem dX12_game_30 : decode cX12_game 30 = .ok (.iload_n 3, 1) := by decide +kernel
theorem dX12_game_31 : decode cX12_game 31 = .ok (.imul, 1) := by decide +kernel
theorem dX12_game_32 : decode cX12_game 32 = .ok (.ishl, 1) := by decide +kernel
theorem dX12_game_33 : decode cX12_game 33 = .ok (.istore 5, 2) := by decide +kernel
theorem dX12_game_35 : decode cX12_game 35 = .ok (.iconst 0, 1) := by decide +kernel
theorem dX12_game_36 : decode cX12_game 36 = .ok (.istore 6, 2) := by decide +kernel
theorem dX12_game_38 : decode cX12_game 38 = .ok (.iload 6, 2) := by decide +kernel
theorem dX12_game_40 : decode cX12_game 40 = .ok (.iload 5, 2) := by decide +kernel
theorem dX12_game_42 : decode cX12_game 42 = .ok (.if_icmp .ge 24, 3) := by decide +kernel
theorem dX12_game_45 : decode cX12_game 45 = .ok (.aload_n 0, 1) := by decide +kernel
theorem dX12_game_46 : decode cX12_game 46 = .ok (.getfield 38, 3) := by decide +kernel
theorem dX12_game_49 : decode cX12_game 49 = .ok (.iload 6, 2) := by decide +kernel
theorem dX12_game_51 : decode cX12_game 51 = .ok (.aload_n 0, 1) := by decide +kernel
theorem dX12_game_52 : decode cX12_game 52 = .ok (.iload 6, 2) := by decide +kernel
theorem dX12_game_54 : decode cX12_game 54 = .ok (.iload_n 3, 1) := by decide +kernel
theorem dX12_game_55 : decode cX12_game 55 = .ok (.iload_n 2, 1) := by decide +kernel
theorem dX12_game_56 : decode cX12_game 56 = .ok (.invokevirtual 251, 3) := by decide +kernel
theorem dX12_game_59 : decode cX12_game 59 = .ok (.iastore, 1) := by decide +kernel
theorem dX12_game_60 : decode cX12_game 60 = .ok (.iinc 6 1, 3) := by decide +kernel
theorem dX12_game_63 : decode cX12_game 63 = .ok (.goto (-25), 3) := by decide +kernel
theorem dX12_game_66 : decode cX12_game 66 = .ok (.iconst (-1), 1) := by decide +kernel
theorem dX12_game_67 : decode cX12_game 67 = .ok (.istore 6, 2) := by decide +kernel
theorem dX12_game_69 : decode cX12_game 69 = .ok (.iload_n 3, 1) := by decide +kernel
theorem dX12_game_70 : decode cX12_game 70 = .ok (.iconst 1, 1) := by decide +kernel
theorem dX12_game_71 : decode cX12_game 71 = .ok (.isub, 1) := by decide +kernel
theorem dX12_game_72 : decode cX12_game 72 = .ok (.istore 7, 2) := by decide +kernel
theorem dX12_game_74 : decode cX12_game 74 = .ok (.iload 7, 2) := by decide +kernel
theorem dX12_game_76 : decode cX12_game 76 = .ok (.ifCond .lt 161, 3) := by decide +kernel
theorem dX12_game_79 : decode cX12_game 79 = .ok (.iload 5, 2) := by decide +kernel
theorem dX12_game_81 : decode cX12_game 81 = .ok (.bipush 8, 2) := by decide +kernel
theorem dX12_game_83 : decode cX12_game 83 = .ok (.idiv, 1) := by decide +kernel
theorem dX12_game_84 : decode cX12_game 84 = .ok (.istore 5, 2) := by decide +kernel
theorem dX12_game_86 : decode cX12_game 86 = .ok (.iconst 0, 1) := by decide +kernel
theorem dX12_game_87 : decode cX12_game 87 = .ok (.istore 8, 2) := by decide +kernel
theorem dX12_game_89 : decode cX12_game 89 = .ok (.iload 8, 2) := by decide +kernel
theorem dX12_game_91 : decode cX12_game 91 = .ok (.iload 5, 2) := by decide +kernel
theorem dX12_game_93 : decode cX12_game 93 = .ok (.if_icmp .ge 138, 3) := by decide +kernel
theorem dX12_game_96 : decode cX12_game 96 = .ok (.iconst (-1), 1) := by decide +kernel
theorem dX12_game_97 : decode cX12_game 97 = .ok (.istore 6, 2) := by decide +kernel
theorem dX12_game_99 : decode cX12_game 99 = .ok (.iconst 0, 1) := by decide +kernel
theorem dX12_game_100 : decode cX12_game 100 = .ok (.istore 9, 2) := by decide +kernel
theorem dX12_game_102 : decode cX12_game 102 = .ok (.iload 9, 2) := by decide +kernel
theorem dX12_game_104 : decode cX12_game 104 = .ok (.bipush 8, 2) := by decide +kernel
theorem dX12_game_106 : decode cX12_game 106 = .ok (.if_icmp .ge 89, 3) := by decide +kernel
theorem dX12_game_109 : decode cX12_game 109 = .ok (.aload_n 0, 1) := by decide +kernel
theorem dX12_game_110 : decode cX12_game 110 = .ok (.getfield 38, 3) := by decide +kernel
theorem dX12_game_113 : decode cX12_game 113 = .ok (.bipush 8, 2) := by decide +kernel
theorem dX12_game_115 : decode cX12_game 115 = .ok (.iload 8, 2) := by decide +kernel
theorem dX12_game_117 : decode cX12_game 117 = .ok (.imul, 1) := by decide +kernel
theorem dX12_game_118 : decode cX12_game 118 = .ok (.iload 9, 2) := by decide +kernel
theorem dX12_game_120 : decode cX12_game 120 = .ok (.iadd, 1) := by decide +kernel
theorem dX12_game_121 : decode cX12_game 121 = .ok (.iaload, 1) := by decide +kernel
theorem dX12_game_122 : decode cX12_game 122 = .ok (.istore 10, 2) := by decide +kernel
theorem dX12_game_124 : decode cX12_game 124 = .ok (.iload 10, 2) := by decide +kernel
theorem dX12_game_126 : decode cX12_game 126 = .ok (.iconst (-1), 1) := by decide +kernel
theorem dX12_game_127 : decode cX12_game 127 = .ok (.if_icmp .eq 62, 3) := by decide +kernel
theorem dX12_game_130 : decode cX12_game 130 = .ok (.iload 6, 2) := by decide +kernel
theorem dX12_game_132 : decode cX12_game 132 = .ok (.iconst (-1), 1) := by decide +kernel
theorem dX12_game_133 : decode cX12_game 133 = .ok (.if_icmp .eq 52, 3) := by decide +kernel
theorem dX12_game_136 : decode cX12_game 136 = .ok (.iload 7, 2) := by decide +kernel
theorem dX12_game_138 : decode cX12_game 138 = .ok (.iconst 2, 1) := by decide +kernel
theorem dX12_game_139 : decode cX12_game 139 = .ok (.irem, 1) := by decide +kernel
theorem dX12_game_140 : decode cX12_game 140 = .ok (.ifCond .ne 24, 3) := by decide +kernel
theorem dX12_game_143 : decode cX12_game 143 = .ok (.iload 10, 2) := by decide +kernel
theorem dX12_game_145 : decode cX12_game 145 = .ok (.aload_n 0, 1) := by decide +kernel
theorem dX12_game_146 : decode cX12_game 146 = .ok (.getfield 38, 3) := by decide +kernel
theorem dX12_game_149 : decode cX12_game 149 = .ok (.bipush 8, 2) := by decide +kernel
theorem dX12_game_151 : decode cX12_game 151 = .ok (.iload 8, 2) := by decide +kernel
theorem dX12_game_153 : decode cX12_game 153 = .ok (.imul, 1) := by decide +kernel
theorem dX12_game_154 : decode cX12_game 154 = .ok (.iload 6, 2) := by decide +kernel
theorem dX12_game_156 : decode cX12_game 156 = .ok (.iadd, 1) := by decide +kernel
theorem dX12_game_157 : decode cX12_game 157 = .ok (.iaload, 1) := by decide +kernel
theorem dX12_game_158 : decode cX12_game 158 = .ok (.if_icmp .lt 27, 3) := by decide +kernel
theorem dX12_game_161 : decode cX12_game 161 = .ok (.goto 28, 3) := by decide +kernel
theorem dX12_game_164 : decode cX12_game 164 = .ok (.iload 10, 2) := by decide +kernel
theorem dX12_game_166 : decode cX12_game 166 = .ok (.aload_n 0, 1) := by decide +kernel
theorem dX12_game_167 : decode cX12_game 167 = .ok (.getfield 38, 3) := by decide +kernel
theorem dX12_game_170 : decode cX12_game 170 = .ok (.bipush 8, 2) := by decide +kernel
theorem dX12_game_172 : decode cX12_game 172 = .ok (.iload 8, 2) := by decide +kernel
theorem dX12_game_174 : decode cX12_game 174 = .ok (.imul, 1) := by decide +kernel
theorem dX12_game_175 : decode cX12_game 175 = .ok (.iload 6, 2) := by decide +kernel
theorem dX12_game_177 : decode cX12_game 177 = .ok (.iadd, 1) := by decide +kernel
theorem dX12_game_178 : decode cX12_game 178 = .ok (.iaload, 1) := by decide +kernel
theorem dX12_game_179 : decode cX12_game 179 = .ok (.if_icmp .gt 6, 3) := by decide +kernel
theorem dX12_game_182 : decode cX12_game 182 = .ok (.goto 7, 3) := by decide +kernel
theorem dX12_game_185 : decode cX12_game 185 = .ok (.iload 9, 2) := by decide +kernel
theorem dX12_game_187 : decode cX12_game 187 = .ok (.istore 6, 2) := by decide +kernel
theorem dX12_game_189 : decode cX12_game 189 = .ok (.iinc 9 1, 3) := by decide +kernel
theorem dX12_game_192 : decode cX12_game 192 = .ok (.goto (-90), 3) := by decide +kernel
theorem dX12_game_195 : decode cX12_game 195 = .ok (.aload_n 0, 1) := by decide +kernel
theorem dX12_game_196 : decode cX12_game 196 = .ok (.getfield 38, 3) := by decide +kernel
theorem dX12_game_199 : decode cX12_game 199 = .ok (.iload 8, 2) := by decide +kernel
theorem dX12_game_201 : decode cX12_game 201 = .ok (.iload 6, 2) := by decide +kernel
theorem dX12_game_203 : decode cX12_game 203 = .ok (.iconst (-1), 1) := by decide +kernel
theorem dX12_game_204 : decode cX12_game 204 = .ok (.if_icmp .ne 7, 3) := by decide +kernel
theorem dX12_game_207 : decode cX12_game 207 = .ok (.iconst (-1), 1) := by decide +kernel
theorem dX12_game_208 : decode cX12_game 208 = .ok (.goto 16, 3) := by decide +kernel
theorem dX12_game_211 : decode cX12_game 211 = .ok (.aload_n 0, 1) := by decide +kernel
theorem dX12_game_212 : decode cX12_game 212 = .ok (.getfield 38, 3) := by decide +kernel
theorem dX12_game_215 : decode cX12_game 215 = .ok (.bipush 8, 2) := by decide +kernel
theorem dX12_game_217 : decode cX12_game 217 = .ok (.iload 8, 2) := by decide +kernel
theorem dX12_game_219 : decode cX12_game 219 = .ok (.imul, 1) := by decide +kernel
theorem dX12_game_220 : decode cX12_game 220 = .ok (.iload 6, 2) := by decide +kernel
theorem dX12_game_222 : decode cX12_game 222 = .ok (.iadd, 1) := by decide +kernel
theorem dX12_game_223 : decode cX12_game 223 = .ok (.iaload, 1) := by decide +kernel
theorem dX12_game_224 : decode cX12_game 224 = .ok (.iastore, 1) := by decide +kernel
theorem dX12_game_225 : decode cX12_game 225 = .ok (.iinc 8 1, 3) := by decide +kernel
theorem dX12_game_228 : decode cX12_game 228 = .ok (.goto (-139), 3) := by decide +kernel
theorem dX12_game_231 : decode cX12_game 231 = .ok (.iinc 7 (-1), 3) := by decide +kernel
theorem dX12_game_234 : decode cX12_game 234 = .ok (.goto (-160), 3) := by decide +kernel
theorem dX12_game_237 : decode cX12_game 237 = .ok (.iload 4, 2) := by decide +kernel
theorem dX12_game_239 : decode cX12_game 239 = .ok (.ifCond .ne 12, 3) := by decide +kernel
theorem dX12_game_242 : decode cX12_game 242 = .ok (.aload_n 0, 1) := by decide +kernel
theorem dX12_game_243 : decode cX12_game 243 = .ok (.getfield 38, 3) := by decide +kernel
theorem dX12_game_246 : decode cX12_game 246 = .ok (.iconst 0, 1) := by decide +kernel
theorem dX12_game_247 : decode cX12_game 247 = .ok (.iaload, 1) := by decide +kernel
theorem dX12_game_248 : decode cX12_game 248 = .ok (.goto 5, 3) := by decide +kernel
theorem dX12_game_251 : decode cX12_game 251 = .ok (.iload 6, 2) := by decide +kernel
theorem dX12_game_253 : decode cX12_game 253 = .ok (.ireturn, 1) := by decide +kernel


theorem m_fs_RJ0_38 : Cond.fieldLink RJ0 38 "java/lang/String" "COMPACT_STRINGS" "Z" ∈ zT := zmem1 zsub_3 43 rfl rfl
theorem m_fs_RJ0_15 : Cond.fieldLink RJ0 15 "java/lang/String" "coder" "B" ∈ zT := zmem1 zsub_8 96 rfl rfl
theorem m_fs_RJ0_9 : Cond.fieldLink RJ0 9 "java/lang/String" "value" "[B" ∈ zT := zmem1 zsub_8 95 rfl rfl
theorem m_co_J0_coder_7d493 : Cond.code yJ0_coder_7d493 cJ0_coder_7d493 1 (some .byte) ∈ zT := zmem1 zsub_3 42 rfl rfl
theorem m_ml_RJ0_335 : Cond.methodLink RJ0 335 yJ0_coder_7d493 ∈ zT := zmem1 zsub_3 39 rfl rfl
theorem m_im_J0_coder_7d493 : Cond.instanceMethod yJ0_coder_7d493 ∈ zT := zmem1 zsub_3 40 rfl rfl
theorem m_se_J0_coder_7d493 : Cond.selects RJ0 yJ0_coder_7d493 yJ0_coder_7d493 ∈ zT := zmem1 zsub_3 41 rfl rfl
theorem m_ii_RJ0 : Cond.initialized RJ0 ∈ zT := zmem1 zsub_1 14 rfl rfl
theorem m_fs_RJ0_1053 : Cond.fieldLink RJ0 1053 "jdk/internal/util/Preconditions" "SIOOBE_FORMATTER" "Ljava/util/function/BiFunction;" ∈ zT := zmem1 zsub_3 59 rfl rfl
theorem m_co_J3_checkIndex_8e157 : Cond.code yJ3_checkIndex_8e157 cJ3_checkIndex_8e157 3 (some .int) ∈ zT := zmem1 zsub_3 63 rfl rfl
theorem m_ml_RJ0_1059 : Cond.methodLink RJ0 1059 yJ3_checkIndex_8e157 ∈ zT := zmem1 zsub_3 61 rfl rfl
theorem m_st_J3_checkIndex_8e157 : Cond.static yJ3_checkIndex_8e157 ∈ zT := zmem1 zsub_3 62 rfl rfl
theorem m_ii_RJ3 : Cond.initialized RJ3 ∈ zT := zmem1 zsub_1 16 rfl rfl
theorem m_co_J0_checkIndex_df160 : Cond.code yJ0_checkIndex_df160 cJ0_checkIndex_df160 2 none ∈ zT := zmem1 zsub_3 58 rfl rfl
theorem m_ml_RJ1_9 : Cond.methodLink RJ1 9 yJ0_checkIndex_df160 ∈ zT := zmem1 zsub_3 56 rfl rfl
theorem m_st_J0_checkIndex_df160 : Cond.static yJ0_checkIndex_df160 ∈ zT := zmem1 zsub_3 57 rfl rfl
theorem m_co_J0_isLatin1_aae02 : Cond.code yJ0_isLatin1_aae02 cJ0_isLatin1_aae02 1 (some .boolean) ∈ zT := zmem1 zsub_3 52 rfl rfl
theorem m_ml_RJ0_492 : Cond.methodLink RJ0 492 yJ0_isLatin1_aae02 ∈ zT := zmem1 zsub_3 49 rfl rfl
theorem m_im_J0_isLatin1_aae02 : Cond.instanceMethod yJ0_isLatin1_aae02 ∈ zT := zmem1 zsub_3 50 rfl rfl
theorem m_se_J0_isLatin1_aae02 : Cond.selects RJ0 yJ0_isLatin1_aae02 yJ0_isLatin1_aae02 ∈ zT := zmem1 zsub_3 51 rfl rfl
theorem m_co_J1_charAt_3b067 : Cond.code yJ1_charAt_3b067 cJ1_charAt_3b067 2 (some .char) ∈ zT := zmem1 zsub_3 55 rfl rfl
theorem m_ml_RJ0_495 : Cond.methodLink RJ0 495 yJ1_charAt_3b067 ∈ zT := zmem1 zsub_3 53 rfl rfl
theorem m_st_J1_charAt_3b067 : Cond.static yJ1_charAt_3b067 ∈ zT := zmem1 zsub_3 54 rfl rfl
theorem m_ii_RJ1 : Cond.initialized RJ1 ∈ zT := zmem1 zsub_1 15 rfl rfl
theorem m_fl_RX1_78 : Cond.fieldLink RX1 78 (TX1 10).1 (TX1 10).2.1 (TX1 10).2.2.1 ∈ zT := zmem1 zsub_2 35 rfl rfl
theorem m_ko_RX1_91 : Cond.constant RX1 91 1103515245 ∈ zT := zmem1 zsub_4 117 rfl rfl
theorem m_co_X1_drawBelow : Cond.code yX1_drawBelow cX1_drawBelow 2 (some .int) ∈ zT := zmem1 zsub_4 116 rfl rfl
theorem m_ml_RX1_84 : Cond.methodLink RX1 84 yX1_drawBelow ∈ zT := zmem1 zsub_4 113 rfl rfl
theorem m_im_X1_drawBelow : Cond.instanceMethod yX1_drawBelow ∈ zT := zmem1 zsub_4 115 rfl rfl
theorem m_se_X1_drawBelow : Cond.selects RX1 yX1_drawBelow yX1_drawBelow ∈ zT := zmem 27 rfl rfl
theorem kV_RJ0_335 {R : Room} {s : State} {args : Array Value} {d mc ms : Nat} (hts : ∀ w ∈ zT, w.before args s = true) (h1 : d + 1 ≤ R.frames) (h2 : 8 + (1 + 11) + 40 * d ≤ R.locals) : CallW R s args RJ0 RJ0 335 yJ0_coder_7d493 cJ0_coder_7d493 1 (some .byte) (zW yJ0_coder_7d493 cJ0_coder_7d493 1 (some .byte)) (zR d mc ms) mc ms 0 := z_cwV hts m_co_J0_coder_7d493 m_ml_RJ0_335 m_im_J0_coder_7d493 m_se_J0_coder_7d493 m_ii_RJ0 (by decide +kernel) h1 h2
theorem kS_RJ0_1059 {R : Room} {s : State} {args : Array Value} {d mc ms : Nat} (hts : ∀ w ∈ zT, w.before args s = true) (h1 : d + 1 ≤ R.frames) (h2 : 8 + (3 + 11) + 40 * d ≤ R.locals) : CallB R s args RJ0 1059 yJ3_checkIndex_8e157 cJ3_checkIndex_8e157 3 (some .int) (zW yJ3_checkIndex_8e157 cJ3_checkIndex_8e157 3 (some .int)) (zR d mc ms) mc ms 3 ∧ (Cond.static yJ3_checkIndex_8e157).before args s = true := z_cwS hts m_co_J3_checkIndex_8e157 m_ml_RJ0_1059 m_st_J3_checkIndex_8e157 m_ii_RJ3 (by decide +kernel) h1 h2
theorem kS_RJ1_9 {R : Room} {s : State} {args : Array Value} {d mc ms : Nat} (hts : ∀ w ∈ zT, w.before args s = true) (h1 : d + 1 ≤ R.frames) (h2 : 8 + (2 + 11) + 40 * d ≤ R.locals) : CallB R s args RJ1 9 yJ0_checkIndex_df160 cJ0_checkIndex_df160 2 none (zW yJ0_checkIndex_df160 cJ0_checkIndex_df160 2 none) (zR d mc ms) mc ms 2 ∧ (Cond.static yJ0_checkIndex_df160).before args s = true := z_cwS hts m_co_J0_checkIndex_df160 m_ml_RJ1_9 m_st_J0_checkIndex_df160 m_ii_RJ0 (by decide +kernel) h1 h2
theorem kV_RJ0_492 {R : Room} {s : State} {args : Array Value} {d mc ms : Nat} (hts : ∀ w ∈ zT, w.before args s = true) (h1 : d + 1 ≤ R.frames) (h2 : 8 + (1 + 11) + 40 * d ≤ R.locals) : CallW R s args RJ0 RJ0 492 yJ0_isLatin1_aae02 cJ0_isLatin1_aae02 1 (some .boolean) (zW yJ0_isLatin1_aae02 cJ0_isLatin1_aae02 1 (some .boolean)) (zR d mc ms) mc ms 0 := z_cwV hts m_co_J0_isLatin1_aae02 m_ml_RJ0_492 m_im_J0_isLatin1_aae02 m_se_J0_isLatin1_aae02 m_ii_RJ0 (by decide +kernel) h1 h2
theorem kS_RJ0_495 {R : Room} {s : State} {args : Array Value} {d mc ms : Nat} (hts : ∀ w ∈ zT, w.before args s = true) (h1 : d + 1 ≤ R.frames) (h2 : 8 + (2 + 11) + 40 * d ≤ R.locals) : CallB R s args RJ0 495 yJ1_charAt_3b067 cJ1_charAt_3b067 2 (some .char) (zW yJ1_charAt_3b067 cJ1_charAt_3b067 2 (some .char)) (zR d mc ms) mc ms 2 ∧ (Cond.static yJ1_charAt_3b067).before args s = true := z_cwS hts m_co_J1_charAt_3b067 m_ml_RJ0_495 m_st_J1_charAt_3b067 m_ii_RJ1 (by decide +kernel) h1 h2
theorem kV_RX1_84 {R : Room} {s : State} {args : Array Value} {d mc ms : Nat} (hts : ∀ w ∈ zT, w.before args s = true) (h1 : d + 1 ≤ R.frames) (h2 : 8 + (2 + 11) + 40 * d ≤ R.locals) : CallW R s args RX1 RX1 84 yX1_drawBelow cX1_drawBelow 2 (some .int) (zW yX1_drawBelow cX1_drawBelow 2 (some .int)) (zR d mc ms) mc ms 1 := z_cwV hts m_co_X1_drawBelow m_ml_RX1_84 m_im_X1_drawBelow m_se_X1_drawBelow m_ii_RX1 (by decide +kernel) h1 h2
theorem dJ0_coder_7d493_0 : decode cJ0_coder_7d493 0 = .ok (.getstatic 38, 3) := zo_178 (by decide +kernel)
theorem dJ0_coder_7d493_3 : decode cJ0_coder_7d493 3 = .ok (.ifCond .eq 10, 3) := zo_153 (by decide +kernel)
theorem dJ0_coder_7d493_6 : decode cJ0_coder_7d493 6 = .ok (.aload_n 0, 1) := zo_42 (by decide +kernel)
theorem dJ0_coder_7d493_7 : decode cJ0_coder_7d493 7 = .ok (.getfield 15, 3) := zo_180 (by decide +kernel)
theorem dJ0_coder_7d493_10 : decode cJ0_coder_7d493 10 = .ok (.goto 4, 3) := zo_167 (by decide +kernel)
theorem dJ0_coder_7d493_14 : decode cJ0_coder_7d493 14 = .ok (.ireturn, 1) := zo_172 (by decide +kernel)
theorem dJ0_isLatin1_aae02_0 : decode cJ0_isLatin1_aae02 0 = .ok (.getstatic 38, 3) := zo_178 (by decide +kernel)
theorem dJ0_isLatin1_aae02_3 : decode cJ0_isLatin1_aae02 3 = .ok (.ifCond .eq 14, 3) := zo_153 (by decide +kernel)
theorem dJ0_isLatin1_aae02_6 : decode cJ0_isLatin1_aae02 6 = .ok (.aload_n 0, 1) := zo_42 (by decide +kernel)
theorem dJ0_isLatin1_aae02_7 : decode cJ0_isLatin1_aae02 7 = .ok (.getfield 15, 3) := zo_180 (by decide +kernel)
theorem dJ0_isLatin1_aae02_10 : decode cJ0_isLatin1_aae02 10 = .ok (.ifCond .ne 7, 3) := zo_154 (by decide +kernel)
theorem dJ0_isLatin1_aae02_13 : decode cJ0_isLatin1_aae02 13 = .ok (.iconst 1, 1) := zo_4 (by decide +kernel)
theorem dJ0_isLatin1_aae02_14 : decode cJ0_isLatin1_aae02 14 = .ok (.goto 4, 3) := zo_167 (by decide +kernel)
theorem dJ0_isLatin1_aae02_18 : decode cJ0_isLatin1_aae02 18 = .ok (.ireturn, 1) := zo_172 (by decide +kernel)
theorem dJ0_length_8abf5_0 : decode cJ0_length_8abf5 0 = .ok (.aload_n 0, 1) := zo_42 (by decide +kernel)
theorem dJ0_length_8abf5_1 : decode cJ0_length_8abf5 1 = .ok (.getfield 9, 3) := zo_180 (by decide +kernel)
theorem dJ0_length_8abf5_4 : decode cJ0_length_8abf5 4 = .ok (.arraylength, 1) := zo_190 (by decide +kernel)
theorem dJ0_length_8abf5_5 : decode cJ0_length_8abf5 5 = .ok (.aload_n 0, 1) := zo_42 (by decide +kernel)
theorem dJ0_length_8abf5_6 : decode cJ0_length_8abf5 6 = .ok (.invokevirtual 335, 3) := zo_182 (by decide +kernel)
theorem dJ0_length_8abf5_9 : decode cJ0_length_8abf5 9 = .ok (.ishr, 1) := zo_122 (by decide +kernel)
theorem dJ0_length_8abf5_10 : decode cJ0_length_8abf5 10 = .ok (.ireturn, 1) := zo_172 (by decide +kernel)
theorem dJ3_checkIndex_8e157_0 : decode cJ3_checkIndex_8e157 0 = .ok (.iload_n 0, 1) := zo_26 (by decide +kernel)
theorem dJ3_checkIndex_8e157_1 : decode cJ3_checkIndex_8e157 1 = .ok (.ifCond .lt 8, 3) := zo_155 (by decide +kernel)
theorem dJ3_checkIndex_8e157_4 : decode cJ3_checkIndex_8e157 4 = .ok (.iload_n 0, 1) := zo_26 (by decide +kernel)
theorem dJ3_checkIndex_8e157_5 : decode cJ3_checkIndex_8e157 5 = .ok (.iload_n 1, 1) := zo_27 (by decide +kernel)
theorem dJ3_checkIndex_8e157_6 : decode cJ3_checkIndex_8e157 6 = .ok (.if_icmp .lt 10, 3) := zo_161 (by decide +kernel)
theorem dJ3_checkIndex_8e157_16 : decode cJ3_checkIndex_8e157 16 = .ok (.iload_n 0, 1) := zo_26 (by decide +kernel)
theorem dJ3_checkIndex_8e157_17 : decode cJ3_checkIndex_8e157 17 = .ok (.ireturn, 1) := zo_172 (by decide +kernel)
theorem dJ0_checkIndex_df160_0 : decode cJ0_checkIndex_df160 0 = .ok (.iload_n 0, 1) := zo_26 (by decide +kernel)
theorem dJ0_checkIndex_df160_1 : decode cJ0_checkIndex_df160 1 = .ok (.iload_n 1, 1) := zo_27 (by decide +kernel)
theorem dJ0_checkIndex_df160_2 : decode cJ0_checkIndex_df160 2 = .ok (.getstatic 1053, 3) := zo_178 (by decide +kernel)
theorem dJ0_checkIndex_df160_5 : decode cJ0_checkIndex_df160 5 = .ok (.invokestatic 1059, 3) := zo_184 (by decide +kernel)
theorem dJ0_checkIndex_df160_8 : decode cJ0_checkIndex_df160 8 = .ok (.pop, 1) := zo_87 (by decide +kernel)
theorem dJ0_checkIndex_df160_9 : decode cJ0_checkIndex_df160 9 = .ok (.return_, 1) := zo_177 (by decide +kernel)
theorem dJ1_charAt_3b067_0 : decode cJ1_charAt_3b067 0 = .ok (.iload_n 1, 1) := zo_27 (by decide +kernel)
theorem dJ1_charAt_3b067_1 : decode cJ1_charAt_3b067 1 = .ok (.aload_n 0, 1) := zo_42 (by decide +kernel)
theorem dJ1_charAt_3b067_2 : decode cJ1_charAt_3b067 2 = .ok (.arraylength, 1) := zo_190 (by decide +kernel)
theorem dJ1_charAt_3b067_3 : decode cJ1_charAt_3b067 3 = .ok (.invokestatic 9, 3) := zo_184 (by decide +kernel)
theorem dJ1_charAt_3b067_6 : decode cJ1_charAt_3b067 6 = .ok (.aload_n 0, 1) := zo_42 (by decide +kernel)
theorem dJ1_charAt_3b067_7 : decode cJ1_charAt_3b067 7 = .ok (.iload_n 1, 1) := zo_27 (by decide +kernel)
theorem dJ1_charAt_3b067_8 : decode cJ1_charAt_3b067 8 = .ok (.baload, 1) := zo_51 (by decide +kernel)
theorem dJ1_charAt_3b067_9 : decode cJ1_charAt_3b067 9 = .ok (.sipush 255, 3) := zo_17 (by decide +kernel)
theorem dJ1_charAt_3b067_12 : decode cJ1_charAt_3b067 12 = .ok (.iand, 1) := zo_126 (by decide +kernel)
theorem dJ1_charAt_3b067_13 : decode cJ1_charAt_3b067 13 = .ok (.i2c, 1) := zo_146 (by decide +kernel)
theorem dJ1_charAt_3b067_14 : decode cJ1_charAt_3b067 14 = .ok (.ireturn, 1) := zo_172 (by decide +kernel)
theorem dJ0_charAt_5068e_0 : decode cJ0_charAt_5068e 0 = .ok (.aload_n 0, 1) := zo_42 (by decide +kernel)
theorem dJ0_charAt_5068e_1 : decode cJ0_charAt_5068e 1 = .ok (.invokevirtual 492, 3) := zo_182 (by decide +kernel)
theorem dJ0_charAt_5068e_4 : decode cJ0_charAt_5068e 4 = .ok (.ifCond .eq 12, 3) := zo_153 (by decide +kernel)
theorem dJ0_charAt_5068e_7 : decode cJ0_charAt_5068e 7 = .ok (.aload_n 0, 1) := zo_42 (by decide +kernel)
theorem dJ0_charAt_5068e_8 : decode cJ0_charAt_5068e 8 = .ok (.getfield 9, 3) := zo_180 (by decide +kernel)
theorem dJ0_charAt_5068e_11 : decode cJ0_charAt_5068e 11 = .ok (.iload_n 1, 1) := zo_27 (by decide +kernel)
theorem dJ0_charAt_5068e_12 : decode cJ0_charAt_5068e 12 = .ok (.invokestatic 495, 3) := zo_184 (by decide +kernel)
theorem dJ0_charAt_5068e_15 : decode cJ0_charAt_5068e 15 = .ok (.ireturn, 1) := zo_172 (by decide +kernel)
theorem dX1_drawBelow_0 : decode cX1_drawBelow 0 = .ok (.aload_n 0, 1) := zo_42 (by decide +kernel)
theorem dX1_drawBelow_1 : decode cX1_drawBelow 1 = .ok (.aload_n 0, 1) := zo_42 (by decide +kernel)
theorem dX1_drawBelow_2 : decode cX1_drawBelow 2 = .ok (.getfield 78, 3) := zo_180 (by decide +kernel)
theorem dX1_drawBelow_5 : decode cX1_drawBelow 5 = .ok (.ldc 91, 2) := zo_18 (by decide +kernel)
theorem dX1_drawBelow_7 : decode cX1_drawBelow 7 = .ok (.imul, 1) := zo_104 (by decide +kernel)
theorem dX1_drawBelow_8 : decode cX1_drawBelow 8 = .ok (.sipush 12345, 3) := zo_17 (by decide +kernel)
theorem dX1_drawBelow_11 : decode cX1_drawBelow 11 = .ok (.iadd, 1) := zo_96 (by decide +kernel)
theorem dX1_drawBelow_12 : decode cX1_drawBelow 12 = .ok (.putfield 78, 3) := zo_181 (by decide +kernel)
theorem dX1_drawBelow_15 : decode cX1_drawBelow 15 = .ok (.iload_n 1, 1) := zo_27 (by decide +kernel)
theorem dX1_drawBelow_16 : decode cX1_drawBelow 16 = .ok (.iconst 1, 1) := zo_4 (by decide +kernel)
theorem dX1_drawBelow_17 : decode cX1_drawBelow 17 = .ok (.if_icmp .ge 7, 3) := zo_162 (by decide +kernel)
theorem dX1_drawBelow_24 : decode cX1_drawBelow 24 = .ok (.aload_n 0, 1) := zo_42 (by decide +kernel)
theorem dX1_drawBelow_25 : decode cX1_drawBelow 25 = .ok (.getfield 78, 3) := zo_180 (by decide +kernel)
theorem dX1_drawBelow_28 : decode cX1_drawBelow 28 = .ok (.bipush 16, 2) := zo_16 (by decide +kernel)
theorem dX1_drawBelow_30 : decode cX1_drawBelow 30 = .ok (.iushr, 1) := zo_124 (by decide +kernel)
theorem dX1_drawBelow_31 : decode cX1_drawBelow 31 = .ok (.iload_n 1, 1) := zo_27 (by decide +kernel)
theorem dX1_drawBelow_32 : decode cX1_drawBelow 32 = .ok (.irem, 1) := zo_112 (by decide +kernel)
theorem dX1_drawBelow_33 : decode cX1_drawBelow 33 = .ok (.ireturn, 1) := zo_172 (by decide +kernel)
theorem dX1_draw_0 : decode cX1_draw 0 = .ok (.aload_n 0, 1) := zo_42 (by decide +kernel)
theorem dX1_draw_1 : decode cX1_draw 1 = .ok (.aload_n 1, 1) := zo_43 (by decide +kernel)
theorem dX1_draw_2 : decode cX1_draw 2 = .ok (.invokevirtual 59, 3) := zo_182 (by decide +kernel)
theorem dX1_draw_5 : decode cX1_draw 5 = .ok (.aload_n 0, 1) := zo_42 (by decide +kernel)
theorem dX1_draw_6 : decode cX1_draw 6 = .ok (.iload_n 2, 1) := zo_28 (by decide +kernel)
theorem dX1_draw_7 : decode cX1_draw 7 = .ok (.putfield 78, 3) := zo_181 (by decide +kernel)
theorem dX1_draw_10 : decode cX1_draw 10 = .ok (.iconst 0, 1) := zo_3 (by decide +kernel)
theorem dX1_draw_11 : decode cX1_draw 11 = .ok (.istore 4, 2) := zo_54 (by decide +kernel)
theorem dX1_draw_13 : decode cX1_draw 13 = .ok (.iload 4, 2) := zo_21 (by decide +kernel)
theorem dX1_draw_15 : decode cX1_draw 15 = .ok (.iload_n 3, 1) := zo_29 (by decide +kernel)
theorem dX1_draw_16 : decode cX1_draw 16 = .ok (.if_icmp .ge 81, 3) := zo_162 (by decide +kernel)
theorem dX1_draw_19 : decode cX1_draw 19 = .ok (.iload 4, 2) := zo_21 (by decide +kernel)
theorem dX1_draw_21 : decode cX1_draw 21 = .ok (.bipush 60, 2) := zo_16 (by decide +kernel)
theorem dX1_draw_23 : decode cX1_draw 23 = .ok (.if_icmp .ge 74, 3) := zo_162 (by decide +kernel)
theorem dX1_draw_26 : decode cX1_draw 26 = .ok (.getstatic 81, 3) := zo_178 (by decide +kernel)
theorem dX1_draw_29 : decode cX1_draw 29 = .ok (.aload_n 0, 1) := zo_42 (by decide +kernel)
theorem dX1_draw_30 : decode cX1_draw 30 = .ok (.getstatic 81, 3) := zo_178 (by decide +kernel)
theorem dX1_draw_33 : decode cX1_draw 33 = .ok (.arraylength, 1) := zo_190 (by decide +kernel)
theorem dX1_draw_34 : decode cX1_draw 34 = .ok (.invokevirtual 84, 3) := zo_182 (by decide +kernel)
theorem dX1_draw_37 : decode cX1_draw 37 = .ok (.iaload, 1) := zo_46 (by decide +kernel)
theorem dX1_draw_38 : decode cX1_draw 38 = .ok (.istore 5, 2) := zo_54 (by decide +kernel)
theorem dX1_draw_40 : decode cX1_draw 40 = .ok (.aload_n 1, 1) := zo_43 (by decide +kernel)
theorem dX1_draw_41 : decode cX1_draw 41 = .ok (.getfield 88, 3) := zo_180 (by decide +kernel)
theorem dX1_draw_44 : decode cX1_draw 44 = .ok (.ifCond .le 47, 3) := zo_158 (by decide +kernel)
theorem dX1_draw_47 : decode cX1_draw 47 = .ok (.aload_n 0, 1) := zo_42 (by decide +kernel)
theorem dX1_draw_48 : decode cX1_draw 48 = .ok (.aload_n 1, 1) := zo_43 (by decide +kernel)
theorem dX1_draw_49 : decode cX1_draw 49 = .ok (.getfield 88, 3) := zo_180 (by decide +kernel)
theorem dX1_draw_52 : decode cX1_draw 52 = .ok (.invokevirtual 84, 3) := zo_182 (by decide +kernel)
theorem dX1_draw_55 : decode cX1_draw 55 = .ok (.istore 6, 2) := zo_54 (by decide +kernel)
theorem dX1_draw_57 : decode cX1_draw 57 = .ok (.iload 5, 2) := zo_21 (by decide +kernel)
theorem dX1_draw_59 : decode cX1_draw 59 = .ok (.iconst 4, 1) := zo_7 (by decide +kernel)
theorem dX1_draw_60 : decode cX1_draw 60 = .ok (.if_icmp .eq 9, 3) := zo_159 (by decide +kernel)
theorem dX1_draw_63 : decode cX1_draw 63 = .ok (.iload 5, 2) := zo_21 (by decide +kernel)
theorem dX1_draw_65 : decode cX1_draw 65 = .ok (.iconst 5, 1) := zo_8 (by decide +kernel)
theorem dX1_draw_66 : decode cX1_draw 66 = .ok (.if_icmp .ne 11, 3) := zo_160 (by decide +kernel)
theorem dX1_draw_69 : decode cX1_draw 69 = .ok (.aload_n 0, 1) := zo_42 (by decide +kernel)
theorem dX1_draw_70 : decode cX1_draw 70 = .ok (.iconst 4, 1) := zo_7 (by decide +kernel)
theorem dX1_draw_71 : decode cX1_draw 71 = .ok (.invokevirtual 84, 3) := zo_182 (by decide +kernel)
theorem dX1_draw_74 : decode cX1_draw 74 = .ok (.goto 4, 3) := zo_167 (by decide +kernel)
theorem dX1_draw_77 : decode cX1_draw 77 = .ok (.iconst (-1), 1) := zo_2 (by decide +kernel)
theorem dX1_draw_78 : decode cX1_draw 78 = .ok (.istore 7, 2) := zo_54 (by decide +kernel)
theorem dX1_draw_80 : decode cX1_draw 80 = .ok (.aload_n 0, 1) := zo_42 (by decide +kernel)
theorem dX1_draw_81 : decode cX1_draw 81 = .ok (.iload 5, 2) := zo_21 (by decide +kernel)
theorem dX1_draw_83 : decode cX1_draw 83 = .ok (.iload 6, 2) := zo_21 (by decide +kernel)
theorem dX1_draw_85 : decode cX1_draw 85 = .ok (.iload 7, 2) := zo_21 (by decide +kernel)
theorem dX1_draw_87 : decode cX1_draw 87 = .ok (.invokevirtual 74, 3) := zo_182 (by decide +kernel)
theorem dX1_draw_90 : decode cX1_draw 90 = .ok (.pop, 1) := zo_87 (by decide +kernel)
theorem dX1_draw_91 : decode cX1_draw 91 = .ok (.iinc 4 1, 3) := zo_132 (by decide +kernel)
theorem dX1_draw_94 : decode cX1_draw 94 = .ok (.goto (-81), 3) := zo_167 (by decide +kernel)
theorem dX1_draw_97 : decode cX1_draw 97 = .ok (.return_, 1) := zo_177 (by decide +kernel)
theorem zLen_le : ∀ i, i < 12 → zLen.getD i 0 ≤ 7 := by decide +kernel
theorem zLen_sh : ∀ i, i < 12 → nI (zLen.getD i 0) >>> ((0 : Int32) &&& 31) = nI (zLen.getD i 0) := by decide +kernel
def zChar (i k : Nat) : Int32 := (((((zByt.getD i []).getD k 0) &&& 255).toUInt32) % 65536).toInt32
theorem zChar_n : ∀ i, i < 12 → ∀ k, k < 7 → narrow .char (.int (zChar i k)) = .int (zChar i k) := by decide +kernel
set_option maxHeartbeats 4000000 in
set_option maxRecDepth 100000 in
/-- c_coder -/
theorem c_coder (l : Launch) (T : zTy) (i : Nat) (hi : i < 12) : zMi l T yJ0_coder_7d493 cJ0_coder_7d493 1 (some .byte) 1 0 0 [.ref (T.2 (100 + i))] [] (fun (r : Int32) bs => bs = [] ∧ r = 0) := by
  refine zMi_of (own := RJ0) (by decide) rfl (Nat.le_of_ble_eq_true rfl) ?_
  intro p e s m args below meth c A ls C hr hlocks hnm hAe G hl
  refine zHide (fun Q9 hQ9 => ?_)
  have hx := C.1
  have hb := C.2.1
  have hl : lv_has ls 1 [(0, .ref (T.2 (100 + i)))] := hl
  refine z_gst C G G.2.2.2.2.2.2.2.2.2.1 m_fs_RJ0_38 dJ0_coder_7d493_0 ?_
  refine lv_if_eq (tgt := 13) hx hb dJ0_coder_7d493_3 (by decide) (fun q => absurd q (by decide)) (fun _ => ?_)
  refine lv_aload_n hx hb dJ0_coder_7d493_6 rfl (lv_at hl 0 rfl) ?_
  refine z_scod C G (i := i) (by first | with_reducible assumption | omega | assumption) m_fs_RJ0_15 dJ0_coder_7d493_7 ?_
  refine lv_goto (tgt := 14) hx hb dJ0_coder_7d493_10 (by decide) ?_
  exact z_back hQ9 (z_zret C hr hlocks G (Nat.le_of_ble_eq_true rfl) (Nat.le_of_ble_eq_true rfl) dJ0_coder_7d493_14 rfl ⟨rfl, rfl⟩)
set_option maxHeartbeats 4000000 in
set_option maxRecDepth 100000 in
/-- c_isLatin1 -/
theorem c_isLatin1 (l : Launch) (T : zTy) (i : Nat) (hi : i < 12) : zMi l T yJ0_isLatin1_aae02 cJ0_isLatin1_aae02 1 (some .boolean) 1 0 0 [.ref (T.2 (100 + i))] [] (fun (r : Int32) bs => bs = [] ∧ r = 1) := by
  refine zMi_of (own := RJ0) (by decide) rfl (Nat.le_of_ble_eq_true rfl) ?_
  intro p e s m args below meth c A ls C hr hlocks hnm hAe G hl
  refine zHide (fun Q9 hQ9 => ?_)
  have hx := C.1
  have hb := C.2.1
  have hl : lv_has ls 1 [(0, .ref (T.2 (100 + i)))] := hl
  refine z_gst C G G.2.2.2.2.2.2.2.2.2.1 m_fs_RJ0_38 dJ0_isLatin1_aae02_0 ?_
  refine lv_if_eq (tgt := 17) hx hb dJ0_isLatin1_aae02_3 (by decide) (fun q => absurd q (by decide)) (fun _ => ?_)
  refine lv_aload_n hx hb dJ0_isLatin1_aae02_6 rfl (lv_at hl 0 rfl) ?_
  refine z_scod C G (i := i) (by first | with_reducible assumption | omega | assumption) m_fs_RJ0_15 dJ0_isLatin1_aae02_7 ?_
  refine lv_if_ne (tgt := 17) hx hb dJ0_isLatin1_aae02_10 (by decide) (fun q => absurd (by decide) q) (fun _ => ?_)
  refine lv_iconst (v := 1) hx hb dJ0_isLatin1_aae02_13 (by decide) ?_
  refine lv_goto (tgt := 18) hx hb dJ0_isLatin1_aae02_14 (by decide) ?_
  exact z_back hQ9 (z_zret C hr hlocks G (Nat.le_of_ble_eq_true rfl) (Nat.le_of_ble_eq_true rfl) dJ0_isLatin1_aae02_18 rfl ⟨rfl, rfl⟩)
set_option maxHeartbeats 4000000 in
set_option maxRecDepth 100000 in
/-- c_slen -/
theorem c_slen (l : Launch) (T : zTy) (i : Nat) (hi : i < 12) : zMi l T yJ0_length_8abf5 cJ0_length_8abf5 1 (some .int) 2 0 0 [.ref (T.2 (100 + i))] [] (fun (r : Int32) bs => bs = [] ∧ r = nI (zLen.getD i 0)) := by
  refine zMi_of (own := RJ0) (by decide) rfl (Nat.le_of_ble_eq_true rfl) ?_
  intro p e s m args below meth c A ls C hr hlocks hnm hAe G hl
  refine zHide (fun Q9 hQ9 => ?_)
  have hx := C.1
  have hb := C.2.1
  have hl : lv_has ls 1 [(0, .ref (T.2 (100 + i)))] := hl
  refine lv_aload_n hx hb dJ0_length_8abf5_0 rfl (lv_at hl 0 rfl) ?_
  refine z_sval C G (i := i) (by first | with_reducible assumption | omega | assumption) m_fs_RJ0_9 dJ0_length_8abf5_1 ?_
  refine z_sbl C G (i := i) (by first | with_reducible assumption | omega | assumption) dJ0_length_8abf5_4 ?_
  refine lv_aload_n hx hb dJ0_length_8abf5_5 rfl (lv_at hl 0 rfl) ?_
  refine z_Wi (bc := []) (br := []) (As := []) (rest := [.int (nI (zLen.getD i 0))]) C G (c_coder l T i (by first | with_reducible assumption | with_reducible rfl | omega | assumption | rfl)) (kV_RJ0_335 C.2.2.2.2 (Nat.le_of_ble_eq_true rfl) (Nat.le_of_ble_eq_true rfl)) [] [] rfl rfl (z_srecv G (by first | with_reducible assumption | omega | assumption)) rfl rfl hl.1 dJ0_length_8abf5_6 (Nat.le_of_ble_eq_true rfl) (Nat.le_of_ble_eq_true rfl) (fun r_2 b1 H locs hw G => ?_)
  refine zAn2 hw ?_
  intro hbs9 h_1
  clear hw
  subst hbs9
  have G : zS T A s.heap s [] _ _ := G
  subst h_1
  refine lv_ishr hx hb dJ0_length_8abf5_9 ?_
  exact z_back hQ9 (z_iret C hr hlocks G (Nat.le_of_ble_eq_true rfl) (Nat.le_of_ble_eq_true rfl) dJ0_length_8abf5_10 ⟨rfl, (zLen_sh i hi)⟩)
set_option maxHeartbeats 4000000 in
set_option maxRecDepth 100000 in
/-- c_pIndexN -/
theorem c_pIndexN (l : Launch) (T : zTy) (x : Int32) (y : Int32) (hx0 : 0 ≤ x.toInt) (hxy : x.toInt < y.toInt) : zMi l T yJ3_checkIndex_8e157 cJ3_checkIndex_8e157 3 (some .int) 1 0 0 [.int x, .int y, .null] [] (fun (r : Int32) bs => bs = [] ∧ r = x) := by
  refine zMi_of (own := RJ3) (by decide) rfl (Nat.le_of_ble_eq_true rfl) ?_
  intro p e s m args below meth c A ls C hr hlocks hnm hAe G hl
  refine zHide (fun Q9 hQ9 => ?_)
  have hx := C.1
  have hb := C.2.1
  have hl : lv_has ls 3 [(0, .int x), (1, .int y), (2, .null)] := hl
  refine lv_iload_n hx hb dJ3_checkIndex_8e157_0 rfl (lv_at hl 0 rfl) ?_
  refine lv_if_lt (tgt := 9) hx hb dJ3_checkIndex_8e157_1 (by decide) (fun q => absurd q (fun q2 => absurd (show x.toInt < (0 : Int) from (fa_lt x (0 : Int32)).mp q2) (by omega))) (fun _ => ?_)
  refine lv_iload_n hx hb dJ3_checkIndex_8e157_4 rfl (lv_at hl 0 rfl) ?_
  refine lv_iload_n hx hb dJ3_checkIndex_8e157_5 rfl (lv_at hl 1 rfl) ?_
  refine lv_icmp_lt (tgt := 16) hx hb dJ3_checkIndex_8e157_6 (by decide) (fun _ => ?_) (fun q => absurd ((fa_lt x y).mpr (by show x.toInt < y.toInt; omega)) q)
  refine lv_iload_n hx hb dJ3_checkIndex_8e157_16 rfl (lv_at hl 0 rfl) ?_
  exact z_back hQ9 (z_iret C hr hlocks G (Nat.le_of_ble_eq_true rfl) (Nat.le_of_ble_eq_true rfl) dJ3_checkIndex_8e157_17 ⟨rfl, rfl⟩)
set_option maxHeartbeats 4000000 in
set_option maxRecDepth 100000 in
/-- c_pIndexR -/
theorem c_pIndexR (l : Launch) (T : zTy) (x : Int32) (y : Int32) (q : Nat) (hx0 : 0 ≤ x.toInt) (hxy : x.toInt < y.toInt) : zMi l T yJ3_checkIndex_8e157 cJ3_checkIndex_8e157 3 (some .int) 1 0 0 [.int x, .int y, .ref q] [] (fun (r : Int32) bs => bs = [] ∧ r = x) := by
  refine zMi_of (own := RJ3) (by decide) rfl (Nat.le_of_ble_eq_true rfl) ?_
  intro p e s m args below meth c A ls C hr hlocks hnm hAe G hl
  refine zHide (fun Q9 hQ9 => ?_)
  have hx := C.1
  have hb := C.2.1
  have hl : lv_has ls 3 [(0, .int x), (1, .int y), (2, .ref q)] := hl
  refine lv_iload_n hx hb dJ3_checkIndex_8e157_0 rfl (lv_at hl 0 rfl) ?_
  refine lv_if_lt (tgt := 9) hx hb dJ3_checkIndex_8e157_1 (by decide) (fun q => absurd q (fun q2 => absurd (show x.toInt < (0 : Int) from (fa_lt x (0 : Int32)).mp q2) (by omega))) (fun _ => ?_)
  refine lv_iload_n hx hb dJ3_checkIndex_8e157_4 rfl (lv_at hl 0 rfl) ?_
  refine lv_iload_n hx hb dJ3_checkIndex_8e157_5 rfl (lv_at hl 1 rfl) ?_
  refine lv_icmp_lt (tgt := 16) hx hb dJ3_checkIndex_8e157_6 (by decide) (fun _ => ?_) (fun q => absurd ((fa_lt x y).mpr (by show x.toInt < y.toInt; omega)) q)
  refine lv_iload_n hx hb dJ3_checkIndex_8e157_16 rfl (lv_at hl 0 rfl) ?_
  exact z_back hQ9 (z_iret C hr hlocks G (Nat.le_of_ble_eq_true rfl) (Nat.le_of_ble_eq_true rfl) dJ3_checkIndex_8e157_17 ⟨rfl, rfl⟩)
set_option maxHeartbeats 4000000 in
set_option maxRecDepth 100000 in
/-- c_sIndex -/
theorem c_sIndex (l : Launch) (T : zTy) (x : Int32) (y : Int32) (hx0 : 0 ≤ x.toInt) (hxy : x.toInt < y.toInt) : zMv l T yJ0_checkIndex_df160 cJ0_checkIndex_df160 2 2 0 0 [.int x, .int y] [] (fun bs => bs = []) := by
  refine zMv_of (own := RJ0) (by decide) rfl (Nat.le_of_ble_eq_true rfl) ?_
  intro p e s m args below meth c A ls C hr hlocks hnm hAe G hl
  refine zHide (fun Q9 hQ9 => ?_)
  have hx := C.1
  have hb := C.2.1
  have hl : lv_has ls 2 [(0, .int x), (1, .int y)] := hl
  refine lv_iload_n hx hb dJ0_checkIndex_df160_0 rfl (lv_at hl 0 rfl) ?_
  refine lv_iload_n hx hb dJ0_checkIndex_df160_1 rfl (lv_at hl 1 rfl) ?_
  obtain ⟨q_1, eq_1⟩ := zZq G.2.2.2.2.2.2.2.2.2.2.1
  rcases q_1 with _ | q_1
  · refine z_gst C G (v := .null) eq_1 m_fs_RJ0_1053 dJ0_checkIndex_df160_2 ?_
    refine z_Si (bc := []) (br := []) (As := [.int x, .int y, .null]) (rest := []) C G (c_pIndexN l T x y (by first | with_reducible assumption | with_reducible rfl | omega | assumption | rfl) (by first | with_reducible assumption | with_reducible rfl | omega | assumption | rfl)) (kS_RJ0_1059 C.2.2.2.2 (Nat.le_of_ble_eq_true rfl) (Nat.le_of_ble_eq_true rfl)) [] [] rfl rfl rfl rfl hl.1 dJ0_checkIndex_df160_5 (Nat.le_of_ble_eq_true rfl) (Nat.le_of_ble_eq_true rfl) (fun r_3 b1 H locs hw G => ?_)
    refine zAn2 hw ?_
    intro hbs9 h_2
    clear hw
    subst hbs9
    have G : zS T A s.heap s [] _ _ := G
    subst h_2
    refine lv_pop hx hb dJ0_checkIndex_df160_8 rfl ?_
    exact z_back hQ9 (z_vret C hr hlocks G (Nat.le_of_ble_eq_true rfl) (Nat.le_of_ble_eq_true rfl) dJ0_checkIndex_df160_9 rfl)
  · refine z_gst C G (v := .ref q_1) eq_1 m_fs_RJ0_1053 dJ0_checkIndex_df160_2 ?_
    refine z_Si (bc := []) (br := []) (As := [.int x, .int y, .ref q_1]) (rest := []) C G (c_pIndexR l T x y q_1 (by first | with_reducible assumption | with_reducible rfl | omega | assumption | rfl) (by first | with_reducible assumption | with_reducible rfl | omega | assumption | rfl)) (kS_RJ0_1059 C.2.2.2.2 (Nat.le_of_ble_eq_true rfl) (Nat.le_of_ble_eq_true rfl)) [] [] rfl rfl rfl rfl hl.1 dJ0_checkIndex_df160_5 (Nat.le_of_ble_eq_true rfl) (Nat.le_of_ble_eq_true rfl) (fun r_5 b1 H locs hw G => ?_)
    refine zAn2 hw ?_
    intro hbs9 h_4
    clear hw
    subst hbs9
    have G : zS T A s.heap s [] _ _ := G
    subst h_4
    refine lv_pop hx hb dJ0_checkIndex_df160_8 rfl ?_
    exact z_back hQ9 (z_vret C hr hlocks G (Nat.le_of_ble_eq_true rfl) (Nat.le_of_ble_eq_true rfl) dJ0_checkIndex_df160_9 rfl)
set_option maxHeartbeats 4000000 in
set_option maxRecDepth 100000 in
/-- c_lchar -/
theorem c_lchar (l : Launch) (T : zTy) (i : Nat) (k : Nat) (hi : i < 12) (hk : k < zLen.getD i 0) : zMi l T yJ1_charAt_3b067 cJ1_charAt_3b067 2 (some .char) 3 0 0 [.ref (T.2 (200 + i)), .int (nI k)] [] (fun (r : Int32) bs => bs = [] ∧ r = zChar i k) := by
  refine zMi_of (own := RJ1) (by decide) rfl (Nat.le_of_ble_eq_true rfl) ?_
  intro p e s m args below meth c A ls C hr hlocks hnm hAe G hl
  refine zHide (fun Q9 hQ9 => ?_)
  have hx := C.1
  have hb := C.2.1
  have hl : lv_has ls 2 [(0, .ref (T.2 (200 + i))), (1, .int (nI k))] := hl
  have hL := zLen_le i hi
  refine lv_iload_n hx hb dJ1_charAt_3b067_0 rfl (lv_at hl 1 rfl) ?_
  refine lv_aload_n hx hb dJ1_charAt_3b067_1 rfl (lv_at hl 0 rfl) ?_
  refine z_sbl C G (i := i) (by first | with_reducible assumption | omega | assumption) dJ1_charAt_3b067_2 ?_
  refine z_Sv (bc := []) (br := []) (As := [.int (nI k), .int (nI (zLen.getD i 0))]) (rest := []) C G (c_sIndex l T (nI k) (nI (zLen.getD i 0)) (by rw [nI_toInt (by omega)]; omega) (by rw [nI_toInt (by omega), nI_toInt (by omega)]; omega)) (kS_RJ1_9 C.2.2.2.2 (Nat.le_of_ble_eq_true rfl) (Nat.le_of_ble_eq_true rfl)) [] [] rfl rfl rfl rfl hl.1 dJ1_charAt_3b067_3 (Nat.le_of_ble_eq_true rfl) (Nat.le_of_ble_eq_true rfl) (fun b1 H locs hw G => ?_)
  obtain rfl := hw
  have G : zS T A s.heap s [] _ _ := G
  refine lv_aload_n hx hb dJ1_charAt_3b067_6 rfl (lv_at hl 0 rfl) ?_
  refine lv_iload_n hx hb dJ1_charAt_3b067_7 rfl (lv_at hl 1 rfl) ?_
  refine z_sbb C G (i := i) (by first | with_reducible assumption | omega | assumption) (vp_in_nI (by omega) (by omega)) dJ1_charAt_3b067_8 ?_
  rw [nI_clamp (by omega)]
  refine lv_sipush (v := 255) hx hb dJ1_charAt_3b067_9 (by decide) ?_
  refine lv_iand hx hb dJ1_charAt_3b067_12 ?_
  refine lv_i2c hx hb dJ1_charAt_3b067_13 rfl ?_
  exact z_back hQ9 (z_zret C hr hlocks G (Nat.le_of_ble_eq_true rfl) (Nat.le_of_ble_eq_true rfl) dJ1_charAt_3b067_14 (zChar_n i hi k (by omega)) ⟨rfl, rfl⟩)
set_option maxHeartbeats 4000000 in
set_option maxRecDepth 100000 in
/-- c_schar -/
theorem c_schar (l : Launch) (T : zTy) (i : Nat) (k : Nat) (hi : i < 12) (hk : k < zLen.getD i 0) : zMi l T yJ0_charAt_5068e cJ0_charAt_5068e 2 (some .char) 4 0 0 [.ref (T.2 (100 + i)), .int (nI k)] [] (fun (r : Int32) bs => bs = [] ∧ r = zChar i k) := by
  refine zMi_of (own := RJ0) (by decide) rfl (Nat.le_of_ble_eq_true rfl) ?_
  intro p e s m args below meth c A ls C hr hlocks hnm hAe G hl
  refine zHide (fun Q9 hQ9 => ?_)
  have hx := C.1
  have hb := C.2.1
  have hl : lv_has ls 2 [(0, .ref (T.2 (100 + i))), (1, .int (nI k))] := hl
  have hL := zLen_le i hi
  refine lv_aload_n hx hb dJ0_charAt_5068e_0 rfl (lv_at hl 0 rfl) ?_
  refine z_Wi (bc := []) (br := []) (As := []) (rest := []) C G (c_isLatin1 l T i (by first | with_reducible assumption | with_reducible rfl | omega | assumption | rfl)) (kV_RJ0_492 C.2.2.2.2 (Nat.le_of_ble_eq_true rfl) (Nat.le_of_ble_eq_true rfl)) [] [] rfl rfl (z_srecv G (by first | with_reducible assumption | omega | assumption)) rfl rfl hl.1 dJ0_charAt_5068e_1 (Nat.le_of_ble_eq_true rfl) (Nat.le_of_ble_eq_true rfl) (fun r_2 b1 H locs hw G => ?_)
  refine zAn2 hw ?_
  intro hbs9 h_1
  clear hw
  subst hbs9
  have G : zS T A s.heap s [] _ _ := G
  subst h_1
  refine lv_if_eq (tgt := 16) hx hb dJ0_charAt_5068e_4 (by decide) (fun q => absurd q (by decide)) (fun _ => ?_)
  refine lv_aload_n hx hb dJ0_charAt_5068e_7 rfl (lv_at hl 0 rfl) ?_
  refine z_sval C G (i := i) (by first | with_reducible assumption | omega | assumption) m_fs_RJ0_9 dJ0_charAt_5068e_8 ?_
  refine lv_iload_n hx hb dJ0_charAt_5068e_11 rfl (lv_at hl 1 rfl) ?_
  refine z_Si (bc := []) (br := []) (As := [.ref (T.2 (200 + i)), .int (nI k)]) (rest := []) C G (c_lchar l T i k (by first | with_reducible assumption | with_reducible rfl | omega | assumption | rfl) (by first | with_reducible assumption | with_reducible rfl | omega | assumption | rfl)) (kS_RJ0_495 C.2.2.2.2 (Nat.le_of_ble_eq_true rfl) (Nat.le_of_ble_eq_true rfl)) [] [] rfl rfl rfl rfl hl.1 dJ0_charAt_5068e_12 (Nat.le_of_ble_eq_true rfl) (Nat.le_of_ble_eq_true rfl) (fun r_4 b1 H locs hw G => ?_)
  refine zAn2 hw ?_
  intro hbs9 h_3
  clear hw
  subst hbs9
  have G : zS T A s.heap s [] _ _ := G
  subst h_3
  exact z_back hQ9 (z_zret C hr hlocks G (Nat.le_of_ble_eq_true rfl) (Nat.le_of_ble_eq_true rfl) dJ0_charAt_5068e_15 (zChar_n i hi k (by omega)) ⟨rfl, rfl⟩)
theorem zDraw {n : Int32} (h1 : 1 ≤ n.toInt) (h2 : n.toInt ≤ 1000) (x : Int32) : 0 ≤ ((x.toUInt32 >>> (Int32.toUInt32 16 &&& Int32.toUInt32 31)).toInt32 - (x.toUInt32 >>> (Int32.toUInt32 16 &&& Int32.toUInt32 31)).toInt32 / n * n).toInt ∧ ((x.toUInt32 >>> (Int32.toUInt32 16 &&& Int32.toUInt32 31)).toInt32 - (x.toUInt32 >>> (Int32.toUInt32 16 &&& Int32.toUInt32 31)).toInt32 / n * n).toInt < n.toInt := by
  have hb : x.toBitVec.toNat < 4294967296 := x.toBitVec.isLt
  have e0 := pk_ushr x 16 16 (by decide)
  have hlt : x.toBitVec.toNat / 2 ^ 16 < 65536 := by omega
  have e : (x.toUInt32 >>> (Int32.toUInt32 16 &&& Int32.toUInt32 31)).toInt32 = nI (x.toBitVec.toNat / 2 ^ 16) := by
    apply Int32.toBitVec_inj.mp
    apply BitVec.eq_of_toNat_eq
    rw [e0, pk_tn (by omega)]
  have en : n = nI n.toInt.toNat := by
    apply Int32.toInt_inj.mp
    rw [nI_toInt (by omega)]
    omega
  generalize x.toBitVec.toNat / 2 ^ 16 = a at *
  rw [e]
  have hp : 0 < n.toInt.toNat := by omega
  have hn2 : n.toInt.toNat < 2 ^ 31 := by omega
  have r := pk_rem (a := a) (d := n.toInt.toNat) (by omega) hp hn2
  rw [← en] at r
  rw [r]
  have hm := Nat.mod_lt a hp
  rw [nI_toInt (by omega)]
  omega
set_option maxHeartbeats 4000000 in
set_option maxRecDepth 100000 in
/-- c_drawBelow -/
theorem c_drawBelow (l : Launch) (T : zTy) (h : Nat) (po : Nat) (la : Nat) (fw : Nat → Int32) (v0 : Int32) (v1 : Int32) (v2 : Int32) (v3 : Int32) (v4 : Int32) (v5 : Int32) (v6 : Int32) (v7 : Int32) (wc : va_W) (x : Int32) (hc : bCourse T h po la fw v0 v1 v2 v3 v4 v5 v6 v7 wc) (hx1 : 1 ≤ x.toInt) (hx9 : x.toInt ≤ 1000) : zMi l T yX1_drawBelow cX1_drawBelow 2 (some .int) 1 0 0 [.ref h, .int x] [wc] (fun (r : Int32) bs => ∃ (wc2 : va_W) (u7 : Int32), bs = [wc2] ∧ bCourse T h po la fw v0 v1 v2 v3 v4 v5 v6 u7 wc2 ∧ 0 ≤ r.toInt ∧ r.toInt < x.toInt) := by
  refine zMi_of (own := RX1) (by decide) rfl (Nat.le_of_ble_eq_true rfl) ?_
  intro p e s m args below meth c A ls C hr hlocks hnm hAe G hl
  refine zHide (fun Q9 hQ9 => ?_)
  have hx := C.1
  have hb := C.2.1
  have hl : lv_has ls 2 [(0, .ref h), (1, .int x)] := hl
  refine lv_aload_n hx hb dX1_drawBelow_0 rfl (lv_at hl 0 rfl) ?_
  refine lv_aload_n hx hb dX1_drawBelow_1 rfl (lv_at hl 0 rfl) ?_
  refine zEx1 hc ?_
  intro a1_1 hbs9
  clear hc
  subst hbs9
  have G : zS T A s.heap s [[zO1 h po a1_1 v0 la v1 v2 v3 v4 v5 v6 v7], [zAr T 0 a1_1 7 fw]] _ _ := G.re rfl
  refine z_get C G clX1 0 rfl 10 (by decide) m_fl_RX1_78 rfl dX1_drawBelow_2 ?_
  refine lv_ldc (v := 1103515245) hx hb C.2.2.2.1 (C.2.2.2.2 _ m_ko_RX1_91) dX1_drawBelow_5 ?_
  refine lv_imul hx hb dX1_drawBelow_7 ?_
  refine lv_sipush (v := 12345) hx hb dX1_drawBelow_8 (by decide) ?_
  refine lv_iadd hx hb dX1_drawBelow_11 ?_
  refine z_put C G clX1 0 rfl 10 (by decide) m_fl_RX1_78 rfl rfl rfl (Nat.le_of_ble_eq_true rfl) dX1_drawBelow_12 (fun H locs G => ?_)
  have G : zS T A s.heap s [[zO1 h po a1_1 v0 la v1 v2 v3 v4 v5 v6 ((v7 * 1103515245) + 12345)], [zAr T 0 a1_1 7 fw]] _ _ := G
  refine lv_iload_n hx hb dX1_drawBelow_15 rfl (lv_at hl 1 rfl) ?_
  refine lv_iconst (v := 1) hx hb dX1_drawBelow_16 (by decide) ?_
  refine lv_icmp_ge (tgt := 24) hx hb dX1_drawBelow_17 (by decide) (fun _ => ?_) (fun q => absurd ((fa_le (1 : Int32) x).mpr (by show (1 : Int) ≤ x.toInt; omega)) q)
  refine lv_aload_n hx hb dX1_drawBelow_24 rfl (lv_at hl 0 rfl) ?_
  refine z_get C G clX1 0 rfl 10 (by decide) m_fl_RX1_78 rfl dX1_drawBelow_25 ?_
  refine lv_bipush (v := 16) hx hb dX1_drawBelow_28 (by decide) ?_
  refine lv_iushr hx hb dX1_drawBelow_30 rfl ?_
  refine lv_iload_n hx hb dX1_drawBelow_31 rfl (lv_at hl 1 rfl) ?_
  refine lv_irem hx hb dX1_drawBelow_32 (fun q => absurd (show x.toInt = 0 from by rw [q]; rfl) (by omega)) ?_
  have hw_2 : bCourse T h po la fw v0 v1 v2 v3 v4 v5 v6 ((v7 * 1103515245) + 12345) [zO1 h po a1_1 v0 la v1 v2 v3 v4 v5 v6 ((v7 * 1103515245) + 12345), zAr T 0 a1_1 7 fw] := ⟨a1_1, rfl⟩
  have G : zS T A s.heap s [[zO1 h po a1_1 v0 la v1 v2 v3 v4 v5 v6 ((v7 * 1103515245) + 12345), zAr T 0 a1_1 7 fw]] _ _ := G.re rfl
  exact z_back hQ9 (z_iret C hr hlocks G (Nat.le_of_ble_eq_true rfl) (Nat.le_of_ble_eq_true rfl) dX1_drawBelow_33 ⟨([zO1 h po a1_1 v0 la v1 v2 v3 v4 v5 v6 ((v7 * 1103515245) + 12345), zAr T 0 a1_1 7 fw]), ((v7 * 1103515245) + 12345), rfl, hw_2, (zDraw hx1 hx9 _).1, (zDraw hx1 hx9 _).2⟩)
set_option maxHeartbeats 4000000 in
set_option maxRecDepth 100000 in
/-- draw -/
theorem c_draw (l : Launch) (T : zTy) (h : Nat) (po : Nat) (la : Nat) (fw : Nat → Int32) (v0 : Int32) (v1 : Int32) (v2 : Int32) (v3 : Int32) (v4 : Int32) (v5 : Int32) (v6 : Int32) (v7 : Int32) (wc : va_W) (lp : Nat) (f1 : Nat → Int32) (f2 : Nat → Int32) (f3 : Nat → Int32) (st : Int32) (wh : Int32) (wp : va_W) (o : Nat) (cr : Int32) (inn : Int32) (k1 : Nat → Int32) (k2 : Nat → Int32) (k3 : Nat → Int32) (k4 : Nat → Int32) (z : va_W) (sd : Int32) (n : Int32) (hc : bCourse T h po la fw v0 v1 v2 v3 v4 v5 v6 v7 wc) (hp : bPosts T po lp f1 f2 f3 st wh wp) (hz : bLand T o cr inn k1 k2 k3 k4 z) (hI : zLI cr k1 k3) : zMv l T yX1_draw cX1_draw 8 7 0 0 [.ref h, .ref o, .int sd, .int n] [wc, wp, z] (fun bs => ∃ (wc2 : va_W) (gw : Nat → Int32) (u0 : Int32) (u1 : Int32) (u2 : Int32) (u3 : Int32) (u4 : Int32) (u5 : Int32) (u6 : Int32) (u7 : Int32) (wp2 : va_W) (g1 : Nat → Int32) (g2 : Nat → Int32) (g3 : Nat → Int32) (sa : Int32) (wa : Int32), bs = [wc2, wp2, z] ∧ bCourse T h po o gw u0 u1 u2 u3 u4 u5 u6 u7 wc2 ∧ bPosts T po o g1 g2 g3 sa wa wp2 ∧ zP3 g1 g3) := by
  refine zMv_of (own := RX1) (by decide) rfl (Nat.le_of_ble_eq_true rfl) ?_
  intro p e s m args below meth c A ls C hr hlocks hnm hAe G hl
  refine zHide (fun Q9 hQ9 => ?_)
  have hx := C.1
  have hb := C.2.1
  have hl : lv_has ls 8 [(0, .ref h), (1, .ref o), (2, .int sd), (3, .int n)] := hl
  refine lv_aload_n hx hb dX1_draw_0 rfl (lv_at hl 0 rfl) ?_
  refine lv_aload_n hx hb dX1_draw_1 rfl (lv_at hl 1 rfl) ?_
  refine z_Vv (bc := [wc, wp, z]) (br := []) (As := [.ref o]) (rest := []) C G (c_Course_begin l T h po la fw v0 v1 v2 v3 v4 v5 v6 v7 wc lp f1 f2 f3 st wh wp o cr inn k1 k2 k3 k4 z hc hp hz (by first | with_reducible assumption | with_reducible rfl | omega | assumption | rfl)) (kV_RX1_59 C.2.2.2.2 (Nat.le_of_ble_eq_true rfl) (Nat.le_of_ble_eq_true rfl)) [0, 1, 2] [0, 0, 0] rfl rfl (ci := 1) (qc := (RX1, TX1, 11)) rfl rfl (List.mem_flatten.mpr ⟨_, List.mem_of_getElem? (i := 0) rfl, (bCourse_mem hc).choose_spec⟩) rfl rfl hl.1 dX1_draw_2 (Nat.le_of_ble_eq_true rfl) (Nat.le_of_ble_eq_true rfl) (fun b1 H locs hw G => ?_)
  refine zEx7 hw ?_
  intro wc2_1 gw_2 u6_3 wp2_4 g1_5 g2_6 g3_7
  refine zCu8 ?_
  intro hbs9 h_8 h_9 h_10 h_11 h_12 h_13 h_14
  clear hw
  subst hbs9
  have G : zS T A s.heap s [wc2_1, wp2_4, z] _ _ := G
  have hQ : zP3 g1_5 g3_7 := h_11
  have hcr := hI.1
  refine lv_aload_n hx hb dX1_draw_5 rfl (lv_at hl 0 rfl) ?_
  refine lv_iload_n hx hb dX1_draw_6 rfl (lv_at hl 2 rfl) ?_
  refine zEx1 h_8 ?_
  intro a1_16 hbs9
  clear h_8
  subst hbs9
  have G : zS T A s.heap s [[zO1 h po a1_16 0 o 0 0 (-1) 0 0 u6_3 v7], [zAr T 0 a1_16 7 gw_2], wp2_4, z] _ _ := G.re rfl
  refine z_put C G clX1 0 rfl 10 (by decide) m_fl_RX1_78 rfl rfl rfl (Nat.le_of_ble_eq_true rfl) dX1_draw_7 (fun H locs G => ?_)
  have G : zS T A s.heap s [[zO1 h po a1_16 0 o 0 0 (-1) 0 0 u6_3 sd], [zAr T 0 a1_16 7 gw_2], wp2_4, z] _ _ := G
  refine lv_iconst (v := 0) hx hb dX1_draw_10 (by decide) ?_
  refine lv_istore (lv' := [(4, .int 0), (0, .ref h), (1, .ref o), (2, .int sd), (3, .int n)]) hx hb dX1_draw_11 hl (by decide) rfl (fun ls hl => ?_)
  refine zEx3 h_9 ?_
  intro a1_17 a2_18 a3_19 hbs9
  clear h_9
  subst hbs9
  have G : zS T A s.heap s [[zO1 h po a1_16 0 o 0 0 (-1) 0 0 u6_3 sd], [zAr T 0 a1_16 7 gw_2], [zO6 po o a1_17 a2_18 0 0 a3_19], [zAr T 0 a1_17 7 g1_5], [zAr T 0 a2_18 7 g2_6], [zAr T 0 a3_19 7 g3_7], z] _ _ := G.re rfl
  refine zEx4 hz ?_
  intro a1_20 a2_21 a3_22 a4_23 hbs9
  clear hz
  subst hbs9
  have G : zS T A s.heap s [[zO1 h po a1_16 0 o 0 0 (-1) 0 0 u6_3 sd], [zAr T 0 a1_16 7 gw_2], [zO6 po o a1_17 a2_18 0 0 a3_19], [zAr T 0 a1_17 7 g1_5], [zAr T 0 a2_18 7 g2_6], [zAr T 0 a3_19 7 g3_7], [zO4 o cr inn a1_20 a2_21 a3_22 a4_23], [zAr T 0 a1_20 7 k1], [zAr T 0 a2_21 28 k2], [zAr T 0 a3_22 7 k3], [zAr T 0 a4_23 7 k4]] _ _ := G.re rfl
  have hw_24 : bCourse T h po o gw_2 0 0 0 (-1) 0 0 u6_3 sd [zO1 h po a1_16 0 o 0 0 (-1) 0 0 u6_3 sd, zAr T 0 a1_16 7 gw_2] := ⟨a1_16, rfl⟩
  have G : zS T A s.heap s [[zO1 h po a1_16 0 o 0 0 (-1) 0 0 u6_3 sd, zAr T 0 a1_16 7 gw_2], [zO6 po o a1_17 a2_18 0 0 a3_19], [zAr T 0 a1_17 7 g1_5], [zAr T 0 a2_18 7 g2_6], [zAr T 0 a3_19 7 g3_7], [zO4 o cr inn a1_20 a2_21 a3_22 a4_23], [zAr T 0 a1_20 7 k1], [zAr T 0 a2_21 28 k2], [zAr T 0 a3_22 7 k3], [zAr T 0 a4_23 7 k4]] _ _ := G.re rfl
  have hw_25 : bPosts T po o g1_5 g2_6 g3_7 0 0 [zO6 po o a1_17 a2_18 0 0 a3_19, zAr T 0 a1_17 7 g1_5, zAr T 0 a2_18 7 g2_6, zAr T 0 a3_19 7 g3_7] := ⟨a1_17, a2_18, a3_19, rfl⟩
  have G : zS T A s.heap s [[zO1 h po a1_16 0 o 0 0 (-1) 0 0 u6_3 sd, zAr T 0 a1_16 7 gw_2], [zO6 po o a1_17 a2_18 0 0 a3_19, zAr T 0 a1_17 7 g1_5, zAr T 0 a2_18 7 g2_6, zAr T 0 a3_19 7 g3_7], [zO4 o cr inn a1_20 a2_21 a3_22 a4_23], [zAr T 0 a1_20 7 k1], [zAr T 0 a2_21 28 k2], [zAr T 0 a3_22 7 k3], [zAr T 0 a4_23 7 k4]] _ _ := G.re rfl
  have hw_26 : bLand T o cr inn k1 k2 k3 k4 [zO4 o cr inn a1_20 a2_21 a3_22 a4_23, zAr T 0 a1_20 7 k1, zAr T 0 a2_21 28 k2, zAr T 0 a3_22 7 k3, zAr T 0 a4_23 7 k4] := ⟨a1_20, a2_21, a3_22, a4_23, rfl⟩
  have G : zS T A s.heap s [[zO1 h po a1_16 0 o 0 0 (-1) 0 0 u6_3 sd, zAr T 0 a1_16 7 gw_2], [zO6 po o a1_17 a2_18 0 0 a3_19, zAr T 0 a1_17 7 g1_5, zAr T 0 a2_18 7 g2_6, zAr T 0 a3_19 7 g3_7], [zO4 o cr inn a1_20 a2_21 a3_22 a4_23, zAr T 0 a1_20 7 k1, zAr T 0 a2_21 28 k2, zAr T 0 a3_22 7 k3, zAr T 0 a4_23 7 k4]] _ _ := G.re rfl
  refine z_lp16 (T := T) 13 (fun (i : Nat) (wc3 : va_W) (xw : Nat → Int32) (y0 : Int32) (y1 : Int32) (y2 : Int32) (y3 : Int32) (y4 : Int32) (y5 : Int32) (y6 : Int32) (y7 : Int32) (wp3 : va_W) (x1 : Nat → Int32) (x2 : Nat → Int32) (sb : Int32) (wb : Int32) => [wc3, wp3, [zO4 o cr inn a1_20 a2_21 a3_22 a4_23, zAr T 0 a1_20 7 k1, zAr T 0 a2_21 28 k2, zAr T 0 a3_22 7 k3, zAr T 0 a4_23 7 k4]]) (fun (i : Nat) (wc3 : va_W) (xw : Nat → Int32) (y0 : Int32) (y1 : Int32) (y2 : Int32) (y3 : Int32) (y4 : Int32) (y5 : Int32) (y6 : Int32) (y7 : Int32) (wp3 : va_W) (x1 : Nat → Int32) (x2 : Nat → Int32) (sb : Int32) (wb : Int32) => [(4, .int (nI i)), (0, .ref h), (1, .ref o), (2, .int sd), (3, .int n)]) (fun (i : Nat) (wc3 : va_W) (xw : Nat → Int32) (y0 : Int32) (y1 : Int32) (y2 : Int32) (y3 : Int32) (y4 : Int32) (y5 : Int32) (y6 : Int32) (y7 : Int32) (wp3 : va_W) (x1 : Nat → Int32) (x2 : Nat → Int32) (sb : Int32) (wb : Int32) => bCourse T h po o xw y0 y1 y2 y3 y4 y5 y6 y7 wc3 ∧ bPosts T po o x1 x2 g3_7 sb wb wp3 ∧ i ≤ 60 ∧ zP3 x1 g3_7) (fun (i : Nat) (wc3 : va_W) (xw : Nat → Int32) (y0 : Int32) (y1 : Int32) (y2 : Int32) (y3 : Int32) (y4 : Int32) (y5 : Int32) (y6 : Int32) (y7 : Int32) (wp3 : va_W) (x1 : Nat → Int32) (x2 : Nat → Int32) (sb : Int32) (wb : Int32) => 60 - i) ?_ 0 ([zO1 h po a1_16 0 o 0 0 (-1) 0 0 u6_3 sd, zAr T 0 a1_16 7 gw_2]) gw_2 0 0 0 (-1) 0 0 u6_3 sd ([zO6 po o a1_17 a2_18 0 0 a3_19, zAr T 0 a1_17 7 g1_5, zAr T 0 a2_18 7 g2_6, zAr T 0 a3_19 7 g3_7]) g1_5 g2_6 0 0 (show bCourse T h po o gw_2 0 0 0 (-1) 0 0 u6_3 sd ([zO1 h po a1_16 0 o 0 0 (-1) 0 0 u6_3 sd, zAr T 0 a1_16 7 gw_2]) ∧ bPosts T po o g1_5 g2_6 g3_7 0 0 ([zO6 po o a1_17 a2_18 0 0 a3_19, zAr T 0 a1_17 7 g1_5, zAr T 0 a2_18 7 g2_6, zAr T 0 a3_19 7 g3_7]) ∧ 0 ≤ 60 ∧ zP3 g1_5 g3_7 from ⟨hw_24, hw_25, by omega, hQ⟩) G (lv_sub hl [0, 1, 2, 3, 4] rfl)
  intro i wc3 xw y0 y1 y2 y3 y4 y5 y6 y7 wp3 x1 x2 sb wb hI9 ih_13 H locs ls G hl
  replace hI9 : bCourse T h po o xw y0 y1 y2 y3 y4 y5 y6 y7 wc3 ∧ bPosts T po o x1 x2 g3_7 sb wb wp3 ∧ i ≤ 60 ∧ zP3 x1 g3_7 := hI9
  refine zAn4 hI9 ?_
  intro hc3 hp3 hi hQx
  clear hI9
  replace G : zS T A s.heap s [wc3, wp3, [zO4 o cr inn a1_20 a2_21 a3_22 a4_23, zAr T 0 a1_20 7 k1, zAr T 0 a2_21 28 k2, zAr T 0 a3_22 7 k3, zAr T 0 a4_23 7 k4]] _ _ := G
  replace hl : lv_has ls 8 [(4, .int (nI i)), (0, .ref h), (1, .ref o), (2, .int sd), (3, .int n)] := hl
  refine lv_iload hx hb dX1_draw_13 (lv_at hl 0 rfl) ?_
  refine lv_iload_n hx hb dX1_draw_15 rfl (lv_at hl 4 rfl) ?_
  refine lv_icmp_ge (tgt := 97) hx hb dX1_draw_16 (by decide) (fun c_27 => ?_) (fun c_27 => ?_)
  · have c_27n : n.toInt ≤ (i : Int) := by have q := (fa_le _ _).mp c_27; rw [nI_toInt (n := i) (by omega)] at q; exact q
    exact z_back hQ9 (z_vret C hr hlocks G (Nat.le_of_ble_eq_true rfl) (Nat.le_of_ble_eq_true rfl) dX1_draw_97 ⟨wc3, xw, y0, y1, y2, y3, y4, y5, y6, y7, wp3, x1, x2, g3_7, sb, wb, rfl, hc3, hp3, hQx⟩)
  · have c_27n : ¬ n.toInt ≤ (i : Int) := fun q => c_27 ((fa_le _ _).mpr (by rw [nI_toInt (n := i) (by omega)]; exact q))
    refine lv_iload hx hb dX1_draw_19 (lv_at hl 0 rfl) ?_
    refine lv_bipush (v := 60) hx hb dX1_draw_21 (by decide) ?_
    refine lv_icmp_ge (tgt := 97) hx hb dX1_draw_23 (by decide) (fun c_28 => ?_) (fun c_28 => ?_)
    · have c_28n : 60 ≤ i := (nI_leI (a := 60) (b := i) (by omega) (by omega)).mp c_28
      exact z_back hQ9 (z_vret C hr hlocks G (Nat.le_of_ble_eq_true rfl) (Nat.le_of_ble_eq_true rfl) dX1_draw_97 ⟨wc3, xw, y0, y1, y2, y3, y4, y5, y6, y7, wp3, x1, x2, g3_7, sb, wb, rfl, hc3, hp3, hQx⟩)
    · have c_28n : ¬ 60 ≤ i := fun q => c_28 ((nI_leI (a := 60) (b := i) (by omega) (by omega)).mpr q)
      refine z_gstN C G G.2.2.2.2.2.2.2.1 (va_Nw.use rfl G.2.2.2.2.2.2.2.2.2.2.2.2) dX1_draw_26 ?_
      refine lv_aload_n hx hb dX1_draw_29 rfl (lv_at hl 1 rfl) ?_
      refine z_gstN C G G.2.2.2.2.2.2.2.1 (va_Nw.use rfl G.2.2.2.2.2.2.2.2.2.2.2.2) dX1_draw_30 ?_
      refine z_ddl C G dX1_draw_33 ?_
      refine z_Vi (bc := [wc3]) (br := [wp3, [zO4 o cr inn a1_20 a2_21 a3_22 a4_23, zAr T 0 a1_20 7 k1, zAr T 0 a2_21 28 k2, zAr T 0 a3_22 7 k3, zAr T 0 a4_23 7 k4]]) (As := [.int 10]) (rest := [.ref (T.2 300)]) C G (c_drawBelow l T h po o xw y0 y1 y2 y3 y4 y5 y6 y7 wc3 10 hc3 (by decide) (by decide)) (kV_RX1_84 C.2.2.2.2 (Nat.le_of_ble_eq_true rfl) (Nat.le_of_ble_eq_true rfl)) [0] [0] rfl rfl (ci := 1) (qc := (RX1, TX1, 11)) rfl rfl (List.mem_flatten.mpr ⟨_, List.mem_of_getElem? (i := 0) rfl, (bCourse_mem hc3).choose_spec⟩) rfl rfl hl.1 dX1_draw_34 (Nat.le_of_ble_eq_true rfl) (Nat.le_of_ble_eq_true rfl) (fun r_34 b1 H locs hw G => ?_)
      refine zEx2 hw ?_
      intro wc2_29 u7_30
      refine zCu4 ?_
      intro hbs9 h_31 h_32 h_33
      clear hw
      subst hbs9
      have G : zS T A s.heap s [wp3, [zO4 o cr inn a1_20 a2_21 a3_22 a4_23, zAr T 0 a1_20 7 k1, zAr T 0 a2_21 28 k2, zAr T 0 a3_22 7 k3, zAr T 0 a4_23 7 k4], wc2_29] _ _ := G
      have hr1 : r_34.toInt < 10 := h_33
      refine z_ddi C G (vp_in_iff.mpr ⟨by omega, by omega⟩) dX1_draw_37 ?_
      refine lv_istore (lv' := [(5, .int (zDD.getD r_34.toNatClampNeg 0)), (4, .int (nI i)), (0, .ref h), (1, .ref o), (2, .int sd), (3, .int n)]) hx hb dX1_draw_38 hl (by decide) rfl (fun ls hl => ?_)
      refine lv_aload_n hx hb dX1_draw_40 rfl (lv_at hl 3 rfl) ?_
      have G : zS T A s.heap s [wp3, [zO4 o cr inn a1_20 a2_21 a3_22 a4_23], [zAr T 0 a1_20 7 k1], [zAr T 0 a2_21 28 k2], [zAr T 0 a3_22 7 k3], [zAr T 0 a4_23 7 k4], wc2_29] _ _ := G.re rfl
      refine z_get C G clX4 1 rfl 0 (by decide) m_fl_RX1_88 rfl dX1_draw_41 ?_
      refine lv_if_le (tgt := 91) hx hb dX1_draw_44 (by decide) (fun c_35 => ?_) (fun c_35 => ?_)
      · have c_35n : cr.toInt ≤ (0 : Int) := (fa_le _ _).mp c_35
        refine lv_iinc (v := nI (i + 1)) (lv' := [(4, .int (nI (i + 1))), (5, .int (zDD.getD r_34.toNatClampNeg 0)), (0, .ref h), (1, .ref o), (2, .int sd), (3, .int n)]) hx hb dX1_draw_91 hl (k := 1) rfl (z_inc i 1) (by decide) rfl (fun ls hl => ?_)
        refine lv_goto (tgt := 13) hx hb dX1_draw_94 (by decide) ?_
        have hw_36 : bLand T o cr inn k1 k2 k3 k4 [zO4 o cr inn a1_20 a2_21 a3_22 a4_23, zAr T 0 a1_20 7 k1, zAr T 0 a2_21 28 k2, zAr T 0 a3_22 7 k3, zAr T 0 a4_23 7 k4] := ⟨a1_20, a2_21, a3_22, a4_23, rfl⟩
        have G : zS T A s.heap s [wp3, [zO4 o cr inn a1_20 a2_21 a3_22 a4_23, zAr T 0 a1_20 7 k1, zAr T 0 a2_21 28 k2, zAr T 0 a3_22 7 k3, zAr T 0 a4_23 7 k4], wc2_29] _ _ := G.re rfl
        have G := G.sub (bs' := [wc2_29, wp3, [zO4 o cr inn a1_20 a2_21 a3_22 a4_23, zAr T 0 a1_20 7 k1, zAr T 0 a2_21 28 k2, zAr T 0 a3_22 7 k3, zAr T 0 a4_23 7 k4]]) [2, 0, 1] rfl
        exact ih_13 (i + 1) wc2_29 xw y0 y1 y2 y3 y4 y5 y6 u7_30 wp3 x1 x2 sb wb (show bCourse T h po o xw y0 y1 y2 y3 y4 y5 y6 u7_30 wc2_29 ∧ bPosts T po o x1 x2 g3_7 sb wb wp3 ∧ (i + 1) ≤ 60 ∧ zP3 x1 g3_7 from ⟨h_31, hp3, by omega, (by first | exact hQ2 | exact hQx)⟩) (show 60 - (i + 1) < 60 - i from by omega) _ _ ls G (lv_sub hl [0, 2, 3, 4, 5] rfl)
      · have c_35n : ¬ cr.toInt ≤ (0 : Int) := fun q => c_35 ((fa_le _ _).mpr q)
        refine lv_aload_n hx hb dX1_draw_47 rfl (lv_at hl 2 rfl) ?_
        refine lv_aload_n hx hb dX1_draw_48 rfl (lv_at hl 3 rfl) ?_
        refine z_get C G clX4 1 rfl 0 (by decide) m_fl_RX1_88 rfl dX1_draw_49 ?_
        refine z_Vi (bc := [wc2_29]) (br := [wp3, [zO4 o cr inn a1_20 a2_21 a3_22 a4_23], [zAr T 0 a1_20 7 k1], [zAr T 0 a2_21 28 k2], [zAr T 0 a3_22 7 k3], [zAr T 0 a4_23 7 k4]]) (As := [.int cr]) (rest := []) C G (c_drawBelow l T h po o xw y0 y1 y2 y3 y4 y5 y6 u7_30 wc2_29 cr h_31 (by omega) (by omega)) (kV_RX1_84 C.2.2.2.2 (Nat.le_of_ble_eq_true rfl) (Nat.le_of_ble_eq_true rfl)) [6] [6] rfl rfl (ci := 1) (qc := (RX1, TX1, 11)) rfl rfl (List.mem_flatten.mpr ⟨_, List.mem_of_getElem? (i := 0) rfl, (bCourse_mem h_31).choose_spec⟩) rfl rfl hl.1 dX1_draw_52 (Nat.le_of_ble_eq_true rfl) (Nat.le_of_ble_eq_true rfl) (fun r_42 b1 H locs hw G => ?_)
        refine zEx2 hw ?_
        intro wc2_37 u7_38
        refine zCu4 ?_
        intro hbs9 h_39 h_40 h_41
        clear hw
        subst hbs9
        have G : zS T A s.heap s [wp3, [zO4 o cr inn a1_20 a2_21 a3_22 a4_23], [zAr T 0 a1_20 7 k1], [zAr T 0 a2_21 28 k2], [zAr T 0 a3_22 7 k3], [zAr T 0 a4_23 7 k4], wc2_37] _ _ := G
        refine lv_istore (lv' := [(6, .int r_42), (5, .int (zDD.getD r_34.toNatClampNeg 0)), (4, .int (nI i)), (0, .ref h), (1, .ref o), (2, .int sd), (3, .int n)]) hx hb dX1_draw_55 hl (by decide) rfl (fun ls hl => ?_)
        refine lv_iload hx hb dX1_draw_57 (lv_at hl 1 rfl) ?_
        refine lv_iconst (v := 4) hx hb dX1_draw_59 (by decide) ?_
        refine lv_icmp_eq (tgt := 69) hx hb dX1_draw_60 (by decide) (fun c_43 => ?_) (fun c_43 => ?_)
        · have c_43n : (zDD.getD r_34.toNatClampNeg 0).toInt = (4 : Int) := (fa_eq _ _).mp c_43
          refine lv_aload_n hx hb dX1_draw_69 rfl (lv_at hl 3 rfl) ?_
          refine lv_iconst (v := 4) hx hb dX1_draw_70 (by decide) ?_
          refine z_Vi (bc := [wc2_37]) (br := [wp3, [zO4 o cr inn a1_20 a2_21 a3_22 a4_23], [zAr T 0 a1_20 7 k1], [zAr T 0 a2_21 28 k2], [zAr T 0 a3_22 7 k3], [zAr T 0 a4_23 7 k4]]) (As := [.int 4]) (rest := []) C G (c_drawBelow l T h po o xw y0 y1 y2 y3 y4 y5 y6 u7_38 wc2_37 4 h_39 (by decide) (by decide)) (kV_RX1_84 C.2.2.2.2 (Nat.le_of_ble_eq_true rfl) (Nat.le_of_ble_eq_true rfl)) [6] [6] rfl rfl (ci := 1) (qc := (RX1, TX1, 11)) rfl rfl (List.mem_flatten.mpr ⟨_, List.mem_of_getElem? (i := 0) rfl, (bCourse_mem h_39).choose_spec⟩) rfl rfl hl.1 dX1_draw_71 (Nat.le_of_ble_eq_true rfl) (Nat.le_of_ble_eq_true rfl) (fun r_49 b1 H locs hw G => ?_)
          refine zEx2 hw ?_
          intro wc2_44 u7_45
          refine zCu4 ?_
          intro hbs9 h_46 h_47 h_48
          clear hw
          subst hbs9
          have G : zS T A s.heap s [wp3, [zO4 o cr inn a1_20 a2_21 a3_22 a4_23], [zAr T 0 a1_20 7 k1], [zAr T 0 a2_21 28 k2], [zAr T 0 a3_22 7 k3], [zAr T 0 a4_23 7 k4], wc2_44] _ _ := G
          refine lv_goto (tgt := 78) hx hb dX1_draw_74 (by decide) ?_
          refine lv_istore (lv' := [(7, .int r_49), (6, .int r_42), (5, .int (zDD.getD r_34.toNatClampNeg 0)), (4, .int (nI i)), (0, .ref h), (1, .ref o), (2, .int sd), (3, .int n)]) hx hb dX1_draw_78 hl (by decide) rfl (fun ls hl => ?_)
          refine lv_aload_n hx hb dX1_draw_80 rfl (lv_at hl 4 rfl) ?_
          refine lv_iload hx hb dX1_draw_81 (lv_at hl 2 rfl) ?_
          refine lv_iload hx hb dX1_draw_83 (lv_at hl 1 rfl) ?_
          refine lv_iload hx hb dX1_draw_85 (lv_at hl 0 rfl) ?_
          have hw_50 : bLand T o cr inn k1 k2 k3 k4 [zO4 o cr inn a1_20 a2_21 a3_22 a4_23, zAr T 0 a1_20 7 k1, zAr T 0 a2_21 28 k2, zAr T 0 a3_22 7 k3, zAr T 0 a4_23 7 k4] := ⟨a1_20, a2_21, a3_22, a4_23, rfl⟩
          have G : zS T A s.heap s [wp3, [zO4 o cr inn a1_20 a2_21 a3_22 a4_23, zAr T 0 a1_20 7 k1, zAr T 0 a2_21 28 k2, zAr T 0 a3_22 7 k3, zAr T 0 a4_23 7 k4], wc2_44] _ _ := G.re rfl
          refine z_Vi (bc := [wc2_44, wp3, [zO4 o cr inn a1_20 a2_21 a3_22 a4_23, zAr T 0 a1_20 7 k1, zAr T 0 a2_21 28 k2, zAr T 0 a3_22 7 k3, zAr T 0 a4_23 7 k4]]) (br := []) (As := [.int (zDD.getD r_34.toNatClampNeg 0), .int r_42, .int r_49]) (rest := []) C G (c_does l T h po o xw y0 y1 y2 y3 y4 y5 y6 u7_45 wc2_44 x1 x2 g3_7 sb wb wp3 cr inn k1 k2 k3 k4 ([zO4 o cr inn a1_20 a2_21 a3_22 a4_23, zAr T 0 a1_20 7 k1, zAr T 0 a2_21 28 k2, zAr T 0 a3_22 7 k3, zAr T 0 a4_23 7 k4]) (zDD.getD r_34.toNatClampNeg 0) r_42 r_49 h_46 hp3 hw_50 hQx hI) (kV_RX1_74 C.2.2.2.2 (Nat.le_of_ble_eq_true rfl) (Nat.le_of_ble_eq_true rfl)) [2, 0, 1] [0, 0, 0] rfl rfl (ci := 1) (qc := (RX1, TX1, 11)) rfl rfl (List.mem_flatten.mpr ⟨_, List.mem_of_getElem? (i := 0) rfl, (bCourse_mem h_46).choose_spec⟩) rfl rfl hl.1 dX1_draw_87 (Nat.le_of_ble_eq_true rfl) (Nat.le_of_ble_eq_true rfl) (fun r_70 b1 H locs hw G => ?_)
          refine zEx15 hw ?_
          intro wc2_51 gw_52 u0_53 u1_54 u2_55 u3_56 u4_57 u5_58 u6_59 u7_60 wp2_61 g1_62 g2_63 sa_64 wa_65
          refine zCu5 ?_
          intro hbs9 h_66 h_67 h_68 h_69
          clear hw
          subst hbs9
          have G : zS T A s.heap s [wc2_51, wp2_61, [zO4 o cr inn a1_20 a2_21 a3_22 a4_23, zAr T 0 a1_20 7 k1, zAr T 0 a2_21 28 k2, zAr T 0 a3_22 7 k3, zAr T 0 a4_23 7 k4]] _ _ := G
          replace h_69 : zHd ((r_70 = 0 ∨ r_70 = 1)) := h_69
          have hQ2 : zP3 g1_62 g3_7 := h_68
          refine lv_pop hx hb dX1_draw_90 rfl ?_
          refine lv_iinc (v := nI (i + 1)) (lv' := [(4, .int (nI (i + 1))), (7, .int r_49), (6, .int r_42), (5, .int (zDD.getD r_34.toNatClampNeg 0)), (0, .ref h), (1, .ref o), (2, .int sd), (3, .int n)]) hx hb dX1_draw_91 hl (k := 3) rfl (z_inc i 1) (by decide) rfl (fun ls hl => ?_)
          refine lv_goto (tgt := 13) hx hb dX1_draw_94 (by decide) ?_
          exact ih_13 (i + 1) wc2_51 gw_52 u0_53 u1_54 u2_55 u3_56 u4_57 u5_58 u6_59 u7_60 wp2_61 g1_62 g2_63 sa_64 wa_65 (show bCourse T h po o gw_52 u0_53 u1_54 u2_55 u3_56 u4_57 u5_58 u6_59 u7_60 wc2_51 ∧ bPosts T po o g1_62 g2_63 g3_7 sa_64 wa_65 wp2_61 ∧ (i + 1) ≤ 60 ∧ zP3 g1_62 g3_7 from ⟨h_66, h_67, by omega, (by first | exact hQ2 | exact hQx)⟩) (show 60 - (i + 1) < 60 - i from by omega) _ _ ls G (lv_sub hl [0, 4, 5, 6, 7] rfl)
        · have c_43n : ¬ (zDD.getD r_34.toNatClampNeg 0).toInt = (4 : Int) := fun q => c_43 ((fa_eq _ _).mpr q)
          refine lv_iload hx hb dX1_draw_63 (lv_at hl 1 rfl) ?_
          refine lv_iconst (v := 5) hx hb dX1_draw_65 (by decide) ?_
          refine lv_icmp_ne (tgt := 77) hx hb dX1_draw_66 (by decide) (fun c_71 => ?_) (fun c_71 => ?_)
          · have c_71n : ¬ (zDD.getD r_34.toNatClampNeg 0).toInt = (5 : Int) := fun q => c_71 ((fa_eq _ _).mpr q)
            refine lv_iconst (v := (-1)) hx hb dX1_draw_77 (by decide) ?_
            refine lv_istore (lv' := [(7, .int (-1)), (6, .int r_42), (5, .int (zDD.getD r_34.toNatClampNeg 0)), (4, .int (nI i)), (0, .ref h), (1, .ref o), (2, .int sd), (3, .int n)]) hx hb dX1_draw_78 hl (by decide) rfl (fun ls hl => ?_)
            refine lv_aload_n hx hb dX1_draw_80 rfl (lv_at hl 4 rfl) ?_
            refine lv_iload hx hb dX1_draw_81 (lv_at hl 2 rfl) ?_
            refine lv_iload hx hb dX1_draw_83 (lv_at hl 1 rfl) ?_
            refine lv_iload hx hb dX1_draw_85 (lv_at hl 0 rfl) ?_
            have hw_72 : bLand T o cr inn k1 k2 k3 k4 [zO4 o cr inn a1_20 a2_21 a3_22 a4_23, zAr T 0 a1_20 7 k1, zAr T 0 a2_21 28 k2, zAr T 0 a3_22 7 k3, zAr T 0 a4_23 7 k4] := ⟨a1_20, a2_21, a3_22, a4_23, rfl⟩
            have G : zS T A s.heap s [wp3, [zO4 o cr inn a1_20 a2_21 a3_22 a4_23, zAr T 0 a1_20 7 k1, zAr T 0 a2_21 28 k2, zAr T 0 a3_22 7 k3, zAr T 0 a4_23 7 k4], wc2_37] _ _ := G.re rfl
            refine z_Vi (bc := [wc2_37, wp3, [zO4 o cr inn a1_20 a2_21 a3_22 a4_23, zAr T 0 a1_20 7 k1, zAr T 0 a2_21 28 k2, zAr T 0 a3_22 7 k3, zAr T 0 a4_23 7 k4]]) (br := []) (As := [.int (zDD.getD r_34.toNatClampNeg 0), .int r_42, .int (-1)]) (rest := []) C G (c_does l T h po o xw y0 y1 y2 y3 y4 y5 y6 u7_38 wc2_37 x1 x2 g3_7 sb wb wp3 cr inn k1 k2 k3 k4 ([zO4 o cr inn a1_20 a2_21 a3_22 a4_23, zAr T 0 a1_20 7 k1, zAr T 0 a2_21 28 k2, zAr T 0 a3_22 7 k3, zAr T 0 a4_23 7 k4]) (zDD.getD r_34.toNatClampNeg 0) r_42 (-1) h_39 hp3 hw_72 hQx hI) (kV_RX1_74 C.2.2.2.2 (Nat.le_of_ble_eq_true rfl) (Nat.le_of_ble_eq_true rfl)) [2, 0, 1] [0, 0, 0] rfl rfl (ci := 1) (qc := (RX1, TX1, 11)) rfl rfl (List.mem_flatten.mpr ⟨_, List.mem_of_getElem? (i := 0) rfl, (bCourse_mem h_39).choose_spec⟩) rfl rfl hl.1 dX1_draw_87 (Nat.le_of_ble_eq_true rfl) (Nat.le_of_ble_eq_true rfl) (fun r_92 b1 H locs hw G => ?_)
            refine zEx15 hw ?_
            intro wc2_73 gw_74 u0_75 u1_76 u2_77 u3_78 u4_79 u5_80 u6_81 u7_82 wp2_83 g1_84 g2_85 sa_86 wa_87
            refine zCu5 ?_
            intro hbs9 h_88 h_89 h_90 h_91
            clear hw
            subst hbs9
            have G : zS T A s.heap s [wc2_73, wp2_83, [zO4 o cr inn a1_20 a2_21 a3_22 a4_23, zAr T 0 a1_20 7 k1, zAr T 0 a2_21 28 k2, zAr T 0 a3_22 7 k3, zAr T 0 a4_23 7 k4]] _ _ := G
            replace h_91 : zHd ((r_92 = 0 ∨ r_92 = 1)) := h_91
            have hQ2 : zP3 g1_84 g3_7 := h_90
            refine lv_pop hx hb dX1_draw_90 rfl ?_
            refine lv_iinc (v := nI (i + 1)) (lv' := [(4, .int (nI (i + 1))), (7, .int (-1)), (6, .int r_42), (5, .int (zDD.getD r_34.toNatClampNeg 0)), (0, .ref h), (1, .ref o), (2, .int sd), (3, .int n)]) hx hb dX1_draw_91 hl (k := 3) rfl (z_inc i 1) (by decide) rfl (fun ls hl => ?_)
            refine lv_goto (tgt := 13) hx hb dX1_draw_94 (by decide) ?_
            exact ih_13 (i + 1) wc2_73 gw_74 u0_75 u1_76 u2_77 u3_78 u4_79 u5_80 u6_81 u7_82 wp2_83 g1_84 g2_85 sa_86 wa_87 (show bCourse T h po o gw_74 u0_75 u1_76 u2_77 u3_78 u4_79 u5_80 u6_81 u7_82 wc2_73 ∧ bPosts T po o g1_84 g2_85 g3_7 sa_86 wa_87 wp2_83 ∧ (i + 1) ≤ 60 ∧ zP3 g1_84 g3_7 from ⟨h_88, h_89, by omega, (by first | exact hQ2 | exact hQx)⟩) (show 60 - (i + 1) < 60 - i from by omega) _ _ ls G (lv_sub hl [0, 4, 5, 6, 7] rfl)
          · have c_71n : (zDD.getD r_34.toNatClampNeg 0).toInt = (5 : Int) := (fa_eq _ _).mp c_71
            refine lv_aload_n hx hb dX1_draw_69 rfl (lv_at hl 3 rfl) ?_
            refine lv_iconst (v := 4) hx hb dX1_draw_70 (by decide) ?_
            refine z_Vi (bc := [wc2_37]) (br := [wp3, [zO4 o cr inn a1_20 a2_21 a3_22 a4_23], [zAr T 0 a1_20 7 k1], [zAr T 0 a2_21 28 k2], [zAr T 0 a3_22 7 k3], [zAr T 0 a4_23 7 k4]]) (As := [.int 4]) (rest := []) C G (c_drawBelow l T h po o xw y0 y1 y2 y3 y4 y5 y6 u7_38 wc2_37 4 h_39 (by decide) (by decide)) (kV_RX1_84 C.2.2.2.2 (Nat.le_of_ble_eq_true rfl) (Nat.le_of_ble_eq_true rfl)) [6] [6] rfl rfl (ci := 1) (qc := (RX1, TX1, 11)) rfl rfl (List.mem_flatten.mpr ⟨_, List.mem_of_getElem? (i := 0) rfl, (bCourse_mem h_39).choose_spec⟩) rfl rfl hl.1 dX1_draw_71 (Nat.le_of_ble_eq_true rfl) (Nat.le_of_ble_eq_true rfl) (fun r_98 b1 H locs hw G => ?_)
            refine zEx2 hw ?_
            intro wc2_93 u7_94
            refine zCu4 ?_
            intro hbs9 h_95 h_96 h_97
            clear hw
            subst hbs9
            have G : zS T A s.heap s [wp3, [zO4 o cr inn a1_20 a2_21 a3_22 a4_23], [zAr T 0 a1_20 7 k1], [zAr T 0 a2_21 28 k2], [zAr T 0 a3_22 7 k3], [zAr T 0 a4_23 7 k4], wc2_93] _ _ := G
            refine lv_goto (tgt := 78) hx hb dX1_draw_74 (by decide) ?_
            refine lv_istore (lv' := [(7, .int r_98), (6, .int r_42), (5, .int (zDD.getD r_34.toNatClampNeg 0)), (4, .int (nI i)), (0, .ref h), (1, .ref o), (2, .int sd), (3, .int n)]) hx hb dX1_draw_78 hl (by decide) rfl (fun ls hl => ?_)
            refine lv_aload_n hx hb dX1_draw_80 rfl (lv_at hl 4 rfl) ?_
            refine lv_iload hx hb dX1_draw_81 (lv_at hl 2 rfl) ?_
            refine lv_iload hx hb dX1_draw_83 (lv_at hl 1 rfl) ?_
            refine lv_iload hx hb dX1_draw_85 (lv_at hl 0 rfl) ?_
            have hw_99 : bLand T o cr inn k1 k2 k3 k4 [zO4 o cr inn a1_20 a2_21 a3_22 a4_23, zAr T 0 a1_20 7 k1, zAr T 0 a2_21 28 k2, zAr T 0 a3_22 7 k3, zAr T 0 a4_23 7 k4] := ⟨a1_20, a2_21, a3_22, a4_23, rfl⟩
            have G : zS T A s.heap s [wp3, [zO4 o cr inn a1_20 a2_21 a3_22 a4_23, zAr T 0 a1_20 7 k1, zAr T 0 a2_21 28 k2, zAr T 0 a3_22 7 k3, zAr T 0 a4_23 7 k4], wc2_93] _ _ := G.re rfl
            refine z_Vi (bc := [wc2_93, wp3, [zO4 o cr inn a1_20 a2_21 a3_22 a4_23, zAr T 0 a1_20 7 k1, zAr T 0 a2_21 28 k2, zAr T 0 a3_22 7 k3, zAr T 0 a4_23 7 k4]]) (br := []) (As := [.int (zDD.getD r_34.toNatClampNeg 0), .int r_42, .int r_98]) (rest := []) C G (c_does l T h po o xw y0 y1 y2 y3 y4 y5 y6 u7_94 wc2_93 x1 x2 g3_7 sb wb wp3 cr inn k1 k2 k3 k4 ([zO4 o cr inn a1_20 a2_21 a3_22 a4_23, zAr T 0 a1_20 7 k1, zAr T 0 a2_21 28 k2, zAr T 0 a3_22 7 k3, zAr T 0 a4_23 7 k4]) (zDD.getD r_34.toNatClampNeg 0) r_42 r_98 h_95 hp3 hw_99 hQx hI) (kV_RX1_74 C.2.2.2.2 (Nat.le_of_ble_eq_true rfl) (Nat.le_of_ble_eq_true rfl)) [2, 0, 1] [0, 0, 0] rfl rfl (ci := 1) (qc := (RX1, TX1, 11)) rfl rfl (List.mem_flatten.mpr ⟨_, List.mem_of_getElem? (i := 0) rfl, (bCourse_mem h_95).choose_spec⟩) rfl rfl hl.1 dX1_draw_87 (Nat.le_of_ble_eq_true rfl) (Nat.le_of_ble_eq_true rfl) (fun r_119 b1 H locs hw G => ?_)
            refine zEx15 hw ?_
            intro wc2_100 gw_101 u0_102 u1_103 u2_104 u3_105 u4_106 u5_107 u6_108 u7_109 wp2_110 g1_111 g2_112 sa_113 wa_114
            refine zCu5 ?_
            intro hbs9 h_115 h_116 h_117 h_118
            clear hw
            subst hbs9
            have G : zS T A s.heap s [wc2_100, wp2_110, [zO4 o cr inn a1_20 a2_21 a3_22 a4_23, zAr T 0 a1_20 7 k1, zAr T 0 a2_21 28 k2, zAr T 0 a3_22 7 k3, zAr T 0 a4_23 7 k4]] _ _ := G
            replace h_118 : zHd ((r_119 = 0 ∨ r_119 = 1)) := h_118
            have hQ2 : zP3 g1_111 g3_7 := h_117
            refine lv_pop hx hb dX1_draw_90 rfl ?_
            refine lv_iinc (v := nI (i + 1)) (lv' := [(4, .int (nI (i + 1))), (7, .int r_98), (6, .int r_42), (5, .int (zDD.getD r_34.toNatClampNeg 0)), (0, .ref h), (1, .ref o), (2, .int sd), (3, .int n)]) hx hb dX1_draw_91 hl (k := 3) rfl (z_inc i 1) (by decide) rfl (fun ls hl => ?_)
            refine lv_goto (tgt := 13) hx hb dX1_draw_94 (by decide) ?_
            exact ih_13 (i + 1) wc2_100 gw_101 u0_102 u1_103 u2_104 u3_105 u4_106 u5_107 u6_108 u7_109 wp2_110 g1_111 g2_112 sa_113 wa_114 (show bCourse T h po o gw_101 u0_102 u1_103 u2_104 u3_105 u4_106 u5_107 u6_108 u7_109 wc2_100 ∧ bPosts T po o g1_111 g2_112 g3_7 sa_113 wa_114 wp2_110 ∧ (i + 1) ≤ 60 ∧ zP3 g1_111 g3_7 from ⟨h_115, h_116, by omega, (by first | exact hQ2 | exact hQx)⟩) (show 60 - (i + 1) < 60 - i from by omega) _ _ ls G (lv_sub hl [0, 4, 5, 6, 7] rfl)
theorem m_fl_RX7_55 : Cond.fieldLink RX7 55 (TX7 11).1 (TX7 11).2.1 (TX7 11).2.2.1 ∈ zT := zmem1 zsub_1 187 rfl rfl
theorem m_fl_RX7_49 : Cond.fieldLink RX7 49 (TX7 3).1 (TX7 3).2.1 (TX7 3).2.2.1 ∈ zT := zmem1 zsub_1 177 rfl rfl
theorem m_fl_RX7_84 : Cond.fieldLink RX7 84 (TX7 9).1 (TX7 9).2.1 (TX7 9).2.2.1 ∈ zT := zmem1 zsub_1 185 rfl rfl
theorem m_fl_RX7_52 : Cond.fieldLink RX7 52 (TX7 4).1 (TX7 4).2.1 (TX7 4).2.2.1 ∈ zT := zmem1 zsub_1 179 rfl rfl
theorem m_fl_RX7_59 : Cond.fieldLink RX7 59 (TX7 12).1 (TX7 12).2.1 (TX7 12).2.2.1 ∈ zT := zmem1 zsub_1 188 rfl rfl
theorem m_fl_RX7_74 : Cond.fieldLink RX7 74 (TX7 8).1 (TX7 8).2.1 (TX7 8).2.2.1 ∈ zT := zmem1 zsub_1 184 rfl rfl
theorem m_fl_RX7_46 : Cond.fieldLink RX7 46 (TX7 7).1 (TX7 7).2.1 (TX7 7).2.2.1 ∈ zT := zmem1 zsub_1 183 rfl rfl
theorem m_fl_RX7_42 : Cond.fieldLink RX7 42 (TX7 6).1 (TX7 6).2.1 (TX7 6).2.2.1 ∈ zT := zmem1 zsub_1 182 rfl rfl
theorem m_co_X7_isLetter : Cond.code yX7_isLetter cX7_isLetter 1 (some .boolean) ∈ zT := zmem1 zsub_3 10 rfl rfl
theorem m_ml_RX7_148 : Cond.methodLink RX7 148 yX7_isLetter ∈ zT := zmem1 zsub_3 8 rfl rfl
theorem m_st_X7_isLetter : Cond.static yX7_isLetter ∈ zT := zmem1 zsub_3 9 rfl rfl
theorem m_ii_RX7 : Cond.initialized RX7 ∈ zT := zmem1 zsub_1 6 rfl rfl
theorem m_fl_RX7_141 : Cond.fieldLink RX7 141 (TX7 10).1 (TX7 10).2.1 (TX7 10).2.2.1 ∈ zT := zmem1 zsub_1 186 rfl rfl
theorem m_co_X7_isDigit : Cond.code yX7_isDigit cX7_isDigit 1 (some .boolean) ∈ zT := zmem1 zsub_3 17 rfl rfl
theorem m_ml_RX7_154 : Cond.methodLink RX7 154 yX7_isDigit ∈ zT := zmem1 zsub_3 15 rfl rfl
theorem m_st_X7_isDigit : Cond.static yX7_isDigit ∈ zT := zmem1 zsub_3 16 rfl rfl
theorem m_ml_RX7_36 : Cond.methodLink RX7 36 Lib.Math.min.name ∈ zT := zmem1 zsub_2 234 rfl rfl
theorem m_co_X7_takeLetters : Cond.code yX7_takeLetters cX7_takeLetters 1 none ∈ zT := zmem1 zsub_3 14 rfl rfl
theorem m_ml_RX7_151 : Cond.methodLink RX7 151 yX7_takeLetters ∈ zT := zmem1 zsub_3 11 rfl rfl
theorem m_im_X7_takeLetters : Cond.instanceMethod yX7_takeLetters ∈ zT := zmem1 zsub_3 13 rfl rfl
theorem m_se_X7_takeLetters : Cond.selects RX7 yX7_takeLetters yX7_takeLetters ∈ zT := zmem 1 rfl rfl
theorem m_co_X7_takeDigits : Cond.code yX7_takeDigits cX7_takeDigits 1 none ∈ zT := zmem1 zsub_3 21 rfl rfl
theorem m_ml_RX7_157 : Cond.methodLink RX7 157 yX7_takeDigits ∈ zT := zmem1 zsub_3 18 rfl rfl
theorem m_im_X7_takeDigits : Cond.instanceMethod yX7_takeDigits ∈ zT := zmem1 zsub_3 20 rfl rfl
theorem m_se_X7_takeDigits : Cond.selects RX7 yX7_takeDigits yX7_takeDigits ∈ zT := zmem 2 rfl rfl
theorem m_co_X7_isBlank : Cond.code yX7_isBlank cX7_isBlank 1 (some .boolean) ∈ zT := zmem1 zsub_3 7 rfl rfl
theorem m_ml_RX7_144 : Cond.methodLink RX7 144 yX7_isBlank ∈ zT := zmem1 zsub_3 5 rfl rfl
theorem m_st_X7_isBlank : Cond.static yX7_isBlank ∈ zT := zmem1 zsub_3 6 rfl rfl
theorem m_co_X7_breakHere : Cond.code yX7_breakHere cX7_breakHere 1 none ∈ zT := zmem1 zsub_3 97 rfl rfl
theorem m_ml_RX7_105 : Cond.methodLink RX7 105 yX7_breakHere ∈ zT := zmem1 zsub_3 94 rfl rfl
theorem m_im_X7_breakHere : Cond.instanceMethod yX7_breakHere ∈ zT := zmem1 zsub_3 96 rfl rfl
theorem m_se_X7_breakHere : Cond.selects RX7 yX7_breakHere yX7_breakHere ∈ zT := zmem 6 rfl rfl
theorem m_co_X7_nextToken : Cond.code yX7_nextToken cX7_nextToken 2 none ∈ zT := zmem1 zsub_3 4 rfl rfl
theorem m_ml_RX7_71 : Cond.methodLink RX7 71 yX7_nextToken ∈ zT := zmem1 zsub_3 1 rfl rfl
theorem m_im_X7_nextToken : Cond.instanceMethod yX7_nextToken ∈ zT := zmem1 zsub_3 3 rfl rfl
theorem m_se_X7_nextToken : Cond.selects RX7 yX7_nextToken yX7_nextToken ∈ zT := zmem 0 rfl rfl
theorem m_co_X7_note : Cond.code yX7_note cX7_note 3 none ∈ zT := zmem1 zsub_3 105 rfl rfl
theorem m_ml_RX7_90 : Cond.methodLink RX7 90 yX7_note ∈ zT := zmem1 zsub_3 102 rfl rfl
theorem m_im_X7_note : Cond.instanceMethod yX7_note ∈ zT := zmem1 zsub_3 104 rfl rfl
theorem m_se_X7_note : Cond.selects RX7 yX7_note yX7_note ∈ zT := zmem 8 rfl rfl
theorem m_co_J0_length_8abf5 : Cond.code yJ0_length_8abf5 cJ0_length_8abf5 1 (some .int) ∈ zT := zmem1 zsub_3 38 rfl rfl
theorem m_ml_RX7_185 : Cond.methodLink RX7 185 yJ0_length_8abf5 ∈ zT := zmem1 zsub_3 35 rfl rfl
theorem m_im_J0_length_8abf5 : Cond.instanceMethod yJ0_length_8abf5 ∈ zT := zmem1 zsub_3 36 rfl rfl
theorem m_se_J0_length_8abf5 : Cond.selects RJ0 yJ0_length_8abf5 yJ0_length_8abf5 ∈ zT := zmem1 zsub_3 37 rfl rfl
theorem m_co_J0_charAt_5068e : Cond.code yJ0_charAt_5068e cJ0_charAt_5068e 2 (some .char) ∈ zT := zmem1 zsub_3 48 rfl rfl
theorem m_ml_RX7_190 : Cond.methodLink RX7 190 yJ0_charAt_5068e ∈ zT := zmem1 zsub_3 45 rfl rfl
theorem m_im_J0_charAt_5068e : Cond.instanceMethod yJ0_charAt_5068e ∈ zT := zmem1 zsub_3 46 rfl rfl
theorem m_se_J0_charAt_5068e : Cond.selects RJ0 yJ0_charAt_5068e yJ0_charAt_5068e ∈ zT := zmem1 zsub_3 47 rfl rfl
theorem m_co_X7_reads : Cond.code yX7_reads cX7_reads 3 (some .boolean) ∈ zT := zmem1 zsub_3 34 rfl rfl
theorem m_ml_RX7_162 : Cond.methodLink RX7 162 yX7_reads ∈ zT := zmem1 zsub_3 31 rfl rfl
theorem m_im_X7_reads : Cond.instanceMethod yX7_reads ∈ zT := zmem1 zsub_3 33 rfl rfl
theorem m_se_X7_reads : Cond.selects RX7 yX7_reads yX7_reads ∈ zT := zmem 5 rfl rfl
theorem kS_RX7_148 {R : Room} {s : State} {args : Array Value} {d mc ms : Nat} (hts : ∀ w ∈ zT, w.before args s = true) (h1 : d + 1 ≤ R.frames) (h2 : 8 + (1 + 11) + 40 * d ≤ R.locals) : CallB R s args RX7 148 yX7_isLetter cX7_isLetter 1 (some .boolean) (zW yX7_isLetter cX7_isLetter 1 (some .boolean)) (zR d mc ms) mc ms 1 ∧ (Cond.static yX7_isLetter).before args s = true := z_cwS hts m_co_X7_isLetter m_ml_RX7_148 m_st_X7_isLetter m_ii_RX7 (by decide +kernel) h1 h2
theorem kS_RX7_154 {R : Room} {s : State} {args : Array Value} {d mc ms : Nat} (hts : ∀ w ∈ zT, w.before args s = true) (h1 : d + 1 ≤ R.frames) (h2 : 8 + (1 + 11) + 40 * d ≤ R.locals) : CallB R s args RX7 154 yX7_isDigit cX7_isDigit 1 (some .boolean) (zW yX7_isDigit cX7_isDigit 1 (some .boolean)) (zR d mc ms) mc ms 1 ∧ (Cond.static yX7_isDigit).before args s = true := z_cwS hts m_co_X7_isDigit m_ml_RX7_154 m_st_X7_isDigit m_ii_RX7 (by decide +kernel) h1 h2
theorem kV_RX7_151 {R : Room} {s : State} {args : Array Value} {d mc ms : Nat} (hts : ∀ w ∈ zT, w.before args s = true) (h1 : d + 1 ≤ R.frames) (h2 : 8 + (1 + 11) + 40 * d ≤ R.locals) : CallW R s args RX7 RX7 151 yX7_takeLetters cX7_takeLetters 1 none (zW yX7_takeLetters cX7_takeLetters 1 none) (zR d mc ms) mc ms 0 := z_cwV hts m_co_X7_takeLetters m_ml_RX7_151 m_im_X7_takeLetters m_se_X7_takeLetters m_ii_RX7 (by decide +kernel) h1 h2
theorem kV_RX7_157 {R : Room} {s : State} {args : Array Value} {d mc ms : Nat} (hts : ∀ w ∈ zT, w.before args s = true) (h1 : d + 1 ≤ R.frames) (h2 : 8 + (1 + 11) + 40 * d ≤ R.locals) : CallW R s args RX7 RX7 157 yX7_takeDigits cX7_takeDigits 1 none (zW yX7_takeDigits cX7_takeDigits 1 none) (zR d mc ms) mc ms 0 := z_cwV hts m_co_X7_takeDigits m_ml_RX7_157 m_im_X7_takeDigits m_se_X7_takeDigits m_ii_RX7 (by decide +kernel) h1 h2
theorem kS_RX7_144 {R : Room} {s : State} {args : Array Value} {d mc ms : Nat} (hts : ∀ w ∈ zT, w.before args s = true) (h1 : d + 1 ≤ R.frames) (h2 : 8 + (1 + 11) + 40 * d ≤ R.locals) : CallB R s args RX7 144 yX7_isBlank cX7_isBlank 1 (some .boolean) (zW yX7_isBlank cX7_isBlank 1 (some .boolean)) (zR d mc ms) mc ms 1 ∧ (Cond.static yX7_isBlank).before args s = true := z_cwS hts m_co_X7_isBlank m_ml_RX7_144 m_st_X7_isBlank m_ii_RX7 (by decide +kernel) h1 h2
theorem kV_RX7_105 {R : Room} {s : State} {args : Array Value} {d mc ms : Nat} (hts : ∀ w ∈ zT, w.before args s = true) (h1 : d + 1 ≤ R.frames) (h2 : 8 + (1 + 11) + 40 * d ≤ R.locals) : CallW R s args RX7 RX7 105 yX7_breakHere cX7_breakHere 1 none (zW yX7_breakHere cX7_breakHere 1 none) (zR d mc ms) mc ms 0 := z_cwV hts m_co_X7_breakHere m_ml_RX7_105 m_im_X7_breakHere m_se_X7_breakHere m_ii_RX7 (by decide +kernel) h1 h2
theorem kV_RX7_71 {R : Room} {s : State} {args : Array Value} {d mc ms : Nat} (hts : ∀ w ∈ zT, w.before args s = true) (h1 : d + 1 ≤ R.frames) (h2 : 8 + (2 + 11) + 40 * d ≤ R.locals) : CallW R s args RX7 RX7 71 yX7_nextToken cX7_nextToken 2 none (zW yX7_nextToken cX7_nextToken 2 none) (zR d mc ms) mc ms 0 := z_cwV hts m_co_X7_nextToken m_ml_RX7_71 m_im_X7_nextToken m_se_X7_nextToken m_ii_RX7 (by decide +kernel) h1 h2
theorem kV_RX7_90 {R : Room} {s : State} {args : Array Value} {d mc ms : Nat} (hts : ∀ w ∈ zT, w.before args s = true) (h1 : d + 1 ≤ R.frames) (h2 : 8 + (3 + 11) + 40 * d ≤ R.locals) : CallW R s args RX7 RX7 90 yX7_note cX7_note 3 none (zW yX7_note cX7_note 3 none) (zR d mc ms) mc ms 2 := z_cwV hts m_co_X7_note m_ml_RX7_90 m_im_X7_note m_se_X7_note m_ii_RX7 (by decide +kernel) h1 h2
theorem kV_RX7_185 {R : Room} {s : State} {args : Array Value} {d mc ms : Nat} (hts : ∀ w ∈ zT, w.before args s = true) (h1 : d + 1 ≤ R.frames) (h2 : 8 + (1 + 11) + 40 * d ≤ R.locals) : CallW R s args RX7 RJ0 185 yJ0_length_8abf5 cJ0_length_8abf5 1 (some .int) (zW yJ0_length_8abf5 cJ0_length_8abf5 1 (some .int)) (zR d mc ms) mc ms 0 := z_cwV hts m_co_J0_length_8abf5 m_ml_RX7_185 m_im_J0_length_8abf5 m_se_J0_length_8abf5 m_ii_RJ0 (by decide +kernel) h1 h2
theorem kV_RX7_190 {R : Room} {s : State} {args : Array Value} {d mc ms : Nat} (hts : ∀ w ∈ zT, w.before args s = true) (h1 : d + 1 ≤ R.frames) (h2 : 8 + (2 + 11) + 40 * d ≤ R.locals) : CallW R s args RX7 RJ0 190 yJ0_charAt_5068e cJ0_charAt_5068e 2 (some .char) (zW yJ0_charAt_5068e cJ0_charAt_5068e 2 (some .char)) (zR d mc ms) mc ms 1 := z_cwV hts m_co_J0_charAt_5068e m_ml_RX7_190 m_im_J0_charAt_5068e m_se_J0_charAt_5068e m_ii_RJ0 (by decide +kernel) h1 h2
theorem kV_RX7_162 {R : Room} {s : State} {args : Array Value} {d mc ms : Nat} (hts : ∀ w ∈ zT, w.before args s = true) (h1 : d + 1 ≤ R.frames) (h2 : 8 + (3 + 11) + 40 * d ≤ R.locals) : CallW R s args RX7 RX7 162 yX7_reads cX7_reads 3 (some .boolean) (zW yX7_reads cX7_reads 3 (some .boolean)) (zR d mc ms) mc ms 1 := z_cwV hts m_co_X7_reads m_ml_RX7_162 m_im_X7_reads m_se_X7_reads m_ii_RX7 (by decide +kernel) h1 h2
theorem dX7_isBlank_0 : decode cX7_isBlank 0 = .ok (.iload_n 0, 1) := zo_26 (by decide +kernel)
theorem dX7_isBlank_1 : decode cX7_isBlank 1 = .ok (.bipush 10, 2) := zo_16 (by decide +kernel)
theorem dX7_isBlank_3 : decode cX7_isBlank 3 = .ok (.if_icmp .eq 9, 3) := zo_159 (by decide +kernel)
theorem dX7_isBlank_6 : decode cX7_isBlank 6 = .ok (.iload_n 0, 1) := zo_26 (by decide +kernel)
theorem dX7_isBlank_7 : decode cX7_isBlank 7 = .ok (.bipush 32, 2) := zo_16 (by decide +kernel)
theorem dX7_isBlank_9 : decode cX7_isBlank 9 = .ok (.if_icmp .ne 7, 3) := zo_160 (by decide +kernel)
theorem dX7_isBlank_12 : decode cX7_isBlank 12 = .ok (.iconst 1, 1) := zo_4 (by decide +kernel)
theorem dX7_isBlank_13 : decode cX7_isBlank 13 = .ok (.goto 4, 3) := zo_167 (by decide +kernel)
theorem dX7_isBlank_16 : decode cX7_isBlank 16 = .ok (.iconst 0, 1) := zo_3 (by decide +kernel)
theorem dX7_isBlank_17 : decode cX7_isBlank 17 = .ok (.ireturn, 1) := zo_172 (by decide +kernel)
theorem dX7_isLetter_0 : decode cX7_isLetter 0 = .ok (.iload_n 0, 1) := zo_26 (by decide +kernel)
theorem dX7_isLetter_1 : decode cX7_isLetter 1 = .ok (.bipush 97, 2) := zo_16 (by decide +kernel)
theorem dX7_isLetter_3 : decode cX7_isLetter 3 = .ok (.if_icmp .lt 13, 3) := zo_161 (by decide +kernel)
theorem dX7_isLetter_6 : decode cX7_isLetter 6 = .ok (.iload_n 0, 1) := zo_26 (by decide +kernel)
theorem dX7_isLetter_7 : decode cX7_isLetter 7 = .ok (.bipush 122, 2) := zo_16 (by decide +kernel)
theorem dX7_isLetter_9 : decode cX7_isLetter 9 = .ok (.if_icmp .gt 7, 3) := zo_163 (by decide +kernel)
theorem dX7_isLetter_12 : decode cX7_isLetter 12 = .ok (.iconst 1, 1) := zo_4 (by decide +kernel)
theorem dX7_isLetter_13 : decode cX7_isLetter 13 = .ok (.goto 4, 3) := zo_167 (by decide +kernel)
theorem dX7_isLetter_16 : decode cX7_isLetter 16 = .ok (.iconst 0, 1) := zo_3 (by decide +kernel)
theorem dX7_isLetter_17 : decode cX7_isLetter 17 = .ok (.ireturn, 1) := zo_172 (by decide +kernel)
theorem dX7_isDigit_0 : decode cX7_isDigit 0 = .ok (.iload_n 0, 1) := zo_26 (by decide +kernel)
theorem dX7_isDigit_1 : decode cX7_isDigit 1 = .ok (.bipush 48, 2) := zo_16 (by decide +kernel)
theorem dX7_isDigit_3 : decode cX7_isDigit 3 = .ok (.if_icmp .lt 13, 3) := zo_161 (by decide +kernel)
theorem dX7_isDigit_6 : decode cX7_isDigit 6 = .ok (.iload_n 0, 1) := zo_26 (by decide +kernel)
theorem dX7_isDigit_7 : decode cX7_isDigit 7 = .ok (.bipush 57, 2) := zo_16 (by decide +kernel)
theorem dX7_isDigit_9 : decode cX7_isDigit 9 = .ok (.if_icmp .gt 7, 3) := zo_163 (by decide +kernel)
theorem dX7_isDigit_12 : decode cX7_isDigit 12 = .ok (.iconst 1, 1) := zo_4 (by decide +kernel)
theorem dX7_isDigit_13 : decode cX7_isDigit 13 = .ok (.goto 4, 3) := zo_167 (by decide +kernel)
theorem dX7_isDigit_16 : decode cX7_isDigit 16 = .ok (.iconst 0, 1) := zo_3 (by decide +kernel)
theorem dX7_isDigit_17 : decode cX7_isDigit 17 = .ok (.ireturn, 1) := zo_172 (by decide +kernel)
theorem dX7_breakHere_0 : decode cX7_breakHere 0 = .ok (.aload_n 0, 1) := zo_42 (by decide +kernel)
theorem dX7_breakHere_1 : decode cX7_breakHere 1 = .ok (.getfield 55, 3) := zo_180 (by decide +kernel)
theorem dX7_breakHere_4 : decode cX7_breakHere 4 = .ok (.ifCond .ne 21, 3) := zo_154 (by decide +kernel)
theorem dX7_breakHere_7 : decode cX7_breakHere 7 = .ok (.aload_n 0, 1) := zo_42 (by decide +kernel)
theorem dX7_breakHere_8 : decode cX7_breakHere 8 = .ok (.iconst 1, 1) := zo_4 (by decide +kernel)
theorem dX7_breakHere_9 : decode cX7_breakHere 9 = .ok (.putfield 55, 3) := zo_181 (by decide +kernel)
theorem dX7_breakHere_12 : decode cX7_breakHere 12 = .ok (.aload_n 0, 1) := zo_42 (by decide +kernel)
theorem dX7_breakHere_13 : decode cX7_breakHere 13 = .ok (.iconst 1, 1) := zo_4 (by decide +kernel)
theorem dX7_breakHere_14 : decode cX7_breakHere 14 = .ok (.putfield 49, 3) := zo_181 (by decide +kernel)
theorem dX7_breakHere_17 : decode cX7_breakHere 17 = .ok (.aload_n 0, 1) := zo_42 (by decide +kernel)
theorem dX7_breakHere_18 : decode cX7_breakHere 18 = .ok (.aload_n 0, 1) := zo_42 (by decide +kernel)
theorem dX7_breakHere_19 : decode cX7_breakHere 19 = .ok (.getfield 84, 3) := zo_180 (by decide +kernel)
theorem dX7_breakHere_22 : decode cX7_breakHere 22 = .ok (.putfield 52, 3) := zo_181 (by decide +kernel)
theorem dX7_breakHere_25 : decode cX7_breakHere 25 = .ok (.return_, 1) := zo_177 (by decide +kernel)
theorem dX7_note_0 : decode cX7_note 0 = .ok (.aload_n 0, 1) := zo_42 (by decide +kernel)
theorem dX7_note_1 : decode cX7_note 1 = .ok (.getfield 49, 3) := zo_180 (by decide +kernel)
theorem dX7_note_4 : decode cX7_note 4 = .ok (.ifCond .ne 13, 3) := zo_154 (by decide +kernel)
theorem dX7_note_7 : decode cX7_note 7 = .ok (.aload_n 0, 1) := zo_42 (by decide +kernel)
theorem dX7_note_8 : decode cX7_note 8 = .ok (.iload_n 1, 1) := zo_27 (by decide +kernel)
theorem dX7_note_9 : decode cX7_note 9 = .ok (.putfield 49, 3) := zo_181 (by decide +kernel)
theorem dX7_note_12 : decode cX7_note 12 = .ok (.aload_n 0, 1) := zo_42 (by decide +kernel)
theorem dX7_note_13 : decode cX7_note 13 = .ok (.iload_n 2, 1) := zo_28 (by decide +kernel)
theorem dX7_note_14 : decode cX7_note 14 = .ok (.putfield 52, 3) := zo_181 (by decide +kernel)
theorem dX7_note_17 : decode cX7_note 17 = .ok (.return_, 1) := zo_177 (by decide +kernel)
theorem dX7_tellOf_0 : decode cX7_tellOf 0 = .ok (.iload_n 1, 1) := zo_27 (by decide +kernel)
theorem dX7_tellOf_1 : decode cX7_tellOf 1 = .ok (.ifCond .lt 21, 3) := zo_155 (by decide +kernel)
theorem dX7_tellOf_4 : decode cX7_tellOf 4 = .ok (.iload_n 1, 1) := zo_27 (by decide +kernel)
theorem dX7_tellOf_5 : decode cX7_tellOf 5 = .ok (.bipush 7, 2) := zo_16 (by decide +kernel)
theorem dX7_tellOf_7 : decode cX7_tellOf 7 = .ok (.if_icmp .ge 15, 3) := zo_162 (by decide +kernel)
theorem dX7_tellOf_10 : decode cX7_tellOf 10 = .ok (.aload_n 0, 1) := zo_42 (by decide +kernel)
theorem dX7_tellOf_11 : decode cX7_tellOf 11 = .ok (.dup, 1) := zo_89 (by decide +kernel)
theorem dX7_tellOf_12 : decode cX7_tellOf 12 = .ok (.getfield 59, 3) := zo_180 (by decide +kernel)
theorem dX7_tellOf_15 : decode cX7_tellOf 15 = .ok (.iconst 1, 1) := zo_4 (by decide +kernel)
theorem dX7_tellOf_16 : decode cX7_tellOf 16 = .ok (.iload_n 1, 1) := zo_27 (by decide +kernel)
theorem dX7_tellOf_17 : decode cX7_tellOf 17 = .ok (.ishl, 1) := zo_120 (by decide +kernel)
theorem dX7_tellOf_18 : decode cX7_tellOf 18 = .ok (.ior, 1) := zo_128 (by decide +kernel)
theorem dX7_tellOf_19 : decode cX7_tellOf 19 = .ok (.putfield 59, 3) := zo_181 (by decide +kernel)
theorem dX7_tellOf_22 : decode cX7_tellOf 22 = .ok (.return_, 1) := zo_177 (by decide +kernel)
theorem dX7_takeLetters_0 : decode cX7_takeLetters 0 = .ok (.aload_n 0, 1) := zo_42 (by decide +kernel)
theorem dX7_takeLetters_1 : decode cX7_takeLetters 1 = .ok (.iconst 1, 1) := zo_4 (by decide +kernel)
theorem dX7_takeLetters_2 : decode cX7_takeLetters 2 = .ok (.putfield 74, 3) := zo_181 (by decide +kernel)
theorem dX7_takeLetters_5 : decode cX7_takeLetters 5 = .ok (.aload_n 0, 1) := zo_42 (by decide +kernel)
theorem dX7_takeLetters_6 : decode cX7_takeLetters 6 = .ok (.getfield 46, 3) := zo_180 (by decide +kernel)
theorem dX7_takeLetters_9 : decode cX7_takeLetters 9 = .ok (.aload_n 0, 1) := zo_42 (by decide +kernel)
theorem dX7_takeLetters_10 : decode cX7_takeLetters 10 = .ok (.getfield 42, 3) := zo_180 (by decide +kernel)
theorem dX7_takeLetters_13 : decode cX7_takeLetters 13 = .ok (.if_icmp .ge 31, 3) := zo_162 (by decide +kernel)
theorem dX7_takeLetters_16 : decode cX7_takeLetters 16 = .ok (.aload_n 0, 1) := zo_42 (by decide +kernel)
theorem dX7_takeLetters_17 : decode cX7_takeLetters 17 = .ok (.getfield 32, 3) := zo_180 (by decide +kernel)
theorem dX7_takeLetters_20 : decode cX7_takeLetters 20 = .ok (.aload_n 0, 1) := zo_42 (by decide +kernel)
theorem dX7_takeLetters_21 : decode cX7_takeLetters 21 = .ok (.getfield 46, 3) := zo_180 (by decide +kernel)
theorem dX7_takeLetters_24 : decode cX7_takeLetters 24 = .ok (.baload, 1) := zo_51 (by decide +kernel)
theorem dX7_takeLetters_25 : decode cX7_takeLetters 25 = .ok (.invokestatic 148, 3) := zo_184 (by decide +kernel)
theorem dX7_takeLetters_28 : decode cX7_takeLetters 28 = .ok (.ifCond .eq 16, 3) := zo_153 (by decide +kernel)
theorem dX7_takeLetters_31 : decode cX7_takeLetters 31 = .ok (.aload_n 0, 1) := zo_42 (by decide +kernel)
theorem dX7_takeLetters_32 : decode cX7_takeLetters 32 = .ok (.dup, 1) := zo_89 (by decide +kernel)
theorem dX7_takeLetters_33 : decode cX7_takeLetters 33 = .ok (.getfield 46, 3) := zo_180 (by decide +kernel)
theorem dX7_takeLetters_36 : decode cX7_takeLetters 36 = .ok (.iconst 1, 1) := zo_4 (by decide +kernel)
theorem dX7_takeLetters_37 : decode cX7_takeLetters 37 = .ok (.iadd, 1) := zo_96 (by decide +kernel)
theorem dX7_takeLetters_38 : decode cX7_takeLetters 38 = .ok (.putfield 46, 3) := zo_181 (by decide +kernel)
theorem dX7_takeLetters_41 : decode cX7_takeLetters 41 = .ok (.goto (-36), 3) := zo_167 (by decide +kernel)
theorem dX7_takeLetters_44 : decode cX7_takeLetters 44 = .ok (.return_, 1) := zo_177 (by decide +kernel)
theorem dX7_takeDigits_0 : decode cX7_takeDigits 0 = .ok (.aload_n 0, 1) := zo_42 (by decide +kernel)
theorem dX7_takeDigits_1 : decode cX7_takeDigits 1 = .ok (.iconst 0, 1) := zo_3 (by decide +kernel)
theorem dX7_takeDigits_2 : decode cX7_takeDigits 2 = .ok (.putfield 141, 3) := zo_181 (by decide +kernel)
theorem dX7_takeDigits_5 : decode cX7_takeDigits 5 = .ok (.aload_n 0, 1) := zo_42 (by decide +kernel)
theorem dX7_takeDigits_6 : decode cX7_takeDigits 6 = .ok (.getfield 46, 3) := zo_180 (by decide +kernel)
theorem dX7_takeDigits_9 : decode cX7_takeDigits 9 = .ok (.aload_n 0, 1) := zo_42 (by decide +kernel)
theorem dX7_takeDigits_10 : decode cX7_takeDigits 10 = .ok (.getfield 42, 3) := zo_180 (by decide +kernel)
theorem dX7_takeDigits_13 : decode cX7_takeDigits 13 = .ok (.if_icmp .ge 61, 3) := zo_162 (by decide +kernel)
theorem dX7_takeDigits_16 : decode cX7_takeDigits 16 = .ok (.aload_n 0, 1) := zo_42 (by decide +kernel)
theorem dX7_takeDigits_17 : decode cX7_takeDigits 17 = .ok (.getfield 32, 3) := zo_180 (by decide +kernel)
theorem dX7_takeDigits_20 : decode cX7_takeDigits 20 = .ok (.aload_n 0, 1) := zo_42 (by decide +kernel)
theorem dX7_takeDigits_21 : decode cX7_takeDigits 21 = .ok (.getfield 46, 3) := zo_180 (by decide +kernel)
theorem dX7_takeDigits_24 : decode cX7_takeDigits 24 = .ok (.baload, 1) := zo_51 (by decide +kernel)
theorem dX7_takeDigits_25 : decode cX7_takeDigits 25 = .ok (.invokestatic 154, 3) := zo_184 (by decide +kernel)
theorem dX7_takeDigits_28 : decode cX7_takeDigits 28 = .ok (.ifCond .eq 46, 3) := zo_153 (by decide +kernel)
theorem dX7_takeDigits_31 : decode cX7_takeDigits 31 = .ok (.aload_n 0, 1) := zo_42 (by decide +kernel)
theorem dX7_takeDigits_32 : decode cX7_takeDigits 32 = .ok (.aload_n 0, 1) := zo_42 (by decide +kernel)
theorem dX7_takeDigits_33 : decode cX7_takeDigits 33 = .ok (.getfield 141, 3) := zo_180 (by decide +kernel)
theorem dX7_takeDigits_36 : decode cX7_takeDigits 36 = .ok (.bipush 10, 2) := zo_16 (by decide +kernel)
theorem dX7_takeDigits_38 : decode cX7_takeDigits 38 = .ok (.imul, 1) := zo_104 (by decide +kernel)
theorem dX7_takeDigits_39 : decode cX7_takeDigits 39 = .ok (.aload_n 0, 1) := zo_42 (by decide +kernel)
theorem dX7_takeDigits_40 : decode cX7_takeDigits 40 = .ok (.getfield 32, 3) := zo_180 (by decide +kernel)
theorem dX7_takeDigits_43 : decode cX7_takeDigits 43 = .ok (.aload_n 0, 1) := zo_42 (by decide +kernel)
theorem dX7_takeDigits_44 : decode cX7_takeDigits 44 = .ok (.getfield 46, 3) := zo_180 (by decide +kernel)
theorem dX7_takeDigits_47 : decode cX7_takeDigits 47 = .ok (.baload, 1) := zo_51 (by decide +kernel)
theorem dX7_takeDigits_48 : decode cX7_takeDigits 48 = .ok (.iadd, 1) := zo_96 (by decide +kernel)
theorem dX7_takeDigits_49 : decode cX7_takeDigits 49 = .ok (.bipush 48, 2) := zo_16 (by decide +kernel)
theorem dX7_takeDigits_51 : decode cX7_takeDigits 51 = .ok (.isub, 1) := zo_100 (by decide +kernel)
theorem dX7_takeDigits_52 : decode cX7_takeDigits 52 = .ok (.sipush 1000, 3) := zo_17 (by decide +kernel)
theorem dX7_takeDigits_55 : decode cX7_takeDigits 55 = .ok (.invokestatic 36, 3) := zo_184 (by decide +kernel)
theorem dX7_takeDigits_58 : decode cX7_takeDigits 58 = .ok (.putfield 141, 3) := zo_181 (by decide +kernel)
theorem dX7_takeDigits_61 : decode cX7_takeDigits 61 = .ok (.aload_n 0, 1) := zo_42 (by decide +kernel)
theorem dX7_takeDigits_62 : decode cX7_takeDigits 62 = .ok (.dup, 1) := zo_89 (by decide +kernel)
theorem dX7_takeDigits_63 : decode cX7_takeDigits 63 = .ok (.getfield 46, 3) := zo_180 (by decide +kernel)
theorem dX7_takeDigits_66 : decode cX7_takeDigits 66 = .ok (.iconst 1, 1) := zo_4 (by decide +kernel)
theorem dX7_takeDigits_67 : decode cX7_takeDigits 67 = .ok (.iadd, 1) := zo_96 (by decide +kernel)
theorem dX7_takeDigits_68 : decode cX7_takeDigits 68 = .ok (.putfield 46, 3) := zo_181 (by decide +kernel)
theorem dX7_takeDigits_71 : decode cX7_takeDigits 71 = .ok (.goto (-66), 3) := zo_167 (by decide +kernel)
theorem dX7_takeDigits_74 : decode cX7_takeDigits 74 = .ok (.aload_n 0, 1) := zo_42 (by decide +kernel)
theorem dX7_takeDigits_75 : decode cX7_takeDigits 75 = .ok (.aload_n 0, 1) := zo_42 (by decide +kernel)
theorem dX7_takeDigits_76 : decode cX7_takeDigits 76 = .ok (.getfield 46, 3) := zo_180 (by decide +kernel)
theorem dX7_takeDigits_79 : decode cX7_takeDigits 79 = .ok (.aload_n 0, 1) := zo_42 (by decide +kernel)
theorem dX7_takeDigits_80 : decode cX7_takeDigits 80 = .ok (.getfield 84, 3) := zo_180 (by decide +kernel)
theorem dX7_takeDigits_83 : decode cX7_takeDigits 83 = .ok (.isub, 1) := zo_100 (by decide +kernel)
theorem dX7_takeDigits_84 : decode cX7_takeDigits 84 = .ok (.iconst 2, 1) := zo_5 (by decide +kernel)
theorem dX7_takeDigits_85 : decode cX7_takeDigits 85 = .ok (.if_icmp .gt 7, 3) := zo_163 (by decide +kernel)
theorem dX7_takeDigits_88 : decode cX7_takeDigits 88 = .ok (.iconst 2, 1) := zo_5 (by decide +kernel)
theorem dX7_takeDigits_89 : decode cX7_takeDigits 89 = .ok (.goto 4, 3) := zo_167 (by decide +kernel)
theorem dX7_takeDigits_92 : decode cX7_takeDigits 92 = .ok (.iconst 4, 1) := zo_7 (by decide +kernel)
theorem dX7_takeDigits_93 : decode cX7_takeDigits 93 = .ok (.putfield 74, 3) := zo_181 (by decide +kernel)
theorem dX7_takeDigits_96 : decode cX7_takeDigits 96 = .ok (.return_, 1) := zo_177 (by decide +kernel)
theorem dX7_nextToken_0 : decode cX7_nextToken 0 = .ok (.aload_n 0, 1) := zo_42 (by decide +kernel)
theorem dX7_nextToken_1 : decode cX7_nextToken 1 = .ok (.getfield 46, 3) := zo_180 (by decide +kernel)
theorem dX7_nextToken_4 : decode cX7_nextToken 4 = .ok (.istore_n 1, 1) := zo_60 (by decide +kernel)
theorem dX7_nextToken_5 : decode cX7_nextToken 5 = .ok (.iload_n 1, 1) := zo_27 (by decide +kernel)
theorem dX7_nextToken_6 : decode cX7_nextToken 6 = .ok (.aload_n 0, 1) := zo_42 (by decide +kernel)
theorem dX7_nextToken_7 : decode cX7_nextToken 7 = .ok (.getfield 42, 3) := zo_180 (by decide +kernel)
theorem dX7_nextToken_10 : decode cX7_nextToken 10 = .ok (.if_icmp .ge 28, 3) := zo_162 (by decide +kernel)
theorem dX7_nextToken_13 : decode cX7_nextToken 13 = .ok (.aload_n 0, 1) := zo_42 (by decide +kernel)
theorem dX7_nextToken_14 : decode cX7_nextToken 14 = .ok (.getfield 32, 3) := zo_180 (by decide +kernel)
theorem dX7_nextToken_17 : decode cX7_nextToken 17 = .ok (.iload_n 1, 1) := zo_27 (by decide +kernel)
theorem dX7_nextToken_18 : decode cX7_nextToken 18 = .ok (.baload, 1) := zo_51 (by decide +kernel)
theorem dX7_nextToken_19 : decode cX7_nextToken 19 = .ok (.invokestatic 144, 3) := zo_184 (by decide +kernel)
theorem dX7_nextToken_22 : decode cX7_nextToken 22 = .ok (.ifCond .eq 16, 3) := zo_153 (by decide +kernel)
theorem dX7_nextToken_25 : decode cX7_nextToken 25 = .ok (.aload_n 0, 1) := zo_42 (by decide +kernel)
theorem dX7_nextToken_26 : decode cX7_nextToken 26 = .ok (.iload_n 1, 1) := zo_27 (by decide +kernel)
theorem dX7_nextToken_27 : decode cX7_nextToken 27 = .ok (.iconst 1, 1) := zo_4 (by decide +kernel)
theorem dX7_nextToken_28 : decode cX7_nextToken 28 = .ok (.iadd, 1) := zo_96 (by decide +kernel)
theorem dX7_nextToken_29 : decode cX7_nextToken 29 = .ok (.putfield 46, 3) := zo_181 (by decide +kernel)
theorem dX7_nextToken_32 : decode cX7_nextToken 32 = .ok (.iinc 1 1, 3) := zo_132 (by decide +kernel)
theorem dX7_nextToken_35 : decode cX7_nextToken 35 = .ok (.goto (-30), 3) := zo_167 (by decide +kernel)
theorem dX7_nextToken_38 : decode cX7_nextToken 38 = .ok (.aload_n 0, 1) := zo_42 (by decide +kernel)
theorem dX7_nextToken_39 : decode cX7_nextToken 39 = .ok (.aload_n 0, 1) := zo_42 (by decide +kernel)
theorem dX7_nextToken_40 : decode cX7_nextToken 40 = .ok (.getfield 46, 3) := zo_180 (by decide +kernel)
theorem dX7_nextToken_43 : decode cX7_nextToken 43 = .ok (.putfield 84, 3) := zo_181 (by decide +kernel)
theorem dX7_nextToken_46 : decode cX7_nextToken 46 = .ok (.aload_n 0, 1) := zo_42 (by decide +kernel)
theorem dX7_nextToken_47 : decode cX7_nextToken 47 = .ok (.getfield 46, 3) := zo_180 (by decide +kernel)
theorem dX7_nextToken_50 : decode cX7_nextToken 50 = .ok (.aload_n 0, 1) := zo_42 (by decide +kernel)
theorem dX7_nextToken_51 : decode cX7_nextToken 51 = .ok (.getfield 42, 3) := zo_180 (by decide +kernel)
theorem dX7_nextToken_54 : decode cX7_nextToken 54 = .ok (.if_icmp .lt 11, 3) := zo_161 (by decide +kernel)
theorem dX7_nextToken_57 : decode cX7_nextToken 57 = .ok (.aload_n 0, 1) := zo_42 (by decide +kernel)
theorem dX7_nextToken_58 : decode cX7_nextToken 58 = .ok (.iconst 0, 1) := zo_3 (by decide +kernel)
theorem dX7_nextToken_59 : decode cX7_nextToken 59 = .ok (.putfield 74, 3) := zo_181 (by decide +kernel)
theorem dX7_nextToken_62 : decode cX7_nextToken 62 = .ok (.goto 80, 3) := zo_167 (by decide +kernel)
theorem dX7_nextToken_65 : decode cX7_nextToken 65 = .ok (.aload_n 0, 1) := zo_42 (by decide +kernel)
theorem dX7_nextToken_66 : decode cX7_nextToken 66 = .ok (.getfield 32, 3) := zo_180 (by decide +kernel)
theorem dX7_nextToken_69 : decode cX7_nextToken 69 = .ok (.aload_n 0, 1) := zo_42 (by decide +kernel)
theorem dX7_nextToken_70 : decode cX7_nextToken 70 = .ok (.getfield 46, 3) := zo_180 (by decide +kernel)
theorem dX7_nextToken_73 : decode cX7_nextToken 73 = .ok (.baload, 1) := zo_51 (by decide +kernel)
theorem dX7_nextToken_74 : decode cX7_nextToken 74 = .ok (.invokestatic 148, 3) := zo_184 (by decide +kernel)
theorem dX7_nextToken_77 : decode cX7_nextToken 77 = .ok (.ifCond .eq 10, 3) := zo_153 (by decide +kernel)
theorem dX7_nextToken_80 : decode cX7_nextToken 80 = .ok (.aload_n 0, 1) := zo_42 (by decide +kernel)
theorem dX7_nextToken_81 : decode cX7_nextToken 81 = .ok (.invokevirtual 151, 3) := zo_182 (by decide +kernel)
theorem dX7_nextToken_84 : decode cX7_nextToken 84 = .ok (.goto 58, 3) := zo_167 (by decide +kernel)
theorem dX7_nextToken_87 : decode cX7_nextToken 87 = .ok (.aload_n 0, 1) := zo_42 (by decide +kernel)
theorem dX7_nextToken_88 : decode cX7_nextToken 88 = .ok (.getfield 32, 3) := zo_180 (by decide +kernel)
theorem dX7_nextToken_91 : decode cX7_nextToken 91 = .ok (.aload_n 0, 1) := zo_42 (by decide +kernel)
theorem dX7_nextToken_92 : decode cX7_nextToken 92 = .ok (.getfield 46, 3) := zo_180 (by decide +kernel)
theorem dX7_nextToken_95 : decode cX7_nextToken 95 = .ok (.baload, 1) := zo_51 (by decide +kernel)
theorem dX7_nextToken_96 : decode cX7_nextToken 96 = .ok (.invokestatic 154, 3) := zo_184 (by decide +kernel)
theorem dX7_nextToken_99 : decode cX7_nextToken 99 = .ok (.ifCond .eq 10, 3) := zo_153 (by decide +kernel)
theorem dX7_nextToken_102 : decode cX7_nextToken 102 = .ok (.aload_n 0, 1) := zo_42 (by decide +kernel)
theorem dX7_nextToken_103 : decode cX7_nextToken 103 = .ok (.invokevirtual 157, 3) := zo_182 (by decide +kernel)
theorem dX7_nextToken_106 : decode cX7_nextToken 106 = .ok (.goto 36, 3) := zo_167 (by decide +kernel)
theorem dX7_nextToken_109 : decode cX7_nextToken 109 = .ok (.aload_n 0, 1) := zo_42 (by decide +kernel)
theorem dX7_nextToken_110 : decode cX7_nextToken 110 = .ok (.aload_n 0, 1) := zo_42 (by decide +kernel)
theorem dX7_nextToken_111 : decode cX7_nextToken 111 = .ok (.getfield 32, 3) := zo_180 (by decide +kernel)
theorem dX7_nextToken_114 : decode cX7_nextToken 114 = .ok (.aload_n 0, 1) := zo_42 (by decide +kernel)
theorem dX7_nextToken_115 : decode cX7_nextToken 115 = .ok (.getfield 46, 3) := zo_180 (by decide +kernel)
theorem dX7_nextToken_118 : decode cX7_nextToken 118 = .ok (.baload, 1) := zo_51 (by decide +kernel)
theorem dX7_nextToken_119 : decode cX7_nextToken 119 = .ok (.bipush 59, 2) := zo_16 (by decide +kernel)
theorem dX7_nextToken_121 : decode cX7_nextToken 121 = .ok (.if_icmp .ne 7, 3) := zo_160 (by decide +kernel)
theorem dX7_nextToken_124 : decode cX7_nextToken 124 = .ok (.iconst 3, 1) := zo_6 (by decide +kernel)
theorem dX7_nextToken_125 : decode cX7_nextToken 125 = .ok (.goto 4, 3) := zo_167 (by decide +kernel)
theorem dX7_nextToken_128 : decode cX7_nextToken 128 = .ok (.iconst 4, 1) := zo_7 (by decide +kernel)
theorem dX7_nextToken_129 : decode cX7_nextToken 129 = .ok (.putfield 74, 3) := zo_181 (by decide +kernel)
theorem dX7_nextToken_132 : decode cX7_nextToken 132 = .ok (.aload_n 0, 1) := zo_42 (by decide +kernel)
theorem dX7_nextToken_133 : decode cX7_nextToken 133 = .ok (.dup, 1) := zo_89 (by decide +kernel)
theorem dX7_nextToken_134 : decode cX7_nextToken 134 = .ok (.getfield 46, 3) := zo_180 (by decide +kernel)
theorem dX7_nextToken_137 : decode cX7_nextToken 137 = .ok (.iconst 1, 1) := zo_4 (by decide +kernel)
theorem dX7_nextToken_138 : decode cX7_nextToken 138 = .ok (.iadd, 1) := zo_96 (by decide +kernel)
theorem dX7_nextToken_139 : decode cX7_nextToken 139 = .ok (.putfield 46, 3) := zo_181 (by decide +kernel)
theorem dX7_nextToken_142 : decode cX7_nextToken 142 = .ok (.return_, 1) := zo_177 (by decide +kernel)
theorem dX7_readNumber_0 : decode cX7_readNumber 0 = .ok (.aload_n 0, 1) := zo_42 (by decide +kernel)
theorem dX7_readNumber_1 : decode cX7_readNumber 1 = .ok (.getfield 55, 3) := zo_180 (by decide +kernel)
theorem dX7_readNumber_4 : decode cX7_readNumber 4 = .ok (.ifCond .ne 11, 3) := zo_154 (by decide +kernel)
theorem dX7_readNumber_7 : decode cX7_readNumber 7 = .ok (.aload_n 0, 1) := zo_42 (by decide +kernel)
theorem dX7_readNumber_8 : decode cX7_readNumber 8 = .ok (.getfield 74, 3) := zo_180 (by decide +kernel)
theorem dX7_readNumber_11 : decode cX7_readNumber 11 = .ok (.iconst 2, 1) := zo_5 (by decide +kernel)
theorem dX7_readNumber_12 : decode cX7_readNumber 12 = .ok (.if_icmp .eq 9, 3) := zo_159 (by decide +kernel)
theorem dX7_readNumber_15 : decode cX7_readNumber 15 = .ok (.aload_n 0, 1) := zo_42 (by decide +kernel)
theorem dX7_readNumber_16 : decode cX7_readNumber 16 = .ok (.invokevirtual 105, 3) := zo_182 (by decide +kernel)
theorem dX7_readNumber_19 : decode cX7_readNumber 19 = .ok (.iconst 0, 1) := zo_3 (by decide +kernel)
theorem dX7_readNumber_20 : decode cX7_readNumber 20 = .ok (.ireturn, 1) := zo_172 (by decide +kernel)
theorem dX7_readNumber_21 : decode cX7_readNumber 21 = .ok (.aload_n 0, 1) := zo_42 (by decide +kernel)
theorem dX7_readNumber_22 : decode cX7_readNumber 22 = .ok (.getfield 141, 3) := zo_180 (by decide +kernel)
theorem dX7_readNumber_25 : decode cX7_readNumber 25 = .ok (.istore_n 2, 1) := zo_61 (by decide +kernel)
theorem dX7_readNumber_26 : decode cX7_readNumber 26 = .ok (.iload_n 2, 1) := zo_28 (by decide +kernel)
theorem dX7_readNumber_27 : decode cX7_readNumber 27 = .ok (.iload_n 1, 1) := zo_27 (by decide +kernel)
theorem dX7_readNumber_28 : decode cX7_readNumber 28 = .ok (.if_icmp .le 12, 3) := zo_164 (by decide +kernel)
theorem dX7_readNumber_31 : decode cX7_readNumber 31 = .ok (.aload_n 0, 1) := zo_42 (by decide +kernel)
theorem dX7_readNumber_32 : decode cX7_readNumber 32 = .ok (.iconst 2, 1) := zo_5 (by decide +kernel)
theorem dX7_readNumber_33 : decode cX7_readNumber 33 = .ok (.aload_n 0, 1) := zo_42 (by decide +kernel)
theorem dX7_readNumber_34 : decode cX7_readNumber 34 = .ok (.getfield 84, 3) := zo_180 (by decide +kernel)
theorem dX7_readNumber_37 : decode cX7_readNumber 37 = .ok (.invokevirtual 90, 3) := zo_182 (by decide +kernel)
theorem dX7_readNumber_40 : decode cX7_readNumber 40 = .ok (.aload_n 0, 1) := zo_42 (by decide +kernel)
theorem dX7_readNumber_41 : decode cX7_readNumber 41 = .ok (.invokevirtual 71, 3) := zo_182 (by decide +kernel)
theorem dX7_readNumber_44 : decode cX7_readNumber 44 = .ok (.iload_n 2, 1) := zo_28 (by decide +kernel)
theorem dX7_readNumber_45 : decode cX7_readNumber 45 = .ok (.ireturn, 1) := zo_172 (by decide +kernel)
theorem dX7_reads_0 : decode cX7_reads 0 = .ok (.aload_n 0, 1) := zo_42 (by decide +kernel)
theorem dX7_reads_1 : decode cX7_reads 1 = .ok (.getfield 46, 3) := zo_180 (by decide +kernel)
theorem dX7_reads_4 : decode cX7_reads 4 = .ok (.aload_n 0, 1) := zo_42 (by decide +kernel)
theorem dX7_reads_5 : decode cX7_reads 5 = .ok (.getfield 84, 3) := zo_180 (by decide +kernel)
theorem dX7_reads_8 : decode cX7_reads 8 = .ok (.isub, 1) := zo_100 (by decide +kernel)
theorem dX7_reads_9 : decode cX7_reads 9 = .ok (.aload_n 1, 1) := zo_43 (by decide +kernel)
theorem dX7_reads_10 : decode cX7_reads 10 = .ok (.invokevirtual 185, 3) := zo_182 (by decide +kernel)
theorem dX7_reads_13 : decode cX7_reads 13 = .ok (.if_icmp .ne 21, 3) := zo_160 (by decide +kernel)
theorem dX7_reads_16 : decode cX7_reads 16 = .ok (.aload_n 0, 1) := zo_42 (by decide +kernel)
theorem dX7_reads_17 : decode cX7_reads 17 = .ok (.getfield 84, 3) := zo_180 (by decide +kernel)
theorem dX7_reads_20 : decode cX7_reads 20 = .ok (.ifCond .lt 14, 3) := zo_155 (by decide +kernel)
theorem dX7_reads_23 : decode cX7_reads 23 = .ok (.aload_n 0, 1) := zo_42 (by decide +kernel)
theorem dX7_reads_24 : decode cX7_reads 24 = .ok (.getfield 46, 3) := zo_180 (by decide +kernel)
theorem dX7_reads_27 : decode cX7_reads 27 = .ok (.aload_n 0, 1) := zo_42 (by decide +kernel)
theorem dX7_reads_28 : decode cX7_reads 28 = .ok (.getfield 42, 3) := zo_180 (by decide +kernel)
theorem dX7_reads_31 : decode cX7_reads 31 = .ok (.if_icmp .le 5, 3) := zo_164 (by decide +kernel)
theorem dX7_reads_34 : decode cX7_reads 34 = .ok (.iconst 0, 1) := zo_3 (by decide +kernel)
theorem dX7_reads_35 : decode cX7_reads 35 = .ok (.ireturn, 1) := zo_172 (by decide +kernel)
theorem dX7_reads_36 : decode cX7_reads 36 = .ok (.iconst 0, 1) := zo_3 (by decide +kernel)
theorem dX7_reads_37 : decode cX7_reads 37 = .ok (.istore_n 2, 1) := zo_61 (by decide +kernel)
theorem dX7_reads_38 : decode cX7_reads 38 = .ok (.iload_n 2, 1) := zo_28 (by decide +kernel)
theorem dX7_reads_39 : decode cX7_reads 39 = .ok (.aload_n 1, 1) := zo_43 (by decide +kernel)
theorem dX7_reads_40 : decode cX7_reads 40 = .ok (.invokevirtual 185, 3) := zo_182 (by decide +kernel)
theorem dX7_reads_43 : decode cX7_reads 43 = .ok (.if_icmp .ge 30, 3) := zo_162 (by decide +kernel)
theorem dX7_reads_46 : decode cX7_reads 46 = .ok (.aload_n 0, 1) := zo_42 (by decide +kernel)
theorem dX7_reads_47 : decode cX7_reads 47 = .ok (.getfield 32, 3) := zo_180 (by decide +kernel)
theorem dX7_reads_50 : decode cX7_reads 50 = .ok (.aload_n 0, 1) := zo_42 (by decide +kernel)
theorem dX7_reads_51 : decode cX7_reads 51 = .ok (.getfield 84, 3) := zo_180 (by decide +kernel)
theorem dX7_reads_54 : decode cX7_reads 54 = .ok (.iload_n 2, 1) := zo_28 (by decide +kernel)
theorem dX7_reads_55 : decode cX7_reads 55 = .ok (.iadd, 1) := zo_96 (by decide +kernel)
theorem dX7_reads_56 : decode cX7_reads 56 = .ok (.baload, 1) := zo_51 (by decide +kernel)
theorem dX7_reads_57 : decode cX7_reads 57 = .ok (.aload_n 1, 1) := zo_43 (by decide +kernel)
theorem dX7_reads_58 : decode cX7_reads 58 = .ok (.iload_n 2, 1) := zo_28 (by decide +kernel)
theorem dX7_reads_59 : decode cX7_reads 59 = .ok (.invokevirtual 190, 3) := zo_182 (by decide +kernel)
theorem dX7_reads_62 : decode cX7_reads 62 = .ok (.if_icmp .eq 5, 3) := zo_159 (by decide +kernel)
theorem dX7_reads_65 : decode cX7_reads 65 = .ok (.iconst 0, 1) := zo_3 (by decide +kernel)
theorem dX7_reads_66 : decode cX7_reads 66 = .ok (.ireturn, 1) := zo_172 (by decide +kernel)
theorem dX7_reads_67 : decode cX7_reads 67 = .ok (.iinc 2 1, 3) := zo_132 (by decide +kernel)
theorem dX7_reads_70 : decode cX7_reads 70 = .ok (.goto (-32), 3) := zo_167 (by decide +kernel)
theorem dX7_reads_73 : decode cX7_reads 73 = .ok (.iconst 1, 1) := zo_4 (by decide +kernel)
theorem dX7_reads_74 : decode cX7_reads 74 = .ok (.ireturn, 1) := zo_172 (by decide +kernel)
theorem dX7_wordOf_0 : decode cX7_wordOf 0 = .ok (.iload_n 1, 1) := zo_27 (by decide +kernel)
theorem dX7_wordOf_1 : decode cX7_wordOf 1 = .ok (.ifCond .ne 57, 3) := zo_154 (by decide +kernel)
theorem dX7_wordOf_4 : decode cX7_wordOf 4 = .ok (.aload_n 0, 1) := zo_42 (by decide +kernel)
theorem dX7_wordOf_5 : decode cX7_wordOf 5 = .ok (.ldc 160, 2) := zo_18 (by decide +kernel)
theorem dX7_wordOf_7 : decode cX7_wordOf 7 = .ok (.invokevirtual 162, 3) := zo_182 (by decide +kernel)
theorem dX7_wordOf_10 : decode cX7_wordOf 10 = .ok (.ifCond .eq 7, 3) := zo_153 (by decide +kernel)
theorem dX7_wordOf_13 : decode cX7_wordOf 13 = .ok (.iconst 0, 1) := zo_3 (by decide +kernel)
theorem dX7_wordOf_14 : decode cX7_wordOf 14 = .ok (.goto 43, 3) := zo_167 (by decide +kernel)
theorem dX7_wordOf_17 : decode cX7_wordOf 17 = .ok (.aload_n 0, 1) := zo_42 (by decide +kernel)
theorem dX7_wordOf_18 : decode cX7_wordOf 18 = .ok (.ldc 166, 2) := zo_18 (by decide +kernel)
theorem dX7_wordOf_20 : decode cX7_wordOf 20 = .ok (.invokevirtual 162, 3) := zo_182 (by decide +kernel)
theorem dX7_wordOf_23 : decode cX7_wordOf 23 = .ok (.ifCond .eq 7, 3) := zo_153 (by decide +kernel)
theorem dX7_wordOf_26 : decode cX7_wordOf 26 = .ok (.iconst 1, 1) := zo_4 (by decide +kernel)
theorem dX7_wordOf_27 : decode cX7_wordOf 27 = .ok (.goto 30, 3) := zo_167 (by decide +kernel)
theorem dX7_wordOf_30 : decode cX7_wordOf 30 = .ok (.aload_n 0, 1) := zo_42 (by decide +kernel)
theorem dX7_wordOf_31 : decode cX7_wordOf 31 = .ok (.ldc 167, 2) := zo_18 (by decide +kernel)
theorem dX7_wordOf_33 : decode cX7_wordOf 33 = .ok (.invokevirtual 162, 3) := zo_182 (by decide +kernel)
theorem dX7_wordOf_36 : decode cX7_wordOf 36 = .ok (.ifCond .eq 7, 3) := zo_153 (by decide +kernel)
theorem dX7_wordOf_39 : decode cX7_wordOf 39 = .ok (.iconst 2, 1) := zo_5 (by decide +kernel)
theorem dX7_wordOf_40 : decode cX7_wordOf 40 = .ok (.goto 17, 3) := zo_167 (by decide +kernel)
theorem dX7_wordOf_43 : decode cX7_wordOf 43 = .ok (.aload_n 0, 1) := zo_42 (by decide +kernel)
theorem dX7_wordOf_44 : decode cX7_wordOf 44 = .ok (.ldc 168, 2) := zo_18 (by decide +kernel)
theorem dX7_wordOf_46 : decode cX7_wordOf 46 = .ok (.invokevirtual 162, 3) := zo_182 (by decide +kernel)
theorem dX7_wordOf_49 : decode cX7_wordOf 49 = .ok (.ifCond .eq 7, 3) := zo_153 (by decide +kernel)
theorem dX7_wordOf_52 : decode cX7_wordOf 52 = .ok (.iconst 3, 1) := zo_6 (by decide +kernel)
theorem dX7_wordOf_53 : decode cX7_wordOf 53 = .ok (.goto 4, 3) := zo_167 (by decide +kernel)
theorem dX7_wordOf_56 : decode cX7_wordOf 56 = .ok (.iconst (-1), 1) := zo_2 (by decide +kernel)
theorem dX7_wordOf_57 : decode cX7_wordOf 57 = .ok (.ireturn, 1) := zo_172 (by decide +kernel)
theorem dX7_wordOf_58 : decode cX7_wordOf 58 = .ok (.iload_n 1, 1) := zo_27 (by decide +kernel)
theorem dX7_wordOf_59 : decode cX7_wordOf 59 = .ok (.iconst 2, 1) := zo_5 (by decide +kernel)
theorem dX7_wordOf_60 : decode cX7_wordOf 60 = .ok (.if_icmp .ne 31, 3) := zo_160 (by decide +kernel)
theorem dX7_wordOf_63 : decode cX7_wordOf 63 = .ok (.aload_n 0, 1) := zo_42 (by decide +kernel)
theorem dX7_wordOf_64 : decode cX7_wordOf 64 = .ok (.ldc 170, 2) := zo_18 (by decide +kernel)
theorem dX7_wordOf_66 : decode cX7_wordOf 66 = .ok (.invokevirtual 162, 3) := zo_182 (by decide +kernel)
theorem dX7_wordOf_69 : decode cX7_wordOf 69 = .ok (.ifCond .eq 7, 3) := zo_153 (by decide +kernel)
theorem dX7_wordOf_72 : decode cX7_wordOf 72 = .ok (.iconst 0, 1) := zo_3 (by decide +kernel)
theorem dX7_wordOf_73 : decode cX7_wordOf 73 = .ok (.goto 17, 3) := zo_167 (by decide +kernel)
theorem dX7_wordOf_76 : decode cX7_wordOf 76 = .ok (.aload_n 0, 1) := zo_42 (by decide +kernel)
theorem dX7_wordOf_77 : decode cX7_wordOf 77 = .ok (.ldc 172, 2) := zo_18 (by decide +kernel)
theorem dX7_wordOf_79 : decode cX7_wordOf 79 = .ok (.invokevirtual 162, 3) := zo_182 (by decide +kernel)
theorem dX7_wordOf_82 : decode cX7_wordOf 82 = .ok (.ifCond .eq 7, 3) := zo_153 (by decide +kernel)
theorem dX7_wordOf_85 : decode cX7_wordOf 85 = .ok (.iconst 1, 1) := zo_4 (by decide +kernel)
theorem dX7_wordOf_86 : decode cX7_wordOf 86 = .ok (.goto 4, 3) := zo_167 (by decide +kernel)
theorem dX7_wordOf_89 : decode cX7_wordOf 89 = .ok (.iconst (-1), 1) := zo_2 (by decide +kernel)
theorem dX7_wordOf_90 : decode cX7_wordOf 90 = .ok (.ireturn, 1) := zo_172 (by decide +kernel)
theorem dX7_wordOf_91 : decode cX7_wordOf 91 = .ok (.aload_n 0, 1) := zo_42 (by decide +kernel)
theorem dX7_wordOf_92 : decode cX7_wordOf 92 = .ok (.ldc 174, 2) := zo_18 (by decide +kernel)
theorem dX7_wordOf_94 : decode cX7_wordOf 94 = .ok (.invokevirtual 162, 3) := zo_182 (by decide +kernel)
theorem dX7_wordOf_97 : decode cX7_wordOf 97 = .ok (.ifCond .eq 5, 3) := zo_153 (by decide +kernel)
theorem dX7_wordOf_100 : decode cX7_wordOf 100 = .ok (.iconst 0, 1) := zo_3 (by decide +kernel)
theorem dX7_wordOf_101 : decode cX7_wordOf 101 = .ok (.ireturn, 1) := zo_172 (by decide +kernel)
theorem dX7_wordOf_102 : decode cX7_wordOf 102 = .ok (.aload_n 0, 1) := zo_42 (by decide +kernel)
theorem dX7_wordOf_103 : decode cX7_wordOf 103 = .ok (.ldc 176, 2) := zo_18 (by decide +kernel)
theorem dX7_wordOf_105 : decode cX7_wordOf 105 = .ok (.invokevirtual 162, 3) := zo_182 (by decide +kernel)
theorem dX7_wordOf_108 : decode cX7_wordOf 108 = .ok (.ifCond .eq 5, 3) := zo_153 (by decide +kernel)
theorem dX7_wordOf_111 : decode cX7_wordOf 111 = .ok (.iconst 1, 1) := zo_4 (by decide +kernel)
theorem dX7_wordOf_112 : decode cX7_wordOf 112 = .ok (.ireturn, 1) := zo_172 (by decide +kernel)
theorem dX7_wordOf_113 : decode cX7_wordOf 113 = .ok (.aload_n 0, 1) := zo_42 (by decide +kernel)
theorem dX7_wordOf_114 : decode cX7_wordOf 114 = .ok (.ldc 178, 2) := zo_18 (by decide +kernel)
theorem dX7_wordOf_116 : decode cX7_wordOf 116 = .ok (.invokevirtual 162, 3) := zo_182 (by decide +kernel)
theorem dX7_wordOf_119 : decode cX7_wordOf 119 = .ok (.ifCond .eq 5, 3) := zo_153 (by decide +kernel)
theorem dX7_wordOf_122 : decode cX7_wordOf 122 = .ok (.iconst 2, 1) := zo_5 (by decide +kernel)
theorem dX7_wordOf_123 : decode cX7_wordOf 123 = .ok (.ireturn, 1) := zo_172 (by decide +kernel)
theorem dX7_wordOf_124 : decode cX7_wordOf 124 = .ok (.aload_n 0, 1) := zo_42 (by decide +kernel)
theorem dX7_wordOf_125 : decode cX7_wordOf 125 = .ok (.ldc 180, 2) := zo_18 (by decide +kernel)
theorem dX7_wordOf_127 : decode cX7_wordOf 127 = .ok (.invokevirtual 162, 3) := zo_182 (by decide +kernel)
theorem dX7_wordOf_130 : decode cX7_wordOf 130 = .ok (.ifCond .eq 5, 3) := zo_153 (by decide +kernel)
theorem dX7_wordOf_133 : decode cX7_wordOf 133 = .ok (.iconst 3, 1) := zo_6 (by decide +kernel)
theorem dX7_wordOf_134 : decode cX7_wordOf 134 = .ok (.ireturn, 1) := zo_172 (by decide +kernel)
theorem dX7_wordOf_135 : decode cX7_wordOf 135 = .ok (.aload_n 0, 1) := zo_42 (by decide +kernel)
theorem dX7_wordOf_136 : decode cX7_wordOf 136 = .ok (.ldc 181, 2) := zo_18 (by decide +kernel)
theorem dX7_wordOf_138 : decode cX7_wordOf 138 = .ok (.invokevirtual 162, 3) := zo_182 (by decide +kernel)
theorem dX7_wordOf_141 : decode cX7_wordOf 141 = .ok (.ifCond .eq 7, 3) := zo_153 (by decide +kernel)
theorem dX7_wordOf_144 : decode cX7_wordOf 144 = .ok (.iconst 4, 1) := zo_7 (by decide +kernel)
theorem dX7_wordOf_145 : decode cX7_wordOf 145 = .ok (.goto 17, 3) := zo_167 (by decide +kernel)
theorem dX7_wordOf_148 : decode cX7_wordOf 148 = .ok (.aload_n 0, 1) := zo_42 (by decide +kernel)
theorem dX7_wordOf_149 : decode cX7_wordOf 149 = .ok (.ldc 183, 2) := zo_18 (by decide +kernel)
theorem dX7_wordOf_151 : decode cX7_wordOf 151 = .ok (.invokevirtual 162, 3) := zo_182 (by decide +kernel)
theorem dX7_wordOf_154 : decode cX7_wordOf 154 = .ok (.ifCond .eq 7, 3) := zo_153 (by decide +kernel)
theorem dX7_wordOf_157 : decode cX7_wordOf 157 = .ok (.iconst 5, 1) := zo_8 (by decide +kernel)
theorem dX7_wordOf_158 : decode cX7_wordOf 158 = .ok (.goto 4, 3) := zo_167 (by decide +kernel)
theorem dX7_wordOf_161 : decode cX7_wordOf 161 = .ok (.iconst (-1), 1) := zo_2 (by decide +kernel)
theorem dX7_wordOf_162 : decode cX7_wordOf 162 = .ok (.ireturn, 1) := zo_172 (by decide +kernel)
theorem z_p1 {x : Int32} (h0 : -2147483648 ≤ x.toInt) (h : x.toInt < 2147483647) : (x + 1).toInt = x.toInt + 1 := z_iaddI (y := 1) (by show -2147483648 ≤ x.toInt + 1; omega) (by show x.toInt + 1 < 2147483648; omega)
theorem z_min1k {y : Int32} (h : 0 ≤ y.toInt) : 0 ≤ (if (1000 : Int32) < y then 1000 else y).toInt ∧ (if (1000 : Int32) < y then 1000 else y).toInt ≤ 1000 := by
  split
  · exact ⟨by decide, by decide⟩
  · rename_i q
    have q2 : ¬ (1000 : Int) < y.toInt := fun z => q ((fa_lt _ _).mpr z)
    exact ⟨h, by omega⟩
theorem zLI_add {cr : Int32} {f1 f3 : Nat → Int32} (h : zLI cr f1 f3) (x : Int32) : zLI cr (zAddA cr f1 x) f3 := by
  refine ⟨h.1, fun j hj => ?_, h.2.2⟩
  unfold zAddA
  split
  · rename_i q
    unfold upd
    split
    · have e := z_clI q.1
      have g := h.2.1 x.toNatClampNeg (by omega)
      have g2 := z_p1 (x := f1 x.toNatClampNeg) (by omega) (by omega)
      omega
    · exact h.2.1 j hj
  · exact h.2.1 j hj
theorem zLI_post {cr : Int32} {f1 f3 : Nat → Int32} (h : zLI cr f1 f3) (k : Nat) {v : Int32} (hv : 0 ≤ v.toInt ∧ v.toInt ≤ 1000) : zLI cr f1 (upd f3 k v) := by
  refine ⟨h.1, h.2.1, fun j hj => ?_⟩
  unfold upd
  split
  · exact hv
  · exact h.2.2 j hj
theorem zLI_cr {cr cr' : Int32} {f1 f3 : Nat → Int32} (h : zLI cr f1 f3) (hc : 0 ≤ cr'.toInt ∧ cr'.toInt ≤ 7) : zLI cr' f1 f3 := ⟨hc, h.2⟩
theorem zLI_zero {f1 f3 : Nat → Int32} (h1 : ∀ j, j < 7 → f1 j = 0) (h3 : ∀ j, j < 7 → f3 j = 0) : zLI 0 f1 f3 := ⟨by decide, fun j hj => by rw [h1 j hj]; decide, fun j hj => by rw [h3 j hj]; decide⟩

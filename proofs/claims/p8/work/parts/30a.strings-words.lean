theorem m_fs_RJ0_38 : Cond.fieldLink RJ0 38 "java/lang/String" "COMPACT_STRINGS" "Z" ∈ zT := zmem1 zsub_3 43 (by decide +kernel) (by decide +kernel)
theorem m_fs_RJ0_15 : Cond.fieldLink RJ0 15 "java/lang/String" "coder" "B" ∈ zT := zmem1 zsub_8 96 (by decide +kernel) (by decide +kernel)
theorem m_fs_RJ0_9 : Cond.fieldLink RJ0 9 "java/lang/String" "value" "[B" ∈ zT := zmem1 zsub_8 95 (by decide +kernel) (by decide +kernel)
theorem m_co_J0_coder_7d493 : Cond.code yJ0_coder_7d493 cJ0_coder_7d493 1 (some .byte) ∈ zT := zmem1 zsub_3 42 (by decide +kernel) (by decide +kernel)
theorem m_ml_RJ0_335 : Cond.methodLink RJ0 335 yJ0_coder_7d493 ∈ zT := zmem1 zsub_3 39 (by decide +kernel) (by decide +kernel)
theorem m_im_J0_coder_7d493 : Cond.instanceMethod yJ0_coder_7d493 ∈ zT := zmem1 zsub_3 40 (by decide +kernel) (by decide +kernel)
theorem m_se_J0_coder_7d493 : Cond.selects RJ0 yJ0_coder_7d493 yJ0_coder_7d493 ∈ zT := zmem1 zsub_3 41 (by decide +kernel) (by decide +kernel)
theorem m_ii_RJ0 : Cond.initialized RJ0 ∈ zT := zmem1 zsub_1 14 (by decide +kernel) (by decide +kernel)
theorem m_fs_RJ0_1053 : Cond.fieldLink RJ0 1053 "jdk/internal/util/Preconditions" "SIOOBE_FORMATTER" "Ljava/util/function/BiFunction;" ∈ zT := zmem1 zsub_3 59 (by decide +kernel) (by decide +kernel)
theorem m_co_J3_checkIndex_8e157 : Cond.code yJ3_checkIndex_8e157 cJ3_checkIndex_8e157 3 (some .int) ∈ zT := zmem1 zsub_3 63 (by decide +kernel) (by decide +kernel)
theorem m_ml_RJ0_1059 : Cond.methodLink RJ0 1059 yJ3_checkIndex_8e157 ∈ zT := zmem1 zsub_3 61 (by decide +kernel) (by decide +kernel)
theorem m_st_J3_checkIndex_8e157 : Cond.static yJ3_checkIndex_8e157 ∈ zT := zmem1 zsub_3 62 (by decide +kernel) (by decide +kernel)
theorem m_ii_RJ3 : Cond.initialized RJ3 ∈ zT := zmem1 zsub_1 16 (by decide +kernel) (by decide +kernel)
theorem m_co_J0_checkIndex_df160 : Cond.code yJ0_checkIndex_df160 cJ0_checkIndex_df160 2 none ∈ zT := zmem1 zsub_3 58 (by decide +kernel) (by decide +kernel)
theorem m_ml_RJ1_9 : Cond.methodLink RJ1 9 yJ0_checkIndex_df160 ∈ zT := zmem1 zsub_3 56 (by decide +kernel) (by decide +kernel)
theorem m_st_J0_checkIndex_df160 : Cond.static yJ0_checkIndex_df160 ∈ zT := zmem1 zsub_3 57 (by decide +kernel) (by decide +kernel)
theorem m_co_J0_isLatin1_aae02 : Cond.code yJ0_isLatin1_aae02 cJ0_isLatin1_aae02 1 (some .boolean) ∈ zT := zmem1 zsub_3 52 (by decide +kernel) (by decide +kernel)
theorem m_ml_RJ0_492 : Cond.methodLink RJ0 492 yJ0_isLatin1_aae02 ∈ zT := zmem1 zsub_3 49 (by decide +kernel) (by decide +kernel)
theorem m_im_J0_isLatin1_aae02 : Cond.instanceMethod yJ0_isLatin1_aae02 ∈ zT := zmem1 zsub_3 50 (by decide +kernel) (by decide +kernel)
theorem m_se_J0_isLatin1_aae02 : Cond.selects RJ0 yJ0_isLatin1_aae02 yJ0_isLatin1_aae02 ∈ zT := zmem1 zsub_3 51 (by decide +kernel) (by decide +kernel)
theorem m_co_J1_charAt_3b067 : Cond.code yJ1_charAt_3b067 cJ1_charAt_3b067 2 (some .char) ∈ zT := zmem1 zsub_3 55 (by decide +kernel) (by decide +kernel)
theorem m_ml_RJ0_495 : Cond.methodLink RJ0 495 yJ1_charAt_3b067 ∈ zT := zmem1 zsub_3 53 (by decide +kernel) (by decide +kernel)
theorem m_st_J1_charAt_3b067 : Cond.static yJ1_charAt_3b067 ∈ zT := zmem1 zsub_3 54 (by decide +kernel) (by decide +kernel)
theorem m_ii_RJ1 : Cond.initialized RJ1 ∈ zT := zmem1 zsub_1 15 (by decide +kernel) (by decide +kernel)
theorem m_fl_RX1_78 : Cond.fieldLink RX1 78 (TX1 10).1 (TX1 10).2.1 (TX1 10).2.2.1 ∈ zT := zmem1 zsub_2 35 (by decide +kernel) (by decide +kernel)
theorem m_ko_RX1_91 : Cond.constant RX1 91 1103515245 ∈ zT := zmem1 zsub_4 117 (by decide +kernel) (by decide +kernel)
theorem m_co_X1_drawBelow : Cond.code yX1_drawBelow cX1_drawBelow 2 (some .int) ∈ zT := zmem1 zsub_4 116 (by decide +kernel) (by decide +kernel)
theorem m_ml_RX1_84 : Cond.methodLink RX1 84 yX1_drawBelow ∈ zT := zmem1 zsub_4 113 (by decide +kernel) (by decide +kernel)
theorem m_im_X1_drawBelow : Cond.instanceMethod yX1_drawBelow ∈ zT := zmem1 zsub_4 115 (by decide +kernel) (by decide +kernel)
theorem m_se_X1_drawBelow : Cond.selects RX1 yX1_drawBelow yX1_drawBelow ∈ zT := zmem 27 (by decide +kernel) (by decide +kernel)
theorem kV_RJ0_335 {R : Room} {s : State} {args : Array Value} {d mc ms : Nat} (hts : ∀ w ∈ zT, w.before args s = true) (h1 : d + 1 ≤ R.frames) (h2 : 8 + (1 + 11) + 40 * d ≤ R.locals) : CallW R s args RJ0 RJ0 335 yJ0_coder_7d493 cJ0_coder_7d493 1 (some .byte) (zW yJ0_coder_7d493 cJ0_coder_7d493 1 (some .byte)) (zR d mc ms) mc ms 0 := z_cwV hts m_co_J0_coder_7d493 m_ml_RJ0_335 m_im_J0_coder_7d493 m_se_J0_coder_7d493 m_ii_RJ0 (by decide +kernel) h1 h2
theorem kS_RJ0_1059 {R : Room} {s : State} {args : Array Value} {d mc ms : Nat} (hts : ∀ w ∈ zT, w.before args s = true) (h1 : d + 1 ≤ R.frames) (h2 : 8 + (3 + 11) + 40 * d ≤ R.locals) : CallB R s args RJ0 1059 yJ3_checkIndex_8e157 cJ3_checkIndex_8e157 3 (some .int) (zW yJ3_checkIndex_8e157 cJ3_checkIndex_8e157 3 (some .int)) (zR d mc ms) mc ms 3 ∧ (Cond.static yJ3_checkIndex_8e157).before args s = true := z_cwS hts m_co_J3_checkIndex_8e157 m_ml_RJ0_1059 m_st_J3_checkIndex_8e157 m_ii_RJ3 (by decide +kernel) h1 h2
theorem kS_RJ1_9 {R : Room} {s : State} {args : Array Value} {d mc ms : Nat} (hts : ∀ w ∈ zT, w.before args s = true) (h1 : d + 1 ≤ R.frames) (h2 : 8 + (2 + 11) + 40 * d ≤ R.locals) : CallB R s args RJ1 9 yJ0_checkIndex_df160 cJ0_checkIndex_df160 2 none (zW yJ0_checkIndex_df160 cJ0_checkIndex_df160 2 none) (zR d mc ms) mc ms 2 ∧ (Cond.static yJ0_checkIndex_df160).before args s = true := z_cwS hts m_co_J0_checkIndex_df160 m_ml_RJ1_9 m_st_J0_checkIndex_df160 m_ii_RJ0 (by decide +kernel) h1 h2
theorem kV_RJ0_492 {R : Room} {s : State} {args : Array Value} {d mc ms : Nat} (hts : ∀ w ∈ zT, w.before args s = true) (h1 : d + 1 ≤ R.frames) (h2 : 8 + (1 + 11) + 40 * d ≤ R.locals) : CallW R s args RJ0 RJ0 492 yJ0_isLatin1_aae02 cJ0_isLatin1_aae02 1 (some .boolean) (zW yJ0_isLatin1_aae02 cJ0_isLatin1_aae02 1 (some .boolean)) (zR d mc ms) mc ms 0 := z_cwV hts m_co_J0_isLatin1_aae02 m_ml_RJ0_492 m_im_J0_isLatin1_aae02 m_se_J0_isLatin1_aae02 m_ii_RJ0 (by decide +kernel) h1 h2
theorem kS_RJ0_495 {R : Room} {s : State} {args : Array Value} {d mc ms : Nat} (hts : ∀ w ∈ zT, w.before args s = true) (h1 : d + 1 ≤ R.frames) (h2 : 8 + (2 + 11) + 40 * d ≤ R.locals) : CallB R s args RJ0 495 yJ1_charAt_3b067 cJ1_charAt_3b067 2 (some .char) (zW yJ1_charAt_3b067 cJ1_charAt_3b067 2 (some .char)) (zR d mc ms) mc ms 2 ∧ (Cond.static yJ1_charAt_3b067).before args s = true := z_cwS hts m_co_J1_charAt_3b067 m_ml_RJ0_495 m_st_J1_charAt_3b067 m_ii_RJ1 (by decide +kernel) h1 h2
theorem kV_RX1_84 {R : Room} {s : State} {args : Array Value} {d mc ms : Nat} (hts : ∀ w ∈ zT, w.before args s = true) (h1 : d + 1 ≤ R.frames) (h2 : 8 + (2 + 11) + 40 * d ≤ R.locals) : CallW R s args RX1 RX1 84 yX1_drawBelow cX1_drawBelow 2 (some .int) (zW yX1_drawBelow cX1_drawBelow 2 (some .int)) (zR d mc ms) mc ms 1 := z_cwV hts m_co_X1_drawBelow m_ml_RX1_84 m_im_X1_drawBelow m_se_X1_drawBelow m_ii_RX1 (by decide +kernel) h1 h2
theorem dJ0_coder_7d493_0 : decode cJ0_coder_7d493 0 = .ok (.getstatic 38, 3) := by decide +kernel
theorem dJ0_coder_7d493_3 : decode cJ0_coder_7d493 3 = .ok (.ifCond .eq 10, 3) := by decide +kernel
theorem dJ0_coder_7d493_6 : decode cJ0_coder_7d493 6 = .ok (.aload_n 0, 1) := by decide +kernel
theorem dJ0_coder_7d493_7 : decode cJ0_coder_7d493 7 = .ok (.getfield 15, 3) := by decide +kernel
theorem dJ0_coder_7d493_10 : decode cJ0_coder_7d493 10 = .ok (.goto 4, 3) := by decide +kernel
theorem dJ0_coder_7d493_14 : decode cJ0_coder_7d493 14 = .ok (.ireturn, 1) := by decide +kernel
theorem dJ0_isLatin1_aae02_0 : decode cJ0_isLatin1_aae02 0 = .ok (.getstatic 38, 3) := by decide +kernel
theorem dJ0_isLatin1_aae02_3 : decode cJ0_isLatin1_aae02 3 = .ok (.ifCond .eq 14, 3) := by decide +kernel
theorem dJ0_isLatin1_aae02_6 : decode cJ0_isLatin1_aae02 6 = .ok (.aload_n 0, 1) := by decide +kernel
theorem dJ0_isLatin1_aae02_7 : decode cJ0_isLatin1_aae02 7 = .ok (.getfield 15, 3) := by decide +kernel
theorem dJ0_isLatin1_aae02_10 : decode cJ0_isLatin1_aae02 10 = .ok (.ifCond .ne 7, 3) := by decide +kernel
theorem dJ0_isLatin1_aae02_13 : decode cJ0_isLatin1_aae02 13 = .ok (.iconst 1, 1) := by decide +kernel
theorem dJ0_isLatin1_aae02_14 : decode cJ0_isLatin1_aae02 14 = .ok (.goto 4, 3) := by decide +kernel
theorem dJ0_isLatin1_aae02_18 : decode cJ0_isLatin1_aae02 18 = .ok (.ireturn, 1) := by decide +kernel
theorem dJ0_length_8abf5_0 : decode cJ0_length_8abf5 0 = .ok (.aload_n 0, 1) := by decide +kernel
theorem dJ0_length_8abf5_1 : decode cJ0_length_8abf5 1 = .ok (.getfield 9, 3) := by decide +kernel
theorem dJ0_length_8abf5_4 : decode cJ0_length_8abf5 4 = .ok (.arraylength, 1) := by decide +kernel
theorem dJ0_length_8abf5_5 : decode cJ0_length_8abf5 5 = .ok (.aload_n 0, 1) := by decide +kernel
theorem dJ0_length_8abf5_6 : decode cJ0_length_8abf5 6 = .ok (.invokevirtual 335, 3) := by decide +kernel
theorem dJ0_length_8abf5_9 : decode cJ0_length_8abf5 9 = .ok (.ishr, 1) := by decide +kernel
theorem dJ0_length_8abf5_10 : decode cJ0_length_8abf5 10 = .ok (.ireturn, 1) := by decide +kernel
theorem dJ3_checkIndex_8e157_0 : decode cJ3_checkIndex_8e157 0 = .ok (.iload_n 0, 1) := by decide +kernel
theorem dJ3_checkIndex_8e157_1 : decode cJ3_checkIndex_8e157 1 = .ok (.ifCond .lt 8, 3) := by decide +kernel
theorem dJ3_checkIndex_8e157_4 : decode cJ3_checkIndex_8e157 4 = .ok (.iload_n 0, 1) := by decide +kernel
theorem dJ3_checkIndex_8e157_5 : decode cJ3_checkIndex_8e157 5 = .ok (.iload_n 1, 1) := by decide +kernel
theorem dJ3_checkIndex_8e157_6 : decode cJ3_checkIndex_8e157 6 = .ok (.if_icmp .lt 10, 3) := by decide +kernel
theorem dJ3_checkIndex_8e157_16 : decode cJ3_checkIndex_8e157 16 = .ok (.iload_n 0, 1) := by decide +kernel
theorem dJ3_checkIndex_8e157_17 : decode cJ3_checkIndex_8e157 17 = .ok (.ireturn, 1) := by decide +kernel
theorem dJ0_checkIndex_df160_0 : decode cJ0_checkIndex_df160 0 = .ok (.iload_n 0, 1) := by decide +kernel
theorem dJ0_checkIndex_df160_1 : decode cJ0_checkIndex_df160 1 = .ok (.iload_n 1, 1) := by decide +kernel
theorem dJ0_checkIndex_df160_2 : decode cJ0_checkIndex_df160 2 = .ok (.getstatic 1053, 3) := by decide +kernel
theorem dJ0_checkIndex_df160_5 : decode cJ0_checkIndex_df160 5 = .ok (.invokestatic 1059, 3) := by decide +kernel
theorem dJ0_checkIndex_df160_8 : decode cJ0_checkIndex_df160 8 = .ok (.pop, 1) := by decide +kernel
theorem dJ0_checkIndex_df160_9 : decode cJ0_checkIndex_df160 9 = .ok (.return_, 1) := by decide +kernel
theorem dJ1_charAt_3b067_0 : decode cJ1_charAt_3b067 0 = .ok (.iload_n 1, 1) := by decide +kernel
theorem dJ1_charAt_3b067_1 : decode cJ1_charAt_3b067 1 = .ok (.aload_n 0, 1) := by decide +kernel
theorem dJ1_charAt_3b067_2 : decode cJ1_charAt_3b067 2 = .ok (.arraylength, 1) := by decide +kernel
theorem dJ1_charAt_3b067_3 : decode cJ1_charAt_3b067 3 = .ok (.invokestatic 9, 3) := by decide +kernel
theorem dJ1_charAt_3b067_6 : decode cJ1_charAt_3b067 6 = .ok (.aload_n 0, 1) := by decide +kernel
theorem dJ1_charAt_3b067_7 : decode cJ1_charAt_3b067 7 = .ok (.iload_n 1, 1) := by decide +kernel
theorem dJ1_charAt_3b067_8 : decode cJ1_charAt_3b067 8 = .ok (.baload, 1) := by decide +kernel
theorem dJ1_charAt_3b067_9 : decode cJ1_charAt_3b067 9 = .ok (.sipush 255, 3) := by decide +kernel
theorem dJ1_charAt_3b067_12 : decode cJ1_charAt_3b067 12 = .ok (.iand, 1) := by decide +kernel
theorem dJ1_charAt_3b067_13 : decode cJ1_charAt_3b067 13 = .ok (.i2c, 1) := by decide +kernel
theorem dJ1_charAt_3b067_14 : decode cJ1_charAt_3b067 14 = .ok (.ireturn, 1) := by decide +kernel
theorem dJ0_charAt_5068e_0 : decode cJ0_charAt_5068e 0 = .ok (.aload_n 0, 1) := by decide +kernel
theorem dJ0_charAt_5068e_1 : decode cJ0_charAt_5068e 1 = .ok (.invokevirtual 492, 3) := by decide +kernel
theorem dJ0_charAt_5068e_4 : decode cJ0_charAt_5068e 4 = .ok (.ifCond .eq 12, 3) := by decide +kernel
theorem dJ0_charAt_5068e_7 : decode cJ0_charAt_5068e 7 = .ok (.aload_n 0, 1) := by decide +kernel
theorem dJ0_charAt_5068e_8 : decode cJ0_charAt_5068e 8 = .ok (.getfield 9, 3) := by decide +kernel
theorem dJ0_charAt_5068e_11 : decode cJ0_charAt_5068e 11 = .ok (.iload_n 1, 1) := by decide +kernel
theorem dJ0_charAt_5068e_12 : decode cJ0_charAt_5068e 12 = .ok (.invokestatic 495, 3) := by decide +kernel
theorem dJ0_charAt_5068e_15 : decode cJ0_charAt_5068e 15 = .ok (.ireturn, 1) := by decide +kernel
theorem dX1_drawBelow_0 : decode cX1_drawBelow 0 = .ok (.aload_n 0, 1) := by decide +kernel
theorem dX1_drawBelow_1 : decode cX1_drawBelow 1 = .ok (.aload_n 0, 1) := by decide +kernel
theorem dX1_drawBelow_2 : decode cX1_drawBelow 2 = .ok (.getfield 78, 3) := by decide +kernel
theorem dX1_drawBelow_5 : decode cX1_drawBelow 5 = .ok (.ldc 91, 2) := by decide +kernel
theorem dX1_drawBelow_7 : decode cX1_drawBelow 7 = .ok (.imul, 1) := by decide +kernel
theorem dX1_drawBelow_8 : decode cX1_drawBelow 8 = .ok (.sipush 12345, 3) := by decide +kernel
theorem dX1_drawBelow_11 : decode cX1_drawBelow 11 = .ok (.iadd, 1) := by decide +kernel
theorem dX1_drawBelow_12 : decode cX1_drawBelow 12 = .ok (.putfield 78, 3) := by decide +kernel
theorem dX1_drawBelow_15 : decode cX1_drawBelow 15 = .ok (.iload_n 1, 1) := by decide +kernel
theorem dX1_drawBelow_16 : decode cX1_drawBelow 16 = .ok (.iconst 1, 1) := by decide +kernel
theorem dX1_drawBelow_17 : decode cX1_drawBelow 17 = .ok (.if_icmp .ge 7, 3) := by decide +kernel
theorem dX1_drawBelow_24 : decode cX1_drawBelow 24 = .ok (.aload_n 0, 1) := by decide +kernel
theorem dX1_drawBelow_25 : decode cX1_drawBelow 25 = .ok (.getfield 78, 3) := by decide +kernel
theorem dX1_drawBelow_28 : decode cX1_drawBelow 28 = .ok (.bipush 16, 2) := by decide +kernel
theorem dX1_drawBelow_30 : decode cX1_drawBelow 30 = .ok (.iushr, 1) := by decide +kernel
theorem dX1_drawBelow_31 : decode cX1_drawBelow 31 = .ok (.iload_n 1, 1) := by decide +kernel
theorem dX1_drawBelow_32 : decode cX1_drawBelow 32 = .ok (.irem, 1) := by decide +kernel
theorem dX1_drawBelow_33 : decode cX1_drawBelow 33 = .ok (.ireturn, 1) := by decide +kernel
theorem dX1_draw_0 : decode cX1_draw 0 = .ok (.aload_n 0, 1) := by decide +kernel
theorem dX1_draw_1 : decode cX1_draw 1 = .ok (.aload_n 1, 1) := by decide +kernel
theorem dX1_draw_2 : decode cX1_draw 2 = .ok (.invokevirtual 59, 3) := by decide +kernel
theorem dX1_draw_5 : decode cX1_draw 5 = .ok (.aload_n 0, 1) := by decide +kernel
theorem dX1_draw_6 : decode cX1_draw 6 = .ok (.iload_n 2, 1) := by decide +kernel
theorem dX1_draw_7 : decode cX1_draw 7 = .ok (.putfield 78, 3) := by decide +kernel
theorem dX1_draw_10 : decode cX1_draw 10 = .ok (.iconst 0, 1) := by decide +kernel
theorem dX1_draw_11 : decode cX1_draw 11 = .ok (.istore 4, 2) := by decide +kernel
theorem dX1_draw_13 : decode cX1_draw 13 = .ok (.iload 4, 2) := by decide +kernel
theorem dX1_draw_15 : decode cX1_draw 15 = .ok (.iload_n 3, 1) := by decide +kernel
theorem dX1_draw_16 : decode cX1_draw 16 = .ok (.if_icmp .ge 81, 3) := by decide +kernel
theorem dX1_draw_19 : decode cX1_draw 19 = .ok (.iload 4, 2) := by decide +kernel
theorem dX1_draw_21 : decode cX1_draw 21 = .ok (.bipush 60, 2) := by decide +kernel
theorem dX1_draw_23 : decode cX1_draw 23 = .ok (.if_icmp .ge 74, 3) := by decide +kernel
theorem dX1_draw_26 : decode cX1_draw 26 = .ok (.getstatic 81, 3) := by decide +kernel
theorem dX1_draw_29 : decode cX1_draw 29 = .ok (.aload_n 0, 1) := by decide +kernel
theorem dX1_draw_30 : decode cX1_draw 30 = .ok (.getstatic 81, 3) := by decide +kernel
theorem dX1_draw_33 : decode cX1_draw 33 = .ok (.arraylength, 1) := by decide +kernel
theorem dX1_draw_34 : decode cX1_draw 34 = .ok (.invokevirtual 84, 3) := by decide +kernel
theorem dX1_draw_37 : decode cX1_draw 37 = .ok (.iaload, 1) := by decide +kernel
theorem dX1_draw_38 : decode cX1_draw 38 = .ok (.istore 5, 2) := by decide +kernel
theorem dX1_draw_40 : decode cX1_draw 40 = .ok (.aload_n 1, 1) := by decide +kernel
theorem dX1_draw_41 : decode cX1_draw 41 = .ok (.getfield 88, 3) := by decide +kernel
theorem dX1_draw_44 : decode cX1_draw 44 = .ok (.ifCond .le 47, 3) := by decide +kernel
theorem dX1_draw_47 : decode cX1_draw 47 = .ok (.aload_n 0, 1) := by decide +kernel
theorem dX1_draw_48 : decode cX1_draw 48 = .ok (.aload_n 1, 1) := by decide +kernel
theorem dX1_draw_49 : decode cX1_draw 49 = .ok (.getfield 88, 3) := by decide +kernel
theorem dX1_draw_52 : decode cX1_draw 52 = .ok (.invokevirtual 84, 3) := by decide +kernel
theorem dX1_draw_55 : decode cX1_draw 55 = .ok (.istore 6, 2) := by decide +kernel
theorem dX1_draw_57 : decode cX1_draw 57 = .ok (.iload 5, 2) := by decide +kernel
theorem dX1_draw_59 : decode cX1_draw 59 = .ok (.iconst 4, 1) := by decide +kernel
theorem dX1_draw_60 : decode cX1_draw 60 = .ok (.if_icmp .eq 9, 3) := by decide +kernel
theorem dX1_draw_63 : decode cX1_draw 63 = .ok (.iload 5, 2) := by decide +kernel
theorem dX1_draw_65 : decode cX1_draw 65 = .ok (.iconst 5, 1) := by decide +kernel
theorem dX1_draw_66 : decode cX1_draw 66 = .ok (.if_icmp .ne 11, 3) := by decide +kernel
theorem dX1_draw_69 : decode cX1_draw 69 = .ok (.aload_n 0, 1) := by decide +kernel
theorem dX1_draw_70 : decode cX1_draw 70 = .ok (.iconst 4, 1) := by decide +kernel
theorem dX1_draw_71 : decode cX1_draw 71 = .ok (.invokevirtual 84, 3) := by decide +kernel
theorem dX1_draw_74 : decode cX1_draw 74 = .ok (.goto 4, 3) := by decide +kernel
theorem dX1_draw_77 : decode cX1_draw 77 = .ok (.iconst (-1), 1) := by decide +kernel
theorem dX1_draw_78 : decode cX1_draw 78 = .ok (.istore 7, 2) := by decide +kernel
theorem dX1_draw_80 : decode cX1_draw 80 = .ok (.aload_n 0, 1) := by decide +kernel
theorem dX1_draw_81 : decode cX1_draw 81 = .ok (.iload 5, 2) := by decide +kernel
theorem dX1_draw_83 : decode cX1_draw 83 = .ok (.iload 6, 2) := by decide +kernel
theorem dX1_draw_85 : decode cX1_draw 85 = .ok (.iload 7, 2) := by decide +kernel
theorem dX1_draw_87 : decode cX1_draw 87 = .ok (.invokevirtual 74, 3) := by decide +kernel
theorem dX1_draw_90 : decode cX1_draw 90 = .ok (.pop, 1) := by decide +kernel
theorem dX1_draw_91 : decode cX1_draw 91 = .ok (.iinc 4 1, 3) := by decide +kernel
theorem dX1_draw_94 : decode cX1_draw 94 = .ok (.goto (-81), 3) := by decide +kernel
theorem dX1_draw_97 : decode cX1_draw 97 = .ok (.return_, 1) := by decide +kernel


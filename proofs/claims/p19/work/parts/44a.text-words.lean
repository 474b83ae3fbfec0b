theorem m_fl_RX11_65 : Cond.fieldLink RX11 65 (TX11 9).1 (TX11 9).2.1 (TX11 9).2.2.1 ∈ zT := zmem1 zsub_2 185 rfl rfl
theorem m_fl_RX11_109 : Cond.fieldLink RX11 109 (TX3 0).1 (TX3 0).2.1 (TX3 0).2.2.1 ∈ zT := zmem1 zsub_2 146 rfl rfl
theorem m_fl_RX11_55 : Cond.fieldLink RX11 55 (TX11 7).1 (TX11 7).2.1 (TX11 7).2.2.1 ∈ zT := zmem1 zsub_2 183 rfl rfl
theorem m_fl_RX11_113 : Cond.fieldLink RX11 113 (TX0 0).1 (TX0 0).2.1 (TX0 0).2.2.1 ∈ zT := zmem1 zsub_2 106 rfl rfl
theorem m_fl_RX11_59 : Cond.fieldLink RX11 59 (TX11 8).1 (TX11 8).2.1 (TX11 8).2.2.1 ∈ zT := zmem1 zsub_2 184 rfl rfl
theorem m_co_X9_placeFor : Cond.code yX9_placeFor cX9_placeFor 3 (some .int) ∈ zT := zmem1 zsub_2 229 rfl rfl
theorem m_ml_RX11_81 : Cond.methodLink RX11 81 yX9_placeFor ∈ zT := zmem1 zsub_2 226 rfl rfl
theorem m_im_X9_placeFor : Cond.instanceMethod yX9_placeFor ∈ zT := zmem1 zsub_2 227 rfl rfl
theorem m_se_X9_placeFor : Cond.selects RX9 yX9_placeFor yX9_placeFor ∈ zT := zmem1 zsub_2 228 rfl rfl
theorem m_fl_RX11_27 : Cond.fieldLink RX11 27 (TX11 3).1 (TX11 3).2.1 (TX11 3).2.2.1 ∈ zT := zmem1 zsub_2 179 rfl rfl
theorem m_fl_RX11_91 : Cond.fieldLink RX11 91 (TX9 0).1 (TX9 0).2.1 (TX9 0).2.2.1 ∈ zT := zmem1 zsub_1 129 rfl rfl
theorem m_co_X7_read : Cond.code yX7_read cX7_read 5 none ∈ zT := zmem1 zsub_2 233 rfl rfl
theorem m_ml_RX11_95 : Cond.methodLink RX11 95 yX7_read ∈ zT := zmem1 zsub_2 230 rfl rfl
theorem m_im_X7_read : Cond.instanceMethod yX7_read ∈ zT := zmem1 zsub_2 231 rfl rfl
theorem m_se_X7_read : Cond.selects RX7 yX7_read yX7_read ∈ zT := zmem1 zsub_2 232 rfl rfl
theorem m_fl_RX11_99 : Cond.fieldLink RX11 99 (TX7 3).1 (TX7 3).2.1 (TX7 3).2.2.1 ∈ zT := zmem1 zsub_1 178 rfl rfl
theorem m_fl_RX11_100 : Cond.fieldLink RX11 100 (TX7 4).1 (TX7 4).2.1 (TX7 4).2.2.1 ∈ zT := zmem1 zsub_1 180 rfl rfl
theorem m_co_X9_keep : Cond.code yX9_keep cX9_keep 4 none ∈ zT := zmem1 zsub_3 149 rfl rfl
theorem m_ml_RX11_101 : Cond.methodLink RX11 101 yX9_keep ∈ zT := zmem1 zsub_3 146 rfl rfl
theorem m_im_X9_keep : Cond.instanceMethod yX9_keep ∈ zT := zmem1 zsub_3 147 rfl rfl
theorem m_se_X9_keep : Cond.selects RX9 yX9_keep yX9_keep ∈ zT := zmem1 zsub_3 148 rfl rfl
theorem m_co_X11_forgetWhatFollows : Cond.code yX11_forgetWhatFollows cX11_forgetWhatFollows 2 none ∈ zT := zmem1 zsub_3 168 rfl rfl
theorem m_ml_RX11_105 : Cond.methodLink RX11 105 yX11_forgetWhatFollows ∈ zT := zmem1 zsub_3 165 rfl rfl
theorem m_im_X11_forgetWhatFollows : Cond.instanceMethod yX11_forgetWhatFollows ∈ zT := zmem1 zsub_3 167 rfl rfl
theorem m_se_X11_forgetWhatFollows : Cond.selects RX11 yX11_forgetWhatFollows yX11_forgetWhatFollows ∈ zT := zmem 15 rfl rfl
theorem m_fl_RX11_16 : Cond.fieldLink RX11 16 (TX11 1).1 (TX11 1).2.1 (TX11 1).2.2.1 ∈ zT := zmem1 zsub_2 177 rfl rfl
theorem m_co_X9_takeAll : Cond.code yX9_takeAll cX9_takeAll 3 none ∈ zT := zmem1 zsub_3 184 rfl rfl
theorem m_ml_RX11_117 : Cond.methodLink RX11 117 yX9_takeAll ∈ zT := zmem1 zsub_3 181 rfl rfl
theorem m_im_X9_takeAll : Cond.instanceMethod yX9_takeAll ∈ zT := zmem1 zsub_3 182 rfl rfl
theorem m_se_X9_takeAll : Cond.selects RX9 yX9_takeAll yX9_takeAll ∈ zT := zmem1 zsub_3 183 rfl rfl
theorem m_fl_RX11_20 : Cond.fieldLink RX11 20 (TX11 2).1 (TX11 2).2.1 (TX11 2).2.2.1 ∈ zT := zmem1 zsub_2 178 rfl rfl
theorem kV_RX11_81 {R : Room} {s : State} {args : Array Value} {d mc ms : Nat} (hts : ∀ w ∈ zT, w.before args s = true) (h1 : d + 1 ≤ R.frames) (h2 : 8 + (3 + 11) + 40 * d ≤ R.locals) : CallW R s args RX11 RX9 81 yX9_placeFor cX9_placeFor 3 (some .int) (zW yX9_placeFor cX9_placeFor 3 (some .int)) (zR d mc ms) mc ms 2 := z_cwV hts m_co_X9_placeFor m_ml_RX11_81 m_im_X9_placeFor m_se_X9_placeFor m_ii_RX9 (by decide +kernel) h1 h2
theorem kV_RX11_95 {R : Room} {s : State} {args : Array Value} {d mc ms : Nat} (hts : ∀ w ∈ zT, w.before args s = true) (h1 : d + 1 ≤ R.frames) (h2 : 8 + (5 + 11) + 40 * d ≤ R.locals) : CallW R s args RX11 RX7 95 yX7_read cX7_read 5 none (zW yX7_read cX7_read 5 none) (zR d mc ms) mc ms 3 := z_cwV hts m_co_X7_read m_ml_RX11_95 m_im_X7_read m_se_X7_read m_ii_RX7 (by decide +kernel) h1 h2
theorem kV_RX11_101 {R : Room} {s : State} {args : Array Value} {d mc ms : Nat} (hts : ∀ w ∈ zT, w.before args s = true) (h1 : d + 1 ≤ R.frames) (h2 : 8 + (4 + 11) + 40 * d ≤ R.locals) : CallW R s args RX11 RX9 101 yX9_keep cX9_keep 4 none (zW yX9_keep cX9_keep 4 none) (zR d mc ms) mc ms 3 := z_cwV hts m_co_X9_keep m_ml_RX11_101 m_im_X9_keep m_se_X9_keep m_ii_RX9 (by decide +kernel) h1 h2
theorem kV_RX11_105 {R : Room} {s : State} {args : Array Value} {d mc ms : Nat} (hts : ∀ w ∈ zT, w.before args s = true) (h1 : d + 1 ≤ R.frames) (h2 : 8 + (2 + 11) + 40 * d ≤ R.locals) : CallW R s args RX11 RX11 105 yX11_forgetWhatFollows cX11_forgetWhatFollows 2 none (zW yX11_forgetWhatFollows cX11_forgetWhatFollows 2 none) (zR d mc ms) mc ms 1 := z_cwV hts m_co_X11_forgetWhatFollows m_ml_RX11_105 m_im_X11_forgetWhatFollows m_se_X11_forgetWhatFollows m_ii_RX11 (by decide +kernel) h1 h2
theorem kV_RX11_117 {R : Room} {s : State} {args : Array Value} {d mc ms : Nat} (hts : ∀ w ∈ zT, w.before args s = true) (h1 : d + 1 ≤ R.frames) (h2 : 8 + (3 + 11) + 40 * d ≤ R.locals) : CallW R s args RX11 RX9 117 yX9_takeAll cX9_takeAll 3 none (zW yX9_takeAll cX9_takeAll 3 none) (zR d mc ms) mc ms 1 := z_cwV hts m_co_X9_takeAll m_ml_RX11_117 m_im_X9_takeAll m_se_X9_takeAll m_ii_RX9 (by decide +kernel) h1 h2
theorem dX11_forgetWhatFollows_0 : decode cX11_forgetWhatFollows 0 = .ok (.aload_n 0, 1) := zo_42 (by decide +kernel)
theorem dX11_forgetWhatFollows_1 : decode cX11_forgetWhatFollows 1 = .ok (.getfield 65, 3) := zo_180 (by decide +kernel)
theorem dX11_forgetWhatFollows_4 : decode cX11_forgetWhatFollows 4 = .ok (.iconst 0, 1) := zo_3 (by decide +kernel)
theorem dX11_forgetWhatFollows_5 : decode cX11_forgetWhatFollows 5 = .ok (.putfield 109, 3) := zo_181 (by decide +kernel)
theorem dX11_forgetWhatFollows_8 : decode cX11_forgetWhatFollows 8 = .ok (.iload_n 1, 1) := zo_27 (by decide +kernel)
theorem dX11_forgetWhatFollows_9 : decode cX11_forgetWhatFollows 9 = .ok (.ifCond .eq 19, 3) := zo_153 (by decide +kernel)
theorem dX11_forgetWhatFollows_12 : decode cX11_forgetWhatFollows 12 = .ok (.aload_n 0, 1) := zo_42 (by decide +kernel)
theorem dX11_forgetWhatFollows_13 : decode cX11_forgetWhatFollows 13 = .ok (.getfield 55, 3) := zo_180 (by decide +kernel)
theorem dX11_forgetWhatFollows_16 : decode cX11_forgetWhatFollows 16 = .ok (.iconst 0, 1) := zo_3 (by decide +kernel)
theorem dX11_forgetWhatFollows_17 : decode cX11_forgetWhatFollows 17 = .ok (.putfield 113, 3) := zo_181 (by decide +kernel)
theorem dX11_forgetWhatFollows_20 : decode cX11_forgetWhatFollows 20 = .ok (.aload_n 0, 1) := zo_42 (by decide +kernel)
theorem dX11_forgetWhatFollows_21 : decode cX11_forgetWhatFollows 21 = .ok (.getfield 59, 3) := zo_180 (by decide +kernel)
theorem dX11_forgetWhatFollows_24 : decode cX11_forgetWhatFollows 24 = .ok (.iconst 0, 1) := zo_3 (by decide +kernel)
theorem dX11_forgetWhatFollows_25 : decode cX11_forgetWhatFollows 25 = .ok (.putfield 113, 3) := zo_181 (by decide +kernel)
theorem dX11_forgetWhatFollows_28 : decode cX11_forgetWhatFollows 28 = .ok (.return_, 1) := zo_177 (by decide +kernel)
theorem dX11_text_0 : decode cX11_text 0 = .ok (.aload_n 0, 1) := zo_42 (by decide +kernel)
theorem dX11_text_1 : decode cX11_text 1 = .ok (.getfield 10, 3) := zo_180 (by decide +kernel)
theorem dX11_text_4 : decode cX11_text 4 = .ok (.iload_n 1, 1) := zo_27 (by decide +kernel)
theorem dX11_text_5 : decode cX11_text 5 = .ok (.iload_n 2, 1) := zo_28 (by decide +kernel)
theorem dX11_text_6 : decode cX11_text 6 = .ok (.invokevirtual 81, 3) := zo_182 (by decide +kernel)
theorem dX11_text_9 : decode cX11_text 9 = .ok (.istore_n 3, 1) := zo_62 (by decide +kernel)
theorem dX11_text_10 : decode cX11_text 10 = .ok (.aload_n 0, 1) := zo_42 (by decide +kernel)
theorem dX11_text_11 : decode cX11_text 11 = .ok (.getfield 10, 3) := zo_180 (by decide +kernel)
theorem dX11_text_14 : decode cX11_text 14 = .ok (.getfield 73, 3) := zo_180 (by decide +kernel)
theorem dX11_text_17 : decode cX11_text 17 = .ok (.istore 4, 2) := zo_54 (by decide +kernel)
theorem dX11_text_19 : decode cX11_text 19 = .ok (.aload_n 0, 1) := zo_42 (by decide +kernel)
theorem dX11_text_20 : decode cX11_text 20 = .ok (.getfield 10, 3) := zo_180 (by decide +kernel)
theorem dX11_text_23 : decode cX11_text 23 = .ok (.iconst 0, 1) := zo_3 (by decide +kernel)
theorem dX11_text_24 : decode cX11_text 24 = .ok (.putfield 73, 3) := zo_181 (by decide +kernel)
theorem dX11_text_27 : decode cX11_text 27 = .ok (.aload_n 0, 1) := zo_42 (by decide +kernel)
theorem dX11_text_28 : decode cX11_text 28 = .ok (.getfield 10, 3) := zo_180 (by decide +kernel)
theorem dX11_text_31 : decode cX11_text 31 = .ok (.iconst 0, 1) := zo_3 (by decide +kernel)
theorem dX11_text_32 : decode cX11_text 32 = .ok (.putfield 85, 3) := zo_181 (by decide +kernel)
theorem dX11_text_35 : decode cX11_text 35 = .ok (.aload_n 0, 1) := zo_42 (by decide +kernel)
theorem dX11_text_36 : decode cX11_text 36 = .ok (.getfield 10, 3) := zo_180 (by decide +kernel)
theorem dX11_text_39 : decode cX11_text 39 = .ok (.iconst (-1), 1) := zo_2 (by decide +kernel)
theorem dX11_text_40 : decode cX11_text 40 = .ok (.putfield 88, 3) := zo_181 (by decide +kernel)
theorem dX11_text_43 : decode cX11_text 43 = .ok (.iload_n 3, 1) := zo_29 (by decide +kernel)
theorem dX11_text_44 : decode cX11_text 44 = .ok (.bipush (-2), 2) := zo_16 (by decide +kernel)
theorem dX11_text_46 : decode cX11_text 46 = .ok (.if_icmp .ne 6, 3) := zo_160 (by decide +kernel)
theorem dX11_text_49 : decode cX11_text 49 = .ok (.bipush (-2), 2) := zo_16 (by decide +kernel)
theorem dX11_text_51 : decode cX11_text 51 = .ok (.ireturn, 1) := zo_172 (by decide +kernel)
theorem dX11_text_52 : decode cX11_text 52 = .ok (.aload_n 0, 1) := zo_42 (by decide +kernel)
theorem dX11_text_53 : decode cX11_text 53 = .ok (.getfield 27, 3) := zo_180 (by decide +kernel)
theorem dX11_text_56 : decode cX11_text 56 = .ok (.aload_n 0, 1) := zo_42 (by decide +kernel)
theorem dX11_text_57 : decode cX11_text 57 = .ok (.getfield 10, 3) := zo_180 (by decide +kernel)
theorem dX11_text_60 : decode cX11_text 60 = .ok (.getfield 91, 3) := zo_180 (by decide +kernel)
theorem dX11_text_63 : decode cX11_text 63 = .ok (.iload 4, 2) := zo_21 (by decide +kernel)
theorem dX11_text_65 : decode cX11_text 65 = .ok (.iload_n 1, 1) := zo_27 (by decide +kernel)
theorem dX11_text_66 : decode cX11_text 66 = .ok (.invokevirtual 95, 3) := zo_182 (by decide +kernel)
theorem dX11_text_69 : decode cX11_text 69 = .ok (.aload_n 0, 1) := zo_42 (by decide +kernel)
theorem dX11_text_70 : decode cX11_text 70 = .ok (.getfield 10, 3) := zo_180 (by decide +kernel)
theorem dX11_text_73 : decode cX11_text 73 = .ok (.aload_n 0, 1) := zo_42 (by decide +kernel)
theorem dX11_text_74 : decode cX11_text 74 = .ok (.getfield 27, 3) := zo_180 (by decide +kernel)
theorem dX11_text_77 : decode cX11_text 77 = .ok (.getfield 99, 3) := zo_180 (by decide +kernel)
theorem dX11_text_80 : decode cX11_text 80 = .ok (.putfield 85, 3) := zo_181 (by decide +kernel)
theorem dX11_text_83 : decode cX11_text 83 = .ok (.aload_n 0, 1) := zo_42 (by decide +kernel)
theorem dX11_text_84 : decode cX11_text 84 = .ok (.getfield 10, 3) := zo_180 (by decide +kernel)
theorem dX11_text_87 : decode cX11_text 87 = .ok (.aload_n 0, 1) := zo_42 (by decide +kernel)
theorem dX11_text_88 : decode cX11_text 88 = .ok (.getfield 27, 3) := zo_180 (by decide +kernel)
theorem dX11_text_91 : decode cX11_text 91 = .ok (.getfield 100, 3) := zo_180 (by decide +kernel)
theorem dX11_text_94 : decode cX11_text 94 = .ok (.putfield 88, 3) := zo_181 (by decide +kernel)
theorem dX11_text_97 : decode cX11_text 97 = .ok (.aload_n 0, 1) := zo_42 (by decide +kernel)
theorem dX11_text_98 : decode cX11_text 98 = .ok (.getfield 27, 3) := zo_180 (by decide +kernel)
theorem dX11_text_101 : decode cX11_text 101 = .ok (.getfield 99, 3) := zo_180 (by decide +kernel)
theorem dX11_text_104 : decode cX11_text 104 = .ok (.ifCond .eq 5, 3) := zo_153 (by decide +kernel)
theorem dX11_text_107 : decode cX11_text 107 = .ok (.iconst (-1), 1) := zo_2 (by decide +kernel)
theorem dX11_text_108 : decode cX11_text 108 = .ok (.ireturn, 1) := zo_172 (by decide +kernel)
theorem dX11_text_109 : decode cX11_text 109 = .ok (.aload_n 0, 1) := zo_42 (by decide +kernel)
theorem dX11_text_110 : decode cX11_text 110 = .ok (.getfield 10, 3) := zo_180 (by decide +kernel)
theorem dX11_text_113 : decode cX11_text 113 = .ok (.iload_n 1, 1) := zo_27 (by decide +kernel)
theorem dX11_text_114 : decode cX11_text 114 = .ok (.iload_n 3, 1) := zo_29 (by decide +kernel)
theorem dX11_text_115 : decode cX11_text 115 = .ok (.aload_n 0, 1) := zo_42 (by decide +kernel)
theorem dX11_text_116 : decode cX11_text 116 = .ok (.getfield 27, 3) := zo_180 (by decide +kernel)
theorem dX11_text_119 : decode cX11_text 119 = .ok (.invokevirtual 101, 3) := zo_182 (by decide +kernel)
theorem dX11_text_122 : decode cX11_text 122 = .ok (.aload_n 0, 1) := zo_42 (by decide +kernel)
theorem dX11_text_123 : decode cX11_text 123 = .ok (.iload_n 1, 1) := zo_27 (by decide +kernel)
theorem dX11_text_124 : decode cX11_text 124 = .ok (.ifCond .ne 7, 3) := zo_154 (by decide +kernel)
theorem dX11_text_127 : decode cX11_text 127 = .ok (.iconst 1, 1) := zo_4 (by decide +kernel)
theorem dX11_text_128 : decode cX11_text 128 = .ok (.goto 4, 3) := zo_167 (by decide +kernel)
theorem dX11_text_131 : decode cX11_text 131 = .ok (.iconst 0, 1) := zo_3 (by decide +kernel)
theorem dX11_text_132 : decode cX11_text 132 = .ok (.invokevirtual 105, 3) := zo_182 (by decide +kernel)
theorem dX11_text_135 : decode cX11_text 135 = .ok (.iload_n 3, 1) := zo_29 (by decide +kernel)
theorem dX11_text_136 : decode cX11_text 136 = .ok (.ireturn, 1) := zo_172 (by decide +kernel)
theorem dX11_image_0 : decode cX11_image 0 = .ok (.iload_n 1, 1) := zo_27 (by decide +kernel)
theorem dX11_image_1 : decode cX11_image 1 = .ok (.ifCond .lt 8, 3) := zo_155 (by decide +kernel)
theorem dX11_image_4 : decode cX11_image 4 = .ok (.iload_n 1, 1) := zo_27 (by decide +kernel)
theorem dX11_image_5 : decode cX11_image 5 = .ok (.iconst 3, 1) := zo_6 (by decide +kernel)
theorem dX11_image_6 : decode cX11_image 6 = .ok (.if_icmp .lt 5, 3) := zo_161 (by decide +kernel)
theorem dX11_image_9 : decode cX11_image 9 = .ok (.iconst 0, 1) := zo_3 (by decide +kernel)
theorem dX11_image_10 : decode cX11_image 10 = .ok (.ireturn, 1) := zo_172 (by decide +kernel)
theorem dX11_image_11 : decode cX11_image 11 = .ok (.aload_n 0, 1) := zo_42 (by decide +kernel)
theorem dX11_image_12 : decode cX11_image 12 = .ok (.getfield 16, 3) := zo_180 (by decide +kernel)
theorem dX11_image_15 : decode cX11_image 15 = .ok (.iload_n 1, 1) := zo_27 (by decide +kernel)
theorem dX11_image_16 : decode cX11_image 16 = .ok (.aaload, 1) := zo_50 (by decide +kernel)
theorem dX11_image_17 : decode cX11_image 17 = .ok (.aload_n 0, 1) := zo_42 (by decide +kernel)
theorem dX11_image_18 : decode cX11_image 18 = .ok (.getfield 10, 3) := zo_180 (by decide +kernel)
theorem dX11_image_21 : decode cX11_image 21 = .ok (.invokevirtual 117, 3) := zo_182 (by decide +kernel)
theorem dX11_image_24 : decode cX11_image 24 = .ok (.aload_n 0, 1) := zo_42 (by decide +kernel)
theorem dX11_image_25 : decode cX11_image 25 = .ok (.getfield 20, 3) := zo_180 (by decide +kernel)
theorem dX11_image_28 : decode cX11_image 28 = .ok (.iload_n 1, 1) := zo_27 (by decide +kernel)
theorem dX11_image_29 : decode cX11_image 29 = .ok (.iconst 1, 1) := zo_4 (by decide +kernel)
theorem dX11_image_30 : decode cX11_image 30 = .ok (.bastore, 1) := zo_84 (by decide +kernel)
theorem dX11_image_31 : decode cX11_image 31 = .ok (.iconst 1, 1) := zo_4 (by decide +kernel)
theorem dX11_image_32 : decode cX11_image 32 = .ok (.ireturn, 1) := zo_172 (by decide +kernel)
theorem dX11_again_0 : decode cX11_again 0 = .ok (.iload_n 1, 1) := zo_27 (by decide +kernel)
theorem dX11_again_1 : decode cX11_again 1 = .ok (.ifCond .lt 17, 3) := zo_155 (by decide +kernel)
theorem dX11_again_4 : decode cX11_again 4 = .ok (.iload_n 1, 1) := zo_27 (by decide +kernel)
theorem dX11_again_5 : decode cX11_again 5 = .ok (.iconst 3, 1) := zo_6 (by decide +kernel)
theorem dX11_again_6 : decode cX11_again 6 = .ok (.if_icmp .ge 12, 3) := zo_162 (by decide +kernel)
theorem dX11_again_9 : decode cX11_again 9 = .ok (.aload_n 0, 1) := zo_42 (by decide +kernel)
theorem dX11_again_10 : decode cX11_again 10 = .ok (.getfield 20, 3) := zo_180 (by decide +kernel)
theorem dX11_again_13 : decode cX11_again 13 = .ok (.iload_n 1, 1) := zo_27 (by decide +kernel)
theorem dX11_again_14 : decode cX11_again 14 = .ok (.baload, 1) := zo_51 (by decide +kernel)
theorem dX11_again_15 : decode cX11_again 15 = .ok (.ifCond .ne 5, 3) := zo_154 (by decide +kernel)
theorem dX11_again_18 : decode cX11_again 18 = .ok (.iconst 0, 1) := zo_3 (by decide +kernel)
theorem dX11_again_19 : decode cX11_again 19 = .ok (.ireturn, 1) := zo_172 (by decide +kernel)
theorem dX11_again_20 : decode cX11_again 20 = .ok (.aload_n 0, 1) := zo_42 (by decide +kernel)
theorem dX11_again_21 : decode cX11_again 21 = .ok (.getfield 10, 3) := zo_180 (by decide +kernel)
theorem dX11_again_24 : decode cX11_again 24 = .ok (.aload_n 0, 1) := zo_42 (by decide +kernel)
theorem dX11_again_25 : decode cX11_again 25 = .ok (.getfield 16, 3) := zo_180 (by decide +kernel)
theorem dX11_again_28 : decode cX11_again 28 = .ok (.iload_n 1, 1) := zo_27 (by decide +kernel)
theorem dX11_again_29 : decode cX11_again 29 = .ok (.aaload, 1) := zo_50 (by decide +kernel)
theorem dX11_again_30 : decode cX11_again 30 = .ok (.invokevirtual 117, 3) := zo_182 (by decide +kernel)
theorem dX11_again_33 : decode cX11_again 33 = .ok (.aload_n 0, 1) := zo_42 (by decide +kernel)
theorem dX11_again_34 : decode cX11_again 34 = .ok (.iconst 1, 1) := zo_4 (by decide +kernel)
theorem dX11_again_35 : decode cX11_again 35 = .ok (.invokevirtual 105, 3) := zo_182 (by decide +kernel)
theorem dX11_again_38 : decode cX11_again 38 = .ok (.iconst 1, 1) := zo_4 (by decide +kernel)
theorem dX11_again_39 : decode cX11_again 39 = .ok (.ireturn, 1) := zo_172 (by decide +kernel)
set_option maxHeartbeats 4000000 in
set_option maxRecDepth 100000 in
/-- forget -/
theorem c_forget1 (l : Launch) (T : zTy) (xo : Nat) (t : Nat) (im : Nat) (mk : Nat) (rd : Nat) (po : Nat) (co : Nat) (tr : Nat) (wa : Nat) (wb_ : Nat) (fi : Nat) (cd : Nat) (laA : Nat) (mdA : Int32) (wyA : Int32) (pc_A : Int32) (f1A : Nat → Int32) (f2A : Nat → Int32) (f3A : Nat → Int32) (f4A : Nat → Int32) (f5A : Nat → Int32) (f6A : Nat → Int32) (n4A : Nat) (wwA : va_W) (laB : Nat) (mdB : Int32) (wyB : Int32) (pc_B : Int32) (f1B : Nat → Int32) (f2B : Nat → Int32) (f3B : Nat → Int32) (f4B : Nat → Int32) (f5B : Nat → Int32) (f6B : Nat → Int32) (n4B : Nat) (wwB : va_W) (e0f : Int32) (e1f : Int32) (e2f : Int32) (e3f : Int32) (e4f : Int32) (e5f : Int32) (r1f : Nat → Int32) (m1f : Nat) (r2f : Nat → Int32) (wff : va_W) (hwwA : bWays T wa laA mdA wyA pc_A f1A f2A f3A f4A f5A f6A n4A wwA) (hwwB : bWays T wb_ laB mdB wyB pc_B f1B f2B f3B f4B f5B f6B n4B wwB) (hwff : bFit T fi e0f e1f e2f e3f e4f e5f r1f m1f r2f wff) : zMv l T yX11_forgetWhatFollows cX11_forgetWhatFollows 2 1 0 0 [.ref xo, .int 1] [[zO10 xo t im mk rd po co tr wa wb_ fi cd], wwA, wwB, wff] (fun bs => ∃ (wwA_2 : va_W) (wwB_2 : va_W) (wff_2 : va_W), bs = [[zO10 xo t im mk rd po co tr wa wb_ fi cd], wwA_2, wwB_2, wff_2] ∧ bWays T wa laA 0 wyA pc_A f1A f2A f3A f4A f5A f6A n4A wwA_2 ∧ bWays T wb_ laB 0 wyB pc_B f1B f2B f3B f4B f5B f6B n4B wwB_2 ∧ bFit T fi 0 e1f e2f e3f e4f e5f r1f m1f r2f wff_2) := by
  refine zMv_of (own := RX11) (by decide) rfl (Nat.le_of_ble_eq_true rfl) ?_
  intro p e s m args below meth c A ls C hr hlocks hnm hAe G hl
  refine zHide (fun Q9 hQ9 => ?_)
  have hx := C.1
  have hb := C.2.1
  have hl : lv_has ls 2 [(0, .ref xo), (1, .int 1)] := hl
  refine lv_aload_n hx hb dX11_forgetWhatFollows_0 rfl (lv_at hl 0 rfl) ?_
  refine z_get C G clX11 0 rfl 9 (by decide) m_fl_RX11_65 rfl dX11_forgetWhatFollows_1 ?_
  refine lv_iconst (v := 0) hx hb dX11_forgetWhatFollows_4 (by decide) ?_
  refine zEx2 hwff ?_
  intro a1_1 a2_2 hbs9
  clear hwff
  subst hbs9
  have G : zS T A s.heap s [[zO10 xo t im mk rd po co tr wa wb_ fi cd], wwA, wwB, [zO3 fi e0f e1f e2f e3f e4f e5f a1_1 a2_2], [zAr T 0 a1_1 m1f r1f], [zAr T 0 a2_2 7 r2f]] _ _ := G.re rfl
  refine z_put C G clX3 3 rfl 0 (by decide) m_fl_RX11_109 rfl rfl rfl (Nat.le_of_ble_eq_true rfl) dX11_forgetWhatFollows_5 (fun H locs G => ?_)
  have G : zS T A s.heap s [[zO10 xo t im mk rd po co tr wa wb_ fi cd], wwA, wwB, [zO3 fi 0 e1f e2f e3f e4f e5f a1_1 a2_2], [zAr T 0 a1_1 m1f r1f], [zAr T 0 a2_2 7 r2f]] _ _ := G
  refine lv_iload_n hx hb dX11_forgetWhatFollows_8 rfl (lv_at hl 1 rfl) ?_
  refine lv_if_eq (tgt := 28) hx hb dX11_forgetWhatFollows_9 (by decide) (fun q => absurd q (by decide)) (fun _ => ?_)
  refine lv_aload_n hx hb dX11_forgetWhatFollows_12 rfl (lv_at hl 0 rfl) ?_
  refine z_get C G clX11 0 rfl 7 (by decide) m_fl_RX11_55 rfl dX11_forgetWhatFollows_13 ?_
  refine lv_iconst (v := 0) hx hb dX11_forgetWhatFollows_16 (by decide) ?_
  refine zEx6 hwwA ?_
  intro a1_3 a2_4 a3_5 a4_6 a5_7 a6_8 hbs9
  clear hwwA
  subst hbs9
  have G : zS T A s.heap s [[zO10 xo t im mk rd po co tr wa wb_ fi cd], [zO0 wa mdA wyA laA pc_A a1_3 a2_4 a3_5 a4_6 a5_7 a6_8], [zAr T 0 a1_3 7 f1A], [zAr T 0 a2_4 7 f2A], [zAr T 0 a3_5 7 f3A], [zAr T 0 a4_6 n4A f4A], [zAr T 0 a5_7 n4A f5A], [zAr T 0 a6_8 n4A f6A], wwB, [zO3 fi 0 e1f e2f e3f e4f e5f a1_1 a2_2], [zAr T 0 a1_1 m1f r1f], [zAr T 0 a2_2 7 r2f]] _ _ := G.re rfl
  refine z_put C G clX0 1 rfl 0 (by decide) m_fl_RX11_113 rfl rfl rfl (Nat.le_of_ble_eq_true rfl) dX11_forgetWhatFollows_17 (fun H locs G => ?_)
  have G : zS T A s.heap s [[zO10 xo t im mk rd po co tr wa wb_ fi cd], [zO0 wa 0 wyA laA pc_A a1_3 a2_4 a3_5 a4_6 a5_7 a6_8], [zAr T 0 a1_3 7 f1A], [zAr T 0 a2_4 7 f2A], [zAr T 0 a3_5 7 f3A], [zAr T 0 a4_6 n4A f4A], [zAr T 0 a5_7 n4A f5A], [zAr T 0 a6_8 n4A f6A], wwB, [zO3 fi 0 e1f e2f e3f e4f e5f a1_1 a2_2], [zAr T 0 a1_1 m1f r1f], [zAr T 0 a2_2 7 r2f]] _ _ := G
  refine lv_aload_n hx hb dX11_forgetWhatFollows_20 rfl (lv_at hl 0 rfl) ?_
  refine z_get C G clX11 0 rfl 8 (by decide) m_fl_RX11_59 rfl dX11_forgetWhatFollows_21 ?_
  refine lv_iconst (v := 0) hx hb dX11_forgetWhatFollows_24 (by decide) ?_
  refine zEx6 hwwB ?_
  intro a1_9 a2_10 a3_11 a4_12 a5_13 a6_14 hbs9
  clear hwwB
  subst hbs9
  have G : zS T A s.heap s [[zO10 xo t im mk rd po co tr wa wb_ fi cd], [zO0 wa 0 wyA laA pc_A a1_3 a2_4 a3_5 a4_6 a5_7 a6_8], [zAr T 0 a1_3 7 f1A], [zAr T 0 a2_4 7 f2A], [zAr T 0 a3_5 7 f3A], [zAr T 0 a4_6 n4A f4A], [zAr T 0 a5_7 n4A f5A], [zAr T 0 a6_8 n4A f6A], [zO0 wb_ mdB wyB laB pc_B a1_9 a2_10 a3_11 a4_12 a5_13 a6_14], [zAr T 0 a1_9 7 f1B], [zAr T 0 a2_10 7 f2B], [zAr T 0 a3_11 7 f3B], [zAr T 0 a4_12 n4B f4B], [zAr T 0 a5_13 n4B f5B], [zAr T 0 a6_14 n4B f6B], [zO3 fi 0 e1f e2f e3f e4f e5f a1_1 a2_2], [zAr T 0 a1_1 m1f r1f], [zAr T 0 a2_2 7 r2f]] _ _ := G.re rfl
  refine z_put C G clX0 8 rfl 0 (by decide) m_fl_RX11_113 rfl rfl rfl (Nat.le_of_ble_eq_true rfl) dX11_forgetWhatFollows_25 (fun H locs G => ?_)
  have G : zS T A s.heap s [[zO10 xo t im mk rd po co tr wa wb_ fi cd], [zO0 wa 0 wyA laA pc_A a1_3 a2_4 a3_5 a4_6 a5_7 a6_8], [zAr T 0 a1_3 7 f1A], [zAr T 0 a2_4 7 f2A], [zAr T 0 a3_5 7 f3A], [zAr T 0 a4_6 n4A f4A], [zAr T 0 a5_7 n4A f5A], [zAr T 0 a6_8 n4A f6A], [zO0 wb_ 0 wyB laB pc_B a1_9 a2_10 a3_11 a4_12 a5_13 a6_14], [zAr T 0 a1_9 7 f1B], [zAr T 0 a2_10 7 f2B], [zAr T 0 a3_11 7 f3B], [zAr T 0 a4_12 n4B f4B], [zAr T 0 a5_13 n4B f5B], [zAr T 0 a6_14 n4B f6B], [zO3 fi 0 e1f e2f e3f e4f e5f a1_1 a2_2], [zAr T 0 a1_1 m1f r1f], [zAr T 0 a2_2 7 r2f]] _ _ := G
  have hw_15 : bFit T fi 0 e1f e2f e3f e4f e5f r1f m1f r2f [zO3 fi 0 e1f e2f e3f e4f e5f a1_1 a2_2, zAr T 0 a1_1 m1f r1f, zAr T 0 a2_2 7 r2f] := ⟨a1_1, a2_2, rfl⟩
  have G : zS T A s.heap s [[zO10 xo t im mk rd po co tr wa wb_ fi cd], [zO0 wa 0 wyA laA pc_A a1_3 a2_4 a3_5 a4_6 a5_7 a6_8], [zAr T 0 a1_3 7 f1A], [zAr T 0 a2_4 7 f2A], [zAr T 0 a3_5 7 f3A], [zAr T 0 a4_6 n4A f4A], [zAr T 0 a5_7 n4A f5A], [zAr T 0 a6_8 n4A f6A], [zO0 wb_ 0 wyB laB pc_B a1_9 a2_10 a3_11 a4_12 a5_13 a6_14], [zAr T 0 a1_9 7 f1B], [zAr T 0 a2_10 7 f2B], [zAr T 0 a3_11 7 f3B], [zAr T 0 a4_12 n4B f4B], [zAr T 0 a5_13 n4B f5B], [zAr T 0 a6_14 n4B f6B], [zO3 fi 0 e1f e2f e3f e4f e5f a1_1 a2_2, zAr T 0 a1_1 m1f r1f, zAr T 0 a2_2 7 r2f]] _ _ := G.re rfl
  have hw_16 : bWays T wa laA 0 wyA pc_A f1A f2A f3A f4A f5A f6A n4A [zO0 wa 0 wyA laA pc_A a1_3 a2_4 a3_5 a4_6 a5_7 a6_8, zAr T 0 a1_3 7 f1A, zAr T 0 a2_4 7 f2A, zAr T 0 a3_5 7 f3A, zAr T 0 a4_6 n4A f4A, zAr T 0 a5_7 n4A f5A, zAr T 0 a6_8 n4A f6A] := ⟨a1_3, a2_4, a3_5, a4_6, a5_7, a6_8, rfl⟩
  have G : zS T A s.heap s [[zO10 xo t im mk rd po co tr wa wb_ fi cd], [zO0 wa 0 wyA laA pc_A a1_3 a2_4 a3_5 a4_6 a5_7 a6_8, zAr T 0 a1_3 7 f1A, zAr T 0 a2_4 7 f2A, zAr T 0 a3_5 7 f3A, zAr T 0 a4_6 n4A f4A, zAr T 0 a5_7 n4A f5A, zAr T 0 a6_8 n4A f6A], [zO0 wb_ 0 wyB laB pc_B a1_9 a2_10 a3_11 a4_12 a5_13 a6_14], [zAr T 0 a1_9 7 f1B], [zAr T 0 a2_10 7 f2B], [zAr T 0 a3_11 7 f3B], [zAr T 0 a4_12 n4B f4B], [zAr T 0 a5_13 n4B f5B], [zAr T 0 a6_14 n4B f6B], [zO3 fi 0 e1f e2f e3f e4f e5f a1_1 a2_2, zAr T 0 a1_1 m1f r1f, zAr T 0 a2_2 7 r2f]] _ _ := G.re rfl
  have hw_17 : bWays T wb_ laB 0 wyB pc_B f1B f2B f3B f4B f5B f6B n4B [zO0 wb_ 0 wyB laB pc_B a1_9 a2_10 a3_11 a4_12 a5_13 a6_14, zAr T 0 a1_9 7 f1B, zAr T 0 a2_10 7 f2B, zAr T 0 a3_11 7 f3B, zAr T 0 a4_12 n4B f4B, zAr T 0 a5_13 n4B f5B, zAr T 0 a6_14 n4B f6B] := ⟨a1_9, a2_10, a3_11, a4_12, a5_13, a6_14, rfl⟩
  have G : zS T A s.heap s [[zO10 xo t im mk rd po co tr wa wb_ fi cd], [zO0 wa 0 wyA laA pc_A a1_3 a2_4 a3_5 a4_6 a5_7 a6_8, zAr T 0 a1_3 7 f1A, zAr T 0 a2_4 7 f2A, zAr T 0 a3_5 7 f3A, zAr T 0 a4_6 n4A f4A, zAr T 0 a5_7 n4A f5A, zAr T 0 a6_8 n4A f6A], [zO0 wb_ 0 wyB laB pc_B a1_9 a2_10 a3_11 a4_12 a5_13 a6_14, zAr T 0 a1_9 7 f1B, zAr T 0 a2_10 7 f2B, zAr T 0 a3_11 7 f3B, zAr T 0 a4_12 n4B f4B, zAr T 0 a5_13 n4B f5B, zAr T 0 a6_14 n4B f6B], [zO3 fi 0 e1f e2f e3f e4f e5f a1_1 a2_2, zAr T 0 a1_1 m1f r1f, zAr T 0 a2_2 7 r2f]] _ _ := G.re rfl
  exact z_back hQ9 (z_vret C hr hlocks G (Nat.le_of_ble_eq_true rfl) (Nat.le_of_ble_eq_true rfl) dX11_forgetWhatFollows_28 ⟨([zO0 wa 0 wyA laA pc_A a1_3 a2_4 a3_5 a4_6 a5_7 a6_8, zAr T 0 a1_3 7 f1A, zAr T 0 a2_4 7 f2A, zAr T 0 a3_5 7 f3A, zAr T 0 a4_6 n4A f4A, zAr T 0 a5_7 n4A f5A, zAr T 0 a6_8 n4A f6A]), ([zO0 wb_ 0 wyB laB pc_B a1_9 a2_10 a3_11 a4_12 a5_13 a6_14, zAr T 0 a1_9 7 f1B, zAr T 0 a2_10 7 f2B, zAr T 0 a3_11 7 f3B, zAr T 0 a4_12 n4B f4B, zAr T 0 a5_13 n4B f5B, zAr T 0 a6_14 n4B f6B]), ([zO3 fi 0 e1f e2f e3f e4f e5f a1_1 a2_2, zAr T 0 a1_1 m1f r1f, zAr T 0 a2_2 7 r2f]), rfl, hw_16, hw_17, hw_15⟩)
set_option maxHeartbeats 4000000 in
set_option maxRecDepth 100000 in
/-- forget -/
theorem c_forget0 (l : Launch) (T : zTy) (xo : Nat) (t : Nat) (im : Nat) (mk : Nat) (rd : Nat) (po : Nat) (co : Nat) (tr : Nat) (wa : Nat) (wb_ : Nat) (fi : Nat) (cd : Nat) (laA : Nat) (mdA : Int32) (wyA : Int32) (pc_A : Int32) (f1A : Nat → Int32) (f2A : Nat → Int32) (f3A : Nat → Int32) (f4A : Nat → Int32) (f5A : Nat → Int32) (f6A : Nat → Int32) (n4A : Nat) (wwA : va_W) (laB : Nat) (mdB : Int32) (wyB : Int32) (pc_B : Int32) (f1B : Nat → Int32) (f2B : Nat → Int32) (f3B : Nat → Int32) (f4B : Nat → Int32) (f5B : Nat → Int32) (f6B : Nat → Int32) (n4B : Nat) (wwB : va_W) (e0f : Int32) (e1f : Int32) (e2f : Int32) (e3f : Int32) (e4f : Int32) (e5f : Int32) (r1f : Nat → Int32) (m1f : Nat) (r2f : Nat → Int32) (wff : va_W) (hwwA : bWays T wa laA mdA wyA pc_A f1A f2A f3A f4A f5A f6A n4A wwA) (hwwB : bWays T wb_ laB mdB wyB pc_B f1B f2B f3B f4B f5B f6B n4B wwB) (hwff : bFit T fi e0f e1f e2f e3f e4f e5f r1f m1f r2f wff) : zMv l T yX11_forgetWhatFollows cX11_forgetWhatFollows 2 1 0 0 [.ref xo, .int 0] [[zO10 xo t im mk rd po co tr wa wb_ fi cd], wwA, wwB, wff] (fun bs => ∃ (wff_2 : va_W), bs = [[zO10 xo t im mk rd po co tr wa wb_ fi cd], wwA, wwB, wff_2] ∧ bFit T fi 0 e1f e2f e3f e4f e5f r1f m1f r2f wff_2) := by
  refine zMv_of (own := RX11) (by decide) rfl (Nat.le_of_ble_eq_true rfl) ?_
  intro p e s m args below meth c A ls C hr hlocks hnm hAe G hl
  refine zHide (fun Q9 hQ9 => ?_)
  have hx := C.1
  have hb := C.2.1
  have hl : lv_has ls 2 [(0, .ref xo), (1, .int 0)] := hl
  refine lv_aload_n hx hb dX11_forgetWhatFollows_0 rfl (lv_at hl 0 rfl) ?_
  refine z_get C G clX11 0 rfl 9 (by decide) m_fl_RX11_65 rfl dX11_forgetWhatFollows_1 ?_
  refine lv_iconst (v := 0) hx hb dX11_forgetWhatFollows_4 (by decide) ?_
  refine zEx2 hwff ?_
  intro a1_1 a2_2 hbs9
  clear hwff
  subst hbs9
  have G : zS T A s.heap s [[zO10 xo t im mk rd po co tr wa wb_ fi cd], wwA, wwB, [zO3 fi e0f e1f e2f e3f e4f e5f a1_1 a2_2], [zAr T 0 a1_1 m1f r1f], [zAr T 0 a2_2 7 r2f]] _ _ := G.re rfl
  refine z_put C G clX3 3 rfl 0 (by decide) m_fl_RX11_109 rfl rfl rfl (Nat.le_of_ble_eq_true rfl) dX11_forgetWhatFollows_5 (fun H locs G => ?_)
  have G : zS T A s.heap s [[zO10 xo t im mk rd po co tr wa wb_ fi cd], wwA, wwB, [zO3 fi 0 e1f e2f e3f e4f e5f a1_1 a2_2], [zAr T 0 a1_1 m1f r1f], [zAr T 0 a2_2 7 r2f]] _ _ := G
  refine lv_iload_n hx hb dX11_forgetWhatFollows_8 rfl (lv_at hl 1 rfl) ?_
  refine lv_if_eq (tgt := 28) hx hb dX11_forgetWhatFollows_9 (by decide) (fun _ => ?_) (fun q => absurd (by decide) q)
  have hw_3 : bFit T fi 0 e1f e2f e3f e4f e5f r1f m1f r2f [zO3 fi 0 e1f e2f e3f e4f e5f a1_1 a2_2, zAr T 0 a1_1 m1f r1f, zAr T 0 a2_2 7 r2f] := ⟨a1_1, a2_2, rfl⟩
  have G : zS T A s.heap s [[zO10 xo t im mk rd po co tr wa wb_ fi cd], wwA, wwB, [zO3 fi 0 e1f e2f e3f e4f e5f a1_1 a2_2, zAr T 0 a1_1 m1f r1f, zAr T 0 a2_2 7 r2f]] _ _ := G.re rfl
  exact z_back hQ9 (z_vret C hr hlocks G (Nat.le_of_ble_eq_true rfl) (Nat.le_of_ble_eq_true rfl) dX11_forgetWhatFollows_28 ⟨([zO3 fi 0 e1f e2f e3f e4f e5f a1_1 a2_2, zAr T 0 a1_1 m1f r1f, zAr T 0 a2_2 7 r2f]), rfl, hw_3⟩)
theorem m_co_X0_stepsOrNever : Cond.code yX0_stepsOrNever cX0_stepsOrNever 3 (some .int) ∈ zT := zmem1 zsub_5 100 rfl rfl
theorem m_ml_RX11_286 : Cond.methodLink RX11 286 yX0_stepsOrNever ∈ zT := zmem1 zsub_5 97 rfl rfl
theorem m_im_X0_stepsOrNever : Cond.instanceMethod yX0_stepsOrNever ∈ zT := zmem1 zsub_5 98 rfl rfl
theorem m_se_X0_stepsOrNever : Cond.selects RX0 yX0_stepsOrNever yX0_stepsOrNever ∈ zT := zmem1 zsub_5 99 rfl rfl
theorem m_ml_RX11_289 : Cond.methodLink RX11 289 yX0_turned ∈ zT := zmem1 zsub_5 102 rfl rfl
theorem m_co_X11_worth : Cond.code yX11_worth cX11_worth 9 (some .int) ∈ zT := zmem1 zsub_5 96 rfl rfl
theorem m_ml_RX11_278 : Cond.methodLink RX11 278 yX11_worth ∈ zT := zmem1 zsub_5 94 rfl rfl
theorem m_st_X11_worth : Cond.static yX11_worth ∈ zT := zmem1 zsub_5 95 rfl rfl
theorem kV_RX11_286 {R : Room} {s : State} {args : Array Value} {d mc ms : Nat} (hts : ∀ w ∈ zT, w.before args s = true) (h1 : d + 1 ≤ R.frames) (h2 : 8 + (3 + 11) + 40 * d ≤ R.locals) : CallW R s args RX11 RX0 286 yX0_stepsOrNever cX0_stepsOrNever 3 (some .int) (zW yX0_stepsOrNever cX0_stepsOrNever 3 (some .int)) (zR d mc ms) mc ms 2 := z_cwV hts m_co_X0_stepsOrNever m_ml_RX11_286 m_im_X0_stepsOrNever m_se_X0_stepsOrNever m_ii_RX0 (by decide +kernel) h1 h2
theorem kV_RX11_289 {R : Room} {s : State} {args : Array Value} {d mc ms : Nat} (hts : ∀ w ∈ zT, w.before args s = true) (h1 : d + 1 ≤ R.frames) (h2 : 8 + (4 + 11) + 40 * d ≤ R.locals) : CallW R s args RX11 RX0 289 yX0_turned cX0_turned 4 (some .int) (zW yX0_turned cX0_turned 4 (some .int)) (zR d mc ms) mc ms 2 := z_cwV hts m_co_X0_turned m_ml_RX11_289 m_im_X0_turned m_se_X0_turned m_ii_RX0 (by decide +kernel) h1 h2
theorem kS_RX11_278 {R : Room} {s : State} {args : Array Value} {d mc ms : Nat} (hts : ∀ w ∈ zT, w.before args s = true) (h1 : d + 1 ≤ R.frames) (h2 : 8 + (9 + 11) + 40 * d ≤ R.locals) : CallB R s args RX11 278 yX11_worth cX11_worth 9 (some .int) (zW yX11_worth cX11_worth 9 (some .int)) (zR d mc ms) mc ms 5 ∧ (Cond.static yX11_worth).before args s = true := z_cwS hts m_co_X11_worth m_ml_RX11_278 m_st_X11_worth m_ii_RX11 (by decide +kernel) h1 h2
theorem dX11_worth_0 : decode cX11_worth 0 = .ok (.iload_n 3, 1) := zo_29 (by decide +kernel)
theorem dX11_worth_1 : decode cX11_worth 1 = .ok (.ifCond .le 8, 3) := zo_158 (by decide +kernel)
theorem dX11_worth_4 : decode cX11_worth 4 = .ok (.iload_n 3, 1) := zo_29 (by decide +kernel)
theorem dX11_worth_5 : decode cX11_worth 5 = .ok (.iconst 3, 1) := zo_6 (by decide +kernel)
theorem dX11_worth_6 : decode cX11_worth 6 = .ok (.if_icmp .le 10, 3) := zo_164 (by decide +kernel)
theorem dX11_worth_9 : decode cX11_worth 9 = .ok (.aload_n 0, 1) := zo_42 (by decide +kernel)
theorem dX11_worth_10 : decode cX11_worth 10 = .ok (.iload_n 1, 1) := zo_27 (by decide +kernel)
theorem dX11_worth_11 : decode cX11_worth 11 = .ok (.iload_n 2, 1) := zo_28 (by decide +kernel)
theorem dX11_worth_12 : decode cX11_worth 12 = .ok (.invokevirtual 286, 3) := zo_182 (by decide +kernel)
theorem dX11_worth_15 : decode cX11_worth 15 = .ok (.ireturn, 1) := zo_172 (by decide +kernel)
theorem dX11_worth_16 : decode cX11_worth 16 = .ok (.iconst (-1), 1) := zo_2 (by decide +kernel)
theorem dX11_worth_17 : decode cX11_worth 17 = .ok (.istore 5, 2) := zo_54 (by decide +kernel)
theorem dX11_worth_19 : decode cX11_worth 19 = .ok (.iconst 0, 1) := zo_3 (by decide +kernel)
theorem dX11_worth_20 : decode cX11_worth 20 = .ok (.istore 6, 2) := zo_54 (by decide +kernel)
theorem dX11_worth_22 : decode cX11_worth 22 = .ok (.iload 6, 2) := zo_21 (by decide +kernel)
theorem dX11_worth_24 : decode cX11_worth 24 = .ok (.bipush 7, 2) := zo_16 (by decide +kernel)
theorem dX11_worth_26 : decode cX11_worth 26 = .ok (.if_icmp .gt 94, 3) := zo_163 (by decide +kernel)
theorem dX11_worth_29 : decode cX11_worth 29 = .ok (.iload 6, 2) := zo_21 (by decide +kernel)
theorem dX11_worth_31 : decode cX11_worth 31 = .ok (.bipush 7, 2) := zo_16 (by decide +kernel)
theorem dX11_worth_33 : decode cX11_worth 33 = .ok (.if_icmp .ne 7, 3) := zo_160 (by decide +kernel)
theorem dX11_worth_36 : decode cX11_worth 36 = .ok (.iload_n 1, 1) := zo_27 (by decide +kernel)
theorem dX11_worth_37 : decode cX11_worth 37 = .ok (.goto 10, 3) := zo_167 (by decide +kernel)
theorem dX11_worth_40 : decode cX11_worth 40 = .ok (.aload_n 0, 1) := zo_42 (by decide +kernel)
theorem dX11_worth_41 : decode cX11_worth 41 = .ok (.iload_n 1, 1) := zo_27 (by decide +kernel)
theorem dX11_worth_42 : decode cX11_worth 42 = .ok (.iload 6, 2) := zo_21 (by decide +kernel)
theorem dX11_worth_44 : decode cX11_worth 44 = .ok (.invokevirtual 289, 3) := zo_182 (by decide +kernel)
theorem dX11_worth_47 : decode cX11_worth 47 = .ok (.istore 7, 2) := zo_54 (by decide +kernel)
theorem dX11_worth_49 : decode cX11_worth 49 = .ok (.iload 7, 2) := zo_21 (by decide +kernel)
theorem dX11_worth_51 : decode cX11_worth 51 = .ok (.iconst (-1), 1) := zo_2 (by decide +kernel)
theorem dX11_worth_52 : decode cX11_worth 52 = .ok (.if_icmp .eq 62, 3) := zo_159 (by decide +kernel)
theorem dX11_worth_55 : decode cX11_worth 55 = .ok (.aload_n 0, 1) := zo_42 (by decide +kernel)
theorem dX11_worth_56 : decode cX11_worth 56 = .ok (.iload 7, 2) := zo_21 (by decide +kernel)
theorem dX11_worth_58 : decode cX11_worth 58 = .ok (.iload_n 2, 1) := zo_28 (by decide +kernel)
theorem dX11_worth_59 : decode cX11_worth 59 = .ok (.iload_n 3, 1) := zo_29 (by decide +kernel)
theorem dX11_worth_60 : decode cX11_worth 60 = .ok (.iconst 1, 1) := zo_4 (by decide +kernel)
theorem dX11_worth_61 : decode cX11_worth 61 = .ok (.isub, 1) := zo_100 (by decide +kernel)
theorem dX11_worth_62 : decode cX11_worth 62 = .ok (.iload 4, 2) := zo_21 (by decide +kernel)
theorem dX11_worth_64 : decode cX11_worth 64 = .ok (.ifCond .ne 7, 3) := zo_154 (by decide +kernel)
theorem dX11_worth_67 : decode cX11_worth 67 = .ok (.iconst 1, 1) := zo_4 (by decide +kernel)
theorem dX11_worth_68 : decode cX11_worth 68 = .ok (.goto 4, 3) := zo_167 (by decide +kernel)
theorem dX11_worth_71 : decode cX11_worth 71 = .ok (.iconst 0, 1) := zo_3 (by decide +kernel)
theorem dX11_worth_72 : decode cX11_worth 72 = .ok (.invokestatic 278, 3) := zo_184 (by decide +kernel)
theorem dX11_worth_75 : decode cX11_worth 75 = .ok (.istore 8, 2) := zo_54 (by decide +kernel)
theorem dX11_worth_77 : decode cX11_worth 77 = .ok (.iload 5, 2) := zo_21 (by decide +kernel)
theorem dX11_worth_79 : decode cX11_worth 79 = .ok (.iconst (-1), 1) := zo_2 (by decide +kernel)
theorem dX11_worth_80 : decode cX11_worth 80 = .ok (.if_icmp .eq 25, 3) := zo_159 (by decide +kernel)
theorem dX11_worth_83 : decode cX11_worth 83 = .ok (.iload 4, 2) := zo_21 (by decide +kernel)
theorem dX11_worth_85 : decode cX11_worth 85 = .ok (.ifCond .eq 13, 3) := zo_153 (by decide +kernel)
theorem dX11_worth_88 : decode cX11_worth 88 = .ok (.iload 8, 2) := zo_21 (by decide +kernel)
theorem dX11_worth_90 : decode cX11_worth 90 = .ok (.iload 5, 2) := zo_21 (by decide +kernel)
theorem dX11_worth_92 : decode cX11_worth 92 = .ok (.if_icmp .ge 18, 3) := zo_162 (by decide +kernel)
theorem dX11_worth_95 : decode cX11_worth 95 = .ok (.goto 10, 3) := zo_167 (by decide +kernel)
theorem dX11_worth_98 : decode cX11_worth 98 = .ok (.iload 8, 2) := zo_21 (by decide +kernel)
theorem dX11_worth_100 : decode cX11_worth 100 = .ok (.iload 5, 2) := zo_21 (by decide +kernel)
theorem dX11_worth_102 : decode cX11_worth 102 = .ok (.if_icmp .le 8, 3) := zo_164 (by decide +kernel)
theorem dX11_worth_105 : decode cX11_worth 105 = .ok (.iload 8, 2) := zo_21 (by decide +kernel)
theorem dX11_worth_107 : decode cX11_worth 107 = .ok (.goto 5, 3) := zo_167 (by decide +kernel)
theorem dX11_worth_110 : decode cX11_worth 110 = .ok (.iload 5, 2) := zo_21 (by decide +kernel)
theorem dX11_worth_112 : decode cX11_worth 112 = .ok (.istore 5, 2) := zo_54 (by decide +kernel)
theorem dX11_worth_114 : decode cX11_worth 114 = .ok (.iinc 6 1, 3) := zo_132 (by decide +kernel)
theorem dX11_worth_117 : decode cX11_worth 117 = .ok (.goto (-95), 3) := zo_167 (by decide +kernel)
theorem dX11_worth_120 : decode cX11_worth 120 = .ok (.iload 5, 2) := zo_21 (by decide +kernel)
theorem dX11_worth_122 : decode cX11_worth 122 = .ok (.ireturn, 1) := zo_172 (by decide +kernel)
theorem dX11_bestTurn_0 : decode cX11_bestTurn 0 = .ok (.iconst 0, 1) := zo_3 (by decide +kernel)
theorem dX11_bestTurn_1 : decode cX11_bestTurn 1 = .ok (.istore 5, 2) := zo_54 (by decide +kernel)
theorem dX11_bestTurn_3 : decode cX11_bestTurn 3 = .ok (.iload 5, 2) := zo_21 (by decide +kernel)
theorem dX11_bestTurn_5 : decode cX11_bestTurn 5 = .ok (.bipush 7, 2) := zo_16 (by decide +kernel)
theorem dX11_bestTurn_7 : decode cX11_bestTurn 7 = .ok (.if_icmp .ge 43, 3) := zo_162 (by decide +kernel)
theorem dX11_bestTurn_10 : decode cX11_bestTurn 10 = .ok (.aload_n 0, 1) := zo_42 (by decide +kernel)
theorem dX11_bestTurn_11 : decode cX11_bestTurn 11 = .ok (.iload_n 1, 1) := zo_27 (by decide +kernel)
theorem dX11_bestTurn_12 : decode cX11_bestTurn 12 = .ok (.iload 5, 2) := zo_21 (by decide +kernel)
theorem dX11_bestTurn_14 : decode cX11_bestTurn 14 = .ok (.invokevirtual 289, 3) := zo_182 (by decide +kernel)
theorem dX11_bestTurn_17 : decode cX11_bestTurn 17 = .ok (.istore 6, 2) := zo_54 (by decide +kernel)
theorem dX11_bestTurn_19 : decode cX11_bestTurn 19 = .ok (.iload 6, 2) := zo_21 (by decide +kernel)
theorem dX11_bestTurn_21 : decode cX11_bestTurn 21 = .ok (.iconst (-1), 1) := zo_2 (by decide +kernel)
theorem dX11_bestTurn_22 : decode cX11_bestTurn 22 = .ok (.if_icmp .eq 22, 3) := zo_159 (by decide +kernel)
theorem dX11_bestTurn_25 : decode cX11_bestTurn 25 = .ok (.aload_n 0, 1) := zo_42 (by decide +kernel)
theorem dX11_bestTurn_26 : decode cX11_bestTurn 26 = .ok (.iload 6, 2) := zo_21 (by decide +kernel)
theorem dX11_bestTurn_28 : decode cX11_bestTurn 28 = .ok (.iload_n 2, 1) := zo_28 (by decide +kernel)
theorem dX11_bestTurn_29 : decode cX11_bestTurn 29 = .ok (.iload_n 3, 1) := zo_29 (by decide +kernel)
theorem dX11_bestTurn_30 : decode cX11_bestTurn 30 = .ok (.iconst 1, 1) := zo_4 (by decide +kernel)
theorem dX11_bestTurn_31 : decode cX11_bestTurn 31 = .ok (.isub, 1) := zo_100 (by decide +kernel)
theorem dX11_bestTurn_32 : decode cX11_bestTurn 32 = .ok (.iconst 0, 1) := zo_3 (by decide +kernel)
theorem dX11_bestTurn_33 : decode cX11_bestTurn 33 = .ok (.invokestatic 278, 3) := zo_184 (by decide +kernel)
theorem dX11_bestTurn_36 : decode cX11_bestTurn 36 = .ok (.iload 4, 2) := zo_21 (by decide +kernel)
theorem dX11_bestTurn_38 : decode cX11_bestTurn 38 = .ok (.if_icmp .ne 6, 3) := zo_160 (by decide +kernel)
theorem dX11_bestTurn_41 : decode cX11_bestTurn 41 = .ok (.iload 5, 2) := zo_21 (by decide +kernel)
theorem dX11_bestTurn_43 : decode cX11_bestTurn 43 = .ok (.ireturn, 1) := zo_172 (by decide +kernel)
theorem dX11_bestTurn_44 : decode cX11_bestTurn 44 = .ok (.iinc 5 1, 3) := zo_132 (by decide +kernel)
theorem dX11_bestTurn_47 : decode cX11_bestTurn 47 = .ok (.goto (-44), 3) := zo_167 (by decide +kernel)
theorem dX11_bestTurn_50 : decode cX11_bestTurn 50 = .ok (.bipush 7, 2) := zo_16 (by decide +kernel)
theorem dX11_bestTurn_52 : decode cX11_bestTurn 52 = .ok (.ireturn, 1) := zo_172 (by decide +kernel)
set_option maxHeartbeats 4000000 in
set_option maxRecDepth 100000 in
/-- worth -/
theorem c_worth0 (l : Launch) (T : zTy) (h : Nat) (la : Nat) (md : Int32) (wy : Int32) (pc_ : Int32) (f1 : Nat → Int32) (f2 : Nat → Int32) (f3 : Nat → Int32) (f4 : Nat → Int32) (f5 : Nat → Int32) (f6 : Nat → Int32) (n4 : Nat) (ww : va_W) (cr : Int32) (inn : Int32) (k1 : Nat → Int32) (k2 : Nat → Int32) (k3 : Nat → Int32) (k4 : Nat → Int32) (z : va_W) (x : Int32) (y : Int32) (q : Int32) (hww : bWays T h la md wy pc_ f1 f2 f3 f4 f5 f6 n4 ww) (hz : bLand T la cr inn k1 k2 k3 k4 z) (hI : zLI cr k1 k3) (hn : n4 ≤ 131072) : zMi l T yX11_worth cX11_worth 9 (some .int) 5 0 0 [.ref h, .int x, .int y, .int 0, .int q] [ww, z] (fun (r : Int32) bs => bs = [ww, z]) := by
  refine zMi_of (own := RX11) (by decide) rfl (Nat.le_of_ble_eq_true rfl) ?_
  intro p e s m args below meth c A ls C hr hlocks hnm hAe G hl
  refine zHide (fun Q9 hQ9 => ?_)
  have hx := C.1
  have hb := C.2.1
  have hl : lv_has ls 9 [(0, .ref h), (1, .int x), (2, .int y), (3, .int 0), (4, .int q)] := hl
  refine lv_iload_n hx hb dX11_worth_0 rfl (lv_at hl 3 rfl) ?_
  refine lv_if_le (tgt := 9) hx hb dX11_worth_1 (by decide) (fun _ => ?_) (fun q => absurd (by decide) q)
  refine lv_aload_n hx hb dX11_worth_9 rfl (lv_at hl 0 rfl) ?_
  refine lv_iload_n hx hb dX11_worth_10 rfl (lv_at hl 1 rfl) ?_
  refine lv_iload_n hx hb dX11_worth_11 rfl (lv_at hl 2 rfl) ?_
  refine z_Vi (bc := [ww, z]) (br := []) (As := [.int x, .int y]) (rest := []) C G (c_stepsOrNever l T h la md wy pc_ f1 f2 f3 f4 f5 f6 n4 ww cr inn k1 k2 k3 k4 z x y hww hz (by first | with_reducible assumption | with_reducible rfl | omega | assumption | rfl)) (kV_RX11_286 C.2.2.2.2 (Nat.le_of_ble_eq_true rfl) (Nat.le_of_ble_eq_true rfl)) [0, 1] [0, 0] rfl rfl (ci := 0) (qc := (RX0, TX0, 10)) rfl rfl (List.mem_flatten.mpr ⟨_, List.mem_of_getElem? (i := 0) rfl, (bWays_mem hww).choose_spec⟩) rfl rfl hl.1 dX11_worth_12 (Nat.le_of_ble_eq_true rfl) (Nat.le_of_ble_eq_true rfl) (fun r_1 b1 H locs hw G => ?_)
  obtain rfl := hw
  have G : zS T A s.heap s [ww, z] _ _ := G
  exact z_back hQ9 (z_iret C hr hlocks G (Nat.le_of_ble_eq_true rfl) (Nat.le_of_ble_eq_true rfl) dX11_worth_15 rfl)
set_option maxHeartbeats 4000000 in
set_option maxRecDepth 100000 in
/-- worth -/
theorem c_worth1 (l : Launch) (T : zTy) (h : Nat) (la : Nat) (md : Int32) (wy : Int32) (pc_ : Int32) (f1 : Nat → Int32) (f2 : Nat → Int32) (f3 : Nat → Int32) (f4 : Nat → Int32) (f5 : Nat → Int32) (f6 : Nat → Int32) (n4 : Nat) (ww : va_W) (cr : Int32) (inn : Int32) (k1 : Nat → Int32) (k2 : Nat → Int32) (k3 : Nat → Int32) (k4 : Nat → Int32) (z : va_W) (x : Int32) (y : Int32) (q : Int32) (hww : bWays T h la md wy pc_ f1 f2 f3 f4 f5 f6 n4 ww) (hz : bLand T la cr inn k1 k2 k3 k4 z) (hI : zLI cr k1 k3) (hn : n4 ≤ 131072) : zMi l T yX11_worth cX11_worth 9 (some .int) 6 0 0 [.ref h, .int x, .int y, .int 1, .int q] [ww, z] (fun (r : Int32) bs => bs = [ww, z]) := by
  refine zMi_of (own := RX11) (by decide) rfl (Nat.le_of_ble_eq_true rfl) ?_
  intro p e s m args below meth c A ls C hr hlocks hnm hAe G hl
  refine zHide (fun Q9 hQ9 => ?_)
  have hx := C.1
  have hb := C.2.1
  have hl : lv_has ls 9 [(0, .ref h), (1, .int x), (2, .int y), (3, .int 1), (4, .int q)] := hl
  refine lv_iload_n hx hb dX11_worth_0 rfl (lv_at hl 3 rfl) ?_
  refine lv_if_le (tgt := 9) hx hb dX11_worth_1 (by decide) (fun q => absurd q (by decide)) (fun _ => ?_)
  refine lv_iload_n hx hb dX11_worth_4 rfl (lv_at hl 3 rfl) ?_
  refine lv_iconst (v := 3) hx hb dX11_worth_5 (by decide) ?_
  refine lv_icmp_le (tgt := 16) hx hb dX11_worth_6 (by decide) (fun _ => ?_) (fun q => absurd (by decide) q)
  refine lv_iconst (v := (-1)) hx hb dX11_worth_16 (by decide) ?_
  refine lv_istore (lv' := [(5, .int (-1)), (0, .ref h), (1, .int x), (2, .int y), (3, .int 1), (4, .int q)]) hx hb dX11_worth_17 hl (by decide) rfl (fun ls hl => ?_)
  refine lv_iconst (v := 0) hx hb dX11_worth_19 (by decide) ?_
  refine lv_istore (lv' := [(6, .int 0), (5, .int (-1)), (0, .ref h), (1, .int x), (2, .int y), (3, .int 1), (4, .int q)]) hx hb dX11_worth_20 hl (by decide) rfl (fun ls hl => ?_)
  refine z_lp2 (T := T) 22 (fun (i : Nat) (u : Int32) => [ww, z]) (fun (i : Nat) (u : Int32) => [(6, .int (nI i)), (5, .int u), (0, .ref h), (1, .int x), (2, .int y), (3, .int 1), (4, .int q)]) (fun (i : Nat) (u : Int32) => i ≤ 8) (fun (i : Nat) (u : Int32) => 8 - i) ?_ 0 (-1) (show 0 ≤ 8 from by omega) G (lv_sub hl [0, 1, 2, 3, 4, 5, 6] rfl)
  intro i u hi ih_22 H locs ls G hl
  replace hi : i ≤ 8 := hi
  replace G : zS T A s.heap s [ww, z] _ _ := G
  replace hl : lv_has ls 9 [(6, .int (nI i)), (5, .int u), (0, .ref h), (1, .int x), (2, .int y), (3, .int 1), (4, .int q)] := hl
  refine lv_iload hx hb dX11_worth_22 (lv_at hl 0 rfl) ?_
  refine lv_bipush (v := 7) hx hb dX11_worth_24 (by decide) ?_
  refine lv_icmp_gt (tgt := 120) hx hb dX11_worth_26 (by decide) (fun c_1 => ?_) (fun c_1 => ?_)
  · have c_1n : 7 < i := (nI_ltI (a := 7) (b := i) (by omega) (by omega)).mp c_1
    refine lv_iload hx hb dX11_worth_120 (lv_at hl 1 rfl) ?_
    exact z_back hQ9 (z_iret C hr hlocks G (Nat.le_of_ble_eq_true rfl) (Nat.le_of_ble_eq_true rfl) dX11_worth_122 rfl)
  · have c_1n : ¬ 7 < i := fun q => c_1 ((nI_ltI (a := 7) (b := i) (by omega) (by omega)).mpr q)
    refine lv_iload hx hb dX11_worth_29 (lv_at hl 0 rfl) ?_
    refine lv_bipush (v := 7) hx hb dX11_worth_31 (by decide) ?_
    refine lv_icmp_ne (tgt := 40) hx hb dX11_worth_33 (by decide) (fun c_2 => ?_) (fun c_2 => ?_)
    · have c_2n : ¬ i = 7 := fun q => c_2 ((nI_eq (a := i) (b := 7) (by omega) (by omega)).mpr q)
      refine lv_aload_n hx hb dX11_worth_40 rfl (lv_at hl 2 rfl) ?_
      refine lv_iload_n hx hb dX11_worth_41 rfl (lv_at hl 3 rfl) ?_
      refine lv_iload hx hb dX11_worth_42 (lv_at hl 0 rfl) ?_
      refine z_Vi (bc := [ww, z]) (br := []) (As := [.int x, .int (nI i)]) (rest := []) C G (c_turned l T h la md wy pc_ f1 f2 f3 f4 f5 f6 n4 ww cr inn k1 k2 k3 k4 z x (nI i) hww hz (by first | with_reducible assumption | with_reducible rfl | omega | assumption | rfl)) (kV_RX11_289 C.2.2.2.2 (Nat.le_of_ble_eq_true rfl) (Nat.le_of_ble_eq_true rfl)) [0, 1] [0, 0] rfl rfl (ci := 0) (qc := (RX0, TX0, 10)) rfl rfl (List.mem_flatten.mpr ⟨_, List.mem_of_getElem? (i := 0) rfl, (bWays_mem hww).choose_spec⟩) rfl rfl hl.1 dX11_worth_44 (Nat.le_of_ble_eq_true rfl) (Nat.le_of_ble_eq_true rfl) (fun r_3 b1 H locs hw G => ?_)
      obtain rfl := hw
      have G : zS T A s.heap s [ww, z] _ _ := G
      refine lv_istore (lv' := [(7, .int r_3), (6, .int (nI i)), (5, .int u), (0, .ref h), (1, .int x), (2, .int y), (3, .int 1), (4, .int q)]) hx hb dX11_worth_47 hl (by decide) rfl (fun ls hl => ?_)
      refine lv_iload hx hb dX11_worth_49 (lv_at hl 0 rfl) ?_
      refine lv_iconst (v := (-1)) hx hb dX11_worth_51 (by decide) ?_
      refine lv_icmp_eq (tgt := 114) hx hb dX11_worth_52 (by decide) (fun c_4 => ?_) (fun c_4 => ?_)
      · have c_4n : r_3.toInt = (-1 : Int) := (fa_eq _ _).mp c_4
        refine lv_iinc (v := nI (i + 1)) (lv' := [(6, .int (nI (i + 1))), (7, .int r_3), (5, .int u), (0, .ref h), (1, .int x), (2, .int y), (3, .int 1), (4, .int q)]) hx hb dX11_worth_114 hl (k := 1) rfl (z_inc i 1) (by decide) rfl (fun ls hl => ?_)
        refine lv_goto (tgt := 22) hx hb dX11_worth_117 (by decide) ?_
        exact ih_22 (i + 1) u (show (i + 1) ≤ 8 from by omega) (show 8 - (i + 1) < 8 - i from by omega) _ _ ls G (lv_sub hl [0, 2, 3, 4, 5, 6, 7] rfl)
      · have c_4n : ¬ r_3.toInt = (-1 : Int) := fun q => c_4 ((fa_eq _ _).mpr q)
        refine lv_aload_n hx hb dX11_worth_55 rfl (lv_at hl 3 rfl) ?_
        refine lv_iload hx hb dX11_worth_56 (lv_at hl 0 rfl) ?_
        refine lv_iload_n hx hb dX11_worth_58 rfl (lv_at hl 5 rfl) ?_
        refine lv_iload_n hx hb dX11_worth_59 rfl (lv_at hl 6 rfl) ?_
        refine lv_iconst (v := 1) hx hb dX11_worth_60 (by decide) ?_
        refine lv_isub hx hb dX11_worth_61 ?_
        refine lv_topi (fun y_5 ey_5 => ?_)
        obtain rfl : y_5 = 0 := ey_5.trans (by decide)
        refine lv_iload hx hb dX11_worth_62 (lv_at hl 7 rfl) ?_
        refine lv_if_ne (tgt := 71) hx hb dX11_worth_64 (by decide) (fun c_6 => ?_) (fun c_6 => ?_)
        · have c_6n : ¬ q.toInt = (0 : Int) := fun q => c_6 ((fa_eq _ _).mpr q)
          refine lv_iconst (v := 0) hx hb dX11_worth_71 (by decide) ?_
          refine z_Si (bc := [ww, z]) (br := []) (As := [.ref h, .int r_3, .int y, .int 0, .int 0]) (rest := []) C G (c_worth0 l T h la md wy pc_ f1 f2 f3 f4 f5 f6 n4 ww cr inn k1 k2 k3 k4 z r_3 y 0 hww hz (by first | with_reducible assumption | with_reducible rfl | omega | assumption | rfl) (by first | with_reducible assumption | with_reducible rfl | omega | assumption | rfl)) (kS_RX11_278 C.2.2.2.2 (Nat.le_of_ble_eq_true rfl) (Nat.le_of_ble_eq_true rfl)) [0, 1] [0, 0] rfl rfl rfl rfl hl.1 dX11_worth_72 (Nat.le_of_ble_eq_true rfl) (Nat.le_of_ble_eq_true rfl) (fun r_7 b1 H locs hw G => ?_)
          obtain rfl := hw
          have G : zS T A s.heap s [ww, z] _ _ := G
          refine lv_istore (lv' := [(8, .int r_7), (7, .int r_3), (6, .int (nI i)), (5, .int u), (0, .ref h), (1, .int x), (2, .int y), (3, .int 1), (4, .int q)]) hx hb dX11_worth_75 hl (by decide) rfl (fun ls hl => ?_)
          refine lv_iload hx hb dX11_worth_77 (lv_at hl 3 rfl) ?_
          refine lv_iconst (v := (-1)) hx hb dX11_worth_79 (by decide) ?_
          refine lv_icmp_eq (tgt := 105) hx hb dX11_worth_80 (by decide) (fun c_8 => ?_) (fun c_8 => ?_)
          · have c_8n : u.toInt = (-1 : Int) := (fa_eq _ _).mp c_8
            refine lv_iload hx hb dX11_worth_105 (lv_at hl 0 rfl) ?_
            refine lv_goto (tgt := 112) hx hb dX11_worth_107 (by decide) ?_
            refine lv_istore (lv' := [(5, .int r_7), (8, .int r_7), (7, .int r_3), (6, .int (nI i)), (0, .ref h), (1, .int x), (2, .int y), (3, .int 1), (4, .int q)]) hx hb dX11_worth_112 hl (by decide) rfl (fun ls hl => ?_)
            refine lv_iinc (v := nI (i + 1)) (lv' := [(6, .int (nI (i + 1))), (5, .int r_7), (8, .int r_7), (7, .int r_3), (0, .ref h), (1, .int x), (2, .int y), (3, .int 1), (4, .int q)]) hx hb dX11_worth_114 hl (k := 3) rfl (z_inc i 1) (by decide) rfl (fun ls hl => ?_)
            refine lv_goto (tgt := 22) hx hb dX11_worth_117 (by decide) ?_
            exact ih_22 (i + 1) r_7 (show (i + 1) ≤ 8 from by omega) (show 8 - (i + 1) < 8 - i from by omega) _ _ ls G (lv_sub hl [0, 1, 4, 5, 6, 7, 8] rfl)
          · have c_8n : ¬ u.toInt = (-1 : Int) := fun q => c_8 ((fa_eq _ _).mpr q)
            refine lv_iload hx hb dX11_worth_83 (lv_at hl 8 rfl) ?_
            refine lv_if_eq (tgt := 98) hx hb dX11_worth_85 (by decide) (fun q => absurd q c_6) (fun _ => ?_)
            refine lv_iload hx hb dX11_worth_88 (lv_at hl 0 rfl) ?_
            refine lv_iload hx hb dX11_worth_90 (lv_at hl 3 rfl) ?_
            refine lv_icmp_ge (tgt := 110) hx hb dX11_worth_92 (by decide) (fun c_9 => ?_) (fun c_9 => ?_)
            · have c_9n : u.toInt ≤ r_7.toInt := (fa_le _ _).mp c_9
              refine lv_iload hx hb dX11_worth_110 (lv_at hl 3 rfl) ?_
              refine lv_istore (lv' := [(5, .int u), (8, .int r_7), (7, .int r_3), (6, .int (nI i)), (0, .ref h), (1, .int x), (2, .int y), (3, .int 1), (4, .int q)]) hx hb dX11_worth_112 hl (by decide) rfl (fun ls hl => ?_)
              refine lv_iinc (v := nI (i + 1)) (lv' := [(6, .int (nI (i + 1))), (5, .int u), (8, .int r_7), (7, .int r_3), (0, .ref h), (1, .int x), (2, .int y), (3, .int 1), (4, .int q)]) hx hb dX11_worth_114 hl (k := 3) rfl (z_inc i 1) (by decide) rfl (fun ls hl => ?_)
              refine lv_goto (tgt := 22) hx hb dX11_worth_117 (by decide) ?_
              exact ih_22 (i + 1) u (show (i + 1) ≤ 8 from by omega) (show 8 - (i + 1) < 8 - i from by omega) _ _ ls G (lv_sub hl [0, 1, 4, 5, 6, 7, 8] rfl)
            · have c_9n : ¬ u.toInt ≤ r_7.toInt := fun q => c_9 ((fa_le _ _).mpr q)
              refine lv_goto (tgt := 105) hx hb dX11_worth_95 (by decide) ?_
              refine lv_iload hx hb dX11_worth_105 (lv_at hl 0 rfl) ?_
              refine lv_goto (tgt := 112) hx hb dX11_worth_107 (by decide) ?_
              refine lv_istore (lv' := [(5, .int r_7), (8, .int r_7), (7, .int r_3), (6, .int (nI i)), (0, .ref h), (1, .int x), (2, .int y), (3, .int 1), (4, .int q)]) hx hb dX11_worth_112 hl (by decide) rfl (fun ls hl => ?_)
              refine lv_iinc (v := nI (i + 1)) (lv' := [(6, .int (nI (i + 1))), (5, .int r_7), (8, .int r_7), (7, .int r_3), (0, .ref h), (1, .int x), (2, .int y), (3, .int 1), (4, .int q)]) hx hb dX11_worth_114 hl (k := 3) rfl (z_inc i 1) (by decide) rfl (fun ls hl => ?_)
              refine lv_goto (tgt := 22) hx hb dX11_worth_117 (by decide) ?_
              exact ih_22 (i + 1) r_7 (show (i + 1) ≤ 8 from by omega) (show 8 - (i + 1) < 8 - i from by omega) _ _ ls G (lv_sub hl [0, 1, 4, 5, 6, 7, 8] rfl)
        · have c_6n : q.toInt = (0 : Int) := (fa_eq _ _).mp c_6
          refine lv_iconst (v := 1) hx hb dX11_worth_67 (by decide) ?_
          refine lv_goto (tgt := 72) hx hb dX11_worth_68 (by decide) ?_
          refine z_Si (bc := [ww, z]) (br := []) (As := [.ref h, .int r_3, .int y, .int 0, .int 1]) (rest := []) C G (c_worth0 l T h la md wy pc_ f1 f2 f3 f4 f5 f6 n4 ww cr inn k1 k2 k3 k4 z r_3 y 1 hww hz (by first | with_reducible assumption | with_reducible rfl | omega | assumption | rfl) (by first | with_reducible assumption | with_reducible rfl | omega | assumption | rfl)) (kS_RX11_278 C.2.2.2.2 (Nat.le_of_ble_eq_true rfl) (Nat.le_of_ble_eq_true rfl)) [0, 1] [0, 0] rfl rfl rfl rfl hl.1 dX11_worth_72 (Nat.le_of_ble_eq_true rfl) (Nat.le_of_ble_eq_true rfl) (fun r_10 b1 H locs hw G => ?_)
          obtain rfl := hw
          have G : zS T A s.heap s [ww, z] _ _ := G
          refine lv_istore (lv' := [(8, .int r_10), (7, .int r_3), (6, .int (nI i)), (5, .int u), (0, .ref h), (1, .int x), (2, .int y), (3, .int 1), (4, .int q)]) hx hb dX11_worth_75 hl (by decide) rfl (fun ls hl => ?_)
          refine lv_iload hx hb dX11_worth_77 (lv_at hl 3 rfl) ?_
          refine lv_iconst (v := (-1)) hx hb dX11_worth_79 (by decide) ?_
          refine lv_icmp_eq (tgt := 105) hx hb dX11_worth_80 (by decide) (fun c_11 => ?_) (fun c_11 => ?_)
          · have c_11n : u.toInt = (-1 : Int) := (fa_eq _ _).mp c_11
            refine lv_iload hx hb dX11_worth_105 (lv_at hl 0 rfl) ?_
            refine lv_goto (tgt := 112) hx hb dX11_worth_107 (by decide) ?_
            refine lv_istore (lv' := [(5, .int r_10), (8, .int r_10), (7, .int r_3), (6, .int (nI i)), (0, .ref h), (1, .int x), (2, .int y), (3, .int 1), (4, .int q)]) hx hb dX11_worth_112 hl (by decide) rfl (fun ls hl => ?_)
            refine lv_iinc (v := nI (i + 1)) (lv' := [(6, .int (nI (i + 1))), (5, .int r_10), (8, .int r_10), (7, .int r_3), (0, .ref h), (1, .int x), (2, .int y), (3, .int 1), (4, .int q)]) hx hb dX11_worth_114 hl (k := 3) rfl (z_inc i 1) (by decide) rfl (fun ls hl => ?_)
            refine lv_goto (tgt := 22) hx hb dX11_worth_117 (by decide) ?_
            exact ih_22 (i + 1) r_10 (show (i + 1) ≤ 8 from by omega) (show 8 - (i + 1) < 8 - i from by omega) _ _ ls G (lv_sub hl [0, 1, 4, 5, 6, 7, 8] rfl)
          · have c_11n : ¬ u.toInt = (-1 : Int) := fun q => c_11 ((fa_eq _ _).mpr q)
            refine lv_iload hx hb dX11_worth_83 (lv_at hl 8 rfl) ?_
            refine lv_if_eq (tgt := 98) hx hb dX11_worth_85 (by decide) (fun _ => ?_) (fun q => absurd c_6 q)
            refine lv_iload hx hb dX11_worth_98 (lv_at hl 0 rfl) ?_
            refine lv_iload hx hb dX11_worth_100 (lv_at hl 3 rfl) ?_
            refine lv_icmp_le (tgt := 110) hx hb dX11_worth_102 (by decide) (fun c_12 => ?_) (fun c_12 => ?_)
            · have c_12n : r_10.toInt ≤ u.toInt := (fa_le _ _).mp c_12
              refine lv_iload hx hb dX11_worth_110 (lv_at hl 3 rfl) ?_
              refine lv_istore (lv' := [(5, .int u), (8, .int r_10), (7, .int r_3), (6, .int (nI i)), (0, .ref h), (1, .int x), (2, .int y), (3, .int 1), (4, .int q)]) hx hb dX11_worth_112 hl (by decide) rfl (fun ls hl => ?_)
              refine lv_iinc (v := nI (i + 1)) (lv' := [(6, .int (nI (i + 1))), (5, .int u), (8, .int r_10), (7, .int r_3), (0, .ref h), (1, .int x), (2, .int y), (3, .int 1), (4, .int q)]) hx hb dX11_worth_114 hl (k := 3) rfl (z_inc i 1) (by decide) rfl (fun ls hl => ?_)
              refine lv_goto (tgt := 22) hx hb dX11_worth_117 (by decide) ?_
              exact ih_22 (i + 1) u (show (i + 1) ≤ 8 from by omega) (show 8 - (i + 1) < 8 - i from by omega) _ _ ls G (lv_sub hl [0, 1, 4, 5, 6, 7, 8] rfl)
            · have c_12n : ¬ r_10.toInt ≤ u.toInt := fun q => c_12 ((fa_le _ _).mpr q)
              refine lv_iload hx hb dX11_worth_105 (lv_at hl 0 rfl) ?_
              refine lv_goto (tgt := 112) hx hb dX11_worth_107 (by decide) ?_
              refine lv_istore (lv' := [(5, .int r_10), (8, .int r_10), (7, .int r_3), (6, .int (nI i)), (0, .ref h), (1, .int x), (2, .int y), (3, .int 1), (4, .int q)]) hx hb dX11_worth_112 hl (by decide) rfl (fun ls hl => ?_)
              refine lv_iinc (v := nI (i + 1)) (lv' := [(6, .int (nI (i + 1))), (5, .int r_10), (8, .int r_10), (7, .int r_3), (0, .ref h), (1, .int x), (2, .int y), (3, .int 1), (4, .int q)]) hx hb dX11_worth_114 hl (k := 3) rfl (z_inc i 1) (by decide) rfl (fun ls hl => ?_)
              refine lv_goto (tgt := 22) hx hb dX11_worth_117 (by decide) ?_
              exact ih_22 (i + 1) r_10 (show (i + 1) ≤ 8 from by omega) (show 8 - (i + 1) < 8 - i from by omega) _ _ ls G (lv_sub hl [0, 1, 4, 5, 6, 7, 8] rfl)
    · have c_2n : i = 7 := (nI_eq (a := i) (b := 7) (by omega) (by omega)).mp c_2
      refine lv_iload_n hx hb dX11_worth_36 rfl (lv_at hl 3 rfl) ?_
      refine lv_goto (tgt := 47) hx hb dX11_worth_37 (by decide) ?_
      refine lv_istore (lv' := [(7, .int x), (6, .int (nI i)), (5, .int u), (0, .ref h), (1, .int x), (2, .int y), (3, .int 1), (4, .int q)]) hx hb dX11_worth_47 hl (by decide) rfl (fun ls hl => ?_)
      refine lv_iload hx hb dX11_worth_49 (lv_at hl 0 rfl) ?_
      refine lv_iconst (v := (-1)) hx hb dX11_worth_51 (by decide) ?_
      refine lv_icmp_eq (tgt := 114) hx hb dX11_worth_52 (by decide) (fun c_13 => ?_) (fun c_13 => ?_)
      · have c_13n : x.toInt = (-1 : Int) := (fa_eq _ _).mp c_13
        refine lv_iinc (v := nI (i + 1)) (lv' := [(6, .int (nI (i + 1))), (7, .int x), (5, .int u), (0, .ref h), (1, .int x), (2, .int y), (3, .int 1), (4, .int q)]) hx hb dX11_worth_114 hl (k := 1) rfl (z_inc i 1) (by decide) rfl (fun ls hl => ?_)
        refine lv_goto (tgt := 22) hx hb dX11_worth_117 (by decide) ?_
        exact ih_22 (i + 1) u (show (i + 1) ≤ 8 from by omega) (show 8 - (i + 1) < 8 - i from by omega) _ _ ls G (lv_sub hl [0, 2, 3, 4, 5, 6, 7] rfl)
      · have c_13n : ¬ x.toInt = (-1 : Int) := fun q => c_13 ((fa_eq _ _).mpr q)
        refine lv_aload_n hx hb dX11_worth_55 rfl (lv_at hl 3 rfl) ?_
        refine lv_iload hx hb dX11_worth_56 (lv_at hl 0 rfl) ?_
        refine lv_iload_n hx hb dX11_worth_58 rfl (lv_at hl 5 rfl) ?_
        refine lv_iload_n hx hb dX11_worth_59 rfl (lv_at hl 6 rfl) ?_
        refine lv_iconst (v := 1) hx hb dX11_worth_60 (by decide) ?_
        refine lv_isub hx hb dX11_worth_61 ?_
        refine lv_topi (fun y_14 ey_14 => ?_)
        obtain rfl : y_14 = 0 := ey_14.trans (by decide)
        refine lv_iload hx hb dX11_worth_62 (lv_at hl 7 rfl) ?_
        refine lv_if_ne (tgt := 71) hx hb dX11_worth_64 (by decide) (fun c_15 => ?_) (fun c_15 => ?_)
        · have c_15n : ¬ q.toInt = (0 : Int) := fun q => c_15 ((fa_eq _ _).mpr q)
          refine lv_iconst (v := 0) hx hb dX11_worth_71 (by decide) ?_
          refine z_Si (bc := [ww, z]) (br := []) (As := [.ref h, .int x, .int y, .int 0, .int 0]) (rest := []) C G (c_worth0 l T h la md wy pc_ f1 f2 f3 f4 f5 f6 n4 ww cr inn k1 k2 k3 k4 z x y 0 hww hz (by first | with_reducible assumption | with_reducible rfl | omega | assumption | rfl) (by first | with_reducible assumption | with_reducible rfl | omega | assumption | rfl)) (kS_RX11_278 C.2.2.2.2 (Nat.le_of_ble_eq_true rfl) (Nat.le_of_ble_eq_true rfl)) [0, 1] [0, 0] rfl rfl rfl rfl hl.1 dX11_worth_72 (Nat.le_of_ble_eq_true rfl) (Nat.le_of_ble_eq_true rfl) (fun r_16 b1 H locs hw G => ?_)
          obtain rfl := hw
          have G : zS T A s.heap s [ww, z] _ _ := G
          refine lv_istore (lv' := [(8, .int r_16), (7, .int x), (6, .int (nI i)), (5, .int u), (0, .ref h), (1, .int x), (2, .int y), (3, .int 1), (4, .int q)]) hx hb dX11_worth_75 hl (by decide) rfl (fun ls hl => ?_)
          refine lv_iload hx hb dX11_worth_77 (lv_at hl 3 rfl) ?_
          refine lv_iconst (v := (-1)) hx hb dX11_worth_79 (by decide) ?_
          refine lv_icmp_eq (tgt := 105) hx hb dX11_worth_80 (by decide) (fun c_17 => ?_) (fun c_17 => ?_)
          · have c_17n : u.toInt = (-1 : Int) := (fa_eq _ _).mp c_17
            refine lv_iload hx hb dX11_worth_105 (lv_at hl 0 rfl) ?_
            refine lv_goto (tgt := 112) hx hb dX11_worth_107 (by decide) ?_
            refine lv_istore (lv' := [(5, .int r_16), (8, .int r_16), (7, .int x), (6, .int (nI i)), (0, .ref h), (1, .int x), (2, .int y), (3, .int 1), (4, .int q)]) hx hb dX11_worth_112 hl (by decide) rfl (fun ls hl => ?_)
            refine lv_iinc (v := nI (i + 1)) (lv' := [(6, .int (nI (i + 1))), (5, .int r_16), (8, .int r_16), (7, .int x), (0, .ref h), (1, .int x), (2, .int y), (3, .int 1), (4, .int q)]) hx hb dX11_worth_114 hl (k := 3) rfl (z_inc i 1) (by decide) rfl (fun ls hl => ?_)
            refine lv_goto (tgt := 22) hx hb dX11_worth_117 (by decide) ?_
            exact ih_22 (i + 1) r_16 (show (i + 1) ≤ 8 from by omega) (show 8 - (i + 1) < 8 - i from by omega) _ _ ls G (lv_sub hl [0, 1, 4, 5, 6, 7, 8] rfl)
          · have c_17n : ¬ u.toInt = (-1 : Int) := fun q => c_17 ((fa_eq _ _).mpr q)
            refine lv_iload hx hb dX11_worth_83 (lv_at hl 8 rfl) ?_
            refine lv_if_eq (tgt := 98) hx hb dX11_worth_85 (by decide) (fun q => absurd q c_15) (fun _ => ?_)
            refine lv_iload hx hb dX11_worth_88 (lv_at hl 0 rfl) ?_
            refine lv_iload hx hb dX11_worth_90 (lv_at hl 3 rfl) ?_
            refine lv_icmp_ge (tgt := 110) hx hb dX11_worth_92 (by decide) (fun c_18 => ?_) (fun c_18 => ?_)
            · have c_18n : u.toInt ≤ r_16.toInt := (fa_le _ _).mp c_18
              refine lv_iload hx hb dX11_worth_110 (lv_at hl 3 rfl) ?_
              refine lv_istore (lv' := [(5, .int u), (8, .int r_16), (7, .int x), (6, .int (nI i)), (0, .ref h), (1, .int x), (2, .int y), (3, .int 1), (4, .int q)]) hx hb dX11_worth_112 hl (by decide) rfl (fun ls hl => ?_)
              refine lv_iinc (v := nI (i + 1)) (lv' := [(6, .int (nI (i + 1))), (5, .int u), (8, .int r_16), (7, .int x), (0, .ref h), (1, .int x), (2, .int y), (3, .int 1), (4, .int q)]) hx hb dX11_worth_114 hl (k := 3) rfl (z_inc i 1) (by decide) rfl (fun ls hl => ?_)
              refine lv_goto (tgt := 22) hx hb dX11_worth_117 (by decide) ?_
              exact ih_22 (i + 1) u (show (i + 1) ≤ 8 from by omega) (show 8 - (i + 1) < 8 - i from by omega) _ _ ls G (lv_sub hl [0, 1, 4, 5, 6, 7, 8] rfl)
            · have c_18n : ¬ u.toInt ≤ r_16.toInt := fun q => c_18 ((fa_le _ _).mpr q)
              refine lv_goto (tgt := 105) hx hb dX11_worth_95 (by decide) ?_
              refine lv_iload hx hb dX11_worth_105 (lv_at hl 0 rfl) ?_
              refine lv_goto (tgt := 112) hx hb dX11_worth_107 (by decide) ?_
              refine lv_istore (lv' := [(5, .int r_16), (8, .int r_16), (7, .int x), (6, .int (nI i)), (0, .ref h), (1, .int x), (2, .int y), (3, .int 1), (4, .int q)]) hx hb dX11_worth_112 hl (by decide) rfl (fun ls hl => ?_)
              refine lv_iinc (v := nI (i + 1)) (lv' := [(6, .int (nI (i + 1))), (5, .int r_16), (8, .int r_16), (7, .int x), (0, .ref h), (1, .int x), (2, .int y), (3, .int 1), (4, .int q)]) hx hb dX11_worth_114 hl (k := 3) rfl (z_inc i 1) (by decide) rfl (fun ls hl => ?_)
              refine lv_goto (tgt := 22) hx hb dX11_worth_117 (by decide) ?_
              exact ih_22 (i + 1) r_16 (show (i + 1) ≤ 8 from by omega) (show 8 - (i + 1) < 8 - i from by omega) _ _ ls G (lv_sub hl [0, 1, 4, 5, 6, 7, 8] rfl)
        · have c_15n : q.toInt = (0 : Int) := (fa_eq _ _).mp c_15
          refine lv_iconst (v := 1) hx hb dX11_worth_67 (by decide) ?_
          refine lv_goto (tgt := 72) hx hb dX11_worth_68 (by decide) ?_
          refine z_Si (bc := [ww, z]) (br := []) (As := [.ref h, .int x, .int y, .int 0, .int 1]) (rest := []) C G (c_worth0 l T h la md wy pc_ f1 f2 f3 f4 f5 f6 n4 ww cr inn k1 k2 k3 k4 z x y 1 hww hz (by first | with_reducible assumption | with_reducible rfl | omega | assumption | rfl) (by first | with_reducible assumption | with_reducible rfl | omega | assumption | rfl)) (kS_RX11_278 C.2.2.2.2 (Nat.le_of_ble_eq_true rfl) (Nat.le_of_ble_eq_true rfl)) [0, 1] [0, 0] rfl rfl rfl rfl hl.1 dX11_worth_72 (Nat.le_of_ble_eq_true rfl) (Nat.le_of_ble_eq_true rfl) (fun r_19 b1 H locs hw G => ?_)
          obtain rfl := hw
          have G : zS T A s.heap s [ww, z] _ _ := G
          refine lv_istore (lv' := [(8, .int r_19), (7, .int x), (6, .int (nI i)), (5, .int u), (0, .ref h), (1, .int x), (2, .int y), (3, .int 1), (4, .int q)]) hx hb dX11_worth_75 hl (by decide) rfl (fun ls hl => ?_)
          refine lv_iload hx hb dX11_worth_77 (lv_at hl 3 rfl) ?_
          refine lv_iconst (v := (-1)) hx hb dX11_worth_79 (by decide) ?_
          refine lv_icmp_eq (tgt := 105) hx hb dX11_worth_80 (by decide) (fun c_20 => ?_) (fun c_20 => ?_)
          · have c_20n : u.toInt = (-1 : Int) := (fa_eq _ _).mp c_20
            refine lv_iload hx hb dX11_worth_105 (lv_at hl 0 rfl) ?_
            refine lv_goto (tgt := 112) hx hb dX11_worth_107 (by decide) ?_
            refine lv_istore (lv' := [(5, .int r_19), (8, .int r_19), (7, .int x), (6, .int (nI i)), (0, .ref h), (1, .int x), (2, .int y), (3, .int 1), (4, .int q)]) hx hb dX11_worth_112 hl (by decide) rfl (fun ls hl => ?_)
            refine lv_iinc (v := nI (i + 1)) (lv' := [(6, .int (nI (i + 1))), (5, .int r_19), (8, .int r_19), (7, .int x), (0, .ref h), (1, .int x), (2, .int y), (3, .int 1), (4, .int q)]) hx hb dX11_worth_114 hl (k := 3) rfl (z_inc i 1) (by decide) rfl (fun ls hl => ?_)
            refine lv_goto (tgt := 22) hx hb dX11_worth_117 (by decide) ?_
            exact ih_22 (i + 1) r_19 (show (i + 1) ≤ 8 from by omega) (show 8 - (i + 1) < 8 - i from by omega) _ _ ls G (lv_sub hl [0, 1, 4, 5, 6, 7, 8] rfl)
          · have c_20n : ¬ u.toInt = (-1 : Int) := fun q => c_20 ((fa_eq _ _).mpr q)
            refine lv_iload hx hb dX11_worth_83 (lv_at hl 8 rfl) ?_
            refine lv_if_eq (tgt := 98) hx hb dX11_worth_85 (by decide) (fun _ => ?_) (fun q => absurd c_15 q)
            refine lv_iload hx hb dX11_worth_98 (lv_at hl 0 rfl) ?_
            refine lv_iload hx hb dX11_worth_100 (lv_at hl 3 rfl) ?_
            refine lv_icmp_le (tgt := 110) hx hb dX11_worth_102 (by decide) (fun c_21 => ?_) (fun c_21 => ?_)
            · have c_21n : r_19.toInt ≤ u.toInt := (fa_le _ _).mp c_21
              refine lv_iload hx hb dX11_worth_110 (lv_at hl 3 rfl) ?_
              refine lv_istore (lv' := [(5, .int u), (8, .int r_19), (7, .int x), (6, .int (nI i)), (0, .ref h), (1, .int x), (2, .int y), (3, .int 1), (4, .int q)]) hx hb dX11_worth_112 hl (by decide) rfl (fun ls hl => ?_)
              refine lv_iinc (v := nI (i + 1)) (lv' := [(6, .int (nI (i + 1))), (5, .int u), (8, .int r_19), (7, .int x), (0, .ref h), (1, .int x), (2, .int y), (3, .int 1), (4, .int q)]) hx hb dX11_worth_114 hl (k := 3) rfl (z_inc i 1) (by decide) rfl (fun ls hl => ?_)
              refine lv_goto (tgt := 22) hx hb dX11_worth_117 (by decide) ?_
              exact ih_22 (i + 1) u (show (i + 1) ≤ 8 from by omega) (show 8 - (i + 1) < 8 - i from by omega) _ _ ls G (lv_sub hl [0, 1, 4, 5, 6, 7, 8] rfl)
            · have c_21n : ¬ r_19.toInt ≤ u.toInt := fun q => c_21 ((fa_le _ _).mpr q)
              refine lv_iload hx hb dX11_worth_105 (lv_at hl 0 rfl) ?_
              refine lv_goto (tgt := 112) hx hb dX11_worth_107 (by decide) ?_
              refine lv_istore (lv' := [(5, .int r_19), (8, .int r_19), (7, .int x), (6, .int (nI i)), (0, .ref h), (1, .int x), (2, .int y), (3, .int 1), (4, .int q)]) hx hb dX11_worth_112 hl (by decide) rfl (fun ls hl => ?_)
              refine lv_iinc (v := nI (i + 1)) (lv' := [(6, .int (nI (i + 1))), (5, .int r_19), (8, .int r_19), (7, .int x), (0, .ref h), (1, .int x), (2, .int y), (3, .int 1), (4, .int q)]) hx hb dX11_worth_114 hl (k := 3) rfl (z_inc i 1) (by decide) rfl (fun ls hl => ?_)
              refine lv_goto (tgt := 22) hx hb dX11_worth_117 (by decide) ?_
              exact ih_22 (i + 1) r_19 (show (i + 1) ≤ 8 from by omega) (show 8 - (i + 1) < 8 - i from by omega) _ _ ls G (lv_sub hl [0, 1, 4, 5, 6, 7, 8] rfl)
set_option maxHeartbeats 4000000 in
set_option maxRecDepth 100000 in
/-- worth -/
theorem c_worth2 (l : Launch) (T : zTy) (h : Nat) (la : Nat) (md : Int32) (wy : Int32) (pc_ : Int32) (f1 : Nat → Int32) (f2 : Nat → Int32) (f3 : Nat → Int32) (f4 : Nat → Int32) (f5 : Nat → Int32) (f6 : Nat → Int32) (n4 : Nat) (ww : va_W) (cr : Int32) (inn : Int32) (k1 : Nat → Int32) (k2 : Nat → Int32) (k3 : Nat → Int32) (k4 : Nat → Int32) (z : va_W) (x : Int32) (y : Int32) (q : Int32) (hww : bWays T h la md wy pc_ f1 f2 f3 f4 f5 f6 n4 ww) (hz : bLand T la cr inn k1 k2 k3 k4 z) (hI : zLI cr k1 k3) (hn : n4 ≤ 131072) : zMi l T yX11_worth cX11_worth 9 (some .int) 7 0 0 [.ref h, .int x, .int y, .int 2, .int q] [ww, z] (fun (r : Int32) bs => bs = [ww, z]) := by
  refine zMi_of (own := RX11) (by decide) rfl (Nat.le_of_ble_eq_true rfl) ?_
  intro p e s m args below meth c A ls C hr hlocks hnm hAe G hl
  refine zHide (fun Q9 hQ9 => ?_)
  have hx := C.1
  have hb := C.2.1
  have hl : lv_has ls 9 [(0, .ref h), (1, .int x), (2, .int y), (3, .int 2), (4, .int q)] := hl
  refine lv_iload_n hx hb dX11_worth_0 rfl (lv_at hl 3 rfl) ?_
  refine lv_if_le (tgt := 9) hx hb dX11_worth_1 (by decide) (fun q => absurd q (by decide)) (fun _ => ?_)
  refine lv_iload_n hx hb dX11_worth_4 rfl (lv_at hl 3 rfl) ?_
  refine lv_iconst (v := 3) hx hb dX11_worth_5 (by decide) ?_
  refine lv_icmp_le (tgt := 16) hx hb dX11_worth_6 (by decide) (fun _ => ?_) (fun q => absurd (by decide) q)
  refine lv_iconst (v := (-1)) hx hb dX11_worth_16 (by decide) ?_
  refine lv_istore (lv' := [(5, .int (-1)), (0, .ref h), (1, .int x), (2, .int y), (3, .int 2), (4, .int q)]) hx hb dX11_worth_17 hl (by decide) rfl (fun ls hl => ?_)
  refine lv_iconst (v := 0) hx hb dX11_worth_19 (by decide) ?_
  refine lv_istore (lv' := [(6, .int 0), (5, .int (-1)), (0, .ref h), (1, .int x), (2, .int y), (3, .int 2), (4, .int q)]) hx hb dX11_worth_20 hl (by decide) rfl (fun ls hl => ?_)
  refine z_lp2 (T := T) 22 (fun (i : Nat) (u : Int32) => [ww, z]) (fun (i : Nat) (u : Int32) => [(6, .int (nI i)), (5, .int u), (0, .ref h), (1, .int x), (2, .int y), (3, .int 2), (4, .int q)]) (fun (i : Nat) (u : Int32) => i ≤ 8) (fun (i : Nat) (u : Int32) => 8 - i) ?_ 0 (-1) (show 0 ≤ 8 from by omega) G (lv_sub hl [0, 1, 2, 3, 4, 5, 6] rfl)
  intro i u hi ih_22 H locs ls G hl
  replace hi : i ≤ 8 := hi
  replace G : zS T A s.heap s [ww, z] _ _ := G
  replace hl : lv_has ls 9 [(6, .int (nI i)), (5, .int u), (0, .ref h), (1, .int x), (2, .int y), (3, .int 2), (4, .int q)] := hl
  refine lv_iload hx hb dX11_worth_22 (lv_at hl 0 rfl) ?_
  refine lv_bipush (v := 7) hx hb dX11_worth_24 (by decide) ?_
  refine lv_icmp_gt (tgt := 120) hx hb dX11_worth_26 (by decide) (fun c_1 => ?_) (fun c_1 => ?_)
  · have c_1n : 7 < i := (nI_ltI (a := 7) (b := i) (by omega) (by omega)).mp c_1
    refine lv_iload hx hb dX11_worth_120 (lv_at hl 1 rfl) ?_
    exact z_back hQ9 (z_iret C hr hlocks G (Nat.le_of_ble_eq_true rfl) (Nat.le_of_ble_eq_true rfl) dX11_worth_122 rfl)
  · have c_1n : ¬ 7 < i := fun q => c_1 ((nI_ltI (a := 7) (b := i) (by omega) (by omega)).mpr q)
    refine lv_iload hx hb dX11_worth_29 (lv_at hl 0 rfl) ?_
    refine lv_bipush (v := 7) hx hb dX11_worth_31 (by decide) ?_
    refine lv_icmp_ne (tgt := 40) hx hb dX11_worth_33 (by decide) (fun c_2 => ?_) (fun c_2 => ?_)
    · have c_2n : ¬ i = 7 := fun q => c_2 ((nI_eq (a := i) (b := 7) (by omega) (by omega)).mpr q)
      refine lv_aload_n hx hb dX11_worth_40 rfl (lv_at hl 2 rfl) ?_
      refine lv_iload_n hx hb dX11_worth_41 rfl (lv_at hl 3 rfl) ?_
      refine lv_iload hx hb dX11_worth_42 (lv_at hl 0 rfl) ?_
      refine z_Vi (bc := [ww, z]) (br := []) (As := [.int x, .int (nI i)]) (rest := []) C G (c_turned l T h la md wy pc_ f1 f2 f3 f4 f5 f6 n4 ww cr inn k1 k2 k3 k4 z x (nI i) hww hz (by first | with_reducible assumption | with_reducible rfl | omega | assumption | rfl)) (kV_RX11_289 C.2.2.2.2 (Nat.le_of_ble_eq_true rfl) (Nat.le_of_ble_eq_true rfl)) [0, 1] [0, 0] rfl rfl (ci := 0) (qc := (RX0, TX0, 10)) rfl rfl (List.mem_flatten.mpr ⟨_, List.mem_of_getElem? (i := 0) rfl, (bWays_mem hww).choose_spec⟩) rfl rfl hl.1 dX11_worth_44 (Nat.le_of_ble_eq_true rfl) (Nat.le_of_ble_eq_true rfl) (fun r_3 b1 H locs hw G => ?_)
      obtain rfl := hw
      have G : zS T A s.heap s [ww, z] _ _ := G
      refine lv_istore (lv' := [(7, .int r_3), (6, .int (nI i)), (5, .int u), (0, .ref h), (1, .int x), (2, .int y), (3, .int 2), (4, .int q)]) hx hb dX11_worth_47 hl (by decide) rfl (fun ls hl => ?_)
      refine lv_iload hx hb dX11_worth_49 (lv_at hl 0 rfl) ?_
      refine lv_iconst (v := (-1)) hx hb dX11_worth_51 (by decide) ?_
      refine lv_icmp_eq (tgt := 114) hx hb dX11_worth_52 (by decide) (fun c_4 => ?_) (fun c_4 => ?_)
      · have c_4n : r_3.toInt = (-1 : Int) := (fa_eq _ _).mp c_4
        refine lv_iinc (v := nI (i + 1)) (lv' := [(6, .int (nI (i + 1))), (7, .int r_3), (5, .int u), (0, .ref h), (1, .int x), (2, .int y), (3, .int 2), (4, .int q)]) hx hb dX11_worth_114 hl (k := 1) rfl (z_inc i 1) (by decide) rfl (fun ls hl => ?_)
        refine lv_goto (tgt := 22) hx hb dX11_worth_117 (by decide) ?_
        exact ih_22 (i + 1) u (show (i + 1) ≤ 8 from by omega) (show 8 - (i + 1) < 8 - i from by omega) _ _ ls G (lv_sub hl [0, 2, 3, 4, 5, 6, 7] rfl)
      · have c_4n : ¬ r_3.toInt = (-1 : Int) := fun q => c_4 ((fa_eq _ _).mpr q)
        refine lv_aload_n hx hb dX11_worth_55 rfl (lv_at hl 3 rfl) ?_
        refine lv_iload hx hb dX11_worth_56 (lv_at hl 0 rfl) ?_
        refine lv_iload_n hx hb dX11_worth_58 rfl (lv_at hl 5 rfl) ?_
        refine lv_iload_n hx hb dX11_worth_59 rfl (lv_at hl 6 rfl) ?_
        refine lv_iconst (v := 1) hx hb dX11_worth_60 (by decide) ?_
        refine lv_isub hx hb dX11_worth_61 ?_
        refine lv_topi (fun y_5 ey_5 => ?_)
        obtain rfl : y_5 = 1 := ey_5.trans (by decide)
        refine lv_iload hx hb dX11_worth_62 (lv_at hl 7 rfl) ?_
        refine lv_if_ne (tgt := 71) hx hb dX11_worth_64 (by decide) (fun c_6 => ?_) (fun c_6 => ?_)
        · have c_6n : ¬ q.toInt = (0 : Int) := fun q => c_6 ((fa_eq _ _).mpr q)
          refine lv_iconst (v := 0) hx hb dX11_worth_71 (by decide) ?_
          refine z_Si (bc := [ww, z]) (br := []) (As := [.ref h, .int r_3, .int y, .int 1, .int 0]) (rest := []) C G (c_worth1 l T h la md wy pc_ f1 f2 f3 f4 f5 f6 n4 ww cr inn k1 k2 k3 k4 z r_3 y 0 hww hz (by first | with_reducible assumption | with_reducible rfl | omega | assumption | rfl) (by first | with_reducible assumption | with_reducible rfl | omega | assumption | rfl)) (kS_RX11_278 C.2.2.2.2 (Nat.le_of_ble_eq_true rfl) (Nat.le_of_ble_eq_true rfl)) [0, 1] [0, 0] rfl rfl rfl rfl hl.1 dX11_worth_72 (Nat.le_of_ble_eq_true rfl) (Nat.le_of_ble_eq_true rfl) (fun r_7 b1 H locs hw G => ?_)
          obtain rfl := hw
          have G : zS T A s.heap s [ww, z] _ _ := G
          refine lv_istore (lv' := [(8, .int r_7), (7, .int r_3), (6, .int (nI i)), (5, .int u), (0, .ref h), (1, .int x), (2, .int y), (3, .int 2), (4, .int q)]) hx hb dX11_worth_75 hl (by decide) rfl (fun ls hl => ?_)
          refine lv_iload hx hb dX11_worth_77 (lv_at hl 3 rfl) ?_
          refine lv_iconst (v := (-1)) hx hb dX11_worth_79 (by decide) ?_
          refine lv_icmp_eq (tgt := 105) hx hb dX11_worth_80 (by decide) (fun c_8 => ?_) (fun c_8 => ?_)
          · have c_8n : u.toInt = (-1 : Int) := (fa_eq _ _).mp c_8
            refine lv_iload hx hb dX11_worth_105 (lv_at hl 0 rfl) ?_
            refine lv_goto (tgt := 112) hx hb dX11_worth_107 (by decide) ?_
            refine lv_istore (lv' := [(5, .int r_7), (8, .int r_7), (7, .int r_3), (6, .int (nI i)), (0, .ref h), (1, .int x), (2, .int y), (3, .int 2), (4, .int q)]) hx hb dX11_worth_112 hl (by decide) rfl (fun ls hl => ?_)
            refine lv_iinc (v := nI (i + 1)) (lv' := [(6, .int (nI (i + 1))), (5, .int r_7), (8, .int r_7), (7, .int r_3), (0, .ref h), (1, .int x), (2, .int y), (3, .int 2), (4, .int q)]) hx hb dX11_worth_114 hl (k := 3) rfl (z_inc i 1) (by decide) rfl (fun ls hl => ?_)
            refine lv_goto (tgt := 22) hx hb dX11_worth_117 (by decide) ?_
            exact ih_22 (i + 1) r_7 (show (i + 1) ≤ 8 from by omega) (show 8 - (i + 1) < 8 - i from by omega) _ _ ls G (lv_sub hl [0, 1, 4, 5, 6, 7, 8] rfl)
          · have c_8n : ¬ u.toInt = (-1 : Int) := fun q => c_8 ((fa_eq _ _).mpr q)
            refine lv_iload hx hb dX11_worth_83 (lv_at hl 8 rfl) ?_
            refine lv_if_eq (tgt := 98) hx hb dX11_worth_85 (by decide) (fun q => absurd q c_6) (fun _ => ?_)
            refine lv_iload hx hb dX11_worth_88 (lv_at hl 0 rfl) ?_
            refine lv_iload hx hb dX11_worth_90 (lv_at hl 3 rfl) ?_
            refine lv_icmp_ge (tgt := 110) hx hb dX11_worth_92 (by decide) (fun c_9 => ?_) (fun c_9 => ?_)
            · have c_9n : u.toInt ≤ r_7.toInt := (fa_le _ _).mp c_9
              refine lv_iload hx hb dX11_worth_110 (lv_at hl 3 rfl) ?_
              refine lv_istore (lv' := [(5, .int u), (8, .int r_7), (7, .int r_3), (6, .int (nI i)), (0, .ref h), (1, .int x), (2, .int y), (3, .int 2), (4, .int q)]) hx hb dX11_worth_112 hl (by decide) rfl (fun ls hl => ?_)
              refine lv_iinc (v := nI (i + 1)) (lv' := [(6, .int (nI (i + 1))), (5, .int u), (8, .int r_7), (7, .int r_3), (0, .ref h), (1, .int x), (2, .int y), (3, .int 2), (4, .int q)]) hx hb dX11_worth_114 hl (k := 3) rfl (z_inc i 1) (by decide) rfl (fun ls hl => ?_)
              refine lv_goto (tgt := 22) hx hb dX11_worth_117 (by decide) ?_
              exact ih_22 (i + 1) u (show (i + 1) ≤ 8 from by omega) (show 8 - (i + 1) < 8 - i from by omega) _ _ ls G (lv_sub hl [0, 1, 4, 5, 6, 7, 8] rfl)
            · have c_9n : ¬ u.toInt ≤ r_7.toInt := fun q => c_9 ((fa_le _ _).mpr q)
              refine lv_goto (tgt := 105) hx hb dX11_worth_95 (by decide) ?_
              refine lv_iload hx hb dX11_worth_105 (lv_at hl 0 rfl) ?_
              refine lv_goto (tgt := 112) hx hb dX11_worth_107 (by decide) ?_
              refine lv_istore (lv' := [(5, .int r_7), (8, .int r_7), (7, .int r_3), (6, .int (nI i)), (0, .ref h), (1, .int x), (2, .int y), (3, .int 2), (4, .int q)]) hx hb dX11_worth_112 hl (by decide) rfl (fun ls hl => ?_)
              refine lv_iinc (v := nI (i + 1)) (lv' := [(6, .int (nI (i + 1))), (5, .int r_7), (8, .int r_7), (7, .int r_3), (0, .ref h), (1, .int x), (2, .int y), (3, .int 2), (4, .int q)]) hx hb dX11_worth_114 hl (k := 3) rfl (z_inc i 1) (by decide) rfl (fun ls hl => ?_)
              refine lv_goto (tgt := 22) hx hb dX11_worth_117 (by decide) ?_
              exact ih_22 (i + 1) r_7 (show (i + 1) ≤ 8 from by omega) (show 8 - (i + 1) < 8 - i from by omega) _ _ ls G (lv_sub hl [0, 1, 4, 5, 6, 7, 8] rfl)
        · have c_6n : q.toInt = (0 : Int) := (fa_eq _ _).mp c_6
          refine lv_iconst (v := 1) hx hb dX11_worth_67 (by decide) ?_
          refine lv_goto (tgt := 72) hx hb dX11_worth_68 (by decide) ?_
          refine z_Si (bc := [ww, z]) (br := []) (As := [.ref h, .int r_3, .int y, .int 1, .int 1]) (rest := []) C G (c_worth1 l T h la md wy pc_ f1 f2 f3 f4 f5 f6 n4 ww cr inn k1 k2 k3 k4 z r_3 y 1 hww hz (by first | with_reducible assumption | with_reducible rfl | omega | assumption | rfl) (by first | with_reducible assumption | with_reducible rfl | omega | assumption | rfl)) (kS_RX11_278 C.2.2.2.2 (Nat.le_of_ble_eq_true rfl) (Nat.le_of_ble_eq_true rfl)) [0, 1] [0, 0] rfl rfl rfl rfl hl.1 dX11_worth_72 (Nat.le_of_ble_eq_true rfl) (Nat.le_of_ble_eq_true rfl) (fun r_10 b1 H locs hw G => ?_)
          obtain rfl := hw
          have G : zS T A s.heap s [ww, z] _ _ := G
          refine lv_istore (lv' := [(8, .int r_10), (7, .int r_3), (6, .int (nI i)), (5, .int u), (0, .ref h), (1, .int x), (2, .int y), (3, .int 2), (4, .int q)]) hx hb dX11_worth_75 hl (by decide) rfl (fun ls hl => ?_)
          refine lv_iload hx hb dX11_worth_77 (lv_at hl 3 rfl) ?_
          refine lv_iconst (v := (-1)) hx hb dX11_worth_79 (by decide) ?_
          refine lv_icmp_eq (tgt := 105) hx hb dX11_worth_80 (by decide) (fun c_11 => ?_) (fun c_11 => ?_)
          · have c_11n : u.toInt = (-1 : Int) := (fa_eq _ _).mp c_11
            refine lv_iload hx hb dX11_worth_105 (lv_at hl 0 rfl) ?_
            refine lv_goto (tgt := 112) hx hb dX11_worth_107 (by decide) ?_
            refine lv_istore (lv' := [(5, .int r_10), (8, .int r_10), (7, .int r_3), (6, .int (nI i)), (0, .ref h), (1, .int x), (2, .int y), (3, .int 2), (4, .int q)]) hx hb dX11_worth_112 hl (by decide) rfl (fun ls hl => ?_)
            refine lv_iinc (v := nI (i + 1)) (lv' := [(6, .int (nI (i + 1))), (5, .int r_10), (8, .int r_10), (7, .int r_3), (0, .ref h), (1, .int x), (2, .int y), (3, .int 2), (4, .int q)]) hx hb dX11_worth_114 hl (k := 3) rfl (z_inc i 1) (by decide) rfl (fun ls hl => ?_)
            refine lv_goto (tgt := 22) hx hb dX11_worth_117 (by decide) ?_
            exact ih_22 (i + 1) r_10 (show (i + 1) ≤ 8 from by omega) (show 8 - (i + 1) < 8 - i from by omega) _ _ ls G (lv_sub hl [0, 1, 4, 5, 6, 7, 8] rfl)
          · have c_11n : ¬ u.toInt = (-1 : Int) := fun q => c_11 ((fa_eq _ _).mpr q)
            refine lv_iload hx hb dX11_worth_83 (lv_at hl 8 rfl) ?_
            refine lv_if_eq (tgt := 98) hx hb dX11_worth_85 (by decide) (fun _ => ?_) (fun q => absurd c_6 q)
            refine lv_iload hx hb dX11_worth_98 (lv_at hl 0 rfl) ?_
            refine lv_iload hx hb dX11_worth_100 (lv_at hl 3 rfl) ?_
            refine lv_icmp_le (tgt := 110) hx hb dX11_worth_102 (by decide) (fun c_12 => ?_) (fun c_12 => ?_)
            · have c_12n : r_10.toInt ≤ u.toInt := (fa_le _ _).mp c_12
              refine lv_iload hx hb dX11_worth_110 (lv_at hl 3 rfl) ?_
              refine lv_istore (lv' := [(5, .int u), (8, .int r_10), (7, .int r_3), (6, .int (nI i)), (0, .ref h), (1, .int x), (2, .int y), (3, .int 2), (4, .int q)]) hx hb dX11_worth_112 hl (by decide) rfl (fun ls hl => ?_)
              refine lv_iinc (v := nI (i + 1)) (lv' := [(6, .int (nI (i + 1))), (5, .int u), (8, .int r_10), (7, .int r_3), (0, .ref h), (1, .int x), (2, .int y), (3, .int 2), (4, .int q)]) hx hb dX11_worth_114 hl (k := 3) rfl (z_inc i 1) (by decide) rfl (fun ls hl => ?_)
              refine lv_goto (tgt := 22) hx hb dX11_worth_117 (by decide) ?_
              exact ih_22 (i + 1) u (show (i + 1) ≤ 8 from by omega) (show 8 - (i + 1) < 8 - i from by omega) _ _ ls G (lv_sub hl [0, 1, 4, 5, 6, 7, 8] rfl)
            · have c_12n : ¬ r_10.toInt ≤ u.toInt := fun q => c_12 ((fa_le _ _).mpr q)
              refine lv_iload hx hb dX11_worth_105 (lv_at hl 0 rfl) ?_
              refine lv_goto (tgt := 112) hx hb dX11_worth_107 (by decide) ?_
              refine lv_istore (lv' := [(5, .int r_10), (8, .int r_10), (7, .int r_3), (6, .int (nI i)), (0, .ref h), (1, .int x), (2, .int y), (3, .int 2), (4, .int q)]) hx hb dX11_worth_112 hl (by decide) rfl (fun ls hl => ?_)
              refine lv_iinc (v := nI (i + 1)) (lv' := [(6, .int (nI (i + 1))), (5, .int r_10), (8, .int r_10), (7, .int r_3), (0, .ref h), (1, .int x), (2, .int y), (3, .int 2), (4, .int q)]) hx hb dX11_worth_114 hl (k := 3) rfl (z_inc i 1) (by decide) rfl (fun ls hl => ?_)
              refine lv_goto (tgt := 22) hx hb dX11_worth_117 (by decide) ?_
              exact ih_22 (i + 1) r_10 (show (i + 1) ≤ 8 from by omega) (show 8 - (i + 1) < 8 - i from by omega) _ _ ls G (lv_sub hl [0, 1, 4, 5, 6, 7, 8] rfl)
    · have c_2n : i = 7 := (nI_eq (a := i) (b := 7) (by omega) (by omega)).mp c_2
      refine lv_iload_n hx hb dX11_worth_36 rfl (lv_at hl 3 rfl) ?_
      refine lv_goto (tgt := 47) hx hb dX11_worth_37 (by decide) ?_
      refine lv_istore (lv' := [(7, .int x), (6, .int (nI i)), (5, .int u), (0, .ref h), (1, .int x), (2, .int y), (3, .int 2), (4, .int q)]) hx hb dX11_worth_47 hl (by decide) rfl (fun ls hl => ?_)
      refine lv_iload hx hb dX11_worth_49 (lv_at hl 0 rfl) ?_
      refine lv_iconst (v := (-1)) hx hb dX11_worth_51 (by decide) ?_
      refine lv_icmp_eq (tgt := 114) hx hb dX11_worth_52 (by decide) (fun c_13 => ?_) (fun c_13 => ?_)
      · have c_13n : x.toInt = (-1 : Int) := (fa_eq _ _).mp c_13
        refine lv_iinc (v := nI (i + 1)) (lv' := [(6, .int (nI (i + 1))), (7, .int x), (5, .int u), (0, .ref h), (1, .int x), (2, .int y), (3, .int 2), (4, .int q)]) hx hb dX11_worth_114 hl (k := 1) rfl (z_inc i 1) (by decide) rfl (fun ls hl => ?_)
        refine lv_goto (tgt := 22) hx hb dX11_worth_117 (by decide) ?_
        exact ih_22 (i + 1) u (show (i + 1) ≤ 8 from by omega) (show 8 - (i + 1) < 8 - i from by omega) _ _ ls G (lv_sub hl [0, 2, 3, 4, 5, 6, 7] rfl)
      · have c_13n : ¬ x.toInt = (-1 : Int) := fun q => c_13 ((fa_eq _ _).mpr q)
        refine lv_aload_n hx hb dX11_worth_55 rfl (lv_at hl 3 rfl) ?_
        refine lv_iload hx hb dX11_worth_56 (lv_at hl 0 rfl) ?_
        refine lv_iload_n hx hb dX11_worth_58 rfl (lv_at hl 5 rfl) ?_
        refine lv_iload_n hx hb dX11_worth_59 rfl (lv_at hl 6 rfl) ?_
        refine lv_iconst (v := 1) hx hb dX11_worth_60 (by decide) ?_
        refine lv_isub hx hb dX11_worth_61 ?_
        refine lv_topi (fun y_14 ey_14 => ?_)
        obtain rfl : y_14 = 1 := ey_14.trans (by decide)
        refine lv_iload hx hb dX11_worth_62 (lv_at hl 7 rfl) ?_
        refine lv_if_ne (tgt := 71) hx hb dX11_worth_64 (by decide) (fun c_15 => ?_) (fun c_15 => ?_)
        · have c_15n : ¬ q.toInt = (0 : Int) := fun q => c_15 ((fa_eq _ _).mpr q)
          refine lv_iconst (v := 0) hx hb dX11_worth_71 (by decide) ?_
          refine z_Si (bc := [ww, z]) (br := []) (As := [.ref h, .int x, .int y, .int 1, .int 0]) (rest := []) C G (c_worth1 l T h la md wy pc_ f1 f2 f3 f4 f5 f6 n4 ww cr inn k1 k2 k3 k4 z x y 0 hww hz (by first | with_reducible assumption | with_reducible rfl | omega | assumption | rfl) (by first | with_reducible assumption | with_reducible rfl | omega | assumption | rfl)) (kS_RX11_278 C.2.2.2.2 (Nat.le_of_ble_eq_true rfl) (Nat.le_of_ble_eq_true rfl)) [0, 1] [0, 0] rfl rfl rfl rfl hl.1 dX11_worth_72 (Nat.le_of_ble_eq_true rfl) (Nat.le_of_ble_eq_true rfl) (fun r_16 b1 H locs hw G => ?_)
          obtain rfl := hw
          have G : zS T A s.heap s [ww, z] _ _ := G
          refine lv_istore (lv' := [(8, .int r_16), (7, .int x), (6, .int (nI i)), (5, .int u), (0, .ref h), (1, .int x), (2, .int y), (3, .int 2), (4, .int q)]) hx hb dX11_worth_75 hl (by decide) rfl (fun ls hl => ?_)
          refine lv_iload hx hb dX11_worth_77 (lv_at hl 3 rfl) ?_
          refine lv_iconst (v := (-1)) hx hb dX11_worth_79 (by decide) ?_
          refine lv_icmp_eq (tgt := 105) hx hb dX11_worth_80 (by decide) (fun c_17 => ?_) (fun c_17 => ?_)
          · have c_17n : u.toInt = (-1 : Int) := (fa_eq _ _).mp c_17
            refine lv_iload hx hb dX11_worth_105 (lv_at hl 0 rfl) ?_
            refine lv_goto (tgt := 112) hx hb dX11_worth_107 (by decide) ?_
            refine lv_istore (lv' := [(5, .int r_16), (8, .int r_16), (7, .int x), (6, .int (nI i)), (0, .ref h), (1, .int x), (2, .int y), (3, .int 2), (4, .int q)]) hx hb dX11_worth_112 hl (by decide) rfl (fun ls hl => ?_)
            refine lv_iinc (v := nI (i + 1)) (lv' := [(6, .int (nI (i + 1))), (5, .int r_16), (8, .int r_16), (7, .int x), (0, .ref h), (1, .int x), (2, .int y), (3, .int 2), (4, .int q)]) hx hb dX11_worth_114 hl (k := 3) rfl (z_inc i 1) (by decide) rfl (fun ls hl => ?_)
            refine lv_goto (tgt := 22) hx hb dX11_worth_117 (by decide) ?_
            exact ih_22 (i + 1) r_16 (show (i + 1) ≤ 8 from by omega) (show 8 - (i + 1) < 8 - i from by omega) _ _ ls G (lv_sub hl [0, 1, 4, 5, 6, 7, 8] rfl)
          · have c_17n : ¬ u.toInt = (-1 : Int) := fun q => c_17 ((fa_eq _ _).mpr q)
            refine lv_iload hx hb dX11_worth_83 (lv_at hl 8 rfl) ?_
            refine lv_if_eq (tgt := 98) hx hb dX11_worth_85 (by decide) (fun q => absurd q c_15) (fun _ => ?_)
            refine lv_iload hx hb dX11_worth_88 (lv_at hl 0 rfl) ?_
            refine lv_iload hx hb dX11_worth_90 (lv_at hl 3 rfl) ?_
            refine lv_icmp_ge (tgt := 110) hx hb dX11_worth_92 (by decide) (fun c_18 => ?_) (fun c_18 => ?_)
            · have c_18n : u.toInt ≤ r_16.toInt := (fa_le _ _).mp c_18
              refine lv_iload hx hb dX11_worth_110 (lv_at hl 3 rfl) ?_
              refine lv_istore (lv' := [(5, .int u), (8, .int r_16), (7, .int x), (6, .int (nI i)), (0, .ref h), (1, .int x), (2, .int y), (3, .int 2), (4, .int q)]) hx hb dX11_worth_112 hl (by decide) rfl (fun ls hl => ?_)
              refine lv_iinc (v := nI (i + 1)) (lv' := [(6, .int (nI (i + 1))), (5, .int u), (8, .int r_16), (7, .int x), (0, .ref h), (1, .int x), (2, .int y), (3, .int 2), (4, .int q)]) hx hb dX11_worth_114 hl (k := 3) rfl (z_inc i 1) (by decide) rfl (fun ls hl => ?_)
              refine lv_goto (tgt := 22) hx hb dX11_worth_117 (by decide) ?_
              exact ih_22 (i + 1) u (show (i + 1) ≤ 8 from by omega) (show 8 - (i + 1) < 8 - i from by omega) _ _ ls G (lv_sub hl [0, 1, 4, 5, 6, 7, 8] rfl)
            · have c_18n : ¬ u.toInt ≤ r_16.toInt := fun q => c_18 ((fa_le _ _).mpr q)
              refine lv_goto (tgt := 105) hx hb dX11_worth_95 (by decide) ?_
              refine lv_iload hx hb dX11_worth_105 (lv_at hl 0 rfl) ?_
              refine lv_goto (tgt := 112) hx hb dX11_worth_107 (by decide) ?_
              refine lv_istore (lv' := [(5, .int r_16), (8, .int r_16), (7, .int x), (6, .int (nI i)), (0, .ref h), (1, .int x), (2, .int y), (3, .int 2), (4, .int q)]) hx hb dX11_worth_112 hl (by decide) rfl (fun ls hl => ?_)
              refine lv_iinc (v := nI (i + 1)) (lv' := [(6, .int (nI (i + 1))), (5, .int r_16), (8, .int r_16), (7, .int x), (0, .ref h), (1, .int x), (2, .int y), (3, .int 2), (4, .int q)]) hx hb dX11_worth_114 hl (k := 3) rfl (z_inc i 1) (by decide) rfl (fun ls hl => ?_)
              refine lv_goto (tgt := 22) hx hb dX11_worth_117 (by decide) ?_
              exact ih_22 (i + 1) r_16 (show (i + 1) ≤ 8 from by omega) (show 8 - (i + 1) < 8 - i from by omega) _ _ ls G (lv_sub hl [0, 1, 4, 5, 6, 7, 8] rfl)
        · have c_15n : q.toInt = (0 : Int) := (fa_eq _ _).mp c_15
          refine lv_iconst (v := 1) hx hb dX11_worth_67 (by decide) ?_
          refine lv_goto (tgt := 72) hx hb dX11_worth_68 (by decide) ?_
          refine z_Si (bc := [ww, z]) (br := []) (As := [.ref h, .int x, .int y, .int 1, .int 1]) (rest := []) C G (c_worth1 l T h la md wy pc_ f1 f2 f3 f4 f5 f6 n4 ww cr inn k1 k2 k3 k4 z x y 1 hww hz (by first | with_reducible assumption | with_reducible rfl | omega | assumption | rfl) (by first | with_reducible assumption | with_reducible rfl | omega | assumption | rfl)) (kS_RX11_278 C.2.2.2.2 (Nat.le_of_ble_eq_true rfl) (Nat.le_of_ble_eq_true rfl)) [0, 1] [0, 0] rfl rfl rfl rfl hl.1 dX11_worth_72 (Nat.le_of_ble_eq_true rfl) (Nat.le_of_ble_eq_true rfl) (fun r_19 b1 H locs hw G => ?_)
          obtain rfl := hw
          have G : zS T A s.heap s [ww, z] _ _ := G
          refine lv_istore (lv' := [(8, .int r_19), (7, .int x), (6, .int (nI i)), (5, .int u), (0, .ref h), (1, .int x), (2, .int y), (3, .int 2), (4, .int q)]) hx hb dX11_worth_75 hl (by decide) rfl (fun ls hl => ?_)
          refine lv_iload hx hb dX11_worth_77 (lv_at hl 3 rfl) ?_
          refine lv_iconst (v := (-1)) hx hb dX11_worth_79 (by decide) ?_
          refine lv_icmp_eq (tgt := 105) hx hb dX11_worth_80 (by decide) (fun c_20 => ?_) (fun c_20 => ?_)
          · have c_20n : u.toInt = (-1 : Int) := (fa_eq _ _).mp c_20
            refine lv_iload hx hb dX11_worth_105 (lv_at hl 0 rfl) ?_
            refine lv_goto (tgt := 112) hx hb dX11_worth_107 (by decide) ?_
            refine lv_istore (lv' := [(5, .int r_19), (8, .int r_19), (7, .int x), (6, .int (nI i)), (0, .ref h), (1, .int x), (2, .int y), (3, .int 2), (4, .int q)]) hx hb dX11_worth_112 hl (by decide) rfl (fun ls hl => ?_)
            refine lv_iinc (v := nI (i + 1)) (lv' := [(6, .int (nI (i + 1))), (5, .int r_19), (8, .int r_19), (7, .int x), (0, .ref h), (1, .int x), (2, .int y), (3, .int 2), (4, .int q)]) hx hb dX11_worth_114 hl (k := 3) rfl (z_inc i 1) (by decide) rfl (fun ls hl => ?_)
            refine lv_goto (tgt := 22) hx hb dX11_worth_117 (by decide) ?_
            exact ih_22 (i + 1) r_19 (show (i + 1) ≤ 8 from by omega) (show 8 - (i + 1) < 8 - i from by omega) _ _ ls G (lv_sub hl [0, 1, 4, 5, 6, 7, 8] rfl)
          · have c_20n : ¬ u.toInt = (-1 : Int) := fun q => c_20 ((fa_eq _ _).mpr q)
            refine lv_iload hx hb dX11_worth_83 (lv_at hl 8 rfl) ?_
            refine lv_if_eq (tgt := 98) hx hb dX11_worth_85 (by decide) (fun _ => ?_) (fun q => absurd c_15 q)
            refine lv_iload hx hb dX11_worth_98 (lv_at hl 0 rfl) ?_
            refine lv_iload hx hb dX11_worth_100 (lv_at hl 3 rfl) ?_
            refine lv_icmp_le (tgt := 110) hx hb dX11_worth_102 (by decide) (fun c_21 => ?_) (fun c_21 => ?_)
            · have c_21n : r_19.toInt ≤ u.toInt := (fa_le _ _).mp c_21
              refine lv_iload hx hb dX11_worth_110 (lv_at hl 3 rfl) ?_
              refine lv_istore (lv' := [(5, .int u), (8, .int r_19), (7, .int x), (6, .int (nI i)), (0, .ref h), (1, .int x), (2, .int y), (3, .int 2), (4, .int q)]) hx hb dX11_worth_112 hl (by decide) rfl (fun ls hl => ?_)
              refine lv_iinc (v := nI (i + 1)) (lv' := [(6, .int (nI (i + 1))), (5, .int u), (8, .int r_19), (7, .int x), (0, .ref h), (1, .int x), (2, .int y), (3, .int 2), (4, .int q)]) hx hb dX11_worth_114 hl (k := 3) rfl (z_inc i 1) (by decide) rfl (fun ls hl => ?_)
              refine lv_goto (tgt := 22) hx hb dX11_worth_117 (by decide) ?_
              exact ih_22 (i + 1) u (show (i + 1) ≤ 8 from by omega) (show 8 - (i + 1) < 8 - i from by omega) _ _ ls G (lv_sub hl [0, 1, 4, 5, 6, 7, 8] rfl)
            · have c_21n : ¬ r_19.toInt ≤ u.toInt := fun q => c_21 ((fa_le _ _).mpr q)
              refine lv_iload hx hb dX11_worth_105 (lv_at hl 0 rfl) ?_
              refine lv_goto (tgt := 112) hx hb dX11_worth_107 (by decide) ?_
              refine lv_istore (lv' := [(5, .int r_19), (8, .int r_19), (7, .int x), (6, .int (nI i)), (0, .ref h), (1, .int x), (2, .int y), (3, .int 2), (4, .int q)]) hx hb dX11_worth_112 hl (by decide) rfl (fun ls hl => ?_)
              refine lv_iinc (v := nI (i + 1)) (lv' := [(6, .int (nI (i + 1))), (5, .int r_19), (8, .int r_19), (7, .int x), (0, .ref h), (1, .int x), (2, .int y), (3, .int 2), (4, .int q)]) hx hb dX11_worth_114 hl (k := 3) rfl (z_inc i 1) (by decide) rfl (fun ls hl => ?_)
              refine lv_goto (tgt := 22) hx hb dX11_worth_117 (by decide) ?_
              exact ih_22 (i + 1) r_19 (show (i + 1) ≤ 8 from by omega) (show 8 - (i + 1) < 8 - i from by omega) _ _ ls G (lv_sub hl [0, 1, 4, 5, 6, 7, 8] rfl)
theorem m_co_X0_make : Cond.code yX0_make cX0_make 3 none ∈ zT := zmem1 zsub_4 214 rfl rfl
theorem m_ml_RX11_232 : Cond.methodLink RX11 232 yX0_make ∈ zT := zmem1 zsub_4 211 rfl rfl
theorem m_im_X0_make : Cond.instanceMethod yX0_make ∈ zT := zmem1 zsub_4 212 rfl rfl
theorem m_se_X0_make : Cond.selects RX0 yX0_make yX0_make ∈ zT := zmem1 zsub_4 213 rfl rfl
theorem m_co_X11_waysIn : Cond.code yX11_waysIn cX11_waysIn 4 (some (.object "TurnedPosts$AllWays")) ∈ zT := zmem1 zsub_4 210 rfl rfl
theorem m_ml_RX11_235 : Cond.methodLink RX11 235 yX11_waysIn ∈ zT := zmem1 zsub_4 207 rfl rfl
theorem m_im_X11_waysIn : Cond.instanceMethod yX11_waysIn ∈ zT := zmem1 zsub_4 209 rfl rfl
theorem m_se_X11_waysIn : Cond.selects RX11 yX11_waysIn yX11_waysIn ∈ zT := zmem 31 rfl rfl
theorem m_fl_RX11_257 : Cond.fieldLink RX11 257 (TX0 1).1 (TX0 1).2.1 (TX0 1).2.2.1 ∈ zT := zmem1 zsub_2 109 rfl rfl
theorem m_co_X11_inLeastTerms : Cond.code yX11_inLeastTerms cX11_inLeastTerms 7 (some .int) ∈ zT := zmem1 zsub_5 44 rfl rfl
theorem m_ml_RX11_262 : Cond.methodLink RX11 262 yX11_inLeastTerms ∈ zT := zmem1 zsub_5 42 rfl rfl
theorem m_st_X11_inLeastTerms : Cond.static yX11_inLeastTerms ∈ zT := zmem1 zsub_5 43 rfl rfl
theorem m_ml_RX11_260 : Cond.methodLink RX11 260 yX0_where ∈ zT := zmem1 zsub_5 41 rfl rfl
theorem kV_RX11_232 {R : Room} {s : State} {args : Array Value} {d mc ms : Nat} (hts : ∀ w ∈ zT, w.before args s = true) (h1 : d + 1 ≤ R.frames) (h2 : 8 + (3 + 11) + 40 * d ≤ R.locals) : CallW R s args RX11 RX0 232 yX0_make cX0_make 3 none (zW yX0_make cX0_make 3 none) (zR d mc ms) mc ms 1 := z_cwV hts m_co_X0_make m_ml_RX11_232 m_im_X0_make m_se_X0_make m_ii_RX0 (by decide +kernel) h1 h2
theorem kV_RX11_235 {R : Room} {s : State} {args : Array Value} {d mc ms : Nat} (hts : ∀ w ∈ zT, w.before args s = true) (h1 : d + 1 ≤ R.frames) (h2 : 8 + (4 + 11) + 40 * d ≤ R.locals) : CallW R s args RX11 RX11 235 yX11_waysIn cX11_waysIn 4 (some (.object "TurnedPosts$AllWays")) (zW yX11_waysIn cX11_waysIn 4 (some (.object "TurnedPosts$AllWays"))) (zR d mc ms) mc ms 2 := z_cwV hts m_co_X11_waysIn m_ml_RX11_235 m_im_X11_waysIn m_se_X11_waysIn m_ii_RX11 (by decide +kernel) h1 h2
theorem kS_RX11_262 {R : Room} {s : State} {args : Array Value} {d mc ms : Nat} (hts : ∀ w ∈ zT, w.before args s = true) (h1 : d + 1 ≤ R.frames) (h2 : 8 + (7 + 11) + 40 * d ≤ R.locals) : CallB R s args RX11 262 yX11_inLeastTerms cX11_inLeastTerms 7 (some .int) (zW yX11_inLeastTerms cX11_inLeastTerms 7 (some .int)) (zR d mc ms) mc ms 3 ∧ (Cond.static yX11_inLeastTerms).before args s = true := z_cwS hts m_co_X11_inLeastTerms m_ml_RX11_262 m_st_X11_inLeastTerms m_ii_RX11 (by decide +kernel) h1 h2
theorem kV_RX11_260 {R : Room} {s : State} {args : Array Value} {d mc ms : Nat} (hts : ∀ w ∈ zT, w.before args s = true) (h1 : d + 1 ≤ R.frames) (h2 : 8 + (3 + 11) + 40 * d ≤ R.locals) : CallW R s args RX11 RX0 260 yX0_where cX0_where 3 (some .int) (zW yX0_where cX0_where 3 (some .int)) (zR d mc ms) mc ms 2 := z_cwV hts m_co_X0_where m_ml_RX11_260 m_im_X0_where m_se_X0_where m_ii_RX0 (by decide +kernel) h1 h2
theorem dX11_waysIn_0 : decode cX11_waysIn 0 = .ok (.iload_n 1, 1) := zo_27 (by decide +kernel)
theorem dX11_waysIn_1 : decode cX11_waysIn 1 = .ok (.ifCond .ne 10, 3) := zo_154 (by decide +kernel)
theorem dX11_waysIn_4 : decode cX11_waysIn 4 = .ok (.aload_n 0, 1) := zo_42 (by decide +kernel)
theorem dX11_waysIn_5 : decode cX11_waysIn 5 = .ok (.getfield 55, 3) := zo_180 (by decide +kernel)
theorem dX11_waysIn_8 : decode cX11_waysIn 8 = .ok (.goto 7, 3) := zo_167 (by decide +kernel)
theorem dX11_waysIn_11 : decode cX11_waysIn 11 = .ok (.aload_n 0, 1) := zo_42 (by decide +kernel)
theorem dX11_waysIn_12 : decode cX11_waysIn 12 = .ok (.getfield 59, 3) := zo_180 (by decide +kernel)
theorem dX11_waysIn_15 : decode cX11_waysIn 15 = .ok (.astore_n 3, 1) := zo_78 (by decide +kernel)
theorem dX11_waysIn_16 : decode cX11_waysIn 16 = .ok (.aload_n 3, 1) := zo_45 (by decide +kernel)
theorem dX11_waysIn_17 : decode cX11_waysIn 17 = .ok (.aload_n 2, 1) := zo_44 (by decide +kernel)
theorem dX11_waysIn_18 : decode cX11_waysIn 18 = .ok (.invokevirtual 232, 3) := zo_182 (by decide +kernel)
theorem dX11_waysIn_21 : decode cX11_waysIn 21 = .ok (.aload_n 3, 1) := zo_45 (by decide +kernel)
theorem dX11_waysIn_22 : decode cX11_waysIn 22 = .ok (.areturn, 1) := zo_176 (by decide +kernel)
theorem dX11_lot_0 : decode cX11_lot 0 = .ok (.aload_n 0, 1) := zo_42 (by decide +kernel)
theorem dX11_lot_1 : decode cX11_lot 1 = .ok (.getfield 10, 3) := zo_180 (by decide +kernel)
theorem dX11_lot_4 : decode cX11_lot 4 = .ok (.iload_n 1, 1) := zo_27 (by decide +kernel)
theorem dX11_lot_5 : decode cX11_lot 5 = .ok (.invokevirtual 121, 3) := zo_182 (by decide +kernel)
theorem dX11_lot_8 : decode cX11_lot 8 = .ok (.astore 5, 2) := zo_58 (by decide +kernel)
theorem dX11_lot_10 : decode cX11_lot 10 = .ok (.aload 5, 2) := zo_25 (by decide +kernel)
theorem dX11_lot_12 : decode cX11_lot 12 = .ok (.ifnull 21, 3) := zo_198 (by decide +kernel)
theorem dX11_lot_15 : decode cX11_lot 15 = .ok (.aload 5, 2) := zo_25 (by decide +kernel)
theorem dX11_lot_17 : decode cX11_lot 17 = .ok (.iload_n 2, 1) := zo_28 (by decide +kernel)
theorem dX11_lot_18 : decode cX11_lot 18 = .ok (.invokevirtual 160, 3) := zo_182 (by decide +kernel)
theorem dX11_lot_21 : decode cX11_lot 21 = .ok (.ifCond .eq 12, 3) := zo_153 (by decide +kernel)
theorem dX11_lot_24 : decode cX11_lot 24 = .ok (.aload 5, 2) := zo_25 (by decide +kernel)
theorem dX11_lot_26 : decode cX11_lot 26 = .ok (.iload_n 3, 1) := zo_29 (by decide +kernel)
theorem dX11_lot_27 : decode cX11_lot 27 = .ok (.invokevirtual 174, 3) := zo_182 (by decide +kernel)
theorem dX11_lot_30 : decode cX11_lot 30 = .ok (.ifCond .ne 5, 3) := zo_154 (by decide +kernel)
theorem dX11_lot_33 : decode cX11_lot 33 = .ok (.iconst (-1), 1) := zo_2 (by decide +kernel)
theorem dX11_lot_34 : decode cX11_lot 34 = .ok (.ireturn, 1) := zo_172 (by decide +kernel)
theorem dX11_lot_35 : decode cX11_lot 35 = .ok (.aload_n 0, 1) := zo_42 (by decide +kernel)
theorem dX11_lot_36 : decode cX11_lot 36 = .ok (.iload_n 1, 1) := zo_27 (by decide +kernel)
theorem dX11_lot_37 : decode cX11_lot 37 = .ok (.aload 5, 2) := zo_25 (by decide +kernel)
theorem dX11_lot_39 : decode cX11_lot 39 = .ok (.invokevirtual 235, 3) := zo_182 (by decide +kernel)
theorem dX11_lot_42 : decode cX11_lot 42 = .ok (.astore 6, 2) := zo_58 (by decide +kernel)
theorem dX11_lot_44 : decode cX11_lot 44 = .ok (.iconst 0, 1) := zo_3 (by decide +kernel)
theorem dX11_lot_45 : decode cX11_lot 45 = .ok (.istore 7, 2) := zo_54 (by decide +kernel)
theorem dX11_lot_47 : decode cX11_lot 47 = .ok (.iconst 0, 1) := zo_3 (by decide +kernel)
theorem dX11_lot_48 : decode cX11_lot 48 = .ok (.istore 8, 2) := zo_54 (by decide +kernel)
theorem dX11_lot_50 : decode cX11_lot 50 = .ok (.iload 8, 2) := zo_21 (by decide +kernel)
theorem dX11_lot_52 : decode cX11_lot 52 = .ok (.aload 6, 2) := zo_25 (by decide +kernel)
theorem dX11_lot_54 : decode cX11_lot 54 = .ok (.getfield 257, 3) := zo_180 (by decide +kernel)
theorem dX11_lot_57 : decode cX11_lot 57 = .ok (.if_icmp .ge 24, 3) := zo_162 (by decide +kernel)
theorem dX11_lot_60 : decode cX11_lot 60 = .ok (.aload 6, 2) := zo_25 (by decide +kernel)
theorem dX11_lot_62 : decode cX11_lot 62 = .ok (.iload 8, 2) := zo_21 (by decide +kernel)
theorem dX11_lot_64 : decode cX11_lot 64 = .ok (.iload_n 2, 1) := zo_28 (by decide +kernel)
theorem dX11_lot_65 : decode cX11_lot 65 = .ok (.invokevirtual 260, 3) := zo_182 (by decide +kernel)
theorem dX11_lot_68 : decode cX11_lot 68 = .ok (.iload_n 3, 1) := zo_29 (by decide +kernel)
theorem dX11_lot_69 : decode cX11_lot 69 = .ok (.if_icmp .ne 6, 3) := zo_160 (by decide +kernel)
theorem dX11_lot_72 : decode cX11_lot 72 = .ok (.iinc 7 1, 3) := zo_132 (by decide +kernel)
theorem dX11_lot_75 : decode cX11_lot 75 = .ok (.iinc 8 1, 3) := zo_132 (by decide +kernel)
theorem dX11_lot_78 : decode cX11_lot 78 = .ok (.goto (-28), 3) := zo_167 (by decide +kernel)
theorem dX11_lot_81 : decode cX11_lot 81 = .ok (.iload 7, 2) := zo_21 (by decide +kernel)
theorem dX11_lot_83 : decode cX11_lot 83 = .ok (.aload 6, 2) := zo_25 (by decide +kernel)
theorem dX11_lot_85 : decode cX11_lot 85 = .ok (.getfield 257, 3) := zo_180 (by decide +kernel)
theorem dX11_lot_88 : decode cX11_lot 88 = .ok (.iload 4, 2) := zo_21 (by decide +kernel)
theorem dX11_lot_90 : decode cX11_lot 90 = .ok (.invokestatic 262, 3) := zo_184 (by decide +kernel)
theorem dX11_lot_93 : decode cX11_lot 93 = .ok (.ireturn, 1) := zo_172 (by decide +kernel)

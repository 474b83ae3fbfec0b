theorem m_fl_RX11_65 : Cond.fieldLink RX11 65 (TX11 9).1 (TX11 9).2.1 (TX11 9).2.2.1 ∈ zT := zmem1 zsub_2 185 (by decide +kernel) (by decide +kernel)
theorem m_fl_RX11_109 : Cond.fieldLink RX11 109 (TX3 0).1 (TX3 0).2.1 (TX3 0).2.2.1 ∈ zT := zmem1 zsub_2 146 (by decide +kernel) (by decide +kernel)
theorem m_fl_RX11_55 : Cond.fieldLink RX11 55 (TX11 7).1 (TX11 7).2.1 (TX11 7).2.2.1 ∈ zT := zmem1 zsub_2 183 (by decide +kernel) (by decide +kernel)
theorem m_fl_RX11_113 : Cond.fieldLink RX11 113 (TX0 0).1 (TX0 0).2.1 (TX0 0).2.2.1 ∈ zT := zmem1 zsub_2 106 (by decide +kernel) (by decide +kernel)
theorem m_fl_RX11_59 : Cond.fieldLink RX11 59 (TX11 8).1 (TX11 8).2.1 (TX11 8).2.2.1 ∈ zT := zmem1 zsub_2 184 (by decide +kernel) (by decide +kernel)
theorem m_co_X9_placeFor : Cond.code yX9_placeFor cX9_placeFor 3 (some .int) ∈ zT := zmem1 zsub_2 229 (by decide +kernel) (by decide +kernel)
theorem m_ml_RX11_81 : Cond.methodLink RX11 81 yX9_placeFor ∈ zT := zmem1 zsub_2 226 (by decide +kernel) (by decide +kernel)
theorem m_im_X9_placeFor : Cond.instanceMethod yX9_placeFor ∈ zT := zmem1 zsub_2 227 (by decide +kernel) (by decide +kernel)
theorem m_se_X9_placeFor : Cond.selects RX9 yX9_placeFor yX9_placeFor ∈ zT := zmem1 zsub_2 228 (by decide +kernel) (by decide +kernel)
theorem m_fl_RX11_27 : Cond.fieldLink RX11 27 (TX11 3).1 (TX11 3).2.1 (TX11 3).2.2.1 ∈ zT := zmem1 zsub_2 179 (by decide +kernel) (by decide +kernel)
theorem m_fl_RX11_91 : Cond.fieldLink RX11 91 (TX9 0).1 (TX9 0).2.1 (TX9 0).2.2.1 ∈ zT := zmem1 zsub_1 129 (by decide +kernel) (by decide +kernel)
theorem m_co_X7_read : Cond.code yX7_read cX7_read 5 none ∈ zT := zmem1 zsub_2 233 (by decide +kernel) (by decide +kernel)
theorem m_ml_RX11_95 : Cond.methodLink RX11 95 yX7_read ∈ zT := zmem1 zsub_2 230 (by decide +kernel) (by decide +kernel)
theorem m_im_X7_read : Cond.instanceMethod yX7_read ∈ zT := zmem1 zsub_2 231 (by decide +kernel) (by decide +kernel)
theorem m_se_X7_read : Cond.selects RX7 yX7_read yX7_read ∈ zT := zmem1 zsub_2 232 (by decide +kernel) (by decide +kernel)
theorem m_fl_RX11_99 : Cond.fieldLink RX11 99 (TX7 3).1 (TX7 3).2.1 (TX7 3).2.2.1 ∈ zT := zmem1 zsub_1 178 (by decide +kernel) (by decide +kernel)
theorem m_fl_RX11_100 : Cond.fieldLink RX11 100 (TX7 4).1 (TX7 4).2.1 (TX7 4).2.2.1 ∈ zT := zmem1 zsub_1 180 (by decide +kernel) (by decide +kernel)
theorem m_co_X9_keep : Cond.code yX9_keep cX9_keep 4 none ∈ zT := zmem1 zsub_3 149 (by decide +kernel) (by decide +kernel)
theorem m_ml_RX11_101 : Cond.methodLink RX11 101 yX9_keep ∈ zT := zmem1 zsub_3 146 (by decide +kernel) (by decide +kernel)
theorem m_im_X9_keep : Cond.instanceMethod yX9_keep ∈ zT := zmem1 zsub_3 147 (by decide +kernel) (by decide +kernel)
theorem m_se_X9_keep : Cond.selects RX9 yX9_keep yX9_keep ∈ zT := zmem1 zsub_3 148 (by decide +kernel) (by decide +kernel)
theorem m_co_X11_forgetWhatFollows : Cond.code yX11_forgetWhatFollows cX11_forgetWhatFollows 2 none ∈ zT := zmem1 zsub_3 168 (by decide +kernel) (by decide +kernel)
theorem m_ml_RX11_105 : Cond.methodLink RX11 105 yX11_forgetWhatFollows ∈ zT := zmem1 zsub_3 165 (by decide +kernel) (by decide +kernel)
theorem m_im_X11_forgetWhatFollows : Cond.instanceMethod yX11_forgetWhatFollows ∈ zT := zmem1 zsub_3 167 (by decide +kernel) (by decide +kernel)
theorem m_se_X11_forgetWhatFollows : Cond.selects RX11 yX11_forgetWhatFollows yX11_forgetWhatFollows ∈ zT := zmem 15 (by decide +kernel) (by decide +kernel)
theorem m_fl_RX11_16 : Cond.fieldLink RX11 16 (TX11 1).1 (TX11 1).2.1 (TX11 1).2.2.1 ∈ zT := zmem1 zsub_2 177 (by decide +kernel) (by decide +kernel)
theorem m_co_X9_takeAll : Cond.code yX9_takeAll cX9_takeAll 3 none ∈ zT := zmem1 zsub_3 184 (by decide +kernel) (by decide +kernel)
theorem m_ml_RX11_117 : Cond.methodLink RX11 117 yX9_takeAll ∈ zT := zmem1 zsub_3 181 (by decide +kernel) (by decide +kernel)
theorem m_im_X9_takeAll : Cond.instanceMethod yX9_takeAll ∈ zT := zmem1 zsub_3 182 (by decide +kernel) (by decide +kernel)
theorem m_se_X9_takeAll : Cond.selects RX9 yX9_takeAll yX9_takeAll ∈ zT := zmem1 zsub_3 183 (by decide +kernel) (by decide +kernel)
theorem m_fl_RX11_20 : Cond.fieldLink RX11 20 (TX11 2).1 (TX11 2).2.1 (TX11 2).2.2.1 ∈ zT := zmem1 zsub_2 178 (by decide +kernel) (by decide +kernel)
theorem kV_RX11_81 {R : Room} {s : State} {args : Array Value} {d mc ms : Nat} (hts : ∀ w ∈ zT, w.before args s = true) (h1 : d + 1 ≤ R.frames) (h2 : 8 + (3 + 11) + 40 * d ≤ R.locals) : CallW R s args RX11 RX9 81 yX9_placeFor cX9_placeFor 3 (some .int) (zW yX9_placeFor cX9_placeFor 3 (some .int)) (zR d mc ms) mc ms 2 := z_cwV hts m_co_X9_placeFor m_ml_RX11_81 m_im_X9_placeFor m_se_X9_placeFor m_ii_RX9 (by decide +kernel) h1 h2
theorem kV_RX11_95 {R : Room} {s : State} {args : Array Value} {d mc ms : Nat} (hts : ∀ w ∈ zT, w.before args s = true) (h1 : d + 1 ≤ R.frames) (h2 : 8 + (5 + 11) + 40 * d ≤ R.locals) : CallW R s args RX11 RX7 95 yX7_read cX7_read 5 none (zW yX7_read cX7_read 5 none) (zR d mc ms) mc ms 3 := z_cwV hts m_co_X7_read m_ml_RX11_95 m_im_X7_read m_se_X7_read m_ii_RX7 (by decide +kernel) h1 h2
theorem kV_RX11_101 {R : Room} {s : State} {args : Array Value} {d mc ms : Nat} (hts : ∀ w ∈ zT, w.before args s = true) (h1 : d + 1 ≤ R.frames) (h2 : 8 + (4 + 11) + 40 * d ≤ R.locals) : CallW R s args RX11 RX9 101 yX9_keep cX9_keep 4 none (zW yX9_keep cX9_keep 4 none) (zR d mc ms) mc ms 3 := z_cwV hts m_co_X9_keep m_ml_RX11_101 m_im_X9_keep m_se_X9_keep m_ii_RX9 (by decide +kernel) h1 h2
theorem kV_RX11_105 {R : Room} {s : State} {args : Array Value} {d mc ms : Nat} (hts : ∀ w ∈ zT, w.before args s = true) (h1 : d + 1 ≤ R.frames) (h2 : 8 + (2 + 11) + 40 * d ≤ R.locals) : CallW R s args RX11 RX11 105 yX11_forgetWhatFollows cX11_forgetWhatFollows 2 none (zW yX11_forgetWhatFollows cX11_forgetWhatFollows 2 none) (zR d mc ms) mc ms 1 := z_cwV hts m_co_X11_forgetWhatFollows m_ml_RX11_105 m_im_X11_forgetWhatFollows m_se_X11_forgetWhatFollows m_ii_RX11 (by decide +kernel) h1 h2
theorem kV_RX11_117 {R : Room} {s : State} {args : Array Value} {d mc ms : Nat} (hts : ∀ w ∈ zT, w.before args s = true) (h1 : d + 1 ≤ R.frames) (h2 : 8 + (3 + 11) + 40 * d ≤ R.locals) : CallW R s args RX11 RX9 117 yX9_takeAll cX9_takeAll 3 none (zW yX9_takeAll cX9_takeAll 3 none) (zR d mc ms) mc ms 1 := z_cwV hts m_co_X9_takeAll m_ml_RX11_117 m_im_X9_takeAll m_se_X9_takeAll m_ii_RX9 (by decide +kernel) h1 h2
theorem dX11_forgetWhatFollows_0 : decode cX11_forgetWhatFollows 0 = .ok (.aload_n 0, 1) := by decide +kernel
theorem dX11_forgetWhatFollows_1 : decode cX11_forgetWhatFollows 1 = .ok (.getfield 65, 3) := by decide +kernel
theorem dX11_forgetWhatFollows_4 : decode cX11_forgetWhatFollows 4 = .ok (.iconst 0, 1) := by decide +kernel
theorem dX11_forgetWhatFollows_5 : decode cX11_forgetWhatFollows 5 = .ok (.putfield 109, 3) := by decide +kernel
theorem dX11_forgetWhatFollows_8 : decode cX11_forgetWhatFollows 8 = .ok (.iload_n 1, 1) := by decide +kernel
theorem dX11_forgetWhatFollows_9 : decode cX11_forgetWhatFollows 9 = .ok (.ifCond .eq 19, 3) := by decide +kernel
theorem dX11_forgetWhatFollows_12 : decode cX11_forgetWhatFollows 12 = .ok (.aload_n 0, 1) := by decide +kernel
theorem dX11_forgetWhatFollows_13 : decode cX11_forgetWhatFollows 13 = .ok (.getfield 55, 3) := by decide +kernel
theorem dX11_forgetWhatFollows_16 : decode cX11_forgetWhatFollows 16 = .ok (.iconst 0, 1) := by decide +kernel
theorem dX11_forgetWhatFollows_17 : decode cX11_forgetWhatFollows 17 = .ok (.putfield 113, 3) := by decide +kernel
theorem dX11_forgetWhatFollows_20 : decode cX11_forgetWhatFollows 20 = .ok (.aload_n 0, 1) := by decide +kernel
theorem dX11_forgetWhatFollows_21 : decode cX11_forgetWhatFollows 21 = .ok (.getfield 59, 3) := by decide +kernel
theorem dX11_forgetWhatFollows_24 : decode cX11_forgetWhatFollows 24 = .ok (.iconst 0, 1) := by decide +kernel
theorem dX11_forgetWhatFollows_25 : decode cX11_forgetWhatFollows 25 = .ok (.putfield 113, 3) := by decide +kernel
theorem dX11_forgetWhatFollows_28 : decode cX11_forgetWhatFollows 28 = .ok (.return_, 1) := by decide +kernel
theorem dX11_text_0 : decode cX11_text 0 = .ok (.aload_n 0, 1) := by decide +kernel
theorem dX11_text_1 : decode cX11_text 1 = .ok (.getfield 10, 3) := by decide +kernel
theorem dX11_text_4 : decode cX11_text 4 = .ok (.iload_n 1, 1) := by decide +kernel
theorem dX11_text_5 : decode cX11_text 5 = .ok (.iload_n 2, 1) := by decide +kernel
theorem dX11_text_6 : decode cX11_text 6 = .ok (.invokevirtual 81, 3) := by decide +kernel
theorem dX11_text_9 : decode cX11_text 9 = .ok (.istore_n 3, 1) := by decide +kernel
theorem dX11_text_10 : decode cX11_text 10 = .ok (.aload_n 0, 1) := by decide +kernel
theorem dX11_text_11 : decode cX11_text 11 = .ok (.getfield 10, 3) := by decide +kernel
theorem dX11_text_14 : decode cX11_text 14 = .ok (.getfield 73, 3) := by decide +kernel
theorem dX11_text_17 : decode cX11_text 17 = .ok (.istore 4, 2) := by decide +kernel
theorem dX11_text_19 : decode cX11_text 19 = .ok (.aload_n 0, 1) := by decide +kernel
theorem dX11_text_20 : decode cX11_text 20 = .ok (.getfield 10, 3) := by decide +kernel
theorem dX11_text_23 : decode cX11_text 23 = .ok (.iconst 0, 1) := by decide +kernel
theorem dX11_text_24 : decode cX11_text 24 = .ok (.putfield 73, 3) := by decide +kernel
theorem dX11_text_27 : decode cX11_text 27 = .ok (.aload_n 0, 1) := by decide +kernel
theorem dX11_text_28 : decode cX11_text 28 = .ok (.getfield 10, 3) := by decide +kernel
theorem dX11_text_31 : decode cX11_text 31 = .ok (.iconst 0, 1) := by decide +kernel
theorem dX11_text_32 : decode cX11_text 32 = .ok (.putfield 85, 3) := by decide +kernel
theorem dX11_text_35 : decode cX11_text 35 = .ok (.aload_n 0, 1) := by decide +kernel
theorem dX11_text_36 : decode cX11_text 36 = .ok (.getfield 10, 3) := by decide +kernel
theorem dX11_text_39 : decode cX11_text 39 = .ok (.iconst (-1), 1) := by decide +kernel
theorem dX11_text_40 : decode cX11_text 40 = .ok (.putfield 88, 3) := by decide +kernel
theorem dX11_text_43 : decode cX11_text 43 = .ok (.iload_n 3, 1) := by decide +kernel
theorem dX11_text_44 : decode cX11_text 44 = .ok (.bipush (-2), 2) := by decide +kernel
theorem dX11_text_46 : decode cX11_text 46 = .ok (.if_icmp .ne 6, 3) := by decide +kernel
theorem dX11_text_49 : decode cX11_text 49 = .ok (.bipush (-2), 2) := by decide +kernel
theorem dX11_text_51 : decode cX11_text 51 = .ok (.ireturn, 1) := by decide +kernel
theorem dX11_text_52 : decode cX11_text 52 = .ok (.aload_n 0, 1) := by decide +kernel
theorem dX11_text_53 : decode cX11_text 53 = .ok (.getfield 27, 3) := by decide +kernel
theorem dX11_text_56 : decode cX11_text 56 = .ok (.aload_n 0, 1) := by decide +kernel
theorem dX11_text_57 : decode cX11_text 57 = .ok (.getfield 10, 3) := by decide +kernel
theorem dX11_text_60 : decode cX11_text 60 = .ok (.getfield 91, 3) := by decide +kernel
theorem dX11_text_63 : decode cX11_text 63 = .ok (.iload 4, 2) := by decide +kernel
theorem dX11_text_65 : decode cX11_text 65 = .ok (.iload_n 1, 1) := by decide +kernel
theorem dX11_text_66 : decode cX11_text 66 = .ok (.invokevirtual 95, 3) := by decide +kernel
theorem dX11_text_69 : decode cX11_text 69 = .ok (.aload_n 0, 1) := by decide +kernel
theorem dX11_text_70 : decode cX11_text 70 = .ok (.getfield 10, 3) := by decide +kernel
theorem dX11_text_73 : decode cX11_text 73 = .ok (.aload_n 0, 1) := by decide +kernel
theorem dX11_text_74 : decode cX11_text 74 = .ok (.getfield 27, 3) := by decide +kernel
theorem dX11_text_77 : decode cX11_text 77 = .ok (.getfield 99, 3) := by decide +kernel
theorem dX11_text_80 : decode cX11_text 80 = .ok (.putfield 85, 3) := by decide +kernel
theorem dX11_text_83 : decode cX11_text 83 = .ok (.aload_n 0, 1) := by decide +kernel
theorem dX11_text_84 : decode cX11_text 84 = .ok (.getfield 10, 3) := by decide +kernel
theorem dX11_text_87 : decode cX11_text 87 = .ok (.aload_n 0, 1) := by decide +kernel
theorem dX11_text_88 : decode cX11_text 88 = .ok (.getfield 27, 3) := by decide +kernel
theorem dX11_text_91 : decode cX11_text 91 = .ok (.getfield 100, 3) := by decide +kernel
theorem dX11_text_94 : decode cX11_text 94 = .ok (.putfield 88, 3) := by decide +kernel
theorem dX11_text_97 : decode cX11_text 97 = .ok (.aload_n 0, 1) := by decide +kernel
theorem dX11_text_98 : decode cX11_text 98 = .ok (.getfield 27, 3) := by decide +kernel
theorem dX11_text_101 : decode cX11_text 101 = .ok (.getfield 99, 3) := by decide +kernel
theorem dX11_text_104 : decode cX11_text 104 = .ok (.ifCond .eq 5, 3) := by decide +kernel
theorem dX11_text_107 : decode cX11_text 107 = .ok (.iconst (-1), 1) := by decide +kernel
theorem dX11_text_108 : decode cX11_text 108 = .ok (.ireturn, 1) := by decide +kernel
theorem dX11_text_109 : decode cX11_text 109 = .ok (.aload_n 0, 1) := by decide +kernel
theorem dX11_text_110 : decode cX11_text 110 = .ok (.getfield 10, 3) := by decide +kernel
theorem dX11_text_113 : decode cX11_text 113 = .ok (.iload_n 1, 1) := by decide +kernel
theorem dX11_text_114 : decode cX11_text 114 = .ok (.iload_n 3, 1) := by decide +kernel
theorem dX11_text_115 : decode cX11_text 115 = .ok (.aload_n 0, 1) := by decide +kernel
theorem dX11_text_116 : decode cX11_text 116 = .ok (.getfield 27, 3) := by decide +kernel
theorem dX11_text_119 : decode cX11_text 119 = .ok (.invokevirtual 101, 3) := by decide +kernel
theorem dX11_text_122 : decode cX11_text 122 = .ok (.aload_n 0, 1) := by decide +kernel
theorem dX11_text_123 : decode cX11_text 123 = .ok (.iload_n 1, 1) := by decide +kernel
theorem dX11_text_124 : decode cX11_text 124 = .ok (.ifCond .ne 7, 3) := by decide +kernel
theorem dX11_text_127 : decode cX11_text 127 = .ok (.iconst 1, 1) := by decide +kernel
theorem dX11_text_128 : decode cX11_text 128 = .ok (.goto 4, 3) := by decide +kernel
theorem dX11_text_131 : decode cX11_text 131 = .ok (.iconst 0, 1) := by decide +kernel
theorem dX11_text_132 : decode cX11_text 132 = .ok (.invokevirtual 105, 3) := by decide +kernel
theorem dX11_text_135 : decode cX11_text 135 = .ok (.iload_n 3, 1) := by decide +kernel
theorem dX11_text_136 : decode cX11_text 136 = .ok (.ireturn, 1) := by decide +kernel
theorem dX11_image_0 : decode cX11_image 0 = .ok (.iload_n 1, 1) := by decide +kernel
theorem dX11_image_1 : decode cX11_image 1 = .ok (.ifCond .lt 8, 3) := by decide +kernel
theorem dX11_image_4 : decode cX11_image 4 = .ok (.iload_n 1, 1) := by decide +kernel
theorem dX11_image_5 : decode cX11_image 5 = .ok (.iconst 3, 1) := by decide +kernel
theorem dX11_image_6 : decode cX11_image 6 = .ok (.if_icmp .lt 5, 3) := by decide +kernel
theorem dX11_image_9 : decode cX11_image 9 = .ok (.iconst 0, 1) := by decide +kernel
theorem dX11_image_10 : decode cX11_image 10 = .ok (.ireturn, 1) := by decide +kernel
theorem dX11_image_11 : decode cX11_image 11 = .ok (.aload_n 0, 1) := by decide +kernel
theorem dX11_image_12 : decode cX11_image 12 = .ok (.getfield 16, 3) := by decide +kernel
theorem dX11_image_15 : decode cX11_image 15 = .ok (.iload_n 1, 1) := by decide +kernel
theorem dX11_image_16 : decode cX11_image 16 = .ok (.aaload, 1) := by decide +kernel
theorem dX11_image_17 : decode cX11_image 17 = .ok (.aload_n 0, 1) := by decide +kernel
theorem dX11_image_18 : decode cX11_image 18 = .ok (.getfield 10, 3) := by decide +kernel
theorem dX11_image_21 : decode cX11_image 21 = .ok (.invokevirtual 117, 3) := by decide +kernel
theorem dX11_image_24 : decode cX11_image 24 = .ok (.aload_n 0, 1) := by decide +kernel
theorem dX11_image_25 : decode cX11_image 25 = .ok (.getfield 20, 3) := by decide +kernel
theorem dX11_image_28 : decode cX11_image 28 = .ok (.iload_n 1, 1) := by decide +kernel
theorem dX11_image_29 : decode cX11_image 29 = .ok (.iconst 1, 1) := by decide +kernel
theorem dX11_image_30 : decode cX11_image 30 = .ok (.bastore, 1) := by decide +kernel
theorem dX11_image_31 : decode cX11_image 31 = .ok (.iconst 1, 1) := by decide +kernel
theorem dX11_image_32 : decode cX11_image 32 = .ok (.ireturn, 1) := by decide +kernel
theorem dX11_again_0 : decode cX11_again 0 = .ok (.iload_n 1, 1) := by decide +kernel
theorem dX11_again_1 : decode cX11_again 1 = .ok (.ifCond .lt 17, 3) := by decide +kernel
theorem dX11_again_4 : decode cX11_again 4 = .ok (.iload_n 1, 1) := by decide +kernel
theorem dX11_again_5 : decode cX11_again 5 = .ok (.iconst 3, 1) := by decide +kernel
theorem dX11_again_6 : decode cX11_again 6 = .ok (.if_icmp .ge 12, 3) := by decide +kernel
theorem dX11_again_9 : decode cX11_again 9 = .ok (.aload_n 0, 1) := by decide +kernel
theorem dX11_again_10 : decode cX11_again 10 = .ok (.getfield 20, 3) := by decide +kernel
theorem dX11_again_13 : decode cX11_again 13 = .ok (.iload_n 1, 1) := by decide +kernel
theorem dX11_again_14 : decode cX11_again 14 = .ok (.baload, 1) := by decide +kernel
theorem dX11_again_15 : decode cX11_again 15 = .ok (.ifCond .ne 5, 3) := by decide +kernel
theorem dX11_again_18 : decode cX11_again 18 = .ok (.iconst 0, 1) := by decide +kernel
theorem dX11_again_19 : decode cX11_again 19 = .ok (.ireturn, 1) := by decide +kernel
theorem dX11_again_20 : decode cX11_again 20 = .ok (.aload_n 0, 1) := by decide +kernel
theorem dX11_again_21 : decode cX11_again 21 = .ok (.getfield 10, 3) := by decide +kernel
theorem dX11_again_24 : decode cX11_again 24 = .ok (.aload_n 0, 1) := by decide +kernel
theorem dX11_again_25 : decode cX11_again 25 = .ok (.getfield 16, 3) := by decide +kernel
theorem dX11_again_28 : decode cX11_again 28 = .ok (.iload_n 1, 1) := by decide +kernel
theorem dX11_again_29 : decode cX11_again 29 = .ok (.aaload, 1) := by decide +kernel
theorem dX11_again_30 : decode cX11_again 30 = .ok (.invokevirtual 117, 3) := by decide +kernel
theorem dX11_again_33 : decode cX11_again 33 = .ok (.aload_n 0, 1) := by decide +kernel
theorem dX11_again_34 : decode cX11_again 34 = .ok (.iconst 1, 1) := by decide +kernel
theorem dX11_again_35 : decode cX11_again 35 = .ok (.invokevirtual 105, 3) := by decide +kernel
theorem dX11_again_38 : decode cX11_again 38 = .ok (.iconst 1, 1) := by decide +kernel
theorem dX11_again_39 : decode cX11_again 39 = .ok (.ireturn, 1) := by decide +kernel


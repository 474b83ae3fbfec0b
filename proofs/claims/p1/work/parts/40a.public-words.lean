theorem m_fl_RX9_47 : Cond.fieldLink RX9 47 (TX7 0).1 (TX7 0).2.1 (TX7 0).2.2.1 ∈ zT := zmem1 zsub_1 172 (by decide +kernel) (by decide +kernel)
theorem m_co_math_max : Cond.code Lib.Math.max.name Lib.Math.max.code 2 (some .int) ∈ zT := zmem1 zsub_3 164 (by decide +kernel) (by decide +kernel)
theorem m_ml_RX9_71 : Cond.methodLink RX9 71 Lib.Math.max.name ∈ zT := zmem1 zsub_3 162 (by decide +kernel) (by decide +kernel)
theorem m_st_math_max : Cond.static Lib.Math.max.name ∈ zT := zmem1 zsub_3 163 (by decide +kernel) (by decide +kernel)
theorem m_fl_RX9_57 : Cond.fieldLink RX9 57 (TX7 1).1 (TX7 1).2.1 (TX7 1).2.2.1 ∈ zT := zmem1 zsub_1 174 (by decide +kernel) (by decide +kernel)
theorem m_fl_RX9_64 : Cond.fieldLink RX9 64 (TX7 2).1 (TX7 2).2.1 (TX7 2).2.2.1 ∈ zT := zmem1 zsub_1 176 (by decide +kernel) (by decide +kernel)
theorem m_fl_RX11_65 : Cond.fieldLink RX11 65 (TX11 9).1 (TX11 9).2.1 (TX11 9).2.2.1 ∈ zT := zmem1 zsub_2 185 (by decide +kernel) (by decide +kernel)
theorem m_fl_RX11_109 : Cond.fieldLink RX11 109 (TX3 0).1 (TX3 0).2.1 (TX3 0).2.2.1 ∈ zT := zmem1 zsub_2 146 (by decide +kernel) (by decide +kernel)
theorem m_fl_RX11_55 : Cond.fieldLink RX11 55 (TX11 7).1 (TX11 7).2.1 (TX11 7).2.2.1 ∈ zT := zmem1 zsub_2 183 (by decide +kernel) (by decide +kernel)
theorem m_fl_RX11_113 : Cond.fieldLink RX11 113 (TX0 0).1 (TX0 0).2.1 (TX0 0).2.2.1 ∈ zT := zmem1 zsub_2 106 (by decide +kernel) (by decide +kernel)
theorem m_fl_RX11_59 : Cond.fieldLink RX11 59 (TX11 8).1 (TX11 8).2.1 (TX11 8).2.2.1 ∈ zT := zmem1 zsub_2 184 (by decide +kernel) (by decide +kernel)
theorem m_fl_RX11_10 : Cond.fieldLink RX11 10 (TX11 0).1 (TX11 0).2.1 (TX11 0).2.2.1 ∈ zT := zmem1 zsub_2 176 (by decide +kernel) (by decide +kernel)
theorem m_co_X9_placeFor : Cond.code yX9_placeFor cX9_placeFor 3 (some .int) ∈ zT := zmem1 zsub_2 229 (by decide +kernel) (by decide +kernel)
theorem m_ml_RX11_81 : Cond.methodLink RX11 81 yX9_placeFor ∈ zT := zmem1 zsub_2 226 (by decide +kernel) (by decide +kernel)
theorem m_im_X9_placeFor : Cond.instanceMethod yX9_placeFor ∈ zT := zmem1 zsub_2 227 (by decide +kernel) (by decide +kernel)
theorem m_se_X9_placeFor : Cond.selects RX9 yX9_placeFor yX9_placeFor ∈ zT := zmem1 zsub_2 228 (by decide +kernel) (by decide +kernel)
theorem m_ii_RX9 : Cond.initialized RX9 ∈ zT := zmem1 zsub_1 2 (by decide +kernel) (by decide +kernel)
theorem m_fl_RX11_73 : Cond.fieldLink RX11 73 (TX9 1).1 (TX9 1).2.1 (TX9 1).2.2.1 ∈ zT := zmem1 zsub_1 130 (by decide +kernel) (by decide +kernel)
theorem m_fl_RX11_85 : Cond.fieldLink RX11 85 (TX9 2).1 (TX9 2).2.1 (TX9 2).2.2.1 ∈ zT := zmem1 zsub_1 132 (by decide +kernel) (by decide +kernel)
theorem m_fl_RX11_88 : Cond.fieldLink RX11 88 (TX9 3).1 (TX9 3).2.1 (TX9 3).2.2.1 ∈ zT := zmem1 zsub_1 135 (by decide +kernel) (by decide +kernel)
theorem m_fl_RX11_27 : Cond.fieldLink RX11 27 (TX11 3).1 (TX11 3).2.1 (TX11 3).2.2.1 ∈ zT := zmem1 zsub_2 179 (by decide +kernel) (by decide +kernel)
theorem m_fl_RX11_91 : Cond.fieldLink RX11 91 (TX9 0).1 (TX9 0).2.1 (TX9 0).2.2.1 ∈ zT := zmem1 zsub_1 129 (by decide +kernel) (by decide +kernel)
theorem m_co_X7_read : Cond.code yX7_read cX7_read 5 none ∈ zT := zmem1 zsub_2 233 (by decide +kernel) (by decide +kernel)
theorem m_ml_RX11_95 : Cond.methodLink RX11 95 yX7_read ∈ zT := zmem1 zsub_2 230 (by decide +kernel) (by decide +kernel)
theorem m_im_X7_read : Cond.instanceMethod yX7_read ∈ zT := zmem1 zsub_2 231 (by decide +kernel) (by decide +kernel)
theorem m_se_X7_read : Cond.selects RX7 yX7_read yX7_read ∈ zT := zmem1 zsub_2 232 (by decide +kernel) (by decide +kernel)
theorem m_fl_RX11_99 : Cond.fieldLink RX11 99 (TX7 3).1 (TX7 3).2.1 (TX7 3).2.2.1 ∈ zT := zmem1 zsub_1 178 (by decide +kernel) (by decide +kernel)
theorem m_fl_RX11_100 : Cond.fieldLink RX11 100 (TX7 4).1 (TX7 4).2.1 (TX7 4).2.2.1 ∈ zT := zmem1 zsub_1 180 (by decide +kernel) (by decide +kernel)
theorem m_co_X9_keep : Cond.code yX9_keep cX9_keep 4 none ∈ zT := zmem1 zsub_3 149 (by decide +kernel) (by decide +kernel)
theorem m_ml_RX11_101 : Cond.methodLink RX11 101 yX9_keep ∈ zT := zmem1 zsub_3 146 (by decide +kernel) (by decide +kernel)
theorem m_im_X9_keep : Cond.instanceMethod yX9_keep ∈ zT := zmem1 zsub_3 147 (by decide +kernel) (by decide +kernel)
theorem m_se_X9_keep : Cond.selects RX9 yX9_keep yX9_keep ∈ zT := zmem1 zsub_3 148 (by decide +kernel) (by decide +kernel)
theorem m_co_X11_forgetWhatFollows : Cond.code yX11_forgetWhatFollows cX11_forgetWhatFollows 2 none ∈ zT := zmem1 zsub_3 168 (by decide +kernel) (by decide +kernel)
theorem m_ml_RX11_105 : Cond.methodLink RX11 105 yX11_forgetWhatFollows ∈ zT := zmem1 zsub_3 165 (by decide +kernel) (by decide +kernel)
theorem m_im_X11_forgetWhatFollows : Cond.instanceMethod yX11_forgetWhatFollows ∈ zT := zmem1 zsub_3 167 (by decide +kernel) (by decide +kernel)
theorem m_se_X11_forgetWhatFollows : Cond.selects RX11 yX11_forgetWhatFollows yX11_forgetWhatFollows ∈ zT := zmem 15 (by decide +kernel) (by decide +kernel)
theorem m_ii_RX11 : Cond.initialized RX11 ∈ zT := zmem1 zsub_1 1 (by decide +kernel) (by decide +kernel)
theorem m_co_X9_append : Cond.code yX9_append cX9_append 3 none ∈ zT := zmem1 zsub_2 217 (by decide +kernel) (by decide +kernel)
theorem m_ml_RX11_77 : Cond.methodLink RX11 77 yX9_append ∈ zT := zmem1 zsub_2 214 (by decide +kernel) (by decide +kernel)
theorem m_im_X9_append : Cond.instanceMethod yX9_append ∈ zT := zmem1 zsub_2 215 (by decide +kernel) (by decide +kernel)
theorem m_se_X9_append : Cond.selects RX9 yX9_append yX9_append ∈ zT := zmem1 zsub_2 216 (by decide +kernel) (by decide +kernel)
theorem m_fl_RX11_114 : Cond.fieldLink RX11 114 (TX9 4).1 (TX9 4).2.1 (TX9 4).2.2.1 ∈ zT := zmem1 zsub_1 137 (by decide +kernel) (by decide +kernel)
theorem m_fl_RX11_16 : Cond.fieldLink RX11 16 (TX11 1).1 (TX11 1).2.1 (TX11 1).2.2.1 ∈ zT := zmem1 zsub_2 177 (by decide +kernel) (by decide +kernel)
theorem m_co_X9_takeAll : Cond.code yX9_takeAll cX9_takeAll 3 none ∈ zT := zmem1 zsub_3 184 (by decide +kernel) (by decide +kernel)
theorem m_ml_RX11_117 : Cond.methodLink RX11 117 yX9_takeAll ∈ zT := zmem1 zsub_3 181 (by decide +kernel) (by decide +kernel)
theorem m_im_X9_takeAll : Cond.instanceMethod yX9_takeAll ∈ zT := zmem1 zsub_3 182 (by decide +kernel) (by decide +kernel)
theorem m_se_X9_takeAll : Cond.selects RX9 yX9_takeAll yX9_takeAll ∈ zT := zmem1 zsub_3 183 (by decide +kernel) (by decide +kernel)
theorem m_fl_RX11_20 : Cond.fieldLink RX11 20 (TX11 2).1 (TX11 2).2.1 (TX11 2).2.2.1 ∈ zT := zmem1 zsub_2 178 (by decide +kernel) (by decide +kernel)
theorem m_co_X9_landAt : Cond.code yX9_landAt cX9_landAt 2 (some (.object "TurnedPosts$Land")) ∈ zT := zmem1 zsub_3 196 (by decide +kernel) (by decide +kernel)
theorem m_ml_RX11_121 : Cond.methodLink RX11 121 yX9_landAt ∈ zT := zmem1 zsub_3 193 (by decide +kernel) (by decide +kernel)
theorem m_im_X9_landAt : Cond.instanceMethod yX9_landAt ∈ zT := zmem1 zsub_3 194 (by decide +kernel) (by decide +kernel)
theorem m_se_X9_landAt : Cond.selects RX9 yX9_landAt yX9_landAt ∈ zT := zmem1 zsub_3 195 (by decide +kernel) (by decide +kernel)
theorem m_co_X9_logAt : Cond.code yX9_logAt cX9_logAt 2 (some (.object "TurnedPosts$Log")) ∈ zT := zmem1 zsub_3 228 (by decide +kernel) (by decide +kernel)
theorem m_ml_RX11_138 : Cond.methodLink RX11 138 yX9_logAt ∈ zT := zmem1 zsub_3 225 (by decide +kernel) (by decide +kernel)
theorem m_im_X9_logAt : Cond.instanceMethod yX9_logAt ∈ zT := zmem1 zsub_3 226 (by decide +kernel) (by decide +kernel)
theorem m_se_X9_logAt : Cond.selects RX9 yX9_logAt yX9_logAt ∈ zT := zmem1 zsub_3 227 (by decide +kernel) (by decide +kernel)
theorem m_co_X9_dayAt : Cond.code yX9_dayAt cX9_dayAt 2 (some (.object "TurnedPosts$Day")) ∈ zT := zmem1 zsub_3 216 (by decide +kernel) (by decide +kernel)
theorem m_ml_RX11_130 : Cond.methodLink RX11 130 yX9_dayAt ∈ zT := zmem1 zsub_3 213 (by decide +kernel) (by decide +kernel)
theorem m_im_X9_dayAt : Cond.instanceMethod yX9_dayAt ∈ zT := zmem1 zsub_3 214 (by decide +kernel) (by decide +kernel)
theorem m_se_X9_dayAt : Cond.selects RX9 yX9_dayAt yX9_dayAt ∈ zT := zmem1 zsub_3 215 (by decide +kernel) (by decide +kernel)
theorem m_co_X11_fit : Cond.code yX11_fit cX11_fit 5 (some .boolean) ∈ zT := zmem1 zsub_5 113 (by decide +kernel) (by decide +kernel)
theorem m_ml_RX11_302 : Cond.methodLink RX11 302 yX11_fit ∈ zT := zmem1 zsub_5 110 (by decide +kernel) (by decide +kernel)
theorem m_im_X11_fit : Cond.instanceMethod yX11_fit ∈ zT := zmem1 zsub_5 112 (by decide +kernel) (by decide +kernel)
theorem m_se_X11_fit : Cond.selects RX11 yX11_fit yX11_fit ∈ zT := zmem 41 (by decide +kernel) (by decide +kernel)
theorem kV_RX11_81 {R : Room} {s : State} {args : Array Value} {d mc ms : Nat} (hts : ∀ w ∈ zT, w.before args s = true) (h1 : d + 1 ≤ R.frames) (h2 : 8 + (3 + 11) + 40 * d ≤ R.locals) : CallW R s args RX11 RX9 81 yX9_placeFor cX9_placeFor 3 (some .int) (zW yX9_placeFor cX9_placeFor 3 (some .int)) (zR d mc ms) mc ms 2 := z_cwV hts m_co_X9_placeFor m_ml_RX11_81 m_im_X9_placeFor m_se_X9_placeFor m_ii_RX9 (by decide +kernel) h1 h2
theorem kV_RX11_95 {R : Room} {s : State} {args : Array Value} {d mc ms : Nat} (hts : ∀ w ∈ zT, w.before args s = true) (h1 : d + 1 ≤ R.frames) (h2 : 8 + (5 + 11) + 40 * d ≤ R.locals) : CallW R s args RX11 RX7 95 yX7_read cX7_read 5 none (zW yX7_read cX7_read 5 none) (zR d mc ms) mc ms 3 := z_cwV hts m_co_X7_read m_ml_RX11_95 m_im_X7_read m_se_X7_read m_ii_RX7 (by decide +kernel) h1 h2
theorem kV_RX11_101 {R : Room} {s : State} {args : Array Value} {d mc ms : Nat} (hts : ∀ w ∈ zT, w.before args s = true) (h1 : d + 1 ≤ R.frames) (h2 : 8 + (4 + 11) + 40 * d ≤ R.locals) : CallW R s args RX11 RX9 101 yX9_keep cX9_keep 4 none (zW yX9_keep cX9_keep 4 none) (zR d mc ms) mc ms 3 := z_cwV hts m_co_X9_keep m_ml_RX11_101 m_im_X9_keep m_se_X9_keep m_ii_RX9 (by decide +kernel) h1 h2
theorem kV_RX11_105 {R : Room} {s : State} {args : Array Value} {d mc ms : Nat} (hts : ∀ w ∈ zT, w.before args s = true) (h1 : d + 1 ≤ R.frames) (h2 : 8 + (2 + 11) + 40 * d ≤ R.locals) : CallW R s args RX11 RX11 105 yX11_forgetWhatFollows cX11_forgetWhatFollows 2 none (zW yX11_forgetWhatFollows cX11_forgetWhatFollows 2 none) (zR d mc ms) mc ms 1 := z_cwV hts m_co_X11_forgetWhatFollows m_ml_RX11_105 m_im_X11_forgetWhatFollows m_se_X11_forgetWhatFollows m_ii_RX11 (by decide +kernel) h1 h2
theorem kV_RX11_77 {R : Room} {s : State} {args : Array Value} {d mc ms : Nat} (hts : ∀ w ∈ zT, w.before args s = true) (h1 : d + 1 ≤ R.frames) (h2 : 8 + (3 + 11) + 40 * d ≤ R.locals) : CallW R s args RX11 RX9 77 yX9_append cX9_append 3 none (zW yX9_append cX9_append 3 none) (zR d mc ms) mc ms 1 := z_cwV hts m_co_X9_append m_ml_RX11_77 m_im_X9_append m_se_X9_append m_ii_RX9 (by decide +kernel) h1 h2
theorem kV_RX11_117 {R : Room} {s : State} {args : Array Value} {d mc ms : Nat} (hts : ∀ w ∈ zT, w.before args s = true) (h1 : d + 1 ≤ R.frames) (h2 : 8 + (3 + 11) + 40 * d ≤ R.locals) : CallW R s args RX11 RX9 117 yX9_takeAll cX9_takeAll 3 none (zW yX9_takeAll cX9_takeAll 3 none) (zR d mc ms) mc ms 1 := z_cwV hts m_co_X9_takeAll m_ml_RX11_117 m_im_X9_takeAll m_se_X9_takeAll m_ii_RX9 (by decide +kernel) h1 h2
theorem kV_RX11_121 {R : Room} {s : State} {args : Array Value} {d mc ms : Nat} (hts : ∀ w ∈ zT, w.before args s = true) (h1 : d + 1 ≤ R.frames) (h2 : 8 + (2 + 11) + 40 * d ≤ R.locals) : CallW R s args RX11 RX9 121 yX9_landAt cX9_landAt 2 (some (.object "TurnedPosts$Land")) (zW yX9_landAt cX9_landAt 2 (some (.object "TurnedPosts$Land"))) (zR d mc ms) mc ms 1 := z_cwV hts m_co_X9_landAt m_ml_RX11_121 m_im_X9_landAt m_se_X9_landAt m_ii_RX9 (by decide +kernel) h1 h2
theorem kV_RX11_138 {R : Room} {s : State} {args : Array Value} {d mc ms : Nat} (hts : ∀ w ∈ zT, w.before args s = true) (h1 : d + 1 ≤ R.frames) (h2 : 8 + (2 + 11) + 40 * d ≤ R.locals) : CallW R s args RX11 RX9 138 yX9_logAt cX9_logAt 2 (some (.object "TurnedPosts$Log")) (zW yX9_logAt cX9_logAt 2 (some (.object "TurnedPosts$Log"))) (zR d mc ms) mc ms 1 := z_cwV hts m_co_X9_logAt m_ml_RX11_138 m_im_X9_logAt m_se_X9_logAt m_ii_RX9 (by decide +kernel) h1 h2
theorem kV_RX11_130 {R : Room} {s : State} {args : Array Value} {d mc ms : Nat} (hts : ∀ w ∈ zT, w.before args s = true) (h1 : d + 1 ≤ R.frames) (h2 : 8 + (2 + 11) + 40 * d ≤ R.locals) : CallW R s args RX11 RX9 130 yX9_dayAt cX9_dayAt 2 (some (.object "TurnedPosts$Day")) (zW yX9_dayAt cX9_dayAt 2 (some (.object "TurnedPosts$Day"))) (zR d mc ms) mc ms 1 := z_cwV hts m_co_X9_dayAt m_ml_RX11_130 m_im_X9_dayAt m_se_X9_dayAt m_ii_RX9 (by decide +kernel) h1 h2
theorem kV_RX11_302 {R : Room} {s : State} {args : Array Value} {d mc ms : Nat} (hts : ∀ w ∈ zT, w.before args s = true) (h1 : d + 1 ≤ R.frames) (h2 : 8 + (5 + 11) + 40 * d ≤ R.locals) : CallW R s args RX11 RX11 302 yX11_fit cX11_fit 5 (some .boolean) (zW yX11_fit cX11_fit 5 (some .boolean)) (zR d mc ms) mc ms 2 := z_cwV hts m_co_X11_fit m_ml_RX11_302 m_im_X11_fit m_se_X11_fit m_ii_RX11 (by decide +kernel) h1 h2
theorem dX9_keep_0 : decode cX9_keep 0 = .ok (.iload_n 1, 1) := by decide +kernel
theorem dX9_keep_1 : decode cX9_keep 1 = .ok (.ifCond .lt 17, 3) := by decide +kernel
theorem dX9_keep_4 : decode cX9_keep 4 = .ok (.iload_n 1, 1) := by decide +kernel
theorem dX9_keep_5 : decode cX9_keep 5 = .ok (.iconst 2, 1) := by decide +kernel
theorem dX9_keep_6 : decode cX9_keep 6 = .ok (.if_icmp .gt 12, 3) := by decide +kernel
theorem dX9_keep_9 : decode cX9_keep 9 = .ok (.iload_n 2, 1) := by decide +kernel
theorem dX9_keep_10 : decode cX9_keep 10 = .ok (.ifCond .lt 8, 3) := by decide +kernel
theorem dX9_keep_13 : decode cX9_keep 13 = .ok (.iload_n 2, 1) := by decide +kernel
theorem dX9_keep_14 : decode cX9_keep 14 = .ok (.iconst 2, 1) := by decide +kernel
theorem dX9_keep_15 : decode cX9_keep 15 = .ok (.if_icmp .lt 4, 3) := by decide +kernel
theorem dX9_keep_19 : decode cX9_keep 19 = .ok (.iload_n 1, 1) := by decide +kernel
theorem dX9_keep_20 : decode cX9_keep 20 = .ok (.ifCond .ne 19, 3) := by decide +kernel
theorem dX9_keep_23 : decode cX9_keep 23 = .ok (.aload_n 0, 1) := by decide +kernel
theorem dX9_keep_24 : decode cX9_keep 24 = .ok (.getfield 26, 3) := by decide +kernel
theorem dX9_keep_27 : decode cX9_keep 27 = .ok (.iload_n 2, 1) := by decide +kernel
theorem dX9_keep_28 : decode cX9_keep 28 = .ok (.aaload, 1) := by decide +kernel
theorem dX9_keep_29 : decode cX9_keep 29 = .ok (.aload_n 3, 1) := by decide +kernel
theorem dX9_keep_30 : decode cX9_keep 30 = .ok (.getfield 47, 3) := by decide +kernel
theorem dX9_keep_33 : decode cX9_keep 33 = .ok (.invokevirtual 53, 3) := by decide +kernel
theorem dX9_keep_36 : decode cX9_keep 36 = .ok (.goto 37, 3) := by decide +kernel
theorem dX9_keep_39 : decode cX9_keep 39 = .ok (.iload_n 1, 1) := by decide +kernel
theorem dX9_keep_40 : decode cX9_keep 40 = .ok (.iconst 1, 1) := by decide +kernel
theorem dX9_keep_41 : decode cX9_keep 41 = .ok (.if_icmp .ne 19, 3) := by decide +kernel
theorem dX9_keep_44 : decode cX9_keep 44 = .ok (.aload_n 0, 1) := by decide +kernel
theorem dX9_keep_45 : decode cX9_keep 45 = .ok (.getfield 33, 3) := by decide +kernel
theorem dX9_keep_48 : decode cX9_keep 48 = .ok (.iload_n 2, 1) := by decide +kernel
theorem dX9_keep_49 : decode cX9_keep 49 = .ok (.aaload, 1) := by decide +kernel
theorem dX9_keep_50 : decode cX9_keep 50 = .ok (.aload_n 3, 1) := by decide +kernel
theorem dX9_keep_51 : decode cX9_keep 51 = .ok (.getfield 57, 3) := by decide +kernel
theorem dX9_keep_54 : decode cX9_keep 54 = .ok (.invokevirtual 61, 3) := by decide +kernel
theorem dX9_keep_57 : decode cX9_keep 57 = .ok (.goto 16, 3) := by decide +kernel
theorem dX9_keep_60 : decode cX9_keep 60 = .ok (.aload_n 0, 1) := by decide +kernel
theorem dX9_keep_61 : decode cX9_keep 61 = .ok (.getfield 40, 3) := by decide +kernel
theorem dX9_keep_64 : decode cX9_keep 64 = .ok (.iload_n 2, 1) := by decide +kernel
theorem dX9_keep_65 : decode cX9_keep 65 = .ok (.aaload, 1) := by decide +kernel
theorem dX9_keep_66 : decode cX9_keep 66 = .ok (.aload_n 3, 1) := by decide +kernel
theorem dX9_keep_67 : decode cX9_keep 67 = .ok (.getfield 64, 3) := by decide +kernel
theorem dX9_keep_70 : decode cX9_keep 70 = .ok (.invokevirtual 68, 3) := by decide +kernel
theorem dX9_keep_73 : decode cX9_keep 73 = .ok (.aload_n 0, 1) := by decide +kernel
theorem dX9_keep_74 : decode cX9_keep 74 = .ok (.getfield 19, 3) := by decide +kernel
theorem dX9_keep_77 : decode cX9_keep 77 = .ok (.iload_n 1, 1) := by decide +kernel
theorem dX9_keep_78 : decode cX9_keep 78 = .ok (.aload_n 0, 1) := by decide +kernel
theorem dX9_keep_79 : decode cX9_keep 79 = .ok (.getfield 19, 3) := by decide +kernel
theorem dX9_keep_82 : decode cX9_keep 82 = .ok (.iload_n 1, 1) := by decide +kernel
theorem dX9_keep_83 : decode cX9_keep 83 = .ok (.iaload, 1) := by decide +kernel
theorem dX9_keep_84 : decode cX9_keep 84 = .ok (.iload_n 2, 1) := by decide +kernel
theorem dX9_keep_85 : decode cX9_keep 85 = .ok (.iconst 1, 1) := by decide +kernel
theorem dX9_keep_86 : decode cX9_keep 86 = .ok (.iadd, 1) := by decide +kernel
theorem dX9_keep_87 : decode cX9_keep 87 = .ok (.invokestatic 71, 3) := by decide +kernel
theorem dX9_keep_90 : decode cX9_keep 90 = .ok (.iastore, 1) := by decide +kernel
theorem dX9_keep_91 : decode cX9_keep 91 = .ok (.return_, 1) := by decide +kernel
theorem dX11_forgetWhatFollows_0 : decode cX11_forgetWhatFollows 0 = .ok (.aload_n 0, 1) := by decide +kernel
theorem dX11_forgetWhatFollows_1 : decode cX11_forgetWhatFollows 1 = .ok (.getfield 65, 3) := by decide +kernel
theorem dX11_forgetWhatFollows_4 : decode cX11_forgetWhatFollows 4 = .ok (.iconst 0, 1) := by decide +kernel
theorem dX11_forgetWhatFollows_5 : decode cX11_forgetWhatFollows 5 = .ok (.putfield 109, 3) := by decide +kernel
theorem dX11_forgetWhatFollows_8 : decode cX11_forgetWhatFollows 8 = .ok (.iload_n 1, 1) := by decide +kernel
theorem dX11_forgetWhatFollows_9 : decode cX11_forgetWhatFollows 9 = .ok (.ifCond .eq 19, 3) := by decide +kernel
theorem dX11_forgetWhatFollows_12 : decode cX11_forgetWhatFollows 12 = .ok (.aload_n 0, 1) := by decide +kernel
theorem dX11_forgetWhatFollows_13 : decode cX11_forgetWhatFollows 13 = .ok (.getfield 55, 3) := by decide +kernel
theorem dX11_forgetWhatFollows_16 : decode cX11_forgetWhatFollows 16 = .ok (.iconst 0, 1) := by decide +kernel
theorem dX11_forgetWhatFollows_17 : decode cX11_forgetWhatFollows 17 = .ok (.putfield 113, 3) := by decide +kernel
theorem dX11_forgetWhatFollows_20 : decode cX11_forgetWhatFollows 20 = .ok (.aload_n 0, 1) := by decide +kernel
theorem dX11_forgetWhatFollows_21 : decode cX11_forgetWhatFollows 21 = .ok (.getfield 59, 3) := by decide +kernel
theorem dX11_forgetWhatFollows_24 : decode cX11_forgetWhatFollows 24 = .ok (.iconst 0, 1) := by decide +kernel
theorem dX11_forgetWhatFollows_25 : decode cX11_forgetWhatFollows 25 = .ok (.putfield 113, 3) := by decide +kernel
theorem dX11_forgetWhatFollows_28 : decode cX11_forgetWhatFollows 28 = .ok (.return_, 1) := by decide +kernel
theorem dX11_text_0 : decode cX11_text 0 = .ok (.aload_n 0, 1) := by decide +kernel
theorem dX11_text_1 : decode cX11_text 1 = .ok (.getfield 10, 3) := by decide +kernel
theorem dX11_text_4 : decode cX11_text 4 = .ok (.iload_n 1, 1) := by decide +kernel
theorem dX11_text_5 : decode cX11_text 5 = .ok (.iload_n 2, 1) := by decide +kernel
theorem dX11_text_6 : decode cX11_text 6 = .ok (.invokevirtual 81, 3) := by decide +kernel
theorem dX11_text_9 : decode cX11_text 9 = .ok (.istore_n 3, 1) := by decide +kernel
theorem dX11_text_10 : decode cX11_text 10 = .ok (.aload_n 0, 1) := by decide +kernel
theorem dX11_text_11 : decode cX11_text 11 = .ok (.getfield 10, 3) := by decide +kernel
theorem dX11_text_14 : decode cX11_text 14 = .ok (.getfield 73, 3) := by decide +kernel
theorem dX11_text_17 : decode cX11_text 17 = .ok (.istore 4, 2) := by decide +kernel
theorem dX11_text_19 : decode cX11_text 19 = .ok (.aload_n 0, 1) := by decide +kernel
theorem dX11_text_20 : decode cX11_text 20 = .ok (.getfield 10, 3) := by decide +kernel
theorem dX11_text_23 : decode cX11_text 23 = .ok (.iconst 0, 1) := by decide +kernel
theorem dX11_text_24 : decode cX11_text 24 = .ok (.putfield 73, 3) := by decide +kernel
theorem dX11_text_27 : decode cX11_text 27 = .ok (.aload_n 0, 1) := by decide +kernel
theorem dX11_text_28 : decode cX11_text 28 = .ok (.getfield 10, 3) := by decide +kernel
theorem dX11_text_31 : decode cX11_text 31 = .ok (.iconst 0, 1) := by decide +kernel
theorem dX11_text_32 : decode cX11_text 32 = .ok (.putfield 85, 3) := by decide +kernel
theorem dX11_text_35 : decode cX11_text 35 = .ok (.aload_n 0, 1) := by decide +kernel
theorem dX11_text_36 : decode cX11_text 36 = .ok (.getfield 10, 3) := by decide +kernel
theorem dX11_text_39 : decode cX11_text 39 = .ok (.iconst (-1), 1) := by decide +kernel
theorem dX11_text_40 : decode cX11_text 40 = .ok (.putfield 88, 3) := by decide +kernel
theorem dX11_text_43 : decode cX11_text 43 = .ok (.iload_n 3, 1) := by decide +kernel
theorem dX11_text_44 : decode cX11_text 44 = .ok (.bipush (-2), 2) := by decide +kernel
theorem dX11_text_46 : decode cX11_text 46 = .ok (.if_icmp .ne 6, 3) := by decide +kernel
theorem dX11_text_49 : decode cX11_text 49 = .ok (.bipush (-2), 2) := by decide +kernel
theorem dX11_text_51 : decode cX11_text 51 = .ok (.ireturn, 1) := by decide +kernel
theorem dX11_text_52 : decode cX11_text 52 = .ok (.aload_n 0, 1) := by decide +kernel
theorem dX11_text_53 : decode cX11_text 53 = .ok (.getfield 27, 3) := by decide +kernel
theorem dX11_text_56 : decode cX11_text 56 = .ok (.aload_n 0, 1) := by decide +kernel
theorem dX11_text_57 : decode cX11_text 57 = .ok (.getfield 10, 3) := by decide +kernel
theorem dX11_text_60 : decode cX11_text 60 = .ok (.getfield 91, 3) := by decide +kernel
theorem dX11_text_63 : decode cX11_text 63 = .ok (.iload 4, 2) := by decide +kernel
theorem dX11_text_65 : decode cX11_text 65 = .ok (.iload_n 1, 1) := by decide +kernel
theorem dX11_text_66 : decode cX11_text 66 = .ok (.invokevirtual 95, 3) := by decide +kernel
theorem dX11_text_69 : decode cX11_text 69 = .ok (.aload_n 0, 1) := by decide +kernel
theorem dX11_text_70 : decode cX11_text 70 = .ok (.getfield 10, 3) := by decide +kernel
theorem dX11_text_73 : decode cX11_text 73 = .ok (.aload_n 0, 1) := by decide +kernel
theorem dX11_text_74 : decode cX11_text 74 = .ok (.getfield 27, 3) := by decide +kernel
theorem dX11_text_77 : decode cX11_text 77 = .ok (.getfield 99, 3) := by decide +kernel
theorem dX11_text_80 : decode cX11_text 80 = .ok (.putfield 85, 3) := by decide +kernel
theorem dX11_text_83 : decode cX11_text 83 = .ok (.aload_n 0, 1) := by decide +kernel
theorem dX11_text_84 : decode cX11_text 84 = .ok (.getfield 10, 3) := by decide +kernel
theorem dX11_text_87 : decode cX11_text 87 = .ok (.aload_n 0, 1) := by decide +kernel
theorem dX11_text_88 : decode cX11_text 88 = .ok (.getfield 27, 3) := by decide +kernel
theorem dX11_text_91 : decode cX11_text 91 = .ok (.getfield 100, 3) := by decide +kernel
theorem dX11_text_94 : decode cX11_text 94 = .ok (.putfield 88, 3) := by decide +kernel
theorem dX11_text_97 : decode cX11_text 97 = .ok (.aload_n 0, 1) := by decide +kernel
theorem dX11_text_98 : decode cX11_text 98 = .ok (.getfield 27, 3) := by decide +kernel
theorem dX11_text_101 : decode cX11_text 101 = .ok (.getfield 99, 3) := by decide +kernel
theorem dX11_text_104 : decode cX11_text 104 = .ok (.ifCond .eq 5, 3) := by decide +kernel
theorem dX11_text_109 : decode cX11_text 109 = .ok (.aload_n 0, 1) := by decide +kernel
theorem dX11_text_110 : decode cX11_text 110 = .ok (.getfield 10, 3) := by decide +kernel
theorem dX11_text_113 : decode cX11_text 113 = .ok (.iload_n 1, 1) := by decide +kernel
theorem dX11_text_114 : decode cX11_text 114 = .ok (.iload_n 3, 1) := by decide +kernel
theorem dX11_text_115 : decode cX11_text 115 = .ok (.aload_n 0, 1) := by decide +kernel
theorem dX11_text_116 : decode cX11_text 116 = .ok (.getfield 27, 3) := by decide +kernel
theorem dX11_text_119 : decode cX11_text 119 = .ok (.invokevirtual 101, 3) := by decide +kernel
theorem dX11_text_122 : decode cX11_text 122 = .ok (.aload_n 0, 1) := by decide +kernel
theorem dX11_text_123 : decode cX11_text 123 = .ok (.iload_n 1, 1) := by decide +kernel
theorem dX11_text_124 : decode cX11_text 124 = .ok (.ifCond .ne 7, 3) := by decide +kernel
theorem dX11_text_127 : decode cX11_text 127 = .ok (.iconst 1, 1) := by decide +kernel
theorem dX11_text_128 : decode cX11_text 128 = .ok (.goto 4, 3) := by decide +kernel
theorem dX11_text_131 : decode cX11_text 131 = .ok (.iconst 0, 1) := by decide +kernel
theorem dX11_text_132 : decode cX11_text 132 = .ok (.invokevirtual 105, 3) := by decide +kernel
theorem dX11_text_135 : decode cX11_text 135 = .ok (.iload_n 3, 1) := by decide +kernel
theorem dX11_text_136 : decode cX11_text 136 = .ok (.ireturn, 1) := by decide +kernel
theorem dX11_feed_0 : decode cX11_feed 0 = .ok (.aload_n 0, 1) := by decide +kernel
theorem dX11_feed_1 : decode cX11_feed 1 = .ok (.getfield 10, 3) := by decide +kernel
theorem dX11_feed_4 : decode cX11_feed 4 = .ok (.getfield 73, 3) := by decide +kernel
theorem dX11_feed_7 : decode cX11_feed 7 = .ok (.bipush 20, 2) := by decide +kernel
theorem dX11_feed_9 : decode cX11_feed 9 = .ok (.iadd, 1) := by decide +kernel
theorem dX11_feed_10 : decode cX11_feed 10 = .ok (.sipush 600, 3) := by decide +kernel
theorem dX11_feed_13 : decode cX11_feed 13 = .ok (.if_icmp .le 5, 3) := by decide +kernel
theorem dX11_feed_18 : decode cX11_feed 18 = .ok (.aload_n 0, 1) := by decide +kernel
theorem dX11_feed_19 : decode cX11_feed 19 = .ok (.getfield 10, 3) := by decide +kernel
theorem dX11_feed_22 : decode cX11_feed 22 = .ok (.iload_n 1, 1) := by decide +kernel
theorem dX11_feed_23 : decode cX11_feed 23 = .ok (.invokevirtual 77, 3) := by decide +kernel
theorem dX11_feed_26 : decode cX11_feed 26 = .ok (.aload_n 0, 1) := by decide +kernel
theorem dX11_feed_27 : decode cX11_feed 27 = .ok (.getfield 10, 3) := by decide +kernel
theorem dX11_feed_30 : decode cX11_feed 30 = .ok (.iload_n 2, 1) := by decide +kernel
theorem dX11_feed_31 : decode cX11_feed 31 = .ok (.invokevirtual 77, 3) := by decide +kernel
theorem dX11_feed_34 : decode cX11_feed 34 = .ok (.aload_n 0, 1) := by decide +kernel
theorem dX11_feed_35 : decode cX11_feed 35 = .ok (.getfield 10, 3) := by decide +kernel
theorem dX11_feed_38 : decode cX11_feed 38 = .ok (.iload_n 3, 1) := by decide +kernel
theorem dX11_feed_39 : decode cX11_feed 39 = .ok (.invokevirtual 77, 3) := by decide +kernel
theorem dX11_feed_42 : decode cX11_feed 42 = .ok (.aload_n 0, 1) := by decide +kernel
theorem dX11_feed_43 : decode cX11_feed 43 = .ok (.getfield 10, 3) := by decide +kernel
theorem dX11_feed_46 : decode cX11_feed 46 = .ok (.iload 4, 2) := by decide +kernel
theorem dX11_feed_48 : decode cX11_feed 48 = .ok (.invokevirtual 77, 3) := by decide +kernel
theorem dX11_feed_51 : decode cX11_feed 51 = .ok (.aload_n 0, 1) := by decide +kernel
theorem dX11_feed_52 : decode cX11_feed 52 = .ok (.getfield 10, 3) := by decide +kernel
theorem dX11_feed_55 : decode cX11_feed 55 = .ok (.iload 5, 2) := by decide +kernel
theorem dX11_feed_57 : decode cX11_feed 57 = .ok (.invokevirtual 77, 3) := by decide +kernel
theorem dX11_feed_60 : decode cX11_feed 60 = .ok (.aload_n 0, 1) := by decide +kernel
theorem dX11_feed_61 : decode cX11_feed 61 = .ok (.getfield 10, 3) := by decide +kernel
theorem dX11_feed_64 : decode cX11_feed 64 = .ok (.getfield 73, 3) := by decide +kernel
theorem dX11_feed_67 : decode cX11_feed 67 = .ok (.ireturn, 1) := by decide +kernel
theorem dX11_end_0 : decode cX11_end 0 = .ok (.iload_n 1, 1) := by decide +kernel
theorem dX11_end_1 : decode cX11_end 1 = .ok (.ifCond .lt 14, 3) := by decide +kernel
theorem dX11_end_4 : decode cX11_end 4 = .ok (.iload_n 1, 1) := by decide +kernel
theorem dX11_end_5 : decode cX11_end 5 = .ok (.aload_n 0, 1) := by decide +kernel
theorem dX11_end_6 : decode cX11_end 6 = .ok (.getfield 10, 3) := by decide +kernel
theorem dX11_end_9 : decode cX11_end 9 = .ok (.getfield 73, 3) := by decide +kernel
theorem dX11_end_12 : decode cX11_end 12 = .ok (.if_icmp .le 5, 3) := by decide +kernel
theorem dX11_end_15 : decode cX11_end 15 = .ok (.iconst (-1), 1) := by decide +kernel
theorem dX11_end_16 : decode cX11_end 16 = .ok (.ireturn, 1) := by decide +kernel
theorem dX11_end_17 : decode cX11_end 17 = .ok (.aload_n 0, 1) := by decide +kernel
theorem dX11_end_18 : decode cX11_end 18 = .ok (.getfield 10, 3) := by decide +kernel
theorem dX11_end_21 : decode cX11_end 21 = .ok (.iload_n 1, 1) := by decide +kernel
theorem dX11_end_22 : decode cX11_end 22 = .ok (.putfield 73, 3) := by decide +kernel
theorem dX11_end_25 : decode cX11_end 25 = .ok (.iload_n 1, 1) := by decide +kernel
theorem dX11_end_26 : decode cX11_end 26 = .ok (.ireturn, 1) := by decide +kernel
theorem dX11_fault_0 : decode cX11_fault 0 = .ok (.iload_n 1, 1) := by decide +kernel
theorem dX11_fault_1 : decode cX11_fault 1 = .ok (.ifCond .ne 13, 3) := by decide +kernel
theorem dX11_fault_4 : decode cX11_fault 4 = .ok (.aload_n 0, 1) := by decide +kernel
theorem dX11_fault_5 : decode cX11_fault 5 = .ok (.getfield 10, 3) := by decide +kernel
theorem dX11_fault_8 : decode cX11_fault 8 = .ok (.getfield 85, 3) := by decide +kernel
theorem dX11_fault_11 : decode cX11_fault 11 = .ok (.goto 19, 3) := by decide +kernel
theorem dX11_fault_14 : decode cX11_fault 14 = .ok (.iload_n 1, 1) := by decide +kernel
theorem dX11_fault_15 : decode cX11_fault 15 = .ok (.iconst 1, 1) := by decide +kernel
theorem dX11_fault_16 : decode cX11_fault 16 = .ok (.if_icmp .ne 13, 3) := by decide +kernel
theorem dX11_fault_19 : decode cX11_fault 19 = .ok (.aload_n 0, 1) := by decide +kernel
theorem dX11_fault_20 : decode cX11_fault 20 = .ok (.getfield 10, 3) := by decide +kernel
theorem dX11_fault_23 : decode cX11_fault 23 = .ok (.getfield 88, 3) := by decide +kernel
theorem dX11_fault_26 : decode cX11_fault 26 = .ok (.goto 4, 3) := by decide +kernel
theorem dX11_fault_29 : decode cX11_fault 29 = .ok (.iconst (-1), 1) := by decide +kernel
theorem dX11_fault_30 : decode cX11_fault 30 = .ok (.ireturn, 1) := by decide +kernel
theorem dX11_count_0 : decode cX11_count 0 = .ok (.iload_n 1, 1) := by decide +kernel
theorem dX11_count_1 : decode cX11_count 1 = .ok (.ifCond .lt 20, 3) := by decide +kernel
theorem dX11_count_4 : decode cX11_count 4 = .ok (.iload_n 1, 1) := by decide +kernel
theorem dX11_count_5 : decode cX11_count 5 = .ok (.iconst 2, 1) := by decide +kernel
theorem dX11_count_6 : decode cX11_count 6 = .ok (.if_icmp .gt 15, 3) := by decide +kernel
theorem dX11_count_9 : decode cX11_count 9 = .ok (.aload_n 0, 1) := by decide +kernel
theorem dX11_count_10 : decode cX11_count 10 = .ok (.getfield 10, 3) := by decide +kernel
theorem dX11_count_13 : decode cX11_count 13 = .ok (.getfield 114, 3) := by decide +kernel
theorem dX11_count_16 : decode cX11_count 16 = .ok (.iload_n 1, 1) := by decide +kernel
theorem dX11_count_17 : decode cX11_count 17 = .ok (.iaload, 1) := by decide +kernel
theorem dX11_count_18 : decode cX11_count 18 = .ok (.goto 5, 3) := by decide +kernel
theorem dX11_count_21 : decode cX11_count 21 = .ok (.bipush (-2), 2) := by decide +kernel
theorem dX11_count_23 : decode cX11_count 23 = .ok (.ireturn, 1) := by decide +kernel
theorem dX11_image_0 : decode cX11_image 0 = .ok (.iload_n 1, 1) := by decide +kernel
theorem dX11_image_1 : decode cX11_image 1 = .ok (.ifCond .lt 8, 3) := by decide +kernel
theorem dX11_image_4 : decode cX11_image 4 = .ok (.iload_n 1, 1) := by decide +kernel
theorem dX11_image_5 : decode cX11_image 5 = .ok (.iconst 3, 1) := by decide +kernel
theorem dX11_image_6 : decode cX11_image 6 = .ok (.if_icmp .lt 5, 3) := by decide +kernel
theorem dX11_image_9 : decode cX11_image 9 = .ok (.iconst 0, 1) := by decide +kernel
theorem dX11_image_10 : decode cX11_image 10 = .ok (.ireturn, 1) := by decide +kernel
theorem dX11_image_11 : decode cX11_image 11 = .ok (.aload_n 0, 1) := by decide +kernel
theorem dX11_image_12 : decode cX11_image 12 = .ok (.getfield 16, 3) := by decide +kernel
theorem dX11_image_15 : decode cX11_image 15 = .ok (.iload_n 1, 1) := by decide +kernel
theorem dX11_image_16 : decode cX11_image 16 = .ok (.aaload, 1) := by decide +kernel
theorem dX11_image_17 : decode cX11_image 17 = .ok (.aload_n 0, 1) := by decide +kernel
theorem dX11_image_18 : decode cX11_image 18 = .ok (.getfield 10, 3) := by decide +kernel
theorem dX11_image_21 : decode cX11_image 21 = .ok (.invokevirtual 117, 3) := by decide +kernel
theorem dX11_image_24 : decode cX11_image 24 = .ok (.aload_n 0, 1) := by decide +kernel
theorem dX11_image_25 : decode cX11_image 25 = .ok (.getfield 20, 3) := by decide +kernel
theorem dX11_image_28 : decode cX11_image 28 = .ok (.iload_n 1, 1) := by decide +kernel
theorem dX11_image_29 : decode cX11_image 29 = .ok (.iconst 1, 1) := by decide +kernel
theorem dX11_image_30 : decode cX11_image 30 = .ok (.bastore, 1) := by decide +kernel
theorem dX11_image_31 : decode cX11_image 31 = .ok (.iconst 1, 1) := by decide +kernel
theorem dX11_image_32 : decode cX11_image 32 = .ok (.ireturn, 1) := by decide +kernel
theorem dX11_again_0 : decode cX11_again 0 = .ok (.iload_n 1, 1) := by decide +kernel
theorem dX11_again_1 : decode cX11_again 1 = .ok (.ifCond .lt 17, 3) := by decide +kernel
theorem dX11_again_4 : decode cX11_again 4 = .ok (.iload_n 1, 1) := by decide +kernel
theorem dX11_again_5 : decode cX11_again 5 = .ok (.iconst 3, 1) := by decide +kernel
theorem dX11_again_6 : decode cX11_again 6 = .ok (.if_icmp .ge 12, 3) := by decide +kernel
theorem dX11_again_9 : decode cX11_again 9 = .ok (.aload_n 0, 1) := by decide +kernel
theorem dX11_again_10 : decode cX11_again 10 = .ok (.getfield 20, 3) := by decide +kernel
theorem dX11_again_13 : decode cX11_again 13 = .ok (.iload_n 1, 1) := by decide +kernel
theorem dX11_again_14 : decode cX11_again 14 = .ok (.baload, 1) := by decide +kernel
theorem dX11_again_15 : decode cX11_again 15 = .ok (.ifCond .ne 5, 3) := by decide +kernel
theorem dX11_again_18 : decode cX11_again 18 = .ok (.iconst 0, 1) := by decide +kernel
theorem dX11_again_19 : decode cX11_again 19 = .ok (.ireturn, 1) := by decide +kernel
theorem dX11_fit_0 : decode cX11_fit 0 = .ok (.aload_n 0, 1) := by decide +kernel
theorem dX11_fit_1 : decode cX11_fit 1 = .ok (.getfield 10, 3) := by decide +kernel
theorem dX11_fit_4 : decode cX11_fit 4 = .ok (.iload_n 1, 1) := by decide +kernel
theorem dX11_fit_5 : decode cX11_fit 5 = .ok (.invokevirtual 121, 3) := by decide +kernel
theorem dX11_fit_8 : decode cX11_fit 8 = .ok (.astore_n 3, 1) := by decide +kernel
theorem dX11_fit_9 : decode cX11_fit 9 = .ok (.aload_n 0, 1) := by decide +kernel
theorem dX11_fit_10 : decode cX11_fit 10 = .ok (.getfield 10, 3) := by decide +kernel
theorem dX11_fit_13 : decode cX11_fit 13 = .ok (.iload_n 2, 1) := by decide +kernel
theorem dX11_fit_14 : decode cX11_fit 14 = .ok (.invokevirtual 138, 3) := by decide +kernel
theorem dX11_fit_17 : decode cX11_fit 17 = .ok (.astore 4, 2) := by decide +kernel
theorem dX11_fit_19 : decode cX11_fit 19 = .ok (.aload_n 3, 1) := by decide +kernel
theorem dX11_fit_20 : decode cX11_fit 20 = .ok (.ifnull 8, 3) := by decide +kernel
theorem dX11_fit_28 : decode cX11_fit 28 = .ok (.iconst 0, 1) := by decide +kernel
theorem dX11_fit_29 : decode cX11_fit 29 = .ok (.ireturn, 1) := by decide +kernel
theorem dX11_land_0 : decode cX11_land 0 = .ok (.aload_n 0, 1) := by decide +kernel
theorem dX11_land_1 : decode cX11_land 1 = .ok (.getfield 10, 3) := by decide +kernel
theorem dX11_land_4 : decode cX11_land 4 = .ok (.iload_n 1, 1) := by decide +kernel
theorem dX11_land_5 : decode cX11_land 5 = .ok (.invokevirtual 121, 3) := by decide +kernel
theorem dX11_land_8 : decode cX11_land 8 = .ok (.astore_n 3, 1) := by decide +kernel
theorem dX11_land_9 : decode cX11_land 9 = .ok (.aload_n 3, 1) := by decide +kernel
theorem dX11_land_10 : decode cX11_land 10 = .ok (.ifnonnull 7, 3) := by decide +kernel
theorem dX11_land_13 : decode cX11_land 13 = .ok (.iconst (-1), 1) := by decide +kernel
theorem dX11_land_14 : decode cX11_land 14 = .ok (.goto 8, 3) := by decide +kernel
theorem dX11_land_22 : decode cX11_land 22 = .ok (.ireturn, 1) := by decide +kernel
theorem dX11_deed_0 : decode cX11_deed 0 = .ok (.aload_n 0, 1) := by decide +kernel
theorem dX11_deed_1 : decode cX11_deed 1 = .ok (.getfield 10, 3) := by decide +kernel
theorem dX11_deed_4 : decode cX11_deed 4 = .ok (.iload_n 1, 1) := by decide +kernel
theorem dX11_deed_5 : decode cX11_deed 5 = .ok (.invokevirtual 130, 3) := by decide +kernel
theorem dX11_deed_8 : decode cX11_deed 8 = .ok (.astore 4, 2) := by decide +kernel
theorem dX11_deed_10 : decode cX11_deed 10 = .ok (.aload 4, 2) := by decide +kernel
theorem dX11_deed_12 : decode cX11_deed 12 = .ok (.ifnonnull 8, 3) := by decide +kernel
theorem dX11_deed_15 : decode cX11_deed 15 = .ok (.bipush (-2), 2) := by decide +kernel
theorem dX11_deed_17 : decode cX11_deed 17 = .ok (.goto 10, 3) := by decide +kernel
theorem dX11_deed_27 : decode cX11_deed 27 = .ok (.ireturn, 1) := by decide +kernel
theorem dX11_stop_0 : decode cX11_stop 0 = .ok (.aload_n 0, 1) := by decide +kernel
theorem dX11_stop_1 : decode cX11_stop 1 = .ok (.getfield 10, 3) := by decide +kernel
theorem dX11_stop_4 : decode cX11_stop 4 = .ok (.iload_n 1, 1) := by decide +kernel
theorem dX11_stop_5 : decode cX11_stop 5 = .ok (.invokevirtual 121, 3) := by decide +kernel
theorem dX11_stop_8 : decode cX11_stop 8 = .ok (.astore_n 3, 1) := by decide +kernel
theorem dX11_stop_9 : decode cX11_stop 9 = .ok (.aload_n 0, 1) := by decide +kernel
theorem dX11_stop_10 : decode cX11_stop 10 = .ok (.getfield 10, 3) := by decide +kernel
theorem dX11_stop_13 : decode cX11_stop 13 = .ok (.iload_n 2, 1) := by decide +kernel
theorem dX11_stop_14 : decode cX11_stop 14 = .ok (.invokevirtual 130, 3) := by decide +kernel
theorem dX11_stop_17 : decode cX11_stop 17 = .ok (.astore 4, 2) := by decide +kernel
theorem dX11_stop_19 : decode cX11_stop 19 = .ok (.aload_n 3, 1) := by decide +kernel
theorem dX11_stop_20 : decode cX11_stop 20 = .ok (.ifnull 8, 3) := by decide +kernel
theorem dX11_stop_28 : decode cX11_stop 28 = .ok (.iconst (-1), 1) := by decide +kernel
theorem dX11_stop_29 : decode cX11_stop 29 = .ok (.goto 15, 3) := by decide +kernel
theorem dX11_stop_44 : decode cX11_stop 44 = .ok (.ireturn, 1) := by decide +kernel
theorem dX11_state_0 : decode cX11_state 0 = .ok (.aload_n 0, 1) := by decide +kernel
theorem dX11_state_1 : decode cX11_state 1 = .ok (.getfield 10, 3) := by decide +kernel
theorem dX11_state_4 : decode cX11_state 4 = .ok (.iload_n 1, 1) := by decide +kernel
theorem dX11_state_5 : decode cX11_state 5 = .ok (.invokevirtual 121, 3) := by decide +kernel
theorem dX11_state_8 : decode cX11_state 8 = .ok (.astore 5, 2) := by decide +kernel
theorem dX11_state_10 : decode cX11_state 10 = .ok (.aload_n 0, 1) := by decide +kernel
theorem dX11_state_11 : decode cX11_state 11 = .ok (.getfield 10, 3) := by decide +kernel
theorem dX11_state_14 : decode cX11_state 14 = .ok (.iload_n 2, 1) := by decide +kernel
theorem dX11_state_15 : decode cX11_state 15 = .ok (.invokevirtual 130, 3) := by decide +kernel
theorem dX11_state_18 : decode cX11_state 18 = .ok (.astore 6, 2) := by decide +kernel
theorem dX11_state_20 : decode cX11_state 20 = .ok (.aload 5, 2) := by decide +kernel
theorem dX11_state_22 : decode cX11_state 22 = .ok (.ifnull 21, 3) := by decide +kernel
theorem dX11_state_43 : decode cX11_state 43 = .ok (.bipush (-2), 2) := by decide +kernel
theorem dX11_state_45 : decode cX11_state 45 = .ok (.ireturn, 1) := by decide +kernel
theorem dX11_walk_0 : decode cX11_walk 0 = .ok (.aload_n 0, 1) := by decide +kernel
theorem dX11_walk_1 : decode cX11_walk 1 = .ok (.getfield 10, 3) := by decide +kernel
theorem dX11_walk_4 : decode cX11_walk 4 = .ok (.iload_n 1, 1) := by decide +kernel
theorem dX11_walk_5 : decode cX11_walk 5 = .ok (.invokevirtual 121, 3) := by decide +kernel
theorem dX11_walk_8 : decode cX11_walk 8 = .ok (.astore 4, 2) := by decide +kernel
theorem dX11_walk_10 : decode cX11_walk 10 = .ok (.aload 4, 2) := by decide +kernel
theorem dX11_walk_12 : decode cX11_walk 12 = .ok (.ifnull 12, 3) := by decide +kernel
theorem dX11_walk_24 : decode cX11_walk 24 = .ok (.bipush (-2), 2) := by decide +kernel
theorem dX11_walk_26 : decode cX11_walk 26 = .ok (.ireturn, 1) := by decide +kernel
theorem dX11_endOf_0 : decode cX11_endOf 0 = .ok (.aload_n 0, 1) := by decide +kernel
theorem dX11_endOf_1 : decode cX11_endOf 1 = .ok (.getfield 10, 3) := by decide +kernel
theorem dX11_endOf_4 : decode cX11_endOf 4 = .ok (.iload_n 1, 1) := by decide +kernel
theorem dX11_endOf_5 : decode cX11_endOf 5 = .ok (.invokevirtual 121, 3) := by decide +kernel
theorem dX11_endOf_8 : decode cX11_endOf 8 = .ok (.astore_n 3, 1) := by decide +kernel
theorem dX11_endOf_9 : decode cX11_endOf 9 = .ok (.aload_n 3, 1) := by decide +kernel
theorem dX11_endOf_10 : decode cX11_endOf 10 = .ok (.ifnonnull 6, 3) := by decide +kernel
theorem dX11_endOf_13 : decode cX11_endOf 13 = .ok (.bipush (-2), 2) := by decide +kernel
theorem dX11_endOf_15 : decode cX11_endOf 15 = .ok (.ireturn, 1) := by decide +kernel
theorem dX11_come_0 : decode cX11_come 0 = .ok (.aload_n 0, 1) := by decide +kernel
theorem dX11_come_1 : decode cX11_come 1 = .ok (.getfield 10, 3) := by decide +kernel
theorem dX11_come_4 : decode cX11_come 4 = .ok (.iload_n 1, 1) := by decide +kernel
theorem dX11_come_5 : decode cX11_come 5 = .ok (.invokevirtual 121, 3) := by decide +kernel
theorem dX11_come_8 : decode cX11_come 8 = .ok (.astore 4, 2) := by decide +kernel
theorem dX11_come_10 : decode cX11_come 10 = .ok (.aload 4, 2) := by decide +kernel
theorem dX11_come_12 : decode cX11_come 12 = .ok (.ifnull 23, 3) := by decide +kernel
theorem dX11_come_35 : decode cX11_come 35 = .ok (.iconst (-1), 1) := by decide +kernel
theorem dX11_come_36 : decode cX11_come 36 = .ok (.ireturn, 1) := by decide +kernel
theorem dX11_period_0 : decode cX11_period 0 = .ok (.aload_n 0, 1) := by decide +kernel
theorem dX11_period_1 : decode cX11_period 1 = .ok (.getfield 10, 3) := by decide +kernel
theorem dX11_period_4 : decode cX11_period 4 = .ok (.iload_n 1, 1) := by decide +kernel
theorem dX11_period_5 : decode cX11_period 5 = .ok (.invokevirtual 121, 3) := by decide +kernel
theorem dX11_period_8 : decode cX11_period 8 = .ok (.astore 4, 2) := by decide +kernel
theorem dX11_period_10 : decode cX11_period 10 = .ok (.aload 4, 2) := by decide +kernel
theorem dX11_period_12 : decode cX11_period 12 = .ok (.ifnull 12, 3) := by decide +kernel
theorem dX11_period_24 : decode cX11_period 24 = .ok (.iconst (-1), 1) := by decide +kernel
theorem dX11_period_25 : decode cX11_period 25 = .ok (.ireturn, 1) := by decide +kernel
theorem dX11_set_0 : decode cX11_set 0 = .ok (.aload_n 0, 1) := by decide +kernel
theorem dX11_set_1 : decode cX11_set 1 = .ok (.getfield 10, 3) := by decide +kernel
theorem dX11_set_4 : decode cX11_set 4 = .ok (.iload_n 1, 1) := by decide +kernel
theorem dX11_set_5 : decode cX11_set 5 = .ok (.invokevirtual 121, 3) := by decide +kernel
theorem dX11_set_8 : decode cX11_set 8 = .ok (.astore 5, 2) := by decide +kernel
theorem dX11_set_10 : decode cX11_set 10 = .ok (.aload 5, 2) := by decide +kernel
theorem dX11_set_12 : decode cX11_set 12 = .ok (.ifnull 21, 3) := by decide +kernel
theorem dX11_set_33 : decode cX11_set 33 = .ok (.iconst (-1), 1) := by decide +kernel
theorem dX11_set_34 : decode cX11_set 34 = .ok (.ireturn, 1) := by decide +kernel
theorem dX11_lot_0 : decode cX11_lot 0 = .ok (.aload_n 0, 1) := by decide +kernel
theorem dX11_lot_1 : decode cX11_lot 1 = .ok (.getfield 10, 3) := by decide +kernel
theorem dX11_lot_4 : decode cX11_lot 4 = .ok (.iload_n 1, 1) := by decide +kernel
theorem dX11_lot_5 : decode cX11_lot 5 = .ok (.invokevirtual 121, 3) := by decide +kernel
theorem dX11_lot_8 : decode cX11_lot 8 = .ok (.astore 5, 2) := by decide +kernel
theorem dX11_lot_10 : decode cX11_lot 10 = .ok (.aload 5, 2) := by decide +kernel
theorem dX11_lot_12 : decode cX11_lot 12 = .ok (.ifnull 21, 3) := by decide +kernel
theorem dX11_lot_33 : decode cX11_lot 33 = .ok (.iconst (-1), 1) := by decide +kernel
theorem dX11_lot_34 : decode cX11_lot 34 = .ok (.ireturn, 1) := by decide +kernel
theorem dX11_mean_0 : decode cX11_mean 0 = .ok (.aload_n 0, 1) := by decide +kernel
theorem dX11_mean_1 : decode cX11_mean 1 = .ok (.getfield 10, 3) := by decide +kernel
theorem dX11_mean_4 : decode cX11_mean 4 = .ok (.iload_n 1, 1) := by decide +kernel
theorem dX11_mean_5 : decode cX11_mean 5 = .ok (.invokevirtual 121, 3) := by decide +kernel
theorem dX11_mean_8 : decode cX11_mean 8 = .ok (.astore 4, 2) := by decide +kernel
theorem dX11_mean_10 : decode cX11_mean 10 = .ok (.aload 4, 2) := by decide +kernel
theorem dX11_mean_12 : decode cX11_mean 12 = .ok (.ifnull 12, 3) := by decide +kernel
theorem dX11_mean_24 : decode cX11_mean 24 = .ok (.iconst (-1), 1) := by decide +kernel
theorem dX11_mean_25 : decode cX11_mean 25 = .ok (.ireturn, 1) := by decide +kernel
theorem dX11_trees_0 : decode cX11_trees 0 = .ok (.aload_n 0, 1) := by decide +kernel
theorem dX11_trees_1 : decode cX11_trees 1 = .ok (.getfield 10, 3) := by decide +kernel
theorem dX11_trees_4 : decode cX11_trees 4 = .ok (.iload_n 1, 1) := by decide +kernel
theorem dX11_trees_5 : decode cX11_trees 5 = .ok (.invokevirtual 121, 3) := by decide +kernel
theorem dX11_trees_8 : decode cX11_trees 8 = .ok (.astore_n 2, 1) := by decide +kernel
theorem dX11_trees_9 : decode cX11_trees 9 = .ok (.aload_n 2, 1) := by decide +kernel
theorem dX11_trees_10 : decode cX11_trees 10 = .ok (.ifnonnull 5, 3) := by decide +kernel
theorem dX11_trees_13 : decode cX11_trees 13 = .ok (.iconst (-1), 1) := by decide +kernel
theorem dX11_trees_14 : decode cX11_trees 14 = .ok (.ireturn, 1) := by decide +kernel
theorem dX11_game_0 : decode cX11_game 0 = .ok (.aload_n 0, 1) := by decide +kernel
theorem dX11_game_1 : decode cX11_game 1 = .ok (.getfield 10, 3) := by decide +kernel
theorem dX11_game_4 : decode cX11_game 4 = .ok (.iload_n 1, 1) := by decide +kernel
theorem dX11_game_5 : decode cX11_game 5 = .ok (.invokevirtual 121, 3) := by decide +kernel
theorem dX11_game_8 : decode cX11_game 8 = .ok (.astore 5, 2) := by decide +kernel
theorem dX11_game_10 : decode cX11_game 10 = .ok (.aload 5, 2) := by decide +kernel
theorem dX11_game_12 : decode cX11_game 12 = .ok (.ifnull 21, 3) := by decide +kernel
theorem dX11_game_33 : decode cX11_game 33 = .ok (.bipush (-9), 2) := by decide +kernel
theorem dX11_game_35 : decode cX11_game 35 = .ok (.ireturn, 1) := by decide +kernel
theorem dX11_fact_0 : decode cX11_fact 0 = .ok (.aload_n 0, 1) := by decide +kernel
theorem dX11_fact_1 : decode cX11_fact 1 = .ok (.getfield 10, 3) := by decide +kernel
theorem dX11_fact_4 : decode cX11_fact 4 = .ok (.iload_n 1, 1) := by decide +kernel
theorem dX11_fact_5 : decode cX11_fact 5 = .ok (.invokevirtual 138, 3) := by decide +kernel
theorem dX11_fact_8 : decode cX11_fact 8 = .ok (.astore 4, 2) := by decide +kernel
theorem dX11_fact_10 : decode cX11_fact 10 = .ok (.aload 4, 2) := by decide +kernel
theorem dX11_fact_12 : decode cX11_fact 12 = .ok (.ifnonnull 8, 3) := by decide +kernel
theorem dX11_fact_15 : decode cX11_fact 15 = .ok (.bipush (-2), 2) := by decide +kernel
theorem dX11_fact_17 : decode cX11_fact 17 = .ok (.goto 10, 3) := by decide +kernel
theorem dX11_fact_27 : decode cX11_fact 27 = .ok (.ireturn, 1) := by decide +kernel
theorem dX11_fits_0 : decode cX11_fits 0 = .ok (.aload_n 0, 1) := by decide +kernel
theorem dX11_fits_1 : decode cX11_fits 1 = .ok (.getfield 10, 3) := by decide +kernel
theorem dX11_fits_4 : decode cX11_fits 4 = .ok (.iload_n 1, 1) := by decide +kernel
theorem dX11_fits_5 : decode cX11_fits 5 = .ok (.invokevirtual 121, 3) := by decide +kernel
theorem dX11_fits_8 : decode cX11_fits 8 = .ok (.astore 4, 2) := by decide +kernel
theorem dX11_fits_10 : decode cX11_fits 10 = .ok (.aload_n 0, 1) := by decide +kernel
theorem dX11_fits_11 : decode cX11_fits 11 = .ok (.iload_n 1, 1) := by decide +kernel
theorem dX11_fits_12 : decode cX11_fits 12 = .ok (.iload_n 2, 1) := by decide +kernel
theorem dX11_fits_13 : decode cX11_fits 13 = .ok (.invokevirtual 302, 3) := by decide +kernel
theorem dX11_fits_16 : decode cX11_fits 16 = .ok (.ifCond .eq 12, 3) := by decide +kernel
theorem dX11_fits_28 : decode cX11_fits 28 = .ok (.bipush (-2), 2) := by decide +kernel
theorem dX11_fits_30 : decode cX11_fits 30 = .ok (.ireturn, 1) := by decide +kernel
theorem dX11_drawn_0 : decode cX11_drawn 0 = .ok (.aload_n 0, 1) := by decide +kernel
theorem dX11_drawn_1 : decode cX11_drawn 1 = .ok (.getfield 10, 3) := by decide +kernel
theorem dX11_drawn_4 : decode cX11_drawn 4 = .ok (.iload_n 1, 1) := by decide +kernel
theorem dX11_drawn_5 : decode cX11_drawn 5 = .ok (.invokevirtual 121, 3) := by decide +kernel
theorem dX11_drawn_8 : decode cX11_drawn 8 = .ok (.astore 5, 2) := by decide +kernel
theorem dX11_drawn_10 : decode cX11_drawn 10 = .ok (.aload 5, 2) := by decide +kernel
theorem dX11_drawn_12 : decode cX11_drawn 12 = .ok (.ifnull 13, 3) := by decide +kernel
theorem dX11_drawn_25 : decode cX11_drawn 25 = .ok (.bipush (-2), 2) := by decide +kernel
theorem dX11_drawn_27 : decode cX11_drawn 27 = .ok (.ireturn, 1) := by decide +kernel
theorem dX11_far_0 : decode cX11_far 0 = .ok (.aload_n 0, 1) := by decide +kernel
theorem dX11_far_1 : decode cX11_far 1 = .ok (.getfield 10, 3) := by decide +kernel
theorem dX11_far_4 : decode cX11_far 4 = .ok (.iload_n 1, 1) := by decide +kernel
theorem dX11_far_5 : decode cX11_far 5 = .ok (.invokevirtual 121, 3) := by decide +kernel
theorem dX11_far_8 : decode cX11_far 8 = .ok (.astore 4, 2) := by decide +kernel
theorem dX11_far_10 : decode cX11_far 10 = .ok (.aload 4, 2) := by decide +kernel
theorem dX11_far_12 : decode cX11_far 12 = .ok (.ifnull 21, 3) := by decide +kernel
theorem dX11_far_33 : decode cX11_far 33 = .ok (.iconst (-1), 1) := by decide +kernel
theorem dX11_far_34 : decode cX11_far 34 = .ok (.goto 10, 3) := by decide +kernel
theorem dX11_far_44 : decode cX11_far 44 = .ok (.ireturn, 1) := by decide +kernel
theorem dX11_reach_0 : decode cX11_reach 0 = .ok (.aload_n 0, 1) := by decide +kernel
theorem dX11_reach_1 : decode cX11_reach 1 = .ok (.getfield 10, 3) := by decide +kernel
theorem dX11_reach_4 : decode cX11_reach 4 = .ok (.iload_n 1, 1) := by decide +kernel
theorem dX11_reach_5 : decode cX11_reach 5 = .ok (.invokevirtual 121, 3) := by decide +kernel
theorem dX11_reach_8 : decode cX11_reach 8 = .ok (.astore 4, 2) := by decide +kernel
theorem dX11_reach_10 : decode cX11_reach 10 = .ok (.aload 4, 2) := by decide +kernel
theorem dX11_reach_12 : decode cX11_reach 12 = .ok (.ifnull 21, 3) := by decide +kernel
theorem dX11_reach_33 : decode cX11_reach 33 = .ok (.bipush (-2), 2) := by decide +kernel
theorem dX11_reach_35 : decode cX11_reach 35 = .ok (.ireturn, 1) := by decide +kernel
theorem dX11_classes_0 : decode cX11_classes 0 = .ok (.aload_n 0, 1) := by decide +kernel
theorem dX11_classes_1 : decode cX11_classes 1 = .ok (.getfield 10, 3) := by decide +kernel
theorem dX11_classes_4 : decode cX11_classes 4 = .ok (.iload_n 1, 1) := by decide +kernel
theorem dX11_classes_5 : decode cX11_classes 5 = .ok (.invokevirtual 121, 3) := by decide +kernel
theorem dX11_classes_8 : decode cX11_classes 8 = .ok (.astore_n 3, 1) := by decide +kernel
theorem dX11_classes_9 : decode cX11_classes 9 = .ok (.aload_n 3, 1) := by decide +kernel
theorem dX11_classes_10 : decode cX11_classes 10 = .ok (.ifnonnull 6, 3) := by decide +kernel
theorem dX11_classes_13 : decode cX11_classes 13 = .ok (.bipush (-2), 2) := by decide +kernel
theorem dX11_classes_15 : decode cX11_classes 15 = .ok (.ireturn, 1) := by decide +kernel
theorem dX11_led_0 : decode cX11_led 0 = .ok (.aload_n 0, 1) := by decide +kernel
theorem dX11_led_1 : decode cX11_led 1 = .ok (.getfield 10, 3) := by decide +kernel
theorem dX11_led_4 : decode cX11_led 4 = .ok (.iload_n 1, 1) := by decide +kernel
theorem dX11_led_5 : decode cX11_led 5 = .ok (.invokevirtual 121, 3) := by decide +kernel
theorem dX11_led_8 : decode cX11_led 8 = .ok (.astore 4, 2) := by decide +kernel
theorem dX11_led_10 : decode cX11_led 10 = .ok (.aload 4, 2) := by decide +kernel
theorem dX11_led_12 : decode cX11_led 12 = .ok (.ifnull 21, 3) := by decide +kernel
theorem dX11_led_33 : decode cX11_led 33 = .ok (.bipush (-2), 2) := by decide +kernel
theorem dX11_led_35 : decode cX11_led 35 = .ok (.ireturn, 1) := by decide +kernel
theorem dX11_cover_0 : decode cX11_cover 0 = .ok (.aload_n 0, 1) := by decide +kernel
theorem dX11_cover_1 : decode cX11_cover 1 = .ok (.getfield 10, 3) := by decide +kernel
theorem dX11_cover_4 : decode cX11_cover 4 = .ok (.iload_n 1, 1) := by decide +kernel
theorem dX11_cover_5 : decode cX11_cover 5 = .ok (.invokevirtual 121, 3) := by decide +kernel
theorem dX11_cover_8 : decode cX11_cover 8 = .ok (.astore 4, 2) := by decide +kernel
theorem dX11_cover_10 : decode cX11_cover 10 = .ok (.aload 4, 2) := by decide +kernel
theorem dX11_cover_12 : decode cX11_cover 12 = .ok (.ifnull 12, 3) := by decide +kernel
theorem dX11_cover_24 : decode cX11_cover 24 = .ok (.bipush (-2), 2) := by decide +kernel
theorem dX11_cover_26 : decode cX11_cover 26 = .ok (.ireturn, 1) := by decide +kernel
theorem dX11_share_0 : decode cX11_share 0 = .ok (.aload_n 0, 1) := by decide +kernel
theorem dX11_share_1 : decode cX11_share 1 = .ok (.getfield 10, 3) := by decide +kernel
theorem dX11_share_4 : decode cX11_share 4 = .ok (.iload_n 1, 1) := by decide +kernel
theorem dX11_share_5 : decode cX11_share 5 = .ok (.invokevirtual 121, 3) := by decide +kernel
theorem dX11_share_8 : decode cX11_share 8 = .ok (.astore 5, 2) := by decide +kernel
theorem dX11_share_10 : decode cX11_share 10 = .ok (.aload 5, 2) := by decide +kernel
theorem dX11_share_12 : decode cX11_share 12 = .ok (.ifnull 32, 3) := by decide +kernel
theorem dX11_share_44 : decode cX11_share 44 = .ok (.iconst (-1), 1) := by decide +kernel
theorem dX11_share_45 : decode cX11_share 45 = .ok (.ireturn, 1) := by decide +kernel
theorem dX11_longest_0 : decode cX11_longest 0 = .ok (.aload_n 0, 1) := by decide +kernel
theorem dX11_longest_1 : decode cX11_longest 1 = .ok (.getfield 10, 3) := by decide +kernel
theorem dX11_longest_4 : decode cX11_longest 4 = .ok (.iload_n 1, 1) := by decide +kernel
theorem dX11_longest_5 : decode cX11_longest 5 = .ok (.invokevirtual 121, 3) := by decide +kernel
theorem dX11_longest_8 : decode cX11_longest 8 = .ok (.astore 5, 2) := by decide +kernel
theorem dX11_longest_10 : decode cX11_longest 10 = .ok (.aload 5, 2) := by decide +kernel
theorem dX11_longest_12 : decode cX11_longest 12 = .ok (.ifnull 12, 3) := by decide +kernel
theorem dX11_longest_24 : decode cX11_longest 24 = .ok (.iconst (-1), 1) := by decide +kernel
theorem dX11_longest_25 : decode cX11_longest 25 = .ok (.ireturn, 1) := by decide +kernel
theorem dX11_back_0 : decode cX11_back 0 = .ok (.aload_n 0, 1) := by decide +kernel
theorem dX11_back_1 : decode cX11_back 1 = .ok (.getfield 10, 3) := by decide +kernel
theorem dX11_back_4 : decode cX11_back 4 = .ok (.iload_n 1, 1) := by decide +kernel
theorem dX11_back_5 : decode cX11_back 5 = .ok (.invokevirtual 121, 3) := by decide +kernel
theorem dX11_back_8 : decode cX11_back 8 = .ok (.astore_n 3, 1) := by decide +kernel
theorem dX11_back_9 : decode cX11_back 9 = .ok (.aload_n 3, 1) := by decide +kernel
theorem dX11_back_10 : decode cX11_back 10 = .ok (.ifnull 11, 3) := by decide +kernel
theorem dX11_back_21 : decode cX11_back 21 = .ok (.iconst (-1), 1) := by decide +kernel
theorem dX11_back_22 : decode cX11_back 22 = .ok (.ireturn, 1) := by decide +kernel
theorem dX11_keys_0 : decode cX11_keys 0 = .ok (.aload_n 0, 1) := by decide +kernel
theorem dX11_keys_1 : decode cX11_keys 1 = .ok (.getfield 10, 3) := by decide +kernel
theorem dX11_keys_4 : decode cX11_keys 4 = .ok (.iload_n 1, 1) := by decide +kernel
theorem dX11_keys_5 : decode cX11_keys 5 = .ok (.invokevirtual 121, 3) := by decide +kernel
theorem dX11_keys_8 : decode cX11_keys 8 = .ok (.astore 4, 2) := by decide +kernel
theorem dX11_keys_10 : decode cX11_keys 10 = .ok (.aload 4, 2) := by decide +kernel
theorem dX11_keys_12 : decode cX11_keys 12 = .ok (.ifnull 12, 3) := by decide +kernel
theorem dX11_keys_24 : decode cX11_keys 24 = .ok (.bipush (-2), 2) := by decide +kernel
theorem dX11_keys_26 : decode cX11_keys 26 = .ok (.ireturn, 1) := by decide +kernel
theorem dX11_after_0 : decode cX11_after 0 = .ok (.aload_n 0, 1) := by decide +kernel
theorem dX11_after_1 : decode cX11_after 1 = .ok (.getfield 10, 3) := by decide +kernel
theorem dX11_after_4 : decode cX11_after 4 = .ok (.iload_n 1, 1) := by decide +kernel
theorem dX11_after_5 : decode cX11_after 5 = .ok (.invokevirtual 121, 3) := by decide +kernel
theorem dX11_after_8 : decode cX11_after 8 = .ok (.astore 4, 2) := by decide +kernel
theorem dX11_after_10 : decode cX11_after 10 = .ok (.aload_n 0, 1) := by decide +kernel
theorem dX11_after_11 : decode cX11_after 11 = .ok (.getfield 10, 3) := by decide +kernel
theorem dX11_after_14 : decode cX11_after 14 = .ok (.iload_n 2, 1) := by decide +kernel
theorem dX11_after_15 : decode cX11_after 15 = .ok (.invokevirtual 130, 3) := by decide +kernel
theorem dX11_after_18 : decode cX11_after 18 = .ok (.astore 5, 2) := by decide +kernel
theorem dX11_after_20 : decode cX11_after 20 = .ok (.aload 4, 2) := by decide +kernel
theorem dX11_after_22 : decode cX11_after 22 = .ok (.ifnull 8, 3) := by decide +kernel
theorem dX11_after_30 : decode cX11_after 30 = .ok (.bipush (-2), 2) := by decide +kernel
theorem dX11_after_32 : decode cX11_after 32 = .ok (.ireturn, 1) := by decide +kernel
theorem dX11_odds_0 : decode cX11_odds 0 = .ok (.aload_n 0, 1) := by decide +kernel
theorem dX11_odds_1 : decode cX11_odds 1 = .ok (.getfield 10, 3) := by decide +kernel
theorem dX11_odds_4 : decode cX11_odds 4 = .ok (.iload_n 1, 1) := by decide +kernel
theorem dX11_odds_5 : decode cX11_odds 5 = .ok (.invokevirtual 121, 3) := by decide +kernel
theorem dX11_odds_8 : decode cX11_odds 8 = .ok (.astore 6, 2) := by decide +kernel
theorem dX11_odds_10 : decode cX11_odds 10 = .ok (.aload_n 0, 1) := by decide +kernel
theorem dX11_odds_11 : decode cX11_odds 11 = .ok (.iload_n 1, 1) := by decide +kernel
theorem dX11_odds_12 : decode cX11_odds 12 = .ok (.iload_n 2, 1) := by decide +kernel
theorem dX11_odds_13 : decode cX11_odds 13 = .ok (.invokevirtual 302, 3) := by decide +kernel
theorem dX11_odds_16 : decode cX11_odds 16 = .ok (.ifCond .eq 24, 3) := by decide +kernel
theorem dX11_odds_40 : decode cX11_odds 40 = .ok (.iconst (-1), 1) := by decide +kernel
theorem dX11_odds_41 : decode cX11_odds 41 = .ok (.ireturn, 1) := by decide +kernel
theorem dX11_least_0 : decode cX11_least 0 = .ok (.aload_n 0, 1) := by decide +kernel
theorem dX11_least_1 : decode cX11_least 1 = .ok (.iload_n 1, 1) := by decide +kernel
theorem dX11_least_2 : decode cX11_least 2 = .ok (.iload_n 2, 1) := by decide +kernel
theorem dX11_least_3 : decode cX11_least 3 = .ok (.invokevirtual 302, 3) := by decide +kernel
theorem dX11_least_6 : decode cX11_least 6 = .ok (.ifCond .eq 13, 3) := by decide +kernel
theorem dX11_least_19 : decode cX11_least 19 = .ok (.iconst (-1), 1) := by decide +kernel
theorem dX11_least_20 : decode cX11_least 20 = .ok (.ireturn, 1) := by decide +kernel

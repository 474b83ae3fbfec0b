theorem m_fl_RX11_10 : Cond.fieldLink RX11 10 (TX11 0).1 (TX11 0).2.1 (TX11 0).2.2.1 ∈ zT := zmem1 zsub_2 176 rfl rfl
theorem m_fl_RX11_73 : Cond.fieldLink RX11 73 (TX9 1).1 (TX9 1).2.1 (TX9 1).2.2.1 ∈ zT := zmem1 zsub_1 130 rfl rfl
theorem m_co_X9_append : Cond.code yX9_append cX9_append 3 none ∈ zT := zmem1 zsub_2 217 rfl rfl
theorem m_ml_RX11_77 : Cond.methodLink RX11 77 yX9_append ∈ zT := zmem1 zsub_2 214 rfl rfl
theorem m_im_X9_append : Cond.instanceMethod yX9_append ∈ zT := zmem1 zsub_2 215 rfl rfl
theorem m_se_X9_append : Cond.selects RX9 yX9_append yX9_append ∈ zT := zmem1 zsub_2 216 rfl rfl
theorem m_ii_RX9 : Cond.initialized RX9 ∈ zT := zmem1 zsub_1 2 rfl rfl
theorem m_fl_RX11_88 : Cond.fieldLink RX11 88 (TX9 3).1 (TX9 3).2.1 (TX9 3).2.2.1 ∈ zT := zmem1 zsub_1 135 rfl rfl
theorem m_fl_RX11_85 : Cond.fieldLink RX11 85 (TX9 2).1 (TX9 2).2.1 (TX9 2).2.2.1 ∈ zT := zmem1 zsub_1 132 rfl rfl
theorem m_fl_RX11_114 : Cond.fieldLink RX11 114 (TX9 4).1 (TX9 4).2.1 (TX9 4).2.2.1 ∈ zT := zmem1 zsub_1 137 rfl rfl
theorem m_co_X9_landAt : Cond.code yX9_landAt cX9_landAt 2 (some (.object "TurnedPosts$Land")) ∈ zT := zmem1 zsub_3 196 rfl rfl
theorem m_ml_RX11_121 : Cond.methodLink RX11 121 yX9_landAt ∈ zT := zmem1 zsub_3 193 rfl rfl
theorem m_im_X9_landAt : Cond.instanceMethod yX9_landAt ∈ zT := zmem1 zsub_3 194 rfl rfl
theorem m_se_X9_landAt : Cond.selects RX9 yX9_landAt yX9_landAt ∈ zT := zmem1 zsub_3 195 rfl rfl
theorem m_co_X4_told : Cond.code yX4_told cX4_told 3 (some .int) ∈ zT := zmem1 zsub_3 200 rfl rfl
theorem m_ml_RX11_125 : Cond.methodLink RX11 125 yX4_told ∈ zT := zmem1 zsub_3 197 rfl rfl
theorem m_im_X4_told : Cond.instanceMethod yX4_told ∈ zT := zmem1 zsub_3 198 rfl rfl
theorem m_se_X4_told : Cond.selects RX4 yX4_told yX4_told ∈ zT := zmem1 zsub_3 199 rfl rfl
theorem m_co_X9_dayAt : Cond.code yX9_dayAt cX9_dayAt 2 (some (.object "TurnedPosts$Day")) ∈ zT := zmem1 zsub_3 216 rfl rfl
theorem m_ml_RX11_130 : Cond.methodLink RX11 130 yX9_dayAt ∈ zT := zmem1 zsub_3 213 rfl rfl
theorem m_im_X9_dayAt : Cond.instanceMethod yX9_dayAt ∈ zT := zmem1 zsub_3 214 rfl rfl
theorem m_se_X9_dayAt : Cond.selects RX9 yX9_dayAt yX9_dayAt ∈ zT := zmem1 zsub_3 215 rfl rfl
theorem m_co_X2_told : Cond.code yX2_told cX2_told 3 (some .int) ∈ zT := zmem1 zsub_3 220 rfl rfl
theorem m_ml_RX11_134 : Cond.methodLink RX11 134 yX2_told ∈ zT := zmem1 zsub_3 217 rfl rfl
theorem m_im_X2_told : Cond.instanceMethod yX2_told ∈ zT := zmem1 zsub_3 218 rfl rfl
theorem m_se_X2_told : Cond.selects RX2 yX2_told yX2_told ∈ zT := zmem1 zsub_3 219 rfl rfl
theorem m_co_X9_logAt : Cond.code yX9_logAt cX9_logAt 2 (some (.object "TurnedPosts$Log")) ∈ zT := zmem1 zsub_3 228 rfl rfl
theorem m_ml_RX11_138 : Cond.methodLink RX11 138 yX9_logAt ∈ zT := zmem1 zsub_3 225 rfl rfl
theorem m_im_X9_logAt : Cond.instanceMethod yX9_logAt ∈ zT := zmem1 zsub_3 226 rfl rfl
theorem m_se_X9_logAt : Cond.selects RX9 yX9_logAt yX9_logAt ∈ zT := zmem1 zsub_3 227 rfl rfl
theorem m_co_X5_told : Cond.code yX5_told cX5_told 3 (some .int) ∈ zT := zmem1 zsub_3 232 rfl rfl
theorem m_ml_RX11_142 : Cond.methodLink RX11 142 yX5_told ∈ zT := zmem1 zsub_3 229 rfl rfl
theorem m_im_X5_told : Cond.instanceMethod yX5_told ∈ zT := zmem1 zsub_3 230 rfl rfl
theorem m_se_X5_told : Cond.selects RX5 yX5_told yX5_told ∈ zT := zmem1 zsub_3 231 rfl rfl
theorem m_ml_RX11_160 : Cond.methodLink RX11 160 yX4_has ∈ zT := zmem1 zsub_4 122 rfl rfl
theorem m_co_X8_distance : Cond.code yX8_distance cX8_distance 5 (some .int) ∈ zT := zmem1 zsub_5 173 rfl rfl
theorem m_ml_RX11_330 : Cond.methodLink RX11 330 yX8_distance ∈ zT := zmem1 zsub_5 171 rfl rfl
theorem m_st_X8_distance : Cond.static yX8_distance ∈ zT := zmem1 zsub_5 172 rfl rfl
theorem m_co_X8_nearest : Cond.code yX8_nearest cX8_nearest 5 (some .int) ∈ zT := zmem1 zsub_5 181 rfl rfl
theorem m_ml_RX11_340 : Cond.methodLink RX11 340 yX8_nearest ∈ zT := zmem1 zsub_5 179 rfl rfl
theorem m_st_X8_nearest : Cond.static yX8_nearest ∈ zT := zmem1 zsub_5 180 rfl rfl
theorem m_ml_RX11_336 : Cond.methodLink RX11 336 yX8_reached ∈ zT := zmem1 zsub_5 178 rfl rfl
theorem m_co_X8_parts : Cond.code yX8_parts cX8_parts 6 (some .int) ∈ zT := zmem1 zsub_5 188 rfl rfl
theorem m_ml_RX11_343 : Cond.methodLink RX11 343 yX8_parts ∈ zT := zmem1 zsub_5 186 rfl rfl
theorem m_st_X8_parts : Cond.static yX8_parts ∈ zT := zmem1 zsub_5 187 rfl rfl
theorem m_co_X8_heads : Cond.code yX8_heads cX8_heads 3 (some .int) ∈ zT := zmem1 zsub_5 197 rfl rfl
theorem m_ml_RX11_347 : Cond.methodLink RX11 347 yX8_heads ∈ zT := zmem1 zsub_5 195 rfl rfl
theorem m_st_X8_heads : Cond.static yX8_heads ∈ zT := zmem1 zsub_5 196 rfl rfl
theorem m_co_X8_ends : Cond.code yX8_ends cX8_ends 3 (some .int) ∈ zT := zmem1 zsub_5 200 rfl rfl
theorem m_ml_RX11_350 : Cond.methodLink RX11 350 yX8_ends ∈ zT := zmem1 zsub_5 198 rfl rfl
theorem m_st_X8_ends : Cond.static yX8_ends ∈ zT := zmem1 zsub_5 199 rfl rfl
theorem m_co_X8_loops : Cond.code yX8_loops cX8_loops 3 (some .int) ∈ zT := zmem1 zsub_5 204 rfl rfl
theorem m_ml_RX11_353 : Cond.methodLink RX11 353 yX8_loops ∈ zT := zmem1 zsub_5 202 rfl rfl
theorem m_st_X8_loops : Cond.static yX8_loops ∈ zT := zmem1 zsub_5 203 rfl rfl
theorem m_co_X8_doubles : Cond.code yX8_doubles cX8_doubles 5 (some .int) ∈ zT := zmem1 zsub_5 210 rfl rfl
theorem m_ml_RX11_356 : Cond.methodLink RX11 356 yX8_doubles ∈ zT := zmem1 zsub_5 208 rfl rfl
theorem m_st_X8_doubles : Cond.static yX8_doubles ∈ zT := zmem1 zsub_5 209 rfl rfl
theorem m_co_X8_even : Cond.code yX8_even cX8_even 3 (some .int) ∈ zT := zmem1 zsub_5 213 rfl rfl
theorem m_ml_RX11_359 : Cond.methodLink RX11 359 yX8_even ∈ zT := zmem1 zsub_5 211 rfl rfl
theorem m_st_X8_even : Cond.static yX8_even ∈ zT := zmem1 zsub_5 212 rfl rfl
theorem m_co_X8_busy : Cond.code yX8_busy cX8_busy 5 (some .int) ∈ zT := zmem1 zsub_5 219 rfl rfl
theorem m_ml_RX11_362 : Cond.methodLink RX11 362 yX8_busy ∈ zT := zmem1 zsub_5 217 rfl rfl
theorem m_st_X8_busy : Cond.static yX8_busy ∈ zT := zmem1 zsub_5 218 rfl rfl
theorem kV_RX11_77 {R : Room} {s : State} {args : Array Value} {d mc ms : Nat} (hts : ∀ w ∈ zT, w.before args s = true) (h1 : d + 1 ≤ R.frames) (h2 : 8 + (3 + 11) + 40 * d ≤ R.locals) : CallW R s args RX11 RX9 77 yX9_append cX9_append 3 none (zW yX9_append cX9_append 3 none) (zR d mc ms) mc ms 1 := z_cwV hts m_co_X9_append m_ml_RX11_77 m_im_X9_append m_se_X9_append m_ii_RX9 (by decide +kernel) h1 h2
theorem kV_RX11_121 {R : Room} {s : State} {args : Array Value} {d mc ms : Nat} (hts : ∀ w ∈ zT, w.before args s = true) (h1 : d + 1 ≤ R.frames) (h2 : 8 + (2 + 11) + 40 * d ≤ R.locals) : CallW R s args RX11 RX9 121 yX9_landAt cX9_landAt 2 (some (.object "TurnedPosts$Land")) (zW yX9_landAt cX9_landAt 2 (some (.object "TurnedPosts$Land"))) (zR d mc ms) mc ms 1 := z_cwV hts m_co_X9_landAt m_ml_RX11_121 m_im_X9_landAt m_se_X9_landAt m_ii_RX9 (by decide +kernel) h1 h2
theorem kV_RX11_125 {R : Room} {s : State} {args : Array Value} {d mc ms : Nat} (hts : ∀ w ∈ zT, w.before args s = true) (h1 : d + 1 ≤ R.frames) (h2 : 8 + (3 + 11) + 40 * d ≤ R.locals) : CallW R s args RX11 RX4 125 yX4_told cX4_told 3 (some .int) (zW yX4_told cX4_told 3 (some .int)) (zR d mc ms) mc ms 1 := z_cwV hts m_co_X4_told m_ml_RX11_125 m_im_X4_told m_se_X4_told m_ii_RX4 (by decide +kernel) h1 h2
theorem kV_RX11_130 {R : Room} {s : State} {args : Array Value} {d mc ms : Nat} (hts : ∀ w ∈ zT, w.before args s = true) (h1 : d + 1 ≤ R.frames) (h2 : 8 + (2 + 11) + 40 * d ≤ R.locals) : CallW R s args RX11 RX9 130 yX9_dayAt cX9_dayAt 2 (some (.object "TurnedPosts$Day")) (zW yX9_dayAt cX9_dayAt 2 (some (.object "TurnedPosts$Day"))) (zR d mc ms) mc ms 1 := z_cwV hts m_co_X9_dayAt m_ml_RX11_130 m_im_X9_dayAt m_se_X9_dayAt m_ii_RX9 (by decide +kernel) h1 h2
theorem kV_RX11_134 {R : Room} {s : State} {args : Array Value} {d mc ms : Nat} (hts : ∀ w ∈ zT, w.before args s = true) (h1 : d + 1 ≤ R.frames) (h2 : 8 + (3 + 11) + 40 * d ≤ R.locals) : CallW R s args RX11 RX2 134 yX2_told cX2_told 3 (some .int) (zW yX2_told cX2_told 3 (some .int)) (zR d mc ms) mc ms 2 := z_cwV hts m_co_X2_told m_ml_RX11_134 m_im_X2_told m_se_X2_told m_ii_RX2 (by decide +kernel) h1 h2
theorem kV_RX11_138 {R : Room} {s : State} {args : Array Value} {d mc ms : Nat} (hts : ∀ w ∈ zT, w.before args s = true) (h1 : d + 1 ≤ R.frames) (h2 : 8 + (2 + 11) + 40 * d ≤ R.locals) : CallW R s args RX11 RX9 138 yX9_logAt cX9_logAt 2 (some (.object "TurnedPosts$Log")) (zW yX9_logAt cX9_logAt 2 (some (.object "TurnedPosts$Log"))) (zR d mc ms) mc ms 1 := z_cwV hts m_co_X9_logAt m_ml_RX11_138 m_im_X9_logAt m_se_X9_logAt m_ii_RX9 (by decide +kernel) h1 h2
theorem kV_RX11_142 {R : Room} {s : State} {args : Array Value} {d mc ms : Nat} (hts : ∀ w ∈ zT, w.before args s = true) (h1 : d + 1 ≤ R.frames) (h2 : 8 + (3 + 11) + 40 * d ≤ R.locals) : CallW R s args RX11 RX5 142 yX5_told cX5_told 3 (some .int) (zW yX5_told cX5_told 3 (some .int)) (zR d mc ms) mc ms 2 := z_cwV hts m_co_X5_told m_ml_RX11_142 m_im_X5_told m_se_X5_told m_ii_RX5 (by decide +kernel) h1 h2
theorem kV_RX11_160 {R : Room} {s : State} {args : Array Value} {d mc ms : Nat} (hts : ∀ w ∈ zT, w.before args s = true) (h1 : d + 1 ≤ R.frames) (h2 : 8 + (2 + 11) + 40 * d ≤ R.locals) : CallW R s args RX11 RX4 160 yX4_has cX4_has 2 (some .boolean) (zW yX4_has cX4_has 2 (some .boolean)) (zR d mc ms) mc ms 1 := z_cwV hts m_co_X4_has m_ml_RX11_160 m_im_X4_has m_se_X4_has m_ii_RX4 (by decide +kernel) h1 h2
theorem kS_RX11_330 {R : Room} {s : State} {args : Array Value} {d mc ms : Nat} (hts : ∀ w ∈ zT, w.before args s = true) (h1 : d + 1 ≤ R.frames) (h2 : 8 + (5 + 11) + 40 * d ≤ R.locals) : CallB R s args RX11 330 yX8_distance cX8_distance 5 (some .int) (zW yX8_distance cX8_distance 5 (some .int)) (zR d mc ms) mc ms 3 ∧ (Cond.static yX8_distance).before args s = true := z_cwS hts m_co_X8_distance m_ml_RX11_330 m_st_X8_distance m_ii_RX8 (by decide +kernel) h1 h2
theorem kS_RX11_340 {R : Room} {s : State} {args : Array Value} {d mc ms : Nat} (hts : ∀ w ∈ zT, w.before args s = true) (h1 : d + 1 ≤ R.frames) (h2 : 8 + (5 + 11) + 40 * d ≤ R.locals) : CallB R s args RX11 340 yX8_nearest cX8_nearest 5 (some .int) (zW yX8_nearest cX8_nearest 5 (some .int)) (zR d mc ms) mc ms 2 ∧ (Cond.static yX8_nearest).before args s = true := z_cwS hts m_co_X8_nearest m_ml_RX11_340 m_st_X8_nearest m_ii_RX8 (by decide +kernel) h1 h2
theorem kS_RX11_336 {R : Room} {s : State} {args : Array Value} {d mc ms : Nat} (hts : ∀ w ∈ zT, w.before args s = true) (h1 : d + 1 ≤ R.frames) (h2 : 8 + (4 + 11) + 40 * d ≤ R.locals) : CallB R s args RX11 336 yX8_reached cX8_reached 4 (some .int) (zW yX8_reached cX8_reached 4 (some .int)) (zR d mc ms) mc ms 2 ∧ (Cond.static yX8_reached).before args s = true := z_cwS hts m_co_X8_reached m_ml_RX11_336 m_st_X8_reached m_ii_RX8 (by decide +kernel) h1 h2
theorem kS_RX11_343 {R : Room} {s : State} {args : Array Value} {d mc ms : Nat} (hts : ∀ w ∈ zT, w.before args s = true) (h1 : d + 1 ≤ R.frames) (h2 : 8 + (6 + 11) + 40 * d ≤ R.locals) : CallB R s args RX11 343 yX8_parts cX8_parts 6 (some .int) (zW yX8_parts cX8_parts 6 (some .int)) (zR d mc ms) mc ms 2 ∧ (Cond.static yX8_parts).before args s = true := z_cwS hts m_co_X8_parts m_ml_RX11_343 m_st_X8_parts m_ii_RX8 (by decide +kernel) h1 h2
theorem kS_RX11_347 {R : Room} {s : State} {args : Array Value} {d mc ms : Nat} (hts : ∀ w ∈ zT, w.before args s = true) (h1 : d + 1 ≤ R.frames) (h2 : 8 + (3 + 11) + 40 * d ≤ R.locals) : CallB R s args RX11 347 yX8_heads cX8_heads 3 (some .int) (zW yX8_heads cX8_heads 3 (some .int)) (zR d mc ms) mc ms 1 ∧ (Cond.static yX8_heads).before args s = true := z_cwS hts m_co_X8_heads m_ml_RX11_347 m_st_X8_heads m_ii_RX8 (by decide +kernel) h1 h2
theorem kS_RX11_350 {R : Room} {s : State} {args : Array Value} {d mc ms : Nat} (hts : ∀ w ∈ zT, w.before args s = true) (h1 : d + 1 ≤ R.frames) (h2 : 8 + (3 + 11) + 40 * d ≤ R.locals) : CallB R s args RX11 350 yX8_ends cX8_ends 3 (some .int) (zW yX8_ends cX8_ends 3 (some .int)) (zR d mc ms) mc ms 1 ∧ (Cond.static yX8_ends).before args s = true := z_cwS hts m_co_X8_ends m_ml_RX11_350 m_st_X8_ends m_ii_RX8 (by decide +kernel) h1 h2
theorem kS_RX11_353 {R : Room} {s : State} {args : Array Value} {d mc ms : Nat} (hts : ∀ w ∈ zT, w.before args s = true) (h1 : d + 1 ≤ R.frames) (h2 : 8 + (3 + 11) + 40 * d ≤ R.locals) : CallB R s args RX11 353 yX8_loops cX8_loops 3 (some .int) (zW yX8_loops cX8_loops 3 (some .int)) (zR d mc ms) mc ms 1 ∧ (Cond.static yX8_loops).before args s = true := z_cwS hts m_co_X8_loops m_ml_RX11_353 m_st_X8_loops m_ii_RX8 (by decide +kernel) h1 h2
theorem kS_RX11_356 {R : Room} {s : State} {args : Array Value} {d mc ms : Nat} (hts : ∀ w ∈ zT, w.before args s = true) (h1 : d + 1 ≤ R.frames) (h2 : 8 + (5 + 11) + 40 * d ≤ R.locals) : CallB R s args RX11 356 yX8_doubles cX8_doubles 5 (some .int) (zW yX8_doubles cX8_doubles 5 (some .int)) (zR d mc ms) mc ms 1 ∧ (Cond.static yX8_doubles).before args s = true := z_cwS hts m_co_X8_doubles m_ml_RX11_356 m_st_X8_doubles m_ii_RX8 (by decide +kernel) h1 h2
theorem kS_RX11_359 {R : Room} {s : State} {args : Array Value} {d mc ms : Nat} (hts : ∀ w ∈ zT, w.before args s = true) (h1 : d + 1 ≤ R.frames) (h2 : 8 + (3 + 11) + 40 * d ≤ R.locals) : CallB R s args RX11 359 yX8_even cX8_even 3 (some .int) (zW yX8_even cX8_even 3 (some .int)) (zR d mc ms) mc ms 1 ∧ (Cond.static yX8_even).before args s = true := z_cwS hts m_co_X8_even m_ml_RX11_359 m_st_X8_even m_ii_RX8 (by decide +kernel) h1 h2
theorem kS_RX11_362 {R : Room} {s : State} {args : Array Value} {d mc ms : Nat} (hts : ∀ w ∈ zT, w.before args s = true) (h1 : d + 1 ≤ R.frames) (h2 : 8 + (5 + 11) + 40 * d ≤ R.locals) : CallB R s args RX11 362 yX8_busy cX8_busy 5 (some .int) (zW yX8_busy cX8_busy 5 (some .int)) (zR d mc ms) mc ms 1 ∧ (Cond.static yX8_busy).before args s = true := z_cwS hts m_co_X8_busy m_ml_RX11_362 m_st_X8_busy m_ii_RX8 (by decide +kernel) h1 h2
theorem dX11_feed_0 : decode cX11_feed 0 = .ok (.aload_n 0, 1) := zo_42 (by decide +kernel)
theorem dX11_feed_1 : decode cX11_feed 1 = .ok (.getfield 10, 3) := zo_180 (by decide +kernel)
theorem dX11_feed_4 : decode cX11_feed 4 = .ok (.getfield 73, 3) := zo_180 (by decide +kernel)
theorem dX11_feed_7 : decode cX11_feed 7 = .ok (.bipush 20, 2) := zo_16 (by decide +kernel)
theorem dX11_feed_9 : decode cX11_feed 9 = .ok (.iadd, 1) := zo_96 (by decide +kernel)
theorem dX11_feed_10 : decode cX11_feed 10 = .ok (.sipush 600, 3) := zo_17 (by decide +kernel)
theorem dX11_feed_13 : decode cX11_feed 13 = .ok (.if_icmp .le 5, 3) := zo_164 (by decide +kernel)
theorem dX11_feed_16 : decode cX11_feed 16 = .ok (.iconst (-1), 1) := zo_2 (by decide +kernel)
theorem dX11_feed_17 : decode cX11_feed 17 = .ok (.ireturn, 1) := zo_172 (by decide +kernel)
theorem dX11_feed_18 : decode cX11_feed 18 = .ok (.aload_n 0, 1) := zo_42 (by decide +kernel)
theorem dX11_feed_19 : decode cX11_feed 19 = .ok (.getfield 10, 3) := zo_180 (by decide +kernel)
theorem dX11_feed_22 : decode cX11_feed 22 = .ok (.iload_n 1, 1) := zo_27 (by decide +kernel)
theorem dX11_feed_23 : decode cX11_feed 23 = .ok (.invokevirtual 77, 3) := zo_182 (by decide +kernel)
theorem dX11_feed_26 : decode cX11_feed 26 = .ok (.aload_n 0, 1) := zo_42 (by decide +kernel)
theorem dX11_feed_27 : decode cX11_feed 27 = .ok (.getfield 10, 3) := zo_180 (by decide +kernel)
theorem dX11_feed_30 : decode cX11_feed 30 = .ok (.iload_n 2, 1) := zo_28 (by decide +kernel)
theorem dX11_feed_31 : decode cX11_feed 31 = .ok (.invokevirtual 77, 3) := zo_182 (by decide +kernel)
theorem dX11_feed_34 : decode cX11_feed 34 = .ok (.aload_n 0, 1) := zo_42 (by decide +kernel)
theorem dX11_feed_35 : decode cX11_feed 35 = .ok (.getfield 10, 3) := zo_180 (by decide +kernel)
theorem dX11_feed_38 : decode cX11_feed 38 = .ok (.iload_n 3, 1) := zo_29 (by decide +kernel)
theorem dX11_feed_39 : decode cX11_feed 39 = .ok (.invokevirtual 77, 3) := zo_182 (by decide +kernel)
theorem dX11_feed_42 : decode cX11_feed 42 = .ok (.aload_n 0, 1) := zo_42 (by decide +kernel)
theorem dX11_feed_43 : decode cX11_feed 43 = .ok (.getfield 10, 3) := zo_180 (by decide +kernel)
theorem dX11_feed_46 : decode cX11_feed 46 = .ok (.iload 4, 2) := zo_21 (by decide +kernel)
theorem dX11_feed_48 : decode cX11_feed 48 = .ok (.invokevirtual 77, 3) := zo_182 (by decide +kernel)
theorem dX11_feed_51 : decode cX11_feed 51 = .ok (.aload_n 0, 1) := zo_42 (by decide +kernel)
theorem dX11_feed_52 : decode cX11_feed 52 = .ok (.getfield 10, 3) := zo_180 (by decide +kernel)
theorem dX11_feed_55 : decode cX11_feed 55 = .ok (.iload 5, 2) := zo_21 (by decide +kernel)
theorem dX11_feed_57 : decode cX11_feed 57 = .ok (.invokevirtual 77, 3) := zo_182 (by decide +kernel)
theorem dX11_feed_60 : decode cX11_feed 60 = .ok (.aload_n 0, 1) := zo_42 (by decide +kernel)
theorem dX11_feed_61 : decode cX11_feed 61 = .ok (.getfield 10, 3) := zo_180 (by decide +kernel)
theorem dX11_feed_64 : decode cX11_feed 64 = .ok (.getfield 73, 3) := zo_180 (by decide +kernel)
theorem dX11_feed_67 : decode cX11_feed 67 = .ok (.ireturn, 1) := zo_172 (by decide +kernel)
theorem dX11_end_0 : decode cX11_end 0 = .ok (.iload_n 1, 1) := zo_27 (by decide +kernel)
theorem dX11_end_1 : decode cX11_end 1 = .ok (.ifCond .lt 14, 3) := zo_155 (by decide +kernel)
theorem dX11_end_4 : decode cX11_end 4 = .ok (.iload_n 1, 1) := zo_27 (by decide +kernel)
theorem dX11_end_5 : decode cX11_end 5 = .ok (.aload_n 0, 1) := zo_42 (by decide +kernel)
theorem dX11_end_6 : decode cX11_end 6 = .ok (.getfield 10, 3) := zo_180 (by decide +kernel)
theorem dX11_end_9 : decode cX11_end 9 = .ok (.getfield 73, 3) := zo_180 (by decide +kernel)
theorem dX11_end_12 : decode cX11_end 12 = .ok (.if_icmp .le 5, 3) := zo_164 (by decide +kernel)
theorem dX11_end_15 : decode cX11_end 15 = .ok (.iconst (-1), 1) := zo_2 (by decide +kernel)
theorem dX11_end_16 : decode cX11_end 16 = .ok (.ireturn, 1) := zo_172 (by decide +kernel)
theorem dX11_end_17 : decode cX11_end 17 = .ok (.aload_n 0, 1) := zo_42 (by decide +kernel)
theorem dX11_end_18 : decode cX11_end 18 = .ok (.getfield 10, 3) := zo_180 (by decide +kernel)
theorem dX11_end_21 : decode cX11_end 21 = .ok (.iload_n 1, 1) := zo_27 (by decide +kernel)
theorem dX11_end_22 : decode cX11_end 22 = .ok (.putfield 73, 3) := zo_181 (by decide +kernel)
theorem dX11_end_25 : decode cX11_end 25 = .ok (.iload_n 1, 1) := zo_27 (by decide +kernel)
theorem dX11_end_26 : decode cX11_end 26 = .ok (.ireturn, 1) := zo_172 (by decide +kernel)
theorem dX11_fault_0 : decode cX11_fault 0 = .ok (.iload_n 1, 1) := zo_27 (by decide +kernel)
theorem dX11_fault_1 : decode cX11_fault 1 = .ok (.ifCond .ne 13, 3) := zo_154 (by decide +kernel)
theorem dX11_fault_4 : decode cX11_fault 4 = .ok (.aload_n 0, 1) := zo_42 (by decide +kernel)
theorem dX11_fault_5 : decode cX11_fault 5 = .ok (.getfield 10, 3) := zo_180 (by decide +kernel)
theorem dX11_fault_8 : decode cX11_fault 8 = .ok (.getfield 85, 3) := zo_180 (by decide +kernel)
theorem dX11_fault_11 : decode cX11_fault 11 = .ok (.goto 19, 3) := zo_167 (by decide +kernel)
theorem dX11_fault_14 : decode cX11_fault 14 = .ok (.iload_n 1, 1) := zo_27 (by decide +kernel)
theorem dX11_fault_15 : decode cX11_fault 15 = .ok (.iconst 1, 1) := zo_4 (by decide +kernel)
theorem dX11_fault_16 : decode cX11_fault 16 = .ok (.if_icmp .ne 13, 3) := zo_160 (by decide +kernel)
theorem dX11_fault_19 : decode cX11_fault 19 = .ok (.aload_n 0, 1) := zo_42 (by decide +kernel)
theorem dX11_fault_20 : decode cX11_fault 20 = .ok (.getfield 10, 3) := zo_180 (by decide +kernel)
theorem dX11_fault_23 : decode cX11_fault 23 = .ok (.getfield 88, 3) := zo_180 (by decide +kernel)
theorem dX11_fault_26 : decode cX11_fault 26 = .ok (.goto 4, 3) := zo_167 (by decide +kernel)
theorem dX11_fault_29 : decode cX11_fault 29 = .ok (.iconst (-1), 1) := zo_2 (by decide +kernel)
theorem dX11_fault_30 : decode cX11_fault 30 = .ok (.ireturn, 1) := zo_172 (by decide +kernel)
theorem dX11_count_0 : decode cX11_count 0 = .ok (.iload_n 1, 1) := zo_27 (by decide +kernel)
theorem dX11_count_1 : decode cX11_count 1 = .ok (.ifCond .lt 20, 3) := zo_155 (by decide +kernel)
theorem dX11_count_4 : decode cX11_count 4 = .ok (.iload_n 1, 1) := zo_27 (by decide +kernel)
theorem dX11_count_5 : decode cX11_count 5 = .ok (.iconst 2, 1) := zo_5 (by decide +kernel)
theorem dX11_count_6 : decode cX11_count 6 = .ok (.if_icmp .gt 15, 3) := zo_163 (by decide +kernel)
theorem dX11_count_9 : decode cX11_count 9 = .ok (.aload_n 0, 1) := zo_42 (by decide +kernel)
theorem dX11_count_10 : decode cX11_count 10 = .ok (.getfield 10, 3) := zo_180 (by decide +kernel)
theorem dX11_count_13 : decode cX11_count 13 = .ok (.getfield 114, 3) := zo_180 (by decide +kernel)
theorem dX11_count_16 : decode cX11_count 16 = .ok (.iload_n 1, 1) := zo_27 (by decide +kernel)
theorem dX11_count_17 : decode cX11_count 17 = .ok (.iaload, 1) := zo_46 (by decide +kernel)
theorem dX11_count_18 : decode cX11_count 18 = .ok (.goto 5, 3) := zo_167 (by decide +kernel)
theorem dX11_count_21 : decode cX11_count 21 = .ok (.bipush (-2), 2) := zo_16 (by decide +kernel)
theorem dX11_count_23 : decode cX11_count 23 = .ok (.ireturn, 1) := zo_172 (by decide +kernel)
theorem dX11_land_0 : decode cX11_land 0 = .ok (.aload_n 0, 1) := zo_42 (by decide +kernel)
theorem dX11_land_1 : decode cX11_land 1 = .ok (.getfield 10, 3) := zo_180 (by decide +kernel)
theorem dX11_land_4 : decode cX11_land 4 = .ok (.iload_n 1, 1) := zo_27 (by decide +kernel)
theorem dX11_land_5 : decode cX11_land 5 = .ok (.invokevirtual 121, 3) := zo_182 (by decide +kernel)
theorem dX11_land_8 : decode cX11_land 8 = .ok (.astore_n 3, 1) := zo_78 (by decide +kernel)
theorem dX11_land_9 : decode cX11_land 9 = .ok (.aload_n 3, 1) := zo_45 (by decide +kernel)
theorem dX11_land_10 : decode cX11_land 10 = .ok (.ifnonnull 7, 3) := zo_199 (by decide +kernel)
theorem dX11_land_13 : decode cX11_land 13 = .ok (.iconst (-1), 1) := zo_2 (by decide +kernel)
theorem dX11_land_14 : decode cX11_land 14 = .ok (.goto 8, 3) := zo_167 (by decide +kernel)
theorem dX11_land_17 : decode cX11_land 17 = .ok (.aload_n 3, 1) := zo_45 (by decide +kernel)
theorem dX11_land_18 : decode cX11_land 18 = .ok (.iload_n 2, 1) := zo_28 (by decide +kernel)
theorem dX11_land_19 : decode cX11_land 19 = .ok (.invokevirtual 125, 3) := zo_182 (by decide +kernel)
theorem dX11_land_22 : decode cX11_land 22 = .ok (.ireturn, 1) := zo_172 (by decide +kernel)
theorem dX11_deed_0 : decode cX11_deed 0 = .ok (.aload_n 0, 1) := zo_42 (by decide +kernel)
theorem dX11_deed_1 : decode cX11_deed 1 = .ok (.getfield 10, 3) := zo_180 (by decide +kernel)
theorem dX11_deed_4 : decode cX11_deed 4 = .ok (.iload_n 1, 1) := zo_27 (by decide +kernel)
theorem dX11_deed_5 : decode cX11_deed 5 = .ok (.invokevirtual 130, 3) := zo_182 (by decide +kernel)
theorem dX11_deed_8 : decode cX11_deed 8 = .ok (.astore 4, 2) := zo_58 (by decide +kernel)
theorem dX11_deed_10 : decode cX11_deed 10 = .ok (.aload 4, 2) := zo_25 (by decide +kernel)
theorem dX11_deed_12 : decode cX11_deed 12 = .ok (.ifnonnull 8, 3) := zo_199 (by decide +kernel)
theorem dX11_deed_15 : decode cX11_deed 15 = .ok (.bipush (-2), 2) := zo_16 (by decide +kernel)
theorem dX11_deed_17 : decode cX11_deed 17 = .ok (.goto 10, 3) := zo_167 (by decide +kernel)
theorem dX11_deed_20 : decode cX11_deed 20 = .ok (.aload 4, 2) := zo_25 (by decide +kernel)
theorem dX11_deed_22 : decode cX11_deed 22 = .ok (.iload_n 2, 1) := zo_28 (by decide +kernel)
theorem dX11_deed_23 : decode cX11_deed 23 = .ok (.iload_n 3, 1) := zo_29 (by decide +kernel)
theorem dX11_deed_24 : decode cX11_deed 24 = .ok (.invokevirtual 134, 3) := zo_182 (by decide +kernel)
theorem dX11_deed_27 : decode cX11_deed 27 = .ok (.ireturn, 1) := zo_172 (by decide +kernel)
theorem dX11_fact_0 : decode cX11_fact 0 = .ok (.aload_n 0, 1) := zo_42 (by decide +kernel)
theorem dX11_fact_1 : decode cX11_fact 1 = .ok (.getfield 10, 3) := zo_180 (by decide +kernel)
theorem dX11_fact_4 : decode cX11_fact 4 = .ok (.iload_n 1, 1) := zo_27 (by decide +kernel)
theorem dX11_fact_5 : decode cX11_fact 5 = .ok (.invokevirtual 138, 3) := zo_182 (by decide +kernel)
theorem dX11_fact_8 : decode cX11_fact 8 = .ok (.astore 4, 2) := zo_58 (by decide +kernel)
theorem dX11_fact_10 : decode cX11_fact 10 = .ok (.aload 4, 2) := zo_25 (by decide +kernel)
theorem dX11_fact_12 : decode cX11_fact 12 = .ok (.ifnonnull 8, 3) := zo_199 (by decide +kernel)
theorem dX11_fact_15 : decode cX11_fact 15 = .ok (.bipush (-2), 2) := zo_16 (by decide +kernel)
theorem dX11_fact_17 : decode cX11_fact 17 = .ok (.goto 10, 3) := zo_167 (by decide +kernel)
theorem dX11_fact_20 : decode cX11_fact 20 = .ok (.aload 4, 2) := zo_25 (by decide +kernel)
theorem dX11_fact_22 : decode cX11_fact 22 = .ok (.iload_n 2, 1) := zo_28 (by decide +kernel)
theorem dX11_fact_23 : decode cX11_fact 23 = .ok (.iload_n 3, 1) := zo_29 (by decide +kernel)
theorem dX11_fact_24 : decode cX11_fact 24 = .ok (.invokevirtual 142, 3) := zo_182 (by decide +kernel)
theorem dX11_fact_27 : decode cX11_fact 27 = .ok (.ireturn, 1) := zo_172 (by decide +kernel)
theorem dX11_far_0 : decode cX11_far 0 = .ok (.aload_n 0, 1) := zo_42 (by decide +kernel)
theorem dX11_far_1 : decode cX11_far 1 = .ok (.getfield 10, 3) := zo_180 (by decide +kernel)
theorem dX11_far_4 : decode cX11_far 4 = .ok (.iload_n 1, 1) := zo_27 (by decide +kernel)
theorem dX11_far_5 : decode cX11_far 5 = .ok (.invokevirtual 121, 3) := zo_182 (by decide +kernel)
theorem dX11_far_8 : decode cX11_far 8 = .ok (.astore 4, 2) := zo_58 (by decide +kernel)
theorem dX11_far_10 : decode cX11_far 10 = .ok (.aload 4, 2) := zo_25 (by decide +kernel)
theorem dX11_far_12 : decode cX11_far 12 = .ok (.ifnull 21, 3) := zo_198 (by decide +kernel)
theorem dX11_far_15 : decode cX11_far 15 = .ok (.aload 4, 2) := zo_25 (by decide +kernel)
theorem dX11_far_17 : decode cX11_far 17 = .ok (.iload_n 2, 1) := zo_28 (by decide +kernel)
theorem dX11_far_18 : decode cX11_far 18 = .ok (.invokevirtual 160, 3) := zo_182 (by decide +kernel)
theorem dX11_far_21 : decode cX11_far 21 = .ok (.ifCond .eq 12, 3) := zo_153 (by decide +kernel)
theorem dX11_far_24 : decode cX11_far 24 = .ok (.aload 4, 2) := zo_25 (by decide +kernel)
theorem dX11_far_26 : decode cX11_far 26 = .ok (.iload_n 3, 1) := zo_29 (by decide +kernel)
theorem dX11_far_27 : decode cX11_far 27 = .ok (.invokevirtual 160, 3) := zo_182 (by decide +kernel)
theorem dX11_far_30 : decode cX11_far 30 = .ok (.ifCond .ne 7, 3) := zo_154 (by decide +kernel)
theorem dX11_far_33 : decode cX11_far 33 = .ok (.iconst (-1), 1) := zo_2 (by decide +kernel)
theorem dX11_far_34 : decode cX11_far 34 = .ok (.goto 10, 3) := zo_167 (by decide +kernel)
theorem dX11_far_37 : decode cX11_far 37 = .ok (.aload 4, 2) := zo_25 (by decide +kernel)
theorem dX11_far_39 : decode cX11_far 39 = .ok (.iload_n 2, 1) := zo_28 (by decide +kernel)
theorem dX11_far_40 : decode cX11_far 40 = .ok (.iload_n 3, 1) := zo_29 (by decide +kernel)
theorem dX11_far_41 : decode cX11_far 41 = .ok (.invokestatic 330, 3) := zo_184 (by decide +kernel)
theorem dX11_far_44 : decode cX11_far 44 = .ok (.ireturn, 1) := zo_172 (by decide +kernel)
theorem dX11_reach_0 : decode cX11_reach 0 = .ok (.aload_n 0, 1) := zo_42 (by decide +kernel)
theorem dX11_reach_1 : decode cX11_reach 1 = .ok (.getfield 10, 3) := zo_180 (by decide +kernel)
theorem dX11_reach_4 : decode cX11_reach 4 = .ok (.iload_n 1, 1) := zo_27 (by decide +kernel)
theorem dX11_reach_5 : decode cX11_reach 5 = .ok (.invokevirtual 121, 3) := zo_182 (by decide +kernel)
theorem dX11_reach_8 : decode cX11_reach 8 = .ok (.astore 4, 2) := zo_58 (by decide +kernel)
theorem dX11_reach_10 : decode cX11_reach 10 = .ok (.aload 4, 2) := zo_25 (by decide +kernel)
theorem dX11_reach_12 : decode cX11_reach 12 = .ok (.ifnull 21, 3) := zo_198 (by decide +kernel)
theorem dX11_reach_15 : decode cX11_reach 15 = .ok (.aload 4, 2) := zo_25 (by decide +kernel)
theorem dX11_reach_17 : decode cX11_reach 17 = .ok (.iload_n 2, 1) := zo_28 (by decide +kernel)
theorem dX11_reach_18 : decode cX11_reach 18 = .ok (.invokevirtual 160, 3) := zo_182 (by decide +kernel)
theorem dX11_reach_21 : decode cX11_reach 21 = .ok (.ifCond .eq 12, 3) := zo_153 (by decide +kernel)
theorem dX11_reach_24 : decode cX11_reach 24 = .ok (.iload_n 3, 1) := zo_29 (by decide +kernel)
theorem dX11_reach_25 : decode cX11_reach 25 = .ok (.ifCond .lt 8, 3) := zo_155 (by decide +kernel)
theorem dX11_reach_28 : decode cX11_reach 28 = .ok (.iload_n 3, 1) := zo_29 (by decide +kernel)
theorem dX11_reach_29 : decode cX11_reach 29 = .ok (.iconst 1, 1) := zo_4 (by decide +kernel)
theorem dX11_reach_30 : decode cX11_reach 30 = .ok (.if_icmp .le 6, 3) := zo_164 (by decide +kernel)
theorem dX11_reach_33 : decode cX11_reach 33 = .ok (.bipush (-2), 2) := zo_16 (by decide +kernel)
theorem dX11_reach_35 : decode cX11_reach 35 = .ok (.ireturn, 1) := zo_172 (by decide +kernel)
theorem dX11_reach_36 : decode cX11_reach 36 = .ok (.iload_n 3, 1) := zo_29 (by decide +kernel)
theorem dX11_reach_37 : decode cX11_reach 37 = .ok (.ifCond .ne 12, 3) := zo_154 (by decide +kernel)
theorem dX11_reach_40 : decode cX11_reach 40 = .ok (.aload 4, 2) := zo_25 (by decide +kernel)
theorem dX11_reach_42 : decode cX11_reach 42 = .ok (.iload_n 2, 1) := zo_28 (by decide +kernel)
theorem dX11_reach_43 : decode cX11_reach 43 = .ok (.invokestatic 336, 3) := zo_184 (by decide +kernel)
theorem dX11_reach_46 : decode cX11_reach 46 = .ok (.goto 9, 3) := zo_167 (by decide +kernel)
theorem dX11_reach_49 : decode cX11_reach 49 = .ok (.aload 4, 2) := zo_25 (by decide +kernel)
theorem dX11_reach_51 : decode cX11_reach 51 = .ok (.iload_n 2, 1) := zo_28 (by decide +kernel)
theorem dX11_reach_52 : decode cX11_reach 52 = .ok (.invokestatic 340, 3) := zo_184 (by decide +kernel)
theorem dX11_reach_55 : decode cX11_reach 55 = .ok (.ireturn, 1) := zo_172 (by decide +kernel)
theorem dX11_classes_0 : decode cX11_classes 0 = .ok (.aload_n 0, 1) := zo_42 (by decide +kernel)
theorem dX11_classes_1 : decode cX11_classes 1 = .ok (.getfield 10, 3) := zo_180 (by decide +kernel)
theorem dX11_classes_4 : decode cX11_classes 4 = .ok (.iload_n 1, 1) := zo_27 (by decide +kernel)
theorem dX11_classes_5 : decode cX11_classes 5 = .ok (.invokevirtual 121, 3) := zo_182 (by decide +kernel)
theorem dX11_classes_8 : decode cX11_classes 8 = .ok (.astore_n 3, 1) := zo_78 (by decide +kernel)
theorem dX11_classes_9 : decode cX11_classes 9 = .ok (.aload_n 3, 1) := zo_45 (by decide +kernel)
theorem dX11_classes_10 : decode cX11_classes 10 = .ok (.ifnonnull 6, 3) := zo_199 (by decide +kernel)
theorem dX11_classes_13 : decode cX11_classes 13 = .ok (.bipush (-2), 2) := zo_16 (by decide +kernel)
theorem dX11_classes_15 : decode cX11_classes 15 = .ok (.ireturn, 1) := zo_172 (by decide +kernel)
theorem dX11_classes_16 : decode cX11_classes 16 = .ok (.iload_n 2, 1) := zo_28 (by decide +kernel)
theorem dX11_classes_17 : decode cX11_classes 17 = .ok (.tableswitch 89 0 7 #[47, 53, 59, 64, 69, 74, 79, 84], 47) := by decide +kernel
theorem dX11_classes_64 : decode cX11_classes 64 = .ok (.aload_n 3, 1) := zo_45 (by decide +kernel)
theorem dX11_classes_65 : decode cX11_classes 65 = .ok (.iconst 0, 1) := zo_3 (by decide +kernel)
theorem dX11_classes_66 : decode cX11_classes 66 = .ok (.invokestatic 343, 3) := zo_184 (by decide +kernel)
theorem dX11_classes_69 : decode cX11_classes 69 = .ok (.ireturn, 1) := zo_172 (by decide +kernel)
theorem dX11_classes_70 : decode cX11_classes 70 = .ok (.aload_n 3, 1) := zo_45 (by decide +kernel)
theorem dX11_classes_71 : decode cX11_classes 71 = .ok (.iconst 1, 1) := zo_4 (by decide +kernel)
theorem dX11_classes_72 : decode cX11_classes 72 = .ok (.invokestatic 343, 3) := zo_184 (by decide +kernel)
theorem dX11_classes_75 : decode cX11_classes 75 = .ok (.ireturn, 1) := zo_172 (by decide +kernel)
theorem dX11_classes_76 : decode cX11_classes 76 = .ok (.aload_n 3, 1) := zo_45 (by decide +kernel)
theorem dX11_classes_77 : decode cX11_classes 77 = .ok (.invokestatic 347, 3) := zo_184 (by decide +kernel)
theorem dX11_classes_80 : decode cX11_classes 80 = .ok (.ireturn, 1) := zo_172 (by decide +kernel)
theorem dX11_classes_81 : decode cX11_classes 81 = .ok (.aload_n 3, 1) := zo_45 (by decide +kernel)
theorem dX11_classes_82 : decode cX11_classes 82 = .ok (.invokestatic 350, 3) := zo_184 (by decide +kernel)
theorem dX11_classes_85 : decode cX11_classes 85 = .ok (.ireturn, 1) := zo_172 (by decide +kernel)
theorem dX11_classes_86 : decode cX11_classes 86 = .ok (.aload_n 3, 1) := zo_45 (by decide +kernel)
theorem dX11_classes_87 : decode cX11_classes 87 = .ok (.invokestatic 353, 3) := zo_184 (by decide +kernel)
theorem dX11_classes_90 : decode cX11_classes 90 = .ok (.ireturn, 1) := zo_172 (by decide +kernel)
theorem dX11_classes_91 : decode cX11_classes 91 = .ok (.aload_n 3, 1) := zo_45 (by decide +kernel)
theorem dX11_classes_92 : decode cX11_classes 92 = .ok (.invokestatic 356, 3) := zo_184 (by decide +kernel)
theorem dX11_classes_95 : decode cX11_classes 95 = .ok (.ireturn, 1) := zo_172 (by decide +kernel)
theorem dX11_classes_96 : decode cX11_classes 96 = .ok (.aload_n 3, 1) := zo_45 (by decide +kernel)
theorem dX11_classes_97 : decode cX11_classes 97 = .ok (.invokestatic 359, 3) := zo_184 (by decide +kernel)
theorem dX11_classes_100 : decode cX11_classes 100 = .ok (.ireturn, 1) := zo_172 (by decide +kernel)
theorem dX11_classes_101 : decode cX11_classes 101 = .ok (.aload_n 3, 1) := zo_45 (by decide +kernel)
theorem dX11_classes_102 : decode cX11_classes 102 = .ok (.invokestatic 362, 3) := zo_184 (by decide +kernel)
theorem dX11_classes_105 : decode cX11_classes 105 = .ok (.ireturn, 1) := zo_172 (by decide +kernel)
theorem dX11_classes_106 : decode cX11_classes 106 = .ok (.bipush (-2), 2) := zo_16 (by decide +kernel)
theorem dX11_classes_108 : decode cX11_classes 108 = .ok (.ireturn, 1) := zo_172 (by decide +kernel)
set_option maxHeartbeats 4000000 in
set_option maxRecDepth 100000 in
/-- c_end -/
theorem c_end (l : Launch) (T : zTy) (xo : Nat) (t : Nat) (im : Nat) (mk : Nat) (rd : Nat) (po : Nat) (co : Nat) (tr : Nat) (wa : Nat) (wb_ : Nat) (fi : Nat) (cd : Nat) (l0 : Nat) (l1 : Nat) (d0 : Nat) (d1 : Nat) (g0 : Nat) (g1 : Nat) (ln : Int32) (fl : Int32) (pl : Int32) (ft : Nat → Int32) (fk : Nat → Int32) (wt : va_W) (n : Int32) (ht : bTold T t l0 l1 d0 d1 g0 g1 ln fl pl ft fk wt) (hK : zKT fk) : zMi l T yX11_end cX11_end 2 (some .int) 1 0 0 [.ref xo, .int n] [[zO10 xo t im mk rd po co tr wa wb_ fi cd], wt] (fun (r : Int32) bs => ∃ (wt_2 : va_W) (u : Int32), bs = [[zO10 xo t im mk rd po co tr wa wb_ fi cd], wt_2] ∧ bTold T t l0 l1 d0 d1 g0 g1 u fl pl ft fk wt_2 ∧ ((n.toInt < 0 ∨ ln.toInt < n.toInt) ∧ r.toInt = -1 ∧ u = ln ∨ (0 ≤ n.toInt ∧ n.toInt ≤ ln.toInt) ∧ u = n ∧ r = n)) := by
  refine zMi_of (own := RX11) (by decide) rfl (Nat.le_of_ble_eq_true rfl) ?_
  intro p e s m args below meth c A ls C hr hlocks hnm hAe G hl
  refine zHide (fun Qz_ hQz_ => ?_)
  have hx := C.1
  have hb := C.2.1
  have hl : lv_has ls 2 [(0, .ref xo), (1, .int n)] := hl
  refine lv_iload_n hx hb dX11_end_0 rfl (lv_at hl 1 rfl) ?_
  refine lv_if_lt (tgt := 15) hx hb dX11_end_1 (by decide) (fun c_1 => ?_) (fun c_1 => ?_)
  · have c_1n : n.toInt < (0 : Int) := (fa_lt _ _).mp c_1
    refine lv_iconst (v := (-1)) hx hb dX11_end_15 (by decide) ?_
    exact z_back hQz_ (z_iret C hr hlocks G (Nat.le_of_ble_eq_true rfl) (Nat.le_of_ble_eq_true rfl) dX11_end_16 ⟨wt, ln, rfl, ht, (Or.inl ⟨by omega, by decide, rfl⟩)⟩)
  · have c_1n : ¬ n.toInt < (0 : Int) := fun q => c_1 ((fa_lt _ _).mpr q)
    refine lv_iload_n hx hb dX11_end_4 rfl (lv_at hl 1 rfl) ?_
    refine lv_aload_n hx hb dX11_end_5 rfl (lv_at hl 0 rfl) ?_
    refine z_get C G clX11 0 rfl 0 (by decide) m_fl_RX11_10 rfl dX11_end_6 ?_
    refine zEx8 ht ?_
    intro a1_2 a2_3 a3_4 a4_5 a5_6 q1_7 q2_8 q3_9
    refine zCu7 ?_
    intro hbs9 h_10 h_11 h_12 h_13 h_14 h_15
    clear ht
    subst hbs9
    have G : zS T A s.heap s [[zO10 xo t im mk rd po co tr wa wb_ fi cd], [zO8 t a1_2 ln fl pl a2_3 a3_4 a4_5 a5_6], [zAr T 1 a1_2 600 ft], [zAr T 0 a2_3 3 fk], [zArq T 3 a3_4 2 q1_7], [zArq T 4 a4_5 2 q2_8], [zArq T 5 a5_6 2 q3_9]] _ _ := G.re rfl
    refine z_get C G clX9 1 rfl 1 (by decide) m_fl_RX11_73 rfl dX11_end_9 ?_
    refine lv_icmp_le (tgt := 17) hx hb dX11_end_12 (by decide) (fun c_16 => ?_) (fun c_16 => ?_)
    · have c_16n : n.toInt ≤ ln.toInt := (fa_le _ _).mp c_16
      refine lv_aload_n hx hb dX11_end_17 rfl (lv_at hl 0 rfl) ?_
      refine z_get C G clX11 0 rfl 0 (by decide) m_fl_RX11_10 rfl dX11_end_18 ?_
      refine lv_iload_n hx hb dX11_end_21 rfl (lv_at hl 1 rfl) ?_
      refine z_put C G clX9 1 rfl 1 (by decide) m_fl_RX11_73 rfl rfl rfl (Nat.le_of_ble_eq_true rfl) dX11_end_22 (fun H locs G => ?_)
      have G : zS T A s.heap s [[zO10 xo t im mk rd po co tr wa wb_ fi cd], [zO8 t a1_2 n fl pl a2_3 a3_4 a4_5 a5_6], [zAr T 1 a1_2 600 ft], [zAr T 0 a2_3 3 fk], [zArq T 3 a3_4 2 q1_7], [zArq T 4 a4_5 2 q2_8], [zArq T 5 a5_6 2 q3_9]] _ _ := G
      refine lv_iload_n hx hb dX11_end_25 rfl (lv_at hl 1 rfl) ?_
      have hw_17 : bTold T t l0 l1 d0 d1 g0 g1 n fl pl ft fk [zO8 t a1_2 n fl pl a2_3 a3_4 a4_5 a5_6, zAr T 1 a1_2 600 ft, zAr T 0 a2_3 3 fk, zArq T 3 a3_4 2 q1_7, zArq T 4 a4_5 2 q2_8, zArq T 5 a5_6 2 q3_9] := ⟨a1_2, a2_3, a3_4, a4_5, a5_6, q1_7, q2_8, q3_9, rfl, h_10, h_11, h_12, h_13, h_14, h_15⟩
      have G : zS T A s.heap s [[zO10 xo t im mk rd po co tr wa wb_ fi cd], [zO8 t a1_2 n fl pl a2_3 a3_4 a4_5 a5_6, zAr T 1 a1_2 600 ft, zAr T 0 a2_3 3 fk, zArq T 3 a3_4 2 q1_7, zArq T 4 a4_5 2 q2_8, zArq T 5 a5_6 2 q3_9]] _ _ := G.re rfl
      exact z_back hQz_ (z_iret C hr hlocks G (Nat.le_of_ble_eq_true rfl) (Nat.le_of_ble_eq_true rfl) dX11_end_26 ⟨([zO8 t a1_2 n fl pl a2_3 a3_4 a4_5 a5_6, zAr T 1 a1_2 600 ft, zAr T 0 a2_3 3 fk, zArq T 3 a3_4 2 q1_7, zArq T 4 a4_5 2 q2_8, zArq T 5 a5_6 2 q3_9]), n, rfl, hw_17, (Or.inr ⟨by omega, rfl, rfl⟩)⟩)
    · have c_16n : ¬ n.toInt ≤ ln.toInt := fun q => c_16 ((fa_le _ _).mpr q)
      refine lv_iconst (v := (-1)) hx hb dX11_end_15 (by decide) ?_
      have hw_18 : bTold T t l0 l1 d0 d1 g0 g1 ln fl pl ft fk [zO8 t a1_2 ln fl pl a2_3 a3_4 a4_5 a5_6, zAr T 1 a1_2 600 ft, zAr T 0 a2_3 3 fk, zArq T 3 a3_4 2 q1_7, zArq T 4 a4_5 2 q2_8, zArq T 5 a5_6 2 q3_9] := ⟨a1_2, a2_3, a3_4, a4_5, a5_6, q1_7, q2_8, q3_9, rfl, h_10, h_11, h_12, h_13, h_14, h_15⟩
      have G : zS T A s.heap s [[zO10 xo t im mk rd po co tr wa wb_ fi cd], [zO8 t a1_2 ln fl pl a2_3 a3_4 a4_5 a5_6, zAr T 1 a1_2 600 ft, zAr T 0 a2_3 3 fk, zArq T 3 a3_4 2 q1_7, zArq T 4 a4_5 2 q2_8, zArq T 5 a5_6 2 q3_9]] _ _ := G.re rfl
      exact z_back hQz_ (z_iret C hr hlocks G (Nat.le_of_ble_eq_true rfl) (Nat.le_of_ble_eq_true rfl) dX11_end_16 ⟨([zO8 t a1_2 ln fl pl a2_3 a3_4 a4_5 a5_6, zAr T 1 a1_2 600 ft, zAr T 0 a2_3 3 fk, zArq T 3 a3_4 2 q1_7, zArq T 4 a4_5 2 q2_8, zArq T 5 a5_6 2 q3_9]), ln, rfl, hw_18, (Or.inl ⟨by omega, by decide, rfl⟩)⟩)
set_option maxHeartbeats 4000000 in
set_option maxRecDepth 100000 in
/-- c_fault -/
theorem c_fault (l : Launch) (T : zTy) (xo : Nat) (t : Nat) (im : Nat) (mk : Nat) (rd : Nat) (po : Nat) (co : Nat) (tr : Nat) (wa : Nat) (wb_ : Nat) (fi : Nat) (cd : Nat) (l0 : Nat) (l1 : Nat) (d0 : Nat) (d1 : Nat) (g0 : Nat) (g1 : Nat) (ln : Int32) (fl : Int32) (pl : Int32) (ft : Nat → Int32) (fk : Nat → Int32) (wt : va_W) (w_ : Int32) (ht : bTold T t l0 l1 d0 d1 g0 g1 ln fl pl ft fk wt) (hK : zKT fk) : zMi l T yX11_fault cX11_fault 2 (some .int) 1 0 0 [.ref xo, .int w_] [[zO10 xo t im mk rd po co tr wa wb_ fi cd], wt] (fun (r : Int32) bs => bs = [[zO10 xo t im mk rd po co tr wa wb_ fi cd], wt] ∧ (w_.toInt = 0 ∧ r = fl ∨ w_.toInt = 1 ∧ r = pl ∨ (w_.toInt ≠ 0 ∧ w_.toInt ≠ 1) ∧ r = -1)) := by
  refine zMi_of (own := RX11) (by decide) rfl (Nat.le_of_ble_eq_true rfl) ?_
  intro p e s m args below meth c A ls C hr hlocks hnm hAe G hl
  refine zHide (fun Qz_ hQz_ => ?_)
  have hx := C.1
  have hb := C.2.1
  have hl : lv_has ls 2 [(0, .ref xo), (1, .int w_)] := hl
  refine lv_iload_n hx hb dX11_fault_0 rfl (lv_at hl 1 rfl) ?_
  refine lv_if_ne (tgt := 14) hx hb dX11_fault_1 (by decide) (fun c_1 => ?_) (fun c_1 => ?_)
  · have c_1n : ¬ w_.toInt = (0 : Int) := fun q => c_1 ((fa_eq _ _).mpr q)
    refine lv_iload_n hx hb dX11_fault_14 rfl (lv_at hl 1 rfl) ?_
    refine lv_iconst (v := 1) hx hb dX11_fault_15 (by decide) ?_
    refine lv_icmp_ne (tgt := 29) hx hb dX11_fault_16 (by decide) (fun c_2 => ?_) (fun c_2 => ?_)
    · have c_2n : ¬ w_.toInt = (1 : Int) := fun q => c_2 ((fa_eq _ _).mpr q)
      refine lv_iconst (v := (-1)) hx hb dX11_fault_29 (by decide) ?_
      exact z_back hQz_ (z_iret C hr hlocks G (Nat.le_of_ble_eq_true rfl) (Nat.le_of_ble_eq_true rfl) dX11_fault_30 ⟨rfl, (Or.inr (Or.inr ⟨by omega, rfl⟩))⟩)
    · have c_2n : w_.toInt = (1 : Int) := (fa_eq _ _).mp c_2
      refine lv_aload_n hx hb dX11_fault_19 rfl (lv_at hl 0 rfl) ?_
      refine z_get C G clX11 0 rfl 0 (by decide) m_fl_RX11_10 rfl dX11_fault_20 ?_
      refine zEx8 ht ?_
      intro a1_3 a2_4 a3_5 a4_6 a5_7 q1_8 q2_9 q3_10
      refine zCu7 ?_
      intro hbs9 h_11 h_12 h_13 h_14 h_15 h_16
      clear ht
      subst hbs9
      have G : zS T A s.heap s [[zO10 xo t im mk rd po co tr wa wb_ fi cd], [zO8 t a1_3 ln fl pl a2_4 a3_5 a4_6 a5_7], [zAr T 1 a1_3 600 ft], [zAr T 0 a2_4 3 fk], [zArq T 3 a3_5 2 q1_8], [zArq T 4 a4_6 2 q2_9], [zArq T 5 a5_7 2 q3_10]] _ _ := G.re rfl
      refine z_get C G clX9 1 rfl 3 (by decide) m_fl_RX11_88 rfl dX11_fault_23 ?_
      refine lv_goto (tgt := 30) hx hb dX11_fault_26 (by decide) ?_
      have hw_17 : bTold T t l0 l1 d0 d1 g0 g1 ln fl pl ft fk [zO8 t a1_3 ln fl pl a2_4 a3_5 a4_6 a5_7, zAr T 1 a1_3 600 ft, zAr T 0 a2_4 3 fk, zArq T 3 a3_5 2 q1_8, zArq T 4 a4_6 2 q2_9, zArq T 5 a5_7 2 q3_10] := ⟨a1_3, a2_4, a3_5, a4_6, a5_7, q1_8, q2_9, q3_10, rfl, h_11, h_12, h_13, h_14, h_15, h_16⟩
      have G : zS T A s.heap s [[zO10 xo t im mk rd po co tr wa wb_ fi cd], [zO8 t a1_3 ln fl pl a2_4 a3_5 a4_6 a5_7, zAr T 1 a1_3 600 ft, zAr T 0 a2_4 3 fk, zArq T 3 a3_5 2 q1_8, zArq T 4 a4_6 2 q2_9, zArq T 5 a5_7 2 q3_10]] _ _ := G.re rfl
      exact z_back hQz_ (z_iret C hr hlocks G (Nat.le_of_ble_eq_true rfl) (Nat.le_of_ble_eq_true rfl) dX11_fault_30 ⟨rfl, (Or.inr (Or.inl ⟨by omega, rfl⟩))⟩)
  · have c_1n : w_.toInt = (0 : Int) := (fa_eq _ _).mp c_1
    refine lv_aload_n hx hb dX11_fault_4 rfl (lv_at hl 0 rfl) ?_
    refine z_get C G clX11 0 rfl 0 (by decide) m_fl_RX11_10 rfl dX11_fault_5 ?_
    refine zEx8 ht ?_
    intro a1_18 a2_19 a3_20 a4_21 a5_22 q1_23 q2_24 q3_25
    refine zCu7 ?_
    intro hbs9 h_26 h_27 h_28 h_29 h_30 h_31
    clear ht
    subst hbs9
    have G : zS T A s.heap s [[zO10 xo t im mk rd po co tr wa wb_ fi cd], [zO8 t a1_18 ln fl pl a2_19 a3_20 a4_21 a5_22], [zAr T 1 a1_18 600 ft], [zAr T 0 a2_19 3 fk], [zArq T 3 a3_20 2 q1_23], [zArq T 4 a4_21 2 q2_24], [zArq T 5 a5_22 2 q3_25]] _ _ := G.re rfl
    refine z_get C G clX9 1 rfl 2 (by decide) m_fl_RX11_85 rfl dX11_fault_8 ?_
    refine lv_goto (tgt := 30) hx hb dX11_fault_11 (by decide) ?_
    have hw_32 : bTold T t l0 l1 d0 d1 g0 g1 ln fl pl ft fk [zO8 t a1_18 ln fl pl a2_19 a3_20 a4_21 a5_22, zAr T 1 a1_18 600 ft, zAr T 0 a2_19 3 fk, zArq T 3 a3_20 2 q1_23, zArq T 4 a4_21 2 q2_24, zArq T 5 a5_22 2 q3_25] := ⟨a1_18, a2_19, a3_20, a4_21, a5_22, q1_23, q2_24, q3_25, rfl, h_26, h_27, h_28, h_29, h_30, h_31⟩
    have G : zS T A s.heap s [[zO10 xo t im mk rd po co tr wa wb_ fi cd], [zO8 t a1_18 ln fl pl a2_19 a3_20 a4_21 a5_22, zAr T 1 a1_18 600 ft, zAr T 0 a2_19 3 fk, zArq T 3 a3_20 2 q1_23, zArq T 4 a4_21 2 q2_24, zArq T 5 a5_22 2 q3_25]] _ _ := G.re rfl
    exact z_back hQz_ (z_iret C hr hlocks G (Nat.le_of_ble_eq_true rfl) (Nat.le_of_ble_eq_true rfl) dX11_fault_30 ⟨rfl, (Or.inl ⟨by omega, rfl⟩)⟩)
set_option maxHeartbeats 4000000 in
set_option maxRecDepth 100000 in
/-- c_count -/
theorem c_count (l : Launch) (T : zTy) (xo : Nat) (t : Nat) (im : Nat) (mk : Nat) (rd : Nat) (po : Nat) (co : Nat) (tr : Nat) (wa : Nat) (wb_ : Nat) (fi : Nat) (cd : Nat) (l0 : Nat) (l1 : Nat) (d0 : Nat) (d1 : Nat) (g0 : Nat) (g1 : Nat) (ln : Int32) (fl : Int32) (pl : Int32) (ft : Nat → Int32) (fk : Nat → Int32) (wt : va_W) (w_ : Int32) (ht : bTold T t l0 l1 d0 d1 g0 g1 ln fl pl ft fk wt) (hK : zKT fk) : zMi l T yX11_count cX11_count 2 (some .int) 1 0 0 [.ref xo, .int w_] [[zO10 xo t im mk rd po co tr wa wb_ fi cd], wt] (fun (r : Int32) bs => bs = [[zO10 xo t im mk rd po co tr wa wb_ fi cd], wt]) := by
  refine zMi_of (own := RX11) (by decide) rfl (Nat.le_of_ble_eq_true rfl) ?_
  intro p e s m args below meth c A ls C hr hlocks hnm hAe G hl
  refine zHide (fun Qz_ hQz_ => ?_)
  have hx := C.1
  have hb := C.2.1
  have hl : lv_has ls 2 [(0, .ref xo), (1, .int w_)] := hl
  refine lv_iload_n hx hb dX11_count_0 rfl (lv_at hl 1 rfl) ?_
  refine lv_if_lt (tgt := 21) hx hb dX11_count_1 (by decide) (fun c_1 => ?_) (fun c_1 => ?_)
  · have c_1n : w_.toInt < (0 : Int) := (fa_lt _ _).mp c_1
    refine lv_bipush (v := (-2)) hx hb dX11_count_21 (by decide) ?_
    exact z_back hQz_ (z_iret C hr hlocks G (Nat.le_of_ble_eq_true rfl) (Nat.le_of_ble_eq_true rfl) dX11_count_23 rfl)
  · have c_1n : ¬ w_.toInt < (0 : Int) := fun q => c_1 ((fa_lt _ _).mpr q)
    refine lv_iload_n hx hb dX11_count_4 rfl (lv_at hl 1 rfl) ?_
    refine lv_iconst (v := 2) hx hb dX11_count_5 (by decide) ?_
    refine lv_icmp_gt (tgt := 21) hx hb dX11_count_6 (by decide) (fun c_2 => ?_) (fun c_2 => ?_)
    · have c_2n : (2 : Int) < w_.toInt := (fa_lt _ _).mp c_2
      refine lv_bipush (v := (-2)) hx hb dX11_count_21 (by decide) ?_
      exact z_back hQz_ (z_iret C hr hlocks G (Nat.le_of_ble_eq_true rfl) (Nat.le_of_ble_eq_true rfl) dX11_count_23 rfl)
    · have c_2n : ¬ (2 : Int) < w_.toInt := fun q => c_2 ((fa_lt _ _).mpr q)
      refine lv_aload_n hx hb dX11_count_9 rfl (lv_at hl 0 rfl) ?_
      refine z_get C G clX11 0 rfl 0 (by decide) m_fl_RX11_10 rfl dX11_count_10 ?_
      refine zEx8 ht ?_
      intro a1_3 a2_4 a3_5 a4_6 a5_7 q1_8 q2_9 q3_10
      refine zCu7 ?_
      intro hbs9 h_11 h_12 h_13 h_14 h_15 h_16
      clear ht
      subst hbs9
      have G : zS T A s.heap s [[zO10 xo t im mk rd po co tr wa wb_ fi cd], [zO8 t a1_3 ln fl pl a2_4 a3_5 a4_6 a5_7], [zAr T 1 a1_3 600 ft], [zAr T 0 a2_4 3 fk], [zArq T 3 a3_5 2 q1_8], [zArq T 4 a4_6 2 q2_9], [zArq T 5 a5_7 2 q3_10]] _ _ := G.re rfl
      refine z_get C G clX9 1 rfl 4 (by decide) m_fl_RX11_114 rfl dX11_count_13 ?_
      refine lv_iload_n hx hb dX11_count_16 rfl (lv_at hl 1 rfl) ?_
      refine z_ild C G 3 rfl (vp_in_iff.mpr ⟨by omega, by omega⟩) dX11_count_17 ?_
      refine lv_topi (fun v_17 ev_17 => ?_)
      subst ev_17
      refine lv_goto (tgt := 23) hx hb dX11_count_18 (by decide) ?_
      have hw_18 : bTold T t l0 l1 d0 d1 g0 g1 ln fl pl ft fk [zO8 t a1_3 ln fl pl a2_4 a3_5 a4_6 a5_7, zAr T 1 a1_3 600 ft, zAr T 0 a2_4 3 fk, zArq T 3 a3_5 2 q1_8, zArq T 4 a4_6 2 q2_9, zArq T 5 a5_7 2 q3_10] := ⟨a1_3, a2_4, a3_5, a4_6, a5_7, q1_8, q2_9, q3_10, rfl, h_11, h_12, h_13, h_14, h_15, h_16⟩
      have G : zS T A s.heap s [[zO10 xo t im mk rd po co tr wa wb_ fi cd], [zO8 t a1_3 ln fl pl a2_4 a3_5 a4_6 a5_7, zAr T 1 a1_3 600 ft, zAr T 0 a2_4 3 fk, zArq T 3 a3_5 2 q1_8, zArq T 4 a4_6 2 q2_9, zArq T 5 a5_7 2 q3_10]] _ _ := G.re rfl
      exact z_back hQz_ (z_iret C hr hlocks G (Nat.le_of_ble_eq_true rfl) (Nat.le_of_ble_eq_true rfl) dX11_count_23 rfl)
set_option maxHeartbeats 4000000 in
set_option maxRecDepth 100000 in
/-- c_land -/
theorem c_land (l : Launch) (T : zTy) (xo : Nat) (t : Nat) (im : Nat) (mk : Nat) (rd : Nat) (po : Nat) (co : Nat) (tr : Nat) (wa : Nat) (wb_ : Nat) (fi : Nat) (cd : Nat) (l0 : Nat) (l1 : Nat) (d0 : Nat) (d1 : Nat) (g0 : Nat) (g1 : Nat) (ln : Int32) (fl : Int32) (pl : Int32) (ft : Nat → Int32) (fk : Nat → Int32) (wt : va_W) (cr0_ : Int32) (inn0_ : Int32) (k10_ : Nat → Int32) (k20_ : Nat → Int32) (k30_ : Nat → Int32) (k40_ : Nat → Int32) (z0_ : va_W) (cr1_ : Int32) (inn1_ : Int32) (k11_ : Nat → Int32) (k21_ : Nat → Int32) (k31_ : Nat → Int32) (k41_ : Nat → Int32) (z1_ : va_W) (i1 : Int32) (w_ : Int32) (ht : bTold T t l0 l1 d0 d1 g0 g1 ln fl pl ft fk wt) (hK : zKT fk) (hz0_ : bLand T l0 cr0_ inn0_ k10_ k20_ k30_ k40_ z0_) (hI0_ : zLI cr0_ k10_ k30_) (hz1_ : bLand T l1 cr1_ inn1_ k11_ k21_ k31_ k41_ z1_) (hI1_ : zLI cr1_ k11_ k31_) : zMi l T yX11_land cX11_land 4 (some .int) 5 0 0 [.ref xo, .int i1, .int w_] [[zO10 xo t im mk rd po co tr wa wb_ fi cd], wt, z0_, z1_] (fun (r : Int32) bs => bs = [[zO10 xo t im mk rd po co tr wa wb_ fi cd], wt, z0_, z1_]) := by
  refine zMi_of (own := RX11) (by decide) rfl (Nat.le_of_ble_eq_true rfl) ?_
  intro p e s m args below meth c A ls C hr hlocks hnm hAe G hl
  refine zHide (fun Qz_ hQz_ => ?_)
  have hx := C.1
  have hb := C.2.1
  have hl : lv_has ls 4 [(0, .ref xo), (1, .int i1), (2, .int w_)] := hl
  refine lv_aload_n hx hb dX11_land_0 rfl (lv_at hl 0 rfl) ?_
  refine z_get C G clX11 0 rfl 0 (by decide) m_fl_RX11_10 rfl dX11_land_1 ?_
  refine lv_iload_n hx hb dX11_land_4 rfl (lv_at hl 1 rfl) ?_
  refine z_Vq (bc := [wt]) (br := [[zO10 xo t im mk rd po co tr wa wb_ fi cd], z0_, z1_]) (As := [.int i1]) (rest := []) C G (c_landAt l T t l0 l1 d0 d1 g0 g1 ln fl pl ft fk wt i1 ht) (kV_RX11_121 C.2.2.2.2 (Nat.le_of_ble_eq_true rfl) (Nat.le_of_ble_eq_true rfl)) [1] [1] rfl rfl (ci := 8) (qc := (RX9, TX9, 8)) rfl rfl (List.mem_flatten.mpr ⟨_, List.mem_of_getElem? (i := 0) rfl, (bTold_mem ht).choose_spec⟩) rfl rfl hl.1 dX11_land_5 (Nat.le_of_ble_eq_true rfl) (Nat.le_of_ble_eq_true rfl) (fun r_2 b1 H locs hw G => ?_)
  refine zAn2 hw ?_
  intro hbs9 hc_1
  clear hw
  subst hbs9
  have G : zS T A s.heap s [[zO10 xo t im mk rd po co tr wa wb_ fi cd], z0_, z1_, wt] _ _ := G
  rcases hc_1 with ⟨rfl, h_3⟩ | ⟨rfl, h_4, h_5⟩ | ⟨rfl, h_6, h_7⟩
  · have h_3 : (i1.toInt < 0 ∨ (fk 0).toInt ≤ i1.toInt ∨ 2 ≤ i1.toInt) := h_3
    refine lv_astore_nN (lv' := [(3, .null), (0, .ref xo), (1, .int i1), (2, .int w_)]) hx hb dX11_land_8 rfl hl (by decide) (zLvf_h rfl) (fun ls hl => ?_)
    refine lv_aload_nN hx hb dX11_land_9 rfl (lv_at hl 0 rfl) ?_
    refine lv_ifnonnullN hx hb dX11_land_10 ?_
    refine lv_iconst (v := (-1)) hx hb dX11_land_13 (by decide) ?_
    refine lv_goto (tgt := 22) hx hb dX11_land_14 (by decide) ?_
    have G := G.sub (bs' := [[zO10 xo t im mk rd po co tr wa wb_ fi cd], wt, z0_, z1_]) [0, 3, 1, 2] rfl
    exact z_back hQz_ (z_iret C hr hlocks G (Nat.le_of_ble_eq_true rfl) (Nat.le_of_ble_eq_true rfl) dX11_land_22 rfl)
  · have h_4 : i1.toInt = 0 := h_4
    have h_5 : 0 < (fk 0).toInt := h_5
    refine lv_astore_n (lv' := [(3, .ref l0), (0, .ref xo), (1, .int i1), (2, .int w_)]) hx hb dX11_land_8 rfl hl (by decide) (zLvf_h rfl) (fun ls hl => ?_)
    refine lv_aload_n hx hb dX11_land_9 rfl (lv_at hl 0 rfl) ?_
    refine lv_ifnonnull (tgt := 17) hx hb dX11_land_10 (by decide) ?_
    refine lv_aload_n hx hb dX11_land_17 rfl (lv_at hl 0 rfl) ?_
    refine lv_iload_n hx hb dX11_land_18 rfl (lv_at hl 3 rfl) ?_
    refine z_Vi (bc := [z0_]) (br := [[zO10 xo t im mk rd po co tr wa wb_ fi cd], z1_, wt]) (As := [.int w_]) (rest := []) C G (c_Land_told l T l0 cr0_ inn0_ k10_ k20_ k30_ k40_ z0_ w_ hz0_) (kV_RX11_125 C.2.2.2.2 (Nat.le_of_ble_eq_true rfl) (Nat.le_of_ble_eq_true rfl)) [1] [1] rfl rfl (ci := 4) (qc := (RX4, TX4, 6)) rfl rfl (List.mem_flatten.mpr ⟨_, List.mem_of_getElem? (i := 0) rfl, (bLand_mem hz0_).choose_spec⟩) rfl rfl hl.1 dX11_land_19 (Nat.le_of_ble_eq_true rfl) (Nat.le_of_ble_eq_true rfl) (fun r_8 b1 H locs hw G => ?_)
    obtain rfl := hw
    have G : zS T A s.heap s [[zO10 xo t im mk rd po co tr wa wb_ fi cd], z1_, wt, z0_] _ _ := G
    have G := G.sub (bs' := [[zO10 xo t im mk rd po co tr wa wb_ fi cd], wt, z0_, z1_]) [0, 2, 3, 1] rfl
    exact z_back hQz_ (z_iret C hr hlocks G (Nat.le_of_ble_eq_true rfl) (Nat.le_of_ble_eq_true rfl) dX11_land_22 rfl)
  · have h_6 : i1.toInt = 1 := h_6
    have h_7 : 1 < (fk 0).toInt := h_7
    refine lv_astore_n (lv' := [(3, .ref l1), (0, .ref xo), (1, .int i1), (2, .int w_)]) hx hb dX11_land_8 rfl hl (by decide) (zLvf_h rfl) (fun ls hl => ?_)
    refine lv_aload_n hx hb dX11_land_9 rfl (lv_at hl 0 rfl) ?_
    refine lv_ifnonnull (tgt := 17) hx hb dX11_land_10 (by decide) ?_
    refine lv_aload_n hx hb dX11_land_17 rfl (lv_at hl 0 rfl) ?_
    refine lv_iload_n hx hb dX11_land_18 rfl (lv_at hl 3 rfl) ?_
    refine z_Vi (bc := [z1_]) (br := [[zO10 xo t im mk rd po co tr wa wb_ fi cd], z0_, wt]) (As := [.int w_]) (rest := []) C G (c_Land_told l T l1 cr1_ inn1_ k11_ k21_ k31_ k41_ z1_ w_ hz1_) (kV_RX11_125 C.2.2.2.2 (Nat.le_of_ble_eq_true rfl) (Nat.le_of_ble_eq_true rfl)) [2] [2] rfl rfl (ci := 4) (qc := (RX4, TX4, 6)) rfl rfl (List.mem_flatten.mpr ⟨_, List.mem_of_getElem? (i := 0) rfl, (bLand_mem hz1_).choose_spec⟩) rfl rfl hl.1 dX11_land_19 (Nat.le_of_ble_eq_true rfl) (Nat.le_of_ble_eq_true rfl) (fun r_9 b1 H locs hw G => ?_)
    obtain rfl := hw
    have G : zS T A s.heap s [[zO10 xo t im mk rd po co tr wa wb_ fi cd], z0_, wt, z1_] _ _ := G
    have G := G.sub (bs' := [[zO10 xo t im mk rd po co tr wa wb_ fi cd], wt, z0_, z1_]) [0, 2, 1, 3] rfl
    exact z_back hQz_ (z_iret C hr hlocks G (Nat.le_of_ble_eq_true rfl) (Nat.le_of_ble_eq_true rfl) dX11_land_22 rfl)
set_option maxHeartbeats 4000000 in
set_option maxRecDepth 100000 in
/-- c_deed -/
theorem c_deed (l : Launch) (T : zTy) (xo : Nat) (t : Nat) (im : Nat) (mk : Nat) (rd : Nat) (po : Nat) (co : Nat) (tr : Nat) (wa : Nat) (wb_ : Nat) (fi : Nat) (cd : Nat) (l0 : Nat) (l1 : Nat) (d0 : Nat) (d1 : Nat) (g0 : Nat) (g1 : Nat) (ln : Int32) (fl : Int32) (pl : Int32) (ft : Nat → Int32) (fk : Nat → Int32) (wt : va_W) (dd0_ : Int32) (p10_ : Nat → Int32) (p20_ : Nat → Int32) (p30_ : Nat → Int32) (wd0_ : va_W) (dd1_ : Int32) (p11_ : Nat → Int32) (p21_ : Nat → Int32) (p31_ : Nat → Int32) (wd1_ : va_W) (i1 : Int32) (k_ : Int32) (w_ : Int32) (ht : bTold T t l0 l1 d0 d1 g0 g1 ln fl pl ft fk wt) (hK : zKT fk) (hd0_ : bDay T d0 dd0_ p10_ p20_ p30_ wd0_) (hd1_ : bDay T d1 dd1_ p11_ p21_ p31_ wd1_) : zMi l T yX11_deed cX11_deed 5 (some .int) 3 0 0 [.ref xo, .int i1, .int k_, .int w_] [[zO10 xo t im mk rd po co tr wa wb_ fi cd], wt, wd0_, wd1_] (fun (r : Int32) bs => bs = [[zO10 xo t im mk rd po co tr wa wb_ fi cd], wt, wd0_, wd1_]) := by
  refine zMi_of (own := RX11) (by decide) rfl (Nat.le_of_ble_eq_true rfl) ?_
  intro p e s m args below meth c A ls C hr hlocks hnm hAe G hl
  refine zHide (fun Qz_ hQz_ => ?_)
  have hx := C.1
  have hb := C.2.1
  have hl : lv_has ls 5 [(0, .ref xo), (1, .int i1), (2, .int k_), (3, .int w_)] := hl
  refine lv_aload_n hx hb dX11_deed_0 rfl (lv_at hl 0 rfl) ?_
  refine z_get C G clX11 0 rfl 0 (by decide) m_fl_RX11_10 rfl dX11_deed_1 ?_
  refine lv_iload_n hx hb dX11_deed_4 rfl (lv_at hl 1 rfl) ?_
  refine z_Vq (bc := [wt]) (br := [[zO10 xo t im mk rd po co tr wa wb_ fi cd], wd0_, wd1_]) (As := [.int i1]) (rest := []) C G (c_dayAt l T t l0 l1 d0 d1 g0 g1 ln fl pl ft fk wt i1 ht) (kV_RX11_130 C.2.2.2.2 (Nat.le_of_ble_eq_true rfl) (Nat.le_of_ble_eq_true rfl)) [1] [1] rfl rfl (ci := 8) (qc := (RX9, TX9, 8)) rfl rfl (List.mem_flatten.mpr ⟨_, List.mem_of_getElem? (i := 0) rfl, (bTold_mem ht).choose_spec⟩) rfl rfl hl.1 dX11_deed_5 (Nat.le_of_ble_eq_true rfl) (Nat.le_of_ble_eq_true rfl) (fun r_2 b1 H locs hw G => ?_)
  refine zAn2 hw ?_
  intro hbs9 hc_1
  clear hw
  subst hbs9
  have G : zS T A s.heap s [[zO10 xo t im mk rd po co tr wa wb_ fi cd], wd0_, wd1_, wt] _ _ := G
  rcases hc_1 with ⟨rfl, h_3⟩ | ⟨rfl, h_4, h_5⟩ | ⟨rfl, h_6, h_7⟩
  · have h_3 : (i1.toInt < 0 ∨ (fk 1).toInt ≤ i1.toInt ∨ 2 ≤ i1.toInt) := h_3
    refine lv_astoreN (lv' := [(4, .null), (0, .ref xo), (1, .int i1), (2, .int k_), (3, .int w_)]) hx hb dX11_deed_8 hl (by decide) (zLvf_h rfl) (fun ls hl => ?_)
    refine lv_aloadN hx hb dX11_deed_10 (lv_at hl 0 rfl) ?_
    refine lv_ifnonnullN hx hb dX11_deed_12 ?_
    refine lv_bipush (v := (-2)) hx hb dX11_deed_15 (by decide) ?_
    refine lv_goto (tgt := 27) hx hb dX11_deed_17 (by decide) ?_
    have G := G.sub (bs' := [[zO10 xo t im mk rd po co tr wa wb_ fi cd], wt, wd0_, wd1_]) [0, 3, 1, 2] rfl
    exact z_back hQz_ (z_iret C hr hlocks G (Nat.le_of_ble_eq_true rfl) (Nat.le_of_ble_eq_true rfl) dX11_deed_27 rfl)
  · have h_4 : i1.toInt = 0 := h_4
    have h_5 : 0 < (fk 1).toInt := h_5
    refine lv_astore (lv' := [(4, .ref d0), (0, .ref xo), (1, .int i1), (2, .int k_), (3, .int w_)]) hx hb dX11_deed_8 hl (by decide) (zLvf_h rfl) (fun ls hl => ?_)
    refine lv_aload hx hb dX11_deed_10 (lv_at hl 0 rfl) ?_
    refine lv_ifnonnull (tgt := 20) hx hb dX11_deed_12 (by decide) ?_
    refine lv_aload hx hb dX11_deed_20 (lv_at hl 0 rfl) ?_
    refine lv_iload_n hx hb dX11_deed_22 rfl (lv_at hl 3 rfl) ?_
    refine lv_iload_n hx hb dX11_deed_23 rfl (lv_at hl 4 rfl) ?_
    refine z_Vi (bc := [wd0_]) (br := [[zO10 xo t im mk rd po co tr wa wb_ fi cd], wd1_, wt]) (As := [.int k_, .int w_]) (rest := []) C G (c_Day_told l T d0 dd0_ p10_ p20_ p30_ wd0_ k_ w_ hd0_) (kV_RX11_134 C.2.2.2.2 (Nat.le_of_ble_eq_true rfl) (Nat.le_of_ble_eq_true rfl)) [1] [1] rfl rfl (ci := 2) (qc := (RX2, TX2, 4)) rfl rfl (List.mem_flatten.mpr ⟨_, List.mem_of_getElem? (i := 0) rfl, (bDay_mem hd0_).choose_spec⟩) rfl rfl hl.1 dX11_deed_24 (Nat.le_of_ble_eq_true rfl) (Nat.le_of_ble_eq_true rfl) (fun r_9 b1 H locs hw G => ?_)
    refine zAn2 hw ?_
    intro hbs9 h_8
    clear hw
    subst hbs9
    have G : zS T A s.heap s [[zO10 xo t im mk rd po co tr wa wb_ fi cd], wd1_, wt, wd0_] _ _ := G
    subst h_8
    have G := G.sub (bs' := [[zO10 xo t im mk rd po co tr wa wb_ fi cd], wt, wd0_, wd1_]) [0, 2, 3, 1] rfl
    exact z_back hQz_ (z_iret C hr hlocks G (Nat.le_of_ble_eq_true rfl) (Nat.le_of_ble_eq_true rfl) dX11_deed_27 rfl)
  · have h_6 : i1.toInt = 1 := h_6
    have h_7 : 1 < (fk 1).toInt := h_7
    refine lv_astore (lv' := [(4, .ref d1), (0, .ref xo), (1, .int i1), (2, .int k_), (3, .int w_)]) hx hb dX11_deed_8 hl (by decide) (zLvf_h rfl) (fun ls hl => ?_)
    refine lv_aload hx hb dX11_deed_10 (lv_at hl 0 rfl) ?_
    refine lv_ifnonnull (tgt := 20) hx hb dX11_deed_12 (by decide) ?_
    refine lv_aload hx hb dX11_deed_20 (lv_at hl 0 rfl) ?_
    refine lv_iload_n hx hb dX11_deed_22 rfl (lv_at hl 3 rfl) ?_
    refine lv_iload_n hx hb dX11_deed_23 rfl (lv_at hl 4 rfl) ?_
    refine z_Vi (bc := [wd1_]) (br := [[zO10 xo t im mk rd po co tr wa wb_ fi cd], wd0_, wt]) (As := [.int k_, .int w_]) (rest := []) C G (c_Day_told l T d1 dd1_ p11_ p21_ p31_ wd1_ k_ w_ hd1_) (kV_RX11_134 C.2.2.2.2 (Nat.le_of_ble_eq_true rfl) (Nat.le_of_ble_eq_true rfl)) [2] [2] rfl rfl (ci := 2) (qc := (RX2, TX2, 4)) rfl rfl (List.mem_flatten.mpr ⟨_, List.mem_of_getElem? (i := 0) rfl, (bDay_mem hd1_).choose_spec⟩) rfl rfl hl.1 dX11_deed_24 (Nat.le_of_ble_eq_true rfl) (Nat.le_of_ble_eq_true rfl) (fun r_11 b1 H locs hw G => ?_)
    refine zAn2 hw ?_
    intro hbs9 h_10
    clear hw
    subst hbs9
    have G : zS T A s.heap s [[zO10 xo t im mk rd po co tr wa wb_ fi cd], wd0_, wt, wd1_] _ _ := G
    subst h_10
    have G := G.sub (bs' := [[zO10 xo t im mk rd po co tr wa wb_ fi cd], wt, wd0_, wd1_]) [0, 2, 1, 3] rfl
    exact z_back hQz_ (z_iret C hr hlocks G (Nat.le_of_ble_eq_true rfl) (Nat.le_of_ble_eq_true rfl) dX11_deed_27 rfl)
set_option maxHeartbeats 4000000 in
set_option maxRecDepth 100000 in
/-- c_fact -/
theorem c_fact (l : Launch) (T : zTy) (xo : Nat) (t : Nat) (im : Nat) (mk : Nat) (rd : Nat) (po : Nat) (co : Nat) (tr : Nat) (wa : Nat) (wb_ : Nat) (fi : Nat) (cd : Nat) (l0 : Nat) (l1 : Nat) (d0 : Nat) (d1 : Nat) (g0 : Nat) (g1 : Nat) (ln : Int32) (fl : Int32) (pl : Int32) (ft : Nat → Int32) (fk : Nat → Int32) (wt : va_W) (gg0_ : Int32) (q10_ : Nat → Int32) (q20_ : Nat → Int32) (wg0_ : va_W) (gg1_ : Int32) (q11_ : Nat → Int32) (q21_ : Nat → Int32) (wg1_ : va_W) (i1 : Int32) (k_ : Int32) (w_ : Int32) (ht : bTold T t l0 l1 d0 d1 g0 g1 ln fl pl ft fk wt) (hK : zKT fk) (hg0_ : bLog T g0 gg0_ q10_ q20_ wg0_) (hg1_ : bLog T g1 gg1_ q11_ q21_ wg1_) : zMi l T yX11_fact cX11_fact 5 (some .int) 3 0 0 [.ref xo, .int i1, .int k_, .int w_] [[zO10 xo t im mk rd po co tr wa wb_ fi cd], wt, wg0_, wg1_] (fun (r : Int32) bs => bs = [[zO10 xo t im mk rd po co tr wa wb_ fi cd], wt, wg0_, wg1_]) := by
  refine zMi_of (own := RX11) (by decide) rfl (Nat.le_of_ble_eq_true rfl) ?_
  intro p e s m args below meth c A ls C hr hlocks hnm hAe G hl
  refine zHide (fun Qz_ hQz_ => ?_)
  have hx := C.1
  have hb := C.2.1
  have hl : lv_has ls 5 [(0, .ref xo), (1, .int i1), (2, .int k_), (3, .int w_)] := hl
  refine lv_aload_n hx hb dX11_fact_0 rfl (lv_at hl 0 rfl) ?_
  refine z_get C G clX11 0 rfl 0 (by decide) m_fl_RX11_10 rfl dX11_fact_1 ?_
  refine lv_iload_n hx hb dX11_fact_4 rfl (lv_at hl 1 rfl) ?_
  refine z_Vq (bc := [wt]) (br := [[zO10 xo t im mk rd po co tr wa wb_ fi cd], wg0_, wg1_]) (As := [.int i1]) (rest := []) C G (c_logAt l T t l0 l1 d0 d1 g0 g1 ln fl pl ft fk wt i1 ht) (kV_RX11_138 C.2.2.2.2 (Nat.le_of_ble_eq_true rfl) (Nat.le_of_ble_eq_true rfl)) [1] [1] rfl rfl (ci := 8) (qc := (RX9, TX9, 8)) rfl rfl (List.mem_flatten.mpr ⟨_, List.mem_of_getElem? (i := 0) rfl, (bTold_mem ht).choose_spec⟩) rfl rfl hl.1 dX11_fact_5 (Nat.le_of_ble_eq_true rfl) (Nat.le_of_ble_eq_true rfl) (fun r_2 b1 H locs hw G => ?_)
  refine zAn2 hw ?_
  intro hbs9 hc_1
  clear hw
  subst hbs9
  have G : zS T A s.heap s [[zO10 xo t im mk rd po co tr wa wb_ fi cd], wg0_, wg1_, wt] _ _ := G
  rcases hc_1 with ⟨rfl, h_3⟩ | ⟨rfl, h_4, h_5⟩ | ⟨rfl, h_6, h_7⟩
  · have h_3 : (i1.toInt < 0 ∨ (fk 2).toInt ≤ i1.toInt ∨ 2 ≤ i1.toInt) := h_3
    refine lv_astoreN (lv' := [(4, .null), (0, .ref xo), (1, .int i1), (2, .int k_), (3, .int w_)]) hx hb dX11_fact_8 hl (by decide) (zLvf_h rfl) (fun ls hl => ?_)
    refine lv_aloadN hx hb dX11_fact_10 (lv_at hl 0 rfl) ?_
    refine lv_ifnonnullN hx hb dX11_fact_12 ?_
    refine lv_bipush (v := (-2)) hx hb dX11_fact_15 (by decide) ?_
    refine lv_goto (tgt := 27) hx hb dX11_fact_17 (by decide) ?_
    have G := G.sub (bs' := [[zO10 xo t im mk rd po co tr wa wb_ fi cd], wt, wg0_, wg1_]) [0, 3, 1, 2] rfl
    exact z_back hQz_ (z_iret C hr hlocks G (Nat.le_of_ble_eq_true rfl) (Nat.le_of_ble_eq_true rfl) dX11_fact_27 rfl)
  · have h_4 : i1.toInt = 0 := h_4
    have h_5 : 0 < (fk 2).toInt := h_5
    refine lv_astore (lv' := [(4, .ref g0), (0, .ref xo), (1, .int i1), (2, .int k_), (3, .int w_)]) hx hb dX11_fact_8 hl (by decide) (zLvf_h rfl) (fun ls hl => ?_)
    refine lv_aload hx hb dX11_fact_10 (lv_at hl 0 rfl) ?_
    refine lv_ifnonnull (tgt := 20) hx hb dX11_fact_12 (by decide) ?_
    refine lv_aload hx hb dX11_fact_20 (lv_at hl 0 rfl) ?_
    refine lv_iload_n hx hb dX11_fact_22 rfl (lv_at hl 3 rfl) ?_
    refine lv_iload_n hx hb dX11_fact_23 rfl (lv_at hl 4 rfl) ?_
    refine z_Vi (bc := [wg0_]) (br := [[zO10 xo t im mk rd po co tr wa wb_ fi cd], wg1_, wt]) (As := [.int k_, .int w_]) (rest := []) C G (c_Log_told l T g0 gg0_ q10_ q20_ wg0_ k_ w_ hg0_) (kV_RX11_142 C.2.2.2.2 (Nat.le_of_ble_eq_true rfl) (Nat.le_of_ble_eq_true rfl)) [1] [1] rfl rfl (ci := 5) (qc := (RX5, TX5, 3)) rfl rfl (List.mem_flatten.mpr ⟨_, List.mem_of_getElem? (i := 0) rfl, (bLog_mem hg0_).choose_spec⟩) rfl rfl hl.1 dX11_fact_24 (Nat.le_of_ble_eq_true rfl) (Nat.le_of_ble_eq_true rfl) (fun r_9 b1 H locs hw G => ?_)
    refine zAn2 hw ?_
    intro hbs9 h_8
    clear hw
    subst hbs9
    have G : zS T A s.heap s [[zO10 xo t im mk rd po co tr wa wb_ fi cd], wg1_, wt, wg0_] _ _ := G
    subst h_8
    have G := G.sub (bs' := [[zO10 xo t im mk rd po co tr wa wb_ fi cd], wt, wg0_, wg1_]) [0, 2, 3, 1] rfl
    exact z_back hQz_ (z_iret C hr hlocks G (Nat.le_of_ble_eq_true rfl) (Nat.le_of_ble_eq_true rfl) dX11_fact_27 rfl)
  · have h_6 : i1.toInt = 1 := h_6
    have h_7 : 1 < (fk 2).toInt := h_7
    refine lv_astore (lv' := [(4, .ref g1), (0, .ref xo), (1, .int i1), (2, .int k_), (3, .int w_)]) hx hb dX11_fact_8 hl (by decide) (zLvf_h rfl) (fun ls hl => ?_)
    refine lv_aload hx hb dX11_fact_10 (lv_at hl 0 rfl) ?_
    refine lv_ifnonnull (tgt := 20) hx hb dX11_fact_12 (by decide) ?_
    refine lv_aload hx hb dX11_fact_20 (lv_at hl 0 rfl) ?_
    refine lv_iload_n hx hb dX11_fact_22 rfl (lv_at hl 3 rfl) ?_
    refine lv_iload_n hx hb dX11_fact_23 rfl (lv_at hl 4 rfl) ?_
    refine z_Vi (bc := [wg1_]) (br := [[zO10 xo t im mk rd po co tr wa wb_ fi cd], wg0_, wt]) (As := [.int k_, .int w_]) (rest := []) C G (c_Log_told l T g1 gg1_ q11_ q21_ wg1_ k_ w_ hg1_) (kV_RX11_142 C.2.2.2.2 (Nat.le_of_ble_eq_true rfl) (Nat.le_of_ble_eq_true rfl)) [2] [2] rfl rfl (ci := 5) (qc := (RX5, TX5, 3)) rfl rfl (List.mem_flatten.mpr ⟨_, List.mem_of_getElem? (i := 0) rfl, (bLog_mem hg1_).choose_spec⟩) rfl rfl hl.1 dX11_fact_24 (Nat.le_of_ble_eq_true rfl) (Nat.le_of_ble_eq_true rfl) (fun r_11 b1 H locs hw G => ?_)
    refine zAn2 hw ?_
    intro hbs9 h_10
    clear hw
    subst hbs9
    have G : zS T A s.heap s [[zO10 xo t im mk rd po co tr wa wb_ fi cd], wg0_, wt, wg1_] _ _ := G
    subst h_10
    have G := G.sub (bs' := [[zO10 xo t im mk rd po co tr wa wb_ fi cd], wt, wg0_, wg1_]) [0, 2, 1, 3] rfl
    exact z_back hQz_ (z_iret C hr hlocks G (Nat.le_of_ble_eq_true rfl) (Nat.le_of_ble_eq_true rfl) dX11_fact_27 rfl)
set_option maxHeartbeats 4000000 in
set_option maxRecDepth 100000 in
/-- c_far -/
theorem c_far (l : Launch) (T : zTy) (xo : Nat) (t : Nat) (im : Nat) (mk : Nat) (rd : Nat) (po : Nat) (co : Nat) (tr : Nat) (wa : Nat) (wb_ : Nat) (fi : Nat) (cd : Nat) (l0 : Nat) (l1 : Nat) (d0 : Nat) (d1 : Nat) (g0 : Nat) (g1 : Nat) (ln : Int32) (fl : Int32) (pl : Int32) (ft : Nat → Int32) (fk : Nat → Int32) (wt : va_W) (cr0_ : Int32) (inn0_ : Int32) (k10_ : Nat → Int32) (k20_ : Nat → Int32) (k30_ : Nat → Int32) (k40_ : Nat → Int32) (z0_ : va_W) (cr1_ : Int32) (inn1_ : Int32) (k11_ : Nat → Int32) (k21_ : Nat → Int32) (k31_ : Nat → Int32) (k41_ : Nat → Int32) (z1_ : va_W) (i1 : Int32) (a_ : Int32) (b_ : Int32) (ht : bTold T t l0 l1 d0 d1 g0 g1 ln fl pl ft fk wt) (hK : zKT fk) (hz0_ : bLand T l0 cr0_ inn0_ k10_ k20_ k30_ k40_ z0_) (hI0_ : zLI cr0_ k10_ k30_) (hz1_ : bLand T l1 cr1_ inn1_ k11_ k21_ k31_ k41_ z1_) (hI1_ : zLI cr1_ k11_ k31_) : zMi l T yX11_far cX11_far 5 (some .int) 5 0 0 [.ref xo, .int i1, .int a_, .int b_] [[zO10 xo t im mk rd po co tr wa wb_ fi cd], wt, z0_, z1_] (fun (r : Int32) bs => bs = [[zO10 xo t im mk rd po co tr wa wb_ fi cd], wt, z0_, z1_]) := by
  refine zMi_of (own := RX11) (by decide) rfl (Nat.le_of_ble_eq_true rfl) ?_
  intro p e s m args below meth c A ls C hr hlocks hnm hAe G hl
  refine zHide (fun Qz_ hQz_ => ?_)
  have hx := C.1
  have hb := C.2.1
  have hl : lv_has ls 5 [(0, .ref xo), (1, .int i1), (2, .int a_), (3, .int b_)] := hl
  refine lv_aload_n hx hb dX11_far_0 rfl (lv_at hl 0 rfl) ?_
  refine z_get C G clX11 0 rfl 0 (by decide) m_fl_RX11_10 rfl dX11_far_1 ?_
  refine lv_iload_n hx hb dX11_far_4 rfl (lv_at hl 1 rfl) ?_
  refine z_Vq (bc := [wt]) (br := [[zO10 xo t im mk rd po co tr wa wb_ fi cd], z0_, z1_]) (As := [.int i1]) (rest := []) C G (c_landAt l T t l0 l1 d0 d1 g0 g1 ln fl pl ft fk wt i1 ht) (kV_RX11_121 C.2.2.2.2 (Nat.le_of_ble_eq_true rfl) (Nat.le_of_ble_eq_true rfl)) [1] [1] rfl rfl (ci := 8) (qc := (RX9, TX9, 8)) rfl rfl (List.mem_flatten.mpr ⟨_, List.mem_of_getElem? (i := 0) rfl, (bTold_mem ht).choose_spec⟩) rfl rfl hl.1 dX11_far_5 (Nat.le_of_ble_eq_true rfl) (Nat.le_of_ble_eq_true rfl) (fun r_2 b1 H locs hw G => ?_)
  refine zAn2 hw ?_
  intro hbs9 hc_1
  clear hw
  subst hbs9
  have G : zS T A s.heap s [[zO10 xo t im mk rd po co tr wa wb_ fi cd], z0_, z1_, wt] _ _ := G
  rcases hc_1 with ⟨rfl, h_3⟩ | ⟨rfl, h_4, h_5⟩ | ⟨rfl, h_6, h_7⟩
  · have h_3 : (i1.toInt < 0 ∨ (fk 0).toInt ≤ i1.toInt ∨ 2 ≤ i1.toInt) := h_3
    refine lv_astoreN (lv' := [(4, .null), (0, .ref xo), (1, .int i1), (2, .int a_), (3, .int b_)]) hx hb dX11_far_8 hl (by decide) (zLvf_h rfl) (fun ls hl => ?_)
    refine lv_aloadN hx hb dX11_far_10 (lv_at hl 0 rfl) ?_
    refine lv_ifnullN (tgt := 33) hx hb dX11_far_12 (by decide) ?_
    refine lv_iconst (v := (-1)) hx hb dX11_far_33 (by decide) ?_
    refine lv_goto (tgt := 44) hx hb dX11_far_34 (by decide) ?_
    have G := G.sub (bs' := [[zO10 xo t im mk rd po co tr wa wb_ fi cd], wt, z0_, z1_]) [0, 3, 1, 2] rfl
    exact z_back hQz_ (z_iret C hr hlocks G (Nat.le_of_ble_eq_true rfl) (Nat.le_of_ble_eq_true rfl) dX11_far_44 rfl)
  · have h_4 : i1.toInt = 0 := h_4
    have h_5 : 0 < (fk 0).toInt := h_5
    refine lv_astore (lv' := [(4, .ref l0), (0, .ref xo), (1, .int i1), (2, .int a_), (3, .int b_)]) hx hb dX11_far_8 hl (by decide) (zLvf_h rfl) (fun ls hl => ?_)
    refine lv_aload hx hb dX11_far_10 (lv_at hl 0 rfl) ?_
    refine lv_ifnull hx hb dX11_far_12 ?_
    refine lv_aload hx hb dX11_far_15 (lv_at hl 0 rfl) ?_
    refine lv_iload_n hx hb dX11_far_17 rfl (lv_at hl 3 rfl) ?_
    refine z_Vi (bc := [z0_]) (br := [[zO10 xo t im mk rd po co tr wa wb_ fi cd], z1_, wt]) (As := [.int a_]) (rest := []) C G (c_has l T l0 cr0_ inn0_ k10_ k20_ k30_ k40_ z0_ a_ hz0_) (kV_RX11_160 C.2.2.2.2 (Nat.le_of_ble_eq_true rfl) (Nat.le_of_ble_eq_true rfl)) [1] [1] rfl rfl (ci := 4) (qc := (RX4, TX4, 6)) rfl rfl (List.mem_flatten.mpr ⟨_, List.mem_of_getElem? (i := 0) rfl, (bLand_mem hz0_).choose_spec⟩) rfl rfl hl.1 dX11_far_18 (Nat.le_of_ble_eq_true rfl) (Nat.le_of_ble_eq_true rfl) (fun r_9 b1 H locs hw G => ?_)
    refine zAn2 hw ?_
    intro hbs9 hc_8
    clear hw
    subst hbs9
    have G : zS T A s.heap s [[zO10 xo t im mk rd po co tr wa wb_ fi cd], z1_, wt, z0_] _ _ := G
    rcases hc_8 with ⟨rfl, h_10, h_11, h_12⟩ | ⟨rfl, h_13⟩
    · have h_10 : 0 ≤ a_.toInt := h_10
      have h_11 : a_.toInt < cr0_.toInt := h_11
      have h_12 : a_.toInt < 7 := h_12
      refine lv_if_eq (tgt := 33) hx hb dX11_far_21 (by decide) (fun q => absurd q (by decide)) (fun _ => ?_)
      refine lv_aload hx hb dX11_far_24 (lv_at hl 0 rfl) ?_
      refine lv_iload_n hx hb dX11_far_26 rfl (lv_at hl 4 rfl) ?_
      refine z_Vi (bc := [z0_]) (br := [[zO10 xo t im mk rd po co tr wa wb_ fi cd], z1_, wt]) (As := [.int b_]) (rest := []) C G (c_has l T l0 cr0_ inn0_ k10_ k20_ k30_ k40_ z0_ b_ hz0_) (kV_RX11_160 C.2.2.2.2 (Nat.le_of_ble_eq_true rfl) (Nat.le_of_ble_eq_true rfl)) [3] [3] rfl rfl (ci := 4) (qc := (RX4, TX4, 6)) rfl rfl (List.mem_flatten.mpr ⟨_, List.mem_of_getElem? (i := 0) rfl, (bLand_mem hz0_).choose_spec⟩) rfl rfl hl.1 dX11_far_27 (Nat.le_of_ble_eq_true rfl) (Nat.le_of_ble_eq_true rfl) (fun r_15 b1 H locs hw G => ?_)
      refine zAn2 hw ?_
      intro hbs9 hc_14
      clear hw
      subst hbs9
      have G : zS T A s.heap s [[zO10 xo t im mk rd po co tr wa wb_ fi cd], z1_, wt, z0_] _ _ := G
      rcases hc_14 with ⟨rfl, h_16, h_17, h_18⟩ | ⟨rfl, h_19⟩
      · have h_16 : 0 ≤ b_.toInt := h_16
        have h_17 : b_.toInt < cr0_.toInt := h_17
        have h_18 : b_.toInt < 7 := h_18
        refine lv_if_ne (tgt := 37) hx hb dX11_far_30 (by decide) (fun _ => ?_) (fun q => absurd q (by decide))
        refine lv_aload hx hb dX11_far_37 (lv_at hl 0 rfl) ?_
        refine lv_iload_n hx hb dX11_far_39 rfl (lv_at hl 3 rfl) ?_
        refine lv_iload_n hx hb dX11_far_40 rfl (lv_at hl 4 rfl) ?_
        refine z_Si (bc := [z0_]) (br := [[zO10 xo t im mk rd po co tr wa wb_ fi cd], z1_, wt]) (As := [.ref l0, .int a_, .int b_]) (rest := []) C G (c_distance l T l0 cr0_ inn0_ k10_ k20_ k30_ k40_ z0_ a_ b_ hz0_ (by first | with_reducible assumption | with_reducible rfl | omega | assumption | rfl)) (kS_RX11_330 C.2.2.2.2 (Nat.le_of_ble_eq_true rfl) (Nat.le_of_ble_eq_true rfl)) [3] [3] rfl rfl rfl rfl hl.1 dX11_far_41 (Nat.le_of_ble_eq_true rfl) (Nat.le_of_ble_eq_true rfl) (fun r_20 b1 H locs hw G => ?_)
        obtain rfl := hw
        have G : zS T A s.heap s [[zO10 xo t im mk rd po co tr wa wb_ fi cd], z1_, wt, z0_] _ _ := G
        have G := G.sub (bs' := [[zO10 xo t im mk rd po co tr wa wb_ fi cd], wt, z0_, z1_]) [0, 2, 3, 1] rfl
        exact z_back hQz_ (z_iret C hr hlocks G (Nat.le_of_ble_eq_true rfl) (Nat.le_of_ble_eq_true rfl) dX11_far_44 rfl)
      · have h_19 : (b_.toInt < 0 ∨ cr0_.toInt ≤ b_.toInt ∨ 7 ≤ b_.toInt) := h_19
        refine lv_if_ne (tgt := 37) hx hb dX11_far_30 (by decide) (fun q => absurd (by decide) q) (fun _ => ?_)
        refine lv_iconst (v := (-1)) hx hb dX11_far_33 (by decide) ?_
        refine lv_goto (tgt := 44) hx hb dX11_far_34 (by decide) ?_
        have G := G.sub (bs' := [[zO10 xo t im mk rd po co tr wa wb_ fi cd], wt, z0_, z1_]) [0, 2, 3, 1] rfl
        exact z_back hQz_ (z_iret C hr hlocks G (Nat.le_of_ble_eq_true rfl) (Nat.le_of_ble_eq_true rfl) dX11_far_44 rfl)
    · have h_13 : (a_.toInt < 0 ∨ cr0_.toInt ≤ a_.toInt ∨ 7 ≤ a_.toInt) := h_13
      refine lv_if_eq (tgt := 33) hx hb dX11_far_21 (by decide) (fun _ => ?_) (fun q => absurd (by decide) q)
      refine lv_iconst (v := (-1)) hx hb dX11_far_33 (by decide) ?_
      refine lv_goto (tgt := 44) hx hb dX11_far_34 (by decide) ?_
      have G := G.sub (bs' := [[zO10 xo t im mk rd po co tr wa wb_ fi cd], wt, z0_, z1_]) [0, 2, 3, 1] rfl
      exact z_back hQz_ (z_iret C hr hlocks G (Nat.le_of_ble_eq_true rfl) (Nat.le_of_ble_eq_true rfl) dX11_far_44 rfl)
  · have h_6 : i1.toInt = 1 := h_6
    have h_7 : 1 < (fk 0).toInt := h_7
    refine lv_astore (lv' := [(4, .ref l1), (0, .ref xo), (1, .int i1), (2, .int a_), (3, .int b_)]) hx hb dX11_far_8 hl (by decide) (zLvf_h rfl) (fun ls hl => ?_)
    refine lv_aload hx hb dX11_far_10 (lv_at hl 0 rfl) ?_
    refine lv_ifnull hx hb dX11_far_12 ?_
    refine lv_aload hx hb dX11_far_15 (lv_at hl 0 rfl) ?_
    refine lv_iload_n hx hb dX11_far_17 rfl (lv_at hl 3 rfl) ?_
    refine z_Vi (bc := [z1_]) (br := [[zO10 xo t im mk rd po co tr wa wb_ fi cd], z0_, wt]) (As := [.int a_]) (rest := []) C G (c_has l T l1 cr1_ inn1_ k11_ k21_ k31_ k41_ z1_ a_ hz1_) (kV_RX11_160 C.2.2.2.2 (Nat.le_of_ble_eq_true rfl) (Nat.le_of_ble_eq_true rfl)) [2] [2] rfl rfl (ci := 4) (qc := (RX4, TX4, 6)) rfl rfl (List.mem_flatten.mpr ⟨_, List.mem_of_getElem? (i := 0) rfl, (bLand_mem hz1_).choose_spec⟩) rfl rfl hl.1 dX11_far_18 (Nat.le_of_ble_eq_true rfl) (Nat.le_of_ble_eq_true rfl) (fun r_22 b1 H locs hw G => ?_)
    refine zAn2 hw ?_
    intro hbs9 hc_21
    clear hw
    subst hbs9
    have G : zS T A s.heap s [[zO10 xo t im mk rd po co tr wa wb_ fi cd], z0_, wt, z1_] _ _ := G
    rcases hc_21 with ⟨rfl, h_23, h_24, h_25⟩ | ⟨rfl, h_26⟩
    · have h_23 : 0 ≤ a_.toInt := h_23
      have h_24 : a_.toInt < cr1_.toInt := h_24
      have h_25 : a_.toInt < 7 := h_25
      refine lv_if_eq (tgt := 33) hx hb dX11_far_21 (by decide) (fun q => absurd q (by decide)) (fun _ => ?_)
      refine lv_aload hx hb dX11_far_24 (lv_at hl 0 rfl) ?_
      refine lv_iload_n hx hb dX11_far_26 rfl (lv_at hl 4 rfl) ?_
      refine z_Vi (bc := [z1_]) (br := [[zO10 xo t im mk rd po co tr wa wb_ fi cd], z0_, wt]) (As := [.int b_]) (rest := []) C G (c_has l T l1 cr1_ inn1_ k11_ k21_ k31_ k41_ z1_ b_ hz1_) (kV_RX11_160 C.2.2.2.2 (Nat.le_of_ble_eq_true rfl) (Nat.le_of_ble_eq_true rfl)) [3] [3] rfl rfl (ci := 4) (qc := (RX4, TX4, 6)) rfl rfl (List.mem_flatten.mpr ⟨_, List.mem_of_getElem? (i := 0) rfl, (bLand_mem hz1_).choose_spec⟩) rfl rfl hl.1 dX11_far_27 (Nat.le_of_ble_eq_true rfl) (Nat.le_of_ble_eq_true rfl) (fun r_28 b1 H locs hw G => ?_)
      refine zAn2 hw ?_
      intro hbs9 hc_27
      clear hw
      subst hbs9
      have G : zS T A s.heap s [[zO10 xo t im mk rd po co tr wa wb_ fi cd], z0_, wt, z1_] _ _ := G
      rcases hc_27 with ⟨rfl, h_29, h_30, h_31⟩ | ⟨rfl, h_32⟩
      · have h_29 : 0 ≤ b_.toInt := h_29
        have h_30 : b_.toInt < cr1_.toInt := h_30
        have h_31 : b_.toInt < 7 := h_31
        refine lv_if_ne (tgt := 37) hx hb dX11_far_30 (by decide) (fun _ => ?_) (fun q => absurd q (by decide))
        refine lv_aload hx hb dX11_far_37 (lv_at hl 0 rfl) ?_
        refine lv_iload_n hx hb dX11_far_39 rfl (lv_at hl 3 rfl) ?_
        refine lv_iload_n hx hb dX11_far_40 rfl (lv_at hl 4 rfl) ?_
        refine z_Si (bc := [z1_]) (br := [[zO10 xo t im mk rd po co tr wa wb_ fi cd], z0_, wt]) (As := [.ref l1, .int a_, .int b_]) (rest := []) C G (c_distance l T l1 cr1_ inn1_ k11_ k21_ k31_ k41_ z1_ a_ b_ hz1_ (by first | with_reducible assumption | with_reducible rfl | omega | assumption | rfl)) (kS_RX11_330 C.2.2.2.2 (Nat.le_of_ble_eq_true rfl) (Nat.le_of_ble_eq_true rfl)) [3] [3] rfl rfl rfl rfl hl.1 dX11_far_41 (Nat.le_of_ble_eq_true rfl) (Nat.le_of_ble_eq_true rfl) (fun r_33 b1 H locs hw G => ?_)
        obtain rfl := hw
        have G : zS T A s.heap s [[zO10 xo t im mk rd po co tr wa wb_ fi cd], z0_, wt, z1_] _ _ := G
        have G := G.sub (bs' := [[zO10 xo t im mk rd po co tr wa wb_ fi cd], wt, z0_, z1_]) [0, 2, 1, 3] rfl
        exact z_back hQz_ (z_iret C hr hlocks G (Nat.le_of_ble_eq_true rfl) (Nat.le_of_ble_eq_true rfl) dX11_far_44 rfl)
      · have h_32 : (b_.toInt < 0 ∨ cr1_.toInt ≤ b_.toInt ∨ 7 ≤ b_.toInt) := h_32
        refine lv_if_ne (tgt := 37) hx hb dX11_far_30 (by decide) (fun q => absurd (by decide) q) (fun _ => ?_)
        refine lv_iconst (v := (-1)) hx hb dX11_far_33 (by decide) ?_
        refine lv_goto (tgt := 44) hx hb dX11_far_34 (by decide) ?_
        have G := G.sub (bs' := [[zO10 xo t im mk rd po co tr wa wb_ fi cd], wt, z0_, z1_]) [0, 2, 1, 3] rfl
        exact z_back hQz_ (z_iret C hr hlocks G (Nat.le_of_ble_eq_true rfl) (Nat.le_of_ble_eq_true rfl) dX11_far_44 rfl)
    · have h_26 : (a_.toInt < 0 ∨ cr1_.toInt ≤ a_.toInt ∨ 7 ≤ a_.toInt) := h_26
      refine lv_if_eq (tgt := 33) hx hb dX11_far_21 (by decide) (fun _ => ?_) (fun q => absurd (by decide) q)
      refine lv_iconst (v := (-1)) hx hb dX11_far_33 (by decide) ?_
      refine lv_goto (tgt := 44) hx hb dX11_far_34 (by decide) ?_
      have G := G.sub (bs' := [[zO10 xo t im mk rd po co tr wa wb_ fi cd], wt, z0_, z1_]) [0, 2, 1, 3] rfl
      exact z_back hQz_ (z_iret C hr hlocks G (Nat.le_of_ble_eq_true rfl) (Nat.le_of_ble_eq_true rfl) dX11_far_44 rfl)
set_option maxHeartbeats 4000000 in
set_option maxRecDepth 100000 in
/-- c_reach -/
theorem c_reach (l : Launch) (T : zTy) (xo : Nat) (t : Nat) (im : Nat) (mk : Nat) (rd : Nat) (po : Nat) (co : Nat) (tr : Nat) (wa : Nat) (wb_ : Nat) (fi : Nat) (cd : Nat) (l0 : Nat) (l1 : Nat) (d0 : Nat) (d1 : Nat) (g0 : Nat) (g1 : Nat) (ln : Int32) (fl : Int32) (pl : Int32) (ft : Nat → Int32) (fk : Nat → Int32) (wt : va_W) (cr0_ : Int32) (inn0_ : Int32) (k10_ : Nat → Int32) (k20_ : Nat → Int32) (k30_ : Nat → Int32) (k40_ : Nat → Int32) (z0_ : va_W) (cr1_ : Int32) (inn1_ : Int32) (k11_ : Nat → Int32) (k21_ : Nat → Int32) (k31_ : Nat → Int32) (k41_ : Nat → Int32) (z1_ : va_W) (i1 : Int32) (a_ : Int32) (w_ : Int32) (ht : bTold T t l0 l1 d0 d1 g0 g1 ln fl pl ft fk wt) (hK : zKT fk) (hz0_ : bLand T l0 cr0_ inn0_ k10_ k20_ k30_ k40_ z0_) (hI0_ : zLI cr0_ k10_ k30_) (hz1_ : bLand T l1 cr1_ inn1_ k11_ k21_ k31_ k41_ z1_) (hI1_ : zLI cr1_ k11_ k31_) : zMi l T yX11_reach cX11_reach 5 (some .int) 5 0 0 [.ref xo, .int i1, .int a_, .int w_] [[zO10 xo t im mk rd po co tr wa wb_ fi cd], wt, z0_, z1_] (fun (r : Int32) bs => bs = [[zO10 xo t im mk rd po co tr wa wb_ fi cd], wt, z0_, z1_]) := by
  refine zMi_of (own := RX11) (by decide) rfl (Nat.le_of_ble_eq_true rfl) ?_
  intro p e s m args below meth c A ls C hr hlocks hnm hAe G hl
  refine zHide (fun Qz_ hQz_ => ?_)
  have hx := C.1
  have hb := C.2.1
  have hl : lv_has ls 5 [(0, .ref xo), (1, .int i1), (2, .int a_), (3, .int w_)] := hl
  refine lv_aload_n hx hb dX11_reach_0 rfl (lv_at hl 0 rfl) ?_
  refine z_get C G clX11 0 rfl 0 (by decide) m_fl_RX11_10 rfl dX11_reach_1 ?_
  refine lv_iload_n hx hb dX11_reach_4 rfl (lv_at hl 1 rfl) ?_
  refine z_Vq (bc := [wt]) (br := [[zO10 xo t im mk rd po co tr wa wb_ fi cd], z0_, z1_]) (As := [.int i1]) (rest := []) C G (c_landAt l T t l0 l1 d0 d1 g0 g1 ln fl pl ft fk wt i1 ht) (kV_RX11_121 C.2.2.2.2 (Nat.le_of_ble_eq_true rfl) (Nat.le_of_ble_eq_true rfl)) [1] [1] rfl rfl (ci := 8) (qc := (RX9, TX9, 8)) rfl rfl (List.mem_flatten.mpr ⟨_, List.mem_of_getElem? (i := 0) rfl, (bTold_mem ht).choose_spec⟩) rfl rfl hl.1 dX11_reach_5 (Nat.le_of_ble_eq_true rfl) (Nat.le_of_ble_eq_true rfl) (fun r_2 b1 H locs hw G => ?_)
  refine zAn2 hw ?_
  intro hbs9 hc_1
  clear hw
  subst hbs9
  have G : zS T A s.heap s [[zO10 xo t im mk rd po co tr wa wb_ fi cd], z0_, z1_, wt] _ _ := G
  rcases hc_1 with ⟨rfl, h_3⟩ | ⟨rfl, h_4, h_5⟩ | ⟨rfl, h_6, h_7⟩
  · have h_3 : (i1.toInt < 0 ∨ (fk 0).toInt ≤ i1.toInt ∨ 2 ≤ i1.toInt) := h_3
    refine lv_astoreN (lv' := [(4, .null), (0, .ref xo), (1, .int i1), (2, .int a_), (3, .int w_)]) hx hb dX11_reach_8 hl (by decide) (zLvf_h rfl) (fun ls hl => ?_)
    refine lv_aloadN hx hb dX11_reach_10 (lv_at hl 0 rfl) ?_
    refine lv_ifnullN (tgt := 33) hx hb dX11_reach_12 (by decide) ?_
    refine lv_bipush (v := (-2)) hx hb dX11_reach_33 (by decide) ?_
    have G := G.sub (bs' := [[zO10 xo t im mk rd po co tr wa wb_ fi cd], wt, z0_, z1_]) [0, 3, 1, 2] rfl
    exact z_back hQz_ (z_iret C hr hlocks G (Nat.le_of_ble_eq_true rfl) (Nat.le_of_ble_eq_true rfl) dX11_reach_35 rfl)
  · have h_4 : i1.toInt = 0 := h_4
    have h_5 : 0 < (fk 0).toInt := h_5
    refine lv_astore (lv' := [(4, .ref l0), (0, .ref xo), (1, .int i1), (2, .int a_), (3, .int w_)]) hx hb dX11_reach_8 hl (by decide) (zLvf_h rfl) (fun ls hl => ?_)
    refine lv_aload hx hb dX11_reach_10 (lv_at hl 0 rfl) ?_
    refine lv_ifnull hx hb dX11_reach_12 ?_
    refine lv_aload hx hb dX11_reach_15 (lv_at hl 0 rfl) ?_
    refine lv_iload_n hx hb dX11_reach_17 rfl (lv_at hl 3 rfl) ?_
    refine z_Vi (bc := [z0_]) (br := [[zO10 xo t im mk rd po co tr wa wb_ fi cd], z1_, wt]) (As := [.int a_]) (rest := []) C G (c_has l T l0 cr0_ inn0_ k10_ k20_ k30_ k40_ z0_ a_ hz0_) (kV_RX11_160 C.2.2.2.2 (Nat.le_of_ble_eq_true rfl) (Nat.le_of_ble_eq_true rfl)) [1] [1] rfl rfl (ci := 4) (qc := (RX4, TX4, 6)) rfl rfl (List.mem_flatten.mpr ⟨_, List.mem_of_getElem? (i := 0) rfl, (bLand_mem hz0_).choose_spec⟩) rfl rfl hl.1 dX11_reach_18 (Nat.le_of_ble_eq_true rfl) (Nat.le_of_ble_eq_true rfl) (fun r_9 b1 H locs hw G => ?_)
    refine zAn2 hw ?_
    intro hbs9 hc_8
    clear hw
    subst hbs9
    have G : zS T A s.heap s [[zO10 xo t im mk rd po co tr wa wb_ fi cd], z1_, wt, z0_] _ _ := G
    rcases hc_8 with ⟨rfl, h_10, h_11, h_12⟩ | ⟨rfl, h_13⟩
    · have h_10 : 0 ≤ a_.toInt := h_10
      have h_11 : a_.toInt < cr0_.toInt := h_11
      have h_12 : a_.toInt < 7 := h_12
      refine lv_if_eq (tgt := 33) hx hb dX11_reach_21 (by decide) (fun q => absurd q (by decide)) (fun _ => ?_)
      refine lv_iload_n hx hb dX11_reach_24 rfl (lv_at hl 4 rfl) ?_
      refine lv_if_lt (tgt := 33) hx hb dX11_reach_25 (by decide) (fun c_14 => ?_) (fun c_14 => ?_)
      · have c_14n : w_.toInt < (0 : Int) := (fa_lt _ _).mp c_14
        refine lv_bipush (v := (-2)) hx hb dX11_reach_33 (by decide) ?_
        have G := G.sub (bs' := [[zO10 xo t im mk rd po co tr wa wb_ fi cd], wt, z0_, z1_]) [0, 2, 3, 1] rfl
        exact z_back hQz_ (z_iret C hr hlocks G (Nat.le_of_ble_eq_true rfl) (Nat.le_of_ble_eq_true rfl) dX11_reach_35 rfl)
      · have c_14n : ¬ w_.toInt < (0 : Int) := fun q => c_14 ((fa_lt _ _).mpr q)
        refine lv_iload_n hx hb dX11_reach_28 rfl (lv_at hl 4 rfl) ?_
        refine lv_iconst (v := 1) hx hb dX11_reach_29 (by decide) ?_
        refine lv_icmp_le (tgt := 36) hx hb dX11_reach_30 (by decide) (fun c_15 => ?_) (fun c_15 => ?_)
        · have c_15n : w_.toInt ≤ (1 : Int) := (fa_le _ _).mp c_15
          refine lv_iload_n hx hb dX11_reach_36 rfl (lv_at hl 4 rfl) ?_
          refine lv_if_ne (tgt := 49) hx hb dX11_reach_37 (by decide) (fun c_16 => ?_) (fun c_16 => ?_)
          · have c_16n : ¬ w_.toInt = (0 : Int) := fun q => c_16 ((fa_eq _ _).mpr q)
            refine lv_aload hx hb dX11_reach_49 (lv_at hl 0 rfl) ?_
            refine lv_iload_n hx hb dX11_reach_51 rfl (lv_at hl 3 rfl) ?_
            refine z_Si (bc := [z0_]) (br := [[zO10 xo t im mk rd po co tr wa wb_ fi cd], z1_, wt]) (As := [.ref l0, .int a_]) (rest := []) C G (c_nearest l T l0 cr0_ inn0_ k10_ k20_ k30_ k40_ z0_ a_ hz0_ (by first | with_reducible assumption | with_reducible rfl | omega | assumption | rfl)) (kS_RX11_340 C.2.2.2.2 (Nat.le_of_ble_eq_true rfl) (Nat.le_of_ble_eq_true rfl)) [3] [3] rfl rfl rfl rfl hl.1 dX11_reach_52 (Nat.le_of_ble_eq_true rfl) (Nat.le_of_ble_eq_true rfl) (fun r_17 b1 H locs hw G => ?_)
            obtain rfl := hw
            have G : zS T A s.heap s [[zO10 xo t im mk rd po co tr wa wb_ fi cd], z1_, wt, z0_] _ _ := G
            have G := G.sub (bs' := [[zO10 xo t im mk rd po co tr wa wb_ fi cd], wt, z0_, z1_]) [0, 2, 3, 1] rfl
            exact z_back hQz_ (z_iret C hr hlocks G (Nat.le_of_ble_eq_true rfl) (Nat.le_of_ble_eq_true rfl) dX11_reach_55 rfl)
          · have c_16n : w_.toInt = (0 : Int) := (fa_eq _ _).mp c_16
            refine lv_aload hx hb dX11_reach_40 (lv_at hl 0 rfl) ?_
            refine lv_iload_n hx hb dX11_reach_42 rfl (lv_at hl 3 rfl) ?_
            refine z_Si (bc := [z0_]) (br := [[zO10 xo t im mk rd po co tr wa wb_ fi cd], z1_, wt]) (As := [.ref l0, .int a_]) (rest := []) C G (c_reached l T l0 cr0_ inn0_ k10_ k20_ k30_ k40_ z0_ a_ hz0_ (by first | with_reducible assumption | with_reducible rfl | omega | assumption | rfl)) (kS_RX11_336 C.2.2.2.2 (Nat.le_of_ble_eq_true rfl) (Nat.le_of_ble_eq_true rfl)) [3] [3] rfl rfl rfl rfl hl.1 dX11_reach_43 (Nat.le_of_ble_eq_true rfl) (Nat.le_of_ble_eq_true rfl) (fun r_19 b1 H locs hw G => ?_)
            refine zAn2 hw ?_
            intro hbs9 h_18
            clear hw
            subst hbs9
            have G : zS T A s.heap s [[zO10 xo t im mk rd po co tr wa wb_ fi cd], z1_, wt, z0_] _ _ := G
            subst h_18
            refine lv_goto (tgt := 55) hx hb dX11_reach_46 (by decide) ?_
            have G := G.sub (bs' := [[zO10 xo t im mk rd po co tr wa wb_ fi cd], wt, z0_, z1_]) [0, 2, 3, 1] rfl
            exact z_back hQz_ (z_iret C hr hlocks G (Nat.le_of_ble_eq_true rfl) (Nat.le_of_ble_eq_true rfl) dX11_reach_55 rfl)
        · have c_15n : ¬ w_.toInt ≤ (1 : Int) := fun q => c_15 ((fa_le _ _).mpr q)
          refine lv_bipush (v := (-2)) hx hb dX11_reach_33 (by decide) ?_
          have G := G.sub (bs' := [[zO10 xo t im mk rd po co tr wa wb_ fi cd], wt, z0_, z1_]) [0, 2, 3, 1] rfl
          exact z_back hQz_ (z_iret C hr hlocks G (Nat.le_of_ble_eq_true rfl) (Nat.le_of_ble_eq_true rfl) dX11_reach_35 rfl)
    · have h_13 : (a_.toInt < 0 ∨ cr0_.toInt ≤ a_.toInt ∨ 7 ≤ a_.toInt) := h_13
      refine lv_if_eq (tgt := 33) hx hb dX11_reach_21 (by decide) (fun _ => ?_) (fun q => absurd (by decide) q)
      refine lv_bipush (v := (-2)) hx hb dX11_reach_33 (by decide) ?_
      have G := G.sub (bs' := [[zO10 xo t im mk rd po co tr wa wb_ fi cd], wt, z0_, z1_]) [0, 2, 3, 1] rfl
      exact z_back hQz_ (z_iret C hr hlocks G (Nat.le_of_ble_eq_true rfl) (Nat.le_of_ble_eq_true rfl) dX11_reach_35 rfl)
  · have h_6 : i1.toInt = 1 := h_6
    have h_7 : 1 < (fk 0).toInt := h_7
    refine lv_astore (lv' := [(4, .ref l1), (0, .ref xo), (1, .int i1), (2, .int a_), (3, .int w_)]) hx hb dX11_reach_8 hl (by decide) (zLvf_h rfl) (fun ls hl => ?_)
    refine lv_aload hx hb dX11_reach_10 (lv_at hl 0 rfl) ?_
    refine lv_ifnull hx hb dX11_reach_12 ?_
    refine lv_aload hx hb dX11_reach_15 (lv_at hl 0 rfl) ?_
    refine lv_iload_n hx hb dX11_reach_17 rfl (lv_at hl 3 rfl) ?_
    refine z_Vi (bc := [z1_]) (br := [[zO10 xo t im mk rd po co tr wa wb_ fi cd], z0_, wt]) (As := [.int a_]) (rest := []) C G (c_has l T l1 cr1_ inn1_ k11_ k21_ k31_ k41_ z1_ a_ hz1_) (kV_RX11_160 C.2.2.2.2 (Nat.le_of_ble_eq_true rfl) (Nat.le_of_ble_eq_true rfl)) [2] [2] rfl rfl (ci := 4) (qc := (RX4, TX4, 6)) rfl rfl (List.mem_flatten.mpr ⟨_, List.mem_of_getElem? (i := 0) rfl, (bLand_mem hz1_).choose_spec⟩) rfl rfl hl.1 dX11_reach_18 (Nat.le_of_ble_eq_true rfl) (Nat.le_of_ble_eq_true rfl) (fun r_21 b1 H locs hw G => ?_)
    refine zAn2 hw ?_
    intro hbs9 hc_20
    clear hw
    subst hbs9
    have G : zS T A s.heap s [[zO10 xo t im mk rd po co tr wa wb_ fi cd], z0_, wt, z1_] _ _ := G
    rcases hc_20 with ⟨rfl, h_22, h_23, h_24⟩ | ⟨rfl, h_25⟩
    · have h_22 : 0 ≤ a_.toInt := h_22
      have h_23 : a_.toInt < cr1_.toInt := h_23
      have h_24 : a_.toInt < 7 := h_24
      refine lv_if_eq (tgt := 33) hx hb dX11_reach_21 (by decide) (fun q => absurd q (by decide)) (fun _ => ?_)
      refine lv_iload_n hx hb dX11_reach_24 rfl (lv_at hl 4 rfl) ?_
      refine lv_if_lt (tgt := 33) hx hb dX11_reach_25 (by decide) (fun c_26 => ?_) (fun c_26 => ?_)
      · have c_26n : w_.toInt < (0 : Int) := (fa_lt _ _).mp c_26
        refine lv_bipush (v := (-2)) hx hb dX11_reach_33 (by decide) ?_
        have G := G.sub (bs' := [[zO10 xo t im mk rd po co tr wa wb_ fi cd], wt, z0_, z1_]) [0, 2, 1, 3] rfl
        exact z_back hQz_ (z_iret C hr hlocks G (Nat.le_of_ble_eq_true rfl) (Nat.le_of_ble_eq_true rfl) dX11_reach_35 rfl)
      · have c_26n : ¬ w_.toInt < (0 : Int) := fun q => c_26 ((fa_lt _ _).mpr q)
        refine lv_iload_n hx hb dX11_reach_28 rfl (lv_at hl 4 rfl) ?_
        refine lv_iconst (v := 1) hx hb dX11_reach_29 (by decide) ?_
        refine lv_icmp_le (tgt := 36) hx hb dX11_reach_30 (by decide) (fun c_27 => ?_) (fun c_27 => ?_)
        · have c_27n : w_.toInt ≤ (1 : Int) := (fa_le _ _).mp c_27
          refine lv_iload_n hx hb dX11_reach_36 rfl (lv_at hl 4 rfl) ?_
          refine lv_if_ne (tgt := 49) hx hb dX11_reach_37 (by decide) (fun c_28 => ?_) (fun c_28 => ?_)
          · have c_28n : ¬ w_.toInt = (0 : Int) := fun q => c_28 ((fa_eq _ _).mpr q)
            refine lv_aload hx hb dX11_reach_49 (lv_at hl 0 rfl) ?_
            refine lv_iload_n hx hb dX11_reach_51 rfl (lv_at hl 3 rfl) ?_
            refine z_Si (bc := [z1_]) (br := [[zO10 xo t im mk rd po co tr wa wb_ fi cd], z0_, wt]) (As := [.ref l1, .int a_]) (rest := []) C G (c_nearest l T l1 cr1_ inn1_ k11_ k21_ k31_ k41_ z1_ a_ hz1_ (by first | with_reducible assumption | with_reducible rfl | omega | assumption | rfl)) (kS_RX11_340 C.2.2.2.2 (Nat.le_of_ble_eq_true rfl) (Nat.le_of_ble_eq_true rfl)) [3] [3] rfl rfl rfl rfl hl.1 dX11_reach_52 (Nat.le_of_ble_eq_true rfl) (Nat.le_of_ble_eq_true rfl) (fun r_29 b1 H locs hw G => ?_)
            obtain rfl := hw
            have G : zS T A s.heap s [[zO10 xo t im mk rd po co tr wa wb_ fi cd], z0_, wt, z1_] _ _ := G
            have G := G.sub (bs' := [[zO10 xo t im mk rd po co tr wa wb_ fi cd], wt, z0_, z1_]) [0, 2, 1, 3] rfl
            exact z_back hQz_ (z_iret C hr hlocks G (Nat.le_of_ble_eq_true rfl) (Nat.le_of_ble_eq_true rfl) dX11_reach_55 rfl)
          · have c_28n : w_.toInt = (0 : Int) := (fa_eq _ _).mp c_28
            refine lv_aload hx hb dX11_reach_40 (lv_at hl 0 rfl) ?_
            refine lv_iload_n hx hb dX11_reach_42 rfl (lv_at hl 3 rfl) ?_
            refine z_Si (bc := [z1_]) (br := [[zO10 xo t im mk rd po co tr wa wb_ fi cd], z0_, wt]) (As := [.ref l1, .int a_]) (rest := []) C G (c_reached l T l1 cr1_ inn1_ k11_ k21_ k31_ k41_ z1_ a_ hz1_ (by first | with_reducible assumption | with_reducible rfl | omega | assumption | rfl)) (kS_RX11_336 C.2.2.2.2 (Nat.le_of_ble_eq_true rfl) (Nat.le_of_ble_eq_true rfl)) [3] [3] rfl rfl rfl rfl hl.1 dX11_reach_43 (Nat.le_of_ble_eq_true rfl) (Nat.le_of_ble_eq_true rfl) (fun r_31 b1 H locs hw G => ?_)
            refine zAn2 hw ?_
            intro hbs9 h_30
            clear hw
            subst hbs9
            have G : zS T A s.heap s [[zO10 xo t im mk rd po co tr wa wb_ fi cd], z0_, wt, z1_] _ _ := G
            subst h_30
            refine lv_goto (tgt := 55) hx hb dX11_reach_46 (by decide) ?_
            have G := G.sub (bs' := [[zO10 xo t im mk rd po co tr wa wb_ fi cd], wt, z0_, z1_]) [0, 2, 1, 3] rfl
            exact z_back hQz_ (z_iret C hr hlocks G (Nat.le_of_ble_eq_true rfl) (Nat.le_of_ble_eq_true rfl) dX11_reach_55 rfl)
        · have c_27n : ¬ w_.toInt ≤ (1 : Int) := fun q => c_27 ((fa_le _ _).mpr q)
          refine lv_bipush (v := (-2)) hx hb dX11_reach_33 (by decide) ?_
          have G := G.sub (bs' := [[zO10 xo t im mk rd po co tr wa wb_ fi cd], wt, z0_, z1_]) [0, 2, 1, 3] rfl
          exact z_back hQz_ (z_iret C hr hlocks G (Nat.le_of_ble_eq_true rfl) (Nat.le_of_ble_eq_true rfl) dX11_reach_35 rfl)
    · have h_25 : (a_.toInt < 0 ∨ cr1_.toInt ≤ a_.toInt ∨ 7 ≤ a_.toInt) := h_25
      refine lv_if_eq (tgt := 33) hx hb dX11_reach_21 (by decide) (fun _ => ?_) (fun q => absurd (by decide) q)
      refine lv_bipush (v := (-2)) hx hb dX11_reach_33 (by decide) ?_
      have G := G.sub (bs' := [[zO10 xo t im mk rd po co tr wa wb_ fi cd], wt, z0_, z1_]) [0, 2, 1, 3] rfl
      exact z_back hQz_ (z_iret C hr hlocks G (Nat.le_of_ble_eq_true rfl) (Nat.le_of_ble_eq_true rfl) dX11_reach_35 rfl)
set_option maxHeartbeats 4000000 in
set_option maxRecDepth 100000 in
/-- c_classes -/
theorem c_classes (l : Launch) (T : zTy) (xo : Nat) (t : Nat) (im : Nat) (mk : Nat) (rd : Nat) (po : Nat) (co : Nat) (tr : Nat) (wa : Nat) (wb_ : Nat) (fi : Nat) (cd : Nat) (l0 : Nat) (l1 : Nat) (d0 : Nat) (d1 : Nat) (g0 : Nat) (g1 : Nat) (ln : Int32) (fl : Int32) (pl : Int32) (ft : Nat → Int32) (fk : Nat → Int32) (wt : va_W) (cr0_ : Int32) (inn0_ : Int32) (k10_ : Nat → Int32) (k20_ : Nat → Int32) (k30_ : Nat → Int32) (k40_ : Nat → Int32) (z0_ : va_W) (cr1_ : Int32) (inn1_ : Int32) (k11_ : Nat → Int32) (k21_ : Nat → Int32) (k31_ : Nat → Int32) (k41_ : Nat → Int32) (z1_ : va_W) (i1 : Int32) (w_ : Int32) (ht : bTold T t l0 l1 d0 d1 g0 g1 ln fl pl ft fk wt) (hK : zKT fk) (hz0_ : bLand T l0 cr0_ inn0_ k10_ k20_ k30_ k40_ z0_) (hI0_ : zLI cr0_ k10_ k30_) (hz1_ : bLand T l1 cr1_ inn1_ k11_ k21_ k31_ k41_ z1_) (hI1_ : zLI cr1_ k11_ k31_) : zMi l T yX11_classes cX11_classes 4 (some .int) 7 0 0 [.ref xo, .int i1, .int w_] [[zO10 xo t im mk rd po co tr wa wb_ fi cd], wt, z0_, z1_] (fun (r : Int32) bs => bs = [[zO10 xo t im mk rd po co tr wa wb_ fi cd], wt, z0_, z1_]) := by
  refine zMi_of (own := RX11) (by decide) rfl (Nat.le_of_ble_eq_true rfl) ?_
  intro p e s m args below meth c A ls C hr hlocks hnm hAe G hl
  refine zHide (fun Qz_ hQz_ => ?_)
  have hx := C.1
  have hb := C.2.1
  have hl : lv_has ls 4 [(0, .ref xo), (1, .int i1), (2, .int w_)] := hl
  refine lv_aload_n hx hb dX11_classes_0 rfl (lv_at hl 0 rfl) ?_
  refine z_get C G clX11 0 rfl 0 (by decide) m_fl_RX11_10 rfl dX11_classes_1 ?_
  refine lv_iload_n hx hb dX11_classes_4 rfl (lv_at hl 1 rfl) ?_
  refine z_Vq (bc := [wt]) (br := [[zO10 xo t im mk rd po co tr wa wb_ fi cd], z0_, z1_]) (As := [.int i1]) (rest := []) C G (c_landAt l T t l0 l1 d0 d1 g0 g1 ln fl pl ft fk wt i1 ht) (kV_RX11_121 C.2.2.2.2 (Nat.le_of_ble_eq_true rfl) (Nat.le_of_ble_eq_true rfl)) [1] [1] rfl rfl (ci := 8) (qc := (RX9, TX9, 8)) rfl rfl (List.mem_flatten.mpr ⟨_, List.mem_of_getElem? (i := 0) rfl, (bTold_mem ht).choose_spec⟩) rfl rfl hl.1 dX11_classes_5 (Nat.le_of_ble_eq_true rfl) (Nat.le_of_ble_eq_true rfl) (fun r_2 b1 H locs hw G => ?_)
  refine zAn2 hw ?_
  intro hbs9 hc_1
  clear hw
  subst hbs9
  have G : zS T A s.heap s [[zO10 xo t im mk rd po co tr wa wb_ fi cd], z0_, z1_, wt] _ _ := G
  rcases hc_1 with ⟨rfl, h_3⟩ | ⟨rfl, h_4, h_5⟩ | ⟨rfl, h_6, h_7⟩
  · have h_3 : (i1.toInt < 0 ∨ (fk 0).toInt ≤ i1.toInt ∨ 2 ≤ i1.toInt) := h_3
    refine lv_astore_nN (lv' := [(3, .null), (0, .ref xo), (1, .int i1), (2, .int w_)]) hx hb dX11_classes_8 rfl hl (by decide) (zLvf_h rfl) (fun ls hl => ?_)
    refine lv_aload_nN hx hb dX11_classes_9 rfl (lv_at hl 0 rfl) ?_
    refine lv_ifnonnullN hx hb dX11_classes_10 ?_
    refine lv_bipush (v := (-2)) hx hb dX11_classes_13 (by decide) ?_
    have G := G.sub (bs' := [[zO10 xo t im mk rd po co tr wa wb_ fi cd], wt, z0_, z1_]) [0, 3, 1, 2] rfl
    exact z_back hQz_ (z_iret C hr hlocks G (Nat.le_of_ble_eq_true rfl) (Nat.le_of_ble_eq_true rfl) dX11_classes_15 rfl)
  · have h_4 : i1.toInt = 0 := h_4
    have h_5 : 0 < (fk 0).toInt := h_5
    refine lv_astore_n (lv' := [(3, .ref l0), (0, .ref xo), (1, .int i1), (2, .int w_)]) hx hb dX11_classes_8 rfl hl (by decide) (zLvf_h rfl) (fun ls hl => ?_)
    refine lv_aload_n hx hb dX11_classes_9 rfl (lv_at hl 0 rfl) ?_
    refine lv_ifnonnull (tgt := 16) hx hb dX11_classes_10 (by decide) ?_
    refine lv_iload_n hx hb dX11_classes_16 rfl (lv_at hl 3 rfl) ?_
    by_cases c_8o : w_.toInt < 0 ∨ 7 < w_.toInt
    · refine lv_tableOut (tgt := 106) hx hb dX11_classes_17 c_8o (by decide) ?_
      refine lv_bipush (v := (-2)) hx hb dX11_classes_106 (by decide) ?_
      have G := G.sub (bs' := [[zO10 xo t im mk rd po co tr wa wb_ fi cd], wt, z0_, z1_]) [0, 3, 1, 2] rfl
      exact z_back hQz_ (z_iret C hr hlocks G (Nat.le_of_ble_eq_true rfl) (Nat.le_of_ble_eq_true rfl) dX11_classes_108 rfl)
    · have c_8r : w_.toInt = 0 ∨ w_.toInt = 1 ∨ w_.toInt = 2 ∨ w_.toInt = 3 ∨ w_.toInt = 4 ∨ w_.toInt = 5 ∨ w_.toInt = 6 ∨ w_.toInt = 7 := by omega
      rcases c_8r with c_8 | c_8 | c_8 | c_8 | c_8 | c_8 | c_8 | c_8
      · refine lv_tableIn (tgt := 64) hx hb dX11_classes_17 (by first | (rw [c_8]; decide) | omega) (by first | (rw [c_8]; decide) | omega) (by rw [c_8]; rfl) (by decide) ?_
        refine lv_aload_n hx hb dX11_classes_64 rfl (lv_at hl 0 rfl) ?_
        refine lv_iconst (v := 0) hx hb dX11_classes_65 (by decide) ?_
        refine z_Si (bc := [z0_]) (br := [[zO10 xo t im mk rd po co tr wa wb_ fi cd], z1_, wt]) (As := [.ref l0, .int 0]) (rest := []) C G (c_parts l T l0 cr0_ inn0_ k10_ k20_ k30_ k40_ z0_ 0 hz0_ (by first | with_reducible assumption | with_reducible rfl | omega | assumption | rfl)) (kS_RX11_343 C.2.2.2.2 (Nat.le_of_ble_eq_true rfl) (Nat.le_of_ble_eq_true rfl)) [1] [1] rfl rfl rfl rfl hl.1 dX11_classes_66 (Nat.le_of_ble_eq_true rfl) (Nat.le_of_ble_eq_true rfl) (fun r_9 b1 H locs hw G => ?_)
        obtain rfl := hw
        have G : zS T A s.heap s [[zO10 xo t im mk rd po co tr wa wb_ fi cd], z1_, wt, z0_] _ _ := G
        have G := G.sub (bs' := [[zO10 xo t im mk rd po co tr wa wb_ fi cd], wt, z0_, z1_]) [0, 2, 3, 1] rfl
        exact z_back hQz_ (z_iret C hr hlocks G (Nat.le_of_ble_eq_true rfl) (Nat.le_of_ble_eq_true rfl) dX11_classes_69 rfl)
      · refine lv_tableIn (tgt := 70) hx hb dX11_classes_17 (by first | (rw [c_8]; decide) | omega) (by first | (rw [c_8]; decide) | omega) (by rw [c_8]; rfl) (by decide) ?_
        refine lv_aload_n hx hb dX11_classes_70 rfl (lv_at hl 0 rfl) ?_
        refine lv_iconst (v := 1) hx hb dX11_classes_71 (by decide) ?_
        refine z_Si (bc := [z0_]) (br := [[zO10 xo t im mk rd po co tr wa wb_ fi cd], z1_, wt]) (As := [.ref l0, .int 1]) (rest := []) C G (c_parts l T l0 cr0_ inn0_ k10_ k20_ k30_ k40_ z0_ 1 hz0_ (by first | with_reducible assumption | with_reducible rfl | omega | assumption | rfl)) (kS_RX11_343 C.2.2.2.2 (Nat.le_of_ble_eq_true rfl) (Nat.le_of_ble_eq_true rfl)) [1] [1] rfl rfl rfl rfl hl.1 dX11_classes_72 (Nat.le_of_ble_eq_true rfl) (Nat.le_of_ble_eq_true rfl) (fun r_10 b1 H locs hw G => ?_)
        obtain rfl := hw
        have G : zS T A s.heap s [[zO10 xo t im mk rd po co tr wa wb_ fi cd], z1_, wt, z0_] _ _ := G
        have G := G.sub (bs' := [[zO10 xo t im mk rd po co tr wa wb_ fi cd], wt, z0_, z1_]) [0, 2, 3, 1] rfl
        exact z_back hQz_ (z_iret C hr hlocks G (Nat.le_of_ble_eq_true rfl) (Nat.le_of_ble_eq_true rfl) dX11_classes_75 rfl)
      · refine lv_tableIn (tgt := 76) hx hb dX11_classes_17 (by first | (rw [c_8]; decide) | omega) (by first | (rw [c_8]; decide) | omega) (by rw [c_8]; rfl) (by decide) ?_
        refine lv_aload_n hx hb dX11_classes_76 rfl (lv_at hl 0 rfl) ?_
        refine z_Si (bc := [z0_]) (br := [[zO10 xo t im mk rd po co tr wa wb_ fi cd], z1_, wt]) (As := [.ref l0]) (rest := []) C G (c_heads l T l0 cr0_ inn0_ k10_ k20_ k30_ k40_ z0_ hz0_ (by first | with_reducible assumption | with_reducible rfl | omega | assumption | rfl)) (kS_RX11_347 C.2.2.2.2 (Nat.le_of_ble_eq_true rfl) (Nat.le_of_ble_eq_true rfl)) [1] [1] rfl rfl rfl rfl hl.1 dX11_classes_77 (Nat.le_of_ble_eq_true rfl) (Nat.le_of_ble_eq_true rfl) (fun r_11 b1 H locs hw G => ?_)
        obtain rfl := hw
        have G : zS T A s.heap s [[zO10 xo t im mk rd po co tr wa wb_ fi cd], z1_, wt, z0_] _ _ := G
        have G := G.sub (bs' := [[zO10 xo t im mk rd po co tr wa wb_ fi cd], wt, z0_, z1_]) [0, 2, 3, 1] rfl
        exact z_back hQz_ (z_iret C hr hlocks G (Nat.le_of_ble_eq_true rfl) (Nat.le_of_ble_eq_true rfl) dX11_classes_80 rfl)
      · refine lv_tableIn (tgt := 81) hx hb dX11_classes_17 (by first | (rw [c_8]; decide) | omega) (by first | (rw [c_8]; decide) | omega) (by rw [c_8]; rfl) (by decide) ?_
        refine lv_aload_n hx hb dX11_classes_81 rfl (lv_at hl 0 rfl) ?_
        refine z_Si (bc := [z0_]) (br := [[zO10 xo t im mk rd po co tr wa wb_ fi cd], z1_, wt]) (As := [.ref l0]) (rest := []) C G (c_ends l T l0 cr0_ inn0_ k10_ k20_ k30_ k40_ z0_ hz0_ (by first | with_reducible assumption | with_reducible rfl | omega | assumption | rfl)) (kS_RX11_350 C.2.2.2.2 (Nat.le_of_ble_eq_true rfl) (Nat.le_of_ble_eq_true rfl)) [1] [1] rfl rfl rfl rfl hl.1 dX11_classes_82 (Nat.le_of_ble_eq_true rfl) (Nat.le_of_ble_eq_true rfl) (fun r_12 b1 H locs hw G => ?_)
        obtain rfl := hw
        have G : zS T A s.heap s [[zO10 xo t im mk rd po co tr wa wb_ fi cd], z1_, wt, z0_] _ _ := G
        have G := G.sub (bs' := [[zO10 xo t im mk rd po co tr wa wb_ fi cd], wt, z0_, z1_]) [0, 2, 3, 1] rfl
        exact z_back hQz_ (z_iret C hr hlocks G (Nat.le_of_ble_eq_true rfl) (Nat.le_of_ble_eq_true rfl) dX11_classes_85 rfl)
      · refine lv_tableIn (tgt := 86) hx hb dX11_classes_17 (by first | (rw [c_8]; decide) | omega) (by first | (rw [c_8]; decide) | omega) (by rw [c_8]; rfl) (by decide) ?_
        refine lv_aload_n hx hb dX11_classes_86 rfl (lv_at hl 0 rfl) ?_
        refine z_Si (bc := [z0_]) (br := [[zO10 xo t im mk rd po co tr wa wb_ fi cd], z1_, wt]) (As := [.ref l0]) (rest := []) C G (c_loops l T l0 cr0_ inn0_ k10_ k20_ k30_ k40_ z0_ hz0_ (by first | with_reducible assumption | with_reducible rfl | omega | assumption | rfl)) (kS_RX11_353 C.2.2.2.2 (Nat.le_of_ble_eq_true rfl) (Nat.le_of_ble_eq_true rfl)) [1] [1] rfl rfl rfl rfl hl.1 dX11_classes_87 (Nat.le_of_ble_eq_true rfl) (Nat.le_of_ble_eq_true rfl) (fun r_13 b1 H locs hw G => ?_)
        obtain rfl := hw
        have G : zS T A s.heap s [[zO10 xo t im mk rd po co tr wa wb_ fi cd], z1_, wt, z0_] _ _ := G
        have G := G.sub (bs' := [[zO10 xo t im mk rd po co tr wa wb_ fi cd], wt, z0_, z1_]) [0, 2, 3, 1] rfl
        exact z_back hQz_ (z_iret C hr hlocks G (Nat.le_of_ble_eq_true rfl) (Nat.le_of_ble_eq_true rfl) dX11_classes_90 rfl)
      · refine lv_tableIn (tgt := 91) hx hb dX11_classes_17 (by first | (rw [c_8]; decide) | omega) (by first | (rw [c_8]; decide) | omega) (by rw [c_8]; rfl) (by decide) ?_
        refine lv_aload_n hx hb dX11_classes_91 rfl (lv_at hl 0 rfl) ?_
        refine z_Si (bc := [z0_]) (br := [[zO10 xo t im mk rd po co tr wa wb_ fi cd], z1_, wt]) (As := [.ref l0]) (rest := []) C G (c_doubles l T l0 cr0_ inn0_ k10_ k20_ k30_ k40_ z0_ hz0_ (by first | with_reducible assumption | with_reducible rfl | omega | assumption | rfl)) (kS_RX11_356 C.2.2.2.2 (Nat.le_of_ble_eq_true rfl) (Nat.le_of_ble_eq_true rfl)) [1] [1] rfl rfl rfl rfl hl.1 dX11_classes_92 (Nat.le_of_ble_eq_true rfl) (Nat.le_of_ble_eq_true rfl) (fun r_14 b1 H locs hw G => ?_)
        obtain rfl := hw
        have G : zS T A s.heap s [[zO10 xo t im mk rd po co tr wa wb_ fi cd], z1_, wt, z0_] _ _ := G
        have G := G.sub (bs' := [[zO10 xo t im mk rd po co tr wa wb_ fi cd], wt, z0_, z1_]) [0, 2, 3, 1] rfl
        exact z_back hQz_ (z_iret C hr hlocks G (Nat.le_of_ble_eq_true rfl) (Nat.le_of_ble_eq_true rfl) dX11_classes_95 rfl)
      · refine lv_tableIn (tgt := 96) hx hb dX11_classes_17 (by first | (rw [c_8]; decide) | omega) (by first | (rw [c_8]; decide) | omega) (by rw [c_8]; rfl) (by decide) ?_
        refine lv_aload_n hx hb dX11_classes_96 rfl (lv_at hl 0 rfl) ?_
        refine z_Si (bc := [z0_]) (br := [[zO10 xo t im mk rd po co tr wa wb_ fi cd], z1_, wt]) (As := [.ref l0]) (rest := []) C G (c_even l T l0 cr0_ inn0_ k10_ k20_ k30_ k40_ z0_ hz0_ (by first | with_reducible assumption | with_reducible rfl | omega | assumption | rfl)) (kS_RX11_359 C.2.2.2.2 (Nat.le_of_ble_eq_true rfl) (Nat.le_of_ble_eq_true rfl)) [1] [1] rfl rfl rfl rfl hl.1 dX11_classes_97 (Nat.le_of_ble_eq_true rfl) (Nat.le_of_ble_eq_true rfl) (fun r_15 b1 H locs hw G => ?_)
        obtain rfl := hw
        have G : zS T A s.heap s [[zO10 xo t im mk rd po co tr wa wb_ fi cd], z1_, wt, z0_] _ _ := G
        have G := G.sub (bs' := [[zO10 xo t im mk rd po co tr wa wb_ fi cd], wt, z0_, z1_]) [0, 2, 3, 1] rfl
        exact z_back hQz_ (z_iret C hr hlocks G (Nat.le_of_ble_eq_true rfl) (Nat.le_of_ble_eq_true rfl) dX11_classes_100 rfl)
      · refine lv_tableIn (tgt := 101) hx hb dX11_classes_17 (by first | (rw [c_8]; decide) | omega) (by first | (rw [c_8]; decide) | omega) (by rw [c_8]; rfl) (by decide) ?_
        refine lv_aload_n hx hb dX11_classes_101 rfl (lv_at hl 0 rfl) ?_
        refine z_Si (bc := [z0_]) (br := [[zO10 xo t im mk rd po co tr wa wb_ fi cd], z1_, wt]) (As := [.ref l0]) (rest := []) C G (c_busy l T l0 cr0_ inn0_ k10_ k20_ k30_ k40_ z0_ hz0_ (by first | with_reducible assumption | with_reducible rfl | omega | assumption | rfl)) (kS_RX11_362 C.2.2.2.2 (Nat.le_of_ble_eq_true rfl) (Nat.le_of_ble_eq_true rfl)) [1] [1] rfl rfl rfl rfl hl.1 dX11_classes_102 (Nat.le_of_ble_eq_true rfl) (Nat.le_of_ble_eq_true rfl) (fun r_16 b1 H locs hw G => ?_)
        obtain rfl := hw
        have G : zS T A s.heap s [[zO10 xo t im mk rd po co tr wa wb_ fi cd], z1_, wt, z0_] _ _ := G
        have G := G.sub (bs' := [[zO10 xo t im mk rd po co tr wa wb_ fi cd], wt, z0_, z1_]) [0, 2, 3, 1] rfl
        exact z_back hQz_ (z_iret C hr hlocks G (Nat.le_of_ble_eq_true rfl) (Nat.le_of_ble_eq_true rfl) dX11_classes_105 rfl)
  · have h_6 : i1.toInt = 1 := h_6
    have h_7 : 1 < (fk 0).toInt := h_7
    refine lv_astore_n (lv' := [(3, .ref l1), (0, .ref xo), (1, .int i1), (2, .int w_)]) hx hb dX11_classes_8 rfl hl (by decide) (zLvf_h rfl) (fun ls hl => ?_)
    refine lv_aload_n hx hb dX11_classes_9 rfl (lv_at hl 0 rfl) ?_
    refine lv_ifnonnull (tgt := 16) hx hb dX11_classes_10 (by decide) ?_
    refine lv_iload_n hx hb dX11_classes_16 rfl (lv_at hl 3 rfl) ?_
    by_cases c_17o : w_.toInt < 0 ∨ 7 < w_.toInt
    · refine lv_tableOut (tgt := 106) hx hb dX11_classes_17 c_17o (by decide) ?_
      refine lv_bipush (v := (-2)) hx hb dX11_classes_106 (by decide) ?_
      have G := G.sub (bs' := [[zO10 xo t im mk rd po co tr wa wb_ fi cd], wt, z0_, z1_]) [0, 3, 1, 2] rfl
      exact z_back hQz_ (z_iret C hr hlocks G (Nat.le_of_ble_eq_true rfl) (Nat.le_of_ble_eq_true rfl) dX11_classes_108 rfl)
    · have c_17r : w_.toInt = 0 ∨ w_.toInt = 1 ∨ w_.toInt = 2 ∨ w_.toInt = 3 ∨ w_.toInt = 4 ∨ w_.toInt = 5 ∨ w_.toInt = 6 ∨ w_.toInt = 7 := by omega
      rcases c_17r with c_17 | c_17 | c_17 | c_17 | c_17 | c_17 | c_17 | c_17
      · refine lv_tableIn (tgt := 64) hx hb dX11_classes_17 (by first | (rw [c_17]; decide) | omega) (by first | (rw [c_17]; decide) | omega) (by rw [c_17]; rfl) (by decide) ?_
        refine lv_aload_n hx hb dX11_classes_64 rfl (lv_at hl 0 rfl) ?_
        refine lv_iconst (v := 0) hx hb dX11_classes_65 (by decide) ?_
        refine z_Si (bc := [z1_]) (br := [[zO10 xo t im mk rd po co tr wa wb_ fi cd], z0_, wt]) (As := [.ref l1, .int 0]) (rest := []) C G (c_parts l T l1 cr1_ inn1_ k11_ k21_ k31_ k41_ z1_ 0 hz1_ (by first | with_reducible assumption | with_reducible rfl | omega | assumption | rfl)) (kS_RX11_343 C.2.2.2.2 (Nat.le_of_ble_eq_true rfl) (Nat.le_of_ble_eq_true rfl)) [2] [2] rfl rfl rfl rfl hl.1 dX11_classes_66 (Nat.le_of_ble_eq_true rfl) (Nat.le_of_ble_eq_true rfl) (fun r_18 b1 H locs hw G => ?_)
        obtain rfl := hw
        have G : zS T A s.heap s [[zO10 xo t im mk rd po co tr wa wb_ fi cd], z0_, wt, z1_] _ _ := G
        have G := G.sub (bs' := [[zO10 xo t im mk rd po co tr wa wb_ fi cd], wt, z0_, z1_]) [0, 2, 1, 3] rfl
        exact z_back hQz_ (z_iret C hr hlocks G (Nat.le_of_ble_eq_true rfl) (Nat.le_of_ble_eq_true rfl) dX11_classes_69 rfl)
      · refine lv_tableIn (tgt := 70) hx hb dX11_classes_17 (by first | (rw [c_17]; decide) | omega) (by first | (rw [c_17]; decide) | omega) (by rw [c_17]; rfl) (by decide) ?_
        refine lv_aload_n hx hb dX11_classes_70 rfl (lv_at hl 0 rfl) ?_
        refine lv_iconst (v := 1) hx hb dX11_classes_71 (by decide) ?_
        refine z_Si (bc := [z1_]) (br := [[zO10 xo t im mk rd po co tr wa wb_ fi cd], z0_, wt]) (As := [.ref l1, .int 1]) (rest := []) C G (c_parts l T l1 cr1_ inn1_ k11_ k21_ k31_ k41_ z1_ 1 hz1_ (by first | with_reducible assumption | with_reducible rfl | omega | assumption | rfl)) (kS_RX11_343 C.2.2.2.2 (Nat.le_of_ble_eq_true rfl) (Nat.le_of_ble_eq_true rfl)) [2] [2] rfl rfl rfl rfl hl.1 dX11_classes_72 (Nat.le_of_ble_eq_true rfl) (Nat.le_of_ble_eq_true rfl) (fun r_19 b1 H locs hw G => ?_)
        obtain rfl := hw
        have G : zS T A s.heap s [[zO10 xo t im mk rd po co tr wa wb_ fi cd], z0_, wt, z1_] _ _ := G
        have G := G.sub (bs' := [[zO10 xo t im mk rd po co tr wa wb_ fi cd], wt, z0_, z1_]) [0, 2, 1, 3] rfl
        exact z_back hQz_ (z_iret C hr hlocks G (Nat.le_of_ble_eq_true rfl) (Nat.le_of_ble_eq_true rfl) dX11_classes_75 rfl)
      · refine lv_tableIn (tgt := 76) hx hb dX11_classes_17 (by first | (rw [c_17]; decide) | omega) (by first | (rw [c_17]; decide) | omega) (by rw [c_17]; rfl) (by decide) ?_
        refine lv_aload_n hx hb dX11_classes_76 rfl (lv_at hl 0 rfl) ?_
        refine z_Si (bc := [z1_]) (br := [[zO10 xo t im mk rd po co tr wa wb_ fi cd], z0_, wt]) (As := [.ref l1]) (rest := []) C G (c_heads l T l1 cr1_ inn1_ k11_ k21_ k31_ k41_ z1_ hz1_ (by first | with_reducible assumption | with_reducible rfl | omega | assumption | rfl)) (kS_RX11_347 C.2.2.2.2 (Nat.le_of_ble_eq_true rfl) (Nat.le_of_ble_eq_true rfl)) [2] [2] rfl rfl rfl rfl hl.1 dX11_classes_77 (Nat.le_of_ble_eq_true rfl) (Nat.le_of_ble_eq_true rfl) (fun r_20 b1 H locs hw G => ?_)
        obtain rfl := hw
        have G : zS T A s.heap s [[zO10 xo t im mk rd po co tr wa wb_ fi cd], z0_, wt, z1_] _ _ := G
        have G := G.sub (bs' := [[zO10 xo t im mk rd po co tr wa wb_ fi cd], wt, z0_, z1_]) [0, 2, 1, 3] rfl
        exact z_back hQz_ (z_iret C hr hlocks G (Nat.le_of_ble_eq_true rfl) (Nat.le_of_ble_eq_true rfl) dX11_classes_80 rfl)
      · refine lv_tableIn (tgt := 81) hx hb dX11_classes_17 (by first | (rw [c_17]; decide) | omega) (by first | (rw [c_17]; decide) | omega) (by rw [c_17]; rfl) (by decide) ?_
        refine lv_aload_n hx hb dX11_classes_81 rfl (lv_at hl 0 rfl) ?_
        refine z_Si (bc := [z1_]) (br := [[zO10 xo t im mk rd po co tr wa wb_ fi cd], z0_, wt]) (As := [.ref l1]) (rest := []) C G (c_ends l T l1 cr1_ inn1_ k11_ k21_ k31_ k41_ z1_ hz1_ (by first | with_reducible assumption | with_reducible rfl | omega | assumption | rfl)) (kS_RX11_350 C.2.2.2.2 (Nat.le_of_ble_eq_true rfl) (Nat.le_of_ble_eq_true rfl)) [2] [2] rfl rfl rfl rfl hl.1 dX11_classes_82 (Nat.le_of_ble_eq_true rfl) (Nat.le_of_ble_eq_true rfl) (fun r_21 b1 H locs hw G => ?_)
        obtain rfl := hw
        have G : zS T A s.heap s [[zO10 xo t im mk rd po co tr wa wb_ fi cd], z0_, wt, z1_] _ _ := G
        have G := G.sub (bs' := [[zO10 xo t im mk rd po co tr wa wb_ fi cd], wt, z0_, z1_]) [0, 2, 1, 3] rfl
        exact z_back hQz_ (z_iret C hr hlocks G (Nat.le_of_ble_eq_true rfl) (Nat.le_of_ble_eq_true rfl) dX11_classes_85 rfl)
      · refine lv_tableIn (tgt := 86) hx hb dX11_classes_17 (by first | (rw [c_17]; decide) | omega) (by first | (rw [c_17]; decide) | omega) (by rw [c_17]; rfl) (by decide) ?_
        refine lv_aload_n hx hb dX11_classes_86 rfl (lv_at hl 0 rfl) ?_
        refine z_Si (bc := [z1_]) (br := [[zO10 xo t im mk rd po co tr wa wb_ fi cd], z0_, wt]) (As := [.ref l1]) (rest := []) C G (c_loops l T l1 cr1_ inn1_ k11_ k21_ k31_ k41_ z1_ hz1_ (by first | with_reducible assumption | with_reducible rfl | omega | assumption | rfl)) (kS_RX11_353 C.2.2.2.2 (Nat.le_of_ble_eq_true rfl) (Nat.le_of_ble_eq_true rfl)) [2] [2] rfl rfl rfl rfl hl.1 dX11_classes_87 (Nat.le_of_ble_eq_true rfl) (Nat.le_of_ble_eq_true rfl) (fun r_22 b1 H locs hw G => ?_)
        obtain rfl := hw
        have G : zS T A s.heap s [[zO10 xo t im mk rd po co tr wa wb_ fi cd], z0_, wt, z1_] _ _ := G
        have G := G.sub (bs' := [[zO10 xo t im mk rd po co tr wa wb_ fi cd], wt, z0_, z1_]) [0, 2, 1, 3] rfl
        exact z_back hQz_ (z_iret C hr hlocks G (Nat.le_of_ble_eq_true rfl) (Nat.le_of_ble_eq_true rfl) dX11_classes_90 rfl)
      · refine lv_tableIn (tgt := 91) hx hb dX11_classes_17 (by first | (rw [c_17]; decide) | omega) (by first | (rw [c_17]; decide) | omega) (by rw [c_17]; rfl) (by decide) ?_
        refine lv_aload_n hx hb dX11_classes_91 rfl (lv_at hl 0 rfl) ?_
        refine z_Si (bc := [z1_]) (br := [[zO10 xo t im mk rd po co tr wa wb_ fi cd], z0_, wt]) (As := [.ref l1]) (rest := []) C G (c_doubles l T l1 cr1_ inn1_ k11_ k21_ k31_ k41_ z1_ hz1_ (by first | with_reducible assumption | with_reducible rfl | omega | assumption | rfl)) (kS_RX11_356 C.2.2.2.2 (Nat.le_of_ble_eq_true rfl) (Nat.le_of_ble_eq_true rfl)) [2] [2] rfl rfl rfl rfl hl.1 dX11_classes_92 (Nat.le_of_ble_eq_true rfl) (Nat.le_of_ble_eq_true rfl) (fun r_23 b1 H locs hw G => ?_)
        obtain rfl := hw
        have G : zS T A s.heap s [[zO10 xo t im mk rd po co tr wa wb_ fi cd], z0_, wt, z1_] _ _ := G
        have G := G.sub (bs' := [[zO10 xo t im mk rd po co tr wa wb_ fi cd], wt, z0_, z1_]) [0, 2, 1, 3] rfl
        exact z_back hQz_ (z_iret C hr hlocks G (Nat.le_of_ble_eq_true rfl) (Nat.le_of_ble_eq_true rfl) dX11_classes_95 rfl)
      · refine lv_tableIn (tgt := 96) hx hb dX11_classes_17 (by first | (rw [c_17]; decide) | omega) (by first | (rw [c_17]; decide) | omega) (by rw [c_17]; rfl) (by decide) ?_
        refine lv_aload_n hx hb dX11_classes_96 rfl (lv_at hl 0 rfl) ?_
        refine z_Si (bc := [z1_]) (br := [[zO10 xo t im mk rd po co tr wa wb_ fi cd], z0_, wt]) (As := [.ref l1]) (rest := []) C G (c_even l T l1 cr1_ inn1_ k11_ k21_ k31_ k41_ z1_ hz1_ (by first | with_reducible assumption | with_reducible rfl | omega | assumption | rfl)) (kS_RX11_359 C.2.2.2.2 (Nat.le_of_ble_eq_true rfl) (Nat.le_of_ble_eq_true rfl)) [2] [2] rfl rfl rfl rfl hl.1 dX11_classes_97 (Nat.le_of_ble_eq_true rfl) (Nat.le_of_ble_eq_true rfl) (fun r_24 b1 H locs hw G => ?_)
        obtain rfl := hw
        have G : zS T A s.heap s [[zO10 xo t im mk rd po co tr wa wb_ fi cd], z0_, wt, z1_] _ _ := G
        have G := G.sub (bs' := [[zO10 xo t im mk rd po co tr wa wb_ fi cd], wt, z0_, z1_]) [0, 2, 1, 3] rfl
        exact z_back hQz_ (z_iret C hr hlocks G (Nat.le_of_ble_eq_true rfl) (Nat.le_of_ble_eq_true rfl) dX11_classes_100 rfl)
      · refine lv_tableIn (tgt := 101) hx hb dX11_classes_17 (by first | (rw [c_17]; decide) | omega) (by first | (rw [c_17]; decide) | omega) (by rw [c_17]; rfl) (by decide) ?_
        refine lv_aload_n hx hb dX11_classes_101 rfl (lv_at hl 0 rfl) ?_
        refine z_Si (bc := [z1_]) (br := [[zO10 xo t im mk rd po co tr wa wb_ fi cd], z0_, wt]) (As := [.ref l1]) (rest := []) C G (c_busy l T l1 cr1_ inn1_ k11_ k21_ k31_ k41_ z1_ hz1_ (by first | with_reducible assumption | with_reducible rfl | omega | assumption | rfl)) (kS_RX11_362 C.2.2.2.2 (Nat.le_of_ble_eq_true rfl) (Nat.le_of_ble_eq_true rfl)) [2] [2] rfl rfl rfl rfl hl.1 dX11_classes_102 (Nat.le_of_ble_eq_true rfl) (Nat.le_of_ble_eq_true rfl) (fun r_25 b1 H locs hw G => ?_)
        obtain rfl := hw
        have G : zS T A s.heap s [[zO10 xo t im mk rd po co tr wa wb_ fi cd], z0_, wt, z1_] _ _ := G
        have G := G.sub (bs' := [[zO10 xo t im mk rd po co tr wa wb_ fi cd], wt, z0_, z1_]) [0, 2, 1, 3] rfl
        exact z_back hQz_ (z_iret C hr hlocks G (Nat.le_of_ble_eq_true rfl) (Nat.le_of_ble_eq_true rfl) dX11_classes_105 rfl)
theorem m_fl_RX11_69 : Cond.fieldLink RX11 69 (TX11 10).1 (TX11 10).2.1 (TX11 10).2.2.1 ∈ zT := zmem1 zsub_2 186 rfl rfl
theorem m_fl_RX11_34 : Cond.fieldLink RX11 34 (TX11 4).1 (TX11 4).2.1 (TX11 4).2.2.1 ∈ zT := zmem1 zsub_2 180 rfl rfl
theorem m_ml_RX11_205 : Cond.methodLink RX11 205 yX6_begin ∈ zT := zmem1 zsub_4 178 rfl rfl
theorem m_ml_RX11_228 : Cond.methodLink RX11 228 yX6_shutRoad ∈ zT := zmem1 zsub_4 202 rfl rfl
theorem m_ml_RX11_208 : Cond.methodLink RX11 208 yX6_run ∈ zT := zmem1 zsub_4 179 rfl rfl
theorem m_fl_RX11_211 : Cond.fieldLink RX11 211 (TX6 4).1 (TX6 4).2.1 (TX6 4).2.2.1 ∈ zT := zmem1 zsub_1 237 rfl rfl
theorem m_ml_RX11_174 : Cond.methodLink RX11 174 yX4_isInn ∈ zT := zmem1 zsub_4 141 rfl rfl
theorem m_fl_RX11_41 : Cond.fieldLink RX11 41 (TX11 5).1 (TX11 5).2.1 (TX11 5).2.2.1 ∈ zT := zmem1 zsub_2 181 rfl rfl
theorem m_co_X1_goThrough : Cond.code yX1_goThrough cX1_goThrough 5 (some .int) ∈ zT := zmem1 zsub_4 0 rfl rfl
theorem m_ml_RX11_145 : Cond.methodLink RX11 145 yX1_goThrough ∈ zT := zmem1 zsub_3 237 rfl rfl
theorem m_im_X1_goThrough : Cond.instanceMethod yX1_goThrough ∈ zT := zmem1 zsub_3 238 rfl rfl
theorem m_se_X1_goThrough : Cond.selects RX1 yX1_goThrough yX1_goThrough ∈ zT := zmem1 zsub_3 239 rfl rfl
theorem m_fl_RX11_149 : Cond.fieldLink RX11 149 (TX2 0).1 (TX2 0).2.1 (TX2 0).2.2.1 ∈ zT := zmem1 zsub_1 91 rfl rfl
theorem m_co_X1_told : Cond.code yX1_told cX1_told 3 (some .int) ∈ zT := zmem1 zsub_4 86 rfl rfl
theorem m_ml_RX11_152 : Cond.methodLink RX11 152 yX1_told ∈ zT := zmem1 zsub_4 83 rfl rfl
theorem m_im_X1_told : Cond.instanceMethod yX1_told ∈ zT := zmem1 zsub_4 84 rfl rfl
theorem m_se_X1_told : Cond.selects RX1 yX1_told yX1_told ∈ zT := zmem1 zsub_4 85 rfl rfl
theorem m_co_X1_toldAfter : Cond.code yX1_toldAfter cX1_toldAfter 2 (some .int) ∈ zT := zmem1 zsub_4 98 rfl rfl
theorem m_ml_RX11_153 : Cond.methodLink RX11 153 yX1_toldAfter ∈ zT := zmem1 zsub_4 95 rfl rfl
theorem m_im_X1_toldAfter : Cond.instanceMethod yX1_toldAfter ∈ zT := zmem1 zsub_4 96 rfl rfl
theorem m_se_X1_toldAfter : Cond.selects RX1 yX1_toldAfter yX1_toldAfter ∈ zT := zmem1 zsub_4 97 rfl rfl
theorem m_co_X1_draw : Cond.code yX1_draw cX1_draw 8 none ∈ zT := zmem1 zsub_4 110 rfl rfl
theorem m_ml_RX11_156 : Cond.methodLink RX11 156 yX1_draw ∈ zT := zmem1 zsub_4 107 rfl rfl
theorem m_im_X1_draw : Cond.instanceMethod yX1_draw ∈ zT := zmem1 zsub_4 108 rfl rfl
theorem m_se_X1_draw : Cond.selects RX1 yX1_draw yX1_draw ∈ zT := zmem1 zsub_4 109 rfl rfl
theorem m_fl_RX11_48 : Cond.fieldLink RX11 48 (TX11 6).1 (TX11 6).2.1 (TX11 6).2.2.1 ∈ zT := zmem1 zsub_2 182 rfl rfl
theorem m_co_X10_follow : Cond.code yX10_follow cX10_follow 6 none ∈ zT := zmem1 zsub_4 126 rfl rfl
theorem m_ml_RX11_164 : Cond.methodLink RX11 164 yX10_follow ∈ zT := zmem1 zsub_4 123 rfl rfl
theorem m_im_X10_follow : Cond.instanceMethod yX10_follow ∈ zT := zmem1 zsub_4 124 rfl rfl
theorem m_se_X10_follow : Cond.selects RX10 yX10_follow yX10_follow ∈ zT := zmem1 zsub_4 125 rfl rfl
theorem m_fl_RX11_177 : Cond.fieldLink RX11 177 (TX10 1).1 (TX10 1).2.1 (TX10 1).2.2.1 ∈ zT := zmem1 zsub_2 69 rfl rfl
theorem m_fl_RX11_168 : Cond.fieldLink RX11 168 (TX10 4).1 (TX10 4).2.1 (TX10 4).2.2.1 ∈ zT := zmem1 zsub_2 73 rfl rfl
theorem m_fl_RX11_171 : Cond.fieldLink RX11 171 (TX10 5).1 (TX10 5).2.1 (TX10 5).2.2.1 ∈ zT := zmem1 zsub_2 75 rfl rfl
theorem m_fl_RX11_180 : Cond.fieldLink RX11 180 (TX10 6).1 (TX10 6).2.1 (TX10 6).2.2.1 ∈ zT := zmem1 zsub_2 77 rfl rfl
theorem m_fl_RX11_183 : Cond.fieldLink RX11 183 (TX10 7).1 (TX10 7).2.1 (TX10 7).2.2.1 ∈ zT := zmem1 zsub_2 79 rfl rfl
theorem m_co_X10_unused : Cond.code yX10_unused cX10_unused 3 (some .int) ∈ zT := zmem1 zsub_4 149 rfl rfl
theorem m_ml_RX11_186 : Cond.methodLink RX11 186 yX10_unused ∈ zT := zmem1 zsub_4 146 rfl rfl
theorem m_im_X10_unused : Cond.instanceMethod yX10_unused ∈ zT := zmem1 zsub_4 147 rfl rfl
theorem m_se_X10_unused : Cond.selects RX10 yX10_unused yX10_unused ∈ zT := zmem1 zsub_4 148 rfl rfl
theorem m_co_X10_round : Cond.code yX10_round cX10_round 4 (some .int) ∈ zT := zmem1 zsub_4 160 rfl rfl
theorem m_ml_RX11_190 : Cond.methodLink RX11 190 yX10_round ∈ zT := zmem1 zsub_4 157 rfl rfl
theorem m_im_X10_round : Cond.instanceMethod yX10_round ∈ zT := zmem1 zsub_4 158 rfl rfl
theorem m_se_X10_round : Cond.selects RX10 yX10_round yX10_round ∈ zT := zmem1 zsub_4 159 rfl rfl
theorem m_co_X1_goAll : Cond.code yX1_goAll cX1_goAll 4 none ∈ zT := zmem1 zsub_4 173 rfl rfl
theorem m_ml_RX11_193 : Cond.methodLink RX11 193 yX1_goAll ∈ zT := zmem1 zsub_4 170 rfl rfl
theorem m_im_X1_goAll : Cond.instanceMethod yX1_goAll ∈ zT := zmem1 zsub_4 171 rfl rfl
theorem m_se_X1_goAll : Cond.selects RX1 yX1_goAll yX1_goAll ∈ zT := zmem1 zsub_4 172 rfl rfl
theorem m_fl_RX11_198 : Cond.fieldLink RX11 198 (TX1 1).1 (TX1 1).2.1 (TX1 1).2.2.1 ∈ zT := zmem1 zsub_2 25 rfl rfl
theorem m_fl_RX11_201 : Cond.fieldLink RX11 201 (TX1 0).1 (TX1 0).2.1 (TX1 0).2.2.1 ∈ zT := zmem1 zsub_2 23 rfl rfl
theorem m_fl_RX11_202 : Cond.fieldLink RX11 202 (TX6 1).1 (TX6 1).2.1 (TX6 1).2.2.1 ∈ zT := zmem1 zsub_1 230 rfl rfl
theorem m_fl_RX11_197 : Cond.fieldLink RX11 197 (TX1 2).1 (TX1 2).2.1 (TX1 2).2.2.1 ∈ zT := zmem1 zsub_2 27 rfl rfl
theorem m_ml_RX11_212 : Cond.methodLink RX11 212 yX6_code ∈ zT := zmem1 zsub_4 188 rfl rfl
theorem m_co_X11_placeOfCode : Cond.code yX11_placeOfCode cX11_placeOfCode 4 (some .int) ∈ zT := zmem1 zsub_4 192 rfl rfl
theorem m_ml_RX11_215 : Cond.methodLink RX11 215 yX11_placeOfCode ∈ zT := zmem1 zsub_4 189 rfl rfl
theorem m_im_X11_placeOfCode : Cond.instanceMethod yX11_placeOfCode ∈ zT := zmem1 zsub_4 191 rfl rfl
theorem m_se_X11_placeOfCode : Cond.selects RX11 yX11_placeOfCode yX11_placeOfCode ∈ zT := zmem 29 rfl rfl
theorem m_ii_RX11 : Cond.initialized RX11 ∈ zT := zmem1 zsub_1 1 rfl rfl
theorem m_fl_RX11_218 : Cond.fieldLink RX11 218 (TX4 0).1 (TX4 0).2.1 (TX4 0).2.2.1 ∈ zT := zmem1 zsub_1 48 rfl rfl
theorem m_ml_RX11_221 : Cond.methodLink RX11 221 yX4_waysOut ∈ zT := zmem1 zsub_4 197 rfl rfl
theorem m_co_X11_isKey : Cond.code yX11_isKey cX11_isKey 5 (some .boolean) ∈ zT := zmem1 zsub_4 201 rfl rfl
theorem m_ml_RX11_224 : Cond.methodLink RX11 224 yX11_isKey ∈ zT := zmem1 zsub_4 198 rfl rfl
theorem m_im_X11_isKey : Cond.instanceMethod yX11_isKey ∈ zT := zmem1 zsub_4 200 rfl rfl
theorem m_se_X11_isKey : Cond.selects RX11 yX11_isKey yX11_isKey ∈ zT := zmem 30 rfl rfl
theorem m_co_X8_ring : Cond.code yX8_ring cX8_ring 4 (some .int) ∈ zT := zmem1 zsub_5 227 rfl rfl
theorem m_ml_RX11_368 : Cond.methodLink RX11 368 yX8_ring ∈ zT := zmem1 zsub_5 225 rfl rfl
theorem m_st_X8_ring : Cond.static yX8_ring ∈ zT := zmem1 zsub_5 226 rfl rfl
theorem m_fl_RX11_256 : Cond.fieldLink RX11 256 (TX4 4).1 (TX4 4).2.1 (TX4 4).2.2.1 ∈ zT := zmem1 zsub_1 62 rfl rfl
theorem m_ml_RX11_365 : Cond.methodLink RX11 365 yX4_target ∈ zT := zmem1 zsub_5 224 rfl rfl
theorem kV_RX11_205 {R : Room} {s : State} {args : Array Value} {d mc ms : Nat} (hts : ∀ w ∈ zT, w.before args s = true) (h1 : d + 1 ≤ R.frames) (h2 : 8 + (3 + 11) + 40 * d ≤ R.locals) : CallW R s args RX11 RX6 205 yX6_begin cX6_begin 3 none (zW yX6_begin cX6_begin 3 none) (zR d mc ms) mc ms 1 := z_cwV hts m_co_X6_begin m_ml_RX11_205 m_im_X6_begin m_se_X6_begin m_ii_RX6 (by decide +kernel) h1 h2
theorem kV_RX11_228 {R : Room} {s : State} {args : Array Value} {d mc ms : Nat} (hts : ∀ w ∈ zT, w.before args s = true) (h1 : d + 1 ≤ R.frames) (h2 : 8 + (3 + 11) + 40 * d ≤ R.locals) : CallW R s args RX11 RX6 228 yX6_shutRoad cX6_shutRoad 3 none (zW yX6_shutRoad cX6_shutRoad 3 none) (zR d mc ms) mc ms 2 := z_cwV hts m_co_X6_shutRoad m_ml_RX11_228 m_im_X6_shutRoad m_se_X6_shutRoad m_ii_RX6 (by decide +kernel) h1 h2
theorem kV_RX11_208 {R : Room} {s : State} {args : Array Value} {d mc ms : Nat} (hts : ∀ w ∈ zT, w.before args s = true) (h1 : d + 1 ≤ R.frames) (h2 : 8 + (4 + 11) + 40 * d ≤ R.locals) : CallW R s args RX11 RX6 208 yX6_run cX6_run 4 none (zW yX6_run cX6_run 4 none) (zR d mc ms) mc ms 1 := z_cwV hts m_co_X6_run m_ml_RX11_208 m_im_X6_run m_se_X6_run m_ii_RX6 (by decide +kernel) h1 h2
theorem kV_RX11_174 {R : Room} {s : State} {args : Array Value} {d mc ms : Nat} (hts : ∀ w ∈ zT, w.before args s = true) (h1 : d + 1 ≤ R.frames) (h2 : 8 + (2 + 11) + 40 * d ≤ R.locals) : CallW R s args RX11 RX4 174 yX4_isInn cX4_isInn 2 (some .boolean) (zW yX4_isInn cX4_isInn 2 (some .boolean)) (zR d mc ms) mc ms 1 := z_cwV hts m_co_X4_isInn m_ml_RX11_174 m_im_X4_isInn m_se_X4_isInn m_ii_RX4 (by decide +kernel) h1 h2
theorem kV_RX11_145 {R : Room} {s : State} {args : Array Value} {d mc ms : Nat} (hts : ∀ w ∈ zT, w.before args s = true) (h1 : d + 1 ≤ R.frames) (h2 : 8 + (5 + 11) + 40 * d ≤ R.locals) : CallW R s args RX11 RX1 145 yX1_goThrough cX1_goThrough 5 (some .int) (zW yX1_goThrough cX1_goThrough 5 (some .int)) (zR d mc ms) mc ms 3 := z_cwV hts m_co_X1_goThrough m_ml_RX11_145 m_im_X1_goThrough m_se_X1_goThrough m_ii_RX1 (by decide +kernel) h1 h2
theorem kV_RX11_152 {R : Room} {s : State} {args : Array Value} {d mc ms : Nat} (hts : ∀ w ∈ zT, w.before args s = true) (h1 : d + 1 ≤ R.frames) (h2 : 8 + (3 + 11) + 40 * d ≤ R.locals) : CallW R s args RX11 RX1 152 yX1_told cX1_told 3 (some .int) (zW yX1_told cX1_told 3 (some .int)) (zR d mc ms) mc ms 1 := z_cwV hts m_co_X1_told m_ml_RX11_152 m_im_X1_told m_se_X1_told m_ii_RX1 (by decide +kernel) h1 h2
theorem kV_RX11_153 {R : Room} {s : State} {args : Array Value} {d mc ms : Nat} (hts : ∀ w ∈ zT, w.before args s = true) (h1 : d + 1 ≤ R.frames) (h2 : 8 + (2 + 11) + 40 * d ≤ R.locals) : CallW R s args RX11 RX1 153 yX1_toldAfter cX1_toldAfter 2 (some .int) (zW yX1_toldAfter cX1_toldAfter 2 (some .int)) (zR d mc ms) mc ms 1 := z_cwV hts m_co_X1_toldAfter m_ml_RX11_153 m_im_X1_toldAfter m_se_X1_toldAfter m_ii_RX1 (by decide +kernel) h1 h2
theorem kV_RX11_156 {R : Room} {s : State} {args : Array Value} {d mc ms : Nat} (hts : ∀ w ∈ zT, w.before args s = true) (h1 : d + 1 ≤ R.frames) (h2 : 8 + (8 + 11) + 40 * d ≤ R.locals) : CallW R s args RX11 RX1 156 yX1_draw cX1_draw 8 none (zW yX1_draw cX1_draw 8 none) (zR d mc ms) mc ms 3 := z_cwV hts m_co_X1_draw m_ml_RX11_156 m_im_X1_draw m_se_X1_draw m_ii_RX1 (by decide +kernel) h1 h2
theorem kV_RX11_164 {R : Room} {s : State} {args : Array Value} {d mc ms : Nat} (hts : ∀ w ∈ zT, w.before args s = true) (h1 : d + 1 ≤ R.frames) (h2 : 8 + (6 + 11) + 40 * d ≤ R.locals) : CallW R s args RX11 RX10 164 yX10_follow cX10_follow 6 none (zW yX10_follow cX10_follow 6 none) (zR d mc ms) mc ms 2 := z_cwV hts m_co_X10_follow m_ml_RX11_164 m_im_X10_follow m_se_X10_follow m_ii_RX10 (by decide +kernel) h1 h2
theorem kV_RX11_186 {R : Room} {s : State} {args : Array Value} {d mc ms : Nat} (hts : ∀ w ∈ zT, w.before args s = true) (h1 : d + 1 ≤ R.frames) (h2 : 8 + (3 + 11) + 40 * d ≤ R.locals) : CallW R s args RX11 RX10 186 yX10_unused cX10_unused 3 (some .int) (zW yX10_unused cX10_unused 3 (some .int)) (zR d mc ms) mc ms 0 := z_cwV hts m_co_X10_unused m_ml_RX11_186 m_im_X10_unused m_se_X10_unused m_ii_RX10 (by decide +kernel) h1 h2
theorem kV_RX11_190 {R : Room} {s : State} {args : Array Value} {d mc ms : Nat} (hts : ∀ w ∈ zT, w.before args s = true) (h1 : d + 1 ≤ R.frames) (h2 : 8 + (4 + 11) + 40 * d ≤ R.locals) : CallW R s args RX11 RX10 190 yX10_round cX10_round 4 (some .int) (zW yX10_round cX10_round 4 (some .int)) (zR d mc ms) mc ms 0 := z_cwV hts m_co_X10_round m_ml_RX11_190 m_im_X10_round m_se_X10_round m_ii_RX10 (by decide +kernel) h1 h2
theorem kV_RX11_193 {R : Room} {s : State} {args : Array Value} {d mc ms : Nat} (hts : ∀ w ∈ zT, w.before args s = true) (h1 : d + 1 ≤ R.frames) (h2 : 8 + (4 + 11) + 40 * d ≤ R.locals) : CallW R s args RX11 RX1 193 yX1_goAll cX1_goAll 4 none (zW yX1_goAll cX1_goAll 4 none) (zR d mc ms) mc ms 1 := z_cwV hts m_co_X1_goAll m_ml_RX11_193 m_im_X1_goAll m_se_X1_goAll m_ii_RX1 (by decide +kernel) h1 h2
theorem kV_RX11_212 {R : Room} {s : State} {args : Array Value} {d mc ms : Nat} (hts : ∀ w ∈ zT, w.before args s = true) (h1 : d + 1 ≤ R.frames) (h2 : 8 + (3 + 11) + 40 * d ≤ R.locals) : CallW R s args RX11 RX6 212 yX6_code cX6_code 3 (some .int) (zW yX6_code cX6_code 3 (some .int)) (zR d mc ms) mc ms 0 := z_cwV hts m_co_X6_code m_ml_RX11_212 m_im_X6_code m_se_X6_code m_ii_RX6 (by decide +kernel) h1 h2
theorem kV_RX11_215 {R : Room} {s : State} {args : Array Value} {d mc ms : Nat} (hts : ∀ w ∈ zT, w.before args s = true) (h1 : d + 1 ≤ R.frames) (h2 : 8 + (4 + 11) + 40 * d ≤ R.locals) : CallW R s args RX11 RX11 215 yX11_placeOfCode cX11_placeOfCode 4 (some .int) (zW yX11_placeOfCode cX11_placeOfCode 4 (some .int)) (zR d mc ms) mc ms 2 := z_cwV hts m_co_X11_placeOfCode m_ml_RX11_215 m_im_X11_placeOfCode m_se_X11_placeOfCode m_ii_RX11 (by decide +kernel) h1 h2
theorem kV_RX11_221 {R : Room} {s : State} {args : Array Value} {d mc ms : Nat} (hts : ∀ w ∈ zT, w.before args s = true) (h1 : d + 1 ≤ R.frames) (h2 : 8 + (2 + 11) + 40 * d ≤ R.locals) : CallW R s args RX11 RX4 221 yX4_waysOut cX4_waysOut 2 (some .int) (zW yX4_waysOut cX4_waysOut 2 (some .int)) (zR d mc ms) mc ms 1 := z_cwV hts m_co_X4_waysOut m_ml_RX11_221 m_im_X4_waysOut m_se_X4_waysOut m_ii_RX4 (by decide +kernel) h1 h2
theorem kV_RX11_224 {R : Room} {s : State} {args : Array Value} {d mc ms : Nat} (hts : ∀ w ∈ zT, w.before args s = true) (h1 : d + 1 ≤ R.frames) (h2 : 8 + (5 + 11) + 40 * d ≤ R.locals) : CallW R s args RX11 RX11 224 yX11_isKey cX11_isKey 5 (some .boolean) (zW yX11_isKey cX11_isKey 5 (some .boolean)) (zR d mc ms) mc ms 4 := z_cwV hts m_co_X11_isKey m_ml_RX11_224 m_im_X11_isKey m_se_X11_isKey m_ii_RX11 (by decide +kernel) h1 h2
theorem kS_RX11_368 {R : Room} {s : State} {args : Array Value} {d mc ms : Nat} (hts : ∀ w ∈ zT, w.before args s = true) (h1 : d + 1 ≤ R.frames) (h2 : 8 + (4 + 11) + 40 * d ≤ R.locals) : CallB R s args RX11 368 yX8_ring cX8_ring 4 (some .int) (zW yX8_ring cX8_ring 4 (some .int)) (zR d mc ms) mc ms 2 ∧ (Cond.static yX8_ring).before args s = true := z_cwS hts m_co_X8_ring m_ml_RX11_368 m_st_X8_ring m_ii_RX8 (by decide +kernel) h1 h2
theorem kV_RX11_365 {R : Room} {s : State} {args : Array Value} {d mc ms : Nat} (hts : ∀ w ∈ zT, w.before args s = true) (h1 : d + 1 ≤ R.frames) (h2 : 8 + (3 + 11) + 40 * d ≤ R.locals) : CallW R s args RX11 RX4 365 yX4_target cX4_target 3 (some .int) (zW yX4_target cX4_target 3 (some .int)) (zR d mc ms) mc ms 2 := z_cwV hts m_co_X4_target m_ml_RX11_365 m_im_X4_target m_se_X4_target m_ii_RX4 (by decide +kernel) h1 h2
theorem dX11_inLeastTerms_0 : decode cX11_inLeastTerms 0 = .ok (.iload_n 0, 1) := zo_26 (by decide +kernel)
theorem dX11_inLeastTerms_1 : decode cX11_inLeastTerms 1 = .ok (.istore_n 3, 1) := zo_62 (by decide +kernel)
theorem dX11_inLeastTerms_2 : decode cX11_inLeastTerms 2 = .ok (.iload_n 1, 1) := zo_27 (by decide +kernel)
theorem dX11_inLeastTerms_3 : decode cX11_inLeastTerms 3 = .ok (.istore 4, 2) := zo_54 (by decide +kernel)
theorem dX11_inLeastTerms_5 : decode cX11_inLeastTerms 5 = .ok (.iconst 0, 1) := zo_3 (by decide +kernel)
theorem dX11_inLeastTerms_6 : decode cX11_inLeastTerms 6 = .ok (.istore 5, 2) := zo_54 (by decide +kernel)
theorem dX11_inLeastTerms_8 : decode cX11_inLeastTerms 8 = .ok (.iload 5, 2) := zo_21 (by decide +kernel)
theorem dX11_inLeastTerms_10 : decode cX11_inLeastTerms 10 = .ok (.bipush 100, 2) := zo_16 (by decide +kernel)
theorem dX11_inLeastTerms_12 : decode cX11_inLeastTerms 12 = .ok (.if_icmp .ge 27, 3) := zo_162 (by decide +kernel)
theorem dX11_inLeastTerms_15 : decode cX11_inLeastTerms 15 = .ok (.iload 4, 2) := zo_21 (by decide +kernel)
theorem dX11_inLeastTerms_17 : decode cX11_inLeastTerms 17 = .ok (.ifCond .eq 22, 3) := zo_153 (by decide +kernel)
theorem dX11_inLeastTerms_20 : decode cX11_inLeastTerms 20 = .ok (.iload_n 3, 1) := zo_29 (by decide +kernel)
theorem dX11_inLeastTerms_21 : decode cX11_inLeastTerms 21 = .ok (.iload 4, 2) := zo_21 (by decide +kernel)
theorem dX11_inLeastTerms_23 : decode cX11_inLeastTerms 23 = .ok (.irem, 1) := zo_112 (by decide +kernel)
theorem dX11_inLeastTerms_24 : decode cX11_inLeastTerms 24 = .ok (.istore 6, 2) := zo_54 (by decide +kernel)
theorem dX11_inLeastTerms_26 : decode cX11_inLeastTerms 26 = .ok (.iload 4, 2) := zo_21 (by decide +kernel)
theorem dX11_inLeastTerms_28 : decode cX11_inLeastTerms 28 = .ok (.istore_n 3, 1) := zo_62 (by decide +kernel)
theorem dX11_inLeastTerms_29 : decode cX11_inLeastTerms 29 = .ok (.iload 6, 2) := zo_21 (by decide +kernel)
theorem dX11_inLeastTerms_31 : decode cX11_inLeastTerms 31 = .ok (.istore 4, 2) := zo_54 (by decide +kernel)
theorem dX11_inLeastTerms_33 : decode cX11_inLeastTerms 33 = .ok (.iinc 5 1, 3) := zo_132 (by decide +kernel)
theorem dX11_inLeastTerms_36 : decode cX11_inLeastTerms 36 = .ok (.goto (-28), 3) := zo_167 (by decide +kernel)
theorem dX11_inLeastTerms_39 : decode cX11_inLeastTerms 39 = .ok (.iload_n 2, 1) := zo_28 (by decide +kernel)
theorem dX11_inLeastTerms_40 : decode cX11_inLeastTerms 40 = .ok (.ifCond .eq 7, 3) := zo_153 (by decide +kernel)
theorem dX11_inLeastTerms_43 : decode cX11_inLeastTerms 43 = .ok (.iload_n 1, 1) := zo_27 (by decide +kernel)
theorem dX11_inLeastTerms_44 : decode cX11_inLeastTerms 44 = .ok (.goto 4, 3) := zo_167 (by decide +kernel)
theorem dX11_inLeastTerms_47 : decode cX11_inLeastTerms 47 = .ok (.iload_n 0, 1) := zo_26 (by decide +kernel)
theorem dX11_inLeastTerms_48 : decode cX11_inLeastTerms 48 = .ok (.istore 5, 2) := zo_54 (by decide +kernel)
theorem dX11_inLeastTerms_50 : decode cX11_inLeastTerms 50 = .ok (.iload_n 3, 1) := zo_29 (by decide +kernel)
theorem dX11_inLeastTerms_51 : decode cX11_inLeastTerms 51 = .ok (.ifCond .ne 8, 3) := zo_154 (by decide +kernel)
theorem dX11_inLeastTerms_54 : decode cX11_inLeastTerms 54 = .ok (.iload 5, 2) := zo_21 (by decide +kernel)
theorem dX11_inLeastTerms_56 : decode cX11_inLeastTerms 56 = .ok (.goto 7, 3) := zo_167 (by decide +kernel)
theorem dX11_inLeastTerms_59 : decode cX11_inLeastTerms 59 = .ok (.iload 5, 2) := zo_21 (by decide +kernel)
theorem dX11_inLeastTerms_61 : decode cX11_inLeastTerms 61 = .ok (.iload_n 3, 1) := zo_29 (by decide +kernel)
theorem dX11_inLeastTerms_62 : decode cX11_inLeastTerms 62 = .ok (.idiv, 1) := zo_108 (by decide +kernel)
theorem dX11_inLeastTerms_63 : decode cX11_inLeastTerms 63 = .ok (.ireturn, 1) := zo_172 (by decide +kernel)
theorem dX11_placeOfCode_0 : decode cX11_placeOfCode 0 = .ok (.iconst 0, 1) := zo_3 (by decide +kernel)
theorem dX11_placeOfCode_1 : decode cX11_placeOfCode 1 = .ok (.istore_n 3, 1) := zo_62 (by decide +kernel)
theorem dX11_placeOfCode_2 : decode cX11_placeOfCode 2 = .ok (.iload_n 3, 1) := zo_29 (by decide +kernel)
theorem dX11_placeOfCode_3 : decode cX11_placeOfCode 3 = .ok (.iload_n 2, 1) := zo_28 (by decide +kernel)
theorem dX11_placeOfCode_4 : decode cX11_placeOfCode 4 = .ok (.if_icmp .ge 30, 3) := zo_162 (by decide +kernel)
theorem dX11_placeOfCode_7 : decode cX11_placeOfCode 7 = .ok (.iload_n 3, 1) := zo_29 (by decide +kernel)
theorem dX11_placeOfCode_8 : decode cX11_placeOfCode 8 = .ok (.aload_n 0, 1) := zo_42 (by decide +kernel)
theorem dX11_placeOfCode_9 : decode cX11_placeOfCode 9 = .ok (.getfield 69, 3) := zo_180 (by decide +kernel)
theorem dX11_placeOfCode_12 : decode cX11_placeOfCode 12 = .ok (.arraylength, 1) := zo_190 (by decide +kernel)
theorem dX11_placeOfCode_13 : decode cX11_placeOfCode 13 = .ok (.if_icmp .ge 21, 3) := zo_162 (by decide +kernel)
theorem dX11_placeOfCode_16 : decode cX11_placeOfCode 16 = .ok (.aload_n 0, 1) := zo_42 (by decide +kernel)
theorem dX11_placeOfCode_17 : decode cX11_placeOfCode 17 = .ok (.getfield 69, 3) := zo_180 (by decide +kernel)
theorem dX11_placeOfCode_20 : decode cX11_placeOfCode 20 = .ok (.iload_n 3, 1) := zo_29 (by decide +kernel)
theorem dX11_placeOfCode_21 : decode cX11_placeOfCode 21 = .ok (.iaload, 1) := zo_46 (by decide +kernel)
theorem dX11_placeOfCode_22 : decode cX11_placeOfCode 22 = .ok (.iload_n 1, 1) := zo_27 (by decide +kernel)
theorem dX11_placeOfCode_23 : decode cX11_placeOfCode 23 = .ok (.if_icmp .ne 5, 3) := zo_160 (by decide +kernel)
theorem dX11_placeOfCode_26 : decode cX11_placeOfCode 26 = .ok (.iload_n 3, 1) := zo_29 (by decide +kernel)
theorem dX11_placeOfCode_27 : decode cX11_placeOfCode 27 = .ok (.ireturn, 1) := zo_172 (by decide +kernel)
theorem dX11_placeOfCode_28 : decode cX11_placeOfCode 28 = .ok (.iinc 3 1, 3) := zo_132 (by decide +kernel)
theorem dX11_placeOfCode_31 : decode cX11_placeOfCode 31 = .ok (.goto (-29), 3) := zo_167 (by decide +kernel)
theorem dX11_placeOfCode_34 : decode cX11_placeOfCode 34 = .ok (.iconst (-1), 1) := zo_2 (by decide +kernel)
theorem dX11_placeOfCode_35 : decode cX11_placeOfCode 35 = .ok (.ireturn, 1) := zo_172 (by decide +kernel)
theorem dX11_isKey_0 : decode cX11_isKey 0 = .ok (.aload_n 0, 1) := zo_42 (by decide +kernel)
theorem dX11_isKey_1 : decode cX11_isKey 1 = .ok (.getfield 34, 3) := zo_180 (by decide +kernel)
theorem dX11_isKey_4 : decode cX11_isKey 4 = .ok (.aload_n 1, 1) := zo_43 (by decide +kernel)
theorem dX11_isKey_5 : decode cX11_isKey 5 = .ok (.invokevirtual 205, 3) := zo_182 (by decide +kernel)
theorem dX11_isKey_8 : decode cX11_isKey 8 = .ok (.aload_n 0, 1) := zo_42 (by decide +kernel)
theorem dX11_isKey_9 : decode cX11_isKey 9 = .ok (.getfield 34, 3) := zo_180 (by decide +kernel)
theorem dX11_isKey_12 : decode cX11_isKey 12 = .ok (.iload_n 3, 1) := zo_29 (by decide +kernel)
theorem dX11_isKey_13 : decode cX11_isKey 13 = .ok (.iload 4, 2) := zo_21 (by decide +kernel)
theorem dX11_isKey_15 : decode cX11_isKey 15 = .ok (.invokevirtual 228, 3) := zo_182 (by decide +kernel)
theorem dX11_isKey_18 : decode cX11_isKey 18 = .ok (.aload_n 0, 1) := zo_42 (by decide +kernel)
theorem dX11_isKey_19 : decode cX11_isKey 19 = .ok (.getfield 34, 3) := zo_180 (by decide +kernel)
theorem dX11_isKey_22 : decode cX11_isKey 22 = .ok (.iload_n 2, 1) := zo_28 (by decide +kernel)
theorem dX11_isKey_23 : decode cX11_isKey 23 = .ok (.invokevirtual 208, 3) := zo_182 (by decide +kernel)
theorem dX11_isKey_26 : decode cX11_isKey 26 = .ok (.aload_n 1, 1) := zo_43 (by decide +kernel)
theorem dX11_isKey_27 : decode cX11_isKey 27 = .ok (.aload_n 0, 1) := zo_42 (by decide +kernel)
theorem dX11_isKey_28 : decode cX11_isKey 28 = .ok (.getfield 34, 3) := zo_180 (by decide +kernel)
theorem dX11_isKey_31 : decode cX11_isKey 31 = .ok (.getfield 211, 3) := zo_180 (by decide +kernel)
theorem dX11_isKey_34 : decode cX11_isKey 34 = .ok (.invokevirtual 174, 3) := zo_182 (by decide +kernel)
theorem dX11_isKey_37 : decode cX11_isKey 37 = .ok (.ifCond .ne 7, 3) := zo_154 (by decide +kernel)
theorem dX11_isKey_40 : decode cX11_isKey 40 = .ok (.iconst 1, 1) := zo_4 (by decide +kernel)
theorem dX11_isKey_41 : decode cX11_isKey 41 = .ok (.goto 4, 3) := zo_167 (by decide +kernel)
theorem dX11_isKey_44 : decode cX11_isKey 44 = .ok (.iconst 0, 1) := zo_3 (by decide +kernel)
theorem dX11_isKey_45 : decode cX11_isKey 45 = .ok (.ireturn, 1) := zo_172 (by decide +kernel)
theorem dX11_stop_0 : decode cX11_stop 0 = .ok (.aload_n 0, 1) := zo_42 (by decide +kernel)
theorem dX11_stop_1 : decode cX11_stop 1 = .ok (.getfield 10, 3) := zo_180 (by decide +kernel)
theorem dX11_stop_4 : decode cX11_stop 4 = .ok (.iload_n 1, 1) := zo_27 (by decide +kernel)
theorem dX11_stop_5 : decode cX11_stop 5 = .ok (.invokevirtual 121, 3) := zo_182 (by decide +kernel)
theorem dX11_stop_8 : decode cX11_stop 8 = .ok (.astore_n 3, 1) := zo_78 (by decide +kernel)
theorem dX11_stop_9 : decode cX11_stop 9 = .ok (.aload_n 0, 1) := zo_42 (by decide +kernel)
theorem dX11_stop_10 : decode cX11_stop 10 = .ok (.getfield 10, 3) := zo_180 (by decide +kernel)
theorem dX11_stop_13 : decode cX11_stop 13 = .ok (.iload_n 2, 1) := zo_28 (by decide +kernel)
theorem dX11_stop_14 : decode cX11_stop 14 = .ok (.invokevirtual 130, 3) := zo_182 (by decide +kernel)
theorem dX11_stop_17 : decode cX11_stop 17 = .ok (.astore 4, 2) := zo_58 (by decide +kernel)
theorem dX11_stop_19 : decode cX11_stop 19 = .ok (.aload_n 3, 1) := zo_45 (by decide +kernel)
theorem dX11_stop_20 : decode cX11_stop 20 = .ok (.ifnull 8, 3) := zo_198 (by decide +kernel)
theorem dX11_stop_23 : decode cX11_stop 23 = .ok (.aload 4, 2) := zo_25 (by decide +kernel)
theorem dX11_stop_25 : decode cX11_stop 25 = .ok (.ifnonnull 7, 3) := zo_199 (by decide +kernel)
theorem dX11_stop_28 : decode cX11_stop 28 = .ok (.iconst (-1), 1) := zo_2 (by decide +kernel)
theorem dX11_stop_29 : decode cX11_stop 29 = .ok (.goto 15, 3) := zo_167 (by decide +kernel)
theorem dX11_stop_32 : decode cX11_stop 32 = .ok (.aload_n 0, 1) := zo_42 (by decide +kernel)
theorem dX11_stop_33 : decode cX11_stop 33 = .ok (.getfield 41, 3) := zo_180 (by decide +kernel)
theorem dX11_stop_36 : decode cX11_stop 36 = .ok (.aload_n 3, 1) := zo_45 (by decide +kernel)
theorem dX11_stop_37 : decode cX11_stop 37 = .ok (.aload 4, 2) := zo_25 (by decide +kernel)
theorem dX11_stop_39 : decode cX11_stop 39 = .ok (.bipush 40, 2) := zo_16 (by decide +kernel)
theorem dX11_stop_41 : decode cX11_stop 41 = .ok (.invokevirtual 145, 3) := zo_182 (by decide +kernel)
theorem dX11_stop_44 : decode cX11_stop 44 = .ok (.ireturn, 1) := zo_172 (by decide +kernel)
theorem dX11_state_0 : decode cX11_state 0 = .ok (.aload_n 0, 1) := zo_42 (by decide +kernel)
theorem dX11_state_1 : decode cX11_state 1 = .ok (.getfield 10, 3) := zo_180 (by decide +kernel)
theorem dX11_state_4 : decode cX11_state 4 = .ok (.iload_n 1, 1) := zo_27 (by decide +kernel)
theorem dX11_state_5 : decode cX11_state 5 = .ok (.invokevirtual 121, 3) := zo_182 (by decide +kernel)
theorem dX11_state_8 : decode cX11_state 8 = .ok (.astore 5, 2) := zo_58 (by decide +kernel)
theorem dX11_state_10 : decode cX11_state 10 = .ok (.aload_n 0, 1) := zo_42 (by decide +kernel)
theorem dX11_state_11 : decode cX11_state 11 = .ok (.getfield 10, 3) := zo_180 (by decide +kernel)
theorem dX11_state_14 : decode cX11_state 14 = .ok (.iload_n 2, 1) := zo_28 (by decide +kernel)
theorem dX11_state_15 : decode cX11_state 15 = .ok (.invokevirtual 130, 3) := zo_182 (by decide +kernel)
theorem dX11_state_18 : decode cX11_state 18 = .ok (.astore 6, 2) := zo_58 (by decide +kernel)
theorem dX11_state_20 : decode cX11_state 20 = .ok (.aload 5, 2) := zo_25 (by decide +kernel)
theorem dX11_state_22 : decode cX11_state 22 = .ok (.ifnull 21, 3) := zo_198 (by decide +kernel)
theorem dX11_state_25 : decode cX11_state 25 = .ok (.aload 6, 2) := zo_25 (by decide +kernel)
theorem dX11_state_27 : decode cX11_state 27 = .ok (.ifnull 16, 3) := zo_198 (by decide +kernel)
theorem dX11_state_30 : decode cX11_state 30 = .ok (.iload_n 3, 1) := zo_29 (by decide +kernel)
theorem dX11_state_31 : decode cX11_state 31 = .ok (.ifCond .lt 12, 3) := zo_155 (by decide +kernel)
theorem dX11_state_34 : decode cX11_state 34 = .ok (.iload_n 3, 1) := zo_29 (by decide +kernel)
theorem dX11_state_35 : decode cX11_state 35 = .ok (.aload 6, 2) := zo_25 (by decide +kernel)
theorem dX11_state_37 : decode cX11_state 37 = .ok (.getfield 149, 3) := zo_180 (by decide +kernel)
theorem dX11_state_40 : decode cX11_state 40 = .ok (.if_icmp .le 6, 3) := zo_164 (by decide +kernel)
theorem dX11_state_43 : decode cX11_state 43 = .ok (.bipush (-2), 2) := zo_16 (by decide +kernel)
theorem dX11_state_45 : decode cX11_state 45 = .ok (.ireturn, 1) := zo_172 (by decide +kernel)
theorem dX11_state_46 : decode cX11_state 46 = .ok (.aload_n 0, 1) := zo_42 (by decide +kernel)
theorem dX11_state_47 : decode cX11_state 47 = .ok (.getfield 41, 3) := zo_180 (by decide +kernel)
theorem dX11_state_50 : decode cX11_state 50 = .ok (.aload 5, 2) := zo_25 (by decide +kernel)
theorem dX11_state_52 : decode cX11_state 52 = .ok (.aload 6, 2) := zo_25 (by decide +kernel)
theorem dX11_state_54 : decode cX11_state 54 = .ok (.iload_n 3, 1) := zo_29 (by decide +kernel)
theorem dX11_state_55 : decode cX11_state 55 = .ok (.invokevirtual 145, 3) := zo_182 (by decide +kernel)
theorem dX11_state_58 : decode cX11_state 58 = .ok (.iload_n 3, 1) := zo_29 (by decide +kernel)
theorem dX11_state_59 : decode cX11_state 59 = .ok (.if_icmp .ne 15, 3) := zo_160 (by decide +kernel)
theorem dX11_state_62 : decode cX11_state 62 = .ok (.aload_n 0, 1) := zo_42 (by decide +kernel)
theorem dX11_state_63 : decode cX11_state 63 = .ok (.getfield 41, 3) := zo_180 (by decide +kernel)
theorem dX11_state_66 : decode cX11_state 66 = .ok (.iload 4, 2) := zo_21 (by decide +kernel)
theorem dX11_state_68 : decode cX11_state 68 = .ok (.invokevirtual 152, 3) := zo_182 (by decide +kernel)
theorem dX11_state_71 : decode cX11_state 71 = .ok (.goto 5, 3) := zo_167 (by decide +kernel)
theorem dX11_state_74 : decode cX11_state 74 = .ok (.bipush (-2), 2) := zo_16 (by decide +kernel)
theorem dX11_state_76 : decode cX11_state 76 = .ok (.ireturn, 1) := zo_172 (by decide +kernel)
theorem dX11_after_0 : decode cX11_after 0 = .ok (.aload_n 0, 1) := zo_42 (by decide +kernel)
theorem dX11_after_1 : decode cX11_after 1 = .ok (.getfield 10, 3) := zo_180 (by decide +kernel)
theorem dX11_after_4 : decode cX11_after 4 = .ok (.iload_n 1, 1) := zo_27 (by decide +kernel)
theorem dX11_after_5 : decode cX11_after 5 = .ok (.invokevirtual 121, 3) := zo_182 (by decide +kernel)
theorem dX11_after_8 : decode cX11_after 8 = .ok (.astore 4, 2) := zo_58 (by decide +kernel)
theorem dX11_after_10 : decode cX11_after 10 = .ok (.aload_n 0, 1) := zo_42 (by decide +kernel)
theorem dX11_after_11 : decode cX11_after 11 = .ok (.getfield 10, 3) := zo_180 (by decide +kernel)
theorem dX11_after_14 : decode cX11_after 14 = .ok (.iload_n 2, 1) := zo_28 (by decide +kernel)
theorem dX11_after_15 : decode cX11_after 15 = .ok (.invokevirtual 130, 3) := zo_182 (by decide +kernel)
theorem dX11_after_18 : decode cX11_after 18 = .ok (.astore 5, 2) := zo_58 (by decide +kernel)
theorem dX11_after_20 : decode cX11_after 20 = .ok (.aload 4, 2) := zo_25 (by decide +kernel)
theorem dX11_after_22 : decode cX11_after 22 = .ok (.ifnull 8, 3) := zo_198 (by decide +kernel)
theorem dX11_after_25 : decode cX11_after 25 = .ok (.aload 5, 2) := zo_25 (by decide +kernel)
theorem dX11_after_27 : decode cX11_after 27 = .ok (.ifnonnull 6, 3) := zo_199 (by decide +kernel)
theorem dX11_after_30 : decode cX11_after 30 = .ok (.bipush (-2), 2) := zo_16 (by decide +kernel)
theorem dX11_after_32 : decode cX11_after 32 = .ok (.ireturn, 1) := zo_172 (by decide +kernel)
theorem dX11_after_33 : decode cX11_after 33 = .ok (.aload_n 0, 1) := zo_42 (by decide +kernel)
theorem dX11_after_34 : decode cX11_after 34 = .ok (.getfield 41, 3) := zo_180 (by decide +kernel)
theorem dX11_after_37 : decode cX11_after 37 = .ok (.aload 4, 2) := zo_25 (by decide +kernel)
theorem dX11_after_39 : decode cX11_after 39 = .ok (.aload 5, 2) := zo_25 (by decide +kernel)
theorem dX11_after_41 : decode cX11_after 41 = .ok (.bipush 40, 2) := zo_16 (by decide +kernel)
theorem dX11_after_43 : decode cX11_after 43 = .ok (.invokevirtual 145, 3) := zo_182 (by decide +kernel)
theorem dX11_after_46 : decode cX11_after 46 = .ok (.pop, 1) := zo_87 (by decide +kernel)
theorem dX11_after_47 : decode cX11_after 47 = .ok (.aload_n 0, 1) := zo_42 (by decide +kernel)
theorem dX11_after_48 : decode cX11_after 48 = .ok (.getfield 41, 3) := zo_180 (by decide +kernel)
theorem dX11_after_51 : decode cX11_after 51 = .ok (.iload_n 3, 1) := zo_29 (by decide +kernel)
theorem dX11_after_52 : decode cX11_after 52 = .ok (.invokevirtual 153, 3) := zo_182 (by decide +kernel)
theorem dX11_after_55 : decode cX11_after 55 = .ok (.ireturn, 1) := zo_172 (by decide +kernel)
theorem dX11_drawn_0 : decode cX11_drawn 0 = .ok (.aload_n 0, 1) := zo_42 (by decide +kernel)
theorem dX11_drawn_1 : decode cX11_drawn 1 = .ok (.getfield 10, 3) := zo_180 (by decide +kernel)
theorem dX11_drawn_4 : decode cX11_drawn 4 = .ok (.iload_n 1, 1) := zo_27 (by decide +kernel)
theorem dX11_drawn_5 : decode cX11_drawn 5 = .ok (.invokevirtual 121, 3) := zo_182 (by decide +kernel)
theorem dX11_drawn_8 : decode cX11_drawn 8 = .ok (.astore 5, 2) := zo_58 (by decide +kernel)
theorem dX11_drawn_10 : decode cX11_drawn 10 = .ok (.aload 5, 2) := zo_25 (by decide +kernel)
theorem dX11_drawn_12 : decode cX11_drawn 12 = .ok (.ifnull 13, 3) := zo_198 (by decide +kernel)
theorem dX11_drawn_15 : decode cX11_drawn 15 = .ok (.iload_n 3, 1) := zo_29 (by decide +kernel)
theorem dX11_drawn_16 : decode cX11_drawn 16 = .ok (.ifCond .lt 9, 3) := zo_155 (by decide +kernel)
theorem dX11_drawn_19 : decode cX11_drawn 19 = .ok (.iload_n 3, 1) := zo_29 (by decide +kernel)
theorem dX11_drawn_20 : decode cX11_drawn 20 = .ok (.bipush 60, 2) := zo_16 (by decide +kernel)
theorem dX11_drawn_22 : decode cX11_drawn 22 = .ok (.if_icmp .le 6, 3) := zo_164 (by decide +kernel)
theorem dX11_drawn_25 : decode cX11_drawn 25 = .ok (.bipush (-2), 2) := zo_16 (by decide +kernel)
theorem dX11_drawn_27 : decode cX11_drawn 27 = .ok (.ireturn, 1) := zo_172 (by decide +kernel)
theorem dX11_drawn_28 : decode cX11_drawn 28 = .ok (.aload_n 0, 1) := zo_42 (by decide +kernel)
theorem dX11_drawn_29 : decode cX11_drawn 29 = .ok (.getfield 41, 3) := zo_180 (by decide +kernel)
theorem dX11_drawn_32 : decode cX11_drawn 32 = .ok (.aload 5, 2) := zo_25 (by decide +kernel)
theorem dX11_drawn_34 : decode cX11_drawn 34 = .ok (.iload_n 2, 1) := zo_28 (by decide +kernel)
theorem dX11_drawn_35 : decode cX11_drawn 35 = .ok (.iload_n 3, 1) := zo_29 (by decide +kernel)
theorem dX11_drawn_36 : decode cX11_drawn 36 = .ok (.invokevirtual 156, 3) := zo_182 (by decide +kernel)
theorem dX11_drawn_39 : decode cX11_drawn 39 = .ok (.aload_n 0, 1) := zo_42 (by decide +kernel)
theorem dX11_drawn_40 : decode cX11_drawn 40 = .ok (.getfield 41, 3) := zo_180 (by decide +kernel)
theorem dX11_drawn_43 : decode cX11_drawn 43 = .ok (.iload 4, 2) := zo_21 (by decide +kernel)
theorem dX11_drawn_45 : decode cX11_drawn 45 = .ok (.invokevirtual 152, 3) := zo_182 (by decide +kernel)
theorem dX11_drawn_48 : decode cX11_drawn 48 = .ok (.ireturn, 1) := zo_172 (by decide +kernel)
theorem dX11_walk_0 : decode cX11_walk 0 = .ok (.aload_n 0, 1) := zo_42 (by decide +kernel)
theorem dX11_walk_1 : decode cX11_walk 1 = .ok (.getfield 10, 3) := zo_180 (by decide +kernel)
theorem dX11_walk_4 : decode cX11_walk 4 = .ok (.iload_n 1, 1) := zo_27 (by decide +kernel)
theorem dX11_walk_5 : decode cX11_walk 5 = .ok (.invokevirtual 121, 3) := zo_182 (by decide +kernel)
theorem dX11_walk_8 : decode cX11_walk 8 = .ok (.astore 4, 2) := zo_58 (by decide +kernel)
theorem dX11_walk_10 : decode cX11_walk 10 = .ok (.aload 4, 2) := zo_25 (by decide +kernel)
theorem dX11_walk_12 : decode cX11_walk 12 = .ok (.ifnull 12, 3) := zo_198 (by decide +kernel)
theorem dX11_walk_15 : decode cX11_walk 15 = .ok (.aload 4, 2) := zo_25 (by decide +kernel)
theorem dX11_walk_17 : decode cX11_walk 17 = .ok (.iload_n 2, 1) := zo_28 (by decide +kernel)
theorem dX11_walk_18 : decode cX11_walk 18 = .ok (.invokevirtual 160, 3) := zo_182 (by decide +kernel)
theorem dX11_walk_21 : decode cX11_walk 21 = .ok (.ifCond .ne 6, 3) := zo_154 (by decide +kernel)
theorem dX11_walk_24 : decode cX11_walk 24 = .ok (.bipush (-2), 2) := zo_16 (by decide +kernel)
theorem dX11_walk_26 : decode cX11_walk 26 = .ok (.ireturn, 1) := zo_172 (by decide +kernel)
theorem dX11_walk_27 : decode cX11_walk 27 = .ok (.aload_n 0, 1) := zo_42 (by decide +kernel)
theorem dX11_walk_28 : decode cX11_walk 28 = .ok (.getfield 48, 3) := zo_180 (by decide +kernel)
theorem dX11_walk_31 : decode cX11_walk 31 = .ok (.aload 4, 2) := zo_25 (by decide +kernel)
theorem dX11_walk_33 : decode cX11_walk 33 = .ok (.iload_n 2, 1) := zo_28 (by decide +kernel)
theorem dX11_walk_34 : decode cX11_walk 34 = .ok (.invokevirtual 164, 3) := zo_182 (by decide +kernel)
theorem dX11_walk_37 : decode cX11_walk 37 = .ok (.iload_n 3, 1) := zo_29 (by decide +kernel)
theorem dX11_walk_38 : decode cX11_walk 38 = .ok (.tableswitch 63 0 2 #[26, 34, 42], 26) := by decide +kernel
theorem dX11_walk_64 : decode cX11_walk 64 = .ok (.aload_n 0, 1) := zo_42 (by decide +kernel)
theorem dX11_walk_65 : decode cX11_walk 65 = .ok (.getfield 48, 3) := zo_180 (by decide +kernel)
theorem dX11_walk_68 : decode cX11_walk 68 = .ok (.getfield 168, 3) := zo_180 (by decide +kernel)
theorem dX11_walk_71 : decode cX11_walk 71 = .ok (.ireturn, 1) := zo_172 (by decide +kernel)
theorem dX11_walk_72 : decode cX11_walk 72 = .ok (.aload_n 0, 1) := zo_42 (by decide +kernel)
theorem dX11_walk_73 : decode cX11_walk 73 = .ok (.getfield 48, 3) := zo_180 (by decide +kernel)
theorem dX11_walk_76 : decode cX11_walk 76 = .ok (.getfield 171, 3) := zo_180 (by decide +kernel)
theorem dX11_walk_79 : decode cX11_walk 79 = .ok (.ireturn, 1) := zo_172 (by decide +kernel)
theorem dX11_walk_80 : decode cX11_walk 80 = .ok (.aload 4, 2) := zo_25 (by decide +kernel)
theorem dX11_walk_82 : decode cX11_walk 82 = .ok (.aload_n 0, 1) := zo_42 (by decide +kernel)
theorem dX11_walk_83 : decode cX11_walk 83 = .ok (.getfield 48, 3) := zo_180 (by decide +kernel)
theorem dX11_walk_86 : decode cX11_walk 86 = .ok (.getfield 171, 3) := zo_180 (by decide +kernel)
theorem dX11_walk_89 : decode cX11_walk 89 = .ok (.invokevirtual 174, 3) := zo_182 (by decide +kernel)
theorem dX11_walk_92 : decode cX11_walk 92 = .ok (.ifCond .eq 7, 3) := zo_153 (by decide +kernel)
theorem dX11_walk_95 : decode cX11_walk 95 = .ok (.iconst 1, 1) := zo_4 (by decide +kernel)
theorem dX11_walk_96 : decode cX11_walk 96 = .ok (.goto 4, 3) := zo_167 (by decide +kernel)
theorem dX11_walk_99 : decode cX11_walk 99 = .ok (.iconst 0, 1) := zo_3 (by decide +kernel)
theorem dX11_walk_100 : decode cX11_walk 100 = .ok (.ireturn, 1) := zo_172 (by decide +kernel)
theorem dX11_walk_101 : decode cX11_walk 101 = .ok (.aload 4, 2) := zo_25 (by decide +kernel)
theorem dX11_walk_103 : decode cX11_walk 103 = .ok (.iload_n 3, 1) := zo_29 (by decide +kernel)
theorem dX11_walk_104 : decode cX11_walk 104 = .ok (.bipush 10, 2) := zo_16 (by decide +kernel)
theorem dX11_walk_106 : decode cX11_walk 106 = .ok (.isub, 1) := zo_100 (by decide +kernel)
theorem dX11_walk_107 : decode cX11_walk 107 = .ok (.invokevirtual 160, 3) := zo_182 (by decide +kernel)
theorem dX11_walk_110 : decode cX11_walk 110 = .ok (.ifCond .eq 18, 3) := zo_153 (by decide +kernel)
theorem dX11_walk_113 : decode cX11_walk 113 = .ok (.aload_n 0, 1) := zo_42 (by decide +kernel)
theorem dX11_walk_114 : decode cX11_walk 114 = .ok (.getfield 48, 3) := zo_180 (by decide +kernel)
theorem dX11_walk_117 : decode cX11_walk 117 = .ok (.getfield 177, 3) := zo_180 (by decide +kernel)
theorem dX11_walk_120 : decode cX11_walk 120 = .ok (.iload_n 3, 1) := zo_29 (by decide +kernel)
theorem dX11_walk_121 : decode cX11_walk 121 = .ok (.bipush 10, 2) := zo_16 (by decide +kernel)
theorem dX11_walk_123 : decode cX11_walk 123 = .ok (.isub, 1) := zo_100 (by decide +kernel)
theorem dX11_walk_124 : decode cX11_walk 124 = .ok (.iaload, 1) := zo_46 (by decide +kernel)
theorem dX11_walk_125 : decode cX11_walk 125 = .ok (.goto 5, 3) := zo_167 (by decide +kernel)
theorem dX11_walk_128 : decode cX11_walk 128 = .ok (.bipush (-2), 2) := zo_16 (by decide +kernel)
theorem dX11_walk_130 : decode cX11_walk 130 = .ok (.ireturn, 1) := zo_172 (by decide +kernel)
theorem dX11_cover_0 : decode cX11_cover 0 = .ok (.aload_n 0, 1) := zo_42 (by decide +kernel)
theorem dX11_cover_1 : decode cX11_cover 1 = .ok (.getfield 10, 3) := zo_180 (by decide +kernel)
theorem dX11_cover_4 : decode cX11_cover 4 = .ok (.iload_n 1, 1) := zo_27 (by decide +kernel)
theorem dX11_cover_5 : decode cX11_cover 5 = .ok (.invokevirtual 121, 3) := zo_182 (by decide +kernel)
theorem dX11_cover_8 : decode cX11_cover 8 = .ok (.astore 4, 2) := zo_58 (by decide +kernel)
theorem dX11_cover_10 : decode cX11_cover 10 = .ok (.aload 4, 2) := zo_25 (by decide +kernel)
theorem dX11_cover_12 : decode cX11_cover 12 = .ok (.ifnull 12, 3) := zo_198 (by decide +kernel)
theorem dX11_cover_15 : decode cX11_cover 15 = .ok (.aload 4, 2) := zo_25 (by decide +kernel)
theorem dX11_cover_17 : decode cX11_cover 17 = .ok (.iload_n 2, 1) := zo_28 (by decide +kernel)
theorem dX11_cover_18 : decode cX11_cover 18 = .ok (.invokevirtual 160, 3) := zo_182 (by decide +kernel)
theorem dX11_cover_21 : decode cX11_cover 21 = .ok (.ifCond .ne 6, 3) := zo_154 (by decide +kernel)
theorem dX11_cover_24 : decode cX11_cover 24 = .ok (.bipush (-2), 2) := zo_16 (by decide +kernel)
theorem dX11_cover_26 : decode cX11_cover 26 = .ok (.ireturn, 1) := zo_172 (by decide +kernel)
theorem dX11_cover_27 : decode cX11_cover 27 = .ok (.aload_n 0, 1) := zo_42 (by decide +kernel)
theorem dX11_cover_28 : decode cX11_cover 28 = .ok (.getfield 48, 3) := zo_180 (by decide +kernel)
theorem dX11_cover_31 : decode cX11_cover 31 = .ok (.aload 4, 2) := zo_25 (by decide +kernel)
theorem dX11_cover_33 : decode cX11_cover 33 = .ok (.iload_n 2, 1) := zo_28 (by decide +kernel)
theorem dX11_cover_34 : decode cX11_cover 34 = .ok (.invokevirtual 164, 3) := zo_182 (by decide +kernel)
theorem dX11_cover_37 : decode cX11_cover 37 = .ok (.iload_n 3, 1) := zo_29 (by decide +kernel)
theorem dX11_cover_38 : decode cX11_cover 38 = .ok (.tableswitch 62 0 3 #[30, 38, 46, 54], 30) := by decide +kernel
theorem dX11_cover_68 : decode cX11_cover 68 = .ok (.aload_n 0, 1) := zo_42 (by decide +kernel)
theorem dX11_cover_69 : decode cX11_cover 69 = .ok (.getfield 48, 3) := zo_180 (by decide +kernel)
theorem dX11_cover_72 : decode cX11_cover 72 = .ok (.getfield 180, 3) := zo_180 (by decide +kernel)
theorem dX11_cover_75 : decode cX11_cover 75 = .ok (.ireturn, 1) := zo_172 (by decide +kernel)
theorem dX11_cover_76 : decode cX11_cover 76 = .ok (.aload_n 0, 1) := zo_42 (by decide +kernel)
theorem dX11_cover_77 : decode cX11_cover 77 = .ok (.getfield 48, 3) := zo_180 (by decide +kernel)
theorem dX11_cover_80 : decode cX11_cover 80 = .ok (.getfield 183, 3) := zo_180 (by decide +kernel)
theorem dX11_cover_83 : decode cX11_cover 83 = .ok (.ireturn, 1) := zo_172 (by decide +kernel)
theorem dX11_cover_84 : decode cX11_cover 84 = .ok (.aload_n 0, 1) := zo_42 (by decide +kernel)
theorem dX11_cover_85 : decode cX11_cover 85 = .ok (.getfield 48, 3) := zo_180 (by decide +kernel)
theorem dX11_cover_88 : decode cX11_cover 88 = .ok (.invokevirtual 186, 3) := zo_182 (by decide +kernel)
theorem dX11_cover_91 : decode cX11_cover 91 = .ok (.ireturn, 1) := zo_172 (by decide +kernel)
theorem dX11_cover_92 : decode cX11_cover 92 = .ok (.aload_n 0, 1) := zo_42 (by decide +kernel)
theorem dX11_cover_93 : decode cX11_cover 93 = .ok (.getfield 48, 3) := zo_180 (by decide +kernel)
theorem dX11_cover_96 : decode cX11_cover 96 = .ok (.invokevirtual 190, 3) := zo_182 (by decide +kernel)
theorem dX11_cover_99 : decode cX11_cover 99 = .ok (.ireturn, 1) := zo_172 (by decide +kernel)
theorem dX11_cover_100 : decode cX11_cover 100 = .ok (.bipush (-2), 2) := zo_16 (by decide +kernel)
theorem dX11_cover_102 : decode cX11_cover 102 = .ok (.ireturn, 1) := zo_172 (by decide +kernel)
theorem dX11_endOf_0 : decode cX11_endOf 0 = .ok (.aload_n 0, 1) := zo_42 (by decide +kernel)
theorem dX11_endOf_1 : decode cX11_endOf 1 = .ok (.getfield 10, 3) := zo_180 (by decide +kernel)
theorem dX11_endOf_4 : decode cX11_endOf 4 = .ok (.iload_n 1, 1) := zo_27 (by decide +kernel)
theorem dX11_endOf_5 : decode cX11_endOf 5 = .ok (.invokevirtual 121, 3) := zo_182 (by decide +kernel)
theorem dX11_endOf_8 : decode cX11_endOf 8 = .ok (.astore_n 3, 1) := zo_78 (by decide +kernel)
theorem dX11_endOf_9 : decode cX11_endOf 9 = .ok (.aload_n 3, 1) := zo_45 (by decide +kernel)
theorem dX11_endOf_10 : decode cX11_endOf 10 = .ok (.ifnonnull 6, 3) := zo_199 (by decide +kernel)
theorem dX11_endOf_13 : decode cX11_endOf 13 = .ok (.bipush (-2), 2) := zo_16 (by decide +kernel)
theorem dX11_endOf_15 : decode cX11_endOf 15 = .ok (.ireturn, 1) := zo_172 (by decide +kernel)
theorem dX11_endOf_16 : decode cX11_endOf 16 = .ok (.aload_n 0, 1) := zo_42 (by decide +kernel)
theorem dX11_endOf_17 : decode cX11_endOf 17 = .ok (.getfield 41, 3) := zo_180 (by decide +kernel)
theorem dX11_endOf_20 : decode cX11_endOf 20 = .ok (.aload_n 3, 1) := zo_45 (by decide +kernel)
theorem dX11_endOf_21 : decode cX11_endOf 21 = .ok (.invokevirtual 193, 3) := zo_182 (by decide +kernel)
theorem dX11_endOf_24 : decode cX11_endOf 24 = .ok (.iload_n 2, 1) := zo_28 (by decide +kernel)
theorem dX11_endOf_25 : decode cX11_endOf 25 = .ok (.ifCond .ne 11, 3) := zo_154 (by decide +kernel)
theorem dX11_endOf_28 : decode cX11_endOf 28 = .ok (.aload_n 0, 1) := zo_42 (by decide +kernel)
theorem dX11_endOf_29 : decode cX11_endOf 29 = .ok (.getfield 41, 3) := zo_180 (by decide +kernel)
theorem dX11_endOf_32 : decode cX11_endOf 32 = .ok (.getfield 197, 3) := zo_180 (by decide +kernel)
theorem dX11_endOf_35 : decode cX11_endOf 35 = .ok (.ireturn, 1) := zo_172 (by decide +kernel)
theorem dX11_endOf_36 : decode cX11_endOf 36 = .ok (.aload_n 3, 1) := zo_45 (by decide +kernel)
theorem dX11_endOf_37 : decode cX11_endOf 37 = .ok (.iload_n 2, 1) := zo_28 (by decide +kernel)
theorem dX11_endOf_38 : decode cX11_endOf 38 = .ok (.bipush 10, 2) := zo_16 (by decide +kernel)
theorem dX11_endOf_40 : decode cX11_endOf 40 = .ok (.isub, 1) := zo_100 (by decide +kernel)
theorem dX11_endOf_41 : decode cX11_endOf 41 = .ok (.invokevirtual 160, 3) := zo_182 (by decide +kernel)
theorem dX11_endOf_44 : decode cX11_endOf 44 = .ok (.ifCond .eq 16, 3) := zo_153 (by decide +kernel)
theorem dX11_endOf_47 : decode cX11_endOf 47 = .ok (.aload_n 0, 1) := zo_42 (by decide +kernel)
theorem dX11_endOf_48 : decode cX11_endOf 48 = .ok (.getfield 41, 3) := zo_180 (by decide +kernel)
theorem dX11_endOf_51 : decode cX11_endOf 51 = .ok (.getfield 198, 3) := zo_180 (by decide +kernel)
theorem dX11_endOf_54 : decode cX11_endOf 54 = .ok (.iload_n 2, 1) := zo_28 (by decide +kernel)
theorem dX11_endOf_55 : decode cX11_endOf 55 = .ok (.bipush 10, 2) := zo_16 (by decide +kernel)
theorem dX11_endOf_57 : decode cX11_endOf 57 = .ok (.isub, 1) := zo_100 (by decide +kernel)
theorem dX11_endOf_58 : decode cX11_endOf 58 = .ok (.iaload, 1) := zo_46 (by decide +kernel)
theorem dX11_endOf_59 : decode cX11_endOf 59 = .ok (.ireturn, 1) := zo_172 (by decide +kernel)
theorem dX11_endOf_60 : decode cX11_endOf 60 = .ok (.aload_n 3, 1) := zo_45 (by decide +kernel)
theorem dX11_endOf_61 : decode cX11_endOf 61 = .ok (.iload_n 2, 1) := zo_28 (by decide +kernel)
theorem dX11_endOf_62 : decode cX11_endOf 62 = .ok (.bipush 20, 2) := zo_16 (by decide +kernel)
theorem dX11_endOf_64 : decode cX11_endOf 64 = .ok (.isub, 1) := zo_100 (by decide +kernel)
theorem dX11_endOf_65 : decode cX11_endOf 65 = .ok (.invokevirtual 160, 3) := zo_182 (by decide +kernel)
theorem dX11_endOf_68 : decode cX11_endOf 68 = .ok (.ifCond .eq 21, 3) := zo_153 (by decide +kernel)
theorem dX11_endOf_71 : decode cX11_endOf 71 = .ok (.aload_n 0, 1) := zo_42 (by decide +kernel)
theorem dX11_endOf_72 : decode cX11_endOf 72 = .ok (.getfield 41, 3) := zo_180 (by decide +kernel)
theorem dX11_endOf_75 : decode cX11_endOf 75 = .ok (.getfield 201, 3) := zo_180 (by decide +kernel)
theorem dX11_endOf_78 : decode cX11_endOf 78 = .ok (.getfield 202, 3) := zo_180 (by decide +kernel)
theorem dX11_endOf_81 : decode cX11_endOf 81 = .ok (.iload_n 2, 1) := zo_28 (by decide +kernel)
theorem dX11_endOf_82 : decode cX11_endOf 82 = .ok (.bipush 20, 2) := zo_16 (by decide +kernel)
theorem dX11_endOf_84 : decode cX11_endOf 84 = .ok (.isub, 1) := zo_100 (by decide +kernel)
theorem dX11_endOf_85 : decode cX11_endOf 85 = .ok (.iaload, 1) := zo_46 (by decide +kernel)
theorem dX11_endOf_86 : decode cX11_endOf 86 = .ok (.goto 5, 3) := zo_167 (by decide +kernel)
theorem dX11_endOf_89 : decode cX11_endOf 89 = .ok (.bipush (-2), 2) := zo_16 (by decide +kernel)
theorem dX11_endOf_91 : decode cX11_endOf 91 = .ok (.ireturn, 1) := zo_172 (by decide +kernel)
theorem dX11_come_0 : decode cX11_come 0 = .ok (.aload_n 0, 1) := zo_42 (by decide +kernel)
theorem dX11_come_1 : decode cX11_come 1 = .ok (.getfield 10, 3) := zo_180 (by decide +kernel)
theorem dX11_come_4 : decode cX11_come 4 = .ok (.iload_n 1, 1) := zo_27 (by decide +kernel)
theorem dX11_come_5 : decode cX11_come 5 = .ok (.invokevirtual 121, 3) := zo_182 (by decide +kernel)
theorem dX11_come_8 : decode cX11_come 8 = .ok (.astore 4, 2) := zo_58 (by decide +kernel)
theorem dX11_come_10 : decode cX11_come 10 = .ok (.aload 4, 2) := zo_25 (by decide +kernel)
theorem dX11_come_12 : decode cX11_come 12 = .ok (.ifnull 23, 3) := zo_198 (by decide +kernel)
theorem dX11_come_15 : decode cX11_come 15 = .ok (.aload 4, 2) := zo_25 (by decide +kernel)
theorem dX11_come_17 : decode cX11_come 17 = .ok (.iload_n 2, 1) := zo_28 (by decide +kernel)
theorem dX11_come_18 : decode cX11_come 18 = .ok (.invokevirtual 160, 3) := zo_182 (by decide +kernel)
theorem dX11_come_21 : decode cX11_come 21 = .ok (.ifCond .eq 14, 3) := zo_153 (by decide +kernel)
theorem dX11_come_24 : decode cX11_come 24 = .ok (.iload_n 3, 1) := zo_29 (by decide +kernel)
theorem dX11_come_25 : decode cX11_come 25 = .ok (.iconst 1, 1) := zo_4 (by decide +kernel)
theorem dX11_come_26 : decode cX11_come 26 = .ok (.if_icmp .lt 9, 3) := zo_161 (by decide +kernel)
theorem dX11_come_29 : decode cX11_come 29 = .ok (.iload_n 3, 1) := zo_29 (by decide +kernel)
theorem dX11_come_30 : decode cX11_come 30 = .ok (.bipush 99, 2) := zo_16 (by decide +kernel)
theorem dX11_come_32 : decode cX11_come 32 = .ok (.if_icmp .le 5, 3) := zo_164 (by decide +kernel)
theorem dX11_come_35 : decode cX11_come 35 = .ok (.iconst (-1), 1) := zo_2 (by decide +kernel)
theorem dX11_come_36 : decode cX11_come 36 = .ok (.ireturn, 1) := zo_172 (by decide +kernel)
theorem dX11_come_37 : decode cX11_come 37 = .ok (.aload_n 0, 1) := zo_42 (by decide +kernel)
theorem dX11_come_38 : decode cX11_come 38 = .ok (.getfield 34, 3) := zo_180 (by decide +kernel)
theorem dX11_come_41 : decode cX11_come 41 = .ok (.aload 4, 2) := zo_25 (by decide +kernel)
theorem dX11_come_43 : decode cX11_come 43 = .ok (.invokevirtual 205, 3) := zo_182 (by decide +kernel)
theorem dX11_come_46 : decode cX11_come 46 = .ok (.iconst 0, 1) := zo_3 (by decide +kernel)
theorem dX11_come_47 : decode cX11_come 47 = .ok (.istore 5, 2) := zo_54 (by decide +kernel)
theorem dX11_come_49 : decode cX11_come 49 = .ok (.iload 5, 2) := zo_21 (by decide +kernel)
theorem dX11_come_51 : decode cX11_come 51 = .ok (.iload_n 3, 1) := zo_29 (by decide +kernel)
theorem dX11_come_52 : decode cX11_come 52 = .ok (.if_icmp .ge 17, 3) := zo_162 (by decide +kernel)
theorem dX11_come_55 : decode cX11_come 55 = .ok (.aload_n 0, 1) := zo_42 (by decide +kernel)
theorem dX11_come_56 : decode cX11_come 56 = .ok (.getfield 34, 3) := zo_180 (by decide +kernel)
theorem dX11_come_59 : decode cX11_come 59 = .ok (.iload_n 2, 1) := zo_28 (by decide +kernel)
theorem dX11_come_60 : decode cX11_come 60 = .ok (.invokevirtual 208, 3) := zo_182 (by decide +kernel)
theorem dX11_come_63 : decode cX11_come 63 = .ok (.iinc 5 1, 3) := zo_132 (by decide +kernel)
theorem dX11_come_66 : decode cX11_come 66 = .ok (.goto (-17), 3) := zo_167 (by decide +kernel)
theorem dX11_come_69 : decode cX11_come 69 = .ok (.aload_n 0, 1) := zo_42 (by decide +kernel)
theorem dX11_come_70 : decode cX11_come 70 = .ok (.getfield 34, 3) := zo_180 (by decide +kernel)
theorem dX11_come_73 : decode cX11_come 73 = .ok (.getfield 211, 3) := zo_180 (by decide +kernel)
theorem dX11_come_76 : decode cX11_come 76 = .ok (.ireturn, 1) := zo_172 (by decide +kernel)
theorem dX11_share_0 : decode cX11_share 0 = .ok (.aload_n 0, 1) := zo_42 (by decide +kernel)
theorem dX11_share_1 : decode cX11_share 1 = .ok (.getfield 10, 3) := zo_180 (by decide +kernel)
theorem dX11_share_4 : decode cX11_share 4 = .ok (.iload_n 1, 1) := zo_27 (by decide +kernel)
theorem dX11_share_5 : decode cX11_share 5 = .ok (.invokevirtual 121, 3) := zo_182 (by decide +kernel)
theorem dX11_share_8 : decode cX11_share 8 = .ok (.astore 5, 2) := zo_58 (by decide +kernel)
theorem dX11_share_10 : decode cX11_share 10 = .ok (.aload 5, 2) := zo_25 (by decide +kernel)
theorem dX11_share_12 : decode cX11_share 12 = .ok (.ifnull 32, 3) := zo_198 (by decide +kernel)
theorem dX11_share_15 : decode cX11_share 15 = .ok (.aload 5, 2) := zo_25 (by decide +kernel)
theorem dX11_share_17 : decode cX11_share 17 = .ok (.iload_n 2, 1) := zo_28 (by decide +kernel)
theorem dX11_share_18 : decode cX11_share 18 = .ok (.invokevirtual 160, 3) := zo_182 (by decide +kernel)
theorem dX11_share_21 : decode cX11_share 21 = .ok (.ifCond .eq 23, 3) := zo_153 (by decide +kernel)
theorem dX11_share_24 : decode cX11_share 24 = .ok (.aload 5, 2) := zo_25 (by decide +kernel)
theorem dX11_share_26 : decode cX11_share 26 = .ok (.iload 4, 2) := zo_21 (by decide +kernel)
theorem dX11_share_28 : decode cX11_share 28 = .ok (.invokevirtual 174, 3) := zo_182 (by decide +kernel)
theorem dX11_share_31 : decode cX11_share 31 = .ok (.ifCond .eq 13, 3) := zo_153 (by decide +kernel)
theorem dX11_share_34 : decode cX11_share 34 = .ok (.iload_n 3, 1) := zo_29 (by decide +kernel)
theorem dX11_share_35 : decode cX11_share 35 = .ok (.ifCond .lt 9, 3) := zo_155 (by decide +kernel)
theorem dX11_share_38 : decode cX11_share 38 = .ok (.iload_n 3, 1) := zo_29 (by decide +kernel)
theorem dX11_share_39 : decode cX11_share 39 = .ok (.bipush 99, 2) := zo_16 (by decide +kernel)
theorem dX11_share_41 : decode cX11_share 41 = .ok (.if_icmp .le 5, 3) := zo_164 (by decide +kernel)
theorem dX11_share_44 : decode cX11_share 44 = .ok (.iconst (-1), 1) := zo_2 (by decide +kernel)
theorem dX11_share_45 : decode cX11_share 45 = .ok (.ireturn, 1) := zo_172 (by decide +kernel)
theorem dX11_share_46 : decode cX11_share 46 = .ok (.iconst 0, 1) := zo_3 (by decide +kernel)
theorem dX11_share_47 : decode cX11_share 47 = .ok (.istore 6, 2) := zo_54 (by decide +kernel)
theorem dX11_share_49 : decode cX11_share 49 = .ok (.aload_n 0, 1) := zo_42 (by decide +kernel)
theorem dX11_share_50 : decode cX11_share 50 = .ok (.getfield 34, 3) := zo_180 (by decide +kernel)
theorem dX11_share_53 : decode cX11_share 53 = .ok (.aload 5, 2) := zo_25 (by decide +kernel)
theorem dX11_share_55 : decode cX11_share 55 = .ok (.invokevirtual 205, 3) := zo_182 (by decide +kernel)
theorem dX11_share_58 : decode cX11_share 58 = .ok (.iconst 0, 1) := zo_3 (by decide +kernel)
theorem dX11_share_59 : decode cX11_share 59 = .ok (.istore 7, 2) := zo_54 (by decide +kernel)
theorem dX11_share_61 : decode cX11_share 61 = .ok (.iload 7, 2) := zo_21 (by decide +kernel)
theorem dX11_share_63 : decode cX11_share 63 = .ok (.iload_n 3, 1) := zo_29 (by decide +kernel)
theorem dX11_share_64 : decode cX11_share 64 = .ok (.if_icmp .ge 32, 3) := zo_162 (by decide +kernel)
theorem dX11_share_67 : decode cX11_share 67 = .ok (.aload_n 0, 1) := zo_42 (by decide +kernel)
theorem dX11_share_68 : decode cX11_share 68 = .ok (.getfield 34, 3) := zo_180 (by decide +kernel)
theorem dX11_share_71 : decode cX11_share 71 = .ok (.iload_n 2, 1) := zo_28 (by decide +kernel)
theorem dX11_share_72 : decode cX11_share 72 = .ok (.invokevirtual 208, 3) := zo_182 (by decide +kernel)
theorem dX11_share_75 : decode cX11_share 75 = .ok (.aload_n 0, 1) := zo_42 (by decide +kernel)
theorem dX11_share_76 : decode cX11_share 76 = .ok (.getfield 34, 3) := zo_180 (by decide +kernel)
theorem dX11_share_79 : decode cX11_share 79 = .ok (.getfield 211, 3) := zo_180 (by decide +kernel)
theorem dX11_share_82 : decode cX11_share 82 = .ok (.iload 4, 2) := zo_21 (by decide +kernel)
theorem dX11_share_84 : decode cX11_share 84 = .ok (.if_icmp .ne 6, 3) := zo_160 (by decide +kernel)
theorem dX11_share_87 : decode cX11_share 87 = .ok (.iinc 6 1, 3) := zo_132 (by decide +kernel)
theorem dX11_share_90 : decode cX11_share 90 = .ok (.iinc 7 1, 3) := zo_132 (by decide +kernel)
theorem dX11_share_93 : decode cX11_share 93 = .ok (.goto (-32), 3) := zo_167 (by decide +kernel)
theorem dX11_share_96 : decode cX11_share 96 = .ok (.iload 6, 2) := zo_21 (by decide +kernel)
theorem dX11_share_98 : decode cX11_share 98 = .ok (.ireturn, 1) := zo_172 (by decide +kernel)
theorem dX11_period_0 : decode cX11_period 0 = .ok (.aload_n 0, 1) := zo_42 (by decide +kernel)
theorem dX11_period_1 : decode cX11_period 1 = .ok (.getfield 10, 3) := zo_180 (by decide +kernel)
theorem dX11_period_4 : decode cX11_period 4 = .ok (.iload_n 1, 1) := zo_27 (by decide +kernel)
theorem dX11_period_5 : decode cX11_period 5 = .ok (.invokevirtual 121, 3) := zo_182 (by decide +kernel)
theorem dX11_period_8 : decode cX11_period 8 = .ok (.astore 4, 2) := zo_58 (by decide +kernel)
theorem dX11_period_10 : decode cX11_period 10 = .ok (.aload 4, 2) := zo_25 (by decide +kernel)
theorem dX11_period_12 : decode cX11_period 12 = .ok (.ifnull 12, 3) := zo_198 (by decide +kernel)
theorem dX11_period_15 : decode cX11_period 15 = .ok (.aload 4, 2) := zo_25 (by decide +kernel)
theorem dX11_period_17 : decode cX11_period 17 = .ok (.iload_n 2, 1) := zo_28 (by decide +kernel)
theorem dX11_period_18 : decode cX11_period 18 = .ok (.invokevirtual 160, 3) := zo_182 (by decide +kernel)
theorem dX11_period_21 : decode cX11_period 21 = .ok (.ifCond .ne 5, 3) := zo_154 (by decide +kernel)
theorem dX11_period_24 : decode cX11_period 24 = .ok (.iconst (-1), 1) := zo_2 (by decide +kernel)
theorem dX11_period_25 : decode cX11_period 25 = .ok (.ireturn, 1) := zo_172 (by decide +kernel)
theorem dX11_period_26 : decode cX11_period 26 = .ok (.aload_n 0, 1) := zo_42 (by decide +kernel)
theorem dX11_period_27 : decode cX11_period 27 = .ok (.getfield 34, 3) := zo_180 (by decide +kernel)
theorem dX11_period_30 : decode cX11_period 30 = .ok (.aload 4, 2) := zo_25 (by decide +kernel)
theorem dX11_period_32 : decode cX11_period 32 = .ok (.invokevirtual 205, 3) := zo_182 (by decide +kernel)
theorem dX11_period_35 : decode cX11_period 35 = .ok (.aload_n 0, 1) := zo_42 (by decide +kernel)
theorem dX11_period_36 : decode cX11_period 36 = .ok (.getfield 69, 3) := zo_180 (by decide +kernel)
theorem dX11_period_39 : decode cX11_period 39 = .ok (.iconst 0, 1) := zo_3 (by decide +kernel)
theorem dX11_period_40 : decode cX11_period 40 = .ok (.aload_n 0, 1) := zo_42 (by decide +kernel)
theorem dX11_period_41 : decode cX11_period 41 = .ok (.getfield 34, 3) := zo_180 (by decide +kernel)
theorem dX11_period_44 : decode cX11_period 44 = .ok (.invokevirtual 212, 3) := zo_182 (by decide +kernel)
theorem dX11_period_47 : decode cX11_period 47 = .ok (.iastore, 1) := zo_79 (by decide +kernel)
theorem dX11_period_48 : decode cX11_period 48 = .ok (.iconst 1, 1) := zo_4 (by decide +kernel)
theorem dX11_period_49 : decode cX11_period 49 = .ok (.istore 5, 2) := zo_54 (by decide +kernel)
theorem dX11_period_51 : decode cX11_period 51 = .ok (.iload 5, 2) := zo_21 (by decide +kernel)
theorem dX11_period_53 : decode cX11_period 53 = .ok (.sipush 999, 3) := zo_17 (by decide +kernel)
theorem dX11_period_56 : decode cX11_period 56 = .ok (.if_icmp .gt 66, 3) := zo_163 (by decide +kernel)
theorem dX11_period_59 : decode cX11_period 59 = .ok (.aload_n 0, 1) := zo_42 (by decide +kernel)
theorem dX11_period_60 : decode cX11_period 60 = .ok (.getfield 34, 3) := zo_180 (by decide +kernel)
theorem dX11_period_63 : decode cX11_period 63 = .ok (.iload_n 2, 1) := zo_28 (by decide +kernel)
theorem dX11_period_64 : decode cX11_period 64 = .ok (.invokevirtual 208, 3) := zo_182 (by decide +kernel)
theorem dX11_period_67 : decode cX11_period 67 = .ok (.aload_n 0, 1) := zo_42 (by decide +kernel)
theorem dX11_period_68 : decode cX11_period 68 = .ok (.getfield 34, 3) := zo_180 (by decide +kernel)
theorem dX11_period_71 : decode cX11_period 71 = .ok (.invokevirtual 212, 3) := zo_182 (by decide +kernel)
theorem dX11_period_74 : decode cX11_period 74 = .ok (.istore 6, 2) := zo_54 (by decide +kernel)
theorem dX11_period_76 : decode cX11_period 76 = .ok (.aload_n 0, 1) := zo_42 (by decide +kernel)
theorem dX11_period_77 : decode cX11_period 77 = .ok (.iload 6, 2) := zo_21 (by decide +kernel)
theorem dX11_period_79 : decode cX11_period 79 = .ok (.iload 5, 2) := zo_21 (by decide +kernel)
theorem dX11_period_81 : decode cX11_period 81 = .ok (.invokevirtual 215, 3) := zo_182 (by decide +kernel)
theorem dX11_period_84 : decode cX11_period 84 = .ok (.istore 7, 2) := zo_54 (by decide +kernel)
theorem dX11_period_86 : decode cX11_period 86 = .ok (.iload 7, 2) := zo_21 (by decide +kernel)
theorem dX11_period_88 : decode cX11_period 88 = .ok (.iconst (-1), 1) := zo_2 (by decide +kernel)
theorem dX11_period_89 : decode cX11_period 89 = .ok (.if_icmp .eq 18, 3) := zo_159 (by decide +kernel)
theorem dX11_period_92 : decode cX11_period 92 = .ok (.iload_n 3, 1) := zo_29 (by decide +kernel)
theorem dX11_period_93 : decode cX11_period 93 = .ok (.ifCond .eq 8, 3) := zo_153 (by decide +kernel)
theorem dX11_period_96 : decode cX11_period 96 = .ok (.iload 7, 2) := zo_21 (by decide +kernel)
theorem dX11_period_98 : decode cX11_period 98 = .ok (.goto 8, 3) := zo_167 (by decide +kernel)
theorem dX11_period_101 : decode cX11_period 101 = .ok (.iload 5, 2) := zo_21 (by decide +kernel)
theorem dX11_period_103 : decode cX11_period 103 = .ok (.iload 7, 2) := zo_21 (by decide +kernel)
theorem dX11_period_105 : decode cX11_period 105 = .ok (.isub, 1) := zo_100 (by decide +kernel)
theorem dX11_period_106 : decode cX11_period 106 = .ok (.ireturn, 1) := zo_172 (by decide +kernel)
theorem dX11_period_107 : decode cX11_period 107 = .ok (.aload_n 0, 1) := zo_42 (by decide +kernel)
theorem dX11_period_108 : decode cX11_period 108 = .ok (.getfield 69, 3) := zo_180 (by decide +kernel)
theorem dX11_period_111 : decode cX11_period 111 = .ok (.iload 5, 2) := zo_21 (by decide +kernel)
theorem dX11_period_113 : decode cX11_period 113 = .ok (.iload 6, 2) := zo_21 (by decide +kernel)
theorem dX11_period_115 : decode cX11_period 115 = .ok (.iastore, 1) := zo_79 (by decide +kernel)
theorem dX11_period_116 : decode cX11_period 116 = .ok (.iinc 5 1, 3) := zo_132 (by decide +kernel)
theorem dX11_period_119 : decode cX11_period 119 = .ok (.goto (-68), 3) := zo_167 (by decide +kernel)
theorem dX11_period_122 : decode cX11_period 122 = .ok (.iconst (-1), 1) := zo_2 (by decide +kernel)
theorem dX11_period_123 : decode cX11_period 123 = .ok (.ireturn, 1) := zo_172 (by decide +kernel)
theorem dX11_keys_0 : decode cX11_keys 0 = .ok (.aload_n 0, 1) := zo_42 (by decide +kernel)
theorem dX11_keys_1 : decode cX11_keys 1 = .ok (.getfield 10, 3) := zo_180 (by decide +kernel)
theorem dX11_keys_4 : decode cX11_keys 4 = .ok (.iload_n 1, 1) := zo_27 (by decide +kernel)
theorem dX11_keys_5 : decode cX11_keys 5 = .ok (.invokevirtual 121, 3) := zo_182 (by decide +kernel)
theorem dX11_keys_8 : decode cX11_keys 8 = .ok (.astore 4, 2) := zo_58 (by decide +kernel)
theorem dX11_keys_10 : decode cX11_keys 10 = .ok (.aload 4, 2) := zo_25 (by decide +kernel)
theorem dX11_keys_12 : decode cX11_keys 12 = .ok (.ifnull 12, 3) := zo_198 (by decide +kernel)
theorem dX11_keys_15 : decode cX11_keys 15 = .ok (.aload 4, 2) := zo_25 (by decide +kernel)
theorem dX11_keys_17 : decode cX11_keys 17 = .ok (.iload_n 2, 1) := zo_28 (by decide +kernel)
theorem dX11_keys_18 : decode cX11_keys 18 = .ok (.invokevirtual 160, 3) := zo_182 (by decide +kernel)
theorem dX11_keys_21 : decode cX11_keys 21 = .ok (.ifCond .ne 6, 3) := zo_154 (by decide +kernel)
theorem dX11_keys_24 : decode cX11_keys 24 = .ok (.bipush (-2), 2) := zo_16 (by decide +kernel)
theorem dX11_keys_26 : decode cX11_keys 26 = .ok (.ireturn, 1) := zo_172 (by decide +kernel)
theorem dX11_keys_27 : decode cX11_keys 27 = .ok (.aload_n 0, 1) := zo_42 (by decide +kernel)
theorem dX11_keys_28 : decode cX11_keys 28 = .ok (.getfield 34, 3) := zo_180 (by decide +kernel)
theorem dX11_keys_31 : decode cX11_keys 31 = .ok (.aload 4, 2) := zo_25 (by decide +kernel)
theorem dX11_keys_33 : decode cX11_keys 33 = .ok (.invokevirtual 205, 3) := zo_182 (by decide +kernel)
theorem dX11_keys_36 : decode cX11_keys 36 = .ok (.aload_n 0, 1) := zo_42 (by decide +kernel)
theorem dX11_keys_37 : decode cX11_keys 37 = .ok (.getfield 34, 3) := zo_180 (by decide +kernel)
theorem dX11_keys_40 : decode cX11_keys 40 = .ok (.iload_n 2, 1) := zo_28 (by decide +kernel)
theorem dX11_keys_41 : decode cX11_keys 41 = .ok (.invokevirtual 208, 3) := zo_182 (by decide +kernel)
theorem dX11_keys_44 : decode cX11_keys 44 = .ok (.aload 4, 2) := zo_25 (by decide +kernel)
theorem dX11_keys_46 : decode cX11_keys 46 = .ok (.aload_n 0, 1) := zo_42 (by decide +kernel)
theorem dX11_keys_47 : decode cX11_keys 47 = .ok (.getfield 34, 3) := zo_180 (by decide +kernel)
theorem dX11_keys_50 : decode cX11_keys 50 = .ok (.getfield 211, 3) := zo_180 (by decide +kernel)
theorem dX11_keys_53 : decode cX11_keys 53 = .ok (.invokevirtual 174, 3) := zo_182 (by decide +kernel)
theorem dX11_keys_56 : decode cX11_keys 56 = .ok (.ifCond .ne 6, 3) := zo_154 (by decide +kernel)
theorem dX11_keys_59 : decode cX11_keys 59 = .ok (.bipush (-2), 2) := zo_16 (by decide +kernel)
theorem dX11_keys_61 : decode cX11_keys 61 = .ok (.ireturn, 1) := zo_172 (by decide +kernel)
theorem dX11_keys_62 : decode cX11_keys 62 = .ok (.iconst 0, 1) := zo_3 (by decide +kernel)
theorem dX11_keys_63 : decode cX11_keys 63 = .ok (.istore 5, 2) := zo_54 (by decide +kernel)
theorem dX11_keys_65 : decode cX11_keys 65 = .ok (.iconst (-1), 1) := zo_2 (by decide +kernel)
theorem dX11_keys_66 : decode cX11_keys 66 = .ok (.istore 6, 2) := zo_54 (by decide +kernel)
theorem dX11_keys_68 : decode cX11_keys 68 = .ok (.iconst 0, 1) := zo_3 (by decide +kernel)
theorem dX11_keys_69 : decode cX11_keys 69 = .ok (.istore 7, 2) := zo_54 (by decide +kernel)
theorem dX11_keys_71 : decode cX11_keys 71 = .ok (.iload 7, 2) := zo_21 (by decide +kernel)
theorem dX11_keys_73 : decode cX11_keys 73 = .ok (.aload 4, 2) := zo_25 (by decide +kernel)
theorem dX11_keys_75 : decode cX11_keys 75 = .ok (.getfield 218, 3) := zo_180 (by decide +kernel)
theorem dX11_keys_78 : decode cX11_keys 78 = .ok (.if_icmp .ge 68, 3) := zo_162 (by decide +kernel)
theorem dX11_keys_81 : decode cX11_keys 81 = .ok (.iconst 0, 1) := zo_3 (by decide +kernel)
theorem dX11_keys_82 : decode cX11_keys 82 = .ok (.istore 8, 2) := zo_54 (by decide +kernel)
theorem dX11_keys_84 : decode cX11_keys 84 = .ok (.iload 8, 2) := zo_21 (by decide +kernel)
theorem dX11_keys_86 : decode cX11_keys 86 = .ok (.aload 4, 2) := zo_25 (by decide +kernel)
theorem dX11_keys_88 : decode cX11_keys 88 = .ok (.iload 7, 2) := zo_21 (by decide +kernel)
theorem dX11_keys_90 : decode cX11_keys 90 = .ok (.invokevirtual 221, 3) := zo_182 (by decide +kernel)
theorem dX11_keys_93 : decode cX11_keys 93 = .ok (.if_icmp .ge 47, 3) := zo_162 (by decide +kernel)
theorem dX11_keys_96 : decode cX11_keys 96 = .ok (.aload_n 0, 1) := zo_42 (by decide +kernel)
theorem dX11_keys_97 : decode cX11_keys 97 = .ok (.aload 4, 2) := zo_25 (by decide +kernel)
theorem dX11_keys_99 : decode cX11_keys 99 = .ok (.iload_n 2, 1) := zo_28 (by decide +kernel)
theorem dX11_keys_100 : decode cX11_keys 100 = .ok (.iload 7, 2) := zo_21 (by decide +kernel)
theorem dX11_keys_102 : decode cX11_keys 102 = .ok (.iload 8, 2) := zo_21 (by decide +kernel)
theorem dX11_keys_104 : decode cX11_keys 104 = .ok (.invokevirtual 224, 3) := zo_182 (by decide +kernel)
theorem dX11_keys_107 : decode cX11_keys 107 = .ok (.ifCond .eq 27, 3) := zo_153 (by decide +kernel)
theorem dX11_keys_110 : decode cX11_keys 110 = .ok (.iinc 5 1, 3) := zo_132 (by decide +kernel)
theorem dX11_keys_113 : decode cX11_keys 113 = .ok (.iload 6, 2) := zo_21 (by decide +kernel)
theorem dX11_keys_115 : decode cX11_keys 115 = .ok (.iconst (-1), 1) := zo_2 (by decide +kernel)
theorem dX11_keys_116 : decode cX11_keys 116 = .ok (.if_icmp .ne 14, 3) := zo_160 (by decide +kernel)
theorem dX11_keys_119 : decode cX11_keys 119 = .ok (.bipush 10, 2) := zo_16 (by decide +kernel)
theorem dX11_keys_121 : decode cX11_keys 121 = .ok (.iload 7, 2) := zo_21 (by decide +kernel)
theorem dX11_keys_123 : decode cX11_keys 123 = .ok (.imul, 1) := zo_104 (by decide +kernel)
theorem dX11_keys_124 : decode cX11_keys 124 = .ok (.iload 8, 2) := zo_21 (by decide +kernel)
theorem dX11_keys_126 : decode cX11_keys 126 = .ok (.iadd, 1) := zo_96 (by decide +kernel)
theorem dX11_keys_127 : decode cX11_keys 127 = .ok (.goto 5, 3) := zo_167 (by decide +kernel)
theorem dX11_keys_130 : decode cX11_keys 130 = .ok (.iload 6, 2) := zo_21 (by decide +kernel)
theorem dX11_keys_132 : decode cX11_keys 132 = .ok (.istore 6, 2) := zo_54 (by decide +kernel)
theorem dX11_keys_134 : decode cX11_keys 134 = .ok (.iinc 8 1, 3) := zo_132 (by decide +kernel)
theorem dX11_keys_137 : decode cX11_keys 137 = .ok (.goto (-53), 3) := zo_167 (by decide +kernel)
theorem dX11_keys_140 : decode cX11_keys 140 = .ok (.iinc 7 1, 3) := zo_132 (by decide +kernel)
theorem dX11_keys_143 : decode cX11_keys 143 = .ok (.goto (-72), 3) := zo_167 (by decide +kernel)
theorem dX11_keys_146 : decode cX11_keys 146 = .ok (.iload_n 3, 1) := zo_29 (by decide +kernel)
theorem dX11_keys_147 : decode cX11_keys 147 = .ok (.ifCond .eq 8, 3) := zo_153 (by decide +kernel)
theorem dX11_keys_150 : decode cX11_keys 150 = .ok (.iload 6, 2) := zo_21 (by decide +kernel)
theorem dX11_keys_152 : decode cX11_keys 152 = .ok (.goto 5, 3) := zo_167 (by decide +kernel)
theorem dX11_keys_155 : decode cX11_keys 155 = .ok (.iload 5, 2) := zo_21 (by decide +kernel)
theorem dX11_keys_157 : decode cX11_keys 157 = .ok (.ireturn, 1) := zo_172 (by decide +kernel)
theorem dX11_led_0 : decode cX11_led 0 = .ok (.aload_n 0, 1) := zo_42 (by decide +kernel)
theorem dX11_led_1 : decode cX11_led 1 = .ok (.getfield 10, 3) := zo_180 (by decide +kernel)
theorem dX11_led_4 : decode cX11_led 4 = .ok (.iload_n 1, 1) := zo_27 (by decide +kernel)
theorem dX11_led_5 : decode cX11_led 5 = .ok (.invokevirtual 121, 3) := zo_182 (by decide +kernel)
theorem dX11_led_8 : decode cX11_led 8 = .ok (.astore 4, 2) := zo_58 (by decide +kernel)
theorem dX11_led_10 : decode cX11_led 10 = .ok (.aload 4, 2) := zo_25 (by decide +kernel)
theorem dX11_led_12 : decode cX11_led 12 = .ok (.ifnull 21, 3) := zo_198 (by decide +kernel)
theorem dX11_led_15 : decode cX11_led 15 = .ok (.aload 4, 2) := zo_25 (by decide +kernel)
theorem dX11_led_17 : decode cX11_led 17 = .ok (.iload_n 2, 1) := zo_28 (by decide +kernel)
theorem dX11_led_18 : decode cX11_led 18 = .ok (.invokevirtual 160, 3) := zo_182 (by decide +kernel)
theorem dX11_led_21 : decode cX11_led 21 = .ok (.ifCond .eq 12, 3) := zo_153 (by decide +kernel)
theorem dX11_led_24 : decode cX11_led 24 = .ok (.iload_n 3, 1) := zo_29 (by decide +kernel)
theorem dX11_led_25 : decode cX11_led 25 = .ok (.ifCond .lt 8, 3) := zo_155 (by decide +kernel)
theorem dX11_led_28 : decode cX11_led 28 = .ok (.iload_n 3, 1) := zo_29 (by decide +kernel)
theorem dX11_led_29 : decode cX11_led 29 = .ok (.iconst 2, 1) := zo_5 (by decide +kernel)
theorem dX11_led_30 : decode cX11_led 30 = .ok (.if_icmp .le 6, 3) := zo_164 (by decide +kernel)
theorem dX11_led_33 : decode cX11_led 33 = .ok (.bipush (-2), 2) := zo_16 (by decide +kernel)
theorem dX11_led_35 : decode cX11_led 35 = .ok (.ireturn, 1) := zo_172 (by decide +kernel)
theorem dX11_led_36 : decode cX11_led 36 = .ok (.iload_n 2, 1) := zo_28 (by decide +kernel)
theorem dX11_led_37 : decode cX11_led 37 = .ok (.istore 5, 2) := zo_54 (by decide +kernel)
theorem dX11_led_39 : decode cX11_led 39 = .ok (.iconst 0, 1) := zo_3 (by decide +kernel)
theorem dX11_led_40 : decode cX11_led 40 = .ok (.istore 6, 2) := zo_54 (by decide +kernel)
theorem dX11_led_42 : decode cX11_led 42 = .ok (.iload 6, 2) := zo_21 (by decide +kernel)
theorem dX11_led_44 : decode cX11_led 44 = .ok (.aload 4, 2) := zo_25 (by decide +kernel)
theorem dX11_led_46 : decode cX11_led 46 = .ok (.getfield 218, 3) := zo_180 (by decide +kernel)
theorem dX11_led_49 : decode cX11_led 49 = .ok (.if_icmp .gt 57, 3) := zo_163 (by decide +kernel)
theorem dX11_led_52 : decode cX11_led 52 = .ok (.aload 4, 2) := zo_25 (by decide +kernel)
theorem dX11_led_54 : decode cX11_led 54 = .ok (.iload 5, 2) := zo_21 (by decide +kernel)
theorem dX11_led_56 : decode cX11_led 56 = .ok (.invokevirtual 221, 3) := zo_182 (by decide +kernel)
theorem dX11_led_59 : decode cX11_led 59 = .ok (.ifCond .ne 24, 3) := zo_154 (by decide +kernel)
theorem dX11_led_62 : decode cX11_led 62 = .ok (.iload_n 3, 1) := zo_29 (by decide +kernel)
theorem dX11_led_63 : decode cX11_led 63 = .ok (.ifCond .ne 8, 3) := zo_154 (by decide +kernel)
theorem dX11_led_66 : decode cX11_led 66 = .ok (.iload 6, 2) := zo_21 (by decide +kernel)
theorem dX11_led_68 : decode cX11_led 68 = .ok (.goto 14, 3) := zo_167 (by decide +kernel)
theorem dX11_led_71 : decode cX11_led 71 = .ok (.iload_n 3, 1) := zo_29 (by decide +kernel)
theorem dX11_led_72 : decode cX11_led 72 = .ok (.iconst 1, 1) := zo_4 (by decide +kernel)
theorem dX11_led_73 : decode cX11_led 73 = .ok (.if_icmp .ne 8, 3) := zo_160 (by decide +kernel)
theorem dX11_led_76 : decode cX11_led 76 = .ok (.iload 5, 2) := zo_21 (by decide +kernel)
theorem dX11_led_78 : decode cX11_led 78 = .ok (.goto 4, 3) := zo_167 (by decide +kernel)
theorem dX11_led_81 : decode cX11_led 81 = .ok (.iconst 0, 1) := zo_3 (by decide +kernel)
theorem dX11_led_82 : decode cX11_led 82 = .ok (.ireturn, 1) := zo_172 (by decide +kernel)
theorem dX11_led_83 : decode cX11_led 83 = .ok (.aload 4, 2) := zo_25 (by decide +kernel)
theorem dX11_led_85 : decode cX11_led 85 = .ok (.iload 5, 2) := zo_21 (by decide +kernel)
theorem dX11_led_87 : decode cX11_led 87 = .ok (.aload 4, 2) := zo_25 (by decide +kernel)
theorem dX11_led_89 : decode cX11_led 89 = .ok (.getfield 256, 3) := zo_180 (by decide +kernel)
theorem dX11_led_92 : decode cX11_led 92 = .ok (.iload 5, 2) := zo_21 (by decide +kernel)
theorem dX11_led_94 : decode cX11_led 94 = .ok (.iaload, 1) := zo_46 (by decide +kernel)
theorem dX11_led_95 : decode cX11_led 95 = .ok (.invokevirtual 365, 3) := zo_182 (by decide +kernel)
theorem dX11_led_98 : decode cX11_led 98 = .ok (.istore 5, 2) := zo_54 (by decide +kernel)
theorem dX11_led_100 : decode cX11_led 100 = .ok (.iinc 6 1, 3) := zo_132 (by decide +kernel)
theorem dX11_led_103 : decode cX11_led 103 = .ok (.goto (-61), 3) := zo_167 (by decide +kernel)
theorem dX11_led_106 : decode cX11_led 106 = .ok (.iload_n 3, 1) := zo_29 (by decide +kernel)
theorem dX11_led_107 : decode cX11_led 107 = .ok (.iconst 2, 1) := zo_5 (by decide +kernel)
theorem dX11_led_108 : decode cX11_led 108 = .ok (.if_icmp .ne 13, 3) := zo_160 (by decide +kernel)
theorem dX11_led_111 : decode cX11_led 111 = .ok (.aload 4, 2) := zo_25 (by decide +kernel)
theorem dX11_led_113 : decode cX11_led 113 = .ok (.iload 5, 2) := zo_21 (by decide +kernel)
theorem dX11_led_115 : decode cX11_led 115 = .ok (.invokestatic 368, 3) := zo_184 (by decide +kernel)
theorem dX11_led_118 : decode cX11_led 118 = .ok (.goto 4, 3) := zo_167 (by decide +kernel)
theorem dX11_led_121 : decode cX11_led 121 = .ok (.iconst (-1), 1) := zo_2 (by decide +kernel)
theorem dX11_led_122 : decode cX11_led 122 = .ok (.ireturn, 1) := zo_172 (by decide +kernel)

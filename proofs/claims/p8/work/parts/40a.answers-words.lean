theorem m_fl_RX11_10 : Cond.fieldLink RX11 10 (TX11 0).1 (TX11 0).2.1 (TX11 0).2.2.1 ∈ zT := zmem1 zsub_2 176 (by decide +kernel) (by decide +kernel)
theorem m_fl_RX11_73 : Cond.fieldLink RX11 73 (TX9 1).1 (TX9 1).2.1 (TX9 1).2.2.1 ∈ zT := zmem1 zsub_1 130 (by decide +kernel) (by decide +kernel)
theorem m_co_X9_append : Cond.code yX9_append cX9_append 3 none ∈ zT := zmem1 zsub_2 217 (by decide +kernel) (by decide +kernel)
theorem m_ml_RX11_77 : Cond.methodLink RX11 77 yX9_append ∈ zT := zmem1 zsub_2 214 (by decide +kernel) (by decide +kernel)
theorem m_im_X9_append : Cond.instanceMethod yX9_append ∈ zT := zmem1 zsub_2 215 (by decide +kernel) (by decide +kernel)
theorem m_se_X9_append : Cond.selects RX9 yX9_append yX9_append ∈ zT := zmem1 zsub_2 216 (by decide +kernel) (by decide +kernel)
theorem m_ii_RX9 : Cond.initialized RX9 ∈ zT := zmem1 zsub_1 2 (by decide +kernel) (by decide +kernel)
theorem m_fl_RX11_88 : Cond.fieldLink RX11 88 (TX9 3).1 (TX9 3).2.1 (TX9 3).2.2.1 ∈ zT := zmem1 zsub_1 135 (by decide +kernel) (by decide +kernel)
theorem m_fl_RX11_85 : Cond.fieldLink RX11 85 (TX9 2).1 (TX9 2).2.1 (TX9 2).2.2.1 ∈ zT := zmem1 zsub_1 132 (by decide +kernel) (by decide +kernel)
theorem m_fl_RX11_114 : Cond.fieldLink RX11 114 (TX9 4).1 (TX9 4).2.1 (TX9 4).2.2.1 ∈ zT := zmem1 zsub_1 137 (by decide +kernel) (by decide +kernel)
theorem m_co_X9_landAt : Cond.code yX9_landAt cX9_landAt 2 (some (.object "TurnedPosts$Land")) ∈ zT := zmem1 zsub_3 196 (by decide +kernel) (by decide +kernel)
theorem m_ml_RX11_121 : Cond.methodLink RX11 121 yX9_landAt ∈ zT := zmem1 zsub_3 193 (by decide +kernel) (by decide +kernel)
theorem m_im_X9_landAt : Cond.instanceMethod yX9_landAt ∈ zT := zmem1 zsub_3 194 (by decide +kernel) (by decide +kernel)
theorem m_se_X9_landAt : Cond.selects RX9 yX9_landAt yX9_landAt ∈ zT := zmem1 zsub_3 195 (by decide +kernel) (by decide +kernel)
theorem m_co_X4_told : Cond.code yX4_told cX4_told 3 (some .int) ∈ zT := zmem1 zsub_3 200 (by decide +kernel) (by decide +kernel)
theorem m_ml_RX11_125 : Cond.methodLink RX11 125 yX4_told ∈ zT := zmem1 zsub_3 197 (by decide +kernel) (by decide +kernel)
theorem m_im_X4_told : Cond.instanceMethod yX4_told ∈ zT := zmem1 zsub_3 198 (by decide +kernel) (by decide +kernel)
theorem m_se_X4_told : Cond.selects RX4 yX4_told yX4_told ∈ zT := zmem1 zsub_3 199 (by decide +kernel) (by decide +kernel)
theorem m_co_X9_dayAt : Cond.code yX9_dayAt cX9_dayAt 2 (some (.object "TurnedPosts$Day")) ∈ zT := zmem1 zsub_3 216 (by decide +kernel) (by decide +kernel)
theorem m_ml_RX11_130 : Cond.methodLink RX11 130 yX9_dayAt ∈ zT := zmem1 zsub_3 213 (by decide +kernel) (by decide +kernel)
theorem m_im_X9_dayAt : Cond.instanceMethod yX9_dayAt ∈ zT := zmem1 zsub_3 214 (by decide +kernel) (by decide +kernel)
theorem m_se_X9_dayAt : Cond.selects RX9 yX9_dayAt yX9_dayAt ∈ zT := zmem1 zsub_3 215 (by decide +kernel) (by decide +kernel)
theorem m_co_X2_told : Cond.code yX2_told cX2_told 3 (some .int) ∈ zT := zmem1 zsub_3 220 (by decide +kernel) (by decide +kernel)
theorem m_ml_RX11_134 : Cond.methodLink RX11 134 yX2_told ∈ zT := zmem1 zsub_3 217 (by decide +kernel) (by decide +kernel)
theorem m_im_X2_told : Cond.instanceMethod yX2_told ∈ zT := zmem1 zsub_3 218 (by decide +kernel) (by decide +kernel)
theorem m_se_X2_told : Cond.selects RX2 yX2_told yX2_told ∈ zT := zmem1 zsub_3 219 (by decide +kernel) (by decide +kernel)
theorem m_co_X9_logAt : Cond.code yX9_logAt cX9_logAt 2 (some (.object "TurnedPosts$Log")) ∈ zT := zmem1 zsub_3 228 (by decide +kernel) (by decide +kernel)
theorem m_ml_RX11_138 : Cond.methodLink RX11 138 yX9_logAt ∈ zT := zmem1 zsub_3 225 (by decide +kernel) (by decide +kernel)
theorem m_im_X9_logAt : Cond.instanceMethod yX9_logAt ∈ zT := zmem1 zsub_3 226 (by decide +kernel) (by decide +kernel)
theorem m_se_X9_logAt : Cond.selects RX9 yX9_logAt yX9_logAt ∈ zT := zmem1 zsub_3 227 (by decide +kernel) (by decide +kernel)
theorem m_co_X5_told : Cond.code yX5_told cX5_told 3 (some .int) ∈ zT := zmem1 zsub_3 232 (by decide +kernel) (by decide +kernel)
theorem m_ml_RX11_142 : Cond.methodLink RX11 142 yX5_told ∈ zT := zmem1 zsub_3 229 (by decide +kernel) (by decide +kernel)
theorem m_im_X5_told : Cond.instanceMethod yX5_told ∈ zT := zmem1 zsub_3 230 (by decide +kernel) (by decide +kernel)
theorem m_se_X5_told : Cond.selects RX5 yX5_told yX5_told ∈ zT := zmem1 zsub_3 231 (by decide +kernel) (by decide +kernel)
theorem m_ml_RX11_160 : Cond.methodLink RX11 160 yX4_has ∈ zT := zmem1 zsub_4 122 (by decide +kernel) (by decide +kernel)
theorem m_co_X8_distance : Cond.code yX8_distance cX8_distance 5 (some .int) ∈ zT := zmem1 zsub_5 173 (by decide +kernel) (by decide +kernel)
theorem m_ml_RX11_330 : Cond.methodLink RX11 330 yX8_distance ∈ zT := zmem1 zsub_5 171 (by decide +kernel) (by decide +kernel)
theorem m_st_X8_distance : Cond.static yX8_distance ∈ zT := zmem1 zsub_5 172 (by decide +kernel) (by decide +kernel)
theorem m_co_X8_nearest : Cond.code yX8_nearest cX8_nearest 5 (some .int) ∈ zT := zmem1 zsub_5 181 (by decide +kernel) (by decide +kernel)
theorem m_ml_RX11_340 : Cond.methodLink RX11 340 yX8_nearest ∈ zT := zmem1 zsub_5 179 (by decide +kernel) (by decide +kernel)
theorem m_st_X8_nearest : Cond.static yX8_nearest ∈ zT := zmem1 zsub_5 180 (by decide +kernel) (by decide +kernel)
theorem m_ml_RX11_336 : Cond.methodLink RX11 336 yX8_reached ∈ zT := zmem1 zsub_5 178 (by decide +kernel) (by decide +kernel)
theorem m_co_X8_parts : Cond.code yX8_parts cX8_parts 6 (some .int) ∈ zT := zmem1 zsub_5 188 (by decide +kernel) (by decide +kernel)
theorem m_ml_RX11_343 : Cond.methodLink RX11 343 yX8_parts ∈ zT := zmem1 zsub_5 186 (by decide +kernel) (by decide +kernel)
theorem m_st_X8_parts : Cond.static yX8_parts ∈ zT := zmem1 zsub_5 187 (by decide +kernel) (by decide +kernel)
theorem m_co_X8_heads : Cond.code yX8_heads cX8_heads 3 (some .int) ∈ zT := zmem1 zsub_5 197 (by decide +kernel) (by decide +kernel)
theorem m_ml_RX11_347 : Cond.methodLink RX11 347 yX8_heads ∈ zT := zmem1 zsub_5 195 (by decide +kernel) (by decide +kernel)
theorem m_st_X8_heads : Cond.static yX8_heads ∈ zT := zmem1 zsub_5 196 (by decide +kernel) (by decide +kernel)
theorem m_co_X8_ends : Cond.code yX8_ends cX8_ends 3 (some .int) ∈ zT := zmem1 zsub_5 200 (by decide +kernel) (by decide +kernel)
theorem m_ml_RX11_350 : Cond.methodLink RX11 350 yX8_ends ∈ zT := zmem1 zsub_5 198 (by decide +kernel) (by decide +kernel)
theorem m_st_X8_ends : Cond.static yX8_ends ∈ zT := zmem1 zsub_5 199 (by decide +kernel) (by decide +kernel)
theorem m_co_X8_loops : Cond.code yX8_loops cX8_loops 3 (some .int) ∈ zT := zmem1 zsub_5 204 (by decide +kernel) (by decide +kernel)
theorem m_ml_RX11_353 : Cond.methodLink RX11 353 yX8_loops ∈ zT := zmem1 zsub_5 202 (by decide +kernel) (by decide +kernel)
theorem m_st_X8_loops : Cond.static yX8_loops ∈ zT := zmem1 zsub_5 203 (by decide +kernel) (by decide +kernel)
theorem m_co_X8_doubles : Cond.code yX8_doubles cX8_doubles 5 (some .int) ∈ zT := zmem1 zsub_5 210 (by decide +kernel) (by decide +kernel)
theorem m_ml_RX11_356 : Cond.methodLink RX11 356 yX8_doubles ∈ zT := zmem1 zsub_5 208 (by decide +kernel) (by decide +kernel)
theorem m_st_X8_doubles : Cond.static yX8_doubles ∈ zT := zmem1 zsub_5 209 (by decide +kernel) (by decide +kernel)
theorem m_co_X8_even : Cond.code yX8_even cX8_even 3 (some .int) ∈ zT := zmem1 zsub_5 213 (by decide +kernel) (by decide +kernel)
theorem m_ml_RX11_359 : Cond.methodLink RX11 359 yX8_even ∈ zT := zmem1 zsub_5 211 (by decide +kernel) (by decide +kernel)
theorem m_st_X8_even : Cond.static yX8_even ∈ zT := zmem1 zsub_5 212 (by decide +kernel) (by decide +kernel)
theorem m_co_X8_busy : Cond.code yX8_busy cX8_busy 5 (some .int) ∈ zT := zmem1 zsub_5 219 (by decide +kernel) (by decide +kernel)
theorem m_ml_RX11_362 : Cond.methodLink RX11 362 yX8_busy ∈ zT := zmem1 zsub_5 217 (by decide +kernel) (by decide +kernel)
theorem m_st_X8_busy : Cond.static yX8_busy ∈ zT := zmem1 zsub_5 218 (by decide +kernel) (by decide +kernel)
theorem kV_RX11_77 {R : Room} {s : State} {args : Array Value} {d mc ms : Nat} (hts : ∀ w ∈ zT, w.before args s = true) (h1 : d + 1 ≤ R.frames) (h2 : 8 + (3 + 11) + 40 * d ≤ R.locals) : CallW R s args RX11 RX9 77 yX9_append cX9_append 3 none (zW yX9_append cX9_append 3 none) (zR d mc ms) mc ms 1 := z_cwV hts m_co_X9_append m_ml_RX11_77 m_im_X9_append m_se_X9_append m_ii_RX9 (by decide +kernel) h1 h2
theorem kV_RX11_121 {R : Room} {s : State} {args : Array Value} {d mc ms : Nat} (hts : ∀ w ∈ zT, w.before args s = true) (h1 : d + 1 ≤ R.frames) (h2 : 8 + (2 + 11) + 40 * d ≤ R.locals) : CallW R s args RX11 RX9 121 yX9_landAt cX9_landAt 2 (some (.object "TurnedPosts$Land")) (zW yX9_landAt cX9_landAt 2 (some (.object "TurnedPosts$Land"))) (zR d mc ms) mc ms 1 := z_cwV hts m_co_X9_landAt m_ml_RX11_121 m_im_X9_landAt m_se_X9_landAt m_ii_RX9 (by decide +kernel) h1 h2
theorem kV_RX11_125 {R : Room} {s : State} {args : Array Value} {d mc ms : Nat} (hts : ∀ w ∈ zT, w.before args s = true) (h1 : d + 1 ≤ R.frames) (h2 : 8 + (3 + 11) + 40 * d ≤ R.locals) : CallW R s args RX11 RX4 125 yX4_told cX4_told 3 (some .int) (zW yX4_told cX4_told 3 (some .int)) (zR d mc ms) mc ms 1 := z_cwV hts m_co_X4_told m_ml_RX11_125 m_im_X4_told m_se_X4_told m_ii_RX4 (by decide +kernel) h1 h2
theorem kV_RX11_130 {R : Room} {s : State} {args : Array Value} {d mc ms : Nat} (hts : ∀ w ∈ zT, w.before args s = true) (h1 : d + 1 ≤ R.frames) (h2 : 8 + (2 + 11) + 40 * d ≤ R.locals) : CallW R s args RX11 RX9 130 yX9_dayAt cX9_dayAt 2 (some (.object "TurnedPosts$Day")) (zW yX9_dayAt cX9_dayAt 2 (some (.object "TurnedPosts$Day"))) (zR d mc ms) mc ms 1 := z_cwV hts m_co_X9_dayAt m_ml_RX11_130 m_im_X9_dayAt m_se_X9_dayAt m_ii_RX9 (by decide +kernel) h1 h2
theorem kV_RX11_134 {R : Room} {s : State} {args : Array Value} {d mc ms : Nat} (hts : ∀ w ∈ zT, w.before args s = true) (h1 : d + 1 ≤ R.frames) (h2 : 8 + (3 + 11) + 40 * d ≤ R.locals) : CallW R s args RX11 RX2 134 yX2_told cX2_told 3 (some .int) (zW yX2_told cX2_told 3 (some .int)) (zR d mc ms) mc ms 2 := z_cwV hts m_co_X2_told m_ml_RX11_134 m_im_X2_told m_se_X2_told m_ii_RX2 (by decide +kernel) h1 h2
theorem kV_RX11_138 {R : Room} {s : State} {args : Array Value} {d mc ms : Nat} (hts : ∀ w ∈ zT, w.before args s = true) (h1 : d + 1 ≤ R.frames) (h2 : 8 + (2 + 11) + 40 * d ≤ R.locals) : CallW R s args RX11 RX9 138 yX9_logAt cX9_logAt 2 (some (.object "TurnedPosts$Log")) (zW yX9_logAt cX9_logAt 2 (some (.object "TurnedPosts$Log"))) (zR d mc ms) mc ms 1 := z_cwV hts m_co_X9_logAt m_ml_RX11_138 m_im_X9_logAt m_se_X9_logAt m_ii_RX9 (by decide +kernel) h1 h2
theorem kV_RX11_142 {R : Room} {s : State} {args : Array Value} {d mc ms : Nat} (hts : ∀ w ∈ zT, w.before args s = true) (h1 : d + 1 ≤ R.frames) (h2 : 8 + (3 + 11) + 40 * d ≤ R.locals) : CallW R s args RX11 RX5 142 yX5_told cX5_told 3 (some .int) (zW yX5_told cX5_told 3 (some .int)) (zR d mc ms) mc ms 2 := z_cwV hts m_co_X5_told m_ml_RX11_142 m_im_X5_told m_se_X5_told m_ii_RX5 (by decide +kernel) h1 h2
theorem kV_RX11_160 {R : Room} {s : State} {args : Array Value} {d mc ms : Nat} (hts : ∀ w ∈ zT, w.before args s = true) (h1 : d + 1 ≤ R.frames) (h2 : 8 + (2 + 11) + 40 * d ≤ R.locals) : CallW R s args RX11 RX4 160 yX4_has cX4_has 2 (some .boolean) (zW yX4_has cX4_has 2 (some .boolean)) (zR d mc ms) mc ms 1 := z_cwV hts m_co_X4_has m_ml_RX11_160 m_im_X4_has m_se_X4_has m_ii_RX4 (by decide +kernel) h1 h2
theorem kS_RX11_330 {R : Room} {s : State} {args : Array Value} {d mc ms : Nat} (hts : ∀ w ∈ zT, w.before args s = true) (h1 : d + 1 ≤ R.frames) (h2 : 8 + (5 + 11) + 40 * d ≤ R.locals) : CallB R s args RX11 330 yX8_distance cX8_distance 5 (some .int) (zW yX8_distance cX8_distance 5 (some .int)) (zR d mc ms) mc ms 3 ∧ (Cond.static yX8_distance).before args s = true := z_cwS hts m_co_X8_distance m_ml_RX11_330 m_st_X8_distance m_ii_RX8 (by decide +kernel) h1 h2
theorem kS_RX11_340 {R : Room} {s : State} {args : Array Value} {d mc ms : Nat} (hts : ∀ w ∈ zT, w.before args s = true) (h1 : d + 1 ≤ R.frames) (h2 : 8 + (5 + 11) + 40 * d ≤ R.locals) : CallB R s args RX11 340 yX8_nearest cX8_nearest 5 (some .int) (zW yX8_nearest cX8_nearest 5 (some .int)) (zR d mc ms) mc ms 2 ∧ (Cond.static yX8_nearest).before args s = true := z_cwS hts m_co_X8_nearest m_ml_RX11_340 m_st_X8_nearest m_ii_RX8 (by decide +kernel) h1 h2
theorem kS_RX11_336 {R : Room} {s : State} {args : Array Value} {d mc ms : Nat} (hts : ∀ w ∈ zT, w.before args s = true) (h1 : d + 1 ≤ R.frames) (h2 : 8 + (4 + 11) + 40 * d ≤ R.locals) : CallB R s args RX11 336 yX8_reached cX8_reached 4 (some .int) (zW yX8_reached cX8_reached 4 (some .int)) (zR d mc ms) mc ms 2 ∧ (Cond.static yX8_reached).before args s = true := z_cwS hts m_co_X8_reached m_ml_RX11_336 m_st_X8_reached m_ii_RX8 (by decide +kernel) h1 h2
theorem kS_RX11_343 {R : Room} {s : State} {args : Array Value} {d mc ms : Nat} (hts : ∀ w ∈ zT, w.before args s = true) (h1 : d + 1 ≤ R.frames) (h2 : 8 + (6 + 11) + 40 * d ≤ R.locals) : CallB R s args RX11 343 yX8_parts cX8_parts 6 (some .int) (zW yX8_parts cX8_parts 6 (some .int)) (zR d mc ms) mc ms 2 ∧ (Cond.static yX8_parts).before args s = true := z_cwS hts m_co_X8_parts m_ml_RX11_343 m_st_X8_parts m_ii_RX8 (by decide +kernel) h1 h2
theorem kS_RX11_347 {R : Room} {s : State} {args : Array Value} {d mc ms : Nat} (hts : ∀ w ∈ zT, w.before args s = true) (h1 : d + 1 ≤ R.frames) (h2 : 8 + (3 + 11) + 40 * d ≤ R.locals) : CallB R s args RX11 347 yX8_heads cX8_heads 3 (some .int) (zW yX8_heads cX8_heads 3 (some .int)) (zR d mc ms) mc ms 1 ∧ (Cond.static yX8_heads).before args s = true := z_cwS hts m_co_X8_heads m_ml_RX11_347 m_st_X8_heads m_ii_RX8 (by decide +kernel) h1 h2
theorem kS_RX11_350 {R : Room} {s : State} {args : Array Value} {d mc ms : Nat} (hts : ∀ w ∈ zT, w.before args s = true) (h1 : d + 1 ≤ R.frames) (h2 : 8 + (3 + 11) + 40 * d ≤ R.locals) : CallB R s args RX11 350 yX8_ends cX8_ends 3 (some .int) (zW yX8_ends cX8_ends 3 (some .int)) (zR d mc ms) mc ms 1 ∧ (Cond.static yX8_ends).before args s = true := z_cwS hts m_co_X8_ends m_ml_RX11_350 m_st_X8_ends m_ii_RX8 (by decide +kernel) h1 h2
theorem kS_RX11_353 {R : Room} {s : State} {args : Array Value} {d mc ms : Nat} (hts : ∀ w ∈ zT, w.before args s = true) (h1 : d + 1 ≤ R.frames) (h2 : 8 + (3 + 11) + 40 * d ≤ R.locals) : CallB R s args RX11 353 yX8_loops cX8_loops 3 (some .int) (zW yX8_loops cX8_loops 3 (some .int)) (zR d mc ms) mc ms 1 ∧ (Cond.static yX8_loops).before args s = true := z_cwS hts m_co_X8_loops m_ml_RX11_353 m_st_X8_loops m_ii_RX8 (by decide +kernel) h1 h2
theorem kS_RX11_356 {R : Room} {s : State} {args : Array Value} {d mc ms : Nat} (hts : ∀ w ∈ zT, w.before args s = true) (h1 : d + 1 ≤ R.frames) (h2 : 8 + (5 + 11) + 40 * d ≤ R.locals) : CallB R s args RX11 356 yX8_doubles cX8_doubles 5 (some .int) (zW yX8_doubles cX8_doubles 5 (some .int)) (zR d mc ms) mc ms 1 ∧ (Cond.static yX8_doubles).before args s = true := z_cwS hts m_co_X8_doubles m_ml_RX11_356 m_st_X8_doubles m_ii_RX8 (by decide +kernel) h1 h2
theorem kS_RX11_359 {R : Room} {s : State} {args : Array Value} {d mc ms : Nat} (hts : ∀ w ∈ zT, w.before args s = true) (h1 : d + 1 ≤ R.frames) (h2 : 8 + (3 + 11) + 40 * d ≤ R.locals) : CallB R s args RX11 359 yX8_even cX8_even 3 (some .int) (zW yX8_even cX8_even 3 (some .int)) (zR d mc ms) mc ms 1 ∧ (Cond.static yX8_even).before args s = true := z_cwS hts m_co_X8_even m_ml_RX11_359 m_st_X8_even m_ii_RX8 (by decide +kernel) h1 h2
theorem kS_RX11_362 {R : Room} {s : State} {args : Array Value} {d mc ms : Nat} (hts : ∀ w ∈ zT, w.before args s = true) (h1 : d + 1 ≤ R.frames) (h2 : 8 + (5 + 11) + 40 * d ≤ R.locals) : CallB R s args RX11 362 yX8_busy cX8_busy 5 (some .int) (zW yX8_busy cX8_busy 5 (some .int)) (zR d mc ms) mc ms 1 ∧ (Cond.static yX8_busy).before args s = true := z_cwS hts m_co_X8_busy m_ml_RX11_362 m_st_X8_busy m_ii_RX8 (by decide +kernel) h1 h2
theorem dX11_feed_0 : decode cX11_feed 0 = .ok (.aload_n 0, 1) := by decide +kernel
theorem dX11_feed_1 : decode cX11_feed 1 = .ok (.getfield 10, 3) := by decide +kernel
theorem dX11_feed_4 : decode cX11_feed 4 = .ok (.getfield 73, 3) := by decide +kernel
theorem dX11_feed_7 : decode cX11_feed 7 = .ok (.bipush 20, 2) := by decide +kernel
theorem dX11_feed_9 : decode cX11_feed 9 = .ok (.iadd, 1) := by decide +kernel
theorem dX11_feed_10 : decode cX11_feed 10 = .ok (.sipush 600, 3) := by decide +kernel
theorem dX11_feed_13 : decode cX11_feed 13 = .ok (.if_icmp .le 5, 3) := by decide +kernel
theorem dX11_feed_16 : decode cX11_feed 16 = .ok (.iconst (-1), 1) := by decide +kernel
theorem dX11_feed_17 : decode cX11_feed 17 = .ok (.ireturn, 1) := by decide +kernel
theorem dX11_feed_18 : decode cX11_feed 18 = .ok (.aload_n 0, 1) := by decide +kernel
theorem dX11_feed_19 : decode cX11_feed 19 = .ok (.getfield 10, 3) := by decide +kernel
theorem dX11_feed_22 : decode cX11_feed 22 = .ok (.iload_n 1, 1) := by decide +kernel
theorem dX11_feed_23 : decode cX11_feed 23 = .ok (.invokevirtual 77, 3) := by decide +kernel
theorem dX11_feed_26 : decode cX11_feed 26 = .ok (.aload_n 0, 1) := by decide +kernel
theorem dX11_feed_27 : decode cX11_feed 27 = .ok (.getfield 10, 3) := by decide +kernel
theorem dX11_feed_30 : decode cX11_feed 30 = .ok (.iload_n 2, 1) := by decide +kernel
theorem dX11_feed_31 : decode cX11_feed 31 = .ok (.invokevirtual 77, 3) := by decide +kernel
theorem dX11_feed_34 : decode cX11_feed 34 = .ok (.aload_n 0, 1) := by decide +kernel
theorem dX11_feed_35 : decode cX11_feed 35 = .ok (.getfield 10, 3) := by decide +kernel
theorem dX11_feed_38 : decode cX11_feed 38 = .ok (.iload_n 3, 1) := by decide +kernel
theorem dX11_feed_39 : decode cX11_feed 39 = .ok (.invokevirtual 77, 3) := by decide +kernel
theorem dX11_feed_42 : decode cX11_feed 42 = .ok (.aload_n 0, 1) := by decide +kernel
theorem dX11_feed_43 : decode cX11_feed 43 = .ok (.getfield 10, 3) := by decide +kernel
theorem dX11_feed_46 : decode cX11_feed 46 = .ok (.iload 4, 2) := by decide +kernel
theorem dX11_feed_48 : decode cX11_feed 48 = .ok (.invokevirtual 77, 3) := by decide +kernel
theorem dX11_feed_51 : decode cX11_feed 51 = .ok (.aload_n 0, 1) := by decide +kernel
theorem dX11_feed_52 : decode cX11_feed 52 = .ok (.getfield 10, 3) := by decide +kernel
theorem dX11_feed_55 : decode cX11_feed 55 = .ok (.iload 5, 2) := by decide +kernel
theorem dX11_feed_57 : decode cX11_feed 57 = .ok (.invokevirtual 77, 3) := by decide +kernel
theorem dX11_feed_60 : decode cX11_feed 60 = .ok (.aload_n 0, 1) := by decide +kernel
theorem dX11_feed_61 : decode cX11_feed 61 = .ok (.getfield 10, 3) := by decide +kernel
theorem dX11_feed_64 : decode cX11_feed 64 = .ok (.getfield 73, 3) := by decide +kernel
theorem dX11_feed_67 : decode cX11_feed 67 = .ok (.ireturn, 1) := by decide +kernel
theorem dX11_end_0 : decode cX11_end 0 = .ok (.iload_n 1, 1) := by decide +kernel
theorem dX11_end_1 : decode cX11_end 1 = .ok (.ifCond .lt 14, 3) := by decide +kernel
theorem dX11_end_4 : decode cX11_end 4 = .ok (.iload_n 1, 1) := by decide +kernel
theorem dX11_end_5 : decode cX11_end 5 = .ok (.aload_n 0, 1) := by decide +kernel
theorem dX11_end_6 : decode cX11_end 6 = .ok (.getfield 10, 3) := by decide +kernel
theorem dX11_end_9 : decode cX11_end 9 = .ok (.getfield 73, 3) := by decide +kernel
theorem dX11_end_12 : decode cX11_end 12 = .ok (.if_icmp .le 5, 3) := by decide +kernel
theorem dX11_end_15 : decode cX11_end 15 = .ok (.iconst (-1), 1) := by decide +kernel
theorem dX11_end_16 : decode cX11_end 16 = .ok (.ireturn, 1) := by decide +kernel
theorem dX11_end_17 : decode cX11_end 17 = .ok (.aload_n 0, 1) := by decide +kernel
theorem dX11_end_18 : decode cX11_end 18 = .ok (.getfield 10, 3) := by decide +kernel
theorem dX11_end_21 : decode cX11_end 21 = .ok (.iload_n 1, 1) := by decide +kernel
theorem dX11_end_22 : decode cX11_end 22 = .ok (.putfield 73, 3) := by decide +kernel
theorem dX11_end_25 : decode cX11_end 25 = .ok (.iload_n 1, 1) := by decide +kernel
theorem dX11_end_26 : decode cX11_end 26 = .ok (.ireturn, 1) := by decide +kernel
theorem dX11_fault_0 : decode cX11_fault 0 = .ok (.iload_n 1, 1) := by decide +kernel
theorem dX11_fault_1 : decode cX11_fault 1 = .ok (.ifCond .ne 13, 3) := by decide +kernel
theorem dX11_fault_4 : decode cX11_fault 4 = .ok (.aload_n 0, 1) := by decide +kernel
theorem dX11_fault_5 : decode cX11_fault 5 = .ok (.getfield 10, 3) := by decide +kernel
theorem dX11_fault_8 : decode cX11_fault 8 = .ok (.getfield 85, 3) := by decide +kernel
theorem dX11_fault_11 : decode cX11_fault 11 = .ok (.goto 19, 3) := by decide +kernel
theorem dX11_fault_14 : decode cX11_fault 14 = .ok (.iload_n 1, 1) := by decide +kernel
theorem dX11_fault_15 : decode cX11_fault 15 = .ok (.iconst 1, 1) := by decide +kernel
theorem dX11_fault_16 : decode cX11_fault 16 = .ok (.if_icmp .ne 13, 3) := by decide +kernel
theorem dX11_fault_19 : decode cX11_fault 19 = .ok (.aload_n 0, 1) := by decide +kernel
theorem dX11_fault_20 : decode cX11_fault 20 = .ok (.getfield 10, 3) := by decide +kernel
theorem dX11_fault_23 : decode cX11_fault 23 = .ok (.getfield 88, 3) := by decide +kernel
theorem dX11_fault_26 : decode cX11_fault 26 = .ok (.goto 4, 3) := by decide +kernel
theorem dX11_fault_29 : decode cX11_fault 29 = .ok (.iconst (-1), 1) := by decide +kernel
theorem dX11_fault_30 : decode cX11_fault 30 = .ok (.ireturn, 1) := by decide +kernel
theorem dX11_count_0 : decode cX11_count 0 = .ok (.iload_n 1, 1) := by decide +kernel
theorem dX11_count_1 : decode cX11_count 1 = .ok (.ifCond .lt 20, 3) := by decide +kernel
theorem dX11_count_4 : decode cX11_count 4 = .ok (.iload_n 1, 1) := by decide +kernel
theorem dX11_count_5 : decode cX11_count 5 = .ok (.iconst 2, 1) := by decide +kernel
theorem dX11_count_6 : decode cX11_count 6 = .ok (.if_icmp .gt 15, 3) := by decide +kernel
theorem dX11_count_9 : decode cX11_count 9 = .ok (.aload_n 0, 1) := by decide +kernel
theorem dX11_count_10 : decode cX11_count 10 = .ok (.getfield 10, 3) := by decide +kernel
theorem dX11_count_13 : decode cX11_count 13 = .ok (.getfield 114, 3) := by decide +kernel
theorem dX11_count_16 : decode cX11_count 16 = .ok (.iload_n 1, 1) := by decide +kernel
theorem dX11_count_17 : decode cX11_count 17 = .ok (.iaload, 1) := by decide +kernel
theorem dX11_count_18 : decode cX11_count 18 = .ok (.goto 5, 3) := by decide +kernel
theorem dX11_count_21 : decode cX11_count 21 = .ok (.bipush (-2), 2) := by decide +kernel
theorem dX11_count_23 : decode cX11_count 23 = .ok (.ireturn, 1) := by decide +kernel
theorem dX11_land_0 : decode cX11_land 0 = .ok (.aload_n 0, 1) := by decide +kernel
theorem dX11_land_1 : decode cX11_land 1 = .ok (.getfield 10, 3) := by decide +kernel
theorem dX11_land_4 : decode cX11_land 4 = .ok (.iload_n 1, 1) := by decide +kernel
theorem dX11_land_5 : decode cX11_land 5 = .ok (.invokevirtual 121, 3) := by decide +kernel
theorem dX11_land_8 : decode cX11_land 8 = .ok (.astore_n 3, 1) := by decide +kernel
theorem dX11_land_9 : decode cX11_land 9 = .ok (.aload_n 3, 1) := by decide +kernel
theorem dX11_land_10 : decode cX11_land 10 = .ok (.ifnonnull 7, 3) := by decide +kernel
theorem dX11_land_13 : decode cX11_land 13 = .ok (.iconst (-1), 1) := by decide +kernel
theorem dX11_land_14 : decode cX11_land 14 = .ok (.goto 8, 3) := by decide +kernel
theorem dX11_land_17 : decode cX11_land 17 = .ok (.aload_n 3, 1) := by decide +kernel
theorem dX11_land_18 : decode cX11_land 18 = .ok (.iload_n 2, 1) := by decide +kernel
theorem dX11_land_19 : decode cX11_land 19 = .ok (.invokevirtual 125, 3) := by decide +kernel
theorem dX11_land_22 : decode cX11_land 22 = .ok (.ireturn, 1) := by decide +kernel
theorem dX11_deed_0 : decode cX11_deed 0 = .ok (.aload_n 0, 1) := by decide +kernel
theorem dX11_deed_1 : decode cX11_deed 1 = .ok (.getfield 10, 3) := by decide +kernel
theorem dX11_deed_4 : decode cX11_deed 4 = .ok (.iload_n 1, 1) := by decide +kernel
theorem dX11_deed_5 : decode cX11_deed 5 = .ok (.invokevirtual 130, 3) := by decide +kernel
theorem dX11_deed_8 : decode cX11_deed 8 = .ok (.astore 4, 2) := by decide +kernel
theorem dX11_deed_10 : decode cX11_deed 10 = .ok (.aload 4, 2) := by decide +kernel
theorem dX11_deed_12 : decode cX11_deed 12 = .ok (.ifnonnull 8, 3) := by decide +kernel
theorem dX11_deed_15 : decode cX11_deed 15 = .ok (.bipush (-2), 2) := by decide +kernel
theorem dX11_deed_17 : decode cX11_deed 17 = .ok (.goto 10, 3) := by decide +kernel
theorem dX11_deed_20 : decode cX11_deed 20 = .ok (.aload 4, 2) := by decide +kernel
theorem dX11_deed_22 : decode cX11_deed 22 = .ok (.iload_n 2, 1) := by decide +kernel
theorem dX11_deed_23 : decode cX11_deed 23 = .ok (.iload_n 3, 1) := by decide +kernel
theorem dX11_deed_24 : decode cX11_deed 24 = .ok (.invokevirtual 134, 3) := by decide +kernel
theorem dX11_deed_27 : decode cX11_deed 27 = .ok (.ireturn, 1) := by decide +kernel
theorem dX11_fact_0 : decode cX11_fact 0 = .ok (.aload_n 0, 1) := by decide +kernel
theorem dX11_fact_1 : decode cX11_fact 1 = .ok (.getfield 10, 3) := by decide +kernel
theorem dX11_fact_4 : decode cX11_fact 4 = .ok (.iload_n 1, 1) := by decide +kernel
theorem dX11_fact_5 : decode cX11_fact 5 = .ok (.invokevirtual 138, 3) := by decide +kernel
theorem dX11_fact_8 : decode cX11_fact 8 = .ok (.astore 4, 2) := by decide +kernel
theorem dX11_fact_10 : decode cX11_fact 10 = .ok (.aload 4, 2) := by decide +kernel
theorem dX11_fact_12 : decode cX11_fact 12 = .ok (.ifnonnull 8, 3) := by decide +kernel
theorem dX11_fact_15 : decode cX11_fact 15 = .ok (.bipush (-2), 2) := by decide +kernel
theorem dX11_fact_17 : decode cX11_fact 17 = .ok (.goto 10, 3) := by decide +kernel
theorem dX11_fact_20 : decode cX11_fact 20 = .ok (.aload 4, 2) := by decide +kernel
theorem dX11_fact_22 : decode cX11_fact 22 = .ok (.iload_n 2, 1) := by decide +kernel
theorem dX11_fact_23 : decode cX11_fact 23 = .ok (.iload_n 3, 1) := by decide +kernel
theorem dX11_fact_24 : decode cX11_fact 24 = .ok (.invokevirtual 142, 3) := by decide +kernel
theorem dX11_fact_27 : decode cX11_fact 27 = .ok (.ireturn, 1) := by decide +kernel
theorem dX11_far_0 : decode cX11_far 0 = .ok (.aload_n 0, 1) := by decide +kernel
theorem dX11_far_1 : decode cX11_far 1 = .ok (.getfield 10, 3) := by decide +kernel
theorem dX11_far_4 : decode cX11_far 4 = .ok (.iload_n 1, 1) := by decide +kernel
theorem dX11_far_5 : decode cX11_far 5 = .ok (.invokevirtual 121, 3) := by decide +kernel
theorem dX11_far_8 : decode cX11_far 8 = .ok (.astore 4, 2) := by decide +kernel
theorem dX11_far_10 : decode cX11_far 10 = .ok (.aload 4, 2) := by decide +kernel
theorem dX11_far_12 : decode cX11_far 12 = .ok (.ifnull 21, 3) := by decide +kernel
theorem dX11_far_15 : decode cX11_far 15 = .ok (.aload 4, 2) := by decide +kernel
theorem dX11_far_17 : decode cX11_far 17 = .ok (.iload_n 2, 1) := by decide +kernel
theorem dX11_far_18 : decode cX11_far 18 = .ok (.invokevirtual 160, 3) := by decide +kernel
theorem dX11_far_21 : decode cX11_far 21 = .ok (.ifCond .eq 12, 3) := by decide +kernel
theorem dX11_far_24 : decode cX11_far 24 = .ok (.aload 4, 2) := by decide +kernel
theorem dX11_far_26 : decode cX11_far 26 = .ok (.iload_n 3, 1) := by decide +kernel
theorem dX11_far_27 : decode cX11_far 27 = .ok (.invokevirtual 160, 3) := by decide +kernel
theorem dX11_far_30 : decode cX11_far 30 = .ok (.ifCond .ne 7, 3) := by decide +kernel
theorem dX11_far_33 : decode cX11_far 33 = .ok (.iconst (-1), 1) := by decide +kernel
theorem dX11_far_34 : decode cX11_far 34 = .ok (.goto 10, 3) := by decide +kernel
theorem dX11_far_37 : decode cX11_far 37 = .ok (.aload 4, 2) := by decide +kernel
theorem dX11_far_39 : decode cX11_far 39 = .ok (.iload_n 2, 1) := by decide +kernel
theorem dX11_far_40 : decode cX11_far 40 = .ok (.iload_n 3, 1) := by decide +kernel
theorem dX11_far_41 : decode cX11_far 41 = .ok (.invokestatic 330, 3) := by decide +kernel
theorem dX11_far_44 : decode cX11_far 44 = .ok (.ireturn, 1) := by decide +kernel
theorem dX11_reach_0 : decode cX11_reach 0 = .ok (.aload_n 0, 1) := by decide +kernel
theorem dX11_reach_1 : decode cX11_reach 1 = .ok (.getfield 10, 3) := by decide +kernel
theorem dX11_reach_4 : decode cX11_reach 4 = .ok (.iload_n 1, 1) := by decide +kernel
theorem dX11_reach_5 : decode cX11_reach 5 = .ok (.invokevirtual 121, 3) := by decide +kernel
theorem dX11_reach_8 : decode cX11_reach 8 = .ok (.astore 4, 2) := by decide +kernel
theorem dX11_reach_10 : decode cX11_reach 10 = .ok (.aload 4, 2) := by decide +kernel
theorem dX11_reach_12 : decode cX11_reach 12 = .ok (.ifnull 21, 3) := by decide +kernel
theorem dX11_reach_15 : decode cX11_reach 15 = .ok (.aload 4, 2) := by decide +kernel
theorem dX11_reach_17 : decode cX11_reach 17 = .ok (.iload_n 2, 1) := by decide +kernel
theorem dX11_reach_18 : decode cX11_reach 18 = .ok (.invokevirtual 160, 3) := by decide +kernel
theorem dX11_reach_21 : decode cX11_reach 21 = .ok (.ifCond .eq 12, 3) := by decide +kernel
theorem dX11_reach_24 : decode cX11_reach 24 = .ok (.iload_n 3, 1) := by decide +kernel
theorem dX11_reach_25 : decode cX11_reach 25 = .ok (.ifCond .lt 8, 3) := by decide +kernel
theorem dX11_reach_28 : decode cX11_reach 28 = .ok (.iload_n 3, 1) := by decide +kernel
theorem dX11_reach_29 : decode cX11_reach 29 = .ok (.iconst 1, 1) := by decide +kernel
theorem dX11_reach_30 : decode cX11_reach 30 = .ok (.if_icmp .le 6, 3) := by decide +kernel
theorem dX11_reach_33 : decode cX11_reach 33 = .ok (.bipush (-2), 2) := by decide +kernel
theorem dX11_reach_35 : decode cX11_reach 35 = .ok (.ireturn, 1) := by decide +kernel
theorem dX11_reach_36 : decode cX11_reach 36 = .ok (.iload_n 3, 1) := by decide +kernel
theorem dX11_reach_37 : decode cX11_reach 37 = .ok (.ifCond .ne 12, 3) := by decide +kernel
theorem dX11_reach_40 : decode cX11_reach 40 = .ok (.aload 4, 2) := by decide +kernel
theorem dX11_reach_42 : decode cX11_reach 42 = .ok (.iload_n 2, 1) := by decide +kernel
theorem dX11_reach_43 : decode cX11_reach 43 = .ok (.invokestatic 336, 3) := by decide +kernel
theorem dX11_reach_46 : decode cX11_reach 46 = .ok (.goto 9, 3) := by decide +kernel
theorem dX11_reach_49 : decode cX11_reach 49 = .ok (.aload 4, 2) := by decide +kernel
theorem dX11_reach_51 : decode cX11_reach 51 = .ok (.iload_n 2, 1) := by decide +kernel
theorem dX11_reach_52 : decode cX11_reach 52 = .ok (.invokestatic 340, 3) := by decide +kernel
theorem dX11_reach_55 : decode cX11_reach 55 = .ok (.ireturn, 1) := by decide +kernel
theorem dX11_classes_0 : decode cX11_classes 0 = .ok (.aload_n 0, 1) := by decide +kernel
theorem dX11_classes_1 : decode cX11_classes 1 = .ok (.getfield 10, 3) := by decide +kernel
theorem dX11_classes_4 : decode cX11_classes 4 = .ok (.iload_n 1, 1) := by decide +kernel
theorem dX11_classes_5 : decode cX11_classes 5 = .ok (.invokevirtual 121, 3) := by decide +kernel
theorem dX11_classes_8 : decode cX11_classes 8 = .ok (.astore_n 3, 1) := by decide +kernel
theorem dX11_classes_9 : decode cX11_classes 9 = .ok (.aload_n 3, 1) := by decide +kernel
theorem dX11_classes_10 : decode cX11_classes 10 = .ok (.ifnonnull 6, 3) := by decide +kernel
theorem dX11_classes_13 : decode cX11_classes 13 = .ok (.bipush (-2), 2) := by decide +kernel
theorem dX11_classes_15 : decode cX11_classes 15 = .ok (.ireturn, 1) := by decide +kernel
theorem dX11_classes_16 : decode cX11_classes 16 = .ok (.iload_n 2, 1) := by decide +kernel
theorem dX11_classes_17 : decode cX11_classes 17 = .ok (.tableswitch 89 0 7 #[47, 53, 59, 64, 69, 74, 79, 84], 47) := by decide +kernel
theorem dX11_classes_64 : decode cX11_classes 64 = .ok (.aload_n 3, 1) := by decide +kernel
theorem dX11_classes_65 : decode cX11_classes 65 = .ok (.iconst 0, 1) := by decide +kernel
theorem dX11_classes_66 : decode cX11_classes 66 = .ok (.invokestatic 343, 3) := by decide +kernel
theorem dX11_classes_69 : decode cX11_classes 69 = .ok (.ireturn, 1) := by decide +kernel
theorem dX11_classes_70 : decode cX11_classes 70 = .ok (.aload_n 3, 1) := by decide +kernel
theorem dX11_classes_71 : decode cX11_classes 71 = .ok (.iconst 1, 1) := by decide +kernel
theorem dX11_classes_72 : decode cX11_classes 72 = .ok (.invokestatic 343, 3) := by decide +kernel
theorem dX11_classes_75 : decode cX11_classes 75 = .ok (.ireturn, 1) := by decide +kernel
theorem dX11_classes_76 : decode cX11_classes 76 = .ok (.aload_n 3, 1) := by decide +kernel
theorem dX11_classes_77 : decode cX11_classes 77 = .ok (.invokestatic 347, 3) := by decide +kernel
theorem dX11_classes_80 : decode cX11_classes 80 = .ok (.ireturn, 1) := by decide +kernel
theorem dX11_classes_81 : decode cX11_classes 81 = .ok (.aload_n 3, 1) := by decide +kernel
theorem dX11_classes_82 : decode cX11_classes 82 = .ok (.invokestatic 350, 3) := by decide +kernel
theorem dX11_classes_85 : decode cX11_classes 85 = .ok (.ireturn, 1) := by decide +kernel
theorem dX11_classes_86 : decode cX11_classes 86 = .ok (.aload_n 3, 1) := by decide +kernel
theorem dX11_classes_87 : decode cX11_classes 87 = .ok (.invokestatic 353, 3) := by decide +kernel
theorem dX11_classes_90 : decode cX11_classes 90 = .ok (.ireturn, 1) := by decide +kernel
theorem dX11_classes_91 : decode cX11_classes 91 = .ok (.aload_n 3, 1) := by decide +kernel
theorem dX11_classes_92 : decode cX11_classes 92 = .ok (.invokestatic 356, 3) := by decide +kernel
theorem dX11_classes_95 : decode cX11_classes 95 = .ok (.ireturn, 1) := by decide +kernel
theorem dX11_classes_96 : decode cX11_classes 96 = .ok (.aload_n 3, 1) := by decide +kernel
theorem dX11_classes_97 : decode cX11_classes 97 = .ok (.invokestatic 359, 3) := by decide +kernel
theorem dX11_classes_100 : decode cX11_classes 100 = .ok (.ireturn, 1) := by decide +kernel
theorem dX11_classes_101 : decode cX11_classes 101 = .ok (.aload_n 3, 1) := by decide +kernel
theorem dX11_classes_102 : decode cX11_classes 102 = .ok (.invokestatic 362, 3) := by decide +kernel
theorem dX11_classes_105 : decode cX11_classes 105 = .ok (.ireturn, 1) := by decide +kernel
theorem dX11_classes_106 : decode cX11_classes 106 = .ok (.bipush (-2), 2) := by decide +kernel
theorem dX11_classes_108 : decode cX11_classes 108 = .ok (.ireturn, 1) := by decide +kernel


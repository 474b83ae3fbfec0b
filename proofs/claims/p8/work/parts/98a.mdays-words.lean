theorem m_fl_RX12_302 : Cond.fieldLink RX12 302 (TX12 29).1 (TX12 29).2.1 (TX12 29).2.2.1 ∈ zT := zmem1 zsub_6 24 (by decide +kernel) (by decide +kernel)
theorem m_fl_RX12_360 : Cond.fieldLink RX12 360 (TX12 35).1 (TX12 35).2.1 (TX12 35).2.2.1 ∈ zT := zmem1 zsub_6 30 (by decide +kernel) (by decide +kernel)
theorem m_co_X12_isDay : Cond.code yX12_isDay cX12_isDay 2 (some .boolean) ∈ zT := zmem1 zsub_7 204 (by decide +kernel) (by decide +kernel)
theorem m_ml_RX12_305 : Cond.methodLink RX12 305 yX12_isDay ∈ zT := zmem1 zsub_7 201 (by decide +kernel) (by decide +kernel)
theorem m_im_X12_isDay : Cond.instanceMethod yX12_isDay ∈ zT := zmem1 zsub_7 203 (by decide +kernel) (by decide +kernel)
theorem m_se_X12_isDay : Cond.selects RX12 yX12_isDay yX12_isDay ∈ zT := zmem 91 (by decide +kernel) (by decide +kernel)
theorem m_co_X12_isLog : Cond.code yX12_isLog cX12_isLog 2 (some .boolean) ∈ zT := zmem1 zsub_8 32 (by decide +kernel) (by decide +kernel)
theorem m_ml_RX12_363 : Cond.methodLink RX12 363 yX12_isLog ∈ zT := zmem1 zsub_8 29 (by decide +kernel) (by decide +kernel)
theorem m_im_X12_isLog : Cond.instanceMethod yX12_isLog ∈ zT := zmem1 zsub_8 31 (by decide +kernel) (by decide +kernel)
theorem m_se_X12_isLog : Cond.selects RX12 yX12_isLog yX12_isLog ∈ zT := zmem 104 (by decide +kernel) (by decide +kernel)
theorem m_fl_RX12_308 : Cond.fieldLink RX12 308 (TX12 34).1 (TX12 34).2.1 (TX12 34).2.2.1 ∈ zT := zmem1 zsub_6 29 (by decide +kernel) (by decide +kernel)
theorem m_fl_RX12_311 : Cond.fieldLink RX12 311 (TX12 33).1 (TX12 33).2.1 (TX12 33).2.2.1 ∈ zT := zmem1 zsub_6 28 (by decide +kernel) (by decide +kernel)
theorem m_fl_RX12_314 : Cond.fieldLink RX12 314 (TX12 31).1 (TX12 31).2.1 (TX12 31).2.2.1 ∈ zT := zmem1 zsub_6 26 (by decide +kernel) (by decide +kernel)
theorem m_co_X12_goesFrom : Cond.code yX12_goesFrom cX12_goesFrom 2 none ∈ zT := zmem1 zsub_7 232 (by decide +kernel) (by decide +kernel)
theorem m_ml_RX12_317 : Cond.methodLink RX12 317 yX12_goesFrom ∈ zT := zmem1 zsub_7 229 (by decide +kernel) (by decide +kernel)
theorem m_im_X12_goesFrom : Cond.instanceMethod yX12_goesFrom ∈ zT := zmem1 zsub_7 231 (by decide +kernel) (by decide +kernel)
theorem m_se_X12_goesFrom : Cond.selects RX12 yX12_goesFrom yX12_goesFrom ∈ zT := zmem 97 (by decide +kernel) (by decide +kernel)
theorem m_fl_RX12_320 : Cond.fieldLink RX12 320 (TX12 30).1 (TX12 30).2.1 (TX12 30).2.2.1 ∈ zT := zmem1 zsub_6 25 (by decide +kernel) (by decide +kernel)
theorem m_fl_RX12_323 : Cond.fieldLink RX12 323 (TX12 32).1 (TX12 32).2.1 (TX12 32).2.2.1 ∈ zT := zmem1 zsub_6 27 (by decide +kernel) (by decide +kernel)
theorem m_co_X12_shuts : Cond.code yX12_shuts cX12_shuts 4 (some .boolean) ∈ zT := zmem1 zsub_8 4 (by decide +kernel) (by decide +kernel)
theorem m_ml_RX12_335 : Cond.methodLink RX12 335 yX12_shuts ∈ zT := zmem1 zsub_8 1 (by decide +kernel) (by decide +kernel)
theorem m_im_X12_shuts : Cond.instanceMethod yX12_shuts ∈ zT := zmem1 zsub_8 3 (by decide +kernel) (by decide +kernel)
theorem m_se_X12_shuts : Cond.selects RX12 yX12_shuts yX12_shuts ∈ zT := zmem 100 (by decide +kernel) (by decide +kernel)
theorem m_co_X12_goes : Cond.code yX12_goes cX12_goes 2 (some .boolean) ∈ zT := zmem1 zsub_7 228 (by decide +kernel) (by decide +kernel)
theorem m_ml_RX12_326 : Cond.methodLink RX12 326 yX12_goes ∈ zT := zmem1 zsub_7 225 (by decide +kernel) (by decide +kernel)
theorem m_im_X12_goes : Cond.instanceMethod yX12_goes ∈ zT := zmem1 zsub_7 227 (by decide +kernel) (by decide +kernel)
theorem m_se_X12_goes : Cond.selects RX12 yX12_goes yX12_goes ∈ zT := zmem 96 (by decide +kernel) (by decide +kernel)
theorem m_co_X12_runs0 : Cond.code yX12_runs0 cX12_runs0 2 (some .boolean) ∈ zT := zmem1 zsub_7 236 (by decide +kernel) (by decide +kernel)
theorem m_ml_RX12_329 : Cond.methodLink RX12 329 yX12_runs0 ∈ zT := zmem1 zsub_7 233 (by decide +kernel) (by decide +kernel)
theorem m_im_X12_runs0 : Cond.instanceMethod yX12_runs0 ∈ zT := zmem1 zsub_7 235 (by decide +kernel) (by decide +kernel)
theorem m_se_X12_runs0 : Cond.selects RX12 yX12_runs0 yX12_runs0 ∈ zT := zmem 98 (by decide +kernel) (by decide +kernel)
theorem m_co_X12_adds : Cond.code yX12_adds cX12_adds 2 (some .boolean) ∈ zT := zmem1 zsub_8 0 (by decide +kernel) (by decide +kernel)
theorem m_ml_RX12_332 : Cond.methodLink RX12 332 yX12_adds ∈ zT := zmem1 zsub_7 237 (by decide +kernel) (by decide +kernel)
theorem m_im_X12_adds : Cond.instanceMethod yX12_adds ∈ zT := zmem1 zsub_7 239 (by decide +kernel) (by decide +kernel)
theorem m_se_X12_adds : Cond.selects RX12 yX12_adds yX12_adds ∈ zT := zmem 99 (by decide +kernel) (by decide +kernel)
theorem m_co_X12_looks : Cond.code yX12_looks cX12_looks 2 none ∈ zT := zmem1 zsub_7 220 (by decide +kernel) (by decide +kernel)
theorem m_ml_RX12_339 : Cond.methodLink RX12 339 yX12_looks ∈ zT := zmem1 zsub_7 217 (by decide +kernel) (by decide +kernel)
theorem m_im_X12_looks : Cond.instanceMethod yX12_looks ∈ zT := zmem1 zsub_7 219 (by decide +kernel) (by decide +kernel)
theorem m_se_X12_looks : Cond.selects RX12 yX12_looks yX12_looks ∈ zT := zmem 94 (by decide +kernel) (by decide +kernel)
theorem m_co_X12_beginsDay : Cond.code yX12_beginsDay cX12_beginsDay 1 none ∈ zT := zmem1 zsub_7 216 (by decide +kernel) (by decide +kernel)
theorem m_ml_RX12_342 : Cond.methodLink RX12 342 yX12_beginsDay ∈ zT := zmem1 zsub_7 213 (by decide +kernel) (by decide +kernel)
theorem m_im_X12_beginsDay : Cond.instanceMethod yX12_beginsDay ∈ zT := zmem1 zsub_7 215 (by decide +kernel) (by decide +kernel)
theorem m_se_X12_beginsDay : Cond.selects RX12 yX12_beginsDay yX12_beginsDay ∈ zT := zmem 93 (by decide +kernel) (by decide +kernel)
theorem m_co_X12_does : Cond.code yX12_does cX12_does 4 (some .boolean) ∈ zT := zmem1 zsub_7 224 (by decide +kernel) (by decide +kernel)
theorem m_ml_RX12_345 : Cond.methodLink RX12 345 yX12_does ∈ zT := zmem1 zsub_7 221 (by decide +kernel) (by decide +kernel)
theorem m_im_X12_does : Cond.instanceMethod yX12_does ∈ zT := zmem1 zsub_7 223 (by decide +kernel) (by decide +kernel)
theorem m_se_X12_does : Cond.selects RX12 yX12_does yX12_does ∈ zT := zmem 95 (by decide +kernel) (by decide +kernel)
theorem m_co_X12_walkersOf : Cond.code yX12_walkersOf cX12_walkersOf 4 (some .int) ∈ zT := zmem1 zsub_8 16 (by decide +kernel) (by decide +kernel)
theorem m_ml_RX12_351 : Cond.methodLink RX12 351 yX12_walkersOf ∈ zT := zmem1 zsub_8 13 (by decide +kernel) (by decide +kernel)
theorem m_im_X12_walkersOf : Cond.instanceMethod yX12_walkersOf ∈ zT := zmem1 zsub_8 15 (by decide +kernel) (by decide +kernel)
theorem m_se_X12_walkersOf : Cond.selects RX12 yX12_walkersOf yX12_walkersOf ∈ zT := zmem 102 (by decide +kernel) (by decide +kernel)
theorem m_co_X12_runs : Cond.code yX12_runs cX12_runs 2 none ∈ zT := zmem1 zsub_7 212 (by decide +kernel) (by decide +kernel)
theorem m_ml_RX12_348 : Cond.methodLink RX12 348 yX12_runs ∈ zT := zmem1 zsub_7 209 (by decide +kernel) (by decide +kernel)
theorem m_im_X12_runs : Cond.instanceMethod yX12_runs ∈ zT := zmem1 zsub_7 211 (by decide +kernel) (by decide +kernel)
theorem m_se_X12_runs : Cond.selects RX12 yX12_runs yX12_runs ∈ zT := zmem 92 (by decide +kernel) (by decide +kernel)
theorem m_co_X12_nowOf : Cond.code yX12_nowOf cX12_nowOf 3 (some .int) ∈ zT := zmem1 zsub_8 12 (by decide +kernel) (by decide +kernel)
theorem m_ml_RX12_354 : Cond.methodLink RX12 354 yX12_nowOf ∈ zT := zmem1 zsub_8 9 (by decide +kernel) (by decide +kernel)
theorem m_im_X12_nowOf : Cond.instanceMethod yX12_nowOf ∈ zT := zmem1 zsub_8 11 (by decide +kernel) (by decide +kernel)
theorem m_se_X12_nowOf : Cond.selects RX12 yX12_nowOf yX12_nowOf ∈ zT := zmem 101 (by decide +kernel) (by decide +kernel)
theorem m_co_X12_elsewhere : Cond.code yX12_elsewhere cX12_elsewhere 3 (some .int) ∈ zT := zmem1 zsub_8 24 (by decide +kernel) (by decide +kernel)
theorem m_ml_RX12_357 : Cond.methodLink RX12 357 yX12_elsewhere ∈ zT := zmem1 zsub_8 21 (by decide +kernel) (by decide +kernel)
theorem m_im_X12_elsewhere : Cond.instanceMethod yX12_elsewhere ∈ zT := zmem1 zsub_8 23 (by decide +kernel) (by decide +kernel)
theorem m_se_X12_elsewhere : Cond.selects RX12 yX12_elsewhere yX12_elsewhere ∈ zT := zmem 103 (by decide +kernel) (by decide +kernel)
theorem kV_RX12_305 {R : Room} {s : State} {args : Array Value} {d mc ms : Nat} (hts : ∀ w ∈ zT, w.before args s = true) (h1 : d + 1 ≤ R.frames) (h2 : 8 + (2 + 11) + 40 * d ≤ R.locals) : CallW R s args RX12 RX12 305 yX12_isDay cX12_isDay 2 (some .boolean) (zW yX12_isDay cX12_isDay 2 (some .boolean)) (zR d mc ms) mc ms 1 := z_cwV hts m_co_X12_isDay m_ml_RX12_305 m_im_X12_isDay m_se_X12_isDay m_ii_RX12 (by decide +kernel) h1 h2
theorem kV_RX12_363 {R : Room} {s : State} {args : Array Value} {d mc ms : Nat} (hts : ∀ w ∈ zT, w.before args s = true) (h1 : d + 1 ≤ R.frames) (h2 : 8 + (2 + 11) + 40 * d ≤ R.locals) : CallW R s args RX12 RX12 363 yX12_isLog cX12_isLog 2 (some .boolean) (zW yX12_isLog cX12_isLog 2 (some .boolean)) (zR d mc ms) mc ms 1 := z_cwV hts m_co_X12_isLog m_ml_RX12_363 m_im_X12_isLog m_se_X12_isLog m_ii_RX12 (by decide +kernel) h1 h2
theorem kV_RX12_317 {R : Room} {s : State} {args : Array Value} {d mc ms : Nat} (hts : ∀ w ∈ zT, w.before args s = true) (h1 : d + 1 ≤ R.frames) (h2 : 8 + (2 + 11) + 40 * d ≤ R.locals) : CallW R s args RX12 RX12 317 yX12_goesFrom cX12_goesFrom 2 none (zW yX12_goesFrom cX12_goesFrom 2 none) (zR d mc ms) mc ms 1 := z_cwV hts m_co_X12_goesFrom m_ml_RX12_317 m_im_X12_goesFrom m_se_X12_goesFrom m_ii_RX12 (by decide +kernel) h1 h2
theorem kV_RX12_335 {R : Room} {s : State} {args : Array Value} {d mc ms : Nat} (hts : ∀ w ∈ zT, w.before args s = true) (h1 : d + 1 ≤ R.frames) (h2 : 8 + (4 + 11) + 40 * d ≤ R.locals) : CallW R s args RX12 RX12 335 yX12_shuts cX12_shuts 4 (some .boolean) (zW yX12_shuts cX12_shuts 4 (some .boolean)) (zR d mc ms) mc ms 3 := z_cwV hts m_co_X12_shuts m_ml_RX12_335 m_im_X12_shuts m_se_X12_shuts m_ii_RX12 (by decide +kernel) h1 h2
theorem kV_RX12_326 {R : Room} {s : State} {args : Array Value} {d mc ms : Nat} (hts : ∀ w ∈ zT, w.before args s = true) (h1 : d + 1 ≤ R.frames) (h2 : 8 + (2 + 11) + 40 * d ≤ R.locals) : CallW R s args RX12 RX12 326 yX12_goes cX12_goes 2 (some .boolean) (zW yX12_goes cX12_goes 2 (some .boolean)) (zR d mc ms) mc ms 1 := z_cwV hts m_co_X12_goes m_ml_RX12_326 m_im_X12_goes m_se_X12_goes m_ii_RX12 (by decide +kernel) h1 h2
theorem kV_RX12_329 {R : Room} {s : State} {args : Array Value} {d mc ms : Nat} (hts : ∀ w ∈ zT, w.before args s = true) (h1 : d + 1 ≤ R.frames) (h2 : 8 + (2 + 11) + 40 * d ≤ R.locals) : CallW R s args RX12 RX12 329 yX12_runs0 cX12_runs0 2 (some .boolean) (zW yX12_runs0 cX12_runs0 2 (some .boolean)) (zR d mc ms) mc ms 1 := z_cwV hts m_co_X12_runs0 m_ml_RX12_329 m_im_X12_runs0 m_se_X12_runs0 m_ii_RX12 (by decide +kernel) h1 h2
theorem kV_RX12_332 {R : Room} {s : State} {args : Array Value} {d mc ms : Nat} (hts : ∀ w ∈ zT, w.before args s = true) (h1 : d + 1 ≤ R.frames) (h2 : 8 + (2 + 11) + 40 * d ≤ R.locals) : CallW R s args RX12 RX12 332 yX12_adds cX12_adds 2 (some .boolean) (zW yX12_adds cX12_adds 2 (some .boolean)) (zR d mc ms) mc ms 1 := z_cwV hts m_co_X12_adds m_ml_RX12_332 m_im_X12_adds m_se_X12_adds m_ii_RX12 (by decide +kernel) h1 h2
theorem kV_RX12_339 {R : Room} {s : State} {args : Array Value} {d mc ms : Nat} (hts : ∀ w ∈ zT, w.before args s = true) (h1 : d + 1 ≤ R.frames) (h2 : 8 + (2 + 11) + 40 * d ≤ R.locals) : CallW R s args RX12 RX12 339 yX12_looks cX12_looks 2 none (zW yX12_looks cX12_looks 2 none) (zR d mc ms) mc ms 0 := z_cwV hts m_co_X12_looks m_ml_RX12_339 m_im_X12_looks m_se_X12_looks m_ii_RX12 (by decide +kernel) h1 h2
theorem kV_RX12_342 {R : Room} {s : State} {args : Array Value} {d mc ms : Nat} (hts : ∀ w ∈ zT, w.before args s = true) (h1 : d + 1 ≤ R.frames) (h2 : 8 + (1 + 11) + 40 * d ≤ R.locals) : CallW R s args RX12 RX12 342 yX12_beginsDay cX12_beginsDay 1 none (zW yX12_beginsDay cX12_beginsDay 1 none) (zR d mc ms) mc ms 0 := z_cwV hts m_co_X12_beginsDay m_ml_RX12_342 m_im_X12_beginsDay m_se_X12_beginsDay m_ii_RX12 (by decide +kernel) h1 h2
theorem kV_RX12_345 {R : Room} {s : State} {args : Array Value} {d mc ms : Nat} (hts : ∀ w ∈ zT, w.before args s = true) (h1 : d + 1 ≤ R.frames) (h2 : 8 + (4 + 11) + 40 * d ≤ R.locals) : CallW R s args RX12 RX12 345 yX12_does cX12_does 4 (some .boolean) (zW yX12_does cX12_does 4 (some .boolean)) (zR d mc ms) mc ms 3 := z_cwV hts m_co_X12_does m_ml_RX12_345 m_im_X12_does m_se_X12_does m_ii_RX12 (by decide +kernel) h1 h2
theorem kV_RX12_351 {R : Room} {s : State} {args : Array Value} {d mc ms : Nat} (hts : ∀ w ∈ zT, w.before args s = true) (h1 : d + 1 ≤ R.frames) (h2 : 8 + (4 + 11) + 40 * d ≤ R.locals) : CallW R s args RX12 RX12 351 yX12_walkersOf cX12_walkersOf 4 (some .int) (zW yX12_walkersOf cX12_walkersOf 4 (some .int)) (zR d mc ms) mc ms 1 := z_cwV hts m_co_X12_walkersOf m_ml_RX12_351 m_im_X12_walkersOf m_se_X12_walkersOf m_ii_RX12 (by decide +kernel) h1 h2
theorem kV_RX12_348 {R : Room} {s : State} {args : Array Value} {d mc ms : Nat} (hts : ∀ w ∈ zT, w.before args s = true) (h1 : d + 1 ≤ R.frames) (h2 : 8 + (2 + 11) + 40 * d ≤ R.locals) : CallW R s args RX12 RX12 348 yX12_runs cX12_runs 2 none (zW yX12_runs cX12_runs 2 none) (zR d mc ms) mc ms 1 := z_cwV hts m_co_X12_runs m_ml_RX12_348 m_im_X12_runs m_se_X12_runs m_ii_RX12 (by decide +kernel) h1 h2
theorem kV_RX12_354 {R : Room} {s : State} {args : Array Value} {d mc ms : Nat} (hts : ∀ w ∈ zT, w.before args s = true) (h1 : d + 1 ≤ R.frames) (h2 : 8 + (3 + 11) + 40 * d ≤ R.locals) : CallW R s args RX12 RX12 354 yX12_nowOf cX12_nowOf 3 (some .int) (zW yX12_nowOf cX12_nowOf 3 (some .int)) (zR d mc ms) mc ms 1 := z_cwV hts m_co_X12_nowOf m_ml_RX12_354 m_im_X12_nowOf m_se_X12_nowOf m_ii_RX12 (by decide +kernel) h1 h2
theorem kV_RX12_357 {R : Room} {s : State} {args : Array Value} {d mc ms : Nat} (hts : ∀ w ∈ zT, w.before args s = true) (h1 : d + 1 ≤ R.frames) (h2 : 8 + (3 + 11) + 40 * d ≤ R.locals) : CallW R s args RX12 RX12 357 yX12_elsewhere cX12_elsewhere 3 (some .int) (zW yX12_elsewhere cX12_elsewhere 3 (some .int)) (zR d mc ms) mc ms 0 := z_cwV hts m_co_X12_elsewhere m_ml_RX12_357 m_im_X12_elsewhere m_se_X12_elsewhere m_ii_RX12 (by decide +kernel) h1 h2
theorem dX12_isDay_0 : decode cX12_isDay 0 = .ok (.aload_n 0, 1) := by decide +kernel
theorem dX12_isDay_1 : decode cX12_isDay 1 = .ok (.iconst 1, 1) := by decide +kernel
theorem dX12_isDay_2 : decode cX12_isDay 2 = .ok (.iload_n 1, 1) := by decide +kernel
theorem dX12_isDay_3 : decode cX12_isDay 3 = .ok (.invokevirtual 143, 3) := by decide +kernel
theorem dX12_isDay_6 : decode cX12_isDay 6 = .ok (.ifCond .ne 5, 3) := by decide +kernel
theorem dX12_isDay_9 : decode cX12_isDay 9 = .ok (.iconst 0, 1) := by decide +kernel
theorem dX12_isDay_10 : decode cX12_isDay 10 = .ok (.ireturn, 1) := by decide +kernel
theorem dX12_isDay_11 : decode cX12_isDay 11 = .ok (.aload_n 0, 1) := by decide +kernel
theorem dX12_isDay_12 : decode cX12_isDay 12 = .ok (.iconst 1, 1) := by decide +kernel
theorem dX12_isDay_13 : decode cX12_isDay 13 = .ok (.iload_n 1, 1) := by decide +kernel
theorem dX12_isDay_14 : decode cX12_isDay 14 = .ok (.invokestatic 163, 3) := by decide +kernel
theorem dX12_isDay_17 : decode cX12_isDay 17 = .ok (.putfield 302, 3) := by decide +kernel
theorem dX12_isDay_20 : decode cX12_isDay 20 = .ok (.iconst 1, 1) := by decide +kernel
theorem dX12_isDay_21 : decode cX12_isDay 21 = .ok (.ireturn, 1) := by decide +kernel
theorem dX12_isLog_0 : decode cX12_isLog 0 = .ok (.aload_n 0, 1) := by decide +kernel
theorem dX12_isLog_1 : decode cX12_isLog 1 = .ok (.iconst 2, 1) := by decide +kernel
theorem dX12_isLog_2 : decode cX12_isLog 2 = .ok (.iload_n 1, 1) := by decide +kernel
theorem dX12_isLog_3 : decode cX12_isLog 3 = .ok (.invokevirtual 143, 3) := by decide +kernel
theorem dX12_isLog_6 : decode cX12_isLog 6 = .ok (.ifCond .ne 5, 3) := by decide +kernel
theorem dX12_isLog_9 : decode cX12_isLog 9 = .ok (.iconst 0, 1) := by decide +kernel
theorem dX12_isLog_10 : decode cX12_isLog 10 = .ok (.ireturn, 1) := by decide +kernel
theorem dX12_isLog_11 : decode cX12_isLog 11 = .ok (.aload_n 0, 1) := by decide +kernel
theorem dX12_isLog_12 : decode cX12_isLog 12 = .ok (.iconst 2, 1) := by decide +kernel
theorem dX12_isLog_13 : decode cX12_isLog 13 = .ok (.iload_n 1, 1) := by decide +kernel
theorem dX12_isLog_14 : decode cX12_isLog 14 = .ok (.invokestatic 163, 3) := by decide +kernel
theorem dX12_isLog_17 : decode cX12_isLog 17 = .ok (.putfield 360, 3) := by decide +kernel
theorem dX12_isLog_20 : decode cX12_isLog 20 = .ok (.iconst 1, 1) := by decide +kernel
theorem dX12_isLog_21 : decode cX12_isLog 21 = .ok (.ireturn, 1) := by decide +kernel
theorem dX12_deed_0 : decode cX12_deed 0 = .ok (.aload_n 0, 1) := by decide +kernel
theorem dX12_deed_1 : decode cX12_deed 1 = .ok (.iload_n 1, 1) := by decide +kernel
theorem dX12_deed_2 : decode cX12_deed 2 = .ok (.invokevirtual 305, 3) := by decide +kernel
theorem dX12_deed_5 : decode cX12_deed 5 = .ok (.ifCond .ne 6, 3) := by decide +kernel
theorem dX12_deed_8 : decode cX12_deed 8 = .ok (.bipush (-2), 2) := by decide +kernel
theorem dX12_deed_10 : decode cX12_deed 10 = .ok (.ireturn, 1) := by decide +kernel
theorem dX12_deed_11 : decode cX12_deed 11 = .ok (.iload_n 2, 1) := by decide +kernel
theorem dX12_deed_12 : decode cX12_deed 12 = .ok (.iconst (-1), 1) := by decide +kernel
theorem dX12_deed_13 : decode cX12_deed 13 = .ok (.if_icmp .ne 22, 3) := by decide +kernel
theorem dX12_deed_16 : decode cX12_deed 16 = .ok (.iload_n 3, 1) := by decide +kernel
theorem dX12_deed_17 : decode cX12_deed 17 = .ok (.ifCond .ne 15, 3) := by decide +kernel
theorem dX12_deed_20 : decode cX12_deed 20 = .ok (.aload_n 0, 1) := by decide +kernel
theorem dX12_deed_21 : decode cX12_deed 21 = .ok (.getfield 7, 3) := by decide +kernel
theorem dX12_deed_24 : decode cX12_deed 24 = .ok (.aload_n 0, 1) := by decide +kernel
theorem dX12_deed_25 : decode cX12_deed 25 = .ok (.getfield 302, 3) := by decide +kernel
theorem dX12_deed_28 : decode cX12_deed 28 = .ok (.iaload, 1) := by decide +kernel
theorem dX12_deed_29 : decode cX12_deed 29 = .ok (.goto 5, 3) := by decide +kernel
theorem dX12_deed_32 : decode cX12_deed 32 = .ok (.bipush (-2), 2) := by decide +kernel
theorem dX12_deed_34 : decode cX12_deed 34 = .ok (.ireturn, 1) := by decide +kernel
theorem dX12_deed_35 : decode cX12_deed 35 = .ok (.iload_n 2, 1) := by decide +kernel
theorem dX12_deed_36 : decode cX12_deed 36 = .ok (.iconst 0, 1) := by decide +kernel
theorem dX12_deed_37 : decode cX12_deed 37 = .ok (.aload_n 0, 1) := by decide +kernel
theorem dX12_deed_38 : decode cX12_deed 38 = .ok (.getfield 7, 3) := by decide +kernel
theorem dX12_deed_41 : decode cX12_deed 41 = .ok (.aload_n 0, 1) := by decide +kernel
theorem dX12_deed_42 : decode cX12_deed 42 = .ok (.getfield 302, 3) := by decide +kernel
theorem dX12_deed_45 : decode cX12_deed 45 = .ok (.iaload, 1) := by decide +kernel
theorem dX12_deed_46 : decode cX12_deed 46 = .ok (.iconst 1, 1) := by decide +kernel
theorem dX12_deed_47 : decode cX12_deed 47 = .ok (.isub, 1) := by decide +kernel
theorem dX12_deed_48 : decode cX12_deed 48 = .ok (.invokestatic 111, 3) := by decide +kernel
theorem dX12_deed_51 : decode cX12_deed 51 = .ok (.ifCond .eq 32, 3) := by decide +kernel
theorem dX12_deed_54 : decode cX12_deed 54 = .ok (.iload_n 3, 1) := by decide +kernel
theorem dX12_deed_55 : decode cX12_deed 55 = .ok (.iconst 0, 1) := by decide +kernel
theorem dX12_deed_56 : decode cX12_deed 56 = .ok (.iconst 2, 1) := by decide +kernel
theorem dX12_deed_57 : decode cX12_deed 57 = .ok (.invokestatic 111, 3) := by decide +kernel
theorem dX12_deed_60 : decode cX12_deed 60 = .ok (.ifCond .eq 23, 3) := by decide +kernel
theorem dX12_deed_63 : decode cX12_deed 63 = .ok (.aload_n 0, 1) := by decide +kernel
theorem dX12_deed_64 : decode cX12_deed 64 = .ok (.getfield 7, 3) := by decide +kernel
theorem dX12_deed_67 : decode cX12_deed 67 = .ok (.aload_n 0, 1) := by decide +kernel
theorem dX12_deed_68 : decode cX12_deed 68 = .ok (.getfield 302, 3) := by decide +kernel
theorem dX12_deed_71 : decode cX12_deed 71 = .ok (.iconst 1, 1) := by decide +kernel
theorem dX12_deed_72 : decode cX12_deed 72 = .ok (.iadd, 1) := by decide +kernel
theorem dX12_deed_73 : decode cX12_deed 73 = .ok (.iconst 3, 1) := by decide +kernel
theorem dX12_deed_74 : decode cX12_deed 74 = .ok (.iload_n 2, 1) := by decide +kernel
theorem dX12_deed_75 : decode cX12_deed 75 = .ok (.imul, 1) := by decide +kernel
theorem dX12_deed_76 : decode cX12_deed 76 = .ok (.iadd, 1) := by decide +kernel
theorem dX12_deed_77 : decode cX12_deed 77 = .ok (.iload_n 3, 1) := by decide +kernel
theorem dX12_deed_78 : decode cX12_deed 78 = .ok (.iadd, 1) := by decide +kernel
theorem dX12_deed_79 : decode cX12_deed 79 = .ok (.iaload, 1) := by decide +kernel
theorem dX12_deed_80 : decode cX12_deed 80 = .ok (.goto 5, 3) := by decide +kernel
theorem dX12_deed_83 : decode cX12_deed 83 = .ok (.bipush (-2), 2) := by decide +kernel
theorem dX12_deed_85 : decode cX12_deed 85 = .ok (.ireturn, 1) := by decide +kernel
theorem dX12_fact_0 : decode cX12_fact 0 = .ok (.aload_n 0, 1) := by decide +kernel
theorem dX12_fact_1 : decode cX12_fact 1 = .ok (.iload_n 1, 1) := by decide +kernel
theorem dX12_fact_2 : decode cX12_fact 2 = .ok (.invokevirtual 363, 3) := by decide +kernel
theorem dX12_fact_5 : decode cX12_fact 5 = .ok (.ifCond .ne 6, 3) := by decide +kernel
theorem dX12_fact_8 : decode cX12_fact 8 = .ok (.bipush (-2), 2) := by decide +kernel
theorem dX12_fact_10 : decode cX12_fact 10 = .ok (.ireturn, 1) := by decide +kernel
theorem dX12_fact_11 : decode cX12_fact 11 = .ok (.iload_n 2, 1) := by decide +kernel
theorem dX12_fact_12 : decode cX12_fact 12 = .ok (.iconst (-1), 1) := by decide +kernel
theorem dX12_fact_13 : decode cX12_fact 13 = .ok (.if_icmp .ne 22, 3) := by decide +kernel
theorem dX12_fact_16 : decode cX12_fact 16 = .ok (.iload_n 3, 1) := by decide +kernel
theorem dX12_fact_17 : decode cX12_fact 17 = .ok (.ifCond .ne 15, 3) := by decide +kernel
theorem dX12_fact_20 : decode cX12_fact 20 = .ok (.aload_n 0, 1) := by decide +kernel
theorem dX12_fact_21 : decode cX12_fact 21 = .ok (.getfield 7, 3) := by decide +kernel
theorem dX12_fact_24 : decode cX12_fact 24 = .ok (.aload_n 0, 1) := by decide +kernel
theorem dX12_fact_25 : decode cX12_fact 25 = .ok (.getfield 360, 3) := by decide +kernel
theorem dX12_fact_28 : decode cX12_fact 28 = .ok (.iaload, 1) := by decide +kernel
theorem dX12_fact_29 : decode cX12_fact 29 = .ok (.goto 5, 3) := by decide +kernel
theorem dX12_fact_32 : decode cX12_fact 32 = .ok (.bipush (-2), 2) := by decide +kernel
theorem dX12_fact_34 : decode cX12_fact 34 = .ok (.ireturn, 1) := by decide +kernel
theorem dX12_fact_35 : decode cX12_fact 35 = .ok (.iload_n 2, 1) := by decide +kernel
theorem dX12_fact_36 : decode cX12_fact 36 = .ok (.iconst 0, 1) := by decide +kernel
theorem dX12_fact_37 : decode cX12_fact 37 = .ok (.aload_n 0, 1) := by decide +kernel
theorem dX12_fact_38 : decode cX12_fact 38 = .ok (.getfield 7, 3) := by decide +kernel
theorem dX12_fact_41 : decode cX12_fact 41 = .ok (.aload_n 0, 1) := by decide +kernel
theorem dX12_fact_42 : decode cX12_fact 42 = .ok (.getfield 360, 3) := by decide +kernel
theorem dX12_fact_45 : decode cX12_fact 45 = .ok (.iaload, 1) := by decide +kernel
theorem dX12_fact_46 : decode cX12_fact 46 = .ok (.iconst 1, 1) := by decide +kernel
theorem dX12_fact_47 : decode cX12_fact 47 = .ok (.isub, 1) := by decide +kernel
theorem dX12_fact_48 : decode cX12_fact 48 = .ok (.invokestatic 111, 3) := by decide +kernel
theorem dX12_fact_51 : decode cX12_fact 51 = .ok (.ifCond .eq 32, 3) := by decide +kernel
theorem dX12_fact_54 : decode cX12_fact 54 = .ok (.iload_n 3, 1) := by decide +kernel
theorem dX12_fact_55 : decode cX12_fact 55 = .ok (.iconst 0, 1) := by decide +kernel
theorem dX12_fact_56 : decode cX12_fact 56 = .ok (.iconst 1, 1) := by decide +kernel
theorem dX12_fact_57 : decode cX12_fact 57 = .ok (.invokestatic 111, 3) := by decide +kernel
theorem dX12_fact_60 : decode cX12_fact 60 = .ok (.ifCond .eq 23, 3) := by decide +kernel
theorem dX12_fact_63 : decode cX12_fact 63 = .ok (.aload_n 0, 1) := by decide +kernel
theorem dX12_fact_64 : decode cX12_fact 64 = .ok (.getfield 7, 3) := by decide +kernel
theorem dX12_fact_67 : decode cX12_fact 67 = .ok (.aload_n 0, 1) := by decide +kernel
theorem dX12_fact_68 : decode cX12_fact 68 = .ok (.getfield 360, 3) := by decide +kernel
theorem dX12_fact_71 : decode cX12_fact 71 = .ok (.iconst 1, 1) := by decide +kernel
theorem dX12_fact_72 : decode cX12_fact 72 = .ok (.iadd, 1) := by decide +kernel
theorem dX12_fact_73 : decode cX12_fact 73 = .ok (.iconst 2, 1) := by decide +kernel
theorem dX12_fact_74 : decode cX12_fact 74 = .ok (.iload_n 2, 1) := by decide +kernel
theorem dX12_fact_75 : decode cX12_fact 75 = .ok (.imul, 1) := by decide +kernel
theorem dX12_fact_76 : decode cX12_fact 76 = .ok (.iadd, 1) := by decide +kernel
theorem dX12_fact_77 : decode cX12_fact 77 = .ok (.iload_n 3, 1) := by decide +kernel
theorem dX12_fact_78 : decode cX12_fact 78 = .ok (.iadd, 1) := by decide +kernel
theorem dX12_fact_79 : decode cX12_fact 79 = .ok (.iaload, 1) := by decide +kernel
theorem dX12_fact_80 : decode cX12_fact 80 = .ok (.goto 5, 3) := by decide +kernel
theorem dX12_fact_83 : decode cX12_fact 83 = .ok (.bipush (-2), 2) := by decide +kernel
theorem dX12_fact_85 : decode cX12_fact 85 = .ok (.ireturn, 1) := by decide +kernel
theorem dX12_looks_0 : decode cX12_looks 0 = .ok (.iconst 0, 1) := by decide +kernel
theorem dX12_looks_1 : decode cX12_looks 1 = .ok (.istore_n 1, 1) := by decide +kernel
theorem dX12_looks_2 : decode cX12_looks 2 = .ok (.iload_n 1, 1) := by decide +kernel
theorem dX12_looks_3 : decode cX12_looks 3 = .ok (.aload_n 0, 1) := by decide +kernel
theorem dX12_looks_4 : decode cX12_looks 4 = .ok (.getfield 169, 3) := by decide +kernel
theorem dX12_looks_7 : decode cX12_looks 7 = .ok (.if_icmp .ge 47, 3) := by decide +kernel
theorem dX12_looks_10 : decode cX12_looks 10 = .ok (.aload_n 0, 1) := by decide +kernel
theorem dX12_looks_11 : decode cX12_looks 11 = .ok (.aload_n 0, 1) := by decide +kernel
theorem dX12_looks_12 : decode cX12_looks 12 = .ok (.iload_n 1, 1) := by decide +kernel
theorem dX12_looks_13 : decode cX12_looks 13 = .ok (.invokevirtual 178, 3) := by decide +kernel
theorem dX12_looks_16 : decode cX12_looks 16 = .ok (.ifCond .ne 25, 3) := by decide +kernel
theorem dX12_looks_19 : decode cX12_looks 19 = .ok (.aload_n 0, 1) := by decide +kernel
theorem dX12_looks_20 : decode cX12_looks 20 = .ok (.getfield 26, 3) := by decide +kernel
theorem dX12_looks_23 : decode cX12_looks 23 = .ok (.iload_n 1, 1) := by decide +kernel
theorem dX12_looks_24 : decode cX12_looks 24 = .ok (.iaload, 1) := by decide +kernel
theorem dX12_looks_25 : decode cX12_looks 25 = .ok (.aload_n 0, 1) := by decide +kernel
theorem dX12_looks_26 : decode cX12_looks 26 = .ok (.getfield 308, 3) := by decide +kernel
theorem dX12_looks_29 : decode cX12_looks 29 = .ok (.if_icmp .le 12, 3) := by decide +kernel
theorem dX12_looks_32 : decode cX12_looks 32 = .ok (.aload_n 0, 1) := by decide +kernel
theorem dX12_looks_33 : decode cX12_looks 33 = .ok (.getfield 26, 3) := by decide +kernel
theorem dX12_looks_36 : decode cX12_looks 36 = .ok (.iload_n 1, 1) := by decide +kernel
theorem dX12_looks_37 : decode cX12_looks 37 = .ok (.iaload, 1) := by decide +kernel
theorem dX12_looks_38 : decode cX12_looks 38 = .ok (.goto 7, 3) := by decide +kernel
theorem dX12_looks_41 : decode cX12_looks 41 = .ok (.aload_n 0, 1) := by decide +kernel
theorem dX12_looks_42 : decode cX12_looks 42 = .ok (.getfield 308, 3) := by decide +kernel
theorem dX12_looks_45 : decode cX12_looks 45 = .ok (.putfield 308, 3) := by decide +kernel
theorem dX12_looks_48 : decode cX12_looks 48 = .ok (.iinc 1 1, 3) := by decide +kernel
theorem dX12_looks_51 : decode cX12_looks 51 = .ok (.goto (-49), 3) := by decide +kernel
theorem dX12_looks_54 : decode cX12_looks 54 = .ok (.return_, 1) := by decide +kernel
theorem dX12_goesFrom_0 : decode cX12_goesFrom 0 = .ok (.aload_n 0, 1) := by decide +kernel
theorem dX12_goesFrom_1 : decode cX12_goesFrom 1 = .ok (.getfield 26, 3) := by decide +kernel
theorem dX12_goesFrom_4 : decode cX12_goesFrom 4 = .ok (.iload_n 1, 1) := by decide +kernel
theorem dX12_goesFrom_5 : decode cX12_goesFrom 5 = .ok (.dup2, 1) := by decide +kernel
theorem dX12_goesFrom_6 : decode cX12_goesFrom 6 = .ok (.iaload, 1) := by decide +kernel
theorem dX12_goesFrom_7 : decode cX12_goesFrom 7 = .ok (.iconst 1, 1) := by decide +kernel
theorem dX12_goesFrom_8 : decode cX12_goesFrom 8 = .ok (.isub, 1) := by decide +kernel
theorem dX12_goesFrom_9 : decode cX12_goesFrom 9 = .ok (.iastore, 1) := by decide +kernel
theorem dX12_goesFrom_10 : decode cX12_goesFrom 10 = .ok (.aload_n 0, 1) := by decide +kernel
theorem dX12_goesFrom_11 : decode cX12_goesFrom 11 = .ok (.getfield 26, 3) := by decide +kernel
theorem dX12_goesFrom_14 : decode cX12_goesFrom 14 = .ok (.aload_n 0, 1) := by decide +kernel
theorem dX12_goesFrom_15 : decode cX12_goesFrom 15 = .ok (.getfield 202, 3) := by decide +kernel
theorem dX12_goesFrom_18 : decode cX12_goesFrom 18 = .ok (.dup2, 1) := by decide +kernel
theorem dX12_goesFrom_19 : decode cX12_goesFrom 19 = .ok (.iaload, 1) := by decide +kernel
theorem dX12_goesFrom_20 : decode cX12_goesFrom 20 = .ok (.iconst 1, 1) := by decide +kernel
theorem dX12_goesFrom_21 : decode cX12_goesFrom 21 = .ok (.iadd, 1) := by decide +kernel
theorem dX12_goesFrom_22 : decode cX12_goesFrom 22 = .ok (.iastore, 1) := by decide +kernel
theorem dX12_goesFrom_23 : decode cX12_goesFrom 23 = .ok (.aload_n 0, 1) := by decide +kernel
theorem dX12_goesFrom_24 : decode cX12_goesFrom 24 = .ok (.dup, 1) := by decide +kernel
theorem dX12_goesFrom_25 : decode cX12_goesFrom 25 = .ok (.getfield 196, 3) := by decide +kernel
theorem dX12_goesFrom_28 : decode cX12_goesFrom 28 = .ok (.aload_n 0, 1) := by decide +kernel
theorem dX12_goesFrom_29 : decode cX12_goesFrom 29 = .ok (.getfield 208, 3) := by decide +kernel
theorem dX12_goesFrom_32 : decode cX12_goesFrom 32 = .ok (.iadd, 1) := by decide +kernel
theorem dX12_goesFrom_33 : decode cX12_goesFrom 33 = .ok (.putfield 196, 3) := by decide +kernel
theorem dX12_goesFrom_36 : decode cX12_goesFrom 36 = .ok (.aload_n 0, 1) := by decide +kernel
theorem dX12_goesFrom_37 : decode cX12_goesFrom 37 = .ok (.dup, 1) := by decide +kernel
theorem dX12_goesFrom_38 : decode cX12_goesFrom 38 = .ok (.getfield 311, 3) := by decide +kernel
theorem dX12_goesFrom_41 : decode cX12_goesFrom 41 = .ok (.aload_n 0, 1) := by decide +kernel
theorem dX12_goesFrom_42 : decode cX12_goesFrom 42 = .ok (.getfield 202, 3) := by decide +kernel
theorem dX12_goesFrom_45 : decode cX12_goesFrom 45 = .ok (.iload_n 1, 1) := by decide +kernel
theorem dX12_goesFrom_46 : decode cX12_goesFrom 46 = .ok (.if_icmp .ne 7, 3) := by decide +kernel
theorem dX12_goesFrom_49 : decode cX12_goesFrom 49 = .ok (.iconst 0, 1) := by decide +kernel
theorem dX12_goesFrom_50 : decode cX12_goesFrom 50 = .ok (.goto 4, 3) := by decide +kernel
theorem dX12_goesFrom_53 : decode cX12_goesFrom 53 = .ok (.iconst 1, 1) := by decide +kernel
theorem dX12_goesFrom_54 : decode cX12_goesFrom 54 = .ok (.iadd, 1) := by decide +kernel
theorem dX12_goesFrom_55 : decode cX12_goesFrom 55 = .ok (.putfield 311, 3) := by decide +kernel
theorem dX12_goesFrom_58 : decode cX12_goesFrom 58 = .ok (.aload_n 0, 1) := by decide +kernel
theorem dX12_goesFrom_59 : decode cX12_goesFrom 59 = .ok (.getfield 314, 3) := by decide +kernel
theorem dX12_goesFrom_62 : decode cX12_goesFrom 62 = .ok (.iconst (-1), 1) := by decide +kernel
theorem dX12_goesFrom_63 : decode cX12_goesFrom 63 = .ok (.if_icmp .ne 29, 3) := by decide +kernel
theorem dX12_goesFrom_66 : decode cX12_goesFrom 66 = .ok (.aload_n 0, 1) := by decide +kernel
theorem dX12_goesFrom_67 : decode cX12_goesFrom 67 = .ok (.getfield 208, 3) := by decide +kernel
theorem dX12_goesFrom_70 : decode cX12_goesFrom 70 = .ok (.ifCond .le 22, 3) := by decide +kernel
theorem dX12_goesFrom_73 : decode cX12_goesFrom 73 = .ok (.aload_n 0, 1) := by decide +kernel
theorem dX12_goesFrom_74 : decode cX12_goesFrom 74 = .ok (.aload_n 0, 1) := by decide +kernel
theorem dX12_goesFrom_75 : decode cX12_goesFrom 75 = .ok (.getfield 202, 3) := by decide +kernel
theorem dX12_goesFrom_78 : decode cX12_goesFrom 78 = .ok (.invokevirtual 178, 3) := by decide +kernel
theorem dX12_goesFrom_81 : decode cX12_goesFrom 81 = .ok (.ifCond .eq 11, 3) := by decide +kernel
theorem dX12_goesFrom_84 : decode cX12_goesFrom 84 = .ok (.aload_n 0, 1) := by decide +kernel
theorem dX12_goesFrom_85 : decode cX12_goesFrom 85 = .ok (.aload_n 0, 1) := by decide +kernel
theorem dX12_goesFrom_86 : decode cX12_goesFrom 86 = .ok (.getfield 199, 3) := by decide +kernel
theorem dX12_goesFrom_89 : decode cX12_goesFrom 89 = .ok (.putfield 314, 3) := by decide +kernel
theorem dX12_goesFrom_92 : decode cX12_goesFrom 92 = .ok (.return_, 1) := by decide +kernel
theorem dX12_goes_0 : decode cX12_goes 0 = .ok (.aload_n 0, 1) := by decide +kernel
theorem dX12_goes_1 : decode cX12_goes 1 = .ok (.iload_n 1, 1) := by decide +kernel
theorem dX12_goes_2 : decode cX12_goes 2 = .ok (.invokevirtual 178, 3) := by decide +kernel
theorem dX12_goes_5 : decode cX12_goes 5 = .ok (.ifCond .ne 12, 3) := by decide +kernel
theorem dX12_goes_8 : decode cX12_goes 8 = .ok (.aload_n 0, 1) := by decide +kernel
theorem dX12_goes_9 : decode cX12_goes 9 = .ok (.getfield 26, 3) := by decide +kernel
theorem dX12_goes_12 : decode cX12_goes 12 = .ok (.iload_n 1, 1) := by decide +kernel
theorem dX12_goes_13 : decode cX12_goes 13 = .ok (.iaload, 1) := by decide +kernel
theorem dX12_goes_14 : decode cX12_goes 14 = .ok (.ifCond .ne 5, 3) := by decide +kernel
theorem dX12_goes_17 : decode cX12_goes 17 = .ok (.iconst 0, 1) := by decide +kernel
theorem dX12_goes_18 : decode cX12_goes 18 = .ok (.ireturn, 1) := by decide +kernel
theorem dX12_goes_19 : decode cX12_goes 19 = .ok (.aload_n 0, 1) := by decide +kernel
theorem dX12_goes_20 : decode cX12_goes 20 = .ok (.iload_n 1, 1) := by decide +kernel
theorem dX12_goes_21 : decode cX12_goes 21 = .ok (.invokevirtual 211, 3) := by decide +kernel
theorem dX12_goes_24 : decode cX12_goes 24 = .ok (.aload_n 0, 1) := by decide +kernel
theorem dX12_goes_25 : decode cX12_goes 25 = .ok (.invokevirtual 214, 3) := by decide +kernel
theorem dX12_goes_28 : decode cX12_goes 28 = .ok (.ifCond .ne 5, 3) := by decide +kernel
theorem dX12_goes_31 : decode cX12_goes 31 = .ok (.iconst 0, 1) := by decide +kernel
theorem dX12_goes_32 : decode cX12_goes 32 = .ok (.ireturn, 1) := by decide +kernel
theorem dX12_goes_33 : decode cX12_goes 33 = .ok (.aload_n 0, 1) := by decide +kernel
theorem dX12_goes_34 : decode cX12_goes 34 = .ok (.iload_n 1, 1) := by decide +kernel
theorem dX12_goes_35 : decode cX12_goes 35 = .ok (.invokevirtual 317, 3) := by decide +kernel
theorem dX12_goes_38 : decode cX12_goes 38 = .ok (.iconst 1, 1) := by decide +kernel
theorem dX12_goes_39 : decode cX12_goes 39 = .ok (.ireturn, 1) := by decide +kernel
theorem dX12_runs0_0 : decode cX12_runs0 0 = .ok (.aload_n 0, 1) := by decide +kernel
theorem dX12_runs0_1 : decode cX12_runs0 1 = .ok (.getfield 26, 3) := by decide +kernel
theorem dX12_runs0_4 : decode cX12_runs0 4 = .ok (.iload_n 1, 1) := by decide +kernel
theorem dX12_runs0_5 : decode cX12_runs0 5 = .ok (.iaload, 1) := by decide +kernel
theorem dX12_runs0_6 : decode cX12_runs0 6 = .ok (.ifCond .ne 5, 3) := by decide +kernel
theorem dX12_runs0_9 : decode cX12_runs0 9 = .ok (.iconst 0, 1) := by decide +kernel
theorem dX12_runs0_10 : decode cX12_runs0 10 = .ok (.ireturn, 1) := by decide +kernel
theorem dX12_runs0_11 : decode cX12_runs0 11 = .ok (.aload_n 0, 1) := by decide +kernel
theorem dX12_runs0_12 : decode cX12_runs0 12 = .ok (.dup, 1) := by decide +kernel
theorem dX12_runs0_13 : decode cX12_runs0 13 = .ok (.getfield 320, 3) := by decide +kernel
theorem dX12_runs0_16 : decode cX12_runs0 16 = .ok (.aload_n 0, 1) := by decide +kernel
theorem dX12_runs0_17 : decode cX12_runs0 17 = .ok (.iload_n 1, 1) := by decide +kernel
theorem dX12_runs0_18 : decode cX12_runs0 18 = .ok (.invokevirtual 217, 3) := by decide +kernel
theorem dX12_runs0_21 : decode cX12_runs0 21 = .ok (.ifCond .eq 7, 3) := by decide +kernel
theorem dX12_runs0_24 : decode cX12_runs0 24 = .ok (.iconst 0, 1) := by decide +kernel
theorem dX12_runs0_25 : decode cX12_runs0 25 = .ok (.goto 4, 3) := by decide +kernel
theorem dX12_runs0_28 : decode cX12_runs0 28 = .ok (.iconst 1, 1) := by decide +kernel
theorem dX12_runs0_29 : decode cX12_runs0 29 = .ok (.iadd, 1) := by decide +kernel
theorem dX12_runs0_30 : decode cX12_runs0 30 = .ok (.putfield 320, 3) := by decide +kernel
theorem dX12_runs0_33 : decode cX12_runs0 33 = .ok (.aload_n 0, 1) := by decide +kernel
theorem dX12_runs0_34 : decode cX12_runs0 34 = .ok (.aload_n 0, 1) := by decide +kernel
theorem dX12_runs0_35 : decode cX12_runs0 35 = .ok (.getfield 208, 3) := by decide +kernel
theorem dX12_runs0_38 : decode cX12_runs0 38 = .ok (.aload_n 0, 1) := by decide +kernel
theorem dX12_runs0_39 : decode cX12_runs0 39 = .ok (.getfield 323, 3) := by decide +kernel
theorem dX12_runs0_42 : decode cX12_runs0 42 = .ok (.if_icmp .le 10, 3) := by decide +kernel
theorem dX12_runs0_45 : decode cX12_runs0 45 = .ok (.aload_n 0, 1) := by decide +kernel
theorem dX12_runs0_46 : decode cX12_runs0 46 = .ok (.getfield 208, 3) := by decide +kernel
theorem dX12_runs0_49 : decode cX12_runs0 49 = .ok (.goto 7, 3) := by decide +kernel
theorem dX12_runs0_52 : decode cX12_runs0 52 = .ok (.aload_n 0, 1) := by decide +kernel
theorem dX12_runs0_53 : decode cX12_runs0 53 = .ok (.getfield 323, 3) := by decide +kernel
theorem dX12_runs0_56 : decode cX12_runs0 56 = .ok (.putfield 323, 3) := by decide +kernel
theorem dX12_runs0_59 : decode cX12_runs0 59 = .ok (.aload_n 0, 1) := by decide +kernel
theorem dX12_runs0_60 : decode cX12_runs0 60 = .ok (.iload_n 1, 1) := by decide +kernel
theorem dX12_runs0_61 : decode cX12_runs0 61 = .ok (.invokevirtual 317, 3) := by decide +kernel
theorem dX12_runs0_64 : decode cX12_runs0 64 = .ok (.iconst 1, 1) := by decide +kernel
theorem dX12_runs0_65 : decode cX12_runs0 65 = .ok (.ireturn, 1) := by decide +kernel
theorem dX12_adds_0 : decode cX12_adds 0 = .ok (.aload_n 0, 1) := by decide +kernel
theorem dX12_adds_1 : decode cX12_adds 1 = .ok (.getfield 26, 3) := by decide +kernel
theorem dX12_adds_4 : decode cX12_adds 4 = .ok (.iload_n 1, 1) := by decide +kernel
theorem dX12_adds_5 : decode cX12_adds 5 = .ok (.iaload, 1) := by decide +kernel
theorem dX12_adds_6 : decode cX12_adds 6 = .ok (.bipush 99, 2) := by decide +kernel
theorem dX12_adds_8 : decode cX12_adds 8 = .ok (.if_icmp .lt 5, 3) := by decide +kernel
theorem dX12_adds_11 : decode cX12_adds 11 = .ok (.iconst 0, 1) := by decide +kernel
theorem dX12_adds_12 : decode cX12_adds 12 = .ok (.ireturn, 1) := by decide +kernel
theorem dX12_adds_13 : decode cX12_adds 13 = .ok (.aload_n 0, 1) := by decide +kernel
theorem dX12_adds_14 : decode cX12_adds 14 = .ok (.getfield 26, 3) := by decide +kernel
theorem dX12_adds_17 : decode cX12_adds 17 = .ok (.iload_n 1, 1) := by decide +kernel
theorem dX12_adds_18 : decode cX12_adds 18 = .ok (.dup2, 1) := by decide +kernel
theorem dX12_adds_19 : decode cX12_adds 19 = .ok (.iaload, 1) := by decide +kernel
theorem dX12_adds_20 : decode cX12_adds 20 = .ok (.iconst 1, 1) := by decide +kernel
theorem dX12_adds_21 : decode cX12_adds 21 = .ok (.iadd, 1) := by decide +kernel
theorem dX12_adds_22 : decode cX12_adds 22 = .ok (.iastore, 1) := by decide +kernel
theorem dX12_adds_23 : decode cX12_adds 23 = .ok (.iconst 1, 1) := by decide +kernel
theorem dX12_adds_24 : decode cX12_adds 24 = .ok (.ireturn, 1) := by decide +kernel
theorem dX12_shuts_0 : decode cX12_shuts 0 = .ok (.iload_n 2, 1) := by decide +kernel
theorem dX12_shuts_1 : decode cX12_shuts 1 = .ok (.aload_n 0, 1) := by decide +kernel
theorem dX12_shuts_2 : decode cX12_shuts 2 = .ok (.iload_n 1, 1) := by decide +kernel
theorem dX12_shuts_3 : decode cX12_shuts 3 = .ok (.invokevirtual 181, 3) := by decide +kernel
theorem dX12_shuts_6 : decode cX12_shuts 6 = .ok (.if_icmp .ge 26, 3) := by decide +kernel
theorem dX12_shuts_9 : decode cX12_shuts 9 = .ok (.aload_n 0, 1) := by decide +kernel
theorem dX12_shuts_10 : decode cX12_shuts 10 = .ok (.getfield 23, 3) := by decide +kernel
theorem dX12_shuts_13 : decode cX12_shuts 13 = .ok (.iload_n 1, 1) := by decide +kernel
theorem dX12_shuts_14 : decode cX12_shuts 14 = .ok (.iaload, 1) := by decide +kernel
theorem dX12_shuts_15 : decode cX12_shuts 15 = .ok (.iload_n 2, 1) := by decide +kernel
theorem dX12_shuts_16 : decode cX12_shuts 16 = .ok (.ishr, 1) := by decide +kernel
theorem dX12_shuts_17 : decode cX12_shuts 17 = .ok (.iconst 1, 1) := by decide +kernel
theorem dX12_shuts_18 : decode cX12_shuts 18 = .ok (.iand, 1) := by decide +kernel
theorem dX12_shuts_19 : decode cX12_shuts 19 = .ok (.iconst 1, 1) := by decide +kernel
theorem dX12_shuts_20 : decode cX12_shuts 20 = .ok (.if_icmp .ne 7, 3) := by decide +kernel
theorem dX12_shuts_23 : decode cX12_shuts 23 = .ok (.iconst 1, 1) := by decide +kernel
theorem dX12_shuts_24 : decode cX12_shuts 24 = .ok (.goto 4, 3) := by decide +kernel
theorem dX12_shuts_27 : decode cX12_shuts 27 = .ok (.iconst 0, 1) := by decide +kernel
theorem dX12_shuts_28 : decode cX12_shuts 28 = .ok (.iload_n 3, 1) := by decide +kernel
theorem dX12_shuts_29 : decode cX12_shuts 29 = .ok (.if_icmp .ne 5, 3) := by decide +kernel
theorem dX12_shuts_32 : decode cX12_shuts 32 = .ok (.iconst 0, 1) := by decide +kernel
theorem dX12_shuts_33 : decode cX12_shuts 33 = .ok (.ireturn, 1) := by decide +kernel
theorem dX12_shuts_34 : decode cX12_shuts 34 = .ok (.aload_n 0, 1) := by decide +kernel
theorem dX12_shuts_35 : decode cX12_shuts 35 = .ok (.getfield 23, 3) := by decide +kernel
theorem dX12_shuts_38 : decode cX12_shuts 38 = .ok (.iload_n 1, 1) := by decide +kernel
theorem dX12_shuts_39 : decode cX12_shuts 39 = .ok (.dup2, 1) := by decide +kernel
theorem dX12_shuts_40 : decode cX12_shuts 40 = .ok (.iaload, 1) := by decide +kernel
theorem dX12_shuts_41 : decode cX12_shuts 41 = .ok (.iconst 1, 1) := by decide +kernel
theorem dX12_shuts_42 : decode cX12_shuts 42 = .ok (.iload_n 2, 1) := by decide +kernel
theorem dX12_shuts_43 : decode cX12_shuts 43 = .ok (.ishl, 1) := by decide +kernel
theorem dX12_shuts_44 : decode cX12_shuts 44 = .ok (.ixor, 1) := by decide +kernel
theorem dX12_shuts_45 : decode cX12_shuts 45 = .ok (.iastore, 1) := by decide +kernel
theorem dX12_shuts_46 : decode cX12_shuts 46 = .ok (.iconst 1, 1) := by decide +kernel
theorem dX12_shuts_47 : decode cX12_shuts 47 = .ok (.ireturn, 1) := by decide +kernel
theorem dX12_does_0 : decode cX12_does 0 = .ok (.aload_n 0, 1) := by decide +kernel
theorem dX12_does_1 : decode cX12_does 1 = .ok (.iload_n 2, 1) := by decide +kernel
theorem dX12_does_2 : decode cX12_does 2 = .ok (.invokevirtual 187, 3) := by decide +kernel
theorem dX12_does_5 : decode cX12_does 5 = .ok (.ifCond .ne 5, 3) := by decide +kernel
theorem dX12_does_8 : decode cX12_does 8 = .ok (.iconst 0, 1) := by decide +kernel
theorem dX12_does_9 : decode cX12_does 9 = .ok (.ireturn, 1) := by decide +kernel
theorem dX12_does_10 : decode cX12_does 10 = .ok (.iload_n 1, 1) := by decide +kernel
theorem dX12_does_11 : decode cX12_does 11 = .ok (.tableswitch 69 0 3 #[29, 35, 41, 63], 29) := by decide +kernel
theorem dX12_does_40 : decode cX12_does 40 = .ok (.aload_n 0, 1) := by decide +kernel
theorem dX12_does_41 : decode cX12_does 41 = .ok (.iload_n 2, 1) := by decide +kernel
theorem dX12_does_42 : decode cX12_does 42 = .ok (.invokevirtual 326, 3) := by decide +kernel
theorem dX12_does_45 : decode cX12_does 45 = .ok (.ireturn, 1) := by decide +kernel
theorem dX12_does_46 : decode cX12_does 46 = .ok (.aload_n 0, 1) := by decide +kernel
theorem dX12_does_47 : decode cX12_does 47 = .ok (.iload_n 2, 1) := by decide +kernel
theorem dX12_does_48 : decode cX12_does 48 = .ok (.invokevirtual 329, 3) := by decide +kernel
theorem dX12_does_51 : decode cX12_does 51 = .ok (.ireturn, 1) := by decide +kernel
theorem dX12_does_52 : decode cX12_does 52 = .ok (.aload_n 0, 1) := by decide +kernel
theorem dX12_does_53 : decode cX12_does 53 = .ok (.iload_n 2, 1) := by decide +kernel
theorem dX12_does_54 : decode cX12_does 54 = .ok (.invokevirtual 178, 3) := by decide +kernel
theorem dX12_does_57 : decode cX12_does 57 = .ok (.ifCond .ne 15, 3) := by decide +kernel
theorem dX12_does_60 : decode cX12_does 60 = .ok (.aload_n 0, 1) := by decide +kernel
theorem dX12_does_61 : decode cX12_does 61 = .ok (.iload_n 2, 1) := by decide +kernel
theorem dX12_does_62 : decode cX12_does 62 = .ok (.invokevirtual 205, 3) := by decide +kernel
theorem dX12_does_65 : decode cX12_does 65 = .ok (.ifCond .eq 7, 3) := by decide +kernel
theorem dX12_does_68 : decode cX12_does 68 = .ok (.iconst 1, 1) := by decide +kernel
theorem dX12_does_69 : decode cX12_does 69 = .ok (.goto 4, 3) := by decide +kernel
theorem dX12_does_72 : decode cX12_does 72 = .ok (.iconst 0, 1) := by decide +kernel
theorem dX12_does_73 : decode cX12_does 73 = .ok (.ireturn, 1) := by decide +kernel
theorem dX12_does_74 : decode cX12_does 74 = .ok (.aload_n 0, 1) := by decide +kernel
theorem dX12_does_75 : decode cX12_does 75 = .ok (.iload_n 2, 1) := by decide +kernel
theorem dX12_does_76 : decode cX12_does 76 = .ok (.invokevirtual 332, 3) := by decide +kernel
theorem dX12_does_79 : decode cX12_does 79 = .ok (.ireturn, 1) := by decide +kernel
theorem dX12_does_80 : decode cX12_does 80 = .ok (.aload_n 0, 1) := by decide +kernel
theorem dX12_does_81 : decode cX12_does 81 = .ok (.iload_n 2, 1) := by decide +kernel
theorem dX12_does_82 : decode cX12_does 82 = .ok (.iload_n 3, 1) := by decide +kernel
theorem dX12_does_83 : decode cX12_does 83 = .ok (.iload_n 1, 1) := by decide +kernel
theorem dX12_does_84 : decode cX12_does 84 = .ok (.iconst 4, 1) := by decide +kernel
theorem dX12_does_85 : decode cX12_does 85 = .ok (.if_icmp .ne 7, 3) := by decide +kernel
theorem dX12_does_88 : decode cX12_does 88 = .ok (.iconst 1, 1) := by decide +kernel
theorem dX12_does_89 : decode cX12_does 89 = .ok (.goto 4, 3) := by decide +kernel
theorem dX12_does_92 : decode cX12_does 92 = .ok (.iconst 0, 1) := by decide +kernel
theorem dX12_does_93 : decode cX12_does 93 = .ok (.invokevirtual 335, 3) := by decide +kernel
theorem dX12_does_96 : decode cX12_does 96 = .ok (.ireturn, 1) := by decide +kernel
theorem dX12_beginsDay_0 : decode cX12_beginsDay 0 = .ok (.aload_n 0, 1) := by decide +kernel
theorem dX12_beginsDay_1 : decode cX12_beginsDay 1 = .ok (.iconst 0, 1) := by decide +kernel
theorem dX12_beginsDay_2 : decode cX12_beginsDay 2 = .ok (.putfield 320, 3) := by decide +kernel
theorem dX12_beginsDay_5 : decode cX12_beginsDay 5 = .ok (.aload_n 0, 1) := by decide +kernel
theorem dX12_beginsDay_6 : decode cX12_beginsDay 6 = .ok (.iconst (-1), 1) := by decide +kernel
theorem dX12_beginsDay_7 : decode cX12_beginsDay 7 = .ok (.putfield 314, 3) := by decide +kernel
theorem dX12_beginsDay_10 : decode cX12_beginsDay 10 = .ok (.aload_n 0, 1) := by decide +kernel
theorem dX12_beginsDay_11 : decode cX12_beginsDay 11 = .ok (.iconst 0, 1) := by decide +kernel
theorem dX12_beginsDay_12 : decode cX12_beginsDay 12 = .ok (.putfield 323, 3) := by decide +kernel
theorem dX12_beginsDay_15 : decode cX12_beginsDay 15 = .ok (.aload_n 0, 1) := by decide +kernel
theorem dX12_beginsDay_16 : decode cX12_beginsDay 16 = .ok (.iconst 0, 1) := by decide +kernel
theorem dX12_beginsDay_17 : decode cX12_beginsDay 17 = .ok (.putfield 311, 3) := by decide +kernel
theorem dX12_beginsDay_20 : decode cX12_beginsDay 20 = .ok (.aload_n 0, 1) := by decide +kernel
theorem dX12_beginsDay_21 : decode cX12_beginsDay 21 = .ok (.iconst 0, 1) := by decide +kernel
theorem dX12_beginsDay_22 : decode cX12_beginsDay 22 = .ok (.putfield 308, 3) := by decide +kernel
theorem dX12_beginsDay_25 : decode cX12_beginsDay 25 = .ok (.aload_n 0, 1) := by decide +kernel
theorem dX12_beginsDay_26 : decode cX12_beginsDay 26 = .ok (.invokevirtual 339, 3) := by decide +kernel
theorem dX12_beginsDay_29 : decode cX12_beginsDay 29 = .ok (.return_, 1) := by decide +kernel
theorem dX12_runs_0 : decode cX12_runs 0 = .ok (.aload_n 0, 1) := by decide +kernel
theorem dX12_runs_1 : decode cX12_runs 1 = .ok (.invokevirtual 342, 3) := by decide +kernel
theorem dX12_runs_4 : decode cX12_runs 4 = .ok (.aload_n 0, 1) := by decide +kernel
theorem dX12_runs_5 : decode cX12_runs 5 = .ok (.getfield 199, 3) := by decide +kernel
theorem dX12_runs_8 : decode cX12_runs 8 = .ok (.iload_n 1, 1) := by decide +kernel
theorem dX12_runs_9 : decode cX12_runs 9 = .ok (.if_icmp .ge 97, 3) := by decide +kernel
theorem dX12_runs_12 : decode cX12_runs 12 = .ok (.aload_n 0, 1) := by decide +kernel
theorem dX12_runs_13 : decode cX12_runs 13 = .ok (.getfield 199, 3) := by decide +kernel
theorem dX12_runs_16 : decode cX12_runs 16 = .ok (.aload_n 0, 1) := by decide +kernel
theorem dX12_runs_17 : decode cX12_runs 17 = .ok (.getfield 7, 3) := by decide +kernel
theorem dX12_runs_20 : decode cX12_runs 20 = .ok (.aload_n 0, 1) := by decide +kernel
theorem dX12_runs_21 : decode cX12_runs 21 = .ok (.getfield 302, 3) := by decide +kernel
theorem dX12_runs_24 : decode cX12_runs 24 = .ok (.iaload, 1) := by decide +kernel
theorem dX12_runs_25 : decode cX12_runs 25 = .ok (.if_icmp .ge 81, 3) := by decide +kernel
theorem dX12_runs_28 : decode cX12_runs 28 = .ok (.aload_n 0, 1) := by decide +kernel
theorem dX12_runs_29 : decode cX12_runs 29 = .ok (.aload_n 0, 1) := by decide +kernel
theorem dX12_runs_30 : decode cX12_runs 30 = .ok (.getfield 7, 3) := by decide +kernel
theorem dX12_runs_33 : decode cX12_runs 33 = .ok (.aload_n 0, 1) := by decide +kernel
theorem dX12_runs_34 : decode cX12_runs 34 = .ok (.getfield 302, 3) := by decide +kernel
theorem dX12_runs_37 : decode cX12_runs 37 = .ok (.iconst 1, 1) := by decide +kernel
theorem dX12_runs_38 : decode cX12_runs 38 = .ok (.iadd, 1) := by decide +kernel
theorem dX12_runs_39 : decode cX12_runs 39 = .ok (.iconst 3, 1) := by decide +kernel
theorem dX12_runs_40 : decode cX12_runs 40 = .ok (.aload_n 0, 1) := by decide +kernel
theorem dX12_runs_41 : decode cX12_runs 41 = .ok (.getfield 199, 3) := by decide +kernel
theorem dX12_runs_44 : decode cX12_runs 44 = .ok (.imul, 1) := by decide +kernel
theorem dX12_runs_45 : decode cX12_runs 45 = .ok (.iadd, 1) := by decide +kernel
theorem dX12_runs_46 : decode cX12_runs 46 = .ok (.iaload, 1) := by decide +kernel
theorem dX12_runs_47 : decode cX12_runs 47 = .ok (.aload_n 0, 1) := by decide +kernel
theorem dX12_runs_48 : decode cX12_runs 48 = .ok (.getfield 7, 3) := by decide +kernel
theorem dX12_runs_51 : decode cX12_runs 51 = .ok (.aload_n 0, 1) := by decide +kernel
theorem dX12_runs_52 : decode cX12_runs 52 = .ok (.getfield 302, 3) := by decide +kernel
theorem dX12_runs_55 : decode cX12_runs 55 = .ok (.iconst 2, 1) := by decide +kernel
theorem dX12_runs_56 : decode cX12_runs 56 = .ok (.iadd, 1) := by decide +kernel
theorem dX12_runs_57 : decode cX12_runs 57 = .ok (.iconst 3, 1) := by decide +kernel
theorem dX12_runs_58 : decode cX12_runs 58 = .ok (.aload_n 0, 1) := by decide +kernel
theorem dX12_runs_59 : decode cX12_runs 59 = .ok (.getfield 199, 3) := by decide +kernel
theorem dX12_runs_62 : decode cX12_runs 62 = .ok (.imul, 1) := by decide +kernel
theorem dX12_runs_63 : decode cX12_runs 63 = .ok (.iadd, 1) := by decide +kernel
theorem dX12_runs_64 : decode cX12_runs 64 = .ok (.iaload, 1) := by decide +kernel
theorem dX12_runs_65 : decode cX12_runs 65 = .ok (.aload_n 0, 1) := by decide +kernel
theorem dX12_runs_66 : decode cX12_runs 66 = .ok (.getfield 7, 3) := by decide +kernel
theorem dX12_runs_69 : decode cX12_runs 69 = .ok (.aload_n 0, 1) := by decide +kernel
theorem dX12_runs_70 : decode cX12_runs 70 = .ok (.getfield 302, 3) := by decide +kernel
theorem dX12_runs_73 : decode cX12_runs 73 = .ok (.iconst 3, 1) := by decide +kernel
theorem dX12_runs_74 : decode cX12_runs 74 = .ok (.iadd, 1) := by decide +kernel
theorem dX12_runs_75 : decode cX12_runs 75 = .ok (.iconst 3, 1) := by decide +kernel
theorem dX12_runs_76 : decode cX12_runs 76 = .ok (.aload_n 0, 1) := by decide +kernel
theorem dX12_runs_77 : decode cX12_runs 77 = .ok (.getfield 199, 3) := by decide +kernel
theorem dX12_runs_80 : decode cX12_runs 80 = .ok (.imul, 1) := by decide +kernel
theorem dX12_runs_81 : decode cX12_runs 81 = .ok (.iadd, 1) := by decide +kernel
theorem dX12_runs_82 : decode cX12_runs 82 = .ok (.iaload, 1) := by decide +kernel
theorem dX12_runs_83 : decode cX12_runs 83 = .ok (.invokevirtual 345, 3) := by decide +kernel
theorem dX12_runs_86 : decode cX12_runs 86 = .ok (.ifCond .eq 20, 3) := by decide +kernel
theorem dX12_runs_89 : decode cX12_runs 89 = .ok (.aload_n 0, 1) := by decide +kernel
theorem dX12_runs_90 : decode cX12_runs 90 = .ok (.dup, 1) := by decide +kernel
theorem dX12_runs_91 : decode cX12_runs 91 = .ok (.getfield 199, 3) := by decide +kernel
theorem dX12_runs_94 : decode cX12_runs 94 = .ok (.iconst 1, 1) := by decide +kernel
theorem dX12_runs_95 : decode cX12_runs 95 = .ok (.iadd, 1) := by decide +kernel
theorem dX12_runs_96 : decode cX12_runs 96 = .ok (.putfield 199, 3) := by decide +kernel
theorem dX12_runs_99 : decode cX12_runs 99 = .ok (.aload_n 0, 1) := by decide +kernel
theorem dX12_runs_100 : decode cX12_runs 100 = .ok (.invokevirtual 339, 3) := by decide +kernel
theorem dX12_runs_103 : decode cX12_runs 103 = .ok (.goto (-99), 3) := by decide +kernel
theorem dX12_runs_106 : decode cX12_runs 106 = .ok (.return_, 1) := by decide +kernel
theorem dX12_walkersOf_0 : decode cX12_walkersOf 0 = .ok (.iconst 0, 1) := by decide +kernel
theorem dX12_walkersOf_1 : decode cX12_walkersOf 1 = .ok (.istore_n 2, 1) := by decide +kernel
theorem dX12_walkersOf_2 : decode cX12_walkersOf 2 = .ok (.iconst 0, 1) := by decide +kernel
theorem dX12_walkersOf_3 : decode cX12_walkersOf 3 = .ok (.istore_n 3, 1) := by decide +kernel
theorem dX12_walkersOf_4 : decode cX12_walkersOf 4 = .ok (.iload_n 3, 1) := by decide +kernel
theorem dX12_walkersOf_5 : decode cX12_walkersOf 5 = .ok (.aload_n 0, 1) := by decide +kernel
theorem dX12_walkersOf_6 : decode cX12_walkersOf 6 = .ok (.getfield 169, 3) := by decide +kernel
theorem dX12_walkersOf_9 : decode cX12_walkersOf 9 = .ok (.if_icmp .ge 34, 3) := by decide +kernel
theorem dX12_walkersOf_12 : decode cX12_walkersOf 12 = .ok (.iload_n 2, 1) := by decide +kernel
theorem dX12_walkersOf_13 : decode cX12_walkersOf 13 = .ok (.iload_n 1, 1) := by decide +kernel
theorem dX12_walkersOf_14 : decode cX12_walkersOf 14 = .ok (.ifCond .eq 11, 3) := by decide +kernel
theorem dX12_walkersOf_17 : decode cX12_walkersOf 17 = .ok (.aload_n 0, 1) := by decide +kernel
theorem dX12_walkersOf_18 : decode cX12_walkersOf 18 = .ok (.iload_n 3, 1) := by decide +kernel
theorem dX12_walkersOf_19 : decode cX12_walkersOf 19 = .ok (.invokevirtual 178, 3) := by decide +kernel
theorem dX12_walkersOf_22 : decode cX12_walkersOf 22 = .ok (.ifCond .eq 12, 3) := by decide +kernel
theorem dX12_walkersOf_25 : decode cX12_walkersOf 25 = .ok (.aload_n 0, 1) := by decide +kernel
theorem dX12_walkersOf_26 : decode cX12_walkersOf 26 = .ok (.getfield 26, 3) := by decide +kernel
theorem dX12_walkersOf_29 : decode cX12_walkersOf 29 = .ok (.iload_n 3, 1) := by decide +kernel
theorem dX12_walkersOf_30 : decode cX12_walkersOf 30 = .ok (.iaload, 1) := by decide +kernel
theorem dX12_walkersOf_31 : decode cX12_walkersOf 31 = .ok (.goto 4, 3) := by decide +kernel
theorem dX12_walkersOf_34 : decode cX12_walkersOf 34 = .ok (.iconst 0, 1) := by decide +kernel
theorem dX12_walkersOf_35 : decode cX12_walkersOf 35 = .ok (.iadd, 1) := by decide +kernel
theorem dX12_walkersOf_36 : decode cX12_walkersOf 36 = .ok (.istore_n 2, 1) := by decide +kernel
theorem dX12_walkersOf_37 : decode cX12_walkersOf 37 = .ok (.iinc 3 1, 3) := by decide +kernel
theorem dX12_walkersOf_40 : decode cX12_walkersOf 40 = .ok (.goto (-36), 3) := by decide +kernel
theorem dX12_walkersOf_43 : decode cX12_walkersOf 43 = .ok (.iload_n 2, 1) := by decide +kernel
theorem dX12_walkersOf_44 : decode cX12_walkersOf 44 = .ok (.ireturn, 1) := by decide +kernel
theorem dX12_nowOf_0 : decode cX12_nowOf 0 = .ok (.iload_n 1, 1) := by decide +kernel
theorem dX12_nowOf_1 : decode cX12_nowOf 1 = .ok (.tableswitch 56 0 3 #[31, 36, 36, 51], 31) := by decide +kernel
theorem dX12_nowOf_32 : decode cX12_nowOf 32 = .ok (.aload_n 0, 1) := by decide +kernel
theorem dX12_nowOf_33 : decode cX12_nowOf 33 = .ok (.getfield 196, 3) := by decide +kernel
theorem dX12_nowOf_36 : decode cX12_nowOf 36 = .ok (.ireturn, 1) := by decide +kernel
theorem dX12_nowOf_37 : decode cX12_nowOf 37 = .ok (.aload_n 0, 1) := by decide +kernel
theorem dX12_nowOf_38 : decode cX12_nowOf 38 = .ok (.iload_n 1, 1) := by decide +kernel
theorem dX12_nowOf_39 : decode cX12_nowOf 39 = .ok (.iconst 1, 1) := by decide +kernel
theorem dX12_nowOf_40 : decode cX12_nowOf 40 = .ok (.if_icmp .ne 7, 3) := by decide +kernel
theorem dX12_nowOf_43 : decode cX12_nowOf 43 = .ok (.iconst 1, 1) := by decide +kernel
theorem dX12_nowOf_44 : decode cX12_nowOf 44 = .ok (.goto 4, 3) := by decide +kernel
theorem dX12_nowOf_47 : decode cX12_nowOf 47 = .ok (.iconst 0, 1) := by decide +kernel
theorem dX12_nowOf_48 : decode cX12_nowOf 48 = .ok (.invokevirtual 351, 3) := by decide +kernel
theorem dX12_nowOf_51 : decode cX12_nowOf 51 = .ok (.ireturn, 1) := by decide +kernel
theorem dX12_nowOf_52 : decode cX12_nowOf 52 = .ok (.aload_n 0, 1) := by decide +kernel
theorem dX12_nowOf_53 : decode cX12_nowOf 53 = .ok (.getfield 320, 3) := by decide +kernel
theorem dX12_nowOf_56 : decode cX12_nowOf 56 = .ok (.ireturn, 1) := by decide +kernel
theorem dX12_nowOf_57 : decode cX12_nowOf 57 = .ok (.iload_n 1, 1) := by decide +kernel
theorem dX12_nowOf_58 : decode cX12_nowOf 58 = .ok (.bipush 10, 2) := by decide +kernel
theorem dX12_nowOf_60 : decode cX12_nowOf 60 = .ok (.irem, 1) := by decide +kernel
theorem dX12_nowOf_61 : decode cX12_nowOf 61 = .ok (.istore_n 2, 1) := by decide +kernel
theorem dX12_nowOf_62 : decode cX12_nowOf 62 = .ok (.iload_n 1, 1) := by decide +kernel
theorem dX12_nowOf_63 : decode cX12_nowOf 63 = .ok (.bipush 10, 2) := by decide +kernel
theorem dX12_nowOf_65 : decode cX12_nowOf 65 = .ok (.bipush 39, 2) := by decide +kernel
theorem dX12_nowOf_67 : decode cX12_nowOf 67 = .ok (.invokestatic 111, 3) := by decide +kernel
theorem dX12_nowOf_70 : decode cX12_nowOf 70 = .ok (.ifCond .eq 11, 3) := by decide +kernel
theorem dX12_nowOf_73 : decode cX12_nowOf 73 = .ok (.aload_n 0, 1) := by decide +kernel
theorem dX12_nowOf_74 : decode cX12_nowOf 74 = .ok (.iload_n 2, 1) := by decide +kernel
theorem dX12_nowOf_75 : decode cX12_nowOf 75 = .ok (.invokevirtual 187, 3) := by decide +kernel
theorem dX12_nowOf_78 : decode cX12_nowOf 78 = .ok (.ifCond .ne 6, 3) := by decide +kernel
theorem dX12_nowOf_81 : decode cX12_nowOf 81 = .ok (.bipush (-2), 2) := by decide +kernel
theorem dX12_nowOf_83 : decode cX12_nowOf 83 = .ok (.ireturn, 1) := by decide +kernel
theorem dX12_nowOf_84 : decode cX12_nowOf 84 = .ok (.iload_n 1, 1) := by decide +kernel
theorem dX12_nowOf_85 : decode cX12_nowOf 85 = .ok (.bipush 20, 2) := by decide +kernel
theorem dX12_nowOf_87 : decode cX12_nowOf 87 = .ok (.if_icmp .ge 12, 3) := by decide +kernel
theorem dX12_nowOf_90 : decode cX12_nowOf 90 = .ok (.aload_n 0, 1) := by decide +kernel
theorem dX12_nowOf_91 : decode cX12_nowOf 91 = .ok (.getfield 20, 3) := by decide +kernel
theorem dX12_nowOf_94 : decode cX12_nowOf 94 = .ok (.iload_n 2, 1) := by decide +kernel
theorem dX12_nowOf_95 : decode cX12_nowOf 95 = .ok (.iaload, 1) := by decide +kernel
theorem dX12_nowOf_96 : decode cX12_nowOf 96 = .ok (.goto 24, 3) := by decide +kernel
theorem dX12_nowOf_99 : decode cX12_nowOf 99 = .ok (.iload_n 1, 1) := by decide +kernel
theorem dX12_nowOf_100 : decode cX12_nowOf 100 = .ok (.bipush 30, 2) := by decide +kernel
theorem dX12_nowOf_102 : decode cX12_nowOf 102 = .ok (.if_icmp .ge 12, 3) := by decide +kernel
theorem dX12_nowOf_105 : decode cX12_nowOf 105 = .ok (.aload_n 0, 1) := by decide +kernel
theorem dX12_nowOf_106 : decode cX12_nowOf 106 = .ok (.getfield 26, 3) := by decide +kernel
theorem dX12_nowOf_109 : decode cX12_nowOf 109 = .ok (.iload_n 2, 1) := by decide +kernel
theorem dX12_nowOf_110 : decode cX12_nowOf 110 = .ok (.iaload, 1) := by decide +kernel
theorem dX12_nowOf_111 : decode cX12_nowOf 111 = .ok (.goto 9, 3) := by decide +kernel
theorem dX12_nowOf_114 : decode cX12_nowOf 114 = .ok (.aload_n 0, 1) := by decide +kernel
theorem dX12_nowOf_115 : decode cX12_nowOf 115 = .ok (.getfield 23, 3) := by decide +kernel
theorem dX12_nowOf_118 : decode cX12_nowOf 118 = .ok (.iload_n 2, 1) := by decide +kernel
theorem dX12_nowOf_119 : decode cX12_nowOf 119 = .ok (.iaload, 1) := by decide +kernel
theorem dX12_nowOf_120 : decode cX12_nowOf 120 = .ok (.ireturn, 1) := by decide +kernel
theorem dX12_elsewhere_0 : decode cX12_elsewhere 0 = .ok (.iconst 0, 1) := by decide +kernel
theorem dX12_elsewhere_1 : decode cX12_elsewhere 1 = .ok (.istore_n 1, 1) := by decide +kernel
theorem dX12_elsewhere_2 : decode cX12_elsewhere 2 = .ok (.iconst 0, 1) := by decide +kernel
theorem dX12_elsewhere_3 : decode cX12_elsewhere 3 = .ok (.istore_n 2, 1) := by decide +kernel
theorem dX12_elsewhere_4 : decode cX12_elsewhere 4 = .ok (.iload_n 2, 1) := by decide +kernel
theorem dX12_elsewhere_5 : decode cX12_elsewhere 5 = .ok (.aload_n 0, 1) := by decide +kernel
theorem dX12_elsewhere_6 : decode cX12_elsewhere 6 = .ok (.getfield 169, 3) := by decide +kernel
theorem dX12_elsewhere_9 : decode cX12_elsewhere 9 = .ok (.if_icmp .ge 33, 3) := by decide +kernel
theorem dX12_elsewhere_12 : decode cX12_elsewhere 12 = .ok (.iload_n 1, 1) := by decide +kernel
theorem dX12_elsewhere_13 : decode cX12_elsewhere 13 = .ok (.aload_n 0, 1) := by decide +kernel
theorem dX12_elsewhere_14 : decode cX12_elsewhere 14 = .ok (.getfield 20, 3) := by decide +kernel
theorem dX12_elsewhere_17 : decode cX12_elsewhere 17 = .ok (.iload_n 2, 1) := by decide +kernel
theorem dX12_elsewhere_18 : decode cX12_elsewhere 18 = .ok (.iaload, 1) := by decide +kernel
theorem dX12_elsewhere_19 : decode cX12_elsewhere 19 = .ok (.aload_n 0, 1) := by decide +kernel
theorem dX12_elsewhere_20 : decode cX12_elsewhere 20 = .ok (.iload_n 2, 1) := by decide +kernel
theorem dX12_elsewhere_21 : decode cX12_elsewhere 21 = .ok (.invokevirtual 193, 3) := by decide +kernel
theorem dX12_elsewhere_24 : decode cX12_elsewhere 24 = .ok (.if_icmp .ne 7, 3) := by decide +kernel
theorem dX12_elsewhere_27 : decode cX12_elsewhere 27 = .ok (.iconst 0, 1) := by decide +kernel
theorem dX12_elsewhere_28 : decode cX12_elsewhere 28 = .ok (.goto 6, 3) := by decide +kernel
theorem dX12_elsewhere_31 : decode cX12_elsewhere 31 = .ok (.iconst 1, 1) := by decide +kernel
theorem dX12_elsewhere_32 : decode cX12_elsewhere 32 = .ok (.iload_n 2, 1) := by decide +kernel
theorem dX12_elsewhere_33 : decode cX12_elsewhere 33 = .ok (.ishl, 1) := by decide +kernel
theorem dX12_elsewhere_34 : decode cX12_elsewhere 34 = .ok (.ior, 1) := by decide +kernel
theorem dX12_elsewhere_35 : decode cX12_elsewhere 35 = .ok (.istore_n 1, 1) := by decide +kernel
theorem dX12_elsewhere_36 : decode cX12_elsewhere 36 = .ok (.iinc 2 1, 3) := by decide +kernel
theorem dX12_elsewhere_39 : decode cX12_elsewhere 39 = .ok (.goto (-35), 3) := by decide +kernel
theorem dX12_elsewhere_42 : decode cX12_elsewhere 42 = .ok (.iload_n 1, 1) := by decide +kernel
theorem dX12_elsewhere_43 : decode cX12_elsewhere 43 = .ok (.ireturn, 1) := by decide +kernel
theorem dX12_stop_0 : decode cX12_stop 0 = .ok (.aload_n 0, 1) := by decide +kernel
theorem dX12_stop_1 : decode cX12_stop 1 = .ok (.iload_n 1, 1) := by decide +kernel
theorem dX12_stop_2 : decode cX12_stop 2 = .ok (.invokevirtual 184, 3) := by decide +kernel
theorem dX12_stop_5 : decode cX12_stop 5 = .ok (.ifCond .eq 11, 3) := by decide +kernel
theorem dX12_stop_8 : decode cX12_stop 8 = .ok (.aload_n 0, 1) := by decide +kernel
theorem dX12_stop_9 : decode cX12_stop 9 = .ok (.iload_n 2, 1) := by decide +kernel
theorem dX12_stop_10 : decode cX12_stop 10 = .ok (.invokevirtual 305, 3) := by decide +kernel
theorem dX12_stop_13 : decode cX12_stop 13 = .ok (.ifCond .ne 5, 3) := by decide +kernel
theorem dX12_stop_16 : decode cX12_stop 16 = .ok (.iconst (-1), 1) := by decide +kernel
theorem dX12_stop_17 : decode cX12_stop 17 = .ok (.ireturn, 1) := by decide +kernel
theorem dX12_stop_18 : decode cX12_stop 18 = .ok (.aload_n 0, 1) := by decide +kernel
theorem dX12_stop_19 : decode cX12_stop 19 = .ok (.bipush 40, 2) := by decide +kernel
theorem dX12_stop_21 : decode cX12_stop 21 = .ok (.invokevirtual 348, 3) := by decide +kernel
theorem dX12_stop_24 : decode cX12_stop 24 = .ok (.aload_n 0, 1) := by decide +kernel
theorem dX12_stop_25 : decode cX12_stop 25 = .ok (.getfield 199, 3) := by decide +kernel
theorem dX12_stop_28 : decode cX12_stop 28 = .ok (.ireturn, 1) := by decide +kernel
theorem dX12_state_0 : decode cX12_state 0 = .ok (.aload_n 0, 1) := by decide +kernel
theorem dX12_state_1 : decode cX12_state 1 = .ok (.iload_n 1, 1) := by decide +kernel
theorem dX12_state_2 : decode cX12_state 2 = .ok (.invokevirtual 184, 3) := by decide +kernel
theorem dX12_state_5 : decode cX12_state 5 = .ok (.ifCond .eq 15, 3) := by decide +kernel
theorem dX12_state_8 : decode cX12_state 8 = .ok (.aload_n 0, 1) := by decide +kernel
theorem dX12_state_9 : decode cX12_state 9 = .ok (.iload_n 2, 1) := by decide +kernel
theorem dX12_state_10 : decode cX12_state 10 = .ok (.invokevirtual 305, 3) := by decide +kernel
theorem dX12_state_13 : decode cX12_state 13 = .ok (.ifCond .eq 7, 3) := by decide +kernel
theorem dX12_state_16 : decode cX12_state 16 = .ok (.iload_n 3, 1) := by decide +kernel
theorem dX12_state_17 : decode cX12_state 17 = .ok (.ifCond .ge 6, 3) := by decide +kernel
theorem dX12_state_20 : decode cX12_state 20 = .ok (.bipush (-2), 2) := by decide +kernel
theorem dX12_state_22 : decode cX12_state 22 = .ok (.ireturn, 1) := by decide +kernel
theorem dX12_state_23 : decode cX12_state 23 = .ok (.aload_n 0, 1) := by decide +kernel
theorem dX12_state_24 : decode cX12_state 24 = .ok (.iload_n 3, 1) := by decide +kernel
theorem dX12_state_25 : decode cX12_state 25 = .ok (.invokevirtual 348, 3) := by decide +kernel
theorem dX12_state_28 : decode cX12_state 28 = .ok (.aload_n 0, 1) := by decide +kernel
theorem dX12_state_29 : decode cX12_state 29 = .ok (.getfield 199, 3) := by decide +kernel
theorem dX12_state_32 : decode cX12_state 32 = .ok (.iload_n 3, 1) := by decide +kernel
theorem dX12_state_33 : decode cX12_state 33 = .ok (.if_icmp .ne 12, 3) := by decide +kernel
theorem dX12_state_36 : decode cX12_state 36 = .ok (.aload_n 0, 1) := by decide +kernel
theorem dX12_state_37 : decode cX12_state 37 = .ok (.iload 4, 2) := by decide +kernel
theorem dX12_state_39 : decode cX12_state 39 = .ok (.invokevirtual 354, 3) := by decide +kernel
theorem dX12_state_42 : decode cX12_state 42 = .ok (.goto 5, 3) := by decide +kernel
theorem dX12_state_45 : decode cX12_state 45 = .ok (.bipush (-2), 2) := by decide +kernel
theorem dX12_state_47 : decode cX12_state 47 = .ok (.ireturn, 1) := by decide +kernel
theorem dX12_after_0 : decode cX12_after 0 = .ok (.aload_n 0, 1) := by decide +kernel
theorem dX12_after_1 : decode cX12_after 1 = .ok (.iload_n 1, 1) := by decide +kernel
theorem dX12_after_2 : decode cX12_after 2 = .ok (.invokevirtual 184, 3) := by decide +kernel
theorem dX12_after_5 : decode cX12_after 5 = .ok (.ifCond .eq 11, 3) := by decide +kernel
theorem dX12_after_8 : decode cX12_after 8 = .ok (.aload_n 0, 1) := by decide +kernel
theorem dX12_after_9 : decode cX12_after 9 = .ok (.iload_n 2, 1) := by decide +kernel
theorem dX12_after_10 : decode cX12_after 10 = .ok (.invokevirtual 305, 3) := by decide +kernel
theorem dX12_after_13 : decode cX12_after 13 = .ok (.ifCond .ne 6, 3) := by decide +kernel
theorem dX12_after_16 : decode cX12_after 16 = .ok (.bipush (-2), 2) := by decide +kernel
theorem dX12_after_18 : decode cX12_after 18 = .ok (.ireturn, 1) := by decide +kernel
theorem dX12_after_19 : decode cX12_after 19 = .ok (.aload_n 0, 1) := by decide +kernel
theorem dX12_after_20 : decode cX12_after 20 = .ok (.bipush 40, 2) := by decide +kernel
theorem dX12_after_22 : decode cX12_after 22 = .ok (.invokevirtual 348, 3) := by decide +kernel
theorem dX12_after_25 : decode cX12_after 25 = .ok (.iload_n 3, 1) := by decide +kernel
theorem dX12_after_26 : decode cX12_after 26 = .ok (.tableswitch 59 0 4 #[34, 39, 44, 49, 54], 34) := by decide +kernel
theorem dX12_after_60 : decode cX12_after 60 = .ok (.aload_n 0, 1) := by decide +kernel
theorem dX12_after_61 : decode cX12_after 61 = .ok (.getfield 314, 3) := by decide +kernel
theorem dX12_after_64 : decode cX12_after 64 = .ok (.ireturn, 1) := by decide +kernel
theorem dX12_after_65 : decode cX12_after 65 = .ok (.aload_n 0, 1) := by decide +kernel
theorem dX12_after_66 : decode cX12_after 66 = .ok (.getfield 323, 3) := by decide +kernel
theorem dX12_after_69 : decode cX12_after 69 = .ok (.ireturn, 1) := by decide +kernel
theorem dX12_after_70 : decode cX12_after 70 = .ok (.aload_n 0, 1) := by decide +kernel
theorem dX12_after_71 : decode cX12_after 71 = .ok (.getfield 311, 3) := by decide +kernel
theorem dX12_after_74 : decode cX12_after 74 = .ok (.ireturn, 1) := by decide +kernel
theorem dX12_after_75 : decode cX12_after 75 = .ok (.aload_n 0, 1) := by decide +kernel
theorem dX12_after_76 : decode cX12_after 76 = .ok (.getfield 308, 3) := by decide +kernel
theorem dX12_after_79 : decode cX12_after 79 = .ok (.ireturn, 1) := by decide +kernel
theorem dX12_after_80 : decode cX12_after 80 = .ok (.aload_n 0, 1) := by decide +kernel
theorem dX12_after_81 : decode cX12_after 81 = .ok (.invokevirtual 357, 3) := by decide +kernel
theorem dX12_after_84 : decode cX12_after 84 = .ok (.ireturn, 1) := by decide +kernel
theorem dX12_after_85 : decode cX12_after 85 = .ok (.bipush (-2), 2) := by decide +kernel
theorem dX12_after_87 : decode cX12_after 87 = .ok (.ireturn, 1) := by decide +kernel


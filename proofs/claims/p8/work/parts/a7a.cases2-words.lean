theorem m_co_X11_stop : Cond.code yX11_stop cX11_stop 5 (some .int) ∈ zT := zmem1 zsub_3 236 (by decide +kernel) (by decide +kernel)
theorem m_ml_RL_41 : Cond.methodLink RL 41 yX11_stop ∈ zT := zmem1 zsub_3 233 (by decide +kernel) (by decide +kernel)
theorem m_im_X11_stop : Cond.instanceMethod yX11_stop ∈ zT := zmem1 zsub_3 234 (by decide +kernel) (by decide +kernel)
theorem m_se_X11_stop : Cond.selects RX11 yX11_stop yX11_stop ∈ zT := zmem1 zsub_3 235 (by decide +kernel) (by decide +kernel)
theorem m_co_X12_stop : Cond.code yX12_stop cX12_stop 3 (some .int) ∈ zT := zmem1 zsub_7 208 (by decide +kernel) (by decide +kernel)
theorem m_ml_RL_44 : Cond.methodLink RL 44 yX12_stop ∈ zT := zmem1 zsub_7 205 (by decide +kernel) (by decide +kernel)
theorem m_im_X12_stop : Cond.instanceMethod yX12_stop ∈ zT := zmem1 zsub_7 206 (by decide +kernel) (by decide +kernel)
theorem m_se_X12_stop : Cond.selects RX12 yX12_stop yX12_stop ∈ zT := zmem1 zsub_7 207 (by decide +kernel) (by decide +kernel)
theorem m_co_X11_state : Cond.code yX11_state cX11_state 7 (some .int) ∈ zT := zmem1 zsub_4 82 (by decide +kernel) (by decide +kernel)
theorem m_ml_RL_45 : Cond.methodLink RL 45 yX11_state ∈ zT := zmem1 zsub_4 79 (by decide +kernel) (by decide +kernel)
theorem m_im_X11_state : Cond.instanceMethod yX11_state ∈ zT := zmem1 zsub_4 80 (by decide +kernel) (by decide +kernel)
theorem m_se_X11_state : Cond.selects RX11 yX11_state yX11_state ∈ zT := zmem1 zsub_4 81 (by decide +kernel) (by decide +kernel)
theorem m_co_X12_state : Cond.code yX12_state cX12_state 5 (some .int) ∈ zT := zmem1 zsub_8 8 (by decide +kernel) (by decide +kernel)
theorem m_ml_RL_49 : Cond.methodLink RL 49 yX12_state ∈ zT := zmem1 zsub_8 5 (by decide +kernel) (by decide +kernel)
theorem m_im_X12_state : Cond.instanceMethod yX12_state ∈ zT := zmem1 zsub_8 6 (by decide +kernel) (by decide +kernel)
theorem m_se_X12_state : Cond.selects RX12 yX12_state yX12_state ∈ zT := zmem1 zsub_8 7 (by decide +kernel) (by decide +kernel)
theorem m_co_X11_walk : Cond.code yX11_walk cX11_walk 5 (some .int) ∈ zT := zmem1 zsub_4 121 (by decide +kernel) (by decide +kernel)
theorem m_ml_RL_50 : Cond.methodLink RL 50 yX11_walk ∈ zT := zmem1 zsub_4 118 (by decide +kernel) (by decide +kernel)
theorem m_im_X11_walk : Cond.instanceMethod yX11_walk ∈ zT := zmem1 zsub_4 119 (by decide +kernel) (by decide +kernel)
theorem m_se_X11_walk : Cond.selects RX11 yX11_walk yX11_walk ∈ zT := zmem1 zsub_4 120 (by decide +kernel) (by decide +kernel)
theorem m_co_X12_walk : Cond.code yX12_walk cX12_walk 5 (some .int) ∈ zT := zmem1 zsub_7 15 (by decide +kernel) (by decide +kernel)
theorem m_ml_RL_53 : Cond.methodLink RL 53 yX12_walk ∈ zT := zmem1 zsub_7 12 (by decide +kernel) (by decide +kernel)
theorem m_im_X12_walk : Cond.instanceMethod yX12_walk ∈ zT := zmem1 zsub_7 13 (by decide +kernel) (by decide +kernel)
theorem m_se_X12_walk : Cond.selects RX12 yX12_walk yX12_walk ∈ zT := zmem1 zsub_7 14 (by decide +kernel) (by decide +kernel)
theorem m_co_X11_endOf : Cond.code yX11_endOf cX11_endOf 4 (some .int) ∈ zT := zmem1 zsub_4 169 (by decide +kernel) (by decide +kernel)
theorem m_ml_RL_54 : Cond.methodLink RL 54 yX11_endOf ∈ zT := zmem1 zsub_4 166 (by decide +kernel) (by decide +kernel)
theorem m_im_X11_endOf : Cond.instanceMethod yX11_endOf ∈ zT := zmem1 zsub_4 167 (by decide +kernel) (by decide +kernel)
theorem m_se_X11_endOf : Cond.selects RX11 yX11_endOf yX11_endOf ∈ zT := zmem1 zsub_4 168 (by decide +kernel) (by decide +kernel)
theorem m_co_X12_endOf : Cond.code yX12_endOf cX12_endOf 5 (some .int) ∈ zT := zmem1 zsub_7 39 (by decide +kernel) (by decide +kernel)
theorem m_ml_RL_57 : Cond.methodLink RL 57 yX12_endOf ∈ zT := zmem1 zsub_7 36 (by decide +kernel) (by decide +kernel)
theorem m_im_X12_endOf : Cond.instanceMethod yX12_endOf ∈ zT := zmem1 zsub_7 37 (by decide +kernel) (by decide +kernel)
theorem m_se_X12_endOf : Cond.selects RX12 yX12_endOf yX12_endOf ∈ zT := zmem1 zsub_7 38 (by decide +kernel) (by decide +kernel)
theorem m_co_X11_come : Cond.code yX11_come cX11_come 6 (some .int) ∈ zT := zmem1 zsub_4 177 (by decide +kernel) (by decide +kernel)
theorem m_ml_RL_58 : Cond.methodLink RL 58 yX11_come ∈ zT := zmem1 zsub_4 174 (by decide +kernel) (by decide +kernel)
theorem m_im_X11_come : Cond.instanceMethod yX11_come ∈ zT := zmem1 zsub_4 175 (by decide +kernel) (by decide +kernel)
theorem m_se_X11_come : Cond.selects RX11 yX11_come yX11_come ∈ zT := zmem1 zsub_4 176 (by decide +kernel) (by decide +kernel)
theorem m_co_X12_come : Cond.code yX12_come cX12_come 5 (some .int) ∈ zT := zmem1 zsub_7 43 (by decide +kernel) (by decide +kernel)
theorem m_ml_RL_61 : Cond.methodLink RL 61 yX12_come ∈ zT := zmem1 zsub_7 40 (by decide +kernel) (by decide +kernel)
theorem m_im_X12_come : Cond.instanceMethod yX12_come ∈ zT := zmem1 zsub_7 41 (by decide +kernel) (by decide +kernel)
theorem m_se_X12_come : Cond.selects RX12 yX12_come yX12_come ∈ zT := zmem1 zsub_7 42 (by decide +kernel) (by decide +kernel)
theorem m_co_X11_period : Cond.code yX11_period cX11_period 8 (some .int) ∈ zT := zmem1 zsub_4 187 (by decide +kernel) (by decide +kernel)
theorem m_ml_RL_62 : Cond.methodLink RL 62 yX11_period ∈ zT := zmem1 zsub_4 184 (by decide +kernel) (by decide +kernel)
theorem m_im_X11_period : Cond.instanceMethod yX11_period ∈ zT := zmem1 zsub_4 185 (by decide +kernel) (by decide +kernel)
theorem m_se_X11_period : Cond.selects RX11 yX11_period yX11_period ∈ zT := zmem1 zsub_4 186 (by decide +kernel) (by decide +kernel)
theorem m_co_X12_period : Cond.code yX12_period cX12_period 6 (some .int) ∈ zT := zmem1 zsub_7 51 (by decide +kernel) (by decide +kernel)
theorem m_ml_RL_66 : Cond.methodLink RL 66 yX12_period ∈ zT := zmem1 zsub_7 48 (by decide +kernel) (by decide +kernel)
theorem m_im_X12_period : Cond.instanceMethod yX12_period ∈ zT := zmem1 zsub_7 49 (by decide +kernel) (by decide +kernel)
theorem m_se_X12_period : Cond.selects RX12 yX12_period yX12_period ∈ zT := zmem1 zsub_7 50 (by decide +kernel) (by decide +kernel)
theorem kV_RL_41 {R : Room} {s : State} {args : Array Value} {d mc ms : Nat} (hts : ∀ w ∈ zT, w.before args s = true) (h1 : d + 1 ≤ R.frames) (h2 : 8 + (5 + 11) + 40 * d ≤ R.locals) : CallW R s args RL RX11 41 yX11_stop cX11_stop 5 (some .int) (zW yX11_stop cX11_stop 5 (some .int)) (zR d mc ms) mc ms 2 := z_cwV hts m_co_X11_stop m_ml_RL_41 m_im_X11_stop m_se_X11_stop m_ii_RX11 (by decide +kernel) h1 h2
theorem kV_RL_44 {R : Room} {s : State} {args : Array Value} {d mc ms : Nat} (hts : ∀ w ∈ zT, w.before args s = true) (h1 : d + 1 ≤ R.frames) (h2 : 8 + (3 + 11) + 40 * d ≤ R.locals) : CallW R s args RL RX12 44 yX12_stop cX12_stop 3 (some .int) (zW yX12_stop cX12_stop 3 (some .int)) (zR d mc ms) mc ms 2 := z_cwV hts m_co_X12_stop m_ml_RL_44 m_im_X12_stop m_se_X12_stop m_ii_RX12 (by decide +kernel) h1 h2
theorem kV_RL_45 {R : Room} {s : State} {args : Array Value} {d mc ms : Nat} (hts : ∀ w ∈ zT, w.before args s = true) (h1 : d + 1 ≤ R.frames) (h2 : 8 + (7 + 11) + 40 * d ≤ R.locals) : CallW R s args RL RX11 45 yX11_state cX11_state 7 (some .int) (zW yX11_state cX11_state 7 (some .int)) (zR d mc ms) mc ms 4 := z_cwV hts m_co_X11_state m_ml_RL_45 m_im_X11_state m_se_X11_state m_ii_RX11 (by decide +kernel) h1 h2
theorem kV_RL_49 {R : Room} {s : State} {args : Array Value} {d mc ms : Nat} (hts : ∀ w ∈ zT, w.before args s = true) (h1 : d + 1 ≤ R.frames) (h2 : 8 + (5 + 11) + 40 * d ≤ R.locals) : CallW R s args RL RX12 49 yX12_state cX12_state 5 (some .int) (zW yX12_state cX12_state 5 (some .int)) (zR d mc ms) mc ms 4 := z_cwV hts m_co_X12_state m_ml_RL_49 m_im_X12_state m_se_X12_state m_ii_RX12 (by decide +kernel) h1 h2
theorem kV_RL_50 {R : Room} {s : State} {args : Array Value} {d mc ms : Nat} (hts : ∀ w ∈ zT, w.before args s = true) (h1 : d + 1 ≤ R.frames) (h2 : 8 + (5 + 11) + 40 * d ≤ R.locals) : CallW R s args RL RX11 50 yX11_walk cX11_walk 5 (some .int) (zW yX11_walk cX11_walk 5 (some .int)) (zR d mc ms) mc ms 3 := z_cwV hts m_co_X11_walk m_ml_RL_50 m_im_X11_walk m_se_X11_walk m_ii_RX11 (by decide +kernel) h1 h2
theorem kV_RL_53 {R : Room} {s : State} {args : Array Value} {d mc ms : Nat} (hts : ∀ w ∈ zT, w.before args s = true) (h1 : d + 1 ≤ R.frames) (h2 : 8 + (5 + 11) + 40 * d ≤ R.locals) : CallW R s args RL RX12 53 yX12_walk cX12_walk 5 (some .int) (zW yX12_walk cX12_walk 5 (some .int)) (zR d mc ms) mc ms 3 := z_cwV hts m_co_X12_walk m_ml_RL_53 m_im_X12_walk m_se_X12_walk m_ii_RX12 (by decide +kernel) h1 h2
theorem kV_RL_54 {R : Room} {s : State} {args : Array Value} {d mc ms : Nat} (hts : ∀ w ∈ zT, w.before args s = true) (h1 : d + 1 ≤ R.frames) (h2 : 8 + (4 + 11) + 40 * d ≤ R.locals) : CallW R s args RL RX11 54 yX11_endOf cX11_endOf 4 (some .int) (zW yX11_endOf cX11_endOf 4 (some .int)) (zR d mc ms) mc ms 2 := z_cwV hts m_co_X11_endOf m_ml_RL_54 m_im_X11_endOf m_se_X11_endOf m_ii_RX11 (by decide +kernel) h1 h2
theorem kV_RL_57 {R : Room} {s : State} {args : Array Value} {d mc ms : Nat} (hts : ∀ w ∈ zT, w.before args s = true) (h1 : d + 1 ≤ R.frames) (h2 : 8 + (5 + 11) + 40 * d ≤ R.locals) : CallW R s args RL RX12 57 yX12_endOf cX12_endOf 5 (some .int) (zW yX12_endOf cX12_endOf 5 (some .int)) (zR d mc ms) mc ms 2 := z_cwV hts m_co_X12_endOf m_ml_RL_57 m_im_X12_endOf m_se_X12_endOf m_ii_RX12 (by decide +kernel) h1 h2
theorem kV_RL_58 {R : Room} {s : State} {args : Array Value} {d mc ms : Nat} (hts : ∀ w ∈ zT, w.before args s = true) (h1 : d + 1 ≤ R.frames) (h2 : 8 + (6 + 11) + 40 * d ≤ R.locals) : CallW R s args RL RX11 58 yX11_come cX11_come 6 (some .int) (zW yX11_come cX11_come 6 (some .int)) (zR d mc ms) mc ms 3 := z_cwV hts m_co_X11_come m_ml_RL_58 m_im_X11_come m_se_X11_come m_ii_RX11 (by decide +kernel) h1 h2
theorem kV_RL_61 {R : Room} {s : State} {args : Array Value} {d mc ms : Nat} (hts : ∀ w ∈ zT, w.before args s = true) (h1 : d + 1 ≤ R.frames) (h2 : 8 + (5 + 11) + 40 * d ≤ R.locals) : CallW R s args RL RX12 61 yX12_come cX12_come 5 (some .int) (zW yX12_come cX12_come 5 (some .int)) (zR d mc ms) mc ms 3 := z_cwV hts m_co_X12_come m_ml_RL_61 m_im_X12_come m_se_X12_come m_ii_RX12 (by decide +kernel) h1 h2
theorem kV_RL_62 {R : Room} {s : State} {args : Array Value} {d mc ms : Nat} (hts : ∀ w ∈ zT, w.before args s = true) (h1 : d + 1 ≤ R.frames) (h2 : 8 + (8 + 11) + 40 * d ≤ R.locals) : CallW R s args RL RX11 62 yX11_period cX11_period 8 (some .int) (zW yX11_period cX11_period 8 (some .int)) (zR d mc ms) mc ms 3 := z_cwV hts m_co_X11_period m_ml_RL_62 m_im_X11_period m_se_X11_period m_ii_RX11 (by decide +kernel) h1 h2
theorem kV_RL_66 {R : Room} {s : State} {args : Array Value} {d mc ms : Nat} (hts : ∀ w ∈ zT, w.before args s = true) (h1 : d + 1 ≤ R.frames) (h2 : 8 + (6 + 11) + 40 * d ≤ R.locals) : CallW R s args RL RX12 66 yX12_period cX12_period 6 (some .int) (zW yX12_period cX12_period 6 (some .int)) (zR d mc ms) mc ms 3 := z_cwV hts m_co_X12_period m_ml_RL_66 m_im_X12_period m_se_X12_period m_ii_RX12 (by decide +kernel) h1 h2
theorem dL_law_406 : decode cL_law 406 = .ok (.aload_n 1, 1) := by decide +kernel
theorem dL_law_407 : decode cL_law 407 = .ok (.aload_n 0, 1) := by decide +kernel
theorem dL_law_408 : decode cL_law 408 = .ok (.iload_n 3, 1) := by decide +kernel
theorem dL_law_409 : decode cL_law 409 = .ok (.iconst 1, 1) := by decide +kernel
theorem dL_law_410 : decode cL_law 410 = .ok (.iadd, 1) := by decide +kernel
theorem dL_law_411 : decode cL_law 411 = .ok (.iaload, 1) := by decide +kernel
theorem dL_law_412 : decode cL_law 412 = .ok (.aload_n 0, 1) := by decide +kernel
theorem dL_law_413 : decode cL_law 413 = .ok (.iload_n 3, 1) := by decide +kernel
theorem dL_law_414 : decode cL_law 414 = .ok (.iconst 2, 1) := by decide +kernel
theorem dL_law_415 : decode cL_law 415 = .ok (.iadd, 1) := by decide +kernel
theorem dL_law_416 : decode cL_law 416 = .ok (.iaload, 1) := by decide +kernel
theorem dL_law_417 : decode cL_law 417 = .ok (.invokevirtual 41, 3) := by decide +kernel
theorem dL_law_420 : decode cL_law 420 = .ok (.aload_n 2, 1) := by decide +kernel
theorem dL_law_421 : decode cL_law 421 = .ok (.aload_n 0, 1) := by decide +kernel
theorem dL_law_422 : decode cL_law 422 = .ok (.iload_n 3, 1) := by decide +kernel
theorem dL_law_423 : decode cL_law 423 = .ok (.iconst 1, 1) := by decide +kernel
theorem dL_law_424 : decode cL_law 424 = .ok (.iadd, 1) := by decide +kernel
theorem dL_law_425 : decode cL_law 425 = .ok (.iaload, 1) := by decide +kernel
theorem dL_law_426 : decode cL_law 426 = .ok (.aload_n 0, 1) := by decide +kernel
theorem dL_law_427 : decode cL_law 427 = .ok (.iload_n 3, 1) := by decide +kernel
theorem dL_law_428 : decode cL_law 428 = .ok (.iconst 2, 1) := by decide +kernel
theorem dL_law_429 : decode cL_law 429 = .ok (.iadd, 1) := by decide +kernel
theorem dL_law_430 : decode cL_law 430 = .ok (.iaload, 1) := by decide +kernel
theorem dL_law_431 : decode cL_law 431 = .ok (.invokevirtual 44, 3) := by decide +kernel
theorem dL_law_434 : decode cL_law 434 = .ok (.if_icmp .eq 1333, 3) := by decide +kernel
theorem dL_law_439 : decode cL_law 439 = .ok (.aload_n 1, 1) := by decide +kernel
theorem dL_law_440 : decode cL_law 440 = .ok (.aload_n 0, 1) := by decide +kernel
theorem dL_law_441 : decode cL_law 441 = .ok (.iload_n 3, 1) := by decide +kernel
theorem dL_law_442 : decode cL_law 442 = .ok (.iconst 1, 1) := by decide +kernel
theorem dL_law_443 : decode cL_law 443 = .ok (.iadd, 1) := by decide +kernel
theorem dL_law_444 : decode cL_law 444 = .ok (.iaload, 1) := by decide +kernel
theorem dL_law_445 : decode cL_law 445 = .ok (.aload_n 0, 1) := by decide +kernel
theorem dL_law_446 : decode cL_law 446 = .ok (.iload_n 3, 1) := by decide +kernel
theorem dL_law_447 : decode cL_law 447 = .ok (.iconst 2, 1) := by decide +kernel
theorem dL_law_448 : decode cL_law 448 = .ok (.iadd, 1) := by decide +kernel
theorem dL_law_449 : decode cL_law 449 = .ok (.iaload, 1) := by decide +kernel
theorem dL_law_450 : decode cL_law 450 = .ok (.aload_n 0, 1) := by decide +kernel
theorem dL_law_451 : decode cL_law 451 = .ok (.iload_n 3, 1) := by decide +kernel
theorem dL_law_452 : decode cL_law 452 = .ok (.iconst 3, 1) := by decide +kernel
theorem dL_law_453 : decode cL_law 453 = .ok (.iadd, 1) := by decide +kernel
theorem dL_law_454 : decode cL_law 454 = .ok (.iaload, 1) := by decide +kernel
theorem dL_law_455 : decode cL_law 455 = .ok (.aload_n 0, 1) := by decide +kernel
theorem dL_law_456 : decode cL_law 456 = .ok (.iload_n 3, 1) := by decide +kernel
theorem dL_law_457 : decode cL_law 457 = .ok (.iconst 4, 1) := by decide +kernel
theorem dL_law_458 : decode cL_law 458 = .ok (.iadd, 1) := by decide +kernel
theorem dL_law_459 : decode cL_law 459 = .ok (.iaload, 1) := by decide +kernel
theorem dL_law_460 : decode cL_law 460 = .ok (.invokevirtual 45, 3) := by decide +kernel
theorem dL_law_463 : decode cL_law 463 = .ok (.pop, 1) := by decide +kernel
theorem dL_law_464 : decode cL_law 464 = .ok (.aload_n 2, 1) := by decide +kernel
theorem dL_law_465 : decode cL_law 465 = .ok (.aload_n 0, 1) := by decide +kernel
theorem dL_law_466 : decode cL_law 466 = .ok (.iload_n 3, 1) := by decide +kernel
theorem dL_law_467 : decode cL_law 467 = .ok (.iconst 1, 1) := by decide +kernel
theorem dL_law_468 : decode cL_law 468 = .ok (.iadd, 1) := by decide +kernel
theorem dL_law_469 : decode cL_law 469 = .ok (.iaload, 1) := by decide +kernel
theorem dL_law_470 : decode cL_law 470 = .ok (.aload_n 0, 1) := by decide +kernel
theorem dL_law_471 : decode cL_law 471 = .ok (.iload_n 3, 1) := by decide +kernel
theorem dL_law_472 : decode cL_law 472 = .ok (.iconst 2, 1) := by decide +kernel
theorem dL_law_473 : decode cL_law 473 = .ok (.iadd, 1) := by decide +kernel
theorem dL_law_474 : decode cL_law 474 = .ok (.iaload, 1) := by decide +kernel
theorem dL_law_475 : decode cL_law 475 = .ok (.aload_n 0, 1) := by decide +kernel
theorem dL_law_476 : decode cL_law 476 = .ok (.iload_n 3, 1) := by decide +kernel
theorem dL_law_477 : decode cL_law 477 = .ok (.iconst 3, 1) := by decide +kernel
theorem dL_law_478 : decode cL_law 478 = .ok (.iadd, 1) := by decide +kernel
theorem dL_law_479 : decode cL_law 479 = .ok (.iaload, 1) := by decide +kernel
theorem dL_law_480 : decode cL_law 480 = .ok (.aload_n 0, 1) := by decide +kernel
theorem dL_law_481 : decode cL_law 481 = .ok (.iload_n 3, 1) := by decide +kernel
theorem dL_law_482 : decode cL_law 482 = .ok (.iconst 4, 1) := by decide +kernel
theorem dL_law_483 : decode cL_law 483 = .ok (.iadd, 1) := by decide +kernel
theorem dL_law_484 : decode cL_law 484 = .ok (.iaload, 1) := by decide +kernel
theorem dL_law_485 : decode cL_law 485 = .ok (.invokevirtual 49, 3) := by decide +kernel
theorem dL_law_488 : decode cL_law 488 = .ok (.pop, 1) := by decide +kernel
theorem dL_law_489 : decode cL_law 489 = .ok (.goto 1278, 3) := by decide +kernel
theorem dL_law_492 : decode cL_law 492 = .ok (.aload_n 1, 1) := by decide +kernel
theorem dL_law_493 : decode cL_law 493 = .ok (.aload_n 0, 1) := by decide +kernel
theorem dL_law_494 : decode cL_law 494 = .ok (.iload_n 3, 1) := by decide +kernel
theorem dL_law_495 : decode cL_law 495 = .ok (.iconst 1, 1) := by decide +kernel
theorem dL_law_496 : decode cL_law 496 = .ok (.iadd, 1) := by decide +kernel
theorem dL_law_497 : decode cL_law 497 = .ok (.iaload, 1) := by decide +kernel
theorem dL_law_498 : decode cL_law 498 = .ok (.aload_n 0, 1) := by decide +kernel
theorem dL_law_499 : decode cL_law 499 = .ok (.iload_n 3, 1) := by decide +kernel
theorem dL_law_500 : decode cL_law 500 = .ok (.iconst 2, 1) := by decide +kernel
theorem dL_law_501 : decode cL_law 501 = .ok (.iadd, 1) := by decide +kernel
theorem dL_law_502 : decode cL_law 502 = .ok (.iaload, 1) := by decide +kernel
theorem dL_law_503 : decode cL_law 503 = .ok (.aload_n 0, 1) := by decide +kernel
theorem dL_law_504 : decode cL_law 504 = .ok (.iload_n 3, 1) := by decide +kernel
theorem dL_law_505 : decode cL_law 505 = .ok (.iconst 3, 1) := by decide +kernel
theorem dL_law_506 : decode cL_law 506 = .ok (.iadd, 1) := by decide +kernel
theorem dL_law_507 : decode cL_law 507 = .ok (.iaload, 1) := by decide +kernel
theorem dL_law_508 : decode cL_law 508 = .ok (.invokevirtual 50, 3) := by decide +kernel
theorem dL_law_511 : decode cL_law 511 = .ok (.pop, 1) := by decide +kernel
theorem dL_law_512 : decode cL_law 512 = .ok (.aload_n 2, 1) := by decide +kernel
theorem dL_law_513 : decode cL_law 513 = .ok (.aload_n 0, 1) := by decide +kernel
theorem dL_law_514 : decode cL_law 514 = .ok (.iload_n 3, 1) := by decide +kernel
theorem dL_law_515 : decode cL_law 515 = .ok (.iconst 1, 1) := by decide +kernel
theorem dL_law_516 : decode cL_law 516 = .ok (.iadd, 1) := by decide +kernel
theorem dL_law_517 : decode cL_law 517 = .ok (.iaload, 1) := by decide +kernel
theorem dL_law_518 : decode cL_law 518 = .ok (.aload_n 0, 1) := by decide +kernel
theorem dL_law_519 : decode cL_law 519 = .ok (.iload_n 3, 1) := by decide +kernel
theorem dL_law_520 : decode cL_law 520 = .ok (.iconst 2, 1) := by decide +kernel
theorem dL_law_521 : decode cL_law 521 = .ok (.iadd, 1) := by decide +kernel
theorem dL_law_522 : decode cL_law 522 = .ok (.iaload, 1) := by decide +kernel
theorem dL_law_523 : decode cL_law 523 = .ok (.aload_n 0, 1) := by decide +kernel
theorem dL_law_524 : decode cL_law 524 = .ok (.iload_n 3, 1) := by decide +kernel
theorem dL_law_525 : decode cL_law 525 = .ok (.iconst 3, 1) := by decide +kernel
theorem dL_law_526 : decode cL_law 526 = .ok (.iadd, 1) := by decide +kernel
theorem dL_law_527 : decode cL_law 527 = .ok (.iaload, 1) := by decide +kernel
theorem dL_law_528 : decode cL_law 528 = .ok (.invokevirtual 53, 3) := by decide +kernel
theorem dL_law_531 : decode cL_law 531 = .ok (.pop, 1) := by decide +kernel
theorem dL_law_532 : decode cL_law 532 = .ok (.goto 1235, 3) := by decide +kernel
theorem dL_law_535 : decode cL_law 535 = .ok (.aload_n 1, 1) := by decide +kernel
theorem dL_law_536 : decode cL_law 536 = .ok (.aload_n 0, 1) := by decide +kernel
theorem dL_law_537 : decode cL_law 537 = .ok (.iload_n 3, 1) := by decide +kernel
theorem dL_law_538 : decode cL_law 538 = .ok (.iconst 1, 1) := by decide +kernel
theorem dL_law_539 : decode cL_law 539 = .ok (.iadd, 1) := by decide +kernel
theorem dL_law_540 : decode cL_law 540 = .ok (.iaload, 1) := by decide +kernel
theorem dL_law_541 : decode cL_law 541 = .ok (.aload_n 0, 1) := by decide +kernel
theorem dL_law_542 : decode cL_law 542 = .ok (.iload_n 3, 1) := by decide +kernel
theorem dL_law_543 : decode cL_law 543 = .ok (.iconst 2, 1) := by decide +kernel
theorem dL_law_544 : decode cL_law 544 = .ok (.iadd, 1) := by decide +kernel
theorem dL_law_545 : decode cL_law 545 = .ok (.iaload, 1) := by decide +kernel
theorem dL_law_546 : decode cL_law 546 = .ok (.invokevirtual 54, 3) := by decide +kernel
theorem dL_law_549 : decode cL_law 549 = .ok (.pop, 1) := by decide +kernel
theorem dL_law_550 : decode cL_law 550 = .ok (.aload_n 2, 1) := by decide +kernel
theorem dL_law_551 : decode cL_law 551 = .ok (.aload_n 0, 1) := by decide +kernel
theorem dL_law_552 : decode cL_law 552 = .ok (.iload_n 3, 1) := by decide +kernel
theorem dL_law_553 : decode cL_law 553 = .ok (.iconst 1, 1) := by decide +kernel
theorem dL_law_554 : decode cL_law 554 = .ok (.iadd, 1) := by decide +kernel
theorem dL_law_555 : decode cL_law 555 = .ok (.iaload, 1) := by decide +kernel
theorem dL_law_556 : decode cL_law 556 = .ok (.aload_n 0, 1) := by decide +kernel
theorem dL_law_557 : decode cL_law 557 = .ok (.iload_n 3, 1) := by decide +kernel
theorem dL_law_558 : decode cL_law 558 = .ok (.iconst 2, 1) := by decide +kernel
theorem dL_law_559 : decode cL_law 559 = .ok (.iadd, 1) := by decide +kernel
theorem dL_law_560 : decode cL_law 560 = .ok (.iaload, 1) := by decide +kernel
theorem dL_law_561 : decode cL_law 561 = .ok (.invokevirtual 57, 3) := by decide +kernel
theorem dL_law_564 : decode cL_law 564 = .ok (.pop, 1) := by decide +kernel
theorem dL_law_565 : decode cL_law 565 = .ok (.goto 1202, 3) := by decide +kernel
theorem dL_law_568 : decode cL_law 568 = .ok (.aload_n 1, 1) := by decide +kernel
theorem dL_law_569 : decode cL_law 569 = .ok (.aload_n 0, 1) := by decide +kernel
theorem dL_law_570 : decode cL_law 570 = .ok (.iload_n 3, 1) := by decide +kernel
theorem dL_law_571 : decode cL_law 571 = .ok (.iconst 1, 1) := by decide +kernel
theorem dL_law_572 : decode cL_law 572 = .ok (.iadd, 1) := by decide +kernel
theorem dL_law_573 : decode cL_law 573 = .ok (.iaload, 1) := by decide +kernel
theorem dL_law_574 : decode cL_law 574 = .ok (.aload_n 0, 1) := by decide +kernel
theorem dL_law_575 : decode cL_law 575 = .ok (.iload_n 3, 1) := by decide +kernel
theorem dL_law_576 : decode cL_law 576 = .ok (.iconst 2, 1) := by decide +kernel
theorem dL_law_577 : decode cL_law 577 = .ok (.iadd, 1) := by decide +kernel
theorem dL_law_578 : decode cL_law 578 = .ok (.iaload, 1) := by decide +kernel
theorem dL_law_579 : decode cL_law 579 = .ok (.aload_n 0, 1) := by decide +kernel
theorem dL_law_580 : decode cL_law 580 = .ok (.iload_n 3, 1) := by decide +kernel
theorem dL_law_581 : decode cL_law 581 = .ok (.iconst 3, 1) := by decide +kernel
theorem dL_law_582 : decode cL_law 582 = .ok (.iadd, 1) := by decide +kernel
theorem dL_law_583 : decode cL_law 583 = .ok (.iaload, 1) := by decide +kernel
theorem dL_law_584 : decode cL_law 584 = .ok (.invokevirtual 58, 3) := by decide +kernel
theorem dL_law_587 : decode cL_law 587 = .ok (.pop, 1) := by decide +kernel
theorem dL_law_588 : decode cL_law 588 = .ok (.aload_n 2, 1) := by decide +kernel
theorem dL_law_589 : decode cL_law 589 = .ok (.aload_n 0, 1) := by decide +kernel
theorem dL_law_590 : decode cL_law 590 = .ok (.iload_n 3, 1) := by decide +kernel
theorem dL_law_591 : decode cL_law 591 = .ok (.iconst 1, 1) := by decide +kernel
theorem dL_law_592 : decode cL_law 592 = .ok (.iadd, 1) := by decide +kernel
theorem dL_law_593 : decode cL_law 593 = .ok (.iaload, 1) := by decide +kernel
theorem dL_law_594 : decode cL_law 594 = .ok (.aload_n 0, 1) := by decide +kernel
theorem dL_law_595 : decode cL_law 595 = .ok (.iload_n 3, 1) := by decide +kernel
theorem dL_law_596 : decode cL_law 596 = .ok (.iconst 2, 1) := by decide +kernel
theorem dL_law_597 : decode cL_law 597 = .ok (.iadd, 1) := by decide +kernel
theorem dL_law_598 : decode cL_law 598 = .ok (.iaload, 1) := by decide +kernel
theorem dL_law_599 : decode cL_law 599 = .ok (.aload_n 0, 1) := by decide +kernel
theorem dL_law_600 : decode cL_law 600 = .ok (.iload_n 3, 1) := by decide +kernel
theorem dL_law_601 : decode cL_law 601 = .ok (.iconst 3, 1) := by decide +kernel
theorem dL_law_602 : decode cL_law 602 = .ok (.iadd, 1) := by decide +kernel
theorem dL_law_603 : decode cL_law 603 = .ok (.iaload, 1) := by decide +kernel
theorem dL_law_604 : decode cL_law 604 = .ok (.invokevirtual 61, 3) := by decide +kernel
theorem dL_law_607 : decode cL_law 607 = .ok (.pop, 1) := by decide +kernel
theorem dL_law_608 : decode cL_law 608 = .ok (.goto 1159, 3) := by decide +kernel
theorem dL_law_611 : decode cL_law 611 = .ok (.aload_n 1, 1) := by decide +kernel
theorem dL_law_612 : decode cL_law 612 = .ok (.aload_n 0, 1) := by decide +kernel
theorem dL_law_613 : decode cL_law 613 = .ok (.iload_n 3, 1) := by decide +kernel
theorem dL_law_614 : decode cL_law 614 = .ok (.iconst 1, 1) := by decide +kernel
theorem dL_law_615 : decode cL_law 615 = .ok (.iadd, 1) := by decide +kernel
theorem dL_law_616 : decode cL_law 616 = .ok (.iaload, 1) := by decide +kernel
theorem dL_law_617 : decode cL_law 617 = .ok (.aload_n 0, 1) := by decide +kernel
theorem dL_law_618 : decode cL_law 618 = .ok (.iload_n 3, 1) := by decide +kernel
theorem dL_law_619 : decode cL_law 619 = .ok (.iconst 2, 1) := by decide +kernel
theorem dL_law_620 : decode cL_law 620 = .ok (.iadd, 1) := by decide +kernel
theorem dL_law_621 : decode cL_law 621 = .ok (.iaload, 1) := by decide +kernel
theorem dL_law_622 : decode cL_law 622 = .ok (.aload_n 0, 1) := by decide +kernel
theorem dL_law_623 : decode cL_law 623 = .ok (.iload_n 3, 1) := by decide +kernel
theorem dL_law_624 : decode cL_law 624 = .ok (.iconst 3, 1) := by decide +kernel
theorem dL_law_625 : decode cL_law 625 = .ok (.iadd, 1) := by decide +kernel
theorem dL_law_626 : decode cL_law 626 = .ok (.iaload, 1) := by decide +kernel
theorem dL_law_627 : decode cL_law 627 = .ok (.ifCond .eq 7, 3) := by decide +kernel
theorem dL_law_630 : decode cL_law 630 = .ok (.iconst 1, 1) := by decide +kernel
theorem dL_law_631 : decode cL_law 631 = .ok (.goto 4, 3) := by decide +kernel
theorem dL_law_634 : decode cL_law 634 = .ok (.iconst 0, 1) := by decide +kernel
theorem dL_law_635 : decode cL_law 635 = .ok (.invokevirtual 62, 3) := by decide +kernel
theorem dL_law_638 : decode cL_law 638 = .ok (.pop, 1) := by decide +kernel
theorem dL_law_639 : decode cL_law 639 = .ok (.aload_n 2, 1) := by decide +kernel
theorem dL_law_640 : decode cL_law 640 = .ok (.aload_n 0, 1) := by decide +kernel
theorem dL_law_641 : decode cL_law 641 = .ok (.iload_n 3, 1) := by decide +kernel
theorem dL_law_642 : decode cL_law 642 = .ok (.iconst 1, 1) := by decide +kernel
theorem dL_law_643 : decode cL_law 643 = .ok (.iadd, 1) := by decide +kernel
theorem dL_law_644 : decode cL_law 644 = .ok (.iaload, 1) := by decide +kernel
theorem dL_law_645 : decode cL_law 645 = .ok (.aload_n 0, 1) := by decide +kernel
theorem dL_law_646 : decode cL_law 646 = .ok (.iload_n 3, 1) := by decide +kernel
theorem dL_law_647 : decode cL_law 647 = .ok (.iconst 2, 1) := by decide +kernel
theorem dL_law_648 : decode cL_law 648 = .ok (.iadd, 1) := by decide +kernel
theorem dL_law_649 : decode cL_law 649 = .ok (.iaload, 1) := by decide +kernel
theorem dL_law_650 : decode cL_law 650 = .ok (.aload_n 0, 1) := by decide +kernel
theorem dL_law_651 : decode cL_law 651 = .ok (.iload_n 3, 1) := by decide +kernel
theorem dL_law_652 : decode cL_law 652 = .ok (.iconst 3, 1) := by decide +kernel
theorem dL_law_653 : decode cL_law 653 = .ok (.iadd, 1) := by decide +kernel
theorem dL_law_654 : decode cL_law 654 = .ok (.iaload, 1) := by decide +kernel
theorem dL_law_655 : decode cL_law 655 = .ok (.ifCond .eq 7, 3) := by decide +kernel
theorem dL_law_658 : decode cL_law 658 = .ok (.iconst 1, 1) := by decide +kernel
theorem dL_law_659 : decode cL_law 659 = .ok (.goto 4, 3) := by decide +kernel
theorem dL_law_662 : decode cL_law 662 = .ok (.iconst 0, 1) := by decide +kernel
theorem dL_law_663 : decode cL_law 663 = .ok (.invokevirtual 66, 3) := by decide +kernel
theorem dL_law_666 : decode cL_law 666 = .ok (.pop, 1) := by decide +kernel
theorem dL_law_667 : decode cL_law 667 = .ok (.goto 1100, 3) := by decide +kernel


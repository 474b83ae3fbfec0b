theorem m_co_X0_make : Cond.code yX0_make cX0_make 3 none ∈ zT := zmem1 zsub_4 214 (by decide +kernel) (by decide +kernel)
theorem m_ml_RX11_232 : Cond.methodLink RX11 232 yX0_make ∈ zT := zmem1 zsub_4 211 (by decide +kernel) (by decide +kernel)
theorem m_im_X0_make : Cond.instanceMethod yX0_make ∈ zT := zmem1 zsub_4 212 (by decide +kernel) (by decide +kernel)
theorem m_se_X0_make : Cond.selects RX0 yX0_make yX0_make ∈ zT := zmem1 zsub_4 213 (by decide +kernel) (by decide +kernel)
theorem m_co_X11_waysIn : Cond.code yX11_waysIn cX11_waysIn 4 (some (.object "TurnedPosts$AllWays")) ∈ zT := zmem1 zsub_4 210 (by decide +kernel) (by decide +kernel)
theorem m_ml_RX11_235 : Cond.methodLink RX11 235 yX11_waysIn ∈ zT := zmem1 zsub_4 207 (by decide +kernel) (by decide +kernel)
theorem m_im_X11_waysIn : Cond.instanceMethod yX11_waysIn ∈ zT := zmem1 zsub_4 209 (by decide +kernel) (by decide +kernel)
theorem m_se_X11_waysIn : Cond.selects RX11 yX11_waysIn yX11_waysIn ∈ zT := zmem 31 (by decide +kernel) (by decide +kernel)
theorem m_fl_RX11_257 : Cond.fieldLink RX11 257 (TX0 1).1 (TX0 1).2.1 (TX0 1).2.2.1 ∈ zT := zmem1 zsub_2 109 (by decide +kernel) (by decide +kernel)
theorem m_co_X11_inLeastTerms : Cond.code yX11_inLeastTerms cX11_inLeastTerms 7 (some .int) ∈ zT := zmem1 zsub_5 44 (by decide +kernel) (by decide +kernel)
theorem m_ml_RX11_262 : Cond.methodLink RX11 262 yX11_inLeastTerms ∈ zT := zmem1 zsub_5 42 (by decide +kernel) (by decide +kernel)
theorem m_st_X11_inLeastTerms : Cond.static yX11_inLeastTerms ∈ zT := zmem1 zsub_5 43 (by decide +kernel) (by decide +kernel)
theorem m_ml_RX11_260 : Cond.methodLink RX11 260 yX0_where ∈ zT := zmem1 zsub_5 41 (by decide +kernel) (by decide +kernel)
theorem kV_RX11_232 {R : Room} {s : State} {args : Array Value} {d mc ms : Nat} (hts : ∀ w ∈ zT, w.before args s = true) (h1 : d + 1 ≤ R.frames) (h2 : 8 + (3 + 11) + 40 * d ≤ R.locals) : CallW R s args RX11 RX0 232 yX0_make cX0_make 3 none (zW yX0_make cX0_make 3 none) (zR d mc ms) mc ms 1 := z_cwV hts m_co_X0_make m_ml_RX11_232 m_im_X0_make m_se_X0_make m_ii_RX0 (by decide +kernel) h1 h2
theorem kV_RX11_235 {R : Room} {s : State} {args : Array Value} {d mc ms : Nat} (hts : ∀ w ∈ zT, w.before args s = true) (h1 : d + 1 ≤ R.frames) (h2 : 8 + (4 + 11) + 40 * d ≤ R.locals) : CallW R s args RX11 RX11 235 yX11_waysIn cX11_waysIn 4 (some (.object "TurnedPosts$AllWays")) (zW yX11_waysIn cX11_waysIn 4 (some (.object "TurnedPosts$AllWays"))) (zR d mc ms) mc ms 2 := z_cwV hts m_co_X11_waysIn m_ml_RX11_235 m_im_X11_waysIn m_se_X11_waysIn m_ii_RX11 (by decide +kernel) h1 h2
theorem kS_RX11_262 {R : Room} {s : State} {args : Array Value} {d mc ms : Nat} (hts : ∀ w ∈ zT, w.before args s = true) (h1 : d + 1 ≤ R.frames) (h2 : 8 + (7 + 11) + 40 * d ≤ R.locals) : CallB R s args RX11 262 yX11_inLeastTerms cX11_inLeastTerms 7 (some .int) (zW yX11_inLeastTerms cX11_inLeastTerms 7 (some .int)) (zR d mc ms) mc ms 3 ∧ (Cond.static yX11_inLeastTerms).before args s = true := z_cwS hts m_co_X11_inLeastTerms m_ml_RX11_262 m_st_X11_inLeastTerms m_ii_RX11 (by decide +kernel) h1 h2
theorem kV_RX11_260 {R : Room} {s : State} {args : Array Value} {d mc ms : Nat} (hts : ∀ w ∈ zT, w.before args s = true) (h1 : d + 1 ≤ R.frames) (h2 : 8 + (3 + 11) + 40 * d ≤ R.locals) : CallW R s args RX11 RX0 260 yX0_where cX0_where 3 (some .int) (zW yX0_where cX0_where 3 (some .int)) (zR d mc ms) mc ms 2 := z_cwV hts m_co_X0_where m_ml_RX11_260 m_im_X0_where m_se_X0_where m_ii_RX0 (by decide +kernel) h1 h2
theorem dX11_waysIn_0 : decode cX11_waysIn 0 = .ok (.iload_n 1, 1) := by decide +kernel
theorem dX11_waysIn_1 : decode cX11_waysIn 1 = .ok (.ifCond .ne 10, 3) := by decide +kernel
theorem dX11_waysIn_4 : decode cX11_waysIn 4 = .ok (.aload_n 0, 1) := by decide +kernel
theorem dX11_waysIn_5 : decode cX11_waysIn 5 = .ok (.getfield 55, 3) := by decide +kernel
theorem dX11_waysIn_8 : decode cX11_waysIn 8 = .ok (.goto 7, 3) := by decide +kernel
theorem dX11_waysIn_11 : decode cX11_waysIn 11 = .ok (.aload_n 0, 1) := by decide +kernel
theorem dX11_waysIn_12 : decode cX11_waysIn 12 = .ok (.getfield 59, 3) := by decide +kernel
theorem dX11_waysIn_15 : decode cX11_waysIn 15 = .ok (.astore_n 3, 1) := by decide +kernel
theorem dX11_waysIn_16 : decode cX11_waysIn 16 = .ok (.aload_n 3, 1) := by decide +kernel
theorem dX11_waysIn_17 : decode cX11_waysIn 17 = .ok (.aload_n 2, 1) := by decide +kernel
theorem dX11_waysIn_18 : decode cX11_waysIn 18 = .ok (.invokevirtual 232, 3) := by decide +kernel
theorem dX11_waysIn_21 : decode cX11_waysIn 21 = .ok (.aload_n 3, 1) := by decide +kernel
theorem dX11_waysIn_22 : decode cX11_waysIn 22 = .ok (.areturn, 1) := by decide +kernel
theorem dX11_lot_0 : decode cX11_lot 0 = .ok (.aload_n 0, 1) := by decide +kernel
theorem dX11_lot_1 : decode cX11_lot 1 = .ok (.getfield 10, 3) := by decide +kernel
theorem dX11_lot_4 : decode cX11_lot 4 = .ok (.iload_n 1, 1) := by decide +kernel
theorem dX11_lot_5 : decode cX11_lot 5 = .ok (.invokevirtual 121, 3) := by decide +kernel
theorem dX11_lot_8 : decode cX11_lot 8 = .ok (.astore 5, 2) := by decide +kernel
theorem dX11_lot_10 : decode cX11_lot 10 = .ok (.aload 5, 2) := by decide +kernel
theorem dX11_lot_12 : decode cX11_lot 12 = .ok (.ifnull 21, 3) := by decide +kernel
theorem dX11_lot_15 : decode cX11_lot 15 = .ok (.aload 5, 2) := by decide +kernel
theorem dX11_lot_17 : decode cX11_lot 17 = .ok (.iload_n 2, 1) := by decide +kernel
theorem dX11_lot_18 : decode cX11_lot 18 = .ok (.invokevirtual 160, 3) := by decide +kernel
theorem dX11_lot_21 : decode cX11_lot 21 = .ok (.ifCond .eq 12, 3) := by decide +kernel
theorem dX11_lot_24 : decode cX11_lot 24 = .ok (.aload 5, 2) := by decide +kernel
theorem dX11_lot_26 : decode cX11_lot 26 = .ok (.iload_n 3, 1) := by decide +kernel
theorem dX11_lot_27 : decode cX11_lot 27 = .ok (.invokevirtual 174, 3) := by decide +kernel
theorem dX11_lot_30 : decode cX11_lot 30 = .ok (.ifCond .ne 5, 3) := by decide +kernel
theorem dX11_lot_33 : decode cX11_lot 33 = .ok (.iconst (-1), 1) := by decide +kernel
theorem dX11_lot_34 : decode cX11_lot 34 = .ok (.ireturn, 1) := by decide +kernel
theorem dX11_lot_35 : decode cX11_lot 35 = .ok (.aload_n 0, 1) := by decide +kernel
theorem dX11_lot_36 : decode cX11_lot 36 = .ok (.iload_n 1, 1) := by decide +kernel
theorem dX11_lot_37 : decode cX11_lot 37 = .ok (.aload 5, 2) := by decide +kernel
theorem dX11_lot_39 : decode cX11_lot 39 = .ok (.invokevirtual 235, 3) := by decide +kernel
theorem dX11_lot_42 : decode cX11_lot 42 = .ok (.astore 6, 2) := by decide +kernel
theorem dX11_lot_44 : decode cX11_lot 44 = .ok (.iconst 0, 1) := by decide +kernel
theorem dX11_lot_45 : decode cX11_lot 45 = .ok (.istore 7, 2) := by decide +kernel
theorem dX11_lot_47 : decode cX11_lot 47 = .ok (.iconst 0, 1) := by decide +kernel
theorem dX11_lot_48 : decode cX11_lot 48 = .ok (.istore 8, 2) := by decide +kernel
theorem dX11_lot_50 : decode cX11_lot 50 = .ok (.iload 8, 2) := by decide +kernel
theorem dX11_lot_52 : decode cX11_lot 52 = .ok (.aload 6, 2) := by decide +kernel
theorem dX11_lot_54 : decode cX11_lot 54 = .ok (.getfield 257, 3) := by decide +kernel
theorem dX11_lot_57 : decode cX11_lot 57 = .ok (.if_icmp .ge 24, 3) := by decide +kernel
theorem dX11_lot_60 : decode cX11_lot 60 = .ok (.aload 6, 2) := by decide +kernel
theorem dX11_lot_62 : decode cX11_lot 62 = .ok (.iload 8, 2) := by decide +kernel
theorem dX11_lot_64 : decode cX11_lot 64 = .ok (.iload_n 2, 1) := by decide +kernel
theorem dX11_lot_65 : decode cX11_lot 65 = .ok (.invokevirtual 260, 3) := by decide +kernel
theorem dX11_lot_68 : decode cX11_lot 68 = .ok (.iload_n 3, 1) := by decide +kernel
theorem dX11_lot_69 : decode cX11_lot 69 = .ok (.if_icmp .ne 6, 3) := by decide +kernel
theorem dX11_lot_72 : decode cX11_lot 72 = .ok (.iinc 7 1, 3) := by decide +kernel
theorem dX11_lot_75 : decode cX11_lot 75 = .ok (.iinc 8 1, 3) := by decide +kernel
theorem dX11_lot_78 : decode cX11_lot 78 = .ok (.goto (-28), 3) := by decide +kernel
theorem dX11_lot_81 : decode cX11_lot 81 = .ok (.iload 7, 2) := by decide +kernel
theorem dX11_lot_83 : decode cX11_lot 83 = .ok (.aload 6, 2) := by decide +kernel
theorem dX11_lot_85 : decode cX11_lot 85 = .ok (.getfield 257, 3) := by decide +kernel
theorem dX11_lot_88 : decode cX11_lot 88 = .ok (.iload 4, 2) := by decide +kernel
theorem dX11_lot_90 : decode cX11_lot 90 = .ok (.invokestatic 262, 3) := by decide +kernel
theorem dX11_lot_93 : decode cX11_lot 93 = .ok (.ireturn, 1) := by decide +kernel


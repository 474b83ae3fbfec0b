theorem m_co_X12_setsWay : Cond.code yX12_setsWay cX12_setsWay 4 none ∈ zT := zmem1 zsub_7 75 (by decide +kernel) (by decide +kernel)
theorem m_ml_RX12_226 : Cond.methodLink RX12 226 yX12_setsWay ∈ zT := zmem1 zsub_7 72 (by decide +kernel) (by decide +kernel)
theorem m_im_X12_setsWay : Cond.instanceMethod yX12_setsWay ∈ zT := zmem1 zsub_7 74 (by decide +kernel) (by decide +kernel)
theorem m_se_X12_setsWay : Cond.selects RX12 yX12_setsWay yX12_setsWay ∈ zT := zmem 74 (by decide +kernel) (by decide +kernel)
theorem m_co_X12_waysMany : Cond.code yX12_waysMany cX12_waysMany 3 (some .int) ∈ zT := zmem1 zsub_7 67 (by decide +kernel) (by decide +kernel)
theorem m_ml_RX12_229 : Cond.methodLink RX12 229 yX12_waysMany ∈ zT := zmem1 zsub_7 64 (by decide +kernel) (by decide +kernel)
theorem m_im_X12_waysMany : Cond.instanceMethod yX12_waysMany ∈ zT := zmem1 zsub_7 66 (by decide +kernel) (by decide +kernel)
theorem m_se_X12_waysMany : Cond.selects RX12 yX12_waysMany yX12_waysMany ∈ zT := zmem 72 (by decide +kernel) (by decide +kernel)
theorem m_co_X12_unlikeTold : Cond.code yX12_unlikeTold cX12_unlikeTold 3 (some .int) ∈ zT := zmem1 zsub_7 79 (by decide +kernel) (by decide +kernel)
theorem m_ml_RX12_232 : Cond.methodLink RX12 232 yX12_unlikeTold ∈ zT := zmem1 zsub_7 76 (by decide +kernel) (by decide +kernel)
theorem m_im_X12_unlikeTold : Cond.instanceMethod yX12_unlikeTold ∈ zT := zmem1 zsub_7 78 (by decide +kernel) (by decide +kernel)
theorem m_se_X12_unlikeTold : Cond.selects RX12 yX12_unlikeTold yX12_unlikeTold ∈ zT := zmem 75 (by decide +kernel) (by decide +kernel)
theorem m_co_X12_bitsOf : Cond.code yX12_bitsOf cX12_bitsOf 3 (some .int) ∈ zT := zmem1 zsub_7 82 (by decide +kernel) (by decide +kernel)
theorem m_ml_RX12_235 : Cond.methodLink RX12 235 yX12_bitsOf ∈ zT := zmem1 zsub_7 80 (by decide +kernel) (by decide +kernel)
theorem m_st_X12_bitsOf : Cond.static yX12_bitsOf ∈ zT := zmem1 zsub_7 81 (by decide +kernel) (by decide +kernel)
theorem m_co_X12_setBy : Cond.code yX12_setBy cX12_setBy 9 (some .int) ∈ zT := zmem1 zsub_7 63 (by decide +kernel) (by decide +kernel)
theorem m_ml_RX12_238 : Cond.methodLink RX12 238 yX12_setBy ∈ zT := zmem1 zsub_7 60 (by decide +kernel) (by decide +kernel)
theorem m_im_X12_setBy : Cond.instanceMethod yX12_setBy ∈ zT := zmem1 zsub_7 62 (by decide +kernel) (by decide +kernel)
theorem m_se_X12_setBy : Cond.selects RX12 yX12_setBy yX12_setBy ∈ zT := zmem 71 (by decide +kernel) (by decide +kernel)
theorem m_co_X12_common : Cond.code yX12_common cX12_common 5 (some .int) ∈ zT := zmem1 zsub_7 92 (by decide +kernel) (by decide +kernel)
theorem m_ml_RX12_241 : Cond.methodLink RX12 241 yX12_common ∈ zT := zmem1 zsub_7 90 (by decide +kernel) (by decide +kernel)
theorem m_st_X12_common : Cond.static yX12_common ∈ zT := zmem1 zsub_7 91 (by decide +kernel) (by decide +kernel)
theorem m_co_X12_parted : Cond.code yX12_parted cX12_parted 3 (some .int) ∈ zT := zmem1 zsub_7 89 (by decide +kernel) (by decide +kernel)
theorem m_ml_RX12_244 : Cond.methodLink RX12 244 yX12_parted ∈ zT := zmem1 zsub_7 87 (by decide +kernel) (by decide +kernel)
theorem m_st_X12_parted : Cond.static yX12_parted ∈ zT := zmem1 zsub_7 88 (by decide +kernel) (by decide +kernel)
theorem m_co_X12_numberOf : Cond.code yX12_numberOf cX12_numberOf 4 (some .int) ∈ zT := zmem1 zsub_7 188 (by decide +kernel) (by decide +kernel)
theorem m_ml_RX12_299 : Cond.methodLink RX12 299 yX12_numberOf ∈ zT := zmem1 zsub_7 185 (by decide +kernel) (by decide +kernel)
theorem m_im_X12_numberOf : Cond.instanceMethod yX12_numberOf ∈ zT := zmem1 zsub_7 187 (by decide +kernel) (by decide +kernel)
theorem m_se_X12_numberOf : Cond.selects RX12 yX12_numberOf yX12_numberOf ∈ zT := zmem 90 (by decide +kernel) (by decide +kernel)
theorem m_co_X12_roads5 : Cond.code yX12_roads5 cX12_roads5 2 (some .int) ∈ zT := zmem1 zsub_7 124 (by decide +kernel) (by decide +kernel)
theorem m_ml_RX12_255 : Cond.methodLink RX12 255 yX12_roads5 ∈ zT := zmem1 zsub_7 121 (by decide +kernel) (by decide +kernel)
theorem m_im_X12_roads5 : Cond.instanceMethod yX12_roads5 ∈ zT := zmem1 zsub_7 123 (by decide +kernel) (by decide +kernel)
theorem m_se_X12_roads5 : Cond.selects RX12 yX12_roads5 yX12_roads5 ∈ zT := zmem 79 (by decide +kernel) (by decide +kernel)
theorem kV_RX12_226 {R : Room} {s : State} {args : Array Value} {d mc ms : Nat} (hts : ∀ w ∈ zT, w.before args s = true) (h1 : d + 1 ≤ R.frames) (h2 : 8 + (4 + 11) + 40 * d ≤ R.locals) : CallW R s args RX12 RX12 226 yX12_setsWay cX12_setsWay 4 none (zW yX12_setsWay cX12_setsWay 4 none) (zR d mc ms) mc ms 1 := z_cwV hts m_co_X12_setsWay m_ml_RX12_226 m_im_X12_setsWay m_se_X12_setsWay m_ii_RX12 (by decide +kernel) h1 h2
theorem kV_RX12_229 {R : Room} {s : State} {args : Array Value} {d mc ms : Nat} (hts : ∀ w ∈ zT, w.before args s = true) (h1 : d + 1 ≤ R.frames) (h2 : 8 + (3 + 11) + 40 * d ≤ R.locals) : CallW R s args RX12 RX12 229 yX12_waysMany cX12_waysMany 3 (some .int) (zW yX12_waysMany cX12_waysMany 3 (some .int)) (zR d mc ms) mc ms 0 := z_cwV hts m_co_X12_waysMany m_ml_RX12_229 m_im_X12_waysMany m_se_X12_waysMany m_ii_RX12 (by decide +kernel) h1 h2
theorem kV_RX12_232 {R : Room} {s : State} {args : Array Value} {d mc ms : Nat} (hts : ∀ w ∈ zT, w.before args s = true) (h1 : d + 1 ≤ R.frames) (h2 : 8 + (3 + 11) + 40 * d ≤ R.locals) : CallW R s args RX12 RX12 232 yX12_unlikeTold cX12_unlikeTold 3 (some .int) (zW yX12_unlikeTold cX12_unlikeTold 3 (some .int)) (zR d mc ms) mc ms 0 := z_cwV hts m_co_X12_unlikeTold m_ml_RX12_232 m_im_X12_unlikeTold m_se_X12_unlikeTold m_ii_RX12 (by decide +kernel) h1 h2
theorem kS_RX12_235 {R : Room} {s : State} {args : Array Value} {d mc ms : Nat} (hts : ∀ w ∈ zT, w.before args s = true) (h1 : d + 1 ≤ R.frames) (h2 : 8 + (3 + 11) + 40 * d ≤ R.locals) : CallB R s args RX12 235 yX12_bitsOf cX12_bitsOf 3 (some .int) (zW yX12_bitsOf cX12_bitsOf 3 (some .int)) (zR d mc ms) mc ms 1 ∧ (Cond.static yX12_bitsOf).before args s = true := z_cwS hts m_co_X12_bitsOf m_ml_RX12_235 m_st_X12_bitsOf m_ii_RX12 (by decide +kernel) h1 h2
theorem kV_RX12_238 {R : Room} {s : State} {args : Array Value} {d mc ms : Nat} (hts : ∀ w ∈ zT, w.before args s = true) (h1 : d + 1 ≤ R.frames) (h2 : 8 + (9 + 11) + 40 * d ≤ R.locals) : CallW R s args RX12 RX12 238 yX12_setBy cX12_setBy 9 (some .int) (zW yX12_setBy cX12_setBy 9 (some .int)) (zR d mc ms) mc ms 2 := z_cwV hts m_co_X12_setBy m_ml_RX12_238 m_im_X12_setBy m_se_X12_setBy m_ii_RX12 (by decide +kernel) h1 h2
theorem kS_RX12_241 {R : Room} {s : State} {args : Array Value} {d mc ms : Nat} (hts : ∀ w ∈ zT, w.before args s = true) (h1 : d + 1 ≤ R.frames) (h2 : 8 + (5 + 11) + 40 * d ≤ R.locals) : CallB R s args RX12 241 yX12_common cX12_common 5 (some .int) (zW yX12_common cX12_common 5 (some .int)) (zR d mc ms) mc ms 2 ∧ (Cond.static yX12_common).before args s = true := z_cwS hts m_co_X12_common m_ml_RX12_241 m_st_X12_common m_ii_RX12 (by decide +kernel) h1 h2
theorem kS_RX12_244 {R : Room} {s : State} {args : Array Value} {d mc ms : Nat} (hts : ∀ w ∈ zT, w.before args s = true) (h1 : d + 1 ≤ R.frames) (h2 : 8 + (3 + 11) + 40 * d ≤ R.locals) : CallB R s args RX12 244 yX12_parted cX12_parted 3 (some .int) (zW yX12_parted cX12_parted 3 (some .int)) (zR d mc ms) mc ms 3 ∧ (Cond.static yX12_parted).before args s = true := z_cwS hts m_co_X12_parted m_ml_RX12_244 m_st_X12_parted m_ii_RX12 (by decide +kernel) h1 h2
theorem kV_RX12_299 {R : Room} {s : State} {args : Array Value} {d mc ms : Nat} (hts : ∀ w ∈ zT, w.before args s = true) (h1 : d + 1 ≤ R.frames) (h2 : 8 + (4 + 11) + 40 * d ≤ R.locals) : CallW R s args RX12 RX12 299 yX12_numberOf cX12_numberOf 4 (some .int) (zW yX12_numberOf cX12_numberOf 4 (some .int)) (zR d mc ms) mc ms 1 := z_cwV hts m_co_X12_numberOf m_ml_RX12_299 m_im_X12_numberOf m_se_X12_numberOf m_ii_RX12 (by decide +kernel) h1 h2
theorem kV_RX12_255 {R : Room} {s : State} {args : Array Value} {d mc ms : Nat} (hts : ∀ w ∈ zT, w.before args s = true) (h1 : d + 1 ≤ R.frames) (h2 : 8 + (2 + 11) + 40 * d ≤ R.locals) : CallW R s args RX12 RX12 255 yX12_roads5 cX12_roads5 2 (some .int) (zW yX12_roads5 cX12_roads5 2 (some .int)) (zR d mc ms) mc ms 1 := z_cwV hts m_co_X12_roads5 m_ml_RX12_255 m_im_X12_roads5 m_se_X12_roads5 m_ii_RX12 (by decide +kernel) h1 h2
theorem dX12_unlikeTold_0 : decode cX12_unlikeTold 0 = .ok (.iconst 0, 1) := by decide +kernel
theorem dX12_unlikeTold_1 : decode cX12_unlikeTold 1 = .ok (.istore_n 1, 1) := by decide +kernel
theorem dX12_unlikeTold_2 : decode cX12_unlikeTold 2 = .ok (.iconst 0, 1) := by decide +kernel
theorem dX12_unlikeTold_3 : decode cX12_unlikeTold 3 = .ok (.istore_n 2, 1) := by decide +kernel
theorem dX12_unlikeTold_4 : decode cX12_unlikeTold 4 = .ok (.iload_n 2, 1) := by decide +kernel
theorem dX12_unlikeTold_5 : decode cX12_unlikeTold 5 = .ok (.aload_n 0, 1) := by decide +kernel
theorem dX12_unlikeTold_6 : decode cX12_unlikeTold 6 = .ok (.getfield 169, 3) := by decide +kernel
theorem dX12_unlikeTold_9 : decode cX12_unlikeTold 9 = .ok (.if_icmp .ge 41, 3) := by decide +kernel
theorem dX12_unlikeTold_12 : decode cX12_unlikeTold 12 = .ok (.iload_n 1, 1) := by decide +kernel
theorem dX12_unlikeTold_13 : decode cX12_unlikeTold 13 = .ok (.aload_n 0, 1) := by decide +kernel
theorem dX12_unlikeTold_14 : decode cX12_unlikeTold 14 = .ok (.iload_n 2, 1) := by decide +kernel
theorem dX12_unlikeTold_15 : decode cX12_unlikeTold 15 = .ok (.invokevirtual 223, 3) := by decide +kernel
theorem dX12_unlikeTold_18 : decode cX12_unlikeTold 18 = .ok (.ifCond .eq 23, 3) := by decide +kernel
theorem dX12_unlikeTold_21 : decode cX12_unlikeTold 21 = .ok (.aload_n 0, 1) := by decide +kernel
theorem dX12_unlikeTold_22 : decode cX12_unlikeTold 22 = .ok (.getfield 20, 3) := by decide +kernel
theorem dX12_unlikeTold_25 : decode cX12_unlikeTold 25 = .ok (.iload_n 2, 1) := by decide +kernel
theorem dX12_unlikeTold_26 : decode cX12_unlikeTold 26 = .ok (.iaload, 1) := by decide +kernel
theorem dX12_unlikeTold_27 : decode cX12_unlikeTold 27 = .ok (.aload_n 0, 1) := by decide +kernel
theorem dX12_unlikeTold_28 : decode cX12_unlikeTold 28 = .ok (.iload_n 2, 1) := by decide +kernel
theorem dX12_unlikeTold_29 : decode cX12_unlikeTold 29 = .ok (.invokevirtual 193, 3) := by decide +kernel
theorem dX12_unlikeTold_32 : decode cX12_unlikeTold 32 = .ok (.if_icmp .eq 9, 3) := by decide +kernel
theorem dX12_unlikeTold_35 : decode cX12_unlikeTold 35 = .ok (.iconst 1, 1) := by decide +kernel
theorem dX12_unlikeTold_36 : decode cX12_unlikeTold 36 = .ok (.iload_n 2, 1) := by decide +kernel
theorem dX12_unlikeTold_37 : decode cX12_unlikeTold 37 = .ok (.ishl, 1) := by decide +kernel
theorem dX12_unlikeTold_38 : decode cX12_unlikeTold 38 = .ok (.goto 4, 3) := by decide +kernel
theorem dX12_unlikeTold_41 : decode cX12_unlikeTold 41 = .ok (.iconst 0, 1) := by decide +kernel
theorem dX12_unlikeTold_42 : decode cX12_unlikeTold 42 = .ok (.ior, 1) := by decide +kernel
theorem dX12_unlikeTold_43 : decode cX12_unlikeTold 43 = .ok (.istore_n 1, 1) := by decide +kernel
theorem dX12_unlikeTold_44 : decode cX12_unlikeTold 44 = .ok (.iinc 2 1, 3) := by decide +kernel
theorem dX12_unlikeTold_47 : decode cX12_unlikeTold 47 = .ok (.goto (-43), 3) := by decide +kernel
theorem dX12_unlikeTold_50 : decode cX12_unlikeTold 50 = .ok (.iload_n 1, 1) := by decide +kernel
theorem dX12_unlikeTold_51 : decode cX12_unlikeTold 51 = .ok (.ireturn, 1) := by decide +kernel
theorem dX12_bitsOf_0 : decode cX12_bitsOf 0 = .ok (.iconst 0, 1) := by decide +kernel
theorem dX12_bitsOf_1 : decode cX12_bitsOf 1 = .ok (.istore_n 1, 1) := by decide +kernel
theorem dX12_bitsOf_2 : decode cX12_bitsOf 2 = .ok (.iconst 0, 1) := by decide +kernel
theorem dX12_bitsOf_3 : decode cX12_bitsOf 3 = .ok (.istore_n 2, 1) := by decide +kernel
theorem dX12_bitsOf_4 : decode cX12_bitsOf 4 = .ok (.iload_n 2, 1) := by decide +kernel
theorem dX12_bitsOf_5 : decode cX12_bitsOf 5 = .ok (.bipush 12, 2) := by decide +kernel
theorem dX12_bitsOf_7 : decode cX12_bitsOf 7 = .ok (.if_icmp .ge 17, 3) := by decide +kernel
theorem dX12_bitsOf_10 : decode cX12_bitsOf 10 = .ok (.iload_n 1, 1) := by decide +kernel
theorem dX12_bitsOf_11 : decode cX12_bitsOf 11 = .ok (.iload_n 0, 1) := by decide +kernel
theorem dX12_bitsOf_12 : decode cX12_bitsOf 12 = .ok (.iload_n 2, 1) := by decide +kernel
theorem dX12_bitsOf_13 : decode cX12_bitsOf 13 = .ok (.ishr, 1) := by decide +kernel
theorem dX12_bitsOf_14 : decode cX12_bitsOf 14 = .ok (.iconst 1, 1) := by decide +kernel
theorem dX12_bitsOf_15 : decode cX12_bitsOf 15 = .ok (.iand, 1) := by decide +kernel
theorem dX12_bitsOf_16 : decode cX12_bitsOf 16 = .ok (.iadd, 1) := by decide +kernel
theorem dX12_bitsOf_17 : decode cX12_bitsOf 17 = .ok (.istore_n 1, 1) := by decide +kernel
theorem dX12_bitsOf_18 : decode cX12_bitsOf 18 = .ok (.iinc 2 1, 3) := by decide +kernel
theorem dX12_bitsOf_21 : decode cX12_bitsOf 21 = .ok (.goto (-17), 3) := by decide +kernel
theorem dX12_bitsOf_24 : decode cX12_bitsOf 24 = .ok (.iload_n 1, 1) := by decide +kernel
theorem dX12_bitsOf_25 : decode cX12_bitsOf 25 = .ok (.ireturn, 1) := by decide +kernel
theorem dX12_numberOf_0 : decode cX12_numberOf 0 = .ok (.aload_n 0, 1) := by decide +kernel
theorem dX12_numberOf_1 : decode cX12_numberOf 1 = .ok (.iload_n 1, 1) := by decide +kernel
theorem dX12_numberOf_2 : decode cX12_numberOf 2 = .ok (.invokevirtual 226, 3) := by decide +kernel
theorem dX12_numberOf_5 : decode cX12_numberOf 5 = .ok (.iconst 1, 1) := by decide +kernel
theorem dX12_numberOf_6 : decode cX12_numberOf 6 = .ok (.istore_n 2, 1) := by decide +kernel
theorem dX12_numberOf_7 : decode cX12_numberOf 7 = .ok (.iconst 0, 1) := by decide +kernel
theorem dX12_numberOf_8 : decode cX12_numberOf 8 = .ok (.istore_n 3, 1) := by decide +kernel
theorem dX12_numberOf_9 : decode cX12_numberOf 9 = .ok (.iload_n 3, 1) := by decide +kernel
theorem dX12_numberOf_10 : decode cX12_numberOf 10 = .ok (.aload_n 0, 1) := by decide +kernel
theorem dX12_numberOf_11 : decode cX12_numberOf 11 = .ok (.getfield 169, 3) := by decide +kernel
theorem dX12_numberOf_14 : decode cX12_numberOf 14 = .ok (.if_icmp .ge 21, 3) := by decide +kernel
theorem dX12_numberOf_17 : decode cX12_numberOf 17 = .ok (.bipush 10, 2) := by decide +kernel
theorem dX12_numberOf_19 : decode cX12_numberOf 19 = .ok (.iload_n 2, 1) := by decide +kernel
theorem dX12_numberOf_20 : decode cX12_numberOf 20 = .ok (.imul, 1) := by decide +kernel
theorem dX12_numberOf_21 : decode cX12_numberOf 21 = .ok (.aload_n 0, 1) := by decide +kernel
theorem dX12_numberOf_22 : decode cX12_numberOf 22 = .ok (.getfield 20, 3) := by decide +kernel
theorem dX12_numberOf_25 : decode cX12_numberOf 25 = .ok (.iload_n 3, 1) := by decide +kernel
theorem dX12_numberOf_26 : decode cX12_numberOf 26 = .ok (.iaload, 1) := by decide +kernel
theorem dX12_numberOf_27 : decode cX12_numberOf 27 = .ok (.iadd, 1) := by decide +kernel
theorem dX12_numberOf_28 : decode cX12_numberOf 28 = .ok (.istore_n 2, 1) := by decide +kernel
theorem dX12_numberOf_29 : decode cX12_numberOf 29 = .ok (.iinc 3 1, 3) := by decide +kernel
theorem dX12_numberOf_32 : decode cX12_numberOf 32 = .ok (.goto (-23), 3) := by decide +kernel
theorem dX12_numberOf_35 : decode cX12_numberOf 35 = .ok (.iload_n 2, 1) := by decide +kernel
theorem dX12_numberOf_36 : decode cX12_numberOf 36 = .ok (.ireturn, 1) := by decide +kernel
theorem dX12_setBy_0 : decode cX12_setBy 0 = .ok (.iconst (-1), 1) := by decide +kernel
theorem dX12_setBy_1 : decode cX12_setBy 1 = .ok (.istore_n 3, 1) := by decide +kernel
theorem dX12_setBy_2 : decode cX12_setBy 2 = .ok (.iconst 0, 1) := by decide +kernel
theorem dX12_setBy_3 : decode cX12_setBy 3 = .ok (.istore 4, 2) := by decide +kernel
theorem dX12_setBy_5 : decode cX12_setBy 5 = .ok (.aload_n 0, 1) := by decide +kernel
theorem dX12_setBy_6 : decode cX12_setBy 6 = .ok (.invokevirtual 229, 3) := by decide +kernel
theorem dX12_setBy_9 : decode cX12_setBy 9 = .ok (.istore 5, 2) := by decide +kernel
theorem dX12_setBy_11 : decode cX12_setBy 11 = .ok (.iconst 0, 1) := by decide +kernel
theorem dX12_setBy_12 : decode cX12_setBy 12 = .ok (.istore 6, 2) := by decide +kernel
theorem dX12_setBy_14 : decode cX12_setBy 14 = .ok (.iload 6, 2) := by decide +kernel
theorem dX12_setBy_16 : decode cX12_setBy 16 = .ok (.iload 5, 2) := by decide +kernel
theorem dX12_setBy_18 : decode cX12_setBy 18 = .ok (.if_icmp .ge 98, 3) := by decide +kernel
theorem dX12_setBy_21 : decode cX12_setBy 21 = .ok (.aload_n 0, 1) := by decide +kernel
theorem dX12_setBy_22 : decode cX12_setBy 22 = .ok (.iload 6, 2) := by decide +kernel
theorem dX12_setBy_24 : decode cX12_setBy 24 = .ok (.invokevirtual 226, 3) := by decide +kernel
theorem dX12_setBy_27 : decode cX12_setBy 27 = .ok (.aload_n 0, 1) := by decide +kernel
theorem dX12_setBy_28 : decode cX12_setBy 28 = .ok (.invokevirtual 232, 3) := by decide +kernel
theorem dX12_setBy_31 : decode cX12_setBy 31 = .ok (.istore 7, 2) := by decide +kernel
theorem dX12_setBy_33 : decode cX12_setBy 33 = .ok (.iload_n 3, 1) := by decide +kernel
theorem dX12_setBy_34 : decode cX12_setBy 34 = .ok (.iconst (-1), 1) := by decide +kernel
theorem dX12_setBy_35 : decode cX12_setBy 35 = .ok (.if_icmp .eq 36, 3) := by decide +kernel
theorem dX12_setBy_38 : decode cX12_setBy 38 = .ok (.iload 7, 2) := by decide +kernel
theorem dX12_setBy_40 : decode cX12_setBy 40 = .ok (.invokestatic 235, 3) := by decide +kernel
theorem dX12_setBy_43 : decode cX12_setBy 43 = .ok (.iload 4, 2) := by decide +kernel
theorem dX12_setBy_45 : decode cX12_setBy 45 = .ok (.invokestatic 235, 3) := by decide +kernel
theorem dX12_setBy_48 : decode cX12_setBy 48 = .ok (.if_icmp .lt 23, 3) := by decide +kernel
theorem dX12_setBy_51 : decode cX12_setBy 51 = .ok (.iload 7, 2) := by decide +kernel
theorem dX12_setBy_53 : decode cX12_setBy 53 = .ok (.invokestatic 235, 3) := by decide +kernel
theorem dX12_setBy_56 : decode cX12_setBy 56 = .ok (.iload 4, 2) := by decide +kernel
theorem dX12_setBy_58 : decode cX12_setBy 58 = .ok (.invokestatic 235, 3) := by decide +kernel
theorem dX12_setBy_61 : decode cX12_setBy 61 = .ok (.if_icmp .ne 14, 3) := by decide +kernel
theorem dX12_setBy_64 : decode cX12_setBy 64 = .ok (.iload 7, 2) := by decide +kernel
theorem dX12_setBy_66 : decode cX12_setBy 66 = .ok (.iload 4, 2) := by decide +kernel
theorem dX12_setBy_68 : decode cX12_setBy 68 = .ok (.if_icmp .ge 7, 3) := by decide +kernel
theorem dX12_setBy_71 : decode cX12_setBy 71 = .ok (.iconst 1, 1) := by decide +kernel
theorem dX12_setBy_72 : decode cX12_setBy 72 = .ok (.goto 4, 3) := by decide +kernel
theorem dX12_setBy_75 : decode cX12_setBy 75 = .ok (.iconst 0, 1) := by decide +kernel
theorem dX12_setBy_76 : decode cX12_setBy 76 = .ok (.istore 8, 2) := by decide +kernel
theorem dX12_setBy_78 : decode cX12_setBy 78 = .ok (.iload 8, 2) := by decide +kernel
theorem dX12_setBy_80 : decode cX12_setBy 80 = .ok (.ifCond .ne 6, 3) := by decide +kernel
theorem dX12_setBy_83 : decode cX12_setBy 83 = .ok (.goto 27, 3) := by decide +kernel
theorem dX12_setBy_86 : decode cX12_setBy 86 = .ok (.aload_n 0, 1) := by decide +kernel
theorem dX12_setBy_87 : decode cX12_setBy 87 = .ok (.iload_n 1, 1) := by decide +kernel
theorem dX12_setBy_88 : decode cX12_setBy 88 = .ok (.invokevirtual 217, 3) := by decide +kernel
theorem dX12_setBy_91 : decode cX12_setBy 91 = .ok (.pop, 1) := by decide +kernel
theorem dX12_setBy_92 : decode cX12_setBy 92 = .ok (.aload_n 0, 1) := by decide +kernel
theorem dX12_setBy_93 : decode cX12_setBy 93 = .ok (.getfield 202, 3) := by decide +kernel
theorem dX12_setBy_96 : decode cX12_setBy 96 = .ok (.iload_n 2, 1) := by decide +kernel
theorem dX12_setBy_97 : decode cX12_setBy 97 = .ok (.if_icmp .eq 6, 3) := by decide +kernel
theorem dX12_setBy_100 : decode cX12_setBy 100 = .ok (.goto 10, 3) := by decide +kernel
theorem dX12_setBy_103 : decode cX12_setBy 103 = .ok (.iload 6, 2) := by decide +kernel
theorem dX12_setBy_105 : decode cX12_setBy 105 = .ok (.istore_n 3, 1) := by decide +kernel
theorem dX12_setBy_106 : decode cX12_setBy 106 = .ok (.iload 7, 2) := by decide +kernel
theorem dX12_setBy_108 : decode cX12_setBy 108 = .ok (.istore 4, 2) := by decide +kernel
theorem dX12_setBy_110 : decode cX12_setBy 110 = .ok (.iinc 6 1, 3) := by decide +kernel
theorem dX12_setBy_113 : decode cX12_setBy 113 = .ok (.goto (-99), 3) := by decide +kernel
theorem dX12_setBy_116 : decode cX12_setBy 116 = .ok (.iload_n 3, 1) := by decide +kernel
theorem dX12_setBy_117 : decode cX12_setBy 117 = .ok (.ireturn, 1) := by decide +kernel
theorem dX12_set_0 : decode cX12_set 0 = .ok (.aload_n 0, 1) := by decide +kernel
theorem dX12_set_1 : decode cX12_set 1 = .ok (.iload_n 1, 1) := by decide +kernel
theorem dX12_set_2 : decode cX12_set 2 = .ok (.invokevirtual 184, 3) := by decide +kernel
theorem dX12_set_5 : decode cX12_set 5 = .ok (.ifCond .eq 27, 3) := by decide +kernel
theorem dX12_set_8 : decode cX12_set 8 = .ok (.aload_n 0, 1) := by decide +kernel
theorem dX12_set_9 : decode cX12_set 9 = .ok (.iload_n 2, 1) := by decide +kernel
theorem dX12_set_10 : decode cX12_set 10 = .ok (.invokevirtual 187, 3) := by decide +kernel
theorem dX12_set_13 : decode cX12_set 13 = .ok (.ifCond .eq 19, 3) := by decide +kernel
theorem dX12_set_16 : decode cX12_set 16 = .ok (.aload_n 0, 1) := by decide +kernel
theorem dX12_set_17 : decode cX12_set 17 = .ok (.iload_n 3, 1) := by decide +kernel
theorem dX12_set_18 : decode cX12_set 18 = .ok (.invokevirtual 187, 3) := by decide +kernel
theorem dX12_set_21 : decode cX12_set 21 = .ok (.ifCond .eq 11, 3) := by decide +kernel
theorem dX12_set_24 : decode cX12_set 24 = .ok (.aload_n 0, 1) := by decide +kernel
theorem dX12_set_25 : decode cX12_set 25 = .ok (.iload_n 3, 1) := by decide +kernel
theorem dX12_set_26 : decode cX12_set 26 = .ok (.invokevirtual 178, 3) := by decide +kernel
theorem dX12_set_29 : decode cX12_set 29 = .ok (.ifCond .ne 5, 3) := by decide +kernel
theorem dX12_set_32 : decode cX12_set 32 = .ok (.iconst (-1), 1) := by decide +kernel
theorem dX12_set_33 : decode cX12_set 33 = .ok (.ireturn, 1) := by decide +kernel
theorem dX12_set_34 : decode cX12_set 34 = .ok (.aload_n 0, 1) := by decide +kernel
theorem dX12_set_35 : decode cX12_set 35 = .ok (.iload_n 2, 1) := by decide +kernel
theorem dX12_set_36 : decode cX12_set 36 = .ok (.iload_n 3, 1) := by decide +kernel
theorem dX12_set_37 : decode cX12_set 37 = .ok (.invokevirtual 238, 3) := by decide +kernel
theorem dX12_set_40 : decode cX12_set 40 = .ok (.istore 5, 2) := by decide +kernel
theorem dX12_set_42 : decode cX12_set 42 = .ok (.iload 5, 2) := by decide +kernel
theorem dX12_set_44 : decode cX12_set 44 = .ok (.iconst (-1), 1) := by decide +kernel
theorem dX12_set_45 : decode cX12_set 45 = .ok (.if_icmp .ne 5, 3) := by decide +kernel
theorem dX12_set_48 : decode cX12_set 48 = .ok (.iconst (-1), 1) := by decide +kernel
theorem dX12_set_49 : decode cX12_set 49 = .ok (.ireturn, 1) := by decide +kernel
theorem dX12_set_50 : decode cX12_set 50 = .ok (.aload_n 0, 1) := by decide +kernel
theorem dX12_set_51 : decode cX12_set 51 = .ok (.iload 5, 2) := by decide +kernel
theorem dX12_set_53 : decode cX12_set 53 = .ok (.invokevirtual 226, 3) := by decide +kernel
theorem dX12_set_56 : decode cX12_set 56 = .ok (.iload 4, 2) := by decide +kernel
theorem dX12_set_58 : decode cX12_set 58 = .ok (.ifCond .eq 9, 3) := by decide +kernel
theorem dX12_set_61 : decode cX12_set 61 = .ok (.iload 4, 2) := by decide +kernel
theorem dX12_set_63 : decode cX12_set 63 = .ok (.iconst 1, 1) := by decide +kernel
theorem dX12_set_64 : decode cX12_set 64 = .ok (.if_icmp .ne 23, 3) := by decide +kernel
theorem dX12_set_67 : decode cX12_set 67 = .ok (.iload 4, 2) := by decide +kernel
theorem dX12_set_69 : decode cX12_set 69 = .ok (.ifCond .ne 13, 3) := by decide +kernel
theorem dX12_set_72 : decode cX12_set 72 = .ok (.aload_n 0, 1) := by decide +kernel
theorem dX12_set_73 : decode cX12_set 73 = .ok (.invokevirtual 232, 3) := by decide +kernel
theorem dX12_set_76 : decode cX12_set 76 = .ok (.invokestatic 235, 3) := by decide +kernel
theorem dX12_set_79 : decode cX12_set 79 = .ok (.goto 7, 3) := by decide +kernel
theorem dX12_set_82 : decode cX12_set 82 = .ok (.aload_n 0, 1) := by decide +kernel
theorem dX12_set_83 : decode cX12_set 83 = .ok (.invokevirtual 232, 3) := by decide +kernel
theorem dX12_set_86 : decode cX12_set 86 = .ok (.ireturn, 1) := by decide +kernel
theorem dX12_set_87 : decode cX12_set 87 = .ok (.iload 4, 2) := by decide +kernel
theorem dX12_set_89 : decode cX12_set 89 = .ok (.bipush 10, 2) := by decide +kernel
theorem dX12_set_91 : decode cX12_set 91 = .ok (.isub, 1) := by decide +kernel
theorem dX12_set_92 : decode cX12_set 92 = .ok (.istore 6, 2) := by decide +kernel
theorem dX12_set_94 : decode cX12_set 94 = .ok (.iload 4, 2) := by decide +kernel
theorem dX12_set_96 : decode cX12_set 96 = .ok (.bipush 10, 2) := by decide +kernel
theorem dX12_set_98 : decode cX12_set 98 = .ok (.bipush 16, 2) := by decide +kernel
theorem dX12_set_100 : decode cX12_set 100 = .ok (.invokestatic 111, 3) := by decide +kernel
theorem dX12_set_103 : decode cX12_set 103 = .ok (.ifCond .eq 12, 3) := by decide +kernel
theorem dX12_set_106 : decode cX12_set 106 = .ok (.aload_n 0, 1) := by decide +kernel
theorem dX12_set_107 : decode cX12_set 107 = .ok (.iload 6, 2) := by decide +kernel
theorem dX12_set_109 : decode cX12_set 109 = .ok (.invokevirtual 187, 3) := by decide +kernel
theorem dX12_set_112 : decode cX12_set 112 = .ok (.ifCond .ne 7, 3) := by decide +kernel
theorem dX12_set_115 : decode cX12_set 115 = .ok (.iconst (-1), 1) := by decide +kernel
theorem dX12_set_116 : decode cX12_set 116 = .ok (.goto 28, 3) := by decide +kernel
theorem dX12_set_119 : decode cX12_set 119 = .ok (.aload_n 0, 1) := by decide +kernel
theorem dX12_set_120 : decode cX12_set 120 = .ok (.iload 6, 2) := by decide +kernel
theorem dX12_set_122 : decode cX12_set 122 = .ok (.invokevirtual 223, 3) := by decide +kernel
theorem dX12_set_125 : decode cX12_set 125 = .ok (.ifCond .eq 13, 3) := by decide +kernel
theorem dX12_set_128 : decode cX12_set 128 = .ok (.aload_n 0, 1) := by decide +kernel
theorem dX12_set_129 : decode cX12_set 129 = .ok (.getfield 20, 3) := by decide +kernel
theorem dX12_set_132 : decode cX12_set 132 = .ok (.iload 6, 2) := by decide +kernel
theorem dX12_set_134 : decode cX12_set 134 = .ok (.iaload, 1) := by decide +kernel
theorem dX12_set_135 : decode cX12_set 135 = .ok (.goto 9, 3) := by decide +kernel
theorem dX12_set_138 : decode cX12_set 138 = .ok (.aload_n 0, 1) := by decide +kernel
theorem dX12_set_139 : decode cX12_set 139 = .ok (.iload 6, 2) := by decide +kernel
theorem dX12_set_141 : decode cX12_set 141 = .ok (.invokevirtual 193, 3) := by decide +kernel
theorem dX12_set_144 : decode cX12_set 144 = .ok (.ireturn, 1) := by decide +kernel
theorem dX12_common_0 : decode cX12_common 0 = .ok (.iload_n 0, 1) := by decide +kernel
theorem dX12_common_1 : decode cX12_common 1 = .ok (.istore_n 2, 1) := by decide +kernel
theorem dX12_common_2 : decode cX12_common 2 = .ok (.iload_n 1, 1) := by decide +kernel
theorem dX12_common_3 : decode cX12_common 3 = .ok (.istore_n 3, 1) := by decide +kernel
theorem dX12_common_4 : decode cX12_common 4 = .ok (.iload_n 3, 1) := by decide +kernel
theorem dX12_common_5 : decode cX12_common 5 = .ok (.ifCond .eq 16, 3) := by decide +kernel
theorem dX12_common_8 : decode cX12_common 8 = .ok (.iload_n 2, 1) := by decide +kernel
theorem dX12_common_9 : decode cX12_common 9 = .ok (.iload_n 3, 1) := by decide +kernel
theorem dX12_common_10 : decode cX12_common 10 = .ok (.irem, 1) := by decide +kernel
theorem dX12_common_11 : decode cX12_common 11 = .ok (.istore 4, 2) := by decide +kernel
theorem dX12_common_13 : decode cX12_common 13 = .ok (.iload_n 3, 1) := by decide +kernel
theorem dX12_common_14 : decode cX12_common 14 = .ok (.istore_n 2, 1) := by decide +kernel
theorem dX12_common_15 : decode cX12_common 15 = .ok (.iload 4, 2) := by decide +kernel
theorem dX12_common_17 : decode cX12_common 17 = .ok (.istore_n 3, 1) := by decide +kernel
theorem dX12_common_18 : decode cX12_common 18 = .ok (.goto (-14), 3) := by decide +kernel
theorem dX12_common_21 : decode cX12_common 21 = .ok (.iload_n 2, 1) := by decide +kernel
theorem dX12_common_22 : decode cX12_common 22 = .ok (.ireturn, 1) := by decide +kernel
theorem dX12_parted_0 : decode cX12_parted 0 = .ok (.iload_n 2, 1) := by decide +kernel
theorem dX12_parted_1 : decode cX12_parted 1 = .ok (.ifCond .eq 7, 3) := by decide +kernel
theorem dX12_parted_4 : decode cX12_parted 4 = .ok (.iload_n 1, 1) := by decide +kernel
theorem dX12_parted_5 : decode cX12_parted 5 = .ok (.goto 4, 3) := by decide +kernel
theorem dX12_parted_8 : decode cX12_parted 8 = .ok (.iload_n 0, 1) := by decide +kernel
theorem dX12_parted_9 : decode cX12_parted 9 = .ok (.iload_n 0, 1) := by decide +kernel
theorem dX12_parted_10 : decode cX12_parted 10 = .ok (.iload_n 1, 1) := by decide +kernel
theorem dX12_parted_11 : decode cX12_parted 11 = .ok (.invokestatic 241, 3) := by decide +kernel
theorem dX12_parted_14 : decode cX12_parted 14 = .ok (.idiv, 1) := by decide +kernel
theorem dX12_parted_15 : decode cX12_parted 15 = .ok (.ireturn, 1) := by decide +kernel
theorem dX12_lot_0 : decode cX12_lot 0 = .ok (.aload_n 0, 1) := by decide +kernel
theorem dX12_lot_1 : decode cX12_lot 1 = .ok (.iload_n 1, 1) := by decide +kernel
theorem dX12_lot_2 : decode cX12_lot 2 = .ok (.invokevirtual 184, 3) := by decide +kernel
theorem dX12_lot_5 : decode cX12_lot 5 = .ok (.ifCond .eq 27, 3) := by decide +kernel
theorem dX12_lot_8 : decode cX12_lot 8 = .ok (.aload_n 0, 1) := by decide +kernel
theorem dX12_lot_9 : decode cX12_lot 9 = .ok (.iload_n 2, 1) := by decide +kernel
theorem dX12_lot_10 : decode cX12_lot 10 = .ok (.invokevirtual 187, 3) := by decide +kernel
theorem dX12_lot_13 : decode cX12_lot 13 = .ok (.ifCond .eq 19, 3) := by decide +kernel
theorem dX12_lot_16 : decode cX12_lot 16 = .ok (.aload_n 0, 1) := by decide +kernel
theorem dX12_lot_17 : decode cX12_lot 17 = .ok (.iload_n 3, 1) := by decide +kernel
theorem dX12_lot_18 : decode cX12_lot 18 = .ok (.invokevirtual 187, 3) := by decide +kernel
theorem dX12_lot_21 : decode cX12_lot 21 = .ok (.ifCond .eq 11, 3) := by decide +kernel
theorem dX12_lot_24 : decode cX12_lot 24 = .ok (.aload_n 0, 1) := by decide +kernel
theorem dX12_lot_25 : decode cX12_lot 25 = .ok (.iload_n 3, 1) := by decide +kernel
theorem dX12_lot_26 : decode cX12_lot 26 = .ok (.invokevirtual 178, 3) := by decide +kernel
theorem dX12_lot_29 : decode cX12_lot 29 = .ok (.ifCond .ne 5, 3) := by decide +kernel
theorem dX12_lot_32 : decode cX12_lot 32 = .ok (.iconst (-1), 1) := by decide +kernel
theorem dX12_lot_33 : decode cX12_lot 33 = .ok (.ireturn, 1) := by decide +kernel
theorem dX12_lot_34 : decode cX12_lot 34 = .ok (.aload_n 0, 1) := by decide +kernel
theorem dX12_lot_35 : decode cX12_lot 35 = .ok (.invokevirtual 229, 3) := by decide +kernel
theorem dX12_lot_38 : decode cX12_lot 38 = .ok (.istore 5, 2) := by decide +kernel
theorem dX12_lot_40 : decode cX12_lot 40 = .ok (.iconst 0, 1) := by decide +kernel
theorem dX12_lot_41 : decode cX12_lot 41 = .ok (.istore 6, 2) := by decide +kernel
theorem dX12_lot_43 : decode cX12_lot 43 = .ok (.iconst 0, 1) := by decide +kernel
theorem dX12_lot_44 : decode cX12_lot 44 = .ok (.istore 7, 2) := by decide +kernel
theorem dX12_lot_46 : decode cX12_lot 46 = .ok (.iload 7, 2) := by decide +kernel
theorem dX12_lot_48 : decode cX12_lot 48 = .ok (.iload 5, 2) := by decide +kernel
theorem dX12_lot_50 : decode cX12_lot 50 = .ok (.if_icmp .ge 39, 3) := by decide +kernel
theorem dX12_lot_53 : decode cX12_lot 53 = .ok (.aload_n 0, 1) := by decide +kernel
theorem dX12_lot_54 : decode cX12_lot 54 = .ok (.iload 7, 2) := by decide +kernel
theorem dX12_lot_56 : decode cX12_lot 56 = .ok (.invokevirtual 226, 3) := by decide +kernel
theorem dX12_lot_59 : decode cX12_lot 59 = .ok (.aload_n 0, 1) := by decide +kernel
theorem dX12_lot_60 : decode cX12_lot 60 = .ok (.iload_n 2, 1) := by decide +kernel
theorem dX12_lot_61 : decode cX12_lot 61 = .ok (.invokevirtual 217, 3) := by decide +kernel
theorem dX12_lot_64 : decode cX12_lot 64 = .ok (.pop, 1) := by decide +kernel
theorem dX12_lot_65 : decode cX12_lot 65 = .ok (.iload 6, 2) := by decide +kernel
theorem dX12_lot_67 : decode cX12_lot 67 = .ok (.aload_n 0, 1) := by decide +kernel
theorem dX12_lot_68 : decode cX12_lot 68 = .ok (.getfield 202, 3) := by decide +kernel
theorem dX12_lot_71 : decode cX12_lot 71 = .ok (.iload_n 3, 1) := by decide +kernel
theorem dX12_lot_72 : decode cX12_lot 72 = .ok (.if_icmp .ne 7, 3) := by decide +kernel
theorem dX12_lot_75 : decode cX12_lot 75 = .ok (.iconst 1, 1) := by decide +kernel
theorem dX12_lot_76 : decode cX12_lot 76 = .ok (.goto 4, 3) := by decide +kernel
theorem dX12_lot_79 : decode cX12_lot 79 = .ok (.iconst 0, 1) := by decide +kernel
theorem dX12_lot_80 : decode cX12_lot 80 = .ok (.iadd, 1) := by decide +kernel
theorem dX12_lot_81 : decode cX12_lot 81 = .ok (.istore 6, 2) := by decide +kernel
theorem dX12_lot_83 : decode cX12_lot 83 = .ok (.iinc 7 1, 3) := by decide +kernel
theorem dX12_lot_86 : decode cX12_lot 86 = .ok (.goto (-40), 3) := by decide +kernel
theorem dX12_lot_89 : decode cX12_lot 89 = .ok (.iload 6, 2) := by decide +kernel
theorem dX12_lot_91 : decode cX12_lot 91 = .ok (.iload 5, 2) := by decide +kernel
theorem dX12_lot_93 : decode cX12_lot 93 = .ok (.iload 4, 2) := by decide +kernel
theorem dX12_lot_95 : decode cX12_lot 95 = .ok (.invokestatic 244, 3) := by decide +kernel
theorem dX12_lot_98 : decode cX12_lot 98 = .ok (.ireturn, 1) := by decide +kernel
theorem dX12_mean_0 : decode cX12_mean 0 = .ok (.aload_n 0, 1) := by decide +kernel
theorem dX12_mean_1 : decode cX12_mean 1 = .ok (.iload_n 1, 1) := by decide +kernel
theorem dX12_mean_2 : decode cX12_mean 2 = .ok (.invokevirtual 184, 3) := by decide +kernel
theorem dX12_mean_5 : decode cX12_mean 5 = .ok (.ifCond .eq 11, 3) := by decide +kernel
theorem dX12_mean_8 : decode cX12_mean 8 = .ok (.aload_n 0, 1) := by decide +kernel
theorem dX12_mean_9 : decode cX12_mean 9 = .ok (.iload_n 2, 1) := by decide +kernel
theorem dX12_mean_10 : decode cX12_mean 10 = .ok (.invokevirtual 187, 3) := by decide +kernel
theorem dX12_mean_13 : decode cX12_mean 13 = .ok (.ifCond .ne 5, 3) := by decide +kernel
theorem dX12_mean_16 : decode cX12_mean 16 = .ok (.iconst (-1), 1) := by decide +kernel
theorem dX12_mean_17 : decode cX12_mean 17 = .ok (.ireturn, 1) := by decide +kernel
theorem dX12_mean_18 : decode cX12_mean 18 = .ok (.aload_n 0, 1) := by decide +kernel
theorem dX12_mean_19 : decode cX12_mean 19 = .ok (.invokevirtual 229, 3) := by decide +kernel
theorem dX12_mean_22 : decode cX12_mean 22 = .ok (.istore 4, 2) := by decide +kernel
theorem dX12_mean_24 : decode cX12_mean 24 = .ok (.iconst 0, 1) := by decide +kernel
theorem dX12_mean_25 : decode cX12_mean 25 = .ok (.istore 5, 2) := by decide +kernel
theorem dX12_mean_27 : decode cX12_mean 27 = .ok (.iconst 0, 1) := by decide +kernel
theorem dX12_mean_28 : decode cX12_mean 28 = .ok (.istore 6, 2) := by decide +kernel
theorem dX12_mean_30 : decode cX12_mean 30 = .ok (.iload 6, 2) := by decide +kernel
theorem dX12_mean_32 : decode cX12_mean 32 = .ok (.iload 4, 2) := by decide +kernel
theorem dX12_mean_34 : decode cX12_mean 34 = .ok (.if_icmp .ge 34, 3) := by decide +kernel
theorem dX12_mean_37 : decode cX12_mean 37 = .ok (.aload_n 0, 1) := by decide +kernel
theorem dX12_mean_38 : decode cX12_mean 38 = .ok (.iload 6, 2) := by decide +kernel
theorem dX12_mean_40 : decode cX12_mean 40 = .ok (.invokevirtual 226, 3) := by decide +kernel
theorem dX12_mean_43 : decode cX12_mean 43 = .ok (.aload_n 0, 1) := by decide +kernel
theorem dX12_mean_44 : decode cX12_mean 44 = .ok (.iload_n 2, 1) := by decide +kernel
theorem dX12_mean_45 : decode cX12_mean 45 = .ok (.invokevirtual 217, 3) := by decide +kernel
theorem dX12_mean_48 : decode cX12_mean 48 = .ok (.ifCond .ne 5, 3) := by decide +kernel
theorem dX12_mean_51 : decode cX12_mean 51 = .ok (.iconst (-1), 1) := by decide +kernel
theorem dX12_mean_52 : decode cX12_mean 52 = .ok (.ireturn, 1) := by decide +kernel
theorem dX12_mean_53 : decode cX12_mean 53 = .ok (.iload 5, 2) := by decide +kernel
theorem dX12_mean_55 : decode cX12_mean 55 = .ok (.aload_n 0, 1) := by decide +kernel
theorem dX12_mean_56 : decode cX12_mean 56 = .ok (.getfield 208, 3) := by decide +kernel
theorem dX12_mean_59 : decode cX12_mean 59 = .ok (.iadd, 1) := by decide +kernel
theorem dX12_mean_60 : decode cX12_mean 60 = .ok (.istore 5, 2) := by decide +kernel
theorem dX12_mean_62 : decode cX12_mean 62 = .ok (.iinc 6 1, 3) := by decide +kernel
theorem dX12_mean_65 : decode cX12_mean 65 = .ok (.goto (-35), 3) := by decide +kernel
theorem dX12_mean_68 : decode cX12_mean 68 = .ok (.iload 5, 2) := by decide +kernel
theorem dX12_mean_70 : decode cX12_mean 70 = .ok (.iload 4, 2) := by decide +kernel
theorem dX12_mean_72 : decode cX12_mean 72 = .ok (.iload_n 3, 1) := by decide +kernel
theorem dX12_mean_73 : decode cX12_mean 73 = .ok (.invokestatic 244, 3) := by decide +kernel
theorem dX12_mean_76 : decode cX12_mean 76 = .ok (.ireturn, 1) := by decide +kernel
theorem dX12_longest_0 : decode cX12_longest 0 = .ok (.aload_n 0, 1) := by decide +kernel
theorem dX12_longest_1 : decode cX12_longest 1 = .ok (.iload_n 1, 1) := by decide +kernel
theorem dX12_longest_2 : decode cX12_longest 2 = .ok (.invokevirtual 184, 3) := by decide +kernel
theorem dX12_longest_5 : decode cX12_longest 5 = .ok (.ifCond .eq 11, 3) := by decide +kernel
theorem dX12_longest_8 : decode cX12_longest 8 = .ok (.aload_n 0, 1) := by decide +kernel
theorem dX12_longest_9 : decode cX12_longest 9 = .ok (.iload_n 2, 1) := by decide +kernel
theorem dX12_longest_10 : decode cX12_longest 10 = .ok (.invokevirtual 187, 3) := by decide +kernel
theorem dX12_longest_13 : decode cX12_longest 13 = .ok (.ifCond .ne 5, 3) := by decide +kernel
theorem dX12_longest_16 : decode cX12_longest 16 = .ok (.iconst (-1), 1) := by decide +kernel
theorem dX12_longest_17 : decode cX12_longest 17 = .ok (.ireturn, 1) := by decide +kernel
theorem dX12_longest_18 : decode cX12_longest 18 = .ok (.aload_n 0, 1) := by decide +kernel
theorem dX12_longest_19 : decode cX12_longest 19 = .ok (.invokevirtual 229, 3) := by decide +kernel
theorem dX12_longest_22 : decode cX12_longest 22 = .ok (.istore 5, 2) := by decide +kernel
theorem dX12_longest_24 : decode cX12_longest 24 = .ok (.iconst (-1), 1) := by decide +kernel
theorem dX12_longest_25 : decode cX12_longest 25 = .ok (.istore 6, 2) := by decide +kernel
theorem dX12_longest_27 : decode cX12_longest 27 = .ok (.iconst 0, 1) := by decide +kernel
theorem dX12_longest_28 : decode cX12_longest 28 = .ok (.istore 7, 2) := by decide +kernel
theorem dX12_longest_30 : decode cX12_longest 30 = .ok (.iconst 0, 1) := by decide +kernel
theorem dX12_longest_31 : decode cX12_longest 31 = .ok (.istore 8, 2) := by decide +kernel
theorem dX12_longest_33 : decode cX12_longest 33 = .ok (.iload 8, 2) := by decide +kernel
theorem dX12_longest_35 : decode cX12_longest 35 = .ok (.iload 5, 2) := by decide +kernel
theorem dX12_longest_37 : decode cX12_longest 37 = .ok (.if_icmp .ge 67, 3) := by decide +kernel
theorem dX12_longest_40 : decode cX12_longest 40 = .ok (.aload_n 0, 1) := by decide +kernel
theorem dX12_longest_41 : decode cX12_longest 41 = .ok (.iload 8, 2) := by decide +kernel
theorem dX12_longest_43 : decode cX12_longest 43 = .ok (.invokevirtual 226, 3) := by decide +kernel
theorem dX12_longest_46 : decode cX12_longest 46 = .ok (.aload_n 0, 1) := by decide +kernel
theorem dX12_longest_47 : decode cX12_longest 47 = .ok (.iload_n 2, 1) := by decide +kernel
theorem dX12_longest_48 : decode cX12_longest 48 = .ok (.invokevirtual 217, 3) := by decide +kernel
theorem dX12_longest_51 : decode cX12_longest 51 = .ok (.ifCond .eq 47, 3) := by decide +kernel
theorem dX12_longest_54 : decode cX12_longest 54 = .ok (.iload 6, 2) := by decide +kernel
theorem dX12_longest_56 : decode cX12_longest 56 = .ok (.iconst (-1), 1) := by decide +kernel
theorem dX12_longest_57 : decode cX12_longest 57 = .ok (.if_icmp .eq 31, 3) := by decide +kernel
theorem dX12_longest_60 : decode cX12_longest 60 = .ok (.iload_n 3, 1) := by decide +kernel
theorem dX12_longest_61 : decode cX12_longest 61 = .ok (.ifCond .eq 15, 3) := by decide +kernel
theorem dX12_longest_64 : decode cX12_longest 64 = .ok (.aload_n 0, 1) := by decide +kernel
theorem dX12_longest_65 : decode cX12_longest 65 = .ok (.getfield 208, 3) := by decide +kernel
theorem dX12_longest_68 : decode cX12_longest 68 = .ok (.iload 7, 2) := by decide +kernel
theorem dX12_longest_70 : decode cX12_longest 70 = .ok (.if_icmp .lt 18, 3) := by decide +kernel
theorem dX12_longest_73 : decode cX12_longest 73 = .ok (.goto 25, 3) := by decide +kernel
theorem dX12_longest_76 : decode cX12_longest 76 = .ok (.aload_n 0, 1) := by decide +kernel
theorem dX12_longest_77 : decode cX12_longest 77 = .ok (.getfield 208, 3) := by decide +kernel
theorem dX12_longest_80 : decode cX12_longest 80 = .ok (.iload 7, 2) := by decide +kernel
theorem dX12_longest_82 : decode cX12_longest 82 = .ok (.if_icmp .gt 6, 3) := by decide +kernel
theorem dX12_longest_85 : decode cX12_longest 85 = .ok (.goto 13, 3) := by decide +kernel
theorem dX12_longest_88 : decode cX12_longest 88 = .ok (.iload 8, 2) := by decide +kernel
theorem dX12_longest_90 : decode cX12_longest 90 = .ok (.istore 6, 2) := by decide +kernel
theorem dX12_longest_92 : decode cX12_longest 92 = .ok (.aload_n 0, 1) := by decide +kernel
theorem dX12_longest_93 : decode cX12_longest 93 = .ok (.getfield 208, 3) := by decide +kernel
theorem dX12_longest_96 : decode cX12_longest 96 = .ok (.istore 7, 2) := by decide +kernel
theorem dX12_longest_98 : decode cX12_longest 98 = .ok (.iinc 8 1, 3) := by decide +kernel
theorem dX12_longest_101 : decode cX12_longest 101 = .ok (.goto (-68), 3) := by decide +kernel
theorem dX12_longest_104 : decode cX12_longest 104 = .ok (.iload 6, 2) := by decide +kernel
theorem dX12_longest_106 : decode cX12_longest 106 = .ok (.iconst (-1), 1) := by decide +kernel
theorem dX12_longest_107 : decode cX12_longest 107 = .ok (.if_icmp .ne 7, 3) := by decide +kernel
theorem dX12_longest_110 : decode cX12_longest 110 = .ok (.iconst (-1), 1) := by decide +kernel
theorem dX12_longest_111 : decode cX12_longest 111 = .ok (.goto 19, 3) := by decide +kernel
theorem dX12_longest_114 : decode cX12_longest 114 = .ok (.iload 4, 2) := by decide +kernel
theorem dX12_longest_116 : decode cX12_longest 116 = .ok (.ifCond .eq 12, 3) := by decide +kernel
theorem dX12_longest_119 : decode cX12_longest 119 = .ok (.aload_n 0, 1) := by decide +kernel
theorem dX12_longest_120 : decode cX12_longest 120 = .ok (.iload 6, 2) := by decide +kernel
theorem dX12_longest_122 : decode cX12_longest 122 = .ok (.invokevirtual 299, 3) := by decide +kernel
theorem dX12_longest_125 : decode cX12_longest 125 = .ok (.goto 5, 3) := by decide +kernel
theorem dX12_longest_128 : decode cX12_longest 128 = .ok (.iload 7, 2) := by decide +kernel
theorem dX12_longest_130 : decode cX12_longest 130 = .ok (.ireturn, 1) := by decide +kernel
theorem dX12_back_0 : decode cX12_back 0 = .ok (.aload_n 0, 1) := by decide +kernel
theorem dX12_back_1 : decode cX12_back 1 = .ok (.iload_n 1, 1) := by decide +kernel
theorem dX12_back_2 : decode cX12_back 2 = .ok (.invokevirtual 184, 3) := by decide +kernel
theorem dX12_back_5 : decode cX12_back 5 = .ok (.ifCond .eq 11, 3) := by decide +kernel
theorem dX12_back_8 : decode cX12_back 8 = .ok (.aload_n 0, 1) := by decide +kernel
theorem dX12_back_9 : decode cX12_back 9 = .ok (.iload_n 2, 1) := by decide +kernel
theorem dX12_back_10 : decode cX12_back 10 = .ok (.invokevirtual 187, 3) := by decide +kernel
theorem dX12_back_13 : decode cX12_back 13 = .ok (.ifCond .ne 5, 3) := by decide +kernel
theorem dX12_back_16 : decode cX12_back 16 = .ok (.iconst (-1), 1) := by decide +kernel
theorem dX12_back_17 : decode cX12_back 17 = .ok (.ireturn, 1) := by decide +kernel
theorem dX12_back_18 : decode cX12_back 18 = .ok (.aload_n 0, 1) := by decide +kernel
theorem dX12_back_19 : decode cX12_back 19 = .ok (.invokevirtual 229, 3) := by decide +kernel
theorem dX12_back_22 : decode cX12_back 22 = .ok (.istore_n 3, 1) := by decide +kernel
theorem dX12_back_23 : decode cX12_back 23 = .ok (.iconst 0, 1) := by decide +kernel
theorem dX12_back_24 : decode cX12_back 24 = .ok (.istore 4, 2) := by decide +kernel
theorem dX12_back_26 : decode cX12_back 26 = .ok (.iconst 0, 1) := by decide +kernel
theorem dX12_back_27 : decode cX12_back 27 = .ok (.istore 5, 2) := by decide +kernel
theorem dX12_back_29 : decode cX12_back 29 = .ok (.iload 5, 2) := by decide +kernel
theorem dX12_back_31 : decode cX12_back 31 = .ok (.iload_n 3, 1) := by decide +kernel
theorem dX12_back_32 : decode cX12_back 32 = .ok (.if_icmp .ge 38, 3) := by decide +kernel
theorem dX12_back_35 : decode cX12_back 35 = .ok (.aload_n 0, 1) := by decide +kernel
theorem dX12_back_36 : decode cX12_back 36 = .ok (.iload 5, 2) := by decide +kernel
theorem dX12_back_38 : decode cX12_back 38 = .ok (.invokevirtual 226, 3) := by decide +kernel
theorem dX12_back_41 : decode cX12_back 41 = .ok (.aload_n 0, 1) := by decide +kernel
theorem dX12_back_42 : decode cX12_back 42 = .ok (.iload_n 2, 1) := by decide +kernel
theorem dX12_back_43 : decode cX12_back 43 = .ok (.invokevirtual 217, 3) := by decide +kernel
theorem dX12_back_46 : decode cX12_back 46 = .ok (.pop, 1) := by decide +kernel
theorem dX12_back_47 : decode cX12_back 47 = .ok (.iload 4, 2) := by decide +kernel
theorem dX12_back_49 : decode cX12_back 49 = .ok (.aload_n 0, 1) := by decide +kernel
theorem dX12_back_50 : decode cX12_back 50 = .ok (.invokevirtual 232, 3) := by decide +kernel
theorem dX12_back_53 : decode cX12_back 53 = .ok (.ifCond .ne 7, 3) := by decide +kernel
theorem dX12_back_56 : decode cX12_back 56 = .ok (.iconst 1, 1) := by decide +kernel
theorem dX12_back_57 : decode cX12_back 57 = .ok (.goto 4, 3) := by decide +kernel
theorem dX12_back_60 : decode cX12_back 60 = .ok (.iconst 0, 1) := by decide +kernel
theorem dX12_back_61 : decode cX12_back 61 = .ok (.iadd, 1) := by decide +kernel
theorem dX12_back_62 : decode cX12_back 62 = .ok (.istore 4, 2) := by decide +kernel
theorem dX12_back_64 : decode cX12_back 64 = .ok (.iinc 5 1, 3) := by decide +kernel
theorem dX12_back_67 : decode cX12_back 67 = .ok (.goto (-38), 3) := by decide +kernel
theorem dX12_back_70 : decode cX12_back 70 = .ok (.iload 4, 2) := by decide +kernel
theorem dX12_back_72 : decode cX12_back 72 = .ok (.ireturn, 1) := by decide +kernel
theorem dX12_roads5_0 : decode cX12_roads5 0 = .ok (.aload_n 0, 1) := by decide +kernel
theorem dX12_roads5_1 : decode cX12_roads5 1 = .ok (.iload_n 1, 1) := by decide +kernel
theorem dX12_roads5_2 : decode cX12_roads5 2 = .ok (.invokevirtual 178, 3) := by decide +kernel
theorem dX12_roads5_5 : decode cX12_roads5 5 = .ok (.ifCond .eq 7, 3) := by decide +kernel
theorem dX12_roads5_8 : decode cX12_roads5 8 = .ok (.iconst 0, 1) := by decide +kernel
theorem dX12_roads5_9 : decode cX12_roads5 9 = .ok (.goto 8, 3) := by decide +kernel
theorem dX12_roads5_12 : decode cX12_roads5 12 = .ok (.aload_n 0, 1) := by decide +kernel
theorem dX12_roads5_13 : decode cX12_roads5 13 = .ok (.iload_n 1, 1) := by decide +kernel
theorem dX12_roads5_14 : decode cX12_roads5 14 = .ok (.invokevirtual 181, 3) := by decide +kernel
theorem dX12_roads5_17 : decode cX12_roads5 17 = .ok (.ireturn, 1) := by decide +kernel
theorem dX12_keys_0 : decode cX12_keys 0 = .ok (.aload_n 0, 1) := by decide +kernel
theorem dX12_keys_1 : decode cX12_keys 1 = .ok (.iload_n 1, 1) := by decide +kernel
theorem dX12_keys_2 : decode cX12_keys 2 = .ok (.invokevirtual 184, 3) := by decide +kernel
theorem dX12_keys_5 : decode cX12_keys 5 = .ok (.ifCond .eq 19, 3) := by decide +kernel
theorem dX12_keys_8 : decode cX12_keys 8 = .ok (.aload_n 0, 1) := by decide +kernel
theorem dX12_keys_9 : decode cX12_keys 9 = .ok (.iload_n 2, 1) := by decide +kernel
theorem dX12_keys_10 : decode cX12_keys 10 = .ok (.invokevirtual 187, 3) := by decide +kernel
theorem dX12_keys_13 : decode cX12_keys 13 = .ok (.ifCond .eq 11, 3) := by decide +kernel
theorem dX12_keys_16 : decode cX12_keys 16 = .ok (.aload_n 0, 1) := by decide +kernel
theorem dX12_keys_17 : decode cX12_keys 17 = .ok (.iload_n 2, 1) := by decide +kernel
theorem dX12_keys_18 : decode cX12_keys 18 = .ok (.invokevirtual 217, 3) := by decide +kernel
theorem dX12_keys_21 : decode cX12_keys 21 = .ok (.ifCond .ne 6, 3) := by decide +kernel
theorem dX12_keys_24 : decode cX12_keys 24 = .ok (.bipush (-2), 2) := by decide +kernel
theorem dX12_keys_26 : decode cX12_keys 26 = .ok (.ireturn, 1) := by decide +kernel
theorem dX12_keys_27 : decode cX12_keys 27 = .ok (.iconst 0, 1) := by decide +kernel
theorem dX12_keys_28 : decode cX12_keys 28 = .ok (.istore 4, 2) := by decide +kernel
theorem dX12_keys_30 : decode cX12_keys 30 = .ok (.iconst (-1), 1) := by decide +kernel
theorem dX12_keys_31 : decode cX12_keys 31 = .ok (.istore 5, 2) := by decide +kernel
theorem dX12_keys_33 : decode cX12_keys 33 = .ok (.aload_n 0, 1) := by decide +kernel
theorem dX12_keys_34 : decode cX12_keys 34 = .ok (.getfield 169, 3) := by decide +kernel
theorem dX12_keys_37 : decode cX12_keys 37 = .ok (.iconst 1, 1) := by decide +kernel
theorem dX12_keys_38 : decode cX12_keys 38 = .ok (.isub, 1) := by decide +kernel
theorem dX12_keys_39 : decode cX12_keys 39 = .ok (.istore 6, 2) := by decide +kernel
theorem dX12_keys_41 : decode cX12_keys 41 = .ok (.iload 6, 2) := by decide +kernel
theorem dX12_keys_43 : decode cX12_keys 43 = .ok (.ifCond .lt 69, 3) := by decide +kernel
theorem dX12_keys_46 : decode cX12_keys 46 = .ok (.aload_n 0, 1) := by decide +kernel
theorem dX12_keys_47 : decode cX12_keys 47 = .ok (.iload 6, 2) := by decide +kernel
theorem dX12_keys_49 : decode cX12_keys 49 = .ok (.invokevirtual 255, 3) := by decide +kernel
theorem dX12_keys_52 : decode cX12_keys 52 = .ok (.iconst 1, 1) := by decide +kernel
theorem dX12_keys_53 : decode cX12_keys 53 = .ok (.isub, 1) := by decide +kernel
theorem dX12_keys_54 : decode cX12_keys 54 = .ok (.istore 7, 2) := by decide +kernel
theorem dX12_keys_56 : decode cX12_keys 56 = .ok (.iload 7, 2) := by decide +kernel
theorem dX12_keys_58 : decode cX12_keys 58 = .ok (.ifCond .lt 48, 3) := by decide +kernel
theorem dX12_keys_61 : decode cX12_keys 61 = .ok (.aload_n 0, 1) := by decide +kernel
theorem dX12_keys_62 : decode cX12_keys 62 = .ok (.invokevirtual 175, 3) := by decide +kernel
theorem dX12_keys_65 : decode cX12_keys 65 = .ok (.aload_n 0, 1) := by decide +kernel
theorem dX12_keys_66 : decode cX12_keys 66 = .ok (.getfield 23, 3) := by decide +kernel
theorem dX12_keys_69 : decode cX12_keys 69 = .ok (.iload 6, 2) := by decide +kernel
theorem dX12_keys_71 : decode cX12_keys 71 = .ok (.iconst 1, 1) := by decide +kernel
theorem dX12_keys_72 : decode cX12_keys 72 = .ok (.iload 7, 2) := by decide +kernel
theorem dX12_keys_74 : decode cX12_keys 74 = .ok (.ishl, 1) := by decide +kernel
theorem dX12_keys_75 : decode cX12_keys 75 = .ok (.iastore, 1) := by decide +kernel
theorem dX12_keys_76 : decode cX12_keys 76 = .ok (.aload_n 0, 1) := by decide +kernel
theorem dX12_keys_77 : decode cX12_keys 77 = .ok (.iload_n 2, 1) := by decide +kernel
theorem dX12_keys_78 : decode cX12_keys 78 = .ok (.invokevirtual 217, 3) := by decide +kernel
theorem dX12_keys_81 : decode cX12_keys 81 = .ok (.ifCond .eq 6, 3) := by decide +kernel
theorem dX12_keys_84 : decode cX12_keys 84 = .ok (.goto 16, 3) := by decide +kernel
theorem dX12_keys_87 : decode cX12_keys 87 = .ok (.iinc 4 1, 3) := by decide +kernel
theorem dX12_keys_90 : decode cX12_keys 90 = .ok (.bipush 10, 2) := by decide +kernel
theorem dX12_keys_92 : decode cX12_keys 92 = .ok (.iload 6, 2) := by decide +kernel
theorem dX12_keys_94 : decode cX12_keys 94 = .ok (.imul, 1) := by decide +kernel
theorem dX12_keys_95 : decode cX12_keys 95 = .ok (.iload 7, 2) := by decide +kernel
theorem dX12_keys_97 : decode cX12_keys 97 = .ok (.iadd, 1) := by decide +kernel
theorem dX12_keys_98 : decode cX12_keys 98 = .ok (.istore 5, 2) := by decide +kernel
theorem dX12_keys_100 : decode cX12_keys 100 = .ok (.iinc 7 (-1), 3) := by decide +kernel
theorem dX12_keys_103 : decode cX12_keys 103 = .ok (.goto (-47), 3) := by decide +kernel
theorem dX12_keys_106 : decode cX12_keys 106 = .ok (.iinc 6 (-1), 3) := by decide +kernel
theorem dX12_keys_109 : decode cX12_keys 109 = .ok (.goto (-68), 3) := by decide +kernel
theorem dX12_keys_112 : decode cX12_keys 112 = .ok (.iload_n 3, 1) := by decide +kernel
theorem dX12_keys_113 : decode cX12_keys 113 = .ok (.ifCond .eq 8, 3) := by decide +kernel
theorem dX12_keys_116 : decode cX12_keys 116 = .ok (.iload 5, 2) := by decide +kernel
theorem dX12_keys_118 : decode cX12_keys 118 = .ok (.goto 5, 3) := by decide +kernel
theorem dX12_keys_121 : decode cX12_keys 121 = .ok (.iload 4, 2) := by decide +kernel
theorem dX12_keys_123 : decode cX12_keys 123 = .ok (.ireturn, 1) := by decide +kernel


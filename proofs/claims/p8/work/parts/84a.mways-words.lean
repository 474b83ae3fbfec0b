theorem m_co_X12_puts : Cond.code yX12_puts cX12_puts 3 none ∈ zT := zmem1 zsub_7 23 (by decide +kernel) (by decide +kernel)
theorem m_ml_RX12_211 : Cond.methodLink RX12 211 yX12_puts ∈ zT := zmem1 zsub_7 20 (by decide +kernel) (by decide +kernel)
theorem m_im_X12_puts : Cond.instanceMethod yX12_puts ∈ zT := zmem1 zsub_7 22 (by decide +kernel) (by decide +kernel)
theorem m_se_X12_puts : Cond.selects RX12 yX12_puts yX12_puts ∈ zT := zmem 66 (by decide +kernel) (by decide +kernel)
theorem m_co_X12_stepsOn : Cond.code yX12_stepsOn cX12_stepsOn 1 (some .boolean) ∈ zT := zmem1 zsub_7 27 (by decide +kernel) (by decide +kernel)
theorem m_ml_RX12_214 : Cond.methodLink RX12 214 yX12_stepsOn ∈ zT := zmem1 zsub_7 24 (by decide +kernel) (by decide +kernel)
theorem m_im_X12_stepsOn : Cond.instanceMethod yX12_stepsOn ∈ zT := zmem1 zsub_7 26 (by decide +kernel) (by decide +kernel)
theorem m_se_X12_stepsOn : Cond.selects RX12 yX12_stepsOn yX12_stepsOn ∈ zT := zmem 67 (by decide +kernel) (by decide +kernel)
theorem m_co_X12_isFree : Cond.code yX12_isFree cX12_isFree 2 (some .boolean) ∈ zT := zmem1 zsub_7 71 (by decide +kernel) (by decide +kernel)
theorem m_ml_RX12_223 : Cond.methodLink RX12 223 yX12_isFree ∈ zT := zmem1 zsub_7 68 (by decide +kernel) (by decide +kernel)
theorem m_im_X12_isFree : Cond.instanceMethod yX12_isFree ∈ zT := zmem1 zsub_7 70 (by decide +kernel) (by decide +kernel)
theorem m_se_X12_isFree : Cond.selects RX12 yX12_isFree yX12_isFree ∈ zT := zmem 73 (by decide +kernel) (by decide +kernel)
theorem kV_RX12_211 {R : Room} {s : State} {args : Array Value} {d mc ms : Nat} (hts : ∀ w ∈ zT, w.before args s = true) (h1 : d + 1 ≤ R.frames) (h2 : 8 + (3 + 11) + 40 * d ≤ R.locals) : CallW R s args RX12 RX12 211 yX12_puts cX12_puts 3 none (zW yX12_puts cX12_puts 3 none) (zR d mc ms) mc ms 1 := z_cwV hts m_co_X12_puts m_ml_RX12_211 m_im_X12_puts m_se_X12_puts m_ii_RX12 (by decide +kernel) h1 h2
theorem kV_RX12_214 {R : Room} {s : State} {args : Array Value} {d mc ms : Nat} (hts : ∀ w ∈ zT, w.before args s = true) (h1 : d + 1 ≤ R.frames) (h2 : 8 + (1 + 11) + 40 * d ≤ R.locals) : CallW R s args RX12 RX12 214 yX12_stepsOn cX12_stepsOn 1 (some .boolean) (zW yX12_stepsOn cX12_stepsOn 1 (some .boolean)) (zR d mc ms) mc ms 0 := z_cwV hts m_co_X12_stepsOn m_ml_RX12_214 m_im_X12_stepsOn m_se_X12_stepsOn m_ii_RX12 (by decide +kernel) h1 h2
theorem kV_RX12_223 {R : Room} {s : State} {args : Array Value} {d mc ms : Nat} (hts : ∀ w ∈ zT, w.before args s = true) (h1 : d + 1 ≤ R.frames) (h2 : 8 + (2 + 11) + 40 * d ≤ R.locals) : CallW R s args RX12 RX12 223 yX12_isFree cX12_isFree 2 (some .boolean) (zW yX12_isFree cX12_isFree 2 (some .boolean)) (zR d mc ms) mc ms 1 := z_cwV hts m_co_X12_isFree m_ml_RX12_223 m_im_X12_isFree m_se_X12_isFree m_ii_RX12 (by decide +kernel) h1 h2
theorem dX12_puts_0 : decode cX12_puts 0 = .ok (.aload_n 0, 1) := by decide +kernel
theorem dX12_puts_1 : decode cX12_puts 1 = .ok (.iload_n 1, 1) := by decide +kernel
theorem dX12_puts_2 : decode cX12_puts 2 = .ok (.putfield 202, 3) := by decide +kernel
theorem dX12_puts_5 : decode cX12_puts 5 = .ok (.aload_n 0, 1) := by decide +kernel
theorem dX12_puts_6 : decode cX12_puts 6 = .ok (.iconst 0, 1) := by decide +kernel
theorem dX12_puts_7 : decode cX12_puts 7 = .ok (.putfield 208, 3) := by decide +kernel
theorem dX12_puts_10 : decode cX12_puts 10 = .ok (.iconst 0, 1) := by decide +kernel
theorem dX12_puts_11 : decode cX12_puts 11 = .ok (.istore_n 2, 1) := by decide +kernel
theorem dX12_puts_12 : decode cX12_puts 12 = .ok (.iload_n 2, 1) := by decide +kernel
theorem dX12_puts_13 : decode cX12_puts 13 = .ok (.bipush 7, 2) := by decide +kernel
theorem dX12_puts_15 : decode cX12_puts 15 = .ok (.if_icmp .ge 25, 3) := by decide +kernel
theorem dX12_puts_18 : decode cX12_puts 18 = .ok (.aload_n 0, 1) := by decide +kernel
theorem dX12_puts_19 : decode cX12_puts 19 = .ok (.getfield 29, 3) := by decide +kernel
theorem dX12_puts_22 : decode cX12_puts 22 = .ok (.iload_n 2, 1) := by decide +kernel
theorem dX12_puts_23 : decode cX12_puts 23 = .ok (.iload_n 2, 1) := by decide +kernel
theorem dX12_puts_24 : decode cX12_puts 24 = .ok (.iload_n 1, 1) := by decide +kernel
theorem dX12_puts_25 : decode cX12_puts 25 = .ok (.if_icmp .ne 7, 3) := by decide +kernel
theorem dX12_puts_28 : decode cX12_puts 28 = .ok (.iconst 1, 1) := by decide +kernel
theorem dX12_puts_29 : decode cX12_puts 29 = .ok (.goto 4, 3) := by decide +kernel
theorem dX12_puts_32 : decode cX12_puts 32 = .ok (.iconst 0, 1) := by decide +kernel
theorem dX12_puts_33 : decode cX12_puts 33 = .ok (.iastore, 1) := by decide +kernel
theorem dX12_puts_34 : decode cX12_puts 34 = .ok (.iinc 2 1, 3) := by decide +kernel
theorem dX12_puts_37 : decode cX12_puts 37 = .ok (.goto (-25), 3) := by decide +kernel
theorem dX12_puts_40 : decode cX12_puts 40 = .ok (.return_, 1) := by decide +kernel
theorem dX12_walks_0 : decode cX12_walks 0 = .ok (.aload_n 0, 1) := by decide +kernel
theorem dX12_walks_1 : decode cX12_walks 1 = .ok (.iload_n 1, 1) := by decide +kernel
theorem dX12_walks_2 : decode cX12_walks 2 = .ok (.invokevirtual 211, 3) := by decide +kernel
theorem dX12_walks_5 : decode cX12_walks 5 = .ok (.iconst 1, 1) := by decide +kernel
theorem dX12_walks_6 : decode cX12_walks 6 = .ok (.istore_n 2, 1) := by decide +kernel
theorem dX12_walks_7 : decode cX12_walks 7 = .ok (.aload_n 0, 1) := by decide +kernel
theorem dX12_walks_8 : decode cX12_walks 8 = .ok (.getfield 208, 3) := by decide +kernel
theorem dX12_walks_11 : decode cX12_walks 11 = .ok (.sipush 499, 3) := by decide +kernel
theorem dX12_walks_14 : decode cX12_walks 14 = .ok (.if_icmp .ge 15, 3) := by decide +kernel
theorem dX12_walks_17 : decode cX12_walks 17 = .ok (.iload_n 2, 1) := by decide +kernel
theorem dX12_walks_18 : decode cX12_walks 18 = .ok (.ifCond .eq 11, 3) := by decide +kernel
theorem dX12_walks_21 : decode cX12_walks 21 = .ok (.aload_n 0, 1) := by decide +kernel
theorem dX12_walks_22 : decode cX12_walks 22 = .ok (.invokevirtual 214, 3) := by decide +kernel
theorem dX12_walks_25 : decode cX12_walks 25 = .ok (.istore_n 2, 1) := by decide +kernel
theorem dX12_walks_26 : decode cX12_walks 26 = .ok (.goto (-19), 3) := by decide +kernel
theorem dX12_walks_29 : decode cX12_walks 29 = .ok (.aload_n 0, 1) := by decide +kernel
theorem dX12_walks_30 : decode cX12_walks 30 = .ok (.aload_n 0, 1) := by decide +kernel
theorem dX12_walks_31 : decode cX12_walks 31 = .ok (.getfield 202, 3) := by decide +kernel
theorem dX12_walks_34 : decode cX12_walks 34 = .ok (.invokevirtual 178, 3) := by decide +kernel
theorem dX12_walks_37 : decode cX12_walks 37 = .ok (.ireturn, 1) := by decide +kernel
theorem dX12_postsNow_0 : decode cX12_postsNow 0 = .ok (.iconst 0, 1) := by decide +kernel
theorem dX12_postsNow_1 : decode cX12_postsNow 1 = .ok (.istore_n 1, 1) := by decide +kernel
theorem dX12_postsNow_2 : decode cX12_postsNow 2 = .ok (.iconst 0, 1) := by decide +kernel
theorem dX12_postsNow_3 : decode cX12_postsNow 3 = .ok (.istore_n 2, 1) := by decide +kernel
theorem dX12_postsNow_4 : decode cX12_postsNow 4 = .ok (.iload_n 2, 1) := by decide +kernel
theorem dX12_postsNow_5 : decode cX12_postsNow 5 = .ok (.aload_n 0, 1) := by decide +kernel
theorem dX12_postsNow_6 : decode cX12_postsNow 6 = .ok (.getfield 169, 3) := by decide +kernel
theorem dX12_postsNow_9 : decode cX12_postsNow 9 = .ok (.if_icmp .ge 20, 3) := by decide +kernel
theorem dX12_postsNow_12 : decode cX12_postsNow 12 = .ok (.iconst 4, 1) := by decide +kernel
theorem dX12_postsNow_13 : decode cX12_postsNow 13 = .ok (.iload_n 1, 1) := by decide +kernel
theorem dX12_postsNow_14 : decode cX12_postsNow 14 = .ok (.imul, 1) := by decide +kernel
theorem dX12_postsNow_15 : decode cX12_postsNow 15 = .ok (.aload_n 0, 1) := by decide +kernel
theorem dX12_postsNow_16 : decode cX12_postsNow 16 = .ok (.getfield 20, 3) := by decide +kernel
theorem dX12_postsNow_19 : decode cX12_postsNow 19 = .ok (.iload_n 2, 1) := by decide +kernel
theorem dX12_postsNow_20 : decode cX12_postsNow 20 = .ok (.iaload, 1) := by decide +kernel
theorem dX12_postsNow_21 : decode cX12_postsNow 21 = .ok (.iadd, 1) := by decide +kernel
theorem dX12_postsNow_22 : decode cX12_postsNow 22 = .ok (.istore_n 1, 1) := by decide +kernel
theorem dX12_postsNow_23 : decode cX12_postsNow 23 = .ok (.iinc 2 1, 3) := by decide +kernel
theorem dX12_postsNow_26 : decode cX12_postsNow 26 = .ok (.goto (-22), 3) := by decide +kernel
theorem dX12_postsNow_29 : decode cX12_postsNow 29 = .ok (.iload_n 1, 1) := by decide +kernel
theorem dX12_postsNow_30 : decode cX12_postsNow 30 = .ok (.ireturn, 1) := by decide +kernel
theorem dX12_waysMany_0 : decode cX12_waysMany 0 = .ok (.iconst 1, 1) := by decide +kernel
theorem dX12_waysMany_1 : decode cX12_waysMany 1 = .ok (.istore_n 1, 1) := by decide +kernel
theorem dX12_waysMany_2 : decode cX12_waysMany 2 = .ok (.iconst 0, 1) := by decide +kernel
theorem dX12_waysMany_3 : decode cX12_waysMany 3 = .ok (.istore_n 2, 1) := by decide +kernel
theorem dX12_waysMany_4 : decode cX12_waysMany 4 = .ok (.iload_n 2, 1) := by decide +kernel
theorem dX12_waysMany_5 : decode cX12_waysMany 5 = .ok (.aload_n 0, 1) := by decide +kernel
theorem dX12_waysMany_6 : decode cX12_waysMany 6 = .ok (.getfield 169, 3) := by decide +kernel
theorem dX12_waysMany_9 : decode cX12_waysMany 9 = .ok (.if_icmp .ge 29, 3) := by decide +kernel
theorem dX12_waysMany_12 : decode cX12_waysMany 12 = .ok (.iload_n 1, 1) := by decide +kernel
theorem dX12_waysMany_13 : decode cX12_waysMany 13 = .ok (.aload_n 0, 1) := by decide +kernel
theorem dX12_waysMany_14 : decode cX12_waysMany 14 = .ok (.iload_n 2, 1) := by decide +kernel
theorem dX12_waysMany_15 : decode cX12_waysMany 15 = .ok (.invokevirtual 223, 3) := by decide +kernel
theorem dX12_waysMany_18 : decode cX12_waysMany 18 = .ok (.ifCond .eq 11, 3) := by decide +kernel
theorem dX12_waysMany_21 : decode cX12_waysMany 21 = .ok (.aload_n 0, 1) := by decide +kernel
theorem dX12_waysMany_22 : decode cX12_waysMany 22 = .ok (.iload_n 2, 1) := by decide +kernel
theorem dX12_waysMany_23 : decode cX12_waysMany 23 = .ok (.invokevirtual 181, 3) := by decide +kernel
theorem dX12_waysMany_26 : decode cX12_waysMany 26 = .ok (.goto 4, 3) := by decide +kernel
theorem dX12_waysMany_29 : decode cX12_waysMany 29 = .ok (.iconst 1, 1) := by decide +kernel
theorem dX12_waysMany_30 : decode cX12_waysMany 30 = .ok (.imul, 1) := by decide +kernel
theorem dX12_waysMany_31 : decode cX12_waysMany 31 = .ok (.istore_n 1, 1) := by decide +kernel
theorem dX12_waysMany_32 : decode cX12_waysMany 32 = .ok (.iinc 2 1, 3) := by decide +kernel
theorem dX12_waysMany_35 : decode cX12_waysMany 35 = .ok (.goto (-31), 3) := by decide +kernel
theorem dX12_waysMany_38 : decode cX12_waysMany 38 = .ok (.iload_n 1, 1) := by decide +kernel
theorem dX12_waysMany_39 : decode cX12_waysMany 39 = .ok (.ireturn, 1) := by decide +kernel
theorem dX12_setsWay_0 : decode cX12_setsWay 0 = .ok (.iload_n 1, 1) := by decide +kernel
theorem dX12_setsWay_1 : decode cX12_setsWay 1 = .ok (.istore_n 2, 1) := by decide +kernel
theorem dX12_setsWay_2 : decode cX12_setsWay 2 = .ok (.aload_n 0, 1) := by decide +kernel
theorem dX12_setsWay_3 : decode cX12_setsWay 3 = .ok (.getfield 169, 3) := by decide +kernel
theorem dX12_setsWay_6 : decode cX12_setsWay 6 = .ok (.iconst 1, 1) := by decide +kernel
theorem dX12_setsWay_7 : decode cX12_setsWay 7 = .ok (.isub, 1) := by decide +kernel
theorem dX12_setsWay_8 : decode cX12_setsWay 8 = .ok (.istore_n 3, 1) := by decide +kernel
theorem dX12_setsWay_9 : decode cX12_setsWay 9 = .ok (.iload_n 3, 1) := by decide +kernel
theorem dX12_setsWay_10 : decode cX12_setsWay 10 = .ok (.ifCond .lt 54, 3) := by decide +kernel
theorem dX12_setsWay_13 : decode cX12_setsWay 13 = .ok (.aload_n 0, 1) := by decide +kernel
theorem dX12_setsWay_14 : decode cX12_setsWay 14 = .ok (.getfield 20, 3) := by decide +kernel
theorem dX12_setsWay_17 : decode cX12_setsWay 17 = .ok (.iload_n 3, 1) := by decide +kernel
theorem dX12_setsWay_18 : decode cX12_setsWay 18 = .ok (.aload_n 0, 1) := by decide +kernel
theorem dX12_setsWay_19 : decode cX12_setsWay 19 = .ok (.iload_n 3, 1) := by decide +kernel
theorem dX12_setsWay_20 : decode cX12_setsWay 20 = .ok (.invokevirtual 223, 3) := by decide +kernel
theorem dX12_setsWay_23 : decode cX12_setsWay 23 = .ok (.ifCond .eq 13, 3) := by decide +kernel
theorem dX12_setsWay_26 : decode cX12_setsWay 26 = .ok (.iload_n 2, 1) := by decide +kernel
theorem dX12_setsWay_27 : decode cX12_setsWay 27 = .ok (.aload_n 0, 1) := by decide +kernel
theorem dX12_setsWay_28 : decode cX12_setsWay 28 = .ok (.iload_n 3, 1) := by decide +kernel
theorem dX12_setsWay_29 : decode cX12_setsWay 29 = .ok (.invokevirtual 181, 3) := by decide +kernel
theorem dX12_setsWay_32 : decode cX12_setsWay 32 = .ok (.irem, 1) := by decide +kernel
theorem dX12_setsWay_33 : decode cX12_setsWay 33 = .ok (.goto 4, 3) := by decide +kernel
theorem dX12_setsWay_36 : decode cX12_setsWay 36 = .ok (.iconst 0, 1) := by decide +kernel
theorem dX12_setsWay_37 : decode cX12_setsWay 37 = .ok (.iastore, 1) := by decide +kernel
theorem dX12_setsWay_38 : decode cX12_setsWay 38 = .ok (.iload_n 2, 1) := by decide +kernel
theorem dX12_setsWay_39 : decode cX12_setsWay 39 = .ok (.aload_n 0, 1) := by decide +kernel
theorem dX12_setsWay_40 : decode cX12_setsWay 40 = .ok (.iload_n 3, 1) := by decide +kernel
theorem dX12_setsWay_41 : decode cX12_setsWay 41 = .ok (.invokevirtual 223, 3) := by decide +kernel
theorem dX12_setsWay_44 : decode cX12_setsWay 44 = .ok (.ifCond .eq 11, 3) := by decide +kernel
theorem dX12_setsWay_47 : decode cX12_setsWay 47 = .ok (.aload_n 0, 1) := by decide +kernel
theorem dX12_setsWay_48 : decode cX12_setsWay 48 = .ok (.iload_n 3, 1) := by decide +kernel
theorem dX12_setsWay_49 : decode cX12_setsWay 49 = .ok (.invokevirtual 181, 3) := by decide +kernel
theorem dX12_setsWay_52 : decode cX12_setsWay 52 = .ok (.goto 4, 3) := by decide +kernel
theorem dX12_setsWay_55 : decode cX12_setsWay 55 = .ok (.iconst 1, 1) := by decide +kernel
theorem dX12_setsWay_56 : decode cX12_setsWay 56 = .ok (.idiv, 1) := by decide +kernel
theorem dX12_setsWay_57 : decode cX12_setsWay 57 = .ok (.istore_n 2, 1) := by decide +kernel
theorem dX12_setsWay_58 : decode cX12_setsWay 58 = .ok (.iinc 3 (-1), 3) := by decide +kernel
theorem dX12_setsWay_61 : decode cX12_setsWay 61 = .ok (.goto (-52), 3) := by decide +kernel
theorem dX12_setsWay_64 : decode cX12_setsWay 64 = .ok (.return_, 1) := by decide +kernel


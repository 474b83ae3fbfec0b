theorem m_fl_RX12_166 : Cond.fieldLink RX12 166 (TX12 11).1 (TX12 11).2.1 (TX12 11).2.2.1 ∈ zT := zmem1 zsub_6 6 (by decide +kernel) (by decide +kernel)
theorem m_fl_RX12_169 : Cond.fieldLink RX12 169 (TX12 12).1 (TX12 12).2.1 (TX12 12).2.2.1 ∈ zT := zmem1 zsub_6 7 (by decide +kernel) (by decide +kernel)
theorem m_fl_RX12_172 : Cond.fieldLink RX12 172 (TX12 13).1 (TX12 13).2.1 (TX12 13).2.2.1 ∈ zT := zmem1 zsub_6 8 (by decide +kernel) (by decide +kernel)
theorem m_co_X12_isInn : Cond.code yX12_isInn cX12_isInn 2 (some .boolean) ∈ zT := zmem1 zsub_7 31 (by decide +kernel) (by decide +kernel)
theorem m_ml_RX12_178 : Cond.methodLink RX12 178 yX12_isInn ∈ zT := zmem1 zsub_7 28 (by decide +kernel) (by decide +kernel)
theorem m_im_X12_isInn : Cond.instanceMethod yX12_isInn ∈ zT := zmem1 zsub_7 30 (by decide +kernel) (by decide +kernel)
theorem m_se_X12_isInn : Cond.selects RX12 yX12_isInn yX12_isInn ∈ zT := zmem 68 (by decide +kernel) (by decide +kernel)
theorem m_co_X12_roadsOf : Cond.code yX12_roadsOf cX12_roadsOf 2 (some .int) ∈ zT := zmem1 zsub_7 7 (by decide +kernel) (by decide +kernel)
theorem m_ml_RX12_181 : Cond.methodLink RX12 181 yX12_roadsOf ∈ zT := zmem1 zsub_7 4 (by decide +kernel) (by decide +kernel)
theorem m_im_X12_roadsOf : Cond.instanceMethod yX12_roadsOf ∈ zT := zmem1 zsub_7 6 (by decide +kernel) (by decide +kernel)
theorem m_se_X12_roadsOf : Cond.selects RX12 yX12_roadsOf yX12_roadsOf ∈ zT := zmem 63 (by decide +kernel) (by decide +kernel)
theorem kV_RX12_178 {R : Room} {s : State} {args : Array Value} {d mc ms : Nat} (hts : ∀ w ∈ zT, w.before args s = true) (h1 : d + 1 ≤ R.frames) (h2 : 8 + (2 + 11) + 40 * d ≤ R.locals) : CallW R s args RX12 RX12 178 yX12_isInn cX12_isInn 2 (some .boolean) (zW yX12_isInn cX12_isInn 2 (some .boolean)) (zR d mc ms) mc ms 1 := z_cwV hts m_co_X12_isInn m_ml_RX12_178 m_im_X12_isInn m_se_X12_isInn m_ii_RX12 (by decide +kernel) h1 h2
theorem kV_RX12_181 {R : Room} {s : State} {args : Array Value} {d mc ms : Nat} (hts : ∀ w ∈ zT, w.before args s = true) (h1 : d + 1 ≤ R.frames) (h2 : 8 + (2 + 11) + 40 * d ≤ R.locals) : CallW R s args RX12 RX12 181 yX12_roadsOf cX12_roadsOf 2 (some .int) (zW yX12_roadsOf cX12_roadsOf 2 (some .int)) (zR d mc ms) mc ms 1 := z_cwV hts m_co_X12_roadsOf m_ml_RX12_181 m_im_X12_roadsOf m_se_X12_roadsOf m_ii_RX12 (by decide +kernel) h1 h2
theorem dX12_roadsOf_0 : decode cX12_roadsOf 0 = .ok (.aload_n 0, 1) := by decide +kernel
theorem dX12_roadsOf_1 : decode cX12_roadsOf 1 = .ok (.getfield 7, 3) := by decide +kernel
theorem dX12_roadsOf_4 : decode cX12_roadsOf 4 = .ok (.aload_n 0, 1) := by decide +kernel
theorem dX12_roadsOf_5 : decode cX12_roadsOf 5 = .ok (.getfield 166, 3) := by decide +kernel
theorem dX12_roadsOf_8 : decode cX12_roadsOf 8 = .ok (.iconst 2, 1) := by decide +kernel
theorem dX12_roadsOf_9 : decode cX12_roadsOf 9 = .ok (.iadd, 1) := by decide +kernel
theorem dX12_roadsOf_10 : decode cX12_roadsOf 10 = .ok (.iload_n 1, 1) := by decide +kernel
theorem dX12_roadsOf_11 : decode cX12_roadsOf 11 = .ok (.iadd, 1) := by decide +kernel
theorem dX12_roadsOf_12 : decode cX12_roadsOf 12 = .ok (.iaload, 1) := by decide +kernel
theorem dX12_roadsOf_13 : decode cX12_roadsOf 13 = .ok (.ireturn, 1) := by decide +kernel
theorem dX12_postTold_0 : decode cX12_postTold 0 = .ok (.aload_n 0, 1) := by decide +kernel
theorem dX12_postTold_1 : decode cX12_postTold 1 = .ok (.getfield 7, 3) := by decide +kernel
theorem dX12_postTold_4 : decode cX12_postTold 4 = .ok (.aload_n 0, 1) := by decide +kernel
theorem dX12_postTold_5 : decode cX12_postTold 5 = .ok (.getfield 166, 3) := by decide +kernel
theorem dX12_postTold_8 : decode cX12_postTold 8 = .ok (.bipush 9, 2) := by decide +kernel
theorem dX12_postTold_10 : decode cX12_postTold 10 = .ok (.iadd, 1) := by decide +kernel
theorem dX12_postTold_11 : decode cX12_postTold 11 = .ok (.iload_n 1, 1) := by decide +kernel
theorem dX12_postTold_12 : decode cX12_postTold 12 = .ok (.iadd, 1) := by decide +kernel
theorem dX12_postTold_13 : decode cX12_postTold 13 = .ok (.iaload, 1) := by decide +kernel
theorem dX12_postTold_14 : decode cX12_postTold 14 = .ok (.ireturn, 1) := by decide +kernel
theorem dX12_leadsTo_0 : decode cX12_leadsTo 0 = .ok (.aload_n 0, 1) := by decide +kernel
theorem dX12_leadsTo_1 : decode cX12_leadsTo 1 = .ok (.getfield 7, 3) := by decide +kernel
theorem dX12_leadsTo_4 : decode cX12_leadsTo 4 = .ok (.aload_n 0, 1) := by decide +kernel
theorem dX12_leadsTo_5 : decode cX12_leadsTo 5 = .ok (.getfield 166, 3) := by decide +kernel
theorem dX12_leadsTo_8 : decode cX12_leadsTo 8 = .ok (.bipush 23, 2) := by decide +kernel
theorem dX12_leadsTo_10 : decode cX12_leadsTo 10 = .ok (.iadd, 1) := by decide +kernel
theorem dX12_leadsTo_11 : decode cX12_leadsTo 11 = .ok (.iconst 4, 1) := by decide +kernel
theorem dX12_leadsTo_12 : decode cX12_leadsTo 12 = .ok (.iload_n 1, 1) := by decide +kernel
theorem dX12_leadsTo_13 : decode cX12_leadsTo 13 = .ok (.imul, 1) := by decide +kernel
theorem dX12_leadsTo_14 : decode cX12_leadsTo 14 = .ok (.iadd, 1) := by decide +kernel
theorem dX12_leadsTo_15 : decode cX12_leadsTo 15 = .ok (.iload_n 2, 1) := by decide +kernel
theorem dX12_leadsTo_16 : decode cX12_leadsTo 16 = .ok (.iadd, 1) := by decide +kernel
theorem dX12_leadsTo_17 : decode cX12_leadsTo 17 = .ok (.iaload, 1) := by decide +kernel
theorem dX12_leadsTo_18 : decode cX12_leadsTo 18 = .ok (.ireturn, 1) := by decide +kernel
theorem dX12_isCrossing_0 : decode cX12_isCrossing 0 = .ok (.iload_n 1, 1) := by decide +kernel
theorem dX12_isCrossing_1 : decode cX12_isCrossing 1 = .ok (.iconst 0, 1) := by decide +kernel
theorem dX12_isCrossing_2 : decode cX12_isCrossing 2 = .ok (.aload_n 0, 1) := by decide +kernel
theorem dX12_isCrossing_3 : decode cX12_isCrossing 3 = .ok (.getfield 169, 3) := by decide +kernel
theorem dX12_isCrossing_6 : decode cX12_isCrossing 6 = .ok (.iconst 1, 1) := by decide +kernel
theorem dX12_isCrossing_7 : decode cX12_isCrossing 7 = .ok (.isub, 1) := by decide +kernel
theorem dX12_isCrossing_8 : decode cX12_isCrossing 8 = .ok (.invokestatic 111, 3) := by decide +kernel
theorem dX12_isCrossing_11 : decode cX12_isCrossing 11 = .ok (.ireturn, 1) := by decide +kernel
theorem dX12_isInn_0 : decode cX12_isInn 0 = .ok (.aload_n 0, 1) := by decide +kernel
theorem dX12_isInn_1 : decode cX12_isInn 1 = .ok (.getfield 172, 3) := by decide +kernel
theorem dX12_isInn_4 : decode cX12_isInn 4 = .ok (.iload_n 1, 1) := by decide +kernel
theorem dX12_isInn_5 : decode cX12_isInn 5 = .ok (.ishr, 1) := by decide +kernel
theorem dX12_isInn_6 : decode cX12_isInn 6 = .ok (.iconst 1, 1) := by decide +kernel
theorem dX12_isInn_7 : decode cX12_isInn 7 = .ok (.iand, 1) := by decide +kernel
theorem dX12_isInn_8 : decode cX12_isInn 8 = .ok (.iconst 1, 1) := by decide +kernel
theorem dX12_isInn_9 : decode cX12_isInn 9 = .ok (.if_icmp .ne 7, 3) := by decide +kernel
theorem dX12_isInn_12 : decode cX12_isInn 12 = .ok (.iconst 1, 1) := by decide +kernel
theorem dX12_isInn_13 : decode cX12_isInn 13 = .ok (.goto 4, 3) := by decide +kernel
theorem dX12_isInn_16 : decode cX12_isInn 16 = .ok (.iconst 0, 1) := by decide +kernel
theorem dX12_isInn_17 : decode cX12_isInn 17 = .ok (.ireturn, 1) := by decide +kernel
theorem dX12_isFree_0 : decode cX12_isFree 0 = .ok (.aload_n 0, 1) := by decide +kernel
theorem dX12_isFree_1 : decode cX12_isFree 1 = .ok (.iload_n 1, 1) := by decide +kernel
theorem dX12_isFree_2 : decode cX12_isFree 2 = .ok (.invokevirtual 178, 3) := by decide +kernel
theorem dX12_isFree_5 : decode cX12_isFree 5 = .ok (.ifCond .ne 15, 3) := by decide +kernel
theorem dX12_isFree_8 : decode cX12_isFree 8 = .ok (.aload_n 0, 1) := by decide +kernel
theorem dX12_isFree_9 : decode cX12_isFree 9 = .ok (.iload_n 1, 1) := by decide +kernel
theorem dX12_isFree_10 : decode cX12_isFree 10 = .ok (.invokevirtual 181, 3) := by decide +kernel
theorem dX12_isFree_13 : decode cX12_isFree 13 = .ok (.ifCond .le 7, 3) := by decide +kernel
theorem dX12_isFree_16 : decode cX12_isFree 16 = .ok (.iconst 1, 1) := by decide +kernel
theorem dX12_isFree_17 : decode cX12_isFree 17 = .ok (.goto 4, 3) := by decide +kernel
theorem dX12_isFree_20 : decode cX12_isFree 20 = .ok (.iconst 0, 1) := by decide +kernel
theorem dX12_isFree_21 : decode cX12_isFree 21 = .ok (.ireturn, 1) := by decide +kernel


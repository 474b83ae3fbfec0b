theorem m_fl_RX9_44 : Cond.fieldLink RX9 44 (TX9 1).1 (TX9 1).2.1 (TX9 1).2.2.1 ∈ zT := zmem1 zsub_1 131 (by decide +kernel) (by decide +kernel)
theorem dX9_append_0 : decode cX9_append 0 = .ok (.bipush 24, 2) := by decide +kernel
theorem dX9_append_2 : decode cX9_append 2 = .ok (.istore_n 2, 1) := by decide +kernel
theorem dX9_append_3 : decode cX9_append 3 = .ok (.iload_n 2, 1) := by decide +kernel
theorem dX9_append_4 : decode cX9_append 4 = .ok (.ifCond .lt 42, 3) := by decide +kernel
theorem dX9_append_7 : decode cX9_append 7 = .ok (.aload_n 0, 1) := by decide +kernel
theorem dX9_append_8 : decode cX9_append 8 = .ok (.getfield 44, 3) := by decide +kernel
theorem dX9_append_11 : decode cX9_append 11 = .ok (.sipush 600, 3) := by decide +kernel
theorem dX9_append_14 : decode cX9_append 14 = .ok (.if_icmp .ge 26, 3) := by decide +kernel
theorem dX9_append_17 : decode cX9_append 17 = .ok (.aload_n 0, 1) := by decide +kernel
theorem dX9_append_18 : decode cX9_append 18 = .ok (.getfield 9, 3) := by decide +kernel
theorem dX9_append_21 : decode cX9_append 21 = .ok (.aload_n 0, 1) := by decide +kernel
theorem dX9_append_22 : decode cX9_append 22 = .ok (.getfield 44, 3) := by decide +kernel
theorem dX9_append_25 : decode cX9_append 25 = .ok (.iload_n 1, 1) := by decide +kernel
theorem dX9_append_26 : decode cX9_append 26 = .ok (.iload_n 2, 1) := by decide +kernel
theorem dX9_append_27 : decode cX9_append 27 = .ok (.ishr, 1) := by decide +kernel
theorem dX9_append_28 : decode cX9_append 28 = .ok (.i2b, 1) := by decide +kernel
theorem dX9_append_29 : decode cX9_append 29 = .ok (.bastore, 1) := by decide +kernel
theorem dX9_append_30 : decode cX9_append 30 = .ok (.aload_n 0, 1) := by decide +kernel
theorem dX9_append_31 : decode cX9_append 31 = .ok (.dup, 1) := by decide +kernel
theorem dX9_append_32 : decode cX9_append 32 = .ok (.getfield 44, 3) := by decide +kernel
theorem dX9_append_35 : decode cX9_append 35 = .ok (.iconst 1, 1) := by decide +kernel
theorem dX9_append_36 : decode cX9_append 36 = .ok (.iadd, 1) := by decide +kernel
theorem dX9_append_37 : decode cX9_append 37 = .ok (.putfield 44, 3) := by decide +kernel
theorem dX9_append_40 : decode cX9_append 40 = .ok (.iinc 2 (-8), 3) := by decide +kernel
theorem dX9_append_43 : decode cX9_append 43 = .ok (.goto (-40), 3) := by decide +kernel
theorem dX9_append_46 : decode cX9_append 46 = .ok (.return_, 1) := by decide +kernel
theorem dX9_placeFor_0 : decode cX9_placeFor 0 = .ok (.iload_n 1, 1) := by decide +kernel
theorem dX9_placeFor_1 : decode cX9_placeFor 1 = .ok (.ifCond .lt 8, 3) := by decide +kernel
theorem dX9_placeFor_4 : decode cX9_placeFor 4 = .ok (.iload_n 1, 1) := by decide +kernel
theorem dX9_placeFor_5 : decode cX9_placeFor 5 = .ok (.iconst 2, 1) := by decide +kernel
theorem dX9_placeFor_6 : decode cX9_placeFor 6 = .ok (.if_icmp .le 6, 3) := by decide +kernel
theorem dX9_placeFor_9 : decode cX9_placeFor 9 = .ok (.bipush (-2), 2) := by decide +kernel
theorem dX9_placeFor_11 : decode cX9_placeFor 11 = .ok (.ireturn, 1) := by decide +kernel
theorem dX9_placeFor_12 : decode cX9_placeFor 12 = .ok (.iload_n 2, 1) := by decide +kernel
theorem dX9_placeFor_13 : decode cX9_placeFor 13 = .ok (.iconst (-1), 1) := by decide +kernel
theorem dX9_placeFor_14 : decode cX9_placeFor 14 = .ok (.if_icmp .ne 25, 3) := by decide +kernel
theorem dX9_placeFor_17 : decode cX9_placeFor 17 = .ok (.aload_n 0, 1) := by decide +kernel
theorem dX9_placeFor_18 : decode cX9_placeFor 18 = .ok (.getfield 19, 3) := by decide +kernel
theorem dX9_placeFor_21 : decode cX9_placeFor 21 = .ok (.iload_n 1, 1) := by decide +kernel
theorem dX9_placeFor_22 : decode cX9_placeFor 22 = .ok (.iaload, 1) := by decide +kernel
theorem dX9_placeFor_23 : decode cX9_placeFor 23 = .ok (.iconst 2, 1) := by decide +kernel
theorem dX9_placeFor_24 : decode cX9_placeFor 24 = .ok (.if_icmp .ge 12, 3) := by decide +kernel
theorem dX9_placeFor_27 : decode cX9_placeFor 27 = .ok (.aload_n 0, 1) := by decide +kernel
theorem dX9_placeFor_28 : decode cX9_placeFor 28 = .ok (.getfield 19, 3) := by decide +kernel
theorem dX9_placeFor_31 : decode cX9_placeFor 31 = .ok (.iload_n 1, 1) := by decide +kernel
theorem dX9_placeFor_32 : decode cX9_placeFor 32 = .ok (.iaload, 1) := by decide +kernel
theorem dX9_placeFor_33 : decode cX9_placeFor 33 = .ok (.goto 5, 3) := by decide +kernel
theorem dX9_placeFor_36 : decode cX9_placeFor 36 = .ok (.bipush (-2), 2) := by decide +kernel
theorem dX9_placeFor_38 : decode cX9_placeFor 38 = .ok (.ireturn, 1) := by decide +kernel
theorem dX9_placeFor_39 : decode cX9_placeFor 39 = .ok (.iload_n 2, 1) := by decide +kernel
theorem dX9_placeFor_40 : decode cX9_placeFor 40 = .ok (.ifCond .lt 17, 3) := by decide +kernel
theorem dX9_placeFor_43 : decode cX9_placeFor 43 = .ok (.iload_n 2, 1) := by decide +kernel
theorem dX9_placeFor_44 : decode cX9_placeFor 44 = .ok (.aload_n 0, 1) := by decide +kernel
theorem dX9_placeFor_45 : decode cX9_placeFor 45 = .ok (.getfield 19, 3) := by decide +kernel
theorem dX9_placeFor_48 : decode cX9_placeFor 48 = .ok (.iload_n 1, 1) := by decide +kernel
theorem dX9_placeFor_49 : decode cX9_placeFor 49 = .ok (.iaload, 1) := by decide +kernel
theorem dX9_placeFor_50 : decode cX9_placeFor 50 = .ok (.if_icmp .ge 7, 3) := by decide +kernel
theorem dX9_placeFor_53 : decode cX9_placeFor 53 = .ok (.iload_n 2, 1) := by decide +kernel
theorem dX9_placeFor_54 : decode cX9_placeFor 54 = .ok (.goto 5, 3) := by decide +kernel
theorem dX9_placeFor_57 : decode cX9_placeFor 57 = .ok (.bipush (-2), 2) := by decide +kernel
theorem dX9_placeFor_59 : decode cX9_placeFor 59 = .ok (.ireturn, 1) := by decide +kernel
theorem dX9_landAt_0 : decode cX9_landAt 0 = .ok (.iload_n 1, 1) := by decide +kernel
theorem dX9_landAt_1 : decode cX9_landAt 1 = .ok (.ifCond .lt 27, 3) := by decide +kernel
theorem dX9_landAt_4 : decode cX9_landAt 4 = .ok (.iload_n 1, 1) := by decide +kernel
theorem dX9_landAt_5 : decode cX9_landAt 5 = .ok (.aload_n 0, 1) := by decide +kernel
theorem dX9_landAt_6 : decode cX9_landAt 6 = .ok (.getfield 19, 3) := by decide +kernel
theorem dX9_landAt_9 : decode cX9_landAt 9 = .ok (.iconst 0, 1) := by decide +kernel
theorem dX9_landAt_10 : decode cX9_landAt 10 = .ok (.iaload, 1) := by decide +kernel
theorem dX9_landAt_11 : decode cX9_landAt 11 = .ok (.if_icmp .ge 17, 3) := by decide +kernel
theorem dX9_landAt_14 : decode cX9_landAt 14 = .ok (.iload_n 1, 1) := by decide +kernel
theorem dX9_landAt_15 : decode cX9_landAt 15 = .ok (.iconst 2, 1) := by decide +kernel
theorem dX9_landAt_16 : decode cX9_landAt 16 = .ok (.if_icmp .ge 12, 3) := by decide +kernel
theorem dX9_landAt_19 : decode cX9_landAt 19 = .ok (.aload_n 0, 1) := by decide +kernel
theorem dX9_landAt_20 : decode cX9_landAt 20 = .ok (.getfield 26, 3) := by decide +kernel
theorem dX9_landAt_23 : decode cX9_landAt 23 = .ok (.iload_n 1, 1) := by decide +kernel
theorem dX9_landAt_24 : decode cX9_landAt 24 = .ok (.aaload, 1) := by decide +kernel
theorem dX9_landAt_25 : decode cX9_landAt 25 = .ok (.goto 4, 3) := by decide +kernel
theorem dX9_landAt_28 : decode cX9_landAt 28 = .ok (.aconst_null, 1) := by decide +kernel
theorem dX9_landAt_29 : decode cX9_landAt 29 = .ok (.areturn, 1) := by decide +kernel
theorem dX9_dayAt_0 : decode cX9_dayAt 0 = .ok (.iload_n 1, 1) := by decide +kernel
theorem dX9_dayAt_1 : decode cX9_dayAt 1 = .ok (.ifCond .lt 27, 3) := by decide +kernel
theorem dX9_dayAt_4 : decode cX9_dayAt 4 = .ok (.iload_n 1, 1) := by decide +kernel
theorem dX9_dayAt_5 : decode cX9_dayAt 5 = .ok (.aload_n 0, 1) := by decide +kernel
theorem dX9_dayAt_6 : decode cX9_dayAt 6 = .ok (.getfield 19, 3) := by decide +kernel
theorem dX9_dayAt_9 : decode cX9_dayAt 9 = .ok (.iconst 1, 1) := by decide +kernel
theorem dX9_dayAt_10 : decode cX9_dayAt 10 = .ok (.iaload, 1) := by decide +kernel
theorem dX9_dayAt_11 : decode cX9_dayAt 11 = .ok (.if_icmp .ge 17, 3) := by decide +kernel
theorem dX9_dayAt_14 : decode cX9_dayAt 14 = .ok (.iload_n 1, 1) := by decide +kernel
theorem dX9_dayAt_15 : decode cX9_dayAt 15 = .ok (.iconst 2, 1) := by decide +kernel
theorem dX9_dayAt_16 : decode cX9_dayAt 16 = .ok (.if_icmp .ge 12, 3) := by decide +kernel
theorem dX9_dayAt_19 : decode cX9_dayAt 19 = .ok (.aload_n 0, 1) := by decide +kernel
theorem dX9_dayAt_20 : decode cX9_dayAt 20 = .ok (.getfield 33, 3) := by decide +kernel
theorem dX9_dayAt_23 : decode cX9_dayAt 23 = .ok (.iload_n 1, 1) := by decide +kernel
theorem dX9_dayAt_24 : decode cX9_dayAt 24 = .ok (.aaload, 1) := by decide +kernel
theorem dX9_dayAt_25 : decode cX9_dayAt 25 = .ok (.goto 4, 3) := by decide +kernel
theorem dX9_dayAt_28 : decode cX9_dayAt 28 = .ok (.aconst_null, 1) := by decide +kernel
theorem dX9_dayAt_29 : decode cX9_dayAt 29 = .ok (.areturn, 1) := by decide +kernel
theorem dX9_logAt_0 : decode cX9_logAt 0 = .ok (.iload_n 1, 1) := by decide +kernel
theorem dX9_logAt_1 : decode cX9_logAt 1 = .ok (.ifCond .lt 27, 3) := by decide +kernel
theorem dX9_logAt_4 : decode cX9_logAt 4 = .ok (.iload_n 1, 1) := by decide +kernel
theorem dX9_logAt_5 : decode cX9_logAt 5 = .ok (.aload_n 0, 1) := by decide +kernel
theorem dX9_logAt_6 : decode cX9_logAt 6 = .ok (.getfield 19, 3) := by decide +kernel
theorem dX9_logAt_9 : decode cX9_logAt 9 = .ok (.iconst 2, 1) := by decide +kernel
theorem dX9_logAt_10 : decode cX9_logAt 10 = .ok (.iaload, 1) := by decide +kernel
theorem dX9_logAt_11 : decode cX9_logAt 11 = .ok (.if_icmp .ge 17, 3) := by decide +kernel
theorem dX9_logAt_14 : decode cX9_logAt 14 = .ok (.iload_n 1, 1) := by decide +kernel
theorem dX9_logAt_15 : decode cX9_logAt 15 = .ok (.iconst 2, 1) := by decide +kernel
theorem dX9_logAt_16 : decode cX9_logAt 16 = .ok (.if_icmp .ge 12, 3) := by decide +kernel
theorem dX9_logAt_19 : decode cX9_logAt 19 = .ok (.aload_n 0, 1) := by decide +kernel
theorem dX9_logAt_20 : decode cX9_logAt 20 = .ok (.getfield 40, 3) := by decide +kernel
theorem dX9_logAt_23 : decode cX9_logAt 23 = .ok (.iload_n 1, 1) := by decide +kernel
theorem dX9_logAt_24 : decode cX9_logAt 24 = .ok (.aaload, 1) := by decide +kernel
theorem dX9_logAt_25 : decode cX9_logAt 25 = .ok (.goto 4, 3) := by decide +kernel
theorem dX9_logAt_28 : decode cX9_logAt 28 = .ok (.aconst_null, 1) := by decide +kernel
theorem dX9_logAt_29 : decode cX9_logAt 29 = .ok (.areturn, 1) := by decide +kernel


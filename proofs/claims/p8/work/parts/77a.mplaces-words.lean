theorem dX12_placeOf_0 : decode cX12_placeOf 0 = .ok (.iload_n 0, 1) := by decide +kernel
theorem dX12_placeOf_1 : decode cX12_placeOf 1 = .ok (.ifCond .ne 14, 3) := by decide +kernel
theorem dX12_placeOf_4 : decode cX12_placeOf 4 = .ok (.sipush 610, 3) := by decide +kernel
theorem dX12_placeOf_7 : decode cX12_placeOf 7 = .ok (.bipush 51, 2) := by decide +kernel
theorem dX12_placeOf_9 : decode cX12_placeOf 9 = .ok (.iload_n 1, 1) := by decide +kernel
theorem dX12_placeOf_10 : decode cX12_placeOf 10 = .ok (.imul, 1) := by decide +kernel
theorem dX12_placeOf_11 : decode cX12_placeOf 11 = .ok (.iadd, 1) := by decide +kernel
theorem dX12_placeOf_12 : decode cX12_placeOf 12 = .ok (.goto 27, 3) := by decide +kernel
theorem dX12_placeOf_15 : decode cX12_placeOf 15 = .ok (.iload_n 0, 1) := by decide +kernel
theorem dX12_placeOf_16 : decode cX12_placeOf 16 = .ok (.iconst 1, 1) := by decide +kernel
theorem dX12_placeOf_17 : decode cX12_placeOf 17 = .ok (.if_icmp .ne 14, 3) := by decide +kernel
theorem dX12_placeOf_20 : decode cX12_placeOf 20 = .ok (.sipush 712, 3) := by decide +kernel
theorem dX12_placeOf_23 : decode cX12_placeOf 23 = .ok (.bipush 121, 2) := by decide +kernel
theorem dX12_placeOf_25 : decode cX12_placeOf 25 = .ok (.iload_n 1, 1) := by decide +kernel
theorem dX12_placeOf_26 : decode cX12_placeOf 26 = .ok (.imul, 1) := by decide +kernel
theorem dX12_placeOf_27 : decode cX12_placeOf 27 = .ok (.iadd, 1) := by decide +kernel
theorem dX12_placeOf_28 : decode cX12_placeOf 28 = .ok (.goto 11, 3) := by decide +kernel
theorem dX12_placeOf_31 : decode cX12_placeOf 31 = .ok (.sipush 954, 3) := by decide +kernel
theorem dX12_placeOf_34 : decode cX12_placeOf 34 = .ok (.bipush 17, 2) := by decide +kernel
theorem dX12_placeOf_36 : decode cX12_placeOf 36 = .ok (.iload_n 1, 1) := by decide +kernel
theorem dX12_placeOf_37 : decode cX12_placeOf 37 = .ok (.imul, 1) := by decide +kernel
theorem dX12_placeOf_38 : decode cX12_placeOf 38 = .ok (.iadd, 1) := by decide +kernel
theorem dX12_placeOf_39 : decode cX12_placeOf 39 = .ok (.ireturn, 1) := by decide +kernel
theorem dX12_sizeOf_0 : decode cX12_sizeOf 0 = .ok (.iload_n 0, 1) := by decide +kernel
theorem dX12_sizeOf_1 : decode cX12_sizeOf 1 = .ok (.ifCond .ne 8, 3) := by decide +kernel
theorem dX12_sizeOf_4 : decode cX12_sizeOf 4 = .ok (.bipush 51, 2) := by decide +kernel
theorem dX12_sizeOf_6 : decode cX12_sizeOf 6 = .ok (.goto 15, 3) := by decide +kernel
theorem dX12_sizeOf_9 : decode cX12_sizeOf 9 = .ok (.iload_n 0, 1) := by decide +kernel
theorem dX12_sizeOf_10 : decode cX12_sizeOf 10 = .ok (.iconst 1, 1) := by decide +kernel
theorem dX12_sizeOf_11 : decode cX12_sizeOf 11 = .ok (.if_icmp .ne 8, 3) := by decide +kernel
theorem dX12_sizeOf_14 : decode cX12_sizeOf 14 = .ok (.bipush 121, 2) := by decide +kernel
theorem dX12_sizeOf_16 : decode cX12_sizeOf 16 = .ok (.goto 5, 3) := by decide +kernel
theorem dX12_sizeOf_19 : decode cX12_sizeOf 19 = .ok (.bipush 17, 2) := by decide +kernel
theorem dX12_sizeOf_21 : decode cX12_sizeOf 21 = .ok (.ireturn, 1) := by decide +kernel
theorem dX12_isOf_0 : decode cX12_isOf 0 = .ok (.iload_n 2, 1) := by decide +kernel
theorem dX12_isOf_1 : decode cX12_isOf 1 = .ok (.iconst 0, 1) := by decide +kernel
theorem dX12_isOf_2 : decode cX12_isOf 2 = .ok (.aload_n 0, 1) := by decide +kernel
theorem dX12_isOf_3 : decode cX12_isOf 3 = .ok (.getfield 7, 3) := by decide +kernel
theorem dX12_isOf_6 : decode cX12_isOf 6 = .ok (.iload_n 1, 1) := by decide +kernel
theorem dX12_isOf_7 : decode cX12_isOf 7 = .ok (.iaload, 1) := by decide +kernel
theorem dX12_isOf_8 : decode cX12_isOf 8 = .ok (.iconst 1, 1) := by decide +kernel
theorem dX12_isOf_9 : decode cX12_isOf 9 = .ok (.isub, 1) := by decide +kernel
theorem dX12_isOf_10 : decode cX12_isOf 10 = .ok (.invokestatic 111, 3) := by decide +kernel
theorem dX12_isOf_13 : decode cX12_isOf 13 = .ok (.ireturn, 1) := by decide +kernel
theorem dX12_postsAreThere_0 : decode cX12_postsAreThere 0 = .ok (.iconst 1, 1) := by decide +kernel
theorem dX12_postsAreThere_1 : decode cX12_postsAreThere 1 = .ok (.istore_n 1, 1) := by decide +kernel
theorem dX12_postsAreThere_2 : decode cX12_postsAreThere 2 = .ok (.iconst 0, 1) := by decide +kernel
theorem dX12_postsAreThere_3 : decode cX12_postsAreThere 3 = .ok (.istore_n 2, 1) := by decide +kernel
theorem dX12_postsAreThere_4 : decode cX12_postsAreThere 4 = .ok (.iload_n 2, 1) := by decide +kernel
theorem dX12_postsAreThere_5 : decode cX12_postsAreThere 5 = .ok (.bipush 7, 2) := by decide +kernel
theorem dX12_postsAreThere_7 : decode cX12_postsAreThere 7 = .ok (.if_icmp .ge 51, 3) := by decide +kernel
theorem dX12_postsAreThere_10 : decode cX12_postsAreThere 10 = .ok (.iload_n 1, 1) := by decide +kernel
theorem dX12_postsAreThere_11 : decode cX12_postsAreThere 11 = .ok (.ifCond .eq 39, 3) := by decide +kernel
theorem dX12_postsAreThere_14 : decode cX12_postsAreThere 14 = .ok (.aload_n 0, 1) := by decide +kernel
theorem dX12_postsAreThere_15 : decode cX12_postsAreThere 15 = .ok (.getfield 17, 3) := by decide +kernel
theorem dX12_postsAreThere_18 : decode cX12_postsAreThere 18 = .ok (.bipush 9, 2) := by decide +kernel
theorem dX12_postsAreThere_20 : decode cX12_postsAreThere 20 = .ok (.iload_n 2, 1) := by decide +kernel
theorem dX12_postsAreThere_21 : decode cX12_postsAreThere 21 = .ok (.iadd, 1) := by decide +kernel
theorem dX12_postsAreThere_22 : decode cX12_postsAreThere 22 = .ok (.iaload, 1) := by decide +kernel
theorem dX12_postsAreThere_23 : decode cX12_postsAreThere 23 = .ok (.ifCond .eq 23, 3) := by decide +kernel
theorem dX12_postsAreThere_26 : decode cX12_postsAreThere 26 = .ok (.aload_n 0, 1) := by decide +kernel
theorem dX12_postsAreThere_27 : decode cX12_postsAreThere 27 = .ok (.getfield 17, 3) := by decide +kernel
theorem dX12_postsAreThere_30 : decode cX12_postsAreThere 30 = .ok (.bipush 9, 2) := by decide +kernel
theorem dX12_postsAreThere_32 : decode cX12_postsAreThere 32 = .ok (.iload_n 2, 1) := by decide +kernel
theorem dX12_postsAreThere_33 : decode cX12_postsAreThere 33 = .ok (.iadd, 1) := by decide +kernel
theorem dX12_postsAreThere_34 : decode cX12_postsAreThere 34 = .ok (.iaload, 1) := by decide +kernel
theorem dX12_postsAreThere_35 : decode cX12_postsAreThere 35 = .ok (.aload_n 0, 1) := by decide +kernel
theorem dX12_postsAreThere_36 : decode cX12_postsAreThere 36 = .ok (.getfield 17, 3) := by decide +kernel
theorem dX12_postsAreThere_39 : decode cX12_postsAreThere 39 = .ok (.iconst 2, 1) := by decide +kernel
theorem dX12_postsAreThere_40 : decode cX12_postsAreThere 40 = .ok (.iload_n 2, 1) := by decide +kernel
theorem dX12_postsAreThere_41 : decode cX12_postsAreThere 41 = .ok (.iadd, 1) := by decide +kernel
theorem dX12_postsAreThere_42 : decode cX12_postsAreThere 42 = .ok (.iaload, 1) := by decide +kernel
theorem dX12_postsAreThere_43 : decode cX12_postsAreThere 43 = .ok (.if_icmp .ge 7, 3) := by decide +kernel
theorem dX12_postsAreThere_46 : decode cX12_postsAreThere 46 = .ok (.iconst 1, 1) := by decide +kernel
theorem dX12_postsAreThere_47 : decode cX12_postsAreThere 47 = .ok (.goto 4, 3) := by decide +kernel
theorem dX12_postsAreThere_50 : decode cX12_postsAreThere 50 = .ok (.iconst 0, 1) := by decide +kernel
theorem dX12_postsAreThere_51 : decode cX12_postsAreThere 51 = .ok (.istore_n 1, 1) := by decide +kernel
theorem dX12_postsAreThere_52 : decode cX12_postsAreThere 52 = .ok (.iinc 2 1, 3) := by decide +kernel
theorem dX12_postsAreThere_55 : decode cX12_postsAreThere 55 = .ok (.goto (-51), 3) := by decide +kernel
theorem dX12_postsAreThere_58 : decode cX12_postsAreThere 58 = .ok (.iload_n 1, 1) := by decide +kernel
theorem dX12_postsAreThere_59 : decode cX12_postsAreThere 59 = .ok (.ireturn, 1) := by decide +kernel


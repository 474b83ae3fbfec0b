theorem m_ml_RX1_29 : Cond.methodLink RX1 29 yX6_begin ∈ zT := zmem1 zsub_4 5 (by decide +kernel) (by decide +kernel)
theorem m_co_X1_lookAtCrowd : Cond.code yX1_lookAtCrowd cX1_lookAtCrowd 2 none ∈ zT := zmem1 zsub_4 16 (by decide +kernel) (by decide +kernel)
theorem m_ml_RX1_56 : Cond.methodLink RX1 56 yX1_lookAtCrowd ∈ zT := zmem1 zsub_4 13 (by decide +kernel) (by decide +kernel)
theorem m_im_X1_lookAtCrowd : Cond.instanceMethod yX1_lookAtCrowd ∈ zT := zmem1 zsub_4 15 (by decide +kernel) (by decide +kernel)
theorem m_se_X1_lookAtCrowd : Cond.selects RX1 yX1_lookAtCrowd yX1_lookAtCrowd ∈ zT := zmem 17 (by decide +kernel) (by decide +kernel)
theorem m_fl_RX1_33 : Cond.fieldLink RX1 33 (TX4 5).1 (TX4 5).2.1 (TX4 5).2.2.1 ∈ zT := zmem1 zsub_1 64 (by decide +kernel) (by decide +kernel)
theorem m_co_X1_go : Cond.code yX1_go cX1_go 3 (some .boolean) ∈ zT := zmem1 zsub_4 29 (by decide +kernel) (by decide +kernel)
theorem m_ml_RX1_96 : Cond.methodLink RX1 96 yX1_go ∈ zT := zmem1 zsub_4 26 (by decide +kernel) (by decide +kernel)
theorem m_im_X1_go : Cond.instanceMethod yX1_go ∈ zT := zmem1 zsub_4 28 (by decide +kernel) (by decide +kernel)
theorem m_se_X1_go : Cond.selects RX1 yX1_go yX1_go ∈ zT := zmem 19 (by decide +kernel) (by decide +kernel)
theorem m_co_X1_run : Cond.code yX1_run cX1_run 2 (some .boolean) ∈ zT := zmem1 zsub_4 46 (by decide +kernel) (by decide +kernel)
theorem m_ml_RX1_92 : Cond.methodLink RX1 92 yX1_run ∈ zT := zmem1 zsub_4 43 (by decide +kernel) (by decide +kernel)
theorem m_im_X1_run : Cond.instanceMethod yX1_run ∈ zT := zmem1 zsub_4 45 (by decide +kernel) (by decide +kernel)
theorem m_se_X1_run : Cond.selects RX1 yX1_run yX1_run ∈ zT := zmem 21 (by decide +kernel) (by decide +kernel)
theorem m_ml_RX1_99 : Cond.methodLink RX1 99 yX6_turn ∈ zT := zmem1 zsub_4 52 (by decide +kernel) (by decide +kernel)
theorem m_co_X1_add : Cond.code yX1_add cX1_add 2 (some .boolean) ∈ zT := zmem1 zsub_4 56 (by decide +kernel) (by decide +kernel)
theorem m_ml_RX1_102 : Cond.methodLink RX1 102 yX1_add ∈ zT := zmem1 zsub_4 53 (by decide +kernel) (by decide +kernel)
theorem m_im_X1_add : Cond.instanceMethod yX1_add ∈ zT := zmem1 zsub_4 55 (by decide +kernel) (by decide +kernel)
theorem m_se_X1_add : Cond.selects RX1 yX1_add yX1_add ∈ zT := zmem 22 (by decide +kernel) (by decide +kernel)
theorem m_co_X1_shut : Cond.code yX1_shut cX1_shut 4 (some .boolean) ∈ zT := zmem1 zsub_4 60 (by decide +kernel) (by decide +kernel)
theorem m_ml_RX1_105 : Cond.methodLink RX1 105 yX1_shut ∈ zT := zmem1 zsub_4 57 (by decide +kernel) (by decide +kernel)
theorem m_im_X1_shut : Cond.instanceMethod yX1_shut ∈ zT := zmem1 zsub_4 59 (by decide +kernel) (by decide +kernel)
theorem m_se_X1_shut : Cond.selects RX1 yX1_shut yX1_shut ∈ zT := zmem 23 (by decide +kernel) (by decide +kernel)
theorem m_co_X1_open : Cond.code yX1_open cX1_open 4 (some .boolean) ∈ zT := zmem1 zsub_4 74 (by decide +kernel) (by decide +kernel)
theorem m_ml_RX1_109 : Cond.methodLink RX1 109 yX1_open ∈ zT := zmem1 zsub_4 71 (by decide +kernel) (by decide +kernel)
theorem m_im_X1_open : Cond.instanceMethod yX1_open ∈ zT := zmem1 zsub_4 73 (by decide +kernel) (by decide +kernel)
theorem m_se_X1_open : Cond.selects RX1 yX1_open yX1_open ∈ zT := zmem 24 (by decide +kernel) (by decide +kernel)
theorem m_co_X1_begin : Cond.code yX1_begin cX1_begin 3 none ∈ zT := zmem1 zsub_4 4 (by decide +kernel) (by decide +kernel)
theorem m_ml_RX1_59 : Cond.methodLink RX1 59 yX1_begin ∈ zT := zmem1 zsub_4 1 (by decide +kernel) (by decide +kernel)
theorem m_im_X1_begin : Cond.instanceMethod yX1_begin ∈ zT := zmem1 zsub_4 3 (by decide +kernel) (by decide +kernel)
theorem m_se_X1_begin : Cond.selects RX1 yX1_begin yX1_begin ∈ zT := zmem 16 (by decide +kernel) (by decide +kernel)
theorem m_fl_RX1_60 : Cond.fieldLink RX1 60 (TX2 0).1 (TX2 0).2.1 (TX2 0).2.2.1 ∈ zT := zmem1 zsub_1 90 (by decide +kernel) (by decide +kernel)
theorem m_fl_RX1_65 : Cond.fieldLink RX1 65 (TX2 1).1 (TX2 1).2.1 (TX2 1).2.2.1 ∈ zT := zmem1 zsub_1 93 (by decide +kernel) (by decide +kernel)
theorem m_fl_RX1_68 : Cond.fieldLink RX1 68 (TX2 2).1 (TX2 2).2.1 (TX2 2).2.2.1 ∈ zT := zmem1 zsub_1 95 (by decide +kernel) (by decide +kernel)
theorem m_fl_RX1_71 : Cond.fieldLink RX1 71 (TX2 3).1 (TX2 3).2.1 (TX2 3).2.2.1 ∈ zT := zmem1 zsub_1 97 (by decide +kernel) (by decide +kernel)
theorem m_co_X1_does : Cond.code yX1_does cX1_does 5 (some .boolean) ∈ zT := zmem1 zsub_4 25 (by decide +kernel) (by decide +kernel)
theorem m_ml_RX1_74 : Cond.methodLink RX1 74 yX1_does ∈ zT := zmem1 zsub_4 22 (by decide +kernel) (by decide +kernel)
theorem m_im_X1_does : Cond.instanceMethod yX1_does ∈ zT := zmem1 zsub_4 24 (by decide +kernel) (by decide +kernel)
theorem m_se_X1_does : Cond.selects RX1 yX1_does yX1_does ∈ zT := zmem 18 (by decide +kernel) (by decide +kernel)
theorem kV_RX1_29 {R : Room} {s : State} {args : Array Value} {d mc ms : Nat} (hts : ∀ w ∈ zT, w.before args s = true) (h1 : d + 1 ≤ R.frames) (h2 : 8 + (3 + 11) + 40 * d ≤ R.locals) : CallW R s args RX1 RX6 29 yX6_begin cX6_begin 3 none (zW yX6_begin cX6_begin 3 none) (zR d mc ms) mc ms 1 := z_cwV hts m_co_X6_begin m_ml_RX1_29 m_im_X6_begin m_se_X6_begin m_ii_RX6 (by decide +kernel) h1 h2
theorem kV_RX1_56 {R : Room} {s : State} {args : Array Value} {d mc ms : Nat} (hts : ∀ w ∈ zT, w.before args s = true) (h1 : d + 1 ≤ R.frames) (h2 : 8 + (2 + 11) + 40 * d ≤ R.locals) : CallW R s args RX1 RX1 56 yX1_lookAtCrowd cX1_lookAtCrowd 2 none (zW yX1_lookAtCrowd cX1_lookAtCrowd 2 none) (zR d mc ms) mc ms 0 := z_cwV hts m_co_X1_lookAtCrowd m_ml_RX1_56 m_im_X1_lookAtCrowd m_se_X1_lookAtCrowd m_ii_RX1 (by decide +kernel) h1 h2
theorem kV_RX1_96 {R : Room} {s : State} {args : Array Value} {d mc ms : Nat} (hts : ∀ w ∈ zT, w.before args s = true) (h1 : d + 1 ≤ R.frames) (h2 : 8 + (3 + 11) + 40 * d ≤ R.locals) : CallW R s args RX1 RX1 96 yX1_go cX1_go 3 (some .boolean) (zW yX1_go cX1_go 3 (some .boolean)) (zR d mc ms) mc ms 1 := z_cwV hts m_co_X1_go m_ml_RX1_96 m_im_X1_go m_se_X1_go m_ii_RX1 (by decide +kernel) h1 h2
theorem kV_RX1_92 {R : Room} {s : State} {args : Array Value} {d mc ms : Nat} (hts : ∀ w ∈ zT, w.before args s = true) (h1 : d + 1 ≤ R.frames) (h2 : 8 + (2 + 11) + 40 * d ≤ R.locals) : CallW R s args RX1 RX1 92 yX1_run cX1_run 2 (some .boolean) (zW yX1_run cX1_run 2 (some .boolean)) (zR d mc ms) mc ms 1 := z_cwV hts m_co_X1_run m_ml_RX1_92 m_im_X1_run m_se_X1_run m_ii_RX1 (by decide +kernel) h1 h2
theorem kV_RX1_99 {R : Room} {s : State} {args : Array Value} {d mc ms : Nat} (hts : ∀ w ∈ zT, w.before args s = true) (h1 : d + 1 ≤ R.frames) (h2 : 8 + (6 + 11) + 40 * d ≤ R.locals) : CallW R s args RX1 RX6 99 yX6_turn cX6_turn 6 (some .int) (zW yX6_turn cX6_turn 6 (some .int)) (zR d mc ms) mc ms 1 := z_cwV hts m_co_X6_turn m_ml_RX1_99 m_im_X6_turn m_se_X6_turn m_ii_RX6 (by decide +kernel) h1 h2
theorem kV_RX1_102 {R : Room} {s : State} {args : Array Value} {d mc ms : Nat} (hts : ∀ w ∈ zT, w.before args s = true) (h1 : d + 1 ≤ R.frames) (h2 : 8 + (2 + 11) + 40 * d ≤ R.locals) : CallW R s args RX1 RX1 102 yX1_add cX1_add 2 (some .boolean) (zW yX1_add cX1_add 2 (some .boolean)) (zR d mc ms) mc ms 1 := z_cwV hts m_co_X1_add m_ml_RX1_102 m_im_X1_add m_se_X1_add m_ii_RX1 (by decide +kernel) h1 h2
theorem kV_RX1_105 {R : Room} {s : State} {args : Array Value} {d mc ms : Nat} (hts : ∀ w ∈ zT, w.before args s = true) (h1 : d + 1 ≤ R.frames) (h2 : 8 + (4 + 11) + 40 * d ≤ R.locals) : CallW R s args RX1 RX1 105 yX1_shut cX1_shut 4 (some .boolean) (zW yX1_shut cX1_shut 4 (some .boolean)) (zR d mc ms) mc ms 2 := z_cwV hts m_co_X1_shut m_ml_RX1_105 m_im_X1_shut m_se_X1_shut m_ii_RX1 (by decide +kernel) h1 h2
theorem kV_RX1_109 {R : Room} {s : State} {args : Array Value} {d mc ms : Nat} (hts : ∀ w ∈ zT, w.before args s = true) (h1 : d + 1 ≤ R.frames) (h2 : 8 + (4 + 11) + 40 * d ≤ R.locals) : CallW R s args RX1 RX1 109 yX1_open cX1_open 4 (some .boolean) (zW yX1_open cX1_open 4 (some .boolean)) (zR d mc ms) mc ms 2 := z_cwV hts m_co_X1_open m_ml_RX1_109 m_im_X1_open m_se_X1_open m_ii_RX1 (by decide +kernel) h1 h2
theorem kV_RX1_59 {R : Room} {s : State} {args : Array Value} {d mc ms : Nat} (hts : ∀ w ∈ zT, w.before args s = true) (h1 : d + 1 ≤ R.frames) (h2 : 8 + (3 + 11) + 40 * d ≤ R.locals) : CallW R s args RX1 RX1 59 yX1_begin cX1_begin 3 none (zW yX1_begin cX1_begin 3 none) (zR d mc ms) mc ms 1 := z_cwV hts m_co_X1_begin m_ml_RX1_59 m_im_X1_begin m_se_X1_begin m_ii_RX1 (by decide +kernel) h1 h2
theorem kV_RX1_74 {R : Room} {s : State} {args : Array Value} {d mc ms : Nat} (hts : ∀ w ∈ zT, w.before args s = true) (h1 : d + 1 ≤ R.frames) (h2 : 8 + (5 + 11) + 40 * d ≤ R.locals) : CallW R s args RX1 RX1 74 yX1_does cX1_does 5 (some .boolean) (zW yX1_does cX1_does 5 (some .boolean)) (zR d mc ms) mc ms 3 := z_cwV hts m_co_X1_does m_ml_RX1_74 m_im_X1_does m_se_X1_does m_ii_RX1 (by decide +kernel) h1 h2
theorem dX1_begin_0 : decode cX1_begin 0 = .ok (.aload_n 0, 1) := by decide +kernel
theorem dX1_begin_1 : decode cX1_begin 1 = .ok (.aload_n 1, 1) := by decide +kernel
theorem dX1_begin_2 : decode cX1_begin 2 = .ok (.putfield 25, 3) := by decide +kernel
theorem dX1_begin_5 : decode cX1_begin 5 = .ok (.aload_n 0, 1) := by decide +kernel
theorem dX1_begin_6 : decode cX1_begin 6 = .ok (.getfield 12, 3) := by decide +kernel
theorem dX1_begin_9 : decode cX1_begin 9 = .ok (.aload_n 1, 1) := by decide +kernel
theorem dX1_begin_10 : decode cX1_begin 10 = .ok (.invokevirtual 29, 3) := by decide +kernel
theorem dX1_begin_13 : decode cX1_begin 13 = .ok (.iconst 0, 1) := by decide +kernel
theorem dX1_begin_14 : decode cX1_begin 14 = .ok (.istore_n 2, 1) := by decide +kernel
theorem dX1_begin_15 : decode cX1_begin 15 = .ok (.iload_n 2, 1) := by decide +kernel
theorem dX1_begin_16 : decode cX1_begin 16 = .ok (.bipush 7, 2) := by decide +kernel
theorem dX1_begin_18 : decode cX1_begin 18 = .ok (.if_icmp .ge 21, 3) := by decide +kernel
theorem dX1_begin_21 : decode cX1_begin 21 = .ok (.aload_n 0, 1) := by decide +kernel
theorem dX1_begin_22 : decode cX1_begin 22 = .ok (.getfield 18, 3) := by decide +kernel
theorem dX1_begin_25 : decode cX1_begin 25 = .ok (.iload_n 2, 1) := by decide +kernel
theorem dX1_begin_26 : decode cX1_begin 26 = .ok (.aload_n 1, 1) := by decide +kernel
theorem dX1_begin_27 : decode cX1_begin 27 = .ok (.getfield 33, 3) := by decide +kernel
theorem dX1_begin_30 : decode cX1_begin 30 = .ok (.iload_n 2, 1) := by decide +kernel
theorem dX1_begin_31 : decode cX1_begin 31 = .ok (.iaload, 1) := by decide +kernel
theorem dX1_begin_32 : decode cX1_begin 32 = .ok (.iastore, 1) := by decide +kernel
theorem dX1_begin_33 : decode cX1_begin 33 = .ok (.iinc 2 1, 3) := by decide +kernel
theorem dX1_begin_36 : decode cX1_begin 36 = .ok (.goto (-21), 3) := by decide +kernel
theorem dX1_begin_39 : decode cX1_begin 39 = .ok (.aload_n 0, 1) := by decide +kernel
theorem dX1_begin_40 : decode cX1_begin 40 = .ok (.iconst 0, 1) := by decide +kernel
theorem dX1_begin_41 : decode cX1_begin 41 = .ok (.putfield 34, 3) := by decide +kernel
theorem dX1_begin_44 : decode cX1_begin 44 = .ok (.aload_n 0, 1) := by decide +kernel
theorem dX1_begin_45 : decode cX1_begin 45 = .ok (.iconst 0, 1) := by decide +kernel
theorem dX1_begin_46 : decode cX1_begin 46 = .ok (.putfield 38, 3) := by decide +kernel
theorem dX1_begin_49 : decode cX1_begin 49 = .ok (.aload_n 0, 1) := by decide +kernel
theorem dX1_begin_50 : decode cX1_begin 50 = .ok (.iconst 0, 1) := by decide +kernel
theorem dX1_begin_51 : decode cX1_begin 51 = .ok (.putfield 41, 3) := by decide +kernel
theorem dX1_begin_54 : decode cX1_begin 54 = .ok (.aload_n 0, 1) := by decide +kernel
theorem dX1_begin_55 : decode cX1_begin 55 = .ok (.iconst (-1), 1) := by decide +kernel
theorem dX1_begin_56 : decode cX1_begin 56 = .ok (.putfield 44, 3) := by decide +kernel
theorem dX1_begin_59 : decode cX1_begin 59 = .ok (.aload_n 0, 1) := by decide +kernel
theorem dX1_begin_60 : decode cX1_begin 60 = .ok (.iconst 0, 1) := by decide +kernel
theorem dX1_begin_61 : decode cX1_begin 61 = .ok (.putfield 47, 3) := by decide +kernel
theorem dX1_begin_64 : decode cX1_begin 64 = .ok (.aload_n 0, 1) := by decide +kernel
theorem dX1_begin_65 : decode cX1_begin 65 = .ok (.iconst 0, 1) := by decide +kernel
theorem dX1_begin_66 : decode cX1_begin 66 = .ok (.putfield 50, 3) := by decide +kernel
theorem dX1_begin_69 : decode cX1_begin 69 = .ok (.aload_n 0, 1) := by decide +kernel
theorem dX1_begin_70 : decode cX1_begin 70 = .ok (.iconst 0, 1) := by decide +kernel
theorem dX1_begin_71 : decode cX1_begin 71 = .ok (.putfield 53, 3) := by decide +kernel
theorem dX1_begin_74 : decode cX1_begin 74 = .ok (.aload_n 0, 1) := by decide +kernel
theorem dX1_begin_75 : decode cX1_begin 75 = .ok (.invokevirtual 56, 3) := by decide +kernel
theorem dX1_begin_78 : decode cX1_begin 78 = .ok (.return_, 1) := by decide +kernel
theorem dX1_does_0 : decode cX1_does 0 = .ok (.iload_n 1, 1) := by decide +kernel
theorem dX1_does_1 : decode cX1_does 1 = .ok (.tableswitch 113 0 5 #[39, 49, 59, 81, 91, 102], 39) := by decide +kernel
theorem dX1_does_40 : decode cX1_does 40 = .ok (.aload_n 0, 1) := by decide +kernel
theorem dX1_does_41 : decode cX1_does 41 = .ok (.iload_n 2, 1) := by decide +kernel
theorem dX1_does_42 : decode cX1_does 42 = .ok (.invokevirtual 96, 3) := by decide +kernel
theorem dX1_does_45 : decode cX1_does 45 = .ok (.istore 4, 2) := by decide +kernel
theorem dX1_does_47 : decode cX1_does 47 = .ok (.goto 70, 3) := by decide +kernel
theorem dX1_does_50 : decode cX1_does 50 = .ok (.aload_n 0, 1) := by decide +kernel
theorem dX1_does_51 : decode cX1_does 51 = .ok (.iload_n 2, 1) := by decide +kernel
theorem dX1_does_52 : decode cX1_does 52 = .ok (.invokevirtual 92, 3) := by decide +kernel
theorem dX1_does_55 : decode cX1_does 55 = .ok (.istore 4, 2) := by decide +kernel
theorem dX1_does_57 : decode cX1_does 57 = .ok (.goto 60, 3) := by decide +kernel
theorem dX1_does_60 : decode cX1_does 60 = .ok (.aload_n 0, 1) := by decide +kernel
theorem dX1_does_61 : decode cX1_does 61 = .ok (.getfield 12, 3) := by decide +kernel
theorem dX1_does_64 : decode cX1_does 64 = .ok (.iload_n 2, 1) := by decide +kernel
theorem dX1_does_65 : decode cX1_does 65 = .ok (.invokevirtual 99, 3) := by decide +kernel
theorem dX1_does_68 : decode cX1_does 68 = .ok (.iconst (-1), 1) := by decide +kernel
theorem dX1_does_69 : decode cX1_does 69 = .ok (.if_icmp .eq 7, 3) := by decide +kernel
theorem dX1_does_72 : decode cX1_does 72 = .ok (.iconst 1, 1) := by decide +kernel
theorem dX1_does_73 : decode cX1_does 73 = .ok (.goto 4, 3) := by decide +kernel
theorem dX1_does_76 : decode cX1_does 76 = .ok (.iconst 0, 1) := by decide +kernel
theorem dX1_does_77 : decode cX1_does 77 = .ok (.istore 4, 2) := by decide +kernel
theorem dX1_does_79 : decode cX1_does 79 = .ok (.goto 38, 3) := by decide +kernel
theorem dX1_does_82 : decode cX1_does 82 = .ok (.aload_n 0, 1) := by decide +kernel
theorem dX1_does_83 : decode cX1_does 83 = .ok (.iload_n 2, 1) := by decide +kernel
theorem dX1_does_84 : decode cX1_does 84 = .ok (.invokevirtual 102, 3) := by decide +kernel
theorem dX1_does_87 : decode cX1_does 87 = .ok (.istore 4, 2) := by decide +kernel
theorem dX1_does_89 : decode cX1_does 89 = .ok (.goto 28, 3) := by decide +kernel
theorem dX1_does_92 : decode cX1_does 92 = .ok (.aload_n 0, 1) := by decide +kernel
theorem dX1_does_93 : decode cX1_does 93 = .ok (.iload_n 2, 1) := by decide +kernel
theorem dX1_does_94 : decode cX1_does 94 = .ok (.iload_n 3, 1) := by decide +kernel
theorem dX1_does_95 : decode cX1_does 95 = .ok (.invokevirtual 105, 3) := by decide +kernel
theorem dX1_does_98 : decode cX1_does 98 = .ok (.istore 4, 2) := by decide +kernel
theorem dX1_does_100 : decode cX1_does 100 = .ok (.goto 17, 3) := by decide +kernel
theorem dX1_does_103 : decode cX1_does 103 = .ok (.aload_n 0, 1) := by decide +kernel
theorem dX1_does_104 : decode cX1_does 104 = .ok (.iload_n 2, 1) := by decide +kernel
theorem dX1_does_105 : decode cX1_does 105 = .ok (.iload_n 3, 1) := by decide +kernel
theorem dX1_does_106 : decode cX1_does 106 = .ok (.invokevirtual 109, 3) := by decide +kernel
theorem dX1_does_109 : decode cX1_does 109 = .ok (.istore 4, 2) := by decide +kernel
theorem dX1_does_111 : decode cX1_does 111 = .ok (.goto 6, 3) := by decide +kernel
theorem dX1_does_114 : decode cX1_does 114 = .ok (.iconst 0, 1) := by decide +kernel
theorem dX1_does_115 : decode cX1_does 115 = .ok (.istore 4, 2) := by decide +kernel
theorem dX1_does_117 : decode cX1_does 117 = .ok (.iload 4, 2) := by decide +kernel
theorem dX1_does_119 : decode cX1_does 119 = .ok (.ifCond .eq 17, 3) := by decide +kernel
theorem dX1_does_122 : decode cX1_does 122 = .ok (.aload_n 0, 1) := by decide +kernel
theorem dX1_does_123 : decode cX1_does 123 = .ok (.dup, 1) := by decide +kernel
theorem dX1_does_124 : decode cX1_does 124 = .ok (.getfield 41, 3) := by decide +kernel
theorem dX1_does_127 : decode cX1_does 127 = .ok (.iconst 1, 1) := by decide +kernel
theorem dX1_does_128 : decode cX1_does 128 = .ok (.iadd, 1) := by decide +kernel
theorem dX1_does_129 : decode cX1_does 129 = .ok (.putfield 41, 3) := by decide +kernel
theorem dX1_does_132 : decode cX1_does 132 = .ok (.aload_n 0, 1) := by decide +kernel
theorem dX1_does_133 : decode cX1_does 133 = .ok (.invokevirtual 56, 3) := by decide +kernel
theorem dX1_does_136 : decode cX1_does 136 = .ok (.iload 4, 2) := by decide +kernel
theorem dX1_does_138 : decode cX1_does 138 = .ok (.ireturn, 1) := by decide +kernel
theorem dX1_goThrough_0 : decode cX1_goThrough 0 = .ok (.aload_n 0, 1) := by decide +kernel
theorem dX1_goThrough_1 : decode cX1_goThrough 1 = .ok (.aload_n 1, 1) := by decide +kernel
theorem dX1_goThrough_2 : decode cX1_goThrough 2 = .ok (.invokevirtual 59, 3) := by decide +kernel
theorem dX1_goThrough_5 : decode cX1_goThrough 5 = .ok (.iconst 0, 1) := by decide +kernel
theorem dX1_goThrough_6 : decode cX1_goThrough 6 = .ok (.istore 4, 2) := by decide +kernel
theorem dX1_goThrough_8 : decode cX1_goThrough 8 = .ok (.iload 4, 2) := by decide +kernel
theorem dX1_goThrough_10 : decode cX1_goThrough 10 = .ok (.iload_n 3, 1) := by decide +kernel
theorem dX1_goThrough_11 : decode cX1_goThrough 11 = .ok (.if_icmp .ge 58, 3) := by decide +kernel
theorem dX1_goThrough_14 : decode cX1_goThrough 14 = .ok (.iload 4, 2) := by decide +kernel
theorem dX1_goThrough_16 : decode cX1_goThrough 16 = .ok (.aload_n 2, 1) := by decide +kernel
theorem dX1_goThrough_17 : decode cX1_goThrough 17 = .ok (.getfield 60, 3) := by decide +kernel
theorem dX1_goThrough_20 : decode cX1_goThrough 20 = .ok (.if_icmp .ge 49, 3) := by decide +kernel
theorem dX1_goThrough_23 : decode cX1_goThrough 23 = .ok (.iload 4, 2) := by decide +kernel
theorem dX1_goThrough_25 : decode cX1_goThrough 25 = .ok (.bipush 40, 2) := by decide +kernel
theorem dX1_goThrough_27 : decode cX1_goThrough 27 = .ok (.if_icmp .ge 42, 3) := by decide +kernel
theorem dX1_goThrough_30 : decode cX1_goThrough 30 = .ok (.aload_n 0, 1) := by decide +kernel
theorem dX1_goThrough_31 : decode cX1_goThrough 31 = .ok (.aload_n 2, 1) := by decide +kernel
theorem dX1_goThrough_32 : decode cX1_goThrough 32 = .ok (.getfield 65, 3) := by decide +kernel
theorem dX1_goThrough_35 : decode cX1_goThrough 35 = .ok (.iload 4, 2) := by decide +kernel
theorem dX1_goThrough_37 : decode cX1_goThrough 37 = .ok (.iaload, 1) := by decide +kernel
theorem dX1_goThrough_38 : decode cX1_goThrough 38 = .ok (.aload_n 2, 1) := by decide +kernel
theorem dX1_goThrough_39 : decode cX1_goThrough 39 = .ok (.getfield 68, 3) := by decide +kernel
theorem dX1_goThrough_42 : decode cX1_goThrough 42 = .ok (.iload 4, 2) := by decide +kernel
theorem dX1_goThrough_44 : decode cX1_goThrough 44 = .ok (.iaload, 1) := by decide +kernel
theorem dX1_goThrough_45 : decode cX1_goThrough 45 = .ok (.aload_n 2, 1) := by decide +kernel
theorem dX1_goThrough_46 : decode cX1_goThrough 46 = .ok (.getfield 71, 3) := by decide +kernel
theorem dX1_goThrough_49 : decode cX1_goThrough 49 = .ok (.iload 4, 2) := by decide +kernel
theorem dX1_goThrough_51 : decode cX1_goThrough 51 = .ok (.iaload, 1) := by decide +kernel
theorem dX1_goThrough_52 : decode cX1_goThrough 52 = .ok (.invokevirtual 74, 3) := by decide +kernel
theorem dX1_goThrough_55 : decode cX1_goThrough 55 = .ok (.ifCond .ne 8, 3) := by decide +kernel
theorem dX1_goThrough_58 : decode cX1_goThrough 58 = .ok (.aload_n 0, 1) := by decide +kernel
theorem dX1_goThrough_59 : decode cX1_goThrough 59 = .ok (.getfield 41, 3) := by decide +kernel
theorem dX1_goThrough_62 : decode cX1_goThrough 62 = .ok (.ireturn, 1) := by decide +kernel
theorem dX1_goThrough_63 : decode cX1_goThrough 63 = .ok (.iinc 4 1, 3) := by decide +kernel
theorem dX1_goThrough_66 : decode cX1_goThrough 66 = .ok (.goto (-58), 3) := by decide +kernel
theorem dX1_goThrough_69 : decode cX1_goThrough 69 = .ok (.aload_n 0, 1) := by decide +kernel
theorem dX1_goThrough_70 : decode cX1_goThrough 70 = .ok (.getfield 41, 3) := by decide +kernel
theorem dX1_goThrough_73 : decode cX1_goThrough 73 = .ok (.ireturn, 1) := by decide +kernel
theorem dX1_goAll_0 : decode cX1_goAll 0 = .ok (.aload_n 0, 1) := by decide +kernel
theorem dX1_goAll_1 : decode cX1_goAll 1 = .ok (.aload_n 1, 1) := by decide +kernel
theorem dX1_goAll_2 : decode cX1_goAll 2 = .ok (.invokevirtual 59, 3) := by decide +kernel
theorem dX1_goAll_5 : decode cX1_goAll 5 = .ok (.iconst 0, 1) := by decide +kernel
theorem dX1_goAll_6 : decode cX1_goAll 6 = .ok (.istore_n 2, 1) := by decide +kernel
theorem dX1_goAll_7 : decode cX1_goAll 7 = .ok (.iload_n 2, 1) := by decide +kernel
theorem dX1_goAll_8 : decode cX1_goAll 8 = .ok (.aload_n 1, 1) := by decide +kernel
theorem dX1_goAll_9 : decode cX1_goAll 9 = .ok (.getfield 88, 3) := by decide +kernel
theorem dX1_goAll_12 : decode cX1_goAll 12 = .ok (.if_icmp .ge 39, 3) := by decide +kernel
theorem dX1_goAll_15 : decode cX1_goAll 15 = .ok (.iload_n 2, 1) := by decide +kernel
theorem dX1_goAll_16 : decode cX1_goAll 16 = .ok (.bipush 7, 2) := by decide +kernel
theorem dX1_goAll_18 : decode cX1_goAll 18 = .ok (.if_icmp .ge 33, 3) := by decide +kernel
theorem dX1_goAll_21 : decode cX1_goAll 21 = .ok (.iconst 0, 1) := by decide +kernel
theorem dX1_goAll_22 : decode cX1_goAll 22 = .ok (.istore_n 3, 1) := by decide +kernel
theorem dX1_goAll_23 : decode cX1_goAll 23 = .ok (.iload_n 3, 1) := by decide +kernel
theorem dX1_goAll_24 : decode cX1_goAll 24 = .ok (.aload_n 1, 1) := by decide +kernel
theorem dX1_goAll_25 : decode cX1_goAll 25 = .ok (.getfield 33, 3) := by decide +kernel
theorem dX1_goAll_28 : decode cX1_goAll 28 = .ok (.iload_n 2, 1) := by decide +kernel
theorem dX1_goAll_29 : decode cX1_goAll 29 = .ok (.iaload, 1) := by decide +kernel
theorem dX1_goAll_30 : decode cX1_goAll 30 = .ok (.if_icmp .ge 15, 3) := by decide +kernel
theorem dX1_goAll_33 : decode cX1_goAll 33 = .ok (.aload_n 0, 1) := by decide +kernel
theorem dX1_goAll_34 : decode cX1_goAll 34 = .ok (.iload_n 2, 1) := by decide +kernel
theorem dX1_goAll_35 : decode cX1_goAll 35 = .ok (.invokevirtual 92, 3) := by decide +kernel
theorem dX1_goAll_38 : decode cX1_goAll 38 = .ok (.pop, 1) := by decide +kernel
theorem dX1_goAll_39 : decode cX1_goAll 39 = .ok (.iinc 3 1, 3) := by decide +kernel
theorem dX1_goAll_42 : decode cX1_goAll 42 = .ok (.goto (-19), 3) := by decide +kernel
theorem dX1_goAll_45 : decode cX1_goAll 45 = .ok (.iinc 2 1, 3) := by decide +kernel
theorem dX1_goAll_48 : decode cX1_goAll 48 = .ok (.goto (-41), 3) := by decide +kernel
theorem dX1_goAll_51 : decode cX1_goAll 51 = .ok (.return_, 1) := by decide +kernel


theorem m_ml_RX1_29 : Cond.methodLink RX1 29 yX6_begin ∈ zT := zmem1 zsub_4 5 rfl rfl
theorem m_co_X1_lookAtCrowd : Cond.code yX1_lookAtCrowd cX1_lookAtCrowd 2 none ∈ zT := zmem1 zsub_4 16 rfl rfl
theorem m_ml_RX1_56 : Cond.methodLink RX1 56 yX1_lookAtCrowd ∈ zT := zmem1 zsub_4 13 rfl rfl
theorem m_im_X1_lookAtCrowd : Cond.instanceMethod yX1_lookAtCrowd ∈ zT := zmem1 zsub_4 15 rfl rfl
theorem m_se_X1_lookAtCrowd : Cond.selects RX1 yX1_lookAtCrowd yX1_lookAtCrowd ∈ zT := zmem 17 rfl rfl
theorem m_fl_RX1_33 : Cond.fieldLink RX1 33 (TX4 5).1 (TX4 5).2.1 (TX4 5).2.2.1 ∈ zT := zmem1 zsub_1 64 rfl rfl
theorem m_co_X1_go : Cond.code yX1_go cX1_go 3 (some .boolean) ∈ zT := zmem1 zsub_4 29 rfl rfl
theorem m_ml_RX1_96 : Cond.methodLink RX1 96 yX1_go ∈ zT := zmem1 zsub_4 26 rfl rfl
theorem m_im_X1_go : Cond.instanceMethod yX1_go ∈ zT := zmem1 zsub_4 28 rfl rfl
theorem m_se_X1_go : Cond.selects RX1 yX1_go yX1_go ∈ zT := zmem 19 rfl rfl
theorem m_co_X1_run : Cond.code yX1_run cX1_run 2 (some .boolean) ∈ zT := zmem1 zsub_4 46 rfl rfl
theorem m_ml_RX1_92 : Cond.methodLink RX1 92 yX1_run ∈ zT := zmem1 zsub_4 43 rfl rfl
theorem m_im_X1_run : Cond.instanceMethod yX1_run ∈ zT := zmem1 zsub_4 45 rfl rfl
theorem m_se_X1_run : Cond.selects RX1 yX1_run yX1_run ∈ zT := zmem 21 rfl rfl
theorem m_ml_RX1_99 : Cond.methodLink RX1 99 yX6_turn ∈ zT := zmem1 zsub_4 52 rfl rfl
theorem m_co_X1_add : Cond.code yX1_add cX1_add 2 (some .boolean) ∈ zT := zmem1 zsub_4 56 rfl rfl
theorem m_ml_RX1_102 : Cond.methodLink RX1 102 yX1_add ∈ zT := zmem1 zsub_4 53 rfl rfl
theorem m_im_X1_add : Cond.instanceMethod yX1_add ∈ zT := zmem1 zsub_4 55 rfl rfl
theorem m_se_X1_add : Cond.selects RX1 yX1_add yX1_add ∈ zT := zmem 22 rfl rfl
theorem m_co_X1_shut : Cond.code yX1_shut cX1_shut 4 (some .boolean) ∈ zT := zmem1 zsub_4 60 rfl rfl
theorem m_ml_RX1_105 : Cond.methodLink RX1 105 yX1_shut ∈ zT := zmem1 zsub_4 57 rfl rfl
theorem m_im_X1_shut : Cond.instanceMethod yX1_shut ∈ zT := zmem1 zsub_4 59 rfl rfl
theorem m_se_X1_shut : Cond.selects RX1 yX1_shut yX1_shut ∈ zT := zmem 23 rfl rfl
theorem m_co_X1_open : Cond.code yX1_open cX1_open 4 (some .boolean) ∈ zT := zmem1 zsub_4 74 rfl rfl
theorem m_ml_RX1_109 : Cond.methodLink RX1 109 yX1_open ∈ zT := zmem1 zsub_4 71 rfl rfl
theorem m_im_X1_open : Cond.instanceMethod yX1_open ∈ zT := zmem1 zsub_4 73 rfl rfl
theorem m_se_X1_open : Cond.selects RX1 yX1_open yX1_open ∈ zT := zmem 24 rfl rfl
theorem m_co_X1_begin : Cond.code yX1_begin cX1_begin 3 none ∈ zT := zmem1 zsub_4 4 rfl rfl
theorem m_ml_RX1_59 : Cond.methodLink RX1 59 yX1_begin ∈ zT := zmem1 zsub_4 1 rfl rfl
theorem m_im_X1_begin : Cond.instanceMethod yX1_begin ∈ zT := zmem1 zsub_4 3 rfl rfl
theorem m_se_X1_begin : Cond.selects RX1 yX1_begin yX1_begin ∈ zT := zmem 16 rfl rfl
theorem m_fl_RX1_60 : Cond.fieldLink RX1 60 (TX2 0).1 (TX2 0).2.1 (TX2 0).2.2.1 ∈ zT := zmem1 zsub_1 90 rfl rfl
theorem m_fl_RX1_65 : Cond.fieldLink RX1 65 (TX2 1).1 (TX2 1).2.1 (TX2 1).2.2.1 ∈ zT := zmem1 zsub_1 93 rfl rfl
theorem m_fl_RX1_68 : Cond.fieldLink RX1 68 (TX2 2).1 (TX2 2).2.1 (TX2 2).2.2.1 ∈ zT := zmem1 zsub_1 95 rfl rfl
theorem m_fl_RX1_71 : Cond.fieldLink RX1 71 (TX2 3).1 (TX2 3).2.1 (TX2 3).2.2.1 ∈ zT := zmem1 zsub_1 97 rfl rfl
theorem m_co_X1_does : Cond.code yX1_does cX1_does 5 (some .boolean) ∈ zT := zmem1 zsub_4 25 rfl rfl
theorem m_ml_RX1_74 : Cond.methodLink RX1 74 yX1_does ∈ zT := zmem1 zsub_4 22 rfl rfl
theorem m_im_X1_does : Cond.instanceMethod yX1_does ∈ zT := zmem1 zsub_4 24 rfl rfl
theorem m_se_X1_does : Cond.selects RX1 yX1_does yX1_does ∈ zT := zmem 18 rfl rfl
theorem kV_RX1_29 {R : Room} {s : State} {args : Array Value} {d mc ms : Nat} (hts : ∀ w ∈ zT, w.before args s = true) (h1 : d + 1 ≤ R.frames) (h2 : 8 + (3 + 11) + 40 * d ≤ R.locals) : CallW R s args RX1 RX6 29 yX6_begin cX6_begin 3 none (zW yX6_begin cX6_begin 3 none) (zR d mc ms) mc ms 1 := z_cwV hts m_co_X6_begin m_ml_RX1_29 m_im_X6_begin m_se_X6_begin m_ii_RX6 (by decide +kernel) h1 h2
theorem kV_RX1_56 {R : Room} {s : State} {args : Array Value} {d mc ms : Nat} (hts : ∀ w ∈ zT, w.before args s = true) (h1 : d + 1 ≤ R.frames) (h2 : 8 + (2 + 11) + 40 * d ≤ R.locals) : CallW R s args RX1 RX1 56 yX1_lookAtCrowd cX1_lookAtCrowd 2 none (zW yX1_lookAtCrowd cX1_lookAtCrowd 2 none) (zR d mc ms) mc ms 0 := z_cwV hts m_co_X1_lookAtCrowd m_ml_RX1_56 m_im_X1_lookAtCrowd m_se_X1_lookAtCrowd m_ii_RX1 (by decide +kernel) h1 h2
theorem kV_RX1_96 {R : Room} {s : State} {args : Array Value} {d mc ms : Nat} (hts : ∀ w ∈ zT, w.before args s = true) (h1 : d + 1 ≤ R.frames) (h2 : 8 + (3 + 11) + 40 * d ≤ R.locals) : CallW R s args RX1 RX1 96 yX1_go cX1_go 3 (some .boolean) (zW yX1_go cX1_go 3 (some .boolean)) (zR d mc ms) mc ms 1 := z_cwV hts m_co_X1_go m_ml_RX1_96 m_im_X1_go m_se_X1_go m_ii_RX1 (by decide +kernel) h1 h2
theorem kV_RX1_92 {R : Room} {s : State} {args : Array Value} {d mc ms : Nat} (hts : ∀ w ∈ zT, w.before args s = true) (h1 : d + 1 ≤ R.frames) (h2 : 8 + (2 + 11) + 40 * d ≤ R.locals) : CallW R s args RX1 RX1 92 yX1_run cX1_run 2 (some .boolean) (zW yX1_run cX1_run 2 (some .boolean)) (zR d mc ms) mc ms 1 := z_cwV hts m_co_X1_run m_ml_RX1_92 m_im_X1_run m_se_X1_run m_ii_RX1 (by decide +kernel) h1 h2
theorem kV_RX1_99 {R : Room} {s : State} {args : Array Value} {d mc ms : Nat} (hts : ∀ w ∈ zT, w.before args s = true) (h1 : d + 1 ≤ R.frames) (h2 : 8 + (6 + 11) + 40 * d ≤ R.locals) : CallW R s args RX1 RX6 99 yX6_turn cX6_turn 6 (some .int) (zW yX6_turn cX6_turn 6 (some .int)) (zR d mc ms) mc ms 1 := z_cwV hts m_co_X6_turn m_ml_RX1_99 m_im_X6_turn m_se_X6_turn m_ii_RX6 (by decide +kernel) h1 h2
theorem kV_RX1_102 {R : Room} {s : State} {args : Array Value} {d mc ms : Nat} (hts : ∀ w ∈ zT, w.before args s = true) (h1 : d + 1 ≤ R.frames) (h2 : 8 + (2 + 11) + 40 * d ≤ R.locals) : CallW R s args RX1 RX1 102 yX1_add cX1_add 2 (some .boolean) (zW yX1_add cX1_add 2 (some .boolean)) (zR d mc ms) mc ms 1 := z_cwV hts m_co_X1_add m_ml_RX1_102 m_im_X1_add m_se_X1_add m_ii_RX1 (by decide +kernel) h1 h2
theorem kV_RX1_105 {R : Room} {s : State} {args : Array Value} {d mc ms : Nat} (hts : ∀ w ∈ zT, w.before args s = true) (h1 : d + 1 ≤ R.frames) (h2 : 8 + (4 + 11) + 40 * d ≤ R.locals) : CallW R s args RX1 RX1 105 yX1_shut cX1_shut 4 (some .boolean) (zW yX1_shut cX1_shut 4 (some .boolean)) (zR d mc ms) mc ms 2 := z_cwV hts m_co_X1_shut m_ml_RX1_105 m_im_X1_shut m_se_X1_shut m_ii_RX1 (by decide +kernel) h1 h2
theorem kV_RX1_109 {R : Room} {s : State} {args : Array Value} {d mc ms : Nat} (hts : ∀ w ∈ zT, w.before args s = true) (h1 : d + 1 ≤ R.frames) (h2 : 8 + (4 + 11) + 40 * d ≤ R.locals) : CallW R s args RX1 RX1 109 yX1_open cX1_open 4 (some .boolean) (zW yX1_open cX1_open 4 (some .boolean)) (zR d mc ms) mc ms 2 := z_cwV hts m_co_X1_open m_ml_RX1_109 m_im_X1_open m_se_X1_open m_ii_RX1 (by decide +kernel) h1 h2
theorem kV_RX1_59 {R : Room} {s : State} {args : Array Value} {d mc ms : Nat} (hts : ∀ w ∈ zT, w.before args s = true) (h1 : d + 1 ≤ R.frames) (h2 : 8 + (3 + 11) + 40 * d ≤ R.locals) : CallW R s args RX1 RX1 59 yX1_begin cX1_begin 3 none (zW yX1_begin cX1_begin 3 none) (zR d mc ms) mc ms 1 := z_cwV hts m_co_X1_begin m_ml_RX1_59 m_im_X1_begin m_se_X1_begin m_ii_RX1 (by decide +kernel) h1 h2
theorem kV_RX1_74 {R : Room} {s : State} {args : Array Value} {d mc ms : Nat} (hts : ∀ w ∈ zT, w.before args s = true) (h1 : d + 1 ≤ R.frames) (h2 : 8 + (5 + 11) + 40 * d ≤ R.locals) : CallW R s args RX1 RX1 74 yX1_does cX1_does 5 (some .boolean) (zW yX1_does cX1_does 5 (some .boolean)) (zR d mc ms) mc ms 3 := z_cwV hts m_co_X1_does m_ml_RX1_74 m_im_X1_does m_se_X1_does m_ii_RX1 (by decide +kernel) h1 h2
theorem dX1_begin_0 : decode cX1_begin 0 = .ok (.aload_n 0, 1) := zo_42 (by decide +kernel)
theorem dX1_begin_1 : decode cX1_begin 1 = .ok (.aload_n 1, 1) := zo_43 (by decide +kernel)
theorem dX1_begin_2 : decode cX1_begin 2 = .ok (.putfield 25, 3) := zo_181 (by decide +kernel)
theorem dX1_begin_5 : decode cX1_begin 5 = .ok (.aload_n 0, 1) := zo_42 (by decide +kernel)
theorem dX1_begin_6 : decode cX1_begin 6 = .ok (.getfield 12, 3) := zo_180 (by decide +kernel)
theorem dX1_begin_9 : decode cX1_begin 9 = .ok (.aload_n 1, 1) := zo_43 (by decide +kernel)
theorem dX1_begin_10 : decode cX1_begin 10 = .ok (.invokevirtual 29, 3) := zo_182 (by decide +kernel)
theorem dX1_begin_13 : decode cX1_begin 13 = .ok (.iconst 0, 1) := zo_3 (by decide +kernel)
theorem dX1_begin_14 : decode cX1_begin 14 = .ok (.istore_n 2, 1) := zo_61 (by decide +kernel)
theorem dX1_begin_15 : decode cX1_begin 15 = .ok (.iload_n 2, 1) := zo_28 (by decide +kernel)
theorem dX1_begin_16 : decode cX1_begin 16 = .ok (.bipush 7, 2) := zo_16 (by decide +kernel)
theorem dX1_begin_18 : decode cX1_begin 18 = .ok (.if_icmp .ge 21, 3) := zo_162 (by decide +kernel)
theorem dX1_begin_21 : decode cX1_begin 21 = .ok (.aload_n 0, 1) := zo_42 (by decide +kernel)
theorem dX1_begin_22 : decode cX1_begin 22 = .ok (.getfield 18, 3) := zo_180 (by decide +kernel)
theorem dX1_begin_25 : decode cX1_begin 25 = .ok (.iload_n 2, 1) := zo_28 (by decide +kernel)
theorem dX1_begin_26 : decode cX1_begin 26 = .ok (.aload_n 1, 1) := zo_43 (by decide +kernel)
theorem dX1_begin_27 : decode cX1_begin 27 = .ok (.getfield 33, 3) := zo_180 (by decide +kernel)
theorem dX1_begin_30 : decode cX1_begin 30 = .ok (.iload_n 2, 1) := zo_28 (by decide +kernel)
theorem dX1_begin_31 : decode cX1_begin 31 = .ok (.iaload, 1) := zo_46 (by decide +kernel)
theorem dX1_begin_32 : decode cX1_begin 32 = .ok (.iastore, 1) := zo_79 (by decide +kernel)
theorem dX1_begin_33 : decode cX1_begin 33 = .ok (.iinc 2 1, 3) := zo_132 (by decide +kernel)
theorem dX1_begin_36 : decode cX1_begin 36 = .ok (.goto (-21), 3) := zo_167 (by decide +kernel)
theorem dX1_begin_39 : decode cX1_begin 39 = .ok (.aload_n 0, 1) := zo_42 (by decide +kernel)
theorem dX1_begin_40 : decode cX1_begin 40 = .ok (.iconst 0, 1) := zo_3 (by decide +kernel)
theorem dX1_begin_41 : decode cX1_begin 41 = .ok (.putfield 34, 3) := zo_181 (by decide +kernel)
theorem dX1_begin_44 : decode cX1_begin 44 = .ok (.aload_n 0, 1) := zo_42 (by decide +kernel)
theorem dX1_begin_45 : decode cX1_begin 45 = .ok (.iconst 0, 1) := zo_3 (by decide +kernel)
theorem dX1_begin_46 : decode cX1_begin 46 = .ok (.putfield 38, 3) := zo_181 (by decide +kernel)
theorem dX1_begin_49 : decode cX1_begin 49 = .ok (.aload_n 0, 1) := zo_42 (by decide +kernel)
theorem dX1_begin_50 : decode cX1_begin 50 = .ok (.iconst 0, 1) := zo_3 (by decide +kernel)
theorem dX1_begin_51 : decode cX1_begin 51 = .ok (.putfield 41, 3) := zo_181 (by decide +kernel)
theorem dX1_begin_54 : decode cX1_begin 54 = .ok (.aload_n 0, 1) := zo_42 (by decide +kernel)
theorem dX1_begin_55 : decode cX1_begin 55 = .ok (.iconst (-1), 1) := zo_2 (by decide +kernel)
theorem dX1_begin_56 : decode cX1_begin 56 = .ok (.putfield 44, 3) := zo_181 (by decide +kernel)
theorem dX1_begin_59 : decode cX1_begin 59 = .ok (.aload_n 0, 1) := zo_42 (by decide +kernel)
theorem dX1_begin_60 : decode cX1_begin 60 = .ok (.iconst 0, 1) := zo_3 (by decide +kernel)
theorem dX1_begin_61 : decode cX1_begin 61 = .ok (.putfield 47, 3) := zo_181 (by decide +kernel)
theorem dX1_begin_64 : decode cX1_begin 64 = .ok (.aload_n 0, 1) := zo_42 (by decide +kernel)
theorem dX1_begin_65 : decode cX1_begin 65 = .ok (.iconst 0, 1) := zo_3 (by decide +kernel)
theorem dX1_begin_66 : decode cX1_begin 66 = .ok (.putfield 50, 3) := zo_181 (by decide +kernel)
theorem dX1_begin_69 : decode cX1_begin 69 = .ok (.aload_n 0, 1) := zo_42 (by decide +kernel)
theorem dX1_begin_70 : decode cX1_begin 70 = .ok (.iconst 0, 1) := zo_3 (by decide +kernel)
theorem dX1_begin_71 : decode cX1_begin 71 = .ok (.putfield 53, 3) := zo_181 (by decide +kernel)
theorem dX1_begin_74 : decode cX1_begin 74 = .ok (.aload_n 0, 1) := zo_42 (by decide +kernel)
theorem dX1_begin_75 : decode cX1_begin 75 = .ok (.invokevirtual 56, 3) := zo_182 (by decide +kernel)
theorem dX1_begin_78 : decode cX1_begin 78 = .ok (.return_, 1) := zo_177 (by decide +kernel)
theorem dX1_does_0 : decode cX1_does 0 = .ok (.iload_n 1, 1) := zo_27 (by decide +kernel)
theorem dX1_does_1 : decode cX1_does 1 = .ok (.tableswitch 113 0 5 #[39, 49, 59, 81, 91, 102], 39) := by decide +kernel
theorem dX1_does_40 : decode cX1_does 40 = .ok (.aload_n 0, 1) := zo_42 (by decide +kernel)
theorem dX1_does_41 : decode cX1_does 41 = .ok (.iload_n 2, 1) := zo_28 (by decide +kernel)
theorem dX1_does_42 : decode cX1_does 42 = .ok (.invokevirtual 96, 3) := zo_182 (by decide +kernel)
theorem dX1_does_45 : decode cX1_does 45 = .ok (.istore 4, 2) := zo_54 (by decide +kernel)
theorem dX1_does_47 : decode cX1_does 47 = .ok (.goto 70, 3) := zo_167 (by decide +kernel)
theorem dX1_does_50 : decode cX1_does 50 = .ok (.aload_n 0, 1) := zo_42 (by decide +kernel)
theorem dX1_does_51 : decode cX1_does 51 = .ok (.iload_n 2, 1) := zo_28 (by decide +kernel)
theorem dX1_does_52 : decode cX1_does 52 = .ok (.invokevirtual 92, 3) := zo_182 (by decide +kernel)
theorem dX1_does_55 : decode cX1_does 55 = .ok (.istore 4, 2) := zo_54 (by decide +kernel)
theorem dX1_does_57 : decode cX1_does 57 = .ok (.goto 60, 3) := zo_167 (by decide +kernel)
theorem dX1_does_60 : decode cX1_does 60 = .ok (.aload_n 0, 1) := zo_42 (by decide +kernel)
theorem dX1_does_61 : decode cX1_does 61 = .ok (.getfield 12, 3) := zo_180 (by decide +kernel)
theorem dX1_does_64 : decode cX1_does 64 = .ok (.iload_n 2, 1) := zo_28 (by decide +kernel)
theorem dX1_does_65 : decode cX1_does 65 = .ok (.invokevirtual 99, 3) := zo_182 (by decide +kernel)
theorem dX1_does_68 : decode cX1_does 68 = .ok (.iconst (-1), 1) := zo_2 (by decide +kernel)
theorem dX1_does_69 : decode cX1_does 69 = .ok (.if_icmp .eq 7, 3) := zo_159 (by decide +kernel)
theorem dX1_does_72 : decode cX1_does 72 = .ok (.iconst 1, 1) := zo_4 (by decide +kernel)
theorem dX1_does_73 : decode cX1_does 73 = .ok (.goto 4, 3) := zo_167 (by decide +kernel)
theorem dX1_does_76 : decode cX1_does 76 = .ok (.iconst 0, 1) := zo_3 (by decide +kernel)
theorem dX1_does_77 : decode cX1_does 77 = .ok (.istore 4, 2) := zo_54 (by decide +kernel)
theorem dX1_does_79 : decode cX1_does 79 = .ok (.goto 38, 3) := zo_167 (by decide +kernel)
theorem dX1_does_82 : decode cX1_does 82 = .ok (.aload_n 0, 1) := zo_42 (by decide +kernel)
theorem dX1_does_83 : decode cX1_does 83 = .ok (.iload_n 2, 1) := zo_28 (by decide +kernel)
theorem dX1_does_84 : decode cX1_does 84 = .ok (.invokevirtual 102, 3) := zo_182 (by decide +kernel)
theorem dX1_does_87 : decode cX1_does 87 = .ok (.istore 4, 2) := zo_54 (by decide +kernel)
theorem dX1_does_89 : decode cX1_does 89 = .ok (.goto 28, 3) := zo_167 (by decide +kernel)
theorem dX1_does_92 : decode cX1_does 92 = .ok (.aload_n 0, 1) := zo_42 (by decide +kernel)
theorem dX1_does_93 : decode cX1_does 93 = .ok (.iload_n 2, 1) := zo_28 (by decide +kernel)
theorem dX1_does_94 : decode cX1_does 94 = .ok (.iload_n 3, 1) := zo_29 (by decide +kernel)
theorem dX1_does_95 : decode cX1_does 95 = .ok (.invokevirtual 105, 3) := zo_182 (by decide +kernel)
theorem dX1_does_98 : decode cX1_does 98 = .ok (.istore 4, 2) := zo_54 (by decide +kernel)
theorem dX1_does_100 : decode cX1_does 100 = .ok (.goto 17, 3) := zo_167 (by decide +kernel)
theorem dX1_does_103 : decode cX1_does 103 = .ok (.aload_n 0, 1) := zo_42 (by decide +kernel)
theorem dX1_does_104 : decode cX1_does 104 = .ok (.iload_n 2, 1) := zo_28 (by decide +kernel)
theorem dX1_does_105 : decode cX1_does 105 = .ok (.iload_n 3, 1) := zo_29 (by decide +kernel)
theorem dX1_does_106 : decode cX1_does 106 = .ok (.invokevirtual 109, 3) := zo_182 (by decide +kernel)
theorem dX1_does_109 : decode cX1_does 109 = .ok (.istore 4, 2) := zo_54 (by decide +kernel)
theorem dX1_does_111 : decode cX1_does 111 = .ok (.goto 6, 3) := zo_167 (by decide +kernel)
theorem dX1_does_114 : decode cX1_does 114 = .ok (.iconst 0, 1) := zo_3 (by decide +kernel)
theorem dX1_does_115 : decode cX1_does 115 = .ok (.istore 4, 2) := zo_54 (by decide +kernel)
theorem dX1_does_117 : decode cX1_does 117 = .ok (.iload 4, 2) := zo_21 (by decide +kernel)
theorem dX1_does_119 : decode cX1_does 119 = .ok (.ifCond .eq 17, 3) := zo_153 (by decide +kernel)
theorem dX1_does_122 : decode cX1_does 122 = .ok (.aload_n 0, 1) := zo_42 (by decide +kernel)
theorem dX1_does_123 : decode cX1_does 123 = .ok (.dup, 1) := zo_89 (by decide +kernel)
theorem dX1_does_124 : decode cX1_does 124 = .ok (.getfield 41, 3) := zo_180 (by decide +kernel)
theorem dX1_does_127 : decode cX1_does 127 = .ok (.iconst 1, 1) := zo_4 (by decide +kernel)
theorem dX1_does_128 : decode cX1_does 128 = .ok (.iadd, 1) := zo_96 (by decide +kernel)
theorem dX1_does_129 : decode cX1_does 129 = .ok (.putfield 41, 3) := zo_181 (by decide +kernel)
theorem dX1_does_132 : decode cX1_does 132 = .ok (.aload_n 0, 1) := zo_42 (by decide +kernel)
theorem dX1_does_133 : decode cX1_does 133 = .ok (.invokevirtual 56, 3) := zo_182 (by decide +kernel)
theorem dX1_does_136 : decode cX1_does 136 = .ok (.iload 4, 2) := zo_21 (by decide +kernel)
theorem dX1_does_138 : decode cX1_does 138 = .ok (.ireturn, 1) := zo_172 (by decide +kernel)
theorem dX1_goThrough_0 : decode cX1_goThrough 0 = .ok (.aload_n 0, 1) := zo_42 (by decide +kernel)
theorem dX1_goThrough_1 : decode cX1_goThrough 1 = .ok (.aload_n 1, 1) := zo_43 (by decide +kernel)
theorem dX1_goThrough_2 : decode cX1_goThrough 2 = .ok (.invokevirtual 59, 3) := zo_182 (by decide +kernel)
theorem dX1_goThrough_5 : decode cX1_goThrough 5 = .ok (.iconst 0, 1) := zo_3 (by decide +kernel)
theorem dX1_goThrough_6 : decode cX1_goThrough 6 = .ok (.istore 4, 2) := zo_54 (by decide +kernel)
theorem dX1_goThrough_8 : decode cX1_goThrough 8 = .ok (.iload 4, 2) := zo_21 (by decide +kernel)
theorem dX1_goThrough_10 : decode cX1_goThrough 10 = .ok (.iload_n 3, 1) := zo_29 (by decide +kernel)
theorem dX1_goThrough_11 : decode cX1_goThrough 11 = .ok (.if_icmp .ge 58, 3) := zo_162 (by decide +kernel)
theorem dX1_goThrough_14 : decode cX1_goThrough 14 = .ok (.iload 4, 2) := zo_21 (by decide +kernel)
theorem dX1_goThrough_16 : decode cX1_goThrough 16 = .ok (.aload_n 2, 1) := zo_44 (by decide +kernel)
theorem dX1_goThrough_17 : decode cX1_goThrough 17 = .ok (.getfield 60, 3) := zo_180 (by decide +kernel)
theorem dX1_goThrough_20 : decode cX1_goThrough 20 = .ok (.if_icmp .ge 49, 3) := zo_162 (by decide +kernel)
theorem dX1_goThrough_23 : decode cX1_goThrough 23 = .ok (.iload 4, 2) := zo_21 (by decide +kernel)
theorem dX1_goThrough_25 : decode cX1_goThrough 25 = .ok (.bipush 40, 2) := zo_16 (by decide +kernel)
theorem dX1_goThrough_27 : decode cX1_goThrough 27 = .ok (.if_icmp .ge 42, 3) := zo_162 (by decide +kernel)
theorem dX1_goThrough_30 : decode cX1_goThrough 30 = .ok (.aload_n 0, 1) := zo_42 (by decide +kernel)
theorem dX1_goThrough_31 : decode cX1_goThrough 31 = .ok (.aload_n 2, 1) := zo_44 (by decide +kernel)
theorem dX1_goThrough_32 : decode cX1_goThrough 32 = .ok (.getfield 65, 3) := zo_180 (by decide +kernel)
theorem dX1_goThrough_35 : decode cX1_goThrough 35 = .ok (.iload 4, 2) := zo_21 (by decide +kernel)
theorem dX1_goThrough_37 : decode cX1_goThrough 37 = .ok (.iaload, 1) := zo_46 (by decide +kernel)
theorem dX1_goThrough_38 : decode cX1_goThrough 38 = .ok (.aload_n 2, 1) := zo_44 (by decide +kernel)
theorem dX1_goThrough_39 : decode cX1_goThrough 39 = .ok (.getfield 68, 3) := zo_180 (by decide +kernel)
theorem dX1_goThrough_42 : decode cX1_goThrough 42 = .ok (.iload 4, 2) := zo_21 (by decide +kernel)
theorem dX1_goThrough_44 : decode cX1_goThrough 44 = .ok (.iaload, 1) := zo_46 (by decide +kernel)
theorem dX1_goThrough_45 : decode cX1_goThrough 45 = .ok (.aload_n 2, 1) := zo_44 (by decide +kernel)
theorem dX1_goThrough_46 : decode cX1_goThrough 46 = .ok (.getfield 71, 3) := zo_180 (by decide +kernel)
theorem dX1_goThrough_49 : decode cX1_goThrough 49 = .ok (.iload 4, 2) := zo_21 (by decide +kernel)
theorem dX1_goThrough_51 : decode cX1_goThrough 51 = .ok (.iaload, 1) := zo_46 (by decide +kernel)
theorem dX1_goThrough_52 : decode cX1_goThrough 52 = .ok (.invokevirtual 74, 3) := zo_182 (by decide +kernel)
theorem dX1_goThrough_55 : decode cX1_goThrough 55 = .ok (.ifCond .ne 8, 3) := zo_154 (by decide +kernel)
theorem dX1_goThrough_58 : decode cX1_goThrough 58 = .ok (.aload_n 0, 1) := zo_42 (by decide +kernel)
theorem dX1_goThrough_59 : decode cX1_goThrough 59 = .ok (.getfield 41, 3) := zo_180 (by decide +kernel)
theorem dX1_goThrough_62 : decode cX1_goThrough 62 = .ok (.ireturn, 1) := zo_172 (by decide +kernel)
theorem dX1_goThrough_63 : decode cX1_goThrough 63 = .ok (.iinc 4 1, 3) := zo_132 (by decide +kernel)
theorem dX1_goThrough_66 : decode cX1_goThrough 66 = .ok (.goto (-58), 3) := zo_167 (by decide +kernel)
theorem dX1_goThrough_69 : decode cX1_goThrough 69 = .ok (.aload_n 0, 1) := zo_42 (by decide +kernel)
theorem dX1_goThrough_70 : decode cX1_goThrough 70 = .ok (.getfield 41, 3) := zo_180 (by decide +kernel)
theorem dX1_goThrough_73 : decode cX1_goThrough 73 = .ok (.ireturn, 1) := zo_172 (by decide +kernel)
theorem dX1_goAll_0 : decode cX1_goAll 0 = .ok (.aload_n 0, 1) := zo_42 (by decide +kernel)
theorem dX1_goAll_1 : decode cX1_goAll 1 = .ok (.aload_n 1, 1) := zo_43 (by decide +kernel)
theorem dX1_goAll_2 : decode cX1_goAll 2 = .ok (.invokevirtual 59, 3) := zo_182 (by decide +kernel)
theorem dX1_goAll_5 : decode cX1_goAll 5 = .ok (.iconst 0, 1) := zo_3 (by decide +kernel)
theorem dX1_goAll_6 : decode cX1_goAll 6 = .ok (.istore_n 2, 1) := zo_61 (by decide +kernel)
theorem dX1_goAll_7 : decode cX1_goAll 7 = .ok (.iload_n 2, 1) := zo_28 (by decide +kernel)
theorem dX1_goAll_8 : decode cX1_goAll 8 = .ok (.aload_n 1, 1) := zo_43 (by decide +kernel)
theorem dX1_goAll_9 : decode cX1_goAll 9 = .ok (.getfield 88, 3) := zo_180 (by decide +kernel)
theorem dX1_goAll_12 : decode cX1_goAll 12 = .ok (.if_icmp .ge 39, 3) := zo_162 (by decide +kernel)
theorem dX1_goAll_15 : decode cX1_goAll 15 = .ok (.iload_n 2, 1) := zo_28 (by decide +kernel)
theorem dX1_goAll_16 : decode cX1_goAll 16 = .ok (.bipush 7, 2) := zo_16 (by decide +kernel)
theorem dX1_goAll_18 : decode cX1_goAll 18 = .ok (.if_icmp .ge 33, 3) := zo_162 (by decide +kernel)
theorem dX1_goAll_21 : decode cX1_goAll 21 = .ok (.iconst 0, 1) := zo_3 (by decide +kernel)
theorem dX1_goAll_22 : decode cX1_goAll 22 = .ok (.istore_n 3, 1) := zo_62 (by decide +kernel)
theorem dX1_goAll_23 : decode cX1_goAll 23 = .ok (.iload_n 3, 1) := zo_29 (by decide +kernel)
theorem dX1_goAll_24 : decode cX1_goAll 24 = .ok (.aload_n 1, 1) := zo_43 (by decide +kernel)
theorem dX1_goAll_25 : decode cX1_goAll 25 = .ok (.getfield 33, 3) := zo_180 (by decide +kernel)
theorem dX1_goAll_28 : decode cX1_goAll 28 = .ok (.iload_n 2, 1) := zo_28 (by decide +kernel)
theorem dX1_goAll_29 : decode cX1_goAll 29 = .ok (.iaload, 1) := zo_46 (by decide +kernel)
theorem dX1_goAll_30 : decode cX1_goAll 30 = .ok (.if_icmp .ge 15, 3) := zo_162 (by decide +kernel)
theorem dX1_goAll_33 : decode cX1_goAll 33 = .ok (.aload_n 0, 1) := zo_42 (by decide +kernel)
theorem dX1_goAll_34 : decode cX1_goAll 34 = .ok (.iload_n 2, 1) := zo_28 (by decide +kernel)
theorem dX1_goAll_35 : decode cX1_goAll 35 = .ok (.invokevirtual 92, 3) := zo_182 (by decide +kernel)
theorem dX1_goAll_38 : decode cX1_goAll 38 = .ok (.pop, 1) := zo_87 (by decide +kernel)
theorem dX1_goAll_39 : decode cX1_goAll 39 = .ok (.iinc 3 1, 3) := zo_132 (by decide +kernel)
theorem dX1_goAll_42 : decode cX1_goAll 42 = .ok (.goto (-19), 3) := zo_167 (by decide +kernel)
theorem dX1_goAll_45 : decode cX1_goAll 45 = .ok (.iinc 2 1, 3) := zo_132 (by decide +kernel)
theorem dX1_goAll_48 : decode cX1_goAll 48 = .ok (.goto (-41), 3) := zo_167 (by decide +kernel)
theorem dX1_goAll_51 : decode cX1_goAll 51 = .ok (.return_, 1) := zo_177 (by decide +kernel)
set_option maxHeartbeats 4000000 in
set_option maxRecDepth 100000 in
/-- begin -/
theorem c_Course_begin (l : Launch) (T : zTy) (h : Nat) (po : Nat) (la : Nat) (fw : Nat → Int32) (v0 : Int32) (v1 : Int32) (v2 : Int32) (v3 : Int32) (v4 : Int32) (v5 : Int32) (v6 : Int32) (v7 : Int32) (wc : va_W) (lp : Nat) (f1 : Nat → Int32) (f2 : Nat → Int32) (f3 : Nat → Int32) (st : Int32) (wh : Int32) (wp : va_W) (o : Nat) (cr : Int32) (inn : Int32) (k1 : Nat → Int32) (k2 : Nat → Int32) (k3 : Nat → Int32) (k4 : Nat → Int32) (z : va_W) (hc : bCourse T h po la fw v0 v1 v2 v3 v4 v5 v6 v7 wc) (hp : bPosts T po lp f1 f2 f3 st wh wp) (hz : bLand T o cr inn k1 k2 k3 k4 z) (hI : zLI cr k1 k3) : zMv l T yX1_begin cX1_begin 3 4 0 0 [.ref h, .ref o] [wc, wp, z] (fun bs => ∃ (wc2 : va_W) (gw : Nat → Int32) (u6 : Int32) (wp2 : va_W) (g1 : Nat → Int32) (g2 : Nat → Int32) (g3 : Nat → Int32), bs = [wc2, wp2, z] ∧ bCourse T h po o gw 0 0 0 (-1) 0 0 u6 v7 wc2 ∧ bPosts T po o g1 g2 g3 0 0 wp2 ∧ (∀ j, j < 7 → gw j = k4 j) ∧ zP3 g1 g3 ∧ (∀ j, j < 7 → g1 j = k3 j) ∧ (∀ j, j < 7 → g2 j = 0) ∧ (∀ j, j < 7 → g3 j = zWays cr inn k1 (nI j))) := by
  refine zMv_of (own := RX1) (by decide) rfl (Nat.le_of_ble_eq_true rfl) ?_
  intro p e s m args below meth c A ls C hr hlocks hnm hAe G hl
  refine zHide (fun Qz_ hQz_ => ?_)
  have hx := C.1
  have hb := C.2.1
  have hl : lv_has ls 3 [(0, .ref h), (1, .ref o)] := hl
  refine lv_aload_n hx hb dX1_begin_0 rfl (lv_at hl 0 rfl) ?_
  refine lv_aload_n hx hb dX1_begin_1 rfl (lv_at hl 1 rfl) ?_
  refine zEx1 hc ?_
  intro a1_1 hbs9
  clear hc
  subst hbs9
  have G : zS T A s.heap s [[zO1 h po a1_1 v0 la v1 v2 v3 v4 v5 v6 v7], [zAr T 0 a1_1 7 fw], wp, z] _ _ := G.re rfl
  refine z_put C G clX1 0 rfl 3 (by decide) m_fl_RX1_25 rfl rfl rfl (Nat.le_of_ble_eq_true rfl) dX1_begin_2 (fun H locs G => ?_)
  have G : zS T A s.heap s [[zO1 h po a1_1 v0 o v1 v2 v3 v4 v5 v6 v7], [zAr T 0 a1_1 7 fw], wp, z] _ _ := G
  refine lv_aload_n hx hb dX1_begin_5 rfl (lv_at hl 0 rfl) ?_
  refine z_get C G clX1 0 rfl 0 (by decide) m_fl_RX1_12 rfl dX1_begin_6 ?_
  refine lv_aload_n hx hb dX1_begin_9 rfl (lv_at hl 1 rfl) ?_
  refine z_Vv (bc := [wp, z]) (br := [[zO1 h po a1_1 v0 o v1 v2 v3 v4 v5 v6 v7], [zAr T 0 a1_1 7 fw]]) (As := [.ref o]) (rest := []) C G (c_Posts_begin l T po lp f1 f2 f3 st wh wp o cr inn k1 k2 k3 k4 z hp hz) (kV_RX1_29 C.2.2.2.2 (Nat.le_of_ble_eq_true rfl) (Nat.le_of_ble_eq_true rfl)) [2, 3] [2, 0] rfl rfl (ci := 6) (qc := (RX6, TX6, 6)) rfl rfl (List.mem_flatten.mpr ⟨_, List.mem_of_getElem? (i := 0) rfl, (bPosts_mem hp).choose_spec⟩) rfl rfl hl.1 dX1_begin_10 (Nat.le_of_ble_eq_true rfl) (Nat.le_of_ble_eq_true rfl) (fun b1 H locs hw G => ?_)
  refine zEx4 hw ?_
  intro w2_2 g1_3 g2_4 g3_5
  refine zCu5 ?_
  intro hbs9 h_6 h_7 h_8 h_9
  clear hw
  subst hbs9
  have G : zS T A s.heap s [[zO1 h po a1_1 v0 o v1 v2 v3 v4 v5 v6 v7], [zAr T 0 a1_1 7 fw], w2_2, z] _ _ := G
  have hQ : zP3 g1_3 g3_5 := z_P3 hI h_7 h_9
  refine lv_iconst (v := 0) hx hb dX1_begin_13 (by decide) ?_
  refine lv_istore_n (lv' := [(2, .int 0), (0, .ref h), (1, .ref o)]) hx hb dX1_begin_14 rfl hl (by decide) (zLvf_h rfl) (fun ls hl => ?_)
  refine zEx4 hz ?_
  intro a1_11 a2_12 a3_13 a4_14 hbs9
  clear hz
  subst hbs9
  have G : zS T A s.heap s [[zO1 h po a1_1 v0 o v1 v2 v3 v4 v5 v6 v7], [zAr T 0 a1_1 7 fw], w2_2, [zO4 o cr inn a1_11 a2_12 a3_13 a4_14], [zAr T 0 a1_11 7 k1], [zAr T 0 a2_12 28 k2], [zAr T 0 a3_13 7 k3], [zAr T 0 a4_14 7 k4]] _ _ := G.re rfl
  have hw_15 : bCourse T h po o fw v0 v1 v2 v3 v4 v5 v6 v7 [zO1 h po a1_1 v0 o v1 v2 v3 v4 v5 v6 v7, zAr T 0 a1_1 7 fw] := ⟨a1_1, rfl⟩
  have G : zS T A s.heap s [[zO1 h po a1_1 v0 o v1 v2 v3 v4 v5 v6 v7, zAr T 0 a1_1 7 fw], w2_2, [zO4 o cr inn a1_11 a2_12 a3_13 a4_14], [zAr T 0 a1_11 7 k1], [zAr T 0 a2_12 28 k2], [zAr T 0 a3_13 7 k3], [zAr T 0 a4_14 7 k4]] _ _ := G.re rfl
  have hw_16 : bLand T o cr inn k1 k2 k3 k4 [zO4 o cr inn a1_11 a2_12 a3_13 a4_14, zAr T 0 a1_11 7 k1, zAr T 0 a2_12 28 k2, zAr T 0 a3_13 7 k3, zAr T 0 a4_14 7 k4] := ⟨a1_11, a2_12, a3_13, a4_14, rfl⟩
  have G : zS T A s.heap s [[zO1 h po a1_1 v0 o v1 v2 v3 v4 v5 v6 v7, zAr T 0 a1_1 7 fw], w2_2, [zO4 o cr inn a1_11 a2_12 a3_13 a4_14, zAr T 0 a1_11 7 k1, zAr T 0 a2_12 28 k2, zAr T 0 a3_13 7 k3, zAr T 0 a4_14 7 k4]] _ _ := G.re rfl
  refine z_lp3 (T := T) 15 (fun (i : Nat) (wc3 : va_W) (x1 : Nat → Int32) => [wc3, w2_2, [zO4 o cr inn a1_11 a2_12 a3_13 a4_14, zAr T 0 a1_11 7 k1, zAr T 0 a2_12 28 k2, zAr T 0 a3_13 7 k3, zAr T 0 a4_14 7 k4]]) (fun (i : Nat) (wc3 : va_W) (x1 : Nat → Int32) => [(2, .int (nI i)), (0, .ref h), (1, .ref o)]) (fun (i : Nat) (wc3 : va_W) (x1 : Nat → Int32) => bCourse T h po o x1 v0 v1 v2 v3 v4 v5 v6 v7 wc3 ∧ i ≤ 7 ∧ (∀ j, j < i → x1 j = k4 j)) (fun (i : Nat) (wc3 : va_W) (x1 : Nat → Int32) => 7 - i) ?_ 0 ([zO1 h po a1_1 v0 o v1 v2 v3 v4 v5 v6 v7, zAr T 0 a1_1 7 fw]) fw (show bCourse T h po o fw v0 v1 v2 v3 v4 v5 v6 v7 ([zO1 h po a1_1 v0 o v1 v2 v3 v4 v5 v6 v7, zAr T 0 a1_1 7 fw]) ∧ 0 ≤ 7 ∧ (∀ j, j < 0 → fw j = k4 j) from ⟨hw_15, by omega, fun j hj => absurd hj (by omega)⟩) G (lv_sub hl [0, 1, 2] rfl)
  intro i wc3 x1 hI9 ih_15 H locs ls G hl
  replace hI9 : bCourse T h po o x1 v0 v1 v2 v3 v4 v5 v6 v7 wc3 ∧ i ≤ 7 ∧ (∀ j, j < i → x1 j = k4 j) := hI9
  refine zAn3 hI9 ?_
  intro hc3 hi hx1
  clear hI9
  replace G : zS T A s.heap s [wc3, w2_2, [zO4 o cr inn a1_11 a2_12 a3_13 a4_14, zAr T 0 a1_11 7 k1, zAr T 0 a2_12 28 k2, zAr T 0 a3_13 7 k3, zAr T 0 a4_14 7 k4]] _ _ := G
  replace hl : lv_has ls 3 [(2, .int (nI i)), (0, .ref h), (1, .ref o)] := hl
  refine lv_iload_n hx hb dX1_begin_15 rfl (lv_at hl 0 rfl) ?_
  refine lv_bipush (v := 7) hx hb dX1_begin_16 (by decide) ?_
  refine lv_icmp_ge (tgt := 39) hx hb dX1_begin_18 (by decide) (fun c_17 => ?_) (fun c_17 => ?_)
  · have c_17n : 7 ≤ i := (nI_leI (a := 7) (b := i) (by omega) (by omega)).mp c_17
    refine lv_aload_n hx hb dX1_begin_39 rfl (lv_at hl 1 rfl) ?_
    refine lv_iconst (v := 0) hx hb dX1_begin_40 (by decide) ?_
    refine zEx1 hc3 ?_
    intro a1_18 hbs9
    clear hc3
    subst hbs9
    have G : zS T A s.heap s [[zO1 h po a1_18 v0 o v1 v2 v3 v4 v5 v6 v7], [zAr T 0 a1_18 7 x1], w2_2, [zO4 o cr inn a1_11 a2_12 a3_13 a4_14, zAr T 0 a1_11 7 k1, zAr T 0 a2_12 28 k2, zAr T 0 a3_13 7 k3, zAr T 0 a4_14 7 k4]] _ _ := G.re rfl
    refine z_put C G clX1 0 rfl 2 (by decide) m_fl_RX1_34 rfl rfl rfl (Nat.le_of_ble_eq_true rfl) dX1_begin_41 (fun H locs G => ?_)
    have G : zS T A s.heap s [[zO1 h po a1_18 0 o v1 v2 v3 v4 v5 v6 v7], [zAr T 0 a1_18 7 x1], w2_2, [zO4 o cr inn a1_11 a2_12 a3_13 a4_14, zAr T 0 a1_11 7 k1, zAr T 0 a2_12 28 k2, zAr T 0 a3_13 7 k3, zAr T 0 a4_14 7 k4]] _ _ := G
    refine lv_aload_n hx hb dX1_begin_44 rfl (lv_at hl 1 rfl) ?_
    refine lv_iconst (v := 0) hx hb dX1_begin_45 (by decide) ?_
    refine z_put C G clX1 0 rfl 4 (by decide) m_fl_RX1_38 rfl rfl rfl (Nat.le_of_ble_eq_true rfl) dX1_begin_46 (fun H locs G => ?_)
    have G : zS T A s.heap s [[zO1 h po a1_18 0 o 0 v2 v3 v4 v5 v6 v7], [zAr T 0 a1_18 7 x1], w2_2, [zO4 o cr inn a1_11 a2_12 a3_13 a4_14, zAr T 0 a1_11 7 k1, zAr T 0 a2_12 28 k2, zAr T 0 a3_13 7 k3, zAr T 0 a4_14 7 k4]] _ _ := G
    refine lv_aload_n hx hb dX1_begin_49 rfl (lv_at hl 1 rfl) ?_
    refine lv_iconst (v := 0) hx hb dX1_begin_50 (by decide) ?_
    refine z_put C G clX1 0 rfl 5 (by decide) m_fl_RX1_41 rfl rfl rfl (Nat.le_of_ble_eq_true rfl) dX1_begin_51 (fun H locs G => ?_)
    have G : zS T A s.heap s [[zO1 h po a1_18 0 o 0 0 v3 v4 v5 v6 v7], [zAr T 0 a1_18 7 x1], w2_2, [zO4 o cr inn a1_11 a2_12 a3_13 a4_14, zAr T 0 a1_11 7 k1, zAr T 0 a2_12 28 k2, zAr T 0 a3_13 7 k3, zAr T 0 a4_14 7 k4]] _ _ := G
    refine lv_aload_n hx hb dX1_begin_54 rfl (lv_at hl 1 rfl) ?_
    refine lv_iconst (v := (-1)) hx hb dX1_begin_55 (by decide) ?_
    refine z_put C G clX1 0 rfl 6 (by decide) m_fl_RX1_44 rfl rfl rfl (Nat.le_of_ble_eq_true rfl) dX1_begin_56 (fun H locs G => ?_)
    have G : zS T A s.heap s [[zO1 h po a1_18 0 o 0 0 (-1) v4 v5 v6 v7], [zAr T 0 a1_18 7 x1], w2_2, [zO4 o cr inn a1_11 a2_12 a3_13 a4_14, zAr T 0 a1_11 7 k1, zAr T 0 a2_12 28 k2, zAr T 0 a3_13 7 k3, zAr T 0 a4_14 7 k4]] _ _ := G
    refine lv_aload_n hx hb dX1_begin_59 rfl (lv_at hl 1 rfl) ?_
    refine lv_iconst (v := 0) hx hb dX1_begin_60 (by decide) ?_
    refine z_put C G clX1 0 rfl 7 (by decide) m_fl_RX1_47 rfl rfl rfl (Nat.le_of_ble_eq_true rfl) dX1_begin_61 (fun H locs G => ?_)
    have G : zS T A s.heap s [[zO1 h po a1_18 0 o 0 0 (-1) 0 v5 v6 v7], [zAr T 0 a1_18 7 x1], w2_2, [zO4 o cr inn a1_11 a2_12 a3_13 a4_14, zAr T 0 a1_11 7 k1, zAr T 0 a2_12 28 k2, zAr T 0 a3_13 7 k3, zAr T 0 a4_14 7 k4]] _ _ := G
    refine lv_aload_n hx hb dX1_begin_64 rfl (lv_at hl 1 rfl) ?_
    refine lv_iconst (v := 0) hx hb dX1_begin_65 (by decide) ?_
    refine z_put C G clX1 0 rfl 8 (by decide) m_fl_RX1_50 rfl rfl rfl (Nat.le_of_ble_eq_true rfl) dX1_begin_66 (fun H locs G => ?_)
    have G : zS T A s.heap s [[zO1 h po a1_18 0 o 0 0 (-1) 0 0 v6 v7], [zAr T 0 a1_18 7 x1], w2_2, [zO4 o cr inn a1_11 a2_12 a3_13 a4_14, zAr T 0 a1_11 7 k1, zAr T 0 a2_12 28 k2, zAr T 0 a3_13 7 k3, zAr T 0 a4_14 7 k4]] _ _ := G
    refine lv_aload_n hx hb dX1_begin_69 rfl (lv_at hl 1 rfl) ?_
    refine lv_iconst (v := 0) hx hb dX1_begin_70 (by decide) ?_
    refine z_put C G clX1 0 rfl 9 (by decide) m_fl_RX1_53 rfl rfl rfl (Nat.le_of_ble_eq_true rfl) dX1_begin_71 (fun H locs G => ?_)
    have G : zS T A s.heap s [[zO1 h po a1_18 0 o 0 0 (-1) 0 0 0 v7], [zAr T 0 a1_18 7 x1], w2_2, [zO4 o cr inn a1_11 a2_12 a3_13 a4_14, zAr T 0 a1_11 7 k1, zAr T 0 a2_12 28 k2, zAr T 0 a3_13 7 k3, zAr T 0 a4_14 7 k4]] _ _ := G
    refine lv_aload_n hx hb dX1_begin_74 rfl (lv_at hl 1 rfl) ?_
    have hw_19 : bCourse T h po o x1 0 0 0 (-1) 0 0 0 v7 [zO1 h po a1_18 0 o 0 0 (-1) 0 0 0 v7, zAr T 0 a1_18 7 x1] := ⟨a1_18, rfl⟩
    have G : zS T A s.heap s [[zO1 h po a1_18 0 o 0 0 (-1) 0 0 0 v7, zAr T 0 a1_18 7 x1], w2_2, [zO4 o cr inn a1_11 a2_12 a3_13 a4_14, zAr T 0 a1_11 7 k1, zAr T 0 a2_12 28 k2, zAr T 0 a3_13 7 k3, zAr T 0 a4_14 7 k4]] _ _ := G.re rfl
    refine z_Vv (bc := [[zO1 h po a1_18 0 o 0 0 (-1) 0 0 0 v7, zAr T 0 a1_18 7 x1], [zO4 o cr inn a1_11 a2_12 a3_13 a4_14, zAr T 0 a1_11 7 k1, zAr T 0 a2_12 28 k2, zAr T 0 a3_13 7 k3, zAr T 0 a4_14 7 k4]]) (br := [w2_2]) (As := []) (rest := []) C G (c_lookAtCrowd l T h po o x1 0 0 0 (-1) 0 0 0 v7 ([zO1 h po a1_18 0 o 0 0 (-1) 0 0 0 v7, zAr T 0 a1_18 7 x1]) cr inn k1 k2 k3 k4 ([zO4 o cr inn a1_11 a2_12 a3_13 a4_14, zAr T 0 a1_11 7 k1, zAr T 0 a2_12 28 k2, zAr T 0 a3_13 7 k3, zAr T 0 a4_14 7 k4]) hw_19 hw_16 (by first | with_reducible assumption | with_reducible rfl | omega | assumption | rfl)) (kV_RX1_56 C.2.2.2.2 (Nat.le_of_ble_eq_true rfl) (Nat.le_of_ble_eq_true rfl)) [0, 2] [0, 1] rfl rfl (ci := 1) (qc := (RX1, TX1, 11)) rfl rfl (List.mem_flatten.mpr ⟨_, List.mem_of_getElem? (i := 0) rfl, (bCourse_mem hw_19).choose_spec⟩) rfl rfl hl.1 dX1_begin_75 (Nat.le_of_ble_eq_true rfl) (Nat.le_of_ble_eq_true rfl) (fun b1 H locs hw G => ?_)
    refine zEx2 hw ?_
    intro wc2_20 u6_21
    refine zCu2 ?_
    intro hbs9 h_22
    clear hw
    subst hbs9
    have G : zS T A s.heap s [w2_2, wc2_20, [zO4 o cr inn a1_11 a2_12 a3_13 a4_14, zAr T 0 a1_11 7 k1, zAr T 0 a2_12 28 k2, zAr T 0 a3_13 7 k3, zAr T 0 a4_14 7 k4]] _ _ := G
    have G := G.sub (bs' := [wc2_20, w2_2, [zO4 o cr inn a1_11 a2_12 a3_13 a4_14, zAr T 0 a1_11 7 k1, zAr T 0 a2_12 28 k2, zAr T 0 a3_13 7 k3, zAr T 0 a4_14 7 k4]]) [1, 0, 2] rfl
    exact z_back hQz_ (z_vret C hr hlocks G (Nat.le_of_ble_eq_true rfl) (Nat.le_of_ble_eq_true rfl) dX1_begin_78 ⟨wc2_20, x1, u6_21, w2_2, g1_3, g2_4, g3_5, rfl, h_22, h_6, (fun j hj => hx1 j (by omega)), hQ, h_7, h_8, h_9⟩)
  · have c_17n : ¬ 7 ≤ i := fun q => c_17 ((nI_leI (a := 7) (b := i) (by omega) (by omega)).mpr q)
    refine lv_aload_n hx hb dX1_begin_21 rfl (lv_at hl 1 rfl) ?_
    refine zEx1 hc3 ?_
    intro a1_24 hbs9
    clear hc3
    subst hbs9
    have G : zS T A s.heap s [[zO1 h po a1_24 v0 o v1 v2 v3 v4 v5 v6 v7], [zAr T 0 a1_24 7 x1], w2_2, [zO4 o cr inn a1_11 a2_12 a3_13 a4_14, zAr T 0 a1_11 7 k1, zAr T 0 a2_12 28 k2, zAr T 0 a3_13 7 k3, zAr T 0 a4_14 7 k4]] _ _ := G.re rfl
    refine z_get C G clX1 0 rfl 1 (by decide) m_fl_RX1_18 rfl dX1_begin_22 ?_
    refine lv_iload_n hx hb dX1_begin_25 rfl (lv_at hl 0 rfl) ?_
    refine lv_aload_n hx hb dX1_begin_26 rfl (lv_at hl 2 rfl) ?_
    have G : zS T A s.heap s [[zO1 h po a1_24 v0 o v1 v2 v3 v4 v5 v6 v7], [zAr T 0 a1_24 7 x1], w2_2, [zO4 o cr inn a1_11 a2_12 a3_13 a4_14], [zAr T 0 a1_11 7 k1], [zAr T 0 a2_12 28 k2], [zAr T 0 a3_13 7 k3], [zAr T 0 a4_14 7 k4]] _ _ := G.re rfl
    refine z_get C G clX4 3 rfl 5 (by decide) m_fl_RX1_33 rfl dX1_begin_27 ?_
    refine lv_iload_n hx hb dX1_begin_30 rfl (lv_at hl 0 rfl) ?_
    refine z_ild C G 7 rfl (vp_in_nI (by omega) (by decide)) dX1_begin_31 ?_
    refine lv_topi (fun v_25 ev_25 => ?_)
    rw [nI_clamp (by omega)] at ev_25
    subst ev_25
    refine z_ist C G 1 rfl (vp_in_nI (by omega) (by decide)) dX1_begin_32 (fun H locs G => ?_)
    rw [nI_clamp (by omega)] at G
    have G : zS T A s.heap s [[zO1 h po a1_24 v0 o v1 v2 v3 v4 v5 v6 v7], [zAr T 0 a1_24 7 (upd x1 i (k4 i))], w2_2, [zO4 o cr inn a1_11 a2_12 a3_13 a4_14], [zAr T 0 a1_11 7 k1], [zAr T 0 a2_12 28 k2], [zAr T 0 a3_13 7 k3], [zAr T 0 a4_14 7 k4]] _ _ := G
    refine lv_iinc (v := nI (i + 1)) (lv' := [(2, .int (nI (i + 1))), (0, .ref h), (1, .ref o)]) hx hb dX1_begin_33 hl (k := 0) rfl (z_inc i 1) (by decide) (zLvf_h rfl) (fun ls hl => ?_)
    refine lv_goto (tgt := 15) hx hb dX1_begin_36 (by decide) ?_
    have hw_26 : bCourse T h po o (upd x1 i (k4 i)) v0 v1 v2 v3 v4 v5 v6 v7 [zO1 h po a1_24 v0 o v1 v2 v3 v4 v5 v6 v7, zAr T 0 a1_24 7 (upd x1 i (k4 i))] := ⟨a1_24, rfl⟩
    have G : zS T A s.heap s [[zO1 h po a1_24 v0 o v1 v2 v3 v4 v5 v6 v7, zAr T 0 a1_24 7 (upd x1 i (k4 i))], w2_2, [zO4 o cr inn a1_11 a2_12 a3_13 a4_14], [zAr T 0 a1_11 7 k1], [zAr T 0 a2_12 28 k2], [zAr T 0 a3_13 7 k3], [zAr T 0 a4_14 7 k4]] _ _ := G.re rfl
    have hw_27 : bLand T o cr inn k1 k2 k3 k4 [zO4 o cr inn a1_11 a2_12 a3_13 a4_14, zAr T 0 a1_11 7 k1, zAr T 0 a2_12 28 k2, zAr T 0 a3_13 7 k3, zAr T 0 a4_14 7 k4] := ⟨a1_11, a2_12, a3_13, a4_14, rfl⟩
    have G : zS T A s.heap s [[zO1 h po a1_24 v0 o v1 v2 v3 v4 v5 v6 v7, zAr T 0 a1_24 7 (upd x1 i (k4 i))], w2_2, [zO4 o cr inn a1_11 a2_12 a3_13 a4_14, zAr T 0 a1_11 7 k1, zAr T 0 a2_12 28 k2, zAr T 0 a3_13 7 k3, zAr T 0 a4_14 7 k4]] _ _ := G.re rfl
    exact ih_15 (i + 1) ([zO1 h po a1_24 v0 o v1 v2 v3 v4 v5 v6 v7, zAr T 0 a1_24 7 (upd x1 i (k4 i))]) (upd x1 i (k4 i)) (show bCourse T h po o (upd x1 i (k4 i)) v0 v1 v2 v3 v4 v5 v6 v7 ([zO1 h po a1_24 v0 o v1 v2 v3 v4 v5 v6 v7, zAr T 0 a1_24 7 (upd x1 i (k4 i))]) ∧ (i + 1) ≤ 7 ∧ (∀ j, j < (i + 1) → (upd x1 i (k4 i)) j = k4 j) from ⟨hw_26, by omega, z_updE hx1 rfl⟩) (show 7 - (i + 1) < 7 - i from by omega) _ _ ls G (lv_sub hl [0, 1, 2] rfl)
set_option maxHeartbeats 4000000 in
set_option maxRecDepth 100000 in
/-- c_does -/
theorem c_does (l : Launch) (T : zTy) (h : Nat) (po : Nat) (la : Nat) (fw : Nat → Int32) (v0 : Int32) (v1 : Int32) (v2 : Int32) (v3 : Int32) (v4 : Int32) (v5 : Int32) (v6 : Int32) (v7 : Int32) (wc : va_W) (f1 : Nat → Int32) (f2 : Nat → Int32) (f3 : Nat → Int32) (st : Int32) (wh : Int32) (wp : va_W) (cr : Int32) (inn : Int32) (k1 : Nat → Int32) (k2 : Nat → Int32) (k3 : Nat → Int32) (k4 : Nat → Int32) (z : va_W) (d : Int32) (x : Int32) (y : Int32) (hc : bCourse T h po la fw v0 v1 v2 v3 v4 v5 v6 v7 wc) (hp : bPosts T po la f1 f2 f3 st wh wp) (hz : bLand T la cr inn k1 k2 k3 k4 z) (hP : zP3 f1 f3) (hI : zLI cr k1 k3) : zMi l T yX1_does cX1_does 5 (some .boolean) 6 0 0 [.ref h, .int d, .int x, .int y] [wc, wp, z] (fun (r : Int32) bs => ∃ (wc2 : va_W) (gw : Nat → Int32) (u0 : Int32) (u1 : Int32) (u2 : Int32) (u3 : Int32) (u4 : Int32) (u5 : Int32) (u6 : Int32) (u7 : Int32) (wp2 : va_W) (g1 : Nat → Int32) (g2 : Nat → Int32) (sa : Int32) (wa : Int32), bs = [wc2, wp2, z] ∧ bCourse T h po la gw u0 u1 u2 u3 u4 u5 u6 u7 wc2 ∧ bPosts T po la g1 g2 f3 sa wa wp2 ∧ zP3 g1 f3 ∧ (r = 0 ∨ r = 1)) := by
  refine zMi_of (own := RX1) (by decide) rfl (Nat.le_of_ble_eq_true rfl) ?_
  intro p e s m args below meth c A ls C hr hlocks hnm hAe G hl
  refine zHide (fun Qz_ hQz_ => ?_)
  have hx := C.1
  have hb := C.2.1
  have hl : lv_has ls 5 [(0, .ref h), (1, .int d), (2, .int x), (3, .int y)] := hl
  refine lv_iload_n hx hb dX1_does_0 rfl (lv_at hl 1 rfl) ?_
  by_cases c_1o : d.toInt < 0 ∨ 5 < d.toInt
  · refine lv_tableOut (tgt := 114) hx hb dX1_does_1 c_1o (by decide) ?_
    refine lv_iconst (v := 0) hx hb dX1_does_114 (by decide) ?_
    refine lv_istore (lv' := [(4, .int 0), (0, .ref h), (1, .int d), (2, .int x), (3, .int y)]) hx hb dX1_does_115 hl (by decide) (zLvf_h rfl) (fun ls hl => ?_)
    refine lv_iload hx hb dX1_does_117 (lv_at hl 0 rfl) ?_
    refine lv_if_eq (tgt := 136) hx hb dX1_does_119 (by decide) (fun _ => ?_) (fun q => absurd (by decide) q)
    refine lv_iload hx hb dX1_does_136 (lv_at hl 0 rfl) ?_
    exact z_back hQz_ (z_zret C hr hlocks G (Nat.le_of_ble_eq_true rfl) (Nat.le_of_ble_eq_true rfl) dX1_does_138 rfl ⟨wc, fw, v0, v1, v2, v3, v4, v5, v6, v7, wp, f1, f2, st, wh, rfl, hc, hp, (by first | exact hP | exact hQt | assumption), (by first | exact Or.inl rfl | exact Or.inr rfl)⟩)
  · have c_1r : d.toInt = 0 ∨ d.toInt = 1 ∨ d.toInt = 2 ∨ d.toInt = 3 ∨ d.toInt = 4 ∨ d.toInt = 5 := by omega
    rcases c_1r with c_1 | c_1 | c_1 | c_1 | c_1 | c_1
    · refine lv_tableIn (tgt := 40) hx hb dX1_does_1 (by first | (rw [c_1]; decide) | omega) (by first | (rw [c_1]; decide) | omega) (by rw [c_1]; rfl) (by decide) ?_
      refine lv_aload_n hx hb dX1_does_40 rfl (lv_at hl 0 rfl) ?_
      refine lv_iload_n hx hb dX1_does_41 rfl (lv_at hl 2 rfl) ?_
      refine z_Vi (bc := [wc, wp, z]) (br := []) (As := [.int x]) (rest := []) C G (c_go l T h po la fw v0 v1 v2 v3 v4 v5 v6 v7 wc f1 f2 f3 st wh wp cr inn k1 k2 k3 k4 z x hc hp hz hP) (kV_RX1_96 C.2.2.2.2 (Nat.le_of_ble_eq_true rfl) (Nat.le_of_ble_eq_true rfl)) [0, 1, 2] [0, 0, 0] rfl rfl (ci := 1) (qc := (RX1, TX1, 11)) rfl rfl (List.mem_flatten.mpr ⟨_, List.mem_of_getElem? (i := 0) rfl, (bCourse_mem hc).choose_spec⟩) rfl rfl hl.1 dX1_does_42 (Nat.le_of_ble_eq_true rfl) (Nat.le_of_ble_eq_true rfl) (fun r_21 b1 H locs hw G => ?_)
      refine zEx15 hw ?_
      intro wc2_2 gw_3 u0_4 u1_5 u2_6 u3_7 u4_8 u5_9 u6_10 u7_11 wp2_12 g1_13 g2_14 sa_15 wa_16
      refine zCu5 ?_
      intro hbs9 h_17 h_18 h_19 h_20
      clear hw
      subst hbs9
      have G : zS T A s.heap s [wc2_2, wp2_12, z] _ _ := G
      replace h_20 : zHd ((r_21 = 0 ∨ r_21 = 1)) := h_20
      refine lv_istore (lv' := [(4, .int r_21), (0, .ref h), (1, .int d), (2, .int x), (3, .int y)]) hx hb dX1_does_45 hl (by decide) (zLvf_h rfl) (fun ls hl => ?_)
      refine lv_goto (tgt := 117) hx hb dX1_does_47 (by decide) ?_
      refine lv_iload hx hb dX1_does_117 (lv_at hl 0 rfl) ?_
      refine lv_if_eq (tgt := 136) hx hb dX1_does_119 (by decide) (fun c_22 => ?_) (fun c_22 => ?_)
      · have c_22n : r_21.toInt = (0 : Int) := (fa_eq _ _).mp c_22
        refine lv_iload hx hb dX1_does_136 (lv_at hl 0 rfl) ?_
        exact z_back hQz_ (z_zret C hr hlocks G (Nat.le_of_ble_eq_true rfl) (Nat.le_of_ble_eq_true rfl) dX1_does_138 (by rcases h_20 with q | q <;> rw [q] <;> rfl) ⟨wc2_2, gw_3, u0_4, u1_5, u2_6, u3_7, u4_8, u5_9, u6_10, u7_11, wp2_12, g1_13, g2_14, sa_15, wa_16, rfl, h_17, h_18, (by first | exact hP | exact hQt | assumption), h_20⟩)
      · have c_22n : ¬ r_21.toInt = (0 : Int) := fun q => c_22 ((fa_eq _ _).mpr q)
        refine lv_aload_n hx hb dX1_does_122 rfl (lv_at hl 1 rfl) ?_
        refine lv_dup hx hb dX1_does_123 rfl ?_
        refine zEx1 h_17 ?_
        intro a1_23 hbs9
        clear h_17
        subst hbs9
        have G : zS T A s.heap s [[zO1 h po a1_23 u0_4 la u1_5 u2_6 u3_7 u4_8 u5_9 u6_10 u7_11], [zAr T 0 a1_23 7 gw_3], wp2_12, z] _ _ := G.re rfl
        refine z_get C G clX1 0 rfl 5 (by decide) m_fl_RX1_41 rfl dX1_does_124 ?_
        refine lv_iconst (v := 1) hx hb dX1_does_127 (by decide) ?_
        refine lv_iadd hx hb dX1_does_128 ?_
        refine z_put C G clX1 0 rfl 5 (by decide) m_fl_RX1_41 rfl rfl rfl (Nat.le_of_ble_eq_true rfl) dX1_does_129 (fun H locs G => ?_)
        have G : zS T A s.heap s [[zO1 h po a1_23 u0_4 la u1_5 (u2_6 + 1) u3_7 u4_8 u5_9 u6_10 u7_11], [zAr T 0 a1_23 7 gw_3], wp2_12, z] _ _ := G
        refine lv_aload_n hx hb dX1_does_132 rfl (lv_at hl 1 rfl) ?_
        have hw_24 : bCourse T h po la gw_3 u0_4 u1_5 (u2_6 + 1) u3_7 u4_8 u5_9 u6_10 u7_11 [zO1 h po a1_23 u0_4 la u1_5 (u2_6 + 1) u3_7 u4_8 u5_9 u6_10 u7_11, zAr T 0 a1_23 7 gw_3] := ⟨a1_23, rfl⟩
        have G : zS T A s.heap s [[zO1 h po a1_23 u0_4 la u1_5 (u2_6 + 1) u3_7 u4_8 u5_9 u6_10 u7_11, zAr T 0 a1_23 7 gw_3], wp2_12, z] _ _ := G.re rfl
        refine z_Vv (bc := [[zO1 h po a1_23 u0_4 la u1_5 (u2_6 + 1) u3_7 u4_8 u5_9 u6_10 u7_11, zAr T 0 a1_23 7 gw_3], z]) (br := [wp2_12]) (As := []) (rest := []) C G (c_lookAtCrowd l T h po la gw_3 u0_4 u1_5 (u2_6 + 1) u3_7 u4_8 u5_9 u6_10 u7_11 ([zO1 h po a1_23 u0_4 la u1_5 (u2_6 + 1) u3_7 u4_8 u5_9 u6_10 u7_11, zAr T 0 a1_23 7 gw_3]) cr inn k1 k2 k3 k4 z hw_24 hz (by first | with_reducible assumption | with_reducible rfl | omega | assumption | rfl)) (kV_RX1_56 C.2.2.2.2 (Nat.le_of_ble_eq_true rfl) (Nat.le_of_ble_eq_true rfl)) [0, 2] [0, 1] rfl rfl (ci := 1) (qc := (RX1, TX1, 11)) rfl rfl (List.mem_flatten.mpr ⟨_, List.mem_of_getElem? (i := 0) rfl, (bCourse_mem hw_24).choose_spec⟩) rfl rfl hl.1 dX1_does_133 (Nat.le_of_ble_eq_true rfl) (Nat.le_of_ble_eq_true rfl) (fun b1 H locs hw G => ?_)
        refine zEx2 hw ?_
        intro wc2_25 u6_26
        refine zCu2 ?_
        intro hbs9 h_27
        clear hw
        subst hbs9
        have G : zS T A s.heap s [wp2_12, wc2_25, z] _ _ := G
        refine lv_iload hx hb dX1_does_136 (lv_at hl 0 rfl) ?_
        have G := G.sub (bs' := [wc2_25, wp2_12, z]) [1, 0, 2] rfl
        exact z_back hQz_ (z_zret C hr hlocks G (Nat.le_of_ble_eq_true rfl) (Nat.le_of_ble_eq_true rfl) dX1_does_138 (by rcases h_20 with q | q <;> rw [q] <;> rfl) ⟨wc2_25, gw_3, u0_4, u1_5, (u2_6 + 1), u3_7, u4_8, u5_9, u6_26, u7_11, wp2_12, g1_13, g2_14, sa_15, wa_16, rfl, h_27, h_18, (by first | exact hP | exact hQt | assumption), h_20⟩)
    · refine lv_tableIn (tgt := 50) hx hb dX1_does_1 (by first | (rw [c_1]; decide) | omega) (by first | (rw [c_1]; decide) | omega) (by rw [c_1]; rfl) (by decide) ?_
      refine lv_aload_n hx hb dX1_does_50 rfl (lv_at hl 0 rfl) ?_
      refine lv_iload_n hx hb dX1_does_51 rfl (lv_at hl 2 rfl) ?_
      refine z_Vi (bc := [wc, wp, z]) (br := []) (As := [.int x]) (rest := []) C G (c_Course_run l T h po la fw v0 v1 v2 v3 v4 v5 v6 v7 wc f1 f2 f3 st wh wp cr inn k1 k2 k3 k4 z x hc hp hz hP) (kV_RX1_92 C.2.2.2.2 (Nat.le_of_ble_eq_true rfl) (Nat.le_of_ble_eq_true rfl)) [0, 1, 2] [0, 0, 0] rfl rfl (ci := 1) (qc := (RX1, TX1, 11)) rfl rfl (List.mem_flatten.mpr ⟨_, List.mem_of_getElem? (i := 0) rfl, (bCourse_mem hc).choose_spec⟩) rfl rfl hl.1 dX1_does_52 (Nat.le_of_ble_eq_true rfl) (Nat.le_of_ble_eq_true rfl) (fun r_48 b1 H locs hw G => ?_)
      refine zEx15 hw ?_
      intro wc2_29 gw_30 u0_31 u1_32 u2_33 u3_34 u4_35 u5_36 u6_37 u7_38 wp2_39 g1_40 g2_41 sa_42 wa_43
      refine zCu5 ?_
      intro hbs9 h_44 h_45 h_46 h_47
      clear hw
      subst hbs9
      have G : zS T A s.heap s [wc2_29, wp2_39, z] _ _ := G
      replace h_47 : zHd ((r_48 = 0 ∨ r_48 = 1)) := h_47
      refine lv_istore (lv' := [(4, .int r_48), (0, .ref h), (1, .int d), (2, .int x), (3, .int y)]) hx hb dX1_does_55 hl (by decide) (zLvf_h rfl) (fun ls hl => ?_)
      refine lv_goto (tgt := 117) hx hb dX1_does_57 (by decide) ?_
      refine lv_iload hx hb dX1_does_117 (lv_at hl 0 rfl) ?_
      refine lv_if_eq (tgt := 136) hx hb dX1_does_119 (by decide) (fun c_49 => ?_) (fun c_49 => ?_)
      · have c_49n : r_48.toInt = (0 : Int) := (fa_eq _ _).mp c_49
        refine lv_iload hx hb dX1_does_136 (lv_at hl 0 rfl) ?_
        exact z_back hQz_ (z_zret C hr hlocks G (Nat.le_of_ble_eq_true rfl) (Nat.le_of_ble_eq_true rfl) dX1_does_138 (by rcases h_47 with q | q <;> rw [q] <;> rfl) ⟨wc2_29, gw_30, u0_31, u1_32, u2_33, u3_34, u4_35, u5_36, u6_37, u7_38, wp2_39, g1_40, g2_41, sa_42, wa_43, rfl, h_44, h_45, (by first | exact hP | exact hQt | assumption), h_47⟩)
      · have c_49n : ¬ r_48.toInt = (0 : Int) := fun q => c_49 ((fa_eq _ _).mpr q)
        refine lv_aload_n hx hb dX1_does_122 rfl (lv_at hl 1 rfl) ?_
        refine lv_dup hx hb dX1_does_123 rfl ?_
        refine zEx1 h_44 ?_
        intro a1_50 hbs9
        clear h_44
        subst hbs9
        have G : zS T A s.heap s [[zO1 h po a1_50 u0_31 la u1_32 u2_33 u3_34 u4_35 u5_36 u6_37 u7_38], [zAr T 0 a1_50 7 gw_30], wp2_39, z] _ _ := G.re rfl
        refine z_get C G clX1 0 rfl 5 (by decide) m_fl_RX1_41 rfl dX1_does_124 ?_
        refine lv_iconst (v := 1) hx hb dX1_does_127 (by decide) ?_
        refine lv_iadd hx hb dX1_does_128 ?_
        refine z_put C G clX1 0 rfl 5 (by decide) m_fl_RX1_41 rfl rfl rfl (Nat.le_of_ble_eq_true rfl) dX1_does_129 (fun H locs G => ?_)
        have G : zS T A s.heap s [[zO1 h po a1_50 u0_31 la u1_32 (u2_33 + 1) u3_34 u4_35 u5_36 u6_37 u7_38], [zAr T 0 a1_50 7 gw_30], wp2_39, z] _ _ := G
        refine lv_aload_n hx hb dX1_does_132 rfl (lv_at hl 1 rfl) ?_
        have hw_51 : bCourse T h po la gw_30 u0_31 u1_32 (u2_33 + 1) u3_34 u4_35 u5_36 u6_37 u7_38 [zO1 h po a1_50 u0_31 la u1_32 (u2_33 + 1) u3_34 u4_35 u5_36 u6_37 u7_38, zAr T 0 a1_50 7 gw_30] := ⟨a1_50, rfl⟩
        have G : zS T A s.heap s [[zO1 h po a1_50 u0_31 la u1_32 (u2_33 + 1) u3_34 u4_35 u5_36 u6_37 u7_38, zAr T 0 a1_50 7 gw_30], wp2_39, z] _ _ := G.re rfl
        refine z_Vv (bc := [[zO1 h po a1_50 u0_31 la u1_32 (u2_33 + 1) u3_34 u4_35 u5_36 u6_37 u7_38, zAr T 0 a1_50 7 gw_30], z]) (br := [wp2_39]) (As := []) (rest := []) C G (c_lookAtCrowd l T h po la gw_30 u0_31 u1_32 (u2_33 + 1) u3_34 u4_35 u5_36 u6_37 u7_38 ([zO1 h po a1_50 u0_31 la u1_32 (u2_33 + 1) u3_34 u4_35 u5_36 u6_37 u7_38, zAr T 0 a1_50 7 gw_30]) cr inn k1 k2 k3 k4 z hw_51 hz (by first | with_reducible assumption | with_reducible rfl | omega | assumption | rfl)) (kV_RX1_56 C.2.2.2.2 (Nat.le_of_ble_eq_true rfl) (Nat.le_of_ble_eq_true rfl)) [0, 2] [0, 1] rfl rfl (ci := 1) (qc := (RX1, TX1, 11)) rfl rfl (List.mem_flatten.mpr ⟨_, List.mem_of_getElem? (i := 0) rfl, (bCourse_mem hw_51).choose_spec⟩) rfl rfl hl.1 dX1_does_133 (Nat.le_of_ble_eq_true rfl) (Nat.le_of_ble_eq_true rfl) (fun b1 H locs hw G => ?_)
        refine zEx2 hw ?_
        intro wc2_52 u6_53
        refine zCu2 ?_
        intro hbs9 h_54
        clear hw
        subst hbs9
        have G : zS T A s.heap s [wp2_39, wc2_52, z] _ _ := G
        refine lv_iload hx hb dX1_does_136 (lv_at hl 0 rfl) ?_
        have G := G.sub (bs' := [wc2_52, wp2_39, z]) [1, 0, 2] rfl
        exact z_back hQz_ (z_zret C hr hlocks G (Nat.le_of_ble_eq_true rfl) (Nat.le_of_ble_eq_true rfl) dX1_does_138 (by rcases h_47 with q | q <;> rw [q] <;> rfl) ⟨wc2_52, gw_30, u0_31, u1_32, (u2_33 + 1), u3_34, u4_35, u5_36, u6_53, u7_38, wp2_39, g1_40, g2_41, sa_42, wa_43, rfl, h_54, h_45, (by first | exact hP | exact hQt | assumption), h_47⟩)
    · refine lv_tableIn (tgt := 60) hx hb dX1_does_1 (by first | (rw [c_1]; decide) | omega) (by first | (rw [c_1]; decide) | omega) (by rw [c_1]; rfl) (by decide) ?_
      refine lv_aload_n hx hb dX1_does_60 rfl (lv_at hl 0 rfl) ?_
      refine zEx1 hc ?_
      intro a1_56 hbs9
      clear hc
      subst hbs9
      have G : zS T A s.heap s [[zO1 h po a1_56 v0 la v1 v2 v3 v4 v5 v6 v7], [zAr T 0 a1_56 7 fw], wp, z] _ _ := G.re rfl
      refine z_get C G clX1 0 rfl 0 (by decide) m_fl_RX1_12 rfl dX1_does_61 ?_
      refine lv_iload_n hx hb dX1_does_64 rfl (lv_at hl 2 rfl) ?_
      refine z_Vi (bc := [wp]) (br := [[zO1 h po a1_56 v0 la v1 v2 v3 v4 v5 v6 v7], [zAr T 0 a1_56 7 fw], z]) (As := [.int x]) (rest := []) C G (c_turn l T po la f1 f2 f3 st wh wp x hp hP) (kV_RX1_99 C.2.2.2.2 (Nat.le_of_ble_eq_true rfl) (Nat.le_of_ble_eq_true rfl)) [2] [2] rfl rfl (ci := 6) (qc := (RX6, TX6, 6)) rfl rfl (List.mem_flatten.mpr ⟨_, List.mem_of_getElem? (i := 0) rfl, (bPosts_mem hp).choose_spec⟩) rfl rfl hl.1 dX1_does_65 (Nat.le_of_ble_eq_true rfl) (Nat.le_of_ble_eq_true rfl) (fun r_62 b1 H locs hw G => ?_)
      refine zEx2 hw ?_
      intro w2_57 g1_58
      refine zCu4 ?_
      intro hbs9 h_59 h_60 h_61
      clear hw
      subst hbs9
      have G : zS T A s.heap s [[zO1 h po a1_56 v0 la v1 v2 v3 v4 v5 v6 v7], [zAr T 0 a1_56 7 fw], z, w2_57] _ _ := G
      subst h_59
      have hQt : zP3 g1_58 f3 := by rw [h_61]; exact zPost_I hP _
      refine lv_iconst (v := (-1)) hx hb dX1_does_68 (by decide) ?_
      refine lv_icmp_eq (tgt := 76) hx hb dX1_does_69 (by decide) (fun c_63 => ?_) (fun c_63 => ?_)
      · have c_63n : (zTurn f1 f2 f3 x).toInt = (-1 : Int) := (fa_eq _ _).mp c_63
        refine lv_iconst (v := 0) hx hb dX1_does_76 (by decide) ?_
        refine lv_istore (lv' := [(4, .int 0), (0, .ref h), (1, .int d), (2, .int x), (3, .int y)]) hx hb dX1_does_77 hl (by decide) (zLvf_h rfl) (fun ls hl => ?_)
        refine lv_goto (tgt := 117) hx hb dX1_does_79 (by decide) ?_
        refine lv_iload hx hb dX1_does_117 (lv_at hl 0 rfl) ?_
        refine lv_if_eq (tgt := 136) hx hb dX1_does_119 (by decide) (fun _ => ?_) (fun q => absurd (by decide) q)
        refine lv_iload hx hb dX1_does_136 (lv_at hl 0 rfl) ?_
        have hw_64 : bCourse T h po la fw v0 v1 v2 v3 v4 v5 v6 v7 [zO1 h po a1_56 v0 la v1 v2 v3 v4 v5 v6 v7, zAr T 0 a1_56 7 fw] := ⟨a1_56, rfl⟩
        have G : zS T A s.heap s [[zO1 h po a1_56 v0 la v1 v2 v3 v4 v5 v6 v7, zAr T 0 a1_56 7 fw], z, w2_57] _ _ := G.re rfl
        have G := G.sub (bs' := [[zO1 h po a1_56 v0 la v1 v2 v3 v4 v5 v6 v7, zAr T 0 a1_56 7 fw], w2_57, z]) [0, 2, 1] rfl
        exact z_back hQz_ (z_zret C hr hlocks G (Nat.le_of_ble_eq_true rfl) (Nat.le_of_ble_eq_true rfl) dX1_does_138 rfl ⟨([zO1 h po a1_56 v0 la v1 v2 v3 v4 v5 v6 v7, zAr T 0 a1_56 7 fw]), fw, v0, v1, v2, v3, v4, v5, v6, v7, w2_57, g1_58, f2, st, wh, rfl, hw_64, h_60, (by first | exact hP | exact hQt | assumption), (by first | exact Or.inl rfl | exact Or.inr rfl)⟩)
      · have c_63n : ¬ (zTurn f1 f2 f3 x).toInt = (-1 : Int) := fun q => c_63 ((fa_eq _ _).mpr q)
        refine lv_iconst (v := 1) hx hb dX1_does_72 (by decide) ?_
        refine lv_goto (tgt := 77) hx hb dX1_does_73 (by decide) ?_
        refine lv_istore (lv' := [(4, .int 1), (0, .ref h), (1, .int d), (2, .int x), (3, .int y)]) hx hb dX1_does_77 hl (by decide) (zLvf_h rfl) (fun ls hl => ?_)
        refine lv_goto (tgt := 117) hx hb dX1_does_79 (by decide) ?_
        refine lv_iload hx hb dX1_does_117 (lv_at hl 0 rfl) ?_
        refine lv_if_eq (tgt := 136) hx hb dX1_does_119 (by decide) (fun q => absurd q (by decide)) (fun _ => ?_)
        refine lv_aload_n hx hb dX1_does_122 rfl (lv_at hl 1 rfl) ?_
        refine lv_dup hx hb dX1_does_123 rfl ?_
        refine z_get C G clX1 0 rfl 5 (by decide) m_fl_RX1_41 rfl dX1_does_124 ?_
        refine lv_iconst (v := 1) hx hb dX1_does_127 (by decide) ?_
        refine lv_iadd hx hb dX1_does_128 ?_
        refine z_put C G clX1 0 rfl 5 (by decide) m_fl_RX1_41 rfl rfl rfl (Nat.le_of_ble_eq_true rfl) dX1_does_129 (fun H locs G => ?_)
        have G : zS T A s.heap s [[zO1 h po a1_56 v0 la v1 (v2 + 1) v3 v4 v5 v6 v7], [zAr T 0 a1_56 7 fw], z, w2_57] _ _ := G
        refine lv_aload_n hx hb dX1_does_132 rfl (lv_at hl 1 rfl) ?_
        have hw_65 : bCourse T h po la fw v0 v1 (v2 + 1) v3 v4 v5 v6 v7 [zO1 h po a1_56 v0 la v1 (v2 + 1) v3 v4 v5 v6 v7, zAr T 0 a1_56 7 fw] := ⟨a1_56, rfl⟩
        have G : zS T A s.heap s [[zO1 h po a1_56 v0 la v1 (v2 + 1) v3 v4 v5 v6 v7, zAr T 0 a1_56 7 fw], z, w2_57] _ _ := G.re rfl
        refine z_Vv (bc := [[zO1 h po a1_56 v0 la v1 (v2 + 1) v3 v4 v5 v6 v7, zAr T 0 a1_56 7 fw], z]) (br := [w2_57]) (As := []) (rest := []) C G (c_lookAtCrowd l T h po la fw v0 v1 (v2 + 1) v3 v4 v5 v6 v7 ([zO1 h po a1_56 v0 la v1 (v2 + 1) v3 v4 v5 v6 v7, zAr T 0 a1_56 7 fw]) cr inn k1 k2 k3 k4 z hw_65 hz (by first | with_reducible assumption | with_reducible rfl | omega | assumption | rfl)) (kV_RX1_56 C.2.2.2.2 (Nat.le_of_ble_eq_true rfl) (Nat.le_of_ble_eq_true rfl)) [0, 1] [0, 0] rfl rfl (ci := 1) (qc := (RX1, TX1, 11)) rfl rfl (List.mem_flatten.mpr ⟨_, List.mem_of_getElem? (i := 0) rfl, (bCourse_mem hw_65).choose_spec⟩) rfl rfl hl.1 dX1_does_133 (Nat.le_of_ble_eq_true rfl) (Nat.le_of_ble_eq_true rfl) (fun b1 H locs hw G => ?_)
        refine zEx2 hw ?_
        intro wc2_66 u6_67
        refine zCu2 ?_
        intro hbs9 h_68
        clear hw
        subst hbs9
        have G : zS T A s.heap s [w2_57, wc2_66, z] _ _ := G
        refine lv_iload hx hb dX1_does_136 (lv_at hl 0 rfl) ?_
        have G := G.sub (bs' := [wc2_66, w2_57, z]) [1, 0, 2] rfl
        exact z_back hQz_ (z_zret C hr hlocks G (Nat.le_of_ble_eq_true rfl) (Nat.le_of_ble_eq_true rfl) dX1_does_138 rfl ⟨wc2_66, fw, v0, v1, (v2 + 1), v3, v4, v5, u6_67, v7, w2_57, g1_58, f2, st, wh, rfl, h_68, h_60, (by first | exact hP | exact hQt | assumption), (by first | exact Or.inl rfl | exact Or.inr rfl)⟩)
    · refine lv_tableIn (tgt := 82) hx hb dX1_does_1 (by first | (rw [c_1]; decide) | omega) (by first | (rw [c_1]; decide) | omega) (by rw [c_1]; rfl) (by decide) ?_
      refine lv_aload_n hx hb dX1_does_82 rfl (lv_at hl 0 rfl) ?_
      refine lv_iload_n hx hb dX1_does_83 rfl (lv_at hl 2 rfl) ?_
      refine z_Vi (bc := [wc, z]) (br := [wp]) (As := [.int x]) (rest := []) C G (c_Course_add l T h po la fw v0 v1 v2 v3 v4 v5 v6 v7 wc cr inn k1 k2 k3 k4 z x hc hz) (kV_RX1_102 C.2.2.2.2 (Nat.le_of_ble_eq_true rfl) (Nat.le_of_ble_eq_true rfl)) [0, 2] [0, 1] rfl rfl (ci := 1) (qc := (RX1, TX1, 11)) rfl rfl (List.mem_flatten.mpr ⟨_, List.mem_of_getElem? (i := 0) rfl, (bCourse_mem hc).choose_spec⟩) rfl rfl hl.1 dX1_does_84 (Nat.le_of_ble_eq_true rfl) (Nat.le_of_ble_eq_true rfl) (fun r_82 b1 H locs hw G => ?_)
      refine zEx10 hw ?_
      intro wc2_70 gw_71 u0_72 u1_73 u2_74 u3_75 u4_76 u5_77 u6_78 u7_79
      refine zCu3 ?_
      intro hbs9 h_80 h_81
      clear hw
      subst hbs9
      have G : zS T A s.heap s [wp, wc2_70, z] _ _ := G
      replace h_81 : zHd ((r_82 = 0 ∨ r_82 = 1)) := h_81
      refine lv_istore (lv' := [(4, .int r_82), (0, .ref h), (1, .int d), (2, .int x), (3, .int y)]) hx hb dX1_does_87 hl (by decide) (zLvf_h rfl) (fun ls hl => ?_)
      refine lv_goto (tgt := 117) hx hb dX1_does_89 (by decide) ?_
      refine lv_iload hx hb dX1_does_117 (lv_at hl 0 rfl) ?_
      refine lv_if_eq (tgt := 136) hx hb dX1_does_119 (by decide) (fun c_83 => ?_) (fun c_83 => ?_)
      · have c_83n : r_82.toInt = (0 : Int) := (fa_eq _ _).mp c_83
        refine lv_iload hx hb dX1_does_136 (lv_at hl 0 rfl) ?_
        have G := G.sub (bs' := [wc2_70, wp, z]) [1, 0, 2] rfl
        exact z_back hQz_ (z_zret C hr hlocks G (Nat.le_of_ble_eq_true rfl) (Nat.le_of_ble_eq_true rfl) dX1_does_138 (by rcases h_81 with q | q <;> rw [q] <;> rfl) ⟨wc2_70, gw_71, u0_72, u1_73, u2_74, u3_75, u4_76, u5_77, u6_78, u7_79, wp, f1, f2, st, wh, rfl, h_80, hp, (by first | exact hP | exact hQt | assumption), h_81⟩)
      · have c_83n : ¬ r_82.toInt = (0 : Int) := fun q => c_83 ((fa_eq _ _).mpr q)
        refine lv_aload_n hx hb dX1_does_122 rfl (lv_at hl 1 rfl) ?_
        refine lv_dup hx hb dX1_does_123 rfl ?_
        refine zEx1 h_80 ?_
        intro a1_84 hbs9
        clear h_80
        subst hbs9
        have G : zS T A s.heap s [wp, [zO1 h po a1_84 u0_72 la u1_73 u2_74 u3_75 u4_76 u5_77 u6_78 u7_79], [zAr T 0 a1_84 7 gw_71], z] _ _ := G.re rfl
        refine z_get C G clX1 1 rfl 5 (by decide) m_fl_RX1_41 rfl dX1_does_124 ?_
        refine lv_iconst (v := 1) hx hb dX1_does_127 (by decide) ?_
        refine lv_iadd hx hb dX1_does_128 ?_
        refine z_put C G clX1 1 rfl 5 (by decide) m_fl_RX1_41 rfl rfl rfl (Nat.le_of_ble_eq_true rfl) dX1_does_129 (fun H locs G => ?_)
        have G : zS T A s.heap s [wp, [zO1 h po a1_84 u0_72 la u1_73 (u2_74 + 1) u3_75 u4_76 u5_77 u6_78 u7_79], [zAr T 0 a1_84 7 gw_71], z] _ _ := G
        refine lv_aload_n hx hb dX1_does_132 rfl (lv_at hl 1 rfl) ?_
        have hw_85 : bCourse T h po la gw_71 u0_72 u1_73 (u2_74 + 1) u3_75 u4_76 u5_77 u6_78 u7_79 [zO1 h po a1_84 u0_72 la u1_73 (u2_74 + 1) u3_75 u4_76 u5_77 u6_78 u7_79, zAr T 0 a1_84 7 gw_71] := ⟨a1_84, rfl⟩
        have G : zS T A s.heap s [wp, [zO1 h po a1_84 u0_72 la u1_73 (u2_74 + 1) u3_75 u4_76 u5_77 u6_78 u7_79, zAr T 0 a1_84 7 gw_71], z] _ _ := G.re rfl
        refine z_Vv (bc := [[zO1 h po a1_84 u0_72 la u1_73 (u2_74 + 1) u3_75 u4_76 u5_77 u6_78 u7_79, zAr T 0 a1_84 7 gw_71], z]) (br := [wp]) (As := []) (rest := []) C G (c_lookAtCrowd l T h po la gw_71 u0_72 u1_73 (u2_74 + 1) u3_75 u4_76 u5_77 u6_78 u7_79 ([zO1 h po a1_84 u0_72 la u1_73 (u2_74 + 1) u3_75 u4_76 u5_77 u6_78 u7_79, zAr T 0 a1_84 7 gw_71]) cr inn k1 k2 k3 k4 z hw_85 hz (by first | with_reducible assumption | with_reducible rfl | omega | assumption | rfl)) (kV_RX1_56 C.2.2.2.2 (Nat.le_of_ble_eq_true rfl) (Nat.le_of_ble_eq_true rfl)) [1, 2] [1, 0] rfl rfl (ci := 1) (qc := (RX1, TX1, 11)) rfl rfl (List.mem_flatten.mpr ⟨_, List.mem_of_getElem? (i := 0) rfl, (bCourse_mem hw_85).choose_spec⟩) rfl rfl hl.1 dX1_does_133 (Nat.le_of_ble_eq_true rfl) (Nat.le_of_ble_eq_true rfl) (fun b1 H locs hw G => ?_)
        refine zEx2 hw ?_
        intro wc2_86 u6_87
        refine zCu2 ?_
        intro hbs9 h_88
        clear hw
        subst hbs9
        have G : zS T A s.heap s [wp, wc2_86, z] _ _ := G
        refine lv_iload hx hb dX1_does_136 (lv_at hl 0 rfl) ?_
        have G := G.sub (bs' := [wc2_86, wp, z]) [1, 0, 2] rfl
        exact z_back hQz_ (z_zret C hr hlocks G (Nat.le_of_ble_eq_true rfl) (Nat.le_of_ble_eq_true rfl) dX1_does_138 (by rcases h_81 with q | q <;> rw [q] <;> rfl) ⟨wc2_86, gw_71, u0_72, u1_73, (u2_74 + 1), u3_75, u4_76, u5_77, u6_87, u7_79, wp, f1, f2, st, wh, rfl, h_88, hp, (by first | exact hP | exact hQt | assumption), h_81⟩)
    · refine lv_tableIn (tgt := 92) hx hb dX1_does_1 (by first | (rw [c_1]; decide) | omega) (by first | (rw [c_1]; decide) | omega) (by rw [c_1]; rfl) (by decide) ?_
      refine lv_aload_n hx hb dX1_does_92 rfl (lv_at hl 0 rfl) ?_
      refine lv_iload_n hx hb dX1_does_93 rfl (lv_at hl 2 rfl) ?_
      refine lv_iload_n hx hb dX1_does_94 rfl (lv_at hl 3 rfl) ?_
      refine z_Vi (bc := [wc, wp, z]) (br := []) (As := [.int x, .int y]) (rest := []) C G (c_Course_shut l T h po la fw v0 v1 v2 v3 v4 v5 v6 v7 wc f1 f2 f3 st wh wp cr inn k1 k2 k3 k4 z x y hc hp hz hP) (kV_RX1_105 C.2.2.2.2 (Nat.le_of_ble_eq_true rfl) (Nat.le_of_ble_eq_true rfl)) [0, 1, 2] [0, 0, 0] rfl rfl (ci := 1) (qc := (RX1, TX1, 11)) rfl rfl (List.mem_flatten.mpr ⟨_, List.mem_of_getElem? (i := 0) rfl, (bCourse_mem hc).choose_spec⟩) rfl rfl hl.1 dX1_does_95 (Nat.le_of_ble_eq_true rfl) (Nat.le_of_ble_eq_true rfl) (fun r_109 b1 H locs hw G => ?_)
      refine zEx15 hw ?_
      intro wc2_90 gw_91 u0_92 u1_93 u2_94 u3_95 u4_96 u5_97 u6_98 u7_99 wp2_100 g1_101 g2_102 sa_103 wa_104
      refine zCu5 ?_
      intro hbs9 h_105 h_106 h_107 h_108
      clear hw
      subst hbs9
      have G : zS T A s.heap s [wc2_90, wp2_100, z] _ _ := G
      replace h_108 : zHd ((r_109 = 0 ∨ r_109 = 1)) := h_108
      refine lv_istore (lv' := [(4, .int r_109), (0, .ref h), (1, .int d), (2, .int x), (3, .int y)]) hx hb dX1_does_98 hl (by decide) (zLvf_h rfl) (fun ls hl => ?_)
      refine lv_goto (tgt := 117) hx hb dX1_does_100 (by decide) ?_
      refine lv_iload hx hb dX1_does_117 (lv_at hl 0 rfl) ?_
      refine lv_if_eq (tgt := 136) hx hb dX1_does_119 (by decide) (fun c_110 => ?_) (fun c_110 => ?_)
      · have c_110n : r_109.toInt = (0 : Int) := (fa_eq _ _).mp c_110
        refine lv_iload hx hb dX1_does_136 (lv_at hl 0 rfl) ?_
        exact z_back hQz_ (z_zret C hr hlocks G (Nat.le_of_ble_eq_true rfl) (Nat.le_of_ble_eq_true rfl) dX1_does_138 (by rcases h_108 with q | q <;> rw [q] <;> rfl) ⟨wc2_90, gw_91, u0_92, u1_93, u2_94, u3_95, u4_96, u5_97, u6_98, u7_99, wp2_100, g1_101, g2_102, sa_103, wa_104, rfl, h_105, h_106, (by first | exact hP | exact hQt | assumption), h_108⟩)
      · have c_110n : ¬ r_109.toInt = (0 : Int) := fun q => c_110 ((fa_eq _ _).mpr q)
        refine lv_aload_n hx hb dX1_does_122 rfl (lv_at hl 1 rfl) ?_
        refine lv_dup hx hb dX1_does_123 rfl ?_
        refine zEx1 h_105 ?_
        intro a1_111 hbs9
        clear h_105
        subst hbs9
        have G : zS T A s.heap s [[zO1 h po a1_111 u0_92 la u1_93 u2_94 u3_95 u4_96 u5_97 u6_98 u7_99], [zAr T 0 a1_111 7 gw_91], wp2_100, z] _ _ := G.re rfl
        refine z_get C G clX1 0 rfl 5 (by decide) m_fl_RX1_41 rfl dX1_does_124 ?_
        refine lv_iconst (v := 1) hx hb dX1_does_127 (by decide) ?_
        refine lv_iadd hx hb dX1_does_128 ?_
        refine z_put C G clX1 0 rfl 5 (by decide) m_fl_RX1_41 rfl rfl rfl (Nat.le_of_ble_eq_true rfl) dX1_does_129 (fun H locs G => ?_)
        have G : zS T A s.heap s [[zO1 h po a1_111 u0_92 la u1_93 (u2_94 + 1) u3_95 u4_96 u5_97 u6_98 u7_99], [zAr T 0 a1_111 7 gw_91], wp2_100, z] _ _ := G
        refine lv_aload_n hx hb dX1_does_132 rfl (lv_at hl 1 rfl) ?_
        have hw_112 : bCourse T h po la gw_91 u0_92 u1_93 (u2_94 + 1) u3_95 u4_96 u5_97 u6_98 u7_99 [zO1 h po a1_111 u0_92 la u1_93 (u2_94 + 1) u3_95 u4_96 u5_97 u6_98 u7_99, zAr T 0 a1_111 7 gw_91] := ⟨a1_111, rfl⟩
        have G : zS T A s.heap s [[zO1 h po a1_111 u0_92 la u1_93 (u2_94 + 1) u3_95 u4_96 u5_97 u6_98 u7_99, zAr T 0 a1_111 7 gw_91], wp2_100, z] _ _ := G.re rfl
        refine z_Vv (bc := [[zO1 h po a1_111 u0_92 la u1_93 (u2_94 + 1) u3_95 u4_96 u5_97 u6_98 u7_99, zAr T 0 a1_111 7 gw_91], z]) (br := [wp2_100]) (As := []) (rest := []) C G (c_lookAtCrowd l T h po la gw_91 u0_92 u1_93 (u2_94 + 1) u3_95 u4_96 u5_97 u6_98 u7_99 ([zO1 h po a1_111 u0_92 la u1_93 (u2_94 + 1) u3_95 u4_96 u5_97 u6_98 u7_99, zAr T 0 a1_111 7 gw_91]) cr inn k1 k2 k3 k4 z hw_112 hz (by first | with_reducible assumption | with_reducible rfl | omega | assumption | rfl)) (kV_RX1_56 C.2.2.2.2 (Nat.le_of_ble_eq_true rfl) (Nat.le_of_ble_eq_true rfl)) [0, 2] [0, 1] rfl rfl (ci := 1) (qc := (RX1, TX1, 11)) rfl rfl (List.mem_flatten.mpr ⟨_, List.mem_of_getElem? (i := 0) rfl, (bCourse_mem hw_112).choose_spec⟩) rfl rfl hl.1 dX1_does_133 (Nat.le_of_ble_eq_true rfl) (Nat.le_of_ble_eq_true rfl) (fun b1 H locs hw G => ?_)
        refine zEx2 hw ?_
        intro wc2_113 u6_114
        refine zCu2 ?_
        intro hbs9 h_115
        clear hw
        subst hbs9
        have G : zS T A s.heap s [wp2_100, wc2_113, z] _ _ := G
        refine lv_iload hx hb dX1_does_136 (lv_at hl 0 rfl) ?_
        have G := G.sub (bs' := [wc2_113, wp2_100, z]) [1, 0, 2] rfl
        exact z_back hQz_ (z_zret C hr hlocks G (Nat.le_of_ble_eq_true rfl) (Nat.le_of_ble_eq_true rfl) dX1_does_138 (by rcases h_108 with q | q <;> rw [q] <;> rfl) ⟨wc2_113, gw_91, u0_92, u1_93, (u2_94 + 1), u3_95, u4_96, u5_97, u6_114, u7_99, wp2_100, g1_101, g2_102, sa_103, wa_104, rfl, h_115, h_106, (by first | exact hP | exact hQt | assumption), h_108⟩)
    · refine lv_tableIn (tgt := 103) hx hb dX1_does_1 (by first | (rw [c_1]; decide) | omega) (by first | (rw [c_1]; decide) | omega) (by rw [c_1]; rfl) (by decide) ?_
      refine lv_aload_n hx hb dX1_does_103 rfl (lv_at hl 0 rfl) ?_
      refine lv_iload_n hx hb dX1_does_104 rfl (lv_at hl 2 rfl) ?_
      refine lv_iload_n hx hb dX1_does_105 rfl (lv_at hl 3 rfl) ?_
      refine z_Vi (bc := [wc, wp, z]) (br := []) (As := [.int x, .int y]) (rest := []) C G (c_Course_open l T h po la fw v0 v1 v2 v3 v4 v5 v6 v7 wc f1 f2 f3 st wh wp cr inn k1 k2 k3 k4 z x y hc hp hz hP) (kV_RX1_109 C.2.2.2.2 (Nat.le_of_ble_eq_true rfl) (Nat.le_of_ble_eq_true rfl)) [0, 1, 2] [0, 0, 0] rfl rfl (ci := 1) (qc := (RX1, TX1, 11)) rfl rfl (List.mem_flatten.mpr ⟨_, List.mem_of_getElem? (i := 0) rfl, (bCourse_mem hc).choose_spec⟩) rfl rfl hl.1 dX1_does_106 (Nat.le_of_ble_eq_true rfl) (Nat.le_of_ble_eq_true rfl) (fun r_136 b1 H locs hw G => ?_)
      refine zEx15 hw ?_
      intro wc2_117 gw_118 u0_119 u1_120 u2_121 u3_122 u4_123 u5_124 u6_125 u7_126 wp2_127 g1_128 g2_129 sa_130 wa_131
      refine zCu5 ?_
      intro hbs9 h_132 h_133 h_134 h_135
      clear hw
      subst hbs9
      have G : zS T A s.heap s [wc2_117, wp2_127, z] _ _ := G
      replace h_135 : zHd ((r_136 = 0 ∨ r_136 = 1)) := h_135
      refine lv_istore (lv' := [(4, .int r_136), (0, .ref h), (1, .int d), (2, .int x), (3, .int y)]) hx hb dX1_does_109 hl (by decide) (zLvf_h rfl) (fun ls hl => ?_)
      refine lv_goto (tgt := 117) hx hb dX1_does_111 (by decide) ?_
      refine lv_iload hx hb dX1_does_117 (lv_at hl 0 rfl) ?_
      refine lv_if_eq (tgt := 136) hx hb dX1_does_119 (by decide) (fun c_137 => ?_) (fun c_137 => ?_)
      · have c_137n : r_136.toInt = (0 : Int) := (fa_eq _ _).mp c_137
        refine lv_iload hx hb dX1_does_136 (lv_at hl 0 rfl) ?_
        exact z_back hQz_ (z_zret C hr hlocks G (Nat.le_of_ble_eq_true rfl) (Nat.le_of_ble_eq_true rfl) dX1_does_138 (by rcases h_135 with q | q <;> rw [q] <;> rfl) ⟨wc2_117, gw_118, u0_119, u1_120, u2_121, u3_122, u4_123, u5_124, u6_125, u7_126, wp2_127, g1_128, g2_129, sa_130, wa_131, rfl, h_132, h_133, (by first | exact hP | exact hQt | assumption), h_135⟩)
      · have c_137n : ¬ r_136.toInt = (0 : Int) := fun q => c_137 ((fa_eq _ _).mpr q)
        refine lv_aload_n hx hb dX1_does_122 rfl (lv_at hl 1 rfl) ?_
        refine lv_dup hx hb dX1_does_123 rfl ?_
        refine zEx1 h_132 ?_
        intro a1_138 hbs9
        clear h_132
        subst hbs9
        have G : zS T A s.heap s [[zO1 h po a1_138 u0_119 la u1_120 u2_121 u3_122 u4_123 u5_124 u6_125 u7_126], [zAr T 0 a1_138 7 gw_118], wp2_127, z] _ _ := G.re rfl
        refine z_get C G clX1 0 rfl 5 (by decide) m_fl_RX1_41 rfl dX1_does_124 ?_
        refine lv_iconst (v := 1) hx hb dX1_does_127 (by decide) ?_
        refine lv_iadd hx hb dX1_does_128 ?_
        refine z_put C G clX1 0 rfl 5 (by decide) m_fl_RX1_41 rfl rfl rfl (Nat.le_of_ble_eq_true rfl) dX1_does_129 (fun H locs G => ?_)
        have G : zS T A s.heap s [[zO1 h po a1_138 u0_119 la u1_120 (u2_121 + 1) u3_122 u4_123 u5_124 u6_125 u7_126], [zAr T 0 a1_138 7 gw_118], wp2_127, z] _ _ := G
        refine lv_aload_n hx hb dX1_does_132 rfl (lv_at hl 1 rfl) ?_
        have hw_139 : bCourse T h po la gw_118 u0_119 u1_120 (u2_121 + 1) u3_122 u4_123 u5_124 u6_125 u7_126 [zO1 h po a1_138 u0_119 la u1_120 (u2_121 + 1) u3_122 u4_123 u5_124 u6_125 u7_126, zAr T 0 a1_138 7 gw_118] := ⟨a1_138, rfl⟩
        have G : zS T A s.heap s [[zO1 h po a1_138 u0_119 la u1_120 (u2_121 + 1) u3_122 u4_123 u5_124 u6_125 u7_126, zAr T 0 a1_138 7 gw_118], wp2_127, z] _ _ := G.re rfl
        refine z_Vv (bc := [[zO1 h po a1_138 u0_119 la u1_120 (u2_121 + 1) u3_122 u4_123 u5_124 u6_125 u7_126, zAr T 0 a1_138 7 gw_118], z]) (br := [wp2_127]) (As := []) (rest := []) C G (c_lookAtCrowd l T h po la gw_118 u0_119 u1_120 (u2_121 + 1) u3_122 u4_123 u5_124 u6_125 u7_126 ([zO1 h po a1_138 u0_119 la u1_120 (u2_121 + 1) u3_122 u4_123 u5_124 u6_125 u7_126, zAr T 0 a1_138 7 gw_118]) cr inn k1 k2 k3 k4 z hw_139 hz (by first | with_reducible assumption | with_reducible rfl | omega | assumption | rfl)) (kV_RX1_56 C.2.2.2.2 (Nat.le_of_ble_eq_true rfl) (Nat.le_of_ble_eq_true rfl)) [0, 2] [0, 1] rfl rfl (ci := 1) (qc := (RX1, TX1, 11)) rfl rfl (List.mem_flatten.mpr ⟨_, List.mem_of_getElem? (i := 0) rfl, (bCourse_mem hw_139).choose_spec⟩) rfl rfl hl.1 dX1_does_133 (Nat.le_of_ble_eq_true rfl) (Nat.le_of_ble_eq_true rfl) (fun b1 H locs hw G => ?_)
        refine zEx2 hw ?_
        intro wc2_140 u6_141
        refine zCu2 ?_
        intro hbs9 h_142
        clear hw
        subst hbs9
        have G : zS T A s.heap s [wp2_127, wc2_140, z] _ _ := G
        refine lv_iload hx hb dX1_does_136 (lv_at hl 0 rfl) ?_
        have G := G.sub (bs' := [wc2_140, wp2_127, z]) [1, 0, 2] rfl
        exact z_back hQz_ (z_zret C hr hlocks G (Nat.le_of_ble_eq_true rfl) (Nat.le_of_ble_eq_true rfl) dX1_does_138 (by rcases h_135 with q | q <;> rw [q] <;> rfl) ⟨wc2_140, gw_118, u0_119, u1_120, (u2_121 + 1), u3_122, u4_123, u5_124, u6_141, u7_126, wp2_127, g1_128, g2_129, sa_130, wa_131, rfl, h_142, h_133, (by first | exact hP | exact hQt | assumption), h_135⟩)
set_option maxHeartbeats 4000000 in
set_option maxRecDepth 100000 in
/-- goThrough -/
theorem c_goThrough (l : Launch) (T : zTy) (h : Nat) (po : Nat) (la : Nat) (fw : Nat → Int32) (v0 : Int32) (v1 : Int32) (v2 : Int32) (v3 : Int32) (v4 : Int32) (v5 : Int32) (v6 : Int32) (v7 : Int32) (wc : va_W) (lp : Nat) (f1 : Nat → Int32) (f2 : Nat → Int32) (f3 : Nat → Int32) (st : Int32) (wh : Int32) (wp : va_W) (o : Nat) (cr : Int32) (inn : Int32) (k1 : Nat → Int32) (k2 : Nat → Int32) (k3 : Nat → Int32) (k4 : Nat → Int32) (z : va_W) (dy : Nat) (dd : Int32) (d1 : Nat → Int32) (d2 : Nat → Int32) (d3 : Nat → Int32) (wd : va_W) (n : Int32) (hc : bCourse T h po la fw v0 v1 v2 v3 v4 v5 v6 v7 wc) (hp : bPosts T po lp f1 f2 f3 st wh wp) (hz : bLand T o cr inn k1 k2 k3 k4 z) (hI : zLI cr k1 k3) (hd : bDay T dy dd d1 d2 d3 wd) : zMi l T yX1_goThrough cX1_goThrough 5 (some .int) 7 0 0 [.ref h, .ref o, .ref dy, .int n] [wc, wp, z, wd] (fun (r : Int32) bs => ∃ (wc2 : va_W) (gw : Nat → Int32) (u0 : Int32) (u1 : Int32) (u2 : Int32) (u3 : Int32) (u4 : Int32) (u5 : Int32) (u6 : Int32) (u7 : Int32) (wp2 : va_W) (g1 : Nat → Int32) (g2 : Nat → Int32) (g3 : Nat → Int32) (sa : Int32) (wa : Int32), bs = [wc2, wp2, z, wd] ∧ bCourse T h po o gw u0 u1 u2 u3 u4 u5 u6 u7 wc2 ∧ bPosts T po o g1 g2 g3 sa wa wp2 ∧ zP3 g1 g3) := by
  refine zMi_of (own := RX1) (by decide) rfl (Nat.le_of_ble_eq_true rfl) ?_
  intro p e s m args below meth c A ls C hr hlocks hnm hAe G hl
  refine zHide (fun Qz_ hQz_ => ?_)
  have hx := C.1
  have hb := C.2.1
  have hl : lv_has ls 5 [(0, .ref h), (1, .ref o), (2, .ref dy), (3, .int n)] := hl
  refine lv_aload_n hx hb dX1_goThrough_0 rfl (lv_at hl 0 rfl) ?_
  refine lv_aload_n hx hb dX1_goThrough_1 rfl (lv_at hl 1 rfl) ?_
  refine z_Vv (bc := [wc, wp, z]) (br := [wd]) (As := [.ref o]) (rest := []) C G (c_Course_begin l T h po la fw v0 v1 v2 v3 v4 v5 v6 v7 wc lp f1 f2 f3 st wh wp o cr inn k1 k2 k3 k4 z hc hp hz (by first | with_reducible assumption | with_reducible rfl | omega | assumption | rfl)) (kV_RX1_59 C.2.2.2.2 (Nat.le_of_ble_eq_true rfl) (Nat.le_of_ble_eq_true rfl)) [0, 1, 2] [0, 0, 0] rfl rfl (ci := 1) (qc := (RX1, TX1, 11)) rfl rfl (List.mem_flatten.mpr ⟨_, List.mem_of_getElem? (i := 0) rfl, (bCourse_mem hc).choose_spec⟩) rfl rfl hl.1 dX1_goThrough_2 (Nat.le_of_ble_eq_true rfl) (Nat.le_of_ble_eq_true rfl) (fun b1 H locs hw G => ?_)
  refine zEx7 hw ?_
  intro wc2_1 gw_2 u6_3 wp2_4 g1_5 g2_6 g3_7
  refine zCu8 ?_
  intro hbs9 h_8 h_9 h_10 h_11 h_12 h_13 h_14
  clear hw
  subst hbs9
  have G : zS T A s.heap s [wd, wc2_1, wp2_4, z] _ _ := G
  have hQ : zP3 g1_5 g3_7 := h_11
  refine lv_iconst (v := 0) hx hb dX1_goThrough_5 (by decide) ?_
  refine lv_istore (lv' := [(4, .int 0), (0, .ref h), (1, .ref o), (2, .ref dy), (3, .int n)]) hx hb dX1_goThrough_6 hl (by decide) (zLvf_h rfl) (fun ls hl => ?_)
  refine zEx1 h_8 ?_
  intro a1_16 hbs9
  clear h_8
  subst hbs9
  have G : zS T A s.heap s [wd, [zO1 h po a1_16 0 o 0 0 (-1) 0 0 u6_3 v7], [zAr T 0 a1_16 7 gw_2], wp2_4, z] _ _ := G.re rfl
  refine zEx3 h_9 ?_
  intro a1_17 a2_18 a3_19 hbs9
  clear h_9
  subst hbs9
  have G : zS T A s.heap s [wd, [zO1 h po a1_16 0 o 0 0 (-1) 0 0 u6_3 v7], [zAr T 0 a1_16 7 gw_2], [zO6 po o a1_17 a2_18 0 0 a3_19], [zAr T 0 a1_17 7 g1_5], [zAr T 0 a2_18 7 g2_6], [zAr T 0 a3_19 7 g3_7], z] _ _ := G.re rfl
  refine zEx4 hz ?_
  intro a1_20 a2_21 a3_22 a4_23 hbs9
  clear hz
  subst hbs9
  have G : zS T A s.heap s [wd, [zO1 h po a1_16 0 o 0 0 (-1) 0 0 u6_3 v7], [zAr T 0 a1_16 7 gw_2], [zO6 po o a1_17 a2_18 0 0 a3_19], [zAr T 0 a1_17 7 g1_5], [zAr T 0 a2_18 7 g2_6], [zAr T 0 a3_19 7 g3_7], [zO4 o cr inn a1_20 a2_21 a3_22 a4_23], [zAr T 0 a1_20 7 k1], [zAr T 0 a2_21 28 k2], [zAr T 0 a3_22 7 k3], [zAr T 0 a4_23 7 k4]] _ _ := G.re rfl
  refine zEx3 hd ?_
  intro a1_24 a2_25 a3_26 hbs9
  clear hd
  subst hbs9
  have G : zS T A s.heap s [[(dy, .inr (2, [.int dd, .ref a1_24, .ref a2_25, .ref a3_26]))], [zAr T 0 a1_24 40 d1], [zAr T 0 a2_25 40 d2], [zAr T 0 a3_26 40 d3], [zO1 h po a1_16 0 o 0 0 (-1) 0 0 u6_3 v7], [zAr T 0 a1_16 7 gw_2], [zO6 po o a1_17 a2_18 0 0 a3_19], [zAr T 0 a1_17 7 g1_5], [zAr T 0 a2_18 7 g2_6], [zAr T 0 a3_19 7 g3_7], [zO4 o cr inn a1_20 a2_21 a3_22 a4_23], [zAr T 0 a1_20 7 k1], [zAr T 0 a2_21 28 k2], [zAr T 0 a3_22 7 k3], [zAr T 0 a4_23 7 k4]] _ _ := G.re rfl
  have hw_27 : bCourse T h po o gw_2 0 0 0 (-1) 0 0 u6_3 v7 [zO1 h po a1_16 0 o 0 0 (-1) 0 0 u6_3 v7, zAr T 0 a1_16 7 gw_2] := ⟨a1_16, rfl⟩
  have G : zS T A s.heap s [[(dy, .inr (2, [.int dd, .ref a1_24, .ref a2_25, .ref a3_26]))], [zAr T 0 a1_24 40 d1], [zAr T 0 a2_25 40 d2], [zAr T 0 a3_26 40 d3], [zO1 h po a1_16 0 o 0 0 (-1) 0 0 u6_3 v7, zAr T 0 a1_16 7 gw_2], [zO6 po o a1_17 a2_18 0 0 a3_19], [zAr T 0 a1_17 7 g1_5], [zAr T 0 a2_18 7 g2_6], [zAr T 0 a3_19 7 g3_7], [zO4 o cr inn a1_20 a2_21 a3_22 a4_23], [zAr T 0 a1_20 7 k1], [zAr T 0 a2_21 28 k2], [zAr T 0 a3_22 7 k3], [zAr T 0 a4_23 7 k4]] _ _ := G.re rfl
  have hw_28 : bPosts T po o g1_5 g2_6 g3_7 0 0 [zO6 po o a1_17 a2_18 0 0 a3_19, zAr T 0 a1_17 7 g1_5, zAr T 0 a2_18 7 g2_6, zAr T 0 a3_19 7 g3_7] := ⟨a1_17, a2_18, a3_19, rfl⟩
  have G : zS T A s.heap s [[(dy, .inr (2, [.int dd, .ref a1_24, .ref a2_25, .ref a3_26]))], [zAr T 0 a1_24 40 d1], [zAr T 0 a2_25 40 d2], [zAr T 0 a3_26 40 d3], [zO1 h po a1_16 0 o 0 0 (-1) 0 0 u6_3 v7, zAr T 0 a1_16 7 gw_2], [zO6 po o a1_17 a2_18 0 0 a3_19, zAr T 0 a1_17 7 g1_5, zAr T 0 a2_18 7 g2_6, zAr T 0 a3_19 7 g3_7], [zO4 o cr inn a1_20 a2_21 a3_22 a4_23], [zAr T 0 a1_20 7 k1], [zAr T 0 a2_21 28 k2], [zAr T 0 a3_22 7 k3], [zAr T 0 a4_23 7 k4]] _ _ := G.re rfl
  have hw_29 : bLand T o cr inn k1 k2 k3 k4 [zO4 o cr inn a1_20 a2_21 a3_22 a4_23, zAr T 0 a1_20 7 k1, zAr T 0 a2_21 28 k2, zAr T 0 a3_22 7 k3, zAr T 0 a4_23 7 k4] := ⟨a1_20, a2_21, a3_22, a4_23, rfl⟩
  have G : zS T A s.heap s [[(dy, .inr (2, [.int dd, .ref a1_24, .ref a2_25, .ref a3_26]))], [zAr T 0 a1_24 40 d1], [zAr T 0 a2_25 40 d2], [zAr T 0 a3_26 40 d3], [zO1 h po a1_16 0 o 0 0 (-1) 0 0 u6_3 v7, zAr T 0 a1_16 7 gw_2], [zO6 po o a1_17 a2_18 0 0 a3_19, zAr T 0 a1_17 7 g1_5, zAr T 0 a2_18 7 g2_6, zAr T 0 a3_19 7 g3_7], [zO4 o cr inn a1_20 a2_21 a3_22 a4_23, zAr T 0 a1_20 7 k1, zAr T 0 a2_21 28 k2, zAr T 0 a3_22 7 k3, zAr T 0 a4_23 7 k4]] _ _ := G.re rfl
  have hw_30 : bDay T dy dd d1 d2 d3 [(dy, .inr (2, [.int dd, .ref a1_24, .ref a2_25, .ref a3_26])), zAr T 0 a1_24 40 d1, zAr T 0 a2_25 40 d2, zAr T 0 a3_26 40 d3] := ⟨a1_24, a2_25, a3_26, rfl⟩
  have G : zS T A s.heap s [[(dy, .inr (2, [.int dd, .ref a1_24, .ref a2_25, .ref a3_26])), zAr T 0 a1_24 40 d1, zAr T 0 a2_25 40 d2, zAr T 0 a3_26 40 d3], [zO1 h po a1_16 0 o 0 0 (-1) 0 0 u6_3 v7, zAr T 0 a1_16 7 gw_2], [zO6 po o a1_17 a2_18 0 0 a3_19, zAr T 0 a1_17 7 g1_5, zAr T 0 a2_18 7 g2_6, zAr T 0 a3_19 7 g3_7], [zO4 o cr inn a1_20 a2_21 a3_22 a4_23, zAr T 0 a1_20 7 k1, zAr T 0 a2_21 28 k2, zAr T 0 a3_22 7 k3, zAr T 0 a4_23 7 k4]] _ _ := G.re rfl
  refine z_lp16 (T := T) 8 (fun (i : Nat) (wc3 : va_W) (xw : Nat → Int32) (y0 : Int32) (y1 : Int32) (y2 : Int32) (y3 : Int32) (y4 : Int32) (y5 : Int32) (y6 : Int32) (y7 : Int32) (wp3 : va_W) (x1 : Nat → Int32) (x2 : Nat → Int32) (sb : Int32) (wb : Int32) => [[(dy, .inr (2, [.int dd, .ref a1_24, .ref a2_25, .ref a3_26])), zAr T 0 a1_24 40 d1, zAr T 0 a2_25 40 d2, zAr T 0 a3_26 40 d3], wc3, wp3, [zO4 o cr inn a1_20 a2_21 a3_22 a4_23, zAr T 0 a1_20 7 k1, zAr T 0 a2_21 28 k2, zAr T 0 a3_22 7 k3, zAr T 0 a4_23 7 k4]]) (fun (i : Nat) (wc3 : va_W) (xw : Nat → Int32) (y0 : Int32) (y1 : Int32) (y2 : Int32) (y3 : Int32) (y4 : Int32) (y5 : Int32) (y6 : Int32) (y7 : Int32) (wp3 : va_W) (x1 : Nat → Int32) (x2 : Nat → Int32) (sb : Int32) (wb : Int32) => [(4, .int (nI i)), (0, .ref h), (1, .ref o), (2, .ref dy), (3, .int n)]) (fun (i : Nat) (wc3 : va_W) (xw : Nat → Int32) (y0 : Int32) (y1 : Int32) (y2 : Int32) (y3 : Int32) (y4 : Int32) (y5 : Int32) (y6 : Int32) (y7 : Int32) (wp3 : va_W) (x1 : Nat → Int32) (x2 : Nat → Int32) (sb : Int32) (wb : Int32) => bCourse T h po o xw y0 y1 y2 y3 y4 y5 y6 y7 wc3 ∧ bPosts T po o x1 x2 g3_7 sb wb wp3 ∧ i ≤ 40 ∧ zP3 x1 g3_7) (fun (i : Nat) (wc3 : va_W) (xw : Nat → Int32) (y0 : Int32) (y1 : Int32) (y2 : Int32) (y3 : Int32) (y4 : Int32) (y5 : Int32) (y6 : Int32) (y7 : Int32) (wp3 : va_W) (x1 : Nat → Int32) (x2 : Nat → Int32) (sb : Int32) (wb : Int32) => 40 - i) ?_ 0 ([zO1 h po a1_16 0 o 0 0 (-1) 0 0 u6_3 v7, zAr T 0 a1_16 7 gw_2]) gw_2 0 0 0 (-1) 0 0 u6_3 v7 ([zO6 po o a1_17 a2_18 0 0 a3_19, zAr T 0 a1_17 7 g1_5, zAr T 0 a2_18 7 g2_6, zAr T 0 a3_19 7 g3_7]) g1_5 g2_6 0 0 (show bCourse T h po o gw_2 0 0 0 (-1) 0 0 u6_3 v7 ([zO1 h po a1_16 0 o 0 0 (-1) 0 0 u6_3 v7, zAr T 0 a1_16 7 gw_2]) ∧ bPosts T po o g1_5 g2_6 g3_7 0 0 ([zO6 po o a1_17 a2_18 0 0 a3_19, zAr T 0 a1_17 7 g1_5, zAr T 0 a2_18 7 g2_6, zAr T 0 a3_19 7 g3_7]) ∧ 0 ≤ 40 ∧ zP3 g1_5 g3_7 from ⟨hw_27, hw_28, by omega, hQ⟩) G (lv_sub hl [0, 1, 2, 3, 4] rfl)
  intro i wc3 xw y0 y1 y2 y3 y4 y5 y6 y7 wp3 x1 x2 sb wb hI9 ih_8 H locs ls G hl
  replace hI9 : bCourse T h po o xw y0 y1 y2 y3 y4 y5 y6 y7 wc3 ∧ bPosts T po o x1 x2 g3_7 sb wb wp3 ∧ i ≤ 40 ∧ zP3 x1 g3_7 := hI9
  refine zAn4 hI9 ?_
  intro hc3 hp3 hi hQx
  clear hI9
  replace G : zS T A s.heap s [[(dy, .inr (2, [.int dd, .ref a1_24, .ref a2_25, .ref a3_26])), zAr T 0 a1_24 40 d1, zAr T 0 a2_25 40 d2, zAr T 0 a3_26 40 d3], wc3, wp3, [zO4 o cr inn a1_20 a2_21 a3_22 a4_23, zAr T 0 a1_20 7 k1, zAr T 0 a2_21 28 k2, zAr T 0 a3_22 7 k3, zAr T 0 a4_23 7 k4]] _ _ := G
  replace hl : lv_has ls 5 [(4, .int (nI i)), (0, .ref h), (1, .ref o), (2, .ref dy), (3, .int n)] := hl
  refine lv_iload hx hb dX1_goThrough_8 (lv_at hl 0 rfl) ?_
  refine lv_iload_n hx hb dX1_goThrough_10 rfl (lv_at hl 4 rfl) ?_
  refine lv_icmp_ge (tgt := 69) hx hb dX1_goThrough_11 (by decide) (fun c_31 => ?_) (fun c_31 => ?_)
  · have c_31n : n.toInt ≤ (i : Int) := by have q := (fa_le _ _).mp c_31; rw [nI_toInt (n := i) (by omega)] at q; exact q
    refine lv_aload_n hx hb dX1_goThrough_69 rfl (lv_at hl 1 rfl) ?_
    refine zEx1 hc3 ?_
    intro a1_32 hbs9
    clear hc3
    subst hbs9
    have G : zS T A s.heap s [[(dy, .inr (2, [.int dd, .ref a1_24, .ref a2_25, .ref a3_26])), zAr T 0 a1_24 40 d1, zAr T 0 a2_25 40 d2, zAr T 0 a3_26 40 d3], [zO1 h po a1_32 y0 o y1 y2 y3 y4 y5 y6 y7], [zAr T 0 a1_32 7 xw], wp3, [zO4 o cr inn a1_20 a2_21 a3_22 a4_23, zAr T 0 a1_20 7 k1, zAr T 0 a2_21 28 k2, zAr T 0 a3_22 7 k3, zAr T 0 a4_23 7 k4]] _ _ := G.re rfl
    refine z_get C G clX1 1 rfl 5 (by decide) m_fl_RX1_41 rfl dX1_goThrough_70 ?_
    have hw_33 : bCourse T h po o xw y0 y1 y2 y3 y4 y5 y6 y7 [zO1 h po a1_32 y0 o y1 y2 y3 y4 y5 y6 y7, zAr T 0 a1_32 7 xw] := ⟨a1_32, rfl⟩
    have G : zS T A s.heap s [[(dy, .inr (2, [.int dd, .ref a1_24, .ref a2_25, .ref a3_26])), zAr T 0 a1_24 40 d1, zAr T 0 a2_25 40 d2, zAr T 0 a3_26 40 d3], [zO1 h po a1_32 y0 o y1 y2 y3 y4 y5 y6 y7, zAr T 0 a1_32 7 xw], wp3, [zO4 o cr inn a1_20 a2_21 a3_22 a4_23, zAr T 0 a1_20 7 k1, zAr T 0 a2_21 28 k2, zAr T 0 a3_22 7 k3, zAr T 0 a4_23 7 k4]] _ _ := G.re rfl
    have G := G.sub (bs' := [[zO1 h po a1_32 y0 o y1 y2 y3 y4 y5 y6 y7, zAr T 0 a1_32 7 xw], wp3, [zO4 o cr inn a1_20 a2_21 a3_22 a4_23, zAr T 0 a1_20 7 k1, zAr T 0 a2_21 28 k2, zAr T 0 a3_22 7 k3, zAr T 0 a4_23 7 k4], [(dy, .inr (2, [.int dd, .ref a1_24, .ref a2_25, .ref a3_26])), zAr T 0 a1_24 40 d1, zAr T 0 a2_25 40 d2, zAr T 0 a3_26 40 d3]]) [1, 2, 3, 0] rfl
    exact z_back hQz_ (z_iret C hr hlocks G (Nat.le_of_ble_eq_true rfl) (Nat.le_of_ble_eq_true rfl) dX1_goThrough_73 ⟨([zO1 h po a1_32 y0 o y1 y2 y3 y4 y5 y6 y7, zAr T 0 a1_32 7 xw]), xw, y0, y1, y2, y3, y4, y5, y6, y7, wp3, x1, x2, g3_7, sb, wb, rfl, hw_33, hp3, hQx⟩)
  · have c_31n : ¬ n.toInt ≤ (i : Int) := fun q => c_31 ((fa_le _ _).mpr (by rw [nI_toInt (n := i) (by omega)]; exact q))
    refine lv_iload hx hb dX1_goThrough_14 (lv_at hl 0 rfl) ?_
    refine lv_aload_n hx hb dX1_goThrough_16 rfl (lv_at hl 3 rfl) ?_
    have G : zS T A s.heap s [[(dy, .inr (2, [.int dd, .ref a1_24, .ref a2_25, .ref a3_26]))], [zAr T 0 a1_24 40 d1], [zAr T 0 a2_25 40 d2], [zAr T 0 a3_26 40 d3], wc3, wp3, [zO4 o cr inn a1_20 a2_21 a3_22 a4_23, zAr T 0 a1_20 7 k1, zAr T 0 a2_21 28 k2, zAr T 0 a3_22 7 k3, zAr T 0 a4_23 7 k4]] _ _ := G.re rfl
    refine z_get C G clX2 0 rfl 0 (by decide) m_fl_RX1_60 rfl dX1_goThrough_17 ?_
    refine lv_icmp_ge (tgt := 69) hx hb dX1_goThrough_20 (by decide) (fun c_34 => ?_) (fun c_34 => ?_)
    · have c_34n : dd.toInt ≤ (i : Int) := by have q := (fa_le _ _).mp c_34; rw [nI_toInt (n := i) (by omega)] at q; exact q
      refine lv_aload_n hx hb dX1_goThrough_69 rfl (lv_at hl 1 rfl) ?_
      refine zEx1 hc3 ?_
      intro a1_35 hbs9
      clear hc3
      subst hbs9
      have G : zS T A s.heap s [[(dy, .inr (2, [.int dd, .ref a1_24, .ref a2_25, .ref a3_26]))], [zAr T 0 a1_24 40 d1], [zAr T 0 a2_25 40 d2], [zAr T 0 a3_26 40 d3], [zO1 h po a1_35 y0 o y1 y2 y3 y4 y5 y6 y7], [zAr T 0 a1_35 7 xw], wp3, [zO4 o cr inn a1_20 a2_21 a3_22 a4_23, zAr T 0 a1_20 7 k1, zAr T 0 a2_21 28 k2, zAr T 0 a3_22 7 k3, zAr T 0 a4_23 7 k4]] _ _ := G.re rfl
      refine z_get C G clX1 4 rfl 5 (by decide) m_fl_RX1_41 rfl dX1_goThrough_70 ?_
      have hw_36 : bCourse T h po o xw y0 y1 y2 y3 y4 y5 y6 y7 [zO1 h po a1_35 y0 o y1 y2 y3 y4 y5 y6 y7, zAr T 0 a1_35 7 xw] := ⟨a1_35, rfl⟩
      have G : zS T A s.heap s [[(dy, .inr (2, [.int dd, .ref a1_24, .ref a2_25, .ref a3_26]))], [zAr T 0 a1_24 40 d1], [zAr T 0 a2_25 40 d2], [zAr T 0 a3_26 40 d3], [zO1 h po a1_35 y0 o y1 y2 y3 y4 y5 y6 y7, zAr T 0 a1_35 7 xw], wp3, [zO4 o cr inn a1_20 a2_21 a3_22 a4_23, zAr T 0 a1_20 7 k1, zAr T 0 a2_21 28 k2, zAr T 0 a3_22 7 k3, zAr T 0 a4_23 7 k4]] _ _ := G.re rfl
      have hw_37 : bDay T dy dd d1 d2 d3 [(dy, .inr (2, [.int dd, .ref a1_24, .ref a2_25, .ref a3_26])), zAr T 0 a1_24 40 d1, zAr T 0 a2_25 40 d2, zAr T 0 a3_26 40 d3] := ⟨a1_24, a2_25, a3_26, rfl⟩
      have G : zS T A s.heap s [[(dy, .inr (2, [.int dd, .ref a1_24, .ref a2_25, .ref a3_26])), zAr T 0 a1_24 40 d1, zAr T 0 a2_25 40 d2, zAr T 0 a3_26 40 d3], [zO1 h po a1_35 y0 o y1 y2 y3 y4 y5 y6 y7, zAr T 0 a1_35 7 xw], wp3, [zO4 o cr inn a1_20 a2_21 a3_22 a4_23, zAr T 0 a1_20 7 k1, zAr T 0 a2_21 28 k2, zAr T 0 a3_22 7 k3, zAr T 0 a4_23 7 k4]] _ _ := G.re rfl
      have G := G.sub (bs' := [[zO1 h po a1_35 y0 o y1 y2 y3 y4 y5 y6 y7, zAr T 0 a1_35 7 xw], wp3, [zO4 o cr inn a1_20 a2_21 a3_22 a4_23, zAr T 0 a1_20 7 k1, zAr T 0 a2_21 28 k2, zAr T 0 a3_22 7 k3, zAr T 0 a4_23 7 k4], [(dy, .inr (2, [.int dd, .ref a1_24, .ref a2_25, .ref a3_26])), zAr T 0 a1_24 40 d1, zAr T 0 a2_25 40 d2, zAr T 0 a3_26 40 d3]]) [1, 2, 3, 0] rfl
      exact z_back hQz_ (z_iret C hr hlocks G (Nat.le_of_ble_eq_true rfl) (Nat.le_of_ble_eq_true rfl) dX1_goThrough_73 ⟨([zO1 h po a1_35 y0 o y1 y2 y3 y4 y5 y6 y7, zAr T 0 a1_35 7 xw]), xw, y0, y1, y2, y3, y4, y5, y6, y7, wp3, x1, x2, g3_7, sb, wb, rfl, hw_36, hp3, hQx⟩)
    · have c_34n : ¬ dd.toInt ≤ (i : Int) := fun q => c_34 ((fa_le _ _).mpr (by rw [nI_toInt (n := i) (by omega)]; exact q))
      refine lv_iload hx hb dX1_goThrough_23 (lv_at hl 0 rfl) ?_
      refine lv_bipush (v := 40) hx hb dX1_goThrough_25 (by decide) ?_
      refine lv_icmp_ge (tgt := 69) hx hb dX1_goThrough_27 (by decide) (fun c_38 => ?_) (fun c_38 => ?_)
      · have c_38n : 40 ≤ i := (nI_leI (a := 40) (b := i) (by omega) (by omega)).mp c_38
        refine lv_aload_n hx hb dX1_goThrough_69 rfl (lv_at hl 1 rfl) ?_
        refine zEx1 hc3 ?_
        intro a1_39 hbs9
        clear hc3
        subst hbs9
        have G : zS T A s.heap s [[(dy, .inr (2, [.int dd, .ref a1_24, .ref a2_25, .ref a3_26]))], [zAr T 0 a1_24 40 d1], [zAr T 0 a2_25 40 d2], [zAr T 0 a3_26 40 d3], [zO1 h po a1_39 y0 o y1 y2 y3 y4 y5 y6 y7], [zAr T 0 a1_39 7 xw], wp3, [zO4 o cr inn a1_20 a2_21 a3_22 a4_23, zAr T 0 a1_20 7 k1, zAr T 0 a2_21 28 k2, zAr T 0 a3_22 7 k3, zAr T 0 a4_23 7 k4]] _ _ := G.re rfl
        refine z_get C G clX1 4 rfl 5 (by decide) m_fl_RX1_41 rfl dX1_goThrough_70 ?_
        have hw_40 : bCourse T h po o xw y0 y1 y2 y3 y4 y5 y6 y7 [zO1 h po a1_39 y0 o y1 y2 y3 y4 y5 y6 y7, zAr T 0 a1_39 7 xw] := ⟨a1_39, rfl⟩
        have G : zS T A s.heap s [[(dy, .inr (2, [.int dd, .ref a1_24, .ref a2_25, .ref a3_26]))], [zAr T 0 a1_24 40 d1], [zAr T 0 a2_25 40 d2], [zAr T 0 a3_26 40 d3], [zO1 h po a1_39 y0 o y1 y2 y3 y4 y5 y6 y7, zAr T 0 a1_39 7 xw], wp3, [zO4 o cr inn a1_20 a2_21 a3_22 a4_23, zAr T 0 a1_20 7 k1, zAr T 0 a2_21 28 k2, zAr T 0 a3_22 7 k3, zAr T 0 a4_23 7 k4]] _ _ := G.re rfl
        have hw_41 : bDay T dy dd d1 d2 d3 [(dy, .inr (2, [.int dd, .ref a1_24, .ref a2_25, .ref a3_26])), zAr T 0 a1_24 40 d1, zAr T 0 a2_25 40 d2, zAr T 0 a3_26 40 d3] := ⟨a1_24, a2_25, a3_26, rfl⟩
        have G : zS T A s.heap s [[(dy, .inr (2, [.int dd, .ref a1_24, .ref a2_25, .ref a3_26])), zAr T 0 a1_24 40 d1, zAr T 0 a2_25 40 d2, zAr T 0 a3_26 40 d3], [zO1 h po a1_39 y0 o y1 y2 y3 y4 y5 y6 y7, zAr T 0 a1_39 7 xw], wp3, [zO4 o cr inn a1_20 a2_21 a3_22 a4_23, zAr T 0 a1_20 7 k1, zAr T 0 a2_21 28 k2, zAr T 0 a3_22 7 k3, zAr T 0 a4_23 7 k4]] _ _ := G.re rfl
        have G := G.sub (bs' := [[zO1 h po a1_39 y0 o y1 y2 y3 y4 y5 y6 y7, zAr T 0 a1_39 7 xw], wp3, [zO4 o cr inn a1_20 a2_21 a3_22 a4_23, zAr T 0 a1_20 7 k1, zAr T 0 a2_21 28 k2, zAr T 0 a3_22 7 k3, zAr T 0 a4_23 7 k4], [(dy, .inr (2, [.int dd, .ref a1_24, .ref a2_25, .ref a3_26])), zAr T 0 a1_24 40 d1, zAr T 0 a2_25 40 d2, zAr T 0 a3_26 40 d3]]) [1, 2, 3, 0] rfl
        exact z_back hQz_ (z_iret C hr hlocks G (Nat.le_of_ble_eq_true rfl) (Nat.le_of_ble_eq_true rfl) dX1_goThrough_73 ⟨([zO1 h po a1_39 y0 o y1 y2 y3 y4 y5 y6 y7, zAr T 0 a1_39 7 xw]), xw, y0, y1, y2, y3, y4, y5, y6, y7, wp3, x1, x2, g3_7, sb, wb, rfl, hw_40, hp3, hQx⟩)
      · have c_38n : ¬ 40 ≤ i := fun q => c_38 ((nI_leI (a := 40) (b := i) (by omega) (by omega)).mpr q)
        refine lv_aload_n hx hb dX1_goThrough_30 rfl (lv_at hl 1 rfl) ?_
        refine lv_aload_n hx hb dX1_goThrough_31 rfl (lv_at hl 3 rfl) ?_
        refine z_get C G clX2 0 rfl 1 (by decide) m_fl_RX1_65 rfl dX1_goThrough_32 ?_
        refine lv_iload hx hb dX1_goThrough_35 (lv_at hl 0 rfl) ?_
        refine z_ild C G 1 rfl (vp_in_nI (by omega) (by decide)) dX1_goThrough_37 ?_
        refine lv_topi (fun v_42 ev_42 => ?_)
        rw [nI_clamp (by omega)] at ev_42
        subst ev_42
        refine lv_aload_n hx hb dX1_goThrough_38 rfl (lv_at hl 3 rfl) ?_
        refine z_get C G clX2 0 rfl 2 (by decide) m_fl_RX1_68 rfl dX1_goThrough_39 ?_
        refine lv_iload hx hb dX1_goThrough_42 (lv_at hl 0 rfl) ?_
        refine z_ild C G 2 rfl (vp_in_nI (by omega) (by decide)) dX1_goThrough_44 ?_
        refine lv_topi (fun v_43 ev_43 => ?_)
        rw [nI_clamp (by omega)] at ev_43
        subst ev_43
        refine lv_aload_n hx hb dX1_goThrough_45 rfl (lv_at hl 3 rfl) ?_
        refine z_get C G clX2 0 rfl 3 (by decide) m_fl_RX1_71 rfl dX1_goThrough_46 ?_
        refine lv_iload hx hb dX1_goThrough_49 (lv_at hl 0 rfl) ?_
        refine z_ild C G 3 rfl (vp_in_nI (by omega) (by decide)) dX1_goThrough_51 ?_
        refine lv_topi (fun v_44 ev_44 => ?_)
        rw [nI_clamp (by omega)] at ev_44
        subst ev_44
        refine z_Vi (bc := [wc3, wp3, [zO4 o cr inn a1_20 a2_21 a3_22 a4_23, zAr T 0 a1_20 7 k1, zAr T 0 a2_21 28 k2, zAr T 0 a3_22 7 k3, zAr T 0 a4_23 7 k4]]) (br := [[(dy, .inr (2, [.int dd, .ref a1_24, .ref a2_25, .ref a3_26]))], [zAr T 0 a1_24 40 d1], [zAr T 0 a2_25 40 d2], [zAr T 0 a3_26 40 d3]]) (As := [.int (d1 i), .int (d2 i), .int (d3 i)]) (rest := []) C G (c_does l T h po o xw y0 y1 y2 y3 y4 y5 y6 y7 wc3 x1 x2 g3_7 sb wb wp3 cr inn k1 k2 k3 k4 ([zO4 o cr inn a1_20 a2_21 a3_22 a4_23, zAr T 0 a1_20 7 k1, zAr T 0 a2_21 28 k2, zAr T 0 a3_22 7 k3, zAr T 0 a4_23 7 k4]) (d1 i) (d2 i) (d3 i) hc3 hp3 hw_29 hQx hI) (kV_RX1_74 C.2.2.2.2 (Nat.le_of_ble_eq_true rfl) (Nat.le_of_ble_eq_true rfl)) [4, 5, 6] [4, 0, 0] rfl rfl (ci := 1) (qc := (RX1, TX1, 11)) rfl rfl (List.mem_flatten.mpr ⟨_, List.mem_of_getElem? (i := 0) rfl, (bCourse_mem hc3).choose_spec⟩) rfl rfl hl.1 dX1_goThrough_52 (Nat.le_of_ble_eq_true rfl) (Nat.le_of_ble_eq_true rfl) (fun r_64 b1 H locs hw G => ?_)
        refine zEx15 hw ?_
        intro wc2_45 gw_46 u0_47 u1_48 u2_49 u3_50 u4_51 u5_52 u6_53 u7_54 wp2_55 g1_56 g2_57 sa_58 wa_59
        refine zCu5 ?_
        intro hbs9 h_60 h_61 h_62 h_63
        clear hw
        subst hbs9
        have G : zS T A s.heap s [[(dy, .inr (2, [.int dd, .ref a1_24, .ref a2_25, .ref a3_26]))], [zAr T 0 a1_24 40 d1], [zAr T 0 a2_25 40 d2], [zAr T 0 a3_26 40 d3], wc2_45, wp2_55, [zO4 o cr inn a1_20 a2_21 a3_22 a4_23, zAr T 0 a1_20 7 k1, zAr T 0 a2_21 28 k2, zAr T 0 a3_22 7 k3, zAr T 0 a4_23 7 k4]] _ _ := G
        replace h_63 : zHd ((r_64 = 0 ∨ r_64 = 1)) := h_63
        have hQ2 : zP3 g1_56 g3_7 := h_62
        refine lv_if_ne (tgt := 63) hx hb dX1_goThrough_55 (by decide) (fun c_65 => ?_) (fun c_65 => ?_)
        · have c_65n : ¬ r_64.toInt = (0 : Int) := fun q => c_65 ((fa_eq _ _).mpr q)
          refine lv_iinc (v := nI (i + 1)) (lv' := [(4, .int (nI (i + 1))), (0, .ref h), (1, .ref o), (2, .ref dy), (3, .int n)]) hx hb dX1_goThrough_63 hl (k := 0) rfl (z_inc i 1) (by decide) (zLvf_h rfl) (fun ls hl => ?_)
          refine lv_goto (tgt := 8) hx hb dX1_goThrough_66 (by decide) ?_
          have hw_66 : bDay T dy dd d1 d2 d3 [(dy, .inr (2, [.int dd, .ref a1_24, .ref a2_25, .ref a3_26])), zAr T 0 a1_24 40 d1, zAr T 0 a2_25 40 d2, zAr T 0 a3_26 40 d3] := ⟨a1_24, a2_25, a3_26, rfl⟩
          have G : zS T A s.heap s [[(dy, .inr (2, [.int dd, .ref a1_24, .ref a2_25, .ref a3_26])), zAr T 0 a1_24 40 d1, zAr T 0 a2_25 40 d2, zAr T 0 a3_26 40 d3], wc2_45, wp2_55, [zO4 o cr inn a1_20 a2_21 a3_22 a4_23, zAr T 0 a1_20 7 k1, zAr T 0 a2_21 28 k2, zAr T 0 a3_22 7 k3, zAr T 0 a4_23 7 k4]] _ _ := G.re rfl
          exact ih_8 (i + 1) wc2_45 gw_46 u0_47 u1_48 u2_49 u3_50 u4_51 u5_52 u6_53 u7_54 wp2_55 g1_56 g2_57 sa_58 wa_59 (show bCourse T h po o gw_46 u0_47 u1_48 u2_49 u3_50 u4_51 u5_52 u6_53 u7_54 wc2_45 ∧ bPosts T po o g1_56 g2_57 g3_7 sa_58 wa_59 wp2_55 ∧ (i + 1) ≤ 40 ∧ zP3 g1_56 g3_7 from ⟨h_60, h_61, by omega, hQ2⟩) (show 40 - (i + 1) < 40 - i from by omega) _ _ ls G (lv_sub hl [0, 1, 2, 3, 4] rfl)
        · have c_65n : r_64.toInt = (0 : Int) := (fa_eq _ _).mp c_65
          refine lv_aload_n hx hb dX1_goThrough_58 rfl (lv_at hl 1 rfl) ?_
          refine zEx1 h_60 ?_
          intro a1_67 hbs9
          clear h_60
          subst hbs9
          have G : zS T A s.heap s [[(dy, .inr (2, [.int dd, .ref a1_24, .ref a2_25, .ref a3_26]))], [zAr T 0 a1_24 40 d1], [zAr T 0 a2_25 40 d2], [zAr T 0 a3_26 40 d3], [zO1 h po a1_67 u0_47 o u1_48 u2_49 u3_50 u4_51 u5_52 u6_53 u7_54], [zAr T 0 a1_67 7 gw_46], wp2_55, [zO4 o cr inn a1_20 a2_21 a3_22 a4_23, zAr T 0 a1_20 7 k1, zAr T 0 a2_21 28 k2, zAr T 0 a3_22 7 k3, zAr T 0 a4_23 7 k4]] _ _ := G.re rfl
          refine z_get C G clX1 4 rfl 5 (by decide) m_fl_RX1_41 rfl dX1_goThrough_59 ?_
          have hw_68 : bDay T dy dd d1 d2 d3 [(dy, .inr (2, [.int dd, .ref a1_24, .ref a2_25, .ref a3_26])), zAr T 0 a1_24 40 d1, zAr T 0 a2_25 40 d2, zAr T 0 a3_26 40 d3] := ⟨a1_24, a2_25, a3_26, rfl⟩
          have G : zS T A s.heap s [[(dy, .inr (2, [.int dd, .ref a1_24, .ref a2_25, .ref a3_26])), zAr T 0 a1_24 40 d1, zAr T 0 a2_25 40 d2, zAr T 0 a3_26 40 d3], [zO1 h po a1_67 u0_47 o u1_48 u2_49 u3_50 u4_51 u5_52 u6_53 u7_54], [zAr T 0 a1_67 7 gw_46], wp2_55, [zO4 o cr inn a1_20 a2_21 a3_22 a4_23, zAr T 0 a1_20 7 k1, zAr T 0 a2_21 28 k2, zAr T 0 a3_22 7 k3, zAr T 0 a4_23 7 k4]] _ _ := G.re rfl
          have hw_69 : bCourse T h po o gw_46 u0_47 u1_48 u2_49 u3_50 u4_51 u5_52 u6_53 u7_54 [zO1 h po a1_67 u0_47 o u1_48 u2_49 u3_50 u4_51 u5_52 u6_53 u7_54, zAr T 0 a1_67 7 gw_46] := ⟨a1_67, rfl⟩
          have G : zS T A s.heap s [[(dy, .inr (2, [.int dd, .ref a1_24, .ref a2_25, .ref a3_26])), zAr T 0 a1_24 40 d1, zAr T 0 a2_25 40 d2, zAr T 0 a3_26 40 d3], [zO1 h po a1_67 u0_47 o u1_48 u2_49 u3_50 u4_51 u5_52 u6_53 u7_54, zAr T 0 a1_67 7 gw_46], wp2_55, [zO4 o cr inn a1_20 a2_21 a3_22 a4_23, zAr T 0 a1_20 7 k1, zAr T 0 a2_21 28 k2, zAr T 0 a3_22 7 k3, zAr T 0 a4_23 7 k4]] _ _ := G.re rfl
          have G := G.sub (bs' := [[zO1 h po a1_67 u0_47 o u1_48 u2_49 u3_50 u4_51 u5_52 u6_53 u7_54, zAr T 0 a1_67 7 gw_46], wp2_55, [zO4 o cr inn a1_20 a2_21 a3_22 a4_23, zAr T 0 a1_20 7 k1, zAr T 0 a2_21 28 k2, zAr T 0 a3_22 7 k3, zAr T 0 a4_23 7 k4], [(dy, .inr (2, [.int dd, .ref a1_24, .ref a2_25, .ref a3_26])), zAr T 0 a1_24 40 d1, zAr T 0 a2_25 40 d2, zAr T 0 a3_26 40 d3]]) [1, 2, 3, 0] rfl
          exact z_back hQz_ (z_iret C hr hlocks G (Nat.le_of_ble_eq_true rfl) (Nat.le_of_ble_eq_true rfl) dX1_goThrough_62 ⟨([zO1 h po a1_67 u0_47 o u1_48 u2_49 u3_50 u4_51 u5_52 u6_53 u7_54, zAr T 0 a1_67 7 gw_46]), gw_46, u0_47, u1_48, u2_49, u3_50, u4_51, u5_52, u6_53, u7_54, wp2_55, g1_56, g2_57, g3_7, sa_58, wa_59, rfl, hw_69, h_61, hQ2⟩)
set_option maxHeartbeats 4000000 in
set_option maxRecDepth 100000 in
/-- goAll -/
theorem c_goAll (l : Launch) (T : zTy) (h : Nat) (po : Nat) (la : Nat) (fw : Nat → Int32) (v0 : Int32) (v1 : Int32) (v2 : Int32) (v3 : Int32) (v4 : Int32) (v5 : Int32) (v6 : Int32) (v7 : Int32) (wc : va_W) (lp : Nat) (f1 : Nat → Int32) (f2 : Nat → Int32) (f3 : Nat → Int32) (st : Int32) (wh : Int32) (wp : va_W) (o : Nat) (cr : Int32) (inn : Int32) (k1 : Nat → Int32) (k2 : Nat → Int32) (k3 : Nat → Int32) (k4 : Nat → Int32) (z : va_W) (hc : bCourse T h po la fw v0 v1 v2 v3 v4 v5 v6 v7 wc) (hp : bPosts T po lp f1 f2 f3 st wh wp) (hz : bLand T o cr inn k1 k2 k3 k4 z) (hI : zLI cr k1 k3) : zMv l T yX1_goAll cX1_goAll 4 7 0 0 [.ref h, .ref o] [wc, wp, z] (fun bs => ∃ (wc2 : va_W) (gw : Nat → Int32) (u0 : Int32) (u1 : Int32) (u2 : Int32) (u3 : Int32) (u4 : Int32) (u5 : Int32) (u6 : Int32) (u7 : Int32) (wp2 : va_W) (g1 : Nat → Int32) (g2 : Nat → Int32) (g3 : Nat → Int32) (sa : Int32) (wa : Int32), bs = [wc2, wp2, z] ∧ bCourse T h po o gw u0 u1 u2 u3 u4 u5 u6 u7 wc2 ∧ bPosts T po o g1 g2 g3 sa wa wp2 ∧ zP3 g1 g3) := by
  refine zMv_of (own := RX1) (by decide) rfl (Nat.le_of_ble_eq_true rfl) ?_
  intro p e s m args below meth c A ls C hr hlocks hnm hAe G hl
  refine zHide (fun Qz_ hQz_ => ?_)
  have hx := C.1
  have hb := C.2.1
  have hl : lv_has ls 4 [(0, .ref h), (1, .ref o)] := hl
  refine lv_aload_n hx hb dX1_goAll_0 rfl (lv_at hl 0 rfl) ?_
  refine lv_aload_n hx hb dX1_goAll_1 rfl (lv_at hl 1 rfl) ?_
  refine z_Vv (bc := [wc, wp, z]) (br := []) (As := [.ref o]) (rest := []) C G (c_Course_begin l T h po la fw v0 v1 v2 v3 v4 v5 v6 v7 wc lp f1 f2 f3 st wh wp o cr inn k1 k2 k3 k4 z hc hp hz (by first | with_reducible assumption | with_reducible rfl | omega | assumption | rfl)) (kV_RX1_59 C.2.2.2.2 (Nat.le_of_ble_eq_true rfl) (Nat.le_of_ble_eq_true rfl)) [0, 1, 2] [0, 0, 0] rfl rfl (ci := 1) (qc := (RX1, TX1, 11)) rfl rfl (List.mem_flatten.mpr ⟨_, List.mem_of_getElem? (i := 0) rfl, (bCourse_mem hc).choose_spec⟩) rfl rfl hl.1 dX1_goAll_2 (Nat.le_of_ble_eq_true rfl) (Nat.le_of_ble_eq_true rfl) (fun b1 H locs hw G => ?_)
  refine zEx7 hw ?_
  intro wc2_1 gw_2 u6_3 wp2_4 g1_5 g2_6 g3_7
  refine zCu8 ?_
  intro hbs9 h_8 h_9 h_10 h_11 h_12 h_13 h_14
  clear hw
  subst hbs9
  have G : zS T A s.heap s [wc2_1, wp2_4, z] _ _ := G
  have hQ : zP3 g1_5 g3_7 := h_11
  refine lv_iconst (v := 0) hx hb dX1_goAll_5 (by decide) ?_
  refine lv_istore_n (lv' := [(2, .int 0), (0, .ref h), (1, .ref o)]) hx hb dX1_goAll_6 rfl hl (by decide) (zLvf_h rfl) (fun ls hl => ?_)
  refine zEx1 h_8 ?_
  intro a1_16 hbs9
  clear h_8
  subst hbs9
  have G : zS T A s.heap s [[zO1 h po a1_16 0 o 0 0 (-1) 0 0 u6_3 v7], [zAr T 0 a1_16 7 gw_2], wp2_4, z] _ _ := G.re rfl
  refine zEx3 h_9 ?_
  intro a1_17 a2_18 a3_19 hbs9
  clear h_9
  subst hbs9
  have G : zS T A s.heap s [[zO1 h po a1_16 0 o 0 0 (-1) 0 0 u6_3 v7], [zAr T 0 a1_16 7 gw_2], [zO6 po o a1_17 a2_18 0 0 a3_19], [zAr T 0 a1_17 7 g1_5], [zAr T 0 a2_18 7 g2_6], [zAr T 0 a3_19 7 g3_7], z] _ _ := G.re rfl
  refine zEx4 hz ?_
  intro a1_20 a2_21 a3_22 a4_23 hbs9
  clear hz
  subst hbs9
  have G : zS T A s.heap s [[zO1 h po a1_16 0 o 0 0 (-1) 0 0 u6_3 v7], [zAr T 0 a1_16 7 gw_2], [zO6 po o a1_17 a2_18 0 0 a3_19], [zAr T 0 a1_17 7 g1_5], [zAr T 0 a2_18 7 g2_6], [zAr T 0 a3_19 7 g3_7], [zO4 o cr inn a1_20 a2_21 a3_22 a4_23], [zAr T 0 a1_20 7 k1], [zAr T 0 a2_21 28 k2], [zAr T 0 a3_22 7 k3], [zAr T 0 a4_23 7 k4]] _ _ := G.re rfl
  have hw_24 : bCourse T h po o gw_2 0 0 0 (-1) 0 0 u6_3 v7 [zO1 h po a1_16 0 o 0 0 (-1) 0 0 u6_3 v7, zAr T 0 a1_16 7 gw_2] := ⟨a1_16, rfl⟩
  have G : zS T A s.heap s [[zO1 h po a1_16 0 o 0 0 (-1) 0 0 u6_3 v7, zAr T 0 a1_16 7 gw_2], [zO6 po o a1_17 a2_18 0 0 a3_19], [zAr T 0 a1_17 7 g1_5], [zAr T 0 a2_18 7 g2_6], [zAr T 0 a3_19 7 g3_7], [zO4 o cr inn a1_20 a2_21 a3_22 a4_23], [zAr T 0 a1_20 7 k1], [zAr T 0 a2_21 28 k2], [zAr T 0 a3_22 7 k3], [zAr T 0 a4_23 7 k4]] _ _ := G.re rfl
  have hw_25 : bPosts T po o g1_5 g2_6 g3_7 0 0 [zO6 po o a1_17 a2_18 0 0 a3_19, zAr T 0 a1_17 7 g1_5, zAr T 0 a2_18 7 g2_6, zAr T 0 a3_19 7 g3_7] := ⟨a1_17, a2_18, a3_19, rfl⟩
  have G : zS T A s.heap s [[zO1 h po a1_16 0 o 0 0 (-1) 0 0 u6_3 v7, zAr T 0 a1_16 7 gw_2], [zO6 po o a1_17 a2_18 0 0 a3_19, zAr T 0 a1_17 7 g1_5, zAr T 0 a2_18 7 g2_6, zAr T 0 a3_19 7 g3_7], [zO4 o cr inn a1_20 a2_21 a3_22 a4_23], [zAr T 0 a1_20 7 k1], [zAr T 0 a2_21 28 k2], [zAr T 0 a3_22 7 k3], [zAr T 0 a4_23 7 k4]] _ _ := G.re rfl
  have hw_26 : bLand T o cr inn k1 k2 k3 k4 [zO4 o cr inn a1_20 a2_21 a3_22 a4_23, zAr T 0 a1_20 7 k1, zAr T 0 a2_21 28 k2, zAr T 0 a3_22 7 k3, zAr T 0 a4_23 7 k4] := ⟨a1_20, a2_21, a3_22, a4_23, rfl⟩
  have G : zS T A s.heap s [[zO1 h po a1_16 0 o 0 0 (-1) 0 0 u6_3 v7, zAr T 0 a1_16 7 gw_2], [zO6 po o a1_17 a2_18 0 0 a3_19, zAr T 0 a1_17 7 g1_5, zAr T 0 a2_18 7 g2_6, zAr T 0 a3_19 7 g3_7], [zO4 o cr inn a1_20 a2_21 a3_22 a4_23, zAr T 0 a1_20 7 k1, zAr T 0 a2_21 28 k2, zAr T 0 a3_22 7 k3, zAr T 0 a4_23 7 k4]] _ _ := G.re rfl
  refine z_lp16 (T := T) 7 (fun (i : Nat) (wc3 : va_W) (xw : Nat → Int32) (y0 : Int32) (y1 : Int32) (y2 : Int32) (y3 : Int32) (y4 : Int32) (y5 : Int32) (y6 : Int32) (y7 : Int32) (wp3 : va_W) (x1 : Nat → Int32) (x2 : Nat → Int32) (sb : Int32) (wb : Int32) => [wc3, wp3, [zO4 o cr inn a1_20 a2_21 a3_22 a4_23, zAr T 0 a1_20 7 k1, zAr T 0 a2_21 28 k2, zAr T 0 a3_22 7 k3, zAr T 0 a4_23 7 k4]]) (fun (i : Nat) (wc3 : va_W) (xw : Nat → Int32) (y0 : Int32) (y1 : Int32) (y2 : Int32) (y3 : Int32) (y4 : Int32) (y5 : Int32) (y6 : Int32) (y7 : Int32) (wp3 : va_W) (x1 : Nat → Int32) (x2 : Nat → Int32) (sb : Int32) (wb : Int32) => [(2, .int (nI i)), (0, .ref h), (1, .ref o)]) (fun (i : Nat) (wc3 : va_W) (xw : Nat → Int32) (y0 : Int32) (y1 : Int32) (y2 : Int32) (y3 : Int32) (y4 : Int32) (y5 : Int32) (y6 : Int32) (y7 : Int32) (wp3 : va_W) (x1 : Nat → Int32) (x2 : Nat → Int32) (sb : Int32) (wb : Int32) => bCourse T h po o xw y0 y1 y2 y3 y4 y5 y6 y7 wc3 ∧ bPosts T po o x1 x2 g3_7 sb wb wp3 ∧ i ≤ 7 ∧ zP3 x1 g3_7) (fun (i : Nat) (wc3 : va_W) (xw : Nat → Int32) (y0 : Int32) (y1 : Int32) (y2 : Int32) (y3 : Int32) (y4 : Int32) (y5 : Int32) (y6 : Int32) (y7 : Int32) (wp3 : va_W) (x1 : Nat → Int32) (x2 : Nat → Int32) (sb : Int32) (wb : Int32) => 7 - i) ?_ 0 ([zO1 h po a1_16 0 o 0 0 (-1) 0 0 u6_3 v7, zAr T 0 a1_16 7 gw_2]) gw_2 0 0 0 (-1) 0 0 u6_3 v7 ([zO6 po o a1_17 a2_18 0 0 a3_19, zAr T 0 a1_17 7 g1_5, zAr T 0 a2_18 7 g2_6, zAr T 0 a3_19 7 g3_7]) g1_5 g2_6 0 0 (show bCourse T h po o gw_2 0 0 0 (-1) 0 0 u6_3 v7 ([zO1 h po a1_16 0 o 0 0 (-1) 0 0 u6_3 v7, zAr T 0 a1_16 7 gw_2]) ∧ bPosts T po o g1_5 g2_6 g3_7 0 0 ([zO6 po o a1_17 a2_18 0 0 a3_19, zAr T 0 a1_17 7 g1_5, zAr T 0 a2_18 7 g2_6, zAr T 0 a3_19 7 g3_7]) ∧ 0 ≤ 7 ∧ zP3 g1_5 g3_7 from ⟨hw_24, hw_25, by omega, hQ⟩) G (lv_sub hl [0, 1, 2] rfl)
  intro i wc3 xw y0 y1 y2 y3 y4 y5 y6 y7 wp3 x1 x2 sb wb hI9 ih_7 H locs ls G hl
  replace hI9 : bCourse T h po o xw y0 y1 y2 y3 y4 y5 y6 y7 wc3 ∧ bPosts T po o x1 x2 g3_7 sb wb wp3 ∧ i ≤ 7 ∧ zP3 x1 g3_7 := hI9
  refine zAn4 hI9 ?_
  intro hc3 hp3 hi hQx
  clear hI9
  replace G : zS T A s.heap s [wc3, wp3, [zO4 o cr inn a1_20 a2_21 a3_22 a4_23, zAr T 0 a1_20 7 k1, zAr T 0 a2_21 28 k2, zAr T 0 a3_22 7 k3, zAr T 0 a4_23 7 k4]] _ _ := G
  replace hl : lv_has ls 4 [(2, .int (nI i)), (0, .ref h), (1, .ref o)] := hl
  refine lv_iload_n hx hb dX1_goAll_7 rfl (lv_at hl 0 rfl) ?_
  refine lv_aload_n hx hb dX1_goAll_8 rfl (lv_at hl 2 rfl) ?_
  have G : zS T A s.heap s [wc3, wp3, [zO4 o cr inn a1_20 a2_21 a3_22 a4_23], [zAr T 0 a1_20 7 k1], [zAr T 0 a2_21 28 k2], [zAr T 0 a3_22 7 k3], [zAr T 0 a4_23 7 k4]] _ _ := G.re rfl
  refine z_get C G clX4 2 rfl 0 (by decide) m_fl_RX1_88 rfl dX1_goAll_9 ?_
  refine lv_icmp_ge (tgt := 51) hx hb dX1_goAll_12 (by decide) (fun c_27 => ?_) (fun c_27 => ?_)
  · have c_27n : cr.toInt ≤ (i : Int) := by have q := (fa_le _ _).mp c_27; rw [nI_toInt (n := i) (by omega)] at q; exact q
    have hw_28 : bLand T o cr inn k1 k2 k3 k4 [zO4 o cr inn a1_20 a2_21 a3_22 a4_23, zAr T 0 a1_20 7 k1, zAr T 0 a2_21 28 k2, zAr T 0 a3_22 7 k3, zAr T 0 a4_23 7 k4] := ⟨a1_20, a2_21, a3_22, a4_23, rfl⟩
    have G : zS T A s.heap s [wc3, wp3, [zO4 o cr inn a1_20 a2_21 a3_22 a4_23, zAr T 0 a1_20 7 k1, zAr T 0 a2_21 28 k2, zAr T 0 a3_22 7 k3, zAr T 0 a4_23 7 k4]] _ _ := G.re rfl
    exact z_back hQz_ (z_vret C hr hlocks G (Nat.le_of_ble_eq_true rfl) (Nat.le_of_ble_eq_true rfl) dX1_goAll_51 ⟨wc3, xw, y0, y1, y2, y3, y4, y5, y6, y7, wp3, x1, x2, g3_7, sb, wb, rfl, hc3, hp3, hQx⟩)
  · have c_27n : ¬ cr.toInt ≤ (i : Int) := fun q => c_27 ((fa_le _ _).mpr (by rw [nI_toInt (n := i) (by omega)]; exact q))
    refine lv_iload_n hx hb dX1_goAll_15 rfl (lv_at hl 0 rfl) ?_
    refine lv_bipush (v := 7) hx hb dX1_goAll_16 (by decide) ?_
    refine lv_icmp_ge (tgt := 51) hx hb dX1_goAll_18 (by decide) (fun c_29 => ?_) (fun c_29 => ?_)
    · have c_29n : 7 ≤ i := (nI_leI (a := 7) (b := i) (by omega) (by omega)).mp c_29
      have hw_30 : bLand T o cr inn k1 k2 k3 k4 [zO4 o cr inn a1_20 a2_21 a3_22 a4_23, zAr T 0 a1_20 7 k1, zAr T 0 a2_21 28 k2, zAr T 0 a3_22 7 k3, zAr T 0 a4_23 7 k4] := ⟨a1_20, a2_21, a3_22, a4_23, rfl⟩
      have G : zS T A s.heap s [wc3, wp3, [zO4 o cr inn a1_20 a2_21 a3_22 a4_23, zAr T 0 a1_20 7 k1, zAr T 0 a2_21 28 k2, zAr T 0 a3_22 7 k3, zAr T 0 a4_23 7 k4]] _ _ := G.re rfl
      exact z_back hQz_ (z_vret C hr hlocks G (Nat.le_of_ble_eq_true rfl) (Nat.le_of_ble_eq_true rfl) dX1_goAll_51 ⟨wc3, xw, y0, y1, y2, y3, y4, y5, y6, y7, wp3, x1, x2, g3_7, sb, wb, rfl, hc3, hp3, hQx⟩)
    · have c_29n : ¬ 7 ≤ i := fun q => c_29 ((nI_leI (a := 7) (b := i) (by omega) (by omega)).mpr q)
      have hk4 := Int32.toInt_lt (k4 i)
      refine lv_iconst (v := 0) hx hb dX1_goAll_21 (by decide) ?_
      refine lv_istore_n (lv' := [(3, .int 0), (2, .int (nI i)), (0, .ref h), (1, .ref o)]) hx hb dX1_goAll_22 rfl hl (by decide) (zLvf_h rfl) (fun ls hl => ?_)
      refine zEx1 hc3 ?_
      intro a1_31 hbs9
      clear hc3
      subst hbs9
      have G : zS T A s.heap s [[zO1 h po a1_31 y0 o y1 y2 y3 y4 y5 y6 y7], [zAr T 0 a1_31 7 xw], wp3, [zO4 o cr inn a1_20 a2_21 a3_22 a4_23], [zAr T 0 a1_20 7 k1], [zAr T 0 a2_21 28 k2], [zAr T 0 a3_22 7 k3], [zAr T 0 a4_23 7 k4]] _ _ := G.re rfl
      refine zEx3 hp3 ?_
      intro a1_32 a2_33 a3_34 hbs9
      clear hp3
      subst hbs9
      have G : zS T A s.heap s [[zO1 h po a1_31 y0 o y1 y2 y3 y4 y5 y6 y7], [zAr T 0 a1_31 7 xw], [zO6 po o a1_32 a2_33 sb wb a3_34], [zAr T 0 a1_32 7 x1], [zAr T 0 a2_33 7 x2], [zAr T 0 a3_34 7 g3_7], [zO4 o cr inn a1_20 a2_21 a3_22 a4_23], [zAr T 0 a1_20 7 k1], [zAr T 0 a2_21 28 k2], [zAr T 0 a3_22 7 k3], [zAr T 0 a4_23 7 k4]] _ _ := G.re rfl
      have hw_35 : bCourse T h po o xw y0 y1 y2 y3 y4 y5 y6 y7 [zO1 h po a1_31 y0 o y1 y2 y3 y4 y5 y6 y7, zAr T 0 a1_31 7 xw] := ⟨a1_31, rfl⟩
      have G : zS T A s.heap s [[zO1 h po a1_31 y0 o y1 y2 y3 y4 y5 y6 y7, zAr T 0 a1_31 7 xw], [zO6 po o a1_32 a2_33 sb wb a3_34], [zAr T 0 a1_32 7 x1], [zAr T 0 a2_33 7 x2], [zAr T 0 a3_34 7 g3_7], [zO4 o cr inn a1_20 a2_21 a3_22 a4_23], [zAr T 0 a1_20 7 k1], [zAr T 0 a2_21 28 k2], [zAr T 0 a3_22 7 k3], [zAr T 0 a4_23 7 k4]] _ _ := G.re rfl
      have hw_36 : bPosts T po o x1 x2 g3_7 sb wb [zO6 po o a1_32 a2_33 sb wb a3_34, zAr T 0 a1_32 7 x1, zAr T 0 a2_33 7 x2, zAr T 0 a3_34 7 g3_7] := ⟨a1_32, a2_33, a3_34, rfl⟩
      have G : zS T A s.heap s [[zO1 h po a1_31 y0 o y1 y2 y3 y4 y5 y6 y7, zAr T 0 a1_31 7 xw], [zO6 po o a1_32 a2_33 sb wb a3_34, zAr T 0 a1_32 7 x1, zAr T 0 a2_33 7 x2, zAr T 0 a3_34 7 g3_7], [zO4 o cr inn a1_20 a2_21 a3_22 a4_23], [zAr T 0 a1_20 7 k1], [zAr T 0 a2_21 28 k2], [zAr T 0 a3_22 7 k3], [zAr T 0 a4_23 7 k4]] _ _ := G.re rfl
      have hw_37 : bLand T o cr inn k1 k2 k3 k4 [zO4 o cr inn a1_20 a2_21 a3_22 a4_23, zAr T 0 a1_20 7 k1, zAr T 0 a2_21 28 k2, zAr T 0 a3_22 7 k3, zAr T 0 a4_23 7 k4] := ⟨a1_20, a2_21, a3_22, a4_23, rfl⟩
      have G : zS T A s.heap s [[zO1 h po a1_31 y0 o y1 y2 y3 y4 y5 y6 y7, zAr T 0 a1_31 7 xw], [zO6 po o a1_32 a2_33 sb wb a3_34, zAr T 0 a1_32 7 x1, zAr T 0 a2_33 7 x2, zAr T 0 a3_34 7 g3_7], [zO4 o cr inn a1_20 a2_21 a3_22 a4_23, zAr T 0 a1_20 7 k1, zAr T 0 a2_21 28 k2, zAr T 0 a3_22 7 k3, zAr T 0 a4_23 7 k4]] _ _ := G.re rfl
      refine z_lp16 (T := T) 23 (fun (j : Nat) (wc4 : va_W) (xv : Nat → Int32) (z0 : Int32) (z1 : Int32) (z2 : Int32) (z3 : Int32) (z4 : Int32) (z5 : Int32) (z6 : Int32) (z7 : Int32) (wp4 : va_W) (w1 : Nat → Int32) (w2_ : Nat → Int32) (sc : Int32) (wd_ : Int32) => [wc4, wp4, [zO4 o cr inn a1_20 a2_21 a3_22 a4_23, zAr T 0 a1_20 7 k1, zAr T 0 a2_21 28 k2, zAr T 0 a3_22 7 k3, zAr T 0 a4_23 7 k4]]) (fun (j : Nat) (wc4 : va_W) (xv : Nat → Int32) (z0 : Int32) (z1 : Int32) (z2 : Int32) (z3 : Int32) (z4 : Int32) (z5 : Int32) (z6 : Int32) (z7 : Int32) (wp4 : va_W) (w1 : Nat → Int32) (w2_ : Nat → Int32) (sc : Int32) (wd_ : Int32) => [(3, .int (nI j)), (2, .int (nI i)), (0, .ref h), (1, .ref o)]) (fun (j : Nat) (wc4 : va_W) (xv : Nat → Int32) (z0 : Int32) (z1 : Int32) (z2 : Int32) (z3 : Int32) (z4 : Int32) (z5 : Int32) (z6 : Int32) (z7 : Int32) (wp4 : va_W) (w1 : Nat → Int32) (w2_ : Nat → Int32) (sc : Int32) (wd_ : Int32) => bCourse T h po o xv z0 z1 z2 z3 z4 z5 z6 z7 wc4 ∧ bPosts T po o w1 w2_ g3_7 sc wd_ wp4 ∧ j ≤ (k4 i).toInt.toNat ∧ zP3 w1 g3_7) (fun (j : Nat) (wc4 : va_W) (xv : Nat → Int32) (z0 : Int32) (z1 : Int32) (z2 : Int32) (z3 : Int32) (z4 : Int32) (z5 : Int32) (z6 : Int32) (z7 : Int32) (wp4 : va_W) (w1 : Nat → Int32) (w2_ : Nat → Int32) (sc : Int32) (wd_ : Int32) => (k4 i).toInt.toNat - j) ?_ 0 ([zO1 h po a1_31 y0 o y1 y2 y3 y4 y5 y6 y7, zAr T 0 a1_31 7 xw]) xw y0 y1 y2 y3 y4 y5 y6 y7 ([zO6 po o a1_32 a2_33 sb wb a3_34, zAr T 0 a1_32 7 x1, zAr T 0 a2_33 7 x2, zAr T 0 a3_34 7 g3_7]) x1 x2 sb wb (show bCourse T h po o xw y0 y1 y2 y3 y4 y5 y6 y7 ([zO1 h po a1_31 y0 o y1 y2 y3 y4 y5 y6 y7, zAr T 0 a1_31 7 xw]) ∧ bPosts T po o x1 x2 g3_7 sb wb ([zO6 po o a1_32 a2_33 sb wb a3_34, zAr T 0 a1_32 7 x1, zAr T 0 a2_33 7 x2, zAr T 0 a3_34 7 g3_7]) ∧ 0 ≤ (k4 i).toInt.toNat ∧ zP3 x1 g3_7 from ⟨hw_35, hw_36, by omega, hQx⟩) G (lv_sub hl [0, 1, 2, 3] rfl)
      intro j wc4 xv z0 z1 z2 z3 z4 z5 z6 z7 wp4 w1 w2_ sc wd_ hI9 ih_23 H locs ls G hl
      replace hI9 : bCourse T h po o xv z0 z1 z2 z3 z4 z5 z6 z7 wc4 ∧ bPosts T po o w1 w2_ g3_7 sc wd_ wp4 ∧ j ≤ (k4 i).toInt.toNat ∧ zP3 w1 g3_7 := hI9
      refine zAn4 hI9 ?_
      intro hc4 hp4 hj hQy
      clear hI9
      replace G : zS T A s.heap s [wc4, wp4, [zO4 o cr inn a1_20 a2_21 a3_22 a4_23, zAr T 0 a1_20 7 k1, zAr T 0 a2_21 28 k2, zAr T 0 a3_22 7 k3, zAr T 0 a4_23 7 k4]] _ _ := G
      replace hl : lv_has ls 4 [(3, .int (nI j)), (2, .int (nI i)), (0, .ref h), (1, .ref o)] := hl
      refine lv_iload_n hx hb dX1_goAll_23 rfl (lv_at hl 0 rfl) ?_
      refine lv_aload_n hx hb dX1_goAll_24 rfl (lv_at hl 3 rfl) ?_
      have G : zS T A s.heap s [wc4, wp4, [zO4 o cr inn a1_20 a2_21 a3_22 a4_23], [zAr T 0 a1_20 7 k1], [zAr T 0 a2_21 28 k2], [zAr T 0 a3_22 7 k3], [zAr T 0 a4_23 7 k4]] _ _ := G.re rfl
      refine z_get C G clX4 2 rfl 5 (by decide) m_fl_RX1_33 rfl dX1_goAll_25 ?_
      refine lv_iload_n hx hb dX1_goAll_28 rfl (lv_at hl 1 rfl) ?_
      refine z_ild C G 6 rfl (vp_in_nI (by omega) (by decide)) dX1_goAll_29 ?_
      refine lv_topi (fun v_38 ev_38 => ?_)
      rw [nI_clamp (by omega)] at ev_38
      subst ev_38
      refine lv_icmp_ge (tgt := 45) hx hb dX1_goAll_30 (by decide) (fun c_39 => ?_) (fun c_39 => ?_)
      · have c_39n : (k4 i).toInt ≤ (j : Int) := by have q := (fa_le _ _).mp c_39; rw [nI_toInt (n := j) (by omega)] at q; exact q
        refine lv_iinc (v := nI (i + 1)) (lv' := [(2, .int (nI (i + 1))), (3, .int (nI j)), (0, .ref h), (1, .ref o)]) hx hb dX1_goAll_45 hl (k := 1) rfl (z_inc i 1) (by decide) (zLvf_h rfl) (fun ls hl => ?_)
        refine lv_goto (tgt := 7) hx hb dX1_goAll_48 (by decide) ?_
        have hw_40 : bLand T o cr inn k1 k2 k3 k4 [zO4 o cr inn a1_20 a2_21 a3_22 a4_23, zAr T 0 a1_20 7 k1, zAr T 0 a2_21 28 k2, zAr T 0 a3_22 7 k3, zAr T 0 a4_23 7 k4] := ⟨a1_20, a2_21, a3_22, a4_23, rfl⟩
        have G : zS T A s.heap s [wc4, wp4, [zO4 o cr inn a1_20 a2_21 a3_22 a4_23, zAr T 0 a1_20 7 k1, zAr T 0 a2_21 28 k2, zAr T 0 a3_22 7 k3, zAr T 0 a4_23 7 k4]] _ _ := G.re rfl
        exact ih_7 (i + 1) wc4 xv z0 z1 z2 z3 z4 z5 z6 z7 wp4 w1 w2_ sc wd_ (show bCourse T h po o xv z0 z1 z2 z3 z4 z5 z6 z7 wc4 ∧ bPosts T po o w1 w2_ g3_7 sc wd_ wp4 ∧ (i + 1) ≤ 7 ∧ zP3 w1 g3_7 from ⟨hc4, hp4, by omega, hQy⟩) (show 7 - (i + 1) < 7 - i from by omega) _ _ ls G (lv_sub hl [0, 2, 3] rfl)
      · have c_39n : ¬ (k4 i).toInt ≤ (j : Int) := fun q => c_39 ((fa_le _ _).mpr (by rw [nI_toInt (n := j) (by omega)]; exact q))
        refine lv_aload_n hx hb dX1_goAll_33 rfl (lv_at hl 2 rfl) ?_
        refine lv_iload_n hx hb dX1_goAll_34 rfl (lv_at hl 1 rfl) ?_
        have hw_41 : bLand T o cr inn k1 k2 k3 k4 [zO4 o cr inn a1_20 a2_21 a3_22 a4_23, zAr T 0 a1_20 7 k1, zAr T 0 a2_21 28 k2, zAr T 0 a3_22 7 k3, zAr T 0 a4_23 7 k4] := ⟨a1_20, a2_21, a3_22, a4_23, rfl⟩
        have G : zS T A s.heap s [wc4, wp4, [zO4 o cr inn a1_20 a2_21 a3_22 a4_23, zAr T 0 a1_20 7 k1, zAr T 0 a2_21 28 k2, zAr T 0 a3_22 7 k3, zAr T 0 a4_23 7 k4]] _ _ := G.re rfl
        refine z_Vi (bc := [wc4, wp4, [zO4 o cr inn a1_20 a2_21 a3_22 a4_23, zAr T 0 a1_20 7 k1, zAr T 0 a2_21 28 k2, zAr T 0 a3_22 7 k3, zAr T 0 a4_23 7 k4]]) (br := []) (As := [.int (nI i)]) (rest := []) C G (c_Course_run l T h po o xv z0 z1 z2 z3 z4 z5 z6 z7 wc4 w1 w2_ g3_7 sc wd_ wp4 cr inn k1 k2 k3 k4 ([zO4 o cr inn a1_20 a2_21 a3_22 a4_23, zAr T 0 a1_20 7 k1, zAr T 0 a2_21 28 k2, zAr T 0 a3_22 7 k3, zAr T 0 a4_23 7 k4]) (nI i) hc4 hp4 hw_41 hQy) (kV_RX1_92 C.2.2.2.2 (Nat.le_of_ble_eq_true rfl) (Nat.le_of_ble_eq_true rfl)) [0, 1, 2] [0, 0, 0] rfl rfl (ci := 1) (qc := (RX1, TX1, 11)) rfl rfl (List.mem_flatten.mpr ⟨_, List.mem_of_getElem? (i := 0) rfl, (bCourse_mem hc4).choose_spec⟩) rfl rfl hl.1 dX1_goAll_35 (Nat.le_of_ble_eq_true rfl) (Nat.le_of_ble_eq_true rfl) (fun r_61 b1 H locs hw G => ?_)
        refine zEx15 hw ?_
        intro wc2_42 gw_43 u0_44 u1_45 u2_46 u3_47 u4_48 u5_49 u6_50 u7_51 wp2_52 g1_53 g2_54 sa_55 wa_56
        refine zCu5 ?_
        intro hbs9 h_57 h_58 h_59 h_60
        clear hw
        subst hbs9
        have G : zS T A s.heap s [wc2_42, wp2_52, [zO4 o cr inn a1_20 a2_21 a3_22 a4_23, zAr T 0 a1_20 7 k1, zAr T 0 a2_21 28 k2, zAr T 0 a3_22 7 k3, zAr T 0 a4_23 7 k4]] _ _ := G
        replace h_60 : zHd ((r_61 = 0 ∨ r_61 = 1)) := h_60
        have hQ2 : zP3 g1_53 g3_7 := h_59
        refine lv_pop hx hb dX1_goAll_38 rfl ?_
        refine lv_iinc (v := nI (j + 1)) (lv' := [(3, .int (nI (j + 1))), (2, .int (nI i)), (0, .ref h), (1, .ref o)]) hx hb dX1_goAll_39 hl (k := 0) rfl (z_inc j 1) (by decide) (zLvf_h rfl) (fun ls hl => ?_)
        refine lv_goto (tgt := 23) hx hb dX1_goAll_42 (by decide) ?_
        exact ih_23 (j + 1) wc2_42 gw_43 u0_44 u1_45 u2_46 u3_47 u4_48 u5_49 u6_50 u7_51 wp2_52 g1_53 g2_54 sa_55 wa_56 (show bCourse T h po o gw_43 u0_44 u1_45 u2_46 u3_47 u4_48 u5_49 u6_50 u7_51 wc2_42 ∧ bPosts T po o g1_53 g2_54 g3_7 sa_55 wa_56 wp2_52 ∧ (j + 1) ≤ (k4 i).toInt.toNat ∧ zP3 g1_53 g3_7 from ⟨h_57, h_58, by omega, hQ2⟩) (show (k4 i).toInt.toNat - (j + 1) < (k4 i).toInt.toNat - j from by omega) _ _ ls G (lv_sub hl [0, 1, 2, 3] rfl)
theorem m_co_X0_entry : Cond.code yX0_entry cX0_entry 4 (some .int) ∈ zT := zmem1 zsub_5 27 rfl rfl
theorem m_ml_RX0_91 : Cond.methodLink RX0 91 yX0_entry ∈ zT := zmem1 zsub_5 24 rfl rfl
theorem m_im_X0_entry : Cond.instanceMethod yX0_entry ∈ zT := zmem1 zsub_5 26 rfl rfl
theorem m_se_X0_entry : Cond.selects RX0 yX0_entry yX0_entry ∈ zT := zmem 37 rfl rfl
theorem m_ii_RX0 : Cond.initialized RX0 ∈ zT := zmem1 zsub_1 10 rfl rfl
theorem m_ko_RX0_90 : Cond.constant RX0 90 131071 ∈ zT := zmem1 zsub_5 7 rfl rfl
theorem m_co_X0_where : Cond.code yX0_where cX0_where 3 (some .int) ∈ zT := zmem1 zsub_5 23 rfl rfl
theorem m_ml_RX0_94 : Cond.methodLink RX0 94 yX0_where ∈ zT := zmem1 zsub_5 20 rfl rfl
theorem m_im_X0_where : Cond.instanceMethod yX0_where ∈ zT := zmem1 zsub_5 21 rfl rfl
theorem m_se_X0_where : Cond.selects RX0 yX0_where yX0_where ∈ zT := zmem1 zsub_5 22 rfl rfl
theorem m_ml_RX0_97 : Cond.methodLink RX0 97 yX4_isInn ∈ zT := zmem1 zsub_5 69 rfl rfl
theorem m_co_X0_steps : Cond.code yX0_steps cX0_steps 3 (some .int) ∈ zT := zmem1 zsub_5 52 rfl rfl
theorem m_ml_RX0_101 : Cond.methodLink RX0 101 yX0_steps ∈ zT := zmem1 zsub_5 101 rfl rfl
theorem m_im_X0_steps : Cond.instanceMethod yX0_steps ∈ zT := zmem1 zsub_5 50 rfl rfl
theorem m_se_X0_steps : Cond.selects RX0 yX0_steps yX0_steps ∈ zT := zmem1 zsub_5 51 rfl rfl
theorem m_ml_RX0_61 : Cond.methodLink RX0 61 yX4_waysOut ∈ zT := zmem1 zsub_4 219 rfl rfl
theorem m_co_X0_road : Cond.code yX0_road cX0_road 3 (some .int) ∈ zT := zmem1 zsub_4 238 rfl rfl
theorem m_ml_RX0_81 : Cond.methodLink RX0 81 yX0_road ∈ zT := zmem1 zsub_4 235 rfl rfl
theorem m_im_X0_road : Cond.instanceMethod yX0_road ∈ zT := zmem1 zsub_4 236 rfl rfl
theorem m_se_X0_road : Cond.selects RX0 yX0_road yX0_road ∈ zT := zmem1 zsub_4 237 rfl rfl
theorem m_fl_RX0_104 : Cond.fieldLink RX0 104 (TX4 4).1 (TX4 4).2.1 (TX4 4).2.2.1 ∈ zT := zmem1 zsub_1 60 rfl rfl
theorem m_fl_RX0_107 : Cond.fieldLink RX0 107 (TX4 0).1 (TX4 0).2.1 (TX4 0).2.2.1 ∈ zT := zmem1 zsub_1 47 rfl rfl
theorem m_co_X0_wayTold : Cond.code yX0_wayTold cX0_wayTold 3 (some .int) ∈ zT := zmem1 zsub_5 19 rfl rfl
theorem m_ml_RX0_110 : Cond.methodLink RX0 110 yX0_wayTold ∈ zT := zmem1 zsub_5 16 rfl rfl
theorem m_im_X0_wayTold : Cond.instanceMethod yX0_wayTold ∈ zT := zmem1 zsub_5 17 rfl rfl
theorem m_se_X0_wayTold : Cond.selects RX0 yX0_wayTold yX0_wayTold ∈ zT := zmem1 zsub_5 18 rfl rfl
theorem m_fl_RX0_57 : Cond.fieldLink RX0 57 (TX0 1).1 (TX0 1).2.1 (TX0 1).2.2.1 ∈ zT := zmem1 zsub_2 108 rfl rfl
theorem m_co_X0_unlike : Cond.code yX0_unlike cX0_unlike 5 (some .int) ∈ zT := zmem1 zsub_5 31 rfl rfl
theorem m_ml_RX0_114 : Cond.methodLink RX0 114 yX0_unlike ∈ zT := zmem1 zsub_5 28 rfl rfl
theorem m_im_X0_unlike : Cond.instanceMethod yX0_unlike ∈ zT := zmem1 zsub_5 29 rfl rfl
theorem m_se_X0_unlike : Cond.selects RX0 yX0_unlike yX0_unlike ∈ zT := zmem1 zsub_5 30 rfl rfl
theorem m_ml_RX0_117 : Cond.methodLink RX0 117 yJ6_bitCount_0f7a4 ∈ zT := zmem1 zsub_5 32 rfl rfl
theorem m_ml_RX0_84 : Cond.methodLink RX0 84 yX4_target ∈ zT := zmem1 zsub_4 239 rfl rfl
theorem m_co_X0_comesByRow : Cond.code yX0_comesByRow cX0_comesByRow 4 (some .boolean) ∈ zT := zmem1 zsub_5 68 rfl rfl
theorem m_ml_RX0_129 : Cond.methodLink RX0 129 yX0_comesByRow ∈ zT := zmem1 zsub_5 65 rfl rfl
theorem m_im_X0_comesByRow : Cond.instanceMethod yX0_comesByRow ∈ zT := zmem1 zsub_5 67 rfl rfl
theorem m_se_X0_comesByRow : Cond.selects RX0 yX0_comesByRow yX0_comesByRow ∈ zT := zmem 39 rfl rfl
theorem kV_RX0_91 {R : Room} {s : State} {args : Array Value} {d mc ms : Nat} (hts : ∀ w ∈ zT, w.before args s = true) (h1 : d + 1 ≤ R.frames) (h2 : 8 + (4 + 11) + 40 * d ≤ R.locals) : CallW R s args RX0 RX0 91 yX0_entry cX0_entry 4 (some .int) (zW yX0_entry cX0_entry 4 (some .int)) (zR d mc ms) mc ms 2 := z_cwV hts m_co_X0_entry m_ml_RX0_91 m_im_X0_entry m_se_X0_entry m_ii_RX0 (by decide +kernel) h1 h2
theorem kV_RX0_94 {R : Room} {s : State} {args : Array Value} {d mc ms : Nat} (hts : ∀ w ∈ zT, w.before args s = true) (h1 : d + 1 ≤ R.frames) (h2 : 8 + (3 + 11) + 40 * d ≤ R.locals) : CallW R s args RX0 RX0 94 yX0_where cX0_where 3 (some .int) (zW yX0_where cX0_where 3 (some .int)) (zR d mc ms) mc ms 2 := z_cwV hts m_co_X0_where m_ml_RX0_94 m_im_X0_where m_se_X0_where m_ii_RX0 (by decide +kernel) h1 h2
theorem kV_RX0_97 {R : Room} {s : State} {args : Array Value} {d mc ms : Nat} (hts : ∀ w ∈ zT, w.before args s = true) (h1 : d + 1 ≤ R.frames) (h2 : 8 + (2 + 11) + 40 * d ≤ R.locals) : CallW R s args RX0 RX4 97 yX4_isInn cX4_isInn 2 (some .boolean) (zW yX4_isInn cX4_isInn 2 (some .boolean)) (zR d mc ms) mc ms 1 := z_cwV hts m_co_X4_isInn m_ml_RX0_97 m_im_X4_isInn m_se_X4_isInn m_ii_RX4 (by decide +kernel) h1 h2
theorem kV_RX0_101 {R : Room} {s : State} {args : Array Value} {d mc ms : Nat} (hts : ∀ w ∈ zT, w.before args s = true) (h1 : d + 1 ≤ R.frames) (h2 : 8 + (3 + 11) + 40 * d ≤ R.locals) : CallW R s args RX0 RX0 101 yX0_steps cX0_steps 3 (some .int) (zW yX0_steps cX0_steps 3 (some .int)) (zR d mc ms) mc ms 2 := z_cwV hts m_co_X0_steps m_ml_RX0_101 m_im_X0_steps m_se_X0_steps m_ii_RX0 (by decide +kernel) h1 h2
theorem kV_RX0_61 {R : Room} {s : State} {args : Array Value} {d mc ms : Nat} (hts : ∀ w ∈ zT, w.before args s = true) (h1 : d + 1 ≤ R.frames) (h2 : 8 + (2 + 11) + 40 * d ≤ R.locals) : CallW R s args RX0 RX4 61 yX4_waysOut cX4_waysOut 2 (some .int) (zW yX4_waysOut cX4_waysOut 2 (some .int)) (zR d mc ms) mc ms 1 := z_cwV hts m_co_X4_waysOut m_ml_RX0_61 m_im_X4_waysOut m_se_X4_waysOut m_ii_RX4 (by decide +kernel) h1 h2
theorem kV_RX0_81 {R : Room} {s : State} {args : Array Value} {d mc ms : Nat} (hts : ∀ w ∈ zT, w.before args s = true) (h1 : d + 1 ≤ R.frames) (h2 : 8 + (3 + 11) + 40 * d ≤ R.locals) : CallW R s args RX0 RX0 81 yX0_road cX0_road 3 (some .int) (zW yX0_road cX0_road 3 (some .int)) (zR d mc ms) mc ms 2 := z_cwV hts m_co_X0_road m_ml_RX0_81 m_im_X0_road m_se_X0_road m_ii_RX0 (by decide +kernel) h1 h2
theorem kV_RX0_110 {R : Room} {s : State} {args : Array Value} {d mc ms : Nat} (hts : ∀ w ∈ zT, w.before args s = true) (h1 : d + 1 ≤ R.frames) (h2 : 8 + (3 + 11) + 40 * d ≤ R.locals) : CallW R s args RX0 RX0 110 yX0_wayTold cX0_wayTold 3 (some .int) (zW yX0_wayTold cX0_wayTold 3 (some .int)) (zR d mc ms) mc ms 0 := z_cwV hts m_co_X0_wayTold m_ml_RX0_110 m_im_X0_wayTold m_se_X0_wayTold m_ii_RX0 (by decide +kernel) h1 h2
theorem kV_RX0_114 {R : Room} {s : State} {args : Array Value} {d mc ms : Nat} (hts : ∀ w ∈ zT, w.before args s = true) (h1 : d + 1 ≤ R.frames) (h2 : 8 + (5 + 11) + 40 * d ≤ R.locals) : CallW R s args RX0 RX0 114 yX0_unlike cX0_unlike 5 (some .int) (zW yX0_unlike cX0_unlike 5 (some .int)) (zR d mc ms) mc ms 2 := z_cwV hts m_co_X0_unlike m_ml_RX0_114 m_im_X0_unlike m_se_X0_unlike m_ii_RX0 (by decide +kernel) h1 h2
theorem kS_RX0_117 {R : Room} {s : State} {args : Array Value} {d mc ms : Nat} (hts : ∀ w ∈ zT, w.before args s = true) (h1 : d + 1 ≤ R.frames) (h2 : 8 + (1 + 11) + 40 * d ≤ R.locals) : CallB R s args RX0 117 yJ6_bitCount_0f7a4 cJ6_bitCount_0f7a4 1 (some .int) (zW yJ6_bitCount_0f7a4 cJ6_bitCount_0f7a4 1 (some .int)) (zR d mc ms) mc ms 1 ∧ (Cond.static yJ6_bitCount_0f7a4).before args s = true := z_cwS hts m_co_J6_bitCount_0f7a4 m_ml_RX0_117 m_st_J6_bitCount_0f7a4 m_ii_RJ6 (by decide +kernel) h1 h2
theorem kV_RX0_84 {R : Room} {s : State} {args : Array Value} {d mc ms : Nat} (hts : ∀ w ∈ zT, w.before args s = true) (h1 : d + 1 ≤ R.frames) (h2 : 8 + (3 + 11) + 40 * d ≤ R.locals) : CallW R s args RX0 RX4 84 yX4_target cX4_target 3 (some .int) (zW yX4_target cX4_target 3 (some .int)) (zR d mc ms) mc ms 2 := z_cwV hts m_co_X4_target m_ml_RX0_84 m_im_X4_target m_se_X4_target m_ii_RX4 (by decide +kernel) h1 h2
theorem kV_RX0_129 {R : Room} {s : State} {args : Array Value} {d mc ms : Nat} (hts : ∀ w ∈ zT, w.before args s = true) (h1 : d + 1 ≤ R.frames) (h2 : 8 + (4 + 11) + 40 * d ≤ R.locals) : CallW R s args RX0 RX0 129 yX0_comesByRow cX0_comesByRow 4 (some .boolean) (zW yX0_comesByRow cX0_comesByRow 4 (some .boolean)) (zR d mc ms) mc ms 1 := z_cwV hts m_co_X0_comesByRow m_ml_RX0_129 m_im_X0_comesByRow m_se_X0_comesByRow m_ii_RX0 (by decide +kernel) h1 h2
theorem dX0_place_0 : decode cX0_place 0 = .ok (.iload_n 0, 1) := zo_26 (by decide +kernel)
theorem dX0_place_1 : decode cX0_place 1 = .ok (.iconst 3, 1) := zo_6 (by decide +kernel)
theorem dX0_place_2 : decode cX0_place 2 = .ok (.ishl, 1) := zo_120 (by decide +kernel)
theorem dX0_place_3 : decode cX0_place 3 = .ok (.iload_n 1, 1) := zo_27 (by decide +kernel)
theorem dX0_place_4 : decode cX0_place 4 = .ok (.iadd, 1) := zo_96 (by decide +kernel)
theorem dX0_place_5 : decode cX0_place 5 = .ok (.ireturn, 1) := zo_172 (by decide +kernel)
theorem dX0_road_0 : decode cX0_road 0 = .ok (.iload_n 2, 1) := zo_28 (by decide +kernel)
theorem dX0_road_1 : decode cX0_road 1 = .ok (.ifCond .lt 29, 3) := zo_155 (by decide +kernel)
theorem dX0_road_4 : decode cX0_road 4 = .ok (.iload_n 2, 1) := zo_28 (by decide +kernel)
theorem dX0_road_5 : decode cX0_road 5 = .ok (.bipush 7, 2) := zo_16 (by decide +kernel)
theorem dX0_road_7 : decode cX0_road 7 = .ok (.if_icmp .ge 23, 3) := zo_162 (by decide +kernel)
theorem dX0_road_10 : decode cX0_road 10 = .ok (.aload_n 0, 1) := zo_42 (by decide +kernel)
theorem dX0_road_11 : decode cX0_road 11 = .ok (.getfield 22, 3) := zo_180 (by decide +kernel)
theorem dX0_road_14 : decode cX0_road 14 = .ok (.iload_n 2, 1) := zo_28 (by decide +kernel)
theorem dX0_road_15 : decode cX0_road 15 = .ok (.iaload, 1) := zo_46 (by decide +kernel)
theorem dX0_road_16 : decode cX0_road 16 = .ok (.iconst 1, 1) := zo_4 (by decide +kernel)
theorem dX0_road_17 : decode cX0_road 17 = .ok (.if_icmp .lt 13, 3) := zo_161 (by decide +kernel)
theorem dX0_road_20 : decode cX0_road 20 = .ok (.aload_n 0, 1) := zo_42 (by decide +kernel)
theorem dX0_road_21 : decode cX0_road 21 = .ok (.getfield 18, 3) := zo_180 (by decide +kernel)
theorem dX0_road_24 : decode cX0_road 24 = .ok (.iload_n 2, 1) := zo_28 (by decide +kernel)
theorem dX0_road_25 : decode cX0_road 25 = .ok (.iaload, 1) := zo_46 (by decide +kernel)
theorem dX0_road_26 : decode cX0_road 26 = .ok (.iconst 1, 1) := zo_4 (by decide +kernel)
theorem dX0_road_27 : decode cX0_road 27 = .ok (.if_icmp .ge 5, 3) := zo_162 (by decide +kernel)
theorem dX0_road_30 : decode cX0_road 30 = .ok (.iconst 0, 1) := zo_3 (by decide +kernel)
theorem dX0_road_31 : decode cX0_road 31 = .ok (.ireturn, 1) := zo_172 (by decide +kernel)
theorem dX0_road_32 : decode cX0_road 32 = .ok (.iload_n 1, 1) := zo_27 (by decide +kernel)
theorem dX0_road_33 : decode cX0_road 33 = .ok (.aload_n 0, 1) := zo_42 (by decide +kernel)
theorem dX0_road_34 : decode cX0_road 34 = .ok (.getfield 22, 3) := zo_180 (by decide +kernel)
theorem dX0_road_37 : decode cX0_road 37 = .ok (.iload_n 2, 1) := zo_28 (by decide +kernel)
theorem dX0_road_38 : decode cX0_road 38 = .ok (.iaload, 1) := zo_46 (by decide +kernel)
theorem dX0_road_39 : decode cX0_road 39 = .ok (.idiv, 1) := zo_108 (by decide +kernel)
theorem dX0_road_40 : decode cX0_road 40 = .ok (.aload_n 0, 1) := zo_42 (by decide +kernel)
theorem dX0_road_41 : decode cX0_road 41 = .ok (.getfield 18, 3) := zo_180 (by decide +kernel)
theorem dX0_road_44 : decode cX0_road 44 = .ok (.iload_n 2, 1) := zo_28 (by decide +kernel)
theorem dX0_road_45 : decode cX0_road 45 = .ok (.iaload, 1) := zo_46 (by decide +kernel)
theorem dX0_road_46 : decode cX0_road 46 = .ok (.irem, 1) := zo_112 (by decide +kernel)
theorem dX0_road_47 : decode cX0_road 47 = .ok (.ireturn, 1) := zo_172 (by decide +kernel)
theorem dX0_entry_0 : decode cX0_entry 0 = .ok (.iload_n 1, 1) := zo_27 (by decide +kernel)
theorem dX0_entry_1 : decode cX0_entry 1 = .ok (.iconst 3, 1) := zo_6 (by decide +kernel)
theorem dX0_entry_2 : decode cX0_entry 2 = .ok (.ishl, 1) := zo_120 (by decide +kernel)
theorem dX0_entry_3 : decode cX0_entry 3 = .ok (.iload_n 2, 1) := zo_28 (by decide +kernel)
theorem dX0_entry_4 : decode cX0_entry 4 = .ok (.iadd, 1) := zo_96 (by decide +kernel)
theorem dX0_entry_5 : decode cX0_entry 5 = .ok (.istore_n 3, 1) := zo_62 (by decide +kernel)
theorem dX0_entry_6 : decode cX0_entry 6 = .ok (.iload_n 3, 1) := zo_29 (by decide +kernel)
theorem dX0_entry_7 : decode cX0_entry 7 = .ok (.ifCond .lt 21, 3) := zo_155 (by decide +kernel)
theorem dX0_entry_10 : decode cX0_entry 10 = .ok (.iload_n 3, 1) := zo_29 (by decide +kernel)
theorem dX0_entry_11 : decode cX0_entry 11 = .ok (.aload_n 0, 1) := zo_42 (by decide +kernel)
theorem dX0_entry_12 : decode cX0_entry 12 = .ok (.getfield 31, 3) := zo_180 (by decide +kernel)
theorem dX0_entry_15 : decode cX0_entry 15 = .ok (.arraylength, 1) := zo_190 (by decide +kernel)
theorem dX0_entry_16 : decode cX0_entry 16 = .ok (.if_icmp .ge 12, 3) := zo_162 (by decide +kernel)
theorem dX0_entry_19 : decode cX0_entry 19 = .ok (.aload_n 0, 1) := zo_42 (by decide +kernel)
theorem dX0_entry_20 : decode cX0_entry 20 = .ok (.getfield 31, 3) := zo_180 (by decide +kernel)
theorem dX0_entry_23 : decode cX0_entry 23 = .ok (.iload_n 3, 1) := zo_29 (by decide +kernel)
theorem dX0_entry_24 : decode cX0_entry 24 = .ok (.iaload, 1) := zo_46 (by decide +kernel)
theorem dX0_entry_25 : decode cX0_entry 25 = .ok (.goto 4, 3) := zo_167 (by decide +kernel)
theorem dX0_entry_28 : decode cX0_entry 28 = .ok (.iconst 0, 1) := zo_3 (by decide +kernel)
theorem dX0_entry_29 : decode cX0_entry 29 = .ok (.ireturn, 1) := zo_172 (by decide +kernel)
theorem dX0_where_0 : decode cX0_where 0 = .ok (.aload_n 0, 1) := zo_42 (by decide +kernel)
theorem dX0_where_1 : decode cX0_where 1 = .ok (.iload_n 1, 1) := zo_27 (by decide +kernel)
theorem dX0_where_2 : decode cX0_where 2 = .ok (.iload_n 2, 1) := zo_28 (by decide +kernel)
theorem dX0_where_3 : decode cX0_where 3 = .ok (.invokevirtual 91, 3) := zo_182 (by decide +kernel)
theorem dX0_where_6 : decode cX0_where 6 = .ok (.bipush 7, 2) := zo_16 (by decide +kernel)
theorem dX0_where_8 : decode cX0_where 8 = .ok (.iand, 1) := zo_126 (by decide +kernel)
theorem dX0_where_9 : decode cX0_where 9 = .ok (.ireturn, 1) := zo_172 (by decide +kernel)
theorem dX0_steps_0 : decode cX0_steps 0 = .ok (.aload_n 0, 1) := zo_42 (by decide +kernel)
theorem dX0_steps_1 : decode cX0_steps 1 = .ok (.iload_n 1, 1) := zo_27 (by decide +kernel)
theorem dX0_steps_2 : decode cX0_steps 2 = .ok (.iload_n 2, 1) := zo_28 (by decide +kernel)
theorem dX0_steps_3 : decode cX0_steps 3 = .ok (.invokevirtual 91, 3) := zo_182 (by decide +kernel)
theorem dX0_steps_6 : decode cX0_steps 6 = .ok (.bipush 17, 2) := zo_16 (by decide +kernel)
theorem dX0_steps_8 : decode cX0_steps 8 = .ok (.ishr, 1) := zo_122 (by decide +kernel)
theorem dX0_steps_9 : decode cX0_steps 9 = .ok (.ireturn, 1) := zo_172 (by decide +kernel)
theorem dX0_wayAfter_0 : decode cX0_wayAfter 0 = .ok (.aload_n 0, 1) := zo_42 (by decide +kernel)
theorem dX0_wayAfter_1 : decode cX0_wayAfter 1 = .ok (.iload_n 1, 1) := zo_27 (by decide +kernel)
theorem dX0_wayAfter_2 : decode cX0_wayAfter 2 = .ok (.iload_n 2, 1) := zo_28 (by decide +kernel)
theorem dX0_wayAfter_3 : decode cX0_wayAfter 3 = .ok (.invokevirtual 91, 3) := zo_182 (by decide +kernel)
theorem dX0_wayAfter_6 : decode cX0_wayAfter 6 = .ok (.ldc 90, 2) := zo_18 (by decide +kernel)
theorem dX0_wayAfter_8 : decode cX0_wayAfter 8 = .ok (.iand, 1) := zo_126 (by decide +kernel)
theorem dX0_wayAfter_9 : decode cX0_wayAfter 9 = .ok (.iconst 3, 1) := zo_6 (by decide +kernel)
theorem dX0_wayAfter_10 : decode cX0_wayAfter 10 = .ok (.ishr, 1) := zo_122 (by decide +kernel)
theorem dX0_wayAfter_11 : decode cX0_wayAfter 11 = .ok (.ireturn, 1) := zo_172 (by decide +kernel)
theorem dX0_stepsOrNever_0 : decode cX0_stepsOrNever 0 = .ok (.aload_n 0, 1) := zo_42 (by decide +kernel)
theorem dX0_stepsOrNever_1 : decode cX0_stepsOrNever 1 = .ok (.getfield 14, 3) := zo_180 (by decide +kernel)
theorem dX0_stepsOrNever_4 : decode cX0_stepsOrNever 4 = .ok (.aload_n 0, 1) := zo_42 (by decide +kernel)
theorem dX0_stepsOrNever_5 : decode cX0_stepsOrNever 5 = .ok (.iload_n 1, 1) := zo_27 (by decide +kernel)
theorem dX0_stepsOrNever_6 : decode cX0_stepsOrNever 6 = .ok (.iload_n 2, 1) := zo_28 (by decide +kernel)
theorem dX0_stepsOrNever_7 : decode cX0_stepsOrNever 7 = .ok (.invokevirtual 94, 3) := zo_182 (by decide +kernel)
theorem dX0_stepsOrNever_10 : decode cX0_stepsOrNever 10 = .ok (.invokevirtual 97, 3) := zo_182 (by decide +kernel)
theorem dX0_stepsOrNever_13 : decode cX0_stepsOrNever 13 = .ok (.ifCond .eq 12, 3) := zo_153 (by decide +kernel)
theorem dX0_stepsOrNever_16 : decode cX0_stepsOrNever 16 = .ok (.aload_n 0, 1) := zo_42 (by decide +kernel)
theorem dX0_stepsOrNever_17 : decode cX0_stepsOrNever 17 = .ok (.iload_n 1, 1) := zo_27 (by decide +kernel)
theorem dX0_stepsOrNever_18 : decode cX0_stepsOrNever 18 = .ok (.iload_n 2, 1) := zo_28 (by decide +kernel)
theorem dX0_stepsOrNever_19 : decode cX0_stepsOrNever 19 = .ok (.invokevirtual 101, 3) := zo_182 (by decide +kernel)
theorem dX0_stepsOrNever_22 : decode cX0_stepsOrNever 22 = .ok (.goto 6, 3) := zo_167 (by decide +kernel)
theorem dX0_stepsOrNever_25 : decode cX0_stepsOrNever 25 = .ok (.sipush 500, 3) := zo_17 (by decide +kernel)
theorem dX0_stepsOrNever_28 : decode cX0_stepsOrNever 28 = .ok (.ireturn, 1) := zo_172 (by decide +kernel)
theorem dX0_turned_0 : decode cX0_turned 0 = .ok (.aload_n 0, 1) := zo_42 (by decide +kernel)
theorem dX0_turned_1 : decode cX0_turned 1 = .ok (.getfield 14, 3) := zo_180 (by decide +kernel)
theorem dX0_turned_4 : decode cX0_turned 4 = .ok (.iload_n 2, 1) := zo_28 (by decide +kernel)
theorem dX0_turned_5 : decode cX0_turned 5 = .ok (.invokevirtual 61, 3) := zo_182 (by decide +kernel)
theorem dX0_turned_8 : decode cX0_turned 8 = .ok (.istore_n 3, 1) := zo_62 (by decide +kernel)
theorem dX0_turned_9 : decode cX0_turned 9 = .ok (.iload_n 3, 1) := zo_29 (by decide +kernel)
theorem dX0_turned_10 : decode cX0_turned 10 = .ok (.ifCond .ne 5, 3) := zo_154 (by decide +kernel)
theorem dX0_turned_13 : decode cX0_turned 13 = .ok (.iconst (-1), 1) := zo_2 (by decide +kernel)
theorem dX0_turned_14 : decode cX0_turned 14 = .ok (.ireturn, 1) := zo_172 (by decide +kernel)
theorem dX0_turned_15 : decode cX0_turned 15 = .ok (.aload_n 0, 1) := zo_42 (by decide +kernel)
theorem dX0_turned_16 : decode cX0_turned 16 = .ok (.iload_n 1, 1) := zo_27 (by decide +kernel)
theorem dX0_turned_17 : decode cX0_turned 17 = .ok (.iload_n 2, 1) := zo_28 (by decide +kernel)
theorem dX0_turned_18 : decode cX0_turned 18 = .ok (.invokevirtual 81, 3) := zo_182 (by decide +kernel)
theorem dX0_turned_21 : decode cX0_turned 21 = .ok (.iconst 1, 1) := zo_4 (by decide +kernel)
theorem dX0_turned_22 : decode cX0_turned 22 = .ok (.iadd, 1) := zo_96 (by decide +kernel)
theorem dX0_turned_23 : decode cX0_turned 23 = .ok (.iload_n 3, 1) := zo_29 (by decide +kernel)
theorem dX0_turned_24 : decode cX0_turned 24 = .ok (.if_icmp .ge 14, 3) := zo_162 (by decide +kernel)
theorem dX0_turned_27 : decode cX0_turned 27 = .ok (.iload_n 1, 1) := zo_27 (by decide +kernel)
theorem dX0_turned_28 : decode cX0_turned 28 = .ok (.aload_n 0, 1) := zo_42 (by decide +kernel)
theorem dX0_turned_29 : decode cX0_turned 29 = .ok (.getfield 22, 3) := zo_180 (by decide +kernel)
theorem dX0_turned_32 : decode cX0_turned 32 = .ok (.iload_n 2, 1) := zo_28 (by decide +kernel)
theorem dX0_turned_33 : decode cX0_turned 33 = .ok (.iaload, 1) := zo_46 (by decide +kernel)
theorem dX0_turned_34 : decode cX0_turned 34 = .ok (.iadd, 1) := zo_96 (by decide +kernel)
theorem dX0_turned_35 : decode cX0_turned 35 = .ok (.goto 15, 3) := zo_167 (by decide +kernel)
theorem dX0_turned_38 : decode cX0_turned 38 = .ok (.iload_n 1, 1) := zo_27 (by decide +kernel)
theorem dX0_turned_39 : decode cX0_turned 39 = .ok (.iload_n 3, 1) := zo_29 (by decide +kernel)
theorem dX0_turned_40 : decode cX0_turned 40 = .ok (.iconst 1, 1) := zo_4 (by decide +kernel)
theorem dX0_turned_41 : decode cX0_turned 41 = .ok (.isub, 1) := zo_100 (by decide +kernel)
theorem dX0_turned_42 : decode cX0_turned 42 = .ok (.aload_n 0, 1) := zo_42 (by decide +kernel)
theorem dX0_turned_43 : decode cX0_turned 43 = .ok (.getfield 22, 3) := zo_180 (by decide +kernel)
theorem dX0_turned_46 : decode cX0_turned 46 = .ok (.iload_n 2, 1) := zo_28 (by decide +kernel)
theorem dX0_turned_47 : decode cX0_turned 47 = .ok (.iaload, 1) := zo_46 (by decide +kernel)
theorem dX0_turned_48 : decode cX0_turned 48 = .ok (.imul, 1) := zo_104 (by decide +kernel)
theorem dX0_turned_49 : decode cX0_turned 49 = .ok (.isub, 1) := zo_100 (by decide +kernel)
theorem dX0_turned_50 : decode cX0_turned 50 = .ok (.ireturn, 1) := zo_172 (by decide +kernel)
theorem dX0_wayTold_0 : decode cX0_wayTold 0 = .ok (.iconst 0, 1) := zo_3 (by decide +kernel)
theorem dX0_wayTold_1 : decode cX0_wayTold 1 = .ok (.istore_n 1, 1) := zo_60 (by decide +kernel)
theorem dX0_wayTold_2 : decode cX0_wayTold 2 = .ok (.iconst 0, 1) := zo_3 (by decide +kernel)
theorem dX0_wayTold_3 : decode cX0_wayTold 3 = .ok (.istore_n 2, 1) := zo_61 (by decide +kernel)
theorem dX0_wayTold_4 : decode cX0_wayTold 4 = .ok (.iload_n 2, 1) := zo_28 (by decide +kernel)
theorem dX0_wayTold_5 : decode cX0_wayTold 5 = .ok (.bipush 7, 2) := zo_16 (by decide +kernel)
theorem dX0_wayTold_7 : decode cX0_wayTold 7 = .ok (.if_icmp .ge 43, 3) := zo_162 (by decide +kernel)
theorem dX0_wayTold_10 : decode cX0_wayTold 10 = .ok (.iload_n 1, 1) := zo_27 (by decide +kernel)
theorem dX0_wayTold_11 : decode cX0_wayTold 11 = .ok (.aload_n 0, 1) := zo_42 (by decide +kernel)
theorem dX0_wayTold_12 : decode cX0_wayTold 12 = .ok (.getfield 14, 3) := zo_180 (by decide +kernel)
theorem dX0_wayTold_15 : decode cX0_wayTold 15 = .ok (.iload_n 2, 1) := zo_28 (by decide +kernel)
theorem dX0_wayTold_16 : decode cX0_wayTold 16 = .ok (.invokevirtual 61, 3) := zo_182 (by decide +kernel)
theorem dX0_wayTold_19 : decode cX0_wayTold 19 = .ok (.ifCond .le 22, 3) := zo_158 (by decide +kernel)
theorem dX0_wayTold_22 : decode cX0_wayTold 22 = .ok (.aload_n 0, 1) := zo_42 (by decide +kernel)
theorem dX0_wayTold_23 : decode cX0_wayTold 23 = .ok (.getfield 14, 3) := zo_180 (by decide +kernel)
theorem dX0_wayTold_26 : decode cX0_wayTold 26 = .ok (.getfield 104, 3) := zo_180 (by decide +kernel)
theorem dX0_wayTold_29 : decode cX0_wayTold 29 = .ok (.iload_n 2, 1) := zo_28 (by decide +kernel)
theorem dX0_wayTold_30 : decode cX0_wayTold 30 = .ok (.iaload, 1) := zo_46 (by decide +kernel)
theorem dX0_wayTold_31 : decode cX0_wayTold 31 = .ok (.aload_n 0, 1) := zo_42 (by decide +kernel)
theorem dX0_wayTold_32 : decode cX0_wayTold 32 = .ok (.getfield 22, 3) := zo_180 (by decide +kernel)
theorem dX0_wayTold_35 : decode cX0_wayTold 35 = .ok (.iload_n 2, 1) := zo_28 (by decide +kernel)
theorem dX0_wayTold_36 : decode cX0_wayTold 36 = .ok (.iaload, 1) := zo_46 (by decide +kernel)
theorem dX0_wayTold_37 : decode cX0_wayTold 37 = .ok (.imul, 1) := zo_104 (by decide +kernel)
theorem dX0_wayTold_38 : decode cX0_wayTold 38 = .ok (.goto 4, 3) := zo_167 (by decide +kernel)
theorem dX0_wayTold_41 : decode cX0_wayTold 41 = .ok (.iconst 0, 1) := zo_3 (by decide +kernel)
theorem dX0_wayTold_42 : decode cX0_wayTold 42 = .ok (.iadd, 1) := zo_96 (by decide +kernel)
theorem dX0_wayTold_43 : decode cX0_wayTold 43 = .ok (.istore_n 1, 1) := zo_60 (by decide +kernel)
theorem dX0_wayTold_44 : decode cX0_wayTold 44 = .ok (.iinc 2 1, 3) := zo_132 (by decide +kernel)
theorem dX0_wayTold_47 : decode cX0_wayTold 47 = .ok (.goto (-43), 3) := zo_167 (by decide +kernel)
theorem dX0_wayTold_50 : decode cX0_wayTold 50 = .ok (.iload_n 1, 1) := zo_27 (by decide +kernel)
theorem dX0_wayTold_51 : decode cX0_wayTold 51 = .ok (.ireturn, 1) := zo_172 (by decide +kernel)
theorem dX0_number_0 : decode cX0_number 0 = .ok (.iconst 1, 1) := zo_4 (by decide +kernel)
theorem dX0_number_1 : decode cX0_number 1 = .ok (.istore_n 2, 1) := zo_61 (by decide +kernel)
theorem dX0_number_2 : decode cX0_number 2 = .ok (.iconst 0, 1) := zo_3 (by decide +kernel)
theorem dX0_number_3 : decode cX0_number 3 = .ok (.istore_n 3, 1) := zo_62 (by decide +kernel)
theorem dX0_number_4 : decode cX0_number 4 = .ok (.iload_n 3, 1) := zo_29 (by decide +kernel)
theorem dX0_number_5 : decode cX0_number 5 = .ok (.aload_n 0, 1) := zo_42 (by decide +kernel)
theorem dX0_number_6 : decode cX0_number 6 = .ok (.getfield 14, 3) := zo_180 (by decide +kernel)
theorem dX0_number_9 : decode cX0_number 9 = .ok (.getfield 107, 3) := zo_180 (by decide +kernel)
theorem dX0_number_12 : decode cX0_number 12 = .ok (.if_icmp .ge 21, 3) := zo_162 (by decide +kernel)
theorem dX0_number_15 : decode cX0_number 15 = .ok (.iload_n 2, 1) := zo_28 (by decide +kernel)
theorem dX0_number_16 : decode cX0_number 16 = .ok (.bipush 10, 2) := zo_16 (by decide +kernel)
theorem dX0_number_18 : decode cX0_number 18 = .ok (.imul, 1) := zo_104 (by decide +kernel)
theorem dX0_number_19 : decode cX0_number 19 = .ok (.aload_n 0, 1) := zo_42 (by decide +kernel)
theorem dX0_number_20 : decode cX0_number 20 = .ok (.iload_n 1, 1) := zo_27 (by decide +kernel)
theorem dX0_number_21 : decode cX0_number 21 = .ok (.iload_n 3, 1) := zo_29 (by decide +kernel)
theorem dX0_number_22 : decode cX0_number 22 = .ok (.invokevirtual 81, 3) := zo_182 (by decide +kernel)
theorem dX0_number_25 : decode cX0_number 25 = .ok (.iadd, 1) := zo_96 (by decide +kernel)
theorem dX0_number_26 : decode cX0_number 26 = .ok (.istore_n 2, 1) := zo_61 (by decide +kernel)
theorem dX0_number_27 : decode cX0_number 27 = .ok (.iinc 3 1, 3) := zo_132 (by decide +kernel)
theorem dX0_number_30 : decode cX0_number 30 = .ok (.goto (-26), 3) := zo_167 (by decide +kernel)
theorem dX0_number_33 : decode cX0_number 33 = .ok (.iload_n 2, 1) := zo_28 (by decide +kernel)
theorem dX0_number_34 : decode cX0_number 34 = .ok (.ireturn, 1) := zo_172 (by decide +kernel)
theorem dX0_unlike_0 : decode cX0_unlike 0 = .ok (.iconst 0, 1) := zo_3 (by decide +kernel)
theorem dX0_unlike_1 : decode cX0_unlike 1 = .ok (.istore_n 3, 1) := zo_62 (by decide +kernel)
theorem dX0_unlike_2 : decode cX0_unlike 2 = .ok (.iconst 0, 1) := zo_3 (by decide +kernel)
theorem dX0_unlike_3 : decode cX0_unlike 3 = .ok (.istore 4, 2) := zo_54 (by decide +kernel)
theorem dX0_unlike_5 : decode cX0_unlike 5 = .ok (.iload 4, 2) := zo_21 (by decide +kernel)
theorem dX0_unlike_7 : decode cX0_unlike 7 = .ok (.aload_n 0, 1) := zo_42 (by decide +kernel)
theorem dX0_unlike_8 : decode cX0_unlike 8 = .ok (.getfield 14, 3) := zo_180 (by decide +kernel)
theorem dX0_unlike_11 : decode cX0_unlike 11 = .ok (.getfield 107, 3) := zo_180 (by decide +kernel)
theorem dX0_unlike_14 : decode cX0_unlike 14 = .ok (.if_icmp .ge 37, 3) := zo_162 (by decide +kernel)
theorem dX0_unlike_17 : decode cX0_unlike 17 = .ok (.iload_n 3, 1) := zo_29 (by decide +kernel)
theorem dX0_unlike_18 : decode cX0_unlike 18 = .ok (.aload_n 0, 1) := zo_42 (by decide +kernel)
theorem dX0_unlike_19 : decode cX0_unlike 19 = .ok (.iload_n 1, 1) := zo_27 (by decide +kernel)
theorem dX0_unlike_20 : decode cX0_unlike 20 = .ok (.iload 4, 2) := zo_21 (by decide +kernel)
theorem dX0_unlike_22 : decode cX0_unlike 22 = .ok (.invokevirtual 81, 3) := zo_182 (by decide +kernel)
theorem dX0_unlike_25 : decode cX0_unlike 25 = .ok (.aload_n 0, 1) := zo_42 (by decide +kernel)
theorem dX0_unlike_26 : decode cX0_unlike 26 = .ok (.iload_n 2, 1) := zo_28 (by decide +kernel)
theorem dX0_unlike_27 : decode cX0_unlike 27 = .ok (.iload 4, 2) := zo_21 (by decide +kernel)
theorem dX0_unlike_29 : decode cX0_unlike 29 = .ok (.invokevirtual 81, 3) := zo_182 (by decide +kernel)
theorem dX0_unlike_32 : decode cX0_unlike 32 = .ok (.if_icmp .eq 10, 3) := zo_159 (by decide +kernel)
theorem dX0_unlike_35 : decode cX0_unlike 35 = .ok (.iconst 1, 1) := zo_4 (by decide +kernel)
theorem dX0_unlike_36 : decode cX0_unlike 36 = .ok (.iload 4, 2) := zo_21 (by decide +kernel)
theorem dX0_unlike_38 : decode cX0_unlike 38 = .ok (.ishl, 1) := zo_120 (by decide +kernel)
theorem dX0_unlike_39 : decode cX0_unlike 39 = .ok (.goto 4, 3) := zo_167 (by decide +kernel)
theorem dX0_unlike_42 : decode cX0_unlike 42 = .ok (.iconst 0, 1) := zo_3 (by decide +kernel)
theorem dX0_unlike_43 : decode cX0_unlike 43 = .ok (.ior, 1) := zo_128 (by decide +kernel)
theorem dX0_unlike_44 : decode cX0_unlike 44 = .ok (.istore_n 3, 1) := zo_62 (by decide +kernel)
theorem dX0_unlike_45 : decode cX0_unlike 45 = .ok (.iinc 4 1, 3) := zo_132 (by decide +kernel)
theorem dX0_unlike_48 : decode cX0_unlike 48 = .ok (.goto (-43), 3) := zo_167 (by decide +kernel)
theorem dX0_unlike_51 : decode cX0_unlike 51 = .ok (.iload_n 3, 1) := zo_29 (by decide +kernel)
theorem dX0_unlike_52 : decode cX0_unlike 52 = .ok (.ireturn, 1) := zo_172 (by decide +kernel)
theorem dX0_nearestWay_0 : decode cX0_nearestWay 0 = .ok (.aload_n 0, 1) := zo_42 (by decide +kernel)
theorem dX0_nearestWay_1 : decode cX0_nearestWay 1 = .ok (.invokevirtual 110, 3) := zo_182 (by decide +kernel)
theorem dX0_nearestWay_4 : decode cX0_nearestWay 4 = .ok (.istore_n 3, 1) := zo_62 (by decide +kernel)
theorem dX0_nearestWay_5 : decode cX0_nearestWay 5 = .ok (.iconst (-1), 1) := zo_2 (by decide +kernel)
theorem dX0_nearestWay_6 : decode cX0_nearestWay 6 = .ok (.istore 4, 2) := zo_54 (by decide +kernel)
theorem dX0_nearestWay_8 : decode cX0_nearestWay 8 = .ok (.iconst 0, 1) := zo_3 (by decide +kernel)
theorem dX0_nearestWay_9 : decode cX0_nearestWay 9 = .ok (.istore 5, 2) := zo_54 (by decide +kernel)
theorem dX0_nearestWay_11 : decode cX0_nearestWay 11 = .ok (.iconst 0, 1) := zo_3 (by decide +kernel)
theorem dX0_nearestWay_12 : decode cX0_nearestWay 12 = .ok (.istore 6, 2) := zo_54 (by decide +kernel)
theorem dX0_nearestWay_14 : decode cX0_nearestWay 14 = .ok (.iload 6, 2) := zo_21 (by decide +kernel)
theorem dX0_nearestWay_16 : decode cX0_nearestWay 16 = .ok (.aload_n 0, 1) := zo_42 (by decide +kernel)
theorem dX0_nearestWay_17 : decode cX0_nearestWay 17 = .ok (.getfield 57, 3) := zo_180 (by decide +kernel)
theorem dX0_nearestWay_20 : decode cX0_nearestWay 20 = .ok (.if_icmp .ge 63, 3) := zo_162 (by decide +kernel)
theorem dX0_nearestWay_23 : decode cX0_nearestWay 23 = .ok (.aload_n 0, 1) := zo_42 (by decide +kernel)
theorem dX0_nearestWay_24 : decode cX0_nearestWay 24 = .ok (.iload 6, 2) := zo_21 (by decide +kernel)
theorem dX0_nearestWay_26 : decode cX0_nearestWay 26 = .ok (.iload_n 1, 1) := zo_27 (by decide +kernel)
theorem dX0_nearestWay_27 : decode cX0_nearestWay 27 = .ok (.invokevirtual 94, 3) := zo_182 (by decide +kernel)
theorem dX0_nearestWay_30 : decode cX0_nearestWay 30 = .ok (.iload_n 2, 1) := zo_28 (by decide +kernel)
theorem dX0_nearestWay_31 : decode cX0_nearestWay 31 = .ok (.if_icmp .ne 46, 3) := zo_160 (by decide +kernel)
theorem dX0_nearestWay_34 : decode cX0_nearestWay 34 = .ok (.aload_n 0, 1) := zo_42 (by decide +kernel)
theorem dX0_nearestWay_35 : decode cX0_nearestWay 35 = .ok (.iload 6, 2) := zo_21 (by decide +kernel)
theorem dX0_nearestWay_37 : decode cX0_nearestWay 37 = .ok (.iload_n 3, 1) := zo_29 (by decide +kernel)
theorem dX0_nearestWay_38 : decode cX0_nearestWay 38 = .ok (.invokevirtual 114, 3) := zo_182 (by decide +kernel)
theorem dX0_nearestWay_41 : decode cX0_nearestWay 41 = .ok (.istore 7, 2) := zo_54 (by decide +kernel)
theorem dX0_nearestWay_43 : decode cX0_nearestWay 43 = .ok (.iload 7, 2) := zo_21 (by decide +kernel)
theorem dX0_nearestWay_45 : decode cX0_nearestWay 45 = .ok (.invokestatic 117, 3) := zo_184 (by decide +kernel)
theorem dX0_nearestWay_48 : decode cX0_nearestWay 48 = .ok (.bipush 7, 2) := zo_16 (by decide +kernel)
theorem dX0_nearestWay_50 : decode cX0_nearestWay 50 = .ok (.ishl, 1) := zo_120 (by decide +kernel)
theorem dX0_nearestWay_51 : decode cX0_nearestWay 51 = .ok (.iload 7, 2) := zo_21 (by decide +kernel)
theorem dX0_nearestWay_53 : decode cX0_nearestWay 53 = .ok (.iadd, 1) := zo_96 (by decide +kernel)
theorem dX0_nearestWay_54 : decode cX0_nearestWay 54 = .ok (.istore 8, 2) := zo_54 (by decide +kernel)
theorem dX0_nearestWay_56 : decode cX0_nearestWay 56 = .ok (.iload 4, 2) := zo_21 (by decide +kernel)
theorem dX0_nearestWay_58 : decode cX0_nearestWay 58 = .ok (.iconst (-1), 1) := zo_2 (by decide +kernel)
theorem dX0_nearestWay_59 : decode cX0_nearestWay 59 = .ok (.if_icmp .eq 10, 3) := zo_159 (by decide +kernel)
theorem dX0_nearestWay_62 : decode cX0_nearestWay 62 = .ok (.iload 8, 2) := zo_21 (by decide +kernel)
theorem dX0_nearestWay_64 : decode cX0_nearestWay 64 = .ok (.iload 5, 2) := zo_21 (by decide +kernel)
theorem dX0_nearestWay_66 : decode cX0_nearestWay 66 = .ok (.if_icmp .ge 11, 3) := zo_162 (by decide +kernel)
theorem dX0_nearestWay_69 : decode cX0_nearestWay 69 = .ok (.iload 6, 2) := zo_21 (by decide +kernel)
theorem dX0_nearestWay_71 : decode cX0_nearestWay 71 = .ok (.istore 4, 2) := zo_54 (by decide +kernel)
theorem dX0_nearestWay_73 : decode cX0_nearestWay 73 = .ok (.iload 8, 2) := zo_21 (by decide +kernel)
theorem dX0_nearestWay_75 : decode cX0_nearestWay 75 = .ok (.istore 5, 2) := zo_54 (by decide +kernel)
theorem dX0_nearestWay_77 : decode cX0_nearestWay 77 = .ok (.iinc 6 1, 3) := zo_132 (by decide +kernel)
theorem dX0_nearestWay_80 : decode cX0_nearestWay 80 = .ok (.goto (-66), 3) := zo_167 (by decide +kernel)
theorem dX0_nearestWay_83 : decode cX0_nearestWay 83 = .ok (.iload 4, 2) := zo_21 (by decide +kernel)
theorem dX0_nearestWay_85 : decode cX0_nearestWay 85 = .ok (.ireturn, 1) := zo_172 (by decide +kernel)
theorem dX0_comesByRow_0 : decode cX0_comesByRow 0 = .ok (.iload_n 1, 1) := zo_27 (by decide +kernel)
theorem dX0_comesByRow_1 : decode cX0_comesByRow 1 = .ok (.istore_n 2, 1) := zo_61 (by decide +kernel)
theorem dX0_comesByRow_2 : decode cX0_comesByRow 2 = .ok (.iconst 0, 1) := zo_3 (by decide +kernel)
theorem dX0_comesByRow_3 : decode cX0_comesByRow 3 = .ok (.istore_n 3, 1) := zo_62 (by decide +kernel)
theorem dX0_comesByRow_4 : decode cX0_comesByRow 4 = .ok (.iload_n 3, 1) := zo_29 (by decide +kernel)
theorem dX0_comesByRow_5 : decode cX0_comesByRow 5 = .ok (.aload_n 0, 1) := zo_42 (by decide +kernel)
theorem dX0_comesByRow_6 : decode cX0_comesByRow 6 = .ok (.getfield 14, 3) := zo_180 (by decide +kernel)
theorem dX0_comesByRow_9 : decode cX0_comesByRow 9 = .ok (.getfield 107, 3) := zo_180 (by decide +kernel)
theorem dX0_comesByRow_12 : decode cX0_comesByRow 12 = .ok (.if_icmp .ge 35, 3) := zo_162 (by decide +kernel)
theorem dX0_comesByRow_15 : decode cX0_comesByRow 15 = .ok (.aload_n 0, 1) := zo_42 (by decide +kernel)
theorem dX0_comesByRow_16 : decode cX0_comesByRow 16 = .ok (.getfield 14, 3) := zo_180 (by decide +kernel)
theorem dX0_comesByRow_19 : decode cX0_comesByRow 19 = .ok (.iload_n 2, 1) := zo_28 (by decide +kernel)
theorem dX0_comesByRow_20 : decode cX0_comesByRow 20 = .ok (.invokevirtual 61, 3) := zo_182 (by decide +kernel)
theorem dX0_comesByRow_23 : decode cX0_comesByRow 23 = .ok (.ifCond .le 24, 3) := zo_158 (by decide +kernel)
theorem dX0_comesByRow_26 : decode cX0_comesByRow 26 = .ok (.aload_n 0, 1) := zo_42 (by decide +kernel)
theorem dX0_comesByRow_27 : decode cX0_comesByRow 27 = .ok (.getfield 14, 3) := zo_180 (by decide +kernel)
theorem dX0_comesByRow_30 : decode cX0_comesByRow 30 = .ok (.iload_n 2, 1) := zo_28 (by decide +kernel)
theorem dX0_comesByRow_31 : decode cX0_comesByRow 31 = .ok (.aload_n 0, 1) := zo_42 (by decide +kernel)
theorem dX0_comesByRow_32 : decode cX0_comesByRow 32 = .ok (.getfield 25, 3) := zo_180 (by decide +kernel)
theorem dX0_comesByRow_35 : decode cX0_comesByRow 35 = .ok (.iload_n 2, 1) := zo_28 (by decide +kernel)
theorem dX0_comesByRow_36 : decode cX0_comesByRow 36 = .ok (.iaload, 1) := zo_46 (by decide +kernel)
theorem dX0_comesByRow_37 : decode cX0_comesByRow 37 = .ok (.invokevirtual 84, 3) := zo_182 (by decide +kernel)
theorem dX0_comesByRow_40 : decode cX0_comesByRow 40 = .ok (.istore_n 2, 1) := zo_61 (by decide +kernel)
theorem dX0_comesByRow_41 : decode cX0_comesByRow 41 = .ok (.iinc 3 1, 3) := zo_132 (by decide +kernel)
theorem dX0_comesByRow_44 : decode cX0_comesByRow 44 = .ok (.goto (-40), 3) := zo_167 (by decide +kernel)
theorem dX0_comesByRow_47 : decode cX0_comesByRow 47 = .ok (.aload_n 0, 1) := zo_42 (by decide +kernel)
theorem dX0_comesByRow_48 : decode cX0_comesByRow 48 = .ok (.getfield 14, 3) := zo_180 (by decide +kernel)
theorem dX0_comesByRow_51 : decode cX0_comesByRow 51 = .ok (.iload_n 2, 1) := zo_28 (by decide +kernel)
theorem dX0_comesByRow_52 : decode cX0_comesByRow 52 = .ok (.invokevirtual 97, 3) := zo_182 (by decide +kernel)
theorem dX0_comesByRow_55 : decode cX0_comesByRow 55 = .ok (.ireturn, 1) := zo_172 (by decide +kernel)
theorem dX0_allComeByRow_0 : decode cX0_allComeByRow 0 = .ok (.iconst 0, 1) := zo_3 (by decide +kernel)
theorem dX0_allComeByRow_1 : decode cX0_allComeByRow 1 = .ok (.istore_n 1, 1) := zo_60 (by decide +kernel)
theorem dX0_allComeByRow_2 : decode cX0_allComeByRow 2 = .ok (.iload_n 1, 1) := zo_27 (by decide +kernel)
theorem dX0_allComeByRow_3 : decode cX0_allComeByRow 3 = .ok (.aload_n 0, 1) := zo_42 (by decide +kernel)
theorem dX0_allComeByRow_4 : decode cX0_allComeByRow 4 = .ok (.getfield 14, 3) := zo_180 (by decide +kernel)
theorem dX0_allComeByRow_7 : decode cX0_allComeByRow 7 = .ok (.getfield 107, 3) := zo_180 (by decide +kernel)
theorem dX0_allComeByRow_10 : decode cX0_allComeByRow 10 = .ok (.if_icmp .ge 30, 3) := zo_162 (by decide +kernel)
theorem dX0_allComeByRow_13 : decode cX0_allComeByRow 13 = .ok (.aload_n 0, 1) := zo_42 (by decide +kernel)
theorem dX0_allComeByRow_14 : decode cX0_allComeByRow 14 = .ok (.getfield 14, 3) := zo_180 (by decide +kernel)
theorem dX0_allComeByRow_17 : decode cX0_allComeByRow 17 = .ok (.iload_n 1, 1) := zo_27 (by decide +kernel)
theorem dX0_allComeByRow_18 : decode cX0_allComeByRow 18 = .ok (.invokevirtual 61, 3) := zo_182 (by decide +kernel)
theorem dX0_allComeByRow_21 : decode cX0_allComeByRow 21 = .ok (.ifCond .le 13, 3) := zo_158 (by decide +kernel)
theorem dX0_allComeByRow_24 : decode cX0_allComeByRow 24 = .ok (.aload_n 0, 1) := zo_42 (by decide +kernel)
theorem dX0_allComeByRow_25 : decode cX0_allComeByRow 25 = .ok (.iload_n 1, 1) := zo_27 (by decide +kernel)
theorem dX0_allComeByRow_26 : decode cX0_allComeByRow 26 = .ok (.invokevirtual 129, 3) := zo_182 (by decide +kernel)
theorem dX0_allComeByRow_29 : decode cX0_allComeByRow 29 = .ok (.ifCond .ne 5, 3) := zo_154 (by decide +kernel)
theorem dX0_allComeByRow_32 : decode cX0_allComeByRow 32 = .ok (.iconst 0, 1) := zo_3 (by decide +kernel)
theorem dX0_allComeByRow_33 : decode cX0_allComeByRow 33 = .ok (.ireturn, 1) := zo_172 (by decide +kernel)
theorem dX0_allComeByRow_34 : decode cX0_allComeByRow 34 = .ok (.iinc 1 1, 3) := zo_132 (by decide +kernel)
theorem dX0_allComeByRow_37 : decode cX0_allComeByRow 37 = .ok (.goto (-35), 3) := zo_167 (by decide +kernel)
theorem dX0_allComeByRow_40 : decode cX0_allComeByRow 40 = .ok (.iconst 1, 1) := zo_4 (by decide +kernel)
theorem dX0_allComeByRow_41 : decode cX0_allComeByRow 41 = .ok (.ireturn, 1) := zo_172 (by decide +kernel)
def zRoad (f1 f2 : Nat → Int32) (way x : Int32) : Int32 := if x.toInt < 0 ∨ 7 ≤ x.toInt ∨ (f2 x.toNatClampNeg).toInt < 1 ∨ (f1 x.toNatClampNeg).toInt < 1 then 0 else way / f2 x.toNatClampNeg - way / f2 x.toNatClampNeg / f1 x.toNatClampNeg * f1 x.toNatClampNeg
def zEntry (f5 : Nat → Int32) (n : Nat) (way x : Int32) : Int32 := if 0 ≤ ((way <<< (3 &&& 31)) + x).toInt ∧ ((way <<< (3 &&& 31)) + x).toInt < n then f5 ((way <<< (3 &&& 31)) + x).toNatClampNeg else 0
theorem z_and7 (x : Int32) : 0 ≤ (x &&& 7).toInt ∧ (x &&& 7).toInt ≤ 7 := by
  obtain ⟨j, hj, e⟩ := pk_andE x (m := 7) 3 (by decide)
  rw [e, nI_toInt (by omega)]
  omega
set_option maxHeartbeats 4000000 in
set_option maxRecDepth 100000 in
/-- place -/
theorem c_place (l : Launch) (T : zTy) (x : Int32) (y : Int32) : zMi l T yX0_place cX0_place 2 (some .int) 1 0 0 [.int x, .int y] [] (fun (r : Int32) bs => bs = [] ∧ r = (x <<< (3 &&& 31)) + y) := by
  refine zMi_of (own := RX0) (by decide) rfl (Nat.le_of_ble_eq_true rfl) ?_
  intro p e s m args below meth c A ls C hr hlocks hnm hAe G hl
  refine zHide (fun Qz_ hQz_ => ?_)
  have hx := C.1
  have hb := C.2.1
  have hl : lv_has ls 2 [(0, .int x), (1, .int y)] := hl
  refine lv_iload_n hx hb dX0_place_0 rfl (lv_at hl 0 rfl) ?_
  refine lv_iconst (v := 3) hx hb dX0_place_1 (by decide) ?_
  refine lv_ishl hx hb dX0_place_2 ?_
  refine lv_iload_n hx hb dX0_place_3 rfl (lv_at hl 1 rfl) ?_
  refine lv_iadd hx hb dX0_place_4 ?_
  exact z_back hQz_ (z_iret C hr hlocks G (Nat.le_of_ble_eq_true rfl) (Nat.le_of_ble_eq_true rfl) dX0_place_5 ⟨rfl, rfl⟩)
set_option maxHeartbeats 4000000 in
set_option maxRecDepth 100000 in
/-- c_road -/
theorem c_road (l : Launch) (T : zTy) (h : Nat) (la : Nat) (md : Int32) (wy : Int32) (pc_ : Int32) (f1 : Nat → Int32) (f2 : Nat → Int32) (f3 : Nat → Int32) (f4 : Nat → Int32) (f5 : Nat → Int32) (f6 : Nat → Int32) (n4 : Nat) (ww : va_W) (x : Int32) (y : Int32) (hww : bWays T h la md wy pc_ f1 f2 f3 f4 f5 f6 n4 ww) : zMi l T yX0_road cX0_road 3 (some .int) 1 0 0 [.ref h, .int x, .int y] [ww] (fun (r : Int32) bs => bs = [ww] ∧ r = zRoad f1 f2 x y) := by
  refine zMi_of (own := RX0) (by decide) rfl (Nat.le_of_ble_eq_true rfl) ?_
  intro p e s m args below meth c A ls C hr hlocks hnm hAe G hl
  refine zHide (fun Qz_ hQz_ => ?_)
  have hx := C.1
  have hb := C.2.1
  have hl : lv_has ls 3 [(0, .ref h), (1, .int x), (2, .int y)] := hl
  refine lv_iload_n hx hb dX0_road_0 rfl (lv_at hl 2 rfl) ?_
  refine lv_if_lt (tgt := 30) hx hb dX0_road_1 (by decide) (fun c_1 => ?_) (fun c_1 => ?_)
  · have c_1n : y.toInt < (0 : Int) := (fa_lt _ _).mp c_1
    refine lv_iconst (v := 0) hx hb dX0_road_30 (by decide) ?_
    exact z_back hQz_ (z_iret C hr hlocks G (Nat.le_of_ble_eq_true rfl) (Nat.le_of_ble_eq_true rfl) dX0_road_31 ⟨rfl, (by unfold zRoad; rw [if_pos (by omega)])⟩)
  · have c_1n : ¬ y.toInt < (0 : Int) := fun q => c_1 ((fa_lt _ _).mpr q)
    refine lv_iload_n hx hb dX0_road_4 rfl (lv_at hl 2 rfl) ?_
    refine lv_bipush (v := 7) hx hb dX0_road_5 (by decide) ?_
    refine lv_icmp_ge (tgt := 30) hx hb dX0_road_7 (by decide) (fun c_2 => ?_) (fun c_2 => ?_)
    · have c_2n : (7 : Int) ≤ y.toInt := (fa_le _ _).mp c_2
      refine lv_iconst (v := 0) hx hb dX0_road_30 (by decide) ?_
      exact z_back hQz_ (z_iret C hr hlocks G (Nat.le_of_ble_eq_true rfl) (Nat.le_of_ble_eq_true rfl) dX0_road_31 ⟨rfl, (by unfold zRoad; rw [if_pos (by omega)])⟩)
    · have c_2n : ¬ (7 : Int) ≤ y.toInt := fun q => c_2 ((fa_le _ _).mpr q)
      refine lv_aload_n hx hb dX0_road_10 rfl (lv_at hl 0 rfl) ?_
      refine zEx6 hww ?_
      intro a1_3 a2_4 a3_5 a4_6 a5_7 a6_8 hbs9
      clear hww
      subst hbs9
      have G : zS T A s.heap s [[zO0 h md wy la pc_ a1_3 a2_4 a3_5 a4_6 a5_7 a6_8], [zAr T 0 a1_3 7 f1], [zAr T 0 a2_4 7 f2], [zAr T 0 a3_5 7 f3], [zAr T 0 a4_6 n4 f4], [zAr T 0 a5_7 n4 f5], [zAr T 0 a6_8 n4 f6]] _ _ := G.re rfl
      refine z_get C G clX0 0 rfl 5 (by decide) m_fl_RX0_22 rfl dX0_road_11 ?_
      refine lv_iload_n hx hb dX0_road_14 rfl (lv_at hl 2 rfl) ?_
      refine z_ild C G 2 rfl (vp_in_iff.mpr ⟨by omega, by omega⟩) dX0_road_15 ?_
      refine lv_topi (fun v_9 ev_9 => ?_)
      subst ev_9
      refine lv_iconst (v := 1) hx hb dX0_road_16 (by decide) ?_
      refine lv_icmp_lt (tgt := 30) hx hb dX0_road_17 (by decide) (fun c_10 => ?_) (fun c_10 => ?_)
      · have c_10n : (f2 y.toNatClampNeg).toInt < (1 : Int) := (fa_lt _ _).mp c_10
        refine lv_iconst (v := 0) hx hb dX0_road_30 (by decide) ?_
        have hw_11 : bWays T h la md wy pc_ f1 f2 f3 f4 f5 f6 n4 [zO0 h md wy la pc_ a1_3 a2_4 a3_5 a4_6 a5_7 a6_8, zAr T 0 a1_3 7 f1, zAr T 0 a2_4 7 f2, zAr T 0 a3_5 7 f3, zAr T 0 a4_6 n4 f4, zAr T 0 a5_7 n4 f5, zAr T 0 a6_8 n4 f6] := ⟨a1_3, a2_4, a3_5, a4_6, a5_7, a6_8, rfl⟩
        have G : zS T A s.heap s [[zO0 h md wy la pc_ a1_3 a2_4 a3_5 a4_6 a5_7 a6_8, zAr T 0 a1_3 7 f1, zAr T 0 a2_4 7 f2, zAr T 0 a3_5 7 f3, zAr T 0 a4_6 n4 f4, zAr T 0 a5_7 n4 f5, zAr T 0 a6_8 n4 f6]] _ _ := G.re rfl
        exact z_back hQz_ (z_iret C hr hlocks G (Nat.le_of_ble_eq_true rfl) (Nat.le_of_ble_eq_true rfl) dX0_road_31 ⟨rfl, (by unfold zRoad; rw [if_pos (by omega)])⟩)
      · have c_10n : ¬ (f2 y.toNatClampNeg).toInt < (1 : Int) := fun q => c_10 ((fa_lt _ _).mpr q)
        refine lv_aload_n hx hb dX0_road_20 rfl (lv_at hl 0 rfl) ?_
        refine z_get C G clX0 0 rfl 4 (by decide) m_fl_RX0_18 rfl dX0_road_21 ?_
        refine lv_iload_n hx hb dX0_road_24 rfl (lv_at hl 2 rfl) ?_
        refine z_ild C G 1 rfl (vp_in_iff.mpr ⟨by omega, by omega⟩) dX0_road_25 ?_
        refine lv_topi (fun v_12 ev_12 => ?_)
        subst ev_12
        refine lv_iconst (v := 1) hx hb dX0_road_26 (by decide) ?_
        refine lv_icmp_ge (tgt := 32) hx hb dX0_road_27 (by decide) (fun c_13 => ?_) (fun c_13 => ?_)
        · have c_13n : (1 : Int) ≤ (f1 y.toNatClampNeg).toInt := (fa_le _ _).mp c_13
          refine lv_iload_n hx hb dX0_road_32 rfl (lv_at hl 1 rfl) ?_
          refine lv_aload_n hx hb dX0_road_33 rfl (lv_at hl 0 rfl) ?_
          refine z_get C G clX0 0 rfl 5 (by decide) m_fl_RX0_22 rfl dX0_road_34 ?_
          refine lv_iload_n hx hb dX0_road_37 rfl (lv_at hl 2 rfl) ?_
          refine z_ild C G 2 rfl (vp_in_iff.mpr ⟨by omega, by omega⟩) dX0_road_38 ?_
          refine lv_topi (fun v_14 ev_14 => ?_)
          subst ev_14
          refine lv_idiv hx hb dX0_road_39 (fun q => absurd (congrArg Int32.toInt q) (by show ¬ _ = (0 : Int); omega)) ?_
          refine lv_aload_n hx hb dX0_road_40 rfl (lv_at hl 0 rfl) ?_
          refine z_get C G clX0 0 rfl 4 (by decide) m_fl_RX0_18 rfl dX0_road_41 ?_
          refine lv_iload_n hx hb dX0_road_44 rfl (lv_at hl 2 rfl) ?_
          refine z_ild C G 1 rfl (vp_in_iff.mpr ⟨by omega, by omega⟩) dX0_road_45 ?_
          refine lv_topi (fun v_15 ev_15 => ?_)
          subst ev_15
          refine lv_irem hx hb dX0_road_46 (fun q => absurd (congrArg Int32.toInt q) (by show ¬ _ = (0 : Int); omega)) ?_
          have hw_16 : bWays T h la md wy pc_ f1 f2 f3 f4 f5 f6 n4 [zO0 h md wy la pc_ a1_3 a2_4 a3_5 a4_6 a5_7 a6_8, zAr T 0 a1_3 7 f1, zAr T 0 a2_4 7 f2, zAr T 0 a3_5 7 f3, zAr T 0 a4_6 n4 f4, zAr T 0 a5_7 n4 f5, zAr T 0 a6_8 n4 f6] := ⟨a1_3, a2_4, a3_5, a4_6, a5_7, a6_8, rfl⟩
          have G : zS T A s.heap s [[zO0 h md wy la pc_ a1_3 a2_4 a3_5 a4_6 a5_7 a6_8, zAr T 0 a1_3 7 f1, zAr T 0 a2_4 7 f2, zAr T 0 a3_5 7 f3, zAr T 0 a4_6 n4 f4, zAr T 0 a5_7 n4 f5, zAr T 0 a6_8 n4 f6]] _ _ := G.re rfl
          exact z_back hQz_ (z_iret C hr hlocks G (Nat.le_of_ble_eq_true rfl) (Nat.le_of_ble_eq_true rfl) dX0_road_47 ⟨rfl, (by unfold zRoad; rw [if_neg (by omega)])⟩)
        · have c_13n : ¬ (1 : Int) ≤ (f1 y.toNatClampNeg).toInt := fun q => c_13 ((fa_le _ _).mpr q)
          refine lv_iconst (v := 0) hx hb dX0_road_30 (by decide) ?_
          have hw_17 : bWays T h la md wy pc_ f1 f2 f3 f4 f5 f6 n4 [zO0 h md wy la pc_ a1_3 a2_4 a3_5 a4_6 a5_7 a6_8, zAr T 0 a1_3 7 f1, zAr T 0 a2_4 7 f2, zAr T 0 a3_5 7 f3, zAr T 0 a4_6 n4 f4, zAr T 0 a5_7 n4 f5, zAr T 0 a6_8 n4 f6] := ⟨a1_3, a2_4, a3_5, a4_6, a5_7, a6_8, rfl⟩
          have G : zS T A s.heap s [[zO0 h md wy la pc_ a1_3 a2_4 a3_5 a4_6 a5_7 a6_8, zAr T 0 a1_3 7 f1, zAr T 0 a2_4 7 f2, zAr T 0 a3_5 7 f3, zAr T 0 a4_6 n4 f4, zAr T 0 a5_7 n4 f5, zAr T 0 a6_8 n4 f6]] _ _ := G.re rfl
          exact z_back hQz_ (z_iret C hr hlocks G (Nat.le_of_ble_eq_true rfl) (Nat.le_of_ble_eq_true rfl) dX0_road_31 ⟨rfl, (by unfold zRoad; rw [if_pos (by omega)])⟩)
set_option maxHeartbeats 4000000 in
set_option maxRecDepth 100000 in
/-- c_entry -/
theorem c_entry (l : Launch) (T : zTy) (h : Nat) (la : Nat) (md : Int32) (wy : Int32) (pc_ : Int32) (f1 : Nat → Int32) (f2 : Nat → Int32) (f3 : Nat → Int32) (f4 : Nat → Int32) (f5 : Nat → Int32) (f6 : Nat → Int32) (n4 : Nat) (ww : va_W) (x : Int32) (y : Int32) (hww : bWays T h la md wy pc_ f1 f2 f3 f4 f5 f6 n4 ww) (hn : n4 ≤ 131072) : zMi l T yX0_entry cX0_entry 4 (some .int) 1 0 0 [.ref h, .int x, .int y] [ww] (fun (r : Int32) bs => bs = [ww] ∧ r = zEntry f5 n4 x y) := by
  refine zMi_of (own := RX0) (by decide) rfl (Nat.le_of_ble_eq_true rfl) ?_
  intro p e s m args below meth c A ls C hr hlocks hnm hAe G hl
  refine zHide (fun Qz_ hQz_ => ?_)
  have hx := C.1
  have hb := C.2.1
  have hl : lv_has ls 4 [(0, .ref h), (1, .int x), (2, .int y)] := hl
  refine lv_iload_n hx hb dX0_entry_0 rfl (lv_at hl 1 rfl) ?_
  refine lv_iconst (v := 3) hx hb dX0_entry_1 (by decide) ?_
  refine lv_ishl hx hb dX0_entry_2 ?_
  refine lv_iload_n hx hb dX0_entry_3 rfl (lv_at hl 2 rfl) ?_
  refine lv_iadd hx hb dX0_entry_4 ?_
  refine lv_istore_n (lv' := [(3, .int ((x <<< (3 &&& 31)) + y)), (0, .ref h), (1, .int x), (2, .int y)]) hx hb dX0_entry_5 rfl hl (by decide) (zLvf_h rfl) (fun ls hl => ?_)
  refine lv_iload_n hx hb dX0_entry_6 rfl (lv_at hl 0 rfl) ?_
  refine lv_if_lt (tgt := 28) hx hb dX0_entry_7 (by decide) (fun c_1 => ?_) (fun c_1 => ?_)
  · have c_1n : ((x <<< (3 &&& 31)) + y).toInt < (0 : Int) := (fa_lt _ _).mp c_1
    refine lv_iconst (v := 0) hx hb dX0_entry_28 (by decide) ?_
    exact z_back hQz_ (z_iret C hr hlocks G (Nat.le_of_ble_eq_true rfl) (Nat.le_of_ble_eq_true rfl) dX0_entry_29 ⟨rfl, (by unfold zEntry; rw [if_neg (by omega)])⟩)
  · have c_1n : ¬ ((x <<< (3 &&& 31)) + y).toInt < (0 : Int) := fun q => c_1 ((fa_lt _ _).mpr q)
    refine lv_iload_n hx hb dX0_entry_10 rfl (lv_at hl 0 rfl) ?_
    refine lv_aload_n hx hb dX0_entry_11 rfl (lv_at hl 1 rfl) ?_
    refine zEx6 hww ?_
    intro a1_2 a2_3 a3_4 a4_5 a5_6 a6_7 hbs9
    clear hww
    subst hbs9
    have G : zS T A s.heap s [[zO0 h md wy la pc_ a1_2 a2_3 a3_4 a4_5 a5_6 a6_7], [zAr T 0 a1_2 7 f1], [zAr T 0 a2_3 7 f2], [zAr T 0 a3_4 7 f3], [zAr T 0 a4_5 n4 f4], [zAr T 0 a5_6 n4 f5], [zAr T 0 a6_7 n4 f6]] _ _ := G.re rfl
    refine z_get C G clX0 0 rfl 8 (by decide) m_fl_RX0_31 rfl dX0_entry_12 ?_
    refine z_alen C G 5 0 rfl (v := nI n4) rfl rfl dX0_entry_15 ?_
    refine lv_icmp_ge (tgt := 28) hx hb dX0_entry_16 (by decide) (fun c_8 => ?_) (fun c_8 => ?_)
    · have c_8n : (n4 : Int) ≤ ((x <<< (3 &&& 31)) + y).toInt := by have q := (fa_le _ _).mp c_8; rw [nI_toInt (n := n4) (by omega)] at q; exact q
      refine lv_iconst (v := 0) hx hb dX0_entry_28 (by decide) ?_
      have hw_9 : bWays T h la md wy pc_ f1 f2 f3 f4 f5 f6 n4 [zO0 h md wy la pc_ a1_2 a2_3 a3_4 a4_5 a5_6 a6_7, zAr T 0 a1_2 7 f1, zAr T 0 a2_3 7 f2, zAr T 0 a3_4 7 f3, zAr T 0 a4_5 n4 f4, zAr T 0 a5_6 n4 f5, zAr T 0 a6_7 n4 f6] := ⟨a1_2, a2_3, a3_4, a4_5, a5_6, a6_7, rfl⟩
      have G : zS T A s.heap s [[zO0 h md wy la pc_ a1_2 a2_3 a3_4 a4_5 a5_6 a6_7, zAr T 0 a1_2 7 f1, zAr T 0 a2_3 7 f2, zAr T 0 a3_4 7 f3, zAr T 0 a4_5 n4 f4, zAr T 0 a5_6 n4 f5, zAr T 0 a6_7 n4 f6]] _ _ := G.re rfl
      exact z_back hQz_ (z_iret C hr hlocks G (Nat.le_of_ble_eq_true rfl) (Nat.le_of_ble_eq_true rfl) dX0_entry_29 ⟨rfl, (by unfold zEntry; rw [if_neg (by omega)])⟩)
    · have c_8n : ¬ (n4 : Int) ≤ ((x <<< (3 &&& 31)) + y).toInt := fun q => c_8 ((fa_le _ _).mpr (by rw [nI_toInt (n := n4) (by omega)]; exact q))
      refine lv_aload_n hx hb dX0_entry_19 rfl (lv_at hl 1 rfl) ?_
      refine z_get C G clX0 0 rfl 8 (by decide) m_fl_RX0_31 rfl dX0_entry_20 ?_
      refine lv_iload_n hx hb dX0_entry_23 rfl (lv_at hl 0 rfl) ?_
      refine z_ild C G 5 rfl (vp_in_iff.mpr ⟨by omega, by omega⟩) dX0_entry_24 ?_
      refine lv_topi (fun v_10 ev_10 => ?_)
      subst ev_10
      refine lv_goto (tgt := 29) hx hb dX0_entry_25 (by decide) ?_
      have hw_11 : bWays T h la md wy pc_ f1 f2 f3 f4 f5 f6 n4 [zO0 h md wy la pc_ a1_2 a2_3 a3_4 a4_5 a5_6 a6_7, zAr T 0 a1_2 7 f1, zAr T 0 a2_3 7 f2, zAr T 0 a3_4 7 f3, zAr T 0 a4_5 n4 f4, zAr T 0 a5_6 n4 f5, zAr T 0 a6_7 n4 f6] := ⟨a1_2, a2_3, a3_4, a4_5, a5_6, a6_7, rfl⟩
      have G : zS T A s.heap s [[zO0 h md wy la pc_ a1_2 a2_3 a3_4 a4_5 a5_6 a6_7, zAr T 0 a1_2 7 f1, zAr T 0 a2_3 7 f2, zAr T 0 a3_4 7 f3, zAr T 0 a4_5 n4 f4, zAr T 0 a5_6 n4 f5, zAr T 0 a6_7 n4 f6]] _ _ := G.re rfl
      exact z_back hQz_ (z_iret C hr hlocks G (Nat.le_of_ble_eq_true rfl) (Nat.le_of_ble_eq_true rfl) dX0_entry_29 ⟨rfl, (by unfold zEntry; rw [if_pos (by omega)])⟩)
set_option maxHeartbeats 4000000 in
set_option maxRecDepth 100000 in
/-- c_where -/
theorem c_where (l : Launch) (T : zTy) (h : Nat) (la : Nat) (md : Int32) (wy : Int32) (pc_ : Int32) (f1 : Nat → Int32) (f2 : Nat → Int32) (f3 : Nat → Int32) (f4 : Nat → Int32) (f5 : Nat → Int32) (f6 : Nat → Int32) (n4 : Nat) (ww : va_W) (x : Int32) (y : Int32) (hww : bWays T h la md wy pc_ f1 f2 f3 f4 f5 f6 n4 ww) (hn : n4 ≤ 131072) : zMi l T yX0_where cX0_where 3 (some .int) 2 0 0 [.ref h, .int x, .int y] [ww] (fun (r : Int32) bs => bs = [ww] ∧ r = zEntry f5 n4 x y &&& 7) := by
  refine zMi_of (own := RX0) (by decide) rfl (Nat.le_of_ble_eq_true rfl) ?_
  intro p e s m args below meth c A ls C hr hlocks hnm hAe G hl
  refine zHide (fun Qz_ hQz_ => ?_)
  have hx := C.1
  have hb := C.2.1
  have hl : lv_has ls 3 [(0, .ref h), (1, .int x), (2, .int y)] := hl
  refine lv_aload_n hx hb dX0_where_0 rfl (lv_at hl 0 rfl) ?_
  refine lv_iload_n hx hb dX0_where_1 rfl (lv_at hl 1 rfl) ?_
  refine lv_iload_n hx hb dX0_where_2 rfl (lv_at hl 2 rfl) ?_
  refine z_Vi (bc := [ww]) (br := []) (As := [.int x, .int y]) (rest := []) C G (c_entry l T h la md wy pc_ f1 f2 f3 f4 f5 f6 n4 ww x y hww (by first | with_reducible assumption | with_reducible rfl | omega | assumption | rfl)) (kV_RX0_91 C.2.2.2.2 (Nat.le_of_ble_eq_true rfl) (Nat.le_of_ble_eq_true rfl)) [0] [0] rfl rfl (ci := 0) (qc := (RX0, TX0, 10)) rfl rfl (List.mem_flatten.mpr ⟨_, List.mem_of_getElem? (i := 0) rfl, (bWays_mem hww).choose_spec⟩) rfl rfl hl.1 dX0_where_3 (Nat.le_of_ble_eq_true rfl) (Nat.le_of_ble_eq_true rfl) (fun r_2 b1 H locs hw G => ?_)
  refine zAn2 hw ?_
  intro hbs9 h_1
  clear hw
  subst hbs9
  have G : zS T A s.heap s [ww] _ _ := G
  subst h_1
  refine lv_bipush (v := 7) hx hb dX0_where_6 (by decide) ?_
  refine lv_iand hx hb dX0_where_8 ?_
  exact z_back hQz_ (z_iret C hr hlocks G (Nat.le_of_ble_eq_true rfl) (Nat.le_of_ble_eq_true rfl) dX0_where_9 ⟨rfl, rfl⟩)
set_option maxHeartbeats 4000000 in
set_option maxRecDepth 100000 in
/-- c_steps -/
theorem c_steps (l : Launch) (T : zTy) (h : Nat) (la : Nat) (md : Int32) (wy : Int32) (pc_ : Int32) (f1 : Nat → Int32) (f2 : Nat → Int32) (f3 : Nat → Int32) (f4 : Nat → Int32) (f5 : Nat → Int32) (f6 : Nat → Int32) (n4 : Nat) (ww : va_W) (x : Int32) (y : Int32) (hww : bWays T h la md wy pc_ f1 f2 f3 f4 f5 f6 n4 ww) (hn : n4 ≤ 131072) : zMi l T yX0_steps cX0_steps 3 (some .int) 2 0 0 [.ref h, .int x, .int y] [ww] (fun (r : Int32) bs => bs = [ww] ∧ r = zEntry f5 n4 x y >>> (17 &&& 31)) := by
  refine zMi_of (own := RX0) (by decide) rfl (Nat.le_of_ble_eq_true rfl) ?_
  intro p e s m args below meth c A ls C hr hlocks hnm hAe G hl
  refine zHide (fun Qz_ hQz_ => ?_)
  have hx := C.1
  have hb := C.2.1
  have hl : lv_has ls 3 [(0, .ref h), (1, .int x), (2, .int y)] := hl
  refine lv_aload_n hx hb dX0_steps_0 rfl (lv_at hl 0 rfl) ?_
  refine lv_iload_n hx hb dX0_steps_1 rfl (lv_at hl 1 rfl) ?_
  refine lv_iload_n hx hb dX0_steps_2 rfl (lv_at hl 2 rfl) ?_
  refine z_Vi (bc := [ww]) (br := []) (As := [.int x, .int y]) (rest := []) C G (c_entry l T h la md wy pc_ f1 f2 f3 f4 f5 f6 n4 ww x y hww (by first | with_reducible assumption | with_reducible rfl | omega | assumption | rfl)) (kV_RX0_91 C.2.2.2.2 (Nat.le_of_ble_eq_true rfl) (Nat.le_of_ble_eq_true rfl)) [0] [0] rfl rfl (ci := 0) (qc := (RX0, TX0, 10)) rfl rfl (List.mem_flatten.mpr ⟨_, List.mem_of_getElem? (i := 0) rfl, (bWays_mem hww).choose_spec⟩) rfl rfl hl.1 dX0_steps_3 (Nat.le_of_ble_eq_true rfl) (Nat.le_of_ble_eq_true rfl) (fun r_2 b1 H locs hw G => ?_)
  refine zAn2 hw ?_
  intro hbs9 h_1
  clear hw
  subst hbs9
  have G : zS T A s.heap s [ww] _ _ := G
  subst h_1
  refine lv_bipush (v := 17) hx hb dX0_steps_6 (by decide) ?_
  refine lv_ishr hx hb dX0_steps_8 ?_
  exact z_back hQz_ (z_iret C hr hlocks G (Nat.le_of_ble_eq_true rfl) (Nat.le_of_ble_eq_true rfl) dX0_steps_9 ⟨rfl, rfl⟩)
set_option maxHeartbeats 4000000 in
set_option maxRecDepth 100000 in
/-- c_wayAfter -/
theorem c_wayAfter (l : Launch) (T : zTy) (h : Nat) (la : Nat) (md : Int32) (wy : Int32) (pc_ : Int32) (f1 : Nat → Int32) (f2 : Nat → Int32) (f3 : Nat → Int32) (f4 : Nat → Int32) (f5 : Nat → Int32) (f6 : Nat → Int32) (n4 : Nat) (ww : va_W) (x : Int32) (y : Int32) (hww : bWays T h la md wy pc_ f1 f2 f3 f4 f5 f6 n4 ww) (hn : n4 ≤ 131072) : zMi l T yX0_wayAfter cX0_wayAfter 3 (some .int) 2 0 0 [.ref h, .int x, .int y] [ww] (fun (r : Int32) bs => bs = [ww] ∧ r = (zEntry f5 n4 x y &&& 131071) >>> (3 &&& 31)) := by
  refine zMi_of (own := RX0) (by decide) rfl (Nat.le_of_ble_eq_true rfl) ?_
  intro p e s m args below meth c A ls C hr hlocks hnm hAe G hl
  refine zHide (fun Qz_ hQz_ => ?_)
  have hx := C.1
  have hb := C.2.1
  have hl : lv_has ls 3 [(0, .ref h), (1, .int x), (2, .int y)] := hl
  refine lv_aload_n hx hb dX0_wayAfter_0 rfl (lv_at hl 0 rfl) ?_
  refine lv_iload_n hx hb dX0_wayAfter_1 rfl (lv_at hl 1 rfl) ?_
  refine lv_iload_n hx hb dX0_wayAfter_2 rfl (lv_at hl 2 rfl) ?_
  refine z_Vi (bc := [ww]) (br := []) (As := [.int x, .int y]) (rest := []) C G (c_entry l T h la md wy pc_ f1 f2 f3 f4 f5 f6 n4 ww x y hww (by first | with_reducible assumption | with_reducible rfl | omega | assumption | rfl)) (kV_RX0_91 C.2.2.2.2 (Nat.le_of_ble_eq_true rfl) (Nat.le_of_ble_eq_true rfl)) [0] [0] rfl rfl (ci := 0) (qc := (RX0, TX0, 10)) rfl rfl (List.mem_flatten.mpr ⟨_, List.mem_of_getElem? (i := 0) rfl, (bWays_mem hww).choose_spec⟩) rfl rfl hl.1 dX0_wayAfter_3 (Nat.le_of_ble_eq_true rfl) (Nat.le_of_ble_eq_true rfl) (fun r_2 b1 H locs hw G => ?_)
  refine zAn2 hw ?_
  intro hbs9 h_1
  clear hw
  subst hbs9
  have G : zS T A s.heap s [ww] _ _ := G
  subst h_1
  refine lv_ldc (v := 131071) hx hb C.2.2.2.1 (C.2.2.2.2 _ m_ko_RX0_90) dX0_wayAfter_6 ?_
  refine lv_iand hx hb dX0_wayAfter_8 ?_
  refine lv_iconst (v := 3) hx hb dX0_wayAfter_9 (by decide) ?_
  refine lv_ishr hx hb dX0_wayAfter_10 ?_
  exact z_back hQz_ (z_iret C hr hlocks G (Nat.le_of_ble_eq_true rfl) (Nat.le_of_ble_eq_true rfl) dX0_wayAfter_11 ⟨rfl, rfl⟩)
set_option maxHeartbeats 4000000 in
set_option maxRecDepth 100000 in
/-- c_stepsOrNever -/
theorem c_stepsOrNever (l : Launch) (T : zTy) (h : Nat) (la : Nat) (md : Int32) (wy : Int32) (pc_ : Int32) (f1 : Nat → Int32) (f2 : Nat → Int32) (f3 : Nat → Int32) (f4 : Nat → Int32) (f5 : Nat → Int32) (f6 : Nat → Int32) (n4 : Nat) (ww : va_W) (cr : Int32) (inn : Int32) (k1 : Nat → Int32) (k2 : Nat → Int32) (k3 : Nat → Int32) (k4 : Nat → Int32) (z : va_W) (x : Int32) (y : Int32) (hww : bWays T h la md wy pc_ f1 f2 f3 f4 f5 f6 n4 ww) (hz : bLand T la cr inn k1 k2 k3 k4 z) (hn : n4 ≤ 131072) : zMi l T yX0_stepsOrNever cX0_stepsOrNever 3 (some .int) 3 0 0 [.ref h, .int x, .int y] [ww, z] (fun (r : Int32) bs => bs = [ww, z]) := by
  refine zMi_of (own := RX0) (by decide) rfl (Nat.le_of_ble_eq_true rfl) ?_
  intro p e s m args below meth c A ls C hr hlocks hnm hAe G hl
  refine zHide (fun Qz_ hQz_ => ?_)
  have hx := C.1
  have hb := C.2.1
  have hl : lv_has ls 3 [(0, .ref h), (1, .int x), (2, .int y)] := hl
  refine lv_aload_n hx hb dX0_stepsOrNever_0 rfl (lv_at hl 0 rfl) ?_
  refine zEx6 hww ?_
  intro a1_1 a2_2 a3_3 a4_4 a5_5 a6_6 hbs9
  clear hww
  subst hbs9
  have G : zS T A s.heap s [[zO0 h md wy la pc_ a1_1 a2_2 a3_3 a4_4 a5_5 a6_6], [zAr T 0 a1_1 7 f1], [zAr T 0 a2_2 7 f2], [zAr T 0 a3_3 7 f3], [zAr T 0 a4_4 n4 f4], [zAr T 0 a5_5 n4 f5], [zAr T 0 a6_6 n4 f6], z] _ _ := G.re rfl
  refine z_get C G clX0 0 rfl 2 (by decide) m_fl_RX0_14 rfl dX0_stepsOrNever_1 ?_
  refine lv_aload_n hx hb dX0_stepsOrNever_4 rfl (lv_at hl 0 rfl) ?_
  refine lv_iload_n hx hb dX0_stepsOrNever_5 rfl (lv_at hl 1 rfl) ?_
  refine lv_iload_n hx hb dX0_stepsOrNever_6 rfl (lv_at hl 2 rfl) ?_
  have hw_7 : bWays T h la md wy pc_ f1 f2 f3 f4 f5 f6 n4 [zO0 h md wy la pc_ a1_1 a2_2 a3_3 a4_4 a5_5 a6_6, zAr T 0 a1_1 7 f1, zAr T 0 a2_2 7 f2, zAr T 0 a3_3 7 f3, zAr T 0 a4_4 n4 f4, zAr T 0 a5_5 n4 f5, zAr T 0 a6_6 n4 f6] := ⟨a1_1, a2_2, a3_3, a4_4, a5_5, a6_6, rfl⟩
  have G : zS T A s.heap s [[zO0 h md wy la pc_ a1_1 a2_2 a3_3 a4_4 a5_5 a6_6, zAr T 0 a1_1 7 f1, zAr T 0 a2_2 7 f2, zAr T 0 a3_3 7 f3, zAr T 0 a4_4 n4 f4, zAr T 0 a5_5 n4 f5, zAr T 0 a6_6 n4 f6], z] _ _ := G.re rfl
  refine z_Vi (bc := [[zO0 h md wy la pc_ a1_1 a2_2 a3_3 a4_4 a5_5 a6_6, zAr T 0 a1_1 7 f1, zAr T 0 a2_2 7 f2, zAr T 0 a3_3 7 f3, zAr T 0 a4_4 n4 f4, zAr T 0 a5_5 n4 f5, zAr T 0 a6_6 n4 f6]]) (br := [z]) (As := [.int x, .int y]) (rest := [.ref la]) C G (c_where l T h la md wy pc_ f1 f2 f3 f4 f5 f6 n4 ([zO0 h md wy la pc_ a1_1 a2_2 a3_3 a4_4 a5_5 a6_6, zAr T 0 a1_1 7 f1, zAr T 0 a2_2 7 f2, zAr T 0 a3_3 7 f3, zAr T 0 a4_4 n4 f4, zAr T 0 a5_5 n4 f5, zAr T 0 a6_6 n4 f6]) x y hw_7 (by first | with_reducible assumption | with_reducible rfl | omega | assumption | rfl)) (kV_RX0_94 C.2.2.2.2 (Nat.le_of_ble_eq_true rfl) (Nat.le_of_ble_eq_true rfl)) [0] [0] rfl rfl (ci := 0) (qc := (RX0, TX0, 10)) rfl rfl (List.mem_flatten.mpr ⟨_, List.mem_of_getElem? (i := 0) rfl, (bWays_mem hw_7).choose_spec⟩) rfl rfl hl.1 dX0_stepsOrNever_7 (Nat.le_of_ble_eq_true rfl) (Nat.le_of_ble_eq_true rfl) (fun r_9 b1 H locs hw G => ?_)
  refine zAn2 hw ?_
  intro hbs9 h_8
  clear hw
  subst hbs9
  have G : zS T A s.heap s [z, [zO0 h md wy la pc_ a1_1 a2_2 a3_3 a4_4 a5_5 a6_6, zAr T 0 a1_1 7 f1, zAr T 0 a2_2 7 f2, zAr T 0 a3_3 7 f3, zAr T 0 a4_4 n4 f4, zAr T 0 a5_5 n4 f5, zAr T 0 a6_6 n4 f6]] _ _ := G
  subst h_8
  refine z_Vi (bc := [z]) (br := [[zO0 h md wy la pc_ a1_1 a2_2 a3_3 a4_4 a5_5 a6_6, zAr T 0 a1_1 7 f1, zAr T 0 a2_2 7 f2, zAr T 0 a3_3 7 f3, zAr T 0 a4_4 n4 f4, zAr T 0 a5_5 n4 f5, zAr T 0 a6_6 n4 f6]]) (As := [.int (zEntry f5 n4 x y &&& 7)]) (rest := []) C G (c_isInn l T la cr inn k1 k2 k3 k4 z (zEntry f5 n4 x y &&& 7) hz) (kV_RX0_97 C.2.2.2.2 (Nat.le_of_ble_eq_true rfl) (Nat.le_of_ble_eq_true rfl)) [0] [0] rfl rfl (ci := 4) (qc := (RX4, TX4, 6)) rfl rfl (List.mem_flatten.mpr ⟨_, List.mem_of_getElem? (i := 0) rfl, (bLand_mem hz).choose_spec⟩) rfl rfl hl.1 dX0_stepsOrNever_10 (Nat.le_of_ble_eq_true rfl) (Nat.le_of_ble_eq_true rfl) (fun r_11 b1 H locs hw G => ?_)
  refine zAn2 hw ?_
  intro hbs9 hc_10
  clear hw
  subst hbs9
  have G : zS T A s.heap s [[zO0 h md wy la pc_ a1_1 a2_2 a3_3 a4_4 a5_5 a6_6, zAr T 0 a1_1 7 f1, zAr T 0 a2_2 7 f2, zAr T 0 a3_3 7 f3, zAr T 0 a4_4 n4 f4, zAr T 0 a5_5 n4 f5, zAr T 0 a6_6 n4 f6], z] _ _ := G
  rcases hc_10 with ⟨rfl, h_12, h_13, h_14, h_15⟩ | ⟨rfl, h_16⟩
  · have h_12 : 0 ≤ (zEntry f5 n4 x y &&& 7).toInt := h_12
    have h_13 : (zEntry f5 n4 x y &&& 7).toInt < cr.toInt := h_13
    have h_14 : (zEntry f5 n4 x y &&& 7).toInt < 7 := h_14
    have h_15 : ¬ zBit inn (zEntry f5 n4 x y &&& 7) = 0 := h_15
    refine lv_if_eq (tgt := 25) hx hb dX0_stepsOrNever_13 (by decide) (fun q => absurd q (by decide)) (fun _ => ?_)
    refine lv_aload_n hx hb dX0_stepsOrNever_16 rfl (lv_at hl 0 rfl) ?_
    refine lv_iload_n hx hb dX0_stepsOrNever_17 rfl (lv_at hl 1 rfl) ?_
    refine lv_iload_n hx hb dX0_stepsOrNever_18 rfl (lv_at hl 2 rfl) ?_
    refine z_Vi (bc := [[zO0 h md wy la pc_ a1_1 a2_2 a3_3 a4_4 a5_5 a6_6, zAr T 0 a1_1 7 f1, zAr T 0 a2_2 7 f2, zAr T 0 a3_3 7 f3, zAr T 0 a4_4 n4 f4, zAr T 0 a5_5 n4 f5, zAr T 0 a6_6 n4 f6]]) (br := [z]) (As := [.int x, .int y]) (rest := []) C G (c_steps l T h la md wy pc_ f1 f2 f3 f4 f5 f6 n4 ([zO0 h md wy la pc_ a1_1 a2_2 a3_3 a4_4 a5_5 a6_6, zAr T 0 a1_1 7 f1, zAr T 0 a2_2 7 f2, zAr T 0 a3_3 7 f3, zAr T 0 a4_4 n4 f4, zAr T 0 a5_5 n4 f5, zAr T 0 a6_6 n4 f6]) x y hw_7 (by first | with_reducible assumption | with_reducible rfl | omega | assumption | rfl)) (kV_RX0_101 C.2.2.2.2 (Nat.le_of_ble_eq_true rfl) (Nat.le_of_ble_eq_true rfl)) [0] [0] rfl rfl (ci := 0) (qc := (RX0, TX0, 10)) rfl rfl (List.mem_flatten.mpr ⟨_, List.mem_of_getElem? (i := 0) rfl, (bWays_mem hw_7).choose_spec⟩) rfl rfl hl.1 dX0_stepsOrNever_19 (Nat.le_of_ble_eq_true rfl) (Nat.le_of_ble_eq_true rfl) (fun r_18 b1 H locs hw G => ?_)
    refine zAn2 hw ?_
    intro hbs9 h_17
    clear hw
    subst hbs9
    have G : zS T A s.heap s [z, [zO0 h md wy la pc_ a1_1 a2_2 a3_3 a4_4 a5_5 a6_6, zAr T 0 a1_1 7 f1, zAr T 0 a2_2 7 f2, zAr T 0 a3_3 7 f3, zAr T 0 a4_4 n4 f4, zAr T 0 a5_5 n4 f5, zAr T 0 a6_6 n4 f6]] _ _ := G
    subst h_17
    refine lv_goto (tgt := 28) hx hb dX0_stepsOrNever_22 (by decide) ?_
    have G := G.sub (bs' := [[zO0 h md wy la pc_ a1_1 a2_2 a3_3 a4_4 a5_5 a6_6, zAr T 0 a1_1 7 f1, zAr T 0 a2_2 7 f2, zAr T 0 a3_3 7 f3, zAr T 0 a4_4 n4 f4, zAr T 0 a5_5 n4 f5, zAr T 0 a6_6 n4 f6], z]) [1, 0] rfl
    exact z_back hQz_ (z_iret C hr hlocks G (Nat.le_of_ble_eq_true rfl) (Nat.le_of_ble_eq_true rfl) dX0_stepsOrNever_28 rfl)
  · have h_16 : ((zEntry f5 n4 x y &&& 7).toInt < 0 ∨ cr.toInt ≤ (zEntry f5 n4 x y &&& 7).toInt ∨ 7 ≤ (zEntry f5 n4 x y &&& 7).toInt ∨ zBit inn (zEntry f5 n4 x y &&& 7) = 0) := h_16
    refine lv_if_eq (tgt := 25) hx hb dX0_stepsOrNever_13 (by decide) (fun _ => ?_) (fun q => absurd (by decide) q)
    refine lv_sipush (v := 500) hx hb dX0_stepsOrNever_25 (by decide) ?_
    exact z_back hQz_ (z_iret C hr hlocks G (Nat.le_of_ble_eq_true rfl) (Nat.le_of_ble_eq_true rfl) dX0_stepsOrNever_28 rfl)
set_option maxHeartbeats 4000000 in
set_option maxRecDepth 100000 in
/-- c_turned -/
theorem c_turned (l : Launch) (T : zTy) (h : Nat) (la : Nat) (md : Int32) (wy : Int32) (pc_ : Int32) (f1 : Nat → Int32) (f2 : Nat → Int32) (f3 : Nat → Int32) (f4 : Nat → Int32) (f5 : Nat → Int32) (f6 : Nat → Int32) (n4 : Nat) (ww : va_W) (cr : Int32) (inn : Int32) (k1 : Nat → Int32) (k2 : Nat → Int32) (k3 : Nat → Int32) (k4 : Nat → Int32) (z : va_W) (x : Int32) (y : Int32) (hww : bWays T h la md wy pc_ f1 f2 f3 f4 f5 f6 n4 ww) (hz : bLand T la cr inn k1 k2 k3 k4 z) (hI : zLI cr k1 k3) : zMi l T yX0_turned cX0_turned 4 (some .int) 2 0 0 [.ref h, .int x, .int y] [ww, z] (fun (r : Int32) bs => bs = [ww, z]) := by
  refine zMi_of (own := RX0) (by decide) rfl (Nat.le_of_ble_eq_true rfl) ?_
  intro p e s m args below meth c A ls C hr hlocks hnm hAe G hl
  refine zHide (fun Qz_ hQz_ => ?_)
  have hx := C.1
  have hb := C.2.1
  have hl : lv_has ls 4 [(0, .ref h), (1, .int x), (2, .int y)] := hl
  refine lv_aload_n hx hb dX0_turned_0 rfl (lv_at hl 0 rfl) ?_
  refine zEx6 hww ?_
  intro a1_1 a2_2 a3_3 a4_4 a5_5 a6_6 hbs9
  clear hww
  subst hbs9
  have G : zS T A s.heap s [[zO0 h md wy la pc_ a1_1 a2_2 a3_3 a4_4 a5_5 a6_6], [zAr T 0 a1_1 7 f1], [zAr T 0 a2_2 7 f2], [zAr T 0 a3_3 7 f3], [zAr T 0 a4_4 n4 f4], [zAr T 0 a5_5 n4 f5], [zAr T 0 a6_6 n4 f6], z] _ _ := G.re rfl
  refine z_get C G clX0 0 rfl 2 (by decide) m_fl_RX0_14 rfl dX0_turned_1 ?_
  refine lv_iload_n hx hb dX0_turned_4 rfl (lv_at hl 2 rfl) ?_
  refine z_Vi (bc := [z]) (br := [[zO0 h md wy la pc_ a1_1 a2_2 a3_3 a4_4 a5_5 a6_6], [zAr T 0 a1_1 7 f1], [zAr T 0 a2_2 7 f2], [zAr T 0 a3_3 7 f3], [zAr T 0 a4_4 n4 f4], [zAr T 0 a5_5 n4 f5], [zAr T 0 a6_6 n4 f6]]) (As := [.int y]) (rest := []) C G (c_waysOut l T la cr inn k1 k2 k3 k4 z y hz) (kV_RX0_61 C.2.2.2.2 (Nat.le_of_ble_eq_true rfl) (Nat.le_of_ble_eq_true rfl)) [7] [7] rfl rfl (ci := 4) (qc := (RX4, TX4, 6)) rfl rfl (List.mem_flatten.mpr ⟨_, List.mem_of_getElem? (i := 0) rfl, (bLand_mem hz).choose_spec⟩) rfl rfl hl.1 dX0_turned_5 (Nat.le_of_ble_eq_true rfl) (Nat.le_of_ble_eq_true rfl) (fun r_8 b1 H locs hw G => ?_)
  refine zAn2 hw ?_
  intro hbs9 h_7
  clear hw
  subst hbs9
  have G : zS T A s.heap s [[zO0 h md wy la pc_ a1_1 a2_2 a3_3 a4_4 a5_5 a6_6], [zAr T 0 a1_1 7 f1], [zAr T 0 a2_2 7 f2], [zAr T 0 a3_3 7 f3], [zAr T 0 a4_4 n4 f4], [zAr T 0 a5_5 n4 f5], [zAr T 0 a6_6 n4 f6], z] _ _ := G
  subst h_7
  refine lv_istore_n (lv' := [(3, .int (zWays cr inn k1 y)), (0, .ref h), (1, .int x), (2, .int y)]) hx hb dX0_turned_8 rfl hl (by decide) (zLvf_h rfl) (fun ls hl => ?_)
  refine lv_iload_n hx hb dX0_turned_9 rfl (lv_at hl 0 rfl) ?_
  refine lv_if_ne (tgt := 15) hx hb dX0_turned_10 (by decide) (fun c_9 => ?_) (fun c_9 => ?_)
  · have c_9n : ¬ (zWays cr inn k1 y).toInt = (0 : Int) := fun q => c_9 ((fa_eq _ _).mpr q)
    have hwi := zWays_in (cr := cr) (inn := inn) (f1 := k1) (x := y) (by first | with_reducible assumption | assumption)
    refine lv_aload_n hx hb dX0_turned_15 rfl (lv_at hl 1 rfl) ?_
    refine lv_iload_n hx hb dX0_turned_16 rfl (lv_at hl 2 rfl) ?_
    refine lv_iload_n hx hb dX0_turned_17 rfl (lv_at hl 3 rfl) ?_
    have hw_10 : bWays T h la md wy pc_ f1 f2 f3 f4 f5 f6 n4 [zO0 h md wy la pc_ a1_1 a2_2 a3_3 a4_4 a5_5 a6_6, zAr T 0 a1_1 7 f1, zAr T 0 a2_2 7 f2, zAr T 0 a3_3 7 f3, zAr T 0 a4_4 n4 f4, zAr T 0 a5_5 n4 f5, zAr T 0 a6_6 n4 f6] := ⟨a1_1, a2_2, a3_3, a4_4, a5_5, a6_6, rfl⟩
    have G : zS T A s.heap s [[zO0 h md wy la pc_ a1_1 a2_2 a3_3 a4_4 a5_5 a6_6, zAr T 0 a1_1 7 f1, zAr T 0 a2_2 7 f2, zAr T 0 a3_3 7 f3, zAr T 0 a4_4 n4 f4, zAr T 0 a5_5 n4 f5, zAr T 0 a6_6 n4 f6], z] _ _ := G.re rfl
    refine z_Vi (bc := [[zO0 h md wy la pc_ a1_1 a2_2 a3_3 a4_4 a5_5 a6_6, zAr T 0 a1_1 7 f1, zAr T 0 a2_2 7 f2, zAr T 0 a3_3 7 f3, zAr T 0 a4_4 n4 f4, zAr T 0 a5_5 n4 f5, zAr T 0 a6_6 n4 f6]]) (br := [z]) (As := [.int x, .int y]) (rest := []) C G (c_road l T h la md wy pc_ f1 f2 f3 f4 f5 f6 n4 ([zO0 h md wy la pc_ a1_1 a2_2 a3_3 a4_4 a5_5 a6_6, zAr T 0 a1_1 7 f1, zAr T 0 a2_2 7 f2, zAr T 0 a3_3 7 f3, zAr T 0 a4_4 n4 f4, zAr T 0 a5_5 n4 f5, zAr T 0 a6_6 n4 f6]) x y hw_10) (kV_RX0_81 C.2.2.2.2 (Nat.le_of_ble_eq_true rfl) (Nat.le_of_ble_eq_true rfl)) [0] [0] rfl rfl (ci := 0) (qc := (RX0, TX0, 10)) rfl rfl (List.mem_flatten.mpr ⟨_, List.mem_of_getElem? (i := 0) rfl, (bWays_mem hw_10).choose_spec⟩) rfl rfl hl.1 dX0_turned_18 (Nat.le_of_ble_eq_true rfl) (Nat.le_of_ble_eq_true rfl) (fun r_12 b1 H locs hw G => ?_)
    refine zAn2 hw ?_
    intro hbs9 h_11
    clear hw
    subst hbs9
    have G : zS T A s.heap s [z, [zO0 h md wy la pc_ a1_1 a2_2 a3_3 a4_4 a5_5 a6_6, zAr T 0 a1_1 7 f1, zAr T 0 a2_2 7 f2, zAr T 0 a3_3 7 f3, zAr T 0 a4_4 n4 f4, zAr T 0 a5_5 n4 f5, zAr T 0 a6_6 n4 f6]] _ _ := G
    subst h_11
    refine lv_iconst (v := 1) hx hb dX0_turned_21 (by decide) ?_
    refine lv_iadd hx hb dX0_turned_22 ?_
    refine lv_iload_n hx hb dX0_turned_23 rfl (lv_at hl 0 rfl) ?_
    refine lv_icmp_ge (tgt := 38) hx hb dX0_turned_24 (by decide) (fun c_13 => ?_) (fun c_13 => ?_)
    · have c_13n : (zWays cr inn k1 y).toInt ≤ ((zRoad f1 f2 x y) + 1).toInt := (fa_le _ _).mp c_13
      refine lv_iload_n hx hb dX0_turned_38 rfl (lv_at hl 2 rfl) ?_
      refine lv_iload_n hx hb dX0_turned_39 rfl (lv_at hl 0 rfl) ?_
      refine lv_iconst (v := 1) hx hb dX0_turned_40 (by decide) ?_
      refine lv_isub hx hb dX0_turned_41 ?_
      refine lv_aload_n hx hb dX0_turned_42 rfl (lv_at hl 1 rfl) ?_
      have G : zS T A s.heap s [z, [zO0 h md wy la pc_ a1_1 a2_2 a3_3 a4_4 a5_5 a6_6], [zAr T 0 a1_1 7 f1], [zAr T 0 a2_2 7 f2], [zAr T 0 a3_3 7 f3], [zAr T 0 a4_4 n4 f4], [zAr T 0 a5_5 n4 f5], [zAr T 0 a6_6 n4 f6]] _ _ := G.re rfl
      refine z_get C G clX0 1 rfl 5 (by decide) m_fl_RX0_22 rfl dX0_turned_43 ?_
      refine lv_iload_n hx hb dX0_turned_46 rfl (lv_at hl 3 rfl) ?_
      refine z_ild C G 3 rfl (vp_in_iff.mpr ⟨hwi.1, hwi.2.2.1⟩) dX0_turned_47 ?_
      refine lv_topi (fun v_14 ev_14 => ?_)
      subst ev_14
      refine lv_imul hx hb dX0_turned_48 ?_
      refine lv_isub hx hb dX0_turned_49 ?_
      have hw_15 : bWays T h la md wy pc_ f1 f2 f3 f4 f5 f6 n4 [zO0 h md wy la pc_ a1_1 a2_2 a3_3 a4_4 a5_5 a6_6, zAr T 0 a1_1 7 f1, zAr T 0 a2_2 7 f2, zAr T 0 a3_3 7 f3, zAr T 0 a4_4 n4 f4, zAr T 0 a5_5 n4 f5, zAr T 0 a6_6 n4 f6] := ⟨a1_1, a2_2, a3_3, a4_4, a5_5, a6_6, rfl⟩
      have G : zS T A s.heap s [z, [zO0 h md wy la pc_ a1_1 a2_2 a3_3 a4_4 a5_5 a6_6, zAr T 0 a1_1 7 f1, zAr T 0 a2_2 7 f2, zAr T 0 a3_3 7 f3, zAr T 0 a4_4 n4 f4, zAr T 0 a5_5 n4 f5, zAr T 0 a6_6 n4 f6]] _ _ := G.re rfl
      have G := G.sub (bs' := [[zO0 h md wy la pc_ a1_1 a2_2 a3_3 a4_4 a5_5 a6_6, zAr T 0 a1_1 7 f1, zAr T 0 a2_2 7 f2, zAr T 0 a3_3 7 f3, zAr T 0 a4_4 n4 f4, zAr T 0 a5_5 n4 f5, zAr T 0 a6_6 n4 f6], z]) [1, 0] rfl
      exact z_back hQz_ (z_iret C hr hlocks G (Nat.le_of_ble_eq_true rfl) (Nat.le_of_ble_eq_true rfl) dX0_turned_50 rfl)
    · have c_13n : ¬ (zWays cr inn k1 y).toInt ≤ ((zRoad f1 f2 x y) + 1).toInt := fun q => c_13 ((fa_le _ _).mpr q)
      refine lv_iload_n hx hb dX0_turned_27 rfl (lv_at hl 2 rfl) ?_
      refine lv_aload_n hx hb dX0_turned_28 rfl (lv_at hl 1 rfl) ?_
      have G : zS T A s.heap s [z, [zO0 h md wy la pc_ a1_1 a2_2 a3_3 a4_4 a5_5 a6_6], [zAr T 0 a1_1 7 f1], [zAr T 0 a2_2 7 f2], [zAr T 0 a3_3 7 f3], [zAr T 0 a4_4 n4 f4], [zAr T 0 a5_5 n4 f5], [zAr T 0 a6_6 n4 f6]] _ _ := G.re rfl
      refine z_get C G clX0 1 rfl 5 (by decide) m_fl_RX0_22 rfl dX0_turned_29 ?_
      refine lv_iload_n hx hb dX0_turned_32 rfl (lv_at hl 3 rfl) ?_
      refine z_ild C G 3 rfl (vp_in_iff.mpr ⟨hwi.1, hwi.2.2.1⟩) dX0_turned_33 ?_
      refine lv_topi (fun v_16 ev_16 => ?_)
      subst ev_16
      refine lv_iadd hx hb dX0_turned_34 ?_
      refine lv_goto (tgt := 50) hx hb dX0_turned_35 (by decide) ?_
      have hw_17 : bWays T h la md wy pc_ f1 f2 f3 f4 f5 f6 n4 [zO0 h md wy la pc_ a1_1 a2_2 a3_3 a4_4 a5_5 a6_6, zAr T 0 a1_1 7 f1, zAr T 0 a2_2 7 f2, zAr T 0 a3_3 7 f3, zAr T 0 a4_4 n4 f4, zAr T 0 a5_5 n4 f5, zAr T 0 a6_6 n4 f6] := ⟨a1_1, a2_2, a3_3, a4_4, a5_5, a6_6, rfl⟩
      have G : zS T A s.heap s [z, [zO0 h md wy la pc_ a1_1 a2_2 a3_3 a4_4 a5_5 a6_6, zAr T 0 a1_1 7 f1, zAr T 0 a2_2 7 f2, zAr T 0 a3_3 7 f3, zAr T 0 a4_4 n4 f4, zAr T 0 a5_5 n4 f5, zAr T 0 a6_6 n4 f6]] _ _ := G.re rfl
      have G := G.sub (bs' := [[zO0 h md wy la pc_ a1_1 a2_2 a3_3 a4_4 a5_5 a6_6, zAr T 0 a1_1 7 f1, zAr T 0 a2_2 7 f2, zAr T 0 a3_3 7 f3, zAr T 0 a4_4 n4 f4, zAr T 0 a5_5 n4 f5, zAr T 0 a6_6 n4 f6], z]) [1, 0] rfl
      exact z_back hQz_ (z_iret C hr hlocks G (Nat.le_of_ble_eq_true rfl) (Nat.le_of_ble_eq_true rfl) dX0_turned_50 rfl)
  · have c_9n : (zWays cr inn k1 y).toInt = (0 : Int) := (fa_eq _ _).mp c_9
    refine lv_iconst (v := (-1)) hx hb dX0_turned_13 (by decide) ?_
    have hw_18 : bWays T h la md wy pc_ f1 f2 f3 f4 f5 f6 n4 [zO0 h md wy la pc_ a1_1 a2_2 a3_3 a4_4 a5_5 a6_6, zAr T 0 a1_1 7 f1, zAr T 0 a2_2 7 f2, zAr T 0 a3_3 7 f3, zAr T 0 a4_4 n4 f4, zAr T 0 a5_5 n4 f5, zAr T 0 a6_6 n4 f6] := ⟨a1_1, a2_2, a3_3, a4_4, a5_5, a6_6, rfl⟩
    have G : zS T A s.heap s [[zO0 h md wy la pc_ a1_1 a2_2 a3_3 a4_4 a5_5 a6_6, zAr T 0 a1_1 7 f1, zAr T 0 a2_2 7 f2, zAr T 0 a3_3 7 f3, zAr T 0 a4_4 n4 f4, zAr T 0 a5_5 n4 f5, zAr T 0 a6_6 n4 f6], z] _ _ := G.re rfl
    exact z_back hQz_ (z_iret C hr hlocks G (Nat.le_of_ble_eq_true rfl) (Nat.le_of_ble_eq_true rfl) dX0_turned_14 rfl)
set_option maxHeartbeats 4000000 in
set_option maxRecDepth 100000 in
/-- c_wayTold -/
theorem c_wayTold (l : Launch) (T : zTy) (h : Nat) (la : Nat) (md : Int32) (wy : Int32) (pc_ : Int32) (f1 : Nat → Int32) (f2 : Nat → Int32) (f3 : Nat → Int32) (f4 : Nat → Int32) (f5 : Nat → Int32) (f6 : Nat → Int32) (n4 : Nat) (ww : va_W) (cr : Int32) (inn : Int32) (k1 : Nat → Int32) (k2 : Nat → Int32) (k3 : Nat → Int32) (k4 : Nat → Int32) (z : va_W) (hww : bWays T h la md wy pc_ f1 f2 f3 f4 f5 f6 n4 ww) (hz : bLand T la cr inn k1 k2 k3 k4 z) (hI : zLI cr k1 k3) : zMi l T yX0_wayTold cX0_wayTold 3 (some .int) 2 0 0 [.ref h] [ww, z] (fun (r : Int32) bs => bs = [ww, z]) := by
  refine zMi_of (own := RX0) (by decide) rfl (Nat.le_of_ble_eq_true rfl) ?_
  intro p e s m args below meth c A ls C hr hlocks hnm hAe G hl
  refine zHide (fun Qz_ hQz_ => ?_)
  have hx := C.1
  have hb := C.2.1
  have hl : lv_has ls 3 [(0, .ref h)] := hl
  have hcr := hI.1
  refine lv_iconst (v := 0) hx hb dX0_wayTold_0 (by decide) ?_
  refine lv_istore_n (lv' := [(1, .int 0), (0, .ref h)]) hx hb dX0_wayTold_1 rfl hl (by decide) (zLvf_h rfl) (fun ls hl => ?_)
  refine lv_iconst (v := 0) hx hb dX0_wayTold_2 (by decide) ?_
  refine lv_istore_n (lv' := [(2, .int 0), (1, .int 0), (0, .ref h)]) hx hb dX0_wayTold_3 rfl hl (by decide) (zLvf_h rfl) (fun ls hl => ?_)
  refine zEx6 hww ?_
  intro a1_1 a2_2 a3_3 a4_4 a5_5 a6_6 hbs9
  clear hww
  subst hbs9
  have G : zS T A s.heap s [[zO0 h md wy la pc_ a1_1 a2_2 a3_3 a4_4 a5_5 a6_6], [zAr T 0 a1_1 7 f1], [zAr T 0 a2_2 7 f2], [zAr T 0 a3_3 7 f3], [zAr T 0 a4_4 n4 f4], [zAr T 0 a5_5 n4 f5], [zAr T 0 a6_6 n4 f6], z] _ _ := G.re rfl
  refine zEx4 hz ?_
  intro a1_7 a2_8 a3_9 a4_10 hbs9
  clear hz
  subst hbs9
  have G : zS T A s.heap s [[zO0 h md wy la pc_ a1_1 a2_2 a3_3 a4_4 a5_5 a6_6], [zAr T 0 a1_1 7 f1], [zAr T 0 a2_2 7 f2], [zAr T 0 a3_3 7 f3], [zAr T 0 a4_4 n4 f4], [zAr T 0 a5_5 n4 f5], [zAr T 0 a6_6 n4 f6], [zO4 la cr inn a1_7 a2_8 a3_9 a4_10], [zAr T 0 a1_7 7 k1], [zAr T 0 a2_8 28 k2], [zAr T 0 a3_9 7 k3], [zAr T 0 a4_10 7 k4]] _ _ := G.re rfl
  have hw_11 : bWays T h la md wy pc_ f1 f2 f3 f4 f5 f6 n4 [zO0 h md wy la pc_ a1_1 a2_2 a3_3 a4_4 a5_5 a6_6, zAr T 0 a1_1 7 f1, zAr T 0 a2_2 7 f2, zAr T 0 a3_3 7 f3, zAr T 0 a4_4 n4 f4, zAr T 0 a5_5 n4 f5, zAr T 0 a6_6 n4 f6] := ⟨a1_1, a2_2, a3_3, a4_4, a5_5, a6_6, rfl⟩
  have G : zS T A s.heap s [[zO0 h md wy la pc_ a1_1 a2_2 a3_3 a4_4 a5_5 a6_6, zAr T 0 a1_1 7 f1, zAr T 0 a2_2 7 f2, zAr T 0 a3_3 7 f3, zAr T 0 a4_4 n4 f4, zAr T 0 a5_5 n4 f5, zAr T 0 a6_6 n4 f6], [zO4 la cr inn a1_7 a2_8 a3_9 a4_10], [zAr T 0 a1_7 7 k1], [zAr T 0 a2_8 28 k2], [zAr T 0 a3_9 7 k3], [zAr T 0 a4_10 7 k4]] _ _ := G.re rfl
  have hw_12 : bLand T la cr inn k1 k2 k3 k4 [zO4 la cr inn a1_7 a2_8 a3_9 a4_10, zAr T 0 a1_7 7 k1, zAr T 0 a2_8 28 k2, zAr T 0 a3_9 7 k3, zAr T 0 a4_10 7 k4] := ⟨a1_7, a2_8, a3_9, a4_10, rfl⟩
  have G : zS T A s.heap s [[zO0 h md wy la pc_ a1_1 a2_2 a3_3 a4_4 a5_5 a6_6, zAr T 0 a1_1 7 f1, zAr T 0 a2_2 7 f2, zAr T 0 a3_3 7 f3, zAr T 0 a4_4 n4 f4, zAr T 0 a5_5 n4 f5, zAr T 0 a6_6 n4 f6], [zO4 la cr inn a1_7 a2_8 a3_9 a4_10, zAr T 0 a1_7 7 k1, zAr T 0 a2_8 28 k2, zAr T 0 a3_9 7 k3, zAr T 0 a4_10 7 k4]] _ _ := G.re rfl
  refine z_lp2 (T := T) 4 (fun (i : Nat) (u : Int32) => [[zO0 h md wy la pc_ a1_1 a2_2 a3_3 a4_4 a5_5 a6_6, zAr T 0 a1_1 7 f1, zAr T 0 a2_2 7 f2, zAr T 0 a3_3 7 f3, zAr T 0 a4_4 n4 f4, zAr T 0 a5_5 n4 f5, zAr T 0 a6_6 n4 f6], [zO4 la cr inn a1_7 a2_8 a3_9 a4_10, zAr T 0 a1_7 7 k1, zAr T 0 a2_8 28 k2, zAr T 0 a3_9 7 k3, zAr T 0 a4_10 7 k4]]) (fun (i : Nat) (u : Int32) => [(2, .int (nI i)), (1, .int u), (0, .ref h)]) (fun (i : Nat) (u : Int32) => i ≤ 7) (fun (i : Nat) (u : Int32) => 7 - i) ?_ 0 0 (show 0 ≤ 7 from by omega) G (lv_sub hl [0, 1, 2] rfl)
  intro i u hi ih_4 H locs ls G hl
  replace hi : i ≤ 7 := hi
  replace G : zS T A s.heap s [[zO0 h md wy la pc_ a1_1 a2_2 a3_3 a4_4 a5_5 a6_6, zAr T 0 a1_1 7 f1, zAr T 0 a2_2 7 f2, zAr T 0 a3_3 7 f3, zAr T 0 a4_4 n4 f4, zAr T 0 a5_5 n4 f5, zAr T 0 a6_6 n4 f6], [zO4 la cr inn a1_7 a2_8 a3_9 a4_10, zAr T 0 a1_7 7 k1, zAr T 0 a2_8 28 k2, zAr T 0 a3_9 7 k3, zAr T 0 a4_10 7 k4]] _ _ := G
  replace hl : lv_has ls 3 [(2, .int (nI i)), (1, .int u), (0, .ref h)] := hl
  refine lv_iload_n hx hb dX0_wayTold_4 rfl (lv_at hl 0 rfl) ?_
  refine lv_bipush (v := 7) hx hb dX0_wayTold_5 (by decide) ?_
  refine lv_icmp_ge (tgt := 50) hx hb dX0_wayTold_7 (by decide) (fun c_13 => ?_) (fun c_13 => ?_)
  · have c_13n : 7 ≤ i := (nI_leI (a := 7) (b := i) (by omega) (by omega)).mp c_13
    refine lv_iload_n hx hb dX0_wayTold_50 rfl (lv_at hl 1 rfl) ?_
    exact z_back hQz_ (z_iret C hr hlocks G (Nat.le_of_ble_eq_true rfl) (Nat.le_of_ble_eq_true rfl) dX0_wayTold_51 rfl)
  · have c_13n : ¬ 7 ≤ i := fun q => c_13 ((nI_leI (a := 7) (b := i) (by omega) (by omega)).mpr q)
    refine lv_iload_n hx hb dX0_wayTold_10 rfl (lv_at hl 1 rfl) ?_
    refine lv_aload_n hx hb dX0_wayTold_11 rfl (lv_at hl 2 rfl) ?_
    have G : zS T A s.heap s [[zO0 h md wy la pc_ a1_1 a2_2 a3_3 a4_4 a5_5 a6_6], [zAr T 0 a1_1 7 f1], [zAr T 0 a2_2 7 f2], [zAr T 0 a3_3 7 f3], [zAr T 0 a4_4 n4 f4], [zAr T 0 a5_5 n4 f5], [zAr T 0 a6_6 n4 f6], [zO4 la cr inn a1_7 a2_8 a3_9 a4_10, zAr T 0 a1_7 7 k1, zAr T 0 a2_8 28 k2, zAr T 0 a3_9 7 k3, zAr T 0 a4_10 7 k4]] _ _ := G.re rfl
    refine z_get C G clX0 0 rfl 2 (by decide) m_fl_RX0_14 rfl dX0_wayTold_12 ?_
    refine lv_iload_n hx hb dX0_wayTold_15 rfl (lv_at hl 0 rfl) ?_
    refine z_Vi (bc := [[zO4 la cr inn a1_7 a2_8 a3_9 a4_10, zAr T 0 a1_7 7 k1, zAr T 0 a2_8 28 k2, zAr T 0 a3_9 7 k3, zAr T 0 a4_10 7 k4]]) (br := [[zO0 h md wy la pc_ a1_1 a2_2 a3_3 a4_4 a5_5 a6_6], [zAr T 0 a1_1 7 f1], [zAr T 0 a2_2 7 f2], [zAr T 0 a3_3 7 f3], [zAr T 0 a4_4 n4 f4], [zAr T 0 a5_5 n4 f5], [zAr T 0 a6_6 n4 f6]]) (As := [.int (nI i)]) (rest := [.int u]) C G (c_waysOut l T la cr inn k1 k2 k3 k4 ([zO4 la cr inn a1_7 a2_8 a3_9 a4_10, zAr T 0 a1_7 7 k1, zAr T 0 a2_8 28 k2, zAr T 0 a3_9 7 k3, zAr T 0 a4_10 7 k4]) (nI i) hw_12) (kV_RX0_61 C.2.2.2.2 (Nat.le_of_ble_eq_true rfl) (Nat.le_of_ble_eq_true rfl)) [7] [7] rfl rfl (ci := 4) (qc := (RX4, TX4, 6)) rfl rfl (List.mem_flatten.mpr ⟨_, List.mem_of_getElem? (i := 0) rfl, (bLand_mem hw_12).choose_spec⟩) rfl rfl hl.1 dX0_wayTold_16 (Nat.le_of_ble_eq_true rfl) (Nat.le_of_ble_eq_true rfl) (fun r_15 b1 H locs hw G => ?_)
    refine zAn2 hw ?_
    intro hbs9 h_14
    clear hw
    subst hbs9
    have G : zS T A s.heap s [[zO0 h md wy la pc_ a1_1 a2_2 a3_3 a4_4 a5_5 a6_6], [zAr T 0 a1_1 7 f1], [zAr T 0 a2_2 7 f2], [zAr T 0 a3_3 7 f3], [zAr T 0 a4_4 n4 f4], [zAr T 0 a5_5 n4 f5], [zAr T 0 a6_6 n4 f6], [zO4 la cr inn a1_7 a2_8 a3_9 a4_10, zAr T 0 a1_7 7 k1, zAr T 0 a2_8 28 k2, zAr T 0 a3_9 7 k3, zAr T 0 a4_10 7 k4]] _ _ := G
    subst h_14
    refine lv_if_le (tgt := 41) hx hb dX0_wayTold_19 (by decide) (fun c_16 => ?_) (fun c_16 => ?_)
    · have c_16n : (zWays cr inn k1 (nI i)).toInt ≤ (0 : Int) := (fa_le _ _).mp c_16
      refine lv_iconst (v := 0) hx hb dX0_wayTold_41 (by decide) ?_
      refine lv_iadd hx hb dX0_wayTold_42 ?_
      refine lv_istore_n (lv' := [(1, .int (u + 0)), (2, .int (nI i)), (0, .ref h)]) hx hb dX0_wayTold_43 rfl hl (by decide) (zLvf_h rfl) (fun ls hl => ?_)
      refine lv_iinc (v := nI (i + 1)) (lv' := [(2, .int (nI (i + 1))), (1, .int (u + 0)), (0, .ref h)]) hx hb dX0_wayTold_44 hl (k := 1) rfl (z_inc i 1) (by decide) (zLvf_h rfl) (fun ls hl => ?_)
      refine lv_goto (tgt := 4) hx hb dX0_wayTold_47 (by decide) ?_
      have hw_17 : bWays T h la md wy pc_ f1 f2 f3 f4 f5 f6 n4 [zO0 h md wy la pc_ a1_1 a2_2 a3_3 a4_4 a5_5 a6_6, zAr T 0 a1_1 7 f1, zAr T 0 a2_2 7 f2, zAr T 0 a3_3 7 f3, zAr T 0 a4_4 n4 f4, zAr T 0 a5_5 n4 f5, zAr T 0 a6_6 n4 f6] := ⟨a1_1, a2_2, a3_3, a4_4, a5_5, a6_6, rfl⟩
      have G : zS T A s.heap s [[zO0 h md wy la pc_ a1_1 a2_2 a3_3 a4_4 a5_5 a6_6, zAr T 0 a1_1 7 f1, zAr T 0 a2_2 7 f2, zAr T 0 a3_3 7 f3, zAr T 0 a4_4 n4 f4, zAr T 0 a5_5 n4 f5, zAr T 0 a6_6 n4 f6], [zO4 la cr inn a1_7 a2_8 a3_9 a4_10, zAr T 0 a1_7 7 k1, zAr T 0 a2_8 28 k2, zAr T 0 a3_9 7 k3, zAr T 0 a4_10 7 k4]] _ _ := G.re rfl
      exact ih_4 (i + 1) (u + 0) (show (i + 1) ≤ 7 from by omega) (show 7 - (i + 1) < 7 - i from by omega) _ _ ls G (lv_sub hl [0, 1, 2] rfl)
    · have c_16n : ¬ (zWays cr inn k1 (nI i)).toInt ≤ (0 : Int) := fun q => c_16 ((fa_le _ _).mpr q)
      refine lv_aload_n hx hb dX0_wayTold_22 rfl (lv_at hl 2 rfl) ?_
      refine z_get C G clX0 0 rfl 2 (by decide) m_fl_RX0_14 rfl dX0_wayTold_23 ?_
      have G : zS T A s.heap s [[zO0 h md wy la pc_ a1_1 a2_2 a3_3 a4_4 a5_5 a6_6], [zAr T 0 a1_1 7 f1], [zAr T 0 a2_2 7 f2], [zAr T 0 a3_3 7 f3], [zAr T 0 a4_4 n4 f4], [zAr T 0 a5_5 n4 f5], [zAr T 0 a6_6 n4 f6], [zO4 la cr inn a1_7 a2_8 a3_9 a4_10], [zAr T 0 a1_7 7 k1], [zAr T 0 a2_8 28 k2], [zAr T 0 a3_9 7 k3], [zAr T 0 a4_10 7 k4]] _ _ := G.re rfl
      refine z_get C G clX4 7 rfl 4 (by decide) m_fl_RX0_104 rfl dX0_wayTold_26 ?_
      refine lv_iload_n hx hb dX0_wayTold_29 rfl (lv_at hl 0 rfl) ?_
      refine z_ild C G 10 rfl (vp_in_nI (by omega) (by decide)) dX0_wayTold_30 ?_
      refine lv_topi (fun v_18 ev_18 => ?_)
      rw [nI_clamp (by omega)] at ev_18
      subst ev_18
      refine lv_aload_n hx hb dX0_wayTold_31 rfl (lv_at hl 2 rfl) ?_
      refine z_get C G clX0 0 rfl 5 (by decide) m_fl_RX0_22 rfl dX0_wayTold_32 ?_
      refine lv_iload_n hx hb dX0_wayTold_35 rfl (lv_at hl 0 rfl) ?_
      refine z_ild C G 2 rfl (vp_in_nI (by omega) (by decide)) dX0_wayTold_36 ?_
      refine lv_topi (fun v_19 ev_19 => ?_)
      rw [nI_clamp (by omega)] at ev_19
      subst ev_19
      refine lv_imul hx hb dX0_wayTold_37 ?_
      refine lv_goto (tgt := 42) hx hb dX0_wayTold_38 (by decide) ?_
      refine lv_iadd hx hb dX0_wayTold_42 ?_
      refine lv_istore_n (lv' := [(1, .int (u + ((k3 i) * (f2 i)))), (2, .int (nI i)), (0, .ref h)]) hx hb dX0_wayTold_43 rfl hl (by decide) (zLvf_h rfl) (fun ls hl => ?_)
      refine lv_iinc (v := nI (i + 1)) (lv' := [(2, .int (nI (i + 1))), (1, .int (u + ((k3 i) * (f2 i)))), (0, .ref h)]) hx hb dX0_wayTold_44 hl (k := 1) rfl (z_inc i 1) (by decide) (zLvf_h rfl) (fun ls hl => ?_)
      refine lv_goto (tgt := 4) hx hb dX0_wayTold_47 (by decide) ?_
      have hw_20 : bWays T h la md wy pc_ f1 f2 f3 f4 f5 f6 n4 [zO0 h md wy la pc_ a1_1 a2_2 a3_3 a4_4 a5_5 a6_6, zAr T 0 a1_1 7 f1, zAr T 0 a2_2 7 f2, zAr T 0 a3_3 7 f3, zAr T 0 a4_4 n4 f4, zAr T 0 a5_5 n4 f5, zAr T 0 a6_6 n4 f6] := ⟨a1_1, a2_2, a3_3, a4_4, a5_5, a6_6, rfl⟩
      have G : zS T A s.heap s [[zO0 h md wy la pc_ a1_1 a2_2 a3_3 a4_4 a5_5 a6_6, zAr T 0 a1_1 7 f1, zAr T 0 a2_2 7 f2, zAr T 0 a3_3 7 f3, zAr T 0 a4_4 n4 f4, zAr T 0 a5_5 n4 f5, zAr T 0 a6_6 n4 f6], [zO4 la cr inn a1_7 a2_8 a3_9 a4_10], [zAr T 0 a1_7 7 k1], [zAr T 0 a2_8 28 k2], [zAr T 0 a3_9 7 k3], [zAr T 0 a4_10 7 k4]] _ _ := G.re rfl
      have hw_21 : bLand T la cr inn k1 k2 k3 k4 [zO4 la cr inn a1_7 a2_8 a3_9 a4_10, zAr T 0 a1_7 7 k1, zAr T 0 a2_8 28 k2, zAr T 0 a3_9 7 k3, zAr T 0 a4_10 7 k4] := ⟨a1_7, a2_8, a3_9, a4_10, rfl⟩
      have G : zS T A s.heap s [[zO0 h md wy la pc_ a1_1 a2_2 a3_3 a4_4 a5_5 a6_6, zAr T 0 a1_1 7 f1, zAr T 0 a2_2 7 f2, zAr T 0 a3_3 7 f3, zAr T 0 a4_4 n4 f4, zAr T 0 a5_5 n4 f5, zAr T 0 a6_6 n4 f6], [zO4 la cr inn a1_7 a2_8 a3_9 a4_10, zAr T 0 a1_7 7 k1, zAr T 0 a2_8 28 k2, zAr T 0 a3_9 7 k3, zAr T 0 a4_10 7 k4]] _ _ := G.re rfl
      exact ih_4 (i + 1) (u + ((k3 i) * (f2 i))) (show (i + 1) ≤ 7 from by omega) (show 7 - (i + 1) < 7 - i from by omega) _ _ ls G (lv_sub hl [0, 1, 2] rfl)
set_option maxHeartbeats 4000000 in
set_option maxRecDepth 100000 in
/-- c_number -/
theorem c_number (l : Launch) (T : zTy) (h : Nat) (la : Nat) (md : Int32) (wy : Int32) (pc_ : Int32) (f1 : Nat → Int32) (f2 : Nat → Int32) (f3 : Nat → Int32) (f4 : Nat → Int32) (f5 : Nat → Int32) (f6 : Nat → Int32) (n4 : Nat) (ww : va_W) (cr : Int32) (inn : Int32) (k1 : Nat → Int32) (k2 : Nat → Int32) (k3 : Nat → Int32) (k4 : Nat → Int32) (z : va_W) (x : Int32) (hww : bWays T h la md wy pc_ f1 f2 f3 f4 f5 f6 n4 ww) (hz : bLand T la cr inn k1 k2 k3 k4 z) (hI : zLI cr k1 k3) : zMi l T yX0_number cX0_number 4 (some .int) 2 0 0 [.ref h, .int x] [ww, z] (fun (r : Int32) bs => bs = [ww, z]) := by
  refine zMi_of (own := RX0) (by decide) rfl (Nat.le_of_ble_eq_true rfl) ?_
  intro p e s m args below meth c A ls C hr hlocks hnm hAe G hl
  refine zHide (fun Qz_ hQz_ => ?_)
  have hx := C.1
  have hb := C.2.1
  have hl : lv_has ls 4 [(0, .ref h), (1, .int x)] := hl
  have hcr := hI.1
  refine lv_iconst (v := 1) hx hb dX0_number_0 (by decide) ?_
  refine lv_istore_n (lv' := [(2, .int 1), (0, .ref h), (1, .int x)]) hx hb dX0_number_1 rfl hl (by decide) (zLvf_h rfl) (fun ls hl => ?_)
  refine lv_iconst (v := 0) hx hb dX0_number_2 (by decide) ?_
  refine lv_istore_n (lv' := [(3, .int 0), (2, .int 1), (0, .ref h), (1, .int x)]) hx hb dX0_number_3 rfl hl (by decide) (zLvf_h rfl) (fun ls hl => ?_)
  refine zEx6 hww ?_
  intro a1_1 a2_2 a3_3 a4_4 a5_5 a6_6 hbs9
  clear hww
  subst hbs9
  have G : zS T A s.heap s [[zO0 h md wy la pc_ a1_1 a2_2 a3_3 a4_4 a5_5 a6_6], [zAr T 0 a1_1 7 f1], [zAr T 0 a2_2 7 f2], [zAr T 0 a3_3 7 f3], [zAr T 0 a4_4 n4 f4], [zAr T 0 a5_5 n4 f5], [zAr T 0 a6_6 n4 f6], z] _ _ := G.re rfl
  refine zEx4 hz ?_
  intro a1_7 a2_8 a3_9 a4_10 hbs9
  clear hz
  subst hbs9
  have G : zS T A s.heap s [[zO0 h md wy la pc_ a1_1 a2_2 a3_3 a4_4 a5_5 a6_6], [zAr T 0 a1_1 7 f1], [zAr T 0 a2_2 7 f2], [zAr T 0 a3_3 7 f3], [zAr T 0 a4_4 n4 f4], [zAr T 0 a5_5 n4 f5], [zAr T 0 a6_6 n4 f6], [zO4 la cr inn a1_7 a2_8 a3_9 a4_10], [zAr T 0 a1_7 7 k1], [zAr T 0 a2_8 28 k2], [zAr T 0 a3_9 7 k3], [zAr T 0 a4_10 7 k4]] _ _ := G.re rfl
  have hw_11 : bWays T h la md wy pc_ f1 f2 f3 f4 f5 f6 n4 [zO0 h md wy la pc_ a1_1 a2_2 a3_3 a4_4 a5_5 a6_6, zAr T 0 a1_1 7 f1, zAr T 0 a2_2 7 f2, zAr T 0 a3_3 7 f3, zAr T 0 a4_4 n4 f4, zAr T 0 a5_5 n4 f5, zAr T 0 a6_6 n4 f6] := ⟨a1_1, a2_2, a3_3, a4_4, a5_5, a6_6, rfl⟩
  have G : zS T A s.heap s [[zO0 h md wy la pc_ a1_1 a2_2 a3_3 a4_4 a5_5 a6_6, zAr T 0 a1_1 7 f1, zAr T 0 a2_2 7 f2, zAr T 0 a3_3 7 f3, zAr T 0 a4_4 n4 f4, zAr T 0 a5_5 n4 f5, zAr T 0 a6_6 n4 f6], [zO4 la cr inn a1_7 a2_8 a3_9 a4_10], [zAr T 0 a1_7 7 k1], [zAr T 0 a2_8 28 k2], [zAr T 0 a3_9 7 k3], [zAr T 0 a4_10 7 k4]] _ _ := G.re rfl
  have hw_12 : bLand T la cr inn k1 k2 k3 k4 [zO4 la cr inn a1_7 a2_8 a3_9 a4_10, zAr T 0 a1_7 7 k1, zAr T 0 a2_8 28 k2, zAr T 0 a3_9 7 k3, zAr T 0 a4_10 7 k4] := ⟨a1_7, a2_8, a3_9, a4_10, rfl⟩
  have G : zS T A s.heap s [[zO0 h md wy la pc_ a1_1 a2_2 a3_3 a4_4 a5_5 a6_6, zAr T 0 a1_1 7 f1, zAr T 0 a2_2 7 f2, zAr T 0 a3_3 7 f3, zAr T 0 a4_4 n4 f4, zAr T 0 a5_5 n4 f5, zAr T 0 a6_6 n4 f6], [zO4 la cr inn a1_7 a2_8 a3_9 a4_10, zAr T 0 a1_7 7 k1, zAr T 0 a2_8 28 k2, zAr T 0 a3_9 7 k3, zAr T 0 a4_10 7 k4]] _ _ := G.re rfl
  refine z_lp2 (T := T) 4 (fun (i : Nat) (u2 : Int32) => [[zO0 h md wy la pc_ a1_1 a2_2 a3_3 a4_4 a5_5 a6_6, zAr T 0 a1_1 7 f1, zAr T 0 a2_2 7 f2, zAr T 0 a3_3 7 f3, zAr T 0 a4_4 n4 f4, zAr T 0 a5_5 n4 f5, zAr T 0 a6_6 n4 f6], [zO4 la cr inn a1_7 a2_8 a3_9 a4_10, zAr T 0 a1_7 7 k1, zAr T 0 a2_8 28 k2, zAr T 0 a3_9 7 k3, zAr T 0 a4_10 7 k4]]) (fun (i : Nat) (u2 : Int32) => [(3, .int (nI i)), (2, .int u2), (0, .ref h), (1, .int x)]) (fun (i : Nat) (u2 : Int32) => i ≤ cr.toInt.toNat) (fun (i : Nat) (u2 : Int32) => cr.toInt.toNat - i) ?_ 0 1 (show 0 ≤ cr.toInt.toNat from by omega) G (lv_sub hl [0, 1, 2, 3] rfl)
  intro i u2 hi ih_4 H locs ls G hl
  replace hi : i ≤ cr.toInt.toNat := hi
  replace G : zS T A s.heap s [[zO0 h md wy la pc_ a1_1 a2_2 a3_3 a4_4 a5_5 a6_6, zAr T 0 a1_1 7 f1, zAr T 0 a2_2 7 f2, zAr T 0 a3_3 7 f3, zAr T 0 a4_4 n4 f4, zAr T 0 a5_5 n4 f5, zAr T 0 a6_6 n4 f6], [zO4 la cr inn a1_7 a2_8 a3_9 a4_10, zAr T 0 a1_7 7 k1, zAr T 0 a2_8 28 k2, zAr T 0 a3_9 7 k3, zAr T 0 a4_10 7 k4]] _ _ := G
  replace hl : lv_has ls 4 [(3, .int (nI i)), (2, .int u2), (0, .ref h), (1, .int x)] := hl
  refine lv_iload_n hx hb dX0_number_4 rfl (lv_at hl 0 rfl) ?_
  refine lv_aload_n hx hb dX0_number_5 rfl (lv_at hl 2 rfl) ?_
  have G : zS T A s.heap s [[zO0 h md wy la pc_ a1_1 a2_2 a3_3 a4_4 a5_5 a6_6], [zAr T 0 a1_1 7 f1], [zAr T 0 a2_2 7 f2], [zAr T 0 a3_3 7 f3], [zAr T 0 a4_4 n4 f4], [zAr T 0 a5_5 n4 f5], [zAr T 0 a6_6 n4 f6], [zO4 la cr inn a1_7 a2_8 a3_9 a4_10, zAr T 0 a1_7 7 k1, zAr T 0 a2_8 28 k2, zAr T 0 a3_9 7 k3, zAr T 0 a4_10 7 k4]] _ _ := G.re rfl
  refine z_get C G clX0 0 rfl 2 (by decide) m_fl_RX0_14 rfl dX0_number_6 ?_
  have G : zS T A s.heap s [[zO0 h md wy la pc_ a1_1 a2_2 a3_3 a4_4 a5_5 a6_6], [zAr T 0 a1_1 7 f1], [zAr T 0 a2_2 7 f2], [zAr T 0 a3_3 7 f3], [zAr T 0 a4_4 n4 f4], [zAr T 0 a5_5 n4 f5], [zAr T 0 a6_6 n4 f6], [zO4 la cr inn a1_7 a2_8 a3_9 a4_10], [zAr T 0 a1_7 7 k1], [zAr T 0 a2_8 28 k2], [zAr T 0 a3_9 7 k3], [zAr T 0 a4_10 7 k4]] _ _ := G.re rfl
  refine z_get C G clX4 7 rfl 0 (by decide) m_fl_RX0_107 rfl dX0_number_9 ?_
  refine lv_icmp_ge (tgt := 33) hx hb dX0_number_12 (by decide) (fun c_13 => ?_) (fun c_13 => ?_)
  · have c_13n : cr.toInt ≤ (i : Int) := by have q := (fa_le _ _).mp c_13; rw [nI_toInt (n := i) (by omega)] at q; exact q
    refine lv_iload_n hx hb dX0_number_33 rfl (lv_at hl 1 rfl) ?_
    have hw_14 : bWays T h la md wy pc_ f1 f2 f3 f4 f5 f6 n4 [zO0 h md wy la pc_ a1_1 a2_2 a3_3 a4_4 a5_5 a6_6, zAr T 0 a1_1 7 f1, zAr T 0 a2_2 7 f2, zAr T 0 a3_3 7 f3, zAr T 0 a4_4 n4 f4, zAr T 0 a5_5 n4 f5, zAr T 0 a6_6 n4 f6] := ⟨a1_1, a2_2, a3_3, a4_4, a5_5, a6_6, rfl⟩
    have G : zS T A s.heap s [[zO0 h md wy la pc_ a1_1 a2_2 a3_3 a4_4 a5_5 a6_6, zAr T 0 a1_1 7 f1, zAr T 0 a2_2 7 f2, zAr T 0 a3_3 7 f3, zAr T 0 a4_4 n4 f4, zAr T 0 a5_5 n4 f5, zAr T 0 a6_6 n4 f6], [zO4 la cr inn a1_7 a2_8 a3_9 a4_10], [zAr T 0 a1_7 7 k1], [zAr T 0 a2_8 28 k2], [zAr T 0 a3_9 7 k3], [zAr T 0 a4_10 7 k4]] _ _ := G.re rfl
    have hw_15 : bLand T la cr inn k1 k2 k3 k4 [zO4 la cr inn a1_7 a2_8 a3_9 a4_10, zAr T 0 a1_7 7 k1, zAr T 0 a2_8 28 k2, zAr T 0 a3_9 7 k3, zAr T 0 a4_10 7 k4] := ⟨a1_7, a2_8, a3_9, a4_10, rfl⟩
    have G : zS T A s.heap s [[zO0 h md wy la pc_ a1_1 a2_2 a3_3 a4_4 a5_5 a6_6, zAr T 0 a1_1 7 f1, zAr T 0 a2_2 7 f2, zAr T 0 a3_3 7 f3, zAr T 0 a4_4 n4 f4, zAr T 0 a5_5 n4 f5, zAr T 0 a6_6 n4 f6], [zO4 la cr inn a1_7 a2_8 a3_9 a4_10, zAr T 0 a1_7 7 k1, zAr T 0 a2_8 28 k2, zAr T 0 a3_9 7 k3, zAr T 0 a4_10 7 k4]] _ _ := G.re rfl
    exact z_back hQz_ (z_iret C hr hlocks G (Nat.le_of_ble_eq_true rfl) (Nat.le_of_ble_eq_true rfl) dX0_number_34 rfl)
  · have c_13n : ¬ cr.toInt ≤ (i : Int) := fun q => c_13 ((fa_le _ _).mpr (by rw [nI_toInt (n := i) (by omega)]; exact q))
    refine lv_iload_n hx hb dX0_number_15 rfl (lv_at hl 1 rfl) ?_
    refine lv_bipush (v := 10) hx hb dX0_number_16 (by decide) ?_
    refine lv_imul hx hb dX0_number_18 ?_
    refine lv_aload_n hx hb dX0_number_19 rfl (lv_at hl 2 rfl) ?_
    refine lv_iload_n hx hb dX0_number_20 rfl (lv_at hl 3 rfl) ?_
    refine lv_iload_n hx hb dX0_number_21 rfl (lv_at hl 0 rfl) ?_
    have hw_16 : bWays T h la md wy pc_ f1 f2 f3 f4 f5 f6 n4 [zO0 h md wy la pc_ a1_1 a2_2 a3_3 a4_4 a5_5 a6_6, zAr T 0 a1_1 7 f1, zAr T 0 a2_2 7 f2, zAr T 0 a3_3 7 f3, zAr T 0 a4_4 n4 f4, zAr T 0 a5_5 n4 f5, zAr T 0 a6_6 n4 f6] := ⟨a1_1, a2_2, a3_3, a4_4, a5_5, a6_6, rfl⟩
    have G : zS T A s.heap s [[zO0 h md wy la pc_ a1_1 a2_2 a3_3 a4_4 a5_5 a6_6, zAr T 0 a1_1 7 f1, zAr T 0 a2_2 7 f2, zAr T 0 a3_3 7 f3, zAr T 0 a4_4 n4 f4, zAr T 0 a5_5 n4 f5, zAr T 0 a6_6 n4 f6], [zO4 la cr inn a1_7 a2_8 a3_9 a4_10], [zAr T 0 a1_7 7 k1], [zAr T 0 a2_8 28 k2], [zAr T 0 a3_9 7 k3], [zAr T 0 a4_10 7 k4]] _ _ := G.re rfl
    refine z_Vi (bc := [[zO0 h md wy la pc_ a1_1 a2_2 a3_3 a4_4 a5_5 a6_6, zAr T 0 a1_1 7 f1, zAr T 0 a2_2 7 f2, zAr T 0 a3_3 7 f3, zAr T 0 a4_4 n4 f4, zAr T 0 a5_5 n4 f5, zAr T 0 a6_6 n4 f6]]) (br := [[zO4 la cr inn a1_7 a2_8 a3_9 a4_10], [zAr T 0 a1_7 7 k1], [zAr T 0 a2_8 28 k2], [zAr T 0 a3_9 7 k3], [zAr T 0 a4_10 7 k4]]) (As := [.int x, .int (nI i)]) (rest := [.int (u2 * 10)]) C G (c_road l T h la md wy pc_ f1 f2 f3 f4 f5 f6 n4 ([zO0 h md wy la pc_ a1_1 a2_2 a3_3 a4_4 a5_5 a6_6, zAr T 0 a1_1 7 f1, zAr T 0 a2_2 7 f2, zAr T 0 a3_3 7 f3, zAr T 0 a4_4 n4 f4, zAr T 0 a5_5 n4 f5, zAr T 0 a6_6 n4 f6]) x (nI i) hw_16) (kV_RX0_81 C.2.2.2.2 (Nat.le_of_ble_eq_true rfl) (Nat.le_of_ble_eq_true rfl)) [0] [0] rfl rfl (ci := 0) (qc := (RX0, TX0, 10)) rfl rfl (List.mem_flatten.mpr ⟨_, List.mem_of_getElem? (i := 0) rfl, (bWays_mem hw_16).choose_spec⟩) rfl rfl hl.1 dX0_number_22 (Nat.le_of_ble_eq_true rfl) (Nat.le_of_ble_eq_true rfl) (fun r_18 b1 H locs hw G => ?_)
    refine zAn2 hw ?_
    intro hbs9 h_17
    clear hw
    subst hbs9
    have G : zS T A s.heap s [[zO4 la cr inn a1_7 a2_8 a3_9 a4_10], [zAr T 0 a1_7 7 k1], [zAr T 0 a2_8 28 k2], [zAr T 0 a3_9 7 k3], [zAr T 0 a4_10 7 k4], [zO0 h md wy la pc_ a1_1 a2_2 a3_3 a4_4 a5_5 a6_6, zAr T 0 a1_1 7 f1, zAr T 0 a2_2 7 f2, zAr T 0 a3_3 7 f3, zAr T 0 a4_4 n4 f4, zAr T 0 a5_5 n4 f5, zAr T 0 a6_6 n4 f6]] _ _ := G
    subst h_17
    refine lv_iadd hx hb dX0_number_25 ?_
    refine lv_istore_n (lv' := [(2, .int ((u2 * 10) + (zRoad f1 f2 x (nI i)))), (3, .int (nI i)), (0, .ref h), (1, .int x)]) hx hb dX0_number_26 rfl hl (by decide) (zLvf_h rfl) (fun ls hl => ?_)
    refine lv_iinc (v := nI (i + 1)) (lv' := [(3, .int (nI (i + 1))), (2, .int ((u2 * 10) + (zRoad f1 f2 x (nI i)))), (0, .ref h), (1, .int x)]) hx hb dX0_number_27 hl (k := 1) rfl (z_inc i 1) (by decide) (zLvf_h rfl) (fun ls hl => ?_)
    refine lv_goto (tgt := 4) hx hb dX0_number_30 (by decide) ?_
    have hw_19 : bLand T la cr inn k1 k2 k3 k4 [zO4 la cr inn a1_7 a2_8 a3_9 a4_10, zAr T 0 a1_7 7 k1, zAr T 0 a2_8 28 k2, zAr T 0 a3_9 7 k3, zAr T 0 a4_10 7 k4] := ⟨a1_7, a2_8, a3_9, a4_10, rfl⟩
    have G : zS T A s.heap s [[zO4 la cr inn a1_7 a2_8 a3_9 a4_10, zAr T 0 a1_7 7 k1, zAr T 0 a2_8 28 k2, zAr T 0 a3_9 7 k3, zAr T 0 a4_10 7 k4], [zO0 h md wy la pc_ a1_1 a2_2 a3_3 a4_4 a5_5 a6_6, zAr T 0 a1_1 7 f1, zAr T 0 a2_2 7 f2, zAr T 0 a3_3 7 f3, zAr T 0 a4_4 n4 f4, zAr T 0 a5_5 n4 f5, zAr T 0 a6_6 n4 f6]] _ _ := G.re rfl
    have G := G.sub (bs' := [[zO0 h md wy la pc_ a1_1 a2_2 a3_3 a4_4 a5_5 a6_6, zAr T 0 a1_1 7 f1, zAr T 0 a2_2 7 f2, zAr T 0 a3_3 7 f3, zAr T 0 a4_4 n4 f4, zAr T 0 a5_5 n4 f5, zAr T 0 a6_6 n4 f6], [zO4 la cr inn a1_7 a2_8 a3_9 a4_10, zAr T 0 a1_7 7 k1, zAr T 0 a2_8 28 k2, zAr T 0 a3_9 7 k3, zAr T 0 a4_10 7 k4]]) [1, 0] rfl
    exact ih_4 (i + 1) ((u2 * 10) + (zRoad f1 f2 x (nI i))) (show (i + 1) ≤ cr.toInt.toNat from by omega) (show cr.toInt.toNat - (i + 1) < cr.toInt.toNat - i from by omega) _ _ ls G (lv_sub hl [0, 1, 2, 3] rfl)
set_option maxHeartbeats 4000000 in
set_option maxRecDepth 100000 in
/-- c_comesByRow -/
theorem c_comesByRow (l : Launch) (T : zTy) (h : Nat) (la : Nat) (md : Int32) (wy : Int32) (pc_ : Int32) (f1 : Nat → Int32) (f2 : Nat → Int32) (f3 : Nat → Int32) (f4 : Nat → Int32) (f5 : Nat → Int32) (f6 : Nat → Int32) (n4 : Nat) (ww : va_W) (cr : Int32) (inn : Int32) (k1 : Nat → Int32) (k2 : Nat → Int32) (k3 : Nat → Int32) (k4 : Nat → Int32) (z : va_W) (x : Int32) (hww : bWays T h la md wy pc_ f1 f2 f3 f4 f5 f6 n4 ww) (hz : bLand T la cr inn k1 k2 k3 k4 z) (hI : zLI cr k1 k3) : zMi l T yX0_comesByRow cX0_comesByRow 4 (some .boolean) 3 0 0 [.ref h, .int x] [ww, z] (fun (r : Int32) bs => bs = [ww, z] ∧ (r = 0 ∨ r = 1)) := by
  refine zMi_of (own := RX0) (by decide) rfl (Nat.le_of_ble_eq_true rfl) ?_
  intro p e s m args below meth c A ls C hr hlocks hnm hAe G hl
  refine zHide (fun Qz_ hQz_ => ?_)
  have hx := C.1
  have hb := C.2.1
  have hl : lv_has ls 4 [(0, .ref h), (1, .int x)] := hl
  have hcr := hI.1
  refine lv_iload_n hx hb dX0_comesByRow_0 rfl (lv_at hl 1 rfl) ?_
  refine lv_istore_n (lv' := [(2, .int x), (0, .ref h), (1, .int x)]) hx hb dX0_comesByRow_1 rfl hl (by decide) (zLvf_h rfl) (fun ls hl => ?_)
  refine lv_iconst (v := 0) hx hb dX0_comesByRow_2 (by decide) ?_
  refine lv_istore_n (lv' := [(3, .int 0), (2, .int x), (0, .ref h), (1, .int x)]) hx hb dX0_comesByRow_3 rfl hl (by decide) (zLvf_h rfl) (fun ls hl => ?_)
  refine zEx6 hww ?_
  intro a1_1 a2_2 a3_3 a4_4 a5_5 a6_6 hbs9
  clear hww
  subst hbs9
  have G : zS T A s.heap s [[zO0 h md wy la pc_ a1_1 a2_2 a3_3 a4_4 a5_5 a6_6], [zAr T 0 a1_1 7 f1], [zAr T 0 a2_2 7 f2], [zAr T 0 a3_3 7 f3], [zAr T 0 a4_4 n4 f4], [zAr T 0 a5_5 n4 f5], [zAr T 0 a6_6 n4 f6], z] _ _ := G.re rfl
  refine zEx4 hz ?_
  intro a1_7 a2_8 a3_9 a4_10 hbs9
  clear hz
  subst hbs9
  have G : zS T A s.heap s [[zO0 h md wy la pc_ a1_1 a2_2 a3_3 a4_4 a5_5 a6_6], [zAr T 0 a1_1 7 f1], [zAr T 0 a2_2 7 f2], [zAr T 0 a3_3 7 f3], [zAr T 0 a4_4 n4 f4], [zAr T 0 a5_5 n4 f5], [zAr T 0 a6_6 n4 f6], [zO4 la cr inn a1_7 a2_8 a3_9 a4_10], [zAr T 0 a1_7 7 k1], [zAr T 0 a2_8 28 k2], [zAr T 0 a3_9 7 k3], [zAr T 0 a4_10 7 k4]] _ _ := G.re rfl
  have hw_11 : bWays T h la md wy pc_ f1 f2 f3 f4 f5 f6 n4 [zO0 h md wy la pc_ a1_1 a2_2 a3_3 a4_4 a5_5 a6_6, zAr T 0 a1_1 7 f1, zAr T 0 a2_2 7 f2, zAr T 0 a3_3 7 f3, zAr T 0 a4_4 n4 f4, zAr T 0 a5_5 n4 f5, zAr T 0 a6_6 n4 f6] := ⟨a1_1, a2_2, a3_3, a4_4, a5_5, a6_6, rfl⟩
  have G : zS T A s.heap s [[zO0 h md wy la pc_ a1_1 a2_2 a3_3 a4_4 a5_5 a6_6, zAr T 0 a1_1 7 f1, zAr T 0 a2_2 7 f2, zAr T 0 a3_3 7 f3, zAr T 0 a4_4 n4 f4, zAr T 0 a5_5 n4 f5, zAr T 0 a6_6 n4 f6], [zO4 la cr inn a1_7 a2_8 a3_9 a4_10], [zAr T 0 a1_7 7 k1], [zAr T 0 a2_8 28 k2], [zAr T 0 a3_9 7 k3], [zAr T 0 a4_10 7 k4]] _ _ := G.re rfl
  have hw_12 : bLand T la cr inn k1 k2 k3 k4 [zO4 la cr inn a1_7 a2_8 a3_9 a4_10, zAr T 0 a1_7 7 k1, zAr T 0 a2_8 28 k2, zAr T 0 a3_9 7 k3, zAr T 0 a4_10 7 k4] := ⟨a1_7, a2_8, a3_9, a4_10, rfl⟩
  have G : zS T A s.heap s [[zO0 h md wy la pc_ a1_1 a2_2 a3_3 a4_4 a5_5 a6_6, zAr T 0 a1_1 7 f1, zAr T 0 a2_2 7 f2, zAr T 0 a3_3 7 f3, zAr T 0 a4_4 n4 f4, zAr T 0 a5_5 n4 f5, zAr T 0 a6_6 n4 f6], [zO4 la cr inn a1_7 a2_8 a3_9 a4_10, zAr T 0 a1_7 7 k1, zAr T 0 a2_8 28 k2, zAr T 0 a3_9 7 k3, zAr T 0 a4_10 7 k4]] _ _ := G.re rfl
  refine z_lp2 (T := T) 4 (fun (i : Nat) (u2 : Int32) => [[zO0 h md wy la pc_ a1_1 a2_2 a3_3 a4_4 a5_5 a6_6, zAr T 0 a1_1 7 f1, zAr T 0 a2_2 7 f2, zAr T 0 a3_3 7 f3, zAr T 0 a4_4 n4 f4, zAr T 0 a5_5 n4 f5, zAr T 0 a6_6 n4 f6], [zO4 la cr inn a1_7 a2_8 a3_9 a4_10, zAr T 0 a1_7 7 k1, zAr T 0 a2_8 28 k2, zAr T 0 a3_9 7 k3, zAr T 0 a4_10 7 k4]]) (fun (i : Nat) (u2 : Int32) => [(3, .int (nI i)), (2, .int u2), (0, .ref h), (1, .int x)]) (fun (i : Nat) (u2 : Int32) => i ≤ cr.toInt.toNat) (fun (i : Nat) (u2 : Int32) => cr.toInt.toNat - i) ?_ 0 x (show 0 ≤ cr.toInt.toNat from by omega) G (lv_sub hl [0, 1, 2, 3] rfl)
  intro i u2 hi ih_4 H locs ls G hl
  replace hi : i ≤ cr.toInt.toNat := hi
  replace G : zS T A s.heap s [[zO0 h md wy la pc_ a1_1 a2_2 a3_3 a4_4 a5_5 a6_6, zAr T 0 a1_1 7 f1, zAr T 0 a2_2 7 f2, zAr T 0 a3_3 7 f3, zAr T 0 a4_4 n4 f4, zAr T 0 a5_5 n4 f5, zAr T 0 a6_6 n4 f6], [zO4 la cr inn a1_7 a2_8 a3_9 a4_10, zAr T 0 a1_7 7 k1, zAr T 0 a2_8 28 k2, zAr T 0 a3_9 7 k3, zAr T 0 a4_10 7 k4]] _ _ := G
  replace hl : lv_has ls 4 [(3, .int (nI i)), (2, .int u2), (0, .ref h), (1, .int x)] := hl
  refine lv_iload_n hx hb dX0_comesByRow_4 rfl (lv_at hl 0 rfl) ?_
  refine lv_aload_n hx hb dX0_comesByRow_5 rfl (lv_at hl 2 rfl) ?_
  have G : zS T A s.heap s [[zO0 h md wy la pc_ a1_1 a2_2 a3_3 a4_4 a5_5 a6_6], [zAr T 0 a1_1 7 f1], [zAr T 0 a2_2 7 f2], [zAr T 0 a3_3 7 f3], [zAr T 0 a4_4 n4 f4], [zAr T 0 a5_5 n4 f5], [zAr T 0 a6_6 n4 f6], [zO4 la cr inn a1_7 a2_8 a3_9 a4_10, zAr T 0 a1_7 7 k1, zAr T 0 a2_8 28 k2, zAr T 0 a3_9 7 k3, zAr T 0 a4_10 7 k4]] _ _ := G.re rfl
  refine z_get C G clX0 0 rfl 2 (by decide) m_fl_RX0_14 rfl dX0_comesByRow_6 ?_
  have G : zS T A s.heap s [[zO0 h md wy la pc_ a1_1 a2_2 a3_3 a4_4 a5_5 a6_6], [zAr T 0 a1_1 7 f1], [zAr T 0 a2_2 7 f2], [zAr T 0 a3_3 7 f3], [zAr T 0 a4_4 n4 f4], [zAr T 0 a5_5 n4 f5], [zAr T 0 a6_6 n4 f6], [zO4 la cr inn a1_7 a2_8 a3_9 a4_10], [zAr T 0 a1_7 7 k1], [zAr T 0 a2_8 28 k2], [zAr T 0 a3_9 7 k3], [zAr T 0 a4_10 7 k4]] _ _ := G.re rfl
  refine z_get C G clX4 7 rfl 0 (by decide) m_fl_RX0_107 rfl dX0_comesByRow_9 ?_
  refine lv_icmp_ge (tgt := 47) hx hb dX0_comesByRow_12 (by decide) (fun c_13 => ?_) (fun c_13 => ?_)
  · have c_13n : cr.toInt ≤ (i : Int) := by have q := (fa_le _ _).mp c_13; rw [nI_toInt (n := i) (by omega)] at q; exact q
    refine lv_aload_n hx hb dX0_comesByRow_47 rfl (lv_at hl 2 rfl) ?_
    refine z_get C G clX0 0 rfl 2 (by decide) m_fl_RX0_14 rfl dX0_comesByRow_48 ?_
    refine lv_iload_n hx hb dX0_comesByRow_51 rfl (lv_at hl 1 rfl) ?_
    have hw_14 : bLand T la cr inn k1 k2 k3 k4 [zO4 la cr inn a1_7 a2_8 a3_9 a4_10, zAr T 0 a1_7 7 k1, zAr T 0 a2_8 28 k2, zAr T 0 a3_9 7 k3, zAr T 0 a4_10 7 k4] := ⟨a1_7, a2_8, a3_9, a4_10, rfl⟩
    have G : zS T A s.heap s [[zO0 h md wy la pc_ a1_1 a2_2 a3_3 a4_4 a5_5 a6_6], [zAr T 0 a1_1 7 f1], [zAr T 0 a2_2 7 f2], [zAr T 0 a3_3 7 f3], [zAr T 0 a4_4 n4 f4], [zAr T 0 a5_5 n4 f5], [zAr T 0 a6_6 n4 f6], [zO4 la cr inn a1_7 a2_8 a3_9 a4_10, zAr T 0 a1_7 7 k1, zAr T 0 a2_8 28 k2, zAr T 0 a3_9 7 k3, zAr T 0 a4_10 7 k4]] _ _ := G.re rfl
    refine z_Vi (bc := [[zO4 la cr inn a1_7 a2_8 a3_9 a4_10, zAr T 0 a1_7 7 k1, zAr T 0 a2_8 28 k2, zAr T 0 a3_9 7 k3, zAr T 0 a4_10 7 k4]]) (br := [[zO0 h md wy la pc_ a1_1 a2_2 a3_3 a4_4 a5_5 a6_6], [zAr T 0 a1_1 7 f1], [zAr T 0 a2_2 7 f2], [zAr T 0 a3_3 7 f3], [zAr T 0 a4_4 n4 f4], [zAr T 0 a5_5 n4 f5], [zAr T 0 a6_6 n4 f6]]) (As := [.int u2]) (rest := []) C G (c_isInn l T la cr inn k1 k2 k3 k4 ([zO4 la cr inn a1_7 a2_8 a3_9 a4_10, zAr T 0 a1_7 7 k1, zAr T 0 a2_8 28 k2, zAr T 0 a3_9 7 k3, zAr T 0 a4_10 7 k4]) u2 hw_14) (kV_RX0_97 C.2.2.2.2 (Nat.le_of_ble_eq_true rfl) (Nat.le_of_ble_eq_true rfl)) [7] [7] rfl rfl (ci := 4) (qc := (RX4, TX4, 6)) rfl rfl (List.mem_flatten.mpr ⟨_, List.mem_of_getElem? (i := 0) rfl, (bLand_mem hw_14).choose_spec⟩) rfl rfl hl.1 dX0_comesByRow_52 (Nat.le_of_ble_eq_true rfl) (Nat.le_of_ble_eq_true rfl) (fun r_16 b1 H locs hw G => ?_)
    refine zAn2 hw ?_
    intro hbs9 hc_15
    clear hw
    subst hbs9
    have G : zS T A s.heap s [[zO0 h md wy la pc_ a1_1 a2_2 a3_3 a4_4 a5_5 a6_6], [zAr T 0 a1_1 7 f1], [zAr T 0 a2_2 7 f2], [zAr T 0 a3_3 7 f3], [zAr T 0 a4_4 n4 f4], [zAr T 0 a5_5 n4 f5], [zAr T 0 a6_6 n4 f6], [zO4 la cr inn a1_7 a2_8 a3_9 a4_10, zAr T 0 a1_7 7 k1, zAr T 0 a2_8 28 k2, zAr T 0 a3_9 7 k3, zAr T 0 a4_10 7 k4]] _ _ := G
    rcases hc_15 with ⟨rfl, h_17, h_18, h_19, h_20⟩ | ⟨rfl, h_21⟩
    · have h_17 : 0 ≤ u2.toInt := h_17
      have h_18 : u2.toInt < cr.toInt := h_18
      have h_19 : u2.toInt < 7 := h_19
      have h_20 : ¬ zBit inn u2 = 0 := h_20
      have hw_22 : bWays T h la md wy pc_ f1 f2 f3 f4 f5 f6 n4 [zO0 h md wy la pc_ a1_1 a2_2 a3_3 a4_4 a5_5 a6_6, zAr T 0 a1_1 7 f1, zAr T 0 a2_2 7 f2, zAr T 0 a3_3 7 f3, zAr T 0 a4_4 n4 f4, zAr T 0 a5_5 n4 f5, zAr T 0 a6_6 n4 f6] := ⟨a1_1, a2_2, a3_3, a4_4, a5_5, a6_6, rfl⟩
      have G : zS T A s.heap s [[zO0 h md wy la pc_ a1_1 a2_2 a3_3 a4_4 a5_5 a6_6, zAr T 0 a1_1 7 f1, zAr T 0 a2_2 7 f2, zAr T 0 a3_3 7 f3, zAr T 0 a4_4 n4 f4, zAr T 0 a5_5 n4 f5, zAr T 0 a6_6 n4 f6], [zO4 la cr inn a1_7 a2_8 a3_9 a4_10, zAr T 0 a1_7 7 k1, zAr T 0 a2_8 28 k2, zAr T 0 a3_9 7 k3, zAr T 0 a4_10 7 k4]] _ _ := G.re rfl
      exact z_back hQz_ (z_zret C hr hlocks G (Nat.le_of_ble_eq_true rfl) (Nat.le_of_ble_eq_true rfl) dX0_comesByRow_55 rfl ⟨rfl, (by first | exact Or.inl rfl | exact Or.inr rfl)⟩)
    · have h_21 : (u2.toInt < 0 ∨ cr.toInt ≤ u2.toInt ∨ 7 ≤ u2.toInt ∨ zBit inn u2 = 0) := h_21
      have hw_23 : bWays T h la md wy pc_ f1 f2 f3 f4 f5 f6 n4 [zO0 h md wy la pc_ a1_1 a2_2 a3_3 a4_4 a5_5 a6_6, zAr T 0 a1_1 7 f1, zAr T 0 a2_2 7 f2, zAr T 0 a3_3 7 f3, zAr T 0 a4_4 n4 f4, zAr T 0 a5_5 n4 f5, zAr T 0 a6_6 n4 f6] := ⟨a1_1, a2_2, a3_3, a4_4, a5_5, a6_6, rfl⟩
      have G : zS T A s.heap s [[zO0 h md wy la pc_ a1_1 a2_2 a3_3 a4_4 a5_5 a6_6, zAr T 0 a1_1 7 f1, zAr T 0 a2_2 7 f2, zAr T 0 a3_3 7 f3, zAr T 0 a4_4 n4 f4, zAr T 0 a5_5 n4 f5, zAr T 0 a6_6 n4 f6], [zO4 la cr inn a1_7 a2_8 a3_9 a4_10, zAr T 0 a1_7 7 k1, zAr T 0 a2_8 28 k2, zAr T 0 a3_9 7 k3, zAr T 0 a4_10 7 k4]] _ _ := G.re rfl
      exact z_back hQz_ (z_zret C hr hlocks G (Nat.le_of_ble_eq_true rfl) (Nat.le_of_ble_eq_true rfl) dX0_comesByRow_55 rfl ⟨rfl, (by first | exact Or.inl rfl | exact Or.inr rfl)⟩)
  · have c_13n : ¬ cr.toInt ≤ (i : Int) := fun q => c_13 ((fa_le _ _).mpr (by rw [nI_toInt (n := i) (by omega)]; exact q))
    refine lv_aload_n hx hb dX0_comesByRow_15 rfl (lv_at hl 2 rfl) ?_
    refine z_get C G clX0 0 rfl 2 (by decide) m_fl_RX0_14 rfl dX0_comesByRow_16 ?_
    refine lv_iload_n hx hb dX0_comesByRow_19 rfl (lv_at hl 1 rfl) ?_
    have hw_24 : bLand T la cr inn k1 k2 k3 k4 [zO4 la cr inn a1_7 a2_8 a3_9 a4_10, zAr T 0 a1_7 7 k1, zAr T 0 a2_8 28 k2, zAr T 0 a3_9 7 k3, zAr T 0 a4_10 7 k4] := ⟨a1_7, a2_8, a3_9, a4_10, rfl⟩
    have G : zS T A s.heap s [[zO0 h md wy la pc_ a1_1 a2_2 a3_3 a4_4 a5_5 a6_6], [zAr T 0 a1_1 7 f1], [zAr T 0 a2_2 7 f2], [zAr T 0 a3_3 7 f3], [zAr T 0 a4_4 n4 f4], [zAr T 0 a5_5 n4 f5], [zAr T 0 a6_6 n4 f6], [zO4 la cr inn a1_7 a2_8 a3_9 a4_10, zAr T 0 a1_7 7 k1, zAr T 0 a2_8 28 k2, zAr T 0 a3_9 7 k3, zAr T 0 a4_10 7 k4]] _ _ := G.re rfl
    refine z_Vi (bc := [[zO4 la cr inn a1_7 a2_8 a3_9 a4_10, zAr T 0 a1_7 7 k1, zAr T 0 a2_8 28 k2, zAr T 0 a3_9 7 k3, zAr T 0 a4_10 7 k4]]) (br := [[zO0 h md wy la pc_ a1_1 a2_2 a3_3 a4_4 a5_5 a6_6], [zAr T 0 a1_1 7 f1], [zAr T 0 a2_2 7 f2], [zAr T 0 a3_3 7 f3], [zAr T 0 a4_4 n4 f4], [zAr T 0 a5_5 n4 f5], [zAr T 0 a6_6 n4 f6]]) (As := [.int u2]) (rest := []) C G (c_waysOut l T la cr inn k1 k2 k3 k4 ([zO4 la cr inn a1_7 a2_8 a3_9 a4_10, zAr T 0 a1_7 7 k1, zAr T 0 a2_8 28 k2, zAr T 0 a3_9 7 k3, zAr T 0 a4_10 7 k4]) u2 hw_24) (kV_RX0_61 C.2.2.2.2 (Nat.le_of_ble_eq_true rfl) (Nat.le_of_ble_eq_true rfl)) [7] [7] rfl rfl (ci := 4) (qc := (RX4, TX4, 6)) rfl rfl (List.mem_flatten.mpr ⟨_, List.mem_of_getElem? (i := 0) rfl, (bLand_mem hw_24).choose_spec⟩) rfl rfl hl.1 dX0_comesByRow_20 (Nat.le_of_ble_eq_true rfl) (Nat.le_of_ble_eq_true rfl) (fun r_26 b1 H locs hw G => ?_)
    refine zAn2 hw ?_
    intro hbs9 h_25
    clear hw
    subst hbs9
    have G : zS T A s.heap s [[zO0 h md wy la pc_ a1_1 a2_2 a3_3 a4_4 a5_5 a6_6], [zAr T 0 a1_1 7 f1], [zAr T 0 a2_2 7 f2], [zAr T 0 a3_3 7 f3], [zAr T 0 a4_4 n4 f4], [zAr T 0 a5_5 n4 f5], [zAr T 0 a6_6 n4 f6], [zO4 la cr inn a1_7 a2_8 a3_9 a4_10, zAr T 0 a1_7 7 k1, zAr T 0 a2_8 28 k2, zAr T 0 a3_9 7 k3, zAr T 0 a4_10 7 k4]] _ _ := G
    subst h_25
    refine lv_if_le (tgt := 47) hx hb dX0_comesByRow_23 (by decide) (fun c_27 => ?_) (fun c_27 => ?_)
    · have c_27n : (zWays cr inn k1 u2).toInt ≤ (0 : Int) := (fa_le _ _).mp c_27
      refine lv_aload_n hx hb dX0_comesByRow_47 rfl (lv_at hl 2 rfl) ?_
      refine z_get C G clX0 0 rfl 2 (by decide) m_fl_RX0_14 rfl dX0_comesByRow_48 ?_
      refine lv_iload_n hx hb dX0_comesByRow_51 rfl (lv_at hl 1 rfl) ?_
      refine z_Vi (bc := [[zO4 la cr inn a1_7 a2_8 a3_9 a4_10, zAr T 0 a1_7 7 k1, zAr T 0 a2_8 28 k2, zAr T 0 a3_9 7 k3, zAr T 0 a4_10 7 k4]]) (br := [[zO0 h md wy la pc_ a1_1 a2_2 a3_3 a4_4 a5_5 a6_6], [zAr T 0 a1_1 7 f1], [zAr T 0 a2_2 7 f2], [zAr T 0 a3_3 7 f3], [zAr T 0 a4_4 n4 f4], [zAr T 0 a5_5 n4 f5], [zAr T 0 a6_6 n4 f6]]) (As := [.int u2]) (rest := []) C G (c_isInn l T la cr inn k1 k2 k3 k4 ([zO4 la cr inn a1_7 a2_8 a3_9 a4_10, zAr T 0 a1_7 7 k1, zAr T 0 a2_8 28 k2, zAr T 0 a3_9 7 k3, zAr T 0 a4_10 7 k4]) u2 hw_24) (kV_RX0_97 C.2.2.2.2 (Nat.le_of_ble_eq_true rfl) (Nat.le_of_ble_eq_true rfl)) [7] [7] rfl rfl (ci := 4) (qc := (RX4, TX4, 6)) rfl rfl (List.mem_flatten.mpr ⟨_, List.mem_of_getElem? (i := 0) rfl, (bLand_mem hw_24).choose_spec⟩) rfl rfl hl.1 dX0_comesByRow_52 (Nat.le_of_ble_eq_true rfl) (Nat.le_of_ble_eq_true rfl) (fun r_29 b1 H locs hw G => ?_)
      refine zAn2 hw ?_
      intro hbs9 hc_28
      clear hw
      subst hbs9
      have G : zS T A s.heap s [[zO0 h md wy la pc_ a1_1 a2_2 a3_3 a4_4 a5_5 a6_6], [zAr T 0 a1_1 7 f1], [zAr T 0 a2_2 7 f2], [zAr T 0 a3_3 7 f3], [zAr T 0 a4_4 n4 f4], [zAr T 0 a5_5 n4 f5], [zAr T 0 a6_6 n4 f6], [zO4 la cr inn a1_7 a2_8 a3_9 a4_10, zAr T 0 a1_7 7 k1, zAr T 0 a2_8 28 k2, zAr T 0 a3_9 7 k3, zAr T 0 a4_10 7 k4]] _ _ := G
      rcases hc_28 with ⟨rfl, h_30, h_31, h_32, h_33⟩ | ⟨rfl, h_34⟩
      · have h_30 : 0 ≤ u2.toInt := h_30
        have h_31 : u2.toInt < cr.toInt := h_31
        have h_32 : u2.toInt < 7 := h_32
        have h_33 : ¬ zBit inn u2 = 0 := h_33
        have hw_35 : bWays T h la md wy pc_ f1 f2 f3 f4 f5 f6 n4 [zO0 h md wy la pc_ a1_1 a2_2 a3_3 a4_4 a5_5 a6_6, zAr T 0 a1_1 7 f1, zAr T 0 a2_2 7 f2, zAr T 0 a3_3 7 f3, zAr T 0 a4_4 n4 f4, zAr T 0 a5_5 n4 f5, zAr T 0 a6_6 n4 f6] := ⟨a1_1, a2_2, a3_3, a4_4, a5_5, a6_6, rfl⟩
        have G : zS T A s.heap s [[zO0 h md wy la pc_ a1_1 a2_2 a3_3 a4_4 a5_5 a6_6, zAr T 0 a1_1 7 f1, zAr T 0 a2_2 7 f2, zAr T 0 a3_3 7 f3, zAr T 0 a4_4 n4 f4, zAr T 0 a5_5 n4 f5, zAr T 0 a6_6 n4 f6], [zO4 la cr inn a1_7 a2_8 a3_9 a4_10, zAr T 0 a1_7 7 k1, zAr T 0 a2_8 28 k2, zAr T 0 a3_9 7 k3, zAr T 0 a4_10 7 k4]] _ _ := G.re rfl
        exact z_back hQz_ (z_zret C hr hlocks G (Nat.le_of_ble_eq_true rfl) (Nat.le_of_ble_eq_true rfl) dX0_comesByRow_55 rfl ⟨rfl, (by first | exact Or.inl rfl | exact Or.inr rfl)⟩)
      · have h_34 : (u2.toInt < 0 ∨ cr.toInt ≤ u2.toInt ∨ 7 ≤ u2.toInt ∨ zBit inn u2 = 0) := h_34
        have hw_36 : bWays T h la md wy pc_ f1 f2 f3 f4 f5 f6 n4 [zO0 h md wy la pc_ a1_1 a2_2 a3_3 a4_4 a5_5 a6_6, zAr T 0 a1_1 7 f1, zAr T 0 a2_2 7 f2, zAr T 0 a3_3 7 f3, zAr T 0 a4_4 n4 f4, zAr T 0 a5_5 n4 f5, zAr T 0 a6_6 n4 f6] := ⟨a1_1, a2_2, a3_3, a4_4, a5_5, a6_6, rfl⟩
        have G : zS T A s.heap s [[zO0 h md wy la pc_ a1_1 a2_2 a3_3 a4_4 a5_5 a6_6, zAr T 0 a1_1 7 f1, zAr T 0 a2_2 7 f2, zAr T 0 a3_3 7 f3, zAr T 0 a4_4 n4 f4, zAr T 0 a5_5 n4 f5, zAr T 0 a6_6 n4 f6], [zO4 la cr inn a1_7 a2_8 a3_9 a4_10, zAr T 0 a1_7 7 k1, zAr T 0 a2_8 28 k2, zAr T 0 a3_9 7 k3, zAr T 0 a4_10 7 k4]] _ _ := G.re rfl
        exact z_back hQz_ (z_zret C hr hlocks G (Nat.le_of_ble_eq_true rfl) (Nat.le_of_ble_eq_true rfl) dX0_comesByRow_55 rfl ⟨rfl, (by first | exact Or.inl rfl | exact Or.inr rfl)⟩)
    · have c_27n : ¬ (zWays cr inn k1 u2).toInt ≤ (0 : Int) := fun q => c_27 ((fa_le _ _).mpr q)
      have hwi := zWays_in (cr := cr) (inn := inn) (f1 := k1) (x := u2) (fun q => absurd (congrArg Int32.toInt q) (by show ¬ _ = (0 : Int); omega))
      refine lv_aload_n hx hb dX0_comesByRow_26 rfl (lv_at hl 2 rfl) ?_
      refine z_get C G clX0 0 rfl 2 (by decide) m_fl_RX0_14 rfl dX0_comesByRow_27 ?_
      refine lv_iload_n hx hb dX0_comesByRow_30 rfl (lv_at hl 1 rfl) ?_
      refine lv_aload_n hx hb dX0_comesByRow_31 rfl (lv_at hl 2 rfl) ?_
      refine z_get C G clX0 0 rfl 6 (by decide) m_fl_RX0_25 rfl dX0_comesByRow_32 ?_
      refine lv_iload_n hx hb dX0_comesByRow_35 rfl (lv_at hl 1 rfl) ?_
      refine z_ild C G 3 rfl (vp_in_iff.mpr ⟨hwi.1, hwi.2.2.1⟩) dX0_comesByRow_36 ?_
      refine lv_topi (fun v_37 ev_37 => ?_)
      subst ev_37
      refine z_Vi (bc := [[zO4 la cr inn a1_7 a2_8 a3_9 a4_10, zAr T 0 a1_7 7 k1, zAr T 0 a2_8 28 k2, zAr T 0 a3_9 7 k3, zAr T 0 a4_10 7 k4]]) (br := [[zO0 h md wy la pc_ a1_1 a2_2 a3_3 a4_4 a5_5 a6_6], [zAr T 0 a1_1 7 f1], [zAr T 0 a2_2 7 f2], [zAr T 0 a3_3 7 f3], [zAr T 0 a4_4 n4 f4], [zAr T 0 a5_5 n4 f5], [zAr T 0 a6_6 n4 f6]]) (As := [.int u2, .int (f3 u2.toNatClampNeg)]) (rest := []) C G (c_target l T la cr inn k1 k2 k3 k4 ([zO4 la cr inn a1_7 a2_8 a3_9 a4_10, zAr T 0 a1_7 7 k1, zAr T 0 a2_8 28 k2, zAr T 0 a3_9 7 k3, zAr T 0 a4_10 7 k4]) u2 (f3 u2.toNatClampNeg) hw_24) (kV_RX0_84 C.2.2.2.2 (Nat.le_of_ble_eq_true rfl) (Nat.le_of_ble_eq_true rfl)) [7] [7] rfl rfl (ci := 4) (qc := (RX4, TX4, 6)) rfl rfl (List.mem_flatten.mpr ⟨_, List.mem_of_getElem? (i := 0) rfl, (bLand_mem hw_24).choose_spec⟩) rfl rfl hl.1 dX0_comesByRow_37 (Nat.le_of_ble_eq_true rfl) (Nat.le_of_ble_eq_true rfl) (fun r_39 b1 H locs hw G => ?_)
      refine zAn2 hw ?_
      intro hbs9 h_38
      clear hw
      subst hbs9
      have G : zS T A s.heap s [[zO0 h md wy la pc_ a1_1 a2_2 a3_3 a4_4 a5_5 a6_6], [zAr T 0 a1_1 7 f1], [zAr T 0 a2_2 7 f2], [zAr T 0 a3_3 7 f3], [zAr T 0 a4_4 n4 f4], [zAr T 0 a5_5 n4 f5], [zAr T 0 a6_6 n4 f6], [zO4 la cr inn a1_7 a2_8 a3_9 a4_10, zAr T 0 a1_7 7 k1, zAr T 0 a2_8 28 k2, zAr T 0 a3_9 7 k3, zAr T 0 a4_10 7 k4]] _ _ := G
      subst h_38
      refine lv_istore_n (lv' := [(2, .int (zTarget cr k1 k2 u2 (f3 u2.toNatClampNeg))), (3, .int (nI i)), (0, .ref h), (1, .int x)]) hx hb dX0_comesByRow_40 rfl hl (by decide) (zLvf_h rfl) (fun ls hl => ?_)
      refine lv_iinc (v := nI (i + 1)) (lv' := [(3, .int (nI (i + 1))), (2, .int (zTarget cr k1 k2 u2 (f3 u2.toNatClampNeg))), (0, .ref h), (1, .int x)]) hx hb dX0_comesByRow_41 hl (k := 1) rfl (z_inc i 1) (by decide) (zLvf_h rfl) (fun ls hl => ?_)
      refine lv_goto (tgt := 4) hx hb dX0_comesByRow_44 (by decide) ?_
      have hw_40 : bWays T h la md wy pc_ f1 f2 f3 f4 f5 f6 n4 [zO0 h md wy la pc_ a1_1 a2_2 a3_3 a4_4 a5_5 a6_6, zAr T 0 a1_1 7 f1, zAr T 0 a2_2 7 f2, zAr T 0 a3_3 7 f3, zAr T 0 a4_4 n4 f4, zAr T 0 a5_5 n4 f5, zAr T 0 a6_6 n4 f6] := ⟨a1_1, a2_2, a3_3, a4_4, a5_5, a6_6, rfl⟩
      have G : zS T A s.heap s [[zO0 h md wy la pc_ a1_1 a2_2 a3_3 a4_4 a5_5 a6_6, zAr T 0 a1_1 7 f1, zAr T 0 a2_2 7 f2, zAr T 0 a3_3 7 f3, zAr T 0 a4_4 n4 f4, zAr T 0 a5_5 n4 f5, zAr T 0 a6_6 n4 f6], [zO4 la cr inn a1_7 a2_8 a3_9 a4_10, zAr T 0 a1_7 7 k1, zAr T 0 a2_8 28 k2, zAr T 0 a3_9 7 k3, zAr T 0 a4_10 7 k4]] _ _ := G.re rfl
      exact ih_4 (i + 1) (zTarget cr k1 k2 u2 (f3 u2.toNatClampNeg)) (show (i + 1) ≤ cr.toInt.toNat from by omega) (show cr.toInt.toNat - (i + 1) < cr.toInt.toNat - i from by omega) _ _ ls G (lv_sub hl [0, 1, 2, 3] rfl)
set_option maxHeartbeats 4000000 in
set_option maxRecDepth 100000 in
/-- c_allComeByRow -/
theorem c_allComeByRow (l : Launch) (T : zTy) (h : Nat) (la : Nat) (md : Int32) (wy : Int32) (pc_ : Int32) (f1 : Nat → Int32) (f2 : Nat → Int32) (f3 : Nat → Int32) (f4 : Nat → Int32) (f5 : Nat → Int32) (f6 : Nat → Int32) (n4 : Nat) (ww : va_W) (cr : Int32) (inn : Int32) (k1 : Nat → Int32) (k2 : Nat → Int32) (k3 : Nat → Int32) (k4 : Nat → Int32) (z : va_W) (hww : bWays T h la md wy pc_ f1 f2 f3 f4 f5 f6 n4 ww) (hz : bLand T la cr inn k1 k2 k3 k4 z) (hI : zLI cr k1 k3) : zMi l T yX0_allComeByRow cX0_allComeByRow 2 (some .boolean) 4 0 0 [.ref h] [ww, z] (fun (r : Int32) bs => bs = [ww, z] ∧ (r = 0 ∨ r = 1)) := by
  refine zMi_of (own := RX0) (by decide) rfl (Nat.le_of_ble_eq_true rfl) ?_
  intro p e s m args below meth c A ls C hr hlocks hnm hAe G hl
  refine zHide (fun Qz_ hQz_ => ?_)
  have hx := C.1
  have hb := C.2.1
  have hl : lv_has ls 2 [(0, .ref h)] := hl
  have hcr := hI.1
  refine lv_iconst (v := 0) hx hb dX0_allComeByRow_0 (by decide) ?_
  refine lv_istore_n (lv' := [(1, .int 0), (0, .ref h)]) hx hb dX0_allComeByRow_1 rfl hl (by decide) (zLvf_h rfl) (fun ls hl => ?_)
  refine zEx6 hww ?_
  intro a1_1 a2_2 a3_3 a4_4 a5_5 a6_6 hbs9
  clear hww
  subst hbs9
  have G : zS T A s.heap s [[zO0 h md wy la pc_ a1_1 a2_2 a3_3 a4_4 a5_5 a6_6], [zAr T 0 a1_1 7 f1], [zAr T 0 a2_2 7 f2], [zAr T 0 a3_3 7 f3], [zAr T 0 a4_4 n4 f4], [zAr T 0 a5_5 n4 f5], [zAr T 0 a6_6 n4 f6], z] _ _ := G.re rfl
  refine zEx4 hz ?_
  intro a1_7 a2_8 a3_9 a4_10 hbs9
  clear hz
  subst hbs9
  have G : zS T A s.heap s [[zO0 h md wy la pc_ a1_1 a2_2 a3_3 a4_4 a5_5 a6_6], [zAr T 0 a1_1 7 f1], [zAr T 0 a2_2 7 f2], [zAr T 0 a3_3 7 f3], [zAr T 0 a4_4 n4 f4], [zAr T 0 a5_5 n4 f5], [zAr T 0 a6_6 n4 f6], [zO4 la cr inn a1_7 a2_8 a3_9 a4_10], [zAr T 0 a1_7 7 k1], [zAr T 0 a2_8 28 k2], [zAr T 0 a3_9 7 k3], [zAr T 0 a4_10 7 k4]] _ _ := G.re rfl
  have hw_11 : bWays T h la md wy pc_ f1 f2 f3 f4 f5 f6 n4 [zO0 h md wy la pc_ a1_1 a2_2 a3_3 a4_4 a5_5 a6_6, zAr T 0 a1_1 7 f1, zAr T 0 a2_2 7 f2, zAr T 0 a3_3 7 f3, zAr T 0 a4_4 n4 f4, zAr T 0 a5_5 n4 f5, zAr T 0 a6_6 n4 f6] := ⟨a1_1, a2_2, a3_3, a4_4, a5_5, a6_6, rfl⟩
  have G : zS T A s.heap s [[zO0 h md wy la pc_ a1_1 a2_2 a3_3 a4_4 a5_5 a6_6, zAr T 0 a1_1 7 f1, zAr T 0 a2_2 7 f2, zAr T 0 a3_3 7 f3, zAr T 0 a4_4 n4 f4, zAr T 0 a5_5 n4 f5, zAr T 0 a6_6 n4 f6], [zO4 la cr inn a1_7 a2_8 a3_9 a4_10], [zAr T 0 a1_7 7 k1], [zAr T 0 a2_8 28 k2], [zAr T 0 a3_9 7 k3], [zAr T 0 a4_10 7 k4]] _ _ := G.re rfl
  have hw_12 : bLand T la cr inn k1 k2 k3 k4 [zO4 la cr inn a1_7 a2_8 a3_9 a4_10, zAr T 0 a1_7 7 k1, zAr T 0 a2_8 28 k2, zAr T 0 a3_9 7 k3, zAr T 0 a4_10 7 k4] := ⟨a1_7, a2_8, a3_9, a4_10, rfl⟩
  have G : zS T A s.heap s [[zO0 h md wy la pc_ a1_1 a2_2 a3_3 a4_4 a5_5 a6_6, zAr T 0 a1_1 7 f1, zAr T 0 a2_2 7 f2, zAr T 0 a3_3 7 f3, zAr T 0 a4_4 n4 f4, zAr T 0 a5_5 n4 f5, zAr T 0 a6_6 n4 f6], [zO4 la cr inn a1_7 a2_8 a3_9 a4_10, zAr T 0 a1_7 7 k1, zAr T 0 a2_8 28 k2, zAr T 0 a3_9 7 k3, zAr T 0 a4_10 7 k4]] _ _ := G.re rfl
  refine z_lp1 (T := T) 2 (fun (i : Nat) => [[zO0 h md wy la pc_ a1_1 a2_2 a3_3 a4_4 a5_5 a6_6, zAr T 0 a1_1 7 f1, zAr T 0 a2_2 7 f2, zAr T 0 a3_3 7 f3, zAr T 0 a4_4 n4 f4, zAr T 0 a5_5 n4 f5, zAr T 0 a6_6 n4 f6], [zO4 la cr inn a1_7 a2_8 a3_9 a4_10, zAr T 0 a1_7 7 k1, zAr T 0 a2_8 28 k2, zAr T 0 a3_9 7 k3, zAr T 0 a4_10 7 k4]]) (fun (i : Nat) => [(1, .int (nI i)), (0, .ref h)]) (fun (i : Nat) => i ≤ cr.toInt.toNat) (fun (i : Nat) => cr.toInt.toNat - i) ?_ 0 (show 0 ≤ cr.toInt.toNat from by omega) G (lv_sub hl [0, 1] rfl)
  intro i hi ih_2 H locs ls G hl
  replace hi : i ≤ cr.toInt.toNat := hi
  replace G : zS T A s.heap s [[zO0 h md wy la pc_ a1_1 a2_2 a3_3 a4_4 a5_5 a6_6, zAr T 0 a1_1 7 f1, zAr T 0 a2_2 7 f2, zAr T 0 a3_3 7 f3, zAr T 0 a4_4 n4 f4, zAr T 0 a5_5 n4 f5, zAr T 0 a6_6 n4 f6], [zO4 la cr inn a1_7 a2_8 a3_9 a4_10, zAr T 0 a1_7 7 k1, zAr T 0 a2_8 28 k2, zAr T 0 a3_9 7 k3, zAr T 0 a4_10 7 k4]] _ _ := G
  replace hl : lv_has ls 2 [(1, .int (nI i)), (0, .ref h)] := hl
  refine lv_iload_n hx hb dX0_allComeByRow_2 rfl (lv_at hl 0 rfl) ?_
  refine lv_aload_n hx hb dX0_allComeByRow_3 rfl (lv_at hl 1 rfl) ?_
  have G : zS T A s.heap s [[zO0 h md wy la pc_ a1_1 a2_2 a3_3 a4_4 a5_5 a6_6], [zAr T 0 a1_1 7 f1], [zAr T 0 a2_2 7 f2], [zAr T 0 a3_3 7 f3], [zAr T 0 a4_4 n4 f4], [zAr T 0 a5_5 n4 f5], [zAr T 0 a6_6 n4 f6], [zO4 la cr inn a1_7 a2_8 a3_9 a4_10, zAr T 0 a1_7 7 k1, zAr T 0 a2_8 28 k2, zAr T 0 a3_9 7 k3, zAr T 0 a4_10 7 k4]] _ _ := G.re rfl
  refine z_get C G clX0 0 rfl 2 (by decide) m_fl_RX0_14 rfl dX0_allComeByRow_4 ?_
  have G : zS T A s.heap s [[zO0 h md wy la pc_ a1_1 a2_2 a3_3 a4_4 a5_5 a6_6], [zAr T 0 a1_1 7 f1], [zAr T 0 a2_2 7 f2], [zAr T 0 a3_3 7 f3], [zAr T 0 a4_4 n4 f4], [zAr T 0 a5_5 n4 f5], [zAr T 0 a6_6 n4 f6], [zO4 la cr inn a1_7 a2_8 a3_9 a4_10], [zAr T 0 a1_7 7 k1], [zAr T 0 a2_8 28 k2], [zAr T 0 a3_9 7 k3], [zAr T 0 a4_10 7 k4]] _ _ := G.re rfl
  refine z_get C G clX4 7 rfl 0 (by decide) m_fl_RX0_107 rfl dX0_allComeByRow_7 ?_
  refine lv_icmp_ge (tgt := 40) hx hb dX0_allComeByRow_10 (by decide) (fun c_13 => ?_) (fun c_13 => ?_)
  · have c_13n : cr.toInt ≤ (i : Int) := by have q := (fa_le _ _).mp c_13; rw [nI_toInt (n := i) (by omega)] at q; exact q
    refine lv_iconst (v := 1) hx hb dX0_allComeByRow_40 (by decide) ?_
    have hw_14 : bWays T h la md wy pc_ f1 f2 f3 f4 f5 f6 n4 [zO0 h md wy la pc_ a1_1 a2_2 a3_3 a4_4 a5_5 a6_6, zAr T 0 a1_1 7 f1, zAr T 0 a2_2 7 f2, zAr T 0 a3_3 7 f3, zAr T 0 a4_4 n4 f4, zAr T 0 a5_5 n4 f5, zAr T 0 a6_6 n4 f6] := ⟨a1_1, a2_2, a3_3, a4_4, a5_5, a6_6, rfl⟩
    have G : zS T A s.heap s [[zO0 h md wy la pc_ a1_1 a2_2 a3_3 a4_4 a5_5 a6_6, zAr T 0 a1_1 7 f1, zAr T 0 a2_2 7 f2, zAr T 0 a3_3 7 f3, zAr T 0 a4_4 n4 f4, zAr T 0 a5_5 n4 f5, zAr T 0 a6_6 n4 f6], [zO4 la cr inn a1_7 a2_8 a3_9 a4_10], [zAr T 0 a1_7 7 k1], [zAr T 0 a2_8 28 k2], [zAr T 0 a3_9 7 k3], [zAr T 0 a4_10 7 k4]] _ _ := G.re rfl
    have hw_15 : bLand T la cr inn k1 k2 k3 k4 [zO4 la cr inn a1_7 a2_8 a3_9 a4_10, zAr T 0 a1_7 7 k1, zAr T 0 a2_8 28 k2, zAr T 0 a3_9 7 k3, zAr T 0 a4_10 7 k4] := ⟨a1_7, a2_8, a3_9, a4_10, rfl⟩
    have G : zS T A s.heap s [[zO0 h md wy la pc_ a1_1 a2_2 a3_3 a4_4 a5_5 a6_6, zAr T 0 a1_1 7 f1, zAr T 0 a2_2 7 f2, zAr T 0 a3_3 7 f3, zAr T 0 a4_4 n4 f4, zAr T 0 a5_5 n4 f5, zAr T 0 a6_6 n4 f6], [zO4 la cr inn a1_7 a2_8 a3_9 a4_10, zAr T 0 a1_7 7 k1, zAr T 0 a2_8 28 k2, zAr T 0 a3_9 7 k3, zAr T 0 a4_10 7 k4]] _ _ := G.re rfl
    exact z_back hQz_ (z_zret C hr hlocks G (Nat.le_of_ble_eq_true rfl) (Nat.le_of_ble_eq_true rfl) dX0_allComeByRow_41 rfl ⟨rfl, (by first | exact Or.inl rfl | exact Or.inr rfl)⟩)
  · have c_13n : ¬ cr.toInt ≤ (i : Int) := fun q => c_13 ((fa_le _ _).mpr (by rw [nI_toInt (n := i) (by omega)]; exact q))
    refine lv_aload_n hx hb dX0_allComeByRow_13 rfl (lv_at hl 1 rfl) ?_
    refine z_get C G clX0 0 rfl 2 (by decide) m_fl_RX0_14 rfl dX0_allComeByRow_14 ?_
    refine lv_iload_n hx hb dX0_allComeByRow_17 rfl (lv_at hl 0 rfl) ?_
    have hw_16 : bLand T la cr inn k1 k2 k3 k4 [zO4 la cr inn a1_7 a2_8 a3_9 a4_10, zAr T 0 a1_7 7 k1, zAr T 0 a2_8 28 k2, zAr T 0 a3_9 7 k3, zAr T 0 a4_10 7 k4] := ⟨a1_7, a2_8, a3_9, a4_10, rfl⟩
    have G : zS T A s.heap s [[zO0 h md wy la pc_ a1_1 a2_2 a3_3 a4_4 a5_5 a6_6], [zAr T 0 a1_1 7 f1], [zAr T 0 a2_2 7 f2], [zAr T 0 a3_3 7 f3], [zAr T 0 a4_4 n4 f4], [zAr T 0 a5_5 n4 f5], [zAr T 0 a6_6 n4 f6], [zO4 la cr inn a1_7 a2_8 a3_9 a4_10, zAr T 0 a1_7 7 k1, zAr T 0 a2_8 28 k2, zAr T 0 a3_9 7 k3, zAr T 0 a4_10 7 k4]] _ _ := G.re rfl
    refine z_Vi (bc := [[zO4 la cr inn a1_7 a2_8 a3_9 a4_10, zAr T 0 a1_7 7 k1, zAr T 0 a2_8 28 k2, zAr T 0 a3_9 7 k3, zAr T 0 a4_10 7 k4]]) (br := [[zO0 h md wy la pc_ a1_1 a2_2 a3_3 a4_4 a5_5 a6_6], [zAr T 0 a1_1 7 f1], [zAr T 0 a2_2 7 f2], [zAr T 0 a3_3 7 f3], [zAr T 0 a4_4 n4 f4], [zAr T 0 a5_5 n4 f5], [zAr T 0 a6_6 n4 f6]]) (As := [.int (nI i)]) (rest := []) C G (c_waysOut l T la cr inn k1 k2 k3 k4 ([zO4 la cr inn a1_7 a2_8 a3_9 a4_10, zAr T 0 a1_7 7 k1, zAr T 0 a2_8 28 k2, zAr T 0 a3_9 7 k3, zAr T 0 a4_10 7 k4]) (nI i) hw_16) (kV_RX0_61 C.2.2.2.2 (Nat.le_of_ble_eq_true rfl) (Nat.le_of_ble_eq_true rfl)) [7] [7] rfl rfl (ci := 4) (qc := (RX4, TX4, 6)) rfl rfl (List.mem_flatten.mpr ⟨_, List.mem_of_getElem? (i := 0) rfl, (bLand_mem hw_16).choose_spec⟩) rfl rfl hl.1 dX0_allComeByRow_18 (Nat.le_of_ble_eq_true rfl) (Nat.le_of_ble_eq_true rfl) (fun r_18 b1 H locs hw G => ?_)
    refine zAn2 hw ?_
    intro hbs9 h_17
    clear hw
    subst hbs9
    have G : zS T A s.heap s [[zO0 h md wy la pc_ a1_1 a2_2 a3_3 a4_4 a5_5 a6_6], [zAr T 0 a1_1 7 f1], [zAr T 0 a2_2 7 f2], [zAr T 0 a3_3 7 f3], [zAr T 0 a4_4 n4 f4], [zAr T 0 a5_5 n4 f5], [zAr T 0 a6_6 n4 f6], [zO4 la cr inn a1_7 a2_8 a3_9 a4_10, zAr T 0 a1_7 7 k1, zAr T 0 a2_8 28 k2, zAr T 0 a3_9 7 k3, zAr T 0 a4_10 7 k4]] _ _ := G
    subst h_17
    refine lv_if_le (tgt := 34) hx hb dX0_allComeByRow_21 (by decide) (fun c_19 => ?_) (fun c_19 => ?_)
    · have c_19n : (zWays cr inn k1 (nI i)).toInt ≤ (0 : Int) := (fa_le _ _).mp c_19
      refine lv_iinc (v := nI (i + 1)) (lv' := [(1, .int (nI (i + 1))), (0, .ref h)]) hx hb dX0_allComeByRow_34 hl (k := 0) rfl (z_inc i 1) (by decide) (zLvf_h rfl) (fun ls hl => ?_)
      refine lv_goto (tgt := 2) hx hb dX0_allComeByRow_37 (by decide) ?_
      have hw_20 : bWays T h la md wy pc_ f1 f2 f3 f4 f5 f6 n4 [zO0 h md wy la pc_ a1_1 a2_2 a3_3 a4_4 a5_5 a6_6, zAr T 0 a1_1 7 f1, zAr T 0 a2_2 7 f2, zAr T 0 a3_3 7 f3, zAr T 0 a4_4 n4 f4, zAr T 0 a5_5 n4 f5, zAr T 0 a6_6 n4 f6] := ⟨a1_1, a2_2, a3_3, a4_4, a5_5, a6_6, rfl⟩
      have G : zS T A s.heap s [[zO0 h md wy la pc_ a1_1 a2_2 a3_3 a4_4 a5_5 a6_6, zAr T 0 a1_1 7 f1, zAr T 0 a2_2 7 f2, zAr T 0 a3_3 7 f3, zAr T 0 a4_4 n4 f4, zAr T 0 a5_5 n4 f5, zAr T 0 a6_6 n4 f6], [zO4 la cr inn a1_7 a2_8 a3_9 a4_10, zAr T 0 a1_7 7 k1, zAr T 0 a2_8 28 k2, zAr T 0 a3_9 7 k3, zAr T 0 a4_10 7 k4]] _ _ := G.re rfl
      exact ih_2 (i + 1) (show (i + 1) ≤ cr.toInt.toNat from by omega) (show cr.toInt.toNat - (i + 1) < cr.toInt.toNat - i from by omega) _ _ ls G (lv_sub hl [0, 1] rfl)
    · have c_19n : ¬ (zWays cr inn k1 (nI i)).toInt ≤ (0 : Int) := fun q => c_19 ((fa_le _ _).mpr q)
      refine lv_aload_n hx hb dX0_allComeByRow_24 rfl (lv_at hl 1 rfl) ?_
      refine lv_iload_n hx hb dX0_allComeByRow_25 rfl (lv_at hl 0 rfl) ?_
      have hw_21 : bWays T h la md wy pc_ f1 f2 f3 f4 f5 f6 n4 [zO0 h md wy la pc_ a1_1 a2_2 a3_3 a4_4 a5_5 a6_6, zAr T 0 a1_1 7 f1, zAr T 0 a2_2 7 f2, zAr T 0 a3_3 7 f3, zAr T 0 a4_4 n4 f4, zAr T 0 a5_5 n4 f5, zAr T 0 a6_6 n4 f6] := ⟨a1_1, a2_2, a3_3, a4_4, a5_5, a6_6, rfl⟩
      have G : zS T A s.heap s [[zO0 h md wy la pc_ a1_1 a2_2 a3_3 a4_4 a5_5 a6_6, zAr T 0 a1_1 7 f1, zAr T 0 a2_2 7 f2, zAr T 0 a3_3 7 f3, zAr T 0 a4_4 n4 f4, zAr T 0 a5_5 n4 f5, zAr T 0 a6_6 n4 f6], [zO4 la cr inn a1_7 a2_8 a3_9 a4_10, zAr T 0 a1_7 7 k1, zAr T 0 a2_8 28 k2, zAr T 0 a3_9 7 k3, zAr T 0 a4_10 7 k4]] _ _ := G.re rfl
      refine z_Vi (bc := [[zO0 h md wy la pc_ a1_1 a2_2 a3_3 a4_4 a5_5 a6_6, zAr T 0 a1_1 7 f1, zAr T 0 a2_2 7 f2, zAr T 0 a3_3 7 f3, zAr T 0 a4_4 n4 f4, zAr T 0 a5_5 n4 f5, zAr T 0 a6_6 n4 f6], [zO4 la cr inn a1_7 a2_8 a3_9 a4_10, zAr T 0 a1_7 7 k1, zAr T 0 a2_8 28 k2, zAr T 0 a3_9 7 k3, zAr T 0 a4_10 7 k4]]) (br := []) (As := [.int (nI i)]) (rest := []) C G (c_comesByRow l T h la md wy pc_ f1 f2 f3 f4 f5 f6 n4 ([zO0 h md wy la pc_ a1_1 a2_2 a3_3 a4_4 a5_5 a6_6, zAr T 0 a1_1 7 f1, zAr T 0 a2_2 7 f2, zAr T 0 a3_3 7 f3, zAr T 0 a4_4 n4 f4, zAr T 0 a5_5 n4 f5, zAr T 0 a6_6 n4 f6]) cr inn k1 k2 k3 k4 ([zO4 la cr inn a1_7 a2_8 a3_9 a4_10, zAr T 0 a1_7 7 k1, zAr T 0 a2_8 28 k2, zAr T 0 a3_9 7 k3, zAr T 0 a4_10 7 k4]) (nI i) hw_21 hw_16 (by first | with_reducible assumption | with_reducible rfl | omega | assumption | rfl)) (kV_RX0_129 C.2.2.2.2 (Nat.le_of_ble_eq_true rfl) (Nat.le_of_ble_eq_true rfl)) [0, 1] [0, 0] rfl rfl (ci := 0) (qc := (RX0, TX0, 10)) rfl rfl (List.mem_flatten.mpr ⟨_, List.mem_of_getElem? (i := 0) rfl, (bWays_mem hw_21).choose_spec⟩) rfl rfl hl.1 dX0_allComeByRow_26 (Nat.le_of_ble_eq_true rfl) (Nat.le_of_ble_eq_true rfl) (fun r_23 b1 H locs hw G => ?_)
      refine zAn2 hw ?_
      intro hbs9 h_22
      clear hw
      subst hbs9
      have G : zS T A s.heap s [[zO0 h md wy la pc_ a1_1 a2_2 a3_3 a4_4 a5_5 a6_6, zAr T 0 a1_1 7 f1, zAr T 0 a2_2 7 f2, zAr T 0 a3_3 7 f3, zAr T 0 a4_4 n4 f4, zAr T 0 a5_5 n4 f5, zAr T 0 a6_6 n4 f6], [zO4 la cr inn a1_7 a2_8 a3_9 a4_10, zAr T 0 a1_7 7 k1, zAr T 0 a2_8 28 k2, zAr T 0 a3_9 7 k3, zAr T 0 a4_10 7 k4]] _ _ := G
      replace h_22 : zHd ((r_23 = 0 ∨ r_23 = 1)) := h_22
      refine lv_if_ne (tgt := 34) hx hb dX0_allComeByRow_29 (by decide) (fun c_24 => ?_) (fun c_24 => ?_)
      · have c_24n : ¬ r_23.toInt = (0 : Int) := fun q => c_24 ((fa_eq _ _).mpr q)
        refine lv_iinc (v := nI (i + 1)) (lv' := [(1, .int (nI (i + 1))), (0, .ref h)]) hx hb dX0_allComeByRow_34 hl (k := 0) rfl (z_inc i 1) (by decide) (zLvf_h rfl) (fun ls hl => ?_)
        refine lv_goto (tgt := 2) hx hb dX0_allComeByRow_37 (by decide) ?_
        exact ih_2 (i + 1) (show (i + 1) ≤ cr.toInt.toNat from by omega) (show cr.toInt.toNat - (i + 1) < cr.toInt.toNat - i from by omega) _ _ ls G (lv_sub hl [0, 1] rfl)
      · have c_24n : r_23.toInt = (0 : Int) := (fa_eq _ _).mp c_24
        refine lv_iconst (v := 0) hx hb dX0_allComeByRow_32 (by decide) ?_
        exact z_back hQz_ (z_zret C hr hlocks G (Nat.le_of_ble_eq_true rfl) (Nat.le_of_ble_eq_true rfl) dX0_allComeByRow_33 rfl ⟨rfl, (by first | exact Or.inl rfl | exact Or.inr rfl)⟩)
theorem m_ml_RX0_65 : Cond.methodLink RX0 65 Lib.Math.max.name ∈ zT := zmem1 zsub_4 220 rfl rfl
theorem m_ko_RX0_71 : Cond.constant RX0 71 131072 ∈ zT := zmem1 zsub_4 221 rfl rfl
theorem m_co_math_min : Cond.code Lib.Math.min.name Lib.Math.min.code 2 (some .int) ∈ zT := zmem1 zsub_2 236 rfl rfl
theorem m_ml_RX0_72 : Cond.methodLink RX0 72 Lib.Math.min.name ∈ zT := zmem1 zsub_4 222 rfl rfl
theorem m_st_math_min : Cond.static Lib.Math.min.name ∈ zT := zmem1 zsub_2 235 rfl rfl
theorem m_fl_RX0_75 : Cond.fieldLink RX0 75 (TX0 3).1 (TX0 3).2.1 (TX0 3).2.2.1 ∈ zT := zmem1 zsub_2 112 rfl rfl
theorem m_co_X0_countWays : Cond.code yX0_countWays cX0_countWays 3 none ∈ zT := zmem1 zsub_4 218 rfl rfl
theorem m_ml_RX0_41 : Cond.methodLink RX0 41 yX0_countWays ∈ zT := zmem1 zsub_4 215 rfl rfl
theorem m_im_X0_countWays : Cond.instanceMethod yX0_countWays ∈ zT := zmem1 zsub_4 217 rfl rfl
theorem m_se_X0_countWays : Cond.selects RX0 yX0_countWays yX0_countWays ∈ zT := zmem 32 rfl rfl
theorem m_co_X0_allComeByRow : Cond.code yX0_allComeByRow cX0_allComeByRow 2 (some .boolean) ∈ zT := zmem1 zsub_5 64 rfl rfl
theorem m_ml_RX0_122 : Cond.methodLink RX0 122 yX0_allComeByRow ∈ zT := zmem1 zsub_5 61 rfl rfl
theorem m_im_X0_allComeByRow : Cond.instanceMethod yX0_allComeByRow ∈ zT := zmem1 zsub_5 63 rfl rfl
theorem m_se_X0_allComeByRow : Cond.selects RX0 yX0_allComeByRow yX0_allComeByRow ∈ zT := zmem 38 rfl rfl
theorem m_co_X0_nextRow : Cond.code yX0_nextRow cX0_nextRow 2 none ∈ zT := zmem1 zsub_5 73 rfl rfl
theorem m_ml_RX0_126 : Cond.methodLink RX0 126 yX0_nextRow ∈ zT := zmem1 zsub_5 70 rfl rfl
theorem m_im_X0_nextRow : Cond.instanceMethod yX0_nextRow ∈ zT := zmem1 zsub_5 72 rfl rfl
theorem m_se_X0_nextRow : Cond.selects RX0 yX0_nextRow yX0_nextRow ∈ zT := zmem 40 rfl rfl
theorem m_co_X0_turned : Cond.code yX0_turned cX0_turned 4 (some .int) ∈ zT := zmem1 zsub_4 234 rfl rfl
theorem m_ml_RX0_78 : Cond.methodLink RX0 78 yX0_turned ∈ zT := zmem1 zsub_4 231 rfl rfl
theorem m_im_X0_turned : Cond.instanceMethod yX0_turned ∈ zT := zmem1 zsub_4 232 rfl rfl
theorem m_se_X0_turned : Cond.selects RX0 yX0_turned yX0_turned ∈ zT := zmem1 zsub_4 233 rfl rfl
theorem m_co_X0_place : Cond.code yX0_place cX0_place 2 (some .int) ∈ zT := zmem1 zsub_5 2 rfl rfl
theorem m_ml_RX0_87 : Cond.methodLink RX0 87 yX0_place ∈ zT := zmem1 zsub_5 0 rfl rfl
theorem m_st_X0_place : Cond.static yX0_place ∈ zT := zmem1 zsub_5 1 rfl rfl
theorem kV_RX0_41 {R : Room} {s : State} {args : Array Value} {d mc ms : Nat} (hts : ∀ w ∈ zT, w.before args s = true) (h1 : d + 1 ≤ R.frames) (h2 : 8 + (3 + 11) + 40 * d ≤ R.locals) : CallW R s args RX0 RX0 41 yX0_countWays cX0_countWays 3 none (zW yX0_countWays cX0_countWays 3 none) (zR d mc ms) mc ms 1 := z_cwV hts m_co_X0_countWays m_ml_RX0_41 m_im_X0_countWays m_se_X0_countWays m_ii_RX0 (by decide +kernel) h1 h2
theorem kV_RX0_122 {R : Room} {s : State} {args : Array Value} {d mc ms : Nat} (hts : ∀ w ∈ zT, w.before args s = true) (h1 : d + 1 ≤ R.frames) (h2 : 8 + (2 + 11) + 40 * d ≤ R.locals) : CallW R s args RX0 RX0 122 yX0_allComeByRow cX0_allComeByRow 2 (some .boolean) (zW yX0_allComeByRow cX0_allComeByRow 2 (some .boolean)) (zR d mc ms) mc ms 0 := z_cwV hts m_co_X0_allComeByRow m_ml_RX0_122 m_im_X0_allComeByRow m_se_X0_allComeByRow m_ii_RX0 (by decide +kernel) h1 h2
theorem kV_RX0_126 {R : Room} {s : State} {args : Array Value} {d mc ms : Nat} (hts : ∀ w ∈ zT, w.before args s = true) (h1 : d + 1 ≤ R.frames) (h2 : 8 + (2 + 11) + 40 * d ≤ R.locals) : CallW R s args RX0 RX0 126 yX0_nextRow cX0_nextRow 2 none (zW yX0_nextRow cX0_nextRow 2 none) (zR d mc ms) mc ms 0 := z_cwV hts m_co_X0_nextRow m_ml_RX0_126 m_im_X0_nextRow m_se_X0_nextRow m_ii_RX0 (by decide +kernel) h1 h2
theorem kV_RX0_78 {R : Room} {s : State} {args : Array Value} {d mc ms : Nat} (hts : ∀ w ∈ zT, w.before args s = true) (h1 : d + 1 ≤ R.frames) (h2 : 8 + (4 + 11) + 40 * d ≤ R.locals) : CallW R s args RX0 RX0 78 yX0_turned cX0_turned 4 (some .int) (zW yX0_turned cX0_turned 4 (some .int)) (zR d mc ms) mc ms 2 := z_cwV hts m_co_X0_turned m_ml_RX0_78 m_im_X0_turned m_se_X0_turned m_ii_RX0 (by decide +kernel) h1 h2
theorem kS_RX0_87 {R : Room} {s : State} {args : Array Value} {d mc ms : Nat} (hts : ∀ w ∈ zT, w.before args s = true) (h1 : d + 1 ≤ R.frames) (h2 : 8 + (2 + 11) + 40 * d ≤ R.locals) : CallB R s args RX0 87 yX0_place cX0_place 2 (some .int) (zW yX0_place cX0_place 2 (some .int)) (zR d mc ms) mc ms 2 ∧ (Cond.static yX0_place).before args s = true := z_cwS hts m_co_X0_place m_ml_RX0_87 m_st_X0_place m_ii_RX0 (by decide +kernel) h1 h2
theorem dX0_countWays_0 : decode cX0_countWays 0 = .ok (.aload_n 0, 1) := zo_42 (by decide +kernel)
theorem dX0_countWays_1 : decode cX0_countWays 1 = .ok (.aload_n 1, 1) := zo_43 (by decide +kernel)
theorem dX0_countWays_2 : decode cX0_countWays 2 = .ok (.putfield 14, 3) := zo_181 (by decide +kernel)
theorem dX0_countWays_5 : decode cX0_countWays 5 = .ok (.aload_n 0, 1) := zo_42 (by decide +kernel)
theorem dX0_countWays_6 : decode cX0_countWays 6 = .ok (.iconst 1, 1) := zo_4 (by decide +kernel)
theorem dX0_countWays_7 : decode cX0_countWays 7 = .ok (.putfield 57, 3) := zo_181 (by decide +kernel)
theorem dX0_countWays_10 : decode cX0_countWays 10 = .ok (.bipush 6, 2) := zo_16 (by decide +kernel)
theorem dX0_countWays_12 : decode cX0_countWays 12 = .ok (.istore_n 2, 1) := zo_61 (by decide +kernel)
theorem dX0_countWays_13 : decode cX0_countWays 13 = .ok (.iload_n 2, 1) := zo_28 (by decide +kernel)
theorem dX0_countWays_14 : decode cX0_countWays 14 = .ok (.ifCond .lt 49, 3) := zo_155 (by decide +kernel)
theorem dX0_countWays_17 : decode cX0_countWays 17 = .ok (.aload_n 0, 1) := zo_42 (by decide +kernel)
theorem dX0_countWays_18 : decode cX0_countWays 18 = .ok (.getfield 18, 3) := zo_180 (by decide +kernel)
theorem dX0_countWays_21 : decode cX0_countWays 21 = .ok (.iload_n 2, 1) := zo_28 (by decide +kernel)
theorem dX0_countWays_22 : decode cX0_countWays 22 = .ok (.aload_n 1, 1) := zo_43 (by decide +kernel)
theorem dX0_countWays_23 : decode cX0_countWays 23 = .ok (.iload_n 2, 1) := zo_28 (by decide +kernel)
theorem dX0_countWays_24 : decode cX0_countWays 24 = .ok (.invokevirtual 61, 3) := zo_182 (by decide +kernel)
theorem dX0_countWays_27 : decode cX0_countWays 27 = .ok (.iconst 1, 1) := zo_4 (by decide +kernel)
theorem dX0_countWays_28 : decode cX0_countWays 28 = .ok (.invokestatic 65, 3) := zo_184 (by decide +kernel)
theorem dX0_countWays_31 : decode cX0_countWays 31 = .ok (.iastore, 1) := zo_79 (by decide +kernel)
theorem dX0_countWays_32 : decode cX0_countWays 32 = .ok (.aload_n 0, 1) := zo_42 (by decide +kernel)
theorem dX0_countWays_33 : decode cX0_countWays 33 = .ok (.getfield 22, 3) := zo_180 (by decide +kernel)
theorem dX0_countWays_36 : decode cX0_countWays 36 = .ok (.iload_n 2, 1) := zo_28 (by decide +kernel)
theorem dX0_countWays_37 : decode cX0_countWays 37 = .ok (.aload_n 0, 1) := zo_42 (by decide +kernel)
theorem dX0_countWays_38 : decode cX0_countWays 38 = .ok (.getfield 57, 3) := zo_180 (by decide +kernel)
theorem dX0_countWays_41 : decode cX0_countWays 41 = .ok (.iastore, 1) := zo_79 (by decide +kernel)
theorem dX0_countWays_42 : decode cX0_countWays 42 = .ok (.aload_n 0, 1) := zo_42 (by decide +kernel)
theorem dX0_countWays_43 : decode cX0_countWays 43 = .ok (.dup, 1) := zo_89 (by decide +kernel)
theorem dX0_countWays_44 : decode cX0_countWays 44 = .ok (.getfield 57, 3) := zo_180 (by decide +kernel)
theorem dX0_countWays_47 : decode cX0_countWays 47 = .ok (.aload_n 0, 1) := zo_42 (by decide +kernel)
theorem dX0_countWays_48 : decode cX0_countWays 48 = .ok (.getfield 18, 3) := zo_180 (by decide +kernel)
theorem dX0_countWays_51 : decode cX0_countWays 51 = .ok (.iload_n 2, 1) := zo_28 (by decide +kernel)
theorem dX0_countWays_52 : decode cX0_countWays 52 = .ok (.iaload, 1) := zo_46 (by decide +kernel)
theorem dX0_countWays_53 : decode cX0_countWays 53 = .ok (.imul, 1) := zo_104 (by decide +kernel)
theorem dX0_countWays_54 : decode cX0_countWays 54 = .ok (.putfield 57, 3) := zo_181 (by decide +kernel)
theorem dX0_countWays_57 : decode cX0_countWays 57 = .ok (.iinc 2 (-1), 3) := zo_132 (by decide +kernel)
theorem dX0_countWays_60 : decode cX0_countWays 60 = .ok (.goto (-47), 3) := zo_167 (by decide +kernel)
theorem dX0_countWays_63 : decode cX0_countWays 63 = .ok (.aload_n 0, 1) := zo_42 (by decide +kernel)
theorem dX0_countWays_64 : decode cX0_countWays 64 = .ok (.aload_n 0, 1) := zo_42 (by decide +kernel)
theorem dX0_countWays_65 : decode cX0_countWays 65 = .ok (.getfield 57, 3) := zo_180 (by decide +kernel)
theorem dX0_countWays_68 : decode cX0_countWays 68 = .ok (.iconst 3, 1) := zo_6 (by decide +kernel)
theorem dX0_countWays_69 : decode cX0_countWays 69 = .ok (.ishl, 1) := zo_120 (by decide +kernel)
theorem dX0_countWays_70 : decode cX0_countWays 70 = .ok (.ldc 71, 2) := zo_18 (by decide +kernel)
theorem dX0_countWays_72 : decode cX0_countWays 72 = .ok (.invokestatic 72, 3) := zo_184 (by decide +kernel)
theorem dX0_countWays_75 : decode cX0_countWays 75 = .ok (.putfield 75, 3) := zo_181 (by decide +kernel)
theorem dX0_countWays_78 : decode cX0_countWays 78 = .ok (.return_, 1) := zo_177 (by decide +kernel)
theorem dX0_grow_0 : decode cX0_grow 0 = .ok (.aload_n 0, 1) := zo_42 (by decide +kernel)
theorem dX0_grow_1 : decode cX0_grow 1 = .ok (.getfield 31, 3) := zo_180 (by decide +kernel)
theorem dX0_grow_4 : decode cX0_grow 4 = .ok (.arraylength, 1) := zo_190 (by decide +kernel)
theorem dX0_grow_5 : decode cX0_grow 5 = .ok (.aload_n 0, 1) := zo_42 (by decide +kernel)
theorem dX0_grow_6 : decode cX0_grow 6 = .ok (.getfield 75, 3) := zo_180 (by decide +kernel)
theorem dX0_grow_9 : decode cX0_grow 9 = .ok (.if_icmp .lt 4, 3) := zo_161 (by decide +kernel)
theorem dX0_grow_12 : decode cX0_grow 12 = .ok (.return_, 1) := zo_177 (by decide +kernel)
theorem dX0_grow_13 : decode cX0_grow 13 = .ok (.bipush 64, 2) := zo_16 (by decide +kernel)
theorem dX0_grow_15 : decode cX0_grow 15 = .ok (.istore_n 1, 1) := zo_60 (by decide +kernel)
theorem dX0_grow_16 : decode cX0_grow 16 = .ok (.iload_n 1, 1) := zo_27 (by decide +kernel)
theorem dX0_grow_17 : decode cX0_grow 17 = .ok (.aload_n 0, 1) := zo_42 (by decide +kernel)
theorem dX0_grow_18 : decode cX0_grow 18 = .ok (.getfield 75, 3) := zo_180 (by decide +kernel)
theorem dX0_grow_21 : decode cX0_grow 21 = .ok (.if_icmp .ge 16, 3) := zo_162 (by decide +kernel)
theorem dX0_grow_24 : decode cX0_grow 24 = .ok (.iload_n 1, 1) := zo_27 (by decide +kernel)
theorem dX0_grow_25 : decode cX0_grow 25 = .ok (.ldc 71, 2) := zo_18 (by decide +kernel)
theorem dX0_grow_27 : decode cX0_grow 27 = .ok (.if_icmp .ge 10, 3) := zo_162 (by decide +kernel)
theorem dX0_grow_30 : decode cX0_grow 30 = .ok (.iload_n 1, 1) := zo_27 (by decide +kernel)
theorem dX0_grow_31 : decode cX0_grow 31 = .ok (.iconst 2, 1) := zo_5 (by decide +kernel)
theorem dX0_grow_32 : decode cX0_grow 32 = .ok (.imul, 1) := zo_104 (by decide +kernel)
theorem dX0_grow_33 : decode cX0_grow 33 = .ok (.istore_n 1, 1) := zo_60 (by decide +kernel)
theorem dX0_grow_34 : decode cX0_grow 34 = .ok (.goto (-18), 3) := zo_167 (by decide +kernel)
theorem dX0_grow_37 : decode cX0_grow 37 = .ok (.aload_n 0, 1) := zo_42 (by decide +kernel)
theorem dX0_grow_38 : decode cX0_grow 38 = .ok (.iload_n 1, 1) := zo_27 (by decide +kernel)
theorem dX0_grow_39 : decode cX0_grow 39 = .ok (.newarray .int, 2) := by decide +kernel
theorem dX0_grow_41 : decode cX0_grow 41 = .ok (.putfield 28, 3) := zo_181 (by decide +kernel)
theorem dX0_grow_44 : decode cX0_grow 44 = .ok (.aload_n 0, 1) := zo_42 (by decide +kernel)
theorem dX0_grow_45 : decode cX0_grow 45 = .ok (.iload_n 1, 1) := zo_27 (by decide +kernel)
theorem dX0_grow_46 : decode cX0_grow 46 = .ok (.newarray .int, 2) := by decide +kernel
theorem dX0_grow_48 : decode cX0_grow 48 = .ok (.putfield 31, 3) := zo_181 (by decide +kernel)
theorem dX0_grow_51 : decode cX0_grow 51 = .ok (.aload_n 0, 1) := zo_42 (by decide +kernel)
theorem dX0_grow_52 : decode cX0_grow 52 = .ok (.iload_n 1, 1) := zo_27 (by decide +kernel)
theorem dX0_grow_53 : decode cX0_grow 53 = .ok (.newarray .int, 2) := by decide +kernel
theorem dX0_grow_55 : decode cX0_grow 55 = .ok (.putfield 34, 3) := zo_181 (by decide +kernel)
theorem dX0_grow_58 : decode cX0_grow 58 = .ok (.return_, 1) := zo_177 (by decide +kernel)
theorem dX0_nextRow_0 : decode cX0_nextRow 0 = .ok (.bipush 6, 2) := zo_16 (by decide +kernel)
theorem dX0_nextRow_2 : decode cX0_nextRow 2 = .ok (.istore_n 1, 1) := zo_60 (by decide +kernel)
theorem dX0_nextRow_3 : decode cX0_nextRow 3 = .ok (.iload_n 1, 1) := zo_27 (by decide +kernel)
theorem dX0_nextRow_4 : decode cX0_nextRow 4 = .ok (.ifCond .lt 42, 3) := zo_155 (by decide +kernel)
theorem dX0_nextRow_7 : decode cX0_nextRow 7 = .ok (.aload_n 0, 1) := zo_42 (by decide +kernel)
theorem dX0_nextRow_8 : decode cX0_nextRow 8 = .ok (.getfield 25, 3) := zo_180 (by decide +kernel)
theorem dX0_nextRow_11 : decode cX0_nextRow 11 = .ok (.iload_n 1, 1) := zo_27 (by decide +kernel)
theorem dX0_nextRow_12 : decode cX0_nextRow 12 = .ok (.dup2, 1) := zo_92 (by decide +kernel)
theorem dX0_nextRow_13 : decode cX0_nextRow 13 = .ok (.iaload, 1) := zo_46 (by decide +kernel)
theorem dX0_nextRow_14 : decode cX0_nextRow 14 = .ok (.iconst 1, 1) := zo_4 (by decide +kernel)
theorem dX0_nextRow_15 : decode cX0_nextRow 15 = .ok (.iadd, 1) := zo_96 (by decide +kernel)
theorem dX0_nextRow_16 : decode cX0_nextRow 16 = .ok (.iastore, 1) := zo_79 (by decide +kernel)
theorem dX0_nextRow_17 : decode cX0_nextRow 17 = .ok (.aload_n 0, 1) := zo_42 (by decide +kernel)
theorem dX0_nextRow_18 : decode cX0_nextRow 18 = .ok (.getfield 25, 3) := zo_180 (by decide +kernel)
theorem dX0_nextRow_21 : decode cX0_nextRow 21 = .ok (.iload_n 1, 1) := zo_27 (by decide +kernel)
theorem dX0_nextRow_22 : decode cX0_nextRow 22 = .ok (.iaload, 1) := zo_46 (by decide +kernel)
theorem dX0_nextRow_23 : decode cX0_nextRow 23 = .ok (.aload_n 0, 1) := zo_42 (by decide +kernel)
theorem dX0_nextRow_24 : decode cX0_nextRow 24 = .ok (.getfield 18, 3) := zo_180 (by decide +kernel)
theorem dX0_nextRow_27 : decode cX0_nextRow 27 = .ok (.iload_n 1, 1) := zo_27 (by decide +kernel)
theorem dX0_nextRow_28 : decode cX0_nextRow 28 = .ok (.iaload, 1) := zo_46 (by decide +kernel)
theorem dX0_nextRow_29 : decode cX0_nextRow 29 = .ok (.if_icmp .ge 4, 3) := zo_162 (by decide +kernel)
theorem dX0_nextRow_32 : decode cX0_nextRow 32 = .ok (.return_, 1) := zo_177 (by decide +kernel)
theorem dX0_nextRow_33 : decode cX0_nextRow 33 = .ok (.aload_n 0, 1) := zo_42 (by decide +kernel)
theorem dX0_nextRow_34 : decode cX0_nextRow 34 = .ok (.getfield 25, 3) := zo_180 (by decide +kernel)
theorem dX0_nextRow_37 : decode cX0_nextRow 37 = .ok (.iload_n 1, 1) := zo_27 (by decide +kernel)
theorem dX0_nextRow_38 : decode cX0_nextRow 38 = .ok (.iconst 0, 1) := zo_3 (by decide +kernel)
theorem dX0_nextRow_39 : decode cX0_nextRow 39 = .ok (.iastore, 1) := zo_79 (by decide +kernel)
theorem dX0_nextRow_40 : decode cX0_nextRow 40 = .ok (.iinc 1 (-1), 3) := zo_132 (by decide +kernel)
theorem dX0_nextRow_43 : decode cX0_nextRow 43 = .ok (.goto (-40), 3) := zo_167 (by decide +kernel)
theorem dX0_nextRow_46 : decode cX0_nextRow 46 = .ok (.return_, 1) := zo_177 (by decide +kernel)
theorem dX0_treesOf_0 : decode cX0_treesOf 0 = .ok (.aload_n 0, 1) := zo_42 (by decide +kernel)
theorem dX0_treesOf_1 : decode cX0_treesOf 1 = .ok (.aload_n 1, 1) := zo_43 (by decide +kernel)
theorem dX0_treesOf_2 : decode cX0_treesOf 2 = .ok (.invokevirtual 41, 3) := zo_182 (by decide +kernel)
theorem dX0_treesOf_5 : decode cX0_treesOf 5 = .ok (.iconst 0, 1) := zo_3 (by decide +kernel)
theorem dX0_treesOf_6 : decode cX0_treesOf 6 = .ok (.istore_n 2, 1) := zo_61 (by decide +kernel)
theorem dX0_treesOf_7 : decode cX0_treesOf 7 = .ok (.iconst 0, 1) := zo_3 (by decide +kernel)
theorem dX0_treesOf_8 : decode cX0_treesOf 8 = .ok (.istore_n 3, 1) := zo_62 (by decide +kernel)
theorem dX0_treesOf_9 : decode cX0_treesOf 9 = .ok (.iload_n 3, 1) := zo_29 (by decide +kernel)
theorem dX0_treesOf_10 : decode cX0_treesOf 10 = .ok (.bipush 7, 2) := zo_16 (by decide +kernel)
theorem dX0_treesOf_12 : decode cX0_treesOf 12 = .ok (.if_icmp .ge 16, 3) := zo_162 (by decide +kernel)
theorem dX0_treesOf_15 : decode cX0_treesOf 15 = .ok (.aload_n 0, 1) := zo_42 (by decide +kernel)
theorem dX0_treesOf_16 : decode cX0_treesOf 16 = .ok (.getfield 25, 3) := zo_180 (by decide +kernel)
theorem dX0_treesOf_19 : decode cX0_treesOf 19 = .ok (.iload_n 3, 1) := zo_29 (by decide +kernel)
theorem dX0_treesOf_20 : decode cX0_treesOf 20 = .ok (.iconst 0, 1) := zo_3 (by decide +kernel)
theorem dX0_treesOf_21 : decode cX0_treesOf 21 = .ok (.iastore, 1) := zo_79 (by decide +kernel)
theorem dX0_treesOf_22 : decode cX0_treesOf 22 = .ok (.iinc 3 1, 3) := zo_132 (by decide +kernel)
theorem dX0_treesOf_25 : decode cX0_treesOf 25 = .ok (.goto (-16), 3) := zo_167 (by decide +kernel)
theorem dX0_treesOf_28 : decode cX0_treesOf 28 = .ok (.iconst 0, 1) := zo_3 (by decide +kernel)
theorem dX0_treesOf_29 : decode cX0_treesOf 29 = .ok (.istore_n 3, 1) := zo_62 (by decide +kernel)
theorem dX0_treesOf_30 : decode cX0_treesOf 30 = .ok (.iload_n 3, 1) := zo_29 (by decide +kernel)
theorem dX0_treesOf_31 : decode cX0_treesOf 31 = .ok (.aload_n 0, 1) := zo_42 (by decide +kernel)
theorem dX0_treesOf_32 : decode cX0_treesOf 32 = .ok (.getfield 57, 3) := zo_180 (by decide +kernel)
theorem dX0_treesOf_35 : decode cX0_treesOf 35 = .ok (.if_icmp .ge 23, 3) := zo_162 (by decide +kernel)
theorem dX0_treesOf_38 : decode cX0_treesOf 38 = .ok (.aload_n 0, 1) := zo_42 (by decide +kernel)
theorem dX0_treesOf_39 : decode cX0_treesOf 39 = .ok (.invokevirtual 122, 3) := zo_182 (by decide +kernel)
theorem dX0_treesOf_42 : decode cX0_treesOf 42 = .ok (.ifCond .eq 6, 3) := zo_153 (by decide +kernel)
theorem dX0_treesOf_45 : decode cX0_treesOf 45 = .ok (.iinc 2 1, 3) := zo_132 (by decide +kernel)
theorem dX0_treesOf_48 : decode cX0_treesOf 48 = .ok (.aload_n 0, 1) := zo_42 (by decide +kernel)
theorem dX0_treesOf_49 : decode cX0_treesOf 49 = .ok (.invokevirtual 126, 3) := zo_182 (by decide +kernel)
theorem dX0_treesOf_52 : decode cX0_treesOf 52 = .ok (.iinc 3 1, 3) := zo_132 (by decide +kernel)
theorem dX0_treesOf_55 : decode cX0_treesOf 55 = .ok (.goto (-25), 3) := zo_167 (by decide +kernel)
theorem dX0_treesOf_58 : decode cX0_treesOf 58 = .ok (.iload_n 2, 1) := zo_28 (by decide +kernel)
theorem dX0_treesOf_59 : decode cX0_treesOf 59 = .ok (.ireturn, 1) := zo_172 (by decide +kernel)
theorem dX0_stepOnce_0 : decode cX0_stepOnce 0 = .ok (.iconst 0, 1) := zo_3 (by decide +kernel)
theorem dX0_stepOnce_1 : decode cX0_stepOnce 1 = .ok (.istore_n 1, 1) := zo_60 (by decide +kernel)
theorem dX0_stepOnce_2 : decode cX0_stepOnce 2 = .ok (.iload_n 1, 1) := zo_27 (by decide +kernel)
theorem dX0_stepOnce_3 : decode cX0_stepOnce 3 = .ok (.aload_n 0, 1) := zo_42 (by decide +kernel)
theorem dX0_stepOnce_4 : decode cX0_stepOnce 4 = .ok (.getfield 75, 3) := zo_180 (by decide +kernel)
theorem dX0_stepOnce_7 : decode cX0_stepOnce 7 = .ok (.if_icmp .ge 101, 3) := zo_162 (by decide +kernel)
theorem dX0_stepOnce_10 : decode cX0_stepOnce 10 = .ok (.iload_n 1, 1) := zo_27 (by decide +kernel)
theorem dX0_stepOnce_11 : decode cX0_stepOnce 11 = .ok (.aload_n 0, 1) := zo_42 (by decide +kernel)
theorem dX0_stepOnce_12 : decode cX0_stepOnce 12 = .ok (.getfield 28, 3) := zo_180 (by decide +kernel)
theorem dX0_stepOnce_15 : decode cX0_stepOnce 15 = .ok (.arraylength, 1) := zo_190 (by decide +kernel)
theorem dX0_stepOnce_16 : decode cX0_stepOnce 16 = .ok (.if_icmp .ge 92, 3) := zo_162 (by decide +kernel)
theorem dX0_stepOnce_19 : decode cX0_stepOnce 19 = .ok (.iload_n 1, 1) := zo_27 (by decide +kernel)
theorem dX0_stepOnce_20 : decode cX0_stepOnce 20 = .ok (.aload_n 0, 1) := zo_42 (by decide +kernel)
theorem dX0_stepOnce_21 : decode cX0_stepOnce 21 = .ok (.getfield 31, 3) := zo_180 (by decide +kernel)
theorem dX0_stepOnce_24 : decode cX0_stepOnce 24 = .ok (.arraylength, 1) := zo_190 (by decide +kernel)
theorem dX0_stepOnce_25 : decode cX0_stepOnce 25 = .ok (.if_icmp .ge 83, 3) := zo_162 (by decide +kernel)
theorem dX0_stepOnce_28 : decode cX0_stepOnce 28 = .ok (.iload_n 1, 1) := zo_27 (by decide +kernel)
theorem dX0_stepOnce_29 : decode cX0_stepOnce 29 = .ok (.iconst 3, 1) := zo_6 (by decide +kernel)
theorem dX0_stepOnce_30 : decode cX0_stepOnce 30 = .ok (.ishr, 1) := zo_122 (by decide +kernel)
theorem dX0_stepOnce_31 : decode cX0_stepOnce 31 = .ok (.istore_n 2, 1) := zo_61 (by decide +kernel)
theorem dX0_stepOnce_32 : decode cX0_stepOnce 32 = .ok (.iload_n 1, 1) := zo_27 (by decide +kernel)
theorem dX0_stepOnce_33 : decode cX0_stepOnce 33 = .ok (.bipush 7, 2) := zo_16 (by decide +kernel)
theorem dX0_stepOnce_35 : decode cX0_stepOnce 35 = .ok (.iand, 1) := zo_126 (by decide +kernel)
theorem dX0_stepOnce_36 : decode cX0_stepOnce 36 = .ok (.istore_n 3, 1) := zo_62 (by decide +kernel)
theorem dX0_stepOnce_37 : decode cX0_stepOnce 37 = .ok (.aload_n 0, 1) := zo_42 (by decide +kernel)
theorem dX0_stepOnce_38 : decode cX0_stepOnce 38 = .ok (.iload_n 2, 1) := zo_28 (by decide +kernel)
theorem dX0_stepOnce_39 : decode cX0_stepOnce 39 = .ok (.iload_n 3, 1) := zo_29 (by decide +kernel)
theorem dX0_stepOnce_40 : decode cX0_stepOnce 40 = .ok (.invokevirtual 78, 3) := zo_182 (by decide +kernel)
theorem dX0_stepOnce_43 : decode cX0_stepOnce 43 = .ok (.istore 4, 2) := zo_54 (by decide +kernel)
theorem dX0_stepOnce_45 : decode cX0_stepOnce 45 = .ok (.iload 4, 2) := zo_21 (by decide +kernel)
theorem dX0_stepOnce_47 : decode cX0_stepOnce 47 = .ok (.iconst (-1), 1) := zo_2 (by decide +kernel)
theorem dX0_stepOnce_48 : decode cX0_stepOnce 48 = .ok (.if_icmp .ne 13, 3) := zo_160 (by decide +kernel)
theorem dX0_stepOnce_51 : decode cX0_stepOnce 51 = .ok (.aload_n 0, 1) := zo_42 (by decide +kernel)
theorem dX0_stepOnce_52 : decode cX0_stepOnce 52 = .ok (.getfield 28, 3) := zo_180 (by decide +kernel)
theorem dX0_stepOnce_55 : decode cX0_stepOnce 55 = .ok (.iload_n 1, 1) := zo_27 (by decide +kernel)
theorem dX0_stepOnce_56 : decode cX0_stepOnce 56 = .ok (.iload_n 1, 1) := zo_27 (by decide +kernel)
theorem dX0_stepOnce_57 : decode cX0_stepOnce 57 = .ok (.iastore, 1) := zo_79 (by decide +kernel)
theorem dX0_stepOnce_58 : decode cX0_stepOnce 58 = .ok (.goto 32, 3) := zo_167 (by decide +kernel)
theorem dX0_stepOnce_61 : decode cX0_stepOnce 61 = .ok (.aload_n 0, 1) := zo_42 (by decide +kernel)
theorem dX0_stepOnce_62 : decode cX0_stepOnce 62 = .ok (.getfield 28, 3) := zo_180 (by decide +kernel)
theorem dX0_stepOnce_65 : decode cX0_stepOnce 65 = .ok (.iload_n 1, 1) := zo_27 (by decide +kernel)
theorem dX0_stepOnce_66 : decode cX0_stepOnce 66 = .ok (.iload 4, 2) := zo_21 (by decide +kernel)
theorem dX0_stepOnce_68 : decode cX0_stepOnce 68 = .ok (.aload_n 0, 1) := zo_42 (by decide +kernel)
theorem dX0_stepOnce_69 : decode cX0_stepOnce 69 = .ok (.getfield 14, 3) := zo_180 (by decide +kernel)
theorem dX0_stepOnce_72 : decode cX0_stepOnce 72 = .ok (.iload_n 3, 1) := zo_29 (by decide +kernel)
theorem dX0_stepOnce_73 : decode cX0_stepOnce 73 = .ok (.aload_n 0, 1) := zo_42 (by decide +kernel)
theorem dX0_stepOnce_74 : decode cX0_stepOnce 74 = .ok (.iload 4, 2) := zo_21 (by decide +kernel)
theorem dX0_stepOnce_76 : decode cX0_stepOnce 76 = .ok (.iload_n 3, 1) := zo_29 (by decide +kernel)
theorem dX0_stepOnce_77 : decode cX0_stepOnce 77 = .ok (.invokevirtual 81, 3) := zo_182 (by decide +kernel)
theorem dX0_stepOnce_80 : decode cX0_stepOnce 80 = .ok (.invokevirtual 84, 3) := zo_182 (by decide +kernel)
theorem dX0_stepOnce_83 : decode cX0_stepOnce 83 = .ok (.invokestatic 87, 3) := zo_184 (by decide +kernel)
theorem dX0_stepOnce_86 : decode cX0_stepOnce 86 = .ok (.ldc 71, 2) := zo_18 (by decide +kernel)
theorem dX0_stepOnce_88 : decode cX0_stepOnce 88 = .ok (.iadd, 1) := zo_96 (by decide +kernel)
theorem dX0_stepOnce_89 : decode cX0_stepOnce 89 = .ok (.iastore, 1) := zo_79 (by decide +kernel)
theorem dX0_stepOnce_90 : decode cX0_stepOnce 90 = .ok (.aload_n 0, 1) := zo_42 (by decide +kernel)
theorem dX0_stepOnce_91 : decode cX0_stepOnce 91 = .ok (.getfield 31, 3) := zo_180 (by decide +kernel)
theorem dX0_stepOnce_94 : decode cX0_stepOnce 94 = .ok (.iload_n 1, 1) := zo_27 (by decide +kernel)
theorem dX0_stepOnce_95 : decode cX0_stepOnce 95 = .ok (.aload_n 0, 1) := zo_42 (by decide +kernel)
theorem dX0_stepOnce_96 : decode cX0_stepOnce 96 = .ok (.getfield 28, 3) := zo_180 (by decide +kernel)
theorem dX0_stepOnce_99 : decode cX0_stepOnce 99 = .ok (.iload_n 1, 1) := zo_27 (by decide +kernel)
theorem dX0_stepOnce_100 : decode cX0_stepOnce 100 = .ok (.iaload, 1) := zo_46 (by decide +kernel)
theorem dX0_stepOnce_101 : decode cX0_stepOnce 101 = .ok (.iastore, 1) := zo_79 (by decide +kernel)
theorem dX0_stepOnce_102 : decode cX0_stepOnce 102 = .ok (.iinc 1 1, 3) := zo_132 (by decide +kernel)
theorem dX0_stepOnce_105 : decode cX0_stepOnce 105 = .ok (.goto (-103), 3) := zo_167 (by decide +kernel)
theorem dX0_stepOnce_108 : decode cX0_stepOnce 108 = .ok (.return_, 1) := zo_177 (by decide +kernel)
theorem dX0_oneMore_0 : decode cX0_oneMore 0 = .ok (.iconst 0, 1) := zo_3 (by decide +kernel)
theorem dX0_oneMore_1 : decode cX0_oneMore 1 = .ok (.istore_n 1, 1) := zo_60 (by decide +kernel)
theorem dX0_oneMore_2 : decode cX0_oneMore 2 = .ok (.iload_n 1, 1) := zo_27 (by decide +kernel)
theorem dX0_oneMore_3 : decode cX0_oneMore 3 = .ok (.aload_n 0, 1) := zo_42 (by decide +kernel)
theorem dX0_oneMore_4 : decode cX0_oneMore 4 = .ok (.getfield 75, 3) := zo_180 (by decide +kernel)
theorem dX0_oneMore_7 : decode cX0_oneMore 7 = .ok (.if_icmp .ge 59, 3) := zo_162 (by decide +kernel)
theorem dX0_oneMore_10 : decode cX0_oneMore 10 = .ok (.iload_n 1, 1) := zo_27 (by decide +kernel)
theorem dX0_oneMore_11 : decode cX0_oneMore 11 = .ok (.aload_n 0, 1) := zo_42 (by decide +kernel)
theorem dX0_oneMore_12 : decode cX0_oneMore 12 = .ok (.getfield 31, 3) := zo_180 (by decide +kernel)
theorem dX0_oneMore_15 : decode cX0_oneMore 15 = .ok (.arraylength, 1) := zo_190 (by decide +kernel)
theorem dX0_oneMore_16 : decode cX0_oneMore 16 = .ok (.if_icmp .ge 50, 3) := zo_162 (by decide +kernel)
theorem dX0_oneMore_19 : decode cX0_oneMore 19 = .ok (.aload_n 0, 1) := zo_42 (by decide +kernel)
theorem dX0_oneMore_20 : decode cX0_oneMore 20 = .ok (.getfield 31, 3) := zo_180 (by decide +kernel)
theorem dX0_oneMore_23 : decode cX0_oneMore 23 = .ok (.iload_n 1, 1) := zo_27 (by decide +kernel)
theorem dX0_oneMore_24 : decode cX0_oneMore 24 = .ok (.iaload, 1) := zo_46 (by decide +kernel)
theorem dX0_oneMore_25 : decode cX0_oneMore 25 = .ok (.istore_n 2, 1) := zo_61 (by decide +kernel)
theorem dX0_oneMore_26 : decode cX0_oneMore 26 = .ok (.iload_n 2, 1) := zo_28 (by decide +kernel)
theorem dX0_oneMore_27 : decode cX0_oneMore 27 = .ok (.ldc 90, 2) := zo_18 (by decide +kernel)
theorem dX0_oneMore_29 : decode cX0_oneMore 29 = .ok (.iand, 1) := zo_126 (by decide +kernel)
theorem dX0_oneMore_30 : decode cX0_oneMore 30 = .ok (.istore_n 3, 1) := zo_62 (by decide +kernel)
theorem dX0_oneMore_31 : decode cX0_oneMore 31 = .ok (.aload_n 0, 1) := zo_42 (by decide +kernel)
theorem dX0_oneMore_32 : decode cX0_oneMore 32 = .ok (.getfield 31, 3) := zo_180 (by decide +kernel)
theorem dX0_oneMore_35 : decode cX0_oneMore 35 = .ok (.iload_n 1, 1) := zo_27 (by decide +kernel)
theorem dX0_oneMore_36 : decode cX0_oneMore 36 = .ok (.iload_n 3, 1) := zo_29 (by decide +kernel)
theorem dX0_oneMore_37 : decode cX0_oneMore 37 = .ok (.aload_n 0, 1) := zo_42 (by decide +kernel)
theorem dX0_oneMore_38 : decode cX0_oneMore 38 = .ok (.getfield 28, 3) := zo_180 (by decide +kernel)
theorem dX0_oneMore_41 : decode cX0_oneMore 41 = .ok (.arraylength, 1) := zo_190 (by decide +kernel)
theorem dX0_oneMore_42 : decode cX0_oneMore 42 = .ok (.if_icmp .ge 16, 3) := zo_162 (by decide +kernel)
theorem dX0_oneMore_45 : decode cX0_oneMore 45 = .ok (.aload_n 0, 1) := zo_42 (by decide +kernel)
theorem dX0_oneMore_46 : decode cX0_oneMore 46 = .ok (.getfield 28, 3) := zo_180 (by decide +kernel)
theorem dX0_oneMore_49 : decode cX0_oneMore 49 = .ok (.iload_n 3, 1) := zo_29 (by decide +kernel)
theorem dX0_oneMore_50 : decode cX0_oneMore 50 = .ok (.iaload, 1) := zo_46 (by decide +kernel)
theorem dX0_oneMore_51 : decode cX0_oneMore 51 = .ok (.iload_n 2, 1) := zo_28 (by decide +kernel)
theorem dX0_oneMore_52 : decode cX0_oneMore 52 = .ok (.iload_n 3, 1) := zo_29 (by decide +kernel)
theorem dX0_oneMore_53 : decode cX0_oneMore 53 = .ok (.isub, 1) := zo_100 (by decide +kernel)
theorem dX0_oneMore_54 : decode cX0_oneMore 54 = .ok (.iadd, 1) := zo_96 (by decide +kernel)
theorem dX0_oneMore_55 : decode cX0_oneMore 55 = .ok (.goto 4, 3) := zo_167 (by decide +kernel)
theorem dX0_oneMore_59 : decode cX0_oneMore 59 = .ok (.iastore, 1) := zo_79 (by decide +kernel)
theorem dX0_oneMore_60 : decode cX0_oneMore 60 = .ok (.iinc 1 1, 3) := zo_132 (by decide +kernel)
theorem dX0_oneMore_63 : decode cX0_oneMore 63 = .ok (.goto (-61), 3) := zo_167 (by decide +kernel)
theorem dX0_oneMore_66 : decode cX0_oneMore 66 = .ok (.return_, 1) := zo_177 (by decide +kernel)
theorem dX0_doubleAll_0 : decode cX0_doubleAll 0 = .ok (.aload_n 0, 1) := zo_42 (by decide +kernel)
theorem dX0_doubleAll_1 : decode cX0_doubleAll 1 = .ok (.getfield 31, 3) := zo_180 (by decide +kernel)
theorem dX0_doubleAll_4 : decode cX0_doubleAll 4 = .ok (.astore_n 1, 1) := zo_76 (by decide +kernel)
theorem dX0_doubleAll_5 : decode cX0_doubleAll 5 = .ok (.aload_n 0, 1) := zo_42 (by decide +kernel)
theorem dX0_doubleAll_6 : decode cX0_doubleAll 6 = .ok (.getfield 34, 3) := zo_180 (by decide +kernel)
theorem dX0_doubleAll_9 : decode cX0_doubleAll 9 = .ok (.astore_n 2, 1) := zo_77 (by decide +kernel)
theorem dX0_doubleAll_10 : decode cX0_doubleAll 10 = .ok (.iconst 0, 1) := zo_3 (by decide +kernel)
theorem dX0_doubleAll_11 : decode cX0_doubleAll 11 = .ok (.istore_n 3, 1) := zo_62 (by decide +kernel)
theorem dX0_doubleAll_12 : decode cX0_doubleAll 12 = .ok (.iload_n 3, 1) := zo_29 (by decide +kernel)
theorem dX0_doubleAll_13 : decode cX0_doubleAll 13 = .ok (.aload_n 0, 1) := zo_42 (by decide +kernel)
theorem dX0_doubleAll_14 : decode cX0_doubleAll 14 = .ok (.getfield 75, 3) := zo_180 (by decide +kernel)
theorem dX0_doubleAll_17 : decode cX0_doubleAll 17 = .ok (.if_icmp .ge 58, 3) := zo_162 (by decide +kernel)
theorem dX0_doubleAll_20 : decode cX0_doubleAll 20 = .ok (.iload_n 3, 1) := zo_29 (by decide +kernel)
theorem dX0_doubleAll_21 : decode cX0_doubleAll 21 = .ok (.aload_n 1, 1) := zo_43 (by decide +kernel)
theorem dX0_doubleAll_22 : decode cX0_doubleAll 22 = .ok (.arraylength, 1) := zo_190 (by decide +kernel)
theorem dX0_doubleAll_23 : decode cX0_doubleAll 23 = .ok (.if_icmp .ge 52, 3) := zo_162 (by decide +kernel)
theorem dX0_doubleAll_26 : decode cX0_doubleAll 26 = .ok (.iload_n 3, 1) := zo_29 (by decide +kernel)
theorem dX0_doubleAll_27 : decode cX0_doubleAll 27 = .ok (.aload_n 2, 1) := zo_44 (by decide +kernel)
theorem dX0_doubleAll_28 : decode cX0_doubleAll 28 = .ok (.arraylength, 1) := zo_190 (by decide +kernel)
theorem dX0_doubleAll_29 : decode cX0_doubleAll 29 = .ok (.if_icmp .ge 46, 3) := zo_162 (by decide +kernel)
theorem dX0_doubleAll_32 : decode cX0_doubleAll 32 = .ok (.aload_n 1, 1) := zo_43 (by decide +kernel)
theorem dX0_doubleAll_33 : decode cX0_doubleAll 33 = .ok (.iload_n 3, 1) := zo_29 (by decide +kernel)
theorem dX0_doubleAll_34 : decode cX0_doubleAll 34 = .ok (.iaload, 1) := zo_46 (by decide +kernel)
theorem dX0_doubleAll_35 : decode cX0_doubleAll 35 = .ok (.istore 4, 2) := zo_54 (by decide +kernel)
theorem dX0_doubleAll_37 : decode cX0_doubleAll 37 = .ok (.iload 4, 2) := zo_21 (by decide +kernel)
theorem dX0_doubleAll_39 : decode cX0_doubleAll 39 = .ok (.ldc 90, 2) := zo_18 (by decide +kernel)
theorem dX0_doubleAll_41 : decode cX0_doubleAll 41 = .ok (.iand, 1) := zo_126 (by decide +kernel)
theorem dX0_doubleAll_42 : decode cX0_doubleAll 42 = .ok (.istore 5, 2) := zo_54 (by decide +kernel)
theorem dX0_doubleAll_44 : decode cX0_doubleAll 44 = .ok (.aload_n 2, 1) := zo_44 (by decide +kernel)
theorem dX0_doubleAll_45 : decode cX0_doubleAll 45 = .ok (.iload_n 3, 1) := zo_29 (by decide +kernel)
theorem dX0_doubleAll_46 : decode cX0_doubleAll 46 = .ok (.iload 5, 2) := zo_21 (by decide +kernel)
theorem dX0_doubleAll_48 : decode cX0_doubleAll 48 = .ok (.aload_n 1, 1) := zo_43 (by decide +kernel)
theorem dX0_doubleAll_49 : decode cX0_doubleAll 49 = .ok (.arraylength, 1) := zo_190 (by decide +kernel)
theorem dX0_doubleAll_50 : decode cX0_doubleAll 50 = .ok (.if_icmp .ge 16, 3) := zo_162 (by decide +kernel)
theorem dX0_doubleAll_53 : decode cX0_doubleAll 53 = .ok (.aload_n 1, 1) := zo_43 (by decide +kernel)
theorem dX0_doubleAll_54 : decode cX0_doubleAll 54 = .ok (.iload 5, 2) := zo_21 (by decide +kernel)
theorem dX0_doubleAll_56 : decode cX0_doubleAll 56 = .ok (.iaload, 1) := zo_46 (by decide +kernel)
theorem dX0_doubleAll_57 : decode cX0_doubleAll 57 = .ok (.iload 4, 2) := zo_21 (by decide +kernel)
theorem dX0_doubleAll_59 : decode cX0_doubleAll 59 = .ok (.iload 5, 2) := zo_21 (by decide +kernel)
theorem dX0_doubleAll_61 : decode cX0_doubleAll 61 = .ok (.isub, 1) := zo_100 (by decide +kernel)
theorem dX0_doubleAll_62 : decode cX0_doubleAll 62 = .ok (.iadd, 1) := zo_96 (by decide +kernel)
theorem dX0_doubleAll_63 : decode cX0_doubleAll 63 = .ok (.goto 5, 3) := zo_167 (by decide +kernel)
theorem dX0_doubleAll_68 : decode cX0_doubleAll 68 = .ok (.iastore, 1) := zo_79 (by decide +kernel)
theorem dX0_doubleAll_69 : decode cX0_doubleAll 69 = .ok (.iinc 3 1, 3) := zo_132 (by decide +kernel)
theorem dX0_doubleAll_72 : decode cX0_doubleAll 72 = .ok (.goto (-60), 3) := zo_167 (by decide +kernel)
theorem dX0_doubleAll_75 : decode cX0_doubleAll 75 = .ok (.aload_n 0, 1) := zo_42 (by decide +kernel)
theorem dX0_doubleAll_76 : decode cX0_doubleAll 76 = .ok (.aload_n 2, 1) := zo_44 (by decide +kernel)
theorem dX0_doubleAll_77 : decode cX0_doubleAll 77 = .ok (.putfield 31, 3) := zo_181 (by decide +kernel)
theorem dX0_doubleAll_80 : decode cX0_doubleAll 80 = .ok (.aload_n 0, 1) := zo_42 (by decide +kernel)
theorem dX0_doubleAll_81 : decode cX0_doubleAll 81 = .ok (.aload_n 1, 1) := zo_43 (by decide +kernel)
theorem dX0_doubleAll_82 : decode cX0_doubleAll 82 = .ok (.putfield 34, 3) := zo_181 (by decide +kernel)
theorem dX0_doubleAll_85 : decode cX0_doubleAll 85 = .ok (.return_, 1) := zo_177 (by decide +kernel)
def zCh (cr inn : Int32) (k1 : Nat → Int32) (x : Int32) : Int32 := if zWays cr inn k1 x < 1 then 1 else zWays cr inn k1 x
def zWyN (cr inn : Int32) (k1 : Nat → Int32) : Nat → Int32
  | 0 => 1
  | 1 => 1 * zCh cr inn k1 6
  | 2 => 1 * zCh cr inn k1 6 * zCh cr inn k1 5
  | 3 => 1 * zCh cr inn k1 6 * zCh cr inn k1 5 * zCh cr inn k1 4
  | 4 => 1 * zCh cr inn k1 6 * zCh cr inn k1 5 * zCh cr inn k1 4 * zCh cr inn k1 3
  | 5 => 1 * zCh cr inn k1 6 * zCh cr inn k1 5 * zCh cr inn k1 4 * zCh cr inn k1 3 * zCh cr inn k1 2
  | 6 => 1 * zCh cr inn k1 6 * zCh cr inn k1 5 * zCh cr inn k1 4 * zCh cr inn k1 3 * zCh cr inn k1 2 * zCh cr inn k1 1
  | _ => 1 * zCh cr inn k1 6 * zCh cr inn k1 5 * zCh cr inn k1 4 * zCh cr inn k1 3 * zCh cr inn k1 2 * zCh cr inn k1 1 * zCh cr inn k1 0
def zWy (cr inn : Int32) (k1 : Nat → Int32) : Int32 := zWyN cr inn k1 7
def zPl (cr inn : Int32) (k1 : Nat → Int32) : Int32 := if (131072 : Int32) < zWy cr inn k1 <<< (3 &&& 31) then 131072 else zWy cr inn k1 <<< (3 &&& 31)
theorem zPl_le (cr inn : Int32) (k1 : Nat → Int32) : (zPl cr inn k1).toInt ≤ 131072 := by
  unfold zPl
  split
  · decide
  · rename_i q
    exact Int.not_lt.mp (fun z => q ((fa_lt _ _).mpr z))
/-- how long the rows are made -/
def zLenN (pl : Int32) : Nat → Nat → Nat
  | 0, L => L
  | k + 1, L => if (L : Int) < pl.toInt ∧ L < 131072 then zLenN pl k (2 * L) else L
def zNl (n : Nat) (pl : Int32) : Nat := if pl.toInt ≤ n then n else zLenN pl 12 64
def zPw (n : Nat) : Prop := n = 0 ∨ ∃ k, k ≤ 11 ∧ n = 64 * 2 ^ k
theorem zLenN_pw {pl : Int32} : ∀ (f k : Nat), k ≤ 11 → 11 ≤ f + k → ∃ j, k ≤ j ∧ j ≤ 11 ∧ zLenN pl f (64 * 2 ^ k) = 64 * 2 ^ j
  | 0, k, h, h2 => ⟨k, Nat.le_refl _, h, rfl⟩
  | f + 1, k, h, h2 => by
    rw [zLenN]
    split
    · rename_i q
      have hk : k < 11 := by
        rcases Nat.lt_or_ge k 11 with z | z
        · exact z
        · have e : k = 11 := by omega
          subst e
          exact absurd q.2 (by decide)
      rw [show 2 * (64 * 2 ^ k) = 64 * 2 ^ (k + 1) by rw [Nat.pow_succ]; omega]
      obtain ⟨j, h3, h4, h5⟩ := zLenN_pw f (k + 1) (by omega) (by omega)
      exact ⟨j, by omega, h4, h5⟩
    · exact ⟨k, Nat.le_refl _, h, rfl⟩
theorem zLenN_ge {pl : Int32} (hp : pl.toInt ≤ 131072) : ∀ (f k : Nat), k ≤ 11 → 12 ≤ f + k → pl.toInt ≤ (zLenN pl f (64 * 2 ^ k) : Nat)
  | 0, k, h, h2 => by omega
  | f + 1, k, h, h2 => by
    rw [zLenN]
    split
    · rename_i q
      have hk : k < 11 := by
        rcases Nat.lt_or_ge k 11 with z | z
        · exact z
        · have e : k = 11 := by omega
          subst e
          exact absurd q.2 (by decide)
      rw [show 2 * (64 * 2 ^ k) = 64 * 2 ^ (k + 1) by rw [Nat.pow_succ]; omega]
      exact zLenN_ge hp f (k + 1) (by omega) (by omega)
    · rename_i q
      by_cases z : (64 * 2 ^ k : Nat) < 131072
      · by_cases y : ((64 * 2 ^ k : Nat) : Int) < pl.toInt
        · exact absurd ⟨y, z⟩ q
        · omega
      · omega
theorem zPw_le {n : Nat} (h : zPw n) : n ≤ 131072 := by
  rcases h with h | ⟨k, h1, h2⟩
  · omega
  · have h3 : 2 ^ k ≤ 2 ^ 11 := Nat.pow_le_pow_right (by decide) h1
    rw [h2]
    omega
theorem zNl_pw {n : Nat} {pl : Int32} (h : zPw n) : zPw (zNl n pl) := by
  unfold zNl
  split
  · exact h
  · obtain ⟨j, h1, h2, h3⟩ := zLenN_pw (pl := pl) 12 0 (by decide) (by decide)
    exact Or.inr ⟨j, h2, h3⟩
theorem zNl_room {n : Nat} {pl : Int32} (h : zPw n) (hp : pl.toInt ≤ 131072) (hg : ¬ pl.toInt ≤ n) : 2 * n ≤ zLenN pl 12 64 := by
  have h0 := zLenN_ge hp 12 0 (by decide) (by decide)
  obtain ⟨j, h1, h2, h3⟩ := zLenN_pw (pl := pl) 12 0 (by decide) (by decide)
  have e : (64 * 2 ^ 0 : Nat) = 64 := by decide
  rw [e] at h0 h3
  rcases h with h | ⟨k, k1, k2⟩
  · omega
  · rw [h3] at h0 ⊢
    rw [k2] at hg ⊢
    have hlt : 64 * 2 ^ k < 64 * 2 ^ j := by omega
    have hkj : k < j := by
      rcases Nat.lt_or_ge k j with z | z
      · exact z
      · have := Nat.pow_le_pow_right (n := 2) (by decide) z
        omega
    have h5 : 2 ^ (k + 1) ≤ 2 ^ j := Nat.pow_le_pow_right (by decide) hkj
    rw [Nat.pow_succ] at h5
    omega
theorem z_k11 {k L : Nat} (hk : k ≤ 11) (hL : L = 64 * 2 ^ k) (h : L < 131072) : k + 1 ≤ 11 := by
  rcases Nat.lt_or_ge k 11 with z | z
  · omega
  · have e : k = 11 := by omega
    subst e
    omega
theorem z_k11b {k L : Nat} (hk : k ≤ 11) (hL : L = 64 * 2 ^ k) (h : L < 131072) : L * 2 ≤ 131072 := by
  have h1 := z_k11 hk hL h
  have h2 : 2 ^ (k + 1) ≤ 2 ^ 11 := Nat.pow_le_pow_right (by decide) h1
  rw [Nat.pow_succ] at h2
  omega
set_option maxHeartbeats 4000000 in
set_option maxRecDepth 100000 in
/-- grow -/
theorem c_Ways_grow (l : Launch) (T : zTy) (h : Nat) (la : Nat) (md : Int32) (wy : Int32) (pc_ : Int32) (f1 : Nat → Int32) (f2 : Nat → Int32) (f3 : Nat → Int32) (f4 : Nat → Int32) (f5 : Nat → Int32) (f6 : Nat → Int32) (n4 : Nat) (ww : va_W) (hww : bWays T h la md wy pc_ f1 f2 f3 f4 f5 f6 n4 ww) (hpw : zPw n4) (hpl : pc_.toInt ≤ 131072) : zMv l T yX0_grow cX0_grow 2 1 3 (6 * (zNl n4 pc_ - n4)) [.ref h] [ww] (fun bs => ∃ (w2 : va_W) (g4 : Nat → Int32) (g5 : Nat → Int32) (g6 : Nat → Int32), bs = [w2] ∧ bWays T h la md wy pc_ f1 f2 f3 g4 g5 g6 (zNl n4 pc_) w2) := by
  refine zMv_of (own := RX0) (by decide) rfl (Nat.le_of_ble_eq_true rfl) ?_
  intro p e s m args below meth c A ls C hr hlocks hnm hAe G hl
  refine zHide (fun Qz_ hQz_ => ?_)
  have hx := C.1
  have hb := C.2.1
  have hl : lv_has ls 2 [(0, .ref h)] := hl
  have hn4 := zPw_le hpw
  refine lv_aload_n hx hb dX0_grow_0 rfl (lv_at hl 0 rfl) ?_
  refine zEx6 hww ?_
  intro a1_1 a2_2 a3_3 a4_4 a5_5 a6_6 hbs9
  clear hww
  subst hbs9
  have G : zS T A s.heap s [[zO0 h md wy la pc_ a1_1 a2_2 a3_3 a4_4 a5_5 a6_6], [zAr T 0 a1_1 7 f1], [zAr T 0 a2_2 7 f2], [zAr T 0 a3_3 7 f3], [zAr T 0 a4_4 n4 f4], [zAr T 0 a5_5 n4 f5], [zAr T 0 a6_6 n4 f6]] _ _ := G.re rfl
  refine z_get C G clX0 0 rfl 8 (by decide) m_fl_RX0_31 rfl dX0_grow_1 ?_
  refine z_alen C G 5 0 rfl (v := nI n4) rfl rfl dX0_grow_4 ?_
  refine lv_aload_n hx hb dX0_grow_5 rfl (lv_at hl 0 rfl) ?_
  refine z_get C G clX0 0 rfl 3 (by decide) m_fl_RX0_75 rfl dX0_grow_6 ?_
  refine lv_icmp_lt (tgt := 13) hx hb dX0_grow_9 (by decide) (fun c_7 => ?_) (fun c_7 => ?_)
  · have c_7n : (n4 : Int) < pc_.toInt := by have q := (fa_lt _ _).mp c_7; rw [nI_toInt (n := n4) (by omega)] at q; exact q
    have hng : ¬ pc_.toInt ≤ (n4 : Int) := by omega
    have hE : zNl n4 pc_ = zLenN pc_ 12 64 := by unfold zNl; rw [if_neg hng]
    have hR := zNl_room hpw hpl hng
    refine lv_bipush (v := 64) hx hb dX0_grow_13 (by decide) ?_
    refine lv_istore_n (lv' := [(1, .int 64), (0, .ref h)]) hx hb dX0_grow_15 rfl hl (by decide) (zLvf_h rfl) (fun ls hl => ?_)
    have hw_8 : bWays T h la md wy pc_ f1 f2 f3 f4 f5 f6 n4 [zO0 h md wy la pc_ a1_1 a2_2 a3_3 a4_4 a5_5 a6_6, zAr T 0 a1_1 7 f1, zAr T 0 a2_2 7 f2, zAr T 0 a3_3 7 f3, zAr T 0 a4_4 n4 f4, zAr T 0 a5_5 n4 f5, zAr T 0 a6_6 n4 f6] := ⟨a1_1, a2_2, a3_3, a4_4, a5_5, a6_6, rfl⟩
    have G : zS T A s.heap s [[zO0 h md wy la pc_ a1_1 a2_2 a3_3 a4_4 a5_5 a6_6, zAr T 0 a1_1 7 f1, zAr T 0 a2_2 7 f2, zAr T 0 a3_3 7 f3, zAr T 0 a4_4 n4 f4, zAr T 0 a5_5 n4 f5, zAr T 0 a6_6 n4 f6]] _ _ := G.re rfl
    refine z_lp2 (T := T) 16 (fun (k : Nat) (L : Nat) => [[zO0 h md wy la pc_ a1_1 a2_2 a3_3 a4_4 a5_5 a6_6, zAr T 0 a1_1 7 f1, zAr T 0 a2_2 7 f2, zAr T 0 a3_3 7 f3, zAr T 0 a4_4 n4 f4, zAr T 0 a5_5 n4 f5, zAr T 0 a6_6 n4 f6]]) (fun (k : Nat) (L : Nat) => [(1, .int (nI L)), (0, .ref h)]) (fun (k : Nat) (L : Nat) => k ≤ 11 ∧ L = 64 * 2 ^ k ∧ zLenN pc_ 12 64 = zLenN pc_ (12 - k) L ∧ L ≤ 131072) (fun (k : Nat) (L : Nat) => 12 - k) ?_ 0 64 (show 0 ≤ 11 ∧ 64 = 64 * 2 ^ 0 ∧ zLenN pc_ 12 64 = zLenN pc_ (12 - 0) 64 ∧ 64 ≤ 131072 from ⟨by omega, rfl, rfl, by omega⟩) G (lv_sub hl [0, 1] rfl)
    intro k L hI9 ih_16 H locs ls G hl
    replace hI9 : k ≤ 11 ∧ L = 64 * 2 ^ k ∧ zLenN pc_ 12 64 = zLenN pc_ (12 - k) L ∧ L ≤ 131072 := hI9
    refine zAn4 hI9 ?_
    intro hk hL hG hL2
    clear hI9
    replace G : zS T A s.heap s [[zO0 h md wy la pc_ a1_1 a2_2 a3_3 a4_4 a5_5 a6_6, zAr T 0 a1_1 7 f1, zAr T 0 a2_2 7 f2, zAr T 0 a3_3 7 f3, zAr T 0 a4_4 n4 f4, zAr T 0 a5_5 n4 f5, zAr T 0 a6_6 n4 f6]] _ _ := G
    replace hl : lv_has ls 2 [(1, .int (nI L)), (0, .ref h)] := hl
    refine lv_iload_n hx hb dX0_grow_16 rfl (lv_at hl 0 rfl) ?_
    refine lv_aload_n hx hb dX0_grow_17 rfl (lv_at hl 1 rfl) ?_
    have G : zS T A s.heap s [[zO0 h md wy la pc_ a1_1 a2_2 a3_3 a4_4 a5_5 a6_6], [zAr T 0 a1_1 7 f1], [zAr T 0 a2_2 7 f2], [zAr T 0 a3_3 7 f3], [zAr T 0 a4_4 n4 f4], [zAr T 0 a5_5 n4 f5], [zAr T 0 a6_6 n4 f6]] _ _ := G.re rfl
    refine z_get C G clX0 0 rfl 3 (by decide) m_fl_RX0_75 rfl dX0_grow_18 ?_
    refine lv_icmp_ge (tgt := 37) hx hb dX0_grow_21 (by decide) (fun c_9 => ?_) (fun c_9 => ?_)
    · have c_9n : pc_.toInt ≤ (L : Int) := by have q := (fa_le _ _).mp c_9; rw [nI_toInt (n := L) (by omega)] at q; exact q
      have hF : zLenN pc_ 12 64 = L := by rw [hG, show 12 - k = (11 - k) + 1 by omega, zLenN, if_neg (by omega)]
      have hF2 : zNl n4 pc_ = L := hE.trans hF
      refine lv_aload_n hx hb dX0_grow_37 rfl (lv_at hl 1 rfl) ?_
      refine lv_iload_n hx hb dX0_grow_38 rfl (lv_at hl 0 rfl) ?_
      refine z_newa C G 0 (ty := .int) (N' := L) (a0 := (L, .inl (fun _ => 0))) rfl z_uint m_ar_int rfl (fun _ => rfl) (nI_pos (by omega)) (nI_clamp (by omega)) (by show L * 4 ≤ 536870912; omega) (by show _ ≤ 3; omega) (by show _ ≤ 6 * (zNl n4 pc_ - n4); omega) dX0_grow_39 (fun q_10 H G => ?_)
      have G : zS T A s.heap s [[zO0 h md wy la pc_ a1_1 a2_2 a3_3 a4_4 a5_5 a6_6], [zAr T 0 a1_1 7 f1], [zAr T 0 a2_2 7 f2], [zAr T 0 a3_3 7 f3], [zAr T 0 a4_4 n4 f4], [zAr T 0 a5_5 n4 f5], [zAr T 0 a6_6 n4 f6], [zAr T 0 q_10 L (fun _ => 0)]] _ _ := G
      refine z_put C G clX0 0 rfl 7 (by decide) m_fl_RX0_28 rfl rfl rfl (Nat.le_of_ble_eq_true rfl) dX0_grow_41 (fun H locs G => ?_)
      have G : zS T A s.heap s [[zO0 h md wy la pc_ a1_1 a2_2 a3_3 q_10 a5_5 a6_6], [zAr T 0 a1_1 7 f1], [zAr T 0 a2_2 7 f2], [zAr T 0 a3_3 7 f3], [zAr T 0 a4_4 n4 f4], [zAr T 0 a5_5 n4 f5], [zAr T 0 a6_6 n4 f6], [zAr T 0 q_10 L (fun _ => 0)]] _ _ := G
      refine lv_aload_n hx hb dX0_grow_44 rfl (lv_at hl 1 rfl) ?_
      refine lv_iload_n hx hb dX0_grow_45 rfl (lv_at hl 0 rfl) ?_
      refine z_newa C G 0 (ty := .int) (N' := L) (a0 := (L, .inl (fun _ => 0))) rfl z_uint m_ar_int rfl (fun _ => rfl) (nI_pos (by omega)) (nI_clamp (by omega)) (by show L * 4 ≤ 536870912; omega) (by show _ ≤ 3; omega) (by show _ ≤ 6 * (zNl n4 pc_ - n4); omega) dX0_grow_46 (fun q_11 H G => ?_)
      have G : zS T A s.heap s [[zO0 h md wy la pc_ a1_1 a2_2 a3_3 q_10 a5_5 a6_6], [zAr T 0 a1_1 7 f1], [zAr T 0 a2_2 7 f2], [zAr T 0 a3_3 7 f3], [zAr T 0 a4_4 n4 f4], [zAr T 0 a5_5 n4 f5], [zAr T 0 a6_6 n4 f6], [zAr T 0 q_10 L (fun _ => 0)], [zAr T 0 q_11 L (fun _ => 0)]] _ _ := G
      refine z_put C G clX0 0 rfl 8 (by decide) m_fl_RX0_31 rfl rfl rfl (Nat.le_of_ble_eq_true rfl) dX0_grow_48 (fun H locs G => ?_)
      have G : zS T A s.heap s [[zO0 h md wy la pc_ a1_1 a2_2 a3_3 q_10 q_11 a6_6], [zAr T 0 a1_1 7 f1], [zAr T 0 a2_2 7 f2], [zAr T 0 a3_3 7 f3], [zAr T 0 a4_4 n4 f4], [zAr T 0 a5_5 n4 f5], [zAr T 0 a6_6 n4 f6], [zAr T 0 q_10 L (fun _ => 0)], [zAr T 0 q_11 L (fun _ => 0)]] _ _ := G
      refine lv_aload_n hx hb dX0_grow_51 rfl (lv_at hl 1 rfl) ?_
      refine lv_iload_n hx hb dX0_grow_52 rfl (lv_at hl 0 rfl) ?_
      refine z_newa C G 0 (ty := .int) (N' := L) (a0 := (L, .inl (fun _ => 0))) rfl z_uint m_ar_int rfl (fun _ => rfl) (nI_pos (by omega)) (nI_clamp (by omega)) (by show L * 4 ≤ 536870912; omega) (by show _ ≤ 3; omega) (by show _ ≤ 6 * (zNl n4 pc_ - n4); omega) dX0_grow_53 (fun q_12 H G => ?_)
      have G : zS T A s.heap s [[zO0 h md wy la pc_ a1_1 a2_2 a3_3 q_10 q_11 a6_6], [zAr T 0 a1_1 7 f1], [zAr T 0 a2_2 7 f2], [zAr T 0 a3_3 7 f3], [zAr T 0 a4_4 n4 f4], [zAr T 0 a5_5 n4 f5], [zAr T 0 a6_6 n4 f6], [zAr T 0 q_10 L (fun _ => 0)], [zAr T 0 q_11 L (fun _ => 0)], [zAr T 0 q_12 L (fun _ => 0)]] _ _ := G
      refine z_put C G clX0 0 rfl 9 (by decide) m_fl_RX0_34 rfl rfl rfl (Nat.le_of_ble_eq_true rfl) dX0_grow_55 (fun H locs G => ?_)
      have G : zS T A s.heap s [[zO0 h md wy la pc_ a1_1 a2_2 a3_3 q_10 q_11 q_12], [zAr T 0 a1_1 7 f1], [zAr T 0 a2_2 7 f2], [zAr T 0 a3_3 7 f3], [zAr T 0 a4_4 n4 f4], [zAr T 0 a5_5 n4 f5], [zAr T 0 a6_6 n4 f6], [zAr T 0 q_10 L (fun _ => 0)], [zAr T 0 q_11 L (fun _ => 0)], [zAr T 0 q_12 L (fun _ => 0)]] _ _ := G
      have G := G.sub (bs' := [[zO0 h md wy la pc_ a1_1 a2_2 a3_3 q_10 q_11 q_12], [zAr T 0 a1_1 7 f1], [zAr T 0 a2_2 7 f2], [zAr T 0 a3_3 7 f3], [zAr T 0 q_10 L (fun _ => 0)], [zAr T 0 q_11 L (fun _ => 0)], [zAr T 0 q_12 L (fun _ => 0)], [zAr T 0 a4_4 n4 f4], [zAr T 0 a5_5 n4 f5], [zAr T 0 a6_6 n4 f6]]) [0, 1, 2, 3, 7, 8, 9, 4, 5, 6] rfl
      have hw_13 : bWays T h la md wy pc_ f1 f2 f3 (fun _ => 0) (fun _ => 0) (fun _ => 0) L [zO0 h md wy la pc_ a1_1 a2_2 a3_3 q_10 q_11 q_12, zAr T 0 a1_1 7 f1, zAr T 0 a2_2 7 f2, zAr T 0 a3_3 7 f3, zAr T 0 q_10 L (fun _ => 0), zAr T 0 q_11 L (fun _ => 0), zAr T 0 q_12 L (fun _ => 0)] := ⟨a1_1, a2_2, a3_3, q_10, q_11, q_12, rfl⟩
      have G : zS T A s.heap s [[zO0 h md wy la pc_ a1_1 a2_2 a3_3 q_10 q_11 q_12, zAr T 0 a1_1 7 f1, zAr T 0 a2_2 7 f2, zAr T 0 a3_3 7 f3, zAr T 0 q_10 L (fun _ => 0), zAr T 0 q_11 L (fun _ => 0), zAr T 0 q_12 L (fun _ => 0)], [zAr T 0 a4_4 n4 f4], [zAr T 0 a5_5 n4 f5], [zAr T 0 a6_6 n4 f6]] _ _ := G.re rfl
      have G := G.sub (bs' := [[zO0 h md wy la pc_ a1_1 a2_2 a3_3 q_10 q_11 q_12, zAr T 0 a1_1 7 f1, zAr T 0 a2_2 7 f2, zAr T 0 a3_3 7 f3, zAr T 0 q_10 L (fun _ => 0), zAr T 0 q_11 L (fun _ => 0), zAr T 0 q_12 L (fun _ => 0)]]) [0] rfl
      exact z_back hQz_ (z_vret C hr hlocks G (Nat.le_of_ble_eq_true rfl) (by omega) dX0_grow_58 ⟨([zO0 h md wy la pc_ a1_1 a2_2 a3_3 q_10 q_11 q_12, zAr T 0 a1_1 7 f1, zAr T 0 a2_2 7 f2, zAr T 0 a3_3 7 f3, zAr T 0 q_10 L (fun _ => 0), zAr T 0 q_11 L (fun _ => 0), zAr T 0 q_12 L (fun _ => 0)]), (fun _ => 0), (fun _ => 0), (fun _ => 0), rfl, (hF2.symm ▸ hw_13)⟩)
    · have c_9n : ¬ pc_.toInt ≤ (L : Int) := fun q => c_9 ((fa_le _ _).mpr (by rw [nI_toInt (n := L) (by omega)]; exact q))
      refine lv_iload_n hx hb dX0_grow_24 rfl (lv_at hl 0 rfl) ?_
      refine lv_ldc (v := 131072) hx hb C.2.2.2.1 (C.2.2.2.2 _ m_ko_RX0_71) dX0_grow_25 ?_
      refine lv_icmp_ge (tgt := 37) hx hb dX0_grow_27 (by decide) (fun c_14 => ?_) (fun c_14 => ?_)
      · have c_14n : 131072 ≤ L := (nI_leI (a := 131072) (b := L) (by omega) (by omega)).mp c_14
        have hF : zLenN pc_ 12 64 = L := by rw [hG, show 12 - k = (11 - k) + 1 by omega, zLenN, if_neg (by omega)]
        have hF2 : zNl n4 pc_ = L := hE.trans hF
        refine lv_aload_n hx hb dX0_grow_37 rfl (lv_at hl 1 rfl) ?_
        refine lv_iload_n hx hb dX0_grow_38 rfl (lv_at hl 0 rfl) ?_
        refine z_newa C G 0 (ty := .int) (N' := L) (a0 := (L, .inl (fun _ => 0))) rfl z_uint m_ar_int rfl (fun _ => rfl) (nI_pos (by omega)) (nI_clamp (by omega)) (by show L * 4 ≤ 536870912; omega) (by show _ ≤ 3; omega) (by show _ ≤ 6 * (zNl n4 pc_ - n4); omega) dX0_grow_39 (fun q_15 H G => ?_)
        have G : zS T A s.heap s [[zO0 h md wy la pc_ a1_1 a2_2 a3_3 a4_4 a5_5 a6_6], [zAr T 0 a1_1 7 f1], [zAr T 0 a2_2 7 f2], [zAr T 0 a3_3 7 f3], [zAr T 0 a4_4 n4 f4], [zAr T 0 a5_5 n4 f5], [zAr T 0 a6_6 n4 f6], [zAr T 0 q_15 L (fun _ => 0)]] _ _ := G
        refine z_put C G clX0 0 rfl 7 (by decide) m_fl_RX0_28 rfl rfl rfl (Nat.le_of_ble_eq_true rfl) dX0_grow_41 (fun H locs G => ?_)
        have G : zS T A s.heap s [[zO0 h md wy la pc_ a1_1 a2_2 a3_3 q_15 a5_5 a6_6], [zAr T 0 a1_1 7 f1], [zAr T 0 a2_2 7 f2], [zAr T 0 a3_3 7 f3], [zAr T 0 a4_4 n4 f4], [zAr T 0 a5_5 n4 f5], [zAr T 0 a6_6 n4 f6], [zAr T 0 q_15 L (fun _ => 0)]] _ _ := G
        refine lv_aload_n hx hb dX0_grow_44 rfl (lv_at hl 1 rfl) ?_
        refine lv_iload_n hx hb dX0_grow_45 rfl (lv_at hl 0 rfl) ?_
        refine z_newa C G 0 (ty := .int) (N' := L) (a0 := (L, .inl (fun _ => 0))) rfl z_uint m_ar_int rfl (fun _ => rfl) (nI_pos (by omega)) (nI_clamp (by omega)) (by show L * 4 ≤ 536870912; omega) (by show _ ≤ 3; omega) (by show _ ≤ 6 * (zNl n4 pc_ - n4); omega) dX0_grow_46 (fun q_16 H G => ?_)
        have G : zS T A s.heap s [[zO0 h md wy la pc_ a1_1 a2_2 a3_3 q_15 a5_5 a6_6], [zAr T 0 a1_1 7 f1], [zAr T 0 a2_2 7 f2], [zAr T 0 a3_3 7 f3], [zAr T 0 a4_4 n4 f4], [zAr T 0 a5_5 n4 f5], [zAr T 0 a6_6 n4 f6], [zAr T 0 q_15 L (fun _ => 0)], [zAr T 0 q_16 L (fun _ => 0)]] _ _ := G
        refine z_put C G clX0 0 rfl 8 (by decide) m_fl_RX0_31 rfl rfl rfl (Nat.le_of_ble_eq_true rfl) dX0_grow_48 (fun H locs G => ?_)
        have G : zS T A s.heap s [[zO0 h md wy la pc_ a1_1 a2_2 a3_3 q_15 q_16 a6_6], [zAr T 0 a1_1 7 f1], [zAr T 0 a2_2 7 f2], [zAr T 0 a3_3 7 f3], [zAr T 0 a4_4 n4 f4], [zAr T 0 a5_5 n4 f5], [zAr T 0 a6_6 n4 f6], [zAr T 0 q_15 L (fun _ => 0)], [zAr T 0 q_16 L (fun _ => 0)]] _ _ := G
        refine lv_aload_n hx hb dX0_grow_51 rfl (lv_at hl 1 rfl) ?_
        refine lv_iload_n hx hb dX0_grow_52 rfl (lv_at hl 0 rfl) ?_
        refine z_newa C G 0 (ty := .int) (N' := L) (a0 := (L, .inl (fun _ => 0))) rfl z_uint m_ar_int rfl (fun _ => rfl) (nI_pos (by omega)) (nI_clamp (by omega)) (by show L * 4 ≤ 536870912; omega) (by show _ ≤ 3; omega) (by show _ ≤ 6 * (zNl n4 pc_ - n4); omega) dX0_grow_53 (fun q_17 H G => ?_)
        have G : zS T A s.heap s [[zO0 h md wy la pc_ a1_1 a2_2 a3_3 q_15 q_16 a6_6], [zAr T 0 a1_1 7 f1], [zAr T 0 a2_2 7 f2], [zAr T 0 a3_3 7 f3], [zAr T 0 a4_4 n4 f4], [zAr T 0 a5_5 n4 f5], [zAr T 0 a6_6 n4 f6], [zAr T 0 q_15 L (fun _ => 0)], [zAr T 0 q_16 L (fun _ => 0)], [zAr T 0 q_17 L (fun _ => 0)]] _ _ := G
        refine z_put C G clX0 0 rfl 9 (by decide) m_fl_RX0_34 rfl rfl rfl (Nat.le_of_ble_eq_true rfl) dX0_grow_55 (fun H locs G => ?_)
        have G : zS T A s.heap s [[zO0 h md wy la pc_ a1_1 a2_2 a3_3 q_15 q_16 q_17], [zAr T 0 a1_1 7 f1], [zAr T 0 a2_2 7 f2], [zAr T 0 a3_3 7 f3], [zAr T 0 a4_4 n4 f4], [zAr T 0 a5_5 n4 f5], [zAr T 0 a6_6 n4 f6], [zAr T 0 q_15 L (fun _ => 0)], [zAr T 0 q_16 L (fun _ => 0)], [zAr T 0 q_17 L (fun _ => 0)]] _ _ := G
        have G := G.sub (bs' := [[zO0 h md wy la pc_ a1_1 a2_2 a3_3 q_15 q_16 q_17], [zAr T 0 a1_1 7 f1], [zAr T 0 a2_2 7 f2], [zAr T 0 a3_3 7 f3], [zAr T 0 q_15 L (fun _ => 0)], [zAr T 0 q_16 L (fun _ => 0)], [zAr T 0 q_17 L (fun _ => 0)], [zAr T 0 a4_4 n4 f4], [zAr T 0 a5_5 n4 f5], [zAr T 0 a6_6 n4 f6]]) [0, 1, 2, 3, 7, 8, 9, 4, 5, 6] rfl
        have hw_18 : bWays T h la md wy pc_ f1 f2 f3 (fun _ => 0) (fun _ => 0) (fun _ => 0) L [zO0 h md wy la pc_ a1_1 a2_2 a3_3 q_15 q_16 q_17, zAr T 0 a1_1 7 f1, zAr T 0 a2_2 7 f2, zAr T 0 a3_3 7 f3, zAr T 0 q_15 L (fun _ => 0), zAr T 0 q_16 L (fun _ => 0), zAr T 0 q_17 L (fun _ => 0)] := ⟨a1_1, a2_2, a3_3, q_15, q_16, q_17, rfl⟩
        have G : zS T A s.heap s [[zO0 h md wy la pc_ a1_1 a2_2 a3_3 q_15 q_16 q_17, zAr T 0 a1_1 7 f1, zAr T 0 a2_2 7 f2, zAr T 0 a3_3 7 f3, zAr T 0 q_15 L (fun _ => 0), zAr T 0 q_16 L (fun _ => 0), zAr T 0 q_17 L (fun _ => 0)], [zAr T 0 a4_4 n4 f4], [zAr T 0 a5_5 n4 f5], [zAr T 0 a6_6 n4 f6]] _ _ := G.re rfl
        have G := G.sub (bs' := [[zO0 h md wy la pc_ a1_1 a2_2 a3_3 q_15 q_16 q_17, zAr T 0 a1_1 7 f1, zAr T 0 a2_2 7 f2, zAr T 0 a3_3 7 f3, zAr T 0 q_15 L (fun _ => 0), zAr T 0 q_16 L (fun _ => 0), zAr T 0 q_17 L (fun _ => 0)]]) [0] rfl
        exact z_back hQz_ (z_vret C hr hlocks G (Nat.le_of_ble_eq_true rfl) (by omega) dX0_grow_58 ⟨([zO0 h md wy la pc_ a1_1 a2_2 a3_3 q_15 q_16 q_17, zAr T 0 a1_1 7 f1, zAr T 0 a2_2 7 f2, zAr T 0 a3_3 7 f3, zAr T 0 q_15 L (fun _ => 0), zAr T 0 q_16 L (fun _ => 0), zAr T 0 q_17 L (fun _ => 0)]), (fun _ => 0), (fun _ => 0), (fun _ => 0), rfl, (hF2.symm ▸ hw_18)⟩)
      · have c_14n : ¬ 131072 ≤ L := fun q => c_14 ((nI_leI (a := 131072) (b := L) (by omega) (by omega)).mpr q)
        refine lv_iload_n hx hb dX0_grow_30 rfl (lv_at hl 0 rfl) ?_
        refine lv_iconst (v := 2) hx hb dX0_grow_31 (by decide) ?_
        refine lv_imul hx hb dX0_grow_32 ?_
        refine lv_topi (fun y_19 ey_19 => ?_)
        obtain rfl : y_19 = nI (L * 2) := ey_19.trans (z_imuln L 2 rfl rfl)
        refine lv_istore_n (lv' := [(1, .int (nI (L * 2))), (0, .ref h)]) hx hb dX0_grow_33 rfl hl (by decide) (zLvf_h rfl) (fun ls hl => ?_)
        refine lv_goto (tgt := 16) hx hb dX0_grow_34 (by decide) ?_
        have hw_20 : bWays T h la md wy pc_ f1 f2 f3 f4 f5 f6 n4 [zO0 h md wy la pc_ a1_1 a2_2 a3_3 a4_4 a5_5 a6_6, zAr T 0 a1_1 7 f1, zAr T 0 a2_2 7 f2, zAr T 0 a3_3 7 f3, zAr T 0 a4_4 n4 f4, zAr T 0 a5_5 n4 f5, zAr T 0 a6_6 n4 f6] := ⟨a1_1, a2_2, a3_3, a4_4, a5_5, a6_6, rfl⟩
        have G : zS T A s.heap s [[zO0 h md wy la pc_ a1_1 a2_2 a3_3 a4_4 a5_5 a6_6, zAr T 0 a1_1 7 f1, zAr T 0 a2_2 7 f2, zAr T 0 a3_3 7 f3, zAr T 0 a4_4 n4 f4, zAr T 0 a5_5 n4 f5, zAr T 0 a6_6 n4 f6]] _ _ := G.re rfl
        exact ih_16 (k + 1) (L * 2) (show (k + 1) ≤ 11 ∧ (L * 2) = 64 * 2 ^ (k + 1) ∧ zLenN pc_ 12 64 = zLenN pc_ (12 - (k + 1)) (L * 2) ∧ (L * 2) ≤ 131072 from ⟨z_k11 hk hL (by omega), by rw [hL, Nat.pow_succ]; omega, by rw [hG, show 12 - k = (12 - (k + 1)) + 1 by omega, zLenN, if_pos ⟨by omega, by omega⟩, Nat.mul_comm], z_k11b hk hL (by omega)⟩) (show 12 - (k + 1) < 12 - k from by omega) _ _ ls G (lv_sub hl [0, 1] rfl)
  · have c_7n : ¬ (n4 : Int) < pc_.toInt := fun q => c_7 ((fa_lt _ _).mpr (by rw [nI_toInt (n := n4) (by omega)]; exact q))
    have hw_21 : bWays T h la md wy pc_ f1 f2 f3 f4 f5 f6 n4 [zO0 h md wy la pc_ a1_1 a2_2 a3_3 a4_4 a5_5 a6_6, zAr T 0 a1_1 7 f1, zAr T 0 a2_2 7 f2, zAr T 0 a3_3 7 f3, zAr T 0 a4_4 n4 f4, zAr T 0 a5_5 n4 f5, zAr T 0 a6_6 n4 f6] := ⟨a1_1, a2_2, a3_3, a4_4, a5_5, a6_6, rfl⟩
    have G : zS T A s.heap s [[zO0 h md wy la pc_ a1_1 a2_2 a3_3 a4_4 a5_5 a6_6, zAr T 0 a1_1 7 f1, zAr T 0 a2_2 7 f2, zAr T 0 a3_3 7 f3, zAr T 0 a4_4 n4 f4, zAr T 0 a5_5 n4 f5, zAr T 0 a6_6 n4 f6]] _ _ := G.re rfl
    exact z_back hQz_ (z_vret C hr hlocks G (Nat.le_of_ble_eq_true rfl) (by omega) dX0_grow_12 ⟨([zO0 h md wy la pc_ a1_1 a2_2 a3_3 a4_4 a5_5 a6_6, zAr T 0 a1_1 7 f1, zAr T 0 a2_2 7 f2, zAr T 0 a3_3 7 f3, zAr T 0 a4_4 n4 f4, zAr T 0 a5_5 n4 f5, zAr T 0 a6_6 n4 f6]), f4, f5, f6, rfl, ((show n4 = zNl n4 pc_ from by unfold zNl; rw [if_pos (by omega)]) ▸ hw_21)⟩)
set_option maxHeartbeats 4000000 in
set_option maxRecDepth 100000 in
/-- nextRow -/
theorem c_nextRow (l : Launch) (T : zTy) (h : Nat) (la : Nat) (md : Int32) (wy : Int32) (pc_ : Int32) (f1 : Nat → Int32) (f2 : Nat → Int32) (f3 : Nat → Int32) (f4 : Nat → Int32) (f5 : Nat → Int32) (f6 : Nat → Int32) (n4 : Nat) (ww : va_W) (hww : bWays T h la md wy pc_ f1 f2 f3 f4 f5 f6 n4 ww) : zMv l T yX0_nextRow cX0_nextRow 2 1 0 0 [.ref h] [ww] (fun bs => ∃ (w2 : va_W) (g3 : Nat → Int32), bs = [w2] ∧ bWays T h la md wy pc_ f1 f2 g3 f4 f5 f6 n4 w2) := by
  refine zMv_of (own := RX0) (by decide) rfl (Nat.le_of_ble_eq_true rfl) ?_
  intro p e s m args below meth c A ls C hr hlocks hnm hAe G hl
  refine zHide (fun Qz_ hQz_ => ?_)
  have hx := C.1
  have hb := C.2.1
  have hl : lv_has ls 2 [(0, .ref h)] := hl
  refine lv_bipush (v := 6) hx hb dX0_nextRow_0 (by decide) ?_
  refine lv_istore_n (lv' := [(1, .int 6), (0, .ref h)]) hx hb dX0_nextRow_2 rfl hl (by decide) (zLvf_h rfl) (fun ls hl => ?_)
  refine lv_iload_n hx hb dX0_nextRow_3 rfl (lv_at hl 0 rfl) ?_
  refine lv_if_lt (tgt := 46) hx hb dX0_nextRow_4 (by decide) (fun q => absurd q (by decide)) (fun _ => ?_)
  refine lv_aload_n hx hb dX0_nextRow_7 rfl (lv_at hl 1 rfl) ?_
  refine zEx6 hww ?_
  intro a1_1 a2_2 a3_3 a4_4 a5_5 a6_6 hbs9
  clear hww
  subst hbs9
  have G : zS T A s.heap s [[zO0 h md wy la pc_ a1_1 a2_2 a3_3 a4_4 a5_5 a6_6], [zAr T 0 a1_1 7 f1], [zAr T 0 a2_2 7 f2], [zAr T 0 a3_3 7 f3], [zAr T 0 a4_4 n4 f4], [zAr T 0 a5_5 n4 f5], [zAr T 0 a6_6 n4 f6]] _ _ := G.re rfl
  refine z_get C G clX0 0 rfl 6 (by decide) m_fl_RX0_25 rfl dX0_nextRow_8 ?_
  refine lv_iload_n hx hb dX0_nextRow_11 rfl (lv_at hl 0 rfl) ?_
  refine lv_dup2_11 hx hb dX0_nextRow_12 rfl rfl ?_
  refine z_ild C G 3 rfl (vp_in_nI (n := 6) (by decide) (by decide)) dX0_nextRow_13 ?_
  refine lv_topi (fun v_7 ev_7 => ?_)
  rw [show ((6 : Int32).toNatClampNeg) = 6 from rfl] at ev_7
  subst ev_7
  refine lv_iconst (v := 1) hx hb dX0_nextRow_14 (by decide) ?_
  refine lv_iadd hx hb dX0_nextRow_15 ?_
  refine z_ist C G 3 rfl (vp_in_nI (n := 6) (by decide) (by decide)) dX0_nextRow_16 (fun H locs G => ?_)
  have G : zS T A s.heap s [[zO0 h md wy la pc_ a1_1 a2_2 a3_3 a4_4 a5_5 a6_6], [zAr T 0 a1_1 7 f1], [zAr T 0 a2_2 7 f2], [zAr T 0 a3_3 7 (upd f3 6 ((f3 6) + 1))], [zAr T 0 a4_4 n4 f4], [zAr T 0 a5_5 n4 f5], [zAr T 0 a6_6 n4 f6]] _ _ := G
  refine lv_aload_n hx hb dX0_nextRow_17 rfl (lv_at hl 1 rfl) ?_
  refine z_get C G clX0 0 rfl 6 (by decide) m_fl_RX0_25 rfl dX0_nextRow_18 ?_
  refine lv_iload_n hx hb dX0_nextRow_21 rfl (lv_at hl 0 rfl) ?_
  refine z_ild C G 3 rfl (vp_in_nI (n := 6) (by decide) (by decide)) dX0_nextRow_22 ?_
  refine lv_topi (fun v_8 ev_8 => ?_)
  have ev_8 : v_8 = (f3 6) + 1 := ev_8
  subst ev_8
  refine lv_aload_n hx hb dX0_nextRow_23 rfl (lv_at hl 1 rfl) ?_
  refine z_get C G clX0 0 rfl 4 (by decide) m_fl_RX0_18 rfl dX0_nextRow_24 ?_
  refine lv_iload_n hx hb dX0_nextRow_27 rfl (lv_at hl 0 rfl) ?_
  refine z_ild C G 1 rfl (vp_in_nI (n := 6) (by decide) (by decide)) dX0_nextRow_28 ?_
  refine lv_topi (fun v_9 ev_9 => ?_)
  rw [show ((6 : Int32).toNatClampNeg) = 6 from rfl] at ev_9
  subst ev_9
  refine lv_icmp_ge (tgt := 33) hx hb dX0_nextRow_29 (by decide) (fun c_10 => ?_) (fun c_10 => ?_)
  · have c_10n : (f1 6).toInt ≤ ((f3 6) + 1).toInt := (fa_le _ _).mp c_10
    refine lv_aload_n hx hb dX0_nextRow_33 rfl (lv_at hl 1 rfl) ?_
    refine z_get C G clX0 0 rfl 6 (by decide) m_fl_RX0_25 rfl dX0_nextRow_34 ?_
    refine lv_iload_n hx hb dX0_nextRow_37 rfl (lv_at hl 0 rfl) ?_
    refine lv_iconst (v := 0) hx hb dX0_nextRow_38 (by decide) ?_
    refine z_ist C G 3 rfl (vp_in_nI (n := 6) (by decide) (by decide)) dX0_nextRow_39 (fun H locs G => ?_)
    have G : zS T A s.heap s [[zO0 h md wy la pc_ a1_1 a2_2 a3_3 a4_4 a5_5 a6_6], [zAr T 0 a1_1 7 f1], [zAr T 0 a2_2 7 f2], [zAr T 0 a3_3 7 (upd (upd f3 6 ((f3 6) + 1)) 6 0)], [zAr T 0 a4_4 n4 f4], [zAr T 0 a5_5 n4 f5], [zAr T 0 a6_6 n4 f6]] _ _ := G
    refine lv_iinc (v := 5) (lv' := [(1, .int 5), (0, .ref h)]) hx hb dX0_nextRow_40 hl (k := 0) rfl (by decide) (by decide) (zLvf_h rfl) (fun ls hl => ?_)
    refine lv_goto (tgt := 3) hx hb dX0_nextRow_43 (by decide) ?_
    refine lv_iload_n hx hb dX0_nextRow_3 rfl (lv_at hl 0 rfl) ?_
    refine lv_if_lt (tgt := 46) hx hb dX0_nextRow_4 (by decide) (fun q => absurd q (by decide)) (fun _ => ?_)
    refine lv_aload_n hx hb dX0_nextRow_7 rfl (lv_at hl 1 rfl) ?_
    refine z_get C G clX0 0 rfl 6 (by decide) m_fl_RX0_25 rfl dX0_nextRow_8 ?_
    refine lv_iload_n hx hb dX0_nextRow_11 rfl (lv_at hl 0 rfl) ?_
    refine lv_dup2_11 hx hb dX0_nextRow_12 rfl rfl ?_
    refine z_ild C G 3 rfl (vp_in_nI (n := 5) (by decide) (by decide)) dX0_nextRow_13 ?_
    refine lv_topi (fun v_11 ev_11 => ?_)
    rw [show ((5 : Int32).toNatClampNeg) = 5 from rfl] at ev_11
    subst ev_11
    refine lv_iconst (v := 1) hx hb dX0_nextRow_14 (by decide) ?_
    refine lv_iadd hx hb dX0_nextRow_15 ?_
    refine z_ist C G 3 rfl (vp_in_nI (n := 5) (by decide) (by decide)) dX0_nextRow_16 (fun H locs G => ?_)
    have G : zS T A s.heap s [[zO0 h md wy la pc_ a1_1 a2_2 a3_3 a4_4 a5_5 a6_6], [zAr T 0 a1_1 7 f1], [zAr T 0 a2_2 7 f2], [zAr T 0 a3_3 7 (upd (upd (upd f3 6 ((f3 6) + 1)) 6 0) 5 (((upd (upd f3 6 ((f3 6) + 1)) 6 0) 5) + 1))], [zAr T 0 a4_4 n4 f4], [zAr T 0 a5_5 n4 f5], [zAr T 0 a6_6 n4 f6]] _ _ := G
    refine lv_aload_n hx hb dX0_nextRow_17 rfl (lv_at hl 1 rfl) ?_
    refine z_get C G clX0 0 rfl 6 (by decide) m_fl_RX0_25 rfl dX0_nextRow_18 ?_
    refine lv_iload_n hx hb dX0_nextRow_21 rfl (lv_at hl 0 rfl) ?_
    refine z_ild C G 3 rfl (vp_in_nI (n := 5) (by decide) (by decide)) dX0_nextRow_22 ?_
    refine lv_topi (fun v_12 ev_12 => ?_)
    have ev_12 : v_12 = ((upd (upd f3 6 ((f3 6) + 1)) 6 0) 5) + 1 := ev_12
    subst ev_12
    refine lv_aload_n hx hb dX0_nextRow_23 rfl (lv_at hl 1 rfl) ?_
    refine z_get C G clX0 0 rfl 4 (by decide) m_fl_RX0_18 rfl dX0_nextRow_24 ?_
    refine lv_iload_n hx hb dX0_nextRow_27 rfl (lv_at hl 0 rfl) ?_
    refine z_ild C G 1 rfl (vp_in_nI (n := 5) (by decide) (by decide)) dX0_nextRow_28 ?_
    refine lv_topi (fun v_13 ev_13 => ?_)
    rw [show ((5 : Int32).toNatClampNeg) = 5 from rfl] at ev_13
    subst ev_13
    refine lv_icmp_ge (tgt := 33) hx hb dX0_nextRow_29 (by decide) (fun c_14 => ?_) (fun c_14 => ?_)
    · have c_14n : (f1 5).toInt ≤ (((upd (upd f3 6 ((f3 6) + 1)) 6 0) 5) + 1).toInt := (fa_le _ _).mp c_14
      refine lv_aload_n hx hb dX0_nextRow_33 rfl (lv_at hl 1 rfl) ?_
      refine z_get C G clX0 0 rfl 6 (by decide) m_fl_RX0_25 rfl dX0_nextRow_34 ?_
      refine lv_iload_n hx hb dX0_nextRow_37 rfl (lv_at hl 0 rfl) ?_
      refine lv_iconst (v := 0) hx hb dX0_nextRow_38 (by decide) ?_
      refine z_ist C G 3 rfl (vp_in_nI (n := 5) (by decide) (by decide)) dX0_nextRow_39 (fun H locs G => ?_)
      have G : zS T A s.heap s [[zO0 h md wy la pc_ a1_1 a2_2 a3_3 a4_4 a5_5 a6_6], [zAr T 0 a1_1 7 f1], [zAr T 0 a2_2 7 f2], [zAr T 0 a3_3 7 (upd (upd (upd (upd f3 6 ((f3 6) + 1)) 6 0) 5 (((upd (upd f3 6 ((f3 6) + 1)) 6 0) 5) + 1)) 5 0)], [zAr T 0 a4_4 n4 f4], [zAr T 0 a5_5 n4 f5], [zAr T 0 a6_6 n4 f6]] _ _ := G
      refine lv_iinc (v := 4) (lv' := [(1, .int 4), (0, .ref h)]) hx hb dX0_nextRow_40 hl (k := 0) rfl (by decide) (by decide) (zLvf_h rfl) (fun ls hl => ?_)
      refine lv_goto (tgt := 3) hx hb dX0_nextRow_43 (by decide) ?_
      refine lv_iload_n hx hb dX0_nextRow_3 rfl (lv_at hl 0 rfl) ?_
      refine lv_if_lt (tgt := 46) hx hb dX0_nextRow_4 (by decide) (fun q => absurd q (by decide)) (fun _ => ?_)
      refine lv_aload_n hx hb dX0_nextRow_7 rfl (lv_at hl 1 rfl) ?_
      refine z_get C G clX0 0 rfl 6 (by decide) m_fl_RX0_25 rfl dX0_nextRow_8 ?_
      refine lv_iload_n hx hb dX0_nextRow_11 rfl (lv_at hl 0 rfl) ?_
      refine lv_dup2_11 hx hb dX0_nextRow_12 rfl rfl ?_
      refine z_ild C G 3 rfl (vp_in_nI (n := 4) (by decide) (by decide)) dX0_nextRow_13 ?_
      refine lv_topi (fun v_15 ev_15 => ?_)
      rw [show ((4 : Int32).toNatClampNeg) = 4 from rfl] at ev_15
      subst ev_15
      refine lv_iconst (v := 1) hx hb dX0_nextRow_14 (by decide) ?_
      refine lv_iadd hx hb dX0_nextRow_15 ?_
      refine z_ist C G 3 rfl (vp_in_nI (n := 4) (by decide) (by decide)) dX0_nextRow_16 (fun H locs G => ?_)
      have G : zS T A s.heap s [[zO0 h md wy la pc_ a1_1 a2_2 a3_3 a4_4 a5_5 a6_6], [zAr T 0 a1_1 7 f1], [zAr T 0 a2_2 7 f2], [zAr T 0 a3_3 7 (upd (upd (upd (upd (upd f3 6 ((f3 6) + 1)) 6 0) 5 (((upd (upd f3 6 ((f3 6) + 1)) 6 0) 5) + 1)) 5 0) 4 (((upd (upd (upd (upd f3 6 ((f3 6) + 1)) 6 0) 5 (((upd (upd f3 6 ((f3 6) + 1)) 6 0) 5) + 1)) 5 0) 4) + 1))], [zAr T 0 a4_4 n4 f4], [zAr T 0 a5_5 n4 f5], [zAr T 0 a6_6 n4 f6]] _ _ := G
      refine lv_aload_n hx hb dX0_nextRow_17 rfl (lv_at hl 1 rfl) ?_
      refine z_get C G clX0 0 rfl 6 (by decide) m_fl_RX0_25 rfl dX0_nextRow_18 ?_
      refine lv_iload_n hx hb dX0_nextRow_21 rfl (lv_at hl 0 rfl) ?_
      refine z_ild C G 3 rfl (vp_in_nI (n := 4) (by decide) (by decide)) dX0_nextRow_22 ?_
      refine lv_topi (fun v_16 ev_16 => ?_)
      have ev_16 : v_16 = ((upd (upd (upd (upd f3 6 ((f3 6) + 1)) 6 0) 5 (((upd (upd f3 6 ((f3 6) + 1)) 6 0) 5) + 1)) 5 0) 4) + 1 := ev_16
      subst ev_16
      refine lv_aload_n hx hb dX0_nextRow_23 rfl (lv_at hl 1 rfl) ?_
      refine z_get C G clX0 0 rfl 4 (by decide) m_fl_RX0_18 rfl dX0_nextRow_24 ?_
      refine lv_iload_n hx hb dX0_nextRow_27 rfl (lv_at hl 0 rfl) ?_
      refine z_ild C G 1 rfl (vp_in_nI (n := 4) (by decide) (by decide)) dX0_nextRow_28 ?_
      refine lv_topi (fun v_17 ev_17 => ?_)
      rw [show ((4 : Int32).toNatClampNeg) = 4 from rfl] at ev_17
      subst ev_17
      refine lv_icmp_ge (tgt := 33) hx hb dX0_nextRow_29 (by decide) (fun c_18 => ?_) (fun c_18 => ?_)
      · have c_18n : (f1 4).toInt ≤ (((upd (upd (upd (upd f3 6 ((f3 6) + 1)) 6 0) 5 (((upd (upd f3 6 ((f3 6) + 1)) 6 0) 5) + 1)) 5 0) 4) + 1).toInt := (fa_le _ _).mp c_18
        refine lv_aload_n hx hb dX0_nextRow_33 rfl (lv_at hl 1 rfl) ?_
        refine z_get C G clX0 0 rfl 6 (by decide) m_fl_RX0_25 rfl dX0_nextRow_34 ?_
        refine lv_iload_n hx hb dX0_nextRow_37 rfl (lv_at hl 0 rfl) ?_
        refine lv_iconst (v := 0) hx hb dX0_nextRow_38 (by decide) ?_
        refine z_ist C G 3 rfl (vp_in_nI (n := 4) (by decide) (by decide)) dX0_nextRow_39 (fun H locs G => ?_)
        have G : zS T A s.heap s [[zO0 h md wy la pc_ a1_1 a2_2 a3_3 a4_4 a5_5 a6_6], [zAr T 0 a1_1 7 f1], [zAr T 0 a2_2 7 f2], [zAr T 0 a3_3 7 (upd (upd (upd (upd (upd (upd f3 6 ((f3 6) + 1)) 6 0) 5 (((upd (upd f3 6 ((f3 6) + 1)) 6 0) 5) + 1)) 5 0) 4 (((upd (upd (upd (upd f3 6 ((f3 6) + 1)) 6 0) 5 (((upd (upd f3 6 ((f3 6) + 1)) 6 0) 5) + 1)) 5 0) 4) + 1)) 4 0)], [zAr T 0 a4_4 n4 f4], [zAr T 0 a5_5 n4 f5], [zAr T 0 a6_6 n4 f6]] _ _ := G
        refine lv_iinc (v := 3) (lv' := [(1, .int 3), (0, .ref h)]) hx hb dX0_nextRow_40 hl (k := 0) rfl (by decide) (by decide) (zLvf_h rfl) (fun ls hl => ?_)
        refine lv_goto (tgt := 3) hx hb dX0_nextRow_43 (by decide) ?_
        refine lv_iload_n hx hb dX0_nextRow_3 rfl (lv_at hl 0 rfl) ?_
        refine lv_if_lt (tgt := 46) hx hb dX0_nextRow_4 (by decide) (fun q => absurd q (by decide)) (fun _ => ?_)
        refine lv_aload_n hx hb dX0_nextRow_7 rfl (lv_at hl 1 rfl) ?_
        refine z_get C G clX0 0 rfl 6 (by decide) m_fl_RX0_25 rfl dX0_nextRow_8 ?_
        refine lv_iload_n hx hb dX0_nextRow_11 rfl (lv_at hl 0 rfl) ?_
        refine lv_dup2_11 hx hb dX0_nextRow_12 rfl rfl ?_
        refine z_ild C G 3 rfl (vp_in_nI (n := 3) (by decide) (by decide)) dX0_nextRow_13 ?_
        refine lv_topi (fun v_19 ev_19 => ?_)
        rw [show ((3 : Int32).toNatClampNeg) = 3 from rfl] at ev_19
        subst ev_19
        refine lv_iconst (v := 1) hx hb dX0_nextRow_14 (by decide) ?_
        refine lv_iadd hx hb dX0_nextRow_15 ?_
        refine z_ist C G 3 rfl (vp_in_nI (n := 3) (by decide) (by decide)) dX0_nextRow_16 (fun H locs G => ?_)
        have G : zS T A s.heap s [[zO0 h md wy la pc_ a1_1 a2_2 a3_3 a4_4 a5_5 a6_6], [zAr T 0 a1_1 7 f1], [zAr T 0 a2_2 7 f2], [zAr T 0 a3_3 7 (upd (upd (upd (upd (upd (upd (upd f3 6 ((f3 6) + 1)) 6 0) 5 (((upd (upd f3 6 ((f3 6) + 1)) 6 0) 5) + 1)) 5 0) 4 (((upd (upd (upd (upd f3 6 ((f3 6) + 1)) 6 0) 5 (((upd (upd f3 6 ((f3 6) + 1)) 6 0) 5) + 1)) 5 0) 4) + 1)) 4 0) 3 (((upd (upd (upd (upd (upd (upd f3 6 ((f3 6) + 1)) 6 0) 5 (((upd (upd f3 6 ((f3 6) + 1)) 6 0) 5) + 1)) 5 0) 4 (((upd (upd (upd (upd f3 6 ((f3 6) + 1)) 6 0) 5 (((upd (upd f3 6 ((f3 6) + 1)) 6 0) 5) + 1)) 5 0) 4) + 1)) 4 0) 3) + 1))], [zAr T 0 a4_4 n4 f4], [zAr T 0 a5_5 n4 f5], [zAr T 0 a6_6 n4 f6]] _ _ := G
        refine lv_aload_n hx hb dX0_nextRow_17 rfl (lv_at hl 1 rfl) ?_
        refine z_get C G clX0 0 rfl 6 (by decide) m_fl_RX0_25 rfl dX0_nextRow_18 ?_
        refine lv_iload_n hx hb dX0_nextRow_21 rfl (lv_at hl 0 rfl) ?_
        refine z_ild C G 3 rfl (vp_in_nI (n := 3) (by decide) (by decide)) dX0_nextRow_22 ?_
        refine lv_topi (fun v_20 ev_20 => ?_)
        have ev_20 : v_20 = ((upd (upd (upd (upd (upd (upd f3 6 ((f3 6) + 1)) 6 0) 5 (((upd (upd f3 6 ((f3 6) + 1)) 6 0) 5) + 1)) 5 0) 4 (((upd (upd (upd (upd f3 6 ((f3 6) + 1)) 6 0) 5 (((upd (upd f3 6 ((f3 6) + 1)) 6 0) 5) + 1)) 5 0) 4) + 1)) 4 0) 3) + 1 := ev_20
        subst ev_20
        refine lv_aload_n hx hb dX0_nextRow_23 rfl (lv_at hl 1 rfl) ?_
        refine z_get C G clX0 0 rfl 4 (by decide) m_fl_RX0_18 rfl dX0_nextRow_24 ?_
        refine lv_iload_n hx hb dX0_nextRow_27 rfl (lv_at hl 0 rfl) ?_
        refine z_ild C G 1 rfl (vp_in_nI (n := 3) (by decide) (by decide)) dX0_nextRow_28 ?_
        refine lv_topi (fun v_21 ev_21 => ?_)
        rw [show ((3 : Int32).toNatClampNeg) = 3 from rfl] at ev_21
        subst ev_21
        refine lv_icmp_ge (tgt := 33) hx hb dX0_nextRow_29 (by decide) (fun c_22 => ?_) (fun c_22 => ?_)
        · have c_22n : (f1 3).toInt ≤ (((upd (upd (upd (upd (upd (upd f3 6 ((f3 6) + 1)) 6 0) 5 (((upd (upd f3 6 ((f3 6) + 1)) 6 0) 5) + 1)) 5 0) 4 (((upd (upd (upd (upd f3 6 ((f3 6) + 1)) 6 0) 5 (((upd (upd f3 6 ((f3 6) + 1)) 6 0) 5) + 1)) 5 0) 4) + 1)) 4 0) 3) + 1).toInt := (fa_le _ _).mp c_22
          refine lv_aload_n hx hb dX0_nextRow_33 rfl (lv_at hl 1 rfl) ?_
          refine z_get C G clX0 0 rfl 6 (by decide) m_fl_RX0_25 rfl dX0_nextRow_34 ?_
          refine lv_iload_n hx hb dX0_nextRow_37 rfl (lv_at hl 0 rfl) ?_
          refine lv_iconst (v := 0) hx hb dX0_nextRow_38 (by decide) ?_
          refine z_ist C G 3 rfl (vp_in_nI (n := 3) (by decide) (by decide)) dX0_nextRow_39 (fun H locs G => ?_)
          have G : zS T A s.heap s [[zO0 h md wy la pc_ a1_1 a2_2 a3_3 a4_4 a5_5 a6_6], [zAr T 0 a1_1 7 f1], [zAr T 0 a2_2 7 f2], [zAr T 0 a3_3 7 (upd (upd (upd (upd (upd (upd (upd (upd f3 6 ((f3 6) + 1)) 6 0) 5 (((upd (upd f3 6 ((f3 6) + 1)) 6 0) 5) + 1)) 5 0) 4 (((upd (upd (upd (upd f3 6 ((f3 6) + 1)) 6 0) 5 (((upd (upd f3 6 ((f3 6) + 1)) 6 0) 5) + 1)) 5 0) 4) + 1)) 4 0) 3 (((upd (upd (upd (upd (upd (upd f3 6 ((f3 6) + 1)) 6 0) 5 (((upd (upd f3 6 ((f3 6) + 1)) 6 0) 5) + 1)) 5 0) 4 (((upd (upd (upd (upd f3 6 ((f3 6) + 1)) 6 0) 5 (((upd (upd f3 6 ((f3 6) + 1)) 6 0) 5) + 1)) 5 0) 4) + 1)) 4 0) 3) + 1)) 3 0)], [zAr T 0 a4_4 n4 f4], [zAr T 0 a5_5 n4 f5], [zAr T 0 a6_6 n4 f6]] _ _ := G
          refine lv_iinc (v := 2) (lv' := [(1, .int 2), (0, .ref h)]) hx hb dX0_nextRow_40 hl (k := 0) rfl (by decide) (by decide) (zLvf_h rfl) (fun ls hl => ?_)
          refine lv_goto (tgt := 3) hx hb dX0_nextRow_43 (by decide) ?_
          refine lv_iload_n hx hb dX0_nextRow_3 rfl (lv_at hl 0 rfl) ?_
          refine lv_if_lt (tgt := 46) hx hb dX0_nextRow_4 (by decide) (fun q => absurd q (by decide)) (fun _ => ?_)
          refine lv_aload_n hx hb dX0_nextRow_7 rfl (lv_at hl 1 rfl) ?_
          refine z_get C G clX0 0 rfl 6 (by decide) m_fl_RX0_25 rfl dX0_nextRow_8 ?_
          refine lv_iload_n hx hb dX0_nextRow_11 rfl (lv_at hl 0 rfl) ?_
          refine lv_dup2_11 hx hb dX0_nextRow_12 rfl rfl ?_
          refine z_ild C G 3 rfl (vp_in_nI (n := 2) (by decide) (by decide)) dX0_nextRow_13 ?_
          refine lv_topi (fun v_23 ev_23 => ?_)
          rw [show ((2 : Int32).toNatClampNeg) = 2 from rfl] at ev_23
          subst ev_23
          refine lv_iconst (v := 1) hx hb dX0_nextRow_14 (by decide) ?_
          refine lv_iadd hx hb dX0_nextRow_15 ?_
          refine z_ist C G 3 rfl (vp_in_nI (n := 2) (by decide) (by decide)) dX0_nextRow_16 (fun H locs G => ?_)
          have G : zS T A s.heap s [[zO0 h md wy la pc_ a1_1 a2_2 a3_3 a4_4 a5_5 a6_6], [zAr T 0 a1_1 7 f1], [zAr T 0 a2_2 7 f2], [zAr T 0 a3_3 7 (upd (upd (upd (upd (upd (upd (upd (upd (upd f3 6 ((f3 6) + 1)) 6 0) 5 (((upd (upd f3 6 ((f3 6) + 1)) 6 0) 5) + 1)) 5 0) 4 (((upd (upd (upd (upd f3 6 ((f3 6) + 1)) 6 0) 5 (((upd (upd f3 6 ((f3 6) + 1)) 6 0) 5) + 1)) 5 0) 4) + 1)) 4 0) 3 (((upd (upd (upd (upd (upd (upd f3 6 ((f3 6) + 1)) 6 0) 5 (((upd (upd f3 6 ((f3 6) + 1)) 6 0) 5) + 1)) 5 0) 4 (((upd (upd (upd (upd f3 6 ((f3 6) + 1)) 6 0) 5 (((upd (upd f3 6 ((f3 6) + 1)) 6 0) 5) + 1)) 5 0) 4) + 1)) 4 0) 3) + 1)) 3 0) 2 (((upd (upd (upd (upd (upd (upd (upd (upd f3 6 ((f3 6) + 1)) 6 0) 5 (((upd (upd f3 6 ((f3 6) + 1)) 6 0) 5) + 1)) 5 0) 4 (((upd (upd (upd (upd f3 6 ((f3 6) + 1)) 6 0) 5 (((upd (upd f3 6 ((f3 6) + 1)) 6 0) 5) + 1)) 5 0) 4) + 1)) 4 0) 3 (((upd (upd (upd (upd (upd (upd f3 6 ((f3 6) + 1)) 6 0) 5 (((upd (upd f3 6 ((f3 6) + 1)) 6 0) 5) + 1)) 5 0) 4 (((upd (upd (upd (upd f3 6 ((f3 6) + 1)) 6 0) 5 (((upd (upd f3 6 ((f3 6) + 1)) 6 0) 5) + 1)) 5 0) 4) + 1)) 4 0) 3) + 1)) 3 0) 2) + 1))], [zAr T 0 a4_4 n4 f4], [zAr T 0 a5_5 n4 f5], [zAr T 0 a6_6 n4 f6]] _ _ := G
          refine lv_aload_n hx hb dX0_nextRow_17 rfl (lv_at hl 1 rfl) ?_
          refine z_get C G clX0 0 rfl 6 (by decide) m_fl_RX0_25 rfl dX0_nextRow_18 ?_
          refine lv_iload_n hx hb dX0_nextRow_21 rfl (lv_at hl 0 rfl) ?_
          refine z_ild C G 3 rfl (vp_in_nI (n := 2) (by decide) (by decide)) dX0_nextRow_22 ?_
          refine lv_topi (fun v_24 ev_24 => ?_)
          have ev_24 : v_24 = ((upd (upd (upd (upd (upd (upd (upd (upd f3 6 ((f3 6) + 1)) 6 0) 5 (((upd (upd f3 6 ((f3 6) + 1)) 6 0) 5) + 1)) 5 0) 4 (((upd (upd (upd (upd f3 6 ((f3 6) + 1)) 6 0) 5 (((upd (upd f3 6 ((f3 6) + 1)) 6 0) 5) + 1)) 5 0) 4) + 1)) 4 0) 3 (((upd (upd (upd (upd (upd (upd f3 6 ((f3 6) + 1)) 6 0) 5 (((upd (upd f3 6 ((f3 6) + 1)) 6 0) 5) + 1)) 5 0) 4 (((upd (upd (upd (upd f3 6 ((f3 6) + 1)) 6 0) 5 (((upd (upd f3 6 ((f3 6) + 1)) 6 0) 5) + 1)) 5 0) 4) + 1)) 4 0) 3) + 1)) 3 0) 2) + 1 := ev_24
          subst ev_24
          refine lv_aload_n hx hb dX0_nextRow_23 rfl (lv_at hl 1 rfl) ?_
          refine z_get C G clX0 0 rfl 4 (by decide) m_fl_RX0_18 rfl dX0_nextRow_24 ?_
          refine lv_iload_n hx hb dX0_nextRow_27 rfl (lv_at hl 0 rfl) ?_
          refine z_ild C G 1 rfl (vp_in_nI (n := 2) (by decide) (by decide)) dX0_nextRow_28 ?_
          refine lv_topi (fun v_25 ev_25 => ?_)
          rw [show ((2 : Int32).toNatClampNeg) = 2 from rfl] at ev_25
          subst ev_25
          refine lv_icmp_ge (tgt := 33) hx hb dX0_nextRow_29 (by decide) (fun c_26 => ?_) (fun c_26 => ?_)
          · have c_26n : (f1 2).toInt ≤ (((upd (upd (upd (upd (upd (upd (upd (upd f3 6 ((f3 6) + 1)) 6 0) 5 (((upd (upd f3 6 ((f3 6) + 1)) 6 0) 5) + 1)) 5 0) 4 (((upd (upd (upd (upd f3 6 ((f3 6) + 1)) 6 0) 5 (((upd (upd f3 6 ((f3 6) + 1)) 6 0) 5) + 1)) 5 0) 4) + 1)) 4 0) 3 (((upd (upd (upd (upd (upd (upd f3 6 ((f3 6) + 1)) 6 0) 5 (((upd (upd f3 6 ((f3 6) + 1)) 6 0) 5) + 1)) 5 0) 4 (((upd (upd (upd (upd f3 6 ((f3 6) + 1)) 6 0) 5 (((upd (upd f3 6 ((f3 6) + 1)) 6 0) 5) + 1)) 5 0) 4) + 1)) 4 0) 3) + 1)) 3 0) 2) + 1).toInt := (fa_le _ _).mp c_26
            refine lv_aload_n hx hb dX0_nextRow_33 rfl (lv_at hl 1 rfl) ?_
            refine z_get C G clX0 0 rfl 6 (by decide) m_fl_RX0_25 rfl dX0_nextRow_34 ?_
            refine lv_iload_n hx hb dX0_nextRow_37 rfl (lv_at hl 0 rfl) ?_
            refine lv_iconst (v := 0) hx hb dX0_nextRow_38 (by decide) ?_
            refine z_ist C G 3 rfl (vp_in_nI (n := 2) (by decide) (by decide)) dX0_nextRow_39 (fun H locs G => ?_)
            have G : zS T A s.heap s [[zO0 h md wy la pc_ a1_1 a2_2 a3_3 a4_4 a5_5 a6_6], [zAr T 0 a1_1 7 f1], [zAr T 0 a2_2 7 f2], [zAr T 0 a3_3 7 (upd (upd (upd (upd (upd (upd (upd (upd (upd (upd f3 6 ((f3 6) + 1)) 6 0) 5 (((upd (upd f3 6 ((f3 6) + 1)) 6 0) 5) + 1)) 5 0) 4 (((upd (upd (upd (upd f3 6 ((f3 6) + 1)) 6 0) 5 (((upd (upd f3 6 ((f3 6) + 1)) 6 0) 5) + 1)) 5 0) 4) + 1)) 4 0) 3 (((upd (upd (upd (upd (upd (upd f3 6 ((f3 6) + 1)) 6 0) 5 (((upd (upd f3 6 ((f3 6) + 1)) 6 0) 5) + 1)) 5 0) 4 (((upd (upd (upd (upd f3 6 ((f3 6) + 1)) 6 0) 5 (((upd (upd f3 6 ((f3 6) + 1)) 6 0) 5) + 1)) 5 0) 4) + 1)) 4 0) 3) + 1)) 3 0) 2 (((upd (upd (upd (upd (upd (upd (upd (upd f3 6 ((f3 6) + 1)) 6 0) 5 (((upd (upd f3 6 ((f3 6) + 1)) 6 0) 5) + 1)) 5 0) 4 (((upd (upd (upd (upd f3 6 ((f3 6) + 1)) 6 0) 5 (((upd (upd f3 6 ((f3 6) + 1)) 6 0) 5) + 1)) 5 0) 4) + 1)) 4 0) 3 (((upd (upd (upd (upd (upd (upd f3 6 ((f3 6) + 1)) 6 0) 5 (((upd (upd f3 6 ((f3 6) + 1)) 6 0) 5) + 1)) 5 0) 4 (((upd (upd (upd (upd f3 6 ((f3 6) + 1)) 6 0) 5 (((upd (upd f3 6 ((f3 6) + 1)) 6 0) 5) + 1)) 5 0) 4) + 1)) 4 0) 3) + 1)) 3 0) 2) + 1)) 2 0)], [zAr T 0 a4_4 n4 f4], [zAr T 0 a5_5 n4 f5], [zAr T 0 a6_6 n4 f6]] _ _ := G
            refine lv_iinc (v := 1) (lv' := [(1, .int 1), (0, .ref h)]) hx hb dX0_nextRow_40 hl (k := 0) rfl (by decide) (by decide) (zLvf_h rfl) (fun ls hl => ?_)
            refine lv_goto (tgt := 3) hx hb dX0_nextRow_43 (by decide) ?_
            refine lv_iload_n hx hb dX0_nextRow_3 rfl (lv_at hl 0 rfl) ?_
            refine lv_if_lt (tgt := 46) hx hb dX0_nextRow_4 (by decide) (fun q => absurd q (by decide)) (fun _ => ?_)
            refine lv_aload_n hx hb dX0_nextRow_7 rfl (lv_at hl 1 rfl) ?_
            refine z_get C G clX0 0 rfl 6 (by decide) m_fl_RX0_25 rfl dX0_nextRow_8 ?_
            refine lv_iload_n hx hb dX0_nextRow_11 rfl (lv_at hl 0 rfl) ?_
            refine lv_dup2_11 hx hb dX0_nextRow_12 rfl rfl ?_
            refine z_ild C G 3 rfl (vp_in_nI (n := 1) (by decide) (by decide)) dX0_nextRow_13 ?_
            refine lv_topi (fun v_27 ev_27 => ?_)
            rw [show ((1 : Int32).toNatClampNeg) = 1 from rfl] at ev_27
            subst ev_27
            refine lv_iconst (v := 1) hx hb dX0_nextRow_14 (by decide) ?_
            refine lv_iadd hx hb dX0_nextRow_15 ?_
            refine z_ist C G 3 rfl (vp_in_nI (n := 1) (by decide) (by decide)) dX0_nextRow_16 (fun H locs G => ?_)
            have G : zS T A s.heap s [[zO0 h md wy la pc_ a1_1 a2_2 a3_3 a4_4 a5_5 a6_6], [zAr T 0 a1_1 7 f1], [zAr T 0 a2_2 7 f2], [zAr T 0 a3_3 7 (upd (upd (upd (upd (upd (upd (upd (upd (upd (upd (upd f3 6 ((f3 6) + 1)) 6 0) 5 (((upd (upd f3 6 ((f3 6) + 1)) 6 0) 5) + 1)) 5 0) 4 (((upd (upd (upd (upd f3 6 ((f3 6) + 1)) 6 0) 5 (((upd (upd f3 6 ((f3 6) + 1)) 6 0) 5) + 1)) 5 0) 4) + 1)) 4 0) 3 (((upd (upd (upd (upd (upd (upd f3 6 ((f3 6) + 1)) 6 0) 5 (((upd (upd f3 6 ((f3 6) + 1)) 6 0) 5) + 1)) 5 0) 4 (((upd (upd (upd (upd f3 6 ((f3 6) + 1)) 6 0) 5 (((upd (upd f3 6 ((f3 6) + 1)) 6 0) 5) + 1)) 5 0) 4) + 1)) 4 0) 3) + 1)) 3 0) 2 (((upd (upd (upd (upd (upd (upd (upd (upd f3 6 ((f3 6) + 1)) 6 0) 5 (((upd (upd f3 6 ((f3 6) + 1)) 6 0) 5) + 1)) 5 0) 4 (((upd (upd (upd (upd f3 6 ((f3 6) + 1)) 6 0) 5 (((upd (upd f3 6 ((f3 6) + 1)) 6 0) 5) + 1)) 5 0) 4) + 1)) 4 0) 3 (((upd (upd (upd (upd (upd (upd f3 6 ((f3 6) + 1)) 6 0) 5 (((upd (upd f3 6 ((f3 6) + 1)) 6 0) 5) + 1)) 5 0) 4 (((upd (upd (upd (upd f3 6 ((f3 6) + 1)) 6 0) 5 (((upd (upd f3 6 ((f3 6) + 1)) 6 0) 5) + 1)) 5 0) 4) + 1)) 4 0) 3) + 1)) 3 0) 2) + 1)) 2 0) 1 (((upd (upd (upd (upd (upd (upd (upd (upd (upd (upd f3 6 ((f3 6) + 1)) 6 0) 5 (((upd (upd f3 6 ((f3 6) + 1)) 6 0) 5) + 1)) 5 0) 4 (((upd (upd (upd (upd f3 6 ((f3 6) + 1)) 6 0) 5 (((upd (upd f3 6 ((f3 6) + 1)) 6 0) 5) + 1)) 5 0) 4) + 1)) 4 0) 3 (((upd (upd (upd (upd (upd (upd f3 6 ((f3 6) + 1)) 6 0) 5 (((upd (upd f3 6 ((f3 6) + 1)) 6 0) 5) + 1)) 5 0) 4 (((upd (upd (upd (upd f3 6 ((f3 6) + 1)) 6 0) 5 (((upd (upd f3 6 ((f3 6) + 1)) 6 0) 5) + 1)) 5 0) 4) + 1)) 4 0) 3) + 1)) 3 0) 2 (((upd (upd (upd (upd (upd (upd (upd (upd f3 6 ((f3 6) + 1)) 6 0) 5 (((upd (upd f3 6 ((f3 6) + 1)) 6 0) 5) + 1)) 5 0) 4 (((upd (upd (upd (upd f3 6 ((f3 6) + 1)) 6 0) 5 (((upd (upd f3 6 ((f3 6) + 1)) 6 0) 5) + 1)) 5 0) 4) + 1)) 4 0) 3 (((upd (upd (upd (upd (upd (upd f3 6 ((f3 6) + 1)) 6 0) 5 (((upd (upd f3 6 ((f3 6) + 1)) 6 0) 5) + 1)) 5 0) 4 (((upd (upd (upd (upd f3 6 ((f3 6) + 1)) 6 0) 5 (((upd (upd f3 6 ((f3 6) + 1)) 6 0) 5) + 1)) 5 0) 4) + 1)) 4 0) 3) + 1)) 3 0) 2) + 1)) 2 0) 1) + 1))], [zAr T 0 a4_4 n4 f4], [zAr T 0 a5_5 n4 f5], [zAr T 0 a6_6 n4 f6]] _ _ := G
            refine lv_aload_n hx hb dX0_nextRow_17 rfl (lv_at hl 1 rfl) ?_
            refine z_get C G clX0 0 rfl 6 (by decide) m_fl_RX0_25 rfl dX0_nextRow_18 ?_
            refine lv_iload_n hx hb dX0_nextRow_21 rfl (lv_at hl 0 rfl) ?_
            refine z_ild C G 3 rfl (vp_in_nI (n := 1) (by decide) (by decide)) dX0_nextRow_22 ?_
            refine lv_topi (fun v_28 ev_28 => ?_)
            have ev_28 : v_28 = ((upd (upd (upd (upd (upd (upd (upd (upd (upd (upd f3 6 ((f3 6) + 1)) 6 0) 5 (((upd (upd f3 6 ((f3 6) + 1)) 6 0) 5) + 1)) 5 0) 4 (((upd (upd (upd (upd f3 6 ((f3 6) + 1)) 6 0) 5 (((upd (upd f3 6 ((f3 6) + 1)) 6 0) 5) + 1)) 5 0) 4) + 1)) 4 0) 3 (((upd (upd (upd (upd (upd (upd f3 6 ((f3 6) + 1)) 6 0) 5 (((upd (upd f3 6 ((f3 6) + 1)) 6 0) 5) + 1)) 5 0) 4 (((upd (upd (upd (upd f3 6 ((f3 6) + 1)) 6 0) 5 (((upd (upd f3 6 ((f3 6) + 1)) 6 0) 5) + 1)) 5 0) 4) + 1)) 4 0) 3) + 1)) 3 0) 2 (((upd (upd (upd (upd (upd (upd (upd (upd f3 6 ((f3 6) + 1)) 6 0) 5 (((upd (upd f3 6 ((f3 6) + 1)) 6 0) 5) + 1)) 5 0) 4 (((upd (upd (upd (upd f3 6 ((f3 6) + 1)) 6 0) 5 (((upd (upd f3 6 ((f3 6) + 1)) 6 0) 5) + 1)) 5 0) 4) + 1)) 4 0) 3 (((upd (upd (upd (upd (upd (upd f3 6 ((f3 6) + 1)) 6 0) 5 (((upd (upd f3 6 ((f3 6) + 1)) 6 0) 5) + 1)) 5 0) 4 (((upd (upd (upd (upd f3 6 ((f3 6) + 1)) 6 0) 5 (((upd (upd f3 6 ((f3 6) + 1)) 6 0) 5) + 1)) 5 0) 4) + 1)) 4 0) 3) + 1)) 3 0) 2) + 1)) 2 0) 1) + 1 := ev_28
            subst ev_28
            refine lv_aload_n hx hb dX0_nextRow_23 rfl (lv_at hl 1 rfl) ?_
            refine z_get C G clX0 0 rfl 4 (by decide) m_fl_RX0_18 rfl dX0_nextRow_24 ?_
            refine lv_iload_n hx hb dX0_nextRow_27 rfl (lv_at hl 0 rfl) ?_
            refine z_ild C G 1 rfl (vp_in_nI (n := 1) (by decide) (by decide)) dX0_nextRow_28 ?_
            refine lv_topi (fun v_29 ev_29 => ?_)
            rw [show ((1 : Int32).toNatClampNeg) = 1 from rfl] at ev_29
            subst ev_29
            refine lv_icmp_ge (tgt := 33) hx hb dX0_nextRow_29 (by decide) (fun c_30 => ?_) (fun c_30 => ?_)
            · have c_30n : (f1 1).toInt ≤ (((upd (upd (upd (upd (upd (upd (upd (upd (upd (upd f3 6 ((f3 6) + 1)) 6 0) 5 (((upd (upd f3 6 ((f3 6) + 1)) 6 0) 5) + 1)) 5 0) 4 (((upd (upd (upd (upd f3 6 ((f3 6) + 1)) 6 0) 5 (((upd (upd f3 6 ((f3 6) + 1)) 6 0) 5) + 1)) 5 0) 4) + 1)) 4 0) 3 (((upd (upd (upd (upd (upd (upd f3 6 ((f3 6) + 1)) 6 0) 5 (((upd (upd f3 6 ((f3 6) + 1)) 6 0) 5) + 1)) 5 0) 4 (((upd (upd (upd (upd f3 6 ((f3 6) + 1)) 6 0) 5 (((upd (upd f3 6 ((f3 6) + 1)) 6 0) 5) + 1)) 5 0) 4) + 1)) 4 0) 3) + 1)) 3 0) 2 (((upd (upd (upd (upd (upd (upd (upd (upd f3 6 ((f3 6) + 1)) 6 0) 5 (((upd (upd f3 6 ((f3 6) + 1)) 6 0) 5) + 1)) 5 0) 4 (((upd (upd (upd (upd f3 6 ((f3 6) + 1)) 6 0) 5 (((upd (upd f3 6 ((f3 6) + 1)) 6 0) 5) + 1)) 5 0) 4) + 1)) 4 0) 3 (((upd (upd (upd (upd (upd (upd f3 6 ((f3 6) + 1)) 6 0) 5 (((upd (upd f3 6 ((f3 6) + 1)) 6 0) 5) + 1)) 5 0) 4 (((upd (upd (upd (upd f3 6 ((f3 6) + 1)) 6 0) 5 (((upd (upd f3 6 ((f3 6) + 1)) 6 0) 5) + 1)) 5 0) 4) + 1)) 4 0) 3) + 1)) 3 0) 2) + 1)) 2 0) 1) + 1).toInt := (fa_le _ _).mp c_30
              refine lv_aload_n hx hb dX0_nextRow_33 rfl (lv_at hl 1 rfl) ?_
              refine z_get C G clX0 0 rfl 6 (by decide) m_fl_RX0_25 rfl dX0_nextRow_34 ?_
              refine lv_iload_n hx hb dX0_nextRow_37 rfl (lv_at hl 0 rfl) ?_
              refine lv_iconst (v := 0) hx hb dX0_nextRow_38 (by decide) ?_
              refine z_ist C G 3 rfl (vp_in_nI (n := 1) (by decide) (by decide)) dX0_nextRow_39 (fun H locs G => ?_)
              have G : zS T A s.heap s [[zO0 h md wy la pc_ a1_1 a2_2 a3_3 a4_4 a5_5 a6_6], [zAr T 0 a1_1 7 f1], [zAr T 0 a2_2 7 f2], [zAr T 0 a3_3 7 (upd (upd (upd (upd (upd (upd (upd (upd (upd (upd (upd (upd f3 6 ((f3 6) + 1)) 6 0) 5 (((upd (upd f3 6 ((f3 6) + 1)) 6 0) 5) + 1)) 5 0) 4 (((upd (upd (upd (upd f3 6 ((f3 6) + 1)) 6 0) 5 (((upd (upd f3 6 ((f3 6) + 1)) 6 0) 5) + 1)) 5 0) 4) + 1)) 4 0) 3 (((upd (upd (upd (upd (upd (upd f3 6 ((f3 6) + 1)) 6 0) 5 (((upd (upd f3 6 ((f3 6) + 1)) 6 0) 5) + 1)) 5 0) 4 (((upd (upd (upd (upd f3 6 ((f3 6) + 1)) 6 0) 5 (((upd (upd f3 6 ((f3 6) + 1)) 6 0) 5) + 1)) 5 0) 4) + 1)) 4 0) 3) + 1)) 3 0) 2 (((upd (upd (upd (upd (upd (upd (upd (upd f3 6 ((f3 6) + 1)) 6 0) 5 (((upd (upd f3 6 ((f3 6) + 1)) 6 0) 5) + 1)) 5 0) 4 (((upd (upd (upd (upd f3 6 ((f3 6) + 1)) 6 0) 5 (((upd (upd f3 6 ((f3 6) + 1)) 6 0) 5) + 1)) 5 0) 4) + 1)) 4 0) 3 (((upd (upd (upd (upd (upd (upd f3 6 ((f3 6) + 1)) 6 0) 5 (((upd (upd f3 6 ((f3 6) + 1)) 6 0) 5) + 1)) 5 0) 4 (((upd (upd (upd (upd f3 6 ((f3 6) + 1)) 6 0) 5 (((upd (upd f3 6 ((f3 6) + 1)) 6 0) 5) + 1)) 5 0) 4) + 1)) 4 0) 3) + 1)) 3 0) 2) + 1)) 2 0) 1 (((upd (upd (upd (upd (upd (upd (upd (upd (upd (upd f3 6 ((f3 6) + 1)) 6 0) 5 (((upd (upd f3 6 ((f3 6) + 1)) 6 0) 5) + 1)) 5 0) 4 (((upd (upd (upd (upd f3 6 ((f3 6) + 1)) 6 0) 5 (((upd (upd f3 6 ((f3 6) + 1)) 6 0) 5) + 1)) 5 0) 4) + 1)) 4 0) 3 (((upd (upd (upd (upd (upd (upd f3 6 ((f3 6) + 1)) 6 0) 5 (((upd (upd f3 6 ((f3 6) + 1)) 6 0) 5) + 1)) 5 0) 4 (((upd (upd (upd (upd f3 6 ((f3 6) + 1)) 6 0) 5 (((upd (upd f3 6 ((f3 6) + 1)) 6 0) 5) + 1)) 5 0) 4) + 1)) 4 0) 3) + 1)) 3 0) 2 (((upd (upd (upd (upd (upd (upd (upd (upd f3 6 ((f3 6) + 1)) 6 0) 5 (((upd (upd f3 6 ((f3 6) + 1)) 6 0) 5) + 1)) 5 0) 4 (((upd (upd (upd (upd f3 6 ((f3 6) + 1)) 6 0) 5 (((upd (upd f3 6 ((f3 6) + 1)) 6 0) 5) + 1)) 5 0) 4) + 1)) 4 0) 3 (((upd (upd (upd (upd (upd (upd f3 6 ((f3 6) + 1)) 6 0) 5 (((upd (upd f3 6 ((f3 6) + 1)) 6 0) 5) + 1)) 5 0) 4 (((upd (upd (upd (upd f3 6 ((f3 6) + 1)) 6 0) 5 (((upd (upd f3 6 ((f3 6) + 1)) 6 0) 5) + 1)) 5 0) 4) + 1)) 4 0) 3) + 1)) 3 0) 2) + 1)) 2 0) 1) + 1)) 1 0)], [zAr T 0 a4_4 n4 f4], [zAr T 0 a5_5 n4 f5], [zAr T 0 a6_6 n4 f6]] _ _ := G
              refine lv_iinc (v := 0) (lv' := [(1, .int 0), (0, .ref h)]) hx hb dX0_nextRow_40 hl (k := 0) rfl (by decide) (by decide) (zLvf_h rfl) (fun ls hl => ?_)
              refine lv_goto (tgt := 3) hx hb dX0_nextRow_43 (by decide) ?_
              refine lv_iload_n hx hb dX0_nextRow_3 rfl (lv_at hl 0 rfl) ?_
              refine lv_if_lt (tgt := 46) hx hb dX0_nextRow_4 (by decide) (fun q => absurd q (by decide)) (fun _ => ?_)
              refine lv_aload_n hx hb dX0_nextRow_7 rfl (lv_at hl 1 rfl) ?_
              refine z_get C G clX0 0 rfl 6 (by decide) m_fl_RX0_25 rfl dX0_nextRow_8 ?_
              refine lv_iload_n hx hb dX0_nextRow_11 rfl (lv_at hl 0 rfl) ?_
              refine lv_dup2_11 hx hb dX0_nextRow_12 rfl rfl ?_
              refine z_ild C G 3 rfl (vp_in_nI (n := 0) (by decide) (by decide)) dX0_nextRow_13 ?_
              refine lv_topi (fun v_31 ev_31 => ?_)
              rw [show ((0 : Int32).toNatClampNeg) = 0 from rfl] at ev_31
              subst ev_31
              refine lv_iconst (v := 1) hx hb dX0_nextRow_14 (by decide) ?_
              refine lv_iadd hx hb dX0_nextRow_15 ?_
              refine z_ist C G 3 rfl (vp_in_nI (n := 0) (by decide) (by decide)) dX0_nextRow_16 (fun H locs G => ?_)
              have G : zS T A s.heap s [[zO0 h md wy la pc_ a1_1 a2_2 a3_3 a4_4 a5_5 a6_6], [zAr T 0 a1_1 7 f1], [zAr T 0 a2_2 7 f2], [zAr T 0 a3_3 7 (upd (upd (upd (upd (upd (upd (upd (upd (upd (upd (upd (upd (upd f3 6 ((f3 6) + 1)) 6 0) 5 (((upd (upd f3 6 ((f3 6) + 1)) 6 0) 5) + 1)) 5 0) 4 (((upd (upd (upd (upd f3 6 ((f3 6) + 1)) 6 0) 5 (((upd (upd f3 6 ((f3 6) + 1)) 6 0) 5) + 1)) 5 0) 4) + 1)) 4 0) 3 (((upd (upd (upd (upd (upd (upd f3 6 ((f3 6) + 1)) 6 0) 5 (((upd (upd f3 6 ((f3 6) + 1)) 6 0) 5) + 1)) 5 0) 4 (((upd (upd (upd (upd f3 6 ((f3 6) + 1)) 6 0) 5 (((upd (upd f3 6 ((f3 6) + 1)) 6 0) 5) + 1)) 5 0) 4) + 1)) 4 0) 3) + 1)) 3 0) 2 (((upd (upd (upd (upd (upd (upd (upd (upd f3 6 ((f3 6) + 1)) 6 0) 5 (((upd (upd f3 6 ((f3 6) + 1)) 6 0) 5) + 1)) 5 0) 4 (((upd (upd (upd (upd f3 6 ((f3 6) + 1)) 6 0) 5 (((upd (upd f3 6 ((f3 6) + 1)) 6 0) 5) + 1)) 5 0) 4) + 1)) 4 0) 3 (((upd (upd (upd (upd (upd (upd f3 6 ((f3 6) + 1)) 6 0) 5 (((upd (upd f3 6 ((f3 6) + 1)) 6 0) 5) + 1)) 5 0) 4 (((upd (upd (upd (upd f3 6 ((f3 6) + 1)) 6 0) 5 (((upd (upd f3 6 ((f3 6) + 1)) 6 0) 5) + 1)) 5 0) 4) + 1)) 4 0) 3) + 1)) 3 0) 2) + 1)) 2 0) 1 (((upd (upd (upd (upd (upd (upd (upd (upd (upd (upd f3 6 ((f3 6) + 1)) 6 0) 5 (((upd (upd f3 6 ((f3 6) + 1)) 6 0) 5) + 1)) 5 0) 4 (((upd (upd (upd (upd f3 6 ((f3 6) + 1)) 6 0) 5 (((upd (upd f3 6 ((f3 6) + 1)) 6 0) 5) + 1)) 5 0) 4) + 1)) 4 0) 3 (((upd (upd (upd (upd (upd (upd f3 6 ((f3 6) + 1)) 6 0) 5 (((upd (upd f3 6 ((f3 6) + 1)) 6 0) 5) + 1)) 5 0) 4 (((upd (upd (upd (upd f3 6 ((f3 6) + 1)) 6 0) 5 (((upd (upd f3 6 ((f3 6) + 1)) 6 0) 5) + 1)) 5 0) 4) + 1)) 4 0) 3) + 1)) 3 0) 2 (((upd (upd (upd (upd (upd (upd (upd (upd f3 6 ((f3 6) + 1)) 6 0) 5 (((upd (upd f3 6 ((f3 6) + 1)) 6 0) 5) + 1)) 5 0) 4 (((upd (upd (upd (upd f3 6 ((f3 6) + 1)) 6 0) 5 (((upd (upd f3 6 ((f3 6) + 1)) 6 0) 5) + 1)) 5 0) 4) + 1)) 4 0) 3 (((upd (upd (upd (upd (upd (upd f3 6 ((f3 6) + 1)) 6 0) 5 (((upd (upd f3 6 ((f3 6) + 1)) 6 0) 5) + 1)) 5 0) 4 (((upd (upd (upd (upd f3 6 ((f3 6) + 1)) 6 0) 5 (((upd (upd f3 6 ((f3 6) + 1)) 6 0) 5) + 1)) 5 0) 4) + 1)) 4 0) 3) + 1)) 3 0) 2) + 1)) 2 0) 1) + 1)) 1 0) 0 (((upd (upd (upd (upd (upd (upd (upd (upd (upd (upd (upd (upd f3 6 ((f3 6) + 1)) 6 0) 5 (((upd (upd f3 6 ((f3 6) + 1)) 6 0) 5) + 1)) 5 0) 4 (((upd (upd (upd (upd f3 6 ((f3 6) + 1)) 6 0) 5 (((upd (upd f3 6 ((f3 6) + 1)) 6 0) 5) + 1)) 5 0) 4) + 1)) 4 0) 3 (((upd (upd (upd (upd (upd (upd f3 6 ((f3 6) + 1)) 6 0) 5 (((upd (upd f3 6 ((f3 6) + 1)) 6 0) 5) + 1)) 5 0) 4 (((upd (upd (upd (upd f3 6 ((f3 6) + 1)) 6 0) 5 (((upd (upd f3 6 ((f3 6) + 1)) 6 0) 5) + 1)) 5 0) 4) + 1)) 4 0) 3) + 1)) 3 0) 2 (((upd (upd (upd (upd (upd (upd (upd (upd f3 6 ((f3 6) + 1)) 6 0) 5 (((upd (upd f3 6 ((f3 6) + 1)) 6 0) 5) + 1)) 5 0) 4 (((upd (upd (upd (upd f3 6 ((f3 6) + 1)) 6 0) 5 (((upd (upd f3 6 ((f3 6) + 1)) 6 0) 5) + 1)) 5 0) 4) + 1)) 4 0) 3 (((upd (upd (upd (upd (upd (upd f3 6 ((f3 6) + 1)) 6 0) 5 (((upd (upd f3 6 ((f3 6) + 1)) 6 0) 5) + 1)) 5 0) 4 (((upd (upd (upd (upd f3 6 ((f3 6) + 1)) 6 0) 5 (((upd (upd f3 6 ((f3 6) + 1)) 6 0) 5) + 1)) 5 0) 4) + 1)) 4 0) 3) + 1)) 3 0) 2) + 1)) 2 0) 1 (((upd (upd (upd (upd (upd (upd (upd (upd (upd (upd f3 6 ((f3 6) + 1)) 6 0) 5 (((upd (upd f3 6 ((f3 6) + 1)) 6 0) 5) + 1)) 5 0) 4 (((upd (upd (upd (upd f3 6 ((f3 6) + 1)) 6 0) 5 (((upd (upd f3 6 ((f3 6) + 1)) 6 0) 5) + 1)) 5 0) 4) + 1)) 4 0) 3 (((upd (upd (upd (upd (upd (upd f3 6 ((f3 6) + 1)) 6 0) 5 (((upd (upd f3 6 ((f3 6) + 1)) 6 0) 5) + 1)) 5 0) 4 (((upd (upd (upd (upd f3 6 ((f3 6) + 1)) 6 0) 5 (((upd (upd f3 6 ((f3 6) + 1)) 6 0) 5) + 1)) 5 0) 4) + 1)) 4 0) 3) + 1)) 3 0) 2 (((upd (upd (upd (upd (upd (upd (upd (upd f3 6 ((f3 6) + 1)) 6 0) 5 (((upd (upd f3 6 ((f3 6) + 1)) 6 0) 5) + 1)) 5 0) 4 (((upd (upd (upd (upd f3 6 ((f3 6) + 1)) 6 0) 5 (((upd (upd f3 6 ((f3 6) + 1)) 6 0) 5) + 1)) 5 0) 4) + 1)) 4 0) 3 (((upd (upd (upd (upd (upd (upd f3 6 ((f3 6) + 1)) 6 0) 5 (((upd (upd f3 6 ((f3 6) + 1)) 6 0) 5) + 1)) 5 0) 4 (((upd (upd (upd (upd f3 6 ((f3 6) + 1)) 6 0) 5 (((upd (upd f3 6 ((f3 6) + 1)) 6 0) 5) + 1)) 5 0) 4) + 1)) 4 0) 3) + 1)) 3 0) 2) + 1)) 2 0) 1) + 1)) 1 0) 0) + 1))], [zAr T 0 a4_4 n4 f4], [zAr T 0 a5_5 n4 f5], [zAr T 0 a6_6 n4 f6]] _ _ := G
              refine lv_aload_n hx hb dX0_nextRow_17 rfl (lv_at hl 1 rfl) ?_
              refine z_get C G clX0 0 rfl 6 (by decide) m_fl_RX0_25 rfl dX0_nextRow_18 ?_
              refine lv_iload_n hx hb dX0_nextRow_21 rfl (lv_at hl 0 rfl) ?_
              refine z_ild C G 3 rfl (vp_in_nI (n := 0) (by decide) (by decide)) dX0_nextRow_22 ?_
              refine lv_topi (fun v_32 ev_32 => ?_)
              have ev_32 : v_32 = ((upd (upd (upd (upd (upd (upd (upd (upd (upd (upd (upd (upd f3 6 ((f3 6) + 1)) 6 0) 5 (((upd (upd f3 6 ((f3 6) + 1)) 6 0) 5) + 1)) 5 0) 4 (((upd (upd (upd (upd f3 6 ((f3 6) + 1)) 6 0) 5 (((upd (upd f3 6 ((f3 6) + 1)) 6 0) 5) + 1)) 5 0) 4) + 1)) 4 0) 3 (((upd (upd (upd (upd (upd (upd f3 6 ((f3 6) + 1)) 6 0) 5 (((upd (upd f3 6 ((f3 6) + 1)) 6 0) 5) + 1)) 5 0) 4 (((upd (upd (upd (upd f3 6 ((f3 6) + 1)) 6 0) 5 (((upd (upd f3 6 ((f3 6) + 1)) 6 0) 5) + 1)) 5 0) 4) + 1)) 4 0) 3) + 1)) 3 0) 2 (((upd (upd (upd (upd (upd (upd (upd (upd f3 6 ((f3 6) + 1)) 6 0) 5 (((upd (upd f3 6 ((f3 6) + 1)) 6 0) 5) + 1)) 5 0) 4 (((upd (upd (upd (upd f3 6 ((f3 6) + 1)) 6 0) 5 (((upd (upd f3 6 ((f3 6) + 1)) 6 0) 5) + 1)) 5 0) 4) + 1)) 4 0) 3 (((upd (upd (upd (upd (upd (upd f3 6 ((f3 6) + 1)) 6 0) 5 (((upd (upd f3 6 ((f3 6) + 1)) 6 0) 5) + 1)) 5 0) 4 (((upd (upd (upd (upd f3 6 ((f3 6) + 1)) 6 0) 5 (((upd (upd f3 6 ((f3 6) + 1)) 6 0) 5) + 1)) 5 0) 4) + 1)) 4 0) 3) + 1)) 3 0) 2) + 1)) 2 0) 1 (((upd (upd (upd (upd (upd (upd (upd (upd (upd (upd f3 6 ((f3 6) + 1)) 6 0) 5 (((upd (upd f3 6 ((f3 6) + 1)) 6 0) 5) + 1)) 5 0) 4 (((upd (upd (upd (upd f3 6 ((f3 6) + 1)) 6 0) 5 (((upd (upd f3 6 ((f3 6) + 1)) 6 0) 5) + 1)) 5 0) 4) + 1)) 4 0) 3 (((upd (upd (upd (upd (upd (upd f3 6 ((f3 6) + 1)) 6 0) 5 (((upd (upd f3 6 ((f3 6) + 1)) 6 0) 5) + 1)) 5 0) 4 (((upd (upd (upd (upd f3 6 ((f3 6) + 1)) 6 0) 5 (((upd (upd f3 6 ((f3 6) + 1)) 6 0) 5) + 1)) 5 0) 4) + 1)) 4 0) 3) + 1)) 3 0) 2 (((upd (upd (upd (upd (upd (upd (upd (upd f3 6 ((f3 6) + 1)) 6 0) 5 (((upd (upd f3 6 ((f3 6) + 1)) 6 0) 5) + 1)) 5 0) 4 (((upd (upd (upd (upd f3 6 ((f3 6) + 1)) 6 0) 5 (((upd (upd f3 6 ((f3 6) + 1)) 6 0) 5) + 1)) 5 0) 4) + 1)) 4 0) 3 (((upd (upd (upd (upd (upd (upd f3 6 ((f3 6) + 1)) 6 0) 5 (((upd (upd f3 6 ((f3 6) + 1)) 6 0) 5) + 1)) 5 0) 4 (((upd (upd (upd (upd f3 6 ((f3 6) + 1)) 6 0) 5 (((upd (upd f3 6 ((f3 6) + 1)) 6 0) 5) + 1)) 5 0) 4) + 1)) 4 0) 3) + 1)) 3 0) 2) + 1)) 2 0) 1) + 1)) 1 0) 0) + 1 := ev_32
              subst ev_32
              refine lv_aload_n hx hb dX0_nextRow_23 rfl (lv_at hl 1 rfl) ?_
              refine z_get C G clX0 0 rfl 4 (by decide) m_fl_RX0_18 rfl dX0_nextRow_24 ?_
              refine lv_iload_n hx hb dX0_nextRow_27 rfl (lv_at hl 0 rfl) ?_
              refine z_ild C G 1 rfl (vp_in_nI (n := 0) (by decide) (by decide)) dX0_nextRow_28 ?_
              refine lv_topi (fun v_33 ev_33 => ?_)
              rw [show ((0 : Int32).toNatClampNeg) = 0 from rfl] at ev_33
              subst ev_33
              refine lv_icmp_ge (tgt := 33) hx hb dX0_nextRow_29 (by decide) (fun c_34 => ?_) (fun c_34 => ?_)
              · have c_34n : (f1 0).toInt ≤ (((upd (upd (upd (upd (upd (upd (upd (upd (upd (upd (upd (upd f3 6 ((f3 6) + 1)) 6 0) 5 (((upd (upd f3 6 ((f3 6) + 1)) 6 0) 5) + 1)) 5 0) 4 (((upd (upd (upd (upd f3 6 ((f3 6) + 1)) 6 0) 5 (((upd (upd f3 6 ((f3 6) + 1)) 6 0) 5) + 1)) 5 0) 4) + 1)) 4 0) 3 (((upd (upd (upd (upd (upd (upd f3 6 ((f3 6) + 1)) 6 0) 5 (((upd (upd f3 6 ((f3 6) + 1)) 6 0) 5) + 1)) 5 0) 4 (((upd (upd (upd (upd f3 6 ((f3 6) + 1)) 6 0) 5 (((upd (upd f3 6 ((f3 6) + 1)) 6 0) 5) + 1)) 5 0) 4) + 1)) 4 0) 3) + 1)) 3 0) 2 (((upd (upd (upd (upd (upd (upd (upd (upd f3 6 ((f3 6) + 1)) 6 0) 5 (((upd (upd f3 6 ((f3 6) + 1)) 6 0) 5) + 1)) 5 0) 4 (((upd (upd (upd (upd f3 6 ((f3 6) + 1)) 6 0) 5 (((upd (upd f3 6 ((f3 6) + 1)) 6 0) 5) + 1)) 5 0) 4) + 1)) 4 0) 3 (((upd (upd (upd (upd (upd (upd f3 6 ((f3 6) + 1)) 6 0) 5 (((upd (upd f3 6 ((f3 6) + 1)) 6 0) 5) + 1)) 5 0) 4 (((upd (upd (upd (upd f3 6 ((f3 6) + 1)) 6 0) 5 (((upd (upd f3 6 ((f3 6) + 1)) 6 0) 5) + 1)) 5 0) 4) + 1)) 4 0) 3) + 1)) 3 0) 2) + 1)) 2 0) 1 (((upd (upd (upd (upd (upd (upd (upd (upd (upd (upd f3 6 ((f3 6) + 1)) 6 0) 5 (((upd (upd f3 6 ((f3 6) + 1)) 6 0) 5) + 1)) 5 0) 4 (((upd (upd (upd (upd f3 6 ((f3 6) + 1)) 6 0) 5 (((upd (upd f3 6 ((f3 6) + 1)) 6 0) 5) + 1)) 5 0) 4) + 1)) 4 0) 3 (((upd (upd (upd (upd (upd (upd f3 6 ((f3 6) + 1)) 6 0) 5 (((upd (upd f3 6 ((f3 6) + 1)) 6 0) 5) + 1)) 5 0) 4 (((upd (upd (upd (upd f3 6 ((f3 6) + 1)) 6 0) 5 (((upd (upd f3 6 ((f3 6) + 1)) 6 0) 5) + 1)) 5 0) 4) + 1)) 4 0) 3) + 1)) 3 0) 2 (((upd (upd (upd (upd (upd (upd (upd (upd f3 6 ((f3 6) + 1)) 6 0) 5 (((upd (upd f3 6 ((f3 6) + 1)) 6 0) 5) + 1)) 5 0) 4 (((upd (upd (upd (upd f3 6 ((f3 6) + 1)) 6 0) 5 (((upd (upd f3 6 ((f3 6) + 1)) 6 0) 5) + 1)) 5 0) 4) + 1)) 4 0) 3 (((upd (upd (upd (upd (upd (upd f3 6 ((f3 6) + 1)) 6 0) 5 (((upd (upd f3 6 ((f3 6) + 1)) 6 0) 5) + 1)) 5 0) 4 (((upd (upd (upd (upd f3 6 ((f3 6) + 1)) 6 0) 5 (((upd (upd f3 6 ((f3 6) + 1)) 6 0) 5) + 1)) 5 0) 4) + 1)) 4 0) 3) + 1)) 3 0) 2) + 1)) 2 0) 1) + 1)) 1 0) 0) + 1).toInt := (fa_le _ _).mp c_34
                refine lv_aload_n hx hb dX0_nextRow_33 rfl (lv_at hl 1 rfl) ?_
                refine z_get C G clX0 0 rfl 6 (by decide) m_fl_RX0_25 rfl dX0_nextRow_34 ?_
                refine lv_iload_n hx hb dX0_nextRow_37 rfl (lv_at hl 0 rfl) ?_
                refine lv_iconst (v := 0) hx hb dX0_nextRow_38 (by decide) ?_
                refine z_ist C G 3 rfl (vp_in_nI (n := 0) (by decide) (by decide)) dX0_nextRow_39 (fun H locs G => ?_)
                have G : zS T A s.heap s [[zO0 h md wy la pc_ a1_1 a2_2 a3_3 a4_4 a5_5 a6_6], [zAr T 0 a1_1 7 f1], [zAr T 0 a2_2 7 f2], [zAr T 0 a3_3 7 (upd (upd (upd (upd (upd (upd (upd (upd (upd (upd (upd (upd (upd (upd f3 6 ((f3 6) + 1)) 6 0) 5 (((upd (upd f3 6 ((f3 6) + 1)) 6 0) 5) + 1)) 5 0) 4 (((upd (upd (upd (upd f3 6 ((f3 6) + 1)) 6 0) 5 (((upd (upd f3 6 ((f3 6) + 1)) 6 0) 5) + 1)) 5 0) 4) + 1)) 4 0) 3 (((upd (upd (upd (upd (upd (upd f3 6 ((f3 6) + 1)) 6 0) 5 (((upd (upd f3 6 ((f3 6) + 1)) 6 0) 5) + 1)) 5 0) 4 (((upd (upd (upd (upd f3 6 ((f3 6) + 1)) 6 0) 5 (((upd (upd f3 6 ((f3 6) + 1)) 6 0) 5) + 1)) 5 0) 4) + 1)) 4 0) 3) + 1)) 3 0) 2 (((upd (upd (upd (upd (upd (upd (upd (upd f3 6 ((f3 6) + 1)) 6 0) 5 (((upd (upd f3 6 ((f3 6) + 1)) 6 0) 5) + 1)) 5 0) 4 (((upd (upd (upd (upd f3 6 ((f3 6) + 1)) 6 0) 5 (((upd (upd f3 6 ((f3 6) + 1)) 6 0) 5) + 1)) 5 0) 4) + 1)) 4 0) 3 (((upd (upd (upd (upd (upd (upd f3 6 ((f3 6) + 1)) 6 0) 5 (((upd (upd f3 6 ((f3 6) + 1)) 6 0) 5) + 1)) 5 0) 4 (((upd (upd (upd (upd f3 6 ((f3 6) + 1)) 6 0) 5 (((upd (upd f3 6 ((f3 6) + 1)) 6 0) 5) + 1)) 5 0) 4) + 1)) 4 0) 3) + 1)) 3 0) 2) + 1)) 2 0) 1 (((upd (upd (upd (upd (upd (upd (upd (upd (upd (upd f3 6 ((f3 6) + 1)) 6 0) 5 (((upd (upd f3 6 ((f3 6) + 1)) 6 0) 5) + 1)) 5 0) 4 (((upd (upd (upd (upd f3 6 ((f3 6) + 1)) 6 0) 5 (((upd (upd f3 6 ((f3 6) + 1)) 6 0) 5) + 1)) 5 0) 4) + 1)) 4 0) 3 (((upd (upd (upd (upd (upd (upd f3 6 ((f3 6) + 1)) 6 0) 5 (((upd (upd f3 6 ((f3 6) + 1)) 6 0) 5) + 1)) 5 0) 4 (((upd (upd (upd (upd f3 6 ((f3 6) + 1)) 6 0) 5 (((upd (upd f3 6 ((f3 6) + 1)) 6 0) 5) + 1)) 5 0) 4) + 1)) 4 0) 3) + 1)) 3 0) 2 (((upd (upd (upd (upd (upd (upd (upd (upd f3 6 ((f3 6) + 1)) 6 0) 5 (((upd (upd f3 6 ((f3 6) + 1)) 6 0) 5) + 1)) 5 0) 4 (((upd (upd (upd (upd f3 6 ((f3 6) + 1)) 6 0) 5 (((upd (upd f3 6 ((f3 6) + 1)) 6 0) 5) + 1)) 5 0) 4) + 1)) 4 0) 3 (((upd (upd (upd (upd (upd (upd f3 6 ((f3 6) + 1)) 6 0) 5 (((upd (upd f3 6 ((f3 6) + 1)) 6 0) 5) + 1)) 5 0) 4 (((upd (upd (upd (upd f3 6 ((f3 6) + 1)) 6 0) 5 (((upd (upd f3 6 ((f3 6) + 1)) 6 0) 5) + 1)) 5 0) 4) + 1)) 4 0) 3) + 1)) 3 0) 2) + 1)) 2 0) 1) + 1)) 1 0) 0 (((upd (upd (upd (upd (upd (upd (upd (upd (upd (upd (upd (upd f3 6 ((f3 6) + 1)) 6 0) 5 (((upd (upd f3 6 ((f3 6) + 1)) 6 0) 5) + 1)) 5 0) 4 (((upd (upd (upd (upd f3 6 ((f3 6) + 1)) 6 0) 5 (((upd (upd f3 6 ((f3 6) + 1)) 6 0) 5) + 1)) 5 0) 4) + 1)) 4 0) 3 (((upd (upd (upd (upd (upd (upd f3 6 ((f3 6) + 1)) 6 0) 5 (((upd (upd f3 6 ((f3 6) + 1)) 6 0) 5) + 1)) 5 0) 4 (((upd (upd (upd (upd f3 6 ((f3 6) + 1)) 6 0) 5 (((upd (upd f3 6 ((f3 6) + 1)) 6 0) 5) + 1)) 5 0) 4) + 1)) 4 0) 3) + 1)) 3 0) 2 (((upd (upd (upd (upd (upd (upd (upd (upd f3 6 ((f3 6) + 1)) 6 0) 5 (((upd (upd f3 6 ((f3 6) + 1)) 6 0) 5) + 1)) 5 0) 4 (((upd (upd (upd (upd f3 6 ((f3 6) + 1)) 6 0) 5 (((upd (upd f3 6 ((f3 6) + 1)) 6 0) 5) + 1)) 5 0) 4) + 1)) 4 0) 3 (((upd (upd (upd (upd (upd (upd f3 6 ((f3 6) + 1)) 6 0) 5 (((upd (upd f3 6 ((f3 6) + 1)) 6 0) 5) + 1)) 5 0) 4 (((upd (upd (upd (upd f3 6 ((f3 6) + 1)) 6 0) 5 (((upd (upd f3 6 ((f3 6) + 1)) 6 0) 5) + 1)) 5 0) 4) + 1)) 4 0) 3) + 1)) 3 0) 2) + 1)) 2 0) 1 (((upd (upd (upd (upd (upd (upd (upd (upd (upd (upd f3 6 ((f3 6) + 1)) 6 0) 5 (((upd (upd f3 6 ((f3 6) + 1)) 6 0) 5) + 1)) 5 0) 4 (((upd (upd (upd (upd f3 6 ((f3 6) + 1)) 6 0) 5 (((upd (upd f3 6 ((f3 6) + 1)) 6 0) 5) + 1)) 5 0) 4) + 1)) 4 0) 3 (((upd (upd (upd (upd (upd (upd f3 6 ((f3 6) + 1)) 6 0) 5 (((upd (upd f3 6 ((f3 6) + 1)) 6 0) 5) + 1)) 5 0) 4 (((upd (upd (upd (upd f3 6 ((f3 6) + 1)) 6 0) 5 (((upd (upd f3 6 ((f3 6) + 1)) 6 0) 5) + 1)) 5 0) 4) + 1)) 4 0) 3) + 1)) 3 0) 2 (((upd (upd (upd (upd (upd (upd (upd (upd f3 6 ((f3 6) + 1)) 6 0) 5 (((upd (upd f3 6 ((f3 6) + 1)) 6 0) 5) + 1)) 5 0) 4 (((upd (upd (upd (upd f3 6 ((f3 6) + 1)) 6 0) 5 (((upd (upd f3 6 ((f3 6) + 1)) 6 0) 5) + 1)) 5 0) 4) + 1)) 4 0) 3 (((upd (upd (upd (upd (upd (upd f3 6 ((f3 6) + 1)) 6 0) 5 (((upd (upd f3 6 ((f3 6) + 1)) 6 0) 5) + 1)) 5 0) 4 (((upd (upd (upd (upd f3 6 ((f3 6) + 1)) 6 0) 5 (((upd (upd f3 6 ((f3 6) + 1)) 6 0) 5) + 1)) 5 0) 4) + 1)) 4 0) 3) + 1)) 3 0) 2) + 1)) 2 0) 1) + 1)) 1 0) 0) + 1)) 0 0)], [zAr T 0 a4_4 n4 f4], [zAr T 0 a5_5 n4 f5], [zAr T 0 a6_6 n4 f6]] _ _ := G
                refine lv_iinc (v := (-1)) (lv' := [(1, .int (-1)), (0, .ref h)]) hx hb dX0_nextRow_40 hl (k := 0) rfl (by decide) (by decide) (zLvf_h rfl) (fun ls hl => ?_)
                refine lv_goto (tgt := 3) hx hb dX0_nextRow_43 (by decide) ?_
                refine lv_iload_n hx hb dX0_nextRow_3 rfl (lv_at hl 0 rfl) ?_
                refine lv_if_lt (tgt := 46) hx hb dX0_nextRow_4 (by decide) (fun _ => ?_) (fun q => absurd (by decide) q)
                have hw_35 : bWays T h la md wy pc_ f1 f2 (upd (upd (upd (upd (upd (upd (upd (upd (upd (upd (upd (upd (upd (upd f3 6 ((f3 6) + 1)) 6 0) 5 (((upd (upd f3 6 ((f3 6) + 1)) 6 0) 5) + 1)) 5 0) 4 (((upd (upd (upd (upd f3 6 ((f3 6) + 1)) 6 0) 5 (((upd (upd f3 6 ((f3 6) + 1)) 6 0) 5) + 1)) 5 0) 4) + 1)) 4 0) 3 (((upd (upd (upd (upd (upd (upd f3 6 ((f3 6) + 1)) 6 0) 5 (((upd (upd f3 6 ((f3 6) + 1)) 6 0) 5) + 1)) 5 0) 4 (((upd (upd (upd (upd f3 6 ((f3 6) + 1)) 6 0) 5 (((upd (upd f3 6 ((f3 6) + 1)) 6 0) 5) + 1)) 5 0) 4) + 1)) 4 0) 3) + 1)) 3 0) 2 (((upd (upd (upd (upd (upd (upd (upd (upd f3 6 ((f3 6) + 1)) 6 0) 5 (((upd (upd f3 6 ((f3 6) + 1)) 6 0) 5) + 1)) 5 0) 4 (((upd (upd (upd (upd f3 6 ((f3 6) + 1)) 6 0) 5 (((upd (upd f3 6 ((f3 6) + 1)) 6 0) 5) + 1)) 5 0) 4) + 1)) 4 0) 3 (((upd (upd (upd (upd (upd (upd f3 6 ((f3 6) + 1)) 6 0) 5 (((upd (upd f3 6 ((f3 6) + 1)) 6 0) 5) + 1)) 5 0) 4 (((upd (upd (upd (upd f3 6 ((f3 6) + 1)) 6 0) 5 (((upd (upd f3 6 ((f3 6) + 1)) 6 0) 5) + 1)) 5 0) 4) + 1)) 4 0) 3) + 1)) 3 0) 2) + 1)) 2 0) 1 (((upd (upd (upd (upd (upd (upd (upd (upd (upd (upd f3 6 ((f3 6) + 1)) 6 0) 5 (((upd (upd f3 6 ((f3 6) + 1)) 6 0) 5) + 1)) 5 0) 4 (((upd (upd (upd (upd f3 6 ((f3 6) + 1)) 6 0) 5 (((upd (upd f3 6 ((f3 6) + 1)) 6 0) 5) + 1)) 5 0) 4) + 1)) 4 0) 3 (((upd (upd (upd (upd (upd (upd f3 6 ((f3 6) + 1)) 6 0) 5 (((upd (upd f3 6 ((f3 6) + 1)) 6 0) 5) + 1)) 5 0) 4 (((upd (upd (upd (upd f3 6 ((f3 6) + 1)) 6 0) 5 (((upd (upd f3 6 ((f3 6) + 1)) 6 0) 5) + 1)) 5 0) 4) + 1)) 4 0) 3) + 1)) 3 0) 2 (((upd (upd (upd (upd (upd (upd (upd (upd f3 6 ((f3 6) + 1)) 6 0) 5 (((upd (upd f3 6 ((f3 6) + 1)) 6 0) 5) + 1)) 5 0) 4 (((upd (upd (upd (upd f3 6 ((f3 6) + 1)) 6 0) 5 (((upd (upd f3 6 ((f3 6) + 1)) 6 0) 5) + 1)) 5 0) 4) + 1)) 4 0) 3 (((upd (upd (upd (upd (upd (upd f3 6 ((f3 6) + 1)) 6 0) 5 (((upd (upd f3 6 ((f3 6) + 1)) 6 0) 5) + 1)) 5 0) 4 (((upd (upd (upd (upd f3 6 ((f3 6) + 1)) 6 0) 5 (((upd (upd f3 6 ((f3 6) + 1)) 6 0) 5) + 1)) 5 0) 4) + 1)) 4 0) 3) + 1)) 3 0) 2) + 1)) 2 0) 1) + 1)) 1 0) 0 (((upd (upd (upd (upd (upd (upd (upd (upd (upd (upd (upd (upd f3 6 ((f3 6) + 1)) 6 0) 5 (((upd (upd f3 6 ((f3 6) + 1)) 6 0) 5) + 1)) 5 0) 4 (((upd (upd (upd (upd f3 6 ((f3 6) + 1)) 6 0) 5 (((upd (upd f3 6 ((f3 6) + 1)) 6 0) 5) + 1)) 5 0) 4) + 1)) 4 0) 3 (((upd (upd (upd (upd (upd (upd f3 6 ((f3 6) + 1)) 6 0) 5 (((upd (upd f3 6 ((f3 6) + 1)) 6 0) 5) + 1)) 5 0) 4 (((upd (upd (upd (upd f3 6 ((f3 6) + 1)) 6 0) 5 (((upd (upd f3 6 ((f3 6) + 1)) 6 0) 5) + 1)) 5 0) 4) + 1)) 4 0) 3) + 1)) 3 0) 2 (((upd (upd (upd (upd (upd (upd (upd (upd f3 6 ((f3 6) + 1)) 6 0) 5 (((upd (upd f3 6 ((f3 6) + 1)) 6 0) 5) + 1)) 5 0) 4 (((upd (upd (upd (upd f3 6 ((f3 6) + 1)) 6 0) 5 (((upd (upd f3 6 ((f3 6) + 1)) 6 0) 5) + 1)) 5 0) 4) + 1)) 4 0) 3 (((upd (upd (upd (upd (upd (upd f3 6 ((f3 6) + 1)) 6 0) 5 (((upd (upd f3 6 ((f3 6) + 1)) 6 0) 5) + 1)) 5 0) 4 (((upd (upd (upd (upd f3 6 ((f3 6) + 1)) 6 0) 5 (((upd (upd f3 6 ((f3 6) + 1)) 6 0) 5) + 1)) 5 0) 4) + 1)) 4 0) 3) + 1)) 3 0) 2) + 1)) 2 0) 1 (((upd (upd (upd (upd (upd (upd (upd (upd (upd (upd f3 6 ((f3 6) + 1)) 6 0) 5 (((upd (upd f3 6 ((f3 6) + 1)) 6 0) 5) + 1)) 5 0) 4 (((upd (upd (upd (upd f3 6 ((f3 6) + 1)) 6 0) 5 (((upd (upd f3 6 ((f3 6) + 1)) 6 0) 5) + 1)) 5 0) 4) + 1)) 4 0) 3 (((upd (upd (upd (upd (upd (upd f3 6 ((f3 6) + 1)) 6 0) 5 (((upd (upd f3 6 ((f3 6) + 1)) 6 0) 5) + 1)) 5 0) 4 (((upd (upd (upd (upd f3 6 ((f3 6) + 1)) 6 0) 5 (((upd (upd f3 6 ((f3 6) + 1)) 6 0) 5) + 1)) 5 0) 4) + 1)) 4 0) 3) + 1)) 3 0) 2 (((upd (upd (upd (upd (upd (upd (upd (upd f3 6 ((f3 6) + 1)) 6 0) 5 (((upd (upd f3 6 ((f3 6) + 1)) 6 0) 5) + 1)) 5 0) 4 (((upd (upd (upd (upd f3 6 ((f3 6) + 1)) 6 0) 5 (((upd (upd f3 6 ((f3 6) + 1)) 6 0) 5) + 1)) 5 0) 4) + 1)) 4 0) 3 (((upd (upd (upd (upd (upd (upd f3 6 ((f3 6) + 1)) 6 0) 5 (((upd (upd f3 6 ((f3 6) + 1)) 6 0) 5) + 1)) 5 0) 4 (((upd (upd (upd (upd f3 6 ((f3 6) + 1)) 6 0) 5 (((upd (upd f3 6 ((f3 6) + 1)) 6 0) 5) + 1)) 5 0) 4) + 1)) 4 0) 3) + 1)) 3 0) 2) + 1)) 2 0) 1) + 1)) 1 0) 0) + 1)) 0 0) f4 f5 f6 n4 [zO0 h md wy la pc_ a1_1 a2_2 a3_3 a4_4 a5_5 a6_6, zAr T 0 a1_1 7 f1, zAr T 0 a2_2 7 f2, zAr T 0 a3_3 7 (upd (upd (upd (upd (upd (upd (upd (upd (upd (upd (upd (upd (upd (upd f3 6 ((f3 6) + 1)) 6 0) 5 (((upd (upd f3 6 ((f3 6) + 1)) 6 0) 5) + 1)) 5 0) 4 (((upd (upd (upd (upd f3 6 ((f3 6) + 1)) 6 0) 5 (((upd (upd f3 6 ((f3 6) + 1)) 6 0) 5) + 1)) 5 0) 4) + 1)) 4 0) 3 (((upd (upd (upd (upd (upd (upd f3 6 ((f3 6) + 1)) 6 0) 5 (((upd (upd f3 6 ((f3 6) + 1)) 6 0) 5) + 1)) 5 0) 4 (((upd (upd (upd (upd f3 6 ((f3 6) + 1)) 6 0) 5 (((upd (upd f3 6 ((f3 6) + 1)) 6 0) 5) + 1)) 5 0) 4) + 1)) 4 0) 3) + 1)) 3 0) 2 (((upd (upd (upd (upd (upd (upd (upd (upd f3 6 ((f3 6) + 1)) 6 0) 5 (((upd (upd f3 6 ((f3 6) + 1)) 6 0) 5) + 1)) 5 0) 4 (((upd (upd (upd (upd f3 6 ((f3 6) + 1)) 6 0) 5 (((upd (upd f3 6 ((f3 6) + 1)) 6 0) 5) + 1)) 5 0) 4) + 1)) 4 0) 3 (((upd (upd (upd (upd (upd (upd f3 6 ((f3 6) + 1)) 6 0) 5 (((upd (upd f3 6 ((f3 6) + 1)) 6 0) 5) + 1)) 5 0) 4 (((upd (upd (upd (upd f3 6 ((f3 6) + 1)) 6 0) 5 (((upd (upd f3 6 ((f3 6) + 1)) 6 0) 5) + 1)) 5 0) 4) + 1)) 4 0) 3) + 1)) 3 0) 2) + 1)) 2 0) 1 (((upd (upd (upd (upd (upd (upd (upd (upd (upd (upd f3 6 ((f3 6) + 1)) 6 0) 5 (((upd (upd f3 6 ((f3 6) + 1)) 6 0) 5) + 1)) 5 0) 4 (((upd (upd (upd (upd f3 6 ((f3 6) + 1)) 6 0) 5 (((upd (upd f3 6 ((f3 6) + 1)) 6 0) 5) + 1)) 5 0) 4) + 1)) 4 0) 3 (((upd (upd (upd (upd (upd (upd f3 6 ((f3 6) + 1)) 6 0) 5 (((upd (upd f3 6 ((f3 6) + 1)) 6 0) 5) + 1)) 5 0) 4 (((upd (upd (upd (upd f3 6 ((f3 6) + 1)) 6 0) 5 (((upd (upd f3 6 ((f3 6) + 1)) 6 0) 5) + 1)) 5 0) 4) + 1)) 4 0) 3) + 1)) 3 0) 2 (((upd (upd (upd (upd (upd (upd (upd (upd f3 6 ((f3 6) + 1)) 6 0) 5 (((upd (upd f3 6 ((f3 6) + 1)) 6 0) 5) + 1)) 5 0) 4 (((upd (upd (upd (upd f3 6 ((f3 6) + 1)) 6 0) 5 (((upd (upd f3 6 ((f3 6) + 1)) 6 0) 5) + 1)) 5 0) 4) + 1)) 4 0) 3 (((upd (upd (upd (upd (upd (upd f3 6 ((f3 6) + 1)) 6 0) 5 (((upd (upd f3 6 ((f3 6) + 1)) 6 0) 5) + 1)) 5 0) 4 (((upd (upd (upd (upd f3 6 ((f3 6) + 1)) 6 0) 5 (((upd (upd f3 6 ((f3 6) + 1)) 6 0) 5) + 1)) 5 0) 4) + 1)) 4 0) 3) + 1)) 3 0) 2) + 1)) 2 0) 1) + 1)) 1 0) 0 (((upd (upd (upd (upd (upd (upd (upd (upd (upd (upd (upd (upd f3 6 ((f3 6) + 1)) 6 0) 5 (((upd (upd f3 6 ((f3 6) + 1)) 6 0) 5) + 1)) 5 0) 4 (((upd (upd (upd (upd f3 6 ((f3 6) + 1)) 6 0) 5 (((upd (upd f3 6 ((f3 6) + 1)) 6 0) 5) + 1)) 5 0) 4) + 1)) 4 0) 3 (((upd (upd (upd (upd (upd (upd f3 6 ((f3 6) + 1)) 6 0) 5 (((upd (upd f3 6 ((f3 6) + 1)) 6 0) 5) + 1)) 5 0) 4 (((upd (upd (upd (upd f3 6 ((f3 6) + 1)) 6 0) 5 (((upd (upd f3 6 ((f3 6) + 1)) 6 0) 5) + 1)) 5 0) 4) + 1)) 4 0) 3) + 1)) 3 0) 2 (((upd (upd (upd (upd (upd (upd (upd (upd f3 6 ((f3 6) + 1)) 6 0) 5 (((upd (upd f3 6 ((f3 6) + 1)) 6 0) 5) + 1)) 5 0) 4 (((upd (upd (upd (upd f3 6 ((f3 6) + 1)) 6 0) 5 (((upd (upd f3 6 ((f3 6) + 1)) 6 0) 5) + 1)) 5 0) 4) + 1)) 4 0) 3 (((upd (upd (upd (upd (upd (upd f3 6 ((f3 6) + 1)) 6 0) 5 (((upd (upd f3 6 ((f3 6) + 1)) 6 0) 5) + 1)) 5 0) 4 (((upd (upd (upd (upd f3 6 ((f3 6) + 1)) 6 0) 5 (((upd (upd f3 6 ((f3 6) + 1)) 6 0) 5) + 1)) 5 0) 4) + 1)) 4 0) 3) + 1)) 3 0) 2) + 1)) 2 0) 1 (((upd (upd (upd (upd (upd (upd (upd (upd (upd (upd f3 6 ((f3 6) + 1)) 6 0) 5 (((upd (upd f3 6 ((f3 6) + 1)) 6 0) 5) + 1)) 5 0) 4 (((upd (upd (upd (upd f3 6 ((f3 6) + 1)) 6 0) 5 (((upd (upd f3 6 ((f3 6) + 1)) 6 0) 5) + 1)) 5 0) 4) + 1)) 4 0) 3 (((upd (upd (upd (upd (upd (upd f3 6 ((f3 6) + 1)) 6 0) 5 (((upd (upd f3 6 ((f3 6) + 1)) 6 0) 5) + 1)) 5 0) 4 (((upd (upd (upd (upd f3 6 ((f3 6) + 1)) 6 0) 5 (((upd (upd f3 6 ((f3 6) + 1)) 6 0) 5) + 1)) 5 0) 4) + 1)) 4 0) 3) + 1)) 3 0) 2 (((upd (upd (upd (upd (upd (upd (upd (upd f3 6 ((f3 6) + 1)) 6 0) 5 (((upd (upd f3 6 ((f3 6) + 1)) 6 0) 5) + 1)) 5 0) 4 (((upd (upd (upd (upd f3 6 ((f3 6) + 1)) 6 0) 5 (((upd (upd f3 6 ((f3 6) + 1)) 6 0) 5) + 1)) 5 0) 4) + 1)) 4 0) 3 (((upd (upd (upd (upd (upd (upd f3 6 ((f3 6) + 1)) 6 0) 5 (((upd (upd f3 6 ((f3 6) + 1)) 6 0) 5) + 1)) 5 0) 4 (((upd (upd (upd (upd f3 6 ((f3 6) + 1)) 6 0) 5 (((upd (upd f3 6 ((f3 6) + 1)) 6 0) 5) + 1)) 5 0) 4) + 1)) 4 0) 3) + 1)) 3 0) 2) + 1)) 2 0) 1) + 1)) 1 0) 0) + 1)) 0 0), zAr T 0 a4_4 n4 f4, zAr T 0 a5_5 n4 f5, zAr T 0 a6_6 n4 f6] := ⟨a1_1, a2_2, a3_3, a4_4, a5_5, a6_6, rfl⟩
                have G : zS T A s.heap s [[zO0 h md wy la pc_ a1_1 a2_2 a3_3 a4_4 a5_5 a6_6, zAr T 0 a1_1 7 f1, zAr T 0 a2_2 7 f2, zAr T 0 a3_3 7 (upd (upd (upd (upd (upd (upd (upd (upd (upd (upd (upd (upd (upd (upd f3 6 ((f3 6) + 1)) 6 0) 5 (((upd (upd f3 6 ((f3 6) + 1)) 6 0) 5) + 1)) 5 0) 4 (((upd (upd (upd (upd f3 6 ((f3 6) + 1)) 6 0) 5 (((upd (upd f3 6 ((f3 6) + 1)) 6 0) 5) + 1)) 5 0) 4) + 1)) 4 0) 3 (((upd (upd (upd (upd (upd (upd f3 6 ((f3 6) + 1)) 6 0) 5 (((upd (upd f3 6 ((f3 6) + 1)) 6 0) 5) + 1)) 5 0) 4 (((upd (upd (upd (upd f3 6 ((f3 6) + 1)) 6 0) 5 (((upd (upd f3 6 ((f3 6) + 1)) 6 0) 5) + 1)) 5 0) 4) + 1)) 4 0) 3) + 1)) 3 0) 2 (((upd (upd (upd (upd (upd (upd (upd (upd f3 6 ((f3 6) + 1)) 6 0) 5 (((upd (upd f3 6 ((f3 6) + 1)) 6 0) 5) + 1)) 5 0) 4 (((upd (upd (upd (upd f3 6 ((f3 6) + 1)) 6 0) 5 (((upd (upd f3 6 ((f3 6) + 1)) 6 0) 5) + 1)) 5 0) 4) + 1)) 4 0) 3 (((upd (upd (upd (upd (upd (upd f3 6 ((f3 6) + 1)) 6 0) 5 (((upd (upd f3 6 ((f3 6) + 1)) 6 0) 5) + 1)) 5 0) 4 (((upd (upd (upd (upd f3 6 ((f3 6) + 1)) 6 0) 5 (((upd (upd f3 6 ((f3 6) + 1)) 6 0) 5) + 1)) 5 0) 4) + 1)) 4 0) 3) + 1)) 3 0) 2) + 1)) 2 0) 1 (((upd (upd (upd (upd (upd (upd (upd (upd (upd (upd f3 6 ((f3 6) + 1)) 6 0) 5 (((upd (upd f3 6 ((f3 6) + 1)) 6 0) 5) + 1)) 5 0) 4 (((upd (upd (upd (upd f3 6 ((f3 6) + 1)) 6 0) 5 (((upd (upd f3 6 ((f3 6) + 1)) 6 0) 5) + 1)) 5 0) 4) + 1)) 4 0) 3 (((upd (upd (upd (upd (upd (upd f3 6 ((f3 6) + 1)) 6 0) 5 (((upd (upd f3 6 ((f3 6) + 1)) 6 0) 5) + 1)) 5 0) 4 (((upd (upd (upd (upd f3 6 ((f3 6) + 1)) 6 0) 5 (((upd (upd f3 6 ((f3 6) + 1)) 6 0) 5) + 1)) 5 0) 4) + 1)) 4 0) 3) + 1)) 3 0) 2 (((upd (upd (upd (upd (upd (upd (upd (upd f3 6 ((f3 6) + 1)) 6 0) 5 (((upd (upd f3 6 ((f3 6) + 1)) 6 0) 5) + 1)) 5 0) 4 (((upd (upd (upd (upd f3 6 ((f3 6) + 1)) 6 0) 5 (((upd (upd f3 6 ((f3 6) + 1)) 6 0) 5) + 1)) 5 0) 4) + 1)) 4 0) 3 (((upd (upd (upd (upd (upd (upd f3 6 ((f3 6) + 1)) 6 0) 5 (((upd (upd f3 6 ((f3 6) + 1)) 6 0) 5) + 1)) 5 0) 4 (((upd (upd (upd (upd f3 6 ((f3 6) + 1)) 6 0) 5 (((upd (upd f3 6 ((f3 6) + 1)) 6 0) 5) + 1)) 5 0) 4) + 1)) 4 0) 3) + 1)) 3 0) 2) + 1)) 2 0) 1) + 1)) 1 0) 0 (((upd (upd (upd (upd (upd (upd (upd (upd (upd (upd (upd (upd f3 6 ((f3 6) + 1)) 6 0) 5 (((upd (upd f3 6 ((f3 6) + 1)) 6 0) 5) + 1)) 5 0) 4 (((upd (upd (upd (upd f3 6 ((f3 6) + 1)) 6 0) 5 (((upd (upd f3 6 ((f3 6) + 1)) 6 0) 5) + 1)) 5 0) 4) + 1)) 4 0) 3 (((upd (upd (upd (upd (upd (upd f3 6 ((f3 6) + 1)) 6 0) 5 (((upd (upd f3 6 ((f3 6) + 1)) 6 0) 5) + 1)) 5 0) 4 (((upd (upd (upd (upd f3 6 ((f3 6) + 1)) 6 0) 5 (((upd (upd f3 6 ((f3 6) + 1)) 6 0) 5) + 1)) 5 0) 4) + 1)) 4 0) 3) + 1)) 3 0) 2 (((upd (upd (upd (upd (upd (upd (upd (upd f3 6 ((f3 6) + 1)) 6 0) 5 (((upd (upd f3 6 ((f3 6) + 1)) 6 0) 5) + 1)) 5 0) 4 (((upd (upd (upd (upd f3 6 ((f3 6) + 1)) 6 0) 5 (((upd (upd f3 6 ((f3 6) + 1)) 6 0) 5) + 1)) 5 0) 4) + 1)) 4 0) 3 (((upd (upd (upd (upd (upd (upd f3 6 ((f3 6) + 1)) 6 0) 5 (((upd (upd f3 6 ((f3 6) + 1)) 6 0) 5) + 1)) 5 0) 4 (((upd (upd (upd (upd f3 6 ((f3 6) + 1)) 6 0) 5 (((upd (upd f3 6 ((f3 6) + 1)) 6 0) 5) + 1)) 5 0) 4) + 1)) 4 0) 3) + 1)) 3 0) 2) + 1)) 2 0) 1 (((upd (upd (upd (upd (upd (upd (upd (upd (upd (upd f3 6 ((f3 6) + 1)) 6 0) 5 (((upd (upd f3 6 ((f3 6) + 1)) 6 0) 5) + 1)) 5 0) 4 (((upd (upd (upd (upd f3 6 ((f3 6) + 1)) 6 0) 5 (((upd (upd f3 6 ((f3 6) + 1)) 6 0) 5) + 1)) 5 0) 4) + 1)) 4 0) 3 (((upd (upd (upd (upd (upd (upd f3 6 ((f3 6) + 1)) 6 0) 5 (((upd (upd f3 6 ((f3 6) + 1)) 6 0) 5) + 1)) 5 0) 4 (((upd (upd (upd (upd f3 6 ((f3 6) + 1)) 6 0) 5 (((upd (upd f3 6 ((f3 6) + 1)) 6 0) 5) + 1)) 5 0) 4) + 1)) 4 0) 3) + 1)) 3 0) 2 (((upd (upd (upd (upd (upd (upd (upd (upd f3 6 ((f3 6) + 1)) 6 0) 5 (((upd (upd f3 6 ((f3 6) + 1)) 6 0) 5) + 1)) 5 0) 4 (((upd (upd (upd (upd f3 6 ((f3 6) + 1)) 6 0) 5 (((upd (upd f3 6 ((f3 6) + 1)) 6 0) 5) + 1)) 5 0) 4) + 1)) 4 0) 3 (((upd (upd (upd (upd (upd (upd f3 6 ((f3 6) + 1)) 6 0) 5 (((upd (upd f3 6 ((f3 6) + 1)) 6 0) 5) + 1)) 5 0) 4 (((upd (upd (upd (upd f3 6 ((f3 6) + 1)) 6 0) 5 (((upd (upd f3 6 ((f3 6) + 1)) 6 0) 5) + 1)) 5 0) 4) + 1)) 4 0) 3) + 1)) 3 0) 2) + 1)) 2 0) 1) + 1)) 1 0) 0) + 1)) 0 0), zAr T 0 a4_4 n4 f4, zAr T 0 a5_5 n4 f5, zAr T 0 a6_6 n4 f6]] _ _ := G.re rfl
                exact z_back hQz_ (z_vret C hr hlocks G (Nat.le_of_ble_eq_true rfl) (Nat.le_of_ble_eq_true rfl) dX0_nextRow_46 ⟨([zO0 h md wy la pc_ a1_1 a2_2 a3_3 a4_4 a5_5 a6_6, zAr T 0 a1_1 7 f1, zAr T 0 a2_2 7 f2, zAr T 0 a3_3 7 (upd (upd (upd (upd (upd (upd (upd (upd (upd (upd (upd (upd (upd (upd f3 6 ((f3 6) + 1)) 6 0) 5 (((upd (upd f3 6 ((f3 6) + 1)) 6 0) 5) + 1)) 5 0) 4 (((upd (upd (upd (upd f3 6 ((f3 6) + 1)) 6 0) 5 (((upd (upd f3 6 ((f3 6) + 1)) 6 0) 5) + 1)) 5 0) 4) + 1)) 4 0) 3 (((upd (upd (upd (upd (upd (upd f3 6 ((f3 6) + 1)) 6 0) 5 (((upd (upd f3 6 ((f3 6) + 1)) 6 0) 5) + 1)) 5 0) 4 (((upd (upd (upd (upd f3 6 ((f3 6) + 1)) 6 0) 5 (((upd (upd f3 6 ((f3 6) + 1)) 6 0) 5) + 1)) 5 0) 4) + 1)) 4 0) 3) + 1)) 3 0) 2 (((upd (upd (upd (upd (upd (upd (upd (upd f3 6 ((f3 6) + 1)) 6 0) 5 (((upd (upd f3 6 ((f3 6) + 1)) 6 0) 5) + 1)) 5 0) 4 (((upd (upd (upd (upd f3 6 ((f3 6) + 1)) 6 0) 5 (((upd (upd f3 6 ((f3 6) + 1)) 6 0) 5) + 1)) 5 0) 4) + 1)) 4 0) 3 (((upd (upd (upd (upd (upd (upd f3 6 ((f3 6) + 1)) 6 0) 5 (((upd (upd f3 6 ((f3 6) + 1)) 6 0) 5) + 1)) 5 0) 4 (((upd (upd (upd (upd f3 6 ((f3 6) + 1)) 6 0) 5 (((upd (upd f3 6 ((f3 6) + 1)) 6 0) 5) + 1)) 5 0) 4) + 1)) 4 0) 3) + 1)) 3 0) 2) + 1)) 2 0) 1 (((upd (upd (upd (upd (upd (upd (upd (upd (upd (upd f3 6 ((f3 6) + 1)) 6 0) 5 (((upd (upd f3 6 ((f3 6) + 1)) 6 0) 5) + 1)) 5 0) 4 (((upd (upd (upd (upd f3 6 ((f3 6) + 1)) 6 0) 5 (((upd (upd f3 6 ((f3 6) + 1)) 6 0) 5) + 1)) 5 0) 4) + 1)) 4 0) 3 (((upd (upd (upd (upd (upd (upd f3 6 ((f3 6) + 1)) 6 0) 5 (((upd (upd f3 6 ((f3 6) + 1)) 6 0) 5) + 1)) 5 0) 4 (((upd (upd (upd (upd f3 6 ((f3 6) + 1)) 6 0) 5 (((upd (upd f3 6 ((f3 6) + 1)) 6 0) 5) + 1)) 5 0) 4) + 1)) 4 0) 3) + 1)) 3 0) 2 (((upd (upd (upd (upd (upd (upd (upd (upd f3 6 ((f3 6) + 1)) 6 0) 5 (((upd (upd f3 6 ((f3 6) + 1)) 6 0) 5) + 1)) 5 0) 4 (((upd (upd (upd (upd f3 6 ((f3 6) + 1)) 6 0) 5 (((upd (upd f3 6 ((f3 6) + 1)) 6 0) 5) + 1)) 5 0) 4) + 1)) 4 0) 3 (((upd (upd (upd (upd (upd (upd f3 6 ((f3 6) + 1)) 6 0) 5 (((upd (upd f3 6 ((f3 6) + 1)) 6 0) 5) + 1)) 5 0) 4 (((upd (upd (upd (upd f3 6 ((f3 6) + 1)) 6 0) 5 (((upd (upd f3 6 ((f3 6) + 1)) 6 0) 5) + 1)) 5 0) 4) + 1)) 4 0) 3) + 1)) 3 0) 2) + 1)) 2 0) 1) + 1)) 1 0) 0 (((upd (upd (upd (upd (upd (upd (upd (upd (upd (upd (upd (upd f3 6 ((f3 6) + 1)) 6 0) 5 (((upd (upd f3 6 ((f3 6) + 1)) 6 0) 5) + 1)) 5 0) 4 (((upd (upd (upd (upd f3 6 ((f3 6) + 1)) 6 0) 5 (((upd (upd f3 6 ((f3 6) + 1)) 6 0) 5) + 1)) 5 0) 4) + 1)) 4 0) 3 (((upd (upd (upd (upd (upd (upd f3 6 ((f3 6) + 1)) 6 0) 5 (((upd (upd f3 6 ((f3 6) + 1)) 6 0) 5) + 1)) 5 0) 4 (((upd (upd (upd (upd f3 6 ((f3 6) + 1)) 6 0) 5 (((upd (upd f3 6 ((f3 6) + 1)) 6 0) 5) + 1)) 5 0) 4) + 1)) 4 0) 3) + 1)) 3 0) 2 (((upd (upd (upd (upd (upd (upd (upd (upd f3 6 ((f3 6) + 1)) 6 0) 5 (((upd (upd f3 6 ((f3 6) + 1)) 6 0) 5) + 1)) 5 0) 4 (((upd (upd (upd (upd f3 6 ((f3 6) + 1)) 6 0) 5 (((upd (upd f3 6 ((f3 6) + 1)) 6 0) 5) + 1)) 5 0) 4) + 1)) 4 0) 3 (((upd (upd (upd (upd (upd (upd f3 6 ((f3 6) + 1)) 6 0) 5 (((upd (upd f3 6 ((f3 6) + 1)) 6 0) 5) + 1)) 5 0) 4 (((upd (upd (upd (upd f3 6 ((f3 6) + 1)) 6 0) 5 (((upd (upd f3 6 ((f3 6) + 1)) 6 0) 5) + 1)) 5 0) 4) + 1)) 4 0) 3) + 1)) 3 0) 2) + 1)) 2 0) 1 (((upd (upd (upd (upd (upd (upd (upd (upd (upd (upd f3 6 ((f3 6) + 1)) 6 0) 5 (((upd (upd f3 6 ((f3 6) + 1)) 6 0) 5) + 1)) 5 0) 4 (((upd (upd (upd (upd f3 6 ((f3 6) + 1)) 6 0) 5 (((upd (upd f3 6 ((f3 6) + 1)) 6 0) 5) + 1)) 5 0) 4) + 1)) 4 0) 3 (((upd (upd (upd (upd (upd (upd f3 6 ((f3 6) + 1)) 6 0) 5 (((upd (upd f3 6 ((f3 6) + 1)) 6 0) 5) + 1)) 5 0) 4 (((upd (upd (upd (upd f3 6 ((f3 6) + 1)) 6 0) 5 (((upd (upd f3 6 ((f3 6) + 1)) 6 0) 5) + 1)) 5 0) 4) + 1)) 4 0) 3) + 1)) 3 0) 2 (((upd (upd (upd (upd (upd (upd (upd (upd f3 6 ((f3 6) + 1)) 6 0) 5 (((upd (upd f3 6 ((f3 6) + 1)) 6 0) 5) + 1)) 5 0) 4 (((upd (upd (upd (upd f3 6 ((f3 6) + 1)) 6 0) 5 (((upd (upd f3 6 ((f3 6) + 1)) 6 0) 5) + 1)) 5 0) 4) + 1)) 4 0) 3 (((upd (upd (upd (upd (upd (upd f3 6 ((f3 6) + 1)) 6 0) 5 (((upd (upd f3 6 ((f3 6) + 1)) 6 0) 5) + 1)) 5 0) 4 (((upd (upd (upd (upd f3 6 ((f3 6) + 1)) 6 0) 5 (((upd (upd f3 6 ((f3 6) + 1)) 6 0) 5) + 1)) 5 0) 4) + 1)) 4 0) 3) + 1)) 3 0) 2) + 1)) 2 0) 1) + 1)) 1 0) 0) + 1)) 0 0), zAr T 0 a4_4 n4 f4, zAr T 0 a5_5 n4 f5, zAr T 0 a6_6 n4 f6]), (upd (upd (upd (upd (upd (upd (upd (upd (upd (upd (upd (upd (upd (upd f3 6 ((f3 6) + 1)) 6 0) 5 (((upd (upd f3 6 ((f3 6) + 1)) 6 0) 5) + 1)) 5 0) 4 (((upd (upd (upd (upd f3 6 ((f3 6) + 1)) 6 0) 5 (((upd (upd f3 6 ((f3 6) + 1)) 6 0) 5) + 1)) 5 0) 4) + 1)) 4 0) 3 (((upd (upd (upd (upd (upd (upd f3 6 ((f3 6) + 1)) 6 0) 5 (((upd (upd f3 6 ((f3 6) + 1)) 6 0) 5) + 1)) 5 0) 4 (((upd (upd (upd (upd f3 6 ((f3 6) + 1)) 6 0) 5 (((upd (upd f3 6 ((f3 6) + 1)) 6 0) 5) + 1)) 5 0) 4) + 1)) 4 0) 3) + 1)) 3 0) 2 (((upd (upd (upd (upd (upd (upd (upd (upd f3 6 ((f3 6) + 1)) 6 0) 5 (((upd (upd f3 6 ((f3 6) + 1)) 6 0) 5) + 1)) 5 0) 4 (((upd (upd (upd (upd f3 6 ((f3 6) + 1)) 6 0) 5 (((upd (upd f3 6 ((f3 6) + 1)) 6 0) 5) + 1)) 5 0) 4) + 1)) 4 0) 3 (((upd (upd (upd (upd (upd (upd f3 6 ((f3 6) + 1)) 6 0) 5 (((upd (upd f3 6 ((f3 6) + 1)) 6 0) 5) + 1)) 5 0) 4 (((upd (upd (upd (upd f3 6 ((f3 6) + 1)) 6 0) 5 (((upd (upd f3 6 ((f3 6) + 1)) 6 0) 5) + 1)) 5 0) 4) + 1)) 4 0) 3) + 1)) 3 0) 2) + 1)) 2 0) 1 (((upd (upd (upd (upd (upd (upd (upd (upd (upd (upd f3 6 ((f3 6) + 1)) 6 0) 5 (((upd (upd f3 6 ((f3 6) + 1)) 6 0) 5) + 1)) 5 0) 4 (((upd (upd (upd (upd f3 6 ((f3 6) + 1)) 6 0) 5 (((upd (upd f3 6 ((f3 6) + 1)) 6 0) 5) + 1)) 5 0) 4) + 1)) 4 0) 3 (((upd (upd (upd (upd (upd (upd f3 6 ((f3 6) + 1)) 6 0) 5 (((upd (upd f3 6 ((f3 6) + 1)) 6 0) 5) + 1)) 5 0) 4 (((upd (upd (upd (upd f3 6 ((f3 6) + 1)) 6 0) 5 (((upd (upd f3 6 ((f3 6) + 1)) 6 0) 5) + 1)) 5 0) 4) + 1)) 4 0) 3) + 1)) 3 0) 2 (((upd (upd (upd (upd (upd (upd (upd (upd f3 6 ((f3 6) + 1)) 6 0) 5 (((upd (upd f3 6 ((f3 6) + 1)) 6 0) 5) + 1)) 5 0) 4 (((upd (upd (upd (upd f3 6 ((f3 6) + 1)) 6 0) 5 (((upd (upd f3 6 ((f3 6) + 1)) 6 0) 5) + 1)) 5 0) 4) + 1)) 4 0) 3 (((upd (upd (upd (upd (upd (upd f3 6 ((f3 6) + 1)) 6 0) 5 (((upd (upd f3 6 ((f3 6) + 1)) 6 0) 5) + 1)) 5 0) 4 (((upd (upd (upd (upd f3 6 ((f3 6) + 1)) 6 0) 5 (((upd (upd f3 6 ((f3 6) + 1)) 6 0) 5) + 1)) 5 0) 4) + 1)) 4 0) 3) + 1)) 3 0) 2) + 1)) 2 0) 1) + 1)) 1 0) 0 (((upd (upd (upd (upd (upd (upd (upd (upd (upd (upd (upd (upd f3 6 ((f3 6) + 1)) 6 0) 5 (((upd (upd f3 6 ((f3 6) + 1)) 6 0) 5) + 1)) 5 0) 4 (((upd (upd (upd (upd f3 6 ((f3 6) + 1)) 6 0) 5 (((upd (upd f3 6 ((f3 6) + 1)) 6 0) 5) + 1)) 5 0) 4) + 1)) 4 0) 3 (((upd (upd (upd (upd (upd (upd f3 6 ((f3 6) + 1)) 6 0) 5 (((upd (upd f3 6 ((f3 6) + 1)) 6 0) 5) + 1)) 5 0) 4 (((upd (upd (upd (upd f3 6 ((f3 6) + 1)) 6 0) 5 (((upd (upd f3 6 ((f3 6) + 1)) 6 0) 5) + 1)) 5 0) 4) + 1)) 4 0) 3) + 1)) 3 0) 2 (((upd (upd (upd (upd (upd (upd (upd (upd f3 6 ((f3 6) + 1)) 6 0) 5 (((upd (upd f3 6 ((f3 6) + 1)) 6 0) 5) + 1)) 5 0) 4 (((upd (upd (upd (upd f3 6 ((f3 6) + 1)) 6 0) 5 (((upd (upd f3 6 ((f3 6) + 1)) 6 0) 5) + 1)) 5 0) 4) + 1)) 4 0) 3 (((upd (upd (upd (upd (upd (upd f3 6 ((f3 6) + 1)) 6 0) 5 (((upd (upd f3 6 ((f3 6) + 1)) 6 0) 5) + 1)) 5 0) 4 (((upd (upd (upd (upd f3 6 ((f3 6) + 1)) 6 0) 5 (((upd (upd f3 6 ((f3 6) + 1)) 6 0) 5) + 1)) 5 0) 4) + 1)) 4 0) 3) + 1)) 3 0) 2) + 1)) 2 0) 1 (((upd (upd (upd (upd (upd (upd (upd (upd (upd (upd f3 6 ((f3 6) + 1)) 6 0) 5 (((upd (upd f3 6 ((f3 6) + 1)) 6 0) 5) + 1)) 5 0) 4 (((upd (upd (upd (upd f3 6 ((f3 6) + 1)) 6 0) 5 (((upd (upd f3 6 ((f3 6) + 1)) 6 0) 5) + 1)) 5 0) 4) + 1)) 4 0) 3 (((upd (upd (upd (upd (upd (upd f3 6 ((f3 6) + 1)) 6 0) 5 (((upd (upd f3 6 ((f3 6) + 1)) 6 0) 5) + 1)) 5 0) 4 (((upd (upd (upd (upd f3 6 ((f3 6) + 1)) 6 0) 5 (((upd (upd f3 6 ((f3 6) + 1)) 6 0) 5) + 1)) 5 0) 4) + 1)) 4 0) 3) + 1)) 3 0) 2 (((upd (upd (upd (upd (upd (upd (upd (upd f3 6 ((f3 6) + 1)) 6 0) 5 (((upd (upd f3 6 ((f3 6) + 1)) 6 0) 5) + 1)) 5 0) 4 (((upd (upd (upd (upd f3 6 ((f3 6) + 1)) 6 0) 5 (((upd (upd f3 6 ((f3 6) + 1)) 6 0) 5) + 1)) 5 0) 4) + 1)) 4 0) 3 (((upd (upd (upd (upd (upd (upd f3 6 ((f3 6) + 1)) 6 0) 5 (((upd (upd f3 6 ((f3 6) + 1)) 6 0) 5) + 1)) 5 0) 4 (((upd (upd (upd (upd f3 6 ((f3 6) + 1)) 6 0) 5 (((upd (upd f3 6 ((f3 6) + 1)) 6 0) 5) + 1)) 5 0) 4) + 1)) 4 0) 3) + 1)) 3 0) 2) + 1)) 2 0) 1) + 1)) 1 0) 0) + 1)) 0 0), rfl, hw_35⟩)
              · have c_34n : ¬ (f1 0).toInt ≤ (((upd (upd (upd (upd (upd (upd (upd (upd (upd (upd (upd (upd f3 6 ((f3 6) + 1)) 6 0) 5 (((upd (upd f3 6 ((f3 6) + 1)) 6 0) 5) + 1)) 5 0) 4 (((upd (upd (upd (upd f3 6 ((f3 6) + 1)) 6 0) 5 (((upd (upd f3 6 ((f3 6) + 1)) 6 0) 5) + 1)) 5 0) 4) + 1)) 4 0) 3 (((upd (upd (upd (upd (upd (upd f3 6 ((f3 6) + 1)) 6 0) 5 (((upd (upd f3 6 ((f3 6) + 1)) 6 0) 5) + 1)) 5 0) 4 (((upd (upd (upd (upd f3 6 ((f3 6) + 1)) 6 0) 5 (((upd (upd f3 6 ((f3 6) + 1)) 6 0) 5) + 1)) 5 0) 4) + 1)) 4 0) 3) + 1)) 3 0) 2 (((upd (upd (upd (upd (upd (upd (upd (upd f3 6 ((f3 6) + 1)) 6 0) 5 (((upd (upd f3 6 ((f3 6) + 1)) 6 0) 5) + 1)) 5 0) 4 (((upd (upd (upd (upd f3 6 ((f3 6) + 1)) 6 0) 5 (((upd (upd f3 6 ((f3 6) + 1)) 6 0) 5) + 1)) 5 0) 4) + 1)) 4 0) 3 (((upd (upd (upd (upd (upd (upd f3 6 ((f3 6) + 1)) 6 0) 5 (((upd (upd f3 6 ((f3 6) + 1)) 6 0) 5) + 1)) 5 0) 4 (((upd (upd (upd (upd f3 6 ((f3 6) + 1)) 6 0) 5 (((upd (upd f3 6 ((f3 6) + 1)) 6 0) 5) + 1)) 5 0) 4) + 1)) 4 0) 3) + 1)) 3 0) 2) + 1)) 2 0) 1 (((upd (upd (upd (upd (upd (upd (upd (upd (upd (upd f3 6 ((f3 6) + 1)) 6 0) 5 (((upd (upd f3 6 ((f3 6) + 1)) 6 0) 5) + 1)) 5 0) 4 (((upd (upd (upd (upd f3 6 ((f3 6) + 1)) 6 0) 5 (((upd (upd f3 6 ((f3 6) + 1)) 6 0) 5) + 1)) 5 0) 4) + 1)) 4 0) 3 (((upd (upd (upd (upd (upd (upd f3 6 ((f3 6) + 1)) 6 0) 5 (((upd (upd f3 6 ((f3 6) + 1)) 6 0) 5) + 1)) 5 0) 4 (((upd (upd (upd (upd f3 6 ((f3 6) + 1)) 6 0) 5 (((upd (upd f3 6 ((f3 6) + 1)) 6 0) 5) + 1)) 5 0) 4) + 1)) 4 0) 3) + 1)) 3 0) 2 (((upd (upd (upd (upd (upd (upd (upd (upd f3 6 ((f3 6) + 1)) 6 0) 5 (((upd (upd f3 6 ((f3 6) + 1)) 6 0) 5) + 1)) 5 0) 4 (((upd (upd (upd (upd f3 6 ((f3 6) + 1)) 6 0) 5 (((upd (upd f3 6 ((f3 6) + 1)) 6 0) 5) + 1)) 5 0) 4) + 1)) 4 0) 3 (((upd (upd (upd (upd (upd (upd f3 6 ((f3 6) + 1)) 6 0) 5 (((upd (upd f3 6 ((f3 6) + 1)) 6 0) 5) + 1)) 5 0) 4 (((upd (upd (upd (upd f3 6 ((f3 6) + 1)) 6 0) 5 (((upd (upd f3 6 ((f3 6) + 1)) 6 0) 5) + 1)) 5 0) 4) + 1)) 4 0) 3) + 1)) 3 0) 2) + 1)) 2 0) 1) + 1)) 1 0) 0) + 1).toInt := fun q => c_34 ((fa_le _ _).mpr q)
                have hw_36 : bWays T h la md wy pc_ f1 f2 (upd (upd (upd (upd (upd (upd (upd (upd (upd (upd (upd (upd (upd f3 6 ((f3 6) + 1)) 6 0) 5 (((upd (upd f3 6 ((f3 6) + 1)) 6 0) 5) + 1)) 5 0) 4 (((upd (upd (upd (upd f3 6 ((f3 6) + 1)) 6 0) 5 (((upd (upd f3 6 ((f3 6) + 1)) 6 0) 5) + 1)) 5 0) 4) + 1)) 4 0) 3 (((upd (upd (upd (upd (upd (upd f3 6 ((f3 6) + 1)) 6 0) 5 (((upd (upd f3 6 ((f3 6) + 1)) 6 0) 5) + 1)) 5 0) 4 (((upd (upd (upd (upd f3 6 ((f3 6) + 1)) 6 0) 5 (((upd (upd f3 6 ((f3 6) + 1)) 6 0) 5) + 1)) 5 0) 4) + 1)) 4 0) 3) + 1)) 3 0) 2 (((upd (upd (upd (upd (upd (upd (upd (upd f3 6 ((f3 6) + 1)) 6 0) 5 (((upd (upd f3 6 ((f3 6) + 1)) 6 0) 5) + 1)) 5 0) 4 (((upd (upd (upd (upd f3 6 ((f3 6) + 1)) 6 0) 5 (((upd (upd f3 6 ((f3 6) + 1)) 6 0) 5) + 1)) 5 0) 4) + 1)) 4 0) 3 (((upd (upd (upd (upd (upd (upd f3 6 ((f3 6) + 1)) 6 0) 5 (((upd (upd f3 6 ((f3 6) + 1)) 6 0) 5) + 1)) 5 0) 4 (((upd (upd (upd (upd f3 6 ((f3 6) + 1)) 6 0) 5 (((upd (upd f3 6 ((f3 6) + 1)) 6 0) 5) + 1)) 5 0) 4) + 1)) 4 0) 3) + 1)) 3 0) 2) + 1)) 2 0) 1 (((upd (upd (upd (upd (upd (upd (upd (upd (upd (upd f3 6 ((f3 6) + 1)) 6 0) 5 (((upd (upd f3 6 ((f3 6) + 1)) 6 0) 5) + 1)) 5 0) 4 (((upd (upd (upd (upd f3 6 ((f3 6) + 1)) 6 0) 5 (((upd (upd f3 6 ((f3 6) + 1)) 6 0) 5) + 1)) 5 0) 4) + 1)) 4 0) 3 (((upd (upd (upd (upd (upd (upd f3 6 ((f3 6) + 1)) 6 0) 5 (((upd (upd f3 6 ((f3 6) + 1)) 6 0) 5) + 1)) 5 0) 4 (((upd (upd (upd (upd f3 6 ((f3 6) + 1)) 6 0) 5 (((upd (upd f3 6 ((f3 6) + 1)) 6 0) 5) + 1)) 5 0) 4) + 1)) 4 0) 3) + 1)) 3 0) 2 (((upd (upd (upd (upd (upd (upd (upd (upd f3 6 ((f3 6) + 1)) 6 0) 5 (((upd (upd f3 6 ((f3 6) + 1)) 6 0) 5) + 1)) 5 0) 4 (((upd (upd (upd (upd f3 6 ((f3 6) + 1)) 6 0) 5 (((upd (upd f3 6 ((f3 6) + 1)) 6 0) 5) + 1)) 5 0) 4) + 1)) 4 0) 3 (((upd (upd (upd (upd (upd (upd f3 6 ((f3 6) + 1)) 6 0) 5 (((upd (upd f3 6 ((f3 6) + 1)) 6 0) 5) + 1)) 5 0) 4 (((upd (upd (upd (upd f3 6 ((f3 6) + 1)) 6 0) 5 (((upd (upd f3 6 ((f3 6) + 1)) 6 0) 5) + 1)) 5 0) 4) + 1)) 4 0) 3) + 1)) 3 0) 2) + 1)) 2 0) 1) + 1)) 1 0) 0 (((upd (upd (upd (upd (upd (upd (upd (upd (upd (upd (upd (upd f3 6 ((f3 6) + 1)) 6 0) 5 (((upd (upd f3 6 ((f3 6) + 1)) 6 0) 5) + 1)) 5 0) 4 (((upd (upd (upd (upd f3 6 ((f3 6) + 1)) 6 0) 5 (((upd (upd f3 6 ((f3 6) + 1)) 6 0) 5) + 1)) 5 0) 4) + 1)) 4 0) 3 (((upd (upd (upd (upd (upd (upd f3 6 ((f3 6) + 1)) 6 0) 5 (((upd (upd f3 6 ((f3 6) + 1)) 6 0) 5) + 1)) 5 0) 4 (((upd (upd (upd (upd f3 6 ((f3 6) + 1)) 6 0) 5 (((upd (upd f3 6 ((f3 6) + 1)) 6 0) 5) + 1)) 5 0) 4) + 1)) 4 0) 3) + 1)) 3 0) 2 (((upd (upd (upd (upd (upd (upd (upd (upd f3 6 ((f3 6) + 1)) 6 0) 5 (((upd (upd f3 6 ((f3 6) + 1)) 6 0) 5) + 1)) 5 0) 4 (((upd (upd (upd (upd f3 6 ((f3 6) + 1)) 6 0) 5 (((upd (upd f3 6 ((f3 6) + 1)) 6 0) 5) + 1)) 5 0) 4) + 1)) 4 0) 3 (((upd (upd (upd (upd (upd (upd f3 6 ((f3 6) + 1)) 6 0) 5 (((upd (upd f3 6 ((f3 6) + 1)) 6 0) 5) + 1)) 5 0) 4 (((upd (upd (upd (upd f3 6 ((f3 6) + 1)) 6 0) 5 (((upd (upd f3 6 ((f3 6) + 1)) 6 0) 5) + 1)) 5 0) 4) + 1)) 4 0) 3) + 1)) 3 0) 2) + 1)) 2 0) 1 (((upd (upd (upd (upd (upd (upd (upd (upd (upd (upd f3 6 ((f3 6) + 1)) 6 0) 5 (((upd (upd f3 6 ((f3 6) + 1)) 6 0) 5) + 1)) 5 0) 4 (((upd (upd (upd (upd f3 6 ((f3 6) + 1)) 6 0) 5 (((upd (upd f3 6 ((f3 6) + 1)) 6 0) 5) + 1)) 5 0) 4) + 1)) 4 0) 3 (((upd (upd (upd (upd (upd (upd f3 6 ((f3 6) + 1)) 6 0) 5 (((upd (upd f3 6 ((f3 6) + 1)) 6 0) 5) + 1)) 5 0) 4 (((upd (upd (upd (upd f3 6 ((f3 6) + 1)) 6 0) 5 (((upd (upd f3 6 ((f3 6) + 1)) 6 0) 5) + 1)) 5 0) 4) + 1)) 4 0) 3) + 1)) 3 0) 2 (((upd (upd (upd (upd (upd (upd (upd (upd f3 6 ((f3 6) + 1)) 6 0) 5 (((upd (upd f3 6 ((f3 6) + 1)) 6 0) 5) + 1)) 5 0) 4 (((upd (upd (upd (upd f3 6 ((f3 6) + 1)) 6 0) 5 (((upd (upd f3 6 ((f3 6) + 1)) 6 0) 5) + 1)) 5 0) 4) + 1)) 4 0) 3 (((upd (upd (upd (upd (upd (upd f3 6 ((f3 6) + 1)) 6 0) 5 (((upd (upd f3 6 ((f3 6) + 1)) 6 0) 5) + 1)) 5 0) 4 (((upd (upd (upd (upd f3 6 ((f3 6) + 1)) 6 0) 5 (((upd (upd f3 6 ((f3 6) + 1)) 6 0) 5) + 1)) 5 0) 4) + 1)) 4 0) 3) + 1)) 3 0) 2) + 1)) 2 0) 1) + 1)) 1 0) 0) + 1)) f4 f5 f6 n4 [zO0 h md wy la pc_ a1_1 a2_2 a3_3 a4_4 a5_5 a6_6, zAr T 0 a1_1 7 f1, zAr T 0 a2_2 7 f2, zAr T 0 a3_3 7 (upd (upd (upd (upd (upd (upd (upd (upd (upd (upd (upd (upd (upd f3 6 ((f3 6) + 1)) 6 0) 5 (((upd (upd f3 6 ((f3 6) + 1)) 6 0) 5) + 1)) 5 0) 4 (((upd (upd (upd (upd f3 6 ((f3 6) + 1)) 6 0) 5 (((upd (upd f3 6 ((f3 6) + 1)) 6 0) 5) + 1)) 5 0) 4) + 1)) 4 0) 3 (((upd (upd (upd (upd (upd (upd f3 6 ((f3 6) + 1)) 6 0) 5 (((upd (upd f3 6 ((f3 6) + 1)) 6 0) 5) + 1)) 5 0) 4 (((upd (upd (upd (upd f3 6 ((f3 6) + 1)) 6 0) 5 (((upd (upd f3 6 ((f3 6) + 1)) 6 0) 5) + 1)) 5 0) 4) + 1)) 4 0) 3) + 1)) 3 0) 2 (((upd (upd (upd (upd (upd (upd (upd (upd f3 6 ((f3 6) + 1)) 6 0) 5 (((upd (upd f3 6 ((f3 6) + 1)) 6 0) 5) + 1)) 5 0) 4 (((upd (upd (upd (upd f3 6 ((f3 6) + 1)) 6 0) 5 (((upd (upd f3 6 ((f3 6) + 1)) 6 0) 5) + 1)) 5 0) 4) + 1)) 4 0) 3 (((upd (upd (upd (upd (upd (upd f3 6 ((f3 6) + 1)) 6 0) 5 (((upd (upd f3 6 ((f3 6) + 1)) 6 0) 5) + 1)) 5 0) 4 (((upd (upd (upd (upd f3 6 ((f3 6) + 1)) 6 0) 5 (((upd (upd f3 6 ((f3 6) + 1)) 6 0) 5) + 1)) 5 0) 4) + 1)) 4 0) 3) + 1)) 3 0) 2) + 1)) 2 0) 1 (((upd (upd (upd (upd (upd (upd (upd (upd (upd (upd f3 6 ((f3 6) + 1)) 6 0) 5 (((upd (upd f3 6 ((f3 6) + 1)) 6 0) 5) + 1)) 5 0) 4 (((upd (upd (upd (upd f3 6 ((f3 6) + 1)) 6 0) 5 (((upd (upd f3 6 ((f3 6) + 1)) 6 0) 5) + 1)) 5 0) 4) + 1)) 4 0) 3 (((upd (upd (upd (upd (upd (upd f3 6 ((f3 6) + 1)) 6 0) 5 (((upd (upd f3 6 ((f3 6) + 1)) 6 0) 5) + 1)) 5 0) 4 (((upd (upd (upd (upd f3 6 ((f3 6) + 1)) 6 0) 5 (((upd (upd f3 6 ((f3 6) + 1)) 6 0) 5) + 1)) 5 0) 4) + 1)) 4 0) 3) + 1)) 3 0) 2 (((upd (upd (upd (upd (upd (upd (upd (upd f3 6 ((f3 6) + 1)) 6 0) 5 (((upd (upd f3 6 ((f3 6) + 1)) 6 0) 5) + 1)) 5 0) 4 (((upd (upd (upd (upd f3 6 ((f3 6) + 1)) 6 0) 5 (((upd (upd f3 6 ((f3 6) + 1)) 6 0) 5) + 1)) 5 0) 4) + 1)) 4 0) 3 (((upd (upd (upd (upd (upd (upd f3 6 ((f3 6) + 1)) 6 0) 5 (((upd (upd f3 6 ((f3 6) + 1)) 6 0) 5) + 1)) 5 0) 4 (((upd (upd (upd (upd f3 6 ((f3 6) + 1)) 6 0) 5 (((upd (upd f3 6 ((f3 6) + 1)) 6 0) 5) + 1)) 5 0) 4) + 1)) 4 0) 3) + 1)) 3 0) 2) + 1)) 2 0) 1) + 1)) 1 0) 0 (((upd (upd (upd (upd (upd (upd (upd (upd (upd (upd (upd (upd f3 6 ((f3 6) + 1)) 6 0) 5 (((upd (upd f3 6 ((f3 6) + 1)) 6 0) 5) + 1)) 5 0) 4 (((upd (upd (upd (upd f3 6 ((f3 6) + 1)) 6 0) 5 (((upd (upd f3 6 ((f3 6) + 1)) 6 0) 5) + 1)) 5 0) 4) + 1)) 4 0) 3 (((upd (upd (upd (upd (upd (upd f3 6 ((f3 6) + 1)) 6 0) 5 (((upd (upd f3 6 ((f3 6) + 1)) 6 0) 5) + 1)) 5 0) 4 (((upd (upd (upd (upd f3 6 ((f3 6) + 1)) 6 0) 5 (((upd (upd f3 6 ((f3 6) + 1)) 6 0) 5) + 1)) 5 0) 4) + 1)) 4 0) 3) + 1)) 3 0) 2 (((upd (upd (upd (upd (upd (upd (upd (upd f3 6 ((f3 6) + 1)) 6 0) 5 (((upd (upd f3 6 ((f3 6) + 1)) 6 0) 5) + 1)) 5 0) 4 (((upd (upd (upd (upd f3 6 ((f3 6) + 1)) 6 0) 5 (((upd (upd f3 6 ((f3 6) + 1)) 6 0) 5) + 1)) 5 0) 4) + 1)) 4 0) 3 (((upd (upd (upd (upd (upd (upd f3 6 ((f3 6) + 1)) 6 0) 5 (((upd (upd f3 6 ((f3 6) + 1)) 6 0) 5) + 1)) 5 0) 4 (((upd (upd (upd (upd f3 6 ((f3 6) + 1)) 6 0) 5 (((upd (upd f3 6 ((f3 6) + 1)) 6 0) 5) + 1)) 5 0) 4) + 1)) 4 0) 3) + 1)) 3 0) 2) + 1)) 2 0) 1 (((upd (upd (upd (upd (upd (upd (upd (upd (upd (upd f3 6 ((f3 6) + 1)) 6 0) 5 (((upd (upd f3 6 ((f3 6) + 1)) 6 0) 5) + 1)) 5 0) 4 (((upd (upd (upd (upd f3 6 ((f3 6) + 1)) 6 0) 5 (((upd (upd f3 6 ((f3 6) + 1)) 6 0) 5) + 1)) 5 0) 4) + 1)) 4 0) 3 (((upd (upd (upd (upd (upd (upd f3 6 ((f3 6) + 1)) 6 0) 5 (((upd (upd f3 6 ((f3 6) + 1)) 6 0) 5) + 1)) 5 0) 4 (((upd (upd (upd (upd f3 6 ((f3 6) + 1)) 6 0) 5 (((upd (upd f3 6 ((f3 6) + 1)) 6 0) 5) + 1)) 5 0) 4) + 1)) 4 0) 3) + 1)) 3 0) 2 (((upd (upd (upd (upd (upd (upd (upd (upd f3 6 ((f3 6) + 1)) 6 0) 5 (((upd (upd f3 6 ((f3 6) + 1)) 6 0) 5) + 1)) 5 0) 4 (((upd (upd (upd (upd f3 6 ((f3 6) + 1)) 6 0) 5 (((upd (upd f3 6 ((f3 6) + 1)) 6 0) 5) + 1)) 5 0) 4) + 1)) 4 0) 3 (((upd (upd (upd (upd (upd (upd f3 6 ((f3 6) + 1)) 6 0) 5 (((upd (upd f3 6 ((f3 6) + 1)) 6 0) 5) + 1)) 5 0) 4 (((upd (upd (upd (upd f3 6 ((f3 6) + 1)) 6 0) 5 (((upd (upd f3 6 ((f3 6) + 1)) 6 0) 5) + 1)) 5 0) 4) + 1)) 4 0) 3) + 1)) 3 0) 2) + 1)) 2 0) 1) + 1)) 1 0) 0) + 1)), zAr T 0 a4_4 n4 f4, zAr T 0 a5_5 n4 f5, zAr T 0 a6_6 n4 f6] := ⟨a1_1, a2_2, a3_3, a4_4, a5_5, a6_6, rfl⟩
                have G : zS T A s.heap s [[zO0 h md wy la pc_ a1_1 a2_2 a3_3 a4_4 a5_5 a6_6, zAr T 0 a1_1 7 f1, zAr T 0 a2_2 7 f2, zAr T 0 a3_3 7 (upd (upd (upd (upd (upd (upd (upd (upd (upd (upd (upd (upd (upd f3 6 ((f3 6) + 1)) 6 0) 5 (((upd (upd f3 6 ((f3 6) + 1)) 6 0) 5) + 1)) 5 0) 4 (((upd (upd (upd (upd f3 6 ((f3 6) + 1)) 6 0) 5 (((upd (upd f3 6 ((f3 6) + 1)) 6 0) 5) + 1)) 5 0) 4) + 1)) 4 0) 3 (((upd (upd (upd (upd (upd (upd f3 6 ((f3 6) + 1)) 6 0) 5 (((upd (upd f3 6 ((f3 6) + 1)) 6 0) 5) + 1)) 5 0) 4 (((upd (upd (upd (upd f3 6 ((f3 6) + 1)) 6 0) 5 (((upd (upd f3 6 ((f3 6) + 1)) 6 0) 5) + 1)) 5 0) 4) + 1)) 4 0) 3) + 1)) 3 0) 2 (((upd (upd (upd (upd (upd (upd (upd (upd f3 6 ((f3 6) + 1)) 6 0) 5 (((upd (upd f3 6 ((f3 6) + 1)) 6 0) 5) + 1)) 5 0) 4 (((upd (upd (upd (upd f3 6 ((f3 6) + 1)) 6 0) 5 (((upd (upd f3 6 ((f3 6) + 1)) 6 0) 5) + 1)) 5 0) 4) + 1)) 4 0) 3 (((upd (upd (upd (upd (upd (upd f3 6 ((f3 6) + 1)) 6 0) 5 (((upd (upd f3 6 ((f3 6) + 1)) 6 0) 5) + 1)) 5 0) 4 (((upd (upd (upd (upd f3 6 ((f3 6) + 1)) 6 0) 5 (((upd (upd f3 6 ((f3 6) + 1)) 6 0) 5) + 1)) 5 0) 4) + 1)) 4 0) 3) + 1)) 3 0) 2) + 1)) 2 0) 1 (((upd (upd (upd (upd (upd (upd (upd (upd (upd (upd f3 6 ((f3 6) + 1)) 6 0) 5 (((upd (upd f3 6 ((f3 6) + 1)) 6 0) 5) + 1)) 5 0) 4 (((upd (upd (upd (upd f3 6 ((f3 6) + 1)) 6 0) 5 (((upd (upd f3 6 ((f3 6) + 1)) 6 0) 5) + 1)) 5 0) 4) + 1)) 4 0) 3 (((upd (upd (upd (upd (upd (upd f3 6 ((f3 6) + 1)) 6 0) 5 (((upd (upd f3 6 ((f3 6) + 1)) 6 0) 5) + 1)) 5 0) 4 (((upd (upd (upd (upd f3 6 ((f3 6) + 1)) 6 0) 5 (((upd (upd f3 6 ((f3 6) + 1)) 6 0) 5) + 1)) 5 0) 4) + 1)) 4 0) 3) + 1)) 3 0) 2 (((upd (upd (upd (upd (upd (upd (upd (upd f3 6 ((f3 6) + 1)) 6 0) 5 (((upd (upd f3 6 ((f3 6) + 1)) 6 0) 5) + 1)) 5 0) 4 (((upd (upd (upd (upd f3 6 ((f3 6) + 1)) 6 0) 5 (((upd (upd f3 6 ((f3 6) + 1)) 6 0) 5) + 1)) 5 0) 4) + 1)) 4 0) 3 (((upd (upd (upd (upd (upd (upd f3 6 ((f3 6) + 1)) 6 0) 5 (((upd (upd f3 6 ((f3 6) + 1)) 6 0) 5) + 1)) 5 0) 4 (((upd (upd (upd (upd f3 6 ((f3 6) + 1)) 6 0) 5 (((upd (upd f3 6 ((f3 6) + 1)) 6 0) 5) + 1)) 5 0) 4) + 1)) 4 0) 3) + 1)) 3 0) 2) + 1)) 2 0) 1) + 1)) 1 0) 0 (((upd (upd (upd (upd (upd (upd (upd (upd (upd (upd (upd (upd f3 6 ((f3 6) + 1)) 6 0) 5 (((upd (upd f3 6 ((f3 6) + 1)) 6 0) 5) + 1)) 5 0) 4 (((upd (upd (upd (upd f3 6 ((f3 6) + 1)) 6 0) 5 (((upd (upd f3 6 ((f3 6) + 1)) 6 0) 5) + 1)) 5 0) 4) + 1)) 4 0) 3 (((upd (upd (upd (upd (upd (upd f3 6 ((f3 6) + 1)) 6 0) 5 (((upd (upd f3 6 ((f3 6) + 1)) 6 0) 5) + 1)) 5 0) 4 (((upd (upd (upd (upd f3 6 ((f3 6) + 1)) 6 0) 5 (((upd (upd f3 6 ((f3 6) + 1)) 6 0) 5) + 1)) 5 0) 4) + 1)) 4 0) 3) + 1)) 3 0) 2 (((upd (upd (upd (upd (upd (upd (upd (upd f3 6 ((f3 6) + 1)) 6 0) 5 (((upd (upd f3 6 ((f3 6) + 1)) 6 0) 5) + 1)) 5 0) 4 (((upd (upd (upd (upd f3 6 ((f3 6) + 1)) 6 0) 5 (((upd (upd f3 6 ((f3 6) + 1)) 6 0) 5) + 1)) 5 0) 4) + 1)) 4 0) 3 (((upd (upd (upd (upd (upd (upd f3 6 ((f3 6) + 1)) 6 0) 5 (((upd (upd f3 6 ((f3 6) + 1)) 6 0) 5) + 1)) 5 0) 4 (((upd (upd (upd (upd f3 6 ((f3 6) + 1)) 6 0) 5 (((upd (upd f3 6 ((f3 6) + 1)) 6 0) 5) + 1)) 5 0) 4) + 1)) 4 0) 3) + 1)) 3 0) 2) + 1)) 2 0) 1 (((upd (upd (upd (upd (upd (upd (upd (upd (upd (upd f3 6 ((f3 6) + 1)) 6 0) 5 (((upd (upd f3 6 ((f3 6) + 1)) 6 0) 5) + 1)) 5 0) 4 (((upd (upd (upd (upd f3 6 ((f3 6) + 1)) 6 0) 5 (((upd (upd f3 6 ((f3 6) + 1)) 6 0) 5) + 1)) 5 0) 4) + 1)) 4 0) 3 (((upd (upd (upd (upd (upd (upd f3 6 ((f3 6) + 1)) 6 0) 5 (((upd (upd f3 6 ((f3 6) + 1)) 6 0) 5) + 1)) 5 0) 4 (((upd (upd (upd (upd f3 6 ((f3 6) + 1)) 6 0) 5 (((upd (upd f3 6 ((f3 6) + 1)) 6 0) 5) + 1)) 5 0) 4) + 1)) 4 0) 3) + 1)) 3 0) 2 (((upd (upd (upd (upd (upd (upd (upd (upd f3 6 ((f3 6) + 1)) 6 0) 5 (((upd (upd f3 6 ((f3 6) + 1)) 6 0) 5) + 1)) 5 0) 4 (((upd (upd (upd (upd f3 6 ((f3 6) + 1)) 6 0) 5 (((upd (upd f3 6 ((f3 6) + 1)) 6 0) 5) + 1)) 5 0) 4) + 1)) 4 0) 3 (((upd (upd (upd (upd (upd (upd f3 6 ((f3 6) + 1)) 6 0) 5 (((upd (upd f3 6 ((f3 6) + 1)) 6 0) 5) + 1)) 5 0) 4 (((upd (upd (upd (upd f3 6 ((f3 6) + 1)) 6 0) 5 (((upd (upd f3 6 ((f3 6) + 1)) 6 0) 5) + 1)) 5 0) 4) + 1)) 4 0) 3) + 1)) 3 0) 2) + 1)) 2 0) 1) + 1)) 1 0) 0) + 1)), zAr T 0 a4_4 n4 f4, zAr T 0 a5_5 n4 f5, zAr T 0 a6_6 n4 f6]] _ _ := G.re rfl
                exact z_back hQz_ (z_vret C hr hlocks G (Nat.le_of_ble_eq_true rfl) (Nat.le_of_ble_eq_true rfl) dX0_nextRow_32 ⟨([zO0 h md wy la pc_ a1_1 a2_2 a3_3 a4_4 a5_5 a6_6, zAr T 0 a1_1 7 f1, zAr T 0 a2_2 7 f2, zAr T 0 a3_3 7 (upd (upd (upd (upd (upd (upd (upd (upd (upd (upd (upd (upd (upd f3 6 ((f3 6) + 1)) 6 0) 5 (((upd (upd f3 6 ((f3 6) + 1)) 6 0) 5) + 1)) 5 0) 4 (((upd (upd (upd (upd f3 6 ((f3 6) + 1)) 6 0) 5 (((upd (upd f3 6 ((f3 6) + 1)) 6 0) 5) + 1)) 5 0) 4) + 1)) 4 0) 3 (((upd (upd (upd (upd (upd (upd f3 6 ((f3 6) + 1)) 6 0) 5 (((upd (upd f3 6 ((f3 6) + 1)) 6 0) 5) + 1)) 5 0) 4 (((upd (upd (upd (upd f3 6 ((f3 6) + 1)) 6 0) 5 (((upd (upd f3 6 ((f3 6) + 1)) 6 0) 5) + 1)) 5 0) 4) + 1)) 4 0) 3) + 1)) 3 0) 2 (((upd (upd (upd (upd (upd (upd (upd (upd f3 6 ((f3 6) + 1)) 6 0) 5 (((upd (upd f3 6 ((f3 6) + 1)) 6 0) 5) + 1)) 5 0) 4 (((upd (upd (upd (upd f3 6 ((f3 6) + 1)) 6 0) 5 (((upd (upd f3 6 ((f3 6) + 1)) 6 0) 5) + 1)) 5 0) 4) + 1)) 4 0) 3 (((upd (upd (upd (upd (upd (upd f3 6 ((f3 6) + 1)) 6 0) 5 (((upd (upd f3 6 ((f3 6) + 1)) 6 0) 5) + 1)) 5 0) 4 (((upd (upd (upd (upd f3 6 ((f3 6) + 1)) 6 0) 5 (((upd (upd f3 6 ((f3 6) + 1)) 6 0) 5) + 1)) 5 0) 4) + 1)) 4 0) 3) + 1)) 3 0) 2) + 1)) 2 0) 1 (((upd (upd (upd (upd (upd (upd (upd (upd (upd (upd f3 6 ((f3 6) + 1)) 6 0) 5 (((upd (upd f3 6 ((f3 6) + 1)) 6 0) 5) + 1)) 5 0) 4 (((upd (upd (upd (upd f3 6 ((f3 6) + 1)) 6 0) 5 (((upd (upd f3 6 ((f3 6) + 1)) 6 0) 5) + 1)) 5 0) 4) + 1)) 4 0) 3 (((upd (upd (upd (upd (upd (upd f3 6 ((f3 6) + 1)) 6 0) 5 (((upd (upd f3 6 ((f3 6) + 1)) 6 0) 5) + 1)) 5 0) 4 (((upd (upd (upd (upd f3 6 ((f3 6) + 1)) 6 0) 5 (((upd (upd f3 6 ((f3 6) + 1)) 6 0) 5) + 1)) 5 0) 4) + 1)) 4 0) 3) + 1)) 3 0) 2 (((upd (upd (upd (upd (upd (upd (upd (upd f3 6 ((f3 6) + 1)) 6 0) 5 (((upd (upd f3 6 ((f3 6) + 1)) 6 0) 5) + 1)) 5 0) 4 (((upd (upd (upd (upd f3 6 ((f3 6) + 1)) 6 0) 5 (((upd (upd f3 6 ((f3 6) + 1)) 6 0) 5) + 1)) 5 0) 4) + 1)) 4 0) 3 (((upd (upd (upd (upd (upd (upd f3 6 ((f3 6) + 1)) 6 0) 5 (((upd (upd f3 6 ((f3 6) + 1)) 6 0) 5) + 1)) 5 0) 4 (((upd (upd (upd (upd f3 6 ((f3 6) + 1)) 6 0) 5 (((upd (upd f3 6 ((f3 6) + 1)) 6 0) 5) + 1)) 5 0) 4) + 1)) 4 0) 3) + 1)) 3 0) 2) + 1)) 2 0) 1) + 1)) 1 0) 0 (((upd (upd (upd (upd (upd (upd (upd (upd (upd (upd (upd (upd f3 6 ((f3 6) + 1)) 6 0) 5 (((upd (upd f3 6 ((f3 6) + 1)) 6 0) 5) + 1)) 5 0) 4 (((upd (upd (upd (upd f3 6 ((f3 6) + 1)) 6 0) 5 (((upd (upd f3 6 ((f3 6) + 1)) 6 0) 5) + 1)) 5 0) 4) + 1)) 4 0) 3 (((upd (upd (upd (upd (upd (upd f3 6 ((f3 6) + 1)) 6 0) 5 (((upd (upd f3 6 ((f3 6) + 1)) 6 0) 5) + 1)) 5 0) 4 (((upd (upd (upd (upd f3 6 ((f3 6) + 1)) 6 0) 5 (((upd (upd f3 6 ((f3 6) + 1)) 6 0) 5) + 1)) 5 0) 4) + 1)) 4 0) 3) + 1)) 3 0) 2 (((upd (upd (upd (upd (upd (upd (upd (upd f3 6 ((f3 6) + 1)) 6 0) 5 (((upd (upd f3 6 ((f3 6) + 1)) 6 0) 5) + 1)) 5 0) 4 (((upd (upd (upd (upd f3 6 ((f3 6) + 1)) 6 0) 5 (((upd (upd f3 6 ((f3 6) + 1)) 6 0) 5) + 1)) 5 0) 4) + 1)) 4 0) 3 (((upd (upd (upd (upd (upd (upd f3 6 ((f3 6) + 1)) 6 0) 5 (((upd (upd f3 6 ((f3 6) + 1)) 6 0) 5) + 1)) 5 0) 4 (((upd (upd (upd (upd f3 6 ((f3 6) + 1)) 6 0) 5 (((upd (upd f3 6 ((f3 6) + 1)) 6 0) 5) + 1)) 5 0) 4) + 1)) 4 0) 3) + 1)) 3 0) 2) + 1)) 2 0) 1 (((upd (upd (upd (upd (upd (upd (upd (upd (upd (upd f3 6 ((f3 6) + 1)) 6 0) 5 (((upd (upd f3 6 ((f3 6) + 1)) 6 0) 5) + 1)) 5 0) 4 (((upd (upd (upd (upd f3 6 ((f3 6) + 1)) 6 0) 5 (((upd (upd f3 6 ((f3 6) + 1)) 6 0) 5) + 1)) 5 0) 4) + 1)) 4 0) 3 (((upd (upd (upd (upd (upd (upd f3 6 ((f3 6) + 1)) 6 0) 5 (((upd (upd f3 6 ((f3 6) + 1)) 6 0) 5) + 1)) 5 0) 4 (((upd (upd (upd (upd f3 6 ((f3 6) + 1)) 6 0) 5 (((upd (upd f3 6 ((f3 6) + 1)) 6 0) 5) + 1)) 5 0) 4) + 1)) 4 0) 3) + 1)) 3 0) 2 (((upd (upd (upd (upd (upd (upd (upd (upd f3 6 ((f3 6) + 1)) 6 0) 5 (((upd (upd f3 6 ((f3 6) + 1)) 6 0) 5) + 1)) 5 0) 4 (((upd (upd (upd (upd f3 6 ((f3 6) + 1)) 6 0) 5 (((upd (upd f3 6 ((f3 6) + 1)) 6 0) 5) + 1)) 5 0) 4) + 1)) 4 0) 3 (((upd (upd (upd (upd (upd (upd f3 6 ((f3 6) + 1)) 6 0) 5 (((upd (upd f3 6 ((f3 6) + 1)) 6 0) 5) + 1)) 5 0) 4 (((upd (upd (upd (upd f3 6 ((f3 6) + 1)) 6 0) 5 (((upd (upd f3 6 ((f3 6) + 1)) 6 0) 5) + 1)) 5 0) 4) + 1)) 4 0) 3) + 1)) 3 0) 2) + 1)) 2 0) 1) + 1)) 1 0) 0) + 1)), zAr T 0 a4_4 n4 f4, zAr T 0 a5_5 n4 f5, zAr T 0 a6_6 n4 f6]), (upd (upd (upd (upd (upd (upd (upd (upd (upd (upd (upd (upd (upd f3 6 ((f3 6) + 1)) 6 0) 5 (((upd (upd f3 6 ((f3 6) + 1)) 6 0) 5) + 1)) 5 0) 4 (((upd (upd (upd (upd f3 6 ((f3 6) + 1)) 6 0) 5 (((upd (upd f3 6 ((f3 6) + 1)) 6 0) 5) + 1)) 5 0) 4) + 1)) 4 0) 3 (((upd (upd (upd (upd (upd (upd f3 6 ((f3 6) + 1)) 6 0) 5 (((upd (upd f3 6 ((f3 6) + 1)) 6 0) 5) + 1)) 5 0) 4 (((upd (upd (upd (upd f3 6 ((f3 6) + 1)) 6 0) 5 (((upd (upd f3 6 ((f3 6) + 1)) 6 0) 5) + 1)) 5 0) 4) + 1)) 4 0) 3) + 1)) 3 0) 2 (((upd (upd (upd (upd (upd (upd (upd (upd f3 6 ((f3 6) + 1)) 6 0) 5 (((upd (upd f3 6 ((f3 6) + 1)) 6 0) 5) + 1)) 5 0) 4 (((upd (upd (upd (upd f3 6 ((f3 6) + 1)) 6 0) 5 (((upd (upd f3 6 ((f3 6) + 1)) 6 0) 5) + 1)) 5 0) 4) + 1)) 4 0) 3 (((upd (upd (upd (upd (upd (upd f3 6 ((f3 6) + 1)) 6 0) 5 (((upd (upd f3 6 ((f3 6) + 1)) 6 0) 5) + 1)) 5 0) 4 (((upd (upd (upd (upd f3 6 ((f3 6) + 1)) 6 0) 5 (((upd (upd f3 6 ((f3 6) + 1)) 6 0) 5) + 1)) 5 0) 4) + 1)) 4 0) 3) + 1)) 3 0) 2) + 1)) 2 0) 1 (((upd (upd (upd (upd (upd (upd (upd (upd (upd (upd f3 6 ((f3 6) + 1)) 6 0) 5 (((upd (upd f3 6 ((f3 6) + 1)) 6 0) 5) + 1)) 5 0) 4 (((upd (upd (upd (upd f3 6 ((f3 6) + 1)) 6 0) 5 (((upd (upd f3 6 ((f3 6) + 1)) 6 0) 5) + 1)) 5 0) 4) + 1)) 4 0) 3 (((upd (upd (upd (upd (upd (upd f3 6 ((f3 6) + 1)) 6 0) 5 (((upd (upd f3 6 ((f3 6) + 1)) 6 0) 5) + 1)) 5 0) 4 (((upd (upd (upd (upd f3 6 ((f3 6) + 1)) 6 0) 5 (((upd (upd f3 6 ((f3 6) + 1)) 6 0) 5) + 1)) 5 0) 4) + 1)) 4 0) 3) + 1)) 3 0) 2 (((upd (upd (upd (upd (upd (upd (upd (upd f3 6 ((f3 6) + 1)) 6 0) 5 (((upd (upd f3 6 ((f3 6) + 1)) 6 0) 5) + 1)) 5 0) 4 (((upd (upd (upd (upd f3 6 ((f3 6) + 1)) 6 0) 5 (((upd (upd f3 6 ((f3 6) + 1)) 6 0) 5) + 1)) 5 0) 4) + 1)) 4 0) 3 (((upd (upd (upd (upd (upd (upd f3 6 ((f3 6) + 1)) 6 0) 5 (((upd (upd f3 6 ((f3 6) + 1)) 6 0) 5) + 1)) 5 0) 4 (((upd (upd (upd (upd f3 6 ((f3 6) + 1)) 6 0) 5 (((upd (upd f3 6 ((f3 6) + 1)) 6 0) 5) + 1)) 5 0) 4) + 1)) 4 0) 3) + 1)) 3 0) 2) + 1)) 2 0) 1) + 1)) 1 0) 0 (((upd (upd (upd (upd (upd (upd (upd (upd (upd (upd (upd (upd f3 6 ((f3 6) + 1)) 6 0) 5 (((upd (upd f3 6 ((f3 6) + 1)) 6 0) 5) + 1)) 5 0) 4 (((upd (upd (upd (upd f3 6 ((f3 6) + 1)) 6 0) 5 (((upd (upd f3 6 ((f3 6) + 1)) 6 0) 5) + 1)) 5 0) 4) + 1)) 4 0) 3 (((upd (upd (upd (upd (upd (upd f3 6 ((f3 6) + 1)) 6 0) 5 (((upd (upd f3 6 ((f3 6) + 1)) 6 0) 5) + 1)) 5 0) 4 (((upd (upd (upd (upd f3 6 ((f3 6) + 1)) 6 0) 5 (((upd (upd f3 6 ((f3 6) + 1)) 6 0) 5) + 1)) 5 0) 4) + 1)) 4 0) 3) + 1)) 3 0) 2 (((upd (upd (upd (upd (upd (upd (upd (upd f3 6 ((f3 6) + 1)) 6 0) 5 (((upd (upd f3 6 ((f3 6) + 1)) 6 0) 5) + 1)) 5 0) 4 (((upd (upd (upd (upd f3 6 ((f3 6) + 1)) 6 0) 5 (((upd (upd f3 6 ((f3 6) + 1)) 6 0) 5) + 1)) 5 0) 4) + 1)) 4 0) 3 (((upd (upd (upd (upd (upd (upd f3 6 ((f3 6) + 1)) 6 0) 5 (((upd (upd f3 6 ((f3 6) + 1)) 6 0) 5) + 1)) 5 0) 4 (((upd (upd (upd (upd f3 6 ((f3 6) + 1)) 6 0) 5 (((upd (upd f3 6 ((f3 6) + 1)) 6 0) 5) + 1)) 5 0) 4) + 1)) 4 0) 3) + 1)) 3 0) 2) + 1)) 2 0) 1 (((upd (upd (upd (upd (upd (upd (upd (upd (upd (upd f3 6 ((f3 6) + 1)) 6 0) 5 (((upd (upd f3 6 ((f3 6) + 1)) 6 0) 5) + 1)) 5 0) 4 (((upd (upd (upd (upd f3 6 ((f3 6) + 1)) 6 0) 5 (((upd (upd f3 6 ((f3 6) + 1)) 6 0) 5) + 1)) 5 0) 4) + 1)) 4 0) 3 (((upd (upd (upd (upd (upd (upd f3 6 ((f3 6) + 1)) 6 0) 5 (((upd (upd f3 6 ((f3 6) + 1)) 6 0) 5) + 1)) 5 0) 4 (((upd (upd (upd (upd f3 6 ((f3 6) + 1)) 6 0) 5 (((upd (upd f3 6 ((f3 6) + 1)) 6 0) 5) + 1)) 5 0) 4) + 1)) 4 0) 3) + 1)) 3 0) 2 (((upd (upd (upd (upd (upd (upd (upd (upd f3 6 ((f3 6) + 1)) 6 0) 5 (((upd (upd f3 6 ((f3 6) + 1)) 6 0) 5) + 1)) 5 0) 4 (((upd (upd (upd (upd f3 6 ((f3 6) + 1)) 6 0) 5 (((upd (upd f3 6 ((f3 6) + 1)) 6 0) 5) + 1)) 5 0) 4) + 1)) 4 0) 3 (((upd (upd (upd (upd (upd (upd f3 6 ((f3 6) + 1)) 6 0) 5 (((upd (upd f3 6 ((f3 6) + 1)) 6 0) 5) + 1)) 5 0) 4 (((upd (upd (upd (upd f3 6 ((f3 6) + 1)) 6 0) 5 (((upd (upd f3 6 ((f3 6) + 1)) 6 0) 5) + 1)) 5 0) 4) + 1)) 4 0) 3) + 1)) 3 0) 2) + 1)) 2 0) 1) + 1)) 1 0) 0) + 1)), rfl, hw_36⟩)
            · have c_30n : ¬ (f1 1).toInt ≤ (((upd (upd (upd (upd (upd (upd (upd (upd (upd (upd f3 6 ((f3 6) + 1)) 6 0) 5 (((upd (upd f3 6 ((f3 6) + 1)) 6 0) 5) + 1)) 5 0) 4 (((upd (upd (upd (upd f3 6 ((f3 6) + 1)) 6 0) 5 (((upd (upd f3 6 ((f3 6) + 1)) 6 0) 5) + 1)) 5 0) 4) + 1)) 4 0) 3 (((upd (upd (upd (upd (upd (upd f3 6 ((f3 6) + 1)) 6 0) 5 (((upd (upd f3 6 ((f3 6) + 1)) 6 0) 5) + 1)) 5 0) 4 (((upd (upd (upd (upd f3 6 ((f3 6) + 1)) 6 0) 5 (((upd (upd f3 6 ((f3 6) + 1)) 6 0) 5) + 1)) 5 0) 4) + 1)) 4 0) 3) + 1)) 3 0) 2 (((upd (upd (upd (upd (upd (upd (upd (upd f3 6 ((f3 6) + 1)) 6 0) 5 (((upd (upd f3 6 ((f3 6) + 1)) 6 0) 5) + 1)) 5 0) 4 (((upd (upd (upd (upd f3 6 ((f3 6) + 1)) 6 0) 5 (((upd (upd f3 6 ((f3 6) + 1)) 6 0) 5) + 1)) 5 0) 4) + 1)) 4 0) 3 (((upd (upd (upd (upd (upd (upd f3 6 ((f3 6) + 1)) 6 0) 5 (((upd (upd f3 6 ((f3 6) + 1)) 6 0) 5) + 1)) 5 0) 4 (((upd (upd (upd (upd f3 6 ((f3 6) + 1)) 6 0) 5 (((upd (upd f3 6 ((f3 6) + 1)) 6 0) 5) + 1)) 5 0) 4) + 1)) 4 0) 3) + 1)) 3 0) 2) + 1)) 2 0) 1) + 1).toInt := fun q => c_30 ((fa_le _ _).mpr q)
              have hw_37 : bWays T h la md wy pc_ f1 f2 (upd (upd (upd (upd (upd (upd (upd (upd (upd (upd (upd f3 6 ((f3 6) + 1)) 6 0) 5 (((upd (upd f3 6 ((f3 6) + 1)) 6 0) 5) + 1)) 5 0) 4 (((upd (upd (upd (upd f3 6 ((f3 6) + 1)) 6 0) 5 (((upd (upd f3 6 ((f3 6) + 1)) 6 0) 5) + 1)) 5 0) 4) + 1)) 4 0) 3 (((upd (upd (upd (upd (upd (upd f3 6 ((f3 6) + 1)) 6 0) 5 (((upd (upd f3 6 ((f3 6) + 1)) 6 0) 5) + 1)) 5 0) 4 (((upd (upd (upd (upd f3 6 ((f3 6) + 1)) 6 0) 5 (((upd (upd f3 6 ((f3 6) + 1)) 6 0) 5) + 1)) 5 0) 4) + 1)) 4 0) 3) + 1)) 3 0) 2 (((upd (upd (upd (upd (upd (upd (upd (upd f3 6 ((f3 6) + 1)) 6 0) 5 (((upd (upd f3 6 ((f3 6) + 1)) 6 0) 5) + 1)) 5 0) 4 (((upd (upd (upd (upd f3 6 ((f3 6) + 1)) 6 0) 5 (((upd (upd f3 6 ((f3 6) + 1)) 6 0) 5) + 1)) 5 0) 4) + 1)) 4 0) 3 (((upd (upd (upd (upd (upd (upd f3 6 ((f3 6) + 1)) 6 0) 5 (((upd (upd f3 6 ((f3 6) + 1)) 6 0) 5) + 1)) 5 0) 4 (((upd (upd (upd (upd f3 6 ((f3 6) + 1)) 6 0) 5 (((upd (upd f3 6 ((f3 6) + 1)) 6 0) 5) + 1)) 5 0) 4) + 1)) 4 0) 3) + 1)) 3 0) 2) + 1)) 2 0) 1 (((upd (upd (upd (upd (upd (upd (upd (upd (upd (upd f3 6 ((f3 6) + 1)) 6 0) 5 (((upd (upd f3 6 ((f3 6) + 1)) 6 0) 5) + 1)) 5 0) 4 (((upd (upd (upd (upd f3 6 ((f3 6) + 1)) 6 0) 5 (((upd (upd f3 6 ((f3 6) + 1)) 6 0) 5) + 1)) 5 0) 4) + 1)) 4 0) 3 (((upd (upd (upd (upd (upd (upd f3 6 ((f3 6) + 1)) 6 0) 5 (((upd (upd f3 6 ((f3 6) + 1)) 6 0) 5) + 1)) 5 0) 4 (((upd (upd (upd (upd f3 6 ((f3 6) + 1)) 6 0) 5 (((upd (upd f3 6 ((f3 6) + 1)) 6 0) 5) + 1)) 5 0) 4) + 1)) 4 0) 3) + 1)) 3 0) 2 (((upd (upd (upd (upd (upd (upd (upd (upd f3 6 ((f3 6) + 1)) 6 0) 5 (((upd (upd f3 6 ((f3 6) + 1)) 6 0) 5) + 1)) 5 0) 4 (((upd (upd (upd (upd f3 6 ((f3 6) + 1)) 6 0) 5 (((upd (upd f3 6 ((f3 6) + 1)) 6 0) 5) + 1)) 5 0) 4) + 1)) 4 0) 3 (((upd (upd (upd (upd (upd (upd f3 6 ((f3 6) + 1)) 6 0) 5 (((upd (upd f3 6 ((f3 6) + 1)) 6 0) 5) + 1)) 5 0) 4 (((upd (upd (upd (upd f3 6 ((f3 6) + 1)) 6 0) 5 (((upd (upd f3 6 ((f3 6) + 1)) 6 0) 5) + 1)) 5 0) 4) + 1)) 4 0) 3) + 1)) 3 0) 2) + 1)) 2 0) 1) + 1)) f4 f5 f6 n4 [zO0 h md wy la pc_ a1_1 a2_2 a3_3 a4_4 a5_5 a6_6, zAr T 0 a1_1 7 f1, zAr T 0 a2_2 7 f2, zAr T 0 a3_3 7 (upd (upd (upd (upd (upd (upd (upd (upd (upd (upd (upd f3 6 ((f3 6) + 1)) 6 0) 5 (((upd (upd f3 6 ((f3 6) + 1)) 6 0) 5) + 1)) 5 0) 4 (((upd (upd (upd (upd f3 6 ((f3 6) + 1)) 6 0) 5 (((upd (upd f3 6 ((f3 6) + 1)) 6 0) 5) + 1)) 5 0) 4) + 1)) 4 0) 3 (((upd (upd (upd (upd (upd (upd f3 6 ((f3 6) + 1)) 6 0) 5 (((upd (upd f3 6 ((f3 6) + 1)) 6 0) 5) + 1)) 5 0) 4 (((upd (upd (upd (upd f3 6 ((f3 6) + 1)) 6 0) 5 (((upd (upd f3 6 ((f3 6) + 1)) 6 0) 5) + 1)) 5 0) 4) + 1)) 4 0) 3) + 1)) 3 0) 2 (((upd (upd (upd (upd (upd (upd (upd (upd f3 6 ((f3 6) + 1)) 6 0) 5 (((upd (upd f3 6 ((f3 6) + 1)) 6 0) 5) + 1)) 5 0) 4 (((upd (upd (upd (upd f3 6 ((f3 6) + 1)) 6 0) 5 (((upd (upd f3 6 ((f3 6) + 1)) 6 0) 5) + 1)) 5 0) 4) + 1)) 4 0) 3 (((upd (upd (upd (upd (upd (upd f3 6 ((f3 6) + 1)) 6 0) 5 (((upd (upd f3 6 ((f3 6) + 1)) 6 0) 5) + 1)) 5 0) 4 (((upd (upd (upd (upd f3 6 ((f3 6) + 1)) 6 0) 5 (((upd (upd f3 6 ((f3 6) + 1)) 6 0) 5) + 1)) 5 0) 4) + 1)) 4 0) 3) + 1)) 3 0) 2) + 1)) 2 0) 1 (((upd (upd (upd (upd (upd (upd (upd (upd (upd (upd f3 6 ((f3 6) + 1)) 6 0) 5 (((upd (upd f3 6 ((f3 6) + 1)) 6 0) 5) + 1)) 5 0) 4 (((upd (upd (upd (upd f3 6 ((f3 6) + 1)) 6 0) 5 (((upd (upd f3 6 ((f3 6) + 1)) 6 0) 5) + 1)) 5 0) 4) + 1)) 4 0) 3 (((upd (upd (upd (upd (upd (upd f3 6 ((f3 6) + 1)) 6 0) 5 (((upd (upd f3 6 ((f3 6) + 1)) 6 0) 5) + 1)) 5 0) 4 (((upd (upd (upd (upd f3 6 ((f3 6) + 1)) 6 0) 5 (((upd (upd f3 6 ((f3 6) + 1)) 6 0) 5) + 1)) 5 0) 4) + 1)) 4 0) 3) + 1)) 3 0) 2 (((upd (upd (upd (upd (upd (upd (upd (upd f3 6 ((f3 6) + 1)) 6 0) 5 (((upd (upd f3 6 ((f3 6) + 1)) 6 0) 5) + 1)) 5 0) 4 (((upd (upd (upd (upd f3 6 ((f3 6) + 1)) 6 0) 5 (((upd (upd f3 6 ((f3 6) + 1)) 6 0) 5) + 1)) 5 0) 4) + 1)) 4 0) 3 (((upd (upd (upd (upd (upd (upd f3 6 ((f3 6) + 1)) 6 0) 5 (((upd (upd f3 6 ((f3 6) + 1)) 6 0) 5) + 1)) 5 0) 4 (((upd (upd (upd (upd f3 6 ((f3 6) + 1)) 6 0) 5 (((upd (upd f3 6 ((f3 6) + 1)) 6 0) 5) + 1)) 5 0) 4) + 1)) 4 0) 3) + 1)) 3 0) 2) + 1)) 2 0) 1) + 1)), zAr T 0 a4_4 n4 f4, zAr T 0 a5_5 n4 f5, zAr T 0 a6_6 n4 f6] := ⟨a1_1, a2_2, a3_3, a4_4, a5_5, a6_6, rfl⟩
              have G : zS T A s.heap s [[zO0 h md wy la pc_ a1_1 a2_2 a3_3 a4_4 a5_5 a6_6, zAr T 0 a1_1 7 f1, zAr T 0 a2_2 7 f2, zAr T 0 a3_3 7 (upd (upd (upd (upd (upd (upd (upd (upd (upd (upd (upd f3 6 ((f3 6) + 1)) 6 0) 5 (((upd (upd f3 6 ((f3 6) + 1)) 6 0) 5) + 1)) 5 0) 4 (((upd (upd (upd (upd f3 6 ((f3 6) + 1)) 6 0) 5 (((upd (upd f3 6 ((f3 6) + 1)) 6 0) 5) + 1)) 5 0) 4) + 1)) 4 0) 3 (((upd (upd (upd (upd (upd (upd f3 6 ((f3 6) + 1)) 6 0) 5 (((upd (upd f3 6 ((f3 6) + 1)) 6 0) 5) + 1)) 5 0) 4 (((upd (upd (upd (upd f3 6 ((f3 6) + 1)) 6 0) 5 (((upd (upd f3 6 ((f3 6) + 1)) 6 0) 5) + 1)) 5 0) 4) + 1)) 4 0) 3) + 1)) 3 0) 2 (((upd (upd (upd (upd (upd (upd (upd (upd f3 6 ((f3 6) + 1)) 6 0) 5 (((upd (upd f3 6 ((f3 6) + 1)) 6 0) 5) + 1)) 5 0) 4 (((upd (upd (upd (upd f3 6 ((f3 6) + 1)) 6 0) 5 (((upd (upd f3 6 ((f3 6) + 1)) 6 0) 5) + 1)) 5 0) 4) + 1)) 4 0) 3 (((upd (upd (upd (upd (upd (upd f3 6 ((f3 6) + 1)) 6 0) 5 (((upd (upd f3 6 ((f3 6) + 1)) 6 0) 5) + 1)) 5 0) 4 (((upd (upd (upd (upd f3 6 ((f3 6) + 1)) 6 0) 5 (((upd (upd f3 6 ((f3 6) + 1)) 6 0) 5) + 1)) 5 0) 4) + 1)) 4 0) 3) + 1)) 3 0) 2) + 1)) 2 0) 1 (((upd (upd (upd (upd (upd (upd (upd (upd (upd (upd f3 6 ((f3 6) + 1)) 6 0) 5 (((upd (upd f3 6 ((f3 6) + 1)) 6 0) 5) + 1)) 5 0) 4 (((upd (upd (upd (upd f3 6 ((f3 6) + 1)) 6 0) 5 (((upd (upd f3 6 ((f3 6) + 1)) 6 0) 5) + 1)) 5 0) 4) + 1)) 4 0) 3 (((upd (upd (upd (upd (upd (upd f3 6 ((f3 6) + 1)) 6 0) 5 (((upd (upd f3 6 ((f3 6) + 1)) 6 0) 5) + 1)) 5 0) 4 (((upd (upd (upd (upd f3 6 ((f3 6) + 1)) 6 0) 5 (((upd (upd f3 6 ((f3 6) + 1)) 6 0) 5) + 1)) 5 0) 4) + 1)) 4 0) 3) + 1)) 3 0) 2 (((upd (upd (upd (upd (upd (upd (upd (upd f3 6 ((f3 6) + 1)) 6 0) 5 (((upd (upd f3 6 ((f3 6) + 1)) 6 0) 5) + 1)) 5 0) 4 (((upd (upd (upd (upd f3 6 ((f3 6) + 1)) 6 0) 5 (((upd (upd f3 6 ((f3 6) + 1)) 6 0) 5) + 1)) 5 0) 4) + 1)) 4 0) 3 (((upd (upd (upd (upd (upd (upd f3 6 ((f3 6) + 1)) 6 0) 5 (((upd (upd f3 6 ((f3 6) + 1)) 6 0) 5) + 1)) 5 0) 4 (((upd (upd (upd (upd f3 6 ((f3 6) + 1)) 6 0) 5 (((upd (upd f3 6 ((f3 6) + 1)) 6 0) 5) + 1)) 5 0) 4) + 1)) 4 0) 3) + 1)) 3 0) 2) + 1)) 2 0) 1) + 1)), zAr T 0 a4_4 n4 f4, zAr T 0 a5_5 n4 f5, zAr T 0 a6_6 n4 f6]] _ _ := G.re rfl
              exact z_back hQz_ (z_vret C hr hlocks G (Nat.le_of_ble_eq_true rfl) (Nat.le_of_ble_eq_true rfl) dX0_nextRow_32 ⟨([zO0 h md wy la pc_ a1_1 a2_2 a3_3 a4_4 a5_5 a6_6, zAr T 0 a1_1 7 f1, zAr T 0 a2_2 7 f2, zAr T 0 a3_3 7 (upd (upd (upd (upd (upd (upd (upd (upd (upd (upd (upd f3 6 ((f3 6) + 1)) 6 0) 5 (((upd (upd f3 6 ((f3 6) + 1)) 6 0) 5) + 1)) 5 0) 4 (((upd (upd (upd (upd f3 6 ((f3 6) + 1)) 6 0) 5 (((upd (upd f3 6 ((f3 6) + 1)) 6 0) 5) + 1)) 5 0) 4) + 1)) 4 0) 3 (((upd (upd (upd (upd (upd (upd f3 6 ((f3 6) + 1)) 6 0) 5 (((upd (upd f3 6 ((f3 6) + 1)) 6 0) 5) + 1)) 5 0) 4 (((upd (upd (upd (upd f3 6 ((f3 6) + 1)) 6 0) 5 (((upd (upd f3 6 ((f3 6) + 1)) 6 0) 5) + 1)) 5 0) 4) + 1)) 4 0) 3) + 1)) 3 0) 2 (((upd (upd (upd (upd (upd (upd (upd (upd f3 6 ((f3 6) + 1)) 6 0) 5 (((upd (upd f3 6 ((f3 6) + 1)) 6 0) 5) + 1)) 5 0) 4 (((upd (upd (upd (upd f3 6 ((f3 6) + 1)) 6 0) 5 (((upd (upd f3 6 ((f3 6) + 1)) 6 0) 5) + 1)) 5 0) 4) + 1)) 4 0) 3 (((upd (upd (upd (upd (upd (upd f3 6 ((f3 6) + 1)) 6 0) 5 (((upd (upd f3 6 ((f3 6) + 1)) 6 0) 5) + 1)) 5 0) 4 (((upd (upd (upd (upd f3 6 ((f3 6) + 1)) 6 0) 5 (((upd (upd f3 6 ((f3 6) + 1)) 6 0) 5) + 1)) 5 0) 4) + 1)) 4 0) 3) + 1)) 3 0) 2) + 1)) 2 0) 1 (((upd (upd (upd (upd (upd (upd (upd (upd (upd (upd f3 6 ((f3 6) + 1)) 6 0) 5 (((upd (upd f3 6 ((f3 6) + 1)) 6 0) 5) + 1)) 5 0) 4 (((upd (upd (upd (upd f3 6 ((f3 6) + 1)) 6 0) 5 (((upd (upd f3 6 ((f3 6) + 1)) 6 0) 5) + 1)) 5 0) 4) + 1)) 4 0) 3 (((upd (upd (upd (upd (upd (upd f3 6 ((f3 6) + 1)) 6 0) 5 (((upd (upd f3 6 ((f3 6) + 1)) 6 0) 5) + 1)) 5 0) 4 (((upd (upd (upd (upd f3 6 ((f3 6) + 1)) 6 0) 5 (((upd (upd f3 6 ((f3 6) + 1)) 6 0) 5) + 1)) 5 0) 4) + 1)) 4 0) 3) + 1)) 3 0) 2 (((upd (upd (upd (upd (upd (upd (upd (upd f3 6 ((f3 6) + 1)) 6 0) 5 (((upd (upd f3 6 ((f3 6) + 1)) 6 0) 5) + 1)) 5 0) 4 (((upd (upd (upd (upd f3 6 ((f3 6) + 1)) 6 0) 5 (((upd (upd f3 6 ((f3 6) + 1)) 6 0) 5) + 1)) 5 0) 4) + 1)) 4 0) 3 (((upd (upd (upd (upd (upd (upd f3 6 ((f3 6) + 1)) 6 0) 5 (((upd (upd f3 6 ((f3 6) + 1)) 6 0) 5) + 1)) 5 0) 4 (((upd (upd (upd (upd f3 6 ((f3 6) + 1)) 6 0) 5 (((upd (upd f3 6 ((f3 6) + 1)) 6 0) 5) + 1)) 5 0) 4) + 1)) 4 0) 3) + 1)) 3 0) 2) + 1)) 2 0) 1) + 1)), zAr T 0 a4_4 n4 f4, zAr T 0 a5_5 n4 f5, zAr T 0 a6_6 n4 f6]), (upd (upd (upd (upd (upd (upd (upd (upd (upd (upd (upd f3 6 ((f3 6) + 1)) 6 0) 5 (((upd (upd f3 6 ((f3 6) + 1)) 6 0) 5) + 1)) 5 0) 4 (((upd (upd (upd (upd f3 6 ((f3 6) + 1)) 6 0) 5 (((upd (upd f3 6 ((f3 6) + 1)) 6 0) 5) + 1)) 5 0) 4) + 1)) 4 0) 3 (((upd (upd (upd (upd (upd (upd f3 6 ((f3 6) + 1)) 6 0) 5 (((upd (upd f3 6 ((f3 6) + 1)) 6 0) 5) + 1)) 5 0) 4 (((upd (upd (upd (upd f3 6 ((f3 6) + 1)) 6 0) 5 (((upd (upd f3 6 ((f3 6) + 1)) 6 0) 5) + 1)) 5 0) 4) + 1)) 4 0) 3) + 1)) 3 0) 2 (((upd (upd (upd (upd (upd (upd (upd (upd f3 6 ((f3 6) + 1)) 6 0) 5 (((upd (upd f3 6 ((f3 6) + 1)) 6 0) 5) + 1)) 5 0) 4 (((upd (upd (upd (upd f3 6 ((f3 6) + 1)) 6 0) 5 (((upd (upd f3 6 ((f3 6) + 1)) 6 0) 5) + 1)) 5 0) 4) + 1)) 4 0) 3 (((upd (upd (upd (upd (upd (upd f3 6 ((f3 6) + 1)) 6 0) 5 (((upd (upd f3 6 ((f3 6) + 1)) 6 0) 5) + 1)) 5 0) 4 (((upd (upd (upd (upd f3 6 ((f3 6) + 1)) 6 0) 5 (((upd (upd f3 6 ((f3 6) + 1)) 6 0) 5) + 1)) 5 0) 4) + 1)) 4 0) 3) + 1)) 3 0) 2) + 1)) 2 0) 1 (((upd (upd (upd (upd (upd (upd (upd (upd (upd (upd f3 6 ((f3 6) + 1)) 6 0) 5 (((upd (upd f3 6 ((f3 6) + 1)) 6 0) 5) + 1)) 5 0) 4 (((upd (upd (upd (upd f3 6 ((f3 6) + 1)) 6 0) 5 (((upd (upd f3 6 ((f3 6) + 1)) 6 0) 5) + 1)) 5 0) 4) + 1)) 4 0) 3 (((upd (upd (upd (upd (upd (upd f3 6 ((f3 6) + 1)) 6 0) 5 (((upd (upd f3 6 ((f3 6) + 1)) 6 0) 5) + 1)) 5 0) 4 (((upd (upd (upd (upd f3 6 ((f3 6) + 1)) 6 0) 5 (((upd (upd f3 6 ((f3 6) + 1)) 6 0) 5) + 1)) 5 0) 4) + 1)) 4 0) 3) + 1)) 3 0) 2 (((upd (upd (upd (upd (upd (upd (upd (upd f3 6 ((f3 6) + 1)) 6 0) 5 (((upd (upd f3 6 ((f3 6) + 1)) 6 0) 5) + 1)) 5 0) 4 (((upd (upd (upd (upd f3 6 ((f3 6) + 1)) 6 0) 5 (((upd (upd f3 6 ((f3 6) + 1)) 6 0) 5) + 1)) 5 0) 4) + 1)) 4 0) 3 (((upd (upd (upd (upd (upd (upd f3 6 ((f3 6) + 1)) 6 0) 5 (((upd (upd f3 6 ((f3 6) + 1)) 6 0) 5) + 1)) 5 0) 4 (((upd (upd (upd (upd f3 6 ((f3 6) + 1)) 6 0) 5 (((upd (upd f3 6 ((f3 6) + 1)) 6 0) 5) + 1)) 5 0) 4) + 1)) 4 0) 3) + 1)) 3 0) 2) + 1)) 2 0) 1) + 1)), rfl, hw_37⟩)
          · have c_26n : ¬ (f1 2).toInt ≤ (((upd (upd (upd (upd (upd (upd (upd (upd f3 6 ((f3 6) + 1)) 6 0) 5 (((upd (upd f3 6 ((f3 6) + 1)) 6 0) 5) + 1)) 5 0) 4 (((upd (upd (upd (upd f3 6 ((f3 6) + 1)) 6 0) 5 (((upd (upd f3 6 ((f3 6) + 1)) 6 0) 5) + 1)) 5 0) 4) + 1)) 4 0) 3 (((upd (upd (upd (upd (upd (upd f3 6 ((f3 6) + 1)) 6 0) 5 (((upd (upd f3 6 ((f3 6) + 1)) 6 0) 5) + 1)) 5 0) 4 (((upd (upd (upd (upd f3 6 ((f3 6) + 1)) 6 0) 5 (((upd (upd f3 6 ((f3 6) + 1)) 6 0) 5) + 1)) 5 0) 4) + 1)) 4 0) 3) + 1)) 3 0) 2) + 1).toInt := fun q => c_26 ((fa_le _ _).mpr q)
            have hw_38 : bWays T h la md wy pc_ f1 f2 (upd (upd (upd (upd (upd (upd (upd (upd (upd f3 6 ((f3 6) + 1)) 6 0) 5 (((upd (upd f3 6 ((f3 6) + 1)) 6 0) 5) + 1)) 5 0) 4 (((upd (upd (upd (upd f3 6 ((f3 6) + 1)) 6 0) 5 (((upd (upd f3 6 ((f3 6) + 1)) 6 0) 5) + 1)) 5 0) 4) + 1)) 4 0) 3 (((upd (upd (upd (upd (upd (upd f3 6 ((f3 6) + 1)) 6 0) 5 (((upd (upd f3 6 ((f3 6) + 1)) 6 0) 5) + 1)) 5 0) 4 (((upd (upd (upd (upd f3 6 ((f3 6) + 1)) 6 0) 5 (((upd (upd f3 6 ((f3 6) + 1)) 6 0) 5) + 1)) 5 0) 4) + 1)) 4 0) 3) + 1)) 3 0) 2 (((upd (upd (upd (upd (upd (upd (upd (upd f3 6 ((f3 6) + 1)) 6 0) 5 (((upd (upd f3 6 ((f3 6) + 1)) 6 0) 5) + 1)) 5 0) 4 (((upd (upd (upd (upd f3 6 ((f3 6) + 1)) 6 0) 5 (((upd (upd f3 6 ((f3 6) + 1)) 6 0) 5) + 1)) 5 0) 4) + 1)) 4 0) 3 (((upd (upd (upd (upd (upd (upd f3 6 ((f3 6) + 1)) 6 0) 5 (((upd (upd f3 6 ((f3 6) + 1)) 6 0) 5) + 1)) 5 0) 4 (((upd (upd (upd (upd f3 6 ((f3 6) + 1)) 6 0) 5 (((upd (upd f3 6 ((f3 6) + 1)) 6 0) 5) + 1)) 5 0) 4) + 1)) 4 0) 3) + 1)) 3 0) 2) + 1)) f4 f5 f6 n4 [zO0 h md wy la pc_ a1_1 a2_2 a3_3 a4_4 a5_5 a6_6, zAr T 0 a1_1 7 f1, zAr T 0 a2_2 7 f2, zAr T 0 a3_3 7 (upd (upd (upd (upd (upd (upd (upd (upd (upd f3 6 ((f3 6) + 1)) 6 0) 5 (((upd (upd f3 6 ((f3 6) + 1)) 6 0) 5) + 1)) 5 0) 4 (((upd (upd (upd (upd f3 6 ((f3 6) + 1)) 6 0) 5 (((upd (upd f3 6 ((f3 6) + 1)) 6 0) 5) + 1)) 5 0) 4) + 1)) 4 0) 3 (((upd (upd (upd (upd (upd (upd f3 6 ((f3 6) + 1)) 6 0) 5 (((upd (upd f3 6 ((f3 6) + 1)) 6 0) 5) + 1)) 5 0) 4 (((upd (upd (upd (upd f3 6 ((f3 6) + 1)) 6 0) 5 (((upd (upd f3 6 ((f3 6) + 1)) 6 0) 5) + 1)) 5 0) 4) + 1)) 4 0) 3) + 1)) 3 0) 2 (((upd (upd (upd (upd (upd (upd (upd (upd f3 6 ((f3 6) + 1)) 6 0) 5 (((upd (upd f3 6 ((f3 6) + 1)) 6 0) 5) + 1)) 5 0) 4 (((upd (upd (upd (upd f3 6 ((f3 6) + 1)) 6 0) 5 (((upd (upd f3 6 ((f3 6) + 1)) 6 0) 5) + 1)) 5 0) 4) + 1)) 4 0) 3 (((upd (upd (upd (upd (upd (upd f3 6 ((f3 6) + 1)) 6 0) 5 (((upd (upd f3 6 ((f3 6) + 1)) 6 0) 5) + 1)) 5 0) 4 (((upd (upd (upd (upd f3 6 ((f3 6) + 1)) 6 0) 5 (((upd (upd f3 6 ((f3 6) + 1)) 6 0) 5) + 1)) 5 0) 4) + 1)) 4 0) 3) + 1)) 3 0) 2) + 1)), zAr T 0 a4_4 n4 f4, zAr T 0 a5_5 n4 f5, zAr T 0 a6_6 n4 f6] := ⟨a1_1, a2_2, a3_3, a4_4, a5_5, a6_6, rfl⟩
            have G : zS T A s.heap s [[zO0 h md wy la pc_ a1_1 a2_2 a3_3 a4_4 a5_5 a6_6, zAr T 0 a1_1 7 f1, zAr T 0 a2_2 7 f2, zAr T 0 a3_3 7 (upd (upd (upd (upd (upd (upd (upd (upd (upd f3 6 ((f3 6) + 1)) 6 0) 5 (((upd (upd f3 6 ((f3 6) + 1)) 6 0) 5) + 1)) 5 0) 4 (((upd (upd (upd (upd f3 6 ((f3 6) + 1)) 6 0) 5 (((upd (upd f3 6 ((f3 6) + 1)) 6 0) 5) + 1)) 5 0) 4) + 1)) 4 0) 3 (((upd (upd (upd (upd (upd (upd f3 6 ((f3 6) + 1)) 6 0) 5 (((upd (upd f3 6 ((f3 6) + 1)) 6 0) 5) + 1)) 5 0) 4 (((upd (upd (upd (upd f3 6 ((f3 6) + 1)) 6 0) 5 (((upd (upd f3 6 ((f3 6) + 1)) 6 0) 5) + 1)) 5 0) 4) + 1)) 4 0) 3) + 1)) 3 0) 2 (((upd (upd (upd (upd (upd (upd (upd (upd f3 6 ((f3 6) + 1)) 6 0) 5 (((upd (upd f3 6 ((f3 6) + 1)) 6 0) 5) + 1)) 5 0) 4 (((upd (upd (upd (upd f3 6 ((f3 6) + 1)) 6 0) 5 (((upd (upd f3 6 ((f3 6) + 1)) 6 0) 5) + 1)) 5 0) 4) + 1)) 4 0) 3 (((upd (upd (upd (upd (upd (upd f3 6 ((f3 6) + 1)) 6 0) 5 (((upd (upd f3 6 ((f3 6) + 1)) 6 0) 5) + 1)) 5 0) 4 (((upd (upd (upd (upd f3 6 ((f3 6) + 1)) 6 0) 5 (((upd (upd f3 6 ((f3 6) + 1)) 6 0) 5) + 1)) 5 0) 4) + 1)) 4 0) 3) + 1)) 3 0) 2) + 1)), zAr T 0 a4_4 n4 f4, zAr T 0 a5_5 n4 f5, zAr T 0 a6_6 n4 f6]] _ _ := G.re rfl
            exact z_back hQz_ (z_vret C hr hlocks G (Nat.le_of_ble_eq_true rfl) (Nat.le_of_ble_eq_true rfl) dX0_nextRow_32 ⟨([zO0 h md wy la pc_ a1_1 a2_2 a3_3 a4_4 a5_5 a6_6, zAr T 0 a1_1 7 f1, zAr T 0 a2_2 7 f2, zAr T 0 a3_3 7 (upd (upd (upd (upd (upd (upd (upd (upd (upd f3 6 ((f3 6) + 1)) 6 0) 5 (((upd (upd f3 6 ((f3 6) + 1)) 6 0) 5) + 1)) 5 0) 4 (((upd (upd (upd (upd f3 6 ((f3 6) + 1)) 6 0) 5 (((upd (upd f3 6 ((f3 6) + 1)) 6 0) 5) + 1)) 5 0) 4) + 1)) 4 0) 3 (((upd (upd (upd (upd (upd (upd f3 6 ((f3 6) + 1)) 6 0) 5 (((upd (upd f3 6 ((f3 6) + 1)) 6 0) 5) + 1)) 5 0) 4 (((upd (upd (upd (upd f3 6 ((f3 6) + 1)) 6 0) 5 (((upd (upd f3 6 ((f3 6) + 1)) 6 0) 5) + 1)) 5 0) 4) + 1)) 4 0) 3) + 1)) 3 0) 2 (((upd (upd (upd (upd (upd (upd (upd (upd f3 6 ((f3 6) + 1)) 6 0) 5 (((upd (upd f3 6 ((f3 6) + 1)) 6 0) 5) + 1)) 5 0) 4 (((upd (upd (upd (upd f3 6 ((f3 6) + 1)) 6 0) 5 (((upd (upd f3 6 ((f3 6) + 1)) 6 0) 5) + 1)) 5 0) 4) + 1)) 4 0) 3 (((upd (upd (upd (upd (upd (upd f3 6 ((f3 6) + 1)) 6 0) 5 (((upd (upd f3 6 ((f3 6) + 1)) 6 0) 5) + 1)) 5 0) 4 (((upd (upd (upd (upd f3 6 ((f3 6) + 1)) 6 0) 5 (((upd (upd f3 6 ((f3 6) + 1)) 6 0) 5) + 1)) 5 0) 4) + 1)) 4 0) 3) + 1)) 3 0) 2) + 1)), zAr T 0 a4_4 n4 f4, zAr T 0 a5_5 n4 f5, zAr T 0 a6_6 n4 f6]), (upd (upd (upd (upd (upd (upd (upd (upd (upd f3 6 ((f3 6) + 1)) 6 0) 5 (((upd (upd f3 6 ((f3 6) + 1)) 6 0) 5) + 1)) 5 0) 4 (((upd (upd (upd (upd f3 6 ((f3 6) + 1)) 6 0) 5 (((upd (upd f3 6 ((f3 6) + 1)) 6 0) 5) + 1)) 5 0) 4) + 1)) 4 0) 3 (((upd (upd (upd (upd (upd (upd f3 6 ((f3 6) + 1)) 6 0) 5 (((upd (upd f3 6 ((f3 6) + 1)) 6 0) 5) + 1)) 5 0) 4 (((upd (upd (upd (upd f3 6 ((f3 6) + 1)) 6 0) 5 (((upd (upd f3 6 ((f3 6) + 1)) 6 0) 5) + 1)) 5 0) 4) + 1)) 4 0) 3) + 1)) 3 0) 2 (((upd (upd (upd (upd (upd (upd (upd (upd f3 6 ((f3 6) + 1)) 6 0) 5 (((upd (upd f3 6 ((f3 6) + 1)) 6 0) 5) + 1)) 5 0) 4 (((upd (upd (upd (upd f3 6 ((f3 6) + 1)) 6 0) 5 (((upd (upd f3 6 ((f3 6) + 1)) 6 0) 5) + 1)) 5 0) 4) + 1)) 4 0) 3 (((upd (upd (upd (upd (upd (upd f3 6 ((f3 6) + 1)) 6 0) 5 (((upd (upd f3 6 ((f3 6) + 1)) 6 0) 5) + 1)) 5 0) 4 (((upd (upd (upd (upd f3 6 ((f3 6) + 1)) 6 0) 5 (((upd (upd f3 6 ((f3 6) + 1)) 6 0) 5) + 1)) 5 0) 4) + 1)) 4 0) 3) + 1)) 3 0) 2) + 1)), rfl, hw_38⟩)
        · have c_22n : ¬ (f1 3).toInt ≤ (((upd (upd (upd (upd (upd (upd f3 6 ((f3 6) + 1)) 6 0) 5 (((upd (upd f3 6 ((f3 6) + 1)) 6 0) 5) + 1)) 5 0) 4 (((upd (upd (upd (upd f3 6 ((f3 6) + 1)) 6 0) 5 (((upd (upd f3 6 ((f3 6) + 1)) 6 0) 5) + 1)) 5 0) 4) + 1)) 4 0) 3) + 1).toInt := fun q => c_22 ((fa_le _ _).mpr q)
          have hw_39 : bWays T h la md wy pc_ f1 f2 (upd (upd (upd (upd (upd (upd (upd f3 6 ((f3 6) + 1)) 6 0) 5 (((upd (upd f3 6 ((f3 6) + 1)) 6 0) 5) + 1)) 5 0) 4 (((upd (upd (upd (upd f3 6 ((f3 6) + 1)) 6 0) 5 (((upd (upd f3 6 ((f3 6) + 1)) 6 0) 5) + 1)) 5 0) 4) + 1)) 4 0) 3 (((upd (upd (upd (upd (upd (upd f3 6 ((f3 6) + 1)) 6 0) 5 (((upd (upd f3 6 ((f3 6) + 1)) 6 0) 5) + 1)) 5 0) 4 (((upd (upd (upd (upd f3 6 ((f3 6) + 1)) 6 0) 5 (((upd (upd f3 6 ((f3 6) + 1)) 6 0) 5) + 1)) 5 0) 4) + 1)) 4 0) 3) + 1)) f4 f5 f6 n4 [zO0 h md wy la pc_ a1_1 a2_2 a3_3 a4_4 a5_5 a6_6, zAr T 0 a1_1 7 f1, zAr T 0 a2_2 7 f2, zAr T 0 a3_3 7 (upd (upd (upd (upd (upd (upd (upd f3 6 ((f3 6) + 1)) 6 0) 5 (((upd (upd f3 6 ((f3 6) + 1)) 6 0) 5) + 1)) 5 0) 4 (((upd (upd (upd (upd f3 6 ((f3 6) + 1)) 6 0) 5 (((upd (upd f3 6 ((f3 6) + 1)) 6 0) 5) + 1)) 5 0) 4) + 1)) 4 0) 3 (((upd (upd (upd (upd (upd (upd f3 6 ((f3 6) + 1)) 6 0) 5 (((upd (upd f3 6 ((f3 6) + 1)) 6 0) 5) + 1)) 5 0) 4 (((upd (upd (upd (upd f3 6 ((f3 6) + 1)) 6 0) 5 (((upd (upd f3 6 ((f3 6) + 1)) 6 0) 5) + 1)) 5 0) 4) + 1)) 4 0) 3) + 1)), zAr T 0 a4_4 n4 f4, zAr T 0 a5_5 n4 f5, zAr T 0 a6_6 n4 f6] := ⟨a1_1, a2_2, a3_3, a4_4, a5_5, a6_6, rfl⟩
          have G : zS T A s.heap s [[zO0 h md wy la pc_ a1_1 a2_2 a3_3 a4_4 a5_5 a6_6, zAr T 0 a1_1 7 f1, zAr T 0 a2_2 7 f2, zAr T 0 a3_3 7 (upd (upd (upd (upd (upd (upd (upd f3 6 ((f3 6) + 1)) 6 0) 5 (((upd (upd f3 6 ((f3 6) + 1)) 6 0) 5) + 1)) 5 0) 4 (((upd (upd (upd (upd f3 6 ((f3 6) + 1)) 6 0) 5 (((upd (upd f3 6 ((f3 6) + 1)) 6 0) 5) + 1)) 5 0) 4) + 1)) 4 0) 3 (((upd (upd (upd (upd (upd (upd f3 6 ((f3 6) + 1)) 6 0) 5 (((upd (upd f3 6 ((f3 6) + 1)) 6 0) 5) + 1)) 5 0) 4 (((upd (upd (upd (upd f3 6 ((f3 6) + 1)) 6 0) 5 (((upd (upd f3 6 ((f3 6) + 1)) 6 0) 5) + 1)) 5 0) 4) + 1)) 4 0) 3) + 1)), zAr T 0 a4_4 n4 f4, zAr T 0 a5_5 n4 f5, zAr T 0 a6_6 n4 f6]] _ _ := G.re rfl
          exact z_back hQz_ (z_vret C hr hlocks G (Nat.le_of_ble_eq_true rfl) (Nat.le_of_ble_eq_true rfl) dX0_nextRow_32 ⟨([zO0 h md wy la pc_ a1_1 a2_2 a3_3 a4_4 a5_5 a6_6, zAr T 0 a1_1 7 f1, zAr T 0 a2_2 7 f2, zAr T 0 a3_3 7 (upd (upd (upd (upd (upd (upd (upd f3 6 ((f3 6) + 1)) 6 0) 5 (((upd (upd f3 6 ((f3 6) + 1)) 6 0) 5) + 1)) 5 0) 4 (((upd (upd (upd (upd f3 6 ((f3 6) + 1)) 6 0) 5 (((upd (upd f3 6 ((f3 6) + 1)) 6 0) 5) + 1)) 5 0) 4) + 1)) 4 0) 3 (((upd (upd (upd (upd (upd (upd f3 6 ((f3 6) + 1)) 6 0) 5 (((upd (upd f3 6 ((f3 6) + 1)) 6 0) 5) + 1)) 5 0) 4 (((upd (upd (upd (upd f3 6 ((f3 6) + 1)) 6 0) 5 (((upd (upd f3 6 ((f3 6) + 1)) 6 0) 5) + 1)) 5 0) 4) + 1)) 4 0) 3) + 1)), zAr T 0 a4_4 n4 f4, zAr T 0 a5_5 n4 f5, zAr T 0 a6_6 n4 f6]), (upd (upd (upd (upd (upd (upd (upd f3 6 ((f3 6) + 1)) 6 0) 5 (((upd (upd f3 6 ((f3 6) + 1)) 6 0) 5) + 1)) 5 0) 4 (((upd (upd (upd (upd f3 6 ((f3 6) + 1)) 6 0) 5 (((upd (upd f3 6 ((f3 6) + 1)) 6 0) 5) + 1)) 5 0) 4) + 1)) 4 0) 3 (((upd (upd (upd (upd (upd (upd f3 6 ((f3 6) + 1)) 6 0) 5 (((upd (upd f3 6 ((f3 6) + 1)) 6 0) 5) + 1)) 5 0) 4 (((upd (upd (upd (upd f3 6 ((f3 6) + 1)) 6 0) 5 (((upd (upd f3 6 ((f3 6) + 1)) 6 0) 5) + 1)) 5 0) 4) + 1)) 4 0) 3) + 1)), rfl, hw_39⟩)
      · have c_18n : ¬ (f1 4).toInt ≤ (((upd (upd (upd (upd f3 6 ((f3 6) + 1)) 6 0) 5 (((upd (upd f3 6 ((f3 6) + 1)) 6 0) 5) + 1)) 5 0) 4) + 1).toInt := fun q => c_18 ((fa_le _ _).mpr q)
        have hw_40 : bWays T h la md wy pc_ f1 f2 (upd (upd (upd (upd (upd f3 6 ((f3 6) + 1)) 6 0) 5 (((upd (upd f3 6 ((f3 6) + 1)) 6 0) 5) + 1)) 5 0) 4 (((upd (upd (upd (upd f3 6 ((f3 6) + 1)) 6 0) 5 (((upd (upd f3 6 ((f3 6) + 1)) 6 0) 5) + 1)) 5 0) 4) + 1)) f4 f5 f6 n4 [zO0 h md wy la pc_ a1_1 a2_2 a3_3 a4_4 a5_5 a6_6, zAr T 0 a1_1 7 f1, zAr T 0 a2_2 7 f2, zAr T 0 a3_3 7 (upd (upd (upd (upd (upd f3 6 ((f3 6) + 1)) 6 0) 5 (((upd (upd f3 6 ((f3 6) + 1)) 6 0) 5) + 1)) 5 0) 4 (((upd (upd (upd (upd f3 6 ((f3 6) + 1)) 6 0) 5 (((upd (upd f3 6 ((f3 6) + 1)) 6 0) 5) + 1)) 5 0) 4) + 1)), zAr T 0 a4_4 n4 f4, zAr T 0 a5_5 n4 f5, zAr T 0 a6_6 n4 f6] := ⟨a1_1, a2_2, a3_3, a4_4, a5_5, a6_6, rfl⟩
        have G : zS T A s.heap s [[zO0 h md wy la pc_ a1_1 a2_2 a3_3 a4_4 a5_5 a6_6, zAr T 0 a1_1 7 f1, zAr T 0 a2_2 7 f2, zAr T 0 a3_3 7 (upd (upd (upd (upd (upd f3 6 ((f3 6) + 1)) 6 0) 5 (((upd (upd f3 6 ((f3 6) + 1)) 6 0) 5) + 1)) 5 0) 4 (((upd (upd (upd (upd f3 6 ((f3 6) + 1)) 6 0) 5 (((upd (upd f3 6 ((f3 6) + 1)) 6 0) 5) + 1)) 5 0) 4) + 1)), zAr T 0 a4_4 n4 f4, zAr T 0 a5_5 n4 f5, zAr T 0 a6_6 n4 f6]] _ _ := G.re rfl
        exact z_back hQz_ (z_vret C hr hlocks G (Nat.le_of_ble_eq_true rfl) (Nat.le_of_ble_eq_true rfl) dX0_nextRow_32 ⟨([zO0 h md wy la pc_ a1_1 a2_2 a3_3 a4_4 a5_5 a6_6, zAr T 0 a1_1 7 f1, zAr T 0 a2_2 7 f2, zAr T 0 a3_3 7 (upd (upd (upd (upd (upd f3 6 ((f3 6) + 1)) 6 0) 5 (((upd (upd f3 6 ((f3 6) + 1)) 6 0) 5) + 1)) 5 0) 4 (((upd (upd (upd (upd f3 6 ((f3 6) + 1)) 6 0) 5 (((upd (upd f3 6 ((f3 6) + 1)) 6 0) 5) + 1)) 5 0) 4) + 1)), zAr T 0 a4_4 n4 f4, zAr T 0 a5_5 n4 f5, zAr T 0 a6_6 n4 f6]), (upd (upd (upd (upd (upd f3 6 ((f3 6) + 1)) 6 0) 5 (((upd (upd f3 6 ((f3 6) + 1)) 6 0) 5) + 1)) 5 0) 4 (((upd (upd (upd (upd f3 6 ((f3 6) + 1)) 6 0) 5 (((upd (upd f3 6 ((f3 6) + 1)) 6 0) 5) + 1)) 5 0) 4) + 1)), rfl, hw_40⟩)
    · have c_14n : ¬ (f1 5).toInt ≤ (((upd (upd f3 6 ((f3 6) + 1)) 6 0) 5) + 1).toInt := fun q => c_14 ((fa_le _ _).mpr q)
      have hw_41 : bWays T h la md wy pc_ f1 f2 (upd (upd (upd f3 6 ((f3 6) + 1)) 6 0) 5 (((upd (upd f3 6 ((f3 6) + 1)) 6 0) 5) + 1)) f4 f5 f6 n4 [zO0 h md wy la pc_ a1_1 a2_2 a3_3 a4_4 a5_5 a6_6, zAr T 0 a1_1 7 f1, zAr T 0 a2_2 7 f2, zAr T 0 a3_3 7 (upd (upd (upd f3 6 ((f3 6) + 1)) 6 0) 5 (((upd (upd f3 6 ((f3 6) + 1)) 6 0) 5) + 1)), zAr T 0 a4_4 n4 f4, zAr T 0 a5_5 n4 f5, zAr T 0 a6_6 n4 f6] := ⟨a1_1, a2_2, a3_3, a4_4, a5_5, a6_6, rfl⟩
      have G : zS T A s.heap s [[zO0 h md wy la pc_ a1_1 a2_2 a3_3 a4_4 a5_5 a6_6, zAr T 0 a1_1 7 f1, zAr T 0 a2_2 7 f2, zAr T 0 a3_3 7 (upd (upd (upd f3 6 ((f3 6) + 1)) 6 0) 5 (((upd (upd f3 6 ((f3 6) + 1)) 6 0) 5) + 1)), zAr T 0 a4_4 n4 f4, zAr T 0 a5_5 n4 f5, zAr T 0 a6_6 n4 f6]] _ _ := G.re rfl
      exact z_back hQz_ (z_vret C hr hlocks G (Nat.le_of_ble_eq_true rfl) (Nat.le_of_ble_eq_true rfl) dX0_nextRow_32 ⟨([zO0 h md wy la pc_ a1_1 a2_2 a3_3 a4_4 a5_5 a6_6, zAr T 0 a1_1 7 f1, zAr T 0 a2_2 7 f2, zAr T 0 a3_3 7 (upd (upd (upd f3 6 ((f3 6) + 1)) 6 0) 5 (((upd (upd f3 6 ((f3 6) + 1)) 6 0) 5) + 1)), zAr T 0 a4_4 n4 f4, zAr T 0 a5_5 n4 f5, zAr T 0 a6_6 n4 f6]), (upd (upd (upd f3 6 ((f3 6) + 1)) 6 0) 5 (((upd (upd f3 6 ((f3 6) + 1)) 6 0) 5) + 1)), rfl, hw_41⟩)
  · have c_10n : ¬ (f1 6).toInt ≤ ((f3 6) + 1).toInt := fun q => c_10 ((fa_le _ _).mpr q)
    have hw_42 : bWays T h la md wy pc_ f1 f2 (upd f3 6 ((f3 6) + 1)) f4 f5 f6 n4 [zO0 h md wy la pc_ a1_1 a2_2 a3_3 a4_4 a5_5 a6_6, zAr T 0 a1_1 7 f1, zAr T 0 a2_2 7 f2, zAr T 0 a3_3 7 (upd f3 6 ((f3 6) + 1)), zAr T 0 a4_4 n4 f4, zAr T 0 a5_5 n4 f5, zAr T 0 a6_6 n4 f6] := ⟨a1_1, a2_2, a3_3, a4_4, a5_5, a6_6, rfl⟩
    have G : zS T A s.heap s [[zO0 h md wy la pc_ a1_1 a2_2 a3_3 a4_4 a5_5 a6_6, zAr T 0 a1_1 7 f1, zAr T 0 a2_2 7 f2, zAr T 0 a3_3 7 (upd f3 6 ((f3 6) + 1)), zAr T 0 a4_4 n4 f4, zAr T 0 a5_5 n4 f5, zAr T 0 a6_6 n4 f6]] _ _ := G.re rfl
    exact z_back hQz_ (z_vret C hr hlocks G (Nat.le_of_ble_eq_true rfl) (Nat.le_of_ble_eq_true rfl) dX0_nextRow_32 ⟨([zO0 h md wy la pc_ a1_1 a2_2 a3_3 a4_4 a5_5 a6_6, zAr T 0 a1_1 7 f1, zAr T 0 a2_2 7 f2, zAr T 0 a3_3 7 (upd f3 6 ((f3 6) + 1)), zAr T 0 a4_4 n4 f4, zAr T 0 a5_5 n4 f5, zAr T 0 a6_6 n4 f6]), (upd f3 6 ((f3 6) + 1)), rfl, hw_42⟩)

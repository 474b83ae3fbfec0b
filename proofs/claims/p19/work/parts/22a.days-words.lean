theorem m_ml_RX1_29 : Cond.methodLink RX1 29 yX6_begin ∈ zT := zmem1 zsub_4 5 rfl rfl
theorem m_co_X1_lookAtCrowd : Cond.code yX1_lookAtCrowd cX1_lookAtCrowd 2 none ∈ zT := zmem1 zsub_4 16 rfl rfl
theorem m_ml_RX1_56 : Cond.methodLink RX1 56 yX1_lookAtCrowd ∈ zT := zmem1 zsub_4 13 rfl rfl
theorem m_im_X1_lookAtCrowd : Cond.instanceMethod yX1_lookAtCrowd ∈ zT := zmem1 zsub_4 15 rfl rfl
theorem m_se_X1_lookAtCrowd : Cond.selects RX1 yX1_lookAtCrowd yX1_lookAtCrowd ∈ zT := zmem 17 rfl rfl
theorem m_fl_RX1_33 : Cond.fieldLink RX1 33 (TX4 5).1 (TX4 5).2.1 (TX4 5).2.2.1 ∈ zT := zmem1 zsub_1 64 rfl rfl
theorem m_co_X1_go : Cond.code yX1_go cX1_go 3 (some .boolean) ∈ zT := zmem1 zsub_4 29 rfl rfl
theorem m_ml_RX1_96 : Cond.methodLink RX1 96 yX1_go ∈ zT := zmem1 zsub_4 26 rfl rfl
theorem m_im_X1_go : Cond.instanceMethod yX1_go ∈ zT := zmem1 zsub_4 28 rfl rfl
theorem m_se_X1_go : Cond.selects RX1 yX1_go yX1_go ∈ zT := zmem 19 rfl rfl
theorem m_co_X1_run : Cond.code yX1_run cX1_run 2 (some .boolean) ∈ zT := zmem1 zsub_4 46 rfl rfl
theorem m_ml_RX1_92 : Cond.methodLink RX1 92 yX1_run ∈ zT := zmem1 zsub_4 43 rfl rfl
theorem m_im_X1_run : Cond.instanceMethod yX1_run ∈ zT := zmem1 zsub_4 45 rfl rfl
theorem m_se_X1_run : Cond.selects RX1 yX1_run yX1_run ∈ zT := zmem 21 rfl rfl
theorem m_ml_RX1_99 : Cond.methodLink RX1 99 yX6_turn ∈ zT := zmem1 zsub_4 52 rfl rfl
theorem m_co_X1_add : Cond.code yX1_add cX1_add 2 (some .boolean) ∈ zT := zmem1 zsub_4 56 rfl rfl
theorem m_ml_RX1_102 : Cond.methodLink RX1 102 yX1_add ∈ zT := zmem1 zsub_4 53 rfl rfl
theorem m_im_X1_add : Cond.instanceMethod yX1_add ∈ zT := zmem1 zsub_4 55 rfl rfl
theorem m_se_X1_add : Cond.selects RX1 yX1_add yX1_add ∈ zT := zmem 22 rfl rfl
theorem m_co_X1_shut : Cond.code yX1_shut cX1_shut 4 (some .boolean) ∈ zT := zmem1 zsub_4 60 rfl rfl
theorem m_ml_RX1_105 : Cond.methodLink RX1 105 yX1_shut ∈ zT := zmem1 zsub_4 57 rfl rfl
theorem m_im_X1_shut : Cond.instanceMethod yX1_shut ∈ zT := zmem1 zsub_4 59 rfl rfl
theorem m_se_X1_shut : Cond.selects RX1 yX1_shut yX1_shut ∈ zT := zmem 23 rfl rfl
theorem m_co_X1_open : Cond.code yX1_open cX1_open 4 (some .boolean) ∈ zT := zmem1 zsub_4 74 rfl rfl
theorem m_ml_RX1_109 : Cond.methodLink RX1 109 yX1_open ∈ zT := zmem1 zsub_4 71 rfl rfl
theorem m_im_X1_open : Cond.instanceMethod yX1_open ∈ zT := zmem1 zsub_4 73 rfl rfl
theorem m_se_X1_open : Cond.selects RX1 yX1_open yX1_open ∈ zT := zmem 24 rfl rfl
theorem m_co_X1_begin : Cond.code yX1_begin cX1_begin 3 none ∈ zT := zmem1 zsub_4 4 rfl rfl
theorem m_ml_RX1_59 : Cond.methodLink RX1 59 yX1_begin ∈ zT := zmem1 zsub_4 1 rfl rfl
theorem m_im_X1_begin : Cond.instanceMethod yX1_begin ∈ zT := zmem1 zsub_4 3 rfl rfl
theorem m_se_X1_begin : Cond.selects RX1 yX1_begin yX1_begin ∈ zT := zmem 16 rfl rfl
theorem m_fl_RX1_60 : Cond.fieldLink RX1 60 (TX2 0).1 (TX2 0).2.1 (TX2 0).2.2.1 ∈ zT := zmem1 zsub_1 90 rfl rfl
theorem m_fl_RX1_65 : Cond.fieldLink RX1 65 (TX2 1).1 (TX2 1).2.1 (TX2 1).2.2.1 ∈ zT := zmem1 zsub_1 93 rfl rfl
theorem m_fl_RX1_68 : Cond.fieldLink RX1 68 (TX2 2).1 (TX2 2).2.1 (TX2 2).2.2.1 ∈ zT := zmem1 zsub_1 95 rfl rfl
theorem m_fl_RX1_71 : Cond.fieldLink RX1 71 (TX2 3).1 (TX2 3).2.1 (TX2 3).2.2.1 ∈ zT := zmem1 zsub_1 97 rfl rfl
theorem m_co_X1_does : Cond.code yX1_does cX1_does 5 (some .boolean) ∈ zT := zmem1 zsub_4 25 rfl rfl
theorem m_ml_RX1_74 : Cond.methodLink RX1 74 yX1_does ∈ zT := zmem1 zsub_4 22 rfl rfl
theorem m_im_X1_does : Cond.instanceMethod yX1_does ∈ zT := zmem1 zsub_4 24 rfl rfl
theorem m_se_X1_does : Cond.selects RX1 yX1_does yX1_does ∈ zT := zmem 18 rfl rfl
theorem kV_RX1_29 {R : Room} {s : State} {args : Array Value} {d mc ms : Nat} (hts : ∀ w ∈ zT, w.before args s = true) (h1 : d + 1 ≤ R.frames) (h2 : 8 + (3 + 11) + 40 * d ≤ R.locals) : CallW R s args RX1 RX6 29 yX6_begin cX6_begin 3 none (zW yX6_begin cX6_begin 3 none) (zR d mc ms) mc ms 1 := z_cwV hts m_co_X6_begin m_ml_RX1_29 m_im_X6_begin m_se_X6_begin m_ii_RX6 (by decide +kernel) h1 h2
theorem kV_RX1_56 {R : Room} {s : State} {args : Array Value} {d mc ms : Nat} (hts : ∀ w ∈ zT, w.before args s = true) (h1 : d + 1 ≤ R.frames) (h2 : 8 + (2 + 11) + 40 * d ≤ R.locals) : CallW R s args RX1 RX1 56 yX1_lookAtCrowd cX1_lookAtCrowd 2 none (zW yX1_lookAtCrowd cX1_lookAtCrowd 2 none) (zR d mc ms) mc ms 0 := z_cwV hts m_co_X1_lookAtCrowd m_ml_RX1_56 m_im_X1_lookAtCrowd m_se_X1_lookAtCrowd m_ii_RX1 (by decide +kernel) h1 h2
theorem kV_RX1_96 {R : Room} {s : State} {args : Array Value} {d mc ms : Nat} (hts : ∀ w ∈ zT, w.before args s = true) (h1 : d + 1 ≤ R.frames) (h2 : 8 + (3 + 11) + 40 * d ≤ R.locals) : CallW R s args RX1 RX1 96 yX1_go cX1_go 3 (some .boolean) (zW yX1_go cX1_go 3 (some .boolean)) (zR d mc ms) mc ms 1 := z_cwV hts m_co_X1_go m_ml_RX1_96 m_im_X1_go m_se_X1_go m_ii_RX1 (by decide +kernel) h1 h2
theorem kV_RX1_92 {R : Room} {s : State} {args : Array Value} {d mc ms : Nat} (hts : ∀ w ∈ zT, w.before args s = true) (h1 : d + 1 ≤ R.frames) (h2 : 8 + (2 + 11) + 40 * d ≤ R.locals) : CallW R s args RX1 RX1 92 yX1_run cX1_run 2 (some .boolean) (zW yX1_run cX1_run 2 (some .boolean)) (zR d mc ms) mc ms 1 := z_cwV hts m_co_X1_run m_ml_RX1_92 m_im_X1_run m_se_X1_run m_ii_RX1 (by decide +kernel) h1 h2
theorem kV_RX1_99 {R : Room} {s : State} {args : Array Value} {d mc ms : Nat} (hts : ∀ w ∈ zT, w.before args s = true) (h1 : d + 1 ≤ R.frames) (h2 : 8 + (6 + 11) + 40 * d ≤ R.locals) : CallW R s args RX1 RX6 99 yX6_turn cX6_turn 6 (some .int) (zW yX6_turn cX6_turn 6 (some .int)) (zR d mc ms) mc ms 1 := z_cwV hts m_co_X6_turn m_ml_RX1_99 m_im_X6_turn m_se_X6_turn m_ii_RX6 (by decide +kernel) h1 h2
theorem kV_RX1_102 {R : Room} {s : State} {args : Array Value} {d mc ms : Nat} (hts : ∀ w ∈ zT, w.before args s = true) (h1 : d + 1 ≤ R.frames) (h2 : 8 + (2 + 11) + 40 * d ≤ R.locals) : CallW R s args RX1 RX1 102 yX1_add cX1_add 2 (some .boolean) (zW yX1_add cX1_add 2 (some .boolean)) (zR d mc ms) mc ms 1 := z_cwV hts m_co_X1_add m_ml_RX1_102 m_im_X1_add m_se_X1_add m_ii_RX1 (by decide +kernel) h1 h2
theorem kV_RX1_105 {R : Room} {s : State} {args : Array Value} {d mc ms : Nat} (hts : ∀ w ∈ zT, w.before args s = true) (h1 : d + 1 ≤ R.frames) (h2 : 8 + (4 + 11) + 40 * d ≤ R.locals) : CallW R s args RX1 RX1 105 yX1_shut cX1_shut 4 (some .boolean) (zW yX1_shut cX1_shut 4 (some .boolean)) (zR d mc ms) mc ms 2 := z_cwV hts m_co_X1_shut m_ml_RX1_105 m_im_X1_shut m_se_X1_shut m_ii_RX1 (by decide +kernel) h1 h2
theorem kV_RX1_109 {R : Room} {s : State} {args : Array Value} {d mc ms : Nat} (hts : ∀ w ∈ zT, w.before args s = true) (h1 : d + 1 ≤ R.frames) (h2 : 8 + (4 + 11) + 40 * d ≤ R.locals) : CallW R s args RX1 RX1 109 yX1_open cX1_open 4 (some .boolean) (zW yX1_open cX1_open 4 (some .boolean)) (zR d mc ms) mc ms 2 := z_cwV hts m_co_X1_open m_ml_RX1_109 m_im_X1_open m_se_X1_open m_ii_RX1 (by decide +kernel) h1 h2
theorem kV_RX1_59 {R : Room} {s : State} {args : Array Value} {d mc ms : Nat} (hts : ∀ w ∈ zT, w.before args s = true) (h1 : d + 1 ≤ R.frames) (h2 : 8 + (3 + 11) + 40 * d ≤ R.locals) : CallW R s args RX1 RX1 59 yX1_begin cX1_begin 3 none (zW yX1_begin cX1_begin 3 none) (zR d mc ms) mc ms 1 := z_cwV hts m_co_X1_begin m_ml_RX1_59 m_im_X1_begin m_se_X1_begin m_ii_RX1 (by decide +kernel) h1 h2
theorem kV_RX1_74 {R : Room} {s : State} {args : Array Value} {d mc ms : Nat} (hts : ∀ w ∈ zT, w.before args s = true) (h1 : d + 1 ≤ R.frames) (h2 : 8 + (5 + 11) + 40 * d ≤ R.locals) : CallW R s args RX1 RX1 74 yX1_does cX1_does 5 (some .boolean) (zW yX1_does cX1_does 5 (some .boolean)) (zR d mc ms) mc ms 3 := z_cwV hts m_co_X1_does m_ml_RX1_74 m_im_X1_does m_se_X1_does m_ii_RX1 (by decide +kernel) h1 h2
theorem dX1_begin_0 : decode cX1_begin 0 = .ok (.aload_n 0, 1) := zo_42 (by decide +kernel)
theorem dX1_begin_1 : decode cX1_begin 1 = .ok (.aload_n 1, 1) := zo_43 (by decide +kernel)
theorem dX1_begin_2 : decode cX1_begin 2 = .ok (.putfield 25, 3) := zo_181 (by decide +kernel)
theorem dX1_begin_5 : decode cX1_begin 5 = .ok (.aload_n 0, 1) := zo_42 (by decide +kernel)
theorem dX1_begin_6 : decode cX1_begin 6 = .ok (.getfield 12, 3) := zo_180 (by decide +kernel)
theorem dX1_begin_9 : decode cX1_begin 9 = .ok (.aload_n 1, 1) := zo_43 (by decide +kernel)
theorem dX1_begin_10 : decode cX1_begin 10 = .ok (.invokevirtual 29, 3) := zo_182 (by decide +kernel)
theorem dX1_begin_13 : decode cX1_begin 13 = .ok (.iconst 0, 1) := zo_3 (by decide +kernel)
theorem dX1_begin_14 : decode cX1_begin 14 = .ok (.istore_n 2, 1) := zo_61 (by decide +kernel)
theorem dX1_begin_15 : decode cX1_begin 15 = .ok (.iload_n 2, 1) := zo_28 (by decide +kernel)
theorem dX1_begin_16 : decode cX1_begin 16 = .ok (.bipush 7, 2) := zo_16 (by decide +kernel)
theorem dX1_begin_18 : decode cX1_begin 18 = .ok (.if_icmp .ge 21, 3) := zo_162 (by decide +kernel)
theorem dX1_begin_21 : decode cX1_begin 21 = .ok (.aload_n 0, 1) := zo_42 (by decide +kernel)
theorem dX1_begin_22 : decode cX1_begin 22 = .ok (.getfield 18, 3) := zo_180 (by decide +kernel)
theorem dX1_begin_25 : decode cX1_begin 25 = .ok (.iload_n 2, 1) := zo_28 (by decide +kernel)
theorem dX1_begin_26 : decode cX1_begin 26 = .ok (.aload_n 1, 1) := zo_43 (by decide +kernel)
theorem dX1_begin_27 : decode cX1_begin 27 = .ok (.getfield 33, 3) := zo_180 (by decide +kernel)
theorem dX1_begin_30 : decode cX1_begin 30 = .ok (.iload_n 2, 1) := zo_28 (by decide +kernel)
theorem dX1_begin_31 : decode cX1_begin 31 = .ok (.iaload, 1) := zo_46 (by decide +kernel)
theorem dX1_begin_32 : decode cX1_begin 32 = .ok (.iastore, 1) := zo_79 (by decide +kernel)
theorem dX1_begin_33 : decode cX1_begin 33 = .ok (.iinc 2 1, 3) := zo_132 (by decide +kernel)
theorem dX1_begin_36 : decode cX1_begin 36 = .ok (.goto (-21), 3) := zo_167 (by decide +kernel)
theorem dX1_begin_39 : decode cX1_begin 39 = .ok (.aload_n 0, 1) := zo_42 (by decide +kernel)
theorem dX1_begin_40 : decode cX1_begin 40 = .ok (.iconst 0, 1) := zo_3 (by decide +kernel)
theorem dX1_begin_41 : decode cX1_begin 41 = .ok (.putfield 34, 3) := zo_181 (by decide +kernel)
theorem dX1_begin_44 : decode cX1_begin 44 = .ok (.aload_n 0, 1) := zo_42 (by decide +kernel)
theorem dX1_begin_45 : decode cX1_begin 45 = .ok (.iconst 0, 1) := zo_3 (by decide +kernel)
theorem dX1_begin_46 : decode cX1_begin 46 = .ok (.putfield 38, 3) := zo_181 (by decide +kernel)
theorem dX1_begin_49 : decode cX1_begin 49 = .ok (.aload_n 0, 1) := zo_42 (by decide +kernel)
theorem dX1_begin_50 : decode cX1_begin 50 = .ok (.iconst 0, 1) := zo_3 (by decide +kernel)
theorem dX1_begin_51 : decode cX1_begin 51 = .ok (.putfield 41, 3) := zo_181 (by decide +kernel)
theorem dX1_begin_54 : decode cX1_begin 54 = .ok (.aload_n 0, 1) := zo_42 (by decide +kernel)
theorem dX1_begin_55 : decode cX1_begin 55 = .ok (.iconst (-1), 1) := zo_2 (by decide +kernel)
theorem dX1_begin_56 : decode cX1_begin 56 = .ok (.putfield 44, 3) := zo_181 (by decide +kernel)
theorem dX1_begin_59 : decode cX1_begin 59 = .ok (.aload_n 0, 1) := zo_42 (by decide +kernel)
theorem dX1_begin_60 : decode cX1_begin 60 = .ok (.iconst 0, 1) := zo_3 (by decide +kernel)
theorem dX1_begin_61 : decode cX1_begin 61 = .ok (.putfield 47, 3) := zo_181 (by decide +kernel)
theorem dX1_begin_64 : decode cX1_begin 64 = .ok (.aload_n 0, 1) := zo_42 (by decide +kernel)
theorem dX1_begin_65 : decode cX1_begin 65 = .ok (.iconst 0, 1) := zo_3 (by decide +kernel)
theorem dX1_begin_66 : decode cX1_begin 66 = .ok (.putfield 50, 3) := zo_181 (by decide +kernel)
theorem dX1_begin_69 : decode cX1_begin 69 = .ok (.aload_n 0, 1) := zo_42 (by decide +kernel)
theorem dX1_begin_70 : decode cX1_begin 70 = .ok (.iconst 0, 1) := zo_3 (by decide +kernel)
theorem dX1_begin_71 : decode cX1_begin 71 = .ok (.putfield 53, 3) := zo_181 (by decide +kernel)
theorem dX1_begin_74 : decode cX1_begin 74 = .ok (.aload_n 0, 1) := zo_42 (by decide +kernel)
theorem dX1_begin_75 : decode cX1_begin 75 = .ok (.invokevirtual 56, 3) := zo_182 (by decide +kernel)
theorem dX1_begin_78 : decode cX1_begin 78 = .ok (.return_, 1) := zo_177 (by decide +kernel)
theorem dX1_does_0 : decode cX1_does 0 = .ok (.iload_n 1, 1) := zo_27 (by decide +kernel)
theorem dX1_does_1 : decode cX1_does 1 = .ok (.tableswitch 113 0 5 #[39, 49, 59, 81, 91, 102], 39) := by decide +kernel
theorem dX1_does_40 : decode cX1_does 40 = .ok (.aload_n 0, 1) := zo_42 (by decide +kernel)
theorem dX1_does_41 : decode cX1_does 41 = .ok (.iload_n 2, 1) := zo_28 (by decide +kernel)
theorem dX1_does_42 : decode cX1_does 42 = .ok (.invokevirtual 96, 3) := zo_182 (by decide +kernel)
theorem dX1_does_45 : decode cX1_does 45 = .ok (.istore 4, 2) := zo_54 (by decide +kernel)
theorem dX1_does_47 : decode cX1_does 47 = .ok (.goto 70, 3) := zo_167 (by decide +kernel)
theorem dX1_does_50 : decode cX1_does 50 = .ok (.aload_n 0, 1) := zo_42 (by decide +kernel)
theorem dX1_does_51 : decode cX1_does 51 = .ok (.iload_n 2, 1) := zo_28 (by decide +kernel)
theorem dX1_does_52 : decode cX1_does 52 = .ok (.invokevirtual 92, 3) := zo_182 (by decide +kernel)
theorem dX1_does_55 : decode cX1_does 55 = .ok (.istore 4, 2) := zo_54 (by decide +kernel)
theorem dX1_does_57 : decode cX1_does 57 = .ok (.goto 60, 3) := zo_167 (by decide +kernel)
theorem dX1_does_60 : decode cX1_does 60 = .ok (.aload_n 0, 1) := zo_42 (by decide +kernel)
theorem dX1_does_61 : decode cX1_does 61 = .ok (.getfield 12, 3) := zo_180 (by decide +kernel)
theorem dX1_does_64 : decode cX1_does 64 = .ok (.iload_n 2, 1) := zo_28 (by decide +kernel)
theorem dX1_does_65 : decode cX1_does 65 = .ok (.invokevirtual 99, 3) := zo_182 (by decide +kernel)
theorem dX1_does_68 : decode cX1_does 68 = .ok (.iconst (-1), 1) := zo_2 (by decide +kernel)
theorem dX1_does_69 : decode cX1_does 69 = .ok (.if_icmp .eq 7, 3) := zo_159 (by decide +kernel)
theorem dX1_does_72 : decode cX1_does 72 = .ok (.iconst 1, 1) := zo_4 (by decide +kernel)
theorem dX1_does_73 : decode cX1_does 73 = .ok (.goto 4, 3) := zo_167 (by decide +kernel)
theorem dX1_does_76 : decode cX1_does 76 = .ok (.iconst 0, 1) := zo_3 (by decide +kernel)
theorem dX1_does_77 : decode cX1_does 77 = .ok (.istore 4, 2) := zo_54 (by decide +kernel)
theorem dX1_does_79 : decode cX1_does 79 = .ok (.goto 38, 3) := zo_167 (by decide +kernel)
theorem dX1_does_82 : decode cX1_does 82 = .ok (.aload_n 0, 1) := zo_42 (by decide +kernel)
theorem dX1_does_83 : decode cX1_does 83 = .ok (.iload_n 2, 1) := zo_28 (by decide +kernel)
theorem dX1_does_84 : decode cX1_does 84 = .ok (.invokevirtual 102, 3) := zo_182 (by decide +kernel)
theorem dX1_does_87 : decode cX1_does 87 = .ok (.istore 4, 2) := zo_54 (by decide +kernel)
theorem dX1_does_89 : decode cX1_does 89 = .ok (.goto 28, 3) := zo_167 (by decide +kernel)
theorem dX1_does_92 : decode cX1_does 92 = .ok (.aload_n 0, 1) := zo_42 (by decide +kernel)
theorem dX1_does_93 : decode cX1_does 93 = .ok (.iload_n 2, 1) := zo_28 (by decide +kernel)
theorem dX1_does_94 : decode cX1_does 94 = .ok (.iload_n 3, 1) := zo_29 (by decide +kernel)
theorem dX1_does_95 : decode cX1_does 95 = .ok (.invokevirtual 105, 3) := zo_182 (by decide +kernel)
theorem dX1_does_98 : decode cX1_does 98 = .ok (.istore 4, 2) := zo_54 (by decide +kernel)
theorem dX1_does_100 : decode cX1_does 100 = .ok (.goto 17, 3) := zo_167 (by decide +kernel)
theorem dX1_does_103 : decode cX1_does 103 = .ok (.aload_n 0, 1) := zo_42 (by decide +kernel)
theorem dX1_does_104 : decode cX1_does 104 = .ok (.iload_n 2, 1) := zo_28 (by decide +kernel)
theorem dX1_does_105 : decode cX1_does 105 = .ok (.iload_n 3, 1) := zo_29 (by decide +kernel)
theorem dX1_does_106 : decode cX1_does 106 = .ok (.invokevirtual 109, 3) := zo_182 (by decide +kernel)
theorem dX1_does_109 : decode cX1_does 109 = .ok (.istore 4, 2) := zo_54 (by decide +kernel)
theorem dX1_does_111 : decode cX1_does 111 = .ok (.goto 6, 3) := zo_167 (by decide +kernel)
theorem dX1_does_114 : decode cX1_does 114 = .ok (.iconst 0, 1) := zo_3 (by decide +kernel)
theorem dX1_does_115 : decode cX1_does 115 = .ok (.istore 4, 2) := zo_54 (by decide +kernel)
theorem dX1_does_117 : decode cX1_does 117 = .ok (.iload 4, 2) := zo_21 (by decide +kernel)
theorem dX1_does_119 : decode cX1_does 119 = .ok (.ifCond .eq 17, 3) := zo_153 (by decide +kernel)
theorem dX1_does_122 : decode cX1_does 122 = .ok (.aload_n 0, 1) := zo_42 (by decide +kernel)
theorem dX1_does_123 : decode cX1_does 123 = .ok (.dup, 1) := zo_89 (by decide +kernel)
theorem dX1_does_124 : decode cX1_does 124 = .ok (.getfield 41, 3) := zo_180 (by decide +kernel)
theorem dX1_does_127 : decode cX1_does 127 = .ok (.iconst 1, 1) := zo_4 (by decide +kernel)
theorem dX1_does_128 : decode cX1_does 128 = .ok (.iadd, 1) := zo_96 (by decide +kernel)
theorem dX1_does_129 : decode cX1_does 129 = .ok (.putfield 41, 3) := zo_181 (by decide +kernel)
theorem dX1_does_132 : decode cX1_does 132 = .ok (.aload_n 0, 1) := zo_42 (by decide +kernel)
theorem dX1_does_133 : decode cX1_does 133 = .ok (.invokevirtual 56, 3) := zo_182 (by decide +kernel)
theorem dX1_does_136 : decode cX1_does 136 = .ok (.iload 4, 2) := zo_21 (by decide +kernel)
theorem dX1_does_138 : decode cX1_does 138 = .ok (.ireturn, 1) := zo_172 (by decide +kernel)
theorem dX1_goThrough_0 : decode cX1_goThrough 0 = .ok (.aload_n 0, 1) := zo_42 (by decide +kernel)
theorem dX1_goThrough_1 : decode cX1_goThrough 1 = .ok (.aload_n 1, 1) := zo_43 (by decide +kernel)
theorem dX1_goThrough_2 : decode cX1_goThrough 2 = .ok (.invokevirtual 59, 3) := zo_182 (by decide +kernel)
theorem dX1_goThrough_5 : decode cX1_goThrough 5 = .ok (.iconst 0, 1) := zo_3 (by decide +kernel)
theorem dX1_goThrough_6 : decode cX1_goThrough 6 = .ok (.istore 4, 2) := zo_54 (by decide +kernel)
theorem dX1_goThrough_8 : decode cX1_goThrough 8 = .ok (.iload 4, 2) := zo_21 (by decide +kernel)
theorem dX1_goThrough_10 : decode cX1_goThrough 10 = .ok (.iload_n 3, 1) := zo_29 (by decide +kernel)
theorem dX1_goThrough_11 : decode cX1_goThrough 11 = .ok (.if_icmp .ge 58, 3) := zo_162 (by decide +kernel)
theorem dX1_goThrough_14 : decode cX1_goThrough 14 = .ok (.iload 4, 2) := zo_21 (by decide +kernel)
theorem dX1_goThrough_16 : decode cX1_goThrough 16 = .ok (.aload_n 2, 1) := zo_44 (by decide +kernel)
theorem dX1_goThrough_17 : decode cX1_goThrough 17 = .ok (.getfield 60, 3) := zo_180 (by decide +kernel)
theorem dX1_goThrough_20 : decode cX1_goThrough 20 = .ok (.if_icmp .ge 49, 3) := zo_162 (by decide +kernel)
theorem dX1_goThrough_23 : decode cX1_goThrough 23 = .ok (.iload 4, 2) := zo_21 (by decide +kernel)
theorem dX1_goThrough_25 : decode cX1_goThrough 25 = .ok (.bipush 40, 2) := zo_16 (by decide +kernel)
theorem dX1_goThrough_27 : decode cX1_goThrough 27 = .ok (.if_icmp .ge 42, 3) := zo_162 (by decide +kernel)
theorem dX1_goThrough_30 : decode cX1_goThrough 30 = .ok (.aload_n 0, 1) := zo_42 (by decide +kernel)
theorem dX1_goThrough_31 : decode cX1_goThrough 31 = .ok (.aload_n 2, 1) := zo_44 (by decide +kernel)
theorem dX1_goThrough_32 : decode cX1_goThrough 32 = .ok (.getfield 65, 3) := zo_180 (by decide +kernel)
theorem dX1_goThrough_35 : decode cX1_goThrough 35 = .ok (.iload 4, 2) := zo_21 (by decide +kernel)
theorem dX1_goThrough_37 : decode cX1_goThrough 37 = .ok (.iaload, 1) := zo_46 (by decide +kernel)
theorem dX1_goThrough_38 : decode cX1_goThrough 38 = .ok (.aload_n 2, 1) := zo_44 (by decide +kernel)
theorem dX1_goThrough_39 : decode cX1_goThrough 39 = .ok (.getfield 68, 3) := zo_180 (by decide +kernel)
theorem dX1_goThrough_42 : decode cX1_goThrough 42 = .ok (.iload 4, 2) := zo_21 (by decide +kernel)
theorem dX1_goThrough_44 : decode cX1_goThrough 44 = .ok (.iaload, 1) := zo_46 (by decide +kernel)
theorem dX1_goThrough_45 : decode cX1_goThrough 45 = .ok (.aload_n 2, 1) := zo_44 (by decide +kernel)
theorem dX1_goThrough_46 : decode cX1_goThrough 46 = .ok (.getfield 71, 3) := zo_180 (by decide +kernel)
theorem dX1_goThrough_49 : decode cX1_goThrough 49 = .ok (.iload 4, 2) := zo_21 (by decide +kernel)
theorem dX1_goThrough_51 : decode cX1_goThrough 51 = .ok (.iaload, 1) := zo_46 (by decide +kernel)
theorem dX1_goThrough_52 : decode cX1_goThrough 52 = .ok (.invokevirtual 74, 3) := zo_182 (by decide +kernel)
theorem dX1_goThrough_55 : decode cX1_goThrough 55 = .ok (.ifCond .ne 8, 3) := zo_154 (by decide +kernel)
theorem dX1_goThrough_58 : decode cX1_goThrough 58 = .ok (.aload_n 0, 1) := zo_42 (by decide +kernel)
theorem dX1_goThrough_59 : decode cX1_goThrough 59 = .ok (.getfield 41, 3) := zo_180 (by decide +kernel)
theorem dX1_goThrough_62 : decode cX1_goThrough 62 = .ok (.ireturn, 1) := zo_172 (by decide +kernel)
theorem dX1_goThrough_63 : decode cX1_goThrough 63 = .ok (.iinc 4 1, 3) := zo_132 (by decide +kernel)
theorem dX1_goThrough_66 : decode cX1_goThrough 66 = .ok (.goto (-58), 3) := zo_167 (by decide +kernel)
theorem dX1_goThrough_69 : decode cX1_goThrough 69 = .ok (.aload_n 0, 1) := zo_42 (by decide +kernel)
theorem dX1_goThrough_70 : decode cX1_goThrough 70 = .ok (.getfield 41, 3) := zo_180 (by decide +kernel)
theorem dX1_goThrough_73 : decode cX1_goThrough 73 = .ok (.ireturn, 1) := zo_172 (by decide +kernel)
theorem dX1_goAll_0 : decode cX1_goAll 0 = .ok (.aload_n 0, 1) := zo_42 (by decide +kernel)
theorem dX1_goAll_1 : decode cX1_goAll 1 = .ok (.aload_n 1, 1) := zo_43 (by decide +kernel)
theorem dX1_goAll_2 : decode cX1_goAll 2 = .ok (.invokevirtual 59, 3) := zo_182 (by decide +kernel)
theorem dX1_goAll_5 : decode cX1_goAll 5 = .ok (.iconst 0, 1) := zo_3 (by decide +kernel)
theorem dX1_goAll_6 : decode cX1_goAll 6 = .ok (.istore_n 2, 1) := zo_61 (by decide +kernel)
theorem dX1_goAll_7 : decode cX1_goAll 7 = .ok (.iload_n 2, 1) := zo_28 (by decide +kernel)
theorem dX1_goAll_8 : decode cX1_goAll 8 = .ok (.aload_n 1, 1) := zo_43 (by decide +kernel)
theorem dX1_goAll_9 : decode cX1_goAll 9 = .ok (.getfield 88, 3) := zo_180 (by decide +kernel)
theorem dX1_goAll_12 : decode cX1_goAll 12 = .ok (.if_icmp .ge 39, 3) := zo_162 (by decide +kernel)
theorem dX1_goAll_15 : decode cX1_goAll 15 = .ok (.iload_n 2, 1) := zo_28 (by decide +kernel)
theorem dX1_goAll_16 : decode cX1_goAll 16 = .ok (.bipush 7, 2) := zo_16 (by decide +kernel)
theorem dX1_goAll_18 : decode cX1_goAll 18 = .ok (.if_icmp .ge 33, 3) := zo_162 (by decide +kernel)
theorem dX1_goAll_21 : decode cX1_goAll 21 = .ok (.iconst 0, 1) := zo_3 (by decide +kernel)
theorem dX1_goAll_22 : decode cX1_goAll 22 = .ok (.istore_n 3, 1) := zo_62 (by decide +kernel)
theorem dX1_goAll_23 : decode cX1_goAll 23 = .ok (.iload_n 3, 1) := zo_29 (by decide +kernel)
theorem dX1_goAll_24 : decode cX1_goAll 24 = .ok (.aload_n 1, 1) := zo_43 (by decide +kernel)
theorem dX1_goAll_25 : decode cX1_goAll 25 = .ok (.getfield 33, 3) := zo_180 (by decide +kernel)
theorem dX1_goAll_28 : decode cX1_goAll 28 = .ok (.iload_n 2, 1) := zo_28 (by decide +kernel)
theorem dX1_goAll_29 : decode cX1_goAll 29 = .ok (.iaload, 1) := zo_46 (by decide +kernel)
theorem dX1_goAll_30 : decode cX1_goAll 30 = .ok (.if_icmp .ge 15, 3) := zo_162 (by decide +kernel)
theorem dX1_goAll_33 : decode cX1_goAll 33 = .ok (.aload_n 0, 1) := zo_42 (by decide +kernel)
theorem dX1_goAll_34 : decode cX1_goAll 34 = .ok (.iload_n 2, 1) := zo_28 (by decide +kernel)
theorem dX1_goAll_35 : decode cX1_goAll 35 = .ok (.invokevirtual 92, 3) := zo_182 (by decide +kernel)
theorem dX1_goAll_38 : decode cX1_goAll 38 = .ok (.pop, 1) := zo_87 (by decide +kernel)
theorem dX1_goAll_39 : decode cX1_goAll 39 = .ok (.iinc 3 1, 3) := zo_132 (by decide +kernel)
theorem dX1_goAll_42 : decode cX1_goAll 42 = .ok (.goto (-19), 3) := zo_167 (by decide +kernel)
theorem dX1_goAll_45 : decode cX1_goAll 45 = .ok (.iinc 2 1, 3) := zo_132 (by decide +kernel)
theorem dX1_goAll_48 : decode cX1_goAll 48 = .ok (.goto (-41), 3) := zo_167 (by decide +kernel)
theorem dX1_goAll_51 : decode cX1_goAll 51 = .ok (.return_, 1) := zo_177 (by decide +kernel)
set_option maxHeartbeats 4000000 in
set_option maxRecDepth 100000 in
/-- begin -/
theorem c_Course_begin (l : Launch) (T : zTy) (h : Nat) (po : Nat) (la : Nat) (fw : Nat → Int32) (v0 : Int32) (v1 : Int32) (v2 : Int32) (v3 : Int32) (v4 : Int32) (v5 : Int32) (v6 : Int32) (v7 : Int32) (wc : va_W) (lp : Nat) (f1 : Nat → Int32) (f2 : Nat → Int32) (f3 : Nat → Int32) (st : Int32) (wh : Int32) (wp : va_W) (o : Nat) (cr : Int32) (inn : Int32) (k1 : Nat → Int32) (k2 : Nat → Int32) (k3 : Nat → Int32) (k4 : Nat → Int32) (z : va_W) (hc : bCourse T h po la fw v0 v1 v2 v3 v4 v5 v6 v7 wc) (hp : bPosts T po lp f1 f2 f3 st wh wp) (hz : bLand T o cr inn k1 k2 k3 k4 z) (hI : zLI cr k1 k3) : zMv l T yX1_begin cX1_begin 3 4 0 0 [.ref h, .ref o] [wc, wp, z] (fun bs => ∃ (wc2 : va_W) (gw : Nat → Int32) (u6 : Int32) (wp2 : va_W) (g1 : Nat → Int32) (g2 : Nat → Int32) (g3 : Nat → Int32), bs = [wc2, wp2, z] ∧ bCourse T h po o gw 0 0 0 (-1) 0 0 u6 v7 wc2 ∧ bPosts T po o g1 g2 g3 0 0 wp2 ∧ (∀ j, j < 7 → gw j = k4 j) ∧ zP3 g1 g3 ∧ (∀ j, j < 7 → g1 j = k3 j) ∧ (∀ j, j < 7 → g2 j = 0) ∧ (∀ j, j < 7 → g3 j = zWays cr inn k1 (nI j))) := by
  refine zMv_of (own := RX1) (by decide) rfl (Nat.le_of_ble_eq_true rfl) ?_
  intro p e s m args below meth c A ls C hr hlocks hnm hAe G hl
  refine zHide (fun Q9 hQ9 => ?_)
  have hx := C.1
  have hb := C.2.1
  have hl : lv_has ls 3 [(0, .ref h), (1, .ref o)] := hl
  refine lv_aload_n hx hb dX1_begin_0 rfl (lv_at hl 0 rfl) ?_
  refine lv_aload_n hx hb dX1_begin_1 rfl (lv_at hl 1 rfl) ?_
  refine zEx1 hc ?_
  intro a1_1 hbs9
  clear hc
  subst hbs9
  have G : zS T A s.heap s [[zO1 h po a1_1 v0 la v1 v2 v3 v4 v5 v6 v7], [zAr T 0 a1_1 7 fw], wp, z] _ _ := G.re rfl
  refine z_put C G clX1 0 rfl 3 (by decide) m_fl_RX1_25 rfl rfl rfl (Nat.le_of_ble_eq_true rfl) dX1_begin_2 (fun H locs G => ?_)
  have G : zS T A s.heap s [[zO1 h po a1_1 v0 o v1 v2 v3 v4 v5 v6 v7], [zAr T 0 a1_1 7 fw], wp, z] _ _ := G
  refine lv_aload_n hx hb dX1_begin_5 rfl (lv_at hl 0 rfl) ?_
  refine z_get C G clX1 0 rfl 0 (by decide) m_fl_RX1_12 rfl dX1_begin_6 ?_
  refine lv_aload_n hx hb dX1_begin_9 rfl (lv_at hl 1 rfl) ?_
  refine z_Vv (bc := [wp, z]) (br := [[zO1 h po a1_1 v0 o v1 v2 v3 v4 v5 v6 v7], [zAr T 0 a1_1 7 fw]]) (As := [.ref o]) (rest := []) C G (c_Posts_begin l T po lp f1 f2 f3 st wh wp o cr inn k1 k2 k3 k4 z hp hz) (kV_RX1_29 C.2.2.2.2 (Nat.le_of_ble_eq_true rfl) (Nat.le_of_ble_eq_true rfl)) [2, 3] [2, 0] rfl rfl (ci := 6) (qc := (RX6, TX6, 6)) rfl rfl (List.mem_flatten.mpr ⟨_, List.mem_of_getElem? (i := 0) rfl, (bPosts_mem hp).choose_spec⟩) rfl rfl hl.1 dX1_begin_10 (Nat.le_of_ble_eq_true rfl) (Nat.le_of_ble_eq_true rfl) (fun b1 H locs hw G => ?_)
  refine zEx4 hw ?_
  intro w2_2 g1_3 g2_4 g3_5
  refine zCu5 ?_
  intro hbs9 h_6 h_7 h_8 h_9
  clear hw
  subst hbs9
  have G : zS T A s.heap s [[zO1 h po a1_1 v0 o v1 v2 v3 v4 v5 v6 v7], [zAr T 0 a1_1 7 fw], w2_2, z] _ _ := G
  have hQ : zP3 g1_3 g3_5 := z_P3 hI h_7 h_9
  refine lv_iconst (v := 0) hx hb dX1_begin_13 (by decide) ?_
  refine lv_istore_n (lv' := [(2, .int 0), (0, .ref h), (1, .ref o)]) hx hb dX1_begin_14 rfl hl (by decide) rfl (fun ls hl => ?_)
  refine zEx4 hz ?_
  intro a1_11 a2_12 a3_13 a4_14 hbs9
  clear hz
  subst hbs9
  have G : zS T A s.heap s [[zO1 h po a1_1 v0 o v1 v2 v3 v4 v5 v6 v7], [zAr T 0 a1_1 7 fw], w2_2, [zO4 o cr inn a1_11 a2_12 a3_13 a4_14], [zAr T 0 a1_11 7 k1], [zAr T 0 a2_12 28 k2], [zAr T 0 a3_13 7 k3], [zAr T 0 a4_14 7 k4]] _ _ := G.re rfl
  have hw_15 : bCourse T h po o fw v0 v1 v2 v3 v4 v5 v6 v7 [zO1 h po a1_1 v0 o v1 v2 v3 v4 v5 v6 v7, zAr T 0 a1_1 7 fw] := ⟨a1_1, rfl⟩
  have G : zS T A s.heap s [[zO1 h po a1_1 v0 o v1 v2 v3 v4 v5 v6 v7, zAr T 0 a1_1 7 fw], w2_2, [zO4 o cr inn a1_11 a2_12 a3_13 a4_14], [zAr T 0 a1_11 7 k1], [zAr T 0 a2_12 28 k2], [zAr T 0 a3_13 7 k3], [zAr T 0 a4_14 7 k4]] _ _ := G.re rfl
  have hw_16 : bLand T o cr inn k1 k2 k3 k4 [zO4 o cr inn a1_11 a2_12 a3_13 a4_14, zAr T 0 a1_11 7 k1, zAr T 0 a2_12 28 k2, zAr T 0 a3_13 7 k3, zAr T 0 a4_14 7 k4] := ⟨a1_11, a2_12, a3_13, a4_14, rfl⟩
  have G : zS T A s.heap s [[zO1 h po a1_1 v0 o v1 v2 v3 v4 v5 v6 v7, zAr T 0 a1_1 7 fw], w2_2, [zO4 o cr inn a1_11 a2_12 a3_13 a4_14, zAr T 0 a1_11 7 k1, zAr T 0 a2_12 28 k2, zAr T 0 a3_13 7 k3, zAr T 0 a4_14 7 k4]] _ _ := G.re rfl
  refine z_lp3 (T := T) 15 (fun (i : Nat) (wc3 : va_W) (x1 : Nat → Int32) => [wc3, w2_2, [zO4 o cr inn a1_11 a2_12 a3_13 a4_14, zAr T 0 a1_11 7 k1, zAr T 0 a2_12 28 k2, zAr T 0 a3_13 7 k3, zAr T 0 a4_14 7 k4]]) (fun (i : Nat) (wc3 : va_W) (x1 : Nat → Int32) => [(2, .int (nI i)), (0, .ref h), (1, .ref o)]) (fun (i : Nat) (wc3 : va_W) (x1 : Nat → Int32) => bCourse T h po o x1 v0 v1 v2 v3 v4 v5 v6 v7 wc3 ∧ i ≤ 7 ∧ (∀ j, j < i → x1 j = k4 j)) (fun (i : Nat) (wc3 : va_W) (x1 : Nat → Int32) => 7 - i) ?_ 0 ([zO1 h po a1_1 v0 o v1 v2 v3 v4 v5 v6 v7, zAr T 0 a1_1 7 fw]) fw (show bCourse T h po o fw v0 v1 v2 v3 v4 v5 v6 v7 ([zO1 h po a1_1 v0 o v1 v2 v3 v4 v5 v6 v7, zAr T 0 a1_1 7 fw]) ∧ 0 ≤ 7 ∧ (∀ j, j < 0 → fw j = k4 j) from ⟨hw_15, by omega, fun j hj => absurd hj (by omega)⟩) G (lv_sub hl [0, 1, 2] rfl)
  intro i wc3 x1 hI9 ih_15 H locs ls G hl
  replace hI9 : bCourse T h po o x1 v0 v1 v2 v3 v4 v5 v6 v7 wc3 ∧ i ≤ 7 ∧ (∀ j, j < i → x1 j = k4 j) := hI9
  refine zAn3 hI9 ?_
  intro hc3 hi hx1
  clear hI9
  replace G : zS T A s.heap s [wc3, w2_2, [zO4 o cr inn a1_11 a2_12 a3_13 a4_14, zAr T 0 a1_11 7 k1, zAr T 0 a2_12 28 k2, zAr T 0 a3_13 7 k3, zAr T 0 a4_14 7 k4]] _ _ := G
  replace hl : lv_has ls 3 [(2, .int (nI i)), (0, .ref h), (1, .ref o)] := hl
  refine lv_iload_n hx hb dX1_begin_15 rfl (lv_at hl 0 rfl) ?_
  refine lv_bipush (v := 7) hx hb dX1_begin_16 (by decide) ?_
  refine lv_icmp_ge (tgt := 39) hx hb dX1_begin_18 (by decide) (fun c_17 => ?_) (fun c_17 => ?_)
  · have c_17n : 7 ≤ i := (nI_leI (a := 7) (b := i) (by omega) (by omega)).mp c_17
    refine lv_aload_n hx hb dX1_begin_39 rfl (lv_at hl 1 rfl) ?_
    refine lv_iconst (v := 0) hx hb dX1_begin_40 (by decide) ?_
    refine zEx1 hc3 ?_
    intro a1_18 hbs9
    clear hc3
    subst hbs9
    have G : zS T A s.heap s [[zO1 h po a1_18 v0 o v1 v2 v3 v4 v5 v6 v7], [zAr T 0 a1_18 7 x1], w2_2, [zO4 o cr inn a1_11 a2_12 a3_13 a4_14, zAr T 0 a1_11 7 k1, zAr T 0 a2_12 28 k2, zAr T 0 a3_13 7 k3, zAr T 0 a4_14 7 k4]] _ _ := G.re rfl
    refine z_put C G clX1 0 rfl 2 (by decide) m_fl_RX1_34 rfl rfl rfl (Nat.le_of_ble_eq_true rfl) dX1_begin_41 (fun H locs G => ?_)
    have G : zS T A s.heap s [[zO1 h po a1_18 0 o v1 v2 v3 v4 v5 v6 v7], [zAr T 0 a1_18 7 x1], w2_2, [zO4 o cr inn a1_11 a2_12 a3_13 a4_14, zAr T 0 a1_11 7 k1, zAr T 0 a2_12 28 k2, zAr T 0 a3_13 7 k3, zAr T 0 a4_14 7 k4]] _ _ := G
    refine lv_aload_n hx hb dX1_begin_44 rfl (lv_at hl 1 rfl) ?_
    refine lv_iconst (v := 0) hx hb dX1_begin_45 (by decide) ?_
    refine z_put C G clX1 0 rfl 4 (by decide) m_fl_RX1_38 rfl rfl rfl (Nat.le_of_ble_eq_true rfl) dX1_begin_46 (fun H locs G => ?_)
    have G : zS T A s.heap s [[zO1 h po a1_18 0 o 0 v2 v3 v4 v5 v6 v7], [zAr T 0 a1_18 7 x1], w2_2, [zO4 o cr inn a1_11 a2_12 a3_13 a4_14, zAr T 0 a1_11 7 k1, zAr T 0 a2_12 28 k2, zAr T 0 a3_13 7 k3, zAr T 0 a4_14 7 k4]] _ _ := G
    refine lv_aload_n hx hb dX1_begin_49 rfl (lv_at hl 1 rfl) ?_
    refine lv_iconst (v := 0) hx hb dX1_begin_50 (by decide) ?_
    refine z_put C G clX1 0 rfl 5 (by decide) m_fl_RX1_41 rfl rfl rfl (Nat.le_of_ble_eq_true rfl) dX1_begin_51 (fun H locs G => ?_)
    have G : zS T A s.heap s [[zO1 h po a1_18 0 o 0 0 v3 v4 v5 v6 v7], [zAr T 0 a1_18 7 x1], w2_2, [zO4 o cr inn a1_11 a2_12 a3_13 a4_14, zAr T 0 a1_11 7 k1, zAr T 0 a2_12 28 k2, zAr T 0 a3_13 7 k3, zAr T 0 a4_14 7 k4]] _ _ := G
    refine lv_aload_n hx hb dX1_begin_54 rfl (lv_at hl 1 rfl) ?_
    refine lv_iconst (v := (-1)) hx hb dX1_begin_55 (by decide) ?_
    refine z_put C G clX1 0 rfl 6 (by decide) m_fl_RX1_44 rfl rfl rfl (Nat.le_of_ble_eq_true rfl) dX1_begin_56 (fun H locs G => ?_)
    have G : zS T A s.heap s [[zO1 h po a1_18 0 o 0 0 (-1) v4 v5 v6 v7], [zAr T 0 a1_18 7 x1], w2_2, [zO4 o cr inn a1_11 a2_12 a3_13 a4_14, zAr T 0 a1_11 7 k1, zAr T 0 a2_12 28 k2, zAr T 0 a3_13 7 k3, zAr T 0 a4_14 7 k4]] _ _ := G
    refine lv_aload_n hx hb dX1_begin_59 rfl (lv_at hl 1 rfl) ?_
    refine lv_iconst (v := 0) hx hb dX1_begin_60 (by decide) ?_
    refine z_put C G clX1 0 rfl 7 (by decide) m_fl_RX1_47 rfl rfl rfl (Nat.le_of_ble_eq_true rfl) dX1_begin_61 (fun H locs G => ?_)
    have G : zS T A s.heap s [[zO1 h po a1_18 0 o 0 0 (-1) 0 v5 v6 v7], [zAr T 0 a1_18 7 x1], w2_2, [zO4 o cr inn a1_11 a2_12 a3_13 a4_14, zAr T 0 a1_11 7 k1, zAr T 0 a2_12 28 k2, zAr T 0 a3_13 7 k3, zAr T 0 a4_14 7 k4]] _ _ := G
    refine lv_aload_n hx hb dX1_begin_64 rfl (lv_at hl 1 rfl) ?_
    refine lv_iconst (v := 0) hx hb dX1_begin_65 (by decide) ?_
    refine z_put C G clX1 0 rfl 8 (by decide) m_fl_RX1_50 rfl rfl rfl (Nat.le_of_ble_eq_true rfl) dX1_begin_66 (fun H locs G => ?_)
    have G : zS T A s.heap s [[zO1 h po a1_18 0 o 0 0 (-1) 0 0 v6 v7], [zAr T 0 a1_18 7 x1], w2_2, [zO4 o cr inn a1_11 a2_12 a3_13 a4_14, zAr T 0 a1_11 7 k1, zAr T 0 a2_12 28 k2, zAr T 0 a3_13 7 k3, zAr T 0 a4_14 7 k4]] _ _ := G
    refine lv_aload_n hx hb dX1_begin_69 rfl (lv_at hl 1 rfl) ?_
    refine lv_iconst (v := 0) hx hb dX1_begin_70 (by decide) ?_
    refine z_put C G clX1 0 rfl 9 (by decide) m_fl_RX1_53 rfl rfl rfl (Nat.le_of_ble_eq_true rfl) dX1_begin_71 (fun H locs G => ?_)
    have G : zS T A s.heap s [[zO1 h po a1_18 0 o 0 0 (-1) 0 0 0 v7], [zAr T 0 a1_18 7 x1], w2_2, [zO4 o cr inn a1_11 a2_12 a3_13 a4_14, zAr T 0 a1_11 7 k1, zAr T 0 a2_12 28 k2, zAr T 0 a3_13 7 k3, zAr T 0 a4_14 7 k4]] _ _ := G
    refine lv_aload_n hx hb dX1_begin_74 rfl (lv_at hl 1 rfl) ?_
    have hw_19 : bCourse T h po o x1 0 0 0 (-1) 0 0 0 v7 [zO1 h po a1_18 0 o 0 0 (-1) 0 0 0 v7, zAr T 0 a1_18 7 x1] := ⟨a1_18, rfl⟩
    have G : zS T A s.heap s [[zO1 h po a1_18 0 o 0 0 (-1) 0 0 0 v7, zAr T 0 a1_18 7 x1], w2_2, [zO4 o cr inn a1_11 a2_12 a3_13 a4_14, zAr T 0 a1_11 7 k1, zAr T 0 a2_12 28 k2, zAr T 0 a3_13 7 k3, zAr T 0 a4_14 7 k4]] _ _ := G.re rfl
    refine z_Vv (bc := [[zO1 h po a1_18 0 o 0 0 (-1) 0 0 0 v7, zAr T 0 a1_18 7 x1], [zO4 o cr inn a1_11 a2_12 a3_13 a4_14, zAr T 0 a1_11 7 k1, zAr T 0 a2_12 28 k2, zAr T 0 a3_13 7 k3, zAr T 0 a4_14 7 k4]]) (br := [w2_2]) (As := []) (rest := []) C G (c_lookAtCrowd l T h po o x1 0 0 0 (-1) 0 0 0 v7 ([zO1 h po a1_18 0 o 0 0 (-1) 0 0 0 v7, zAr T 0 a1_18 7 x1]) cr inn k1 k2 k3 k4 ([zO4 o cr inn a1_11 a2_12 a3_13 a4_14, zAr T 0 a1_11 7 k1, zAr T 0 a2_12 28 k2, zAr T 0 a3_13 7 k3, zAr T 0 a4_14 7 k4]) hw_19 hw_16 (by first | with_reducible assumption | with_reducible rfl | omega | assumption | rfl)) (kV_RX1_56 C.2.2.2.2 (Nat.le_of_ble_eq_true rfl) (Nat.le_of_ble_eq_true rfl)) [0, 2] [0, 1] rfl rfl (ci := 1) (qc := (RX1, TX1, 11)) rfl rfl (List.mem_flatten.mpr ⟨_, List.mem_of_getElem? (i := 0) rfl, (bCourse_mem hw_19).choose_spec⟩) rfl rfl hl.1 dX1_begin_75 (Nat.le_of_ble_eq_true rfl) (Nat.le_of_ble_eq_true rfl) (fun b1 H locs hw G => ?_)
    refine zEx2 hw ?_
    intro wc2_20 u6_21
    refine zCu2 ?_
    intro hbs9 h_22
    clear hw
    subst hbs9
    have G : zS T A s.heap s [w2_2, wc2_20, [zO4 o cr inn a1_11 a2_12 a3_13 a4_14, zAr T 0 a1_11 7 k1, zAr T 0 a2_12 28 k2, zAr T 0 a3_13 7 k3, zAr T 0 a4_14 7 k4]] _ _ := G
    have G := G.sub (bs' := [wc2_20, w2_2, [zO4 o cr inn a1_11 a2_12 a3_13 a4_14, zAr T 0 a1_11 7 k1, zAr T 0 a2_12 28 k2, zAr T 0 a3_13 7 k3, zAr T 0 a4_14 7 k4]]) [1, 0, 2] rfl
    exact z_back hQ9 (z_vret C hr hlocks G (Nat.le_of_ble_eq_true rfl) (Nat.le_of_ble_eq_true rfl) dX1_begin_78 ⟨wc2_20, x1, u6_21, w2_2, g1_3, g2_4, g3_5, rfl, h_22, h_6, (fun j hj => hx1 j (by omega)), hQ, h_7, h_8, h_9⟩)
  · have c_17n : ¬ 7 ≤ i := fun q => c_17 ((nI_leI (a := 7) (b := i) (by omega) (by omega)).mpr q)
    refine lv_aload_n hx hb dX1_begin_21 rfl (lv_at hl 1 rfl) ?_
    refine zEx1 hc3 ?_
    intro a1_24 hbs9
    clear hc3
    subst hbs9
    have G : zS T A s.heap s [[zO1 h po a1_24 v0 o v1 v2 v3 v4 v5 v6 v7], [zAr T 0 a1_24 7 x1], w2_2, [zO4 o cr inn a1_11 a2_12 a3_13 a4_14, zAr T 0 a1_11 7 k1, zAr T 0 a2_12 28 k2, zAr T 0 a3_13 7 k3, zAr T 0 a4_14 7 k4]] _ _ := G.re rfl
    refine z_get C G clX1 0 rfl 1 (by decide) m_fl_RX1_18 rfl dX1_begin_22 ?_
    refine lv_iload_n hx hb dX1_begin_25 rfl (lv_at hl 0 rfl) ?_
    refine lv_aload_n hx hb dX1_begin_26 rfl (lv_at hl 2 rfl) ?_
    have G : zS T A s.heap s [[zO1 h po a1_24 v0 o v1 v2 v3 v4 v5 v6 v7], [zAr T 0 a1_24 7 x1], w2_2, [zO4 o cr inn a1_11 a2_12 a3_13 a4_14], [zAr T 0 a1_11 7 k1], [zAr T 0 a2_12 28 k2], [zAr T 0 a3_13 7 k3], [zAr T 0 a4_14 7 k4]] _ _ := G.re rfl
    refine z_get C G clX4 3 rfl 5 (by decide) m_fl_RX1_33 rfl dX1_begin_27 ?_
    refine lv_iload_n hx hb dX1_begin_30 rfl (lv_at hl 0 rfl) ?_
    refine z_ild C G 7 rfl (vp_in_nI (by omega) (by omega)) dX1_begin_31 ?_
    refine lv_topi (fun v_25 ev_25 => ?_)
    rw [nI_clamp (by omega)] at ev_25
    subst ev_25
    refine z_ist C G 1 rfl (vp_in_nI (by omega) (by omega)) dX1_begin_32 (fun H locs G => ?_)
    rw [nI_clamp (by omega)] at G
    have G : zS T A s.heap s [[zO1 h po a1_24 v0 o v1 v2 v3 v4 v5 v6 v7], [zAr T 0 a1_24 7 (upd x1 i (k4 i))], w2_2, [zO4 o cr inn a1_11 a2_12 a3_13 a4_14], [zAr T 0 a1_11 7 k1], [zAr T 0 a2_12 28 k2], [zAr T 0 a3_13 7 k3], [zAr T 0 a4_14 7 k4]] _ _ := G
    refine lv_iinc (v := nI (i + 1)) (lv' := [(2, .int (nI (i + 1))), (0, .ref h), (1, .ref o)]) hx hb dX1_begin_33 hl (k := 0) rfl (z_inc i 1) (by decide) rfl (fun ls hl => ?_)
    refine lv_goto (tgt := 15) hx hb dX1_begin_36 (by decide) ?_
    have hw_26 : bCourse T h po o (upd x1 i (k4 i)) v0 v1 v2 v3 v4 v5 v6 v7 [zO1 h po a1_24 v0 o v1 v2 v3 v4 v5 v6 v7, zAr T 0 a1_24 7 (upd x1 i (k4 i))] := ⟨a1_24, rfl⟩
    have G : zS T A s.heap s [[zO1 h po a1_24 v0 o v1 v2 v3 v4 v5 v6 v7, zAr T 0 a1_24 7 (upd x1 i (k4 i))], w2_2, [zO4 o cr inn a1_11 a2_12 a3_13 a4_14], [zAr T 0 a1_11 7 k1], [zAr T 0 a2_12 28 k2], [zAr T 0 a3_13 7 k3], [zAr T 0 a4_14 7 k4]] _ _ := G.re rfl
    have hw_27 : bLand T o cr inn k1 k2 k3 k4 [zO4 o cr inn a1_11 a2_12 a3_13 a4_14, zAr T 0 a1_11 7 k1, zAr T 0 a2_12 28 k2, zAr T 0 a3_13 7 k3, zAr T 0 a4_14 7 k4] := ⟨a1_11, a2_12, a3_13, a4_14, rfl⟩
    have G : zS T A s.heap s [[zO1 h po a1_24 v0 o v1 v2 v3 v4 v5 v6 v7, zAr T 0 a1_24 7 (upd x1 i (k4 i))], w2_2, [zO4 o cr inn a1_11 a2_12 a3_13 a4_14, zAr T 0 a1_11 7 k1, zAr T 0 a2_12 28 k2, zAr T 0 a3_13 7 k3, zAr T 0 a4_14 7 k4]] _ _ := G.re rfl
    exact ih_15 (i + 1) ([zO1 h po a1_24 v0 o v1 v2 v3 v4 v5 v6 v7, zAr T 0 a1_24 7 (upd x1 i (k4 i))]) (upd x1 i (k4 i)) (show bCourse T h po o (upd x1 i (k4 i)) v0 v1 v2 v3 v4 v5 v6 v7 ([zO1 h po a1_24 v0 o v1 v2 v3 v4 v5 v6 v7, zAr T 0 a1_24 7 (upd x1 i (k4 i))]) ∧ (i + 1) ≤ 7 ∧ (∀ j, j < (i + 1) → (upd x1 i (k4 i)) j = k4 j) from ⟨hw_26, by omega, z_updE hx1 rfl⟩) (show 7 - (i + 1) < 7 - i from by omega) _ _ ls G (lv_sub hl [0, 1, 2] rfl)
set_option maxHeartbeats 4000000 in
set_option maxRecDepth 100000 in
/-- c_does -/
theorem c_does (l : Launch) (T : zTy) (h : Nat) (po : Nat) (la : Nat) (fw : Nat → Int32) (v0 : Int32) (v1 : Int32) (v2 : Int32) (v3 : Int32) (v4 : Int32) (v5 : Int32) (v6 : Int32) (v7 : Int32) (wc : va_W) (f1 : Nat → Int32) (f2 : Nat → Int32) (f3 : Nat → Int32) (st : Int32) (wh : Int32) (wp : va_W) (cr : Int32) (inn : Int32) (k1 : Nat → Int32) (k2 : Nat → Int32) (k3 : Nat → Int32) (k4 : Nat → Int32) (z : va_W) (d : Int32) (x : Int32) (y : Int32) (hc : bCourse T h po la fw v0 v1 v2 v3 v4 v5 v6 v7 wc) (hp : bPosts T po la f1 f2 f3 st wh wp) (hz : bLand T la cr inn k1 k2 k3 k4 z) (hP : zP3 f1 f3) (hI : zLI cr k1 k3) : zMi l T yX1_does cX1_does 5 (some .boolean) 6 0 0 [.ref h, .int d, .int x, .int y] [wc, wp, z] (fun (r : Int32) bs => ∃ (wc2 : va_W) (gw : Nat → Int32) (u0 : Int32) (u1 : Int32) (u2 : Int32) (u3 : Int32) (u4 : Int32) (u5 : Int32) (u6 : Int32) (u7 : Int32) (wp2 : va_W) (g1 : Nat → Int32) (g2 : Nat → Int32) (sa : Int32) (wa : Int32), bs = [wc2, wp2, z] ∧ bCourse T h po la gw u0 u1 u2 u3 u4 u5 u6 u7 wc2 ∧ bPosts T po la g1 g2 f3 sa wa wp2 ∧ zP3 g1 f3 ∧ (r = 0 ∨ r = 1)) := by
  refine zMi_of (own := RX1) (by decide) rfl (Nat.le_of_ble_eq_true rfl) ?_
  intro p e s m args below meth c A ls C hr hlocks hnm hAe G hl
  refine zHide (fun Q9 hQ9 => ?_)
  have hx := C.1
  have hb := C.2.1
  have hl : lv_has ls 5 [(0, .ref h), (1, .int d), (2, .int x), (3, .int y)] := hl
  refine lv_iload_n hx hb dX1_does_0 rfl (lv_at hl 1 rfl) ?_
  by_cases c_1o : d.toInt < 0 ∨ 5 < d.toInt
  · refine lv_tableOut (tgt := 114) hx hb dX1_does_1 c_1o (by decide) ?_
    refine lv_iconst (v := 0) hx hb dX1_does_114 (by decide) ?_
    refine lv_istore (lv' := [(4, .int 0), (0, .ref h), (1, .int d), (2, .int x), (3, .int y)]) hx hb dX1_does_115 hl (by decide) rfl (fun ls hl => ?_)
    refine lv_iload hx hb dX1_does_117 (lv_at hl 0 rfl) ?_
    refine lv_if_eq (tgt := 136) hx hb dX1_does_119 (by decide) (fun _ => ?_) (fun q => absurd (by decide) q)
    refine lv_iload hx hb dX1_does_136 (lv_at hl 0 rfl) ?_
    exact z_back hQ9 (z_zret C hr hlocks G (Nat.le_of_ble_eq_true rfl) (Nat.le_of_ble_eq_true rfl) dX1_does_138 rfl ⟨wc, fw, v0, v1, v2, v3, v4, v5, v6, v7, wp, f1, f2, st, wh, rfl, hc, hp, (by first | exact hP | exact hQt | assumption), (by first | exact Or.inl rfl | exact Or.inr rfl)⟩)
  · have c_1r : d.toInt = 0 ∨ d.toInt = 1 ∨ d.toInt = 2 ∨ d.toInt = 3 ∨ d.toInt = 4 ∨ d.toInt = 5 := by omega
    rcases c_1r with c_1 | c_1 | c_1 | c_1 | c_1 | c_1
    · refine lv_tableIn (tgt := 40) hx hb dX1_does_1 (by omega) (by omega) (by rw [c_1]; rfl) (by decide) ?_
      refine lv_aload_n hx hb dX1_does_40 rfl (lv_at hl 0 rfl) ?_
      refine lv_iload_n hx hb dX1_does_41 rfl (lv_at hl 2 rfl) ?_
      refine z_Vi (bc := [wc, wp, z]) (br := []) (As := [.int x]) (rest := []) C G (c_go l T h po la fw v0 v1 v2 v3 v4 v5 v6 v7 wc f1 f2 f3 st wh wp cr inn k1 k2 k3 k4 z x hc hp hz hP) (kV_RX1_96 C.2.2.2.2 (Nat.le_of_ble_eq_true rfl) (Nat.le_of_ble_eq_true rfl)) [0, 1, 2] [0, 0, 0] rfl rfl (ci := 1) (qc := (RX1, TX1, 11)) rfl rfl (List.mem_flatten.mpr ⟨_, List.mem_of_getElem? (i := 0) rfl, (bCourse_mem hc).choose_spec⟩) rfl rfl hl.1 dX1_does_42 (Nat.le_of_ble_eq_true rfl) (Nat.le_of_ble_eq_true rfl) (fun r_21 b1 H locs hw G => ?_)
      refine zEx15 hw ?_
      intro wc2_2 gw_3 u0_4 u1_5 u2_6 u3_7 u4_8 u5_9 u6_10 u7_11 wp2_12 g1_13 g2_14 sa_15 wa_16
      refine zCu5 ?_
      intro hbs9 h_17 h_18 h_19 h_20
      clear hw
      subst hbs9
      have G : zS T A s.heap s [wc2_2, wp2_12, z] _ _ := G
      replace h_20 : zHd ((r_21 = 0 ∨ r_21 = 1)) := h_20
      refine lv_istore (lv' := [(4, .int r_21), (0, .ref h), (1, .int d), (2, .int x), (3, .int y)]) hx hb dX1_does_45 hl (by decide) rfl (fun ls hl => ?_)
      refine lv_goto (tgt := 117) hx hb dX1_does_47 (by decide) ?_
      refine lv_iload hx hb dX1_does_117 (lv_at hl 0 rfl) ?_
      refine lv_if_eq (tgt := 136) hx hb dX1_does_119 (by decide) (fun c_22 => ?_) (fun c_22 => ?_)
      · have c_22n : r_21.toInt = (0 : Int) := (fa_eq _ _).mp c_22
        refine lv_iload hx hb dX1_does_136 (lv_at hl 0 rfl) ?_
        exact z_back hQ9 (z_zret C hr hlocks G (Nat.le_of_ble_eq_true rfl) (Nat.le_of_ble_eq_true rfl) dX1_does_138 (by rcases h_20 with q | q <;> rw [q] <;> rfl) ⟨wc2_2, gw_3, u0_4, u1_5, u2_6, u3_7, u4_8, u5_9, u6_10, u7_11, wp2_12, g1_13, g2_14, sa_15, wa_16, rfl, h_17, h_18, (by first | exact hP | exact hQt | assumption), h_20⟩)
      · have c_22n : ¬ r_21.toInt = (0 : Int) := fun q => c_22 ((fa_eq _ _).mpr q)
        refine lv_aload_n hx hb dX1_does_122 rfl (lv_at hl 1 rfl) ?_
        refine lv_dup hx hb dX1_does_123 rfl ?_
        refine zEx1 h_17 ?_
        intro a1_23 hbs9
        clear h_17
        subst hbs9
        have G : zS T A s.heap s [[zO1 h po a1_23 u0_4 la u1_5 u2_6 u3_7 u4_8 u5_9 u6_10 u7_11], [zAr T 0 a1_23 7 gw_3], wp2_12, z] _ _ := G.re rfl
        refine z_get C G clX1 0 rfl 5 (by decide) m_fl_RX1_41 rfl dX1_does_124 ?_
        refine lv_iconst (v := 1) hx hb dX1_does_127 (by decide) ?_
        refine lv_iadd hx hb dX1_does_128 ?_
        refine z_put C G clX1 0 rfl 5 (by decide) m_fl_RX1_41 rfl rfl rfl (Nat.le_of_ble_eq_true rfl) dX1_does_129 (fun H locs G => ?_)
        have G : zS T A s.heap s [[zO1 h po a1_23 u0_4 la u1_5 (u2_6 + 1) u3_7 u4_8 u5_9 u6_10 u7_11], [zAr T 0 a1_23 7 gw_3], wp2_12, z] _ _ := G
        refine lv_aload_n hx hb dX1_does_132 rfl (lv_at hl 1 rfl) ?_
        have hw_24 : bCourse T h po la gw_3 u0_4 u1_5 (u2_6 + 1) u3_7 u4_8 u5_9 u6_10 u7_11 [zO1 h po a1_23 u0_4 la u1_5 (u2_6 + 1) u3_7 u4_8 u5_9 u6_10 u7_11, zAr T 0 a1_23 7 gw_3] := ⟨a1_23, rfl⟩
        have G : zS T A s.heap s [[zO1 h po a1_23 u0_4 la u1_5 (u2_6 + 1) u3_7 u4_8 u5_9 u6_10 u7_11, zAr T 0 a1_23 7 gw_3], wp2_12, z] _ _ := G.re rfl
        refine z_Vv (bc := [[zO1 h po a1_23 u0_4 la u1_5 (u2_6 + 1) u3_7 u4_8 u5_9 u6_10 u7_11, zAr T 0 a1_23 7 gw_3], z]) (br := [wp2_12]) (As := []) (rest := []) C G (c_lookAtCrowd l T h po la gw_3 u0_4 u1_5 (u2_6 + 1) u3_7 u4_8 u5_9 u6_10 u7_11 ([zO1 h po a1_23 u0_4 la u1_5 (u2_6 + 1) u3_7 u4_8 u5_9 u6_10 u7_11, zAr T 0 a1_23 7 gw_3]) cr inn k1 k2 k3 k4 z hw_24 hz (by first | with_reducible assumption | with_reducible rfl | omega | assumption | rfl)) (kV_RX1_56 C.2.2.2.2 (Nat.le_of_ble_eq_true rfl) (Nat.le_of_ble_eq_true rfl)) [0, 2] [0, 1] rfl rfl (ci := 1) (qc := (RX1, TX1, 11)) rfl rfl (List.mem_flatten.mpr ⟨_, List.mem_of_getElem? (i := 0) rfl, (bCourse_mem hw_24).choose_spec⟩) rfl rfl hl.1 dX1_does_133 (Nat.le_of_ble_eq_true rfl) (Nat.le_of_ble_eq_true rfl) (fun b1 H locs hw G => ?_)
        refine zEx2 hw ?_
        intro wc2_25 u6_26
        refine zCu2 ?_
        intro hbs9 h_27
        clear hw
        subst hbs9
        have G : zS T A s.heap s [wp2_12, wc2_25, z] _ _ := G
        refine lv_iload hx hb dX1_does_136 (lv_at hl 0 rfl) ?_
        have G := G.sub (bs' := [wc2_25, wp2_12, z]) [1, 0, 2] rfl
        exact z_back hQ9 (z_zret C hr hlocks G (Nat.le_of_ble_eq_true rfl) (Nat.le_of_ble_eq_true rfl) dX1_does_138 (by rcases h_20 with q | q <;> rw [q] <;> rfl) ⟨wc2_25, gw_3, u0_4, u1_5, (u2_6 + 1), u3_7, u4_8, u5_9, u6_26, u7_11, wp2_12, g1_13, g2_14, sa_15, wa_16, rfl, h_27, h_18, (by first | exact hP | exact hQt | assumption), h_20⟩)
    · refine lv_tableIn (tgt := 50) hx hb dX1_does_1 (by omega) (by omega) (by rw [c_1]; rfl) (by decide) ?_
      refine lv_aload_n hx hb dX1_does_50 rfl (lv_at hl 0 rfl) ?_
      refine lv_iload_n hx hb dX1_does_51 rfl (lv_at hl 2 rfl) ?_
      refine z_Vi (bc := [wc, wp, z]) (br := []) (As := [.int x]) (rest := []) C G (c_Course_run l T h po la fw v0 v1 v2 v3 v4 v5 v6 v7 wc f1 f2 f3 st wh wp cr inn k1 k2 k3 k4 z x hc hp hz hP) (kV_RX1_92 C.2.2.2.2 (Nat.le_of_ble_eq_true rfl) (Nat.le_of_ble_eq_true rfl)) [0, 1, 2] [0, 0, 0] rfl rfl (ci := 1) (qc := (RX1, TX1, 11)) rfl rfl (List.mem_flatten.mpr ⟨_, List.mem_of_getElem? (i := 0) rfl, (bCourse_mem hc).choose_spec⟩) rfl rfl hl.1 dX1_does_52 (Nat.le_of_ble_eq_true rfl) (Nat.le_of_ble_eq_true rfl) (fun r_48 b1 H locs hw G => ?_)
      refine zEx15 hw ?_
      intro wc2_29 gw_30 u0_31 u1_32 u2_33 u3_34 u4_35 u5_36 u6_37 u7_38 wp2_39 g1_40 g2_41 sa_42 wa_43
      refine zCu5 ?_
      intro hbs9 h_44 h_45 h_46 h_47
      clear hw
      subst hbs9
      have G : zS T A s.heap s [wc2_29, wp2_39, z] _ _ := G
      replace h_47 : zHd ((r_48 = 0 ∨ r_48 = 1)) := h_47
      refine lv_istore (lv' := [(4, .int r_48), (0, .ref h), (1, .int d), (2, .int x), (3, .int y)]) hx hb dX1_does_55 hl (by decide) rfl (fun ls hl => ?_)
      refine lv_goto (tgt := 117) hx hb dX1_does_57 (by decide) ?_
      refine lv_iload hx hb dX1_does_117 (lv_at hl 0 rfl) ?_
      refine lv_if_eq (tgt := 136) hx hb dX1_does_119 (by decide) (fun c_49 => ?_) (fun c_49 => ?_)
      · have c_49n : r_48.toInt = (0 : Int) := (fa_eq _ _).mp c_49
        refine lv_iload hx hb dX1_does_136 (lv_at hl 0 rfl) ?_
        exact z_back hQ9 (z_zret C hr hlocks G (Nat.le_of_ble_eq_true rfl) (Nat.le_of_ble_eq_true rfl) dX1_does_138 (by rcases h_47 with q | q <;> rw [q] <;> rfl) ⟨wc2_29, gw_30, u0_31, u1_32, u2_33, u3_34, u4_35, u5_36, u6_37, u7_38, wp2_39, g1_40, g2_41, sa_42, wa_43, rfl, h_44, h_45, (by first | exact hP | exact hQt | assumption), h_47⟩)
      · have c_49n : ¬ r_48.toInt = (0 : Int) := fun q => c_49 ((fa_eq _ _).mpr q)
        refine lv_aload_n hx hb dX1_does_122 rfl (lv_at hl 1 rfl) ?_
        refine lv_dup hx hb dX1_does_123 rfl ?_
        refine zEx1 h_44 ?_
        intro a1_50 hbs9
        clear h_44
        subst hbs9
        have G : zS T A s.heap s [[zO1 h po a1_50 u0_31 la u1_32 u2_33 u3_34 u4_35 u5_36 u6_37 u7_38], [zAr T 0 a1_50 7 gw_30], wp2_39, z] _ _ := G.re rfl
        refine z_get C G clX1 0 rfl 5 (by decide) m_fl_RX1_41 rfl dX1_does_124 ?_
        refine lv_iconst (v := 1) hx hb dX1_does_127 (by decide) ?_
        refine lv_iadd hx hb dX1_does_128 ?_
        refine z_put C G clX1 0 rfl 5 (by decide) m_fl_RX1_41 rfl rfl rfl (Nat.le_of_ble_eq_true rfl) dX1_does_129 (fun H locs G => ?_)
        have G : zS T A s.heap s [[zO1 h po a1_50 u0_31 la u1_32 (u2_33 + 1) u3_34 u4_35 u5_36 u6_37 u7_38], [zAr T 0 a1_50 7 gw_30], wp2_39, z] _ _ := G
        refine lv_aload_n hx hb dX1_does_132 rfl (lv_at hl 1 rfl) ?_
        have hw_51 : bCourse T h po la gw_30 u0_31 u1_32 (u2_33 + 1) u3_34 u4_35 u5_36 u6_37 u7_38 [zO1 h po a1_50 u0_31 la u1_32 (u2_33 + 1) u3_34 u4_35 u5_36 u6_37 u7_38, zAr T 0 a1_50 7 gw_30] := ⟨a1_50, rfl⟩
        have G : zS T A s.heap s [[zO1 h po a1_50 u0_31 la u1_32 (u2_33 + 1) u3_34 u4_35 u5_36 u6_37 u7_38, zAr T 0 a1_50 7 gw_30], wp2_39, z] _ _ := G.re rfl
        refine z_Vv (bc := [[zO1 h po a1_50 u0_31 la u1_32 (u2_33 + 1) u3_34 u4_35 u5_36 u6_37 u7_38, zAr T 0 a1_50 7 gw_30], z]) (br := [wp2_39]) (As := []) (rest := []) C G (c_lookAtCrowd l T h po la gw_30 u0_31 u1_32 (u2_33 + 1) u3_34 u4_35 u5_36 u6_37 u7_38 ([zO1 h po a1_50 u0_31 la u1_32 (u2_33 + 1) u3_34 u4_35 u5_36 u6_37 u7_38, zAr T 0 a1_50 7 gw_30]) cr inn k1 k2 k3 k4 z hw_51 hz (by first | with_reducible assumption | with_reducible rfl | omega | assumption | rfl)) (kV_RX1_56 C.2.2.2.2 (Nat.le_of_ble_eq_true rfl) (Nat.le_of_ble_eq_true rfl)) [0, 2] [0, 1] rfl rfl (ci := 1) (qc := (RX1, TX1, 11)) rfl rfl (List.mem_flatten.mpr ⟨_, List.mem_of_getElem? (i := 0) rfl, (bCourse_mem hw_51).choose_spec⟩) rfl rfl hl.1 dX1_does_133 (Nat.le_of_ble_eq_true rfl) (Nat.le_of_ble_eq_true rfl) (fun b1 H locs hw G => ?_)
        refine zEx2 hw ?_
        intro wc2_52 u6_53
        refine zCu2 ?_
        intro hbs9 h_54
        clear hw
        subst hbs9
        have G : zS T A s.heap s [wp2_39, wc2_52, z] _ _ := G
        refine lv_iload hx hb dX1_does_136 (lv_at hl 0 rfl) ?_
        have G := G.sub (bs' := [wc2_52, wp2_39, z]) [1, 0, 2] rfl
        exact z_back hQ9 (z_zret C hr hlocks G (Nat.le_of_ble_eq_true rfl) (Nat.le_of_ble_eq_true rfl) dX1_does_138 (by rcases h_47 with q | q <;> rw [q] <;> rfl) ⟨wc2_52, gw_30, u0_31, u1_32, (u2_33 + 1), u3_34, u4_35, u5_36, u6_53, u7_38, wp2_39, g1_40, g2_41, sa_42, wa_43, rfl, h_54, h_45, (by first | exact hP | exact hQt | assumption), h_47⟩)
    · refine lv_tableIn (tgt := 60) hx hb dX1_does_1 (by omega) (by omega) (by rw [c_1]; rfl) (by decide) ?_
      refine lv_aload_n hx hb dX1_does_60 rfl (lv_at hl 0 rfl) ?_
      refine zEx1 hc ?_
      intro a1_56 hbs9
      clear hc
      subst hbs9
      have G : zS T A s.heap s [[zO1 h po a1_56 v0 la v1 v2 v3 v4 v5 v6 v7], [zAr T 0 a1_56 7 fw], wp, z] _ _ := G.re rfl
      refine z_get C G clX1 0 rfl 0 (by decide) m_fl_RX1_12 rfl dX1_does_61 ?_
      refine lv_iload_n hx hb dX1_does_64 rfl (lv_at hl 2 rfl) ?_
      refine z_Vi (bc := [wp]) (br := [[zO1 h po a1_56 v0 la v1 v2 v3 v4 v5 v6 v7], [zAr T 0 a1_56 7 fw], z]) (As := [.int x]) (rest := []) C G (c_turn l T po la f1 f2 f3 st wh wp x hp hP) (kV_RX1_99 C.2.2.2.2 (Nat.le_of_ble_eq_true rfl) (Nat.le_of_ble_eq_true rfl)) [2] [2] rfl rfl (ci := 6) (qc := (RX6, TX6, 6)) rfl rfl (List.mem_flatten.mpr ⟨_, List.mem_of_getElem? (i := 0) rfl, (bPosts_mem hp).choose_spec⟩) rfl rfl hl.1 dX1_does_65 (Nat.le_of_ble_eq_true rfl) (Nat.le_of_ble_eq_true rfl) (fun r_62 b1 H locs hw G => ?_)
      refine zEx2 hw ?_
      intro w2_57 g1_58
      refine zCu4 ?_
      intro hbs9 h_59 h_60 h_61
      clear hw
      subst hbs9
      have G : zS T A s.heap s [[zO1 h po a1_56 v0 la v1 v2 v3 v4 v5 v6 v7], [zAr T 0 a1_56 7 fw], z, w2_57] _ _ := G
      subst h_59
      have hQt : zP3 g1_58 f3 := by rw [h_61]; exact zPost_I hP _
      refine lv_iconst (v := (-1)) hx hb dX1_does_68 (by decide) ?_
      refine lv_icmp_eq (tgt := 76) hx hb dX1_does_69 (by decide) (fun c_63 => ?_) (fun c_63 => ?_)
      · have c_63n : (zTurn f1 f2 f3 x).toInt = (-1 : Int) := (fa_eq _ _).mp c_63
        refine lv_iconst (v := 0) hx hb dX1_does_76 (by decide) ?_
        refine lv_istore (lv' := [(4, .int 0), (0, .ref h), (1, .int d), (2, .int x), (3, .int y)]) hx hb dX1_does_77 hl (by decide) rfl (fun ls hl => ?_)
        refine lv_goto (tgt := 117) hx hb dX1_does_79 (by decide) ?_
        refine lv_iload hx hb dX1_does_117 (lv_at hl 0 rfl) ?_
        refine lv_if_eq (tgt := 136) hx hb dX1_does_119 (by decide) (fun _ => ?_) (fun q => absurd (by decide) q)
        refine lv_iload hx hb dX1_does_136 (lv_at hl 0 rfl) ?_
        have hw_64 : bCourse T h po la fw v0 v1 v2 v3 v4 v5 v6 v7 [zO1 h po a1_56 v0 la v1 v2 v3 v4 v5 v6 v7, zAr T 0 a1_56 7 fw] := ⟨a1_56, rfl⟩
        have G : zS T A s.heap s [[zO1 h po a1_56 v0 la v1 v2 v3 v4 v5 v6 v7, zAr T 0 a1_56 7 fw], z, w2_57] _ _ := G.re rfl
        have G := G.sub (bs' := [[zO1 h po a1_56 v0 la v1 v2 v3 v4 v5 v6 v7, zAr T 0 a1_56 7 fw], w2_57, z]) [0, 2, 1] rfl
        exact z_back hQ9 (z_zret C hr hlocks G (Nat.le_of_ble_eq_true rfl) (Nat.le_of_ble_eq_true rfl) dX1_does_138 rfl ⟨([zO1 h po a1_56 v0 la v1 v2 v3 v4 v5 v6 v7, zAr T 0 a1_56 7 fw]), fw, v0, v1, v2, v3, v4, v5, v6, v7, w2_57, g1_58, f2, st, wh, rfl, hw_64, h_60, (by first | exact hP | exact hQt | assumption), (by first | exact Or.inl rfl | exact Or.inr rfl)⟩)
      · have c_63n : ¬ (zTurn f1 f2 f3 x).toInt = (-1 : Int) := fun q => c_63 ((fa_eq _ _).mpr q)
        refine lv_iconst (v := 1) hx hb dX1_does_72 (by decide) ?_
        refine lv_goto (tgt := 77) hx hb dX1_does_73 (by decide) ?_
        refine lv_istore (lv' := [(4, .int 1), (0, .ref h), (1, .int d), (2, .int x), (3, .int y)]) hx hb dX1_does_77 hl (by decide) rfl (fun ls hl => ?_)
        refine lv_goto (tgt := 117) hx hb dX1_does_79 (by decide) ?_
        refine lv_iload hx hb dX1_does_117 (lv_at hl 0 rfl) ?_
        refine lv_if_eq (tgt := 136) hx hb dX1_does_119 (by decide) (fun q => absurd q (by decide)) (fun _ => ?_)
        refine lv_aload_n hx hb dX1_does_122 rfl (lv_at hl 1 rfl) ?_
        refine lv_dup hx hb dX1_does_123 rfl ?_
        refine z_get C G clX1 0 rfl 5 (by decide) m_fl_RX1_41 rfl dX1_does_124 ?_
        refine lv_iconst (v := 1) hx hb dX1_does_127 (by decide) ?_
        refine lv_iadd hx hb dX1_does_128 ?_
        refine z_put C G clX1 0 rfl 5 (by decide) m_fl_RX1_41 rfl rfl rfl (Nat.le_of_ble_eq_true rfl) dX1_does_129 (fun H locs G => ?_)
        have G : zS T A s.heap s [[zO1 h po a1_56 v0 la v1 (v2 + 1) v3 v4 v5 v6 v7], [zAr T 0 a1_56 7 fw], z, w2_57] _ _ := G
        refine lv_aload_n hx hb dX1_does_132 rfl (lv_at hl 1 rfl) ?_
        have hw_65 : bCourse T h po la fw v0 v1 (v2 + 1) v3 v4 v5 v6 v7 [zO1 h po a1_56 v0 la v1 (v2 + 1) v3 v4 v5 v6 v7, zAr T 0 a1_56 7 fw] := ⟨a1_56, rfl⟩
        have G : zS T A s.heap s [[zO1 h po a1_56 v0 la v1 (v2 + 1) v3 v4 v5 v6 v7, zAr T 0 a1_56 7 fw], z, w2_57] _ _ := G.re rfl
        refine z_Vv (bc := [[zO1 h po a1_56 v0 la v1 (v2 + 1) v3 v4 v5 v6 v7, zAr T 0 a1_56 7 fw], z]) (br := [w2_57]) (As := []) (rest := []) C G (c_lookAtCrowd l T h po la fw v0 v1 (v2 + 1) v3 v4 v5 v6 v7 ([zO1 h po a1_56 v0 la v1 (v2 + 1) v3 v4 v5 v6 v7, zAr T 0 a1_56 7 fw]) cr inn k1 k2 k3 k4 z hw_65 hz (by first | with_reducible assumption | with_reducible rfl | omega | assumption | rfl)) (kV_RX1_56 C.2.2.2.2 (Nat.le_of_ble_eq_true rfl) (Nat.le_of_ble_eq_true rfl)) [0, 1] [0, 0] rfl rfl (ci := 1) (qc := (RX1, TX1, 11)) rfl rfl (List.mem_flatten.mpr ⟨_, List.mem_of_getElem? (i := 0) rfl, (bCourse_mem hw_65).choose_spec⟩) rfl rfl hl.1 dX1_does_133 (Nat.le_of_ble_eq_true rfl) (Nat.le_of_ble_eq_true rfl) (fun b1 H locs hw G => ?_)
        refine zEx2 hw ?_
        intro wc2_66 u6_67
        refine zCu2 ?_
        intro hbs9 h_68
        clear hw
        subst hbs9
        have G : zS T A s.heap s [w2_57, wc2_66, z] _ _ := G
        refine lv_iload hx hb dX1_does_136 (lv_at hl 0 rfl) ?_
        have G := G.sub (bs' := [wc2_66, w2_57, z]) [1, 0, 2] rfl
        exact z_back hQ9 (z_zret C hr hlocks G (Nat.le_of_ble_eq_true rfl) (Nat.le_of_ble_eq_true rfl) dX1_does_138 rfl ⟨wc2_66, fw, v0, v1, (v2 + 1), v3, v4, v5, u6_67, v7, w2_57, g1_58, f2, st, wh, rfl, h_68, h_60, (by first | exact hP | exact hQt | assumption), (by first | exact Or.inl rfl | exact Or.inr rfl)⟩)
    · refine lv_tableIn (tgt := 82) hx hb dX1_does_1 (by omega) (by omega) (by rw [c_1]; rfl) (by decide) ?_
      refine lv_aload_n hx hb dX1_does_82 rfl (lv_at hl 0 rfl) ?_
      refine lv_iload_n hx hb dX1_does_83 rfl (lv_at hl 2 rfl) ?_
      refine z_Vi (bc := [wc, z]) (br := [wp]) (As := [.int x]) (rest := []) C G (c_Course_add l T h po la fw v0 v1 v2 v3 v4 v5 v6 v7 wc cr inn k1 k2 k3 k4 z x hc hz) (kV_RX1_102 C.2.2.2.2 (Nat.le_of_ble_eq_true rfl) (Nat.le_of_ble_eq_true rfl)) [0, 2] [0, 1] rfl rfl (ci := 1) (qc := (RX1, TX1, 11)) rfl rfl (List.mem_flatten.mpr ⟨_, List.mem_of_getElem? (i := 0) rfl, (bCourse_mem hc).choose_spec⟩) rfl rfl hl.1 dX1_does_84 (Nat.le_of_ble_eq_true rfl) (Nat.le_of_ble_eq_true rfl) (fun r_82 b1 H locs hw G => ?_)
      refine zEx10 hw ?_
      intro wc2_70 gw_71 u0_72 u1_73 u2_74 u3_75 u4_76 u5_77 u6_78 u7_79
      refine zCu3 ?_
      intro hbs9 h_80 h_81
      clear hw
      subst hbs9
      have G : zS T A s.heap s [wp, wc2_70, z] _ _ := G
      replace h_81 : zHd ((r_82 = 0 ∨ r_82 = 1)) := h_81
      refine lv_istore (lv' := [(4, .int r_82), (0, .ref h), (1, .int d), (2, .int x), (3, .int y)]) hx hb dX1_does_87 hl (by decide) rfl (fun ls hl => ?_)
      refine lv_goto (tgt := 117) hx hb dX1_does_89 (by decide) ?_
      refine lv_iload hx hb dX1_does_117 (lv_at hl 0 rfl) ?_
      refine lv_if_eq (tgt := 136) hx hb dX1_does_119 (by decide) (fun c_83 => ?_) (fun c_83 => ?_)
      · have c_83n : r_82.toInt = (0 : Int) := (fa_eq _ _).mp c_83
        refine lv_iload hx hb dX1_does_136 (lv_at hl 0 rfl) ?_
        have G := G.sub (bs' := [wc2_70, wp, z]) [1, 0, 2] rfl
        exact z_back hQ9 (z_zret C hr hlocks G (Nat.le_of_ble_eq_true rfl) (Nat.le_of_ble_eq_true rfl) dX1_does_138 (by rcases h_81 with q | q <;> rw [q] <;> rfl) ⟨wc2_70, gw_71, u0_72, u1_73, u2_74, u3_75, u4_76, u5_77, u6_78, u7_79, wp, f1, f2, st, wh, rfl, h_80, hp, (by first | exact hP | exact hQt | assumption), h_81⟩)
      · have c_83n : ¬ r_82.toInt = (0 : Int) := fun q => c_83 ((fa_eq _ _).mpr q)
        refine lv_aload_n hx hb dX1_does_122 rfl (lv_at hl 1 rfl) ?_
        refine lv_dup hx hb dX1_does_123 rfl ?_
        refine zEx1 h_80 ?_
        intro a1_84 hbs9
        clear h_80
        subst hbs9
        have G : zS T A s.heap s [wp, [zO1 h po a1_84 u0_72 la u1_73 u2_74 u3_75 u4_76 u5_77 u6_78 u7_79], [zAr T 0 a1_84 7 gw_71], z] _ _ := G.re rfl
        refine z_get C G clX1 1 rfl 5 (by decide) m_fl_RX1_41 rfl dX1_does_124 ?_
        refine lv_iconst (v := 1) hx hb dX1_does_127 (by decide) ?_
        refine lv_iadd hx hb dX1_does_128 ?_
        refine z_put C G clX1 1 rfl 5 (by decide) m_fl_RX1_41 rfl rfl rfl (Nat.le_of_ble_eq_true rfl) dX1_does_129 (fun H locs G => ?_)
        have G : zS T A s.heap s [wp, [zO1 h po a1_84 u0_72 la u1_73 (u2_74 + 1) u3_75 u4_76 u5_77 u6_78 u7_79], [zAr T 0 a1_84 7 gw_71], z] _ _ := G
        refine lv_aload_n hx hb dX1_does_132 rfl (lv_at hl 1 rfl) ?_
        have hw_85 : bCourse T h po la gw_71 u0_72 u1_73 (u2_74 + 1) u3_75 u4_76 u5_77 u6_78 u7_79 [zO1 h po a1_84 u0_72 la u1_73 (u2_74 + 1) u3_75 u4_76 u5_77 u6_78 u7_79, zAr T 0 a1_84 7 gw_71] := ⟨a1_84, rfl⟩
        have G : zS T A s.heap s [wp, [zO1 h po a1_84 u0_72 la u1_73 (u2_74 + 1) u3_75 u4_76 u5_77 u6_78 u7_79, zAr T 0 a1_84 7 gw_71], z] _ _ := G.re rfl
        refine z_Vv (bc := [[zO1 h po a1_84 u0_72 la u1_73 (u2_74 + 1) u3_75 u4_76 u5_77 u6_78 u7_79, zAr T 0 a1_84 7 gw_71], z]) (br := [wp]) (As := []) (rest := []) C G (c_lookAtCrowd l T h po la gw_71 u0_72 u1_73 (u2_74 + 1) u3_75 u4_76 u5_77 u6_78 u7_79 ([zO1 h po a1_84 u0_72 la u1_73 (u2_74 + 1) u3_75 u4_76 u5_77 u6_78 u7_79, zAr T 0 a1_84 7 gw_71]) cr inn k1 k2 k3 k4 z hw_85 hz (by first | with_reducible assumption | with_reducible rfl | omega | assumption | rfl)) (kV_RX1_56 C.2.2.2.2 (Nat.le_of_ble_eq_true rfl) (Nat.le_of_ble_eq_true rfl)) [1, 2] [1, 0] rfl rfl (ci := 1) (qc := (RX1, TX1, 11)) rfl rfl (List.mem_flatten.mpr ⟨_, List.mem_of_getElem? (i := 0) rfl, (bCourse_mem hw_85).choose_spec⟩) rfl rfl hl.1 dX1_does_133 (Nat.le_of_ble_eq_true rfl) (Nat.le_of_ble_eq_true rfl) (fun b1 H locs hw G => ?_)
        refine zEx2 hw ?_
        intro wc2_86 u6_87
        refine zCu2 ?_
        intro hbs9 h_88
        clear hw
        subst hbs9
        have G : zS T A s.heap s [wp, wc2_86, z] _ _ := G
        refine lv_iload hx hb dX1_does_136 (lv_at hl 0 rfl) ?_
        have G := G.sub (bs' := [wc2_86, wp, z]) [1, 0, 2] rfl
        exact z_back hQ9 (z_zret C hr hlocks G (Nat.le_of_ble_eq_true rfl) (Nat.le_of_ble_eq_true rfl) dX1_does_138 (by rcases h_81 with q | q <;> rw [q] <;> rfl) ⟨wc2_86, gw_71, u0_72, u1_73, (u2_74 + 1), u3_75, u4_76, u5_77, u6_87, u7_79, wp, f1, f2, st, wh, rfl, h_88, hp, (by first | exact hP | exact hQt | assumption), h_81⟩)
    · refine lv_tableIn (tgt := 92) hx hb dX1_does_1 (by omega) (by omega) (by rw [c_1]; rfl) (by decide) ?_
      refine lv_aload_n hx hb dX1_does_92 rfl (lv_at hl 0 rfl) ?_
      refine lv_iload_n hx hb dX1_does_93 rfl (lv_at hl 2 rfl) ?_
      refine lv_iload_n hx hb dX1_does_94 rfl (lv_at hl 3 rfl) ?_
      refine z_Vi (bc := [wc, wp, z]) (br := []) (As := [.int x, .int y]) (rest := []) C G (c_Course_shut l T h po la fw v0 v1 v2 v3 v4 v5 v6 v7 wc f1 f2 f3 st wh wp cr inn k1 k2 k3 k4 z x y hc hp hz hP) (kV_RX1_105 C.2.2.2.2 (Nat.le_of_ble_eq_true rfl) (Nat.le_of_ble_eq_true rfl)) [0, 1, 2] [0, 0, 0] rfl rfl (ci := 1) (qc := (RX1, TX1, 11)) rfl rfl (List.mem_flatten.mpr ⟨_, List.mem_of_getElem? (i := 0) rfl, (bCourse_mem hc).choose_spec⟩) rfl rfl hl.1 dX1_does_95 (Nat.le_of_ble_eq_true rfl) (Nat.le_of_ble_eq_true rfl) (fun r_109 b1 H locs hw G => ?_)
      refine zEx15 hw ?_
      intro wc2_90 gw_91 u0_92 u1_93 u2_94 u3_95 u4_96 u5_97 u6_98 u7_99 wp2_100 g1_101 g2_102 sa_103 wa_104
      refine zCu5 ?_
      intro hbs9 h_105 h_106 h_107 h_108
      clear hw
      subst hbs9
      have G : zS T A s.heap s [wc2_90, wp2_100, z] _ _ := G
      replace h_108 : zHd ((r_109 = 0 ∨ r_109 = 1)) := h_108
      refine lv_istore (lv' := [(4, .int r_109), (0, .ref h), (1, .int d), (2, .int x), (3, .int y)]) hx hb dX1_does_98 hl (by decide) rfl (fun ls hl => ?_)
      refine lv_goto (tgt := 117) hx hb dX1_does_100 (by decide) ?_
      refine lv_iload hx hb dX1_does_117 (lv_at hl 0 rfl) ?_
      refine lv_if_eq (tgt := 136) hx hb dX1_does_119 (by decide) (fun c_110 => ?_) (fun c_110 => ?_)
      · have c_110n : r_109.toInt = (0 : Int) := (fa_eq _ _).mp c_110
        refine lv_iload hx hb dX1_does_136 (lv_at hl 0 rfl) ?_
        exact z_back hQ9 (z_zret C hr hlocks G (Nat.le_of_ble_eq_true rfl) (Nat.le_of_ble_eq_true rfl) dX1_does_138 (by rcases h_108 with q | q <;> rw [q] <;> rfl) ⟨wc2_90, gw_91, u0_92, u1_93, u2_94, u3_95, u4_96, u5_97, u6_98, u7_99, wp2_100, g1_101, g2_102, sa_103, wa_104, rfl, h_105, h_106, (by first | exact hP | exact hQt | assumption), h_108⟩)
      · have c_110n : ¬ r_109.toInt = (0 : Int) := fun q => c_110 ((fa_eq _ _).mpr q)
        refine lv_aload_n hx hb dX1_does_122 rfl (lv_at hl 1 rfl) ?_
        refine lv_dup hx hb dX1_does_123 rfl ?_
        refine zEx1 h_105 ?_
        intro a1_111 hbs9
        clear h_105
        subst hbs9
        have G : zS T A s.heap s [[zO1 h po a1_111 u0_92 la u1_93 u2_94 u3_95 u4_96 u5_97 u6_98 u7_99], [zAr T 0 a1_111 7 gw_91], wp2_100, z] _ _ := G.re rfl
        refine z_get C G clX1 0 rfl 5 (by decide) m_fl_RX1_41 rfl dX1_does_124 ?_
        refine lv_iconst (v := 1) hx hb dX1_does_127 (by decide) ?_
        refine lv_iadd hx hb dX1_does_128 ?_
        refine z_put C G clX1 0 rfl 5 (by decide) m_fl_RX1_41 rfl rfl rfl (Nat.le_of_ble_eq_true rfl) dX1_does_129 (fun H locs G => ?_)
        have G : zS T A s.heap s [[zO1 h po a1_111 u0_92 la u1_93 (u2_94 + 1) u3_95 u4_96 u5_97 u6_98 u7_99], [zAr T 0 a1_111 7 gw_91], wp2_100, z] _ _ := G
        refine lv_aload_n hx hb dX1_does_132 rfl (lv_at hl 1 rfl) ?_
        have hw_112 : bCourse T h po la gw_91 u0_92 u1_93 (u2_94 + 1) u3_95 u4_96 u5_97 u6_98 u7_99 [zO1 h po a1_111 u0_92 la u1_93 (u2_94 + 1) u3_95 u4_96 u5_97 u6_98 u7_99, zAr T 0 a1_111 7 gw_91] := ⟨a1_111, rfl⟩
        have G : zS T A s.heap s [[zO1 h po a1_111 u0_92 la u1_93 (u2_94 + 1) u3_95 u4_96 u5_97 u6_98 u7_99, zAr T 0 a1_111 7 gw_91], wp2_100, z] _ _ := G.re rfl
        refine z_Vv (bc := [[zO1 h po a1_111 u0_92 la u1_93 (u2_94 + 1) u3_95 u4_96 u5_97 u6_98 u7_99, zAr T 0 a1_111 7 gw_91], z]) (br := [wp2_100]) (As := []) (rest := []) C G (c_lookAtCrowd l T h po la gw_91 u0_92 u1_93 (u2_94 + 1) u3_95 u4_96 u5_97 u6_98 u7_99 ([zO1 h po a1_111 u0_92 la u1_93 (u2_94 + 1) u3_95 u4_96 u5_97 u6_98 u7_99, zAr T 0 a1_111 7 gw_91]) cr inn k1 k2 k3 k4 z hw_112 hz (by first | with_reducible assumption | with_reducible rfl | omega | assumption | rfl)) (kV_RX1_56 C.2.2.2.2 (Nat.le_of_ble_eq_true rfl) (Nat.le_of_ble_eq_true rfl)) [0, 2] [0, 1] rfl rfl (ci := 1) (qc := (RX1, TX1, 11)) rfl rfl (List.mem_flatten.mpr ⟨_, List.mem_of_getElem? (i := 0) rfl, (bCourse_mem hw_112).choose_spec⟩) rfl rfl hl.1 dX1_does_133 (Nat.le_of_ble_eq_true rfl) (Nat.le_of_ble_eq_true rfl) (fun b1 H locs hw G => ?_)
        refine zEx2 hw ?_
        intro wc2_113 u6_114
        refine zCu2 ?_
        intro hbs9 h_115
        clear hw
        subst hbs9
        have G : zS T A s.heap s [wp2_100, wc2_113, z] _ _ := G
        refine lv_iload hx hb dX1_does_136 (lv_at hl 0 rfl) ?_
        have G := G.sub (bs' := [wc2_113, wp2_100, z]) [1, 0, 2] rfl
        exact z_back hQ9 (z_zret C hr hlocks G (Nat.le_of_ble_eq_true rfl) (Nat.le_of_ble_eq_true rfl) dX1_does_138 (by rcases h_108 with q | q <;> rw [q] <;> rfl) ⟨wc2_113, gw_91, u0_92, u1_93, (u2_94 + 1), u3_95, u4_96, u5_97, u6_114, u7_99, wp2_100, g1_101, g2_102, sa_103, wa_104, rfl, h_115, h_106, (by first | exact hP | exact hQt | assumption), h_108⟩)
    · refine lv_tableIn (tgt := 103) hx hb dX1_does_1 (by omega) (by omega) (by rw [c_1]; rfl) (by decide) ?_
      refine lv_aload_n hx hb dX1_does_103 rfl (lv_at hl 0 rfl) ?_
      refine lv_iload_n hx hb dX1_does_104 rfl (lv_at hl 2 rfl) ?_
      refine lv_iload_n hx hb dX1_does_105 rfl (lv_at hl 3 rfl) ?_
      refine z_Vi (bc := [wc, wp, z]) (br := []) (As := [.int x, .int y]) (rest := []) C G (c_Course_open l T h po la fw v0 v1 v2 v3 v4 v5 v6 v7 wc f1 f2 f3 st wh wp cr inn k1 k2 k3 k4 z x y hc hp hz hP) (kV_RX1_109 C.2.2.2.2 (Nat.le_of_ble_eq_true rfl) (Nat.le_of_ble_eq_true rfl)) [0, 1, 2] [0, 0, 0] rfl rfl (ci := 1) (qc := (RX1, TX1, 11)) rfl rfl (List.mem_flatten.mpr ⟨_, List.mem_of_getElem? (i := 0) rfl, (bCourse_mem hc).choose_spec⟩) rfl rfl hl.1 dX1_does_106 (Nat.le_of_ble_eq_true rfl) (Nat.le_of_ble_eq_true rfl) (fun r_136 b1 H locs hw G => ?_)
      refine zEx15 hw ?_
      intro wc2_117 gw_118 u0_119 u1_120 u2_121 u3_122 u4_123 u5_124 u6_125 u7_126 wp2_127 g1_128 g2_129 sa_130 wa_131
      refine zCu5 ?_
      intro hbs9 h_132 h_133 h_134 h_135
      clear hw
      subst hbs9
      have G : zS T A s.heap s [wc2_117, wp2_127, z] _ _ := G
      replace h_135 : zHd ((r_136 = 0 ∨ r_136 = 1)) := h_135
      refine lv_istore (lv' := [(4, .int r_136), (0, .ref h), (1, .int d), (2, .int x), (3, .int y)]) hx hb dX1_does_109 hl (by decide) rfl (fun ls hl => ?_)
      refine lv_goto (tgt := 117) hx hb dX1_does_111 (by decide) ?_
      refine lv_iload hx hb dX1_does_117 (lv_at hl 0 rfl) ?_
      refine lv_if_eq (tgt := 136) hx hb dX1_does_119 (by decide) (fun c_137 => ?_) (fun c_137 => ?_)
      · have c_137n : r_136.toInt = (0 : Int) := (fa_eq _ _).mp c_137
        refine lv_iload hx hb dX1_does_136 (lv_at hl 0 rfl) ?_
        exact z_back hQ9 (z_zret C hr hlocks G (Nat.le_of_ble_eq_true rfl) (Nat.le_of_ble_eq_true rfl) dX1_does_138 (by rcases h_135 with q | q <;> rw [q] <;> rfl) ⟨wc2_117, gw_118, u0_119, u1_120, u2_121, u3_122, u4_123, u5_124, u6_125, u7_126, wp2_127, g1_128, g2_129, sa_130, wa_131, rfl, h_132, h_133, (by first | exact hP | exact hQt | assumption), h_135⟩)
      · have c_137n : ¬ r_136.toInt = (0 : Int) := fun q => c_137 ((fa_eq _ _).mpr q)
        refine lv_aload_n hx hb dX1_does_122 rfl (lv_at hl 1 rfl) ?_
        refine lv_dup hx hb dX1_does_123 rfl ?_
        refine zEx1 h_132 ?_
        intro a1_138 hbs9
        clear h_132
        subst hbs9
        have G : zS T A s.heap s [[zO1 h po a1_138 u0_119 la u1_120 u2_121 u3_122 u4_123 u5_124 u6_125 u7_126], [zAr T 0 a1_138 7 gw_118], wp2_127, z] _ _ := G.re rfl
        refine z_get C G clX1 0 rfl 5 (by decide) m_fl_RX1_41 rfl dX1_does_124 ?_
        refine lv_iconst (v := 1) hx hb dX1_does_127 (by decide) ?_
        refine lv_iadd hx hb dX1_does_128 ?_
        refine z_put C G clX1 0 rfl 5 (by decide) m_fl_RX1_41 rfl rfl rfl (Nat.le_of_ble_eq_true rfl) dX1_does_129 (fun H locs G => ?_)
        have G : zS T A s.heap s [[zO1 h po a1_138 u0_119 la u1_120 (u2_121 + 1) u3_122 u4_123 u5_124 u6_125 u7_126], [zAr T 0 a1_138 7 gw_118], wp2_127, z] _ _ := G
        refine lv_aload_n hx hb dX1_does_132 rfl (lv_at hl 1 rfl) ?_
        have hw_139 : bCourse T h po la gw_118 u0_119 u1_120 (u2_121 + 1) u3_122 u4_123 u5_124 u6_125 u7_126 [zO1 h po a1_138 u0_119 la u1_120 (u2_121 + 1) u3_122 u4_123 u5_124 u6_125 u7_126, zAr T 0 a1_138 7 gw_118] := ⟨a1_138, rfl⟩
        have G : zS T A s.heap s [[zO1 h po a1_138 u0_119 la u1_120 (u2_121 + 1) u3_122 u4_123 u5_124 u6_125 u7_126, zAr T 0 a1_138 7 gw_118], wp2_127, z] _ _ := G.re rfl
        refine z_Vv (bc := [[zO1 h po a1_138 u0_119 la u1_120 (u2_121 + 1) u3_122 u4_123 u5_124 u6_125 u7_126, zAr T 0 a1_138 7 gw_118], z]) (br := [wp2_127]) (As := []) (rest := []) C G (c_lookAtCrowd l T h po la gw_118 u0_119 u1_120 (u2_121 + 1) u3_122 u4_123 u5_124 u6_125 u7_126 ([zO1 h po a1_138 u0_119 la u1_120 (u2_121 + 1) u3_122 u4_123 u5_124 u6_125 u7_126, zAr T 0 a1_138 7 gw_118]) cr inn k1 k2 k3 k4 z hw_139 hz (by first | with_reducible assumption | with_reducible rfl | omega | assumption | rfl)) (kV_RX1_56 C.2.2.2.2 (Nat.le_of_ble_eq_true rfl) (Nat.le_of_ble_eq_true rfl)) [0, 2] [0, 1] rfl rfl (ci := 1) (qc := (RX1, TX1, 11)) rfl rfl (List.mem_flatten.mpr ⟨_, List.mem_of_getElem? (i := 0) rfl, (bCourse_mem hw_139).choose_spec⟩) rfl rfl hl.1 dX1_does_133 (Nat.le_of_ble_eq_true rfl) (Nat.le_of_ble_eq_true rfl) (fun b1 H locs hw G => ?_)
        refine zEx2 hw ?_
        intro wc2_140 u6_141
        refine zCu2 ?_
        intro hbs9 h_142
        clear hw
        subst hbs9
        have G : zS T A s.heap s [wp2_127, wc2_140, z] _ _ := G
        refine lv_iload hx hb dX1_does_136 (lv_at hl 0 rfl) ?_
        have G := G.sub (bs' := [wc2_140, wp2_127, z]) [1, 0, 2] rfl
        exact z_back hQ9 (z_zret C hr hlocks G (Nat.le_of_ble_eq_true rfl) (Nat.le_of_ble_eq_true rfl) dX1_does_138 (by rcases h_135 with q | q <;> rw [q] <;> rfl) ⟨wc2_140, gw_118, u0_119, u1_120, (u2_121 + 1), u3_122, u4_123, u5_124, u6_141, u7_126, wp2_127, g1_128, g2_129, sa_130, wa_131, rfl, h_142, h_133, (by first | exact hP | exact hQt | assumption), h_135⟩)
set_option maxHeartbeats 4000000 in
set_option maxRecDepth 100000 in
/-- goThrough -/
theorem c_goThrough (l : Launch) (T : zTy) (h : Nat) (po : Nat) (la : Nat) (fw : Nat → Int32) (v0 : Int32) (v1 : Int32) (v2 : Int32) (v3 : Int32) (v4 : Int32) (v5 : Int32) (v6 : Int32) (v7 : Int32) (wc : va_W) (lp : Nat) (f1 : Nat → Int32) (f2 : Nat → Int32) (f3 : Nat → Int32) (st : Int32) (wh : Int32) (wp : va_W) (o : Nat) (cr : Int32) (inn : Int32) (k1 : Nat → Int32) (k2 : Nat → Int32) (k3 : Nat → Int32) (k4 : Nat → Int32) (z : va_W) (dy : Nat) (dd : Int32) (d1 : Nat → Int32) (d2 : Nat → Int32) (d3 : Nat → Int32) (wd : va_W) (n : Int32) (hc : bCourse T h po la fw v0 v1 v2 v3 v4 v5 v6 v7 wc) (hp : bPosts T po lp f1 f2 f3 st wh wp) (hz : bLand T o cr inn k1 k2 k3 k4 z) (hI : zLI cr k1 k3) (hd : bDay T dy dd d1 d2 d3 wd) : zMi l T yX1_goThrough cX1_goThrough 5 (some .int) 7 0 0 [.ref h, .ref o, .ref dy, .int n] [wc, wp, z, wd] (fun (r : Int32) bs => ∃ (wc2 : va_W) (gw : Nat → Int32) (u0 : Int32) (u1 : Int32) (u2 : Int32) (u3 : Int32) (u4 : Int32) (u5 : Int32) (u6 : Int32) (u7 : Int32) (wp2 : va_W) (g1 : Nat → Int32) (g2 : Nat → Int32) (g3 : Nat → Int32) (sa : Int32) (wa : Int32), bs = [wc2, wp2, z, wd] ∧ bCourse T h po o gw u0 u1 u2 u3 u4 u5 u6 u7 wc2 ∧ bPosts T po o g1 g2 g3 sa wa wp2 ∧ zP3 g1 g3) := by
  refine zMi_of (own := RX1) (by decide) rfl (Nat.le_of_ble_eq_true rfl) ?_
  intro p e s m args below meth c A ls C hr hlocks hnm hAe G hl
  refine zHide (fun Q9 hQ9 => ?_)
  have hx := C.1
  have hb := C.2.1
  have hl : lv_has ls 5 [(0, .ref h), (1, .ref o), (2, .ref dy), (3, .int n)] := hl
  refine lv_aload_n hx hb dX1_goThrough_0 rfl (lv_at hl 0 rfl) ?_
  refine lv_aload_n hx hb dX1_goThrough_1 rfl (lv_at hl 1 rfl) ?_
  refine z_Vv (bc := [wc, wp, z]) (br := [wd]) (As := [.ref o]) (rest := []) C G (c_Course_begin l T h po la fw v0 v1 v2 v3 v4 v5 v6 v7 wc lp f1 f2 f3 st wh wp o cr inn k1 k2 k3 k4 z hc hp hz (by first | with_reducible assumption | with_reducible rfl | omega | assumption | rfl)) (kV_RX1_59 C.2.2.2.2 (Nat.le_of_ble_eq_true rfl) (Nat.le_of_ble_eq_true rfl)) [0, 1, 2] [0, 0, 0] rfl rfl (ci := 1) (qc := (RX1, TX1, 11)) rfl rfl (List.mem_flatten.mpr ⟨_, List.mem_of_getElem? (i := 0) rfl, (bCourse_mem hc).choose_spec⟩) rfl rfl hl.1 dX1_goThrough_2 (Nat.le_of_ble_eq_true rfl) (Nat.le_of_ble_eq_true rfl) (fun b1 H locs hw G => ?_)
  refine zEx7 hw ?_
  intro wc2_1 gw_2 u6_3 wp2_4 g1_5 g2_6 g3_7
  refine zCu8 ?_
  intro hbs9 h_8 h_9 h_10 h_11 h_12 h_13 h_14
  clear hw
  subst hbs9
  have G : zS T A s.heap s [wd, wc2_1, wp2_4, z] _ _ := G
  have hQ : zP3 g1_5 g3_7 := h_11
  refine lv_iconst (v := 0) hx hb dX1_goThrough_5 (by decide) ?_
  refine lv_istore (lv' := [(4, .int 0), (0, .ref h), (1, .ref o), (2, .ref dy), (3, .int n)]) hx hb dX1_goThrough_6 hl (by decide) rfl (fun ls hl => ?_)
  refine zEx1 h_8 ?_
  intro a1_16 hbs9
  clear h_8
  subst hbs9
  have G : zS T A s.heap s [wd, [zO1 h po a1_16 0 o 0 0 (-1) 0 0 u6_3 v7], [zAr T 0 a1_16 7 gw_2], wp2_4, z] _ _ := G.re rfl
  refine zEx3 h_9 ?_
  intro a1_17 a2_18 a3_19 hbs9
  clear h_9
  subst hbs9
  have G : zS T A s.heap s [wd, [zO1 h po a1_16 0 o 0 0 (-1) 0 0 u6_3 v7], [zAr T 0 a1_16 7 gw_2], [zO6 po o a1_17 a2_18 0 0 a3_19], [zAr T 0 a1_17 7 g1_5], [zAr T 0 a2_18 7 g2_6], [zAr T 0 a3_19 7 g3_7], z] _ _ := G.re rfl
  refine zEx4 hz ?_
  intro a1_20 a2_21 a3_22 a4_23 hbs9
  clear hz
  subst hbs9
  have G : zS T A s.heap s [wd, [zO1 h po a1_16 0 o 0 0 (-1) 0 0 u6_3 v7], [zAr T 0 a1_16 7 gw_2], [zO6 po o a1_17 a2_18 0 0 a3_19], [zAr T 0 a1_17 7 g1_5], [zAr T 0 a2_18 7 g2_6], [zAr T 0 a3_19 7 g3_7], [zO4 o cr inn a1_20 a2_21 a3_22 a4_23], [zAr T 0 a1_20 7 k1], [zAr T 0 a2_21 28 k2], [zAr T 0 a3_22 7 k3], [zAr T 0 a4_23 7 k4]] _ _ := G.re rfl
  refine zEx3 hd ?_
  intro a1_24 a2_25 a3_26 hbs9
  clear hd
  subst hbs9
  have G : zS T A s.heap s [[(dy, .inr (2, [.int dd, .ref a1_24, .ref a2_25, .ref a3_26]))], [zAr T 0 a1_24 40 d1], [zAr T 0 a2_25 40 d2], [zAr T 0 a3_26 40 d3], [zO1 h po a1_16 0 o 0 0 (-1) 0 0 u6_3 v7], [zAr T 0 a1_16 7 gw_2], [zO6 po o a1_17 a2_18 0 0 a3_19], [zAr T 0 a1_17 7 g1_5], [zAr T 0 a2_18 7 g2_6], [zAr T 0 a3_19 7 g3_7], [zO4 o cr inn a1_20 a2_21 a3_22 a4_23], [zAr T 0 a1_20 7 k1], [zAr T 0 a2_21 28 k2], [zAr T 0 a3_22 7 k3], [zAr T 0 a4_23 7 k4]] _ _ := G.re rfl
  have hw_27 : bCourse T h po o gw_2 0 0 0 (-1) 0 0 u6_3 v7 [zO1 h po a1_16 0 o 0 0 (-1) 0 0 u6_3 v7, zAr T 0 a1_16 7 gw_2] := ⟨a1_16, rfl⟩
  have G : zS T A s.heap s [[(dy, .inr (2, [.int dd, .ref a1_24, .ref a2_25, .ref a3_26]))], [zAr T 0 a1_24 40 d1], [zAr T 0 a2_25 40 d2], [zAr T 0 a3_26 40 d3], [zO1 h po a1_16 0 o 0 0 (-1) 0 0 u6_3 v7, zAr T 0 a1_16 7 gw_2], [zO6 po o a1_17 a2_18 0 0 a3_19], [zAr T 0 a1_17 7 g1_5], [zAr T 0 a2_18 7 g2_6], [zAr T 0 a3_19 7 g3_7], [zO4 o cr inn a1_20 a2_21 a3_22 a4_23], [zAr T 0 a1_20 7 k1], [zAr T 0 a2_21 28 k2], [zAr T 0 a3_22 7 k3], [zAr T 0 a4_23 7 k4]] _ _ := G.re rfl
  have hw_28 : bPosts T po o g1_5 g2_6 g3_7 0 0 [zO6 po o a1_17 a2_18 0 0 a3_19, zAr T 0 a1_17 7 g1_5, zAr T 0 a2_18 7 g2_6, zAr T 0 a3_19 7 g3_7] := ⟨a1_17, a2_18, a3_19, rfl⟩
  have G : zS T A s.heap s [[(dy, .inr (2, [.int dd, .ref a1_24, .ref a2_25, .ref a3_26]))], [zAr T 0 a1_24 40 d1], [zAr T 0 a2_25 40 d2], [zAr T 0 a3_26 40 d3], [zO1 h po a1_16 0 o 0 0 (-1) 0 0 u6_3 v7, zAr T 0 a1_16 7 gw_2], [zO6 po o a1_17 a2_18 0 0 a3_19, zAr T 0 a1_17 7 g1_5, zAr T 0 a2_18 7 g2_6, zAr T 0 a3_19 7 g3_7], [zO4 o cr inn a1_20 a2_21 a3_22 a4_23], [zAr T 0 a1_20 7 k1], [zAr T 0 a2_21 28 k2], [zAr T 0 a3_22 7 k3], [zAr T 0 a4_23 7 k4]] _ _ := G.re rfl
  have hw_29 : bLand T o cr inn k1 k2 k3 k4 [zO4 o cr inn a1_20 a2_21 a3_22 a4_23, zAr T 0 a1_20 7 k1, zAr T 0 a2_21 28 k2, zAr T 0 a3_22 7 k3, zAr T 0 a4_23 7 k4] := ⟨a1_20, a2_21, a3_22, a4_23, rfl⟩
  have G : zS T A s.heap s [[(dy, .inr (2, [.int dd, .ref a1_24, .ref a2_25, .ref a3_26]))], [zAr T 0 a1_24 40 d1], [zAr T 0 a2_25 40 d2], [zAr T 0 a3_26 40 d3], [zO1 h po a1_16 0 o 0 0 (-1) 0 0 u6_3 v7, zAr T 0 a1_16 7 gw_2], [zO6 po o a1_17 a2_18 0 0 a3_19, zAr T 0 a1_17 7 g1_5, zAr T 0 a2_18 7 g2_6, zAr T 0 a3_19 7 g3_7], [zO4 o cr inn a1_20 a2_21 a3_22 a4_23, zAr T 0 a1_20 7 k1, zAr T 0 a2_21 28 k2, zAr T 0 a3_22 7 k3, zAr T 0 a4_23 7 k4]] _ _ := G.re rfl
  have hw_30 : bDay T dy dd d1 d2 d3 [(dy, .inr (2, [.int dd, .ref a1_24, .ref a2_25, .ref a3_26])), zAr T 0 a1_24 40 d1, zAr T 0 a2_25 40 d2, zAr T 0 a3_26 40 d3] := ⟨a1_24, a2_25, a3_26, rfl⟩
  have G : zS T A s.heap s [[(dy, .inr (2, [.int dd, .ref a1_24, .ref a2_25, .ref a3_26])), zAr T 0 a1_24 40 d1, zAr T 0 a2_25 40 d2, zAr T 0 a3_26 40 d3], [zO1 h po a1_16 0 o 0 0 (-1) 0 0 u6_3 v7, zAr T 0 a1_16 7 gw_2], [zO6 po o a1_17 a2_18 0 0 a3_19, zAr T 0 a1_17 7 g1_5, zAr T 0 a2_18 7 g2_6, zAr T 0 a3_19 7 g3_7], [zO4 o cr inn a1_20 a2_21 a3_22 a4_23, zAr T 0 a1_20 7 k1, zAr T 0 a2_21 28 k2, zAr T 0 a3_22 7 k3, zAr T 0 a4_23 7 k4]] _ _ := G.re rfl
  refine z_lp16 (T := T) 8 (fun (i : Nat) (wc3 : va_W) (xw : Nat → Int32) (y0 : Int32) (y1 : Int32) (y2 : Int32) (y3 : Int32) (y4 : Int32) (y5 : Int32) (y6 : Int32) (y7 : Int32) (wp3 : va_W) (x1 : Nat → Int32) (x2 : Nat → Int32) (sb : Int32) (wb : Int32) => [[(dy, .inr (2, [.int dd, .ref a1_24, .ref a2_25, .ref a3_26])), zAr T 0 a1_24 40 d1, zAr T 0 a2_25 40 d2, zAr T 0 a3_26 40 d3], wc3, wp3, [zO4 o cr inn a1_20 a2_21 a3_22 a4_23, zAr T 0 a1_20 7 k1, zAr T 0 a2_21 28 k2, zAr T 0 a3_22 7 k3, zAr T 0 a4_23 7 k4]]) (fun (i : Nat) (wc3 : va_W) (xw : Nat → Int32) (y0 : Int32) (y1 : Int32) (y2 : Int32) (y3 : Int32) (y4 : Int32) (y5 : Int32) (y6 : Int32) (y7 : Int32) (wp3 : va_W) (x1 : Nat → Int32) (x2 : Nat → Int32) (sb : Int32) (wb : Int32) => [(4, .int (nI i)), (0, .ref h), (1, .ref o), (2, .ref dy), (3, .int n)]) (fun (i : Nat) (wc3 : va_W) (xw : Nat → Int32) (y0 : Int32) (y1 : Int32) (y2 : Int32) (y3 : Int32) (y4 : Int32) (y5 : Int32) (y6 : Int32) (y7 : Int32) (wp3 : va_W) (x1 : Nat → Int32) (x2 : Nat → Int32) (sb : Int32) (wb : Int32) => bCourse T h po o xw y0 y1 y2 y3 y4 y5 y6 y7 wc3 ∧ bPosts T po o x1 x2 g3_7 sb wb wp3 ∧ i ≤ 40 ∧ zP3 x1 g3_7) (fun (i : Nat) (wc3 : va_W) (xw : Nat → Int32) (y0 : Int32) (y1 : Int32) (y2 : Int32) (y3 : Int32) (y4 : Int32) (y5 : Int32) (y6 : Int32) (y7 : Int32) (wp3 : va_W) (x1 : Nat → Int32) (x2 : Nat → Int32) (sb : Int32) (wb : Int32) => 40 - i) ?_ 0 ([zO1 h po a1_16 0 o 0 0 (-1) 0 0 u6_3 v7, zAr T 0 a1_16 7 gw_2]) gw_2 0 0 0 (-1) 0 0 u6_3 v7 ([zO6 po o a1_17 a2_18 0 0 a3_19, zAr T 0 a1_17 7 g1_5, zAr T 0 a2_18 7 g2_6, zAr T 0 a3_19 7 g3_7]) g1_5 g2_6 0 0 (show bCourse T h po o gw_2 0 0 0 (-1) 0 0 u6_3 v7 ([zO1 h po a1_16 0 o 0 0 (-1) 0 0 u6_3 v7, zAr T 0 a1_16 7 gw_2]) ∧ bPosts T po o g1_5 g2_6 g3_7 0 0 ([zO6 po o a1_17 a2_18 0 0 a3_19, zAr T 0 a1_17 7 g1_5, zAr T 0 a2_18 7 g2_6, zAr T 0 a3_19 7 g3_7]) ∧ 0 ≤ 40 ∧ zP3 g1_5 g3_7 from ⟨hw_27, hw_28, by omega, hQ⟩) G (lv_sub hl [0, 1, 2, 3, 4] rfl)
  intro i wc3 xw y0 y1 y2 y3 y4 y5 y6 y7 wp3 x1 x2 sb wb hI9 ih_8 H locs ls G hl
  replace hI9 : bCourse T h po o xw y0 y1 y2 y3 y4 y5 y6 y7 wc3 ∧ bPosts T po o x1 x2 g3_7 sb wb wp3 ∧ i ≤ 40 ∧ zP3 x1 g3_7 := hI9
  refine zAn4 hI9 ?_
  intro hc3 hp3 hi hQx
  clear hI9
  replace G : zS T A s.heap s [[(dy, .inr (2, [.int dd, .ref a1_24, .ref a2_25, .ref a3_26])), zAr T 0 a1_24 40 d1, zAr T 0 a2_25 40 d2, zAr T 0 a3_26 40 d3], wc3, wp3, [zO4 o cr inn a1_20 a2_21 a3_22 a4_23, zAr T 0 a1_20 7 k1, zAr T 0 a2_21 28 k2, zAr T 0 a3_22 7 k3, zAr T 0 a4_23 7 k4]] _ _ := G
  replace hl : lv_has ls 5 [(4, .int (nI i)), (0, .ref h), (1, .ref o), (2, .ref dy), (3, .int n)] := hl
  refine lv_iload hx hb dX1_goThrough_8 (lv_at hl 0 rfl) ?_
  refine lv_iload_n hx hb dX1_goThrough_10 rfl (lv_at hl 4 rfl) ?_
  refine lv_icmp_ge (tgt := 69) hx hb dX1_goThrough_11 (by decide) (fun c_31 => ?_) (fun c_31 => ?_)
  · have c_31n : n.toInt ≤ (i : Int) := by have q := (fa_le _ _).mp c_31; rw [nI_toInt (n := i) (by omega)] at q; exact q
    refine lv_aload_n hx hb dX1_goThrough_69 rfl (lv_at hl 1 rfl) ?_
    refine zEx1 hc3 ?_
    intro a1_32 hbs9
    clear hc3
    subst hbs9
    have G : zS T A s.heap s [[(dy, .inr (2, [.int dd, .ref a1_24, .ref a2_25, .ref a3_26])), zAr T 0 a1_24 40 d1, zAr T 0 a2_25 40 d2, zAr T 0 a3_26 40 d3], [zO1 h po a1_32 y0 o y1 y2 y3 y4 y5 y6 y7], [zAr T 0 a1_32 7 xw], wp3, [zO4 o cr inn a1_20 a2_21 a3_22 a4_23, zAr T 0 a1_20 7 k1, zAr T 0 a2_21 28 k2, zAr T 0 a3_22 7 k3, zAr T 0 a4_23 7 k4]] _ _ := G.re rfl
    refine z_get C G clX1 1 rfl 5 (by decide) m_fl_RX1_41 rfl dX1_goThrough_70 ?_
    have hw_33 : bCourse T h po o xw y0 y1 y2 y3 y4 y5 y6 y7 [zO1 h po a1_32 y0 o y1 y2 y3 y4 y5 y6 y7, zAr T 0 a1_32 7 xw] := ⟨a1_32, rfl⟩
    have G : zS T A s.heap s [[(dy, .inr (2, [.int dd, .ref a1_24, .ref a2_25, .ref a3_26])), zAr T 0 a1_24 40 d1, zAr T 0 a2_25 40 d2, zAr T 0 a3_26 40 d3], [zO1 h po a1_32 y0 o y1 y2 y3 y4 y5 y6 y7, zAr T 0 a1_32 7 xw], wp3, [zO4 o cr inn a1_20 a2_21 a3_22 a4_23, zAr T 0 a1_20 7 k1, zAr T 0 a2_21 28 k2, zAr T 0 a3_22 7 k3, zAr T 0 a4_23 7 k4]] _ _ := G.re rfl
    have G := G.sub (bs' := [[zO1 h po a1_32 y0 o y1 y2 y3 y4 y5 y6 y7, zAr T 0 a1_32 7 xw], wp3, [zO4 o cr inn a1_20 a2_21 a3_22 a4_23, zAr T 0 a1_20 7 k1, zAr T 0 a2_21 28 k2, zAr T 0 a3_22 7 k3, zAr T 0 a4_23 7 k4], [(dy, .inr (2, [.int dd, .ref a1_24, .ref a2_25, .ref a3_26])), zAr T 0 a1_24 40 d1, zAr T 0 a2_25 40 d2, zAr T 0 a3_26 40 d3]]) [1, 2, 3, 0] rfl
    exact z_back hQ9 (z_iret C hr hlocks G (Nat.le_of_ble_eq_true rfl) (Nat.le_of_ble_eq_true rfl) dX1_goThrough_73 ⟨([zO1 h po a1_32 y0 o y1 y2 y3 y4 y5 y6 y7, zAr T 0 a1_32 7 xw]), xw, y0, y1, y2, y3, y4, y5, y6, y7, wp3, x1, x2, g3_7, sb, wb, rfl, hw_33, hp3, hQx⟩)
  · have c_31n : ¬ n.toInt ≤ (i : Int) := fun q => c_31 ((fa_le _ _).mpr (by rw [nI_toInt (n := i) (by omega)]; exact q))
    refine lv_iload hx hb dX1_goThrough_14 (lv_at hl 0 rfl) ?_
    refine lv_aload_n hx hb dX1_goThrough_16 rfl (lv_at hl 3 rfl) ?_
    have G : zS T A s.heap s [[(dy, .inr (2, [.int dd, .ref a1_24, .ref a2_25, .ref a3_26]))], [zAr T 0 a1_24 40 d1], [zAr T 0 a2_25 40 d2], [zAr T 0 a3_26 40 d3], wc3, wp3, [zO4 o cr inn a1_20 a2_21 a3_22 a4_23, zAr T 0 a1_20 7 k1, zAr T 0 a2_21 28 k2, zAr T 0 a3_22 7 k3, zAr T 0 a4_23 7 k4]] _ _ := G.re rfl
    refine z_get C G clX2 0 rfl 0 (by decide) m_fl_RX1_60 rfl dX1_goThrough_17 ?_
    refine lv_icmp_ge (tgt := 69) hx hb dX1_goThrough_20 (by decide) (fun c_34 => ?_) (fun c_34 => ?_)
    · have c_34n : dd.toInt ≤ (i : Int) := by have q := (fa_le _ _).mp c_34; rw [nI_toInt (n := i) (by omega)] at q; exact q
      refine lv_aload_n hx hb dX1_goThrough_69 rfl (lv_at hl 1 rfl) ?_
      refine zEx1 hc3 ?_
      intro a1_35 hbs9
      clear hc3
      subst hbs9
      have G : zS T A s.heap s [[(dy, .inr (2, [.int dd, .ref a1_24, .ref a2_25, .ref a3_26]))], [zAr T 0 a1_24 40 d1], [zAr T 0 a2_25 40 d2], [zAr T 0 a3_26 40 d3], [zO1 h po a1_35 y0 o y1 y2 y3 y4 y5 y6 y7], [zAr T 0 a1_35 7 xw], wp3, [zO4 o cr inn a1_20 a2_21 a3_22 a4_23, zAr T 0 a1_20 7 k1, zAr T 0 a2_21 28 k2, zAr T 0 a3_22 7 k3, zAr T 0 a4_23 7 k4]] _ _ := G.re rfl
      refine z_get C G clX1 4 rfl 5 (by decide) m_fl_RX1_41 rfl dX1_goThrough_70 ?_
      have hw_36 : bCourse T h po o xw y0 y1 y2 y3 y4 y5 y6 y7 [zO1 h po a1_35 y0 o y1 y2 y3 y4 y5 y6 y7, zAr T 0 a1_35 7 xw] := ⟨a1_35, rfl⟩
      have G : zS T A s.heap s [[(dy, .inr (2, [.int dd, .ref a1_24, .ref a2_25, .ref a3_26]))], [zAr T 0 a1_24 40 d1], [zAr T 0 a2_25 40 d2], [zAr T 0 a3_26 40 d3], [zO1 h po a1_35 y0 o y1 y2 y3 y4 y5 y6 y7, zAr T 0 a1_35 7 xw], wp3, [zO4 o cr inn a1_20 a2_21 a3_22 a4_23, zAr T 0 a1_20 7 k1, zAr T 0 a2_21 28 k2, zAr T 0 a3_22 7 k3, zAr T 0 a4_23 7 k4]] _ _ := G.re rfl
      have hw_37 : bDay T dy dd d1 d2 d3 [(dy, .inr (2, [.int dd, .ref a1_24, .ref a2_25, .ref a3_26])), zAr T 0 a1_24 40 d1, zAr T 0 a2_25 40 d2, zAr T 0 a3_26 40 d3] := ⟨a1_24, a2_25, a3_26, rfl⟩
      have G : zS T A s.heap s [[(dy, .inr (2, [.int dd, .ref a1_24, .ref a2_25, .ref a3_26])), zAr T 0 a1_24 40 d1, zAr T 0 a2_25 40 d2, zAr T 0 a3_26 40 d3], [zO1 h po a1_35 y0 o y1 y2 y3 y4 y5 y6 y7, zAr T 0 a1_35 7 xw], wp3, [zO4 o cr inn a1_20 a2_21 a3_22 a4_23, zAr T 0 a1_20 7 k1, zAr T 0 a2_21 28 k2, zAr T 0 a3_22 7 k3, zAr T 0 a4_23 7 k4]] _ _ := G.re rfl
      have G := G.sub (bs' := [[zO1 h po a1_35 y0 o y1 y2 y3 y4 y5 y6 y7, zAr T 0 a1_35 7 xw], wp3, [zO4 o cr inn a1_20 a2_21 a3_22 a4_23, zAr T 0 a1_20 7 k1, zAr T 0 a2_21 28 k2, zAr T 0 a3_22 7 k3, zAr T 0 a4_23 7 k4], [(dy, .inr (2, [.int dd, .ref a1_24, .ref a2_25, .ref a3_26])), zAr T 0 a1_24 40 d1, zAr T 0 a2_25 40 d2, zAr T 0 a3_26 40 d3]]) [1, 2, 3, 0] rfl
      exact z_back hQ9 (z_iret C hr hlocks G (Nat.le_of_ble_eq_true rfl) (Nat.le_of_ble_eq_true rfl) dX1_goThrough_73 ⟨([zO1 h po a1_35 y0 o y1 y2 y3 y4 y5 y6 y7, zAr T 0 a1_35 7 xw]), xw, y0, y1, y2, y3, y4, y5, y6, y7, wp3, x1, x2, g3_7, sb, wb, rfl, hw_36, hp3, hQx⟩)
    · have c_34n : ¬ dd.toInt ≤ (i : Int) := fun q => c_34 ((fa_le _ _).mpr (by rw [nI_toInt (n := i) (by omega)]; exact q))
      refine lv_iload hx hb dX1_goThrough_23 (lv_at hl 0 rfl) ?_
      refine lv_bipush (v := 40) hx hb dX1_goThrough_25 (by decide) ?_
      refine lv_icmp_ge (tgt := 69) hx hb dX1_goThrough_27 (by decide) (fun c_38 => ?_) (fun c_38 => ?_)
      · have c_38n : 40 ≤ i := (nI_leI (a := 40) (b := i) (by omega) (by omega)).mp c_38
        refine lv_aload_n hx hb dX1_goThrough_69 rfl (lv_at hl 1 rfl) ?_
        refine zEx1 hc3 ?_
        intro a1_39 hbs9
        clear hc3
        subst hbs9
        have G : zS T A s.heap s [[(dy, .inr (2, [.int dd, .ref a1_24, .ref a2_25, .ref a3_26]))], [zAr T 0 a1_24 40 d1], [zAr T 0 a2_25 40 d2], [zAr T 0 a3_26 40 d3], [zO1 h po a1_39 y0 o y1 y2 y3 y4 y5 y6 y7], [zAr T 0 a1_39 7 xw], wp3, [zO4 o cr inn a1_20 a2_21 a3_22 a4_23, zAr T 0 a1_20 7 k1, zAr T 0 a2_21 28 k2, zAr T 0 a3_22 7 k3, zAr T 0 a4_23 7 k4]] _ _ := G.re rfl
        refine z_get C G clX1 4 rfl 5 (by decide) m_fl_RX1_41 rfl dX1_goThrough_70 ?_
        have hw_40 : bCourse T h po o xw y0 y1 y2 y3 y4 y5 y6 y7 [zO1 h po a1_39 y0 o y1 y2 y3 y4 y5 y6 y7, zAr T 0 a1_39 7 xw] := ⟨a1_39, rfl⟩
        have G : zS T A s.heap s [[(dy, .inr (2, [.int dd, .ref a1_24, .ref a2_25, .ref a3_26]))], [zAr T 0 a1_24 40 d1], [zAr T 0 a2_25 40 d2], [zAr T 0 a3_26 40 d3], [zO1 h po a1_39 y0 o y1 y2 y3 y4 y5 y6 y7, zAr T 0 a1_39 7 xw], wp3, [zO4 o cr inn a1_20 a2_21 a3_22 a4_23, zAr T 0 a1_20 7 k1, zAr T 0 a2_21 28 k2, zAr T 0 a3_22 7 k3, zAr T 0 a4_23 7 k4]] _ _ := G.re rfl
        have hw_41 : bDay T dy dd d1 d2 d3 [(dy, .inr (2, [.int dd, .ref a1_24, .ref a2_25, .ref a3_26])), zAr T 0 a1_24 40 d1, zAr T 0 a2_25 40 d2, zAr T 0 a3_26 40 d3] := ⟨a1_24, a2_25, a3_26, rfl⟩
        have G : zS T A s.heap s [[(dy, .inr (2, [.int dd, .ref a1_24, .ref a2_25, .ref a3_26])), zAr T 0 a1_24 40 d1, zAr T 0 a2_25 40 d2, zAr T 0 a3_26 40 d3], [zO1 h po a1_39 y0 o y1 y2 y3 y4 y5 y6 y7, zAr T 0 a1_39 7 xw], wp3, [zO4 o cr inn a1_20 a2_21 a3_22 a4_23, zAr T 0 a1_20 7 k1, zAr T 0 a2_21 28 k2, zAr T 0 a3_22 7 k3, zAr T 0 a4_23 7 k4]] _ _ := G.re rfl
        have G := G.sub (bs' := [[zO1 h po a1_39 y0 o y1 y2 y3 y4 y5 y6 y7, zAr T 0 a1_39 7 xw], wp3, [zO4 o cr inn a1_20 a2_21 a3_22 a4_23, zAr T 0 a1_20 7 k1, zAr T 0 a2_21 28 k2, zAr T 0 a3_22 7 k3, zAr T 0 a4_23 7 k4], [(dy, .inr (2, [.int dd, .ref a1_24, .ref a2_25, .ref a3_26])), zAr T 0 a1_24 40 d1, zAr T 0 a2_25 40 d2, zAr T 0 a3_26 40 d3]]) [1, 2, 3, 0] rfl
        exact z_back hQ9 (z_iret C hr hlocks G (Nat.le_of_ble_eq_true rfl) (Nat.le_of_ble_eq_true rfl) dX1_goThrough_73 ⟨([zO1 h po a1_39 y0 o y1 y2 y3 y4 y5 y6 y7, zAr T 0 a1_39 7 xw]), xw, y0, y1, y2, y3, y4, y5, y6, y7, wp3, x1, x2, g3_7, sb, wb, rfl, hw_40, hp3, hQx⟩)
      · have c_38n : ¬ 40 ≤ i := fun q => c_38 ((nI_leI (a := 40) (b := i) (by omega) (by omega)).mpr q)
        refine lv_aload_n hx hb dX1_goThrough_30 rfl (lv_at hl 1 rfl) ?_
        refine lv_aload_n hx hb dX1_goThrough_31 rfl (lv_at hl 3 rfl) ?_
        refine z_get C G clX2 0 rfl 1 (by decide) m_fl_RX1_65 rfl dX1_goThrough_32 ?_
        refine lv_iload hx hb dX1_goThrough_35 (lv_at hl 0 rfl) ?_
        refine z_ild C G 1 rfl (vp_in_nI (by omega) (by omega)) dX1_goThrough_37 ?_
        refine lv_topi (fun v_42 ev_42 => ?_)
        rw [nI_clamp (by omega)] at ev_42
        subst ev_42
        refine lv_aload_n hx hb dX1_goThrough_38 rfl (lv_at hl 3 rfl) ?_
        refine z_get C G clX2 0 rfl 2 (by decide) m_fl_RX1_68 rfl dX1_goThrough_39 ?_
        refine lv_iload hx hb dX1_goThrough_42 (lv_at hl 0 rfl) ?_
        refine z_ild C G 2 rfl (vp_in_nI (by omega) (by omega)) dX1_goThrough_44 ?_
        refine lv_topi (fun v_43 ev_43 => ?_)
        rw [nI_clamp (by omega)] at ev_43
        subst ev_43
        refine lv_aload_n hx hb dX1_goThrough_45 rfl (lv_at hl 3 rfl) ?_
        refine z_get C G clX2 0 rfl 3 (by decide) m_fl_RX1_71 rfl dX1_goThrough_46 ?_
        refine lv_iload hx hb dX1_goThrough_49 (lv_at hl 0 rfl) ?_
        refine z_ild C G 3 rfl (vp_in_nI (by omega) (by omega)) dX1_goThrough_51 ?_
        refine lv_topi (fun v_44 ev_44 => ?_)
        rw [nI_clamp (by omega)] at ev_44
        subst ev_44
        refine z_Vi (bc := [wc3, wp3, [zO4 o cr inn a1_20 a2_21 a3_22 a4_23, zAr T 0 a1_20 7 k1, zAr T 0 a2_21 28 k2, zAr T 0 a3_22 7 k3, zAr T 0 a4_23 7 k4]]) (br := [[(dy, .inr (2, [.int dd, .ref a1_24, .ref a2_25, .ref a3_26]))], [zAr T 0 a1_24 40 d1], [zAr T 0 a2_25 40 d2], [zAr T 0 a3_26 40 d3]]) (As := [.int (d1 i), .int (d2 i), .int (d3 i)]) (rest := []) C G (c_does l T h po o xw y0 y1 y2 y3 y4 y5 y6 y7 wc3 x1 x2 g3_7 sb wb wp3 cr inn k1 k2 k3 k4 ([zO4 o cr inn a1_20 a2_21 a3_22 a4_23, zAr T 0 a1_20 7 k1, zAr T 0 a2_21 28 k2, zAr T 0 a3_22 7 k3, zAr T 0 a4_23 7 k4]) (d1 i) (d2 i) (d3 i) hc3 hp3 hw_29 hQx hI) (kV_RX1_74 C.2.2.2.2 (Nat.le_of_ble_eq_true rfl) (Nat.le_of_ble_eq_true rfl)) [4, 5, 6] [4, 0, 0] rfl rfl (ci := 1) (qc := (RX1, TX1, 11)) rfl rfl (List.mem_flatten.mpr ⟨_, List.mem_of_getElem? (i := 0) rfl, (bCourse_mem hc3).choose_spec⟩) rfl rfl hl.1 dX1_goThrough_52 (Nat.le_of_ble_eq_true rfl) (Nat.le_of_ble_eq_true rfl) (fun r_64 b1 H locs hw G => ?_)
        refine zEx15 hw ?_
        intro wc2_45 gw_46 u0_47 u1_48 u2_49 u3_50 u4_51 u5_52 u6_53 u7_54 wp2_55 g1_56 g2_57 sa_58 wa_59
        refine zCu5 ?_
        intro hbs9 h_60 h_61 h_62 h_63
        clear hw
        subst hbs9
        have G : zS T A s.heap s [[(dy, .inr (2, [.int dd, .ref a1_24, .ref a2_25, .ref a3_26]))], [zAr T 0 a1_24 40 d1], [zAr T 0 a2_25 40 d2], [zAr T 0 a3_26 40 d3], wc2_45, wp2_55, [zO4 o cr inn a1_20 a2_21 a3_22 a4_23, zAr T 0 a1_20 7 k1, zAr T 0 a2_21 28 k2, zAr T 0 a3_22 7 k3, zAr T 0 a4_23 7 k4]] _ _ := G
        replace h_63 : zHd ((r_64 = 0 ∨ r_64 = 1)) := h_63
        have hQ2 : zP3 g1_56 g3_7 := h_62
        refine lv_if_ne (tgt := 63) hx hb dX1_goThrough_55 (by decide) (fun c_65 => ?_) (fun c_65 => ?_)
        · have c_65n : ¬ r_64.toInt = (0 : Int) := fun q => c_65 ((fa_eq _ _).mpr q)
          refine lv_iinc (v := nI (i + 1)) (lv' := [(4, .int (nI (i + 1))), (0, .ref h), (1, .ref o), (2, .ref dy), (3, .int n)]) hx hb dX1_goThrough_63 hl (k := 0) rfl (z_inc i 1) (by decide) rfl (fun ls hl => ?_)
          refine lv_goto (tgt := 8) hx hb dX1_goThrough_66 (by decide) ?_
          have hw_66 : bDay T dy dd d1 d2 d3 [(dy, .inr (2, [.int dd, .ref a1_24, .ref a2_25, .ref a3_26])), zAr T 0 a1_24 40 d1, zAr T 0 a2_25 40 d2, zAr T 0 a3_26 40 d3] := ⟨a1_24, a2_25, a3_26, rfl⟩
          have G : zS T A s.heap s [[(dy, .inr (2, [.int dd, .ref a1_24, .ref a2_25, .ref a3_26])), zAr T 0 a1_24 40 d1, zAr T 0 a2_25 40 d2, zAr T 0 a3_26 40 d3], wc2_45, wp2_55, [zO4 o cr inn a1_20 a2_21 a3_22 a4_23, zAr T 0 a1_20 7 k1, zAr T 0 a2_21 28 k2, zAr T 0 a3_22 7 k3, zAr T 0 a4_23 7 k4]] _ _ := G.re rfl
          exact ih_8 (i + 1) wc2_45 gw_46 u0_47 u1_48 u2_49 u3_50 u4_51 u5_52 u6_53 u7_54 wp2_55 g1_56 g2_57 sa_58 wa_59 (show bCourse T h po o gw_46 u0_47 u1_48 u2_49 u3_50 u4_51 u5_52 u6_53 u7_54 wc2_45 ∧ bPosts T po o g1_56 g2_57 g3_7 sa_58 wa_59 wp2_55 ∧ (i + 1) ≤ 40 ∧ zP3 g1_56 g3_7 from ⟨h_60, h_61, by omega, hQ2⟩) (show 40 - (i + 1) < 40 - i from by omega) _ _ ls G (lv_sub hl [0, 1, 2, 3, 4] rfl)
        · have c_65n : r_64.toInt = (0 : Int) := (fa_eq _ _).mp c_65
          refine lv_aload_n hx hb dX1_goThrough_58 rfl (lv_at hl 1 rfl) ?_
          refine zEx1 h_60 ?_
          intro a1_67 hbs9
          clear h_60
          subst hbs9
          have G : zS T A s.heap s [[(dy, .inr (2, [.int dd, .ref a1_24, .ref a2_25, .ref a3_26]))], [zAr T 0 a1_24 40 d1], [zAr T 0 a2_25 40 d2], [zAr T 0 a3_26 40 d3], [zO1 h po a1_67 u0_47 o u1_48 u2_49 u3_50 u4_51 u5_52 u6_53 u7_54], [zAr T 0 a1_67 7 gw_46], wp2_55, [zO4 o cr inn a1_20 a2_21 a3_22 a4_23, zAr T 0 a1_20 7 k1, zAr T 0 a2_21 28 k2, zAr T 0 a3_22 7 k3, zAr T 0 a4_23 7 k4]] _ _ := G.re rfl
          refine z_get C G clX1 4 rfl 5 (by decide) m_fl_RX1_41 rfl dX1_goThrough_59 ?_
          have hw_68 : bDay T dy dd d1 d2 d3 [(dy, .inr (2, [.int dd, .ref a1_24, .ref a2_25, .ref a3_26])), zAr T 0 a1_24 40 d1, zAr T 0 a2_25 40 d2, zAr T 0 a3_26 40 d3] := ⟨a1_24, a2_25, a3_26, rfl⟩
          have G : zS T A s.heap s [[(dy, .inr (2, [.int dd, .ref a1_24, .ref a2_25, .ref a3_26])), zAr T 0 a1_24 40 d1, zAr T 0 a2_25 40 d2, zAr T 0 a3_26 40 d3], [zO1 h po a1_67 u0_47 o u1_48 u2_49 u3_50 u4_51 u5_52 u6_53 u7_54], [zAr T 0 a1_67 7 gw_46], wp2_55, [zO4 o cr inn a1_20 a2_21 a3_22 a4_23, zAr T 0 a1_20 7 k1, zAr T 0 a2_21 28 k2, zAr T 0 a3_22 7 k3, zAr T 0 a4_23 7 k4]] _ _ := G.re rfl
          have hw_69 : bCourse T h po o gw_46 u0_47 u1_48 u2_49 u3_50 u4_51 u5_52 u6_53 u7_54 [zO1 h po a1_67 u0_47 o u1_48 u2_49 u3_50 u4_51 u5_52 u6_53 u7_54, zAr T 0 a1_67 7 gw_46] := ⟨a1_67, rfl⟩
          have G : zS T A s.heap s [[(dy, .inr (2, [.int dd, .ref a1_24, .ref a2_25, .ref a3_26])), zAr T 0 a1_24 40 d1, zAr T 0 a2_25 40 d2, zAr T 0 a3_26 40 d3], [zO1 h po a1_67 u0_47 o u1_48 u2_49 u3_50 u4_51 u5_52 u6_53 u7_54, zAr T 0 a1_67 7 gw_46], wp2_55, [zO4 o cr inn a1_20 a2_21 a3_22 a4_23, zAr T 0 a1_20 7 k1, zAr T 0 a2_21 28 k2, zAr T 0 a3_22 7 k3, zAr T 0 a4_23 7 k4]] _ _ := G.re rfl
          have G := G.sub (bs' := [[zO1 h po a1_67 u0_47 o u1_48 u2_49 u3_50 u4_51 u5_52 u6_53 u7_54, zAr T 0 a1_67 7 gw_46], wp2_55, [zO4 o cr inn a1_20 a2_21 a3_22 a4_23, zAr T 0 a1_20 7 k1, zAr T 0 a2_21 28 k2, zAr T 0 a3_22 7 k3, zAr T 0 a4_23 7 k4], [(dy, .inr (2, [.int dd, .ref a1_24, .ref a2_25, .ref a3_26])), zAr T 0 a1_24 40 d1, zAr T 0 a2_25 40 d2, zAr T 0 a3_26 40 d3]]) [1, 2, 3, 0] rfl
          exact z_back hQ9 (z_iret C hr hlocks G (Nat.le_of_ble_eq_true rfl) (Nat.le_of_ble_eq_true rfl) dX1_goThrough_62 ⟨([zO1 h po a1_67 u0_47 o u1_48 u2_49 u3_50 u4_51 u5_52 u6_53 u7_54, zAr T 0 a1_67 7 gw_46]), gw_46, u0_47, u1_48, u2_49, u3_50, u4_51, u5_52, u6_53, u7_54, wp2_55, g1_56, g2_57, g3_7, sa_58, wa_59, rfl, hw_69, h_61, hQ2⟩)
set_option maxHeartbeats 4000000 in
set_option maxRecDepth 100000 in
/-- goAll -/
theorem c_goAll (l : Launch) (T : zTy) (h : Nat) (po : Nat) (la : Nat) (fw : Nat → Int32) (v0 : Int32) (v1 : Int32) (v2 : Int32) (v3 : Int32) (v4 : Int32) (v5 : Int32) (v6 : Int32) (v7 : Int32) (wc : va_W) (lp : Nat) (f1 : Nat → Int32) (f2 : Nat → Int32) (f3 : Nat → Int32) (st : Int32) (wh : Int32) (wp : va_W) (o : Nat) (cr : Int32) (inn : Int32) (k1 : Nat → Int32) (k2 : Nat → Int32) (k3 : Nat → Int32) (k4 : Nat → Int32) (z : va_W) (hc : bCourse T h po la fw v0 v1 v2 v3 v4 v5 v6 v7 wc) (hp : bPosts T po lp f1 f2 f3 st wh wp) (hz : bLand T o cr inn k1 k2 k3 k4 z) (hI : zLI cr k1 k3) : zMv l T yX1_goAll cX1_goAll 4 7 0 0 [.ref h, .ref o] [wc, wp, z] (fun bs => ∃ (wc2 : va_W) (gw : Nat → Int32) (u0 : Int32) (u1 : Int32) (u2 : Int32) (u3 : Int32) (u4 : Int32) (u5 : Int32) (u6 : Int32) (u7 : Int32) (wp2 : va_W) (g1 : Nat → Int32) (g2 : Nat → Int32) (g3 : Nat → Int32) (sa : Int32) (wa : Int32), bs = [wc2, wp2, z] ∧ bCourse T h po o gw u0 u1 u2 u3 u4 u5 u6 u7 wc2 ∧ bPosts T po o g1 g2 g3 sa wa wp2 ∧ zP3 g1 g3) := by
  refine zMv_of (own := RX1) (by decide) rfl (Nat.le_of_ble_eq_true rfl) ?_
  intro p e s m args below meth c A ls C hr hlocks hnm hAe G hl
  refine zHide (fun Q9 hQ9 => ?_)
  have hx := C.1
  have hb := C.2.1
  have hl : lv_has ls 4 [(0, .ref h), (1, .ref o)] := hl
  refine lv_aload_n hx hb dX1_goAll_0 rfl (lv_at hl 0 rfl) ?_
  refine lv_aload_n hx hb dX1_goAll_1 rfl (lv_at hl 1 rfl) ?_
  refine z_Vv (bc := [wc, wp, z]) (br := []) (As := [.ref o]) (rest := []) C G (c_Course_begin l T h po la fw v0 v1 v2 v3 v4 v5 v6 v7 wc lp f1 f2 f3 st wh wp o cr inn k1 k2 k3 k4 z hc hp hz (by first | with_reducible assumption | with_reducible rfl | omega | assumption | rfl)) (kV_RX1_59 C.2.2.2.2 (Nat.le_of_ble_eq_true rfl) (Nat.le_of_ble_eq_true rfl)) [0, 1, 2] [0, 0, 0] rfl rfl (ci := 1) (qc := (RX1, TX1, 11)) rfl rfl (List.mem_flatten.mpr ⟨_, List.mem_of_getElem? (i := 0) rfl, (bCourse_mem hc).choose_spec⟩) rfl rfl hl.1 dX1_goAll_2 (Nat.le_of_ble_eq_true rfl) (Nat.le_of_ble_eq_true rfl) (fun b1 H locs hw G => ?_)
  refine zEx7 hw ?_
  intro wc2_1 gw_2 u6_3 wp2_4 g1_5 g2_6 g3_7
  refine zCu8 ?_
  intro hbs9 h_8 h_9 h_10 h_11 h_12 h_13 h_14
  clear hw
  subst hbs9
  have G : zS T A s.heap s [wc2_1, wp2_4, z] _ _ := G
  have hQ : zP3 g1_5 g3_7 := h_11
  refine lv_iconst (v := 0) hx hb dX1_goAll_5 (by decide) ?_
  refine lv_istore_n (lv' := [(2, .int 0), (0, .ref h), (1, .ref o)]) hx hb dX1_goAll_6 rfl hl (by decide) rfl (fun ls hl => ?_)
  refine zEx1 h_8 ?_
  intro a1_16 hbs9
  clear h_8
  subst hbs9
  have G : zS T A s.heap s [[zO1 h po a1_16 0 o 0 0 (-1) 0 0 u6_3 v7], [zAr T 0 a1_16 7 gw_2], wp2_4, z] _ _ := G.re rfl
  refine zEx3 h_9 ?_
  intro a1_17 a2_18 a3_19 hbs9
  clear h_9
  subst hbs9
  have G : zS T A s.heap s [[zO1 h po a1_16 0 o 0 0 (-1) 0 0 u6_3 v7], [zAr T 0 a1_16 7 gw_2], [zO6 po o a1_17 a2_18 0 0 a3_19], [zAr T 0 a1_17 7 g1_5], [zAr T 0 a2_18 7 g2_6], [zAr T 0 a3_19 7 g3_7], z] _ _ := G.re rfl
  refine zEx4 hz ?_
  intro a1_20 a2_21 a3_22 a4_23 hbs9
  clear hz
  subst hbs9
  have G : zS T A s.heap s [[zO1 h po a1_16 0 o 0 0 (-1) 0 0 u6_3 v7], [zAr T 0 a1_16 7 gw_2], [zO6 po o a1_17 a2_18 0 0 a3_19], [zAr T 0 a1_17 7 g1_5], [zAr T 0 a2_18 7 g2_6], [zAr T 0 a3_19 7 g3_7], [zO4 o cr inn a1_20 a2_21 a3_22 a4_23], [zAr T 0 a1_20 7 k1], [zAr T 0 a2_21 28 k2], [zAr T 0 a3_22 7 k3], [zAr T 0 a4_23 7 k4]] _ _ := G.re rfl
  have hw_24 : bCourse T h po o gw_2 0 0 0 (-1) 0 0 u6_3 v7 [zO1 h po a1_16 0 o 0 0 (-1) 0 0 u6_3 v7, zAr T 0 a1_16 7 gw_2] := ⟨a1_16, rfl⟩
  have G : zS T A s.heap s [[zO1 h po a1_16 0 o 0 0 (-1) 0 0 u6_3 v7, zAr T 0 a1_16 7 gw_2], [zO6 po o a1_17 a2_18 0 0 a3_19], [zAr T 0 a1_17 7 g1_5], [zAr T 0 a2_18 7 g2_6], [zAr T 0 a3_19 7 g3_7], [zO4 o cr inn a1_20 a2_21 a3_22 a4_23], [zAr T 0 a1_20 7 k1], [zAr T 0 a2_21 28 k2], [zAr T 0 a3_22 7 k3], [zAr T 0 a4_23 7 k4]] _ _ := G.re rfl
  have hw_25 : bPosts T po o g1_5 g2_6 g3_7 0 0 [zO6 po o a1_17 a2_18 0 0 a3_19, zAr T 0 a1_17 7 g1_5, zAr T 0 a2_18 7 g2_6, zAr T 0 a3_19 7 g3_7] := ⟨a1_17, a2_18, a3_19, rfl⟩
  have G : zS T A s.heap s [[zO1 h po a1_16 0 o 0 0 (-1) 0 0 u6_3 v7, zAr T 0 a1_16 7 gw_2], [zO6 po o a1_17 a2_18 0 0 a3_19, zAr T 0 a1_17 7 g1_5, zAr T 0 a2_18 7 g2_6, zAr T 0 a3_19 7 g3_7], [zO4 o cr inn a1_20 a2_21 a3_22 a4_23], [zAr T 0 a1_20 7 k1], [zAr T 0 a2_21 28 k2], [zAr T 0 a3_22 7 k3], [zAr T 0 a4_23 7 k4]] _ _ := G.re rfl
  have hw_26 : bLand T o cr inn k1 k2 k3 k4 [zO4 o cr inn a1_20 a2_21 a3_22 a4_23, zAr T 0 a1_20 7 k1, zAr T 0 a2_21 28 k2, zAr T 0 a3_22 7 k3, zAr T 0 a4_23 7 k4] := ⟨a1_20, a2_21, a3_22, a4_23, rfl⟩
  have G : zS T A s.heap s [[zO1 h po a1_16 0 o 0 0 (-1) 0 0 u6_3 v7, zAr T 0 a1_16 7 gw_2], [zO6 po o a1_17 a2_18 0 0 a3_19, zAr T 0 a1_17 7 g1_5, zAr T 0 a2_18 7 g2_6, zAr T 0 a3_19 7 g3_7], [zO4 o cr inn a1_20 a2_21 a3_22 a4_23, zAr T 0 a1_20 7 k1, zAr T 0 a2_21 28 k2, zAr T 0 a3_22 7 k3, zAr T 0 a4_23 7 k4]] _ _ := G.re rfl
  refine z_lp16 (T := T) 7 (fun (i : Nat) (wc3 : va_W) (xw : Nat → Int32) (y0 : Int32) (y1 : Int32) (y2 : Int32) (y3 : Int32) (y4 : Int32) (y5 : Int32) (y6 : Int32) (y7 : Int32) (wp3 : va_W) (x1 : Nat → Int32) (x2 : Nat → Int32) (sb : Int32) (wb : Int32) => [wc3, wp3, [zO4 o cr inn a1_20 a2_21 a3_22 a4_23, zAr T 0 a1_20 7 k1, zAr T 0 a2_21 28 k2, zAr T 0 a3_22 7 k3, zAr T 0 a4_23 7 k4]]) (fun (i : Nat) (wc3 : va_W) (xw : Nat → Int32) (y0 : Int32) (y1 : Int32) (y2 : Int32) (y3 : Int32) (y4 : Int32) (y5 : Int32) (y6 : Int32) (y7 : Int32) (wp3 : va_W) (x1 : Nat → Int32) (x2 : Nat → Int32) (sb : Int32) (wb : Int32) => [(2, .int (nI i)), (0, .ref h), (1, .ref o)]) (fun (i : Nat) (wc3 : va_W) (xw : Nat → Int32) (y0 : Int32) (y1 : Int32) (y2 : Int32) (y3 : Int32) (y4 : Int32) (y5 : Int32) (y6 : Int32) (y7 : Int32) (wp3 : va_W) (x1 : Nat → Int32) (x2 : Nat → Int32) (sb : Int32) (wb : Int32) => bCourse T h po o xw y0 y1 y2 y3 y4 y5 y6 y7 wc3 ∧ bPosts T po o x1 x2 g3_7 sb wb wp3 ∧ i ≤ 7 ∧ zP3 x1 g3_7) (fun (i : Nat) (wc3 : va_W) (xw : Nat → Int32) (y0 : Int32) (y1 : Int32) (y2 : Int32) (y3 : Int32) (y4 : Int32) (y5 : Int32) (y6 : Int32) (y7 : Int32) (wp3 : va_W) (x1 : Nat → Int32) (x2 : Nat → Int32) (sb : Int32) (wb : Int32) => 7 - i) ?_ 0 ([zO1 h po a1_16 0 o 0 0 (-1) 0 0 u6_3 v7, zAr T 0 a1_16 7 gw_2]) gw_2 0 0 0 (-1) 0 0 u6_3 v7 ([zO6 po o a1_17 a2_18 0 0 a3_19, zAr T 0 a1_17 7 g1_5, zAr T 0 a2_18 7 g2_6, zAr T 0 a3_19 7 g3_7]) g1_5 g2_6 0 0 (show bCourse T h po o gw_2 0 0 0 (-1) 0 0 u6_3 v7 ([zO1 h po a1_16 0 o 0 0 (-1) 0 0 u6_3 v7, zAr T 0 a1_16 7 gw_2]) ∧ bPosts T po o g1_5 g2_6 g3_7 0 0 ([zO6 po o a1_17 a2_18 0 0 a3_19, zAr T 0 a1_17 7 g1_5, zAr T 0 a2_18 7 g2_6, zAr T 0 a3_19 7 g3_7]) ∧ 0 ≤ 7 ∧ zP3 g1_5 g3_7 from ⟨hw_24, hw_25, by omega, hQ⟩) G (lv_sub hl [0, 1, 2] rfl)
  intro i wc3 xw y0 y1 y2 y3 y4 y5 y6 y7 wp3 x1 x2 sb wb hI9 ih_7 H locs ls G hl
  replace hI9 : bCourse T h po o xw y0 y1 y2 y3 y4 y5 y6 y7 wc3 ∧ bPosts T po o x1 x2 g3_7 sb wb wp3 ∧ i ≤ 7 ∧ zP3 x1 g3_7 := hI9
  refine zAn4 hI9 ?_
  intro hc3 hp3 hi hQx
  clear hI9
  replace G : zS T A s.heap s [wc3, wp3, [zO4 o cr inn a1_20 a2_21 a3_22 a4_23, zAr T 0 a1_20 7 k1, zAr T 0 a2_21 28 k2, zAr T 0 a3_22 7 k3, zAr T 0 a4_23 7 k4]] _ _ := G
  replace hl : lv_has ls 4 [(2, .int (nI i)), (0, .ref h), (1, .ref o)] := hl
  refine lv_iload_n hx hb dX1_goAll_7 rfl (lv_at hl 0 rfl) ?_
  refine lv_aload_n hx hb dX1_goAll_8 rfl (lv_at hl 2 rfl) ?_
  have G : zS T A s.heap s [wc3, wp3, [zO4 o cr inn a1_20 a2_21 a3_22 a4_23], [zAr T 0 a1_20 7 k1], [zAr T 0 a2_21 28 k2], [zAr T 0 a3_22 7 k3], [zAr T 0 a4_23 7 k4]] _ _ := G.re rfl
  refine z_get C G clX4 2 rfl 0 (by decide) m_fl_RX1_88 rfl dX1_goAll_9 ?_
  refine lv_icmp_ge (tgt := 51) hx hb dX1_goAll_12 (by decide) (fun c_27 => ?_) (fun c_27 => ?_)
  · have c_27n : cr.toInt ≤ (i : Int) := by have q := (fa_le _ _).mp c_27; rw [nI_toInt (n := i) (by omega)] at q; exact q
    have hw_28 : bLand T o cr inn k1 k2 k3 k4 [zO4 o cr inn a1_20 a2_21 a3_22 a4_23, zAr T 0 a1_20 7 k1, zAr T 0 a2_21 28 k2, zAr T 0 a3_22 7 k3, zAr T 0 a4_23 7 k4] := ⟨a1_20, a2_21, a3_22, a4_23, rfl⟩
    have G : zS T A s.heap s [wc3, wp3, [zO4 o cr inn a1_20 a2_21 a3_22 a4_23, zAr T 0 a1_20 7 k1, zAr T 0 a2_21 28 k2, zAr T 0 a3_22 7 k3, zAr T 0 a4_23 7 k4]] _ _ := G.re rfl
    exact z_back hQ9 (z_vret C hr hlocks G (Nat.le_of_ble_eq_true rfl) (Nat.le_of_ble_eq_true rfl) dX1_goAll_51 ⟨wc3, xw, y0, y1, y2, y3, y4, y5, y6, y7, wp3, x1, x2, g3_7, sb, wb, rfl, hc3, hp3, hQx⟩)
  · have c_27n : ¬ cr.toInt ≤ (i : Int) := fun q => c_27 ((fa_le _ _).mpr (by rw [nI_toInt (n := i) (by omega)]; exact q))
    refine lv_iload_n hx hb dX1_goAll_15 rfl (lv_at hl 0 rfl) ?_
    refine lv_bipush (v := 7) hx hb dX1_goAll_16 (by decide) ?_
    refine lv_icmp_ge (tgt := 51) hx hb dX1_goAll_18 (by decide) (fun c_29 => ?_) (fun c_29 => ?_)
    · have c_29n : 7 ≤ i := (nI_leI (a := 7) (b := i) (by omega) (by omega)).mp c_29
      have hw_30 : bLand T o cr inn k1 k2 k3 k4 [zO4 o cr inn a1_20 a2_21 a3_22 a4_23, zAr T 0 a1_20 7 k1, zAr T 0 a2_21 28 k2, zAr T 0 a3_22 7 k3, zAr T 0 a4_23 7 k4] := ⟨a1_20, a2_21, a3_22, a4_23, rfl⟩
      have G : zS T A s.heap s [wc3, wp3, [zO4 o cr inn a1_20 a2_21 a3_22 a4_23, zAr T 0 a1_20 7 k1, zAr T 0 a2_21 28 k2, zAr T 0 a3_22 7 k3, zAr T 0 a4_23 7 k4]] _ _ := G.re rfl
      exact z_back hQ9 (z_vret C hr hlocks G (Nat.le_of_ble_eq_true rfl) (Nat.le_of_ble_eq_true rfl) dX1_goAll_51 ⟨wc3, xw, y0, y1, y2, y3, y4, y5, y6, y7, wp3, x1, x2, g3_7, sb, wb, rfl, hc3, hp3, hQx⟩)
    · have c_29n : ¬ 7 ≤ i := fun q => c_29 ((nI_leI (a := 7) (b := i) (by omega) (by omega)).mpr q)
      have hk4 := Int32.toInt_lt (k4 i)
      refine lv_iconst (v := 0) hx hb dX1_goAll_21 (by decide) ?_
      refine lv_istore_n (lv' := [(3, .int 0), (2, .int (nI i)), (0, .ref h), (1, .ref o)]) hx hb dX1_goAll_22 rfl hl (by decide) rfl (fun ls hl => ?_)
      refine zEx1 hc3 ?_
      intro a1_31 hbs9
      clear hc3
      subst hbs9
      have G : zS T A s.heap s [[zO1 h po a1_31 y0 o y1 y2 y3 y4 y5 y6 y7], [zAr T 0 a1_31 7 xw], wp3, [zO4 o cr inn a1_20 a2_21 a3_22 a4_23], [zAr T 0 a1_20 7 k1], [zAr T 0 a2_21 28 k2], [zAr T 0 a3_22 7 k3], [zAr T 0 a4_23 7 k4]] _ _ := G.re rfl
      refine zEx3 hp3 ?_
      intro a1_32 a2_33 a3_34 hbs9
      clear hp3
      subst hbs9
      have G : zS T A s.heap s [[zO1 h po a1_31 y0 o y1 y2 y3 y4 y5 y6 y7], [zAr T 0 a1_31 7 xw], [zO6 po o a1_32 a2_33 sb wb a3_34], [zAr T 0 a1_32 7 x1], [zAr T 0 a2_33 7 x2], [zAr T 0 a3_34 7 g3_7], [zO4 o cr inn a1_20 a2_21 a3_22 a4_23], [zAr T 0 a1_20 7 k1], [zAr T 0 a2_21 28 k2], [zAr T 0 a3_22 7 k3], [zAr T 0 a4_23 7 k4]] _ _ := G.re rfl
      have hw_35 : bCourse T h po o xw y0 y1 y2 y3 y4 y5 y6 y7 [zO1 h po a1_31 y0 o y1 y2 y3 y4 y5 y6 y7, zAr T 0 a1_31 7 xw] := ⟨a1_31, rfl⟩
      have G : zS T A s.heap s [[zO1 h po a1_31 y0 o y1 y2 y3 y4 y5 y6 y7, zAr T 0 a1_31 7 xw], [zO6 po o a1_32 a2_33 sb wb a3_34], [zAr T 0 a1_32 7 x1], [zAr T 0 a2_33 7 x2], [zAr T 0 a3_34 7 g3_7], [zO4 o cr inn a1_20 a2_21 a3_22 a4_23], [zAr T 0 a1_20 7 k1], [zAr T 0 a2_21 28 k2], [zAr T 0 a3_22 7 k3], [zAr T 0 a4_23 7 k4]] _ _ := G.re rfl
      have hw_36 : bPosts T po o x1 x2 g3_7 sb wb [zO6 po o a1_32 a2_33 sb wb a3_34, zAr T 0 a1_32 7 x1, zAr T 0 a2_33 7 x2, zAr T 0 a3_34 7 g3_7] := ⟨a1_32, a2_33, a3_34, rfl⟩
      have G : zS T A s.heap s [[zO1 h po a1_31 y0 o y1 y2 y3 y4 y5 y6 y7, zAr T 0 a1_31 7 xw], [zO6 po o a1_32 a2_33 sb wb a3_34, zAr T 0 a1_32 7 x1, zAr T 0 a2_33 7 x2, zAr T 0 a3_34 7 g3_7], [zO4 o cr inn a1_20 a2_21 a3_22 a4_23], [zAr T 0 a1_20 7 k1], [zAr T 0 a2_21 28 k2], [zAr T 0 a3_22 7 k3], [zAr T 0 a4_23 7 k4]] _ _ := G.re rfl
      have hw_37 : bLand T o cr inn k1 k2 k3 k4 [zO4 o cr inn a1_20 a2_21 a3_22 a4_23, zAr T 0 a1_20 7 k1, zAr T 0 a2_21 28 k2, zAr T 0 a3_22 7 k3, zAr T 0 a4_23 7 k4] := ⟨a1_20, a2_21, a3_22, a4_23, rfl⟩
      have G : zS T A s.heap s [[zO1 h po a1_31 y0 o y1 y2 y3 y4 y5 y6 y7, zAr T 0 a1_31 7 xw], [zO6 po o a1_32 a2_33 sb wb a3_34, zAr T 0 a1_32 7 x1, zAr T 0 a2_33 7 x2, zAr T 0 a3_34 7 g3_7], [zO4 o cr inn a1_20 a2_21 a3_22 a4_23, zAr T 0 a1_20 7 k1, zAr T 0 a2_21 28 k2, zAr T 0 a3_22 7 k3, zAr T 0 a4_23 7 k4]] _ _ := G.re rfl
      refine z_lp16 (T := T) 23 (fun (j : Nat) (wc4 : va_W) (xv : Nat → Int32) (z0 : Int32) (z1 : Int32) (z2 : Int32) (z3 : Int32) (z4 : Int32) (z5 : Int32) (z6 : Int32) (z7 : Int32) (wp4 : va_W) (w1 : Nat → Int32) (w2_ : Nat → Int32) (sc : Int32) (wd_ : Int32) => [wc4, wp4, [zO4 o cr inn a1_20 a2_21 a3_22 a4_23, zAr T 0 a1_20 7 k1, zAr T 0 a2_21 28 k2, zAr T 0 a3_22 7 k3, zAr T 0 a4_23 7 k4]]) (fun (j : Nat) (wc4 : va_W) (xv : Nat → Int32) (z0 : Int32) (z1 : Int32) (z2 : Int32) (z3 : Int32) (z4 : Int32) (z5 : Int32) (z6 : Int32) (z7 : Int32) (wp4 : va_W) (w1 : Nat → Int32) (w2_ : Nat → Int32) (sc : Int32) (wd_ : Int32) => [(3, .int (nI j)), (2, .int (nI i)), (0, .ref h), (1, .ref o)]) (fun (j : Nat) (wc4 : va_W) (xv : Nat → Int32) (z0 : Int32) (z1 : Int32) (z2 : Int32) (z3 : Int32) (z4 : Int32) (z5 : Int32) (z6 : Int32) (z7 : Int32) (wp4 : va_W) (w1 : Nat → Int32) (w2_ : Nat → Int32) (sc : Int32) (wd_ : Int32) => bCourse T h po o xv z0 z1 z2 z3 z4 z5 z6 z7 wc4 ∧ bPosts T po o w1 w2_ g3_7 sc wd_ wp4 ∧ j ≤ (k4 i).toInt.toNat ∧ zP3 w1 g3_7) (fun (j : Nat) (wc4 : va_W) (xv : Nat → Int32) (z0 : Int32) (z1 : Int32) (z2 : Int32) (z3 : Int32) (z4 : Int32) (z5 : Int32) (z6 : Int32) (z7 : Int32) (wp4 : va_W) (w1 : Nat → Int32) (w2_ : Nat → Int32) (sc : Int32) (wd_ : Int32) => (k4 i).toInt.toNat - j) ?_ 0 ([zO1 h po a1_31 y0 o y1 y2 y3 y4 y5 y6 y7, zAr T 0 a1_31 7 xw]) xw y0 y1 y2 y3 y4 y5 y6 y7 ([zO6 po o a1_32 a2_33 sb wb a3_34, zAr T 0 a1_32 7 x1, zAr T 0 a2_33 7 x2, zAr T 0 a3_34 7 g3_7]) x1 x2 sb wb (show bCourse T h po o xw y0 y1 y2 y3 y4 y5 y6 y7 ([zO1 h po a1_31 y0 o y1 y2 y3 y4 y5 y6 y7, zAr T 0 a1_31 7 xw]) ∧ bPosts T po o x1 x2 g3_7 sb wb ([zO6 po o a1_32 a2_33 sb wb a3_34, zAr T 0 a1_32 7 x1, zAr T 0 a2_33 7 x2, zAr T 0 a3_34 7 g3_7]) ∧ 0 ≤ (k4 i).toInt.toNat ∧ zP3 x1 g3_7 from ⟨hw_35, hw_36, by omega, hQx⟩) G (lv_sub hl [0, 1, 2, 3] rfl)
      intro j wc4 xv z0 z1 z2 z3 z4 z5 z6 z7 wp4 w1 w2_ sc wd_ hI9 ih_23 H locs ls G hl
      replace hI9 : bCourse T h po o xv z0 z1 z2 z3 z4 z5 z6 z7 wc4 ∧ bPosts T po o w1 w2_ g3_7 sc wd_ wp4 ∧ j ≤ (k4 i).toInt.toNat ∧ zP3 w1 g3_7 := hI9
      refine zAn4 hI9 ?_
      intro hc4 hp4 hj hQy
      clear hI9
      replace G : zS T A s.heap s [wc4, wp4, [zO4 o cr inn a1_20 a2_21 a3_22 a4_23, zAr T 0 a1_20 7 k1, zAr T 0 a2_21 28 k2, zAr T 0 a3_22 7 k3, zAr T 0 a4_23 7 k4]] _ _ := G
      replace hl : lv_has ls 4 [(3, .int (nI j)), (2, .int (nI i)), (0, .ref h), (1, .ref o)] := hl
      refine lv_iload_n hx hb dX1_goAll_23 rfl (lv_at hl 0 rfl) ?_
      refine lv_aload_n hx hb dX1_goAll_24 rfl (lv_at hl 3 rfl) ?_
      have G : zS T A s.heap s [wc4, wp4, [zO4 o cr inn a1_20 a2_21 a3_22 a4_23], [zAr T 0 a1_20 7 k1], [zAr T 0 a2_21 28 k2], [zAr T 0 a3_22 7 k3], [zAr T 0 a4_23 7 k4]] _ _ := G.re rfl
      refine z_get C G clX4 2 rfl 5 (by decide) m_fl_RX1_33 rfl dX1_goAll_25 ?_
      refine lv_iload_n hx hb dX1_goAll_28 rfl (lv_at hl 1 rfl) ?_
      refine z_ild C G 6 rfl (vp_in_nI (by omega) (by omega)) dX1_goAll_29 ?_
      refine lv_topi (fun v_38 ev_38 => ?_)
      rw [nI_clamp (by omega)] at ev_38
      subst ev_38
      refine lv_icmp_ge (tgt := 45) hx hb dX1_goAll_30 (by decide) (fun c_39 => ?_) (fun c_39 => ?_)
      · have c_39n : (k4 i).toInt ≤ (j : Int) := by have q := (fa_le _ _).mp c_39; rw [nI_toInt (n := j) (by omega)] at q; exact q
        refine lv_iinc (v := nI (i + 1)) (lv' := [(2, .int (nI (i + 1))), (3, .int (nI j)), (0, .ref h), (1, .ref o)]) hx hb dX1_goAll_45 hl (k := 1) rfl (z_inc i 1) (by decide) rfl (fun ls hl => ?_)
        refine lv_goto (tgt := 7) hx hb dX1_goAll_48 (by decide) ?_
        have hw_40 : bLand T o cr inn k1 k2 k3 k4 [zO4 o cr inn a1_20 a2_21 a3_22 a4_23, zAr T 0 a1_20 7 k1, zAr T 0 a2_21 28 k2, zAr T 0 a3_22 7 k3, zAr T 0 a4_23 7 k4] := ⟨a1_20, a2_21, a3_22, a4_23, rfl⟩
        have G : zS T A s.heap s [wc4, wp4, [zO4 o cr inn a1_20 a2_21 a3_22 a4_23, zAr T 0 a1_20 7 k1, zAr T 0 a2_21 28 k2, zAr T 0 a3_22 7 k3, zAr T 0 a4_23 7 k4]] _ _ := G.re rfl
        exact ih_7 (i + 1) wc4 xv z0 z1 z2 z3 z4 z5 z6 z7 wp4 w1 w2_ sc wd_ (show bCourse T h po o xv z0 z1 z2 z3 z4 z5 z6 z7 wc4 ∧ bPosts T po o w1 w2_ g3_7 sc wd_ wp4 ∧ (i + 1) ≤ 7 ∧ zP3 w1 g3_7 from ⟨hc4, hp4, by omega, hQy⟩) (show 7 - (i + 1) < 7 - i from by omega) _ _ ls G (lv_sub hl [0, 2, 3] rfl)
      · have c_39n : ¬ (k4 i).toInt ≤ (j : Int) := fun q => c_39 ((fa_le _ _).mpr (by rw [nI_toInt (n := j) (by omega)]; exact q))
        refine lv_aload_n hx hb dX1_goAll_33 rfl (lv_at hl 2 rfl) ?_
        refine lv_iload_n hx hb dX1_goAll_34 rfl (lv_at hl 1 rfl) ?_
        have hw_41 : bLand T o cr inn k1 k2 k3 k4 [zO4 o cr inn a1_20 a2_21 a3_22 a4_23, zAr T 0 a1_20 7 k1, zAr T 0 a2_21 28 k2, zAr T 0 a3_22 7 k3, zAr T 0 a4_23 7 k4] := ⟨a1_20, a2_21, a3_22, a4_23, rfl⟩
        have G : zS T A s.heap s [wc4, wp4, [zO4 o cr inn a1_20 a2_21 a3_22 a4_23, zAr T 0 a1_20 7 k1, zAr T 0 a2_21 28 k2, zAr T 0 a3_22 7 k3, zAr T 0 a4_23 7 k4]] _ _ := G.re rfl
        refine z_Vi (bc := [wc4, wp4, [zO4 o cr inn a1_20 a2_21 a3_22 a4_23, zAr T 0 a1_20 7 k1, zAr T 0 a2_21 28 k2, zAr T 0 a3_22 7 k3, zAr T 0 a4_23 7 k4]]) (br := []) (As := [.int (nI i)]) (rest := []) C G (c_Course_run l T h po o xv z0 z1 z2 z3 z4 z5 z6 z7 wc4 w1 w2_ g3_7 sc wd_ wp4 cr inn k1 k2 k3 k4 ([zO4 o cr inn a1_20 a2_21 a3_22 a4_23, zAr T 0 a1_20 7 k1, zAr T 0 a2_21 28 k2, zAr T 0 a3_22 7 k3, zAr T 0 a4_23 7 k4]) (nI i) hc4 hp4 hw_41 hQy) (kV_RX1_92 C.2.2.2.2 (Nat.le_of_ble_eq_true rfl) (Nat.le_of_ble_eq_true rfl)) [0, 1, 2] [0, 0, 0] rfl rfl (ci := 1) (qc := (RX1, TX1, 11)) rfl rfl (List.mem_flatten.mpr ⟨_, List.mem_of_getElem? (i := 0) rfl, (bCourse_mem hc4).choose_spec⟩) rfl rfl hl.1 dX1_goAll_35 (Nat.le_of_ble_eq_true rfl) (Nat.le_of_ble_eq_true rfl) (fun r_61 b1 H locs hw G => ?_)
        refine zEx15 hw ?_
        intro wc2_42 gw_43 u0_44 u1_45 u2_46 u3_47 u4_48 u5_49 u6_50 u7_51 wp2_52 g1_53 g2_54 sa_55 wa_56
        refine zCu5 ?_
        intro hbs9 h_57 h_58 h_59 h_60
        clear hw
        subst hbs9
        have G : zS T A s.heap s [wc2_42, wp2_52, [zO4 o cr inn a1_20 a2_21 a3_22 a4_23, zAr T 0 a1_20 7 k1, zAr T 0 a2_21 28 k2, zAr T 0 a3_22 7 k3, zAr T 0 a4_23 7 k4]] _ _ := G
        replace h_60 : zHd ((r_61 = 0 ∨ r_61 = 1)) := h_60
        have hQ2 : zP3 g1_53 g3_7 := h_59
        refine lv_pop hx hb dX1_goAll_38 rfl ?_
        refine lv_iinc (v := nI (j + 1)) (lv' := [(3, .int (nI (j + 1))), (2, .int (nI i)), (0, .ref h), (1, .ref o)]) hx hb dX1_goAll_39 hl (k := 0) rfl (z_inc j 1) (by decide) rfl (fun ls hl => ?_)
        refine lv_goto (tgt := 23) hx hb dX1_goAll_42 (by decide) ?_
        exact ih_23 (j + 1) wc2_42 gw_43 u0_44 u1_45 u2_46 u3_47 u4_48 u5_49 u6_50 u7_51 wp2_52 g1_53 g2_54 sa_55 wa_56 (show bCourse T h po o gw_43 u0_44 u1_45 u2_46 u3_47 u4_48 u5_49 u6_50 u7_51 wc2_42 ∧ bPosts T po o g1_53 g2_54 g3_7 sa_55 wa_56 wp2_52 ∧ (j + 1) ≤ (k4 i).toInt.toNat ∧ zP3 g1_53 g3_7 from ⟨h_57, h_58, by omega, hQ2⟩) (show (k4 i).toInt.toNat - (j + 1) < (k4 i).toInt.toNat - j from by omega) _ _ ls G (lv_sub hl [0, 1, 2, 3] rfl)

theorem m_ml_RX11_1 : Cond.methodLink RX11 1 objectInit ∈ zT := zmem1 zsub_1 25 rfl rfl
theorem m_cl_RX11_7 : Cond.classLink RX11 7 RX9 ∈ zT := zmem1 zsub_1 28 rfl rfl
theorem m_in_RX9 : Cond.instantiable RX9 8 ∈ zT := zmem1 zsub_1 29 rfl rfl
theorem m_co_X9_init : Cond.code yX9_init cX9_init 1 none ∈ zT := zmem1 zsub_1 32 rfl rfl
theorem m_im_X9_init : Cond.instanceMethod yX9_init ∈ zT := zmem1 zsub_1 31 rfl rfl
theorem m_ar_boolean : Cond.arrayClass .boolean ∈ zT := zmem1 zsub_1 216 rfl rfl
theorem m_cl_RX11_24 : Cond.classLink RX11 24 RX7 ∈ zT := zmem1 zsub_1 159 rfl rfl
theorem m_in_RX7 : Cond.instantiable RX7 13 ∈ zT := zmem1 zsub_1 160 rfl rfl
theorem m_co_X7_init : Cond.code yX7_init cX7_init 1 none ∈ zT := zmem1 zsub_1 163 rfl rfl
theorem m_im_X7_init : Cond.instanceMethod yX7_init ∈ zT := zmem1 zsub_1 162 rfl rfl
theorem m_cl_RX11_31 : Cond.classLink RX11 31 RX6 ∈ zT := zmem1 zsub_1 217 rfl rfl
theorem m_cl_RX11_38 : Cond.classLink RX11 38 RX1 ∈ zT := zmem1 zsub_2 12 rfl rfl
theorem m_in_RX1 : Cond.instantiable RX1 11 ∈ zT := zmem1 zsub_2 13 rfl rfl
theorem m_co_X1_init : Cond.code yX1_init cX1_init 1 none ∈ zT := zmem1 zsub_2 16 rfl rfl
theorem m_im_X1_init : Cond.instanceMethod yX1_init ∈ zT := zmem1 zsub_2 15 rfl rfl
theorem m_cl_RX11_45 : Cond.classLink RX11 45 RX10 ∈ zT := zmem1 zsub_2 59 rfl rfl
theorem m_in_RX10 : Cond.instantiable RX10 8 ∈ zT := zmem1 zsub_2 60 rfl rfl
theorem m_co_X10_init : Cond.code yX10_init cX10_init 1 none ∈ zT := zmem1 zsub_2 63 rfl rfl
theorem m_im_X10_init : Cond.instanceMethod yX10_init ∈ zT := zmem1 zsub_2 62 rfl rfl
theorem m_cl_RX11_52 : Cond.classLink RX11 52 RX0 ∈ zT := zmem1 zsub_2 97 rfl rfl
theorem m_in_RX0 : Cond.instantiable RX0 10 ∈ zT := zmem1 zsub_2 98 rfl rfl
theorem m_co_X0_init : Cond.code yX0_init cX0_init 1 none ∈ zT := zmem1 zsub_2 101 rfl rfl
theorem m_im_X0_init : Cond.instanceMethod yX0_init ∈ zT := zmem1 zsub_2 100 rfl rfl
theorem m_cl_RX11_62 : Cond.classLink RX11 62 RX3 ∈ zT := zmem1 zsub_2 140 rfl rfl
theorem m_in_RX3 : Cond.instantiable RX3 8 ∈ zT := zmem1 zsub_2 141 rfl rfl
theorem m_co_X3_init : Cond.code yX3_init cX3_init 1 none ∈ zT := zmem1 zsub_2 144 rfl rfl
theorem m_im_X3_init : Cond.instanceMethod yX3_init ∈ zT := zmem1 zsub_2 143 rfl rfl
theorem m_co_X0_treesOf : Cond.code yX0_treesOf cX0_treesOf 4 (some .int) ∈ zT := zmem1 zsub_5 60 rfl rfl
theorem m_ml_RX11_268 : Cond.methodLink RX11 268 yX0_treesOf ∈ zT := zmem1 zsub_5 57 rfl rfl
theorem m_im_X0_treesOf : Cond.instanceMethod yX0_treesOf ∈ zT := zmem1 zsub_5 58 rfl rfl
theorem m_se_X0_treesOf : Cond.selects RX0 yX0_treesOf yX0_treesOf ∈ zT := zmem1 zsub_5 59 rfl rfl
theorem kJ_RX11_9 {R : Room} {s : State} {args : Array Value} {d mc ms : Nat} (hX : zX s) (hts : ∀ w ∈ zT, w.before args s = true) (h1 : d + 1 ≤ R.frames) (h2 : 8 + (1 + 11) + 40 * d ≤ R.locals) : va_CN R s args RX11 9 yX9_init RX11 cX9_init 1 none (zW yX9_init cX9_init 1 none) (zR d mc ms) mc ms 0 ∧ yX9_init.name = "<init>" ∧ (Cond.instanceMethod yX9_init).before args s = true := z_cwJ hts m_co_X9_init (hX.1 (RX11, 9, yX9_init, RX11) (List.mem_of_getElem? (i := 0) rfl)) m_im_X9_init m_ii_RX9 rfl (by decide +kernel) h1 h2
theorem kJ_RX11_26 {R : Room} {s : State} {args : Array Value} {d mc ms : Nat} (hX : zX s) (hts : ∀ w ∈ zT, w.before args s = true) (h1 : d + 1 ≤ R.frames) (h2 : 8 + (1 + 11) + 40 * d ≤ R.locals) : va_CN R s args RX11 26 yX7_init RX11 cX7_init 1 none (zW yX7_init cX7_init 1 none) (zR d mc ms) mc ms 0 ∧ yX7_init.name = "<init>" ∧ (Cond.instanceMethod yX7_init).before args s = true := z_cwJ hts m_co_X7_init (hX.1 (RX11, 26, yX7_init, RX11) (List.mem_of_getElem? (i := 1) rfl)) m_im_X7_init m_ii_RX7 rfl (by decide +kernel) h1 h2
theorem kJ_RX11_33 {R : Room} {s : State} {args : Array Value} {d mc ms : Nat} (hX : zX s) (hts : ∀ w ∈ zT, w.before args s = true) (h1 : d + 1 ≤ R.frames) (h2 : 8 + (1 + 11) + 40 * d ≤ R.locals) : va_CN R s args RX11 33 yX6_init RX11 cX6_init 1 none (zW yX6_init cX6_init 1 none) (zR d mc ms) mc ms 0 ∧ yX6_init.name = "<init>" ∧ (Cond.instanceMethod yX6_init).before args s = true := z_cwJ hts m_co_X6_init (hX.1 (RX11, 33, yX6_init, RX11) (List.mem_of_getElem? (i := 2) rfl)) m_im_X6_init m_ii_RX6 rfl (by decide +kernel) h1 h2
theorem kJ_RX11_40 {R : Room} {s : State} {args : Array Value} {d mc ms : Nat} (hX : zX s) (hts : ∀ w ∈ zT, w.before args s = true) (h1 : d + 1 ≤ R.frames) (h2 : 8 + (1 + 11) + 40 * d ≤ R.locals) : va_CN R s args RX11 40 yX1_init RX11 cX1_init 1 none (zW yX1_init cX1_init 1 none) (zR d mc ms) mc ms 0 ∧ yX1_init.name = "<init>" ∧ (Cond.instanceMethod yX1_init).before args s = true := z_cwJ hts m_co_X1_init (hX.1 (RX11, 40, yX1_init, RX11) (List.mem_of_getElem? (i := 3) rfl)) m_im_X1_init m_ii_RX1 rfl (by decide +kernel) h1 h2
theorem kJ_RX11_47 {R : Room} {s : State} {args : Array Value} {d mc ms : Nat} (hX : zX s) (hts : ∀ w ∈ zT, w.before args s = true) (h1 : d + 1 ≤ R.frames) (h2 : 8 + (1 + 11) + 40 * d ≤ R.locals) : va_CN R s args RX11 47 yX10_init RX11 cX10_init 1 none (zW yX10_init cX10_init 1 none) (zR d mc ms) mc ms 0 ∧ yX10_init.name = "<init>" ∧ (Cond.instanceMethod yX10_init).before args s = true := z_cwJ hts m_co_X10_init (hX.1 (RX11, 47, yX10_init, RX11) (List.mem_of_getElem? (i := 4) rfl)) m_im_X10_init m_ii_RX10 rfl (by decide +kernel) h1 h2
theorem kJ_RX11_54 {R : Room} {s : State} {args : Array Value} {d mc ms : Nat} (hX : zX s) (hts : ∀ w ∈ zT, w.before args s = true) (h1 : d + 1 ≤ R.frames) (h2 : 8 + (1 + 11) + 40 * d ≤ R.locals) : va_CN R s args RX11 54 yX0_init RX11 cX0_init 1 none (zW yX0_init cX0_init 1 none) (zR d mc ms) mc ms 0 ∧ yX0_init.name = "<init>" ∧ (Cond.instanceMethod yX0_init).before args s = true := z_cwJ hts m_co_X0_init (hX.1 (RX11, 54, yX0_init, RX11) (List.mem_of_getElem? (i := 5) rfl)) m_im_X0_init m_ii_RX0 rfl (by decide +kernel) h1 h2
theorem kJ_RX11_64 {R : Room} {s : State} {args : Array Value} {d mc ms : Nat} (hX : zX s) (hts : ∀ w ∈ zT, w.before args s = true) (h1 : d + 1 ≤ R.frames) (h2 : 8 + (1 + 11) + 40 * d ≤ R.locals) : va_CN R s args RX11 64 yX3_init RX11 cX3_init 1 none (zW yX3_init cX3_init 1 none) (zR d mc ms) mc ms 0 ∧ yX3_init.name = "<init>" ∧ (Cond.instanceMethod yX3_init).before args s = true := z_cwJ hts m_co_X3_init (hX.1 (RX11, 64, yX3_init, RX11) (List.mem_of_getElem? (i := 6) rfl)) m_im_X3_init m_ii_RX3 rfl (by decide +kernel) h1 h2
theorem kV_RX11_268 {R : Room} {s : State} {args : Array Value} {d mc ms : Nat} (hts : ∀ w ∈ zT, w.before args s = true) (h1 : d + 1 ≤ R.frames) (h2 : 8 + (4 + 11) + 40 * d ≤ R.locals) : CallW R s args RX11 RX0 268 yX0_treesOf cX0_treesOf 4 (some .int) (zW yX0_treesOf cX0_treesOf 4 (some .int)) (zR d mc ms) mc ms 1 := z_cwV hts m_co_X0_treesOf m_ml_RX11_268 m_im_X0_treesOf m_se_X0_treesOf m_ii_RX0 (by decide +kernel) h1 h2
theorem dX11_init_0 : decode cX11_init 0 = .ok (.aload_n 0, 1) := zo_42 (by decide +kernel)
theorem dX11_init_1 : decode cX11_init 1 = .ok (.invokespecial 1, 3) := zo_183 (by decide +kernel)
theorem dX11_init_4 : decode cX11_init 4 = .ok (.aload_n 0, 1) := zo_42 (by decide +kernel)
theorem dX11_init_5 : decode cX11_init 5 = .ok (.new 7, 3) := zo_187 (by decide +kernel)
theorem dX11_init_8 : decode cX11_init 8 = .ok (.dup, 1) := zo_89 (by decide +kernel)
theorem dX11_init_9 : decode cX11_init 9 = .ok (.invokespecial 9, 3) := zo_183 (by decide +kernel)
theorem dX11_init_12 : decode cX11_init 12 = .ok (.putfield 10, 3) := zo_181 (by decide +kernel)
theorem dX11_init_15 : decode cX11_init 15 = .ok (.aload_n 0, 1) := zo_42 (by decide +kernel)
theorem dX11_init_16 : decode cX11_init 16 = .ok (.iconst 3, 1) := zo_6 (by decide +kernel)
theorem dX11_init_17 : decode cX11_init 17 = .ok (.anewarray 7, 3) := zo_189 (by decide +kernel)
theorem dX11_init_20 : decode cX11_init 20 = .ok (.dup, 1) := zo_89 (by decide +kernel)
theorem dX11_init_21 : decode cX11_init 21 = .ok (.iconst 0, 1) := zo_3 (by decide +kernel)
theorem dX11_init_22 : decode cX11_init 22 = .ok (.new 7, 3) := zo_187 (by decide +kernel)
theorem dX11_init_25 : decode cX11_init 25 = .ok (.dup, 1) := zo_89 (by decide +kernel)
theorem dX11_init_26 : decode cX11_init 26 = .ok (.invokespecial 9, 3) := zo_183 (by decide +kernel)
theorem dX11_init_29 : decode cX11_init 29 = .ok (.aastore, 1) := zo_83 (by decide +kernel)
theorem dX11_init_30 : decode cX11_init 30 = .ok (.dup, 1) := zo_89 (by decide +kernel)
theorem dX11_init_31 : decode cX11_init 31 = .ok (.iconst 1, 1) := zo_4 (by decide +kernel)
theorem dX11_init_32 : decode cX11_init 32 = .ok (.new 7, 3) := zo_187 (by decide +kernel)
theorem dX11_init_35 : decode cX11_init 35 = .ok (.dup, 1) := zo_89 (by decide +kernel)
theorem dX11_init_36 : decode cX11_init 36 = .ok (.invokespecial 9, 3) := zo_183 (by decide +kernel)
theorem dX11_init_39 : decode cX11_init 39 = .ok (.aastore, 1) := zo_83 (by decide +kernel)
theorem dX11_init_40 : decode cX11_init 40 = .ok (.dup, 1) := zo_89 (by decide +kernel)
theorem dX11_init_41 : decode cX11_init 41 = .ok (.iconst 2, 1) := zo_5 (by decide +kernel)
theorem dX11_init_42 : decode cX11_init 42 = .ok (.new 7, 3) := zo_187 (by decide +kernel)
theorem dX11_init_45 : decode cX11_init 45 = .ok (.dup, 1) := zo_89 (by decide +kernel)
theorem dX11_init_46 : decode cX11_init 46 = .ok (.invokespecial 9, 3) := zo_183 (by decide +kernel)
theorem dX11_init_49 : decode cX11_init 49 = .ok (.aastore, 1) := zo_83 (by decide +kernel)
theorem dX11_init_50 : decode cX11_init 50 = .ok (.putfield 16, 3) := zo_181 (by decide +kernel)
theorem dX11_init_53 : decode cX11_init 53 = .ok (.aload_n 0, 1) := zo_42 (by decide +kernel)
theorem dX11_init_54 : decode cX11_init 54 = .ok (.iconst 3, 1) := zo_6 (by decide +kernel)
theorem dX11_init_55 : decode cX11_init 55 = .ok (.newarray .boolean, 2) := by decide +kernel
theorem dX11_init_57 : decode cX11_init 57 = .ok (.putfield 20, 3) := zo_181 (by decide +kernel)
theorem dX11_init_60 : decode cX11_init 60 = .ok (.aload_n 0, 1) := zo_42 (by decide +kernel)
theorem dX11_init_61 : decode cX11_init 61 = .ok (.new 24, 3) := zo_187 (by decide +kernel)
theorem dX11_init_64 : decode cX11_init 64 = .ok (.dup, 1) := zo_89 (by decide +kernel)
theorem dX11_init_65 : decode cX11_init 65 = .ok (.invokespecial 26, 3) := zo_183 (by decide +kernel)
theorem dX11_init_68 : decode cX11_init 68 = .ok (.putfield 27, 3) := zo_181 (by decide +kernel)
theorem dX11_init_71 : decode cX11_init 71 = .ok (.aload_n 0, 1) := zo_42 (by decide +kernel)
theorem dX11_init_72 : decode cX11_init 72 = .ok (.new 31, 3) := zo_187 (by decide +kernel)
theorem dX11_init_75 : decode cX11_init 75 = .ok (.dup, 1) := zo_89 (by decide +kernel)
theorem dX11_init_76 : decode cX11_init 76 = .ok (.invokespecial 33, 3) := zo_183 (by decide +kernel)
theorem dX11_init_79 : decode cX11_init 79 = .ok (.putfield 34, 3) := zo_181 (by decide +kernel)
theorem dX11_init_82 : decode cX11_init 82 = .ok (.aload_n 0, 1) := zo_42 (by decide +kernel)
theorem dX11_init_83 : decode cX11_init 83 = .ok (.new 38, 3) := zo_187 (by decide +kernel)
theorem dX11_init_86 : decode cX11_init 86 = .ok (.dup, 1) := zo_89 (by decide +kernel)
theorem dX11_init_87 : decode cX11_init 87 = .ok (.invokespecial 40, 3) := zo_183 (by decide +kernel)
theorem dX11_init_90 : decode cX11_init 90 = .ok (.putfield 41, 3) := zo_181 (by decide +kernel)
theorem dX11_init_93 : decode cX11_init 93 = .ok (.aload_n 0, 1) := zo_42 (by decide +kernel)
theorem dX11_init_94 : decode cX11_init 94 = .ok (.new 45, 3) := zo_187 (by decide +kernel)
theorem dX11_init_97 : decode cX11_init 97 = .ok (.dup, 1) := zo_89 (by decide +kernel)
theorem dX11_init_98 : decode cX11_init 98 = .ok (.invokespecial 47, 3) := zo_183 (by decide +kernel)
theorem dX11_init_101 : decode cX11_init 101 = .ok (.putfield 48, 3) := zo_181 (by decide +kernel)
theorem dX11_init_104 : decode cX11_init 104 = .ok (.aload_n 0, 1) := zo_42 (by decide +kernel)
theorem dX11_init_105 : decode cX11_init 105 = .ok (.new 52, 3) := zo_187 (by decide +kernel)
theorem dX11_init_108 : decode cX11_init 108 = .ok (.dup, 1) := zo_89 (by decide +kernel)
theorem dX11_init_109 : decode cX11_init 109 = .ok (.invokespecial 54, 3) := zo_183 (by decide +kernel)
theorem dX11_init_112 : decode cX11_init 112 = .ok (.putfield 55, 3) := zo_181 (by decide +kernel)
theorem dX11_init_115 : decode cX11_init 115 = .ok (.aload_n 0, 1) := zo_42 (by decide +kernel)
theorem dX11_init_116 : decode cX11_init 116 = .ok (.new 52, 3) := zo_187 (by decide +kernel)
theorem dX11_init_119 : decode cX11_init 119 = .ok (.dup, 1) := zo_89 (by decide +kernel)
theorem dX11_init_120 : decode cX11_init 120 = .ok (.invokespecial 54, 3) := zo_183 (by decide +kernel)
theorem dX11_init_123 : decode cX11_init 123 = .ok (.putfield 59, 3) := zo_181 (by decide +kernel)
theorem dX11_init_126 : decode cX11_init 126 = .ok (.aload_n 0, 1) := zo_42 (by decide +kernel)
theorem dX11_init_127 : decode cX11_init 127 = .ok (.new 62, 3) := zo_187 (by decide +kernel)
theorem dX11_init_130 : decode cX11_init 130 = .ok (.dup, 1) := zo_89 (by decide +kernel)
theorem dX11_init_131 : decode cX11_init 131 = .ok (.invokespecial 64, 3) := zo_183 (by decide +kernel)
theorem dX11_init_134 : decode cX11_init 134 = .ok (.putfield 65, 3) := zo_181 (by decide +kernel)
theorem dX11_init_137 : decode cX11_init 137 = .ok (.aload_n 0, 1) := zo_42 (by decide +kernel)
theorem dX11_init_138 : decode cX11_init 138 = .ok (.sipush 1000, 3) := zo_17 (by decide +kernel)
theorem dX11_init_141 : decode cX11_init 141 = .ok (.newarray .int, 2) := by decide +kernel
theorem dX11_init_143 : decode cX11_init 143 = .ok (.putfield 69, 3) := zo_181 (by decide +kernel)
theorem dX11_init_146 : decode cX11_init 146 = .ok (.return_, 1) := zo_177 (by decide +kernel)
theorem dX11_trees_0 : decode cX11_trees 0 = .ok (.aload_n 0, 1) := zo_42 (by decide +kernel)
theorem dX11_trees_1 : decode cX11_trees 1 = .ok (.getfield 10, 3) := zo_180 (by decide +kernel)
theorem dX11_trees_4 : decode cX11_trees 4 = .ok (.iload_n 1, 1) := zo_27 (by decide +kernel)
theorem dX11_trees_5 : decode cX11_trees 5 = .ok (.invokevirtual 121, 3) := zo_182 (by decide +kernel)
theorem dX11_trees_8 : decode cX11_trees 8 = .ok (.astore_n 2, 1) := zo_77 (by decide +kernel)
theorem dX11_trees_9 : decode cX11_trees 9 = .ok (.aload_n 2, 1) := zo_44 (by decide +kernel)
theorem dX11_trees_10 : decode cX11_trees 10 = .ok (.ifnonnull 5, 3) := zo_199 (by decide +kernel)
theorem dX11_trees_13 : decode cX11_trees 13 = .ok (.iconst (-1), 1) := zo_2 (by decide +kernel)
theorem dX11_trees_14 : decode cX11_trees 14 = .ok (.ireturn, 1) := zo_172 (by decide +kernel)
theorem dX11_trees_15 : decode cX11_trees 15 = .ok (.iload_n 1, 1) := zo_27 (by decide +kernel)
theorem dX11_trees_16 : decode cX11_trees 16 = .ok (.ifCond .ne 10, 3) := zo_154 (by decide +kernel)
theorem dX11_trees_19 : decode cX11_trees 19 = .ok (.aload_n 0, 1) := zo_42 (by decide +kernel)
theorem dX11_trees_20 : decode cX11_trees 20 = .ok (.getfield 55, 3) := zo_180 (by decide +kernel)
theorem dX11_trees_23 : decode cX11_trees 23 = .ok (.goto 7, 3) := zo_167 (by decide +kernel)
theorem dX11_trees_26 : decode cX11_trees 26 = .ok (.aload_n 0, 1) := zo_42 (by decide +kernel)
theorem dX11_trees_27 : decode cX11_trees 27 = .ok (.getfield 59, 3) := zo_180 (by decide +kernel)
theorem dX11_trees_30 : decode cX11_trees 30 = .ok (.astore_n 3, 1) := zo_78 (by decide +kernel)
theorem dX11_trees_31 : decode cX11_trees 31 = .ok (.aload_n 3, 1) := zo_45 (by decide +kernel)
theorem dX11_trees_32 : decode cX11_trees 32 = .ok (.aload_n 2, 1) := zo_44 (by decide +kernel)
theorem dX11_trees_33 : decode cX11_trees 33 = .ok (.invokevirtual 268, 3) := zo_182 (by decide +kernel)
theorem dX11_trees_36 : decode cX11_trees 36 = .ok (.ireturn, 1) := zo_172 (by decide +kernel)
set_option maxHeartbeats 4000000 in
set_option maxRecDepth 100000 in
theorem c_x_init (l : Launch) (T : zTy) (xo : Nat) : zMv l T yX11_init cX11_init 1 8 201 5797 [.ref xo] [[(xo, .inr (10, [.null, .null, .null, .null, .null, .null, .null, .null, .null, .null, .null]))]] (fun bs => ∃ (t : Nat) (im : Nat) (mk : Nat) (rd : Nat) (po : Nat) (co : Nat) (tr : Nat) (wa : Nat) (wb_ : Nat) (fi : Nat) (cd : Nat) (l0 : Nat) (l1 : Nat) (d0 : Nat) (d1 : Nat) (g0 : Nat) (g1 : Nat) (wt : va_W) (vl0 : va_W) (vl1 : va_W) (vd0 : va_W) (vd1 : va_W) (vg0 : va_W) (vg1 : va_W) (m0 : Nat) (l0a : Nat) (l1a : Nat) (d0a : Nat) (d1a : Nat) (g0a : Nat) (g1a : Nat) (wta : va_W) (vl0a : va_W) (vl1a : va_W) (vd0a : va_W) (vd1a : va_W) (vg0a : va_W) (vg1a : va_W) (m1 : Nat) (l0b : Nat) (l1b : Nat) (d0b : Nat) (d1b : Nat) (g0b : Nat) (g1b : Nat) (wtb : va_W) (vl0b : va_W) (vl1b : va_W) (vd0b : va_W) (vd1b : va_W) (vg0b : va_W) (vg1b : va_W) (m2 : Nat) (l0c : Nat) (l1c : Nat) (d0c : Nat) (d1c : Nat) (g0c : Nat) (g1c : Nat) (wtc : va_W) (vl0c : va_W) (vl1c : va_W) (vd0c : va_W) (vd1c : va_W) (vg0c : va_W) (vg1c : va_W) (qi : Nat → Option Nat) (rl : Nat) (rdd : Nat) (rg : Nat) (tq : Nat) (z : va_W) (wd : va_W) (wg : va_W) (lp : Nat) (wp : va_W) (cpo : Nat) (cla : Nat) (wc : va_W) (cpl : Nat) (wcp : va_W) (tpo : Nat) (wr : va_W) (tpl : Nat) (wrp : va_W) (laA : Nat) (wwA : va_W) (laB : Nat) (wwB : va_W) (wff : va_W), bs = [[zO10 xo t im mk rd po co tr wa wb_ fi cd], wt, vl0, vl1, vd0, vd1, vg0, vg1, wta, vl0a, vl1a, vd0a, vd1a, vg0a, vg1a, wtb, vl0b, vl1b, vd0b, vd1b, vg0b, vg1b, wtc, vl0c, vl1c, vd0c, vd1c, vg0c, vg1c, [zArq T 6 im 3 qi], [zAr T 2 mk 3 (fun _ => 0)], [zO7 rd rl rdd rg 0 0 tq 0 0 0 0 0 0 0], z, wd, wg, wp, wc, wcp, wr, wrp, wwA, wwB, wff, [zAr T 0 cd 1000 (fun _ => 0)]] ∧ bTold T t l0 l1 d0 d1 g0 g1 0 0 (-1) (fun _ => 0) (fun _ => 0) wt ∧ bLand T l0 0 0 (fun _ => 0) (fun _ => 0) (fun _ => 0) (fun _ => 0) vl0 ∧ bLand T l1 0 0 (fun _ => 0) (fun _ => 0) (fun _ => 0) (fun _ => 0) vl1 ∧ bDay T d0 0 (fun _ => 0) (fun _ => 0) (fun _ => 0) vd0 ∧ bDay T d1 0 (fun _ => 0) (fun _ => 0) (fun _ => 0) vd1 ∧ bLog T g0 0 (fun _ => 0) (fun _ => 0) vg0 ∧ bLog T g1 0 (fun _ => 0) (fun _ => 0) vg1 ∧ bTold T m0 l0a l1a d0a d1a g0a g1a 0 0 (-1) (fun _ => 0) (fun _ => 0) wta ∧ bLand T l0a 0 0 (fun _ => 0) (fun _ => 0) (fun _ => 0) (fun _ => 0) vl0a ∧ bLand T l1a 0 0 (fun _ => 0) (fun _ => 0) (fun _ => 0) (fun _ => 0) vl1a ∧ bDay T d0a 0 (fun _ => 0) (fun _ => 0) (fun _ => 0) vd0a ∧ bDay T d1a 0 (fun _ => 0) (fun _ => 0) (fun _ => 0) vd1a ∧ bLog T g0a 0 (fun _ => 0) (fun _ => 0) vg0a ∧ bLog T g1a 0 (fun _ => 0) (fun _ => 0) vg1a ∧ bTold T m1 l0b l1b d0b d1b g0b g1b 0 0 (-1) (fun _ => 0) (fun _ => 0) wtb ∧ bLand T l0b 0 0 (fun _ => 0) (fun _ => 0) (fun _ => 0) (fun _ => 0) vl0b ∧ bLand T l1b 0 0 (fun _ => 0) (fun _ => 0) (fun _ => 0) (fun _ => 0) vl1b ∧ bDay T d0b 0 (fun _ => 0) (fun _ => 0) (fun _ => 0) vd0b ∧ bDay T d1b 0 (fun _ => 0) (fun _ => 0) (fun _ => 0) vd1b ∧ bLog T g0b 0 (fun _ => 0) (fun _ => 0) vg0b ∧ bLog T g1b 0 (fun _ => 0) (fun _ => 0) vg1b ∧ bTold T m2 l0c l1c d0c d1c g0c g1c 0 0 (-1) (fun _ => 0) (fun _ => 0) wtc ∧ bLand T l0c 0 0 (fun _ => 0) (fun _ => 0) (fun _ => 0) (fun _ => 0) vl0c ∧ bLand T l1c 0 0 (fun _ => 0) (fun _ => 0) (fun _ => 0) (fun _ => 0) vl1c ∧ bDay T d0c 0 (fun _ => 0) (fun _ => 0) (fun _ => 0) vd0c ∧ bDay T d1c 0 (fun _ => 0) (fun _ => 0) (fun _ => 0) vd1c ∧ bLog T g0c 0 (fun _ => 0) (fun _ => 0) vg0c ∧ bLog T g1c 0 (fun _ => 0) (fun _ => 0) vg1c ∧ qi 0 = some m0 ∧ qi 1 = some m1 ∧ qi 2 = some m2 ∧ bLand T rl 0 0 (fun _ => 0) (fun _ => 0) (fun _ => 0) (fun _ => 0) z ∧ bDay T rdd 0 (fun _ => 0) (fun _ => 0) (fun _ => 0) wd ∧ bLog T rg 0 (fun _ => 0) (fun _ => 0) wg ∧ bPosts T po lp (fun _ => 0) (fun _ => 0) (fun _ => 0) 0 0 wp ∧ bCourse T co cpo cla (fun _ => 0) 0 0 0 0 0 0 0 0 wc ∧ bPosts T cpo cpl (fun _ => 0) (fun _ => 0) (fun _ => 0) 0 0 wcp ∧ bTrail T tr tpo (fun _ => 0) (fun _ => 0) 0 0 0 0 0 wr ∧ bPosts T tpo tpl (fun _ => 0) (fun _ => 0) (fun _ => 0) 0 0 wrp ∧ bWays T wa laA 0 0 0 (fun _ => 0) (fun _ => 0) (fun _ => 0) (fun _ => 0) (fun _ => 0) (fun _ => 0) 0 wwA ∧ bWays T wb_ laB 0 0 0 (fun _ => 0) (fun _ => 0) (fun _ => 0) (fun _ => 0) (fun _ => 0) (fun _ => 0) 0 wwB ∧ bFit T fi 0 (-1) (-1) 0 0 0 (fun _ => 0) 0 (fun _ => 0) wff) := by
  refine zMv_of (own := RX11) (by decide) rfl (Nat.le_of_ble_eq_true rfl) ?_
  intro p e s m args below meth c A ls C hr hlocks hnm hAe G hl
  refine zHide (fun Q9 hQ9 => ?_)
  have hx := C.1
  have hb := C.2.1
  have hl : lv_has ls 1 [(0, .ref xo)] := hl
  refine lv_aload_n hx hb dX11_init_0 rfl (lv_at hl 0 rfl) ?_
  refine W.objInit hx hb C.2.2.2.1 (C.2.2.2.2 _ m_ml_RX11_1) (C.2.2.2.2 _ m_im_obj) (C.2.2.2.2 _ m_co_obj) rfl (by rw [C.2.2.1]; exact hl.1) rfl dX11_init_1 (Nat.le_of_ble_eq_true rfl) (Nat.le_of_ble_eq_true rfl) ?_
  refine W.eq (g2 := F0 m 4 ls []) rfl ?_
  refine lv_aload_n hx hb dX11_init_4 rfl (lv_at hl 0 rfl) ?_
  refine z_new C G clX9 (fs := [.null, .int 0, .int 0, .int 0, .null, .null, .null, .null]) m_cl_RX11_7 m_in_RX9 m_ii_RX9 (fun j hj => by match j, hj with | 0, _ => rfl | 1, _ => rfl | 2, _ => rfl | 3, _ => rfl | 4, _ => rfl | 5, _ => rfl | 6, _ => rfl | 7, _ => rfl | j + 8, h => exact absurd h (by omega)) (Nat.le_of_ble_eq_true rfl) (Nat.le_of_ble_eq_true rfl) dX11_init_5 (fun q_1 H G => ?_)
  have G : zS T A s.heap s [[(xo, .inr (10, [.null, .null, .null, .null, .null, .null, .null, .null, .null, .null, .null]))], [(q_1, .inr (8, [.null, .int 0, .int 0, .int 0, .null, .null, .null, .null]))]] _ _ := G
  refine lv_dup hx hb dX11_init_8 rfl ?_
  refine z_Jv (bc := [[(q_1, .inr (8, [.null, .int 0, .int 0, .int 0, .null, .null, .null, .null]))]]) (br := [[(xo, .inr (10, [.null, .null, .null, .null, .null, .null, .null, .null, .null, .null, .null]))]]) (As := []) (rest := [.ref q_1, .ref xo]) C G (c_Told_init l T q_1) (kJ_RX11_9 G.2.2.2.2.2.1 C.2.2.2.2 (Nat.le_of_ble_eq_true rfl) (Nat.le_of_ble_eq_true rfl)) [1] [1] rfl rfl rfl rfl hl.1 dX11_init_9 (Nat.le_of_ble_eq_true rfl) (Nat.le_of_ble_eq_true rfl) (fun b1 H locs hw G => ?_)
  refine zEx13 hw ?_
  intro w_2 l0_3 l1_4 d0_5 d1_6 g0_7 g1_8 w1_9 w2_10 w3_11 w4_12 w5_13 w6_14
  refine zCu8 ?_
  intro hbs9 h_15 h_16 h_17 h_18 h_19 h_20 h_21
  clear hw
  subst hbs9
  have G : zS T A s.heap s [[(xo, .inr (10, [.null, .null, .null, .null, .null, .null, .null, .null, .null, .null, .null]))], w_2, w1_9, w2_10, w3_11, w4_12, w5_13, w6_14] _ _ := G
  refine z_putF C G hnm clX11 0 rfl 0 (by decide) m_fl_RX11_10 rfl rfl rfl rfl (Nat.le_of_ble_eq_true rfl) dX11_init_12 (fun H locs G => ?_)
  have G : zS T A s.heap s [[(xo, .inr (10, [.ref q_1, .null, .null, .null, .null, .null, .null, .null, .null, .null, .null]))], w_2, w1_9, w2_10, w3_11, w4_12, w5_13, w6_14] _ _ := G
  refine lv_aload_n hx hb dX11_init_15 rfl (lv_at hl 0 rfl) ?_
  refine lv_iconst (v := 3) hx hb dX11_init_16 (by decide) ?_
  refine z_newq C G 6 rfl m_cl_RX11_7 (List.mem_of_getElem? (i := 3) rfl) (N' := 3) (by decide) (by decide) (by decide) (Nat.le_of_ble_eq_true rfl) (Nat.le_of_ble_eq_true rfl) dX11_init_17 (fun q_23 H G => ?_)
  have G : zS T A s.heap s [[(xo, .inr (10, [.ref q_1, .null, .null, .null, .null, .null, .null, .null, .null, .null, .null]))], w_2, w1_9, w2_10, w3_11, w4_12, w5_13, w6_14, [zArq T 6 q_23 3 (fun _ => none)]] _ _ := G
  refine lv_dup hx hb dX11_init_20 rfl ?_
  refine lv_iconst (v := 0) hx hb dX11_init_21 (by decide) ?_
  refine z_new C G clX9 (fs := [.null, .int 0, .int 0, .int 0, .null, .null, .null, .null]) m_cl_RX11_7 m_in_RX9 m_ii_RX9 (fun j hj => by match j, hj with | 0, _ => rfl | 1, _ => rfl | 2, _ => rfl | 3, _ => rfl | 4, _ => rfl | 5, _ => rfl | 6, _ => rfl | 7, _ => rfl | j + 8, h => exact absurd h (by omega)) (Nat.le_of_ble_eq_true rfl) (Nat.le_of_ble_eq_true rfl) dX11_init_22 (fun q_24 H G => ?_)
  have G : zS T A s.heap s [[(xo, .inr (10, [.ref q_1, .null, .null, .null, .null, .null, .null, .null, .null, .null, .null]))], w_2, w1_9, w2_10, w3_11, w4_12, w5_13, w6_14, [zArq T 6 q_23 3 (fun _ => none)], [(q_24, .inr (8, [.null, .int 0, .int 0, .int 0, .null, .null, .null, .null]))]] _ _ := G
  refine lv_dup hx hb dX11_init_25 rfl ?_
  refine z_Jv (bc := [[(q_24, .inr (8, [.null, .int 0, .int 0, .int 0, .null, .null, .null, .null]))]]) (br := [[(xo, .inr (10, [.ref q_1, .null, .null, .null, .null, .null, .null, .null, .null, .null, .null]))], w_2, w1_9, w2_10, w3_11, w4_12, w5_13, w6_14, [zArq T 6 q_23 3 (fun _ => none)]]) (As := []) (rest := [.ref q_24, .int 0, .ref q_23, .ref q_23, .ref xo]) C G (c_Told_init l T q_24) (kJ_RX11_9 G.2.2.2.2.2.1 C.2.2.2.2 (Nat.le_of_ble_eq_true rfl) (Nat.le_of_ble_eq_true rfl)) [9] [9] rfl rfl rfl rfl hl.1 dX11_init_26 (Nat.le_of_ble_eq_true rfl) (Nat.le_of_ble_eq_true rfl) (fun b1 H locs hw G => ?_)
  refine zEx13 hw ?_
  intro w_25 l0_26 l1_27 d0_28 d1_29 g0_30 g1_31 w1_32 w2_33 w3_34 w4_35 w5_36 w6_37
  refine zCu8 ?_
  intro hbs9 h_38 h_39 h_40 h_41 h_42 h_43 h_44
  clear hw
  subst hbs9
  have G : zS T A s.heap s [[(xo, .inr (10, [.ref q_1, .null, .null, .null, .null, .null, .null, .null, .null, .null, .null]))], w_2, w1_9, w2_10, w3_11, w4_12, w5_13, w6_14, [zArq T 6 q_23 3 (fun _ => none)], w_25, w1_32, w2_33, w3_34, w4_35, w5_36, w6_37] _ _ := G
  refine z_ast C G 8 6 (ci := 8) (r := (RX9, TX9, 8)) rfl rfl (List.mem_flatten.mpr ⟨_, List.mem_of_getElem? (i := 9) rfl, (bTold_mem h_38).choose_spec⟩) rfl (vp_in_nI (n := 0) (by decide) (by decide)) dX11_init_29 (fun H locs G => ?_)
  have G : zS T A s.heap s [[(xo, .inr (10, [.ref q_1, .null, .null, .null, .null, .null, .null, .null, .null, .null, .null]))], w_2, w1_9, w2_10, w3_11, w4_12, w5_13, w6_14, [zArq T 6 q_23 3 (va_up (fun _ => none) 0 (some q_24))], w_25, w1_32, w2_33, w3_34, w4_35, w5_36, w6_37] _ _ := G
  refine lv_dup hx hb dX11_init_30 rfl ?_
  refine lv_iconst (v := 1) hx hb dX11_init_31 (by decide) ?_
  refine z_new C G clX9 (fs := [.null, .int 0, .int 0, .int 0, .null, .null, .null, .null]) m_cl_RX11_7 m_in_RX9 m_ii_RX9 (fun j hj => by match j, hj with | 0, _ => rfl | 1, _ => rfl | 2, _ => rfl | 3, _ => rfl | 4, _ => rfl | 5, _ => rfl | 6, _ => rfl | 7, _ => rfl | j + 8, h => exact absurd h (by omega)) (Nat.le_of_ble_eq_true rfl) (Nat.le_of_ble_eq_true rfl) dX11_init_32 (fun q_46 H G => ?_)
  have G : zS T A s.heap s [[(xo, .inr (10, [.ref q_1, .null, .null, .null, .null, .null, .null, .null, .null, .null, .null]))], w_2, w1_9, w2_10, w3_11, w4_12, w5_13, w6_14, [zArq T 6 q_23 3 (va_up (fun _ => none) 0 (some q_24))], w_25, w1_32, w2_33, w3_34, w4_35, w5_36, w6_37, [(q_46, .inr (8, [.null, .int 0, .int 0, .int 0, .null, .null, .null, .null]))]] _ _ := G
  refine lv_dup hx hb dX11_init_35 rfl ?_
  refine z_Jv (bc := [[(q_46, .inr (8, [.null, .int 0, .int 0, .int 0, .null, .null, .null, .null]))]]) (br := [[(xo, .inr (10, [.ref q_1, .null, .null, .null, .null, .null, .null, .null, .null, .null, .null]))], w_2, w1_9, w2_10, w3_11, w4_12, w5_13, w6_14, [zArq T 6 q_23 3 (va_up (fun _ => none) 0 (some q_24))], w_25, w1_32, w2_33, w3_34, w4_35, w5_36, w6_37]) (As := []) (rest := [.ref q_46, .int 1, .ref q_23, .ref q_23, .ref xo]) C G (c_Told_init l T q_46) (kJ_RX11_9 G.2.2.2.2.2.1 C.2.2.2.2 (Nat.le_of_ble_eq_true rfl) (Nat.le_of_ble_eq_true rfl)) [16] [16] rfl rfl rfl rfl hl.1 dX11_init_36 (Nat.le_of_ble_eq_true rfl) (Nat.le_of_ble_eq_true rfl) (fun b1 H locs hw G => ?_)
  refine zEx13 hw ?_
  intro w_47 l0_48 l1_49 d0_50 d1_51 g0_52 g1_53 w1_54 w2_55 w3_56 w4_57 w5_58 w6_59
  refine zCu8 ?_
  intro hbs9 h_60 h_61 h_62 h_63 h_64 h_65 h_66
  clear hw
  subst hbs9
  have G : zS T A s.heap s [[(xo, .inr (10, [.ref q_1, .null, .null, .null, .null, .null, .null, .null, .null, .null, .null]))], w_2, w1_9, w2_10, w3_11, w4_12, w5_13, w6_14, [zArq T 6 q_23 3 (va_up (fun _ => none) 0 (some q_24))], w_25, w1_32, w2_33, w3_34, w4_35, w5_36, w6_37, w_47, w1_54, w2_55, w3_56, w4_57, w5_58, w6_59] _ _ := G
  refine z_ast C G 8 6 (ci := 8) (r := (RX9, TX9, 8)) rfl rfl (List.mem_flatten.mpr ⟨_, List.mem_of_getElem? (i := 16) rfl, (bTold_mem h_60).choose_spec⟩) rfl (vp_in_nI (n := 1) (by decide) (by decide)) dX11_init_39 (fun H locs G => ?_)
  have G : zS T A s.heap s [[(xo, .inr (10, [.ref q_1, .null, .null, .null, .null, .null, .null, .null, .null, .null, .null]))], w_2, w1_9, w2_10, w3_11, w4_12, w5_13, w6_14, [zArq T 6 q_23 3 (va_up (va_up (fun _ => none) 0 (some q_24)) 1 (some q_46))], w_25, w1_32, w2_33, w3_34, w4_35, w5_36, w6_37, w_47, w1_54, w2_55, w3_56, w4_57, w5_58, w6_59] _ _ := G
  refine lv_dup hx hb dX11_init_40 rfl ?_
  refine lv_iconst (v := 2) hx hb dX11_init_41 (by decide) ?_
  refine z_new C G clX9 (fs := [.null, .int 0, .int 0, .int 0, .null, .null, .null, .null]) m_cl_RX11_7 m_in_RX9 m_ii_RX9 (fun j hj => by match j, hj with | 0, _ => rfl | 1, _ => rfl | 2, _ => rfl | 3, _ => rfl | 4, _ => rfl | 5, _ => rfl | 6, _ => rfl | 7, _ => rfl | j + 8, h => exact absurd h (by omega)) (Nat.le_of_ble_eq_true rfl) (Nat.le_of_ble_eq_true rfl) dX11_init_42 (fun q_68 H G => ?_)
  have G : zS T A s.heap s [[(xo, .inr (10, [.ref q_1, .null, .null, .null, .null, .null, .null, .null, .null, .null, .null]))], w_2, w1_9, w2_10, w3_11, w4_12, w5_13, w6_14, [zArq T 6 q_23 3 (va_up (va_up (fun _ => none) 0 (some q_24)) 1 (some q_46))], w_25, w1_32, w2_33, w3_34, w4_35, w5_36, w6_37, w_47, w1_54, w2_55, w3_56, w4_57, w5_58, w6_59, [(q_68, .inr (8, [.null, .int 0, .int 0, .int 0, .null, .null, .null, .null]))]] _ _ := G
  refine lv_dup hx hb dX11_init_45 rfl ?_
  refine z_Jv (bc := [[(q_68, .inr (8, [.null, .int 0, .int 0, .int 0, .null, .null, .null, .null]))]]) (br := [[(xo, .inr (10, [.ref q_1, .null, .null, .null, .null, .null, .null, .null, .null, .null, .null]))], w_2, w1_9, w2_10, w3_11, w4_12, w5_13, w6_14, [zArq T 6 q_23 3 (va_up (va_up (fun _ => none) 0 (some q_24)) 1 (some q_46))], w_25, w1_32, w2_33, w3_34, w4_35, w5_36, w6_37, w_47, w1_54, w2_55, w3_56, w4_57, w5_58, w6_59]) (As := []) (rest := [.ref q_68, .int 2, .ref q_23, .ref q_23, .ref xo]) C G (c_Told_init l T q_68) (kJ_RX11_9 G.2.2.2.2.2.1 C.2.2.2.2 (Nat.le_of_ble_eq_true rfl) (Nat.le_of_ble_eq_true rfl)) [23] [23] rfl rfl rfl rfl hl.1 dX11_init_46 (Nat.le_of_ble_eq_true rfl) (Nat.le_of_ble_eq_true rfl) (fun b1 H locs hw G => ?_)
  refine zEx13 hw ?_
  intro w_69 l0_70 l1_71 d0_72 d1_73 g0_74 g1_75 w1_76 w2_77 w3_78 w4_79 w5_80 w6_81
  refine zCu8 ?_
  intro hbs9 h_82 h_83 h_84 h_85 h_86 h_87 h_88
  clear hw
  subst hbs9
  have G : zS T A s.heap s [[(xo, .inr (10, [.ref q_1, .null, .null, .null, .null, .null, .null, .null, .null, .null, .null]))], w_2, w1_9, w2_10, w3_11, w4_12, w5_13, w6_14, [zArq T 6 q_23 3 (va_up (va_up (fun _ => none) 0 (some q_24)) 1 (some q_46))], w_25, w1_32, w2_33, w3_34, w4_35, w5_36, w6_37, w_47, w1_54, w2_55, w3_56, w4_57, w5_58, w6_59, w_69, w1_76, w2_77, w3_78, w4_79, w5_80, w6_81] _ _ := G
  refine z_ast C G 8 6 (ci := 8) (r := (RX9, TX9, 8)) rfl rfl (List.mem_flatten.mpr ⟨_, List.mem_of_getElem? (i := 23) rfl, (bTold_mem h_82).choose_spec⟩) rfl (vp_in_nI (n := 2) (by decide) (by decide)) dX11_init_49 (fun H locs G => ?_)
  have G : zS T A s.heap s [[(xo, .inr (10, [.ref q_1, .null, .null, .null, .null, .null, .null, .null, .null, .null, .null]))], w_2, w1_9, w2_10, w3_11, w4_12, w5_13, w6_14, [zArq T 6 q_23 3 (va_up (va_up (va_up (fun _ => none) 0 (some q_24)) 1 (some q_46)) 2 (some q_68))], w_25, w1_32, w2_33, w3_34, w4_35, w5_36, w6_37, w_47, w1_54, w2_55, w3_56, w4_57, w5_58, w6_59, w_69, w1_76, w2_77, w3_78, w4_79, w5_80, w6_81] _ _ := G
  refine z_putF C G hnm clX11 0 rfl 1 (by decide) m_fl_RX11_16 rfl rfl rfl rfl (Nat.le_of_ble_eq_true rfl) dX11_init_50 (fun H locs G => ?_)
  have G : zS T A s.heap s [[(xo, .inr (10, [.ref q_1, .ref q_23, .null, .null, .null, .null, .null, .null, .null, .null, .null]))], w_2, w1_9, w2_10, w3_11, w4_12, w5_13, w6_14, [zArq T 6 q_23 3 (va_up (va_up (va_up (fun _ => none) 0 (some q_24)) 1 (some q_46)) 2 (some q_68))], w_25, w1_32, w2_33, w3_34, w4_35, w5_36, w6_37, w_47, w1_54, w2_55, w3_56, w4_57, w5_58, w6_59, w_69, w1_76, w2_77, w3_78, w4_79, w5_80, w6_81] _ _ := G
  refine lv_aload_n hx hb dX11_init_53 rfl (lv_at hl 0 rfl) ?_
  refine lv_iconst (v := 3) hx hb dX11_init_54 (by decide) ?_
  refine z_newa C G 2 (ty := .boolean) (N' := 3) (a0 := (3, .inl (fun _ => 0))) rfl z_uboolean m_ar_boolean rfl (fun _ => rfl) (by decide) (by decide) (Nat.le_of_ble_eq_true rfl) (Nat.le_of_ble_eq_true rfl) (Nat.le_of_ble_eq_true rfl) dX11_init_55 (fun q_90 H G => ?_)
  have G : zS T A s.heap s [[(xo, .inr (10, [.ref q_1, .ref q_23, .null, .null, .null, .null, .null, .null, .null, .null, .null]))], w_2, w1_9, w2_10, w3_11, w4_12, w5_13, w6_14, [zArq T 6 q_23 3 (va_up (va_up (va_up (fun _ => none) 0 (some q_24)) 1 (some q_46)) 2 (some q_68))], w_25, w1_32, w2_33, w3_34, w4_35, w5_36, w6_37, w_47, w1_54, w2_55, w3_56, w4_57, w5_58, w6_59, w_69, w1_76, w2_77, w3_78, w4_79, w5_80, w6_81, [zAr T 2 q_90 3 (fun _ => 0)]] _ _ := G
  refine z_putF C G hnm clX11 0 rfl 2 (by decide) m_fl_RX11_20 rfl rfl rfl rfl (Nat.le_of_ble_eq_true rfl) dX11_init_57 (fun H locs G => ?_)
  have G : zS T A s.heap s [[(xo, .inr (10, [.ref q_1, .ref q_23, .ref q_90, .null, .null, .null, .null, .null, .null, .null, .null]))], w_2, w1_9, w2_10, w3_11, w4_12, w5_13, w6_14, [zArq T 6 q_23 3 (va_up (va_up (va_up (fun _ => none) 0 (some q_24)) 1 (some q_46)) 2 (some q_68))], w_25, w1_32, w2_33, w3_34, w4_35, w5_36, w6_37, w_47, w1_54, w2_55, w3_56, w4_57, w5_58, w6_59, w_69, w1_76, w2_77, w3_78, w4_79, w5_80, w6_81, [zAr T 2 q_90 3 (fun _ => 0)]] _ _ := G
  refine lv_aload_n hx hb dX11_init_60 rfl (lv_at hl 0 rfl) ?_
  refine z_new C G clX7 (fs := [.null, .null, .null, .int 0, .int 0, .null, .int 0, .int 0, .int 0, .int 0, .int 0, .int 0, .int 0]) m_cl_RX11_24 m_in_RX7 m_ii_RX7 (fun j hj => by match j, hj with | 0, _ => rfl | 1, _ => rfl | 2, _ => rfl | 3, _ => rfl | 4, _ => rfl | 5, _ => rfl | 6, _ => rfl | 7, _ => rfl | 8, _ => rfl | 9, _ => rfl | 10, _ => rfl | 11, _ => rfl | 12, _ => rfl | j + 13, h => exact absurd h (by omega)) (Nat.le_of_ble_eq_true rfl) (Nat.le_of_ble_eq_true rfl) dX11_init_61 (fun q_91 H G => ?_)
  have G : zS T A s.heap s [[(xo, .inr (10, [.ref q_1, .ref q_23, .ref q_90, .null, .null, .null, .null, .null, .null, .null, .null]))], w_2, w1_9, w2_10, w3_11, w4_12, w5_13, w6_14, [zArq T 6 q_23 3 (va_up (va_up (va_up (fun _ => none) 0 (some q_24)) 1 (some q_46)) 2 (some q_68))], w_25, w1_32, w2_33, w3_34, w4_35, w5_36, w6_37, w_47, w1_54, w2_55, w3_56, w4_57, w5_58, w6_59, w_69, w1_76, w2_77, w3_78, w4_79, w5_80, w6_81, [zAr T 2 q_90 3 (fun _ => 0)], [(q_91, .inr (7, [.null, .null, .null, .int 0, .int 0, .null, .int 0, .int 0, .int 0, .int 0, .int 0, .int 0, .int 0]))]] _ _ := G
  refine lv_dup hx hb dX11_init_64 rfl ?_
  refine z_Jv (bc := [[(q_91, .inr (7, [.null, .null, .null, .int 0, .int 0, .null, .int 0, .int 0, .int 0, .int 0, .int 0, .int 0, .int 0]))]]) (br := [[(xo, .inr (10, [.ref q_1, .ref q_23, .ref q_90, .null, .null, .null, .null, .null, .null, .null, .null]))], w_2, w1_9, w2_10, w3_11, w4_12, w5_13, w6_14, [zArq T 6 q_23 3 (va_up (va_up (va_up (fun _ => none) 0 (some q_24)) 1 (some q_46)) 2 (some q_68))], w_25, w1_32, w2_33, w3_34, w4_35, w5_36, w6_37, w_47, w1_54, w2_55, w3_56, w4_57, w5_58, w6_59, w_69, w1_76, w2_77, w3_78, w4_79, w5_80, w6_81, [zAr T 2 q_90 3 (fun _ => 0)]]) (As := []) (rest := [.ref q_91, .ref xo]) C G (c_Reader_init l T q_91) (kJ_RX11_26 G.2.2.2.2.2.1 C.2.2.2.2 (Nat.le_of_ble_eq_true rfl) (Nat.le_of_ble_eq_true rfl)) [31] [31] rfl rfl rfl rfl hl.1 dX11_init_65 (Nat.le_of_ble_eq_true rfl) (Nat.le_of_ble_eq_true rfl) (fun b1 H locs hw G => ?_)
  refine zEx7 hw ?_
  intro rl_92 rdd_93 rg_94 tp_95 w1_96 w2_97 w3_98
  refine zCu4 ?_
  intro hbs9 h_99 h_100 h_101
  clear hw
  subst hbs9
  have G : zS T A s.heap s [[(xo, .inr (10, [.ref q_1, .ref q_23, .ref q_90, .null, .null, .null, .null, .null, .null, .null, .null]))], w_2, w1_9, w2_10, w3_11, w4_12, w5_13, w6_14, [zArq T 6 q_23 3 (va_up (va_up (va_up (fun _ => none) 0 (some q_24)) 1 (some q_46)) 2 (some q_68))], w_25, w1_32, w2_33, w3_34, w4_35, w5_36, w6_37, w_47, w1_54, w2_55, w3_56, w4_57, w5_58, w6_59, w_69, w1_76, w2_77, w3_78, w4_79, w5_80, w6_81, [zAr T 2 q_90 3 (fun _ => 0)], [zO7 q_91 rl_92 rdd_93 rg_94 0 0 tp_95 0 0 0 0 0 0 0], w1_96, w2_97, w3_98] _ _ := G
  refine z_putF C G hnm clX11 0 rfl 3 (by decide) m_fl_RX11_27 rfl rfl rfl rfl (Nat.le_of_ble_eq_true rfl) dX11_init_68 (fun H locs G => ?_)
  have G : zS T A s.heap s [[(xo, .inr (10, [.ref q_1, .ref q_23, .ref q_90, .ref q_91, .null, .null, .null, .null, .null, .null, .null]))], w_2, w1_9, w2_10, w3_11, w4_12, w5_13, w6_14, [zArq T 6 q_23 3 (va_up (va_up (va_up (fun _ => none) 0 (some q_24)) 1 (some q_46)) 2 (some q_68))], w_25, w1_32, w2_33, w3_34, w4_35, w5_36, w6_37, w_47, w1_54, w2_55, w3_56, w4_57, w5_58, w6_59, w_69, w1_76, w2_77, w3_78, w4_79, w5_80, w6_81, [zAr T 2 q_90 3 (fun _ => 0)], [zO7 q_91 rl_92 rdd_93 rg_94 0 0 tp_95 0 0 0 0 0 0 0], w1_96, w2_97, w3_98] _ _ := G
  refine lv_aload_n hx hb dX11_init_71 rfl (lv_at hl 0 rfl) ?_
  refine z_new C G clX6 (fs := [.null, .null, .null, .int 0, .int 0, .null]) m_cl_RX11_31 m_in_RX6 m_ii_RX6 (fun j hj => by match j, hj with | 0, _ => rfl | 1, _ => rfl | 2, _ => rfl | 3, _ => rfl | 4, _ => rfl | 5, _ => rfl | j + 6, h => exact absurd h (by omega)) (Nat.le_of_ble_eq_true rfl) (Nat.le_of_ble_eq_true rfl) dX11_init_72 (fun q_103 H G => ?_)
  have G : zS T A s.heap s [[(xo, .inr (10, [.ref q_1, .ref q_23, .ref q_90, .ref q_91, .null, .null, .null, .null, .null, .null, .null]))], w_2, w1_9, w2_10, w3_11, w4_12, w5_13, w6_14, [zArq T 6 q_23 3 (va_up (va_up (va_up (fun _ => none) 0 (some q_24)) 1 (some q_46)) 2 (some q_68))], w_25, w1_32, w2_33, w3_34, w4_35, w5_36, w6_37, w_47, w1_54, w2_55, w3_56, w4_57, w5_58, w6_59, w_69, w1_76, w2_77, w3_78, w4_79, w5_80, w6_81, [zAr T 2 q_90 3 (fun _ => 0)], [zO7 q_91 rl_92 rdd_93 rg_94 0 0 tp_95 0 0 0 0 0 0 0], w1_96, w2_97, w3_98, [(q_103, .inr (6, [.null, .null, .null, .int 0, .int 0, .null]))]] _ _ := G
  refine lv_dup hx hb dX11_init_75 rfl ?_
  refine z_Jv (bc := [[(q_103, .inr (6, [.null, .null, .null, .int 0, .int 0, .null]))]]) (br := [[(xo, .inr (10, [.ref q_1, .ref q_23, .ref q_90, .ref q_91, .null, .null, .null, .null, .null, .null, .null]))], w_2, w1_9, w2_10, w3_11, w4_12, w5_13, w6_14, [zArq T 6 q_23 3 (va_up (va_up (va_up (fun _ => none) 0 (some q_24)) 1 (some q_46)) 2 (some q_68))], w_25, w1_32, w2_33, w3_34, w4_35, w5_36, w6_37, w_47, w1_54, w2_55, w3_56, w4_57, w5_58, w6_59, w_69, w1_76, w2_77, w3_78, w4_79, w5_80, w6_81, [zAr T 2 q_90 3 (fun _ => 0)], [zO7 q_91 rl_92 rdd_93 rg_94 0 0 tp_95 0 0 0 0 0 0 0], w1_96, w2_97, w3_98]) (As := []) (rest := [.ref q_103, .ref xo]) C G (c_Posts_init l T q_103) (kJ_RX11_33 G.2.2.2.2.2.1 C.2.2.2.2 (Nat.le_of_ble_eq_true rfl) (Nat.le_of_ble_eq_true rfl)) [35] [35] rfl rfl rfl rfl hl.1 dX11_init_76 (Nat.le_of_ble_eq_true rfl) (Nat.le_of_ble_eq_true rfl) (fun b1 H locs hw G => ?_)
  refine zEx2 hw ?_
  intro w_104 la_105
  refine zCu2 ?_
  intro hbs9 h_106
  clear hw
  subst hbs9
  have G : zS T A s.heap s [[(xo, .inr (10, [.ref q_1, .ref q_23, .ref q_90, .ref q_91, .null, .null, .null, .null, .null, .null, .null]))], w_2, w1_9, w2_10, w3_11, w4_12, w5_13, w6_14, [zArq T 6 q_23 3 (va_up (va_up (va_up (fun _ => none) 0 (some q_24)) 1 (some q_46)) 2 (some q_68))], w_25, w1_32, w2_33, w3_34, w4_35, w5_36, w6_37, w_47, w1_54, w2_55, w3_56, w4_57, w5_58, w6_59, w_69, w1_76, w2_77, w3_78, w4_79, w5_80, w6_81, [zAr T 2 q_90 3 (fun _ => 0)], [zO7 q_91 rl_92 rdd_93 rg_94 0 0 tp_95 0 0 0 0 0 0 0], w1_96, w2_97, w3_98, w_104] _ _ := G
  refine z_putF C G hnm clX11 0 rfl 4 (by decide) m_fl_RX11_34 rfl rfl rfl rfl (Nat.le_of_ble_eq_true rfl) dX11_init_79 (fun H locs G => ?_)
  have G : zS T A s.heap s [[(xo, .inr (10, [.ref q_1, .ref q_23, .ref q_90, .ref q_91, .ref q_103, .null, .null, .null, .null, .null, .null]))], w_2, w1_9, w2_10, w3_11, w4_12, w5_13, w6_14, [zArq T 6 q_23 3 (va_up (va_up (va_up (fun _ => none) 0 (some q_24)) 1 (some q_46)) 2 (some q_68))], w_25, w1_32, w2_33, w3_34, w4_35, w5_36, w6_37, w_47, w1_54, w2_55, w3_56, w4_57, w5_58, w6_59, w_69, w1_76, w2_77, w3_78, w4_79, w5_80, w6_81, [zAr T 2 q_90 3 (fun _ => 0)], [zO7 q_91 rl_92 rdd_93 rg_94 0 0 tp_95 0 0 0 0 0 0 0], w1_96, w2_97, w3_98, w_104] _ _ := G
  refine lv_aload_n hx hb dX11_init_82 rfl (lv_at hl 0 rfl) ?_
  refine z_new C G clX1 (fs := [.null, .null, .int 0, .null, .int 0, .int 0, .int 0, .int 0, .int 0, .int 0, .int 0]) m_cl_RX11_38 m_in_RX1 m_ii_RX1 (fun j hj => by match j, hj with | 0, _ => rfl | 1, _ => rfl | 2, _ => rfl | 3, _ => rfl | 4, _ => rfl | 5, _ => rfl | 6, _ => rfl | 7, _ => rfl | 8, _ => rfl | 9, _ => rfl | 10, _ => rfl | j + 11, h => exact absurd h (by omega)) (Nat.le_of_ble_eq_true rfl) (Nat.le_of_ble_eq_true rfl) dX11_init_83 (fun q_108 H G => ?_)
  have G : zS T A s.heap s [[(xo, .inr (10, [.ref q_1, .ref q_23, .ref q_90, .ref q_91, .ref q_103, .null, .null, .null, .null, .null, .null]))], w_2, w1_9, w2_10, w3_11, w4_12, w5_13, w6_14, [zArq T 6 q_23 3 (va_up (va_up (va_up (fun _ => none) 0 (some q_24)) 1 (some q_46)) 2 (some q_68))], w_25, w1_32, w2_33, w3_34, w4_35, w5_36, w6_37, w_47, w1_54, w2_55, w3_56, w4_57, w5_58, w6_59, w_69, w1_76, w2_77, w3_78, w4_79, w5_80, w6_81, [zAr T 2 q_90 3 (fun _ => 0)], [zO7 q_91 rl_92 rdd_93 rg_94 0 0 tp_95 0 0 0 0 0 0 0], w1_96, w2_97, w3_98, w_104, [(q_108, .inr (1, [.null, .null, .int 0, .null, .int 0, .int 0, .int 0, .int 0, .int 0, .int 0, .int 0]))]] _ _ := G
  refine lv_dup hx hb dX11_init_86 rfl ?_
  refine z_Jv (bc := [[(q_108, .inr (1, [.null, .null, .int 0, .null, .int 0, .int 0, .int 0, .int 0, .int 0, .int 0, .int 0]))]]) (br := [[(xo, .inr (10, [.ref q_1, .ref q_23, .ref q_90, .ref q_91, .ref q_103, .null, .null, .null, .null, .null, .null]))], w_2, w1_9, w2_10, w3_11, w4_12, w5_13, w6_14, [zArq T 6 q_23 3 (va_up (va_up (va_up (fun _ => none) 0 (some q_24)) 1 (some q_46)) 2 (some q_68))], w_25, w1_32, w2_33, w3_34, w4_35, w5_36, w6_37, w_47, w1_54, w2_55, w3_56, w4_57, w5_58, w6_59, w_69, w1_76, w2_77, w3_78, w4_79, w5_80, w6_81, [zAr T 2 q_90 3 (fun _ => 0)], [zO7 q_91 rl_92 rdd_93 rg_94 0 0 tp_95 0 0 0 0 0 0 0], w1_96, w2_97, w3_98, w_104]) (As := []) (rest := [.ref q_108, .ref xo]) C G (c_Course_init l T q_108) (kJ_RX11_40 G.2.2.2.2.2.1 C.2.2.2.2 (Nat.le_of_ble_eq_true rfl) (Nat.le_of_ble_eq_true rfl)) [36] [36] rfl rfl rfl rfl hl.1 dX11_init_87 (Nat.le_of_ble_eq_true rfl) (Nat.le_of_ble_eq_true rfl) (fun b1 H locs hw G => ?_)
  refine zEx5 hw ?_
  intro w_109 po_110 lc_111 la_112 w1_113
  refine zCu3 ?_
  intro hbs9 h_114 h_115
  clear hw
  subst hbs9
  have G : zS T A s.heap s [[(xo, .inr (10, [.ref q_1, .ref q_23, .ref q_90, .ref q_91, .ref q_103, .null, .null, .null, .null, .null, .null]))], w_2, w1_9, w2_10, w3_11, w4_12, w5_13, w6_14, [zArq T 6 q_23 3 (va_up (va_up (va_up (fun _ => none) 0 (some q_24)) 1 (some q_46)) 2 (some q_68))], w_25, w1_32, w2_33, w3_34, w4_35, w5_36, w6_37, w_47, w1_54, w2_55, w3_56, w4_57, w5_58, w6_59, w_69, w1_76, w2_77, w3_78, w4_79, w5_80, w6_81, [zAr T 2 q_90 3 (fun _ => 0)], [zO7 q_91 rl_92 rdd_93 rg_94 0 0 tp_95 0 0 0 0 0 0 0], w1_96, w2_97, w3_98, w_104, w_109, w1_113] _ _ := G
  refine z_putF C G hnm clX11 0 rfl 5 (by decide) m_fl_RX11_41 rfl rfl rfl rfl (Nat.le_of_ble_eq_true rfl) dX11_init_90 (fun H locs G => ?_)
  have G : zS T A s.heap s [[(xo, .inr (10, [.ref q_1, .ref q_23, .ref q_90, .ref q_91, .ref q_103, .ref q_108, .null, .null, .null, .null, .null]))], w_2, w1_9, w2_10, w3_11, w4_12, w5_13, w6_14, [zArq T 6 q_23 3 (va_up (va_up (va_up (fun _ => none) 0 (some q_24)) 1 (some q_46)) 2 (some q_68))], w_25, w1_32, w2_33, w3_34, w4_35, w5_36, w6_37, w_47, w1_54, w2_55, w3_56, w4_57, w5_58, w6_59, w_69, w1_76, w2_77, w3_78, w4_79, w5_80, w6_81, [zAr T 2 q_90 3 (fun _ => 0)], [zO7 q_91 rl_92 rdd_93 rg_94 0 0 tp_95 0 0 0 0 0 0 0], w1_96, w2_97, w3_98, w_104, w_109, w1_113] _ _ := G
  refine lv_aload_n hx hb dX11_init_93 rfl (lv_at hl 0 rfl) ?_
  refine z_new C G clX10 (fs := [.null, .null, .null, .int 0, .int 0, .int 0, .int 0, .int 0]) m_cl_RX11_45 m_in_RX10 m_ii_RX10 (fun j hj => by match j, hj with | 0, _ => rfl | 1, _ => rfl | 2, _ => rfl | 3, _ => rfl | 4, _ => rfl | 5, _ => rfl | 6, _ => rfl | 7, _ => rfl | j + 8, h => exact absurd h (by omega)) (Nat.le_of_ble_eq_true rfl) (Nat.le_of_ble_eq_true rfl) dX11_init_94 (fun q_117 H G => ?_)
  have G : zS T A s.heap s [[(xo, .inr (10, [.ref q_1, .ref q_23, .ref q_90, .ref q_91, .ref q_103, .ref q_108, .null, .null, .null, .null, .null]))], w_2, w1_9, w2_10, w3_11, w4_12, w5_13, w6_14, [zArq T 6 q_23 3 (va_up (va_up (va_up (fun _ => none) 0 (some q_24)) 1 (some q_46)) 2 (some q_68))], w_25, w1_32, w2_33, w3_34, w4_35, w5_36, w6_37, w_47, w1_54, w2_55, w3_56, w4_57, w5_58, w6_59, w_69, w1_76, w2_77, w3_78, w4_79, w5_80, w6_81, [zAr T 2 q_90 3 (fun _ => 0)], [zO7 q_91 rl_92 rdd_93 rg_94 0 0 tp_95 0 0 0 0 0 0 0], w1_96, w2_97, w3_98, w_104, w_109, w1_113, [(q_117, .inr (9, [.null, .null, .null, .int 0, .int 0, .int 0, .int 0, .int 0]))]] _ _ := G
  refine lv_dup hx hb dX11_init_97 rfl ?_
  refine z_Jv (bc := [[(q_117, .inr (9, [.null, .null, .null, .int 0, .int 0, .int 0, .int 0, .int 0]))]]) (br := [[(xo, .inr (10, [.ref q_1, .ref q_23, .ref q_90, .ref q_91, .ref q_103, .ref q_108, .null, .null, .null, .null, .null]))], w_2, w1_9, w2_10, w3_11, w4_12, w5_13, w6_14, [zArq T 6 q_23 3 (va_up (va_up (va_up (fun _ => none) 0 (some q_24)) 1 (some q_46)) 2 (some q_68))], w_25, w1_32, w2_33, w3_34, w4_35, w5_36, w6_37, w_47, w1_54, w2_55, w3_56, w4_57, w5_58, w6_59, w_69, w1_76, w2_77, w3_78, w4_79, w5_80, w6_81, [zAr T 2 q_90 3 (fun _ => 0)], [zO7 q_91 rl_92 rdd_93 rg_94 0 0 tp_95 0 0 0 0 0 0 0], w1_96, w2_97, w3_98, w_104, w_109, w1_113]) (As := []) (rest := [.ref q_117, .ref xo]) C G (c_Trail_init l T q_117) (kJ_RX11_47 G.2.2.2.2.2.1 C.2.2.2.2 (Nat.le_of_ble_eq_true rfl) (Nat.le_of_ble_eq_true rfl)) [38] [38] rfl rfl rfl rfl hl.1 dX11_init_98 (Nat.le_of_ble_eq_true rfl) (Nat.le_of_ble_eq_true rfl) (fun b1 H locs hw G => ?_)
  refine zEx4 hw ?_
  intro w_118 po_119 la_120 w1_121
  refine zCu3 ?_
  intro hbs9 h_122 h_123
  clear hw
  subst hbs9
  have G : zS T A s.heap s [[(xo, .inr (10, [.ref q_1, .ref q_23, .ref q_90, .ref q_91, .ref q_103, .ref q_108, .null, .null, .null, .null, .null]))], w_2, w1_9, w2_10, w3_11, w4_12, w5_13, w6_14, [zArq T 6 q_23 3 (va_up (va_up (va_up (fun _ => none) 0 (some q_24)) 1 (some q_46)) 2 (some q_68))], w_25, w1_32, w2_33, w3_34, w4_35, w5_36, w6_37, w_47, w1_54, w2_55, w3_56, w4_57, w5_58, w6_59, w_69, w1_76, w2_77, w3_78, w4_79, w5_80, w6_81, [zAr T 2 q_90 3 (fun _ => 0)], [zO7 q_91 rl_92 rdd_93 rg_94 0 0 tp_95 0 0 0 0 0 0 0], w1_96, w2_97, w3_98, w_104, w_109, w1_113, w_118, w1_121] _ _ := G
  refine z_putF C G hnm clX11 0 rfl 6 (by decide) m_fl_RX11_48 rfl rfl rfl rfl (Nat.le_of_ble_eq_true rfl) dX11_init_101 (fun H locs G => ?_)
  have G : zS T A s.heap s [[(xo, .inr (10, [.ref q_1, .ref q_23, .ref q_90, .ref q_91, .ref q_103, .ref q_108, .ref q_117, .null, .null, .null, .null]))], w_2, w1_9, w2_10, w3_11, w4_12, w5_13, w6_14, [zArq T 6 q_23 3 (va_up (va_up (va_up (fun _ => none) 0 (some q_24)) 1 (some q_46)) 2 (some q_68))], w_25, w1_32, w2_33, w3_34, w4_35, w5_36, w6_37, w_47, w1_54, w2_55, w3_56, w4_57, w5_58, w6_59, w_69, w1_76, w2_77, w3_78, w4_79, w5_80, w6_81, [zAr T 2 q_90 3 (fun _ => 0)], [zO7 q_91 rl_92 rdd_93 rg_94 0 0 tp_95 0 0 0 0 0 0 0], w1_96, w2_97, w3_98, w_104, w_109, w1_113, w_118, w1_121] _ _ := G
  refine lv_aload_n hx hb dX11_init_104 rfl (lv_at hl 0 rfl) ?_
  refine z_new C G clX0 (fs := [.int 0, .int 0, .null, .int 0, .null, .null, .null, .null, .null, .null]) m_cl_RX11_52 m_in_RX0 m_ii_RX0 (fun j hj => by match j, hj with | 0, _ => rfl | 1, _ => rfl | 2, _ => rfl | 3, _ => rfl | 4, _ => rfl | 5, _ => rfl | 6, _ => rfl | 7, _ => rfl | 8, _ => rfl | 9, _ => rfl | j + 10, h => exact absurd h (by omega)) (Nat.le_of_ble_eq_true rfl) (Nat.le_of_ble_eq_true rfl) dX11_init_105 (fun q_125 H G => ?_)
  have G : zS T A s.heap s [[(xo, .inr (10, [.ref q_1, .ref q_23, .ref q_90, .ref q_91, .ref q_103, .ref q_108, .ref q_117, .null, .null, .null, .null]))], w_2, w1_9, w2_10, w3_11, w4_12, w5_13, w6_14, [zArq T 6 q_23 3 (va_up (va_up (va_up (fun _ => none) 0 (some q_24)) 1 (some q_46)) 2 (some q_68))], w_25, w1_32, w2_33, w3_34, w4_35, w5_36, w6_37, w_47, w1_54, w2_55, w3_56, w4_57, w5_58, w6_59, w_69, w1_76, w2_77, w3_78, w4_79, w5_80, w6_81, [zAr T 2 q_90 3 (fun _ => 0)], [zO7 q_91 rl_92 rdd_93 rg_94 0 0 tp_95 0 0 0 0 0 0 0], w1_96, w2_97, w3_98, w_104, w_109, w1_113, w_118, w1_121, [(q_125, .inr (0, [.int 0, .int 0, .null, .int 0, .null, .null, .null, .null, .null, .null]))]] _ _ := G
  refine lv_dup hx hb dX11_init_108 rfl ?_
  refine z_Jv (bc := [[(q_125, .inr (0, [.int 0, .int 0, .null, .int 0, .null, .null, .null, .null, .null, .null]))]]) (br := [[(xo, .inr (10, [.ref q_1, .ref q_23, .ref q_90, .ref q_91, .ref q_103, .ref q_108, .ref q_117, .null, .null, .null, .null]))], w_2, w1_9, w2_10, w3_11, w4_12, w5_13, w6_14, [zArq T 6 q_23 3 (va_up (va_up (va_up (fun _ => none) 0 (some q_24)) 1 (some q_46)) 2 (some q_68))], w_25, w1_32, w2_33, w3_34, w4_35, w5_36, w6_37, w_47, w1_54, w2_55, w3_56, w4_57, w5_58, w6_59, w_69, w1_76, w2_77, w3_78, w4_79, w5_80, w6_81, [zAr T 2 q_90 3 (fun _ => 0)], [zO7 q_91 rl_92 rdd_93 rg_94 0 0 tp_95 0 0 0 0 0 0 0], w1_96, w2_97, w3_98, w_104, w_109, w1_113, w_118, w1_121]) (As := []) (rest := [.ref q_125, .ref xo]) C G (c_Ways_init l T q_125) (kJ_RX11_54 G.2.2.2.2.2.1 C.2.2.2.2 (Nat.le_of_ble_eq_true rfl) (Nat.le_of_ble_eq_true rfl)) [40] [40] rfl rfl rfl rfl hl.1 dX11_init_109 (Nat.le_of_ble_eq_true rfl) (Nat.le_of_ble_eq_true rfl) (fun b1 H locs hw G => ?_)
  refine zEx2 hw ?_
  intro w_126 la_127
  refine zCu2 ?_
  intro hbs9 h_128
  clear hw
  subst hbs9
  have G : zS T A s.heap s [[(xo, .inr (10, [.ref q_1, .ref q_23, .ref q_90, .ref q_91, .ref q_103, .ref q_108, .ref q_117, .null, .null, .null, .null]))], w_2, w1_9, w2_10, w3_11, w4_12, w5_13, w6_14, [zArq T 6 q_23 3 (va_up (va_up (va_up (fun _ => none) 0 (some q_24)) 1 (some q_46)) 2 (some q_68))], w_25, w1_32, w2_33, w3_34, w4_35, w5_36, w6_37, w_47, w1_54, w2_55, w3_56, w4_57, w5_58, w6_59, w_69, w1_76, w2_77, w3_78, w4_79, w5_80, w6_81, [zAr T 2 q_90 3 (fun _ => 0)], [zO7 q_91 rl_92 rdd_93 rg_94 0 0 tp_95 0 0 0 0 0 0 0], w1_96, w2_97, w3_98, w_104, w_109, w1_113, w_118, w1_121, w_126] _ _ := G
  refine z_putF C G hnm clX11 0 rfl 7 (by decide) m_fl_RX11_55 rfl rfl rfl rfl (Nat.le_of_ble_eq_true rfl) dX11_init_112 (fun H locs G => ?_)
  have G : zS T A s.heap s [[(xo, .inr (10, [.ref q_1, .ref q_23, .ref q_90, .ref q_91, .ref q_103, .ref q_108, .ref q_117, .ref q_125, .null, .null, .null]))], w_2, w1_9, w2_10, w3_11, w4_12, w5_13, w6_14, [zArq T 6 q_23 3 (va_up (va_up (va_up (fun _ => none) 0 (some q_24)) 1 (some q_46)) 2 (some q_68))], w_25, w1_32, w2_33, w3_34, w4_35, w5_36, w6_37, w_47, w1_54, w2_55, w3_56, w4_57, w5_58, w6_59, w_69, w1_76, w2_77, w3_78, w4_79, w5_80, w6_81, [zAr T 2 q_90 3 (fun _ => 0)], [zO7 q_91 rl_92 rdd_93 rg_94 0 0 tp_95 0 0 0 0 0 0 0], w1_96, w2_97, w3_98, w_104, w_109, w1_113, w_118, w1_121, w_126] _ _ := G
  refine lv_aload_n hx hb dX11_init_115 rfl (lv_at hl 0 rfl) ?_
  refine z_new C G clX0 (fs := [.int 0, .int 0, .null, .int 0, .null, .null, .null, .null, .null, .null]) m_cl_RX11_52 m_in_RX0 m_ii_RX0 (fun j hj => by match j, hj with | 0, _ => rfl | 1, _ => rfl | 2, _ => rfl | 3, _ => rfl | 4, _ => rfl | 5, _ => rfl | 6, _ => rfl | 7, _ => rfl | 8, _ => rfl | 9, _ => rfl | j + 10, h => exact absurd h (by omega)) (Nat.le_of_ble_eq_true rfl) (Nat.le_of_ble_eq_true rfl) dX11_init_116 (fun q_130 H G => ?_)
  have G : zS T A s.heap s [[(xo, .inr (10, [.ref q_1, .ref q_23, .ref q_90, .ref q_91, .ref q_103, .ref q_108, .ref q_117, .ref q_125, .null, .null, .null]))], w_2, w1_9, w2_10, w3_11, w4_12, w5_13, w6_14, [zArq T 6 q_23 3 (va_up (va_up (va_up (fun _ => none) 0 (some q_24)) 1 (some q_46)) 2 (some q_68))], w_25, w1_32, w2_33, w3_34, w4_35, w5_36, w6_37, w_47, w1_54, w2_55, w3_56, w4_57, w5_58, w6_59, w_69, w1_76, w2_77, w3_78, w4_79, w5_80, w6_81, [zAr T 2 q_90 3 (fun _ => 0)], [zO7 q_91 rl_92 rdd_93 rg_94 0 0 tp_95 0 0 0 0 0 0 0], w1_96, w2_97, w3_98, w_104, w_109, w1_113, w_118, w1_121, w_126, [(q_130, .inr (0, [.int 0, .int 0, .null, .int 0, .null, .null, .null, .null, .null, .null]))]] _ _ := G
  refine lv_dup hx hb dX11_init_119 rfl ?_
  refine z_Jv (bc := [[(q_130, .inr (0, [.int 0, .int 0, .null, .int 0, .null, .null, .null, .null, .null, .null]))]]) (br := [[(xo, .inr (10, [.ref q_1, .ref q_23, .ref q_90, .ref q_91, .ref q_103, .ref q_108, .ref q_117, .ref q_125, .null, .null, .null]))], w_2, w1_9, w2_10, w3_11, w4_12, w5_13, w6_14, [zArq T 6 q_23 3 (va_up (va_up (va_up (fun _ => none) 0 (some q_24)) 1 (some q_46)) 2 (some q_68))], w_25, w1_32, w2_33, w3_34, w4_35, w5_36, w6_37, w_47, w1_54, w2_55, w3_56, w4_57, w5_58, w6_59, w_69, w1_76, w2_77, w3_78, w4_79, w5_80, w6_81, [zAr T 2 q_90 3 (fun _ => 0)], [zO7 q_91 rl_92 rdd_93 rg_94 0 0 tp_95 0 0 0 0 0 0 0], w1_96, w2_97, w3_98, w_104, w_109, w1_113, w_118, w1_121, w_126]) (As := []) (rest := [.ref q_130, .ref xo]) C G (c_Ways_init l T q_130) (kJ_RX11_54 G.2.2.2.2.2.1 C.2.2.2.2 (Nat.le_of_ble_eq_true rfl) (Nat.le_of_ble_eq_true rfl)) [41] [41] rfl rfl rfl rfl hl.1 dX11_init_120 (Nat.le_of_ble_eq_true rfl) (Nat.le_of_ble_eq_true rfl) (fun b1 H locs hw G => ?_)
  refine zEx2 hw ?_
  intro w_131 la_132
  refine zCu2 ?_
  intro hbs9 h_133
  clear hw
  subst hbs9
  have G : zS T A s.heap s [[(xo, .inr (10, [.ref q_1, .ref q_23, .ref q_90, .ref q_91, .ref q_103, .ref q_108, .ref q_117, .ref q_125, .null, .null, .null]))], w_2, w1_9, w2_10, w3_11, w4_12, w5_13, w6_14, [zArq T 6 q_23 3 (va_up (va_up (va_up (fun _ => none) 0 (some q_24)) 1 (some q_46)) 2 (some q_68))], w_25, w1_32, w2_33, w3_34, w4_35, w5_36, w6_37, w_47, w1_54, w2_55, w3_56, w4_57, w5_58, w6_59, w_69, w1_76, w2_77, w3_78, w4_79, w5_80, w6_81, [zAr T 2 q_90 3 (fun _ => 0)], [zO7 q_91 rl_92 rdd_93 rg_94 0 0 tp_95 0 0 0 0 0 0 0], w1_96, w2_97, w3_98, w_104, w_109, w1_113, w_118, w1_121, w_126, w_131] _ _ := G
  refine z_putF C G hnm clX11 0 rfl 8 (by decide) m_fl_RX11_59 rfl rfl rfl rfl (Nat.le_of_ble_eq_true rfl) dX11_init_123 (fun H locs G => ?_)
  have G : zS T A s.heap s [[(xo, .inr (10, [.ref q_1, .ref q_23, .ref q_90, .ref q_91, .ref q_103, .ref q_108, .ref q_117, .ref q_125, .ref q_130, .null, .null]))], w_2, w1_9, w2_10, w3_11, w4_12, w5_13, w6_14, [zArq T 6 q_23 3 (va_up (va_up (va_up (fun _ => none) 0 (some q_24)) 1 (some q_46)) 2 (some q_68))], w_25, w1_32, w2_33, w3_34, w4_35, w5_36, w6_37, w_47, w1_54, w2_55, w3_56, w4_57, w5_58, w6_59, w_69, w1_76, w2_77, w3_78, w4_79, w5_80, w6_81, [zAr T 2 q_90 3 (fun _ => 0)], [zO7 q_91 rl_92 rdd_93 rg_94 0 0 tp_95 0 0 0 0 0 0 0], w1_96, w2_97, w3_98, w_104, w_109, w1_113, w_118, w1_121, w_126, w_131] _ _ := G
  refine lv_aload_n hx hb dX11_init_126 rfl (lv_at hl 0 rfl) ?_
  refine z_new C G clX3 (fs := [.int 0, .int 0, .int 0, .int 0, .int 0, .int 0, .null, .null]) m_cl_RX11_62 m_in_RX3 m_ii_RX3 (fun j hj => by match j, hj with | 0, _ => rfl | 1, _ => rfl | 2, _ => rfl | 3, _ => rfl | 4, _ => rfl | 5, _ => rfl | 6, _ => rfl | 7, _ => rfl | j + 8, h => exact absurd h (by omega)) (Nat.le_of_ble_eq_true rfl) (Nat.le_of_ble_eq_true rfl) dX11_init_127 (fun q_135 H G => ?_)
  have G : zS T A s.heap s [[(xo, .inr (10, [.ref q_1, .ref q_23, .ref q_90, .ref q_91, .ref q_103, .ref q_108, .ref q_117, .ref q_125, .ref q_130, .null, .null]))], w_2, w1_9, w2_10, w3_11, w4_12, w5_13, w6_14, [zArq T 6 q_23 3 (va_up (va_up (va_up (fun _ => none) 0 (some q_24)) 1 (some q_46)) 2 (some q_68))], w_25, w1_32, w2_33, w3_34, w4_35, w5_36, w6_37, w_47, w1_54, w2_55, w3_56, w4_57, w5_58, w6_59, w_69, w1_76, w2_77, w3_78, w4_79, w5_80, w6_81, [zAr T 2 q_90 3 (fun _ => 0)], [zO7 q_91 rl_92 rdd_93 rg_94 0 0 tp_95 0 0 0 0 0 0 0], w1_96, w2_97, w3_98, w_104, w_109, w1_113, w_118, w1_121, w_126, w_131, [(q_135, .inr (3, [.int 0, .int 0, .int 0, .int 0, .int 0, .int 0, .null, .null]))]] _ _ := G
  refine lv_dup hx hb dX11_init_130 rfl ?_
  refine z_Jv (bc := [[(q_135, .inr (3, [.int 0, .int 0, .int 0, .int 0, .int 0, .int 0, .null, .null]))]]) (br := [[(xo, .inr (10, [.ref q_1, .ref q_23, .ref q_90, .ref q_91, .ref q_103, .ref q_108, .ref q_117, .ref q_125, .ref q_130, .null, .null]))], w_2, w1_9, w2_10, w3_11, w4_12, w5_13, w6_14, [zArq T 6 q_23 3 (va_up (va_up (va_up (fun _ => none) 0 (some q_24)) 1 (some q_46)) 2 (some q_68))], w_25, w1_32, w2_33, w3_34, w4_35, w5_36, w6_37, w_47, w1_54, w2_55, w3_56, w4_57, w5_58, w6_59, w_69, w1_76, w2_77, w3_78, w4_79, w5_80, w6_81, [zAr T 2 q_90 3 (fun _ => 0)], [zO7 q_91 rl_92 rdd_93 rg_94 0 0 tp_95 0 0 0 0 0 0 0], w1_96, w2_97, w3_98, w_104, w_109, w1_113, w_118, w1_121, w_126, w_131]) (As := []) (rest := [.ref q_135, .ref xo]) C G (c_Fit_init l T q_135) (kJ_RX11_64 G.2.2.2.2.2.1 C.2.2.2.2 (Nat.le_of_ble_eq_true rfl) (Nat.le_of_ble_eq_true rfl)) [42] [42] rfl rfl rfl rfl hl.1 dX11_init_131 (Nat.le_of_ble_eq_true rfl) (Nat.le_of_ble_eq_true rfl) (fun b1 H locs hw G => ?_)
  refine zEx1 hw ?_
  intro w_136
  refine zCu2 ?_
  intro hbs9 h_137
  clear hw
  subst hbs9
  have G : zS T A s.heap s [[(xo, .inr (10, [.ref q_1, .ref q_23, .ref q_90, .ref q_91, .ref q_103, .ref q_108, .ref q_117, .ref q_125, .ref q_130, .null, .null]))], w_2, w1_9, w2_10, w3_11, w4_12, w5_13, w6_14, [zArq T 6 q_23 3 (va_up (va_up (va_up (fun _ => none) 0 (some q_24)) 1 (some q_46)) 2 (some q_68))], w_25, w1_32, w2_33, w3_34, w4_35, w5_36, w6_37, w_47, w1_54, w2_55, w3_56, w4_57, w5_58, w6_59, w_69, w1_76, w2_77, w3_78, w4_79, w5_80, w6_81, [zAr T 2 q_90 3 (fun _ => 0)], [zO7 q_91 rl_92 rdd_93 rg_94 0 0 tp_95 0 0 0 0 0 0 0], w1_96, w2_97, w3_98, w_104, w_109, w1_113, w_118, w1_121, w_126, w_131, w_136] _ _ := G
  refine z_putF C G hnm clX11 0 rfl 9 (by decide) m_fl_RX11_65 rfl rfl rfl rfl (Nat.le_of_ble_eq_true rfl) dX11_init_134 (fun H locs G => ?_)
  have G : zS T A s.heap s [[(xo, .inr (10, [.ref q_1, .ref q_23, .ref q_90, .ref q_91, .ref q_103, .ref q_108, .ref q_117, .ref q_125, .ref q_130, .ref q_135, .null]))], w_2, w1_9, w2_10, w3_11, w4_12, w5_13, w6_14, [zArq T 6 q_23 3 (va_up (va_up (va_up (fun _ => none) 0 (some q_24)) 1 (some q_46)) 2 (some q_68))], w_25, w1_32, w2_33, w3_34, w4_35, w5_36, w6_37, w_47, w1_54, w2_55, w3_56, w4_57, w5_58, w6_59, w_69, w1_76, w2_77, w3_78, w4_79, w5_80, w6_81, [zAr T 2 q_90 3 (fun _ => 0)], [zO7 q_91 rl_92 rdd_93 rg_94 0 0 tp_95 0 0 0 0 0 0 0], w1_96, w2_97, w3_98, w_104, w_109, w1_113, w_118, w1_121, w_126, w_131, w_136] _ _ := G
  refine lv_aload_n hx hb dX11_init_137 rfl (lv_at hl 0 rfl) ?_
  refine lv_sipush (v := 1000) hx hb dX11_init_138 (by decide) ?_
  refine z_newa C G 0 (ty := .int) (N' := 1000) (a0 := (1000, .inl (fun _ => 0))) rfl z_uint m_ar_int rfl (fun _ => rfl) (by decide) (by decide) (Nat.le_of_ble_eq_true rfl) (Nat.le_of_ble_eq_true rfl) (Nat.le_of_ble_eq_true rfl) dX11_init_141 (fun q_139 H G => ?_)
  have G : zS T A s.heap s [[(xo, .inr (10, [.ref q_1, .ref q_23, .ref q_90, .ref q_91, .ref q_103, .ref q_108, .ref q_117, .ref q_125, .ref q_130, .ref q_135, .null]))], w_2, w1_9, w2_10, w3_11, w4_12, w5_13, w6_14, [zArq T 6 q_23 3 (va_up (va_up (va_up (fun _ => none) 0 (some q_24)) 1 (some q_46)) 2 (some q_68))], w_25, w1_32, w2_33, w3_34, w4_35, w5_36, w6_37, w_47, w1_54, w2_55, w3_56, w4_57, w5_58, w6_59, w_69, w1_76, w2_77, w3_78, w4_79, w5_80, w6_81, [zAr T 2 q_90 3 (fun _ => 0)], [zO7 q_91 rl_92 rdd_93 rg_94 0 0 tp_95 0 0 0 0 0 0 0], w1_96, w2_97, w3_98, w_104, w_109, w1_113, w_118, w1_121, w_126, w_131, w_136, [zAr T 0 q_139 1000 (fun _ => 0)]] _ _ := G
  refine z_putF C G hnm clX11 0 rfl 10 (by decide) m_fl_RX11_69 rfl rfl rfl rfl (Nat.le_of_ble_eq_true rfl) dX11_init_143 (fun H locs G => ?_)
  have G : zS T A s.heap s [[zO10 xo q_1 q_23 q_90 q_91 q_103 q_108 q_117 q_125 q_130 q_135 q_139], w_2, w1_9, w2_10, w3_11, w4_12, w5_13, w6_14, [zArq T 6 q_23 3 (va_up (va_up (va_up (fun _ => none) 0 (some q_24)) 1 (some q_46)) 2 (some q_68))], w_25, w1_32, w2_33, w3_34, w4_35, w5_36, w6_37, w_47, w1_54, w2_55, w3_56, w4_57, w5_58, w6_59, w_69, w1_76, w2_77, w3_78, w4_79, w5_80, w6_81, [zAr T 2 q_90 3 (fun _ => 0)], [zO7 q_91 rl_92 rdd_93 rg_94 0 0 tp_95 0 0 0 0 0 0 0], w1_96, w2_97, w3_98, w_104, w_109, w1_113, w_118, w1_121, w_126, w_131, w_136, [zAr T 0 q_139 1000 (fun _ => 0)]] _ _ := G
  have G := G.sub (bs' := [[zO10 xo q_1 q_23 q_90 q_91 q_103 q_108 q_117 q_125 q_130 q_135 q_139], w_2, w1_9, w2_10, w3_11, w4_12, w5_13, w6_14, w_25, w1_32, w2_33, w3_34, w4_35, w5_36, w6_37, w_47, w1_54, w2_55, w3_56, w4_57, w5_58, w6_59, w_69, w1_76, w2_77, w3_78, w4_79, w5_80, w6_81, [zArq T 6 q_23 3 (va_up (va_up (va_up (fun _ => none) 0 (some q_24)) 1 (some q_46)) 2 (some q_68))], [zAr T 2 q_90 3 (fun _ => 0)], [zO7 q_91 rl_92 rdd_93 rg_94 0 0 tp_95 0 0 0 0 0 0 0], w1_96, w2_97, w3_98, w_104, w_109, w1_113, w_118, w1_121, w_126, w_131, w_136, [zAr T 0 q_139 1000 (fun _ => 0)]]) [0, 1, 2, 3, 4, 5, 6, 7, 9, 10, 11, 12, 13, 14, 15, 16, 17, 18, 19, 20, 21, 22, 23, 24, 25, 26, 27, 28, 29, 8, 30, 31, 32, 33, 34, 35, 36, 37, 38, 39, 40, 41, 42, 43] rfl
  exact z_back hQ9 (z_vret C hr hlocks G (Nat.le_of_ble_eq_true rfl) (Nat.le_of_ble_eq_true rfl) dX11_init_146 ⟨q_1, q_23, q_90, q_91, q_103, q_108, q_117, q_125, q_130, q_135, q_139, l0_3, l1_4, d0_5, d1_6, g0_7, g1_8, w_2, w1_9, w2_10, w3_11, w4_12, w5_13, w6_14, q_24, l0_26, l1_27, d0_28, d1_29, g0_30, g1_31, w_25, w1_32, w2_33, w3_34, w4_35, w5_36, w6_37, q_46, l0_48, l1_49, d0_50, d1_51, g0_52, g1_53, w_47, w1_54, w2_55, w3_56, w4_57, w5_58, w6_59, q_68, l0_70, l1_71, d0_72, d1_73, g0_74, g1_75, w_69, w1_76, w2_77, w3_78, w4_79, w5_80, w6_81, (va_up (va_up (va_up (fun _ => none) 0 (some q_24)) 1 (some q_46)) 2 (some q_68)), rl_92, rdd_93, rg_94, tp_95, w1_96, w2_97, w3_98, la_105, w_104, po_110, lc_111, w_109, la_112, w1_113, po_119, w_118, la_120, w1_121, la_127, w_126, la_132, w_131, w_136, rfl, h_15, h_16, h_17, h_18, h_19, h_20, h_21, h_38, h_39, h_40, h_41, h_42, h_43, h_44, h_60, h_61, h_62, h_63, h_64, h_65, h_66, h_82, h_83, h_84, h_85, h_86, h_87, h_88, rfl, rfl, rfl, h_99, h_100, h_101, h_106, h_114, h_115, h_122, h_123, h_128, h_133, h_137⟩)
set_option maxHeartbeats 4000000 in
set_option maxRecDepth 100000 in
/-- trees -/
theorem c_trees (l : Launch) (T : zTy) (xo : Nat) (t : Nat) (im : Nat) (mk : Nat) (rd : Nat) (po : Nat) (co : Nat) (tr : Nat) (wa : Nat) (wb_ : Nat) (fi : Nat) (cd : Nat) (l0 : Nat) (l1 : Nat) (d0 : Nat) (d1 : Nat) (g0 : Nat) (g1 : Nat) (ln : Int32) (fl : Int32) (pl : Int32) (ft : Nat → Int32) (fk : Nat → Int32) (wt : va_W) (cr0_ : Int32) (inn0_ : Int32) (k10_ : Nat → Int32) (k20_ : Nat → Int32) (k30_ : Nat → Int32) (k40_ : Nat → Int32) (z0_ : va_W) (cr1_ : Int32) (inn1_ : Int32) (k11_ : Nat → Int32) (k21_ : Nat → Int32) (k31_ : Nat → Int32) (k41_ : Nat → Int32) (z1_ : va_W) (laA : Nat) (mdA : Int32) (wyA : Int32) (pc_A : Int32) (f1A : Nat → Int32) (f2A : Nat → Int32) (f3A : Nat → Int32) (f4A : Nat → Int32) (f5A : Nat → Int32) (f6A : Nat → Int32) (n4A : Nat) (wwA : va_W) (laB : Nat) (mdB : Int32) (wyB : Int32) (pc_B : Int32) (f1B : Nat → Int32) (f2B : Nat → Int32) (f3B : Nat → Int32) (f4B : Nat → Int32) (f5B : Nat → Int32) (f6B : Nat → Int32) (n4B : Nat) (wwB : va_W) (i1 : Int32) (ht : bTold T t l0 l1 d0 d1 g0 g1 ln fl pl ft fk wt) (hK : zKT fk) (hz0_ : bLand T l0 cr0_ inn0_ k10_ k20_ k30_ k40_ z0_) (hI0_ : zLI cr0_ k10_ k30_) (hz1_ : bLand T l1 cr1_ inn1_ k11_ k21_ k31_ k41_ z1_) (hI1_ : zLI cr1_ k11_ k31_) (hwwA : bWays T wa laA mdA wyA pc_A f1A f2A f3A f4A f5A f6A n4A wwA) (hpwA : zPw n4A) (hmdA : mdA = 0 ∨ laA = l0) (hwmA : 0 ≤ wyA.toInt ∧ wyA.toInt ≤ 16384) (hwwB : bWays T wb_ laB mdB wyB pc_B f1B f2B f3B f4B f5B f6B n4B wwB) (hpwB : zPw n4B) (hmdB : mdB = 0 ∨ laB = l1) (hwmB : 0 ≤ wyB.toInt ∧ wyB.toInt ≤ 16384) : zMi l T yX11_trees cX11_trees 4 (some .int) 6 0 0 [.ref xo, .int i1] [[zO10 xo t im mk rd po co tr wa wb_ fi cd], wt, z0_, z1_, wwA, wwB] (fun (r : Int32) bs => ∃ (laA_2 : Nat) (mdA_2 : Int32) (wyA_2 : Int32) (pc_A_2 : Int32) (f1A_2 : Nat → Int32) (f2A_2 : Nat → Int32) (f3A_2 : Nat → Int32) (f4A_2 : Nat → Int32) (f5A_2 : Nat → Int32) (f6A_2 : Nat → Int32) (n4A_2 : Nat) (wwA_2 : va_W) (laB_2 : Nat) (mdB_2 : Int32) (wyB_2 : Int32) (pc_B_2 : Int32) (f1B_2 : Nat → Int32) (f2B_2 : Nat → Int32) (f3B_2 : Nat → Int32) (f4B_2 : Nat → Int32) (f5B_2 : Nat → Int32) (f6B_2 : Nat → Int32) (n4B_2 : Nat) (wwB_2 : va_W), bs = [[zO10 xo t im mk rd po co tr wa wb_ fi cd], wt, z0_, z1_, wwA_2, wwB_2] ∧ bWays T wa laA_2 mdA_2 wyA_2 pc_A_2 f1A_2 f2A_2 f3A_2 f4A_2 f5A_2 f6A_2 n4A_2 wwA_2 ∧ (mdA_2 = 0 ∨ laA_2 = l0) ∧ (0 ≤ wyA_2.toInt ∧ wyA_2.toInt ≤ 16384) ∧ n4A_2 = n4A ∧ mdA_2 = mdA ∧ bWays T wb_ laB_2 mdB_2 wyB_2 pc_B_2 f1B_2 f2B_2 f3B_2 f4B_2 f5B_2 f6B_2 n4B_2 wwB_2 ∧ (mdB_2 = 0 ∨ laB_2 = l1) ∧ (0 ≤ wyB_2.toInt ∧ wyB_2.toInt ≤ 16384) ∧ n4B_2 = n4B ∧ mdB_2 = mdB) := by
  refine zMi_of (own := RX11) (by decide) rfl (Nat.le_of_ble_eq_true rfl) ?_
  intro p e s m args below meth c A ls C hr hlocks hnm hAe G hl
  refine zHide (fun Q9 hQ9 => ?_)
  have hx := C.1
  have hb := C.2.1
  replace hmdA : zHd (mdA = 0 ∨ laA = l0) := hmdA
  replace hmdB : zHd (mdB = 0 ∨ laB = l1) := hmdB
  have hl : lv_has ls 4 [(0, .ref xo), (1, .int i1)] := hl
  refine lv_aload_n hx hb dX11_trees_0 rfl (lv_at hl 0 rfl) ?_
  refine z_get C G clX11 0 rfl 0 (by decide) m_fl_RX11_10 rfl dX11_trees_1 ?_
  refine lv_iload_n hx hb dX11_trees_4 rfl (lv_at hl 1 rfl) ?_
  refine z_Vq (bc := [wt]) (br := [[zO10 xo t im mk rd po co tr wa wb_ fi cd], z0_, z1_, wwA, wwB]) (As := [.int i1]) (rest := []) C G (c_landAt l T t l0 l1 d0 d1 g0 g1 ln fl pl ft fk wt i1 ht) (kV_RX11_121 C.2.2.2.2 (Nat.le_of_ble_eq_true rfl) (Nat.le_of_ble_eq_true rfl)) [1] [1] rfl rfl (ci := 8) (qc := (RX9, TX9, 8)) rfl rfl (List.mem_flatten.mpr ⟨_, List.mem_of_getElem? (i := 0) rfl, (bTold_mem ht).choose_spec⟩) rfl rfl hl.1 dX11_trees_5 (Nat.le_of_ble_eq_true rfl) (Nat.le_of_ble_eq_true rfl) (fun r_2 b1 H locs hw G => ?_)
  refine zAn2 hw ?_
  intro hbs9 hc_1
  clear hw
  subst hbs9
  have G : zS T A s.heap s [[zO10 xo t im mk rd po co tr wa wb_ fi cd], z0_, z1_, wwA, wwB, wt] _ _ := G
  rcases hc_1 with ⟨rfl, h_3⟩ | ⟨rfl, h_4, h_5⟩ | ⟨rfl, h_6, h_7⟩
  · have h_3 : (i1.toInt < 0 ∨ (fk 0).toInt ≤ i1.toInt ∨ 2 ≤ i1.toInt) := h_3
    refine lv_astore_nN (lv' := [(2, .null), (0, .ref xo), (1, .int i1)]) hx hb dX11_trees_8 rfl hl (by decide) rfl (fun ls hl => ?_)
    refine lv_aload_nN hx hb dX11_trees_9 rfl (lv_at hl 0 rfl) ?_
    refine lv_ifnonnullN hx hb dX11_trees_10 ?_
    refine lv_iconst (v := (-1)) hx hb dX11_trees_13 (by decide) ?_
    have G := G.sub (bs' := [[zO10 xo t im mk rd po co tr wa wb_ fi cd], wt, z0_, z1_, wwA, wwB]) [0, 5, 1, 2, 3, 4] rfl
    exact z_back hQ9 (z_iret C hr hlocks G (Nat.le_of_ble_eq_true rfl) (Nat.le_of_ble_eq_true rfl) dX11_trees_14 ⟨laA, mdA, wyA, pc_A, f1A, f2A, f3A, f4A, f5A, f6A, n4A, wwA, laB, mdB, wyB, pc_B, f1B, f2B, f3B, f4B, f5B, f6B, n4B, wwB, rfl, hwwA, hmdA, hwmA, rfl, rfl, hwwB, hmdB, hwmB, rfl, rfl⟩)
  · have h_4 : i1.toInt = 0 := h_4
    have h_5 : 0 < (fk 0).toInt := h_5
    refine lv_astore_n (lv' := [(2, .ref l0), (0, .ref xo), (1, .int i1)]) hx hb dX11_trees_8 rfl hl (by decide) rfl (fun ls hl => ?_)
    refine lv_aload_n hx hb dX11_trees_9 rfl (lv_at hl 0 rfl) ?_
    refine lv_ifnonnull (tgt := 15) hx hb dX11_trees_10 (by decide) ?_
    refine lv_iload_n hx hb dX11_trees_15 rfl (lv_at hl 2 rfl) ?_
    refine lv_if_ne (tgt := 26) hx hb dX11_trees_16 (by decide) (fun q => absurd ((fa_eq i1 (0 : Int32)).mpr (by show i1.toInt = (0 : Int); omega)) q) (fun _ => ?_)
    refine lv_aload_n hx hb dX11_trees_19 rfl (lv_at hl 1 rfl) ?_
    refine z_get C G clX11 0 rfl 7 (by decide) m_fl_RX11_55 rfl dX11_trees_20 ?_
    refine lv_goto (tgt := 30) hx hb dX11_trees_23 (by decide) ?_
    refine lv_astore_n (lv' := [(3, .ref wa), (2, .ref l0), (0, .ref xo), (1, .int i1)]) hx hb dX11_trees_30 rfl hl (by decide) rfl (fun ls hl => ?_)
    refine lv_aload_n hx hb dX11_trees_31 rfl (lv_at hl 0 rfl) ?_
    refine lv_aload_n hx hb dX11_trees_32 rfl (lv_at hl 1 rfl) ?_
    refine z_Vi (bc := [wwA, z0_]) (br := [[zO10 xo t im mk rd po co tr wa wb_ fi cd], z1_, wwB, wt]) (As := [.ref l0]) (rest := []) C G (c_treesOf l T wa laA mdA wyA pc_A f1A f2A f3A f4A f5A f6A n4A wwA l0 cr0_ inn0_ k10_ k20_ k30_ k40_ z0_ hwwA hz0_ (by first | with_reducible assumption | with_reducible rfl | omega | assumption | rfl)) (kV_RX11_268 C.2.2.2.2 (Nat.le_of_ble_eq_true rfl) (Nat.le_of_ble_eq_true rfl)) [3, 1] [1, 1] rfl rfl (ci := 0) (qc := (RX0, TX0, 10)) rfl rfl (List.mem_flatten.mpr ⟨_, List.mem_of_getElem? (i := 0) rfl, (bWays_mem hwwA).choose_spec⟩) rfl rfl hl.1 dX11_trees_33 (Nat.le_of_ble_eq_true rfl) (Nat.le_of_ble_eq_true rfl) (fun r_13 b1 H locs hw G => ?_)
    refine zEx4 hw ?_
    intro w2_8 g1_9 g2_10 g3_11
    refine zCu2 ?_
    intro hbs9 h_12
    clear hw
    subst hbs9
    have G : zS T A s.heap s [[zO10 xo t im mk rd po co tr wa wb_ fi cd], z1_, wwB, wt, w2_8, z0_] _ _ := G
    have G := G.sub (bs' := [[zO10 xo t im mk rd po co tr wa wb_ fi cd], wt, z0_, z1_, w2_8, wwB]) [0, 3, 5, 1, 4, 2] rfl
    exact z_back hQ9 (z_iret C hr hlocks G (Nat.le_of_ble_eq_true rfl) (Nat.le_of_ble_eq_true rfl) dX11_trees_36 ⟨l0, mdA, (zWy cr0_ inn0_ k10_), (zPl cr0_ inn0_ k10_), g1_9, g2_10, g3_11, f4A, f5A, f6A, n4A, w2_8, laB, mdB, wyB, pc_B, f1B, f2B, f3B, f4B, f5B, f6B, n4B, wwB, rfl, h_12, (Or.inr rfl), (by have q := zWy_in (inn := inn0_) hI0_; omega), rfl, rfl, hwwB, hmdB, hwmB, rfl, rfl⟩)
  · have h_6 : i1.toInt = 1 := h_6
    have h_7 : 1 < (fk 0).toInt := h_7
    refine lv_astore_n (lv' := [(2, .ref l1), (0, .ref xo), (1, .int i1)]) hx hb dX11_trees_8 rfl hl (by decide) rfl (fun ls hl => ?_)
    refine lv_aload_n hx hb dX11_trees_9 rfl (lv_at hl 0 rfl) ?_
    refine lv_ifnonnull (tgt := 15) hx hb dX11_trees_10 (by decide) ?_
    refine lv_iload_n hx hb dX11_trees_15 rfl (lv_at hl 2 rfl) ?_
    refine lv_if_ne (tgt := 26) hx hb dX11_trees_16 (by decide) (fun _ => ?_) (fun q => absurd q (fun q2 => absurd (show i1.toInt = (0 : Int) from (fa_eq i1 (0 : Int32)).mp q2) (by omega)))
    refine lv_aload_n hx hb dX11_trees_26 rfl (lv_at hl 1 rfl) ?_
    refine z_get C G clX11 0 rfl 8 (by decide) m_fl_RX11_59 rfl dX11_trees_27 ?_
    refine lv_astore_n (lv' := [(3, .ref wb_), (2, .ref l1), (0, .ref xo), (1, .int i1)]) hx hb dX11_trees_30 rfl hl (by decide) rfl (fun ls hl => ?_)
    refine lv_aload_n hx hb dX11_trees_31 rfl (lv_at hl 0 rfl) ?_
    refine lv_aload_n hx hb dX11_trees_32 rfl (lv_at hl 1 rfl) ?_
    refine z_Vi (bc := [wwB, z1_]) (br := [[zO10 xo t im mk rd po co tr wa wb_ fi cd], z0_, wwA, wt]) (As := [.ref l1]) (rest := []) C G (c_treesOf l T wb_ laB mdB wyB pc_B f1B f2B f3B f4B f5B f6B n4B wwB l1 cr1_ inn1_ k11_ k21_ k31_ k41_ z1_ hwwB hz1_ (by first | with_reducible assumption | with_reducible rfl | omega | assumption | rfl)) (kV_RX11_268 C.2.2.2.2 (Nat.le_of_ble_eq_true rfl) (Nat.le_of_ble_eq_true rfl)) [4, 2] [2, 1] rfl rfl (ci := 0) (qc := (RX0, TX0, 10)) rfl rfl (List.mem_flatten.mpr ⟨_, List.mem_of_getElem? (i := 0) rfl, (bWays_mem hwwB).choose_spec⟩) rfl rfl hl.1 dX11_trees_33 (Nat.le_of_ble_eq_true rfl) (Nat.le_of_ble_eq_true rfl) (fun r_19 b1 H locs hw G => ?_)
    refine zEx4 hw ?_
    intro w2_14 g1_15 g2_16 g3_17
    refine zCu2 ?_
    intro hbs9 h_18
    clear hw
    subst hbs9
    have G : zS T A s.heap s [[zO10 xo t im mk rd po co tr wa wb_ fi cd], z0_, wwA, wt, w2_14, z1_] _ _ := G
    have G := G.sub (bs' := [[zO10 xo t im mk rd po co tr wa wb_ fi cd], wt, z0_, z1_, wwA, w2_14]) [0, 3, 1, 5, 2, 4] rfl
    exact z_back hQ9 (z_iret C hr hlocks G (Nat.le_of_ble_eq_true rfl) (Nat.le_of_ble_eq_true rfl) dX11_trees_36 ⟨laA, mdA, wyA, pc_A, f1A, f2A, f3A, f4A, f5A, f6A, n4A, wwA, l1, mdB, (zWy cr1_ inn1_ k11_), (zPl cr1_ inn1_ k11_), g1_15, g2_16, g3_17, f4B, f5B, f6B, n4B, w2_14, rfl, hwwA, hmdA, hwmA, rfl, rfl, h_18, (Or.inr rfl), (by have q := zWy_in (inn := inn1_) hI1_; omega), rfl, rfl⟩)
theorem m_co_X3_find : Cond.code yX3_find cX3_find 4 none ∈ zT := zmem1 zsub_5 117 rfl rfl
theorem m_ml_RX11_298 : Cond.methodLink RX11 298 yX3_find ∈ zT := zmem1 zsub_5 114 rfl rfl
theorem m_im_X3_find : Cond.instanceMethod yX3_find ∈ zT := zmem1 zsub_5 115 rfl rfl
theorem m_se_X3_find : Cond.selects RX3 yX3_find yX3_find ∈ zT := zmem1 zsub_5 116 rfl rfl
theorem m_fl_RX11_292 : Cond.fieldLink RX11 292 (TX3 1).1 (TX3 1).2.1 (TX3 1).2.2.1 ∈ zT := zmem1 zsub_2 148 rfl rfl
theorem m_fl_RX11_295 : Cond.fieldLink RX11 295 (TX3 2).1 (TX3 2).2.1 (TX3 2).2.2.1 ∈ zT := zmem1 zsub_2 150 rfl rfl
theorem kV_RX11_298 {R : Room} {s : State} {args : Array Value} {d mc ms : Nat} (hts : ∀ w ∈ zT, w.before args s = true) (h1 : d + 1 ≤ R.frames) (h2 : 8 + (4 + 11) + 40 * d ≤ R.locals) : CallW R s args RX11 RX3 298 yX3_find cX3_find 4 none (zW yX3_find cX3_find 4 none) (zR d mc ms) mc ms 2 := z_cwV hts m_co_X3_find m_ml_RX11_298 m_im_X3_find m_se_X3_find m_ii_RX3 (by decide +kernel) h1 h2
theorem dX11_fit_0 : decode cX11_fit 0 = .ok (.aload_n 0, 1) := zo_42 (by decide +kernel)
theorem dX11_fit_1 : decode cX11_fit 1 = .ok (.getfield 10, 3) := zo_180 (by decide +kernel)
theorem dX11_fit_4 : decode cX11_fit 4 = .ok (.iload_n 1, 1) := zo_27 (by decide +kernel)
theorem dX11_fit_5 : decode cX11_fit 5 = .ok (.invokevirtual 121, 3) := zo_182 (by decide +kernel)
theorem dX11_fit_8 : decode cX11_fit 8 = .ok (.astore_n 3, 1) := zo_78 (by decide +kernel)
theorem dX11_fit_9 : decode cX11_fit 9 = .ok (.aload_n 0, 1) := zo_42 (by decide +kernel)
theorem dX11_fit_10 : decode cX11_fit 10 = .ok (.getfield 10, 3) := zo_180 (by decide +kernel)
theorem dX11_fit_13 : decode cX11_fit 13 = .ok (.iload_n 2, 1) := zo_28 (by decide +kernel)
theorem dX11_fit_14 : decode cX11_fit 14 = .ok (.invokevirtual 138, 3) := zo_182 (by decide +kernel)
theorem dX11_fit_17 : decode cX11_fit 17 = .ok (.astore 4, 2) := zo_58 (by decide +kernel)
theorem dX11_fit_19 : decode cX11_fit 19 = .ok (.aload_n 3, 1) := zo_45 (by decide +kernel)
theorem dX11_fit_20 : decode cX11_fit 20 = .ok (.ifnull 8, 3) := zo_198 (by decide +kernel)
theorem dX11_fit_23 : decode cX11_fit 23 = .ok (.aload 4, 2) := zo_25 (by decide +kernel)
theorem dX11_fit_25 : decode cX11_fit 25 = .ok (.ifnonnull 5, 3) := zo_199 (by decide +kernel)
theorem dX11_fit_28 : decode cX11_fit 28 = .ok (.iconst 0, 1) := zo_3 (by decide +kernel)
theorem dX11_fit_29 : decode cX11_fit 29 = .ok (.ireturn, 1) := zo_172 (by decide +kernel)
theorem dX11_fit_30 : decode cX11_fit 30 = .ok (.aload_n 0, 1) := zo_42 (by decide +kernel)
theorem dX11_fit_31 : decode cX11_fit 31 = .ok (.getfield 65, 3) := zo_180 (by decide +kernel)
theorem dX11_fit_34 : decode cX11_fit 34 = .ok (.getfield 109, 3) := zo_180 (by decide +kernel)
theorem dX11_fit_37 : decode cX11_fit 37 = .ok (.ifCond .eq 25, 3) := zo_153 (by decide +kernel)
theorem dX11_fit_40 : decode cX11_fit 40 = .ok (.aload_n 0, 1) := zo_42 (by decide +kernel)
theorem dX11_fit_41 : decode cX11_fit 41 = .ok (.getfield 65, 3) := zo_180 (by decide +kernel)
theorem dX11_fit_44 : decode cX11_fit 44 = .ok (.getfield 292, 3) := zo_180 (by decide +kernel)
theorem dX11_fit_47 : decode cX11_fit 47 = .ok (.iload_n 1, 1) := zo_27 (by decide +kernel)
theorem dX11_fit_48 : decode cX11_fit 48 = .ok (.if_icmp .ne 14, 3) := zo_160 (by decide +kernel)
theorem dX11_fit_51 : decode cX11_fit 51 = .ok (.aload_n 0, 1) := zo_42 (by decide +kernel)
theorem dX11_fit_52 : decode cX11_fit 52 = .ok (.getfield 65, 3) := zo_180 (by decide +kernel)
theorem dX11_fit_55 : decode cX11_fit 55 = .ok (.getfield 295, 3) := zo_180 (by decide +kernel)
theorem dX11_fit_58 : decode cX11_fit 58 = .ok (.iload_n 2, 1) := zo_28 (by decide +kernel)
theorem dX11_fit_59 : decode cX11_fit 59 = .ok (.if_icmp .eq 42, 3) := zo_159 (by decide +kernel)
theorem dX11_fit_62 : decode cX11_fit 62 = .ok (.aload_n 0, 1) := zo_42 (by decide +kernel)
theorem dX11_fit_63 : decode cX11_fit 63 = .ok (.getfield 65, 3) := zo_180 (by decide +kernel)
theorem dX11_fit_66 : decode cX11_fit 66 = .ok (.aload_n 0, 1) := zo_42 (by decide +kernel)
theorem dX11_fit_67 : decode cX11_fit 67 = .ok (.iload_n 1, 1) := zo_27 (by decide +kernel)
theorem dX11_fit_68 : decode cX11_fit 68 = .ok (.aload_n 3, 1) := zo_45 (by decide +kernel)
theorem dX11_fit_69 : decode cX11_fit 69 = .ok (.invokevirtual 235, 3) := zo_182 (by decide +kernel)
theorem dX11_fit_72 : decode cX11_fit 72 = .ok (.aload 4, 2) := zo_25 (by decide +kernel)
theorem dX11_fit_74 : decode cX11_fit 74 = .ok (.invokevirtual 298, 3) := zo_182 (by decide +kernel)
theorem dX11_fit_77 : decode cX11_fit 77 = .ok (.aload_n 0, 1) := zo_42 (by decide +kernel)
theorem dX11_fit_78 : decode cX11_fit 78 = .ok (.getfield 65, 3) := zo_180 (by decide +kernel)
theorem dX11_fit_81 : decode cX11_fit 81 = .ok (.iload_n 1, 1) := zo_27 (by decide +kernel)
theorem dX11_fit_82 : decode cX11_fit 82 = .ok (.putfield 292, 3) := zo_181 (by decide +kernel)
theorem dX11_fit_85 : decode cX11_fit 85 = .ok (.aload_n 0, 1) := zo_42 (by decide +kernel)
theorem dX11_fit_86 : decode cX11_fit 86 = .ok (.getfield 65, 3) := zo_180 (by decide +kernel)
theorem dX11_fit_89 : decode cX11_fit 89 = .ok (.iload_n 2, 1) := zo_28 (by decide +kernel)
theorem dX11_fit_90 : decode cX11_fit 90 = .ok (.putfield 295, 3) := zo_181 (by decide +kernel)
theorem dX11_fit_93 : decode cX11_fit 93 = .ok (.aload_n 0, 1) := zo_42 (by decide +kernel)
theorem dX11_fit_94 : decode cX11_fit 94 = .ok (.getfield 65, 3) := zo_180 (by decide +kernel)
theorem dX11_fit_97 : decode cX11_fit 97 = .ok (.iconst 1, 1) := zo_4 (by decide +kernel)
theorem dX11_fit_98 : decode cX11_fit 98 = .ok (.putfield 109, 3) := zo_181 (by decide +kernel)
theorem dX11_fit_101 : decode cX11_fit 101 = .ok (.iconst 1, 1) := zo_4 (by decide +kernel)
theorem dX11_fit_102 : decode cX11_fit 102 = .ok (.ireturn, 1) := zo_172 (by decide +kernel)

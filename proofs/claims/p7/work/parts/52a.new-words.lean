theorem m_ml_RX11_1 : Cond.methodLink RX11 1 objectInit ∈ zT := zmem1 zsub_1 25 rfl rfl
theorem m_cl_RX11_7 : Cond.classLink RX11 7 RX9 ∈ zT := zmem1 zsub_1 28 rfl rfl
theorem m_in_RX9 : Cond.instantiable RX9 8 ∈ zT := zmem1 zsub_1 29 rfl rfl
theorem m_co_X9_init : Cond.code yX9_init cX9_init 1 none ∈ zT := zmem1 zsub_1 32 rfl rfl
theorem m_im_X9_init : Cond.instanceMethod yX9_init ∈ zT := zmem1 zsub_1 31 rfl rfl
theorem m_ar_boolean : Cond.arrayClass .boolean ∈ zT := zmem1 zsub_1 216 rfl rfl
theorem m_cl_RX11_24 : Cond.classLink RX11 24 RX7 ∈ zT := zmem1 zsub_1 159 rfl rfl
theorem m_in_RX7 : Cond.instantiable RX7 13 ∈ zT := zmem1 zsub_1 160 rfl rfl
theorem m_co_X7_init : Cond.code yX7_init cX7_init 1 none ∈ zT := zmem1 zsub_1 163 rfl rfl
theorem m_im_X7_init : Cond.instanceMethod yX7_init ∈ zT := zmem1 zsub_1 162 rfl rfl
theorem m_cl_RX11_31 : Cond.classLink RX11 31 RX6 ∈ zT := zmem1 zsub_1 217 rfl rfl
theorem m_cl_RX11_38 : Cond.classLink RX11 38 RX1 ∈ zT := zmem1 zsub_2 12 rfl rfl
theorem m_in_RX1 : Cond.instantiable RX1 11 ∈ zT := zmem1 zsub_2 13 rfl rfl
theorem m_co_X1_init : Cond.code yX1_init cX1_init 1 none ∈ zT := zmem1 zsub_2 16 rfl rfl
theorem m_im_X1_init : Cond.instanceMethod yX1_init ∈ zT := zmem1 zsub_2 15 rfl rfl
theorem m_cl_RX11_45 : Cond.classLink RX11 45 RX10 ∈ zT := zmem1 zsub_2 59 rfl rfl
theorem m_in_RX10 : Cond.instantiable RX10 8 ∈ zT := zmem1 zsub_2 60 rfl rfl
theorem m_co_X10_init : Cond.code yX10_init cX10_init 1 none ∈ zT := zmem1 zsub_2 63 rfl rfl
theorem m_im_X10_init : Cond.instanceMethod yX10_init ∈ zT := zmem1 zsub_2 62 rfl rfl
theorem m_cl_RX11_52 : Cond.classLink RX11 52 RX0 ∈ zT := zmem1 zsub_2 97 rfl rfl
theorem m_in_RX0 : Cond.instantiable RX0 10 ∈ zT := zmem1 zsub_2 98 rfl rfl
theorem m_co_X0_init : Cond.code yX0_init cX0_init 1 none ∈ zT := zmem1 zsub_2 101 rfl rfl
theorem m_im_X0_init : Cond.instanceMethod yX0_init ∈ zT := zmem1 zsub_2 100 rfl rfl
theorem m_cl_RX11_62 : Cond.classLink RX11 62 RX3 ∈ zT := zmem1 zsub_2 140 rfl rfl
theorem m_in_RX3 : Cond.instantiable RX3 8 ∈ zT := zmem1 zsub_2 141 rfl rfl
theorem m_co_X3_init : Cond.code yX3_init cX3_init 1 none ∈ zT := zmem1 zsub_2 144 rfl rfl
theorem m_im_X3_init : Cond.instanceMethod yX3_init ∈ zT := zmem1 zsub_2 143 rfl rfl
theorem m_co_X0_treesOf : Cond.code yX0_treesOf cX0_treesOf 4 (some .int) ∈ zT := zmem1 zsub_5 60 rfl rfl
theorem m_ml_RX11_268 : Cond.methodLink RX11 268 yX0_treesOf ∈ zT := zmem1 zsub_5 57 rfl rfl
theorem m_im_X0_treesOf : Cond.instanceMethod yX0_treesOf ∈ zT := zmem1 zsub_5 58 rfl rfl
theorem m_se_X0_treesOf : Cond.selects RX0 yX0_treesOf yX0_treesOf ∈ zT := zmem1 zsub_5 59 rfl rfl
theorem kJ_RX11_9 {R : Room} {s : State} {args : Array Value} {d mc ms : Nat} (hX : zX s) (hts : ∀ w ∈ zT, w.before args s = true) (h1 : d + 1 ≤ R.frames) (h2 : 8 + (1 + 11) + 40 * d ≤ R.locals) : va_CN R s args RX11 9 yX9_init RX11 cX9_init 1 none (zW yX9_init cX9_init 1 none) (zR d mc ms) mc ms 0 ∧ yX9_init.name = "<init>" ∧ (Cond.instanceMethod yX9_init).before args s = true := z_cwJ hts m_co_X9_init (hX.1 (RX11, 9, yX9_init, RX11) (List.mem_of_getElem? (i := 0) rfl)) m_im_X9_init m_ii_RX9 rfl (by decide +kernel) h1 h2
theorem kJ_RX11_26 {R : Room} {s : State} {args : Array Value} {d mc ms : Nat} (hX : zX s) (hts : ∀ w ∈ zT, w.before args s = true) (h1 : d + 1 ≤ R.frames) (h2 : 8 + (1 + 11) + 40 * d ≤ R.locals) : va_CN R s args RX11 26 yX7_init RX11 cX7_init 1 none (zW yX7_init cX7_init 1 none) (zR d mc ms) mc ms 0 ∧ yX7_init.name = "<init>" ∧ (Cond.instanceMethod yX7_init).before args s = true := z_cwJ hts m_co_X7_init (hX.1 (RX11, 26, yX7_init, RX11) (List.mem_of_getElem? (i := 1) rfl)) m_im_X7_init m_ii_RX7 rfl (by decide +kernel) h1 h2
theorem kJ_RX11_33 {R : Room} {s : State} {args : Array Value} {d mc ms : Nat} (hX : zX s) (hts : ∀ w ∈ zT, w.before args s = true) (h1 : d + 1 ≤ R.frames) (h2 : 8 + (1 + 11) + 40 * d ≤ R.locals) : va_CN R s args RX11 33 yX6_init RX11 cX6_init 1 none (zW yX6_init cX6_init 1 none) (zR d mc ms) mc ms 0 ∧ yX6_init.name = "<init>" ∧ (Cond.instanceMethod yX6_init).before args s = true := z_cwJ hts m_co_X6_init (hX.1 (RX11, 33, yX6_init, RX11) (List.mem_of_getElem? (i := 2) rfl)) m_im_X6_init m_ii_RX6 rfl (by decide +kernel) h1 h2
theorem kJ_RX11_40 {R : Room} {s : State} {args : Array Value} {d mc ms : Nat} (hX : zX s) (hts : ∀ w ∈ zT, w.before args s = true) (h1 : d + 1 ≤ R.frames) (h2 : 8 + (1 + 11) + 40 * d ≤ R.locals) : va_CN R s args RX11 40 yX1_init RX11 cX1_init 1 none (zW yX1_init cX1_init 1 none) (zR d mc ms) mc ms 0 ∧ yX1_init.name = "<init>" ∧ (Cond.instanceMethod yX1_init).before args s = true := z_cwJ hts m_co_X1_init (hX.1 (RX11, 40, yX1_init, RX11) (List.mem_of_getElem? (i := 3) rfl)) m_im_X1_init m_ii_RX1 rfl (by decide +kernel) h1 h2
theorem kJ_RX11_47 {R : Room} {s : State} {args : Array Value} {d mc ms : Nat} (hX : zX s) (hts : ∀ w ∈ zT, w.before args s = true) (h1 : d + 1 ≤ R.frames) (h2 : 8 + (1 + 11) + 40 * d ≤ R.locals) : va_CN R s args RX11 47 yX10_init RX11 cX10_init 1 none (zW yX10_init cX10_init 1 none) (zR d mc ms) mc ms 0 ∧ yX10_init.name = "<init>" ∧ (Cond.instanceMethod yX10_init).before args s = true := z_cwJ hts m_co_X10_init (hX.1 (RX11, 47, yX10_init, RX11) (List.mem_of_getElem? (i := 4) rfl)) m_im_X10_init m_ii_RX10 rfl (by decide +kernel) h1 h2
theorem kJ_RX11_54 {R : Room} {s : State} {args : Array Value} {d mc ms : Nat} (hX : zX s) (hts : ∀ w ∈ zT, w.before args s = true) (h1 : d + 1 ≤ R.frames) (h2 : 8 + (1 + 11) + 40 * d ≤ R.locals) : va_CN R s args RX11 54 yX0_init RX11 cX0_init 1 none (zW yX0_init cX0_init 1 none) (zR d mc ms) mc ms 0 ∧ yX0_init.name = "<init>" ∧ (Cond.instanceMethod yX0_init).before args s = true := z_cwJ hts m_co_X0_init (hX.1 (RX11, 54, yX0_init, RX11) (List.mem_of_getElem? (i := 5) rfl)) m_im_X0_init m_ii_RX0 rfl (by decide +kernel) h1 h2
theorem kJ_RX11_64 {R : Room} {s : State} {args : Array Value} {d mc ms : Nat} (hX : zX s) (hts : ∀ w ∈ zT, w.before args s = true) (h1 : d + 1 ≤ R.frames) (h2 : 8 + (1 + 11) + 40 * d ≤ R.locals) : va_CN R s args RX11 64 yX3_init RX11 cX3_init 1 none (zW yX3_init cX3_init 1 none) (zR d mc ms) mc ms 0 ∧ yX3_init.name = "<init>" ∧ (Cond.instanceMethod yX3_init).before args s = true := z_cwJ hts m_co_X3_init (hX.1 (RX11, 64, yX3_init, RX11) (List.mem_of_getElem? (i := 6) rfl)) m_im_X3_init m_ii_RX3 rfl (by decide +kernel) h1 h2
theorem kV_RX11_268 {R : Room} {s : State} {args : Array Value} {d mc ms : Nat} (hts : ∀ w ∈ zT, w.before args s = true) (h1 : d + 1 ≤ R.frames) (h2 : 8 + (4 + 11) + 40 * d ≤ R.locals) : CallW R s args RX11 RX0 268 yX0_treesOf cX0_treesOf 4 (some .int) (zW yX0_treesOf cX0_treesOf 4 (some .int)) (zR d mc ms) mc ms 1 := z_cwV hts m_co_X0_treesOf m_ml_RX11_268 m_im_X0_treesOf m_se_X0_treesOf m_ii_RX0 (by decide +kernel) h1 h2
theorem dX11_init_0 : decode cX11_init 0 = .ok (.aload_n 0, 1) := zo_42 (by decide +kernel)
theorem dX11_init_1 : decode cX11_init 1 = .ok (.invokespecial 1, 3) := zo_183 (by decide +kernel)
theorem dX11_init_4 : decode cX11_init 4 = .ok (.aload_n 0, 1) := zo_42 (by decide +kernel)
theorem dX11_init_5 : decode cX11_init 5 = .ok (.new 7, 3) := zo_187 (by decide +kernel)
theorem dX11_init_8 : decode cX11_init 8 = .ok (.dup, 1) := zo_89 (by decide +kernel)
theorem dX11_init_9 : decode cX11_init 9 = .ok (.invokespecial 9, 3) := zo_183 (by decide +kernel)
theorem dX11_init_12 : decode cX11_init 12 = .ok (.putfield 10, 3) := zo_181 (by decide +kernel)
theorem dX11_init_15 : decode cX11_init 15 = .ok (.aload_n 0, 1) := zo_42 (by decide +kernel)
theorem dX11_init_16 : decode cX11_init 16 = .ok (.iconst 3, 1) := zo_6 (by decide +kernel)
theorem dX11_init_17 : decode cX11_init 17 = .ok (.anewarray 7, 3) := zo_189 (by decide +kernel)
theorem dX11_init_20 : decode cX11_init 20 = .ok (.dup, 1) := zo_89 (by decide +kernel)
theorem dX11_init_21 : decode cX11_init 21 = .ok (.iconst 0, 1) := zo_3 (by decide +kernel)
theorem dX11_init_22 : decode cX11_init 22 = .ok (.new 7, 3) := zo_187 (by decide +kernel)
theorem dX11_init_25 : decode cX11_init 25 = .ok (.dup, 1) := zo_89 (by decide +kernel)
theorem dX11_init_26 : decode cX11_init 26 = .ok (.invokespecial 9, 3) := zo_183 (by decide +kernel)
theorem dX11_init_29 : decode cX11_init 29 = .ok (.aastore, 1) := zo_83 (by decide +kernel)
theorem dX11_init_30 : decode cX11_init 30 = .ok (.dup, 1) := zo_89 (by decide +kernel)
theorem dX11_init_31 : decode cX11_init 31 = .ok (.iconst 1, 1) := zo_4 (by decide +kernel)
theorem dX11_init_32 : decode cX11_init 32 = .ok (.new 7, 3) := zo_187 (by decide +kernel)
theorem dX11_init_35 : decode cX11_init 35 = .ok (.dup, 1) := zo_89 (by decide +kernel)
theorem dX11_init_36 : decode cX11_init 36 = .ok (.invokespecial 9, 3) := zo_183 (by decide +kernel)
theorem dX11_init_39 : decode cX11_init 39 = .ok (.aastore, 1) := zo_83 (by decide +kernel)
theorem dX11_init_40 : decode cX11_init 40 = .ok (.dup, 1) := zo_89 (by decide +kernel)
theorem dX11_init_41 : decode cX11_init 41 = .ok (.iconst 2, 1) := zo_5 (by decide +kernel)
theorem dX11_init_42 : decode cX11_init 42 = .ok (.new 7, 3) := zo_187 (by decide +kernel)
theorem dX11_init_45 : decode cX11_init 45 = .ok (.dup, 1) := zo_89 (by decide +kernel)
theorem dX11_init_46 : decode cX11_init 46 = .ok (.invokespecial 9, 3) := zo_183 (by decide +kernel)
theorem dX11_init_49 : decode cX11_init 49 = .ok (.aastore, 1) := zo_83 (by decide +kernel)
theorem dX11_init_50 : decode cX11_init 50 = .ok (.putfield 16, 3) := zo_181 (by decide +kernel)
theorem dX11_init_53 : decode cX11_init 53 = .ok (.aload_n 0, 1) := zo_42 (by decide +kernel)
theorem dX11_init_54 : decode cX11_init 54 = .ok (.iconst 3, 1) := zo_6 (by decide +kernel)
theorem dX11_init_55 : decode cX11_init 55 = .ok (.newarray .boolean, 2) := by decide +kernel
theorem dX11_init_57 : decode cX11_init 57 = .ok (.putfield 20, 3) := zo_181 (by decide +kernel)
theorem dX11_init_60 : decode cX11_init 60 = .ok (.aload_n 0, 1) := zo_42 (by decide +kernel)
theorem dX11_init_61 : decode cX11_init 61 = .ok (.new 24, 3) := zo_187 (by decide +kernel)
theorem dX11_init_64 : decode cX11_init 64 = .ok (.dup, 1) := zo_89 (by decide +kernel)
theorem dX11_init_65 : decode cX11_init 65 = .ok (.invokespecial 26, 3) := zo_183 (by decide +kernel)
theorem dX11_init_68 : decode cX11_init 68 = .ok (.putfield 27, 3) := zo_181 (by decide +kernel)
theorem dX11_init_71 : decode cX11_init 71 = .ok (.aload_n 0, 1) := zo_42 (by decide +kernel)
theorem dX11_init_72 : decode cX11_init 72 = .ok (.new 31, 3) := zo_187 (by decide +kernel)
theorem dX11_init_75 : decode cX11_init 75 = .ok (.dup, 1) := zo_89 (by decide +kernel)
theorem dX11_init_76 : decode cX11_init 76 = .ok (.invokespecial 33, 3) := zo_183 (by decide +kernel)
theorem dX11_init_79 : decode cX11_init 79 = .ok (.putfield 34, 3) := zo_181 (by decide +kernel)
theorem dX11_init_82 : decode cX11_init 82 = .ok (.aload_n 0, 1) := zo_42 (by decide +kernel)
theorem dX11_init_83 : decode cX11_init 83 = .ok (.new 38, 3) := zo_187 (by decide +kernel)
theorem dX11_init_86 : decode cX11_init 86 = .ok (.dup, 1) := zo_89 (by decide +kernel)
theorem dX11_init_87 : decode cX11_init 87 = .ok (.invokespecial 40, 3) := zo_183 (by decide +kernel)
theorem dX11_init_90 : decode cX11_init 90 = .ok (.putfield 41, 3) := zo_181 (by decide +kernel)
theorem dX11_init_93 : decode cX11_init 93 = .ok (.aload_n 0, 1) := zo_42 (by decide +kernel)
theorem dX11_init_94 : decode cX11_init 94 = .ok (.new 45, 3) := zo_187 (by decide +kernel)
theorem dX11_init_97 : decode cX11_init 97 = .ok (.dup, 1) := zo_89 (by decide +kernel)
theorem dX11_init_98 : decode cX11_init 98 = .ok (.invokespecial 47, 3) := zo_183 (by decide +kernel)
theorem dX11_init_101 : decode cX11_init 101 = .ok (.putfield 48, 3) := zo_181 (by decide +kernel)
theorem dX11_init_104 : decode cX11_init 104 = .ok (.aload_n 0, 1) := zo_42 (by decide +kernel)
theorem dX11_init_105 : decode cX11_init 105 = .ok (.new 52, 3) := zo_187 (by decide +kernel)
theorem dX11_init_108 : decode cX11_init 108 = .ok (.dup, 1) := zo_89 (by decide +kernel)
theorem dX11_init_109 : decode cX11_init 109 = .ok (.invokespecial 54, 3) := zo_183 (by decide +kernel)
theorem dX11_init_112 : decode cX11_init 112 = .ok (.putfield 55, 3) := zo_181 (by decide +kernel)
theorem dX11_init_115 : decode cX11_init 115 = .ok (.aload_n 0, 1) := zo_42 (by decide +kernel)
theorem dX11_init_116 : decode cX11_init 116 = .ok (.new 52, 3) := zo_187 (by decide +kernel)
theorem dX11_init_119 : decode cX11_init 119 = .ok (.dup, 1) := zo_89 (by decide +kernel)
theorem dX11_init_120 : decode cX11_init 120 = .ok (.invokespecial 54, 3) := zo_183 (by decide +kernel)
theorem dX11_init_123 : decode cX11_init 123 = .ok (.putfield 59, 3) := zo_181 (by decide +kernel)
theorem dX11_init_126 : decode cX11_init 126 = .ok (.aload_n 0, 1) := zo_42 (by decide +kernel)
theorem dX11_init_127 : decode cX11_init 127 = .ok (.new 62, 3) := zo_187 (by decide +kernel)
theorem dX11_init_130 : decode cX11_init 130 = .ok (.dup, 1) := zo_89 (by decide +kernel)
theorem dX11_init_131 : decode cX11_init 131 = .ok (.invokespecial 64, 3) := zo_183 (by decide +kernel)
theorem dX11_init_134 : decode cX11_init 134 = .ok (.putfield 65, 3) := zo_181 (by decide +kernel)
theorem dX11_init_137 : decode cX11_init 137 = .ok (.aload_n 0, 1) := zo_42 (by decide +kernel)
theorem dX11_init_138 : decode cX11_init 138 = .ok (.sipush 1000, 3) := zo_17 (by decide +kernel)
theorem dX11_init_141 : decode cX11_init 141 = .ok (.newarray .int, 2) := by decide +kernel
theorem dX11_init_143 : decode cX11_init 143 = .ok (.putfield 69, 3) := zo_181 (by decide +kernel)
theorem dX11_init_146 : decode cX11_init 146 = .ok (.return_, 1) := zo_177 (by decide +kernel)
theorem dX11_trees_0 : decode cX11_trees 0 = .ok (.aload_n 0, 1) := zo_42 (by decide +kernel)
theorem dX11_trees_1 : decode cX11_trees 1 = .ok (.getfield 10, 3) := zo_180 (by decide +kernel)
theorem dX11_trees_4 : decode cX11_trees 4 = .ok (.iload_n 1, 1) := zo_27 (by decide +kernel)
theorem dX11_trees_5 : decode cX11_trees 5 = .ok (.invokevirtual 121, 3) := zo_182 (by decide +kernel)
theorem dX11_trees_8 : decode cX11_trees 8 = .ok (.astore_n 2, 1) := zo_77 (by decide +kernel)
theorem dX11_trees_9 : decode cX11_trees 9 = .ok (.aload_n 2, 1) := zo_44 (by decide +kernel)
theorem dX11_trees_10 : decode cX11_trees 10 = .ok (.ifnonnull 5, 3) := zo_199 (by decide +kernel)
theorem dX11_trees_13 : decode cX11_trees 13 = .ok (.iconst (-1), 1) := zo_2 (by decide +kernel)
theorem dX11_trees_14 : decode cX11_trees 14 = .ok (.ireturn, 1) := zo_172 (by decide +kernel)
theorem dX11_trees_15 : decode cX11_trees 15 = .ok (.iload_n 1, 1) := zo_27 (by decide +kernel)
theorem dX11_trees_16 : decode cX11_trees 16 = .ok (.ifCond .ne 10, 3) := zo_154 (by decide +kernel)
theorem dX11_trees_19 : decode cX11_trees 19 = .ok (.aload_n 0, 1) := zo_42 (by decide +kernel)
theorem dX11_trees_20 : decode cX11_trees 20 = .ok (.getfield 55, 3) := zo_180 (by decide +kernel)
theorem dX11_trees_23 : decode cX11_trees 23 = .ok (.goto 7, 3) := zo_167 (by decide +kernel)
theorem dX11_trees_26 : decode cX11_trees 26 = .ok (.aload_n 0, 1) := zo_42 (by decide +kernel)
theorem dX11_trees_27 : decode cX11_trees 27 = .ok (.getfield 59, 3) := zo_180 (by decide +kernel)
theorem dX11_trees_30 : decode cX11_trees 30 = .ok (.astore_n 3, 1) := zo_78 (by decide +kernel)
theorem dX11_trees_31 : decode cX11_trees 31 = .ok (.aload_n 3, 1) := zo_45 (by decide +kernel)
theorem dX11_trees_32 : decode cX11_trees 32 = .ok (.aload_n 2, 1) := zo_44 (by decide +kernel)
theorem dX11_trees_33 : decode cX11_trees 33 = .ok (.invokevirtual 268, 3) := zo_182 (by decide +kernel)
theorem dX11_trees_36 : decode cX11_trees 36 = .ok (.ireturn, 1) := zo_172 (by decide +kernel)
set_option maxHeartbeats 4000000 in
set_option maxRecDepth 100000 in
theorem c_x_init (l : Launch) (T : zTy) (xo : Nat) : zMv l T yX11_init cX11_init 1 8 201 5797 [.ref xo] [[(xo, .inr (10, [.null, .null, .null, .null, .null, .null, .null, .null, .null, .null, .null]))]] (fun bs => ∃ (t : Nat) (im : Nat) (mk : Nat) (rd : Nat) (po : Nat) (co : Nat) (tr : Nat) (wa : Nat) (wb_ : Nat) (fi : Nat) (cd : Nat) (l0 : Nat) (l1 : Nat) (d0 : Nat) (d1 : Nat) (g0 : Nat) (g1 : Nat) (wt : va_W) (vl0 : va_W) (vl1 : va_W) (vd0 : va_W) (vd1 : va_W) (vg0 : va_W) (vg1 : va_W) (m0 : Nat) (l0a : Nat) (l1a : Nat) (d0a : Nat) (d1a : Nat) (g0a : Nat) (g1a : Nat) (wta : va_W) (vl0a : va_W) (vl1a : va_W) (vd0a : va_W) (vd1a : va_W) (vg0a : va_W) (vg1a : va_W) (m1 : Nat) (l0b : Nat) (l1b : Nat) (d0b : Nat) (d1b : Nat) (g0b : Nat) (g1b : Nat) (wtb : va_W) (vl0b : va_W) (vl1b : va_W) (vd0b : va_W) (vd1b : va_W) (vg0b : va_W) (vg1b : va_W) (m2 : Nat) (l0c : Nat) (l1c : Nat) (d0c : Nat) (d1c : Nat) (g0c : Nat) (g1c : Nat) (wtc : va_W) (vl0c : va_W) (vl1c : va_W) (vd0c : va_W) (vd1c : va_W) (vg0c : va_W) (vg1c : va_W) (qi : Nat → Option Nat) (rl : Nat) (rdd : Nat) (rg : Nat) (tq : Nat) (z : va_W) (wd : va_W) (wg : va_W) (lp : Nat) (wp : va_W) (cpo : Nat) (cla : Nat) (wc : va_W) (cpl : Nat) (wcp : va_W) (tpo : Nat) (wr : va_W) (tpl : Nat) (wrp : va_W) (laA : Nat) (wwA : va_W) (laB : Nat) (wwB : va_W) (wff : va_W), bs = [[(xo, .inr (10, [.ref t, .ref im, .ref mk, .ref rd, .ref po, .ref co, .ref tr, .ref wa, .ref wb_, .ref fi, .ref cd]))], wt, vl0, vl1, vd0, vd1, vg0, vg1, wta, vl0a, vl1a, vd0a, vd1a, vg0a, vg1a, wtb, vl0b, vl1b, vd0b, vd1b, vg0b, vg1b, wtc, vl0c, vl1c, vd0c, vd1c, vg0c, vg1c, [(im, .inl (T.2 6, 3, .inr (.inr (.inr (.inr qi)))))], [(mk, .inl (T.2 2, 3, .inl (fun _ => 0)))], [(rd, .inr (7, [.ref rl, .ref rdd, .ref rg, .int 0, .int 0, .ref tq, .int 0, .int 0, .int 0, .int 0, .int 0, .int 0, .int 0]))], z, wd, wg, wp, wc, wcp, wr, wrp, wwA, wwB, wff, [(cd, .inl (T.2 0, 1000, .inl (fun _ => 0)))]] ∧ bTold T t l0 l1 d0 d1 g0 g1 0 0 (-1) (fun _ => 0) (fun _ => 0) wt ∧ bLand T l0 0 0 (fun _ => 0) (fun _ => 0) (fun _ => 0) (fun _ => 0) vl0 ∧ bLand T l1 0 0 (fun _ => 0) (fun _ => 0) (fun _ => 0) (fun _ => 0) vl1 ∧ bDay T d0 0 (fun _ => 0) (fun _ => 0) (fun _ => 0) vd0 ∧ bDay T d1 0 (fun _ => 0) (fun _ => 0) (fun _ => 0) vd1 ∧ bLog T g0 0 (fun _ => 0) (fun _ => 0) vg0 ∧ bLog T g1 0 (fun _ => 0) (fun _ => 0) vg1 ∧ bTold T m0 l0a l1a d0a d1a g0a g1a 0 0 (-1) (fun _ => 0) (fun _ => 0) wta ∧ bLand T l0a 0 0 (fun _ => 0) (fun _ => 0) (fun _ => 0) (fun _ => 0) vl0a ∧ bLand T l1a 0 0 (fun _ => 0) (fun _ => 0) (fun _ => 0) (fun _ => 0) vl1a ∧ bDay T d0a 0 (fun _ => 0) (fun _ => 0) (fun _ => 0) vd0a ∧ bDay T d1a 0 (fun _ => 0) (fun _ => 0) (fun _ => 0) vd1a ∧ bLog T g0a 0 (fun _ => 0) (fun _ => 0) vg0a ∧ bLog T g1a 0 (fun _ => 0) (fun _ => 0) vg1a ∧ bTold T m1 l0b l1b d0b d1b g0b g1b 0 0 (-1) (fun _ => 0) (fun _ => 0) wtb ∧ bLand T l0b 0 0 (fun _ => 0) (fun _ => 0) (fun _ => 0) (fun _ => 0) vl0b ∧ bLand T l1b 0 0 (fun _ => 0) (fun _ => 0) (fun _ => 0) (fun _ => 0) vl1b ∧ bDay T d0b 0 (fun _ => 0) (fun _ => 0) (fun _ => 0) vd0b ∧ bDay T d1b 0 (fun _ => 0) (fun _ => 0) (fun _ => 0) vd1b ∧ bLog T g0b 0 (fun _ => 0) (fun _ => 0) vg0b ∧ bLog T g1b 0 (fun _ => 0) (fun _ => 0) vg1b ∧ bTold T m2 l0c l1c d0c d1c g0c g1c 0 0 (-1) (fun _ => 0) (fun _ => 0) wtc ∧ bLand T l0c 0 0 (fun _ => 0) (fun _ => 0) (fun _ => 0) (fun _ => 0) vl0c ∧ bLand T l1c 0 0 (fun _ => 0) (fun _ => 0) (fun _ => 0) (fun _ => 0) vl1c ∧ bDay T d0c 0 (fun _ => 0) (fun _ => 0) (fun _ => 0) vd0c ∧ bDay T d1c 0 (fun _ => 0) (fun _ => 0) (fun _ => 0) vd1c ∧ bLog T g0c 0 (fun _ => 0) (fun _ => 0) vg0c ∧ bLog T g1c 0 (fun _ => 0) (fun _ => 0) vg1c ∧ qi 0 = some m0 ∧ qi 1 = some m1 ∧ qi 2 = some m2 ∧ bLand T rl 0 0 (fun _ => 0) (fun _ => 0) (fun _ => 0) (fun _ => 0) z ∧ bDay T rdd 0 (fun _ => 0) (fun _ => 0) (fun _ => 0) wd ∧ bLog T rg 0 (fun _ => 0) (fun _ => 0) wg ∧ bPosts T po lp (fun _ => 0) (fun _ => 0) (fun _ => 0) 0 0 wp ∧ bCourse T co cpo cla (fun _ => 0) 0 0 0 0 0 0 0 0 wc ∧ bPosts T cpo cpl (fun _ => 0) (fun _ => 0) (fun _ => 0) 0 0 wcp ∧ bTrail T tr tpo (fun _ => 0) (fun _ => 0) 0 0 0 0 0 wr ∧ bPosts T tpo tpl (fun _ => 0) (fun _ => 0) (fun _ => 0) 0 0 wrp ∧ bWays T wa laA 0 0 0 (fun _ => 0) (fun _ => 0) (fun _ => 0) (fun _ => 0) (fun _ => 0) (fun _ => 0) 0 wwA ∧ bWays T wb_ laB 0 0 0 (fun _ => 0) (fun _ => 0) (fun _ => 0) (fun _ => 0) (fun _ => 0) (fun _ => 0) 0 wwB ∧ bFit T fi 0 (-1) (-1) 0 0 0 (fun _ => 0) 0 (fun _ => 0) wff) := by
  refine zMv_of (own := RX11) (by decide) rfl (Nat.le_of_ble_eq_true rfl) ?_
  intro p e s m args below meth c A ls C hr hlocks hnm hAe G hl
  have hx := C.1
  have hb := C.2.1
  have hl : lv_has ls 1 [(0, .ref xo)] := hl
  refine lv_aload_n hx hb dX11_init_0 rfl (lv_at hl 0 rfl) ?_
  refine W.objInit hx hb C.2.2.2.1 (C.2.2.2.2 _ m_ml_RX11_1) (C.2.2.2.2 _ m_im_obj) (C.2.2.2.2 _ m_co_obj) rfl (by rw [C.2.2.1]; exact hl.1) rfl dX11_init_1 (Nat.le_of_ble_eq_true rfl) (Nat.le_of_ble_eq_true rfl) ?_
  refine W.eq (g2 := F0 m 4 ls []) rfl ?_
  refine lv_aload_n hx hb dX11_init_4 rfl (lv_at hl 0 rfl) ?_
  refine z_new C G clX9 (fs := [.null, .int 0, .int 0, .int 0, .null, .null, .null, .null]) m_cl_RX11_7 m_in_RX9 m_ii_RX9 (fun j hj => by match j, hj with | 0, _ => rfl | 1, _ => rfl | 2, _ => rfl | 3, _ => rfl | 4, _ => rfl | 5, _ => rfl | 6, _ => rfl | 7, _ => rfl | j + 8, h => exact absurd h (by omega)) (Nat.le_of_ble_eq_true rfl) (Nat.le_of_ble_eq_true rfl) dX11_init_5 (fun q_1 H G => ?_)
  have G : zS T A s.heap s [[(xo, .inr (10, [.null, .null, .null, .null, .null, .null, .null, .null, .null, .null, .null]))], [(q_1, .inr (8, [.null, .int 0, .int 0, .int 0, .null, .null, .null, .null]))]] _ _ := G
  refine lv_dup hx hb dX11_init_8 rfl ?_
  refine z_Jv (bc := [[(q_1, .inr (8, [.null, .int 0, .int 0, .int 0, .null, .null, .null, .null]))]]) (br := [[(xo, .inr (10, [.null, .null, .null, .null, .null, .null, .null, .null, .null, .null, .null]))]]) (As := []) (rest := [.ref q_1, .ref xo]) C G (c_Told_init l T q_1) (kJ_RX11_9 G.2.2.2.2.2.1 C.2.2.2.2 (Nat.le_of_ble_eq_true rfl) (Nat.le_of_ble_eq_true rfl)) [1] [0] rfl rfl rfl rfl hl.1 dX11_init_9 (Nat.le_of_ble_eq_true rfl) (Nat.le_of_ble_eq_true rfl) (fun b1 H locs hw G => ?_)
  refine zEx13 hw ?_
  intro w_2 l0_3 l1_4 d0_5 d1_6 g0_7 g1_8 w1_9 w2_10 w3_11 w4_12 w5_13 w6_14
  refine zCu8 ?_
  intro hbs9 h_15 h_16 h_17 h_18 h_19 h_20 h_21
  clear hw
  subst hbs9
  have G : zS T A s.heap s [[(xo, .inr (10, [.null, .null, .null, .null, .null, .null, .null, .null, .null, .null, .null]))], w_2, w1_9, w2_10, w3_11, w4_12, w5_13, w6_14] _ _ := G
  refine z_putF C G hnm clX11 0 rfl 0 (by decide) m_fl_RX11_10 rfl rfl rfl rfl (Nat.le_of_ble_eq_true rfl) dX11_init_12 (fun H locs G => ?_)
  have G : zS T A s.heap s [[(xo, .inr (10, [.ref q_1, .null, .null, .null, .null, .null, .null, .null, .null, .null, .null]))], w_2, w1_9, w2_10, w3_11, w4_12, w5_13, w6_14] _ _ := G
  refine lv_aload_n hx hb dX11_init_15 rfl (lv_at hl 0 rfl) ?_
  refine lv_iconst (v := 3) hx hb dX11_init_16 (by decide) ?_
  refine z_newq C G 6 rfl m_cl_RX11_7 (List.mem_of_getElem? (i := 3) rfl) (N' := 3) (by decide) (by decide) (by decide) (Nat.le_of_ble_eq_true rfl) (Nat.le_of_ble_eq_true rfl) dX11_init_17 (fun q_23 H G => ?_)
  have G : zS T A s.heap s [[(xo, .inr (10, [.ref q_1, .null, .null, .null, .null, .null, .null, .null, .null, .null, .null]))], w_2, w1_9, w2_10, w3_11, w4_12, w5_13, w6_14, [(q_23, .inl (T.2 6, 3, .inr (.inr (.inr (.inr (fun _ => none))))))]] _ _ := G
  refine lv_dup hx hb dX11_init_20 rfl ?_
  refine lv_iconst (v := 0) hx hb dX11_init_21 (by decide) ?_
  refine z_new C G clX9 (fs := [.null, .int 0, .int 0, .int 0, .null, .null, .null, .null]) m_cl_RX11_7 m_in_RX9 m_ii_RX9 (fun j hj => by match j, hj with | 0, _ => rfl | 1, _ => rfl | 2, _ => rfl | 3, _ => rfl | 4, _ => rfl | 5, _ => rfl | 6, _ => rfl | 7, _ => rfl | j + 8, h => exact absurd h (by omega)) (Nat.le_of_ble_eq_true rfl) (Nat.le_of_ble_eq_true rfl) dX11_init_22 (fun q_24 H G => ?_)
  have G : zS T A s.heap s [[(xo, .inr (10, [.ref q_1, .null, .null, .null, .null, .null, .null, .null, .null, .null, .null]))], w_2, w1_9, w2_10, w3_11, w4_12, w5_13, w6_14, [(q_23, .inl (T.2 6, 3, .inr (.inr (.inr (.inr (fun _ => none))))))], [(q_24, .inr (8, [.null, .int 0, .int 0, .int 0, .null, .null, .null, .null]))]] _ _ := G
  refine lv_dup hx hb dX11_init_25 rfl ?_
  refine z_Jv (bc := [[(q_24, .inr (8, [.null, .int 0, .int 0, .int 0, .null, .null, .null, .null]))]]) (br := [[(xo, .inr (10, [.ref q_1, .null, .null, .null, .null, .null, .null, .null, .null, .null, .null]))], w_2, w1_9, w2_10, w3_11, w4_12, w5_13, w6_14, [(q_23, .inl (T.2 6, 3, .inr (.inr (.inr (.inr (fun _ => none))))))]]) (As := []) (rest := [.ref q_24, .int 0, .ref q_23, .ref q_23, .ref xo]) C G (c_Told_init l T q_24) (kJ_RX11_9 G.2.2.2.2.2.1 C.2.2.2.2 (Nat.le_of_ble_eq_true rfl) (Nat.le_of_ble_eq_true rfl)) [9] [0, 1, 2, 3, 4, 5, 6, 7, 8] rfl rfl rfl rfl hl.1 dX11_init_26 (Nat.le_of_ble_eq_true rfl) (Nat.le_of_ble_eq_true rfl) (fun b1 H locs hw G => ?_)
  refine zEx13 hw ?_
  intro w_25 l0_26 l1_27 d0_28 d1_29 g0_30 g1_31 w1_32 w2_33 w3_34 w4_35 w5_36 w6_37
  refine zCu8 ?_
  intro hbs9 h_38 h_39 h_40 h_41 h_42 h_43 h_44
  clear hw
  subst hbs9
  have G : zS T A s.heap s [[(xo, .inr (10, [.ref q_1, .null, .null, .null, .null, .null, .null, .null, .null, .null, .null]))], w_2, w1_9, w2_10, w3_11, w4_12, w5_13, w6_14, [(q_23, .inl (T.2 6, 3, .inr (.inr (.inr (.inr (fun _ => none))))))], w_25, w1_32, w2_33, w3_34, w4_35, w5_36, w6_37] _ _ := G
  refine z_ast C G 8 6 (ci := 8) (r := (RX9, TX9, 8)) rfl rfl (List.mem_flatten.mpr ⟨_, List.mem_of_getElem? (i := 9) rfl, (bTold_mem h_38).choose_spec⟩) rfl (vp_in_nI (n := 0) (by decide) (by decide)) dX11_init_29 (fun H locs G => ?_)
  have G : zS T A s.heap s [[(xo, .inr (10, [.ref q_1, .null, .null, .null, .null, .null, .null, .null, .null, .null, .null]))], w_2, w1_9, w2_10, w3_11, w4_12, w5_13, w6_14, [(q_23, .inl (T.2 6, 3, .inr (.inr (.inr (.inr (va_up (fun _ => none) 0 (some q_24)))))))], w_25, w1_32, w2_33, w3_34, w4_35, w5_36, w6_37] _ _ := G
  refine lv_dup hx hb dX11_init_30 rfl ?_
  refine lv_iconst (v := 1) hx hb dX11_init_31 (by decide) ?_
  refine z_new C G clX9 (fs := [.null, .int 0, .int 0, .int 0, .null, .null, .null, .null]) m_cl_RX11_7 m_in_RX9 m_ii_RX9 (fun j hj => by match j, hj with | 0, _ => rfl | 1, _ => rfl | 2, _ => rfl | 3, _ => rfl | 4, _ => rfl | 5, _ => rfl | 6, _ => rfl | 7, _ => rfl | j + 8, h => exact absurd h (by omega)) (Nat.le_of_ble_eq_true rfl) (Nat.le_of_ble_eq_true rfl) dX11_init_32 (fun q_46 H G => ?_)
  have G : zS T A s.heap s [[(xo, .inr (10, [.ref q_1, .null, .null, .null, .null, .null, .null, .null, .null, .null, .null]))], w_2, w1_9, w2_10, w3_11, w4_12, w5_13, w6_14, [(q_23, .inl (T.2 6, 3, .inr (.inr (.inr (.inr (va_up (fun _ => none) 0 (some q_24)))))))], w_25, w1_32, w2_33, w3_34, w4_35, w5_36, w6_37, [(q_46, .inr (8, [.null, .int 0, .int 0, .int 0, .null, .null, .null, .null]))]] _ _ := G
  refine lv_dup hx hb dX11_init_35 rfl ?_
  refine z_Jv (bc := [[(q_46, .inr (8, [.null, .int 0, .int 0, .int 0, .null, .null, .null, .null]))]]) (br := [[(xo, .inr (10, [.ref q_1, .null, .null, .null, .null, .null, .null, .null, .null, .null, .null]))], w_2, w1_9, w2_10, w3_11, w4_12, w5_13, w6_14, [(q_23, .inl (T.2 6, 3, .inr (.inr (.inr (.inr (va_up (fun _ => none) 0 (some q_24)))))))], w_25, w1_32, w2_33, w3_34, w4_35, w5_36, w6_37]) (As := []) (rest := [.ref q_46, .int 1, .ref q_23, .ref q_23, .ref xo]) C G (c_Told_init l T q_46) (kJ_RX11_9 G.2.2.2.2.2.1 C.2.2.2.2 (Nat.le_of_ble_eq_true rfl) (Nat.le_of_ble_eq_true rfl)) [16] [0, 1, 2, 3, 4, 5, 6, 7, 8, 9, 10, 11, 12, 13, 14, 15] rfl rfl rfl rfl hl.1 dX11_init_36 (Nat.le_of_ble_eq_true rfl) (Nat.le_of_ble_eq_true rfl) (fun b1 H locs hw G => ?_)
  refine zEx13 hw ?_
  intro w_47 l0_48 l1_49 d0_50 d1_51 g0_52 g1_53 w1_54 w2_55 w3_56 w4_57 w5_58 w6_59
  refine zCu8 ?_
  intro hbs9 h_60 h_61 h_62 h_63 h_64 h_65 h_66
  clear hw
  subst hbs9
  have G : zS T A s.heap s [[(xo, .inr (10, [.ref q_1, .null, .null, .null, .null, .null, .null, .null, .null, .null, .null]))], w_2, w1_9, w2_10, w3_11, w4_12, w5_13, w6_14, [(q_23, .inl (T.2 6, 3, .inr (.inr (.inr (.inr (va_up (fun _ => none) 0 (some q_24)))))))], w_25, w1_32, w2_33, w3_34, w4_35, w5_36, w6_37, w_47, w1_54, w2_55, w3_56, w4_57, w5_58, w6_59] _ _ := G
  refine z_ast C G 8 6 (ci := 8) (r := (RX9, TX9, 8)) rfl rfl (List.mem_flatten.mpr ⟨_, List.mem_of_getElem? (i := 16) rfl, (bTold_mem h_60).choose_spec⟩) rfl (vp_in_nI (n := 1) (by decide) (by decide)) dX11_init_39 (fun H locs G => ?_)
  have G : zS T A s.heap s [[(xo, .inr (10, [.ref q_1, .null, .null, .null, .null, .null, .null, .null, .null, .null, .null]))], w_2, w1_9, w2_10, w3_11, w4_12, w5_13, w6_14, [(q_23, .inl (T.2 6, 3, .inr (.inr (.inr (.inr (va_up (va_up (fun _ => none) 0 (some q_24)) 1 (some q_46)))))))], w_25, w1_32, w2_33, w3_34, w4_35, w5_36, w6_37, w_47, w1_54, w2_55, w3_56, w4_57, w5_58, w6_59] _ _ := G
  refine lv_dup hx hb dX11_init_40 rfl ?_
  refine lv_iconst (v := 2) hx hb dX11_init_41 (by decide) ?_
  refine z_new C G clX9 (fs := [.null, .int 0, .int 0, .int 0, .null, .null, .null, .null]) m_cl_RX11_7 m_in_RX9 m_ii_RX9 (fun j hj => by match j, hj with | 0, _ => rfl | 1, _ => rfl | 2, _ => rfl | 3, _ => rfl | 4, _ => rfl | 5, _ => rfl | 6, _ => rfl | 7, _ => rfl | j + 8, h => exact absurd h (by omega)) (Nat.le_of_ble_eq_true rfl) (Nat.le_of_ble_eq_true rfl) dX11_init_42 (fun q_68 H G => ?_)
  have G : zS T A s.heap s [[(xo, .inr (10, [.ref q_1, .null, .null, .null, .null, .null, .null, .null, .null, .null, .null]))], w_2, w1_9, w2_10, w3_11, w4_12, w5_13, w6_14, [(q_23, .inl (T.2 6, 3, .inr (.inr (.inr (.inr (va_up (va_up (fun _ => none) 0 (some q_24)) 1 (some q_46)))))))], w_25, w1_32, w2_33, w3_34, w4_35, w5_36, w6_37, w_47, w1_54, w2_55, w3_56, w4_57, w5_58, w6_59, [(q_68, .inr (8, [.null, .int 0, .int 0, .int 0, .null, .null, .null, .null]))]] _ _ := G
  refine lv_dup hx hb dX11_init_45 rfl ?_
  refine z_Jv (bc := [[(q_68, .inr (8, [.null, .int 0, .int 0, .int 0, .null, .null, .null, .null]))]]) (br := [[(xo, .inr (10, [.ref q_1, .null, .null, .null, .null, .null, .null, .null, .null, .null, .null]))], w_2, w1_9, w2_10, w3_11, w4_12, w5_13, w6_14, [(q_23, .inl (T.2 6, 3, .inr (.inr (.inr (.inr (va_up (va_up (fun _ => none) 0 (some q_24)) 1 (some q_46)))))))], w_25, w1_32, w2_33, w3_34, w4_35, w5_36, w6_37, w_47, w1_54, w2_55, w3_56, w4_57, w5_58, w6_59]) (As := []) (rest := [.ref q_68, .int 2, .ref q_23, .ref q_23, .ref xo]) C G (c_Told_init l T q_68) (kJ_RX11_9 G.2.2.2.2.2.1 C.2.2.2.2 (Nat.le_of_ble_eq_true rfl) (Nat.le_of_ble_eq_true rfl)) [23] [0, 1, 2, 3, 4, 5, 6, 7, 8, 9, 10, 11, 12, 13, 14, 15, 16, 17, 18, 19, 20, 21, 22] rfl rfl rfl rfl hl.1 dX11_init_46 (Nat.le_of_ble_eq_true rfl) (Nat.le_of_ble_eq_true rfl) (fun b1 H locs hw G => ?_)
  refine zEx13 hw ?_
  intro w_69 l0_70 l1_71 d0_72 d1_73 g0_74 g1_75 w1_76 w2_77 w3_78 w4_79 w5_80 w6_81
  refine zCu8 ?_
  intro hbs9 h_82 h_83 h_84 h_85 h_86 h_87 h_88
  clear hw
  subst hbs9
  have G : zS T A s.heap s [[(xo, .inr (10, [.ref q_1, .null, .null, .null, .null, .null, .null, .null, .null, .null, .null]))], w_2, w1_9, w2_10, w3_11, w4_12, w5_13, w6_14, [(q_23, .inl (T.2 6, 3, .inr (.inr (.inr (.inr (va_up (va_up (fun _ => none) 0 (some q_24)) 1 (some q_46)))))))], w_25, w1_32, w2_33, w3_34, w4_35, w5_36, w6_37, w_47, w1_54, w2_55, w3_56, w4_57, w5_58, w6_59, w_69, w1_76, w2_77, w3_78, w4_79, w5_80, w6_81] _ _ := G
  refine z_ast C G 8 6 (ci := 8) (r := (RX9, TX9, 8)) rfl rfl (List.mem_flatten.mpr ⟨_, List.mem_of_getElem? (i := 23) rfl, (bTold_mem h_82).choose_spec⟩) rfl (vp_in_nI (n := 2) (by decide) (by decide)) dX11_init_49 (fun H locs G => ?_)
  have G : zS T A s.heap s [[(xo, .inr (10, [.ref q_1, .null, .null, .null, .null, .null, .null, .null, .null, .null, .null]))], w_2, w1_9, w2_10, w3_11, w4_12, w5_13, w6_14, [(q_23, .inl (T.2 6, 3, .inr (.inr (.inr (.inr (va_up (va_up (va_up (fun _ => none) 0 (some q_24)) 1 (some q_46)) 2 (some q_68)))))))], w_25, w1_32, w2_33, w3_34, w4_35, w5_36, w6_37, w_47, w1_54, w2_55, w3_56, w4_57, w5_58, w6_59, w_69, w1_76, w2_77, w3_78, w4_79, w5_80, w6_81] _ _ := G
  refine z_putF C G hnm clX11 0 rfl 1 (by decide) m_fl_RX11_16 rfl rfl rfl rfl (Nat.le_of_ble_eq_true rfl) dX11_init_50 (fun H locs G => ?_)
  have G : zS T A s.heap s [[(xo, .inr (10, [.ref q_1, .ref q_23, .null, .null, .null, .null, .null, .null, .null, .null, .null]))], w_2, w1_9, w2_10, w3_11, w4_12, w5_13, w6_14, [(q_23, .inl (T.2 6, 3, .inr (.inr (.inr (.inr (va_up (va_up (va_up (fun _ => none) 0 (some q_24)) 1 (some q_46)) 2 (some q_68)))))))], w_25, w1_32, w2_33, w3_34, w4_35, w5_36, w6_37, w_47, w1_54, w2_55, w3_56, w4_57, w5_58, w6_59, w_69, w1_76, w2_77, w3_78, w4_79, w5_80, w6_81] _ _ := G
  refine lv_aload_n hx hb dX11_init_53 rfl (lv_at hl 0 rfl) ?_
  refine lv_iconst (v := 3) hx hb dX11_init_54 (by decide) ?_
  refine z_newa C G 2 (ty := .boolean) (N' := 3) (a0 := (3, .inl (fun _ => 0))) rfl z_uboolean m_ar_boolean rfl (fun _ => rfl) (by decide) (by decide) (Nat.le_of_ble_eq_true rfl) (Nat.le_of_ble_eq_true rfl) (Nat.le_of_ble_eq_true rfl) dX11_init_55 (fun q_90 H G => ?_)
  have G : zS T A s.heap s [[(xo, .inr (10, [.ref q_1, .ref q_23, .null, .null, .null, .null, .null, .null, .null, .null, .null]))], w_2, w1_9, w2_10, w3_11, w4_12, w5_13, w6_14, [(q_23, .inl (T.2 6, 3, .inr (.inr (.inr (.inr (va_up (va_up (va_up (fun _ => none) 0 (some q_24)) 1 (some q_46)) 2 (some q_68)))))))], w_25, w1_32, w2_33, w3_34, w4_35, w5_36, w6_37, w_47, w1_54, w2_55, w3_56, w4_57, w5_58, w6_59, w_69, w1_76, w2_77, w3_78, w4_79, w5_80, w6_81, [(q_90, .inl (T.2 2, 3, .inl (fun _ => 0)))]] _ _ := G
  refine z_putF C G hnm clX11 0 rfl 2 (by decide) m_fl_RX11_20 rfl rfl rfl rfl (Nat.le_of_ble_eq_true rfl) dX11_init_57 (fun H locs G => ?_)
  have G : zS T A s.heap s [[(xo, .inr (10, [.ref q_1, .ref q_23, .ref q_90, .null, .null, .null, .null, .null, .null, .null, .null]))], w_2, w1_9, w2_10, w3_11, w4_12, w5_13, w6_14, [(q_23, .inl (T.2 6, 3, .inr (.inr (.inr (.inr (va_up (va_up (va_up (fun _ => none) 0 (some q_24)) 1 (some q_46)) 2 (some q_68)))))))], w_25, w1_32, w2_33, w3_34, w4_35, w5_36, w6_37, w_47, w1_54, w2_55, w3_56, w4_57, w5_58, w6_59, w_69, w1_76, w2_77, w3_78, w4_79, w5_80, w6_81, [(q_90, .inl (T.2 2, 3, .inl (fun _ => 0)))]] _ _ := G
  refine lv_aload_n hx hb dX11_init_60 rfl (lv_at hl 0 rfl) ?_
  refine z_new C G clX7 (fs := [.null, .null, .null, .int 0, .int 0, .null, .int 0, .int 0, .int 0, .int 0, .int 0, .int 0, .int 0]) m_cl_RX11_24 m_in_RX7 m_ii_RX7 (fun j hj => by match j, hj with | 0, _ => rfl | 1, _ => rfl | 2, _ => rfl | 3, _ => rfl | 4, _ => rfl | 5, _ => rfl | 6, _ => rfl | 7, _ => rfl | 8, _ => rfl | 9, _ => rfl | 10, _ => rfl | 11, _ => rfl | 12, _ => rfl | j + 13, h => exact absurd h (by omega)) (Nat.le_of_ble_eq_true rfl) (Nat.le_of_ble_eq_true rfl) dX11_init_61 (fun q_91 H G => ?_)
  have G : zS T A s.heap s [[(xo, .inr (10, [.ref q_1, .ref q_23, .ref q_90, .null, .null, .null, .null, .null, .null, .null, .null]))], w_2, w1_9, w2_10, w3_11, w4_12, w5_13, w6_14, [(q_23, .inl (T.2 6, 3, .inr (.inr (.inr (.inr (va_up (va_up (va_up (fun _ => none) 0 (some q_24)) 1 (some q_46)) 2 (some q_68)))))))], w_25, w1_32, w2_33, w3_34, w4_35, w5_36, w6_37, w_47, w1_54, w2_55, w3_56, w4_57, w5_58, w6_59, w_69, w1_76, w2_77, w3_78, w4_79, w5_80, w6_81, [(q_90, .inl (T.2 2, 3, .inl (fun _ => 0)))], [(q_91, .inr (7, [.null, .null, .null, .int 0, .int 0, .null, .int 0, .int 0, .int 0, .int 0, .int 0, .int 0, .int 0]))]] _ _ := G
  refine lv_dup hx hb dX11_init_64 rfl ?_
  refine z_Jv (bc := [[(q_91, .inr (7, [.null, .null, .null, .int 0, .int 0, .null, .int 0, .int 0, .int 0, .int 0, .int 0, .int 0, .int 0]))]]) (br := [[(xo, .inr (10, [.ref q_1, .ref q_23, .ref q_90, .null, .null, .null, .null, .null, .null, .null, .null]))], w_2, w1_9, w2_10, w3_11, w4_12, w5_13, w6_14, [(q_23, .inl (T.2 6, 3, .inr (.inr (.inr (.inr (va_up (va_up (va_up (fun _ => none) 0 (some q_24)) 1 (some q_46)) 2 (some q_68)))))))], w_25, w1_32, w2_33, w3_34, w4_35, w5_36, w6_37, w_47, w1_54, w2_55, w3_56, w4_57, w5_58, w6_59, w_69, w1_76, w2_77, w3_78, w4_79, w5_80, w6_81, [(q_90, .inl (T.2 2, 3, .inl (fun _ => 0)))]]) (As := []) (rest := [.ref q_91, .ref xo]) C G (c_Reader_init l T q_91) (kJ_RX11_26 G.2.2.2.2.2.1 C.2.2.2.2 (Nat.le_of_ble_eq_true rfl) (Nat.le_of_ble_eq_true rfl)) [31] [0, 1, 2, 3, 4, 5, 6, 7, 8, 9, 10, 11, 12, 13, 14, 15, 16, 17, 18, 19, 20, 21, 22, 23, 24, 25, 26, 27, 28, 29, 30] rfl rfl rfl rfl hl.1 dX11_init_65 (Nat.le_of_ble_eq_true rfl) (Nat.le_of_ble_eq_true rfl) (fun b1 H locs hw G => ?_)
  refine zEx7 hw ?_
  intro rl_92 rdd_93 rg_94 tp_95 w1_96 w2_97 w3_98
  refine zCu4 ?_
  intro hbs9 h_99 h_100 h_101
  clear hw
  subst hbs9
  have G : zS T A s.heap s [[(xo, .inr (10, [.ref q_1, .ref q_23, .ref q_90, .null, .null, .null, .null, .null, .null, .null, .null]))], w_2, w1_9, w2_10, w3_11, w4_12, w5_13, w6_14, [(q_23, .inl (T.2 6, 3, .inr (.inr (.inr (.inr (va_up (va_up (va_up (fun _ => none) 0 (some q_24)) 1 (some q_46)) 2 (some q_68)))))))], w_25, w1_32, w2_33, w3_34, w4_35, w5_36, w6_37, w_47, w1_54, w2_55, w3_56, w4_57, w5_58, w6_59, w_69, w1_76, w2_77, w3_78, w4_79, w5_80, w6_81, [(q_90, .inl (T.2 2, 3, .inl (fun _ => 0)))], [(q_91, .inr (7, [.ref rl_92, .ref rdd_93, .ref rg_94, .int 0, .int 0, .ref tp_95, .int 0, .int 0, .int 0, .int 0, .int 0, .int 0, .int 0]))], w1_96, w2_97, w3_98] _ _ := G
  refine z_putF C G hnm clX11 0 rfl 3 (by decide) m_fl_RX11_27 rfl rfl rfl rfl (Nat.le_of_ble_eq_true rfl) dX11_init_68 (fun H locs G => ?_)
  have G : zS T A s.heap s [[(xo, .inr (10, [.ref q_1, .ref q_23, .ref q_90, .ref q_91, .null, .null, .null, .null, .null, .null, .null]))], w_2, w1_9, w2_10, w3_11, w4_12, w5_13, w6_14, [(q_23, .inl (T.2 6, 3, .inr (.inr (.inr (.inr (va_up (va_up (va_up (fun _ => none) 0 (some q_24)) 1 (some q_46)) 2 (some q_68)))))))], w_25, w1_32, w2_33, w3_34, w4_35, w5_36, w6_37, w_47, w1_54, w2_55, w3_56, w4_57, w5_58, w6_59, w_69, w1_76, w2_77, w3_78, w4_79, w5_80, w6_81, [(q_90, .inl (T.2 2, 3, .inl (fun _ => 0)))], [(q_91, .inr (7, [.ref rl_92, .ref rdd_93, .ref rg_94, .int 0, .int 0, .ref tp_95, .int 0, .int 0, .int 0, .int 0, .int 0, .int 0, .int 0]))], w1_96, w2_97, w3_98] _ _ := G
  refine lv_aload_n hx hb dX11_init_71 rfl (lv_at hl 0 rfl) ?_
  refine z_new C G clX6 (fs := [.null, .null, .null, .int 0, .int 0, .null]) m_cl_RX11_31 m_in_RX6 m_ii_RX6 (fun j hj => by match j, hj with | 0, _ => rfl | 1, _ => rfl | 2, _ => rfl | 3, _ => rfl | 4, _ => rfl | 5, _ => rfl | j + 6, h => exact absurd h (by omega)) (Nat.le_of_ble_eq_true rfl) (Nat.le_of_ble_eq_true rfl) dX11_init_72 (fun q_103 H G => ?_)
  have G : zS T A s.heap s [[(xo, .inr (10, [.ref q_1, .ref q_23, .ref q_90, .ref q_91, .null, .null, .null, .null, .null, .null, .null]))], w_2, w1_9, w2_10, w3_11, w4_12, w5_13, w6_14, [(q_23, .inl (T.2 6, 3, .inr (.inr (.inr (.inr (va_up (va_up (va_up (fun _ => none) 0 (some q_24)) 1 (some q_46)) 2 (some q_68)))))))], w_25, w1_32, w2_33, w3_34, w4_35, w5_36, w6_37, w_47, w1_54, w2_55, w3_56, w4_57, w5_58, w6_59, w_69, w1_76, w2_77, w3_78, w4_79, w5_80, w6_81, [(q_90, .inl (T.2 2, 3, .inl (fun _ => 0)))], [(q_91, .inr (7, [.ref rl_92, .ref rdd_93, .ref rg_94, .int 0, .int 0, .ref tp_95, .int 0, .int 0, .int 0, .int 0, .int 0, .int 0, .int 0]))], w1_96, w2_97, w3_98, [(q_103, .inr (6, [.null, .null, .null, .int 0, .int 0, .null]))]] _ _ := G
  refine lv_dup hx hb dX11_init_75 rfl ?_
  refine z_Jv (bc := [[(q_103, .inr (6, [.null, .null, .null, .int 0, .int 0, .null]))]]) (br := [[(xo, .inr (10, [.ref q_1, .ref q_23, .ref q_90, .ref q_91, .null, .null, .null, .null, .null, .null, .null]))], w_2, w1_9, w2_10, w3_11, w4_12, w5_13, w6_14, [(q_23, .inl (T.2 6, 3, .inr (.inr (.inr (.inr (va_up (va_up (va_up (fun _ => none) 0 (some q_24)) 1 (some q_46)) 2 (some q_68)))))))], w_25, w1_32, w2_33, w3_34, w4_35, w5_36, w6_37, w_47, w1_54, w2_55, w3_56, w4_57, w5_58, w6_59, w_69, w1_76, w2_77, w3_78, w4_79, w5_80, w6_81, [(q_90, .inl (T.2 2, 3, .inl (fun _ => 0)))], [(q_91, .inr (7, [.ref rl_92, .ref rdd_93, .ref rg_94, .int 0, .int 0, .ref tp_95, .int 0, .int 0, .int 0, .int 0, .int 0, .int 0, .int 0]))], w1_96, w2_97, w3_98]) (As := []) (rest := [.ref q_103, .ref xo]) C G (c_Posts_init l T q_103) (kJ_RX11_33 G.2.2.2.2.2.1 C.2.2.2.2 (Nat.le_of_ble_eq_true rfl) (Nat.le_of_ble_eq_true rfl)) [35] [0, 1, 2, 3, 4, 5, 6, 7, 8, 9, 10, 11, 12, 13, 14, 15, 16, 17, 18, 19, 20, 21, 22, 23, 24, 25, 26, 27, 28, 29, 30, 31, 32, 33, 34] rfl rfl rfl rfl hl.1 dX11_init_76 (Nat.le_of_ble_eq_true rfl) (Nat.le_of_ble_eq_true rfl) (fun b1 H locs hw G => ?_)
  refine zEx2 hw ?_
  intro w_104 la_105
  refine zCu2 ?_
  intro hbs9 h_106
  clear hw
  subst hbs9
  have G : zS T A s.heap s [[(xo, .inr (10, [.ref q_1, .ref q_23, .ref q_90, .ref q_91, .null, .null, .null, .null, .null, .null, .null]))], w_2, w1_9, w2_10, w3_11, w4_12, w5_13, w6_14, [(q_23, .inl (T.2 6, 3, .inr (.inr (.inr (.inr (va_up (va_up (va_up (fun _ => none) 0 (some q_24)) 1 (some q_46)) 2 (some q_68)))))))], w_25, w1_32, w2_33, w3_34, w4_35, w5_36, w6_37, w_47, w1_54, w2_55, w3_56, w4_57, w5_58, w6_59, w_69, w1_76, w2_77, w3_78, w4_79, w5_80, w6_81, [(q_90, .inl (T.2 2, 3, .inl (fun _ => 0)))], [(q_91, .inr (7, [.ref rl_92, .ref rdd_93, .ref rg_94, .int 0, .int 0, .ref tp_95, .int 0, .int 0, .int 0, .int 0, .int 0, .int 0, .int 0]))], w1_96, w2_97, w3_98, w_104] _ _ := G
  refine z_putF C G hnm clX11 0 rfl 4 (by decide) m_fl_RX11_34 rfl rfl rfl rfl (Nat.le_of_ble_eq_true rfl) dX11_init_79 (fun H locs G => ?_)
  have G : zS T A s.heap s [[(xo, .inr (10, [.ref q_1, .ref q_23, .ref q_90, .ref q_91, .ref q_103, .null, .null, .null, .null, .null, .null]))], w_2, w1_9, w2_10, w3_11, w4_12, w5_13, w6_14, [(q_23, .inl (T.2 6, 3, .inr (.inr (.inr (.inr (va_up (va_up (va_up (fun _ => none) 0 (some q_24)) 1 (some q_46)) 2 (some q_68)))))))], w_25, w1_32, w2_33, w3_34, w4_35, w5_36, w6_37, w_47, w1_54, w2_55, w3_56, w4_57, w5_58, w6_59, w_69, w1_76, w2_77, w3_78, w4_79, w5_80, w6_81, [(q_90, .inl (T.2 2, 3, .inl (fun _ => 0)))], [(q_91, .inr (7, [.ref rl_92, .ref rdd_93, .ref rg_94, .int 0, .int 0, .ref tp_95, .int 0, .int 0, .int 0, .int 0, .int 0, .int 0, .int 0]))], w1_96, w2_97, w3_98, w_104] _ _ := G
  refine lv_aload_n hx hb dX11_init_82 rfl (lv_at hl 0 rfl) ?_
  refine z_new C G clX1 (fs := [.null, .null, .int 0, .null, .int 0, .int 0, .int 0, .int 0, .int 0, .int 0, .int 0]) m_cl_RX11_38 m_in_RX1 m_ii_RX1 (fun j hj => by match j, hj with | 0, _ => rfl | 1, _ => rfl | 2, _ => rfl | 3, _ => rfl | 4, _ => rfl | 5, _ => rfl | 6, _ => rfl | 7, _ => rfl | 8, _ => rfl | 9, _ => rfl | 10, _ => rfl | j + 11, h => exact absurd h (by omega)) (Nat.le_of_ble_eq_true rfl) (Nat.le_of_ble_eq_true rfl) dX11_init_83 (fun q_108 H G => ?_)
  have G : zS T A s.heap s [[(xo, .inr (10, [.ref q_1, .ref q_23, .ref q_90, .ref q_91, .ref q_103, .null, .null, .null, .null, .null, .null]))], w_2, w1_9, w2_10, w3_11, w4_12, w5_13, w6_14, [(q_23, .inl (T.2 6, 3, .inr (.inr (.inr (.inr (va_up (va_up (va_up (fun _ => none) 0 (some q_24)) 1 (some q_46)) 2 (some q_68)))))))], w_25, w1_32, w2_33, w3_34, w4_35, w5_36, w6_37, w_47, w1_54, w2_55, w3_56, w4_57, w5_58, w6_59, w_69, w1_76, w2_77, w3_78, w4_79, w5_80, w6_81, [(q_90, .inl (T.2 2, 3, .inl (fun _ => 0)))], [(q_91, .inr (7, [.ref rl_92, .ref rdd_93, .ref rg_94, .int 0, .int 0, .ref tp_95, .int 0, .int 0, .int 0, .int 0, .int 0, .int 0, .int 0]))], w1_96, w2_97, w3_98, w_104, [(q_108, .inr (1, [.null, .null, .int 0, .null, .int 0, .int 0, .int 0, .int 0, .int 0, .int 0, .int 0]))]] _ _ := G
  refine lv_dup hx hb dX11_init_86 rfl ?_
  refine z_Jv (bc := [[(q_108, .inr (1, [.null, .null, .int 0, .null, .int 0, .int 0, .int 0, .int 0, .int 0, .int 0, .int 0]))]]) (br := [[(xo, .inr (10, [.ref q_1, .ref q_23, .ref q_90, .ref q_91, .ref q_103, .null, .null, .null, .null, .null, .null]))], w_2, w1_9, w2_10, w3_11, w4_12, w5_13, w6_14, [(q_23, .inl (T.2 6, 3, .inr (.inr (.inr (.inr (va_up (va_up (va_up (fun _ => none) 0 (some q_24)) 1 (some q_46)) 2 (some q_68)))))))], w_25, w1_32, w2_33, w3_34, w4_35, w5_36, w6_37, w_47, w1_54, w2_55, w3_56, w4_57, w5_58, w6_59, w_69, w1_76, w2_77, w3_78, w4_79, w5_80, w6_81, [(q_90, .inl (T.2 2, 3, .inl (fun _ => 0)))], [(q_91, .inr (7, [.ref rl_92, .ref rdd_93, .ref rg_94, .int 0, .int 0, .ref tp_95, .int 0, .int 0, .int 0, .int 0, .int 0, .int 0, .int 0]))], w1_96, w2_97, w3_98, w_104]) (As := []) (rest := [.ref q_108, .ref xo]) C G (c_Course_init l T q_108) (kJ_RX11_40 G.2.2.2.2.2.1 C.2.2.2.2 (Nat.le_of_ble_eq_true rfl) (Nat.le_of_ble_eq_true rfl)) [36] [0, 1, 2, 3, 4, 5, 6, 7, 8, 9, 10, 11, 12, 13, 14, 15, 16, 17, 18, 19, 20, 21, 22, 23, 24, 25, 26, 27, 28, 29, 30, 31, 32, 33, 34, 35] rfl rfl rfl rfl hl.1 dX11_init_87 (Nat.le_of_ble_eq_true rfl) (Nat.le_of_ble_eq_true rfl) (fun b1 H locs hw G => ?_)
  refine zEx5 hw ?_
  intro w_109 po_110 lc_111 la_112 w1_113
  refine zCu3 ?_
  intro hbs9 h_114 h_115
  clear hw
  subst hbs9
  have G : zS T A s.heap s [[(xo, .inr (10, [.ref q_1, .ref q_23, .ref q_90, .ref q_91, .ref q_103, .null, .null, .null, .null, .null, .null]))], w_2, w1_9, w2_10, w3_11, w4_12, w5_13, w6_14, [(q_23, .inl (T.2 6, 3, .inr (.inr (.inr (.inr (va_up (va_up (va_up (fun _ => none) 0 (some q_24)) 1 (some q_46)) 2 (some q_68)))))))], w_25, w1_32, w2_33, w3_34, w4_35, w5_36, w6_37, w_47, w1_54, w2_55, w3_56, w4_57, w5_58, w6_59, w_69, w1_76, w2_77, w3_78, w4_79, w5_80, w6_81, [(q_90, .inl (T.2 2, 3, .inl (fun _ => 0)))], [(q_91, .inr (7, [.ref rl_92, .ref rdd_93, .ref rg_94, .int 0, .int 0, .ref tp_95, .int 0, .int 0, .int 0, .int 0, .int 0, .int 0, .int 0]))], w1_96, w2_97, w3_98, w_104, w_109, w1_113] _ _ := G
  refine z_putF C G hnm clX11 0 rfl 5 (by decide) m_fl_RX11_41 rfl rfl rfl rfl (Nat.le_of_ble_eq_true rfl) dX11_init_90 (fun H locs G => ?_)
  have G : zS T A s.heap s [[(xo, .inr (10, [.ref q_1, .ref q_23, .ref q_90, .ref q_91, .ref q_103, .ref q_108, .null, .null, .null, .null, .null]))], w_2, w1_9, w2_10, w3_11, w4_12, w5_13, w6_14, [(q_23, .inl (T.2 6, 3, .inr (.inr (.inr (.inr (va_up (va_up (va_up (fun _ => none) 0 (some q_24)) 1 (some q_46)) 2 (some q_68)))))))], w_25, w1_32, w2_33, w3_34, w4_35, w5_36, w6_37, w_47, w1_54, w2_55, w3_56, w4_57, w5_58, w6_59, w_69, w1_76, w2_77, w3_78, w4_79, w5_80, w6_81, [(q_90, .inl (T.2 2, 3, .inl (fun _ => 0)))], [(q_91, .inr (7, [.ref rl_92, .ref rdd_93, .ref rg_94, .int 0, .int 0, .ref tp_95, .int 0, .int 0, .int 0, .int 0, .int 0, .int 0, .int 0]))], w1_96, w2_97, w3_98, w_104, w_109, w1_113] _ _ := G
  refine lv_aload_n hx hb dX11_init_93 rfl (lv_at hl 0 rfl) ?_
  refine z_new C G clX10 (fs := [.null, .null, .null, .int 0, .int 0, .int 0, .int 0, .int 0]) m_cl_RX11_45 m_in_RX10 m_ii_RX10 (fun j hj => by match j, hj with | 0, _ => rfl | 1, _ => rfl | 2, _ => rfl | 3, _ => rfl | 4, _ => rfl | 5, _ => rfl | 6, _ => rfl | 7, _ => rfl | j + 8, h => exact absurd h (by omega)) (Nat.le_of_ble_eq_true rfl) (Nat.le_of_ble_eq_true rfl) dX11_init_94 (fun q_117 H G => ?_)
  have G : zS T A s.heap s [[(xo, .inr (10, [.ref q_1, .ref q_23, .ref q_90, .ref q_91, .ref q_103, .ref q_108, .null, .null, .null, .null, .null]))], w_2, w1_9, w2_10, w3_11, w4_12, w5_13, w6_14, [(q_23, .inl (T.2 6, 3, .inr (.inr (.inr (.inr (va_up (va_up (va_up (fun _ => none) 0 (some q_24)) 1 (some q_46)) 2 (some q_68)))))))], w_25, w1_32, w2_33, w3_34, w4_35, w5_36, w6_37, w_47, w1_54, w2_55, w3_56, w4_57, w5_58, w6_59, w_69, w1_76, w2_77, w3_78, w4_79, w5_80, w6_81, [(q_90, .inl (T.2 2, 3, .inl (fun _ => 0)))], [(q_91, .inr (7, [.ref rl_92, .ref rdd_93, .ref rg_94, .int 0, .int 0, .ref tp_95, .int 0, .int 0, .int 0, .int 0, .int 0, .int 0, .int 0]))], w1_96, w2_97, w3_98, w_104, w_109, w1_113, [(q_117, .inr (9, [.null, .null, .null, .int 0, .int 0, .int 0, .int 0, .int 0]))]] _ _ := G
  refine lv_dup hx hb dX11_init_97 rfl ?_
  refine z_Jv (bc := [[(q_117, .inr (9, [.null, .null, .null, .int 0, .int 0, .int 0, .int 0, .int 0]))]]) (br := [[(xo, .inr (10, [.ref q_1, .ref q_23, .ref q_90, .ref q_91, .ref q_103, .ref q_108, .null, .null, .null, .null, .null]))], w_2, w1_9, w2_10, w3_11, w4_12, w5_13, w6_14, [(q_23, .inl (T.2 6, 3, .inr (.inr (.inr (.inr (va_up (va_up (va_up (fun _ => none) 0 (some q_24)) 1 (some q_46)) 2 (some q_68)))))))], w_25, w1_32, w2_33, w3_34, w4_35, w5_36, w6_37, w_47, w1_54, w2_55, w3_56, w4_57, w5_58, w6_59, w_69, w1_76, w2_77, w3_78, w4_79, w5_80, w6_81, [(q_90, .inl (T.2 2, 3, .inl (fun _ => 0)))], [(q_91, .inr (7, [.ref rl_92, .ref rdd_93, .ref rg_94, .int 0, .int 0, .ref tp_95, .int 0, .int 0, .int 0, .int 0, .int 0, .int 0, .int 0]))], w1_96, w2_97, w3_98, w_104, w_109, w1_113]) (As := []) (rest := [.ref q_117, .ref xo]) C G (c_Trail_init l T q_117) (kJ_RX11_47 G.2.2.2.2.2.1 C.2.2.2.2 (Nat.le_of_ble_eq_true rfl) (Nat.le_of_ble_eq_true rfl)) [38] [0, 1, 2, 3, 4, 5, 6, 7, 8, 9, 10, 11, 12, 13, 14, 15, 16, 17, 18, 19, 20, 21, 22, 23, 24, 25, 26, 27, 28, 29, 30, 31, 32, 33, 34, 35, 36, 37] rfl rfl rfl rfl hl.1 dX11_init_98 (Nat.le_of_ble_eq_true rfl) (Nat.le_of_ble_eq_true rfl) (fun b1 H locs hw G => ?_)
  refine zEx4 hw ?_
  intro w_118 po_119 la_120 w1_121
  refine zCu3 ?_
  intro hbs9 h_122 h_123
  clear hw
  subst hbs9
  have G : zS T A s.heap s [[(xo, .inr (10, [.ref q_1, .ref q_23, .ref q_90, .ref q_91, .ref q_103, .ref q_108, .null, .null, .null, .null, .null]))], w_2, w1_9, w2_10, w3_11, w4_12, w5_13, w6_14, [(q_23, .inl (T.2 6, 3, .inr (.inr (.inr (.inr (va_up (va_up (va_up (fun _ => none) 0 (some q_24)) 1 (some q_46)) 2 (some q_68)))))))], w_25, w1_32, w2_33, w3_34, w4_35, w5_36, w6_37, w_47, w1_54, w2_55, w3_56, w4_57, w5_58, w6_59, w_69, w1_76, w2_77, w3_78, w4_79, w5_80, w6_81, [(q_90, .inl (T.2 2, 3, .inl (fun _ => 0)))], [(q_91, .inr (7, [.ref rl_92, .ref rdd_93, .ref rg_94, .int 0, .int 0, .ref tp_95, .int 0, .int 0, .int 0, .int 0, .int 0, .int 0, .int 0]))], w1_96, w2_97, w3_98, w_104, w_109, w1_113, w_118, w1_121] _ _ := G
  refine z_putF C G hnm clX11 0 rfl 6 (by decide) m_fl_RX11_48 rfl rfl rfl rfl (Nat.le_of_ble_eq_true rfl) dX11_init_101 (fun H locs G => ?_)
  have G : zS T A s.heap s [[(xo, .inr (10, [.ref q_1, .ref q_23, .ref q_90, .ref q_91, .ref q_103, .ref q_108, .ref q_117, .null, .null, .null, .null]))], w_2, w1_9, w2_10, w3_11, w4_12, w5_13, w6_14, [(q_23, .inl (T.2 6, 3, .inr (.inr (.inr (.inr (va_up (va_up (va_up (fun _ => none) 0 (some q_24)) 1 (some q_46)) 2 (some q_68)))))))], w_25, w1_32, w2_33, w3_34, w4_35, w5_36, w6_37, w_47, w1_54, w2_55, w3_56, w4_57, w5_58, w6_59, w_69, w1_76, w2_77, w3_78, w4_79, w5_80, w6_81, [(q_90, .inl (T.2 2, 3, .inl (fun _ => 0)))], [(q_91, .inr (7, [.ref rl_92, .ref rdd_93, .ref rg_94, .int 0, .int 0, .ref tp_95, .int 0, .int 0, .int 0, .int 0, .int 0, .int 0, .int 0]))], w1_96, w2_97, w3_98, w_104, w_109, w1_113, w_118, w1_121] _ _ := G
  refine lv_aload_n hx hb dX11_init_104 rfl (lv_at hl 0 rfl) ?_
  refine z_new C G clX0 (fs := [.int 0, .int 0, .null, .int 0, .null, .null, .null, .null, .null, .null]) m_cl_RX11_52 m_in_RX0 m_ii_RX0 (fun j hj => by match j, hj with | 0, _ => rfl | 1, _ => rfl | 2, _ => rfl | 3, _ => rfl | 4, _ => rfl | 5, _ => rfl | 6, _ => rfl | 7, _ => rfl | 8, _ => rfl | 9, _ => rfl | j + 10, h => exact absurd h (by omega)) (Nat.le_of_ble_eq_true rfl) (Nat.le_of_ble_eq_true rfl) dX11_init_105 (fun q_125 H G => ?_)
  have G : zS T A s.heap s [[(xo, .inr (10, [.ref q_1, .ref q_23, .ref q_90, .ref q_91, .ref q_103, .ref q_108, .ref q_117, .null, .null, .null, .null]))], w_2, w1_9, w2_10, w3_11, w4_12, w5_13, w6_14, [(q_23, .inl (T.2 6, 3, .inr (.inr (.inr (.inr (va_up (va_up (va_up (fun _ => none) 0 (some q_24)) 1 (some q_46)) 2 (some q_68)))))))], w_25, w1_32, w2_33, w3_34, w4_35, w5_36, w6_37, w_47, w1_54, w2_55, w3_56, w4_57, w5_58, w6_59, w_69, w1_76, w2_77, w3_78, w4_79, w5_80, w6_81, [(q_90, .inl (T.2 2, 3, .inl (fun _ => 0)))], [(q_91, .inr (7, [.ref rl_92, .ref rdd_93, .ref rg_94, .int 0, .int 0, .ref tp_95, .int 0, .int 0, .int 0, .int 0, .int 0, .int 0, .int 0]))], w1_96, w2_97, w3_98, w_104, w_109, w1_113, w_118, w1_121, [(q_125, .inr (0, [.int 0, .int 0, .null, .int 0, .null, .null, .null, .null, .null, .null]))]] _ _ := G
  refine lv_dup hx hb dX11_init_108 rfl ?_
  refine z_Jv (bc := [[(q_125, .inr (0, [.int 0, .int 0, .null, .int 0, .null, .null, .null, .null, .null, .null]))]]) (br := [[(xo, .inr (10, [.ref q_1, .ref q_23, .ref q_90, .ref q_91, .ref q_103, .ref q_108, .ref q_117, .null, .null, .null, .null]))], w_2, w1_9, w2_10, w3_11, w4_12, w5_13, w6_14, [(q_23, .inl (T.2 6, 3, .inr (.inr (.inr (.inr (va_up (va_up (va_up (fun _ => none) 0 (some q_24)) 1 (some q_46)) 2 (some q_68)))))))], w_25, w1_32, w2_33, w3_34, w4_35, w5_36, w6_37, w_47, w1_54, w2_55, w3_56, w4_57, w5_58, w6_59, w_69, w1_76, w2_77, w3_78, w4_79, w5_80, w6_81, [(q_90, .inl (T.2 2, 3, .inl (fun _ => 0)))], [(q_91, .inr (7, [.ref rl_92, .ref rdd_93, .ref rg_94, .int 0, .int 0, .ref tp_95, .int 0, .int 0, .int 0, .int 0, .int 0, .int 0, .int 0]))], w1_96, w2_97, w3_98, w_104, w_109, w1_113, w_118, w1_121]) (As := []) (rest := [.ref q_125, .ref xo]) C G (c_Ways_init l T q_125) (kJ_RX11_54 G.2.2.2.2.2.1 C.2.2.2.2 (Nat.le_of_ble_eq_true rfl) (Nat.le_of_ble_eq_true rfl)) [40] [0, 1, 2, 3, 4, 5, 6, 7, 8, 9, 10, 11, 12, 13, 14, 15, 16, 17, 18, 19, 20, 21, 22, 23, 24, 25, 26, 27, 28, 29, 30, 31, 32, 33, 34, 35, 36, 37, 38, 39] rfl rfl rfl rfl hl.1 dX11_init_109 (Nat.le_of_ble_eq_true rfl) (Nat.le_of_ble_eq_true rfl) (fun b1 H locs hw G => ?_)
  refine zEx2 hw ?_
  intro w_126 la_127
  refine zCu2 ?_
  intro hbs9 h_128
  clear hw
  subst hbs9
  have G : zS T A s.heap s [[(xo, .inr (10, [.ref q_1, .ref q_23, .ref q_90, .ref q_91, .ref q_103, .ref q_108, .ref q_117, .null, .null, .null, .null]))], w_2, w1_9, w2_10, w3_11, w4_12, w5_13, w6_14, [(q_23, .inl (T.2 6, 3, .inr (.inr (.inr (.inr (va_up (va_up (va_up (fun _ => none) 0 (some q_24)) 1 (some q_46)) 2 (some q_68)))))))], w_25, w1_32, w2_33, w3_34, w4_35, w5_36, w6_37, w_47, w1_54, w2_55, w3_56, w4_57, w5_58, w6_59, w_69, w1_76, w2_77, w3_78, w4_79, w5_80, w6_81, [(q_90, .inl (T.2 2, 3, .inl (fun _ => 0)))], [(q_91, .inr (7, [.ref rl_92, .ref rdd_93, .ref rg_94, .int 0, .int 0, .ref tp_95, .int 0, .int 0, .int 0, .int 0, .int 0, .int 0, .int 0]))], w1_96, w2_97, w3_98, w_104, w_109, w1_113, w_118, w1_121, w_126] _ _ := G
  refine z_putF C G hnm clX11 0 rfl 7 (by decide) m_fl_RX11_55 rfl rfl rfl rfl (Nat.le_of_ble_eq_true rfl) dX11_init_112 (fun H locs G => ?_)
  have G : zS T A s.heap s [[(xo, .inr (10, [.ref q_1, .ref q_23, .ref q_90, .ref q_91, .ref q_103, .ref q_108, .ref q_117, .ref q_125, .null, .null, .null]))], w_2, w1_9, w2_10, w3_11, w4_12, w5_13, w6_14, [(q_23, .inl (T.2 6, 3, .inr (.inr (.inr (.inr (va_up (va_up (va_up (fun _ => none) 0 (some q_24)) 1 (some q_46)) 2 (some q_68)))))))], w_25, w1_32, w2_33, w3_34, w4_35, w5_36, w6_37, w_47, w1_54, w2_55, w3_56, w4_57, w5_58, w6_59, w_69, w1_76, w2_77, w3_78, w4_79, w5_80, w6_81, [(q_90, .inl (T.2 2, 3, .inl (fun _ => 0)))], [(q_91, .inr (7, [.ref rl_92, .ref rdd_93, .ref rg_94, .int 0, .int 0, .ref tp_95, .int 0, .int 0, .int 0, .int 0, .int 0, .int 0, .int 0]))], w1_96, w2_97, w3_98, w_104, w_109, w1_113, w_118, w1_121, w_126] _ _ := G
  refine lv_aload_n hx hb dX11_init_115 rfl (lv_at hl 0 rfl) ?_
  refine z_new C G clX0 (fs := [.int 0, .int 0, .null, .int 0, .null, .null, .null, .null, .null, .null]) m_cl_RX11_52 m_in_RX0 m_ii_RX0 (fun j hj => by match j, hj with | 0, _ => rfl | 1, _ => rfl | 2, _ => rfl | 3, _ => rfl | 4, _ => rfl | 5, _ => rfl | 6, _ => rfl | 7, _ => rfl | 8, _ => rfl | 9, _ => rfl | j + 10, h => exact absurd h (by omega)) (Nat.le_of_ble_eq_true rfl) (Nat.le_of_ble_eq_true rfl) dX11_init_116 (fun q_130 H G => ?_)
  have G : zS T A s.heap s [[(xo, .inr (10, [.ref q_1, .ref q_23, .ref q_90, .ref q_91, .ref q_103, .ref q_108, .ref q_117, .ref q_125, .null, .null, .null]))], w_2, w1_9, w2_10, w3_11, w4_12, w5_13, w6_14, [(q_23, .inl (T.2 6, 3, .inr (.inr (.inr (.inr (va_up (va_up (va_up (fun _ => none) 0 (some q_24)) 1 (some q_46)) 2 (some q_68)))))))], w_25, w1_32, w2_33, w3_34, w4_35, w5_36, w6_37, w_47, w1_54, w2_55, w3_56, w4_57, w5_58, w6_59, w_69, w1_76, w2_77, w3_78, w4_79, w5_80, w6_81, [(q_90, .inl (T.2 2, 3, .inl (fun _ => 0)))], [(q_91, .inr (7, [.ref rl_92, .ref rdd_93, .ref rg_94, .int 0, .int 0, .ref tp_95, .int 0, .int 0, .int 0, .int 0, .int 0, .int 0, .int 0]))], w1_96, w2_97, w3_98, w_104, w_109, w1_113, w_118, w1_121, w_126, [(q_130, .inr (0, [.int 0, .int 0, .null, .int 0, .null, .null, .null, .null, .null, .null]))]] _ _ := G
  refine lv_dup hx hb dX11_init_119 rfl ?_
  refine z_Jv (bc := [[(q_130, .inr (0, [.int 0, .int 0, .null, .int 0, .null, .null, .null, .null, .null, .null]))]]) (br := [[(xo, .inr (10, [.ref q_1, .ref q_23, .ref q_90, .ref q_91, .ref q_103, .ref q_108, .ref q_117, .ref q_125, .null, .null, .null]))], w_2, w1_9, w2_10, w3_11, w4_12, w5_13, w6_14, [(q_23, .inl (T.2 6, 3, .inr (.inr (.inr (.inr (va_up (va_up (va_up (fun _ => none) 0 (some q_24)) 1 (some q_46)) 2 (some q_68)))))))], w_25, w1_32, w2_33, w3_34, w4_35, w5_36, w6_37, w_47, w1_54, w2_55, w3_56, w4_57, w5_58, w6_59, w_69, w1_76, w2_77, w3_78, w4_79, w5_80, w6_81, [(q_90, .inl (T.2 2, 3, .inl (fun _ => 0)))], [(q_91, .inr (7, [.ref rl_92, .ref rdd_93, .ref rg_94, .int 0, .int 0, .ref tp_95, .int 0, .int 0, .int 0, .int 0, .int 0, .int 0, .int 0]))], w1_96, w2_97, w3_98, w_104, w_109, w1_113, w_118, w1_121, w_126]) (As := []) (rest := [.ref q_130, .ref xo]) C G (c_Ways_init l T q_130) (kJ_RX11_54 G.2.2.2.2.2.1 C.2.2.2.2 (Nat.le_of_ble_eq_true rfl) (Nat.le_of_ble_eq_true rfl)) [41] [0, 1, 2, 3, 4, 5, 6, 7, 8, 9, 10, 11, 12, 13, 14, 15, 16, 17, 18, 19, 20, 21, 22, 23, 24, 25, 26, 27, 28, 29, 30, 31, 32, 33, 34, 35, 36, 37, 38, 39, 40] rfl rfl rfl rfl hl.1 dX11_init_120 (Nat.le_of_ble_eq_true rfl) (Nat.le_of_ble_eq_true rfl) (fun b1 H locs hw G => ?_)
  refine zEx2 hw ?_
  intro w_131 la_132
  refine zCu2 ?_
  intro hbs9 h_133
  clear hw
  subst hbs9
  have G : zS T A s.heap s [[(xo, .inr (10, [.ref q_1, .ref q_23, .ref q_90, .ref q_91, .ref q_103, .ref q_108, .ref q_117, .ref q_125, .null, .null, .null]))], w_2, w1_9, w2_10, w3_11, w4_12, w5_13, w6_14, [(q_23, .inl (T.2 6, 3, .inr (.inr (.inr (.inr (va_up (va_up (va_up (fun _ => none) 0 (some q_24)) 1 (some q_46)) 2 (some q_68)))))))], w_25, w1_32, w2_33, w3_34, w4_35, w5_36, w6_37, w_47, w1_54, w2_55, w3_56, w4_57, w5_58, w6_59, w_69, w1_76, w2_77, w3_78, w4_79, w5_80, w6_81, [(q_90, .inl (T.2 2, 3, .inl (fun _ => 0)))], [(q_91, .inr (7, [.ref rl_92, .ref rdd_93, .ref rg_94, .int 0, .int 0, .ref tp_95, .int 0, .int 0, .int 0, .int 0, .int 0, .int 0, .int 0]))], w1_96, w2_97, w3_98, w_104, w_109, w1_113, w_118, w1_121, w_126, w_131] _ _ := G
  refine z_putF C G hnm clX11 0 rfl 8 (by decide) m_fl_RX11_59 rfl rfl rfl rfl (Nat.le_of_ble_eq_true rfl) dX11_init_123 (fun H locs G => ?_)
  have G : zS T A s.heap s [[(xo, .inr (10, [.ref q_1, .ref q_23, .ref q_90, .ref q_91, .ref q_103, .ref q_108, .ref q_117, .ref q_125, .ref q_130, .null, .null]))], w_2, w1_9, w2_10, w3_11, w4_12, w5_13, w6_14, [(q_23, .inl (T.2 6, 3, .inr (.inr (.inr (.inr (va_up (va_up (va_up (fun _ => none) 0 (some q_24)) 1 (some q_46)) 2 (some q_68)))))))], w_25, w1_32, w2_33, w3_34, w4_35, w5_36, w6_37, w_47, w1_54, w2_55, w3_56, w4_57, w5_58, w6_59, w_69, w1_76, w2_77, w3_78, w4_79, w5_80, w6_81, [(q_90, .inl (T.2 2, 3, .inl (fun _ => 0)))], [(q_91, .inr (7, [.ref rl_92, .ref rdd_93, .ref rg_94, .int 0, .int 0, .ref tp_95, .int 0, .int 0, .int 0, .int 0, .int 0, .int 0, .int 0]))], w1_96, w2_97, w3_98, w_104, w_109, w1_113, w_118, w1_121, w_126, w_131] _ _ := G
  refine lv_aload_n hx hb dX11_init_126 rfl (lv_at hl 0 rfl) ?_
  refine z_new C G clX3 (fs := [.int 0, .int 0, .int 0, .int 0, .int 0, .int 0, .null, .null]) m_cl_RX11_62 m_in_RX3 m_ii_RX3 (fun j hj => by match j, hj with | 0, _ => rfl | 1, _ => rfl | 2, _ => rfl | 3, _ => rfl | 4, _ => rfl | 5, _ => rfl | 6, _ => rfl | 7, _ => rfl | j + 8, h => exact absurd h (by omega)) (Nat.le_of_ble_eq_true rfl) (Nat.le_of_ble_eq_true rfl) dX11_init_127 (fun q_135 H G => ?_)
  have G : zS T A s.heap s [[(xo, .inr (10, [.ref q_1, .ref q_23, .ref q_90, .ref q_91, .ref q_103, .ref q_108, .ref q_117, .ref q_125, .ref q_130, .null, .null]))], w_2, w1_9, w2_10, w3_11, w4_12, w5_13, w6_14, [(q_23, .inl (T.2 6, 3, .inr (.inr (.inr (.inr (va_up (va_up (va_up (fun _ => none) 0 (some q_24)) 1 (some q_46)) 2 (some q_68)))))))], w_25, w1_32, w2_33, w3_34, w4_35, w5_36, w6_37, w_47, w1_54, w2_55, w3_56, w4_57, w5_58, w6_59, w_69, w1_76, w2_77, w3_78, w4_79, w5_80, w6_81, [(q_90, .inl (T.2 2, 3, .inl (fun _ => 0)))], [(q_91, .inr (7, [.ref rl_92, .ref rdd_93, .ref rg_94, .int 0, .int 0, .ref tp_95, .int 0, .int 0, .int 0, .int 0, .int 0, .int 0, .int 0]))], w1_96, w2_97, w3_98, w_104, w_109, w1_113, w_118, w1_121, w_126, w_131, [(q_135, .inr (3, [.int 0, .int 0, .int 0, .int 0, .int 0, .int 0, .null, .null]))]] _ _ := G
  refine lv_dup hx hb dX11_init_130 rfl ?_
  refine z_Jv (bc := [[(q_135, .inr (3, [.int 0, .int 0, .int 0, .int 0, .int 0, .int 0, .null, .null]))]]) (br := [[(xo, .inr (10, [.ref q_1, .ref q_23, .ref q_90, .ref q_91, .ref q_103, .ref q_108, .ref q_117, .ref q_125, .ref q_130, .null, .null]))], w_2, w1_9, w2_10, w3_11, w4_12, w5_13, w6_14, [(q_23, .inl (T.2 6, 3, .inr (.inr (.inr (.inr (va_up (va_up (va_up (fun _ => none) 0 (some q_24)) 1 (some q_46)) 2 (some q_68)))))))], w_25, w1_32, w2_33, w3_34, w4_35, w5_36, w6_37, w_47, w1_54, w2_55, w3_56, w4_57, w5_58, w6_59, w_69, w1_76, w2_77, w3_78, w4_79, w5_80, w6_81, [(q_90, .inl (T.2 2, 3, .inl (fun _ => 0)))], [(q_91, .inr (7, [.ref rl_92, .ref rdd_93, .ref rg_94, .int 0, .int 0, .ref tp_95, .int 0, .int 0, .int 0, .int 0, .int 0, .int 0, .int 0]))], w1_96, w2_97, w3_98, w_104, w_109, w1_113, w_118, w1_121, w_126, w_131]) (As := []) (rest := [.ref q_135, .ref xo]) C G (c_Fit_init l T q_135) (kJ_RX11_64 G.2.2.2.2.2.1 C.2.2.2.2 (Nat.le_of_ble_eq_true rfl) (Nat.le_of_ble_eq_true rfl)) [42] [0, 1, 2, 3, 4, 5, 6, 7, 8, 9, 10, 11, 12, 13, 14, 15, 16, 17, 18, 19, 20, 21, 22, 23, 24, 25, 26, 27, 28, 29, 30, 31, 32, 33, 34, 35, 36, 37, 38, 39, 40, 41] rfl rfl rfl rfl hl.1 dX11_init_131 (Nat.le_of_ble_eq_true rfl) (Nat.le_of_ble_eq_true rfl) (fun b1 H locs hw G => ?_)
  refine zEx1 hw ?_
  intro w_136
  refine zCu2 ?_
  intro hbs9 h_137
  clear hw
  subst hbs9
  have G : zS T A s.heap s [[(xo, .inr (10, [.ref q_1, .ref q_23, .ref q_90, .ref q_91, .ref q_103, .ref q_108, .ref q_117, .ref q_125, .ref q_130, .null, .null]))], w_2, w1_9, w2_10, w3_11, w4_12, w5_13, w6_14, [(q_23, .inl (T.2 6, 3, .inr (.inr (.inr (.inr (va_up (va_up (va_up (fun _ => none) 0 (some q_24)) 1 (some q_46)) 2 (some q_68)))))))], w_25, w1_32, w2_33, w3_34, w4_35, w5_36, w6_37, w_47, w1_54, w2_55, w3_56, w4_57, w5_58, w6_59, w_69, w1_76, w2_77, w3_78, w4_79, w5_80, w6_81, [(q_90, .inl (T.2 2, 3, .inl (fun _ => 0)))], [(q_91, .inr (7, [.ref rl_92, .ref rdd_93, .ref rg_94, .int 0, .int 0, .ref tp_95, .int 0, .int 0, .int 0, .int 0, .int 0, .int 0, .int 0]))], w1_96, w2_97, w3_98, w_104, w_109, w1_113, w_118, w1_121, w_126, w_131, w_136] _ _ := G
  refine z_putF C G hnm clX11 0 rfl 9 (by decide) m_fl_RX11_65 rfl rfl rfl rfl (Nat.le_of_ble_eq_true rfl) dX11_init_134 (fun H locs G => ?_)
  have G : zS T A s.heap s [[(xo, .inr (10, [.ref q_1, .ref q_23, .ref q_90, .ref q_91, .ref q_103, .ref q_108, .ref q_117, .ref q_125, .ref q_130, .ref q_135, .null]))], w_2, w1_9, w2_10, w3_11, w4_12, w5_13, w6_14, [(q_23, .inl (T.2 6, 3, .inr (.inr (.inr (.inr (va_up (va_up (va_up (fun _ => none) 0 (some q_24)) 1 (some q_46)) 2 (some q_68)))))))], w_25, w1_32, w2_33, w3_34, w4_35, w5_36, w6_37, w_47, w1_54, w2_55, w3_56, w4_57, w5_58, w6_59, w_69, w1_76, w2_77, w3_78, w4_79, w5_80, w6_81, [(q_90, .inl (T.2 2, 3, .inl (fun _ => 0)))], [(q_91, .inr (7, [.ref rl_92, .ref rdd_93, .ref rg_94, .int 0, .int 0, .ref tp_95, .int 0, .int 0, .int 0, .int 0, .int 0, .int 0, .int 0]))], w1_96, w2_97, w3_98, w_104, w_109, w1_113, w_118, w1_121, w_126, w_131, w_136] _ _ := G
  refine lv_aload_n hx hb dX11_init_137 rfl (lv_at hl 0 rfl) ?_
  refine lv_sipush (v := 1000) hx hb dX11_init_138 (by decide) ?_
  refine z_newa C G 0 (ty := .int) (N' := 1000) (a0 := (1000, .inl (fun _ => 0))) rfl z_uint m_ar_int rfl (fun _ => rfl) (by decide) (by decide) (Nat.le_of_ble_eq_true rfl) (Nat.le_of_ble_eq_true rfl) (Nat.le_of_ble_eq_true rfl) dX11_init_141 (fun q_139 H G => ?_)
  have G : zS T A s.heap s [[(xo, .inr (10, [.ref q_1, .ref q_23, .ref q_90, .ref q_91, .ref q_103, .ref q_108, .ref q_117, .ref q_125, .ref q_130, .ref q_135, .null]))], w_2, w1_9, w2_10, w3_11, w4_12, w5_13, w6_14, [(q_23, .inl (T.2 6, 3, .inr (.inr (.inr (.inr (va_up (va_up (va_up (fun _ => none) 0 (some q_24)) 1 (some q_46)) 2 (some q_68)))))))], w_25, w1_32, w2_33, w3_34, w4_35, w5_36, w6_37, w_47, w1_54, w2_55, w3_56, w4_57, w5_58, w6_59, w_69, w1_76, w2_77, w3_78, w4_79, w5_80, w6_81, [(q_90, .inl (T.2 2, 3, .inl (fun _ => 0)))], [(q_91, .inr (7, [.ref rl_92, .ref rdd_93, .ref rg_94, .int 0, .int 0, .ref tp_95, .int 0, .int 0, .int 0, .int 0, .int 0, .int 0, .int 0]))], w1_96, w2_97, w3_98, w_104, w_109, w1_113, w_118, w1_121, w_126, w_131, w_136, [(q_139, .inl (T.2 0, 1000, .inl (fun _ => 0)))]] _ _ := G
  refine z_putF C G hnm clX11 0 rfl 10 (by decide) m_fl_RX11_69 rfl rfl rfl rfl (Nat.le_of_ble_eq_true rfl) dX11_init_143 (fun H locs G => ?_)
  have G : zS T A s.heap s [[(xo, .inr (10, [.ref q_1, .ref q_23, .ref q_90, .ref q_91, .ref q_103, .ref q_108, .ref q_117, .ref q_125, .ref q_130, .ref q_135, .ref q_139]))], w_2, w1_9, w2_10, w3_11, w4_12, w5_13, w6_14, [(q_23, .inl (T.2 6, 3, .inr (.inr (.inr (.inr (va_up (va_up (va_up (fun _ => none) 0 (some q_24)) 1 (some q_46)) 2 (some q_68)))))))], w_25, w1_32, w2_33, w3_34, w4_35, w5_36, w6_37, w_47, w1_54, w2_55, w3_56, w4_57, w5_58, w6_59, w_69, w1_76, w2_77, w3_78, w4_79, w5_80, w6_81, [(q_90, .inl (T.2 2, 3, .inl (fun _ => 0)))], [(q_91, .inr (7, [.ref rl_92, .ref rdd_93, .ref rg_94, .int 0, .int 0, .ref tp_95, .int 0, .int 0, .int 0, .int 0, .int 0, .int 0, .int 0]))], w1_96, w2_97, w3_98, w_104, w_109, w1_113, w_118, w1_121, w_126, w_131, w_136, [(q_139, .inl (T.2 0, 1000, .inl (fun _ => 0)))]] _ _ := G
  have G := G.sub (bs' := [[(xo, .inr (10, [.ref q_1, .ref q_23, .ref q_90, .ref q_91, .ref q_103, .ref q_108, .ref q_117, .ref q_125, .ref q_130, .ref q_135, .ref q_139]))], w_2, w1_9, w2_10, w3_11, w4_12, w5_13, w6_14, w_25, w1_32, w2_33, w3_34, w4_35, w5_36, w6_37, w_47, w1_54, w2_55, w3_56, w4_57, w5_58, w6_59, w_69, w1_76, w2_77, w3_78, w4_79, w5_80, w6_81, [(q_23, .inl (T.2 6, 3, .inr (.inr (.inr (.inr (va_up (va_up (va_up (fun _ => none) 0 (some q_24)) 1 (some q_46)) 2 (some q_68)))))))], [(q_90, .inl (T.2 2, 3, .inl (fun _ => 0)))], [(q_91, .inr (7, [.ref rl_92, .ref rdd_93, .ref rg_94, .int 0, .int 0, .ref tp_95, .int 0, .int 0, .int 0, .int 0, .int 0, .int 0, .int 0]))], w1_96, w2_97, w3_98, w_104, w_109, w1_113, w_118, w1_121, w_126, w_131, w_136, [(q_139, .inl (T.2 0, 1000, .inl (fun _ => 0)))]]) [0, 1, 2, 3, 4, 5, 6, 7, 9, 10, 11, 12, 13, 14, 15, 16, 17, 18, 19, 20, 21, 22, 23, 24, 25, 26, 27, 28, 29, 8, 30, 31, 32, 33, 34, 35, 36, 37, 38, 39, 40, 41, 42, 43] rfl
  exact z_vret C hr hlocks G (Nat.le_of_ble_eq_true rfl) (Nat.le_of_ble_eq_true rfl) dX11_init_146 ⟨q_1, q_23, q_90, q_91, q_103, q_108, q_117, q_125, q_130, q_135, q_139, l0_3, l1_4, d0_5, d1_6, g0_7, g1_8, w_2, w1_9, w2_10, w3_11, w4_12, w5_13, w6_14, q_24, l0_26, l1_27, d0_28, d1_29, g0_30, g1_31, w_25, w1_32, w2_33, w3_34, w4_35, w5_36, w6_37, q_46, l0_48, l1_49, d0_50, d1_51, g0_52, g1_53, w_47, w1_54, w2_55, w3_56, w4_57, w5_58, w6_59, q_68, l0_70, l1_71, d0_72, d1_73, g0_74, g1_75, w_69, w1_76, w2_77, w3_78, w4_79, w5_80, w6_81, (va_up (va_up (va_up (fun _ => none) 0 (some q_24)) 1 (some q_46)) 2 (some q_68)), rl_92, rdd_93, rg_94, tp_95, w1_96, w2_97, w3_98, la_105, w_104, po_110, lc_111, w_109, la_112, w1_113, po_119, w_118, la_120, w1_121, la_127, w_126, la_132, w_131, w_136, rfl, h_15, h_16, h_17, h_18, h_19, h_20, h_21, h_38, h_39, h_40, h_41, h_42, h_43, h_44, h_60, h_61, h_62, h_63, h_64, h_65, h_66, h_82, h_83, h_84, h_85, h_86, h_87, h_88, rfl, rfl, rfl, h_99, h_100, h_101, h_106, h_114, h_115, h_122, h_123, h_128, h_133, h_137⟩
set_option maxHeartbeats 4000000 in
set_option maxRecDepth 100000 in
/-- trees -/
theorem c_trees (l : Launch) (T : zTy) (xo : Nat) (t : Nat) (im : Nat) (mk : Nat) (rd : Nat) (po : Nat) (co : Nat) (tr : Nat) (wa : Nat) (wb_ : Nat) (fi : Nat) (cd : Nat) (l0 : Nat) (l1 : Nat) (d0 : Nat) (d1 : Nat) (g0 : Nat) (g1 : Nat) (ln : Int32) (fl : Int32) (pl : Int32) (ft : Nat → Int32) (fk : Nat → Int32) (wt : va_W) (cr0_ : Int32) (inn0_ : Int32) (k10_ : Nat → Int32) (k20_ : Nat → Int32) (k30_ : Nat → Int32) (k40_ : Nat → Int32) (z0_ : va_W) (cr1_ : Int32) (inn1_ : Int32) (k11_ : Nat → Int32) (k21_ : Nat → Int32) (k31_ : Nat → Int32) (k41_ : Nat → Int32) (z1_ : va_W) (laA : Nat) (mdA : Int32) (wyA : Int32) (pc_A : Int32) (f1A : Nat → Int32) (f2A : Nat → Int32) (f3A : Nat → Int32) (f4A : Nat → Int32) (f5A : Nat → Int32) (f6A : Nat → Int32) (n4A : Nat) (wwA : va_W) (laB : Nat) (mdB : Int32) (wyB : Int32) (pc_B : Int32) (f1B : Nat → Int32) (f2B : Nat → Int32) (f3B : Nat → Int32) (f4B : Nat → Int32) (f5B : Nat → Int32) (f6B : Nat → Int32) (n4B : Nat) (wwB : va_W) (i1 : Int32) (ht : bTold T t l0 l1 d0 d1 g0 g1 ln fl pl ft fk wt) (hK : zKT fk) (hz0_ : bLand T l0 cr0_ inn0_ k10_ k20_ k30_ k40_ z0_) (hI0_ : zLI cr0_ k10_ k30_) (hz1_ : bLand T l1 cr1_ inn1_ k11_ k21_ k31_ k41_ z1_) (hI1_ : zLI cr1_ k11_ k31_) (hwwA : bWays T wa laA mdA wyA pc_A f1A f2A f3A f4A f5A f6A n4A wwA) (hpwA : zPw n4A) (hmdA : mdA = 0 ∨ laA = l0) (hwmA : 0 ≤ wyA.toInt ∧ wyA.toInt ≤ 16384) (hwwB : bWays T wb_ laB mdB wyB pc_B f1B f2B f3B f4B f5B f6B n4B wwB) (hpwB : zPw n4B) (hmdB : mdB = 0 ∨ laB = l1) (hwmB : 0 ≤ wyB.toInt ∧ wyB.toInt ≤ 16384) : zMi l T yX11_trees cX11_trees 4 (some .int) 6 0 0 [.ref xo, .int i1] [[(xo, .inr (10, [.ref t, .ref im, .ref mk, .ref rd, .ref po, .ref co, .ref tr, .ref wa, .ref wb_, .ref fi, .ref cd]))], wt, z0_, z1_, wwA, wwB] (fun (r : Int32) bs => ∃ (laA_2 : Nat) (mdA_2 : Int32) (wyA_2 : Int32) (pc_A_2 : Int32) (f1A_2 : Nat → Int32) (f2A_2 : Nat → Int32) (f3A_2 : Nat → Int32) (f4A_2 : Nat → Int32) (f5A_2 : Nat → Int32) (f6A_2 : Nat → Int32) (n4A_2 : Nat) (wwA_2 : va_W) (laB_2 : Nat) (mdB_2 : Int32) (wyB_2 : Int32) (pc_B_2 : Int32) (f1B_2 : Nat → Int32) (f2B_2 : Nat → Int32) (f3B_2 : Nat → Int32) (f4B_2 : Nat → Int32) (f5B_2 : Nat → Int32) (f6B_2 : Nat → Int32) (n4B_2 : Nat) (wwB_2 : va_W), bs = [[(xo, .inr (10, [.ref t, .ref im, .ref mk, .ref rd, .ref po, .ref co, .ref tr, .ref wa, .ref wb_, .ref fi, .ref cd]))], wt, z0_, z1_, wwA_2, wwB_2] ∧ bWays T wa laA_2 mdA_2 wyA_2 pc_A_2 f1A_2 f2A_2 f3A_2 f4A_2 f5A_2 f6A_2 n4A_2 wwA_2 ∧ (mdA_2 = 0 ∨ laA_2 = l0) ∧ (0 ≤ wyA_2.toInt ∧ wyA_2.toInt ≤ 16384) ∧ n4A_2 = n4A ∧ mdA_2 = mdA ∧ bWays T wb_ laB_2 mdB_2 wyB_2 pc_B_2 f1B_2 f2B_2 f3B_2 f4B_2 f5B_2 f6B_2 n4B_2 wwB_2 ∧ (mdB_2 = 0 ∨ laB_2 = l1) ∧ (0 ≤ wyB_2.toInt ∧ wyB_2.toInt ≤ 16384) ∧ n4B_2 = n4B ∧ mdB_2 = mdB) := by
  refine zMi_of (own := RX11) (by decide) rfl (Nat.le_of_ble_eq_true rfl) ?_
  intro p e s m args below meth c A ls C hr hlocks hnm hAe G hl
  have hx := C.1
  have hb := C.2.1
  replace hmdA : zHd (mdA = 0 ∨ laA = l0) := hmdA
  replace hmdB : zHd (mdB = 0 ∨ laB = l1) := hmdB
  have hl : lv_has ls 4 [(0, .ref xo), (1, .int i1)] := hl
  refine lv_aload_n hx hb dX11_trees_0 rfl (lv_at hl 0 rfl) ?_
  refine z_get C G clX11 0 rfl 0 (by decide) m_fl_RX11_10 rfl dX11_trees_1 ?_
  refine lv_iload_n hx hb dX11_trees_4 rfl (lv_at hl 1 rfl) ?_
  refine z_Vq (bc := [wt]) (br := [[(xo, .inr (10, [.ref t, .ref im, .ref mk, .ref rd, .ref po, .ref co, .ref tr, .ref wa, .ref wb_, .ref fi, .ref cd]))], z0_, z1_, wwA, wwB]) (As := [.int i1]) (rest := []) C G (c_landAt l T t l0 l1 d0 d1 g0 g1 ln fl pl ft fk wt i1 ht) (kV_RX11_121 C.2.2.2.2 (Nat.le_of_ble_eq_true rfl) (Nat.le_of_ble_eq_true rfl)) [1] [0, 2, 3, 4, 5] rfl rfl (ci := 8) (qc := (RX9, TX9, 8)) rfl rfl (List.mem_flatten.mpr ⟨_, List.mem_of_getElem? (i := 0) rfl, (bTold_mem ht).choose_spec⟩) rfl rfl hl.1 dX11_trees_5 (Nat.le_of_ble_eq_true rfl) (Nat.le_of_ble_eq_true rfl) (fun r_2 b1 H locs hw G => ?_)
  refine zAn2 hw ?_
  intro hbs9 hc_1
  clear hw
  subst hbs9
  have G : zS T A s.heap s [[(xo, .inr (10, [.ref t, .ref im, .ref mk, .ref rd, .ref po, .ref co, .ref tr, .ref wa, .ref wb_, .ref fi, .ref cd]))], z0_, z1_, wwA, wwB, wt] _ _ := G
  rcases hc_1 with ⟨rfl, h_3⟩ | ⟨rfl, h_4, h_5⟩ | ⟨rfl, h_6, h_7⟩
  · have h_3 : (i1.toInt < 0 ∨ (fk 0).toInt ≤ i1.toInt ∨ 2 ≤ i1.toInt) := h_3
    refine lv_astore_nN (lv' := [(2, .null), (0, .ref xo), (1, .int i1)]) hx hb dX11_trees_8 rfl hl (by decide) rfl (fun ls hl => ?_)
    refine lv_aload_nN hx hb dX11_trees_9 rfl (lv_at hl 0 rfl) ?_
    refine lv_ifnonnullN hx hb dX11_trees_10 ?_
    refine lv_iconst (v := (-1)) hx hb dX11_trees_13 (by decide) ?_
    have G := G.sub (bs' := [[(xo, .inr (10, [.ref t, .ref im, .ref mk, .ref rd, .ref po, .ref co, .ref tr, .ref wa, .ref wb_, .ref fi, .ref cd]))], wt, z0_, z1_, wwA, wwB]) [0, 5, 1, 2, 3, 4] rfl
    exact z_iret C hr hlocks G (Nat.le_of_ble_eq_true rfl) (Nat.le_of_ble_eq_true rfl) dX11_trees_14 ⟨laA, mdA, wyA, pc_A, f1A, f2A, f3A, f4A, f5A, f6A, n4A, wwA, laB, mdB, wyB, pc_B, f1B, f2B, f3B, f4B, f5B, f6B, n4B, wwB, rfl, hwwA, hmdA, hwmA, rfl, rfl, hwwB, hmdB, hwmB, rfl, rfl⟩
  · have h_4 : i1.toInt = 0 := h_4
    have h_5 : 0 < (fk 0).toInt := h_5
    refine lv_astore_n (lv' := [(2, .ref l0), (0, .ref xo), (1, .int i1)]) hx hb dX11_trees_8 rfl hl (by decide) rfl (fun ls hl => ?_)
    refine lv_aload_n hx hb dX11_trees_9 rfl (lv_at hl 0 rfl) ?_
    refine lv_ifnonnull (tgt := 15) hx hb dX11_trees_10 (by decide) ?_
    refine lv_iload_n hx hb dX11_trees_15 rfl (lv_at hl 2 rfl) ?_
    refine lv_if_ne (tgt := 26) hx hb dX11_trees_16 (by decide) (fun q => absurd ((fa_eq i1 (0 : Int32)).mpr (by show i1.toInt = (0 : Int); omega)) q) (fun _ => ?_)
    refine lv_aload_n hx hb dX11_trees_19 rfl (lv_at hl 1 rfl) ?_
    refine z_get C G clX11 0 rfl 7 (by decide) m_fl_RX11_55 rfl dX11_trees_20 ?_
    refine lv_goto (tgt := 30) hx hb dX11_trees_23 (by decide) ?_
    refine lv_astore_n (lv' := [(3, .ref wa), (2, .ref l0), (0, .ref xo), (1, .int i1)]) hx hb dX11_trees_30 rfl hl (by decide) rfl (fun ls hl => ?_)
    refine lv_aload_n hx hb dX11_trees_31 rfl (lv_at hl 0 rfl) ?_
    refine lv_aload_n hx hb dX11_trees_32 rfl (lv_at hl 1 rfl) ?_
    refine z_Vi (bc := [wwA, z0_]) (br := [[(xo, .inr (10, [.ref t, .ref im, .ref mk, .ref rd, .ref po, .ref co, .ref tr, .ref wa, .ref wb_, .ref fi, .ref cd]))], z1_, wwB, wt]) (As := [.ref l0]) (rest := []) C G (c_treesOf l T wa laA mdA wyA pc_A f1A f2A f3A f4A f5A f6A n4A wwA l0 cr0_ inn0_ k10_ k20_ k30_ k40_ z0_ hwwA hz0_ (by first | with_reducible assumption | with_reducible rfl | omega | assumption | rfl)) (kV_RX11_268 C.2.2.2.2 (Nat.le_of_ble_eq_true rfl) (Nat.le_of_ble_eq_true rfl)) [3, 1] [0, 2, 4, 5] rfl rfl (ci := 0) (qc := (RX0, TX0, 10)) rfl rfl (List.mem_flatten.mpr ⟨_, List.mem_of_getElem? (i := 0) rfl, (bWays_mem hwwA).choose_spec⟩) rfl rfl hl.1 dX11_trees_33 (Nat.le_of_ble_eq_true rfl) (Nat.le_of_ble_eq_true rfl) (fun r_13 b1 H locs hw G => ?_)
    refine zEx4 hw ?_
    intro w2_8 g1_9 g2_10 g3_11
    refine zCu2 ?_
    intro hbs9 h_12
    clear hw
    subst hbs9
    have G : zS T A s.heap s [[(xo, .inr (10, [.ref t, .ref im, .ref mk, .ref rd, .ref po, .ref co, .ref tr, .ref wa, .ref wb_, .ref fi, .ref cd]))], z1_, wwB, wt, w2_8, z0_] _ _ := G
    have G := G.sub (bs' := [[(xo, .inr (10, [.ref t, .ref im, .ref mk, .ref rd, .ref po, .ref co, .ref tr, .ref wa, .ref wb_, .ref fi, .ref cd]))], wt, z0_, z1_, w2_8, wwB]) [0, 3, 5, 1, 4, 2] rfl
    exact z_iret C hr hlocks G (Nat.le_of_ble_eq_true rfl) (Nat.le_of_ble_eq_true rfl) dX11_trees_36 ⟨l0, mdA, (zWy cr0_ inn0_ k10_), (zPl cr0_ inn0_ k10_), g1_9, g2_10, g3_11, f4A, f5A, f6A, n4A, w2_8, laB, mdB, wyB, pc_B, f1B, f2B, f3B, f4B, f5B, f6B, n4B, wwB, rfl, h_12, (Or.inr rfl), (by have q := zWy_in (inn := inn0_) hI0_; omega), rfl, rfl, hwwB, hmdB, hwmB, rfl, rfl⟩
  · have h_6 : i1.toInt = 1 := h_6
    have h_7 : 1 < (fk 0).toInt := h_7
    refine lv_astore_n (lv' := [(2, .ref l1), (0, .ref xo), (1, .int i1)]) hx hb dX11_trees_8 rfl hl (by decide) rfl (fun ls hl => ?_)
    refine lv_aload_n hx hb dX11_trees_9 rfl (lv_at hl 0 rfl) ?_
    refine lv_ifnonnull (tgt := 15) hx hb dX11_trees_10 (by decide) ?_
    refine lv_iload_n hx hb dX11_trees_15 rfl (lv_at hl 2 rfl) ?_
    refine lv_if_ne (tgt := 26) hx hb dX11_trees_16 (by decide) (fun _ => ?_) (fun q => absurd q (fun q2 => absurd (show i1.toInt = (0 : Int) from (fa_eq i1 (0 : Int32)).mp q2) (by omega)))
    refine lv_aload_n hx hb dX11_trees_26 rfl (lv_at hl 1 rfl) ?_
    refine z_get C G clX11 0 rfl 8 (by decide) m_fl_RX11_59 rfl dX11_trees_27 ?_
    refine lv_astore_n (lv' := [(3, .ref wb_), (2, .ref l1), (0, .ref xo), (1, .int i1)]) hx hb dX11_trees_30 rfl hl (by decide) rfl (fun ls hl => ?_)
    refine lv_aload_n hx hb dX11_trees_31 rfl (lv_at hl 0 rfl) ?_
    refine lv_aload_n hx hb dX11_trees_32 rfl (lv_at hl 1 rfl) ?_
    refine z_Vi (bc := [wwB, z1_]) (br := [[(xo, .inr (10, [.ref t, .ref im, .ref mk, .ref rd, .ref po, .ref co, .ref tr, .ref wa, .ref wb_, .ref fi, .ref cd]))], z0_, wwA, wt]) (As := [.ref l1]) (rest := []) C G (c_treesOf l T wb_ laB mdB wyB pc_B f1B f2B f3B f4B f5B f6B n4B wwB l1 cr1_ inn1_ k11_ k21_ k31_ k41_ z1_ hwwB hz1_ (by first | with_reducible assumption | with_reducible rfl | omega | assumption | rfl)) (kV_RX11_268 C.2.2.2.2 (Nat.le_of_ble_eq_true rfl) (Nat.le_of_ble_eq_true rfl)) [4, 2] [0, 1, 3, 5] rfl rfl (ci := 0) (qc := (RX0, TX0, 10)) rfl rfl (List.mem_flatten.mpr ⟨_, List.mem_of_getElem? (i := 0) rfl, (bWays_mem hwwB).choose_spec⟩) rfl rfl hl.1 dX11_trees_33 (Nat.le_of_ble_eq_true rfl) (Nat.le_of_ble_eq_true rfl) (fun r_19 b1 H locs hw G => ?_)
    refine zEx4 hw ?_
    intro w2_14 g1_15 g2_16 g3_17
    refine zCu2 ?_
    intro hbs9 h_18
    clear hw
    subst hbs9
    have G : zS T A s.heap s [[(xo, .inr (10, [.ref t, .ref im, .ref mk, .ref rd, .ref po, .ref co, .ref tr, .ref wa, .ref wb_, .ref fi, .ref cd]))], z0_, wwA, wt, w2_14, z1_] _ _ := G
    have G := G.sub (bs' := [[(xo, .inr (10, [.ref t, .ref im, .ref mk, .ref rd, .ref po, .ref co, .ref tr, .ref wa, .ref wb_, .ref fi, .ref cd]))], wt, z0_, z1_, wwA, w2_14]) [0, 3, 1, 5, 2, 4] rfl
    exact z_iret C hr hlocks G (Nat.le_of_ble_eq_true rfl) (Nat.le_of_ble_eq_true rfl) dX11_trees_36 ⟨laA, mdA, wyA, pc_A, f1A, f2A, f3A, f4A, f5A, f6A, n4A, wwA, l1, mdB, (zWy cr1_ inn1_ k11_), (zPl cr1_ inn1_ k11_), g1_15, g2_16, g3_17, f4B, f5B, f6B, n4B, w2_14, rfl, hwwA, hmdA, hwmA, rfl, rfl, h_18, (Or.inr rfl), (by have q := zWy_in (inn := inn1_) hI1_; omega), rfl, rfl⟩
theorem m_co_X3_find : Cond.code yX3_find cX3_find 4 none ∈ zT := zmem1 zsub_5 117 rfl rfl
theorem m_ml_RX11_298 : Cond.methodLink RX11 298 yX3_find ∈ zT := zmem1 zsub_5 114 rfl rfl
theorem m_im_X3_find : Cond.instanceMethod yX3_find ∈ zT := zmem1 zsub_5 115 rfl rfl
theorem m_se_X3_find : Cond.selects RX3 yX3_find yX3_find ∈ zT := zmem1 zsub_5 116 rfl rfl
theorem m_fl_RX11_292 : Cond.fieldLink RX11 292 (TX3 1).1 (TX3 1).2.1 (TX3 1).2.2.1 ∈ zT := zmem1 zsub_2 148 rfl rfl
theorem m_fl_RX11_295 : Cond.fieldLink RX11 295 (TX3 2).1 (TX3 2).2.1 (TX3 2).2.2.1 ∈ zT := zmem1 zsub_2 150 rfl rfl
theorem kV_RX11_298 {R : Room} {s : State} {args : Array Value} {d mc ms : Nat} (hts : ∀ w ∈ zT, w.before args s = true) (h1 : d + 1 ≤ R.frames) (h2 : 8 + (4 + 11) + 40 * d ≤ R.locals) : CallW R s args RX11 RX3 298 yX3_find cX3_find 4 none (zW yX3_find cX3_find 4 none) (zR d mc ms) mc ms 2 := z_cwV hts m_co_X3_find m_ml_RX11_298 m_im_X3_find m_se_X3_find m_ii_RX3 (by decide +kernel) h1 h2
theorem dX11_fit_0 : decode cX11_fit 0 = .ok (.aload_n 0, 1) := zo_42 (by decide +kernel)
theorem dX11_fit_1 : decode cX11_fit 1 = .ok (.getfield 10, 3) := zo_180 (by decide +kernel)
theorem dX11_fit_4 : decode cX11_fit 4 = .ok (.iload_n 1, 1) := zo_27 (by decide +kernel)
theorem dX11_fit_5 : decode cX11_fit 5 = .ok (.invokevirtual 121, 3) := zo_182 (by decide +kernel)
theorem dX11_fit_8 : decode cX11_fit 8 = .ok (.astore_n 3, 1) := zo_78 (by decide +kernel)
theorem dX11_fit_9 : decode cX11_fit 9 = .ok (.aload_n 0, 1) := zo_42 (by decide +kernel)
theorem dX11_fit_10 : decode cX11_fit 10 = .ok (.getfield 10, 3) := zo_180 (by decide +kernel)
theorem dX11_fit_13 : decode cX11_fit 13 = .ok (.iload_n 2, 1) := zo_28 (by decide +kernel)
theorem dX11_fit_14 : decode cX11_fit 14 = .ok (.invokevirtual 138, 3) := zo_182 (by decide +kernel)
theorem dX11_fit_17 : decode cX11_fit 17 = .ok (.astore 4, 2) := zo_58 (by decide +kernel)
theorem dX11_fit_19 : decode cX11_fit 19 = .ok (.aload_n 3, 1) := zo_45 (by decide +kernel)
theorem dX11_fit_20 : decode cX11_fit 20 = .ok (.ifnull 8, 3) := zo_198 (by decide +kernel)
theorem dX11_fit_23 : decode cX11_fit 23 = .ok (.aload 4, 2) := zo_25 (by decide +kernel)
theorem dX11_fit_25 : decode cX11_fit 25 = .ok (.ifnonnull 5, 3) := zo_199 (by decide +kernel)
theorem dX11_fit_28 : decode cX11_fit 28 = .ok (.iconst 0, 1) := zo_3 (by decide +kernel)
theorem dX11_fit_29 : decode cX11_fit 29 = .ok (.ireturn, 1) := zo_172 (by decide +kernel)
theorem dX11_fit_30 : decode cX11_fit 30 = .ok (.aload_n 0, 1) := zo_42 (by decide +kernel)
theorem dX11_fit_31 : decode cX11_fit 31 = .ok (.getfield 65, 3) := zo_180 (by decide +kernel)
theorem dX11_fit_34 : decode cX11_fit 34 = .ok (.getfield 109, 3) := zo_180 (by decide +kernel)
theorem dX11_fit_37 : decode cX11_fit 37 = .ok (.ifCond .eq 25, 3) := zo_153 (by decide +kernel)
theorem dX11_fit_40 : decode cX11_fit 40 = .ok (.aload_n 0, 1) := zo_42 (by decide +kernel)
theorem dX11_fit_41 : decode cX11_fit 41 = .ok (.getfield 65, 3) := zo_180 (by decide +kernel)
theorem dX11_fit_44 : decode cX11_fit 44 = .ok (.getfield 292, 3) := zo_180 (by decide +kernel)
theorem dX11_fit_47 : decode cX11_fit 47 = .ok (.iload_n 1, 1) := zo_27 (by decide +kernel)
theorem dX11_fit_48 : decode cX11_fit 48 = .ok (.if_icmp .ne 14, 3) := zo_160 (by decide +kernel)
theorem dX11_fit_51 : decode cX11_fit 51 = .ok (.aload_n 0, 1) := zo_42 (by decide +kernel)
theorem dX11_fit_52 : decode cX11_fit 52 = .ok (.getfield 65, 3) := zo_180 (by decide +kernel)
theorem dX11_fit_55 : decode cX11_fit 55 = .ok (.getfield 295, 3) := zo_180 (by decide +kernel)
theorem dX11_fit_58 : decode cX11_fit 58 = .ok (.iload_n 2, 1) := zo_28 (by decide +kernel)
theorem dX11_fit_59 : decode cX11_fit 59 = .ok (.if_icmp .eq 42, 3) := zo_159 (by decide +kernel)
theorem dX11_fit_62 : decode cX11_fit 62 = .ok (.aload_n 0, 1) := zo_42 (by decide +kernel)
theorem dX11_fit_63 : decode cX11_fit 63 = .ok (.getfield 65, 3) := zo_180 (by decide +kernel)
theorem dX11_fit_66 : decode cX11_fit 66 = .ok (.aload_n 0, 1) := zo_42 (by decide +kernel)
theorem dX11_fit_67 : decode cX11_fit 67 = .ok (.iload_n 1, 1) := zo_27 (by decide +kernel)
theorem dX11_fit_68 : decode cX11_fit 68 = .ok (.aload_n 3, 1) := zo_45 (by decide +kernel)
theorem dX11_fit_69 : decode cX11_fit 69 = .ok (.invokevirtual 235, 3) := zo_182 (by decide +kernel)
theorem dX11_fit_72 : decode cX11_fit 72 = .ok (.aload 4, 2) := zo_25 (by decide +kernel)
theorem dX11_fit_74 : decode cX11_fit 74 = .ok (.invokevirtual 298, 3) := zo_182 (by decide +kernel)
theorem dX11_fit_77 : decode cX11_fit 77 = .ok (.aload_n 0, 1) := zo_42 (by decide +kernel)
theorem dX11_fit_78 : decode cX11_fit 78 = .ok (.getfield 65, 3) := zo_180 (by decide +kernel)
theorem dX11_fit_81 : decode cX11_fit 81 = .ok (.iload_n 1, 1) := zo_27 (by decide +kernel)
theorem dX11_fit_82 : decode cX11_fit 82 = .ok (.putfield 292, 3) := zo_181 (by decide +kernel)
theorem dX11_fit_85 : decode cX11_fit 85 = .ok (.aload_n 0, 1) := zo_42 (by decide +kernel)
theorem dX11_fit_86 : decode cX11_fit 86 = .ok (.getfield 65, 3) := zo_180 (by decide +kernel)
theorem dX11_fit_89 : decode cX11_fit 89 = .ok (.iload_n 2, 1) := zo_28 (by decide +kernel)
theorem dX11_fit_90 : decode cX11_fit 90 = .ok (.putfield 295, 3) := zo_181 (by decide +kernel)
theorem dX11_fit_93 : decode cX11_fit 93 = .ok (.aload_n 0, 1) := zo_42 (by decide +kernel)
theorem dX11_fit_94 : decode cX11_fit 94 = .ok (.getfield 65, 3) := zo_180 (by decide +kernel)
theorem dX11_fit_97 : decode cX11_fit 97 = .ok (.iconst 1, 1) := zo_4 (by decide +kernel)
theorem dX11_fit_98 : decode cX11_fit 98 = .ok (.putfield 109, 3) := zo_181 (by decide +kernel)
theorem dX11_fit_101 : decode cX11_fit 101 = .ok (.iconst 1, 1) := zo_4 (by decide +kernel)
theorem dX11_fit_102 : decode cX11_fit 102 = .ok (.ireturn, 1) := zo_172 (by decide +kernel)
def zNF (c : Prop) [Decidable c] (n : Nat) (wy : Int32) : Nat := if c then zFl n wy else n
theorem zNF_y {c : Prop} [Decidable c] {n : Nat} {wy : Int32} (h : c) : zNF c n wy = zFl n wy := if_pos h
theorem zNF_n {c : Prop} [Decidable c] {n : Nat} {wy : Int32} (h : ¬ c) : zNF c n wy = n := if_neg h
set_option maxHeartbeats 4000000 in
set_option maxRecDepth 100000 in
/-- fit -/
theorem c_fit (l : Launch) (T : zTy) (xo : Nat) (t : Nat) (im : Nat) (mk : Nat) (rd : Nat) (po : Nat) (co : Nat) (tr : Nat) (wa : Nat) (wb_ : Nat) (fi : Nat) (cd : Nat) (l0 : Nat) (l1 : Nat) (d0 : Nat) (d1 : Nat) (g0 : Nat) (g1 : Nat) (ln : Int32) (fl : Int32) (pl : Int32) (ft : Nat → Int32) (fk : Nat → Int32) (wt : va_W) (cr0_ : Int32) (inn0_ : Int32) (k10_ : Nat → Int32) (k20_ : Nat → Int32) (k30_ : Nat → Int32) (k40_ : Nat → Int32) (z0_ : va_W) (cr1_ : Int32) (inn1_ : Int32) (k11_ : Nat → Int32) (k21_ : Nat → Int32) (k31_ : Nat → Int32) (k41_ : Nat → Int32) (z1_ : va_W) (gg0_ : Int32) (q10_ : Nat → Int32) (q20_ : Nat → Int32) (wg0_ : va_W) (gg1_ : Int32) (q11_ : Nat → Int32) (q21_ : Nat → Int32) (wg1_ : va_W) (laA : Nat) (mdA : Int32) (wyA : Int32) (pc_A : Int32) (f1A : Nat → Int32) (f2A : Nat → Int32) (f3A : Nat → Int32) (f4A : Nat → Int32) (f5A : Nat → Int32) (f6A : Nat → Int32) (n4A : Nat) (wwA : va_W) (laB : Nat) (mdB : Int32) (wyB : Int32) (pc_B : Int32) (f1B : Nat → Int32) (f2B : Nat → Int32) (f3B : Nat → Int32) (f4B : Nat → Int32) (f5B : Nat → Int32) (f6B : Nat → Int32) (n4B : Nat) (wwB : va_W) (e0f : Int32) (e1f : Int32) (e2f : Int32) (e3f : Int32) (e4f : Int32) (e5f : Int32) (r1f : Nat → Int32) (m1f : Nat) (r2f : Nat → Int32) (wff : va_W) (i1 : Int32) (i2 : Int32) (ht : bTold T t l0 l1 d0 d1 g0 g1 ln fl pl ft fk wt) (hK : zKT fk) (hz0_ : bLand T l0 cr0_ inn0_ k10_ k20_ k30_ k40_ z0_) (hI0_ : zLI cr0_ k10_ k30_) (hz1_ : bLand T l1 cr1_ inn1_ k11_ k21_ k31_ k41_ z1_) (hI1_ : zLI cr1_ k11_ k31_) (hg0_ : bLog T g0 gg0_ q10_ q20_ wg0_) (hg1_ : bLog T g1 gg1_ q11_ q21_ wg1_) (hwwA : bWays T wa laA mdA wyA pc_A f1A f2A f3A f4A f5A f6A n4A wwA) (hpwA : zPw n4A) (hmdA : mdA = 0 ∨ laA = l0) (hwmA : 0 ≤ wyA.toInt ∧ wyA.toInt ≤ 16384) (hwwB : bWays T wb_ laB mdB wyB pc_B f1B f2B f3B f4B f5B f6B n4B wwB) (hpwB : zPw n4B) (hmdB : mdB = 0 ∨ laB = l1) (hwmB : 0 ≤ wyB.toInt ∧ wyB.toInt ≤ 16384) (hwff : bFit T fi e0f e1f e2f e3f e4f e5f r1f m1f r2f wff) (hfw : zFw m1f) (hf3 : 0 ≤ e3f.toInt) (hFI : (¬ e0f = 0 → e1f.toInt = 0 ∧ ¬ mdA = 0 ∨ e1f.toInt = 1 ∧ ¬ mdB = 0)) : zMi l T yX11_fit cX11_fit 5 (some .boolean) 7 4 (6 * (zNA (i1.toInt = 0 ∧ 0 < (fk 0).toInt ∧ (0 ≤ i2.toInt ∧ i2.toInt < (fk 2).toInt ∧ i2.toInt < 2) ∧ (e0f.toInt = 0 ∨ ¬ e1f.toInt = i1.toInt ∨ ¬ e2f.toInt = i2.toInt)) mdA n4A (zPl cr0_ inn0_ k10_) - n4A) + 6 * (zNA (i1.toInt = 1 ∧ 1 < (fk 0).toInt ∧ (0 ≤ i2.toInt ∧ i2.toInt < (fk 2).toInt ∧ i2.toInt < 2) ∧ (e0f.toInt = 0 ∨ ¬ e1f.toInt = i1.toInt ∨ ¬ e2f.toInt = i2.toInt)) mdB n4B (zPl cr1_ inn1_ k11_) - n4B) + 2 * (zNF (i1.toInt = 1 ∧ 1 < (fk 0).toInt ∧ (0 ≤ i2.toInt ∧ i2.toInt < (fk 2).toInt ∧ i2.toInt < 2) ∧ (e0f.toInt = 0 ∨ ¬ e1f.toInt = i1.toInt ∨ ¬ e2f.toInt = i2.toInt)) (zNF (i1.toInt = 0 ∧ 0 < (fk 0).toInt ∧ (0 ≤ i2.toInt ∧ i2.toInt < (fk 2).toInt ∧ i2.toInt < 2) ∧ (e0f.toInt = 0 ∨ ¬ e1f.toInt = i1.toInt ∨ ¬ e2f.toInt = i2.toInt)) m1f (zMw mdA wyA cr0_ inn0_ k10_)) (zMw mdB wyB cr1_ inn1_ k11_) - m1f)) [.ref xo, .int i1, .int i2] [[(xo, .inr (10, [.ref t, .ref im, .ref mk, .ref rd, .ref po, .ref co, .ref tr, .ref wa, .ref wb_, .ref fi, .ref cd]))], wt, z0_, z1_, wg0_, wg1_, wwA, wwB, wff] (fun (r : Int32) bs => ∃ (laA_2 : Nat) (mdA_2 : Int32) (wyA_2 : Int32) (pc_A_2 : Int32) (f1A_2 : Nat → Int32) (f2A_2 : Nat → Int32) (f3A_2 : Nat → Int32) (f4A_2 : Nat → Int32) (f5A_2 : Nat → Int32) (f6A_2 : Nat → Int32) (n4A_2 : Nat) (wwA_2 : va_W) (laB_2 : Nat) (mdB_2 : Int32) (wyB_2 : Int32) (pc_B_2 : Int32) (f1B_2 : Nat → Int32) (f2B_2 : Nat → Int32) (f3B_2 : Nat → Int32) (f4B_2 : Nat → Int32) (f5B_2 : Nat → Int32) (f6B_2 : Nat → Int32) (n4B_2 : Nat) (wwB_2 : va_W) (e0f_2 : Int32) (e1f_2 : Int32) (e2f_2 : Int32) (e3f_2 : Int32) (e4f_2 : Int32) (e5f_2 : Int32) (r1f_2 : Nat → Int32) (m1f_2 : Nat) (r2f_2 : Nat → Int32) (wff_2 : va_W), bs = [[(xo, .inr (10, [.ref t, .ref im, .ref mk, .ref rd, .ref po, .ref co, .ref tr, .ref wa, .ref wb_, .ref fi, .ref cd]))], wt, z0_, z1_, wg0_, wg1_, wwA_2, wwB_2, wff_2] ∧ bWays T wa laA_2 mdA_2 wyA_2 pc_A_2 f1A_2 f2A_2 f3A_2 f4A_2 f5A_2 f6A_2 n4A_2 wwA_2 ∧ (mdA_2 = 0 ∨ laA_2 = l0) ∧ (0 ≤ wyA_2.toInt ∧ wyA_2.toInt ≤ 16384) ∧ n4A_2 = zNA (i1.toInt = 0 ∧ 0 < (fk 0).toInt ∧ (0 ≤ i2.toInt ∧ i2.toInt < (fk 2).toInt ∧ i2.toInt < 2) ∧ (e0f.toInt = 0 ∨ ¬ e1f.toInt = i1.toInt ∨ ¬ e2f.toInt = i2.toInt)) mdA n4A (zPl cr0_ inn0_ k10_) ∧ zPw n4A_2 ∧ (¬ mdA = 0 → ¬ mdA_2 = 0) ∧ bWays T wb_ laB_2 mdB_2 wyB_2 pc_B_2 f1B_2 f2B_2 f3B_2 f4B_2 f5B_2 f6B_2 n4B_2 wwB_2 ∧ (mdB_2 = 0 ∨ laB_2 = l1) ∧ (0 ≤ wyB_2.toInt ∧ wyB_2.toInt ≤ 16384) ∧ n4B_2 = zNA (i1.toInt = 1 ∧ 1 < (fk 0).toInt ∧ (0 ≤ i2.toInt ∧ i2.toInt < (fk 2).toInt ∧ i2.toInt < 2) ∧ (e0f.toInt = 0 ∨ ¬ e1f.toInt = i1.toInt ∨ ¬ e2f.toInt = i2.toInt)) mdB n4B (zPl cr1_ inn1_ k11_) ∧ zPw n4B_2 ∧ (¬ mdB = 0 → ¬ mdB_2 = 0) ∧ bFit T fi e0f_2 e1f_2 e2f_2 e3f_2 e4f_2 e5f_2 r1f_2 m1f_2 r2f_2 wff_2 ∧ m1f_2 = zNF (i1.toInt = 1 ∧ 1 < (fk 0).toInt ∧ (0 ≤ i2.toInt ∧ i2.toInt < (fk 2).toInt ∧ i2.toInt < 2) ∧ (e0f.toInt = 0 ∨ ¬ e1f.toInt = i1.toInt ∨ ¬ e2f.toInt = i2.toInt)) (zNF (i1.toInt = 0 ∧ 0 < (fk 0).toInt ∧ (0 ≤ i2.toInt ∧ i2.toInt < (fk 2).toInt ∧ i2.toInt < 2) ∧ (e0f.toInt = 0 ∨ ¬ e1f.toInt = i1.toInt ∨ ¬ e2f.toInt = i2.toInt)) m1f (zMw mdA wyA cr0_ inn0_ k10_)) (zMw mdB wyB cr1_ inn1_ k11_) ∧ zFw m1f_2 ∧ 0 ≤ e3f_2.toInt ∧ (r = 0 ∧ ¬ ((0 ≤ i1.toInt ∧ i1.toInt < (fk 0).toInt ∧ i1.toInt < 2) ∧ (0 ≤ i2.toInt ∧ i2.toInt < (fk 2).toInt ∧ i2.toInt < 2)) ∨ r = 1 ∧ ((0 ≤ i1.toInt ∧ i1.toInt < (fk 0).toInt ∧ i1.toInt < 2) ∧ (0 ≤ i2.toInt ∧ i2.toInt < (fk 2).toInt ∧ i2.toInt < 2)) ∧ ¬ e0f_2 = 0 ∧ e1f_2.toInt = i1.toInt) ∧ (¬ e0f_2 = 0 → e1f_2.toInt = 0 ∧ ¬ mdA_2 = 0 ∨ e1f_2.toInt = 1 ∧ ¬ mdB_2 = 0)) := by
  refine zMi_of (own := RX11) (by decide) rfl (Nat.le_of_ble_eq_true rfl) ?_
  intro p e s m args below meth c A ls C hr hlocks hnm hAe G hl
  have hx := C.1
  have hb := C.2.1
  replace hmdA : zHd (mdA = 0 ∨ laA = l0) := hmdA
  replace hmdB : zHd (mdB = 0 ∨ laB = l1) := hmdB
  replace hFI : zHd ((¬ e0f = 0 → e1f.toInt = 0 ∧ ¬ mdA = 0 ∨ e1f.toInt = 1 ∧ ¬ mdB = 0)) := hFI
  have hl : lv_has ls 5 [(0, .ref xo), (1, .int i1), (2, .int i2)] := hl
  refine lv_aload_n hx hb dX11_fit_0 rfl (lv_at hl 0 rfl) ?_
  refine z_get C G clX11 0 rfl 0 (by decide) m_fl_RX11_10 rfl dX11_fit_1 ?_
  refine lv_iload_n hx hb dX11_fit_4 rfl (lv_at hl 1 rfl) ?_
  refine z_Vq (bc := [wt]) (br := [[(xo, .inr (10, [.ref t, .ref im, .ref mk, .ref rd, .ref po, .ref co, .ref tr, .ref wa, .ref wb_, .ref fi, .ref cd]))], z0_, z1_, wg0_, wg1_, wwA, wwB, wff]) (As := [.int i1]) (rest := []) C G (c_landAt l T t l0 l1 d0 d1 g0 g1 ln fl pl ft fk wt i1 ht) (kV_RX11_121 C.2.2.2.2 (Nat.le_of_ble_eq_true rfl) (Nat.le_of_ble_eq_true rfl)) [1] [0, 2, 3, 4, 5, 6, 7, 8] rfl rfl (ci := 8) (qc := (RX9, TX9, 8)) rfl rfl (List.mem_flatten.mpr ⟨_, List.mem_of_getElem? (i := 0) rfl, (bTold_mem ht).choose_spec⟩) rfl rfl hl.1 dX11_fit_5 (by show _ + 0 ≤ 4; omega) (by show _ + 0 ≤ 6 * (zNA (i1.toInt = 0 ∧ 0 < (fk 0).toInt ∧ (0 ≤ i2.toInt ∧ i2.toInt < (fk 2).toInt ∧ i2.toInt < 2) ∧ (e0f.toInt = 0 ∨ ¬ e1f.toInt = i1.toInt ∨ ¬ e2f.toInt = i2.toInt)) mdA n4A (zPl cr0_ inn0_ k10_) - n4A) + 6 * (zNA (i1.toInt = 1 ∧ 1 < (fk 0).toInt ∧ (0 ≤ i2.toInt ∧ i2.toInt < (fk 2).toInt ∧ i2.toInt < 2) ∧ (e0f.toInt = 0 ∨ ¬ e1f.toInt = i1.toInt ∨ ¬ e2f.toInt = i2.toInt)) mdB n4B (zPl cr1_ inn1_ k11_) - n4B) + 2 * (zNF (i1.toInt = 1 ∧ 1 < (fk 0).toInt ∧ (0 ≤ i2.toInt ∧ i2.toInt < (fk 2).toInt ∧ i2.toInt < 2) ∧ (e0f.toInt = 0 ∨ ¬ e1f.toInt = i1.toInt ∨ ¬ e2f.toInt = i2.toInt)) (zNF (i1.toInt = 0 ∧ 0 < (fk 0).toInt ∧ (0 ≤ i2.toInt ∧ i2.toInt < (fk 2).toInt ∧ i2.toInt < 2) ∧ (e0f.toInt = 0 ∨ ¬ e1f.toInt = i1.toInt ∨ ¬ e2f.toInt = i2.toInt)) m1f (zMw mdA wyA cr0_ inn0_ k10_)) (zMw mdB wyB cr1_ inn1_ k11_) - m1f); omega) (fun r_2 b1 H locs hw G => ?_)
  refine zAn2 hw ?_
  intro hbs9 hc_1
  clear hw
  subst hbs9
  have G : zS T A s.heap s [[(xo, .inr (10, [.ref t, .ref im, .ref mk, .ref rd, .ref po, .ref co, .ref tr, .ref wa, .ref wb_, .ref fi, .ref cd]))], z0_, z1_, wg0_, wg1_, wwA, wwB, wff, wt] _ _ := G
  rcases hc_1 with ⟨rfl, h_3⟩ | ⟨rfl, h_4, h_5⟩ | ⟨rfl, h_6, h_7⟩
  · have h_3 : (i1.toInt < 0 ∨ (fk 0).toInt ≤ i1.toInt ∨ 2 ≤ i1.toInt) := h_3
    refine lv_astore_nN (lv' := [(3, .null), (0, .ref xo), (1, .int i1), (2, .int i2)]) hx hb dX11_fit_8 rfl hl (by decide) rfl (fun ls hl => ?_)
    refine lv_aload_n hx hb dX11_fit_9 rfl (lv_at hl 1 rfl) ?_
    refine z_get C G clX11 0 rfl 0 (by decide) m_fl_RX11_10 rfl dX11_fit_10 ?_
    refine lv_iload_n hx hb dX11_fit_13 rfl (lv_at hl 3 rfl) ?_
    refine z_Vq (bc := [wt]) (br := [[(xo, .inr (10, [.ref t, .ref im, .ref mk, .ref rd, .ref po, .ref co, .ref tr, .ref wa, .ref wb_, .ref fi, .ref cd]))], z0_, z1_, wg0_, wg1_, wwA, wwB, wff]) (As := [.int i2]) (rest := []) C G (c_logAt l T t l0 l1 d0 d1 g0 g1 ln fl pl ft fk wt i2 ht) (kV_RX11_138 C.2.2.2.2 (Nat.le_of_ble_eq_true rfl) (Nat.le_of_ble_eq_true rfl)) [8] [0, 1, 2, 3, 4, 5, 6, 7] rfl rfl (ci := 8) (qc := (RX9, TX9, 8)) rfl rfl (List.mem_flatten.mpr ⟨_, List.mem_of_getElem? (i := 0) rfl, (bTold_mem ht).choose_spec⟩) rfl rfl hl.1 dX11_fit_14 (by show _ + 0 ≤ 4; omega) (by show _ + 0 ≤ 6 * (zNA (i1.toInt = 0 ∧ 0 < (fk 0).toInt ∧ (0 ≤ i2.toInt ∧ i2.toInt < (fk 2).toInt ∧ i2.toInt < 2) ∧ (e0f.toInt = 0 ∨ ¬ e1f.toInt = i1.toInt ∨ ¬ e2f.toInt = i2.toInt)) mdA n4A (zPl cr0_ inn0_ k10_) - n4A) + 6 * (zNA (i1.toInt = 1 ∧ 1 < (fk 0).toInt ∧ (0 ≤ i2.toInt ∧ i2.toInt < (fk 2).toInt ∧ i2.toInt < 2) ∧ (e0f.toInt = 0 ∨ ¬ e1f.toInt = i1.toInt ∨ ¬ e2f.toInt = i2.toInt)) mdB n4B (zPl cr1_ inn1_ k11_) - n4B) + 2 * (zNF (i1.toInt = 1 ∧ 1 < (fk 0).toInt ∧ (0 ≤ i2.toInt ∧ i2.toInt < (fk 2).toInt ∧ i2.toInt < 2) ∧ (e0f.toInt = 0 ∨ ¬ e1f.toInt = i1.toInt ∨ ¬ e2f.toInt = i2.toInt)) (zNF (i1.toInt = 0 ∧ 0 < (fk 0).toInt ∧ (0 ≤ i2.toInt ∧ i2.toInt < (fk 2).toInt ∧ i2.toInt < 2) ∧ (e0f.toInt = 0 ∨ ¬ e1f.toInt = i1.toInt ∨ ¬ e2f.toInt = i2.toInt)) m1f (zMw mdA wyA cr0_ inn0_ k10_)) (zMw mdB wyB cr1_ inn1_ k11_) - m1f); omega) (fun r_9 b1 H locs hw G => ?_)
    refine zAn2 hw ?_
    intro hbs9 hc_8
    clear hw
    subst hbs9
    have G : zS T A s.heap s [[(xo, .inr (10, [.ref t, .ref im, .ref mk, .ref rd, .ref po, .ref co, .ref tr, .ref wa, .ref wb_, .ref fi, .ref cd]))], z0_, z1_, wg0_, wg1_, wwA, wwB, wff, wt] _ _ := G
    rcases hc_8 with ⟨rfl, h_10⟩ | ⟨rfl, h_11, h_12⟩ | ⟨rfl, h_13, h_14⟩
    · have h_10 : (i2.toInt < 0 ∨ (fk 2).toInt ≤ i2.toInt ∨ 2 ≤ i2.toInt) := h_10
      refine lv_astoreN (lv' := [(4, .null), (3, .null), (0, .ref xo), (1, .int i1), (2, .int i2)]) hx hb dX11_fit_17 hl (by decide) rfl (fun ls hl => ?_)
      refine lv_aload_nN hx hb dX11_fit_19 rfl (lv_at hl 1 rfl) ?_
      refine lv_ifnullN (tgt := 28) hx hb dX11_fit_20 (by decide) ?_
      refine lv_iconst (v := 0) hx hb dX11_fit_28 (by decide) ?_
      have G := G.sub (bs' := [[(xo, .inr (10, [.ref t, .ref im, .ref mk, .ref rd, .ref po, .ref co, .ref tr, .ref wa, .ref wb_, .ref fi, .ref cd]))], wt, z0_, z1_, wg0_, wg1_, wwA, wwB, wff]) [0, 8, 1, 2, 3, 4, 5, 6, 7] rfl
      exact z_zret C hr hlocks G (by omega) (by omega) dX11_fit_29 rfl ⟨laA, mdA, wyA, pc_A, f1A, f2A, f3A, f4A, f5A, f6A, n4A, wwA, laB, mdB, wyB, pc_B, f1B, f2B, f3B, f4B, f5B, f6B, n4B, wwB, e0f, e1f, e2f, e3f, e4f, e5f, r1f, m1f, r2f, wff, rfl, hwwA, hmdA, hwmA, (zNA_n (by omega)).symm, hpwA, (fun q => q), hwwB, hmdB, hwmB, (zNA_n (by omega)).symm, hpwB, (fun q => q), hwff, (((zNF_n (c := (i1.toInt = 1 ∧ 1 < (fk 0).toInt ∧ (0 ≤ i2.toInt ∧ i2.toInt < (fk 2).toInt ∧ i2.toInt < 2) ∧ (e0f.toInt = 0 ∨ ¬ e1f.toInt = i1.toInt ∨ ¬ e2f.toInt = i2.toInt))) (by omega)).trans (zNF_n (by omega))).symm), hfw, hf3, (Or.inl ⟨rfl, by omega⟩), hFI⟩
    · have h_11 : i2.toInt = 0 := h_11
      have h_12 : 0 < (fk 2).toInt := h_12
      refine lv_astore (lv' := [(4, .ref g0), (3, .null), (0, .ref xo), (1, .int i1), (2, .int i2)]) hx hb dX11_fit_17 hl (by decide) rfl (fun ls hl => ?_)
      refine lv_aload_nN hx hb dX11_fit_19 rfl (lv_at hl 1 rfl) ?_
      refine lv_ifnullN (tgt := 28) hx hb dX11_fit_20 (by decide) ?_
      refine lv_iconst (v := 0) hx hb dX11_fit_28 (by decide) ?_
      have G := G.sub (bs' := [[(xo, .inr (10, [.ref t, .ref im, .ref mk, .ref rd, .ref po, .ref co, .ref tr, .ref wa, .ref wb_, .ref fi, .ref cd]))], wt, z0_, z1_, wg0_, wg1_, wwA, wwB, wff]) [0, 8, 1, 2, 3, 4, 5, 6, 7] rfl
      exact z_zret C hr hlocks G (by omega) (by omega) dX11_fit_29 rfl ⟨laA, mdA, wyA, pc_A, f1A, f2A, f3A, f4A, f5A, f6A, n4A, wwA, laB, mdB, wyB, pc_B, f1B, f2B, f3B, f4B, f5B, f6B, n4B, wwB, e0f, e1f, e2f, e3f, e4f, e5f, r1f, m1f, r2f, wff, rfl, hwwA, hmdA, hwmA, (zNA_n (by omega)).symm, hpwA, (fun q => q), hwwB, hmdB, hwmB, (zNA_n (by omega)).symm, hpwB, (fun q => q), hwff, (((zNF_n (c := (i1.toInt = 1 ∧ 1 < (fk 0).toInt ∧ (0 ≤ i2.toInt ∧ i2.toInt < (fk 2).toInt ∧ i2.toInt < 2) ∧ (e0f.toInt = 0 ∨ ¬ e1f.toInt = i1.toInt ∨ ¬ e2f.toInt = i2.toInt))) (by omega)).trans (zNF_n (by omega))).symm), hfw, hf3, (Or.inl ⟨rfl, by omega⟩), hFI⟩
    · have h_13 : i2.toInt = 1 := h_13
      have h_14 : 1 < (fk 2).toInt := h_14
      refine lv_astore (lv' := [(4, .ref g1), (3, .null), (0, .ref xo), (1, .int i1), (2, .int i2)]) hx hb dX11_fit_17 hl (by decide) rfl (fun ls hl => ?_)
      refine lv_aload_nN hx hb dX11_fit_19 rfl (lv_at hl 1 rfl) ?_
      refine lv_ifnullN (tgt := 28) hx hb dX11_fit_20 (by decide) ?_
      refine lv_iconst (v := 0) hx hb dX11_fit_28 (by decide) ?_
      have G := G.sub (bs' := [[(xo, .inr (10, [.ref t, .ref im, .ref mk, .ref rd, .ref po, .ref co, .ref tr, .ref wa, .ref wb_, .ref fi, .ref cd]))], wt, z0_, z1_, wg0_, wg1_, wwA, wwB, wff]) [0, 8, 1, 2, 3, 4, 5, 6, 7] rfl
      exact z_zret C hr hlocks G (by omega) (by omega) dX11_fit_29 rfl ⟨laA, mdA, wyA, pc_A, f1A, f2A, f3A, f4A, f5A, f6A, n4A, wwA, laB, mdB, wyB, pc_B, f1B, f2B, f3B, f4B, f5B, f6B, n4B, wwB, e0f, e1f, e2f, e3f, e4f, e5f, r1f, m1f, r2f, wff, rfl, hwwA, hmdA, hwmA, (zNA_n (by omega)).symm, hpwA, (fun q => q), hwwB, hmdB, hwmB, (zNA_n (by omega)).symm, hpwB, (fun q => q), hwff, (((zNF_n (c := (i1.toInt = 1 ∧ 1 < (fk 0).toInt ∧ (0 ≤ i2.toInt ∧ i2.toInt < (fk 2).toInt ∧ i2.toInt < 2) ∧ (e0f.toInt = 0 ∨ ¬ e1f.toInt = i1.toInt ∨ ¬ e2f.toInt = i2.toInt))) (by omega)).trans (zNF_n (by omega))).symm), hfw, hf3, (Or.inl ⟨rfl, by omega⟩), hFI⟩
  · have h_4 : i1.toInt = 0 := h_4
    have h_5 : 0 < (fk 0).toInt := h_5
    refine lv_astore_n (lv' := [(3, .ref l0), (0, .ref xo), (1, .int i1), (2, .int i2)]) hx hb dX11_fit_8 rfl hl (by decide) rfl (fun ls hl => ?_)
    refine lv_aload_n hx hb dX11_fit_9 rfl (lv_at hl 1 rfl) ?_
    refine z_get C G clX11 0 rfl 0 (by decide) m_fl_RX11_10 rfl dX11_fit_10 ?_
    refine lv_iload_n hx hb dX11_fit_13 rfl (lv_at hl 3 rfl) ?_
    refine z_Vq (bc := [wt]) (br := [[(xo, .inr (10, [.ref t, .ref im, .ref mk, .ref rd, .ref po, .ref co, .ref tr, .ref wa, .ref wb_, .ref fi, .ref cd]))], z0_, z1_, wg0_, wg1_, wwA, wwB, wff]) (As := [.int i2]) (rest := []) C G (c_logAt l T t l0 l1 d0 d1 g0 g1 ln fl pl ft fk wt i2 ht) (kV_RX11_138 C.2.2.2.2 (Nat.le_of_ble_eq_true rfl) (Nat.le_of_ble_eq_true rfl)) [8] [0, 1, 2, 3, 4, 5, 6, 7] rfl rfl (ci := 8) (qc := (RX9, TX9, 8)) rfl rfl (List.mem_flatten.mpr ⟨_, List.mem_of_getElem? (i := 0) rfl, (bTold_mem ht).choose_spec⟩) rfl rfl hl.1 dX11_fit_14 (by show _ + 0 ≤ 4; omega) (by show _ + 0 ≤ 6 * (zNA (i1.toInt = 0 ∧ 0 < (fk 0).toInt ∧ (0 ≤ i2.toInt ∧ i2.toInt < (fk 2).toInt ∧ i2.toInt < 2) ∧ (e0f.toInt = 0 ∨ ¬ e1f.toInt = i1.toInt ∨ ¬ e2f.toInt = i2.toInt)) mdA n4A (zPl cr0_ inn0_ k10_) - n4A) + 6 * (zNA (i1.toInt = 1 ∧ 1 < (fk 0).toInt ∧ (0 ≤ i2.toInt ∧ i2.toInt < (fk 2).toInt ∧ i2.toInt < 2) ∧ (e0f.toInt = 0 ∨ ¬ e1f.toInt = i1.toInt ∨ ¬ e2f.toInt = i2.toInt)) mdB n4B (zPl cr1_ inn1_ k11_) - n4B) + 2 * (zNF (i1.toInt = 1 ∧ 1 < (fk 0).toInt ∧ (0 ≤ i2.toInt ∧ i2.toInt < (fk 2).toInt ∧ i2.toInt < 2) ∧ (e0f.toInt = 0 ∨ ¬ e1f.toInt = i1.toInt ∨ ¬ e2f.toInt = i2.toInt)) (zNF (i1.toInt = 0 ∧ 0 < (fk 0).toInt ∧ (0 ≤ i2.toInt ∧ i2.toInt < (fk 2).toInt ∧ i2.toInt < 2) ∧ (e0f.toInt = 0 ∨ ¬ e1f.toInt = i1.toInt ∨ ¬ e2f.toInt = i2.toInt)) m1f (zMw mdA wyA cr0_ inn0_ k10_)) (zMw mdB wyB cr1_ inn1_ k11_) - m1f); omega) (fun r_16 b1 H locs hw G => ?_)
    refine zAn2 hw ?_
    intro hbs9 hc_15
    clear hw
    subst hbs9
    have G : zS T A s.heap s [[(xo, .inr (10, [.ref t, .ref im, .ref mk, .ref rd, .ref po, .ref co, .ref tr, .ref wa, .ref wb_, .ref fi, .ref cd]))], z0_, z1_, wg0_, wg1_, wwA, wwB, wff, wt] _ _ := G
    rcases hc_15 with ⟨rfl, h_17⟩ | ⟨rfl, h_18, h_19⟩ | ⟨rfl, h_20, h_21⟩
    · have h_17 : (i2.toInt < 0 ∨ (fk 2).toInt ≤ i2.toInt ∨ 2 ≤ i2.toInt) := h_17
      refine lv_astoreN (lv' := [(4, .null), (3, .ref l0), (0, .ref xo), (1, .int i1), (2, .int i2)]) hx hb dX11_fit_17 hl (by decide) rfl (fun ls hl => ?_)
      refine lv_aload_n hx hb dX11_fit_19 rfl (lv_at hl 1 rfl) ?_
      refine lv_ifnull hx hb dX11_fit_20 ?_
      refine lv_aloadN hx hb dX11_fit_23 (lv_at hl 0 rfl) ?_
      refine lv_ifnonnullN hx hb dX11_fit_25 ?_
      refine lv_iconst (v := 0) hx hb dX11_fit_28 (by decide) ?_
      have G := G.sub (bs' := [[(xo, .inr (10, [.ref t, .ref im, .ref mk, .ref rd, .ref po, .ref co, .ref tr, .ref wa, .ref wb_, .ref fi, .ref cd]))], wt, z0_, z1_, wg0_, wg1_, wwA, wwB, wff]) [0, 8, 1, 2, 3, 4, 5, 6, 7] rfl
      exact z_zret C hr hlocks G (by omega) (by omega) dX11_fit_29 rfl ⟨laA, mdA, wyA, pc_A, f1A, f2A, f3A, f4A, f5A, f6A, n4A, wwA, laB, mdB, wyB, pc_B, f1B, f2B, f3B, f4B, f5B, f6B, n4B, wwB, e0f, e1f, e2f, e3f, e4f, e5f, r1f, m1f, r2f, wff, rfl, hwwA, hmdA, hwmA, (zNA_n (by omega)).symm, hpwA, (fun q => q), hwwB, hmdB, hwmB, (zNA_n (by omega)).symm, hpwB, (fun q => q), hwff, (((zNF_n (c := (i1.toInt = 1 ∧ 1 < (fk 0).toInt ∧ (0 ≤ i2.toInt ∧ i2.toInt < (fk 2).toInt ∧ i2.toInt < 2) ∧ (e0f.toInt = 0 ∨ ¬ e1f.toInt = i1.toInt ∨ ¬ e2f.toInt = i2.toInt))) (by omega)).trans (zNF_n (by omega))).symm), hfw, hf3, (Or.inl ⟨rfl, by omega⟩), hFI⟩
    · have h_18 : i2.toInt = 0 := h_18
      have h_19 : 0 < (fk 2).toInt := h_19
      refine lv_astore (lv' := [(4, .ref g0), (3, .ref l0), (0, .ref xo), (1, .int i1), (2, .int i2)]) hx hb dX11_fit_17 hl (by decide) rfl (fun ls hl => ?_)
      refine lv_aload_n hx hb dX11_fit_19 rfl (lv_at hl 1 rfl) ?_
      refine lv_ifnull hx hb dX11_fit_20 ?_
      refine lv_aload hx hb dX11_fit_23 (lv_at hl 0 rfl) ?_
      refine lv_ifnonnull (tgt := 30) hx hb dX11_fit_25 (by decide) ?_
      refine lv_aload_n hx hb dX11_fit_30 rfl (lv_at hl 2 rfl) ?_
      refine z_get C G clX11 0 rfl 9 (by decide) m_fl_RX11_65 rfl dX11_fit_31 ?_
      refine zEx2 hwff ?_
      intro a1_22 a2_23 hbs9
      clear hwff
      subst hbs9
      have G : zS T A s.heap s [[(xo, .inr (10, [.ref t, .ref im, .ref mk, .ref rd, .ref po, .ref co, .ref tr, .ref wa, .ref wb_, .ref fi, .ref cd]))], z0_, z1_, wg0_, wg1_, wwA, wwB, [(fi, .inr (3, [.int e0f, .int e1f, .int e2f, .int e3f, .int e4f, .int e5f, .ref a1_22, .ref a2_23]))], [(a1_22, .inl (T.2 0, m1f, .inl r1f))], [(a2_23, .inl (T.2 0, 7, .inl r2f))], wt] _ _ := G.re rfl
      refine z_get C G clX3 7 rfl 0 (by decide) m_fl_RX11_109 rfl dX11_fit_34 ?_
      refine lv_if_eq (tgt := 62) hx hb dX11_fit_37 (by decide) (fun c_24 => ?_) (fun c_24 => ?_)
      · have c_24n : e0f.toInt = (0 : Int) := (fa_eq _ _).mp c_24
        refine lv_aload_n hx hb dX11_fit_62 rfl (lv_at hl 2 rfl) ?_
        refine z_get C G clX11 0 rfl 9 (by decide) m_fl_RX11_65 rfl dX11_fit_63 ?_
        refine lv_aload_n hx hb dX11_fit_66 rfl (lv_at hl 2 rfl) ?_
        refine lv_iload_n hx hb dX11_fit_67 rfl (lv_at hl 3 rfl) ?_
        refine lv_aload_n hx hb dX11_fit_68 rfl (lv_at hl 1 rfl) ?_
        have hcF : (i1.toInt = 0 ∧ 0 < (fk 0).toInt ∧ (0 ≤ i2.toInt ∧ i2.toInt < (fk 2).toInt ∧ i2.toInt < 2) ∧ (e0f.toInt = 0 ∨ ¬ e1f.toInt = i1.toInt ∨ ¬ e2f.toInt = i2.toInt)) := by omega
        have hcN : ¬ (i1.toInt = 1 ∧ 1 < (fk 0).toInt ∧ (0 ≤ i2.toInt ∧ i2.toInt < (fk 2).toInt ∧ i2.toInt < 2) ∧ (e0f.toInt = 0 ∨ ¬ e1f.toInt = i1.toInt ∨ ¬ e2f.toInt = i2.toInt)) := by omega
        have hNAm : zNA (i1.toInt = 0 ∧ 0 < (fk 0).toInt ∧ (0 ≤ i2.toInt ∧ i2.toInt < (fk 2).toInt ∧ i2.toInt < 2) ∧ (e0f.toInt = 0 ∨ ¬ e1f.toInt = i1.toInt ∨ ¬ e2f.toInt = i2.toInt)) mdA n4A (zPl cr0_ inn0_ k10_) = zMk mdA n4A (zPl cr0_ inn0_ k10_) := zNA_y hcF
        have hNAo : zNA (i1.toInt = 1 ∧ 1 < (fk 0).toInt ∧ (0 ≤ i2.toInt ∧ i2.toInt < (fk 2).toInt ∧ i2.toInt < 2) ∧ (e0f.toInt = 0 ∨ ¬ e1f.toInt = i1.toInt ∨ ¬ e2f.toInt = i2.toInt)) mdB n4B (zPl cr1_ inn1_ k11_) = n4B := zNA_n hcN
        have hn9 : zMk mdA n4A (zPl cr0_ inn0_ k10_) ≤ 131072 := zPw_le (zMk_pw hpwA)
        refine z_Vq (bc := [[(xo, .inr (10, [.ref t, .ref im, .ref mk, .ref rd, .ref po, .ref co, .ref tr, .ref wa, .ref wb_, .ref fi, .ref cd]))], wwA, z0_]) (br := [z1_, wg0_, wg1_, wwB, [(fi, .inr (3, [.int e0f, .int e1f, .int e2f, .int e3f, .int e4f, .int e5f, .ref a1_22, .ref a2_23]))], [(a1_22, .inl (T.2 0, m1f, .inl r1f))], [(a2_23, .inl (T.2 0, 7, .inl r2f))], wt]) (As := [.int i1, .ref l0]) (rest := [.ref fi]) C G (c_waysInA l T xo t im mk rd po co tr wa wb_ fi cd i1 laA mdA wyA pc_A f1A f2A f3A f4A f5A f6A n4A wwA l0 cr0_ inn0_ k10_ k20_ k30_ k40_ z0_ hwwA hz0_ hI0_ hpwA hmdA hwmA (by omega)) (kV_RX11_235 C.2.2.2.2 (Nat.le_of_ble_eq_true rfl) (Nat.le_of_ble_eq_true rfl)) [0, 5, 1] [2, 3, 4, 6, 7, 8, 9, 10] rfl rfl (ci := 10) (qc := (RX11, TX11, 11)) rfl rfl (List.mem_flatten.mpr ⟨_, List.mem_of_getElem? (i := 0) rfl, List.mem_cons_self⟩) rfl rfl hl.1 dX11_fit_69 (by show _ + 3 ≤ 4; omega) (by show _ + (6 * (zMk mdA n4A (zPl cr0_ inn0_ k10_) - n4A)) ≤ 6 * (zNA (i1.toInt = 0 ∧ 0 < (fk 0).toInt ∧ (0 ≤ i2.toInt ∧ i2.toInt < (fk 2).toInt ∧ i2.toInt < 2) ∧ (e0f.toInt = 0 ∨ ¬ e1f.toInt = i1.toInt ∨ ¬ e2f.toInt = i2.toInt)) mdA n4A (zPl cr0_ inn0_ k10_) - n4A) + 6 * (zNA (i1.toInt = 1 ∧ 1 < (fk 0).toInt ∧ (0 ≤ i2.toInt ∧ i2.toInt < (fk 2).toInt ∧ i2.toInt < 2) ∧ (e0f.toInt = 0 ∨ ¬ e1f.toInt = i1.toInt ∨ ¬ e2f.toInt = i2.toInt)) mdB n4B (zPl cr1_ inn1_ k11_) - n4B) + 2 * (zNF (i1.toInt = 1 ∧ 1 < (fk 0).toInt ∧ (0 ≤ i2.toInt ∧ i2.toInt < (fk 2).toInt ∧ i2.toInt < 2) ∧ (e0f.toInt = 0 ∨ ¬ e1f.toInt = i1.toInt ∨ ¬ e2f.toInt = i2.toInt)) (zNF (i1.toInt = 0 ∧ 0 < (fk 0).toInt ∧ (0 ≤ i2.toInt ∧ i2.toInt < (fk 2).toInt ∧ i2.toInt < 2) ∧ (e0f.toInt = 0 ∨ ¬ e1f.toInt = i1.toInt ∨ ¬ e2f.toInt = i2.toInt)) m1f (zMw mdA wyA cr0_ inn0_ k10_)) (zMw mdB wyB cr1_ inn1_ k11_) - m1f); omega) (fun r_39 b1 H locs hw G => ?_)
        refine zEx9 hw ?_
        intro w2_25 m2_26 wy2_27 pc2_28 g1_29 g2_30 g4_31 g5_32 g6_33
        refine zCu6 ?_
        intro hbs9 h_34 h_35 h_36 h_37 h_38
        clear hw
        subst hbs9
        have G : zS T A s.heap s [z1_, wg0_, wg1_, wwB, [(fi, .inr (3, [.int e0f, .int e1f, .int e2f, .int e3f, .int e4f, .int e5f, .ref a1_22, .ref a2_23]))], [(a1_22, .inl (T.2 0, m1f, .inl r1f))], [(a2_23, .inl (T.2 0, 7, .inl r2f))], wt, [(xo, .inr (10, [.ref t, .ref im, .ref mk, .ref rd, .ref po, .ref co, .ref tr, .ref wa, .ref wb_, .ref fi, .ref cd]))], w2_25, z0_] _ _ := G
        subst h_34
        have hwy9 := h_36
        have hNF : zNF (i1.toInt = 1 ∧ 1 < (fk 0).toInt ∧ (0 ≤ i2.toInt ∧ i2.toInt < (fk 2).toInt ∧ i2.toInt < 2) ∧ (e0f.toInt = 0 ∨ ¬ e1f.toInt = i1.toInt ∨ ¬ e2f.toInt = i2.toInt)) (zNF (i1.toInt = 0 ∧ 0 < (fk 0).toInt ∧ (0 ≤ i2.toInt ∧ i2.toInt < (fk 2).toInt ∧ i2.toInt < 2) ∧ (e0f.toInt = 0 ∨ ¬ e1f.toInt = i1.toInt ∨ ¬ e2f.toInt = i2.toInt)) m1f (zMw mdA wyA cr0_ inn0_ k10_)) (zMw mdB wyB cr1_ inn1_ k11_) = zFl m1f wy2_27 := by rw [zNF_n (c := (i1.toInt = 1 ∧ 1 < (fk 0).toInt ∧ (0 ≤ i2.toInt ∧ i2.toInt < (fk 2).toInt ∧ i2.toInt < 2) ∧ (e0f.toInt = 0 ∨ ¬ e1f.toInt = i1.toInt ∨ ¬ e2f.toInt = i2.toInt))) hcN, zNF_y hcF, h_37]
        have hfw9 := zFl_pw (wy := wy2_27) hfw
        refine lv_aload hx hb dX11_fit_72 (lv_at hl 0 rfl) ?_
        have hw_40 : bFit T fi e0f e1f e2f e3f e4f e5f r1f m1f r2f [(fi, .inr (3, [.int e0f, .int e1f, .int e2f, .int e3f, .int e4f, .int e5f, .ref a1_22, .ref a2_23])), (a1_22, .inl (T.2 0, m1f, .inl r1f)), (a2_23, .inl (T.2 0, 7, .inl r2f))] := ⟨a1_22, a2_23, rfl⟩
        have G : zS T A s.heap s [z1_, wg0_, wg1_, wwB, [(fi, .inr (3, [.int e0f, .int e1f, .int e2f, .int e3f, .int e4f, .int e5f, .ref a1_22, .ref a2_23])), (a1_22, .inl (T.2 0, m1f, .inl r1f)), (a2_23, .inl (T.2 0, 7, .inl r2f))], wt, [(xo, .inr (10, [.ref t, .ref im, .ref mk, .ref rd, .ref po, .ref co, .ref tr, .ref wa, .ref wb_, .ref fi, .ref cd]))], w2_25, z0_] _ _ := G.re rfl
        refine z_Vv (bc := [[(fi, .inr (3, [.int e0f, .int e1f, .int e2f, .int e3f, .int e4f, .int e5f, .ref a1_22, .ref a2_23])), (a1_22, .inl (T.2 0, m1f, .inl r1f)), (a2_23, .inl (T.2 0, 7, .inl r2f))], w2_25, z0_, wg0_]) (br := [z1_, wg1_, wwB, wt, [(xo, .inr (10, [.ref t, .ref im, .ref mk, .ref rd, .ref po, .ref co, .ref tr, .ref wa, .ref wb_, .ref fi, .ref cd]))]]) (As := [.ref wa, .ref g0]) (rest := []) C G (c_find l T fi e0f e1f e2f e3f e4f e5f r1f m1f r2f ([(fi, .inr (3, [.int e0f, .int e1f, .int e2f, .int e3f, .int e4f, .int e5f, .ref a1_22, .ref a2_23])), (a1_22, .inl (T.2 0, m1f, .inl r1f)), (a2_23, .inl (T.2 0, 7, .inl r2f))]) wa l0 m2_26 wy2_27 pc2_28 g1_29 g2_30 f3A g4_31 g5_32 g6_33 (zMk mdA n4A (zPl cr0_ inn0_ k10_)) w2_25 cr0_ inn0_ k10_ k20_ k30_ k40_ z0_ g0 gg0_ q10_ q20_ wg0_ hw_40 h_35 hz0_ hg0_ hn9 hfw hwy9) (kV_RX11_298 C.2.2.2.2 (Nat.le_of_ble_eq_true rfl) (Nat.le_of_ble_eq_true rfl)) [4, 7, 8, 1] [0, 2, 3, 5, 6] rfl rfl (ci := 3) (qc := (RX3, TX3, 8)) rfl rfl (List.mem_flatten.mpr ⟨_, List.mem_of_getElem? (i := 0) rfl, (bFit_mem hw_40).choose_spec⟩) rfl rfl hl.1 dX11_fit_74 (by show _ + 1 ≤ 4; omega) (by show _ + (2 * (zFl m1f wy2_27 - m1f)) ≤ 6 * (zNA (i1.toInt = 0 ∧ 0 < (fk 0).toInt ∧ (0 ≤ i2.toInt ∧ i2.toInt < (fk 2).toInt ∧ i2.toInt < 2) ∧ (e0f.toInt = 0 ∨ ¬ e1f.toInt = i1.toInt ∨ ¬ e2f.toInt = i2.toInt)) mdA n4A (zPl cr0_ inn0_ k10_) - n4A) + 6 * (zNA (i1.toInt = 1 ∧ 1 < (fk 0).toInt ∧ (0 ≤ i2.toInt ∧ i2.toInt < (fk 2).toInt ∧ i2.toInt < 2) ∧ (e0f.toInt = 0 ∨ ¬ e1f.toInt = i1.toInt ∨ ¬ e2f.toInt = i2.toInt)) mdB n4B (zPl cr1_ inn1_ k11_) - n4B) + 2 * (zNF (i1.toInt = 1 ∧ 1 < (fk 0).toInt ∧ (0 ≤ i2.toInt ∧ i2.toInt < (fk 2).toInt ∧ i2.toInt < 2) ∧ (e0f.toInt = 0 ∨ ¬ e1f.toInt = i1.toInt ∨ ¬ e2f.toInt = i2.toInt)) (zNF (i1.toInt = 0 ∧ 0 < (fk 0).toInt ∧ (0 ≤ i2.toInt ∧ i2.toInt < (fk 2).toInt ∧ i2.toInt < 2) ∧ (e0f.toInt = 0 ∨ ¬ e1f.toInt = i1.toInt ∨ ¬ e2f.toInt = i2.toInt)) m1f (zMw mdA wyA cr0_ inn0_ k10_)) (zMw mdB wyB cr1_ inn1_ k11_) - m1f); omega) (fun b1 H locs hw G => ?_)
        refine zEx5 hw ?_
        intro w2_41 s3_42 s4_43 s5_44 g1_45
        refine zCu3 ?_
        intro hbs9 h_46 h_47
        clear hw
        subst hbs9
        have G : zS T A s.heap s [z1_, wg1_, wwB, wt, [(xo, .inr (10, [.ref t, .ref im, .ref mk, .ref rd, .ref po, .ref co, .ref tr, .ref wa, .ref wb_, .ref fi, .ref cd]))], w2_41, w2_25, z0_, wg0_] _ _ := G
        have h39 := h_47
        refine lv_aload_n hx hb dX11_fit_77 rfl (lv_at hl 2 rfl) ?_
        refine z_get C G clX11 4 rfl 9 (by decide) m_fl_RX11_65 rfl dX11_fit_78 ?_
        refine lv_iload_n hx hb dX11_fit_81 rfl (lv_at hl 3 rfl) ?_
        refine zEx2 h_46 ?_
        intro a1_49 a2_50 hbs9
        clear h_46
        subst hbs9
        have G : zS T A s.heap s [z1_, wg1_, wwB, wt, [(xo, .inr (10, [.ref t, .ref im, .ref mk, .ref rd, .ref po, .ref co, .ref tr, .ref wa, .ref wb_, .ref fi, .ref cd]))], [(fi, .inr (3, [.int e0f, .int e1f, .int e2f, .int s3_42, .int s4_43, .int s5_44, .ref a1_49, .ref a2_50]))], [(a1_49, .inl (T.2 0, zFl m1f wy2_27, .inl g1_45))], [(a2_50, .inl (T.2 0, 7, .inl r2f))], w2_25, z0_, wg0_] _ _ := G.re rfl
        refine z_put C G clX3 5 rfl 1 (by decide) m_fl_RX11_292 rfl rfl rfl (Nat.le_of_ble_eq_true rfl) dX11_fit_82 (fun H locs G => ?_)
        have G : zS T A s.heap s [z1_, wg1_, wwB, wt, [(xo, .inr (10, [.ref t, .ref im, .ref mk, .ref rd, .ref po, .ref co, .ref tr, .ref wa, .ref wb_, .ref fi, .ref cd]))], [(fi, .inr (3, [.int e0f, .int i1, .int e2f, .int s3_42, .int s4_43, .int s5_44, .ref a1_49, .ref a2_50]))], [(a1_49, .inl (T.2 0, zFl m1f wy2_27, .inl g1_45))], [(a2_50, .inl (T.2 0, 7, .inl r2f))], w2_25, z0_, wg0_] _ _ := G
        refine lv_aload_n hx hb dX11_fit_85 rfl (lv_at hl 2 rfl) ?_
        refine z_get C G clX11 4 rfl 9 (by decide) m_fl_RX11_65 rfl dX11_fit_86 ?_
        refine lv_iload_n hx hb dX11_fit_89 rfl (lv_at hl 4 rfl) ?_
        refine z_put C G clX3 5 rfl 2 (by decide) m_fl_RX11_295 rfl rfl rfl (Nat.le_of_ble_eq_true rfl) dX11_fit_90 (fun H locs G => ?_)
        have G : zS T A s.heap s [z1_, wg1_, wwB, wt, [(xo, .inr (10, [.ref t, .ref im, .ref mk, .ref rd, .ref po, .ref co, .ref tr, .ref wa, .ref wb_, .ref fi, .ref cd]))], [(fi, .inr (3, [.int e0f, .int i1, .int i2, .int s3_42, .int s4_43, .int s5_44, .ref a1_49, .ref a2_50]))], [(a1_49, .inl (T.2 0, zFl m1f wy2_27, .inl g1_45))], [(a2_50, .inl (T.2 0, 7, .inl r2f))], w2_25, z0_, wg0_] _ _ := G
        refine lv_aload_n hx hb dX11_fit_93 rfl (lv_at hl 2 rfl) ?_
        refine z_get C G clX11 4 rfl 9 (by decide) m_fl_RX11_65 rfl dX11_fit_94 ?_
        refine lv_iconst (v := 1) hx hb dX11_fit_97 (by decide) ?_
        refine z_put C G clX3 5 rfl 0 (by decide) m_fl_RX11_109 rfl rfl rfl (Nat.le_of_ble_eq_true rfl) dX11_fit_98 (fun H locs G => ?_)
        have G : zS T A s.heap s [z1_, wg1_, wwB, wt, [(xo, .inr (10, [.ref t, .ref im, .ref mk, .ref rd, .ref po, .ref co, .ref tr, .ref wa, .ref wb_, .ref fi, .ref cd]))], [(fi, .inr (3, [.int 1, .int i1, .int i2, .int s3_42, .int s4_43, .int s5_44, .ref a1_49, .ref a2_50]))], [(a1_49, .inl (T.2 0, zFl m1f wy2_27, .inl g1_45))], [(a2_50, .inl (T.2 0, 7, .inl r2f))], w2_25, z0_, wg0_] _ _ := G
        refine lv_iconst (v := 1) hx hb dX11_fit_101 (by decide) ?_
        have hw_51 : bFit T fi 1 i1 i2 s3_42 s4_43 s5_44 g1_45 (zFl m1f wy2_27) r2f [(fi, .inr (3, [.int 1, .int i1, .int i2, .int s3_42, .int s4_43, .int s5_44, .ref a1_49, .ref a2_50])), (a1_49, .inl (T.2 0, zFl m1f wy2_27, .inl g1_45)), (a2_50, .inl (T.2 0, 7, .inl r2f))] := ⟨a1_49, a2_50, rfl⟩
        have G : zS T A s.heap s [z1_, wg1_, wwB, wt, [(xo, .inr (10, [.ref t, .ref im, .ref mk, .ref rd, .ref po, .ref co, .ref tr, .ref wa, .ref wb_, .ref fi, .ref cd]))], [(fi, .inr (3, [.int 1, .int i1, .int i2, .int s3_42, .int s4_43, .int s5_44, .ref a1_49, .ref a2_50])), (a1_49, .inl (T.2 0, zFl m1f wy2_27, .inl g1_45)), (a2_50, .inl (T.2 0, 7, .inl r2f))], w2_25, z0_, wg0_] _ _ := G.re rfl
        have G := G.sub (bs' := [[(xo, .inr (10, [.ref t, .ref im, .ref mk, .ref rd, .ref po, .ref co, .ref tr, .ref wa, .ref wb_, .ref fi, .ref cd]))], wt, z0_, z1_, wg0_, wg1_, w2_25, wwB, [(fi, .inr (3, [.int 1, .int i1, .int i2, .int s3_42, .int s4_43, .int s5_44, .ref a1_49, .ref a2_50])), (a1_49, .inl (T.2 0, zFl m1f wy2_27, .inl g1_45)), (a2_50, .inl (T.2 0, 7, .inl r2f))]]) [4, 3, 7, 0, 8, 1, 6, 2, 5] rfl
        exact z_zret C hr hlocks G (by omega) (by omega) dX11_fit_102 rfl ⟨l0, m2_26, wy2_27, pc2_28, g1_29, g2_30, f3A, g4_31, g5_32, g6_33, (zMk mdA n4A (zPl cr0_ inn0_ k10_)), w2_25, laB, mdB, wyB, pc_B, f1B, f2B, f3B, f4B, f5B, f6B, n4B, wwB, 1, i1, i2, s3_42, s4_43, s5_44, g1_45, (zFl m1f wy2_27), r2f, ([(fi, .inr (3, [.int 1, .int i1, .int i2, .int s3_42, .int s4_43, .int s5_44, .ref a1_49, .ref a2_50])), (a1_49, .inl (T.2 0, zFl m1f wy2_27, .inl g1_45)), (a2_50, .inl (T.2 0, 7, .inl r2f))]), rfl, h_35, (Or.inr rfl), hwy9, hNAm.symm, (zMk_pw hpwA), (fun _ => h_38), hwwB, hmdB, hwmB, (zNA_n (by omega)).symm, hpwB, (fun q => q), hw_51, hNF.symm, hfw9, h39, (Or.inr ⟨rfl, by omega, by decide, rfl⟩), (fun _ => Or.inl ⟨by omega, h_38⟩)⟩
      · have c_24n : ¬ e0f.toInt = (0 : Int) := fun q => c_24 ((fa_eq _ _).mpr q)
        refine lv_aload_n hx hb dX11_fit_40 rfl (lv_at hl 2 rfl) ?_
        refine z_get C G clX11 0 rfl 9 (by decide) m_fl_RX11_65 rfl dX11_fit_41 ?_
        refine z_get C G clX3 7 rfl 1 (by decide) m_fl_RX11_292 rfl dX11_fit_44 ?_
        refine lv_iload_n hx hb dX11_fit_47 rfl (lv_at hl 3 rfl) ?_
        refine lv_icmp_ne (tgt := 62) hx hb dX11_fit_48 (by decide) (fun c_52 => ?_) (fun c_52 => ?_)
        · have c_52n : ¬ e1f.toInt = i1.toInt := fun q => c_52 ((fa_eq _ _).mpr q)
          refine lv_aload_n hx hb dX11_fit_62 rfl (lv_at hl 2 rfl) ?_
          refine z_get C G clX11 0 rfl 9 (by decide) m_fl_RX11_65 rfl dX11_fit_63 ?_
          refine lv_aload_n hx hb dX11_fit_66 rfl (lv_at hl 2 rfl) ?_
          refine lv_iload_n hx hb dX11_fit_67 rfl (lv_at hl 3 rfl) ?_
          refine lv_aload_n hx hb dX11_fit_68 rfl (lv_at hl 1 rfl) ?_
          have hcF : (i1.toInt = 0 ∧ 0 < (fk 0).toInt ∧ (0 ≤ i2.toInt ∧ i2.toInt < (fk 2).toInt ∧ i2.toInt < 2) ∧ (e0f.toInt = 0 ∨ ¬ e1f.toInt = i1.toInt ∨ ¬ e2f.toInt = i2.toInt)) := by omega
          have hcN : ¬ (i1.toInt = 1 ∧ 1 < (fk 0).toInt ∧ (0 ≤ i2.toInt ∧ i2.toInt < (fk 2).toInt ∧ i2.toInt < 2) ∧ (e0f.toInt = 0 ∨ ¬ e1f.toInt = i1.toInt ∨ ¬ e2f.toInt = i2.toInt)) := by omega
          have hNAm : zNA (i1.toInt = 0 ∧ 0 < (fk 0).toInt ∧ (0 ≤ i2.toInt ∧ i2.toInt < (fk 2).toInt ∧ i2.toInt < 2) ∧ (e0f.toInt = 0 ∨ ¬ e1f.toInt = i1.toInt ∨ ¬ e2f.toInt = i2.toInt)) mdA n4A (zPl cr0_ inn0_ k10_) = zMk mdA n4A (zPl cr0_ inn0_ k10_) := zNA_y hcF
          have hNAo : zNA (i1.toInt = 1 ∧ 1 < (fk 0).toInt ∧ (0 ≤ i2.toInt ∧ i2.toInt < (fk 2).toInt ∧ i2.toInt < 2) ∧ (e0f.toInt = 0 ∨ ¬ e1f.toInt = i1.toInt ∨ ¬ e2f.toInt = i2.toInt)) mdB n4B (zPl cr1_ inn1_ k11_) = n4B := zNA_n hcN
          have hn9 : zMk mdA n4A (zPl cr0_ inn0_ k10_) ≤ 131072 := zPw_le (zMk_pw hpwA)
          refine z_Vq (bc := [[(xo, .inr (10, [.ref t, .ref im, .ref mk, .ref rd, .ref po, .ref co, .ref tr, .ref wa, .ref wb_, .ref fi, .ref cd]))], wwA, z0_]) (br := [z1_, wg0_, wg1_, wwB, [(fi, .inr (3, [.int e0f, .int e1f, .int e2f, .int e3f, .int e4f, .int e5f, .ref a1_22, .ref a2_23]))], [(a1_22, .inl (T.2 0, m1f, .inl r1f))], [(a2_23, .inl (T.2 0, 7, .inl r2f))], wt]) (As := [.int i1, .ref l0]) (rest := [.ref fi]) C G (c_waysInA l T xo t im mk rd po co tr wa wb_ fi cd i1 laA mdA wyA pc_A f1A f2A f3A f4A f5A f6A n4A wwA l0 cr0_ inn0_ k10_ k20_ k30_ k40_ z0_ hwwA hz0_ hI0_ hpwA hmdA hwmA (by omega)) (kV_RX11_235 C.2.2.2.2 (Nat.le_of_ble_eq_true rfl) (Nat.le_of_ble_eq_true rfl)) [0, 5, 1] [2, 3, 4, 6, 7, 8, 9, 10] rfl rfl (ci := 10) (qc := (RX11, TX11, 11)) rfl rfl (List.mem_flatten.mpr ⟨_, List.mem_of_getElem? (i := 0) rfl, List.mem_cons_self⟩) rfl rfl hl.1 dX11_fit_69 (by show _ + 3 ≤ 4; omega) (by show _ + (6 * (zMk mdA n4A (zPl cr0_ inn0_ k10_) - n4A)) ≤ 6 * (zNA (i1.toInt = 0 ∧ 0 < (fk 0).toInt ∧ (0 ≤ i2.toInt ∧ i2.toInt < (fk 2).toInt ∧ i2.toInt < 2) ∧ (e0f.toInt = 0 ∨ ¬ e1f.toInt = i1.toInt ∨ ¬ e2f.toInt = i2.toInt)) mdA n4A (zPl cr0_ inn0_ k10_) - n4A) + 6 * (zNA (i1.toInt = 1 ∧ 1 < (fk 0).toInt ∧ (0 ≤ i2.toInt ∧ i2.toInt < (fk 2).toInt ∧ i2.toInt < 2) ∧ (e0f.toInt = 0 ∨ ¬ e1f.toInt = i1.toInt ∨ ¬ e2f.toInt = i2.toInt)) mdB n4B (zPl cr1_ inn1_ k11_) - n4B) + 2 * (zNF (i1.toInt = 1 ∧ 1 < (fk 0).toInt ∧ (0 ≤ i2.toInt ∧ i2.toInt < (fk 2).toInt ∧ i2.toInt < 2) ∧ (e0f.toInt = 0 ∨ ¬ e1f.toInt = i1.toInt ∨ ¬ e2f.toInt = i2.toInt)) (zNF (i1.toInt = 0 ∧ 0 < (fk 0).toInt ∧ (0 ≤ i2.toInt ∧ i2.toInt < (fk 2).toInt ∧ i2.toInt < 2) ∧ (e0f.toInt = 0 ∨ ¬ e1f.toInt = i1.toInt ∨ ¬ e2f.toInt = i2.toInt)) m1f (zMw mdA wyA cr0_ inn0_ k10_)) (zMw mdB wyB cr1_ inn1_ k11_) - m1f); omega) (fun r_67 b1 H locs hw G => ?_)
          refine zEx9 hw ?_
          intro w2_53 m2_54 wy2_55 pc2_56 g1_57 g2_58 g4_59 g5_60 g6_61
          refine zCu6 ?_
          intro hbs9 h_62 h_63 h_64 h_65 h_66
          clear hw
          subst hbs9
          have G : zS T A s.heap s [z1_, wg0_, wg1_, wwB, [(fi, .inr (3, [.int e0f, .int e1f, .int e2f, .int e3f, .int e4f, .int e5f, .ref a1_22, .ref a2_23]))], [(a1_22, .inl (T.2 0, m1f, .inl r1f))], [(a2_23, .inl (T.2 0, 7, .inl r2f))], wt, [(xo, .inr (10, [.ref t, .ref im, .ref mk, .ref rd, .ref po, .ref co, .ref tr, .ref wa, .ref wb_, .ref fi, .ref cd]))], w2_53, z0_] _ _ := G
          subst h_62
          have hwy9 := h_64
          have hNF : zNF (i1.toInt = 1 ∧ 1 < (fk 0).toInt ∧ (0 ≤ i2.toInt ∧ i2.toInt < (fk 2).toInt ∧ i2.toInt < 2) ∧ (e0f.toInt = 0 ∨ ¬ e1f.toInt = i1.toInt ∨ ¬ e2f.toInt = i2.toInt)) (zNF (i1.toInt = 0 ∧ 0 < (fk 0).toInt ∧ (0 ≤ i2.toInt ∧ i2.toInt < (fk 2).toInt ∧ i2.toInt < 2) ∧ (e0f.toInt = 0 ∨ ¬ e1f.toInt = i1.toInt ∨ ¬ e2f.toInt = i2.toInt)) m1f (zMw mdA wyA cr0_ inn0_ k10_)) (zMw mdB wyB cr1_ inn1_ k11_) = zFl m1f wy2_55 := by rw [zNF_n (c := (i1.toInt = 1 ∧ 1 < (fk 0).toInt ∧ (0 ≤ i2.toInt ∧ i2.toInt < (fk 2).toInt ∧ i2.toInt < 2) ∧ (e0f.toInt = 0 ∨ ¬ e1f.toInt = i1.toInt ∨ ¬ e2f.toInt = i2.toInt))) hcN, zNF_y hcF, h_65]
          have hfw9 := zFl_pw (wy := wy2_55) hfw
          refine lv_aload hx hb dX11_fit_72 (lv_at hl 0 rfl) ?_
          have hw_68 : bFit T fi e0f e1f e2f e3f e4f e5f r1f m1f r2f [(fi, .inr (3, [.int e0f, .int e1f, .int e2f, .int e3f, .int e4f, .int e5f, .ref a1_22, .ref a2_23])), (a1_22, .inl (T.2 0, m1f, .inl r1f)), (a2_23, .inl (T.2 0, 7, .inl r2f))] := ⟨a1_22, a2_23, rfl⟩
          have G : zS T A s.heap s [z1_, wg0_, wg1_, wwB, [(fi, .inr (3, [.int e0f, .int e1f, .int e2f, .int e3f, .int e4f, .int e5f, .ref a1_22, .ref a2_23])), (a1_22, .inl (T.2 0, m1f, .inl r1f)), (a2_23, .inl (T.2 0, 7, .inl r2f))], wt, [(xo, .inr (10, [.ref t, .ref im, .ref mk, .ref rd, .ref po, .ref co, .ref tr, .ref wa, .ref wb_, .ref fi, .ref cd]))], w2_53, z0_] _ _ := G.re rfl
          refine z_Vv (bc := [[(fi, .inr (3, [.int e0f, .int e1f, .int e2f, .int e3f, .int e4f, .int e5f, .ref a1_22, .ref a2_23])), (a1_22, .inl (T.2 0, m1f, .inl r1f)), (a2_23, .inl (T.2 0, 7, .inl r2f))], w2_53, z0_, wg0_]) (br := [z1_, wg1_, wwB, wt, [(xo, .inr (10, [.ref t, .ref im, .ref mk, .ref rd, .ref po, .ref co, .ref tr, .ref wa, .ref wb_, .ref fi, .ref cd]))]]) (As := [.ref wa, .ref g0]) (rest := []) C G (c_find l T fi e0f e1f e2f e3f e4f e5f r1f m1f r2f ([(fi, .inr (3, [.int e0f, .int e1f, .int e2f, .int e3f, .int e4f, .int e5f, .ref a1_22, .ref a2_23])), (a1_22, .inl (T.2 0, m1f, .inl r1f)), (a2_23, .inl (T.2 0, 7, .inl r2f))]) wa l0 m2_54 wy2_55 pc2_56 g1_57 g2_58 f3A g4_59 g5_60 g6_61 (zMk mdA n4A (zPl cr0_ inn0_ k10_)) w2_53 cr0_ inn0_ k10_ k20_ k30_ k40_ z0_ g0 gg0_ q10_ q20_ wg0_ hw_68 h_63 hz0_ hg0_ hn9 hfw hwy9) (kV_RX11_298 C.2.2.2.2 (Nat.le_of_ble_eq_true rfl) (Nat.le_of_ble_eq_true rfl)) [4, 7, 8, 1] [0, 2, 3, 5, 6] rfl rfl (ci := 3) (qc := (RX3, TX3, 8)) rfl rfl (List.mem_flatten.mpr ⟨_, List.mem_of_getElem? (i := 0) rfl, (bFit_mem hw_68).choose_spec⟩) rfl rfl hl.1 dX11_fit_74 (by show _ + 1 ≤ 4; omega) (by show _ + (2 * (zFl m1f wy2_55 - m1f)) ≤ 6 * (zNA (i1.toInt = 0 ∧ 0 < (fk 0).toInt ∧ (0 ≤ i2.toInt ∧ i2.toInt < (fk 2).toInt ∧ i2.toInt < 2) ∧ (e0f.toInt = 0 ∨ ¬ e1f.toInt = i1.toInt ∨ ¬ e2f.toInt = i2.toInt)) mdA n4A (zPl cr0_ inn0_ k10_) - n4A) + 6 * (zNA (i1.toInt = 1 ∧ 1 < (fk 0).toInt ∧ (0 ≤ i2.toInt ∧ i2.toInt < (fk 2).toInt ∧ i2.toInt < 2) ∧ (e0f.toInt = 0 ∨ ¬ e1f.toInt = i1.toInt ∨ ¬ e2f.toInt = i2.toInt)) mdB n4B (zPl cr1_ inn1_ k11_) - n4B) + 2 * (zNF (i1.toInt = 1 ∧ 1 < (fk 0).toInt ∧ (0 ≤ i2.toInt ∧ i2.toInt < (fk 2).toInt ∧ i2.toInt < 2) ∧ (e0f.toInt = 0 ∨ ¬ e1f.toInt = i1.toInt ∨ ¬ e2f.toInt = i2.toInt)) (zNF (i1.toInt = 0 ∧ 0 < (fk 0).toInt ∧ (0 ≤ i2.toInt ∧ i2.toInt < (fk 2).toInt ∧ i2.toInt < 2) ∧ (e0f.toInt = 0 ∨ ¬ e1f.toInt = i1.toInt ∨ ¬ e2f.toInt = i2.toInt)) m1f (zMw mdA wyA cr0_ inn0_ k10_)) (zMw mdB wyB cr1_ inn1_ k11_) - m1f); omega) (fun b1 H locs hw G => ?_)
          refine zEx5 hw ?_
          intro w2_69 s3_70 s4_71 s5_72 g1_73
          refine zCu3 ?_
          intro hbs9 h_74 h_75
          clear hw
          subst hbs9
          have G : zS T A s.heap s [z1_, wg1_, wwB, wt, [(xo, .inr (10, [.ref t, .ref im, .ref mk, .ref rd, .ref po, .ref co, .ref tr, .ref wa, .ref wb_, .ref fi, .ref cd]))], w2_69, w2_53, z0_, wg0_] _ _ := G
          have h39 := h_75
          refine lv_aload_n hx hb dX11_fit_77 rfl (lv_at hl 2 rfl) ?_
          refine z_get C G clX11 4 rfl 9 (by decide) m_fl_RX11_65 rfl dX11_fit_78 ?_
          refine lv_iload_n hx hb dX11_fit_81 rfl (lv_at hl 3 rfl) ?_
          refine zEx2 h_74 ?_
          intro a1_77 a2_78 hbs9
          clear h_74
          subst hbs9
          have G : zS T A s.heap s [z1_, wg1_, wwB, wt, [(xo, .inr (10, [.ref t, .ref im, .ref mk, .ref rd, .ref po, .ref co, .ref tr, .ref wa, .ref wb_, .ref fi, .ref cd]))], [(fi, .inr (3, [.int e0f, .int e1f, .int e2f, .int s3_70, .int s4_71, .int s5_72, .ref a1_77, .ref a2_78]))], [(a1_77, .inl (T.2 0, zFl m1f wy2_55, .inl g1_73))], [(a2_78, .inl (T.2 0, 7, .inl r2f))], w2_53, z0_, wg0_] _ _ := G.re rfl
          refine z_put C G clX3 5 rfl 1 (by decide) m_fl_RX11_292 rfl rfl rfl (Nat.le_of_ble_eq_true rfl) dX11_fit_82 (fun H locs G => ?_)
          have G : zS T A s.heap s [z1_, wg1_, wwB, wt, [(xo, .inr (10, [.ref t, .ref im, .ref mk, .ref rd, .ref po, .ref co, .ref tr, .ref wa, .ref wb_, .ref fi, .ref cd]))], [(fi, .inr (3, [.int e0f, .int i1, .int e2f, .int s3_70, .int s4_71, .int s5_72, .ref a1_77, .ref a2_78]))], [(a1_77, .inl (T.2 0, zFl m1f wy2_55, .inl g1_73))], [(a2_78, .inl (T.2 0, 7, .inl r2f))], w2_53, z0_, wg0_] _ _ := G
          refine lv_aload_n hx hb dX11_fit_85 rfl (lv_at hl 2 rfl) ?_
          refine z_get C G clX11 4 rfl 9 (by decide) m_fl_RX11_65 rfl dX11_fit_86 ?_
          refine lv_iload_n hx hb dX11_fit_89 rfl (lv_at hl 4 rfl) ?_
          refine z_put C G clX3 5 rfl 2 (by decide) m_fl_RX11_295 rfl rfl rfl (Nat.le_of_ble_eq_true rfl) dX11_fit_90 (fun H locs G => ?_)
          have G : zS T A s.heap s [z1_, wg1_, wwB, wt, [(xo, .inr (10, [.ref t, .ref im, .ref mk, .ref rd, .ref po, .ref co, .ref tr, .ref wa, .ref wb_, .ref fi, .ref cd]))], [(fi, .inr (3, [.int e0f, .int i1, .int i2, .int s3_70, .int s4_71, .int s5_72, .ref a1_77, .ref a2_78]))], [(a1_77, .inl (T.2 0, zFl m1f wy2_55, .inl g1_73))], [(a2_78, .inl (T.2 0, 7, .inl r2f))], w2_53, z0_, wg0_] _ _ := G
          refine lv_aload_n hx hb dX11_fit_93 rfl (lv_at hl 2 rfl) ?_
          refine z_get C G clX11 4 rfl 9 (by decide) m_fl_RX11_65 rfl dX11_fit_94 ?_
          refine lv_iconst (v := 1) hx hb dX11_fit_97 (by decide) ?_
          refine z_put C G clX3 5 rfl 0 (by decide) m_fl_RX11_109 rfl rfl rfl (Nat.le_of_ble_eq_true rfl) dX11_fit_98 (fun H locs G => ?_)
          have G : zS T A s.heap s [z1_, wg1_, wwB, wt, [(xo, .inr (10, [.ref t, .ref im, .ref mk, .ref rd, .ref po, .ref co, .ref tr, .ref wa, .ref wb_, .ref fi, .ref cd]))], [(fi, .inr (3, [.int 1, .int i1, .int i2, .int s3_70, .int s4_71, .int s5_72, .ref a1_77, .ref a2_78]))], [(a1_77, .inl (T.2 0, zFl m1f wy2_55, .inl g1_73))], [(a2_78, .inl (T.2 0, 7, .inl r2f))], w2_53, z0_, wg0_] _ _ := G
          refine lv_iconst (v := 1) hx hb dX11_fit_101 (by decide) ?_
          have hw_79 : bFit T fi 1 i1 i2 s3_70 s4_71 s5_72 g1_73 (zFl m1f wy2_55) r2f [(fi, .inr (3, [.int 1, .int i1, .int i2, .int s3_70, .int s4_71, .int s5_72, .ref a1_77, .ref a2_78])), (a1_77, .inl (T.2 0, zFl m1f wy2_55, .inl g1_73)), (a2_78, .inl (T.2 0, 7, .inl r2f))] := ⟨a1_77, a2_78, rfl⟩
          have G : zS T A s.heap s [z1_, wg1_, wwB, wt, [(xo, .inr (10, [.ref t, .ref im, .ref mk, .ref rd, .ref po, .ref co, .ref tr, .ref wa, .ref wb_, .ref fi, .ref cd]))], [(fi, .inr (3, [.int 1, .int i1, .int i2, .int s3_70, .int s4_71, .int s5_72, .ref a1_77, .ref a2_78])), (a1_77, .inl (T.2 0, zFl m1f wy2_55, .inl g1_73)), (a2_78, .inl (T.2 0, 7, .inl r2f))], w2_53, z0_, wg0_] _ _ := G.re rfl
          have G := G.sub (bs' := [[(xo, .inr (10, [.ref t, .ref im, .ref mk, .ref rd, .ref po, .ref co, .ref tr, .ref wa, .ref wb_, .ref fi, .ref cd]))], wt, z0_, z1_, wg0_, wg1_, w2_53, wwB, [(fi, .inr (3, [.int 1, .int i1, .int i2, .int s3_70, .int s4_71, .int s5_72, .ref a1_77, .ref a2_78])), (a1_77, .inl (T.2 0, zFl m1f wy2_55, .inl g1_73)), (a2_78, .inl (T.2 0, 7, .inl r2f))]]) [4, 3, 7, 0, 8, 1, 6, 2, 5] rfl
          exact z_zret C hr hlocks G (by omega) (by omega) dX11_fit_102 rfl ⟨l0, m2_54, wy2_55, pc2_56, g1_57, g2_58, f3A, g4_59, g5_60, g6_61, (zMk mdA n4A (zPl cr0_ inn0_ k10_)), w2_53, laB, mdB, wyB, pc_B, f1B, f2B, f3B, f4B, f5B, f6B, n4B, wwB, 1, i1, i2, s3_70, s4_71, s5_72, g1_73, (zFl m1f wy2_55), r2f, ([(fi, .inr (3, [.int 1, .int i1, .int i2, .int s3_70, .int s4_71, .int s5_72, .ref a1_77, .ref a2_78])), (a1_77, .inl (T.2 0, zFl m1f wy2_55, .inl g1_73)), (a2_78, .inl (T.2 0, 7, .inl r2f))]), rfl, h_63, (Or.inr rfl), hwy9, hNAm.symm, (zMk_pw hpwA), (fun _ => h_66), hwwB, hmdB, hwmB, (zNA_n (by omega)).symm, hpwB, (fun q => q), hw_79, hNF.symm, hfw9, h39, (Or.inr ⟨rfl, by omega, by decide, rfl⟩), (fun _ => Or.inl ⟨by omega, h_66⟩)⟩
        · have c_52n : e1f.toInt = i1.toInt := (fa_eq _ _).mp c_52
          refine lv_aload_n hx hb dX11_fit_51 rfl (lv_at hl 2 rfl) ?_
          refine z_get C G clX11 0 rfl 9 (by decide) m_fl_RX11_65 rfl dX11_fit_52 ?_
          refine z_get C G clX3 7 rfl 2 (by decide) m_fl_RX11_295 rfl dX11_fit_55 ?_
          refine lv_iload_n hx hb dX11_fit_58 rfl (lv_at hl 4 rfl) ?_
          refine lv_icmp_eq (tgt := 101) hx hb dX11_fit_59 (by decide) (fun c_80 => ?_) (fun c_80 => ?_)
          · have c_80n : e2f.toInt = i2.toInt := (fa_eq _ _).mp c_80
            refine lv_iconst (v := 1) hx hb dX11_fit_101 (by decide) ?_
            have hw_81 : bFit T fi e0f e1f e2f e3f e4f e5f r1f m1f r2f [(fi, .inr (3, [.int e0f, .int e1f, .int e2f, .int e3f, .int e4f, .int e5f, .ref a1_22, .ref a2_23])), (a1_22, .inl (T.2 0, m1f, .inl r1f)), (a2_23, .inl (T.2 0, 7, .inl r2f))] := ⟨a1_22, a2_23, rfl⟩
            have G : zS T A s.heap s [[(xo, .inr (10, [.ref t, .ref im, .ref mk, .ref rd, .ref po, .ref co, .ref tr, .ref wa, .ref wb_, .ref fi, .ref cd]))], z0_, z1_, wg0_, wg1_, wwA, wwB, [(fi, .inr (3, [.int e0f, .int e1f, .int e2f, .int e3f, .int e4f, .int e5f, .ref a1_22, .ref a2_23])), (a1_22, .inl (T.2 0, m1f, .inl r1f)), (a2_23, .inl (T.2 0, 7, .inl r2f))], wt] _ _ := G.re rfl
            have G := G.sub (bs' := [[(xo, .inr (10, [.ref t, .ref im, .ref mk, .ref rd, .ref po, .ref co, .ref tr, .ref wa, .ref wb_, .ref fi, .ref cd]))], wt, z0_, z1_, wg0_, wg1_, wwA, wwB, [(fi, .inr (3, [.int e0f, .int e1f, .int e2f, .int e3f, .int e4f, .int e5f, .ref a1_22, .ref a2_23])), (a1_22, .inl (T.2 0, m1f, .inl r1f)), (a2_23, .inl (T.2 0, 7, .inl r2f))]]) [0, 8, 1, 2, 3, 4, 5, 6, 7] rfl
            exact z_zret C hr hlocks G (by omega) (by omega) dX11_fit_102 rfl ⟨laA, mdA, wyA, pc_A, f1A, f2A, f3A, f4A, f5A, f6A, n4A, wwA, laB, mdB, wyB, pc_B, f1B, f2B, f3B, f4B, f5B, f6B, n4B, wwB, e0f, e1f, e2f, e3f, e4f, e5f, r1f, m1f, r2f, ([(fi, .inr (3, [.int e0f, .int e1f, .int e2f, .int e3f, .int e4f, .int e5f, .ref a1_22, .ref a2_23])), (a1_22, .inl (T.2 0, m1f, .inl r1f)), (a2_23, .inl (T.2 0, 7, .inl r2f))]), rfl, hwwA, hmdA, hwmA, (zNA_n (by omega)).symm, hpwA, (fun q => q), hwwB, hmdB, hwmB, (zNA_n (by omega)).symm, hpwB, (fun q => q), hw_81, (((zNF_n (c := (i1.toInt = 1 ∧ 1 < (fk 0).toInt ∧ (0 ≤ i2.toInt ∧ i2.toInt < (fk 2).toInt ∧ i2.toInt < 2) ∧ (e0f.toInt = 0 ∨ ¬ e1f.toInt = i1.toInt ∨ ¬ e2f.toInt = i2.toInt))) (by omega)).trans (zNF_n (by omega))).symm), hfw, hf3, (Or.inr ⟨rfl, by omega, (fun q => absurd (congrArg Int32.toInt q) (by show ¬ _ = (0 : Int); omega)), by omega⟩), hFI⟩
          · have c_80n : ¬ e2f.toInt = i2.toInt := fun q => c_80 ((fa_eq _ _).mpr q)
            refine lv_aload_n hx hb dX11_fit_62 rfl (lv_at hl 2 rfl) ?_
            refine z_get C G clX11 0 rfl 9 (by decide) m_fl_RX11_65 rfl dX11_fit_63 ?_
            refine lv_aload_n hx hb dX11_fit_66 rfl (lv_at hl 2 rfl) ?_
            refine lv_iload_n hx hb dX11_fit_67 rfl (lv_at hl 3 rfl) ?_
            refine lv_aload_n hx hb dX11_fit_68 rfl (lv_at hl 1 rfl) ?_
            have hcF : (i1.toInt = 0 ∧ 0 < (fk 0).toInt ∧ (0 ≤ i2.toInt ∧ i2.toInt < (fk 2).toInt ∧ i2.toInt < 2) ∧ (e0f.toInt = 0 ∨ ¬ e1f.toInt = i1.toInt ∨ ¬ e2f.toInt = i2.toInt)) := by omega
            have hcN : ¬ (i1.toInt = 1 ∧ 1 < (fk 0).toInt ∧ (0 ≤ i2.toInt ∧ i2.toInt < (fk 2).toInt ∧ i2.toInt < 2) ∧ (e0f.toInt = 0 ∨ ¬ e1f.toInt = i1.toInt ∨ ¬ e2f.toInt = i2.toInt)) := by omega
            have hNAm : zNA (i1.toInt = 0 ∧ 0 < (fk 0).toInt ∧ (0 ≤ i2.toInt ∧ i2.toInt < (fk 2).toInt ∧ i2.toInt < 2) ∧ (e0f.toInt = 0 ∨ ¬ e1f.toInt = i1.toInt ∨ ¬ e2f.toInt = i2.toInt)) mdA n4A (zPl cr0_ inn0_ k10_) = zMk mdA n4A (zPl cr0_ inn0_ k10_) := zNA_y hcF
            have hNAo : zNA (i1.toInt = 1 ∧ 1 < (fk 0).toInt ∧ (0 ≤ i2.toInt ∧ i2.toInt < (fk 2).toInt ∧ i2.toInt < 2) ∧ (e0f.toInt = 0 ∨ ¬ e1f.toInt = i1.toInt ∨ ¬ e2f.toInt = i2.toInt)) mdB n4B (zPl cr1_ inn1_ k11_) = n4B := zNA_n hcN
            have hn9 : zMk mdA n4A (zPl cr0_ inn0_ k10_) ≤ 131072 := zPw_le (zMk_pw hpwA)
            refine z_Vq (bc := [[(xo, .inr (10, [.ref t, .ref im, .ref mk, .ref rd, .ref po, .ref co, .ref tr, .ref wa, .ref wb_, .ref fi, .ref cd]))], wwA, z0_]) (br := [z1_, wg0_, wg1_, wwB, [(fi, .inr (3, [.int e0f, .int e1f, .int e2f, .int e3f, .int e4f, .int e5f, .ref a1_22, .ref a2_23]))], [(a1_22, .inl (T.2 0, m1f, .inl r1f))], [(a2_23, .inl (T.2 0, 7, .inl r2f))], wt]) (As := [.int i1, .ref l0]) (rest := [.ref fi]) C G (c_waysInA l T xo t im mk rd po co tr wa wb_ fi cd i1 laA mdA wyA pc_A f1A f2A f3A f4A f5A f6A n4A wwA l0 cr0_ inn0_ k10_ k20_ k30_ k40_ z0_ hwwA hz0_ hI0_ hpwA hmdA hwmA (by omega)) (kV_RX11_235 C.2.2.2.2 (Nat.le_of_ble_eq_true rfl) (Nat.le_of_ble_eq_true rfl)) [0, 5, 1] [2, 3, 4, 6, 7, 8, 9, 10] rfl rfl (ci := 10) (qc := (RX11, TX11, 11)) rfl rfl (List.mem_flatten.mpr ⟨_, List.mem_of_getElem? (i := 0) rfl, List.mem_cons_self⟩) rfl rfl hl.1 dX11_fit_69 (by show _ + 3 ≤ 4; omega) (by show _ + (6 * (zMk mdA n4A (zPl cr0_ inn0_ k10_) - n4A)) ≤ 6 * (zNA (i1.toInt = 0 ∧ 0 < (fk 0).toInt ∧ (0 ≤ i2.toInt ∧ i2.toInt < (fk 2).toInt ∧ i2.toInt < 2) ∧ (e0f.toInt = 0 ∨ ¬ e1f.toInt = i1.toInt ∨ ¬ e2f.toInt = i2.toInt)) mdA n4A (zPl cr0_ inn0_ k10_) - n4A) + 6 * (zNA (i1.toInt = 1 ∧ 1 < (fk 0).toInt ∧ (0 ≤ i2.toInt ∧ i2.toInt < (fk 2).toInt ∧ i2.toInt < 2) ∧ (e0f.toInt = 0 ∨ ¬ e1f.toInt = i1.toInt ∨ ¬ e2f.toInt = i2.toInt)) mdB n4B (zPl cr1_ inn1_ k11_) - n4B) + 2 * (zNF (i1.toInt = 1 ∧ 1 < (fk 0).toInt ∧ (0 ≤ i2.toInt ∧ i2.toInt < (fk 2).toInt ∧ i2.toInt < 2) ∧ (e0f.toInt = 0 ∨ ¬ e1f.toInt = i1.toInt ∨ ¬ e2f.toInt = i2.toInt)) (zNF (i1.toInt = 0 ∧ 0 < (fk 0).toInt ∧ (0 ≤ i2.toInt ∧ i2.toInt < (fk 2).toInt ∧ i2.toInt < 2) ∧ (e0f.toInt = 0 ∨ ¬ e1f.toInt = i1.toInt ∨ ¬ e2f.toInt = i2.toInt)) m1f (zMw mdA wyA cr0_ inn0_ k10_)) (zMw mdB wyB cr1_ inn1_ k11_) - m1f); omega) (fun r_96 b1 H locs hw G => ?_)
            refine zEx9 hw ?_
            intro w2_82 m2_83 wy2_84 pc2_85 g1_86 g2_87 g4_88 g5_89 g6_90
            refine zCu6 ?_
            intro hbs9 h_91 h_92 h_93 h_94 h_95
            clear hw
            subst hbs9
            have G : zS T A s.heap s [z1_, wg0_, wg1_, wwB, [(fi, .inr (3, [.int e0f, .int e1f, .int e2f, .int e3f, .int e4f, .int e5f, .ref a1_22, .ref a2_23]))], [(a1_22, .inl (T.2 0, m1f, .inl r1f))], [(a2_23, .inl (T.2 0, 7, .inl r2f))], wt, [(xo, .inr (10, [.ref t, .ref im, .ref mk, .ref rd, .ref po, .ref co, .ref tr, .ref wa, .ref wb_, .ref fi, .ref cd]))], w2_82, z0_] _ _ := G
            subst h_91
            have hwy9 := h_93
            have hNF : zNF (i1.toInt = 1 ∧ 1 < (fk 0).toInt ∧ (0 ≤ i2.toInt ∧ i2.toInt < (fk 2).toInt ∧ i2.toInt < 2) ∧ (e0f.toInt = 0 ∨ ¬ e1f.toInt = i1.toInt ∨ ¬ e2f.toInt = i2.toInt)) (zNF (i1.toInt = 0 ∧ 0 < (fk 0).toInt ∧ (0 ≤ i2.toInt ∧ i2.toInt < (fk 2).toInt ∧ i2.toInt < 2) ∧ (e0f.toInt = 0 ∨ ¬ e1f.toInt = i1.toInt ∨ ¬ e2f.toInt = i2.toInt)) m1f (zMw mdA wyA cr0_ inn0_ k10_)) (zMw mdB wyB cr1_ inn1_ k11_) = zFl m1f wy2_84 := by rw [zNF_n (c := (i1.toInt = 1 ∧ 1 < (fk 0).toInt ∧ (0 ≤ i2.toInt ∧ i2.toInt < (fk 2).toInt ∧ i2.toInt < 2) ∧ (e0f.toInt = 0 ∨ ¬ e1f.toInt = i1.toInt ∨ ¬ e2f.toInt = i2.toInt))) hcN, zNF_y hcF, h_94]
            have hfw9 := zFl_pw (wy := wy2_84) hfw
            refine lv_aload hx hb dX11_fit_72 (lv_at hl 0 rfl) ?_
            have hw_97 : bFit T fi e0f e1f e2f e3f e4f e5f r1f m1f r2f [(fi, .inr (3, [.int e0f, .int e1f, .int e2f, .int e3f, .int e4f, .int e5f, .ref a1_22, .ref a2_23])), (a1_22, .inl (T.2 0, m1f, .inl r1f)), (a2_23, .inl (T.2 0, 7, .inl r2f))] := ⟨a1_22, a2_23, rfl⟩
            have G : zS T A s.heap s [z1_, wg0_, wg1_, wwB, [(fi, .inr (3, [.int e0f, .int e1f, .int e2f, .int e3f, .int e4f, .int e5f, .ref a1_22, .ref a2_23])), (a1_22, .inl (T.2 0, m1f, .inl r1f)), (a2_23, .inl (T.2 0, 7, .inl r2f))], wt, [(xo, .inr (10, [.ref t, .ref im, .ref mk, .ref rd, .ref po, .ref co, .ref tr, .ref wa, .ref wb_, .ref fi, .ref cd]))], w2_82, z0_] _ _ := G.re rfl
            refine z_Vv (bc := [[(fi, .inr (3, [.int e0f, .int e1f, .int e2f, .int e3f, .int e4f, .int e5f, .ref a1_22, .ref a2_23])), (a1_22, .inl (T.2 0, m1f, .inl r1f)), (a2_23, .inl (T.2 0, 7, .inl r2f))], w2_82, z0_, wg0_]) (br := [z1_, wg1_, wwB, wt, [(xo, .inr (10, [.ref t, .ref im, .ref mk, .ref rd, .ref po, .ref co, .ref tr, .ref wa, .ref wb_, .ref fi, .ref cd]))]]) (As := [.ref wa, .ref g0]) (rest := []) C G (c_find l T fi e0f e1f e2f e3f e4f e5f r1f m1f r2f ([(fi, .inr (3, [.int e0f, .int e1f, .int e2f, .int e3f, .int e4f, .int e5f, .ref a1_22, .ref a2_23])), (a1_22, .inl (T.2 0, m1f, .inl r1f)), (a2_23, .inl (T.2 0, 7, .inl r2f))]) wa l0 m2_83 wy2_84 pc2_85 g1_86 g2_87 f3A g4_88 g5_89 g6_90 (zMk mdA n4A (zPl cr0_ inn0_ k10_)) w2_82 cr0_ inn0_ k10_ k20_ k30_ k40_ z0_ g0 gg0_ q10_ q20_ wg0_ hw_97 h_92 hz0_ hg0_ hn9 hfw hwy9) (kV_RX11_298 C.2.2.2.2 (Nat.le_of_ble_eq_true rfl) (Nat.le_of_ble_eq_true rfl)) [4, 7, 8, 1] [0, 2, 3, 5, 6] rfl rfl (ci := 3) (qc := (RX3, TX3, 8)) rfl rfl (List.mem_flatten.mpr ⟨_, List.mem_of_getElem? (i := 0) rfl, (bFit_mem hw_97).choose_spec⟩) rfl rfl hl.1 dX11_fit_74 (by show _ + 1 ≤ 4; omega) (by show _ + (2 * (zFl m1f wy2_84 - m1f)) ≤ 6 * (zNA (i1.toInt = 0 ∧ 0 < (fk 0).toInt ∧ (0 ≤ i2.toInt ∧ i2.toInt < (fk 2).toInt ∧ i2.toInt < 2) ∧ (e0f.toInt = 0 ∨ ¬ e1f.toInt = i1.toInt ∨ ¬ e2f.toInt = i2.toInt)) mdA n4A (zPl cr0_ inn0_ k10_) - n4A) + 6 * (zNA (i1.toInt = 1 ∧ 1 < (fk 0).toInt ∧ (0 ≤ i2.toInt ∧ i2.toInt < (fk 2).toInt ∧ i2.toInt < 2) ∧ (e0f.toInt = 0 ∨ ¬ e1f.toInt = i1.toInt ∨ ¬ e2f.toInt = i2.toInt)) mdB n4B (zPl cr1_ inn1_ k11_) - n4B) + 2 * (zNF (i1.toInt = 1 ∧ 1 < (fk 0).toInt ∧ (0 ≤ i2.toInt ∧ i2.toInt < (fk 2).toInt ∧ i2.toInt < 2) ∧ (e0f.toInt = 0 ∨ ¬ e1f.toInt = i1.toInt ∨ ¬ e2f.toInt = i2.toInt)) (zNF (i1.toInt = 0 ∧ 0 < (fk 0).toInt ∧ (0 ≤ i2.toInt ∧ i2.toInt < (fk 2).toInt ∧ i2.toInt < 2) ∧ (e0f.toInt = 0 ∨ ¬ e1f.toInt = i1.toInt ∨ ¬ e2f.toInt = i2.toInt)) m1f (zMw mdA wyA cr0_ inn0_ k10_)) (zMw mdB wyB cr1_ inn1_ k11_) - m1f); omega) (fun b1 H locs hw G => ?_)
            refine zEx5 hw ?_
            intro w2_98 s3_99 s4_100 s5_101 g1_102
            refine zCu3 ?_
            intro hbs9 h_103 h_104
            clear hw
            subst hbs9
            have G : zS T A s.heap s [z1_, wg1_, wwB, wt, [(xo, .inr (10, [.ref t, .ref im, .ref mk, .ref rd, .ref po, .ref co, .ref tr, .ref wa, .ref wb_, .ref fi, .ref cd]))], w2_98, w2_82, z0_, wg0_] _ _ := G
            have h39 := h_104
            refine lv_aload_n hx hb dX11_fit_77 rfl (lv_at hl 2 rfl) ?_
            refine z_get C G clX11 4 rfl 9 (by decide) m_fl_RX11_65 rfl dX11_fit_78 ?_
            refine lv_iload_n hx hb dX11_fit_81 rfl (lv_at hl 3 rfl) ?_
            refine zEx2 h_103 ?_
            intro a1_106 a2_107 hbs9
            clear h_103
            subst hbs9
            have G : zS T A s.heap s [z1_, wg1_, wwB, wt, [(xo, .inr (10, [.ref t, .ref im, .ref mk, .ref rd, .ref po, .ref co, .ref tr, .ref wa, .ref wb_, .ref fi, .ref cd]))], [(fi, .inr (3, [.int e0f, .int e1f, .int e2f, .int s3_99, .int s4_100, .int s5_101, .ref a1_106, .ref a2_107]))], [(a1_106, .inl (T.2 0, zFl m1f wy2_84, .inl g1_102))], [(a2_107, .inl (T.2 0, 7, .inl r2f))], w2_82, z0_, wg0_] _ _ := G.re rfl
            refine z_put C G clX3 5 rfl 1 (by decide) m_fl_RX11_292 rfl rfl rfl (Nat.le_of_ble_eq_true rfl) dX11_fit_82 (fun H locs G => ?_)
            have G : zS T A s.heap s [z1_, wg1_, wwB, wt, [(xo, .inr (10, [.ref t, .ref im, .ref mk, .ref rd, .ref po, .ref co, .ref tr, .ref wa, .ref wb_, .ref fi, .ref cd]))], [(fi, .inr (3, [.int e0f, .int i1, .int e2f, .int s3_99, .int s4_100, .int s5_101, .ref a1_106, .ref a2_107]))], [(a1_106, .inl (T.2 0, zFl m1f wy2_84, .inl g1_102))], [(a2_107, .inl (T.2 0, 7, .inl r2f))], w2_82, z0_, wg0_] _ _ := G
            refine lv_aload_n hx hb dX11_fit_85 rfl (lv_at hl 2 rfl) ?_
            refine z_get C G clX11 4 rfl 9 (by decide) m_fl_RX11_65 rfl dX11_fit_86 ?_
            refine lv_iload_n hx hb dX11_fit_89 rfl (lv_at hl 4 rfl) ?_
            refine z_put C G clX3 5 rfl 2 (by decide) m_fl_RX11_295 rfl rfl rfl (Nat.le_of_ble_eq_true rfl) dX11_fit_90 (fun H locs G => ?_)
            have G : zS T A s.heap s [z1_, wg1_, wwB, wt, [(xo, .inr (10, [.ref t, .ref im, .ref mk, .ref rd, .ref po, .ref co, .ref tr, .ref wa, .ref wb_, .ref fi, .ref cd]))], [(fi, .inr (3, [.int e0f, .int i1, .int i2, .int s3_99, .int s4_100, .int s5_101, .ref a1_106, .ref a2_107]))], [(a1_106, .inl (T.2 0, zFl m1f wy2_84, .inl g1_102))], [(a2_107, .inl (T.2 0, 7, .inl r2f))], w2_82, z0_, wg0_] _ _ := G
            refine lv_aload_n hx hb dX11_fit_93 rfl (lv_at hl 2 rfl) ?_
            refine z_get C G clX11 4 rfl 9 (by decide) m_fl_RX11_65 rfl dX11_fit_94 ?_
            refine lv_iconst (v := 1) hx hb dX11_fit_97 (by decide) ?_
            refine z_put C G clX3 5 rfl 0 (by decide) m_fl_RX11_109 rfl rfl rfl (Nat.le_of_ble_eq_true rfl) dX11_fit_98 (fun H locs G => ?_)
            have G : zS T A s.heap s [z1_, wg1_, wwB, wt, [(xo, .inr (10, [.ref t, .ref im, .ref mk, .ref rd, .ref po, .ref co, .ref tr, .ref wa, .ref wb_, .ref fi, .ref cd]))], [(fi, .inr (3, [.int 1, .int i1, .int i2, .int s3_99, .int s4_100, .int s5_101, .ref a1_106, .ref a2_107]))], [(a1_106, .inl (T.2 0, zFl m1f wy2_84, .inl g1_102))], [(a2_107, .inl (T.2 0, 7, .inl r2f))], w2_82, z0_, wg0_] _ _ := G
            refine lv_iconst (v := 1) hx hb dX11_fit_101 (by decide) ?_
            have hw_108 : bFit T fi 1 i1 i2 s3_99 s4_100 s5_101 g1_102 (zFl m1f wy2_84) r2f [(fi, .inr (3, [.int 1, .int i1, .int i2, .int s3_99, .int s4_100, .int s5_101, .ref a1_106, .ref a2_107])), (a1_106, .inl (T.2 0, zFl m1f wy2_84, .inl g1_102)), (a2_107, .inl (T.2 0, 7, .inl r2f))] := ⟨a1_106, a2_107, rfl⟩
            have G : zS T A s.heap s [z1_, wg1_, wwB, wt, [(xo, .inr (10, [.ref t, .ref im, .ref mk, .ref rd, .ref po, .ref co, .ref tr, .ref wa, .ref wb_, .ref fi, .ref cd]))], [(fi, .inr (3, [.int 1, .int i1, .int i2, .int s3_99, .int s4_100, .int s5_101, .ref a1_106, .ref a2_107])), (a1_106, .inl (T.2 0, zFl m1f wy2_84, .inl g1_102)), (a2_107, .inl (T.2 0, 7, .inl r2f))], w2_82, z0_, wg0_] _ _ := G.re rfl
            have G := G.sub (bs' := [[(xo, .inr (10, [.ref t, .ref im, .ref mk, .ref rd, .ref po, .ref co, .ref tr, .ref wa, .ref wb_, .ref fi, .ref cd]))], wt, z0_, z1_, wg0_, wg1_, w2_82, wwB, [(fi, .inr (3, [.int 1, .int i1, .int i2, .int s3_99, .int s4_100, .int s5_101, .ref a1_106, .ref a2_107])), (a1_106, .inl (T.2 0, zFl m1f wy2_84, .inl g1_102)), (a2_107, .inl (T.2 0, 7, .inl r2f))]]) [4, 3, 7, 0, 8, 1, 6, 2, 5] rfl
            exact z_zret C hr hlocks G (by omega) (by omega) dX11_fit_102 rfl ⟨l0, m2_83, wy2_84, pc2_85, g1_86, g2_87, f3A, g4_88, g5_89, g6_90, (zMk mdA n4A (zPl cr0_ inn0_ k10_)), w2_82, laB, mdB, wyB, pc_B, f1B, f2B, f3B, f4B, f5B, f6B, n4B, wwB, 1, i1, i2, s3_99, s4_100, s5_101, g1_102, (zFl m1f wy2_84), r2f, ([(fi, .inr (3, [.int 1, .int i1, .int i2, .int s3_99, .int s4_100, .int s5_101, .ref a1_106, .ref a2_107])), (a1_106, .inl (T.2 0, zFl m1f wy2_84, .inl g1_102)), (a2_107, .inl (T.2 0, 7, .inl r2f))]), rfl, h_92, (Or.inr rfl), hwy9, hNAm.symm, (zMk_pw hpwA), (fun _ => h_95), hwwB, hmdB, hwmB, (zNA_n (by omega)).symm, hpwB, (fun q => q), hw_108, hNF.symm, hfw9, h39, (Or.inr ⟨rfl, by omega, by decide, rfl⟩), (fun _ => Or.inl ⟨by omega, h_95⟩)⟩
    · have h_20 : i2.toInt = 1 := h_20
      have h_21 : 1 < (fk 2).toInt := h_21
      refine lv_astore (lv' := [(4, .ref g1), (3, .ref l0), (0, .ref xo), (1, .int i1), (2, .int i2)]) hx hb dX11_fit_17 hl (by decide) rfl (fun ls hl => ?_)
      refine lv_aload_n hx hb dX11_fit_19 rfl (lv_at hl 1 rfl) ?_
      refine lv_ifnull hx hb dX11_fit_20 ?_
      refine lv_aload hx hb dX11_fit_23 (lv_at hl 0 rfl) ?_
      refine lv_ifnonnull (tgt := 30) hx hb dX11_fit_25 (by decide) ?_
      refine lv_aload_n hx hb dX11_fit_30 rfl (lv_at hl 2 rfl) ?_
      refine z_get C G clX11 0 rfl 9 (by decide) m_fl_RX11_65 rfl dX11_fit_31 ?_
      refine zEx2 hwff ?_
      intro a1_109 a2_110 hbs9
      clear hwff
      subst hbs9
      have G : zS T A s.heap s [[(xo, .inr (10, [.ref t, .ref im, .ref mk, .ref rd, .ref po, .ref co, .ref tr, .ref wa, .ref wb_, .ref fi, .ref cd]))], z0_, z1_, wg0_, wg1_, wwA, wwB, [(fi, .inr (3, [.int e0f, .int e1f, .int e2f, .int e3f, .int e4f, .int e5f, .ref a1_109, .ref a2_110]))], [(a1_109, .inl (T.2 0, m1f, .inl r1f))], [(a2_110, .inl (T.2 0, 7, .inl r2f))], wt] _ _ := G.re rfl
      refine z_get C G clX3 7 rfl 0 (by decide) m_fl_RX11_109 rfl dX11_fit_34 ?_
      refine lv_if_eq (tgt := 62) hx hb dX11_fit_37 (by decide) (fun c_111 => ?_) (fun c_111 => ?_)
      · have c_111n : e0f.toInt = (0 : Int) := (fa_eq _ _).mp c_111
        refine lv_aload_n hx hb dX11_fit_62 rfl (lv_at hl 2 rfl) ?_
        refine z_get C G clX11 0 rfl 9 (by decide) m_fl_RX11_65 rfl dX11_fit_63 ?_
        refine lv_aload_n hx hb dX11_fit_66 rfl (lv_at hl 2 rfl) ?_
        refine lv_iload_n hx hb dX11_fit_67 rfl (lv_at hl 3 rfl) ?_
        refine lv_aload_n hx hb dX11_fit_68 rfl (lv_at hl 1 rfl) ?_
        have hcF : (i1.toInt = 0 ∧ 0 < (fk 0).toInt ∧ (0 ≤ i2.toInt ∧ i2.toInt < (fk 2).toInt ∧ i2.toInt < 2) ∧ (e0f.toInt = 0 ∨ ¬ e1f.toInt = i1.toInt ∨ ¬ e2f.toInt = i2.toInt)) := by omega
        have hcN : ¬ (i1.toInt = 1 ∧ 1 < (fk 0).toInt ∧ (0 ≤ i2.toInt ∧ i2.toInt < (fk 2).toInt ∧ i2.toInt < 2) ∧ (e0f.toInt = 0 ∨ ¬ e1f.toInt = i1.toInt ∨ ¬ e2f.toInt = i2.toInt)) := by omega
        have hNAm : zNA (i1.toInt = 0 ∧ 0 < (fk 0).toInt ∧ (0 ≤ i2.toInt ∧ i2.toInt < (fk 2).toInt ∧ i2.toInt < 2) ∧ (e0f.toInt = 0 ∨ ¬ e1f.toInt = i1.toInt ∨ ¬ e2f.toInt = i2.toInt)) mdA n4A (zPl cr0_ inn0_ k10_) = zMk mdA n4A (zPl cr0_ inn0_ k10_) := zNA_y hcF
        have hNAo : zNA (i1.toInt = 1 ∧ 1 < (fk 0).toInt ∧ (0 ≤ i2.toInt ∧ i2.toInt < (fk 2).toInt ∧ i2.toInt < 2) ∧ (e0f.toInt = 0 ∨ ¬ e1f.toInt = i1.toInt ∨ ¬ e2f.toInt = i2.toInt)) mdB n4B (zPl cr1_ inn1_ k11_) = n4B := zNA_n hcN
        have hn9 : zMk mdA n4A (zPl cr0_ inn0_ k10_) ≤ 131072 := zPw_le (zMk_pw hpwA)
        refine z_Vq (bc := [[(xo, .inr (10, [.ref t, .ref im, .ref mk, .ref rd, .ref po, .ref co, .ref tr, .ref wa, .ref wb_, .ref fi, .ref cd]))], wwA, z0_]) (br := [z1_, wg0_, wg1_, wwB, [(fi, .inr (3, [.int e0f, .int e1f, .int e2f, .int e3f, .int e4f, .int e5f, .ref a1_109, .ref a2_110]))], [(a1_109, .inl (T.2 0, m1f, .inl r1f))], [(a2_110, .inl (T.2 0, 7, .inl r2f))], wt]) (As := [.int i1, .ref l0]) (rest := [.ref fi]) C G (c_waysInA l T xo t im mk rd po co tr wa wb_ fi cd i1 laA mdA wyA pc_A f1A f2A f3A f4A f5A f6A n4A wwA l0 cr0_ inn0_ k10_ k20_ k30_ k40_ z0_ hwwA hz0_ hI0_ hpwA hmdA hwmA (by omega)) (kV_RX11_235 C.2.2.2.2 (Nat.le_of_ble_eq_true rfl) (Nat.le_of_ble_eq_true rfl)) [0, 5, 1] [2, 3, 4, 6, 7, 8, 9, 10] rfl rfl (ci := 10) (qc := (RX11, TX11, 11)) rfl rfl (List.mem_flatten.mpr ⟨_, List.mem_of_getElem? (i := 0) rfl, List.mem_cons_self⟩) rfl rfl hl.1 dX11_fit_69 (by show _ + 3 ≤ 4; omega) (by show _ + (6 * (zMk mdA n4A (zPl cr0_ inn0_ k10_) - n4A)) ≤ 6 * (zNA (i1.toInt = 0 ∧ 0 < (fk 0).toInt ∧ (0 ≤ i2.toInt ∧ i2.toInt < (fk 2).toInt ∧ i2.toInt < 2) ∧ (e0f.toInt = 0 ∨ ¬ e1f.toInt = i1.toInt ∨ ¬ e2f.toInt = i2.toInt)) mdA n4A (zPl cr0_ inn0_ k10_) - n4A) + 6 * (zNA (i1.toInt = 1 ∧ 1 < (fk 0).toInt ∧ (0 ≤ i2.toInt ∧ i2.toInt < (fk 2).toInt ∧ i2.toInt < 2) ∧ (e0f.toInt = 0 ∨ ¬ e1f.toInt = i1.toInt ∨ ¬ e2f.toInt = i2.toInt)) mdB n4B (zPl cr1_ inn1_ k11_) - n4B) + 2 * (zNF (i1.toInt = 1 ∧ 1 < (fk 0).toInt ∧ (0 ≤ i2.toInt ∧ i2.toInt < (fk 2).toInt ∧ i2.toInt < 2) ∧ (e0f.toInt = 0 ∨ ¬ e1f.toInt = i1.toInt ∨ ¬ e2f.toInt = i2.toInt)) (zNF (i1.toInt = 0 ∧ 0 < (fk 0).toInt ∧ (0 ≤ i2.toInt ∧ i2.toInt < (fk 2).toInt ∧ i2.toInt < 2) ∧ (e0f.toInt = 0 ∨ ¬ e1f.toInt = i1.toInt ∨ ¬ e2f.toInt = i2.toInt)) m1f (zMw mdA wyA cr0_ inn0_ k10_)) (zMw mdB wyB cr1_ inn1_ k11_) - m1f); omega) (fun r_126 b1 H locs hw G => ?_)
        refine zEx9 hw ?_
        intro w2_112 m2_113 wy2_114 pc2_115 g1_116 g2_117 g4_118 g5_119 g6_120
        refine zCu6 ?_
        intro hbs9 h_121 h_122 h_123 h_124 h_125
        clear hw
        subst hbs9
        have G : zS T A s.heap s [z1_, wg0_, wg1_, wwB, [(fi, .inr (3, [.int e0f, .int e1f, .int e2f, .int e3f, .int e4f, .int e5f, .ref a1_109, .ref a2_110]))], [(a1_109, .inl (T.2 0, m1f, .inl r1f))], [(a2_110, .inl (T.2 0, 7, .inl r2f))], wt, [(xo, .inr (10, [.ref t, .ref im, .ref mk, .ref rd, .ref po, .ref co, .ref tr, .ref wa, .ref wb_, .ref fi, .ref cd]))], w2_112, z0_] _ _ := G
        subst h_121
        have hwy9 := h_123
        have hNF : zNF (i1.toInt = 1 ∧ 1 < (fk 0).toInt ∧ (0 ≤ i2.toInt ∧ i2.toInt < (fk 2).toInt ∧ i2.toInt < 2) ∧ (e0f.toInt = 0 ∨ ¬ e1f.toInt = i1.toInt ∨ ¬ e2f.toInt = i2.toInt)) (zNF (i1.toInt = 0 ∧ 0 < (fk 0).toInt ∧ (0 ≤ i2.toInt ∧ i2.toInt < (fk 2).toInt ∧ i2.toInt < 2) ∧ (e0f.toInt = 0 ∨ ¬ e1f.toInt = i1.toInt ∨ ¬ e2f.toInt = i2.toInt)) m1f (zMw mdA wyA cr0_ inn0_ k10_)) (zMw mdB wyB cr1_ inn1_ k11_) = zFl m1f wy2_114 := by rw [zNF_n (c := (i1.toInt = 1 ∧ 1 < (fk 0).toInt ∧ (0 ≤ i2.toInt ∧ i2.toInt < (fk 2).toInt ∧ i2.toInt < 2) ∧ (e0f.toInt = 0 ∨ ¬ e1f.toInt = i1.toInt ∨ ¬ e2f.toInt = i2.toInt))) hcN, zNF_y hcF, h_124]
        have hfw9 := zFl_pw (wy := wy2_114) hfw
        refine lv_aload hx hb dX11_fit_72 (lv_at hl 0 rfl) ?_
        have hw_127 : bFit T fi e0f e1f e2f e3f e4f e5f r1f m1f r2f [(fi, .inr (3, [.int e0f, .int e1f, .int e2f, .int e3f, .int e4f, .int e5f, .ref a1_109, .ref a2_110])), (a1_109, .inl (T.2 0, m1f, .inl r1f)), (a2_110, .inl (T.2 0, 7, .inl r2f))] := ⟨a1_109, a2_110, rfl⟩
        have G : zS T A s.heap s [z1_, wg0_, wg1_, wwB, [(fi, .inr (3, [.int e0f, .int e1f, .int e2f, .int e3f, .int e4f, .int e5f, .ref a1_109, .ref a2_110])), (a1_109, .inl (T.2 0, m1f, .inl r1f)), (a2_110, .inl (T.2 0, 7, .inl r2f))], wt, [(xo, .inr (10, [.ref t, .ref im, .ref mk, .ref rd, .ref po, .ref co, .ref tr, .ref wa, .ref wb_, .ref fi, .ref cd]))], w2_112, z0_] _ _ := G.re rfl
        refine z_Vv (bc := [[(fi, .inr (3, [.int e0f, .int e1f, .int e2f, .int e3f, .int e4f, .int e5f, .ref a1_109, .ref a2_110])), (a1_109, .inl (T.2 0, m1f, .inl r1f)), (a2_110, .inl (T.2 0, 7, .inl r2f))], w2_112, z0_, wg1_]) (br := [z1_, wg0_, wwB, wt, [(xo, .inr (10, [.ref t, .ref im, .ref mk, .ref rd, .ref po, .ref co, .ref tr, .ref wa, .ref wb_, .ref fi, .ref cd]))]]) (As := [.ref wa, .ref g1]) (rest := []) C G (c_find l T fi e0f e1f e2f e3f e4f e5f r1f m1f r2f ([(fi, .inr (3, [.int e0f, .int e1f, .int e2f, .int e3f, .int e4f, .int e5f, .ref a1_109, .ref a2_110])), (a1_109, .inl (T.2 0, m1f, .inl r1f)), (a2_110, .inl (T.2 0, 7, .inl r2f))]) wa l0 m2_113 wy2_114 pc2_115 g1_116 g2_117 f3A g4_118 g5_119 g6_120 (zMk mdA n4A (zPl cr0_ inn0_ k10_)) w2_112 cr0_ inn0_ k10_ k20_ k30_ k40_ z0_ g1 gg1_ q11_ q21_ wg1_ hw_127 h_122 hz0_ hg1_ hn9 hfw hwy9) (kV_RX11_298 C.2.2.2.2 (Nat.le_of_ble_eq_true rfl) (Nat.le_of_ble_eq_true rfl)) [4, 7, 8, 2] [0, 1, 3, 5, 6] rfl rfl (ci := 3) (qc := (RX3, TX3, 8)) rfl rfl (List.mem_flatten.mpr ⟨_, List.mem_of_getElem? (i := 0) rfl, (bFit_mem hw_127).choose_spec⟩) rfl rfl hl.1 dX11_fit_74 (by show _ + 1 ≤ 4; omega) (by show _ + (2 * (zFl m1f wy2_114 - m1f)) ≤ 6 * (zNA (i1.toInt = 0 ∧ 0 < (fk 0).toInt ∧ (0 ≤ i2.toInt ∧ i2.toInt < (fk 2).toInt ∧ i2.toInt < 2) ∧ (e0f.toInt = 0 ∨ ¬ e1f.toInt = i1.toInt ∨ ¬ e2f.toInt = i2.toInt)) mdA n4A (zPl cr0_ inn0_ k10_) - n4A) + 6 * (zNA (i1.toInt = 1 ∧ 1 < (fk 0).toInt ∧ (0 ≤ i2.toInt ∧ i2.toInt < (fk 2).toInt ∧ i2.toInt < 2) ∧ (e0f.toInt = 0 ∨ ¬ e1f.toInt = i1.toInt ∨ ¬ e2f.toInt = i2.toInt)) mdB n4B (zPl cr1_ inn1_ k11_) - n4B) + 2 * (zNF (i1.toInt = 1 ∧ 1 < (fk 0).toInt ∧ (0 ≤ i2.toInt ∧ i2.toInt < (fk 2).toInt ∧ i2.toInt < 2) ∧ (e0f.toInt = 0 ∨ ¬ e1f.toInt = i1.toInt ∨ ¬ e2f.toInt = i2.toInt)) (zNF (i1.toInt = 0 ∧ 0 < (fk 0).toInt ∧ (0 ≤ i2.toInt ∧ i2.toInt < (fk 2).toInt ∧ i2.toInt < 2) ∧ (e0f.toInt = 0 ∨ ¬ e1f.toInt = i1.toInt ∨ ¬ e2f.toInt = i2.toInt)) m1f (zMw mdA wyA cr0_ inn0_ k10_)) (zMw mdB wyB cr1_ inn1_ k11_) - m1f); omega) (fun b1 H locs hw G => ?_)
        refine zEx5 hw ?_
        intro w2_128 s3_129 s4_130 s5_131 g1_132
        refine zCu3 ?_
        intro hbs9 h_133 h_134
        clear hw
        subst hbs9
        have G : zS T A s.heap s [z1_, wg0_, wwB, wt, [(xo, .inr (10, [.ref t, .ref im, .ref mk, .ref rd, .ref po, .ref co, .ref tr, .ref wa, .ref wb_, .ref fi, .ref cd]))], w2_128, w2_112, z0_, wg1_] _ _ := G
        have h39 := h_134
        refine lv_aload_n hx hb dX11_fit_77 rfl (lv_at hl 2 rfl) ?_
        refine z_get C G clX11 4 rfl 9 (by decide) m_fl_RX11_65 rfl dX11_fit_78 ?_
        refine lv_iload_n hx hb dX11_fit_81 rfl (lv_at hl 3 rfl) ?_
        refine zEx2 h_133 ?_
        intro a1_136 a2_137 hbs9
        clear h_133
        subst hbs9
        have G : zS T A s.heap s [z1_, wg0_, wwB, wt, [(xo, .inr (10, [.ref t, .ref im, .ref mk, .ref rd, .ref po, .ref co, .ref tr, .ref wa, .ref wb_, .ref fi, .ref cd]))], [(fi, .inr (3, [.int e0f, .int e1f, .int e2f, .int s3_129, .int s4_130, .int s5_131, .ref a1_136, .ref a2_137]))], [(a1_136, .inl (T.2 0, zFl m1f wy2_114, .inl g1_132))], [(a2_137, .inl (T.2 0, 7, .inl r2f))], w2_112, z0_, wg1_] _ _ := G.re rfl
        refine z_put C G clX3 5 rfl 1 (by decide) m_fl_RX11_292 rfl rfl rfl (Nat.le_of_ble_eq_true rfl) dX11_fit_82 (fun H locs G => ?_)
        have G : zS T A s.heap s [z1_, wg0_, wwB, wt, [(xo, .inr (10, [.ref t, .ref im, .ref mk, .ref rd, .ref po, .ref co, .ref tr, .ref wa, .ref wb_, .ref fi, .ref cd]))], [(fi, .inr (3, [.int e0f, .int i1, .int e2f, .int s3_129, .int s4_130, .int s5_131, .ref a1_136, .ref a2_137]))], [(a1_136, .inl (T.2 0, zFl m1f wy2_114, .inl g1_132))], [(a2_137, .inl (T.2 0, 7, .inl r2f))], w2_112, z0_, wg1_] _ _ := G
        refine lv_aload_n hx hb dX11_fit_85 rfl (lv_at hl 2 rfl) ?_
        refine z_get C G clX11 4 rfl 9 (by decide) m_fl_RX11_65 rfl dX11_fit_86 ?_
        refine lv_iload_n hx hb dX11_fit_89 rfl (lv_at hl 4 rfl) ?_
        refine z_put C G clX3 5 rfl 2 (by decide) m_fl_RX11_295 rfl rfl rfl (Nat.le_of_ble_eq_true rfl) dX11_fit_90 (fun H locs G => ?_)
        have G : zS T A s.heap s [z1_, wg0_, wwB, wt, [(xo, .inr (10, [.ref t, .ref im, .ref mk, .ref rd, .ref po, .ref co, .ref tr, .ref wa, .ref wb_, .ref fi, .ref cd]))], [(fi, .inr (3, [.int e0f, .int i1, .int i2, .int s3_129, .int s4_130, .int s5_131, .ref a1_136, .ref a2_137]))], [(a1_136, .inl (T.2 0, zFl m1f wy2_114, .inl g1_132))], [(a2_137, .inl (T.2 0, 7, .inl r2f))], w2_112, z0_, wg1_] _ _ := G
        refine lv_aload_n hx hb dX11_fit_93 rfl (lv_at hl 2 rfl) ?_
        refine z_get C G clX11 4 rfl 9 (by decide) m_fl_RX11_65 rfl dX11_fit_94 ?_
        refine lv_iconst (v := 1) hx hb dX11_fit_97 (by decide) ?_
        refine z_put C G clX3 5 rfl 0 (by decide) m_fl_RX11_109 rfl rfl rfl (Nat.le_of_ble_eq_true rfl) dX11_fit_98 (fun H locs G => ?_)
        have G : zS T A s.heap s [z1_, wg0_, wwB, wt, [(xo, .inr (10, [.ref t, .ref im, .ref mk, .ref rd, .ref po, .ref co, .ref tr, .ref wa, .ref wb_, .ref fi, .ref cd]))], [(fi, .inr (3, [.int 1, .int i1, .int i2, .int s3_129, .int s4_130, .int s5_131, .ref a1_136, .ref a2_137]))], [(a1_136, .inl (T.2 0, zFl m1f wy2_114, .inl g1_132))], [(a2_137, .inl (T.2 0, 7, .inl r2f))], w2_112, z0_, wg1_] _ _ := G
        refine lv_iconst (v := 1) hx hb dX11_fit_101 (by decide) ?_
        have hw_138 : bFit T fi 1 i1 i2 s3_129 s4_130 s5_131 g1_132 (zFl m1f wy2_114) r2f [(fi, .inr (3, [.int 1, .int i1, .int i2, .int s3_129, .int s4_130, .int s5_131, .ref a1_136, .ref a2_137])), (a1_136, .inl (T.2 0, zFl m1f wy2_114, .inl g1_132)), (a2_137, .inl (T.2 0, 7, .inl r2f))] := ⟨a1_136, a2_137, rfl⟩
        have G : zS T A s.heap s [z1_, wg0_, wwB, wt, [(xo, .inr (10, [.ref t, .ref im, .ref mk, .ref rd, .ref po, .ref co, .ref tr, .ref wa, .ref wb_, .ref fi, .ref cd]))], [(fi, .inr (3, [.int 1, .int i1, .int i2, .int s3_129, .int s4_130, .int s5_131, .ref a1_136, .ref a2_137])), (a1_136, .inl (T.2 0, zFl m1f wy2_114, .inl g1_132)), (a2_137, .inl (T.2 0, 7, .inl r2f))], w2_112, z0_, wg1_] _ _ := G.re rfl
        have G := G.sub (bs' := [[(xo, .inr (10, [.ref t, .ref im, .ref mk, .ref rd, .ref po, .ref co, .ref tr, .ref wa, .ref wb_, .ref fi, .ref cd]))], wt, z0_, z1_, wg0_, wg1_, w2_112, wwB, [(fi, .inr (3, [.int 1, .int i1, .int i2, .int s3_129, .int s4_130, .int s5_131, .ref a1_136, .ref a2_137])), (a1_136, .inl (T.2 0, zFl m1f wy2_114, .inl g1_132)), (a2_137, .inl (T.2 0, 7, .inl r2f))]]) [4, 3, 7, 0, 1, 8, 6, 2, 5] rfl
        exact z_zret C hr hlocks G (by omega) (by omega) dX11_fit_102 rfl ⟨l0, m2_113, wy2_114, pc2_115, g1_116, g2_117, f3A, g4_118, g5_119, g6_120, (zMk mdA n4A (zPl cr0_ inn0_ k10_)), w2_112, laB, mdB, wyB, pc_B, f1B, f2B, f3B, f4B, f5B, f6B, n4B, wwB, 1, i1, i2, s3_129, s4_130, s5_131, g1_132, (zFl m1f wy2_114), r2f, ([(fi, .inr (3, [.int 1, .int i1, .int i2, .int s3_129, .int s4_130, .int s5_131, .ref a1_136, .ref a2_137])), (a1_136, .inl (T.2 0, zFl m1f wy2_114, .inl g1_132)), (a2_137, .inl (T.2 0, 7, .inl r2f))]), rfl, h_122, (Or.inr rfl), hwy9, hNAm.symm, (zMk_pw hpwA), (fun _ => h_125), hwwB, hmdB, hwmB, (zNA_n (by omega)).symm, hpwB, (fun q => q), hw_138, hNF.symm, hfw9, h39, (Or.inr ⟨rfl, by omega, by decide, rfl⟩), (fun _ => Or.inl ⟨by omega, h_125⟩)⟩
      · have c_111n : ¬ e0f.toInt = (0 : Int) := fun q => c_111 ((fa_eq _ _).mpr q)
        refine lv_aload_n hx hb dX11_fit_40 rfl (lv_at hl 2 rfl) ?_
        refine z_get C G clX11 0 rfl 9 (by decide) m_fl_RX11_65 rfl dX11_fit_41 ?_
        refine z_get C G clX3 7 rfl 1 (by decide) m_fl_RX11_292 rfl dX11_fit_44 ?_
        refine lv_iload_n hx hb dX11_fit_47 rfl (lv_at hl 3 rfl) ?_
        refine lv_icmp_ne (tgt := 62) hx hb dX11_fit_48 (by decide) (fun c_139 => ?_) (fun c_139 => ?_)
        · have c_139n : ¬ e1f.toInt = i1.toInt := fun q => c_139 ((fa_eq _ _).mpr q)
          refine lv_aload_n hx hb dX11_fit_62 rfl (lv_at hl 2 rfl) ?_
          refine z_get C G clX11 0 rfl 9 (by decide) m_fl_RX11_65 rfl dX11_fit_63 ?_
          refine lv_aload_n hx hb dX11_fit_66 rfl (lv_at hl 2 rfl) ?_
          refine lv_iload_n hx hb dX11_fit_67 rfl (lv_at hl 3 rfl) ?_
          refine lv_aload_n hx hb dX11_fit_68 rfl (lv_at hl 1 rfl) ?_
          have hcF : (i1.toInt = 0 ∧ 0 < (fk 0).toInt ∧ (0 ≤ i2.toInt ∧ i2.toInt < (fk 2).toInt ∧ i2.toInt < 2) ∧ (e0f.toInt = 0 ∨ ¬ e1f.toInt = i1.toInt ∨ ¬ e2f.toInt = i2.toInt)) := by omega
          have hcN : ¬ (i1.toInt = 1 ∧ 1 < (fk 0).toInt ∧ (0 ≤ i2.toInt ∧ i2.toInt < (fk 2).toInt ∧ i2.toInt < 2) ∧ (e0f.toInt = 0 ∨ ¬ e1f.toInt = i1.toInt ∨ ¬ e2f.toInt = i2.toInt)) := by omega
          have hNAm : zNA (i1.toInt = 0 ∧ 0 < (fk 0).toInt ∧ (0 ≤ i2.toInt ∧ i2.toInt < (fk 2).toInt ∧ i2.toInt < 2) ∧ (e0f.toInt = 0 ∨ ¬ e1f.toInt = i1.toInt ∨ ¬ e2f.toInt = i2.toInt)) mdA n4A (zPl cr0_ inn0_ k10_) = zMk mdA n4A (zPl cr0_ inn0_ k10_) := zNA_y hcF
          have hNAo : zNA (i1.toInt = 1 ∧ 1 < (fk 0).toInt ∧ (0 ≤ i2.toInt ∧ i2.toInt < (fk 2).toInt ∧ i2.toInt < 2) ∧ (e0f.toInt = 0 ∨ ¬ e1f.toInt = i1.toInt ∨ ¬ e2f.toInt = i2.toInt)) mdB n4B (zPl cr1_ inn1_ k11_) = n4B := zNA_n hcN
          have hn9 : zMk mdA n4A (zPl cr0_ inn0_ k10_) ≤ 131072 := zPw_le (zMk_pw hpwA)
          refine z_Vq (bc := [[(xo, .inr (10, [.ref t, .ref im, .ref mk, .ref rd, .ref po, .ref co, .ref tr, .ref wa, .ref wb_, .ref fi, .ref cd]))], wwA, z0_]) (br := [z1_, wg0_, wg1_, wwB, [(fi, .inr (3, [.int e0f, .int e1f, .int e2f, .int e3f, .int e4f, .int e5f, .ref a1_109, .ref a2_110]))], [(a1_109, .inl (T.2 0, m1f, .inl r1f))], [(a2_110, .inl (T.2 0, 7, .inl r2f))], wt]) (As := [.int i1, .ref l0]) (rest := [.ref fi]) C G (c_waysInA l T xo t im mk rd po co tr wa wb_ fi cd i1 laA mdA wyA pc_A f1A f2A f3A f4A f5A f6A n4A wwA l0 cr0_ inn0_ k10_ k20_ k30_ k40_ z0_ hwwA hz0_ hI0_ hpwA hmdA hwmA (by omega)) (kV_RX11_235 C.2.2.2.2 (Nat.le_of_ble_eq_true rfl) (Nat.le_of_ble_eq_true rfl)) [0, 5, 1] [2, 3, 4, 6, 7, 8, 9, 10] rfl rfl (ci := 10) (qc := (RX11, TX11, 11)) rfl rfl (List.mem_flatten.mpr ⟨_, List.mem_of_getElem? (i := 0) rfl, List.mem_cons_self⟩) rfl rfl hl.1 dX11_fit_69 (by show _ + 3 ≤ 4; omega) (by show _ + (6 * (zMk mdA n4A (zPl cr0_ inn0_ k10_) - n4A)) ≤ 6 * (zNA (i1.toInt = 0 ∧ 0 < (fk 0).toInt ∧ (0 ≤ i2.toInt ∧ i2.toInt < (fk 2).toInt ∧ i2.toInt < 2) ∧ (e0f.toInt = 0 ∨ ¬ e1f.toInt = i1.toInt ∨ ¬ e2f.toInt = i2.toInt)) mdA n4A (zPl cr0_ inn0_ k10_) - n4A) + 6 * (zNA (i1.toInt = 1 ∧ 1 < (fk 0).toInt ∧ (0 ≤ i2.toInt ∧ i2.toInt < (fk 2).toInt ∧ i2.toInt < 2) ∧ (e0f.toInt = 0 ∨ ¬ e1f.toInt = i1.toInt ∨ ¬ e2f.toInt = i2.toInt)) mdB n4B (zPl cr1_ inn1_ k11_) - n4B) + 2 * (zNF (i1.toInt = 1 ∧ 1 < (fk 0).toInt ∧ (0 ≤ i2.toInt ∧ i2.toInt < (fk 2).toInt ∧ i2.toInt < 2) ∧ (e0f.toInt = 0 ∨ ¬ e1f.toInt = i1.toInt ∨ ¬ e2f.toInt = i2.toInt)) (zNF (i1.toInt = 0 ∧ 0 < (fk 0).toInt ∧ (0 ≤ i2.toInt ∧ i2.toInt < (fk 2).toInt ∧ i2.toInt < 2) ∧ (e0f.toInt = 0 ∨ ¬ e1f.toInt = i1.toInt ∨ ¬ e2f.toInt = i2.toInt)) m1f (zMw mdA wyA cr0_ inn0_ k10_)) (zMw mdB wyB cr1_ inn1_ k11_) - m1f); omega) (fun r_154 b1 H locs hw G => ?_)
          refine zEx9 hw ?_
          intro w2_140 m2_141 wy2_142 pc2_143 g1_144 g2_145 g4_146 g5_147 g6_148
          refine zCu6 ?_
          intro hbs9 h_149 h_150 h_151 h_152 h_153
          clear hw
          subst hbs9
          have G : zS T A s.heap s [z1_, wg0_, wg1_, wwB, [(fi, .inr (3, [.int e0f, .int e1f, .int e2f, .int e3f, .int e4f, .int e5f, .ref a1_109, .ref a2_110]))], [(a1_109, .inl (T.2 0, m1f, .inl r1f))], [(a2_110, .inl (T.2 0, 7, .inl r2f))], wt, [(xo, .inr (10, [.ref t, .ref im, .ref mk, .ref rd, .ref po, .ref co, .ref tr, .ref wa, .ref wb_, .ref fi, .ref cd]))], w2_140, z0_] _ _ := G
          subst h_149
          have hwy9 := h_151
          have hNF : zNF (i1.toInt = 1 ∧ 1 < (fk 0).toInt ∧ (0 ≤ i2.toInt ∧ i2.toInt < (fk 2).toInt ∧ i2.toInt < 2) ∧ (e0f.toInt = 0 ∨ ¬ e1f.toInt = i1.toInt ∨ ¬ e2f.toInt = i2.toInt)) (zNF (i1.toInt = 0 ∧ 0 < (fk 0).toInt ∧ (0 ≤ i2.toInt ∧ i2.toInt < (fk 2).toInt ∧ i2.toInt < 2) ∧ (e0f.toInt = 0 ∨ ¬ e1f.toInt = i1.toInt ∨ ¬ e2f.toInt = i2.toInt)) m1f (zMw mdA wyA cr0_ inn0_ k10_)) (zMw mdB wyB cr1_ inn1_ k11_) = zFl m1f wy2_142 := by rw [zNF_n (c := (i1.toInt = 1 ∧ 1 < (fk 0).toInt ∧ (0 ≤ i2.toInt ∧ i2.toInt < (fk 2).toInt ∧ i2.toInt < 2) ∧ (e0f.toInt = 0 ∨ ¬ e1f.toInt = i1.toInt ∨ ¬ e2f.toInt = i2.toInt))) hcN, zNF_y hcF, h_152]
          have hfw9 := zFl_pw (wy := wy2_142) hfw
          refine lv_aload hx hb dX11_fit_72 (lv_at hl 0 rfl) ?_
          have hw_155 : bFit T fi e0f e1f e2f e3f e4f e5f r1f m1f r2f [(fi, .inr (3, [.int e0f, .int e1f, .int e2f, .int e3f, .int e4f, .int e5f, .ref a1_109, .ref a2_110])), (a1_109, .inl (T.2 0, m1f, .inl r1f)), (a2_110, .inl (T.2 0, 7, .inl r2f))] := ⟨a1_109, a2_110, rfl⟩
          have G : zS T A s.heap s [z1_, wg0_, wg1_, wwB, [(fi, .inr (3, [.int e0f, .int e1f, .int e2f, .int e3f, .int e4f, .int e5f, .ref a1_109, .ref a2_110])), (a1_109, .inl (T.2 0, m1f, .inl r1f)), (a2_110, .inl (T.2 0, 7, .inl r2f))], wt, [(xo, .inr (10, [.ref t, .ref im, .ref mk, .ref rd, .ref po, .ref co, .ref tr, .ref wa, .ref wb_, .ref fi, .ref cd]))], w2_140, z0_] _ _ := G.re rfl
          refine z_Vv (bc := [[(fi, .inr (3, [.int e0f, .int e1f, .int e2f, .int e3f, .int e4f, .int e5f, .ref a1_109, .ref a2_110])), (a1_109, .inl (T.2 0, m1f, .inl r1f)), (a2_110, .inl (T.2 0, 7, .inl r2f))], w2_140, z0_, wg1_]) (br := [z1_, wg0_, wwB, wt, [(xo, .inr (10, [.ref t, .ref im, .ref mk, .ref rd, .ref po, .ref co, .ref tr, .ref wa, .ref wb_, .ref fi, .ref cd]))]]) (As := [.ref wa, .ref g1]) (rest := []) C G (c_find l T fi e0f e1f e2f e3f e4f e5f r1f m1f r2f ([(fi, .inr (3, [.int e0f, .int e1f, .int e2f, .int e3f, .int e4f, .int e5f, .ref a1_109, .ref a2_110])), (a1_109, .inl (T.2 0, m1f, .inl r1f)), (a2_110, .inl (T.2 0, 7, .inl r2f))]) wa l0 m2_141 wy2_142 pc2_143 g1_144 g2_145 f3A g4_146 g5_147 g6_148 (zMk mdA n4A (zPl cr0_ inn0_ k10_)) w2_140 cr0_ inn0_ k10_ k20_ k30_ k40_ z0_ g1 gg1_ q11_ q21_ wg1_ hw_155 h_150 hz0_ hg1_ hn9 hfw hwy9) (kV_RX11_298 C.2.2.2.2 (Nat.le_of_ble_eq_true rfl) (Nat.le_of_ble_eq_true rfl)) [4, 7, 8, 2] [0, 1, 3, 5, 6] rfl rfl (ci := 3) (qc := (RX3, TX3, 8)) rfl rfl (List.mem_flatten.mpr ⟨_, List.mem_of_getElem? (i := 0) rfl, (bFit_mem hw_155).choose_spec⟩) rfl rfl hl.1 dX11_fit_74 (by show _ + 1 ≤ 4; omega) (by show _ + (2 * (zFl m1f wy2_142 - m1f)) ≤ 6 * (zNA (i1.toInt = 0 ∧ 0 < (fk 0).toInt ∧ (0 ≤ i2.toInt ∧ i2.toInt < (fk 2).toInt ∧ i2.toInt < 2) ∧ (e0f.toInt = 0 ∨ ¬ e1f.toInt = i1.toInt ∨ ¬ e2f.toInt = i2.toInt)) mdA n4A (zPl cr0_ inn0_ k10_) - n4A) + 6 * (zNA (i1.toInt = 1 ∧ 1 < (fk 0).toInt ∧ (0 ≤ i2.toInt ∧ i2.toInt < (fk 2).toInt ∧ i2.toInt < 2) ∧ (e0f.toInt = 0 ∨ ¬ e1f.toInt = i1.toInt ∨ ¬ e2f.toInt = i2.toInt)) mdB n4B (zPl cr1_ inn1_ k11_) - n4B) + 2 * (zNF (i1.toInt = 1 ∧ 1 < (fk 0).toInt ∧ (0 ≤ i2.toInt ∧ i2.toInt < (fk 2).toInt ∧ i2.toInt < 2) ∧ (e0f.toInt = 0 ∨ ¬ e1f.toInt = i1.toInt ∨ ¬ e2f.toInt = i2.toInt)) (zNF (i1.toInt = 0 ∧ 0 < (fk 0).toInt ∧ (0 ≤ i2.toInt ∧ i2.toInt < (fk 2).toInt ∧ i2.toInt < 2) ∧ (e0f.toInt = 0 ∨ ¬ e1f.toInt = i1.toInt ∨ ¬ e2f.toInt = i2.toInt)) m1f (zMw mdA wyA cr0_ inn0_ k10_)) (zMw mdB wyB cr1_ inn1_ k11_) - m1f); omega) (fun b1 H locs hw G => ?_)
          refine zEx5 hw ?_
          intro w2_156 s3_157 s4_158 s5_159 g1_160
          refine zCu3 ?_
          intro hbs9 h_161 h_162
          clear hw
          subst hbs9
          have G : zS T A s.heap s [z1_, wg0_, wwB, wt, [(xo, .inr (10, [.ref t, .ref im, .ref mk, .ref rd, .ref po, .ref co, .ref tr, .ref wa, .ref wb_, .ref fi, .ref cd]))], w2_156, w2_140, z0_, wg1_] _ _ := G
          have h39 := h_162
          refine lv_aload_n hx hb dX11_fit_77 rfl (lv_at hl 2 rfl) ?_
          refine z_get C G clX11 4 rfl 9 (by decide) m_fl_RX11_65 rfl dX11_fit_78 ?_
          refine lv_iload_n hx hb dX11_fit_81 rfl (lv_at hl 3 rfl) ?_
          refine zEx2 h_161 ?_
          intro a1_164 a2_165 hbs9
          clear h_161
          subst hbs9
          have G : zS T A s.heap s [z1_, wg0_, wwB, wt, [(xo, .inr (10, [.ref t, .ref im, .ref mk, .ref rd, .ref po, .ref co, .ref tr, .ref wa, .ref wb_, .ref fi, .ref cd]))], [(fi, .inr (3, [.int e0f, .int e1f, .int e2f, .int s3_157, .int s4_158, .int s5_159, .ref a1_164, .ref a2_165]))], [(a1_164, .inl (T.2 0, zFl m1f wy2_142, .inl g1_160))], [(a2_165, .inl (T.2 0, 7, .inl r2f))], w2_140, z0_, wg1_] _ _ := G.re rfl
          refine z_put C G clX3 5 rfl 1 (by decide) m_fl_RX11_292 rfl rfl rfl (Nat.le_of_ble_eq_true rfl) dX11_fit_82 (fun H locs G => ?_)
          have G : zS T A s.heap s [z1_, wg0_, wwB, wt, [(xo, .inr (10, [.ref t, .ref im, .ref mk, .ref rd, .ref po, .ref co, .ref tr, .ref wa, .ref wb_, .ref fi, .ref cd]))], [(fi, .inr (3, [.int e0f, .int i1, .int e2f, .int s3_157, .int s4_158, .int s5_159, .ref a1_164, .ref a2_165]))], [(a1_164, .inl (T.2 0, zFl m1f wy2_142, .inl g1_160))], [(a2_165, .inl (T.2 0, 7, .inl r2f))], w2_140, z0_, wg1_] _ _ := G
          refine lv_aload_n hx hb dX11_fit_85 rfl (lv_at hl 2 rfl) ?_
          refine z_get C G clX11 4 rfl 9 (by decide) m_fl_RX11_65 rfl dX11_fit_86 ?_
          refine lv_iload_n hx hb dX11_fit_89 rfl (lv_at hl 4 rfl) ?_
          refine z_put C G clX3 5 rfl 2 (by decide) m_fl_RX11_295 rfl rfl rfl (Nat.le_of_ble_eq_true rfl) dX11_fit_90 (fun H locs G => ?_)
          have G : zS T A s.heap s [z1_, wg0_, wwB, wt, [(xo, .inr (10, [.ref t, .ref im, .ref mk, .ref rd, .ref po, .ref co, .ref tr, .ref wa, .ref wb_, .ref fi, .ref cd]))], [(fi, .inr (3, [.int e0f, .int i1, .int i2, .int s3_157, .int s4_158, .int s5_159, .ref a1_164, .ref a2_165]))], [(a1_164, .inl (T.2 0, zFl m1f wy2_142, .inl g1_160))], [(a2_165, .inl (T.2 0, 7, .inl r2f))], w2_140, z0_, wg1_] _ _ := G
          refine lv_aload_n hx hb dX11_fit_93 rfl (lv_at hl 2 rfl) ?_
          refine z_get C G clX11 4 rfl 9 (by decide) m_fl_RX11_65 rfl dX11_fit_94 ?_
          refine lv_iconst (v := 1) hx hb dX11_fit_97 (by decide) ?_
          refine z_put C G clX3 5 rfl 0 (by decide) m_fl_RX11_109 rfl rfl rfl (Nat.le_of_ble_eq_true rfl) dX11_fit_98 (fun H locs G => ?_)
          have G : zS T A s.heap s [z1_, wg0_, wwB, wt, [(xo, .inr (10, [.ref t, .ref im, .ref mk, .ref rd, .ref po, .ref co, .ref tr, .ref wa, .ref wb_, .ref fi, .ref cd]))], [(fi, .inr (3, [.int 1, .int i1, .int i2, .int s3_157, .int s4_158, .int s5_159, .ref a1_164, .ref a2_165]))], [(a1_164, .inl (T.2 0, zFl m1f wy2_142, .inl g1_160))], [(a2_165, .inl (T.2 0, 7, .inl r2f))], w2_140, z0_, wg1_] _ _ := G
          refine lv_iconst (v := 1) hx hb dX11_fit_101 (by decide) ?_
          have hw_166 : bFit T fi 1 i1 i2 s3_157 s4_158 s5_159 g1_160 (zFl m1f wy2_142) r2f [(fi, .inr (3, [.int 1, .int i1, .int i2, .int s3_157, .int s4_158, .int s5_159, .ref a1_164, .ref a2_165])), (a1_164, .inl (T.2 0, zFl m1f wy2_142, .inl g1_160)), (a2_165, .inl (T.2 0, 7, .inl r2f))] := ⟨a1_164, a2_165, rfl⟩
          have G : zS T A s.heap s [z1_, wg0_, wwB, wt, [(xo, .inr (10, [.ref t, .ref im, .ref mk, .ref rd, .ref po, .ref co, .ref tr, .ref wa, .ref wb_, .ref fi, .ref cd]))], [(fi, .inr (3, [.int 1, .int i1, .int i2, .int s3_157, .int s4_158, .int s5_159, .ref a1_164, .ref a2_165])), (a1_164, .inl (T.2 0, zFl m1f wy2_142, .inl g1_160)), (a2_165, .inl (T.2 0, 7, .inl r2f))], w2_140, z0_, wg1_] _ _ := G.re rfl
          have G := G.sub (bs' := [[(xo, .inr (10, [.ref t, .ref im, .ref mk, .ref rd, .ref po, .ref co, .ref tr, .ref wa, .ref wb_, .ref fi, .ref cd]))], wt, z0_, z1_, wg0_, wg1_, w2_140, wwB, [(fi, .inr (3, [.int 1, .int i1, .int i2, .int s3_157, .int s4_158, .int s5_159, .ref a1_164, .ref a2_165])), (a1_164, .inl (T.2 0, zFl m1f wy2_142, .inl g1_160)), (a2_165, .inl (T.2 0, 7, .inl r2f))]]) [4, 3, 7, 0, 1, 8, 6, 2, 5] rfl
          exact z_zret C hr hlocks G (by omega) (by omega) dX11_fit_102 rfl ⟨l0, m2_141, wy2_142, pc2_143, g1_144, g2_145, f3A, g4_146, g5_147, g6_148, (zMk mdA n4A (zPl cr0_ inn0_ k10_)), w2_140, laB, mdB, wyB, pc_B, f1B, f2B, f3B, f4B, f5B, f6B, n4B, wwB, 1, i1, i2, s3_157, s4_158, s5_159, g1_160, (zFl m1f wy2_142), r2f, ([(fi, .inr (3, [.int 1, .int i1, .int i2, .int s3_157, .int s4_158, .int s5_159, .ref a1_164, .ref a2_165])), (a1_164, .inl (T.2 0, zFl m1f wy2_142, .inl g1_160)), (a2_165, .inl (T.2 0, 7, .inl r2f))]), rfl, h_150, (Or.inr rfl), hwy9, hNAm.symm, (zMk_pw hpwA), (fun _ => h_153), hwwB, hmdB, hwmB, (zNA_n (by omega)).symm, hpwB, (fun q => q), hw_166, hNF.symm, hfw9, h39, (Or.inr ⟨rfl, by omega, by decide, rfl⟩), (fun _ => Or.inl ⟨by omega, h_153⟩)⟩
        · have c_139n : e1f.toInt = i1.toInt := (fa_eq _ _).mp c_139
          refine lv_aload_n hx hb dX11_fit_51 rfl (lv_at hl 2 rfl) ?_
          refine z_get C G clX11 0 rfl 9 (by decide) m_fl_RX11_65 rfl dX11_fit_52 ?_
          refine z_get C G clX3 7 rfl 2 (by decide) m_fl_RX11_295 rfl dX11_fit_55 ?_
          refine lv_iload_n hx hb dX11_fit_58 rfl (lv_at hl 4 rfl) ?_
          refine lv_icmp_eq (tgt := 101) hx hb dX11_fit_59 (by decide) (fun c_167 => ?_) (fun c_167 => ?_)
          · have c_167n : e2f.toInt = i2.toInt := (fa_eq _ _).mp c_167
            refine lv_iconst (v := 1) hx hb dX11_fit_101 (by decide) ?_
            have hw_168 : bFit T fi e0f e1f e2f e3f e4f e5f r1f m1f r2f [(fi, .inr (3, [.int e0f, .int e1f, .int e2f, .int e3f, .int e4f, .int e5f, .ref a1_109, .ref a2_110])), (a1_109, .inl (T.2 0, m1f, .inl r1f)), (a2_110, .inl (T.2 0, 7, .inl r2f))] := ⟨a1_109, a2_110, rfl⟩
            have G : zS T A s.heap s [[(xo, .inr (10, [.ref t, .ref im, .ref mk, .ref rd, .ref po, .ref co, .ref tr, .ref wa, .ref wb_, .ref fi, .ref cd]))], z0_, z1_, wg0_, wg1_, wwA, wwB, [(fi, .inr (3, [.int e0f, .int e1f, .int e2f, .int e3f, .int e4f, .int e5f, .ref a1_109, .ref a2_110])), (a1_109, .inl (T.2 0, m1f, .inl r1f)), (a2_110, .inl (T.2 0, 7, .inl r2f))], wt] _ _ := G.re rfl
            have G := G.sub (bs' := [[(xo, .inr (10, [.ref t, .ref im, .ref mk, .ref rd, .ref po, .ref co, .ref tr, .ref wa, .ref wb_, .ref fi, .ref cd]))], wt, z0_, z1_, wg0_, wg1_, wwA, wwB, [(fi, .inr (3, [.int e0f, .int e1f, .int e2f, .int e3f, .int e4f, .int e5f, .ref a1_109, .ref a2_110])), (a1_109, .inl (T.2 0, m1f, .inl r1f)), (a2_110, .inl (T.2 0, 7, .inl r2f))]]) [0, 8, 1, 2, 3, 4, 5, 6, 7] rfl
            exact z_zret C hr hlocks G (by omega) (by omega) dX11_fit_102 rfl ⟨laA, mdA, wyA, pc_A, f1A, f2A, f3A, f4A, f5A, f6A, n4A, wwA, laB, mdB, wyB, pc_B, f1B, f2B, f3B, f4B, f5B, f6B, n4B, wwB, e0f, e1f, e2f, e3f, e4f, e5f, r1f, m1f, r2f, ([(fi, .inr (3, [.int e0f, .int e1f, .int e2f, .int e3f, .int e4f, .int e5f, .ref a1_109, .ref a2_110])), (a1_109, .inl (T.2 0, m1f, .inl r1f)), (a2_110, .inl (T.2 0, 7, .inl r2f))]), rfl, hwwA, hmdA, hwmA, (zNA_n (by omega)).symm, hpwA, (fun q => q), hwwB, hmdB, hwmB, (zNA_n (by omega)).symm, hpwB, (fun q => q), hw_168, (((zNF_n (c := (i1.toInt = 1 ∧ 1 < (fk 0).toInt ∧ (0 ≤ i2.toInt ∧ i2.toInt < (fk 2).toInt ∧ i2.toInt < 2) ∧ (e0f.toInt = 0 ∨ ¬ e1f.toInt = i1.toInt ∨ ¬ e2f.toInt = i2.toInt))) (by omega)).trans (zNF_n (by omega))).symm), hfw, hf3, (Or.inr ⟨rfl, by omega, (fun q => absurd (congrArg Int32.toInt q) (by show ¬ _ = (0 : Int); omega)), by omega⟩), hFI⟩
          · have c_167n : ¬ e2f.toInt = i2.toInt := fun q => c_167 ((fa_eq _ _).mpr q)
            refine lv_aload_n hx hb dX11_fit_62 rfl (lv_at hl 2 rfl) ?_
            refine z_get C G clX11 0 rfl 9 (by decide) m_fl_RX11_65 rfl dX11_fit_63 ?_
            refine lv_aload_n hx hb dX11_fit_66 rfl (lv_at hl 2 rfl) ?_
            refine lv_iload_n hx hb dX11_fit_67 rfl (lv_at hl 3 rfl) ?_
            refine lv_aload_n hx hb dX11_fit_68 rfl (lv_at hl 1 rfl) ?_
            have hcF : (i1.toInt = 0 ∧ 0 < (fk 0).toInt ∧ (0 ≤ i2.toInt ∧ i2.toInt < (fk 2).toInt ∧ i2.toInt < 2) ∧ (e0f.toInt = 0 ∨ ¬ e1f.toInt = i1.toInt ∨ ¬ e2f.toInt = i2.toInt)) := by omega
            have hcN : ¬ (i1.toInt = 1 ∧ 1 < (fk 0).toInt ∧ (0 ≤ i2.toInt ∧ i2.toInt < (fk 2).toInt ∧ i2.toInt < 2) ∧ (e0f.toInt = 0 ∨ ¬ e1f.toInt = i1.toInt ∨ ¬ e2f.toInt = i2.toInt)) := by omega
            have hNAm : zNA (i1.toInt = 0 ∧ 0 < (fk 0).toInt ∧ (0 ≤ i2.toInt ∧ i2.toInt < (fk 2).toInt ∧ i2.toInt < 2) ∧ (e0f.toInt = 0 ∨ ¬ e1f.toInt = i1.toInt ∨ ¬ e2f.toInt = i2.toInt)) mdA n4A (zPl cr0_ inn0_ k10_) = zMk mdA n4A (zPl cr0_ inn0_ k10_) := zNA_y hcF
            have hNAo : zNA (i1.toInt = 1 ∧ 1 < (fk 0).toInt ∧ (0 ≤ i2.toInt ∧ i2.toInt < (fk 2).toInt ∧ i2.toInt < 2) ∧ (e0f.toInt = 0 ∨ ¬ e1f.toInt = i1.toInt ∨ ¬ e2f.toInt = i2.toInt)) mdB n4B (zPl cr1_ inn1_ k11_) = n4B := zNA_n hcN
            have hn9 : zMk mdA n4A (zPl cr0_ inn0_ k10_) ≤ 131072 := zPw_le (zMk_pw hpwA)
            refine z_Vq (bc := [[(xo, .inr (10, [.ref t, .ref im, .ref mk, .ref rd, .ref po, .ref co, .ref tr, .ref wa, .ref wb_, .ref fi, .ref cd]))], wwA, z0_]) (br := [z1_, wg0_, wg1_, wwB, [(fi, .inr (3, [.int e0f, .int e1f, .int e2f, .int e3f, .int e4f, .int e5f, .ref a1_109, .ref a2_110]))], [(a1_109, .inl (T.2 0, m1f, .inl r1f))], [(a2_110, .inl (T.2 0, 7, .inl r2f))], wt]) (As := [.int i1, .ref l0]) (rest := [.ref fi]) C G (c_waysInA l T xo t im mk rd po co tr wa wb_ fi cd i1 laA mdA wyA pc_A f1A f2A f3A f4A f5A f6A n4A wwA l0 cr0_ inn0_ k10_ k20_ k30_ k40_ z0_ hwwA hz0_ hI0_ hpwA hmdA hwmA (by omega)) (kV_RX11_235 C.2.2.2.2 (Nat.le_of_ble_eq_true rfl) (Nat.le_of_ble_eq_true rfl)) [0, 5, 1] [2, 3, 4, 6, 7, 8, 9, 10] rfl rfl (ci := 10) (qc := (RX11, TX11, 11)) rfl rfl (List.mem_flatten.mpr ⟨_, List.mem_of_getElem? (i := 0) rfl, List.mem_cons_self⟩) rfl rfl hl.1 dX11_fit_69 (by show _ + 3 ≤ 4; omega) (by show _ + (6 * (zMk mdA n4A (zPl cr0_ inn0_ k10_) - n4A)) ≤ 6 * (zNA (i1.toInt = 0 ∧ 0 < (fk 0).toInt ∧ (0 ≤ i2.toInt ∧ i2.toInt < (fk 2).toInt ∧ i2.toInt < 2) ∧ (e0f.toInt = 0 ∨ ¬ e1f.toInt = i1.toInt ∨ ¬ e2f.toInt = i2.toInt)) mdA n4A (zPl cr0_ inn0_ k10_) - n4A) + 6 * (zNA (i1.toInt = 1 ∧ 1 < (fk 0).toInt ∧ (0 ≤ i2.toInt ∧ i2.toInt < (fk 2).toInt ∧ i2.toInt < 2) ∧ (e0f.toInt = 0 ∨ ¬ e1f.toInt = i1.toInt ∨ ¬ e2f.toInt = i2.toInt)) mdB n4B (zPl cr1_ inn1_ k11_) - n4B) + 2 * (zNF (i1.toInt = 1 ∧ 1 < (fk 0).toInt ∧ (0 ≤ i2.toInt ∧ i2.toInt < (fk 2).toInt ∧ i2.toInt < 2) ∧ (e0f.toInt = 0 ∨ ¬ e1f.toInt = i1.toInt ∨ ¬ e2f.toInt = i2.toInt)) (zNF (i1.toInt = 0 ∧ 0 < (fk 0).toInt ∧ (0 ≤ i2.toInt ∧ i2.toInt < (fk 2).toInt ∧ i2.toInt < 2) ∧ (e0f.toInt = 0 ∨ ¬ e1f.toInt = i1.toInt ∨ ¬ e2f.toInt = i2.toInt)) m1f (zMw mdA wyA cr0_ inn0_ k10_)) (zMw mdB wyB cr1_ inn1_ k11_) - m1f); omega) (fun r_183 b1 H locs hw G => ?_)
            refine zEx9 hw ?_
            intro w2_169 m2_170 wy2_171 pc2_172 g1_173 g2_174 g4_175 g5_176 g6_177
            refine zCu6 ?_
            intro hbs9 h_178 h_179 h_180 h_181 h_182
            clear hw
            subst hbs9
            have G : zS T A s.heap s [z1_, wg0_, wg1_, wwB, [(fi, .inr (3, [.int e0f, .int e1f, .int e2f, .int e3f, .int e4f, .int e5f, .ref a1_109, .ref a2_110]))], [(a1_109, .inl (T.2 0, m1f, .inl r1f))], [(a2_110, .inl (T.2 0, 7, .inl r2f))], wt, [(xo, .inr (10, [.ref t, .ref im, .ref mk, .ref rd, .ref po, .ref co, .ref tr, .ref wa, .ref wb_, .ref fi, .ref cd]))], w2_169, z0_] _ _ := G
            subst h_178
            have hwy9 := h_180
            have hNF : zNF (i1.toInt = 1 ∧ 1 < (fk 0).toInt ∧ (0 ≤ i2.toInt ∧ i2.toInt < (fk 2).toInt ∧ i2.toInt < 2) ∧ (e0f.toInt = 0 ∨ ¬ e1f.toInt = i1.toInt ∨ ¬ e2f.toInt = i2.toInt)) (zNF (i1.toInt = 0 ∧ 0 < (fk 0).toInt ∧ (0 ≤ i2.toInt ∧ i2.toInt < (fk 2).toInt ∧ i2.toInt < 2) ∧ (e0f.toInt = 0 ∨ ¬ e1f.toInt = i1.toInt ∨ ¬ e2f.toInt = i2.toInt)) m1f (zMw mdA wyA cr0_ inn0_ k10_)) (zMw mdB wyB cr1_ inn1_ k11_) = zFl m1f wy2_171 := by rw [zNF_n (c := (i1.toInt = 1 ∧ 1 < (fk 0).toInt ∧ (0 ≤ i2.toInt ∧ i2.toInt < (fk 2).toInt ∧ i2.toInt < 2) ∧ (e0f.toInt = 0 ∨ ¬ e1f.toInt = i1.toInt ∨ ¬ e2f.toInt = i2.toInt))) hcN, zNF_y hcF, h_181]
            have hfw9 := zFl_pw (wy := wy2_171) hfw
            refine lv_aload hx hb dX11_fit_72 (lv_at hl 0 rfl) ?_
            have hw_184 : bFit T fi e0f e1f e2f e3f e4f e5f r1f m1f r2f [(fi, .inr (3, [.int e0f, .int e1f, .int e2f, .int e3f, .int e4f, .int e5f, .ref a1_109, .ref a2_110])), (a1_109, .inl (T.2 0, m1f, .inl r1f)), (a2_110, .inl (T.2 0, 7, .inl r2f))] := ⟨a1_109, a2_110, rfl⟩
            have G : zS T A s.heap s [z1_, wg0_, wg1_, wwB, [(fi, .inr (3, [.int e0f, .int e1f, .int e2f, .int e3f, .int e4f, .int e5f, .ref a1_109, .ref a2_110])), (a1_109, .inl (T.2 0, m1f, .inl r1f)), (a2_110, .inl (T.2 0, 7, .inl r2f))], wt, [(xo, .inr (10, [.ref t, .ref im, .ref mk, .ref rd, .ref po, .ref co, .ref tr, .ref wa, .ref wb_, .ref fi, .ref cd]))], w2_169, z0_] _ _ := G.re rfl
            refine z_Vv (bc := [[(fi, .inr (3, [.int e0f, .int e1f, .int e2f, .int e3f, .int e4f, .int e5f, .ref a1_109, .ref a2_110])), (a1_109, .inl (T.2 0, m1f, .inl r1f)), (a2_110, .inl (T.2 0, 7, .inl r2f))], w2_169, z0_, wg1_]) (br := [z1_, wg0_, wwB, wt, [(xo, .inr (10, [.ref t, .ref im, .ref mk, .ref rd, .ref po, .ref co, .ref tr, .ref wa, .ref wb_, .ref fi, .ref cd]))]]) (As := [.ref wa, .ref g1]) (rest := []) C G (c_find l T fi e0f e1f e2f e3f e4f e5f r1f m1f r2f ([(fi, .inr (3, [.int e0f, .int e1f, .int e2f, .int e3f, .int e4f, .int e5f, .ref a1_109, .ref a2_110])), (a1_109, .inl (T.2 0, m1f, .inl r1f)), (a2_110, .inl (T.2 0, 7, .inl r2f))]) wa l0 m2_170 wy2_171 pc2_172 g1_173 g2_174 f3A g4_175 g5_176 g6_177 (zMk mdA n4A (zPl cr0_ inn0_ k10_)) w2_169 cr0_ inn0_ k10_ k20_ k30_ k40_ z0_ g1 gg1_ q11_ q21_ wg1_ hw_184 h_179 hz0_ hg1_ hn9 hfw hwy9) (kV_RX11_298 C.2.2.2.2 (Nat.le_of_ble_eq_true rfl) (Nat.le_of_ble_eq_true rfl)) [4, 7, 8, 2] [0, 1, 3, 5, 6] rfl rfl (ci := 3) (qc := (RX3, TX3, 8)) rfl rfl (List.mem_flatten.mpr ⟨_, List.mem_of_getElem? (i := 0) rfl, (bFit_mem hw_184).choose_spec⟩) rfl rfl hl.1 dX11_fit_74 (by show _ + 1 ≤ 4; omega) (by show _ + (2 * (zFl m1f wy2_171 - m1f)) ≤ 6 * (zNA (i1.toInt = 0 ∧ 0 < (fk 0).toInt ∧ (0 ≤ i2.toInt ∧ i2.toInt < (fk 2).toInt ∧ i2.toInt < 2) ∧ (e0f.toInt = 0 ∨ ¬ e1f.toInt = i1.toInt ∨ ¬ e2f.toInt = i2.toInt)) mdA n4A (zPl cr0_ inn0_ k10_) - n4A) + 6 * (zNA (i1.toInt = 1 ∧ 1 < (fk 0).toInt ∧ (0 ≤ i2.toInt ∧ i2.toInt < (fk 2).toInt ∧ i2.toInt < 2) ∧ (e0f.toInt = 0 ∨ ¬ e1f.toInt = i1.toInt ∨ ¬ e2f.toInt = i2.toInt)) mdB n4B (zPl cr1_ inn1_ k11_) - n4B) + 2 * (zNF (i1.toInt = 1 ∧ 1 < (fk 0).toInt ∧ (0 ≤ i2.toInt ∧ i2.toInt < (fk 2).toInt ∧ i2.toInt < 2) ∧ (e0f.toInt = 0 ∨ ¬ e1f.toInt = i1.toInt ∨ ¬ e2f.toInt = i2.toInt)) (zNF (i1.toInt = 0 ∧ 0 < (fk 0).toInt ∧ (0 ≤ i2.toInt ∧ i2.toInt < (fk 2).toInt ∧ i2.toInt < 2) ∧ (e0f.toInt = 0 ∨ ¬ e1f.toInt = i1.toInt ∨ ¬ e2f.toInt = i2.toInt)) m1f (zMw mdA wyA cr0_ inn0_ k10_)) (zMw mdB wyB cr1_ inn1_ k11_) - m1f); omega) (fun b1 H locs hw G => ?_)
            refine zEx5 hw ?_
            intro w2_185 s3_186 s4_187 s5_188 g1_189
            refine zCu3 ?_
            intro hbs9 h_190 h_191
            clear hw
            subst hbs9
            have G : zS T A s.heap s [z1_, wg0_, wwB, wt, [(xo, .inr (10, [.ref t, .ref im, .ref mk, .ref rd, .ref po, .ref co, .ref tr, .ref wa, .ref wb_, .ref fi, .ref cd]))], w2_185, w2_169, z0_, wg1_] _ _ := G
            have h39 := h_191
            refine lv_aload_n hx hb dX11_fit_77 rfl (lv_at hl 2 rfl) ?_
            refine z_get C G clX11 4 rfl 9 (by decide) m_fl_RX11_65 rfl dX11_fit_78 ?_
            refine lv_iload_n hx hb dX11_fit_81 rfl (lv_at hl 3 rfl) ?_
            refine zEx2 h_190 ?_
            intro a1_193 a2_194 hbs9
            clear h_190
            subst hbs9
            have G : zS T A s.heap s [z1_, wg0_, wwB, wt, [(xo, .inr (10, [.ref t, .ref im, .ref mk, .ref rd, .ref po, .ref co, .ref tr, .ref wa, .ref wb_, .ref fi, .ref cd]))], [(fi, .inr (3, [.int e0f, .int e1f, .int e2f, .int s3_186, .int s4_187, .int s5_188, .ref a1_193, .ref a2_194]))], [(a1_193, .inl (T.2 0, zFl m1f wy2_171, .inl g1_189))], [(a2_194, .inl (T.2 0, 7, .inl r2f))], w2_169, z0_, wg1_] _ _ := G.re rfl
            refine z_put C G clX3 5 rfl 1 (by decide) m_fl_RX11_292 rfl rfl rfl (Nat.le_of_ble_eq_true rfl) dX11_fit_82 (fun H locs G => ?_)
            have G : zS T A s.heap s [z1_, wg0_, wwB, wt, [(xo, .inr (10, [.ref t, .ref im, .ref mk, .ref rd, .ref po, .ref co, .ref tr, .ref wa, .ref wb_, .ref fi, .ref cd]))], [(fi, .inr (3, [.int e0f, .int i1, .int e2f, .int s3_186, .int s4_187, .int s5_188, .ref a1_193, .ref a2_194]))], [(a1_193, .inl (T.2 0, zFl m1f wy2_171, .inl g1_189))], [(a2_194, .inl (T.2 0, 7, .inl r2f))], w2_169, z0_, wg1_] _ _ := G
            refine lv_aload_n hx hb dX11_fit_85 rfl (lv_at hl 2 rfl) ?_
            refine z_get C G clX11 4 rfl 9 (by decide) m_fl_RX11_65 rfl dX11_fit_86 ?_
            refine lv_iload_n hx hb dX11_fit_89 rfl (lv_at hl 4 rfl) ?_
            refine z_put C G clX3 5 rfl 2 (by decide) m_fl_RX11_295 rfl rfl rfl (Nat.le_of_ble_eq_true rfl) dX11_fit_90 (fun H locs G => ?_)
            have G : zS T A s.heap s [z1_, wg0_, wwB, wt, [(xo, .inr (10, [.ref t, .ref im, .ref mk, .ref rd, .ref po, .ref co, .ref tr, .ref wa, .ref wb_, .ref fi, .ref cd]))], [(fi, .inr (3, [.int e0f, .int i1, .int i2, .int s3_186, .int s4_187, .int s5_188, .ref a1_193, .ref a2_194]))], [(a1_193, .inl (T.2 0, zFl m1f wy2_171, .inl g1_189))], [(a2_194, .inl (T.2 0, 7, .inl r2f))], w2_169, z0_, wg1_] _ _ := G
            refine lv_aload_n hx hb dX11_fit_93 rfl (lv_at hl 2 rfl) ?_
            refine z_get C G clX11 4 rfl 9 (by decide) m_fl_RX11_65 rfl dX11_fit_94 ?_
            refine lv_iconst (v := 1) hx hb dX11_fit_97 (by decide) ?_
            refine z_put C G clX3 5 rfl 0 (by decide) m_fl_RX11_109 rfl rfl rfl (Nat.le_of_ble_eq_true rfl) dX11_fit_98 (fun H locs G => ?_)
            have G : zS T A s.heap s [z1_, wg0_, wwB, wt, [(xo, .inr (10, [.ref t, .ref im, .ref mk, .ref rd, .ref po, .ref co, .ref tr, .ref wa, .ref wb_, .ref fi, .ref cd]))], [(fi, .inr (3, [.int 1, .int i1, .int i2, .int s3_186, .int s4_187, .int s5_188, .ref a1_193, .ref a2_194]))], [(a1_193, .inl (T.2 0, zFl m1f wy2_171, .inl g1_189))], [(a2_194, .inl (T.2 0, 7, .inl r2f))], w2_169, z0_, wg1_] _ _ := G
            refine lv_iconst (v := 1) hx hb dX11_fit_101 (by decide) ?_
            have hw_195 : bFit T fi 1 i1 i2 s3_186 s4_187 s5_188 g1_189 (zFl m1f wy2_171) r2f [(fi, .inr (3, [.int 1, .int i1, .int i2, .int s3_186, .int s4_187, .int s5_188, .ref a1_193, .ref a2_194])), (a1_193, .inl (T.2 0, zFl m1f wy2_171, .inl g1_189)), (a2_194, .inl (T.2 0, 7, .inl r2f))] := ⟨a1_193, a2_194, rfl⟩
            have G : zS T A s.heap s [z1_, wg0_, wwB, wt, [(xo, .inr (10, [.ref t, .ref im, .ref mk, .ref rd, .ref po, .ref co, .ref tr, .ref wa, .ref wb_, .ref fi, .ref cd]))], [(fi, .inr (3, [.int 1, .int i1, .int i2, .int s3_186, .int s4_187, .int s5_188, .ref a1_193, .ref a2_194])), (a1_193, .inl (T.2 0, zFl m1f wy2_171, .inl g1_189)), (a2_194, .inl (T.2 0, 7, .inl r2f))], w2_169, z0_, wg1_] _ _ := G.re rfl
            have G := G.sub (bs' := [[(xo, .inr (10, [.ref t, .ref im, .ref mk, .ref rd, .ref po, .ref co, .ref tr, .ref wa, .ref wb_, .ref fi, .ref cd]))], wt, z0_, z1_, wg0_, wg1_, w2_169, wwB, [(fi, .inr (3, [.int 1, .int i1, .int i2, .int s3_186, .int s4_187, .int s5_188, .ref a1_193, .ref a2_194])), (a1_193, .inl (T.2 0, zFl m1f wy2_171, .inl g1_189)), (a2_194, .inl (T.2 0, 7, .inl r2f))]]) [4, 3, 7, 0, 1, 8, 6, 2, 5] rfl
            exact z_zret C hr hlocks G (by omega) (by omega) dX11_fit_102 rfl ⟨l0, m2_170, wy2_171, pc2_172, g1_173, g2_174, f3A, g4_175, g5_176, g6_177, (zMk mdA n4A (zPl cr0_ inn0_ k10_)), w2_169, laB, mdB, wyB, pc_B, f1B, f2B, f3B, f4B, f5B, f6B, n4B, wwB, 1, i1, i2, s3_186, s4_187, s5_188, g1_189, (zFl m1f wy2_171), r2f, ([(fi, .inr (3, [.int 1, .int i1, .int i2, .int s3_186, .int s4_187, .int s5_188, .ref a1_193, .ref a2_194])), (a1_193, .inl (T.2 0, zFl m1f wy2_171, .inl g1_189)), (a2_194, .inl (T.2 0, 7, .inl r2f))]), rfl, h_179, (Or.inr rfl), hwy9, hNAm.symm, (zMk_pw hpwA), (fun _ => h_182), hwwB, hmdB, hwmB, (zNA_n (by omega)).symm, hpwB, (fun q => q), hw_195, hNF.symm, hfw9, h39, (Or.inr ⟨rfl, by omega, by decide, rfl⟩), (fun _ => Or.inl ⟨by omega, h_182⟩)⟩
  · have h_6 : i1.toInt = 1 := h_6
    have h_7 : 1 < (fk 0).toInt := h_7
    refine lv_astore_n (lv' := [(3, .ref l1), (0, .ref xo), (1, .int i1), (2, .int i2)]) hx hb dX11_fit_8 rfl hl (by decide) rfl (fun ls hl => ?_)
    refine lv_aload_n hx hb dX11_fit_9 rfl (lv_at hl 1 rfl) ?_
    refine z_get C G clX11 0 rfl 0 (by decide) m_fl_RX11_10 rfl dX11_fit_10 ?_
    refine lv_iload_n hx hb dX11_fit_13 rfl (lv_at hl 3 rfl) ?_
    refine z_Vq (bc := [wt]) (br := [[(xo, .inr (10, [.ref t, .ref im, .ref mk, .ref rd, .ref po, .ref co, .ref tr, .ref wa, .ref wb_, .ref fi, .ref cd]))], z0_, z1_, wg0_, wg1_, wwA, wwB, wff]) (As := [.int i2]) (rest := []) C G (c_logAt l T t l0 l1 d0 d1 g0 g1 ln fl pl ft fk wt i2 ht) (kV_RX11_138 C.2.2.2.2 (Nat.le_of_ble_eq_true rfl) (Nat.le_of_ble_eq_true rfl)) [8] [0, 1, 2, 3, 4, 5, 6, 7] rfl rfl (ci := 8) (qc := (RX9, TX9, 8)) rfl rfl (List.mem_flatten.mpr ⟨_, List.mem_of_getElem? (i := 0) rfl, (bTold_mem ht).choose_spec⟩) rfl rfl hl.1 dX11_fit_14 (by show _ + 0 ≤ 4; omega) (by show _ + 0 ≤ 6 * (zNA (i1.toInt = 0 ∧ 0 < (fk 0).toInt ∧ (0 ≤ i2.toInt ∧ i2.toInt < (fk 2).toInt ∧ i2.toInt < 2) ∧ (e0f.toInt = 0 ∨ ¬ e1f.toInt = i1.toInt ∨ ¬ e2f.toInt = i2.toInt)) mdA n4A (zPl cr0_ inn0_ k10_) - n4A) + 6 * (zNA (i1.toInt = 1 ∧ 1 < (fk 0).toInt ∧ (0 ≤ i2.toInt ∧ i2.toInt < (fk 2).toInt ∧ i2.toInt < 2) ∧ (e0f.toInt = 0 ∨ ¬ e1f.toInt = i1.toInt ∨ ¬ e2f.toInt = i2.toInt)) mdB n4B (zPl cr1_ inn1_ k11_) - n4B) + 2 * (zNF (i1.toInt = 1 ∧ 1 < (fk 0).toInt ∧ (0 ≤ i2.toInt ∧ i2.toInt < (fk 2).toInt ∧ i2.toInt < 2) ∧ (e0f.toInt = 0 ∨ ¬ e1f.toInt = i1.toInt ∨ ¬ e2f.toInt = i2.toInt)) (zNF (i1.toInt = 0 ∧ 0 < (fk 0).toInt ∧ (0 ≤ i2.toInt ∧ i2.toInt < (fk 2).toInt ∧ i2.toInt < 2) ∧ (e0f.toInt = 0 ∨ ¬ e1f.toInt = i1.toInt ∨ ¬ e2f.toInt = i2.toInt)) m1f (zMw mdA wyA cr0_ inn0_ k10_)) (zMw mdB wyB cr1_ inn1_ k11_) - m1f); omega) (fun r_197 b1 H locs hw G => ?_)
    refine zAn2 hw ?_
    intro hbs9 hc_196
    clear hw
    subst hbs9
    have G : zS T A s.heap s [[(xo, .inr (10, [.ref t, .ref im, .ref mk, .ref rd, .ref po, .ref co, .ref tr, .ref wa, .ref wb_, .ref fi, .ref cd]))], z0_, z1_, wg0_, wg1_, wwA, wwB, wff, wt] _ _ := G
    rcases hc_196 with ⟨rfl, h_198⟩ | ⟨rfl, h_199, h_200⟩ | ⟨rfl, h_201, h_202⟩
    · have h_198 : (i2.toInt < 0 ∨ (fk 2).toInt ≤ i2.toInt ∨ 2 ≤ i2.toInt) := h_198
      refine lv_astoreN (lv' := [(4, .null), (3, .ref l1), (0, .ref xo), (1, .int i1), (2, .int i2)]) hx hb dX11_fit_17 hl (by decide) rfl (fun ls hl => ?_)
      refine lv_aload_n hx hb dX11_fit_19 rfl (lv_at hl 1 rfl) ?_
      refine lv_ifnull hx hb dX11_fit_20 ?_
      refine lv_aloadN hx hb dX11_fit_23 (lv_at hl 0 rfl) ?_
      refine lv_ifnonnullN hx hb dX11_fit_25 ?_
      refine lv_iconst (v := 0) hx hb dX11_fit_28 (by decide) ?_
      have G := G.sub (bs' := [[(xo, .inr (10, [.ref t, .ref im, .ref mk, .ref rd, .ref po, .ref co, .ref tr, .ref wa, .ref wb_, .ref fi, .ref cd]))], wt, z0_, z1_, wg0_, wg1_, wwA, wwB, wff]) [0, 8, 1, 2, 3, 4, 5, 6, 7] rfl
      exact z_zret C hr hlocks G (by omega) (by omega) dX11_fit_29 rfl ⟨laA, mdA, wyA, pc_A, f1A, f2A, f3A, f4A, f5A, f6A, n4A, wwA, laB, mdB, wyB, pc_B, f1B, f2B, f3B, f4B, f5B, f6B, n4B, wwB, e0f, e1f, e2f, e3f, e4f, e5f, r1f, m1f, r2f, wff, rfl, hwwA, hmdA, hwmA, (zNA_n (by omega)).symm, hpwA, (fun q => q), hwwB, hmdB, hwmB, (zNA_n (by omega)).symm, hpwB, (fun q => q), hwff, (((zNF_n (c := (i1.toInt = 1 ∧ 1 < (fk 0).toInt ∧ (0 ≤ i2.toInt ∧ i2.toInt < (fk 2).toInt ∧ i2.toInt < 2) ∧ (e0f.toInt = 0 ∨ ¬ e1f.toInt = i1.toInt ∨ ¬ e2f.toInt = i2.toInt))) (by omega)).trans (zNF_n (by omega))).symm), hfw, hf3, (Or.inl ⟨rfl, by omega⟩), hFI⟩
    · have h_199 : i2.toInt = 0 := h_199
      have h_200 : 0 < (fk 2).toInt := h_200
      refine lv_astore (lv' := [(4, .ref g0), (3, .ref l1), (0, .ref xo), (1, .int i1), (2, .int i2)]) hx hb dX11_fit_17 hl (by decide) rfl (fun ls hl => ?_)
      refine lv_aload_n hx hb dX11_fit_19 rfl (lv_at hl 1 rfl) ?_
      refine lv_ifnull hx hb dX11_fit_20 ?_
      refine lv_aload hx hb dX11_fit_23 (lv_at hl 0 rfl) ?_
      refine lv_ifnonnull (tgt := 30) hx hb dX11_fit_25 (by decide) ?_
      refine lv_aload_n hx hb dX11_fit_30 rfl (lv_at hl 2 rfl) ?_
      refine z_get C G clX11 0 rfl 9 (by decide) m_fl_RX11_65 rfl dX11_fit_31 ?_
      refine zEx2 hwff ?_
      intro a1_203 a2_204 hbs9
      clear hwff
      subst hbs9
      have G : zS T A s.heap s [[(xo, .inr (10, [.ref t, .ref im, .ref mk, .ref rd, .ref po, .ref co, .ref tr, .ref wa, .ref wb_, .ref fi, .ref cd]))], z0_, z1_, wg0_, wg1_, wwA, wwB, [(fi, .inr (3, [.int e0f, .int e1f, .int e2f, .int e3f, .int e4f, .int e5f, .ref a1_203, .ref a2_204]))], [(a1_203, .inl (T.2 0, m1f, .inl r1f))], [(a2_204, .inl (T.2 0, 7, .inl r2f))], wt] _ _ := G.re rfl
      refine z_get C G clX3 7 rfl 0 (by decide) m_fl_RX11_109 rfl dX11_fit_34 ?_
      refine lv_if_eq (tgt := 62) hx hb dX11_fit_37 (by decide) (fun c_205 => ?_) (fun c_205 => ?_)
      · have c_205n : e0f.toInt = (0 : Int) := (fa_eq _ _).mp c_205
        refine lv_aload_n hx hb dX11_fit_62 rfl (lv_at hl 2 rfl) ?_
        refine z_get C G clX11 0 rfl 9 (by decide) m_fl_RX11_65 rfl dX11_fit_63 ?_
        refine lv_aload_n hx hb dX11_fit_66 rfl (lv_at hl 2 rfl) ?_
        refine lv_iload_n hx hb dX11_fit_67 rfl (lv_at hl 3 rfl) ?_
        refine lv_aload_n hx hb dX11_fit_68 rfl (lv_at hl 1 rfl) ?_
        have hcF : (i1.toInt = 1 ∧ 1 < (fk 0).toInt ∧ (0 ≤ i2.toInt ∧ i2.toInt < (fk 2).toInt ∧ i2.toInt < 2) ∧ (e0f.toInt = 0 ∨ ¬ e1f.toInt = i1.toInt ∨ ¬ e2f.toInt = i2.toInt)) := by omega
        have hcN : ¬ (i1.toInt = 0 ∧ 0 < (fk 0).toInt ∧ (0 ≤ i2.toInt ∧ i2.toInt < (fk 2).toInt ∧ i2.toInt < 2) ∧ (e0f.toInt = 0 ∨ ¬ e1f.toInt = i1.toInt ∨ ¬ e2f.toInt = i2.toInt)) := by omega
        have hNAm : zNA (i1.toInt = 1 ∧ 1 < (fk 0).toInt ∧ (0 ≤ i2.toInt ∧ i2.toInt < (fk 2).toInt ∧ i2.toInt < 2) ∧ (e0f.toInt = 0 ∨ ¬ e1f.toInt = i1.toInt ∨ ¬ e2f.toInt = i2.toInt)) mdB n4B (zPl cr1_ inn1_ k11_) = zMk mdB n4B (zPl cr1_ inn1_ k11_) := zNA_y hcF
        have hNAo : zNA (i1.toInt = 0 ∧ 0 < (fk 0).toInt ∧ (0 ≤ i2.toInt ∧ i2.toInt < (fk 2).toInt ∧ i2.toInt < 2) ∧ (e0f.toInt = 0 ∨ ¬ e1f.toInt = i1.toInt ∨ ¬ e2f.toInt = i2.toInt)) mdA n4A (zPl cr0_ inn0_ k10_) = n4A := zNA_n hcN
        have hn9 : zMk mdB n4B (zPl cr1_ inn1_ k11_) ≤ 131072 := zPw_le (zMk_pw hpwB)
        refine z_Vq (bc := [[(xo, .inr (10, [.ref t, .ref im, .ref mk, .ref rd, .ref po, .ref co, .ref tr, .ref wa, .ref wb_, .ref fi, .ref cd]))], wwB, z1_]) (br := [z0_, wg0_, wg1_, wwA, [(fi, .inr (3, [.int e0f, .int e1f, .int e2f, .int e3f, .int e4f, .int e5f, .ref a1_203, .ref a2_204]))], [(a1_203, .inl (T.2 0, m1f, .inl r1f))], [(a2_204, .inl (T.2 0, 7, .inl r2f))], wt]) (As := [.int i1, .ref l1]) (rest := [.ref fi]) C G (c_waysInB l T xo t im mk rd po co tr wa wb_ fi cd i1 laB mdB wyB pc_B f1B f2B f3B f4B f5B f6B n4B wwB l1 cr1_ inn1_ k11_ k21_ k31_ k41_ z1_ hwwB hz1_ hI1_ hpwB hmdB hwmB (by omega)) (kV_RX11_235 C.2.2.2.2 (Nat.le_of_ble_eq_true rfl) (Nat.le_of_ble_eq_true rfl)) [0, 6, 2] [1, 3, 4, 5, 7, 8, 9, 10] rfl rfl (ci := 10) (qc := (RX11, TX11, 11)) rfl rfl (List.mem_flatten.mpr ⟨_, List.mem_of_getElem? (i := 0) rfl, List.mem_cons_self⟩) rfl rfl hl.1 dX11_fit_69 (by show _ + 3 ≤ 4; omega) (by show _ + (6 * (zMk mdB n4B (zPl cr1_ inn1_ k11_) - n4B)) ≤ 6 * (zNA (i1.toInt = 0 ∧ 0 < (fk 0).toInt ∧ (0 ≤ i2.toInt ∧ i2.toInt < (fk 2).toInt ∧ i2.toInt < 2) ∧ (e0f.toInt = 0 ∨ ¬ e1f.toInt = i1.toInt ∨ ¬ e2f.toInt = i2.toInt)) mdA n4A (zPl cr0_ inn0_ k10_) - n4A) + 6 * (zNA (i1.toInt = 1 ∧ 1 < (fk 0).toInt ∧ (0 ≤ i2.toInt ∧ i2.toInt < (fk 2).toInt ∧ i2.toInt < 2) ∧ (e0f.toInt = 0 ∨ ¬ e1f.toInt = i1.toInt ∨ ¬ e2f.toInt = i2.toInt)) mdB n4B (zPl cr1_ inn1_ k11_) - n4B) + 2 * (zNF (i1.toInt = 1 ∧ 1 < (fk 0).toInt ∧ (0 ≤ i2.toInt ∧ i2.toInt < (fk 2).toInt ∧ i2.toInt < 2) ∧ (e0f.toInt = 0 ∨ ¬ e1f.toInt = i1.toInt ∨ ¬ e2f.toInt = i2.toInt)) (zNF (i1.toInt = 0 ∧ 0 < (fk 0).toInt ∧ (0 ≤ i2.toInt ∧ i2.toInt < (fk 2).toInt ∧ i2.toInt < 2) ∧ (e0f.toInt = 0 ∨ ¬ e1f.toInt = i1.toInt ∨ ¬ e2f.toInt = i2.toInt)) m1f (zMw mdA wyA cr0_ inn0_ k10_)) (zMw mdB wyB cr1_ inn1_ k11_) - m1f); omega) (fun r_220 b1 H locs hw G => ?_)
        refine zEx9 hw ?_
        intro w2_206 m2_207 wy2_208 pc2_209 g1_210 g2_211 g4_212 g5_213 g6_214
        refine zCu6 ?_
        intro hbs9 h_215 h_216 h_217 h_218 h_219
        clear hw
        subst hbs9
        have G : zS T A s.heap s [z0_, wg0_, wg1_, wwA, [(fi, .inr (3, [.int e0f, .int e1f, .int e2f, .int e3f, .int e4f, .int e5f, .ref a1_203, .ref a2_204]))], [(a1_203, .inl (T.2 0, m1f, .inl r1f))], [(a2_204, .inl (T.2 0, 7, .inl r2f))], wt, [(xo, .inr (10, [.ref t, .ref im, .ref mk, .ref rd, .ref po, .ref co, .ref tr, .ref wa, .ref wb_, .ref fi, .ref cd]))], w2_206, z1_] _ _ := G
        subst h_215
        have hwy9 := h_217
        have hNF : zNF (i1.toInt = 1 ∧ 1 < (fk 0).toInt ∧ (0 ≤ i2.toInt ∧ i2.toInt < (fk 2).toInt ∧ i2.toInt < 2) ∧ (e0f.toInt = 0 ∨ ¬ e1f.toInt = i1.toInt ∨ ¬ e2f.toInt = i2.toInt)) (zNF (i1.toInt = 0 ∧ 0 < (fk 0).toInt ∧ (0 ≤ i2.toInt ∧ i2.toInt < (fk 2).toInt ∧ i2.toInt < 2) ∧ (e0f.toInt = 0 ∨ ¬ e1f.toInt = i1.toInt ∨ ¬ e2f.toInt = i2.toInt)) m1f (zMw mdA wyA cr0_ inn0_ k10_)) (zMw mdB wyB cr1_ inn1_ k11_) = zFl m1f wy2_208 := by rw [zNF_y (c := (i1.toInt = 1 ∧ 1 < (fk 0).toInt ∧ (0 ≤ i2.toInt ∧ i2.toInt < (fk 2).toInt ∧ i2.toInt < 2) ∧ (e0f.toInt = 0 ∨ ¬ e1f.toInt = i1.toInt ∨ ¬ e2f.toInt = i2.toInt))) hcF, zNF_n (c := (i1.toInt = 0 ∧ 0 < (fk 0).toInt ∧ (0 ≤ i2.toInt ∧ i2.toInt < (fk 2).toInt ∧ i2.toInt < 2) ∧ (e0f.toInt = 0 ∨ ¬ e1f.toInt = i1.toInt ∨ ¬ e2f.toInt = i2.toInt))) hcN, h_218]
        have hfw9 := zFl_pw (wy := wy2_208) hfw
        refine lv_aload hx hb dX11_fit_72 (lv_at hl 0 rfl) ?_
        have hw_221 : bFit T fi e0f e1f e2f e3f e4f e5f r1f m1f r2f [(fi, .inr (3, [.int e0f, .int e1f, .int e2f, .int e3f, .int e4f, .int e5f, .ref a1_203, .ref a2_204])), (a1_203, .inl (T.2 0, m1f, .inl r1f)), (a2_204, .inl (T.2 0, 7, .inl r2f))] := ⟨a1_203, a2_204, rfl⟩
        have G : zS T A s.heap s [z0_, wg0_, wg1_, wwA, [(fi, .inr (3, [.int e0f, .int e1f, .int e2f, .int e3f, .int e4f, .int e5f, .ref a1_203, .ref a2_204])), (a1_203, .inl (T.2 0, m1f, .inl r1f)), (a2_204, .inl (T.2 0, 7, .inl r2f))], wt, [(xo, .inr (10, [.ref t, .ref im, .ref mk, .ref rd, .ref po, .ref co, .ref tr, .ref wa, .ref wb_, .ref fi, .ref cd]))], w2_206, z1_] _ _ := G.re rfl
        refine z_Vv (bc := [[(fi, .inr (3, [.int e0f, .int e1f, .int e2f, .int e3f, .int e4f, .int e5f, .ref a1_203, .ref a2_204])), (a1_203, .inl (T.2 0, m1f, .inl r1f)), (a2_204, .inl (T.2 0, 7, .inl r2f))], w2_206, z1_, wg0_]) (br := [z0_, wg1_, wwA, wt, [(xo, .inr (10, [.ref t, .ref im, .ref mk, .ref rd, .ref po, .ref co, .ref tr, .ref wa, .ref wb_, .ref fi, .ref cd]))]]) (As := [.ref wb_, .ref g0]) (rest := []) C G (c_find l T fi e0f e1f e2f e3f e4f e5f r1f m1f r2f ([(fi, .inr (3, [.int e0f, .int e1f, .int e2f, .int e3f, .int e4f, .int e5f, .ref a1_203, .ref a2_204])), (a1_203, .inl (T.2 0, m1f, .inl r1f)), (a2_204, .inl (T.2 0, 7, .inl r2f))]) wb_ l1 m2_207 wy2_208 pc2_209 g1_210 g2_211 f3B g4_212 g5_213 g6_214 (zMk mdB n4B (zPl cr1_ inn1_ k11_)) w2_206 cr1_ inn1_ k11_ k21_ k31_ k41_ z1_ g0 gg0_ q10_ q20_ wg0_ hw_221 h_216 hz1_ hg0_ hn9 hfw hwy9) (kV_RX11_298 C.2.2.2.2 (Nat.le_of_ble_eq_true rfl) (Nat.le_of_ble_eq_true rfl)) [4, 7, 8, 1] [0, 2, 3, 5, 6] rfl rfl (ci := 3) (qc := (RX3, TX3, 8)) rfl rfl (List.mem_flatten.mpr ⟨_, List.mem_of_getElem? (i := 0) rfl, (bFit_mem hw_221).choose_spec⟩) rfl rfl hl.1 dX11_fit_74 (by show _ + 1 ≤ 4; omega) (by show _ + (2 * (zFl m1f wy2_208 - m1f)) ≤ 6 * (zNA (i1.toInt = 0 ∧ 0 < (fk 0).toInt ∧ (0 ≤ i2.toInt ∧ i2.toInt < (fk 2).toInt ∧ i2.toInt < 2) ∧ (e0f.toInt = 0 ∨ ¬ e1f.toInt = i1.toInt ∨ ¬ e2f.toInt = i2.toInt)) mdA n4A (zPl cr0_ inn0_ k10_) - n4A) + 6 * (zNA (i1.toInt = 1 ∧ 1 < (fk 0).toInt ∧ (0 ≤ i2.toInt ∧ i2.toInt < (fk 2).toInt ∧ i2.toInt < 2) ∧ (e0f.toInt = 0 ∨ ¬ e1f.toInt = i1.toInt ∨ ¬ e2f.toInt = i2.toInt)) mdB n4B (zPl cr1_ inn1_ k11_) - n4B) + 2 * (zNF (i1.toInt = 1 ∧ 1 < (fk 0).toInt ∧ (0 ≤ i2.toInt ∧ i2.toInt < (fk 2).toInt ∧ i2.toInt < 2) ∧ (e0f.toInt = 0 ∨ ¬ e1f.toInt = i1.toInt ∨ ¬ e2f.toInt = i2.toInt)) (zNF (i1.toInt = 0 ∧ 0 < (fk 0).toInt ∧ (0 ≤ i2.toInt ∧ i2.toInt < (fk 2).toInt ∧ i2.toInt < 2) ∧ (e0f.toInt = 0 ∨ ¬ e1f.toInt = i1.toInt ∨ ¬ e2f.toInt = i2.toInt)) m1f (zMw mdA wyA cr0_ inn0_ k10_)) (zMw mdB wyB cr1_ inn1_ k11_) - m1f); omega) (fun b1 H locs hw G => ?_)
        refine zEx5 hw ?_
        intro w2_222 s3_223 s4_224 s5_225 g1_226
        refine zCu3 ?_
        intro hbs9 h_227 h_228
        clear hw
        subst hbs9
        have G : zS T A s.heap s [z0_, wg1_, wwA, wt, [(xo, .inr (10, [.ref t, .ref im, .ref mk, .ref rd, .ref po, .ref co, .ref tr, .ref wa, .ref wb_, .ref fi, .ref cd]))], w2_222, w2_206, z1_, wg0_] _ _ := G
        have h39 := h_228
        refine lv_aload_n hx hb dX11_fit_77 rfl (lv_at hl 2 rfl) ?_
        refine z_get C G clX11 4 rfl 9 (by decide) m_fl_RX11_65 rfl dX11_fit_78 ?_
        refine lv_iload_n hx hb dX11_fit_81 rfl (lv_at hl 3 rfl) ?_
        refine zEx2 h_227 ?_
        intro a1_230 a2_231 hbs9
        clear h_227
        subst hbs9
        have G : zS T A s.heap s [z0_, wg1_, wwA, wt, [(xo, .inr (10, [.ref t, .ref im, .ref mk, .ref rd, .ref po, .ref co, .ref tr, .ref wa, .ref wb_, .ref fi, .ref cd]))], [(fi, .inr (3, [.int e0f, .int e1f, .int e2f, .int s3_223, .int s4_224, .int s5_225, .ref a1_230, .ref a2_231]))], [(a1_230, .inl (T.2 0, zFl m1f wy2_208, .inl g1_226))], [(a2_231, .inl (T.2 0, 7, .inl r2f))], w2_206, z1_, wg0_] _ _ := G.re rfl
        refine z_put C G clX3 5 rfl 1 (by decide) m_fl_RX11_292 rfl rfl rfl (Nat.le_of_ble_eq_true rfl) dX11_fit_82 (fun H locs G => ?_)
        have G : zS T A s.heap s [z0_, wg1_, wwA, wt, [(xo, .inr (10, [.ref t, .ref im, .ref mk, .ref rd, .ref po, .ref co, .ref tr, .ref wa, .ref wb_, .ref fi, .ref cd]))], [(fi, .inr (3, [.int e0f, .int i1, .int e2f, .int s3_223, .int s4_224, .int s5_225, .ref a1_230, .ref a2_231]))], [(a1_230, .inl (T.2 0, zFl m1f wy2_208, .inl g1_226))], [(a2_231, .inl (T.2 0, 7, .inl r2f))], w2_206, z1_, wg0_] _ _ := G
        refine lv_aload_n hx hb dX11_fit_85 rfl (lv_at hl 2 rfl) ?_
        refine z_get C G clX11 4 rfl 9 (by decide) m_fl_RX11_65 rfl dX11_fit_86 ?_
        refine lv_iload_n hx hb dX11_fit_89 rfl (lv_at hl 4 rfl) ?_
        refine z_put C G clX3 5 rfl 2 (by decide) m_fl_RX11_295 rfl rfl rfl (Nat.le_of_ble_eq_true rfl) dX11_fit_90 (fun H locs G => ?_)
        have G : zS T A s.heap s [z0_, wg1_, wwA, wt, [(xo, .inr (10, [.ref t, .ref im, .ref mk, .ref rd, .ref po, .ref co, .ref tr, .ref wa, .ref wb_, .ref fi, .ref cd]))], [(fi, .inr (3, [.int e0f, .int i1, .int i2, .int s3_223, .int s4_224, .int s5_225, .ref a1_230, .ref a2_231]))], [(a1_230, .inl (T.2 0, zFl m1f wy2_208, .inl g1_226))], [(a2_231, .inl (T.2 0, 7, .inl r2f))], w2_206, z1_, wg0_] _ _ := G
        refine lv_aload_n hx hb dX11_fit_93 rfl (lv_at hl 2 rfl) ?_
        refine z_get C G clX11 4 rfl 9 (by decide) m_fl_RX11_65 rfl dX11_fit_94 ?_
        refine lv_iconst (v := 1) hx hb dX11_fit_97 (by decide) ?_
        refine z_put C G clX3 5 rfl 0 (by decide) m_fl_RX11_109 rfl rfl rfl (Nat.le_of_ble_eq_true rfl) dX11_fit_98 (fun H locs G => ?_)
        have G : zS T A s.heap s [z0_, wg1_, wwA, wt, [(xo, .inr (10, [.ref t, .ref im, .ref mk, .ref rd, .ref po, .ref co, .ref tr, .ref wa, .ref wb_, .ref fi, .ref cd]))], [(fi, .inr (3, [.int 1, .int i1, .int i2, .int s3_223, .int s4_224, .int s5_225, .ref a1_230, .ref a2_231]))], [(a1_230, .inl (T.2 0, zFl m1f wy2_208, .inl g1_226))], [(a2_231, .inl (T.2 0, 7, .inl r2f))], w2_206, z1_, wg0_] _ _ := G
        refine lv_iconst (v := 1) hx hb dX11_fit_101 (by decide) ?_
        have hw_232 : bFit T fi 1 i1 i2 s3_223 s4_224 s5_225 g1_226 (zFl m1f wy2_208) r2f [(fi, .inr (3, [.int 1, .int i1, .int i2, .int s3_223, .int s4_224, .int s5_225, .ref a1_230, .ref a2_231])), (a1_230, .inl (T.2 0, zFl m1f wy2_208, .inl g1_226)), (a2_231, .inl (T.2 0, 7, .inl r2f))] := ⟨a1_230, a2_231, rfl⟩
        have G : zS T A s.heap s [z0_, wg1_, wwA, wt, [(xo, .inr (10, [.ref t, .ref im, .ref mk, .ref rd, .ref po, .ref co, .ref tr, .ref wa, .ref wb_, .ref fi, .ref cd]))], [(fi, .inr (3, [.int 1, .int i1, .int i2, .int s3_223, .int s4_224, .int s5_225, .ref a1_230, .ref a2_231])), (a1_230, .inl (T.2 0, zFl m1f wy2_208, .inl g1_226)), (a2_231, .inl (T.2 0, 7, .inl r2f))], w2_206, z1_, wg0_] _ _ := G.re rfl
        have G := G.sub (bs' := [[(xo, .inr (10, [.ref t, .ref im, .ref mk, .ref rd, .ref po, .ref co, .ref tr, .ref wa, .ref wb_, .ref fi, .ref cd]))], wt, z0_, z1_, wg0_, wg1_, wwA, w2_206, [(fi, .inr (3, [.int 1, .int i1, .int i2, .int s3_223, .int s4_224, .int s5_225, .ref a1_230, .ref a2_231])), (a1_230, .inl (T.2 0, zFl m1f wy2_208, .inl g1_226)), (a2_231, .inl (T.2 0, 7, .inl r2f))]]) [4, 3, 0, 7, 8, 1, 2, 6, 5] rfl
        exact z_zret C hr hlocks G (by omega) (by omega) dX11_fit_102 rfl ⟨laA, mdA, wyA, pc_A, f1A, f2A, f3A, f4A, f5A, f6A, n4A, wwA, l1, m2_207, wy2_208, pc2_209, g1_210, g2_211, f3B, g4_212, g5_213, g6_214, (zMk mdB n4B (zPl cr1_ inn1_ k11_)), w2_206, 1, i1, i2, s3_223, s4_224, s5_225, g1_226, (zFl m1f wy2_208), r2f, ([(fi, .inr (3, [.int 1, .int i1, .int i2, .int s3_223, .int s4_224, .int s5_225, .ref a1_230, .ref a2_231])), (a1_230, .inl (T.2 0, zFl m1f wy2_208, .inl g1_226)), (a2_231, .inl (T.2 0, 7, .inl r2f))]), rfl, hwwA, hmdA, hwmA, (zNA_n (by omega)).symm, hpwA, (fun q => q), h_216, (Or.inr rfl), hwy9, hNAm.symm, (zMk_pw hpwB), (fun _ => h_219), hw_232, hNF.symm, hfw9, h39, (Or.inr ⟨rfl, by omega, by decide, rfl⟩), (fun _ => Or.inr ⟨by omega, h_219⟩)⟩
      · have c_205n : ¬ e0f.toInt = (0 : Int) := fun q => c_205 ((fa_eq _ _).mpr q)
        refine lv_aload_n hx hb dX11_fit_40 rfl (lv_at hl 2 rfl) ?_
        refine z_get C G clX11 0 rfl 9 (by decide) m_fl_RX11_65 rfl dX11_fit_41 ?_
        refine z_get C G clX3 7 rfl 1 (by decide) m_fl_RX11_292 rfl dX11_fit_44 ?_
        refine lv_iload_n hx hb dX11_fit_47 rfl (lv_at hl 3 rfl) ?_
        refine lv_icmp_ne (tgt := 62) hx hb dX11_fit_48 (by decide) (fun c_233 => ?_) (fun c_233 => ?_)
        · have c_233n : ¬ e1f.toInt = i1.toInt := fun q => c_233 ((fa_eq _ _).mpr q)
          refine lv_aload_n hx hb dX11_fit_62 rfl (lv_at hl 2 rfl) ?_
          refine z_get C G clX11 0 rfl 9 (by decide) m_fl_RX11_65 rfl dX11_fit_63 ?_
          refine lv_aload_n hx hb dX11_fit_66 rfl (lv_at hl 2 rfl) ?_
          refine lv_iload_n hx hb dX11_fit_67 rfl (lv_at hl 3 rfl) ?_
          refine lv_aload_n hx hb dX11_fit_68 rfl (lv_at hl 1 rfl) ?_
          have hcF : (i1.toInt = 1 ∧ 1 < (fk 0).toInt ∧ (0 ≤ i2.toInt ∧ i2.toInt < (fk 2).toInt ∧ i2.toInt < 2) ∧ (e0f.toInt = 0 ∨ ¬ e1f.toInt = i1.toInt ∨ ¬ e2f.toInt = i2.toInt)) := by omega
          have hcN : ¬ (i1.toInt = 0 ∧ 0 < (fk 0).toInt ∧ (0 ≤ i2.toInt ∧ i2.toInt < (fk 2).toInt ∧ i2.toInt < 2) ∧ (e0f.toInt = 0 ∨ ¬ e1f.toInt = i1.toInt ∨ ¬ e2f.toInt = i2.toInt)) := by omega
          have hNAm : zNA (i1.toInt = 1 ∧ 1 < (fk 0).toInt ∧ (0 ≤ i2.toInt ∧ i2.toInt < (fk 2).toInt ∧ i2.toInt < 2) ∧ (e0f.toInt = 0 ∨ ¬ e1f.toInt = i1.toInt ∨ ¬ e2f.toInt = i2.toInt)) mdB n4B (zPl cr1_ inn1_ k11_) = zMk mdB n4B (zPl cr1_ inn1_ k11_) := zNA_y hcF
          have hNAo : zNA (i1.toInt = 0 ∧ 0 < (fk 0).toInt ∧ (0 ≤ i2.toInt ∧ i2.toInt < (fk 2).toInt ∧ i2.toInt < 2) ∧ (e0f.toInt = 0 ∨ ¬ e1f.toInt = i1.toInt ∨ ¬ e2f.toInt = i2.toInt)) mdA n4A (zPl cr0_ inn0_ k10_) = n4A := zNA_n hcN
          have hn9 : zMk mdB n4B (zPl cr1_ inn1_ k11_) ≤ 131072 := zPw_le (zMk_pw hpwB)
          refine z_Vq (bc := [[(xo, .inr (10, [.ref t, .ref im, .ref mk, .ref rd, .ref po, .ref co, .ref tr, .ref wa, .ref wb_, .ref fi, .ref cd]))], wwB, z1_]) (br := [z0_, wg0_, wg1_, wwA, [(fi, .inr (3, [.int e0f, .int e1f, .int e2f, .int e3f, .int e4f, .int e5f, .ref a1_203, .ref a2_204]))], [(a1_203, .inl (T.2 0, m1f, .inl r1f))], [(a2_204, .inl (T.2 0, 7, .inl r2f))], wt]) (As := [.int i1, .ref l1]) (rest := [.ref fi]) C G (c_waysInB l T xo t im mk rd po co tr wa wb_ fi cd i1 laB mdB wyB pc_B f1B f2B f3B f4B f5B f6B n4B wwB l1 cr1_ inn1_ k11_ k21_ k31_ k41_ z1_ hwwB hz1_ hI1_ hpwB hmdB hwmB (by omega)) (kV_RX11_235 C.2.2.2.2 (Nat.le_of_ble_eq_true rfl) (Nat.le_of_ble_eq_true rfl)) [0, 6, 2] [1, 3, 4, 5, 7, 8, 9, 10] rfl rfl (ci := 10) (qc := (RX11, TX11, 11)) rfl rfl (List.mem_flatten.mpr ⟨_, List.mem_of_getElem? (i := 0) rfl, List.mem_cons_self⟩) rfl rfl hl.1 dX11_fit_69 (by show _ + 3 ≤ 4; omega) (by show _ + (6 * (zMk mdB n4B (zPl cr1_ inn1_ k11_) - n4B)) ≤ 6 * (zNA (i1.toInt = 0 ∧ 0 < (fk 0).toInt ∧ (0 ≤ i2.toInt ∧ i2.toInt < (fk 2).toInt ∧ i2.toInt < 2) ∧ (e0f.toInt = 0 ∨ ¬ e1f.toInt = i1.toInt ∨ ¬ e2f.toInt = i2.toInt)) mdA n4A (zPl cr0_ inn0_ k10_) - n4A) + 6 * (zNA (i1.toInt = 1 ∧ 1 < (fk 0).toInt ∧ (0 ≤ i2.toInt ∧ i2.toInt < (fk 2).toInt ∧ i2.toInt < 2) ∧ (e0f.toInt = 0 ∨ ¬ e1f.toInt = i1.toInt ∨ ¬ e2f.toInt = i2.toInt)) mdB n4B (zPl cr1_ inn1_ k11_) - n4B) + 2 * (zNF (i1.toInt = 1 ∧ 1 < (fk 0).toInt ∧ (0 ≤ i2.toInt ∧ i2.toInt < (fk 2).toInt ∧ i2.toInt < 2) ∧ (e0f.toInt = 0 ∨ ¬ e1f.toInt = i1.toInt ∨ ¬ e2f.toInt = i2.toInt)) (zNF (i1.toInt = 0 ∧ 0 < (fk 0).toInt ∧ (0 ≤ i2.toInt ∧ i2.toInt < (fk 2).toInt ∧ i2.toInt < 2) ∧ (e0f.toInt = 0 ∨ ¬ e1f.toInt = i1.toInt ∨ ¬ e2f.toInt = i2.toInt)) m1f (zMw mdA wyA cr0_ inn0_ k10_)) (zMw mdB wyB cr1_ inn1_ k11_) - m1f); omega) (fun r_248 b1 H locs hw G => ?_)
          refine zEx9 hw ?_
          intro w2_234 m2_235 wy2_236 pc2_237 g1_238 g2_239 g4_240 g5_241 g6_242
          refine zCu6 ?_
          intro hbs9 h_243 h_244 h_245 h_246 h_247
          clear hw
          subst hbs9
          have G : zS T A s.heap s [z0_, wg0_, wg1_, wwA, [(fi, .inr (3, [.int e0f, .int e1f, .int e2f, .int e3f, .int e4f, .int e5f, .ref a1_203, .ref a2_204]))], [(a1_203, .inl (T.2 0, m1f, .inl r1f))], [(a2_204, .inl (T.2 0, 7, .inl r2f))], wt, [(xo, .inr (10, [.ref t, .ref im, .ref mk, .ref rd, .ref po, .ref co, .ref tr, .ref wa, .ref wb_, .ref fi, .ref cd]))], w2_234, z1_] _ _ := G
          subst h_243
          have hwy9 := h_245
          have hNF : zNF (i1.toInt = 1 ∧ 1 < (fk 0).toInt ∧ (0 ≤ i2.toInt ∧ i2.toInt < (fk 2).toInt ∧ i2.toInt < 2) ∧ (e0f.toInt = 0 ∨ ¬ e1f.toInt = i1.toInt ∨ ¬ e2f.toInt = i2.toInt)) (zNF (i1.toInt = 0 ∧ 0 < (fk 0).toInt ∧ (0 ≤ i2.toInt ∧ i2.toInt < (fk 2).toInt ∧ i2.toInt < 2) ∧ (e0f.toInt = 0 ∨ ¬ e1f.toInt = i1.toInt ∨ ¬ e2f.toInt = i2.toInt)) m1f (zMw mdA wyA cr0_ inn0_ k10_)) (zMw mdB wyB cr1_ inn1_ k11_) = zFl m1f wy2_236 := by rw [zNF_y (c := (i1.toInt = 1 ∧ 1 < (fk 0).toInt ∧ (0 ≤ i2.toInt ∧ i2.toInt < (fk 2).toInt ∧ i2.toInt < 2) ∧ (e0f.toInt = 0 ∨ ¬ e1f.toInt = i1.toInt ∨ ¬ e2f.toInt = i2.toInt))) hcF, zNF_n (c := (i1.toInt = 0 ∧ 0 < (fk 0).toInt ∧ (0 ≤ i2.toInt ∧ i2.toInt < (fk 2).toInt ∧ i2.toInt < 2) ∧ (e0f.toInt = 0 ∨ ¬ e1f.toInt = i1.toInt ∨ ¬ e2f.toInt = i2.toInt))) hcN, h_246]
          have hfw9 := zFl_pw (wy := wy2_236) hfw
          refine lv_aload hx hb dX11_fit_72 (lv_at hl 0 rfl) ?_
          have hw_249 : bFit T fi e0f e1f e2f e3f e4f e5f r1f m1f r2f [(fi, .inr (3, [.int e0f, .int e1f, .int e2f, .int e3f, .int e4f, .int e5f, .ref a1_203, .ref a2_204])), (a1_203, .inl (T.2 0, m1f, .inl r1f)), (a2_204, .inl (T.2 0, 7, .inl r2f))] := ⟨a1_203, a2_204, rfl⟩
          have G : zS T A s.heap s [z0_, wg0_, wg1_, wwA, [(fi, .inr (3, [.int e0f, .int e1f, .int e2f, .int e3f, .int e4f, .int e5f, .ref a1_203, .ref a2_204])), (a1_203, .inl (T.2 0, m1f, .inl r1f)), (a2_204, .inl (T.2 0, 7, .inl r2f))], wt, [(xo, .inr (10, [.ref t, .ref im, .ref mk, .ref rd, .ref po, .ref co, .ref tr, .ref wa, .ref wb_, .ref fi, .ref cd]))], w2_234, z1_] _ _ := G.re rfl
          refine z_Vv (bc := [[(fi, .inr (3, [.int e0f, .int e1f, .int e2f, .int e3f, .int e4f, .int e5f, .ref a1_203, .ref a2_204])), (a1_203, .inl (T.2 0, m1f, .inl r1f)), (a2_204, .inl (T.2 0, 7, .inl r2f))], w2_234, z1_, wg0_]) (br := [z0_, wg1_, wwA, wt, [(xo, .inr (10, [.ref t, .ref im, .ref mk, .ref rd, .ref po, .ref co, .ref tr, .ref wa, .ref wb_, .ref fi, .ref cd]))]]) (As := [.ref wb_, .ref g0]) (rest := []) C G (c_find l T fi e0f e1f e2f e3f e4f e5f r1f m1f r2f ([(fi, .inr (3, [.int e0f, .int e1f, .int e2f, .int e3f, .int e4f, .int e5f, .ref a1_203, .ref a2_204])), (a1_203, .inl (T.2 0, m1f, .inl r1f)), (a2_204, .inl (T.2 0, 7, .inl r2f))]) wb_ l1 m2_235 wy2_236 pc2_237 g1_238 g2_239 f3B g4_240 g5_241 g6_242 (zMk mdB n4B (zPl cr1_ inn1_ k11_)) w2_234 cr1_ inn1_ k11_ k21_ k31_ k41_ z1_ g0 gg0_ q10_ q20_ wg0_ hw_249 h_244 hz1_ hg0_ hn9 hfw hwy9) (kV_RX11_298 C.2.2.2.2 (Nat.le_of_ble_eq_true rfl) (Nat.le_of_ble_eq_true rfl)) [4, 7, 8, 1] [0, 2, 3, 5, 6] rfl rfl (ci := 3) (qc := (RX3, TX3, 8)) rfl rfl (List.mem_flatten.mpr ⟨_, List.mem_of_getElem? (i := 0) rfl, (bFit_mem hw_249).choose_spec⟩) rfl rfl hl.1 dX11_fit_74 (by show _ + 1 ≤ 4; omega) (by show _ + (2 * (zFl m1f wy2_236 - m1f)) ≤ 6 * (zNA (i1.toInt = 0 ∧ 0 < (fk 0).toInt ∧ (0 ≤ i2.toInt ∧ i2.toInt < (fk 2).toInt ∧ i2.toInt < 2) ∧ (e0f.toInt = 0 ∨ ¬ e1f.toInt = i1.toInt ∨ ¬ e2f.toInt = i2.toInt)) mdA n4A (zPl cr0_ inn0_ k10_) - n4A) + 6 * (zNA (i1.toInt = 1 ∧ 1 < (fk 0).toInt ∧ (0 ≤ i2.toInt ∧ i2.toInt < (fk 2).toInt ∧ i2.toInt < 2) ∧ (e0f.toInt = 0 ∨ ¬ e1f.toInt = i1.toInt ∨ ¬ e2f.toInt = i2.toInt)) mdB n4B (zPl cr1_ inn1_ k11_) - n4B) + 2 * (zNF (i1.toInt = 1 ∧ 1 < (fk 0).toInt ∧ (0 ≤ i2.toInt ∧ i2.toInt < (fk 2).toInt ∧ i2.toInt < 2) ∧ (e0f.toInt = 0 ∨ ¬ e1f.toInt = i1.toInt ∨ ¬ e2f.toInt = i2.toInt)) (zNF (i1.toInt = 0 ∧ 0 < (fk 0).toInt ∧ (0 ≤ i2.toInt ∧ i2.toInt < (fk 2).toInt ∧ i2.toInt < 2) ∧ (e0f.toInt = 0 ∨ ¬ e1f.toInt = i1.toInt ∨ ¬ e2f.toInt = i2.toInt)) m1f (zMw mdA wyA cr0_ inn0_ k10_)) (zMw mdB wyB cr1_ inn1_ k11_) - m1f); omega) (fun b1 H locs hw G => ?_)
          refine zEx5 hw ?_
          intro w2_250 s3_251 s4_252 s5_253 g1_254
          refine zCu3 ?_
          intro hbs9 h_255 h_256
          clear hw
          subst hbs9
          have G : zS T A s.heap s [z0_, wg1_, wwA, wt, [(xo, .inr (10, [.ref t, .ref im, .ref mk, .ref rd, .ref po, .ref co, .ref tr, .ref wa, .ref wb_, .ref fi, .ref cd]))], w2_250, w2_234, z1_, wg0_] _ _ := G
          have h39 := h_256
          refine lv_aload_n hx hb dX11_fit_77 rfl (lv_at hl 2 rfl) ?_
          refine z_get C G clX11 4 rfl 9 (by decide) m_fl_RX11_65 rfl dX11_fit_78 ?_
          refine lv_iload_n hx hb dX11_fit_81 rfl (lv_at hl 3 rfl) ?_
          refine zEx2 h_255 ?_
          intro a1_258 a2_259 hbs9
          clear h_255
          subst hbs9
          have G : zS T A s.heap s [z0_, wg1_, wwA, wt, [(xo, .inr (10, [.ref t, .ref im, .ref mk, .ref rd, .ref po, .ref co, .ref tr, .ref wa, .ref wb_, .ref fi, .ref cd]))], [(fi, .inr (3, [.int e0f, .int e1f, .int e2f, .int s3_251, .int s4_252, .int s5_253, .ref a1_258, .ref a2_259]))], [(a1_258, .inl (T.2 0, zFl m1f wy2_236, .inl g1_254))], [(a2_259, .inl (T.2 0, 7, .inl r2f))], w2_234, z1_, wg0_] _ _ := G.re rfl
          refine z_put C G clX3 5 rfl 1 (by decide) m_fl_RX11_292 rfl rfl rfl (Nat.le_of_ble_eq_true rfl) dX11_fit_82 (fun H locs G => ?_)
          have G : zS T A s.heap s [z0_, wg1_, wwA, wt, [(xo, .inr (10, [.ref t, .ref im, .ref mk, .ref rd, .ref po, .ref co, .ref tr, .ref wa, .ref wb_, .ref fi, .ref cd]))], [(fi, .inr (3, [.int e0f, .int i1, .int e2f, .int s3_251, .int s4_252, .int s5_253, .ref a1_258, .ref a2_259]))], [(a1_258, .inl (T.2 0, zFl m1f wy2_236, .inl g1_254))], [(a2_259, .inl (T.2 0, 7, .inl r2f))], w2_234, z1_, wg0_] _ _ := G
          refine lv_aload_n hx hb dX11_fit_85 rfl (lv_at hl 2 rfl) ?_
          refine z_get C G clX11 4 rfl 9 (by decide) m_fl_RX11_65 rfl dX11_fit_86 ?_
          refine lv_iload_n hx hb dX11_fit_89 rfl (lv_at hl 4 rfl) ?_
          refine z_put C G clX3 5 rfl 2 (by decide) m_fl_RX11_295 rfl rfl rfl (Nat.le_of_ble_eq_true rfl) dX11_fit_90 (fun H locs G => ?_)
          have G : zS T A s.heap s [z0_, wg1_, wwA, wt, [(xo, .inr (10, [.ref t, .ref im, .ref mk, .ref rd, .ref po, .ref co, .ref tr, .ref wa, .ref wb_, .ref fi, .ref cd]))], [(fi, .inr (3, [.int e0f, .int i1, .int i2, .int s3_251, .int s4_252, .int s5_253, .ref a1_258, .ref a2_259]))], [(a1_258, .inl (T.2 0, zFl m1f wy2_236, .inl g1_254))], [(a2_259, .inl (T.2 0, 7, .inl r2f))], w2_234, z1_, wg0_] _ _ := G
          refine lv_aload_n hx hb dX11_fit_93 rfl (lv_at hl 2 rfl) ?_
          refine z_get C G clX11 4 rfl 9 (by decide) m_fl_RX11_65 rfl dX11_fit_94 ?_
          refine lv_iconst (v := 1) hx hb dX11_fit_97 (by decide) ?_
          refine z_put C G clX3 5 rfl 0 (by decide) m_fl_RX11_109 rfl rfl rfl (Nat.le_of_ble_eq_true rfl) dX11_fit_98 (fun H locs G => ?_)
          have G : zS T A s.heap s [z0_, wg1_, wwA, wt, [(xo, .inr (10, [.ref t, .ref im, .ref mk, .ref rd, .ref po, .ref co, .ref tr, .ref wa, .ref wb_, .ref fi, .ref cd]))], [(fi, .inr (3, [.int 1, .int i1, .int i2, .int s3_251, .int s4_252, .int s5_253, .ref a1_258, .ref a2_259]))], [(a1_258, .inl (T.2 0, zFl m1f wy2_236, .inl g1_254))], [(a2_259, .inl (T.2 0, 7, .inl r2f))], w2_234, z1_, wg0_] _ _ := G
          refine lv_iconst (v := 1) hx hb dX11_fit_101 (by decide) ?_
          have hw_260 : bFit T fi 1 i1 i2 s3_251 s4_252 s5_253 g1_254 (zFl m1f wy2_236) r2f [(fi, .inr (3, [.int 1, .int i1, .int i2, .int s3_251, .int s4_252, .int s5_253, .ref a1_258, .ref a2_259])), (a1_258, .inl (T.2 0, zFl m1f wy2_236, .inl g1_254)), (a2_259, .inl (T.2 0, 7, .inl r2f))] := ⟨a1_258, a2_259, rfl⟩
          have G : zS T A s.heap s [z0_, wg1_, wwA, wt, [(xo, .inr (10, [.ref t, .ref im, .ref mk, .ref rd, .ref po, .ref co, .ref tr, .ref wa, .ref wb_, .ref fi, .ref cd]))], [(fi, .inr (3, [.int 1, .int i1, .int i2, .int s3_251, .int s4_252, .int s5_253, .ref a1_258, .ref a2_259])), (a1_258, .inl (T.2 0, zFl m1f wy2_236, .inl g1_254)), (a2_259, .inl (T.2 0, 7, .inl r2f))], w2_234, z1_, wg0_] _ _ := G.re rfl
          have G := G.sub (bs' := [[(xo, .inr (10, [.ref t, .ref im, .ref mk, .ref rd, .ref po, .ref co, .ref tr, .ref wa, .ref wb_, .ref fi, .ref cd]))], wt, z0_, z1_, wg0_, wg1_, wwA, w2_234, [(fi, .inr (3, [.int 1, .int i1, .int i2, .int s3_251, .int s4_252, .int s5_253, .ref a1_258, .ref a2_259])), (a1_258, .inl (T.2 0, zFl m1f wy2_236, .inl g1_254)), (a2_259, .inl (T.2 0, 7, .inl r2f))]]) [4, 3, 0, 7, 8, 1, 2, 6, 5] rfl
          exact z_zret C hr hlocks G (by omega) (by omega) dX11_fit_102 rfl ⟨laA, mdA, wyA, pc_A, f1A, f2A, f3A, f4A, f5A, f6A, n4A, wwA, l1, m2_235, wy2_236, pc2_237, g1_238, g2_239, f3B, g4_240, g5_241, g6_242, (zMk mdB n4B (zPl cr1_ inn1_ k11_)), w2_234, 1, i1, i2, s3_251, s4_252, s5_253, g1_254, (zFl m1f wy2_236), r2f, ([(fi, .inr (3, [.int 1, .int i1, .int i2, .int s3_251, .int s4_252, .int s5_253, .ref a1_258, .ref a2_259])), (a1_258, .inl (T.2 0, zFl m1f wy2_236, .inl g1_254)), (a2_259, .inl (T.2 0, 7, .inl r2f))]), rfl, hwwA, hmdA, hwmA, (zNA_n (by omega)).symm, hpwA, (fun q => q), h_244, (Or.inr rfl), hwy9, hNAm.symm, (zMk_pw hpwB), (fun _ => h_247), hw_260, hNF.symm, hfw9, h39, (Or.inr ⟨rfl, by omega, by decide, rfl⟩), (fun _ => Or.inr ⟨by omega, h_247⟩)⟩
        · have c_233n : e1f.toInt = i1.toInt := (fa_eq _ _).mp c_233
          refine lv_aload_n hx hb dX11_fit_51 rfl (lv_at hl 2 rfl) ?_
          refine z_get C G clX11 0 rfl 9 (by decide) m_fl_RX11_65 rfl dX11_fit_52 ?_
          refine z_get C G clX3 7 rfl 2 (by decide) m_fl_RX11_295 rfl dX11_fit_55 ?_
          refine lv_iload_n hx hb dX11_fit_58 rfl (lv_at hl 4 rfl) ?_
          refine lv_icmp_eq (tgt := 101) hx hb dX11_fit_59 (by decide) (fun c_261 => ?_) (fun c_261 => ?_)
          · have c_261n : e2f.toInt = i2.toInt := (fa_eq _ _).mp c_261
            refine lv_iconst (v := 1) hx hb dX11_fit_101 (by decide) ?_
            have hw_262 : bFit T fi e0f e1f e2f e3f e4f e5f r1f m1f r2f [(fi, .inr (3, [.int e0f, .int e1f, .int e2f, .int e3f, .int e4f, .int e5f, .ref a1_203, .ref a2_204])), (a1_203, .inl (T.2 0, m1f, .inl r1f)), (a2_204, .inl (T.2 0, 7, .inl r2f))] := ⟨a1_203, a2_204, rfl⟩
            have G : zS T A s.heap s [[(xo, .inr (10, [.ref t, .ref im, .ref mk, .ref rd, .ref po, .ref co, .ref tr, .ref wa, .ref wb_, .ref fi, .ref cd]))], z0_, z1_, wg0_, wg1_, wwA, wwB, [(fi, .inr (3, [.int e0f, .int e1f, .int e2f, .int e3f, .int e4f, .int e5f, .ref a1_203, .ref a2_204])), (a1_203, .inl (T.2 0, m1f, .inl r1f)), (a2_204, .inl (T.2 0, 7, .inl r2f))], wt] _ _ := G.re rfl
            have G := G.sub (bs' := [[(xo, .inr (10, [.ref t, .ref im, .ref mk, .ref rd, .ref po, .ref co, .ref tr, .ref wa, .ref wb_, .ref fi, .ref cd]))], wt, z0_, z1_, wg0_, wg1_, wwA, wwB, [(fi, .inr (3, [.int e0f, .int e1f, .int e2f, .int e3f, .int e4f, .int e5f, .ref a1_203, .ref a2_204])), (a1_203, .inl (T.2 0, m1f, .inl r1f)), (a2_204, .inl (T.2 0, 7, .inl r2f))]]) [0, 8, 1, 2, 3, 4, 5, 6, 7] rfl
            exact z_zret C hr hlocks G (by omega) (by omega) dX11_fit_102 rfl ⟨laA, mdA, wyA, pc_A, f1A, f2A, f3A, f4A, f5A, f6A, n4A, wwA, laB, mdB, wyB, pc_B, f1B, f2B, f3B, f4B, f5B, f6B, n4B, wwB, e0f, e1f, e2f, e3f, e4f, e5f, r1f, m1f, r2f, ([(fi, .inr (3, [.int e0f, .int e1f, .int e2f, .int e3f, .int e4f, .int e5f, .ref a1_203, .ref a2_204])), (a1_203, .inl (T.2 0, m1f, .inl r1f)), (a2_204, .inl (T.2 0, 7, .inl r2f))]), rfl, hwwA, hmdA, hwmA, (zNA_n (by omega)).symm, hpwA, (fun q => q), hwwB, hmdB, hwmB, (zNA_n (by omega)).symm, hpwB, (fun q => q), hw_262, (((zNF_n (c := (i1.toInt = 1 ∧ 1 < (fk 0).toInt ∧ (0 ≤ i2.toInt ∧ i2.toInt < (fk 2).toInt ∧ i2.toInt < 2) ∧ (e0f.toInt = 0 ∨ ¬ e1f.toInt = i1.toInt ∨ ¬ e2f.toInt = i2.toInt))) (by omega)).trans (zNF_n (by omega))).symm), hfw, hf3, (Or.inr ⟨rfl, by omega, (fun q => absurd (congrArg Int32.toInt q) (by show ¬ _ = (0 : Int); omega)), by omega⟩), hFI⟩
          · have c_261n : ¬ e2f.toInt = i2.toInt := fun q => c_261 ((fa_eq _ _).mpr q)
            refine lv_aload_n hx hb dX11_fit_62 rfl (lv_at hl 2 rfl) ?_
            refine z_get C G clX11 0 rfl 9 (by decide) m_fl_RX11_65 rfl dX11_fit_63 ?_
            refine lv_aload_n hx hb dX11_fit_66 rfl (lv_at hl 2 rfl) ?_
            refine lv_iload_n hx hb dX11_fit_67 rfl (lv_at hl 3 rfl) ?_
            refine lv_aload_n hx hb dX11_fit_68 rfl (lv_at hl 1 rfl) ?_
            have hcF : (i1.toInt = 1 ∧ 1 < (fk 0).toInt ∧ (0 ≤ i2.toInt ∧ i2.toInt < (fk 2).toInt ∧ i2.toInt < 2) ∧ (e0f.toInt = 0 ∨ ¬ e1f.toInt = i1.toInt ∨ ¬ e2f.toInt = i2.toInt)) := by omega
            have hcN : ¬ (i1.toInt = 0 ∧ 0 < (fk 0).toInt ∧ (0 ≤ i2.toInt ∧ i2.toInt < (fk 2).toInt ∧ i2.toInt < 2) ∧ (e0f.toInt = 0 ∨ ¬ e1f.toInt = i1.toInt ∨ ¬ e2f.toInt = i2.toInt)) := by omega
            have hNAm : zNA (i1.toInt = 1 ∧ 1 < (fk 0).toInt ∧ (0 ≤ i2.toInt ∧ i2.toInt < (fk 2).toInt ∧ i2.toInt < 2) ∧ (e0f.toInt = 0 ∨ ¬ e1f.toInt = i1.toInt ∨ ¬ e2f.toInt = i2.toInt)) mdB n4B (zPl cr1_ inn1_ k11_) = zMk mdB n4B (zPl cr1_ inn1_ k11_) := zNA_y hcF
            have hNAo : zNA (i1.toInt = 0 ∧ 0 < (fk 0).toInt ∧ (0 ≤ i2.toInt ∧ i2.toInt < (fk 2).toInt ∧ i2.toInt < 2) ∧ (e0f.toInt = 0 ∨ ¬ e1f.toInt = i1.toInt ∨ ¬ e2f.toInt = i2.toInt)) mdA n4A (zPl cr0_ inn0_ k10_) = n4A := zNA_n hcN
            have hn9 : zMk mdB n4B (zPl cr1_ inn1_ k11_) ≤ 131072 := zPw_le (zMk_pw hpwB)
            refine z_Vq (bc := [[(xo, .inr (10, [.ref t, .ref im, .ref mk, .ref rd, .ref po, .ref co, .ref tr, .ref wa, .ref wb_, .ref fi, .ref cd]))], wwB, z1_]) (br := [z0_, wg0_, wg1_, wwA, [(fi, .inr (3, [.int e0f, .int e1f, .int e2f, .int e3f, .int e4f, .int e5f, .ref a1_203, .ref a2_204]))], [(a1_203, .inl (T.2 0, m1f, .inl r1f))], [(a2_204, .inl (T.2 0, 7, .inl r2f))], wt]) (As := [.int i1, .ref l1]) (rest := [.ref fi]) C G (c_waysInB l T xo t im mk rd po co tr wa wb_ fi cd i1 laB mdB wyB pc_B f1B f2B f3B f4B f5B f6B n4B wwB l1 cr1_ inn1_ k11_ k21_ k31_ k41_ z1_ hwwB hz1_ hI1_ hpwB hmdB hwmB (by omega)) (kV_RX11_235 C.2.2.2.2 (Nat.le_of_ble_eq_true rfl) (Nat.le_of_ble_eq_true rfl)) [0, 6, 2] [1, 3, 4, 5, 7, 8, 9, 10] rfl rfl (ci := 10) (qc := (RX11, TX11, 11)) rfl rfl (List.mem_flatten.mpr ⟨_, List.mem_of_getElem? (i := 0) rfl, List.mem_cons_self⟩) rfl rfl hl.1 dX11_fit_69 (by show _ + 3 ≤ 4; omega) (by show _ + (6 * (zMk mdB n4B (zPl cr1_ inn1_ k11_) - n4B)) ≤ 6 * (zNA (i1.toInt = 0 ∧ 0 < (fk 0).toInt ∧ (0 ≤ i2.toInt ∧ i2.toInt < (fk 2).toInt ∧ i2.toInt < 2) ∧ (e0f.toInt = 0 ∨ ¬ e1f.toInt = i1.toInt ∨ ¬ e2f.toInt = i2.toInt)) mdA n4A (zPl cr0_ inn0_ k10_) - n4A) + 6 * (zNA (i1.toInt = 1 ∧ 1 < (fk 0).toInt ∧ (0 ≤ i2.toInt ∧ i2.toInt < (fk 2).toInt ∧ i2.toInt < 2) ∧ (e0f.toInt = 0 ∨ ¬ e1f.toInt = i1.toInt ∨ ¬ e2f.toInt = i2.toInt)) mdB n4B (zPl cr1_ inn1_ k11_) - n4B) + 2 * (zNF (i1.toInt = 1 ∧ 1 < (fk 0).toInt ∧ (0 ≤ i2.toInt ∧ i2.toInt < (fk 2).toInt ∧ i2.toInt < 2) ∧ (e0f.toInt = 0 ∨ ¬ e1f.toInt = i1.toInt ∨ ¬ e2f.toInt = i2.toInt)) (zNF (i1.toInt = 0 ∧ 0 < (fk 0).toInt ∧ (0 ≤ i2.toInt ∧ i2.toInt < (fk 2).toInt ∧ i2.toInt < 2) ∧ (e0f.toInt = 0 ∨ ¬ e1f.toInt = i1.toInt ∨ ¬ e2f.toInt = i2.toInt)) m1f (zMw mdA wyA cr0_ inn0_ k10_)) (zMw mdB wyB cr1_ inn1_ k11_) - m1f); omega) (fun r_277 b1 H locs hw G => ?_)
            refine zEx9 hw ?_
            intro w2_263 m2_264 wy2_265 pc2_266 g1_267 g2_268 g4_269 g5_270 g6_271
            refine zCu6 ?_
            intro hbs9 h_272 h_273 h_274 h_275 h_276
            clear hw
            subst hbs9
            have G : zS T A s.heap s [z0_, wg0_, wg1_, wwA, [(fi, .inr (3, [.int e0f, .int e1f, .int e2f, .int e3f, .int e4f, .int e5f, .ref a1_203, .ref a2_204]))], [(a1_203, .inl (T.2 0, m1f, .inl r1f))], [(a2_204, .inl (T.2 0, 7, .inl r2f))], wt, [(xo, .inr (10, [.ref t, .ref im, .ref mk, .ref rd, .ref po, .ref co, .ref tr, .ref wa, .ref wb_, .ref fi, .ref cd]))], w2_263, z1_] _ _ := G
            subst h_272
            have hwy9 := h_274
            have hNF : zNF (i1.toInt = 1 ∧ 1 < (fk 0).toInt ∧ (0 ≤ i2.toInt ∧ i2.toInt < (fk 2).toInt ∧ i2.toInt < 2) ∧ (e0f.toInt = 0 ∨ ¬ e1f.toInt = i1.toInt ∨ ¬ e2f.toInt = i2.toInt)) (zNF (i1.toInt = 0 ∧ 0 < (fk 0).toInt ∧ (0 ≤ i2.toInt ∧ i2.toInt < (fk 2).toInt ∧ i2.toInt < 2) ∧ (e0f.toInt = 0 ∨ ¬ e1f.toInt = i1.toInt ∨ ¬ e2f.toInt = i2.toInt)) m1f (zMw mdA wyA cr0_ inn0_ k10_)) (zMw mdB wyB cr1_ inn1_ k11_) = zFl m1f wy2_265 := by rw [zNF_y (c := (i1.toInt = 1 ∧ 1 < (fk 0).toInt ∧ (0 ≤ i2.toInt ∧ i2.toInt < (fk 2).toInt ∧ i2.toInt < 2) ∧ (e0f.toInt = 0 ∨ ¬ e1f.toInt = i1.toInt ∨ ¬ e2f.toInt = i2.toInt))) hcF, zNF_n (c := (i1.toInt = 0 ∧ 0 < (fk 0).toInt ∧ (0 ≤ i2.toInt ∧ i2.toInt < (fk 2).toInt ∧ i2.toInt < 2) ∧ (e0f.toInt = 0 ∨ ¬ e1f.toInt = i1.toInt ∨ ¬ e2f.toInt = i2.toInt))) hcN, h_275]
            have hfw9 := zFl_pw (wy := wy2_265) hfw
            refine lv_aload hx hb dX11_fit_72 (lv_at hl 0 rfl) ?_
            have hw_278 : bFit T fi e0f e1f e2f e3f e4f e5f r1f m1f r2f [(fi, .inr (3, [.int e0f, .int e1f, .int e2f, .int e3f, .int e4f, .int e5f, .ref a1_203, .ref a2_204])), (a1_203, .inl (T.2 0, m1f, .inl r1f)), (a2_204, .inl (T.2 0, 7, .inl r2f))] := ⟨a1_203, a2_204, rfl⟩
            have G : zS T A s.heap s [z0_, wg0_, wg1_, wwA, [(fi, .inr (3, [.int e0f, .int e1f, .int e2f, .int e3f, .int e4f, .int e5f, .ref a1_203, .ref a2_204])), (a1_203, .inl (T.2 0, m1f, .inl r1f)), (a2_204, .inl (T.2 0, 7, .inl r2f))], wt, [(xo, .inr (10, [.ref t, .ref im, .ref mk, .ref rd, .ref po, .ref co, .ref tr, .ref wa, .ref wb_, .ref fi, .ref cd]))], w2_263, z1_] _ _ := G.re rfl
            refine z_Vv (bc := [[(fi, .inr (3, [.int e0f, .int e1f, .int e2f, .int e3f, .int e4f, .int e5f, .ref a1_203, .ref a2_204])), (a1_203, .inl (T.2 0, m1f, .inl r1f)), (a2_204, .inl (T.2 0, 7, .inl r2f))], w2_263, z1_, wg0_]) (br := [z0_, wg1_, wwA, wt, [(xo, .inr (10, [.ref t, .ref im, .ref mk, .ref rd, .ref po, .ref co, .ref tr, .ref wa, .ref wb_, .ref fi, .ref cd]))]]) (As := [.ref wb_, .ref g0]) (rest := []) C G (c_find l T fi e0f e1f e2f e3f e4f e5f r1f m1f r2f ([(fi, .inr (3, [.int e0f, .int e1f, .int e2f, .int e3f, .int e4f, .int e5f, .ref a1_203, .ref a2_204])), (a1_203, .inl (T.2 0, m1f, .inl r1f)), (a2_204, .inl (T.2 0, 7, .inl r2f))]) wb_ l1 m2_264 wy2_265 pc2_266 g1_267 g2_268 f3B g4_269 g5_270 g6_271 (zMk mdB n4B (zPl cr1_ inn1_ k11_)) w2_263 cr1_ inn1_ k11_ k21_ k31_ k41_ z1_ g0 gg0_ q10_ q20_ wg0_ hw_278 h_273 hz1_ hg0_ hn9 hfw hwy9) (kV_RX11_298 C.2.2.2.2 (Nat.le_of_ble_eq_true rfl) (Nat.le_of_ble_eq_true rfl)) [4, 7, 8, 1] [0, 2, 3, 5, 6] rfl rfl (ci := 3) (qc := (RX3, TX3, 8)) rfl rfl (List.mem_flatten.mpr ⟨_, List.mem_of_getElem? (i := 0) rfl, (bFit_mem hw_278).choose_spec⟩) rfl rfl hl.1 dX11_fit_74 (by show _ + 1 ≤ 4; omega) (by show _ + (2 * (zFl m1f wy2_265 - m1f)) ≤ 6 * (zNA (i1.toInt = 0 ∧ 0 < (fk 0).toInt ∧ (0 ≤ i2.toInt ∧ i2.toInt < (fk 2).toInt ∧ i2.toInt < 2) ∧ (e0f.toInt = 0 ∨ ¬ e1f.toInt = i1.toInt ∨ ¬ e2f.toInt = i2.toInt)) mdA n4A (zPl cr0_ inn0_ k10_) - n4A) + 6 * (zNA (i1.toInt = 1 ∧ 1 < (fk 0).toInt ∧ (0 ≤ i2.toInt ∧ i2.toInt < (fk 2).toInt ∧ i2.toInt < 2) ∧ (e0f.toInt = 0 ∨ ¬ e1f.toInt = i1.toInt ∨ ¬ e2f.toInt = i2.toInt)) mdB n4B (zPl cr1_ inn1_ k11_) - n4B) + 2 * (zNF (i1.toInt = 1 ∧ 1 < (fk 0).toInt ∧ (0 ≤ i2.toInt ∧ i2.toInt < (fk 2).toInt ∧ i2.toInt < 2) ∧ (e0f.toInt = 0 ∨ ¬ e1f.toInt = i1.toInt ∨ ¬ e2f.toInt = i2.toInt)) (zNF (i1.toInt = 0 ∧ 0 < (fk 0).toInt ∧ (0 ≤ i2.toInt ∧ i2.toInt < (fk 2).toInt ∧ i2.toInt < 2) ∧ (e0f.toInt = 0 ∨ ¬ e1f.toInt = i1.toInt ∨ ¬ e2f.toInt = i2.toInt)) m1f (zMw mdA wyA cr0_ inn0_ k10_)) (zMw mdB wyB cr1_ inn1_ k11_) - m1f); omega) (fun b1 H locs hw G => ?_)
            refine zEx5 hw ?_
            intro w2_279 s3_280 s4_281 s5_282 g1_283
            refine zCu3 ?_
            intro hbs9 h_284 h_285
            clear hw
            subst hbs9
            have G : zS T A s.heap s [z0_, wg1_, wwA, wt, [(xo, .inr (10, [.ref t, .ref im, .ref mk, .ref rd, .ref po, .ref co, .ref tr, .ref wa, .ref wb_, .ref fi, .ref cd]))], w2_279, w2_263, z1_, wg0_] _ _ := G
            have h39 := h_285
            refine lv_aload_n hx hb dX11_fit_77 rfl (lv_at hl 2 rfl) ?_
            refine z_get C G clX11 4 rfl 9 (by decide) m_fl_RX11_65 rfl dX11_fit_78 ?_
            refine lv_iload_n hx hb dX11_fit_81 rfl (lv_at hl 3 rfl) ?_
            refine zEx2 h_284 ?_
            intro a1_287 a2_288 hbs9
            clear h_284
            subst hbs9
            have G : zS T A s.heap s [z0_, wg1_, wwA, wt, [(xo, .inr (10, [.ref t, .ref im, .ref mk, .ref rd, .ref po, .ref co, .ref tr, .ref wa, .ref wb_, .ref fi, .ref cd]))], [(fi, .inr (3, [.int e0f, .int e1f, .int e2f, .int s3_280, .int s4_281, .int s5_282, .ref a1_287, .ref a2_288]))], [(a1_287, .inl (T.2 0, zFl m1f wy2_265, .inl g1_283))], [(a2_288, .inl (T.2 0, 7, .inl r2f))], w2_263, z1_, wg0_] _ _ := G.re rfl
            refine z_put C G clX3 5 rfl 1 (by decide) m_fl_RX11_292 rfl rfl rfl (Nat.le_of_ble_eq_true rfl) dX11_fit_82 (fun H locs G => ?_)
            have G : zS T A s.heap s [z0_, wg1_, wwA, wt, [(xo, .inr (10, [.ref t, .ref im, .ref mk, .ref rd, .ref po, .ref co, .ref tr, .ref wa, .ref wb_, .ref fi, .ref cd]))], [(fi, .inr (3, [.int e0f, .int i1, .int e2f, .int s3_280, .int s4_281, .int s5_282, .ref a1_287, .ref a2_288]))], [(a1_287, .inl (T.2 0, zFl m1f wy2_265, .inl g1_283))], [(a2_288, .inl (T.2 0, 7, .inl r2f))], w2_263, z1_, wg0_] _ _ := G
            refine lv_aload_n hx hb dX11_fit_85 rfl (lv_at hl 2 rfl) ?_
            refine z_get C G clX11 4 rfl 9 (by decide) m_fl_RX11_65 rfl dX11_fit_86 ?_
            refine lv_iload_n hx hb dX11_fit_89 rfl (lv_at hl 4 rfl) ?_
            refine z_put C G clX3 5 rfl 2 (by decide) m_fl_RX11_295 rfl rfl rfl (Nat.le_of_ble_eq_true rfl) dX11_fit_90 (fun H locs G => ?_)
            have G : zS T A s.heap s [z0_, wg1_, wwA, wt, [(xo, .inr (10, [.ref t, .ref im, .ref mk, .ref rd, .ref po, .ref co, .ref tr, .ref wa, .ref wb_, .ref fi, .ref cd]))], [(fi, .inr (3, [.int e0f, .int i1, .int i2, .int s3_280, .int s4_281, .int s5_282, .ref a1_287, .ref a2_288]))], [(a1_287, .inl (T.2 0, zFl m1f wy2_265, .inl g1_283))], [(a2_288, .inl (T.2 0, 7, .inl r2f))], w2_263, z1_, wg0_] _ _ := G
            refine lv_aload_n hx hb dX11_fit_93 rfl (lv_at hl 2 rfl) ?_
            refine z_get C G clX11 4 rfl 9 (by decide) m_fl_RX11_65 rfl dX11_fit_94 ?_
            refine lv_iconst (v := 1) hx hb dX11_fit_97 (by decide) ?_
            refine z_put C G clX3 5 rfl 0 (by decide) m_fl_RX11_109 rfl rfl rfl (Nat.le_of_ble_eq_true rfl) dX11_fit_98 (fun H locs G => ?_)
            have G : zS T A s.heap s [z0_, wg1_, wwA, wt, [(xo, .inr (10, [.ref t, .ref im, .ref mk, .ref rd, .ref po, .ref co, .ref tr, .ref wa, .ref wb_, .ref fi, .ref cd]))], [(fi, .inr (3, [.int 1, .int i1, .int i2, .int s3_280, .int s4_281, .int s5_282, .ref a1_287, .ref a2_288]))], [(a1_287, .inl (T.2 0, zFl m1f wy2_265, .inl g1_283))], [(a2_288, .inl (T.2 0, 7, .inl r2f))], w2_263, z1_, wg0_] _ _ := G
            refine lv_iconst (v := 1) hx hb dX11_fit_101 (by decide) ?_
            have hw_289 : bFit T fi 1 i1 i2 s3_280 s4_281 s5_282 g1_283 (zFl m1f wy2_265) r2f [(fi, .inr (3, [.int 1, .int i1, .int i2, .int s3_280, .int s4_281, .int s5_282, .ref a1_287, .ref a2_288])), (a1_287, .inl (T.2 0, zFl m1f wy2_265, .inl g1_283)), (a2_288, .inl (T.2 0, 7, .inl r2f))] := ⟨a1_287, a2_288, rfl⟩
            have G : zS T A s.heap s [z0_, wg1_, wwA, wt, [(xo, .inr (10, [.ref t, .ref im, .ref mk, .ref rd, .ref po, .ref co, .ref tr, .ref wa, .ref wb_, .ref fi, .ref cd]))], [(fi, .inr (3, [.int 1, .int i1, .int i2, .int s3_280, .int s4_281, .int s5_282, .ref a1_287, .ref a2_288])), (a1_287, .inl (T.2 0, zFl m1f wy2_265, .inl g1_283)), (a2_288, .inl (T.2 0, 7, .inl r2f))], w2_263, z1_, wg0_] _ _ := G.re rfl
            have G := G.sub (bs' := [[(xo, .inr (10, [.ref t, .ref im, .ref mk, .ref rd, .ref po, .ref co, .ref tr, .ref wa, .ref wb_, .ref fi, .ref cd]))], wt, z0_, z1_, wg0_, wg1_, wwA, w2_263, [(fi, .inr (3, [.int 1, .int i1, .int i2, .int s3_280, .int s4_281, .int s5_282, .ref a1_287, .ref a2_288])), (a1_287, .inl (T.2 0, zFl m1f wy2_265, .inl g1_283)), (a2_288, .inl (T.2 0, 7, .inl r2f))]]) [4, 3, 0, 7, 8, 1, 2, 6, 5] rfl
            exact z_zret C hr hlocks G (by omega) (by omega) dX11_fit_102 rfl ⟨laA, mdA, wyA, pc_A, f1A, f2A, f3A, f4A, f5A, f6A, n4A, wwA, l1, m2_264, wy2_265, pc2_266, g1_267, g2_268, f3B, g4_269, g5_270, g6_271, (zMk mdB n4B (zPl cr1_ inn1_ k11_)), w2_263, 1, i1, i2, s3_280, s4_281, s5_282, g1_283, (zFl m1f wy2_265), r2f, ([(fi, .inr (3, [.int 1, .int i1, .int i2, .int s3_280, .int s4_281, .int s5_282, .ref a1_287, .ref a2_288])), (a1_287, .inl (T.2 0, zFl m1f wy2_265, .inl g1_283)), (a2_288, .inl (T.2 0, 7, .inl r2f))]), rfl, hwwA, hmdA, hwmA, (zNA_n (by omega)).symm, hpwA, (fun q => q), h_273, (Or.inr rfl), hwy9, hNAm.symm, (zMk_pw hpwB), (fun _ => h_276), hw_289, hNF.symm, hfw9, h39, (Or.inr ⟨rfl, by omega, by decide, rfl⟩), (fun _ => Or.inr ⟨by omega, h_276⟩)⟩
    · have h_201 : i2.toInt = 1 := h_201
      have h_202 : 1 < (fk 2).toInt := h_202
      refine lv_astore (lv' := [(4, .ref g1), (3, .ref l1), (0, .ref xo), (1, .int i1), (2, .int i2)]) hx hb dX11_fit_17 hl (by decide) rfl (fun ls hl => ?_)
      refine lv_aload_n hx hb dX11_fit_19 rfl (lv_at hl 1 rfl) ?_
      refine lv_ifnull hx hb dX11_fit_20 ?_
      refine lv_aload hx hb dX11_fit_23 (lv_at hl 0 rfl) ?_
      refine lv_ifnonnull (tgt := 30) hx hb dX11_fit_25 (by decide) ?_
      refine lv_aload_n hx hb dX11_fit_30 rfl (lv_at hl 2 rfl) ?_
      refine z_get C G clX11 0 rfl 9 (by decide) m_fl_RX11_65 rfl dX11_fit_31 ?_
      refine zEx2 hwff ?_
      intro a1_290 a2_291 hbs9
      clear hwff
      subst hbs9
      have G : zS T A s.heap s [[(xo, .inr (10, [.ref t, .ref im, .ref mk, .ref rd, .ref po, .ref co, .ref tr, .ref wa, .ref wb_, .ref fi, .ref cd]))], z0_, z1_, wg0_, wg1_, wwA, wwB, [(fi, .inr (3, [.int e0f, .int e1f, .int e2f, .int e3f, .int e4f, .int e5f, .ref a1_290, .ref a2_291]))], [(a1_290, .inl (T.2 0, m1f, .inl r1f))], [(a2_291, .inl (T.2 0, 7, .inl r2f))], wt] _ _ := G.re rfl
      refine z_get C G clX3 7 rfl 0 (by decide) m_fl_RX11_109 rfl dX11_fit_34 ?_
      refine lv_if_eq (tgt := 62) hx hb dX11_fit_37 (by decide) (fun c_292 => ?_) (fun c_292 => ?_)
      · have c_292n : e0f.toInt = (0 : Int) := (fa_eq _ _).mp c_292
        refine lv_aload_n hx hb dX11_fit_62 rfl (lv_at hl 2 rfl) ?_
        refine z_get C G clX11 0 rfl 9 (by decide) m_fl_RX11_65 rfl dX11_fit_63 ?_
        refine lv_aload_n hx hb dX11_fit_66 rfl (lv_at hl 2 rfl) ?_
        refine lv_iload_n hx hb dX11_fit_67 rfl (lv_at hl 3 rfl) ?_
        refine lv_aload_n hx hb dX11_fit_68 rfl (lv_at hl 1 rfl) ?_
        have hcF : (i1.toInt = 1 ∧ 1 < (fk 0).toInt ∧ (0 ≤ i2.toInt ∧ i2.toInt < (fk 2).toInt ∧ i2.toInt < 2) ∧ (e0f.toInt = 0 ∨ ¬ e1f.toInt = i1.toInt ∨ ¬ e2f.toInt = i2.toInt)) := by omega
        have hcN : ¬ (i1.toInt = 0 ∧ 0 < (fk 0).toInt ∧ (0 ≤ i2.toInt ∧ i2.toInt < (fk 2).toInt ∧ i2.toInt < 2) ∧ (e0f.toInt = 0 ∨ ¬ e1f.toInt = i1.toInt ∨ ¬ e2f.toInt = i2.toInt)) := by omega
        have hNAm : zNA (i1.toInt = 1 ∧ 1 < (fk 0).toInt ∧ (0 ≤ i2.toInt ∧ i2.toInt < (fk 2).toInt ∧ i2.toInt < 2) ∧ (e0f.toInt = 0 ∨ ¬ e1f.toInt = i1.toInt ∨ ¬ e2f.toInt = i2.toInt)) mdB n4B (zPl cr1_ inn1_ k11_) = zMk mdB n4B (zPl cr1_ inn1_ k11_) := zNA_y hcF
        have hNAo : zNA (i1.toInt = 0 ∧ 0 < (fk 0).toInt ∧ (0 ≤ i2.toInt ∧ i2.toInt < (fk 2).toInt ∧ i2.toInt < 2) ∧ (e0f.toInt = 0 ∨ ¬ e1f.toInt = i1.toInt ∨ ¬ e2f.toInt = i2.toInt)) mdA n4A (zPl cr0_ inn0_ k10_) = n4A := zNA_n hcN
        have hn9 : zMk mdB n4B (zPl cr1_ inn1_ k11_) ≤ 131072 := zPw_le (zMk_pw hpwB)
        refine z_Vq (bc := [[(xo, .inr (10, [.ref t, .ref im, .ref mk, .ref rd, .ref po, .ref co, .ref tr, .ref wa, .ref wb_, .ref fi, .ref cd]))], wwB, z1_]) (br := [z0_, wg0_, wg1_, wwA, [(fi, .inr (3, [.int e0f, .int e1f, .int e2f, .int e3f, .int e4f, .int e5f, .ref a1_290, .ref a2_291]))], [(a1_290, .inl (T.2 0, m1f, .inl r1f))], [(a2_291, .inl (T.2 0, 7, .inl r2f))], wt]) (As := [.int i1, .ref l1]) (rest := [.ref fi]) C G (c_waysInB l T xo t im mk rd po co tr wa wb_ fi cd i1 laB mdB wyB pc_B f1B f2B f3B f4B f5B f6B n4B wwB l1 cr1_ inn1_ k11_ k21_ k31_ k41_ z1_ hwwB hz1_ hI1_ hpwB hmdB hwmB (by omega)) (kV_RX11_235 C.2.2.2.2 (Nat.le_of_ble_eq_true rfl) (Nat.le_of_ble_eq_true rfl)) [0, 6, 2] [1, 3, 4, 5, 7, 8, 9, 10] rfl rfl (ci := 10) (qc := (RX11, TX11, 11)) rfl rfl (List.mem_flatten.mpr ⟨_, List.mem_of_getElem? (i := 0) rfl, List.mem_cons_self⟩) rfl rfl hl.1 dX11_fit_69 (by show _ + 3 ≤ 4; omega) (by show _ + (6 * (zMk mdB n4B (zPl cr1_ inn1_ k11_) - n4B)) ≤ 6 * (zNA (i1.toInt = 0 ∧ 0 < (fk 0).toInt ∧ (0 ≤ i2.toInt ∧ i2.toInt < (fk 2).toInt ∧ i2.toInt < 2) ∧ (e0f.toInt = 0 ∨ ¬ e1f.toInt = i1.toInt ∨ ¬ e2f.toInt = i2.toInt)) mdA n4A (zPl cr0_ inn0_ k10_) - n4A) + 6 * (zNA (i1.toInt = 1 ∧ 1 < (fk 0).toInt ∧ (0 ≤ i2.toInt ∧ i2.toInt < (fk 2).toInt ∧ i2.toInt < 2) ∧ (e0f.toInt = 0 ∨ ¬ e1f.toInt = i1.toInt ∨ ¬ e2f.toInt = i2.toInt)) mdB n4B (zPl cr1_ inn1_ k11_) - n4B) + 2 * (zNF (i1.toInt = 1 ∧ 1 < (fk 0).toInt ∧ (0 ≤ i2.toInt ∧ i2.toInt < (fk 2).toInt ∧ i2.toInt < 2) ∧ (e0f.toInt = 0 ∨ ¬ e1f.toInt = i1.toInt ∨ ¬ e2f.toInt = i2.toInt)) (zNF (i1.toInt = 0 ∧ 0 < (fk 0).toInt ∧ (0 ≤ i2.toInt ∧ i2.toInt < (fk 2).toInt ∧ i2.toInt < 2) ∧ (e0f.toInt = 0 ∨ ¬ e1f.toInt = i1.toInt ∨ ¬ e2f.toInt = i2.toInt)) m1f (zMw mdA wyA cr0_ inn0_ k10_)) (zMw mdB wyB cr1_ inn1_ k11_) - m1f); omega) (fun r_307 b1 H locs hw G => ?_)
        refine zEx9 hw ?_
        intro w2_293 m2_294 wy2_295 pc2_296 g1_297 g2_298 g4_299 g5_300 g6_301
        refine zCu6 ?_
        intro hbs9 h_302 h_303 h_304 h_305 h_306
        clear hw
        subst hbs9
        have G : zS T A s.heap s [z0_, wg0_, wg1_, wwA, [(fi, .inr (3, [.int e0f, .int e1f, .int e2f, .int e3f, .int e4f, .int e5f, .ref a1_290, .ref a2_291]))], [(a1_290, .inl (T.2 0, m1f, .inl r1f))], [(a2_291, .inl (T.2 0, 7, .inl r2f))], wt, [(xo, .inr (10, [.ref t, .ref im, .ref mk, .ref rd, .ref po, .ref co, .ref tr, .ref wa, .ref wb_, .ref fi, .ref cd]))], w2_293, z1_] _ _ := G
        subst h_302
        have hwy9 := h_304
        have hNF : zNF (i1.toInt = 1 ∧ 1 < (fk 0).toInt ∧ (0 ≤ i2.toInt ∧ i2.toInt < (fk 2).toInt ∧ i2.toInt < 2) ∧ (e0f.toInt = 0 ∨ ¬ e1f.toInt = i1.toInt ∨ ¬ e2f.toInt = i2.toInt)) (zNF (i1.toInt = 0 ∧ 0 < (fk 0).toInt ∧ (0 ≤ i2.toInt ∧ i2.toInt < (fk 2).toInt ∧ i2.toInt < 2) ∧ (e0f.toInt = 0 ∨ ¬ e1f.toInt = i1.toInt ∨ ¬ e2f.toInt = i2.toInt)) m1f (zMw mdA wyA cr0_ inn0_ k10_)) (zMw mdB wyB cr1_ inn1_ k11_) = zFl m1f wy2_295 := by rw [zNF_y (c := (i1.toInt = 1 ∧ 1 < (fk 0).toInt ∧ (0 ≤ i2.toInt ∧ i2.toInt < (fk 2).toInt ∧ i2.toInt < 2) ∧ (e0f.toInt = 0 ∨ ¬ e1f.toInt = i1.toInt ∨ ¬ e2f.toInt = i2.toInt))) hcF, zNF_n (c := (i1.toInt = 0 ∧ 0 < (fk 0).toInt ∧ (0 ≤ i2.toInt ∧ i2.toInt < (fk 2).toInt ∧ i2.toInt < 2) ∧ (e0f.toInt = 0 ∨ ¬ e1f.toInt = i1.toInt ∨ ¬ e2f.toInt = i2.toInt))) hcN, h_305]
        have hfw9 := zFl_pw (wy := wy2_295) hfw
        refine lv_aload hx hb dX11_fit_72 (lv_at hl 0 rfl) ?_
        have hw_308 : bFit T fi e0f e1f e2f e3f e4f e5f r1f m1f r2f [(fi, .inr (3, [.int e0f, .int e1f, .int e2f, .int e3f, .int e4f, .int e5f, .ref a1_290, .ref a2_291])), (a1_290, .inl (T.2 0, m1f, .inl r1f)), (a2_291, .inl (T.2 0, 7, .inl r2f))] := ⟨a1_290, a2_291, rfl⟩
        have G : zS T A s.heap s [z0_, wg0_, wg1_, wwA, [(fi, .inr (3, [.int e0f, .int e1f, .int e2f, .int e3f, .int e4f, .int e5f, .ref a1_290, .ref a2_291])), (a1_290, .inl (T.2 0, m1f, .inl r1f)), (a2_291, .inl (T.2 0, 7, .inl r2f))], wt, [(xo, .inr (10, [.ref t, .ref im, .ref mk, .ref rd, .ref po, .ref co, .ref tr, .ref wa, .ref wb_, .ref fi, .ref cd]))], w2_293, z1_] _ _ := G.re rfl
        refine z_Vv (bc := [[(fi, .inr (3, [.int e0f, .int e1f, .int e2f, .int e3f, .int e4f, .int e5f, .ref a1_290, .ref a2_291])), (a1_290, .inl (T.2 0, m1f, .inl r1f)), (a2_291, .inl (T.2 0, 7, .inl r2f))], w2_293, z1_, wg1_]) (br := [z0_, wg0_, wwA, wt, [(xo, .inr (10, [.ref t, .ref im, .ref mk, .ref rd, .ref po, .ref co, .ref tr, .ref wa, .ref wb_, .ref fi, .ref cd]))]]) (As := [.ref wb_, .ref g1]) (rest := []) C G (c_find l T fi e0f e1f e2f e3f e4f e5f r1f m1f r2f ([(fi, .inr (3, [.int e0f, .int e1f, .int e2f, .int e3f, .int e4f, .int e5f, .ref a1_290, .ref a2_291])), (a1_290, .inl (T.2 0, m1f, .inl r1f)), (a2_291, .inl (T.2 0, 7, .inl r2f))]) wb_ l1 m2_294 wy2_295 pc2_296 g1_297 g2_298 f3B g4_299 g5_300 g6_301 (zMk mdB n4B (zPl cr1_ inn1_ k11_)) w2_293 cr1_ inn1_ k11_ k21_ k31_ k41_ z1_ g1 gg1_ q11_ q21_ wg1_ hw_308 h_303 hz1_ hg1_ hn9 hfw hwy9) (kV_RX11_298 C.2.2.2.2 (Nat.le_of_ble_eq_true rfl) (Nat.le_of_ble_eq_true rfl)) [4, 7, 8, 2] [0, 1, 3, 5, 6] rfl rfl (ci := 3) (qc := (RX3, TX3, 8)) rfl rfl (List.mem_flatten.mpr ⟨_, List.mem_of_getElem? (i := 0) rfl, (bFit_mem hw_308).choose_spec⟩) rfl rfl hl.1 dX11_fit_74 (by show _ + 1 ≤ 4; omega) (by show _ + (2 * (zFl m1f wy2_295 - m1f)) ≤ 6 * (zNA (i1.toInt = 0 ∧ 0 < (fk 0).toInt ∧ (0 ≤ i2.toInt ∧ i2.toInt < (fk 2).toInt ∧ i2.toInt < 2) ∧ (e0f.toInt = 0 ∨ ¬ e1f.toInt = i1.toInt ∨ ¬ e2f.toInt = i2.toInt)) mdA n4A (zPl cr0_ inn0_ k10_) - n4A) + 6 * (zNA (i1.toInt = 1 ∧ 1 < (fk 0).toInt ∧ (0 ≤ i2.toInt ∧ i2.toInt < (fk 2).toInt ∧ i2.toInt < 2) ∧ (e0f.toInt = 0 ∨ ¬ e1f.toInt = i1.toInt ∨ ¬ e2f.toInt = i2.toInt)) mdB n4B (zPl cr1_ inn1_ k11_) - n4B) + 2 * (zNF (i1.toInt = 1 ∧ 1 < (fk 0).toInt ∧ (0 ≤ i2.toInt ∧ i2.toInt < (fk 2).toInt ∧ i2.toInt < 2) ∧ (e0f.toInt = 0 ∨ ¬ e1f.toInt = i1.toInt ∨ ¬ e2f.toInt = i2.toInt)) (zNF (i1.toInt = 0 ∧ 0 < (fk 0).toInt ∧ (0 ≤ i2.toInt ∧ i2.toInt < (fk 2).toInt ∧ i2.toInt < 2) ∧ (e0f.toInt = 0 ∨ ¬ e1f.toInt = i1.toInt ∨ ¬ e2f.toInt = i2.toInt)) m1f (zMw mdA wyA cr0_ inn0_ k10_)) (zMw mdB wyB cr1_ inn1_ k11_) - m1f); omega) (fun b1 H locs hw G => ?_)
        refine zEx5 hw ?_
        intro w2_309 s3_310 s4_311 s5_312 g1_313
        refine zCu3 ?_
        intro hbs9 h_314 h_315
        clear hw
        subst hbs9
        have G : zS T A s.heap s [z0_, wg0_, wwA, wt, [(xo, .inr (10, [.ref t, .ref im, .ref mk, .ref rd, .ref po, .ref co, .ref tr, .ref wa, .ref wb_, .ref fi, .ref cd]))], w2_309, w2_293, z1_, wg1_] _ _ := G
        have h39 := h_315
        refine lv_aload_n hx hb dX11_fit_77 rfl (lv_at hl 2 rfl) ?_
        refine z_get C G clX11 4 rfl 9 (by decide) m_fl_RX11_65 rfl dX11_fit_78 ?_
        refine lv_iload_n hx hb dX11_fit_81 rfl (lv_at hl 3 rfl) ?_
        refine zEx2 h_314 ?_
        intro a1_317 a2_318 hbs9
        clear h_314
        subst hbs9
        have G : zS T A s.heap s [z0_, wg0_, wwA, wt, [(xo, .inr (10, [.ref t, .ref im, .ref mk, .ref rd, .ref po, .ref co, .ref tr, .ref wa, .ref wb_, .ref fi, .ref cd]))], [(fi, .inr (3, [.int e0f, .int e1f, .int e2f, .int s3_310, .int s4_311, .int s5_312, .ref a1_317, .ref a2_318]))], [(a1_317, .inl (T.2 0, zFl m1f wy2_295, .inl g1_313))], [(a2_318, .inl (T.2 0, 7, .inl r2f))], w2_293, z1_, wg1_] _ _ := G.re rfl
        refine z_put C G clX3 5 rfl 1 (by decide) m_fl_RX11_292 rfl rfl rfl (Nat.le_of_ble_eq_true rfl) dX11_fit_82 (fun H locs G => ?_)
        have G : zS T A s.heap s [z0_, wg0_, wwA, wt, [(xo, .inr (10, [.ref t, .ref im, .ref mk, .ref rd, .ref po, .ref co, .ref tr, .ref wa, .ref wb_, .ref fi, .ref cd]))], [(fi, .inr (3, [.int e0f, .int i1, .int e2f, .int s3_310, .int s4_311, .int s5_312, .ref a1_317, .ref a2_318]))], [(a1_317, .inl (T.2 0, zFl m1f wy2_295, .inl g1_313))], [(a2_318, .inl (T.2 0, 7, .inl r2f))], w2_293, z1_, wg1_] _ _ := G
        refine lv_aload_n hx hb dX11_fit_85 rfl (lv_at hl 2 rfl) ?_
        refine z_get C G clX11 4 rfl 9 (by decide) m_fl_RX11_65 rfl dX11_fit_86 ?_
        refine lv_iload_n hx hb dX11_fit_89 rfl (lv_at hl 4 rfl) ?_
        refine z_put C G clX3 5 rfl 2 (by decide) m_fl_RX11_295 rfl rfl rfl (Nat.le_of_ble_eq_true rfl) dX11_fit_90 (fun H locs G => ?_)
        have G : zS T A s.heap s [z0_, wg0_, wwA, wt, [(xo, .inr (10, [.ref t, .ref im, .ref mk, .ref rd, .ref po, .ref co, .ref tr, .ref wa, .ref wb_, .ref fi, .ref cd]))], [(fi, .inr (3, [.int e0f, .int i1, .int i2, .int s3_310, .int s4_311, .int s5_312, .ref a1_317, .ref a2_318]))], [(a1_317, .inl (T.2 0, zFl m1f wy2_295, .inl g1_313))], [(a2_318, .inl (T.2 0, 7, .inl r2f))], w2_293, z1_, wg1_] _ _ := G
        refine lv_aload_n hx hb dX11_fit_93 rfl (lv_at hl 2 rfl) ?_
        refine z_get C G clX11 4 rfl 9 (by decide) m_fl_RX11_65 rfl dX11_fit_94 ?_
        refine lv_iconst (v := 1) hx hb dX11_fit_97 (by decide) ?_
        refine z_put C G clX3 5 rfl 0 (by decide) m_fl_RX11_109 rfl rfl rfl (Nat.le_of_ble_eq_true rfl) dX11_fit_98 (fun H locs G => ?_)
        have G : zS T A s.heap s [z0_, wg0_, wwA, wt, [(xo, .inr (10, [.ref t, .ref im, .ref mk, .ref rd, .ref po, .ref co, .ref tr, .ref wa, .ref wb_, .ref fi, .ref cd]))], [(fi, .inr (3, [.int 1, .int i1, .int i2, .int s3_310, .int s4_311, .int s5_312, .ref a1_317, .ref a2_318]))], [(a1_317, .inl (T.2 0, zFl m1f wy2_295, .inl g1_313))], [(a2_318, .inl (T.2 0, 7, .inl r2f))], w2_293, z1_, wg1_] _ _ := G
        refine lv_iconst (v := 1) hx hb dX11_fit_101 (by decide) ?_
        have hw_319 : bFit T fi 1 i1 i2 s3_310 s4_311 s5_312 g1_313 (zFl m1f wy2_295) r2f [(fi, .inr (3, [.int 1, .int i1, .int i2, .int s3_310, .int s4_311, .int s5_312, .ref a1_317, .ref a2_318])), (a1_317, .inl (T.2 0, zFl m1f wy2_295, .inl g1_313)), (a2_318, .inl (T.2 0, 7, .inl r2f))] := ⟨a1_317, a2_318, rfl⟩
        have G : zS T A s.heap s [z0_, wg0_, wwA, wt, [(xo, .inr (10, [.ref t, .ref im, .ref mk, .ref rd, .ref po, .ref co, .ref tr, .ref wa, .ref wb_, .ref fi, .ref cd]))], [(fi, .inr (3, [.int 1, .int i1, .int i2, .int s3_310, .int s4_311, .int s5_312, .ref a1_317, .ref a2_318])), (a1_317, .inl (T.2 0, zFl m1f wy2_295, .inl g1_313)), (a2_318, .inl (T.2 0, 7, .inl r2f))], w2_293, z1_, wg1_] _ _ := G.re rfl
        have G := G.sub (bs' := [[(xo, .inr (10, [.ref t, .ref im, .ref mk, .ref rd, .ref po, .ref co, .ref tr, .ref wa, .ref wb_, .ref fi, .ref cd]))], wt, z0_, z1_, wg0_, wg1_, wwA, w2_293, [(fi, .inr (3, [.int 1, .int i1, .int i2, .int s3_310, .int s4_311, .int s5_312, .ref a1_317, .ref a2_318])), (a1_317, .inl (T.2 0, zFl m1f wy2_295, .inl g1_313)), (a2_318, .inl (T.2 0, 7, .inl r2f))]]) [4, 3, 0, 7, 1, 8, 2, 6, 5] rfl
        exact z_zret C hr hlocks G (by omega) (by omega) dX11_fit_102 rfl ⟨laA, mdA, wyA, pc_A, f1A, f2A, f3A, f4A, f5A, f6A, n4A, wwA, l1, m2_294, wy2_295, pc2_296, g1_297, g2_298, f3B, g4_299, g5_300, g6_301, (zMk mdB n4B (zPl cr1_ inn1_ k11_)), w2_293, 1, i1, i2, s3_310, s4_311, s5_312, g1_313, (zFl m1f wy2_295), r2f, ([(fi, .inr (3, [.int 1, .int i1, .int i2, .int s3_310, .int s4_311, .int s5_312, .ref a1_317, .ref a2_318])), (a1_317, .inl (T.2 0, zFl m1f wy2_295, .inl g1_313)), (a2_318, .inl (T.2 0, 7, .inl r2f))]), rfl, hwwA, hmdA, hwmA, (zNA_n (by omega)).symm, hpwA, (fun q => q), h_303, (Or.inr rfl), hwy9, hNAm.symm, (zMk_pw hpwB), (fun _ => h_306), hw_319, hNF.symm, hfw9, h39, (Or.inr ⟨rfl, by omega, by decide, rfl⟩), (fun _ => Or.inr ⟨by omega, h_306⟩)⟩
      · have c_292n : ¬ e0f.toInt = (0 : Int) := fun q => c_292 ((fa_eq _ _).mpr q)
        refine lv_aload_n hx hb dX11_fit_40 rfl (lv_at hl 2 rfl) ?_
        refine z_get C G clX11 0 rfl 9 (by decide) m_fl_RX11_65 rfl dX11_fit_41 ?_
        refine z_get C G clX3 7 rfl 1 (by decide) m_fl_RX11_292 rfl dX11_fit_44 ?_
        refine lv_iload_n hx hb dX11_fit_47 rfl (lv_at hl 3 rfl) ?_
        refine lv_icmp_ne (tgt := 62) hx hb dX11_fit_48 (by decide) (fun c_320 => ?_) (fun c_320 => ?_)
        · have c_320n : ¬ e1f.toInt = i1.toInt := fun q => c_320 ((fa_eq _ _).mpr q)
          refine lv_aload_n hx hb dX11_fit_62 rfl (lv_at hl 2 rfl) ?_
          refine z_get C G clX11 0 rfl 9 (by decide) m_fl_RX11_65 rfl dX11_fit_63 ?_
          refine lv_aload_n hx hb dX11_fit_66 rfl (lv_at hl 2 rfl) ?_
          refine lv_iload_n hx hb dX11_fit_67 rfl (lv_at hl 3 rfl) ?_
          refine lv_aload_n hx hb dX11_fit_68 rfl (lv_at hl 1 rfl) ?_
          have hcF : (i1.toInt = 1 ∧ 1 < (fk 0).toInt ∧ (0 ≤ i2.toInt ∧ i2.toInt < (fk 2).toInt ∧ i2.toInt < 2) ∧ (e0f.toInt = 0 ∨ ¬ e1f.toInt = i1.toInt ∨ ¬ e2f.toInt = i2.toInt)) := by omega
          have hcN : ¬ (i1.toInt = 0 ∧ 0 < (fk 0).toInt ∧ (0 ≤ i2.toInt ∧ i2.toInt < (fk 2).toInt ∧ i2.toInt < 2) ∧ (e0f.toInt = 0 ∨ ¬ e1f.toInt = i1.toInt ∨ ¬ e2f.toInt = i2.toInt)) := by omega
          have hNAm : zNA (i1.toInt = 1 ∧ 1 < (fk 0).toInt ∧ (0 ≤ i2.toInt ∧ i2.toInt < (fk 2).toInt ∧ i2.toInt < 2) ∧ (e0f.toInt = 0 ∨ ¬ e1f.toInt = i1.toInt ∨ ¬ e2f.toInt = i2.toInt)) mdB n4B (zPl cr1_ inn1_ k11_) = zMk mdB n4B (zPl cr1_ inn1_ k11_) := zNA_y hcF
          have hNAo : zNA (i1.toInt = 0 ∧ 0 < (fk 0).toInt ∧ (0 ≤ i2.toInt ∧ i2.toInt < (fk 2).toInt ∧ i2.toInt < 2) ∧ (e0f.toInt = 0 ∨ ¬ e1f.toInt = i1.toInt ∨ ¬ e2f.toInt = i2.toInt)) mdA n4A (zPl cr0_ inn0_ k10_) = n4A := zNA_n hcN
          have hn9 : zMk mdB n4B (zPl cr1_ inn1_ k11_) ≤ 131072 := zPw_le (zMk_pw hpwB)
          refine z_Vq (bc := [[(xo, .inr (10, [.ref t, .ref im, .ref mk, .ref rd, .ref po, .ref co, .ref tr, .ref wa, .ref wb_, .ref fi, .ref cd]))], wwB, z1_]) (br := [z0_, wg0_, wg1_, wwA, [(fi, .inr (3, [.int e0f, .int e1f, .int e2f, .int e3f, .int e4f, .int e5f, .ref a1_290, .ref a2_291]))], [(a1_290, .inl (T.2 0, m1f, .inl r1f))], [(a2_291, .inl (T.2 0, 7, .inl r2f))], wt]) (As := [.int i1, .ref l1]) (rest := [.ref fi]) C G (c_waysInB l T xo t im mk rd po co tr wa wb_ fi cd i1 laB mdB wyB pc_B f1B f2B f3B f4B f5B f6B n4B wwB l1 cr1_ inn1_ k11_ k21_ k31_ k41_ z1_ hwwB hz1_ hI1_ hpwB hmdB hwmB (by omega)) (kV_RX11_235 C.2.2.2.2 (Nat.le_of_ble_eq_true rfl) (Nat.le_of_ble_eq_true rfl)) [0, 6, 2] [1, 3, 4, 5, 7, 8, 9, 10] rfl rfl (ci := 10) (qc := (RX11, TX11, 11)) rfl rfl (List.mem_flatten.mpr ⟨_, List.mem_of_getElem? (i := 0) rfl, List.mem_cons_self⟩) rfl rfl hl.1 dX11_fit_69 (by show _ + 3 ≤ 4; omega) (by show _ + (6 * (zMk mdB n4B (zPl cr1_ inn1_ k11_) - n4B)) ≤ 6 * (zNA (i1.toInt = 0 ∧ 0 < (fk 0).toInt ∧ (0 ≤ i2.toInt ∧ i2.toInt < (fk 2).toInt ∧ i2.toInt < 2) ∧ (e0f.toInt = 0 ∨ ¬ e1f.toInt = i1.toInt ∨ ¬ e2f.toInt = i2.toInt)) mdA n4A (zPl cr0_ inn0_ k10_) - n4A) + 6 * (zNA (i1.toInt = 1 ∧ 1 < (fk 0).toInt ∧ (0 ≤ i2.toInt ∧ i2.toInt < (fk 2).toInt ∧ i2.toInt < 2) ∧ (e0f.toInt = 0 ∨ ¬ e1f.toInt = i1.toInt ∨ ¬ e2f.toInt = i2.toInt)) mdB n4B (zPl cr1_ inn1_ k11_) - n4B) + 2 * (zNF (i1.toInt = 1 ∧ 1 < (fk 0).toInt ∧ (0 ≤ i2.toInt ∧ i2.toInt < (fk 2).toInt ∧ i2.toInt < 2) ∧ (e0f.toInt = 0 ∨ ¬ e1f.toInt = i1.toInt ∨ ¬ e2f.toInt = i2.toInt)) (zNF (i1.toInt = 0 ∧ 0 < (fk 0).toInt ∧ (0 ≤ i2.toInt ∧ i2.toInt < (fk 2).toInt ∧ i2.toInt < 2) ∧ (e0f.toInt = 0 ∨ ¬ e1f.toInt = i1.toInt ∨ ¬ e2f.toInt = i2.toInt)) m1f (zMw mdA wyA cr0_ inn0_ k10_)) (zMw mdB wyB cr1_ inn1_ k11_) - m1f); omega) (fun r_335 b1 H locs hw G => ?_)
          refine zEx9 hw ?_
          intro w2_321 m2_322 wy2_323 pc2_324 g1_325 g2_326 g4_327 g5_328 g6_329
          refine zCu6 ?_
          intro hbs9 h_330 h_331 h_332 h_333 h_334
          clear hw
          subst hbs9
          have G : zS T A s.heap s [z0_, wg0_, wg1_, wwA, [(fi, .inr (3, [.int e0f, .int e1f, .int e2f, .int e3f, .int e4f, .int e5f, .ref a1_290, .ref a2_291]))], [(a1_290, .inl (T.2 0, m1f, .inl r1f))], [(a2_291, .inl (T.2 0, 7, .inl r2f))], wt, [(xo, .inr (10, [.ref t, .ref im, .ref mk, .ref rd, .ref po, .ref co, .ref tr, .ref wa, .ref wb_, .ref fi, .ref cd]))], w2_321, z1_] _ _ := G
          subst h_330
          have hwy9 := h_332
          have hNF : zNF (i1.toInt = 1 ∧ 1 < (fk 0).toInt ∧ (0 ≤ i2.toInt ∧ i2.toInt < (fk 2).toInt ∧ i2.toInt < 2) ∧ (e0f.toInt = 0 ∨ ¬ e1f.toInt = i1.toInt ∨ ¬ e2f.toInt = i2.toInt)) (zNF (i1.toInt = 0 ∧ 0 < (fk 0).toInt ∧ (0 ≤ i2.toInt ∧ i2.toInt < (fk 2).toInt ∧ i2.toInt < 2) ∧ (e0f.toInt = 0 ∨ ¬ e1f.toInt = i1.toInt ∨ ¬ e2f.toInt = i2.toInt)) m1f (zMw mdA wyA cr0_ inn0_ k10_)) (zMw mdB wyB cr1_ inn1_ k11_) = zFl m1f wy2_323 := by rw [zNF_y (c := (i1.toInt = 1 ∧ 1 < (fk 0).toInt ∧ (0 ≤ i2.toInt ∧ i2.toInt < (fk 2).toInt ∧ i2.toInt < 2) ∧ (e0f.toInt = 0 ∨ ¬ e1f.toInt = i1.toInt ∨ ¬ e2f.toInt = i2.toInt))) hcF, zNF_n (c := (i1.toInt = 0 ∧ 0 < (fk 0).toInt ∧ (0 ≤ i2.toInt ∧ i2.toInt < (fk 2).toInt ∧ i2.toInt < 2) ∧ (e0f.toInt = 0 ∨ ¬ e1f.toInt = i1.toInt ∨ ¬ e2f.toInt = i2.toInt))) hcN, h_333]
          have hfw9 := zFl_pw (wy := wy2_323) hfw
          refine lv_aload hx hb dX11_fit_72 (lv_at hl 0 rfl) ?_
          have hw_336 : bFit T fi e0f e1f e2f e3f e4f e5f r1f m1f r2f [(fi, .inr (3, [.int e0f, .int e1f, .int e2f, .int e3f, .int e4f, .int e5f, .ref a1_290, .ref a2_291])), (a1_290, .inl (T.2 0, m1f, .inl r1f)), (a2_291, .inl (T.2 0, 7, .inl r2f))] := ⟨a1_290, a2_291, rfl⟩
          have G : zS T A s.heap s [z0_, wg0_, wg1_, wwA, [(fi, .inr (3, [.int e0f, .int e1f, .int e2f, .int e3f, .int e4f, .int e5f, .ref a1_290, .ref a2_291])), (a1_290, .inl (T.2 0, m1f, .inl r1f)), (a2_291, .inl (T.2 0, 7, .inl r2f))], wt, [(xo, .inr (10, [.ref t, .ref im, .ref mk, .ref rd, .ref po, .ref co, .ref tr, .ref wa, .ref wb_, .ref fi, .ref cd]))], w2_321, z1_] _ _ := G.re rfl
          refine z_Vv (bc := [[(fi, .inr (3, [.int e0f, .int e1f, .int e2f, .int e3f, .int e4f, .int e5f, .ref a1_290, .ref a2_291])), (a1_290, .inl (T.2 0, m1f, .inl r1f)), (a2_291, .inl (T.2 0, 7, .inl r2f))], w2_321, z1_, wg1_]) (br := [z0_, wg0_, wwA, wt, [(xo, .inr (10, [.ref t, .ref im, .ref mk, .ref rd, .ref po, .ref co, .ref tr, .ref wa, .ref wb_, .ref fi, .ref cd]))]]) (As := [.ref wb_, .ref g1]) (rest := []) C G (c_find l T fi e0f e1f e2f e3f e4f e5f r1f m1f r2f ([(fi, .inr (3, [.int e0f, .int e1f, .int e2f, .int e3f, .int e4f, .int e5f, .ref a1_290, .ref a2_291])), (a1_290, .inl (T.2 0, m1f, .inl r1f)), (a2_291, .inl (T.2 0, 7, .inl r2f))]) wb_ l1 m2_322 wy2_323 pc2_324 g1_325 g2_326 f3B g4_327 g5_328 g6_329 (zMk mdB n4B (zPl cr1_ inn1_ k11_)) w2_321 cr1_ inn1_ k11_ k21_ k31_ k41_ z1_ g1 gg1_ q11_ q21_ wg1_ hw_336 h_331 hz1_ hg1_ hn9 hfw hwy9) (kV_RX11_298 C.2.2.2.2 (Nat.le_of_ble_eq_true rfl) (Nat.le_of_ble_eq_true rfl)) [4, 7, 8, 2] [0, 1, 3, 5, 6] rfl rfl (ci := 3) (qc := (RX3, TX3, 8)) rfl rfl (List.mem_flatten.mpr ⟨_, List.mem_of_getElem? (i := 0) rfl, (bFit_mem hw_336).choose_spec⟩) rfl rfl hl.1 dX11_fit_74 (by show _ + 1 ≤ 4; omega) (by show _ + (2 * (zFl m1f wy2_323 - m1f)) ≤ 6 * (zNA (i1.toInt = 0 ∧ 0 < (fk 0).toInt ∧ (0 ≤ i2.toInt ∧ i2.toInt < (fk 2).toInt ∧ i2.toInt < 2) ∧ (e0f.toInt = 0 ∨ ¬ e1f.toInt = i1.toInt ∨ ¬ e2f.toInt = i2.toInt)) mdA n4A (zPl cr0_ inn0_ k10_) - n4A) + 6 * (zNA (i1.toInt = 1 ∧ 1 < (fk 0).toInt ∧ (0 ≤ i2.toInt ∧ i2.toInt < (fk 2).toInt ∧ i2.toInt < 2) ∧ (e0f.toInt = 0 ∨ ¬ e1f.toInt = i1.toInt ∨ ¬ e2f.toInt = i2.toInt)) mdB n4B (zPl cr1_ inn1_ k11_) - n4B) + 2 * (zNF (i1.toInt = 1 ∧ 1 < (fk 0).toInt ∧ (0 ≤ i2.toInt ∧ i2.toInt < (fk 2).toInt ∧ i2.toInt < 2) ∧ (e0f.toInt = 0 ∨ ¬ e1f.toInt = i1.toInt ∨ ¬ e2f.toInt = i2.toInt)) (zNF (i1.toInt = 0 ∧ 0 < (fk 0).toInt ∧ (0 ≤ i2.toInt ∧ i2.toInt < (fk 2).toInt ∧ i2.toInt < 2) ∧ (e0f.toInt = 0 ∨ ¬ e1f.toInt = i1.toInt ∨ ¬ e2f.toInt = i2.toInt)) m1f (zMw mdA wyA cr0_ inn0_ k10_)) (zMw mdB wyB cr1_ inn1_ k11_) - m1f); omega) (fun b1 H locs hw G => ?_)
          refine zEx5 hw ?_
          intro w2_337 s3_338 s4_339 s5_340 g1_341
          refine zCu3 ?_
          intro hbs9 h_342 h_343
          clear hw
          subst hbs9
          have G : zS T A s.heap s [z0_, wg0_, wwA, wt, [(xo, .inr (10, [.ref t, .ref im, .ref mk, .ref rd, .ref po, .ref co, .ref tr, .ref wa, .ref wb_, .ref fi, .ref cd]))], w2_337, w2_321, z1_, wg1_] _ _ := G
          have h39 := h_343
          refine lv_aload_n hx hb dX11_fit_77 rfl (lv_at hl 2 rfl) ?_
          refine z_get C G clX11 4 rfl 9 (by decide) m_fl_RX11_65 rfl dX11_fit_78 ?_
          refine lv_iload_n hx hb dX11_fit_81 rfl (lv_at hl 3 rfl) ?_
          refine zEx2 h_342 ?_
          intro a1_345 a2_346 hbs9
          clear h_342
          subst hbs9
          have G : zS T A s.heap s [z0_, wg0_, wwA, wt, [(xo, .inr (10, [.ref t, .ref im, .ref mk, .ref rd, .ref po, .ref co, .ref tr, .ref wa, .ref wb_, .ref fi, .ref cd]))], [(fi, .inr (3, [.int e0f, .int e1f, .int e2f, .int s3_338, .int s4_339, .int s5_340, .ref a1_345, .ref a2_346]))], [(a1_345, .inl (T.2 0, zFl m1f wy2_323, .inl g1_341))], [(a2_346, .inl (T.2 0, 7, .inl r2f))], w2_321, z1_, wg1_] _ _ := G.re rfl
          refine z_put C G clX3 5 rfl 1 (by decide) m_fl_RX11_292 rfl rfl rfl (Nat.le_of_ble_eq_true rfl) dX11_fit_82 (fun H locs G => ?_)
          have G : zS T A s.heap s [z0_, wg0_, wwA, wt, [(xo, .inr (10, [.ref t, .ref im, .ref mk, .ref rd, .ref po, .ref co, .ref tr, .ref wa, .ref wb_, .ref fi, .ref cd]))], [(fi, .inr (3, [.int e0f, .int i1, .int e2f, .int s3_338, .int s4_339, .int s5_340, .ref a1_345, .ref a2_346]))], [(a1_345, .inl (T.2 0, zFl m1f wy2_323, .inl g1_341))], [(a2_346, .inl (T.2 0, 7, .inl r2f))], w2_321, z1_, wg1_] _ _ := G
          refine lv_aload_n hx hb dX11_fit_85 rfl (lv_at hl 2 rfl) ?_
          refine z_get C G clX11 4 rfl 9 (by decide) m_fl_RX11_65 rfl dX11_fit_86 ?_
          refine lv_iload_n hx hb dX11_fit_89 rfl (lv_at hl 4 rfl) ?_
          refine z_put C G clX3 5 rfl 2 (by decide) m_fl_RX11_295 rfl rfl rfl (Nat.le_of_ble_eq_true rfl) dX11_fit_90 (fun H locs G => ?_)
          have G : zS T A s.heap s [z0_, wg0_, wwA, wt, [(xo, .inr (10, [.ref t, .ref im, .ref mk, .ref rd, .ref po, .ref co, .ref tr, .ref wa, .ref wb_, .ref fi, .ref cd]))], [(fi, .inr (3, [.int e0f, .int i1, .int i2, .int s3_338, .int s4_339, .int s5_340, .ref a1_345, .ref a2_346]))], [(a1_345, .inl (T.2 0, zFl m1f wy2_323, .inl g1_341))], [(a2_346, .inl (T.2 0, 7, .inl r2f))], w2_321, z1_, wg1_] _ _ := G
          refine lv_aload_n hx hb dX11_fit_93 rfl (lv_at hl 2 rfl) ?_
          refine z_get C G clX11 4 rfl 9 (by decide) m_fl_RX11_65 rfl dX11_fit_94 ?_
          refine lv_iconst (v := 1) hx hb dX11_fit_97 (by decide) ?_
          refine z_put C G clX3 5 rfl 0 (by decide) m_fl_RX11_109 rfl rfl rfl (Nat.le_of_ble_eq_true rfl) dX11_fit_98 (fun H locs G => ?_)
          have G : zS T A s.heap s [z0_, wg0_, wwA, wt, [(xo, .inr (10, [.ref t, .ref im, .ref mk, .ref rd, .ref po, .ref co, .ref tr, .ref wa, .ref wb_, .ref fi, .ref cd]))], [(fi, .inr (3, [.int 1, .int i1, .int i2, .int s3_338, .int s4_339, .int s5_340, .ref a1_345, .ref a2_346]))], [(a1_345, .inl (T.2 0, zFl m1f wy2_323, .inl g1_341))], [(a2_346, .inl (T.2 0, 7, .inl r2f))], w2_321, z1_, wg1_] _ _ := G
          refine lv_iconst (v := 1) hx hb dX11_fit_101 (by decide) ?_
          have hw_347 : bFit T fi 1 i1 i2 s3_338 s4_339 s5_340 g1_341 (zFl m1f wy2_323) r2f [(fi, .inr (3, [.int 1, .int i1, .int i2, .int s3_338, .int s4_339, .int s5_340, .ref a1_345, .ref a2_346])), (a1_345, .inl (T.2 0, zFl m1f wy2_323, .inl g1_341)), (a2_346, .inl (T.2 0, 7, .inl r2f))] := ⟨a1_345, a2_346, rfl⟩
          have G : zS T A s.heap s [z0_, wg0_, wwA, wt, [(xo, .inr (10, [.ref t, .ref im, .ref mk, .ref rd, .ref po, .ref co, .ref tr, .ref wa, .ref wb_, .ref fi, .ref cd]))], [(fi, .inr (3, [.int 1, .int i1, .int i2, .int s3_338, .int s4_339, .int s5_340, .ref a1_345, .ref a2_346])), (a1_345, .inl (T.2 0, zFl m1f wy2_323, .inl g1_341)), (a2_346, .inl (T.2 0, 7, .inl r2f))], w2_321, z1_, wg1_] _ _ := G.re rfl
          have G := G.sub (bs' := [[(xo, .inr (10, [.ref t, .ref im, .ref mk, .ref rd, .ref po, .ref co, .ref tr, .ref wa, .ref wb_, .ref fi, .ref cd]))], wt, z0_, z1_, wg0_, wg1_, wwA, w2_321, [(fi, .inr (3, [.int 1, .int i1, .int i2, .int s3_338, .int s4_339, .int s5_340, .ref a1_345, .ref a2_346])), (a1_345, .inl (T.2 0, zFl m1f wy2_323, .inl g1_341)), (a2_346, .inl (T.2 0, 7, .inl r2f))]]) [4, 3, 0, 7, 1, 8, 2, 6, 5] rfl
          exact z_zret C hr hlocks G (by omega) (by omega) dX11_fit_102 rfl ⟨laA, mdA, wyA, pc_A, f1A, f2A, f3A, f4A, f5A, f6A, n4A, wwA, l1, m2_322, wy2_323, pc2_324, g1_325, g2_326, f3B, g4_327, g5_328, g6_329, (zMk mdB n4B (zPl cr1_ inn1_ k11_)), w2_321, 1, i1, i2, s3_338, s4_339, s5_340, g1_341, (zFl m1f wy2_323), r2f, ([(fi, .inr (3, [.int 1, .int i1, .int i2, .int s3_338, .int s4_339, .int s5_340, .ref a1_345, .ref a2_346])), (a1_345, .inl (T.2 0, zFl m1f wy2_323, .inl g1_341)), (a2_346, .inl (T.2 0, 7, .inl r2f))]), rfl, hwwA, hmdA, hwmA, (zNA_n (by omega)).symm, hpwA, (fun q => q), h_331, (Or.inr rfl), hwy9, hNAm.symm, (zMk_pw hpwB), (fun _ => h_334), hw_347, hNF.symm, hfw9, h39, (Or.inr ⟨rfl, by omega, by decide, rfl⟩), (fun _ => Or.inr ⟨by omega, h_334⟩)⟩
        · have c_320n : e1f.toInt = i1.toInt := (fa_eq _ _).mp c_320
          refine lv_aload_n hx hb dX11_fit_51 rfl (lv_at hl 2 rfl) ?_
          refine z_get C G clX11 0 rfl 9 (by decide) m_fl_RX11_65 rfl dX11_fit_52 ?_
          refine z_get C G clX3 7 rfl 2 (by decide) m_fl_RX11_295 rfl dX11_fit_55 ?_
          refine lv_iload_n hx hb dX11_fit_58 rfl (lv_at hl 4 rfl) ?_
          refine lv_icmp_eq (tgt := 101) hx hb dX11_fit_59 (by decide) (fun c_348 => ?_) (fun c_348 => ?_)
          · have c_348n : e2f.toInt = i2.toInt := (fa_eq _ _).mp c_348
            refine lv_iconst (v := 1) hx hb dX11_fit_101 (by decide) ?_
            have hw_349 : bFit T fi e0f e1f e2f e3f e4f e5f r1f m1f r2f [(fi, .inr (3, [.int e0f, .int e1f, .int e2f, .int e3f, .int e4f, .int e5f, .ref a1_290, .ref a2_291])), (a1_290, .inl (T.2 0, m1f, .inl r1f)), (a2_291, .inl (T.2 0, 7, .inl r2f))] := ⟨a1_290, a2_291, rfl⟩
            have G : zS T A s.heap s [[(xo, .inr (10, [.ref t, .ref im, .ref mk, .ref rd, .ref po, .ref co, .ref tr, .ref wa, .ref wb_, .ref fi, .ref cd]))], z0_, z1_, wg0_, wg1_, wwA, wwB, [(fi, .inr (3, [.int e0f, .int e1f, .int e2f, .int e3f, .int e4f, .int e5f, .ref a1_290, .ref a2_291])), (a1_290, .inl (T.2 0, m1f, .inl r1f)), (a2_291, .inl (T.2 0, 7, .inl r2f))], wt] _ _ := G.re rfl
            have G := G.sub (bs' := [[(xo, .inr (10, [.ref t, .ref im, .ref mk, .ref rd, .ref po, .ref co, .ref tr, .ref wa, .ref wb_, .ref fi, .ref cd]))], wt, z0_, z1_, wg0_, wg1_, wwA, wwB, [(fi, .inr (3, [.int e0f, .int e1f, .int e2f, .int e3f, .int e4f, .int e5f, .ref a1_290, .ref a2_291])), (a1_290, .inl (T.2 0, m1f, .inl r1f)), (a2_291, .inl (T.2 0, 7, .inl r2f))]]) [0, 8, 1, 2, 3, 4, 5, 6, 7] rfl
            exact z_zret C hr hlocks G (by omega) (by omega) dX11_fit_102 rfl ⟨laA, mdA, wyA, pc_A, f1A, f2A, f3A, f4A, f5A, f6A, n4A, wwA, laB, mdB, wyB, pc_B, f1B, f2B, f3B, f4B, f5B, f6B, n4B, wwB, e0f, e1f, e2f, e3f, e4f, e5f, r1f, m1f, r2f, ([(fi, .inr (3, [.int e0f, .int e1f, .int e2f, .int e3f, .int e4f, .int e5f, .ref a1_290, .ref a2_291])), (a1_290, .inl (T.2 0, m1f, .inl r1f)), (a2_291, .inl (T.2 0, 7, .inl r2f))]), rfl, hwwA, hmdA, hwmA, (zNA_n (by omega)).symm, hpwA, (fun q => q), hwwB, hmdB, hwmB, (zNA_n (by omega)).symm, hpwB, (fun q => q), hw_349, (((zNF_n (c := (i1.toInt = 1 ∧ 1 < (fk 0).toInt ∧ (0 ≤ i2.toInt ∧ i2.toInt < (fk 2).toInt ∧ i2.toInt < 2) ∧ (e0f.toInt = 0 ∨ ¬ e1f.toInt = i1.toInt ∨ ¬ e2f.toInt = i2.toInt))) (by omega)).trans (zNF_n (by omega))).symm), hfw, hf3, (Or.inr ⟨rfl, by omega, (fun q => absurd (congrArg Int32.toInt q) (by show ¬ _ = (0 : Int); omega)), by omega⟩), hFI⟩
          · have c_348n : ¬ e2f.toInt = i2.toInt := fun q => c_348 ((fa_eq _ _).mpr q)
            refine lv_aload_n hx hb dX11_fit_62 rfl (lv_at hl 2 rfl) ?_
            refine z_get C G clX11 0 rfl 9 (by decide) m_fl_RX11_65 rfl dX11_fit_63 ?_
            refine lv_aload_n hx hb dX11_fit_66 rfl (lv_at hl 2 rfl) ?_
            refine lv_iload_n hx hb dX11_fit_67 rfl (lv_at hl 3 rfl) ?_
            refine lv_aload_n hx hb dX11_fit_68 rfl (lv_at hl 1 rfl) ?_
            have hcF : (i1.toInt = 1 ∧ 1 < (fk 0).toInt ∧ (0 ≤ i2.toInt ∧ i2.toInt < (fk 2).toInt ∧ i2.toInt < 2) ∧ (e0f.toInt = 0 ∨ ¬ e1f.toInt = i1.toInt ∨ ¬ e2f.toInt = i2.toInt)) := by omega
            have hcN : ¬ (i1.toInt = 0 ∧ 0 < (fk 0).toInt ∧ (0 ≤ i2.toInt ∧ i2.toInt < (fk 2).toInt ∧ i2.toInt < 2) ∧ (e0f.toInt = 0 ∨ ¬ e1f.toInt = i1.toInt ∨ ¬ e2f.toInt = i2.toInt)) := by omega
            have hNAm : zNA (i1.toInt = 1 ∧ 1 < (fk 0).toInt ∧ (0 ≤ i2.toInt ∧ i2.toInt < (fk 2).toInt ∧ i2.toInt < 2) ∧ (e0f.toInt = 0 ∨ ¬ e1f.toInt = i1.toInt ∨ ¬ e2f.toInt = i2.toInt)) mdB n4B (zPl cr1_ inn1_ k11_) = zMk mdB n4B (zPl cr1_ inn1_ k11_) := zNA_y hcF
            have hNAo : zNA (i1.toInt = 0 ∧ 0 < (fk 0).toInt ∧ (0 ≤ i2.toInt ∧ i2.toInt < (fk 2).toInt ∧ i2.toInt < 2) ∧ (e0f.toInt = 0 ∨ ¬ e1f.toInt = i1.toInt ∨ ¬ e2f.toInt = i2.toInt)) mdA n4A (zPl cr0_ inn0_ k10_) = n4A := zNA_n hcN
            have hn9 : zMk mdB n4B (zPl cr1_ inn1_ k11_) ≤ 131072 := zPw_le (zMk_pw hpwB)
            refine z_Vq (bc := [[(xo, .inr (10, [.ref t, .ref im, .ref mk, .ref rd, .ref po, .ref co, .ref tr, .ref wa, .ref wb_, .ref fi, .ref cd]))], wwB, z1_]) (br := [z0_, wg0_, wg1_, wwA, [(fi, .inr (3, [.int e0f, .int e1f, .int e2f, .int e3f, .int e4f, .int e5f, .ref a1_290, .ref a2_291]))], [(a1_290, .inl (T.2 0, m1f, .inl r1f))], [(a2_291, .inl (T.2 0, 7, .inl r2f))], wt]) (As := [.int i1, .ref l1]) (rest := [.ref fi]) C G (c_waysInB l T xo t im mk rd po co tr wa wb_ fi cd i1 laB mdB wyB pc_B f1B f2B f3B f4B f5B f6B n4B wwB l1 cr1_ inn1_ k11_ k21_ k31_ k41_ z1_ hwwB hz1_ hI1_ hpwB hmdB hwmB (by omega)) (kV_RX11_235 C.2.2.2.2 (Nat.le_of_ble_eq_true rfl) (Nat.le_of_ble_eq_true rfl)) [0, 6, 2] [1, 3, 4, 5, 7, 8, 9, 10] rfl rfl (ci := 10) (qc := (RX11, TX11, 11)) rfl rfl (List.mem_flatten.mpr ⟨_, List.mem_of_getElem? (i := 0) rfl, List.mem_cons_self⟩) rfl rfl hl.1 dX11_fit_69 (by show _ + 3 ≤ 4; omega) (by show _ + (6 * (zMk mdB n4B (zPl cr1_ inn1_ k11_) - n4B)) ≤ 6 * (zNA (i1.toInt = 0 ∧ 0 < (fk 0).toInt ∧ (0 ≤ i2.toInt ∧ i2.toInt < (fk 2).toInt ∧ i2.toInt < 2) ∧ (e0f.toInt = 0 ∨ ¬ e1f.toInt = i1.toInt ∨ ¬ e2f.toInt = i2.toInt)) mdA n4A (zPl cr0_ inn0_ k10_) - n4A) + 6 * (zNA (i1.toInt = 1 ∧ 1 < (fk 0).toInt ∧ (0 ≤ i2.toInt ∧ i2.toInt < (fk 2).toInt ∧ i2.toInt < 2) ∧ (e0f.toInt = 0 ∨ ¬ e1f.toInt = i1.toInt ∨ ¬ e2f.toInt = i2.toInt)) mdB n4B (zPl cr1_ inn1_ k11_) - n4B) + 2 * (zNF (i1.toInt = 1 ∧ 1 < (fk 0).toInt ∧ (0 ≤ i2.toInt ∧ i2.toInt < (fk 2).toInt ∧ i2.toInt < 2) ∧ (e0f.toInt = 0 ∨ ¬ e1f.toInt = i1.toInt ∨ ¬ e2f.toInt = i2.toInt)) (zNF (i1.toInt = 0 ∧ 0 < (fk 0).toInt ∧ (0 ≤ i2.toInt ∧ i2.toInt < (fk 2).toInt ∧ i2.toInt < 2) ∧ (e0f.toInt = 0 ∨ ¬ e1f.toInt = i1.toInt ∨ ¬ e2f.toInt = i2.toInt)) m1f (zMw mdA wyA cr0_ inn0_ k10_)) (zMw mdB wyB cr1_ inn1_ k11_) - m1f); omega) (fun r_364 b1 H locs hw G => ?_)
            refine zEx9 hw ?_
            intro w2_350 m2_351 wy2_352 pc2_353 g1_354 g2_355 g4_356 g5_357 g6_358
            refine zCu6 ?_
            intro hbs9 h_359 h_360 h_361 h_362 h_363
            clear hw
            subst hbs9
            have G : zS T A s.heap s [z0_, wg0_, wg1_, wwA, [(fi, .inr (3, [.int e0f, .int e1f, .int e2f, .int e3f, .int e4f, .int e5f, .ref a1_290, .ref a2_291]))], [(a1_290, .inl (T.2 0, m1f, .inl r1f))], [(a2_291, .inl (T.2 0, 7, .inl r2f))], wt, [(xo, .inr (10, [.ref t, .ref im, .ref mk, .ref rd, .ref po, .ref co, .ref tr, .ref wa, .ref wb_, .ref fi, .ref cd]))], w2_350, z1_] _ _ := G
            subst h_359
            have hwy9 := h_361
            have hNF : zNF (i1.toInt = 1 ∧ 1 < (fk 0).toInt ∧ (0 ≤ i2.toInt ∧ i2.toInt < (fk 2).toInt ∧ i2.toInt < 2) ∧ (e0f.toInt = 0 ∨ ¬ e1f.toInt = i1.toInt ∨ ¬ e2f.toInt = i2.toInt)) (zNF (i1.toInt = 0 ∧ 0 < (fk 0).toInt ∧ (0 ≤ i2.toInt ∧ i2.toInt < (fk 2).toInt ∧ i2.toInt < 2) ∧ (e0f.toInt = 0 ∨ ¬ e1f.toInt = i1.toInt ∨ ¬ e2f.toInt = i2.toInt)) m1f (zMw mdA wyA cr0_ inn0_ k10_)) (zMw mdB wyB cr1_ inn1_ k11_) = zFl m1f wy2_352 := by rw [zNF_y (c := (i1.toInt = 1 ∧ 1 < (fk 0).toInt ∧ (0 ≤ i2.toInt ∧ i2.toInt < (fk 2).toInt ∧ i2.toInt < 2) ∧ (e0f.toInt = 0 ∨ ¬ e1f.toInt = i1.toInt ∨ ¬ e2f.toInt = i2.toInt))) hcF, zNF_n (c := (i1.toInt = 0 ∧ 0 < (fk 0).toInt ∧ (0 ≤ i2.toInt ∧ i2.toInt < (fk 2).toInt ∧ i2.toInt < 2) ∧ (e0f.toInt = 0 ∨ ¬ e1f.toInt = i1.toInt ∨ ¬ e2f.toInt = i2.toInt))) hcN, h_362]
            have hfw9 := zFl_pw (wy := wy2_352) hfw
            refine lv_aload hx hb dX11_fit_72 (lv_at hl 0 rfl) ?_
            have hw_365 : bFit T fi e0f e1f e2f e3f e4f e5f r1f m1f r2f [(fi, .inr (3, [.int e0f, .int e1f, .int e2f, .int e3f, .int e4f, .int e5f, .ref a1_290, .ref a2_291])), (a1_290, .inl (T.2 0, m1f, .inl r1f)), (a2_291, .inl (T.2 0, 7, .inl r2f))] := ⟨a1_290, a2_291, rfl⟩
            have G : zS T A s.heap s [z0_, wg0_, wg1_, wwA, [(fi, .inr (3, [.int e0f, .int e1f, .int e2f, .int e3f, .int e4f, .int e5f, .ref a1_290, .ref a2_291])), (a1_290, .inl (T.2 0, m1f, .inl r1f)), (a2_291, .inl (T.2 0, 7, .inl r2f))], wt, [(xo, .inr (10, [.ref t, .ref im, .ref mk, .ref rd, .ref po, .ref co, .ref tr, .ref wa, .ref wb_, .ref fi, .ref cd]))], w2_350, z1_] _ _ := G.re rfl
            refine z_Vv (bc := [[(fi, .inr (3, [.int e0f, .int e1f, .int e2f, .int e3f, .int e4f, .int e5f, .ref a1_290, .ref a2_291])), (a1_290, .inl (T.2 0, m1f, .inl r1f)), (a2_291, .inl (T.2 0, 7, .inl r2f))], w2_350, z1_, wg1_]) (br := [z0_, wg0_, wwA, wt, [(xo, .inr (10, [.ref t, .ref im, .ref mk, .ref rd, .ref po, .ref co, .ref tr, .ref wa, .ref wb_, .ref fi, .ref cd]))]]) (As := [.ref wb_, .ref g1]) (rest := []) C G (c_find l T fi e0f e1f e2f e3f e4f e5f r1f m1f r2f ([(fi, .inr (3, [.int e0f, .int e1f, .int e2f, .int e3f, .int e4f, .int e5f, .ref a1_290, .ref a2_291])), (a1_290, .inl (T.2 0, m1f, .inl r1f)), (a2_291, .inl (T.2 0, 7, .inl r2f))]) wb_ l1 m2_351 wy2_352 pc2_353 g1_354 g2_355 f3B g4_356 g5_357 g6_358 (zMk mdB n4B (zPl cr1_ inn1_ k11_)) w2_350 cr1_ inn1_ k11_ k21_ k31_ k41_ z1_ g1 gg1_ q11_ q21_ wg1_ hw_365 h_360 hz1_ hg1_ hn9 hfw hwy9) (kV_RX11_298 C.2.2.2.2 (Nat.le_of_ble_eq_true rfl) (Nat.le_of_ble_eq_true rfl)) [4, 7, 8, 2] [0, 1, 3, 5, 6] rfl rfl (ci := 3) (qc := (RX3, TX3, 8)) rfl rfl (List.mem_flatten.mpr ⟨_, List.mem_of_getElem? (i := 0) rfl, (bFit_mem hw_365).choose_spec⟩) rfl rfl hl.1 dX11_fit_74 (by show _ + 1 ≤ 4; omega) (by show _ + (2 * (zFl m1f wy2_352 - m1f)) ≤ 6 * (zNA (i1.toInt = 0 ∧ 0 < (fk 0).toInt ∧ (0 ≤ i2.toInt ∧ i2.toInt < (fk 2).toInt ∧ i2.toInt < 2) ∧ (e0f.toInt = 0 ∨ ¬ e1f.toInt = i1.toInt ∨ ¬ e2f.toInt = i2.toInt)) mdA n4A (zPl cr0_ inn0_ k10_) - n4A) + 6 * (zNA (i1.toInt = 1 ∧ 1 < (fk 0).toInt ∧ (0 ≤ i2.toInt ∧ i2.toInt < (fk 2).toInt ∧ i2.toInt < 2) ∧ (e0f.toInt = 0 ∨ ¬ e1f.toInt = i1.toInt ∨ ¬ e2f.toInt = i2.toInt)) mdB n4B (zPl cr1_ inn1_ k11_) - n4B) + 2 * (zNF (i1.toInt = 1 ∧ 1 < (fk 0).toInt ∧ (0 ≤ i2.toInt ∧ i2.toInt < (fk 2).toInt ∧ i2.toInt < 2) ∧ (e0f.toInt = 0 ∨ ¬ e1f.toInt = i1.toInt ∨ ¬ e2f.toInt = i2.toInt)) (zNF (i1.toInt = 0 ∧ 0 < (fk 0).toInt ∧ (0 ≤ i2.toInt ∧ i2.toInt < (fk 2).toInt ∧ i2.toInt < 2) ∧ (e0f.toInt = 0 ∨ ¬ e1f.toInt = i1.toInt ∨ ¬ e2f.toInt = i2.toInt)) m1f (zMw mdA wyA cr0_ inn0_ k10_)) (zMw mdB wyB cr1_ inn1_ k11_) - m1f); omega) (fun b1 H locs hw G => ?_)
            refine zEx5 hw ?_
            intro w2_366 s3_367 s4_368 s5_369 g1_370
            refine zCu3 ?_
            intro hbs9 h_371 h_372
            clear hw
            subst hbs9
            have G : zS T A s.heap s [z0_, wg0_, wwA, wt, [(xo, .inr (10, [.ref t, .ref im, .ref mk, .ref rd, .ref po, .ref co, .ref tr, .ref wa, .ref wb_, .ref fi, .ref cd]))], w2_366, w2_350, z1_, wg1_] _ _ := G
            have h39 := h_372
            refine lv_aload_n hx hb dX11_fit_77 rfl (lv_at hl 2 rfl) ?_
            refine z_get C G clX11 4 rfl 9 (by decide) m_fl_RX11_65 rfl dX11_fit_78 ?_
            refine lv_iload_n hx hb dX11_fit_81 rfl (lv_at hl 3 rfl) ?_
            refine zEx2 h_371 ?_
            intro a1_374 a2_375 hbs9
            clear h_371
            subst hbs9
            have G : zS T A s.heap s [z0_, wg0_, wwA, wt, [(xo, .inr (10, [.ref t, .ref im, .ref mk, .ref rd, .ref po, .ref co, .ref tr, .ref wa, .ref wb_, .ref fi, .ref cd]))], [(fi, .inr (3, [.int e0f, .int e1f, .int e2f, .int s3_367, .int s4_368, .int s5_369, .ref a1_374, .ref a2_375]))], [(a1_374, .inl (T.2 0, zFl m1f wy2_352, .inl g1_370))], [(a2_375, .inl (T.2 0, 7, .inl r2f))], w2_350, z1_, wg1_] _ _ := G.re rfl
            refine z_put C G clX3 5 rfl 1 (by decide) m_fl_RX11_292 rfl rfl rfl (Nat.le_of_ble_eq_true rfl) dX11_fit_82 (fun H locs G => ?_)
            have G : zS T A s.heap s [z0_, wg0_, wwA, wt, [(xo, .inr (10, [.ref t, .ref im, .ref mk, .ref rd, .ref po, .ref co, .ref tr, .ref wa, .ref wb_, .ref fi, .ref cd]))], [(fi, .inr (3, [.int e0f, .int i1, .int e2f, .int s3_367, .int s4_368, .int s5_369, .ref a1_374, .ref a2_375]))], [(a1_374, .inl (T.2 0, zFl m1f wy2_352, .inl g1_370))], [(a2_375, .inl (T.2 0, 7, .inl r2f))], w2_350, z1_, wg1_] _ _ := G
            refine lv_aload_n hx hb dX11_fit_85 rfl (lv_at hl 2 rfl) ?_
            refine z_get C G clX11 4 rfl 9 (by decide) m_fl_RX11_65 rfl dX11_fit_86 ?_
            refine lv_iload_n hx hb dX11_fit_89 rfl (lv_at hl 4 rfl) ?_
            refine z_put C G clX3 5 rfl 2 (by decide) m_fl_RX11_295 rfl rfl rfl (Nat.le_of_ble_eq_true rfl) dX11_fit_90 (fun H locs G => ?_)
            have G : zS T A s.heap s [z0_, wg0_, wwA, wt, [(xo, .inr (10, [.ref t, .ref im, .ref mk, .ref rd, .ref po, .ref co, .ref tr, .ref wa, .ref wb_, .ref fi, .ref cd]))], [(fi, .inr (3, [.int e0f, .int i1, .int i2, .int s3_367, .int s4_368, .int s5_369, .ref a1_374, .ref a2_375]))], [(a1_374, .inl (T.2 0, zFl m1f wy2_352, .inl g1_370))], [(a2_375, .inl (T.2 0, 7, .inl r2f))], w2_350, z1_, wg1_] _ _ := G
            refine lv_aload_n hx hb dX11_fit_93 rfl (lv_at hl 2 rfl) ?_
            refine z_get C G clX11 4 rfl 9 (by decide) m_fl_RX11_65 rfl dX11_fit_94 ?_
            refine lv_iconst (v := 1) hx hb dX11_fit_97 (by decide) ?_
            refine z_put C G clX3 5 rfl 0 (by decide) m_fl_RX11_109 rfl rfl rfl (Nat.le_of_ble_eq_true rfl) dX11_fit_98 (fun H locs G => ?_)
            have G : zS T A s.heap s [z0_, wg0_, wwA, wt, [(xo, .inr (10, [.ref t, .ref im, .ref mk, .ref rd, .ref po, .ref co, .ref tr, .ref wa, .ref wb_, .ref fi, .ref cd]))], [(fi, .inr (3, [.int 1, .int i1, .int i2, .int s3_367, .int s4_368, .int s5_369, .ref a1_374, .ref a2_375]))], [(a1_374, .inl (T.2 0, zFl m1f wy2_352, .inl g1_370))], [(a2_375, .inl (T.2 0, 7, .inl r2f))], w2_350, z1_, wg1_] _ _ := G
            refine lv_iconst (v := 1) hx hb dX11_fit_101 (by decide) ?_
            have hw_376 : bFit T fi 1 i1 i2 s3_367 s4_368 s5_369 g1_370 (zFl m1f wy2_352) r2f [(fi, .inr (3, [.int 1, .int i1, .int i2, .int s3_367, .int s4_368, .int s5_369, .ref a1_374, .ref a2_375])), (a1_374, .inl (T.2 0, zFl m1f wy2_352, .inl g1_370)), (a2_375, .inl (T.2 0, 7, .inl r2f))] := ⟨a1_374, a2_375, rfl⟩
            have G : zS T A s.heap s [z0_, wg0_, wwA, wt, [(xo, .inr (10, [.ref t, .ref im, .ref mk, .ref rd, .ref po, .ref co, .ref tr, .ref wa, .ref wb_, .ref fi, .ref cd]))], [(fi, .inr (3, [.int 1, .int i1, .int i2, .int s3_367, .int s4_368, .int s5_369, .ref a1_374, .ref a2_375])), (a1_374, .inl (T.2 0, zFl m1f wy2_352, .inl g1_370)), (a2_375, .inl (T.2 0, 7, .inl r2f))], w2_350, z1_, wg1_] _ _ := G.re rfl
            have G := G.sub (bs' := [[(xo, .inr (10, [.ref t, .ref im, .ref mk, .ref rd, .ref po, .ref co, .ref tr, .ref wa, .ref wb_, .ref fi, .ref cd]))], wt, z0_, z1_, wg0_, wg1_, wwA, w2_350, [(fi, .inr (3, [.int 1, .int i1, .int i2, .int s3_367, .int s4_368, .int s5_369, .ref a1_374, .ref a2_375])), (a1_374, .inl (T.2 0, zFl m1f wy2_352, .inl g1_370)), (a2_375, .inl (T.2 0, 7, .inl r2f))]]) [4, 3, 0, 7, 1, 8, 2, 6, 5] rfl
            exact z_zret C hr hlocks G (by omega) (by omega) dX11_fit_102 rfl ⟨laA, mdA, wyA, pc_A, f1A, f2A, f3A, f4A, f5A, f6A, n4A, wwA, l1, m2_351, wy2_352, pc2_353, g1_354, g2_355, f3B, g4_356, g5_357, g6_358, (zMk mdB n4B (zPl cr1_ inn1_ k11_)), w2_350, 1, i1, i2, s3_367, s4_368, s5_369, g1_370, (zFl m1f wy2_352), r2f, ([(fi, .inr (3, [.int 1, .int i1, .int i2, .int s3_367, .int s4_368, .int s5_369, .ref a1_374, .ref a2_375])), (a1_374, .inl (T.2 0, zFl m1f wy2_352, .inl g1_370)), (a2_375, .inl (T.2 0, 7, .inl r2f))]), rfl, hwwA, hmdA, hwmA, (zNA_n (by omega)).symm, hpwA, (fun q => q), h_360, (Or.inr rfl), hwy9, hNAm.symm, (zMk_pw hpwB), (fun _ => h_363), hw_376, hNF.symm, hfw9, h39, (Or.inr ⟨rfl, by omega, by decide, rfl⟩), (fun _ => Or.inr ⟨by omega, h_363⟩)⟩
theorem m_co_X11_fit : Cond.code yX11_fit cX11_fit 5 (some .boolean) ∈ zT := zmem1 zsub_5 113 rfl rfl
theorem m_ml_RX11_302 : Cond.methodLink RX11 302 yX11_fit ∈ zT := zmem1 zsub_5 110 rfl rfl
theorem m_im_X11_fit : Cond.instanceMethod yX11_fit ∈ zT := zmem1 zsub_5 112 rfl rfl
theorem m_se_X11_fit : Cond.selects RX11 yX11_fit yX11_fit ∈ zT := zmem 41 rfl rfl
theorem m_fl_RX11_306 : Cond.fieldLink RX11 306 (TX3 3).1 (TX3 3).2.1 (TX3 3).2.2.1 ∈ zT := zmem1 zsub_2 152 rfl rfl
theorem m_fl_RX11_327 : Cond.fieldLink RX11 327 (TX3 4).1 (TX3 4).2.1 (TX3 4).2.2.1 ∈ zT := zmem1 zsub_2 154 rfl rfl
theorem m_fl_RX11_324 : Cond.fieldLink RX11 324 (TX3 5).1 (TX3 5).2.1 (TX3 5).2.2.1 ∈ zT := zmem1 zsub_2 156 rfl rfl
theorem m_ml_RX11_317 : Cond.methodLink RX11 317 yX3_way ∈ zT := zmem1 zsub_5 157 rfl rfl
theorem m_co_X3_sure : Cond.code yX3_sure cX3_sure 4 (some .int) ∈ zT := zmem1 zsub_5 147 rfl rfl
theorem m_ml_RX11_313 : Cond.methodLink RX11 313 yX3_sure ∈ zT := zmem1 zsub_5 144 rfl rfl
theorem m_im_X3_sure : Cond.instanceMethod yX3_sure ∈ zT := zmem1 zsub_5 145 rfl rfl
theorem m_se_X3_sure : Cond.selects RX3 yX3_sure yX3_sure ∈ zT := zmem1 zsub_5 146 rfl rfl
theorem m_co_X3_ask : Cond.code yX3_ask cX3_ask 6 (some .int) ∈ zT := zmem1 zsub_5 139 rfl rfl
theorem m_ml_RX11_309 : Cond.methodLink RX11 309 yX3_ask ∈ zT := zmem1 zsub_5 136 rfl rfl
theorem m_im_X3_ask : Cond.instanceMethod yX3_ask ∈ zT := zmem1 zsub_5 137 rfl rfl
theorem m_se_X3_ask : Cond.selects RX3 yX3_ask yX3_ask ∈ zT := zmem1 zsub_5 138 rfl rfl
theorem m_ml_RX11_320 : Cond.methodLink RX11 320 yX3_pointing ∈ zT := zmem1 zsub_5 162 rfl rfl
theorem kV_RX11_302 {R : Room} {s : State} {args : Array Value} {d mc ms : Nat} (hts : ∀ w ∈ zT, w.before args s = true) (h1 : d + 1 ≤ R.frames) (h2 : 8 + (5 + 11) + 40 * d ≤ R.locals) : CallW R s args RX11 RX11 302 yX11_fit cX11_fit 5 (some .boolean) (zW yX11_fit cX11_fit 5 (some .boolean)) (zR d mc ms) mc ms 2 := z_cwV hts m_co_X11_fit m_ml_RX11_302 m_im_X11_fit m_se_X11_fit m_ii_RX11 (by decide +kernel) h1 h2
theorem kV_RX11_317 {R : Room} {s : State} {args : Array Value} {d mc ms : Nat} (hts : ∀ w ∈ zT, w.before args s = true) (h1 : d + 1 ≤ R.frames) (h2 : 8 + (2 + 11) + 40 * d ≤ R.locals) : CallW R s args RX11 RX3 317 yX3_way cX3_way 2 (some .int) (zW yX3_way cX3_way 2 (some .int)) (zR d mc ms) mc ms 1 := z_cwV hts m_co_X3_way m_ml_RX11_317 m_im_X3_way m_se_X3_way m_ii_RX3 (by decide +kernel) h1 h2
theorem kV_RX11_313 {R : Room} {s : State} {args : Array Value} {d mc ms : Nat} (hts : ∀ w ∈ zT, w.before args s = true) (h1 : d + 1 ≤ R.frames) (h2 : 8 + (4 + 11) + 40 * d ≤ R.locals) : CallW R s args RX11 RX3 313 yX3_sure cX3_sure 4 (some .int) (zW yX3_sure cX3_sure 4 (some .int)) (zR d mc ms) mc ms 2 := z_cwV hts m_co_X3_sure m_ml_RX11_313 m_im_X3_sure m_se_X3_sure m_ii_RX3 (by decide +kernel) h1 h2
theorem kV_RX11_309 {R : Room} {s : State} {args : Array Value} {d mc ms : Nat} (hts : ∀ w ∈ zT, w.before args s = true) (h1 : d + 1 ≤ R.frames) (h2 : 8 + (6 + 11) + 40 * d ≤ R.locals) : CallW R s args RX11 RX3 309 yX3_ask cX3_ask 6 (some .int) (zW yX3_ask cX3_ask 6 (some .int)) (zR d mc ms) mc ms 1 := z_cwV hts m_co_X3_ask m_ml_RX11_309 m_im_X3_ask m_se_X3_ask m_ii_RX3 (by decide +kernel) h1 h2
theorem kV_RX11_320 {R : Room} {s : State} {args : Array Value} {d mc ms : Nat} (hts : ∀ w ∈ zT, w.before args s = true) (h1 : d + 1 ≤ R.frames) (h2 : 8 + (6 + 11) + 40 * d ≤ R.locals) : CallW R s args RX11 RX3 320 yX3_pointing cX3_pointing 6 (some .int) (zW yX3_pointing cX3_pointing 6 (some .int)) (zR d mc ms) mc ms 3 := z_cwV hts m_co_X3_pointing m_ml_RX11_320 m_im_X3_pointing m_se_X3_pointing m_ii_RX3 (by decide +kernel) h1 h2
theorem dX11_least_0 : decode cX11_least 0 = .ok (.aload_n 0, 1) := zo_42 (by decide +kernel)
theorem dX11_least_1 : decode cX11_least 1 = .ok (.iload_n 1, 1) := zo_27 (by decide +kernel)
theorem dX11_least_2 : decode cX11_least 2 = .ok (.iload_n 2, 1) := zo_28 (by decide +kernel)
theorem dX11_least_3 : decode cX11_least 3 = .ok (.invokevirtual 302, 3) := zo_182 (by decide +kernel)
theorem dX11_least_6 : decode cX11_least 6 = .ok (.ifCond .eq 13, 3) := zo_153 (by decide +kernel)
theorem dX11_least_9 : decode cX11_least 9 = .ok (.aload_n 0, 1) := zo_42 (by decide +kernel)
theorem dX11_least_10 : decode cX11_least 10 = .ok (.getfield 65, 3) := zo_180 (by decide +kernel)
theorem dX11_least_13 : decode cX11_least 13 = .ok (.getfield 306, 3) := zo_180 (by decide +kernel)
theorem dX11_least_16 : decode cX11_least 16 = .ok (.ifCond .ne 5, 3) := zo_154 (by decide +kernel)
theorem dX11_least_19 : decode cX11_least 19 = .ok (.iconst (-1), 1) := zo_2 (by decide +kernel)
theorem dX11_least_20 : decode cX11_least 20 = .ok (.ireturn, 1) := zo_172 (by decide +kernel)
theorem dX11_least_21 : decode cX11_least 21 = .ok (.iload_n 3, 1) := zo_29 (by decide +kernel)
theorem dX11_least_22 : decode cX11_least 22 = .ok (.ifCond .eq 13, 3) := zo_153 (by decide +kernel)
theorem dX11_least_25 : decode cX11_least 25 = .ok (.aload_n 0, 1) := zo_42 (by decide +kernel)
theorem dX11_least_26 : decode cX11_least 26 = .ok (.getfield 65, 3) := zo_180 (by decide +kernel)
theorem dX11_least_29 : decode cX11_least 29 = .ok (.getfield 324, 3) := zo_180 (by decide +kernel)
theorem dX11_least_32 : decode cX11_least 32 = .ok (.goto 10, 3) := zo_167 (by decide +kernel)
theorem dX11_least_35 : decode cX11_least 35 = .ok (.aload_n 0, 1) := zo_42 (by decide +kernel)
theorem dX11_least_36 : decode cX11_least 36 = .ok (.getfield 65, 3) := zo_180 (by decide +kernel)
theorem dX11_least_39 : decode cX11_least 39 = .ok (.getfield 327, 3) := zo_180 (by decide +kernel)
theorem dX11_least_42 : decode cX11_least 42 = .ok (.ireturn, 1) := zo_172 (by decide +kernel)
theorem dX11_fits_0 : decode cX11_fits 0 = .ok (.aload_n 0, 1) := zo_42 (by decide +kernel)
theorem dX11_fits_1 : decode cX11_fits 1 = .ok (.getfield 10, 3) := zo_180 (by decide +kernel)
theorem dX11_fits_4 : decode cX11_fits 4 = .ok (.iload_n 1, 1) := zo_27 (by decide +kernel)
theorem dX11_fits_5 : decode cX11_fits 5 = .ok (.invokevirtual 121, 3) := zo_182 (by decide +kernel)
theorem dX11_fits_8 : decode cX11_fits 8 = .ok (.astore 4, 2) := zo_58 (by decide +kernel)
theorem dX11_fits_10 : decode cX11_fits 10 = .ok (.aload_n 0, 1) := zo_42 (by decide +kernel)
theorem dX11_fits_11 : decode cX11_fits 11 = .ok (.iload_n 1, 1) := zo_27 (by decide +kernel)
theorem dX11_fits_12 : decode cX11_fits 12 = .ok (.iload_n 2, 1) := zo_28 (by decide +kernel)
theorem dX11_fits_13 : decode cX11_fits 13 = .ok (.invokevirtual 302, 3) := zo_182 (by decide +kernel)
theorem dX11_fits_16 : decode cX11_fits 16 = .ok (.ifCond .eq 12, 3) := zo_153 (by decide +kernel)
theorem dX11_fits_19 : decode cX11_fits 19 = .ok (.aload 4, 2) := zo_25 (by decide +kernel)
theorem dX11_fits_21 : decode cX11_fits 21 = .ok (.ifnull 7, 3) := zo_198 (by decide +kernel)
theorem dX11_fits_24 : decode cX11_fits 24 = .ok (.iload_n 3, 1) := zo_29 (by decide +kernel)
theorem dX11_fits_25 : decode cX11_fits 25 = .ok (.ifCond .ge 6, 3) := zo_156 (by decide +kernel)
theorem dX11_fits_28 : decode cX11_fits 28 = .ok (.bipush (-2), 2) := zo_16 (by decide +kernel)
theorem dX11_fits_30 : decode cX11_fits 30 = .ok (.ireturn, 1) := zo_172 (by decide +kernel)
theorem dX11_fits_31 : decode cX11_fits 31 = .ok (.aload_n 0, 1) := zo_42 (by decide +kernel)
theorem dX11_fits_32 : decode cX11_fits 32 = .ok (.iload_n 1, 1) := zo_27 (by decide +kernel)
theorem dX11_fits_33 : decode cX11_fits 33 = .ok (.aload 4, 2) := zo_25 (by decide +kernel)
theorem dX11_fits_35 : decode cX11_fits 35 = .ok (.invokevirtual 235, 3) := zo_182 (by decide +kernel)
theorem dX11_fits_38 : decode cX11_fits 38 = .ok (.astore 5, 2) := zo_58 (by decide +kernel)
theorem dX11_fits_40 : decode cX11_fits 40 = .ok (.iload_n 3, 1) := zo_29 (by decide +kernel)
theorem dX11_fits_41 : decode cX11_fits 41 = .ok (.ifCond .ne 11, 3) := zo_154 (by decide +kernel)
theorem dX11_fits_44 : decode cX11_fits 44 = .ok (.aload_n 0, 1) := zo_42 (by decide +kernel)
theorem dX11_fits_45 : decode cX11_fits 45 = .ok (.getfield 65, 3) := zo_180 (by decide +kernel)
theorem dX11_fits_48 : decode cX11_fits 48 = .ok (.getfield 306, 3) := zo_180 (by decide +kernel)
theorem dX11_fits_51 : decode cX11_fits 51 = .ok (.ireturn, 1) := zo_172 (by decide +kernel)
theorem dX11_fits_52 : decode cX11_fits 52 = .ok (.iload_n 3, 1) := zo_29 (by decide +kernel)
theorem dX11_fits_53 : decode cX11_fits 53 = .ok (.iconst 1, 1) := zo_4 (by decide +kernel)
theorem dX11_fits_54 : decode cX11_fits 54 = .ok (.if_icmp .ne 13, 3) := zo_160 (by decide +kernel)
theorem dX11_fits_57 : decode cX11_fits 57 = .ok (.aload_n 0, 1) := zo_42 (by decide +kernel)
theorem dX11_fits_58 : decode cX11_fits 58 = .ok (.getfield 65, 3) := zo_180 (by decide +kernel)
theorem dX11_fits_61 : decode cX11_fits 61 = .ok (.aload 5, 2) := zo_25 (by decide +kernel)
theorem dX11_fits_63 : decode cX11_fits 63 = .ok (.invokevirtual 309, 3) := zo_182 (by decide +kernel)
theorem dX11_fits_66 : decode cX11_fits 66 = .ok (.ireturn, 1) := zo_172 (by decide +kernel)
theorem dX11_fits_67 : decode cX11_fits 67 = .ok (.iload_n 3, 1) := zo_29 (by decide +kernel)
theorem dX11_fits_68 : decode cX11_fits 68 = .ok (.bipush 9, 2) := zo_16 (by decide +kernel)
theorem dX11_fits_70 : decode cX11_fits 70 = .ok (.if_icmp .ge 16, 3) := zo_162 (by decide +kernel)
theorem dX11_fits_73 : decode cX11_fits 73 = .ok (.aload_n 0, 1) := zo_42 (by decide +kernel)
theorem dX11_fits_74 : decode cX11_fits 74 = .ok (.getfield 65, 3) := zo_180 (by decide +kernel)
theorem dX11_fits_77 : decode cX11_fits 77 = .ok (.aload 5, 2) := zo_25 (by decide +kernel)
theorem dX11_fits_79 : decode cX11_fits 79 = .ok (.iload_n 3, 1) := zo_29 (by decide +kernel)
theorem dX11_fits_80 : decode cX11_fits 80 = .ok (.iconst 2, 1) := zo_5 (by decide +kernel)
theorem dX11_fits_81 : decode cX11_fits 81 = .ok (.isub, 1) := zo_100 (by decide +kernel)
theorem dX11_fits_82 : decode cX11_fits 82 = .ok (.invokevirtual 313, 3) := zo_182 (by decide +kernel)
theorem dX11_fits_85 : decode cX11_fits 85 = .ok (.ireturn, 1) := zo_172 (by decide +kernel)
theorem dX11_fits_86 : decode cX11_fits 86 = .ok (.iload_n 3, 1) := zo_29 (by decide +kernel)
theorem dX11_fits_87 : decode cX11_fits 87 = .ok (.bipush 10, 2) := zo_16 (by decide +kernel)
theorem dX11_fits_89 : decode cX11_fits 89 = .ok (.isub, 1) := zo_100 (by decide +kernel)
theorem dX11_fits_90 : decode cX11_fits 90 = .ok (.istore 6, 2) := zo_54 (by decide +kernel)
theorem dX11_fits_92 : decode cX11_fits 92 = .ok (.iload 6, 2) := zo_21 (by decide +kernel)
theorem dX11_fits_94 : decode cX11_fits 94 = .ok (.ifCond .lt 32, 3) := zo_155 (by decide +kernel)
theorem dX11_fits_97 : decode cX11_fits 97 = .ok (.iload 6, 2) := zo_21 (by decide +kernel)
theorem dX11_fits_99 : decode cX11_fits 99 = .ok (.aload_n 0, 1) := zo_42 (by decide +kernel)
theorem dX11_fits_100 : decode cX11_fits 100 = .ok (.getfield 65, 3) := zo_180 (by decide +kernel)
theorem dX11_fits_103 : decode cX11_fits 103 = .ok (.getfield 306, 3) := zo_180 (by decide +kernel)
theorem dX11_fits_106 : decode cX11_fits 106 = .ok (.if_icmp .ge 20, 3) := zo_162 (by decide +kernel)
theorem dX11_fits_109 : decode cX11_fits 109 = .ok (.aload 5, 2) := zo_25 (by decide +kernel)
theorem dX11_fits_111 : decode cX11_fits 111 = .ok (.aload_n 0, 1) := zo_42 (by decide +kernel)
theorem dX11_fits_112 : decode cX11_fits 112 = .ok (.getfield 65, 3) := zo_180 (by decide +kernel)
theorem dX11_fits_115 : decode cX11_fits 115 = .ok (.iload 6, 2) := zo_21 (by decide +kernel)
theorem dX11_fits_117 : decode cX11_fits 117 = .ok (.invokevirtual 317, 3) := zo_182 (by decide +kernel)
theorem dX11_fits_120 : decode cX11_fits 120 = .ok (.invokevirtual 272, 3) := zo_182 (by decide +kernel)
theorem dX11_fits_123 : decode cX11_fits 123 = .ok (.goto 5, 3) := zo_167 (by decide +kernel)
theorem dX11_fits_126 : decode cX11_fits 126 = .ok (.bipush (-2), 2) := zo_16 (by decide +kernel)
theorem dX11_fits_128 : decode cX11_fits 128 = .ok (.ireturn, 1) := zo_172 (by decide +kernel)
theorem dX11_odds_0 : decode cX11_odds 0 = .ok (.aload_n 0, 1) := zo_42 (by decide +kernel)
theorem dX11_odds_1 : decode cX11_odds 1 = .ok (.getfield 10, 3) := zo_180 (by decide +kernel)
theorem dX11_odds_4 : decode cX11_odds 4 = .ok (.iload_n 1, 1) := zo_27 (by decide +kernel)
theorem dX11_odds_5 : decode cX11_odds 5 = .ok (.invokevirtual 121, 3) := zo_182 (by decide +kernel)
theorem dX11_odds_8 : decode cX11_odds 8 = .ok (.astore 6, 2) := zo_58 (by decide +kernel)
theorem dX11_odds_10 : decode cX11_odds 10 = .ok (.aload_n 0, 1) := zo_42 (by decide +kernel)
theorem dX11_odds_11 : decode cX11_odds 11 = .ok (.iload_n 1, 1) := zo_27 (by decide +kernel)
theorem dX11_odds_12 : decode cX11_odds 12 = .ok (.iload_n 2, 1) := zo_28 (by decide +kernel)
theorem dX11_odds_13 : decode cX11_odds 13 = .ok (.invokevirtual 302, 3) := zo_182 (by decide +kernel)
theorem dX11_odds_16 : decode cX11_odds 16 = .ok (.ifCond .eq 24, 3) := zo_153 (by decide +kernel)
theorem dX11_odds_19 : decode cX11_odds 19 = .ok (.aload 6, 2) := zo_25 (by decide +kernel)
theorem dX11_odds_21 : decode cX11_odds 21 = .ok (.ifnull 19, 3) := zo_198 (by decide +kernel)
theorem dX11_odds_24 : decode cX11_odds 24 = .ok (.iload 4, 2) := zo_21 (by decide +kernel)
theorem dX11_odds_26 : decode cX11_odds 26 = .ok (.ifCond .lt 14, 3) := zo_155 (by decide +kernel)
theorem dX11_odds_29 : decode cX11_odds 29 = .ok (.iload 4, 2) := zo_21 (by decide +kernel)
theorem dX11_odds_31 : decode cX11_odds 31 = .ok (.aload 6, 2) := zo_25 (by decide +kernel)
theorem dX11_odds_33 : decode cX11_odds 33 = .ok (.iload_n 3, 1) := zo_29 (by decide +kernel)
theorem dX11_odds_34 : decode cX11_odds 34 = .ok (.invokevirtual 221, 3) := zo_182 (by decide +kernel)
theorem dX11_odds_37 : decode cX11_odds 37 = .ok (.if_icmp .lt 5, 3) := zo_161 (by decide +kernel)
theorem dX11_odds_40 : decode cX11_odds 40 = .ok (.iconst (-1), 1) := zo_2 (by decide +kernel)
theorem dX11_odds_41 : decode cX11_odds 41 = .ok (.ireturn, 1) := zo_172 (by decide +kernel)
theorem dX11_odds_42 : decode cX11_odds 42 = .ok (.aload_n 0, 1) := zo_42 (by decide +kernel)
theorem dX11_odds_43 : decode cX11_odds 43 = .ok (.getfield 65, 3) := zo_180 (by decide +kernel)
theorem dX11_odds_46 : decode cX11_odds 46 = .ok (.getfield 306, 3) := zo_180 (by decide +kernel)
theorem dX11_odds_49 : decode cX11_odds 49 = .ok (.ifCond .ne 5, 3) := zo_154 (by decide +kernel)
theorem dX11_odds_52 : decode cX11_odds 52 = .ok (.iconst (-1), 1) := zo_2 (by decide +kernel)
theorem dX11_odds_53 : decode cX11_odds 53 = .ok (.ireturn, 1) := zo_172 (by decide +kernel)
theorem dX11_odds_54 : decode cX11_odds 54 = .ok (.aload_n 0, 1) := zo_42 (by decide +kernel)
theorem dX11_odds_55 : decode cX11_odds 55 = .ok (.getfield 65, 3) := zo_180 (by decide +kernel)
theorem dX11_odds_58 : decode cX11_odds 58 = .ok (.aload_n 0, 1) := zo_42 (by decide +kernel)
theorem dX11_odds_59 : decode cX11_odds 59 = .ok (.iload_n 1, 1) := zo_27 (by decide +kernel)
theorem dX11_odds_60 : decode cX11_odds 60 = .ok (.aload 6, 2) := zo_25 (by decide +kernel)
theorem dX11_odds_62 : decode cX11_odds 62 = .ok (.invokevirtual 235, 3) := zo_182 (by decide +kernel)
theorem dX11_odds_65 : decode cX11_odds 65 = .ok (.iload_n 3, 1) := zo_29 (by decide +kernel)
theorem dX11_odds_66 : decode cX11_odds 66 = .ok (.iload 4, 2) := zo_21 (by decide +kernel)
theorem dX11_odds_68 : decode cX11_odds 68 = .ok (.invokevirtual 320, 3) := zo_182 (by decide +kernel)
theorem dX11_odds_71 : decode cX11_odds 71 = .ok (.istore 7, 2) := zo_54 (by decide +kernel)
theorem dX11_odds_73 : decode cX11_odds 73 = .ok (.iload 7, 2) := zo_21 (by decide +kernel)
theorem dX11_odds_75 : decode cX11_odds 75 = .ok (.aload_n 0, 1) := zo_42 (by decide +kernel)
theorem dX11_odds_76 : decode cX11_odds 76 = .ok (.getfield 65, 3) := zo_180 (by decide +kernel)
theorem dX11_odds_79 : decode cX11_odds 79 = .ok (.getfield 306, 3) := zo_180 (by decide +kernel)
theorem dX11_odds_82 : decode cX11_odds 82 = .ok (.iload 5, 2) := zo_21 (by decide +kernel)
theorem dX11_odds_84 : decode cX11_odds 84 = .ok (.invokestatic 262, 3) := zo_184 (by decide +kernel)
theorem dX11_odds_87 : decode cX11_odds 87 = .ok (.ireturn, 1) := zo_172 (by decide +kernel)

theorem m_ml_RX11_1 : Cond.methodLink RX11 1 objectInit ∈ zT := zmem1 zsub_1 25 (by decide +kernel) (by decide +kernel)
theorem m_cl_RX11_7 : Cond.classLink RX11 7 RX9 ∈ zT := zmem1 zsub_1 28 (by decide +kernel) (by decide +kernel)
theorem m_in_RX9 : Cond.instantiable RX9 8 ∈ zT := zmem1 zsub_1 29 (by decide +kernel) (by decide +kernel)
theorem m_co_X9_init : Cond.code yX9_init cX9_init 1 none ∈ zT := zmem1 zsub_1 32 (by decide +kernel) (by decide +kernel)
theorem m_im_X9_init : Cond.instanceMethod yX9_init ∈ zT := zmem1 zsub_1 31 (by decide +kernel) (by decide +kernel)
theorem m_ar_boolean : Cond.arrayClass .boolean ∈ zT := zmem1 zsub_1 216 (by decide +kernel) (by decide +kernel)
theorem m_cl_RX11_24 : Cond.classLink RX11 24 RX7 ∈ zT := zmem1 zsub_1 159 (by decide +kernel) (by decide +kernel)
theorem m_in_RX7 : Cond.instantiable RX7 13 ∈ zT := zmem1 zsub_1 160 (by decide +kernel) (by decide +kernel)
theorem m_co_X7_init : Cond.code yX7_init cX7_init 1 none ∈ zT := zmem1 zsub_1 163 (by decide +kernel) (by decide +kernel)
theorem m_im_X7_init : Cond.instanceMethod yX7_init ∈ zT := zmem1 zsub_1 162 (by decide +kernel) (by decide +kernel)
theorem m_cl_RX11_31 : Cond.classLink RX11 31 RX6 ∈ zT := zmem1 zsub_1 217 (by decide +kernel) (by decide +kernel)
theorem m_cl_RX11_38 : Cond.classLink RX11 38 RX1 ∈ zT := zmem1 zsub_2 12 (by decide +kernel) (by decide +kernel)
theorem m_in_RX1 : Cond.instantiable RX1 11 ∈ zT := zmem1 zsub_2 13 (by decide +kernel) (by decide +kernel)
theorem m_co_X1_init : Cond.code yX1_init cX1_init 1 none ∈ zT := zmem1 zsub_2 16 (by decide +kernel) (by decide +kernel)
theorem m_im_X1_init : Cond.instanceMethod yX1_init ∈ zT := zmem1 zsub_2 15 (by decide +kernel) (by decide +kernel)
theorem m_cl_RX11_45 : Cond.classLink RX11 45 RX10 ∈ zT := zmem1 zsub_2 59 (by decide +kernel) (by decide +kernel)
theorem m_in_RX10 : Cond.instantiable RX10 8 ∈ zT := zmem1 zsub_2 60 (by decide +kernel) (by decide +kernel)
theorem m_co_X10_init : Cond.code yX10_init cX10_init 1 none ∈ zT := zmem1 zsub_2 63 (by decide +kernel) (by decide +kernel)
theorem m_im_X10_init : Cond.instanceMethod yX10_init ∈ zT := zmem1 zsub_2 62 (by decide +kernel) (by decide +kernel)
theorem m_cl_RX11_52 : Cond.classLink RX11 52 RX0 ∈ zT := zmem1 zsub_2 97 (by decide +kernel) (by decide +kernel)
theorem m_in_RX0 : Cond.instantiable RX0 10 ∈ zT := zmem1 zsub_2 98 (by decide +kernel) (by decide +kernel)
theorem m_co_X0_init : Cond.code yX0_init cX0_init 1 none ∈ zT := zmem1 zsub_2 101 (by decide +kernel) (by decide +kernel)
theorem m_im_X0_init : Cond.instanceMethod yX0_init ∈ zT := zmem1 zsub_2 100 (by decide +kernel) (by decide +kernel)
theorem m_cl_RX11_62 : Cond.classLink RX11 62 RX3 ∈ zT := zmem1 zsub_2 140 (by decide +kernel) (by decide +kernel)
theorem m_in_RX3 : Cond.instantiable RX3 8 ∈ zT := zmem1 zsub_2 141 (by decide +kernel) (by decide +kernel)
theorem m_co_X3_init : Cond.code yX3_init cX3_init 1 none ∈ zT := zmem1 zsub_2 144 (by decide +kernel) (by decide +kernel)
theorem m_im_X3_init : Cond.instanceMethod yX3_init ∈ zT := zmem1 zsub_2 143 (by decide +kernel) (by decide +kernel)
theorem m_co_X0_treesOf : Cond.code yX0_treesOf cX0_treesOf 4 (some .int) ∈ zT := zmem1 zsub_5 60 (by decide +kernel) (by decide +kernel)
theorem m_ml_RX11_268 : Cond.methodLink RX11 268 yX0_treesOf ∈ zT := zmem1 zsub_5 57 (by decide +kernel) (by decide +kernel)
theorem m_im_X0_treesOf : Cond.instanceMethod yX0_treesOf ∈ zT := zmem1 zsub_5 58 (by decide +kernel) (by decide +kernel)
theorem m_se_X0_treesOf : Cond.selects RX0 yX0_treesOf yX0_treesOf ∈ zT := zmem1 zsub_5 59 (by decide +kernel) (by decide +kernel)
theorem kJ_RX11_9 {R : Room} {s : State} {args : Array Value} {d mc ms : Nat} (hX : zX s) (hts : ∀ w ∈ zT, w.before args s = true) (h1 : d + 1 ≤ R.frames) (h2 : 8 + (1 + 11) + 40 * d ≤ R.locals) : va_CN R s args RX11 9 yX9_init RX11 cX9_init 1 none (zW yX9_init cX9_init 1 none) (zR d mc ms) mc ms 0 ∧ yX9_init.name = "<init>" ∧ (Cond.instanceMethod yX9_init).before args s = true := z_cwJ hts m_co_X9_init (hX.1 (RX11, 9, yX9_init, RX11) (List.mem_of_getElem? (i := 0) rfl)) m_im_X9_init m_ii_RX9 rfl (by decide +kernel) h1 h2
theorem kJ_RX11_26 {R : Room} {s : State} {args : Array Value} {d mc ms : Nat} (hX : zX s) (hts : ∀ w ∈ zT, w.before args s = true) (h1 : d + 1 ≤ R.frames) (h2 : 8 + (1 + 11) + 40 * d ≤ R.locals) : va_CN R s args RX11 26 yX7_init RX11 cX7_init 1 none (zW yX7_init cX7_init 1 none) (zR d mc ms) mc ms 0 ∧ yX7_init.name = "<init>" ∧ (Cond.instanceMethod yX7_init).before args s = true := z_cwJ hts m_co_X7_init (hX.1 (RX11, 26, yX7_init, RX11) (List.mem_of_getElem? (i := 1) rfl)) m_im_X7_init m_ii_RX7 rfl (by decide +kernel) h1 h2
theorem kJ_RX11_33 {R : Room} {s : State} {args : Array Value} {d mc ms : Nat} (hX : zX s) (hts : ∀ w ∈ zT, w.before args s = true) (h1 : d + 1 ≤ R.frames) (h2 : 8 + (1 + 11) + 40 * d ≤ R.locals) : va_CN R s args RX11 33 yX6_init RX11 cX6_init 1 none (zW yX6_init cX6_init 1 none) (zR d mc ms) mc ms 0 ∧ yX6_init.name = "<init>" ∧ (Cond.instanceMethod yX6_init).before args s = true := z_cwJ hts m_co_X6_init (hX.1 (RX11, 33, yX6_init, RX11) (List.mem_of_getElem? (i := 2) rfl)) m_im_X6_init m_ii_RX6 rfl (by decide +kernel) h1 h2
theorem kJ_RX11_40 {R : Room} {s : State} {args : Array Value} {d mc ms : Nat} (hX : zX s) (hts : ∀ w ∈ zT, w.before args s = true) (h1 : d + 1 ≤ R.frames) (h2 : 8 + (1 + 11) + 40 * d ≤ R.locals) : va_CN R s args RX11 40 yX1_init RX11 cX1_init 1 none (zW yX1_init cX1_init 1 none) (zR d mc ms) mc ms 0 ∧ yX1_init.name = "<init>" ∧ (Cond.instanceMethod yX1_init).before args s = true := z_cwJ hts m_co_X1_init (hX.1 (RX11, 40, yX1_init, RX11) (List.mem_of_getElem? (i := 3) rfl)) m_im_X1_init m_ii_RX1 rfl (by decide +kernel) h1 h2
theorem kJ_RX11_47 {R : Room} {s : State} {args : Array Value} {d mc ms : Nat} (hX : zX s) (hts : ∀ w ∈ zT, w.before args s = true) (h1 : d + 1 ≤ R.frames) (h2 : 8 + (1 + 11) + 40 * d ≤ R.locals) : va_CN R s args RX11 47 yX10_init RX11 cX10_init 1 none (zW yX10_init cX10_init 1 none) (zR d mc ms) mc ms 0 ∧ yX10_init.name = "<init>" ∧ (Cond.instanceMethod yX10_init).before args s = true := z_cwJ hts m_co_X10_init (hX.1 (RX11, 47, yX10_init, RX11) (List.mem_of_getElem? (i := 4) rfl)) m_im_X10_init m_ii_RX10 rfl (by decide +kernel) h1 h2
theorem kJ_RX11_54 {R : Room} {s : State} {args : Array Value} {d mc ms : Nat} (hX : zX s) (hts : ∀ w ∈ zT, w.before args s = true) (h1 : d + 1 ≤ R.frames) (h2 : 8 + (1 + 11) + 40 * d ≤ R.locals) : va_CN R s args RX11 54 yX0_init RX11 cX0_init 1 none (zW yX0_init cX0_init 1 none) (zR d mc ms) mc ms 0 ∧ yX0_init.name = "<init>" ∧ (Cond.instanceMethod yX0_init).before args s = true := z_cwJ hts m_co_X0_init (hX.1 (RX11, 54, yX0_init, RX11) (List.mem_of_getElem? (i := 5) rfl)) m_im_X0_init m_ii_RX0 rfl (by decide +kernel) h1 h2
theorem kJ_RX11_64 {R : Room} {s : State} {args : Array Value} {d mc ms : Nat} (hX : zX s) (hts : ∀ w ∈ zT, w.before args s = true) (h1 : d + 1 ≤ R.frames) (h2 : 8 + (1 + 11) + 40 * d ≤ R.locals) : va_CN R s args RX11 64 yX3_init RX11 cX3_init 1 none (zW yX3_init cX3_init 1 none) (zR d mc ms) mc ms 0 ∧ yX3_init.name = "<init>" ∧ (Cond.instanceMethod yX3_init).before args s = true := z_cwJ hts m_co_X3_init (hX.1 (RX11, 64, yX3_init, RX11) (List.mem_of_getElem? (i := 6) rfl)) m_im_X3_init m_ii_RX3 rfl (by decide +kernel) h1 h2
theorem kV_RX11_268 {R : Room} {s : State} {args : Array Value} {d mc ms : Nat} (hts : ∀ w ∈ zT, w.before args s = true) (h1 : d + 1 ≤ R.frames) (h2 : 8 + (4 + 11) + 40 * d ≤ R.locals) : CallW R s args RX11 RX0 268 yX0_treesOf cX0_treesOf 4 (some .int) (zW yX0_treesOf cX0_treesOf 4 (some .int)) (zR d mc ms) mc ms 1 := z_cwV hts m_co_X0_treesOf m_ml_RX11_268 m_im_X0_treesOf m_se_X0_treesOf m_ii_RX0 (by decide +kernel) h1 h2
theorem dX11_init_0 : decode cX11_init 0 = .ok (.aload_n 0, 1) := by decide +kernel
theorem dX11_init_1 : decode cX11_init 1 = .ok (.invokespecial 1, 3) := by decide +kernel
theorem dX11_init_4 : decode cX11_init 4 = .ok (.aload_n 0, 1) := by decide +kernel
theorem dX11_init_5 : decode cX11_init 5 = .ok (.new 7, 3) := by decide +kernel
theorem dX11_init_8 : decode cX11_init 8 = .ok (.dup, 1) := by decide +kernel
theorem dX11_init_9 : decode cX11_init 9 = .ok (.invokespecial 9, 3) := by decide +kernel
theorem dX11_init_12 : decode cX11_init 12 = .ok (.putfield 10, 3) := by decide +kernel
theorem dX11_init_15 : decode cX11_init 15 = .ok (.aload_n 0, 1) := by decide +kernel
theorem dX11_init_16 : decode cX11_init 16 = .ok (.iconst 3, 1) := by decide +kernel
theorem dX11_init_17 : decode cX11_init 17 = .ok (.anewarray 7, 3) := by decide +kernel
theorem dX11_init_20 : decode cX11_init 20 = .ok (.dup, 1) := by decide +kernel
theorem dX11_init_21 : decode cX11_init 21 = .ok (.iconst 0, 1) := by decide +kernel
theorem dX11_init_22 : decode cX11_init 22 = .ok (.new 7, 3) := by decide +kernel
theorem dX11_init_25 : decode cX11_init 25 = .ok (.dup, 1) := by decide +kernel
theorem dX11_init_26 : decode cX11_init 26 = .ok (.invokespecial 9, 3) := by decide +kernel
theorem dX11_init_29 : decode cX11_init 29 = .ok (.aastore, 1) := by decide +kernel
theorem dX11_init_30 : decode cX11_init 30 = .ok (.dup, 1) := by decide +kernel
theorem dX11_init_31 : decode cX11_init 31 = .ok (.iconst 1, 1) := by decide +kernel
theorem dX11_init_32 : decode cX11_init 32 = .ok (.new 7, 3) := by decide +kernel
theorem dX11_init_35 : decode cX11_init 35 = .ok (.dup, 1) := by decide +kernel
theorem dX11_init_36 : decode cX11_init 36 = .ok (.invokespecial 9, 3) := by decide +kernel
theorem dX11_init_39 : decode cX11_init 39 = .ok (.aastore, 1) := by decide +kernel
theorem dX11_init_40 : decode cX11_init 40 = .ok (.dup, 1) := by decide +kernel
theorem dX11_init_41 : decode cX11_init 41 = .ok (.iconst 2, 1) := by decide +kernel
theorem dX11_init_42 : decode cX11_init 42 = .ok (.new 7, 3) := by decide +kernel
theorem dX11_init_45 : decode cX11_init 45 = .ok (.dup, 1) := by decide +kernel
theorem dX11_init_46 : decode cX11_init 46 = .ok (.invokespecial 9, 3) := by decide +kernel
theorem dX11_init_49 : decode cX11_init 49 = .ok (.aastore, 1) := by decide +kernel
theorem dX11_init_50 : decode cX11_init 50 = .ok (.putfield 16, 3) := by decide +kernel
theorem dX11_init_53 : decode cX11_init 53 = .ok (.aload_n 0, 1) := by decide +kernel
theorem dX11_init_54 : decode cX11_init 54 = .ok (.iconst 3, 1) := by decide +kernel
theorem dX11_init_55 : decode cX11_init 55 = .ok (.newarray .boolean, 2) := by decide +kernel
theorem dX11_init_57 : decode cX11_init 57 = .ok (.putfield 20, 3) := by decide +kernel
theorem dX11_init_60 : decode cX11_init 60 = .ok (.aload_n 0, 1) := by decide +kernel
theorem dX11_init_61 : decode cX11_init 61 = .ok (.new 24, 3) := by decide +kernel
theorem dX11_init_64 : decode cX11_init 64 = .ok (.dup, 1) := by decide +kernel
theorem dX11_init_65 : decode cX11_init 65 = .ok (.invokespecial 26, 3) := by decide +kernel
theorem dX11_init_68 : decode cX11_init 68 = .ok (.putfield 27, 3) := by decide +kernel
theorem dX11_init_71 : decode cX11_init 71 = .ok (.aload_n 0, 1) := by decide +kernel
theorem dX11_init_72 : decode cX11_init 72 = .ok (.new 31, 3) := by decide +kernel
theorem dX11_init_75 : decode cX11_init 75 = .ok (.dup, 1) := by decide +kernel
theorem dX11_init_76 : decode cX11_init 76 = .ok (.invokespecial 33, 3) := by decide +kernel
theorem dX11_init_79 : decode cX11_init 79 = .ok (.putfield 34, 3) := by decide +kernel
theorem dX11_init_82 : decode cX11_init 82 = .ok (.aload_n 0, 1) := by decide +kernel
theorem dX11_init_83 : decode cX11_init 83 = .ok (.new 38, 3) := by decide +kernel
theorem dX11_init_86 : decode cX11_init 86 = .ok (.dup, 1) := by decide +kernel
theorem dX11_init_87 : decode cX11_init 87 = .ok (.invokespecial 40, 3) := by decide +kernel
theorem dX11_init_90 : decode cX11_init 90 = .ok (.putfield 41, 3) := by decide +kernel
theorem dX11_init_93 : decode cX11_init 93 = .ok (.aload_n 0, 1) := by decide +kernel
theorem dX11_init_94 : decode cX11_init 94 = .ok (.new 45, 3) := by decide +kernel
theorem dX11_init_97 : decode cX11_init 97 = .ok (.dup, 1) := by decide +kernel
theorem dX11_init_98 : decode cX11_init 98 = .ok (.invokespecial 47, 3) := by decide +kernel
theorem dX11_init_101 : decode cX11_init 101 = .ok (.putfield 48, 3) := by decide +kernel
theorem dX11_init_104 : decode cX11_init 104 = .ok (.aload_n 0, 1) := by decide +kernel
theorem dX11_init_105 : decode cX11_init 105 = .ok (.new 52, 3) := by decide +kernel
theorem dX11_init_108 : decode cX11_init 108 = .ok (.dup, 1) := by decide +kernel
theorem dX11_init_109 : decode cX11_init 109 = .ok (.invokespecial 54, 3) := by decide +kernel
theorem dX11_init_112 : decode cX11_init 112 = .ok (.putfield 55, 3) := by decide +kernel
theorem dX11_init_115 : decode cX11_init 115 = .ok (.aload_n 0, 1) := by decide +kernel
theorem dX11_init_116 : decode cX11_init 116 = .ok (.new 52, 3) := by decide +kernel
theorem dX11_init_119 : decode cX11_init 119 = .ok (.dup, 1) := by decide +kernel
theorem dX11_init_120 : decode cX11_init 120 = .ok (.invokespecial 54, 3) := by decide +kernel
theorem dX11_init_123 : decode cX11_init 123 = .ok (.putfield 59, 3) := by decide +kernel
theorem dX11_init_126 : decode cX11_init 126 = .ok (.aload_n 0, 1) := by decide +kernel
theorem dX11_init_127 : decode cX11_init 127 = .ok (.new 62, 3) := by decide +kernel
theorem dX11_init_130 : decode cX11_init 130 = .ok (.dup, 1) := by decide +kernel
theorem dX11_init_131 : decode cX11_init 131 = .ok (.invokespecial 64, 3) := by decide +kernel
theorem dX11_init_134 : decode cX11_init 134 = .ok (.putfield 65, 3) := by decide +kernel
theorem dX11_init_137 : decode cX11_init 137 = .ok (.aload_n 0, 1) := by decide +kernel
theorem dX11_init_138 : decode cX11_init 138 = .ok (.sipush 1000, 3) := by decide +kernel
theorem dX11_init_141 : decode cX11_init 141 = .ok (.newarray .int, 2) := by decide +kernel
theorem dX11_init_143 : decode cX11_init 143 = .ok (.putfield 69, 3) := by decide +kernel
theorem dX11_init_146 : decode cX11_init 146 = .ok (.return_, 1) := by decide +kernel
theorem dX11_trees_0 : decode cX11_trees 0 = .ok (.aload_n 0, 1) := by decide +kernel
theorem dX11_trees_1 : decode cX11_trees 1 = .ok (.getfield 10, 3) := by decide +kernel
theorem dX11_trees_4 : decode cX11_trees 4 = .ok (.iload_n 1, 1) := by decide +kernel
theorem dX11_trees_5 : decode cX11_trees 5 = .ok (.invokevirtual 121, 3) := by decide +kernel
theorem dX11_trees_8 : decode cX11_trees 8 = .ok (.astore_n 2, 1) := by decide +kernel
theorem dX11_trees_9 : decode cX11_trees 9 = .ok (.aload_n 2, 1) := by decide +kernel
theorem dX11_trees_10 : decode cX11_trees 10 = .ok (.ifnonnull 5, 3) := by decide +kernel
theorem dX11_trees_13 : decode cX11_trees 13 = .ok (.iconst (-1), 1) := by decide +kernel
theorem dX11_trees_14 : decode cX11_trees 14 = .ok (.ireturn, 1) := by decide +kernel
theorem dX11_trees_15 : decode cX11_trees 15 = .ok (.iload_n 1, 1) := by decide +kernel
theorem dX11_trees_16 : decode cX11_trees 16 = .ok (.ifCond .ne 10, 3) := by decide +kernel
theorem dX11_trees_19 : decode cX11_trees 19 = .ok (.aload_n 0, 1) := by decide +kernel
theorem dX11_trees_20 : decode cX11_trees 20 = .ok (.getfield 55, 3) := by decide +kernel
theorem dX11_trees_23 : decode cX11_trees 23 = .ok (.goto 7, 3) := by decide +kernel
theorem dX11_trees_26 : decode cX11_trees 26 = .ok (.aload_n 0, 1) := by decide +kernel
theorem dX11_trees_27 : decode cX11_trees 27 = .ok (.getfield 59, 3) := by decide +kernel
theorem dX11_trees_30 : decode cX11_trees 30 = .ok (.astore_n 3, 1) := by decide +kernel
theorem dX11_trees_31 : decode cX11_trees 31 = .ok (.aload_n 3, 1) := by decide +kernel
theorem dX11_trees_32 : decode cX11_trees 32 = .ok (.aload_n 2, 1) := by decide +kernel
theorem dX11_trees_33 : decode cX11_trees 33 = .ok (.invokevirtual 268, 3) := by decide +kernel
theorem dX11_trees_36 : decode cX11_trees 36 = .ok (.ireturn, 1) := by decide +kernel


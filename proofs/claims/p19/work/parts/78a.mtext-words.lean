theorem m_co_X12_postsAreThere : Cond.code yX12_postsAreThere cX12_postsAreThere 3 (some .boolean) ∈ zT := zmem1 zsub_6 213 rfl rfl
theorem m_ml_RX12_156 : Cond.methodLink RX12 156 yX12_postsAreThere ∈ zT := zmem1 zsub_6 210 rfl rfl
theorem m_im_X12_postsAreThere : Cond.instanceMethod yX12_postsAreThere ∈ zT := zmem1 zsub_6 212 rfl rfl
theorem m_se_X12_postsAreThere : Cond.selects RX12 yX12_postsAreThere yX12_postsAreThere ∈ zT := zmem 58 rfl rfl
theorem m_co_X12_sizeOf : Cond.code yX12_sizeOf cX12_sizeOf 1 (some .int) ∈ zT := zmem1 zsub_6 216 rfl rfl
theorem m_ml_RX12_160 : Cond.methodLink RX12 160 yX12_sizeOf ∈ zT := zmem1 zsub_6 214 rfl rfl
theorem m_st_X12_sizeOf : Cond.static yX12_sizeOf ∈ zT := zmem1 zsub_6 215 rfl rfl
theorem m_co_X12_placeOf : Cond.code yX12_placeOf cX12_placeOf 2 (some .int) ∈ zT := zmem1 zsub_6 219 rfl rfl
theorem m_ml_RX12_163 : Cond.methodLink RX12 163 yX12_placeOf ∈ zT := zmem1 zsub_6 217 rfl rfl
theorem m_st_X12_placeOf : Cond.static yX12_placeOf ∈ zT := zmem1 zsub_6 218 rfl rfl
theorem m_co_X12_landLine : Cond.code yX12_landLine cX12_landLine 4 none ∈ zT := zmem1 zsub_6 173 rfl rfl
theorem m_ml_RX12_147 : Cond.methodLink RX12 147 yX12_landLine ∈ zT := zmem1 zsub_6 170 rfl rfl
theorem m_im_X12_landLine : Cond.instanceMethod yX12_landLine ∈ zT := zmem1 zsub_6 172 rfl rfl
theorem m_se_X12_landLine : Cond.selects RX12 yX12_landLine yX12_landLine ∈ zT := zmem 48 rfl rfl
theorem m_co_X12_isOf : Cond.code yX12_isOf cX12_isOf 3 (some .boolean) ∈ zT := zmem1 zsub_6 143 rfl rfl
theorem m_ml_RX12_143 : Cond.methodLink RX12 143 yX12_isOf ∈ zT := zmem1 zsub_6 140 rfl rfl
theorem m_im_X12_isOf : Cond.instanceMethod yX12_isOf ∈ zT := zmem1 zsub_6 142 rfl rfl
theorem m_se_X12_isOf : Cond.selects RX12 yX12_isOf yX12_isOf ∈ zT := zmem 45 rfl rfl
theorem m_co_X12_dayLine : Cond.code yX12_dayLine cX12_dayLine 6 none ∈ zT := zmem1 zsub_6 205 rfl rfl
theorem m_ml_RX12_150 : Cond.methodLink RX12 150 yX12_dayLine ∈ zT := zmem1 zsub_6 202 rfl rfl
theorem m_im_X12_dayLine : Cond.instanceMethod yX12_dayLine ∈ zT := zmem1 zsub_6 204 rfl rfl
theorem m_se_X12_dayLine : Cond.selects RX12 yX12_dayLine yX12_dayLine ∈ zT := zmem 56 rfl rfl
theorem m_co_X12_logLine : Cond.code yX12_logLine cX12_logLine 5 none ∈ zT := zmem1 zsub_6 209 rfl rfl
theorem m_ml_RX12_153 : Cond.methodLink RX12 153 yX12_logLine ∈ zT := zmem1 zsub_6 206 rfl rfl
theorem m_im_X12_logLine : Cond.instanceMethod yX12_logLine ∈ zT := zmem1 zsub_6 208 rfl rfl
theorem m_se_X12_logLine : Cond.selects RX12 yX12_logLine yX12_logLine ∈ zT := zmem 57 rfl rfl
theorem kV_RX12_156 {R : Room} {s : State} {args : Array Value} {d mc ms : Nat} (hts : ∀ w ∈ zT, w.before args s = true) (h1 : d + 1 ≤ R.frames) (h2 : 8 + (3 + 11) + 40 * d ≤ R.locals) : CallW R s args RX12 RX12 156 yX12_postsAreThere cX12_postsAreThere 3 (some .boolean) (zW yX12_postsAreThere cX12_postsAreThere 3 (some .boolean)) (zR d mc ms) mc ms 0 := z_cwV hts m_co_X12_postsAreThere m_ml_RX12_156 m_im_X12_postsAreThere m_se_X12_postsAreThere m_ii_RX12 (by decide +kernel) h1 h2
theorem kS_RX12_160 {R : Room} {s : State} {args : Array Value} {d mc ms : Nat} (hts : ∀ w ∈ zT, w.before args s = true) (h1 : d + 1 ≤ R.frames) (h2 : 8 + (1 + 11) + 40 * d ≤ R.locals) : CallB R s args RX12 160 yX12_sizeOf cX12_sizeOf 1 (some .int) (zW yX12_sizeOf cX12_sizeOf 1 (some .int)) (zR d mc ms) mc ms 1 ∧ (Cond.static yX12_sizeOf).before args s = true := z_cwS hts m_co_X12_sizeOf m_ml_RX12_160 m_st_X12_sizeOf m_ii_RX12 (by decide +kernel) h1 h2
theorem kS_RX12_163 {R : Room} {s : State} {args : Array Value} {d mc ms : Nat} (hts : ∀ w ∈ zT, w.before args s = true) (h1 : d + 1 ≤ R.frames) (h2 : 8 + (2 + 11) + 40 * d ≤ R.locals) : CallB R s args RX12 163 yX12_placeOf cX12_placeOf 2 (some .int) (zW yX12_placeOf cX12_placeOf 2 (some .int)) (zR d mc ms) mc ms 2 ∧ (Cond.static yX12_placeOf).before args s = true := z_cwS hts m_co_X12_placeOf m_ml_RX12_163 m_st_X12_placeOf m_ii_RX12 (by decide +kernel) h1 h2
theorem kV_RX12_147 {R : Room} {s : State} {args : Array Value} {d mc ms : Nat} (hts : ∀ w ∈ zT, w.before args s = true) (h1 : d + 1 ≤ R.frames) (h2 : 8 + (4 + 11) + 40 * d ≤ R.locals) : CallW R s args RX12 RX12 147 yX12_landLine cX12_landLine 4 none (zW yX12_landLine cX12_landLine 4 none) (zR d mc ms) mc ms 0 := z_cwV hts m_co_X12_landLine m_ml_RX12_147 m_im_X12_landLine m_se_X12_landLine m_ii_RX12 (by decide +kernel) h1 h2
theorem kV_RX12_143 {R : Room} {s : State} {args : Array Value} {d mc ms : Nat} (hts : ∀ w ∈ zT, w.before args s = true) (h1 : d + 1 ≤ R.frames) (h2 : 8 + (3 + 11) + 40 * d ≤ R.locals) : CallW R s args RX12 RX12 143 yX12_isOf cX12_isOf 3 (some .boolean) (zW yX12_isOf cX12_isOf 3 (some .boolean)) (zR d mc ms) mc ms 2 := z_cwV hts m_co_X12_isOf m_ml_RX12_143 m_im_X12_isOf m_se_X12_isOf m_ii_RX12 (by decide +kernel) h1 h2
theorem kV_RX12_150 {R : Room} {s : State} {args : Array Value} {d mc ms : Nat} (hts : ∀ w ∈ zT, w.before args s = true) (h1 : d + 1 ≤ R.frames) (h2 : 8 + (6 + 11) + 40 * d ≤ R.locals) : CallW R s args RX12 RX12 150 yX12_dayLine cX12_dayLine 6 none (zW yX12_dayLine cX12_dayLine 6 none) (zR d mc ms) mc ms 0 := z_cwV hts m_co_X12_dayLine m_ml_RX12_150 m_im_X12_dayLine m_se_X12_dayLine m_ii_RX12 (by decide +kernel) h1 h2
theorem kV_RX12_153 {R : Room} {s : State} {args : Array Value} {d mc ms : Nat} (hts : ∀ w ∈ zT, w.before args s = true) (h1 : d + 1 ≤ R.frames) (h2 : 8 + (5 + 11) + 40 * d ≤ R.locals) : CallW R s args RX12 RX12 153 yX12_logLine cX12_logLine 5 none (zW yX12_logLine cX12_logLine 5 none) (zR d mc ms) mc ms 0 := z_cwV hts m_co_X12_logLine m_ml_RX12_153 m_im_X12_logLine m_se_X12_logLine m_ii_RX12 (by decide +kernel) h1 h2
theorem dX12_text_0 : decode cX12_text 0 = .ok (.aload_n 0, 1) := zo_42 (by decide +kernel)
theorem dX12_text_1 : decode cX12_text 1 = .ok (.aload_n 0, 1) := zo_42 (by decide +kernel)
theorem dX12_text_2 : decode cX12_text 2 = .ok (.getfield 7, 3) := zo_180 (by decide +kernel)
theorem dX12_text_5 : decode cX12_text 5 = .ok (.iconst 4, 1) := zo_7 (by decide +kernel)
theorem dX12_text_6 : decode cX12_text 6 = .ok (.iaload, 1) := zo_46 (by decide +kernel)
theorem dX12_text_7 : decode cX12_text 7 = .ok (.putfield 56, 3) := zo_181 (by decide +kernel)
theorem dX12_text_10 : decode cX12_text 10 = .ok (.aload_n 0, 1) := zo_42 (by decide +kernel)
theorem dX12_text_11 : decode cX12_text 11 = .ok (.getfield 7, 3) := zo_180 (by decide +kernel)
theorem dX12_text_14 : decode cX12_text 14 = .ok (.iconst 4, 1) := zo_7 (by decide +kernel)
theorem dX12_text_15 : decode cX12_text 15 = .ok (.iconst 0, 1) := zo_3 (by decide +kernel)
theorem dX12_text_16 : decode cX12_text 16 = .ok (.iastore, 1) := zo_79 (by decide +kernel)
theorem dX12_text_17 : decode cX12_text 17 = .ok (.aload_n 0, 1) := zo_42 (by decide +kernel)
theorem dX12_text_18 : decode cX12_text 18 = .ok (.getfield 7, 3) := zo_180 (by decide +kernel)
theorem dX12_text_21 : decode cX12_text 21 = .ok (.iconst 5, 1) := zo_8 (by decide +kernel)
theorem dX12_text_22 : decode cX12_text 22 = .ok (.iconst 0, 1) := zo_3 (by decide +kernel)
theorem dX12_text_23 : decode cX12_text 23 = .ok (.iastore, 1) := zo_79 (by decide +kernel)
theorem dX12_text_24 : decode cX12_text 24 = .ok (.aload_n 0, 1) := zo_42 (by decide +kernel)
theorem dX12_text_25 : decode cX12_text 25 = .ok (.getfield 7, 3) := zo_180 (by decide +kernel)
theorem dX12_text_28 : decode cX12_text 28 = .ok (.bipush 6, 2) := zo_16 (by decide +kernel)
theorem dX12_text_30 : decode cX12_text 30 = .ok (.iconst (-1), 1) := zo_2 (by decide +kernel)
theorem dX12_text_31 : decode cX12_text 31 = .ok (.iastore, 1) := zo_79 (by decide +kernel)
theorem dX12_text_32 : decode cX12_text 32 = .ok (.iload_n 1, 1) := zo_27 (by decide +kernel)
theorem dX12_text_33 : decode cX12_text 33 = .ok (.iconst 0, 1) := zo_3 (by decide +kernel)
theorem dX12_text_34 : decode cX12_text 34 = .ok (.iconst 2, 1) := zo_5 (by decide +kernel)
theorem dX12_text_35 : decode cX12_text 35 = .ok (.invokestatic 111, 3) := zo_184 (by decide +kernel)
theorem dX12_text_38 : decode cX12_text 38 = .ok (.ifCond .eq 30, 3) := zo_153 (by decide +kernel)
theorem dX12_text_41 : decode cX12_text 41 = .ok (.iload_n 2, 1) := zo_28 (by decide +kernel)
theorem dX12_text_42 : decode cX12_text 42 = .ok (.iconst (-1), 1) := zo_2 (by decide +kernel)
theorem dX12_text_43 : decode cX12_text 43 = .ok (.if_icmp .ne 16, 3) := zo_160 (by decide +kernel)
theorem dX12_text_46 : decode cX12_text 46 = .ok (.aload_n 0, 1) := zo_42 (by decide +kernel)
theorem dX12_text_47 : decode cX12_text 47 = .ok (.getfield 7, 3) := zo_180 (by decide +kernel)
theorem dX12_text_50 : decode cX12_text 50 = .ok (.iload_n 1, 1) := zo_27 (by decide +kernel)
theorem dX12_text_51 : decode cX12_text 51 = .ok (.iaload, 1) := zo_46 (by decide +kernel)
theorem dX12_text_52 : decode cX12_text 52 = .ok (.iconst 2, 1) := zo_5 (by decide +kernel)
theorem dX12_text_53 : decode cX12_text 53 = .ok (.if_icmp .lt 18, 3) := zo_161 (by decide +kernel)
theorem dX12_text_56 : decode cX12_text 56 = .ok (.goto 12, 3) := zo_167 (by decide +kernel)
theorem dX12_text_59 : decode cX12_text 59 = .ok (.aload_n 0, 1) := zo_42 (by decide +kernel)
theorem dX12_text_60 : decode cX12_text 60 = .ok (.iload_n 1, 1) := zo_27 (by decide +kernel)
theorem dX12_text_61 : decode cX12_text 61 = .ok (.iload_n 2, 1) := zo_28 (by decide +kernel)
theorem dX12_text_62 : decode cX12_text 62 = .ok (.invokevirtual 143, 3) := zo_182 (by decide +kernel)
theorem dX12_text_65 : decode cX12_text 65 = .ok (.ifCond .ne 6, 3) := zo_154 (by decide +kernel)
theorem dX12_text_68 : decode cX12_text 68 = .ok (.bipush (-2), 2) := zo_16 (by decide +kernel)
theorem dX12_text_70 : decode cX12_text 70 = .ok (.ireturn, 1) := zo_172 (by decide +kernel)
theorem dX12_text_71 : decode cX12_text 71 = .ok (.aload_n 0, 1) := zo_42 (by decide +kernel)
theorem dX12_text_72 : decode cX12_text 72 = .ok (.iconst 0, 1) := zo_3 (by decide +kernel)
theorem dX12_text_73 : decode cX12_text 73 = .ok (.putfield 70, 3) := zo_181 (by decide +kernel)
theorem dX12_text_76 : decode cX12_text 76 = .ok (.aload_n 0, 1) := zo_42 (by decide +kernel)
theorem dX12_text_77 : decode cX12_text 77 = .ok (.iconst 0, 1) := zo_3 (by decide +kernel)
theorem dX12_text_78 : decode cX12_text 78 = .ok (.putfield 104, 3) := zo_181 (by decide +kernel)
theorem dX12_text_81 : decode cX12_text 81 = .ok (.aload_n 0, 1) := zo_42 (by decide +kernel)
theorem dX12_text_82 : decode cX12_text 82 = .ok (.iconst (-1), 1) := zo_2 (by decide +kernel)
theorem dX12_text_83 : decode cX12_text 83 = .ok (.putfield 126, 3) := zo_181 (by decide +kernel)
theorem dX12_text_86 : decode cX12_text 86 = .ok (.iconst 0, 1) := zo_3 (by decide +kernel)
theorem dX12_text_87 : decode cX12_text 87 = .ok (.istore_n 3, 1) := zo_62 (by decide +kernel)
theorem dX12_text_88 : decode cX12_text 88 = .ok (.iload_n 3, 1) := zo_29 (by decide +kernel)
theorem dX12_text_89 : decode cX12_text 89 = .ok (.bipush 121, 2) := zo_16 (by decide +kernel)
theorem dX12_text_91 : decode cX12_text 91 = .ok (.if_icmp .ge 16, 3) := zo_162 (by decide +kernel)
theorem dX12_text_94 : decode cX12_text 94 = .ok (.aload_n 0, 1) := zo_42 (by decide +kernel)
theorem dX12_text_95 : decode cX12_text 95 = .ok (.getfield 17, 3) := zo_180 (by decide +kernel)
theorem dX12_text_98 : decode cX12_text 98 = .ok (.iload_n 3, 1) := zo_29 (by decide +kernel)
theorem dX12_text_99 : decode cX12_text 99 = .ok (.iconst 0, 1) := zo_3 (by decide +kernel)
theorem dX12_text_100 : decode cX12_text 100 = .ok (.iastore, 1) := zo_79 (by decide +kernel)
theorem dX12_text_101 : decode cX12_text 101 = .ok (.iinc 3 1, 3) := zo_132 (by decide +kernel)
theorem dX12_text_104 : decode cX12_text 104 = .ok (.goto (-16), 3) := zo_167 (by decide +kernel)
theorem dX12_text_107 : decode cX12_text 107 = .ok (.aload_n 0, 1) := zo_42 (by decide +kernel)
theorem dX12_text_108 : decode cX12_text 108 = .ok (.invokevirtual 119, 3) := zo_182 (by decide +kernel)
theorem dX12_text_111 : decode cX12_text 111 = .ok (.aload_n 0, 1) := zo_42 (by decide +kernel)
theorem dX12_text_112 : decode cX12_text 112 = .ok (.getfield 104, 3) := zo_180 (by decide +kernel)
theorem dX12_text_115 : decode cX12_text 115 = .ok (.ifCond .ne 58, 3) := zo_154 (by decide +kernel)
theorem dX12_text_118 : decode cX12_text 118 = .ok (.aload_n 0, 1) := zo_42 (by decide +kernel)
theorem dX12_text_119 : decode cX12_text 119 = .ok (.getfield 80, 3) := zo_180 (by decide +kernel)
theorem dX12_text_122 : decode cX12_text 122 = .ok (.ifCond .eq 51, 3) := zo_153 (by decide +kernel)
theorem dX12_text_125 : decode cX12_text 125 = .ok (.iload_n 1, 1) := zo_27 (by decide +kernel)
theorem dX12_text_126 : decode cX12_text 126 = .ok (.lookupswitch 40 #[(0, 26), (1, 33)], 26) := by decide +kernel
theorem dX12_text_152 : decode cX12_text 152 = .ok (.aload_n 0, 1) := zo_42 (by decide +kernel)
theorem dX12_text_153 : decode cX12_text 153 = .ok (.invokevirtual 147, 3) := zo_182 (by decide +kernel)
theorem dX12_text_156 : decode cX12_text 156 = .ok (.goto (-45), 3) := zo_167 (by decide +kernel)
theorem dX12_text_159 : decode cX12_text 159 = .ok (.aload_n 0, 1) := zo_42 (by decide +kernel)
theorem dX12_text_160 : decode cX12_text 160 = .ok (.invokevirtual 150, 3) := zo_182 (by decide +kernel)
theorem dX12_text_163 : decode cX12_text 163 = .ok (.goto (-52), 3) := zo_167 (by decide +kernel)
theorem dX12_text_166 : decode cX12_text 166 = .ok (.aload_n 0, 1) := zo_42 (by decide +kernel)
theorem dX12_text_167 : decode cX12_text 167 = .ok (.invokevirtual 153, 3) := zo_182 (by decide +kernel)
theorem dX12_text_170 : decode cX12_text 170 = .ok (.goto (-59), 3) := zo_167 (by decide +kernel)
theorem dX12_text_173 : decode cX12_text 173 = .ok (.iload_n 1, 1) := zo_27 (by decide +kernel)
theorem dX12_text_174 : decode cX12_text 174 = .ok (.ifCond .ne 34, 3) := zo_154 (by decide +kernel)
theorem dX12_text_177 : decode cX12_text 177 = .ok (.aload_n 0, 1) := zo_42 (by decide +kernel)
theorem dX12_text_178 : decode cX12_text 178 = .ok (.getfield 7, 3) := zo_180 (by decide +kernel)
theorem dX12_text_181 : decode cX12_text 181 = .ok (.iconst 5, 1) := zo_8 (by decide +kernel)
theorem dX12_text_182 : decode cX12_text 182 = .ok (.iaload, 1) := zo_46 (by decide +kernel)
theorem dX12_text_183 : decode cX12_text 183 = .ok (.ifCond .ne 25, 3) := zo_154 (by decide +kernel)
theorem dX12_text_186 : decode cX12_text 186 = .ok (.aload_n 0, 1) := zo_42 (by decide +kernel)
theorem dX12_text_187 : decode cX12_text 187 = .ok (.getfield 126, 3) := zo_180 (by decide +kernel)
theorem dX12_text_190 : decode cX12_text 190 = .ok (.aload_n 0, 1) := zo_42 (by decide +kernel)
theorem dX12_text_191 : decode cX12_text 191 = .ok (.getfield 17, 3) := zo_180 (by decide +kernel)
theorem dX12_text_194 : decode cX12_text 194 = .ok (.iconst 0, 1) := zo_3 (by decide +kernel)
theorem dX12_text_195 : decode cX12_text 195 = .ok (.iaload, 1) := zo_46 (by decide +kernel)
theorem dX12_text_196 : decode cX12_text 196 = .ok (.if_icmp .lt 12, 3) := zo_161 (by decide +kernel)
theorem dX12_text_199 : decode cX12_text 199 = .ok (.aload_n 0, 1) := zo_42 (by decide +kernel)
theorem dX12_text_200 : decode cX12_text 200 = .ok (.iconst 4, 1) := zo_7 (by decide +kernel)
theorem dX12_text_201 : decode cX12_text 201 = .ok (.aload_n 0, 1) := zo_42 (by decide +kernel)
theorem dX12_text_202 : decode cX12_text 202 = .ok (.getfield 77, 3) := zo_180 (by decide +kernel)
theorem dX12_text_205 : decode cX12_text 205 = .ok (.invokevirtual 115, 3) := zo_182 (by decide +kernel)
theorem dX12_text_208 : decode cX12_text 208 = .ok (.iload_n 1, 1) := zo_27 (by decide +kernel)
theorem dX12_text_209 : decode cX12_text 209 = .ok (.ifCond .ne 28, 3) := zo_154 (by decide +kernel)
theorem dX12_text_212 : decode cX12_text 212 = .ok (.aload_n 0, 1) := zo_42 (by decide +kernel)
theorem dX12_text_213 : decode cX12_text 213 = .ok (.getfield 7, 3) := zo_180 (by decide +kernel)
theorem dX12_text_216 : decode cX12_text 216 = .ok (.iconst 5, 1) := zo_8 (by decide +kernel)
theorem dX12_text_217 : decode cX12_text 217 = .ok (.iaload, 1) := zo_46 (by decide +kernel)
theorem dX12_text_218 : decode cX12_text 218 = .ok (.ifCond .ne 19, 3) := zo_154 (by decide +kernel)
theorem dX12_text_221 : decode cX12_text 221 = .ok (.aload_n 0, 1) := zo_42 (by decide +kernel)
theorem dX12_text_222 : decode cX12_text 222 = .ok (.invokevirtual 156, 3) := zo_182 (by decide +kernel)
theorem dX12_text_225 : decode cX12_text 225 = .ok (.ifCond .ne 12, 3) := zo_154 (by decide +kernel)
theorem dX12_text_228 : decode cX12_text 228 = .ok (.aload_n 0, 1) := zo_42 (by decide +kernel)
theorem dX12_text_229 : decode cX12_text 229 = .ok (.iconst 5, 1) := zo_8 (by decide +kernel)
theorem dX12_text_230 : decode cX12_text 230 = .ok (.aload_n 0, 1) := zo_42 (by decide +kernel)
theorem dX12_text_231 : decode cX12_text 231 = .ok (.getfield 77, 3) := zo_180 (by decide +kernel)
theorem dX12_text_234 : decode cX12_text 234 = .ok (.invokevirtual 115, 3) := zo_182 (by decide +kernel)
theorem dX12_text_237 : decode cX12_text 237 = .ok (.aload_n 0, 1) := zo_42 (by decide +kernel)
theorem dX12_text_238 : decode cX12_text 238 = .ok (.getfield 7, 3) := zo_180 (by decide +kernel)
theorem dX12_text_241 : decode cX12_text 241 = .ok (.iconst 5, 1) := zo_8 (by decide +kernel)
theorem dX12_text_242 : decode cX12_text 242 = .ok (.iaload, 1) := zo_46 (by decide +kernel)
theorem dX12_text_243 : decode cX12_text 243 = .ok (.ifCond .eq 5, 3) := zo_153 (by decide +kernel)
theorem dX12_text_246 : decode cX12_text 246 = .ok (.iconst (-1), 1) := zo_2 (by decide +kernel)
theorem dX12_text_247 : decode cX12_text 247 = .ok (.ireturn, 1) := zo_172 (by decide +kernel)
theorem dX12_text_248 : decode cX12_text 248 = .ok (.iload_n 2, 1) := zo_28 (by decide +kernel)
theorem dX12_text_249 : decode cX12_text 249 = .ok (.iconst (-1), 1) := zo_2 (by decide +kernel)
theorem dX12_text_250 : decode cX12_text 250 = .ok (.if_icmp .ne 12, 3) := zo_160 (by decide +kernel)
theorem dX12_text_253 : decode cX12_text 253 = .ok (.aload_n 0, 1) := zo_42 (by decide +kernel)
theorem dX12_text_254 : decode cX12_text 254 = .ok (.getfield 7, 3) := zo_180 (by decide +kernel)
theorem dX12_text_257 : decode cX12_text 257 = .ok (.iload_n 1, 1) := zo_27 (by decide +kernel)
theorem dX12_text_258 : decode cX12_text 258 = .ok (.iaload, 1) := zo_46 (by decide +kernel)
theorem dX12_text_259 : decode cX12_text 259 = .ok (.goto 4, 3) := zo_167 (by decide +kernel)
theorem dX12_text_262 : decode cX12_text 262 = .ok (.iload_n 2, 1) := zo_28 (by decide +kernel)
theorem dX12_text_263 : decode cX12_text 263 = .ok (.istore_n 3, 1) := zo_62 (by decide +kernel)
theorem dX12_text_264 : decode cX12_text 264 = .ok (.iload_n 2, 1) := zo_28 (by decide +kernel)
theorem dX12_text_265 : decode cX12_text 265 = .ok (.iconst (-1), 1) := zo_2 (by decide +kernel)
theorem dX12_text_266 : decode cX12_text 266 = .ok (.if_icmp .ne 13, 3) := zo_160 (by decide +kernel)
theorem dX12_text_269 : decode cX12_text 269 = .ok (.aload_n 0, 1) := zo_42 (by decide +kernel)
theorem dX12_text_270 : decode cX12_text 270 = .ok (.getfield 7, 3) := zo_180 (by decide +kernel)
theorem dX12_text_273 : decode cX12_text 273 = .ok (.iload_n 1, 1) := zo_27 (by decide +kernel)
theorem dX12_text_274 : decode cX12_text 274 = .ok (.dup2, 1) := zo_92 (by decide +kernel)
theorem dX12_text_275 : decode cX12_text 275 = .ok (.iaload, 1) := zo_46 (by decide +kernel)
theorem dX12_text_276 : decode cX12_text 276 = .ok (.iconst 1, 1) := zo_4 (by decide +kernel)
theorem dX12_text_277 : decode cX12_text 277 = .ok (.iadd, 1) := zo_96 (by decide +kernel)
theorem dX12_text_278 : decode cX12_text 278 = .ok (.iastore, 1) := zo_79 (by decide +kernel)
theorem dX12_text_279 : decode cX12_text 279 = .ok (.iconst 0, 1) := zo_3 (by decide +kernel)
theorem dX12_text_280 : decode cX12_text 280 = .ok (.istore 4, 2) := zo_54 (by decide +kernel)
theorem dX12_text_282 : decode cX12_text 282 = .ok (.iload 4, 2) := zo_21 (by decide +kernel)
theorem dX12_text_284 : decode cX12_text 284 = .ok (.iload_n 1, 1) := zo_27 (by decide +kernel)
theorem dX12_text_285 : decode cX12_text 285 = .ok (.invokestatic 160, 3) := zo_184 (by decide +kernel)
theorem dX12_text_288 : decode cX12_text 288 = .ok (.if_icmp .ge 29, 3) := zo_162 (by decide +kernel)
theorem dX12_text_291 : decode cX12_text 291 = .ok (.aload_n 0, 1) := zo_42 (by decide +kernel)
theorem dX12_text_292 : decode cX12_text 292 = .ok (.getfield 7, 3) := zo_180 (by decide +kernel)
theorem dX12_text_295 : decode cX12_text 295 = .ok (.iload_n 1, 1) := zo_27 (by decide +kernel)
theorem dX12_text_296 : decode cX12_text 296 = .ok (.iload_n 3, 1) := zo_29 (by decide +kernel)
theorem dX12_text_297 : decode cX12_text 297 = .ok (.invokestatic 163, 3) := zo_184 (by decide +kernel)
theorem dX12_text_300 : decode cX12_text 300 = .ok (.iload 4, 2) := zo_21 (by decide +kernel)
theorem dX12_text_302 : decode cX12_text 302 = .ok (.iadd, 1) := zo_96 (by decide +kernel)
theorem dX12_text_303 : decode cX12_text 303 = .ok (.aload_n 0, 1) := zo_42 (by decide +kernel)
theorem dX12_text_304 : decode cX12_text 304 = .ok (.getfield 17, 3) := zo_180 (by decide +kernel)
theorem dX12_text_307 : decode cX12_text 307 = .ok (.iload 4, 2) := zo_21 (by decide +kernel)
theorem dX12_text_309 : decode cX12_text 309 = .ok (.iaload, 1) := zo_46 (by decide +kernel)
theorem dX12_text_310 : decode cX12_text 310 = .ok (.iastore, 1) := zo_79 (by decide +kernel)
theorem dX12_text_311 : decode cX12_text 311 = .ok (.iinc 4 1, 3) := zo_132 (by decide +kernel)
theorem dX12_text_314 : decode cX12_text 314 = .ok (.goto (-32), 3) := zo_167 (by decide +kernel)
theorem dX12_text_317 : decode cX12_text 317 = .ok (.iload_n 3, 1) := zo_29 (by decide +kernel)
theorem dX12_text_318 : decode cX12_text 318 = .ok (.ireturn, 1) := zo_172 (by decide +kernel)
def zBI (f : Nat → Int32) : Prop := (0 ≤ (f 4).toInt ∧ (f 4).toInt ≤ 600) ∧ (∀ q, q < 3 → 0 ≤ (f q).toInt ∧ (f q).toInt ≤ 2) ∧ (∀ k, k < 2 → zLF (fun j => f (610 + 51 * k + j))) ∧ (∀ k, k < 2 → zCF 40 (fun j => f (712 + 121 * k + j))) ∧ ∀ k, k < 2 → zCF 8 (fun j => f (954 + 17 * k + j))
theorem zLF_cg {f g : Nat → Int32} (e : ∀ j, j < 51 → g j = f j) (h : zLF f) : zLF g := by
  refine ⟨by rw [e 0 (by decide)]; exact h.1, fun c hc => ?_, fun j hj => ?_⟩
  · rw [e _ (by omega), e _ (by omega), e _ (by omega)]; exact h.2.1 c hc
  · rw [e _ (by omega)]; exact h.2.2 j hj
theorem zCF_cg {m : Int} {f g : Nat → Int32} (e : g 0 = f 0) (h : zCF m f) : zCF m g := by unfold zCF; rw [e]; exact h
theorem zLF_z {f : Nat → Int32} (h : ∀ j, j < 121 → f j = 0) : zLF f := by
  refine ⟨by rw [h 0 (by decide)]; decide, fun c hc => ?_, fun j hj => ?_⟩
  · rw [h _ (by omega), h _ (by omega), h _ (by omega)]; decide
  · rw [h _ (by omega)]; decide
theorem zCF_z {m : Int} (hm : 0 ≤ m) {f : Nat → Int32} (h : ∀ j, j < 121 → f j = 0) : zCF m f := by
  unfold zCF
  rw [h 0 (by decide)]
  exact ⟨by decide, hm⟩
theorem zBI_hd {f g : Nat → Int32} (h : zBI f) (h4 : g 4 = 0) (hq : ∀ q, q < 3 → 0 ≤ (g q).toInt ∧ (g q).toInt ≤ 2) (ho : ∀ j, 7 ≤ j → g j = f j) : zBI g :=
  ⟨by rw [h4]; decide, hq, fun k hk => zLF_cg (fun j _ => ho _ (by omega)) (h.2.2.1 k hk), fun k hk => zCF_cg (ho _ (by omega)) (h.2.2.2.1 k hk), fun k hk => zCF_cg (ho _ (by omega)) (h.2.2.2.2 k hk)⟩
theorem zBI_p0 {f g r : Nat → Int32} (k : Nat) (hk : k < 2) (h : zBI f) (h4 : g 4 = 0) (hq : ∀ q, q < 3 → 0 ≤ (g q).toInt ∧ (g q).toInt ≤ 2) (ho : ∀ j, 7 ≤ j → (j < 610 + 51 * k ∨ 610 + 51 * k + 51 ≤ j) → g j = f j) (hr : zLF r) (hc : ∀ j, j < 51 → g (610 + 51 * k + j) = r j) : zBI g := by
  refine ⟨by rw [h4]; decide, hq, fun a ha => ?_, fun a ha => zCF_cg (ho _ (by omega) (by omega)) (h.2.2.2.1 a ha), fun a ha => zCF_cg (ho _ (by omega) (by omega)) (h.2.2.2.2 a ha)⟩
  by_cases e : a = k
  · subst e
    exact zLF_cg (f := r) hc hr
  · exact zLF_cg (fun j hj => ho _ (by omega) (by omega)) (h.2.2.1 a ha)
theorem zBI_p1 {f g r : Nat → Int32} (k : Nat) (hk : k < 2) (h : zBI f) (h4 : g 4 = 0) (hq : ∀ q, q < 3 → 0 ≤ (g q).toInt ∧ (g q).toInt ≤ 2) (ho : ∀ j, 7 ≤ j → (j < 712 + 121 * k ∨ 712 + 121 * k + 121 ≤ j) → g j = f j) (hr : zCF 40 r) (hc : ∀ j, j < 121 → g (712 + 121 * k + j) = r j) : zBI g := by
  refine ⟨by rw [h4]; decide, hq, fun a ha => zLF_cg (fun j hj => ho _ (by omega) (by omega)) (h.2.2.1 a ha), fun a ha => ?_, fun a ha => zCF_cg (ho _ (by omega) (by omega)) (h.2.2.2.2 a ha)⟩
  by_cases e : a = k
  · subst e
    exact zCF_cg (f := r) (hc 0 (by decide)) hr
  · exact zCF_cg (ho _ (by omega) (by omega)) (h.2.2.2.1 a ha)
theorem zBI_p2 {f g r : Nat → Int32} (k : Nat) (hk : k < 2) (h : zBI f) (h4 : g 4 = 0) (hq : ∀ q, q < 3 → 0 ≤ (g q).toInt ∧ (g q).toInt ≤ 2) (ho : ∀ j, 7 ≤ j → (j < 954 + 17 * k ∨ 954 + 17 * k + 17 ≤ j) → g j = f j) (hr : zCF 8 r) (hc : ∀ j, j < 17 → g (954 + 17 * k + j) = r j) : zBI g := by
  refine ⟨by rw [h4]; decide, hq, fun a ha => zLF_cg (fun j hj => ho _ (by omega) (by omega)) (h.2.2.1 a ha), fun a ha => zCF_cg (ho _ (by omega) (by omega)) (h.2.2.2.1 a ha), fun a ha => ?_⟩
  by_cases e : a = k
  · subst e
    exact zCF_cg (f := r) (hc 0 (by decide)) hr
  · exact zCF_cg (ho _ (by omega) (by omega)) (h.2.2.2.2 a ha)
theorem m_fl_RX12_166 : Cond.fieldLink RX12 166 (TX12 11).1 (TX12 11).2.1 (TX12 11).2.2.1 ∈ zT := zmem1 zsub_6 6 rfl rfl
theorem m_fl_RX12_169 : Cond.fieldLink RX12 169 (TX12 12).1 (TX12 12).2.1 (TX12 12).2.2.1 ∈ zT := zmem1 zsub_6 7 rfl rfl
theorem m_fl_RX12_172 : Cond.fieldLink RX12 172 (TX12 13).1 (TX12 13).2.1 (TX12 13).2.2.1 ∈ zT := zmem1 zsub_6 8 rfl rfl
theorem m_co_X12_isInn : Cond.code yX12_isInn cX12_isInn 2 (some .boolean) ∈ zT := zmem1 zsub_7 31 rfl rfl
theorem m_ml_RX12_178 : Cond.methodLink RX12 178 yX12_isInn ∈ zT := zmem1 zsub_7 28 rfl rfl
theorem m_im_X12_isInn : Cond.instanceMethod yX12_isInn ∈ zT := zmem1 zsub_7 30 rfl rfl
theorem m_se_X12_isInn : Cond.selects RX12 yX12_isInn yX12_isInn ∈ zT := zmem 68 rfl rfl
theorem m_co_X12_roadsOf : Cond.code yX12_roadsOf cX12_roadsOf 2 (some .int) ∈ zT := zmem1 zsub_7 7 rfl rfl
theorem m_ml_RX12_181 : Cond.methodLink RX12 181 yX12_roadsOf ∈ zT := zmem1 zsub_7 4 rfl rfl
theorem m_im_X12_roadsOf : Cond.instanceMethod yX12_roadsOf ∈ zT := zmem1 zsub_7 6 rfl rfl
theorem m_se_X12_roadsOf : Cond.selects RX12 yX12_roadsOf yX12_roadsOf ∈ zT := zmem 63 rfl rfl
theorem kV_RX12_178 {R : Room} {s : State} {args : Array Value} {d mc ms : Nat} (hts : ∀ w ∈ zT, w.before args s = true) (h1 : d + 1 ≤ R.frames) (h2 : 8 + (2 + 11) + 40 * d ≤ R.locals) : CallW R s args RX12 RX12 178 yX12_isInn cX12_isInn 2 (some .boolean) (zW yX12_isInn cX12_isInn 2 (some .boolean)) (zR d mc ms) mc ms 1 := z_cwV hts m_co_X12_isInn m_ml_RX12_178 m_im_X12_isInn m_se_X12_isInn m_ii_RX12 (by decide +kernel) h1 h2
theorem kV_RX12_181 {R : Room} {s : State} {args : Array Value} {d mc ms : Nat} (hts : ∀ w ∈ zT, w.before args s = true) (h1 : d + 1 ≤ R.frames) (h2 : 8 + (2 + 11) + 40 * d ≤ R.locals) : CallW R s args RX12 RX12 181 yX12_roadsOf cX12_roadsOf 2 (some .int) (zW yX12_roadsOf cX12_roadsOf 2 (some .int)) (zR d mc ms) mc ms 1 := z_cwV hts m_co_X12_roadsOf m_ml_RX12_181 m_im_X12_roadsOf m_se_X12_roadsOf m_ii_RX12 (by decide +kernel) h1 h2
theorem dX12_roadsOf_0 : decode cX12_roadsOf 0 = .ok (.aload_n 0, 1) := zo_42 (by decide +kernel)
theorem dX12_roadsOf_1 : decode cX12_roadsOf 1 = .ok (.getfield 7, 3) := zo_180 (by decide +kernel)
theorem dX12_roadsOf_4 : decode cX12_roadsOf 4 = .ok (.aload_n 0, 1) := zo_42 (by decide +kernel)
theorem dX12_roadsOf_5 : decode cX12_roadsOf 5 = .ok (.getfield 166, 3) := zo_180 (by decide +kernel)
theorem dX12_roadsOf_8 : decode cX12_roadsOf 8 = .ok (.iconst 2, 1) := zo_5 (by decide +kernel)
theorem dX12_roadsOf_9 : decode cX12_roadsOf 9 = .ok (.iadd, 1) := zo_96 (by decide +kernel)
theorem dX12_roadsOf_10 : decode cX12_roadsOf 10 = .ok (.iload_n 1, 1) := zo_27 (by decide +kernel)
theorem dX12_roadsOf_11 : decode cX12_roadsOf 11 = .ok (.iadd, 1) := zo_96 (by decide +kernel)
theorem dX12_roadsOf_12 : decode cX12_roadsOf 12 = .ok (.iaload, 1) := zo_46 (by decide +kernel)
theorem dX12_roadsOf_13 : decode cX12_roadsOf 13 = .ok (.ireturn, 1) := zo_172 (by decide +kernel)
theorem dX12_postTold_0 : decode cX12_postTold 0 = .ok (.aload_n 0, 1) := zo_42 (by decide +kernel)
theorem dX12_postTold_1 : decode cX12_postTold 1 = .ok (.getfield 7, 3) := zo_180 (by decide +kernel)
theorem dX12_postTold_4 : decode cX12_postTold 4 = .ok (.aload_n 0, 1) := zo_42 (by decide +kernel)
theorem dX12_postTold_5 : decode cX12_postTold 5 = .ok (.getfield 166, 3) := zo_180 (by decide +kernel)
theorem dX12_postTold_8 : decode cX12_postTold 8 = .ok (.bipush 9, 2) := zo_16 (by decide +kernel)
theorem dX12_postTold_10 : decode cX12_postTold 10 = .ok (.iadd, 1) := zo_96 (by decide +kernel)
theorem dX12_postTold_11 : decode cX12_postTold 11 = .ok (.iload_n 1, 1) := zo_27 (by decide +kernel)
theorem dX12_postTold_12 : decode cX12_postTold 12 = .ok (.iadd, 1) := zo_96 (by decide +kernel)
theorem dX12_postTold_13 : decode cX12_postTold 13 = .ok (.iaload, 1) := zo_46 (by decide +kernel)
theorem dX12_postTold_14 : decode cX12_postTold 14 = .ok (.ireturn, 1) := zo_172 (by decide +kernel)
theorem dX12_leadsTo_0 : decode cX12_leadsTo 0 = .ok (.aload_n 0, 1) := zo_42 (by decide +kernel)
theorem dX12_leadsTo_1 : decode cX12_leadsTo 1 = .ok (.getfield 7, 3) := zo_180 (by decide +kernel)
theorem dX12_leadsTo_4 : decode cX12_leadsTo 4 = .ok (.aload_n 0, 1) := zo_42 (by decide +kernel)
theorem dX12_leadsTo_5 : decode cX12_leadsTo 5 = .ok (.getfield 166, 3) := zo_180 (by decide +kernel)
theorem dX12_leadsTo_8 : decode cX12_leadsTo 8 = .ok (.bipush 23, 2) := zo_16 (by decide +kernel)
theorem dX12_leadsTo_10 : decode cX12_leadsTo 10 = .ok (.iadd, 1) := zo_96 (by decide +kernel)
theorem dX12_leadsTo_11 : decode cX12_leadsTo 11 = .ok (.iconst 4, 1) := zo_7 (by decide +kernel)
theorem dX12_leadsTo_12 : decode cX12_leadsTo 12 = .ok (.iload_n 1, 1) := zo_27 (by decide +kernel)
theorem dX12_leadsTo_13 : decode cX12_leadsTo 13 = .ok (.imul, 1) := zo_104 (by decide +kernel)
theorem dX12_leadsTo_14 : decode cX12_leadsTo 14 = .ok (.iadd, 1) := zo_96 (by decide +kernel)
theorem dX12_leadsTo_15 : decode cX12_leadsTo 15 = .ok (.iload_n 2, 1) := zo_28 (by decide +kernel)
theorem dX12_leadsTo_16 : decode cX12_leadsTo 16 = .ok (.iadd, 1) := zo_96 (by decide +kernel)
theorem dX12_leadsTo_17 : decode cX12_leadsTo 17 = .ok (.iaload, 1) := zo_46 (by decide +kernel)
theorem dX12_leadsTo_18 : decode cX12_leadsTo 18 = .ok (.ireturn, 1) := zo_172 (by decide +kernel)
theorem dX12_isCrossing_0 : decode cX12_isCrossing 0 = .ok (.iload_n 1, 1) := zo_27 (by decide +kernel)
theorem dX12_isCrossing_1 : decode cX12_isCrossing 1 = .ok (.iconst 0, 1) := zo_3 (by decide +kernel)
theorem dX12_isCrossing_2 : decode cX12_isCrossing 2 = .ok (.aload_n 0, 1) := zo_42 (by decide +kernel)
theorem dX12_isCrossing_3 : decode cX12_isCrossing 3 = .ok (.getfield 169, 3) := zo_180 (by decide +kernel)
theorem dX12_isCrossing_6 : decode cX12_isCrossing 6 = .ok (.iconst 1, 1) := zo_4 (by decide +kernel)
theorem dX12_isCrossing_7 : decode cX12_isCrossing 7 = .ok (.isub, 1) := zo_100 (by decide +kernel)
theorem dX12_isCrossing_8 : decode cX12_isCrossing 8 = .ok (.invokestatic 111, 3) := zo_184 (by decide +kernel)
theorem dX12_isCrossing_11 : decode cX12_isCrossing 11 = .ok (.ireturn, 1) := zo_172 (by decide +kernel)
theorem dX12_isInn_0 : decode cX12_isInn 0 = .ok (.aload_n 0, 1) := zo_42 (by decide +kernel)
theorem dX12_isInn_1 : decode cX12_isInn 1 = .ok (.getfield 172, 3) := zo_180 (by decide +kernel)
theorem dX12_isInn_4 : decode cX12_isInn 4 = .ok (.iload_n 1, 1) := zo_27 (by decide +kernel)
theorem dX12_isInn_5 : decode cX12_isInn 5 = .ok (.ishr, 1) := zo_122 (by decide +kernel)
theorem dX12_isInn_6 : decode cX12_isInn 6 = .ok (.iconst 1, 1) := zo_4 (by decide +kernel)
theorem dX12_isInn_7 : decode cX12_isInn 7 = .ok (.iand, 1) := zo_126 (by decide +kernel)
theorem dX12_isInn_8 : decode cX12_isInn 8 = .ok (.iconst 1, 1) := zo_4 (by decide +kernel)
theorem dX12_isInn_9 : decode cX12_isInn 9 = .ok (.if_icmp .ne 7, 3) := zo_160 (by decide +kernel)
theorem dX12_isInn_12 : decode cX12_isInn 12 = .ok (.iconst 1, 1) := zo_4 (by decide +kernel)
theorem dX12_isInn_13 : decode cX12_isInn 13 = .ok (.goto 4, 3) := zo_167 (by decide +kernel)
theorem dX12_isInn_16 : decode cX12_isInn 16 = .ok (.iconst 0, 1) := zo_3 (by decide +kernel)
theorem dX12_isInn_17 : decode cX12_isInn 17 = .ok (.ireturn, 1) := zo_172 (by decide +kernel)
theorem dX12_isFree_0 : decode cX12_isFree 0 = .ok (.aload_n 0, 1) := zo_42 (by decide +kernel)
theorem dX12_isFree_1 : decode cX12_isFree 1 = .ok (.iload_n 1, 1) := zo_27 (by decide +kernel)
theorem dX12_isFree_2 : decode cX12_isFree 2 = .ok (.invokevirtual 178, 3) := zo_182 (by decide +kernel)
theorem dX12_isFree_5 : decode cX12_isFree 5 = .ok (.ifCond .ne 15, 3) := zo_154 (by decide +kernel)
theorem dX12_isFree_8 : decode cX12_isFree 8 = .ok (.aload_n 0, 1) := zo_42 (by decide +kernel)
theorem dX12_isFree_9 : decode cX12_isFree 9 = .ok (.iload_n 1, 1) := zo_27 (by decide +kernel)
theorem dX12_isFree_10 : decode cX12_isFree 10 = .ok (.invokevirtual 181, 3) := zo_182 (by decide +kernel)
theorem dX12_isFree_13 : decode cX12_isFree 13 = .ok (.ifCond .le 7, 3) := zo_158 (by decide +kernel)
theorem dX12_isFree_16 : decode cX12_isFree 16 = .ok (.iconst 1, 1) := zo_4 (by decide +kernel)
theorem dX12_isFree_17 : decode cX12_isFree 17 = .ok (.goto 4, 3) := zo_167 (by decide +kernel)
theorem dX12_isFree_20 : decode cX12_isFree 20 = .ok (.iconst 0, 1) := zo_3 (by decide +kernel)
theorem dX12_isFree_21 : decode cX12_isFree 21 = .ok (.ireturn, 1) := zo_172 (by decide +kernel)
def zML (f : Nat → Int32) (z cr : Int32) : Prop := (z.toInt = 610 ∨ z.toInt = 661) ∧ cr = f z.toInt.toNat ∧ zLF (fun j => f (z.toInt.toNat + j))
theorem zML.cr {f : Nat → Int32} {z cr : Int32} (h : zML f z cr) : 0 ≤ cr.toInt ∧ cr.toInt ≤ 7 := by rw [h.2.1]; exact h.2.2.1
def zMP (f : Nat → Int32) : Prop := ∀ c, c < 7 → 0 ≤ (f c).toInt ∧ (f c).toInt ≤ 3
theorem zMP_upd {f : Nat → Int32} {k : Nat} {v : Int32} (h : zMP f) (hv : 0 ≤ v.toInt ∧ v.toInt ≤ 3) : zMP (upd f k v) := by
  intro c hc
  unfold upd
  split
  · exact hv
  · exact h c hc
def zRd (f : Nat → Int32) (z c : Int32) : Int32 := f (z.toInt.toNat + (2 + c.toInt.toNat))
def zPt (f : Nat → Int32) (z c : Int32) : Int32 := f (z.toInt.toNat + (9 + c.toInt.toNat))
def zLe (f : Nat → Int32) (z c k : Int32) : Int32 := f (z.toInt.toNat + (23 + (4 * c.toInt.toNat + k.toInt.toNat)))
abbrev zInn (n c : Int32) : Prop := n >>> (c &&& 31) &&& 1 = 1
theorem zMLr {f : Nat → Int32} {z cr : Int32} (h : zML f z cr) {c : Int32} (h0 : 0 ≤ c.toInt) (h6 : c.toInt ≤ 6) : 0 ≤ (zRd f z c).toInt ∧ (zRd f z c).toInt ≤ 4 := (h.2.2.2.1 c.toInt.toNat (by omega)).1
theorem zMLp {f : Nat → Int32} {z cr : Int32} (h : zML f z cr) {c : Int32} (h0 : 0 ≤ c.toInt) (h6 : c.toInt ≤ 6) : 0 ≤ (zPt f z c).toInt ∧ (zPt f z c).toInt ≤ 3 := (h.2.2.2.1 c.toInt.toNat (by omega)).2.1
theorem zMLl {f : Nat → Int32} {z cr : Int32} (h : zML f z cr) {c k : Int32} (h0 : 0 ≤ c.toInt) (h6 : c.toInt ≤ 6) (h1 : 0 ≤ k.toInt) (h3 : k.toInt ≤ 3) : 0 ≤ (zLe f z c k).toInt ∧ (zLe f z c k).toInt ≤ 6 := h.2.2.2.2 (4 * c.toInt.toNat + k.toInt.toNat) (by omega)
theorem zRem {x y : Int32} (hx : 0 ≤ x.toInt) (hy : 0 < y.toInt) : 0 ≤ (x - x / y * y).toInt ∧ (x - x / y * y).toInt < y.toInt := by
  rw [rem_toInt, Int.tmod_eq_emod_of_nonneg hx]
  exact ⟨Int.emod_nonneg _ (by omega), Int.emod_lt_of_pos _ hy⟩
set_option maxHeartbeats 4000000 in
set_option maxRecDepth 100000 in
/-- c_m_roadsOf -/
theorem c_m_roadsOf (l : Launch) (T : zTy) (mo : Nat) (m_all : Nat) (m_has : Nat) (i_size : Int32) (i_next : Int32) (i_where : Int32) (i_token : Int32) (i_number : Int32) (i_word : Int32) (i_wrong : Int32) (i_farCrossing : Int32) (m_read : Nat) (i_z0 : Int32) (i_crossings : Int32) (i_inns : Int32) (m_posts : Nat) (m_shut : Nat) (m_here : Nat) (i_steps : Int32) (i_done : Int32) (i_at : Int32) (i_gone : Int32) (m_was : Nat) (m_came : Nat) (m_seenAt : Nat) (m_rowWorth : Nat) (m_farBy : Nat) (m_used : Nat) (i_everywhere : Int32) (i_again0 : Int32) (i_d0 : Int32) (i_never : Int32) (i_firstCame : Int32) (i_longRun : Int32) (i_moved : Int32) (i_crowd : Int32) (i_l0 : Int32) (i_fitMany : Int32) (i_fitLeast : Int32) (i_fitMost : Int32) (m_fitPost : Nat) (m_fitEnd : Nat) (m_keptPosts : Nat) (i_x0 : Int32) (f_all : Nat → Int32) (c_ : Int32) (hL : zML f_all i_z0 i_crossings) (hc0 : 0 ≤ c_.toInt) (hc6 : c_.toInt ≤ 6) : zMi l T yX12_roadsOf cX12_roadsOf 2 (some .int) 1 0 0 [.ref mo, .int c_] [[zO11 mo m_all m_has i_size i_next i_where i_token i_number i_word i_wrong i_farCrossing m_read i_z0 i_crossings i_inns m_posts m_shut m_here i_steps i_done i_at i_gone m_was m_came m_seenAt m_rowWorth m_farBy m_used i_everywhere i_again0 i_d0 i_never i_firstCame i_longRun i_moved i_crowd i_l0 i_fitMany i_fitLeast i_fitMost m_fitPost m_fitEnd m_keptPosts i_x0], [zAr T 0 m_all 3952 f_all]] (fun (r : Int32) bs => bs = [[zO11 mo m_all m_has i_size i_next i_where i_token i_number i_word i_wrong i_farCrossing m_read i_z0 i_crossings i_inns m_posts m_shut m_here i_steps i_done i_at i_gone m_was m_came m_seenAt m_rowWorth m_farBy m_used i_everywhere i_again0 i_d0 i_never i_firstCame i_longRun i_moved i_crowd i_l0 i_fitMany i_fitLeast i_fitMost m_fitPost m_fitEnd m_keptPosts i_x0], [zAr T 0 m_all 3952 f_all]] ∧ r = zRd f_all i_z0 c_ ∧ 0 ≤ r.toInt ∧ r.toInt ≤ 4) := by
  refine zMi_of (own := RX12) (by decide) rfl (Nat.le_of_ble_eq_true rfl) ?_
  intro p e s m args below meth c A ls C hr hlocks hnm hAe G hl
  refine zHide (fun Q9 hQ9 => ?_)
  have hx := C.1
  have hb := C.2.1
  have hl : lv_has ls 2 [(0, .ref mo), (1, .int c_)] := hl
  have hz := hL.1
  have hcr := hL.cr
  refine lv_aload_n hx hb dX12_roadsOf_0 rfl (lv_at hl 0 rfl) ?_
  refine z_get C G clX12 0 rfl 0 (by decide) m_fl_RX12_7 rfl dX12_roadsOf_1 ?_
  refine lv_aload_n hx hb dX12_roadsOf_4 rfl (lv_at hl 0 rfl) ?_
  refine z_get C G clX12 0 rfl 11 (by decide) m_fl_RX12_166 rfl dX12_roadsOf_5 ?_
  refine lv_iconst (v := 2) hx hb dX12_roadsOf_8 (by decide) ?_
  refine lv_iadd hx hb dX12_roadsOf_9 ?_
  refine lv_topi (fun y_1 ey_1 => ?_)
  have ey_1i : y_1.toInt = i_z0.toInt + (2 : Int) := by rw [ey_1]; exact z_iaddI (x := i_z0) (y := (2 : Int32)) (by show -2147483648 ≤ i_z0.toInt + (2 : Int); omega) (by show i_z0.toInt + (2 : Int) < 2147483648; omega)
  refine lv_iload_n hx hb dX12_roadsOf_10 rfl (lv_at hl 1 rfl) ?_
  refine lv_iadd hx hb dX12_roadsOf_11 ?_
  refine lv_topi (fun y_2 ey_2 => ?_)
  have ey_2i : y_2.toInt = y_1.toInt + c_.toInt := by rw [ey_2]; exact z_iaddI (x := y_1) (y := c_) (by show -2147483648 ≤ y_1.toInt + c_.toInt; omega) (by show y_1.toInt + c_.toInt < 2147483648; omega)
  refine z_ild C G 1 rfl (vp_in_iff.mpr ⟨by omega, by omega⟩) dX12_roadsOf_12 ?_
  refine lv_topi (fun v_3 ev_3 => ?_)
  subst ev_3
  exact z_back hQ9 (z_iret C hr hlocks G (Nat.le_of_ble_eq_true rfl) (Nat.le_of_ble_eq_true rfl) dX12_roadsOf_13 ⟨rfl, (congrArg f_all (by show y_2.toInt.toNat = _; omega)), (by rw [show f_all y_2.toNatClampNeg = _ from (show _ = zRd f_all i_z0 c_ from (congrArg f_all (by show y_2.toInt.toNat = _; omega)))]; exact (zMLr hL hc0 hc6).1), (by rw [show f_all y_2.toNatClampNeg = _ from (show _ = zRd f_all i_z0 c_ from (congrArg f_all (by show y_2.toInt.toNat = _; omega)))]; exact (zMLr hL hc0 hc6).2)⟩)
set_option maxHeartbeats 4000000 in
set_option maxRecDepth 100000 in
/-- c_m_postTold -/
theorem c_m_postTold (l : Launch) (T : zTy) (mo : Nat) (m_all : Nat) (m_has : Nat) (i_size : Int32) (i_next : Int32) (i_where : Int32) (i_token : Int32) (i_number : Int32) (i_word : Int32) (i_wrong : Int32) (i_farCrossing : Int32) (m_read : Nat) (i_z0 : Int32) (i_crossings : Int32) (i_inns : Int32) (m_posts : Nat) (m_shut : Nat) (m_here : Nat) (i_steps : Int32) (i_done : Int32) (i_at : Int32) (i_gone : Int32) (m_was : Nat) (m_came : Nat) (m_seenAt : Nat) (m_rowWorth : Nat) (m_farBy : Nat) (m_used : Nat) (i_everywhere : Int32) (i_again0 : Int32) (i_d0 : Int32) (i_never : Int32) (i_firstCame : Int32) (i_longRun : Int32) (i_moved : Int32) (i_crowd : Int32) (i_l0 : Int32) (i_fitMany : Int32) (i_fitLeast : Int32) (i_fitMost : Int32) (m_fitPost : Nat) (m_fitEnd : Nat) (m_keptPosts : Nat) (i_x0 : Int32) (f_all : Nat → Int32) (c_ : Int32) (hL : zML f_all i_z0 i_crossings) (hc0 : 0 ≤ c_.toInt) (hc6 : c_.toInt ≤ 6) : zMi l T yX12_postTold cX12_postTold 2 (some .int) 1 0 0 [.ref mo, .int c_] [[zO11 mo m_all m_has i_size i_next i_where i_token i_number i_word i_wrong i_farCrossing m_read i_z0 i_crossings i_inns m_posts m_shut m_here i_steps i_done i_at i_gone m_was m_came m_seenAt m_rowWorth m_farBy m_used i_everywhere i_again0 i_d0 i_never i_firstCame i_longRun i_moved i_crowd i_l0 i_fitMany i_fitLeast i_fitMost m_fitPost m_fitEnd m_keptPosts i_x0], [zAr T 0 m_all 3952 f_all]] (fun (r : Int32) bs => bs = [[zO11 mo m_all m_has i_size i_next i_where i_token i_number i_word i_wrong i_farCrossing m_read i_z0 i_crossings i_inns m_posts m_shut m_here i_steps i_done i_at i_gone m_was m_came m_seenAt m_rowWorth m_farBy m_used i_everywhere i_again0 i_d0 i_never i_firstCame i_longRun i_moved i_crowd i_l0 i_fitMany i_fitLeast i_fitMost m_fitPost m_fitEnd m_keptPosts i_x0], [zAr T 0 m_all 3952 f_all]] ∧ r = zPt f_all i_z0 c_ ∧ 0 ≤ r.toInt ∧ r.toInt ≤ 3) := by
  refine zMi_of (own := RX12) (by decide) rfl (Nat.le_of_ble_eq_true rfl) ?_
  intro p e s m args below meth c A ls C hr hlocks hnm hAe G hl
  refine zHide (fun Q9 hQ9 => ?_)
  have hx := C.1
  have hb := C.2.1
  have hl : lv_has ls 2 [(0, .ref mo), (1, .int c_)] := hl
  have hz := hL.1
  have hcr := hL.cr
  refine lv_aload_n hx hb dX12_postTold_0 rfl (lv_at hl 0 rfl) ?_
  refine z_get C G clX12 0 rfl 0 (by decide) m_fl_RX12_7 rfl dX12_postTold_1 ?_
  refine lv_aload_n hx hb dX12_postTold_4 rfl (lv_at hl 0 rfl) ?_
  refine z_get C G clX12 0 rfl 11 (by decide) m_fl_RX12_166 rfl dX12_postTold_5 ?_
  refine lv_bipush (v := 9) hx hb dX12_postTold_8 (by decide) ?_
  refine lv_iadd hx hb dX12_postTold_10 ?_
  refine lv_topi (fun y_1 ey_1 => ?_)
  have ey_1i : y_1.toInt = i_z0.toInt + (9 : Int) := by rw [ey_1]; exact z_iaddI (x := i_z0) (y := (9 : Int32)) (by show -2147483648 ≤ i_z0.toInt + (9 : Int); omega) (by show i_z0.toInt + (9 : Int) < 2147483648; omega)
  refine lv_iload_n hx hb dX12_postTold_11 rfl (lv_at hl 1 rfl) ?_
  refine lv_iadd hx hb dX12_postTold_12 ?_
  refine lv_topi (fun y_2 ey_2 => ?_)
  have ey_2i : y_2.toInt = y_1.toInt + c_.toInt := by rw [ey_2]; exact z_iaddI (x := y_1) (y := c_) (by show -2147483648 ≤ y_1.toInt + c_.toInt; omega) (by show y_1.toInt + c_.toInt < 2147483648; omega)
  refine z_ild C G 1 rfl (vp_in_iff.mpr ⟨by omega, by omega⟩) dX12_postTold_13 ?_
  refine lv_topi (fun v_3 ev_3 => ?_)
  subst ev_3
  exact z_back hQ9 (z_iret C hr hlocks G (Nat.le_of_ble_eq_true rfl) (Nat.le_of_ble_eq_true rfl) dX12_postTold_14 ⟨rfl, (congrArg f_all (by show y_2.toInt.toNat = _; omega)), (by rw [show f_all y_2.toNatClampNeg = _ from (show _ = zPt f_all i_z0 c_ from (congrArg f_all (by show y_2.toInt.toNat = _; omega)))]; exact (zMLp hL hc0 hc6).1), (by rw [show f_all y_2.toNatClampNeg = _ from (show _ = zPt f_all i_z0 c_ from (congrArg f_all (by show y_2.toInt.toNat = _; omega)))]; exact (zMLp hL hc0 hc6).2)⟩)
set_option maxHeartbeats 4000000 in
set_option maxRecDepth 100000 in
/-- c_m_leadsTo -/
theorem c_m_leadsTo (l : Launch) (T : zTy) (mo : Nat) (m_all : Nat) (m_has : Nat) (i_size : Int32) (i_next : Int32) (i_where : Int32) (i_token : Int32) (i_number : Int32) (i_word : Int32) (i_wrong : Int32) (i_farCrossing : Int32) (m_read : Nat) (i_z0 : Int32) (i_crossings : Int32) (i_inns : Int32) (m_posts : Nat) (m_shut : Nat) (m_here : Nat) (i_steps : Int32) (i_done : Int32) (i_at : Int32) (i_gone : Int32) (m_was : Nat) (m_came : Nat) (m_seenAt : Nat) (m_rowWorth : Nat) (m_farBy : Nat) (m_used : Nat) (i_everywhere : Int32) (i_again0 : Int32) (i_d0 : Int32) (i_never : Int32) (i_firstCame : Int32) (i_longRun : Int32) (i_moved : Int32) (i_crowd : Int32) (i_l0 : Int32) (i_fitMany : Int32) (i_fitLeast : Int32) (i_fitMost : Int32) (m_fitPost : Nat) (m_fitEnd : Nat) (m_keptPosts : Nat) (i_x0 : Int32) (f_all : Nat → Int32) (c_ : Int32) (k_ : Int32) (hL : zML f_all i_z0 i_crossings) (hc0 : 0 ≤ c_.toInt) (hc6 : c_.toInt ≤ 6) (hk0 : 0 ≤ k_.toInt) (hk3 : k_.toInt ≤ 3) : zMi l T yX12_leadsTo cX12_leadsTo 3 (some .int) 1 0 0 [.ref mo, .int c_, .int k_] [[zO11 mo m_all m_has i_size i_next i_where i_token i_number i_word i_wrong i_farCrossing m_read i_z0 i_crossings i_inns m_posts m_shut m_here i_steps i_done i_at i_gone m_was m_came m_seenAt m_rowWorth m_farBy m_used i_everywhere i_again0 i_d0 i_never i_firstCame i_longRun i_moved i_crowd i_l0 i_fitMany i_fitLeast i_fitMost m_fitPost m_fitEnd m_keptPosts i_x0], [zAr T 0 m_all 3952 f_all]] (fun (r : Int32) bs => bs = [[zO11 mo m_all m_has i_size i_next i_where i_token i_number i_word i_wrong i_farCrossing m_read i_z0 i_crossings i_inns m_posts m_shut m_here i_steps i_done i_at i_gone m_was m_came m_seenAt m_rowWorth m_farBy m_used i_everywhere i_again0 i_d0 i_never i_firstCame i_longRun i_moved i_crowd i_l0 i_fitMany i_fitLeast i_fitMost m_fitPost m_fitEnd m_keptPosts i_x0], [zAr T 0 m_all 3952 f_all]] ∧ r = zLe f_all i_z0 c_ k_ ∧ 0 ≤ r.toInt ∧ r.toInt ≤ 6) := by
  refine zMi_of (own := RX12) (by decide) rfl (Nat.le_of_ble_eq_true rfl) ?_
  intro p e s m args below meth c A ls C hr hlocks hnm hAe G hl
  refine zHide (fun Q9 hQ9 => ?_)
  have hx := C.1
  have hb := C.2.1
  have hl : lv_has ls 3 [(0, .ref mo), (1, .int c_), (2, .int k_)] := hl
  have hz := hL.1
  have hcr := hL.cr
  refine lv_aload_n hx hb dX12_leadsTo_0 rfl (lv_at hl 0 rfl) ?_
  refine z_get C G clX12 0 rfl 0 (by decide) m_fl_RX12_7 rfl dX12_leadsTo_1 ?_
  refine lv_aload_n hx hb dX12_leadsTo_4 rfl (lv_at hl 0 rfl) ?_
  refine z_get C G clX12 0 rfl 11 (by decide) m_fl_RX12_166 rfl dX12_leadsTo_5 ?_
  refine lv_bipush (v := 23) hx hb dX12_leadsTo_8 (by decide) ?_
  refine lv_iadd hx hb dX12_leadsTo_10 ?_
  refine lv_topi (fun y_1 ey_1 => ?_)
  have ey_1i : y_1.toInt = i_z0.toInt + (23 : Int) := by rw [ey_1]; exact z_iaddI (x := i_z0) (y := (23 : Int32)) (by show -2147483648 ≤ i_z0.toInt + (23 : Int); omega) (by show i_z0.toInt + (23 : Int) < 2147483648; omega)
  refine lv_iconst (v := 4) hx hb dX12_leadsTo_11 (by decide) ?_
  refine lv_iload_n hx hb dX12_leadsTo_12 rfl (lv_at hl 1 rfl) ?_
  refine lv_imul hx hb dX12_leadsTo_13 ?_
  refine lv_topi (fun y_2 ey_2 => ?_)
  have ey_2i : y_2.toInt = (4 : Int) * c_.toInt := by rw [ey_2]; exact z_imulI (x := (4 : Int32)) (y := c_) (by show -2147483648 ≤ (4 : Int) * c_.toInt; omega) (by show (4 : Int) * c_.toInt < 2147483648; omega)
  refine lv_iadd hx hb dX12_leadsTo_14 ?_
  refine lv_topi (fun y_3 ey_3 => ?_)
  have ey_3i : y_3.toInt = y_1.toInt + y_2.toInt := by rw [ey_3]; exact z_iaddI (x := y_1) (y := y_2) (by show -2147483648 ≤ y_1.toInt + y_2.toInt; omega) (by show y_1.toInt + y_2.toInt < 2147483648; omega)
  refine lv_iload_n hx hb dX12_leadsTo_15 rfl (lv_at hl 2 rfl) ?_
  refine lv_iadd hx hb dX12_leadsTo_16 ?_
  refine lv_topi (fun y_4 ey_4 => ?_)
  have ey_4i : y_4.toInt = y_3.toInt + k_.toInt := by rw [ey_4]; exact z_iaddI (x := y_3) (y := k_) (by show -2147483648 ≤ y_3.toInt + k_.toInt; omega) (by show y_3.toInt + k_.toInt < 2147483648; omega)
  refine z_ild C G 1 rfl (vp_in_iff.mpr ⟨by omega, by omega⟩) dX12_leadsTo_17 ?_
  refine lv_topi (fun v_5 ev_5 => ?_)
  subst ev_5
  exact z_back hQ9 (z_iret C hr hlocks G (Nat.le_of_ble_eq_true rfl) (Nat.le_of_ble_eq_true rfl) dX12_leadsTo_18 ⟨rfl, (congrArg f_all (by show y_4.toInt.toNat = _; omega)), (by rw [show f_all y_4.toNatClampNeg = _ from (show _ = zLe f_all i_z0 c_ k_ from (congrArg f_all (by show y_4.toInt.toNat = _; omega)))]; exact (zMLl hL hc0 hc6 hk0 hk3).1), (by rw [show f_all y_4.toNatClampNeg = _ from (show _ = zLe f_all i_z0 c_ k_ from (congrArg f_all (by show y_4.toInt.toNat = _; omega)))]; exact (zMLl hL hc0 hc6 hk0 hk3).2)⟩)
set_option maxHeartbeats 4000000 in
set_option maxRecDepth 100000 in
/-- c_m_isCrossing -/
theorem c_m_isCrossing (l : Launch) (T : zTy) (mo : Nat) (m_all : Nat) (m_has : Nat) (i_size : Int32) (i_next : Int32) (i_where : Int32) (i_token : Int32) (i_number : Int32) (i_word : Int32) (i_wrong : Int32) (i_farCrossing : Int32) (m_read : Nat) (i_z0 : Int32) (i_crossings : Int32) (i_inns : Int32) (m_posts : Nat) (m_shut : Nat) (m_here : Nat) (i_steps : Int32) (i_done : Int32) (i_at : Int32) (i_gone : Int32) (m_was : Nat) (m_came : Nat) (m_seenAt : Nat) (m_rowWorth : Nat) (m_farBy : Nat) (m_used : Nat) (i_everywhere : Int32) (i_again0 : Int32) (i_d0 : Int32) (i_never : Int32) (i_firstCame : Int32) (i_longRun : Int32) (i_moved : Int32) (i_crowd : Int32) (i_l0 : Int32) (i_fitMany : Int32) (i_fitLeast : Int32) (i_fitMost : Int32) (m_fitPost : Nat) (m_fitEnd : Nat) (m_keptPosts : Nat) (i_x0 : Int32) (c_ : Int32) (hcr : 0 ≤ i_crossings.toInt ∧ i_crossings.toInt ≤ 7) : zMi l T yX12_isCrossing cX12_isCrossing 2 (some .boolean) 2 0 0 [.ref mo, .int c_] [[zO11 mo m_all m_has i_size i_next i_where i_token i_number i_word i_wrong i_farCrossing m_read i_z0 i_crossings i_inns m_posts m_shut m_here i_steps i_done i_at i_gone m_was m_came m_seenAt m_rowWorth m_farBy m_used i_everywhere i_again0 i_d0 i_never i_firstCame i_longRun i_moved i_crowd i_l0 i_fitMany i_fitLeast i_fitMost m_fitPost m_fitEnd m_keptPosts i_x0]] (fun (r : Int32) bs => bs = [[zO11 mo m_all m_has i_size i_next i_where i_token i_number i_word i_wrong i_farCrossing m_read i_z0 i_crossings i_inns m_posts m_shut m_here i_steps i_done i_at i_gone m_was m_came m_seenAt m_rowWorth m_farBy m_used i_everywhere i_again0 i_d0 i_never i_firstCame i_longRun i_moved i_crowd i_l0 i_fitMany i_fitLeast i_fitMost m_fitPost m_fitEnd m_keptPosts i_x0]] ∧ ((r = 1 ∧ 0 ≤ c_.toInt ∧ c_.toInt < i_crossings.toInt) ∨ (r = 0 ∧ (c_.toInt < 0 ∨ i_crossings.toInt ≤ c_.toInt)))) := by
  refine zMi_of (own := RX12) (by decide) rfl (Nat.le_of_ble_eq_true rfl) ?_
  intro p e s m args below meth c A ls C hr hlocks hnm hAe G hl
  refine zHide (fun Q9 hQ9 => ?_)
  have hx := C.1
  have hb := C.2.1
  have hl : lv_has ls 2 [(0, .ref mo), (1, .int c_)] := hl
  refine lv_iload_n hx hb dX12_isCrossing_0 rfl (lv_at hl 1 rfl) ?_
  refine lv_iconst (v := 0) hx hb dX12_isCrossing_1 (by decide) ?_
  refine lv_aload_n hx hb dX12_isCrossing_2 rfl (lv_at hl 0 rfl) ?_
  refine z_get C G clX12 0 rfl 12 (by decide) m_fl_RX12_169 rfl dX12_isCrossing_3 ?_
  refine lv_iconst (v := 1) hx hb dX12_isCrossing_6 (by decide) ?_
  refine lv_isub hx hb dX12_isCrossing_7 ?_
  refine lv_topi (fun y_1 ey_1 => ?_)
  have ey_1i : y_1.toInt = i_crossings.toInt - (1 : Int) := by rw [ey_1]; exact z_isubI (x := i_crossings) (y := (1 : Int32)) (by show -2147483648 ≤ i_crossings.toInt - (1 : Int); omega) (by show i_crossings.toInt - (1 : Int) < 2147483648; omega)
  refine z_Si (bc := []) (br := [[zO11 mo m_all m_has i_size i_next i_where i_token i_number i_word i_wrong i_farCrossing m_read i_z0 i_crossings i_inns m_posts m_shut m_here i_steps i_done i_at i_gone m_was m_came m_seenAt m_rowWorth m_farBy m_used i_everywhere i_again0 i_d0 i_never i_firstCame i_longRun i_moved i_crowd i_l0 i_fitMany i_fitLeast i_fitMost m_fitPost m_fitEnd m_keptPosts i_x0]]) (As := [.int c_, .int 0, .int y_1]) (rest := []) C G (c_m_isIn l T c_ 0 y_1) (kS_RX12_111 C.2.2.2.2 (Nat.le_of_ble_eq_true rfl) (Nat.le_of_ble_eq_true rfl)) [] [] rfl rfl rfl rfl hl.1 dX12_isCrossing_8 (Nat.le_of_ble_eq_true rfl) (Nat.le_of_ble_eq_true rfl) (fun r_3 b1 H locs hw G => ?_)
  refine zAn2 hw ?_
  intro hbs9 hc_2
  clear hw
  subst hbs9
  have G : zS T A s.heap s [[zO11 mo m_all m_has i_size i_next i_where i_token i_number i_word i_wrong i_farCrossing m_read i_z0 i_crossings i_inns m_posts m_shut m_here i_steps i_done i_at i_gone m_was m_came m_seenAt m_rowWorth m_farBy m_used i_everywhere i_again0 i_d0 i_never i_firstCame i_longRun i_moved i_crowd i_l0 i_fitMany i_fitLeast i_fitMost m_fitPost m_fitEnd m_keptPosts i_x0]] _ _ := G
  rcases hc_2 with ⟨rfl, h_4, h_5⟩ | ⟨rfl, h_6⟩
  · have h_4 : (0 : Int) ≤ c_.toInt := h_4
    have h_5 : c_.toInt ≤ y_1.toInt := h_5
    exact z_back hQ9 (z_zret C hr hlocks G (Nat.le_of_ble_eq_true rfl) (Nat.le_of_ble_eq_true rfl) dX12_isCrossing_11 rfl ⟨rfl, (Or.inl (⟨rfl, (by first | with_reducible assumption | omega | assumption), (by first | with_reducible assumption | omega | assumption)⟩))⟩)
  · have h_6 : (c_.toInt < (0 : Int) ∨ y_1.toInt < c_.toInt) := h_6
    exact z_back hQ9 (z_zret C hr hlocks G (Nat.le_of_ble_eq_true rfl) (Nat.le_of_ble_eq_true rfl) dX12_isCrossing_11 rfl ⟨rfl, (Or.inr (⟨rfl, (by first | with_reducible assumption | omega | assumption)⟩))⟩)
set_option maxHeartbeats 4000000 in
set_option maxRecDepth 100000 in
/-- c_m_isInn -/
theorem c_m_isInn (l : Launch) (T : zTy) (mo : Nat) (m_all : Nat) (m_has : Nat) (i_size : Int32) (i_next : Int32) (i_where : Int32) (i_token : Int32) (i_number : Int32) (i_word : Int32) (i_wrong : Int32) (i_farCrossing : Int32) (m_read : Nat) (i_z0 : Int32) (i_crossings : Int32) (i_inns : Int32) (m_posts : Nat) (m_shut : Nat) (m_here : Nat) (i_steps : Int32) (i_done : Int32) (i_at : Int32) (i_gone : Int32) (m_was : Nat) (m_came : Nat) (m_seenAt : Nat) (m_rowWorth : Nat) (m_farBy : Nat) (m_used : Nat) (i_everywhere : Int32) (i_again0 : Int32) (i_d0 : Int32) (i_never : Int32) (i_firstCame : Int32) (i_longRun : Int32) (i_moved : Int32) (i_crowd : Int32) (i_l0 : Int32) (i_fitMany : Int32) (i_fitLeast : Int32) (i_fitMost : Int32) (m_fitPost : Nat) (m_fitEnd : Nat) (m_keptPosts : Nat) (i_x0 : Int32) (c_ : Int32) : zMi l T yX12_isInn cX12_isInn 2 (some .boolean) 1 0 0 [.ref mo, .int c_] [[zO11 mo m_all m_has i_size i_next i_where i_token i_number i_word i_wrong i_farCrossing m_read i_z0 i_crossings i_inns m_posts m_shut m_here i_steps i_done i_at i_gone m_was m_came m_seenAt m_rowWorth m_farBy m_used i_everywhere i_again0 i_d0 i_never i_firstCame i_longRun i_moved i_crowd i_l0 i_fitMany i_fitLeast i_fitMost m_fitPost m_fitEnd m_keptPosts i_x0]] (fun (r : Int32) bs => bs = [[zO11 mo m_all m_has i_size i_next i_where i_token i_number i_word i_wrong i_farCrossing m_read i_z0 i_crossings i_inns m_posts m_shut m_here i_steps i_done i_at i_gone m_was m_came m_seenAt m_rowWorth m_farBy m_used i_everywhere i_again0 i_d0 i_never i_firstCame i_longRun i_moved i_crowd i_l0 i_fitMany i_fitLeast i_fitMost m_fitPost m_fitEnd m_keptPosts i_x0]] ∧ ((r = 1 ∧ zInn i_inns c_) ∨ (r = 0 ∧ ¬ zInn i_inns c_))) := by
  refine zMi_of (own := RX12) (by decide) rfl (Nat.le_of_ble_eq_true rfl) ?_
  intro p e s m args below meth c A ls C hr hlocks hnm hAe G hl
  refine zHide (fun Q9 hQ9 => ?_)
  have hx := C.1
  have hb := C.2.1
  have hl : lv_has ls 2 [(0, .ref mo), (1, .int c_)] := hl
  refine lv_aload_n hx hb dX12_isInn_0 rfl (lv_at hl 0 rfl) ?_
  refine z_get C G clX12 0 rfl 13 (by decide) m_fl_RX12_172 rfl dX12_isInn_1 ?_
  refine lv_iload_n hx hb dX12_isInn_4 rfl (lv_at hl 1 rfl) ?_
  refine lv_ishr hx hb dX12_isInn_5 ?_
  refine lv_iconst (v := 1) hx hb dX12_isInn_6 (by decide) ?_
  refine lv_iand hx hb dX12_isInn_7 ?_
  refine lv_iconst (v := 1) hx hb dX12_isInn_8 (by decide) ?_
  refine lv_icmp_ne (tgt := 16) hx hb dX12_isInn_9 (by decide) (fun c_1 => ?_) (fun c_1 => ?_)
  · have c_1n : ¬ ((i_inns >>> (c_ &&& 31)) &&& 1).toInt = (1 : Int) := fun q => c_1 ((fa_eq _ _).mpr q)
    refine lv_iconst (v := 0) hx hb dX12_isInn_16 (by decide) ?_
    exact z_back hQ9 (z_zret C hr hlocks G (Nat.le_of_ble_eq_true rfl) (Nat.le_of_ble_eq_true rfl) dX12_isInn_17 rfl ⟨rfl, (Or.inr (⟨rfl, (by first | with_reducible assumption | omega | assumption)⟩))⟩)
  · have c_1n : ((i_inns >>> (c_ &&& 31)) &&& 1).toInt = (1 : Int) := (fa_eq _ _).mp c_1
    refine lv_iconst (v := 1) hx hb dX12_isInn_12 (by decide) ?_
    refine lv_goto (tgt := 17) hx hb dX12_isInn_13 (by decide) ?_
    exact z_back hQ9 (z_zret C hr hlocks G (Nat.le_of_ble_eq_true rfl) (Nat.le_of_ble_eq_true rfl) dX12_isInn_17 rfl ⟨rfl, (Or.inl (⟨rfl, (by first | with_reducible assumption | omega | assumption)⟩))⟩)
set_option maxHeartbeats 4000000 in
set_option maxRecDepth 100000 in
/-- c_m_isFree -/
theorem c_m_isFree (l : Launch) (T : zTy) (mo : Nat) (m_all : Nat) (m_has : Nat) (i_size : Int32) (i_next : Int32) (i_where : Int32) (i_token : Int32) (i_number : Int32) (i_word : Int32) (i_wrong : Int32) (i_farCrossing : Int32) (m_read : Nat) (i_z0 : Int32) (i_crossings : Int32) (i_inns : Int32) (m_posts : Nat) (m_shut : Nat) (m_here : Nat) (i_steps : Int32) (i_done : Int32) (i_at : Int32) (i_gone : Int32) (m_was : Nat) (m_came : Nat) (m_seenAt : Nat) (m_rowWorth : Nat) (m_farBy : Nat) (m_used : Nat) (i_everywhere : Int32) (i_again0 : Int32) (i_d0 : Int32) (i_never : Int32) (i_firstCame : Int32) (i_longRun : Int32) (i_moved : Int32) (i_crowd : Int32) (i_l0 : Int32) (i_fitMany : Int32) (i_fitLeast : Int32) (i_fitMost : Int32) (m_fitPost : Nat) (m_fitEnd : Nat) (m_keptPosts : Nat) (i_x0 : Int32) (f_all : Nat → Int32) (c_ : Int32) (hL : zML f_all i_z0 i_crossings) (hc0 : 0 ≤ c_.toInt) (hc6 : c_.toInt ≤ 6) : zMi l T yX12_isFree cX12_isFree 2 (some .boolean) 2 0 0 [.ref mo, .int c_] [[zO11 mo m_all m_has i_size i_next i_where i_token i_number i_word i_wrong i_farCrossing m_read i_z0 i_crossings i_inns m_posts m_shut m_here i_steps i_done i_at i_gone m_was m_came m_seenAt m_rowWorth m_farBy m_used i_everywhere i_again0 i_d0 i_never i_firstCame i_longRun i_moved i_crowd i_l0 i_fitMany i_fitLeast i_fitMost m_fitPost m_fitEnd m_keptPosts i_x0], [zAr T 0 m_all 3952 f_all]] (fun (r : Int32) bs => bs = [[zO11 mo m_all m_has i_size i_next i_where i_token i_number i_word i_wrong i_farCrossing m_read i_z0 i_crossings i_inns m_posts m_shut m_here i_steps i_done i_at i_gone m_was m_came m_seenAt m_rowWorth m_farBy m_used i_everywhere i_again0 i_d0 i_never i_firstCame i_longRun i_moved i_crowd i_l0 i_fitMany i_fitLeast i_fitMost m_fitPost m_fitEnd m_keptPosts i_x0], [zAr T 0 m_all 3952 f_all]] ∧ ((r = 1 ∧ ¬ zInn i_inns c_ ∧ 0 < (zRd f_all i_z0 c_).toInt) ∨ (r = 0 ∧ (zInn i_inns c_ ∨ (zRd f_all i_z0 c_).toInt ≤ 0)))) := by
  refine zMi_of (own := RX12) (by decide) rfl (Nat.le_of_ble_eq_true rfl) ?_
  intro p e s m args below meth c A ls C hr hlocks hnm hAe G hl
  refine zHide (fun Q9 hQ9 => ?_)
  have hx := C.1
  have hb := C.2.1
  have hl : lv_has ls 2 [(0, .ref mo), (1, .int c_)] := hl
  refine lv_aload_n hx hb dX12_isFree_0 rfl (lv_at hl 0 rfl) ?_
  refine lv_iload_n hx hb dX12_isFree_1 rfl (lv_at hl 1 rfl) ?_
  refine z_Vi (bc := [[zO11 mo m_all m_has i_size i_next i_where i_token i_number i_word i_wrong i_farCrossing m_read i_z0 i_crossings i_inns m_posts m_shut m_here i_steps i_done i_at i_gone m_was m_came m_seenAt m_rowWorth m_farBy m_used i_everywhere i_again0 i_d0 i_never i_firstCame i_longRun i_moved i_crowd i_l0 i_fitMany i_fitLeast i_fitMost m_fitPost m_fitEnd m_keptPosts i_x0]]) (br := [[zAr T 0 m_all 3952 f_all]]) (As := [.int c_]) (rest := []) C G (c_m_isInn l T mo m_all m_has i_size i_next i_where i_token i_number i_word i_wrong i_farCrossing m_read i_z0 i_crossings i_inns m_posts m_shut m_here i_steps i_done i_at i_gone m_was m_came m_seenAt m_rowWorth m_farBy m_used i_everywhere i_again0 i_d0 i_never i_firstCame i_longRun i_moved i_crowd i_l0 i_fitMany i_fitLeast i_fitMost m_fitPost m_fitEnd m_keptPosts i_x0 c_) (kV_RX12_178 C.2.2.2.2 (Nat.le_of_ble_eq_true rfl) (Nat.le_of_ble_eq_true rfl)) [0] [0] rfl rfl (ci := 11) (qc := (RX12, TX12, 43)) rfl rfl (List.mem_flatten.mpr ⟨_, List.mem_of_getElem? (i := 0) rfl, List.mem_cons_self⟩) rfl rfl hl.1 dX12_isFree_2 (Nat.le_of_ble_eq_true rfl) (Nat.le_of_ble_eq_true rfl) (fun r_2 b1 H locs hw G => ?_)
  refine zAn2 hw ?_
  intro hbs9 hc_1
  clear hw
  subst hbs9
  have G : zS T A s.heap s [[zAr T 0 m_all 3952 f_all], [zO11 mo m_all m_has i_size i_next i_where i_token i_number i_word i_wrong i_farCrossing m_read i_z0 i_crossings i_inns m_posts m_shut m_here i_steps i_done i_at i_gone m_was m_came m_seenAt m_rowWorth m_farBy m_used i_everywhere i_again0 i_d0 i_never i_firstCame i_longRun i_moved i_crowd i_l0 i_fitMany i_fitLeast i_fitMost m_fitPost m_fitEnd m_keptPosts i_x0]] _ _ := G
  rcases hc_1 with ⟨rfl, h_3⟩ | ⟨rfl, h_4⟩
  · have h_3 : zInn i_inns c_ := h_3
    refine lv_if_ne (tgt := 20) hx hb dX12_isFree_5 (by decide) (fun _ => ?_) (fun q => absurd q (by decide))
    refine lv_iconst (v := 0) hx hb dX12_isFree_20 (by decide) ?_
    have G := G.sub (bs' := [[zO11 mo m_all m_has i_size i_next i_where i_token i_number i_word i_wrong i_farCrossing m_read i_z0 i_crossings i_inns m_posts m_shut m_here i_steps i_done i_at i_gone m_was m_came m_seenAt m_rowWorth m_farBy m_used i_everywhere i_again0 i_d0 i_never i_firstCame i_longRun i_moved i_crowd i_l0 i_fitMany i_fitLeast i_fitMost m_fitPost m_fitEnd m_keptPosts i_x0], [zAr T 0 m_all 3952 f_all]]) [1, 0] rfl
    exact z_back hQ9 (z_zret C hr hlocks G (Nat.le_of_ble_eq_true rfl) (Nat.le_of_ble_eq_true rfl) dX12_isFree_21 rfl ⟨rfl, (Or.inr (⟨rfl, (by first | exact Or.inl (by assumption) | exact Or.inr (by omega))⟩))⟩)
  · have h_4 : ¬ zInn i_inns c_ := h_4
    refine lv_if_ne (tgt := 20) hx hb dX12_isFree_5 (by decide) (fun q => absurd (by decide) q) (fun _ => ?_)
    refine lv_aload_n hx hb dX12_isFree_8 rfl (lv_at hl 0 rfl) ?_
    refine lv_iload_n hx hb dX12_isFree_9 rfl (lv_at hl 1 rfl) ?_
    refine z_Vi (bc := [[zO11 mo m_all m_has i_size i_next i_where i_token i_number i_word i_wrong i_farCrossing m_read i_z0 i_crossings i_inns m_posts m_shut m_here i_steps i_done i_at i_gone m_was m_came m_seenAt m_rowWorth m_farBy m_used i_everywhere i_again0 i_d0 i_never i_firstCame i_longRun i_moved i_crowd i_l0 i_fitMany i_fitLeast i_fitMost m_fitPost m_fitEnd m_keptPosts i_x0], [zAr T 0 m_all 3952 f_all]]) (br := []) (As := [.int c_]) (rest := []) C G (c_m_roadsOf l T mo m_all m_has i_size i_next i_where i_token i_number i_word i_wrong i_farCrossing m_read i_z0 i_crossings i_inns m_posts m_shut m_here i_steps i_done i_at i_gone m_was m_came m_seenAt m_rowWorth m_farBy m_used i_everywhere i_again0 i_d0 i_never i_firstCame i_longRun i_moved i_crowd i_l0 i_fitMany i_fitLeast i_fitMost m_fitPost m_fitEnd m_keptPosts i_x0 f_all c_ (by first | with_reducible assumption | with_reducible rfl | omega | assumption | rfl | decide) (by first | with_reducible assumption | with_reducible rfl | omega | assumption | rfl | decide) (by first | with_reducible assumption | with_reducible rfl | omega | assumption | rfl | decide)) (kV_RX12_181 C.2.2.2.2 (Nat.le_of_ble_eq_true rfl) (Nat.le_of_ble_eq_true rfl)) [1, 0] [0, 0] rfl rfl (ci := 11) (qc := (RX12, TX12, 43)) rfl rfl (List.mem_flatten.mpr ⟨_, List.mem_of_getElem? (i := 0) rfl, List.mem_cons_self⟩) rfl rfl hl.1 dX12_isFree_10 (Nat.le_of_ble_eq_true rfl) (Nat.le_of_ble_eq_true rfl) (fun r_8 b1 H locs hw G => ?_)
    refine zAn4 hw ?_
    intro hbs9 h_5 h_6 h_7
    clear hw
    subst hbs9
    have G : zS T A s.heap s [[zO11 mo m_all m_has i_size i_next i_where i_token i_number i_word i_wrong i_farCrossing m_read i_z0 i_crossings i_inns m_posts m_shut m_here i_steps i_done i_at i_gone m_was m_came m_seenAt m_rowWorth m_farBy m_used i_everywhere i_again0 i_d0 i_never i_firstCame i_longRun i_moved i_crowd i_l0 i_fitMany i_fitLeast i_fitMost m_fitPost m_fitEnd m_keptPosts i_x0], [zAr T 0 m_all 3952 f_all]] _ _ := G
    subst h_5
    refine lv_if_le (tgt := 20) hx hb dX12_isFree_13 (by decide) (fun c_9 => ?_) (fun c_9 => ?_)
    · have c_9n : (zRd f_all i_z0 c_).toInt ≤ (0 : Int) := (fa_le _ _).mp c_9
      refine lv_iconst (v := 0) hx hb dX12_isFree_20 (by decide) ?_
      exact z_back hQ9 (z_zret C hr hlocks G (Nat.le_of_ble_eq_true rfl) (Nat.le_of_ble_eq_true rfl) dX12_isFree_21 rfl ⟨rfl, (Or.inr (⟨rfl, (by first | exact Or.inl (by assumption) | exact Or.inr (by omega))⟩))⟩)
    · have c_9n : ¬ (zRd f_all i_z0 c_).toInt ≤ (0 : Int) := fun q => c_9 ((fa_le _ _).mpr q)
      refine lv_iconst (v := 1) hx hb dX12_isFree_16 (by decide) ?_
      refine lv_goto (tgt := 21) hx hb dX12_isFree_17 (by decide) ?_
      exact z_back hQ9 (z_zret C hr hlocks G (Nat.le_of_ble_eq_true rfl) (Nat.le_of_ble_eq_true rfl) dX12_isFree_21 rfl ⟨rfl, (Or.inl (⟨rfl, (by first | with_reducible assumption | omega | assumption), (by omega)⟩))⟩)
theorem m_fl_RX12_196 : Cond.fieldLink RX12 196 (TX12 17).1 (TX12 17).2.1 (TX12 17).2.2.1 ∈ zT := zmem1 zsub_6 12 rfl rfl
theorem m_fl_RX12_199 : Cond.fieldLink RX12 199 (TX12 18).1 (TX12 18).2.1 (TX12 18).2.2.1 ∈ zT := zmem1 zsub_6 13 rfl rfl
theorem m_co_X12_postTold : Cond.code yX12_postTold cX12_postTold 2 (some .int) ∈ zT := zmem1 zsub_6 239 rfl rfl
theorem m_ml_RX12_193 : Cond.methodLink RX12 193 yX12_postTold ∈ zT := zmem1 zsub_6 236 rfl rfl
theorem m_im_X12_postTold : Cond.instanceMethod yX12_postTold ∈ zT := zmem1 zsub_6 238 rfl rfl
theorem m_se_X12_postTold : Cond.selects RX12 yX12_postTold yX12_postTold ∈ zT := zmem 61 rfl rfl
theorem m_co_X12_begins : Cond.code yX12_begins cX12_begins 2 none ∈ zT := zmem1 zsub_6 235 rfl rfl
theorem m_ml_RX12_175 : Cond.methodLink RX12 175 yX12_begins ∈ zT := zmem1 zsub_6 232 rfl rfl
theorem m_im_X12_begins : Cond.instanceMethod yX12_begins ∈ zT := zmem1 zsub_6 234 rfl rfl
theorem m_se_X12_begins : Cond.selects RX12 yX12_begins yX12_begins ∈ zT := zmem 60 rfl rfl
theorem m_fl_RX12_202 : Cond.fieldLink RX12 202 (TX12 19).1 (TX12 19).2.1 (TX12 19).2.2.1 ∈ zT := zmem1 zsub_6 14 rfl rfl
theorem m_co_X12_turns : Cond.code yX12_turns cX12_turns 5 (some .boolean) ∈ zT := zmem1 zsub_7 35 rfl rfl
theorem m_ml_RX12_205 : Cond.methodLink RX12 205 yX12_turns ∈ zT := zmem1 zsub_7 32 rfl rfl
theorem m_im_X12_turns : Cond.instanceMethod yX12_turns ∈ zT := zmem1 zsub_7 34 rfl rfl
theorem m_se_X12_turns : Cond.selects RX12 yX12_turns yX12_turns ∈ zT := zmem 69 rfl rfl
theorem m_co_X12_leadsTo : Cond.code yX12_leadsTo cX12_leadsTo 3 (some .int) ∈ zT := zmem1 zsub_7 11 rfl rfl
theorem m_ml_RX12_190 : Cond.methodLink RX12 190 yX12_leadsTo ∈ zT := zmem1 zsub_7 8 rfl rfl
theorem m_im_X12_leadsTo : Cond.instanceMethod yX12_leadsTo ∈ zT := zmem1 zsub_7 10 rfl rfl
theorem m_se_X12_leadsTo : Cond.selects RX12 yX12_leadsTo yX12_leadsTo ∈ zT := zmem 64 rfl rfl
theorem m_fl_RX12_208 : Cond.fieldLink RX12 208 (TX12 20).1 (TX12 20).2.1 (TX12 20).2.2.1 ∈ zT := zmem1 zsub_6 15 rfl rfl
theorem kV_RX12_193 {R : Room} {s : State} {args : Array Value} {d mc ms : Nat} (hts : ∀ w ∈ zT, w.before args s = true) (h1 : d + 1 ≤ R.frames) (h2 : 8 + (2 + 11) + 40 * d ≤ R.locals) : CallW R s args RX12 RX12 193 yX12_postTold cX12_postTold 2 (some .int) (zW yX12_postTold cX12_postTold 2 (some .int)) (zR d mc ms) mc ms 1 := z_cwV hts m_co_X12_postTold m_ml_RX12_193 m_im_X12_postTold m_se_X12_postTold m_ii_RX12 (by decide +kernel) h1 h2
theorem kV_RX12_175 {R : Room} {s : State} {args : Array Value} {d mc ms : Nat} (hts : ∀ w ∈ zT, w.before args s = true) (h1 : d + 1 ≤ R.frames) (h2 : 8 + (2 + 11) + 40 * d ≤ R.locals) : CallW R s args RX12 RX12 175 yX12_begins cX12_begins 2 none (zW yX12_begins cX12_begins 2 none) (zR d mc ms) mc ms 0 := z_cwV hts m_co_X12_begins m_ml_RX12_175 m_im_X12_begins m_se_X12_begins m_ii_RX12 (by decide +kernel) h1 h2
theorem kV_RX12_205 {R : Room} {s : State} {args : Array Value} {d mc ms : Nat} (hts : ∀ w ∈ zT, w.before args s = true) (h1 : d + 1 ≤ R.frames) (h2 : 8 + (5 + 11) + 40 * d ≤ R.locals) : CallW R s args RX12 RX12 205 yX12_turns cX12_turns 5 (some .boolean) (zW yX12_turns cX12_turns 5 (some .boolean)) (zR d mc ms) mc ms 1 := z_cwV hts m_co_X12_turns m_ml_RX12_205 m_im_X12_turns m_se_X12_turns m_ii_RX12 (by decide +kernel) h1 h2
theorem kV_RX12_190 {R : Room} {s : State} {args : Array Value} {d mc ms : Nat} (hts : ∀ w ∈ zT, w.before args s = true) (h1 : d + 1 ≤ R.frames) (h2 : 8 + (3 + 11) + 40 * d ≤ R.locals) : CallW R s args RX12 RX12 190 yX12_leadsTo cX12_leadsTo 3 (some .int) (zW yX12_leadsTo cX12_leadsTo 3 (some .int)) (zR d mc ms) mc ms 2 := z_cwV hts m_co_X12_leadsTo m_ml_RX12_190 m_im_X12_leadsTo m_se_X12_leadsTo m_ii_RX12 (by decide +kernel) h1 h2
theorem dX12_begins_0 : decode cX12_begins 0 = .ok (.aload_n 0, 1) := zo_42 (by decide +kernel)
theorem dX12_begins_1 : decode cX12_begins 1 = .ok (.iconst 0, 1) := zo_3 (by decide +kernel)
theorem dX12_begins_2 : decode cX12_begins 2 = .ok (.putfield 196, 3) := zo_181 (by decide +kernel)
theorem dX12_begins_5 : decode cX12_begins 5 = .ok (.aload_n 0, 1) := zo_42 (by decide +kernel)
theorem dX12_begins_6 : decode cX12_begins 6 = .ok (.iconst 0, 1) := zo_3 (by decide +kernel)
theorem dX12_begins_7 : decode cX12_begins 7 = .ok (.putfield 199, 3) := zo_181 (by decide +kernel)
theorem dX12_begins_10 : decode cX12_begins 10 = .ok (.iconst 0, 1) := zo_3 (by decide +kernel)
theorem dX12_begins_11 : decode cX12_begins 11 = .ok (.istore_n 1, 1) := zo_60 (by decide +kernel)
theorem dX12_begins_12 : decode cX12_begins 12 = .ok (.iload_n 1, 1) := zo_27 (by decide +kernel)
theorem dX12_begins_13 : decode cX12_begins 13 = .ok (.bipush 7, 2) := zo_16 (by decide +kernel)
theorem dX12_begins_15 : decode cX12_begins 15 = .ok (.if_icmp .ge 47, 3) := zo_162 (by decide +kernel)
theorem dX12_begins_18 : decode cX12_begins 18 = .ok (.aload_n 0, 1) := zo_42 (by decide +kernel)
theorem dX12_begins_19 : decode cX12_begins 19 = .ok (.getfield 20, 3) := zo_180 (by decide +kernel)
theorem dX12_begins_22 : decode cX12_begins 22 = .ok (.iload_n 1, 1) := zo_27 (by decide +kernel)
theorem dX12_begins_23 : decode cX12_begins 23 = .ok (.aload_n 0, 1) := zo_42 (by decide +kernel)
theorem dX12_begins_24 : decode cX12_begins 24 = .ok (.iload_n 1, 1) := zo_27 (by decide +kernel)
theorem dX12_begins_25 : decode cX12_begins 25 = .ok (.invokevirtual 193, 3) := zo_182 (by decide +kernel)
theorem dX12_begins_28 : decode cX12_begins 28 = .ok (.iastore, 1) := zo_79 (by decide +kernel)
theorem dX12_begins_29 : decode cX12_begins 29 = .ok (.aload_n 0, 1) := zo_42 (by decide +kernel)
theorem dX12_begins_30 : decode cX12_begins 30 = .ok (.getfield 23, 3) := zo_180 (by decide +kernel)
theorem dX12_begins_33 : decode cX12_begins 33 = .ok (.iload_n 1, 1) := zo_27 (by decide +kernel)
theorem dX12_begins_34 : decode cX12_begins 34 = .ok (.iconst 0, 1) := zo_3 (by decide +kernel)
theorem dX12_begins_35 : decode cX12_begins 35 = .ok (.iastore, 1) := zo_79 (by decide +kernel)
theorem dX12_begins_36 : decode cX12_begins 36 = .ok (.aload_n 0, 1) := zo_42 (by decide +kernel)
theorem dX12_begins_37 : decode cX12_begins 37 = .ok (.getfield 26, 3) := zo_180 (by decide +kernel)
theorem dX12_begins_40 : decode cX12_begins 40 = .ok (.iload_n 1, 1) := zo_27 (by decide +kernel)
theorem dX12_begins_41 : decode cX12_begins 41 = .ok (.aload_n 0, 1) := zo_42 (by decide +kernel)
theorem dX12_begins_42 : decode cX12_begins 42 = .ok (.getfield 7, 3) := zo_180 (by decide +kernel)
theorem dX12_begins_45 : decode cX12_begins 45 = .ok (.aload_n 0, 1) := zo_42 (by decide +kernel)
theorem dX12_begins_46 : decode cX12_begins 46 = .ok (.getfield 166, 3) := zo_180 (by decide +kernel)
theorem dX12_begins_49 : decode cX12_begins 49 = .ok (.bipush 16, 2) := zo_16 (by decide +kernel)
theorem dX12_begins_51 : decode cX12_begins 51 = .ok (.iadd, 1) := zo_96 (by decide +kernel)
theorem dX12_begins_52 : decode cX12_begins 52 = .ok (.iload_n 1, 1) := zo_27 (by decide +kernel)
theorem dX12_begins_53 : decode cX12_begins 53 = .ok (.iadd, 1) := zo_96 (by decide +kernel)
theorem dX12_begins_54 : decode cX12_begins 54 = .ok (.iaload, 1) := zo_46 (by decide +kernel)
theorem dX12_begins_55 : decode cX12_begins 55 = .ok (.iastore, 1) := zo_79 (by decide +kernel)
theorem dX12_begins_56 : decode cX12_begins 56 = .ok (.iinc 1 1, 3) := zo_132 (by decide +kernel)
theorem dX12_begins_59 : decode cX12_begins 59 = .ok (.goto (-47), 3) := zo_167 (by decide +kernel)
theorem dX12_begins_62 : decode cX12_begins 62 = .ok (.return_, 1) := zo_177 (by decide +kernel)
theorem dX12_isLand_0 : decode cX12_isLand 0 = .ok (.aload_n 0, 1) := zo_42 (by decide +kernel)
theorem dX12_isLand_1 : decode cX12_isLand 1 = .ok (.iconst 0, 1) := zo_3 (by decide +kernel)
theorem dX12_isLand_2 : decode cX12_isLand 2 = .ok (.iload_n 1, 1) := zo_27 (by decide +kernel)
theorem dX12_isLand_3 : decode cX12_isLand 3 = .ok (.invokevirtual 143, 3) := zo_182 (by decide +kernel)
theorem dX12_isLand_6 : decode cX12_isLand 6 = .ok (.ifCond .ne 5, 3) := zo_154 (by decide +kernel)
theorem dX12_isLand_9 : decode cX12_isLand 9 = .ok (.iconst 0, 1) := zo_3 (by decide +kernel)
theorem dX12_isLand_10 : decode cX12_isLand 10 = .ok (.ireturn, 1) := zo_172 (by decide +kernel)
theorem dX12_isLand_11 : decode cX12_isLand 11 = .ok (.aload_n 0, 1) := zo_42 (by decide +kernel)
theorem dX12_isLand_12 : decode cX12_isLand 12 = .ok (.iconst 0, 1) := zo_3 (by decide +kernel)
theorem dX12_isLand_13 : decode cX12_isLand 13 = .ok (.iload_n 1, 1) := zo_27 (by decide +kernel)
theorem dX12_isLand_14 : decode cX12_isLand 14 = .ok (.invokestatic 163, 3) := zo_184 (by decide +kernel)
theorem dX12_isLand_17 : decode cX12_isLand 17 = .ok (.putfield 166, 3) := zo_181 (by decide +kernel)
theorem dX12_isLand_20 : decode cX12_isLand 20 = .ok (.aload_n 0, 1) := zo_42 (by decide +kernel)
theorem dX12_isLand_21 : decode cX12_isLand 21 = .ok (.aload_n 0, 1) := zo_42 (by decide +kernel)
theorem dX12_isLand_22 : decode cX12_isLand 22 = .ok (.getfield 7, 3) := zo_180 (by decide +kernel)
theorem dX12_isLand_25 : decode cX12_isLand 25 = .ok (.aload_n 0, 1) := zo_42 (by decide +kernel)
theorem dX12_isLand_26 : decode cX12_isLand 26 = .ok (.getfield 166, 3) := zo_180 (by decide +kernel)
theorem dX12_isLand_29 : decode cX12_isLand 29 = .ok (.iaload, 1) := zo_46 (by decide +kernel)
theorem dX12_isLand_30 : decode cX12_isLand 30 = .ok (.putfield 169, 3) := zo_181 (by decide +kernel)
theorem dX12_isLand_33 : decode cX12_isLand 33 = .ok (.aload_n 0, 1) := zo_42 (by decide +kernel)
theorem dX12_isLand_34 : decode cX12_isLand 34 = .ok (.aload_n 0, 1) := zo_42 (by decide +kernel)
theorem dX12_isLand_35 : decode cX12_isLand 35 = .ok (.getfield 7, 3) := zo_180 (by decide +kernel)
theorem dX12_isLand_38 : decode cX12_isLand 38 = .ok (.aload_n 0, 1) := zo_42 (by decide +kernel)
theorem dX12_isLand_39 : decode cX12_isLand 39 = .ok (.getfield 166, 3) := zo_180 (by decide +kernel)
theorem dX12_isLand_42 : decode cX12_isLand 42 = .ok (.iconst 1, 1) := zo_4 (by decide +kernel)
theorem dX12_isLand_43 : decode cX12_isLand 43 = .ok (.iadd, 1) := zo_96 (by decide +kernel)
theorem dX12_isLand_44 : decode cX12_isLand 44 = .ok (.iaload, 1) := zo_46 (by decide +kernel)
theorem dX12_isLand_45 : decode cX12_isLand 45 = .ok (.putfield 172, 3) := zo_181 (by decide +kernel)
theorem dX12_isLand_48 : decode cX12_isLand 48 = .ok (.aload_n 0, 1) := zo_42 (by decide +kernel)
theorem dX12_isLand_49 : decode cX12_isLand 49 = .ok (.invokevirtual 175, 3) := zo_182 (by decide +kernel)
theorem dX12_isLand_52 : decode cX12_isLand 52 = .ok (.iconst 1, 1) := zo_4 (by decide +kernel)
theorem dX12_isLand_53 : decode cX12_isLand 53 = .ok (.ireturn, 1) := zo_172 (by decide +kernel)
theorem dX12_turns_0 : decode cX12_turns 0 = .ok (.aload_n 0, 1) := zo_42 (by decide +kernel)
theorem dX12_turns_1 : decode cX12_turns 1 = .ok (.iload_n 1, 1) := zo_27 (by decide +kernel)
theorem dX12_turns_2 : decode cX12_turns 2 = .ok (.invokevirtual 181, 3) := zo_182 (by decide +kernel)
theorem dX12_turns_5 : decode cX12_turns 5 = .ok (.istore_n 2, 1) := zo_61 (by decide +kernel)
theorem dX12_turns_6 : decode cX12_turns 6 = .ok (.iconst 1, 1) := zo_4 (by decide +kernel)
theorem dX12_turns_7 : decode cX12_turns 7 = .ok (.istore_n 3, 1) := zo_62 (by decide +kernel)
theorem dX12_turns_8 : decode cX12_turns 8 = .ok (.iload_n 3, 1) := zo_29 (by decide +kernel)
theorem dX12_turns_9 : decode cX12_turns 9 = .ok (.iload_n 2, 1) := zo_28 (by decide +kernel)
theorem dX12_turns_10 : decode cX12_turns 10 = .ok (.if_icmp .gt 49, 3) := zo_163 (by decide +kernel)
theorem dX12_turns_13 : decode cX12_turns 13 = .ok (.aload_n 0, 1) := zo_42 (by decide +kernel)
theorem dX12_turns_14 : decode cX12_turns 14 = .ok (.getfield 20, 3) := zo_180 (by decide +kernel)
theorem dX12_turns_17 : decode cX12_turns 17 = .ok (.iload_n 1, 1) := zo_27 (by decide +kernel)
theorem dX12_turns_18 : decode cX12_turns 18 = .ok (.iaload, 1) := zo_46 (by decide +kernel)
theorem dX12_turns_19 : decode cX12_turns 19 = .ok (.iload_n 3, 1) := zo_29 (by decide +kernel)
theorem dX12_turns_20 : decode cX12_turns 20 = .ok (.iadd, 1) := zo_96 (by decide +kernel)
theorem dX12_turns_21 : decode cX12_turns 21 = .ok (.iload_n 2, 1) := zo_28 (by decide +kernel)
theorem dX12_turns_22 : decode cX12_turns 22 = .ok (.irem, 1) := zo_112 (by decide +kernel)
theorem dX12_turns_23 : decode cX12_turns 23 = .ok (.istore 4, 2) := zo_54 (by decide +kernel)
theorem dX12_turns_25 : decode cX12_turns 25 = .ok (.aload_n 0, 1) := zo_42 (by decide +kernel)
theorem dX12_turns_26 : decode cX12_turns 26 = .ok (.getfield 23, 3) := zo_180 (by decide +kernel)
theorem dX12_turns_29 : decode cX12_turns 29 = .ok (.iload_n 1, 1) := zo_27 (by decide +kernel)
theorem dX12_turns_30 : decode cX12_turns 30 = .ok (.iaload, 1) := zo_46 (by decide +kernel)
theorem dX12_turns_31 : decode cX12_turns 31 = .ok (.iload 4, 2) := zo_21 (by decide +kernel)
theorem dX12_turns_33 : decode cX12_turns 33 = .ok (.ishr, 1) := zo_122 (by decide +kernel)
theorem dX12_turns_34 : decode cX12_turns 34 = .ok (.iconst 1, 1) := zo_4 (by decide +kernel)
theorem dX12_turns_35 : decode cX12_turns 35 = .ok (.iand, 1) := zo_126 (by decide +kernel)
theorem dX12_turns_36 : decode cX12_turns 36 = .ok (.iconst 1, 1) := zo_4 (by decide +kernel)
theorem dX12_turns_37 : decode cX12_turns 37 = .ok (.if_icmp .ne 6, 3) := zo_160 (by decide +kernel)
theorem dX12_turns_40 : decode cX12_turns 40 = .ok (.goto 13, 3) := zo_167 (by decide +kernel)
theorem dX12_turns_43 : decode cX12_turns 43 = .ok (.aload_n 0, 1) := zo_42 (by decide +kernel)
theorem dX12_turns_44 : decode cX12_turns 44 = .ok (.getfield 20, 3) := zo_180 (by decide +kernel)
theorem dX12_turns_47 : decode cX12_turns 47 = .ok (.iload_n 1, 1) := zo_27 (by decide +kernel)
theorem dX12_turns_48 : decode cX12_turns 48 = .ok (.iload 4, 2) := zo_21 (by decide +kernel)
theorem dX12_turns_50 : decode cX12_turns 50 = .ok (.iastore, 1) := zo_79 (by decide +kernel)
theorem dX12_turns_51 : decode cX12_turns 51 = .ok (.iconst 1, 1) := zo_4 (by decide +kernel)
theorem dX12_turns_52 : decode cX12_turns 52 = .ok (.ireturn, 1) := zo_172 (by decide +kernel)
theorem dX12_turns_53 : decode cX12_turns 53 = .ok (.iinc 3 1, 3) := zo_132 (by decide +kernel)
theorem dX12_turns_56 : decode cX12_turns 56 = .ok (.goto (-48), 3) := zo_167 (by decide +kernel)
theorem dX12_turns_59 : decode cX12_turns 59 = .ok (.iconst 0, 1) := zo_3 (by decide +kernel)
theorem dX12_turns_60 : decode cX12_turns 60 = .ok (.ireturn, 1) := zo_172 (by decide +kernel)
theorem dX12_stepsOn_0 : decode cX12_stepsOn 0 = .ok (.aload_n 0, 1) := zo_42 (by decide +kernel)
theorem dX12_stepsOn_1 : decode cX12_stepsOn 1 = .ok (.aload_n 0, 1) := zo_42 (by decide +kernel)
theorem dX12_stepsOn_2 : decode cX12_stepsOn 2 = .ok (.getfield 202, 3) := zo_180 (by decide +kernel)
theorem dX12_stepsOn_5 : decode cX12_stepsOn 5 = .ok (.invokevirtual 178, 3) := zo_182 (by decide +kernel)
theorem dX12_stepsOn_8 : decode cX12_stepsOn 8 = .ok (.ifCond .ne 14, 3) := zo_154 (by decide +kernel)
theorem dX12_stepsOn_11 : decode cX12_stepsOn 11 = .ok (.aload_n 0, 1) := zo_42 (by decide +kernel)
theorem dX12_stepsOn_12 : decode cX12_stepsOn 12 = .ok (.aload_n 0, 1) := zo_42 (by decide +kernel)
theorem dX12_stepsOn_13 : decode cX12_stepsOn 13 = .ok (.getfield 202, 3) := zo_180 (by decide +kernel)
theorem dX12_stepsOn_16 : decode cX12_stepsOn 16 = .ok (.invokevirtual 205, 3) := zo_182 (by decide +kernel)
theorem dX12_stepsOn_19 : decode cX12_stepsOn 19 = .ok (.ifCond .ne 5, 3) := zo_154 (by decide +kernel)
theorem dX12_stepsOn_22 : decode cX12_stepsOn 22 = .ok (.iconst 0, 1) := zo_3 (by decide +kernel)
theorem dX12_stepsOn_23 : decode cX12_stepsOn 23 = .ok (.ireturn, 1) := zo_172 (by decide +kernel)
theorem dX12_stepsOn_24 : decode cX12_stepsOn 24 = .ok (.aload_n 0, 1) := zo_42 (by decide +kernel)
theorem dX12_stepsOn_25 : decode cX12_stepsOn 25 = .ok (.aload_n 0, 1) := zo_42 (by decide +kernel)
theorem dX12_stepsOn_26 : decode cX12_stepsOn 26 = .ok (.aload_n 0, 1) := zo_42 (by decide +kernel)
theorem dX12_stepsOn_27 : decode cX12_stepsOn 27 = .ok (.getfield 202, 3) := zo_180 (by decide +kernel)
theorem dX12_stepsOn_30 : decode cX12_stepsOn 30 = .ok (.aload_n 0, 1) := zo_42 (by decide +kernel)
theorem dX12_stepsOn_31 : decode cX12_stepsOn 31 = .ok (.getfield 20, 3) := zo_180 (by decide +kernel)
theorem dX12_stepsOn_34 : decode cX12_stepsOn 34 = .ok (.aload_n 0, 1) := zo_42 (by decide +kernel)
theorem dX12_stepsOn_35 : decode cX12_stepsOn 35 = .ok (.getfield 202, 3) := zo_180 (by decide +kernel)
theorem dX12_stepsOn_38 : decode cX12_stepsOn 38 = .ok (.iaload, 1) := zo_46 (by decide +kernel)
theorem dX12_stepsOn_39 : decode cX12_stepsOn 39 = .ok (.invokevirtual 190, 3) := zo_182 (by decide +kernel)
theorem dX12_stepsOn_42 : decode cX12_stepsOn 42 = .ok (.putfield 202, 3) := zo_181 (by decide +kernel)
theorem dX12_stepsOn_45 : decode cX12_stepsOn 45 = .ok (.aload_n 0, 1) := zo_42 (by decide +kernel)
theorem dX12_stepsOn_46 : decode cX12_stepsOn 46 = .ok (.dup, 1) := zo_89 (by decide +kernel)
theorem dX12_stepsOn_47 : decode cX12_stepsOn 47 = .ok (.getfield 208, 3) := zo_180 (by decide +kernel)
theorem dX12_stepsOn_50 : decode cX12_stepsOn 50 = .ok (.iconst 1, 1) := zo_4 (by decide +kernel)
theorem dX12_stepsOn_51 : decode cX12_stepsOn 51 = .ok (.iadd, 1) := zo_96 (by decide +kernel)
theorem dX12_stepsOn_52 : decode cX12_stepsOn 52 = .ok (.putfield 208, 3) := zo_181 (by decide +kernel)
theorem dX12_stepsOn_55 : decode cX12_stepsOn 55 = .ok (.aload_n 0, 1) := zo_42 (by decide +kernel)
theorem dX12_stepsOn_56 : decode cX12_stepsOn 56 = .ok (.getfield 29, 3) := zo_180 (by decide +kernel)
theorem dX12_stepsOn_59 : decode cX12_stepsOn 59 = .ok (.aload_n 0, 1) := zo_42 (by decide +kernel)
theorem dX12_stepsOn_60 : decode cX12_stepsOn 60 = .ok (.getfield 202, 3) := zo_180 (by decide +kernel)
theorem dX12_stepsOn_63 : decode cX12_stepsOn 63 = .ok (.dup2, 1) := zo_92 (by decide +kernel)
theorem dX12_stepsOn_64 : decode cX12_stepsOn 64 = .ok (.iaload, 1) := zo_46 (by decide +kernel)
theorem dX12_stepsOn_65 : decode cX12_stepsOn 65 = .ok (.iconst 1, 1) := zo_4 (by decide +kernel)
theorem dX12_stepsOn_66 : decode cX12_stepsOn 66 = .ok (.iadd, 1) := zo_96 (by decide +kernel)
theorem dX12_stepsOn_67 : decode cX12_stepsOn 67 = .ok (.iastore, 1) := zo_79 (by decide +kernel)
theorem dX12_stepsOn_68 : decode cX12_stepsOn 68 = .ok (.iconst 1, 1) := zo_4 (by decide +kernel)
theorem dX12_stepsOn_69 : decode cX12_stepsOn 69 = .ok (.ireturn, 1) := zo_172 (by decide +kernel)

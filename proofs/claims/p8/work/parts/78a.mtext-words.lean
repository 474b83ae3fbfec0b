theorem m_co_X12_postsAreThere : Cond.code yX12_postsAreThere cX12_postsAreThere 3 (some .boolean) ∈ zT := zmem1 zsub_6 213 (by decide +kernel) (by decide +kernel)
theorem m_ml_RX12_156 : Cond.methodLink RX12 156 yX12_postsAreThere ∈ zT := zmem1 zsub_6 210 (by decide +kernel) (by decide +kernel)
theorem m_im_X12_postsAreThere : Cond.instanceMethod yX12_postsAreThere ∈ zT := zmem1 zsub_6 212 (by decide +kernel) (by decide +kernel)
theorem m_se_X12_postsAreThere : Cond.selects RX12 yX12_postsAreThere yX12_postsAreThere ∈ zT := zmem 58 (by decide +kernel) (by decide +kernel)
theorem m_co_X12_sizeOf : Cond.code yX12_sizeOf cX12_sizeOf 1 (some .int) ∈ zT := zmem1 zsub_6 216 (by decide +kernel) (by decide +kernel)
theorem m_ml_RX12_160 : Cond.methodLink RX12 160 yX12_sizeOf ∈ zT := zmem1 zsub_6 214 (by decide +kernel) (by decide +kernel)
theorem m_st_X12_sizeOf : Cond.static yX12_sizeOf ∈ zT := zmem1 zsub_6 215 (by decide +kernel) (by decide +kernel)
theorem m_co_X12_placeOf : Cond.code yX12_placeOf cX12_placeOf 2 (some .int) ∈ zT := zmem1 zsub_6 219 (by decide +kernel) (by decide +kernel)
theorem m_ml_RX12_163 : Cond.methodLink RX12 163 yX12_placeOf ∈ zT := zmem1 zsub_6 217 (by decide +kernel) (by decide +kernel)
theorem m_st_X12_placeOf : Cond.static yX12_placeOf ∈ zT := zmem1 zsub_6 218 (by decide +kernel) (by decide +kernel)
theorem m_co_X12_landLine : Cond.code yX12_landLine cX12_landLine 4 none ∈ zT := zmem1 zsub_6 173 (by decide +kernel) (by decide +kernel)
theorem m_ml_RX12_147 : Cond.methodLink RX12 147 yX12_landLine ∈ zT := zmem1 zsub_6 170 (by decide +kernel) (by decide +kernel)
theorem m_im_X12_landLine : Cond.instanceMethod yX12_landLine ∈ zT := zmem1 zsub_6 172 (by decide +kernel) (by decide +kernel)
theorem m_se_X12_landLine : Cond.selects RX12 yX12_landLine yX12_landLine ∈ zT := zmem 48 (by decide +kernel) (by decide +kernel)
theorem m_co_X12_isOf : Cond.code yX12_isOf cX12_isOf 3 (some .boolean) ∈ zT := zmem1 zsub_6 143 (by decide +kernel) (by decide +kernel)
theorem m_ml_RX12_143 : Cond.methodLink RX12 143 yX12_isOf ∈ zT := zmem1 zsub_6 140 (by decide +kernel) (by decide +kernel)
theorem m_im_X12_isOf : Cond.instanceMethod yX12_isOf ∈ zT := zmem1 zsub_6 142 (by decide +kernel) (by decide +kernel)
theorem m_se_X12_isOf : Cond.selects RX12 yX12_isOf yX12_isOf ∈ zT := zmem 45 (by decide +kernel) (by decide +kernel)
theorem m_co_X12_dayLine : Cond.code yX12_dayLine cX12_dayLine 6 none ∈ zT := zmem1 zsub_6 205 (by decide +kernel) (by decide +kernel)
theorem m_ml_RX12_150 : Cond.methodLink RX12 150 yX12_dayLine ∈ zT := zmem1 zsub_6 202 (by decide +kernel) (by decide +kernel)
theorem m_im_X12_dayLine : Cond.instanceMethod yX12_dayLine ∈ zT := zmem1 zsub_6 204 (by decide +kernel) (by decide +kernel)
theorem m_se_X12_dayLine : Cond.selects RX12 yX12_dayLine yX12_dayLine ∈ zT := zmem 56 (by decide +kernel) (by decide +kernel)
theorem m_co_X12_logLine : Cond.code yX12_logLine cX12_logLine 5 none ∈ zT := zmem1 zsub_6 209 (by decide +kernel) (by decide +kernel)
theorem m_ml_RX12_153 : Cond.methodLink RX12 153 yX12_logLine ∈ zT := zmem1 zsub_6 206 (by decide +kernel) (by decide +kernel)
theorem m_im_X12_logLine : Cond.instanceMethod yX12_logLine ∈ zT := zmem1 zsub_6 208 (by decide +kernel) (by decide +kernel)
theorem m_se_X12_logLine : Cond.selects RX12 yX12_logLine yX12_logLine ∈ zT := zmem 57 (by decide +kernel) (by decide +kernel)
theorem kV_RX12_156 {R : Room} {s : State} {args : Array Value} {d mc ms : Nat} (hts : ∀ w ∈ zT, w.before args s = true) (h1 : d + 1 ≤ R.frames) (h2 : 8 + (3 + 11) + 40 * d ≤ R.locals) : CallW R s args RX12 RX12 156 yX12_postsAreThere cX12_postsAreThere 3 (some .boolean) (zW yX12_postsAreThere cX12_postsAreThere 3 (some .boolean)) (zR d mc ms) mc ms 0 := z_cwV hts m_co_X12_postsAreThere m_ml_RX12_156 m_im_X12_postsAreThere m_se_X12_postsAreThere m_ii_RX12 (by decide +kernel) h1 h2
theorem kS_RX12_160 {R : Room} {s : State} {args : Array Value} {d mc ms : Nat} (hts : ∀ w ∈ zT, w.before args s = true) (h1 : d + 1 ≤ R.frames) (h2 : 8 + (1 + 11) + 40 * d ≤ R.locals) : CallB R s args RX12 160 yX12_sizeOf cX12_sizeOf 1 (some .int) (zW yX12_sizeOf cX12_sizeOf 1 (some .int)) (zR d mc ms) mc ms 1 ∧ (Cond.static yX12_sizeOf).before args s = true := z_cwS hts m_co_X12_sizeOf m_ml_RX12_160 m_st_X12_sizeOf m_ii_RX12 (by decide +kernel) h1 h2
theorem kS_RX12_163 {R : Room} {s : State} {args : Array Value} {d mc ms : Nat} (hts : ∀ w ∈ zT, w.before args s = true) (h1 : d + 1 ≤ R.frames) (h2 : 8 + (2 + 11) + 40 * d ≤ R.locals) : CallB R s args RX12 163 yX12_placeOf cX12_placeOf 2 (some .int) (zW yX12_placeOf cX12_placeOf 2 (some .int)) (zR d mc ms) mc ms 2 ∧ (Cond.static yX12_placeOf).before args s = true := z_cwS hts m_co_X12_placeOf m_ml_RX12_163 m_st_X12_placeOf m_ii_RX12 (by decide +kernel) h1 h2
theorem kV_RX12_147 {R : Room} {s : State} {args : Array Value} {d mc ms : Nat} (hts : ∀ w ∈ zT, w.before args s = true) (h1 : d + 1 ≤ R.frames) (h2 : 8 + (4 + 11) + 40 * d ≤ R.locals) : CallW R s args RX12 RX12 147 yX12_landLine cX12_landLine 4 none (zW yX12_landLine cX12_landLine 4 none) (zR d mc ms) mc ms 0 := z_cwV hts m_co_X12_landLine m_ml_RX12_147 m_im_X12_landLine m_se_X12_landLine m_ii_RX12 (by decide +kernel) h1 h2
theorem kV_RX12_143 {R : Room} {s : State} {args : Array Value} {d mc ms : Nat} (hts : ∀ w ∈ zT, w.before args s = true) (h1 : d + 1 ≤ R.frames) (h2 : 8 + (3 + 11) + 40 * d ≤ R.locals) : CallW R s args RX12 RX12 143 yX12_isOf cX12_isOf 3 (some .boolean) (zW yX12_isOf cX12_isOf 3 (some .boolean)) (zR d mc ms) mc ms 2 := z_cwV hts m_co_X12_isOf m_ml_RX12_143 m_im_X12_isOf m_se_X12_isOf m_ii_RX12 (by decide +kernel) h1 h2
theorem kV_RX12_150 {R : Room} {s : State} {args : Array Value} {d mc ms : Nat} (hts : ∀ w ∈ zT, w.before args s = true) (h1 : d + 1 ≤ R.frames) (h2 : 8 + (6 + 11) + 40 * d ≤ R.locals) : CallW R s args RX12 RX12 150 yX12_dayLine cX12_dayLine 6 none (zW yX12_dayLine cX12_dayLine 6 none) (zR d mc ms) mc ms 0 := z_cwV hts m_co_X12_dayLine m_ml_RX12_150 m_im_X12_dayLine m_se_X12_dayLine m_ii_RX12 (by decide +kernel) h1 h2
theorem kV_RX12_153 {R : Room} {s : State} {args : Array Value} {d mc ms : Nat} (hts : ∀ w ∈ zT, w.before args s = true) (h1 : d + 1 ≤ R.frames) (h2 : 8 + (5 + 11) + 40 * d ≤ R.locals) : CallW R s args RX12 RX12 153 yX12_logLine cX12_logLine 5 none (zW yX12_logLine cX12_logLine 5 none) (zR d mc ms) mc ms 0 := z_cwV hts m_co_X12_logLine m_ml_RX12_153 m_im_X12_logLine m_se_X12_logLine m_ii_RX12 (by decide +kernel) h1 h2
theorem dX12_text_0 : decode cX12_text 0 = .ok (.aload_n 0, 1) := by decide +kernel
theorem dX12_text_1 : decode cX12_text 1 = .ok (.aload_n 0, 1) := by decide +kernel
theorem dX12_text_2 : decode cX12_text 2 = .ok (.getfield 7, 3) := by decide +kernel
theorem dX12_text_5 : decode cX12_text 5 = .ok (.iconst 4, 1) := by decide +kernel
theorem dX12_text_6 : decode cX12_text 6 = .ok (.iaload, 1) := by decide +kernel
theorem dX12_text_7 : decode cX12_text 7 = .ok (.putfield 56, 3) := by decide +kernel
theorem dX12_text_10 : decode cX12_text 10 = .ok (.aload_n 0, 1) := by decide +kernel
theorem dX12_text_11 : decode cX12_text 11 = .ok (.getfield 7, 3) := by decide +kernel
theorem dX12_text_14 : decode cX12_text 14 = .ok (.iconst 4, 1) := by decide +kernel
theorem dX12_text_15 : decode cX12_text 15 = .ok (.iconst 0, 1) := by decide +kernel
theorem dX12_text_16 : decode cX12_text 16 = .ok (.iastore, 1) := by decide +kernel
theorem dX12_text_17 : decode cX12_text 17 = .ok (.aload_n 0, 1) := by decide +kernel
theorem dX12_text_18 : decode cX12_text 18 = .ok (.getfield 7, 3) := by decide +kernel
theorem dX12_text_21 : decode cX12_text 21 = .ok (.iconst 5, 1) := by decide +kernel
theorem dX12_text_22 : decode cX12_text 22 = .ok (.iconst 0, 1) := by decide +kernel
theorem dX12_text_23 : decode cX12_text 23 = .ok (.iastore, 1) := by decide +kernel
theorem dX12_text_24 : decode cX12_text 24 = .ok (.aload_n 0, 1) := by decide +kernel
theorem dX12_text_25 : decode cX12_text 25 = .ok (.getfield 7, 3) := by decide +kernel
theorem dX12_text_28 : decode cX12_text 28 = .ok (.bipush 6, 2) := by decide +kernel
theorem dX12_text_30 : decode cX12_text 30 = .ok (.iconst (-1), 1) := by decide +kernel
theorem dX12_text_31 : decode cX12_text 31 = .ok (.iastore, 1) := by decide +kernel
theorem dX12_text_32 : decode cX12_text 32 = .ok (.iload_n 1, 1) := by decide +kernel
theorem dX12_text_33 : decode cX12_text 33 = .ok (.iconst 0, 1) := by decide +kernel
theorem dX12_text_34 : decode cX12_text 34 = .ok (.iconst 2, 1) := by decide +kernel
theorem dX12_text_35 : decode cX12_text 35 = .ok (.invokestatic 111, 3) := by decide +kernel
theorem dX12_text_38 : decode cX12_text 38 = .ok (.ifCond .eq 30, 3) := by decide +kernel
theorem dX12_text_41 : decode cX12_text 41 = .ok (.iload_n 2, 1) := by decide +kernel
theorem dX12_text_42 : decode cX12_text 42 = .ok (.iconst (-1), 1) := by decide +kernel
theorem dX12_text_43 : decode cX12_text 43 = .ok (.if_icmp .ne 16, 3) := by decide +kernel
theorem dX12_text_46 : decode cX12_text 46 = .ok (.aload_n 0, 1) := by decide +kernel
theorem dX12_text_47 : decode cX12_text 47 = .ok (.getfield 7, 3) := by decide +kernel
theorem dX12_text_50 : decode cX12_text 50 = .ok (.iload_n 1, 1) := by decide +kernel
theorem dX12_text_51 : decode cX12_text 51 = .ok (.iaload, 1) := by decide +kernel
theorem dX12_text_52 : decode cX12_text 52 = .ok (.iconst 2, 1) := by decide +kernel
theorem dX12_text_53 : decode cX12_text 53 = .ok (.if_icmp .lt 18, 3) := by decide +kernel
theorem dX12_text_56 : decode cX12_text 56 = .ok (.goto 12, 3) := by decide +kernel
theorem dX12_text_59 : decode cX12_text 59 = .ok (.aload_n 0, 1) := by decide +kernel
theorem dX12_text_60 : decode cX12_text 60 = .ok (.iload_n 1, 1) := by decide +kernel
theorem dX12_text_61 : decode cX12_text 61 = .ok (.iload_n 2, 1) := by decide +kernel
theorem dX12_text_62 : decode cX12_text 62 = .ok (.invokevirtual 143, 3) := by decide +kernel
theorem dX12_text_65 : decode cX12_text 65 = .ok (.ifCond .ne 6, 3) := by decide +kernel
theorem dX12_text_68 : decode cX12_text 68 = .ok (.bipush (-2), 2) := by decide +kernel
theorem dX12_text_70 : decode cX12_text 70 = .ok (.ireturn, 1) := by decide +kernel
theorem dX12_text_71 : decode cX12_text 71 = .ok (.aload_n 0, 1) := by decide +kernel
theorem dX12_text_72 : decode cX12_text 72 = .ok (.iconst 0, 1) := by decide +kernel
theorem dX12_text_73 : decode cX12_text 73 = .ok (.putfield 70, 3) := by decide +kernel
theorem dX12_text_76 : decode cX12_text 76 = .ok (.aload_n 0, 1) := by decide +kernel
theorem dX12_text_77 : decode cX12_text 77 = .ok (.iconst 0, 1) := by decide +kernel
theorem dX12_text_78 : decode cX12_text 78 = .ok (.putfield 104, 3) := by decide +kernel
theorem dX12_text_81 : decode cX12_text 81 = .ok (.aload_n 0, 1) := by decide +kernel
theorem dX12_text_82 : decode cX12_text 82 = .ok (.iconst (-1), 1) := by decide +kernel
theorem dX12_text_83 : decode cX12_text 83 = .ok (.putfield 126, 3) := by decide +kernel
theorem dX12_text_86 : decode cX12_text 86 = .ok (.iconst 0, 1) := by decide +kernel
theorem dX12_text_87 : decode cX12_text 87 = .ok (.istore_n 3, 1) := by decide +kernel
theorem dX12_text_88 : decode cX12_text 88 = .ok (.iload_n 3, 1) := by decide +kernel
theorem dX12_text_89 : decode cX12_text 89 = .ok (.bipush 121, 2) := by decide +kernel
theorem dX12_text_91 : decode cX12_text 91 = .ok (.if_icmp .ge 16, 3) := by decide +kernel
theorem dX12_text_94 : decode cX12_text 94 = .ok (.aload_n 0, 1) := by decide +kernel
theorem dX12_text_95 : decode cX12_text 95 = .ok (.getfield 17, 3) := by decide +kernel
theorem dX12_text_98 : decode cX12_text 98 = .ok (.iload_n 3, 1) := by decide +kernel
theorem dX12_text_99 : decode cX12_text 99 = .ok (.iconst 0, 1) := by decide +kernel
theorem dX12_text_100 : decode cX12_text 100 = .ok (.iastore, 1) := by decide +kernel
theorem dX12_text_101 : decode cX12_text 101 = .ok (.iinc 3 1, 3) := by decide +kernel
theorem dX12_text_104 : decode cX12_text 104 = .ok (.goto (-16), 3) := by decide +kernel
theorem dX12_text_107 : decode cX12_text 107 = .ok (.aload_n 0, 1) := by decide +kernel
theorem dX12_text_108 : decode cX12_text 108 = .ok (.invokevirtual 119, 3) := by decide +kernel
theorem dX12_text_111 : decode cX12_text 111 = .ok (.aload_n 0, 1) := by decide +kernel
theorem dX12_text_112 : decode cX12_text 112 = .ok (.getfield 104, 3) := by decide +kernel
theorem dX12_text_115 : decode cX12_text 115 = .ok (.ifCond .ne 58, 3) := by decide +kernel
theorem dX12_text_118 : decode cX12_text 118 = .ok (.aload_n 0, 1) := by decide +kernel
theorem dX12_text_119 : decode cX12_text 119 = .ok (.getfield 80, 3) := by decide +kernel
theorem dX12_text_122 : decode cX12_text 122 = .ok (.ifCond .eq 51, 3) := by decide +kernel
theorem dX12_text_125 : decode cX12_text 125 = .ok (.iload_n 1, 1) := by decide +kernel
theorem dX12_text_126 : decode cX12_text 126 = .ok (.lookupswitch 40 #[(0, 26), (1, 33)], 26) := by decide +kernel
theorem dX12_text_152 : decode cX12_text 152 = .ok (.aload_n 0, 1) := by decide +kernel
theorem dX12_text_153 : decode cX12_text 153 = .ok (.invokevirtual 147, 3) := by decide +kernel
theorem dX12_text_156 : decode cX12_text 156 = .ok (.goto (-45), 3) := by decide +kernel
theorem dX12_text_159 : decode cX12_text 159 = .ok (.aload_n 0, 1) := by decide +kernel
theorem dX12_text_160 : decode cX12_text 160 = .ok (.invokevirtual 150, 3) := by decide +kernel
theorem dX12_text_163 : decode cX12_text 163 = .ok (.goto (-52), 3) := by decide +kernel
theorem dX12_text_166 : decode cX12_text 166 = .ok (.aload_n 0, 1) := by decide +kernel
theorem dX12_text_167 : decode cX12_text 167 = .ok (.invokevirtual 153, 3) := by decide +kernel
theorem dX12_text_170 : decode cX12_text 170 = .ok (.goto (-59), 3) := by decide +kernel
theorem dX12_text_173 : decode cX12_text 173 = .ok (.iload_n 1, 1) := by decide +kernel
theorem dX12_text_174 : decode cX12_text 174 = .ok (.ifCond .ne 34, 3) := by decide +kernel
theorem dX12_text_177 : decode cX12_text 177 = .ok (.aload_n 0, 1) := by decide +kernel
theorem dX12_text_178 : decode cX12_text 178 = .ok (.getfield 7, 3) := by decide +kernel
theorem dX12_text_181 : decode cX12_text 181 = .ok (.iconst 5, 1) := by decide +kernel
theorem dX12_text_182 : decode cX12_text 182 = .ok (.iaload, 1) := by decide +kernel
theorem dX12_text_183 : decode cX12_text 183 = .ok (.ifCond .ne 25, 3) := by decide +kernel
theorem dX12_text_186 : decode cX12_text 186 = .ok (.aload_n 0, 1) := by decide +kernel
theorem dX12_text_187 : decode cX12_text 187 = .ok (.getfield 126, 3) := by decide +kernel
theorem dX12_text_190 : decode cX12_text 190 = .ok (.aload_n 0, 1) := by decide +kernel
theorem dX12_text_191 : decode cX12_text 191 = .ok (.getfield 17, 3) := by decide +kernel
theorem dX12_text_194 : decode cX12_text 194 = .ok (.iconst 0, 1) := by decide +kernel
theorem dX12_text_195 : decode cX12_text 195 = .ok (.iaload, 1) := by decide +kernel
theorem dX12_text_196 : decode cX12_text 196 = .ok (.if_icmp .lt 12, 3) := by decide +kernel
theorem dX12_text_199 : decode cX12_text 199 = .ok (.aload_n 0, 1) := by decide +kernel
theorem dX12_text_200 : decode cX12_text 200 = .ok (.iconst 4, 1) := by decide +kernel
theorem dX12_text_201 : decode cX12_text 201 = .ok (.aload_n 0, 1) := by decide +kernel
theorem dX12_text_202 : decode cX12_text 202 = .ok (.getfield 77, 3) := by decide +kernel
theorem dX12_text_205 : decode cX12_text 205 = .ok (.invokevirtual 115, 3) := by decide +kernel
theorem dX12_text_208 : decode cX12_text 208 = .ok (.iload_n 1, 1) := by decide +kernel
theorem dX12_text_209 : decode cX12_text 209 = .ok (.ifCond .ne 28, 3) := by decide +kernel
theorem dX12_text_212 : decode cX12_text 212 = .ok (.aload_n 0, 1) := by decide +kernel
theorem dX12_text_213 : decode cX12_text 213 = .ok (.getfield 7, 3) := by decide +kernel
theorem dX12_text_216 : decode cX12_text 216 = .ok (.iconst 5, 1) := by decide +kernel
theorem dX12_text_217 : decode cX12_text 217 = .ok (.iaload, 1) := by decide +kernel
theorem dX12_text_218 : decode cX12_text 218 = .ok (.ifCond .ne 19, 3) := by decide +kernel
theorem dX12_text_221 : decode cX12_text 221 = .ok (.aload_n 0, 1) := by decide +kernel
theorem dX12_text_222 : decode cX12_text 222 = .ok (.invokevirtual 156, 3) := by decide +kernel
theorem dX12_text_225 : decode cX12_text 225 = .ok (.ifCond .ne 12, 3) := by decide +kernel
theorem dX12_text_228 : decode cX12_text 228 = .ok (.aload_n 0, 1) := by decide +kernel
theorem dX12_text_229 : decode cX12_text 229 = .ok (.iconst 5, 1) := by decide +kernel
theorem dX12_text_230 : decode cX12_text 230 = .ok (.aload_n 0, 1) := by decide +kernel
theorem dX12_text_231 : decode cX12_text 231 = .ok (.getfield 77, 3) := by decide +kernel
theorem dX12_text_234 : decode cX12_text 234 = .ok (.invokevirtual 115, 3) := by decide +kernel
theorem dX12_text_237 : decode cX12_text 237 = .ok (.aload_n 0, 1) := by decide +kernel
theorem dX12_text_238 : decode cX12_text 238 = .ok (.getfield 7, 3) := by decide +kernel
theorem dX12_text_241 : decode cX12_text 241 = .ok (.iconst 5, 1) := by decide +kernel
theorem dX12_text_242 : decode cX12_text 242 = .ok (.iaload, 1) := by decide +kernel
theorem dX12_text_243 : decode cX12_text 243 = .ok (.ifCond .eq 5, 3) := by decide +kernel
theorem dX12_text_246 : decode cX12_text 246 = .ok (.iconst (-1), 1) := by decide +kernel
theorem dX12_text_247 : decode cX12_text 247 = .ok (.ireturn, 1) := by decide +kernel
theorem dX12_text_248 : decode cX12_text 248 = .ok (.iload_n 2, 1) := by decide +kernel
theorem dX12_text_249 : decode cX12_text 249 = .ok (.iconst (-1), 1) := by decide +kernel
theorem dX12_text_250 : decode cX12_text 250 = .ok (.if_icmp .ne 12, 3) := by decide +kernel
theorem dX12_text_253 : decode cX12_text 253 = .ok (.aload_n 0, 1) := by decide +kernel
theorem dX12_text_254 : decode cX12_text 254 = .ok (.getfield 7, 3) := by decide +kernel
theorem dX12_text_257 : decode cX12_text 257 = .ok (.iload_n 1, 1) := by decide +kernel
theorem dX12_text_258 : decode cX12_text 258 = .ok (.iaload, 1) := by decide +kernel
theorem dX12_text_259 : decode cX12_text 259 = .ok (.goto 4, 3) := by decide +kernel
theorem dX12_text_262 : decode cX12_text 262 = .ok (.iload_n 2, 1) := by decide +kernel
theorem dX12_text_263 : decode cX12_text 263 = .ok (.istore_n 3, 1) := by decide +kernel
theorem dX12_text_264 : decode cX12_text 264 = .ok (.iload_n 2, 1) := by decide +kernel
theorem dX12_text_265 : decode cX12_text 265 = .ok (.iconst (-1), 1) := by decide +kernel
theorem dX12_text_266 : decode cX12_text 266 = .ok (.if_icmp .ne 13, 3) := by decide +kernel
theorem dX12_text_269 : decode cX12_text 269 = .ok (.aload_n 0, 1) := by decide +kernel
theorem dX12_text_270 : decode cX12_text 270 = .ok (.getfield 7, 3) := by decide +kernel
theorem dX12_text_273 : decode cX12_text 273 = .ok (.iload_n 1, 1) := by decide +kernel
theorem dX12_text_274 : decode cX12_text 274 = .ok (.dup2, 1) := by decide +kernel
theorem dX12_text_275 : decode cX12_text 275 = .ok (.iaload, 1) := by decide +kernel
theorem dX12_text_276 : decode cX12_text 276 = .ok (.iconst 1, 1) := by decide +kernel
theorem dX12_text_277 : decode cX12_text 277 = .ok (.iadd, 1) := by decide +kernel
theorem dX12_text_278 : decode cX12_text 278 = .ok (.iastore, 1) := by decide +kernel
theorem dX12_text_279 : decode cX12_text 279 = .ok (.iconst 0, 1) := by decide +kernel
theorem dX12_text_280 : decode cX12_text 280 = .ok (.istore 4, 2) := by decide +kernel
theorem dX12_text_282 : decode cX12_text 282 = .ok (.iload 4, 2) := by decide +kernel
theorem dX12_text_284 : decode cX12_text 284 = .ok (.iload_n 1, 1) := by decide +kernel
theorem dX12_text_285 : decode cX12_text 285 = .ok (.invokestatic 160, 3) := by decide +kernel
theorem dX12_text_288 : decode cX12_text 288 = .ok (.if_icmp .ge 29, 3) := by decide +kernel
theorem dX12_text_291 : decode cX12_text 291 = .ok (.aload_n 0, 1) := by decide +kernel
theorem dX12_text_292 : decode cX12_text 292 = .ok (.getfield 7, 3) := by decide +kernel
theorem dX12_text_295 : decode cX12_text 295 = .ok (.iload_n 1, 1) := by decide +kernel
theorem dX12_text_296 : decode cX12_text 296 = .ok (.iload_n 3, 1) := by decide +kernel
theorem dX12_text_297 : decode cX12_text 297 = .ok (.invokestatic 163, 3) := by decide +kernel
theorem dX12_text_300 : decode cX12_text 300 = .ok (.iload 4, 2) := by decide +kernel
theorem dX12_text_302 : decode cX12_text 302 = .ok (.iadd, 1) := by decide +kernel
theorem dX12_text_303 : decode cX12_text 303 = .ok (.aload_n 0, 1) := by decide +kernel
theorem dX12_text_304 : decode cX12_text 304 = .ok (.getfield 17, 3) := by decide +kernel
theorem dX12_text_307 : decode cX12_text 307 = .ok (.iload 4, 2) := by decide +kernel
theorem dX12_text_309 : decode cX12_text 309 = .ok (.iaload, 1) := by decide +kernel
theorem dX12_text_310 : decode cX12_text 310 = .ok (.iastore, 1) := by decide +kernel
theorem dX12_text_311 : decode cX12_text 311 = .ok (.iinc 4 1, 3) := by decide +kernel
theorem dX12_text_314 : decode cX12_text 314 = .ok (.goto (-32), 3) := by decide +kernel
theorem dX12_text_317 : decode cX12_text 317 = .ok (.iload_n 3, 1) := by decide +kernel
theorem dX12_text_318 : decode cX12_text 318 = .ok (.ireturn, 1) := by decide +kernel


theorem m_fl_RX12_70 : Cond.fieldLink RX12 70 (TX12 3).1 (TX12 3).2.1 (TX12 3).2.2.1 ∈ zT := zmem1 zsub_5 238 (by decide +kernel) (by decide +kernel)
theorem m_co_X12_byteAt : Cond.code yX12_byteAt cX12_byteAt 2 (some .int) ∈ zT := zmem1 zsub_6 151 (by decide +kernel) (by decide +kernel)
theorem m_ml_RX12_73 : Cond.methodLink RX12 73 yX12_byteAt ∈ zT := zmem1 zsub_6 148 (by decide +kernel) (by decide +kernel)
theorem m_im_X12_byteAt : Cond.instanceMethod yX12_byteAt ∈ zT := zmem1 zsub_6 150 (by decide +kernel) (by decide +kernel)
theorem m_se_X12_byteAt : Cond.selects RX12 yX12_byteAt yX12_byteAt ∈ zT := zmem 47 (by decide +kernel) (by decide +kernel)
theorem m_fl_RX12_77 : Cond.fieldLink RX12 77 (TX12 4).1 (TX12 4).2.1 (TX12 4).2.2.1 ∈ zT := zmem1 zsub_5 239 (by decide +kernel) (by decide +kernel)
theorem m_co_X12_isLetter : Cond.code yX12_isLetter cX12_isLetter 1 (some .boolean) ∈ zT := zmem1 zsub_6 154 (by decide +kernel) (by decide +kernel)
theorem m_ml_RX12_83 : Cond.methodLink RX12 83 yX12_isLetter ∈ zT := zmem1 zsub_6 152 (by decide +kernel) (by decide +kernel)
theorem m_st_X12_isLetter : Cond.static yX12_isLetter ∈ zT := zmem1 zsub_6 153 (by decide +kernel) (by decide +kernel)
theorem m_kl_RX12_87 : Cond.constantLong RX12 87 32 ∈ zT := zmem1 zsub_6 155 (by decide +kernel) (by decide +kernel)
theorem m_kl_RX12_89 : Cond.constantLong RX12 89 96 ∈ zT := zmem1 zsub_6 156 (by decide +kernel) (by decide +kernel)
theorem m_co_X12_wordOf : Cond.code yX12_wordOf cX12_wordOf 2 (some .int) ∈ zT := zmem1 zsub_6 159 (by decide +kernel) (by decide +kernel)
theorem m_ml_RX12_91 : Cond.methodLink RX12 91 yX12_wordOf ∈ zT := zmem1 zsub_6 157 (by decide +kernel) (by decide +kernel)
theorem m_st_X12_wordOf : Cond.static yX12_wordOf ∈ zT := zmem1 zsub_6 158 (by decide +kernel) (by decide +kernel)
theorem m_fl_RX12_95 : Cond.fieldLink RX12 95 (TX12 7).1 (TX12 7).2.1 (TX12 7).2.2.1 ∈ zT := zmem1 zsub_6 2 (by decide +kernel) (by decide +kernel)
theorem m_fl_RX12_80 : Cond.fieldLink RX12 80 (TX12 5).1 (TX12 5).2.1 (TX12 5).2.2.1 ∈ zT := zmem1 zsub_6 0 (by decide +kernel) (by decide +kernel)
theorem m_co_X12_isDigit : Cond.code yX12_isDigit cX12_isDigit 1 (some .boolean) ∈ zT := zmem1 zsub_6 169 (by decide +kernel) (by decide +kernel)
theorem m_ml_RX12_98 : Cond.methodLink RX12 98 yX12_isDigit ∈ zT := zmem1 zsub_6 167 (by decide +kernel) (by decide +kernel)
theorem m_st_X12_isDigit : Cond.static yX12_isDigit ∈ zT := zmem1 zsub_6 168 (by decide +kernel) (by decide +kernel)
theorem m_fl_RX12_101 : Cond.fieldLink RX12 101 (TX12 6).1 (TX12 6).2.1 (TX12 6).2.2.1 ∈ zT := zmem1 zsub_6 1 (by decide +kernel) (by decide +kernel)
theorem kV_RX12_73 {R : Room} {s : State} {args : Array Value} {d mc ms : Nat} (hts : ∀ w ∈ zT, w.before args s = true) (h1 : d + 1 ≤ R.frames) (h2 : 8 + (2 + 11) + 40 * d ≤ R.locals) : CallW R s args RX12 RX12 73 yX12_byteAt cX12_byteAt 2 (some .int) (zW yX12_byteAt cX12_byteAt 2 (some .int)) (zR d mc ms) mc ms 1 := z_cwV hts m_co_X12_byteAt m_ml_RX12_73 m_im_X12_byteAt m_se_X12_byteAt m_ii_RX12 (by decide +kernel) h1 h2
theorem kS_RX12_83 {R : Room} {s : State} {args : Array Value} {d mc ms : Nat} (hts : ∀ w ∈ zT, w.before args s = true) (h1 : d + 1 ≤ R.frames) (h2 : 8 + (1 + 11) + 40 * d ≤ R.locals) : CallB R s args RX12 83 yX12_isLetter cX12_isLetter 1 (some .boolean) (zW yX12_isLetter cX12_isLetter 1 (some .boolean)) (zR d mc ms) mc ms 1 ∧ (Cond.static yX12_isLetter).before args s = true := z_cwS hts m_co_X12_isLetter m_ml_RX12_83 m_st_X12_isLetter m_ii_RX12 (by decide +kernel) h1 h2
theorem kS_RX12_91 {R : Room} {s : State} {args : Array Value} {d mc ms : Nat} (hts : ∀ w ∈ zT, w.before args s = true) (h1 : d + 1 ≤ R.frames) (h2 : 8 + (2 + 11) + 40 * d ≤ R.locals) : CallB R s args RX12 91 yX12_wordOf cX12_wordOf 2 (some .int) (zW yX12_wordOf cX12_wordOf 2 (some .int)) (zR d mc ms) mc ms 1 ∧ (Cond.static yX12_wordOf).before args s = true := z_cwS hts m_co_X12_wordOf m_ml_RX12_91 m_st_X12_wordOf m_ii_RX12 (by decide +kernel) h1 h2
theorem kS_RX12_98 {R : Room} {s : State} {args : Array Value} {d mc ms : Nat} (hts : ∀ w ∈ zT, w.before args s = true) (h1 : d + 1 ≤ R.frames) (h2 : 8 + (1 + 11) + 40 * d ≤ R.locals) : CallB R s args RX12 98 yX12_isDigit cX12_isDigit 1 (some .boolean) (zW yX12_isDigit cX12_isDigit 1 (some .boolean)) (zR d mc ms) mc ms 1 ∧ (Cond.static yX12_isDigit).before args s = true := z_cwS hts m_co_X12_isDigit m_ml_RX12_98 m_st_X12_isDigit m_ii_RX12 (by decide +kernel) h1 h2
theorem dX12_advance_0 : decode cX12_advance 0 = .ok (.aload_n 0, 1) := by decide +kernel
theorem dX12_advance_1 : decode cX12_advance 1 = .ok (.aload_n 0, 1) := by decide +kernel
theorem dX12_advance_2 : decode cX12_advance 2 = .ok (.getfield 70, 3) := by decide +kernel
theorem dX12_advance_5 : decode cX12_advance 5 = .ok (.invokevirtual 73, 3) := by decide +kernel
theorem dX12_advance_8 : decode cX12_advance 8 = .ok (.bipush 10, 2) := by decide +kernel
theorem dX12_advance_10 : decode cX12_advance 10 = .ok (.if_icmp .eq 16, 3) := by decide +kernel
theorem dX12_advance_13 : decode cX12_advance 13 = .ok (.aload_n 0, 1) := by decide +kernel
theorem dX12_advance_14 : decode cX12_advance 14 = .ok (.aload_n 0, 1) := by decide +kernel
theorem dX12_advance_15 : decode cX12_advance 15 = .ok (.getfield 70, 3) := by decide +kernel
theorem dX12_advance_18 : decode cX12_advance 18 = .ok (.invokevirtual 73, 3) := by decide +kernel
theorem dX12_advance_21 : decode cX12_advance 21 = .ok (.bipush 32, 2) := by decide +kernel
theorem dX12_advance_23 : decode cX12_advance 23 = .ok (.if_icmp .ne 16, 3) := by decide +kernel
theorem dX12_advance_26 : decode cX12_advance 26 = .ok (.aload_n 0, 1) := by decide +kernel
theorem dX12_advance_27 : decode cX12_advance 27 = .ok (.dup, 1) := by decide +kernel
theorem dX12_advance_28 : decode cX12_advance 28 = .ok (.getfield 70, 3) := by decide +kernel
theorem dX12_advance_31 : decode cX12_advance 31 = .ok (.iconst 1, 1) := by decide +kernel
theorem dX12_advance_32 : decode cX12_advance 32 = .ok (.iadd, 1) := by decide +kernel
theorem dX12_advance_33 : decode cX12_advance 33 = .ok (.putfield 70, 3) := by decide +kernel
theorem dX12_advance_36 : decode cX12_advance 36 = .ok (.goto (-36), 3) := by decide +kernel
theorem dX12_advance_39 : decode cX12_advance 39 = .ok (.aload_n 0, 1) := by decide +kernel
theorem dX12_advance_40 : decode cX12_advance 40 = .ok (.aload_n 0, 1) := by decide +kernel
theorem dX12_advance_41 : decode cX12_advance 41 = .ok (.getfield 70, 3) := by decide +kernel
theorem dX12_advance_44 : decode cX12_advance 44 = .ok (.putfield 77, 3) := by decide +kernel
theorem dX12_advance_47 : decode cX12_advance 47 = .ok (.aload_n 0, 1) := by decide +kernel
theorem dX12_advance_48 : decode cX12_advance 48 = .ok (.aload_n 0, 1) := by decide +kernel
theorem dX12_advance_49 : decode cX12_advance 49 = .ok (.getfield 70, 3) := by decide +kernel
theorem dX12_advance_52 : decode cX12_advance 52 = .ok (.invokevirtual 73, 3) := by decide +kernel
theorem dX12_advance_55 : decode cX12_advance 55 = .ok (.istore_n 1, 1) := by decide +kernel
theorem dX12_advance_56 : decode cX12_advance 56 = .ok (.iload_n 1, 1) := by decide +kernel
theorem dX12_advance_57 : decode cX12_advance 57 = .ok (.ifCond .ge 11, 3) := by decide +kernel
theorem dX12_advance_60 : decode cX12_advance 60 = .ok (.aload_n 0, 1) := by decide +kernel
theorem dX12_advance_61 : decode cX12_advance 61 = .ok (.iconst 0, 1) := by decide +kernel
theorem dX12_advance_62 : decode cX12_advance 62 = .ok (.putfield 80, 3) := by decide +kernel
theorem dX12_advance_65 : decode cX12_advance 65 = .ok (.goto 246, 3) := by decide +kernel
theorem dX12_advance_68 : decode cX12_advance 68 = .ok (.iload_n 1, 1) := by decide +kernel
theorem dX12_advance_69 : decode cX12_advance 69 = .ok (.invokestatic 83, 3) := by decide +kernel
theorem dX12_advance_72 : decode cX12_advance 72 = .ok (.ifCond .eq 114, 3) := by decide +kernel
theorem dX12_advance_75 : decode cX12_advance 75 = .ok (.lconst 0, 1) := by decide +kernel
theorem dX12_advance_76 : decode cX12_advance 76 = .ok (.lstore_n 2, 1) := by decide +kernel
theorem dX12_advance_77 : decode cX12_advance 77 = .ok (.aload_n 0, 1) := by decide +kernel
theorem dX12_advance_78 : decode cX12_advance 78 = .ok (.aload_n 0, 1) := by decide +kernel
theorem dX12_advance_79 : decode cX12_advance 79 = .ok (.getfield 70, 3) := by decide +kernel
theorem dX12_advance_82 : decode cX12_advance 82 = .ok (.invokevirtual 73, 3) := by decide +kernel
theorem dX12_advance_85 : decode cX12_advance 85 = .ok (.invokestatic 83, 3) := by decide +kernel
theorem dX12_advance_88 : decode cX12_advance 88 = .ok (.ifCond .eq 50, 3) := by decide +kernel
theorem dX12_advance_91 : decode cX12_advance 91 = .ok (.aload_n 0, 1) := by decide +kernel
theorem dX12_advance_92 : decode cX12_advance 92 = .ok (.getfield 70, 3) := by decide +kernel
theorem dX12_advance_95 : decode cX12_advance 95 = .ok (.aload_n 0, 1) := by decide +kernel
theorem dX12_advance_96 : decode cX12_advance 96 = .ok (.getfield 77, 3) := by decide +kernel
theorem dX12_advance_99 : decode cX12_advance 99 = .ok (.isub, 1) := by decide +kernel
theorem dX12_advance_100 : decode cX12_advance 100 = .ok (.bipush 8, 2) := by decide +kernel
theorem dX12_advance_102 : decode cX12_advance 102 = .ok (.if_icmp .ge 23, 3) := by decide +kernel
theorem dX12_advance_105 : decode cX12_advance 105 = .ok (.ldc2_w 87, 3) := by decide +kernel
theorem dX12_advance_108 : decode cX12_advance 108 = .ok (.lload_n 2, 1) := by decide +kernel
theorem dX12_advance_109 : decode cX12_advance 109 = .ok (.lmul, 1) := by decide +kernel
theorem dX12_advance_110 : decode cX12_advance 110 = .ok (.aload_n 0, 1) := by decide +kernel
theorem dX12_advance_111 : decode cX12_advance 111 = .ok (.aload_n 0, 1) := by decide +kernel
theorem dX12_advance_112 : decode cX12_advance 112 = .ok (.getfield 70, 3) := by decide +kernel
theorem dX12_advance_115 : decode cX12_advance 115 = .ok (.invokevirtual 73, 3) := by decide +kernel
theorem dX12_advance_118 : decode cX12_advance 118 = .ok (.i2l, 1) := by decide +kernel
theorem dX12_advance_119 : decode cX12_advance 119 = .ok (.ladd, 1) := by decide +kernel
theorem dX12_advance_120 : decode cX12_advance 120 = .ok (.ldc2_w 89, 3) := by decide +kernel
theorem dX12_advance_123 : decode cX12_advance 123 = .ok (.lsub, 1) := by decide +kernel
theorem dX12_advance_124 : decode cX12_advance 124 = .ok (.lstore_n 2, 1) := by decide +kernel
theorem dX12_advance_125 : decode cX12_advance 125 = .ok (.aload_n 0, 1) := by decide +kernel
theorem dX12_advance_126 : decode cX12_advance 126 = .ok (.dup, 1) := by decide +kernel
theorem dX12_advance_127 : decode cX12_advance 127 = .ok (.getfield 70, 3) := by decide +kernel
theorem dX12_advance_130 : decode cX12_advance 130 = .ok (.iconst 1, 1) := by decide +kernel
theorem dX12_advance_131 : decode cX12_advance 131 = .ok (.iadd, 1) := by decide +kernel
theorem dX12_advance_132 : decode cX12_advance 132 = .ok (.putfield 70, 3) := by decide +kernel
theorem dX12_advance_135 : decode cX12_advance 135 = .ok (.goto (-58), 3) := by decide +kernel
theorem dX12_advance_138 : decode cX12_advance 138 = .ok (.aload_n 0, 1) := by decide +kernel
theorem dX12_advance_139 : decode cX12_advance 139 = .ok (.aload_n 0, 1) := by decide +kernel
theorem dX12_advance_140 : decode cX12_advance 140 = .ok (.getfield 70, 3) := by decide +kernel
theorem dX12_advance_143 : decode cX12_advance 143 = .ok (.aload_n 0, 1) := by decide +kernel
theorem dX12_advance_144 : decode cX12_advance 144 = .ok (.getfield 77, 3) := by decide +kernel
theorem dX12_advance_147 : decode cX12_advance 147 = .ok (.isub, 1) := by decide +kernel
theorem dX12_advance_148 : decode cX12_advance 148 = .ok (.bipush 8, 2) := by decide +kernel
theorem dX12_advance_150 : decode cX12_advance 150 = .ok (.if_icmp .le 8, 3) := by decide +kernel
theorem dX12_advance_153 : decode cX12_advance 153 = .ok (.bipush 99, 2) := by decide +kernel
theorem dX12_advance_155 : decode cX12_advance 155 = .ok (.goto 7, 3) := by decide +kernel
theorem dX12_advance_158 : decode cX12_advance 158 = .ok (.lload_n 2, 1) := by decide +kernel
theorem dX12_advance_159 : decode cX12_advance 159 = .ok (.invokestatic 91, 3) := by decide +kernel
theorem dX12_advance_162 : decode cX12_advance 162 = .ok (.putfield 95, 3) := by decide +kernel
theorem dX12_advance_165 : decode cX12_advance 165 = .ok (.aload_n 0, 1) := by decide +kernel
theorem dX12_advance_166 : decode cX12_advance 166 = .ok (.aload_n 0, 1) := by decide +kernel
theorem dX12_advance_167 : decode cX12_advance 167 = .ok (.getfield 95, 3) := by decide +kernel
theorem dX12_advance_170 : decode cX12_advance 170 = .ok (.bipush 99, 2) := by decide +kernel
theorem dX12_advance_172 : decode cX12_advance 172 = .ok (.if_icmp .ne 7, 3) := by decide +kernel
theorem dX12_advance_175 : decode cX12_advance 175 = .ok (.iconst 4, 1) := by decide +kernel
theorem dX12_advance_176 : decode cX12_advance 176 = .ok (.goto 4, 3) := by decide +kernel
theorem dX12_advance_179 : decode cX12_advance 179 = .ok (.iconst 3, 1) := by decide +kernel
theorem dX12_advance_180 : decode cX12_advance 180 = .ok (.putfield 80, 3) := by decide +kernel
theorem dX12_advance_183 : decode cX12_advance 183 = .ok (.goto 128, 3) := by decide +kernel
theorem dX12_advance_186 : decode cX12_advance 186 = .ok (.iload_n 1, 1) := by decide +kernel
theorem dX12_advance_187 : decode cX12_advance 187 = .ok (.invokestatic 98, 3) := by decide +kernel
theorem dX12_advance_190 : decode cX12_advance 190 = .ok (.ifCond .eq 96, 3) := by decide +kernel
theorem dX12_advance_193 : decode cX12_advance 193 = .ok (.aload_n 0, 1) := by decide +kernel
theorem dX12_advance_194 : decode cX12_advance 194 = .ok (.iconst 0, 1) := by decide +kernel
theorem dX12_advance_195 : decode cX12_advance 195 = .ok (.putfield 101, 3) := by decide +kernel
theorem dX12_advance_198 : decode cX12_advance 198 = .ok (.aload_n 0, 1) := by decide +kernel
theorem dX12_advance_199 : decode cX12_advance 199 = .ok (.aload_n 0, 1) := by decide +kernel
theorem dX12_advance_200 : decode cX12_advance 200 = .ok (.getfield 70, 3) := by decide +kernel
theorem dX12_advance_203 : decode cX12_advance 203 = .ok (.invokevirtual 73, 3) := by decide +kernel
theorem dX12_advance_206 : decode cX12_advance 206 = .ok (.invokestatic 98, 3) := by decide +kernel
theorem dX12_advance_209 : decode cX12_advance 209 = .ok (.ifCond .eq 52, 3) := by decide +kernel
theorem dX12_advance_212 : decode cX12_advance 212 = .ok (.aload_n 0, 1) := by decide +kernel
theorem dX12_advance_213 : decode cX12_advance 213 = .ok (.getfield 70, 3) := by decide +kernel
theorem dX12_advance_216 : decode cX12_advance 216 = .ok (.aload_n 0, 1) := by decide +kernel
theorem dX12_advance_217 : decode cX12_advance 217 = .ok (.getfield 77, 3) := by decide +kernel
theorem dX12_advance_220 : decode cX12_advance 220 = .ok (.isub, 1) := by decide +kernel
theorem dX12_advance_221 : decode cX12_advance 221 = .ok (.iconst 2, 1) := by decide +kernel
theorem dX12_advance_222 : decode cX12_advance 222 = .ok (.if_icmp .ge 26, 3) := by decide +kernel
theorem dX12_advance_225 : decode cX12_advance 225 = .ok (.aload_n 0, 1) := by decide +kernel
theorem dX12_advance_226 : decode cX12_advance 226 = .ok (.bipush 10, 2) := by decide +kernel
theorem dX12_advance_228 : decode cX12_advance 228 = .ok (.aload_n 0, 1) := by decide +kernel
theorem dX12_advance_229 : decode cX12_advance 229 = .ok (.getfield 101, 3) := by decide +kernel
theorem dX12_advance_232 : decode cX12_advance 232 = .ok (.imul, 1) := by decide +kernel
theorem dX12_advance_233 : decode cX12_advance 233 = .ok (.aload_n 0, 1) := by decide +kernel
theorem dX12_advance_234 : decode cX12_advance 234 = .ok (.aload_n 0, 1) := by decide +kernel
theorem dX12_advance_235 : decode cX12_advance 235 = .ok (.getfield 70, 3) := by decide +kernel
theorem dX12_advance_238 : decode cX12_advance 238 = .ok (.invokevirtual 73, 3) := by decide +kernel
theorem dX12_advance_241 : decode cX12_advance 241 = .ok (.iadd, 1) := by decide +kernel
theorem dX12_advance_242 : decode cX12_advance 242 = .ok (.bipush 48, 2) := by decide +kernel
theorem dX12_advance_244 : decode cX12_advance 244 = .ok (.isub, 1) := by decide +kernel
theorem dX12_advance_245 : decode cX12_advance 245 = .ok (.putfield 101, 3) := by decide +kernel
theorem dX12_advance_248 : decode cX12_advance 248 = .ok (.aload_n 0, 1) := by decide +kernel
theorem dX12_advance_249 : decode cX12_advance 249 = .ok (.dup, 1) := by decide +kernel
theorem dX12_advance_250 : decode cX12_advance 250 = .ok (.getfield 70, 3) := by decide +kernel
theorem dX12_advance_253 : decode cX12_advance 253 = .ok (.iconst 1, 1) := by decide +kernel
theorem dX12_advance_254 : decode cX12_advance 254 = .ok (.iadd, 1) := by decide +kernel
theorem dX12_advance_255 : decode cX12_advance 255 = .ok (.putfield 70, 3) := by decide +kernel
theorem dX12_advance_258 : decode cX12_advance 258 = .ok (.goto (-60), 3) := by decide +kernel
theorem dX12_advance_261 : decode cX12_advance 261 = .ok (.aload_n 0, 1) := by decide +kernel
theorem dX12_advance_262 : decode cX12_advance 262 = .ok (.aload_n 0, 1) := by decide +kernel
theorem dX12_advance_263 : decode cX12_advance 263 = .ok (.getfield 70, 3) := by decide +kernel
theorem dX12_advance_266 : decode cX12_advance 266 = .ok (.aload_n 0, 1) := by decide +kernel
theorem dX12_advance_267 : decode cX12_advance 267 = .ok (.getfield 77, 3) := by decide +kernel
theorem dX12_advance_270 : decode cX12_advance 270 = .ok (.isub, 1) := by decide +kernel
theorem dX12_advance_271 : decode cX12_advance 271 = .ok (.iconst 2, 1) := by decide +kernel
theorem dX12_advance_272 : decode cX12_advance 272 = .ok (.if_icmp .le 7, 3) := by decide +kernel
theorem dX12_advance_275 : decode cX12_advance 275 = .ok (.iconst 4, 1) := by decide +kernel
theorem dX12_advance_276 : decode cX12_advance 276 = .ok (.goto 4, 3) := by decide +kernel
theorem dX12_advance_279 : decode cX12_advance 279 = .ok (.iconst 1, 1) := by decide +kernel
theorem dX12_advance_280 : decode cX12_advance 280 = .ok (.putfield 80, 3) := by decide +kernel
theorem dX12_advance_283 : decode cX12_advance 283 = .ok (.goto 28, 3) := by decide +kernel
theorem dX12_advance_286 : decode cX12_advance 286 = .ok (.aload_n 0, 1) := by decide +kernel
theorem dX12_advance_287 : decode cX12_advance 287 = .ok (.dup, 1) := by decide +kernel
theorem dX12_advance_288 : decode cX12_advance 288 = .ok (.getfield 70, 3) := by decide +kernel
theorem dX12_advance_291 : decode cX12_advance 291 = .ok (.iconst 1, 1) := by decide +kernel
theorem dX12_advance_292 : decode cX12_advance 292 = .ok (.iadd, 1) := by decide +kernel
theorem dX12_advance_293 : decode cX12_advance 293 = .ok (.putfield 70, 3) := by decide +kernel
theorem dX12_advance_296 : decode cX12_advance 296 = .ok (.aload_n 0, 1) := by decide +kernel
theorem dX12_advance_297 : decode cX12_advance 297 = .ok (.iload_n 1, 1) := by decide +kernel
theorem dX12_advance_298 : decode cX12_advance 298 = .ok (.bipush 59, 2) := by decide +kernel
theorem dX12_advance_300 : decode cX12_advance 300 = .ok (.if_icmp .ne 7, 3) := by decide +kernel
theorem dX12_advance_303 : decode cX12_advance 303 = .ok (.iconst 2, 1) := by decide +kernel
theorem dX12_advance_304 : decode cX12_advance 304 = .ok (.goto 4, 3) := by decide +kernel
theorem dX12_advance_307 : decode cX12_advance 307 = .ok (.iconst 4, 1) := by decide +kernel
theorem dX12_advance_308 : decode cX12_advance 308 = .ok (.putfield 80, 3) := by decide +kernel
theorem dX12_advance_311 : decode cX12_advance 311 = .ok (.return_, 1) := by decide +kernel


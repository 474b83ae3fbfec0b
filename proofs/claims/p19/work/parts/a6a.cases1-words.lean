theorem m_co_X11_feed : Cond.code yX11_feed cX11_feed 6 (some .int) ∈ zT := zmem1 zsub_2 213 rfl rfl
theorem m_ml_RL_13 : Cond.methodLink RL 13 yX11_feed ∈ zT := zmem1 zsub_2 210 rfl rfl
theorem m_im_X11_feed : Cond.instanceMethod yX11_feed ∈ zT := zmem1 zsub_2 211 rfl rfl
theorem m_se_X11_feed : Cond.selects RX11 yX11_feed yX11_feed ∈ zT := zmem1 zsub_2 212 rfl rfl
theorem m_co_X12_feed : Cond.code yX12_feed cX12_feed 8 (some .int) ∈ zT := zmem1 zsub_6 128 rfl rfl
theorem m_ml_RL_17 : Cond.methodLink RL 17 yX12_feed ∈ zT := zmem1 zsub_6 125 rfl rfl
theorem m_im_X12_feed : Cond.instanceMethod yX12_feed ∈ zT := zmem1 zsub_6 126 rfl rfl
theorem m_se_X12_feed : Cond.selects RX12 yX12_feed yX12_feed ∈ zT := zmem1 zsub_6 127 rfl rfl
theorem m_co_X11_end : Cond.code yX11_end cX11_end 2 (some .int) ∈ zT := zmem1 zsub_2 221 rfl rfl
theorem m_ml_RL_18 : Cond.methodLink RL 18 yX11_end ∈ zT := zmem1 zsub_2 218 rfl rfl
theorem m_im_X11_end : Cond.instanceMethod yX11_end ∈ zT := zmem1 zsub_2 219 rfl rfl
theorem m_se_X11_end : Cond.selects RX11 yX11_end yX11_end ∈ zT := zmem1 zsub_2 220 rfl rfl
theorem m_co_X12_end : Cond.code yX12_end cX12_end 2 (some .int) ∈ zT := zmem1 zsub_6 132 rfl rfl
theorem m_ml_RL_22 : Cond.methodLink RL 22 yX12_end ∈ zT := zmem1 zsub_6 129 rfl rfl
theorem m_im_X12_end : Cond.instanceMethod yX12_end ∈ zT := zmem1 zsub_6 130 rfl rfl
theorem m_se_X12_end : Cond.selects RX12 yX12_end yX12_end ∈ zT := zmem1 zsub_6 131 rfl rfl
theorem m_co_X11_text : Cond.code yX11_text cX11_text 5 (some .int) ∈ zT := zmem1 zsub_2 225 rfl rfl
theorem m_ml_RL_23 : Cond.methodLink RL 23 yX11_text ∈ zT := zmem1 zsub_2 222 rfl rfl
theorem m_im_X11_text : Cond.instanceMethod yX11_text ∈ zT := zmem1 zsub_2 223 rfl rfl
theorem m_se_X11_text : Cond.selects RX11 yX11_text yX11_text ∈ zT := zmem1 zsub_2 224 rfl rfl
theorem m_co_X12_text : Cond.code yX12_text cX12_text 5 (some .int) ∈ zT := zmem1 zsub_6 136 rfl rfl
theorem m_ml_RL_27 : Cond.methodLink RL 27 yX12_text ∈ zT := zmem1 zsub_6 133 rfl rfl
theorem m_im_X12_text : Cond.instanceMethod yX12_text ∈ zT := zmem1 zsub_6 134 rfl rfl
theorem m_se_X12_text : Cond.selects RX12 yX12_text yX12_text ∈ zT := zmem1 zsub_6 135 rfl rfl
theorem m_co_X11_fault : Cond.code yX11_fault cX11_fault 2 (some .int) ∈ zT := zmem1 zsub_3 172 rfl rfl
theorem m_ml_RL_28 : Cond.methodLink RL 28 yX11_fault ∈ zT := zmem1 zsub_3 169 rfl rfl
theorem m_im_X11_fault : Cond.instanceMethod yX11_fault ∈ zT := zmem1 zsub_3 170 rfl rfl
theorem m_se_X11_fault : Cond.selects RX11 yX11_fault yX11_fault ∈ zT := zmem1 zsub_3 171 rfl rfl
theorem m_co_X12_fault : Cond.code yX12_fault cX12_fault 2 (some .int) ∈ zT := zmem1 zsub_6 223 rfl rfl
theorem m_ml_RL_31 : Cond.methodLink RL 31 yX12_fault ∈ zT := zmem1 zsub_6 220 rfl rfl
theorem m_im_X12_fault : Cond.instanceMethod yX12_fault ∈ zT := zmem1 zsub_6 221 rfl rfl
theorem m_se_X12_fault : Cond.selects RX12 yX12_fault yX12_fault ∈ zT := zmem1 zsub_6 222 rfl rfl
theorem m_co_X11_land : Cond.code yX11_land cX11_land 4 (some .int) ∈ zT := zmem1 zsub_3 192 rfl rfl
theorem m_ml_RL_32 : Cond.methodLink RL 32 yX11_land ∈ zT := zmem1 zsub_3 189 rfl rfl
theorem m_im_X11_land : Cond.instanceMethod yX11_land ∈ zT := zmem1 zsub_3 190 rfl rfl
theorem m_se_X11_land : Cond.selects RX11 yX11_land yX11_land ∈ zT := zmem1 zsub_3 191 rfl rfl
theorem m_co_X12_land : Cond.code yX12_land cX12_land 4 (some .int) ∈ zT := zmem1 zsub_6 227 rfl rfl
theorem m_ml_RL_35 : Cond.methodLink RL 35 yX12_land ∈ zT := zmem1 zsub_6 224 rfl rfl
theorem m_im_X12_land : Cond.instanceMethod yX12_land ∈ zT := zmem1 zsub_6 225 rfl rfl
theorem m_se_X12_land : Cond.selects RX12 yX12_land yX12_land ∈ zT := zmem1 zsub_6 226 rfl rfl
theorem m_co_X11_deed : Cond.code yX11_deed cX11_deed 5 (some .int) ∈ zT := zmem1 zsub_3 212 rfl rfl
theorem m_ml_RL_36 : Cond.methodLink RL 36 yX11_deed ∈ zT := zmem1 zsub_3 209 rfl rfl
theorem m_im_X11_deed : Cond.instanceMethod yX11_deed ∈ zT := zmem1 zsub_3 210 rfl rfl
theorem m_se_X11_deed : Cond.selects RX11 yX11_deed yX11_deed ∈ zT := zmem1 zsub_3 211 rfl rfl
theorem m_co_X12_deed : Cond.code yX12_deed cX12_deed 4 (some .int) ∈ zT := zmem1 zsub_7 200 rfl rfl
theorem m_ml_RL_40 : Cond.methodLink RL 40 yX12_deed ∈ zT := zmem1 zsub_7 197 rfl rfl
theorem m_im_X12_deed : Cond.instanceMethod yX12_deed ∈ zT := zmem1 zsub_7 198 rfl rfl
theorem m_se_X12_deed : Cond.selects RX12 yX12_deed yX12_deed ∈ zT := zmem1 zsub_7 199 rfl rfl
theorem kV_RL_13 {R : Room} {s : State} {args : Array Value} {d mc ms : Nat} (hts : ∀ w ∈ zT, w.before args s = true) (h1 : d + 1 ≤ R.frames) (h2 : 8 + (6 + 11) + 40 * d ≤ R.locals) : CallW R s args RL RX11 13 yX11_feed cX11_feed 6 (some .int) (zW yX11_feed cX11_feed 6 (some .int)) (zR d mc ms) mc ms 5 := z_cwV hts m_co_X11_feed m_ml_RL_13 m_im_X11_feed m_se_X11_feed m_ii_RX11 (by decide +kernel) h1 h2
theorem kV_RL_17 {R : Room} {s : State} {args : Array Value} {d mc ms : Nat} (hts : ∀ w ∈ zT, w.before args s = true) (h1 : d + 1 ≤ R.frames) (h2 : 8 + (8 + 11) + 40 * d ≤ R.locals) : CallW R s args RL RX12 17 yX12_feed cX12_feed 8 (some .int) (zW yX12_feed cX12_feed 8 (some .int)) (zR d mc ms) mc ms 5 := z_cwV hts m_co_X12_feed m_ml_RL_17 m_im_X12_feed m_se_X12_feed m_ii_RX12 (by decide +kernel) h1 h2
theorem kV_RL_18 {R : Room} {s : State} {args : Array Value} {d mc ms : Nat} (hts : ∀ w ∈ zT, w.before args s = true) (h1 : d + 1 ≤ R.frames) (h2 : 8 + (2 + 11) + 40 * d ≤ R.locals) : CallW R s args RL RX11 18 yX11_end cX11_end 2 (some .int) (zW yX11_end cX11_end 2 (some .int)) (zR d mc ms) mc ms 1 := z_cwV hts m_co_X11_end m_ml_RL_18 m_im_X11_end m_se_X11_end m_ii_RX11 (by decide +kernel) h1 h2
theorem kV_RL_22 {R : Room} {s : State} {args : Array Value} {d mc ms : Nat} (hts : ∀ w ∈ zT, w.before args s = true) (h1 : d + 1 ≤ R.frames) (h2 : 8 + (2 + 11) + 40 * d ≤ R.locals) : CallW R s args RL RX12 22 yX12_end cX12_end 2 (some .int) (zW yX12_end cX12_end 2 (some .int)) (zR d mc ms) mc ms 1 := z_cwV hts m_co_X12_end m_ml_RL_22 m_im_X12_end m_se_X12_end m_ii_RX12 (by decide +kernel) h1 h2
theorem kV_RL_23 {R : Room} {s : State} {args : Array Value} {d mc ms : Nat} (hts : ∀ w ∈ zT, w.before args s = true) (h1 : d + 1 ≤ R.frames) (h2 : 8 + (5 + 11) + 40 * d ≤ R.locals) : CallW R s args RL RX11 23 yX11_text cX11_text 5 (some .int) (zW yX11_text cX11_text 5 (some .int)) (zR d mc ms) mc ms 2 := z_cwV hts m_co_X11_text m_ml_RL_23 m_im_X11_text m_se_X11_text m_ii_RX11 (by decide +kernel) h1 h2
theorem kV_RL_27 {R : Room} {s : State} {args : Array Value} {d mc ms : Nat} (hts : ∀ w ∈ zT, w.before args s = true) (h1 : d + 1 ≤ R.frames) (h2 : 8 + (5 + 11) + 40 * d ≤ R.locals) : CallW R s args RL RX12 27 yX12_text cX12_text 5 (some .int) (zW yX12_text cX12_text 5 (some .int)) (zR d mc ms) mc ms 2 := z_cwV hts m_co_X12_text m_ml_RL_27 m_im_X12_text m_se_X12_text m_ii_RX12 (by decide +kernel) h1 h2
theorem kV_RL_28 {R : Room} {s : State} {args : Array Value} {d mc ms : Nat} (hts : ∀ w ∈ zT, w.before args s = true) (h1 : d + 1 ≤ R.frames) (h2 : 8 + (2 + 11) + 40 * d ≤ R.locals) : CallW R s args RL RX11 28 yX11_fault cX11_fault 2 (some .int) (zW yX11_fault cX11_fault 2 (some .int)) (zR d mc ms) mc ms 1 := z_cwV hts m_co_X11_fault m_ml_RL_28 m_im_X11_fault m_se_X11_fault m_ii_RX11 (by decide +kernel) h1 h2
theorem kV_RL_31 {R : Room} {s : State} {args : Array Value} {d mc ms : Nat} (hts : ∀ w ∈ zT, w.before args s = true) (h1 : d + 1 ≤ R.frames) (h2 : 8 + (2 + 11) + 40 * d ≤ R.locals) : CallW R s args RL RX12 31 yX12_fault cX12_fault 2 (some .int) (zW yX12_fault cX12_fault 2 (some .int)) (zR d mc ms) mc ms 1 := z_cwV hts m_co_X12_fault m_ml_RL_31 m_im_X12_fault m_se_X12_fault m_ii_RX12 (by decide +kernel) h1 h2
theorem kV_RL_32 {R : Room} {s : State} {args : Array Value} {d mc ms : Nat} (hts : ∀ w ∈ zT, w.before args s = true) (h1 : d + 1 ≤ R.frames) (h2 : 8 + (4 + 11) + 40 * d ≤ R.locals) : CallW R s args RL RX11 32 yX11_land cX11_land 4 (some .int) (zW yX11_land cX11_land 4 (some .int)) (zR d mc ms) mc ms 2 := z_cwV hts m_co_X11_land m_ml_RL_32 m_im_X11_land m_se_X11_land m_ii_RX11 (by decide +kernel) h1 h2
theorem kV_RL_35 {R : Room} {s : State} {args : Array Value} {d mc ms : Nat} (hts : ∀ w ∈ zT, w.before args s = true) (h1 : d + 1 ≤ R.frames) (h2 : 8 + (4 + 11) + 40 * d ≤ R.locals) : CallW R s args RL RX12 35 yX12_land cX12_land 4 (some .int) (zW yX12_land cX12_land 4 (some .int)) (zR d mc ms) mc ms 2 := z_cwV hts m_co_X12_land m_ml_RL_35 m_im_X12_land m_se_X12_land m_ii_RX12 (by decide +kernel) h1 h2
theorem kV_RL_36 {R : Room} {s : State} {args : Array Value} {d mc ms : Nat} (hts : ∀ w ∈ zT, w.before args s = true) (h1 : d + 1 ≤ R.frames) (h2 : 8 + (5 + 11) + 40 * d ≤ R.locals) : CallW R s args RL RX11 36 yX11_deed cX11_deed 5 (some .int) (zW yX11_deed cX11_deed 5 (some .int)) (zR d mc ms) mc ms 3 := z_cwV hts m_co_X11_deed m_ml_RL_36 m_im_X11_deed m_se_X11_deed m_ii_RX11 (by decide +kernel) h1 h2
theorem kV_RL_40 {R : Room} {s : State} {args : Array Value} {d mc ms : Nat} (hts : ∀ w ∈ zT, w.before args s = true) (h1 : d + 1 ≤ R.frames) (h2 : 8 + (4 + 11) + 40 * d ≤ R.locals) : CallW R s args RL RX12 40 yX12_deed cX12_deed 4 (some .int) (zW yX12_deed cX12_deed 4 (some .int)) (zR d mc ms) mc ms 3 := z_cwV hts m_co_X12_deed m_ml_RL_40 m_im_X12_deed m_se_X12_deed m_ii_RX12 (by decide +kernel) h1 h2
theorem dL_law_188 : decode cL_law 188 = .ok (.aload_n 1, 1) := zo_43 (by decide +kernel)
theorem dL_law_189 : decode cL_law 189 = .ok (.aload_n 0, 1) := zo_42 (by decide +kernel)
theorem dL_law_190 : decode cL_law 190 = .ok (.iload_n 3, 1) := zo_29 (by decide +kernel)
theorem dL_law_191 : decode cL_law 191 = .ok (.iconst 1, 1) := zo_4 (by decide +kernel)
theorem dL_law_192 : decode cL_law 192 = .ok (.iadd, 1) := zo_96 (by decide +kernel)
theorem dL_law_193 : decode cL_law 193 = .ok (.iaload, 1) := zo_46 (by decide +kernel)
theorem dL_law_194 : decode cL_law 194 = .ok (.aload_n 0, 1) := zo_42 (by decide +kernel)
theorem dL_law_195 : decode cL_law 195 = .ok (.iload_n 3, 1) := zo_29 (by decide +kernel)
theorem dL_law_196 : decode cL_law 196 = .ok (.iconst 2, 1) := zo_5 (by decide +kernel)
theorem dL_law_197 : decode cL_law 197 = .ok (.iadd, 1) := zo_96 (by decide +kernel)
theorem dL_law_198 : decode cL_law 198 = .ok (.iaload, 1) := zo_46 (by decide +kernel)
theorem dL_law_199 : decode cL_law 199 = .ok (.aload_n 0, 1) := zo_42 (by decide +kernel)
theorem dL_law_200 : decode cL_law 200 = .ok (.iload_n 3, 1) := zo_29 (by decide +kernel)
theorem dL_law_201 : decode cL_law 201 = .ok (.iconst 3, 1) := zo_6 (by decide +kernel)
theorem dL_law_202 : decode cL_law 202 = .ok (.iadd, 1) := zo_96 (by decide +kernel)
theorem dL_law_203 : decode cL_law 203 = .ok (.iaload, 1) := zo_46 (by decide +kernel)
theorem dL_law_204 : decode cL_law 204 = .ok (.aload_n 0, 1) := zo_42 (by decide +kernel)
theorem dL_law_205 : decode cL_law 205 = .ok (.iload_n 3, 1) := zo_29 (by decide +kernel)
theorem dL_law_206 : decode cL_law 206 = .ok (.iconst 4, 1) := zo_7 (by decide +kernel)
theorem dL_law_207 : decode cL_law 207 = .ok (.iadd, 1) := zo_96 (by decide +kernel)
theorem dL_law_208 : decode cL_law 208 = .ok (.iaload, 1) := zo_46 (by decide +kernel)
theorem dL_law_209 : decode cL_law 209 = .ok (.aload_n 0, 1) := zo_42 (by decide +kernel)
theorem dL_law_210 : decode cL_law 210 = .ok (.iload_n 3, 1) := zo_29 (by decide +kernel)
theorem dL_law_211 : decode cL_law 211 = .ok (.iconst 5, 1) := zo_8 (by decide +kernel)
theorem dL_law_212 : decode cL_law 212 = .ok (.iadd, 1) := zo_96 (by decide +kernel)
theorem dL_law_213 : decode cL_law 213 = .ok (.iaload, 1) := zo_46 (by decide +kernel)
theorem dL_law_214 : decode cL_law 214 = .ok (.invokevirtual 13, 3) := zo_182 (by decide +kernel)
theorem dL_law_217 : decode cL_law 217 = .ok (.pop, 1) := zo_87 (by decide +kernel)
theorem dL_law_218 : decode cL_law 218 = .ok (.aload_n 2, 1) := zo_44 (by decide +kernel)
theorem dL_law_219 : decode cL_law 219 = .ok (.aload_n 0, 1) := zo_42 (by decide +kernel)
theorem dL_law_220 : decode cL_law 220 = .ok (.iload_n 3, 1) := zo_29 (by decide +kernel)
theorem dL_law_221 : decode cL_law 221 = .ok (.iconst 1, 1) := zo_4 (by decide +kernel)
theorem dL_law_222 : decode cL_law 222 = .ok (.iadd, 1) := zo_96 (by decide +kernel)
theorem dL_law_223 : decode cL_law 223 = .ok (.iaload, 1) := zo_46 (by decide +kernel)
theorem dL_law_224 : decode cL_law 224 = .ok (.aload_n 0, 1) := zo_42 (by decide +kernel)
theorem dL_law_225 : decode cL_law 225 = .ok (.iload_n 3, 1) := zo_29 (by decide +kernel)
theorem dL_law_226 : decode cL_law 226 = .ok (.iconst 2, 1) := zo_5 (by decide +kernel)
theorem dL_law_227 : decode cL_law 227 = .ok (.iadd, 1) := zo_96 (by decide +kernel)
theorem dL_law_228 : decode cL_law 228 = .ok (.iaload, 1) := zo_46 (by decide +kernel)
theorem dL_law_229 : decode cL_law 229 = .ok (.aload_n 0, 1) := zo_42 (by decide +kernel)
theorem dL_law_230 : decode cL_law 230 = .ok (.iload_n 3, 1) := zo_29 (by decide +kernel)
theorem dL_law_231 : decode cL_law 231 = .ok (.iconst 3, 1) := zo_6 (by decide +kernel)
theorem dL_law_232 : decode cL_law 232 = .ok (.iadd, 1) := zo_96 (by decide +kernel)
theorem dL_law_233 : decode cL_law 233 = .ok (.iaload, 1) := zo_46 (by decide +kernel)
theorem dL_law_234 : decode cL_law 234 = .ok (.aload_n 0, 1) := zo_42 (by decide +kernel)
theorem dL_law_235 : decode cL_law 235 = .ok (.iload_n 3, 1) := zo_29 (by decide +kernel)
theorem dL_law_236 : decode cL_law 236 = .ok (.iconst 4, 1) := zo_7 (by decide +kernel)
theorem dL_law_237 : decode cL_law 237 = .ok (.iadd, 1) := zo_96 (by decide +kernel)
theorem dL_law_238 : decode cL_law 238 = .ok (.iaload, 1) := zo_46 (by decide +kernel)
theorem dL_law_239 : decode cL_law 239 = .ok (.aload_n 0, 1) := zo_42 (by decide +kernel)
theorem dL_law_240 : decode cL_law 240 = .ok (.iload_n 3, 1) := zo_29 (by decide +kernel)
theorem dL_law_241 : decode cL_law 241 = .ok (.iconst 5, 1) := zo_8 (by decide +kernel)
theorem dL_law_242 : decode cL_law 242 = .ok (.iadd, 1) := zo_96 (by decide +kernel)
theorem dL_law_243 : decode cL_law 243 = .ok (.iaload, 1) := zo_46 (by decide +kernel)
theorem dL_law_244 : decode cL_law 244 = .ok (.invokevirtual 17, 3) := zo_182 (by decide +kernel)
theorem dL_law_247 : decode cL_law 247 = .ok (.pop, 1) := zo_87 (by decide +kernel)
theorem dL_law_248 : decode cL_law 248 = .ok (.goto 1519, 3) := zo_167 (by decide +kernel)
theorem dL_law_251 : decode cL_law 251 = .ok (.aload_n 1, 1) := zo_43 (by decide +kernel)
theorem dL_law_252 : decode cL_law 252 = .ok (.aload_n 0, 1) := zo_42 (by decide +kernel)
theorem dL_law_253 : decode cL_law 253 = .ok (.iload_n 3, 1) := zo_29 (by decide +kernel)
theorem dL_law_254 : decode cL_law 254 = .ok (.iconst 1, 1) := zo_4 (by decide +kernel)
theorem dL_law_255 : decode cL_law 255 = .ok (.iadd, 1) := zo_96 (by decide +kernel)
theorem dL_law_256 : decode cL_law 256 = .ok (.iaload, 1) := zo_46 (by decide +kernel)
theorem dL_law_257 : decode cL_law 257 = .ok (.invokevirtual 18, 3) := zo_182 (by decide +kernel)
theorem dL_law_260 : decode cL_law 260 = .ok (.pop, 1) := zo_87 (by decide +kernel)
theorem dL_law_261 : decode cL_law 261 = .ok (.aload_n 2, 1) := zo_44 (by decide +kernel)
theorem dL_law_262 : decode cL_law 262 = .ok (.aload_n 0, 1) := zo_42 (by decide +kernel)
theorem dL_law_263 : decode cL_law 263 = .ok (.iload_n 3, 1) := zo_29 (by decide +kernel)
theorem dL_law_264 : decode cL_law 264 = .ok (.iconst 1, 1) := zo_4 (by decide +kernel)
theorem dL_law_265 : decode cL_law 265 = .ok (.iadd, 1) := zo_96 (by decide +kernel)
theorem dL_law_266 : decode cL_law 266 = .ok (.iaload, 1) := zo_46 (by decide +kernel)
theorem dL_law_267 : decode cL_law 267 = .ok (.invokevirtual 22, 3) := zo_182 (by decide +kernel)
theorem dL_law_270 : decode cL_law 270 = .ok (.pop, 1) := zo_87 (by decide +kernel)
theorem dL_law_271 : decode cL_law 271 = .ok (.goto 1496, 3) := zo_167 (by decide +kernel)
theorem dL_law_274 : decode cL_law 274 = .ok (.aload_n 1, 1) := zo_43 (by decide +kernel)
theorem dL_law_275 : decode cL_law 275 = .ok (.aload_n 0, 1) := zo_42 (by decide +kernel)
theorem dL_law_276 : decode cL_law 276 = .ok (.iload_n 3, 1) := zo_29 (by decide +kernel)
theorem dL_law_277 : decode cL_law 277 = .ok (.iconst 1, 1) := zo_4 (by decide +kernel)
theorem dL_law_278 : decode cL_law 278 = .ok (.iadd, 1) := zo_96 (by decide +kernel)
theorem dL_law_279 : decode cL_law 279 = .ok (.iaload, 1) := zo_46 (by decide +kernel)
theorem dL_law_280 : decode cL_law 280 = .ok (.aload_n 0, 1) := zo_42 (by decide +kernel)
theorem dL_law_281 : decode cL_law 281 = .ok (.iload_n 3, 1) := zo_29 (by decide +kernel)
theorem dL_law_282 : decode cL_law 282 = .ok (.iconst 2, 1) := zo_5 (by decide +kernel)
theorem dL_law_283 : decode cL_law 283 = .ok (.iadd, 1) := zo_96 (by decide +kernel)
theorem dL_law_284 : decode cL_law 284 = .ok (.iaload, 1) := zo_46 (by decide +kernel)
theorem dL_law_285 : decode cL_law 285 = .ok (.invokevirtual 23, 3) := zo_182 (by decide +kernel)
theorem dL_law_288 : decode cL_law 288 = .ok (.pop, 1) := zo_87 (by decide +kernel)
theorem dL_law_289 : decode cL_law 289 = .ok (.aload_n 2, 1) := zo_44 (by decide +kernel)
theorem dL_law_290 : decode cL_law 290 = .ok (.aload_n 0, 1) := zo_42 (by decide +kernel)
theorem dL_law_291 : decode cL_law 291 = .ok (.iload_n 3, 1) := zo_29 (by decide +kernel)
theorem dL_law_292 : decode cL_law 292 = .ok (.iconst 1, 1) := zo_4 (by decide +kernel)
theorem dL_law_293 : decode cL_law 293 = .ok (.iadd, 1) := zo_96 (by decide +kernel)
theorem dL_law_294 : decode cL_law 294 = .ok (.iaload, 1) := zo_46 (by decide +kernel)
theorem dL_law_295 : decode cL_law 295 = .ok (.aload_n 0, 1) := zo_42 (by decide +kernel)
theorem dL_law_296 : decode cL_law 296 = .ok (.iload_n 3, 1) := zo_29 (by decide +kernel)
theorem dL_law_297 : decode cL_law 297 = .ok (.iconst 2, 1) := zo_5 (by decide +kernel)
theorem dL_law_298 : decode cL_law 298 = .ok (.iadd, 1) := zo_96 (by decide +kernel)
theorem dL_law_299 : decode cL_law 299 = .ok (.iaload, 1) := zo_46 (by decide +kernel)
theorem dL_law_300 : decode cL_law 300 = .ok (.invokevirtual 27, 3) := zo_182 (by decide +kernel)
theorem dL_law_303 : decode cL_law 303 = .ok (.pop, 1) := zo_87 (by decide +kernel)
theorem dL_law_304 : decode cL_law 304 = .ok (.goto 1463, 3) := zo_167 (by decide +kernel)
theorem dL_law_307 : decode cL_law 307 = .ok (.aload_n 1, 1) := zo_43 (by decide +kernel)
theorem dL_law_308 : decode cL_law 308 = .ok (.aload_n 0, 1) := zo_42 (by decide +kernel)
theorem dL_law_309 : decode cL_law 309 = .ok (.iload_n 3, 1) := zo_29 (by decide +kernel)
theorem dL_law_310 : decode cL_law 310 = .ok (.iconst 1, 1) := zo_4 (by decide +kernel)
theorem dL_law_311 : decode cL_law 311 = .ok (.iadd, 1) := zo_96 (by decide +kernel)
theorem dL_law_312 : decode cL_law 312 = .ok (.iaload, 1) := zo_46 (by decide +kernel)
theorem dL_law_313 : decode cL_law 313 = .ok (.invokevirtual 28, 3) := zo_182 (by decide +kernel)
theorem dL_law_316 : decode cL_law 316 = .ok (.pop, 1) := zo_87 (by decide +kernel)
theorem dL_law_317 : decode cL_law 317 = .ok (.aload_n 2, 1) := zo_44 (by decide +kernel)
theorem dL_law_318 : decode cL_law 318 = .ok (.aload_n 0, 1) := zo_42 (by decide +kernel)
theorem dL_law_319 : decode cL_law 319 = .ok (.iload_n 3, 1) := zo_29 (by decide +kernel)
theorem dL_law_320 : decode cL_law 320 = .ok (.iconst 1, 1) := zo_4 (by decide +kernel)
theorem dL_law_321 : decode cL_law 321 = .ok (.iadd, 1) := zo_96 (by decide +kernel)
theorem dL_law_322 : decode cL_law 322 = .ok (.iaload, 1) := zo_46 (by decide +kernel)
theorem dL_law_323 : decode cL_law 323 = .ok (.invokevirtual 31, 3) := zo_182 (by decide +kernel)
theorem dL_law_326 : decode cL_law 326 = .ok (.pop, 1) := zo_87 (by decide +kernel)
theorem dL_law_327 : decode cL_law 327 = .ok (.goto 1440, 3) := zo_167 (by decide +kernel)
theorem dL_law_330 : decode cL_law 330 = .ok (.aload_n 1, 1) := zo_43 (by decide +kernel)
theorem dL_law_331 : decode cL_law 331 = .ok (.aload_n 0, 1) := zo_42 (by decide +kernel)
theorem dL_law_332 : decode cL_law 332 = .ok (.iload_n 3, 1) := zo_29 (by decide +kernel)
theorem dL_law_333 : decode cL_law 333 = .ok (.iconst 1, 1) := zo_4 (by decide +kernel)
theorem dL_law_334 : decode cL_law 334 = .ok (.iadd, 1) := zo_96 (by decide +kernel)
theorem dL_law_335 : decode cL_law 335 = .ok (.iaload, 1) := zo_46 (by decide +kernel)
theorem dL_law_336 : decode cL_law 336 = .ok (.aload_n 0, 1) := zo_42 (by decide +kernel)
theorem dL_law_337 : decode cL_law 337 = .ok (.iload_n 3, 1) := zo_29 (by decide +kernel)
theorem dL_law_338 : decode cL_law 338 = .ok (.iconst 2, 1) := zo_5 (by decide +kernel)
theorem dL_law_339 : decode cL_law 339 = .ok (.iadd, 1) := zo_96 (by decide +kernel)
theorem dL_law_340 : decode cL_law 340 = .ok (.iaload, 1) := zo_46 (by decide +kernel)
theorem dL_law_341 : decode cL_law 341 = .ok (.invokevirtual 32, 3) := zo_182 (by decide +kernel)
theorem dL_law_344 : decode cL_law 344 = .ok (.pop, 1) := zo_87 (by decide +kernel)
theorem dL_law_345 : decode cL_law 345 = .ok (.aload_n 2, 1) := zo_44 (by decide +kernel)
theorem dL_law_346 : decode cL_law 346 = .ok (.aload_n 0, 1) := zo_42 (by decide +kernel)
theorem dL_law_347 : decode cL_law 347 = .ok (.iload_n 3, 1) := zo_29 (by decide +kernel)
theorem dL_law_348 : decode cL_law 348 = .ok (.iconst 1, 1) := zo_4 (by decide +kernel)
theorem dL_law_349 : decode cL_law 349 = .ok (.iadd, 1) := zo_96 (by decide +kernel)
theorem dL_law_350 : decode cL_law 350 = .ok (.iaload, 1) := zo_46 (by decide +kernel)
theorem dL_law_351 : decode cL_law 351 = .ok (.aload_n 0, 1) := zo_42 (by decide +kernel)
theorem dL_law_352 : decode cL_law 352 = .ok (.iload_n 3, 1) := zo_29 (by decide +kernel)
theorem dL_law_353 : decode cL_law 353 = .ok (.iconst 2, 1) := zo_5 (by decide +kernel)
theorem dL_law_354 : decode cL_law 354 = .ok (.iadd, 1) := zo_96 (by decide +kernel)
theorem dL_law_355 : decode cL_law 355 = .ok (.iaload, 1) := zo_46 (by decide +kernel)
theorem dL_law_356 : decode cL_law 356 = .ok (.invokevirtual 35, 3) := zo_182 (by decide +kernel)
theorem dL_law_359 : decode cL_law 359 = .ok (.pop, 1) := zo_87 (by decide +kernel)
theorem dL_law_360 : decode cL_law 360 = .ok (.goto 1407, 3) := zo_167 (by decide +kernel)
theorem dL_law_363 : decode cL_law 363 = .ok (.aload_n 1, 1) := zo_43 (by decide +kernel)
theorem dL_law_364 : decode cL_law 364 = .ok (.aload_n 0, 1) := zo_42 (by decide +kernel)
theorem dL_law_365 : decode cL_law 365 = .ok (.iload_n 3, 1) := zo_29 (by decide +kernel)
theorem dL_law_366 : decode cL_law 366 = .ok (.iconst 1, 1) := zo_4 (by decide +kernel)
theorem dL_law_367 : decode cL_law 367 = .ok (.iadd, 1) := zo_96 (by decide +kernel)
theorem dL_law_368 : decode cL_law 368 = .ok (.iaload, 1) := zo_46 (by decide +kernel)
theorem dL_law_369 : decode cL_law 369 = .ok (.aload_n 0, 1) := zo_42 (by decide +kernel)
theorem dL_law_370 : decode cL_law 370 = .ok (.iload_n 3, 1) := zo_29 (by decide +kernel)
theorem dL_law_371 : decode cL_law 371 = .ok (.iconst 2, 1) := zo_5 (by decide +kernel)
theorem dL_law_372 : decode cL_law 372 = .ok (.iadd, 1) := zo_96 (by decide +kernel)
theorem dL_law_373 : decode cL_law 373 = .ok (.iaload, 1) := zo_46 (by decide +kernel)
theorem dL_law_374 : decode cL_law 374 = .ok (.aload_n 0, 1) := zo_42 (by decide +kernel)
theorem dL_law_375 : decode cL_law 375 = .ok (.iload_n 3, 1) := zo_29 (by decide +kernel)
theorem dL_law_376 : decode cL_law 376 = .ok (.iconst 3, 1) := zo_6 (by decide +kernel)
theorem dL_law_377 : decode cL_law 377 = .ok (.iadd, 1) := zo_96 (by decide +kernel)
theorem dL_law_378 : decode cL_law 378 = .ok (.iaload, 1) := zo_46 (by decide +kernel)
theorem dL_law_379 : decode cL_law 379 = .ok (.invokevirtual 36, 3) := zo_182 (by decide +kernel)
theorem dL_law_382 : decode cL_law 382 = .ok (.pop, 1) := zo_87 (by decide +kernel)
theorem dL_law_383 : decode cL_law 383 = .ok (.aload_n 2, 1) := zo_44 (by decide +kernel)
theorem dL_law_384 : decode cL_law 384 = .ok (.aload_n 0, 1) := zo_42 (by decide +kernel)
theorem dL_law_385 : decode cL_law 385 = .ok (.iload_n 3, 1) := zo_29 (by decide +kernel)
theorem dL_law_386 : decode cL_law 386 = .ok (.iconst 1, 1) := zo_4 (by decide +kernel)
theorem dL_law_387 : decode cL_law 387 = .ok (.iadd, 1) := zo_96 (by decide +kernel)
theorem dL_law_388 : decode cL_law 388 = .ok (.iaload, 1) := zo_46 (by decide +kernel)
theorem dL_law_389 : decode cL_law 389 = .ok (.aload_n 0, 1) := zo_42 (by decide +kernel)
theorem dL_law_390 : decode cL_law 390 = .ok (.iload_n 3, 1) := zo_29 (by decide +kernel)
theorem dL_law_391 : decode cL_law 391 = .ok (.iconst 2, 1) := zo_5 (by decide +kernel)
theorem dL_law_392 : decode cL_law 392 = .ok (.iadd, 1) := zo_96 (by decide +kernel)
theorem dL_law_393 : decode cL_law 393 = .ok (.iaload, 1) := zo_46 (by decide +kernel)
theorem dL_law_394 : decode cL_law 394 = .ok (.aload_n 0, 1) := zo_42 (by decide +kernel)
theorem dL_law_395 : decode cL_law 395 = .ok (.iload_n 3, 1) := zo_29 (by decide +kernel)
theorem dL_law_396 : decode cL_law 396 = .ok (.iconst 3, 1) := zo_6 (by decide +kernel)
theorem dL_law_397 : decode cL_law 397 = .ok (.iadd, 1) := zo_96 (by decide +kernel)
theorem dL_law_398 : decode cL_law 398 = .ok (.iaload, 1) := zo_46 (by decide +kernel)
theorem dL_law_399 : decode cL_law 399 = .ok (.invokevirtual 40, 3) := zo_182 (by decide +kernel)
theorem dL_law_402 : decode cL_law 402 = .ok (.pop, 1) := zo_87 (by decide +kernel)
theorem dL_law_403 : decode cL_law 403 = .ok (.goto 1364, 3) := zo_167 (by decide +kernel)


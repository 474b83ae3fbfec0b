theorem m_co_X11_feed : Cond.code yX11_feed cX11_feed 6 (some .int) ∈ zT := zmem1 zsub_2 213 (by decide +kernel) (by decide +kernel)
theorem m_ml_RL_13 : Cond.methodLink RL 13 yX11_feed ∈ zT := zmem1 zsub_2 210 (by decide +kernel) (by decide +kernel)
theorem m_im_X11_feed : Cond.instanceMethod yX11_feed ∈ zT := zmem1 zsub_2 211 (by decide +kernel) (by decide +kernel)
theorem m_se_X11_feed : Cond.selects RX11 yX11_feed yX11_feed ∈ zT := zmem1 zsub_2 212 (by decide +kernel) (by decide +kernel)
theorem m_co_X12_feed : Cond.code yX12_feed cX12_feed 8 (some .int) ∈ zT := zmem1 zsub_6 128 (by decide +kernel) (by decide +kernel)
theorem m_ml_RL_17 : Cond.methodLink RL 17 yX12_feed ∈ zT := zmem1 zsub_6 125 (by decide +kernel) (by decide +kernel)
theorem m_im_X12_feed : Cond.instanceMethod yX12_feed ∈ zT := zmem1 zsub_6 126 (by decide +kernel) (by decide +kernel)
theorem m_se_X12_feed : Cond.selects RX12 yX12_feed yX12_feed ∈ zT := zmem1 zsub_6 127 (by decide +kernel) (by decide +kernel)
theorem m_co_X11_end : Cond.code yX11_end cX11_end 2 (some .int) ∈ zT := zmem1 zsub_2 221 (by decide +kernel) (by decide +kernel)
theorem m_ml_RL_18 : Cond.methodLink RL 18 yX11_end ∈ zT := zmem1 zsub_2 218 (by decide +kernel) (by decide +kernel)
theorem m_im_X11_end : Cond.instanceMethod yX11_end ∈ zT := zmem1 zsub_2 219 (by decide +kernel) (by decide +kernel)
theorem m_se_X11_end : Cond.selects RX11 yX11_end yX11_end ∈ zT := zmem1 zsub_2 220 (by decide +kernel) (by decide +kernel)
theorem m_co_X12_end : Cond.code yX12_end cX12_end 2 (some .int) ∈ zT := zmem1 zsub_6 132 (by decide +kernel) (by decide +kernel)
theorem m_ml_RL_22 : Cond.methodLink RL 22 yX12_end ∈ zT := zmem1 zsub_6 129 (by decide +kernel) (by decide +kernel)
theorem m_im_X12_end : Cond.instanceMethod yX12_end ∈ zT := zmem1 zsub_6 130 (by decide +kernel) (by decide +kernel)
theorem m_se_X12_end : Cond.selects RX12 yX12_end yX12_end ∈ zT := zmem1 zsub_6 131 (by decide +kernel) (by decide +kernel)
theorem m_co_X11_text : Cond.code yX11_text cX11_text 5 (some .int) ∈ zT := zmem1 zsub_2 225 (by decide +kernel) (by decide +kernel)
theorem m_ml_RL_23 : Cond.methodLink RL 23 yX11_text ∈ zT := zmem1 zsub_2 222 (by decide +kernel) (by decide +kernel)
theorem m_im_X11_text : Cond.instanceMethod yX11_text ∈ zT := zmem1 zsub_2 223 (by decide +kernel) (by decide +kernel)
theorem m_se_X11_text : Cond.selects RX11 yX11_text yX11_text ∈ zT := zmem1 zsub_2 224 (by decide +kernel) (by decide +kernel)
theorem m_co_X12_text : Cond.code yX12_text cX12_text 5 (some .int) ∈ zT := zmem1 zsub_6 136 (by decide +kernel) (by decide +kernel)
theorem m_ml_RL_27 : Cond.methodLink RL 27 yX12_text ∈ zT := zmem1 zsub_6 133 (by decide +kernel) (by decide +kernel)
theorem m_im_X12_text : Cond.instanceMethod yX12_text ∈ zT := zmem1 zsub_6 134 (by decide +kernel) (by decide +kernel)
theorem m_se_X12_text : Cond.selects RX12 yX12_text yX12_text ∈ zT := zmem1 zsub_6 135 (by decide +kernel) (by decide +kernel)
theorem m_co_X11_fault : Cond.code yX11_fault cX11_fault 2 (some .int) ∈ zT := zmem1 zsub_3 172 (by decide +kernel) (by decide +kernel)
theorem m_ml_RL_28 : Cond.methodLink RL 28 yX11_fault ∈ zT := zmem1 zsub_3 169 (by decide +kernel) (by decide +kernel)
theorem m_im_X11_fault : Cond.instanceMethod yX11_fault ∈ zT := zmem1 zsub_3 170 (by decide +kernel) (by decide +kernel)
theorem m_se_X11_fault : Cond.selects RX11 yX11_fault yX11_fault ∈ zT := zmem1 zsub_3 171 (by decide +kernel) (by decide +kernel)
theorem m_co_X12_fault : Cond.code yX12_fault cX12_fault 2 (some .int) ∈ zT := zmem1 zsub_6 223 (by decide +kernel) (by decide +kernel)
theorem m_ml_RL_31 : Cond.methodLink RL 31 yX12_fault ∈ zT := zmem1 zsub_6 220 (by decide +kernel) (by decide +kernel)
theorem m_im_X12_fault : Cond.instanceMethod yX12_fault ∈ zT := zmem1 zsub_6 221 (by decide +kernel) (by decide +kernel)
theorem m_se_X12_fault : Cond.selects RX12 yX12_fault yX12_fault ∈ zT := zmem1 zsub_6 222 (by decide +kernel) (by decide +kernel)
theorem m_co_X11_image : Cond.code yX11_image cX11_image 2 (some .boolean) ∈ zT := zmem1 zsub_3 180 (by decide +kernel) (by decide +kernel)
theorem m_ml_RL_154 : Cond.methodLink RL 154 yX11_image ∈ zT := zmem1 zsub_3 177 (by decide +kernel) (by decide +kernel)
theorem m_im_X11_image : Cond.instanceMethod yX11_image ∈ zT := zmem1 zsub_3 178 (by decide +kernel) (by decide +kernel)
theorem m_se_X11_image : Cond.selects RX11 yX11_image yX11_image ∈ zT := zmem1 zsub_3 179 (by decide +kernel) (by decide +kernel)
theorem m_co_X12_image : Cond.code yX12_image cX12_image 3 (some .boolean) ∈ zT := zmem1 zsub_8 90 (by decide +kernel) (by decide +kernel)
theorem m_ml_RL_158 : Cond.methodLink RL 158 yX12_image ∈ zT := zmem1 zsub_8 87 (by decide +kernel) (by decide +kernel)
theorem m_im_X12_image : Cond.instanceMethod yX12_image ∈ zT := zmem1 zsub_8 88 (by decide +kernel) (by decide +kernel)
theorem m_se_X12_image : Cond.selects RX12 yX12_image yX12_image ∈ zT := zmem1 zsub_8 89 (by decide +kernel) (by decide +kernel)
theorem kV_RL_13 {R : Room} {s : State} {args : Array Value} {d mc ms : Nat} (hts : ∀ w ∈ zT, w.before args s = true) (h1 : d + 1 ≤ R.frames) (h2 : 8 + (6 + 11) + 40 * d ≤ R.locals) : CallW R s args RL RX11 13 yX11_feed cX11_feed 6 (some .int) (zW yX11_feed cX11_feed 6 (some .int)) (zR d mc ms) mc ms 5 := z_cwV hts m_co_X11_feed m_ml_RL_13 m_im_X11_feed m_se_X11_feed m_ii_RX11 (by decide +kernel) h1 h2
theorem kV_RL_17 {R : Room} {s : State} {args : Array Value} {d mc ms : Nat} (hts : ∀ w ∈ zT, w.before args s = true) (h1 : d + 1 ≤ R.frames) (h2 : 8 + (8 + 11) + 40 * d ≤ R.locals) : CallW R s args RL RX12 17 yX12_feed cX12_feed 8 (some .int) (zW yX12_feed cX12_feed 8 (some .int)) (zR d mc ms) mc ms 5 := z_cwV hts m_co_X12_feed m_ml_RL_17 m_im_X12_feed m_se_X12_feed m_ii_RX12 (by decide +kernel) h1 h2
theorem kV_RL_18 {R : Room} {s : State} {args : Array Value} {d mc ms : Nat} (hts : ∀ w ∈ zT, w.before args s = true) (h1 : d + 1 ≤ R.frames) (h2 : 8 + (2 + 11) + 40 * d ≤ R.locals) : CallW R s args RL RX11 18 yX11_end cX11_end 2 (some .int) (zW yX11_end cX11_end 2 (some .int)) (zR d mc ms) mc ms 1 := z_cwV hts m_co_X11_end m_ml_RL_18 m_im_X11_end m_se_X11_end m_ii_RX11 (by decide +kernel) h1 h2
theorem kV_RL_22 {R : Room} {s : State} {args : Array Value} {d mc ms : Nat} (hts : ∀ w ∈ zT, w.before args s = true) (h1 : d + 1 ≤ R.frames) (h2 : 8 + (2 + 11) + 40 * d ≤ R.locals) : CallW R s args RL RX12 22 yX12_end cX12_end 2 (some .int) (zW yX12_end cX12_end 2 (some .int)) (zR d mc ms) mc ms 1 := z_cwV hts m_co_X12_end m_ml_RL_22 m_im_X12_end m_se_X12_end m_ii_RX12 (by decide +kernel) h1 h2
theorem kV_RL_23 {R : Room} {s : State} {args : Array Value} {d mc ms : Nat} (hts : ∀ w ∈ zT, w.before args s = true) (h1 : d + 1 ≤ R.frames) (h2 : 8 + (5 + 11) + 40 * d ≤ R.locals) : CallW R s args RL RX11 23 yX11_text cX11_text 5 (some .int) (zW yX11_text cX11_text 5 (some .int)) (zR d mc ms) mc ms 2 := z_cwV hts m_co_X11_text m_ml_RL_23 m_im_X11_text m_se_X11_text m_ii_RX11 (by decide +kernel) h1 h2
theorem kV_RL_27 {R : Room} {s : State} {args : Array Value} {d mc ms : Nat} (hts : ∀ w ∈ zT, w.before args s = true) (h1 : d + 1 ≤ R.frames) (h2 : 8 + (5 + 11) + 40 * d ≤ R.locals) : CallW R s args RL RX12 27 yX12_text cX12_text 5 (some .int) (zW yX12_text cX12_text 5 (some .int)) (zR d mc ms) mc ms 2 := z_cwV hts m_co_X12_text m_ml_RL_27 m_im_X12_text m_se_X12_text m_ii_RX12 (by decide +kernel) h1 h2
theorem kV_RL_28 {R : Room} {s : State} {args : Array Value} {d mc ms : Nat} (hts : ∀ w ∈ zT, w.before args s = true) (h1 : d + 1 ≤ R.frames) (h2 : 8 + (2 + 11) + 40 * d ≤ R.locals) : CallW R s args RL RX11 28 yX11_fault cX11_fault 2 (some .int) (zW yX11_fault cX11_fault 2 (some .int)) (zR d mc ms) mc ms 1 := z_cwV hts m_co_X11_fault m_ml_RL_28 m_im_X11_fault m_se_X11_fault m_ii_RX11 (by decide +kernel) h1 h2
theorem kV_RL_31 {R : Room} {s : State} {args : Array Value} {d mc ms : Nat} (hts : ∀ w ∈ zT, w.before args s = true) (h1 : d + 1 ≤ R.frames) (h2 : 8 + (2 + 11) + 40 * d ≤ R.locals) : CallW R s args RL RX12 31 yX12_fault cX12_fault 2 (some .int) (zW yX12_fault cX12_fault 2 (some .int)) (zR d mc ms) mc ms 1 := z_cwV hts m_co_X12_fault m_ml_RL_31 m_im_X12_fault m_se_X12_fault m_ii_RX12 (by decide +kernel) h1 h2
theorem kV_RL_154 {R : Room} {s : State} {args : Array Value} {d mc ms : Nat} (hts : ∀ w ∈ zT, w.before args s = true) (h1 : d + 1 ≤ R.frames) (h2 : 8 + (2 + 11) + 40 * d ≤ R.locals) : CallW R s args RL RX11 154 yX11_image cX11_image 2 (some .boolean) (zW yX11_image cX11_image 2 (some .boolean)) (zR d mc ms) mc ms 1 := z_cwV hts m_co_X11_image m_ml_RL_154 m_im_X11_image m_se_X11_image m_ii_RX11 (by decide +kernel) h1 h2
theorem kV_RL_158 {R : Room} {s : State} {args : Array Value} {d mc ms : Nat} (hts : ∀ w ∈ zT, w.before args s = true) (h1 : d + 1 ≤ R.frames) (h2 : 8 + (3 + 11) + 40 * d ≤ R.locals) : CallW R s args RL RX12 158 yX12_image cX12_image 3 (some .boolean) (zW yX12_image cX12_image 3 (some .boolean)) (zR d mc ms) mc ms 1 := z_cwV hts m_co_X12_image m_ml_RL_158 m_im_X12_image m_se_X12_image m_ii_RX12 (by decide +kernel) h1 h2
theorem dL_law_188 : decode cL_law 188 = .ok (.aload_n 1, 1) := by decide +kernel
theorem dL_law_189 : decode cL_law 189 = .ok (.aload_n 0, 1) := by decide +kernel
theorem dL_law_190 : decode cL_law 190 = .ok (.iload_n 3, 1) := by decide +kernel
theorem dL_law_191 : decode cL_law 191 = .ok (.iconst 1, 1) := by decide +kernel
theorem dL_law_192 : decode cL_law 192 = .ok (.iadd, 1) := by decide +kernel
theorem dL_law_193 : decode cL_law 193 = .ok (.iaload, 1) := by decide +kernel
theorem dL_law_194 : decode cL_law 194 = .ok (.aload_n 0, 1) := by decide +kernel
theorem dL_law_195 : decode cL_law 195 = .ok (.iload_n 3, 1) := by decide +kernel
theorem dL_law_196 : decode cL_law 196 = .ok (.iconst 2, 1) := by decide +kernel
theorem dL_law_197 : decode cL_law 197 = .ok (.iadd, 1) := by decide +kernel
theorem dL_law_198 : decode cL_law 198 = .ok (.iaload, 1) := by decide +kernel
theorem dL_law_199 : decode cL_law 199 = .ok (.aload_n 0, 1) := by decide +kernel
theorem dL_law_200 : decode cL_law 200 = .ok (.iload_n 3, 1) := by decide +kernel
theorem dL_law_201 : decode cL_law 201 = .ok (.iconst 3, 1) := by decide +kernel
theorem dL_law_202 : decode cL_law 202 = .ok (.iadd, 1) := by decide +kernel
theorem dL_law_203 : decode cL_law 203 = .ok (.iaload, 1) := by decide +kernel
theorem dL_law_204 : decode cL_law 204 = .ok (.aload_n 0, 1) := by decide +kernel
theorem dL_law_205 : decode cL_law 205 = .ok (.iload_n 3, 1) := by decide +kernel
theorem dL_law_206 : decode cL_law 206 = .ok (.iconst 4, 1) := by decide +kernel
theorem dL_law_207 : decode cL_law 207 = .ok (.iadd, 1) := by decide +kernel
theorem dL_law_208 : decode cL_law 208 = .ok (.iaload, 1) := by decide +kernel
theorem dL_law_209 : decode cL_law 209 = .ok (.aload_n 0, 1) := by decide +kernel
theorem dL_law_210 : decode cL_law 210 = .ok (.iload_n 3, 1) := by decide +kernel
theorem dL_law_211 : decode cL_law 211 = .ok (.iconst 5, 1) := by decide +kernel
theorem dL_law_212 : decode cL_law 212 = .ok (.iadd, 1) := by decide +kernel
theorem dL_law_213 : decode cL_law 213 = .ok (.iaload, 1) := by decide +kernel
theorem dL_law_214 : decode cL_law 214 = .ok (.invokevirtual 13, 3) := by decide +kernel
theorem dL_law_217 : decode cL_law 217 = .ok (.aload_n 2, 1) := by decide +kernel
theorem dL_law_218 : decode cL_law 218 = .ok (.aload_n 0, 1) := by decide +kernel
theorem dL_law_219 : decode cL_law 219 = .ok (.iload_n 3, 1) := by decide +kernel
theorem dL_law_220 : decode cL_law 220 = .ok (.iconst 1, 1) := by decide +kernel
theorem dL_law_221 : decode cL_law 221 = .ok (.iadd, 1) := by decide +kernel
theorem dL_law_222 : decode cL_law 222 = .ok (.iaload, 1) := by decide +kernel
theorem dL_law_223 : decode cL_law 223 = .ok (.aload_n 0, 1) := by decide +kernel
theorem dL_law_224 : decode cL_law 224 = .ok (.iload_n 3, 1) := by decide +kernel
theorem dL_law_225 : decode cL_law 225 = .ok (.iconst 2, 1) := by decide +kernel
theorem dL_law_226 : decode cL_law 226 = .ok (.iadd, 1) := by decide +kernel
theorem dL_law_227 : decode cL_law 227 = .ok (.iaload, 1) := by decide +kernel
theorem dL_law_228 : decode cL_law 228 = .ok (.aload_n 0, 1) := by decide +kernel
theorem dL_law_229 : decode cL_law 229 = .ok (.iload_n 3, 1) := by decide +kernel
theorem dL_law_230 : decode cL_law 230 = .ok (.iconst 3, 1) := by decide +kernel
theorem dL_law_231 : decode cL_law 231 = .ok (.iadd, 1) := by decide +kernel
theorem dL_law_232 : decode cL_law 232 = .ok (.iaload, 1) := by decide +kernel
theorem dL_law_233 : decode cL_law 233 = .ok (.aload_n 0, 1) := by decide +kernel
theorem dL_law_234 : decode cL_law 234 = .ok (.iload_n 3, 1) := by decide +kernel
theorem dL_law_235 : decode cL_law 235 = .ok (.iconst 4, 1) := by decide +kernel
theorem dL_law_236 : decode cL_law 236 = .ok (.iadd, 1) := by decide +kernel
theorem dL_law_237 : decode cL_law 237 = .ok (.iaload, 1) := by decide +kernel
theorem dL_law_238 : decode cL_law 238 = .ok (.aload_n 0, 1) := by decide +kernel
theorem dL_law_239 : decode cL_law 239 = .ok (.iload_n 3, 1) := by decide +kernel
theorem dL_law_240 : decode cL_law 240 = .ok (.iconst 5, 1) := by decide +kernel
theorem dL_law_241 : decode cL_law 241 = .ok (.iadd, 1) := by decide +kernel
theorem dL_law_242 : decode cL_law 242 = .ok (.iaload, 1) := by decide +kernel
theorem dL_law_243 : decode cL_law 243 = .ok (.invokevirtual 17, 3) := by decide +kernel
theorem dL_law_246 : decode cL_law 246 = .ok (.if_icmp .eq 1521, 3) := by decide +kernel
theorem dL_law_251 : decode cL_law 251 = .ok (.aload_n 1, 1) := by decide +kernel
theorem dL_law_252 : decode cL_law 252 = .ok (.aload_n 0, 1) := by decide +kernel
theorem dL_law_253 : decode cL_law 253 = .ok (.iload_n 3, 1) := by decide +kernel
theorem dL_law_254 : decode cL_law 254 = .ok (.iconst 1, 1) := by decide +kernel
theorem dL_law_255 : decode cL_law 255 = .ok (.iadd, 1) := by decide +kernel
theorem dL_law_256 : decode cL_law 256 = .ok (.iaload, 1) := by decide +kernel
theorem dL_law_257 : decode cL_law 257 = .ok (.invokevirtual 18, 3) := by decide +kernel
theorem dL_law_260 : decode cL_law 260 = .ok (.pop, 1) := by decide +kernel
theorem dL_law_261 : decode cL_law 261 = .ok (.aload_n 2, 1) := by decide +kernel
theorem dL_law_262 : decode cL_law 262 = .ok (.aload_n 0, 1) := by decide +kernel
theorem dL_law_263 : decode cL_law 263 = .ok (.iload_n 3, 1) := by decide +kernel
theorem dL_law_264 : decode cL_law 264 = .ok (.iconst 1, 1) := by decide +kernel
theorem dL_law_265 : decode cL_law 265 = .ok (.iadd, 1) := by decide +kernel
theorem dL_law_266 : decode cL_law 266 = .ok (.iaload, 1) := by decide +kernel
theorem dL_law_267 : decode cL_law 267 = .ok (.invokevirtual 22, 3) := by decide +kernel
theorem dL_law_270 : decode cL_law 270 = .ok (.pop, 1) := by decide +kernel
theorem dL_law_271 : decode cL_law 271 = .ok (.goto 1496, 3) := by decide +kernel
theorem dL_law_274 : decode cL_law 274 = .ok (.aload_n 1, 1) := by decide +kernel
theorem dL_law_275 : decode cL_law 275 = .ok (.aload_n 0, 1) := by decide +kernel
theorem dL_law_276 : decode cL_law 276 = .ok (.iload_n 3, 1) := by decide +kernel
theorem dL_law_277 : decode cL_law 277 = .ok (.iconst 1, 1) := by decide +kernel
theorem dL_law_278 : decode cL_law 278 = .ok (.iadd, 1) := by decide +kernel
theorem dL_law_279 : decode cL_law 279 = .ok (.iaload, 1) := by decide +kernel
theorem dL_law_280 : decode cL_law 280 = .ok (.aload_n 0, 1) := by decide +kernel
theorem dL_law_281 : decode cL_law 281 = .ok (.iload_n 3, 1) := by decide +kernel
theorem dL_law_282 : decode cL_law 282 = .ok (.iconst 2, 1) := by decide +kernel
theorem dL_law_283 : decode cL_law 283 = .ok (.iadd, 1) := by decide +kernel
theorem dL_law_284 : decode cL_law 284 = .ok (.iaload, 1) := by decide +kernel
theorem dL_law_285 : decode cL_law 285 = .ok (.invokevirtual 23, 3) := by decide +kernel
theorem dL_law_288 : decode cL_law 288 = .ok (.pop, 1) := by decide +kernel
theorem dL_law_289 : decode cL_law 289 = .ok (.aload_n 2, 1) := by decide +kernel
theorem dL_law_290 : decode cL_law 290 = .ok (.aload_n 0, 1) := by decide +kernel
theorem dL_law_291 : decode cL_law 291 = .ok (.iload_n 3, 1) := by decide +kernel
theorem dL_law_292 : decode cL_law 292 = .ok (.iconst 1, 1) := by decide +kernel
theorem dL_law_293 : decode cL_law 293 = .ok (.iadd, 1) := by decide +kernel
theorem dL_law_294 : decode cL_law 294 = .ok (.iaload, 1) := by decide +kernel
theorem dL_law_295 : decode cL_law 295 = .ok (.aload_n 0, 1) := by decide +kernel
theorem dL_law_296 : decode cL_law 296 = .ok (.iload_n 3, 1) := by decide +kernel
theorem dL_law_297 : decode cL_law 297 = .ok (.iconst 2, 1) := by decide +kernel
theorem dL_law_298 : decode cL_law 298 = .ok (.iadd, 1) := by decide +kernel
theorem dL_law_299 : decode cL_law 299 = .ok (.iaload, 1) := by decide +kernel
theorem dL_law_300 : decode cL_law 300 = .ok (.invokevirtual 27, 3) := by decide +kernel
theorem dL_law_303 : decode cL_law 303 = .ok (.pop, 1) := by decide +kernel
theorem dL_law_304 : decode cL_law 304 = .ok (.goto 1463, 3) := by decide +kernel
theorem dL_law_307 : decode cL_law 307 = .ok (.aload_n 1, 1) := by decide +kernel
theorem dL_law_308 : decode cL_law 308 = .ok (.aload_n 0, 1) := by decide +kernel
theorem dL_law_309 : decode cL_law 309 = .ok (.iload_n 3, 1) := by decide +kernel
theorem dL_law_310 : decode cL_law 310 = .ok (.iconst 1, 1) := by decide +kernel
theorem dL_law_311 : decode cL_law 311 = .ok (.iadd, 1) := by decide +kernel
theorem dL_law_312 : decode cL_law 312 = .ok (.iaload, 1) := by decide +kernel
theorem dL_law_313 : decode cL_law 313 = .ok (.invokevirtual 28, 3) := by decide +kernel
theorem dL_law_316 : decode cL_law 316 = .ok (.pop, 1) := by decide +kernel
theorem dL_law_317 : decode cL_law 317 = .ok (.aload_n 2, 1) := by decide +kernel
theorem dL_law_318 : decode cL_law 318 = .ok (.aload_n 0, 1) := by decide +kernel
theorem dL_law_319 : decode cL_law 319 = .ok (.iload_n 3, 1) := by decide +kernel
theorem dL_law_320 : decode cL_law 320 = .ok (.iconst 1, 1) := by decide +kernel
theorem dL_law_321 : decode cL_law 321 = .ok (.iadd, 1) := by decide +kernel
theorem dL_law_322 : decode cL_law 322 = .ok (.iaload, 1) := by decide +kernel
theorem dL_law_323 : decode cL_law 323 = .ok (.invokevirtual 31, 3) := by decide +kernel
theorem dL_law_326 : decode cL_law 326 = .ok (.pop, 1) := by decide +kernel
theorem dL_law_327 : decode cL_law 327 = .ok (.goto 1440, 3) := by decide +kernel
theorem dL_law_1721 : decode cL_law 1721 = .ok (.aload_n 1, 1) := by decide +kernel
theorem dL_law_1722 : decode cL_law 1722 = .ok (.aload_n 0, 1) := by decide +kernel
theorem dL_law_1723 : decode cL_law 1723 = .ok (.iload_n 3, 1) := by decide +kernel
theorem dL_law_1724 : decode cL_law 1724 = .ok (.iconst 1, 1) := by decide +kernel
theorem dL_law_1725 : decode cL_law 1725 = .ok (.iadd, 1) := by decide +kernel
theorem dL_law_1726 : decode cL_law 1726 = .ok (.iaload, 1) := by decide +kernel
theorem dL_law_1727 : decode cL_law 1727 = .ok (.invokevirtual 154, 3) := by decide +kernel
theorem dL_law_1730 : decode cL_law 1730 = .ok (.pop, 1) := by decide +kernel
theorem dL_law_1731 : decode cL_law 1731 = .ok (.aload_n 2, 1) := by decide +kernel
theorem dL_law_1732 : decode cL_law 1732 = .ok (.aload_n 0, 1) := by decide +kernel
theorem dL_law_1733 : decode cL_law 1733 = .ok (.iload_n 3, 1) := by decide +kernel
theorem dL_law_1734 : decode cL_law 1734 = .ok (.iconst 1, 1) := by decide +kernel
theorem dL_law_1735 : decode cL_law 1735 = .ok (.iadd, 1) := by decide +kernel
theorem dL_law_1736 : decode cL_law 1736 = .ok (.iaload, 1) := by decide +kernel
theorem dL_law_1737 : decode cL_law 1737 = .ok (.invokevirtual 158, 3) := by decide +kernel
theorem dL_law_1740 : decode cL_law 1740 = .ok (.pop, 1) := by decide +kernel
theorem dL_law_1741 : decode cL_law 1741 = .ok (.goto 26, 3) := by decide +kernel

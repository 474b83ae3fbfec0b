theorem m_cl_RL_7 : Cond.classLink RL 7 RX11 ∈ zT := zmem1 zsub_1 20 rfl rfl
theorem m_co_X11_init : Cond.code yX11_init cX11_init 1 none ∈ zT := zmem1 zsub_1 24 rfl rfl
theorem m_ml_RL_9 : Cond.methodLink RL 9 yX11_init ∈ zT := zmem1 zsub_1 22 rfl rfl
theorem m_im_X11_init : Cond.instanceMethod yX11_init ∈ zT := zmem1 zsub_1 23 rfl rfl
theorem m_cl_RL_10 : Cond.classLink RL 10 RX12 ∈ zT := zmem1 zsub_5 229 rfl rfl
theorem m_co_X12_init : Cond.code yX12_init cX12_init 1 none ∈ zT := zmem1 zsub_5 233 rfl rfl
theorem m_ml_RL_12 : Cond.methodLink RL 12 yX12_init ∈ zT := zmem1 zsub_5 231 rfl rfl
theorem m_im_X12_init : Cond.instanceMethod yX12_init ∈ zT := zmem1 zsub_5 232 rfl rfl
theorem kI_RL_9 {R : Room} {s : State} {args : Array Value} {d mc ms : Nat} (hts : ∀ w ∈ zT, w.before args s = true) (h1 : d + 1 ≤ R.frames) (h2 : 8 + (1 + 11) + 40 * d ≤ R.locals) : CallB R s args RL 9 yX11_init cX11_init 1 none (zW yX11_init cX11_init 1 none) (zR d mc ms) mc ms 0 ∧ yX11_init.name = "<init>" ∧ (Cond.instanceMethod yX11_init).before args s = true := z_cwI hts m_co_X11_init m_ml_RL_9 m_im_X11_init m_ii_RX11 rfl (by decide +kernel) h1 h2
theorem kI_RL_12 {R : Room} {s : State} {args : Array Value} {d mc ms : Nat} (hts : ∀ w ∈ zT, w.before args s = true) (h1 : d + 1 ≤ R.frames) (h2 : 8 + (1 + 11) + 40 * d ≤ R.locals) : CallB R s args RL 12 yX12_init cX12_init 1 none (zW yX12_init cX12_init 1 none) (zR d mc ms) mc ms 0 ∧ yX12_init.name = "<init>" ∧ (Cond.instanceMethod yX12_init).before args s = true := z_cwI hts m_co_X12_init m_ml_RL_12 m_im_X12_init m_ii_RX12 rfl (by decide +kernel) h1 h2
theorem dL_law_0 : decode cL_law 0 = .ok (.new 7, 3) := zo_187 (by decide +kernel)
theorem dL_law_3 : decode cL_law 3 = .ok (.dup, 1) := zo_89 (by decide +kernel)
theorem dL_law_4 : decode cL_law 4 = .ok (.invokespecial 9, 3) := zo_183 (by decide +kernel)
theorem dL_law_7 : decode cL_law 7 = .ok (.astore_n 1, 1) := zo_76 (by decide +kernel)
theorem dL_law_8 : decode cL_law 8 = .ok (.new 10, 3) := zo_187 (by decide +kernel)
theorem dL_law_11 : decode cL_law 11 = .ok (.dup, 1) := zo_89 (by decide +kernel)
theorem dL_law_12 : decode cL_law 12 = .ok (.invokespecial 12, 3) := zo_183 (by decide +kernel)
theorem dL_law_15 : decode cL_law 15 = .ok (.astore_n 2, 1) := zo_77 (by decide +kernel)
theorem dL_law_16 : decode cL_law 16 = .ok (.iconst 0, 1) := zo_3 (by decide +kernel)
theorem dL_law_17 : decode cL_law 17 = .ok (.istore_n 3, 1) := zo_62 (by decide +kernel)


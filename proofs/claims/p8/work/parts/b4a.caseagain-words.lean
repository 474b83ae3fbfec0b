theorem m_co_X11_again : Cond.code yX11_again cX11_again 2 (some .boolean) ∈ zT := zmem1 zsub_3 188 (by decide +kernel) (by decide +kernel)
theorem m_ml_RL_159 : Cond.methodLink RL 159 yX11_again ∈ zT := zmem1 zsub_3 185 (by decide +kernel) (by decide +kernel)
theorem m_im_X11_again : Cond.instanceMethod yX11_again ∈ zT := zmem1 zsub_3 186 (by decide +kernel) (by decide +kernel)
theorem m_se_X11_again : Cond.selects RX11 yX11_again yX11_again ∈ zT := zmem1 zsub_3 187 (by decide +kernel) (by decide +kernel)
theorem m_co_X12_again : Cond.code yX12_again cX12_again 3 (some .boolean) ∈ zT := zmem1 zsub_8 94 (by decide +kernel) (by decide +kernel)
theorem m_ml_RL_162 : Cond.methodLink RL 162 yX12_again ∈ zT := zmem1 zsub_8 91 (by decide +kernel) (by decide +kernel)
theorem m_im_X12_again : Cond.instanceMethod yX12_again ∈ zT := zmem1 zsub_8 92 (by decide +kernel) (by decide +kernel)
theorem m_se_X12_again : Cond.selects RX12 yX12_again yX12_again ∈ zT := zmem1 zsub_8 93 (by decide +kernel) (by decide +kernel)
theorem kV_RL_159 {R : Room} {s : State} {args : Array Value} {d mc ms : Nat} (hts : ∀ w ∈ zT, w.before args s = true) (h1 : d + 1 ≤ R.frames) (h2 : 8 + (2 + 11) + 40 * d ≤ R.locals) : CallW R s args RL RX11 159 yX11_again cX11_again 2 (some .boolean) (zW yX11_again cX11_again 2 (some .boolean)) (zR d mc ms) mc ms 1 := z_cwV hts m_co_X11_again m_ml_RL_159 m_im_X11_again m_se_X11_again m_ii_RX11 (by decide +kernel) h1 h2
theorem kV_RL_162 {R : Room} {s : State} {args : Array Value} {d mc ms : Nat} (hts : ∀ w ∈ zT, w.before args s = true) (h1 : d + 1 ≤ R.frames) (h2 : 8 + (3 + 11) + 40 * d ≤ R.locals) : CallW R s args RL RX12 162 yX12_again cX12_again 3 (some .boolean) (zW yX12_again cX12_again 3 (some .boolean)) (zR d mc ms) mc ms 1 := z_cwV hts m_co_X12_again m_ml_RL_162 m_im_X12_again m_se_X12_again m_ii_RX12 (by decide +kernel) h1 h2
theorem dL_law_1744 : decode cL_law 1744 = .ok (.aload_n 1, 1) := by decide +kernel
theorem dL_law_1745 : decode cL_law 1745 = .ok (.aload_n 0, 1) := by decide +kernel
theorem dL_law_1746 : decode cL_law 1746 = .ok (.iload_n 3, 1) := by decide +kernel
theorem dL_law_1747 : decode cL_law 1747 = .ok (.iconst 1, 1) := by decide +kernel
theorem dL_law_1748 : decode cL_law 1748 = .ok (.iadd, 1) := by decide +kernel
theorem dL_law_1749 : decode cL_law 1749 = .ok (.iaload, 1) := by decide +kernel
theorem dL_law_1750 : decode cL_law 1750 = .ok (.invokevirtual 159, 3) := by decide +kernel
theorem dL_law_1753 : decode cL_law 1753 = .ok (.pop, 1) := by decide +kernel
theorem dL_law_1754 : decode cL_law 1754 = .ok (.aload_n 2, 1) := by decide +kernel
theorem dL_law_1755 : decode cL_law 1755 = .ok (.aload_n 0, 1) := by decide +kernel
theorem dL_law_1756 : decode cL_law 1756 = .ok (.iload_n 3, 1) := by decide +kernel
theorem dL_law_1757 : decode cL_law 1757 = .ok (.iconst 1, 1) := by decide +kernel
theorem dL_law_1758 : decode cL_law 1758 = .ok (.iadd, 1) := by decide +kernel
theorem dL_law_1759 : decode cL_law 1759 = .ok (.iaload, 1) := by decide +kernel
theorem dL_law_1760 : decode cL_law 1760 = .ok (.invokevirtual 162, 3) := by decide +kernel
theorem dL_law_1763 : decode cL_law 1763 = .ok (.pop, 1) := by decide +kernel
theorem dL_law_1764 : decode cL_law 1764 = .ok (.goto 3, 3) := by decide +kernel


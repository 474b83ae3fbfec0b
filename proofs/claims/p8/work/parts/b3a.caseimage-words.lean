theorem m_co_X11_image : Cond.code yX11_image cX11_image 2 (some .boolean) ∈ zT := zmem1 zsub_3 180 (by decide +kernel) (by decide +kernel)
theorem m_ml_RL_154 : Cond.methodLink RL 154 yX11_image ∈ zT := zmem1 zsub_3 177 (by decide +kernel) (by decide +kernel)
theorem m_im_X11_image : Cond.instanceMethod yX11_image ∈ zT := zmem1 zsub_3 178 (by decide +kernel) (by decide +kernel)
theorem m_se_X11_image : Cond.selects RX11 yX11_image yX11_image ∈ zT := zmem1 zsub_3 179 (by decide +kernel) (by decide +kernel)
theorem m_co_X12_image : Cond.code yX12_image cX12_image 3 (some .boolean) ∈ zT := zmem1 zsub_8 90 (by decide +kernel) (by decide +kernel)
theorem m_ml_RL_158 : Cond.methodLink RL 158 yX12_image ∈ zT := zmem1 zsub_8 87 (by decide +kernel) (by decide +kernel)
theorem m_im_X12_image : Cond.instanceMethod yX12_image ∈ zT := zmem1 zsub_8 88 (by decide +kernel) (by decide +kernel)
theorem m_se_X12_image : Cond.selects RX12 yX12_image yX12_image ∈ zT := zmem1 zsub_8 89 (by decide +kernel) (by decide +kernel)
theorem kV_RL_154 {R : Room} {s : State} {args : Array Value} {d mc ms : Nat} (hts : ∀ w ∈ zT, w.before args s = true) (h1 : d + 1 ≤ R.frames) (h2 : 8 + (2 + 11) + 40 * d ≤ R.locals) : CallW R s args RL RX11 154 yX11_image cX11_image 2 (some .boolean) (zW yX11_image cX11_image 2 (some .boolean)) (zR d mc ms) mc ms 1 := z_cwV hts m_co_X11_image m_ml_RL_154 m_im_X11_image m_se_X11_image m_ii_RX11 (by decide +kernel) h1 h2
theorem kV_RL_158 {R : Room} {s : State} {args : Array Value} {d mc ms : Nat} (hts : ∀ w ∈ zT, w.before args s = true) (h1 : d + 1 ≤ R.frames) (h2 : 8 + (3 + 11) + 40 * d ≤ R.locals) : CallW R s args RL RX12 158 yX12_image cX12_image 3 (some .boolean) (zW yX12_image cX12_image 3 (some .boolean)) (zR d mc ms) mc ms 1 := z_cwV hts m_co_X12_image m_ml_RL_158 m_im_X12_image m_se_X12_image m_ii_RX12 (by decide +kernel) h1 h2
theorem dL_law_1721 : decode cL_law 1721 = .ok (.aload_n 1, 1) := by decide +kernel
theorem dL_law_1722 : decode cL_law 1722 = .ok (.aload_n 0, 1) := by decide +kernel
theorem dL_law_1723 : decode cL_law 1723 = .ok (.iload_n 3, 1) := by decide +kernel
theorem dL_law_1724 : decode cL_law 1724 = .ok (.iconst 1, 1) := by decide +kernel
theorem dL_law_1725 : decode cL_law 1725 = .ok (.iadd, 1) := by decide +kernel
theorem dL_law_1726 : decode cL_law 1726 = .ok (.iaload, 1) := by decide +kernel
theorem dL_law_1727 : decode cL_law 1727 = .ok (.invokevirtual 154, 3) := by decide +kernel
theorem dL_law_1730 : decode cL_law 1730 = .ok (.pop, 1) := by decide +kernel
theorem dL_law_1731 : decode cL_law 1731 = .ok (.aload_n 2, 1) := by decide +kernel
theorem dL_law_1732 : decode cL_law 1732 = .ok (.aload_n 0, 1) := by decide +kernel
theorem dL_law_1733 : decode cL_law 1733 = .ok (.iload_n 3, 1) := by decide +kernel
theorem dL_law_1734 : decode cL_law 1734 = .ok (.iconst 1, 1) := by decide +kernel
theorem dL_law_1735 : decode cL_law 1735 = .ok (.iadd, 1) := by decide +kernel
theorem dL_law_1736 : decode cL_law 1736 = .ok (.iaload, 1) := by decide +kernel
theorem dL_law_1737 : decode cL_law 1737 = .ok (.invokevirtual 158, 3) := by decide +kernel
theorem dL_law_1740 : decode cL_law 1740 = .ok (.pop, 1) := by decide +kernel
theorem dL_law_1741 : decode cL_law 1741 = .ok (.goto 26, 3) := by decide +kernel


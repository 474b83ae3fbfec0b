theorem m_co_X11_fits : Cond.code yX11_fits cX11_fits 7 (some .int) ∈ zT := zmem1 zsub_5 109 (by decide +kernel) (by decide +kernel)
theorem m_ml_RL_92 : Cond.methodLink RL 92 yX11_fits ∈ zT := zmem1 zsub_5 106 (by decide +kernel) (by decide +kernel)
theorem m_im_X11_fits : Cond.instanceMethod yX11_fits ∈ zT := zmem1 zsub_5 107 (by decide +kernel) (by decide +kernel)
theorem m_se_X11_fits : Cond.selects RX11 yX11_fits yX11_fits ∈ zT := zmem1 zsub_5 108 (by decide +kernel) (by decide +kernel)
theorem m_co_X12_fits : Cond.code yX12_fits cX12_fits 5 (some .int) ∈ zT := zmem1 zsub_8 36 (by decide +kernel) (by decide +kernel)
theorem m_ml_RL_95 : Cond.methodLink RL 95 yX12_fits ∈ zT := zmem1 zsub_8 33 (by decide +kernel) (by decide +kernel)
theorem m_im_X12_fits : Cond.instanceMethod yX12_fits ∈ zT := zmem1 zsub_8 34 (by decide +kernel) (by decide +kernel)
theorem m_se_X12_fits : Cond.selects RX12 yX12_fits yX12_fits ∈ zT := zmem1 zsub_8 35 (by decide +kernel) (by decide +kernel)
theorem m_co_X11_drawn : Cond.code yX11_drawn cX11_drawn 6 (some .int) ∈ zT := zmem1 zsub_4 106 (by decide +kernel) (by decide +kernel)
theorem m_ml_RL_96 : Cond.methodLink RL 96 yX11_drawn ∈ zT := zmem1 zsub_4 103 (by decide +kernel) (by decide +kernel)
theorem m_im_X11_drawn : Cond.instanceMethod yX11_drawn ∈ zT := zmem1 zsub_4 104 (by decide +kernel) (by decide +kernel)
theorem m_se_X11_drawn : Cond.selects RX11 yX11_drawn yX11_drawn ∈ zT := zmem1 zsub_4 105 (by decide +kernel) (by decide +kernel)
theorem m_co_X12_drawn : Cond.code yX12_drawn cX12_drawn 6 (some .int) ∈ zT := zmem1 zsub_8 73 (by decide +kernel) (by decide +kernel)
theorem m_ml_RL_99 : Cond.methodLink RL 99 yX12_drawn ∈ zT := zmem1 zsub_8 70 (by decide +kernel) (by decide +kernel)
theorem m_im_X12_drawn : Cond.instanceMethod yX12_drawn ∈ zT := zmem1 zsub_8 71 (by decide +kernel) (by decide +kernel)
theorem m_se_X12_drawn : Cond.selects RX12 yX12_drawn yX12_drawn ∈ zT := zmem1 zsub_8 72 (by decide +kernel) (by decide +kernel)
theorem m_co_X11_far : Cond.code yX11_far cX11_far 5 (some .int) ∈ zT := zmem1 zsub_5 170 (by decide +kernel) (by decide +kernel)
theorem m_ml_RL_100 : Cond.methodLink RL 100 yX11_far ∈ zT := zmem1 zsub_5 167 (by decide +kernel) (by decide +kernel)
theorem m_im_X11_far : Cond.instanceMethod yX11_far ∈ zT := zmem1 zsub_5 168 (by decide +kernel) (by decide +kernel)
theorem m_se_X11_far : Cond.selects RX11 yX11_far yX11_far ∈ zT := zmem1 zsub_5 169 (by decide +kernel) (by decide +kernel)
theorem m_co_X12_far : Cond.code yX12_far cX12_far 4 (some .int) ∈ zT := zmem1 zsub_7 116 (by decide +kernel) (by decide +kernel)
theorem m_ml_RL_103 : Cond.methodLink RL 103 yX12_far ∈ zT := zmem1 zsub_7 113 (by decide +kernel) (by decide +kernel)
theorem m_im_X12_far : Cond.instanceMethod yX12_far ∈ zT := zmem1 zsub_7 114 (by decide +kernel) (by decide +kernel)
theorem m_se_X12_far : Cond.selects RX12 yX12_far yX12_far ∈ zT := zmem1 zsub_7 115 (by decide +kernel) (by decide +kernel)
theorem m_co_X11_reach : Cond.code yX11_reach cX11_reach 5 (some .int) ∈ zT := zmem1 zsub_5 177 (by decide +kernel) (by decide +kernel)
theorem m_ml_RL_104 : Cond.methodLink RL 104 yX11_reach ∈ zT := zmem1 zsub_5 174 (by decide +kernel) (by decide +kernel)
theorem m_im_X11_reach : Cond.instanceMethod yX11_reach ∈ zT := zmem1 zsub_5 175 (by decide +kernel) (by decide +kernel)
theorem m_se_X11_reach : Cond.selects RX11 yX11_reach yX11_reach ∈ zT := zmem1 zsub_5 176 (by decide +kernel) (by decide +kernel)
theorem m_co_X12_reach : Cond.code yX12_reach cX12_reach 7 (some .int) ∈ zT := zmem1 zsub_7 128 (by decide +kernel) (by decide +kernel)
theorem m_ml_RL_107 : Cond.methodLink RL 107 yX12_reach ∈ zT := zmem1 zsub_7 125 (by decide +kernel) (by decide +kernel)
theorem m_im_X12_reach : Cond.instanceMethod yX12_reach ∈ zT := zmem1 zsub_7 126 (by decide +kernel) (by decide +kernel)
theorem m_se_X12_reach : Cond.selects RX12 yX12_reach yX12_reach ∈ zT := zmem1 zsub_7 127 (by decide +kernel) (by decide +kernel)
theorem m_co_X11_classes : Cond.code yX11_classes cX11_classes 4 (some .int) ∈ zT := zmem1 zsub_5 185 (by decide +kernel) (by decide +kernel)
theorem m_ml_RL_108 : Cond.methodLink RL 108 yX11_classes ∈ zT := zmem1 zsub_5 182 (by decide +kernel) (by decide +kernel)
theorem m_im_X11_classes : Cond.instanceMethod yX11_classes ∈ zT := zmem1 zsub_5 183 (by decide +kernel) (by decide +kernel)
theorem m_se_X11_classes : Cond.selects RX11 yX11_classes yX11_classes ∈ zT := zmem1 zsub_5 184 (by decide +kernel) (by decide +kernel)
theorem m_co_X12_classes : Cond.code yX12_classes cX12_classes 3 (some .int) ∈ zT := zmem1 zsub_7 136 (by decide +kernel) (by decide +kernel)
theorem m_ml_RL_111 : Cond.methodLink RL 111 yX12_classes ∈ zT := zmem1 zsub_7 133 (by decide +kernel) (by decide +kernel)
theorem m_im_X12_classes : Cond.instanceMethod yX12_classes ∈ zT := zmem1 zsub_7 134 (by decide +kernel) (by decide +kernel)
theorem m_se_X12_classes : Cond.selects RX12 yX12_classes yX12_classes ∈ zT := zmem1 zsub_7 135 (by decide +kernel) (by decide +kernel)
theorem m_co_X11_led : Cond.code yX11_led cX11_led 7 (some .int) ∈ zT := zmem1 zsub_5 223 (by decide +kernel) (by decide +kernel)
theorem m_ml_RL_112 : Cond.methodLink RL 112 yX11_led ∈ zT := zmem1 zsub_5 220 (by decide +kernel) (by decide +kernel)
theorem m_im_X11_led : Cond.instanceMethod yX11_led ∈ zT := zmem1 zsub_5 221 (by decide +kernel) (by decide +kernel)
theorem m_se_X11_led : Cond.selects RX11 yX11_led yX11_led ∈ zT := zmem1 zsub_5 222 (by decide +kernel) (by decide +kernel)
theorem m_co_X12_led : Cond.code yX12_led cX12_led 6 (some .int) ∈ zT := zmem1 zsub_7 164 (by decide +kernel) (by decide +kernel)
theorem m_ml_RL_115 : Cond.methodLink RL 115 yX12_led ∈ zT := zmem1 zsub_7 161 (by decide +kernel) (by decide +kernel)
theorem m_im_X12_led : Cond.instanceMethod yX12_led ∈ zT := zmem1 zsub_7 162 (by decide +kernel) (by decide +kernel)
theorem m_se_X12_led : Cond.selects RX12 yX12_led yX12_led ∈ zT := zmem1 zsub_7 163 (by decide +kernel) (by decide +kernel)
theorem kV_RL_92 {R : Room} {s : State} {args : Array Value} {d mc ms : Nat} (hts : ∀ w ∈ zT, w.before args s = true) (h1 : d + 1 ≤ R.frames) (h2 : 8 + (7 + 11) + 40 * d ≤ R.locals) : CallW R s args RL RX11 92 yX11_fits cX11_fits 7 (some .int) (zW yX11_fits cX11_fits 7 (some .int)) (zR d mc ms) mc ms 3 := z_cwV hts m_co_X11_fits m_ml_RL_92 m_im_X11_fits m_se_X11_fits m_ii_RX11 (by decide +kernel) h1 h2
theorem kV_RL_95 {R : Room} {s : State} {args : Array Value} {d mc ms : Nat} (hts : ∀ w ∈ zT, w.before args s = true) (h1 : d + 1 ≤ R.frames) (h2 : 8 + (5 + 11) + 40 * d ≤ R.locals) : CallW R s args RL RX12 95 yX12_fits cX12_fits 5 (some .int) (zW yX12_fits cX12_fits 5 (some .int)) (zR d mc ms) mc ms 3 := z_cwV hts m_co_X12_fits m_ml_RL_95 m_im_X12_fits m_se_X12_fits m_ii_RX12 (by decide +kernel) h1 h2
theorem kV_RL_96 {R : Room} {s : State} {args : Array Value} {d mc ms : Nat} (hts : ∀ w ∈ zT, w.before args s = true) (h1 : d + 1 ≤ R.frames) (h2 : 8 + (6 + 11) + 40 * d ≤ R.locals) : CallW R s args RL RX11 96 yX11_drawn cX11_drawn 6 (some .int) (zW yX11_drawn cX11_drawn 6 (some .int)) (zR d mc ms) mc ms 4 := z_cwV hts m_co_X11_drawn m_ml_RL_96 m_im_X11_drawn m_se_X11_drawn m_ii_RX11 (by decide +kernel) h1 h2
theorem kV_RL_99 {R : Room} {s : State} {args : Array Value} {d mc ms : Nat} (hts : ∀ w ∈ zT, w.before args s = true) (h1 : d + 1 ≤ R.frames) (h2 : 8 + (6 + 11) + 40 * d ≤ R.locals) : CallW R s args RL RX12 99 yX12_drawn cX12_drawn 6 (some .int) (zW yX12_drawn cX12_drawn 6 (some .int)) (zR d mc ms) mc ms 4 := z_cwV hts m_co_X12_drawn m_ml_RL_99 m_im_X12_drawn m_se_X12_drawn m_ii_RX12 (by decide +kernel) h1 h2
theorem kV_RL_100 {R : Room} {s : State} {args : Array Value} {d mc ms : Nat} (hts : ∀ w ∈ zT, w.before args s = true) (h1 : d + 1 ≤ R.frames) (h2 : 8 + (5 + 11) + 40 * d ≤ R.locals) : CallW R s args RL RX11 100 yX11_far cX11_far 5 (some .int) (zW yX11_far cX11_far 5 (some .int)) (zR d mc ms) mc ms 3 := z_cwV hts m_co_X11_far m_ml_RL_100 m_im_X11_far m_se_X11_far m_ii_RX11 (by decide +kernel) h1 h2
theorem kV_RL_103 {R : Room} {s : State} {args : Array Value} {d mc ms : Nat} (hts : ∀ w ∈ zT, w.before args s = true) (h1 : d + 1 ≤ R.frames) (h2 : 8 + (4 + 11) + 40 * d ≤ R.locals) : CallW R s args RL RX12 103 yX12_far cX12_far 4 (some .int) (zW yX12_far cX12_far 4 (some .int)) (zR d mc ms) mc ms 3 := z_cwV hts m_co_X12_far m_ml_RL_103 m_im_X12_far m_se_X12_far m_ii_RX12 (by decide +kernel) h1 h2
theorem kV_RL_104 {R : Room} {s : State} {args : Array Value} {d mc ms : Nat} (hts : ∀ w ∈ zT, w.before args s = true) (h1 : d + 1 ≤ R.frames) (h2 : 8 + (5 + 11) + 40 * d ≤ R.locals) : CallW R s args RL RX11 104 yX11_reach cX11_reach 5 (some .int) (zW yX11_reach cX11_reach 5 (some .int)) (zR d mc ms) mc ms 3 := z_cwV hts m_co_X11_reach m_ml_RL_104 m_im_X11_reach m_se_X11_reach m_ii_RX11 (by decide +kernel) h1 h2
theorem kV_RL_107 {R : Room} {s : State} {args : Array Value} {d mc ms : Nat} (hts : ∀ w ∈ zT, w.before args s = true) (h1 : d + 1 ≤ R.frames) (h2 : 8 + (7 + 11) + 40 * d ≤ R.locals) : CallW R s args RL RX12 107 yX12_reach cX12_reach 7 (some .int) (zW yX12_reach cX12_reach 7 (some .int)) (zR d mc ms) mc ms 3 := z_cwV hts m_co_X12_reach m_ml_RL_107 m_im_X12_reach m_se_X12_reach m_ii_RX12 (by decide +kernel) h1 h2
theorem kV_RL_108 {R : Room} {s : State} {args : Array Value} {d mc ms : Nat} (hts : ∀ w ∈ zT, w.before args s = true) (h1 : d + 1 ≤ R.frames) (h2 : 8 + (4 + 11) + 40 * d ≤ R.locals) : CallW R s args RL RX11 108 yX11_classes cX11_classes 4 (some .int) (zW yX11_classes cX11_classes 4 (some .int)) (zR d mc ms) mc ms 2 := z_cwV hts m_co_X11_classes m_ml_RL_108 m_im_X11_classes m_se_X11_classes m_ii_RX11 (by decide +kernel) h1 h2
theorem kV_RL_111 {R : Room} {s : State} {args : Array Value} {d mc ms : Nat} (hts : ∀ w ∈ zT, w.before args s = true) (h1 : d + 1 ≤ R.frames) (h2 : 8 + (3 + 11) + 40 * d ≤ R.locals) : CallW R s args RL RX12 111 yX12_classes cX12_classes 3 (some .int) (zW yX12_classes cX12_classes 3 (some .int)) (zR d mc ms) mc ms 2 := z_cwV hts m_co_X12_classes m_ml_RL_111 m_im_X12_classes m_se_X12_classes m_ii_RX12 (by decide +kernel) h1 h2
theorem kV_RL_112 {R : Room} {s : State} {args : Array Value} {d mc ms : Nat} (hts : ∀ w ∈ zT, w.before args s = true) (h1 : d + 1 ≤ R.frames) (h2 : 8 + (7 + 11) + 40 * d ≤ R.locals) : CallW R s args RL RX11 112 yX11_led cX11_led 7 (some .int) (zW yX11_led cX11_led 7 (some .int)) (zR d mc ms) mc ms 3 := z_cwV hts m_co_X11_led m_ml_RL_112 m_im_X11_led m_se_X11_led m_ii_RX11 (by decide +kernel) h1 h2
theorem kV_RL_115 {R : Room} {s : State} {args : Array Value} {d mc ms : Nat} (hts : ∀ w ∈ zT, w.before args s = true) (h1 : d + 1 ≤ R.frames) (h2 : 8 + (6 + 11) + 40 * d ≤ R.locals) : CallW R s args RL RX12 115 yX12_led cX12_led 6 (some .int) (zW yX12_led cX12_led 6 (some .int)) (zR d mc ms) mc ms 3 := z_cwV hts m_co_X12_led m_ml_RL_115 m_im_X12_led m_se_X12_led m_ii_RX12 (by decide +kernel) h1 h2
theorem dL_law_986 : decode cL_law 986 = .ok (.aload_n 1, 1) := by decide +kernel
theorem dL_law_987 : decode cL_law 987 = .ok (.aload_n 0, 1) := by decide +kernel
theorem dL_law_988 : decode cL_law 988 = .ok (.iload_n 3, 1) := by decide +kernel
theorem dL_law_989 : decode cL_law 989 = .ok (.iconst 1, 1) := by decide +kernel
theorem dL_law_990 : decode cL_law 990 = .ok (.iadd, 1) := by decide +kernel
theorem dL_law_991 : decode cL_law 991 = .ok (.iaload, 1) := by decide +kernel
theorem dL_law_992 : decode cL_law 992 = .ok (.aload_n 0, 1) := by decide +kernel
theorem dL_law_993 : decode cL_law 993 = .ok (.iload_n 3, 1) := by decide +kernel
theorem dL_law_994 : decode cL_law 994 = .ok (.iconst 2, 1) := by decide +kernel
theorem dL_law_995 : decode cL_law 995 = .ok (.iadd, 1) := by decide +kernel
theorem dL_law_996 : decode cL_law 996 = .ok (.iaload, 1) := by decide +kernel
theorem dL_law_997 : decode cL_law 997 = .ok (.aload_n 0, 1) := by decide +kernel
theorem dL_law_998 : decode cL_law 998 = .ok (.iload_n 3, 1) := by decide +kernel
theorem dL_law_999 : decode cL_law 999 = .ok (.iconst 3, 1) := by decide +kernel
theorem dL_law_1000 : decode cL_law 1000 = .ok (.iadd, 1) := by decide +kernel
theorem dL_law_1001 : decode cL_law 1001 = .ok (.iaload, 1) := by decide +kernel
theorem dL_law_1002 : decode cL_law 1002 = .ok (.invokevirtual 92, 3) := by decide +kernel
theorem dL_law_1005 : decode cL_law 1005 = .ok (.pop, 1) := by decide +kernel
theorem dL_law_1006 : decode cL_law 1006 = .ok (.aload_n 2, 1) := by decide +kernel
theorem dL_law_1007 : decode cL_law 1007 = .ok (.aload_n 0, 1) := by decide +kernel
theorem dL_law_1008 : decode cL_law 1008 = .ok (.iload_n 3, 1) := by decide +kernel
theorem dL_law_1009 : decode cL_law 1009 = .ok (.iconst 1, 1) := by decide +kernel
theorem dL_law_1010 : decode cL_law 1010 = .ok (.iadd, 1) := by decide +kernel
theorem dL_law_1011 : decode cL_law 1011 = .ok (.iaload, 1) := by decide +kernel
theorem dL_law_1012 : decode cL_law 1012 = .ok (.aload_n 0, 1) := by decide +kernel
theorem dL_law_1013 : decode cL_law 1013 = .ok (.iload_n 3, 1) := by decide +kernel
theorem dL_law_1014 : decode cL_law 1014 = .ok (.iconst 2, 1) := by decide +kernel
theorem dL_law_1015 : decode cL_law 1015 = .ok (.iadd, 1) := by decide +kernel
theorem dL_law_1016 : decode cL_law 1016 = .ok (.iaload, 1) := by decide +kernel
theorem dL_law_1017 : decode cL_law 1017 = .ok (.aload_n 0, 1) := by decide +kernel
theorem dL_law_1018 : decode cL_law 1018 = .ok (.iload_n 3, 1) := by decide +kernel
theorem dL_law_1019 : decode cL_law 1019 = .ok (.iconst 3, 1) := by decide +kernel
theorem dL_law_1020 : decode cL_law 1020 = .ok (.iadd, 1) := by decide +kernel
theorem dL_law_1021 : decode cL_law 1021 = .ok (.iaload, 1) := by decide +kernel
theorem dL_law_1022 : decode cL_law 1022 = .ok (.invokevirtual 95, 3) := by decide +kernel
theorem dL_law_1025 : decode cL_law 1025 = .ok (.pop, 1) := by decide +kernel
theorem dL_law_1026 : decode cL_law 1026 = .ok (.goto 741, 3) := by decide +kernel
theorem dL_law_1029 : decode cL_law 1029 = .ok (.aload_n 1, 1) := by decide +kernel
theorem dL_law_1030 : decode cL_law 1030 = .ok (.aload_n 0, 1) := by decide +kernel
theorem dL_law_1031 : decode cL_law 1031 = .ok (.iload_n 3, 1) := by decide +kernel
theorem dL_law_1032 : decode cL_law 1032 = .ok (.iconst 1, 1) := by decide +kernel
theorem dL_law_1033 : decode cL_law 1033 = .ok (.iadd, 1) := by decide +kernel
theorem dL_law_1034 : decode cL_law 1034 = .ok (.iaload, 1) := by decide +kernel
theorem dL_law_1035 : decode cL_law 1035 = .ok (.aload_n 0, 1) := by decide +kernel
theorem dL_law_1036 : decode cL_law 1036 = .ok (.iload_n 3, 1) := by decide +kernel
theorem dL_law_1037 : decode cL_law 1037 = .ok (.iconst 2, 1) := by decide +kernel
theorem dL_law_1038 : decode cL_law 1038 = .ok (.iadd, 1) := by decide +kernel
theorem dL_law_1039 : decode cL_law 1039 = .ok (.iaload, 1) := by decide +kernel
theorem dL_law_1040 : decode cL_law 1040 = .ok (.aload_n 0, 1) := by decide +kernel
theorem dL_law_1041 : decode cL_law 1041 = .ok (.iload_n 3, 1) := by decide +kernel
theorem dL_law_1042 : decode cL_law 1042 = .ok (.iconst 3, 1) := by decide +kernel
theorem dL_law_1043 : decode cL_law 1043 = .ok (.iadd, 1) := by decide +kernel
theorem dL_law_1044 : decode cL_law 1044 = .ok (.iaload, 1) := by decide +kernel
theorem dL_law_1045 : decode cL_law 1045 = .ok (.aload_n 0, 1) := by decide +kernel
theorem dL_law_1046 : decode cL_law 1046 = .ok (.iload_n 3, 1) := by decide +kernel
theorem dL_law_1047 : decode cL_law 1047 = .ok (.iconst 4, 1) := by decide +kernel
theorem dL_law_1048 : decode cL_law 1048 = .ok (.iadd, 1) := by decide +kernel
theorem dL_law_1049 : decode cL_law 1049 = .ok (.iaload, 1) := by decide +kernel
theorem dL_law_1050 : decode cL_law 1050 = .ok (.invokevirtual 96, 3) := by decide +kernel
theorem dL_law_1053 : decode cL_law 1053 = .ok (.pop, 1) := by decide +kernel
theorem dL_law_1054 : decode cL_law 1054 = .ok (.aload_n 2, 1) := by decide +kernel
theorem dL_law_1055 : decode cL_law 1055 = .ok (.aload_n 0, 1) := by decide +kernel
theorem dL_law_1056 : decode cL_law 1056 = .ok (.iload_n 3, 1) := by decide +kernel
theorem dL_law_1057 : decode cL_law 1057 = .ok (.iconst 1, 1) := by decide +kernel
theorem dL_law_1058 : decode cL_law 1058 = .ok (.iadd, 1) := by decide +kernel
theorem dL_law_1059 : decode cL_law 1059 = .ok (.iaload, 1) := by decide +kernel
theorem dL_law_1060 : decode cL_law 1060 = .ok (.aload_n 0, 1) := by decide +kernel
theorem dL_law_1061 : decode cL_law 1061 = .ok (.iload_n 3, 1) := by decide +kernel
theorem dL_law_1062 : decode cL_law 1062 = .ok (.iconst 2, 1) := by decide +kernel
theorem dL_law_1063 : decode cL_law 1063 = .ok (.iadd, 1) := by decide +kernel
theorem dL_law_1064 : decode cL_law 1064 = .ok (.iaload, 1) := by decide +kernel
theorem dL_law_1065 : decode cL_law 1065 = .ok (.aload_n 0, 1) := by decide +kernel
theorem dL_law_1066 : decode cL_law 1066 = .ok (.iload_n 3, 1) := by decide +kernel
theorem dL_law_1067 : decode cL_law 1067 = .ok (.iconst 3, 1) := by decide +kernel
theorem dL_law_1068 : decode cL_law 1068 = .ok (.iadd, 1) := by decide +kernel
theorem dL_law_1069 : decode cL_law 1069 = .ok (.iaload, 1) := by decide +kernel
theorem dL_law_1070 : decode cL_law 1070 = .ok (.aload_n 0, 1) := by decide +kernel
theorem dL_law_1071 : decode cL_law 1071 = .ok (.iload_n 3, 1) := by decide +kernel
theorem dL_law_1072 : decode cL_law 1072 = .ok (.iconst 4, 1) := by decide +kernel
theorem dL_law_1073 : decode cL_law 1073 = .ok (.iadd, 1) := by decide +kernel
theorem dL_law_1074 : decode cL_law 1074 = .ok (.iaload, 1) := by decide +kernel
theorem dL_law_1075 : decode cL_law 1075 = .ok (.invokevirtual 99, 3) := by decide +kernel
theorem dL_law_1078 : decode cL_law 1078 = .ok (.pop, 1) := by decide +kernel
theorem dL_law_1079 : decode cL_law 1079 = .ok (.goto 688, 3) := by decide +kernel
theorem dL_law_1082 : decode cL_law 1082 = .ok (.aload_n 1, 1) := by decide +kernel
theorem dL_law_1083 : decode cL_law 1083 = .ok (.aload_n 0, 1) := by decide +kernel
theorem dL_law_1084 : decode cL_law 1084 = .ok (.iload_n 3, 1) := by decide +kernel
theorem dL_law_1085 : decode cL_law 1085 = .ok (.iconst 1, 1) := by decide +kernel
theorem dL_law_1086 : decode cL_law 1086 = .ok (.iadd, 1) := by decide +kernel
theorem dL_law_1087 : decode cL_law 1087 = .ok (.iaload, 1) := by decide +kernel
theorem dL_law_1088 : decode cL_law 1088 = .ok (.aload_n 0, 1) := by decide +kernel
theorem dL_law_1089 : decode cL_law 1089 = .ok (.iload_n 3, 1) := by decide +kernel
theorem dL_law_1090 : decode cL_law 1090 = .ok (.iconst 2, 1) := by decide +kernel
theorem dL_law_1091 : decode cL_law 1091 = .ok (.iadd, 1) := by decide +kernel
theorem dL_law_1092 : decode cL_law 1092 = .ok (.iaload, 1) := by decide +kernel
theorem dL_law_1093 : decode cL_law 1093 = .ok (.aload_n 0, 1) := by decide +kernel
theorem dL_law_1094 : decode cL_law 1094 = .ok (.iload_n 3, 1) := by decide +kernel
theorem dL_law_1095 : decode cL_law 1095 = .ok (.iconst 3, 1) := by decide +kernel
theorem dL_law_1096 : decode cL_law 1096 = .ok (.iadd, 1) := by decide +kernel
theorem dL_law_1097 : decode cL_law 1097 = .ok (.iaload, 1) := by decide +kernel
theorem dL_law_1098 : decode cL_law 1098 = .ok (.invokevirtual 100, 3) := by decide +kernel
theorem dL_law_1101 : decode cL_law 1101 = .ok (.pop, 1) := by decide +kernel
theorem dL_law_1102 : decode cL_law 1102 = .ok (.aload_n 2, 1) := by decide +kernel
theorem dL_law_1103 : decode cL_law 1103 = .ok (.aload_n 0, 1) := by decide +kernel
theorem dL_law_1104 : decode cL_law 1104 = .ok (.iload_n 3, 1) := by decide +kernel
theorem dL_law_1105 : decode cL_law 1105 = .ok (.iconst 1, 1) := by decide +kernel
theorem dL_law_1106 : decode cL_law 1106 = .ok (.iadd, 1) := by decide +kernel
theorem dL_law_1107 : decode cL_law 1107 = .ok (.iaload, 1) := by decide +kernel
theorem dL_law_1108 : decode cL_law 1108 = .ok (.aload_n 0, 1) := by decide +kernel
theorem dL_law_1109 : decode cL_law 1109 = .ok (.iload_n 3, 1) := by decide +kernel
theorem dL_law_1110 : decode cL_law 1110 = .ok (.iconst 2, 1) := by decide +kernel
theorem dL_law_1111 : decode cL_law 1111 = .ok (.iadd, 1) := by decide +kernel
theorem dL_law_1112 : decode cL_law 1112 = .ok (.iaload, 1) := by decide +kernel
theorem dL_law_1113 : decode cL_law 1113 = .ok (.aload_n 0, 1) := by decide +kernel
theorem dL_law_1114 : decode cL_law 1114 = .ok (.iload_n 3, 1) := by decide +kernel
theorem dL_law_1115 : decode cL_law 1115 = .ok (.iconst 3, 1) := by decide +kernel
theorem dL_law_1116 : decode cL_law 1116 = .ok (.iadd, 1) := by decide +kernel
theorem dL_law_1117 : decode cL_law 1117 = .ok (.iaload, 1) := by decide +kernel
theorem dL_law_1118 : decode cL_law 1118 = .ok (.invokevirtual 103, 3) := by decide +kernel
theorem dL_law_1121 : decode cL_law 1121 = .ok (.pop, 1) := by decide +kernel
theorem dL_law_1122 : decode cL_law 1122 = .ok (.goto 645, 3) := by decide +kernel
theorem dL_law_1125 : decode cL_law 1125 = .ok (.aload_n 1, 1) := by decide +kernel
theorem dL_law_1126 : decode cL_law 1126 = .ok (.aload_n 0, 1) := by decide +kernel
theorem dL_law_1127 : decode cL_law 1127 = .ok (.iload_n 3, 1) := by decide +kernel
theorem dL_law_1128 : decode cL_law 1128 = .ok (.iconst 1, 1) := by decide +kernel
theorem dL_law_1129 : decode cL_law 1129 = .ok (.iadd, 1) := by decide +kernel
theorem dL_law_1130 : decode cL_law 1130 = .ok (.iaload, 1) := by decide +kernel
theorem dL_law_1131 : decode cL_law 1131 = .ok (.aload_n 0, 1) := by decide +kernel
theorem dL_law_1132 : decode cL_law 1132 = .ok (.iload_n 3, 1) := by decide +kernel
theorem dL_law_1133 : decode cL_law 1133 = .ok (.iconst 2, 1) := by decide +kernel
theorem dL_law_1134 : decode cL_law 1134 = .ok (.iadd, 1) := by decide +kernel
theorem dL_law_1135 : decode cL_law 1135 = .ok (.iaload, 1) := by decide +kernel
theorem dL_law_1136 : decode cL_law 1136 = .ok (.aload_n 0, 1) := by decide +kernel
theorem dL_law_1137 : decode cL_law 1137 = .ok (.iload_n 3, 1) := by decide +kernel
theorem dL_law_1138 : decode cL_law 1138 = .ok (.iconst 3, 1) := by decide +kernel
theorem dL_law_1139 : decode cL_law 1139 = .ok (.iadd, 1) := by decide +kernel
theorem dL_law_1140 : decode cL_law 1140 = .ok (.iaload, 1) := by decide +kernel
theorem dL_law_1141 : decode cL_law 1141 = .ok (.invokevirtual 104, 3) := by decide +kernel
theorem dL_law_1144 : decode cL_law 1144 = .ok (.pop, 1) := by decide +kernel
theorem dL_law_1145 : decode cL_law 1145 = .ok (.aload_n 2, 1) := by decide +kernel
theorem dL_law_1146 : decode cL_law 1146 = .ok (.aload_n 0, 1) := by decide +kernel
theorem dL_law_1147 : decode cL_law 1147 = .ok (.iload_n 3, 1) := by decide +kernel
theorem dL_law_1148 : decode cL_law 1148 = .ok (.iconst 1, 1) := by decide +kernel
theorem dL_law_1149 : decode cL_law 1149 = .ok (.iadd, 1) := by decide +kernel
theorem dL_law_1150 : decode cL_law 1150 = .ok (.iaload, 1) := by decide +kernel
theorem dL_law_1151 : decode cL_law 1151 = .ok (.aload_n 0, 1) := by decide +kernel
theorem dL_law_1152 : decode cL_law 1152 = .ok (.iload_n 3, 1) := by decide +kernel
theorem dL_law_1153 : decode cL_law 1153 = .ok (.iconst 2, 1) := by decide +kernel
theorem dL_law_1154 : decode cL_law 1154 = .ok (.iadd, 1) := by decide +kernel
theorem dL_law_1155 : decode cL_law 1155 = .ok (.iaload, 1) := by decide +kernel
theorem dL_law_1156 : decode cL_law 1156 = .ok (.aload_n 0, 1) := by decide +kernel
theorem dL_law_1157 : decode cL_law 1157 = .ok (.iload_n 3, 1) := by decide +kernel
theorem dL_law_1158 : decode cL_law 1158 = .ok (.iconst 3, 1) := by decide +kernel
theorem dL_law_1159 : decode cL_law 1159 = .ok (.iadd, 1) := by decide +kernel
theorem dL_law_1160 : decode cL_law 1160 = .ok (.iaload, 1) := by decide +kernel
theorem dL_law_1161 : decode cL_law 1161 = .ok (.invokevirtual 107, 3) := by decide +kernel
theorem dL_law_1164 : decode cL_law 1164 = .ok (.pop, 1) := by decide +kernel
theorem dL_law_1165 : decode cL_law 1165 = .ok (.goto 602, 3) := by decide +kernel
theorem dL_law_1168 : decode cL_law 1168 = .ok (.aload_n 1, 1) := by decide +kernel
theorem dL_law_1169 : decode cL_law 1169 = .ok (.aload_n 0, 1) := by decide +kernel
theorem dL_law_1170 : decode cL_law 1170 = .ok (.iload_n 3, 1) := by decide +kernel
theorem dL_law_1171 : decode cL_law 1171 = .ok (.iconst 1, 1) := by decide +kernel
theorem dL_law_1172 : decode cL_law 1172 = .ok (.iadd, 1) := by decide +kernel
theorem dL_law_1173 : decode cL_law 1173 = .ok (.iaload, 1) := by decide +kernel
theorem dL_law_1174 : decode cL_law 1174 = .ok (.aload_n 0, 1) := by decide +kernel
theorem dL_law_1175 : decode cL_law 1175 = .ok (.iload_n 3, 1) := by decide +kernel
theorem dL_law_1176 : decode cL_law 1176 = .ok (.iconst 2, 1) := by decide +kernel
theorem dL_law_1177 : decode cL_law 1177 = .ok (.iadd, 1) := by decide +kernel
theorem dL_law_1178 : decode cL_law 1178 = .ok (.iaload, 1) := by decide +kernel
theorem dL_law_1179 : decode cL_law 1179 = .ok (.invokevirtual 108, 3) := by decide +kernel
theorem dL_law_1182 : decode cL_law 1182 = .ok (.pop, 1) := by decide +kernel
theorem dL_law_1183 : decode cL_law 1183 = .ok (.aload_n 2, 1) := by decide +kernel
theorem dL_law_1184 : decode cL_law 1184 = .ok (.aload_n 0, 1) := by decide +kernel
theorem dL_law_1185 : decode cL_law 1185 = .ok (.iload_n 3, 1) := by decide +kernel
theorem dL_law_1186 : decode cL_law 1186 = .ok (.iconst 1, 1) := by decide +kernel
theorem dL_law_1187 : decode cL_law 1187 = .ok (.iadd, 1) := by decide +kernel
theorem dL_law_1188 : decode cL_law 1188 = .ok (.iaload, 1) := by decide +kernel
theorem dL_law_1189 : decode cL_law 1189 = .ok (.aload_n 0, 1) := by decide +kernel
theorem dL_law_1190 : decode cL_law 1190 = .ok (.iload_n 3, 1) := by decide +kernel
theorem dL_law_1191 : decode cL_law 1191 = .ok (.iconst 2, 1) := by decide +kernel
theorem dL_law_1192 : decode cL_law 1192 = .ok (.iadd, 1) := by decide +kernel
theorem dL_law_1193 : decode cL_law 1193 = .ok (.iaload, 1) := by decide +kernel
theorem dL_law_1194 : decode cL_law 1194 = .ok (.invokevirtual 111, 3) := by decide +kernel
theorem dL_law_1197 : decode cL_law 1197 = .ok (.pop, 1) := by decide +kernel
theorem dL_law_1198 : decode cL_law 1198 = .ok (.goto 569, 3) := by decide +kernel
theorem dL_law_1201 : decode cL_law 1201 = .ok (.aload_n 1, 1) := by decide +kernel
theorem dL_law_1202 : decode cL_law 1202 = .ok (.aload_n 0, 1) := by decide +kernel
theorem dL_law_1203 : decode cL_law 1203 = .ok (.iload_n 3, 1) := by decide +kernel
theorem dL_law_1204 : decode cL_law 1204 = .ok (.iconst 1, 1) := by decide +kernel
theorem dL_law_1205 : decode cL_law 1205 = .ok (.iadd, 1) := by decide +kernel
theorem dL_law_1206 : decode cL_law 1206 = .ok (.iaload, 1) := by decide +kernel
theorem dL_law_1207 : decode cL_law 1207 = .ok (.aload_n 0, 1) := by decide +kernel
theorem dL_law_1208 : decode cL_law 1208 = .ok (.iload_n 3, 1) := by decide +kernel
theorem dL_law_1209 : decode cL_law 1209 = .ok (.iconst 2, 1) := by decide +kernel
theorem dL_law_1210 : decode cL_law 1210 = .ok (.iadd, 1) := by decide +kernel
theorem dL_law_1211 : decode cL_law 1211 = .ok (.iaload, 1) := by decide +kernel
theorem dL_law_1212 : decode cL_law 1212 = .ok (.aload_n 0, 1) := by decide +kernel
theorem dL_law_1213 : decode cL_law 1213 = .ok (.iload_n 3, 1) := by decide +kernel
theorem dL_law_1214 : decode cL_law 1214 = .ok (.iconst 3, 1) := by decide +kernel
theorem dL_law_1215 : decode cL_law 1215 = .ok (.iadd, 1) := by decide +kernel
theorem dL_law_1216 : decode cL_law 1216 = .ok (.iaload, 1) := by decide +kernel
theorem dL_law_1217 : decode cL_law 1217 = .ok (.invokevirtual 112, 3) := by decide +kernel
theorem dL_law_1220 : decode cL_law 1220 = .ok (.pop, 1) := by decide +kernel
theorem dL_law_1221 : decode cL_law 1221 = .ok (.aload_n 2, 1) := by decide +kernel
theorem dL_law_1222 : decode cL_law 1222 = .ok (.aload_n 0, 1) := by decide +kernel
theorem dL_law_1223 : decode cL_law 1223 = .ok (.iload_n 3, 1) := by decide +kernel
theorem dL_law_1224 : decode cL_law 1224 = .ok (.iconst 1, 1) := by decide +kernel
theorem dL_law_1225 : decode cL_law 1225 = .ok (.iadd, 1) := by decide +kernel
theorem dL_law_1226 : decode cL_law 1226 = .ok (.iaload, 1) := by decide +kernel
theorem dL_law_1227 : decode cL_law 1227 = .ok (.aload_n 0, 1) := by decide +kernel
theorem dL_law_1228 : decode cL_law 1228 = .ok (.iload_n 3, 1) := by decide +kernel
theorem dL_law_1229 : decode cL_law 1229 = .ok (.iconst 2, 1) := by decide +kernel
theorem dL_law_1230 : decode cL_law 1230 = .ok (.iadd, 1) := by decide +kernel
theorem dL_law_1231 : decode cL_law 1231 = .ok (.iaload, 1) := by decide +kernel
theorem dL_law_1232 : decode cL_law 1232 = .ok (.aload_n 0, 1) := by decide +kernel
theorem dL_law_1233 : decode cL_law 1233 = .ok (.iload_n 3, 1) := by decide +kernel
theorem dL_law_1234 : decode cL_law 1234 = .ok (.iconst 3, 1) := by decide +kernel
theorem dL_law_1235 : decode cL_law 1235 = .ok (.iadd, 1) := by decide +kernel
theorem dL_law_1236 : decode cL_law 1236 = .ok (.iaload, 1) := by decide +kernel
theorem dL_law_1237 : decode cL_law 1237 = .ok (.invokevirtual 115, 3) := by decide +kernel
theorem dL_law_1240 : decode cL_law 1240 = .ok (.pop, 1) := by decide +kernel
theorem dL_law_1241 : decode cL_law 1241 = .ok (.goto 526, 3) := by decide +kernel


theorem m_ml_RX12_1 : Cond.methodLink RX12 1 objectInit ∈ zT := zmem1 zsub_5 234 (by decide +kernel) (by decide +kernel)
theorem m_fl_RX12_7 : Cond.fieldLink RX12 7 (TX12 0).1 (TX12 0).2.1 (TX12 0).2.2.1 ∈ zT := zmem1 zsub_5 235 (by decide +kernel) (by decide +kernel)
theorem m_fl_RX12_13 : Cond.fieldLink RX12 13 (TX12 1).1 (TX12 1).2.1 (TX12 1).2.2.1 ∈ zT := zmem1 zsub_5 236 (by decide +kernel) (by decide +kernel)
theorem m_fl_RX12_17 : Cond.fieldLink RX12 17 (TX12 10).1 (TX12 10).2.1 (TX12 10).2.2.1 ∈ zT := zmem1 zsub_6 5 (by decide +kernel) (by decide +kernel)
theorem m_fl_RX12_20 : Cond.fieldLink RX12 20 (TX12 14).1 (TX12 14).2.1 (TX12 14).2.2.1 ∈ zT := zmem1 zsub_6 9 (by decide +kernel) (by decide +kernel)
theorem m_fl_RX12_23 : Cond.fieldLink RX12 23 (TX12 15).1 (TX12 15).2.1 (TX12 15).2.2.1 ∈ zT := zmem1 zsub_6 10 (by decide +kernel) (by decide +kernel)
theorem m_fl_RX12_26 : Cond.fieldLink RX12 26 (TX12 16).1 (TX12 16).2.1 (TX12 16).2.2.1 ∈ zT := zmem1 zsub_6 11 (by decide +kernel) (by decide +kernel)
theorem m_fl_RX12_29 : Cond.fieldLink RX12 29 (TX12 21).1 (TX12 21).2.1 (TX12 21).2.2.1 ∈ zT := zmem1 zsub_6 16 (by decide +kernel) (by decide +kernel)
theorem m_fl_RX12_32 : Cond.fieldLink RX12 32 (TX12 22).1 (TX12 22).2.1 (TX12 22).2.2.1 ∈ zT := zmem1 zsub_6 17 (by decide +kernel) (by decide +kernel)
theorem m_fl_RX12_35 : Cond.fieldLink RX12 35 (TX12 23).1 (TX12 23).2.1 (TX12 23).2.2.1 ∈ zT := zmem1 zsub_6 18 (by decide +kernel) (by decide +kernel)
theorem m_fl_RX12_38 : Cond.fieldLink RX12 38 (TX12 24).1 (TX12 24).2.1 (TX12 24).2.2.1 ∈ zT := zmem1 zsub_6 19 (by decide +kernel) (by decide +kernel)
theorem m_fl_RX12_41 : Cond.fieldLink RX12 41 (TX12 25).1 (TX12 25).2.1 (TX12 25).2.2.1 ∈ zT := zmem1 zsub_6 20 (by decide +kernel) (by decide +kernel)
theorem m_fl_RX12_44 : Cond.fieldLink RX12 44 (TX12 26).1 (TX12 26).2.1 (TX12 26).2.2.1 ∈ zT := zmem1 zsub_6 21 (by decide +kernel) (by decide +kernel)
theorem m_fl_RX12_47 : Cond.fieldLink RX12 47 (TX12 39).1 (TX12 39).2.1 (TX12 39).2.2.1 ∈ zT := zmem1 zsub_6 34 (by decide +kernel) (by decide +kernel)
theorem m_fl_RX12_50 : Cond.fieldLink RX12 50 (TX12 40).1 (TX12 40).2.1 (TX12 40).2.2.1 ∈ zT := zmem1 zsub_6 35 (by decide +kernel) (by decide +kernel)
theorem m_fl_RX12_53 : Cond.fieldLink RX12 53 (TX12 41).1 (TX12 41).2.1 (TX12 41).2.2.1 ∈ zT := zmem1 zsub_6 36 (by decide +kernel) (by decide +kernel)
theorem m_co_X12_isIn : Cond.code yX12_isIn cX12_isIn 3 (some .boolean) ∈ zT := zmem1 zsub_6 139 (by decide +kernel) (by decide +kernel)
theorem m_ml_RX12_111 : Cond.methodLink RX12 111 yX12_isIn ∈ zT := zmem1 zsub_6 137 (by decide +kernel) (by decide +kernel)
theorem m_st_X12_isIn : Cond.static yX12_isIn ∈ zT := zmem1 zsub_6 138 (by decide +kernel) (by decide +kernel)
theorem m_ii_RX12 : Cond.initialized RX12 ∈ zT := zmem1 zsub_1 12 (by decide +kernel) (by decide +kernel)
theorem m_co_X12_isOf : Cond.code yX12_isOf cX12_isOf 3 (some .boolean) ∈ zT := zmem1 zsub_6 143 (by decide +kernel) (by decide +kernel)
theorem m_ml_RX12_143 : Cond.methodLink RX12 143 yX12_isOf ∈ zT := zmem1 zsub_6 140 (by decide +kernel) (by decide +kernel)
theorem m_im_X12_isOf : Cond.instanceMethod yX12_isOf ∈ zT := zmem1 zsub_6 142 (by decide +kernel) (by decide +kernel)
theorem m_se_X12_isOf : Cond.selects RX12 yX12_isOf yX12_isOf ∈ zT := zmem 45 (by decide +kernel) (by decide +kernel)
theorem m_fl_RX12_56 : Cond.fieldLink RX12 56 (TX12 2).1 (TX12 2).2.1 (TX12 2).2.2.1 ∈ zT := zmem1 zsub_5 237 (by decide +kernel) (by decide +kernel)
theorem m_fl_RX12_70 : Cond.fieldLink RX12 70 (TX12 3).1 (TX12 3).2.1 (TX12 3).2.2.1 ∈ zT := zmem1 zsub_5 238 (by decide +kernel) (by decide +kernel)
theorem m_co_X12_byteAt : Cond.code yX12_byteAt cX12_byteAt 2 (some .int) ∈ zT := zmem1 zsub_6 151 (by decide +kernel) (by decide +kernel)
theorem m_ml_RX12_73 : Cond.methodLink RX12 73 yX12_byteAt ∈ zT := zmem1 zsub_6 148 (by decide +kernel) (by decide +kernel)
theorem m_im_X12_byteAt : Cond.instanceMethod yX12_byteAt ∈ zT := zmem1 zsub_6 150 (by decide +kernel) (by decide +kernel)
theorem m_se_X12_byteAt : Cond.selects RX12 yX12_byteAt yX12_byteAt ∈ zT := zmem 47 (by decide +kernel) (by decide +kernel)
theorem m_fl_RX12_77 : Cond.fieldLink RX12 77 (TX12 4).1 (TX12 4).2.1 (TX12 4).2.2.1 ∈ zT := zmem1 zsub_5 239 (by decide +kernel) (by decide +kernel)
theorem m_fl_RX12_80 : Cond.fieldLink RX12 80 (TX12 5).1 (TX12 5).2.1 (TX12 5).2.2.1 ∈ zT := zmem1 zsub_6 0 (by decide +kernel) (by decide +kernel)
theorem m_fl_RX12_104 : Cond.fieldLink RX12 104 (TX12 8).1 (TX12 8).2.1 (TX12 8).2.2.1 ∈ zT := zmem1 zsub_6 3 (by decide +kernel) (by decide +kernel)
theorem m_fl_RX12_126 : Cond.fieldLink RX12 126 (TX12 9).1 (TX12 9).2.1 (TX12 9).2.2.1 ∈ zT := zmem1 zsub_6 4 (by decide +kernel) (by decide +kernel)
theorem m_co_X12_advance : Cond.code yX12_advance cX12_advance 4 none ∈ zT := zmem1 zsub_6 147 (by decide +kernel) (by decide +kernel)
theorem m_ml_RX12_119 : Cond.methodLink RX12 119 yX12_advance ∈ zT := zmem1 zsub_6 144 (by decide +kernel) (by decide +kernel)
theorem m_im_X12_advance : Cond.instanceMethod yX12_advance ∈ zT := zmem1 zsub_6 146 (by decide +kernel) (by decide +kernel)
theorem m_se_X12_advance : Cond.selects RX12 yX12_advance yX12_advance ∈ zT := zmem 46 (by decide +kernel) (by decide +kernel)
theorem m_co_X12_postsAreThere : Cond.code yX12_postsAreThere cX12_postsAreThere 3 (some .boolean) ∈ zT := zmem1 zsub_6 213 (by decide +kernel) (by decide +kernel)
theorem m_ml_RX12_156 : Cond.methodLink RX12 156 yX12_postsAreThere ∈ zT := zmem1 zsub_6 210 (by decide +kernel) (by decide +kernel)
theorem m_im_X12_postsAreThere : Cond.instanceMethod yX12_postsAreThere ∈ zT := zmem1 zsub_6 212 (by decide +kernel) (by decide +kernel)
theorem m_se_X12_postsAreThere : Cond.selects RX12 yX12_postsAreThere yX12_postsAreThere ∈ zT := zmem 58 (by decide +kernel) (by decide +kernel)
theorem m_co_X12_sizeOf : Cond.code yX12_sizeOf cX12_sizeOf 1 (some .int) ∈ zT := zmem1 zsub_6 216 (by decide +kernel) (by decide +kernel)
theorem m_ml_RX12_160 : Cond.methodLink RX12 160 yX12_sizeOf ∈ zT := zmem1 zsub_6 214 (by decide +kernel) (by decide +kernel)
theorem m_st_X12_sizeOf : Cond.static yX12_sizeOf ∈ zT := zmem1 zsub_6 215 (by decide +kernel) (by decide +kernel)
theorem m_co_X12_placeOf : Cond.code yX12_placeOf cX12_placeOf 2 (some .int) ∈ zT := zmem1 zsub_6 219 (by decide +kernel) (by decide +kernel)
theorem m_ml_RX12_163 : Cond.methodLink RX12 163 yX12_placeOf ∈ zT := zmem1 zsub_6 217 (by decide +kernel) (by decide +kernel)
theorem m_st_X12_placeOf : Cond.static yX12_placeOf ∈ zT := zmem1 zsub_6 218 (by decide +kernel) (by decide +kernel)
theorem m_co_X12_isLand : Cond.code yX12_isLand cX12_isLand 2 (some .boolean) ∈ zT := zmem1 zsub_6 231 (by decide +kernel) (by decide +kernel)
theorem m_ml_RX12_184 : Cond.methodLink RX12 184 yX12_isLand ∈ zT := zmem1 zsub_6 228 (by decide +kernel) (by decide +kernel)
theorem m_im_X12_isLand : Cond.instanceMethod yX12_isLand ∈ zT := zmem1 zsub_6 230 (by decide +kernel) (by decide +kernel)
theorem m_se_X12_isLand : Cond.selects RX12 yX12_isLand yX12_isLand ∈ zT := zmem 59 (by decide +kernel) (by decide +kernel)
theorem m_co_X12_isDay : Cond.code yX12_isDay cX12_isDay 2 (some .boolean) ∈ zT := zmem1 zsub_7 204 (by decide +kernel) (by decide +kernel)
theorem m_ml_RX12_305 : Cond.methodLink RX12 305 yX12_isDay ∈ zT := zmem1 zsub_7 201 (by decide +kernel) (by decide +kernel)
theorem m_im_X12_isDay : Cond.instanceMethod yX12_isDay ∈ zT := zmem1 zsub_7 203 (by decide +kernel) (by decide +kernel)
theorem m_se_X12_isDay : Cond.selects RX12 yX12_isDay yX12_isDay ∈ zT := zmem 91 (by decide +kernel) (by decide +kernel)
theorem m_co_X12_isLog : Cond.code yX12_isLog cX12_isLog 2 (some .boolean) ∈ zT := zmem1 zsub_8 32 (by decide +kernel) (by decide +kernel)
theorem m_ml_RX12_363 : Cond.methodLink RX12 363 yX12_isLog ∈ zT := zmem1 zsub_8 29 (by decide +kernel) (by decide +kernel)
theorem m_im_X12_isLog : Cond.instanceMethod yX12_isLog ∈ zT := zmem1 zsub_8 31 (by decide +kernel) (by decide +kernel)
theorem m_se_X12_isLog : Cond.selects RX12 yX12_isLog yX12_isLog ∈ zT := zmem 104 (by decide +kernel) (by decide +kernel)
theorem kS_RX12_111 {R : Room} {s : State} {args : Array Value} {d mc ms : Nat} (hts : ∀ w ∈ zT, w.before args s = true) (h1 : d + 1 ≤ R.frames) (h2 : 8 + (3 + 11) + 40 * d ≤ R.locals) : CallB R s args RX12 111 yX12_isIn cX12_isIn 3 (some .boolean) (zW yX12_isIn cX12_isIn 3 (some .boolean)) (zR d mc ms) mc ms 3 ∧ (Cond.static yX12_isIn).before args s = true := z_cwS hts m_co_X12_isIn m_ml_RX12_111 m_st_X12_isIn m_ii_RX12 (by decide +kernel) h1 h2
theorem kV_RX12_143 {R : Room} {s : State} {args : Array Value} {d mc ms : Nat} (hts : ∀ w ∈ zT, w.before args s = true) (h1 : d + 1 ≤ R.frames) (h2 : 8 + (3 + 11) + 40 * d ≤ R.locals) : CallW R s args RX12 RX12 143 yX12_isOf cX12_isOf 3 (some .boolean) (zW yX12_isOf cX12_isOf 3 (some .boolean)) (zR d mc ms) mc ms 2 := z_cwV hts m_co_X12_isOf m_ml_RX12_143 m_im_X12_isOf m_se_X12_isOf m_ii_RX12 (by decide +kernel) h1 h2
theorem kV_RX12_73 {R : Room} {s : State} {args : Array Value} {d mc ms : Nat} (hts : ∀ w ∈ zT, w.before args s = true) (h1 : d + 1 ≤ R.frames) (h2 : 8 + (2 + 11) + 40 * d ≤ R.locals) : CallW R s args RX12 RX12 73 yX12_byteAt cX12_byteAt 2 (some .int) (zW yX12_byteAt cX12_byteAt 2 (some .int)) (zR d mc ms) mc ms 1 := z_cwV hts m_co_X12_byteAt m_ml_RX12_73 m_im_X12_byteAt m_se_X12_byteAt m_ii_RX12 (by decide +kernel) h1 h2
theorem kV_RX12_119 {R : Room} {s : State} {args : Array Value} {d mc ms : Nat} (hts : ∀ w ∈ zT, w.before args s = true) (h1 : d + 1 ≤ R.frames) (h2 : 8 + (4 + 11) + 40 * d ≤ R.locals) : CallW R s args RX12 RX12 119 yX12_advance cX12_advance 4 none (zW yX12_advance cX12_advance 4 none) (zR d mc ms) mc ms 0 := z_cwV hts m_co_X12_advance m_ml_RX12_119 m_im_X12_advance m_se_X12_advance m_ii_RX12 (by decide +kernel) h1 h2
theorem kV_RX12_156 {R : Room} {s : State} {args : Array Value} {d mc ms : Nat} (hts : ∀ w ∈ zT, w.before args s = true) (h1 : d + 1 ≤ R.frames) (h2 : 8 + (3 + 11) + 40 * d ≤ R.locals) : CallW R s args RX12 RX12 156 yX12_postsAreThere cX12_postsAreThere 3 (some .boolean) (zW yX12_postsAreThere cX12_postsAreThere 3 (some .boolean)) (zR d mc ms) mc ms 0 := z_cwV hts m_co_X12_postsAreThere m_ml_RX12_156 m_im_X12_postsAreThere m_se_X12_postsAreThere m_ii_RX12 (by decide +kernel) h1 h2
theorem kS_RX12_160 {R : Room} {s : State} {args : Array Value} {d mc ms : Nat} (hts : ∀ w ∈ zT, w.before args s = true) (h1 : d + 1 ≤ R.frames) (h2 : 8 + (1 + 11) + 40 * d ≤ R.locals) : CallB R s args RX12 160 yX12_sizeOf cX12_sizeOf 1 (some .int) (zW yX12_sizeOf cX12_sizeOf 1 (some .int)) (zR d mc ms) mc ms 1 ∧ (Cond.static yX12_sizeOf).before args s = true := z_cwS hts m_co_X12_sizeOf m_ml_RX12_160 m_st_X12_sizeOf m_ii_RX12 (by decide +kernel) h1 h2
theorem kS_RX12_163 {R : Room} {s : State} {args : Array Value} {d mc ms : Nat} (hts : ∀ w ∈ zT, w.before args s = true) (h1 : d + 1 ≤ R.frames) (h2 : 8 + (2 + 11) + 40 * d ≤ R.locals) : CallB R s args RX12 163 yX12_placeOf cX12_placeOf 2 (some .int) (zW yX12_placeOf cX12_placeOf 2 (some .int)) (zR d mc ms) mc ms 2 ∧ (Cond.static yX12_placeOf).before args s = true := z_cwS hts m_co_X12_placeOf m_ml_RX12_163 m_st_X12_placeOf m_ii_RX12 (by decide +kernel) h1 h2
theorem kV_RX12_184 {R : Room} {s : State} {args : Array Value} {d mc ms : Nat} (hts : ∀ w ∈ zT, w.before args s = true) (h1 : d + 1 ≤ R.frames) (h2 : 8 + (2 + 11) + 40 * d ≤ R.locals) : CallW R s args RX12 RX12 184 yX12_isLand cX12_isLand 2 (some .boolean) (zW yX12_isLand cX12_isLand 2 (some .boolean)) (zR d mc ms) mc ms 1 := z_cwV hts m_co_X12_isLand m_ml_RX12_184 m_im_X12_isLand m_se_X12_isLand m_ii_RX12 (by decide +kernel) h1 h2
theorem kV_RX12_305 {R : Room} {s : State} {args : Array Value} {d mc ms : Nat} (hts : ∀ w ∈ zT, w.before args s = true) (h1 : d + 1 ≤ R.frames) (h2 : 8 + (2 + 11) + 40 * d ≤ R.locals) : CallW R s args RX12 RX12 305 yX12_isDay cX12_isDay 2 (some .boolean) (zW yX12_isDay cX12_isDay 2 (some .boolean)) (zR d mc ms) mc ms 1 := z_cwV hts m_co_X12_isDay m_ml_RX12_305 m_im_X12_isDay m_se_X12_isDay m_ii_RX12 (by decide +kernel) h1 h2
theorem kV_RX12_363 {R : Room} {s : State} {args : Array Value} {d mc ms : Nat} (hts : ∀ w ∈ zT, w.before args s = true) (h1 : d + 1 ≤ R.frames) (h2 : 8 + (2 + 11) + 40 * d ≤ R.locals) : CallW R s args RX12 RX12 363 yX12_isLog cX12_isLog 2 (some .boolean) (zW yX12_isLog cX12_isLog 2 (some .boolean)) (zR d mc ms) mc ms 1 := z_cwV hts m_co_X12_isLog m_ml_RX12_363 m_im_X12_isLog m_se_X12_isLog m_ii_RX12 (by decide +kernel) h1 h2
theorem dX12_init_0 : decode cX12_init 0 = .ok (.aload_n 0, 1) := by decide +kernel
theorem dX12_init_1 : decode cX12_init 1 = .ok (.invokespecial 1, 3) := by decide +kernel
theorem dX12_init_4 : decode cX12_init 4 = .ok (.aload_n 0, 1) := by decide +kernel
theorem dX12_init_5 : decode cX12_init 5 = .ok (.sipush 3952, 3) := by decide +kernel
theorem dX12_init_8 : decode cX12_init 8 = .ok (.newarray .int, 2) := by decide +kernel
theorem dX12_init_10 : decode cX12_init 10 = .ok (.putfield 7, 3) := by decide +kernel
theorem dX12_init_13 : decode cX12_init 13 = .ok (.aload_n 0, 1) := by decide +kernel
theorem dX12_init_14 : decode cX12_init 14 = .ok (.iconst 3, 1) := by decide +kernel
theorem dX12_init_15 : decode cX12_init 15 = .ok (.newarray .boolean, 2) := by decide +kernel
theorem dX12_init_17 : decode cX12_init 17 = .ok (.putfield 13, 3) := by decide +kernel
theorem dX12_init_20 : decode cX12_init 20 = .ok (.aload_n 0, 1) := by decide +kernel
theorem dX12_init_21 : decode cX12_init 21 = .ok (.bipush 121, 2) := by decide +kernel
theorem dX12_init_23 : decode cX12_init 23 = .ok (.newarray .int, 2) := by decide +kernel
theorem dX12_init_25 : decode cX12_init 25 = .ok (.putfield 17, 3) := by decide +kernel
theorem dX12_init_28 : decode cX12_init 28 = .ok (.aload_n 0, 1) := by decide +kernel
theorem dX12_init_29 : decode cX12_init 29 = .ok (.bipush 7, 2) := by decide +kernel
theorem dX12_init_31 : decode cX12_init 31 = .ok (.newarray .int, 2) := by decide +kernel
theorem dX12_init_33 : decode cX12_init 33 = .ok (.putfield 20, 3) := by decide +kernel
theorem dX12_init_36 : decode cX12_init 36 = .ok (.aload_n 0, 1) := by decide +kernel
theorem dX12_init_37 : decode cX12_init 37 = .ok (.bipush 7, 2) := by decide +kernel
theorem dX12_init_39 : decode cX12_init 39 = .ok (.newarray .int, 2) := by decide +kernel
theorem dX12_init_41 : decode cX12_init 41 = .ok (.putfield 23, 3) := by decide +kernel
theorem dX12_init_44 : decode cX12_init 44 = .ok (.aload_n 0, 1) := by decide +kernel
theorem dX12_init_45 : decode cX12_init 45 = .ok (.bipush 7, 2) := by decide +kernel
theorem dX12_init_47 : decode cX12_init 47 = .ok (.newarray .int, 2) := by decide +kernel
theorem dX12_init_49 : decode cX12_init 49 = .ok (.putfield 26, 3) := by decide +kernel
theorem dX12_init_52 : decode cX12_init 52 = .ok (.aload_n 0, 1) := by decide +kernel
theorem dX12_init_53 : decode cX12_init 53 = .ok (.bipush 7, 2) := by decide +kernel
theorem dX12_init_55 : decode cX12_init 55 = .ok (.newarray .int, 2) := by decide +kernel
theorem dX12_init_57 : decode cX12_init 57 = .ok (.putfield 29, 3) := by decide +kernel
theorem dX12_init_60 : decode cX12_init 60 = .ok (.aload_n 0, 1) := by decide +kernel
theorem dX12_init_61 : decode cX12_init 61 = .ok (.bipush 7, 2) := by decide +kernel
theorem dX12_init_63 : decode cX12_init 63 = .ok (.newarray .int, 2) := by decide +kernel
theorem dX12_init_65 : decode cX12_init 65 = .ok (.putfield 32, 3) := by decide +kernel
theorem dX12_init_68 : decode cX12_init 68 = .ok (.aload_n 0, 1) := by decide +kernel
theorem dX12_init_69 : decode cX12_init 69 = .ok (.sipush 16384, 3) := by decide +kernel
theorem dX12_init_72 : decode cX12_init 72 = .ok (.newarray .int, 2) := by decide +kernel
theorem dX12_init_74 : decode cX12_init 74 = .ok (.putfield 35, 3) := by decide +kernel
theorem dX12_init_77 : decode cX12_init 77 = .ok (.aload_n 0, 1) := by decide +kernel
theorem dX12_init_78 : decode cX12_init 78 = .ok (.sipush 512, 3) := by decide +kernel
theorem dX12_init_81 : decode cX12_init 81 = .ok (.newarray .int, 2) := by decide +kernel
theorem dX12_init_83 : decode cX12_init 83 = .ok (.putfield 38, 3) := by decide +kernel
theorem dX12_init_86 : decode cX12_init 86 = .ok (.aload_n 0, 1) := by decide +kernel
theorem dX12_init_87 : decode cX12_init 87 = .ok (.bipush 49, 2) := by decide +kernel
theorem dX12_init_89 : decode cX12_init 89 = .ok (.newarray .int, 2) := by decide +kernel
theorem dX12_init_91 : decode cX12_init 91 = .ok (.putfield 41, 3) := by decide +kernel
theorem dX12_init_94 : decode cX12_init 94 = .ok (.aload_n 0, 1) := by decide +kernel
theorem dX12_init_95 : decode cX12_init 95 = .ok (.bipush 7, 2) := by decide +kernel
theorem dX12_init_97 : decode cX12_init 97 = .ok (.newarray .int, 2) := by decide +kernel
theorem dX12_init_99 : decode cX12_init 99 = .ok (.putfield 44, 3) := by decide +kernel
theorem dX12_init_102 : decode cX12_init 102 = .ok (.aload_n 0, 1) := by decide +kernel
theorem dX12_init_103 : decode cX12_init 103 = .ok (.bipush 28, 2) := by decide +kernel
theorem dX12_init_105 : decode cX12_init 105 = .ok (.newarray .int, 2) := by decide +kernel
theorem dX12_init_107 : decode cX12_init 107 = .ok (.putfield 47, 3) := by decide +kernel
theorem dX12_init_110 : decode cX12_init 110 = .ok (.aload_n 0, 1) := by decide +kernel
theorem dX12_init_111 : decode cX12_init 111 = .ok (.bipush 49, 2) := by decide +kernel
theorem dX12_init_113 : decode cX12_init 113 = .ok (.newarray .int, 2) := by decide +kernel
theorem dX12_init_115 : decode cX12_init 115 = .ok (.putfield 50, 3) := by decide +kernel
theorem dX12_init_118 : decode cX12_init 118 = .ok (.aload_n 0, 1) := by decide +kernel
theorem dX12_init_119 : decode cX12_init 119 = .ok (.bipush 7, 2) := by decide +kernel
theorem dX12_init_121 : decode cX12_init 121 = .ok (.newarray .int, 2) := by decide +kernel
theorem dX12_init_123 : decode cX12_init 123 = .ok (.putfield 53, 3) := by decide +kernel
theorem dX12_init_126 : decode cX12_init 126 = .ok (.aload_n 0, 1) := by decide +kernel
theorem dX12_init_127 : decode cX12_init 127 = .ok (.getfield 7, 3) := by decide +kernel
theorem dX12_init_130 : decode cX12_init 130 = .ok (.bipush 6, 2) := by decide +kernel
theorem dX12_init_132 : decode cX12_init 132 = .ok (.iconst (-1), 1) := by decide +kernel
theorem dX12_init_133 : decode cX12_init 133 = .ok (.iastore, 1) := by decide +kernel
theorem dX12_init_134 : decode cX12_init 134 = .ok (.return_, 1) := by decide +kernel
theorem dX12_isIn_0 : decode cX12_isIn 0 = .ok (.iload_n 0, 1) := by decide +kernel
theorem dX12_isIn_1 : decode cX12_isIn 1 = .ok (.iload_n 1, 1) := by decide +kernel
theorem dX12_isIn_2 : decode cX12_isIn 2 = .ok (.if_icmp .lt 12, 3) := by decide +kernel
theorem dX12_isIn_5 : decode cX12_isIn 5 = .ok (.iload_n 0, 1) := by decide +kernel
theorem dX12_isIn_6 : decode cX12_isIn 6 = .ok (.iload_n 2, 1) := by decide +kernel
theorem dX12_isIn_7 : decode cX12_isIn 7 = .ok (.if_icmp .gt 7, 3) := by decide +kernel
theorem dX12_isIn_10 : decode cX12_isIn 10 = .ok (.iconst 1, 1) := by decide +kernel
theorem dX12_isIn_11 : decode cX12_isIn 11 = .ok (.goto 4, 3) := by decide +kernel
theorem dX12_isIn_14 : decode cX12_isIn 14 = .ok (.iconst 0, 1) := by decide +kernel
theorem dX12_isIn_15 : decode cX12_isIn 15 = .ok (.ireturn, 1) := by decide +kernel
theorem dX12_isOf_0 : decode cX12_isOf 0 = .ok (.iload_n 2, 1) := by decide +kernel
theorem dX12_isOf_1 : decode cX12_isOf 1 = .ok (.iconst 0, 1) := by decide +kernel
theorem dX12_isOf_2 : decode cX12_isOf 2 = .ok (.aload_n 0, 1) := by decide +kernel
theorem dX12_isOf_3 : decode cX12_isOf 3 = .ok (.getfield 7, 3) := by decide +kernel
theorem dX12_isOf_6 : decode cX12_isOf 6 = .ok (.iload_n 1, 1) := by decide +kernel
theorem dX12_isOf_7 : decode cX12_isOf 7 = .ok (.iaload, 1) := by decide +kernel
theorem dX12_isOf_8 : decode cX12_isOf 8 = .ok (.iconst 1, 1) := by decide +kernel
theorem dX12_isOf_9 : decode cX12_isOf 9 = .ok (.isub, 1) := by decide +kernel
theorem dX12_isOf_10 : decode cX12_isOf 10 = .ok (.invokestatic 111, 3) := by decide +kernel
theorem dX12_isOf_13 : decode cX12_isOf 13 = .ok (.ireturn, 1) := by decide +kernel
theorem dX12_isLand_0 : decode cX12_isLand 0 = .ok (.aload_n 0, 1) := by decide +kernel
theorem dX12_isLand_1 : decode cX12_isLand 1 = .ok (.iconst 0, 1) := by decide +kernel
theorem dX12_isLand_2 : decode cX12_isLand 2 = .ok (.iload_n 1, 1) := by decide +kernel
theorem dX12_isLand_3 : decode cX12_isLand 3 = .ok (.invokevirtual 143, 3) := by decide +kernel
theorem dX12_isLand_6 : decode cX12_isLand 6 = .ok (.ifCond .ne 5, 3) := by decide +kernel
theorem dX12_isLand_9 : decode cX12_isLand 9 = .ok (.iconst 0, 1) := by decide +kernel
theorem dX12_isLand_10 : decode cX12_isLand 10 = .ok (.ireturn, 1) := by decide +kernel
theorem dX12_isDay_0 : decode cX12_isDay 0 = .ok (.aload_n 0, 1) := by decide +kernel
theorem dX12_isDay_1 : decode cX12_isDay 1 = .ok (.iconst 1, 1) := by decide +kernel
theorem dX12_isDay_2 : decode cX12_isDay 2 = .ok (.iload_n 1, 1) := by decide +kernel
theorem dX12_isDay_3 : decode cX12_isDay 3 = .ok (.invokevirtual 143, 3) := by decide +kernel
theorem dX12_isDay_6 : decode cX12_isDay 6 = .ok (.ifCond .ne 5, 3) := by decide +kernel
theorem dX12_isDay_9 : decode cX12_isDay 9 = .ok (.iconst 0, 1) := by decide +kernel
theorem dX12_isDay_10 : decode cX12_isDay 10 = .ok (.ireturn, 1) := by decide +kernel
theorem dX12_isLog_0 : decode cX12_isLog 0 = .ok (.aload_n 0, 1) := by decide +kernel
theorem dX12_isLog_1 : decode cX12_isLog 1 = .ok (.iconst 2, 1) := by decide +kernel
theorem dX12_isLog_2 : decode cX12_isLog 2 = .ok (.iload_n 1, 1) := by decide +kernel
theorem dX12_isLog_3 : decode cX12_isLog 3 = .ok (.invokevirtual 143, 3) := by decide +kernel
theorem dX12_isLog_6 : decode cX12_isLog 6 = .ok (.ifCond .ne 5, 3) := by decide +kernel
theorem dX12_isLog_9 : decode cX12_isLog 9 = .ok (.iconst 0, 1) := by decide +kernel
theorem dX12_isLog_10 : decode cX12_isLog 10 = .ok (.ireturn, 1) := by decide +kernel
theorem dX12_feed_0 : decode cX12_feed 0 = .ok (.aload_n 0, 1) := by decide +kernel
theorem dX12_feed_1 : decode cX12_feed 1 = .ok (.getfield 7, 3) := by decide +kernel
theorem dX12_feed_4 : decode cX12_feed 4 = .ok (.iconst 4, 1) := by decide +kernel
theorem dX12_feed_5 : decode cX12_feed 5 = .ok (.iaload, 1) := by decide +kernel
theorem dX12_feed_6 : decode cX12_feed 6 = .ok (.bipush 20, 2) := by decide +kernel
theorem dX12_feed_8 : decode cX12_feed 8 = .ok (.iadd, 1) := by decide +kernel
theorem dX12_feed_9 : decode cX12_feed 9 = .ok (.sipush 600, 3) := by decide +kernel
theorem dX12_feed_12 : decode cX12_feed 12 = .ok (.if_icmp .le 5, 3) := by decide +kernel
theorem dX12_feed_17 : decode cX12_feed 17 = .ok (.iconst 0, 1) := by decide +kernel
theorem dX12_feed_18 : decode cX12_feed 18 = .ok (.istore 6, 2) := by decide +kernel
theorem dX12_feed_20 : decode cX12_feed 20 = .ok (.iload 6, 2) := by decide +kernel
theorem dX12_feed_22 : decode cX12_feed 22 = .ok (.bipush 20, 2) := by decide +kernel
theorem dX12_feed_24 : decode cX12_feed 24 = .ok (.if_icmp .ge 98, 3) := by decide +kernel
theorem dX12_feed_27 : decode cX12_feed 27 = .ok (.iload 6, 2) := by decide +kernel
theorem dX12_feed_29 : decode cX12_feed 29 = .ok (.iconst 4, 1) := by decide +kernel
theorem dX12_feed_30 : decode cX12_feed 30 = .ok (.if_icmp .ge 7, 3) := by decide +kernel
theorem dX12_feed_33 : decode cX12_feed 33 = .ok (.iload_n 1, 1) := by decide +kernel
theorem dX12_feed_34 : decode cX12_feed 34 = .ok (.goto 39, 3) := by decide +kernel
theorem dX12_feed_37 : decode cX12_feed 37 = .ok (.iload 6, 2) := by decide +kernel
theorem dX12_feed_39 : decode cX12_feed 39 = .ok (.bipush 8, 2) := by decide +kernel
theorem dX12_feed_41 : decode cX12_feed 41 = .ok (.if_icmp .ge 7, 3) := by decide +kernel
theorem dX12_feed_44 : decode cX12_feed 44 = .ok (.iload_n 2, 1) := by decide +kernel
theorem dX12_feed_45 : decode cX12_feed 45 = .ok (.goto 28, 3) := by decide +kernel
theorem dX12_feed_48 : decode cX12_feed 48 = .ok (.iload 6, 2) := by decide +kernel
theorem dX12_feed_50 : decode cX12_feed 50 = .ok (.bipush 12, 2) := by decide +kernel
theorem dX12_feed_52 : decode cX12_feed 52 = .ok (.if_icmp .ge 7, 3) := by decide +kernel
theorem dX12_feed_55 : decode cX12_feed 55 = .ok (.iload_n 3, 1) := by decide +kernel
theorem dX12_feed_56 : decode cX12_feed 56 = .ok (.goto 17, 3) := by decide +kernel
theorem dX12_feed_59 : decode cX12_feed 59 = .ok (.iload 6, 2) := by decide +kernel
theorem dX12_feed_61 : decode cX12_feed 61 = .ok (.bipush 16, 2) := by decide +kernel
theorem dX12_feed_63 : decode cX12_feed 63 = .ok (.if_icmp .ge 8, 3) := by decide +kernel
theorem dX12_feed_66 : decode cX12_feed 66 = .ok (.iload 4, 2) := by decide +kernel
theorem dX12_feed_68 : decode cX12_feed 68 = .ok (.goto 5, 3) := by decide +kernel
theorem dX12_feed_71 : decode cX12_feed 71 = .ok (.iload 5, 2) := by decide +kernel
theorem dX12_feed_73 : decode cX12_feed 73 = .ok (.istore 7, 2) := by decide +kernel
theorem dX12_feed_75 : decode cX12_feed 75 = .ok (.aload_n 0, 1) := by decide +kernel
theorem dX12_feed_76 : decode cX12_feed 76 = .ok (.getfield 7, 3) := by decide +kernel
theorem dX12_feed_79 : decode cX12_feed 79 = .ok (.bipush 10, 2) := by decide +kernel
theorem dX12_feed_81 : decode cX12_feed 81 = .ok (.aload_n 0, 1) := by decide +kernel
theorem dX12_feed_82 : decode cX12_feed 82 = .ok (.getfield 7, 3) := by decide +kernel
theorem dX12_feed_85 : decode cX12_feed 85 = .ok (.iconst 4, 1) := by decide +kernel
theorem dX12_feed_86 : decode cX12_feed 86 = .ok (.iaload, 1) := by decide +kernel
theorem dX12_feed_87 : decode cX12_feed 87 = .ok (.iadd, 1) := by decide +kernel
theorem dX12_feed_88 : decode cX12_feed 88 = .ok (.iload 7, 2) := by decide +kernel
theorem dX12_feed_90 : decode cX12_feed 90 = .ok (.bipush 24, 2) := by decide +kernel
theorem dX12_feed_92 : decode cX12_feed 92 = .ok (.bipush 8, 2) := by decide +kernel
theorem dX12_feed_94 : decode cX12_feed 94 = .ok (.iload 6, 2) := by decide +kernel
theorem dX12_feed_96 : decode cX12_feed 96 = .ok (.iconst 4, 1) := by decide +kernel
theorem dX12_feed_97 : decode cX12_feed 97 = .ok (.irem, 1) := by decide +kernel
theorem dX12_feed_98 : decode cX12_feed 98 = .ok (.imul, 1) := by decide +kernel
theorem dX12_feed_99 : decode cX12_feed 99 = .ok (.isub, 1) := by decide +kernel
theorem dX12_feed_100 : decode cX12_feed 100 = .ok (.ishr, 1) := by decide +kernel
theorem dX12_feed_101 : decode cX12_feed 101 = .ok (.sipush 255, 3) := by decide +kernel
theorem dX12_feed_104 : decode cX12_feed 104 = .ok (.iand, 1) := by decide +kernel
theorem dX12_feed_105 : decode cX12_feed 105 = .ok (.iastore, 1) := by decide +kernel
theorem dX12_feed_106 : decode cX12_feed 106 = .ok (.aload_n 0, 1) := by decide +kernel
theorem dX12_feed_107 : decode cX12_feed 107 = .ok (.getfield 7, 3) := by decide +kernel
theorem dX12_feed_110 : decode cX12_feed 110 = .ok (.iconst 4, 1) := by decide +kernel
theorem dX12_feed_111 : decode cX12_feed 111 = .ok (.dup2, 1) := by decide +kernel
theorem dX12_feed_112 : decode cX12_feed 112 = .ok (.iaload, 1) := by decide +kernel
theorem dX12_feed_113 : decode cX12_feed 113 = .ok (.iconst 1, 1) := by decide +kernel
theorem dX12_feed_114 : decode cX12_feed 114 = .ok (.iadd, 1) := by decide +kernel
theorem dX12_feed_115 : decode cX12_feed 115 = .ok (.iastore, 1) := by decide +kernel
theorem dX12_feed_116 : decode cX12_feed 116 = .ok (.iinc 6 1, 3) := by decide +kernel
theorem dX12_feed_119 : decode cX12_feed 119 = .ok (.goto (-99), 3) := by decide +kernel
theorem dX12_feed_122 : decode cX12_feed 122 = .ok (.aload_n 0, 1) := by decide +kernel
theorem dX12_feed_123 : decode cX12_feed 123 = .ok (.getfield 7, 3) := by decide +kernel
theorem dX12_feed_126 : decode cX12_feed 126 = .ok (.iconst 4, 1) := by decide +kernel
theorem dX12_feed_127 : decode cX12_feed 127 = .ok (.iaload, 1) := by decide +kernel
theorem dX12_feed_128 : decode cX12_feed 128 = .ok (.ireturn, 1) := by decide +kernel
theorem dX12_end_0 : decode cX12_end 0 = .ok (.iload_n 1, 1) := by decide +kernel
theorem dX12_end_1 : decode cX12_end 1 = .ok (.ifCond .lt 13, 3) := by decide +kernel
theorem dX12_end_4 : decode cX12_end 4 = .ok (.iload_n 1, 1) := by decide +kernel
theorem dX12_end_5 : decode cX12_end 5 = .ok (.aload_n 0, 1) := by decide +kernel
theorem dX12_end_6 : decode cX12_end 6 = .ok (.getfield 7, 3) := by decide +kernel
theorem dX12_end_9 : decode cX12_end 9 = .ok (.iconst 4, 1) := by decide +kernel
theorem dX12_end_10 : decode cX12_end 10 = .ok (.iaload, 1) := by decide +kernel
theorem dX12_end_11 : decode cX12_end 11 = .ok (.if_icmp .le 5, 3) := by decide +kernel
theorem dX12_end_14 : decode cX12_end 14 = .ok (.iconst (-1), 1) := by decide +kernel
theorem dX12_end_15 : decode cX12_end 15 = .ok (.ireturn, 1) := by decide +kernel
theorem dX12_end_16 : decode cX12_end 16 = .ok (.aload_n 0, 1) := by decide +kernel
theorem dX12_end_17 : decode cX12_end 17 = .ok (.getfield 7, 3) := by decide +kernel
theorem dX12_end_20 : decode cX12_end 20 = .ok (.iconst 4, 1) := by decide +kernel
theorem dX12_end_21 : decode cX12_end 21 = .ok (.iload_n 1, 1) := by decide +kernel
theorem dX12_end_22 : decode cX12_end 22 = .ok (.iastore, 1) := by decide +kernel
theorem dX12_end_23 : decode cX12_end 23 = .ok (.iload_n 1, 1) := by decide +kernel
theorem dX12_end_24 : decode cX12_end 24 = .ok (.ireturn, 1) := by decide +kernel
theorem dX12_fault_0 : decode cX12_fault 0 = .ok (.iload_n 1, 1) := by decide +kernel
theorem dX12_fault_1 : decode cX12_fault 1 = .ok (.ifCond .ne 12, 3) := by decide +kernel
theorem dX12_fault_4 : decode cX12_fault 4 = .ok (.aload_n 0, 1) := by decide +kernel
theorem dX12_fault_5 : decode cX12_fault 5 = .ok (.getfield 7, 3) := by decide +kernel
theorem dX12_fault_8 : decode cX12_fault 8 = .ok (.iconst 5, 1) := by decide +kernel
theorem dX12_fault_9 : decode cX12_fault 9 = .ok (.iaload, 1) := by decide +kernel
theorem dX12_fault_10 : decode cX12_fault 10 = .ok (.goto 19, 3) := by decide +kernel
theorem dX12_fault_13 : decode cX12_fault 13 = .ok (.iload_n 1, 1) := by decide +kernel
theorem dX12_fault_14 : decode cX12_fault 14 = .ok (.iconst 1, 1) := by decide +kernel
theorem dX12_fault_15 : decode cX12_fault 15 = .ok (.if_icmp .ne 13, 3) := by decide +kernel
theorem dX12_fault_18 : decode cX12_fault 18 = .ok (.aload_n 0, 1) := by decide +kernel
theorem dX12_fault_19 : decode cX12_fault 19 = .ok (.getfield 7, 3) := by decide +kernel
theorem dX12_fault_22 : decode cX12_fault 22 = .ok (.bipush 6, 2) := by decide +kernel
theorem dX12_fault_24 : decode cX12_fault 24 = .ok (.iaload, 1) := by decide +kernel
theorem dX12_fault_25 : decode cX12_fault 25 = .ok (.goto 4, 3) := by decide +kernel
theorem dX12_fault_28 : decode cX12_fault 28 = .ok (.iconst (-1), 1) := by decide +kernel
theorem dX12_fault_29 : decode cX12_fault 29 = .ok (.ireturn, 1) := by decide +kernel
theorem dX12_count_0 : decode cX12_count 0 = .ok (.iload_n 1, 1) := by decide +kernel
theorem dX12_count_1 : decode cX12_count 1 = .ok (.iconst 0, 1) := by decide +kernel
theorem dX12_count_2 : decode cX12_count 2 = .ok (.iconst 2, 1) := by decide +kernel
theorem dX12_count_3 : decode cX12_count 3 = .ok (.invokestatic 111, 3) := by decide +kernel
theorem dX12_count_6 : decode cX12_count 6 = .ok (.ifCond .eq 12, 3) := by decide +kernel
theorem dX12_count_9 : decode cX12_count 9 = .ok (.aload_n 0, 1) := by decide +kernel
theorem dX12_count_10 : decode cX12_count 10 = .ok (.getfield 7, 3) := by decide +kernel
theorem dX12_count_13 : decode cX12_count 13 = .ok (.iload_n 1, 1) := by decide +kernel
theorem dX12_count_14 : decode cX12_count 14 = .ok (.iaload, 1) := by decide +kernel
theorem dX12_count_15 : decode cX12_count 15 = .ok (.goto 5, 3) := by decide +kernel
theorem dX12_count_18 : decode cX12_count 18 = .ok (.bipush (-2), 2) := by decide +kernel
theorem dX12_count_20 : decode cX12_count 20 = .ok (.ireturn, 1) := by decide +kernel
theorem dX12_image_0 : decode cX12_image 0 = .ok (.iload_n 1, 1) := by decide +kernel
theorem dX12_image_1 : decode cX12_image 1 = .ok (.iconst 0, 1) := by decide +kernel
theorem dX12_image_2 : decode cX12_image 2 = .ok (.iconst 2, 1) := by decide +kernel
theorem dX12_image_3 : decode cX12_image 3 = .ok (.invokestatic 111, 3) := by decide +kernel
theorem dX12_image_6 : decode cX12_image 6 = .ok (.ifCond .ne 5, 3) := by decide +kernel
theorem dX12_image_9 : decode cX12_image 9 = .ok (.iconst 0, 1) := by decide +kernel
theorem dX12_image_10 : decode cX12_image 10 = .ok (.ireturn, 1) := by decide +kernel
theorem dX12_image_11 : decode cX12_image 11 = .ok (.aload_n 0, 1) := by decide +kernel
theorem dX12_image_12 : decode cX12_image 12 = .ok (.getfield 13, 3) := by decide +kernel
theorem dX12_image_15 : decode cX12_image 15 = .ok (.iload_n 1, 1) := by decide +kernel
theorem dX12_image_16 : decode cX12_image 16 = .ok (.iconst 1, 1) := by decide +kernel
theorem dX12_image_17 : decode cX12_image 17 = .ok (.bastore, 1) := by decide +kernel
theorem dX12_image_18 : decode cX12_image 18 = .ok (.iconst 0, 1) := by decide +kernel
theorem dX12_image_19 : decode cX12_image 19 = .ok (.istore_n 2, 1) := by decide +kernel
theorem dX12_image_20 : decode cX12_image 20 = .ok (.iload_n 2, 1) := by decide +kernel
theorem dX12_image_21 : decode cX12_image 21 = .ok (.sipush 988, 3) := by decide +kernel
theorem dX12_image_24 : decode cX12_image 24 = .ok (.if_icmp .ge 29, 3) := by decide +kernel
theorem dX12_image_27 : decode cX12_image 27 = .ok (.aload_n 0, 1) := by decide +kernel
theorem dX12_image_28 : decode cX12_image 28 = .ok (.getfield 7, 3) := by decide +kernel
theorem dX12_image_31 : decode cX12_image 31 = .ok (.sipush 988, 3) := by decide +kernel
theorem dX12_image_34 : decode cX12_image 34 = .ok (.iload_n 1, 1) := by decide +kernel
theorem dX12_image_35 : decode cX12_image 35 = .ok (.iconst 1, 1) := by decide +kernel
theorem dX12_image_36 : decode cX12_image 36 = .ok (.iadd, 1) := by decide +kernel
theorem dX12_image_37 : decode cX12_image 37 = .ok (.imul, 1) := by decide +kernel
theorem dX12_image_38 : decode cX12_image 38 = .ok (.iload_n 2, 1) := by decide +kernel
theorem dX12_image_39 : decode cX12_image 39 = .ok (.iadd, 1) := by decide +kernel
theorem dX12_image_40 : decode cX12_image 40 = .ok (.aload_n 0, 1) := by decide +kernel
theorem dX12_image_41 : decode cX12_image 41 = .ok (.getfield 7, 3) := by decide +kernel
theorem dX12_image_44 : decode cX12_image 44 = .ok (.iload_n 2, 1) := by decide +kernel
theorem dX12_image_45 : decode cX12_image 45 = .ok (.iaload, 1) := by decide +kernel
theorem dX12_image_46 : decode cX12_image 46 = .ok (.iastore, 1) := by decide +kernel
theorem dX12_image_47 : decode cX12_image 47 = .ok (.iinc 2 1, 3) := by decide +kernel
theorem dX12_image_50 : decode cX12_image 50 = .ok (.goto (-30), 3) := by decide +kernel
theorem dX12_image_53 : decode cX12_image 53 = .ok (.iconst 1, 1) := by decide +kernel
theorem dX12_image_54 : decode cX12_image 54 = .ok (.ireturn, 1) := by decide +kernel
theorem dX12_again_0 : decode cX12_again 0 = .ok (.iload_n 1, 1) := by decide +kernel
theorem dX12_again_1 : decode cX12_again 1 = .ok (.iconst 0, 1) := by decide +kernel
theorem dX12_again_2 : decode cX12_again 2 = .ok (.iconst 2, 1) := by decide +kernel
theorem dX12_again_3 : decode cX12_again 3 = .ok (.invokestatic 111, 3) := by decide +kernel
theorem dX12_again_6 : decode cX12_again 6 = .ok (.ifCond .eq 12, 3) := by decide +kernel
theorem dX12_again_9 : decode cX12_again 9 = .ok (.aload_n 0, 1) := by decide +kernel
theorem dX12_again_10 : decode cX12_again 10 = .ok (.getfield 13, 3) := by decide +kernel
theorem dX12_again_13 : decode cX12_again 13 = .ok (.iload_n 1, 1) := by decide +kernel
theorem dX12_again_14 : decode cX12_again 14 = .ok (.baload, 1) := by decide +kernel
theorem dX12_again_15 : decode cX12_again 15 = .ok (.ifCond .ne 5, 3) := by decide +kernel
theorem dX12_again_18 : decode cX12_again 18 = .ok (.iconst 0, 1) := by decide +kernel
theorem dX12_again_19 : decode cX12_again 19 = .ok (.ireturn, 1) := by decide +kernel
theorem dX12_byteAt_0 : decode cX12_byteAt 0 = .ok (.iload_n 1, 1) := by decide +kernel
theorem dX12_byteAt_1 : decode cX12_byteAt 1 = .ok (.aload_n 0, 1) := by decide +kernel
theorem dX12_byteAt_2 : decode cX12_byteAt 2 = .ok (.getfield 56, 3) := by decide +kernel
theorem dX12_byteAt_5 : decode cX12_byteAt 5 = .ok (.if_icmp .ge 15, 3) := by decide +kernel
theorem dX12_byteAt_20 : decode cX12_byteAt 20 = .ok (.iconst (-1), 1) := by decide +kernel
theorem dX12_byteAt_21 : decode cX12_byteAt 21 = .ok (.ireturn, 1) := by decide +kernel
theorem dX12_advance_0 : decode cX12_advance 0 = .ok (.aload_n 0, 1) := by decide +kernel
theorem dX12_advance_1 : decode cX12_advance 1 = .ok (.aload_n 0, 1) := by decide +kernel
theorem dX12_advance_2 : decode cX12_advance 2 = .ok (.getfield 70, 3) := by decide +kernel
theorem dX12_advance_5 : decode cX12_advance 5 = .ok (.invokevirtual 73, 3) := by decide +kernel
theorem dX12_advance_8 : decode cX12_advance 8 = .ok (.bipush 10, 2) := by decide +kernel
theorem dX12_advance_10 : decode cX12_advance 10 = .ok (.if_icmp .eq 16, 3) := by decide +kernel
theorem dX12_advance_13 : decode cX12_advance 13 = .ok (.aload_n 0, 1) := by decide +kernel
theorem dX12_advance_14 : decode cX12_advance 14 = .ok (.aload_n 0, 1) := by decide +kernel
theorem dX12_advance_15 : decode cX12_advance 15 = .ok (.getfield 70, 3) := by decide +kernel
theorem dX12_advance_18 : decode cX12_advance 18 = .ok (.invokevirtual 73, 3) := by decide +kernel
theorem dX12_advance_21 : decode cX12_advance 21 = .ok (.bipush 32, 2) := by decide +kernel
theorem dX12_advance_23 : decode cX12_advance 23 = .ok (.if_icmp .ne 16, 3) := by decide +kernel
theorem dX12_advance_39 : decode cX12_advance 39 = .ok (.aload_n 0, 1) := by decide +kernel
theorem dX12_advance_40 : decode cX12_advance 40 = .ok (.aload_n 0, 1) := by decide +kernel
theorem dX12_advance_41 : decode cX12_advance 41 = .ok (.getfield 70, 3) := by decide +kernel
theorem dX12_advance_44 : decode cX12_advance 44 = .ok (.putfield 77, 3) := by decide +kernel
theorem dX12_advance_47 : decode cX12_advance 47 = .ok (.aload_n 0, 1) := by decide +kernel
theorem dX12_advance_48 : decode cX12_advance 48 = .ok (.aload_n 0, 1) := by decide +kernel
theorem dX12_advance_49 : decode cX12_advance 49 = .ok (.getfield 70, 3) := by decide +kernel
theorem dX12_advance_52 : decode cX12_advance 52 = .ok (.invokevirtual 73, 3) := by decide +kernel
theorem dX12_advance_55 : decode cX12_advance 55 = .ok (.istore_n 1, 1) := by decide +kernel
theorem dX12_advance_56 : decode cX12_advance 56 = .ok (.iload_n 1, 1) := by decide +kernel
theorem dX12_advance_57 : decode cX12_advance 57 = .ok (.ifCond .ge 11, 3) := by decide +kernel
theorem dX12_advance_60 : decode cX12_advance 60 = .ok (.aload_n 0, 1) := by decide +kernel
theorem dX12_advance_61 : decode cX12_advance 61 = .ok (.iconst 0, 1) := by decide +kernel
theorem dX12_advance_62 : decode cX12_advance 62 = .ok (.putfield 80, 3) := by decide +kernel
theorem dX12_advance_65 : decode cX12_advance 65 = .ok (.goto 246, 3) := by decide +kernel
theorem dX12_advance_311 : decode cX12_advance 311 = .ok (.return_, 1) := by decide +kernel
theorem dX12_sizeOf_0 : decode cX12_sizeOf 0 = .ok (.iload_n 0, 1) := by decide +kernel
theorem dX12_sizeOf_1 : decode cX12_sizeOf 1 = .ok (.ifCond .ne 8, 3) := by decide +kernel
theorem dX12_sizeOf_4 : decode cX12_sizeOf 4 = .ok (.bipush 51, 2) := by decide +kernel
theorem dX12_sizeOf_6 : decode cX12_sizeOf 6 = .ok (.goto 15, 3) := by decide +kernel
theorem dX12_sizeOf_9 : decode cX12_sizeOf 9 = .ok (.iload_n 0, 1) := by decide +kernel
theorem dX12_sizeOf_10 : decode cX12_sizeOf 10 = .ok (.iconst 1, 1) := by decide +kernel
theorem dX12_sizeOf_11 : decode cX12_sizeOf 11 = .ok (.if_icmp .ne 8, 3) := by decide +kernel
theorem dX12_sizeOf_14 : decode cX12_sizeOf 14 = .ok (.bipush 121, 2) := by decide +kernel
theorem dX12_sizeOf_16 : decode cX12_sizeOf 16 = .ok (.goto 5, 3) := by decide +kernel
theorem dX12_sizeOf_19 : decode cX12_sizeOf 19 = .ok (.bipush 17, 2) := by decide +kernel
theorem dX12_sizeOf_21 : decode cX12_sizeOf 21 = .ok (.ireturn, 1) := by decide +kernel
theorem dX12_placeOf_0 : decode cX12_placeOf 0 = .ok (.iload_n 0, 1) := by decide +kernel
theorem dX12_placeOf_1 : decode cX12_placeOf 1 = .ok (.ifCond .ne 14, 3) := by decide +kernel
theorem dX12_placeOf_4 : decode cX12_placeOf 4 = .ok (.sipush 610, 3) := by decide +kernel
theorem dX12_placeOf_7 : decode cX12_placeOf 7 = .ok (.bipush 51, 2) := by decide +kernel
theorem dX12_placeOf_9 : decode cX12_placeOf 9 = .ok (.iload_n 1, 1) := by decide +kernel
theorem dX12_placeOf_10 : decode cX12_placeOf 10 = .ok (.imul, 1) := by decide +kernel
theorem dX12_placeOf_11 : decode cX12_placeOf 11 = .ok (.iadd, 1) := by decide +kernel
theorem dX12_placeOf_12 : decode cX12_placeOf 12 = .ok (.goto 27, 3) := by decide +kernel
theorem dX12_placeOf_15 : decode cX12_placeOf 15 = .ok (.iload_n 0, 1) := by decide +kernel
theorem dX12_placeOf_16 : decode cX12_placeOf 16 = .ok (.iconst 1, 1) := by decide +kernel
theorem dX12_placeOf_17 : decode cX12_placeOf 17 = .ok (.if_icmp .ne 14, 3) := by decide +kernel
theorem dX12_placeOf_20 : decode cX12_placeOf 20 = .ok (.sipush 712, 3) := by decide +kernel
theorem dX12_placeOf_23 : decode cX12_placeOf 23 = .ok (.bipush 121, 2) := by decide +kernel
theorem dX12_placeOf_25 : decode cX12_placeOf 25 = .ok (.iload_n 1, 1) := by decide +kernel
theorem dX12_placeOf_26 : decode cX12_placeOf 26 = .ok (.imul, 1) := by decide +kernel
theorem dX12_placeOf_27 : decode cX12_placeOf 27 = .ok (.iadd, 1) := by decide +kernel
theorem dX12_placeOf_28 : decode cX12_placeOf 28 = .ok (.goto 11, 3) := by decide +kernel
theorem dX12_placeOf_31 : decode cX12_placeOf 31 = .ok (.sipush 954, 3) := by decide +kernel
theorem dX12_placeOf_34 : decode cX12_placeOf 34 = .ok (.bipush 17, 2) := by decide +kernel
theorem dX12_placeOf_36 : decode cX12_placeOf 36 = .ok (.iload_n 1, 1) := by decide +kernel
theorem dX12_placeOf_37 : decode cX12_placeOf 37 = .ok (.imul, 1) := by decide +kernel
theorem dX12_placeOf_38 : decode cX12_placeOf 38 = .ok (.iadd, 1) := by decide +kernel
theorem dX12_placeOf_39 : decode cX12_placeOf 39 = .ok (.ireturn, 1) := by decide +kernel
theorem dX12_postsAreThere_0 : decode cX12_postsAreThere 0 = .ok (.iconst 1, 1) := by decide +kernel
theorem dX12_postsAreThere_1 : decode cX12_postsAreThere 1 = .ok (.istore_n 1, 1) := by decide +kernel
theorem dX12_postsAreThere_2 : decode cX12_postsAreThere 2 = .ok (.iconst 0, 1) := by decide +kernel
theorem dX12_postsAreThere_3 : decode cX12_postsAreThere 3 = .ok (.istore_n 2, 1) := by decide +kernel
theorem dX12_postsAreThere_4 : decode cX12_postsAreThere 4 = .ok (.iload_n 2, 1) := by decide +kernel
theorem dX12_postsAreThere_5 : decode cX12_postsAreThere 5 = .ok (.bipush 7, 2) := by decide +kernel
theorem dX12_postsAreThere_7 : decode cX12_postsAreThere 7 = .ok (.if_icmp .ge 51, 3) := by decide +kernel
theorem dX12_postsAreThere_10 : decode cX12_postsAreThere 10 = .ok (.iload_n 1, 1) := by decide +kernel
theorem dX12_postsAreThere_11 : decode cX12_postsAreThere 11 = .ok (.ifCond .eq 39, 3) := by decide +kernel
theorem dX12_postsAreThere_14 : decode cX12_postsAreThere 14 = .ok (.aload_n 0, 1) := by decide +kernel
theorem dX12_postsAreThere_15 : decode cX12_postsAreThere 15 = .ok (.getfield 17, 3) := by decide +kernel
theorem dX12_postsAreThere_18 : decode cX12_postsAreThere 18 = .ok (.bipush 9, 2) := by decide +kernel
theorem dX12_postsAreThere_20 : decode cX12_postsAreThere 20 = .ok (.iload_n 2, 1) := by decide +kernel
theorem dX12_postsAreThere_21 : decode cX12_postsAreThere 21 = .ok (.iadd, 1) := by decide +kernel
theorem dX12_postsAreThere_22 : decode cX12_postsAreThere 22 = .ok (.iaload, 1) := by decide +kernel
theorem dX12_postsAreThere_23 : decode cX12_postsAreThere 23 = .ok (.ifCond .eq 23, 3) := by decide +kernel
theorem dX12_postsAreThere_46 : decode cX12_postsAreThere 46 = .ok (.iconst 1, 1) := by decide +kernel
theorem dX12_postsAreThere_47 : decode cX12_postsAreThere 47 = .ok (.goto 4, 3) := by decide +kernel
theorem dX12_postsAreThere_51 : decode cX12_postsAreThere 51 = .ok (.istore_n 1, 1) := by decide +kernel
theorem dX12_postsAreThere_52 : decode cX12_postsAreThere 52 = .ok (.iinc 2 1, 3) := by decide +kernel
theorem dX12_postsAreThere_55 : decode cX12_postsAreThere 55 = .ok (.goto (-51), 3) := by decide +kernel
theorem dX12_postsAreThere_58 : decode cX12_postsAreThere 58 = .ok (.iload_n 1, 1) := by decide +kernel
theorem dX12_postsAreThere_59 : decode cX12_postsAreThere 59 = .ok (.ireturn, 1) := by decide +kernel
theorem dX12_text_0 : decode cX12_text 0 = .ok (.aload_n 0, 1) := by decide +kernel
theorem dX12_text_1 : decode cX12_text 1 = .ok (.aload_n 0, 1) := by decide +kernel
theorem dX12_text_2 : decode cX12_text 2 = .ok (.getfield 7, 3) := by decide +kernel
theorem dX12_text_5 : decode cX12_text 5 = .ok (.iconst 4, 1) := by decide +kernel
theorem dX12_text_6 : decode cX12_text 6 = .ok (.iaload, 1) := by decide +kernel
theorem dX12_text_7 : decode cX12_text 7 = .ok (.putfield 56, 3) := by decide +kernel
theorem dX12_text_10 : decode cX12_text 10 = .ok (.aload_n 0, 1) := by decide +kernel
theorem dX12_text_11 : decode cX12_text 11 = .ok (.getfield 7, 3) := by decide +kernel
theorem dX12_text_14 : decode cX12_text 14 = .ok (.iconst 4, 1) := by decide +kernel
theorem dX12_text_15 : decode cX12_text 15 = .ok (.iconst 0, 1) := by decide +kernel
theorem dX12_text_16 : decode cX12_text 16 = .ok (.iastore, 1) := by decide +kernel
theorem dX12_text_17 : decode cX12_text 17 = .ok (.aload_n 0, 1) := by decide +kernel
theorem dX12_text_18 : decode cX12_text 18 = .ok (.getfield 7, 3) := by decide +kernel
theorem dX12_text_21 : decode cX12_text 21 = .ok (.iconst 5, 1) := by decide +kernel
theorem dX12_text_22 : decode cX12_text 22 = .ok (.iconst 0, 1) := by decide +kernel
theorem dX12_text_23 : decode cX12_text 23 = .ok (.iastore, 1) := by decide +kernel
theorem dX12_text_24 : decode cX12_text 24 = .ok (.aload_n 0, 1) := by decide +kernel
theorem dX12_text_25 : decode cX12_text 25 = .ok (.getfield 7, 3) := by decide +kernel
theorem dX12_text_28 : decode cX12_text 28 = .ok (.bipush 6, 2) := by decide +kernel
theorem dX12_text_30 : decode cX12_text 30 = .ok (.iconst (-1), 1) := by decide +kernel
theorem dX12_text_31 : decode cX12_text 31 = .ok (.iastore, 1) := by decide +kernel
theorem dX12_text_32 : decode cX12_text 32 = .ok (.iload_n 1, 1) := by decide +kernel
theorem dX12_text_33 : decode cX12_text 33 = .ok (.iconst 0, 1) := by decide +kernel
theorem dX12_text_34 : decode cX12_text 34 = .ok (.iconst 2, 1) := by decide +kernel
theorem dX12_text_35 : decode cX12_text 35 = .ok (.invokestatic 111, 3) := by decide +kernel
theorem dX12_text_38 : decode cX12_text 38 = .ok (.ifCond .eq 30, 3) := by decide +kernel
theorem dX12_text_41 : decode cX12_text 41 = .ok (.iload_n 2, 1) := by decide +kernel
theorem dX12_text_42 : decode cX12_text 42 = .ok (.iconst (-1), 1) := by decide +kernel
theorem dX12_text_43 : decode cX12_text 43 = .ok (.if_icmp .ne 16, 3) := by decide +kernel
theorem dX12_text_46 : decode cX12_text 46 = .ok (.aload_n 0, 1) := by decide +kernel
theorem dX12_text_47 : decode cX12_text 47 = .ok (.getfield 7, 3) := by decide +kernel
theorem dX12_text_50 : decode cX12_text 50 = .ok (.iload_n 1, 1) := by decide +kernel
theorem dX12_text_51 : decode cX12_text 51 = .ok (.iaload, 1) := by decide +kernel
theorem dX12_text_52 : decode cX12_text 52 = .ok (.iconst 2, 1) := by decide +kernel
theorem dX12_text_53 : decode cX12_text 53 = .ok (.if_icmp .lt 18, 3) := by decide +kernel
theorem dX12_text_59 : decode cX12_text 59 = .ok (.aload_n 0, 1) := by decide +kernel
theorem dX12_text_60 : decode cX12_text 60 = .ok (.iload_n 1, 1) := by decide +kernel
theorem dX12_text_61 : decode cX12_text 61 = .ok (.iload_n 2, 1) := by decide +kernel
theorem dX12_text_62 : decode cX12_text 62 = .ok (.invokevirtual 143, 3) := by decide +kernel
theorem dX12_text_65 : decode cX12_text 65 = .ok (.ifCond .ne 6, 3) := by decide +kernel
theorem dX12_text_68 : decode cX12_text 68 = .ok (.bipush (-2), 2) := by decide +kernel
theorem dX12_text_70 : decode cX12_text 70 = .ok (.ireturn, 1) := by decide +kernel
theorem dX12_text_71 : decode cX12_text 71 = .ok (.aload_n 0, 1) := by decide +kernel
theorem dX12_text_72 : decode cX12_text 72 = .ok (.iconst 0, 1) := by decide +kernel
theorem dX12_text_73 : decode cX12_text 73 = .ok (.putfield 70, 3) := by decide +kernel
theorem dX12_text_76 : decode cX12_text 76 = .ok (.aload_n 0, 1) := by decide +kernel
theorem dX12_text_77 : decode cX12_text 77 = .ok (.iconst 0, 1) := by decide +kernel
theorem dX12_text_78 : decode cX12_text 78 = .ok (.putfield 104, 3) := by decide +kernel
theorem dX12_text_81 : decode cX12_text 81 = .ok (.aload_n 0, 1) := by decide +kernel
theorem dX12_text_82 : decode cX12_text 82 = .ok (.iconst (-1), 1) := by decide +kernel
theorem dX12_text_83 : decode cX12_text 83 = .ok (.putfield 126, 3) := by decide +kernel
theorem dX12_text_86 : decode cX12_text 86 = .ok (.iconst 0, 1) := by decide +kernel
theorem dX12_text_87 : decode cX12_text 87 = .ok (.istore_n 3, 1) := by decide +kernel
theorem dX12_text_88 : decode cX12_text 88 = .ok (.iload_n 3, 1) := by decide +kernel
theorem dX12_text_89 : decode cX12_text 89 = .ok (.bipush 121, 2) := by decide +kernel
theorem dX12_text_91 : decode cX12_text 91 = .ok (.if_icmp .ge 16, 3) := by decide +kernel
theorem dX12_text_94 : decode cX12_text 94 = .ok (.aload_n 0, 1) := by decide +kernel
theorem dX12_text_95 : decode cX12_text 95 = .ok (.getfield 17, 3) := by decide +kernel
theorem dX12_text_98 : decode cX12_text 98 = .ok (.iload_n 3, 1) := by decide +kernel
theorem dX12_text_99 : decode cX12_text 99 = .ok (.iconst 0, 1) := by decide +kernel
theorem dX12_text_100 : decode cX12_text 100 = .ok (.iastore, 1) := by decide +kernel
theorem dX12_text_101 : decode cX12_text 101 = .ok (.iinc 3 1, 3) := by decide +kernel
theorem dX12_text_104 : decode cX12_text 104 = .ok (.goto (-16), 3) := by decide +kernel
theorem dX12_text_107 : decode cX12_text 107 = .ok (.aload_n 0, 1) := by decide +kernel
theorem dX12_text_108 : decode cX12_text 108 = .ok (.invokevirtual 119, 3) := by decide +kernel
theorem dX12_text_111 : decode cX12_text 111 = .ok (.aload_n 0, 1) := by decide +kernel
theorem dX12_text_112 : decode cX12_text 112 = .ok (.getfield 104, 3) := by decide +kernel
theorem dX12_text_115 : decode cX12_text 115 = .ok (.ifCond .ne 58, 3) := by decide +kernel
theorem dX12_text_118 : decode cX12_text 118 = .ok (.aload_n 0, 1) := by decide +kernel
theorem dX12_text_119 : decode cX12_text 119 = .ok (.getfield 80, 3) := by decide +kernel
theorem dX12_text_122 : decode cX12_text 122 = .ok (.ifCond .eq 51, 3) := by decide +kernel
theorem dX12_text_173 : decode cX12_text 173 = .ok (.iload_n 1, 1) := by decide +kernel
theorem dX12_text_174 : decode cX12_text 174 = .ok (.ifCond .ne 34, 3) := by decide +kernel
theorem dX12_text_177 : decode cX12_text 177 = .ok (.aload_n 0, 1) := by decide +kernel
theorem dX12_text_178 : decode cX12_text 178 = .ok (.getfield 7, 3) := by decide +kernel
theorem dX12_text_181 : decode cX12_text 181 = .ok (.iconst 5, 1) := by decide +kernel
theorem dX12_text_182 : decode cX12_text 182 = .ok (.iaload, 1) := by decide +kernel
theorem dX12_text_183 : decode cX12_text 183 = .ok (.ifCond .ne 25, 3) := by decide +kernel
theorem dX12_text_186 : decode cX12_text 186 = .ok (.aload_n 0, 1) := by decide +kernel
theorem dX12_text_187 : decode cX12_text 187 = .ok (.getfield 126, 3) := by decide +kernel
theorem dX12_text_190 : decode cX12_text 190 = .ok (.aload_n 0, 1) := by decide +kernel
theorem dX12_text_191 : decode cX12_text 191 = .ok (.getfield 17, 3) := by decide +kernel
theorem dX12_text_194 : decode cX12_text 194 = .ok (.iconst 0, 1) := by decide +kernel
theorem dX12_text_195 : decode cX12_text 195 = .ok (.iaload, 1) := by decide +kernel
theorem dX12_text_196 : decode cX12_text 196 = .ok (.if_icmp .lt 12, 3) := by decide +kernel
theorem dX12_text_208 : decode cX12_text 208 = .ok (.iload_n 1, 1) := by decide +kernel
theorem dX12_text_209 : decode cX12_text 209 = .ok (.ifCond .ne 28, 3) := by decide +kernel
theorem dX12_text_212 : decode cX12_text 212 = .ok (.aload_n 0, 1) := by decide +kernel
theorem dX12_text_213 : decode cX12_text 213 = .ok (.getfield 7, 3) := by decide +kernel
theorem dX12_text_216 : decode cX12_text 216 = .ok (.iconst 5, 1) := by decide +kernel
theorem dX12_text_217 : decode cX12_text 217 = .ok (.iaload, 1) := by decide +kernel
theorem dX12_text_218 : decode cX12_text 218 = .ok (.ifCond .ne 19, 3) := by decide +kernel
theorem dX12_text_221 : decode cX12_text 221 = .ok (.aload_n 0, 1) := by decide +kernel
theorem dX12_text_222 : decode cX12_text 222 = .ok (.invokevirtual 156, 3) := by decide +kernel
theorem dX12_text_225 : decode cX12_text 225 = .ok (.ifCond .ne 12, 3) := by decide +kernel
theorem dX12_text_237 : decode cX12_text 237 = .ok (.aload_n 0, 1) := by decide +kernel
theorem dX12_text_238 : decode cX12_text 238 = .ok (.getfield 7, 3) := by decide +kernel
theorem dX12_text_241 : decode cX12_text 241 = .ok (.iconst 5, 1) := by decide +kernel
theorem dX12_text_242 : decode cX12_text 242 = .ok (.iaload, 1) := by decide +kernel
theorem dX12_text_243 : decode cX12_text 243 = .ok (.ifCond .eq 5, 3) := by decide +kernel
theorem dX12_text_248 : decode cX12_text 248 = .ok (.iload_n 2, 1) := by decide +kernel
theorem dX12_text_249 : decode cX12_text 249 = .ok (.iconst (-1), 1) := by decide +kernel
theorem dX12_text_250 : decode cX12_text 250 = .ok (.if_icmp .ne 12, 3) := by decide +kernel
theorem dX12_text_253 : decode cX12_text 253 = .ok (.aload_n 0, 1) := by decide +kernel
theorem dX12_text_254 : decode cX12_text 254 = .ok (.getfield 7, 3) := by decide +kernel
theorem dX12_text_257 : decode cX12_text 257 = .ok (.iload_n 1, 1) := by decide +kernel
theorem dX12_text_258 : decode cX12_text 258 = .ok (.iaload, 1) := by decide +kernel
theorem dX12_text_259 : decode cX12_text 259 = .ok (.goto 4, 3) := by decide +kernel
theorem dX12_text_263 : decode cX12_text 263 = .ok (.istore_n 3, 1) := by decide +kernel
theorem dX12_text_264 : decode cX12_text 264 = .ok (.iload_n 2, 1) := by decide +kernel
theorem dX12_text_265 : decode cX12_text 265 = .ok (.iconst (-1), 1) := by decide +kernel
theorem dX12_text_266 : decode cX12_text 266 = .ok (.if_icmp .ne 13, 3) := by decide +kernel
theorem dX12_text_269 : decode cX12_text 269 = .ok (.aload_n 0, 1) := by decide +kernel
theorem dX12_text_270 : decode cX12_text 270 = .ok (.getfield 7, 3) := by decide +kernel
theorem dX12_text_273 : decode cX12_text 273 = .ok (.iload_n 1, 1) := by decide +kernel
theorem dX12_text_274 : decode cX12_text 274 = .ok (.dup2, 1) := by decide +kernel
theorem dX12_text_275 : decode cX12_text 275 = .ok (.iaload, 1) := by decide +kernel
theorem dX12_text_276 : decode cX12_text 276 = .ok (.iconst 1, 1) := by decide +kernel
theorem dX12_text_277 : decode cX12_text 277 = .ok (.iadd, 1) := by decide +kernel
theorem dX12_text_278 : decode cX12_text 278 = .ok (.iastore, 1) := by decide +kernel
theorem dX12_text_279 : decode cX12_text 279 = .ok (.iconst 0, 1) := by decide +kernel
theorem dX12_text_280 : decode cX12_text 280 = .ok (.istore 4, 2) := by decide +kernel
theorem dX12_text_282 : decode cX12_text 282 = .ok (.iload 4, 2) := by decide +kernel
theorem dX12_text_284 : decode cX12_text 284 = .ok (.iload_n 1, 1) := by decide +kernel
theorem dX12_text_285 : decode cX12_text 285 = .ok (.invokestatic 160, 3) := by decide +kernel
theorem dX12_text_288 : decode cX12_text 288 = .ok (.if_icmp .ge 29, 3) := by decide +kernel
theorem dX12_text_291 : decode cX12_text 291 = .ok (.aload_n 0, 1) := by decide +kernel
theorem dX12_text_292 : decode cX12_text 292 = .ok (.getfield 7, 3) := by decide +kernel
theorem dX12_text_295 : decode cX12_text 295 = .ok (.iload_n 1, 1) := by decide +kernel
theorem dX12_text_296 : decode cX12_text 296 = .ok (.iload_n 3, 1) := by decide +kernel
theorem dX12_text_297 : decode cX12_text 297 = .ok (.invokestatic 163, 3) := by decide +kernel
theorem dX12_text_300 : decode cX12_text 300 = .ok (.iload 4, 2) := by decide +kernel
theorem dX12_text_302 : decode cX12_text 302 = .ok (.iadd, 1) := by decide +kernel
theorem dX12_text_303 : decode cX12_text 303 = .ok (.aload_n 0, 1) := by decide +kernel
theorem dX12_text_304 : decode cX12_text 304 = .ok (.getfield 17, 3) := by decide +kernel
theorem dX12_text_307 : decode cX12_text 307 = .ok (.iload 4, 2) := by decide +kernel
theorem dX12_text_309 : decode cX12_text 309 = .ok (.iaload, 1) := by decide +kernel
theorem dX12_text_310 : decode cX12_text 310 = .ok (.iastore, 1) := by decide +kernel
theorem dX12_text_311 : decode cX12_text 311 = .ok (.iinc 4 1, 3) := by decide +kernel
theorem dX12_text_314 : decode cX12_text 314 = .ok (.goto (-32), 3) := by decide +kernel
theorem dX12_text_317 : decode cX12_text 317 = .ok (.iload_n 3, 1) := by decide +kernel
theorem dX12_text_318 : decode cX12_text 318 = .ok (.ireturn, 1) := by decide +kernel
theorem dX12_land_0 : decode cX12_land 0 = .ok (.aload_n 0, 1) := by decide +kernel
theorem dX12_land_1 : decode cX12_land 1 = .ok (.iload_n 1, 1) := by decide +kernel
theorem dX12_land_2 : decode cX12_land 2 = .ok (.invokevirtual 184, 3) := by decide +kernel
theorem dX12_land_5 : decode cX12_land 5 = .ok (.ifCond .eq 7, 3) := by decide +kernel
theorem dX12_land_12 : decode cX12_land 12 = .ok (.iconst (-1), 1) := by decide +kernel
theorem dX12_land_13 : decode cX12_land 13 = .ok (.ireturn, 1) := by decide +kernel
theorem dX12_deed_0 : decode cX12_deed 0 = .ok (.aload_n 0, 1) := by decide +kernel
theorem dX12_deed_1 : decode cX12_deed 1 = .ok (.iload_n 1, 1) := by decide +kernel
theorem dX12_deed_2 : decode cX12_deed 2 = .ok (.invokevirtual 305, 3) := by decide +kernel
theorem dX12_deed_5 : decode cX12_deed 5 = .ok (.ifCond .ne 6, 3) := by decide +kernel
theorem dX12_deed_8 : decode cX12_deed 8 = .ok (.bipush (-2), 2) := by decide +kernel
theorem dX12_deed_10 : decode cX12_deed 10 = .ok (.ireturn, 1) := by decide +kernel
theorem dX12_stop_0 : decode cX12_stop 0 = .ok (.aload_n 0, 1) := by decide +kernel
theorem dX12_stop_1 : decode cX12_stop 1 = .ok (.iload_n 1, 1) := by decide +kernel
theorem dX12_stop_2 : decode cX12_stop 2 = .ok (.invokevirtual 184, 3) := by decide +kernel
theorem dX12_stop_5 : decode cX12_stop 5 = .ok (.ifCond .eq 11, 3) := by decide +kernel
theorem dX12_stop_16 : decode cX12_stop 16 = .ok (.iconst (-1), 1) := by decide +kernel
theorem dX12_stop_17 : decode cX12_stop 17 = .ok (.ireturn, 1) := by decide +kernel
theorem dX12_state_0 : decode cX12_state 0 = .ok (.aload_n 0, 1) := by decide +kernel
theorem dX12_state_1 : decode cX12_state 1 = .ok (.iload_n 1, 1) := by decide +kernel
theorem dX12_state_2 : decode cX12_state 2 = .ok (.invokevirtual 184, 3) := by decide +kernel
theorem dX12_state_5 : decode cX12_state 5 = .ok (.ifCond .eq 15, 3) := by decide +kernel
theorem dX12_state_20 : decode cX12_state 20 = .ok (.bipush (-2), 2) := by decide +kernel
theorem dX12_state_22 : decode cX12_state 22 = .ok (.ireturn, 1) := by decide +kernel
theorem dX12_walk_0 : decode cX12_walk 0 = .ok (.aload_n 0, 1) := by decide +kernel
theorem dX12_walk_1 : decode cX12_walk 1 = .ok (.iload_n 1, 1) := by decide +kernel
theorem dX12_walk_2 : decode cX12_walk 2 = .ok (.invokevirtual 184, 3) := by decide +kernel
theorem dX12_walk_5 : decode cX12_walk 5 = .ok (.ifCond .eq 11, 3) := by decide +kernel
theorem dX12_walk_16 : decode cX12_walk 16 = .ok (.bipush (-2), 2) := by decide +kernel
theorem dX12_walk_18 : decode cX12_walk 18 = .ok (.ireturn, 1) := by decide +kernel
theorem dX12_endOf_0 : decode cX12_endOf 0 = .ok (.aload_n 0, 1) := by decide +kernel
theorem dX12_endOf_1 : decode cX12_endOf 1 = .ok (.iload_n 1, 1) := by decide +kernel
theorem dX12_endOf_2 : decode cX12_endOf 2 = .ok (.invokevirtual 184, 3) := by decide +kernel
theorem dX12_endOf_5 : decode cX12_endOf 5 = .ok (.ifCond .ne 6, 3) := by decide +kernel
theorem dX12_endOf_8 : decode cX12_endOf 8 = .ok (.bipush (-2), 2) := by decide +kernel
theorem dX12_endOf_10 : decode cX12_endOf 10 = .ok (.ireturn, 1) := by decide +kernel
theorem dX12_come_0 : decode cX12_come 0 = .ok (.aload_n 0, 1) := by decide +kernel
theorem dX12_come_1 : decode cX12_come 1 = .ok (.iload_n 1, 1) := by decide +kernel
theorem dX12_come_2 : decode cX12_come 2 = .ok (.invokevirtual 184, 3) := by decide +kernel
theorem dX12_come_5 : decode cX12_come 5 = .ok (.ifCond .eq 21, 3) := by decide +kernel
theorem dX12_come_26 : decode cX12_come 26 = .ok (.iconst (-1), 1) := by decide +kernel
theorem dX12_come_27 : decode cX12_come 27 = .ok (.ireturn, 1) := by decide +kernel
theorem dX12_period_0 : decode cX12_period 0 = .ok (.aload_n 0, 1) := by decide +kernel
theorem dX12_period_1 : decode cX12_period 1 = .ok (.iload_n 1, 1) := by decide +kernel
theorem dX12_period_2 : decode cX12_period 2 = .ok (.invokevirtual 184, 3) := by decide +kernel
theorem dX12_period_5 : decode cX12_period 5 = .ok (.ifCond .eq 11, 3) := by decide +kernel
theorem dX12_period_16 : decode cX12_period 16 = .ok (.iconst (-1), 1) := by decide +kernel
theorem dX12_period_17 : decode cX12_period 17 = .ok (.ireturn, 1) := by decide +kernel
theorem dX12_set_0 : decode cX12_set 0 = .ok (.aload_n 0, 1) := by decide +kernel
theorem dX12_set_1 : decode cX12_set 1 = .ok (.iload_n 1, 1) := by decide +kernel
theorem dX12_set_2 : decode cX12_set 2 = .ok (.invokevirtual 184, 3) := by decide +kernel
theorem dX12_set_5 : decode cX12_set 5 = .ok (.ifCond .eq 27, 3) := by decide +kernel
theorem dX12_set_32 : decode cX12_set 32 = .ok (.iconst (-1), 1) := by decide +kernel
theorem dX12_set_33 : decode cX12_set 33 = .ok (.ireturn, 1) := by decide +kernel
theorem dX12_lot_0 : decode cX12_lot 0 = .ok (.aload_n 0, 1) := by decide +kernel
theorem dX12_lot_1 : decode cX12_lot 1 = .ok (.iload_n 1, 1) := by decide +kernel
theorem dX12_lot_2 : decode cX12_lot 2 = .ok (.invokevirtual 184, 3) := by decide +kernel
theorem dX12_lot_5 : decode cX12_lot 5 = .ok (.ifCond .eq 27, 3) := by decide +kernel
theorem dX12_lot_32 : decode cX12_lot 32 = .ok (.iconst (-1), 1) := by decide +kernel
theorem dX12_lot_33 : decode cX12_lot 33 = .ok (.ireturn, 1) := by decide +kernel
theorem dX12_mean_0 : decode cX12_mean 0 = .ok (.aload_n 0, 1) := by decide +kernel
theorem dX12_mean_1 : decode cX12_mean 1 = .ok (.iload_n 1, 1) := by decide +kernel
theorem dX12_mean_2 : decode cX12_mean 2 = .ok (.invokevirtual 184, 3) := by decide +kernel
theorem dX12_mean_5 : decode cX12_mean 5 = .ok (.ifCond .eq 11, 3) := by decide +kernel
theorem dX12_mean_16 : decode cX12_mean 16 = .ok (.iconst (-1), 1) := by decide +kernel
theorem dX12_mean_17 : decode cX12_mean 17 = .ok (.ireturn, 1) := by decide +kernel
theorem dX12_trees_0 : decode cX12_trees 0 = .ok (.aload_n 0, 1) := by decide +kernel
theorem dX12_trees_1 : decode cX12_trees 1 = .ok (.iload_n 1, 1) := by decide +kernel
theorem dX12_trees_2 : decode cX12_trees 2 = .ok (.invokevirtual 184, 3) := by decide +kernel
theorem dX12_trees_5 : decode cX12_trees 5 = .ok (.ifCond .ne 5, 3) := by decide +kernel
theorem dX12_trees_8 : decode cX12_trees 8 = .ok (.iconst (-1), 1) := by decide +kernel
theorem dX12_trees_9 : decode cX12_trees 9 = .ok (.ireturn, 1) := by decide +kernel
theorem dX12_game_0 : decode cX12_game 0 = .ok (.aload_n 0, 1) := by decide +kernel
theorem dX12_game_1 : decode cX12_game 1 = .ok (.iload_n 1, 1) := by decide +kernel
theorem dX12_game_2 : decode cX12_game 2 = .ok (.invokevirtual 184, 3) := by decide +kernel
theorem dX12_game_5 : decode cX12_game 5 = .ok (.ifCond .eq 20, 3) := by decide +kernel
theorem dX12_game_25 : decode cX12_game 25 = .ok (.bipush (-9), 2) := by decide +kernel
theorem dX12_game_27 : decode cX12_game 27 = .ok (.ireturn, 1) := by decide +kernel
theorem dX12_fact_0 : decode cX12_fact 0 = .ok (.aload_n 0, 1) := by decide +kernel
theorem dX12_fact_1 : decode cX12_fact 1 = .ok (.iload_n 1, 1) := by decide +kernel
theorem dX12_fact_2 : decode cX12_fact 2 = .ok (.invokevirtual 363, 3) := by decide +kernel
theorem dX12_fact_5 : decode cX12_fact 5 = .ok (.ifCond .ne 6, 3) := by decide +kernel
theorem dX12_fact_8 : decode cX12_fact 8 = .ok (.bipush (-2), 2) := by decide +kernel
theorem dX12_fact_10 : decode cX12_fact 10 = .ok (.ireturn, 1) := by decide +kernel
theorem dX12_fits_0 : decode cX12_fits 0 = .ok (.aload_n 0, 1) := by decide +kernel
theorem dX12_fits_1 : decode cX12_fits 1 = .ok (.iload_n 1, 1) := by decide +kernel
theorem dX12_fits_2 : decode cX12_fits 2 = .ok (.invokevirtual 184, 3) := by decide +kernel
theorem dX12_fits_5 : decode cX12_fits 5 = .ok (.ifCond .eq 21, 3) := by decide +kernel
theorem dX12_fits_26 : decode cX12_fits 26 = .ok (.bipush (-2), 2) := by decide +kernel
theorem dX12_fits_28 : decode cX12_fits 28 = .ok (.ireturn, 1) := by decide +kernel
theorem dX12_drawn_0 : decode cX12_drawn 0 = .ok (.aload_n 0, 1) := by decide +kernel
theorem dX12_drawn_1 : decode cX12_drawn 1 = .ok (.iload_n 1, 1) := by decide +kernel
theorem dX12_drawn_2 : decode cX12_drawn 2 = .ok (.invokevirtual 184, 3) := by decide +kernel
theorem dX12_drawn_5 : decode cX12_drawn 5 = .ok (.ifCond .eq 13, 3) := by decide +kernel
theorem dX12_drawn_18 : decode cX12_drawn 18 = .ok (.bipush (-2), 2) := by decide +kernel
theorem dX12_drawn_20 : decode cX12_drawn 20 = .ok (.ireturn, 1) := by decide +kernel
theorem dX12_far_0 : decode cX12_far 0 = .ok (.aload_n 0, 1) := by decide +kernel
theorem dX12_far_1 : decode cX12_far 1 = .ok (.iload_n 1, 1) := by decide +kernel
theorem dX12_far_2 : decode cX12_far 2 = .ok (.invokevirtual 184, 3) := by decide +kernel
theorem dX12_far_5 : decode cX12_far 5 = .ok (.ifCond .eq 19, 3) := by decide +kernel
theorem dX12_far_24 : decode cX12_far 24 = .ok (.iconst (-1), 1) := by decide +kernel
theorem dX12_far_25 : decode cX12_far 25 = .ok (.ireturn, 1) := by decide +kernel
theorem dX12_reach_0 : decode cX12_reach 0 = .ok (.aload_n 0, 1) := by decide +kernel
theorem dX12_reach_1 : decode cX12_reach 1 = .ok (.iload_n 1, 1) := by decide +kernel
theorem dX12_reach_2 : decode cX12_reach 2 = .ok (.invokevirtual 184, 3) := by decide +kernel
theorem dX12_reach_5 : decode cX12_reach 5 = .ok (.ifCond .eq 11, 3) := by decide +kernel
theorem dX12_reach_16 : decode cX12_reach 16 = .ok (.bipush (-2), 2) := by decide +kernel
theorem dX12_reach_18 : decode cX12_reach 18 = .ok (.ireturn, 1) := by decide +kernel
theorem dX12_classes_0 : decode cX12_classes 0 = .ok (.aload_n 0, 1) := by decide +kernel
theorem dX12_classes_1 : decode cX12_classes 1 = .ok (.iload_n 1, 1) := by decide +kernel
theorem dX12_classes_2 : decode cX12_classes 2 = .ok (.invokevirtual 184, 3) := by decide +kernel
theorem dX12_classes_5 : decode cX12_classes 5 = .ok (.ifCond .ne 6, 3) := by decide +kernel
theorem dX12_classes_8 : decode cX12_classes 8 = .ok (.bipush (-2), 2) := by decide +kernel
theorem dX12_classes_10 : decode cX12_classes 10 = .ok (.ireturn, 1) := by decide +kernel
theorem dX12_led_0 : decode cX12_led 0 = .ok (.aload_n 0, 1) := by decide +kernel
theorem dX12_led_1 : decode cX12_led 1 = .ok (.iload_n 1, 1) := by decide +kernel
theorem dX12_led_2 : decode cX12_led 2 = .ok (.invokevirtual 184, 3) := by decide +kernel
theorem dX12_led_5 : decode cX12_led 5 = .ok (.ifCond .eq 20, 3) := by decide +kernel
theorem dX12_led_25 : decode cX12_led 25 = .ok (.bipush (-2), 2) := by decide +kernel
theorem dX12_led_27 : decode cX12_led 27 = .ok (.ireturn, 1) := by decide +kernel
theorem dX12_cover_0 : decode cX12_cover 0 = .ok (.aload_n 0, 1) := by decide +kernel
theorem dX12_cover_1 : decode cX12_cover 1 = .ok (.iload_n 1, 1) := by decide +kernel
theorem dX12_cover_2 : decode cX12_cover 2 = .ok (.invokevirtual 184, 3) := by decide +kernel
theorem dX12_cover_5 : decode cX12_cover 5 = .ok (.ifCond .eq 11, 3) := by decide +kernel
theorem dX12_cover_16 : decode cX12_cover 16 = .ok (.bipush (-2), 2) := by decide +kernel
theorem dX12_cover_18 : decode cX12_cover 18 = .ok (.ireturn, 1) := by decide +kernel
theorem dX12_share_0 : decode cX12_share 0 = .ok (.aload_n 0, 1) := by decide +kernel
theorem dX12_share_1 : decode cX12_share 1 = .ok (.iload_n 1, 1) := by decide +kernel
theorem dX12_share_2 : decode cX12_share 2 = .ok (.invokevirtual 184, 3) := by decide +kernel
theorem dX12_share_5 : decode cX12_share 5 = .ok (.ifCond .eq 39, 3) := by decide +kernel
theorem dX12_share_44 : decode cX12_share 44 = .ok (.iconst (-1), 1) := by decide +kernel
theorem dX12_share_45 : decode cX12_share 45 = .ok (.ireturn, 1) := by decide +kernel
theorem dX12_longest_0 : decode cX12_longest 0 = .ok (.aload_n 0, 1) := by decide +kernel
theorem dX12_longest_1 : decode cX12_longest 1 = .ok (.iload_n 1, 1) := by decide +kernel
theorem dX12_longest_2 : decode cX12_longest 2 = .ok (.invokevirtual 184, 3) := by decide +kernel
theorem dX12_longest_5 : decode cX12_longest 5 = .ok (.ifCond .eq 11, 3) := by decide +kernel
theorem dX12_longest_16 : decode cX12_longest 16 = .ok (.iconst (-1), 1) := by decide +kernel
theorem dX12_longest_17 : decode cX12_longest 17 = .ok (.ireturn, 1) := by decide +kernel
theorem dX12_back_0 : decode cX12_back 0 = .ok (.aload_n 0, 1) := by decide +kernel
theorem dX12_back_1 : decode cX12_back 1 = .ok (.iload_n 1, 1) := by decide +kernel
theorem dX12_back_2 : decode cX12_back 2 = .ok (.invokevirtual 184, 3) := by decide +kernel
theorem dX12_back_5 : decode cX12_back 5 = .ok (.ifCond .eq 11, 3) := by decide +kernel
theorem dX12_back_16 : decode cX12_back 16 = .ok (.iconst (-1), 1) := by decide +kernel
theorem dX12_back_17 : decode cX12_back 17 = .ok (.ireturn, 1) := by decide +kernel
theorem dX12_keys_0 : decode cX12_keys 0 = .ok (.aload_n 0, 1) := by decide +kernel
theorem dX12_keys_1 : decode cX12_keys 1 = .ok (.iload_n 1, 1) := by decide +kernel
theorem dX12_keys_2 : decode cX12_keys 2 = .ok (.invokevirtual 184, 3) := by decide +kernel
theorem dX12_keys_5 : decode cX12_keys 5 = .ok (.ifCond .eq 19, 3) := by decide +kernel
theorem dX12_keys_24 : decode cX12_keys 24 = .ok (.bipush (-2), 2) := by decide +kernel
theorem dX12_keys_26 : decode cX12_keys 26 = .ok (.ireturn, 1) := by decide +kernel
theorem dX12_after_0 : decode cX12_after 0 = .ok (.aload_n 0, 1) := by decide +kernel
theorem dX12_after_1 : decode cX12_after 1 = .ok (.iload_n 1, 1) := by decide +kernel
theorem dX12_after_2 : decode cX12_after 2 = .ok (.invokevirtual 184, 3) := by decide +kernel
theorem dX12_after_5 : decode cX12_after 5 = .ok (.ifCond .eq 11, 3) := by decide +kernel
theorem dX12_after_16 : decode cX12_after 16 = .ok (.bipush (-2), 2) := by decide +kernel
theorem dX12_after_18 : decode cX12_after 18 = .ok (.ireturn, 1) := by decide +kernel
theorem dX12_odds_0 : decode cX12_odds 0 = .ok (.aload_n 0, 1) := by decide +kernel
theorem dX12_odds_1 : decode cX12_odds 1 = .ok (.iload_n 1, 1) := by decide +kernel
theorem dX12_odds_2 : decode cX12_odds 2 = .ok (.invokevirtual 184, 3) := by decide +kernel
theorem dX12_odds_5 : decode cX12_odds 5 = .ok (.ifCond .eq 35, 3) := by decide +kernel
theorem dX12_odds_40 : decode cX12_odds 40 = .ok (.iconst (-1), 1) := by decide +kernel
theorem dX12_odds_41 : decode cX12_odds 41 = .ok (.ireturn, 1) := by decide +kernel
theorem dX12_least_0 : decode cX12_least 0 = .ok (.aload_n 0, 1) := by decide +kernel
theorem dX12_least_1 : decode cX12_least 1 = .ok (.iload_n 1, 1) := by decide +kernel
theorem dX12_least_2 : decode cX12_least 2 = .ok (.invokevirtual 184, 3) := by decide +kernel
theorem dX12_least_5 : decode cX12_least 5 = .ok (.ifCond .eq 11, 3) := by decide +kernel
theorem dX12_least_16 : decode cX12_least 16 = .ok (.iconst (-1), 1) := by decide +kernel
theorem dX12_least_17 : decode cX12_least 17 = .ok (.ireturn, 1) := by decide +kernel

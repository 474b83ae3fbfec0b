theorem zmem1 {L : List Cond} {w : Cond} (hL : ∀ w ∈ L, w ∈ lw_tbl) (i : Nat) (h : L[i]? = some w) (hg : goodWord w = true) : w ∈ zT := List.mem_filter.mpr ⟨hL w (List.mem_of_getElem? h), hg⟩
theorem zsub_1 : ∀ w ∈ tables_1_1, w ∈ lw_tbl := fun w h => List.mem_append_right _ (List.mem_append_left _ h)
theorem zsub_2 : ∀ w ∈ tables_1_2, w ∈ lw_tbl := fun w h => List.mem_append_right _ (List.mem_append_right _ (List.mem_append_left _ h))
theorem zsub_3 : ∀ w ∈ tables_1_3, w ∈ lw_tbl := fun w h => List.mem_append_right _ (List.mem_append_right _ (List.mem_append_right _ (List.mem_append_left _ h)))
theorem zsub_4 : ∀ w ∈ tables_1_4, w ∈ lw_tbl := fun w h => List.mem_append_right _ (List.mem_append_right _ (List.mem_append_right _ (List.mem_append_right _ (List.mem_append_left _ h))))
theorem zsub_5 : ∀ w ∈ tables_1_5, w ∈ lw_tbl := fun w h => List.mem_append_right _ (List.mem_append_right _ (List.mem_append_right _ (List.mem_append_right _ (List.mem_append_right _ (List.mem_append_left _ h)))))
theorem zsub_6 : ∀ w ∈ tables_1_6, w ∈ lw_tbl := fun w h => List.mem_append_right _ (List.mem_append_right _ (List.mem_append_right _ (List.mem_append_right _ (List.mem_append_right _ (List.mem_append_right _ (List.mem_append_left _ h))))))
theorem zsub_7 : ∀ w ∈ tables_1_7, w ∈ lw_tbl := fun w h => List.mem_append_right _ (List.mem_append_right _ (List.mem_append_right _ (List.mem_append_right _ (List.mem_append_right _ (List.mem_append_right _ (List.mem_append_right _ (List.mem_append_left _ h)))))))
theorem zsub_8 : ∀ w ∈ tables_1_8, w ∈ lw_tbl := fun w h => List.mem_append_right _ (List.mem_append_right _ (List.mem_append_right _ (List.mem_append_right _ (List.mem_append_right _ (List.mem_append_right _ (List.mem_append_right _ (List.mem_append_right _ h)))))))
theorem clX0 : zCl 0 RX0 TX0 10 tyX0 := ⟨rfl, zmems [472, 474, 476, 478, 480, 482, 484, 486, 488, 490] (by decide +kernel) (by decide +kernel), tyX0_ok, nmX0⟩
theorem clX1 : zCl 1 RX1 TX1 11 tyX1 := ⟨rfl, zmems [389, 391, 393, 395, 397, 399, 401, 403, 405, 407, 409] (by decide +kernel) (by decide +kernel), tyX1_ok, nmX1⟩
theorem clX2 : zCl 2 RX2 TX2 4 tyX2 := ⟨rfl, zmems [211, 213, 215, 217] (by decide +kernel) (by decide +kernel), tyX2_ok, nmX2⟩
theorem clX3 : zCl 3 RX3 TX3 8 tyX3 := ⟨rfl, zmems [512, 514, 516, 518, 520, 522, 524, 526] (by decide +kernel) (by decide +kernel), tyX3_ok, nmX3⟩
theorem clX4 : zCl 4 RX4 TX4 6 tyX4 := ⟨rfl, zmems [179, 181, 183, 185, 187, 189] (by decide +kernel) (by decide +kernel), tyX4_ok, nmX4⟩
theorem clX5 : zCl 5 RX5 TX5 3 tyX5 := ⟨rfl, zmems [234, 236, 238] (by decide +kernel) (by decide +kernel), tyX5_ok, nmX5⟩
theorem clX6 : zCl 6 RX6 TX6 6 tyX6 := ⟨rfl, zmems [352, 354, 356, 358, 360, 362] (by decide +kernel) (by decide +kernel), tyX6_ok, nmX6⟩
theorem clX7 : zCl 7 RX7 TX7 13 tyX7 := ⟨rfl, zmems [302, 304, 306, 308, 310, 312, 314, 316, 318, 320, 322, 324, 326] (by decide +kernel) (by decide +kernel), tyX7_ok, nmX7⟩
theorem clX9 : zCl 8 RX9 TX9 8 tyX9 := ⟨rfl, zmems [254, 256, 258, 260, 262, 264, 266, 268] (by decide +kernel) (by decide +kernel), tyX9_ok, nmX9⟩
theorem clX10 : zCl 9 RX10 TX10 8 tyX10 := ⟨rfl, zmems [433, 435, 437, 439, 441, 443, 445, 447] (by decide +kernel) (by decide +kernel), tyX10_ok, nmX10⟩
theorem clX11 : zCl 10 RX11 TX11 11 tyX11 := ⟨rfl, zmems [540, 542, 544, 546, 548, 550, 552, 554, 556, 558, 560] (by decide +kernel) (by decide +kernel), tyX11_ok, nmX11⟩
theorem clX12 : zCl 11 RX12 TX12 43 tyX12 := ⟨rfl, zmems [1351, 1353, 1355, 1357, 1359, 1361, 1363, 1365, 1367, 1369, 1371, 1373, 1375, 1377, 1379, 1381, 1383, 1385, 1387, 1389, 1391, 1393, 1395, 1397, 1399, 1401, 1403, 1405, 1407, 1409, 1411, 1413, 1415, 1417, 1419, 1421, 1423, 1425, 1427, 1429, 1431, 1433, 1435] (by decide +kernel) (by decide +kernel), tyX12_ok, nmX12⟩
theorem z_uint {s : State} : ∀ x y : ClassId, va_RA s x .int → va_RA s y .int → x = y := fun x y h1 h2 => Option.some.inj (h1.symm.trans h2)
theorem z_ubyte {s : State} : ∀ x y : ClassId, va_RA s x .byte → va_RA s y .byte → x = y := fun x y h1 h2 => Option.some.inj (h1.symm.trans h2)
theorem z_uboolean {s : State} : ∀ x y : ClassId, va_RA s x .boolean → va_RA s y .boolean → x = y := fun x y h1 h2 => Option.some.inj (h1.symm.trans h2)
theorem m_im_obj : Cond.instanceMethod objectInit ∈ zT := zmem 139 (by decide +kernel) (by decide +kernel)
theorem m_co_obj : Cond.code objectInit ⟨#[0xb1]⟩ 1 none ∈ zT := zmem 140 (by decide +kernel) (by decide +kernel)


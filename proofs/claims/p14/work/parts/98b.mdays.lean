abbrev zMD (f : Nat → Int32) (d : Int32) : Prop := (d.toInt = 712 ∨ d.toInt = 833) ∧ 0 ≤ (f d.toNatClampNeg).toInt ∧ (f d.toNatClampNeg).toInt ≤ 40
abbrev zMG (f : Nat → Int32) (d : Int32) : Prop := (d.toInt = 954 ∨ d.toInt = 971) ∧ 0 ≤ (f d.toNatClampNeg).toInt ∧ (f d.toNatClampNeg).toInt ≤ 8
set_option maxHeartbeats 4000000 in
set_option maxRecDepth 100000 in
/-- c_m_isDay -/
theorem c_m_isDay (l : Launch) (T : zTy) (mo : Nat) (m_all : Nat) (m_has : Nat) (i_size : Int32) (i_next : Int32) (i_where : Int32) (i_token : Int32) (i_number : Int32) (i_word : Int32) (i_wrong : Int32) (i_farCrossing : Int32) (m_read : Nat) (i_z0 : Int32) (i_crossings : Int32) (i_inns : Int32) (m_posts : Nat) (m_shut : Nat) (m_here : Nat) (i_steps : Int32) (i_done : Int32) (i_at : Int32) (i_gone : Int32) (m_was : Nat) (m_came : Nat) (m_seenAt : Nat) (m_rowWorth : Nat) (m_farBy : Nat) (m_used : Nat) (i_everywhere : Int32) (i_again0 : Int32) (i_d0 : Int32) (i_never : Int32) (i_firstCame : Int32) (i_longRun : Int32) (i_moved : Int32) (i_crowd : Int32) (i_l0 : Int32) (i_fitMany : Int32) (i_fitLeast : Int32) (i_fitMost : Int32) (m_fitPost : Nat) (m_fitEnd : Nat) (m_keptPosts : Nat) (i_x0 : Int32) (f_all : Nat → Int32) (k_ : Int32) (hB : zBI f_all) : zMi l T yX12_isDay cX12_isDay 2 (some .boolean) 3 0 0 [.ref mo, .int k_] [[zO11 mo m_all m_has i_size i_next i_where i_token i_number i_word i_wrong i_farCrossing m_read i_z0 i_crossings i_inns m_posts m_shut m_here i_steps i_done i_at i_gone m_was m_came m_seenAt m_rowWorth m_farBy m_used i_everywhere i_again0 i_d0 i_never i_firstCame i_longRun i_moved i_crowd i_l0 i_fitMany i_fitLeast i_fitMost m_fitPost m_fitEnd m_keptPosts i_x0], [zAr T 0 m_all 3952 f_all]] (fun (r : Int32) bs => ∃ (j_d0 : Int32), bs = [[zO11 mo m_all m_has i_size i_next i_where i_token i_number i_word i_wrong i_farCrossing m_read i_z0 i_crossings i_inns m_posts m_shut m_here i_steps i_done i_at i_gone m_was m_came m_seenAt m_rowWorth m_farBy m_used i_everywhere i_again0 j_d0 i_never i_firstCame i_longRun i_moved i_crowd i_l0 i_fitMany i_fitLeast i_fitMost m_fitPost m_fitEnd m_keptPosts i_x0], [zAr T 0 m_all 3952 f_all]] ∧ ((r = 1 ∧ 0 ≤ k_.toInt ∧ k_.toInt < (f_all 1).toInt ∧ j_d0.toInt = 712 + 121 * k_.toInt ∧ zMD f_all j_d0) ∨ (r = 0 ∧ (k_.toInt < 0 ∨ (f_all 1).toInt ≤ k_.toInt)))) := by
  refine zMi_of (own := RX12) (by decide) rfl (Nat.le_of_ble_eq_true rfl) ?_
  intro p e s m args below meth c A ls C hr hlocks hnm hAe G hl
  refine zHide (fun Qz_ hQz_ => ?_)
  have hx := C.1
  have hb := C.2.1
  have hl : lv_has ls 2 [(0, .ref mo), (1, .int k_)] := hl
  have hB0 := hB.2.1 1 (by decide)
  refine lv_aload_n hx hb dX12_isDay_0 rfl (lv_at hl 0 rfl) ?_
  refine lv_iconst (v := 1) hx hb dX12_isDay_1 (by decide) ?_
  refine lv_iload_n hx hb dX12_isDay_2 rfl (lv_at hl 1 rfl) ?_
  refine z_Vi (bc := [[zO11 mo m_all m_has i_size i_next i_where i_token i_number i_word i_wrong i_farCrossing m_read i_z0 i_crossings i_inns m_posts m_shut m_here i_steps i_done i_at i_gone m_was m_came m_seenAt m_rowWorth m_farBy m_used i_everywhere i_again0 i_d0 i_never i_firstCame i_longRun i_moved i_crowd i_l0 i_fitMany i_fitLeast i_fitMost m_fitPost m_fitEnd m_keptPosts i_x0], [zAr T 0 m_all 3952 f_all]]) (br := []) (As := [.int 1, .int k_]) (rest := []) C G (c_m_isOf1 l T mo m_all m_has i_size i_next i_where i_token i_number i_word i_wrong i_farCrossing m_read i_z0 i_crossings i_inns m_posts m_shut m_here i_steps i_done i_at i_gone m_was m_came m_seenAt m_rowWorth m_farBy m_used i_everywhere i_again0 i_d0 i_never i_firstCame i_longRun i_moved i_crowd i_l0 i_fitMany i_fitLeast i_fitMost m_fitPost m_fitEnd m_keptPosts i_x0 f_all k_ hB0) (kV_RX12_143 C.2.2.2.2 (Nat.le_of_ble_eq_true rfl) (Nat.le_of_ble_eq_true rfl)) [0, 1] [0, 0] rfl rfl (ci := 11) (qc := (RX12, TX12, 43)) rfl rfl (List.mem_flatten.mpr ⟨_, List.mem_of_getElem? (i := 0) rfl, List.mem_cons_self⟩) rfl rfl hl.1 dX12_isDay_3 (Nat.le_of_ble_eq_true rfl) (Nat.le_of_ble_eq_true rfl) (fun r_2 b1 H locs hw G => ?_)
  refine zAn2 hw ?_
  intro hbs9 hc_1
  clear hw
  subst hbs9
  have G : zS T A s.heap s [[zO11 mo m_all m_has i_size i_next i_where i_token i_number i_word i_wrong i_farCrossing m_read i_z0 i_crossings i_inns m_posts m_shut m_here i_steps i_done i_at i_gone m_was m_came m_seenAt m_rowWorth m_farBy m_used i_everywhere i_again0 i_d0 i_never i_firstCame i_longRun i_moved i_crowd i_l0 i_fitMany i_fitLeast i_fitMost m_fitPost m_fitEnd m_keptPosts i_x0], [zAr T 0 m_all 3952 f_all]] _ _ := G
  rcases hc_1 with ⟨rfl, h_3, h_4⟩ | ⟨rfl, h_5⟩
  · have h_3 : 0 ≤ k_.toInt := h_3
    have h_4 : k_.toInt < (f_all 1).toInt := h_4
    refine lv_if_ne (tgt := 11) hx hb dX12_isDay_6 (by decide) (fun _ => ?_) (fun q => absurd q (by decide))
    rcases (show k_.toInt = 0 ∨ k_.toInt = 1 from by omega) with hk | hk
    · obtain rfl : k_ = 0 := Int32.toInt_inj.mp hk
      refine lv_aload_n hx hb dX12_isDay_11 rfl (lv_at hl 0 rfl) ?_
      refine lv_iconst (v := 1) hx hb dX12_isDay_12 (by decide) ?_
      refine lv_iload_n hx hb dX12_isDay_13 rfl (lv_at hl 1 rfl) ?_
      refine z_Si (bc := []) (br := [[zO11 mo m_all m_has i_size i_next i_where i_token i_number i_word i_wrong i_farCrossing m_read i_z0 i_crossings i_inns m_posts m_shut m_here i_steps i_done i_at i_gone m_was m_came m_seenAt m_rowWorth m_farBy m_used i_everywhere i_again0 i_d0 i_never i_firstCame i_longRun i_moved i_crowd i_l0 i_fitMany i_fitLeast i_fitMost m_fitPost m_fitEnd m_keptPosts i_x0], [zAr T 0 m_all 3952 f_all]]) (As := [.int 1, .int 0]) (rest := [.ref mo]) C G (c_m_placeOf10 l T) (kS_RX12_163 C.2.2.2.2 (Nat.le_of_ble_eq_true rfl) (Nat.le_of_ble_eq_true rfl)) [] [] rfl rfl rfl rfl hl.1 dX12_isDay_14 (Nat.le_of_ble_eq_true rfl) (Nat.le_of_ble_eq_true rfl) (fun r_7 b1 H locs hw G => ?_)
      refine zAn2 hw ?_
      intro hbs9 h_6
      clear hw
      subst hbs9
      have G : zS T A s.heap s [[zO11 mo m_all m_has i_size i_next i_where i_token i_number i_word i_wrong i_farCrossing m_read i_z0 i_crossings i_inns m_posts m_shut m_here i_steps i_done i_at i_gone m_was m_came m_seenAt m_rowWorth m_farBy m_used i_everywhere i_again0 i_d0 i_never i_firstCame i_longRun i_moved i_crowd i_l0 i_fitMany i_fitLeast i_fitMost m_fitPost m_fitEnd m_keptPosts i_x0], [zAr T 0 m_all 3952 f_all]] _ _ := G
      subst h_6
      refine z_put C G clX12 0 rfl 29 (by decide) m_fl_RX12_302 rfl rfl rfl (Nat.le_of_ble_eq_true rfl) dX12_isDay_17 (fun H locs G => ?_)
      have G : zS T A s.heap s [[zO11 mo m_all m_has i_size i_next i_where i_token i_number i_word i_wrong i_farCrossing m_read i_z0 i_crossings i_inns m_posts m_shut m_here i_steps i_done i_at i_gone m_was m_came m_seenAt m_rowWorth m_farBy m_used i_everywhere i_again0 712 i_never i_firstCame i_longRun i_moved i_crowd i_l0 i_fitMany i_fitLeast i_fitMost m_fitPost m_fitEnd m_keptPosts i_x0], [zAr T 0 m_all 3952 f_all]] _ _ := G
      refine lv_iconst (v := 1) hx hb dX12_isDay_20 (by decide) ?_
      exact z_back hQz_ (z_zret C hr hlocks G (Nat.le_of_ble_eq_true rfl) (Nat.le_of_ble_eq_true rfl) dX12_isDay_21 rfl ⟨712, rfl, (Or.inl (⟨rfl, (by decide), (by first | with_reducible assumption | omega | assumption), (by decide), ⟨by decide, hB.2.2.2.1 0 (by decide)⟩⟩))⟩)
    · obtain rfl : k_ = 1 := Int32.toInt_inj.mp hk
      refine lv_aload_n hx hb dX12_isDay_11 rfl (lv_at hl 0 rfl) ?_
      refine lv_iconst (v := 1) hx hb dX12_isDay_12 (by decide) ?_
      refine lv_iload_n hx hb dX12_isDay_13 rfl (lv_at hl 1 rfl) ?_
      refine z_Si (bc := []) (br := [[zO11 mo m_all m_has i_size i_next i_where i_token i_number i_word i_wrong i_farCrossing m_read i_z0 i_crossings i_inns m_posts m_shut m_here i_steps i_done i_at i_gone m_was m_came m_seenAt m_rowWorth m_farBy m_used i_everywhere i_again0 i_d0 i_never i_firstCame i_longRun i_moved i_crowd i_l0 i_fitMany i_fitLeast i_fitMost m_fitPost m_fitEnd m_keptPosts i_x0], [zAr T 0 m_all 3952 f_all]]) (As := [.int 1, .int 1]) (rest := [.ref mo]) C G (c_m_placeOf11 l T) (kS_RX12_163 C.2.2.2.2 (Nat.le_of_ble_eq_true rfl) (Nat.le_of_ble_eq_true rfl)) [] [] rfl rfl rfl rfl hl.1 dX12_isDay_14 (Nat.le_of_ble_eq_true rfl) (Nat.le_of_ble_eq_true rfl) (fun r_9 b1 H locs hw G => ?_)
      refine zAn2 hw ?_
      intro hbs9 h_8
      clear hw
      subst hbs9
      have G : zS T A s.heap s [[zO11 mo m_all m_has i_size i_next i_where i_token i_number i_word i_wrong i_farCrossing m_read i_z0 i_crossings i_inns m_posts m_shut m_here i_steps i_done i_at i_gone m_was m_came m_seenAt m_rowWorth m_farBy m_used i_everywhere i_again0 i_d0 i_never i_firstCame i_longRun i_moved i_crowd i_l0 i_fitMany i_fitLeast i_fitMost m_fitPost m_fitEnd m_keptPosts i_x0], [zAr T 0 m_all 3952 f_all]] _ _ := G
      subst h_8
      refine z_put C G clX12 0 rfl 29 (by decide) m_fl_RX12_302 rfl rfl rfl (Nat.le_of_ble_eq_true rfl) dX12_isDay_17 (fun H locs G => ?_)
      have G : zS T A s.heap s [[zO11 mo m_all m_has i_size i_next i_where i_token i_number i_word i_wrong i_farCrossing m_read i_z0 i_crossings i_inns m_posts m_shut m_here i_steps i_done i_at i_gone m_was m_came m_seenAt m_rowWorth m_farBy m_used i_everywhere i_again0 833 i_never i_firstCame i_longRun i_moved i_crowd i_l0 i_fitMany i_fitLeast i_fitMost m_fitPost m_fitEnd m_keptPosts i_x0], [zAr T 0 m_all 3952 f_all]] _ _ := G
      refine lv_iconst (v := 1) hx hb dX12_isDay_20 (by decide) ?_
      exact z_back hQz_ (z_zret C hr hlocks G (Nat.le_of_ble_eq_true rfl) (Nat.le_of_ble_eq_true rfl) dX12_isDay_21 rfl ⟨833, rfl, (Or.inl (⟨rfl, (by decide), (by first | with_reducible assumption | omega | assumption), (by decide), ⟨by decide, hB.2.2.2.1 1 (by decide)⟩⟩))⟩)
  · have h_5 : (k_.toInt < 0 ∨ (f_all 1).toInt ≤ k_.toInt) := h_5
    refine lv_if_ne (tgt := 11) hx hb dX12_isDay_6 (by decide) (fun q => absurd (by decide) q) (fun _ => ?_)
    refine lv_iconst (v := 0) hx hb dX12_isDay_9 (by decide) ?_
    exact z_back hQz_ (z_zret C hr hlocks G (Nat.le_of_ble_eq_true rfl) (Nat.le_of_ble_eq_true rfl) dX12_isDay_10 rfl ⟨i_d0, rfl, (Or.inr (⟨rfl, (by first | with_reducible assumption | omega | assumption)⟩))⟩)
set_option maxHeartbeats 4000000 in
set_option maxRecDepth 100000 in
/-- c_m_isLog -/
theorem c_m_isLog (l : Launch) (T : zTy) (mo : Nat) (m_all : Nat) (m_has : Nat) (i_size : Int32) (i_next : Int32) (i_where : Int32) (i_token : Int32) (i_number : Int32) (i_word : Int32) (i_wrong : Int32) (i_farCrossing : Int32) (m_read : Nat) (i_z0 : Int32) (i_crossings : Int32) (i_inns : Int32) (m_posts : Nat) (m_shut : Nat) (m_here : Nat) (i_steps : Int32) (i_done : Int32) (i_at : Int32) (i_gone : Int32) (m_was : Nat) (m_came : Nat) (m_seenAt : Nat) (m_rowWorth : Nat) (m_farBy : Nat) (m_used : Nat) (i_everywhere : Int32) (i_again0 : Int32) (i_d0 : Int32) (i_never : Int32) (i_firstCame : Int32) (i_longRun : Int32) (i_moved : Int32) (i_crowd : Int32) (i_l0 : Int32) (i_fitMany : Int32) (i_fitLeast : Int32) (i_fitMost : Int32) (m_fitPost : Nat) (m_fitEnd : Nat) (m_keptPosts : Nat) (i_x0 : Int32) (f_all : Nat → Int32) (k_ : Int32) (hB : zBI f_all) : zMi l T yX12_isLog cX12_isLog 2 (some .boolean) 3 0 0 [.ref mo, .int k_] [[zO11 mo m_all m_has i_size i_next i_where i_token i_number i_word i_wrong i_farCrossing m_read i_z0 i_crossings i_inns m_posts m_shut m_here i_steps i_done i_at i_gone m_was m_came m_seenAt m_rowWorth m_farBy m_used i_everywhere i_again0 i_d0 i_never i_firstCame i_longRun i_moved i_crowd i_l0 i_fitMany i_fitLeast i_fitMost m_fitPost m_fitEnd m_keptPosts i_x0], [zAr T 0 m_all 3952 f_all]] (fun (r : Int32) bs => ∃ (j_l0 : Int32), bs = [[zO11 mo m_all m_has i_size i_next i_where i_token i_number i_word i_wrong i_farCrossing m_read i_z0 i_crossings i_inns m_posts m_shut m_here i_steps i_done i_at i_gone m_was m_came m_seenAt m_rowWorth m_farBy m_used i_everywhere i_again0 i_d0 i_never i_firstCame i_longRun i_moved i_crowd j_l0 i_fitMany i_fitLeast i_fitMost m_fitPost m_fitEnd m_keptPosts i_x0], [zAr T 0 m_all 3952 f_all]] ∧ ((r = 1 ∧ 0 ≤ k_.toInt ∧ k_.toInt < (f_all 2).toInt ∧ j_l0.toInt = 954 + 17 * k_.toInt ∧ zMG f_all j_l0) ∨ (r = 0 ∧ (k_.toInt < 0 ∨ (f_all 2).toInt ≤ k_.toInt)))) := by
  refine zMi_of (own := RX12) (by decide) rfl (Nat.le_of_ble_eq_true rfl) ?_
  intro p e s m args below meth c A ls C hr hlocks hnm hAe G hl
  refine zHide (fun Qz_ hQz_ => ?_)
  have hx := C.1
  have hb := C.2.1
  have hl : lv_has ls 2 [(0, .ref mo), (1, .int k_)] := hl
  have hB0 := hB.2.1 2 (by decide)
  refine lv_aload_n hx hb dX12_isLog_0 rfl (lv_at hl 0 rfl) ?_
  refine lv_iconst (v := 2) hx hb dX12_isLog_1 (by decide) ?_
  refine lv_iload_n hx hb dX12_isLog_2 rfl (lv_at hl 1 rfl) ?_
  refine z_Vi (bc := [[zO11 mo m_all m_has i_size i_next i_where i_token i_number i_word i_wrong i_farCrossing m_read i_z0 i_crossings i_inns m_posts m_shut m_here i_steps i_done i_at i_gone m_was m_came m_seenAt m_rowWorth m_farBy m_used i_everywhere i_again0 i_d0 i_never i_firstCame i_longRun i_moved i_crowd i_l0 i_fitMany i_fitLeast i_fitMost m_fitPost m_fitEnd m_keptPosts i_x0], [zAr T 0 m_all 3952 f_all]]) (br := []) (As := [.int 2, .int k_]) (rest := []) C G (c_m_isOf2 l T mo m_all m_has i_size i_next i_where i_token i_number i_word i_wrong i_farCrossing m_read i_z0 i_crossings i_inns m_posts m_shut m_here i_steps i_done i_at i_gone m_was m_came m_seenAt m_rowWorth m_farBy m_used i_everywhere i_again0 i_d0 i_never i_firstCame i_longRun i_moved i_crowd i_l0 i_fitMany i_fitLeast i_fitMost m_fitPost m_fitEnd m_keptPosts i_x0 f_all k_ hB0) (kV_RX12_143 C.2.2.2.2 (Nat.le_of_ble_eq_true rfl) (Nat.le_of_ble_eq_true rfl)) [0, 1] [0, 0] rfl rfl (ci := 11) (qc := (RX12, TX12, 43)) rfl rfl (List.mem_flatten.mpr ⟨_, List.mem_of_getElem? (i := 0) rfl, List.mem_cons_self⟩) rfl rfl hl.1 dX12_isLog_3 (Nat.le_of_ble_eq_true rfl) (Nat.le_of_ble_eq_true rfl) (fun r_2 b1 H locs hw G => ?_)
  refine zAn2 hw ?_
  intro hbs9 hc_1
  clear hw
  subst hbs9
  have G : zS T A s.heap s [[zO11 mo m_all m_has i_size i_next i_where i_token i_number i_word i_wrong i_farCrossing m_read i_z0 i_crossings i_inns m_posts m_shut m_here i_steps i_done i_at i_gone m_was m_came m_seenAt m_rowWorth m_farBy m_used i_everywhere i_again0 i_d0 i_never i_firstCame i_longRun i_moved i_crowd i_l0 i_fitMany i_fitLeast i_fitMost m_fitPost m_fitEnd m_keptPosts i_x0], [zAr T 0 m_all 3952 f_all]] _ _ := G
  rcases hc_1 with ⟨rfl, h_3, h_4⟩ | ⟨rfl, h_5⟩
  · have h_3 : 0 ≤ k_.toInt := h_3
    have h_4 : k_.toInt < (f_all 2).toInt := h_4
    refine lv_if_ne (tgt := 11) hx hb dX12_isLog_6 (by decide) (fun _ => ?_) (fun q => absurd q (by decide))
    rcases (show k_.toInt = 0 ∨ k_.toInt = 1 from by omega) with hk | hk
    · obtain rfl : k_ = 0 := Int32.toInt_inj.mp hk
      refine lv_aload_n hx hb dX12_isLog_11 rfl (lv_at hl 0 rfl) ?_
      refine lv_iconst (v := 2) hx hb dX12_isLog_12 (by decide) ?_
      refine lv_iload_n hx hb dX12_isLog_13 rfl (lv_at hl 1 rfl) ?_
      refine z_Si (bc := []) (br := [[zO11 mo m_all m_has i_size i_next i_where i_token i_number i_word i_wrong i_farCrossing m_read i_z0 i_crossings i_inns m_posts m_shut m_here i_steps i_done i_at i_gone m_was m_came m_seenAt m_rowWorth m_farBy m_used i_everywhere i_again0 i_d0 i_never i_firstCame i_longRun i_moved i_crowd i_l0 i_fitMany i_fitLeast i_fitMost m_fitPost m_fitEnd m_keptPosts i_x0], [zAr T 0 m_all 3952 f_all]]) (As := [.int 2, .int 0]) (rest := [.ref mo]) C G (c_m_placeOf20 l T) (kS_RX12_163 C.2.2.2.2 (Nat.le_of_ble_eq_true rfl) (Nat.le_of_ble_eq_true rfl)) [] [] rfl rfl rfl rfl hl.1 dX12_isLog_14 (Nat.le_of_ble_eq_true rfl) (Nat.le_of_ble_eq_true rfl) (fun r_7 b1 H locs hw G => ?_)
      refine zAn2 hw ?_
      intro hbs9 h_6
      clear hw
      subst hbs9
      have G : zS T A s.heap s [[zO11 mo m_all m_has i_size i_next i_where i_token i_number i_word i_wrong i_farCrossing m_read i_z0 i_crossings i_inns m_posts m_shut m_here i_steps i_done i_at i_gone m_was m_came m_seenAt m_rowWorth m_farBy m_used i_everywhere i_again0 i_d0 i_never i_firstCame i_longRun i_moved i_crowd i_l0 i_fitMany i_fitLeast i_fitMost m_fitPost m_fitEnd m_keptPosts i_x0], [zAr T 0 m_all 3952 f_all]] _ _ := G
      subst h_6
      refine z_put C G clX12 0 rfl 35 (by decide) m_fl_RX12_360 rfl rfl rfl (Nat.le_of_ble_eq_true rfl) dX12_isLog_17 (fun H locs G => ?_)
      have G : zS T A s.heap s [[zO11 mo m_all m_has i_size i_next i_where i_token i_number i_word i_wrong i_farCrossing m_read i_z0 i_crossings i_inns m_posts m_shut m_here i_steps i_done i_at i_gone m_was m_came m_seenAt m_rowWorth m_farBy m_used i_everywhere i_again0 i_d0 i_never i_firstCame i_longRun i_moved i_crowd 954 i_fitMany i_fitLeast i_fitMost m_fitPost m_fitEnd m_keptPosts i_x0], [zAr T 0 m_all 3952 f_all]] _ _ := G
      refine lv_iconst (v := 1) hx hb dX12_isLog_20 (by decide) ?_
      exact z_back hQz_ (z_zret C hr hlocks G (Nat.le_of_ble_eq_true rfl) (Nat.le_of_ble_eq_true rfl) dX12_isLog_21 rfl ⟨954, rfl, (Or.inl (⟨rfl, (by decide), (by first | with_reducible assumption | omega | assumption), (by decide), ⟨by decide, hB.2.2.2.2 0 (by decide)⟩⟩))⟩)
    · obtain rfl : k_ = 1 := Int32.toInt_inj.mp hk
      refine lv_aload_n hx hb dX12_isLog_11 rfl (lv_at hl 0 rfl) ?_
      refine lv_iconst (v := 2) hx hb dX12_isLog_12 (by decide) ?_
      refine lv_iload_n hx hb dX12_isLog_13 rfl (lv_at hl 1 rfl) ?_
      refine z_Si (bc := []) (br := [[zO11 mo m_all m_has i_size i_next i_where i_token i_number i_word i_wrong i_farCrossing m_read i_z0 i_crossings i_inns m_posts m_shut m_here i_steps i_done i_at i_gone m_was m_came m_seenAt m_rowWorth m_farBy m_used i_everywhere i_again0 i_d0 i_never i_firstCame i_longRun i_moved i_crowd i_l0 i_fitMany i_fitLeast i_fitMost m_fitPost m_fitEnd m_keptPosts i_x0], [zAr T 0 m_all 3952 f_all]]) (As := [.int 2, .int 1]) (rest := [.ref mo]) C G (c_m_placeOf21 l T) (kS_RX12_163 C.2.2.2.2 (Nat.le_of_ble_eq_true rfl) (Nat.le_of_ble_eq_true rfl)) [] [] rfl rfl rfl rfl hl.1 dX12_isLog_14 (Nat.le_of_ble_eq_true rfl) (Nat.le_of_ble_eq_true rfl) (fun r_9 b1 H locs hw G => ?_)
      refine zAn2 hw ?_
      intro hbs9 h_8
      clear hw
      subst hbs9
      have G : zS T A s.heap s [[zO11 mo m_all m_has i_size i_next i_where i_token i_number i_word i_wrong i_farCrossing m_read i_z0 i_crossings i_inns m_posts m_shut m_here i_steps i_done i_at i_gone m_was m_came m_seenAt m_rowWorth m_farBy m_used i_everywhere i_again0 i_d0 i_never i_firstCame i_longRun i_moved i_crowd i_l0 i_fitMany i_fitLeast i_fitMost m_fitPost m_fitEnd m_keptPosts i_x0], [zAr T 0 m_all 3952 f_all]] _ _ := G
      subst h_8
      refine z_put C G clX12 0 rfl 35 (by decide) m_fl_RX12_360 rfl rfl rfl (Nat.le_of_ble_eq_true rfl) dX12_isLog_17 (fun H locs G => ?_)
      have G : zS T A s.heap s [[zO11 mo m_all m_has i_size i_next i_where i_token i_number i_word i_wrong i_farCrossing m_read i_z0 i_crossings i_inns m_posts m_shut m_here i_steps i_done i_at i_gone m_was m_came m_seenAt m_rowWorth m_farBy m_used i_everywhere i_again0 i_d0 i_never i_firstCame i_longRun i_moved i_crowd 971 i_fitMany i_fitLeast i_fitMost m_fitPost m_fitEnd m_keptPosts i_x0], [zAr T 0 m_all 3952 f_all]] _ _ := G
      refine lv_iconst (v := 1) hx hb dX12_isLog_20 (by decide) ?_
      exact z_back hQz_ (z_zret C hr hlocks G (Nat.le_of_ble_eq_true rfl) (Nat.le_of_ble_eq_true rfl) dX12_isLog_21 rfl ⟨971, rfl, (Or.inl (⟨rfl, (by decide), (by first | with_reducible assumption | omega | assumption), (by decide), ⟨by decide, hB.2.2.2.2 1 (by decide)⟩⟩))⟩)
  · have h_5 : (k_.toInt < 0 ∨ (f_all 2).toInt ≤ k_.toInt) := h_5
    refine lv_if_ne (tgt := 11) hx hb dX12_isLog_6 (by decide) (fun q => absurd (by decide) q) (fun _ => ?_)
    refine lv_iconst (v := 0) hx hb dX12_isLog_9 (by decide) ?_
    exact z_back hQz_ (z_zret C hr hlocks G (Nat.le_of_ble_eq_true rfl) (Nat.le_of_ble_eq_true rfl) dX12_isLog_10 rfl ⟨i_l0, rfl, (Or.inr (⟨rfl, (by first | with_reducible assumption | omega | assumption)⟩))⟩)
set_option maxHeartbeats 4000000 in
set_option maxRecDepth 100000 in
/-- c_m_deed -/
theorem c_m_deed (l : Launch) (T : zTy) (mo : Nat) (m_all : Nat) (m_has : Nat) (i_size : Int32) (i_next : Int32) (i_where : Int32) (i_token : Int32) (i_number : Int32) (i_word : Int32) (i_wrong : Int32) (i_farCrossing : Int32) (m_read : Nat) (i_z0 : Int32) (i_crossings : Int32) (i_inns : Int32) (m_posts : Nat) (m_shut : Nat) (m_here : Nat) (i_steps : Int32) (i_done : Int32) (i_at : Int32) (i_gone : Int32) (m_was : Nat) (m_came : Nat) (m_seenAt : Nat) (m_rowWorth : Nat) (m_farBy : Nat) (m_used : Nat) (i_everywhere : Int32) (i_again0 : Int32) (i_d0 : Int32) (i_never : Int32) (i_firstCame : Int32) (i_longRun : Int32) (i_moved : Int32) (i_crowd : Int32) (i_l0 : Int32) (i_fitMany : Int32) (i_fitLeast : Int32) (i_fitMost : Int32) (m_fitPost : Nat) (m_fitEnd : Nat) (m_keptPosts : Nat) (i_x0 : Int32) (f_all : Nat → Int32) (k_ : Int32) (i_ : Int32) (w_ : Int32) (hB : zBI f_all) : zMi l T yX12_deed cX12_deed 4 (some .int) 4 0 0 [.ref mo, .int k_, .int i_, .int w_] [[zO11 mo m_all m_has i_size i_next i_where i_token i_number i_word i_wrong i_farCrossing m_read i_z0 i_crossings i_inns m_posts m_shut m_here i_steps i_done i_at i_gone m_was m_came m_seenAt m_rowWorth m_farBy m_used i_everywhere i_again0 i_d0 i_never i_firstCame i_longRun i_moved i_crowd i_l0 i_fitMany i_fitLeast i_fitMost m_fitPost m_fitEnd m_keptPosts i_x0], [zAr T 0 m_all 3952 f_all]] (fun (r : Int32) bs => ∃ (j_d0 : Int32), bs = [[zO11 mo m_all m_has i_size i_next i_where i_token i_number i_word i_wrong i_farCrossing m_read i_z0 i_crossings i_inns m_posts m_shut m_here i_steps i_done i_at i_gone m_was m_came m_seenAt m_rowWorth m_farBy m_used i_everywhere i_again0 j_d0 i_never i_firstCame i_longRun i_moved i_crowd i_l0 i_fitMany i_fitLeast i_fitMost m_fitPost m_fitEnd m_keptPosts i_x0], [zAr T 0 m_all 3952 f_all]]) := by
  refine zMi_of (own := RX12) (by decide) rfl (Nat.le_of_ble_eq_true rfl) ?_
  intro p e s m args below meth c A ls C hr hlocks hnm hAe G hl
  refine zHide (fun Qz_ hQz_ => ?_)
  have hx := C.1
  have hb := C.2.1
  have hl : lv_has ls 4 [(0, .ref mo), (1, .int k_), (2, .int i_), (3, .int w_)] := hl
  refine lv_aload_n hx hb dX12_deed_0 rfl (lv_at hl 0 rfl) ?_
  refine lv_iload_n hx hb dX12_deed_1 rfl (lv_at hl 1 rfl) ?_
  refine z_Vi (bc := [[zO11 mo m_all m_has i_size i_next i_where i_token i_number i_word i_wrong i_farCrossing m_read i_z0 i_crossings i_inns m_posts m_shut m_here i_steps i_done i_at i_gone m_was m_came m_seenAt m_rowWorth m_farBy m_used i_everywhere i_again0 i_d0 i_never i_firstCame i_longRun i_moved i_crowd i_l0 i_fitMany i_fitLeast i_fitMost m_fitPost m_fitEnd m_keptPosts i_x0], [zAr T 0 m_all 3952 f_all]]) (br := []) (As := [.int k_]) (rest := []) C G (c_m_isDay l T mo m_all m_has i_size i_next i_where i_token i_number i_word i_wrong i_farCrossing m_read i_z0 i_crossings i_inns m_posts m_shut m_here i_steps i_done i_at i_gone m_was m_came m_seenAt m_rowWorth m_farBy m_used i_everywhere i_again0 i_d0 i_never i_firstCame i_longRun i_moved i_crowd i_l0 i_fitMany i_fitLeast i_fitMost m_fitPost m_fitEnd m_keptPosts i_x0 f_all k_ (by first | with_reducible assumption | with_reducible rfl | omega | assumption | rfl | decide)) (kV_RX12_305 C.2.2.2.2 (Nat.le_of_ble_eq_true rfl) (Nat.le_of_ble_eq_true rfl)) [0, 1] [0, 0] rfl rfl (ci := 11) (qc := (RX12, TX12, 43)) rfl rfl (List.mem_flatten.mpr ⟨_, List.mem_of_getElem? (i := 0) rfl, List.mem_cons_self⟩) rfl rfl hl.1 dX12_deed_2 (Nat.le_of_ble_eq_true rfl) (Nat.le_of_ble_eq_true rfl) (fun r_3 b1 H locs hw G => ?_)
  refine zEx1 hw ?_
  intro j_d0_1
  refine zCu2 ?_
  intro hbs9 hc_2
  clear hw
  subst hbs9
  have G : zS T A s.heap s [[zO11 mo m_all m_has i_size i_next i_where i_token i_number i_word i_wrong i_farCrossing m_read i_z0 i_crossings i_inns m_posts m_shut m_here i_steps i_done i_at i_gone m_was m_came m_seenAt m_rowWorth m_farBy m_used i_everywhere i_again0 j_d0_1 i_never i_firstCame i_longRun i_moved i_crowd i_l0 i_fitMany i_fitLeast i_fitMost m_fitPost m_fitEnd m_keptPosts i_x0], [zAr T 0 m_all 3952 f_all]] _ _ := G
  rcases hc_2 with ⟨rfl, h_4, h_5, h_6, h_7⟩ | ⟨rfl, h_8⟩
  · have h_4 : 0 ≤ k_.toInt := h_4
    have h_5 : k_.toInt < (f_all 1).toInt := h_5
    have h_6 : j_d0_1.toInt = 712 + 121 * k_.toInt := h_6
    have h_7 : zMD f_all j_d0_1 := h_7
    have hD := h_7
    have hDa := hD.1
    have hDb := hD.2
    refine lv_if_ne (tgt := 11) hx hb dX12_deed_5 (by decide) (fun _ => ?_) (fun q => absurd q (by decide))
    refine lv_iload_n hx hb dX12_deed_11 rfl (lv_at hl 2 rfl) ?_
    refine lv_iconst (v := (-1)) hx hb dX12_deed_12 (by decide) ?_
    refine lv_icmp_ne (tgt := 35) hx hb dX12_deed_13 (by decide) (fun c_9 => ?_) (fun c_9 => ?_)
    · have c_9n : ¬ i_.toInt = (-1 : Int) := fun q => c_9 ((fa_eq _ _).mpr q)
      refine lv_iload_n hx hb dX12_deed_35 rfl (lv_at hl 2 rfl) ?_
      refine lv_iconst (v := 0) hx hb dX12_deed_36 (by decide) ?_
      refine lv_aload_n hx hb dX12_deed_37 rfl (lv_at hl 0 rfl) ?_
      refine z_get C G clX12 0 rfl 0 (by decide) m_fl_RX12_7 rfl dX12_deed_38 ?_
      refine lv_aload_n hx hb dX12_deed_41 rfl (lv_at hl 0 rfl) ?_
      refine z_get C G clX12 0 rfl 29 (by decide) m_fl_RX12_302 rfl dX12_deed_42 ?_
      refine z_ild C G 1 rfl (vp_in_iff.mpr ⟨by omega, by omega⟩) dX12_deed_45 ?_
      refine lv_topi (fun v_10 ev_10 => ?_)
      subst ev_10
      refine lv_iconst (v := 1) hx hb dX12_deed_46 (by decide) ?_
      refine lv_isub hx hb dX12_deed_47 ?_
      refine lv_topi (fun y_11 ey_11 => ?_)
      have ey_11i : y_11.toInt = (f_all j_d0_1.toNatClampNeg).toInt - (1 : Int) := by rw [ey_11]; exact z_isubI (x := (f_all j_d0_1.toNatClampNeg)) (y := (1 : Int32)) (by show -2147483648 ≤ (f_all j_d0_1.toNatClampNeg).toInt - (1 : Int); omega) (by show (f_all j_d0_1.toNatClampNeg).toInt - (1 : Int) < 2147483648; omega)
      refine z_Si (bc := []) (br := [[zO11 mo m_all m_has i_size i_next i_where i_token i_number i_word i_wrong i_farCrossing m_read i_z0 i_crossings i_inns m_posts m_shut m_here i_steps i_done i_at i_gone m_was m_came m_seenAt m_rowWorth m_farBy m_used i_everywhere i_again0 j_d0_1 i_never i_firstCame i_longRun i_moved i_crowd i_l0 i_fitMany i_fitLeast i_fitMost m_fitPost m_fitEnd m_keptPosts i_x0], [zAr T 0 m_all 3952 f_all]]) (As := [.int i_, .int 0, .int y_11]) (rest := []) C G (c_m_isIn l T i_ 0 y_11) (kS_RX12_111 C.2.2.2.2 (Nat.le_of_ble_eq_true rfl) (Nat.le_of_ble_eq_true rfl)) [] [] rfl rfl rfl rfl hl.1 dX12_deed_48 (Nat.le_of_ble_eq_true rfl) (Nat.le_of_ble_eq_true rfl) (fun r_13 b1 H locs hw G => ?_)
      refine zAn2 hw ?_
      intro hbs9 hc_12
      clear hw
      subst hbs9
      have G : zS T A s.heap s [[zO11 mo m_all m_has i_size i_next i_where i_token i_number i_word i_wrong i_farCrossing m_read i_z0 i_crossings i_inns m_posts m_shut m_here i_steps i_done i_at i_gone m_was m_came m_seenAt m_rowWorth m_farBy m_used i_everywhere i_again0 j_d0_1 i_never i_firstCame i_longRun i_moved i_crowd i_l0 i_fitMany i_fitLeast i_fitMost m_fitPost m_fitEnd m_keptPosts i_x0], [zAr T 0 m_all 3952 f_all]] _ _ := G
      rcases hc_12 with ⟨rfl, h_14, h_15⟩ | ⟨rfl, h_16⟩
      · have h_14 : (0 : Int) ≤ i_.toInt := h_14
        have h_15 : i_.toInt ≤ y_11.toInt := h_15
        refine lv_if_eq (tgt := 83) hx hb dX12_deed_51 (by decide) (fun q => absurd q (by decide)) (fun _ => ?_)
        refine lv_iload_n hx hb dX12_deed_54 rfl (lv_at hl 3 rfl) ?_
        refine lv_iconst (v := 0) hx hb dX12_deed_55 (by decide) ?_
        refine lv_iconst (v := 2) hx hb dX12_deed_56 (by decide) ?_
        refine z_Si (bc := []) (br := [[zO11 mo m_all m_has i_size i_next i_where i_token i_number i_word i_wrong i_farCrossing m_read i_z0 i_crossings i_inns m_posts m_shut m_here i_steps i_done i_at i_gone m_was m_came m_seenAt m_rowWorth m_farBy m_used i_everywhere i_again0 j_d0_1 i_never i_firstCame i_longRun i_moved i_crowd i_l0 i_fitMany i_fitLeast i_fitMost m_fitPost m_fitEnd m_keptPosts i_x0], [zAr T 0 m_all 3952 f_all]]) (As := [.int w_, .int 0, .int 2]) (rest := []) C G (c_m_isIn l T w_ 0 2) (kS_RX12_111 C.2.2.2.2 (Nat.le_of_ble_eq_true rfl) (Nat.le_of_ble_eq_true rfl)) [] [] rfl rfl rfl rfl hl.1 dX12_deed_57 (Nat.le_of_ble_eq_true rfl) (Nat.le_of_ble_eq_true rfl) (fun r_18 b1 H locs hw G => ?_)
        refine zAn2 hw ?_
        intro hbs9 hc_17
        clear hw
        subst hbs9
        have G : zS T A s.heap s [[zO11 mo m_all m_has i_size i_next i_where i_token i_number i_word i_wrong i_farCrossing m_read i_z0 i_crossings i_inns m_posts m_shut m_here i_steps i_done i_at i_gone m_was m_came m_seenAt m_rowWorth m_farBy m_used i_everywhere i_again0 j_d0_1 i_never i_firstCame i_longRun i_moved i_crowd i_l0 i_fitMany i_fitLeast i_fitMost m_fitPost m_fitEnd m_keptPosts i_x0], [zAr T 0 m_all 3952 f_all]] _ _ := G
        rcases hc_17 with ⟨rfl, h_19, h_20⟩ | ⟨rfl, h_21⟩
        · have h_19 : (0 : Int) ≤ w_.toInt := h_19
          have h_20 : w_.toInt ≤ (2 : Int) := h_20
          refine lv_if_eq (tgt := 83) hx hb dX12_deed_60 (by decide) (fun q => absurd q (by decide)) (fun _ => ?_)
          refine lv_aload_n hx hb dX12_deed_63 rfl (lv_at hl 0 rfl) ?_
          refine z_get C G clX12 0 rfl 0 (by decide) m_fl_RX12_7 rfl dX12_deed_64 ?_
          refine lv_aload_n hx hb dX12_deed_67 rfl (lv_at hl 0 rfl) ?_
          refine z_get C G clX12 0 rfl 29 (by decide) m_fl_RX12_302 rfl dX12_deed_68 ?_
          refine lv_iconst (v := 1) hx hb dX12_deed_71 (by decide) ?_
          refine lv_iadd hx hb dX12_deed_72 ?_
          refine lv_topi (fun y_22 ey_22 => ?_)
          have ey_22i : y_22.toInt = j_d0_1.toInt + (1 : Int) := by rw [ey_22]; exact z_iaddI (x := j_d0_1) (y := (1 : Int32)) (by show -2147483648 ≤ j_d0_1.toInt + (1 : Int); omega) (by show j_d0_1.toInt + (1 : Int) < 2147483648; omega)
          refine lv_iconst (v := 3) hx hb dX12_deed_73 (by decide) ?_
          refine lv_iload_n hx hb dX12_deed_74 rfl (lv_at hl 2 rfl) ?_
          refine lv_imul hx hb dX12_deed_75 ?_
          refine lv_topi (fun y_23 ey_23 => ?_)
          have ey_23i : y_23.toInt = (3 : Int) * i_.toInt := by rw [ey_23]; exact z_imulI (x := (3 : Int32)) (y := i_) (by show -2147483648 ≤ (3 : Int) * i_.toInt; omega) (by show (3 : Int) * i_.toInt < 2147483648; omega)
          refine lv_iadd hx hb dX12_deed_76 ?_
          refine lv_topi (fun y_24 ey_24 => ?_)
          have ey_24i : y_24.toInt = y_22.toInt + y_23.toInt := by rw [ey_24]; exact z_iaddI (x := y_22) (y := y_23) (by show -2147483648 ≤ y_22.toInt + y_23.toInt; omega) (by show y_22.toInt + y_23.toInt < 2147483648; omega)
          refine lv_iload_n hx hb dX12_deed_77 rfl (lv_at hl 3 rfl) ?_
          refine lv_iadd hx hb dX12_deed_78 ?_
          refine lv_topi (fun y_25 ey_25 => ?_)
          have ey_25i : y_25.toInt = y_24.toInt + w_.toInt := by rw [ey_25]; exact z_iaddI (x := y_24) (y := w_) (by show -2147483648 ≤ y_24.toInt + w_.toInt; omega) (by show y_24.toInt + w_.toInt < 2147483648; omega)
          refine z_ild C G 1 rfl (vp_in_iff.mpr ⟨by omega, by omega⟩) dX12_deed_79 ?_
          refine lv_topi (fun v_26 ev_26 => ?_)
          subst ev_26
          refine lv_goto (tgt := 85) hx hb dX12_deed_80 (by decide) ?_
          exact z_back hQz_ (z_iret C hr hlocks G (Nat.le_of_ble_eq_true rfl) (Nat.le_of_ble_eq_true rfl) dX12_deed_85 ⟨j_d0_1, rfl⟩)
        · have h_21 : (w_.toInt < (0 : Int) ∨ (2 : Int) < w_.toInt) := h_21
          refine lv_if_eq (tgt := 83) hx hb dX12_deed_60 (by decide) (fun _ => ?_) (fun q => absurd (by decide) q)
          refine lv_bipush (v := (-2)) hx hb dX12_deed_83 (by decide) ?_
          exact z_back hQz_ (z_iret C hr hlocks G (Nat.le_of_ble_eq_true rfl) (Nat.le_of_ble_eq_true rfl) dX12_deed_85 ⟨j_d0_1, rfl⟩)
      · have h_16 : (i_.toInt < (0 : Int) ∨ y_11.toInt < i_.toInt) := h_16
        refine lv_if_eq (tgt := 83) hx hb dX12_deed_51 (by decide) (fun _ => ?_) (fun q => absurd (by decide) q)
        refine lv_bipush (v := (-2)) hx hb dX12_deed_83 (by decide) ?_
        exact z_back hQz_ (z_iret C hr hlocks G (Nat.le_of_ble_eq_true rfl) (Nat.le_of_ble_eq_true rfl) dX12_deed_85 ⟨j_d0_1, rfl⟩)
    · have c_9n : i_.toInt = (-1 : Int) := (fa_eq _ _).mp c_9
      refine lv_iload_n hx hb dX12_deed_16 rfl (lv_at hl 3 rfl) ?_
      refine lv_if_ne (tgt := 32) hx hb dX12_deed_17 (by decide) (fun c_27 => ?_) (fun c_27 => ?_)
      · have c_27n : ¬ w_.toInt = (0 : Int) := fun q => c_27 ((fa_eq _ _).mpr q)
        refine lv_bipush (v := (-2)) hx hb dX12_deed_32 (by decide) ?_
        exact z_back hQz_ (z_iret C hr hlocks G (Nat.le_of_ble_eq_true rfl) (Nat.le_of_ble_eq_true rfl) dX12_deed_34 ⟨j_d0_1, rfl⟩)
      · have c_27n : w_.toInt = (0 : Int) := (fa_eq _ _).mp c_27
        refine lv_aload_n hx hb dX12_deed_20 rfl (lv_at hl 0 rfl) ?_
        refine z_get C G clX12 0 rfl 0 (by decide) m_fl_RX12_7 rfl dX12_deed_21 ?_
        refine lv_aload_n hx hb dX12_deed_24 rfl (lv_at hl 0 rfl) ?_
        refine z_get C G clX12 0 rfl 29 (by decide) m_fl_RX12_302 rfl dX12_deed_25 ?_
        refine z_ild C G 1 rfl (vp_in_iff.mpr ⟨by omega, by omega⟩) dX12_deed_28 ?_
        refine lv_topi (fun v_28 ev_28 => ?_)
        subst ev_28
        refine lv_goto (tgt := 34) hx hb dX12_deed_29 (by decide) ?_
        exact z_back hQz_ (z_iret C hr hlocks G (Nat.le_of_ble_eq_true rfl) (Nat.le_of_ble_eq_true rfl) dX12_deed_34 ⟨j_d0_1, rfl⟩)
  · have h_8 : (k_.toInt < 0 ∨ (f_all 1).toInt ≤ k_.toInt) := h_8
    refine lv_if_ne (tgt := 11) hx hb dX12_deed_5 (by decide) (fun q => absurd (by decide) q) (fun _ => ?_)
    refine lv_bipush (v := (-2)) hx hb dX12_deed_8 (by decide) ?_
    exact z_back hQz_ (z_iret C hr hlocks G (Nat.le_of_ble_eq_true rfl) (Nat.le_of_ble_eq_true rfl) dX12_deed_10 ⟨j_d0_1, rfl⟩)
set_option maxHeartbeats 4000000 in
set_option maxRecDepth 100000 in
/-- c_m_fact -/
theorem c_m_fact (l : Launch) (T : zTy) (mo : Nat) (m_all : Nat) (m_has : Nat) (i_size : Int32) (i_next : Int32) (i_where : Int32) (i_token : Int32) (i_number : Int32) (i_word : Int32) (i_wrong : Int32) (i_farCrossing : Int32) (m_read : Nat) (i_z0 : Int32) (i_crossings : Int32) (i_inns : Int32) (m_posts : Nat) (m_shut : Nat) (m_here : Nat) (i_steps : Int32) (i_done : Int32) (i_at : Int32) (i_gone : Int32) (m_was : Nat) (m_came : Nat) (m_seenAt : Nat) (m_rowWorth : Nat) (m_farBy : Nat) (m_used : Nat) (i_everywhere : Int32) (i_again0 : Int32) (i_d0 : Int32) (i_never : Int32) (i_firstCame : Int32) (i_longRun : Int32) (i_moved : Int32) (i_crowd : Int32) (i_l0 : Int32) (i_fitMany : Int32) (i_fitLeast : Int32) (i_fitMost : Int32) (m_fitPost : Nat) (m_fitEnd : Nat) (m_keptPosts : Nat) (i_x0 : Int32) (f_all : Nat → Int32) (k_ : Int32) (i_ : Int32) (w_ : Int32) (hB : zBI f_all) : zMi l T yX12_fact cX12_fact 4 (some .int) 4 0 0 [.ref mo, .int k_, .int i_, .int w_] [[zO11 mo m_all m_has i_size i_next i_where i_token i_number i_word i_wrong i_farCrossing m_read i_z0 i_crossings i_inns m_posts m_shut m_here i_steps i_done i_at i_gone m_was m_came m_seenAt m_rowWorth m_farBy m_used i_everywhere i_again0 i_d0 i_never i_firstCame i_longRun i_moved i_crowd i_l0 i_fitMany i_fitLeast i_fitMost m_fitPost m_fitEnd m_keptPosts i_x0], [zAr T 0 m_all 3952 f_all]] (fun (r : Int32) bs => ∃ (j_l0 : Int32), bs = [[zO11 mo m_all m_has i_size i_next i_where i_token i_number i_word i_wrong i_farCrossing m_read i_z0 i_crossings i_inns m_posts m_shut m_here i_steps i_done i_at i_gone m_was m_came m_seenAt m_rowWorth m_farBy m_used i_everywhere i_again0 i_d0 i_never i_firstCame i_longRun i_moved i_crowd j_l0 i_fitMany i_fitLeast i_fitMost m_fitPost m_fitEnd m_keptPosts i_x0], [zAr T 0 m_all 3952 f_all]]) := by
  refine zMi_of (own := RX12) (by decide) rfl (Nat.le_of_ble_eq_true rfl) ?_
  intro p e s m args below meth c A ls C hr hlocks hnm hAe G hl
  refine zHide (fun Qz_ hQz_ => ?_)
  have hx := C.1
  have hb := C.2.1
  have hl : lv_has ls 4 [(0, .ref mo), (1, .int k_), (2, .int i_), (3, .int w_)] := hl
  refine lv_aload_n hx hb dX12_fact_0 rfl (lv_at hl 0 rfl) ?_
  refine lv_iload_n hx hb dX12_fact_1 rfl (lv_at hl 1 rfl) ?_
  refine z_Vi (bc := [[zO11 mo m_all m_has i_size i_next i_where i_token i_number i_word i_wrong i_farCrossing m_read i_z0 i_crossings i_inns m_posts m_shut m_here i_steps i_done i_at i_gone m_was m_came m_seenAt m_rowWorth m_farBy m_used i_everywhere i_again0 i_d0 i_never i_firstCame i_longRun i_moved i_crowd i_l0 i_fitMany i_fitLeast i_fitMost m_fitPost m_fitEnd m_keptPosts i_x0], [zAr T 0 m_all 3952 f_all]]) (br := []) (As := [.int k_]) (rest := []) C G (c_m_isLog l T mo m_all m_has i_size i_next i_where i_token i_number i_word i_wrong i_farCrossing m_read i_z0 i_crossings i_inns m_posts m_shut m_here i_steps i_done i_at i_gone m_was m_came m_seenAt m_rowWorth m_farBy m_used i_everywhere i_again0 i_d0 i_never i_firstCame i_longRun i_moved i_crowd i_l0 i_fitMany i_fitLeast i_fitMost m_fitPost m_fitEnd m_keptPosts i_x0 f_all k_ (by first | with_reducible assumption | with_reducible rfl | omega | assumption | rfl | decide)) (kV_RX12_363 C.2.2.2.2 (Nat.le_of_ble_eq_true rfl) (Nat.le_of_ble_eq_true rfl)) [0, 1] [0, 0] rfl rfl (ci := 11) (qc := (RX12, TX12, 43)) rfl rfl (List.mem_flatten.mpr ⟨_, List.mem_of_getElem? (i := 0) rfl, List.mem_cons_self⟩) rfl rfl hl.1 dX12_fact_2 (Nat.le_of_ble_eq_true rfl) (Nat.le_of_ble_eq_true rfl) (fun r_3 b1 H locs hw G => ?_)
  refine zEx1 hw ?_
  intro j_l0_1
  refine zCu2 ?_
  intro hbs9 hc_2
  clear hw
  subst hbs9
  have G : zS T A s.heap s [[zO11 mo m_all m_has i_size i_next i_where i_token i_number i_word i_wrong i_farCrossing m_read i_z0 i_crossings i_inns m_posts m_shut m_here i_steps i_done i_at i_gone m_was m_came m_seenAt m_rowWorth m_farBy m_used i_everywhere i_again0 i_d0 i_never i_firstCame i_longRun i_moved i_crowd j_l0_1 i_fitMany i_fitLeast i_fitMost m_fitPost m_fitEnd m_keptPosts i_x0], [zAr T 0 m_all 3952 f_all]] _ _ := G
  rcases hc_2 with ⟨rfl, h_4, h_5, h_6, h_7⟩ | ⟨rfl, h_8⟩
  · have h_4 : 0 ≤ k_.toInt := h_4
    have h_5 : k_.toInt < (f_all 2).toInt := h_5
    have h_6 : j_l0_1.toInt = 954 + 17 * k_.toInt := h_6
    have h_7 : zMG f_all j_l0_1 := h_7
    have hD := h_7
    have hDa := hD.1
    have hDb := hD.2
    refine lv_if_ne (tgt := 11) hx hb dX12_fact_5 (by decide) (fun _ => ?_) (fun q => absurd q (by decide))
    refine lv_iload_n hx hb dX12_fact_11 rfl (lv_at hl 2 rfl) ?_
    refine lv_iconst (v := (-1)) hx hb dX12_fact_12 (by decide) ?_
    refine lv_icmp_ne (tgt := 35) hx hb dX12_fact_13 (by decide) (fun c_9 => ?_) (fun c_9 => ?_)
    · have c_9n : ¬ i_.toInt = (-1 : Int) := fun q => c_9 ((fa_eq _ _).mpr q)
      refine lv_iload_n hx hb dX12_fact_35 rfl (lv_at hl 2 rfl) ?_
      refine lv_iconst (v := 0) hx hb dX12_fact_36 (by decide) ?_
      refine lv_aload_n hx hb dX12_fact_37 rfl (lv_at hl 0 rfl) ?_
      refine z_get C G clX12 0 rfl 0 (by decide) m_fl_RX12_7 rfl dX12_fact_38 ?_
      refine lv_aload_n hx hb dX12_fact_41 rfl (lv_at hl 0 rfl) ?_
      refine z_get C G clX12 0 rfl 35 (by decide) m_fl_RX12_360 rfl dX12_fact_42 ?_
      refine z_ild C G 1 rfl (vp_in_iff.mpr ⟨by omega, by omega⟩) dX12_fact_45 ?_
      refine lv_topi (fun v_10 ev_10 => ?_)
      subst ev_10
      refine lv_iconst (v := 1) hx hb dX12_fact_46 (by decide) ?_
      refine lv_isub hx hb dX12_fact_47 ?_
      refine lv_topi (fun y_11 ey_11 => ?_)
      have ey_11i : y_11.toInt = (f_all j_l0_1.toNatClampNeg).toInt - (1 : Int) := by rw [ey_11]; exact z_isubI (x := (f_all j_l0_1.toNatClampNeg)) (y := (1 : Int32)) (by show -2147483648 ≤ (f_all j_l0_1.toNatClampNeg).toInt - (1 : Int); omega) (by show (f_all j_l0_1.toNatClampNeg).toInt - (1 : Int) < 2147483648; omega)
      refine z_Si (bc := []) (br := [[zO11 mo m_all m_has i_size i_next i_where i_token i_number i_word i_wrong i_farCrossing m_read i_z0 i_crossings i_inns m_posts m_shut m_here i_steps i_done i_at i_gone m_was m_came m_seenAt m_rowWorth m_farBy m_used i_everywhere i_again0 i_d0 i_never i_firstCame i_longRun i_moved i_crowd j_l0_1 i_fitMany i_fitLeast i_fitMost m_fitPost m_fitEnd m_keptPosts i_x0], [zAr T 0 m_all 3952 f_all]]) (As := [.int i_, .int 0, .int y_11]) (rest := []) C G (c_m_isIn l T i_ 0 y_11) (kS_RX12_111 C.2.2.2.2 (Nat.le_of_ble_eq_true rfl) (Nat.le_of_ble_eq_true rfl)) [] [] rfl rfl rfl rfl hl.1 dX12_fact_48 (Nat.le_of_ble_eq_true rfl) (Nat.le_of_ble_eq_true rfl) (fun r_13 b1 H locs hw G => ?_)
      refine zAn2 hw ?_
      intro hbs9 hc_12
      clear hw
      subst hbs9
      have G : zS T A s.heap s [[zO11 mo m_all m_has i_size i_next i_where i_token i_number i_word i_wrong i_farCrossing m_read i_z0 i_crossings i_inns m_posts m_shut m_here i_steps i_done i_at i_gone m_was m_came m_seenAt m_rowWorth m_farBy m_used i_everywhere i_again0 i_d0 i_never i_firstCame i_longRun i_moved i_crowd j_l0_1 i_fitMany i_fitLeast i_fitMost m_fitPost m_fitEnd m_keptPosts i_x0], [zAr T 0 m_all 3952 f_all]] _ _ := G
      rcases hc_12 with ⟨rfl, h_14, h_15⟩ | ⟨rfl, h_16⟩
      · have h_14 : (0 : Int) ≤ i_.toInt := h_14
        have h_15 : i_.toInt ≤ y_11.toInt := h_15
        refine lv_if_eq (tgt := 83) hx hb dX12_fact_51 (by decide) (fun q => absurd q (by decide)) (fun _ => ?_)
        refine lv_iload_n hx hb dX12_fact_54 rfl (lv_at hl 3 rfl) ?_
        refine lv_iconst (v := 0) hx hb dX12_fact_55 (by decide) ?_
        refine lv_iconst (v := 1) hx hb dX12_fact_56 (by decide) ?_
        refine z_Si (bc := []) (br := [[zO11 mo m_all m_has i_size i_next i_where i_token i_number i_word i_wrong i_farCrossing m_read i_z0 i_crossings i_inns m_posts m_shut m_here i_steps i_done i_at i_gone m_was m_came m_seenAt m_rowWorth m_farBy m_used i_everywhere i_again0 i_d0 i_never i_firstCame i_longRun i_moved i_crowd j_l0_1 i_fitMany i_fitLeast i_fitMost m_fitPost m_fitEnd m_keptPosts i_x0], [zAr T 0 m_all 3952 f_all]]) (As := [.int w_, .int 0, .int 1]) (rest := []) C G (c_m_isIn l T w_ 0 1) (kS_RX12_111 C.2.2.2.2 (Nat.le_of_ble_eq_true rfl) (Nat.le_of_ble_eq_true rfl)) [] [] rfl rfl rfl rfl hl.1 dX12_fact_57 (Nat.le_of_ble_eq_true rfl) (Nat.le_of_ble_eq_true rfl) (fun r_18 b1 H locs hw G => ?_)
        refine zAn2 hw ?_
        intro hbs9 hc_17
        clear hw
        subst hbs9
        have G : zS T A s.heap s [[zO11 mo m_all m_has i_size i_next i_where i_token i_number i_word i_wrong i_farCrossing m_read i_z0 i_crossings i_inns m_posts m_shut m_here i_steps i_done i_at i_gone m_was m_came m_seenAt m_rowWorth m_farBy m_used i_everywhere i_again0 i_d0 i_never i_firstCame i_longRun i_moved i_crowd j_l0_1 i_fitMany i_fitLeast i_fitMost m_fitPost m_fitEnd m_keptPosts i_x0], [zAr T 0 m_all 3952 f_all]] _ _ := G
        rcases hc_17 with ⟨rfl, h_19, h_20⟩ | ⟨rfl, h_21⟩
        · have h_19 : (0 : Int) ≤ w_.toInt := h_19
          have h_20 : w_.toInt ≤ (1 : Int) := h_20
          refine lv_if_eq (tgt := 83) hx hb dX12_fact_60 (by decide) (fun q => absurd q (by decide)) (fun _ => ?_)
          refine lv_aload_n hx hb dX12_fact_63 rfl (lv_at hl 0 rfl) ?_
          refine z_get C G clX12 0 rfl 0 (by decide) m_fl_RX12_7 rfl dX12_fact_64 ?_
          refine lv_aload_n hx hb dX12_fact_67 rfl (lv_at hl 0 rfl) ?_
          refine z_get C G clX12 0 rfl 35 (by decide) m_fl_RX12_360 rfl dX12_fact_68 ?_
          refine lv_iconst (v := 1) hx hb dX12_fact_71 (by decide) ?_
          refine lv_iadd hx hb dX12_fact_72 ?_
          refine lv_topi (fun y_22 ey_22 => ?_)
          have ey_22i : y_22.toInt = j_l0_1.toInt + (1 : Int) := by rw [ey_22]; exact z_iaddI (x := j_l0_1) (y := (1 : Int32)) (by show -2147483648 ≤ j_l0_1.toInt + (1 : Int); omega) (by show j_l0_1.toInt + (1 : Int) < 2147483648; omega)
          refine lv_iconst (v := 2) hx hb dX12_fact_73 (by decide) ?_
          refine lv_iload_n hx hb dX12_fact_74 rfl (lv_at hl 2 rfl) ?_
          refine lv_imul hx hb dX12_fact_75 ?_
          refine lv_topi (fun y_23 ey_23 => ?_)
          have ey_23i : y_23.toInt = (2 : Int) * i_.toInt := by rw [ey_23]; exact z_imulI (x := (2 : Int32)) (y := i_) (by show -2147483648 ≤ (2 : Int) * i_.toInt; omega) (by show (2 : Int) * i_.toInt < 2147483648; omega)
          refine lv_iadd hx hb dX12_fact_76 ?_
          refine lv_topi (fun y_24 ey_24 => ?_)
          have ey_24i : y_24.toInt = y_22.toInt + y_23.toInt := by rw [ey_24]; exact z_iaddI (x := y_22) (y := y_23) (by show -2147483648 ≤ y_22.toInt + y_23.toInt; omega) (by show y_22.toInt + y_23.toInt < 2147483648; omega)
          refine lv_iload_n hx hb dX12_fact_77 rfl (lv_at hl 3 rfl) ?_
          refine lv_iadd hx hb dX12_fact_78 ?_
          refine lv_topi (fun y_25 ey_25 => ?_)
          have ey_25i : y_25.toInt = y_24.toInt + w_.toInt := by rw [ey_25]; exact z_iaddI (x := y_24) (y := w_) (by show -2147483648 ≤ y_24.toInt + w_.toInt; omega) (by show y_24.toInt + w_.toInt < 2147483648; omega)
          refine z_ild C G 1 rfl (vp_in_iff.mpr ⟨by omega, by omega⟩) dX12_fact_79 ?_
          refine lv_topi (fun v_26 ev_26 => ?_)
          subst ev_26
          refine lv_goto (tgt := 85) hx hb dX12_fact_80 (by decide) ?_
          exact z_back hQz_ (z_iret C hr hlocks G (Nat.le_of_ble_eq_true rfl) (Nat.le_of_ble_eq_true rfl) dX12_fact_85 ⟨j_l0_1, rfl⟩)
        · have h_21 : (w_.toInt < (0 : Int) ∨ (1 : Int) < w_.toInt) := h_21
          refine lv_if_eq (tgt := 83) hx hb dX12_fact_60 (by decide) (fun _ => ?_) (fun q => absurd (by decide) q)
          refine lv_bipush (v := (-2)) hx hb dX12_fact_83 (by decide) ?_
          exact z_back hQz_ (z_iret C hr hlocks G (Nat.le_of_ble_eq_true rfl) (Nat.le_of_ble_eq_true rfl) dX12_fact_85 ⟨j_l0_1, rfl⟩)
      · have h_16 : (i_.toInt < (0 : Int) ∨ y_11.toInt < i_.toInt) := h_16
        refine lv_if_eq (tgt := 83) hx hb dX12_fact_51 (by decide) (fun _ => ?_) (fun q => absurd (by decide) q)
        refine lv_bipush (v := (-2)) hx hb dX12_fact_83 (by decide) ?_
        exact z_back hQz_ (z_iret C hr hlocks G (Nat.le_of_ble_eq_true rfl) (Nat.le_of_ble_eq_true rfl) dX12_fact_85 ⟨j_l0_1, rfl⟩)
    · have c_9n : i_.toInt = (-1 : Int) := (fa_eq _ _).mp c_9
      refine lv_iload_n hx hb dX12_fact_16 rfl (lv_at hl 3 rfl) ?_
      refine lv_if_ne (tgt := 32) hx hb dX12_fact_17 (by decide) (fun c_27 => ?_) (fun c_27 => ?_)
      · have c_27n : ¬ w_.toInt = (0 : Int) := fun q => c_27 ((fa_eq _ _).mpr q)
        refine lv_bipush (v := (-2)) hx hb dX12_fact_32 (by decide) ?_
        exact z_back hQz_ (z_iret C hr hlocks G (Nat.le_of_ble_eq_true rfl) (Nat.le_of_ble_eq_true rfl) dX12_fact_34 ⟨j_l0_1, rfl⟩)
      · have c_27n : w_.toInt = (0 : Int) := (fa_eq _ _).mp c_27
        refine lv_aload_n hx hb dX12_fact_20 rfl (lv_at hl 0 rfl) ?_
        refine z_get C G clX12 0 rfl 0 (by decide) m_fl_RX12_7 rfl dX12_fact_21 ?_
        refine lv_aload_n hx hb dX12_fact_24 rfl (lv_at hl 0 rfl) ?_
        refine z_get C G clX12 0 rfl 35 (by decide) m_fl_RX12_360 rfl dX12_fact_25 ?_
        refine z_ild C G 1 rfl (vp_in_iff.mpr ⟨by omega, by omega⟩) dX12_fact_28 ?_
        refine lv_topi (fun v_28 ev_28 => ?_)
        subst ev_28
        refine lv_goto (tgt := 34) hx hb dX12_fact_29 (by decide) ?_
        exact z_back hQz_ (z_iret C hr hlocks G (Nat.le_of_ble_eq_true rfl) (Nat.le_of_ble_eq_true rfl) dX12_fact_34 ⟨j_l0_1, rfl⟩)
  · have h_8 : (k_.toInt < 0 ∨ (f_all 2).toInt ≤ k_.toInt) := h_8
    refine lv_if_ne (tgt := 11) hx hb dX12_fact_5 (by decide) (fun q => absurd (by decide) q) (fun _ => ?_)
    refine lv_bipush (v := (-2)) hx hb dX12_fact_8 (by decide) ?_
    exact z_back hQz_ (z_iret C hr hlocks G (Nat.le_of_ble_eq_true rfl) (Nat.le_of_ble_eq_true rfl) dX12_fact_10 ⟨j_l0_1, rfl⟩)
set_option maxHeartbeats 4000000 in
set_option maxRecDepth 100000 in
/-- c_m_looks -/
theorem c_m_looks (l : Launch) (T : zTy) (mo : Nat) (m_all : Nat) (m_has : Nat) (i_size : Int32) (i_next : Int32) (i_where : Int32) (i_token : Int32) (i_number : Int32) (i_word : Int32) (i_wrong : Int32) (i_farCrossing : Int32) (m_read : Nat) (i_z0 : Int32) (i_crossings : Int32) (i_inns : Int32) (m_posts : Nat) (m_shut : Nat) (m_here : Nat) (i_steps : Int32) (i_done : Int32) (i_at : Int32) (i_gone : Int32) (m_was : Nat) (m_came : Nat) (m_seenAt : Nat) (m_rowWorth : Nat) (m_farBy : Nat) (m_used : Nat) (i_everywhere : Int32) (i_again0 : Int32) (i_d0 : Int32) (i_never : Int32) (i_firstCame : Int32) (i_longRun : Int32) (i_moved : Int32) (i_crowd : Int32) (i_l0 : Int32) (i_fitMany : Int32) (i_fitLeast : Int32) (i_fitMost : Int32) (m_fitPost : Nat) (m_fitEnd : Nat) (m_keptPosts : Nat) (i_x0 : Int32) (f_here : Nat → Int32) (hcr : 0 ≤ i_crossings.toInt ∧ i_crossings.toInt ≤ 7) : zMv l T yX12_looks cX12_looks 2 2 0 0 [.ref mo] [[zO11 mo m_all m_has i_size i_next i_where i_token i_number i_word i_wrong i_farCrossing m_read i_z0 i_crossings i_inns m_posts m_shut m_here i_steps i_done i_at i_gone m_was m_came m_seenAt m_rowWorth m_farBy m_used i_everywhere i_again0 i_d0 i_never i_firstCame i_longRun i_moved i_crowd i_l0 i_fitMany i_fitLeast i_fitMost m_fitPost m_fitEnd m_keptPosts i_x0], [zAr T 0 m_here 7 f_here]] (fun bs => ∃ (j_crowd : Int32), bs = [[zO11 mo m_all m_has i_size i_next i_where i_token i_number i_word i_wrong i_farCrossing m_read i_z0 i_crossings i_inns m_posts m_shut m_here i_steps i_done i_at i_gone m_was m_came m_seenAt m_rowWorth m_farBy m_used i_everywhere i_again0 i_d0 i_never i_firstCame i_longRun i_moved j_crowd i_l0 i_fitMany i_fitLeast i_fitMost m_fitPost m_fitEnd m_keptPosts i_x0], [zAr T 0 m_here 7 f_here]]) := by
  refine zMv_of (own := RX12) (by decide) rfl (Nat.le_of_ble_eq_true rfl) ?_
  intro p e s m args below meth c A ls C hr hlocks hnm hAe G hl
  refine zHide (fun Qz_ hQz_ => ?_)
  have hx := C.1
  have hb := C.2.1
  have hl : lv_has ls 2 [(0, .ref mo)] := hl
  refine lv_iconst (v := 0) hx hb dX12_looks_0 (by decide) ?_
  refine lv_istore_n (lv' := [(1, .int 0), (0, .ref mo)]) hx hb dX12_looks_1 rfl hl (by decide) (zLvf_h rfl) (fun ls hl => ?_)
  refine z_lp2 (T := T) 2 (fun (i : Nat) (xcrowd : Int32) => [[zO11 mo m_all m_has i_size i_next i_where i_token i_number i_word i_wrong i_farCrossing m_read i_z0 i_crossings i_inns m_posts m_shut m_here i_steps i_done i_at i_gone m_was m_came m_seenAt m_rowWorth m_farBy m_used i_everywhere i_again0 i_d0 i_never i_firstCame i_longRun i_moved xcrowd i_l0 i_fitMany i_fitLeast i_fitMost m_fitPost m_fitEnd m_keptPosts i_x0], [zAr T 0 m_here 7 f_here]]) (fun (i : Nat) (xcrowd : Int32) => [(1, .int (nI i)), (0, .ref mo)]) (fun (i : Nat) (xcrowd : Int32) => i ≤ 7) (fun (i : Nat) (xcrowd : Int32) => 7 - i) ?_ 0 i_crowd (show 0 ≤ 7 from by omega) G (lv_sub hl [0, 1] rfl)
  intro i xcrowd hi ih_2 H locs ls G hl
  replace hi : i ≤ 7 := hi
  replace G : zS T A s.heap s [[zO11 mo m_all m_has i_size i_next i_where i_token i_number i_word i_wrong i_farCrossing m_read i_z0 i_crossings i_inns m_posts m_shut m_here i_steps i_done i_at i_gone m_was m_came m_seenAt m_rowWorth m_farBy m_used i_everywhere i_again0 i_d0 i_never i_firstCame i_longRun i_moved xcrowd i_l0 i_fitMany i_fitLeast i_fitMost m_fitPost m_fitEnd m_keptPosts i_x0], [zAr T 0 m_here 7 f_here]] _ _ := G
  replace hl : lv_has ls 2 [(1, .int (nI i)), (0, .ref mo)] := hl
  refine lv_iload_n hx hb dX12_looks_2 rfl (lv_at hl 0 rfl) ?_
  refine lv_aload_n hx hb dX12_looks_3 rfl (lv_at hl 1 rfl) ?_
  refine z_get C G clX12 0 rfl 12 (by decide) m_fl_RX12_169 rfl dX12_looks_4 ?_
  refine lv_icmp_ge (tgt := 54) hx hb dX12_looks_7 (by decide) (fun c_1 => ?_) (fun c_1 => ?_)
  · have c_1n : i_crossings.toInt ≤ (i : Int) := by have q := (fa_le _ _).mp c_1; rw [nI_toInt (n := i) (by omega)] at q; exact q
    exact z_back hQz_ (z_vret C hr hlocks G (Nat.le_of_ble_eq_true rfl) (Nat.le_of_ble_eq_true rfl) dX12_looks_54 ⟨xcrowd, rfl⟩)
  · have c_1n : ¬ i_crossings.toInt ≤ (i : Int) := fun q => c_1 ((fa_le _ _).mpr (by rw [nI_toInt (n := i) (by omega)]; exact q))
    refine lv_aload_n hx hb dX12_looks_10 rfl (lv_at hl 1 rfl) ?_
    refine lv_aload_n hx hb dX12_looks_11 rfl (lv_at hl 1 rfl) ?_
    refine lv_iload_n hx hb dX12_looks_12 rfl (lv_at hl 0 rfl) ?_
    have ti_2 : (nI i).toInt = ((i : Nat) : Int) := nI_toInt (by omega)
    refine z_Vi (bc := [[zO11 mo m_all m_has i_size i_next i_where i_token i_number i_word i_wrong i_farCrossing m_read i_z0 i_crossings i_inns m_posts m_shut m_here i_steps i_done i_at i_gone m_was m_came m_seenAt m_rowWorth m_farBy m_used i_everywhere i_again0 i_d0 i_never i_firstCame i_longRun i_moved xcrowd i_l0 i_fitMany i_fitLeast i_fitMost m_fitPost m_fitEnd m_keptPosts i_x0]]) (br := [[zAr T 0 m_here 7 f_here]]) (As := [.int (nI i)]) (rest := [.ref mo]) C G (c_m_isInn l T mo m_all m_has i_size i_next i_where i_token i_number i_word i_wrong i_farCrossing m_read i_z0 i_crossings i_inns m_posts m_shut m_here i_steps i_done i_at i_gone m_was m_came m_seenAt m_rowWorth m_farBy m_used i_everywhere i_again0 i_d0 i_never i_firstCame i_longRun i_moved xcrowd i_l0 i_fitMany i_fitLeast i_fitMost m_fitPost m_fitEnd m_keptPosts i_x0 (nI i)) (kV_RX12_178 C.2.2.2.2 (Nat.le_of_ble_eq_true rfl) (Nat.le_of_ble_eq_true rfl)) [0] [0] rfl rfl (ci := 11) (qc := (RX12, TX12, 43)) rfl rfl (List.mem_flatten.mpr ⟨_, List.mem_of_getElem? (i := 0) rfl, List.mem_cons_self⟩) rfl rfl hl.1 dX12_looks_13 (Nat.le_of_ble_eq_true rfl) (Nat.le_of_ble_eq_true rfl) (fun r_4 b1 H locs hw G => ?_)
    refine zAn2 hw ?_
    intro hbs9 hc_3
    clear hw
    subst hbs9
    have G : zS T A s.heap s [[zAr T 0 m_here 7 f_here], [zO11 mo m_all m_has i_size i_next i_where i_token i_number i_word i_wrong i_farCrossing m_read i_z0 i_crossings i_inns m_posts m_shut m_here i_steps i_done i_at i_gone m_was m_came m_seenAt m_rowWorth m_farBy m_used i_everywhere i_again0 i_d0 i_never i_firstCame i_longRun i_moved xcrowd i_l0 i_fitMany i_fitLeast i_fitMost m_fitPost m_fitEnd m_keptPosts i_x0]] _ _ := G
    rcases hc_3 with ⟨rfl, h_5⟩ | ⟨rfl, h_6⟩
    · have h_5 : zInn i_inns (nI i) := h_5
      refine lv_if_ne (tgt := 41) hx hb dX12_looks_16 (by decide) (fun _ => ?_) (fun q => absurd q (by decide))
      refine lv_aload_n hx hb dX12_looks_41 rfl (lv_at hl 1 rfl) ?_
      refine z_get C G clX12 1 rfl 34 (by decide) m_fl_RX12_308 rfl dX12_looks_42 ?_
      refine z_put C G clX12 1 rfl 34 (by decide) m_fl_RX12_308 rfl rfl rfl (Nat.le_of_ble_eq_true rfl) dX12_looks_45 (fun H locs G => ?_)
      have G : zS T A s.heap s [[zAr T 0 m_here 7 f_here], [zO11 mo m_all m_has i_size i_next i_where i_token i_number i_word i_wrong i_farCrossing m_read i_z0 i_crossings i_inns m_posts m_shut m_here i_steps i_done i_at i_gone m_was m_came m_seenAt m_rowWorth m_farBy m_used i_everywhere i_again0 i_d0 i_never i_firstCame i_longRun i_moved xcrowd i_l0 i_fitMany i_fitLeast i_fitMost m_fitPost m_fitEnd m_keptPosts i_x0]] _ _ := G
      refine lv_iinc (v := nI (i + 1)) (lv' := [(1, .int (nI (i + 1))), (0, .ref mo)]) hx hb dX12_looks_48 hl (k := 0) rfl (z_inc i 1) (by decide) (zLvf_h rfl) (fun ls hl => ?_)
      refine lv_goto (tgt := 2) hx hb dX12_looks_51 (by decide) ?_
      have G := G.sub (bs' := [[zO11 mo m_all m_has i_size i_next i_where i_token i_number i_word i_wrong i_farCrossing m_read i_z0 i_crossings i_inns m_posts m_shut m_here i_steps i_done i_at i_gone m_was m_came m_seenAt m_rowWorth m_farBy m_used i_everywhere i_again0 i_d0 i_never i_firstCame i_longRun i_moved xcrowd i_l0 i_fitMany i_fitLeast i_fitMost m_fitPost m_fitEnd m_keptPosts i_x0], [zAr T 0 m_here 7 f_here]]) [1, 0] rfl
      exact ih_2 (i + 1) xcrowd (show (i + 1) ≤ 7 from by omega) (show 7 - (i + 1) < 7 - i from by omega) _ _ ls G (lv_sub hl [0, 1] rfl)
    · have h_6 : ¬ zInn i_inns (nI i) := h_6
      refine lv_if_ne (tgt := 41) hx hb dX12_looks_16 (by decide) (fun q => absurd (by decide) q) (fun _ => ?_)
      refine lv_aload_n hx hb dX12_looks_19 rfl (lv_at hl 1 rfl) ?_
      refine z_get C G clX12 1 rfl 16 (by decide) m_fl_RX12_26 rfl dX12_looks_20 ?_
      refine lv_iload_n hx hb dX12_looks_23 rfl (lv_at hl 0 rfl) ?_
      refine z_ild C G 0 rfl (vp_in_nI (by omega) (by decide)) dX12_looks_24 ?_
      refine lv_topi (fun v_7 ev_7 => ?_)
      rw [nI_clamp (by omega)] at ev_7
      subst ev_7
      refine lv_aload_n hx hb dX12_looks_25 rfl (lv_at hl 1 rfl) ?_
      refine z_get C G clX12 1 rfl 34 (by decide) m_fl_RX12_308 rfl dX12_looks_26 ?_
      refine lv_icmp_le (tgt := 41) hx hb dX12_looks_29 (by decide) (fun c_8 => ?_) (fun c_8 => ?_)
      · have c_8n : (f_here i).toInt ≤ xcrowd.toInt := (fa_le _ _).mp c_8
        refine lv_aload_n hx hb dX12_looks_41 rfl (lv_at hl 1 rfl) ?_
        refine z_get C G clX12 1 rfl 34 (by decide) m_fl_RX12_308 rfl dX12_looks_42 ?_
        refine z_put C G clX12 1 rfl 34 (by decide) m_fl_RX12_308 rfl rfl rfl (Nat.le_of_ble_eq_true rfl) dX12_looks_45 (fun H locs G => ?_)
        have G : zS T A s.heap s [[zAr T 0 m_here 7 f_here], [zO11 mo m_all m_has i_size i_next i_where i_token i_number i_word i_wrong i_farCrossing m_read i_z0 i_crossings i_inns m_posts m_shut m_here i_steps i_done i_at i_gone m_was m_came m_seenAt m_rowWorth m_farBy m_used i_everywhere i_again0 i_d0 i_never i_firstCame i_longRun i_moved xcrowd i_l0 i_fitMany i_fitLeast i_fitMost m_fitPost m_fitEnd m_keptPosts i_x0]] _ _ := G
        refine lv_iinc (v := nI (i + 1)) (lv' := [(1, .int (nI (i + 1))), (0, .ref mo)]) hx hb dX12_looks_48 hl (k := 0) rfl (z_inc i 1) (by decide) (zLvf_h rfl) (fun ls hl => ?_)
        refine lv_goto (tgt := 2) hx hb dX12_looks_51 (by decide) ?_
        have G := G.sub (bs' := [[zO11 mo m_all m_has i_size i_next i_where i_token i_number i_word i_wrong i_farCrossing m_read i_z0 i_crossings i_inns m_posts m_shut m_here i_steps i_done i_at i_gone m_was m_came m_seenAt m_rowWorth m_farBy m_used i_everywhere i_again0 i_d0 i_never i_firstCame i_longRun i_moved xcrowd i_l0 i_fitMany i_fitLeast i_fitMost m_fitPost m_fitEnd m_keptPosts i_x0], [zAr T 0 m_here 7 f_here]]) [1, 0] rfl
        exact ih_2 (i + 1) xcrowd (show (i + 1) ≤ 7 from by omega) (show 7 - (i + 1) < 7 - i from by omega) _ _ ls G (lv_sub hl [0, 1] rfl)
      · have c_8n : ¬ (f_here i).toInt ≤ xcrowd.toInt := fun q => c_8 ((fa_le _ _).mpr q)
        refine lv_aload_n hx hb dX12_looks_32 rfl (lv_at hl 1 rfl) ?_
        refine z_get C G clX12 1 rfl 16 (by decide) m_fl_RX12_26 rfl dX12_looks_33 ?_
        refine lv_iload_n hx hb dX12_looks_36 rfl (lv_at hl 0 rfl) ?_
        refine z_ild C G 0 rfl (vp_in_nI (by omega) (by decide)) dX12_looks_37 ?_
        refine lv_topi (fun v_9 ev_9 => ?_)
        rw [nI_clamp (by omega)] at ev_9
        subst ev_9
        refine lv_goto (tgt := 45) hx hb dX12_looks_38 (by decide) ?_
        refine z_put C G clX12 1 rfl 34 (by decide) m_fl_RX12_308 rfl rfl rfl (Nat.le_of_ble_eq_true rfl) dX12_looks_45 (fun H locs G => ?_)
        have G : zS T A s.heap s [[zAr T 0 m_here 7 f_here], [zO11 mo m_all m_has i_size i_next i_where i_token i_number i_word i_wrong i_farCrossing m_read i_z0 i_crossings i_inns m_posts m_shut m_here i_steps i_done i_at i_gone m_was m_came m_seenAt m_rowWorth m_farBy m_used i_everywhere i_again0 i_d0 i_never i_firstCame i_longRun i_moved (f_here i) i_l0 i_fitMany i_fitLeast i_fitMost m_fitPost m_fitEnd m_keptPosts i_x0]] _ _ := G
        refine lv_iinc (v := nI (i + 1)) (lv' := [(1, .int (nI (i + 1))), (0, .ref mo)]) hx hb dX12_looks_48 hl (k := 0) rfl (z_inc i 1) (by decide) (zLvf_h rfl) (fun ls hl => ?_)
        refine lv_goto (tgt := 2) hx hb dX12_looks_51 (by decide) ?_
        have G := G.sub (bs' := [[zO11 mo m_all m_has i_size i_next i_where i_token i_number i_word i_wrong i_farCrossing m_read i_z0 i_crossings i_inns m_posts m_shut m_here i_steps i_done i_at i_gone m_was m_came m_seenAt m_rowWorth m_farBy m_used i_everywhere i_again0 i_d0 i_never i_firstCame i_longRun i_moved (f_here i) i_l0 i_fitMany i_fitLeast i_fitMost m_fitPost m_fitEnd m_keptPosts i_x0], [zAr T 0 m_here 7 f_here]]) [1, 0] rfl
        exact ih_2 (i + 1) (f_here i) (show (i + 1) ≤ 7 from by omega) (show 7 - (i + 1) < 7 - i from by omega) _ _ ls G (lv_sub hl [0, 1] rfl)
set_option maxHeartbeats 4000000 in
set_option maxRecDepth 100000 in
/-- c_m_goesFrom -/
theorem c_m_goesFrom (l : Launch) (T : zTy) (mo : Nat) (m_all : Nat) (m_has : Nat) (i_size : Int32) (i_next : Int32) (i_where : Int32) (i_token : Int32) (i_number : Int32) (i_word : Int32) (i_wrong : Int32) (i_farCrossing : Int32) (m_read : Nat) (i_z0 : Int32) (i_crossings : Int32) (i_inns : Int32) (m_posts : Nat) (m_shut : Nat) (m_here : Nat) (i_steps : Int32) (i_done : Int32) (i_at : Int32) (i_gone : Int32) (m_was : Nat) (m_came : Nat) (m_seenAt : Nat) (m_rowWorth : Nat) (m_farBy : Nat) (m_used : Nat) (i_everywhere : Int32) (i_again0 : Int32) (i_d0 : Int32) (i_never : Int32) (i_firstCame : Int32) (i_longRun : Int32) (i_moved : Int32) (i_crowd : Int32) (i_l0 : Int32) (i_fitMany : Int32) (i_fitLeast : Int32) (i_fitMost : Int32) (m_fitPost : Nat) (m_fitEnd : Nat) (m_keptPosts : Nat) (i_x0 : Int32) (f_here : Nat → Int32) (c_ : Int32) (hc0 : 0 ≤ c_.toInt) (hc6 : c_.toInt ≤ 6) (ha0 : 0 ≤ i_at.toInt) (ha6 : i_at.toInt ≤ 6) : zMv l T yX12_goesFrom cX12_goesFrom 2 2 0 0 [.ref mo, .int c_] [[zO11 mo m_all m_has i_size i_next i_where i_token i_number i_word i_wrong i_farCrossing m_read i_z0 i_crossings i_inns m_posts m_shut m_here i_steps i_done i_at i_gone m_was m_came m_seenAt m_rowWorth m_farBy m_used i_everywhere i_again0 i_d0 i_never i_firstCame i_longRun i_moved i_crowd i_l0 i_fitMany i_fitLeast i_fitMost m_fitPost m_fitEnd m_keptPosts i_x0], [zAr T 0 m_here 7 f_here]] (fun bs => ∃ (j_steps : Int32) (j_moved : Int32) (j_firstCame : Int32) (g_here : Nat → Int32), bs = [[zO11 mo m_all m_has i_size i_next i_where i_token i_number i_word i_wrong i_farCrossing m_read i_z0 i_crossings i_inns m_posts m_shut m_here j_steps i_done i_at i_gone m_was m_came m_seenAt m_rowWorth m_farBy m_used i_everywhere i_again0 i_d0 i_never j_firstCame i_longRun j_moved i_crowd i_l0 i_fitMany i_fitLeast i_fitMost m_fitPost m_fitEnd m_keptPosts i_x0], [zAr T 0 m_here 7 g_here]]) := by
  refine zMv_of (own := RX12) (by decide) rfl (Nat.le_of_ble_eq_true rfl) ?_
  intro p e s m args below meth c A ls C hr hlocks hnm hAe G hl
  refine zHide (fun Qz_ hQz_ => ?_)
  have hx := C.1
  have hb := C.2.1
  have hl : lv_has ls 2 [(0, .ref mo), (1, .int c_)] := hl
  refine lv_aload_n hx hb dX12_goesFrom_0 rfl (lv_at hl 0 rfl) ?_
  refine z_get C G clX12 0 rfl 16 (by decide) m_fl_RX12_26 rfl dX12_goesFrom_1 ?_
  refine lv_iload_n hx hb dX12_goesFrom_4 rfl (lv_at hl 1 rfl) ?_
  refine lv_dup2_11 hx hb dX12_goesFrom_5 rfl rfl ?_
  refine z_ild C G 1 rfl (vp_in_iff.mpr ⟨by omega, by omega⟩) dX12_goesFrom_6 ?_
  refine lv_topi (fun v_1 ev_1 => ?_)
  subst ev_1
  refine lv_iconst (v := 1) hx hb dX12_goesFrom_7 (by decide) ?_
  refine lv_isub hx hb dX12_goesFrom_8 ?_
  refine z_ist C G 1 rfl (vp_in_iff.mpr ⟨by omega, by omega⟩) dX12_goesFrom_9 (fun H locs G => ?_)
  have G : zS T A s.heap s [[zO11 mo m_all m_has i_size i_next i_where i_token i_number i_word i_wrong i_farCrossing m_read i_z0 i_crossings i_inns m_posts m_shut m_here i_steps i_done i_at i_gone m_was m_came m_seenAt m_rowWorth m_farBy m_used i_everywhere i_again0 i_d0 i_never i_firstCame i_longRun i_moved i_crowd i_l0 i_fitMany i_fitLeast i_fitMost m_fitPost m_fitEnd m_keptPosts i_x0], [zAr T 0 m_here 7 (upd f_here c_.toNatClampNeg ((f_here c_.toNatClampNeg) - 1))]] _ _ := G
  refine lv_aload_n hx hb dX12_goesFrom_10 rfl (lv_at hl 0 rfl) ?_
  refine z_get C G clX12 0 rfl 16 (by decide) m_fl_RX12_26 rfl dX12_goesFrom_11 ?_
  refine lv_aload_n hx hb dX12_goesFrom_14 rfl (lv_at hl 0 rfl) ?_
  refine z_get C G clX12 0 rfl 19 (by decide) m_fl_RX12_202 rfl dX12_goesFrom_15 ?_
  refine lv_dup2_11 hx hb dX12_goesFrom_18 rfl rfl ?_
  refine z_ild C G 1 rfl (vp_in_iff.mpr ⟨by omega, by omega⟩) dX12_goesFrom_19 ?_
  refine lv_topi (fun v_2 ev_2 => ?_)
  subst ev_2
  refine lv_iconst (v := 1) hx hb dX12_goesFrom_20 (by decide) ?_
  refine lv_iadd hx hb dX12_goesFrom_21 ?_
  refine z_ist C G 1 rfl (vp_in_iff.mpr ⟨by omega, by omega⟩) dX12_goesFrom_22 (fun H locs G => ?_)
  have G : zS T A s.heap s [[zO11 mo m_all m_has i_size i_next i_where i_token i_number i_word i_wrong i_farCrossing m_read i_z0 i_crossings i_inns m_posts m_shut m_here i_steps i_done i_at i_gone m_was m_came m_seenAt m_rowWorth m_farBy m_used i_everywhere i_again0 i_d0 i_never i_firstCame i_longRun i_moved i_crowd i_l0 i_fitMany i_fitLeast i_fitMost m_fitPost m_fitEnd m_keptPosts i_x0], [zAr T 0 m_here 7 (upd (upd f_here c_.toNatClampNeg ((f_here c_.toNatClampNeg) - 1)) i_at.toNatClampNeg (((upd f_here c_.toNatClampNeg ((f_here c_.toNatClampNeg) - 1)) i_at.toNatClampNeg) + 1))]] _ _ := G
  refine lv_aload_n hx hb dX12_goesFrom_23 rfl (lv_at hl 0 rfl) ?_
  refine lv_dup hx hb dX12_goesFrom_24 rfl ?_
  refine z_get C G clX12 0 rfl 17 (by decide) m_fl_RX12_196 rfl dX12_goesFrom_25 ?_
  refine lv_aload_n hx hb dX12_goesFrom_28 rfl (lv_at hl 0 rfl) ?_
  refine z_get C G clX12 0 rfl 20 (by decide) m_fl_RX12_208 rfl dX12_goesFrom_29 ?_
  refine lv_iadd hx hb dX12_goesFrom_32 ?_
  refine z_put C G clX12 0 rfl 17 (by decide) m_fl_RX12_196 rfl rfl rfl (Nat.le_of_ble_eq_true rfl) dX12_goesFrom_33 (fun H locs G => ?_)
  have G : zS T A s.heap s [[zO11 mo m_all m_has i_size i_next i_where i_token i_number i_word i_wrong i_farCrossing m_read i_z0 i_crossings i_inns m_posts m_shut m_here (i_steps + i_gone) i_done i_at i_gone m_was m_came m_seenAt m_rowWorth m_farBy m_used i_everywhere i_again0 i_d0 i_never i_firstCame i_longRun i_moved i_crowd i_l0 i_fitMany i_fitLeast i_fitMost m_fitPost m_fitEnd m_keptPosts i_x0], [zAr T 0 m_here 7 (upd (upd f_here c_.toNatClampNeg ((f_here c_.toNatClampNeg) - 1)) i_at.toNatClampNeg (((upd f_here c_.toNatClampNeg ((f_here c_.toNatClampNeg) - 1)) i_at.toNatClampNeg) + 1))]] _ _ := G
  refine lv_aload_n hx hb dX12_goesFrom_36 rfl (lv_at hl 0 rfl) ?_
  refine lv_dup hx hb dX12_goesFrom_37 rfl ?_
  refine z_get C G clX12 0 rfl 33 (by decide) m_fl_RX12_311 rfl dX12_goesFrom_38 ?_
  refine lv_aload_n hx hb dX12_goesFrom_41 rfl (lv_at hl 0 rfl) ?_
  refine z_get C G clX12 0 rfl 19 (by decide) m_fl_RX12_202 rfl dX12_goesFrom_42 ?_
  refine lv_iload_n hx hb dX12_goesFrom_45 rfl (lv_at hl 1 rfl) ?_
  refine lv_icmp_ne (tgt := 53) hx hb dX12_goesFrom_46 (by decide) (fun c_3 => ?_) (fun c_3 => ?_)
  · have c_3n : ¬ i_at.toInt = c_.toInt := fun q => c_3 ((fa_eq _ _).mpr q)
    refine lv_iconst (v := 1) hx hb dX12_goesFrom_53 (by decide) ?_
    refine lv_iadd hx hb dX12_goesFrom_54 ?_
    refine z_put C G clX12 0 rfl 33 (by decide) m_fl_RX12_311 rfl rfl rfl (Nat.le_of_ble_eq_true rfl) dX12_goesFrom_55 (fun H locs G => ?_)
    have G : zS T A s.heap s [[zO11 mo m_all m_has i_size i_next i_where i_token i_number i_word i_wrong i_farCrossing m_read i_z0 i_crossings i_inns m_posts m_shut m_here (i_steps + i_gone) i_done i_at i_gone m_was m_came m_seenAt m_rowWorth m_farBy m_used i_everywhere i_again0 i_d0 i_never i_firstCame i_longRun (i_moved + 1) i_crowd i_l0 i_fitMany i_fitLeast i_fitMost m_fitPost m_fitEnd m_keptPosts i_x0], [zAr T 0 m_here 7 (upd (upd f_here c_.toNatClampNeg ((f_here c_.toNatClampNeg) - 1)) i_at.toNatClampNeg (((upd f_here c_.toNatClampNeg ((f_here c_.toNatClampNeg) - 1)) i_at.toNatClampNeg) + 1))]] _ _ := G
    refine lv_aload_n hx hb dX12_goesFrom_58 rfl (lv_at hl 0 rfl) ?_
    refine z_get C G clX12 0 rfl 31 (by decide) m_fl_RX12_314 rfl dX12_goesFrom_59 ?_
    refine lv_iconst (v := (-1)) hx hb dX12_goesFrom_62 (by decide) ?_
    refine lv_icmp_ne (tgt := 92) hx hb dX12_goesFrom_63 (by decide) (fun c_4 => ?_) (fun c_4 => ?_)
    · have c_4n : ¬ i_firstCame.toInt = (-1 : Int) := fun q => c_4 ((fa_eq _ _).mpr q)
      exact z_back hQz_ (z_vret C hr hlocks G (Nat.le_of_ble_eq_true rfl) (Nat.le_of_ble_eq_true rfl) dX12_goesFrom_92 ⟨(i_steps + i_gone), (i_moved + 1), i_firstCame, (upd (upd f_here c_.toNatClampNeg ((f_here c_.toNatClampNeg) - 1)) i_at.toNatClampNeg (((upd f_here c_.toNatClampNeg ((f_here c_.toNatClampNeg) - 1)) i_at.toNatClampNeg) + 1)), rfl⟩)
    · have c_4n : i_firstCame.toInt = (-1 : Int) := (fa_eq _ _).mp c_4
      refine lv_aload_n hx hb dX12_goesFrom_66 rfl (lv_at hl 0 rfl) ?_
      refine z_get C G clX12 0 rfl 20 (by decide) m_fl_RX12_208 rfl dX12_goesFrom_67 ?_
      refine lv_if_le (tgt := 92) hx hb dX12_goesFrom_70 (by decide) (fun c_5 => ?_) (fun c_5 => ?_)
      · have c_5n : i_gone.toInt ≤ (0 : Int) := (fa_le _ _).mp c_5
        exact z_back hQz_ (z_vret C hr hlocks G (Nat.le_of_ble_eq_true rfl) (Nat.le_of_ble_eq_true rfl) dX12_goesFrom_92 ⟨(i_steps + i_gone), (i_moved + 1), i_firstCame, (upd (upd f_here c_.toNatClampNeg ((f_here c_.toNatClampNeg) - 1)) i_at.toNatClampNeg (((upd f_here c_.toNatClampNeg ((f_here c_.toNatClampNeg) - 1)) i_at.toNatClampNeg) + 1)), rfl⟩)
      · have c_5n : ¬ i_gone.toInt ≤ (0 : Int) := fun q => c_5 ((fa_le _ _).mpr q)
        refine lv_aload_n hx hb dX12_goesFrom_73 rfl (lv_at hl 0 rfl) ?_
        refine lv_aload_n hx hb dX12_goesFrom_74 rfl (lv_at hl 0 rfl) ?_
        refine z_get C G clX12 0 rfl 19 (by decide) m_fl_RX12_202 rfl dX12_goesFrom_75 ?_
        refine z_Vi (bc := [[zO11 mo m_all m_has i_size i_next i_where i_token i_number i_word i_wrong i_farCrossing m_read i_z0 i_crossings i_inns m_posts m_shut m_here (i_steps + i_gone) i_done i_at i_gone m_was m_came m_seenAt m_rowWorth m_farBy m_used i_everywhere i_again0 i_d0 i_never i_firstCame i_longRun (i_moved + 1) i_crowd i_l0 i_fitMany i_fitLeast i_fitMost m_fitPost m_fitEnd m_keptPosts i_x0]]) (br := [[zAr T 0 m_here 7 (upd (upd f_here c_.toNatClampNeg ((f_here c_.toNatClampNeg) - 1)) i_at.toNatClampNeg (((upd f_here c_.toNatClampNeg ((f_here c_.toNatClampNeg) - 1)) i_at.toNatClampNeg) + 1))]]) (As := [.int i_at]) (rest := []) C G (c_m_isInn l T mo m_all m_has i_size i_next i_where i_token i_number i_word i_wrong i_farCrossing m_read i_z0 i_crossings i_inns m_posts m_shut m_here (i_steps + i_gone) i_done i_at i_gone m_was m_came m_seenAt m_rowWorth m_farBy m_used i_everywhere i_again0 i_d0 i_never i_firstCame i_longRun (i_moved + 1) i_crowd i_l0 i_fitMany i_fitLeast i_fitMost m_fitPost m_fitEnd m_keptPosts i_x0 i_at) (kV_RX12_178 C.2.2.2.2 (Nat.le_of_ble_eq_true rfl) (Nat.le_of_ble_eq_true rfl)) [0] [0] rfl rfl (ci := 11) (qc := (RX12, TX12, 43)) rfl rfl (List.mem_flatten.mpr ⟨_, List.mem_of_getElem? (i := 0) rfl, List.mem_cons_self⟩) rfl rfl hl.1 dX12_goesFrom_78 (Nat.le_of_ble_eq_true rfl) (Nat.le_of_ble_eq_true rfl) (fun r_7 b1 H locs hw G => ?_)
        refine zAn2 hw ?_
        intro hbs9 hc_6
        clear hw
        subst hbs9
        have G : zS T A s.heap s [[zAr T 0 m_here 7 (upd (upd f_here c_.toNatClampNeg ((f_here c_.toNatClampNeg) - 1)) i_at.toNatClampNeg (((upd f_here c_.toNatClampNeg ((f_here c_.toNatClampNeg) - 1)) i_at.toNatClampNeg) + 1))], [zO11 mo m_all m_has i_size i_next i_where i_token i_number i_word i_wrong i_farCrossing m_read i_z0 i_crossings i_inns m_posts m_shut m_here (i_steps + i_gone) i_done i_at i_gone m_was m_came m_seenAt m_rowWorth m_farBy m_used i_everywhere i_again0 i_d0 i_never i_firstCame i_longRun (i_moved + 1) i_crowd i_l0 i_fitMany i_fitLeast i_fitMost m_fitPost m_fitEnd m_keptPosts i_x0]] _ _ := G
        rcases hc_6 with ⟨rfl, h_8⟩ | ⟨rfl, h_9⟩
        · have h_8 : zInn i_inns i_at := h_8
          refine lv_if_eq (tgt := 92) hx hb dX12_goesFrom_81 (by decide) (fun q => absurd q (by decide)) (fun _ => ?_)
          refine lv_aload_n hx hb dX12_goesFrom_84 rfl (lv_at hl 0 rfl) ?_
          refine lv_aload_n hx hb dX12_goesFrom_85 rfl (lv_at hl 0 rfl) ?_
          refine z_get C G clX12 1 rfl 18 (by decide) m_fl_RX12_199 rfl dX12_goesFrom_86 ?_
          refine z_put C G clX12 1 rfl 31 (by decide) m_fl_RX12_314 rfl rfl rfl (Nat.le_of_ble_eq_true rfl) dX12_goesFrom_89 (fun H locs G => ?_)
          have G : zS T A s.heap s [[zAr T 0 m_here 7 (upd (upd f_here c_.toNatClampNeg ((f_here c_.toNatClampNeg) - 1)) i_at.toNatClampNeg (((upd f_here c_.toNatClampNeg ((f_here c_.toNatClampNeg) - 1)) i_at.toNatClampNeg) + 1))], [zO11 mo m_all m_has i_size i_next i_where i_token i_number i_word i_wrong i_farCrossing m_read i_z0 i_crossings i_inns m_posts m_shut m_here (i_steps + i_gone) i_done i_at i_gone m_was m_came m_seenAt m_rowWorth m_farBy m_used i_everywhere i_again0 i_d0 i_never i_done i_longRun (i_moved + 1) i_crowd i_l0 i_fitMany i_fitLeast i_fitMost m_fitPost m_fitEnd m_keptPosts i_x0]] _ _ := G
          have G := G.sub (bs' := [[zO11 mo m_all m_has i_size i_next i_where i_token i_number i_word i_wrong i_farCrossing m_read i_z0 i_crossings i_inns m_posts m_shut m_here (i_steps + i_gone) i_done i_at i_gone m_was m_came m_seenAt m_rowWorth m_farBy m_used i_everywhere i_again0 i_d0 i_never i_done i_longRun (i_moved + 1) i_crowd i_l0 i_fitMany i_fitLeast i_fitMost m_fitPost m_fitEnd m_keptPosts i_x0], [zAr T 0 m_here 7 (upd (upd f_here c_.toNatClampNeg ((f_here c_.toNatClampNeg) - 1)) i_at.toNatClampNeg (((upd f_here c_.toNatClampNeg ((f_here c_.toNatClampNeg) - 1)) i_at.toNatClampNeg) + 1))]]) [1, 0] rfl
          exact z_back hQz_ (z_vret C hr hlocks G (Nat.le_of_ble_eq_true rfl) (Nat.le_of_ble_eq_true rfl) dX12_goesFrom_92 ⟨(i_steps + i_gone), (i_moved + 1), i_done, (upd (upd f_here c_.toNatClampNeg ((f_here c_.toNatClampNeg) - 1)) i_at.toNatClampNeg (((upd f_here c_.toNatClampNeg ((f_here c_.toNatClampNeg) - 1)) i_at.toNatClampNeg) + 1)), rfl⟩)
        · have h_9 : ¬ zInn i_inns i_at := h_9
          refine lv_if_eq (tgt := 92) hx hb dX12_goesFrom_81 (by decide) (fun _ => ?_) (fun q => absurd (by decide) q)
          have G := G.sub (bs' := [[zO11 mo m_all m_has i_size i_next i_where i_token i_number i_word i_wrong i_farCrossing m_read i_z0 i_crossings i_inns m_posts m_shut m_here (i_steps + i_gone) i_done i_at i_gone m_was m_came m_seenAt m_rowWorth m_farBy m_used i_everywhere i_again0 i_d0 i_never i_firstCame i_longRun (i_moved + 1) i_crowd i_l0 i_fitMany i_fitLeast i_fitMost m_fitPost m_fitEnd m_keptPosts i_x0], [zAr T 0 m_here 7 (upd (upd f_here c_.toNatClampNeg ((f_here c_.toNatClampNeg) - 1)) i_at.toNatClampNeg (((upd f_here c_.toNatClampNeg ((f_here c_.toNatClampNeg) - 1)) i_at.toNatClampNeg) + 1))]]) [1, 0] rfl
          exact z_back hQz_ (z_vret C hr hlocks G (Nat.le_of_ble_eq_true rfl) (Nat.le_of_ble_eq_true rfl) dX12_goesFrom_92 ⟨(i_steps + i_gone), (i_moved + 1), i_firstCame, (upd (upd f_here c_.toNatClampNeg ((f_here c_.toNatClampNeg) - 1)) i_at.toNatClampNeg (((upd f_here c_.toNatClampNeg ((f_here c_.toNatClampNeg) - 1)) i_at.toNatClampNeg) + 1)), rfl⟩)
  · have c_3n : i_at.toInt = c_.toInt := (fa_eq _ _).mp c_3
    refine lv_iconst (v := 0) hx hb dX12_goesFrom_49 (by decide) ?_
    refine lv_goto (tgt := 54) hx hb dX12_goesFrom_50 (by decide) ?_
    refine lv_iadd hx hb dX12_goesFrom_54 ?_
    refine z_put C G clX12 0 rfl 33 (by decide) m_fl_RX12_311 rfl rfl rfl (Nat.le_of_ble_eq_true rfl) dX12_goesFrom_55 (fun H locs G => ?_)
    have G : zS T A s.heap s [[zO11 mo m_all m_has i_size i_next i_where i_token i_number i_word i_wrong i_farCrossing m_read i_z0 i_crossings i_inns m_posts m_shut m_here (i_steps + i_gone) i_done i_at i_gone m_was m_came m_seenAt m_rowWorth m_farBy m_used i_everywhere i_again0 i_d0 i_never i_firstCame i_longRun (i_moved + 0) i_crowd i_l0 i_fitMany i_fitLeast i_fitMost m_fitPost m_fitEnd m_keptPosts i_x0], [zAr T 0 m_here 7 (upd (upd f_here c_.toNatClampNeg ((f_here c_.toNatClampNeg) - 1)) i_at.toNatClampNeg (((upd f_here c_.toNatClampNeg ((f_here c_.toNatClampNeg) - 1)) i_at.toNatClampNeg) + 1))]] _ _ := G
    refine lv_aload_n hx hb dX12_goesFrom_58 rfl (lv_at hl 0 rfl) ?_
    refine z_get C G clX12 0 rfl 31 (by decide) m_fl_RX12_314 rfl dX12_goesFrom_59 ?_
    refine lv_iconst (v := (-1)) hx hb dX12_goesFrom_62 (by decide) ?_
    refine lv_icmp_ne (tgt := 92) hx hb dX12_goesFrom_63 (by decide) (fun c_10 => ?_) (fun c_10 => ?_)
    · have c_10n : ¬ i_firstCame.toInt = (-1 : Int) := fun q => c_10 ((fa_eq _ _).mpr q)
      exact z_back hQz_ (z_vret C hr hlocks G (Nat.le_of_ble_eq_true rfl) (Nat.le_of_ble_eq_true rfl) dX12_goesFrom_92 ⟨(i_steps + i_gone), (i_moved + 0), i_firstCame, (upd (upd f_here c_.toNatClampNeg ((f_here c_.toNatClampNeg) - 1)) i_at.toNatClampNeg (((upd f_here c_.toNatClampNeg ((f_here c_.toNatClampNeg) - 1)) i_at.toNatClampNeg) + 1)), rfl⟩)
    · have c_10n : i_firstCame.toInt = (-1 : Int) := (fa_eq _ _).mp c_10
      refine lv_aload_n hx hb dX12_goesFrom_66 rfl (lv_at hl 0 rfl) ?_
      refine z_get C G clX12 0 rfl 20 (by decide) m_fl_RX12_208 rfl dX12_goesFrom_67 ?_
      refine lv_if_le (tgt := 92) hx hb dX12_goesFrom_70 (by decide) (fun c_11 => ?_) (fun c_11 => ?_)
      · have c_11n : i_gone.toInt ≤ (0 : Int) := (fa_le _ _).mp c_11
        exact z_back hQz_ (z_vret C hr hlocks G (Nat.le_of_ble_eq_true rfl) (Nat.le_of_ble_eq_true rfl) dX12_goesFrom_92 ⟨(i_steps + i_gone), (i_moved + 0), i_firstCame, (upd (upd f_here c_.toNatClampNeg ((f_here c_.toNatClampNeg) - 1)) i_at.toNatClampNeg (((upd f_here c_.toNatClampNeg ((f_here c_.toNatClampNeg) - 1)) i_at.toNatClampNeg) + 1)), rfl⟩)
      · have c_11n : ¬ i_gone.toInt ≤ (0 : Int) := fun q => c_11 ((fa_le _ _).mpr q)
        refine lv_aload_n hx hb dX12_goesFrom_73 rfl (lv_at hl 0 rfl) ?_
        refine lv_aload_n hx hb dX12_goesFrom_74 rfl (lv_at hl 0 rfl) ?_
        refine z_get C G clX12 0 rfl 19 (by decide) m_fl_RX12_202 rfl dX12_goesFrom_75 ?_
        refine z_Vi (bc := [[zO11 mo m_all m_has i_size i_next i_where i_token i_number i_word i_wrong i_farCrossing m_read i_z0 i_crossings i_inns m_posts m_shut m_here (i_steps + i_gone) i_done i_at i_gone m_was m_came m_seenAt m_rowWorth m_farBy m_used i_everywhere i_again0 i_d0 i_never i_firstCame i_longRun (i_moved + 0) i_crowd i_l0 i_fitMany i_fitLeast i_fitMost m_fitPost m_fitEnd m_keptPosts i_x0]]) (br := [[zAr T 0 m_here 7 (upd (upd f_here c_.toNatClampNeg ((f_here c_.toNatClampNeg) - 1)) i_at.toNatClampNeg (((upd f_here c_.toNatClampNeg ((f_here c_.toNatClampNeg) - 1)) i_at.toNatClampNeg) + 1))]]) (As := [.int i_at]) (rest := []) C G (c_m_isInn l T mo m_all m_has i_size i_next i_where i_token i_number i_word i_wrong i_farCrossing m_read i_z0 i_crossings i_inns m_posts m_shut m_here (i_steps + i_gone) i_done i_at i_gone m_was m_came m_seenAt m_rowWorth m_farBy m_used i_everywhere i_again0 i_d0 i_never i_firstCame i_longRun (i_moved + 0) i_crowd i_l0 i_fitMany i_fitLeast i_fitMost m_fitPost m_fitEnd m_keptPosts i_x0 i_at) (kV_RX12_178 C.2.2.2.2 (Nat.le_of_ble_eq_true rfl) (Nat.le_of_ble_eq_true rfl)) [0] [0] rfl rfl (ci := 11) (qc := (RX12, TX12, 43)) rfl rfl (List.mem_flatten.mpr ⟨_, List.mem_of_getElem? (i := 0) rfl, List.mem_cons_self⟩) rfl rfl hl.1 dX12_goesFrom_78 (Nat.le_of_ble_eq_true rfl) (Nat.le_of_ble_eq_true rfl) (fun r_13 b1 H locs hw G => ?_)
        refine zAn2 hw ?_
        intro hbs9 hc_12
        clear hw
        subst hbs9
        have G : zS T A s.heap s [[zAr T 0 m_here 7 (upd (upd f_here c_.toNatClampNeg ((f_here c_.toNatClampNeg) - 1)) i_at.toNatClampNeg (((upd f_here c_.toNatClampNeg ((f_here c_.toNatClampNeg) - 1)) i_at.toNatClampNeg) + 1))], [zO11 mo m_all m_has i_size i_next i_where i_token i_number i_word i_wrong i_farCrossing m_read i_z0 i_crossings i_inns m_posts m_shut m_here (i_steps + i_gone) i_done i_at i_gone m_was m_came m_seenAt m_rowWorth m_farBy m_used i_everywhere i_again0 i_d0 i_never i_firstCame i_longRun (i_moved + 0) i_crowd i_l0 i_fitMany i_fitLeast i_fitMost m_fitPost m_fitEnd m_keptPosts i_x0]] _ _ := G
        rcases hc_12 with ⟨rfl, h_14⟩ | ⟨rfl, h_15⟩
        · have h_14 : zInn i_inns i_at := h_14
          refine lv_if_eq (tgt := 92) hx hb dX12_goesFrom_81 (by decide) (fun q => absurd q (by decide)) (fun _ => ?_)
          refine lv_aload_n hx hb dX12_goesFrom_84 rfl (lv_at hl 0 rfl) ?_
          refine lv_aload_n hx hb dX12_goesFrom_85 rfl (lv_at hl 0 rfl) ?_
          refine z_get C G clX12 1 rfl 18 (by decide) m_fl_RX12_199 rfl dX12_goesFrom_86 ?_
          refine z_put C G clX12 1 rfl 31 (by decide) m_fl_RX12_314 rfl rfl rfl (Nat.le_of_ble_eq_true rfl) dX12_goesFrom_89 (fun H locs G => ?_)
          have G : zS T A s.heap s [[zAr T 0 m_here 7 (upd (upd f_here c_.toNatClampNeg ((f_here c_.toNatClampNeg) - 1)) i_at.toNatClampNeg (((upd f_here c_.toNatClampNeg ((f_here c_.toNatClampNeg) - 1)) i_at.toNatClampNeg) + 1))], [zO11 mo m_all m_has i_size i_next i_where i_token i_number i_word i_wrong i_farCrossing m_read i_z0 i_crossings i_inns m_posts m_shut m_here (i_steps + i_gone) i_done i_at i_gone m_was m_came m_seenAt m_rowWorth m_farBy m_used i_everywhere i_again0 i_d0 i_never i_done i_longRun (i_moved + 0) i_crowd i_l0 i_fitMany i_fitLeast i_fitMost m_fitPost m_fitEnd m_keptPosts i_x0]] _ _ := G
          have G := G.sub (bs' := [[zO11 mo m_all m_has i_size i_next i_where i_token i_number i_word i_wrong i_farCrossing m_read i_z0 i_crossings i_inns m_posts m_shut m_here (i_steps + i_gone) i_done i_at i_gone m_was m_came m_seenAt m_rowWorth m_farBy m_used i_everywhere i_again0 i_d0 i_never i_done i_longRun (i_moved + 0) i_crowd i_l0 i_fitMany i_fitLeast i_fitMost m_fitPost m_fitEnd m_keptPosts i_x0], [zAr T 0 m_here 7 (upd (upd f_here c_.toNatClampNeg ((f_here c_.toNatClampNeg) - 1)) i_at.toNatClampNeg (((upd f_here c_.toNatClampNeg ((f_here c_.toNatClampNeg) - 1)) i_at.toNatClampNeg) + 1))]]) [1, 0] rfl
          exact z_back hQz_ (z_vret C hr hlocks G (Nat.le_of_ble_eq_true rfl) (Nat.le_of_ble_eq_true rfl) dX12_goesFrom_92 ⟨(i_steps + i_gone), (i_moved + 0), i_done, (upd (upd f_here c_.toNatClampNeg ((f_here c_.toNatClampNeg) - 1)) i_at.toNatClampNeg (((upd f_here c_.toNatClampNeg ((f_here c_.toNatClampNeg) - 1)) i_at.toNatClampNeg) + 1)), rfl⟩)
        · have h_15 : ¬ zInn i_inns i_at := h_15
          refine lv_if_eq (tgt := 92) hx hb dX12_goesFrom_81 (by decide) (fun _ => ?_) (fun q => absurd (by decide) q)
          have G := G.sub (bs' := [[zO11 mo m_all m_has i_size i_next i_where i_token i_number i_word i_wrong i_farCrossing m_read i_z0 i_crossings i_inns m_posts m_shut m_here (i_steps + i_gone) i_done i_at i_gone m_was m_came m_seenAt m_rowWorth m_farBy m_used i_everywhere i_again0 i_d0 i_never i_firstCame i_longRun (i_moved + 0) i_crowd i_l0 i_fitMany i_fitLeast i_fitMost m_fitPost m_fitEnd m_keptPosts i_x0], [zAr T 0 m_here 7 (upd (upd f_here c_.toNatClampNeg ((f_here c_.toNatClampNeg) - 1)) i_at.toNatClampNeg (((upd f_here c_.toNatClampNeg ((f_here c_.toNatClampNeg) - 1)) i_at.toNatClampNeg) + 1))]]) [1, 0] rfl
          exact z_back hQz_ (z_vret C hr hlocks G (Nat.le_of_ble_eq_true rfl) (Nat.le_of_ble_eq_true rfl) dX12_goesFrom_92 ⟨(i_steps + i_gone), (i_moved + 0), i_firstCame, (upd (upd f_here c_.toNatClampNeg ((f_here c_.toNatClampNeg) - 1)) i_at.toNatClampNeg (((upd f_here c_.toNatClampNeg ((f_here c_.toNatClampNeg) - 1)) i_at.toNatClampNeg) + 1)), rfl⟩)
set_option maxHeartbeats 4000000 in
set_option maxRecDepth 100000 in
/-- c_m_goes -/
theorem c_m_goes (l : Launch) (T : zTy) (mo : Nat) (m_all : Nat) (m_has : Nat) (i_size : Int32) (i_next : Int32) (i_where : Int32) (i_token : Int32) (i_number : Int32) (i_word : Int32) (i_wrong : Int32) (i_farCrossing : Int32) (m_read : Nat) (i_z0 : Int32) (i_crossings : Int32) (i_inns : Int32) (m_posts : Nat) (m_shut : Nat) (m_here : Nat) (i_steps : Int32) (i_done : Int32) (i_at : Int32) (i_gone : Int32) (m_was : Nat) (m_came : Nat) (m_seenAt : Nat) (m_rowWorth : Nat) (m_farBy : Nat) (m_used : Nat) (i_everywhere : Int32) (i_again0 : Int32) (i_d0 : Int32) (i_never : Int32) (i_firstCame : Int32) (i_longRun : Int32) (i_moved : Int32) (i_crowd : Int32) (i_l0 : Int32) (i_fitMany : Int32) (i_fitLeast : Int32) (i_fitMost : Int32) (m_fitPost : Nat) (m_fitEnd : Nat) (m_keptPosts : Nat) (i_x0 : Int32) (f_all : Nat → Int32) (f_posts : Nat → Int32) (f_shut : Nat → Int32) (f_here : Nat → Int32) (f_was : Nat → Int32) (c_ : Int32) (hL : zML f_all i_z0 i_crossings) (hP : zMP f_posts) (hc0 : 0 ≤ c_.toInt) (hc6 : c_.toInt ≤ 6) : zMi l T yX12_goes cX12_goes 2 (some .boolean) 4 0 0 [.ref mo, .int c_] [[zO11 mo m_all m_has i_size i_next i_where i_token i_number i_word i_wrong i_farCrossing m_read i_z0 i_crossings i_inns m_posts m_shut m_here i_steps i_done i_at i_gone m_was m_came m_seenAt m_rowWorth m_farBy m_used i_everywhere i_again0 i_d0 i_never i_firstCame i_longRun i_moved i_crowd i_l0 i_fitMany i_fitLeast i_fitMost m_fitPost m_fitEnd m_keptPosts i_x0], [zAr T 0 m_all 3952 f_all], [zAr T 0 m_posts 7 f_posts], [zAr T 0 m_shut 7 f_shut], [zAr T 0 m_here 7 f_here], [zAr T 0 m_was 7 f_was]] (fun (r : Int32) bs => ∃ (j_at : Int32) (j_gone : Int32) (j_steps : Int32) (j_moved : Int32) (j_firstCame : Int32) (g_posts : Nat → Int32) (g_here : Nat → Int32) (g_was : Nat → Int32), bs = [[zO11 mo m_all m_has i_size i_next i_where i_token i_number i_word i_wrong i_farCrossing m_read i_z0 i_crossings i_inns m_posts m_shut m_here j_steps i_done j_at j_gone m_was m_came m_seenAt m_rowWorth m_farBy m_used i_everywhere i_again0 i_d0 i_never j_firstCame i_longRun j_moved i_crowd i_l0 i_fitMany i_fitLeast i_fitMost m_fitPost m_fitEnd m_keptPosts i_x0], [zAr T 0 m_all 3952 f_all], [zAr T 0 m_posts 7 g_posts], [zAr T 0 m_shut 7 f_shut], [zAr T 0 m_here 7 g_here], [zAr T 0 m_was 7 g_was]] ∧ (r = 0 ∨ r = 1) ∧ zMP g_posts) := by
  refine zMi_of (own := RX12) (by decide) rfl (Nat.le_of_ble_eq_true rfl) ?_
  intro p e s m args below meth c A ls C hr hlocks hnm hAe G hl
  refine zHide (fun Qz_ hQz_ => ?_)
  have hx := C.1
  have hb := C.2.1
  have hl : lv_has ls 2 [(0, .ref mo), (1, .int c_)] := hl
  have hz := hL.1
  have hcr := hL.cr
  refine lv_aload_n hx hb dX12_goes_0 rfl (lv_at hl 0 rfl) ?_
  refine lv_iload_n hx hb dX12_goes_1 rfl (lv_at hl 1 rfl) ?_
  refine z_Vi (bc := [[zO11 mo m_all m_has i_size i_next i_where i_token i_number i_word i_wrong i_farCrossing m_read i_z0 i_crossings i_inns m_posts m_shut m_here i_steps i_done i_at i_gone m_was m_came m_seenAt m_rowWorth m_farBy m_used i_everywhere i_again0 i_d0 i_never i_firstCame i_longRun i_moved i_crowd i_l0 i_fitMany i_fitLeast i_fitMost m_fitPost m_fitEnd m_keptPosts i_x0]]) (br := [[zAr T 0 m_all 3952 f_all], [zAr T 0 m_posts 7 f_posts], [zAr T 0 m_shut 7 f_shut], [zAr T 0 m_here 7 f_here], [zAr T 0 m_was 7 f_was]]) (As := [.int c_]) (rest := []) C G (c_m_isInn l T mo m_all m_has i_size i_next i_where i_token i_number i_word i_wrong i_farCrossing m_read i_z0 i_crossings i_inns m_posts m_shut m_here i_steps i_done i_at i_gone m_was m_came m_seenAt m_rowWorth m_farBy m_used i_everywhere i_again0 i_d0 i_never i_firstCame i_longRun i_moved i_crowd i_l0 i_fitMany i_fitLeast i_fitMost m_fitPost m_fitEnd m_keptPosts i_x0 c_) (kV_RX12_178 C.2.2.2.2 (Nat.le_of_ble_eq_true rfl) (Nat.le_of_ble_eq_true rfl)) [0] [0] rfl rfl (ci := 11) (qc := (RX12, TX12, 43)) rfl rfl (List.mem_flatten.mpr ⟨_, List.mem_of_getElem? (i := 0) rfl, List.mem_cons_self⟩) rfl rfl hl.1 dX12_goes_2 (Nat.le_of_ble_eq_true rfl) (Nat.le_of_ble_eq_true rfl) (fun r_2 b1 H locs hw G => ?_)
  refine zAn2 hw ?_
  intro hbs9 hc_1
  clear hw
  subst hbs9
  have G : zS T A s.heap s [[zAr T 0 m_all 3952 f_all], [zAr T 0 m_posts 7 f_posts], [zAr T 0 m_shut 7 f_shut], [zAr T 0 m_here 7 f_here], [zAr T 0 m_was 7 f_was], [zO11 mo m_all m_has i_size i_next i_where i_token i_number i_word i_wrong i_farCrossing m_read i_z0 i_crossings i_inns m_posts m_shut m_here i_steps i_done i_at i_gone m_was m_came m_seenAt m_rowWorth m_farBy m_used i_everywhere i_again0 i_d0 i_never i_firstCame i_longRun i_moved i_crowd i_l0 i_fitMany i_fitLeast i_fitMost m_fitPost m_fitEnd m_keptPosts i_x0]] _ _ := G
  rcases hc_1 with ⟨rfl, h_3⟩ | ⟨rfl, h_4⟩
  · have h_3 : zInn i_inns c_ := h_3
    refine lv_if_ne (tgt := 17) hx hb dX12_goes_5 (by decide) (fun _ => ?_) (fun q => absurd q (by decide))
    refine lv_iconst (v := 0) hx hb dX12_goes_17 (by decide) ?_
    have G := G.sub (bs' := [[zO11 mo m_all m_has i_size i_next i_where i_token i_number i_word i_wrong i_farCrossing m_read i_z0 i_crossings i_inns m_posts m_shut m_here i_steps i_done i_at i_gone m_was m_came m_seenAt m_rowWorth m_farBy m_used i_everywhere i_again0 i_d0 i_never i_firstCame i_longRun i_moved i_crowd i_l0 i_fitMany i_fitLeast i_fitMost m_fitPost m_fitEnd m_keptPosts i_x0], [zAr T 0 m_all 3952 f_all], [zAr T 0 m_posts 7 f_posts], [zAr T 0 m_shut 7 f_shut], [zAr T 0 m_here 7 f_here], [zAr T 0 m_was 7 f_was]]) [5, 0, 1, 2, 3, 4] rfl
    exact z_back hQz_ (z_zret C hr hlocks G (Nat.le_of_ble_eq_true rfl) (Nat.le_of_ble_eq_true rfl) dX12_goes_18 rfl ⟨i_at, i_gone, i_steps, i_moved, i_firstCame, f_posts, f_here, f_was, rfl, (Or.inl rfl), (by first | with_reducible assumption | omega | trivial | assumption)⟩)
  · have h_4 : ¬ zInn i_inns c_ := h_4
    refine lv_if_ne (tgt := 17) hx hb dX12_goes_5 (by decide) (fun q => absurd (by decide) q) (fun _ => ?_)
    refine lv_aload_n hx hb dX12_goes_8 rfl (lv_at hl 0 rfl) ?_
    refine z_get C G clX12 5 rfl 16 (by decide) m_fl_RX12_26 rfl dX12_goes_9 ?_
    refine lv_iload_n hx hb dX12_goes_12 rfl (lv_at hl 1 rfl) ?_
    refine z_ild C G 3 rfl (vp_in_iff.mpr ⟨by omega, by omega⟩) dX12_goes_13 ?_
    refine lv_topi (fun v_5 ev_5 => ?_)
    subst ev_5
    refine lv_if_ne (tgt := 19) hx hb dX12_goes_14 (by decide) (fun c_6 => ?_) (fun c_6 => ?_)
    · have c_6n : ¬ (f_here c_.toNatClampNeg).toInt = (0 : Int) := fun q => c_6 ((fa_eq _ _).mpr q)
      refine lv_aload_n hx hb dX12_goes_19 rfl (lv_at hl 0 rfl) ?_
      refine lv_iload_n hx hb dX12_goes_20 rfl (lv_at hl 1 rfl) ?_
      refine z_Vv (bc := [[zO11 mo m_all m_has i_size i_next i_where i_token i_number i_word i_wrong i_farCrossing m_read i_z0 i_crossings i_inns m_posts m_shut m_here i_steps i_done i_at i_gone m_was m_came m_seenAt m_rowWorth m_farBy m_used i_everywhere i_again0 i_d0 i_never i_firstCame i_longRun i_moved i_crowd i_l0 i_fitMany i_fitLeast i_fitMost m_fitPost m_fitEnd m_keptPosts i_x0], [zAr T 0 m_was 7 f_was]]) (br := [[zAr T 0 m_all 3952 f_all], [zAr T 0 m_posts 7 f_posts], [zAr T 0 m_shut 7 f_shut], [zAr T 0 m_here 7 f_here]]) (As := [.int c_]) (rest := []) C G (c_m_puts l T mo m_all m_has i_size i_next i_where i_token i_number i_word i_wrong i_farCrossing m_read i_z0 i_crossings i_inns m_posts m_shut m_here i_steps i_done i_at i_gone m_was m_came m_seenAt m_rowWorth m_farBy m_used i_everywhere i_again0 i_d0 i_never i_firstCame i_longRun i_moved i_crowd i_l0 i_fitMany i_fitLeast i_fitMost m_fitPost m_fitEnd m_keptPosts i_x0 f_was c_) (kV_RX12_211 C.2.2.2.2 (Nat.le_of_ble_eq_true rfl) (Nat.le_of_ble_eq_true rfl)) [5, 4] [4, 0] rfl rfl (ci := 11) (qc := (RX12, TX12, 43)) rfl rfl (List.mem_flatten.mpr ⟨_, List.mem_of_getElem? (i := 0) rfl, List.mem_cons_self⟩) rfl rfl hl.1 dX12_goes_21 (Nat.le_of_ble_eq_true rfl) (Nat.le_of_ble_eq_true rfl) (fun b1 H locs hw G => ?_)
      refine zEx1 hw ?_
      intro g_was_7 hbs9
      clear hw
      subst hbs9
      have G : zS T A s.heap s [[zAr T 0 m_all 3952 f_all], [zAr T 0 m_posts 7 f_posts], [zAr T 0 m_shut 7 f_shut], [zAr T 0 m_here 7 f_here], [zO11 mo m_all m_has i_size i_next i_where i_token i_number i_word i_wrong i_farCrossing m_read i_z0 i_crossings i_inns m_posts m_shut m_here i_steps i_done c_ 0 m_was m_came m_seenAt m_rowWorth m_farBy m_used i_everywhere i_again0 i_d0 i_never i_firstCame i_longRun i_moved i_crowd i_l0 i_fitMany i_fitLeast i_fitMost m_fitPost m_fitEnd m_keptPosts i_x0], [zAr T 0 m_was 7 g_was_7]] _ _ := G
      refine lv_aload_n hx hb dX12_goes_24 rfl (lv_at hl 0 rfl) ?_
      refine z_Vi (bc := [[zO11 mo m_all m_has i_size i_next i_where i_token i_number i_word i_wrong i_farCrossing m_read i_z0 i_crossings i_inns m_posts m_shut m_here i_steps i_done c_ 0 m_was m_came m_seenAt m_rowWorth m_farBy m_used i_everywhere i_again0 i_d0 i_never i_firstCame i_longRun i_moved i_crowd i_l0 i_fitMany i_fitLeast i_fitMost m_fitPost m_fitEnd m_keptPosts i_x0], [zAr T 0 m_all 3952 f_all], [zAr T 0 m_posts 7 f_posts], [zAr T 0 m_shut 7 f_shut], [zAr T 0 m_was 7 g_was_7]]) (br := [[zAr T 0 m_here 7 f_here]]) (As := []) (rest := []) C G (c_m_stepsOn l T mo m_all m_has i_size i_next i_where i_token i_number i_word i_wrong i_farCrossing m_read i_z0 i_crossings i_inns m_posts m_shut m_here i_steps i_done c_ 0 m_was m_came m_seenAt m_rowWorth m_farBy m_used i_everywhere i_again0 i_d0 i_never i_firstCame i_longRun i_moved i_crowd i_l0 i_fitMany i_fitLeast i_fitMost m_fitPost m_fitEnd m_keptPosts i_x0 f_all f_posts f_shut g_was_7 (by first | with_reducible assumption | with_reducible rfl | omega | assumption | rfl | decide) (by first | with_reducible assumption | with_reducible rfl | omega | assumption | rfl | decide) (by first | with_reducible assumption | with_reducible rfl | omega | assumption | rfl | decide) (by first | with_reducible assumption | with_reducible rfl | omega | assumption | rfl | decide) (by first | with_reducible assumption | with_reducible rfl | omega | assumption | rfl | decide) (by first | with_reducible assumption | with_reducible rfl | omega | assumption | rfl | decide)) (kV_RX12_214 C.2.2.2.2 (Nat.le_of_ble_eq_true rfl) (Nat.le_of_ble_eq_true rfl)) [4, 0, 1, 2, 5] [0, 0, 0, 1, 0] rfl rfl (ci := 11) (qc := (RX12, TX12, 43)) rfl rfl (List.mem_flatten.mpr ⟨_, List.mem_of_getElem? (i := 0) rfl, List.mem_cons_self⟩) rfl rfl hl.1 dX12_goes_25 (Nat.le_of_ble_eq_true rfl) (Nat.le_of_ble_eq_true rfl) (fun r_17 b1 H locs hw G => ?_)
      refine zEx4 hw ?_
      intro j_at_9 j_gone_10 g_posts_11 g_was_12
      refine zCu5 ?_
      intro hbs9 h_13 h_14 h_15 hc_16
      clear hw
      subst hbs9
      have G : zS T A s.heap s [[zAr T 0 m_here 7 f_here], [zO11 mo m_all m_has i_size i_next i_where i_token i_number i_word i_wrong i_farCrossing m_read i_z0 i_crossings i_inns m_posts m_shut m_here i_steps i_done j_at_9 j_gone_10 m_was m_came m_seenAt m_rowWorth m_farBy m_used i_everywhere i_again0 i_d0 i_never i_firstCame i_longRun i_moved i_crowd i_l0 i_fitMany i_fitLeast i_fitMost m_fitPost m_fitEnd m_keptPosts i_x0], [zAr T 0 m_all 3952 f_all], [zAr T 0 m_posts 7 g_posts_11], [zAr T 0 m_shut 7 f_shut], [zAr T 0 m_was 7 g_was_12]] _ _ := G
      rcases hc_16 with ⟨rfl, h_18⟩ | ⟨rfl, h_19⟩
      · have h_18 : j_gone_10.toInt = (0 : Int) + 1 := h_18
        refine lv_if_ne (tgt := 33) hx hb dX12_goes_28 (by decide) (fun _ => ?_) (fun q => absurd q (by decide))
        refine lv_aload_n hx hb dX12_goes_33 rfl (lv_at hl 0 rfl) ?_
        refine lv_iload_n hx hb dX12_goes_34 rfl (lv_at hl 1 rfl) ?_
        refine z_Vv (bc := [[zO11 mo m_all m_has i_size i_next i_where i_token i_number i_word i_wrong i_farCrossing m_read i_z0 i_crossings i_inns m_posts m_shut m_here i_steps i_done j_at_9 j_gone_10 m_was m_came m_seenAt m_rowWorth m_farBy m_used i_everywhere i_again0 i_d0 i_never i_firstCame i_longRun i_moved i_crowd i_l0 i_fitMany i_fitLeast i_fitMost m_fitPost m_fitEnd m_keptPosts i_x0], [zAr T 0 m_here 7 f_here]]) (br := [[zAr T 0 m_all 3952 f_all], [zAr T 0 m_posts 7 g_posts_11], [zAr T 0 m_shut 7 f_shut], [zAr T 0 m_was 7 g_was_12]]) (As := [.int c_]) (rest := []) C G (c_m_goesFrom l T mo m_all m_has i_size i_next i_where i_token i_number i_word i_wrong i_farCrossing m_read i_z0 i_crossings i_inns m_posts m_shut m_here i_steps i_done j_at_9 j_gone_10 m_was m_came m_seenAt m_rowWorth m_farBy m_used i_everywhere i_again0 i_d0 i_never i_firstCame i_longRun i_moved i_crowd i_l0 i_fitMany i_fitLeast i_fitMost m_fitPost m_fitEnd m_keptPosts i_x0 f_here c_ (by first | with_reducible assumption | with_reducible rfl | omega | assumption | rfl | decide) (by first | with_reducible assumption | with_reducible rfl | omega | assumption | rfl | decide) (by first | with_reducible assumption | with_reducible rfl | omega | assumption | rfl | decide) (by first | with_reducible assumption | with_reducible rfl | omega | assumption | rfl | decide)) (kV_RX12_317 C.2.2.2.2 (Nat.le_of_ble_eq_true rfl) (Nat.le_of_ble_eq_true rfl)) [1, 0] [0, 0] rfl rfl (ci := 11) (qc := (RX12, TX12, 43)) rfl rfl (List.mem_flatten.mpr ⟨_, List.mem_of_getElem? (i := 0) rfl, List.mem_cons_self⟩) rfl rfl hl.1 dX12_goes_35 (Nat.le_of_ble_eq_true rfl) (Nat.le_of_ble_eq_true rfl) (fun b1 H locs hw G => ?_)
        refine zEx4 hw ?_
        intro j_steps_20 j_moved_21 j_firstCame_22 g_here_23 hbs9
        clear hw
        subst hbs9
        have G : zS T A s.heap s [[zAr T 0 m_all 3952 f_all], [zAr T 0 m_posts 7 g_posts_11], [zAr T 0 m_shut 7 f_shut], [zAr T 0 m_was 7 g_was_12], [zO11 mo m_all m_has i_size i_next i_where i_token i_number i_word i_wrong i_farCrossing m_read i_z0 i_crossings i_inns m_posts m_shut m_here j_steps_20 i_done j_at_9 j_gone_10 m_was m_came m_seenAt m_rowWorth m_farBy m_used i_everywhere i_again0 i_d0 i_never j_firstCame_22 i_longRun j_moved_21 i_crowd i_l0 i_fitMany i_fitLeast i_fitMost m_fitPost m_fitEnd m_keptPosts i_x0], [zAr T 0 m_here 7 g_here_23]] _ _ := G
        refine lv_iconst (v := 1) hx hb dX12_goes_38 (by decide) ?_
        have G := G.sub (bs' := [[zO11 mo m_all m_has i_size i_next i_where i_token i_number i_word i_wrong i_farCrossing m_read i_z0 i_crossings i_inns m_posts m_shut m_here j_steps_20 i_done j_at_9 j_gone_10 m_was m_came m_seenAt m_rowWorth m_farBy m_used i_everywhere i_again0 i_d0 i_never j_firstCame_22 i_longRun j_moved_21 i_crowd i_l0 i_fitMany i_fitLeast i_fitMost m_fitPost m_fitEnd m_keptPosts i_x0], [zAr T 0 m_all 3952 f_all], [zAr T 0 m_posts 7 g_posts_11], [zAr T 0 m_shut 7 f_shut], [zAr T 0 m_here 7 g_here_23], [zAr T 0 m_was 7 g_was_12]]) [4, 0, 1, 2, 5, 3] rfl
        exact z_back hQz_ (z_zret C hr hlocks G (Nat.le_of_ble_eq_true rfl) (Nat.le_of_ble_eq_true rfl) dX12_goes_39 rfl ⟨j_at_9, j_gone_10, j_steps_20, j_moved_21, j_firstCame_22, g_posts_11, g_here_23, g_was_12, rfl, (Or.inr rfl), (by first | with_reducible assumption | omega | trivial | assumption)⟩)
      · have h_19 : j_gone_10.toInt = (0 : Int) := h_19
        refine lv_if_ne (tgt := 33) hx hb dX12_goes_28 (by decide) (fun q => absurd (by decide) q) (fun _ => ?_)
        refine lv_iconst (v := 0) hx hb dX12_goes_31 (by decide) ?_
        have G := G.sub (bs' := [[zO11 mo m_all m_has i_size i_next i_where i_token i_number i_word i_wrong i_farCrossing m_read i_z0 i_crossings i_inns m_posts m_shut m_here i_steps i_done j_at_9 j_gone_10 m_was m_came m_seenAt m_rowWorth m_farBy m_used i_everywhere i_again0 i_d0 i_never i_firstCame i_longRun i_moved i_crowd i_l0 i_fitMany i_fitLeast i_fitMost m_fitPost m_fitEnd m_keptPosts i_x0], [zAr T 0 m_all 3952 f_all], [zAr T 0 m_posts 7 g_posts_11], [zAr T 0 m_shut 7 f_shut], [zAr T 0 m_here 7 f_here], [zAr T 0 m_was 7 g_was_12]]) [1, 2, 3, 4, 0, 5] rfl
        exact z_back hQz_ (z_zret C hr hlocks G (Nat.le_of_ble_eq_true rfl) (Nat.le_of_ble_eq_true rfl) dX12_goes_32 rfl ⟨j_at_9, j_gone_10, i_steps, i_moved, i_firstCame, g_posts_11, f_here, g_was_12, rfl, (Or.inl rfl), (by first | with_reducible assumption | omega | trivial | assumption)⟩)
    · have c_6n : (f_here c_.toNatClampNeg).toInt = (0 : Int) := (fa_eq _ _).mp c_6
      refine lv_iconst (v := 0) hx hb dX12_goes_17 (by decide) ?_
      have G := G.sub (bs' := [[zO11 mo m_all m_has i_size i_next i_where i_token i_number i_word i_wrong i_farCrossing m_read i_z0 i_crossings i_inns m_posts m_shut m_here i_steps i_done i_at i_gone m_was m_came m_seenAt m_rowWorth m_farBy m_used i_everywhere i_again0 i_d0 i_never i_firstCame i_longRun i_moved i_crowd i_l0 i_fitMany i_fitLeast i_fitMost m_fitPost m_fitEnd m_keptPosts i_x0], [zAr T 0 m_all 3952 f_all], [zAr T 0 m_posts 7 f_posts], [zAr T 0 m_shut 7 f_shut], [zAr T 0 m_here 7 f_here], [zAr T 0 m_was 7 f_was]]) [5, 0, 1, 2, 3, 4] rfl
      exact z_back hQz_ (z_zret C hr hlocks G (Nat.le_of_ble_eq_true rfl) (Nat.le_of_ble_eq_true rfl) dX12_goes_18 rfl ⟨i_at, i_gone, i_steps, i_moved, i_firstCame, f_posts, f_here, f_was, rfl, (Or.inl rfl), (by first | with_reducible assumption | omega | trivial | assumption)⟩)
set_option maxHeartbeats 4000000 in
set_option maxRecDepth 100000 in
/-- c_m_runs0 -/
theorem c_m_runs0 (l : Launch) (T : zTy) (mo : Nat) (m_all : Nat) (m_has : Nat) (i_size : Int32) (i_next : Int32) (i_where : Int32) (i_token : Int32) (i_number : Int32) (i_word : Int32) (i_wrong : Int32) (i_farCrossing : Int32) (m_read : Nat) (i_z0 : Int32) (i_crossings : Int32) (i_inns : Int32) (m_posts : Nat) (m_shut : Nat) (m_here : Nat) (i_steps : Int32) (i_done : Int32) (i_at : Int32) (i_gone : Int32) (m_was : Nat) (m_came : Nat) (m_seenAt : Nat) (m_rowWorth : Nat) (m_farBy : Nat) (m_used : Nat) (i_everywhere : Int32) (i_again0 : Int32) (i_d0 : Int32) (i_never : Int32) (i_firstCame : Int32) (i_longRun : Int32) (i_moved : Int32) (i_crowd : Int32) (i_l0 : Int32) (i_fitMany : Int32) (i_fitLeast : Int32) (i_fitMost : Int32) (m_fitPost : Nat) (m_fitEnd : Nat) (m_keptPosts : Nat) (i_x0 : Int32) (f_all : Nat → Int32) (f_posts : Nat → Int32) (f_shut : Nat → Int32) (f_here : Nat → Int32) (f_was : Nat → Int32) (c_ : Int32) (hL : zML f_all i_z0 i_crossings) (hP : zMP f_posts) (hc0 : 0 ≤ c_.toInt) (hc6 : c_.toInt ≤ 6) : zMi l T yX12_runs0 cX12_runs0 2 (some .boolean) 5 0 0 [.ref mo, .int c_] [[zO11 mo m_all m_has i_size i_next i_where i_token i_number i_word i_wrong i_farCrossing m_read i_z0 i_crossings i_inns m_posts m_shut m_here i_steps i_done i_at i_gone m_was m_came m_seenAt m_rowWorth m_farBy m_used i_everywhere i_again0 i_d0 i_never i_firstCame i_longRun i_moved i_crowd i_l0 i_fitMany i_fitLeast i_fitMost m_fitPost m_fitEnd m_keptPosts i_x0], [zAr T 0 m_all 3952 f_all], [zAr T 0 m_posts 7 f_posts], [zAr T 0 m_shut 7 f_shut], [zAr T 0 m_here 7 f_here], [zAr T 0 m_was 7 f_was]] (fun (r : Int32) bs => ∃ (j_at : Int32) (j_gone : Int32) (j_steps : Int32) (j_moved : Int32) (j_firstCame : Int32) (j_never : Int32) (j_longRun : Int32) (g_posts : Nat → Int32) (g_here : Nat → Int32) (g_was : Nat → Int32), bs = [[zO11 mo m_all m_has i_size i_next i_where i_token i_number i_word i_wrong i_farCrossing m_read i_z0 i_crossings i_inns m_posts m_shut m_here j_steps i_done j_at j_gone m_was m_came m_seenAt m_rowWorth m_farBy m_used i_everywhere i_again0 i_d0 j_never j_firstCame j_longRun j_moved i_crowd i_l0 i_fitMany i_fitLeast i_fitMost m_fitPost m_fitEnd m_keptPosts i_x0], [zAr T 0 m_all 3952 f_all], [zAr T 0 m_posts 7 g_posts], [zAr T 0 m_shut 7 f_shut], [zAr T 0 m_here 7 g_here], [zAr T 0 m_was 7 g_was]] ∧ (r = 0 ∨ r = 1) ∧ zMP g_posts) := by
  refine zMi_of (own := RX12) (by decide) rfl (Nat.le_of_ble_eq_true rfl) ?_
  intro p e s m args below meth c A ls C hr hlocks hnm hAe G hl
  refine zHide (fun Qz_ hQz_ => ?_)
  have hx := C.1
  have hb := C.2.1
  have hl : lv_has ls 2 [(0, .ref mo), (1, .int c_)] := hl
  have hz := hL.1
  have hcr := hL.cr
  refine lv_aload_n hx hb dX12_runs0_0 rfl (lv_at hl 0 rfl) ?_
  refine z_get C G clX12 0 rfl 16 (by decide) m_fl_RX12_26 rfl dX12_runs0_1 ?_
  refine lv_iload_n hx hb dX12_runs0_4 rfl (lv_at hl 1 rfl) ?_
  refine z_ild C G 4 rfl (vp_in_iff.mpr ⟨by omega, by omega⟩) dX12_runs0_5 ?_
  refine lv_topi (fun v_1 ev_1 => ?_)
  subst ev_1
  refine lv_if_ne (tgt := 11) hx hb dX12_runs0_6 (by decide) (fun c_2 => ?_) (fun c_2 => ?_)
  · have c_2n : ¬ (f_here c_.toNatClampNeg).toInt = (0 : Int) := fun q => c_2 ((fa_eq _ _).mpr q)
    refine lv_aload_n hx hb dX12_runs0_11 rfl (lv_at hl 0 rfl) ?_
    refine lv_dup hx hb dX12_runs0_12 rfl ?_
    refine z_get C G clX12 0 rfl 30 (by decide) m_fl_RX12_320 rfl dX12_runs0_13 ?_
    refine lv_aload_n hx hb dX12_runs0_16 rfl (lv_at hl 0 rfl) ?_
    refine lv_iload_n hx hb dX12_runs0_17 rfl (lv_at hl 1 rfl) ?_
    refine z_Vi (bc := [[zO11 mo m_all m_has i_size i_next i_where i_token i_number i_word i_wrong i_farCrossing m_read i_z0 i_crossings i_inns m_posts m_shut m_here i_steps i_done i_at i_gone m_was m_came m_seenAt m_rowWorth m_farBy m_used i_everywhere i_again0 i_d0 i_never i_firstCame i_longRun i_moved i_crowd i_l0 i_fitMany i_fitLeast i_fitMost m_fitPost m_fitEnd m_keptPosts i_x0], [zAr T 0 m_all 3952 f_all], [zAr T 0 m_posts 7 f_posts], [zAr T 0 m_shut 7 f_shut], [zAr T 0 m_was 7 f_was]]) (br := [[zAr T 0 m_here 7 f_here]]) (As := [.int c_]) (rest := [.int i_never, .ref mo]) C G (c_m_walks l T mo m_all m_has i_size i_next i_where i_token i_number i_word i_wrong i_farCrossing m_read i_z0 i_crossings i_inns m_posts m_shut m_here i_steps i_done i_at i_gone m_was m_came m_seenAt m_rowWorth m_farBy m_used i_everywhere i_again0 i_d0 i_never i_firstCame i_longRun i_moved i_crowd i_l0 i_fitMany i_fitLeast i_fitMost m_fitPost m_fitEnd m_keptPosts i_x0 f_all f_posts f_shut f_was c_ (by first | with_reducible assumption | with_reducible rfl | omega | assumption | rfl | decide) (by first | with_reducible assumption | with_reducible rfl | omega | assumption | rfl | decide) (by first | with_reducible assumption | with_reducible rfl | omega | assumption | rfl | decide) (by first | with_reducible assumption | with_reducible rfl | omega | assumption | rfl | decide)) (kV_RX12_217 C.2.2.2.2 (Nat.le_of_ble_eq_true rfl) (Nat.le_of_ble_eq_true rfl)) [0, 1, 2, 3, 5] [0, 0, 0, 0, 1] rfl rfl (ci := 11) (qc := (RX12, TX12, 43)) rfl rfl (List.mem_flatten.mpr ⟨_, List.mem_of_getElem? (i := 0) rfl, List.mem_cons_self⟩) rfl rfl hl.1 dX12_runs0_18 (Nat.le_of_ble_eq_true rfl) (Nat.le_of_ble_eq_true rfl) (fun r_13 b1 H locs hw G => ?_)
    refine zEx4 hw ?_
    intro j_at_3 j_gone_4 g_posts_5 g_was_6
    refine zCu7 ?_
    intro hbs9 h_7 h_8 h_9 h_10 h_11 h_12
    clear hw
    subst hbs9
    have G : zS T A s.heap s [[zAr T 0 m_here 7 f_here], [zO11 mo m_all m_has i_size i_next i_where i_token i_number i_word i_wrong i_farCrossing m_read i_z0 i_crossings i_inns m_posts m_shut m_here i_steps i_done j_at_3 j_gone_4 m_was m_came m_seenAt m_rowWorth m_farBy m_used i_everywhere i_again0 i_d0 i_never i_firstCame i_longRun i_moved i_crowd i_l0 i_fitMany i_fitLeast i_fitMost m_fitPost m_fitEnd m_keptPosts i_x0], [zAr T 0 m_all 3952 f_all], [zAr T 0 m_posts 7 g_posts_5], [zAr T 0 m_shut 7 f_shut], [zAr T 0 m_was 7 g_was_6]] _ _ := G
    replace h_7 : zHd ((r_13 = 0 ∨ r_13 = 1)) := h_7
    refine lv_if_eq (tgt := 28) hx hb dX12_runs0_21 (by decide) (fun c_14 => ?_) (fun c_14 => ?_)
    · have c_14n : r_13.toInt = (0 : Int) := (fa_eq _ _).mp c_14
      refine lv_iconst (v := 1) hx hb dX12_runs0_28 (by decide) ?_
      refine lv_iadd hx hb dX12_runs0_29 ?_
      refine z_put C G clX12 1 rfl 30 (by decide) m_fl_RX12_320 rfl rfl rfl (Nat.le_of_ble_eq_true rfl) dX12_runs0_30 (fun H locs G => ?_)
      have G : zS T A s.heap s [[zAr T 0 m_here 7 f_here], [zO11 mo m_all m_has i_size i_next i_where i_token i_number i_word i_wrong i_farCrossing m_read i_z0 i_crossings i_inns m_posts m_shut m_here i_steps i_done j_at_3 j_gone_4 m_was m_came m_seenAt m_rowWorth m_farBy m_used i_everywhere i_again0 i_d0 (i_never + 1) i_firstCame i_longRun i_moved i_crowd i_l0 i_fitMany i_fitLeast i_fitMost m_fitPost m_fitEnd m_keptPosts i_x0], [zAr T 0 m_all 3952 f_all], [zAr T 0 m_posts 7 g_posts_5], [zAr T 0 m_shut 7 f_shut], [zAr T 0 m_was 7 g_was_6]] _ _ := G
      refine lv_aload_n hx hb dX12_runs0_33 rfl (lv_at hl 0 rfl) ?_
      refine lv_aload_n hx hb dX12_runs0_34 rfl (lv_at hl 0 rfl) ?_
      refine z_get C G clX12 1 rfl 20 (by decide) m_fl_RX12_208 rfl dX12_runs0_35 ?_
      refine lv_aload_n hx hb dX12_runs0_38 rfl (lv_at hl 0 rfl) ?_
      refine z_get C G clX12 1 rfl 32 (by decide) m_fl_RX12_323 rfl dX12_runs0_39 ?_
      refine lv_icmp_le (tgt := 52) hx hb dX12_runs0_42 (by decide) (fun c_15 => ?_) (fun c_15 => ?_)
      · have c_15n : j_gone_4.toInt ≤ i_longRun.toInt := (fa_le _ _).mp c_15
        refine lv_aload_n hx hb dX12_runs0_52 rfl (lv_at hl 0 rfl) ?_
        refine z_get C G clX12 1 rfl 32 (by decide) m_fl_RX12_323 rfl dX12_runs0_53 ?_
        refine z_put C G clX12 1 rfl 32 (by decide) m_fl_RX12_323 rfl rfl rfl (Nat.le_of_ble_eq_true rfl) dX12_runs0_56 (fun H locs G => ?_)
        have G : zS T A s.heap s [[zAr T 0 m_here 7 f_here], [zO11 mo m_all m_has i_size i_next i_where i_token i_number i_word i_wrong i_farCrossing m_read i_z0 i_crossings i_inns m_posts m_shut m_here i_steps i_done j_at_3 j_gone_4 m_was m_came m_seenAt m_rowWorth m_farBy m_used i_everywhere i_again0 i_d0 (i_never + 1) i_firstCame i_longRun i_moved i_crowd i_l0 i_fitMany i_fitLeast i_fitMost m_fitPost m_fitEnd m_keptPosts i_x0], [zAr T 0 m_all 3952 f_all], [zAr T 0 m_posts 7 g_posts_5], [zAr T 0 m_shut 7 f_shut], [zAr T 0 m_was 7 g_was_6]] _ _ := G
        refine lv_aload_n hx hb dX12_runs0_59 rfl (lv_at hl 0 rfl) ?_
        refine lv_iload_n hx hb dX12_runs0_60 rfl (lv_at hl 1 rfl) ?_
        refine z_Vv (bc := [[zO11 mo m_all m_has i_size i_next i_where i_token i_number i_word i_wrong i_farCrossing m_read i_z0 i_crossings i_inns m_posts m_shut m_here i_steps i_done j_at_3 j_gone_4 m_was m_came m_seenAt m_rowWorth m_farBy m_used i_everywhere i_again0 i_d0 (i_never + 1) i_firstCame i_longRun i_moved i_crowd i_l0 i_fitMany i_fitLeast i_fitMost m_fitPost m_fitEnd m_keptPosts i_x0], [zAr T 0 m_here 7 f_here]]) (br := [[zAr T 0 m_all 3952 f_all], [zAr T 0 m_posts 7 g_posts_5], [zAr T 0 m_shut 7 f_shut], [zAr T 0 m_was 7 g_was_6]]) (As := [.int c_]) (rest := []) C G (c_m_goesFrom l T mo m_all m_has i_size i_next i_where i_token i_number i_word i_wrong i_farCrossing m_read i_z0 i_crossings i_inns m_posts m_shut m_here i_steps i_done j_at_3 j_gone_4 m_was m_came m_seenAt m_rowWorth m_farBy m_used i_everywhere i_again0 i_d0 (i_never + 1) i_firstCame i_longRun i_moved i_crowd i_l0 i_fitMany i_fitLeast i_fitMost m_fitPost m_fitEnd m_keptPosts i_x0 f_here c_ (by first | with_reducible assumption | with_reducible rfl | omega | assumption | rfl | decide) (by first | with_reducible assumption | with_reducible rfl | omega | assumption | rfl | decide) (by first | with_reducible assumption | with_reducible rfl | omega | assumption | rfl | decide) (by first | with_reducible assumption | with_reducible rfl | omega | assumption | rfl | decide)) (kV_RX12_317 C.2.2.2.2 (Nat.le_of_ble_eq_true rfl) (Nat.le_of_ble_eq_true rfl)) [1, 0] [0, 0] rfl rfl (ci := 11) (qc := (RX12, TX12, 43)) rfl rfl (List.mem_flatten.mpr ⟨_, List.mem_of_getElem? (i := 0) rfl, List.mem_cons_self⟩) rfl rfl hl.1 dX12_runs0_61 (Nat.le_of_ble_eq_true rfl) (Nat.le_of_ble_eq_true rfl) (fun b1 H locs hw G => ?_)
        refine zEx4 hw ?_
        intro j_steps_16 j_moved_17 j_firstCame_18 g_here_19 hbs9
        clear hw
        subst hbs9
        have G : zS T A s.heap s [[zAr T 0 m_all 3952 f_all], [zAr T 0 m_posts 7 g_posts_5], [zAr T 0 m_shut 7 f_shut], [zAr T 0 m_was 7 g_was_6], [zO11 mo m_all m_has i_size i_next i_where i_token i_number i_word i_wrong i_farCrossing m_read i_z0 i_crossings i_inns m_posts m_shut m_here j_steps_16 i_done j_at_3 j_gone_4 m_was m_came m_seenAt m_rowWorth m_farBy m_used i_everywhere i_again0 i_d0 (i_never + 1) j_firstCame_18 i_longRun j_moved_17 i_crowd i_l0 i_fitMany i_fitLeast i_fitMost m_fitPost m_fitEnd m_keptPosts i_x0], [zAr T 0 m_here 7 g_here_19]] _ _ := G
        refine lv_iconst (v := 1) hx hb dX12_runs0_64 (by decide) ?_
        have G := G.sub (bs' := [[zO11 mo m_all m_has i_size i_next i_where i_token i_number i_word i_wrong i_farCrossing m_read i_z0 i_crossings i_inns m_posts m_shut m_here j_steps_16 i_done j_at_3 j_gone_4 m_was m_came m_seenAt m_rowWorth m_farBy m_used i_everywhere i_again0 i_d0 (i_never + 1) j_firstCame_18 i_longRun j_moved_17 i_crowd i_l0 i_fitMany i_fitLeast i_fitMost m_fitPost m_fitEnd m_keptPosts i_x0], [zAr T 0 m_all 3952 f_all], [zAr T 0 m_posts 7 g_posts_5], [zAr T 0 m_shut 7 f_shut], [zAr T 0 m_here 7 g_here_19], [zAr T 0 m_was 7 g_was_6]]) [4, 0, 1, 2, 5, 3] rfl
        exact z_back hQz_ (z_zret C hr hlocks G (Nat.le_of_ble_eq_true rfl) (Nat.le_of_ble_eq_true rfl) dX12_runs0_65 rfl ⟨j_at_3, j_gone_4, j_steps_16, j_moved_17, j_firstCame_18, (i_never + 1), i_longRun, g_posts_5, g_here_19, g_was_6, rfl, (Or.inr rfl), (by first | with_reducible assumption | omega | trivial | assumption)⟩)
      · have c_15n : ¬ j_gone_4.toInt ≤ i_longRun.toInt := fun q => c_15 ((fa_le _ _).mpr q)
        refine lv_aload_n hx hb dX12_runs0_45 rfl (lv_at hl 0 rfl) ?_
        refine z_get C G clX12 1 rfl 20 (by decide) m_fl_RX12_208 rfl dX12_runs0_46 ?_
        refine lv_goto (tgt := 56) hx hb dX12_runs0_49 (by decide) ?_
        refine z_put C G clX12 1 rfl 32 (by decide) m_fl_RX12_323 rfl rfl rfl (Nat.le_of_ble_eq_true rfl) dX12_runs0_56 (fun H locs G => ?_)
        have G : zS T A s.heap s [[zAr T 0 m_here 7 f_here], [zO11 mo m_all m_has i_size i_next i_where i_token i_number i_word i_wrong i_farCrossing m_read i_z0 i_crossings i_inns m_posts m_shut m_here i_steps i_done j_at_3 j_gone_4 m_was m_came m_seenAt m_rowWorth m_farBy m_used i_everywhere i_again0 i_d0 (i_never + 1) i_firstCame j_gone_4 i_moved i_crowd i_l0 i_fitMany i_fitLeast i_fitMost m_fitPost m_fitEnd m_keptPosts i_x0], [zAr T 0 m_all 3952 f_all], [zAr T 0 m_posts 7 g_posts_5], [zAr T 0 m_shut 7 f_shut], [zAr T 0 m_was 7 g_was_6]] _ _ := G
        refine lv_aload_n hx hb dX12_runs0_59 rfl (lv_at hl 0 rfl) ?_
        refine lv_iload_n hx hb dX12_runs0_60 rfl (lv_at hl 1 rfl) ?_
        refine z_Vv (bc := [[zO11 mo m_all m_has i_size i_next i_where i_token i_number i_word i_wrong i_farCrossing m_read i_z0 i_crossings i_inns m_posts m_shut m_here i_steps i_done j_at_3 j_gone_4 m_was m_came m_seenAt m_rowWorth m_farBy m_used i_everywhere i_again0 i_d0 (i_never + 1) i_firstCame j_gone_4 i_moved i_crowd i_l0 i_fitMany i_fitLeast i_fitMost m_fitPost m_fitEnd m_keptPosts i_x0], [zAr T 0 m_here 7 f_here]]) (br := [[zAr T 0 m_all 3952 f_all], [zAr T 0 m_posts 7 g_posts_5], [zAr T 0 m_shut 7 f_shut], [zAr T 0 m_was 7 g_was_6]]) (As := [.int c_]) (rest := []) C G (c_m_goesFrom l T mo m_all m_has i_size i_next i_where i_token i_number i_word i_wrong i_farCrossing m_read i_z0 i_crossings i_inns m_posts m_shut m_here i_steps i_done j_at_3 j_gone_4 m_was m_came m_seenAt m_rowWorth m_farBy m_used i_everywhere i_again0 i_d0 (i_never + 1) i_firstCame j_gone_4 i_moved i_crowd i_l0 i_fitMany i_fitLeast i_fitMost m_fitPost m_fitEnd m_keptPosts i_x0 f_here c_ (by first | with_reducible assumption | with_reducible rfl | omega | assumption | rfl | decide) (by first | with_reducible assumption | with_reducible rfl | omega | assumption | rfl | decide) (by first | with_reducible assumption | with_reducible rfl | omega | assumption | rfl | decide) (by first | with_reducible assumption | with_reducible rfl | omega | assumption | rfl | decide)) (kV_RX12_317 C.2.2.2.2 (Nat.le_of_ble_eq_true rfl) (Nat.le_of_ble_eq_true rfl)) [1, 0] [0, 0] rfl rfl (ci := 11) (qc := (RX12, TX12, 43)) rfl rfl (List.mem_flatten.mpr ⟨_, List.mem_of_getElem? (i := 0) rfl, List.mem_cons_self⟩) rfl rfl hl.1 dX12_runs0_61 (Nat.le_of_ble_eq_true rfl) (Nat.le_of_ble_eq_true rfl) (fun b1 H locs hw G => ?_)
        refine zEx4 hw ?_
        intro j_steps_21 j_moved_22 j_firstCame_23 g_here_24 hbs9
        clear hw
        subst hbs9
        have G : zS T A s.heap s [[zAr T 0 m_all 3952 f_all], [zAr T 0 m_posts 7 g_posts_5], [zAr T 0 m_shut 7 f_shut], [zAr T 0 m_was 7 g_was_6], [zO11 mo m_all m_has i_size i_next i_where i_token i_number i_word i_wrong i_farCrossing m_read i_z0 i_crossings i_inns m_posts m_shut m_here j_steps_21 i_done j_at_3 j_gone_4 m_was m_came m_seenAt m_rowWorth m_farBy m_used i_everywhere i_again0 i_d0 (i_never + 1) j_firstCame_23 j_gone_4 j_moved_22 i_crowd i_l0 i_fitMany i_fitLeast i_fitMost m_fitPost m_fitEnd m_keptPosts i_x0], [zAr T 0 m_here 7 g_here_24]] _ _ := G
        refine lv_iconst (v := 1) hx hb dX12_runs0_64 (by decide) ?_
        have G := G.sub (bs' := [[zO11 mo m_all m_has i_size i_next i_where i_token i_number i_word i_wrong i_farCrossing m_read i_z0 i_crossings i_inns m_posts m_shut m_here j_steps_21 i_done j_at_3 j_gone_4 m_was m_came m_seenAt m_rowWorth m_farBy m_used i_everywhere i_again0 i_d0 (i_never + 1) j_firstCame_23 j_gone_4 j_moved_22 i_crowd i_l0 i_fitMany i_fitLeast i_fitMost m_fitPost m_fitEnd m_keptPosts i_x0], [zAr T 0 m_all 3952 f_all], [zAr T 0 m_posts 7 g_posts_5], [zAr T 0 m_shut 7 f_shut], [zAr T 0 m_here 7 g_here_24], [zAr T 0 m_was 7 g_was_6]]) [4, 0, 1, 2, 5, 3] rfl
        exact z_back hQz_ (z_zret C hr hlocks G (Nat.le_of_ble_eq_true rfl) (Nat.le_of_ble_eq_true rfl) dX12_runs0_65 rfl ⟨j_at_3, j_gone_4, j_steps_21, j_moved_22, j_firstCame_23, (i_never + 1), j_gone_4, g_posts_5, g_here_24, g_was_6, rfl, (Or.inr rfl), (by first | with_reducible assumption | omega | trivial | assumption)⟩)
    · have c_14n : ¬ r_13.toInt = (0 : Int) := fun q => c_14 ((fa_eq _ _).mpr q)
      refine lv_iconst (v := 0) hx hb dX12_runs0_24 (by decide) ?_
      refine lv_goto (tgt := 29) hx hb dX12_runs0_25 (by decide) ?_
      refine lv_iadd hx hb dX12_runs0_29 ?_
      refine z_put C G clX12 1 rfl 30 (by decide) m_fl_RX12_320 rfl rfl rfl (Nat.le_of_ble_eq_true rfl) dX12_runs0_30 (fun H locs G => ?_)
      have G : zS T A s.heap s [[zAr T 0 m_here 7 f_here], [zO11 mo m_all m_has i_size i_next i_where i_token i_number i_word i_wrong i_farCrossing m_read i_z0 i_crossings i_inns m_posts m_shut m_here i_steps i_done j_at_3 j_gone_4 m_was m_came m_seenAt m_rowWorth m_farBy m_used i_everywhere i_again0 i_d0 (i_never + 0) i_firstCame i_longRun i_moved i_crowd i_l0 i_fitMany i_fitLeast i_fitMost m_fitPost m_fitEnd m_keptPosts i_x0], [zAr T 0 m_all 3952 f_all], [zAr T 0 m_posts 7 g_posts_5], [zAr T 0 m_shut 7 f_shut], [zAr T 0 m_was 7 g_was_6]] _ _ := G
      refine lv_aload_n hx hb dX12_runs0_33 rfl (lv_at hl 0 rfl) ?_
      refine lv_aload_n hx hb dX12_runs0_34 rfl (lv_at hl 0 rfl) ?_
      refine z_get C G clX12 1 rfl 20 (by decide) m_fl_RX12_208 rfl dX12_runs0_35 ?_
      refine lv_aload_n hx hb dX12_runs0_38 rfl (lv_at hl 0 rfl) ?_
      refine z_get C G clX12 1 rfl 32 (by decide) m_fl_RX12_323 rfl dX12_runs0_39 ?_
      refine lv_icmp_le (tgt := 52) hx hb dX12_runs0_42 (by decide) (fun c_26 => ?_) (fun c_26 => ?_)
      · have c_26n : j_gone_4.toInt ≤ i_longRun.toInt := (fa_le _ _).mp c_26
        refine lv_aload_n hx hb dX12_runs0_52 rfl (lv_at hl 0 rfl) ?_
        refine z_get C G clX12 1 rfl 32 (by decide) m_fl_RX12_323 rfl dX12_runs0_53 ?_
        refine z_put C G clX12 1 rfl 32 (by decide) m_fl_RX12_323 rfl rfl rfl (Nat.le_of_ble_eq_true rfl) dX12_runs0_56 (fun H locs G => ?_)
        have G : zS T A s.heap s [[zAr T 0 m_here 7 f_here], [zO11 mo m_all m_has i_size i_next i_where i_token i_number i_word i_wrong i_farCrossing m_read i_z0 i_crossings i_inns m_posts m_shut m_here i_steps i_done j_at_3 j_gone_4 m_was m_came m_seenAt m_rowWorth m_farBy m_used i_everywhere i_again0 i_d0 (i_never + 0) i_firstCame i_longRun i_moved i_crowd i_l0 i_fitMany i_fitLeast i_fitMost m_fitPost m_fitEnd m_keptPosts i_x0], [zAr T 0 m_all 3952 f_all], [zAr T 0 m_posts 7 g_posts_5], [zAr T 0 m_shut 7 f_shut], [zAr T 0 m_was 7 g_was_6]] _ _ := G
        refine lv_aload_n hx hb dX12_runs0_59 rfl (lv_at hl 0 rfl) ?_
        refine lv_iload_n hx hb dX12_runs0_60 rfl (lv_at hl 1 rfl) ?_
        refine z_Vv (bc := [[zO11 mo m_all m_has i_size i_next i_where i_token i_number i_word i_wrong i_farCrossing m_read i_z0 i_crossings i_inns m_posts m_shut m_here i_steps i_done j_at_3 j_gone_4 m_was m_came m_seenAt m_rowWorth m_farBy m_used i_everywhere i_again0 i_d0 (i_never + 0) i_firstCame i_longRun i_moved i_crowd i_l0 i_fitMany i_fitLeast i_fitMost m_fitPost m_fitEnd m_keptPosts i_x0], [zAr T 0 m_here 7 f_here]]) (br := [[zAr T 0 m_all 3952 f_all], [zAr T 0 m_posts 7 g_posts_5], [zAr T 0 m_shut 7 f_shut], [zAr T 0 m_was 7 g_was_6]]) (As := [.int c_]) (rest := []) C G (c_m_goesFrom l T mo m_all m_has i_size i_next i_where i_token i_number i_word i_wrong i_farCrossing m_read i_z0 i_crossings i_inns m_posts m_shut m_here i_steps i_done j_at_3 j_gone_4 m_was m_came m_seenAt m_rowWorth m_farBy m_used i_everywhere i_again0 i_d0 (i_never + 0) i_firstCame i_longRun i_moved i_crowd i_l0 i_fitMany i_fitLeast i_fitMost m_fitPost m_fitEnd m_keptPosts i_x0 f_here c_ (by first | with_reducible assumption | with_reducible rfl | omega | assumption | rfl | decide) (by first | with_reducible assumption | with_reducible rfl | omega | assumption | rfl | decide) (by first | with_reducible assumption | with_reducible rfl | omega | assumption | rfl | decide) (by first | with_reducible assumption | with_reducible rfl | omega | assumption | rfl | decide)) (kV_RX12_317 C.2.2.2.2 (Nat.le_of_ble_eq_true rfl) (Nat.le_of_ble_eq_true rfl)) [1, 0] [0, 0] rfl rfl (ci := 11) (qc := (RX12, TX12, 43)) rfl rfl (List.mem_flatten.mpr ⟨_, List.mem_of_getElem? (i := 0) rfl, List.mem_cons_self⟩) rfl rfl hl.1 dX12_runs0_61 (Nat.le_of_ble_eq_true rfl) (Nat.le_of_ble_eq_true rfl) (fun b1 H locs hw G => ?_)
        refine zEx4 hw ?_
        intro j_steps_27 j_moved_28 j_firstCame_29 g_here_30 hbs9
        clear hw
        subst hbs9
        have G : zS T A s.heap s [[zAr T 0 m_all 3952 f_all], [zAr T 0 m_posts 7 g_posts_5], [zAr T 0 m_shut 7 f_shut], [zAr T 0 m_was 7 g_was_6], [zO11 mo m_all m_has i_size i_next i_where i_token i_number i_word i_wrong i_farCrossing m_read i_z0 i_crossings i_inns m_posts m_shut m_here j_steps_27 i_done j_at_3 j_gone_4 m_was m_came m_seenAt m_rowWorth m_farBy m_used i_everywhere i_again0 i_d0 (i_never + 0) j_firstCame_29 i_longRun j_moved_28 i_crowd i_l0 i_fitMany i_fitLeast i_fitMost m_fitPost m_fitEnd m_keptPosts i_x0], [zAr T 0 m_here 7 g_here_30]] _ _ := G
        refine lv_iconst (v := 1) hx hb dX12_runs0_64 (by decide) ?_
        have G := G.sub (bs' := [[zO11 mo m_all m_has i_size i_next i_where i_token i_number i_word i_wrong i_farCrossing m_read i_z0 i_crossings i_inns m_posts m_shut m_here j_steps_27 i_done j_at_3 j_gone_4 m_was m_came m_seenAt m_rowWorth m_farBy m_used i_everywhere i_again0 i_d0 (i_never + 0) j_firstCame_29 i_longRun j_moved_28 i_crowd i_l0 i_fitMany i_fitLeast i_fitMost m_fitPost m_fitEnd m_keptPosts i_x0], [zAr T 0 m_all 3952 f_all], [zAr T 0 m_posts 7 g_posts_5], [zAr T 0 m_shut 7 f_shut], [zAr T 0 m_here 7 g_here_30], [zAr T 0 m_was 7 g_was_6]]) [4, 0, 1, 2, 5, 3] rfl
        exact z_back hQz_ (z_zret C hr hlocks G (Nat.le_of_ble_eq_true rfl) (Nat.le_of_ble_eq_true rfl) dX12_runs0_65 rfl ⟨j_at_3, j_gone_4, j_steps_27, j_moved_28, j_firstCame_29, (i_never + 0), i_longRun, g_posts_5, g_here_30, g_was_6, rfl, (Or.inr rfl), (by first | with_reducible assumption | omega | trivial | assumption)⟩)
      · have c_26n : ¬ j_gone_4.toInt ≤ i_longRun.toInt := fun q => c_26 ((fa_le _ _).mpr q)
        refine lv_aload_n hx hb dX12_runs0_45 rfl (lv_at hl 0 rfl) ?_
        refine z_get C G clX12 1 rfl 20 (by decide) m_fl_RX12_208 rfl dX12_runs0_46 ?_
        refine lv_goto (tgt := 56) hx hb dX12_runs0_49 (by decide) ?_
        refine z_put C G clX12 1 rfl 32 (by decide) m_fl_RX12_323 rfl rfl rfl (Nat.le_of_ble_eq_true rfl) dX12_runs0_56 (fun H locs G => ?_)
        have G : zS T A s.heap s [[zAr T 0 m_here 7 f_here], [zO11 mo m_all m_has i_size i_next i_where i_token i_number i_word i_wrong i_farCrossing m_read i_z0 i_crossings i_inns m_posts m_shut m_here i_steps i_done j_at_3 j_gone_4 m_was m_came m_seenAt m_rowWorth m_farBy m_used i_everywhere i_again0 i_d0 (i_never + 0) i_firstCame j_gone_4 i_moved i_crowd i_l0 i_fitMany i_fitLeast i_fitMost m_fitPost m_fitEnd m_keptPosts i_x0], [zAr T 0 m_all 3952 f_all], [zAr T 0 m_posts 7 g_posts_5], [zAr T 0 m_shut 7 f_shut], [zAr T 0 m_was 7 g_was_6]] _ _ := G
        refine lv_aload_n hx hb dX12_runs0_59 rfl (lv_at hl 0 rfl) ?_
        refine lv_iload_n hx hb dX12_runs0_60 rfl (lv_at hl 1 rfl) ?_
        refine z_Vv (bc := [[zO11 mo m_all m_has i_size i_next i_where i_token i_number i_word i_wrong i_farCrossing m_read i_z0 i_crossings i_inns m_posts m_shut m_here i_steps i_done j_at_3 j_gone_4 m_was m_came m_seenAt m_rowWorth m_farBy m_used i_everywhere i_again0 i_d0 (i_never + 0) i_firstCame j_gone_4 i_moved i_crowd i_l0 i_fitMany i_fitLeast i_fitMost m_fitPost m_fitEnd m_keptPosts i_x0], [zAr T 0 m_here 7 f_here]]) (br := [[zAr T 0 m_all 3952 f_all], [zAr T 0 m_posts 7 g_posts_5], [zAr T 0 m_shut 7 f_shut], [zAr T 0 m_was 7 g_was_6]]) (As := [.int c_]) (rest := []) C G (c_m_goesFrom l T mo m_all m_has i_size i_next i_where i_token i_number i_word i_wrong i_farCrossing m_read i_z0 i_crossings i_inns m_posts m_shut m_here i_steps i_done j_at_3 j_gone_4 m_was m_came m_seenAt m_rowWorth m_farBy m_used i_everywhere i_again0 i_d0 (i_never + 0) i_firstCame j_gone_4 i_moved i_crowd i_l0 i_fitMany i_fitLeast i_fitMost m_fitPost m_fitEnd m_keptPosts i_x0 f_here c_ (by first | with_reducible assumption | with_reducible rfl | omega | assumption | rfl | decide) (by first | with_reducible assumption | with_reducible rfl | omega | assumption | rfl | decide) (by first | with_reducible assumption | with_reducible rfl | omega | assumption | rfl | decide) (by first | with_reducible assumption | with_reducible rfl | omega | assumption | rfl | decide)) (kV_RX12_317 C.2.2.2.2 (Nat.le_of_ble_eq_true rfl) (Nat.le_of_ble_eq_true rfl)) [1, 0] [0, 0] rfl rfl (ci := 11) (qc := (RX12, TX12, 43)) rfl rfl (List.mem_flatten.mpr ⟨_, List.mem_of_getElem? (i := 0) rfl, List.mem_cons_self⟩) rfl rfl hl.1 dX12_runs0_61 (Nat.le_of_ble_eq_true rfl) (Nat.le_of_ble_eq_true rfl) (fun b1 H locs hw G => ?_)
        refine zEx4 hw ?_
        intro j_steps_32 j_moved_33 j_firstCame_34 g_here_35 hbs9
        clear hw
        subst hbs9
        have G : zS T A s.heap s [[zAr T 0 m_all 3952 f_all], [zAr T 0 m_posts 7 g_posts_5], [zAr T 0 m_shut 7 f_shut], [zAr T 0 m_was 7 g_was_6], [zO11 mo m_all m_has i_size i_next i_where i_token i_number i_word i_wrong i_farCrossing m_read i_z0 i_crossings i_inns m_posts m_shut m_here j_steps_32 i_done j_at_3 j_gone_4 m_was m_came m_seenAt m_rowWorth m_farBy m_used i_everywhere i_again0 i_d0 (i_never + 0) j_firstCame_34 j_gone_4 j_moved_33 i_crowd i_l0 i_fitMany i_fitLeast i_fitMost m_fitPost m_fitEnd m_keptPosts i_x0], [zAr T 0 m_here 7 g_here_35]] _ _ := G
        refine lv_iconst (v := 1) hx hb dX12_runs0_64 (by decide) ?_
        have G := G.sub (bs' := [[zO11 mo m_all m_has i_size i_next i_where i_token i_number i_word i_wrong i_farCrossing m_read i_z0 i_crossings i_inns m_posts m_shut m_here j_steps_32 i_done j_at_3 j_gone_4 m_was m_came m_seenAt m_rowWorth m_farBy m_used i_everywhere i_again0 i_d0 (i_never + 0) j_firstCame_34 j_gone_4 j_moved_33 i_crowd i_l0 i_fitMany i_fitLeast i_fitMost m_fitPost m_fitEnd m_keptPosts i_x0], [zAr T 0 m_all 3952 f_all], [zAr T 0 m_posts 7 g_posts_5], [zAr T 0 m_shut 7 f_shut], [zAr T 0 m_here 7 g_here_35], [zAr T 0 m_was 7 g_was_6]]) [4, 0, 1, 2, 5, 3] rfl
        exact z_back hQz_ (z_zret C hr hlocks G (Nat.le_of_ble_eq_true rfl) (Nat.le_of_ble_eq_true rfl) dX12_runs0_65 rfl ⟨j_at_3, j_gone_4, j_steps_32, j_moved_33, j_firstCame_34, (i_never + 0), j_gone_4, g_posts_5, g_here_35, g_was_6, rfl, (Or.inr rfl), (by first | with_reducible assumption | omega | trivial | assumption)⟩)
  · have c_2n : (f_here c_.toNatClampNeg).toInt = (0 : Int) := (fa_eq _ _).mp c_2
    refine lv_iconst (v := 0) hx hb dX12_runs0_9 (by decide) ?_
    exact z_back hQz_ (z_zret C hr hlocks G (Nat.le_of_ble_eq_true rfl) (Nat.le_of_ble_eq_true rfl) dX12_runs0_10 rfl ⟨i_at, i_gone, i_steps, i_moved, i_firstCame, i_never, i_longRun, f_posts, f_here, f_was, rfl, (Or.inl rfl), (by first | with_reducible assumption | omega | trivial | assumption)⟩)
set_option maxHeartbeats 4000000 in
set_option maxRecDepth 100000 in
/-- c_m_adds -/
theorem c_m_adds (l : Launch) (T : zTy) (mo : Nat) (m_all : Nat) (m_has : Nat) (i_size : Int32) (i_next : Int32) (i_where : Int32) (i_token : Int32) (i_number : Int32) (i_word : Int32) (i_wrong : Int32) (i_farCrossing : Int32) (m_read : Nat) (i_z0 : Int32) (i_crossings : Int32) (i_inns : Int32) (m_posts : Nat) (m_shut : Nat) (m_here : Nat) (i_steps : Int32) (i_done : Int32) (i_at : Int32) (i_gone : Int32) (m_was : Nat) (m_came : Nat) (m_seenAt : Nat) (m_rowWorth : Nat) (m_farBy : Nat) (m_used : Nat) (i_everywhere : Int32) (i_again0 : Int32) (i_d0 : Int32) (i_never : Int32) (i_firstCame : Int32) (i_longRun : Int32) (i_moved : Int32) (i_crowd : Int32) (i_l0 : Int32) (i_fitMany : Int32) (i_fitLeast : Int32) (i_fitMost : Int32) (m_fitPost : Nat) (m_fitEnd : Nat) (m_keptPosts : Nat) (i_x0 : Int32) (f_here : Nat → Int32) (c_ : Int32) (hc0 : 0 ≤ c_.toInt) (hc6 : c_.toInt ≤ 6) : zMi l T yX12_adds cX12_adds 2 (some .boolean) 1 0 0 [.ref mo, .int c_] [[zO11 mo m_all m_has i_size i_next i_where i_token i_number i_word i_wrong i_farCrossing m_read i_z0 i_crossings i_inns m_posts m_shut m_here i_steps i_done i_at i_gone m_was m_came m_seenAt m_rowWorth m_farBy m_used i_everywhere i_again0 i_d0 i_never i_firstCame i_longRun i_moved i_crowd i_l0 i_fitMany i_fitLeast i_fitMost m_fitPost m_fitEnd m_keptPosts i_x0], [zAr T 0 m_here 7 f_here]] (fun (r : Int32) bs => ∃ (g_here : Nat → Int32), bs = [[zO11 mo m_all m_has i_size i_next i_where i_token i_number i_word i_wrong i_farCrossing m_read i_z0 i_crossings i_inns m_posts m_shut m_here i_steps i_done i_at i_gone m_was m_came m_seenAt m_rowWorth m_farBy m_used i_everywhere i_again0 i_d0 i_never i_firstCame i_longRun i_moved i_crowd i_l0 i_fitMany i_fitLeast i_fitMost m_fitPost m_fitEnd m_keptPosts i_x0], [zAr T 0 m_here 7 g_here]] ∧ (r = 0 ∨ r = 1)) := by
  refine zMi_of (own := RX12) (by decide) rfl (Nat.le_of_ble_eq_true rfl) ?_
  intro p e s m args below meth c A ls C hr hlocks hnm hAe G hl
  refine zHide (fun Qz_ hQz_ => ?_)
  have hx := C.1
  have hb := C.2.1
  have hl : lv_has ls 2 [(0, .ref mo), (1, .int c_)] := hl
  refine lv_aload_n hx hb dX12_adds_0 rfl (lv_at hl 0 rfl) ?_
  refine z_get C G clX12 0 rfl 16 (by decide) m_fl_RX12_26 rfl dX12_adds_1 ?_
  refine lv_iload_n hx hb dX12_adds_4 rfl (lv_at hl 1 rfl) ?_
  refine z_ild C G 1 rfl (vp_in_iff.mpr ⟨by omega, by omega⟩) dX12_adds_5 ?_
  refine lv_topi (fun v_1 ev_1 => ?_)
  subst ev_1
  refine lv_bipush (v := 99) hx hb dX12_adds_6 (by decide) ?_
  refine lv_icmp_lt (tgt := 13) hx hb dX12_adds_8 (by decide) (fun c_2 => ?_) (fun c_2 => ?_)
  · have c_2n : (f_here c_.toNatClampNeg).toInt < (99 : Int) := (fa_lt _ _).mp c_2
    refine lv_aload_n hx hb dX12_adds_13 rfl (lv_at hl 0 rfl) ?_
    refine z_get C G clX12 0 rfl 16 (by decide) m_fl_RX12_26 rfl dX12_adds_14 ?_
    refine lv_iload_n hx hb dX12_adds_17 rfl (lv_at hl 1 rfl) ?_
    refine lv_dup2_11 hx hb dX12_adds_18 rfl rfl ?_
    refine z_ild C G 1 rfl (vp_in_iff.mpr ⟨by omega, by omega⟩) dX12_adds_19 ?_
    refine lv_topi (fun v_3 ev_3 => ?_)
    subst ev_3
    refine lv_iconst (v := 1) hx hb dX12_adds_20 (by decide) ?_
    refine lv_iadd hx hb dX12_adds_21 ?_
    refine z_ist C G 1 rfl (vp_in_iff.mpr ⟨by omega, by omega⟩) dX12_adds_22 (fun H locs G => ?_)
    have G : zS T A s.heap s [[zO11 mo m_all m_has i_size i_next i_where i_token i_number i_word i_wrong i_farCrossing m_read i_z0 i_crossings i_inns m_posts m_shut m_here i_steps i_done i_at i_gone m_was m_came m_seenAt m_rowWorth m_farBy m_used i_everywhere i_again0 i_d0 i_never i_firstCame i_longRun i_moved i_crowd i_l0 i_fitMany i_fitLeast i_fitMost m_fitPost m_fitEnd m_keptPosts i_x0], [zAr T 0 m_here 7 (upd f_here c_.toNatClampNeg ((f_here c_.toNatClampNeg) + 1))]] _ _ := G
    refine lv_iconst (v := 1) hx hb dX12_adds_23 (by decide) ?_
    exact z_back hQz_ (z_zret C hr hlocks G (Nat.le_of_ble_eq_true rfl) (Nat.le_of_ble_eq_true rfl) dX12_adds_24 rfl ⟨(upd f_here c_.toNatClampNeg ((f_here c_.toNatClampNeg) + 1)), rfl, (Or.inr rfl)⟩)
  · have c_2n : ¬ (f_here c_.toNatClampNeg).toInt < (99 : Int) := fun q => c_2 ((fa_lt _ _).mpr q)
    refine lv_iconst (v := 0) hx hb dX12_adds_11 (by decide) ?_
    exact z_back hQz_ (z_zret C hr hlocks G (Nat.le_of_ble_eq_true rfl) (Nat.le_of_ble_eq_true rfl) dX12_adds_12 rfl ⟨f_here, rfl, (Or.inl rfl)⟩)
set_option maxHeartbeats 4000000 in
set_option maxRecDepth 100000 in
/-- c_m_shuts -/
theorem c_m_shuts (l : Launch) (T : zTy) (mo : Nat) (m_all : Nat) (m_has : Nat) (i_size : Int32) (i_next : Int32) (i_where : Int32) (i_token : Int32) (i_number : Int32) (i_word : Int32) (i_wrong : Int32) (i_farCrossing : Int32) (m_read : Nat) (i_z0 : Int32) (i_crossings : Int32) (i_inns : Int32) (m_posts : Nat) (m_shut : Nat) (m_here : Nat) (i_steps : Int32) (i_done : Int32) (i_at : Int32) (i_gone : Int32) (m_was : Nat) (m_came : Nat) (m_seenAt : Nat) (m_rowWorth : Nat) (m_farBy : Nat) (m_used : Nat) (i_everywhere : Int32) (i_again0 : Int32) (i_d0 : Int32) (i_never : Int32) (i_firstCame : Int32) (i_longRun : Int32) (i_moved : Int32) (i_crowd : Int32) (i_l0 : Int32) (i_fitMany : Int32) (i_fitLeast : Int32) (i_fitMost : Int32) (m_fitPost : Nat) (m_fitEnd : Nat) (m_keptPosts : Nat) (i_x0 : Int32) (f_all : Nat → Int32) (f_shut : Nat → Int32) (c_ : Int32) (k_ : Int32) (w_ : Int32) (hL : zML f_all i_z0 i_crossings) (hc0 : 0 ≤ c_.toInt) (hc6 : c_.toInt ≤ 6) : zMi l T yX12_shuts cX12_shuts 4 (some .boolean) 2 0 0 [.ref mo, .int c_, .int k_, .int w_] [[zO11 mo m_all m_has i_size i_next i_where i_token i_number i_word i_wrong i_farCrossing m_read i_z0 i_crossings i_inns m_posts m_shut m_here i_steps i_done i_at i_gone m_was m_came m_seenAt m_rowWorth m_farBy m_used i_everywhere i_again0 i_d0 i_never i_firstCame i_longRun i_moved i_crowd i_l0 i_fitMany i_fitLeast i_fitMost m_fitPost m_fitEnd m_keptPosts i_x0], [zAr T 0 m_all 3952 f_all], [zAr T 0 m_shut 7 f_shut]] (fun (r : Int32) bs => ∃ (g_shut : Nat → Int32), bs = [[zO11 mo m_all m_has i_size i_next i_where i_token i_number i_word i_wrong i_farCrossing m_read i_z0 i_crossings i_inns m_posts m_shut m_here i_steps i_done i_at i_gone m_was m_came m_seenAt m_rowWorth m_farBy m_used i_everywhere i_again0 i_d0 i_never i_firstCame i_longRun i_moved i_crowd i_l0 i_fitMany i_fitLeast i_fitMost m_fitPost m_fitEnd m_keptPosts i_x0], [zAr T 0 m_all 3952 f_all], [zAr T 0 m_shut 7 g_shut]] ∧ (r = 0 ∨ r = 1)) := by
  refine zMi_of (own := RX12) (by decide) rfl (Nat.le_of_ble_eq_true rfl) ?_
  intro p e s m args below meth c A ls C hr hlocks hnm hAe G hl
  refine zHide (fun Qz_ hQz_ => ?_)
  have hx := C.1
  have hb := C.2.1
  have hl : lv_has ls 4 [(0, .ref mo), (1, .int c_), (2, .int k_), (3, .int w_)] := hl
  refine lv_iload_n hx hb dX12_shuts_0 rfl (lv_at hl 2 rfl) ?_
  refine lv_aload_n hx hb dX12_shuts_1 rfl (lv_at hl 0 rfl) ?_
  refine lv_iload_n hx hb dX12_shuts_2 rfl (lv_at hl 1 rfl) ?_
  refine z_Vi (bc := [[zO11 mo m_all m_has i_size i_next i_where i_token i_number i_word i_wrong i_farCrossing m_read i_z0 i_crossings i_inns m_posts m_shut m_here i_steps i_done i_at i_gone m_was m_came m_seenAt m_rowWorth m_farBy m_used i_everywhere i_again0 i_d0 i_never i_firstCame i_longRun i_moved i_crowd i_l0 i_fitMany i_fitLeast i_fitMost m_fitPost m_fitEnd m_keptPosts i_x0], [zAr T 0 m_all 3952 f_all]]) (br := [[zAr T 0 m_shut 7 f_shut]]) (As := [.int c_]) (rest := [.int k_]) C G (c_m_roadsOf l T mo m_all m_has i_size i_next i_where i_token i_number i_word i_wrong i_farCrossing m_read i_z0 i_crossings i_inns m_posts m_shut m_here i_steps i_done i_at i_gone m_was m_came m_seenAt m_rowWorth m_farBy m_used i_everywhere i_again0 i_d0 i_never i_firstCame i_longRun i_moved i_crowd i_l0 i_fitMany i_fitLeast i_fitMost m_fitPost m_fitEnd m_keptPosts i_x0 f_all c_ (by first | with_reducible assumption | with_reducible rfl | omega | assumption | rfl | decide) (by first | with_reducible assumption | with_reducible rfl | omega | assumption | rfl | decide) (by first | with_reducible assumption | with_reducible rfl | omega | assumption | rfl | decide)) (kV_RX12_181 C.2.2.2.2 (Nat.le_of_ble_eq_true rfl) (Nat.le_of_ble_eq_true rfl)) [0, 1] [0, 0] rfl rfl (ci := 11) (qc := (RX12, TX12, 43)) rfl rfl (List.mem_flatten.mpr ⟨_, List.mem_of_getElem? (i := 0) rfl, List.mem_cons_self⟩) rfl rfl hl.1 dX12_shuts_3 (Nat.le_of_ble_eq_true rfl) (Nat.le_of_ble_eq_true rfl) (fun r_4 b1 H locs hw G => ?_)
  refine zAn4 hw ?_
  intro hbs9 h_1 h_2 h_3
  clear hw
  subst hbs9
  have G : zS T A s.heap s [[zAr T 0 m_shut 7 f_shut], [zO11 mo m_all m_has i_size i_next i_where i_token i_number i_word i_wrong i_farCrossing m_read i_z0 i_crossings i_inns m_posts m_shut m_here i_steps i_done i_at i_gone m_was m_came m_seenAt m_rowWorth m_farBy m_used i_everywhere i_again0 i_d0 i_never i_firstCame i_longRun i_moved i_crowd i_l0 i_fitMany i_fitLeast i_fitMost m_fitPost m_fitEnd m_keptPosts i_x0], [zAr T 0 m_all 3952 f_all]] _ _ := G
  subst h_1
  refine lv_icmp_ge (tgt := 32) hx hb dX12_shuts_6 (by decide) (fun c_5 => ?_) (fun c_5 => ?_)
  · have c_5n : (zRd f_all i_z0 c_).toInt ≤ k_.toInt := (fa_le _ _).mp c_5
    refine lv_iconst (v := 0) hx hb dX12_shuts_32 (by decide) ?_
    have G := G.sub (bs' := [[zO11 mo m_all m_has i_size i_next i_where i_token i_number i_word i_wrong i_farCrossing m_read i_z0 i_crossings i_inns m_posts m_shut m_here i_steps i_done i_at i_gone m_was m_came m_seenAt m_rowWorth m_farBy m_used i_everywhere i_again0 i_d0 i_never i_firstCame i_longRun i_moved i_crowd i_l0 i_fitMany i_fitLeast i_fitMost m_fitPost m_fitEnd m_keptPosts i_x0], [zAr T 0 m_all 3952 f_all], [zAr T 0 m_shut 7 f_shut]]) [1, 2, 0] rfl
    exact z_back hQz_ (z_zret C hr hlocks G (Nat.le_of_ble_eq_true rfl) (Nat.le_of_ble_eq_true rfl) dX12_shuts_33 rfl ⟨f_shut, rfl, (Or.inl rfl)⟩)
  · have c_5n : ¬ (zRd f_all i_z0 c_).toInt ≤ k_.toInt := fun q => c_5 ((fa_le _ _).mpr q)
    refine lv_aload_n hx hb dX12_shuts_9 rfl (lv_at hl 0 rfl) ?_
    refine z_get C G clX12 1 rfl 15 (by decide) m_fl_RX12_23 rfl dX12_shuts_10 ?_
    refine lv_iload_n hx hb dX12_shuts_13 rfl (lv_at hl 1 rfl) ?_
    refine z_ild C G 0 rfl (vp_in_iff.mpr ⟨by omega, by omega⟩) dX12_shuts_14 ?_
    refine lv_topi (fun v_6 ev_6 => ?_)
    subst ev_6
    refine lv_iload_n hx hb dX12_shuts_15 rfl (lv_at hl 2 rfl) ?_
    refine lv_ishr hx hb dX12_shuts_16 ?_
    refine lv_iconst (v := 1) hx hb dX12_shuts_17 (by decide) ?_
    refine lv_iand hx hb dX12_shuts_18 ?_
    refine lv_iconst (v := 1) hx hb dX12_shuts_19 (by decide) ?_
    refine lv_icmp_ne (tgt := 27) hx hb dX12_shuts_20 (by decide) (fun c_7 => ?_) (fun c_7 => ?_)
    · have c_7n : ¬ (((f_shut c_.toNatClampNeg) >>> (k_ &&& 31)) &&& 1).toInt = (1 : Int) := fun q => c_7 ((fa_eq _ _).mpr q)
      refine lv_iconst (v := 0) hx hb dX12_shuts_27 (by decide) ?_
      refine lv_iload_n hx hb dX12_shuts_28 rfl (lv_at hl 3 rfl) ?_
      refine lv_icmp_ne (tgt := 34) hx hb dX12_shuts_29 (by decide) (fun c_8 => ?_) (fun c_8 => ?_)
      · have c_8n : ¬ (0 : Int) = w_.toInt := fun q => c_8 ((fa_eq _ _).mpr q)
        refine lv_aload_n hx hb dX12_shuts_34 rfl (lv_at hl 0 rfl) ?_
        refine z_get C G clX12 1 rfl 15 (by decide) m_fl_RX12_23 rfl dX12_shuts_35 ?_
        refine lv_iload_n hx hb dX12_shuts_38 rfl (lv_at hl 1 rfl) ?_
        refine lv_dup2_11 hx hb dX12_shuts_39 rfl rfl ?_
        refine z_ild C G 0 rfl (vp_in_iff.mpr ⟨by omega, by omega⟩) dX12_shuts_40 ?_
        refine lv_topi (fun v_9 ev_9 => ?_)
        subst ev_9
        refine lv_iconst (v := 1) hx hb dX12_shuts_41 (by decide) ?_
        refine lv_iload_n hx hb dX12_shuts_42 rfl (lv_at hl 2 rfl) ?_
        refine lv_ishl hx hb dX12_shuts_43 ?_
        refine lv_ixor hx hb dX12_shuts_44 ?_
        refine z_ist C G 0 rfl (vp_in_iff.mpr ⟨by omega, by omega⟩) dX12_shuts_45 (fun H locs G => ?_)
        have G : zS T A s.heap s [[zAr T 0 m_shut 7 (upd f_shut c_.toNatClampNeg ((f_shut c_.toNatClampNeg) ^^^ (1 <<< (k_ &&& 31))))], [zO11 mo m_all m_has i_size i_next i_where i_token i_number i_word i_wrong i_farCrossing m_read i_z0 i_crossings i_inns m_posts m_shut m_here i_steps i_done i_at i_gone m_was m_came m_seenAt m_rowWorth m_farBy m_used i_everywhere i_again0 i_d0 i_never i_firstCame i_longRun i_moved i_crowd i_l0 i_fitMany i_fitLeast i_fitMost m_fitPost m_fitEnd m_keptPosts i_x0], [zAr T 0 m_all 3952 f_all]] _ _ := G
        refine lv_iconst (v := 1) hx hb dX12_shuts_46 (by decide) ?_
        have G := G.sub (bs' := [[zO11 mo m_all m_has i_size i_next i_where i_token i_number i_word i_wrong i_farCrossing m_read i_z0 i_crossings i_inns m_posts m_shut m_here i_steps i_done i_at i_gone m_was m_came m_seenAt m_rowWorth m_farBy m_used i_everywhere i_again0 i_d0 i_never i_firstCame i_longRun i_moved i_crowd i_l0 i_fitMany i_fitLeast i_fitMost m_fitPost m_fitEnd m_keptPosts i_x0], [zAr T 0 m_all 3952 f_all], [zAr T 0 m_shut 7 (upd f_shut c_.toNatClampNeg ((f_shut c_.toNatClampNeg) ^^^ (1 <<< (k_ &&& 31))))]]) [1, 2, 0] rfl
        exact z_back hQz_ (z_zret C hr hlocks G (Nat.le_of_ble_eq_true rfl) (Nat.le_of_ble_eq_true rfl) dX12_shuts_47 rfl ⟨(upd f_shut c_.toNatClampNeg ((f_shut c_.toNatClampNeg) ^^^ (1 <<< (k_ &&& 31)))), rfl, (Or.inr rfl)⟩)
      · have c_8n : (0 : Int) = w_.toInt := (fa_eq _ _).mp c_8
        refine lv_iconst (v := 0) hx hb dX12_shuts_32 (by decide) ?_
        have G := G.sub (bs' := [[zO11 mo m_all m_has i_size i_next i_where i_token i_number i_word i_wrong i_farCrossing m_read i_z0 i_crossings i_inns m_posts m_shut m_here i_steps i_done i_at i_gone m_was m_came m_seenAt m_rowWorth m_farBy m_used i_everywhere i_again0 i_d0 i_never i_firstCame i_longRun i_moved i_crowd i_l0 i_fitMany i_fitLeast i_fitMost m_fitPost m_fitEnd m_keptPosts i_x0], [zAr T 0 m_all 3952 f_all], [zAr T 0 m_shut 7 f_shut]]) [1, 2, 0] rfl
        exact z_back hQz_ (z_zret C hr hlocks G (Nat.le_of_ble_eq_true rfl) (Nat.le_of_ble_eq_true rfl) dX12_shuts_33 rfl ⟨f_shut, rfl, (Or.inl rfl)⟩)
    · have c_7n : (((f_shut c_.toNatClampNeg) >>> (k_ &&& 31)) &&& 1).toInt = (1 : Int) := (fa_eq _ _).mp c_7
      refine lv_iconst (v := 1) hx hb dX12_shuts_23 (by decide) ?_
      refine lv_goto (tgt := 28) hx hb dX12_shuts_24 (by decide) ?_
      refine lv_iload_n hx hb dX12_shuts_28 rfl (lv_at hl 3 rfl) ?_
      refine lv_icmp_ne (tgt := 34) hx hb dX12_shuts_29 (by decide) (fun c_10 => ?_) (fun c_10 => ?_)
      · have c_10n : ¬ (1 : Int) = w_.toInt := fun q => c_10 ((fa_eq _ _).mpr q)
        refine lv_aload_n hx hb dX12_shuts_34 rfl (lv_at hl 0 rfl) ?_
        refine z_get C G clX12 1 rfl 15 (by decide) m_fl_RX12_23 rfl dX12_shuts_35 ?_
        refine lv_iload_n hx hb dX12_shuts_38 rfl (lv_at hl 1 rfl) ?_
        refine lv_dup2_11 hx hb dX12_shuts_39 rfl rfl ?_
        refine z_ild C G 0 rfl (vp_in_iff.mpr ⟨by omega, by omega⟩) dX12_shuts_40 ?_
        refine lv_topi (fun v_11 ev_11 => ?_)
        subst ev_11
        refine lv_iconst (v := 1) hx hb dX12_shuts_41 (by decide) ?_
        refine lv_iload_n hx hb dX12_shuts_42 rfl (lv_at hl 2 rfl) ?_
        refine lv_ishl hx hb dX12_shuts_43 ?_
        refine lv_ixor hx hb dX12_shuts_44 ?_
        refine z_ist C G 0 rfl (vp_in_iff.mpr ⟨by omega, by omega⟩) dX12_shuts_45 (fun H locs G => ?_)
        have G : zS T A s.heap s [[zAr T 0 m_shut 7 (upd f_shut c_.toNatClampNeg ((f_shut c_.toNatClampNeg) ^^^ (1 <<< (k_ &&& 31))))], [zO11 mo m_all m_has i_size i_next i_where i_token i_number i_word i_wrong i_farCrossing m_read i_z0 i_crossings i_inns m_posts m_shut m_here i_steps i_done i_at i_gone m_was m_came m_seenAt m_rowWorth m_farBy m_used i_everywhere i_again0 i_d0 i_never i_firstCame i_longRun i_moved i_crowd i_l0 i_fitMany i_fitLeast i_fitMost m_fitPost m_fitEnd m_keptPosts i_x0], [zAr T 0 m_all 3952 f_all]] _ _ := G
        refine lv_iconst (v := 1) hx hb dX12_shuts_46 (by decide) ?_
        have G := G.sub (bs' := [[zO11 mo m_all m_has i_size i_next i_where i_token i_number i_word i_wrong i_farCrossing m_read i_z0 i_crossings i_inns m_posts m_shut m_here i_steps i_done i_at i_gone m_was m_came m_seenAt m_rowWorth m_farBy m_used i_everywhere i_again0 i_d0 i_never i_firstCame i_longRun i_moved i_crowd i_l0 i_fitMany i_fitLeast i_fitMost m_fitPost m_fitEnd m_keptPosts i_x0], [zAr T 0 m_all 3952 f_all], [zAr T 0 m_shut 7 (upd f_shut c_.toNatClampNeg ((f_shut c_.toNatClampNeg) ^^^ (1 <<< (k_ &&& 31))))]]) [1, 2, 0] rfl
        exact z_back hQz_ (z_zret C hr hlocks G (Nat.le_of_ble_eq_true rfl) (Nat.le_of_ble_eq_true rfl) dX12_shuts_47 rfl ⟨(upd f_shut c_.toNatClampNeg ((f_shut c_.toNatClampNeg) ^^^ (1 <<< (k_ &&& 31)))), rfl, (Or.inr rfl)⟩)
      · have c_10n : (1 : Int) = w_.toInt := (fa_eq _ _).mp c_10
        refine lv_iconst (v := 0) hx hb dX12_shuts_32 (by decide) ?_
        have G := G.sub (bs' := [[zO11 mo m_all m_has i_size i_next i_where i_token i_number i_word i_wrong i_farCrossing m_read i_z0 i_crossings i_inns m_posts m_shut m_here i_steps i_done i_at i_gone m_was m_came m_seenAt m_rowWorth m_farBy m_used i_everywhere i_again0 i_d0 i_never i_firstCame i_longRun i_moved i_crowd i_l0 i_fitMany i_fitLeast i_fitMost m_fitPost m_fitEnd m_keptPosts i_x0], [zAr T 0 m_all 3952 f_all], [zAr T 0 m_shut 7 f_shut]]) [1, 2, 0] rfl
        exact z_back hQz_ (z_zret C hr hlocks G (Nat.le_of_ble_eq_true rfl) (Nat.le_of_ble_eq_true rfl) dX12_shuts_33 rfl ⟨f_shut, rfl, (Or.inl rfl)⟩)
set_option maxHeartbeats 4000000 in
set_option maxRecDepth 100000 in
/-- c_m_does -/
theorem c_m_does (l : Launch) (T : zTy) (mo : Nat) (m_all : Nat) (m_has : Nat) (i_size : Int32) (i_next : Int32) (i_where : Int32) (i_token : Int32) (i_number : Int32) (i_word : Int32) (i_wrong : Int32) (i_farCrossing : Int32) (m_read : Nat) (i_z0 : Int32) (i_crossings : Int32) (i_inns : Int32) (m_posts : Nat) (m_shut : Nat) (m_here : Nat) (i_steps : Int32) (i_done : Int32) (i_at : Int32) (i_gone : Int32) (m_was : Nat) (m_came : Nat) (m_seenAt : Nat) (m_rowWorth : Nat) (m_farBy : Nat) (m_used : Nat) (i_everywhere : Int32) (i_again0 : Int32) (i_d0 : Int32) (i_never : Int32) (i_firstCame : Int32) (i_longRun : Int32) (i_moved : Int32) (i_crowd : Int32) (i_l0 : Int32) (i_fitMany : Int32) (i_fitLeast : Int32) (i_fitMost : Int32) (m_fitPost : Nat) (m_fitEnd : Nat) (m_keptPosts : Nat) (i_x0 : Int32) (f_all : Nat → Int32) (f_posts : Nat → Int32) (f_shut : Nat → Int32) (f_here : Nat → Int32) (f_was : Nat → Int32) (d_ : Int32) (a_ : Int32) (b_ : Int32) (hL : zML f_all i_z0 i_crossings) (hP : zMP f_posts) : zMi l T yX12_does cX12_does 4 (some .boolean) 6 0 0 [.ref mo, .int d_, .int a_, .int b_] [[zO11 mo m_all m_has i_size i_next i_where i_token i_number i_word i_wrong i_farCrossing m_read i_z0 i_crossings i_inns m_posts m_shut m_here i_steps i_done i_at i_gone m_was m_came m_seenAt m_rowWorth m_farBy m_used i_everywhere i_again0 i_d0 i_never i_firstCame i_longRun i_moved i_crowd i_l0 i_fitMany i_fitLeast i_fitMost m_fitPost m_fitEnd m_keptPosts i_x0], [zAr T 0 m_all 3952 f_all], [zAr T 0 m_posts 7 f_posts], [zAr T 0 m_shut 7 f_shut], [zAr T 0 m_here 7 f_here], [zAr T 0 m_was 7 f_was]] (fun (r : Int32) bs => ∃ (j_at : Int32) (j_gone : Int32) (j_steps : Int32) (j_moved : Int32) (j_firstCame : Int32) (j_never : Int32) (j_longRun : Int32) (g_posts : Nat → Int32) (g_shut : Nat → Int32) (g_here : Nat → Int32) (g_was : Nat → Int32), bs = [[zO11 mo m_all m_has i_size i_next i_where i_token i_number i_word i_wrong i_farCrossing m_read i_z0 i_crossings i_inns m_posts m_shut m_here j_steps i_done j_at j_gone m_was m_came m_seenAt m_rowWorth m_farBy m_used i_everywhere i_again0 i_d0 j_never j_firstCame j_longRun j_moved i_crowd i_l0 i_fitMany i_fitLeast i_fitMost m_fitPost m_fitEnd m_keptPosts i_x0], [zAr T 0 m_all 3952 f_all], [zAr T 0 m_posts 7 g_posts], [zAr T 0 m_shut 7 g_shut], [zAr T 0 m_here 7 g_here], [zAr T 0 m_was 7 g_was]] ∧ (r = 0 ∨ r = 1) ∧ zMP g_posts) := by
  refine zMi_of (own := RX12) (by decide) rfl (Nat.le_of_ble_eq_true rfl) ?_
  intro p e s m args below meth c A ls C hr hlocks hnm hAe G hl
  refine zHide (fun Qz_ hQz_ => ?_)
  have hx := C.1
  have hb := C.2.1
  have hl : lv_has ls 4 [(0, .ref mo), (1, .int d_), (2, .int a_), (3, .int b_)] := hl
  have hz := hL.1
  have hcr := hL.cr
  refine lv_aload_n hx hb dX12_does_0 rfl (lv_at hl 0 rfl) ?_
  refine lv_iload_n hx hb dX12_does_1 rfl (lv_at hl 2 rfl) ?_
  refine z_Vi (bc := [[zO11 mo m_all m_has i_size i_next i_where i_token i_number i_word i_wrong i_farCrossing m_read i_z0 i_crossings i_inns m_posts m_shut m_here i_steps i_done i_at i_gone m_was m_came m_seenAt m_rowWorth m_farBy m_used i_everywhere i_again0 i_d0 i_never i_firstCame i_longRun i_moved i_crowd i_l0 i_fitMany i_fitLeast i_fitMost m_fitPost m_fitEnd m_keptPosts i_x0]]) (br := [[zAr T 0 m_all 3952 f_all], [zAr T 0 m_posts 7 f_posts], [zAr T 0 m_shut 7 f_shut], [zAr T 0 m_here 7 f_here], [zAr T 0 m_was 7 f_was]]) (As := [.int a_]) (rest := []) C G (c_m_isCrossing l T mo m_all m_has i_size i_next i_where i_token i_number i_word i_wrong i_farCrossing m_read i_z0 i_crossings i_inns m_posts m_shut m_here i_steps i_done i_at i_gone m_was m_came m_seenAt m_rowWorth m_farBy m_used i_everywhere i_again0 i_d0 i_never i_firstCame i_longRun i_moved i_crowd i_l0 i_fitMany i_fitLeast i_fitMost m_fitPost m_fitEnd m_keptPosts i_x0 a_ (by first | with_reducible assumption | with_reducible rfl | omega | assumption | rfl | decide)) (kV_RX12_187 C.2.2.2.2 (Nat.le_of_ble_eq_true rfl) (Nat.le_of_ble_eq_true rfl)) [0] [0] rfl rfl (ci := 11) (qc := (RX12, TX12, 43)) rfl rfl (List.mem_flatten.mpr ⟨_, List.mem_of_getElem? (i := 0) rfl, List.mem_cons_self⟩) rfl rfl hl.1 dX12_does_2 (Nat.le_of_ble_eq_true rfl) (Nat.le_of_ble_eq_true rfl) (fun r_2 b1 H locs hw G => ?_)
  refine zAn2 hw ?_
  intro hbs9 hc_1
  clear hw
  subst hbs9
  have G : zS T A s.heap s [[zAr T 0 m_all 3952 f_all], [zAr T 0 m_posts 7 f_posts], [zAr T 0 m_shut 7 f_shut], [zAr T 0 m_here 7 f_here], [zAr T 0 m_was 7 f_was], [zO11 mo m_all m_has i_size i_next i_where i_token i_number i_word i_wrong i_farCrossing m_read i_z0 i_crossings i_inns m_posts m_shut m_here i_steps i_done i_at i_gone m_was m_came m_seenAt m_rowWorth m_farBy m_used i_everywhere i_again0 i_d0 i_never i_firstCame i_longRun i_moved i_crowd i_l0 i_fitMany i_fitLeast i_fitMost m_fitPost m_fitEnd m_keptPosts i_x0]] _ _ := G
  rcases hc_1 with ⟨rfl, h_3, h_4⟩ | ⟨rfl, h_5⟩
  · have h_3 : 0 ≤ a_.toInt := h_3
    have h_4 : a_.toInt < i_crossings.toInt := h_4
    refine lv_if_ne (tgt := 10) hx hb dX12_does_5 (by decide) (fun _ => ?_) (fun q => absurd q (by decide))
    refine lv_iload_n hx hb dX12_does_10 rfl (lv_at hl 1 rfl) ?_
    by_cases c_6o : d_.toInt < 0 ∨ 3 < d_.toInt
    · refine lv_tableOut (tgt := 80) hx hb dX12_does_11 c_6o (by decide) ?_
      refine lv_aload_n hx hb dX12_does_80 rfl (lv_at hl 0 rfl) ?_
      refine lv_iload_n hx hb dX12_does_81 rfl (lv_at hl 2 rfl) ?_
      refine lv_iload_n hx hb dX12_does_82 rfl (lv_at hl 3 rfl) ?_
      refine lv_iload_n hx hb dX12_does_83 rfl (lv_at hl 1 rfl) ?_
      refine lv_iconst (v := 4) hx hb dX12_does_84 (by decide) ?_
      refine lv_icmp_ne (tgt := 92) hx hb dX12_does_85 (by decide) (fun c_7 => ?_) (fun c_7 => ?_)
      · have c_7n : ¬ d_.toInt = (4 : Int) := fun q => c_7 ((fa_eq _ _).mpr q)
        refine lv_iconst (v := 0) hx hb dX12_does_92 (by decide) ?_
        refine z_Vi (bc := [[zO11 mo m_all m_has i_size i_next i_where i_token i_number i_word i_wrong i_farCrossing m_read i_z0 i_crossings i_inns m_posts m_shut m_here i_steps i_done i_at i_gone m_was m_came m_seenAt m_rowWorth m_farBy m_used i_everywhere i_again0 i_d0 i_never i_firstCame i_longRun i_moved i_crowd i_l0 i_fitMany i_fitLeast i_fitMost m_fitPost m_fitEnd m_keptPosts i_x0], [zAr T 0 m_all 3952 f_all], [zAr T 0 m_shut 7 f_shut]]) (br := [[zAr T 0 m_posts 7 f_posts], [zAr T 0 m_here 7 f_here], [zAr T 0 m_was 7 f_was]]) (As := [.int a_, .int b_, .int 0]) (rest := []) C G (c_m_shuts l T mo m_all m_has i_size i_next i_where i_token i_number i_word i_wrong i_farCrossing m_read i_z0 i_crossings i_inns m_posts m_shut m_here i_steps i_done i_at i_gone m_was m_came m_seenAt m_rowWorth m_farBy m_used i_everywhere i_again0 i_d0 i_never i_firstCame i_longRun i_moved i_crowd i_l0 i_fitMany i_fitLeast i_fitMost m_fitPost m_fitEnd m_keptPosts i_x0 f_all f_shut a_ b_ 0 (by first | with_reducible assumption | with_reducible rfl | omega | assumption | rfl | decide) (by first | with_reducible assumption | with_reducible rfl | omega | assumption | rfl | decide) (by first | with_reducible assumption | with_reducible rfl | omega | assumption | rfl | decide)) (kV_RX12_335 C.2.2.2.2 (Nat.le_of_ble_eq_true rfl) (Nat.le_of_ble_eq_true rfl)) [5, 0, 2] [0, 1, 2] rfl rfl (ci := 11) (qc := (RX12, TX12, 43)) rfl rfl (List.mem_flatten.mpr ⟨_, List.mem_of_getElem? (i := 0) rfl, List.mem_cons_self⟩) rfl rfl hl.1 dX12_does_93 (Nat.le_of_ble_eq_true rfl) (Nat.le_of_ble_eq_true rfl) (fun r_10 b1 H locs hw G => ?_)
        refine zEx1 hw ?_
        intro g_shut_8
        refine zCu2 ?_
        intro hbs9 h_9
        clear hw
        subst hbs9
        have G : zS T A s.heap s [[zAr T 0 m_posts 7 f_posts], [zAr T 0 m_here 7 f_here], [zAr T 0 m_was 7 f_was], [zO11 mo m_all m_has i_size i_next i_where i_token i_number i_word i_wrong i_farCrossing m_read i_z0 i_crossings i_inns m_posts m_shut m_here i_steps i_done i_at i_gone m_was m_came m_seenAt m_rowWorth m_farBy m_used i_everywhere i_again0 i_d0 i_never i_firstCame i_longRun i_moved i_crowd i_l0 i_fitMany i_fitLeast i_fitMost m_fitPost m_fitEnd m_keptPosts i_x0], [zAr T 0 m_all 3952 f_all], [zAr T 0 m_shut 7 g_shut_8]] _ _ := G
        replace h_9 : zHd ((r_10 = 0 ∨ r_10 = 1)) := h_9
        have G := G.sub (bs' := [[zO11 mo m_all m_has i_size i_next i_where i_token i_number i_word i_wrong i_farCrossing m_read i_z0 i_crossings i_inns m_posts m_shut m_here i_steps i_done i_at i_gone m_was m_came m_seenAt m_rowWorth m_farBy m_used i_everywhere i_again0 i_d0 i_never i_firstCame i_longRun i_moved i_crowd i_l0 i_fitMany i_fitLeast i_fitMost m_fitPost m_fitEnd m_keptPosts i_x0], [zAr T 0 m_all 3952 f_all], [zAr T 0 m_posts 7 f_posts], [zAr T 0 m_shut 7 g_shut_8], [zAr T 0 m_here 7 f_here], [zAr T 0 m_was 7 f_was]]) [3, 4, 0, 5, 1, 2] rfl
        exact z_back hQz_ (z_zret C hr hlocks G (Nat.le_of_ble_eq_true rfl) (Nat.le_of_ble_eq_true rfl) dX12_does_96 (by rcases (show r_10 = 0 ∨ r_10 = 1 by first | with_reducible assumption | assumption) with q | q <;> rw [q] <;> rfl) ⟨i_at, i_gone, i_steps, i_moved, i_firstCame, i_never, i_longRun, f_posts, g_shut_8, f_here, f_was, rfl, (by first | with_reducible assumption | assumption), (by first | with_reducible assumption | omega | trivial | assumption)⟩)
      · have c_7n : d_.toInt = (4 : Int) := (fa_eq _ _).mp c_7
        refine lv_iconst (v := 1) hx hb dX12_does_88 (by decide) ?_
        refine lv_goto (tgt := 93) hx hb dX12_does_89 (by decide) ?_
        refine z_Vi (bc := [[zO11 mo m_all m_has i_size i_next i_where i_token i_number i_word i_wrong i_farCrossing m_read i_z0 i_crossings i_inns m_posts m_shut m_here i_steps i_done i_at i_gone m_was m_came m_seenAt m_rowWorth m_farBy m_used i_everywhere i_again0 i_d0 i_never i_firstCame i_longRun i_moved i_crowd i_l0 i_fitMany i_fitLeast i_fitMost m_fitPost m_fitEnd m_keptPosts i_x0], [zAr T 0 m_all 3952 f_all], [zAr T 0 m_shut 7 f_shut]]) (br := [[zAr T 0 m_posts 7 f_posts], [zAr T 0 m_here 7 f_here], [zAr T 0 m_was 7 f_was]]) (As := [.int a_, .int b_, .int 1]) (rest := []) C G (c_m_shuts l T mo m_all m_has i_size i_next i_where i_token i_number i_word i_wrong i_farCrossing m_read i_z0 i_crossings i_inns m_posts m_shut m_here i_steps i_done i_at i_gone m_was m_came m_seenAt m_rowWorth m_farBy m_used i_everywhere i_again0 i_d0 i_never i_firstCame i_longRun i_moved i_crowd i_l0 i_fitMany i_fitLeast i_fitMost m_fitPost m_fitEnd m_keptPosts i_x0 f_all f_shut a_ b_ 1 (by first | with_reducible assumption | with_reducible rfl | omega | assumption | rfl | decide) (by first | with_reducible assumption | with_reducible rfl | omega | assumption | rfl | decide) (by first | with_reducible assumption | with_reducible rfl | omega | assumption | rfl | decide)) (kV_RX12_335 C.2.2.2.2 (Nat.le_of_ble_eq_true rfl) (Nat.le_of_ble_eq_true rfl)) [5, 0, 2] [0, 1, 2] rfl rfl (ci := 11) (qc := (RX12, TX12, 43)) rfl rfl (List.mem_flatten.mpr ⟨_, List.mem_of_getElem? (i := 0) rfl, List.mem_cons_self⟩) rfl rfl hl.1 dX12_does_93 (Nat.le_of_ble_eq_true rfl) (Nat.le_of_ble_eq_true rfl) (fun r_13 b1 H locs hw G => ?_)
        refine zEx1 hw ?_
        intro g_shut_11
        refine zCu2 ?_
        intro hbs9 h_12
        clear hw
        subst hbs9
        have G : zS T A s.heap s [[zAr T 0 m_posts 7 f_posts], [zAr T 0 m_here 7 f_here], [zAr T 0 m_was 7 f_was], [zO11 mo m_all m_has i_size i_next i_where i_token i_number i_word i_wrong i_farCrossing m_read i_z0 i_crossings i_inns m_posts m_shut m_here i_steps i_done i_at i_gone m_was m_came m_seenAt m_rowWorth m_farBy m_used i_everywhere i_again0 i_d0 i_never i_firstCame i_longRun i_moved i_crowd i_l0 i_fitMany i_fitLeast i_fitMost m_fitPost m_fitEnd m_keptPosts i_x0], [zAr T 0 m_all 3952 f_all], [zAr T 0 m_shut 7 g_shut_11]] _ _ := G
        replace h_12 : zHd ((r_13 = 0 ∨ r_13 = 1)) := h_12
        have G := G.sub (bs' := [[zO11 mo m_all m_has i_size i_next i_where i_token i_number i_word i_wrong i_farCrossing m_read i_z0 i_crossings i_inns m_posts m_shut m_here i_steps i_done i_at i_gone m_was m_came m_seenAt m_rowWorth m_farBy m_used i_everywhere i_again0 i_d0 i_never i_firstCame i_longRun i_moved i_crowd i_l0 i_fitMany i_fitLeast i_fitMost m_fitPost m_fitEnd m_keptPosts i_x0], [zAr T 0 m_all 3952 f_all], [zAr T 0 m_posts 7 f_posts], [zAr T 0 m_shut 7 g_shut_11], [zAr T 0 m_here 7 f_here], [zAr T 0 m_was 7 f_was]]) [3, 4, 0, 5, 1, 2] rfl
        exact z_back hQz_ (z_zret C hr hlocks G (Nat.le_of_ble_eq_true rfl) (Nat.le_of_ble_eq_true rfl) dX12_does_96 (by rcases (show r_13 = 0 ∨ r_13 = 1 by first | with_reducible assumption | assumption) with q | q <;> rw [q] <;> rfl) ⟨i_at, i_gone, i_steps, i_moved, i_firstCame, i_never, i_longRun, f_posts, g_shut_11, f_here, f_was, rfl, (by first | with_reducible assumption | assumption), (by first | with_reducible assumption | omega | trivial | assumption)⟩)
    · have c_6r : d_.toInt = 0 ∨ d_.toInt = 1 ∨ d_.toInt = 2 ∨ d_.toInt = 3 := by omega
      rcases c_6r with c_6 | c_6 | c_6 | c_6
      · refine lv_tableIn (tgt := 40) hx hb dX12_does_11 (by first | (rw [c_6]; decide) | omega) (by first | (rw [c_6]; decide) | omega) (by rw [c_6]; rfl) (by decide) ?_
        refine lv_aload_n hx hb dX12_does_40 rfl (lv_at hl 0 rfl) ?_
        refine lv_iload_n hx hb dX12_does_41 rfl (lv_at hl 2 rfl) ?_
        refine z_Vi (bc := [[zO11 mo m_all m_has i_size i_next i_where i_token i_number i_word i_wrong i_farCrossing m_read i_z0 i_crossings i_inns m_posts m_shut m_here i_steps i_done i_at i_gone m_was m_came m_seenAt m_rowWorth m_farBy m_used i_everywhere i_again0 i_d0 i_never i_firstCame i_longRun i_moved i_crowd i_l0 i_fitMany i_fitLeast i_fitMost m_fitPost m_fitEnd m_keptPosts i_x0], [zAr T 0 m_all 3952 f_all], [zAr T 0 m_posts 7 f_posts], [zAr T 0 m_shut 7 f_shut], [zAr T 0 m_here 7 f_here], [zAr T 0 m_was 7 f_was]]) (br := []) (As := [.int a_]) (rest := []) C G (c_m_goes l T mo m_all m_has i_size i_next i_where i_token i_number i_word i_wrong i_farCrossing m_read i_z0 i_crossings i_inns m_posts m_shut m_here i_steps i_done i_at i_gone m_was m_came m_seenAt m_rowWorth m_farBy m_used i_everywhere i_again0 i_d0 i_never i_firstCame i_longRun i_moved i_crowd i_l0 i_fitMany i_fitLeast i_fitMost m_fitPost m_fitEnd m_keptPosts i_x0 f_all f_posts f_shut f_here f_was a_ (by first | with_reducible assumption | with_reducible rfl | omega | assumption | rfl | decide) (by first | with_reducible assumption | with_reducible rfl | omega | assumption | rfl | decide) (by first | with_reducible assumption | with_reducible rfl | omega | assumption | rfl | decide) (by first | with_reducible assumption | with_reducible rfl | omega | assumption | rfl | decide)) (kV_RX12_326 C.2.2.2.2 (Nat.le_of_ble_eq_true rfl) (Nat.le_of_ble_eq_true rfl)) [5, 0, 1, 2, 3, 4] [0, 0, 0, 0, 0, 0] rfl rfl (ci := 11) (qc := (RX12, TX12, 43)) rfl rfl (List.mem_flatten.mpr ⟨_, List.mem_of_getElem? (i := 0) rfl, List.mem_cons_self⟩) rfl rfl hl.1 dX12_does_42 (Nat.le_of_ble_eq_true rfl) (Nat.le_of_ble_eq_true rfl) (fun r_24 b1 H locs hw G => ?_)
        refine zEx8 hw ?_
        intro j_at_14 j_gone_15 j_steps_16 j_moved_17 j_firstCame_18 g_posts_19 g_here_20 g_was_21
        refine zCu3 ?_
        intro hbs9 h_22 h_23
        clear hw
        subst hbs9
        have G : zS T A s.heap s [[zO11 mo m_all m_has i_size i_next i_where i_token i_number i_word i_wrong i_farCrossing m_read i_z0 i_crossings i_inns m_posts m_shut m_here j_steps_16 i_done j_at_14 j_gone_15 m_was m_came m_seenAt m_rowWorth m_farBy m_used i_everywhere i_again0 i_d0 i_never j_firstCame_18 i_longRun j_moved_17 i_crowd i_l0 i_fitMany i_fitLeast i_fitMost m_fitPost m_fitEnd m_keptPosts i_x0], [zAr T 0 m_all 3952 f_all], [zAr T 0 m_posts 7 g_posts_19], [zAr T 0 m_shut 7 f_shut], [zAr T 0 m_here 7 g_here_20], [zAr T 0 m_was 7 g_was_21]] _ _ := G
        replace h_22 : zHd ((r_24 = 0 ∨ r_24 = 1)) := h_22
        exact z_back hQz_ (z_zret C hr hlocks G (Nat.le_of_ble_eq_true rfl) (Nat.le_of_ble_eq_true rfl) dX12_does_45 (by rcases (show r_24 = 0 ∨ r_24 = 1 by first | with_reducible assumption | assumption) with q | q <;> rw [q] <;> rfl) ⟨j_at_14, j_gone_15, j_steps_16, j_moved_17, j_firstCame_18, i_never, i_longRun, g_posts_19, f_shut, g_here_20, g_was_21, rfl, (by first | with_reducible assumption | assumption), (by first | with_reducible assumption | omega | trivial | assumption)⟩)
      · refine lv_tableIn (tgt := 46) hx hb dX12_does_11 (by first | (rw [c_6]; decide) | omega) (by first | (rw [c_6]; decide) | omega) (by rw [c_6]; rfl) (by decide) ?_
        refine lv_aload_n hx hb dX12_does_46 rfl (lv_at hl 0 rfl) ?_
        refine lv_iload_n hx hb dX12_does_47 rfl (lv_at hl 2 rfl) ?_
        refine z_Vi (bc := [[zO11 mo m_all m_has i_size i_next i_where i_token i_number i_word i_wrong i_farCrossing m_read i_z0 i_crossings i_inns m_posts m_shut m_here i_steps i_done i_at i_gone m_was m_came m_seenAt m_rowWorth m_farBy m_used i_everywhere i_again0 i_d0 i_never i_firstCame i_longRun i_moved i_crowd i_l0 i_fitMany i_fitLeast i_fitMost m_fitPost m_fitEnd m_keptPosts i_x0], [zAr T 0 m_all 3952 f_all], [zAr T 0 m_posts 7 f_posts], [zAr T 0 m_shut 7 f_shut], [zAr T 0 m_here 7 f_here], [zAr T 0 m_was 7 f_was]]) (br := []) (As := [.int a_]) (rest := []) C G (c_m_runs0 l T mo m_all m_has i_size i_next i_where i_token i_number i_word i_wrong i_farCrossing m_read i_z0 i_crossings i_inns m_posts m_shut m_here i_steps i_done i_at i_gone m_was m_came m_seenAt m_rowWorth m_farBy m_used i_everywhere i_again0 i_d0 i_never i_firstCame i_longRun i_moved i_crowd i_l0 i_fitMany i_fitLeast i_fitMost m_fitPost m_fitEnd m_keptPosts i_x0 f_all f_posts f_shut f_here f_was a_ (by first | with_reducible assumption | with_reducible rfl | omega | assumption | rfl | decide) (by first | with_reducible assumption | with_reducible rfl | omega | assumption | rfl | decide) (by first | with_reducible assumption | with_reducible rfl | omega | assumption | rfl | decide) (by first | with_reducible assumption | with_reducible rfl | omega | assumption | rfl | decide)) (kV_RX12_329 C.2.2.2.2 (Nat.le_of_ble_eq_true rfl) (Nat.le_of_ble_eq_true rfl)) [5, 0, 1, 2, 3, 4] [0, 0, 0, 0, 0, 0] rfl rfl (ci := 11) (qc := (RX12, TX12, 43)) rfl rfl (List.mem_flatten.mpr ⟨_, List.mem_of_getElem? (i := 0) rfl, List.mem_cons_self⟩) rfl rfl hl.1 dX12_does_48 (Nat.le_of_ble_eq_true rfl) (Nat.le_of_ble_eq_true rfl) (fun r_37 b1 H locs hw G => ?_)
        refine zEx10 hw ?_
        intro j_at_25 j_gone_26 j_steps_27 j_moved_28 j_firstCame_29 j_never_30 j_longRun_31 g_posts_32 g_here_33 g_was_34
        refine zCu3 ?_
        intro hbs9 h_35 h_36
        clear hw
        subst hbs9
        have G : zS T A s.heap s [[zO11 mo m_all m_has i_size i_next i_where i_token i_number i_word i_wrong i_farCrossing m_read i_z0 i_crossings i_inns m_posts m_shut m_here j_steps_27 i_done j_at_25 j_gone_26 m_was m_came m_seenAt m_rowWorth m_farBy m_used i_everywhere i_again0 i_d0 j_never_30 j_firstCame_29 j_longRun_31 j_moved_28 i_crowd i_l0 i_fitMany i_fitLeast i_fitMost m_fitPost m_fitEnd m_keptPosts i_x0], [zAr T 0 m_all 3952 f_all], [zAr T 0 m_posts 7 g_posts_32], [zAr T 0 m_shut 7 f_shut], [zAr T 0 m_here 7 g_here_33], [zAr T 0 m_was 7 g_was_34]] _ _ := G
        replace h_35 : zHd ((r_37 = 0 ∨ r_37 = 1)) := h_35
        exact z_back hQz_ (z_zret C hr hlocks G (Nat.le_of_ble_eq_true rfl) (Nat.le_of_ble_eq_true rfl) dX12_does_51 (by rcases (show r_37 = 0 ∨ r_37 = 1 by first | with_reducible assumption | assumption) with q | q <;> rw [q] <;> rfl) ⟨j_at_25, j_gone_26, j_steps_27, j_moved_28, j_firstCame_29, j_never_30, j_longRun_31, g_posts_32, f_shut, g_here_33, g_was_34, rfl, (by first | with_reducible assumption | assumption), (by first | with_reducible assumption | omega | trivial | assumption)⟩)
      · refine lv_tableIn (tgt := 52) hx hb dX12_does_11 (by first | (rw [c_6]; decide) | omega) (by first | (rw [c_6]; decide) | omega) (by rw [c_6]; rfl) (by decide) ?_
        refine lv_aload_n hx hb dX12_does_52 rfl (lv_at hl 0 rfl) ?_
        refine lv_iload_n hx hb dX12_does_53 rfl (lv_at hl 2 rfl) ?_
        refine z_Vi (bc := [[zO11 mo m_all m_has i_size i_next i_where i_token i_number i_word i_wrong i_farCrossing m_read i_z0 i_crossings i_inns m_posts m_shut m_here i_steps i_done i_at i_gone m_was m_came m_seenAt m_rowWorth m_farBy m_used i_everywhere i_again0 i_d0 i_never i_firstCame i_longRun i_moved i_crowd i_l0 i_fitMany i_fitLeast i_fitMost m_fitPost m_fitEnd m_keptPosts i_x0]]) (br := [[zAr T 0 m_all 3952 f_all], [zAr T 0 m_posts 7 f_posts], [zAr T 0 m_shut 7 f_shut], [zAr T 0 m_here 7 f_here], [zAr T 0 m_was 7 f_was]]) (As := [.int a_]) (rest := []) C G (c_m_isInn l T mo m_all m_has i_size i_next i_where i_token i_number i_word i_wrong i_farCrossing m_read i_z0 i_crossings i_inns m_posts m_shut m_here i_steps i_done i_at i_gone m_was m_came m_seenAt m_rowWorth m_farBy m_used i_everywhere i_again0 i_d0 i_never i_firstCame i_longRun i_moved i_crowd i_l0 i_fitMany i_fitLeast i_fitMost m_fitPost m_fitEnd m_keptPosts i_x0 a_) (kV_RX12_178 C.2.2.2.2 (Nat.le_of_ble_eq_true rfl) (Nat.le_of_ble_eq_true rfl)) [5] [5] rfl rfl (ci := 11) (qc := (RX12, TX12, 43)) rfl rfl (List.mem_flatten.mpr ⟨_, List.mem_of_getElem? (i := 0) rfl, List.mem_cons_self⟩) rfl rfl hl.1 dX12_does_54 (Nat.le_of_ble_eq_true rfl) (Nat.le_of_ble_eq_true rfl) (fun r_39 b1 H locs hw G => ?_)
        refine zAn2 hw ?_
        intro hbs9 hc_38
        clear hw
        subst hbs9
        have G : zS T A s.heap s [[zAr T 0 m_all 3952 f_all], [zAr T 0 m_posts 7 f_posts], [zAr T 0 m_shut 7 f_shut], [zAr T 0 m_here 7 f_here], [zAr T 0 m_was 7 f_was], [zO11 mo m_all m_has i_size i_next i_where i_token i_number i_word i_wrong i_farCrossing m_read i_z0 i_crossings i_inns m_posts m_shut m_here i_steps i_done i_at i_gone m_was m_came m_seenAt m_rowWorth m_farBy m_used i_everywhere i_again0 i_d0 i_never i_firstCame i_longRun i_moved i_crowd i_l0 i_fitMany i_fitLeast i_fitMost m_fitPost m_fitEnd m_keptPosts i_x0]] _ _ := G
        rcases hc_38 with ⟨rfl, h_40⟩ | ⟨rfl, h_41⟩
        · have h_40 : zInn i_inns a_ := h_40
          refine lv_if_ne (tgt := 72) hx hb dX12_does_57 (by decide) (fun _ => ?_) (fun q => absurd q (by decide))
          refine lv_iconst (v := 0) hx hb dX12_does_72 (by decide) ?_
          have G := G.sub (bs' := [[zO11 mo m_all m_has i_size i_next i_where i_token i_number i_word i_wrong i_farCrossing m_read i_z0 i_crossings i_inns m_posts m_shut m_here i_steps i_done i_at i_gone m_was m_came m_seenAt m_rowWorth m_farBy m_used i_everywhere i_again0 i_d0 i_never i_firstCame i_longRun i_moved i_crowd i_l0 i_fitMany i_fitLeast i_fitMost m_fitPost m_fitEnd m_keptPosts i_x0], [zAr T 0 m_all 3952 f_all], [zAr T 0 m_posts 7 f_posts], [zAr T 0 m_shut 7 f_shut], [zAr T 0 m_here 7 f_here], [zAr T 0 m_was 7 f_was]]) [5, 0, 1, 2, 3, 4] rfl
          exact z_back hQz_ (z_zret C hr hlocks G (Nat.le_of_ble_eq_true rfl) (Nat.le_of_ble_eq_true rfl) dX12_does_73 rfl ⟨i_at, i_gone, i_steps, i_moved, i_firstCame, i_never, i_longRun, f_posts, f_shut, f_here, f_was, rfl, (Or.inl rfl), (by first | with_reducible assumption | omega | trivial | assumption)⟩)
        · have h_41 : ¬ zInn i_inns a_ := h_41
          refine lv_if_ne (tgt := 72) hx hb dX12_does_57 (by decide) (fun q => absurd (by decide) q) (fun _ => ?_)
          refine lv_aload_n hx hb dX12_does_60 rfl (lv_at hl 0 rfl) ?_
          refine lv_iload_n hx hb dX12_does_61 rfl (lv_at hl 2 rfl) ?_
          refine z_Vi (bc := [[zO11 mo m_all m_has i_size i_next i_where i_token i_number i_word i_wrong i_farCrossing m_read i_z0 i_crossings i_inns m_posts m_shut m_here i_steps i_done i_at i_gone m_was m_came m_seenAt m_rowWorth m_farBy m_used i_everywhere i_again0 i_d0 i_never i_firstCame i_longRun i_moved i_crowd i_l0 i_fitMany i_fitLeast i_fitMost m_fitPost m_fitEnd m_keptPosts i_x0], [zAr T 0 m_all 3952 f_all], [zAr T 0 m_posts 7 f_posts], [zAr T 0 m_shut 7 f_shut]]) (br := [[zAr T 0 m_here 7 f_here], [zAr T 0 m_was 7 f_was]]) (As := [.int a_]) (rest := []) C G (c_m_turns l T mo m_all m_has i_size i_next i_where i_token i_number i_word i_wrong i_farCrossing m_read i_z0 i_crossings i_inns m_posts m_shut m_here i_steps i_done i_at i_gone m_was m_came m_seenAt m_rowWorth m_farBy m_used i_everywhere i_again0 i_d0 i_never i_firstCame i_longRun i_moved i_crowd i_l0 i_fitMany i_fitLeast i_fitMost m_fitPost m_fitEnd m_keptPosts i_x0 f_all f_posts f_shut a_ (by first | with_reducible assumption | with_reducible rfl | omega | assumption | rfl | decide) (by first | with_reducible assumption | with_reducible rfl | omega | assumption | rfl | decide) (by first | with_reducible assumption | with_reducible rfl | omega | assumption | rfl | decide) (by first | with_reducible assumption | with_reducible rfl | omega | assumption | rfl | decide)) (kV_RX12_205 C.2.2.2.2 (Nat.le_of_ble_eq_true rfl) (Nat.le_of_ble_eq_true rfl)) [5, 0, 1, 2] [0, 0, 0, 2] rfl rfl (ci := 11) (qc := (RX12, TX12, 43)) rfl rfl (List.mem_flatten.mpr ⟨_, List.mem_of_getElem? (i := 0) rfl, List.mem_cons_self⟩) rfl rfl hl.1 dX12_does_62 (Nat.le_of_ble_eq_true rfl) (Nat.le_of_ble_eq_true rfl) (fun r_45 b1 H locs hw G => ?_)
          refine zEx1 hw ?_
          intro g_posts_42
          refine zCu3 ?_
          intro hbs9 h_43 hc_44
          clear hw
          subst hbs9
          have G : zS T A s.heap s [[zAr T 0 m_here 7 f_here], [zAr T 0 m_was 7 f_was], [zO11 mo m_all m_has i_size i_next i_where i_token i_number i_word i_wrong i_farCrossing m_read i_z0 i_crossings i_inns m_posts m_shut m_here i_steps i_done i_at i_gone m_was m_came m_seenAt m_rowWorth m_farBy m_used i_everywhere i_again0 i_d0 i_never i_firstCame i_longRun i_moved i_crowd i_l0 i_fitMany i_fitLeast i_fitMost m_fitPost m_fitEnd m_keptPosts i_x0], [zAr T 0 m_all 3952 f_all], [zAr T 0 m_posts 7 g_posts_42], [zAr T 0 m_shut 7 f_shut]] _ _ := G
          rcases hc_44 with ⟨rfl, h_46⟩ | rfl
          · have h_46 : 0 < (zRd f_all i_z0 a_).toInt := h_46
            refine lv_if_eq (tgt := 72) hx hb dX12_does_65 (by decide) (fun q => absurd q (by decide)) (fun _ => ?_)
            refine lv_iconst (v := 1) hx hb dX12_does_68 (by decide) ?_
            refine lv_goto (tgt := 73) hx hb dX12_does_69 (by decide) ?_
            have G := G.sub (bs' := [[zO11 mo m_all m_has i_size i_next i_where i_token i_number i_word i_wrong i_farCrossing m_read i_z0 i_crossings i_inns m_posts m_shut m_here i_steps i_done i_at i_gone m_was m_came m_seenAt m_rowWorth m_farBy m_used i_everywhere i_again0 i_d0 i_never i_firstCame i_longRun i_moved i_crowd i_l0 i_fitMany i_fitLeast i_fitMost m_fitPost m_fitEnd m_keptPosts i_x0], [zAr T 0 m_all 3952 f_all], [zAr T 0 m_posts 7 g_posts_42], [zAr T 0 m_shut 7 f_shut], [zAr T 0 m_here 7 f_here], [zAr T 0 m_was 7 f_was]]) [2, 3, 4, 5, 0, 1] rfl
            exact z_back hQz_ (z_zret C hr hlocks G (Nat.le_of_ble_eq_true rfl) (Nat.le_of_ble_eq_true rfl) dX12_does_73 rfl ⟨i_at, i_gone, i_steps, i_moved, i_firstCame, i_never, i_longRun, g_posts_42, f_shut, f_here, f_was, rfl, (Or.inr rfl), (by first | with_reducible assumption | omega | trivial | assumption)⟩)
          · refine lv_if_eq (tgt := 72) hx hb dX12_does_65 (by decide) (fun _ => ?_) (fun q => absurd (by decide) q)
            refine lv_iconst (v := 0) hx hb dX12_does_72 (by decide) ?_
            have G := G.sub (bs' := [[zO11 mo m_all m_has i_size i_next i_where i_token i_number i_word i_wrong i_farCrossing m_read i_z0 i_crossings i_inns m_posts m_shut m_here i_steps i_done i_at i_gone m_was m_came m_seenAt m_rowWorth m_farBy m_used i_everywhere i_again0 i_d0 i_never i_firstCame i_longRun i_moved i_crowd i_l0 i_fitMany i_fitLeast i_fitMost m_fitPost m_fitEnd m_keptPosts i_x0], [zAr T 0 m_all 3952 f_all], [zAr T 0 m_posts 7 g_posts_42], [zAr T 0 m_shut 7 f_shut], [zAr T 0 m_here 7 f_here], [zAr T 0 m_was 7 f_was]]) [2, 3, 4, 5, 0, 1] rfl
            exact z_back hQz_ (z_zret C hr hlocks G (Nat.le_of_ble_eq_true rfl) (Nat.le_of_ble_eq_true rfl) dX12_does_73 rfl ⟨i_at, i_gone, i_steps, i_moved, i_firstCame, i_never, i_longRun, g_posts_42, f_shut, f_here, f_was, rfl, (Or.inl rfl), (by first | with_reducible assumption | omega | trivial | assumption)⟩)
      · refine lv_tableIn (tgt := 74) hx hb dX12_does_11 (by first | (rw [c_6]; decide) | omega) (by first | (rw [c_6]; decide) | omega) (by rw [c_6]; rfl) (by decide) ?_
        refine lv_aload_n hx hb dX12_does_74 rfl (lv_at hl 0 rfl) ?_
        refine lv_iload_n hx hb dX12_does_75 rfl (lv_at hl 2 rfl) ?_
        refine z_Vi (bc := [[zO11 mo m_all m_has i_size i_next i_where i_token i_number i_word i_wrong i_farCrossing m_read i_z0 i_crossings i_inns m_posts m_shut m_here i_steps i_done i_at i_gone m_was m_came m_seenAt m_rowWorth m_farBy m_used i_everywhere i_again0 i_d0 i_never i_firstCame i_longRun i_moved i_crowd i_l0 i_fitMany i_fitLeast i_fitMost m_fitPost m_fitEnd m_keptPosts i_x0], [zAr T 0 m_here 7 f_here]]) (br := [[zAr T 0 m_all 3952 f_all], [zAr T 0 m_posts 7 f_posts], [zAr T 0 m_shut 7 f_shut], [zAr T 0 m_was 7 f_was]]) (As := [.int a_]) (rest := []) C G (c_m_adds l T mo m_all m_has i_size i_next i_where i_token i_number i_word i_wrong i_farCrossing m_read i_z0 i_crossings i_inns m_posts m_shut m_here i_steps i_done i_at i_gone m_was m_came m_seenAt m_rowWorth m_farBy m_used i_everywhere i_again0 i_d0 i_never i_firstCame i_longRun i_moved i_crowd i_l0 i_fitMany i_fitLeast i_fitMost m_fitPost m_fitEnd m_keptPosts i_x0 f_here a_ (by first | with_reducible assumption | with_reducible rfl | omega | assumption | rfl | decide) (by first | with_reducible assumption | with_reducible rfl | omega | assumption | rfl | decide)) (kV_RX12_332 C.2.2.2.2 (Nat.le_of_ble_eq_true rfl) (Nat.le_of_ble_eq_true rfl)) [5, 3] [3, 1] rfl rfl (ci := 11) (qc := (RX12, TX12, 43)) rfl rfl (List.mem_flatten.mpr ⟨_, List.mem_of_getElem? (i := 0) rfl, List.mem_cons_self⟩) rfl rfl hl.1 dX12_does_76 (Nat.le_of_ble_eq_true rfl) (Nat.le_of_ble_eq_true rfl) (fun r_49 b1 H locs hw G => ?_)
        refine zEx1 hw ?_
        intro g_here_47
        refine zCu2 ?_
        intro hbs9 h_48
        clear hw
        subst hbs9
        have G : zS T A s.heap s [[zAr T 0 m_all 3952 f_all], [zAr T 0 m_posts 7 f_posts], [zAr T 0 m_shut 7 f_shut], [zAr T 0 m_was 7 f_was], [zO11 mo m_all m_has i_size i_next i_where i_token i_number i_word i_wrong i_farCrossing m_read i_z0 i_crossings i_inns m_posts m_shut m_here i_steps i_done i_at i_gone m_was m_came m_seenAt m_rowWorth m_farBy m_used i_everywhere i_again0 i_d0 i_never i_firstCame i_longRun i_moved i_crowd i_l0 i_fitMany i_fitLeast i_fitMost m_fitPost m_fitEnd m_keptPosts i_x0], [zAr T 0 m_here 7 g_here_47]] _ _ := G
        replace h_48 : zHd ((r_49 = 0 ∨ r_49 = 1)) := h_48
        have G := G.sub (bs' := [[zO11 mo m_all m_has i_size i_next i_where i_token i_number i_word i_wrong i_farCrossing m_read i_z0 i_crossings i_inns m_posts m_shut m_here i_steps i_done i_at i_gone m_was m_came m_seenAt m_rowWorth m_farBy m_used i_everywhere i_again0 i_d0 i_never i_firstCame i_longRun i_moved i_crowd i_l0 i_fitMany i_fitLeast i_fitMost m_fitPost m_fitEnd m_keptPosts i_x0], [zAr T 0 m_all 3952 f_all], [zAr T 0 m_posts 7 f_posts], [zAr T 0 m_shut 7 f_shut], [zAr T 0 m_here 7 g_here_47], [zAr T 0 m_was 7 f_was]]) [4, 0, 1, 2, 5, 3] rfl
        exact z_back hQz_ (z_zret C hr hlocks G (Nat.le_of_ble_eq_true rfl) (Nat.le_of_ble_eq_true rfl) dX12_does_79 (by rcases (show r_49 = 0 ∨ r_49 = 1 by first | with_reducible assumption | assumption) with q | q <;> rw [q] <;> rfl) ⟨i_at, i_gone, i_steps, i_moved, i_firstCame, i_never, i_longRun, f_posts, f_shut, g_here_47, f_was, rfl, (by first | with_reducible assumption | assumption), (by first | with_reducible assumption | omega | trivial | assumption)⟩)
  · have h_5 : (a_.toInt < 0 ∨ i_crossings.toInt ≤ a_.toInt) := h_5
    refine lv_if_ne (tgt := 10) hx hb dX12_does_5 (by decide) (fun q => absurd (by decide) q) (fun _ => ?_)
    refine lv_iconst (v := 0) hx hb dX12_does_8 (by decide) ?_
    have G := G.sub (bs' := [[zO11 mo m_all m_has i_size i_next i_where i_token i_number i_word i_wrong i_farCrossing m_read i_z0 i_crossings i_inns m_posts m_shut m_here i_steps i_done i_at i_gone m_was m_came m_seenAt m_rowWorth m_farBy m_used i_everywhere i_again0 i_d0 i_never i_firstCame i_longRun i_moved i_crowd i_l0 i_fitMany i_fitLeast i_fitMost m_fitPost m_fitEnd m_keptPosts i_x0], [zAr T 0 m_all 3952 f_all], [zAr T 0 m_posts 7 f_posts], [zAr T 0 m_shut 7 f_shut], [zAr T 0 m_here 7 f_here], [zAr T 0 m_was 7 f_was]]) [5, 0, 1, 2, 3, 4] rfl
    exact z_back hQz_ (z_zret C hr hlocks G (Nat.le_of_ble_eq_true rfl) (Nat.le_of_ble_eq_true rfl) dX12_does_9 rfl ⟨i_at, i_gone, i_steps, i_moved, i_firstCame, i_never, i_longRun, f_posts, f_shut, f_here, f_was, rfl, (Or.inl rfl), (by first | with_reducible assumption | omega | trivial | assumption)⟩)
set_option maxHeartbeats 4000000 in
set_option maxRecDepth 100000 in
/-- c_m_beginsDay -/
theorem c_m_beginsDay (l : Launch) (T : zTy) (mo : Nat) (m_all : Nat) (m_has : Nat) (i_size : Int32) (i_next : Int32) (i_where : Int32) (i_token : Int32) (i_number : Int32) (i_word : Int32) (i_wrong : Int32) (i_farCrossing : Int32) (m_read : Nat) (i_z0 : Int32) (i_crossings : Int32) (i_inns : Int32) (m_posts : Nat) (m_shut : Nat) (m_here : Nat) (i_steps : Int32) (i_done : Int32) (i_at : Int32) (i_gone : Int32) (m_was : Nat) (m_came : Nat) (m_seenAt : Nat) (m_rowWorth : Nat) (m_farBy : Nat) (m_used : Nat) (i_everywhere : Int32) (i_again0 : Int32) (i_d0 : Int32) (i_never : Int32) (i_firstCame : Int32) (i_longRun : Int32) (i_moved : Int32) (i_crowd : Int32) (i_l0 : Int32) (i_fitMany : Int32) (i_fitLeast : Int32) (i_fitMost : Int32) (m_fitPost : Nat) (m_fitEnd : Nat) (m_keptPosts : Nat) (i_x0 : Int32) (f_here : Nat → Int32) (hcr : 0 ≤ i_crossings.toInt ∧ i_crossings.toInt ≤ 7) : zMv l T yX12_beginsDay cX12_beginsDay 1 3 0 0 [.ref mo] [[zO11 mo m_all m_has i_size i_next i_where i_token i_number i_word i_wrong i_farCrossing m_read i_z0 i_crossings i_inns m_posts m_shut m_here i_steps i_done i_at i_gone m_was m_came m_seenAt m_rowWorth m_farBy m_used i_everywhere i_again0 i_d0 i_never i_firstCame i_longRun i_moved i_crowd i_l0 i_fitMany i_fitLeast i_fitMost m_fitPost m_fitEnd m_keptPosts i_x0], [zAr T 0 m_here 7 f_here]] (fun bs => ∃ (j_never : Int32) (j_firstCame : Int32) (j_longRun : Int32) (j_moved : Int32) (j_crowd : Int32), bs = [[zO11 mo m_all m_has i_size i_next i_where i_token i_number i_word i_wrong i_farCrossing m_read i_z0 i_crossings i_inns m_posts m_shut m_here i_steps i_done i_at i_gone m_was m_came m_seenAt m_rowWorth m_farBy m_used i_everywhere i_again0 i_d0 j_never j_firstCame j_longRun j_moved j_crowd i_l0 i_fitMany i_fitLeast i_fitMost m_fitPost m_fitEnd m_keptPosts i_x0], [zAr T 0 m_here 7 f_here]] ∧ j_firstCame = -1) := by
  refine zMv_of (own := RX12) (by decide) rfl (Nat.le_of_ble_eq_true rfl) ?_
  intro p e s m args below meth c A ls C hr hlocks hnm hAe G hl
  refine zHide (fun Qz_ hQz_ => ?_)
  have hx := C.1
  have hb := C.2.1
  have hl : lv_has ls 1 [(0, .ref mo)] := hl
  refine lv_aload_n hx hb dX12_beginsDay_0 rfl (lv_at hl 0 rfl) ?_
  refine lv_iconst (v := 0) hx hb dX12_beginsDay_1 (by decide) ?_
  refine z_put C G clX12 0 rfl 30 (by decide) m_fl_RX12_320 rfl rfl rfl (Nat.le_of_ble_eq_true rfl) dX12_beginsDay_2 (fun H locs G => ?_)
  have G : zS T A s.heap s [[zO11 mo m_all m_has i_size i_next i_where i_token i_number i_word i_wrong i_farCrossing m_read i_z0 i_crossings i_inns m_posts m_shut m_here i_steps i_done i_at i_gone m_was m_came m_seenAt m_rowWorth m_farBy m_used i_everywhere i_again0 i_d0 0 i_firstCame i_longRun i_moved i_crowd i_l0 i_fitMany i_fitLeast i_fitMost m_fitPost m_fitEnd m_keptPosts i_x0], [zAr T 0 m_here 7 f_here]] _ _ := G
  refine lv_aload_n hx hb dX12_beginsDay_5 rfl (lv_at hl 0 rfl) ?_
  refine lv_iconst (v := (-1)) hx hb dX12_beginsDay_6 (by decide) ?_
  refine z_put C G clX12 0 rfl 31 (by decide) m_fl_RX12_314 rfl rfl rfl (Nat.le_of_ble_eq_true rfl) dX12_beginsDay_7 (fun H locs G => ?_)
  have G : zS T A s.heap s [[zO11 mo m_all m_has i_size i_next i_where i_token i_number i_word i_wrong i_farCrossing m_read i_z0 i_crossings i_inns m_posts m_shut m_here i_steps i_done i_at i_gone m_was m_came m_seenAt m_rowWorth m_farBy m_used i_everywhere i_again0 i_d0 0 (-1) i_longRun i_moved i_crowd i_l0 i_fitMany i_fitLeast i_fitMost m_fitPost m_fitEnd m_keptPosts i_x0], [zAr T 0 m_here 7 f_here]] _ _ := G
  refine lv_aload_n hx hb dX12_beginsDay_10 rfl (lv_at hl 0 rfl) ?_
  refine lv_iconst (v := 0) hx hb dX12_beginsDay_11 (by decide) ?_
  refine z_put C G clX12 0 rfl 32 (by decide) m_fl_RX12_323 rfl rfl rfl (Nat.le_of_ble_eq_true rfl) dX12_beginsDay_12 (fun H locs G => ?_)
  have G : zS T A s.heap s [[zO11 mo m_all m_has i_size i_next i_where i_token i_number i_word i_wrong i_farCrossing m_read i_z0 i_crossings i_inns m_posts m_shut m_here i_steps i_done i_at i_gone m_was m_came m_seenAt m_rowWorth m_farBy m_used i_everywhere i_again0 i_d0 0 (-1) 0 i_moved i_crowd i_l0 i_fitMany i_fitLeast i_fitMost m_fitPost m_fitEnd m_keptPosts i_x0], [zAr T 0 m_here 7 f_here]] _ _ := G
  refine lv_aload_n hx hb dX12_beginsDay_15 rfl (lv_at hl 0 rfl) ?_
  refine lv_iconst (v := 0) hx hb dX12_beginsDay_16 (by decide) ?_
  refine z_put C G clX12 0 rfl 33 (by decide) m_fl_RX12_311 rfl rfl rfl (Nat.le_of_ble_eq_true rfl) dX12_beginsDay_17 (fun H locs G => ?_)
  have G : zS T A s.heap s [[zO11 mo m_all m_has i_size i_next i_where i_token i_number i_word i_wrong i_farCrossing m_read i_z0 i_crossings i_inns m_posts m_shut m_here i_steps i_done i_at i_gone m_was m_came m_seenAt m_rowWorth m_farBy m_used i_everywhere i_again0 i_d0 0 (-1) 0 0 i_crowd i_l0 i_fitMany i_fitLeast i_fitMost m_fitPost m_fitEnd m_keptPosts i_x0], [zAr T 0 m_here 7 f_here]] _ _ := G
  refine lv_aload_n hx hb dX12_beginsDay_20 rfl (lv_at hl 0 rfl) ?_
  refine lv_iconst (v := 0) hx hb dX12_beginsDay_21 (by decide) ?_
  refine z_put C G clX12 0 rfl 34 (by decide) m_fl_RX12_308 rfl rfl rfl (Nat.le_of_ble_eq_true rfl) dX12_beginsDay_22 (fun H locs G => ?_)
  have G : zS T A s.heap s [[zO11 mo m_all m_has i_size i_next i_where i_token i_number i_word i_wrong i_farCrossing m_read i_z0 i_crossings i_inns m_posts m_shut m_here i_steps i_done i_at i_gone m_was m_came m_seenAt m_rowWorth m_farBy m_used i_everywhere i_again0 i_d0 0 (-1) 0 0 0 i_l0 i_fitMany i_fitLeast i_fitMost m_fitPost m_fitEnd m_keptPosts i_x0], [zAr T 0 m_here 7 f_here]] _ _ := G
  refine lv_aload_n hx hb dX12_beginsDay_25 rfl (lv_at hl 0 rfl) ?_
  refine z_Vv (bc := [[zO11 mo m_all m_has i_size i_next i_where i_token i_number i_word i_wrong i_farCrossing m_read i_z0 i_crossings i_inns m_posts m_shut m_here i_steps i_done i_at i_gone m_was m_came m_seenAt m_rowWorth m_farBy m_used i_everywhere i_again0 i_d0 0 (-1) 0 0 0 i_l0 i_fitMany i_fitLeast i_fitMost m_fitPost m_fitEnd m_keptPosts i_x0], [zAr T 0 m_here 7 f_here]]) (br := []) (As := []) (rest := []) C G (c_m_looks l T mo m_all m_has i_size i_next i_where i_token i_number i_word i_wrong i_farCrossing m_read i_z0 i_crossings i_inns m_posts m_shut m_here i_steps i_done i_at i_gone m_was m_came m_seenAt m_rowWorth m_farBy m_used i_everywhere i_again0 i_d0 0 (-1) 0 0 0 i_l0 i_fitMany i_fitLeast i_fitMost m_fitPost m_fitEnd m_keptPosts i_x0 f_here (by first | with_reducible assumption | with_reducible rfl | omega | assumption | rfl | decide)) (kV_RX12_339 C.2.2.2.2 (Nat.le_of_ble_eq_true rfl) (Nat.le_of_ble_eq_true rfl)) [0, 1] [0, 0] rfl rfl (ci := 11) (qc := (RX12, TX12, 43)) rfl rfl (List.mem_flatten.mpr ⟨_, List.mem_of_getElem? (i := 0) rfl, List.mem_cons_self⟩) rfl rfl hl.1 dX12_beginsDay_26 (Nat.le_of_ble_eq_true rfl) (Nat.le_of_ble_eq_true rfl) (fun b1 H locs hw G => ?_)
  refine zEx1 hw ?_
  intro j_crowd_1 hbs9
  clear hw
  subst hbs9
  have G : zS T A s.heap s [[zO11 mo m_all m_has i_size i_next i_where i_token i_number i_word i_wrong i_farCrossing m_read i_z0 i_crossings i_inns m_posts m_shut m_here i_steps i_done i_at i_gone m_was m_came m_seenAt m_rowWorth m_farBy m_used i_everywhere i_again0 i_d0 0 (-1) 0 0 j_crowd_1 i_l0 i_fitMany i_fitLeast i_fitMost m_fitPost m_fitEnd m_keptPosts i_x0], [zAr T 0 m_here 7 f_here]] _ _ := G
  exact z_back hQz_ (z_vret C hr hlocks G (Nat.le_of_ble_eq_true rfl) (Nat.le_of_ble_eq_true rfl) dX12_beginsDay_29 ⟨0, (-1), 0, 0, j_crowd_1, rfl, (by first | with_reducible assumption | omega | trivial | assumption)⟩)
set_option maxHeartbeats 4000000 in
set_option maxRecDepth 100000 in
/-- c_m_runs -/
theorem c_m_runs (l : Launch) (T : zTy) (mo : Nat) (m_all : Nat) (m_has : Nat) (i_size : Int32) (i_next : Int32) (i_where : Int32) (i_token : Int32) (i_number : Int32) (i_word : Int32) (i_wrong : Int32) (i_farCrossing : Int32) (m_read : Nat) (i_z0 : Int32) (i_crossings : Int32) (i_inns : Int32) (m_posts : Nat) (m_shut : Nat) (m_here : Nat) (i_steps : Int32) (i_done : Int32) (i_at : Int32) (i_gone : Int32) (m_was : Nat) (m_came : Nat) (m_seenAt : Nat) (m_rowWorth : Nat) (m_farBy : Nat) (m_used : Nat) (i_everywhere : Int32) (i_again0 : Int32) (i_d0 : Int32) (i_never : Int32) (i_firstCame : Int32) (i_longRun : Int32) (i_moved : Int32) (i_crowd : Int32) (i_l0 : Int32) (i_fitMany : Int32) (i_fitLeast : Int32) (i_fitMost : Int32) (m_fitPost : Nat) (m_fitEnd : Nat) (m_keptPosts : Nat) (i_x0 : Int32) (f_all : Nat → Int32) (f_posts : Nat → Int32) (f_shut : Nat → Int32) (f_here : Nat → Int32) (f_was : Nat → Int32) (n_ : Int32) (hL : zML f_all i_z0 i_crossings) (hP : zMP f_posts) (hD : zMD f_all i_d0) (hd0 : 0 ≤ i_done.toInt) (hd9 : i_done.toInt ≤ 40) : zMv l T yX12_runs cX12_runs 2 7 0 0 [.ref mo, .int n_] [[zO11 mo m_all m_has i_size i_next i_where i_token i_number i_word i_wrong i_farCrossing m_read i_z0 i_crossings i_inns m_posts m_shut m_here i_steps i_done i_at i_gone m_was m_came m_seenAt m_rowWorth m_farBy m_used i_everywhere i_again0 i_d0 i_never i_firstCame i_longRun i_moved i_crowd i_l0 i_fitMany i_fitLeast i_fitMost m_fitPost m_fitEnd m_keptPosts i_x0], [zAr T 0 m_all 3952 f_all], [zAr T 0 m_posts 7 f_posts], [zAr T 0 m_shut 7 f_shut], [zAr T 0 m_here 7 f_here], [zAr T 0 m_was 7 f_was]] (fun bs => ∃ (j_at : Int32) (j_gone : Int32) (j_steps : Int32) (j_moved : Int32) (j_firstCame : Int32) (j_never : Int32) (j_longRun : Int32) (j_crowd : Int32) (j_done : Int32) (g_posts : Nat → Int32) (g_shut : Nat → Int32) (g_here : Nat → Int32) (g_was : Nat → Int32), bs = [[zO11 mo m_all m_has i_size i_next i_where i_token i_number i_word i_wrong i_farCrossing m_read i_z0 i_crossings i_inns m_posts m_shut m_here j_steps j_done j_at j_gone m_was m_came m_seenAt m_rowWorth m_farBy m_used i_everywhere i_again0 i_d0 j_never j_firstCame j_longRun j_moved j_crowd i_l0 i_fitMany i_fitLeast i_fitMost m_fitPost m_fitEnd m_keptPosts i_x0], [zAr T 0 m_all 3952 f_all], [zAr T 0 m_posts 7 g_posts], [zAr T 0 m_shut 7 g_shut], [zAr T 0 m_here 7 g_here], [zAr T 0 m_was 7 g_was]] ∧ 0 ≤ j_done.toInt ∧ j_done.toInt ≤ 40 ∧ zMP g_posts) := by
  refine zMv_of (own := RX12) (by decide) rfl (Nat.le_of_ble_eq_true rfl) ?_
  intro p e s m args below meth c A ls C hr hlocks hnm hAe G hl
  refine zHide (fun Qz_ hQz_ => ?_)
  have hx := C.1
  have hb := C.2.1
  have hl : lv_has ls 2 [(0, .ref mo), (1, .int n_)] := hl
  have hz := hL.1
  have hcr := hL.cr
  have hDa := hD.1
  have hDb := hD.2
  have hcd := z_clI (x := i_d0) (by omega)
  refine lv_aload_n hx hb dX12_runs_0 rfl (lv_at hl 0 rfl) ?_
  refine z_Vv (bc := [[zO11 mo m_all m_has i_size i_next i_where i_token i_number i_word i_wrong i_farCrossing m_read i_z0 i_crossings i_inns m_posts m_shut m_here i_steps i_done i_at i_gone m_was m_came m_seenAt m_rowWorth m_farBy m_used i_everywhere i_again0 i_d0 i_never i_firstCame i_longRun i_moved i_crowd i_l0 i_fitMany i_fitLeast i_fitMost m_fitPost m_fitEnd m_keptPosts i_x0], [zAr T 0 m_here 7 f_here]]) (br := [[zAr T 0 m_all 3952 f_all], [zAr T 0 m_posts 7 f_posts], [zAr T 0 m_shut 7 f_shut], [zAr T 0 m_was 7 f_was]]) (As := []) (rest := []) C G (c_m_beginsDay l T mo m_all m_has i_size i_next i_where i_token i_number i_word i_wrong i_farCrossing m_read i_z0 i_crossings i_inns m_posts m_shut m_here i_steps i_done i_at i_gone m_was m_came m_seenAt m_rowWorth m_farBy m_used i_everywhere i_again0 i_d0 i_never i_firstCame i_longRun i_moved i_crowd i_l0 i_fitMany i_fitLeast i_fitMost m_fitPost m_fitEnd m_keptPosts i_x0 f_here (by first | with_reducible assumption | with_reducible rfl | omega | assumption | rfl | decide)) (kV_RX12_342 C.2.2.2.2 (Nat.le_of_ble_eq_true rfl) (Nat.le_of_ble_eq_true rfl)) [0, 4] [0, 3] rfl rfl (ci := 11) (qc := (RX12, TX12, 43)) rfl rfl (List.mem_flatten.mpr ⟨_, List.mem_of_getElem? (i := 0) rfl, List.mem_cons_self⟩) rfl rfl hl.1 dX12_runs_1 (Nat.le_of_ble_eq_true rfl) (Nat.le_of_ble_eq_true rfl) (fun b1 H locs hw G => ?_)
  refine zEx5 hw ?_
  intro j_never_1 j_firstCame_2 j_longRun_3 j_moved_4 j_crowd_5
  refine zCu2 ?_
  intro hbs9 h_6
  clear hw
  subst hbs9
  have G : zS T A s.heap s [[zAr T 0 m_all 3952 f_all], [zAr T 0 m_posts 7 f_posts], [zAr T 0 m_shut 7 f_shut], [zAr T 0 m_was 7 f_was], [zO11 mo m_all m_has i_size i_next i_where i_token i_number i_word i_wrong i_farCrossing m_read i_z0 i_crossings i_inns m_posts m_shut m_here i_steps i_done i_at i_gone m_was m_came m_seenAt m_rowWorth m_farBy m_used i_everywhere i_again0 i_d0 j_never_1 j_firstCame_2 j_longRun_3 j_moved_4 j_crowd_5 i_l0 i_fitMany i_fitLeast i_fitMost m_fitPost m_fitEnd m_keptPosts i_x0], [zAr T 0 m_here 7 f_here]] _ _ := G
  refine z_lp13 (T := T) 4 (fun (xat : Int32) (xgone : Int32) (xsteps : Int32) (xmoved : Int32) (xfirstCame : Int32) (xnever : Int32) (xlongRun : Int32) (xcrowd : Int32) (xdone : Int32) (xposts : Nat → Int32) (xshut : Nat → Int32) (xhere : Nat → Int32) (xwas : Nat → Int32) => [[zAr T 0 m_all 3952 f_all], [zAr T 0 m_posts 7 xposts], [zAr T 0 m_shut 7 xshut], [zAr T 0 m_was 7 xwas], [zO11 mo m_all m_has i_size i_next i_where i_token i_number i_word i_wrong i_farCrossing m_read i_z0 i_crossings i_inns m_posts m_shut m_here xsteps xdone xat xgone m_was m_came m_seenAt m_rowWorth m_farBy m_used i_everywhere i_again0 i_d0 xnever xfirstCame xlongRun xmoved xcrowd i_l0 i_fitMany i_fitLeast i_fitMost m_fitPost m_fitEnd m_keptPosts i_x0], [zAr T 0 m_here 7 xhere]]) (fun (xat : Int32) (xgone : Int32) (xsteps : Int32) (xmoved : Int32) (xfirstCame : Int32) (xnever : Int32) (xlongRun : Int32) (xcrowd : Int32) (xdone : Int32) (xposts : Nat → Int32) (xshut : Nat → Int32) (xhere : Nat → Int32) (xwas : Nat → Int32) => [(0, .ref mo), (1, .int n_)]) (fun (xat : Int32) (xgone : Int32) (xsteps : Int32) (xmoved : Int32) (xfirstCame : Int32) (xnever : Int32) (xlongRun : Int32) (xcrowd : Int32) (xdone : Int32) (xposts : Nat → Int32) (xshut : Nat → Int32) (xhere : Nat → Int32) (xwas : Nat → Int32) => zMP xposts ∧ 0 ≤ xdone.toInt ∧ xdone.toInt ≤ 40) (fun (xat : Int32) (xgone : Int32) (xsteps : Int32) (xmoved : Int32) (xfirstCame : Int32) (xnever : Int32) (xlongRun : Int32) (xcrowd : Int32) (xdone : Int32) (xposts : Nat → Int32) (xshut : Nat → Int32) (xhere : Nat → Int32) (xwas : Nat → Int32) => ((f_all i_d0.toNatClampNeg).toInt - xdone.toInt).toNat) ?_ i_at i_gone i_steps j_moved_4 j_firstCame_2 j_never_1 j_longRun_3 j_crowd_5 i_done f_posts f_shut f_here f_was (show zMP f_posts ∧ 0 ≤ i_done.toInt ∧ i_done.toInt ≤ 40 from ⟨(by first | with_reducible assumption | assumption), by omega, by omega⟩) G (lv_sub hl [0, 1] rfl)
  intro xat xgone xsteps xmoved xfirstCame xnever xlongRun xcrowd xdone xposts xshut xhere xwas hI9 ih_4 H locs ls G hl
  replace hI9 : zMP xposts ∧ 0 ≤ xdone.toInt ∧ xdone.toInt ≤ 40 := hI9
  refine zAn3 hI9 ?_
  intro hQ hdo0 hdo9
  clear hI9
  replace G : zS T A s.heap s [[zAr T 0 m_all 3952 f_all], [zAr T 0 m_posts 7 xposts], [zAr T 0 m_shut 7 xshut], [zAr T 0 m_was 7 xwas], [zO11 mo m_all m_has i_size i_next i_where i_token i_number i_word i_wrong i_farCrossing m_read i_z0 i_crossings i_inns m_posts m_shut m_here xsteps xdone xat xgone m_was m_came m_seenAt m_rowWorth m_farBy m_used i_everywhere i_again0 i_d0 xnever xfirstCame xlongRun xmoved xcrowd i_l0 i_fitMany i_fitLeast i_fitMost m_fitPost m_fitEnd m_keptPosts i_x0], [zAr T 0 m_here 7 xhere]] _ _ := G
  replace hl : lv_has ls 2 [(0, .ref mo), (1, .int n_)] := hl
  refine lv_aload_n hx hb dX12_runs_4 rfl (lv_at hl 0 rfl) ?_
  refine z_get C G clX12 4 rfl 18 (by decide) m_fl_RX12_199 rfl dX12_runs_5 ?_
  refine lv_iload_n hx hb dX12_runs_8 rfl (lv_at hl 1 rfl) ?_
  refine lv_icmp_ge (tgt := 106) hx hb dX12_runs_9 (by decide) (fun c_8 => ?_) (fun c_8 => ?_)
  · have c_8n : n_.toInt ≤ xdone.toInt := (fa_le _ _).mp c_8
    have G := G.sub (bs' := [[zO11 mo m_all m_has i_size i_next i_where i_token i_number i_word i_wrong i_farCrossing m_read i_z0 i_crossings i_inns m_posts m_shut m_here xsteps xdone xat xgone m_was m_came m_seenAt m_rowWorth m_farBy m_used i_everywhere i_again0 i_d0 xnever xfirstCame xlongRun xmoved xcrowd i_l0 i_fitMany i_fitLeast i_fitMost m_fitPost m_fitEnd m_keptPosts i_x0], [zAr T 0 m_all 3952 f_all], [zAr T 0 m_posts 7 xposts], [zAr T 0 m_shut 7 xshut], [zAr T 0 m_here 7 xhere], [zAr T 0 m_was 7 xwas]]) [4, 0, 1, 2, 5, 3] rfl
    exact z_back hQz_ (z_vret C hr hlocks G (Nat.le_of_ble_eq_true rfl) (Nat.le_of_ble_eq_true rfl) dX12_runs_106 ⟨xat, xgone, xsteps, xmoved, xfirstCame, xnever, xlongRun, xcrowd, xdone, xposts, xshut, xhere, xwas, rfl, (by first | with_reducible assumption | omega | trivial | assumption), (by first | with_reducible assumption | omega | trivial | assumption), (by first | with_reducible assumption | omega | trivial | assumption)⟩)
  · have c_8n : ¬ n_.toInt ≤ xdone.toInt := fun q => c_8 ((fa_le _ _).mpr q)
    refine lv_aload_n hx hb dX12_runs_12 rfl (lv_at hl 0 rfl) ?_
    refine z_get C G clX12 4 rfl 18 (by decide) m_fl_RX12_199 rfl dX12_runs_13 ?_
    refine lv_aload_n hx hb dX12_runs_16 rfl (lv_at hl 0 rfl) ?_
    refine z_get C G clX12 4 rfl 0 (by decide) m_fl_RX12_7 rfl dX12_runs_17 ?_
    refine lv_aload_n hx hb dX12_runs_20 rfl (lv_at hl 0 rfl) ?_
    refine z_get C G clX12 4 rfl 29 (by decide) m_fl_RX12_302 rfl dX12_runs_21 ?_
    refine z_ild C G 0 rfl (vp_in_iff.mpr ⟨by omega, by omega⟩) dX12_runs_24 ?_
    refine lv_topi (fun v_9 ev_9 => ?_)
    subst ev_9
    refine lv_icmp_ge (tgt := 106) hx hb dX12_runs_25 (by decide) (fun c_10 => ?_) (fun c_10 => ?_)
    · have c_10n : (f_all i_d0.toNatClampNeg).toInt ≤ xdone.toInt := (fa_le _ _).mp c_10
      have G := G.sub (bs' := [[zO11 mo m_all m_has i_size i_next i_where i_token i_number i_word i_wrong i_farCrossing m_read i_z0 i_crossings i_inns m_posts m_shut m_here xsteps xdone xat xgone m_was m_came m_seenAt m_rowWorth m_farBy m_used i_everywhere i_again0 i_d0 xnever xfirstCame xlongRun xmoved xcrowd i_l0 i_fitMany i_fitLeast i_fitMost m_fitPost m_fitEnd m_keptPosts i_x0], [zAr T 0 m_all 3952 f_all], [zAr T 0 m_posts 7 xposts], [zAr T 0 m_shut 7 xshut], [zAr T 0 m_here 7 xhere], [zAr T 0 m_was 7 xwas]]) [4, 0, 1, 2, 5, 3] rfl
      exact z_back hQz_ (z_vret C hr hlocks G (Nat.le_of_ble_eq_true rfl) (Nat.le_of_ble_eq_true rfl) dX12_runs_106 ⟨xat, xgone, xsteps, xmoved, xfirstCame, xnever, xlongRun, xcrowd, xdone, xposts, xshut, xhere, xwas, rfl, (by first | with_reducible assumption | omega | trivial | assumption), (by first | with_reducible assumption | omega | trivial | assumption), (by first | with_reducible assumption | omega | trivial | assumption)⟩)
    · have c_10n : ¬ (f_all i_d0.toNatClampNeg).toInt ≤ xdone.toInt := fun q => c_10 ((fa_le _ _).mpr q)
      refine lv_aload_n hx hb dX12_runs_28 rfl (lv_at hl 0 rfl) ?_
      refine lv_aload_n hx hb dX12_runs_29 rfl (lv_at hl 0 rfl) ?_
      refine z_get C G clX12 4 rfl 0 (by decide) m_fl_RX12_7 rfl dX12_runs_30 ?_
      refine lv_aload_n hx hb dX12_runs_33 rfl (lv_at hl 0 rfl) ?_
      refine z_get C G clX12 4 rfl 29 (by decide) m_fl_RX12_302 rfl dX12_runs_34 ?_
      refine lv_iconst (v := 1) hx hb dX12_runs_37 (by decide) ?_
      refine lv_iadd hx hb dX12_runs_38 ?_
      refine lv_topi (fun y_11 ey_11 => ?_)
      have ey_11i : y_11.toInt = i_d0.toInt + (1 : Int) := by rw [ey_11]; exact z_iaddI (x := i_d0) (y := (1 : Int32)) (by show -2147483648 ≤ i_d0.toInt + (1 : Int); omega) (by show i_d0.toInt + (1 : Int) < 2147483648; omega)
      refine lv_iconst (v := 3) hx hb dX12_runs_39 (by decide) ?_
      refine lv_aload_n hx hb dX12_runs_40 rfl (lv_at hl 0 rfl) ?_
      refine z_get C G clX12 4 rfl 18 (by decide) m_fl_RX12_199 rfl dX12_runs_41 ?_
      refine lv_imul hx hb dX12_runs_44 ?_
      refine lv_topi (fun y_12 ey_12 => ?_)
      have ey_12i : y_12.toInt = (3 : Int) * xdone.toInt := by rw [ey_12]; exact z_imulI (x := (3 : Int32)) (y := xdone) (by show -2147483648 ≤ (3 : Int) * xdone.toInt; omega) (by show (3 : Int) * xdone.toInt < 2147483648; omega)
      refine lv_iadd hx hb dX12_runs_45 ?_
      refine lv_topi (fun y_13 ey_13 => ?_)
      have ey_13i : y_13.toInt = y_11.toInt + y_12.toInt := by rw [ey_13]; exact z_iaddI (x := y_11) (y := y_12) (by show -2147483648 ≤ y_11.toInt + y_12.toInt; omega) (by show y_11.toInt + y_12.toInt < 2147483648; omega)
      refine z_ild C G 0 rfl (vp_in_iff.mpr ⟨by omega, by omega⟩) dX12_runs_46 ?_
      refine lv_topi (fun v_14 ev_14 => ?_)
      subst ev_14
      refine lv_aload_n hx hb dX12_runs_47 rfl (lv_at hl 0 rfl) ?_
      refine z_get C G clX12 4 rfl 0 (by decide) m_fl_RX12_7 rfl dX12_runs_48 ?_
      refine lv_aload_n hx hb dX12_runs_51 rfl (lv_at hl 0 rfl) ?_
      refine z_get C G clX12 4 rfl 29 (by decide) m_fl_RX12_302 rfl dX12_runs_52 ?_
      refine lv_iconst (v := 2) hx hb dX12_runs_55 (by decide) ?_
      refine lv_iadd hx hb dX12_runs_56 ?_
      refine lv_topi (fun y_15 ey_15 => ?_)
      have ey_15i : y_15.toInt = i_d0.toInt + (2 : Int) := by rw [ey_15]; exact z_iaddI (x := i_d0) (y := (2 : Int32)) (by show -2147483648 ≤ i_d0.toInt + (2 : Int); omega) (by show i_d0.toInt + (2 : Int) < 2147483648; omega)
      refine lv_iconst (v := 3) hx hb dX12_runs_57 (by decide) ?_
      refine lv_aload_n hx hb dX12_runs_58 rfl (lv_at hl 0 rfl) ?_
      refine z_get C G clX12 4 rfl 18 (by decide) m_fl_RX12_199 rfl dX12_runs_59 ?_
      refine lv_imul hx hb dX12_runs_62 ?_
      refine lv_topi (fun y_16 ey_16 => ?_)
      have ey_16i : y_16.toInt = (3 : Int) * xdone.toInt := by rw [ey_16]; exact z_imulI (x := (3 : Int32)) (y := xdone) (by show -2147483648 ≤ (3 : Int) * xdone.toInt; omega) (by show (3 : Int) * xdone.toInt < 2147483648; omega)
      refine lv_iadd hx hb dX12_runs_63 ?_
      refine lv_topi (fun y_17 ey_17 => ?_)
      have ey_17i : y_17.toInt = y_15.toInt + y_16.toInt := by rw [ey_17]; exact z_iaddI (x := y_15) (y := y_16) (by show -2147483648 ≤ y_15.toInt + y_16.toInt; omega) (by show y_15.toInt + y_16.toInt < 2147483648; omega)
      refine z_ild C G 0 rfl (vp_in_iff.mpr ⟨by omega, by omega⟩) dX12_runs_64 ?_
      refine lv_topi (fun v_18 ev_18 => ?_)
      subst ev_18
      refine lv_aload_n hx hb dX12_runs_65 rfl (lv_at hl 0 rfl) ?_
      refine z_get C G clX12 4 rfl 0 (by decide) m_fl_RX12_7 rfl dX12_runs_66 ?_
      refine lv_aload_n hx hb dX12_runs_69 rfl (lv_at hl 0 rfl) ?_
      refine z_get C G clX12 4 rfl 29 (by decide) m_fl_RX12_302 rfl dX12_runs_70 ?_
      refine lv_iconst (v := 3) hx hb dX12_runs_73 (by decide) ?_
      refine lv_iadd hx hb dX12_runs_74 ?_
      refine lv_topi (fun y_19 ey_19 => ?_)
      have ey_19i : y_19.toInt = i_d0.toInt + (3 : Int) := by rw [ey_19]; exact z_iaddI (x := i_d0) (y := (3 : Int32)) (by show -2147483648 ≤ i_d0.toInt + (3 : Int); omega) (by show i_d0.toInt + (3 : Int) < 2147483648; omega)
      refine lv_iconst (v := 3) hx hb dX12_runs_75 (by decide) ?_
      refine lv_aload_n hx hb dX12_runs_76 rfl (lv_at hl 0 rfl) ?_
      refine z_get C G clX12 4 rfl 18 (by decide) m_fl_RX12_199 rfl dX12_runs_77 ?_
      refine lv_imul hx hb dX12_runs_80 ?_
      refine lv_topi (fun y_20 ey_20 => ?_)
      have ey_20i : y_20.toInt = (3 : Int) * xdone.toInt := by rw [ey_20]; exact z_imulI (x := (3 : Int32)) (y := xdone) (by show -2147483648 ≤ (3 : Int) * xdone.toInt; omega) (by show (3 : Int) * xdone.toInt < 2147483648; omega)
      refine lv_iadd hx hb dX12_runs_81 ?_
      refine lv_topi (fun y_21 ey_21 => ?_)
      have ey_21i : y_21.toInt = y_19.toInt + y_20.toInt := by rw [ey_21]; exact z_iaddI (x := y_19) (y := y_20) (by show -2147483648 ≤ y_19.toInt + y_20.toInt; omega) (by show y_19.toInt + y_20.toInt < 2147483648; omega)
      refine z_ild C G 0 rfl (vp_in_iff.mpr ⟨by omega, by omega⟩) dX12_runs_82 ?_
      refine lv_topi (fun v_22 ev_22 => ?_)
      subst ev_22
      refine z_Vi (bc := [[zO11 mo m_all m_has i_size i_next i_where i_token i_number i_word i_wrong i_farCrossing m_read i_z0 i_crossings i_inns m_posts m_shut m_here xsteps xdone xat xgone m_was m_came m_seenAt m_rowWorth m_farBy m_used i_everywhere i_again0 i_d0 xnever xfirstCame xlongRun xmoved xcrowd i_l0 i_fitMany i_fitLeast i_fitMost m_fitPost m_fitEnd m_keptPosts i_x0], [zAr T 0 m_all 3952 f_all], [zAr T 0 m_posts 7 xposts], [zAr T 0 m_shut 7 xshut], [zAr T 0 m_here 7 xhere], [zAr T 0 m_was 7 xwas]]) (br := []) (As := [.int (f_all y_13.toNatClampNeg), .int (f_all y_17.toNatClampNeg), .int (f_all y_21.toNatClampNeg)]) (rest := []) C G (c_m_does l T mo m_all m_has i_size i_next i_where i_token i_number i_word i_wrong i_farCrossing m_read i_z0 i_crossings i_inns m_posts m_shut m_here xsteps xdone xat xgone m_was m_came m_seenAt m_rowWorth m_farBy m_used i_everywhere i_again0 i_d0 xnever xfirstCame xlongRun xmoved xcrowd i_l0 i_fitMany i_fitLeast i_fitMost m_fitPost m_fitEnd m_keptPosts i_x0 f_all xposts xshut xhere xwas (f_all y_13.toNatClampNeg) (f_all y_17.toNatClampNeg) (f_all y_21.toNatClampNeg) (by first | with_reducible assumption | with_reducible rfl | omega | assumption | rfl | decide) (by first | with_reducible assumption | with_reducible rfl | omega | assumption | rfl | decide)) (kV_RX12_345 C.2.2.2.2 (Nat.le_of_ble_eq_true rfl) (Nat.le_of_ble_eq_true rfl)) [4, 0, 1, 2, 5, 3] [0, 0, 0, 0, 0, 0] rfl rfl (ci := 11) (qc := (RX12, TX12, 43)) rfl rfl (List.mem_flatten.mpr ⟨_, List.mem_of_getElem? (i := 0) rfl, List.mem_cons_self⟩) rfl rfl hl.1 dX12_runs_83 (Nat.le_of_ble_eq_true rfl) (Nat.le_of_ble_eq_true rfl) (fun r_36 b1 H locs hw G => ?_)
      refine zEx11 hw ?_
      intro j_at_23 j_gone_24 j_steps_25 j_moved_26 j_firstCame_27 j_never_28 j_longRun_29 g_posts_30 g_shut_31 g_here_32 g_was_33
      refine zCu3 ?_
      intro hbs9 h_34 h_35
      clear hw
      subst hbs9
      have G : zS T A s.heap s [[zO11 mo m_all m_has i_size i_next i_where i_token i_number i_word i_wrong i_farCrossing m_read i_z0 i_crossings i_inns m_posts m_shut m_here j_steps_25 xdone j_at_23 j_gone_24 m_was m_came m_seenAt m_rowWorth m_farBy m_used i_everywhere i_again0 i_d0 j_never_28 j_firstCame_27 j_longRun_29 j_moved_26 xcrowd i_l0 i_fitMany i_fitLeast i_fitMost m_fitPost m_fitEnd m_keptPosts i_x0], [zAr T 0 m_all 3952 f_all], [zAr T 0 m_posts 7 g_posts_30], [zAr T 0 m_shut 7 g_shut_31], [zAr T 0 m_here 7 g_here_32], [zAr T 0 m_was 7 g_was_33]] _ _ := G
      replace h_34 : zHd ((r_36 = 0 ∨ r_36 = 1)) := h_34
      refine lv_if_eq (tgt := 106) hx hb dX12_runs_86 (by decide) (fun c_37 => ?_) (fun c_37 => ?_)
      · have c_37n : r_36.toInt = (0 : Int) := (fa_eq _ _).mp c_37
        exact z_back hQz_ (z_vret C hr hlocks G (Nat.le_of_ble_eq_true rfl) (Nat.le_of_ble_eq_true rfl) dX12_runs_106 ⟨j_at_23, j_gone_24, j_steps_25, j_moved_26, j_firstCame_27, j_never_28, j_longRun_29, xcrowd, xdone, g_posts_30, g_shut_31, g_here_32, g_was_33, rfl, (by first | with_reducible assumption | omega | trivial | assumption), (by first | with_reducible assumption | omega | trivial | assumption), (by first | with_reducible assumption | omega | trivial | assumption)⟩)
      · have c_37n : ¬ r_36.toInt = (0 : Int) := fun q => c_37 ((fa_eq _ _).mpr q)
        refine lv_aload_n hx hb dX12_runs_89 rfl (lv_at hl 0 rfl) ?_
        refine lv_dup hx hb dX12_runs_90 rfl ?_
        refine z_get C G clX12 0 rfl 18 (by decide) m_fl_RX12_199 rfl dX12_runs_91 ?_
        refine lv_iconst (v := 1) hx hb dX12_runs_94 (by decide) ?_
        refine lv_iadd hx hb dX12_runs_95 ?_
        refine lv_topi (fun y_38 ey_38 => ?_)
        have ey_38i : y_38.toInt = xdone.toInt + (1 : Int) := by rw [ey_38]; exact z_iaddI (x := xdone) (y := (1 : Int32)) (by show -2147483648 ≤ xdone.toInt + (1 : Int); omega) (by show xdone.toInt + (1 : Int) < 2147483648; omega)
        refine z_put C G clX12 0 rfl 18 (by decide) m_fl_RX12_199 rfl rfl rfl (Nat.le_of_ble_eq_true rfl) dX12_runs_96 (fun H locs G => ?_)
        have G : zS T A s.heap s [[zO11 mo m_all m_has i_size i_next i_where i_token i_number i_word i_wrong i_farCrossing m_read i_z0 i_crossings i_inns m_posts m_shut m_here j_steps_25 y_38 j_at_23 j_gone_24 m_was m_came m_seenAt m_rowWorth m_farBy m_used i_everywhere i_again0 i_d0 j_never_28 j_firstCame_27 j_longRun_29 j_moved_26 xcrowd i_l0 i_fitMany i_fitLeast i_fitMost m_fitPost m_fitEnd m_keptPosts i_x0], [zAr T 0 m_all 3952 f_all], [zAr T 0 m_posts 7 g_posts_30], [zAr T 0 m_shut 7 g_shut_31], [zAr T 0 m_here 7 g_here_32], [zAr T 0 m_was 7 g_was_33]] _ _ := G
        refine lv_aload_n hx hb dX12_runs_99 rfl (lv_at hl 0 rfl) ?_
        refine z_Vv (bc := [[zO11 mo m_all m_has i_size i_next i_where i_token i_number i_word i_wrong i_farCrossing m_read i_z0 i_crossings i_inns m_posts m_shut m_here j_steps_25 y_38 j_at_23 j_gone_24 m_was m_came m_seenAt m_rowWorth m_farBy m_used i_everywhere i_again0 i_d0 j_never_28 j_firstCame_27 j_longRun_29 j_moved_26 xcrowd i_l0 i_fitMany i_fitLeast i_fitMost m_fitPost m_fitEnd m_keptPosts i_x0], [zAr T 0 m_here 7 g_here_32]]) (br := [[zAr T 0 m_all 3952 f_all], [zAr T 0 m_posts 7 g_posts_30], [zAr T 0 m_shut 7 g_shut_31], [zAr T 0 m_was 7 g_was_33]]) (As := []) (rest := []) C G (c_m_looks l T mo m_all m_has i_size i_next i_where i_token i_number i_word i_wrong i_farCrossing m_read i_z0 i_crossings i_inns m_posts m_shut m_here j_steps_25 y_38 j_at_23 j_gone_24 m_was m_came m_seenAt m_rowWorth m_farBy m_used i_everywhere i_again0 i_d0 j_never_28 j_firstCame_27 j_longRun_29 j_moved_26 xcrowd i_l0 i_fitMany i_fitLeast i_fitMost m_fitPost m_fitEnd m_keptPosts i_x0 g_here_32 (by first | with_reducible assumption | with_reducible rfl | omega | assumption | rfl | decide)) (kV_RX12_339 C.2.2.2.2 (Nat.le_of_ble_eq_true rfl) (Nat.le_of_ble_eq_true rfl)) [0, 4] [0, 3] rfl rfl (ci := 11) (qc := (RX12, TX12, 43)) rfl rfl (List.mem_flatten.mpr ⟨_, List.mem_of_getElem? (i := 0) rfl, List.mem_cons_self⟩) rfl rfl hl.1 dX12_runs_100 (Nat.le_of_ble_eq_true rfl) (Nat.le_of_ble_eq_true rfl) (fun b1 H locs hw G => ?_)
        refine zEx1 hw ?_
        intro j_crowd_39 hbs9
        clear hw
        subst hbs9
        have G : zS T A s.heap s [[zAr T 0 m_all 3952 f_all], [zAr T 0 m_posts 7 g_posts_30], [zAr T 0 m_shut 7 g_shut_31], [zAr T 0 m_was 7 g_was_33], [zO11 mo m_all m_has i_size i_next i_where i_token i_number i_word i_wrong i_farCrossing m_read i_z0 i_crossings i_inns m_posts m_shut m_here j_steps_25 y_38 j_at_23 j_gone_24 m_was m_came m_seenAt m_rowWorth m_farBy m_used i_everywhere i_again0 i_d0 j_never_28 j_firstCame_27 j_longRun_29 j_moved_26 j_crowd_39 i_l0 i_fitMany i_fitLeast i_fitMost m_fitPost m_fitEnd m_keptPosts i_x0], [zAr T 0 m_here 7 g_here_32]] _ _ := G
        refine lv_goto (tgt := 4) hx hb dX12_runs_103 (by decide) ?_
        exact ih_4 j_at_23 j_gone_24 j_steps_25 j_moved_26 j_firstCame_27 j_never_28 j_longRun_29 j_crowd_39 y_38 g_posts_30 g_shut_31 g_here_32 g_was_33 (show zMP g_posts_30 ∧ 0 ≤ y_38.toInt ∧ y_38.toInt ≤ 40 from ⟨(by first | with_reducible assumption | assumption), by omega, by omega⟩) (show ((f_all i_d0.toNatClampNeg).toInt - y_38.toInt).toNat < ((f_all i_d0.toNatClampNeg).toInt - xdone.toInt).toNat from by omega) _ _ ls G (lv_sub hl [0, 1] rfl)
set_option maxHeartbeats 4000000 in
set_option maxRecDepth 100000 in
/-- c_m_walkersOf -/
theorem c_m_walkersOf (l : Launch) (T : zTy) (mo : Nat) (m_all : Nat) (m_has : Nat) (i_size : Int32) (i_next : Int32) (i_where : Int32) (i_token : Int32) (i_number : Int32) (i_word : Int32) (i_wrong : Int32) (i_farCrossing : Int32) (m_read : Nat) (i_z0 : Int32) (i_crossings : Int32) (i_inns : Int32) (m_posts : Nat) (m_shut : Nat) (m_here : Nat) (i_steps : Int32) (i_done : Int32) (i_at : Int32) (i_gone : Int32) (m_was : Nat) (m_came : Nat) (m_seenAt : Nat) (m_rowWorth : Nat) (m_farBy : Nat) (m_used : Nat) (i_everywhere : Int32) (i_again0 : Int32) (i_d0 : Int32) (i_never : Int32) (i_firstCame : Int32) (i_longRun : Int32) (i_moved : Int32) (i_crowd : Int32) (i_l0 : Int32) (i_fitMany : Int32) (i_fitLeast : Int32) (i_fitMost : Int32) (m_fitPost : Nat) (m_fitEnd : Nat) (m_keptPosts : Nat) (i_x0 : Int32) (f_here : Nat → Int32) (w_ : Int32) (hcr : 0 ≤ i_crossings.toInt ∧ i_crossings.toInt ≤ 7) : zMi l T yX12_walkersOf cX12_walkersOf 4 (some .int) 2 0 0 [.ref mo, .int w_] [[zO11 mo m_all m_has i_size i_next i_where i_token i_number i_word i_wrong i_farCrossing m_read i_z0 i_crossings i_inns m_posts m_shut m_here i_steps i_done i_at i_gone m_was m_came m_seenAt m_rowWorth m_farBy m_used i_everywhere i_again0 i_d0 i_never i_firstCame i_longRun i_moved i_crowd i_l0 i_fitMany i_fitLeast i_fitMost m_fitPost m_fitEnd m_keptPosts i_x0], [zAr T 0 m_here 7 f_here]] (fun (r : Int32) bs => bs = [[zO11 mo m_all m_has i_size i_next i_where i_token i_number i_word i_wrong i_farCrossing m_read i_z0 i_crossings i_inns m_posts m_shut m_here i_steps i_done i_at i_gone m_was m_came m_seenAt m_rowWorth m_farBy m_used i_everywhere i_again0 i_d0 i_never i_firstCame i_longRun i_moved i_crowd i_l0 i_fitMany i_fitLeast i_fitMost m_fitPost m_fitEnd m_keptPosts i_x0], [zAr T 0 m_here 7 f_here]]) := by
  refine zMi_of (own := RX12) (by decide) rfl (Nat.le_of_ble_eq_true rfl) ?_
  intro p e s m args below meth c A ls C hr hlocks hnm hAe G hl
  refine zHide (fun Qz_ hQz_ => ?_)
  have hx := C.1
  have hb := C.2.1
  have hl : lv_has ls 4 [(0, .ref mo), (1, .int w_)] := hl
  refine lv_iconst (v := 0) hx hb dX12_walkersOf_0 (by decide) ?_
  refine lv_istore_n (lv' := [(2, .int 0), (0, .ref mo), (1, .int w_)]) hx hb dX12_walkersOf_1 rfl hl (by decide) (zLvf_h rfl) (fun ls hl => ?_)
  refine lv_iconst (v := 0) hx hb dX12_walkersOf_2 (by decide) ?_
  refine lv_istore_n (lv' := [(3, .int 0), (2, .int 0), (0, .ref mo), (1, .int w_)]) hx hb dX12_walkersOf_3 rfl hl (by decide) (zLvf_h rfl) (fun ls hl => ?_)
  refine z_lp2 (T := T) 4 (fun (i : Nat) (u : Int32) => [[zO11 mo m_all m_has i_size i_next i_where i_token i_number i_word i_wrong i_farCrossing m_read i_z0 i_crossings i_inns m_posts m_shut m_here i_steps i_done i_at i_gone m_was m_came m_seenAt m_rowWorth m_farBy m_used i_everywhere i_again0 i_d0 i_never i_firstCame i_longRun i_moved i_crowd i_l0 i_fitMany i_fitLeast i_fitMost m_fitPost m_fitEnd m_keptPosts i_x0], [zAr T 0 m_here 7 f_here]]) (fun (i : Nat) (u : Int32) => [(3, .int (nI i)), (2, .int u), (0, .ref mo), (1, .int w_)]) (fun (i : Nat) (u : Int32) => i ≤ 7) (fun (i : Nat) (u : Int32) => 7 - i) ?_ 0 0 (show 0 ≤ 7 from by omega) G (lv_sub hl [0, 1, 2, 3] rfl)
  intro i u hi ih_4 H locs ls G hl
  replace hi : i ≤ 7 := hi
  replace G : zS T A s.heap s [[zO11 mo m_all m_has i_size i_next i_where i_token i_number i_word i_wrong i_farCrossing m_read i_z0 i_crossings i_inns m_posts m_shut m_here i_steps i_done i_at i_gone m_was m_came m_seenAt m_rowWorth m_farBy m_used i_everywhere i_again0 i_d0 i_never i_firstCame i_longRun i_moved i_crowd i_l0 i_fitMany i_fitLeast i_fitMost m_fitPost m_fitEnd m_keptPosts i_x0], [zAr T 0 m_here 7 f_here]] _ _ := G
  replace hl : lv_has ls 4 [(3, .int (nI i)), (2, .int u), (0, .ref mo), (1, .int w_)] := hl
  refine lv_iload_n hx hb dX12_walkersOf_4 rfl (lv_at hl 0 rfl) ?_
  refine lv_aload_n hx hb dX12_walkersOf_5 rfl (lv_at hl 2 rfl) ?_
  refine z_get C G clX12 0 rfl 12 (by decide) m_fl_RX12_169 rfl dX12_walkersOf_6 ?_
  refine lv_icmp_ge (tgt := 43) hx hb dX12_walkersOf_9 (by decide) (fun c_1 => ?_) (fun c_1 => ?_)
  · have c_1n : i_crossings.toInt ≤ (i : Int) := by have q := (fa_le _ _).mp c_1; rw [nI_toInt (n := i) (by omega)] at q; exact q
    refine lv_iload_n hx hb dX12_walkersOf_43 rfl (lv_at hl 1 rfl) ?_
    exact z_back hQz_ (z_iret C hr hlocks G (Nat.le_of_ble_eq_true rfl) (Nat.le_of_ble_eq_true rfl) dX12_walkersOf_44 rfl)
  · have c_1n : ¬ i_crossings.toInt ≤ (i : Int) := fun q => c_1 ((fa_le _ _).mpr (by rw [nI_toInt (n := i) (by omega)]; exact q))
    refine lv_iload_n hx hb dX12_walkersOf_12 rfl (lv_at hl 1 rfl) ?_
    refine lv_iload_n hx hb dX12_walkersOf_13 rfl (lv_at hl 3 rfl) ?_
    refine lv_if_eq (tgt := 25) hx hb dX12_walkersOf_14 (by decide) (fun c_2 => ?_) (fun c_2 => ?_)
    · have c_2n : w_.toInt = (0 : Int) := (fa_eq _ _).mp c_2
      refine lv_aload_n hx hb dX12_walkersOf_25 rfl (lv_at hl 2 rfl) ?_
      refine z_get C G clX12 0 rfl 16 (by decide) m_fl_RX12_26 rfl dX12_walkersOf_26 ?_
      refine lv_iload_n hx hb dX12_walkersOf_29 rfl (lv_at hl 0 rfl) ?_
      refine z_ild C G 1 rfl (vp_in_nI (by omega) (by decide)) dX12_walkersOf_30 ?_
      refine lv_topi (fun v_3 ev_3 => ?_)
      rw [nI_clamp (by omega)] at ev_3
      subst ev_3
      refine lv_goto (tgt := 35) hx hb dX12_walkersOf_31 (by decide) ?_
      refine lv_iadd hx hb dX12_walkersOf_35 ?_
      refine lv_istore_n (lv' := [(2, .int (u + (f_here i))), (3, .int (nI i)), (0, .ref mo), (1, .int w_)]) hx hb dX12_walkersOf_36 rfl hl (by decide) (zLvf_h rfl) (fun ls hl => ?_)
      refine lv_iinc (v := nI (i + 1)) (lv' := [(3, .int (nI (i + 1))), (2, .int (u + (f_here i))), (0, .ref mo), (1, .int w_)]) hx hb dX12_walkersOf_37 hl (k := 1) rfl (z_inc i 1) (by decide) (zLvf_h rfl) (fun ls hl => ?_)
      refine lv_goto (tgt := 4) hx hb dX12_walkersOf_40 (by decide) ?_
      exact ih_4 (i + 1) (u + (f_here i)) (show (i + 1) ≤ 7 from by omega) (show 7 - (i + 1) < 7 - i from by omega) _ _ ls G (lv_sub hl [0, 1, 2, 3] rfl)
    · have c_2n : ¬ w_.toInt = (0 : Int) := fun q => c_2 ((fa_eq _ _).mpr q)
      refine lv_aload_n hx hb dX12_walkersOf_17 rfl (lv_at hl 2 rfl) ?_
      refine lv_iload_n hx hb dX12_walkersOf_18 rfl (lv_at hl 0 rfl) ?_
      have ti_4 : (nI i).toInt = ((i : Nat) : Int) := nI_toInt (by omega)
      refine z_Vi (bc := [[zO11 mo m_all m_has i_size i_next i_where i_token i_number i_word i_wrong i_farCrossing m_read i_z0 i_crossings i_inns m_posts m_shut m_here i_steps i_done i_at i_gone m_was m_came m_seenAt m_rowWorth m_farBy m_used i_everywhere i_again0 i_d0 i_never i_firstCame i_longRun i_moved i_crowd i_l0 i_fitMany i_fitLeast i_fitMost m_fitPost m_fitEnd m_keptPosts i_x0]]) (br := [[zAr T 0 m_here 7 f_here]]) (As := [.int (nI i)]) (rest := [.int u]) C G (c_m_isInn l T mo m_all m_has i_size i_next i_where i_token i_number i_word i_wrong i_farCrossing m_read i_z0 i_crossings i_inns m_posts m_shut m_here i_steps i_done i_at i_gone m_was m_came m_seenAt m_rowWorth m_farBy m_used i_everywhere i_again0 i_d0 i_never i_firstCame i_longRun i_moved i_crowd i_l0 i_fitMany i_fitLeast i_fitMost m_fitPost m_fitEnd m_keptPosts i_x0 (nI i)) (kV_RX12_178 C.2.2.2.2 (Nat.le_of_ble_eq_true rfl) (Nat.le_of_ble_eq_true rfl)) [0] [0] rfl rfl (ci := 11) (qc := (RX12, TX12, 43)) rfl rfl (List.mem_flatten.mpr ⟨_, List.mem_of_getElem? (i := 0) rfl, List.mem_cons_self⟩) rfl rfl hl.1 dX12_walkersOf_19 (Nat.le_of_ble_eq_true rfl) (Nat.le_of_ble_eq_true rfl) (fun r_6 b1 H locs hw G => ?_)
      refine zAn2 hw ?_
      intro hbs9 hc_5
      clear hw
      subst hbs9
      have G : zS T A s.heap s [[zAr T 0 m_here 7 f_here], [zO11 mo m_all m_has i_size i_next i_where i_token i_number i_word i_wrong i_farCrossing m_read i_z0 i_crossings i_inns m_posts m_shut m_here i_steps i_done i_at i_gone m_was m_came m_seenAt m_rowWorth m_farBy m_used i_everywhere i_again0 i_d0 i_never i_firstCame i_longRun i_moved i_crowd i_l0 i_fitMany i_fitLeast i_fitMost m_fitPost m_fitEnd m_keptPosts i_x0]] _ _ := G
      rcases hc_5 with ⟨rfl, h_7⟩ | ⟨rfl, h_8⟩
      · have h_7 : zInn i_inns (nI i) := h_7
        refine lv_if_eq (tgt := 34) hx hb dX12_walkersOf_22 (by decide) (fun q => absurd q (by decide)) (fun _ => ?_)
        refine lv_aload_n hx hb dX12_walkersOf_25 rfl (lv_at hl 2 rfl) ?_
        refine z_get C G clX12 1 rfl 16 (by decide) m_fl_RX12_26 rfl dX12_walkersOf_26 ?_
        refine lv_iload_n hx hb dX12_walkersOf_29 rfl (lv_at hl 0 rfl) ?_
        refine z_ild C G 0 rfl (vp_in_nI (by omega) (by decide)) dX12_walkersOf_30 ?_
        refine lv_topi (fun v_9 ev_9 => ?_)
        rw [nI_clamp (by omega)] at ev_9
        subst ev_9
        refine lv_goto (tgt := 35) hx hb dX12_walkersOf_31 (by decide) ?_
        refine lv_iadd hx hb dX12_walkersOf_35 ?_
        refine lv_istore_n (lv' := [(2, .int (u + (f_here i))), (3, .int (nI i)), (0, .ref mo), (1, .int w_)]) hx hb dX12_walkersOf_36 rfl hl (by decide) (zLvf_h rfl) (fun ls hl => ?_)
        refine lv_iinc (v := nI (i + 1)) (lv' := [(3, .int (nI (i + 1))), (2, .int (u + (f_here i))), (0, .ref mo), (1, .int w_)]) hx hb dX12_walkersOf_37 hl (k := 1) rfl (z_inc i 1) (by decide) (zLvf_h rfl) (fun ls hl => ?_)
        refine lv_goto (tgt := 4) hx hb dX12_walkersOf_40 (by decide) ?_
        have G := G.sub (bs' := [[zO11 mo m_all m_has i_size i_next i_where i_token i_number i_word i_wrong i_farCrossing m_read i_z0 i_crossings i_inns m_posts m_shut m_here i_steps i_done i_at i_gone m_was m_came m_seenAt m_rowWorth m_farBy m_used i_everywhere i_again0 i_d0 i_never i_firstCame i_longRun i_moved i_crowd i_l0 i_fitMany i_fitLeast i_fitMost m_fitPost m_fitEnd m_keptPosts i_x0], [zAr T 0 m_here 7 f_here]]) [1, 0] rfl
        exact ih_4 (i + 1) (u + (f_here i)) (show (i + 1) ≤ 7 from by omega) (show 7 - (i + 1) < 7 - i from by omega) _ _ ls G (lv_sub hl [0, 1, 2, 3] rfl)
      · have h_8 : ¬ zInn i_inns (nI i) := h_8
        refine lv_if_eq (tgt := 34) hx hb dX12_walkersOf_22 (by decide) (fun _ => ?_) (fun q => absurd (by decide) q)
        refine lv_iconst (v := 0) hx hb dX12_walkersOf_34 (by decide) ?_
        refine lv_iadd hx hb dX12_walkersOf_35 ?_
        refine lv_istore_n (lv' := [(2, .int (u + 0)), (3, .int (nI i)), (0, .ref mo), (1, .int w_)]) hx hb dX12_walkersOf_36 rfl hl (by decide) (zLvf_h rfl) (fun ls hl => ?_)
        refine lv_iinc (v := nI (i + 1)) (lv' := [(3, .int (nI (i + 1))), (2, .int (u + 0)), (0, .ref mo), (1, .int w_)]) hx hb dX12_walkersOf_37 hl (k := 1) rfl (z_inc i 1) (by decide) (zLvf_h rfl) (fun ls hl => ?_)
        refine lv_goto (tgt := 4) hx hb dX12_walkersOf_40 (by decide) ?_
        have G := G.sub (bs' := [[zO11 mo m_all m_has i_size i_next i_where i_token i_number i_word i_wrong i_farCrossing m_read i_z0 i_crossings i_inns m_posts m_shut m_here i_steps i_done i_at i_gone m_was m_came m_seenAt m_rowWorth m_farBy m_used i_everywhere i_again0 i_d0 i_never i_firstCame i_longRun i_moved i_crowd i_l0 i_fitMany i_fitLeast i_fitMost m_fitPost m_fitEnd m_keptPosts i_x0], [zAr T 0 m_here 7 f_here]]) [1, 0] rfl
        exact ih_4 (i + 1) (u + 0) (show (i + 1) ≤ 7 from by omega) (show 7 - (i + 1) < 7 - i from by omega) _ _ ls G (lv_sub hl [0, 1, 2, 3] rfl)
set_option maxHeartbeats 4000000 in
set_option maxRecDepth 100000 in
/-- c_m_nowOf -/
theorem c_m_nowOf (l : Launch) (T : zTy) (mo : Nat) (m_all : Nat) (m_has : Nat) (i_size : Int32) (i_next : Int32) (i_where : Int32) (i_token : Int32) (i_number : Int32) (i_word : Int32) (i_wrong : Int32) (i_farCrossing : Int32) (m_read : Nat) (i_z0 : Int32) (i_crossings : Int32) (i_inns : Int32) (m_posts : Nat) (m_shut : Nat) (m_here : Nat) (i_steps : Int32) (i_done : Int32) (i_at : Int32) (i_gone : Int32) (m_was : Nat) (m_came : Nat) (m_seenAt : Nat) (m_rowWorth : Nat) (m_farBy : Nat) (m_used : Nat) (i_everywhere : Int32) (i_again0 : Int32) (i_d0 : Int32) (i_never : Int32) (i_firstCame : Int32) (i_longRun : Int32) (i_moved : Int32) (i_crowd : Int32) (i_l0 : Int32) (i_fitMany : Int32) (i_fitLeast : Int32) (i_fitMost : Int32) (m_fitPost : Nat) (m_fitEnd : Nat) (m_keptPosts : Nat) (i_x0 : Int32) (f_posts : Nat → Int32) (f_here : Nat → Int32) (f_shut : Nat → Int32) (w_ : Int32) (hcr : 0 ≤ i_crossings.toInt ∧ i_crossings.toInt ≤ 7) : zMi l T yX12_nowOf cX12_nowOf 3 (some .int) 3 0 0 [.ref mo, .int w_] [[zO11 mo m_all m_has i_size i_next i_where i_token i_number i_word i_wrong i_farCrossing m_read i_z0 i_crossings i_inns m_posts m_shut m_here i_steps i_done i_at i_gone m_was m_came m_seenAt m_rowWorth m_farBy m_used i_everywhere i_again0 i_d0 i_never i_firstCame i_longRun i_moved i_crowd i_l0 i_fitMany i_fitLeast i_fitMost m_fitPost m_fitEnd m_keptPosts i_x0], [zAr T 0 m_posts 7 f_posts], [zAr T 0 m_here 7 f_here], [zAr T 0 m_shut 7 f_shut]] (fun (r : Int32) bs => bs = [[zO11 mo m_all m_has i_size i_next i_where i_token i_number i_word i_wrong i_farCrossing m_read i_z0 i_crossings i_inns m_posts m_shut m_here i_steps i_done i_at i_gone m_was m_came m_seenAt m_rowWorth m_farBy m_used i_everywhere i_again0 i_d0 i_never i_firstCame i_longRun i_moved i_crowd i_l0 i_fitMany i_fitLeast i_fitMost m_fitPost m_fitEnd m_keptPosts i_x0], [zAr T 0 m_posts 7 f_posts], [zAr T 0 m_here 7 f_here], [zAr T 0 m_shut 7 f_shut]]) := by
  refine zMi_of (own := RX12) (by decide) rfl (Nat.le_of_ble_eq_true rfl) ?_
  intro p e s m args below meth c A ls C hr hlocks hnm hAe G hl
  refine zHide (fun Qz_ hQz_ => ?_)
  have hx := C.1
  have hb := C.2.1
  have hl : lv_has ls 3 [(0, .ref mo), (1, .int w_)] := hl
  refine lv_iload_n hx hb dX12_nowOf_0 rfl (lv_at hl 1 rfl) ?_
  by_cases c_1o : w_.toInt < 0 ∨ 3 < w_.toInt
  · refine lv_tableOut (tgt := 57) hx hb dX12_nowOf_1 c_1o (by decide) ?_
    refine lv_iload_n hx hb dX12_nowOf_57 rfl (lv_at hl 1 rfl) ?_
    refine lv_bipush (v := 10) hx hb dX12_nowOf_58 (by decide) ?_
    refine lv_irem hx hb dX12_nowOf_60 (by decide) ?_
    refine lv_istore_n (lv' := [(2, .int (w_ - w_ / 10 * 10)), (0, .ref mo), (1, .int w_)]) hx hb dX12_nowOf_61 rfl hl (by decide) (zLvf_h rfl) (fun ls hl => ?_)
    refine lv_iload_n hx hb dX12_nowOf_62 rfl (lv_at hl 2 rfl) ?_
    refine lv_bipush (v := 10) hx hb dX12_nowOf_63 (by decide) ?_
    refine lv_bipush (v := 39) hx hb dX12_nowOf_65 (by decide) ?_
    refine z_Si (bc := []) (br := [[zO11 mo m_all m_has i_size i_next i_where i_token i_number i_word i_wrong i_farCrossing m_read i_z0 i_crossings i_inns m_posts m_shut m_here i_steps i_done i_at i_gone m_was m_came m_seenAt m_rowWorth m_farBy m_used i_everywhere i_again0 i_d0 i_never i_firstCame i_longRun i_moved i_crowd i_l0 i_fitMany i_fitLeast i_fitMost m_fitPost m_fitEnd m_keptPosts i_x0], [zAr T 0 m_posts 7 f_posts], [zAr T 0 m_here 7 f_here], [zAr T 0 m_shut 7 f_shut]]) (As := [.int w_, .int 10, .int 39]) (rest := []) C G (c_m_isIn l T w_ 10 39) (kS_RX12_111 C.2.2.2.2 (Nat.le_of_ble_eq_true rfl) (Nat.le_of_ble_eq_true rfl)) [] [] rfl rfl rfl rfl hl.1 dX12_nowOf_67 (Nat.le_of_ble_eq_true rfl) (Nat.le_of_ble_eq_true rfl) (fun r_3 b1 H locs hw G => ?_)
    refine zAn2 hw ?_
    intro hbs9 hc_2
    clear hw
    subst hbs9
    have G : zS T A s.heap s [[zO11 mo m_all m_has i_size i_next i_where i_token i_number i_word i_wrong i_farCrossing m_read i_z0 i_crossings i_inns m_posts m_shut m_here i_steps i_done i_at i_gone m_was m_came m_seenAt m_rowWorth m_farBy m_used i_everywhere i_again0 i_d0 i_never i_firstCame i_longRun i_moved i_crowd i_l0 i_fitMany i_fitLeast i_fitMost m_fitPost m_fitEnd m_keptPosts i_x0], [zAr T 0 m_posts 7 f_posts], [zAr T 0 m_here 7 f_here], [zAr T 0 m_shut 7 f_shut]] _ _ := G
    rcases hc_2 with ⟨rfl, h_4, h_5⟩ | ⟨rfl, h_6⟩
    · have h_4 : (10 : Int) ≤ w_.toInt := h_4
      have h_5 : w_.toInt ≤ (39 : Int) := h_5
      refine lv_if_eq (tgt := 81) hx hb dX12_nowOf_70 (by decide) (fun q => absurd q (by decide)) (fun _ => ?_)
      refine lv_aload_n hx hb dX12_nowOf_73 rfl (lv_at hl 1 rfl) ?_
      refine lv_iload_n hx hb dX12_nowOf_74 rfl (lv_at hl 0 rfl) ?_
      refine z_Vi (bc := [[zO11 mo m_all m_has i_size i_next i_where i_token i_number i_word i_wrong i_farCrossing m_read i_z0 i_crossings i_inns m_posts m_shut m_here i_steps i_done i_at i_gone m_was m_came m_seenAt m_rowWorth m_farBy m_used i_everywhere i_again0 i_d0 i_never i_firstCame i_longRun i_moved i_crowd i_l0 i_fitMany i_fitLeast i_fitMost m_fitPost m_fitEnd m_keptPosts i_x0]]) (br := [[zAr T 0 m_posts 7 f_posts], [zAr T 0 m_here 7 f_here], [zAr T 0 m_shut 7 f_shut]]) (As := [.int (w_ - w_ / 10 * 10)]) (rest := []) C G (c_m_isCrossing l T mo m_all m_has i_size i_next i_where i_token i_number i_word i_wrong i_farCrossing m_read i_z0 i_crossings i_inns m_posts m_shut m_here i_steps i_done i_at i_gone m_was m_came m_seenAt m_rowWorth m_farBy m_used i_everywhere i_again0 i_d0 i_never i_firstCame i_longRun i_moved i_crowd i_l0 i_fitMany i_fitLeast i_fitMost m_fitPost m_fitEnd m_keptPosts i_x0 (w_ - w_ / 10 * 10) (by first | with_reducible assumption | with_reducible rfl | omega | assumption | rfl | decide)) (kV_RX12_187 C.2.2.2.2 (Nat.le_of_ble_eq_true rfl) (Nat.le_of_ble_eq_true rfl)) [0] [0] rfl rfl (ci := 11) (qc := (RX12, TX12, 43)) rfl rfl (List.mem_flatten.mpr ⟨_, List.mem_of_getElem? (i := 0) rfl, List.mem_cons_self⟩) rfl rfl hl.1 dX12_nowOf_75 (Nat.le_of_ble_eq_true rfl) (Nat.le_of_ble_eq_true rfl) (fun r_8 b1 H locs hw G => ?_)
      refine zAn2 hw ?_
      intro hbs9 hc_7
      clear hw
      subst hbs9
      have G : zS T A s.heap s [[zAr T 0 m_posts 7 f_posts], [zAr T 0 m_here 7 f_here], [zAr T 0 m_shut 7 f_shut], [zO11 mo m_all m_has i_size i_next i_where i_token i_number i_word i_wrong i_farCrossing m_read i_z0 i_crossings i_inns m_posts m_shut m_here i_steps i_done i_at i_gone m_was m_came m_seenAt m_rowWorth m_farBy m_used i_everywhere i_again0 i_d0 i_never i_firstCame i_longRun i_moved i_crowd i_l0 i_fitMany i_fitLeast i_fitMost m_fitPost m_fitEnd m_keptPosts i_x0]] _ _ := G
      rcases hc_7 with ⟨rfl, h_9, h_10⟩ | ⟨rfl, h_11⟩
      · have h_9 : 0 ≤ (w_ - w_ / 10 * 10).toInt := h_9
        have h_10 : (w_ - w_ / 10 * 10).toInt < i_crossings.toInt := h_10
        refine lv_if_ne (tgt := 84) hx hb dX12_nowOf_78 (by decide) (fun _ => ?_) (fun q => absurd q (by decide))
        refine lv_iload_n hx hb dX12_nowOf_84 rfl (lv_at hl 2 rfl) ?_
        refine lv_bipush (v := 20) hx hb dX12_nowOf_85 (by decide) ?_
        refine lv_icmp_ge (tgt := 99) hx hb dX12_nowOf_87 (by decide) (fun c_12 => ?_) (fun c_12 => ?_)
        · have c_12n : (20 : Int) ≤ w_.toInt := (fa_le _ _).mp c_12
          refine lv_iload_n hx hb dX12_nowOf_99 rfl (lv_at hl 2 rfl) ?_
          refine lv_bipush (v := 30) hx hb dX12_nowOf_100 (by decide) ?_
          refine lv_icmp_ge (tgt := 114) hx hb dX12_nowOf_102 (by decide) (fun c_13 => ?_) (fun c_13 => ?_)
          · have c_13n : (30 : Int) ≤ w_.toInt := (fa_le _ _).mp c_13
            refine lv_aload_n hx hb dX12_nowOf_114 rfl (lv_at hl 1 rfl) ?_
            refine z_get C G clX12 3 rfl 15 (by decide) m_fl_RX12_23 rfl dX12_nowOf_115 ?_
            refine lv_iload_n hx hb dX12_nowOf_118 rfl (lv_at hl 0 rfl) ?_
            refine z_ild C G 2 rfl (vp_in_iff.mpr ⟨by omega, by omega⟩) dX12_nowOf_119 ?_
            refine lv_topi (fun v_14 ev_14 => ?_)
            subst ev_14
            have G := G.sub (bs' := [[zO11 mo m_all m_has i_size i_next i_where i_token i_number i_word i_wrong i_farCrossing m_read i_z0 i_crossings i_inns m_posts m_shut m_here i_steps i_done i_at i_gone m_was m_came m_seenAt m_rowWorth m_farBy m_used i_everywhere i_again0 i_d0 i_never i_firstCame i_longRun i_moved i_crowd i_l0 i_fitMany i_fitLeast i_fitMost m_fitPost m_fitEnd m_keptPosts i_x0], [zAr T 0 m_posts 7 f_posts], [zAr T 0 m_here 7 f_here], [zAr T 0 m_shut 7 f_shut]]) [3, 0, 1, 2] rfl
            exact z_back hQz_ (z_iret C hr hlocks G (Nat.le_of_ble_eq_true rfl) (Nat.le_of_ble_eq_true rfl) dX12_nowOf_120 rfl)
          · have c_13n : ¬ (30 : Int) ≤ w_.toInt := fun q => c_13 ((fa_le _ _).mpr q)
            refine lv_aload_n hx hb dX12_nowOf_105 rfl (lv_at hl 1 rfl) ?_
            refine z_get C G clX12 3 rfl 16 (by decide) m_fl_RX12_26 rfl dX12_nowOf_106 ?_
            refine lv_iload_n hx hb dX12_nowOf_109 rfl (lv_at hl 0 rfl) ?_
            refine z_ild C G 1 rfl (vp_in_iff.mpr ⟨by omega, by omega⟩) dX12_nowOf_110 ?_
            refine lv_topi (fun v_15 ev_15 => ?_)
            subst ev_15
            refine lv_goto (tgt := 120) hx hb dX12_nowOf_111 (by decide) ?_
            have G := G.sub (bs' := [[zO11 mo m_all m_has i_size i_next i_where i_token i_number i_word i_wrong i_farCrossing m_read i_z0 i_crossings i_inns m_posts m_shut m_here i_steps i_done i_at i_gone m_was m_came m_seenAt m_rowWorth m_farBy m_used i_everywhere i_again0 i_d0 i_never i_firstCame i_longRun i_moved i_crowd i_l0 i_fitMany i_fitLeast i_fitMost m_fitPost m_fitEnd m_keptPosts i_x0], [zAr T 0 m_posts 7 f_posts], [zAr T 0 m_here 7 f_here], [zAr T 0 m_shut 7 f_shut]]) [3, 0, 1, 2] rfl
            exact z_back hQz_ (z_iret C hr hlocks G (Nat.le_of_ble_eq_true rfl) (Nat.le_of_ble_eq_true rfl) dX12_nowOf_120 rfl)
        · have c_12n : ¬ (20 : Int) ≤ w_.toInt := fun q => c_12 ((fa_le _ _).mpr q)
          refine lv_aload_n hx hb dX12_nowOf_90 rfl (lv_at hl 1 rfl) ?_
          refine z_get C G clX12 3 rfl 14 (by decide) m_fl_RX12_20 rfl dX12_nowOf_91 ?_
          refine lv_iload_n hx hb dX12_nowOf_94 rfl (lv_at hl 0 rfl) ?_
          refine z_ild C G 0 rfl (vp_in_iff.mpr ⟨by omega, by omega⟩) dX12_nowOf_95 ?_
          refine lv_topi (fun v_16 ev_16 => ?_)
          subst ev_16
          refine lv_goto (tgt := 120) hx hb dX12_nowOf_96 (by decide) ?_
          have G := G.sub (bs' := [[zO11 mo m_all m_has i_size i_next i_where i_token i_number i_word i_wrong i_farCrossing m_read i_z0 i_crossings i_inns m_posts m_shut m_here i_steps i_done i_at i_gone m_was m_came m_seenAt m_rowWorth m_farBy m_used i_everywhere i_again0 i_d0 i_never i_firstCame i_longRun i_moved i_crowd i_l0 i_fitMany i_fitLeast i_fitMost m_fitPost m_fitEnd m_keptPosts i_x0], [zAr T 0 m_posts 7 f_posts], [zAr T 0 m_here 7 f_here], [zAr T 0 m_shut 7 f_shut]]) [3, 0, 1, 2] rfl
          exact z_back hQz_ (z_iret C hr hlocks G (Nat.le_of_ble_eq_true rfl) (Nat.le_of_ble_eq_true rfl) dX12_nowOf_120 rfl)
      · have h_11 : ((w_ - w_ / 10 * 10).toInt < 0 ∨ i_crossings.toInt ≤ (w_ - w_ / 10 * 10).toInt) := h_11
        refine lv_if_ne (tgt := 84) hx hb dX12_nowOf_78 (by decide) (fun q => absurd (by decide) q) (fun _ => ?_)
        refine lv_bipush (v := (-2)) hx hb dX12_nowOf_81 (by decide) ?_
        have G := G.sub (bs' := [[zO11 mo m_all m_has i_size i_next i_where i_token i_number i_word i_wrong i_farCrossing m_read i_z0 i_crossings i_inns m_posts m_shut m_here i_steps i_done i_at i_gone m_was m_came m_seenAt m_rowWorth m_farBy m_used i_everywhere i_again0 i_d0 i_never i_firstCame i_longRun i_moved i_crowd i_l0 i_fitMany i_fitLeast i_fitMost m_fitPost m_fitEnd m_keptPosts i_x0], [zAr T 0 m_posts 7 f_posts], [zAr T 0 m_here 7 f_here], [zAr T 0 m_shut 7 f_shut]]) [3, 0, 1, 2] rfl
        exact z_back hQz_ (z_iret C hr hlocks G (Nat.le_of_ble_eq_true rfl) (Nat.le_of_ble_eq_true rfl) dX12_nowOf_83 rfl)
    · have h_6 : (w_.toInt < (10 : Int) ∨ (39 : Int) < w_.toInt) := h_6
      refine lv_if_eq (tgt := 81) hx hb dX12_nowOf_70 (by decide) (fun _ => ?_) (fun q => absurd (by decide) q)
      refine lv_bipush (v := (-2)) hx hb dX12_nowOf_81 (by decide) ?_
      exact z_back hQz_ (z_iret C hr hlocks G (Nat.le_of_ble_eq_true rfl) (Nat.le_of_ble_eq_true rfl) dX12_nowOf_83 rfl)
  · have c_1r : w_.toInt = 0 ∨ w_.toInt = 1 ∨ w_.toInt = 2 ∨ w_.toInt = 3 := by omega
    rcases c_1r with c_1 | c_1 | c_1 | c_1
    · refine lv_tableIn (tgt := 32) hx hb dX12_nowOf_1 (by first | (rw [c_1]; decide) | omega) (by first | (rw [c_1]; decide) | omega) (by rw [c_1]; rfl) (by decide) ?_
      refine lv_aload_n hx hb dX12_nowOf_32 rfl (lv_at hl 0 rfl) ?_
      refine z_get C G clX12 0 rfl 17 (by decide) m_fl_RX12_196 rfl dX12_nowOf_33 ?_
      exact z_back hQz_ (z_iret C hr hlocks G (Nat.le_of_ble_eq_true rfl) (Nat.le_of_ble_eq_true rfl) dX12_nowOf_36 rfl)
    · refine lv_tableIn (tgt := 37) hx hb dX12_nowOf_1 (by first | (rw [c_1]; decide) | omega) (by first | (rw [c_1]; decide) | omega) (by rw [c_1]; rfl) (by decide) ?_
      refine lv_aload_n hx hb dX12_nowOf_37 rfl (lv_at hl 0 rfl) ?_
      refine lv_iload_n hx hb dX12_nowOf_38 rfl (lv_at hl 1 rfl) ?_
      refine lv_iconst (v := 1) hx hb dX12_nowOf_39 (by decide) ?_
      refine lv_icmp_ne (tgt := 47) hx hb dX12_nowOf_40 (by decide) (fun c_17 => ?_) (fun c_17 => ?_)
      · have c_17n : ¬ w_.toInt = (1 : Int) := fun q => c_17 ((fa_eq _ _).mpr q)
        refine lv_iconst (v := 0) hx hb dX12_nowOf_47 (by decide) ?_
        refine z_Vi (bc := [[zO11 mo m_all m_has i_size i_next i_where i_token i_number i_word i_wrong i_farCrossing m_read i_z0 i_crossings i_inns m_posts m_shut m_here i_steps i_done i_at i_gone m_was m_came m_seenAt m_rowWorth m_farBy m_used i_everywhere i_again0 i_d0 i_never i_firstCame i_longRun i_moved i_crowd i_l0 i_fitMany i_fitLeast i_fitMost m_fitPost m_fitEnd m_keptPosts i_x0], [zAr T 0 m_here 7 f_here]]) (br := [[zAr T 0 m_posts 7 f_posts], [zAr T 0 m_shut 7 f_shut]]) (As := [.int 0]) (rest := []) C G (c_m_walkersOf l T mo m_all m_has i_size i_next i_where i_token i_number i_word i_wrong i_farCrossing m_read i_z0 i_crossings i_inns m_posts m_shut m_here i_steps i_done i_at i_gone m_was m_came m_seenAt m_rowWorth m_farBy m_used i_everywhere i_again0 i_d0 i_never i_firstCame i_longRun i_moved i_crowd i_l0 i_fitMany i_fitLeast i_fitMost m_fitPost m_fitEnd m_keptPosts i_x0 f_here 0 (by first | with_reducible assumption | with_reducible rfl | omega | assumption | rfl | decide)) (kV_RX12_351 C.2.2.2.2 (Nat.le_of_ble_eq_true rfl) (Nat.le_of_ble_eq_true rfl)) [0, 2] [0, 1] rfl rfl (ci := 11) (qc := (RX12, TX12, 43)) rfl rfl (List.mem_flatten.mpr ⟨_, List.mem_of_getElem? (i := 0) rfl, List.mem_cons_self⟩) rfl rfl hl.1 dX12_nowOf_48 (Nat.le_of_ble_eq_true rfl) (Nat.le_of_ble_eq_true rfl) (fun r_18 b1 H locs hw G => ?_)
        obtain rfl := hw
        have G : zS T A s.heap s [[zAr T 0 m_posts 7 f_posts], [zAr T 0 m_shut 7 f_shut], [zO11 mo m_all m_has i_size i_next i_where i_token i_number i_word i_wrong i_farCrossing m_read i_z0 i_crossings i_inns m_posts m_shut m_here i_steps i_done i_at i_gone m_was m_came m_seenAt m_rowWorth m_farBy m_used i_everywhere i_again0 i_d0 i_never i_firstCame i_longRun i_moved i_crowd i_l0 i_fitMany i_fitLeast i_fitMost m_fitPost m_fitEnd m_keptPosts i_x0], [zAr T 0 m_here 7 f_here]] _ _ := G
        have G := G.sub (bs' := [[zO11 mo m_all m_has i_size i_next i_where i_token i_number i_word i_wrong i_farCrossing m_read i_z0 i_crossings i_inns m_posts m_shut m_here i_steps i_done i_at i_gone m_was m_came m_seenAt m_rowWorth m_farBy m_used i_everywhere i_again0 i_d0 i_never i_firstCame i_longRun i_moved i_crowd i_l0 i_fitMany i_fitLeast i_fitMost m_fitPost m_fitEnd m_keptPosts i_x0], [zAr T 0 m_posts 7 f_posts], [zAr T 0 m_here 7 f_here], [zAr T 0 m_shut 7 f_shut]]) [2, 0, 3, 1] rfl
        exact z_back hQz_ (z_iret C hr hlocks G (Nat.le_of_ble_eq_true rfl) (Nat.le_of_ble_eq_true rfl) dX12_nowOf_51 rfl)
      · have c_17n : w_.toInt = (1 : Int) := (fa_eq _ _).mp c_17
        refine lv_iconst (v := 1) hx hb dX12_nowOf_43 (by decide) ?_
        refine lv_goto (tgt := 48) hx hb dX12_nowOf_44 (by decide) ?_
        refine z_Vi (bc := [[zO11 mo m_all m_has i_size i_next i_where i_token i_number i_word i_wrong i_farCrossing m_read i_z0 i_crossings i_inns m_posts m_shut m_here i_steps i_done i_at i_gone m_was m_came m_seenAt m_rowWorth m_farBy m_used i_everywhere i_again0 i_d0 i_never i_firstCame i_longRun i_moved i_crowd i_l0 i_fitMany i_fitLeast i_fitMost m_fitPost m_fitEnd m_keptPosts i_x0], [zAr T 0 m_here 7 f_here]]) (br := [[zAr T 0 m_posts 7 f_posts], [zAr T 0 m_shut 7 f_shut]]) (As := [.int 1]) (rest := []) C G (c_m_walkersOf l T mo m_all m_has i_size i_next i_where i_token i_number i_word i_wrong i_farCrossing m_read i_z0 i_crossings i_inns m_posts m_shut m_here i_steps i_done i_at i_gone m_was m_came m_seenAt m_rowWorth m_farBy m_used i_everywhere i_again0 i_d0 i_never i_firstCame i_longRun i_moved i_crowd i_l0 i_fitMany i_fitLeast i_fitMost m_fitPost m_fitEnd m_keptPosts i_x0 f_here 1 (by first | with_reducible assumption | with_reducible rfl | omega | assumption | rfl | decide)) (kV_RX12_351 C.2.2.2.2 (Nat.le_of_ble_eq_true rfl) (Nat.le_of_ble_eq_true rfl)) [0, 2] [0, 1] rfl rfl (ci := 11) (qc := (RX12, TX12, 43)) rfl rfl (List.mem_flatten.mpr ⟨_, List.mem_of_getElem? (i := 0) rfl, List.mem_cons_self⟩) rfl rfl hl.1 dX12_nowOf_48 (Nat.le_of_ble_eq_true rfl) (Nat.le_of_ble_eq_true rfl) (fun r_19 b1 H locs hw G => ?_)
        obtain rfl := hw
        have G : zS T A s.heap s [[zAr T 0 m_posts 7 f_posts], [zAr T 0 m_shut 7 f_shut], [zO11 mo m_all m_has i_size i_next i_where i_token i_number i_word i_wrong i_farCrossing m_read i_z0 i_crossings i_inns m_posts m_shut m_here i_steps i_done i_at i_gone m_was m_came m_seenAt m_rowWorth m_farBy m_used i_everywhere i_again0 i_d0 i_never i_firstCame i_longRun i_moved i_crowd i_l0 i_fitMany i_fitLeast i_fitMost m_fitPost m_fitEnd m_keptPosts i_x0], [zAr T 0 m_here 7 f_here]] _ _ := G
        have G := G.sub (bs' := [[zO11 mo m_all m_has i_size i_next i_where i_token i_number i_word i_wrong i_farCrossing m_read i_z0 i_crossings i_inns m_posts m_shut m_here i_steps i_done i_at i_gone m_was m_came m_seenAt m_rowWorth m_farBy m_used i_everywhere i_again0 i_d0 i_never i_firstCame i_longRun i_moved i_crowd i_l0 i_fitMany i_fitLeast i_fitMost m_fitPost m_fitEnd m_keptPosts i_x0], [zAr T 0 m_posts 7 f_posts], [zAr T 0 m_here 7 f_here], [zAr T 0 m_shut 7 f_shut]]) [2, 0, 3, 1] rfl
        exact z_back hQz_ (z_iret C hr hlocks G (Nat.le_of_ble_eq_true rfl) (Nat.le_of_ble_eq_true rfl) dX12_nowOf_51 rfl)
    · refine lv_tableIn (tgt := 37) hx hb dX12_nowOf_1 (by first | (rw [c_1]; decide) | omega) (by first | (rw [c_1]; decide) | omega) (by rw [c_1]; rfl) (by decide) ?_
      refine lv_aload_n hx hb dX12_nowOf_37 rfl (lv_at hl 0 rfl) ?_
      refine lv_iload_n hx hb dX12_nowOf_38 rfl (lv_at hl 1 rfl) ?_
      refine lv_iconst (v := 1) hx hb dX12_nowOf_39 (by decide) ?_
      refine lv_icmp_ne (tgt := 47) hx hb dX12_nowOf_40 (by decide) (fun c_20 => ?_) (fun c_20 => ?_)
      · have c_20n : ¬ w_.toInt = (1 : Int) := fun q => c_20 ((fa_eq _ _).mpr q)
        refine lv_iconst (v := 0) hx hb dX12_nowOf_47 (by decide) ?_
        refine z_Vi (bc := [[zO11 mo m_all m_has i_size i_next i_where i_token i_number i_word i_wrong i_farCrossing m_read i_z0 i_crossings i_inns m_posts m_shut m_here i_steps i_done i_at i_gone m_was m_came m_seenAt m_rowWorth m_farBy m_used i_everywhere i_again0 i_d0 i_never i_firstCame i_longRun i_moved i_crowd i_l0 i_fitMany i_fitLeast i_fitMost m_fitPost m_fitEnd m_keptPosts i_x0], [zAr T 0 m_here 7 f_here]]) (br := [[zAr T 0 m_posts 7 f_posts], [zAr T 0 m_shut 7 f_shut]]) (As := [.int 0]) (rest := []) C G (c_m_walkersOf l T mo m_all m_has i_size i_next i_where i_token i_number i_word i_wrong i_farCrossing m_read i_z0 i_crossings i_inns m_posts m_shut m_here i_steps i_done i_at i_gone m_was m_came m_seenAt m_rowWorth m_farBy m_used i_everywhere i_again0 i_d0 i_never i_firstCame i_longRun i_moved i_crowd i_l0 i_fitMany i_fitLeast i_fitMost m_fitPost m_fitEnd m_keptPosts i_x0 f_here 0 (by first | with_reducible assumption | with_reducible rfl | omega | assumption | rfl | decide)) (kV_RX12_351 C.2.2.2.2 (Nat.le_of_ble_eq_true rfl) (Nat.le_of_ble_eq_true rfl)) [0, 2] [0, 1] rfl rfl (ci := 11) (qc := (RX12, TX12, 43)) rfl rfl (List.mem_flatten.mpr ⟨_, List.mem_of_getElem? (i := 0) rfl, List.mem_cons_self⟩) rfl rfl hl.1 dX12_nowOf_48 (Nat.le_of_ble_eq_true rfl) (Nat.le_of_ble_eq_true rfl) (fun r_21 b1 H locs hw G => ?_)
        obtain rfl := hw
        have G : zS T A s.heap s [[zAr T 0 m_posts 7 f_posts], [zAr T 0 m_shut 7 f_shut], [zO11 mo m_all m_has i_size i_next i_where i_token i_number i_word i_wrong i_farCrossing m_read i_z0 i_crossings i_inns m_posts m_shut m_here i_steps i_done i_at i_gone m_was m_came m_seenAt m_rowWorth m_farBy m_used i_everywhere i_again0 i_d0 i_never i_firstCame i_longRun i_moved i_crowd i_l0 i_fitMany i_fitLeast i_fitMost m_fitPost m_fitEnd m_keptPosts i_x0], [zAr T 0 m_here 7 f_here]] _ _ := G
        have G := G.sub (bs' := [[zO11 mo m_all m_has i_size i_next i_where i_token i_number i_word i_wrong i_farCrossing m_read i_z0 i_crossings i_inns m_posts m_shut m_here i_steps i_done i_at i_gone m_was m_came m_seenAt m_rowWorth m_farBy m_used i_everywhere i_again0 i_d0 i_never i_firstCame i_longRun i_moved i_crowd i_l0 i_fitMany i_fitLeast i_fitMost m_fitPost m_fitEnd m_keptPosts i_x0], [zAr T 0 m_posts 7 f_posts], [zAr T 0 m_here 7 f_here], [zAr T 0 m_shut 7 f_shut]]) [2, 0, 3, 1] rfl
        exact z_back hQz_ (z_iret C hr hlocks G (Nat.le_of_ble_eq_true rfl) (Nat.le_of_ble_eq_true rfl) dX12_nowOf_51 rfl)
      · have c_20n : w_.toInt = (1 : Int) := (fa_eq _ _).mp c_20
        refine lv_iconst (v := 1) hx hb dX12_nowOf_43 (by decide) ?_
        refine lv_goto (tgt := 48) hx hb dX12_nowOf_44 (by decide) ?_
        refine z_Vi (bc := [[zO11 mo m_all m_has i_size i_next i_where i_token i_number i_word i_wrong i_farCrossing m_read i_z0 i_crossings i_inns m_posts m_shut m_here i_steps i_done i_at i_gone m_was m_came m_seenAt m_rowWorth m_farBy m_used i_everywhere i_again0 i_d0 i_never i_firstCame i_longRun i_moved i_crowd i_l0 i_fitMany i_fitLeast i_fitMost m_fitPost m_fitEnd m_keptPosts i_x0], [zAr T 0 m_here 7 f_here]]) (br := [[zAr T 0 m_posts 7 f_posts], [zAr T 0 m_shut 7 f_shut]]) (As := [.int 1]) (rest := []) C G (c_m_walkersOf l T mo m_all m_has i_size i_next i_where i_token i_number i_word i_wrong i_farCrossing m_read i_z0 i_crossings i_inns m_posts m_shut m_here i_steps i_done i_at i_gone m_was m_came m_seenAt m_rowWorth m_farBy m_used i_everywhere i_again0 i_d0 i_never i_firstCame i_longRun i_moved i_crowd i_l0 i_fitMany i_fitLeast i_fitMost m_fitPost m_fitEnd m_keptPosts i_x0 f_here 1 (by first | with_reducible assumption | with_reducible rfl | omega | assumption | rfl | decide)) (kV_RX12_351 C.2.2.2.2 (Nat.le_of_ble_eq_true rfl) (Nat.le_of_ble_eq_true rfl)) [0, 2] [0, 1] rfl rfl (ci := 11) (qc := (RX12, TX12, 43)) rfl rfl (List.mem_flatten.mpr ⟨_, List.mem_of_getElem? (i := 0) rfl, List.mem_cons_self⟩) rfl rfl hl.1 dX12_nowOf_48 (Nat.le_of_ble_eq_true rfl) (Nat.le_of_ble_eq_true rfl) (fun r_22 b1 H locs hw G => ?_)
        obtain rfl := hw
        have G : zS T A s.heap s [[zAr T 0 m_posts 7 f_posts], [zAr T 0 m_shut 7 f_shut], [zO11 mo m_all m_has i_size i_next i_where i_token i_number i_word i_wrong i_farCrossing m_read i_z0 i_crossings i_inns m_posts m_shut m_here i_steps i_done i_at i_gone m_was m_came m_seenAt m_rowWorth m_farBy m_used i_everywhere i_again0 i_d0 i_never i_firstCame i_longRun i_moved i_crowd i_l0 i_fitMany i_fitLeast i_fitMost m_fitPost m_fitEnd m_keptPosts i_x0], [zAr T 0 m_here 7 f_here]] _ _ := G
        have G := G.sub (bs' := [[zO11 mo m_all m_has i_size i_next i_where i_token i_number i_word i_wrong i_farCrossing m_read i_z0 i_crossings i_inns m_posts m_shut m_here i_steps i_done i_at i_gone m_was m_came m_seenAt m_rowWorth m_farBy m_used i_everywhere i_again0 i_d0 i_never i_firstCame i_longRun i_moved i_crowd i_l0 i_fitMany i_fitLeast i_fitMost m_fitPost m_fitEnd m_keptPosts i_x0], [zAr T 0 m_posts 7 f_posts], [zAr T 0 m_here 7 f_here], [zAr T 0 m_shut 7 f_shut]]) [2, 0, 3, 1] rfl
        exact z_back hQz_ (z_iret C hr hlocks G (Nat.le_of_ble_eq_true rfl) (Nat.le_of_ble_eq_true rfl) dX12_nowOf_51 rfl)
    · refine lv_tableIn (tgt := 52) hx hb dX12_nowOf_1 (by first | (rw [c_1]; decide) | omega) (by first | (rw [c_1]; decide) | omega) (by rw [c_1]; rfl) (by decide) ?_
      refine lv_aload_n hx hb dX12_nowOf_52 rfl (lv_at hl 0 rfl) ?_
      refine z_get C G clX12 0 rfl 30 (by decide) m_fl_RX12_320 rfl dX12_nowOf_53 ?_
      exact z_back hQz_ (z_iret C hr hlocks G (Nat.le_of_ble_eq_true rfl) (Nat.le_of_ble_eq_true rfl) dX12_nowOf_56 rfl)
set_option maxHeartbeats 4000000 in
set_option maxRecDepth 100000 in
/-- c_m_elsewhere -/
theorem c_m_elsewhere (l : Launch) (T : zTy) (mo : Nat) (m_all : Nat) (m_has : Nat) (i_size : Int32) (i_next : Int32) (i_where : Int32) (i_token : Int32) (i_number : Int32) (i_word : Int32) (i_wrong : Int32) (i_farCrossing : Int32) (m_read : Nat) (i_z0 : Int32) (i_crossings : Int32) (i_inns : Int32) (m_posts : Nat) (m_shut : Nat) (m_here : Nat) (i_steps : Int32) (i_done : Int32) (i_at : Int32) (i_gone : Int32) (m_was : Nat) (m_came : Nat) (m_seenAt : Nat) (m_rowWorth : Nat) (m_farBy : Nat) (m_used : Nat) (i_everywhere : Int32) (i_again0 : Int32) (i_d0 : Int32) (i_never : Int32) (i_firstCame : Int32) (i_longRun : Int32) (i_moved : Int32) (i_crowd : Int32) (i_l0 : Int32) (i_fitMany : Int32) (i_fitLeast : Int32) (i_fitMost : Int32) (m_fitPost : Nat) (m_fitEnd : Nat) (m_keptPosts : Nat) (i_x0 : Int32) (f_all : Nat → Int32) (f_posts : Nat → Int32) (hL : zML f_all i_z0 i_crossings) (hP : zMP f_posts) : zMi l T yX12_elsewhere cX12_elsewhere 3 (some .int) 2 0 0 [.ref mo] [[zO11 mo m_all m_has i_size i_next i_where i_token i_number i_word i_wrong i_farCrossing m_read i_z0 i_crossings i_inns m_posts m_shut m_here i_steps i_done i_at i_gone m_was m_came m_seenAt m_rowWorth m_farBy m_used i_everywhere i_again0 i_d0 i_never i_firstCame i_longRun i_moved i_crowd i_l0 i_fitMany i_fitLeast i_fitMost m_fitPost m_fitEnd m_keptPosts i_x0], [zAr T 0 m_all 3952 f_all], [zAr T 0 m_posts 7 f_posts]] (fun (r : Int32) bs => bs = [[zO11 mo m_all m_has i_size i_next i_where i_token i_number i_word i_wrong i_farCrossing m_read i_z0 i_crossings i_inns m_posts m_shut m_here i_steps i_done i_at i_gone m_was m_came m_seenAt m_rowWorth m_farBy m_used i_everywhere i_again0 i_d0 i_never i_firstCame i_longRun i_moved i_crowd i_l0 i_fitMany i_fitLeast i_fitMost m_fitPost m_fitEnd m_keptPosts i_x0], [zAr T 0 m_all 3952 f_all], [zAr T 0 m_posts 7 f_posts]]) := by
  refine zMi_of (own := RX12) (by decide) rfl (Nat.le_of_ble_eq_true rfl) ?_
  intro p e s m args below meth c A ls C hr hlocks hnm hAe G hl
  refine zHide (fun Qz_ hQz_ => ?_)
  have hx := C.1
  have hb := C.2.1
  have hl : lv_has ls 3 [(0, .ref mo)] := hl
  have hz := hL.1
  have hcr := hL.cr
  refine lv_iconst (v := 0) hx hb dX12_elsewhere_0 (by decide) ?_
  refine lv_istore_n (lv' := [(1, .int 0), (0, .ref mo)]) hx hb dX12_elsewhere_1 rfl hl (by decide) (zLvf_h rfl) (fun ls hl => ?_)
  refine lv_iconst (v := 0) hx hb dX12_elsewhere_2 (by decide) ?_
  refine lv_istore_n (lv' := [(2, .int 0), (1, .int 0), (0, .ref mo)]) hx hb dX12_elsewhere_3 rfl hl (by decide) (zLvf_h rfl) (fun ls hl => ?_)
  refine z_lp2 (T := T) 4 (fun (i : Nat) (u : Int32) => [[zO11 mo m_all m_has i_size i_next i_where i_token i_number i_word i_wrong i_farCrossing m_read i_z0 i_crossings i_inns m_posts m_shut m_here i_steps i_done i_at i_gone m_was m_came m_seenAt m_rowWorth m_farBy m_used i_everywhere i_again0 i_d0 i_never i_firstCame i_longRun i_moved i_crowd i_l0 i_fitMany i_fitLeast i_fitMost m_fitPost m_fitEnd m_keptPosts i_x0], [zAr T 0 m_all 3952 f_all], [zAr T 0 m_posts 7 f_posts]]) (fun (i : Nat) (u : Int32) => [(2, .int (nI i)), (1, .int u), (0, .ref mo)]) (fun (i : Nat) (u : Int32) => i ≤ 7) (fun (i : Nat) (u : Int32) => 7 - i) ?_ 0 0 (show 0 ≤ 7 from by omega) G (lv_sub hl [0, 1, 2] rfl)
  intro i u hi ih_4 H locs ls G hl
  replace hi : i ≤ 7 := hi
  replace G : zS T A s.heap s [[zO11 mo m_all m_has i_size i_next i_where i_token i_number i_word i_wrong i_farCrossing m_read i_z0 i_crossings i_inns m_posts m_shut m_here i_steps i_done i_at i_gone m_was m_came m_seenAt m_rowWorth m_farBy m_used i_everywhere i_again0 i_d0 i_never i_firstCame i_longRun i_moved i_crowd i_l0 i_fitMany i_fitLeast i_fitMost m_fitPost m_fitEnd m_keptPosts i_x0], [zAr T 0 m_all 3952 f_all], [zAr T 0 m_posts 7 f_posts]] _ _ := G
  replace hl : lv_has ls 3 [(2, .int (nI i)), (1, .int u), (0, .ref mo)] := hl
  refine lv_iload_n hx hb dX12_elsewhere_4 rfl (lv_at hl 0 rfl) ?_
  refine lv_aload_n hx hb dX12_elsewhere_5 rfl (lv_at hl 2 rfl) ?_
  refine z_get C G clX12 0 rfl 12 (by decide) m_fl_RX12_169 rfl dX12_elsewhere_6 ?_
  refine lv_icmp_ge (tgt := 42) hx hb dX12_elsewhere_9 (by decide) (fun c_1 => ?_) (fun c_1 => ?_)
  · have c_1n : i_crossings.toInt ≤ (i : Int) := by have q := (fa_le _ _).mp c_1; rw [nI_toInt (n := i) (by omega)] at q; exact q
    refine lv_iload_n hx hb dX12_elsewhere_42 rfl (lv_at hl 1 rfl) ?_
    exact z_back hQz_ (z_iret C hr hlocks G (Nat.le_of_ble_eq_true rfl) (Nat.le_of_ble_eq_true rfl) dX12_elsewhere_43 rfl)
  · have c_1n : ¬ i_crossings.toInt ≤ (i : Int) := fun q => c_1 ((fa_le _ _).mpr (by rw [nI_toInt (n := i) (by omega)]; exact q))
    refine lv_iload_n hx hb dX12_elsewhere_12 rfl (lv_at hl 1 rfl) ?_
    refine lv_aload_n hx hb dX12_elsewhere_13 rfl (lv_at hl 2 rfl) ?_
    refine z_get C G clX12 0 rfl 14 (by decide) m_fl_RX12_20 rfl dX12_elsewhere_14 ?_
    refine lv_iload_n hx hb dX12_elsewhere_17 rfl (lv_at hl 0 rfl) ?_
    refine z_ild C G 2 rfl (vp_in_nI (by omega) (by decide)) dX12_elsewhere_18 ?_
    refine lv_topi (fun v_2 ev_2 => ?_)
    rw [nI_clamp (by omega)] at ev_2
    subst ev_2
    refine lv_aload_n hx hb dX12_elsewhere_19 rfl (lv_at hl 2 rfl) ?_
    refine lv_iload_n hx hb dX12_elsewhere_20 rfl (lv_at hl 0 rfl) ?_
    have ti_3 : (nI i).toInt = ((i : Nat) : Int) := nI_toInt (by omega)
    refine z_Vi (bc := [[zO11 mo m_all m_has i_size i_next i_where i_token i_number i_word i_wrong i_farCrossing m_read i_z0 i_crossings i_inns m_posts m_shut m_here i_steps i_done i_at i_gone m_was m_came m_seenAt m_rowWorth m_farBy m_used i_everywhere i_again0 i_d0 i_never i_firstCame i_longRun i_moved i_crowd i_l0 i_fitMany i_fitLeast i_fitMost m_fitPost m_fitEnd m_keptPosts i_x0], [zAr T 0 m_all 3952 f_all]]) (br := [[zAr T 0 m_posts 7 f_posts]]) (As := [.int (nI i)]) (rest := [.int (f_posts i), .int u]) C G (c_m_postTold l T mo m_all m_has i_size i_next i_where i_token i_number i_word i_wrong i_farCrossing m_read i_z0 i_crossings i_inns m_posts m_shut m_here i_steps i_done i_at i_gone m_was m_came m_seenAt m_rowWorth m_farBy m_used i_everywhere i_again0 i_d0 i_never i_firstCame i_longRun i_moved i_crowd i_l0 i_fitMany i_fitLeast i_fitMost m_fitPost m_fitEnd m_keptPosts i_x0 f_all (nI i) (by first | with_reducible assumption | with_reducible rfl | omega | assumption | rfl | decide) (by first | with_reducible assumption | with_reducible rfl | omega | assumption | rfl | decide) (by first | with_reducible assumption | with_reducible rfl | omega | assumption | rfl | decide)) (kV_RX12_193 C.2.2.2.2 (Nat.le_of_ble_eq_true rfl) (Nat.le_of_ble_eq_true rfl)) [0, 1] [0, 0] rfl rfl (ci := 11) (qc := (RX12, TX12, 43)) rfl rfl (List.mem_flatten.mpr ⟨_, List.mem_of_getElem? (i := 0) rfl, List.mem_cons_self⟩) rfl rfl hl.1 dX12_elsewhere_21 (Nat.le_of_ble_eq_true rfl) (Nat.le_of_ble_eq_true rfl) (fun r_7 b1 H locs hw G => ?_)
    refine zAn4 hw ?_
    intro hbs9 h_4 h_5 h_6
    clear hw
    subst hbs9
    have G : zS T A s.heap s [[zAr T 0 m_posts 7 f_posts], [zO11 mo m_all m_has i_size i_next i_where i_token i_number i_word i_wrong i_farCrossing m_read i_z0 i_crossings i_inns m_posts m_shut m_here i_steps i_done i_at i_gone m_was m_came m_seenAt m_rowWorth m_farBy m_used i_everywhere i_again0 i_d0 i_never i_firstCame i_longRun i_moved i_crowd i_l0 i_fitMany i_fitLeast i_fitMost m_fitPost m_fitEnd m_keptPosts i_x0], [zAr T 0 m_all 3952 f_all]] _ _ := G
    subst h_4
    refine lv_icmp_ne (tgt := 31) hx hb dX12_elsewhere_24 (by decide) (fun c_8 => ?_) (fun c_8 => ?_)
    · have c_8n : ¬ (f_posts i).toInt = (zPt f_all i_z0 (nI i)).toInt := fun q => c_8 ((fa_eq _ _).mpr q)
      refine lv_iconst (v := 1) hx hb dX12_elsewhere_31 (by decide) ?_
      refine lv_iload_n hx hb dX12_elsewhere_32 rfl (lv_at hl 0 rfl) ?_
      refine lv_ishl hx hb dX12_elsewhere_33 ?_
      refine lv_ior hx hb dX12_elsewhere_34 ?_
      refine lv_istore_n (lv' := [(1, .int (u ||| (1 <<< ((nI i) &&& 31)))), (2, .int (nI i)), (0, .ref mo)]) hx hb dX12_elsewhere_35 rfl hl (by decide) (zLvf_h rfl) (fun ls hl => ?_)
      refine lv_iinc (v := nI (i + 1)) (lv' := [(2, .int (nI (i + 1))), (1, .int (u ||| (1 <<< ((nI i) &&& 31)))), (0, .ref mo)]) hx hb dX12_elsewhere_36 hl (k := 1) rfl (z_inc i 1) (by decide) (zLvf_h rfl) (fun ls hl => ?_)
      refine lv_goto (tgt := 4) hx hb dX12_elsewhere_39 (by decide) ?_
      have G := G.sub (bs' := [[zO11 mo m_all m_has i_size i_next i_where i_token i_number i_word i_wrong i_farCrossing m_read i_z0 i_crossings i_inns m_posts m_shut m_here i_steps i_done i_at i_gone m_was m_came m_seenAt m_rowWorth m_farBy m_used i_everywhere i_again0 i_d0 i_never i_firstCame i_longRun i_moved i_crowd i_l0 i_fitMany i_fitLeast i_fitMost m_fitPost m_fitEnd m_keptPosts i_x0], [zAr T 0 m_all 3952 f_all], [zAr T 0 m_posts 7 f_posts]]) [1, 2, 0] rfl
      exact ih_4 (i + 1) (u ||| (1 <<< ((nI i) &&& 31))) (show (i + 1) ≤ 7 from by omega) (show 7 - (i + 1) < 7 - i from by omega) _ _ ls G (lv_sub hl [0, 1, 2] rfl)
    · have c_8n : (f_posts i).toInt = (zPt f_all i_z0 (nI i)).toInt := (fa_eq _ _).mp c_8
      refine lv_iconst (v := 0) hx hb dX12_elsewhere_27 (by decide) ?_
      refine lv_goto (tgt := 34) hx hb dX12_elsewhere_28 (by decide) ?_
      refine lv_ior hx hb dX12_elsewhere_34 ?_
      refine lv_istore_n (lv' := [(1, .int (u ||| 0)), (2, .int (nI i)), (0, .ref mo)]) hx hb dX12_elsewhere_35 rfl hl (by decide) (zLvf_h rfl) (fun ls hl => ?_)
      refine lv_iinc (v := nI (i + 1)) (lv' := [(2, .int (nI (i + 1))), (1, .int (u ||| 0)), (0, .ref mo)]) hx hb dX12_elsewhere_36 hl (k := 1) rfl (z_inc i 1) (by decide) (zLvf_h rfl) (fun ls hl => ?_)
      refine lv_goto (tgt := 4) hx hb dX12_elsewhere_39 (by decide) ?_
      have G := G.sub (bs' := [[zO11 mo m_all m_has i_size i_next i_where i_token i_number i_word i_wrong i_farCrossing m_read i_z0 i_crossings i_inns m_posts m_shut m_here i_steps i_done i_at i_gone m_was m_came m_seenAt m_rowWorth m_farBy m_used i_everywhere i_again0 i_d0 i_never i_firstCame i_longRun i_moved i_crowd i_l0 i_fitMany i_fitLeast i_fitMost m_fitPost m_fitEnd m_keptPosts i_x0], [zAr T 0 m_all 3952 f_all], [zAr T 0 m_posts 7 f_posts]]) [1, 2, 0] rfl
      exact ih_4 (i + 1) (u ||| 0) (show (i + 1) ≤ 7 from by omega) (show 7 - (i + 1) < 7 - i from by omega) _ _ ls G (lv_sub hl [0, 1, 2] rfl)
set_option maxHeartbeats 4000000 in
set_option maxRecDepth 100000 in
/-- c_m_stop -/
theorem c_m_stop (l : Launch) (T : zTy) (mo : Nat) (m_all : Nat) (m_has : Nat) (i_size : Int32) (i_next : Int32) (i_where : Int32) (i_token : Int32) (i_number : Int32) (i_word : Int32) (i_wrong : Int32) (i_farCrossing : Int32) (m_read : Nat) (i_z0 : Int32) (i_crossings : Int32) (i_inns : Int32) (m_posts : Nat) (m_shut : Nat) (m_here : Nat) (i_steps : Int32) (i_done : Int32) (i_at : Int32) (i_gone : Int32) (m_was : Nat) (m_came : Nat) (m_seenAt : Nat) (m_rowWorth : Nat) (m_farBy : Nat) (m_used : Nat) (i_everywhere : Int32) (i_again0 : Int32) (i_d0 : Int32) (i_never : Int32) (i_firstCame : Int32) (i_longRun : Int32) (i_moved : Int32) (i_crowd : Int32) (i_l0 : Int32) (i_fitMany : Int32) (i_fitLeast : Int32) (i_fitMost : Int32) (m_fitPost : Nat) (m_fitEnd : Nat) (m_keptPosts : Nat) (i_x0 : Int32) (f_all : Nat → Int32) (f_posts : Nat → Int32) (f_shut : Nat → Int32) (f_here : Nat → Int32) (f_was : Nat → Int32) (l_ : Int32) (k_ : Int32) (hB : zBI f_all) : zMi l T yX12_stop cX12_stop 3 (some .int) 8 0 0 [.ref mo, .int l_, .int k_] [[zO11 mo m_all m_has i_size i_next i_where i_token i_number i_word i_wrong i_farCrossing m_read i_z0 i_crossings i_inns m_posts m_shut m_here i_steps i_done i_at i_gone m_was m_came m_seenAt m_rowWorth m_farBy m_used i_everywhere i_again0 i_d0 i_never i_firstCame i_longRun i_moved i_crowd i_l0 i_fitMany i_fitLeast i_fitMost m_fitPost m_fitEnd m_keptPosts i_x0], [zAr T 0 m_all 3952 f_all], [zAr T 0 m_posts 7 f_posts], [zAr T 0 m_shut 7 f_shut], [zAr T 0 m_here 7 f_here], [zAr T 0 m_was 7 f_was]] (fun (r : Int32) bs => ∃ (j_z0 : Int32) (j_crossings : Int32) (j_inns : Int32) (j_steps : Int32) (j_done : Int32) (j_at : Int32) (j_gone : Int32) (j_d0 : Int32) (j_never : Int32) (j_firstCame : Int32) (j_longRun : Int32) (j_moved : Int32) (j_crowd : Int32) (g_posts : Nat → Int32) (g_shut : Nat → Int32) (g_here : Nat → Int32) (g_was : Nat → Int32), bs = [[zO11 mo m_all m_has i_size i_next i_where i_token i_number i_word i_wrong i_farCrossing m_read j_z0 j_crossings j_inns m_posts m_shut m_here j_steps j_done j_at j_gone m_was m_came m_seenAt m_rowWorth m_farBy m_used i_everywhere i_again0 j_d0 j_never j_firstCame j_longRun j_moved j_crowd i_l0 i_fitMany i_fitLeast i_fitMost m_fitPost m_fitEnd m_keptPosts i_x0], [zAr T 0 m_all 3952 f_all], [zAr T 0 m_posts 7 g_posts], [zAr T 0 m_shut 7 g_shut], [zAr T 0 m_here 7 g_here], [zAr T 0 m_was 7 g_was]]) := by
  refine zMi_of (own := RX12) (by decide) rfl (Nat.le_of_ble_eq_true rfl) ?_
  intro p e s m args below meth c A ls C hr hlocks hnm hAe G hl
  refine zHide (fun Qz_ hQz_ => ?_)
  have hx := C.1
  have hb := C.2.1
  have hl : lv_has ls 3 [(0, .ref mo), (1, .int l_), (2, .int k_)] := hl
  refine lv_aload_n hx hb dX12_stop_0 rfl (lv_at hl 0 rfl) ?_
  refine lv_iload_n hx hb dX12_stop_1 rfl (lv_at hl 1 rfl) ?_
  refine z_Vi (bc := [[zO11 mo m_all m_has i_size i_next i_where i_token i_number i_word i_wrong i_farCrossing m_read i_z0 i_crossings i_inns m_posts m_shut m_here i_steps i_done i_at i_gone m_was m_came m_seenAt m_rowWorth m_farBy m_used i_everywhere i_again0 i_d0 i_never i_firstCame i_longRun i_moved i_crowd i_l0 i_fitMany i_fitLeast i_fitMost m_fitPost m_fitEnd m_keptPosts i_x0], [zAr T 0 m_all 3952 f_all], [zAr T 0 m_posts 7 f_posts], [zAr T 0 m_shut 7 f_shut], [zAr T 0 m_here 7 f_here]]) (br := [[zAr T 0 m_was 7 f_was]]) (As := [.int l_]) (rest := []) C G (c_m_isLand l T mo m_all m_has i_size i_next i_where i_token i_number i_word i_wrong i_farCrossing m_read i_z0 i_crossings i_inns m_posts m_shut m_here i_steps i_done i_at i_gone m_was m_came m_seenAt m_rowWorth m_farBy m_used i_everywhere i_again0 i_d0 i_never i_firstCame i_longRun i_moved i_crowd i_l0 i_fitMany i_fitLeast i_fitMost m_fitPost m_fitEnd m_keptPosts i_x0 f_all f_posts f_shut f_here l_ (by first | with_reducible assumption | with_reducible rfl | omega | assumption | rfl | decide)) (kV_RX12_184 C.2.2.2.2 (Nat.le_of_ble_eq_true rfl) (Nat.le_of_ble_eq_true rfl)) [0, 1, 2, 3, 4] [0, 0, 0, 0, 0] rfl rfl (ci := 11) (qc := (RX12, TX12, 43)) rfl rfl (List.mem_flatten.mpr ⟨_, List.mem_of_getElem? (i := 0) rfl, List.mem_cons_self⟩) rfl rfl hl.1 dX12_stop_2 (Nat.le_of_ble_eq_true rfl) (Nat.le_of_ble_eq_true rfl) (fun r_10 b1 H locs hw G => ?_)
  refine zEx8 hw ?_
  intro j_z0_1 j_crossings_2 j_inns_3 j_steps_4 j_done_5 g_posts_6 g_shut_7 g_here_8
  refine zCu2 ?_
  intro hbs9 hc_9
  clear hw
  subst hbs9
  have G : zS T A s.heap s [[zAr T 0 m_was 7 f_was], [zO11 mo m_all m_has i_size i_next i_where i_token i_number i_word i_wrong i_farCrossing m_read j_z0_1 j_crossings_2 j_inns_3 m_posts m_shut m_here j_steps_4 j_done_5 i_at i_gone m_was m_came m_seenAt m_rowWorth m_farBy m_used i_everywhere i_again0 i_d0 i_never i_firstCame i_longRun i_moved i_crowd i_l0 i_fitMany i_fitLeast i_fitMost m_fitPost m_fitEnd m_keptPosts i_x0], [zAr T 0 m_all 3952 f_all], [zAr T 0 m_posts 7 g_posts_6], [zAr T 0 m_shut 7 g_shut_7], [zAr T 0 m_here 7 g_here_8]] _ _ := G
  rcases hc_9 with ⟨rfl, h_11, h_12, h_13, h_14, h_15, h_16, h_17, h_18, h_19, h_20, h_21, h_22⟩ | ⟨rfl, h_23⟩
  · have h_11 : 0 ≤ l_.toInt := h_11
    have h_12 : l_.toInt ≤ 1 := h_12
    have h_13 : l_.toInt < (f_all 0).toInt := h_13
    have h_14 : j_z0_1.toInt = 610 + 51 * l_.toInt := h_14
    have h_15 : zML f_all j_z0_1 j_crossings_2 := h_15
    have h_16 : zMP g_posts_6 := h_16
    have h_17 : j_inns_3 = f_all (j_z0_1.toInt.toNat + 1) := h_17
    have h_18 : j_steps_4 = 0 := h_18
    have h_19 : j_done_5 = 0 := h_19
    have h_20 : (∀ j, j < 7 → g_posts_6 j = zPt f_all j_z0_1 (nI j)) := h_20
    have h_21 : (∀ j, j < 7 → g_shut_7 j = 0) := h_21
    have h_22 : (∀ j, j < 7 → g_here_8 j = zWk f_all j_z0_1 j) := h_22
    have hLx := h_15
    have hcr := hLx.cr
    have hzx := hLx.1
    have hPx := h_16
    have hdn : (j_done_5).toInt = 0 := by rw [h_19]; rfl
    refine lv_if_eq (tgt := 16) hx hb dX12_stop_5 (by decide) (fun q => absurd q (by decide)) (fun _ => ?_)
    refine lv_aload_n hx hb dX12_stop_8 rfl (lv_at hl 0 rfl) ?_
    refine lv_iload_n hx hb dX12_stop_9 rfl (lv_at hl 2 rfl) ?_
    refine z_Vi (bc := [[zO11 mo m_all m_has i_size i_next i_where i_token i_number i_word i_wrong i_farCrossing m_read j_z0_1 j_crossings_2 j_inns_3 m_posts m_shut m_here j_steps_4 j_done_5 i_at i_gone m_was m_came m_seenAt m_rowWorth m_farBy m_used i_everywhere i_again0 i_d0 i_never i_firstCame i_longRun i_moved i_crowd i_l0 i_fitMany i_fitLeast i_fitMost m_fitPost m_fitEnd m_keptPosts i_x0], [zAr T 0 m_all 3952 f_all]]) (br := [[zAr T 0 m_was 7 f_was], [zAr T 0 m_posts 7 g_posts_6], [zAr T 0 m_shut 7 g_shut_7], [zAr T 0 m_here 7 g_here_8]]) (As := [.int k_]) (rest := []) C G (c_m_isDay l T mo m_all m_has i_size i_next i_where i_token i_number i_word i_wrong i_farCrossing m_read j_z0_1 j_crossings_2 j_inns_3 m_posts m_shut m_here j_steps_4 j_done_5 i_at i_gone m_was m_came m_seenAt m_rowWorth m_farBy m_used i_everywhere i_again0 i_d0 i_never i_firstCame i_longRun i_moved i_crowd i_l0 i_fitMany i_fitLeast i_fitMost m_fitPost m_fitEnd m_keptPosts i_x0 f_all k_ (by first | with_reducible assumption | with_reducible rfl | omega | assumption | rfl | decide)) (kV_RX12_305 C.2.2.2.2 (Nat.le_of_ble_eq_true rfl) (Nat.le_of_ble_eq_true rfl)) [1, 2] [1, 0] rfl rfl (ci := 11) (qc := (RX12, TX12, 43)) rfl rfl (List.mem_flatten.mpr ⟨_, List.mem_of_getElem? (i := 0) rfl, List.mem_cons_self⟩) rfl rfl hl.1 dX12_stop_10 (Nat.le_of_ble_eq_true rfl) (Nat.le_of_ble_eq_true rfl) (fun r_26 b1 H locs hw G => ?_)
    refine zEx1 hw ?_
    intro j_d0_24
    refine zCu2 ?_
    intro hbs9 hc_25
    clear hw
    subst hbs9
    have G : zS T A s.heap s [[zAr T 0 m_was 7 f_was], [zAr T 0 m_posts 7 g_posts_6], [zAr T 0 m_shut 7 g_shut_7], [zAr T 0 m_here 7 g_here_8], [zO11 mo m_all m_has i_size i_next i_where i_token i_number i_word i_wrong i_farCrossing m_read j_z0_1 j_crossings_2 j_inns_3 m_posts m_shut m_here j_steps_4 j_done_5 i_at i_gone m_was m_came m_seenAt m_rowWorth m_farBy m_used i_everywhere i_again0 j_d0_24 i_never i_firstCame i_longRun i_moved i_crowd i_l0 i_fitMany i_fitLeast i_fitMost m_fitPost m_fitEnd m_keptPosts i_x0], [zAr T 0 m_all 3952 f_all]] _ _ := G
    rcases hc_25 with ⟨rfl, h_27, h_28, h_29, h_30⟩ | ⟨rfl, h_31⟩
    · have h_27 : 0 ≤ k_.toInt := h_27
      have h_28 : k_.toInt < (f_all 1).toInt := h_28
      have h_29 : j_d0_24.toInt = 712 + 121 * k_.toInt := h_29
      have h_30 : zMD f_all j_d0_24 := h_30
      have hD := h_30
      have hDa := hD.1
      have hDb := hD.2
      refine lv_if_ne (tgt := 18) hx hb dX12_stop_13 (by decide) (fun _ => ?_) (fun q => absurd q (by decide))
      refine lv_aload_n hx hb dX12_stop_18 rfl (lv_at hl 0 rfl) ?_
      refine lv_bipush (v := 40) hx hb dX12_stop_19 (by decide) ?_
      refine z_Vv (bc := [[zO11 mo m_all m_has i_size i_next i_where i_token i_number i_word i_wrong i_farCrossing m_read j_z0_1 j_crossings_2 j_inns_3 m_posts m_shut m_here j_steps_4 j_done_5 i_at i_gone m_was m_came m_seenAt m_rowWorth m_farBy m_used i_everywhere i_again0 j_d0_24 i_never i_firstCame i_longRun i_moved i_crowd i_l0 i_fitMany i_fitLeast i_fitMost m_fitPost m_fitEnd m_keptPosts i_x0], [zAr T 0 m_all 3952 f_all], [zAr T 0 m_posts 7 g_posts_6], [zAr T 0 m_shut 7 g_shut_7], [zAr T 0 m_here 7 g_here_8], [zAr T 0 m_was 7 f_was]]) (br := []) (As := [.int 40]) (rest := []) C G (c_m_runs l T mo m_all m_has i_size i_next i_where i_token i_number i_word i_wrong i_farCrossing m_read j_z0_1 j_crossings_2 j_inns_3 m_posts m_shut m_here j_steps_4 j_done_5 i_at i_gone m_was m_came m_seenAt m_rowWorth m_farBy m_used i_everywhere i_again0 j_d0_24 i_never i_firstCame i_longRun i_moved i_crowd i_l0 i_fitMany i_fitLeast i_fitMost m_fitPost m_fitEnd m_keptPosts i_x0 f_all g_posts_6 g_shut_7 g_here_8 f_was 40 (by first | with_reducible assumption | with_reducible rfl | omega | assumption | rfl | decide) (by first | with_reducible assumption | with_reducible rfl | omega | assumption | rfl | decide) (by first | with_reducible assumption | with_reducible rfl | omega | assumption | rfl | decide) (by first | with_reducible assumption | with_reducible rfl | omega | assumption | rfl | decide) (by first | with_reducible assumption | with_reducible rfl | omega | assumption | rfl | decide)) (kV_RX12_348 C.2.2.2.2 (Nat.le_of_ble_eq_true rfl) (Nat.le_of_ble_eq_true rfl)) [4, 5, 1, 2, 3, 0] [0, 0, 0, 0, 0, 0] rfl rfl (ci := 11) (qc := (RX12, TX12, 43)) rfl rfl (List.mem_flatten.mpr ⟨_, List.mem_of_getElem? (i := 0) rfl, List.mem_cons_self⟩) rfl rfl hl.1 dX12_stop_21 (Nat.le_of_ble_eq_true rfl) (Nat.le_of_ble_eq_true rfl) (fun b1 H locs hw G => ?_)
      refine zEx13 hw ?_
      intro j_at_32 j_gone_33 j_steps_34 j_moved_35 j_firstCame_36 j_never_37 j_longRun_38 j_crowd_39 j_done_40 g_posts_41 g_shut_42 g_here_43 g_was_44
      refine zCu4 ?_
      intro hbs9 h_45 h_46 h_47
      clear hw
      subst hbs9
      have G : zS T A s.heap s [[zO11 mo m_all m_has i_size i_next i_where i_token i_number i_word i_wrong i_farCrossing m_read j_z0_1 j_crossings_2 j_inns_3 m_posts m_shut m_here j_steps_34 j_done_40 j_at_32 j_gone_33 m_was m_came m_seenAt m_rowWorth m_farBy m_used i_everywhere i_again0 j_d0_24 j_never_37 j_firstCame_36 j_longRun_38 j_moved_35 j_crowd_39 i_l0 i_fitMany i_fitLeast i_fitMost m_fitPost m_fitEnd m_keptPosts i_x0], [zAr T 0 m_all 3952 f_all], [zAr T 0 m_posts 7 g_posts_41], [zAr T 0 m_shut 7 g_shut_42], [zAr T 0 m_here 7 g_here_43], [zAr T 0 m_was 7 g_was_44]] _ _ := G
      refine lv_aload_n hx hb dX12_stop_24 rfl (lv_at hl 0 rfl) ?_
      refine z_get C G clX12 0 rfl 18 (by decide) m_fl_RX12_199 rfl dX12_stop_25 ?_
      exact z_back hQz_ (z_iret C hr hlocks G (Nat.le_of_ble_eq_true rfl) (Nat.le_of_ble_eq_true rfl) dX12_stop_28 ⟨j_z0_1, j_crossings_2, j_inns_3, j_steps_34, j_done_40, j_at_32, j_gone_33, j_d0_24, j_never_37, j_firstCame_36, j_longRun_38, j_moved_35, j_crowd_39, g_posts_41, g_shut_42, g_here_43, g_was_44, rfl⟩)
    · have h_31 : (k_.toInt < 0 ∨ (f_all 1).toInt ≤ k_.toInt) := h_31
      refine lv_if_ne (tgt := 18) hx hb dX12_stop_13 (by decide) (fun q => absurd (by decide) q) (fun _ => ?_)
      refine lv_iconst (v := (-1)) hx hb dX12_stop_16 (by decide) ?_
      have G := G.sub (bs' := [[zO11 mo m_all m_has i_size i_next i_where i_token i_number i_word i_wrong i_farCrossing m_read j_z0_1 j_crossings_2 j_inns_3 m_posts m_shut m_here j_steps_4 j_done_5 i_at i_gone m_was m_came m_seenAt m_rowWorth m_farBy m_used i_everywhere i_again0 j_d0_24 i_never i_firstCame i_longRun i_moved i_crowd i_l0 i_fitMany i_fitLeast i_fitMost m_fitPost m_fitEnd m_keptPosts i_x0], [zAr T 0 m_all 3952 f_all], [zAr T 0 m_posts 7 g_posts_6], [zAr T 0 m_shut 7 g_shut_7], [zAr T 0 m_here 7 g_here_8], [zAr T 0 m_was 7 f_was]]) [4, 5, 1, 2, 3, 0] rfl
      exact z_back hQz_ (z_iret C hr hlocks G (Nat.le_of_ble_eq_true rfl) (Nat.le_of_ble_eq_true rfl) dX12_stop_17 ⟨j_z0_1, j_crossings_2, j_inns_3, j_steps_4, j_done_5, i_at, i_gone, j_d0_24, i_never, i_firstCame, i_longRun, i_moved, i_crowd, g_posts_6, g_shut_7, g_here_8, f_was, rfl⟩)
  · have h_23 : (l_.toInt < 0 ∨ (f_all 0).toInt ≤ l_.toInt) := h_23
    refine lv_if_eq (tgt := 16) hx hb dX12_stop_5 (by decide) (fun _ => ?_) (fun q => absurd (by decide) q)
    refine lv_iconst (v := (-1)) hx hb dX12_stop_16 (by decide) ?_
    have G := G.sub (bs' := [[zO11 mo m_all m_has i_size i_next i_where i_token i_number i_word i_wrong i_farCrossing m_read j_z0_1 j_crossings_2 j_inns_3 m_posts m_shut m_here j_steps_4 j_done_5 i_at i_gone m_was m_came m_seenAt m_rowWorth m_farBy m_used i_everywhere i_again0 i_d0 i_never i_firstCame i_longRun i_moved i_crowd i_l0 i_fitMany i_fitLeast i_fitMost m_fitPost m_fitEnd m_keptPosts i_x0], [zAr T 0 m_all 3952 f_all], [zAr T 0 m_posts 7 g_posts_6], [zAr T 0 m_shut 7 g_shut_7], [zAr T 0 m_here 7 g_here_8], [zAr T 0 m_was 7 f_was]]) [1, 2, 3, 4, 5, 0] rfl
    exact z_back hQz_ (z_iret C hr hlocks G (Nat.le_of_ble_eq_true rfl) (Nat.le_of_ble_eq_true rfl) dX12_stop_17 ⟨j_z0_1, j_crossings_2, j_inns_3, j_steps_4, j_done_5, i_at, i_gone, i_d0, i_never, i_firstCame, i_longRun, i_moved, i_crowd, g_posts_6, g_shut_7, g_here_8, f_was, rfl⟩)
set_option maxHeartbeats 4000000 in
set_option maxRecDepth 100000 in
/-- c_m_state -/
theorem c_m_state (l : Launch) (T : zTy) (mo : Nat) (m_all : Nat) (m_has : Nat) (i_size : Int32) (i_next : Int32) (i_where : Int32) (i_token : Int32) (i_number : Int32) (i_word : Int32) (i_wrong : Int32) (i_farCrossing : Int32) (m_read : Nat) (i_z0 : Int32) (i_crossings : Int32) (i_inns : Int32) (m_posts : Nat) (m_shut : Nat) (m_here : Nat) (i_steps : Int32) (i_done : Int32) (i_at : Int32) (i_gone : Int32) (m_was : Nat) (m_came : Nat) (m_seenAt : Nat) (m_rowWorth : Nat) (m_farBy : Nat) (m_used : Nat) (i_everywhere : Int32) (i_again0 : Int32) (i_d0 : Int32) (i_never : Int32) (i_firstCame : Int32) (i_longRun : Int32) (i_moved : Int32) (i_crowd : Int32) (i_l0 : Int32) (i_fitMany : Int32) (i_fitLeast : Int32) (i_fitMost : Int32) (m_fitPost : Nat) (m_fitEnd : Nat) (m_keptPosts : Nat) (i_x0 : Int32) (f_all : Nat → Int32) (f_posts : Nat → Int32) (f_shut : Nat → Int32) (f_here : Nat → Int32) (f_was : Nat → Int32) (l_ : Int32) (k_ : Int32) (n_ : Int32) (w_ : Int32) (hB : zBI f_all) : zMi l T yX12_state cX12_state 5 (some .int) 8 0 0 [.ref mo, .int l_, .int k_, .int n_, .int w_] [[zO11 mo m_all m_has i_size i_next i_where i_token i_number i_word i_wrong i_farCrossing m_read i_z0 i_crossings i_inns m_posts m_shut m_here i_steps i_done i_at i_gone m_was m_came m_seenAt m_rowWorth m_farBy m_used i_everywhere i_again0 i_d0 i_never i_firstCame i_longRun i_moved i_crowd i_l0 i_fitMany i_fitLeast i_fitMost m_fitPost m_fitEnd m_keptPosts i_x0], [zAr T 0 m_all 3952 f_all], [zAr T 0 m_posts 7 f_posts], [zAr T 0 m_shut 7 f_shut], [zAr T 0 m_here 7 f_here], [zAr T 0 m_was 7 f_was]] (fun (r : Int32) bs => ∃ (j_z0 : Int32) (j_crossings : Int32) (j_inns : Int32) (j_steps : Int32) (j_done : Int32) (j_at : Int32) (j_gone : Int32) (j_d0 : Int32) (j_never : Int32) (j_firstCame : Int32) (j_longRun : Int32) (j_moved : Int32) (j_crowd : Int32) (g_posts : Nat → Int32) (g_shut : Nat → Int32) (g_here : Nat → Int32) (g_was : Nat → Int32), bs = [[zO11 mo m_all m_has i_size i_next i_where i_token i_number i_word i_wrong i_farCrossing m_read j_z0 j_crossings j_inns m_posts m_shut m_here j_steps j_done j_at j_gone m_was m_came m_seenAt m_rowWorth m_farBy m_used i_everywhere i_again0 j_d0 j_never j_firstCame j_longRun j_moved j_crowd i_l0 i_fitMany i_fitLeast i_fitMost m_fitPost m_fitEnd m_keptPosts i_x0], [zAr T 0 m_all 3952 f_all], [zAr T 0 m_posts 7 g_posts], [zAr T 0 m_shut 7 g_shut], [zAr T 0 m_here 7 g_here], [zAr T 0 m_was 7 g_was]]) := by
  refine zMi_of (own := RX12) (by decide) rfl (Nat.le_of_ble_eq_true rfl) ?_
  intro p e s m args below meth c A ls C hr hlocks hnm hAe G hl
  refine zHide (fun Qz_ hQz_ => ?_)
  have hx := C.1
  have hb := C.2.1
  have hl : lv_has ls 5 [(0, .ref mo), (1, .int l_), (2, .int k_), (3, .int n_), (4, .int w_)] := hl
  refine lv_aload_n hx hb dX12_state_0 rfl (lv_at hl 0 rfl) ?_
  refine lv_iload_n hx hb dX12_state_1 rfl (lv_at hl 1 rfl) ?_
  refine z_Vi (bc := [[zO11 mo m_all m_has i_size i_next i_where i_token i_number i_word i_wrong i_farCrossing m_read i_z0 i_crossings i_inns m_posts m_shut m_here i_steps i_done i_at i_gone m_was m_came m_seenAt m_rowWorth m_farBy m_used i_everywhere i_again0 i_d0 i_never i_firstCame i_longRun i_moved i_crowd i_l0 i_fitMany i_fitLeast i_fitMost m_fitPost m_fitEnd m_keptPosts i_x0], [zAr T 0 m_all 3952 f_all], [zAr T 0 m_posts 7 f_posts], [zAr T 0 m_shut 7 f_shut], [zAr T 0 m_here 7 f_here]]) (br := [[zAr T 0 m_was 7 f_was]]) (As := [.int l_]) (rest := []) C G (c_m_isLand l T mo m_all m_has i_size i_next i_where i_token i_number i_word i_wrong i_farCrossing m_read i_z0 i_crossings i_inns m_posts m_shut m_here i_steps i_done i_at i_gone m_was m_came m_seenAt m_rowWorth m_farBy m_used i_everywhere i_again0 i_d0 i_never i_firstCame i_longRun i_moved i_crowd i_l0 i_fitMany i_fitLeast i_fitMost m_fitPost m_fitEnd m_keptPosts i_x0 f_all f_posts f_shut f_here l_ (by first | with_reducible assumption | with_reducible rfl | omega | assumption | rfl | decide)) (kV_RX12_184 C.2.2.2.2 (Nat.le_of_ble_eq_true rfl) (Nat.le_of_ble_eq_true rfl)) [0, 1, 2, 3, 4] [0, 0, 0, 0, 0] rfl rfl (ci := 11) (qc := (RX12, TX12, 43)) rfl rfl (List.mem_flatten.mpr ⟨_, List.mem_of_getElem? (i := 0) rfl, List.mem_cons_self⟩) rfl rfl hl.1 dX12_state_2 (Nat.le_of_ble_eq_true rfl) (Nat.le_of_ble_eq_true rfl) (fun r_10 b1 H locs hw G => ?_)
  refine zEx8 hw ?_
  intro j_z0_1 j_crossings_2 j_inns_3 j_steps_4 j_done_5 g_posts_6 g_shut_7 g_here_8
  refine zCu2 ?_
  intro hbs9 hc_9
  clear hw
  subst hbs9
  have G : zS T A s.heap s [[zAr T 0 m_was 7 f_was], [zO11 mo m_all m_has i_size i_next i_where i_token i_number i_word i_wrong i_farCrossing m_read j_z0_1 j_crossings_2 j_inns_3 m_posts m_shut m_here j_steps_4 j_done_5 i_at i_gone m_was m_came m_seenAt m_rowWorth m_farBy m_used i_everywhere i_again0 i_d0 i_never i_firstCame i_longRun i_moved i_crowd i_l0 i_fitMany i_fitLeast i_fitMost m_fitPost m_fitEnd m_keptPosts i_x0], [zAr T 0 m_all 3952 f_all], [zAr T 0 m_posts 7 g_posts_6], [zAr T 0 m_shut 7 g_shut_7], [zAr T 0 m_here 7 g_here_8]] _ _ := G
  rcases hc_9 with ⟨rfl, h_11, h_12, h_13, h_14, h_15, h_16, h_17, h_18, h_19, h_20, h_21, h_22⟩ | ⟨rfl, h_23⟩
  · have h_11 : 0 ≤ l_.toInt := h_11
    have h_12 : l_.toInt ≤ 1 := h_12
    have h_13 : l_.toInt < (f_all 0).toInt := h_13
    have h_14 : j_z0_1.toInt = 610 + 51 * l_.toInt := h_14
    have h_15 : zML f_all j_z0_1 j_crossings_2 := h_15
    have h_16 : zMP g_posts_6 := h_16
    have h_17 : j_inns_3 = f_all (j_z0_1.toInt.toNat + 1) := h_17
    have h_18 : j_steps_4 = 0 := h_18
    have h_19 : j_done_5 = 0 := h_19
    have h_20 : (∀ j, j < 7 → g_posts_6 j = zPt f_all j_z0_1 (nI j)) := h_20
    have h_21 : (∀ j, j < 7 → g_shut_7 j = 0) := h_21
    have h_22 : (∀ j, j < 7 → g_here_8 j = zWk f_all j_z0_1 j) := h_22
    have hLx := h_15
    have hcr := hLx.cr
    have hzx := hLx.1
    have hPx := h_16
    have hdn : (j_done_5).toInt = 0 := by rw [h_19]; rfl
    refine lv_if_eq (tgt := 20) hx hb dX12_state_5 (by decide) (fun q => absurd q (by decide)) (fun _ => ?_)
    refine lv_aload_n hx hb dX12_state_8 rfl (lv_at hl 0 rfl) ?_
    refine lv_iload_n hx hb dX12_state_9 rfl (lv_at hl 2 rfl) ?_
    refine z_Vi (bc := [[zO11 mo m_all m_has i_size i_next i_where i_token i_number i_word i_wrong i_farCrossing m_read j_z0_1 j_crossings_2 j_inns_3 m_posts m_shut m_here j_steps_4 j_done_5 i_at i_gone m_was m_came m_seenAt m_rowWorth m_farBy m_used i_everywhere i_again0 i_d0 i_never i_firstCame i_longRun i_moved i_crowd i_l0 i_fitMany i_fitLeast i_fitMost m_fitPost m_fitEnd m_keptPosts i_x0], [zAr T 0 m_all 3952 f_all]]) (br := [[zAr T 0 m_was 7 f_was], [zAr T 0 m_posts 7 g_posts_6], [zAr T 0 m_shut 7 g_shut_7], [zAr T 0 m_here 7 g_here_8]]) (As := [.int k_]) (rest := []) C G (c_m_isDay l T mo m_all m_has i_size i_next i_where i_token i_number i_word i_wrong i_farCrossing m_read j_z0_1 j_crossings_2 j_inns_3 m_posts m_shut m_here j_steps_4 j_done_5 i_at i_gone m_was m_came m_seenAt m_rowWorth m_farBy m_used i_everywhere i_again0 i_d0 i_never i_firstCame i_longRun i_moved i_crowd i_l0 i_fitMany i_fitLeast i_fitMost m_fitPost m_fitEnd m_keptPosts i_x0 f_all k_ (by first | with_reducible assumption | with_reducible rfl | omega | assumption | rfl | decide)) (kV_RX12_305 C.2.2.2.2 (Nat.le_of_ble_eq_true rfl) (Nat.le_of_ble_eq_true rfl)) [1, 2] [1, 0] rfl rfl (ci := 11) (qc := (RX12, TX12, 43)) rfl rfl (List.mem_flatten.mpr ⟨_, List.mem_of_getElem? (i := 0) rfl, List.mem_cons_self⟩) rfl rfl hl.1 dX12_state_10 (Nat.le_of_ble_eq_true rfl) (Nat.le_of_ble_eq_true rfl) (fun r_26 b1 H locs hw G => ?_)
    refine zEx1 hw ?_
    intro j_d0_24
    refine zCu2 ?_
    intro hbs9 hc_25
    clear hw
    subst hbs9
    have G : zS T A s.heap s [[zAr T 0 m_was 7 f_was], [zAr T 0 m_posts 7 g_posts_6], [zAr T 0 m_shut 7 g_shut_7], [zAr T 0 m_here 7 g_here_8], [zO11 mo m_all m_has i_size i_next i_where i_token i_number i_word i_wrong i_farCrossing m_read j_z0_1 j_crossings_2 j_inns_3 m_posts m_shut m_here j_steps_4 j_done_5 i_at i_gone m_was m_came m_seenAt m_rowWorth m_farBy m_used i_everywhere i_again0 j_d0_24 i_never i_firstCame i_longRun i_moved i_crowd i_l0 i_fitMany i_fitLeast i_fitMost m_fitPost m_fitEnd m_keptPosts i_x0], [zAr T 0 m_all 3952 f_all]] _ _ := G
    rcases hc_25 with ⟨rfl, h_27, h_28, h_29, h_30⟩ | ⟨rfl, h_31⟩
    · have h_27 : 0 ≤ k_.toInt := h_27
      have h_28 : k_.toInt < (f_all 1).toInt := h_28
      have h_29 : j_d0_24.toInt = 712 + 121 * k_.toInt := h_29
      have h_30 : zMD f_all j_d0_24 := h_30
      have hD := h_30
      have hDa := hD.1
      have hDb := hD.2
      refine lv_if_eq (tgt := 20) hx hb dX12_state_13 (by decide) (fun q => absurd q (by decide)) (fun _ => ?_)
      refine lv_iload_n hx hb dX12_state_16 rfl (lv_at hl 3 rfl) ?_
      refine lv_if_ge (tgt := 23) hx hb dX12_state_17 (by decide) (fun c_32 => ?_) (fun c_32 => ?_)
      · have c_32n : (0 : Int) ≤ n_.toInt := (fa_le _ _).mp c_32
        refine lv_aload_n hx hb dX12_state_23 rfl (lv_at hl 0 rfl) ?_
        refine lv_iload_n hx hb dX12_state_24 rfl (lv_at hl 3 rfl) ?_
        refine z_Vv (bc := [[zO11 mo m_all m_has i_size i_next i_where i_token i_number i_word i_wrong i_farCrossing m_read j_z0_1 j_crossings_2 j_inns_3 m_posts m_shut m_here j_steps_4 j_done_5 i_at i_gone m_was m_came m_seenAt m_rowWorth m_farBy m_used i_everywhere i_again0 j_d0_24 i_never i_firstCame i_longRun i_moved i_crowd i_l0 i_fitMany i_fitLeast i_fitMost m_fitPost m_fitEnd m_keptPosts i_x0], [zAr T 0 m_all 3952 f_all], [zAr T 0 m_posts 7 g_posts_6], [zAr T 0 m_shut 7 g_shut_7], [zAr T 0 m_here 7 g_here_8], [zAr T 0 m_was 7 f_was]]) (br := []) (As := [.int n_]) (rest := []) C G (c_m_runs l T mo m_all m_has i_size i_next i_where i_token i_number i_word i_wrong i_farCrossing m_read j_z0_1 j_crossings_2 j_inns_3 m_posts m_shut m_here j_steps_4 j_done_5 i_at i_gone m_was m_came m_seenAt m_rowWorth m_farBy m_used i_everywhere i_again0 j_d0_24 i_never i_firstCame i_longRun i_moved i_crowd i_l0 i_fitMany i_fitLeast i_fitMost m_fitPost m_fitEnd m_keptPosts i_x0 f_all g_posts_6 g_shut_7 g_here_8 f_was n_ (by first | with_reducible assumption | with_reducible rfl | omega | assumption | rfl | decide) (by first | with_reducible assumption | with_reducible rfl | omega | assumption | rfl | decide) (by first | with_reducible assumption | with_reducible rfl | omega | assumption | rfl | decide) (by first | with_reducible assumption | with_reducible rfl | omega | assumption | rfl | decide) (by first | with_reducible assumption | with_reducible rfl | omega | assumption | rfl | decide)) (kV_RX12_348 C.2.2.2.2 (Nat.le_of_ble_eq_true rfl) (Nat.le_of_ble_eq_true rfl)) [4, 5, 1, 2, 3, 0] [0, 0, 0, 0, 0, 0] rfl rfl (ci := 11) (qc := (RX12, TX12, 43)) rfl rfl (List.mem_flatten.mpr ⟨_, List.mem_of_getElem? (i := 0) rfl, List.mem_cons_self⟩) rfl rfl hl.1 dX12_state_25 (Nat.le_of_ble_eq_true rfl) (Nat.le_of_ble_eq_true rfl) (fun b1 H locs hw G => ?_)
        refine zEx13 hw ?_
        intro j_at_33 j_gone_34 j_steps_35 j_moved_36 j_firstCame_37 j_never_38 j_longRun_39 j_crowd_40 j_done_41 g_posts_42 g_shut_43 g_here_44 g_was_45
        refine zCu4 ?_
        intro hbs9 h_46 h_47 h_48
        clear hw
        subst hbs9
        have G : zS T A s.heap s [[zO11 mo m_all m_has i_size i_next i_where i_token i_number i_word i_wrong i_farCrossing m_read j_z0_1 j_crossings_2 j_inns_3 m_posts m_shut m_here j_steps_35 j_done_41 j_at_33 j_gone_34 m_was m_came m_seenAt m_rowWorth m_farBy m_used i_everywhere i_again0 j_d0_24 j_never_38 j_firstCame_37 j_longRun_39 j_moved_36 j_crowd_40 i_l0 i_fitMany i_fitLeast i_fitMost m_fitPost m_fitEnd m_keptPosts i_x0], [zAr T 0 m_all 3952 f_all], [zAr T 0 m_posts 7 g_posts_42], [zAr T 0 m_shut 7 g_shut_43], [zAr T 0 m_here 7 g_here_44], [zAr T 0 m_was 7 g_was_45]] _ _ := G
        refine lv_aload_n hx hb dX12_state_28 rfl (lv_at hl 0 rfl) ?_
        refine z_get C G clX12 0 rfl 18 (by decide) m_fl_RX12_199 rfl dX12_state_29 ?_
        refine lv_iload_n hx hb dX12_state_32 rfl (lv_at hl 3 rfl) ?_
        refine lv_icmp_ne (tgt := 45) hx hb dX12_state_33 (by decide) (fun c_50 => ?_) (fun c_50 => ?_)
        · have c_50n : ¬ j_done_41.toInt = n_.toInt := fun q => c_50 ((fa_eq _ _).mpr q)
          refine lv_bipush (v := (-2)) hx hb dX12_state_45 (by decide) ?_
          exact z_back hQz_ (z_iret C hr hlocks G (Nat.le_of_ble_eq_true rfl) (Nat.le_of_ble_eq_true rfl) dX12_state_47 ⟨j_z0_1, j_crossings_2, j_inns_3, j_steps_35, j_done_41, j_at_33, j_gone_34, j_d0_24, j_never_38, j_firstCame_37, j_longRun_39, j_moved_36, j_crowd_40, g_posts_42, g_shut_43, g_here_44, g_was_45, rfl⟩)
        · have c_50n : j_done_41.toInt = n_.toInt := (fa_eq _ _).mp c_50
          refine lv_aload_n hx hb dX12_state_36 rfl (lv_at hl 0 rfl) ?_
          refine lv_iload hx hb dX12_state_37 (lv_at hl 4 rfl) ?_
          refine z_Vi (bc := [[zO11 mo m_all m_has i_size i_next i_where i_token i_number i_word i_wrong i_farCrossing m_read j_z0_1 j_crossings_2 j_inns_3 m_posts m_shut m_here j_steps_35 j_done_41 j_at_33 j_gone_34 m_was m_came m_seenAt m_rowWorth m_farBy m_used i_everywhere i_again0 j_d0_24 j_never_38 j_firstCame_37 j_longRun_39 j_moved_36 j_crowd_40 i_l0 i_fitMany i_fitLeast i_fitMost m_fitPost m_fitEnd m_keptPosts i_x0], [zAr T 0 m_posts 7 g_posts_42], [zAr T 0 m_here 7 g_here_44], [zAr T 0 m_shut 7 g_shut_43]]) (br := [[zAr T 0 m_all 3952 f_all], [zAr T 0 m_was 7 g_was_45]]) (As := [.int w_]) (rest := []) C G (c_m_nowOf l T mo m_all m_has i_size i_next i_where i_token i_number i_word i_wrong i_farCrossing m_read j_z0_1 j_crossings_2 j_inns_3 m_posts m_shut m_here j_steps_35 j_done_41 j_at_33 j_gone_34 m_was m_came m_seenAt m_rowWorth m_farBy m_used i_everywhere i_again0 j_d0_24 j_never_38 j_firstCame_37 j_longRun_39 j_moved_36 j_crowd_40 i_l0 i_fitMany i_fitLeast i_fitMost m_fitPost m_fitEnd m_keptPosts i_x0 g_posts_42 g_here_44 g_shut_43 w_ (by first | with_reducible assumption | with_reducible rfl | omega | assumption | rfl | decide)) (kV_RX12_354 C.2.2.2.2 (Nat.le_of_ble_eq_true rfl) (Nat.le_of_ble_eq_true rfl)) [0, 2, 4, 3] [0, 1, 0, 0] rfl rfl (ci := 11) (qc := (RX12, TX12, 43)) rfl rfl (List.mem_flatten.mpr ⟨_, List.mem_of_getElem? (i := 0) rfl, List.mem_cons_self⟩) rfl rfl hl.1 dX12_state_39 (Nat.le_of_ble_eq_true rfl) (Nat.le_of_ble_eq_true rfl) (fun r_51 b1 H locs hw G => ?_)
          obtain rfl := hw
          have G : zS T A s.heap s [[zAr T 0 m_all 3952 f_all], [zAr T 0 m_was 7 g_was_45], [zO11 mo m_all m_has i_size i_next i_where i_token i_number i_word i_wrong i_farCrossing m_read j_z0_1 j_crossings_2 j_inns_3 m_posts m_shut m_here j_steps_35 j_done_41 j_at_33 j_gone_34 m_was m_came m_seenAt m_rowWorth m_farBy m_used i_everywhere i_again0 j_d0_24 j_never_38 j_firstCame_37 j_longRun_39 j_moved_36 j_crowd_40 i_l0 i_fitMany i_fitLeast i_fitMost m_fitPost m_fitEnd m_keptPosts i_x0], [zAr T 0 m_posts 7 g_posts_42], [zAr T 0 m_here 7 g_here_44], [zAr T 0 m_shut 7 g_shut_43]] _ _ := G
          refine lv_goto (tgt := 47) hx hb dX12_state_42 (by decide) ?_
          have G := G.sub (bs' := [[zO11 mo m_all m_has i_size i_next i_where i_token i_number i_word i_wrong i_farCrossing m_read j_z0_1 j_crossings_2 j_inns_3 m_posts m_shut m_here j_steps_35 j_done_41 j_at_33 j_gone_34 m_was m_came m_seenAt m_rowWorth m_farBy m_used i_everywhere i_again0 j_d0_24 j_never_38 j_firstCame_37 j_longRun_39 j_moved_36 j_crowd_40 i_l0 i_fitMany i_fitLeast i_fitMost m_fitPost m_fitEnd m_keptPosts i_x0], [zAr T 0 m_all 3952 f_all], [zAr T 0 m_posts 7 g_posts_42], [zAr T 0 m_shut 7 g_shut_43], [zAr T 0 m_here 7 g_here_44], [zAr T 0 m_was 7 g_was_45]]) [2, 0, 3, 5, 4, 1] rfl
          exact z_back hQz_ (z_iret C hr hlocks G (Nat.le_of_ble_eq_true rfl) (Nat.le_of_ble_eq_true rfl) dX12_state_47 ⟨j_z0_1, j_crossings_2, j_inns_3, j_steps_35, j_done_41, j_at_33, j_gone_34, j_d0_24, j_never_38, j_firstCame_37, j_longRun_39, j_moved_36, j_crowd_40, g_posts_42, g_shut_43, g_here_44, g_was_45, rfl⟩)
      · have c_32n : ¬ (0 : Int) ≤ n_.toInt := fun q => c_32 ((fa_le _ _).mpr q)
        refine lv_bipush (v := (-2)) hx hb dX12_state_20 (by decide) ?_
        have G := G.sub (bs' := [[zO11 mo m_all m_has i_size i_next i_where i_token i_number i_word i_wrong i_farCrossing m_read j_z0_1 j_crossings_2 j_inns_3 m_posts m_shut m_here j_steps_4 j_done_5 i_at i_gone m_was m_came m_seenAt m_rowWorth m_farBy m_used i_everywhere i_again0 j_d0_24 i_never i_firstCame i_longRun i_moved i_crowd i_l0 i_fitMany i_fitLeast i_fitMost m_fitPost m_fitEnd m_keptPosts i_x0], [zAr T 0 m_all 3952 f_all], [zAr T 0 m_posts 7 g_posts_6], [zAr T 0 m_shut 7 g_shut_7], [zAr T 0 m_here 7 g_here_8], [zAr T 0 m_was 7 f_was]]) [4, 5, 1, 2, 3, 0] rfl
        exact z_back hQz_ (z_iret C hr hlocks G (Nat.le_of_ble_eq_true rfl) (Nat.le_of_ble_eq_true rfl) dX12_state_22 ⟨j_z0_1, j_crossings_2, j_inns_3, j_steps_4, j_done_5, i_at, i_gone, j_d0_24, i_never, i_firstCame, i_longRun, i_moved, i_crowd, g_posts_6, g_shut_7, g_here_8, f_was, rfl⟩)
    · have h_31 : (k_.toInt < 0 ∨ (f_all 1).toInt ≤ k_.toInt) := h_31
      refine lv_if_eq (tgt := 20) hx hb dX12_state_13 (by decide) (fun _ => ?_) (fun q => absurd (by decide) q)
      refine lv_bipush (v := (-2)) hx hb dX12_state_20 (by decide) ?_
      have G := G.sub (bs' := [[zO11 mo m_all m_has i_size i_next i_where i_token i_number i_word i_wrong i_farCrossing m_read j_z0_1 j_crossings_2 j_inns_3 m_posts m_shut m_here j_steps_4 j_done_5 i_at i_gone m_was m_came m_seenAt m_rowWorth m_farBy m_used i_everywhere i_again0 j_d0_24 i_never i_firstCame i_longRun i_moved i_crowd i_l0 i_fitMany i_fitLeast i_fitMost m_fitPost m_fitEnd m_keptPosts i_x0], [zAr T 0 m_all 3952 f_all], [zAr T 0 m_posts 7 g_posts_6], [zAr T 0 m_shut 7 g_shut_7], [zAr T 0 m_here 7 g_here_8], [zAr T 0 m_was 7 f_was]]) [4, 5, 1, 2, 3, 0] rfl
      exact z_back hQz_ (z_iret C hr hlocks G (Nat.le_of_ble_eq_true rfl) (Nat.le_of_ble_eq_true rfl) dX12_state_22 ⟨j_z0_1, j_crossings_2, j_inns_3, j_steps_4, j_done_5, i_at, i_gone, j_d0_24, i_never, i_firstCame, i_longRun, i_moved, i_crowd, g_posts_6, g_shut_7, g_here_8, f_was, rfl⟩)
  · have h_23 : (l_.toInt < 0 ∨ (f_all 0).toInt ≤ l_.toInt) := h_23
    refine lv_if_eq (tgt := 20) hx hb dX12_state_5 (by decide) (fun _ => ?_) (fun q => absurd (by decide) q)
    refine lv_bipush (v := (-2)) hx hb dX12_state_20 (by decide) ?_
    have G := G.sub (bs' := [[zO11 mo m_all m_has i_size i_next i_where i_token i_number i_word i_wrong i_farCrossing m_read j_z0_1 j_crossings_2 j_inns_3 m_posts m_shut m_here j_steps_4 j_done_5 i_at i_gone m_was m_came m_seenAt m_rowWorth m_farBy m_used i_everywhere i_again0 i_d0 i_never i_firstCame i_longRun i_moved i_crowd i_l0 i_fitMany i_fitLeast i_fitMost m_fitPost m_fitEnd m_keptPosts i_x0], [zAr T 0 m_all 3952 f_all], [zAr T 0 m_posts 7 g_posts_6], [zAr T 0 m_shut 7 g_shut_7], [zAr T 0 m_here 7 g_here_8], [zAr T 0 m_was 7 f_was]]) [1, 2, 3, 4, 5, 0] rfl
    exact z_back hQz_ (z_iret C hr hlocks G (Nat.le_of_ble_eq_true rfl) (Nat.le_of_ble_eq_true rfl) dX12_state_22 ⟨j_z0_1, j_crossings_2, j_inns_3, j_steps_4, j_done_5, i_at, i_gone, i_d0, i_never, i_firstCame, i_longRun, i_moved, i_crowd, g_posts_6, g_shut_7, g_here_8, f_was, rfl⟩)
set_option maxHeartbeats 4000000 in
set_option maxRecDepth 100000 in
/-- c_m_after -/
theorem c_m_after (l : Launch) (T : zTy) (mo : Nat) (m_all : Nat) (m_has : Nat) (i_size : Int32) (i_next : Int32) (i_where : Int32) (i_token : Int32) (i_number : Int32) (i_word : Int32) (i_wrong : Int32) (i_farCrossing : Int32) (m_read : Nat) (i_z0 : Int32) (i_crossings : Int32) (i_inns : Int32) (m_posts : Nat) (m_shut : Nat) (m_here : Nat) (i_steps : Int32) (i_done : Int32) (i_at : Int32) (i_gone : Int32) (m_was : Nat) (m_came : Nat) (m_seenAt : Nat) (m_rowWorth : Nat) (m_farBy : Nat) (m_used : Nat) (i_everywhere : Int32) (i_again0 : Int32) (i_d0 : Int32) (i_never : Int32) (i_firstCame : Int32) (i_longRun : Int32) (i_moved : Int32) (i_crowd : Int32) (i_l0 : Int32) (i_fitMany : Int32) (i_fitLeast : Int32) (i_fitMost : Int32) (m_fitPost : Nat) (m_fitEnd : Nat) (m_keptPosts : Nat) (i_x0 : Int32) (f_all : Nat → Int32) (f_posts : Nat → Int32) (f_shut : Nat → Int32) (f_here : Nat → Int32) (f_was : Nat → Int32) (l_ : Int32) (k_ : Int32) (w_ : Int32) (hB : zBI f_all) : zMi l T yX12_after cX12_after 4 (some .int) 8 0 0 [.ref mo, .int l_, .int k_, .int w_] [[zO11 mo m_all m_has i_size i_next i_where i_token i_number i_word i_wrong i_farCrossing m_read i_z0 i_crossings i_inns m_posts m_shut m_here i_steps i_done i_at i_gone m_was m_came m_seenAt m_rowWorth m_farBy m_used i_everywhere i_again0 i_d0 i_never i_firstCame i_longRun i_moved i_crowd i_l0 i_fitMany i_fitLeast i_fitMost m_fitPost m_fitEnd m_keptPosts i_x0], [zAr T 0 m_all 3952 f_all], [zAr T 0 m_posts 7 f_posts], [zAr T 0 m_shut 7 f_shut], [zAr T 0 m_here 7 f_here], [zAr T 0 m_was 7 f_was]] (fun (r : Int32) bs => ∃ (j_z0 : Int32) (j_crossings : Int32) (j_inns : Int32) (j_steps : Int32) (j_done : Int32) (j_at : Int32) (j_gone : Int32) (j_d0 : Int32) (j_never : Int32) (j_firstCame : Int32) (j_longRun : Int32) (j_moved : Int32) (j_crowd : Int32) (g_posts : Nat → Int32) (g_shut : Nat → Int32) (g_here : Nat → Int32) (g_was : Nat → Int32), bs = [[zO11 mo m_all m_has i_size i_next i_where i_token i_number i_word i_wrong i_farCrossing m_read j_z0 j_crossings j_inns m_posts m_shut m_here j_steps j_done j_at j_gone m_was m_came m_seenAt m_rowWorth m_farBy m_used i_everywhere i_again0 j_d0 j_never j_firstCame j_longRun j_moved j_crowd i_l0 i_fitMany i_fitLeast i_fitMost m_fitPost m_fitEnd m_keptPosts i_x0], [zAr T 0 m_all 3952 f_all], [zAr T 0 m_posts 7 g_posts], [zAr T 0 m_shut 7 g_shut], [zAr T 0 m_here 7 g_here], [zAr T 0 m_was 7 g_was]]) := by
  refine zMi_of (own := RX12) (by decide) rfl (Nat.le_of_ble_eq_true rfl) ?_
  intro p e s m args below meth c A ls C hr hlocks hnm hAe G hl
  refine zHide (fun Qz_ hQz_ => ?_)
  have hx := C.1
  have hb := C.2.1
  have hl : lv_has ls 4 [(0, .ref mo), (1, .int l_), (2, .int k_), (3, .int w_)] := hl
  refine lv_aload_n hx hb dX12_after_0 rfl (lv_at hl 0 rfl) ?_
  refine lv_iload_n hx hb dX12_after_1 rfl (lv_at hl 1 rfl) ?_
  refine z_Vi (bc := [[zO11 mo m_all m_has i_size i_next i_where i_token i_number i_word i_wrong i_farCrossing m_read i_z0 i_crossings i_inns m_posts m_shut m_here i_steps i_done i_at i_gone m_was m_came m_seenAt m_rowWorth m_farBy m_used i_everywhere i_again0 i_d0 i_never i_firstCame i_longRun i_moved i_crowd i_l0 i_fitMany i_fitLeast i_fitMost m_fitPost m_fitEnd m_keptPosts i_x0], [zAr T 0 m_all 3952 f_all], [zAr T 0 m_posts 7 f_posts], [zAr T 0 m_shut 7 f_shut], [zAr T 0 m_here 7 f_here]]) (br := [[zAr T 0 m_was 7 f_was]]) (As := [.int l_]) (rest := []) C G (c_m_isLand l T mo m_all m_has i_size i_next i_where i_token i_number i_word i_wrong i_farCrossing m_read i_z0 i_crossings i_inns m_posts m_shut m_here i_steps i_done i_at i_gone m_was m_came m_seenAt m_rowWorth m_farBy m_used i_everywhere i_again0 i_d0 i_never i_firstCame i_longRun i_moved i_crowd i_l0 i_fitMany i_fitLeast i_fitMost m_fitPost m_fitEnd m_keptPosts i_x0 f_all f_posts f_shut f_here l_ (by first | with_reducible assumption | with_reducible rfl | omega | assumption | rfl | decide)) (kV_RX12_184 C.2.2.2.2 (Nat.le_of_ble_eq_true rfl) (Nat.le_of_ble_eq_true rfl)) [0, 1, 2, 3, 4] [0, 0, 0, 0, 0] rfl rfl (ci := 11) (qc := (RX12, TX12, 43)) rfl rfl (List.mem_flatten.mpr ⟨_, List.mem_of_getElem? (i := 0) rfl, List.mem_cons_self⟩) rfl rfl hl.1 dX12_after_2 (Nat.le_of_ble_eq_true rfl) (Nat.le_of_ble_eq_true rfl) (fun r_10 b1 H locs hw G => ?_)
  refine zEx8 hw ?_
  intro j_z0_1 j_crossings_2 j_inns_3 j_steps_4 j_done_5 g_posts_6 g_shut_7 g_here_8
  refine zCu2 ?_
  intro hbs9 hc_9
  clear hw
  subst hbs9
  have G : zS T A s.heap s [[zAr T 0 m_was 7 f_was], [zO11 mo m_all m_has i_size i_next i_where i_token i_number i_word i_wrong i_farCrossing m_read j_z0_1 j_crossings_2 j_inns_3 m_posts m_shut m_here j_steps_4 j_done_5 i_at i_gone m_was m_came m_seenAt m_rowWorth m_farBy m_used i_everywhere i_again0 i_d0 i_never i_firstCame i_longRun i_moved i_crowd i_l0 i_fitMany i_fitLeast i_fitMost m_fitPost m_fitEnd m_keptPosts i_x0], [zAr T 0 m_all 3952 f_all], [zAr T 0 m_posts 7 g_posts_6], [zAr T 0 m_shut 7 g_shut_7], [zAr T 0 m_here 7 g_here_8]] _ _ := G
  rcases hc_9 with ⟨rfl, h_11, h_12, h_13, h_14, h_15, h_16, h_17, h_18, h_19, h_20, h_21, h_22⟩ | ⟨rfl, h_23⟩
  · have h_11 : 0 ≤ l_.toInt := h_11
    have h_12 : l_.toInt ≤ 1 := h_12
    have h_13 : l_.toInt < (f_all 0).toInt := h_13
    have h_14 : j_z0_1.toInt = 610 + 51 * l_.toInt := h_14
    have h_15 : zML f_all j_z0_1 j_crossings_2 := h_15
    have h_16 : zMP g_posts_6 := h_16
    have h_17 : j_inns_3 = f_all (j_z0_1.toInt.toNat + 1) := h_17
    have h_18 : j_steps_4 = 0 := h_18
    have h_19 : j_done_5 = 0 := h_19
    have h_20 : (∀ j, j < 7 → g_posts_6 j = zPt f_all j_z0_1 (nI j)) := h_20
    have h_21 : (∀ j, j < 7 → g_shut_7 j = 0) := h_21
    have h_22 : (∀ j, j < 7 → g_here_8 j = zWk f_all j_z0_1 j) := h_22
    have hLx := h_15
    have hcr := hLx.cr
    have hzx := hLx.1
    have hPx := h_16
    have hdn : (j_done_5).toInt = 0 := by rw [h_19]; rfl
    refine lv_if_eq (tgt := 16) hx hb dX12_after_5 (by decide) (fun q => absurd q (by decide)) (fun _ => ?_)
    refine lv_aload_n hx hb dX12_after_8 rfl (lv_at hl 0 rfl) ?_
    refine lv_iload_n hx hb dX12_after_9 rfl (lv_at hl 2 rfl) ?_
    refine z_Vi (bc := [[zO11 mo m_all m_has i_size i_next i_where i_token i_number i_word i_wrong i_farCrossing m_read j_z0_1 j_crossings_2 j_inns_3 m_posts m_shut m_here j_steps_4 j_done_5 i_at i_gone m_was m_came m_seenAt m_rowWorth m_farBy m_used i_everywhere i_again0 i_d0 i_never i_firstCame i_longRun i_moved i_crowd i_l0 i_fitMany i_fitLeast i_fitMost m_fitPost m_fitEnd m_keptPosts i_x0], [zAr T 0 m_all 3952 f_all]]) (br := [[zAr T 0 m_was 7 f_was], [zAr T 0 m_posts 7 g_posts_6], [zAr T 0 m_shut 7 g_shut_7], [zAr T 0 m_here 7 g_here_8]]) (As := [.int k_]) (rest := []) C G (c_m_isDay l T mo m_all m_has i_size i_next i_where i_token i_number i_word i_wrong i_farCrossing m_read j_z0_1 j_crossings_2 j_inns_3 m_posts m_shut m_here j_steps_4 j_done_5 i_at i_gone m_was m_came m_seenAt m_rowWorth m_farBy m_used i_everywhere i_again0 i_d0 i_never i_firstCame i_longRun i_moved i_crowd i_l0 i_fitMany i_fitLeast i_fitMost m_fitPost m_fitEnd m_keptPosts i_x0 f_all k_ (by first | with_reducible assumption | with_reducible rfl | omega | assumption | rfl | decide)) (kV_RX12_305 C.2.2.2.2 (Nat.le_of_ble_eq_true rfl) (Nat.le_of_ble_eq_true rfl)) [1, 2] [1, 0] rfl rfl (ci := 11) (qc := (RX12, TX12, 43)) rfl rfl (List.mem_flatten.mpr ⟨_, List.mem_of_getElem? (i := 0) rfl, List.mem_cons_self⟩) rfl rfl hl.1 dX12_after_10 (Nat.le_of_ble_eq_true rfl) (Nat.le_of_ble_eq_true rfl) (fun r_26 b1 H locs hw G => ?_)
    refine zEx1 hw ?_
    intro j_d0_24
    refine zCu2 ?_
    intro hbs9 hc_25
    clear hw
    subst hbs9
    have G : zS T A s.heap s [[zAr T 0 m_was 7 f_was], [zAr T 0 m_posts 7 g_posts_6], [zAr T 0 m_shut 7 g_shut_7], [zAr T 0 m_here 7 g_here_8], [zO11 mo m_all m_has i_size i_next i_where i_token i_number i_word i_wrong i_farCrossing m_read j_z0_1 j_crossings_2 j_inns_3 m_posts m_shut m_here j_steps_4 j_done_5 i_at i_gone m_was m_came m_seenAt m_rowWorth m_farBy m_used i_everywhere i_again0 j_d0_24 i_never i_firstCame i_longRun i_moved i_crowd i_l0 i_fitMany i_fitLeast i_fitMost m_fitPost m_fitEnd m_keptPosts i_x0], [zAr T 0 m_all 3952 f_all]] _ _ := G
    rcases hc_25 with ⟨rfl, h_27, h_28, h_29, h_30⟩ | ⟨rfl, h_31⟩
    · have h_27 : 0 ≤ k_.toInt := h_27
      have h_28 : k_.toInt < (f_all 1).toInt := h_28
      have h_29 : j_d0_24.toInt = 712 + 121 * k_.toInt := h_29
      have h_30 : zMD f_all j_d0_24 := h_30
      have hD := h_30
      have hDa := hD.1
      have hDb := hD.2
      refine lv_if_ne (tgt := 19) hx hb dX12_after_13 (by decide) (fun _ => ?_) (fun q => absurd q (by decide))
      refine lv_aload_n hx hb dX12_after_19 rfl (lv_at hl 0 rfl) ?_
      refine lv_bipush (v := 40) hx hb dX12_after_20 (by decide) ?_
      refine z_Vv (bc := [[zO11 mo m_all m_has i_size i_next i_where i_token i_number i_word i_wrong i_farCrossing m_read j_z0_1 j_crossings_2 j_inns_3 m_posts m_shut m_here j_steps_4 j_done_5 i_at i_gone m_was m_came m_seenAt m_rowWorth m_farBy m_used i_everywhere i_again0 j_d0_24 i_never i_firstCame i_longRun i_moved i_crowd i_l0 i_fitMany i_fitLeast i_fitMost m_fitPost m_fitEnd m_keptPosts i_x0], [zAr T 0 m_all 3952 f_all], [zAr T 0 m_posts 7 g_posts_6], [zAr T 0 m_shut 7 g_shut_7], [zAr T 0 m_here 7 g_here_8], [zAr T 0 m_was 7 f_was]]) (br := []) (As := [.int 40]) (rest := []) C G (c_m_runs l T mo m_all m_has i_size i_next i_where i_token i_number i_word i_wrong i_farCrossing m_read j_z0_1 j_crossings_2 j_inns_3 m_posts m_shut m_here j_steps_4 j_done_5 i_at i_gone m_was m_came m_seenAt m_rowWorth m_farBy m_used i_everywhere i_again0 j_d0_24 i_never i_firstCame i_longRun i_moved i_crowd i_l0 i_fitMany i_fitLeast i_fitMost m_fitPost m_fitEnd m_keptPosts i_x0 f_all g_posts_6 g_shut_7 g_here_8 f_was 40 (by first | with_reducible assumption | with_reducible rfl | omega | assumption | rfl | decide) (by first | with_reducible assumption | with_reducible rfl | omega | assumption | rfl | decide) (by first | with_reducible assumption | with_reducible rfl | omega | assumption | rfl | decide) (by first | with_reducible assumption | with_reducible rfl | omega | assumption | rfl | decide) (by first | with_reducible assumption | with_reducible rfl | omega | assumption | rfl | decide)) (kV_RX12_348 C.2.2.2.2 (Nat.le_of_ble_eq_true rfl) (Nat.le_of_ble_eq_true rfl)) [4, 5, 1, 2, 3, 0] [0, 0, 0, 0, 0, 0] rfl rfl (ci := 11) (qc := (RX12, TX12, 43)) rfl rfl (List.mem_flatten.mpr ⟨_, List.mem_of_getElem? (i := 0) rfl, List.mem_cons_self⟩) rfl rfl hl.1 dX12_after_22 (Nat.le_of_ble_eq_true rfl) (Nat.le_of_ble_eq_true rfl) (fun b1 H locs hw G => ?_)
      refine zEx13 hw ?_
      intro j_at_32 j_gone_33 j_steps_34 j_moved_35 j_firstCame_36 j_never_37 j_longRun_38 j_crowd_39 j_done_40 g_posts_41 g_shut_42 g_here_43 g_was_44
      refine zCu4 ?_
      intro hbs9 h_45 h_46 h_47
      clear hw
      subst hbs9
      have G : zS T A s.heap s [[zO11 mo m_all m_has i_size i_next i_where i_token i_number i_word i_wrong i_farCrossing m_read j_z0_1 j_crossings_2 j_inns_3 m_posts m_shut m_here j_steps_34 j_done_40 j_at_32 j_gone_33 m_was m_came m_seenAt m_rowWorth m_farBy m_used i_everywhere i_again0 j_d0_24 j_never_37 j_firstCame_36 j_longRun_38 j_moved_35 j_crowd_39 i_l0 i_fitMany i_fitLeast i_fitMost m_fitPost m_fitEnd m_keptPosts i_x0], [zAr T 0 m_all 3952 f_all], [zAr T 0 m_posts 7 g_posts_41], [zAr T 0 m_shut 7 g_shut_42], [zAr T 0 m_here 7 g_here_43], [zAr T 0 m_was 7 g_was_44]] _ _ := G
      refine lv_iload_n hx hb dX12_after_25 rfl (lv_at hl 3 rfl) ?_
      by_cases c_49o : w_.toInt < 0 ∨ 4 < w_.toInt
      · refine lv_tableOut (tgt := 85) hx hb dX12_after_26 c_49o (by decide) ?_
        refine lv_bipush (v := (-2)) hx hb dX12_after_85 (by decide) ?_
        exact z_back hQz_ (z_iret C hr hlocks G (Nat.le_of_ble_eq_true rfl) (Nat.le_of_ble_eq_true rfl) dX12_after_87 ⟨j_z0_1, j_crossings_2, j_inns_3, j_steps_34, j_done_40, j_at_32, j_gone_33, j_d0_24, j_never_37, j_firstCame_36, j_longRun_38, j_moved_35, j_crowd_39, g_posts_41, g_shut_42, g_here_43, g_was_44, rfl⟩)
      · have c_49r : w_.toInt = 0 ∨ w_.toInt = 1 ∨ w_.toInt = 2 ∨ w_.toInt = 3 ∨ w_.toInt = 4 := by omega
        rcases c_49r with c_49 | c_49 | c_49 | c_49 | c_49
        · refine lv_tableIn (tgt := 60) hx hb dX12_after_26 (by first | (rw [c_49]; decide) | omega) (by first | (rw [c_49]; decide) | omega) (by rw [c_49]; rfl) (by decide) ?_
          refine lv_aload_n hx hb dX12_after_60 rfl (lv_at hl 0 rfl) ?_
          refine z_get C G clX12 0 rfl 31 (by decide) m_fl_RX12_314 rfl dX12_after_61 ?_
          exact z_back hQz_ (z_iret C hr hlocks G (Nat.le_of_ble_eq_true rfl) (Nat.le_of_ble_eq_true rfl) dX12_after_64 ⟨j_z0_1, j_crossings_2, j_inns_3, j_steps_34, j_done_40, j_at_32, j_gone_33, j_d0_24, j_never_37, j_firstCame_36, j_longRun_38, j_moved_35, j_crowd_39, g_posts_41, g_shut_42, g_here_43, g_was_44, rfl⟩)
        · refine lv_tableIn (tgt := 65) hx hb dX12_after_26 (by first | (rw [c_49]; decide) | omega) (by first | (rw [c_49]; decide) | omega) (by rw [c_49]; rfl) (by decide) ?_
          refine lv_aload_n hx hb dX12_after_65 rfl (lv_at hl 0 rfl) ?_
          refine z_get C G clX12 0 rfl 32 (by decide) m_fl_RX12_323 rfl dX12_after_66 ?_
          exact z_back hQz_ (z_iret C hr hlocks G (Nat.le_of_ble_eq_true rfl) (Nat.le_of_ble_eq_true rfl) dX12_after_69 ⟨j_z0_1, j_crossings_2, j_inns_3, j_steps_34, j_done_40, j_at_32, j_gone_33, j_d0_24, j_never_37, j_firstCame_36, j_longRun_38, j_moved_35, j_crowd_39, g_posts_41, g_shut_42, g_here_43, g_was_44, rfl⟩)
        · refine lv_tableIn (tgt := 70) hx hb dX12_after_26 (by first | (rw [c_49]; decide) | omega) (by first | (rw [c_49]; decide) | omega) (by rw [c_49]; rfl) (by decide) ?_
          refine lv_aload_n hx hb dX12_after_70 rfl (lv_at hl 0 rfl) ?_
          refine z_get C G clX12 0 rfl 33 (by decide) m_fl_RX12_311 rfl dX12_after_71 ?_
          exact z_back hQz_ (z_iret C hr hlocks G (Nat.le_of_ble_eq_true rfl) (Nat.le_of_ble_eq_true rfl) dX12_after_74 ⟨j_z0_1, j_crossings_2, j_inns_3, j_steps_34, j_done_40, j_at_32, j_gone_33, j_d0_24, j_never_37, j_firstCame_36, j_longRun_38, j_moved_35, j_crowd_39, g_posts_41, g_shut_42, g_here_43, g_was_44, rfl⟩)
        · refine lv_tableIn (tgt := 75) hx hb dX12_after_26 (by first | (rw [c_49]; decide) | omega) (by first | (rw [c_49]; decide) | omega) (by rw [c_49]; rfl) (by decide) ?_
          refine lv_aload_n hx hb dX12_after_75 rfl (lv_at hl 0 rfl) ?_
          refine z_get C G clX12 0 rfl 34 (by decide) m_fl_RX12_308 rfl dX12_after_76 ?_
          exact z_back hQz_ (z_iret C hr hlocks G (Nat.le_of_ble_eq_true rfl) (Nat.le_of_ble_eq_true rfl) dX12_after_79 ⟨j_z0_1, j_crossings_2, j_inns_3, j_steps_34, j_done_40, j_at_32, j_gone_33, j_d0_24, j_never_37, j_firstCame_36, j_longRun_38, j_moved_35, j_crowd_39, g_posts_41, g_shut_42, g_here_43, g_was_44, rfl⟩)
        · refine lv_tableIn (tgt := 80) hx hb dX12_after_26 (by first | (rw [c_49]; decide) | omega) (by first | (rw [c_49]; decide) | omega) (by rw [c_49]; rfl) (by decide) ?_
          refine lv_aload_n hx hb dX12_after_80 rfl (lv_at hl 0 rfl) ?_
          refine z_Vi (bc := [[zO11 mo m_all m_has i_size i_next i_where i_token i_number i_word i_wrong i_farCrossing m_read j_z0_1 j_crossings_2 j_inns_3 m_posts m_shut m_here j_steps_34 j_done_40 j_at_32 j_gone_33 m_was m_came m_seenAt m_rowWorth m_farBy m_used i_everywhere i_again0 j_d0_24 j_never_37 j_firstCame_36 j_longRun_38 j_moved_35 j_crowd_39 i_l0 i_fitMany i_fitLeast i_fitMost m_fitPost m_fitEnd m_keptPosts i_x0], [zAr T 0 m_all 3952 f_all], [zAr T 0 m_posts 7 g_posts_41]]) (br := [[zAr T 0 m_shut 7 g_shut_42], [zAr T 0 m_here 7 g_here_43], [zAr T 0 m_was 7 g_was_44]]) (As := []) (rest := []) C G (c_m_elsewhere l T mo m_all m_has i_size i_next i_where i_token i_number i_word i_wrong i_farCrossing m_read j_z0_1 j_crossings_2 j_inns_3 m_posts m_shut m_here j_steps_34 j_done_40 j_at_32 j_gone_33 m_was m_came m_seenAt m_rowWorth m_farBy m_used i_everywhere i_again0 j_d0_24 j_never_37 j_firstCame_36 j_longRun_38 j_moved_35 j_crowd_39 i_l0 i_fitMany i_fitLeast i_fitMost m_fitPost m_fitEnd m_keptPosts i_x0 f_all g_posts_41 (by first | with_reducible assumption | with_reducible rfl | omega | assumption | rfl | decide) (by first | with_reducible assumption | with_reducible rfl | omega | assumption | rfl | decide)) (kV_RX12_357 C.2.2.2.2 (Nat.le_of_ble_eq_true rfl) (Nat.le_of_ble_eq_true rfl)) [0, 1, 2] [0, 0, 0] rfl rfl (ci := 11) (qc := (RX12, TX12, 43)) rfl rfl (List.mem_flatten.mpr ⟨_, List.mem_of_getElem? (i := 0) rfl, List.mem_cons_self⟩) rfl rfl hl.1 dX12_after_81 (Nat.le_of_ble_eq_true rfl) (Nat.le_of_ble_eq_true rfl) (fun r_50 b1 H locs hw G => ?_)
          obtain rfl := hw
          have G : zS T A s.heap s [[zAr T 0 m_shut 7 g_shut_42], [zAr T 0 m_here 7 g_here_43], [zAr T 0 m_was 7 g_was_44], [zO11 mo m_all m_has i_size i_next i_where i_token i_number i_word i_wrong i_farCrossing m_read j_z0_1 j_crossings_2 j_inns_3 m_posts m_shut m_here j_steps_34 j_done_40 j_at_32 j_gone_33 m_was m_came m_seenAt m_rowWorth m_farBy m_used i_everywhere i_again0 j_d0_24 j_never_37 j_firstCame_36 j_longRun_38 j_moved_35 j_crowd_39 i_l0 i_fitMany i_fitLeast i_fitMost m_fitPost m_fitEnd m_keptPosts i_x0], [zAr T 0 m_all 3952 f_all], [zAr T 0 m_posts 7 g_posts_41]] _ _ := G
          have G := G.sub (bs' := [[zO11 mo m_all m_has i_size i_next i_where i_token i_number i_word i_wrong i_farCrossing m_read j_z0_1 j_crossings_2 j_inns_3 m_posts m_shut m_here j_steps_34 j_done_40 j_at_32 j_gone_33 m_was m_came m_seenAt m_rowWorth m_farBy m_used i_everywhere i_again0 j_d0_24 j_never_37 j_firstCame_36 j_longRun_38 j_moved_35 j_crowd_39 i_l0 i_fitMany i_fitLeast i_fitMost m_fitPost m_fitEnd m_keptPosts i_x0], [zAr T 0 m_all 3952 f_all], [zAr T 0 m_posts 7 g_posts_41], [zAr T 0 m_shut 7 g_shut_42], [zAr T 0 m_here 7 g_here_43], [zAr T 0 m_was 7 g_was_44]]) [3, 4, 5, 0, 1, 2] rfl
          exact z_back hQz_ (z_iret C hr hlocks G (Nat.le_of_ble_eq_true rfl) (Nat.le_of_ble_eq_true rfl) dX12_after_84 ⟨j_z0_1, j_crossings_2, j_inns_3, j_steps_34, j_done_40, j_at_32, j_gone_33, j_d0_24, j_never_37, j_firstCame_36, j_longRun_38, j_moved_35, j_crowd_39, g_posts_41, g_shut_42, g_here_43, g_was_44, rfl⟩)
    · have h_31 : (k_.toInt < 0 ∨ (f_all 1).toInt ≤ k_.toInt) := h_31
      refine lv_if_ne (tgt := 19) hx hb dX12_after_13 (by decide) (fun q => absurd (by decide) q) (fun _ => ?_)
      refine lv_bipush (v := (-2)) hx hb dX12_after_16 (by decide) ?_
      have G := G.sub (bs' := [[zO11 mo m_all m_has i_size i_next i_where i_token i_number i_word i_wrong i_farCrossing m_read j_z0_1 j_crossings_2 j_inns_3 m_posts m_shut m_here j_steps_4 j_done_5 i_at i_gone m_was m_came m_seenAt m_rowWorth m_farBy m_used i_everywhere i_again0 j_d0_24 i_never i_firstCame i_longRun i_moved i_crowd i_l0 i_fitMany i_fitLeast i_fitMost m_fitPost m_fitEnd m_keptPosts i_x0], [zAr T 0 m_all 3952 f_all], [zAr T 0 m_posts 7 g_posts_6], [zAr T 0 m_shut 7 g_shut_7], [zAr T 0 m_here 7 g_here_8], [zAr T 0 m_was 7 f_was]]) [4, 5, 1, 2, 3, 0] rfl
      exact z_back hQz_ (z_iret C hr hlocks G (Nat.le_of_ble_eq_true rfl) (Nat.le_of_ble_eq_true rfl) dX12_after_18 ⟨j_z0_1, j_crossings_2, j_inns_3, j_steps_4, j_done_5, i_at, i_gone, j_d0_24, i_never, i_firstCame, i_longRun, i_moved, i_crowd, g_posts_6, g_shut_7, g_here_8, f_was, rfl⟩)
  · have h_23 : (l_.toInt < 0 ∨ (f_all 0).toInt ≤ l_.toInt) := h_23
    refine lv_if_eq (tgt := 16) hx hb dX12_after_5 (by decide) (fun _ => ?_) (fun q => absurd (by decide) q)
    refine lv_bipush (v := (-2)) hx hb dX12_after_16 (by decide) ?_
    have G := G.sub (bs' := [[zO11 mo m_all m_has i_size i_next i_where i_token i_number i_word i_wrong i_farCrossing m_read j_z0_1 j_crossings_2 j_inns_3 m_posts m_shut m_here j_steps_4 j_done_5 i_at i_gone m_was m_came m_seenAt m_rowWorth m_farBy m_used i_everywhere i_again0 i_d0 i_never i_firstCame i_longRun i_moved i_crowd i_l0 i_fitMany i_fitLeast i_fitMost m_fitPost m_fitEnd m_keptPosts i_x0], [zAr T 0 m_all 3952 f_all], [zAr T 0 m_posts 7 g_posts_6], [zAr T 0 m_shut 7 g_shut_7], [zAr T 0 m_here 7 g_here_8], [zAr T 0 m_was 7 f_was]]) [1, 2, 3, 4, 5, 0] rfl
    exact z_back hQz_ (z_iret C hr hlocks G (Nat.le_of_ble_eq_true rfl) (Nat.le_of_ble_eq_true rfl) dX12_after_18 ⟨j_z0_1, j_crossings_2, j_inns_3, j_steps_4, j_done_5, i_at, i_gone, i_d0, i_never, i_firstCame, i_longRun, i_moved, i_crowd, g_posts_6, g_shut_7, g_here_8, f_was, rfl⟩)
theorem m_fl_RX12_394 : Cond.fieldLink RX12 394 (TX12 42).1 (TX12 42).2.1 (TX12 42).2.2.1 ∈ zT := zmem1 zsub_6 37 rfl rfl
theorem m_ko_RX12_397 : Cond.constant RX12 397 1103515245 ∈ zT := zmem1 zsub_8 82 rfl rfl
theorem m_co_X12_below : Cond.code yX12_below cX12_below 2 (some .int) ∈ zT := zmem1 zsub_8 81 rfl rfl
theorem m_ml_RX12_398 : Cond.methodLink RX12 398 yX12_below ∈ zT := zmem1 zsub_8 78 rfl rfl
theorem m_im_X12_below : Cond.instanceMethod yX12_below ∈ zT := zmem1 zsub_8 80 rfl rfl
theorem m_se_X12_below : Cond.selects RX12 yX12_below yX12_below ∈ zT := zmem 112 rfl rfl
theorem m_co_X12_draws : Cond.code yX12_draws cX12_draws 4 none ∈ zT := zmem1 zsub_8 77 rfl rfl
theorem m_ml_RX12_401 : Cond.methodLink RX12 401 yX12_draws ∈ zT := zmem1 zsub_8 74 rfl rfl
theorem m_im_X12_draws : Cond.instanceMethod yX12_draws ∈ zT := zmem1 zsub_8 76 rfl rfl
theorem m_se_X12_draws : Cond.selects RX12 yX12_draws yX12_draws ∈ zT := zmem 111 rfl rfl
theorem m_fl_RX12_366 : Cond.fieldLink RX12 366 (TX12 36).1 (TX12 36).2.1 (TX12 36).2.2.1 ∈ zT := zmem1 zsub_6 31 rfl rfl
theorem m_fl_RX12_369 : Cond.fieldLink RX12 369 (TX12 37).1 (TX12 37).2.1 (TX12 37).2.2.1 ∈ zT := zmem1 zsub_6 32 rfl rfl
theorem m_fl_RX12_372 : Cond.fieldLink RX12 372 (TX12 38).1 (TX12 38).2.1 (TX12 38).2.2.1 ∈ zT := zmem1 zsub_6 33 rfl rfl
theorem m_co_X12_laysNoFits : Cond.code yX12_laysNoFits cX12_laysNoFits 2 none ∈ zT := zmem1 zsub_8 44 rfl rfl
theorem m_ml_RX12_375 : Cond.methodLink RX12 375 yX12_laysNoFits ∈ zT := zmem1 zsub_8 41 rfl rfl
theorem m_im_X12_laysNoFits : Cond.instanceMethod yX12_laysNoFits ∈ zT := zmem1 zsub_8 43 rfl rfl
theorem m_se_X12_laysNoFits : Cond.selects RX12 yX12_laysNoFits yX12_laysNoFits ∈ zT := zmem 106 rfl rfl
theorem m_co_X12_isSo : Cond.code yX12_isSo cX12_isSo 5 (some .boolean) ∈ zT := zmem1 zsub_8 48 rfl rfl
theorem m_ml_RX12_378 : Cond.methodLink RX12 378 yX12_isSo ∈ zT := zmem1 zsub_8 45 rfl rfl
theorem m_im_X12_isSo : Cond.instanceMethod yX12_isSo ∈ zT := zmem1 zsub_8 47 rfl rfl
theorem m_se_X12_isSo : Cond.selects RX12 yX12_isSo yX12_isSo ∈ zT := zmem 107 rfl rfl
theorem m_co_X12_laysEnds : Cond.code yX12_laysEnds cX12_laysEnds 3 none ∈ zT := zmem1 zsub_8 52 rfl rfl
theorem m_ml_RX12_381 : Cond.methodLink RX12 381 yX12_laysEnds ∈ zT := zmem1 zsub_8 49 rfl rfl
theorem m_im_X12_laysEnds : Cond.instanceMethod yX12_laysEnds ∈ zT := zmem1 zsub_8 51 rfl rfl
theorem m_se_X12_laysEnds : Cond.selects RX12 yX12_laysEnds yX12_laysEnds ∈ zT := zmem 108 rfl rfl
theorem m_ko_RX12_384 : Cond.constant RX12 384 99999999 ∈ zT := zmem1 zsub_8 57 rfl rfl
theorem m_co_X12_laysFits : Cond.code yX12_laysFits cX12_laysFits 7 (some .int) ∈ zT := zmem1 zsub_8 40 rfl rfl
theorem m_ml_RX12_385 : Cond.methodLink RX12 385 yX12_laysFits ∈ zT := zmem1 zsub_8 37 rfl rfl
theorem m_im_X12_laysFits : Cond.instanceMethod yX12_laysFits ∈ zT := zmem1 zsub_8 39 rfl rfl
theorem m_se_X12_laysFits : Cond.selects RX12 yX12_laysFits yX12_laysFits ∈ zT := zmem 105 rfl rfl
theorem m_co_X12_sureOf : Cond.code yX12_sureOf cX12_sureOf 3 (some .int) ∈ zT := zmem1 zsub_8 61 rfl rfl
theorem m_ml_RX12_391 : Cond.methodLink RX12 391 yX12_sureOf ∈ zT := zmem1 zsub_8 58 rfl rfl
theorem m_im_X12_sureOf : Cond.instanceMethod yX12_sureOf ∈ zT := zmem1 zsub_8 60 rfl rfl
theorem m_se_X12_sureOf : Cond.selects RX12 yX12_sureOf yX12_sureOf ∈ zT := zmem 110 rfl rfl
theorem m_co_X12_askOf : Cond.code yX12_askOf cX12_askOf 6 (some .int) ∈ zT := zmem1 zsub_8 56 rfl rfl
theorem m_ml_RX12_388 : Cond.methodLink RX12 388 yX12_askOf ∈ zT := zmem1 zsub_8 53 rfl rfl
theorem m_im_X12_askOf : Cond.instanceMethod yX12_askOf ∈ zT := zmem1 zsub_8 55 rfl rfl
theorem m_se_X12_askOf : Cond.selects RX12 yX12_askOf yX12_askOf ∈ zT := zmem 109 rfl rfl
theorem kV_RX12_398 {R : Room} {s : State} {args : Array Value} {d mc ms : Nat} (hts : ∀ w ∈ zT, w.before args s = true) (h1 : d + 1 ≤ R.frames) (h2 : 8 + (2 + 11) + 40 * d ≤ R.locals) : CallW R s args RX12 RX12 398 yX12_below cX12_below 2 (some .int) (zW yX12_below cX12_below 2 (some .int)) (zR d mc ms) mc ms 1 := z_cwV hts m_co_X12_below m_ml_RX12_398 m_im_X12_below m_se_X12_below m_ii_RX12 (by decide +kernel) h1 h2
theorem kV_RX12_401 {R : Room} {s : State} {args : Array Value} {d mc ms : Nat} (hts : ∀ w ∈ zT, w.before args s = true) (h1 : d + 1 ≤ R.frames) (h2 : 8 + (4 + 11) + 40 * d ≤ R.locals) : CallW R s args RX12 RX12 401 yX12_draws cX12_draws 4 none (zW yX12_draws cX12_draws 4 none) (zR d mc ms) mc ms 0 := z_cwV hts m_co_X12_draws m_ml_RX12_401 m_im_X12_draws m_se_X12_draws m_ii_RX12 (by decide +kernel) h1 h2
theorem kV_RX12_375 {R : Room} {s : State} {args : Array Value} {d mc ms : Nat} (hts : ∀ w ∈ zT, w.before args s = true) (h1 : d + 1 ≤ R.frames) (h2 : 8 + (2 + 11) + 40 * d ≤ R.locals) : CallW R s args RX12 RX12 375 yX12_laysNoFits cX12_laysNoFits 2 none (zW yX12_laysNoFits cX12_laysNoFits 2 none) (zR d mc ms) mc ms 0 := z_cwV hts m_co_X12_laysNoFits m_ml_RX12_375 m_im_X12_laysNoFits m_se_X12_laysNoFits m_ii_RX12 (by decide +kernel) h1 h2
theorem kV_RX12_378 {R : Room} {s : State} {args : Array Value} {d mc ms : Nat} (hts : ∀ w ∈ zT, w.before args s = true) (h1 : d + 1 ≤ R.frames) (h2 : 8 + (5 + 11) + 40 * d ≤ R.locals) : CallW R s args RX12 RX12 378 yX12_isSo cX12_isSo 5 (some .boolean) (zW yX12_isSo cX12_isSo 5 (some .boolean)) (zR d mc ms) mc ms 0 := z_cwV hts m_co_X12_isSo m_ml_RX12_378 m_im_X12_isSo m_se_X12_isSo m_ii_RX12 (by decide +kernel) h1 h2
theorem kV_RX12_381 {R : Room} {s : State} {args : Array Value} {d mc ms : Nat} (hts : ∀ w ∈ zT, w.before args s = true) (h1 : d + 1 ≤ R.frames) (h2 : 8 + (3 + 11) + 40 * d ≤ R.locals) : CallW R s args RX12 RX12 381 yX12_laysEnds cX12_laysEnds 3 none (zW yX12_laysEnds cX12_laysEnds 3 none) (zR d mc ms) mc ms 0 := z_cwV hts m_co_X12_laysEnds m_ml_RX12_381 m_im_X12_laysEnds m_se_X12_laysEnds m_ii_RX12 (by decide +kernel) h1 h2
theorem kV_RX12_385 {R : Room} {s : State} {args : Array Value} {d mc ms : Nat} (hts : ∀ w ∈ zT, w.before args s = true) (h1 : d + 1 ≤ R.frames) (h2 : 8 + (7 + 11) + 40 * d ≤ R.locals) : CallW R s args RX12 RX12 385 yX12_laysFits cX12_laysFits 7 (some .int) (zW yX12_laysFits cX12_laysFits 7 (some .int)) (zR d mc ms) mc ms 2 := z_cwV hts m_co_X12_laysFits m_ml_RX12_385 m_im_X12_laysFits m_se_X12_laysFits m_ii_RX12 (by decide +kernel) h1 h2
theorem kV_RX12_391 {R : Room} {s : State} {args : Array Value} {d mc ms : Nat} (hts : ∀ w ∈ zT, w.before args s = true) (h1 : d + 1 ≤ R.frames) (h2 : 8 + (3 + 11) + 40 * d ≤ R.locals) : CallW R s args RX12 RX12 391 yX12_sureOf cX12_sureOf 3 (some .int) (zW yX12_sureOf cX12_sureOf 3 (some .int)) (zR d mc ms) mc ms 1 := z_cwV hts m_co_X12_sureOf m_ml_RX12_391 m_im_X12_sureOf m_se_X12_sureOf m_ii_RX12 (by decide +kernel) h1 h2
theorem kV_RX12_388 {R : Room} {s : State} {args : Array Value} {d mc ms : Nat} (hts : ∀ w ∈ zT, w.before args s = true) (h1 : d + 1 ≤ R.frames) (h2 : 8 + (6 + 11) + 40 * d ≤ R.locals) : CallW R s args RX12 RX12 388 yX12_askOf cX12_askOf 6 (some .int) (zW yX12_askOf cX12_askOf 6 (some .int)) (zR d mc ms) mc ms 0 := z_cwV hts m_co_X12_askOf m_ml_RX12_388 m_im_X12_askOf m_se_X12_askOf m_ii_RX12 (by decide +kernel) h1 h2
theorem dX12_below_0 : decode cX12_below 0 = .ok (.aload_n 0, 1) := zo_42 (by decide +kernel)
theorem dX12_below_1 : decode cX12_below 1 = .ok (.aload_n 0, 1) := zo_42 (by decide +kernel)
theorem dX12_below_2 : decode cX12_below 2 = .ok (.getfield 394, 3) := zo_180 (by decide +kernel)
theorem dX12_below_5 : decode cX12_below 5 = .ok (.ldc_w 397, 3) := zo_19 (by decide +kernel)
theorem dX12_below_8 : decode cX12_below 8 = .ok (.imul, 1) := zo_104 (by decide +kernel)
theorem dX12_below_9 : decode cX12_below 9 = .ok (.sipush 12345, 3) := zo_17 (by decide +kernel)
theorem dX12_below_12 : decode cX12_below 12 = .ok (.iadd, 1) := zo_96 (by decide +kernel)
theorem dX12_below_13 : decode cX12_below 13 = .ok (.putfield 394, 3) := zo_181 (by decide +kernel)
theorem dX12_below_16 : decode cX12_below 16 = .ok (.aload_n 0, 1) := zo_42 (by decide +kernel)
theorem dX12_below_17 : decode cX12_below 17 = .ok (.getfield 394, 3) := zo_180 (by decide +kernel)
theorem dX12_below_20 : decode cX12_below 20 = .ok (.bipush 16, 2) := zo_16 (by decide +kernel)
theorem dX12_below_22 : decode cX12_below 22 = .ok (.iushr, 1) := zo_124 (by decide +kernel)
theorem dX12_below_23 : decode cX12_below 23 = .ok (.iload_n 1, 1) := zo_27 (by decide +kernel)
theorem dX12_below_24 : decode cX12_below 24 = .ok (.irem, 1) := zo_112 (by decide +kernel)
theorem dX12_below_25 : decode cX12_below 25 = .ok (.ireturn, 1) := zo_172 (by decide +kernel)
theorem dX12_draws_0 : decode cX12_draws 0 = .ok (.aload_n 0, 1) := zo_42 (by decide +kernel)
theorem dX12_draws_1 : decode cX12_draws 1 = .ok (.bipush 10, 2) := zo_16 (by decide +kernel)
theorem dX12_draws_3 : decode cX12_draws 3 = .ok (.invokevirtual 398, 3) := zo_182 (by decide +kernel)
theorem dX12_draws_6 : decode cX12_draws 6 = .ok (.istore_n 1, 1) := zo_60 (by decide +kernel)
theorem dX12_draws_7 : decode cX12_draws 7 = .ok (.aload_n 0, 1) := zo_42 (by decide +kernel)
theorem dX12_draws_8 : decode cX12_draws 8 = .ok (.getfield 169, 3) := zo_180 (by decide +kernel)
theorem dX12_draws_11 : decode cX12_draws 11 = .ok (.ifCond .ne 4, 3) := zo_154 (by decide +kernel)
theorem dX12_draws_14 : decode cX12_draws 14 = .ok (.return_, 1) := zo_177 (by decide +kernel)
theorem dX12_draws_15 : decode cX12_draws 15 = .ok (.iload_n 1, 1) := zo_27 (by decide +kernel)
theorem dX12_draws_16 : decode cX12_draws 16 = .ok (.iconst 4, 1) := zo_7 (by decide +kernel)
theorem dX12_draws_17 : decode cX12_draws 17 = .ok (.if_icmp .ge 7, 3) := zo_162 (by decide +kernel)
theorem dX12_draws_20 : decode cX12_draws 20 = .ok (.iconst 0, 1) := zo_3 (by decide +kernel)
theorem dX12_draws_21 : decode cX12_draws 21 = .ok (.goto 28, 3) := zo_167 (by decide +kernel)
theorem dX12_draws_24 : decode cX12_draws 24 = .ok (.iload_n 1, 1) := zo_27 (by decide +kernel)
theorem dX12_draws_25 : decode cX12_draws 25 = .ok (.bipush 6, 2) := zo_16 (by decide +kernel)
theorem dX12_draws_27 : decode cX12_draws 27 = .ok (.if_icmp .ge 9, 3) := zo_162 (by decide +kernel)
theorem dX12_draws_30 : decode cX12_draws 30 = .ok (.iload_n 1, 1) := zo_27 (by decide +kernel)
theorem dX12_draws_31 : decode cX12_draws 31 = .ok (.iconst 3, 1) := zo_6 (by decide +kernel)
theorem dX12_draws_32 : decode cX12_draws 32 = .ok (.isub, 1) := zo_100 (by decide +kernel)
theorem dX12_draws_33 : decode cX12_draws 33 = .ok (.goto 16, 3) := zo_167 (by decide +kernel)
theorem dX12_draws_36 : decode cX12_draws 36 = .ok (.iload_n 1, 1) := zo_27 (by decide +kernel)
theorem dX12_draws_37 : decode cX12_draws 37 = .ok (.bipush 8, 2) := zo_16 (by decide +kernel)
theorem dX12_draws_39 : decode cX12_draws 39 = .ok (.if_icmp .ge 7, 3) := zo_162 (by decide +kernel)
theorem dX12_draws_42 : decode cX12_draws 42 = .ok (.iconst 3, 1) := zo_6 (by decide +kernel)
theorem dX12_draws_43 : decode cX12_draws 43 = .ok (.goto 6, 3) := zo_167 (by decide +kernel)
theorem dX12_draws_46 : decode cX12_draws 46 = .ok (.iload_n 1, 1) := zo_27 (by decide +kernel)
theorem dX12_draws_47 : decode cX12_draws 47 = .ok (.iconst 4, 1) := zo_7 (by decide +kernel)
theorem dX12_draws_48 : decode cX12_draws 48 = .ok (.isub, 1) := zo_100 (by decide +kernel)
theorem dX12_draws_49 : decode cX12_draws 49 = .ok (.istore_n 2, 1) := zo_61 (by decide +kernel)
theorem dX12_draws_50 : decode cX12_draws 50 = .ok (.aload_n 0, 1) := zo_42 (by decide +kernel)
theorem dX12_draws_51 : decode cX12_draws 51 = .ok (.aload_n 0, 1) := zo_42 (by decide +kernel)
theorem dX12_draws_52 : decode cX12_draws 52 = .ok (.getfield 169, 3) := zo_180 (by decide +kernel)
theorem dX12_draws_55 : decode cX12_draws 55 = .ok (.invokevirtual 398, 3) := zo_182 (by decide +kernel)
theorem dX12_draws_58 : decode cX12_draws 58 = .ok (.istore_n 3, 1) := zo_62 (by decide +kernel)
theorem dX12_draws_59 : decode cX12_draws 59 = .ok (.aload_n 0, 1) := zo_42 (by decide +kernel)
theorem dX12_draws_60 : decode cX12_draws 60 = .ok (.iload_n 2, 1) := zo_28 (by decide +kernel)
theorem dX12_draws_61 : decode cX12_draws 61 = .ok (.iload_n 3, 1) := zo_29 (by decide +kernel)
theorem dX12_draws_62 : decode cX12_draws 62 = .ok (.iload_n 2, 1) := zo_28 (by decide +kernel)
theorem dX12_draws_63 : decode cX12_draws 63 = .ok (.iconst 3, 1) := zo_6 (by decide +kernel)
theorem dX12_draws_64 : decode cX12_draws 64 = .ok (.if_icmp .le 11, 3) := zo_164 (by decide +kernel)
theorem dX12_draws_67 : decode cX12_draws 67 = .ok (.aload_n 0, 1) := zo_42 (by decide +kernel)
theorem dX12_draws_68 : decode cX12_draws 68 = .ok (.iconst 4, 1) := zo_7 (by decide +kernel)
theorem dX12_draws_69 : decode cX12_draws 69 = .ok (.invokevirtual 398, 3) := zo_182 (by decide +kernel)
theorem dX12_draws_72 : decode cX12_draws 72 = .ok (.goto 4, 3) := zo_167 (by decide +kernel)
theorem dX12_draws_75 : decode cX12_draws 75 = .ok (.iconst (-1), 1) := zo_2 (by decide +kernel)
theorem dX12_draws_76 : decode cX12_draws 76 = .ok (.invokevirtual 345, 3) := zo_182 (by decide +kernel)
theorem dX12_draws_79 : decode cX12_draws 79 = .ok (.pop, 1) := zo_87 (by decide +kernel)
theorem dX12_draws_80 : decode cX12_draws 80 = .ok (.return_, 1) := zo_177 (by decide +kernel)
theorem dX12_drawn_0 : decode cX12_drawn 0 = .ok (.aload_n 0, 1) := zo_42 (by decide +kernel)
theorem dX12_drawn_1 : decode cX12_drawn 1 = .ok (.iload_n 1, 1) := zo_27 (by decide +kernel)
theorem dX12_drawn_2 : decode cX12_drawn 2 = .ok (.invokevirtual 184, 3) := zo_182 (by decide +kernel)
theorem dX12_drawn_5 : decode cX12_drawn 5 = .ok (.ifCond .eq 13, 3) := zo_153 (by decide +kernel)
theorem dX12_drawn_8 : decode cX12_drawn 8 = .ok (.iload_n 3, 1) := zo_29 (by decide +kernel)
theorem dX12_drawn_9 : decode cX12_drawn 9 = .ok (.iconst 0, 1) := zo_3 (by decide +kernel)
theorem dX12_drawn_10 : decode cX12_drawn 10 = .ok (.bipush 60, 2) := zo_16 (by decide +kernel)
theorem dX12_drawn_12 : decode cX12_drawn 12 = .ok (.invokestatic 111, 3) := zo_184 (by decide +kernel)
theorem dX12_drawn_15 : decode cX12_drawn 15 = .ok (.ifCond .ne 6, 3) := zo_154 (by decide +kernel)
theorem dX12_drawn_18 : decode cX12_drawn 18 = .ok (.bipush (-2), 2) := zo_16 (by decide +kernel)
theorem dX12_drawn_20 : decode cX12_drawn 20 = .ok (.ireturn, 1) := zo_172 (by decide +kernel)
theorem dX12_drawn_21 : decode cX12_drawn 21 = .ok (.aload_n 0, 1) := zo_42 (by decide +kernel)
theorem dX12_drawn_22 : decode cX12_drawn 22 = .ok (.iload_n 2, 1) := zo_28 (by decide +kernel)
theorem dX12_drawn_23 : decode cX12_drawn 23 = .ok (.putfield 394, 3) := zo_181 (by decide +kernel)
theorem dX12_drawn_26 : decode cX12_drawn 26 = .ok (.aload_n 0, 1) := zo_42 (by decide +kernel)
theorem dX12_drawn_27 : decode cX12_drawn 27 = .ok (.invokevirtual 342, 3) := zo_182 (by decide +kernel)
theorem dX12_drawn_30 : decode cX12_drawn 30 = .ok (.iconst 0, 1) := zo_3 (by decide +kernel)
theorem dX12_drawn_31 : decode cX12_drawn 31 = .ok (.istore 5, 2) := zo_54 (by decide +kernel)
theorem dX12_drawn_33 : decode cX12_drawn 33 = .ok (.iload 5, 2) := zo_21 (by decide +kernel)
theorem dX12_drawn_35 : decode cX12_drawn 35 = .ok (.iload_n 3, 1) := zo_29 (by decide +kernel)
theorem dX12_drawn_36 : decode cX12_drawn 36 = .ok (.if_icmp .ge 13, 3) := zo_162 (by decide +kernel)
theorem dX12_drawn_39 : decode cX12_drawn 39 = .ok (.aload_n 0, 1) := zo_42 (by decide +kernel)
theorem dX12_drawn_40 : decode cX12_drawn 40 = .ok (.invokevirtual 401, 3) := zo_182 (by decide +kernel)
theorem dX12_drawn_43 : decode cX12_drawn 43 = .ok (.iinc 5 1, 3) := zo_132 (by decide +kernel)
theorem dX12_drawn_46 : decode cX12_drawn 46 = .ok (.goto (-13), 3) := zo_167 (by decide +kernel)
theorem dX12_drawn_49 : decode cX12_drawn 49 = .ok (.aload_n 0, 1) := zo_42 (by decide +kernel)
theorem dX12_drawn_50 : decode cX12_drawn 50 = .ok (.iload 4, 2) := zo_21 (by decide +kernel)
theorem dX12_drawn_52 : decode cX12_drawn 52 = .ok (.invokevirtual 354, 3) := zo_182 (by decide +kernel)
theorem dX12_drawn_55 : decode cX12_drawn 55 = .ok (.ireturn, 1) := zo_172 (by decide +kernel)
theorem dX12_count_0 : decode cX12_count 0 = .ok (.iload_n 1, 1) := zo_27 (by decide +kernel)
theorem dX12_count_1 : decode cX12_count 1 = .ok (.iconst 0, 1) := zo_3 (by decide +kernel)
theorem dX12_count_2 : decode cX12_count 2 = .ok (.iconst 2, 1) := zo_5 (by decide +kernel)
theorem dX12_count_3 : decode cX12_count 3 = .ok (.invokestatic 111, 3) := zo_184 (by decide +kernel)
theorem dX12_count_6 : decode cX12_count 6 = .ok (.ifCond .eq 12, 3) := zo_153 (by decide +kernel)
theorem dX12_count_9 : decode cX12_count 9 = .ok (.aload_n 0, 1) := zo_42 (by decide +kernel)
theorem dX12_count_10 : decode cX12_count 10 = .ok (.getfield 7, 3) := zo_180 (by decide +kernel)
theorem dX12_count_13 : decode cX12_count 13 = .ok (.iload_n 1, 1) := zo_27 (by decide +kernel)
theorem dX12_count_14 : decode cX12_count 14 = .ok (.iaload, 1) := zo_46 (by decide +kernel)
theorem dX12_count_15 : decode cX12_count 15 = .ok (.goto 5, 3) := zo_167 (by decide +kernel)
theorem dX12_count_18 : decode cX12_count 18 = .ok (.bipush (-2), 2) := zo_16 (by decide +kernel)
theorem dX12_count_20 : decode cX12_count 20 = .ok (.ireturn, 1) := zo_172 (by decide +kernel)
theorem dX12_fault_0 : decode cX12_fault 0 = .ok (.iload_n 1, 1) := zo_27 (by decide +kernel)
theorem dX12_fault_1 : decode cX12_fault 1 = .ok (.ifCond .ne 12, 3) := zo_154 (by decide +kernel)
theorem dX12_fault_4 : decode cX12_fault 4 = .ok (.aload_n 0, 1) := zo_42 (by decide +kernel)
theorem dX12_fault_5 : decode cX12_fault 5 = .ok (.getfield 7, 3) := zo_180 (by decide +kernel)
theorem dX12_fault_8 : decode cX12_fault 8 = .ok (.iconst 5, 1) := zo_8 (by decide +kernel)
theorem dX12_fault_9 : decode cX12_fault 9 = .ok (.iaload, 1) := zo_46 (by decide +kernel)
theorem dX12_fault_10 : decode cX12_fault 10 = .ok (.goto 19, 3) := zo_167 (by decide +kernel)
theorem dX12_fault_13 : decode cX12_fault 13 = .ok (.iload_n 1, 1) := zo_27 (by decide +kernel)
theorem dX12_fault_14 : decode cX12_fault 14 = .ok (.iconst 1, 1) := zo_4 (by decide +kernel)
theorem dX12_fault_15 : decode cX12_fault 15 = .ok (.if_icmp .ne 13, 3) := zo_160 (by decide +kernel)
theorem dX12_fault_18 : decode cX12_fault 18 = .ok (.aload_n 0, 1) := zo_42 (by decide +kernel)
theorem dX12_fault_19 : decode cX12_fault 19 = .ok (.getfield 7, 3) := zo_180 (by decide +kernel)
theorem dX12_fault_22 : decode cX12_fault 22 = .ok (.bipush 6, 2) := zo_16 (by decide +kernel)
theorem dX12_fault_24 : decode cX12_fault 24 = .ok (.iaload, 1) := zo_46 (by decide +kernel)
theorem dX12_fault_25 : decode cX12_fault 25 = .ok (.goto 4, 3) := zo_167 (by decide +kernel)
theorem dX12_fault_28 : decode cX12_fault 28 = .ok (.iconst (-1), 1) := zo_2 (by decide +kernel)
theorem dX12_fault_29 : decode cX12_fault 29 = .ok (.ireturn, 1) := zo_172 (by decide +kernel)
theorem dX12_isSo_0 : decode cX12_isSo 0 = .ok (.aload_n 0, 1) := zo_42 (by decide +kernel)
theorem dX12_isSo_1 : decode cX12_isSo 1 = .ok (.iconst 0, 1) := zo_3 (by decide +kernel)
theorem dX12_isSo_2 : decode cX12_isSo 2 = .ok (.putfield 196, 3) := zo_181 (by decide +kernel)
theorem dX12_isSo_5 : decode cX12_isSo 5 = .ok (.iconst 0, 1) := zo_3 (by decide +kernel)
theorem dX12_isSo_6 : decode cX12_isSo 6 = .ok (.istore_n 1, 1) := zo_60 (by decide +kernel)
theorem dX12_isSo_7 : decode cX12_isSo 7 = .ok (.iload_n 1, 1) := zo_27 (by decide +kernel)
theorem dX12_isSo_8 : decode cX12_isSo 8 = .ok (.aload_n 0, 1) := zo_42 (by decide +kernel)
theorem dX12_isSo_9 : decode cX12_isSo 9 = .ok (.getfield 7, 3) := zo_180 (by decide +kernel)
theorem dX12_isSo_12 : decode cX12_isSo 12 = .ok (.aload_n 0, 1) := zo_42 (by decide +kernel)
theorem dX12_isSo_13 : decode cX12_isSo 13 = .ok (.getfield 360, 3) := zo_180 (by decide +kernel)
theorem dX12_isSo_16 : decode cX12_isSo 16 = .ok (.iaload, 1) := zo_46 (by decide +kernel)
theorem dX12_isSo_17 : decode cX12_isSo 17 = .ok (.if_icmp .ge 94, 3) := zo_162 (by decide +kernel)
theorem dX12_isSo_20 : decode cX12_isSo 20 = .ok (.aload_n 0, 1) := zo_42 (by decide +kernel)
theorem dX12_isSo_21 : decode cX12_isSo 21 = .ok (.getfield 7, 3) := zo_180 (by decide +kernel)
theorem dX12_isSo_24 : decode cX12_isSo 24 = .ok (.aload_n 0, 1) := zo_42 (by decide +kernel)
theorem dX12_isSo_25 : decode cX12_isSo 25 = .ok (.getfield 360, 3) := zo_180 (by decide +kernel)
theorem dX12_isSo_28 : decode cX12_isSo 28 = .ok (.iconst 1, 1) := zo_4 (by decide +kernel)
theorem dX12_isSo_29 : decode cX12_isSo 29 = .ok (.iadd, 1) := zo_96 (by decide +kernel)
theorem dX12_isSo_30 : decode cX12_isSo 30 = .ok (.iconst 2, 1) := zo_5 (by decide +kernel)
theorem dX12_isSo_31 : decode cX12_isSo 31 = .ok (.iload_n 1, 1) := zo_27 (by decide +kernel)
theorem dX12_isSo_32 : decode cX12_isSo 32 = .ok (.imul, 1) := zo_104 (by decide +kernel)
theorem dX12_isSo_33 : decode cX12_isSo 33 = .ok (.iadd, 1) := zo_96 (by decide +kernel)
theorem dX12_isSo_34 : decode cX12_isSo 34 = .ok (.iaload, 1) := zo_46 (by decide +kernel)
theorem dX12_isSo_35 : decode cX12_isSo 35 = .ok (.istore_n 2, 1) := zo_61 (by decide +kernel)
theorem dX12_isSo_36 : decode cX12_isSo 36 = .ok (.aload_n 0, 1) := zo_42 (by decide +kernel)
theorem dX12_isSo_37 : decode cX12_isSo 37 = .ok (.getfield 7, 3) := zo_180 (by decide +kernel)
theorem dX12_isSo_40 : decode cX12_isSo 40 = .ok (.aload_n 0, 1) := zo_42 (by decide +kernel)
theorem dX12_isSo_41 : decode cX12_isSo 41 = .ok (.getfield 360, 3) := zo_180 (by decide +kernel)
theorem dX12_isSo_44 : decode cX12_isSo 44 = .ok (.iconst 2, 1) := zo_5 (by decide +kernel)
theorem dX12_isSo_45 : decode cX12_isSo 45 = .ok (.iadd, 1) := zo_96 (by decide +kernel)
theorem dX12_isSo_46 : decode cX12_isSo 46 = .ok (.iconst 2, 1) := zo_5 (by decide +kernel)
theorem dX12_isSo_47 : decode cX12_isSo 47 = .ok (.iload_n 1, 1) := zo_27 (by decide +kernel)
theorem dX12_isSo_48 : decode cX12_isSo 48 = .ok (.imul, 1) := zo_104 (by decide +kernel)
theorem dX12_isSo_49 : decode cX12_isSo 49 = .ok (.iadd, 1) := zo_96 (by decide +kernel)
theorem dX12_isSo_50 : decode cX12_isSo 50 = .ok (.iaload, 1) := zo_46 (by decide +kernel)
theorem dX12_isSo_51 : decode cX12_isSo 51 = .ok (.istore_n 3, 1) := zo_62 (by decide +kernel)
theorem dX12_isSo_52 : decode cX12_isSo 52 = .ok (.aload_n 0, 1) := zo_42 (by decide +kernel)
theorem dX12_isSo_53 : decode cX12_isSo 53 = .ok (.iload_n 2, 1) := zo_28 (by decide +kernel)
theorem dX12_isSo_54 : decode cX12_isSo 54 = .ok (.invokevirtual 187, 3) := zo_182 (by decide +kernel)
theorem dX12_isSo_57 : decode cX12_isSo 57 = .ok (.ifCond .ne 5, 3) := zo_154 (by decide +kernel)
theorem dX12_isSo_60 : decode cX12_isSo 60 = .ok (.iconst 0, 1) := zo_3 (by decide +kernel)
theorem dX12_isSo_61 : decode cX12_isSo 61 = .ok (.ireturn, 1) := zo_172 (by decide +kernel)
theorem dX12_isSo_62 : decode cX12_isSo 62 = .ok (.aload_n 0, 1) := zo_42 (by decide +kernel)
theorem dX12_isSo_63 : decode cX12_isSo 63 = .ok (.iload_n 2, 1) := zo_28 (by decide +kernel)
theorem dX12_isSo_64 : decode cX12_isSo 64 = .ok (.invokevirtual 217, 3) := zo_182 (by decide +kernel)
theorem dX12_isSo_67 : decode cX12_isSo 67 = .ok (.istore 4, 2) := zo_54 (by decide +kernel)
theorem dX12_isSo_69 : decode cX12_isSo 69 = .ok (.iload 4, 2) := zo_21 (by decide +kernel)
theorem dX12_isSo_71 : decode cX12_isSo 71 = .ok (.ifCond .eq 14, 3) := zo_153 (by decide +kernel)
theorem dX12_isSo_74 : decode cX12_isSo 74 = .ok (.aload_n 0, 1) := zo_42 (by decide +kernel)
theorem dX12_isSo_75 : decode cX12_isSo 75 = .ok (.getfield 202, 3) := zo_180 (by decide +kernel)
theorem dX12_isSo_78 : decode cX12_isSo 78 = .ok (.iload_n 3, 1) := zo_29 (by decide +kernel)
theorem dX12_isSo_79 : decode cX12_isSo 79 = .ok (.if_icmp .eq 13, 3) := zo_159 (by decide +kernel)
theorem dX12_isSo_82 : decode cX12_isSo 82 = .ok (.goto 8, 3) := zo_167 (by decide +kernel)
theorem dX12_isSo_85 : decode cX12_isSo 85 = .ok (.iload_n 3, 1) := zo_29 (by decide +kernel)
theorem dX12_isSo_86 : decode cX12_isSo 86 = .ok (.iconst (-1), 1) := zo_2 (by decide +kernel)
theorem dX12_isSo_87 : decode cX12_isSo 87 = .ok (.if_icmp .eq 5, 3) := zo_159 (by decide +kernel)
theorem dX12_isSo_90 : decode cX12_isSo 90 = .ok (.iconst 0, 1) := zo_3 (by decide +kernel)
theorem dX12_isSo_91 : decode cX12_isSo 91 = .ok (.ireturn, 1) := zo_172 (by decide +kernel)
theorem dX12_isSo_92 : decode cX12_isSo 92 = .ok (.aload_n 0, 1) := zo_42 (by decide +kernel)
theorem dX12_isSo_93 : decode cX12_isSo 93 = .ok (.dup, 1) := zo_89 (by decide +kernel)
theorem dX12_isSo_94 : decode cX12_isSo 94 = .ok (.getfield 196, 3) := zo_180 (by decide +kernel)
theorem dX12_isSo_97 : decode cX12_isSo 97 = .ok (.aload_n 0, 1) := zo_42 (by decide +kernel)
theorem dX12_isSo_98 : decode cX12_isSo 98 = .ok (.getfield 208, 3) := zo_180 (by decide +kernel)
theorem dX12_isSo_101 : decode cX12_isSo 101 = .ok (.iadd, 1) := zo_96 (by decide +kernel)
theorem dX12_isSo_102 : decode cX12_isSo 102 = .ok (.putfield 196, 3) := zo_181 (by decide +kernel)
theorem dX12_isSo_105 : decode cX12_isSo 105 = .ok (.iinc 1 1, 3) := zo_132 (by decide +kernel)
theorem dX12_isSo_108 : decode cX12_isSo 108 = .ok (.goto (-101), 3) := zo_167 (by decide +kernel)
theorem dX12_isSo_111 : decode cX12_isSo 111 = .ok (.iconst 1, 1) := zo_4 (by decide +kernel)
theorem dX12_isSo_112 : decode cX12_isSo 112 = .ok (.ireturn, 1) := zo_172 (by decide +kernel)
theorem dX12_laysNoFits_0 : decode cX12_laysNoFits 0 = .ok (.aload_n 0, 1) := zo_42 (by decide +kernel)
theorem dX12_laysNoFits_1 : decode cX12_laysNoFits 1 = .ok (.iconst 0, 1) := zo_3 (by decide +kernel)
theorem dX12_laysNoFits_2 : decode cX12_laysNoFits 2 = .ok (.putfield 366, 3) := zo_181 (by decide +kernel)
theorem dX12_laysNoFits_5 : decode cX12_laysNoFits 5 = .ok (.aload_n 0, 1) := zo_42 (by decide +kernel)
theorem dX12_laysNoFits_6 : decode cX12_laysNoFits 6 = .ok (.iconst (-1), 1) := zo_2 (by decide +kernel)
theorem dX12_laysNoFits_7 : decode cX12_laysNoFits 7 = .ok (.putfield 369, 3) := zo_181 (by decide +kernel)
theorem dX12_laysNoFits_10 : decode cX12_laysNoFits 10 = .ok (.aload_n 0, 1) := zo_42 (by decide +kernel)
theorem dX12_laysNoFits_11 : decode cX12_laysNoFits 11 = .ok (.iconst (-1), 1) := zo_2 (by decide +kernel)
theorem dX12_laysNoFits_12 : decode cX12_laysNoFits 12 = .ok (.putfield 372, 3) := zo_181 (by decide +kernel)
theorem dX12_laysNoFits_15 : decode cX12_laysNoFits 15 = .ok (.iconst 0, 1) := zo_3 (by decide +kernel)
theorem dX12_laysNoFits_16 : decode cX12_laysNoFits 16 = .ok (.istore_n 1, 1) := zo_60 (by decide +kernel)
theorem dX12_laysNoFits_17 : decode cX12_laysNoFits 17 = .ok (.iload_n 1, 1) := zo_27 (by decide +kernel)
theorem dX12_laysNoFits_18 : decode cX12_laysNoFits 18 = .ok (.bipush 28, 2) := zo_16 (by decide +kernel)
theorem dX12_laysNoFits_20 : decode cX12_laysNoFits 20 = .ok (.if_icmp .ge 16, 3) := zo_162 (by decide +kernel)
theorem dX12_laysNoFits_23 : decode cX12_laysNoFits 23 = .ok (.aload_n 0, 1) := zo_42 (by decide +kernel)
theorem dX12_laysNoFits_24 : decode cX12_laysNoFits 24 = .ok (.getfield 47, 3) := zo_180 (by decide +kernel)
theorem dX12_laysNoFits_27 : decode cX12_laysNoFits 27 = .ok (.iload_n 1, 1) := zo_27 (by decide +kernel)
theorem dX12_laysNoFits_28 : decode cX12_laysNoFits 28 = .ok (.iconst 0, 1) := zo_3 (by decide +kernel)
theorem dX12_laysNoFits_29 : decode cX12_laysNoFits 29 = .ok (.iastore, 1) := zo_79 (by decide +kernel)
theorem dX12_laysNoFits_30 : decode cX12_laysNoFits 30 = .ok (.iinc 1 1, 3) := zo_132 (by decide +kernel)
theorem dX12_laysNoFits_33 : decode cX12_laysNoFits 33 = .ok (.goto (-16), 3) := zo_167 (by decide +kernel)
theorem dX12_laysNoFits_36 : decode cX12_laysNoFits 36 = .ok (.iconst 0, 1) := zo_3 (by decide +kernel)
theorem dX12_laysNoFits_37 : decode cX12_laysNoFits 37 = .ok (.istore_n 1, 1) := zo_60 (by decide +kernel)
theorem dX12_laysNoFits_38 : decode cX12_laysNoFits 38 = .ok (.iload_n 1, 1) := zo_27 (by decide +kernel)
theorem dX12_laysNoFits_39 : decode cX12_laysNoFits 39 = .ok (.bipush 49, 2) := zo_16 (by decide +kernel)
theorem dX12_laysNoFits_41 : decode cX12_laysNoFits 41 = .ok (.if_icmp .ge 16, 3) := zo_162 (by decide +kernel)
theorem dX12_laysNoFits_44 : decode cX12_laysNoFits 44 = .ok (.aload_n 0, 1) := zo_42 (by decide +kernel)
theorem dX12_laysNoFits_45 : decode cX12_laysNoFits 45 = .ok (.getfield 50, 3) := zo_180 (by decide +kernel)
theorem dX12_laysNoFits_48 : decode cX12_laysNoFits 48 = .ok (.iload_n 1, 1) := zo_27 (by decide +kernel)
theorem dX12_laysNoFits_49 : decode cX12_laysNoFits 49 = .ok (.iconst 0, 1) := zo_3 (by decide +kernel)
theorem dX12_laysNoFits_50 : decode cX12_laysNoFits 50 = .ok (.iastore, 1) := zo_79 (by decide +kernel)
theorem dX12_laysNoFits_51 : decode cX12_laysNoFits 51 = .ok (.iinc 1 1, 3) := zo_132 (by decide +kernel)
theorem dX12_laysNoFits_54 : decode cX12_laysNoFits 54 = .ok (.goto (-16), 3) := zo_167 (by decide +kernel)
theorem dX12_laysNoFits_57 : decode cX12_laysNoFits 57 = .ok (.return_, 1) := zo_177 (by decide +kernel)
theorem dX12_laysEnds_0 : decode cX12_laysEnds 0 = .ok (.iconst 0, 1) := zo_3 (by decide +kernel)
theorem dX12_laysEnds_1 : decode cX12_laysEnds 1 = .ok (.istore_n 1, 1) := zo_60 (by decide +kernel)
theorem dX12_laysEnds_2 : decode cX12_laysEnds 2 = .ok (.iload_n 1, 1) := zo_27 (by decide +kernel)
theorem dX12_laysEnds_3 : decode cX12_laysEnds 3 = .ok (.aload_n 0, 1) := zo_42 (by decide +kernel)
theorem dX12_laysEnds_4 : decode cX12_laysEnds 4 = .ok (.getfield 169, 3) := zo_180 (by decide +kernel)
theorem dX12_laysEnds_7 : decode cX12_laysEnds 7 = .ok (.if_icmp .ge 21, 3) := zo_162 (by decide +kernel)
theorem dX12_laysEnds_10 : decode cX12_laysEnds 10 = .ok (.aload_n 0, 1) := zo_42 (by decide +kernel)
theorem dX12_laysEnds_11 : decode cX12_laysEnds 11 = .ok (.getfield 53, 3) := zo_180 (by decide +kernel)
theorem dX12_laysEnds_14 : decode cX12_laysEnds 14 = .ok (.iload_n 1, 1) := zo_27 (by decide +kernel)
theorem dX12_laysEnds_15 : decode cX12_laysEnds 15 = .ok (.aload_n 0, 1) := zo_42 (by decide +kernel)
theorem dX12_laysEnds_16 : decode cX12_laysEnds 16 = .ok (.getfield 20, 3) := zo_180 (by decide +kernel)
theorem dX12_laysEnds_19 : decode cX12_laysEnds 19 = .ok (.iload_n 1, 1) := zo_27 (by decide +kernel)
theorem dX12_laysEnds_20 : decode cX12_laysEnds 20 = .ok (.iaload, 1) := zo_46 (by decide +kernel)
theorem dX12_laysEnds_21 : decode cX12_laysEnds 21 = .ok (.iastore, 1) := zo_79 (by decide +kernel)
theorem dX12_laysEnds_22 : decode cX12_laysEnds 22 = .ok (.iinc 1 1, 3) := zo_132 (by decide +kernel)
theorem dX12_laysEnds_25 : decode cX12_laysEnds 25 = .ok (.goto (-23), 3) := zo_167 (by decide +kernel)
theorem dX12_laysEnds_28 : decode cX12_laysEnds 28 = .ok (.iconst 0, 1) := zo_3 (by decide +kernel)
theorem dX12_laysEnds_29 : decode cX12_laysEnds 29 = .ok (.istore_n 1, 1) := zo_60 (by decide +kernel)
theorem dX12_laysEnds_30 : decode cX12_laysEnds 30 = .ok (.iload_n 1, 1) := zo_27 (by decide +kernel)
theorem dX12_laysEnds_31 : decode cX12_laysEnds 31 = .ok (.aload_n 0, 1) := zo_42 (by decide +kernel)
theorem dX12_laysEnds_32 : decode cX12_laysEnds 32 = .ok (.getfield 169, 3) := zo_180 (by decide +kernel)
theorem dX12_laysEnds_35 : decode cX12_laysEnds 35 = .ok (.if_icmp .ge 72, 3) := zo_162 (by decide +kernel)
theorem dX12_laysEnds_38 : decode cX12_laysEnds 38 = .ok (.aload_n 0, 1) := zo_42 (by decide +kernel)
theorem dX12_laysEnds_39 : decode cX12_laysEnds 39 = .ok (.iload_n 1, 1) := zo_27 (by decide +kernel)
theorem dX12_laysEnds_40 : decode cX12_laysEnds 40 = .ok (.invokevirtual 178, 3) := zo_182 (by decide +kernel)
theorem dX12_laysEnds_43 : decode cX12_laysEnds 43 = .ok (.ifCond .eq 6, 3) := zo_153 (by decide +kernel)
theorem dX12_laysEnds_46 : decode cX12_laysEnds 46 = .ok (.goto 55, 3) := zo_167 (by decide +kernel)
theorem dX12_laysEnds_49 : decode cX12_laysEnds 49 = .ok (.aload_n 0, 1) := zo_42 (by decide +kernel)
theorem dX12_laysEnds_50 : decode cX12_laysEnds 50 = .ok (.iload_n 1, 1) := zo_27 (by decide +kernel)
theorem dX12_laysEnds_51 : decode cX12_laysEnds 51 = .ok (.invokevirtual 217, 3) := zo_182 (by decide +kernel)
theorem dX12_laysEnds_54 : decode cX12_laysEnds 54 = .ok (.pop, 1) := zo_87 (by decide +kernel)
theorem dX12_laysEnds_55 : decode cX12_laysEnds 55 = .ok (.aload_n 0, 1) := zo_42 (by decide +kernel)
theorem dX12_laysEnds_56 : decode cX12_laysEnds 56 = .ok (.getfield 50, 3) := zo_180 (by decide +kernel)
theorem dX12_laysEnds_59 : decode cX12_laysEnds 59 = .ok (.bipush 7, 2) := zo_16 (by decide +kernel)
theorem dX12_laysEnds_61 : decode cX12_laysEnds 61 = .ok (.iload_n 1, 1) := zo_27 (by decide +kernel)
theorem dX12_laysEnds_62 : decode cX12_laysEnds 62 = .ok (.imul, 1) := zo_104 (by decide +kernel)
theorem dX12_laysEnds_63 : decode cX12_laysEnds 63 = .ok (.aload_n 0, 1) := zo_42 (by decide +kernel)
theorem dX12_laysEnds_64 : decode cX12_laysEnds 64 = .ok (.getfield 202, 3) := zo_180 (by decide +kernel)
theorem dX12_laysEnds_67 : decode cX12_laysEnds 67 = .ok (.iadd, 1) := zo_96 (by decide +kernel)
theorem dX12_laysEnds_68 : decode cX12_laysEnds 68 = .ok (.dup2, 1) := zo_92 (by decide +kernel)
theorem dX12_laysEnds_69 : decode cX12_laysEnds 69 = .ok (.iaload, 1) := zo_46 (by decide +kernel)
theorem dX12_laysEnds_70 : decode cX12_laysEnds 70 = .ok (.iconst 1, 1) := zo_4 (by decide +kernel)
theorem dX12_laysEnds_71 : decode cX12_laysEnds 71 = .ok (.iadd, 1) := zo_96 (by decide +kernel)
theorem dX12_laysEnds_72 : decode cX12_laysEnds 72 = .ok (.iastore, 1) := zo_79 (by decide +kernel)
theorem dX12_laysEnds_73 : decode cX12_laysEnds 73 = .ok (.iconst 0, 1) := zo_3 (by decide +kernel)
theorem dX12_laysEnds_74 : decode cX12_laysEnds 74 = .ok (.istore_n 2, 1) := zo_61 (by decide +kernel)
theorem dX12_laysEnds_75 : decode cX12_laysEnds 75 = .ok (.iload_n 2, 1) := zo_28 (by decide +kernel)
theorem dX12_laysEnds_76 : decode cX12_laysEnds 76 = .ok (.aload_n 0, 1) := zo_42 (by decide +kernel)
theorem dX12_laysEnds_77 : decode cX12_laysEnds 77 = .ok (.getfield 169, 3) := zo_180 (by decide +kernel)
theorem dX12_laysEnds_80 : decode cX12_laysEnds 80 = .ok (.if_icmp .ge 21, 3) := zo_162 (by decide +kernel)
theorem dX12_laysEnds_83 : decode cX12_laysEnds 83 = .ok (.aload_n 0, 1) := zo_42 (by decide +kernel)
theorem dX12_laysEnds_84 : decode cX12_laysEnds 84 = .ok (.getfield 20, 3) := zo_180 (by decide +kernel)
theorem dX12_laysEnds_87 : decode cX12_laysEnds 87 = .ok (.iload_n 2, 1) := zo_28 (by decide +kernel)
theorem dX12_laysEnds_88 : decode cX12_laysEnds 88 = .ok (.aload_n 0, 1) := zo_42 (by decide +kernel)
theorem dX12_laysEnds_89 : decode cX12_laysEnds 89 = .ok (.getfield 53, 3) := zo_180 (by decide +kernel)
theorem dX12_laysEnds_92 : decode cX12_laysEnds 92 = .ok (.iload_n 2, 1) := zo_28 (by decide +kernel)
theorem dX12_laysEnds_93 : decode cX12_laysEnds 93 = .ok (.iaload, 1) := zo_46 (by decide +kernel)
theorem dX12_laysEnds_94 : decode cX12_laysEnds 94 = .ok (.iastore, 1) := zo_79 (by decide +kernel)
theorem dX12_laysEnds_95 : decode cX12_laysEnds 95 = .ok (.iinc 2 1, 3) := zo_132 (by decide +kernel)
theorem dX12_laysEnds_98 : decode cX12_laysEnds 98 = .ok (.goto (-23), 3) := zo_167 (by decide +kernel)
theorem dX12_laysEnds_101 : decode cX12_laysEnds 101 = .ok (.iinc 1 1, 3) := zo_132 (by decide +kernel)
theorem dX12_laysEnds_104 : decode cX12_laysEnds 104 = .ok (.goto (-74), 3) := zo_167 (by decide +kernel)
theorem dX12_laysEnds_107 : decode cX12_laysEnds 107 = .ok (.return_, 1) := zo_177 (by decide +kernel)
theorem dX12_laysFits_0 : decode cX12_laysFits 0 = .ok (.aload_n 0, 1) := zo_42 (by decide +kernel)
theorem dX12_laysFits_1 : decode cX12_laysFits 1 = .ok (.invokevirtual 375, 3) := zo_182 (by decide +kernel)
theorem dX12_laysFits_4 : decode cX12_laysFits 4 = .ok (.bipush (-2), 2) := zo_16 (by decide +kernel)
theorem dX12_laysFits_6 : decode cX12_laysFits 6 = .ok (.istore_n 3, 1) := zo_62 (by decide +kernel)
theorem dX12_laysFits_7 : decode cX12_laysFits 7 = .ok (.aload_n 0, 1) := zo_42 (by decide +kernel)
theorem dX12_laysFits_8 : decode cX12_laysFits 8 = .ok (.invokevirtual 229, 3) := zo_182 (by decide +kernel)
theorem dX12_laysFits_11 : decode cX12_laysFits 11 = .ok (.istore 4, 2) := zo_54 (by decide +kernel)
theorem dX12_laysFits_13 : decode cX12_laysFits 13 = .ok (.iconst 0, 1) := zo_3 (by decide +kernel)
theorem dX12_laysFits_14 : decode cX12_laysFits 14 = .ok (.istore 5, 2) := zo_54 (by decide +kernel)
theorem dX12_laysFits_16 : decode cX12_laysFits 16 = .ok (.iload 5, 2) := zo_21 (by decide +kernel)
theorem dX12_laysFits_18 : decode cX12_laysFits 18 = .ok (.iload 4, 2) := zo_21 (by decide +kernel)
theorem dX12_laysFits_20 : decode cX12_laysFits 20 = .ok (.if_icmp .ge 163, 3) := zo_162 (by decide +kernel)
theorem dX12_laysFits_23 : decode cX12_laysFits 23 = .ok (.aload_n 0, 1) := zo_42 (by decide +kernel)
theorem dX12_laysFits_24 : decode cX12_laysFits 24 = .ok (.iload 5, 2) := zo_21 (by decide +kernel)
theorem dX12_laysFits_26 : decode cX12_laysFits 26 = .ok (.invokevirtual 226, 3) := zo_182 (by decide +kernel)
theorem dX12_laysFits_29 : decode cX12_laysFits 29 = .ok (.aload_n 0, 1) := zo_42 (by decide +kernel)
theorem dX12_laysFits_30 : decode cX12_laysFits 30 = .ok (.invokevirtual 378, 3) := zo_182 (by decide +kernel)
theorem dX12_laysFits_33 : decode cX12_laysFits 33 = .ok (.ifCond .ne 6, 3) := zo_154 (by decide +kernel)
theorem dX12_laysFits_36 : decode cX12_laysFits 36 = .ok (.goto 141, 3) := zo_167 (by decide +kernel)
theorem dX12_laysFits_39 : decode cX12_laysFits 39 = .ok (.iload_n 2, 1) := zo_28 (by decide +kernel)
theorem dX12_laysFits_40 : decode cX12_laysFits 40 = .ok (.ifCond .eq 7, 3) := zo_153 (by decide +kernel)
theorem dX12_laysFits_43 : decode cX12_laysFits 43 = .ok (.aload_n 0, 1) := zo_42 (by decide +kernel)
theorem dX12_laysFits_44 : decode cX12_laysFits 44 = .ok (.invokevirtual 381, 3) := zo_182 (by decide +kernel)
theorem dX12_laysFits_47 : decode cX12_laysFits 47 = .ok (.aload_n 0, 1) := zo_42 (by decide +kernel)
theorem dX12_laysFits_48 : decode cX12_laysFits 48 = .ok (.iload 5, 2) := zo_21 (by decide +kernel)
theorem dX12_laysFits_50 : decode cX12_laysFits 50 = .ok (.invokevirtual 226, 3) := zo_182 (by decide +kernel)
theorem dX12_laysFits_53 : decode cX12_laysFits 53 = .ok (.iconst 0, 1) := zo_3 (by decide +kernel)
theorem dX12_laysFits_54 : decode cX12_laysFits 54 = .ok (.istore 6, 2) := zo_54 (by decide +kernel)
theorem dX12_laysFits_56 : decode cX12_laysFits 56 = .ok (.iload 6, 2) := zo_21 (by decide +kernel)
theorem dX12_laysFits_58 : decode cX12_laysFits 58 = .ok (.aload_n 0, 1) := zo_42 (by decide +kernel)
theorem dX12_laysFits_59 : decode cX12_laysFits 59 = .ok (.getfield 169, 3) := zo_180 (by decide +kernel)
theorem dX12_laysFits_62 : decode cX12_laysFits 62 = .ok (.if_icmp .ge 30, 3) := zo_162 (by decide +kernel)
theorem dX12_laysFits_65 : decode cX12_laysFits 65 = .ok (.aload_n 0, 1) := zo_42 (by decide +kernel)
theorem dX12_laysFits_66 : decode cX12_laysFits 66 = .ok (.getfield 47, 3) := zo_180 (by decide +kernel)
theorem dX12_laysFits_69 : decode cX12_laysFits 69 = .ok (.iconst 4, 1) := zo_7 (by decide +kernel)
theorem dX12_laysFits_70 : decode cX12_laysFits 70 = .ok (.iload 6, 2) := zo_21 (by decide +kernel)
theorem dX12_laysFits_72 : decode cX12_laysFits 72 = .ok (.imul, 1) := zo_104 (by decide +kernel)
theorem dX12_laysFits_73 : decode cX12_laysFits 73 = .ok (.aload_n 0, 1) := zo_42 (by decide +kernel)
theorem dX12_laysFits_74 : decode cX12_laysFits 74 = .ok (.getfield 20, 3) := zo_180 (by decide +kernel)
theorem dX12_laysFits_77 : decode cX12_laysFits 77 = .ok (.iload 6, 2) := zo_21 (by decide +kernel)
theorem dX12_laysFits_79 : decode cX12_laysFits 79 = .ok (.iaload, 1) := zo_46 (by decide +kernel)
theorem dX12_laysFits_80 : decode cX12_laysFits 80 = .ok (.iadd, 1) := zo_96 (by decide +kernel)
theorem dX12_laysFits_81 : decode cX12_laysFits 81 = .ok (.dup2, 1) := zo_92 (by decide +kernel)
theorem dX12_laysFits_82 : decode cX12_laysFits 82 = .ok (.iaload, 1) := zo_46 (by decide +kernel)
theorem dX12_laysFits_83 : decode cX12_laysFits 83 = .ok (.iconst 1, 1) := zo_4 (by decide +kernel)
theorem dX12_laysFits_84 : decode cX12_laysFits 84 = .ok (.iadd, 1) := zo_96 (by decide +kernel)
theorem dX12_laysFits_85 : decode cX12_laysFits 85 = .ok (.iastore, 1) := zo_79 (by decide +kernel)
theorem dX12_laysFits_86 : decode cX12_laysFits 86 = .ok (.iinc 6 1, 3) := zo_132 (by decide +kernel)
theorem dX12_laysFits_89 : decode cX12_laysFits 89 = .ok (.goto (-33), 3) := zo_167 (by decide +kernel)
theorem dX12_laysFits_92 : decode cX12_laysFits 92 = .ok (.aload_n 0, 1) := zo_42 (by decide +kernel)
theorem dX12_laysFits_93 : decode cX12_laysFits 93 = .ok (.getfield 366, 3) := zo_180 (by decide +kernel)
theorem dX12_laysFits_96 : decode cX12_laysFits 96 = .ok (.iload_n 1, 1) := zo_27 (by decide +kernel)
theorem dX12_laysFits_97 : decode cX12_laysFits 97 = .ok (.if_icmp .ne 10, 3) := zo_160 (by decide +kernel)
theorem dX12_laysFits_100 : decode cX12_laysFits 100 = .ok (.aload_n 0, 1) := zo_42 (by decide +kernel)
theorem dX12_laysFits_101 : decode cX12_laysFits 101 = .ok (.iload 5, 2) := zo_21 (by decide +kernel)
theorem dX12_laysFits_103 : decode cX12_laysFits 103 = .ok (.invokevirtual 299, 3) := zo_182 (by decide +kernel)
theorem dX12_laysFits_106 : decode cX12_laysFits 106 = .ok (.istore_n 3, 1) := zo_62 (by decide +kernel)
theorem dX12_laysFits_107 : decode cX12_laysFits 107 = .ok (.aload_n 0, 1) := zo_42 (by decide +kernel)
theorem dX12_laysFits_108 : decode cX12_laysFits 108 = .ok (.aload_n 0, 1) := zo_42 (by decide +kernel)
theorem dX12_laysFits_109 : decode cX12_laysFits 109 = .ok (.getfield 369, 3) := zo_180 (by decide +kernel)
theorem dX12_laysFits_112 : decode cX12_laysFits 112 = .ok (.iconst (-1), 1) := zo_2 (by decide +kernel)
theorem dX12_laysFits_113 : decode cX12_laysFits 113 = .ok (.if_icmp .eq 14, 3) := zo_159 (by decide +kernel)
theorem dX12_laysFits_116 : decode cX12_laysFits 116 = .ok (.aload_n 0, 1) := zo_42 (by decide +kernel)
theorem dX12_laysFits_117 : decode cX12_laysFits 117 = .ok (.getfield 196, 3) := zo_180 (by decide +kernel)
theorem dX12_laysFits_120 : decode cX12_laysFits 120 = .ok (.aload_n 0, 1) := zo_42 (by decide +kernel)
theorem dX12_laysFits_121 : decode cX12_laysFits 121 = .ok (.getfield 369, 3) := zo_180 (by decide +kernel)
theorem dX12_laysFits_124 : decode cX12_laysFits 124 = .ok (.if_icmp .ge 10, 3) := zo_162 (by decide +kernel)
theorem dX12_laysFits_127 : decode cX12_laysFits 127 = .ok (.aload_n 0, 1) := zo_42 (by decide +kernel)
theorem dX12_laysFits_128 : decode cX12_laysFits 128 = .ok (.getfield 196, 3) := zo_180 (by decide +kernel)
theorem dX12_laysFits_131 : decode cX12_laysFits 131 = .ok (.goto 7, 3) := zo_167 (by decide +kernel)
theorem dX12_laysFits_134 : decode cX12_laysFits 134 = .ok (.aload_n 0, 1) := zo_42 (by decide +kernel)
theorem dX12_laysFits_135 : decode cX12_laysFits 135 = .ok (.getfield 369, 3) := zo_180 (by decide +kernel)
theorem dX12_laysFits_138 : decode cX12_laysFits 138 = .ok (.putfield 369, 3) := zo_181 (by decide +kernel)
theorem dX12_laysFits_141 : decode cX12_laysFits 141 = .ok (.aload_n 0, 1) := zo_42 (by decide +kernel)
theorem dX12_laysFits_142 : decode cX12_laysFits 142 = .ok (.aload_n 0, 1) := zo_42 (by decide +kernel)
theorem dX12_laysFits_143 : decode cX12_laysFits 143 = .ok (.getfield 196, 3) := zo_180 (by decide +kernel)
theorem dX12_laysFits_146 : decode cX12_laysFits 146 = .ok (.aload_n 0, 1) := zo_42 (by decide +kernel)
theorem dX12_laysFits_147 : decode cX12_laysFits 147 = .ok (.getfield 372, 3) := zo_180 (by decide +kernel)
theorem dX12_laysFits_150 : decode cX12_laysFits 150 = .ok (.if_icmp .le 10, 3) := zo_164 (by decide +kernel)
theorem dX12_laysFits_153 : decode cX12_laysFits 153 = .ok (.aload_n 0, 1) := zo_42 (by decide +kernel)
theorem dX12_laysFits_154 : decode cX12_laysFits 154 = .ok (.getfield 196, 3) := zo_180 (by decide +kernel)
theorem dX12_laysFits_157 : decode cX12_laysFits 157 = .ok (.goto 7, 3) := zo_167 (by decide +kernel)
theorem dX12_laysFits_160 : decode cX12_laysFits 160 = .ok (.aload_n 0, 1) := zo_42 (by decide +kernel)
theorem dX12_laysFits_161 : decode cX12_laysFits 161 = .ok (.getfield 372, 3) := zo_180 (by decide +kernel)
theorem dX12_laysFits_164 : decode cX12_laysFits 164 = .ok (.putfield 372, 3) := zo_181 (by decide +kernel)
theorem dX12_laysFits_167 : decode cX12_laysFits 167 = .ok (.aload_n 0, 1) := zo_42 (by decide +kernel)
theorem dX12_laysFits_168 : decode cX12_laysFits 168 = .ok (.dup, 1) := zo_89 (by decide +kernel)
theorem dX12_laysFits_169 : decode cX12_laysFits 169 = .ok (.getfield 366, 3) := zo_180 (by decide +kernel)
theorem dX12_laysFits_172 : decode cX12_laysFits 172 = .ok (.iconst 1, 1) := zo_4 (by decide +kernel)
theorem dX12_laysFits_173 : decode cX12_laysFits 173 = .ok (.iadd, 1) := zo_96 (by decide +kernel)
theorem dX12_laysFits_174 : decode cX12_laysFits 174 = .ok (.putfield 366, 3) := zo_181 (by decide +kernel)
theorem dX12_laysFits_177 : decode cX12_laysFits 177 = .ok (.iinc 5 1, 3) := zo_132 (by decide +kernel)
theorem dX12_laysFits_180 : decode cX12_laysFits 180 = .ok (.goto (-164), 3) := zo_167 (by decide +kernel)
theorem dX12_laysFits_183 : decode cX12_laysFits 183 = .ok (.iload_n 3, 1) := zo_29 (by decide +kernel)
theorem dX12_laysFits_184 : decode cX12_laysFits 184 = .ok (.ireturn, 1) := zo_172 (by decide +kernel)
theorem dX12_askOf_0 : decode cX12_askOf 0 = .ok (.iconst (-1), 1) := zo_2 (by decide +kernel)
theorem dX12_askOf_1 : decode cX12_askOf 1 = .ok (.istore_n 1, 1) := zo_60 (by decide +kernel)
theorem dX12_askOf_2 : decode cX12_askOf 2 = .ok (.ldc_w 384, 3) := zo_19 (by decide +kernel)
theorem dX12_askOf_5 : decode cX12_askOf 5 = .ok (.istore_n 2, 1) := zo_61 (by decide +kernel)
theorem dX12_askOf_6 : decode cX12_askOf 6 = .ok (.iconst 0, 1) := zo_3 (by decide +kernel)
theorem dX12_askOf_7 : decode cX12_askOf 7 = .ok (.istore_n 3, 1) := zo_62 (by decide +kernel)
theorem dX12_askOf_8 : decode cX12_askOf 8 = .ok (.iload_n 3, 1) := zo_29 (by decide +kernel)
theorem dX12_askOf_9 : decode cX12_askOf 9 = .ok (.aload_n 0, 1) := zo_42 (by decide +kernel)
theorem dX12_askOf_10 : decode cX12_askOf 10 = .ok (.getfield 169, 3) := zo_180 (by decide +kernel)
theorem dX12_askOf_13 : decode cX12_askOf 13 = .ok (.if_icmp .ge 96, 3) := zo_162 (by decide +kernel)
theorem dX12_askOf_16 : decode cX12_askOf 16 = .ok (.aload_n 0, 1) := zo_42 (by decide +kernel)
theorem dX12_askOf_17 : decode cX12_askOf 17 = .ok (.getfield 366, 3) := zo_180 (by decide +kernel)
theorem dX12_askOf_20 : decode cX12_askOf 20 = .ok (.ifCond .le 89, 3) := zo_158 (by decide +kernel)
theorem dX12_askOf_23 : decode cX12_askOf 23 = .ok (.aload_n 0, 1) := zo_42 (by decide +kernel)
theorem dX12_askOf_24 : decode cX12_askOf 24 = .ok (.iload_n 3, 1) := zo_29 (by decide +kernel)
theorem dX12_askOf_25 : decode cX12_askOf 25 = .ok (.invokevirtual 178, 3) := zo_182 (by decide +kernel)
theorem dX12_askOf_28 : decode cX12_askOf 28 = .ok (.ifCond .eq 6, 3) := zo_153 (by decide +kernel)
theorem dX12_askOf_31 : decode cX12_askOf 31 = .ok (.goto 72, 3) := zo_167 (by decide +kernel)
theorem dX12_askOf_34 : decode cX12_askOf 34 = .ok (.iconst 0, 1) := zo_3 (by decide +kernel)
theorem dX12_askOf_35 : decode cX12_askOf 35 = .ok (.istore 4, 2) := zo_54 (by decide +kernel)
theorem dX12_askOf_37 : decode cX12_askOf 37 = .ok (.iconst 0, 1) := zo_3 (by decide +kernel)
theorem dX12_askOf_38 : decode cX12_askOf 38 = .ok (.istore 5, 2) := zo_54 (by decide +kernel)
theorem dX12_askOf_40 : decode cX12_askOf 40 = .ok (.iload 5, 2) := zo_21 (by decide +kernel)
theorem dX12_askOf_42 : decode cX12_askOf 42 = .ok (.bipush 7, 2) := zo_16 (by decide +kernel)
theorem dX12_askOf_44 : decode cX12_askOf 44 = .ok (.if_icmp .ge 45, 3) := zo_162 (by decide +kernel)
theorem dX12_askOf_47 : decode cX12_askOf 47 = .ok (.aload_n 0, 1) := zo_42 (by decide +kernel)
theorem dX12_askOf_48 : decode cX12_askOf 48 = .ok (.getfield 50, 3) := zo_180 (by decide +kernel)
theorem dX12_askOf_51 : decode cX12_askOf 51 = .ok (.bipush 7, 2) := zo_16 (by decide +kernel)
theorem dX12_askOf_53 : decode cX12_askOf 53 = .ok (.iload_n 3, 1) := zo_29 (by decide +kernel)
theorem dX12_askOf_54 : decode cX12_askOf 54 = .ok (.imul, 1) := zo_104 (by decide +kernel)
theorem dX12_askOf_55 : decode cX12_askOf 55 = .ok (.iload 5, 2) := zo_21 (by decide +kernel)
theorem dX12_askOf_57 : decode cX12_askOf 57 = .ok (.iadd, 1) := zo_96 (by decide +kernel)
theorem dX12_askOf_58 : decode cX12_askOf 58 = .ok (.iaload, 1) := zo_46 (by decide +kernel)
theorem dX12_askOf_59 : decode cX12_askOf 59 = .ok (.iload 4, 2) := zo_21 (by decide +kernel)
theorem dX12_askOf_61 : decode cX12_askOf 61 = .ok (.if_icmp .le 18, 3) := zo_164 (by decide +kernel)
theorem dX12_askOf_64 : decode cX12_askOf 64 = .ok (.aload_n 0, 1) := zo_42 (by decide +kernel)
theorem dX12_askOf_65 : decode cX12_askOf 65 = .ok (.getfield 50, 3) := zo_180 (by decide +kernel)
theorem dX12_askOf_68 : decode cX12_askOf 68 = .ok (.bipush 7, 2) := zo_16 (by decide +kernel)
theorem dX12_askOf_70 : decode cX12_askOf 70 = .ok (.iload_n 3, 1) := zo_29 (by decide +kernel)
theorem dX12_askOf_71 : decode cX12_askOf 71 = .ok (.imul, 1) := zo_104 (by decide +kernel)
theorem dX12_askOf_72 : decode cX12_askOf 72 = .ok (.iload 5, 2) := zo_21 (by decide +kernel)
theorem dX12_askOf_74 : decode cX12_askOf 74 = .ok (.iadd, 1) := zo_96 (by decide +kernel)
theorem dX12_askOf_75 : decode cX12_askOf 75 = .ok (.iaload, 1) := zo_46 (by decide +kernel)
theorem dX12_askOf_76 : decode cX12_askOf 76 = .ok (.goto 5, 3) := zo_167 (by decide +kernel)
theorem dX12_askOf_79 : decode cX12_askOf 79 = .ok (.iload 4, 2) := zo_21 (by decide +kernel)
theorem dX12_askOf_81 : decode cX12_askOf 81 = .ok (.istore 4, 2) := zo_54 (by decide +kernel)
theorem dX12_askOf_83 : decode cX12_askOf 83 = .ok (.iinc 5 1, 3) := zo_132 (by decide +kernel)
theorem dX12_askOf_86 : decode cX12_askOf 86 = .ok (.goto (-46), 3) := zo_167 (by decide +kernel)
theorem dX12_askOf_89 : decode cX12_askOf 89 = .ok (.iload 4, 2) := zo_21 (by decide +kernel)
theorem dX12_askOf_91 : decode cX12_askOf 91 = .ok (.iload_n 2, 1) := zo_28 (by decide +kernel)
theorem dX12_askOf_92 : decode cX12_askOf 92 = .ok (.if_icmp .lt 6, 3) := zo_161 (by decide +kernel)
theorem dX12_askOf_95 : decode cX12_askOf 95 = .ok (.goto 8, 3) := zo_167 (by decide +kernel)
theorem dX12_askOf_98 : decode cX12_askOf 98 = .ok (.iload_n 3, 1) := zo_29 (by decide +kernel)
theorem dX12_askOf_99 : decode cX12_askOf 99 = .ok (.istore_n 1, 1) := zo_60 (by decide +kernel)
theorem dX12_askOf_100 : decode cX12_askOf 100 = .ok (.iload 4, 2) := zo_21 (by decide +kernel)
theorem dX12_askOf_102 : decode cX12_askOf 102 = .ok (.istore_n 2, 1) := zo_61 (by decide +kernel)
theorem dX12_askOf_103 : decode cX12_askOf 103 = .ok (.iinc 3 1, 3) := zo_132 (by decide +kernel)
theorem dX12_askOf_106 : decode cX12_askOf 106 = .ok (.goto (-98), 3) := zo_167 (by decide +kernel)
theorem dX12_askOf_109 : decode cX12_askOf 109 = .ok (.iload_n 1, 1) := zo_27 (by decide +kernel)
theorem dX12_askOf_110 : decode cX12_askOf 110 = .ok (.ireturn, 1) := zo_172 (by decide +kernel)
theorem dX12_sureOf_0 : decode cX12_sureOf 0 = .ok (.aload_n 0, 1) := zo_42 (by decide +kernel)
theorem dX12_sureOf_1 : decode cX12_sureOf 1 = .ok (.iload_n 1, 1) := zo_27 (by decide +kernel)
theorem dX12_sureOf_2 : decode cX12_sureOf 2 = .ok (.invokevirtual 187, 3) := zo_182 (by decide +kernel)
theorem dX12_sureOf_5 : decode cX12_sureOf 5 = .ok (.ifCond .eq 10, 3) := zo_153 (by decide +kernel)
theorem dX12_sureOf_8 : decode cX12_sureOf 8 = .ok (.aload_n 0, 1) := zo_42 (by decide +kernel)
theorem dX12_sureOf_9 : decode cX12_sureOf 9 = .ok (.getfield 366, 3) := zo_180 (by decide +kernel)
theorem dX12_sureOf_12 : decode cX12_sureOf 12 = .ok (.ifCond .ne 5, 3) := zo_154 (by decide +kernel)
theorem dX12_sureOf_15 : decode cX12_sureOf 15 = .ok (.iconst (-1), 1) := zo_2 (by decide +kernel)
theorem dX12_sureOf_16 : decode cX12_sureOf 16 = .ok (.ireturn, 1) := zo_172 (by decide +kernel)
theorem dX12_sureOf_17 : decode cX12_sureOf 17 = .ok (.iconst 0, 1) := zo_3 (by decide +kernel)
theorem dX12_sureOf_18 : decode cX12_sureOf 18 = .ok (.istore_n 2, 1) := zo_61 (by decide +kernel)
theorem dX12_sureOf_19 : decode cX12_sureOf 19 = .ok (.iload_n 2, 1) := zo_28 (by decide +kernel)
theorem dX12_sureOf_20 : decode cX12_sureOf 20 = .ok (.iconst 4, 1) := zo_7 (by decide +kernel)
theorem dX12_sureOf_21 : decode cX12_sureOf 21 = .ok (.if_icmp .ge 28, 3) := zo_162 (by decide +kernel)
theorem dX12_sureOf_24 : decode cX12_sureOf 24 = .ok (.aload_n 0, 1) := zo_42 (by decide +kernel)
theorem dX12_sureOf_25 : decode cX12_sureOf 25 = .ok (.getfield 47, 3) := zo_180 (by decide +kernel)
theorem dX12_sureOf_28 : decode cX12_sureOf 28 = .ok (.iconst 4, 1) := zo_7 (by decide +kernel)
theorem dX12_sureOf_29 : decode cX12_sureOf 29 = .ok (.iload_n 1, 1) := zo_27 (by decide +kernel)
theorem dX12_sureOf_30 : decode cX12_sureOf 30 = .ok (.imul, 1) := zo_104 (by decide +kernel)
theorem dX12_sureOf_31 : decode cX12_sureOf 31 = .ok (.iload_n 2, 1) := zo_28 (by decide +kernel)
theorem dX12_sureOf_32 : decode cX12_sureOf 32 = .ok (.iadd, 1) := zo_96 (by decide +kernel)
theorem dX12_sureOf_33 : decode cX12_sureOf 33 = .ok (.iaload, 1) := zo_46 (by decide +kernel)
theorem dX12_sureOf_34 : decode cX12_sureOf 34 = .ok (.aload_n 0, 1) := zo_42 (by decide +kernel)
theorem dX12_sureOf_35 : decode cX12_sureOf 35 = .ok (.getfield 366, 3) := zo_180 (by decide +kernel)
theorem dX12_sureOf_38 : decode cX12_sureOf 38 = .ok (.if_icmp .ne 5, 3) := zo_160 (by decide +kernel)
theorem dX12_sureOf_41 : decode cX12_sureOf 41 = .ok (.iload_n 2, 1) := zo_28 (by decide +kernel)
theorem dX12_sureOf_42 : decode cX12_sureOf 42 = .ok (.ireturn, 1) := zo_172 (by decide +kernel)
theorem dX12_sureOf_43 : decode cX12_sureOf 43 = .ok (.iinc 2 1, 3) := zo_132 (by decide +kernel)
theorem dX12_sureOf_46 : decode cX12_sureOf 46 = .ok (.goto (-27), 3) := zo_167 (by decide +kernel)
theorem dX12_sureOf_49 : decode cX12_sureOf 49 = .ok (.iconst (-1), 1) := zo_2 (by decide +kernel)
theorem dX12_sureOf_50 : decode cX12_sureOf 50 = .ok (.ireturn, 1) := zo_172 (by decide +kernel)
theorem dX12_fits_0 : decode cX12_fits 0 = .ok (.aload_n 0, 1) := zo_42 (by decide +kernel)
theorem dX12_fits_1 : decode cX12_fits 1 = .ok (.iload_n 1, 1) := zo_27 (by decide +kernel)
theorem dX12_fits_2 : decode cX12_fits 2 = .ok (.invokevirtual 184, 3) := zo_182 (by decide +kernel)
theorem dX12_fits_5 : decode cX12_fits 5 = .ok (.ifCond .eq 21, 3) := zo_153 (by decide +kernel)
theorem dX12_fits_8 : decode cX12_fits 8 = .ok (.aload_n 0, 1) := zo_42 (by decide +kernel)
theorem dX12_fits_9 : decode cX12_fits 9 = .ok (.iload_n 2, 1) := zo_28 (by decide +kernel)
theorem dX12_fits_10 : decode cX12_fits 10 = .ok (.invokevirtual 363, 3) := zo_182 (by decide +kernel)
theorem dX12_fits_13 : decode cX12_fits 13 = .ok (.ifCond .eq 13, 3) := zo_153 (by decide +kernel)
theorem dX12_fits_16 : decode cX12_fits 16 = .ok (.iload_n 3, 1) := zo_29 (by decide +kernel)
theorem dX12_fits_17 : decode cX12_fits 17 = .ok (.ifCond .lt 9, 3) := zo_155 (by decide +kernel)
theorem dX12_fits_20 : decode cX12_fits 20 = .ok (.iload_n 3, 1) := zo_29 (by decide +kernel)
theorem dX12_fits_21 : decode cX12_fits 21 = .ok (.bipush 9, 2) := zo_16 (by decide +kernel)
theorem dX12_fits_23 : decode cX12_fits 23 = .ok (.if_icmp .ne 6, 3) := zo_160 (by decide +kernel)
theorem dX12_fits_26 : decode cX12_fits 26 = .ok (.bipush (-2), 2) := zo_16 (by decide +kernel)
theorem dX12_fits_28 : decode cX12_fits 28 = .ok (.ireturn, 1) := zo_172 (by decide +kernel)
theorem dX12_fits_29 : decode cX12_fits 29 = .ok (.aload_n 0, 1) := zo_42 (by decide +kernel)
theorem dX12_fits_30 : decode cX12_fits 30 = .ok (.iload_n 3, 1) := zo_29 (by decide +kernel)
theorem dX12_fits_31 : decode cX12_fits 31 = .ok (.bipush 10, 2) := zo_16 (by decide +kernel)
theorem dX12_fits_33 : decode cX12_fits 33 = .ok (.isub, 1) := zo_100 (by decide +kernel)
theorem dX12_fits_34 : decode cX12_fits 34 = .ok (.iload_n 3, 1) := zo_29 (by decide +kernel)
theorem dX12_fits_35 : decode cX12_fits 35 = .ok (.iconst 1, 1) := zo_4 (by decide +kernel)
theorem dX12_fits_36 : decode cX12_fits 36 = .ok (.if_icmp .ne 7, 3) := zo_160 (by decide +kernel)
theorem dX12_fits_39 : decode cX12_fits 39 = .ok (.iconst 1, 1) := zo_4 (by decide +kernel)
theorem dX12_fits_40 : decode cX12_fits 40 = .ok (.goto 4, 3) := zo_167 (by decide +kernel)
theorem dX12_fits_43 : decode cX12_fits 43 = .ok (.iconst 0, 1) := zo_3 (by decide +kernel)
theorem dX12_fits_44 : decode cX12_fits 44 = .ok (.invokevirtual 385, 3) := zo_182 (by decide +kernel)
theorem dX12_fits_47 : decode cX12_fits 47 = .ok (.istore 4, 2) := zo_54 (by decide +kernel)
theorem dX12_fits_49 : decode cX12_fits 49 = .ok (.iload_n 3, 1) := zo_29 (by decide +kernel)
theorem dX12_fits_50 : decode cX12_fits 50 = .ok (.ifCond .ne 8, 3) := zo_154 (by decide +kernel)
theorem dX12_fits_53 : decode cX12_fits 53 = .ok (.aload_n 0, 1) := zo_42 (by decide +kernel)
theorem dX12_fits_54 : decode cX12_fits 54 = .ok (.getfield 366, 3) := zo_180 (by decide +kernel)
theorem dX12_fits_57 : decode cX12_fits 57 = .ok (.ireturn, 1) := zo_172 (by decide +kernel)
theorem dX12_fits_58 : decode cX12_fits 58 = .ok (.iload_n 3, 1) := zo_29 (by decide +kernel)
theorem dX12_fits_59 : decode cX12_fits 59 = .ok (.iconst 1, 1) := zo_4 (by decide +kernel)
theorem dX12_fits_60 : decode cX12_fits 60 = .ok (.if_icmp .ne 8, 3) := zo_160 (by decide +kernel)
theorem dX12_fits_63 : decode cX12_fits 63 = .ok (.aload_n 0, 1) := zo_42 (by decide +kernel)
theorem dX12_fits_64 : decode cX12_fits 64 = .ok (.invokevirtual 388, 3) := zo_182 (by decide +kernel)
theorem dX12_fits_67 : decode cX12_fits 67 = .ok (.ireturn, 1) := zo_172 (by decide +kernel)
theorem dX12_fits_68 : decode cX12_fits 68 = .ok (.iload_n 3, 1) := zo_29 (by decide +kernel)
theorem dX12_fits_69 : decode cX12_fits 69 = .ok (.bipush 9, 2) := zo_16 (by decide +kernel)
theorem dX12_fits_71 : decode cX12_fits 71 = .ok (.if_icmp .ge 13, 3) := zo_162 (by decide +kernel)
theorem dX12_fits_74 : decode cX12_fits 74 = .ok (.aload_n 0, 1) := zo_42 (by decide +kernel)
theorem dX12_fits_75 : decode cX12_fits 75 = .ok (.iload_n 3, 1) := zo_29 (by decide +kernel)
theorem dX12_fits_76 : decode cX12_fits 76 = .ok (.iconst 2, 1) := zo_5 (by decide +kernel)
theorem dX12_fits_77 : decode cX12_fits 77 = .ok (.isub, 1) := zo_100 (by decide +kernel)
theorem dX12_fits_78 : decode cX12_fits 78 = .ok (.invokevirtual 391, 3) := zo_182 (by decide +kernel)
theorem dX12_fits_81 : decode cX12_fits 81 = .ok (.goto 5, 3) := zo_167 (by decide +kernel)
theorem dX12_fits_84 : decode cX12_fits 84 = .ok (.iload 4, 2) := zo_21 (by decide +kernel)
theorem dX12_fits_86 : decode cX12_fits 86 = .ok (.ireturn, 1) := zo_172 (by decide +kernel)
theorem dX12_odds_0 : decode cX12_odds 0 = .ok (.aload_n 0, 1) := zo_42 (by decide +kernel)
theorem dX12_odds_1 : decode cX12_odds 1 = .ok (.iload_n 1, 1) := zo_27 (by decide +kernel)
theorem dX12_odds_2 : decode cX12_odds 2 = .ok (.invokevirtual 184, 3) := zo_182 (by decide +kernel)
theorem dX12_odds_5 : decode cX12_odds 5 = .ok (.ifCond .eq 35, 3) := zo_153 (by decide +kernel)
theorem dX12_odds_8 : decode cX12_odds 8 = .ok (.aload_n 0, 1) := zo_42 (by decide +kernel)
theorem dX12_odds_9 : decode cX12_odds 9 = .ok (.iload_n 2, 1) := zo_28 (by decide +kernel)
theorem dX12_odds_10 : decode cX12_odds 10 = .ok (.invokevirtual 363, 3) := zo_182 (by decide +kernel)
theorem dX12_odds_13 : decode cX12_odds 13 = .ok (.ifCond .eq 27, 3) := zo_153 (by decide +kernel)
theorem dX12_odds_16 : decode cX12_odds 16 = .ok (.aload_n 0, 1) := zo_42 (by decide +kernel)
theorem dX12_odds_17 : decode cX12_odds 17 = .ok (.iload_n 3, 1) := zo_29 (by decide +kernel)
theorem dX12_odds_18 : decode cX12_odds 18 = .ok (.invokevirtual 187, 3) := zo_182 (by decide +kernel)
theorem dX12_odds_21 : decode cX12_odds 21 = .ok (.ifCond .eq 19, 3) := zo_153 (by decide +kernel)
theorem dX12_odds_24 : decode cX12_odds 24 = .ok (.iload 4, 2) := zo_21 (by decide +kernel)
theorem dX12_odds_26 : decode cX12_odds 26 = .ok (.iconst 0, 1) := zo_3 (by decide +kernel)
theorem dX12_odds_27 : decode cX12_odds 27 = .ok (.aload_n 0, 1) := zo_42 (by decide +kernel)
theorem dX12_odds_28 : decode cX12_odds 28 = .ok (.iload_n 3, 1) := zo_29 (by decide +kernel)
theorem dX12_odds_29 : decode cX12_odds 29 = .ok (.invokevirtual 181, 3) := zo_182 (by decide +kernel)
theorem dX12_odds_32 : decode cX12_odds 32 = .ok (.iconst 1, 1) := zo_4 (by decide +kernel)
theorem dX12_odds_33 : decode cX12_odds 33 = .ok (.isub, 1) := zo_100 (by decide +kernel)
theorem dX12_odds_34 : decode cX12_odds 34 = .ok (.invokestatic 111, 3) := zo_184 (by decide +kernel)
theorem dX12_odds_37 : decode cX12_odds 37 = .ok (.ifCond .ne 5, 3) := zo_154 (by decide +kernel)
theorem dX12_odds_40 : decode cX12_odds 40 = .ok (.iconst (-1), 1) := zo_2 (by decide +kernel)
theorem dX12_odds_41 : decode cX12_odds 41 = .ok (.ireturn, 1) := zo_172 (by decide +kernel)
theorem dX12_odds_42 : decode cX12_odds 42 = .ok (.aload_n 0, 1) := zo_42 (by decide +kernel)
theorem dX12_odds_43 : decode cX12_odds 43 = .ok (.bipush (-2), 2) := zo_16 (by decide +kernel)
theorem dX12_odds_45 : decode cX12_odds 45 = .ok (.iconst 0, 1) := zo_3 (by decide +kernel)
theorem dX12_odds_46 : decode cX12_odds 46 = .ok (.invokevirtual 385, 3) := zo_182 (by decide +kernel)
theorem dX12_odds_49 : decode cX12_odds 49 = .ok (.pop, 1) := zo_87 (by decide +kernel)
theorem dX12_odds_50 : decode cX12_odds 50 = .ok (.aload_n 0, 1) := zo_42 (by decide +kernel)
theorem dX12_odds_51 : decode cX12_odds 51 = .ok (.getfield 366, 3) := zo_180 (by decide +kernel)
theorem dX12_odds_54 : decode cX12_odds 54 = .ok (.ifCond .ne 7, 3) := zo_154 (by decide +kernel)
theorem dX12_odds_57 : decode cX12_odds 57 = .ok (.iconst (-1), 1) := zo_2 (by decide +kernel)
theorem dX12_odds_58 : decode cX12_odds 58 = .ok (.goto 23, 3) := zo_167 (by decide +kernel)
theorem dX12_odds_61 : decode cX12_odds 61 = .ok (.aload_n 0, 1) := zo_42 (by decide +kernel)
theorem dX12_odds_62 : decode cX12_odds 62 = .ok (.getfield 47, 3) := zo_180 (by decide +kernel)
theorem dX12_odds_65 : decode cX12_odds 65 = .ok (.iconst 4, 1) := zo_7 (by decide +kernel)
theorem dX12_odds_66 : decode cX12_odds 66 = .ok (.iload_n 3, 1) := zo_29 (by decide +kernel)
theorem dX12_odds_67 : decode cX12_odds 67 = .ok (.imul, 1) := zo_104 (by decide +kernel)
theorem dX12_odds_68 : decode cX12_odds 68 = .ok (.iload 4, 2) := zo_21 (by decide +kernel)
theorem dX12_odds_70 : decode cX12_odds 70 = .ok (.iadd, 1) := zo_96 (by decide +kernel)
theorem dX12_odds_71 : decode cX12_odds 71 = .ok (.iaload, 1) := zo_46 (by decide +kernel)
theorem dX12_odds_72 : decode cX12_odds 72 = .ok (.aload_n 0, 1) := zo_42 (by decide +kernel)
theorem dX12_odds_73 : decode cX12_odds 73 = .ok (.getfield 366, 3) := zo_180 (by decide +kernel)
theorem dX12_odds_76 : decode cX12_odds 76 = .ok (.iload 5, 2) := zo_21 (by decide +kernel)
theorem dX12_odds_78 : decode cX12_odds 78 = .ok (.invokestatic 244, 3) := zo_184 (by decide +kernel)
theorem dX12_odds_81 : decode cX12_odds 81 = .ok (.ireturn, 1) := zo_172 (by decide +kernel)
theorem dX12_least_0 : decode cX12_least 0 = .ok (.aload_n 0, 1) := zo_42 (by decide +kernel)
theorem dX12_least_1 : decode cX12_least 1 = .ok (.iload_n 1, 1) := zo_27 (by decide +kernel)
theorem dX12_least_2 : decode cX12_least 2 = .ok (.invokevirtual 184, 3) := zo_182 (by decide +kernel)
theorem dX12_least_5 : decode cX12_least 5 = .ok (.ifCond .eq 11, 3) := zo_153 (by decide +kernel)
theorem dX12_least_8 : decode cX12_least 8 = .ok (.aload_n 0, 1) := zo_42 (by decide +kernel)
theorem dX12_least_9 : decode cX12_least 9 = .ok (.iload_n 2, 1) := zo_28 (by decide +kernel)
theorem dX12_least_10 : decode cX12_least 10 = .ok (.invokevirtual 363, 3) := zo_182 (by decide +kernel)
theorem dX12_least_13 : decode cX12_least 13 = .ok (.ifCond .ne 5, 3) := zo_154 (by decide +kernel)
theorem dX12_least_16 : decode cX12_least 16 = .ok (.iconst (-1), 1) := zo_2 (by decide +kernel)
theorem dX12_least_17 : decode cX12_least 17 = .ok (.ireturn, 1) := zo_172 (by decide +kernel)
theorem dX12_least_18 : decode cX12_least 18 = .ok (.aload_n 0, 1) := zo_42 (by decide +kernel)
theorem dX12_least_19 : decode cX12_least 19 = .ok (.bipush (-2), 2) := zo_16 (by decide +kernel)
theorem dX12_least_21 : decode cX12_least 21 = .ok (.iconst 0, 1) := zo_3 (by decide +kernel)
theorem dX12_least_22 : decode cX12_least 22 = .ok (.invokevirtual 385, 3) := zo_182 (by decide +kernel)
theorem dX12_least_25 : decode cX12_least 25 = .ok (.pop, 1) := zo_87 (by decide +kernel)
theorem dX12_least_26 : decode cX12_least 26 = .ok (.iload_n 3, 1) := zo_29 (by decide +kernel)
theorem dX12_least_27 : decode cX12_least 27 = .ok (.ifCond .eq 10, 3) := zo_153 (by decide +kernel)
theorem dX12_least_30 : decode cX12_least 30 = .ok (.aload_n 0, 1) := zo_42 (by decide +kernel)
theorem dX12_least_31 : decode cX12_least 31 = .ok (.getfield 372, 3) := zo_180 (by decide +kernel)
theorem dX12_least_34 : decode cX12_least 34 = .ok (.goto 7, 3) := zo_167 (by decide +kernel)
theorem dX12_least_37 : decode cX12_least 37 = .ok (.aload_n 0, 1) := zo_42 (by decide +kernel)
theorem dX12_least_38 : decode cX12_least 38 = .ok (.getfield 369, 3) := zo_180 (by decide +kernel)
theorem dX12_least_41 : decode cX12_least 41 = .ok (.ireturn, 1) := zo_172 (by decide +kernel)

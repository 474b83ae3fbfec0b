set_option maxHeartbeats 4000000 in
set_option maxRecDepth 100000 in
/-- c_m_below -/
theorem c_m_below (l : Launch) (T : zTy) (mo : Nat) (m_all : Nat) (m_has : Nat) (i_size : Int32) (i_next : Int32) (i_where : Int32) (i_token : Int32) (i_number : Int32) (i_word : Int32) (i_wrong : Int32) (i_farCrossing : Int32) (m_read : Nat) (i_z0 : Int32) (i_crossings : Int32) (i_inns : Int32) (m_posts : Nat) (m_shut : Nat) (m_here : Nat) (i_steps : Int32) (i_done : Int32) (i_at : Int32) (i_gone : Int32) (m_was : Nat) (m_came : Nat) (m_seenAt : Nat) (m_rowWorth : Nat) (m_farBy : Nat) (m_used : Nat) (i_everywhere : Int32) (i_again0 : Int32) (i_d0 : Int32) (i_never : Int32) (i_firstCame : Int32) (i_longRun : Int32) (i_moved : Int32) (i_crowd : Int32) (i_l0 : Int32) (i_fitMany : Int32) (i_fitLeast : Int32) (i_fitMost : Int32) (m_fitPost : Nat) (m_fitEnd : Nat) (m_keptPosts : Nat) (i_x0 : Int32) (n_ : Int32) (hn1 : 1 ≤ n_.toInt) (hn9 : n_.toInt ≤ 1000) : zMi l T yX12_below cX12_below 2 (some .int) 1 0 0 [.ref mo, .int n_] [[zO11 mo m_all m_has i_size i_next i_where i_token i_number i_word i_wrong i_farCrossing m_read i_z0 i_crossings i_inns m_posts m_shut m_here i_steps i_done i_at i_gone m_was m_came m_seenAt m_rowWorth m_farBy m_used i_everywhere i_again0 i_d0 i_never i_firstCame i_longRun i_moved i_crowd i_l0 i_fitMany i_fitLeast i_fitMost m_fitPost m_fitEnd m_keptPosts i_x0]] (fun (r : Int32) bs => ∃ (j_x0 : Int32), bs = [[zO11 mo m_all m_has i_size i_next i_where i_token i_number i_word i_wrong i_farCrossing m_read i_z0 i_crossings i_inns m_posts m_shut m_here i_steps i_done i_at i_gone m_was m_came m_seenAt m_rowWorth m_farBy m_used i_everywhere i_again0 i_d0 i_never i_firstCame i_longRun i_moved i_crowd i_l0 i_fitMany i_fitLeast i_fitMost m_fitPost m_fitEnd m_keptPosts j_x0]] ∧ 0 ≤ r.toInt ∧ r.toInt < n_.toInt) := by
  refine zMi_of (own := RX12) (by decide) rfl (Nat.le_of_ble_eq_true rfl) ?_
  intro p e s m args below meth c A ls C hr hlocks hnm hAe G hl
  refine zHide (fun Qz_ hQz_ => ?_)
  have hx := C.1
  have hb := C.2.1
  have hl : lv_has ls 2 [(0, .ref mo), (1, .int n_)] := hl
  refine lv_aload_n hx hb dX12_below_0 rfl (lv_at hl 0 rfl) ?_
  refine lv_aload_n hx hb dX12_below_1 rfl (lv_at hl 0 rfl) ?_
  refine z_get C G clX12 0 rfl 42 (by decide) m_fl_RX12_394 rfl dX12_below_2 ?_
  refine lv_ldcw (v := 1103515245) hx hb C.2.2.2.1 (C.2.2.2.2 _ m_ko_RX12_397) dX12_below_5 ?_
  refine lv_imul hx hb dX12_below_8 ?_
  refine lv_sipush (v := 12345) hx hb dX12_below_9 (by decide) ?_
  refine lv_iadd hx hb dX12_below_12 ?_
  refine z_put C G clX12 0 rfl 42 (by decide) m_fl_RX12_394 rfl rfl rfl (Nat.le_of_ble_eq_true rfl) dX12_below_13 (fun H locs G => ?_)
  have G : zS T A s.heap s [[zO11 mo m_all m_has i_size i_next i_where i_token i_number i_word i_wrong i_farCrossing m_read i_z0 i_crossings i_inns m_posts m_shut m_here i_steps i_done i_at i_gone m_was m_came m_seenAt m_rowWorth m_farBy m_used i_everywhere i_again0 i_d0 i_never i_firstCame i_longRun i_moved i_crowd i_l0 i_fitMany i_fitLeast i_fitMost m_fitPost m_fitEnd m_keptPosts ((i_x0 * 1103515245) + 12345)]] _ _ := G
  refine lv_aload_n hx hb dX12_below_16 rfl (lv_at hl 0 rfl) ?_
  refine z_get C G clX12 0 rfl 42 (by decide) m_fl_RX12_394 rfl dX12_below_17 ?_
  refine lv_bipush (v := 16) hx hb dX12_below_20 (by decide) ?_
  refine lv_iushr hx hb dX12_below_22 rfl ?_
  refine lv_iload_n hx hb dX12_below_23 rfl (lv_at hl 1 rfl) ?_
  refine lv_irem hx hb dX12_below_24 (fun q => absurd (congrArg Int32.toInt q) (by show ¬ _ = (0 : Int); omega)) ?_
  exact z_back hQz_ (z_iret C hr hlocks G (Nat.le_of_ble_eq_true rfl) (Nat.le_of_ble_eq_true rfl) dX12_below_25 ⟨((i_x0 * 1103515245) + 12345), rfl, (zDraw hn1 hn9 ((i_x0 * 1103515245) + 12345)).1, (zDraw hn1 hn9 ((i_x0 * 1103515245) + 12345)).2⟩)
set_option maxHeartbeats 4000000 in
set_option maxRecDepth 100000 in
/-- c_m_draws -/
theorem c_m_draws (l : Launch) (T : zTy) (mo : Nat) (m_all : Nat) (m_has : Nat) (i_size : Int32) (i_next : Int32) (i_where : Int32) (i_token : Int32) (i_number : Int32) (i_word : Int32) (i_wrong : Int32) (i_farCrossing : Int32) (m_read : Nat) (i_z0 : Int32) (i_crossings : Int32) (i_inns : Int32) (m_posts : Nat) (m_shut : Nat) (m_here : Nat) (i_steps : Int32) (i_done : Int32) (i_at : Int32) (i_gone : Int32) (m_was : Nat) (m_came : Nat) (m_seenAt : Nat) (m_rowWorth : Nat) (m_farBy : Nat) (m_used : Nat) (i_everywhere : Int32) (i_again0 : Int32) (i_d0 : Int32) (i_never : Int32) (i_firstCame : Int32) (i_longRun : Int32) (i_moved : Int32) (i_crowd : Int32) (i_l0 : Int32) (i_fitMany : Int32) (i_fitLeast : Int32) (i_fitMost : Int32) (m_fitPost : Nat) (m_fitEnd : Nat) (m_keptPosts : Nat) (i_x0 : Int32) (f_all : Nat → Int32) (f_posts : Nat → Int32) (f_shut : Nat → Int32) (f_here : Nat → Int32) (f_was : Nat → Int32) (hL : zML f_all i_z0 i_crossings) (hP : zMP f_posts) : zMv l T yX12_draws cX12_draws 4 7 0 0 [.ref mo] [[zO11 mo m_all m_has i_size i_next i_where i_token i_number i_word i_wrong i_farCrossing m_read i_z0 i_crossings i_inns m_posts m_shut m_here i_steps i_done i_at i_gone m_was m_came m_seenAt m_rowWorth m_farBy m_used i_everywhere i_again0 i_d0 i_never i_firstCame i_longRun i_moved i_crowd i_l0 i_fitMany i_fitLeast i_fitMost m_fitPost m_fitEnd m_keptPosts i_x0], [zAr T 0 m_all 3952 f_all], [zAr T 0 m_posts 7 f_posts], [zAr T 0 m_shut 7 f_shut], [zAr T 0 m_here 7 f_here], [zAr T 0 m_was 7 f_was]] (fun bs => ∃ (j_at : Int32) (j_gone : Int32) (j_steps : Int32) (j_moved : Int32) (j_firstCame : Int32) (j_never : Int32) (j_longRun : Int32) (j_x0 : Int32) (g_posts : Nat → Int32) (g_shut : Nat → Int32) (g_here : Nat → Int32) (g_was : Nat → Int32), bs = [[zO11 mo m_all m_has i_size i_next i_where i_token i_number i_word i_wrong i_farCrossing m_read i_z0 i_crossings i_inns m_posts m_shut m_here j_steps i_done j_at j_gone m_was m_came m_seenAt m_rowWorth m_farBy m_used i_everywhere i_again0 i_d0 j_never j_firstCame j_longRun j_moved i_crowd i_l0 i_fitMany i_fitLeast i_fitMost m_fitPost m_fitEnd m_keptPosts j_x0], [zAr T 0 m_all 3952 f_all], [zAr T 0 m_posts 7 g_posts], [zAr T 0 m_shut 7 g_shut], [zAr T 0 m_here 7 g_here], [zAr T 0 m_was 7 g_was]] ∧ zMP g_posts) := by
  refine zMv_of (own := RX12) (by decide) rfl (Nat.le_of_ble_eq_true rfl) ?_
  intro p e s m args below meth c A ls C hr hlocks hnm hAe G hl
  refine zHide (fun Qz_ hQz_ => ?_)
  have hx := C.1
  have hb := C.2.1
  have hl : lv_has ls 4 [(0, .ref mo)] := hl
  have hz := hL.1
  have hcr := hL.cr
  refine lv_aload_n hx hb dX12_draws_0 rfl (lv_at hl 0 rfl) ?_
  refine lv_bipush (v := 10) hx hb dX12_draws_1 (by decide) ?_
  refine z_Vi (bc := [[zO11 mo m_all m_has i_size i_next i_where i_token i_number i_word i_wrong i_farCrossing m_read i_z0 i_crossings i_inns m_posts m_shut m_here i_steps i_done i_at i_gone m_was m_came m_seenAt m_rowWorth m_farBy m_used i_everywhere i_again0 i_d0 i_never i_firstCame i_longRun i_moved i_crowd i_l0 i_fitMany i_fitLeast i_fitMost m_fitPost m_fitEnd m_keptPosts i_x0]]) (br := [[zAr T 0 m_all 3952 f_all], [zAr T 0 m_posts 7 f_posts], [zAr T 0 m_shut 7 f_shut], [zAr T 0 m_here 7 f_here], [zAr T 0 m_was 7 f_was]]) (As := [.int 10]) (rest := []) C G (c_m_below l T mo m_all m_has i_size i_next i_where i_token i_number i_word i_wrong i_farCrossing m_read i_z0 i_crossings i_inns m_posts m_shut m_here i_steps i_done i_at i_gone m_was m_came m_seenAt m_rowWorth m_farBy m_used i_everywhere i_again0 i_d0 i_never i_firstCame i_longRun i_moved i_crowd i_l0 i_fitMany i_fitLeast i_fitMost m_fitPost m_fitEnd m_keptPosts i_x0 10 (by first | with_reducible assumption | with_reducible rfl | omega | assumption | rfl | decide) (by first | with_reducible assumption | with_reducible rfl | omega | assumption | rfl | decide)) (kV_RX12_398 C.2.2.2.2 (Nat.le_of_ble_eq_true rfl) (Nat.le_of_ble_eq_true rfl)) [0] [0] rfl rfl (ci := 11) (qc := (RX12, TX12, 43)) rfl rfl (List.mem_flatten.mpr ⟨_, List.mem_of_getElem? (i := 0) rfl, List.mem_cons_self⟩) rfl rfl hl.1 dX12_draws_3 (Nat.le_of_ble_eq_true rfl) (Nat.le_of_ble_eq_true rfl) (fun r_4 b1 H locs hw G => ?_)
  refine zEx1 hw ?_
  intro j_x0_1
  refine zCu3 ?_
  intro hbs9 h_2 h_3
  clear hw
  subst hbs9
  have G : zS T A s.heap s [[zAr T 0 m_all 3952 f_all], [zAr T 0 m_posts 7 f_posts], [zAr T 0 m_shut 7 f_shut], [zAr T 0 m_here 7 f_here], [zAr T 0 m_was 7 f_was], [zO11 mo m_all m_has i_size i_next i_where i_token i_number i_word i_wrong i_farCrossing m_read i_z0 i_crossings i_inns m_posts m_shut m_here i_steps i_done i_at i_gone m_was m_came m_seenAt m_rowWorth m_farBy m_used i_everywhere i_again0 i_d0 i_never i_firstCame i_longRun i_moved i_crowd i_l0 i_fitMany i_fitLeast i_fitMost m_fitPost m_fitEnd m_keptPosts j_x0_1]] _ _ := G
  have h_3 : r_4.toInt < (10 : Int) := h_3
  refine lv_istore_n (lv' := [(1, .int r_4), (0, .ref mo)]) hx hb dX12_draws_6 rfl hl (by decide) (zLvf_h rfl) (fun ls hl => ?_)
  refine lv_aload_n hx hb dX12_draws_7 rfl (lv_at hl 1 rfl) ?_
  refine z_get C G clX12 5 rfl 12 (by decide) m_fl_RX12_169 rfl dX12_draws_8 ?_
  refine lv_if_ne (tgt := 15) hx hb dX12_draws_11 (by decide) (fun c_5 => ?_) (fun c_5 => ?_)
  · have c_5n : ¬ i_crossings.toInt = (0 : Int) := fun q => c_5 ((fa_eq _ _).mpr q)
    refine lv_iload_n hx hb dX12_draws_15 rfl (lv_at hl 0 rfl) ?_
    refine lv_iconst (v := 4) hx hb dX12_draws_16 (by decide) ?_
    refine lv_icmp_ge (tgt := 24) hx hb dX12_draws_17 (by decide) (fun c_6 => ?_) (fun c_6 => ?_)
    · have c_6n : (4 : Int) ≤ r_4.toInt := (fa_le _ _).mp c_6
      refine lv_iload_n hx hb dX12_draws_24 rfl (lv_at hl 0 rfl) ?_
      refine lv_bipush (v := 6) hx hb dX12_draws_25 (by decide) ?_
      refine lv_icmp_ge (tgt := 36) hx hb dX12_draws_27 (by decide) (fun c_7 => ?_) (fun c_7 => ?_)
      · have c_7n : (6 : Int) ≤ r_4.toInt := (fa_le _ _).mp c_7
        refine lv_iload_n hx hb dX12_draws_36 rfl (lv_at hl 0 rfl) ?_
        refine lv_bipush (v := 8) hx hb dX12_draws_37 (by decide) ?_
        refine lv_icmp_ge (tgt := 46) hx hb dX12_draws_39 (by decide) (fun c_8 => ?_) (fun c_8 => ?_)
        · have c_8n : (8 : Int) ≤ r_4.toInt := (fa_le _ _).mp c_8
          refine lv_iload_n hx hb dX12_draws_46 rfl (lv_at hl 0 rfl) ?_
          refine lv_iconst (v := 4) hx hb dX12_draws_47 (by decide) ?_
          refine lv_isub hx hb dX12_draws_48 ?_
          refine lv_istore_n (lv' := [(2, .int (r_4 - 4)), (1, .int r_4), (0, .ref mo)]) hx hb dX12_draws_49 rfl hl (by decide) (zLvf_h rfl) (fun ls hl => ?_)
          refine lv_aload_n hx hb dX12_draws_50 rfl (lv_at hl 2 rfl) ?_
          refine lv_aload_n hx hb dX12_draws_51 rfl (lv_at hl 2 rfl) ?_
          refine z_get C G clX12 5 rfl 12 (by decide) m_fl_RX12_169 rfl dX12_draws_52 ?_
          refine z_Vi (bc := [[zO11 mo m_all m_has i_size i_next i_where i_token i_number i_word i_wrong i_farCrossing m_read i_z0 i_crossings i_inns m_posts m_shut m_here i_steps i_done i_at i_gone m_was m_came m_seenAt m_rowWorth m_farBy m_used i_everywhere i_again0 i_d0 i_never i_firstCame i_longRun i_moved i_crowd i_l0 i_fitMany i_fitLeast i_fitMost m_fitPost m_fitEnd m_keptPosts j_x0_1]]) (br := [[zAr T 0 m_all 3952 f_all], [zAr T 0 m_posts 7 f_posts], [zAr T 0 m_shut 7 f_shut], [zAr T 0 m_here 7 f_here], [zAr T 0 m_was 7 f_was]]) (As := [.int i_crossings]) (rest := []) C G (c_m_below l T mo m_all m_has i_size i_next i_where i_token i_number i_word i_wrong i_farCrossing m_read i_z0 i_crossings i_inns m_posts m_shut m_here i_steps i_done i_at i_gone m_was m_came m_seenAt m_rowWorth m_farBy m_used i_everywhere i_again0 i_d0 i_never i_firstCame i_longRun i_moved i_crowd i_l0 i_fitMany i_fitLeast i_fitMost m_fitPost m_fitEnd m_keptPosts j_x0_1 i_crossings (by first | with_reducible assumption | with_reducible rfl | omega | assumption | rfl | decide) (by first | with_reducible assumption | with_reducible rfl | omega | assumption | rfl | decide)) (kV_RX12_398 C.2.2.2.2 (Nat.le_of_ble_eq_true rfl) (Nat.le_of_ble_eq_true rfl)) [5] [5] rfl rfl (ci := 11) (qc := (RX12, TX12, 43)) rfl rfl (List.mem_flatten.mpr ⟨_, List.mem_of_getElem? (i := 0) rfl, List.mem_cons_self⟩) rfl rfl hl.1 dX12_draws_55 (Nat.le_of_ble_eq_true rfl) (Nat.le_of_ble_eq_true rfl) (fun r_12 b1 H locs hw G => ?_)
          refine zEx1 hw ?_
          intro j_x0_9
          refine zCu3 ?_
          intro hbs9 h_10 h_11
          clear hw
          subst hbs9
          have G : zS T A s.heap s [[zAr T 0 m_all 3952 f_all], [zAr T 0 m_posts 7 f_posts], [zAr T 0 m_shut 7 f_shut], [zAr T 0 m_here 7 f_here], [zAr T 0 m_was 7 f_was], [zO11 mo m_all m_has i_size i_next i_where i_token i_number i_word i_wrong i_farCrossing m_read i_z0 i_crossings i_inns m_posts m_shut m_here i_steps i_done i_at i_gone m_was m_came m_seenAt m_rowWorth m_farBy m_used i_everywhere i_again0 i_d0 i_never i_firstCame i_longRun i_moved i_crowd i_l0 i_fitMany i_fitLeast i_fitMost m_fitPost m_fitEnd m_keptPosts j_x0_9]] _ _ := G
          refine lv_istore_n (lv' := [(3, .int r_12), (2, .int (r_4 - 4)), (1, .int r_4), (0, .ref mo)]) hx hb dX12_draws_58 rfl hl (by decide) (zLvf_h rfl) (fun ls hl => ?_)
          refine lv_aload_n hx hb dX12_draws_59 rfl (lv_at hl 3 rfl) ?_
          refine lv_iload_n hx hb dX12_draws_60 rfl (lv_at hl 1 rfl) ?_
          refine lv_iload_n hx hb dX12_draws_61 rfl (lv_at hl 0 rfl) ?_
          refine lv_iload_n hx hb dX12_draws_62 rfl (lv_at hl 1 rfl) ?_
          refine lv_iconst (v := 3) hx hb dX12_draws_63 (by decide) ?_
          refine lv_icmp_le (tgt := 75) hx hb dX12_draws_64 (by decide) (fun c_13 => ?_) (fun c_13 => ?_)
          · have c_13n : (r_4 - 4).toInt ≤ (3 : Int) := (fa_le _ _).mp c_13
            refine lv_iconst (v := (-1)) hx hb dX12_draws_75 (by decide) ?_
            refine z_Vi (bc := [[zO11 mo m_all m_has i_size i_next i_where i_token i_number i_word i_wrong i_farCrossing m_read i_z0 i_crossings i_inns m_posts m_shut m_here i_steps i_done i_at i_gone m_was m_came m_seenAt m_rowWorth m_farBy m_used i_everywhere i_again0 i_d0 i_never i_firstCame i_longRun i_moved i_crowd i_l0 i_fitMany i_fitLeast i_fitMost m_fitPost m_fitEnd m_keptPosts j_x0_9], [zAr T 0 m_all 3952 f_all], [zAr T 0 m_posts 7 f_posts], [zAr T 0 m_shut 7 f_shut], [zAr T 0 m_here 7 f_here], [zAr T 0 m_was 7 f_was]]) (br := []) (As := [.int (r_4 - 4), .int r_12, .int (-1)]) (rest := []) C G (c_m_does l T mo m_all m_has i_size i_next i_where i_token i_number i_word i_wrong i_farCrossing m_read i_z0 i_crossings i_inns m_posts m_shut m_here i_steps i_done i_at i_gone m_was m_came m_seenAt m_rowWorth m_farBy m_used i_everywhere i_again0 i_d0 i_never i_firstCame i_longRun i_moved i_crowd i_l0 i_fitMany i_fitLeast i_fitMost m_fitPost m_fitEnd m_keptPosts j_x0_9 f_all f_posts f_shut f_here f_was (r_4 - 4) r_12 (-1) (by first | with_reducible assumption | with_reducible rfl | omega | assumption | rfl | decide) (by first | with_reducible assumption | with_reducible rfl | omega | assumption | rfl | decide)) (kV_RX12_345 C.2.2.2.2 (Nat.le_of_ble_eq_true rfl) (Nat.le_of_ble_eq_true rfl)) [5, 0, 1, 2, 3, 4] [0, 0, 0, 0, 0, 0] rfl rfl (ci := 11) (qc := (RX12, TX12, 43)) rfl rfl (List.mem_flatten.mpr ⟨_, List.mem_of_getElem? (i := 0) rfl, List.mem_cons_self⟩) rfl rfl hl.1 dX12_draws_76 (Nat.le_of_ble_eq_true rfl) (Nat.le_of_ble_eq_true rfl) (fun r_27 b1 H locs hw G => ?_)
            refine zEx11 hw ?_
            intro j_at_14 j_gone_15 j_steps_16 j_moved_17 j_firstCame_18 j_never_19 j_longRun_20 g_posts_21 g_shut_22 g_here_23 g_was_24
            refine zCu3 ?_
            intro hbs9 h_25 h_26
            clear hw
            subst hbs9
            have G : zS T A s.heap s [[zO11 mo m_all m_has i_size i_next i_where i_token i_number i_word i_wrong i_farCrossing m_read i_z0 i_crossings i_inns m_posts m_shut m_here j_steps_16 i_done j_at_14 j_gone_15 m_was m_came m_seenAt m_rowWorth m_farBy m_used i_everywhere i_again0 i_d0 j_never_19 j_firstCame_18 j_longRun_20 j_moved_17 i_crowd i_l0 i_fitMany i_fitLeast i_fitMost m_fitPost m_fitEnd m_keptPosts j_x0_9], [zAr T 0 m_all 3952 f_all], [zAr T 0 m_posts 7 g_posts_21], [zAr T 0 m_shut 7 g_shut_22], [zAr T 0 m_here 7 g_here_23], [zAr T 0 m_was 7 g_was_24]] _ _ := G
            replace h_25 : zHd ((r_27 = 0 ∨ r_27 = 1)) := h_25
            refine lv_pop hx hb dX12_draws_79 rfl ?_
            exact z_back hQz_ (z_vret C hr hlocks G (Nat.le_of_ble_eq_true rfl) (Nat.le_of_ble_eq_true rfl) dX12_draws_80 ⟨j_at_14, j_gone_15, j_steps_16, j_moved_17, j_firstCame_18, j_never_19, j_longRun_20, j_x0_9, g_posts_21, g_shut_22, g_here_23, g_was_24, rfl, (by first | with_reducible assumption | omega | trivial | assumption)⟩)
          · have c_13n : ¬ (r_4 - 4).toInt ≤ (3 : Int) := fun q => c_13 ((fa_le _ _).mpr q)
            refine lv_aload_n hx hb dX12_draws_67 rfl (lv_at hl 3 rfl) ?_
            refine lv_iconst (v := 4) hx hb dX12_draws_68 (by decide) ?_
            refine z_Vi (bc := [[zO11 mo m_all m_has i_size i_next i_where i_token i_number i_word i_wrong i_farCrossing m_read i_z0 i_crossings i_inns m_posts m_shut m_here i_steps i_done i_at i_gone m_was m_came m_seenAt m_rowWorth m_farBy m_used i_everywhere i_again0 i_d0 i_never i_firstCame i_longRun i_moved i_crowd i_l0 i_fitMany i_fitLeast i_fitMost m_fitPost m_fitEnd m_keptPosts j_x0_9]]) (br := [[zAr T 0 m_all 3952 f_all], [zAr T 0 m_posts 7 f_posts], [zAr T 0 m_shut 7 f_shut], [zAr T 0 m_here 7 f_here], [zAr T 0 m_was 7 f_was]]) (As := [.int 4]) (rest := [.int r_12, .int (r_4 - 4), .ref mo]) C G (c_m_below l T mo m_all m_has i_size i_next i_where i_token i_number i_word i_wrong i_farCrossing m_read i_z0 i_crossings i_inns m_posts m_shut m_here i_steps i_done i_at i_gone m_was m_came m_seenAt m_rowWorth m_farBy m_used i_everywhere i_again0 i_d0 i_never i_firstCame i_longRun i_moved i_crowd i_l0 i_fitMany i_fitLeast i_fitMost m_fitPost m_fitEnd m_keptPosts j_x0_9 4 (by first | with_reducible assumption | with_reducible rfl | omega | assumption | rfl | decide) (by first | with_reducible assumption | with_reducible rfl | omega | assumption | rfl | decide)) (kV_RX12_398 C.2.2.2.2 (Nat.le_of_ble_eq_true rfl) (Nat.le_of_ble_eq_true rfl)) [5] [5] rfl rfl (ci := 11) (qc := (RX12, TX12, 43)) rfl rfl (List.mem_flatten.mpr ⟨_, List.mem_of_getElem? (i := 0) rfl, List.mem_cons_self⟩) rfl rfl hl.1 dX12_draws_69 (Nat.le_of_ble_eq_true rfl) (Nat.le_of_ble_eq_true rfl) (fun r_31 b1 H locs hw G => ?_)
            refine zEx1 hw ?_
            intro j_x0_28
            refine zCu3 ?_
            intro hbs9 h_29 h_30
            clear hw
            subst hbs9
            have G : zS T A s.heap s [[zAr T 0 m_all 3952 f_all], [zAr T 0 m_posts 7 f_posts], [zAr T 0 m_shut 7 f_shut], [zAr T 0 m_here 7 f_here], [zAr T 0 m_was 7 f_was], [zO11 mo m_all m_has i_size i_next i_where i_token i_number i_word i_wrong i_farCrossing m_read i_z0 i_crossings i_inns m_posts m_shut m_here i_steps i_done i_at i_gone m_was m_came m_seenAt m_rowWorth m_farBy m_used i_everywhere i_again0 i_d0 i_never i_firstCame i_longRun i_moved i_crowd i_l0 i_fitMany i_fitLeast i_fitMost m_fitPost m_fitEnd m_keptPosts j_x0_28]] _ _ := G
            have h_30 : r_31.toInt < (4 : Int) := h_30
            refine lv_goto (tgt := 76) hx hb dX12_draws_72 (by decide) ?_
            refine z_Vi (bc := [[zO11 mo m_all m_has i_size i_next i_where i_token i_number i_word i_wrong i_farCrossing m_read i_z0 i_crossings i_inns m_posts m_shut m_here i_steps i_done i_at i_gone m_was m_came m_seenAt m_rowWorth m_farBy m_used i_everywhere i_again0 i_d0 i_never i_firstCame i_longRun i_moved i_crowd i_l0 i_fitMany i_fitLeast i_fitMost m_fitPost m_fitEnd m_keptPosts j_x0_28], [zAr T 0 m_all 3952 f_all], [zAr T 0 m_posts 7 f_posts], [zAr T 0 m_shut 7 f_shut], [zAr T 0 m_here 7 f_here], [zAr T 0 m_was 7 f_was]]) (br := []) (As := [.int (r_4 - 4), .int r_12, .int r_31]) (rest := []) C G (c_m_does l T mo m_all m_has i_size i_next i_where i_token i_number i_word i_wrong i_farCrossing m_read i_z0 i_crossings i_inns m_posts m_shut m_here i_steps i_done i_at i_gone m_was m_came m_seenAt m_rowWorth m_farBy m_used i_everywhere i_again0 i_d0 i_never i_firstCame i_longRun i_moved i_crowd i_l0 i_fitMany i_fitLeast i_fitMost m_fitPost m_fitEnd m_keptPosts j_x0_28 f_all f_posts f_shut f_here f_was (r_4 - 4) r_12 r_31 (by first | with_reducible assumption | with_reducible rfl | omega | assumption | rfl | decide) (by first | with_reducible assumption | with_reducible rfl | omega | assumption | rfl | decide)) (kV_RX12_345 C.2.2.2.2 (Nat.le_of_ble_eq_true rfl) (Nat.le_of_ble_eq_true rfl)) [5, 0, 1, 2, 3, 4] [0, 0, 0, 0, 0, 0] rfl rfl (ci := 11) (qc := (RX12, TX12, 43)) rfl rfl (List.mem_flatten.mpr ⟨_, List.mem_of_getElem? (i := 0) rfl, List.mem_cons_self⟩) rfl rfl hl.1 dX12_draws_76 (Nat.le_of_ble_eq_true rfl) (Nat.le_of_ble_eq_true rfl) (fun r_45 b1 H locs hw G => ?_)
            refine zEx11 hw ?_
            intro j_at_32 j_gone_33 j_steps_34 j_moved_35 j_firstCame_36 j_never_37 j_longRun_38 g_posts_39 g_shut_40 g_here_41 g_was_42
            refine zCu3 ?_
            intro hbs9 h_43 h_44
            clear hw
            subst hbs9
            have G : zS T A s.heap s [[zO11 mo m_all m_has i_size i_next i_where i_token i_number i_word i_wrong i_farCrossing m_read i_z0 i_crossings i_inns m_posts m_shut m_here j_steps_34 i_done j_at_32 j_gone_33 m_was m_came m_seenAt m_rowWorth m_farBy m_used i_everywhere i_again0 i_d0 j_never_37 j_firstCame_36 j_longRun_38 j_moved_35 i_crowd i_l0 i_fitMany i_fitLeast i_fitMost m_fitPost m_fitEnd m_keptPosts j_x0_28], [zAr T 0 m_all 3952 f_all], [zAr T 0 m_posts 7 g_posts_39], [zAr T 0 m_shut 7 g_shut_40], [zAr T 0 m_here 7 g_here_41], [zAr T 0 m_was 7 g_was_42]] _ _ := G
            replace h_43 : zHd ((r_45 = 0 ∨ r_45 = 1)) := h_43
            refine lv_pop hx hb dX12_draws_79 rfl ?_
            exact z_back hQz_ (z_vret C hr hlocks G (Nat.le_of_ble_eq_true rfl) (Nat.le_of_ble_eq_true rfl) dX12_draws_80 ⟨j_at_32, j_gone_33, j_steps_34, j_moved_35, j_firstCame_36, j_never_37, j_longRun_38, j_x0_28, g_posts_39, g_shut_40, g_here_41, g_was_42, rfl, (by first | with_reducible assumption | omega | trivial | assumption)⟩)
        · have c_8n : ¬ (8 : Int) ≤ r_4.toInt := fun q => c_8 ((fa_le _ _).mpr q)
          refine lv_iconst (v := 3) hx hb dX12_draws_42 (by decide) ?_
          refine lv_goto (tgt := 49) hx hb dX12_draws_43 (by decide) ?_
          refine lv_istore_n (lv' := [(2, .int 3), (1, .int r_4), (0, .ref mo)]) hx hb dX12_draws_49 rfl hl (by decide) (zLvf_h rfl) (fun ls hl => ?_)
          refine lv_aload_n hx hb dX12_draws_50 rfl (lv_at hl 2 rfl) ?_
          refine lv_aload_n hx hb dX12_draws_51 rfl (lv_at hl 2 rfl) ?_
          refine z_get C G clX12 5 rfl 12 (by decide) m_fl_RX12_169 rfl dX12_draws_52 ?_
          refine z_Vi (bc := [[zO11 mo m_all m_has i_size i_next i_where i_token i_number i_word i_wrong i_farCrossing m_read i_z0 i_crossings i_inns m_posts m_shut m_here i_steps i_done i_at i_gone m_was m_came m_seenAt m_rowWorth m_farBy m_used i_everywhere i_again0 i_d0 i_never i_firstCame i_longRun i_moved i_crowd i_l0 i_fitMany i_fitLeast i_fitMost m_fitPost m_fitEnd m_keptPosts j_x0_1]]) (br := [[zAr T 0 m_all 3952 f_all], [zAr T 0 m_posts 7 f_posts], [zAr T 0 m_shut 7 f_shut], [zAr T 0 m_here 7 f_here], [zAr T 0 m_was 7 f_was]]) (As := [.int i_crossings]) (rest := []) C G (c_m_below l T mo m_all m_has i_size i_next i_where i_token i_number i_word i_wrong i_farCrossing m_read i_z0 i_crossings i_inns m_posts m_shut m_here i_steps i_done i_at i_gone m_was m_came m_seenAt m_rowWorth m_farBy m_used i_everywhere i_again0 i_d0 i_never i_firstCame i_longRun i_moved i_crowd i_l0 i_fitMany i_fitLeast i_fitMost m_fitPost m_fitEnd m_keptPosts j_x0_1 i_crossings (by first | with_reducible assumption | with_reducible rfl | omega | assumption | rfl | decide) (by first | with_reducible assumption | with_reducible rfl | omega | assumption | rfl | decide)) (kV_RX12_398 C.2.2.2.2 (Nat.le_of_ble_eq_true rfl) (Nat.le_of_ble_eq_true rfl)) [5] [5] rfl rfl (ci := 11) (qc := (RX12, TX12, 43)) rfl rfl (List.mem_flatten.mpr ⟨_, List.mem_of_getElem? (i := 0) rfl, List.mem_cons_self⟩) rfl rfl hl.1 dX12_draws_55 (Nat.le_of_ble_eq_true rfl) (Nat.le_of_ble_eq_true rfl) (fun r_49 b1 H locs hw G => ?_)
          refine zEx1 hw ?_
          intro j_x0_46
          refine zCu3 ?_
          intro hbs9 h_47 h_48
          clear hw
          subst hbs9
          have G : zS T A s.heap s [[zAr T 0 m_all 3952 f_all], [zAr T 0 m_posts 7 f_posts], [zAr T 0 m_shut 7 f_shut], [zAr T 0 m_here 7 f_here], [zAr T 0 m_was 7 f_was], [zO11 mo m_all m_has i_size i_next i_where i_token i_number i_word i_wrong i_farCrossing m_read i_z0 i_crossings i_inns m_posts m_shut m_here i_steps i_done i_at i_gone m_was m_came m_seenAt m_rowWorth m_farBy m_used i_everywhere i_again0 i_d0 i_never i_firstCame i_longRun i_moved i_crowd i_l0 i_fitMany i_fitLeast i_fitMost m_fitPost m_fitEnd m_keptPosts j_x0_46]] _ _ := G
          refine lv_istore_n (lv' := [(3, .int r_49), (2, .int 3), (1, .int r_4), (0, .ref mo)]) hx hb dX12_draws_58 rfl hl (by decide) (zLvf_h rfl) (fun ls hl => ?_)
          refine lv_aload_n hx hb dX12_draws_59 rfl (lv_at hl 3 rfl) ?_
          refine lv_iload_n hx hb dX12_draws_60 rfl (lv_at hl 1 rfl) ?_
          refine lv_iload_n hx hb dX12_draws_61 rfl (lv_at hl 0 rfl) ?_
          refine lv_iload_n hx hb dX12_draws_62 rfl (lv_at hl 1 rfl) ?_
          refine lv_iconst (v := 3) hx hb dX12_draws_63 (by decide) ?_
          refine lv_icmp_le (tgt := 75) hx hb dX12_draws_64 (by decide) (fun _ => ?_) (fun q => absurd (by decide) q)
          refine lv_iconst (v := (-1)) hx hb dX12_draws_75 (by decide) ?_
          refine z_Vi (bc := [[zO11 mo m_all m_has i_size i_next i_where i_token i_number i_word i_wrong i_farCrossing m_read i_z0 i_crossings i_inns m_posts m_shut m_here i_steps i_done i_at i_gone m_was m_came m_seenAt m_rowWorth m_farBy m_used i_everywhere i_again0 i_d0 i_never i_firstCame i_longRun i_moved i_crowd i_l0 i_fitMany i_fitLeast i_fitMost m_fitPost m_fitEnd m_keptPosts j_x0_46], [zAr T 0 m_all 3952 f_all], [zAr T 0 m_posts 7 f_posts], [zAr T 0 m_shut 7 f_shut], [zAr T 0 m_here 7 f_here], [zAr T 0 m_was 7 f_was]]) (br := []) (As := [.int 3, .int r_49, .int (-1)]) (rest := []) C G (c_m_does l T mo m_all m_has i_size i_next i_where i_token i_number i_word i_wrong i_farCrossing m_read i_z0 i_crossings i_inns m_posts m_shut m_here i_steps i_done i_at i_gone m_was m_came m_seenAt m_rowWorth m_farBy m_used i_everywhere i_again0 i_d0 i_never i_firstCame i_longRun i_moved i_crowd i_l0 i_fitMany i_fitLeast i_fitMost m_fitPost m_fitEnd m_keptPosts j_x0_46 f_all f_posts f_shut f_here f_was 3 r_49 (-1) (by first | with_reducible assumption | with_reducible rfl | omega | assumption | rfl | decide) (by first | with_reducible assumption | with_reducible rfl | omega | assumption | rfl | decide)) (kV_RX12_345 C.2.2.2.2 (Nat.le_of_ble_eq_true rfl) (Nat.le_of_ble_eq_true rfl)) [5, 0, 1, 2, 3, 4] [0, 0, 0, 0, 0, 0] rfl rfl (ci := 11) (qc := (RX12, TX12, 43)) rfl rfl (List.mem_flatten.mpr ⟨_, List.mem_of_getElem? (i := 0) rfl, List.mem_cons_self⟩) rfl rfl hl.1 dX12_draws_76 (Nat.le_of_ble_eq_true rfl) (Nat.le_of_ble_eq_true rfl) (fun r_63 b1 H locs hw G => ?_)
          refine zEx11 hw ?_
          intro j_at_50 j_gone_51 j_steps_52 j_moved_53 j_firstCame_54 j_never_55 j_longRun_56 g_posts_57 g_shut_58 g_here_59 g_was_60
          refine zCu3 ?_
          intro hbs9 h_61 h_62
          clear hw
          subst hbs9
          have G : zS T A s.heap s [[zO11 mo m_all m_has i_size i_next i_where i_token i_number i_word i_wrong i_farCrossing m_read i_z0 i_crossings i_inns m_posts m_shut m_here j_steps_52 i_done j_at_50 j_gone_51 m_was m_came m_seenAt m_rowWorth m_farBy m_used i_everywhere i_again0 i_d0 j_never_55 j_firstCame_54 j_longRun_56 j_moved_53 i_crowd i_l0 i_fitMany i_fitLeast i_fitMost m_fitPost m_fitEnd m_keptPosts j_x0_46], [zAr T 0 m_all 3952 f_all], [zAr T 0 m_posts 7 g_posts_57], [zAr T 0 m_shut 7 g_shut_58], [zAr T 0 m_here 7 g_here_59], [zAr T 0 m_was 7 g_was_60]] _ _ := G
          replace h_61 : zHd ((r_63 = 0 ∨ r_63 = 1)) := h_61
          refine lv_pop hx hb dX12_draws_79 rfl ?_
          exact z_back hQz_ (z_vret C hr hlocks G (Nat.le_of_ble_eq_true rfl) (Nat.le_of_ble_eq_true rfl) dX12_draws_80 ⟨j_at_50, j_gone_51, j_steps_52, j_moved_53, j_firstCame_54, j_never_55, j_longRun_56, j_x0_46, g_posts_57, g_shut_58, g_here_59, g_was_60, rfl, (by first | with_reducible assumption | omega | trivial | assumption)⟩)
      · have c_7n : ¬ (6 : Int) ≤ r_4.toInt := fun q => c_7 ((fa_le _ _).mpr q)
        refine lv_iload_n hx hb dX12_draws_30 rfl (lv_at hl 0 rfl) ?_
        refine lv_iconst (v := 3) hx hb dX12_draws_31 (by decide) ?_
        refine lv_isub hx hb dX12_draws_32 ?_
        refine lv_goto (tgt := 49) hx hb dX12_draws_33 (by decide) ?_
        refine lv_istore_n (lv' := [(2, .int (r_4 - 3)), (1, .int r_4), (0, .ref mo)]) hx hb dX12_draws_49 rfl hl (by decide) (zLvf_h rfl) (fun ls hl => ?_)
        refine lv_aload_n hx hb dX12_draws_50 rfl (lv_at hl 2 rfl) ?_
        refine lv_aload_n hx hb dX12_draws_51 rfl (lv_at hl 2 rfl) ?_
        refine z_get C G clX12 5 rfl 12 (by decide) m_fl_RX12_169 rfl dX12_draws_52 ?_
        refine z_Vi (bc := [[zO11 mo m_all m_has i_size i_next i_where i_token i_number i_word i_wrong i_farCrossing m_read i_z0 i_crossings i_inns m_posts m_shut m_here i_steps i_done i_at i_gone m_was m_came m_seenAt m_rowWorth m_farBy m_used i_everywhere i_again0 i_d0 i_never i_firstCame i_longRun i_moved i_crowd i_l0 i_fitMany i_fitLeast i_fitMost m_fitPost m_fitEnd m_keptPosts j_x0_1]]) (br := [[zAr T 0 m_all 3952 f_all], [zAr T 0 m_posts 7 f_posts], [zAr T 0 m_shut 7 f_shut], [zAr T 0 m_here 7 f_here], [zAr T 0 m_was 7 f_was]]) (As := [.int i_crossings]) (rest := []) C G (c_m_below l T mo m_all m_has i_size i_next i_where i_token i_number i_word i_wrong i_farCrossing m_read i_z0 i_crossings i_inns m_posts m_shut m_here i_steps i_done i_at i_gone m_was m_came m_seenAt m_rowWorth m_farBy m_used i_everywhere i_again0 i_d0 i_never i_firstCame i_longRun i_moved i_crowd i_l0 i_fitMany i_fitLeast i_fitMost m_fitPost m_fitEnd m_keptPosts j_x0_1 i_crossings (by first | with_reducible assumption | with_reducible rfl | omega | assumption | rfl | decide) (by first | with_reducible assumption | with_reducible rfl | omega | assumption | rfl | decide)) (kV_RX12_398 C.2.2.2.2 (Nat.le_of_ble_eq_true rfl) (Nat.le_of_ble_eq_true rfl)) [5] [5] rfl rfl (ci := 11) (qc := (RX12, TX12, 43)) rfl rfl (List.mem_flatten.mpr ⟨_, List.mem_of_getElem? (i := 0) rfl, List.mem_cons_self⟩) rfl rfl hl.1 dX12_draws_55 (Nat.le_of_ble_eq_true rfl) (Nat.le_of_ble_eq_true rfl) (fun r_67 b1 H locs hw G => ?_)
        refine zEx1 hw ?_
        intro j_x0_64
        refine zCu3 ?_
        intro hbs9 h_65 h_66
        clear hw
        subst hbs9
        have G : zS T A s.heap s [[zAr T 0 m_all 3952 f_all], [zAr T 0 m_posts 7 f_posts], [zAr T 0 m_shut 7 f_shut], [zAr T 0 m_here 7 f_here], [zAr T 0 m_was 7 f_was], [zO11 mo m_all m_has i_size i_next i_where i_token i_number i_word i_wrong i_farCrossing m_read i_z0 i_crossings i_inns m_posts m_shut m_here i_steps i_done i_at i_gone m_was m_came m_seenAt m_rowWorth m_farBy m_used i_everywhere i_again0 i_d0 i_never i_firstCame i_longRun i_moved i_crowd i_l0 i_fitMany i_fitLeast i_fitMost m_fitPost m_fitEnd m_keptPosts j_x0_64]] _ _ := G
        refine lv_istore_n (lv' := [(3, .int r_67), (2, .int (r_4 - 3)), (1, .int r_4), (0, .ref mo)]) hx hb dX12_draws_58 rfl hl (by decide) (zLvf_h rfl) (fun ls hl => ?_)
        refine lv_aload_n hx hb dX12_draws_59 rfl (lv_at hl 3 rfl) ?_
        refine lv_iload_n hx hb dX12_draws_60 rfl (lv_at hl 1 rfl) ?_
        refine lv_iload_n hx hb dX12_draws_61 rfl (lv_at hl 0 rfl) ?_
        refine lv_iload_n hx hb dX12_draws_62 rfl (lv_at hl 1 rfl) ?_
        refine lv_iconst (v := 3) hx hb dX12_draws_63 (by decide) ?_
        refine lv_icmp_le (tgt := 75) hx hb dX12_draws_64 (by decide) (fun c_68 => ?_) (fun c_68 => ?_)
        · have c_68n : (r_4 - 3).toInt ≤ (3 : Int) := (fa_le _ _).mp c_68
          refine lv_iconst (v := (-1)) hx hb dX12_draws_75 (by decide) ?_
          refine z_Vi (bc := [[zO11 mo m_all m_has i_size i_next i_where i_token i_number i_word i_wrong i_farCrossing m_read i_z0 i_crossings i_inns m_posts m_shut m_here i_steps i_done i_at i_gone m_was m_came m_seenAt m_rowWorth m_farBy m_used i_everywhere i_again0 i_d0 i_never i_firstCame i_longRun i_moved i_crowd i_l0 i_fitMany i_fitLeast i_fitMost m_fitPost m_fitEnd m_keptPosts j_x0_64], [zAr T 0 m_all 3952 f_all], [zAr T 0 m_posts 7 f_posts], [zAr T 0 m_shut 7 f_shut], [zAr T 0 m_here 7 f_here], [zAr T 0 m_was 7 f_was]]) (br := []) (As := [.int (r_4 - 3), .int r_67, .int (-1)]) (rest := []) C G (c_m_does l T mo m_all m_has i_size i_next i_where i_token i_number i_word i_wrong i_farCrossing m_read i_z0 i_crossings i_inns m_posts m_shut m_here i_steps i_done i_at i_gone m_was m_came m_seenAt m_rowWorth m_farBy m_used i_everywhere i_again0 i_d0 i_never i_firstCame i_longRun i_moved i_crowd i_l0 i_fitMany i_fitLeast i_fitMost m_fitPost m_fitEnd m_keptPosts j_x0_64 f_all f_posts f_shut f_here f_was (r_4 - 3) r_67 (-1) (by first | with_reducible assumption | with_reducible rfl | omega | assumption | rfl | decide) (by first | with_reducible assumption | with_reducible rfl | omega | assumption | rfl | decide)) (kV_RX12_345 C.2.2.2.2 (Nat.le_of_ble_eq_true rfl) (Nat.le_of_ble_eq_true rfl)) [5, 0, 1, 2, 3, 4] [0, 0, 0, 0, 0, 0] rfl rfl (ci := 11) (qc := (RX12, TX12, 43)) rfl rfl (List.mem_flatten.mpr ⟨_, List.mem_of_getElem? (i := 0) rfl, List.mem_cons_self⟩) rfl rfl hl.1 dX12_draws_76 (Nat.le_of_ble_eq_true rfl) (Nat.le_of_ble_eq_true rfl) (fun r_82 b1 H locs hw G => ?_)
          refine zEx11 hw ?_
          intro j_at_69 j_gone_70 j_steps_71 j_moved_72 j_firstCame_73 j_never_74 j_longRun_75 g_posts_76 g_shut_77 g_here_78 g_was_79
          refine zCu3 ?_
          intro hbs9 h_80 h_81
          clear hw
          subst hbs9
          have G : zS T A s.heap s [[zO11 mo m_all m_has i_size i_next i_where i_token i_number i_word i_wrong i_farCrossing m_read i_z0 i_crossings i_inns m_posts m_shut m_here j_steps_71 i_done j_at_69 j_gone_70 m_was m_came m_seenAt m_rowWorth m_farBy m_used i_everywhere i_again0 i_d0 j_never_74 j_firstCame_73 j_longRun_75 j_moved_72 i_crowd i_l0 i_fitMany i_fitLeast i_fitMost m_fitPost m_fitEnd m_keptPosts j_x0_64], [zAr T 0 m_all 3952 f_all], [zAr T 0 m_posts 7 g_posts_76], [zAr T 0 m_shut 7 g_shut_77], [zAr T 0 m_here 7 g_here_78], [zAr T 0 m_was 7 g_was_79]] _ _ := G
          replace h_80 : zHd ((r_82 = 0 ∨ r_82 = 1)) := h_80
          refine lv_pop hx hb dX12_draws_79 rfl ?_
          exact z_back hQz_ (z_vret C hr hlocks G (Nat.le_of_ble_eq_true rfl) (Nat.le_of_ble_eq_true rfl) dX12_draws_80 ⟨j_at_69, j_gone_70, j_steps_71, j_moved_72, j_firstCame_73, j_never_74, j_longRun_75, j_x0_64, g_posts_76, g_shut_77, g_here_78, g_was_79, rfl, (by first | with_reducible assumption | omega | trivial | assumption)⟩)
        · have c_68n : ¬ (r_4 - 3).toInt ≤ (3 : Int) := fun q => c_68 ((fa_le _ _).mpr q)
          refine lv_aload_n hx hb dX12_draws_67 rfl (lv_at hl 3 rfl) ?_
          refine lv_iconst (v := 4) hx hb dX12_draws_68 (by decide) ?_
          refine z_Vi (bc := [[zO11 mo m_all m_has i_size i_next i_where i_token i_number i_word i_wrong i_farCrossing m_read i_z0 i_crossings i_inns m_posts m_shut m_here i_steps i_done i_at i_gone m_was m_came m_seenAt m_rowWorth m_farBy m_used i_everywhere i_again0 i_d0 i_never i_firstCame i_longRun i_moved i_crowd i_l0 i_fitMany i_fitLeast i_fitMost m_fitPost m_fitEnd m_keptPosts j_x0_64]]) (br := [[zAr T 0 m_all 3952 f_all], [zAr T 0 m_posts 7 f_posts], [zAr T 0 m_shut 7 f_shut], [zAr T 0 m_here 7 f_here], [zAr T 0 m_was 7 f_was]]) (As := [.int 4]) (rest := [.int r_67, .int (r_4 - 3), .ref mo]) C G (c_m_below l T mo m_all m_has i_size i_next i_where i_token i_number i_word i_wrong i_farCrossing m_read i_z0 i_crossings i_inns m_posts m_shut m_here i_steps i_done i_at i_gone m_was m_came m_seenAt m_rowWorth m_farBy m_used i_everywhere i_again0 i_d0 i_never i_firstCame i_longRun i_moved i_crowd i_l0 i_fitMany i_fitLeast i_fitMost m_fitPost m_fitEnd m_keptPosts j_x0_64 4 (by first | with_reducible assumption | with_reducible rfl | omega | assumption | rfl | decide) (by first | with_reducible assumption | with_reducible rfl | omega | assumption | rfl | decide)) (kV_RX12_398 C.2.2.2.2 (Nat.le_of_ble_eq_true rfl) (Nat.le_of_ble_eq_true rfl)) [5] [5] rfl rfl (ci := 11) (qc := (RX12, TX12, 43)) rfl rfl (List.mem_flatten.mpr ⟨_, List.mem_of_getElem? (i := 0) rfl, List.mem_cons_self⟩) rfl rfl hl.1 dX12_draws_69 (Nat.le_of_ble_eq_true rfl) (Nat.le_of_ble_eq_true rfl) (fun r_86 b1 H locs hw G => ?_)
          refine zEx1 hw ?_
          intro j_x0_83
          refine zCu3 ?_
          intro hbs9 h_84 h_85
          clear hw
          subst hbs9
          have G : zS T A s.heap s [[zAr T 0 m_all 3952 f_all], [zAr T 0 m_posts 7 f_posts], [zAr T 0 m_shut 7 f_shut], [zAr T 0 m_here 7 f_here], [zAr T 0 m_was 7 f_was], [zO11 mo m_all m_has i_size i_next i_where i_token i_number i_word i_wrong i_farCrossing m_read i_z0 i_crossings i_inns m_posts m_shut m_here i_steps i_done i_at i_gone m_was m_came m_seenAt m_rowWorth m_farBy m_used i_everywhere i_again0 i_d0 i_never i_firstCame i_longRun i_moved i_crowd i_l0 i_fitMany i_fitLeast i_fitMost m_fitPost m_fitEnd m_keptPosts j_x0_83]] _ _ := G
          have h_85 : r_86.toInt < (4 : Int) := h_85
          refine lv_goto (tgt := 76) hx hb dX12_draws_72 (by decide) ?_
          refine z_Vi (bc := [[zO11 mo m_all m_has i_size i_next i_where i_token i_number i_word i_wrong i_farCrossing m_read i_z0 i_crossings i_inns m_posts m_shut m_here i_steps i_done i_at i_gone m_was m_came m_seenAt m_rowWorth m_farBy m_used i_everywhere i_again0 i_d0 i_never i_firstCame i_longRun i_moved i_crowd i_l0 i_fitMany i_fitLeast i_fitMost m_fitPost m_fitEnd m_keptPosts j_x0_83], [zAr T 0 m_all 3952 f_all], [zAr T 0 m_posts 7 f_posts], [zAr T 0 m_shut 7 f_shut], [zAr T 0 m_here 7 f_here], [zAr T 0 m_was 7 f_was]]) (br := []) (As := [.int (r_4 - 3), .int r_67, .int r_86]) (rest := []) C G (c_m_does l T mo m_all m_has i_size i_next i_where i_token i_number i_word i_wrong i_farCrossing m_read i_z0 i_crossings i_inns m_posts m_shut m_here i_steps i_done i_at i_gone m_was m_came m_seenAt m_rowWorth m_farBy m_used i_everywhere i_again0 i_d0 i_never i_firstCame i_longRun i_moved i_crowd i_l0 i_fitMany i_fitLeast i_fitMost m_fitPost m_fitEnd m_keptPosts j_x0_83 f_all f_posts f_shut f_here f_was (r_4 - 3) r_67 r_86 (by first | with_reducible assumption | with_reducible rfl | omega | assumption | rfl | decide) (by first | with_reducible assumption | with_reducible rfl | omega | assumption | rfl | decide)) (kV_RX12_345 C.2.2.2.2 (Nat.le_of_ble_eq_true rfl) (Nat.le_of_ble_eq_true rfl)) [5, 0, 1, 2, 3, 4] [0, 0, 0, 0, 0, 0] rfl rfl (ci := 11) (qc := (RX12, TX12, 43)) rfl rfl (List.mem_flatten.mpr ⟨_, List.mem_of_getElem? (i := 0) rfl, List.mem_cons_self⟩) rfl rfl hl.1 dX12_draws_76 (Nat.le_of_ble_eq_true rfl) (Nat.le_of_ble_eq_true rfl) (fun r_100 b1 H locs hw G => ?_)
          refine zEx11 hw ?_
          intro j_at_87 j_gone_88 j_steps_89 j_moved_90 j_firstCame_91 j_never_92 j_longRun_93 g_posts_94 g_shut_95 g_here_96 g_was_97
          refine zCu3 ?_
          intro hbs9 h_98 h_99
          clear hw
          subst hbs9
          have G : zS T A s.heap s [[zO11 mo m_all m_has i_size i_next i_where i_token i_number i_word i_wrong i_farCrossing m_read i_z0 i_crossings i_inns m_posts m_shut m_here j_steps_89 i_done j_at_87 j_gone_88 m_was m_came m_seenAt m_rowWorth m_farBy m_used i_everywhere i_again0 i_d0 j_never_92 j_firstCame_91 j_longRun_93 j_moved_90 i_crowd i_l0 i_fitMany i_fitLeast i_fitMost m_fitPost m_fitEnd m_keptPosts j_x0_83], [zAr T 0 m_all 3952 f_all], [zAr T 0 m_posts 7 g_posts_94], [zAr T 0 m_shut 7 g_shut_95], [zAr T 0 m_here 7 g_here_96], [zAr T 0 m_was 7 g_was_97]] _ _ := G
          replace h_98 : zHd ((r_100 = 0 ∨ r_100 = 1)) := h_98
          refine lv_pop hx hb dX12_draws_79 rfl ?_
          exact z_back hQz_ (z_vret C hr hlocks G (Nat.le_of_ble_eq_true rfl) (Nat.le_of_ble_eq_true rfl) dX12_draws_80 ⟨j_at_87, j_gone_88, j_steps_89, j_moved_90, j_firstCame_91, j_never_92, j_longRun_93, j_x0_83, g_posts_94, g_shut_95, g_here_96, g_was_97, rfl, (by first | with_reducible assumption | omega | trivial | assumption)⟩)
    · have c_6n : ¬ (4 : Int) ≤ r_4.toInt := fun q => c_6 ((fa_le _ _).mpr q)
      refine lv_iconst (v := 0) hx hb dX12_draws_20 (by decide) ?_
      refine lv_goto (tgt := 49) hx hb dX12_draws_21 (by decide) ?_
      refine lv_istore_n (lv' := [(2, .int 0), (1, .int r_4), (0, .ref mo)]) hx hb dX12_draws_49 rfl hl (by decide) (zLvf_h rfl) (fun ls hl => ?_)
      refine lv_aload_n hx hb dX12_draws_50 rfl (lv_at hl 2 rfl) ?_
      refine lv_aload_n hx hb dX12_draws_51 rfl (lv_at hl 2 rfl) ?_
      refine z_get C G clX12 5 rfl 12 (by decide) m_fl_RX12_169 rfl dX12_draws_52 ?_
      refine z_Vi (bc := [[zO11 mo m_all m_has i_size i_next i_where i_token i_number i_word i_wrong i_farCrossing m_read i_z0 i_crossings i_inns m_posts m_shut m_here i_steps i_done i_at i_gone m_was m_came m_seenAt m_rowWorth m_farBy m_used i_everywhere i_again0 i_d0 i_never i_firstCame i_longRun i_moved i_crowd i_l0 i_fitMany i_fitLeast i_fitMost m_fitPost m_fitEnd m_keptPosts j_x0_1]]) (br := [[zAr T 0 m_all 3952 f_all], [zAr T 0 m_posts 7 f_posts], [zAr T 0 m_shut 7 f_shut], [zAr T 0 m_here 7 f_here], [zAr T 0 m_was 7 f_was]]) (As := [.int i_crossings]) (rest := []) C G (c_m_below l T mo m_all m_has i_size i_next i_where i_token i_number i_word i_wrong i_farCrossing m_read i_z0 i_crossings i_inns m_posts m_shut m_here i_steps i_done i_at i_gone m_was m_came m_seenAt m_rowWorth m_farBy m_used i_everywhere i_again0 i_d0 i_never i_firstCame i_longRun i_moved i_crowd i_l0 i_fitMany i_fitLeast i_fitMost m_fitPost m_fitEnd m_keptPosts j_x0_1 i_crossings (by first | with_reducible assumption | with_reducible rfl | omega | assumption | rfl | decide) (by first | with_reducible assumption | with_reducible rfl | omega | assumption | rfl | decide)) (kV_RX12_398 C.2.2.2.2 (Nat.le_of_ble_eq_true rfl) (Nat.le_of_ble_eq_true rfl)) [5] [5] rfl rfl (ci := 11) (qc := (RX12, TX12, 43)) rfl rfl (List.mem_flatten.mpr ⟨_, List.mem_of_getElem? (i := 0) rfl, List.mem_cons_self⟩) rfl rfl hl.1 dX12_draws_55 (Nat.le_of_ble_eq_true rfl) (Nat.le_of_ble_eq_true rfl) (fun r_104 b1 H locs hw G => ?_)
      refine zEx1 hw ?_
      intro j_x0_101
      refine zCu3 ?_
      intro hbs9 h_102 h_103
      clear hw
      subst hbs9
      have G : zS T A s.heap s [[zAr T 0 m_all 3952 f_all], [zAr T 0 m_posts 7 f_posts], [zAr T 0 m_shut 7 f_shut], [zAr T 0 m_here 7 f_here], [zAr T 0 m_was 7 f_was], [zO11 mo m_all m_has i_size i_next i_where i_token i_number i_word i_wrong i_farCrossing m_read i_z0 i_crossings i_inns m_posts m_shut m_here i_steps i_done i_at i_gone m_was m_came m_seenAt m_rowWorth m_farBy m_used i_everywhere i_again0 i_d0 i_never i_firstCame i_longRun i_moved i_crowd i_l0 i_fitMany i_fitLeast i_fitMost m_fitPost m_fitEnd m_keptPosts j_x0_101]] _ _ := G
      refine lv_istore_n (lv' := [(3, .int r_104), (2, .int 0), (1, .int r_4), (0, .ref mo)]) hx hb dX12_draws_58 rfl hl (by decide) (zLvf_h rfl) (fun ls hl => ?_)
      refine lv_aload_n hx hb dX12_draws_59 rfl (lv_at hl 3 rfl) ?_
      refine lv_iload_n hx hb dX12_draws_60 rfl (lv_at hl 1 rfl) ?_
      refine lv_iload_n hx hb dX12_draws_61 rfl (lv_at hl 0 rfl) ?_
      refine lv_iload_n hx hb dX12_draws_62 rfl (lv_at hl 1 rfl) ?_
      refine lv_iconst (v := 3) hx hb dX12_draws_63 (by decide) ?_
      refine lv_icmp_le (tgt := 75) hx hb dX12_draws_64 (by decide) (fun _ => ?_) (fun q => absurd (by decide) q)
      refine lv_iconst (v := (-1)) hx hb dX12_draws_75 (by decide) ?_
      refine z_Vi (bc := [[zO11 mo m_all m_has i_size i_next i_where i_token i_number i_word i_wrong i_farCrossing m_read i_z0 i_crossings i_inns m_posts m_shut m_here i_steps i_done i_at i_gone m_was m_came m_seenAt m_rowWorth m_farBy m_used i_everywhere i_again0 i_d0 i_never i_firstCame i_longRun i_moved i_crowd i_l0 i_fitMany i_fitLeast i_fitMost m_fitPost m_fitEnd m_keptPosts j_x0_101], [zAr T 0 m_all 3952 f_all], [zAr T 0 m_posts 7 f_posts], [zAr T 0 m_shut 7 f_shut], [zAr T 0 m_here 7 f_here], [zAr T 0 m_was 7 f_was]]) (br := []) (As := [.int 0, .int r_104, .int (-1)]) (rest := []) C G (c_m_does l T mo m_all m_has i_size i_next i_where i_token i_number i_word i_wrong i_farCrossing m_read i_z0 i_crossings i_inns m_posts m_shut m_here i_steps i_done i_at i_gone m_was m_came m_seenAt m_rowWorth m_farBy m_used i_everywhere i_again0 i_d0 i_never i_firstCame i_longRun i_moved i_crowd i_l0 i_fitMany i_fitLeast i_fitMost m_fitPost m_fitEnd m_keptPosts j_x0_101 f_all f_posts f_shut f_here f_was 0 r_104 (-1) (by first | with_reducible assumption | with_reducible rfl | omega | assumption | rfl | decide) (by first | with_reducible assumption | with_reducible rfl | omega | assumption | rfl | decide)) (kV_RX12_345 C.2.2.2.2 (Nat.le_of_ble_eq_true rfl) (Nat.le_of_ble_eq_true rfl)) [5, 0, 1, 2, 3, 4] [0, 0, 0, 0, 0, 0] rfl rfl (ci := 11) (qc := (RX12, TX12, 43)) rfl rfl (List.mem_flatten.mpr ⟨_, List.mem_of_getElem? (i := 0) rfl, List.mem_cons_self⟩) rfl rfl hl.1 dX12_draws_76 (Nat.le_of_ble_eq_true rfl) (Nat.le_of_ble_eq_true rfl) (fun r_118 b1 H locs hw G => ?_)
      refine zEx11 hw ?_
      intro j_at_105 j_gone_106 j_steps_107 j_moved_108 j_firstCame_109 j_never_110 j_longRun_111 g_posts_112 g_shut_113 g_here_114 g_was_115
      refine zCu3 ?_
      intro hbs9 h_116 h_117
      clear hw
      subst hbs9
      have G : zS T A s.heap s [[zO11 mo m_all m_has i_size i_next i_where i_token i_number i_word i_wrong i_farCrossing m_read i_z0 i_crossings i_inns m_posts m_shut m_here j_steps_107 i_done j_at_105 j_gone_106 m_was m_came m_seenAt m_rowWorth m_farBy m_used i_everywhere i_again0 i_d0 j_never_110 j_firstCame_109 j_longRun_111 j_moved_108 i_crowd i_l0 i_fitMany i_fitLeast i_fitMost m_fitPost m_fitEnd m_keptPosts j_x0_101], [zAr T 0 m_all 3952 f_all], [zAr T 0 m_posts 7 g_posts_112], [zAr T 0 m_shut 7 g_shut_113], [zAr T 0 m_here 7 g_here_114], [zAr T 0 m_was 7 g_was_115]] _ _ := G
      replace h_116 : zHd ((r_118 = 0 ∨ r_118 = 1)) := h_116
      refine lv_pop hx hb dX12_draws_79 rfl ?_
      exact z_back hQz_ (z_vret C hr hlocks G (Nat.le_of_ble_eq_true rfl) (Nat.le_of_ble_eq_true rfl) dX12_draws_80 ⟨j_at_105, j_gone_106, j_steps_107, j_moved_108, j_firstCame_109, j_never_110, j_longRun_111, j_x0_101, g_posts_112, g_shut_113, g_here_114, g_was_115, rfl, (by first | with_reducible assumption | omega | trivial | assumption)⟩)
  · have c_5n : i_crossings.toInt = (0 : Int) := (fa_eq _ _).mp c_5
    have G := G.sub (bs' := [[zO11 mo m_all m_has i_size i_next i_where i_token i_number i_word i_wrong i_farCrossing m_read i_z0 i_crossings i_inns m_posts m_shut m_here i_steps i_done i_at i_gone m_was m_came m_seenAt m_rowWorth m_farBy m_used i_everywhere i_again0 i_d0 i_never i_firstCame i_longRun i_moved i_crowd i_l0 i_fitMany i_fitLeast i_fitMost m_fitPost m_fitEnd m_keptPosts j_x0_1], [zAr T 0 m_all 3952 f_all], [zAr T 0 m_posts 7 f_posts], [zAr T 0 m_shut 7 f_shut], [zAr T 0 m_here 7 f_here], [zAr T 0 m_was 7 f_was]]) [5, 0, 1, 2, 3, 4] rfl
    exact z_back hQz_ (z_vret C hr hlocks G (Nat.le_of_ble_eq_true rfl) (Nat.le_of_ble_eq_true rfl) dX12_draws_14 ⟨i_at, i_gone, i_steps, i_moved, i_firstCame, i_never, i_longRun, j_x0_1, f_posts, f_shut, f_here, f_was, rfl, (by first | with_reducible assumption | omega | trivial | assumption)⟩)
set_option maxHeartbeats 4000000 in
set_option maxRecDepth 100000 in
/-- c_m_drawn -/
theorem c_m_drawn (l : Launch) (T : zTy) (mo : Nat) (m_all : Nat) (m_has : Nat) (i_size : Int32) (i_next : Int32) (i_where : Int32) (i_token : Int32) (i_number : Int32) (i_word : Int32) (i_wrong : Int32) (i_farCrossing : Int32) (m_read : Nat) (i_z0 : Int32) (i_crossings : Int32) (i_inns : Int32) (m_posts : Nat) (m_shut : Nat) (m_here : Nat) (i_steps : Int32) (i_done : Int32) (i_at : Int32) (i_gone : Int32) (m_was : Nat) (m_came : Nat) (m_seenAt : Nat) (m_rowWorth : Nat) (m_farBy : Nat) (m_used : Nat) (i_everywhere : Int32) (i_again0 : Int32) (i_d0 : Int32) (i_never : Int32) (i_firstCame : Int32) (i_longRun : Int32) (i_moved : Int32) (i_crowd : Int32) (i_l0 : Int32) (i_fitMany : Int32) (i_fitLeast : Int32) (i_fitMost : Int32) (m_fitPost : Nat) (m_fitEnd : Nat) (m_keptPosts : Nat) (i_x0 : Int32) (f_all : Nat → Int32) (f_posts : Nat → Int32) (f_shut : Nat → Int32) (f_here : Nat → Int32) (f_was : Nat → Int32) (l_ : Int32) (x_ : Int32) (n_ : Int32) (w_ : Int32) (hB : zBI f_all) : zMi l T yX12_drawn cX12_drawn 6 (some .int) 8 0 0 [.ref mo, .int l_, .int x_, .int n_, .int w_] [[zO11 mo m_all m_has i_size i_next i_where i_token i_number i_word i_wrong i_farCrossing m_read i_z0 i_crossings i_inns m_posts m_shut m_here i_steps i_done i_at i_gone m_was m_came m_seenAt m_rowWorth m_farBy m_used i_everywhere i_again0 i_d0 i_never i_firstCame i_longRun i_moved i_crowd i_l0 i_fitMany i_fitLeast i_fitMost m_fitPost m_fitEnd m_keptPosts i_x0], [zAr T 0 m_all 3952 f_all], [zAr T 0 m_posts 7 f_posts], [zAr T 0 m_shut 7 f_shut], [zAr T 0 m_here 7 f_here], [zAr T 0 m_was 7 f_was]] (fun (r : Int32) bs => ∃ (j_z0 : Int32) (j_crossings : Int32) (j_inns : Int32) (j_steps : Int32) (j_done : Int32) (j_at : Int32) (j_gone : Int32) (j_x0 : Int32) (j_never : Int32) (j_firstCame : Int32) (j_longRun : Int32) (j_moved : Int32) (j_crowd : Int32) (g_posts : Nat → Int32) (g_shut : Nat → Int32) (g_here : Nat → Int32) (g_was : Nat → Int32), bs = [[zO11 mo m_all m_has i_size i_next i_where i_token i_number i_word i_wrong i_farCrossing m_read j_z0 j_crossings j_inns m_posts m_shut m_here j_steps j_done j_at j_gone m_was m_came m_seenAt m_rowWorth m_farBy m_used i_everywhere i_again0 i_d0 j_never j_firstCame j_longRun j_moved j_crowd i_l0 i_fitMany i_fitLeast i_fitMost m_fitPost m_fitEnd m_keptPosts j_x0], [zAr T 0 m_all 3952 f_all], [zAr T 0 m_posts 7 g_posts], [zAr T 0 m_shut 7 g_shut], [zAr T 0 m_here 7 g_here], [zAr T 0 m_was 7 g_was]]) := by
  refine zMi_of (own := RX12) (by decide) rfl (Nat.le_of_ble_eq_true rfl) ?_
  intro p e s m args below meth c A ls C hr hlocks hnm hAe G hl
  refine zHide (fun Qz_ hQz_ => ?_)
  have hx := C.1
  have hb := C.2.1
  have hl : lv_has ls 6 [(0, .ref mo), (1, .int l_), (2, .int x_), (3, .int n_), (4, .int w_)] := hl
  refine lv_aload_n hx hb dX12_drawn_0 rfl (lv_at hl 0 rfl) ?_
  refine lv_iload_n hx hb dX12_drawn_1 rfl (lv_at hl 1 rfl) ?_
  refine z_Vi (bc := [[zO11 mo m_all m_has i_size i_next i_where i_token i_number i_word i_wrong i_farCrossing m_read i_z0 i_crossings i_inns m_posts m_shut m_here i_steps i_done i_at i_gone m_was m_came m_seenAt m_rowWorth m_farBy m_used i_everywhere i_again0 i_d0 i_never i_firstCame i_longRun i_moved i_crowd i_l0 i_fitMany i_fitLeast i_fitMost m_fitPost m_fitEnd m_keptPosts i_x0], [zAr T 0 m_all 3952 f_all], [zAr T 0 m_posts 7 f_posts], [zAr T 0 m_shut 7 f_shut], [zAr T 0 m_here 7 f_here]]) (br := [[zAr T 0 m_was 7 f_was]]) (As := [.int l_]) (rest := []) C G (c_m_isLand l T mo m_all m_has i_size i_next i_where i_token i_number i_word i_wrong i_farCrossing m_read i_z0 i_crossings i_inns m_posts m_shut m_here i_steps i_done i_at i_gone m_was m_came m_seenAt m_rowWorth m_farBy m_used i_everywhere i_again0 i_d0 i_never i_firstCame i_longRun i_moved i_crowd i_l0 i_fitMany i_fitLeast i_fitMost m_fitPost m_fitEnd m_keptPosts i_x0 f_all f_posts f_shut f_here l_ (by first | with_reducible assumption | with_reducible rfl | omega | assumption | rfl | decide)) (kV_RX12_184 C.2.2.2.2 (Nat.le_of_ble_eq_true rfl) (Nat.le_of_ble_eq_true rfl)) [0, 1, 2, 3, 4] [0, 0, 0, 0, 0] rfl rfl (ci := 11) (qc := (RX12, TX12, 43)) rfl rfl (List.mem_flatten.mpr ⟨_, List.mem_of_getElem? (i := 0) rfl, List.mem_cons_self⟩) rfl rfl hl.1 dX12_drawn_2 (Nat.le_of_ble_eq_true rfl) (Nat.le_of_ble_eq_true rfl) (fun r_10 b1 H locs hw G => ?_)
  refine zEx8 hw ?_
  intro j_z0_1 j_crossings_2 j_inns_3 j_steps_4 j_done_5 g_posts_6 g_shut_7 g_here_8
  refine zCu2 ?_
  intro hbs9 hc_9
  clear hw
  subst hbs9
  have G : zS T A s.heap s [[zAr T 0 m_was 7 f_was], [zO11 mo m_all m_has i_size i_next i_where i_token i_number i_word i_wrong i_farCrossing m_read j_z0_1 j_crossings_2 j_inns_3 m_posts m_shut m_here j_steps_4 j_done_5 i_at i_gone m_was m_came m_seenAt m_rowWorth m_farBy m_used i_everywhere i_again0 i_d0 i_never i_firstCame i_longRun i_moved i_crowd i_l0 i_fitMany i_fitLeast i_fitMost m_fitPost m_fitEnd m_keptPosts i_x0], [zAr T 0 m_all 3952 f_all], [zAr T 0 m_posts 7 g_posts_6], [zAr T 0 m_shut 7 g_shut_7], [zAr T 0 m_here 7 g_here_8]] _ _ := G
  rcases hc_9 with ⟨rfl, h_11, h_12, h_13, h_14, h_15, h_16, h_17, h_18, h_19, h_20, h_21, h_22⟩ | ⟨rfl, h_23⟩
  · have h_11 : 0 ≤ l_.toInt := h_11
    have h_12 : l_.toInt ≤ 1 := h_12
    have h_13 : l_.toInt < (f_all 0).toInt := h_13
    have h_14 : j_z0_1.toInt = 610 + 51 * l_.toInt := h_14
    have h_15 : zML f_all j_z0_1 j_crossings_2 := h_15
    have h_16 : zMP g_posts_6 := h_16
    have h_17 : j_inns_3 = f_all (j_z0_1.toInt.toNat + 1) := h_17
    have h_18 : j_steps_4 = 0 := h_18
    have h_19 : j_done_5 = 0 := h_19
    have h_20 : (∀ j, j < 7 → g_posts_6 j = zPt f_all j_z0_1 (nI j)) := h_20
    have h_21 : (∀ j, j < 7 → g_shut_7 j = 0) := h_21
    have h_22 : (∀ j, j < 7 → g_here_8 j = zWk f_all j_z0_1 j) := h_22
    have hLx := h_15
    have hcr := hLx.cr
    have hzx := hLx.1
    have hPx := h_16
    have hdn : (j_done_5).toInt = 0 := by rw [h_19]; rfl
    refine lv_if_eq (tgt := 18) hx hb dX12_drawn_5 (by decide) (fun q => absurd q (by decide)) (fun _ => ?_)
    refine lv_iload_n hx hb dX12_drawn_8 rfl (lv_at hl 3 rfl) ?_
    refine lv_iconst (v := 0) hx hb dX12_drawn_9 (by decide) ?_
    refine lv_bipush (v := 60) hx hb dX12_drawn_10 (by decide) ?_
    refine z_Si (bc := []) (br := [[zAr T 0 m_was 7 f_was], [zO11 mo m_all m_has i_size i_next i_where i_token i_number i_word i_wrong i_farCrossing m_read j_z0_1 j_crossings_2 j_inns_3 m_posts m_shut m_here j_steps_4 j_done_5 i_at i_gone m_was m_came m_seenAt m_rowWorth m_farBy m_used i_everywhere i_again0 i_d0 i_never i_firstCame i_longRun i_moved i_crowd i_l0 i_fitMany i_fitLeast i_fitMost m_fitPost m_fitEnd m_keptPosts i_x0], [zAr T 0 m_all 3952 f_all], [zAr T 0 m_posts 7 g_posts_6], [zAr T 0 m_shut 7 g_shut_7], [zAr T 0 m_here 7 g_here_8]]) (As := [.int n_, .int 0, .int 60]) (rest := []) C G (c_m_isIn l T n_ 0 60) (kS_RX12_111 C.2.2.2.2 (Nat.le_of_ble_eq_true rfl) (Nat.le_of_ble_eq_true rfl)) [] [] rfl rfl rfl rfl hl.1 dX12_drawn_12 (Nat.le_of_ble_eq_true rfl) (Nat.le_of_ble_eq_true rfl) (fun r_25 b1 H locs hw G => ?_)
    refine zAn2 hw ?_
    intro hbs9 hc_24
    clear hw
    subst hbs9
    have G : zS T A s.heap s [[zAr T 0 m_was 7 f_was], [zO11 mo m_all m_has i_size i_next i_where i_token i_number i_word i_wrong i_farCrossing m_read j_z0_1 j_crossings_2 j_inns_3 m_posts m_shut m_here j_steps_4 j_done_5 i_at i_gone m_was m_came m_seenAt m_rowWorth m_farBy m_used i_everywhere i_again0 i_d0 i_never i_firstCame i_longRun i_moved i_crowd i_l0 i_fitMany i_fitLeast i_fitMost m_fitPost m_fitEnd m_keptPosts i_x0], [zAr T 0 m_all 3952 f_all], [zAr T 0 m_posts 7 g_posts_6], [zAr T 0 m_shut 7 g_shut_7], [zAr T 0 m_here 7 g_here_8]] _ _ := G
    rcases hc_24 with ⟨rfl, h_26, h_27⟩ | ⟨rfl, h_28⟩
    · have h_26 : (0 : Int) ≤ n_.toInt := h_26
      have h_27 : n_.toInt ≤ (60 : Int) := h_27
      refine lv_if_ne (tgt := 21) hx hb dX12_drawn_15 (by decide) (fun _ => ?_) (fun q => absurd q (by decide))
      refine lv_aload_n hx hb dX12_drawn_21 rfl (lv_at hl 0 rfl) ?_
      refine lv_iload_n hx hb dX12_drawn_22 rfl (lv_at hl 2 rfl) ?_
      refine z_put C G clX12 1 rfl 42 (by decide) m_fl_RX12_394 rfl rfl rfl (Nat.le_of_ble_eq_true rfl) dX12_drawn_23 (fun H locs G => ?_)
      have G : zS T A s.heap s [[zAr T 0 m_was 7 f_was], [zO11 mo m_all m_has i_size i_next i_where i_token i_number i_word i_wrong i_farCrossing m_read j_z0_1 j_crossings_2 j_inns_3 m_posts m_shut m_here j_steps_4 j_done_5 i_at i_gone m_was m_came m_seenAt m_rowWorth m_farBy m_used i_everywhere i_again0 i_d0 i_never i_firstCame i_longRun i_moved i_crowd i_l0 i_fitMany i_fitLeast i_fitMost m_fitPost m_fitEnd m_keptPosts x_], [zAr T 0 m_all 3952 f_all], [zAr T 0 m_posts 7 g_posts_6], [zAr T 0 m_shut 7 g_shut_7], [zAr T 0 m_here 7 g_here_8]] _ _ := G
      refine lv_aload_n hx hb dX12_drawn_26 rfl (lv_at hl 0 rfl) ?_
      refine z_Vv (bc := [[zO11 mo m_all m_has i_size i_next i_where i_token i_number i_word i_wrong i_farCrossing m_read j_z0_1 j_crossings_2 j_inns_3 m_posts m_shut m_here j_steps_4 j_done_5 i_at i_gone m_was m_came m_seenAt m_rowWorth m_farBy m_used i_everywhere i_again0 i_d0 i_never i_firstCame i_longRun i_moved i_crowd i_l0 i_fitMany i_fitLeast i_fitMost m_fitPost m_fitEnd m_keptPosts x_], [zAr T 0 m_here 7 g_here_8]]) (br := [[zAr T 0 m_was 7 f_was], [zAr T 0 m_all 3952 f_all], [zAr T 0 m_posts 7 g_posts_6], [zAr T 0 m_shut 7 g_shut_7]]) (As := []) (rest := []) C G (c_m_beginsDay l T mo m_all m_has i_size i_next i_where i_token i_number i_word i_wrong i_farCrossing m_read j_z0_1 j_crossings_2 j_inns_3 m_posts m_shut m_here j_steps_4 j_done_5 i_at i_gone m_was m_came m_seenAt m_rowWorth m_farBy m_used i_everywhere i_again0 i_d0 i_never i_firstCame i_longRun i_moved i_crowd i_l0 i_fitMany i_fitLeast i_fitMost m_fitPost m_fitEnd m_keptPosts x_ g_here_8 (by first | with_reducible assumption | with_reducible rfl | omega | assumption | rfl | decide)) (kV_RX12_342 C.2.2.2.2 (Nat.le_of_ble_eq_true rfl) (Nat.le_of_ble_eq_true rfl)) [1, 5] [1, 3] rfl rfl (ci := 11) (qc := (RX12, TX12, 43)) rfl rfl (List.mem_flatten.mpr ⟨_, List.mem_of_getElem? (i := 0) rfl, List.mem_cons_self⟩) rfl rfl hl.1 dX12_drawn_27 (Nat.le_of_ble_eq_true rfl) (Nat.le_of_ble_eq_true rfl) (fun b1 H locs hw G => ?_)
      refine zEx5 hw ?_
      intro j_never_29 j_firstCame_30 j_longRun_31 j_moved_32 j_crowd_33
      refine zCu2 ?_
      intro hbs9 h_34
      clear hw
      subst hbs9
      have G : zS T A s.heap s [[zAr T 0 m_was 7 f_was], [zAr T 0 m_all 3952 f_all], [zAr T 0 m_posts 7 g_posts_6], [zAr T 0 m_shut 7 g_shut_7], [zO11 mo m_all m_has i_size i_next i_where i_token i_number i_word i_wrong i_farCrossing m_read j_z0_1 j_crossings_2 j_inns_3 m_posts m_shut m_here j_steps_4 j_done_5 i_at i_gone m_was m_came m_seenAt m_rowWorth m_farBy m_used i_everywhere i_again0 i_d0 j_never_29 j_firstCame_30 j_longRun_31 j_moved_32 j_crowd_33 i_l0 i_fitMany i_fitLeast i_fitMost m_fitPost m_fitEnd m_keptPosts x_], [zAr T 0 m_here 7 g_here_8]] _ _ := G
      refine lv_iconst (v := 0) hx hb dX12_drawn_30 (by decide) ?_
      refine lv_istore (lv' := [(5, .int 0), (0, .ref mo), (1, .int l_), (2, .int x_), (3, .int n_), (4, .int w_)]) hx hb dX12_drawn_31 hl (by decide) (zLvf_h rfl) (fun ls hl => ?_)
      refine z_lp13 (T := T) 33 (fun (i : Nat) (xat : Int32) (xgone : Int32) (xsteps : Int32) (xmoved : Int32) (xfirstCame : Int32) (xnever : Int32) (xlongRun : Int32) (xx0 : Int32) (xposts : Nat → Int32) (xshut : Nat → Int32) (xhere : Nat → Int32) (xwas : Nat → Int32) => [[zAr T 0 m_was 7 xwas], [zAr T 0 m_all 3952 f_all], [zAr T 0 m_posts 7 xposts], [zAr T 0 m_shut 7 xshut], [zO11 mo m_all m_has i_size i_next i_where i_token i_number i_word i_wrong i_farCrossing m_read j_z0_1 j_crossings_2 j_inns_3 m_posts m_shut m_here xsteps j_done_5 xat xgone m_was m_came m_seenAt m_rowWorth m_farBy m_used i_everywhere i_again0 i_d0 xnever xfirstCame xlongRun xmoved j_crowd_33 i_l0 i_fitMany i_fitLeast i_fitMost m_fitPost m_fitEnd m_keptPosts xx0], [zAr T 0 m_here 7 xhere]]) (fun (i : Nat) (xat : Int32) (xgone : Int32) (xsteps : Int32) (xmoved : Int32) (xfirstCame : Int32) (xnever : Int32) (xlongRun : Int32) (xx0 : Int32) (xposts : Nat → Int32) (xshut : Nat → Int32) (xhere : Nat → Int32) (xwas : Nat → Int32) => [(5, .int (nI i)), (0, .ref mo), (1, .int l_), (2, .int x_), (3, .int n_), (4, .int w_)]) (fun (i : Nat) (xat : Int32) (xgone : Int32) (xsteps : Int32) (xmoved : Int32) (xfirstCame : Int32) (xnever : Int32) (xlongRun : Int32) (xx0 : Int32) (xposts : Nat → Int32) (xshut : Nat → Int32) (xhere : Nat → Int32) (xwas : Nat → Int32) => i ≤ 60 ∧ zMP xposts) (fun (i : Nat) (xat : Int32) (xgone : Int32) (xsteps : Int32) (xmoved : Int32) (xfirstCame : Int32) (xnever : Int32) (xlongRun : Int32) (xx0 : Int32) (xposts : Nat → Int32) (xshut : Nat → Int32) (xhere : Nat → Int32) (xwas : Nat → Int32) => 60 - i) ?_ 0 i_at i_gone j_steps_4 j_moved_32 j_firstCame_30 j_never_29 j_longRun_31 x_ g_posts_6 g_shut_7 g_here_8 f_was (show 0 ≤ 60 ∧ zMP g_posts_6 from ⟨by omega, (by first | with_reducible assumption | assumption)⟩) G (lv_sub hl [0, 1, 2, 3, 4, 5] rfl)
      intro i xat xgone xsteps xmoved xfirstCame xnever xlongRun xx0 xposts xshut xhere xwas hI9 ih_33 H locs ls G hl
      replace hI9 : i ≤ 60 ∧ zMP xposts := hI9
      refine zAn2 hI9 ?_
      intro hi hQ
      clear hI9
      replace G : zS T A s.heap s [[zAr T 0 m_was 7 xwas], [zAr T 0 m_all 3952 f_all], [zAr T 0 m_posts 7 xposts], [zAr T 0 m_shut 7 xshut], [zO11 mo m_all m_has i_size i_next i_where i_token i_number i_word i_wrong i_farCrossing m_read j_z0_1 j_crossings_2 j_inns_3 m_posts m_shut m_here xsteps j_done_5 xat xgone m_was m_came m_seenAt m_rowWorth m_farBy m_used i_everywhere i_again0 i_d0 xnever xfirstCame xlongRun xmoved j_crowd_33 i_l0 i_fitMany i_fitLeast i_fitMost m_fitPost m_fitEnd m_keptPosts xx0], [zAr T 0 m_here 7 xhere]] _ _ := G
      replace hl : lv_has ls 6 [(5, .int (nI i)), (0, .ref mo), (1, .int l_), (2, .int x_), (3, .int n_), (4, .int w_)] := hl
      refine lv_iload hx hb dX12_drawn_33 (lv_at hl 0 rfl) ?_
      refine lv_iload_n hx hb dX12_drawn_35 rfl (lv_at hl 4 rfl) ?_
      refine lv_icmp_ge (tgt := 49) hx hb dX12_drawn_36 (by decide) (fun c_36 => ?_) (fun c_36 => ?_)
      · have c_36n : n_.toInt ≤ (i : Int) := by have q := (fa_le _ _).mp c_36; rw [nI_toInt (n := i) (by omega)] at q; exact q
        refine lv_aload_n hx hb dX12_drawn_49 rfl (lv_at hl 1 rfl) ?_
        refine lv_iload hx hb dX12_drawn_50 (lv_at hl 5 rfl) ?_
        refine z_Vi (bc := [[zO11 mo m_all m_has i_size i_next i_where i_token i_number i_word i_wrong i_farCrossing m_read j_z0_1 j_crossings_2 j_inns_3 m_posts m_shut m_here xsteps j_done_5 xat xgone m_was m_came m_seenAt m_rowWorth m_farBy m_used i_everywhere i_again0 i_d0 xnever xfirstCame xlongRun xmoved j_crowd_33 i_l0 i_fitMany i_fitLeast i_fitMost m_fitPost m_fitEnd m_keptPosts xx0], [zAr T 0 m_posts 7 xposts], [zAr T 0 m_here 7 xhere], [zAr T 0 m_shut 7 xshut]]) (br := [[zAr T 0 m_was 7 xwas], [zAr T 0 m_all 3952 f_all]]) (As := [.int w_]) (rest := []) C G (c_m_nowOf l T mo m_all m_has i_size i_next i_where i_token i_number i_word i_wrong i_farCrossing m_read j_z0_1 j_crossings_2 j_inns_3 m_posts m_shut m_here xsteps j_done_5 xat xgone m_was m_came m_seenAt m_rowWorth m_farBy m_used i_everywhere i_again0 i_d0 xnever xfirstCame xlongRun xmoved j_crowd_33 i_l0 i_fitMany i_fitLeast i_fitMost m_fitPost m_fitEnd m_keptPosts xx0 xposts xhere xshut w_ (by first | with_reducible assumption | with_reducible rfl | omega | assumption | rfl | decide)) (kV_RX12_354 C.2.2.2.2 (Nat.le_of_ble_eq_true rfl) (Nat.le_of_ble_eq_true rfl)) [4, 2, 5, 3] [2, 0, 0, 0] rfl rfl (ci := 11) (qc := (RX12, TX12, 43)) rfl rfl (List.mem_flatten.mpr ⟨_, List.mem_of_getElem? (i := 0) rfl, List.mem_cons_self⟩) rfl rfl hl.1 dX12_drawn_52 (Nat.le_of_ble_eq_true rfl) (Nat.le_of_ble_eq_true rfl) (fun r_37 b1 H locs hw G => ?_)
        obtain rfl := hw
        have G : zS T A s.heap s [[zAr T 0 m_was 7 xwas], [zAr T 0 m_all 3952 f_all], [zO11 mo m_all m_has i_size i_next i_where i_token i_number i_word i_wrong i_farCrossing m_read j_z0_1 j_crossings_2 j_inns_3 m_posts m_shut m_here xsteps j_done_5 xat xgone m_was m_came m_seenAt m_rowWorth m_farBy m_used i_everywhere i_again0 i_d0 xnever xfirstCame xlongRun xmoved j_crowd_33 i_l0 i_fitMany i_fitLeast i_fitMost m_fitPost m_fitEnd m_keptPosts xx0], [zAr T 0 m_posts 7 xposts], [zAr T 0 m_here 7 xhere], [zAr T 0 m_shut 7 xshut]] _ _ := G
        have G := G.sub (bs' := [[zO11 mo m_all m_has i_size i_next i_where i_token i_number i_word i_wrong i_farCrossing m_read j_z0_1 j_crossings_2 j_inns_3 m_posts m_shut m_here xsteps j_done_5 xat xgone m_was m_came m_seenAt m_rowWorth m_farBy m_used i_everywhere i_again0 i_d0 xnever xfirstCame xlongRun xmoved j_crowd_33 i_l0 i_fitMany i_fitLeast i_fitMost m_fitPost m_fitEnd m_keptPosts xx0], [zAr T 0 m_all 3952 f_all], [zAr T 0 m_posts 7 xposts], [zAr T 0 m_shut 7 xshut], [zAr T 0 m_here 7 xhere], [zAr T 0 m_was 7 xwas]]) [2, 1, 3, 5, 4, 0] rfl
        exact z_back hQz_ (z_iret C hr hlocks G (Nat.le_of_ble_eq_true rfl) (Nat.le_of_ble_eq_true rfl) dX12_drawn_55 ⟨j_z0_1, j_crossings_2, j_inns_3, xsteps, j_done_5, xat, xgone, xx0, xnever, xfirstCame, xlongRun, xmoved, j_crowd_33, xposts, xshut, xhere, xwas, rfl⟩)
      · have c_36n : ¬ n_.toInt ≤ (i : Int) := fun q => c_36 ((fa_le _ _).mpr (by rw [nI_toInt (n := i) (by omega)]; exact q))
        refine lv_aload_n hx hb dX12_drawn_39 rfl (lv_at hl 1 rfl) ?_
        refine z_Vv (bc := [[zO11 mo m_all m_has i_size i_next i_where i_token i_number i_word i_wrong i_farCrossing m_read j_z0_1 j_crossings_2 j_inns_3 m_posts m_shut m_here xsteps j_done_5 xat xgone m_was m_came m_seenAt m_rowWorth m_farBy m_used i_everywhere i_again0 i_d0 xnever xfirstCame xlongRun xmoved j_crowd_33 i_l0 i_fitMany i_fitLeast i_fitMost m_fitPost m_fitEnd m_keptPosts xx0], [zAr T 0 m_all 3952 f_all], [zAr T 0 m_posts 7 xposts], [zAr T 0 m_shut 7 xshut], [zAr T 0 m_here 7 xhere], [zAr T 0 m_was 7 xwas]]) (br := []) (As := []) (rest := []) C G (c_m_draws l T mo m_all m_has i_size i_next i_where i_token i_number i_word i_wrong i_farCrossing m_read j_z0_1 j_crossings_2 j_inns_3 m_posts m_shut m_here xsteps j_done_5 xat xgone m_was m_came m_seenAt m_rowWorth m_farBy m_used i_everywhere i_again0 i_d0 xnever xfirstCame xlongRun xmoved j_crowd_33 i_l0 i_fitMany i_fitLeast i_fitMost m_fitPost m_fitEnd m_keptPosts xx0 f_all xposts xshut xhere xwas (by first | with_reducible assumption | with_reducible rfl | omega | assumption | rfl | decide) (by first | with_reducible assumption | with_reducible rfl | omega | assumption | rfl | decide)) (kV_RX12_401 C.2.2.2.2 (Nat.le_of_ble_eq_true rfl) (Nat.le_of_ble_eq_true rfl)) [4, 1, 2, 3, 5, 0] [0, 0, 0, 0, 0, 0] rfl rfl (ci := 11) (qc := (RX12, TX12, 43)) rfl rfl (List.mem_flatten.mpr ⟨_, List.mem_of_getElem? (i := 0) rfl, List.mem_cons_self⟩) rfl rfl hl.1 dX12_drawn_40 (Nat.le_of_ble_eq_true rfl) (Nat.le_of_ble_eq_true rfl) (fun b1 H locs hw G => ?_)
        refine zEx12 hw ?_
        intro j_at_38 j_gone_39 j_steps_40 j_moved_41 j_firstCame_42 j_never_43 j_longRun_44 j_x0_45 g_posts_46 g_shut_47 g_here_48 g_was_49
        refine zCu2 ?_
        intro hbs9 h_50
        clear hw
        subst hbs9
        have G : zS T A s.heap s [[zO11 mo m_all m_has i_size i_next i_where i_token i_number i_word i_wrong i_farCrossing m_read j_z0_1 j_crossings_2 j_inns_3 m_posts m_shut m_here j_steps_40 j_done_5 j_at_38 j_gone_39 m_was m_came m_seenAt m_rowWorth m_farBy m_used i_everywhere i_again0 i_d0 j_never_43 j_firstCame_42 j_longRun_44 j_moved_41 j_crowd_33 i_l0 i_fitMany i_fitLeast i_fitMost m_fitPost m_fitEnd m_keptPosts j_x0_45], [zAr T 0 m_all 3952 f_all], [zAr T 0 m_posts 7 g_posts_46], [zAr T 0 m_shut 7 g_shut_47], [zAr T 0 m_here 7 g_here_48], [zAr T 0 m_was 7 g_was_49]] _ _ := G
        refine lv_iinc (v := nI (i + 1)) (lv' := [(5, .int (nI (i + 1))), (0, .ref mo), (1, .int l_), (2, .int x_), (3, .int n_), (4, .int w_)]) hx hb dX12_drawn_43 hl (k := 0) rfl (z_inc i 1) (by decide) (zLvf_h rfl) (fun ls hl => ?_)
        refine lv_goto (tgt := 33) hx hb dX12_drawn_46 (by decide) ?_
        have G := G.sub (bs' := [[zAr T 0 m_was 7 g_was_49], [zAr T 0 m_all 3952 f_all], [zAr T 0 m_posts 7 g_posts_46], [zAr T 0 m_shut 7 g_shut_47], [zO11 mo m_all m_has i_size i_next i_where i_token i_number i_word i_wrong i_farCrossing m_read j_z0_1 j_crossings_2 j_inns_3 m_posts m_shut m_here j_steps_40 j_done_5 j_at_38 j_gone_39 m_was m_came m_seenAt m_rowWorth m_farBy m_used i_everywhere i_again0 i_d0 j_never_43 j_firstCame_42 j_longRun_44 j_moved_41 j_crowd_33 i_l0 i_fitMany i_fitLeast i_fitMost m_fitPost m_fitEnd m_keptPosts j_x0_45], [zAr T 0 m_here 7 g_here_48]]) [5, 1, 2, 3, 0, 4] rfl
        exact ih_33 (i + 1) j_at_38 j_gone_39 j_steps_40 j_moved_41 j_firstCame_42 j_never_43 j_longRun_44 j_x0_45 g_posts_46 g_shut_47 g_here_48 g_was_49 (show (i + 1) ≤ 60 ∧ zMP g_posts_46 from ⟨by omega, (by first | with_reducible assumption | assumption)⟩) (show 60 - (i + 1) < 60 - i from by omega) _ _ ls G (lv_sub hl [0, 1, 2, 3, 4, 5] rfl)
    · have h_28 : (n_.toInt < (0 : Int) ∨ (60 : Int) < n_.toInt) := h_28
      refine lv_if_ne (tgt := 21) hx hb dX12_drawn_15 (by decide) (fun q => absurd (by decide) q) (fun _ => ?_)
      refine lv_bipush (v := (-2)) hx hb dX12_drawn_18 (by decide) ?_
      have G := G.sub (bs' := [[zO11 mo m_all m_has i_size i_next i_where i_token i_number i_word i_wrong i_farCrossing m_read j_z0_1 j_crossings_2 j_inns_3 m_posts m_shut m_here j_steps_4 j_done_5 i_at i_gone m_was m_came m_seenAt m_rowWorth m_farBy m_used i_everywhere i_again0 i_d0 i_never i_firstCame i_longRun i_moved i_crowd i_l0 i_fitMany i_fitLeast i_fitMost m_fitPost m_fitEnd m_keptPosts i_x0], [zAr T 0 m_all 3952 f_all], [zAr T 0 m_posts 7 g_posts_6], [zAr T 0 m_shut 7 g_shut_7], [zAr T 0 m_here 7 g_here_8], [zAr T 0 m_was 7 f_was]]) [1, 2, 3, 4, 5, 0] rfl
      exact z_back hQz_ (z_iret C hr hlocks G (Nat.le_of_ble_eq_true rfl) (Nat.le_of_ble_eq_true rfl) dX12_drawn_20 ⟨j_z0_1, j_crossings_2, j_inns_3, j_steps_4, j_done_5, i_at, i_gone, i_x0, i_never, i_firstCame, i_longRun, i_moved, i_crowd, g_posts_6, g_shut_7, g_here_8, f_was, rfl⟩)
  · have h_23 : (l_.toInt < 0 ∨ (f_all 0).toInt ≤ l_.toInt) := h_23
    refine lv_if_eq (tgt := 18) hx hb dX12_drawn_5 (by decide) (fun _ => ?_) (fun q => absurd (by decide) q)
    refine lv_bipush (v := (-2)) hx hb dX12_drawn_18 (by decide) ?_
    have G := G.sub (bs' := [[zO11 mo m_all m_has i_size i_next i_where i_token i_number i_word i_wrong i_farCrossing m_read j_z0_1 j_crossings_2 j_inns_3 m_posts m_shut m_here j_steps_4 j_done_5 i_at i_gone m_was m_came m_seenAt m_rowWorth m_farBy m_used i_everywhere i_again0 i_d0 i_never i_firstCame i_longRun i_moved i_crowd i_l0 i_fitMany i_fitLeast i_fitMost m_fitPost m_fitEnd m_keptPosts i_x0], [zAr T 0 m_all 3952 f_all], [zAr T 0 m_posts 7 g_posts_6], [zAr T 0 m_shut 7 g_shut_7], [zAr T 0 m_here 7 g_here_8], [zAr T 0 m_was 7 f_was]]) [1, 2, 3, 4, 5, 0] rfl
    exact z_back hQz_ (z_iret C hr hlocks G (Nat.le_of_ble_eq_true rfl) (Nat.le_of_ble_eq_true rfl) dX12_drawn_20 ⟨j_z0_1, j_crossings_2, j_inns_3, j_steps_4, j_done_5, i_at, i_gone, i_x0, i_never, i_firstCame, i_longRun, i_moved, i_crowd, g_posts_6, g_shut_7, g_here_8, f_was, rfl⟩)
set_option maxHeartbeats 4000000 in
set_option maxRecDepth 100000 in
/-- c_m_count -/
theorem c_m_count (l : Launch) (T : zTy) (mo : Nat) (m_all : Nat) (m_has : Nat) (i_size : Int32) (i_next : Int32) (i_where : Int32) (i_token : Int32) (i_number : Int32) (i_word : Int32) (i_wrong : Int32) (i_farCrossing : Int32) (m_read : Nat) (i_z0 : Int32) (i_crossings : Int32) (i_inns : Int32) (m_posts : Nat) (m_shut : Nat) (m_here : Nat) (i_steps : Int32) (i_done : Int32) (i_at : Int32) (i_gone : Int32) (m_was : Nat) (m_came : Nat) (m_seenAt : Nat) (m_rowWorth : Nat) (m_farBy : Nat) (m_used : Nat) (i_everywhere : Int32) (i_again0 : Int32) (i_d0 : Int32) (i_never : Int32) (i_firstCame : Int32) (i_longRun : Int32) (i_moved : Int32) (i_crowd : Int32) (i_l0 : Int32) (i_fitMany : Int32) (i_fitLeast : Int32) (i_fitMost : Int32) (m_fitPost : Nat) (m_fitEnd : Nat) (m_keptPosts : Nat) (i_x0 : Int32) (f_all : Nat → Int32) (k_ : Int32) (hB : zBI f_all) : zMi l T yX12_count cX12_count 2 (some .int) 2 0 0 [.ref mo, .int k_] [[zO11 mo m_all m_has i_size i_next i_where i_token i_number i_word i_wrong i_farCrossing m_read i_z0 i_crossings i_inns m_posts m_shut m_here i_steps i_done i_at i_gone m_was m_came m_seenAt m_rowWorth m_farBy m_used i_everywhere i_again0 i_d0 i_never i_firstCame i_longRun i_moved i_crowd i_l0 i_fitMany i_fitLeast i_fitMost m_fitPost m_fitEnd m_keptPosts i_x0], [zAr T 0 m_all 3952 f_all]] (fun (r : Int32) bs => bs = [[zO11 mo m_all m_has i_size i_next i_where i_token i_number i_word i_wrong i_farCrossing m_read i_z0 i_crossings i_inns m_posts m_shut m_here i_steps i_done i_at i_gone m_was m_came m_seenAt m_rowWorth m_farBy m_used i_everywhere i_again0 i_d0 i_never i_firstCame i_longRun i_moved i_crowd i_l0 i_fitMany i_fitLeast i_fitMost m_fitPost m_fitEnd m_keptPosts i_x0], [zAr T 0 m_all 3952 f_all]]) := by
  refine zMi_of (own := RX12) (by decide) rfl (Nat.le_of_ble_eq_true rfl) ?_
  intro p e s m args below meth c A ls C hr hlocks hnm hAe G hl
  refine zHide (fun Qz_ hQz_ => ?_)
  have hx := C.1
  have hb := C.2.1
  have hl : lv_has ls 2 [(0, .ref mo), (1, .int k_)] := hl
  refine lv_iload_n hx hb dX12_count_0 rfl (lv_at hl 1 rfl) ?_
  refine lv_iconst (v := 0) hx hb dX12_count_1 (by decide) ?_
  refine lv_iconst (v := 2) hx hb dX12_count_2 (by decide) ?_
  refine z_Si (bc := []) (br := [[zO11 mo m_all m_has i_size i_next i_where i_token i_number i_word i_wrong i_farCrossing m_read i_z0 i_crossings i_inns m_posts m_shut m_here i_steps i_done i_at i_gone m_was m_came m_seenAt m_rowWorth m_farBy m_used i_everywhere i_again0 i_d0 i_never i_firstCame i_longRun i_moved i_crowd i_l0 i_fitMany i_fitLeast i_fitMost m_fitPost m_fitEnd m_keptPosts i_x0], [zAr T 0 m_all 3952 f_all]]) (As := [.int k_, .int 0, .int 2]) (rest := []) C G (c_m_isIn l T k_ 0 2) (kS_RX12_111 C.2.2.2.2 (Nat.le_of_ble_eq_true rfl) (Nat.le_of_ble_eq_true rfl)) [] [] rfl rfl rfl rfl hl.1 dX12_count_3 (Nat.le_of_ble_eq_true rfl) (Nat.le_of_ble_eq_true rfl) (fun r_2 b1 H locs hw G => ?_)
  refine zAn2 hw ?_
  intro hbs9 hc_1
  clear hw
  subst hbs9
  have G : zS T A s.heap s [[zO11 mo m_all m_has i_size i_next i_where i_token i_number i_word i_wrong i_farCrossing m_read i_z0 i_crossings i_inns m_posts m_shut m_here i_steps i_done i_at i_gone m_was m_came m_seenAt m_rowWorth m_farBy m_used i_everywhere i_again0 i_d0 i_never i_firstCame i_longRun i_moved i_crowd i_l0 i_fitMany i_fitLeast i_fitMost m_fitPost m_fitEnd m_keptPosts i_x0], [zAr T 0 m_all 3952 f_all]] _ _ := G
  rcases hc_1 with ⟨rfl, h_3, h_4⟩ | ⟨rfl, h_5⟩
  · have h_3 : (0 : Int) ≤ k_.toInt := h_3
    have h_4 : k_.toInt ≤ (2 : Int) := h_4
    refine lv_if_eq (tgt := 18) hx hb dX12_count_6 (by decide) (fun q => absurd q (by decide)) (fun _ => ?_)
    refine lv_aload_n hx hb dX12_count_9 rfl (lv_at hl 0 rfl) ?_
    refine z_get C G clX12 0 rfl 0 (by decide) m_fl_RX12_7 rfl dX12_count_10 ?_
    refine lv_iload_n hx hb dX12_count_13 rfl (lv_at hl 1 rfl) ?_
    refine z_ild C G 1 rfl (vp_in_iff.mpr ⟨by omega, by omega⟩) dX12_count_14 ?_
    refine lv_topi (fun v_6 ev_6 => ?_)
    subst ev_6
    refine lv_goto (tgt := 20) hx hb dX12_count_15 (by decide) ?_
    exact z_back hQz_ (z_iret C hr hlocks G (Nat.le_of_ble_eq_true rfl) (Nat.le_of_ble_eq_true rfl) dX12_count_20 rfl)
  · have h_5 : (k_.toInt < (0 : Int) ∨ (2 : Int) < k_.toInt) := h_5
    refine lv_if_eq (tgt := 18) hx hb dX12_count_6 (by decide) (fun _ => ?_) (fun q => absurd (by decide) q)
    refine lv_bipush (v := (-2)) hx hb dX12_count_18 (by decide) ?_
    exact z_back hQz_ (z_iret C hr hlocks G (Nat.le_of_ble_eq_true rfl) (Nat.le_of_ble_eq_true rfl) dX12_count_20 rfl)
set_option maxHeartbeats 4000000 in
set_option maxRecDepth 100000 in
/-- c_m_fault -/
theorem c_m_fault (l : Launch) (T : zTy) (mo : Nat) (m_all : Nat) (m_has : Nat) (i_size : Int32) (i_next : Int32) (i_where : Int32) (i_token : Int32) (i_number : Int32) (i_word : Int32) (i_wrong : Int32) (i_farCrossing : Int32) (m_read : Nat) (i_z0 : Int32) (i_crossings : Int32) (i_inns : Int32) (m_posts : Nat) (m_shut : Nat) (m_here : Nat) (i_steps : Int32) (i_done : Int32) (i_at : Int32) (i_gone : Int32) (m_was : Nat) (m_came : Nat) (m_seenAt : Nat) (m_rowWorth : Nat) (m_farBy : Nat) (m_used : Nat) (i_everywhere : Int32) (i_again0 : Int32) (i_d0 : Int32) (i_never : Int32) (i_firstCame : Int32) (i_longRun : Int32) (i_moved : Int32) (i_crowd : Int32) (i_l0 : Int32) (i_fitMany : Int32) (i_fitLeast : Int32) (i_fitMost : Int32) (m_fitPost : Nat) (m_fitEnd : Nat) (m_keptPosts : Nat) (i_x0 : Int32) (f_all : Nat → Int32) (k_ : Int32) (hB : zBI f_all) : zMi l T yX12_fault cX12_fault 2 (some .int) 1 0 0 [.ref mo, .int k_] [[zO11 mo m_all m_has i_size i_next i_where i_token i_number i_word i_wrong i_farCrossing m_read i_z0 i_crossings i_inns m_posts m_shut m_here i_steps i_done i_at i_gone m_was m_came m_seenAt m_rowWorth m_farBy m_used i_everywhere i_again0 i_d0 i_never i_firstCame i_longRun i_moved i_crowd i_l0 i_fitMany i_fitLeast i_fitMost m_fitPost m_fitEnd m_keptPosts i_x0], [zAr T 0 m_all 3952 f_all]] (fun (r : Int32) bs => bs = [[zO11 mo m_all m_has i_size i_next i_where i_token i_number i_word i_wrong i_farCrossing m_read i_z0 i_crossings i_inns m_posts m_shut m_here i_steps i_done i_at i_gone m_was m_came m_seenAt m_rowWorth m_farBy m_used i_everywhere i_again0 i_d0 i_never i_firstCame i_longRun i_moved i_crowd i_l0 i_fitMany i_fitLeast i_fitMost m_fitPost m_fitEnd m_keptPosts i_x0], [zAr T 0 m_all 3952 f_all]]) := by
  refine zMi_of (own := RX12) (by decide) rfl (Nat.le_of_ble_eq_true rfl) ?_
  intro p e s m args below meth c A ls C hr hlocks hnm hAe G hl
  refine zHide (fun Qz_ hQz_ => ?_)
  have hx := C.1
  have hb := C.2.1
  have hl : lv_has ls 2 [(0, .ref mo), (1, .int k_)] := hl
  refine lv_iload_n hx hb dX12_fault_0 rfl (lv_at hl 1 rfl) ?_
  refine lv_if_ne (tgt := 13) hx hb dX12_fault_1 (by decide) (fun c_1 => ?_) (fun c_1 => ?_)
  · have c_1n : ¬ k_.toInt = (0 : Int) := fun q => c_1 ((fa_eq _ _).mpr q)
    refine lv_iload_n hx hb dX12_fault_13 rfl (lv_at hl 1 rfl) ?_
    refine lv_iconst (v := 1) hx hb dX12_fault_14 (by decide) ?_
    refine lv_icmp_ne (tgt := 28) hx hb dX12_fault_15 (by decide) (fun c_2 => ?_) (fun c_2 => ?_)
    · have c_2n : ¬ k_.toInt = (1 : Int) := fun q => c_2 ((fa_eq _ _).mpr q)
      refine lv_iconst (v := (-1)) hx hb dX12_fault_28 (by decide) ?_
      exact z_back hQz_ (z_iret C hr hlocks G (Nat.le_of_ble_eq_true rfl) (Nat.le_of_ble_eq_true rfl) dX12_fault_29 rfl)
    · have c_2n : k_.toInt = (1 : Int) := (fa_eq _ _).mp c_2
      refine lv_aload_n hx hb dX12_fault_18 rfl (lv_at hl 0 rfl) ?_
      refine z_get C G clX12 0 rfl 0 (by decide) m_fl_RX12_7 rfl dX12_fault_19 ?_
      refine lv_bipush (v := 6) hx hb dX12_fault_22 (by decide) ?_
      refine z_ild C G 1 rfl (vp_in_nI (n := 6) (by decide) (by decide)) dX12_fault_24 ?_
      refine lv_topi (fun v_3 ev_3 => ?_)
      rw [show ((6 : Int32).toNatClampNeg) = 6 from rfl] at ev_3
      subst ev_3
      refine lv_goto (tgt := 29) hx hb dX12_fault_25 (by decide) ?_
      exact z_back hQz_ (z_iret C hr hlocks G (Nat.le_of_ble_eq_true rfl) (Nat.le_of_ble_eq_true rfl) dX12_fault_29 rfl)
  · have c_1n : k_.toInt = (0 : Int) := (fa_eq _ _).mp c_1
    refine lv_aload_n hx hb dX12_fault_4 rfl (lv_at hl 0 rfl) ?_
    refine z_get C G clX12 0 rfl 0 (by decide) m_fl_RX12_7 rfl dX12_fault_5 ?_
    refine lv_iconst (v := 5) hx hb dX12_fault_8 (by decide) ?_
    refine z_ild C G 1 rfl (vp_in_nI (n := 5) (by decide) (by decide)) dX12_fault_9 ?_
    refine lv_topi (fun v_4 ev_4 => ?_)
    rw [show ((5 : Int32).toNatClampNeg) = 5 from rfl] at ev_4
    subst ev_4
    refine lv_goto (tgt := 29) hx hb dX12_fault_10 (by decide) ?_
    exact z_back hQz_ (z_iret C hr hlocks G (Nat.le_of_ble_eq_true rfl) (Nat.le_of_ble_eq_true rfl) dX12_fault_29 rfl)
set_option maxHeartbeats 4000000 in
set_option maxRecDepth 100000 in
/-- c_m_isSo -/
theorem c_m_isSo (l : Launch) (T : zTy) (mo : Nat) (m_all : Nat) (m_has : Nat) (i_size : Int32) (i_next : Int32) (i_where : Int32) (i_token : Int32) (i_number : Int32) (i_word : Int32) (i_wrong : Int32) (i_farCrossing : Int32) (m_read : Nat) (i_z0 : Int32) (i_crossings : Int32) (i_inns : Int32) (m_posts : Nat) (m_shut : Nat) (m_here : Nat) (i_steps : Int32) (i_done : Int32) (i_at : Int32) (i_gone : Int32) (m_was : Nat) (m_came : Nat) (m_seenAt : Nat) (m_rowWorth : Nat) (m_farBy : Nat) (m_used : Nat) (i_everywhere : Int32) (i_again0 : Int32) (i_d0 : Int32) (i_never : Int32) (i_firstCame : Int32) (i_longRun : Int32) (i_moved : Int32) (i_crowd : Int32) (i_l0 : Int32) (i_fitMany : Int32) (i_fitLeast : Int32) (i_fitMost : Int32) (m_fitPost : Nat) (m_fitEnd : Nat) (m_keptPosts : Nat) (i_x0 : Int32) (f_all : Nat → Int32) (f_posts : Nat → Int32) (f_shut : Nat → Int32) (f_was : Nat → Int32) (hL : zML f_all i_z0 i_crossings) (hP : zMP f_posts) (hD : zMG f_all i_l0) : zMi l T yX12_isSo cX12_isSo 5 (some .boolean) 5 0 0 [.ref mo] [[zO11 mo m_all m_has i_size i_next i_where i_token i_number i_word i_wrong i_farCrossing m_read i_z0 i_crossings i_inns m_posts m_shut m_here i_steps i_done i_at i_gone m_was m_came m_seenAt m_rowWorth m_farBy m_used i_everywhere i_again0 i_d0 i_never i_firstCame i_longRun i_moved i_crowd i_l0 i_fitMany i_fitLeast i_fitMost m_fitPost m_fitEnd m_keptPosts i_x0], [zAr T 0 m_all 3952 f_all], [zAr T 0 m_posts 7 f_posts], [zAr T 0 m_shut 7 f_shut], [zAr T 0 m_was 7 f_was]] (fun (r : Int32) bs => ∃ (j_steps : Int32) (j_at : Int32) (j_gone : Int32) (g_posts : Nat → Int32) (g_was : Nat → Int32), bs = [[zO11 mo m_all m_has i_size i_next i_where i_token i_number i_word i_wrong i_farCrossing m_read i_z0 i_crossings i_inns m_posts m_shut m_here j_steps i_done j_at j_gone m_was m_came m_seenAt m_rowWorth m_farBy m_used i_everywhere i_again0 i_d0 i_never i_firstCame i_longRun i_moved i_crowd i_l0 i_fitMany i_fitLeast i_fitMost m_fitPost m_fitEnd m_keptPosts i_x0], [zAr T 0 m_all 3952 f_all], [zAr T 0 m_posts 7 g_posts], [zAr T 0 m_shut 7 f_shut], [zAr T 0 m_was 7 g_was]] ∧ (r = 0 ∨ r = 1) ∧ zMP g_posts) := by
  refine zMi_of (own := RX12) (by decide) rfl (Nat.le_of_ble_eq_true rfl) ?_
  intro p e s m args below meth c A ls C hr hlocks hnm hAe G hl
  refine zHide (fun Qz_ hQz_ => ?_)
  have hx := C.1
  have hb := C.2.1
  have hl : lv_has ls 5 [(0, .ref mo)] := hl
  have hz := hL.1
  have hcr := hL.cr
  have hDa := hD.1
  have hDb := hD.2
  have hcd := z_clI (x := i_l0) (by omega)
  refine lv_aload_n hx hb dX12_isSo_0 rfl (lv_at hl 0 rfl) ?_
  refine lv_iconst (v := 0) hx hb dX12_isSo_1 (by decide) ?_
  refine z_put C G clX12 0 rfl 17 (by decide) m_fl_RX12_196 rfl rfl rfl (Nat.le_of_ble_eq_true rfl) dX12_isSo_2 (fun H locs G => ?_)
  have G : zS T A s.heap s [[zO11 mo m_all m_has i_size i_next i_where i_token i_number i_word i_wrong i_farCrossing m_read i_z0 i_crossings i_inns m_posts m_shut m_here 0 i_done i_at i_gone m_was m_came m_seenAt m_rowWorth m_farBy m_used i_everywhere i_again0 i_d0 i_never i_firstCame i_longRun i_moved i_crowd i_l0 i_fitMany i_fitLeast i_fitMost m_fitPost m_fitEnd m_keptPosts i_x0], [zAr T 0 m_all 3952 f_all], [zAr T 0 m_posts 7 f_posts], [zAr T 0 m_shut 7 f_shut], [zAr T 0 m_was 7 f_was]] _ _ := G
  refine lv_iconst (v := 0) hx hb dX12_isSo_5 (by decide) ?_
  refine lv_istore_n (lv' := [(1, .int 0), (0, .ref mo)]) hx hb dX12_isSo_6 rfl hl (by decide) (zLvf_h rfl) (fun ls hl => ?_)
  refine z_lp6 (T := T) 7 (fun (i : Nat) (xsteps : Int32) (xat : Int32) (xgone : Int32) (xposts : Nat → Int32) (xwas : Nat → Int32) => [[zO11 mo m_all m_has i_size i_next i_where i_token i_number i_word i_wrong i_farCrossing m_read i_z0 i_crossings i_inns m_posts m_shut m_here xsteps i_done xat xgone m_was m_came m_seenAt m_rowWorth m_farBy m_used i_everywhere i_again0 i_d0 i_never i_firstCame i_longRun i_moved i_crowd i_l0 i_fitMany i_fitLeast i_fitMost m_fitPost m_fitEnd m_keptPosts i_x0], [zAr T 0 m_all 3952 f_all], [zAr T 0 m_posts 7 xposts], [zAr T 0 m_shut 7 f_shut], [zAr T 0 m_was 7 xwas]]) (fun (i : Nat) (xsteps : Int32) (xat : Int32) (xgone : Int32) (xposts : Nat → Int32) (xwas : Nat → Int32) => [(1, .int (nI i)), (0, .ref mo)]) (fun (i : Nat) (xsteps : Int32) (xat : Int32) (xgone : Int32) (xposts : Nat → Int32) (xwas : Nat → Int32) => i ≤ 8 ∧ zMP xposts) (fun (i : Nat) (xsteps : Int32) (xat : Int32) (xgone : Int32) (xposts : Nat → Int32) (xwas : Nat → Int32) => 8 - i) ?_ 0 0 i_at i_gone f_posts f_was (show 0 ≤ 8 ∧ zMP f_posts from ⟨by omega, (by first | with_reducible assumption | assumption)⟩) G (lv_sub hl [0, 1] rfl)
  intro i xsteps xat xgone xposts xwas hI9 ih_7 H locs ls G hl
  replace hI9 : i ≤ 8 ∧ zMP xposts := hI9
  refine zAn2 hI9 ?_
  intro hi hQ
  clear hI9
  replace G : zS T A s.heap s [[zO11 mo m_all m_has i_size i_next i_where i_token i_number i_word i_wrong i_farCrossing m_read i_z0 i_crossings i_inns m_posts m_shut m_here xsteps i_done xat xgone m_was m_came m_seenAt m_rowWorth m_farBy m_used i_everywhere i_again0 i_d0 i_never i_firstCame i_longRun i_moved i_crowd i_l0 i_fitMany i_fitLeast i_fitMost m_fitPost m_fitEnd m_keptPosts i_x0], [zAr T 0 m_all 3952 f_all], [zAr T 0 m_posts 7 xposts], [zAr T 0 m_shut 7 f_shut], [zAr T 0 m_was 7 xwas]] _ _ := G
  replace hl : lv_has ls 5 [(1, .int (nI i)), (0, .ref mo)] := hl
  refine lv_iload_n hx hb dX12_isSo_7 rfl (lv_at hl 0 rfl) ?_
  refine lv_aload_n hx hb dX12_isSo_8 rfl (lv_at hl 1 rfl) ?_
  refine z_get C G clX12 0 rfl 0 (by decide) m_fl_RX12_7 rfl dX12_isSo_9 ?_
  refine lv_aload_n hx hb dX12_isSo_12 rfl (lv_at hl 1 rfl) ?_
  refine z_get C G clX12 0 rfl 35 (by decide) m_fl_RX12_360 rfl dX12_isSo_13 ?_
  refine z_ild C G 1 rfl (vp_in_iff.mpr ⟨by omega, by omega⟩) dX12_isSo_16 ?_
  refine lv_topi (fun v_1 ev_1 => ?_)
  subst ev_1
  refine lv_icmp_ge (tgt := 111) hx hb dX12_isSo_17 (by decide) (fun c_2 => ?_) (fun c_2 => ?_)
  · have c_2n : (f_all i_l0.toNatClampNeg).toInt ≤ (i : Int) := by have q := (fa_le _ _).mp c_2; rw [nI_toInt (n := i) (by omega)] at q; exact q
    refine lv_iconst (v := 1) hx hb dX12_isSo_111 (by decide) ?_
    exact z_back hQz_ (z_zret C hr hlocks G (Nat.le_of_ble_eq_true rfl) (Nat.le_of_ble_eq_true rfl) dX12_isSo_112 rfl ⟨xsteps, xat, xgone, xposts, xwas, rfl, (Or.inr rfl), (by first | with_reducible assumption | omega | trivial | assumption)⟩)
  · have c_2n : ¬ (f_all i_l0.toNatClampNeg).toInt ≤ (i : Int) := fun q => c_2 ((fa_le _ _).mpr (by rw [nI_toInt (n := i) (by omega)]; exact q))
    refine lv_aload_n hx hb dX12_isSo_20 rfl (lv_at hl 1 rfl) ?_
    refine z_get C G clX12 0 rfl 0 (by decide) m_fl_RX12_7 rfl dX12_isSo_21 ?_
    refine lv_aload_n hx hb dX12_isSo_24 rfl (lv_at hl 1 rfl) ?_
    refine z_get C G clX12 0 rfl 35 (by decide) m_fl_RX12_360 rfl dX12_isSo_25 ?_
    refine lv_iconst (v := 1) hx hb dX12_isSo_28 (by decide) ?_
    refine lv_iadd hx hb dX12_isSo_29 ?_
    refine lv_topi (fun y_3 ey_3 => ?_)
    have ey_3i : y_3.toInt = i_l0.toInt + (1 : Int) := by rw [ey_3]; exact z_iaddI (x := i_l0) (y := (1 : Int32)) (by show -2147483648 ≤ i_l0.toInt + (1 : Int); omega) (by show i_l0.toInt + (1 : Int) < 2147483648; omega)
    refine lv_iconst (v := 2) hx hb dX12_isSo_30 (by decide) ?_
    refine lv_iload_n hx hb dX12_isSo_31 rfl (lv_at hl 0 rfl) ?_
    refine lv_imul hx hb dX12_isSo_32 ?_
    refine lv_topi (fun y_4 ey_4 => ?_)
    obtain rfl : y_4 = nI (2 * i) := ey_4.trans (z_imuln 2 i rfl rfl)
    refine lv_iadd hx hb dX12_isSo_33 ?_
    refine lv_topi (fun y_5 ey_5 => ?_)
    have ey_5i : y_5.toInt = y_3.toInt + ((2 * i) : Int) := by rw [ey_5]; exact (z_iaddI (x := y_3) (y := (nI (2 * i))) (by rw [nI_toInt (n := 2 * i) (by omega)]; show -2147483648 ≤ y_3.toInt + ((2 * i) : Int); omega) (by rw [nI_toInt (n := 2 * i) (by omega)]; show y_3.toInt + ((2 * i) : Int) < 2147483648; omega)).trans (by rw [nI_toInt (n := 2 * i) (by omega)] <;> rfl)
    refine z_ild C G 1 rfl (vp_in_iff.mpr ⟨by omega, by omega⟩) dX12_isSo_34 ?_
    refine lv_topi (fun v_6 ev_6 => ?_)
    subst ev_6
    refine lv_istore_n (lv' := [(2, .int (f_all y_5.toNatClampNeg)), (1, .int (nI i)), (0, .ref mo)]) hx hb dX12_isSo_35 rfl hl (by decide) (zLvf_h rfl) (fun ls hl => ?_)
    refine lv_aload_n hx hb dX12_isSo_36 rfl (lv_at hl 2 rfl) ?_
    refine z_get C G clX12 0 rfl 0 (by decide) m_fl_RX12_7 rfl dX12_isSo_37 ?_
    refine lv_aload_n hx hb dX12_isSo_40 rfl (lv_at hl 2 rfl) ?_
    refine z_get C G clX12 0 rfl 35 (by decide) m_fl_RX12_360 rfl dX12_isSo_41 ?_
    refine lv_iconst (v := 2) hx hb dX12_isSo_44 (by decide) ?_
    refine lv_iadd hx hb dX12_isSo_45 ?_
    refine lv_topi (fun y_7 ey_7 => ?_)
    have ey_7i : y_7.toInt = i_l0.toInt + (2 : Int) := by rw [ey_7]; exact z_iaddI (x := i_l0) (y := (2 : Int32)) (by show -2147483648 ≤ i_l0.toInt + (2 : Int); omega) (by show i_l0.toInt + (2 : Int) < 2147483648; omega)
    refine lv_iconst (v := 2) hx hb dX12_isSo_46 (by decide) ?_
    refine lv_iload_n hx hb dX12_isSo_47 rfl (lv_at hl 1 rfl) ?_
    refine lv_imul hx hb dX12_isSo_48 ?_
    refine lv_topi (fun y_8 ey_8 => ?_)
    obtain rfl : y_8 = nI (2 * i) := ey_8.trans (z_imuln 2 i rfl rfl)
    refine lv_iadd hx hb dX12_isSo_49 ?_
    refine lv_topi (fun y_9 ey_9 => ?_)
    have ey_9i : y_9.toInt = y_7.toInt + ((2 * i) : Int) := by rw [ey_9]; exact (z_iaddI (x := y_7) (y := (nI (2 * i))) (by rw [nI_toInt (n := 2 * i) (by omega)]; show -2147483648 ≤ y_7.toInt + ((2 * i) : Int); omega) (by rw [nI_toInt (n := 2 * i) (by omega)]; show y_7.toInt + ((2 * i) : Int) < 2147483648; omega)).trans (by rw [nI_toInt (n := 2 * i) (by omega)] <;> rfl)
    refine z_ild C G 1 rfl (vp_in_iff.mpr ⟨by omega, by omega⟩) dX12_isSo_50 ?_
    refine lv_topi (fun v_10 ev_10 => ?_)
    subst ev_10
    refine lv_istore_n (lv' := [(3, .int (f_all y_9.toNatClampNeg)), (2, .int (f_all y_5.toNatClampNeg)), (1, .int (nI i)), (0, .ref mo)]) hx hb dX12_isSo_51 rfl hl (by decide) (zLvf_h rfl) (fun ls hl => ?_)
    refine lv_aload_n hx hb dX12_isSo_52 rfl (lv_at hl 3 rfl) ?_
    refine lv_iload_n hx hb dX12_isSo_53 rfl (lv_at hl 1 rfl) ?_
    refine z_Vi (bc := [[zO11 mo m_all m_has i_size i_next i_where i_token i_number i_word i_wrong i_farCrossing m_read i_z0 i_crossings i_inns m_posts m_shut m_here xsteps i_done xat xgone m_was m_came m_seenAt m_rowWorth m_farBy m_used i_everywhere i_again0 i_d0 i_never i_firstCame i_longRun i_moved i_crowd i_l0 i_fitMany i_fitLeast i_fitMost m_fitPost m_fitEnd m_keptPosts i_x0]]) (br := [[zAr T 0 m_all 3952 f_all], [zAr T 0 m_posts 7 xposts], [zAr T 0 m_shut 7 f_shut], [zAr T 0 m_was 7 xwas]]) (As := [.int (f_all y_5.toNatClampNeg)]) (rest := []) C G (c_m_isCrossing l T mo m_all m_has i_size i_next i_where i_token i_number i_word i_wrong i_farCrossing m_read i_z0 i_crossings i_inns m_posts m_shut m_here xsteps i_done xat xgone m_was m_came m_seenAt m_rowWorth m_farBy m_used i_everywhere i_again0 i_d0 i_never i_firstCame i_longRun i_moved i_crowd i_l0 i_fitMany i_fitLeast i_fitMost m_fitPost m_fitEnd m_keptPosts i_x0 (f_all y_5.toNatClampNeg) (by first | with_reducible assumption | with_reducible rfl | omega | assumption | rfl | decide)) (kV_RX12_187 C.2.2.2.2 (Nat.le_of_ble_eq_true rfl) (Nat.le_of_ble_eq_true rfl)) [0] [0] rfl rfl (ci := 11) (qc := (RX12, TX12, 43)) rfl rfl (List.mem_flatten.mpr ⟨_, List.mem_of_getElem? (i := 0) rfl, List.mem_cons_self⟩) rfl rfl hl.1 dX12_isSo_54 (Nat.le_of_ble_eq_true rfl) (Nat.le_of_ble_eq_true rfl) (fun r_12 b1 H locs hw G => ?_)
    refine zAn2 hw ?_
    intro hbs9 hc_11
    clear hw
    subst hbs9
    have G : zS T A s.heap s [[zAr T 0 m_all 3952 f_all], [zAr T 0 m_posts 7 xposts], [zAr T 0 m_shut 7 f_shut], [zAr T 0 m_was 7 xwas], [zO11 mo m_all m_has i_size i_next i_where i_token i_number i_word i_wrong i_farCrossing m_read i_z0 i_crossings i_inns m_posts m_shut m_here xsteps i_done xat xgone m_was m_came m_seenAt m_rowWorth m_farBy m_used i_everywhere i_again0 i_d0 i_never i_firstCame i_longRun i_moved i_crowd i_l0 i_fitMany i_fitLeast i_fitMost m_fitPost m_fitEnd m_keptPosts i_x0]] _ _ := G
    rcases hc_11 with ⟨rfl, h_13, h_14⟩ | ⟨rfl, h_15⟩
    · have h_13 : 0 ≤ (f_all y_5.toNatClampNeg).toInt := h_13
      have h_14 : (f_all y_5.toNatClampNeg).toInt < i_crossings.toInt := h_14
      refine lv_if_ne (tgt := 62) hx hb dX12_isSo_57 (by decide) (fun _ => ?_) (fun q => absurd q (by decide))
      refine lv_aload_n hx hb dX12_isSo_62 rfl (lv_at hl 3 rfl) ?_
      refine lv_iload_n hx hb dX12_isSo_63 rfl (lv_at hl 1 rfl) ?_
      refine z_Vi (bc := [[zO11 mo m_all m_has i_size i_next i_where i_token i_number i_word i_wrong i_farCrossing m_read i_z0 i_crossings i_inns m_posts m_shut m_here xsteps i_done xat xgone m_was m_came m_seenAt m_rowWorth m_farBy m_used i_everywhere i_again0 i_d0 i_never i_firstCame i_longRun i_moved i_crowd i_l0 i_fitMany i_fitLeast i_fitMost m_fitPost m_fitEnd m_keptPosts i_x0], [zAr T 0 m_all 3952 f_all], [zAr T 0 m_posts 7 xposts], [zAr T 0 m_shut 7 f_shut], [zAr T 0 m_was 7 xwas]]) (br := []) (As := [.int (f_all y_5.toNatClampNeg)]) (rest := []) C G (c_m_walks l T mo m_all m_has i_size i_next i_where i_token i_number i_word i_wrong i_farCrossing m_read i_z0 i_crossings i_inns m_posts m_shut m_here xsteps i_done xat xgone m_was m_came m_seenAt m_rowWorth m_farBy m_used i_everywhere i_again0 i_d0 i_never i_firstCame i_longRun i_moved i_crowd i_l0 i_fitMany i_fitLeast i_fitMost m_fitPost m_fitEnd m_keptPosts i_x0 f_all xposts f_shut xwas (f_all y_5.toNatClampNeg) (by first | with_reducible assumption | with_reducible rfl | omega | assumption | rfl | decide) (by first | with_reducible assumption | with_reducible rfl | omega | assumption | rfl | decide) (by first | with_reducible assumption | with_reducible rfl | omega | assumption | rfl | decide) (by first | with_reducible assumption | with_reducible rfl | omega | assumption | rfl | decide)) (kV_RX12_217 C.2.2.2.2 (Nat.le_of_ble_eq_true rfl) (Nat.le_of_ble_eq_true rfl)) [4, 0, 1, 2, 3] [0, 0, 0, 0, 0] rfl rfl (ci := 11) (qc := (RX12, TX12, 43)) rfl rfl (List.mem_flatten.mpr ⟨_, List.mem_of_getElem? (i := 0) rfl, List.mem_cons_self⟩) rfl rfl hl.1 dX12_isSo_64 (Nat.le_of_ble_eq_true rfl) (Nat.le_of_ble_eq_true rfl) (fun r_26 b1 H locs hw G => ?_)
      refine zEx4 hw ?_
      intro j_at_16 j_gone_17 g_posts_18 g_was_19
      refine zCu7 ?_
      intro hbs9 h_20 h_21 h_22 h_23 h_24 h_25
      clear hw
      subst hbs9
      have G : zS T A s.heap s [[zO11 mo m_all m_has i_size i_next i_where i_token i_number i_word i_wrong i_farCrossing m_read i_z0 i_crossings i_inns m_posts m_shut m_here xsteps i_done j_at_16 j_gone_17 m_was m_came m_seenAt m_rowWorth m_farBy m_used i_everywhere i_again0 i_d0 i_never i_firstCame i_longRun i_moved i_crowd i_l0 i_fitMany i_fitLeast i_fitMost m_fitPost m_fitEnd m_keptPosts i_x0], [zAr T 0 m_all 3952 f_all], [zAr T 0 m_posts 7 g_posts_18], [zAr T 0 m_shut 7 f_shut], [zAr T 0 m_was 7 g_was_19]] _ _ := G
      replace h_20 : zHd ((r_26 = 0 ∨ r_26 = 1)) := h_20
      refine lv_istore (lv' := [(4, .int r_26), (3, .int (f_all y_9.toNatClampNeg)), (2, .int (f_all y_5.toNatClampNeg)), (1, .int (nI i)), (0, .ref mo)]) hx hb dX12_isSo_67 hl (by decide) (zLvf_h rfl) (fun ls hl => ?_)
      refine lv_iload hx hb dX12_isSo_69 (lv_at hl 0 rfl) ?_
      refine lv_if_eq (tgt := 85) hx hb dX12_isSo_71 (by decide) (fun c_27 => ?_) (fun c_27 => ?_)
      · have c_27n : r_26.toInt = (0 : Int) := (fa_eq _ _).mp c_27
        refine lv_iload_n hx hb dX12_isSo_85 rfl (lv_at hl 1 rfl) ?_
        refine lv_iconst (v := (-1)) hx hb dX12_isSo_86 (by decide) ?_
        refine lv_icmp_eq (tgt := 92) hx hb dX12_isSo_87 (by decide) (fun c_28 => ?_) (fun c_28 => ?_)
        · have c_28n : (f_all y_9.toNatClampNeg).toInt = (-1 : Int) := (fa_eq _ _).mp c_28
          refine lv_aload_n hx hb dX12_isSo_92 rfl (lv_at hl 4 rfl) ?_
          refine lv_dup hx hb dX12_isSo_93 rfl ?_
          refine z_get C G clX12 0 rfl 17 (by decide) m_fl_RX12_196 rfl dX12_isSo_94 ?_
          refine lv_aload_n hx hb dX12_isSo_97 rfl (lv_at hl 4 rfl) ?_
          refine z_get C G clX12 0 rfl 20 (by decide) m_fl_RX12_208 rfl dX12_isSo_98 ?_
          refine lv_iadd hx hb dX12_isSo_101 ?_
          refine z_put C G clX12 0 rfl 17 (by decide) m_fl_RX12_196 rfl rfl rfl (Nat.le_of_ble_eq_true rfl) dX12_isSo_102 (fun H locs G => ?_)
          have G : zS T A s.heap s [[zO11 mo m_all m_has i_size i_next i_where i_token i_number i_word i_wrong i_farCrossing m_read i_z0 i_crossings i_inns m_posts m_shut m_here (xsteps + j_gone_17) i_done j_at_16 j_gone_17 m_was m_came m_seenAt m_rowWorth m_farBy m_used i_everywhere i_again0 i_d0 i_never i_firstCame i_longRun i_moved i_crowd i_l0 i_fitMany i_fitLeast i_fitMost m_fitPost m_fitEnd m_keptPosts i_x0], [zAr T 0 m_all 3952 f_all], [zAr T 0 m_posts 7 g_posts_18], [zAr T 0 m_shut 7 f_shut], [zAr T 0 m_was 7 g_was_19]] _ _ := G
          refine lv_iinc (v := nI (i + 1)) (lv' := [(1, .int (nI (i + 1))), (4, .int r_26), (3, .int (f_all y_9.toNatClampNeg)), (2, .int (f_all y_5.toNatClampNeg)), (0, .ref mo)]) hx hb dX12_isSo_105 hl (k := 3) rfl (z_inc i 1) (by decide) (zLvf_h rfl) (fun ls hl => ?_)
          refine lv_goto (tgt := 7) hx hb dX12_isSo_108 (by decide) ?_
          exact ih_7 (i + 1) (xsteps + j_gone_17) j_at_16 j_gone_17 g_posts_18 g_was_19 (show (i + 1) ≤ 8 ∧ zMP g_posts_18 from ⟨by omega, (by first | with_reducible assumption | assumption)⟩) (show 8 - (i + 1) < 8 - i from by omega) _ _ ls G (lv_sub hl [0, 4] rfl)
        · have c_28n : ¬ (f_all y_9.toNatClampNeg).toInt = (-1 : Int) := fun q => c_28 ((fa_eq _ _).mpr q)
          refine lv_iconst (v := 0) hx hb dX12_isSo_90 (by decide) ?_
          exact z_back hQz_ (z_zret C hr hlocks G (Nat.le_of_ble_eq_true rfl) (Nat.le_of_ble_eq_true rfl) dX12_isSo_91 rfl ⟨xsteps, j_at_16, j_gone_17, g_posts_18, g_was_19, rfl, (Or.inl rfl), (by first | with_reducible assumption | omega | trivial | assumption)⟩)
      · have c_27n : ¬ r_26.toInt = (0 : Int) := fun q => c_27 ((fa_eq _ _).mpr q)
        refine lv_aload_n hx hb dX12_isSo_74 rfl (lv_at hl 4 rfl) ?_
        refine z_get C G clX12 0 rfl 19 (by decide) m_fl_RX12_202 rfl dX12_isSo_75 ?_
        refine lv_iload_n hx hb dX12_isSo_78 rfl (lv_at hl 1 rfl) ?_
        refine lv_icmp_eq (tgt := 92) hx hb dX12_isSo_79 (by decide) (fun c_29 => ?_) (fun c_29 => ?_)
        · have c_29n : j_at_16.toInt = (f_all y_9.toNatClampNeg).toInt := (fa_eq _ _).mp c_29
          refine lv_aload_n hx hb dX12_isSo_92 rfl (lv_at hl 4 rfl) ?_
          refine lv_dup hx hb dX12_isSo_93 rfl ?_
          refine z_get C G clX12 0 rfl 17 (by decide) m_fl_RX12_196 rfl dX12_isSo_94 ?_
          refine lv_aload_n hx hb dX12_isSo_97 rfl (lv_at hl 4 rfl) ?_
          refine z_get C G clX12 0 rfl 20 (by decide) m_fl_RX12_208 rfl dX12_isSo_98 ?_
          refine lv_iadd hx hb dX12_isSo_101 ?_
          refine z_put C G clX12 0 rfl 17 (by decide) m_fl_RX12_196 rfl rfl rfl (Nat.le_of_ble_eq_true rfl) dX12_isSo_102 (fun H locs G => ?_)
          have G : zS T A s.heap s [[zO11 mo m_all m_has i_size i_next i_where i_token i_number i_word i_wrong i_farCrossing m_read i_z0 i_crossings i_inns m_posts m_shut m_here (xsteps + j_gone_17) i_done j_at_16 j_gone_17 m_was m_came m_seenAt m_rowWorth m_farBy m_used i_everywhere i_again0 i_d0 i_never i_firstCame i_longRun i_moved i_crowd i_l0 i_fitMany i_fitLeast i_fitMost m_fitPost m_fitEnd m_keptPosts i_x0], [zAr T 0 m_all 3952 f_all], [zAr T 0 m_posts 7 g_posts_18], [zAr T 0 m_shut 7 f_shut], [zAr T 0 m_was 7 g_was_19]] _ _ := G
          refine lv_iinc (v := nI (i + 1)) (lv' := [(1, .int (nI (i + 1))), (4, .int r_26), (3, .int (f_all y_9.toNatClampNeg)), (2, .int (f_all y_5.toNatClampNeg)), (0, .ref mo)]) hx hb dX12_isSo_105 hl (k := 3) rfl (z_inc i 1) (by decide) (zLvf_h rfl) (fun ls hl => ?_)
          refine lv_goto (tgt := 7) hx hb dX12_isSo_108 (by decide) ?_
          exact ih_7 (i + 1) (xsteps + j_gone_17) j_at_16 j_gone_17 g_posts_18 g_was_19 (show (i + 1) ≤ 8 ∧ zMP g_posts_18 from ⟨by omega, (by first | with_reducible assumption | assumption)⟩) (show 8 - (i + 1) < 8 - i from by omega) _ _ ls G (lv_sub hl [0, 4] rfl)
        · have c_29n : ¬ j_at_16.toInt = (f_all y_9.toNatClampNeg).toInt := fun q => c_29 ((fa_eq _ _).mpr q)
          refine lv_goto (tgt := 90) hx hb dX12_isSo_82 (by decide) ?_
          refine lv_iconst (v := 0) hx hb dX12_isSo_90 (by decide) ?_
          exact z_back hQz_ (z_zret C hr hlocks G (Nat.le_of_ble_eq_true rfl) (Nat.le_of_ble_eq_true rfl) dX12_isSo_91 rfl ⟨xsteps, j_at_16, j_gone_17, g_posts_18, g_was_19, rfl, (Or.inl rfl), (by first | with_reducible assumption | omega | trivial | assumption)⟩)
    · have h_15 : ((f_all y_5.toNatClampNeg).toInt < 0 ∨ i_crossings.toInt ≤ (f_all y_5.toNatClampNeg).toInt) := h_15
      refine lv_if_ne (tgt := 62) hx hb dX12_isSo_57 (by decide) (fun q => absurd (by decide) q) (fun _ => ?_)
      refine lv_iconst (v := 0) hx hb dX12_isSo_60 (by decide) ?_
      have G := G.sub (bs' := [[zO11 mo m_all m_has i_size i_next i_where i_token i_number i_word i_wrong i_farCrossing m_read i_z0 i_crossings i_inns m_posts m_shut m_here xsteps i_done xat xgone m_was m_came m_seenAt m_rowWorth m_farBy m_used i_everywhere i_again0 i_d0 i_never i_firstCame i_longRun i_moved i_crowd i_l0 i_fitMany i_fitLeast i_fitMost m_fitPost m_fitEnd m_keptPosts i_x0], [zAr T 0 m_all 3952 f_all], [zAr T 0 m_posts 7 xposts], [zAr T 0 m_shut 7 f_shut], [zAr T 0 m_was 7 xwas]]) [4, 0, 1, 2, 3] rfl
      exact z_back hQz_ (z_zret C hr hlocks G (Nat.le_of_ble_eq_true rfl) (Nat.le_of_ble_eq_true rfl) dX12_isSo_61 rfl ⟨xsteps, xat, xgone, xposts, xwas, rfl, (Or.inl rfl), (by first | with_reducible assumption | omega | trivial | assumption)⟩)
set_option maxHeartbeats 4000000 in
set_option maxRecDepth 100000 in
/-- c_m_laysNoFits -/
theorem c_m_laysNoFits (l : Launch) (T : zTy) (mo : Nat) (m_all : Nat) (m_has : Nat) (i_size : Int32) (i_next : Int32) (i_where : Int32) (i_token : Int32) (i_number : Int32) (i_word : Int32) (i_wrong : Int32) (i_farCrossing : Int32) (m_read : Nat) (i_z0 : Int32) (i_crossings : Int32) (i_inns : Int32) (m_posts : Nat) (m_shut : Nat) (m_here : Nat) (i_steps : Int32) (i_done : Int32) (i_at : Int32) (i_gone : Int32) (m_was : Nat) (m_came : Nat) (m_seenAt : Nat) (m_rowWorth : Nat) (m_farBy : Nat) (m_used : Nat) (i_everywhere : Int32) (i_again0 : Int32) (i_d0 : Int32) (i_never : Int32) (i_firstCame : Int32) (i_longRun : Int32) (i_moved : Int32) (i_crowd : Int32) (i_l0 : Int32) (i_fitMany : Int32) (i_fitLeast : Int32) (i_fitMost : Int32) (m_fitPost : Nat) (m_fitEnd : Nat) (m_keptPosts : Nat) (i_x0 : Int32) (f_fitPost : Nat → Int32) (f_fitEnd : Nat → Int32) : zMv l T yX12_laysNoFits cX12_laysNoFits 2 1 0 0 [.ref mo] [[zO11 mo m_all m_has i_size i_next i_where i_token i_number i_word i_wrong i_farCrossing m_read i_z0 i_crossings i_inns m_posts m_shut m_here i_steps i_done i_at i_gone m_was m_came m_seenAt m_rowWorth m_farBy m_used i_everywhere i_again0 i_d0 i_never i_firstCame i_longRun i_moved i_crowd i_l0 i_fitMany i_fitLeast i_fitMost m_fitPost m_fitEnd m_keptPosts i_x0], [zAr T 0 m_fitPost 28 f_fitPost], [zAr T 0 m_fitEnd 49 f_fitEnd]] (fun bs => ∃ (j_fitMany : Int32) (j_fitLeast : Int32) (j_fitMost : Int32) (g_fitPost : Nat → Int32) (g_fitEnd : Nat → Int32), bs = [[zO11 mo m_all m_has i_size i_next i_where i_token i_number i_word i_wrong i_farCrossing m_read i_z0 i_crossings i_inns m_posts m_shut m_here i_steps i_done i_at i_gone m_was m_came m_seenAt m_rowWorth m_farBy m_used i_everywhere i_again0 i_d0 i_never i_firstCame i_longRun i_moved i_crowd i_l0 j_fitMany j_fitLeast j_fitMost m_fitPost m_fitEnd m_keptPosts i_x0], [zAr T 0 m_fitPost 28 g_fitPost], [zAr T 0 m_fitEnd 49 g_fitEnd]]) := by
  refine zMv_of (own := RX12) (by decide) rfl (Nat.le_of_ble_eq_true rfl) ?_
  intro p e s m args below meth c A ls C hr hlocks hnm hAe G hl
  refine zHide (fun Qz_ hQz_ => ?_)
  have hx := C.1
  have hb := C.2.1
  have hl : lv_has ls 2 [(0, .ref mo)] := hl
  refine lv_aload_n hx hb dX12_laysNoFits_0 rfl (lv_at hl 0 rfl) ?_
  refine lv_iconst (v := 0) hx hb dX12_laysNoFits_1 (by decide) ?_
  refine z_put C G clX12 0 rfl 36 (by decide) m_fl_RX12_366 rfl rfl rfl (Nat.le_of_ble_eq_true rfl) dX12_laysNoFits_2 (fun H locs G => ?_)
  have G : zS T A s.heap s [[zO11 mo m_all m_has i_size i_next i_where i_token i_number i_word i_wrong i_farCrossing m_read i_z0 i_crossings i_inns m_posts m_shut m_here i_steps i_done i_at i_gone m_was m_came m_seenAt m_rowWorth m_farBy m_used i_everywhere i_again0 i_d0 i_never i_firstCame i_longRun i_moved i_crowd i_l0 0 i_fitLeast i_fitMost m_fitPost m_fitEnd m_keptPosts i_x0], [zAr T 0 m_fitPost 28 f_fitPost], [zAr T 0 m_fitEnd 49 f_fitEnd]] _ _ := G
  refine lv_aload_n hx hb dX12_laysNoFits_5 rfl (lv_at hl 0 rfl) ?_
  refine lv_iconst (v := (-1)) hx hb dX12_laysNoFits_6 (by decide) ?_
  refine z_put C G clX12 0 rfl 37 (by decide) m_fl_RX12_369 rfl rfl rfl (Nat.le_of_ble_eq_true rfl) dX12_laysNoFits_7 (fun H locs G => ?_)
  have G : zS T A s.heap s [[zO11 mo m_all m_has i_size i_next i_where i_token i_number i_word i_wrong i_farCrossing m_read i_z0 i_crossings i_inns m_posts m_shut m_here i_steps i_done i_at i_gone m_was m_came m_seenAt m_rowWorth m_farBy m_used i_everywhere i_again0 i_d0 i_never i_firstCame i_longRun i_moved i_crowd i_l0 0 (-1) i_fitMost m_fitPost m_fitEnd m_keptPosts i_x0], [zAr T 0 m_fitPost 28 f_fitPost], [zAr T 0 m_fitEnd 49 f_fitEnd]] _ _ := G
  refine lv_aload_n hx hb dX12_laysNoFits_10 rfl (lv_at hl 0 rfl) ?_
  refine lv_iconst (v := (-1)) hx hb dX12_laysNoFits_11 (by decide) ?_
  refine z_put C G clX12 0 rfl 38 (by decide) m_fl_RX12_372 rfl rfl rfl (Nat.le_of_ble_eq_true rfl) dX12_laysNoFits_12 (fun H locs G => ?_)
  have G : zS T A s.heap s [[zO11 mo m_all m_has i_size i_next i_where i_token i_number i_word i_wrong i_farCrossing m_read i_z0 i_crossings i_inns m_posts m_shut m_here i_steps i_done i_at i_gone m_was m_came m_seenAt m_rowWorth m_farBy m_used i_everywhere i_again0 i_d0 i_never i_firstCame i_longRun i_moved i_crowd i_l0 0 (-1) (-1) m_fitPost m_fitEnd m_keptPosts i_x0], [zAr T 0 m_fitPost 28 f_fitPost], [zAr T 0 m_fitEnd 49 f_fitEnd]] _ _ := G
  refine lv_iconst (v := 0) hx hb dX12_laysNoFits_15 (by decide) ?_
  refine lv_istore_n (lv' := [(1, .int 0), (0, .ref mo)]) hx hb dX12_laysNoFits_16 rfl hl (by decide) (zLvf_h rfl) (fun ls hl => ?_)
  refine z_lp2 (T := T) 17 (fun (i : Nat) (xfitPost : Nat → Int32) => [[zO11 mo m_all m_has i_size i_next i_where i_token i_number i_word i_wrong i_farCrossing m_read i_z0 i_crossings i_inns m_posts m_shut m_here i_steps i_done i_at i_gone m_was m_came m_seenAt m_rowWorth m_farBy m_used i_everywhere i_again0 i_d0 i_never i_firstCame i_longRun i_moved i_crowd i_l0 0 (-1) (-1) m_fitPost m_fitEnd m_keptPosts i_x0], [zAr T 0 m_fitPost 28 xfitPost], [zAr T 0 m_fitEnd 49 f_fitEnd]]) (fun (i : Nat) (xfitPost : Nat → Int32) => [(1, .int (nI i)), (0, .ref mo)]) (fun (i : Nat) (xfitPost : Nat → Int32) => i ≤ 28) (fun (i : Nat) (xfitPost : Nat → Int32) => 28 - i) ?_ 0 f_fitPost (show 0 ≤ 28 from by omega) G (lv_sub hl [0, 1] rfl)
  intro i xfitPost hi ih_17 H locs ls G hl
  replace hi : i ≤ 28 := hi
  replace G : zS T A s.heap s [[zO11 mo m_all m_has i_size i_next i_where i_token i_number i_word i_wrong i_farCrossing m_read i_z0 i_crossings i_inns m_posts m_shut m_here i_steps i_done i_at i_gone m_was m_came m_seenAt m_rowWorth m_farBy m_used i_everywhere i_again0 i_d0 i_never i_firstCame i_longRun i_moved i_crowd i_l0 0 (-1) (-1) m_fitPost m_fitEnd m_keptPosts i_x0], [zAr T 0 m_fitPost 28 xfitPost], [zAr T 0 m_fitEnd 49 f_fitEnd]] _ _ := G
  replace hl : lv_has ls 2 [(1, .int (nI i)), (0, .ref mo)] := hl
  refine lv_iload_n hx hb dX12_laysNoFits_17 rfl (lv_at hl 0 rfl) ?_
  refine lv_bipush (v := 28) hx hb dX12_laysNoFits_18 (by decide) ?_
  refine lv_icmp_ge (tgt := 36) hx hb dX12_laysNoFits_20 (by decide) (fun c_1 => ?_) (fun c_1 => ?_)
  · have c_1n : 28 ≤ i := (nI_leI (a := 28) (b := i) (by omega) (by omega)).mp c_1
    refine lv_iconst (v := 0) hx hb dX12_laysNoFits_36 (by decide) ?_
    refine lv_istore_n (lv' := [(1, .int 0), (0, .ref mo)]) hx hb dX12_laysNoFits_37 rfl hl (by decide) (zLvf_h rfl) (fun ls hl => ?_)
    refine z_lp2 (T := T) 38 (fun (i : Nat) (xfitEnd : Nat → Int32) => [[zO11 mo m_all m_has i_size i_next i_where i_token i_number i_word i_wrong i_farCrossing m_read i_z0 i_crossings i_inns m_posts m_shut m_here i_steps i_done i_at i_gone m_was m_came m_seenAt m_rowWorth m_farBy m_used i_everywhere i_again0 i_d0 i_never i_firstCame i_longRun i_moved i_crowd i_l0 0 (-1) (-1) m_fitPost m_fitEnd m_keptPosts i_x0], [zAr T 0 m_fitPost 28 xfitPost], [zAr T 0 m_fitEnd 49 xfitEnd]]) (fun (i : Nat) (xfitEnd : Nat → Int32) => [(1, .int (nI i)), (0, .ref mo)]) (fun (i : Nat) (xfitEnd : Nat → Int32) => i ≤ 49) (fun (i : Nat) (xfitEnd : Nat → Int32) => 49 - i) ?_ 0 f_fitEnd (show 0 ≤ 49 from by omega) G (lv_sub hl [0, 1] rfl)
    intro i xfitEnd hi ih_38 H locs ls G hl
    replace hi : i ≤ 49 := hi
    replace G : zS T A s.heap s [[zO11 mo m_all m_has i_size i_next i_where i_token i_number i_word i_wrong i_farCrossing m_read i_z0 i_crossings i_inns m_posts m_shut m_here i_steps i_done i_at i_gone m_was m_came m_seenAt m_rowWorth m_farBy m_used i_everywhere i_again0 i_d0 i_never i_firstCame i_longRun i_moved i_crowd i_l0 0 (-1) (-1) m_fitPost m_fitEnd m_keptPosts i_x0], [zAr T 0 m_fitPost 28 xfitPost], [zAr T 0 m_fitEnd 49 xfitEnd]] _ _ := G
    replace hl : lv_has ls 2 [(1, .int (nI i)), (0, .ref mo)] := hl
    refine lv_iload_n hx hb dX12_laysNoFits_38 rfl (lv_at hl 0 rfl) ?_
    refine lv_bipush (v := 49) hx hb dX12_laysNoFits_39 (by decide) ?_
    refine lv_icmp_ge (tgt := 57) hx hb dX12_laysNoFits_41 (by decide) (fun c_2 => ?_) (fun c_2 => ?_)
    · have c_2n : 49 ≤ i := (nI_leI (a := 49) (b := i) (by omega) (by omega)).mp c_2
      exact z_back hQz_ (z_vret C hr hlocks G (Nat.le_of_ble_eq_true rfl) (Nat.le_of_ble_eq_true rfl) dX12_laysNoFits_57 ⟨0, (-1), (-1), xfitPost, xfitEnd, rfl⟩)
    · have c_2n : ¬ 49 ≤ i := fun q => c_2 ((nI_leI (a := 49) (b := i) (by omega) (by omega)).mpr q)
      refine lv_aload_n hx hb dX12_laysNoFits_44 rfl (lv_at hl 1 rfl) ?_
      refine z_get C G clX12 0 rfl 40 (by decide) m_fl_RX12_50 rfl dX12_laysNoFits_45 ?_
      refine lv_iload_n hx hb dX12_laysNoFits_48 rfl (lv_at hl 0 rfl) ?_
      refine lv_iconst (v := 0) hx hb dX12_laysNoFits_49 (by decide) ?_
      refine z_ist C G 2 rfl (vp_in_nI (by omega) (by decide)) dX12_laysNoFits_50 (fun H locs G => ?_)
      rw [nI_clamp (by omega)] at G
      have G : zS T A s.heap s [[zO11 mo m_all m_has i_size i_next i_where i_token i_number i_word i_wrong i_farCrossing m_read i_z0 i_crossings i_inns m_posts m_shut m_here i_steps i_done i_at i_gone m_was m_came m_seenAt m_rowWorth m_farBy m_used i_everywhere i_again0 i_d0 i_never i_firstCame i_longRun i_moved i_crowd i_l0 0 (-1) (-1) m_fitPost m_fitEnd m_keptPosts i_x0], [zAr T 0 m_fitPost 28 xfitPost], [zAr T 0 m_fitEnd 49 (upd xfitEnd i 0)]] _ _ := G
      refine lv_iinc (v := nI (i + 1)) (lv' := [(1, .int (nI (i + 1))), (0, .ref mo)]) hx hb dX12_laysNoFits_51 hl (k := 0) rfl (z_inc i 1) (by decide) (zLvf_h rfl) (fun ls hl => ?_)
      refine lv_goto (tgt := 38) hx hb dX12_laysNoFits_54 (by decide) ?_
      exact ih_38 (i + 1) (upd xfitEnd i 0) (show (i + 1) ≤ 49 from by omega) (show 49 - (i + 1) < 49 - i from by omega) _ _ ls G (lv_sub hl [0, 1] rfl)
  · have c_1n : ¬ 28 ≤ i := fun q => c_1 ((nI_leI (a := 28) (b := i) (by omega) (by omega)).mpr q)
    refine lv_aload_n hx hb dX12_laysNoFits_23 rfl (lv_at hl 1 rfl) ?_
    refine z_get C G clX12 0 rfl 39 (by decide) m_fl_RX12_47 rfl dX12_laysNoFits_24 ?_
    refine lv_iload_n hx hb dX12_laysNoFits_27 rfl (lv_at hl 0 rfl) ?_
    refine lv_iconst (v := 0) hx hb dX12_laysNoFits_28 (by decide) ?_
    refine z_ist C G 1 rfl (vp_in_nI (by omega) (by decide)) dX12_laysNoFits_29 (fun H locs G => ?_)
    rw [nI_clamp (by omega)] at G
    have G : zS T A s.heap s [[zO11 mo m_all m_has i_size i_next i_where i_token i_number i_word i_wrong i_farCrossing m_read i_z0 i_crossings i_inns m_posts m_shut m_here i_steps i_done i_at i_gone m_was m_came m_seenAt m_rowWorth m_farBy m_used i_everywhere i_again0 i_d0 i_never i_firstCame i_longRun i_moved i_crowd i_l0 0 (-1) (-1) m_fitPost m_fitEnd m_keptPosts i_x0], [zAr T 0 m_fitPost 28 (upd xfitPost i 0)], [zAr T 0 m_fitEnd 49 f_fitEnd]] _ _ := G
    refine lv_iinc (v := nI (i + 1)) (lv' := [(1, .int (nI (i + 1))), (0, .ref mo)]) hx hb dX12_laysNoFits_30 hl (k := 0) rfl (z_inc i 1) (by decide) (zLvf_h rfl) (fun ls hl => ?_)
    refine lv_goto (tgt := 17) hx hb dX12_laysNoFits_33 (by decide) ?_
    exact ih_17 (i + 1) (upd xfitPost i 0) (show (i + 1) ≤ 28 from by omega) (show 28 - (i + 1) < 28 - i from by omega) _ _ ls G (lv_sub hl [0, 1] rfl)
theorem zKq {x : Nat → Int32} {i : Nat} {v : Int32} (h : ∀ j, j < i → 0 ≤ (x j).toInt ∧ (x j).toInt ≤ 3) (hv : 0 ≤ v.toInt ∧ v.toInt ≤ 3) : ∀ j, j < i + 1 → 0 ≤ (upd x i v j).toInt ∧ (upd x i v j).toInt ≤ 3 := by
  intro j hj
  unfold upd
  split
  · exact hv
  · exact h j (by omega)
set_option maxHeartbeats 4000000 in
set_option maxRecDepth 100000 in
/-- c_m_laysEnds -/
theorem c_m_laysEnds (l : Launch) (T : zTy) (mo : Nat) (m_all : Nat) (m_has : Nat) (i_size : Int32) (i_next : Int32) (i_where : Int32) (i_token : Int32) (i_number : Int32) (i_word : Int32) (i_wrong : Int32) (i_farCrossing : Int32) (m_read : Nat) (i_z0 : Int32) (i_crossings : Int32) (i_inns : Int32) (m_posts : Nat) (m_shut : Nat) (m_here : Nat) (i_steps : Int32) (i_done : Int32) (i_at : Int32) (i_gone : Int32) (m_was : Nat) (m_came : Nat) (m_seenAt : Nat) (m_rowWorth : Nat) (m_farBy : Nat) (m_used : Nat) (i_everywhere : Int32) (i_again0 : Int32) (i_d0 : Int32) (i_never : Int32) (i_firstCame : Int32) (i_longRun : Int32) (i_moved : Int32) (i_crowd : Int32) (i_l0 : Int32) (i_fitMany : Int32) (i_fitLeast : Int32) (i_fitMost : Int32) (m_fitPost : Nat) (m_fitEnd : Nat) (m_keptPosts : Nat) (i_x0 : Int32) (f_all : Nat → Int32) (f_posts : Nat → Int32) (f_shut : Nat → Int32) (f_was : Nat → Int32) (f_fitEnd : Nat → Int32) (f_keptPosts : Nat → Int32) (hL : zML f_all i_z0 i_crossings) (hP : zMP f_posts) : zMv l T yX12_laysEnds cX12_laysEnds 3 5 0 0 [.ref mo] [[zO11 mo m_all m_has i_size i_next i_where i_token i_number i_word i_wrong i_farCrossing m_read i_z0 i_crossings i_inns m_posts m_shut m_here i_steps i_done i_at i_gone m_was m_came m_seenAt m_rowWorth m_farBy m_used i_everywhere i_again0 i_d0 i_never i_firstCame i_longRun i_moved i_crowd i_l0 i_fitMany i_fitLeast i_fitMost m_fitPost m_fitEnd m_keptPosts i_x0], [zAr T 0 m_all 3952 f_all], [zAr T 0 m_posts 7 f_posts], [zAr T 0 m_shut 7 f_shut], [zAr T 0 m_was 7 f_was], [zAr T 0 m_fitEnd 49 f_fitEnd], [zAr T 0 m_keptPosts 7 f_keptPosts]] (fun bs => ∃ (j_at : Int32) (j_gone : Int32) (g_posts : Nat → Int32) (g_was : Nat → Int32) (g_fitEnd : Nat → Int32) (g_keptPosts : Nat → Int32), bs = [[zO11 mo m_all m_has i_size i_next i_where i_token i_number i_word i_wrong i_farCrossing m_read i_z0 i_crossings i_inns m_posts m_shut m_here i_steps i_done j_at j_gone m_was m_came m_seenAt m_rowWorth m_farBy m_used i_everywhere i_again0 i_d0 i_never i_firstCame i_longRun i_moved i_crowd i_l0 i_fitMany i_fitLeast i_fitMost m_fitPost m_fitEnd m_keptPosts i_x0], [zAr T 0 m_all 3952 f_all], [zAr T 0 m_posts 7 g_posts], [zAr T 0 m_shut 7 f_shut], [zAr T 0 m_was 7 g_was], [zAr T 0 m_fitEnd 49 g_fitEnd], [zAr T 0 m_keptPosts 7 g_keptPosts]] ∧ zMP g_posts) := by
  refine zMv_of (own := RX12) (by decide) rfl (Nat.le_of_ble_eq_true rfl) ?_
  intro p e s m args below meth c A ls C hr hlocks hnm hAe G hl
  refine zHide (fun Qz_ hQz_ => ?_)
  have hx := C.1
  have hb := C.2.1
  have hl : lv_has ls 3 [(0, .ref mo)] := hl
  have hz := hL.1
  have hcr := hL.cr
  refine lv_iconst (v := 0) hx hb dX12_laysEnds_0 (by decide) ?_
  refine lv_istore_n (lv' := [(1, .int 0), (0, .ref mo)]) hx hb dX12_laysEnds_1 rfl hl (by decide) (zLvf_h rfl) (fun ls hl => ?_)
  refine z_lp2 (T := T) 2 (fun (i : Nat) (xkeptPosts : Nat → Int32) => [[zO11 mo m_all m_has i_size i_next i_where i_token i_number i_word i_wrong i_farCrossing m_read i_z0 i_crossings i_inns m_posts m_shut m_here i_steps i_done i_at i_gone m_was m_came m_seenAt m_rowWorth m_farBy m_used i_everywhere i_again0 i_d0 i_never i_firstCame i_longRun i_moved i_crowd i_l0 i_fitMany i_fitLeast i_fitMost m_fitPost m_fitEnd m_keptPosts i_x0], [zAr T 0 m_all 3952 f_all], [zAr T 0 m_posts 7 f_posts], [zAr T 0 m_shut 7 f_shut], [zAr T 0 m_was 7 f_was], [zAr T 0 m_fitEnd 49 f_fitEnd], [zAr T 0 m_keptPosts 7 xkeptPosts]]) (fun (i : Nat) (xkeptPosts : Nat → Int32) => [(1, .int (nI i)), (0, .ref mo)]) (fun (i : Nat) (xkeptPosts : Nat → Int32) => i ≤ 7 ∧ (∀ j, j < i → 0 ≤ (xkeptPosts j).toInt ∧ (xkeptPosts j).toInt ≤ 3) ∧ (i : Int) ≤ i_crossings.toInt) (fun (i : Nat) (xkeptPosts : Nat → Int32) => 7 - i) ?_ 0 f_keptPosts (show 0 ≤ 7 ∧ (∀ j, j < 0 → 0 ≤ (f_keptPosts j).toInt ∧ (f_keptPosts j).toInt ≤ 3) ∧ (0 : Int) ≤ i_crossings.toInt from ⟨by omega, fun j hj => absurd hj (by omega), by omega⟩) G (lv_sub hl [0, 1] rfl)
  intro i xkeptPosts hI9 ih_2 H locs ls G hl
  replace hI9 : i ≤ 7 ∧ (∀ j, j < i → 0 ≤ (xkeptPosts j).toInt ∧ (xkeptPosts j).toInt ≤ 3) ∧ (i : Int) ≤ i_crossings.toInt := hI9
  refine zAn3 hI9 ?_
  intro hi hK hic
  clear hI9
  replace G : zS T A s.heap s [[zO11 mo m_all m_has i_size i_next i_where i_token i_number i_word i_wrong i_farCrossing m_read i_z0 i_crossings i_inns m_posts m_shut m_here i_steps i_done i_at i_gone m_was m_came m_seenAt m_rowWorth m_farBy m_used i_everywhere i_again0 i_d0 i_never i_firstCame i_longRun i_moved i_crowd i_l0 i_fitMany i_fitLeast i_fitMost m_fitPost m_fitEnd m_keptPosts i_x0], [zAr T 0 m_all 3952 f_all], [zAr T 0 m_posts 7 f_posts], [zAr T 0 m_shut 7 f_shut], [zAr T 0 m_was 7 f_was], [zAr T 0 m_fitEnd 49 f_fitEnd], [zAr T 0 m_keptPosts 7 xkeptPosts]] _ _ := G
  replace hl : lv_has ls 3 [(1, .int (nI i)), (0, .ref mo)] := hl
  refine lv_iload_n hx hb dX12_laysEnds_2 rfl (lv_at hl 0 rfl) ?_
  refine lv_aload_n hx hb dX12_laysEnds_3 rfl (lv_at hl 1 rfl) ?_
  refine z_get C G clX12 0 rfl 12 (by decide) m_fl_RX12_169 rfl dX12_laysEnds_4 ?_
  refine lv_icmp_ge (tgt := 28) hx hb dX12_laysEnds_7 (by decide) (fun c_1 => ?_) (fun c_1 => ?_)
  · have c_1n : i_crossings.toInt ≤ (i : Int) := by have q := (fa_le _ _).mp c_1; rw [nI_toInt (n := i) (by omega)] at q; exact q
    refine lv_iconst (v := 0) hx hb dX12_laysEnds_28 (by decide) ?_
    refine lv_istore_n (lv' := [(1, .int 0), (0, .ref mo)]) hx hb dX12_laysEnds_29 rfl hl (by decide) (zLvf_h rfl) (fun ls hl => ?_)
    refine z_lp6 (T := T) 30 (fun (ci : Nat) (xat : Int32) (xgone : Int32) (xposts : Nat → Int32) (xwas : Nat → Int32) (xfitEnd : Nat → Int32) => [[zO11 mo m_all m_has i_size i_next i_where i_token i_number i_word i_wrong i_farCrossing m_read i_z0 i_crossings i_inns m_posts m_shut m_here i_steps i_done xat xgone m_was m_came m_seenAt m_rowWorth m_farBy m_used i_everywhere i_again0 i_d0 i_never i_firstCame i_longRun i_moved i_crowd i_l0 i_fitMany i_fitLeast i_fitMost m_fitPost m_fitEnd m_keptPosts i_x0], [zAr T 0 m_all 3952 f_all], [zAr T 0 m_posts 7 xposts], [zAr T 0 m_shut 7 f_shut], [zAr T 0 m_was 7 xwas], [zAr T 0 m_fitEnd 49 xfitEnd], [zAr T 0 m_keptPosts 7 xkeptPosts]]) (fun (ci : Nat) (xat : Int32) (xgone : Int32) (xposts : Nat → Int32) (xwas : Nat → Int32) (xfitEnd : Nat → Int32) => [(1, .int (nI ci)), (0, .ref mo)]) (fun (ci : Nat) (xat : Int32) (xgone : Int32) (xposts : Nat → Int32) (xwas : Nat → Int32) (xfitEnd : Nat → Int32) => ci ≤ 7 ∧ zMP xposts) (fun (ci : Nat) (xat : Int32) (xgone : Int32) (xposts : Nat → Int32) (xwas : Nat → Int32) (xfitEnd : Nat → Int32) => 7 - ci) ?_ 0 i_at i_gone f_posts f_was f_fitEnd (show 0 ≤ 7 ∧ zMP f_posts from ⟨by omega, (by first | with_reducible assumption | assumption)⟩) G (lv_sub hl [0, 1] rfl)
    intro ci xat xgone xposts xwas xfitEnd hI9 ih_30 H locs ls G hl
    replace hI9 : ci ≤ 7 ∧ zMP xposts := hI9
    refine zAn2 hI9 ?_
    intro hcc hQ
    clear hI9
    replace G : zS T A s.heap s [[zO11 mo m_all m_has i_size i_next i_where i_token i_number i_word i_wrong i_farCrossing m_read i_z0 i_crossings i_inns m_posts m_shut m_here i_steps i_done xat xgone m_was m_came m_seenAt m_rowWorth m_farBy m_used i_everywhere i_again0 i_d0 i_never i_firstCame i_longRun i_moved i_crowd i_l0 i_fitMany i_fitLeast i_fitMost m_fitPost m_fitEnd m_keptPosts i_x0], [zAr T 0 m_all 3952 f_all], [zAr T 0 m_posts 7 xposts], [zAr T 0 m_shut 7 f_shut], [zAr T 0 m_was 7 xwas], [zAr T 0 m_fitEnd 49 xfitEnd], [zAr T 0 m_keptPosts 7 xkeptPosts]] _ _ := G
    replace hl : lv_has ls 3 [(1, .int (nI ci)), (0, .ref mo)] := hl
    refine lv_iload_n hx hb dX12_laysEnds_30 rfl (lv_at hl 0 rfl) ?_
    refine lv_aload_n hx hb dX12_laysEnds_31 rfl (lv_at hl 1 rfl) ?_
    refine z_get C G clX12 0 rfl 12 (by decide) m_fl_RX12_169 rfl dX12_laysEnds_32 ?_
    refine lv_icmp_ge (tgt := 107) hx hb dX12_laysEnds_35 (by decide) (fun c_2 => ?_) (fun c_2 => ?_)
    · have c_2n : i_crossings.toInt ≤ (ci : Int) := by have q := (fa_le _ _).mp c_2; rw [nI_toInt (n := ci) (by omega)] at q; exact q
      exact z_back hQz_ (z_vret C hr hlocks G (Nat.le_of_ble_eq_true rfl) (Nat.le_of_ble_eq_true rfl) dX12_laysEnds_107 ⟨xat, xgone, xposts, xwas, xfitEnd, xkeptPosts, rfl, (by first | with_reducible assumption | omega | trivial | assumption)⟩)
    · have c_2n : ¬ i_crossings.toInt ≤ (ci : Int) := fun q => c_2 ((fa_le _ _).mpr (by rw [nI_toInt (n := ci) (by omega)]; exact q))
      refine lv_aload_n hx hb dX12_laysEnds_38 rfl (lv_at hl 1 rfl) ?_
      refine lv_iload_n hx hb dX12_laysEnds_39 rfl (lv_at hl 0 rfl) ?_
      have ti_3 : (nI ci).toInt = ((ci : Nat) : Int) := nI_toInt (by omega)
      refine z_Vi (bc := [[zO11 mo m_all m_has i_size i_next i_where i_token i_number i_word i_wrong i_farCrossing m_read i_z0 i_crossings i_inns m_posts m_shut m_here i_steps i_done xat xgone m_was m_came m_seenAt m_rowWorth m_farBy m_used i_everywhere i_again0 i_d0 i_never i_firstCame i_longRun i_moved i_crowd i_l0 i_fitMany i_fitLeast i_fitMost m_fitPost m_fitEnd m_keptPosts i_x0]]) (br := [[zAr T 0 m_all 3952 f_all], [zAr T 0 m_posts 7 xposts], [zAr T 0 m_shut 7 f_shut], [zAr T 0 m_was 7 xwas], [zAr T 0 m_fitEnd 49 xfitEnd], [zAr T 0 m_keptPosts 7 xkeptPosts]]) (As := [.int (nI ci)]) (rest := []) C G (c_m_isInn l T mo m_all m_has i_size i_next i_where i_token i_number i_word i_wrong i_farCrossing m_read i_z0 i_crossings i_inns m_posts m_shut m_here i_steps i_done xat xgone m_was m_came m_seenAt m_rowWorth m_farBy m_used i_everywhere i_again0 i_d0 i_never i_firstCame i_longRun i_moved i_crowd i_l0 i_fitMany i_fitLeast i_fitMost m_fitPost m_fitEnd m_keptPosts i_x0 (nI ci)) (kV_RX12_178 C.2.2.2.2 (Nat.le_of_ble_eq_true rfl) (Nat.le_of_ble_eq_true rfl)) [0] [0] rfl rfl (ci := 11) (qc := (RX12, TX12, 43)) rfl rfl (List.mem_flatten.mpr ⟨_, List.mem_of_getElem? (i := 0) rfl, List.mem_cons_self⟩) rfl rfl hl.1 dX12_laysEnds_40 (Nat.le_of_ble_eq_true rfl) (Nat.le_of_ble_eq_true rfl) (fun r_5 b1 H locs hw G => ?_)
      refine zAn2 hw ?_
      intro hbs9 hc_4
      clear hw
      subst hbs9
      have G : zS T A s.heap s [[zAr T 0 m_all 3952 f_all], [zAr T 0 m_posts 7 xposts], [zAr T 0 m_shut 7 f_shut], [zAr T 0 m_was 7 xwas], [zAr T 0 m_fitEnd 49 xfitEnd], [zAr T 0 m_keptPosts 7 xkeptPosts], [zO11 mo m_all m_has i_size i_next i_where i_token i_number i_word i_wrong i_farCrossing m_read i_z0 i_crossings i_inns m_posts m_shut m_here i_steps i_done xat xgone m_was m_came m_seenAt m_rowWorth m_farBy m_used i_everywhere i_again0 i_d0 i_never i_firstCame i_longRun i_moved i_crowd i_l0 i_fitMany i_fitLeast i_fitMost m_fitPost m_fitEnd m_keptPosts i_x0]] _ _ := G
      rcases hc_4 with ⟨rfl, h_6⟩ | ⟨rfl, h_7⟩
      · have h_6 : zInn i_inns (nI ci) := h_6
        refine lv_if_eq (tgt := 49) hx hb dX12_laysEnds_43 (by decide) (fun q => absurd q (by decide)) (fun _ => ?_)
        refine lv_goto (tgt := 101) hx hb dX12_laysEnds_46 (by decide) ?_
        refine lv_iinc (v := nI (ci + 1)) (lv' := [(1, .int (nI (ci + 1))), (0, .ref mo)]) hx hb dX12_laysEnds_101 hl (k := 0) rfl (z_inc ci 1) (by decide) (zLvf_h rfl) (fun ls hl => ?_)
        refine lv_goto (tgt := 30) hx hb dX12_laysEnds_104 (by decide) ?_
        have G := G.sub (bs' := [[zO11 mo m_all m_has i_size i_next i_where i_token i_number i_word i_wrong i_farCrossing m_read i_z0 i_crossings i_inns m_posts m_shut m_here i_steps i_done xat xgone m_was m_came m_seenAt m_rowWorth m_farBy m_used i_everywhere i_again0 i_d0 i_never i_firstCame i_longRun i_moved i_crowd i_l0 i_fitMany i_fitLeast i_fitMost m_fitPost m_fitEnd m_keptPosts i_x0], [zAr T 0 m_all 3952 f_all], [zAr T 0 m_posts 7 xposts], [zAr T 0 m_shut 7 f_shut], [zAr T 0 m_was 7 xwas], [zAr T 0 m_fitEnd 49 xfitEnd], [zAr T 0 m_keptPosts 7 xkeptPosts]]) [6, 0, 1, 2, 3, 4, 5] rfl
        exact ih_30 (ci + 1) xat xgone xposts xwas xfitEnd (show (ci + 1) ≤ 7 ∧ zMP xposts from ⟨by omega, (by first | with_reducible assumption | assumption)⟩) (show 7 - (ci + 1) < 7 - ci from by omega) _ _ ls G (lv_sub hl [0, 1] rfl)
      · have h_7 : ¬ zInn i_inns (nI ci) := h_7
        refine lv_if_eq (tgt := 49) hx hb dX12_laysEnds_43 (by decide) (fun _ => ?_) (fun q => absurd (by decide) q)
        refine lv_aload_n hx hb dX12_laysEnds_49 rfl (lv_at hl 1 rfl) ?_
        refine lv_iload_n hx hb dX12_laysEnds_50 rfl (lv_at hl 0 rfl) ?_
        have ti_8 : (nI ci).toInt = ((ci : Nat) : Int) := nI_toInt (by omega)
        refine z_Vi (bc := [[zO11 mo m_all m_has i_size i_next i_where i_token i_number i_word i_wrong i_farCrossing m_read i_z0 i_crossings i_inns m_posts m_shut m_here i_steps i_done xat xgone m_was m_came m_seenAt m_rowWorth m_farBy m_used i_everywhere i_again0 i_d0 i_never i_firstCame i_longRun i_moved i_crowd i_l0 i_fitMany i_fitLeast i_fitMost m_fitPost m_fitEnd m_keptPosts i_x0], [zAr T 0 m_all 3952 f_all], [zAr T 0 m_posts 7 xposts], [zAr T 0 m_shut 7 f_shut], [zAr T 0 m_was 7 xwas]]) (br := [[zAr T 0 m_fitEnd 49 xfitEnd], [zAr T 0 m_keptPosts 7 xkeptPosts]]) (As := [.int (nI ci)]) (rest := []) C G (c_m_walks l T mo m_all m_has i_size i_next i_where i_token i_number i_word i_wrong i_farCrossing m_read i_z0 i_crossings i_inns m_posts m_shut m_here i_steps i_done xat xgone m_was m_came m_seenAt m_rowWorth m_farBy m_used i_everywhere i_again0 i_d0 i_never i_firstCame i_longRun i_moved i_crowd i_l0 i_fitMany i_fitLeast i_fitMost m_fitPost m_fitEnd m_keptPosts i_x0 f_all xposts f_shut xwas (nI ci) (by first | with_reducible assumption | with_reducible rfl | omega | assumption | rfl | decide) (by first | with_reducible assumption | with_reducible rfl | omega | assumption | rfl | decide) (by first | with_reducible assumption | with_reducible rfl | omega | assumption | rfl | decide) (by first | with_reducible assumption | with_reducible rfl | omega | assumption | rfl | decide)) (kV_RX12_217 C.2.2.2.2 (Nat.le_of_ble_eq_true rfl) (Nat.le_of_ble_eq_true rfl)) [6, 0, 1, 2, 3] [0, 0, 0, 0, 2] rfl rfl (ci := 11) (qc := (RX12, TX12, 43)) rfl rfl (List.mem_flatten.mpr ⟨_, List.mem_of_getElem? (i := 0) rfl, List.mem_cons_self⟩) rfl rfl hl.1 dX12_laysEnds_51 (Nat.le_of_ble_eq_true rfl) (Nat.le_of_ble_eq_true rfl) (fun r_19 b1 H locs hw G => ?_)
        refine zEx4 hw ?_
        intro j_at_9 j_gone_10 g_posts_11 g_was_12
        refine zCu7 ?_
        intro hbs9 h_13 h_14 h_15 h_16 h_17 h_18
        clear hw
        subst hbs9
        have G : zS T A s.heap s [[zAr T 0 m_fitEnd 49 xfitEnd], [zAr T 0 m_keptPosts 7 xkeptPosts], [zO11 mo m_all m_has i_size i_next i_where i_token i_number i_word i_wrong i_farCrossing m_read i_z0 i_crossings i_inns m_posts m_shut m_here i_steps i_done j_at_9 j_gone_10 m_was m_came m_seenAt m_rowWorth m_farBy m_used i_everywhere i_again0 i_d0 i_never i_firstCame i_longRun i_moved i_crowd i_l0 i_fitMany i_fitLeast i_fitMost m_fitPost m_fitEnd m_keptPosts i_x0], [zAr T 0 m_all 3952 f_all], [zAr T 0 m_posts 7 g_posts_11], [zAr T 0 m_shut 7 f_shut], [zAr T 0 m_was 7 g_was_12]] _ _ := G
        replace h_13 : zHd ((r_19 = 0 ∨ r_19 = 1)) := h_13
        refine lv_pop hx hb dX12_laysEnds_54 rfl ?_
        refine lv_aload_n hx hb dX12_laysEnds_55 rfl (lv_at hl 1 rfl) ?_
        refine z_get C G clX12 2 rfl 40 (by decide) m_fl_RX12_50 rfl dX12_laysEnds_56 ?_
        refine lv_bipush (v := 7) hx hb dX12_laysEnds_59 (by decide) ?_
        refine lv_iload_n hx hb dX12_laysEnds_61 rfl (lv_at hl 0 rfl) ?_
        refine lv_imul hx hb dX12_laysEnds_62 ?_
        refine lv_topi (fun y_20 ey_20 => ?_)
        obtain rfl : y_20 = nI (7 * ci) := ey_20.trans (z_imuln 7 ci rfl rfl)
        refine lv_aload_n hx hb dX12_laysEnds_63 rfl (lv_at hl 1 rfl) ?_
        refine z_get C G clX12 2 rfl 19 (by decide) m_fl_RX12_202 rfl dX12_laysEnds_64 ?_
        refine lv_iadd hx hb dX12_laysEnds_67 ?_
        refine lv_topi (fun y_21 ey_21 => ?_)
        have ey_21i : y_21.toInt = ((7 * ci) : Int) + j_at_9.toInt := by rw [ey_21]; exact (z_iaddI (x := (nI (7 * ci))) (y := j_at_9) (by rw [nI_toInt (n := 7 * ci) (by omega)]; show -2147483648 ≤ ((7 * ci) : Int) + j_at_9.toInt; omega) (by rw [nI_toInt (n := 7 * ci) (by omega)]; show ((7 * ci) : Int) + j_at_9.toInt < 2147483648; omega)).trans (by rw [nI_toInt (n := 7 * ci) (by omega)] <;> rfl)
        refine lv_dup2_11 hx hb dX12_laysEnds_68 rfl rfl ?_
        refine z_ild C G 0 rfl (vp_in_iff.mpr ⟨by omega, by omega⟩) dX12_laysEnds_69 ?_
        refine lv_topi (fun v_22 ev_22 => ?_)
        subst ev_22
        refine lv_iconst (v := 1) hx hb dX12_laysEnds_70 (by decide) ?_
        refine lv_iadd hx hb dX12_laysEnds_71 ?_
        refine z_ist C G 0 rfl (vp_in_iff.mpr ⟨by omega, by omega⟩) dX12_laysEnds_72 (fun H locs G => ?_)
        have G : zS T A s.heap s [[zAr T 0 m_fitEnd 49 (upd xfitEnd y_21.toNatClampNeg ((xfitEnd y_21.toNatClampNeg) + 1))], [zAr T 0 m_keptPosts 7 xkeptPosts], [zO11 mo m_all m_has i_size i_next i_where i_token i_number i_word i_wrong i_farCrossing m_read i_z0 i_crossings i_inns m_posts m_shut m_here i_steps i_done j_at_9 j_gone_10 m_was m_came m_seenAt m_rowWorth m_farBy m_used i_everywhere i_again0 i_d0 i_never i_firstCame i_longRun i_moved i_crowd i_l0 i_fitMany i_fitLeast i_fitMost m_fitPost m_fitEnd m_keptPosts i_x0], [zAr T 0 m_all 3952 f_all], [zAr T 0 m_posts 7 g_posts_11], [zAr T 0 m_shut 7 f_shut], [zAr T 0 m_was 7 g_was_12]] _ _ := G
        refine lv_iconst (v := 0) hx hb dX12_laysEnds_73 (by decide) ?_
        refine lv_istore_n (lv' := [(2, .int 0), (1, .int (nI ci)), (0, .ref mo)]) hx hb dX12_laysEnds_74 rfl hl (by decide) (zLvf_h rfl) (fun ls hl => ?_)
        refine z_lp2 (T := T) 75 (fun (t : Nat) (yposts : Nat → Int32) => [[zAr T 0 m_fitEnd 49 (upd xfitEnd y_21.toNatClampNeg ((xfitEnd y_21.toNatClampNeg) + 1))], [zAr T 0 m_keptPosts 7 xkeptPosts], [zO11 mo m_all m_has i_size i_next i_where i_token i_number i_word i_wrong i_farCrossing m_read i_z0 i_crossings i_inns m_posts m_shut m_here i_steps i_done j_at_9 j_gone_10 m_was m_came m_seenAt m_rowWorth m_farBy m_used i_everywhere i_again0 i_d0 i_never i_firstCame i_longRun i_moved i_crowd i_l0 i_fitMany i_fitLeast i_fitMost m_fitPost m_fitEnd m_keptPosts i_x0], [zAr T 0 m_all 3952 f_all], [zAr T 0 m_posts 7 yposts], [zAr T 0 m_shut 7 f_shut], [zAr T 0 m_was 7 g_was_12]]) (fun (t : Nat) (yposts : Nat → Int32) => [(2, .int (nI t)), (1, .int (nI ci)), (0, .ref mo)]) (fun (t : Nat) (yposts : Nat → Int32) => t ≤ 7 ∧ zMP yposts) (fun (t : Nat) (yposts : Nat → Int32) => 7 - t) ?_ 0 g_posts_11 (show 0 ≤ 7 ∧ zMP g_posts_11 from ⟨by omega, (by first | with_reducible assumption | assumption)⟩) G (lv_sub hl [0, 1, 2] rfl)
        intro t yposts hI9 ih_75 H locs ls G hl
        replace hI9 : t ≤ 7 ∧ zMP yposts := hI9
        refine zAn2 hI9 ?_
        intro ht hQ2
        clear hI9
        replace G : zS T A s.heap s [[zAr T 0 m_fitEnd 49 (upd xfitEnd y_21.toNatClampNeg ((xfitEnd y_21.toNatClampNeg) + 1))], [zAr T 0 m_keptPosts 7 xkeptPosts], [zO11 mo m_all m_has i_size i_next i_where i_token i_number i_word i_wrong i_farCrossing m_read i_z0 i_crossings i_inns m_posts m_shut m_here i_steps i_done j_at_9 j_gone_10 m_was m_came m_seenAt m_rowWorth m_farBy m_used i_everywhere i_again0 i_d0 i_never i_firstCame i_longRun i_moved i_crowd i_l0 i_fitMany i_fitLeast i_fitMost m_fitPost m_fitEnd m_keptPosts i_x0], [zAr T 0 m_all 3952 f_all], [zAr T 0 m_posts 7 yposts], [zAr T 0 m_shut 7 f_shut], [zAr T 0 m_was 7 g_was_12]] _ _ := G
        replace hl : lv_has ls 3 [(2, .int (nI t)), (1, .int (nI ci)), (0, .ref mo)] := hl
        refine lv_iload_n hx hb dX12_laysEnds_75 rfl (lv_at hl 0 rfl) ?_
        refine lv_aload_n hx hb dX12_laysEnds_76 rfl (lv_at hl 2 rfl) ?_
        refine z_get C G clX12 2 rfl 12 (by decide) m_fl_RX12_169 rfl dX12_laysEnds_77 ?_
        refine lv_icmp_ge (tgt := 101) hx hb dX12_laysEnds_80 (by decide) (fun c_23 => ?_) (fun c_23 => ?_)
        · have c_23n : i_crossings.toInt ≤ (t : Int) := by have q := (fa_le _ _).mp c_23; rw [nI_toInt (n := t) (by omega)] at q; exact q
          refine lv_iinc (v := nI (ci + 1)) (lv' := [(1, .int (nI (ci + 1))), (2, .int (nI t)), (0, .ref mo)]) hx hb dX12_laysEnds_101 hl (k := 1) rfl (z_inc ci 1) (by decide) (zLvf_h rfl) (fun ls hl => ?_)
          refine lv_goto (tgt := 30) hx hb dX12_laysEnds_104 (by decide) ?_
          have G := G.sub (bs' := [[zO11 mo m_all m_has i_size i_next i_where i_token i_number i_word i_wrong i_farCrossing m_read i_z0 i_crossings i_inns m_posts m_shut m_here i_steps i_done j_at_9 j_gone_10 m_was m_came m_seenAt m_rowWorth m_farBy m_used i_everywhere i_again0 i_d0 i_never i_firstCame i_longRun i_moved i_crowd i_l0 i_fitMany i_fitLeast i_fitMost m_fitPost m_fitEnd m_keptPosts i_x0], [zAr T 0 m_all 3952 f_all], [zAr T 0 m_posts 7 yposts], [zAr T 0 m_shut 7 f_shut], [zAr T 0 m_was 7 g_was_12], [zAr T 0 m_fitEnd 49 (upd xfitEnd y_21.toNatClampNeg ((xfitEnd y_21.toNatClampNeg) + 1))], [zAr T 0 m_keptPosts 7 xkeptPosts]]) [2, 3, 4, 5, 6, 0, 1] rfl
          exact ih_30 (ci + 1) j_at_9 j_gone_10 yposts g_was_12 (upd xfitEnd y_21.toNatClampNeg ((xfitEnd y_21.toNatClampNeg) + 1)) (show (ci + 1) ≤ 7 ∧ zMP yposts from ⟨by omega, (by first | with_reducible assumption | assumption)⟩) (show 7 - (ci + 1) < 7 - ci from by omega) _ _ ls G (lv_sub hl [0, 2] rfl)
        · have c_23n : ¬ i_crossings.toInt ≤ (t : Int) := fun q => c_23 ((fa_le _ _).mpr (by rw [nI_toInt (n := t) (by omega)]; exact q))
          refine lv_aload_n hx hb dX12_laysEnds_83 rfl (lv_at hl 2 rfl) ?_
          refine z_get C G clX12 2 rfl 14 (by decide) m_fl_RX12_20 rfl dX12_laysEnds_84 ?_
          refine lv_iload_n hx hb dX12_laysEnds_87 rfl (lv_at hl 0 rfl) ?_
          refine lv_aload_n hx hb dX12_laysEnds_88 rfl (lv_at hl 2 rfl) ?_
          refine z_get C G clX12 2 rfl 41 (by decide) m_fl_RX12_53 rfl dX12_laysEnds_89 ?_
          refine lv_iload_n hx hb dX12_laysEnds_92 rfl (lv_at hl 0 rfl) ?_
          refine z_ild C G 1 rfl (vp_in_nI (by omega) (by decide)) dX12_laysEnds_93 ?_
          refine lv_topi (fun v_24 ev_24 => ?_)
          rw [nI_clamp (by omega)] at ev_24
          subst ev_24
          refine z_ist C G 4 rfl (vp_in_nI (by omega) (by decide)) dX12_laysEnds_94 (fun H locs G => ?_)
          rw [nI_clamp (by omega)] at G
          have G : zS T A s.heap s [[zAr T 0 m_fitEnd 49 (upd xfitEnd y_21.toNatClampNeg ((xfitEnd y_21.toNatClampNeg) + 1))], [zAr T 0 m_keptPosts 7 xkeptPosts], [zO11 mo m_all m_has i_size i_next i_where i_token i_number i_word i_wrong i_farCrossing m_read i_z0 i_crossings i_inns m_posts m_shut m_here i_steps i_done j_at_9 j_gone_10 m_was m_came m_seenAt m_rowWorth m_farBy m_used i_everywhere i_again0 i_d0 i_never i_firstCame i_longRun i_moved i_crowd i_l0 i_fitMany i_fitLeast i_fitMost m_fitPost m_fitEnd m_keptPosts i_x0], [zAr T 0 m_all 3952 f_all], [zAr T 0 m_posts 7 (upd yposts t (xkeptPosts t))], [zAr T 0 m_shut 7 f_shut], [zAr T 0 m_was 7 g_was_12]] _ _ := G
          refine lv_iinc (v := nI (t + 1)) (lv' := [(2, .int (nI (t + 1))), (1, .int (nI ci)), (0, .ref mo)]) hx hb dX12_laysEnds_95 hl (k := 0) rfl (z_inc t 1) (by decide) (zLvf_h rfl) (fun ls hl => ?_)
          refine lv_goto (tgt := 75) hx hb dX12_laysEnds_98 (by decide) ?_
          exact ih_75 (t + 1) (upd yposts t (xkeptPosts t)) (show (t + 1) ≤ 7 ∧ zMP (upd yposts t (xkeptPosts t)) from ⟨by omega, (zMP_upd hQ2 (hK t (by omega)))⟩) (show 7 - (t + 1) < 7 - t from by omega) _ _ ls G (lv_sub hl [0, 1, 2] rfl)
  · have c_1n : ¬ i_crossings.toInt ≤ (i : Int) := fun q => c_1 ((fa_le _ _).mpr (by rw [nI_toInt (n := i) (by omega)]; exact q))
    refine lv_aload_n hx hb dX12_laysEnds_10 rfl (lv_at hl 1 rfl) ?_
    refine z_get C G clX12 0 rfl 41 (by decide) m_fl_RX12_53 rfl dX12_laysEnds_11 ?_
    refine lv_iload_n hx hb dX12_laysEnds_14 rfl (lv_at hl 0 rfl) ?_
    refine lv_aload_n hx hb dX12_laysEnds_15 rfl (lv_at hl 1 rfl) ?_
    refine z_get C G clX12 0 rfl 14 (by decide) m_fl_RX12_20 rfl dX12_laysEnds_16 ?_
    refine lv_iload_n hx hb dX12_laysEnds_19 rfl (lv_at hl 0 rfl) ?_
    refine z_ild C G 2 rfl (vp_in_nI (by omega) (by decide)) dX12_laysEnds_20 ?_
    refine lv_topi (fun v_25 ev_25 => ?_)
    rw [nI_clamp (by omega)] at ev_25
    subst ev_25
    refine z_ist C G 6 rfl (vp_in_nI (by omega) (by decide)) dX12_laysEnds_21 (fun H locs G => ?_)
    rw [nI_clamp (by omega)] at G
    have G : zS T A s.heap s [[zO11 mo m_all m_has i_size i_next i_where i_token i_number i_word i_wrong i_farCrossing m_read i_z0 i_crossings i_inns m_posts m_shut m_here i_steps i_done i_at i_gone m_was m_came m_seenAt m_rowWorth m_farBy m_used i_everywhere i_again0 i_d0 i_never i_firstCame i_longRun i_moved i_crowd i_l0 i_fitMany i_fitLeast i_fitMost m_fitPost m_fitEnd m_keptPosts i_x0], [zAr T 0 m_all 3952 f_all], [zAr T 0 m_posts 7 f_posts], [zAr T 0 m_shut 7 f_shut], [zAr T 0 m_was 7 f_was], [zAr T 0 m_fitEnd 49 f_fitEnd], [zAr T 0 m_keptPosts 7 (upd xkeptPosts i (f_posts i))]] _ _ := G
    refine lv_iinc (v := nI (i + 1)) (lv' := [(1, .int (nI (i + 1))), (0, .ref mo)]) hx hb dX12_laysEnds_22 hl (k := 0) rfl (z_inc i 1) (by decide) (zLvf_h rfl) (fun ls hl => ?_)
    refine lv_goto (tgt := 2) hx hb dX12_laysEnds_25 (by decide) ?_
    exact ih_2 (i + 1) (upd xkeptPosts i (f_posts i)) (show (i + 1) ≤ 7 ∧ (∀ j, j < (i + 1) → 0 ≤ ((upd xkeptPosts i (f_posts i)) j).toInt ∧ ((upd xkeptPosts i (f_posts i)) j).toInt ≤ 3) ∧ ((i + 1) : Int) ≤ i_crossings.toInt from ⟨by omega, zKq hK (hP i (by omega)), by omega⟩) (show 7 - (i + 1) < 7 - i from by omega) _ _ ls G (lv_sub hl [0, 1] rfl)
set_option maxHeartbeats 4000000 in
set_option maxRecDepth 100000 in
/-- c_m_laysFits -/
theorem c_m_laysFits (l : Launch) (T : zTy) (mo : Nat) (m_all : Nat) (m_has : Nat) (i_size : Int32) (i_next : Int32) (i_where : Int32) (i_token : Int32) (i_number : Int32) (i_word : Int32) (i_wrong : Int32) (i_farCrossing : Int32) (m_read : Nat) (i_z0 : Int32) (i_crossings : Int32) (i_inns : Int32) (m_posts : Nat) (m_shut : Nat) (m_here : Nat) (i_steps : Int32) (i_done : Int32) (i_at : Int32) (i_gone : Int32) (m_was : Nat) (m_came : Nat) (m_seenAt : Nat) (m_rowWorth : Nat) (m_farBy : Nat) (m_used : Nat) (i_everywhere : Int32) (i_again0 : Int32) (i_d0 : Int32) (i_never : Int32) (i_firstCame : Int32) (i_longRun : Int32) (i_moved : Int32) (i_crowd : Int32) (i_l0 : Int32) (i_fitMany : Int32) (i_fitLeast : Int32) (i_fitMost : Int32) (m_fitPost : Nat) (m_fitEnd : Nat) (m_keptPosts : Nat) (i_x0 : Int32) (f_all : Nat → Int32) (f_posts : Nat → Int32) (f_shut : Nat → Int32) (f_was : Nat → Int32) (f_fitPost : Nat → Int32) (f_fitEnd : Nat → Int32) (f_keptPosts : Nat → Int32) (s_ : Int32) (e_ : Int32) (hL : zML f_all i_z0 i_crossings) (hP : zMP f_posts) (hD : zMG f_all i_l0) : zMi l T yX12_laysFits cX12_laysFits 7 (some .int) 6 0 0 [.ref mo, .int s_, .int e_] [[zO11 mo m_all m_has i_size i_next i_where i_token i_number i_word i_wrong i_farCrossing m_read i_z0 i_crossings i_inns m_posts m_shut m_here i_steps i_done i_at i_gone m_was m_came m_seenAt m_rowWorth m_farBy m_used i_everywhere i_again0 i_d0 i_never i_firstCame i_longRun i_moved i_crowd i_l0 i_fitMany i_fitLeast i_fitMost m_fitPost m_fitEnd m_keptPosts i_x0], [zAr T 0 m_all 3952 f_all], [zAr T 0 m_posts 7 f_posts], [zAr T 0 m_shut 7 f_shut], [zAr T 0 m_was 7 f_was], [zAr T 0 m_fitPost 28 f_fitPost], [zAr T 0 m_fitEnd 49 f_fitEnd], [zAr T 0 m_keptPosts 7 f_keptPosts]] (fun (r : Int32) bs => ∃ (j_fitMany : Int32) (j_fitLeast : Int32) (j_fitMost : Int32) (j_steps : Int32) (j_at : Int32) (j_gone : Int32) (g_posts : Nat → Int32) (g_was : Nat → Int32) (g_fitPost : Nat → Int32) (g_fitEnd : Nat → Int32) (g_keptPosts : Nat → Int32), bs = [[zO11 mo m_all m_has i_size i_next i_where i_token i_number i_word i_wrong i_farCrossing m_read i_z0 i_crossings i_inns m_posts m_shut m_here j_steps i_done j_at j_gone m_was m_came m_seenAt m_rowWorth m_farBy m_used i_everywhere i_again0 i_d0 i_never i_firstCame i_longRun i_moved i_crowd i_l0 j_fitMany j_fitLeast j_fitMost m_fitPost m_fitEnd m_keptPosts i_x0], [zAr T 0 m_all 3952 f_all], [zAr T 0 m_posts 7 g_posts], [zAr T 0 m_shut 7 f_shut], [zAr T 0 m_was 7 g_was], [zAr T 0 m_fitPost 28 g_fitPost], [zAr T 0 m_fitEnd 49 g_fitEnd], [zAr T 0 m_keptPosts 7 g_keptPosts]] ∧ zMP g_posts) := by
  refine zMi_of (own := RX12) (by decide) rfl (Nat.le_of_ble_eq_true rfl) ?_
  intro p e s m args below meth c A ls C hr hlocks hnm hAe G hl
  refine zHide (fun Qz_ hQz_ => ?_)
  have hx := C.1
  have hb := C.2.1
  have hl : lv_has ls 7 [(0, .ref mo), (1, .int s_), (2, .int e_)] := hl
  have hz := hL.1
  have hcr := hL.cr
  refine lv_aload_n hx hb dX12_laysFits_0 rfl (lv_at hl 0 rfl) ?_
  refine z_Vv (bc := [[zO11 mo m_all m_has i_size i_next i_where i_token i_number i_word i_wrong i_farCrossing m_read i_z0 i_crossings i_inns m_posts m_shut m_here i_steps i_done i_at i_gone m_was m_came m_seenAt m_rowWorth m_farBy m_used i_everywhere i_again0 i_d0 i_never i_firstCame i_longRun i_moved i_crowd i_l0 i_fitMany i_fitLeast i_fitMost m_fitPost m_fitEnd m_keptPosts i_x0], [zAr T 0 m_fitPost 28 f_fitPost], [zAr T 0 m_fitEnd 49 f_fitEnd]]) (br := [[zAr T 0 m_all 3952 f_all], [zAr T 0 m_posts 7 f_posts], [zAr T 0 m_shut 7 f_shut], [zAr T 0 m_was 7 f_was], [zAr T 0 m_keptPosts 7 f_keptPosts]]) (As := []) (rest := []) C G (c_m_laysNoFits l T mo m_all m_has i_size i_next i_where i_token i_number i_word i_wrong i_farCrossing m_read i_z0 i_crossings i_inns m_posts m_shut m_here i_steps i_done i_at i_gone m_was m_came m_seenAt m_rowWorth m_farBy m_used i_everywhere i_again0 i_d0 i_never i_firstCame i_longRun i_moved i_crowd i_l0 i_fitMany i_fitLeast i_fitMost m_fitPost m_fitEnd m_keptPosts i_x0 f_fitPost f_fitEnd) (kV_RX12_375 C.2.2.2.2 (Nat.le_of_ble_eq_true rfl) (Nat.le_of_ble_eq_true rfl)) [0, 5, 6] [0, 4, 0] rfl rfl (ci := 11) (qc := (RX12, TX12, 43)) rfl rfl (List.mem_flatten.mpr ⟨_, List.mem_of_getElem? (i := 0) rfl, List.mem_cons_self⟩) rfl rfl hl.1 dX12_laysFits_1 (Nat.le_of_ble_eq_true rfl) (Nat.le_of_ble_eq_true rfl) (fun b1 H locs hw G => ?_)
  refine zEx5 hw ?_
  intro j_fitMany_1 j_fitLeast_2 j_fitMost_3 g_fitPost_4 g_fitEnd_5 hbs9
  clear hw
  subst hbs9
  have G : zS T A s.heap s [[zAr T 0 m_all 3952 f_all], [zAr T 0 m_posts 7 f_posts], [zAr T 0 m_shut 7 f_shut], [zAr T 0 m_was 7 f_was], [zAr T 0 m_keptPosts 7 f_keptPosts], [zO11 mo m_all m_has i_size i_next i_where i_token i_number i_word i_wrong i_farCrossing m_read i_z0 i_crossings i_inns m_posts m_shut m_here i_steps i_done i_at i_gone m_was m_came m_seenAt m_rowWorth m_farBy m_used i_everywhere i_again0 i_d0 i_never i_firstCame i_longRun i_moved i_crowd i_l0 j_fitMany_1 j_fitLeast_2 j_fitMost_3 m_fitPost m_fitEnd m_keptPosts i_x0], [zAr T 0 m_fitPost 28 g_fitPost_4], [zAr T 0 m_fitEnd 49 g_fitEnd_5]] _ _ := G
  refine lv_bipush (v := (-2)) hx hb dX12_laysFits_4 (by decide) ?_
  refine lv_istore_n (lv' := [(3, .int (-2)), (0, .ref mo), (1, .int s_), (2, .int e_)]) hx hb dX12_laysFits_6 rfl hl (by decide) (zLvf_h rfl) (fun ls hl => ?_)
  refine lv_aload_n hx hb dX12_laysFits_7 rfl (lv_at hl 1 rfl) ?_
  refine z_Vi (bc := [[zO11 mo m_all m_has i_size i_next i_where i_token i_number i_word i_wrong i_farCrossing m_read i_z0 i_crossings i_inns m_posts m_shut m_here i_steps i_done i_at i_gone m_was m_came m_seenAt m_rowWorth m_farBy m_used i_everywhere i_again0 i_d0 i_never i_firstCame i_longRun i_moved i_crowd i_l0 j_fitMany_1 j_fitLeast_2 j_fitMost_3 m_fitPost m_fitEnd m_keptPosts i_x0], [zAr T 0 m_all 3952 f_all]]) (br := [[zAr T 0 m_posts 7 f_posts], [zAr T 0 m_shut 7 f_shut], [zAr T 0 m_was 7 f_was], [zAr T 0 m_keptPosts 7 f_keptPosts], [zAr T 0 m_fitPost 28 g_fitPost_4], [zAr T 0 m_fitEnd 49 g_fitEnd_5]]) (As := []) (rest := []) C G (c_m_waysMany l T mo m_all m_has i_size i_next i_where i_token i_number i_word i_wrong i_farCrossing m_read i_z0 i_crossings i_inns m_posts m_shut m_here i_steps i_done i_at i_gone m_was m_came m_seenAt m_rowWorth m_farBy m_used i_everywhere i_again0 i_d0 i_never i_firstCame i_longRun i_moved i_crowd i_l0 j_fitMany_1 j_fitLeast_2 j_fitMost_3 m_fitPost m_fitEnd m_keptPosts i_x0 f_all (by first | with_reducible assumption | with_reducible rfl | omega | assumption | rfl | decide)) (kV_RX12_229 C.2.2.2.2 (Nat.le_of_ble_eq_true rfl) (Nat.le_of_ble_eq_true rfl)) [5, 0] [0, 4] rfl rfl (ci := 11) (qc := (RX12, TX12, 43)) rfl rfl (List.mem_flatten.mpr ⟨_, List.mem_of_getElem? (i := 0) rfl, List.mem_cons_self⟩) rfl rfl hl.1 dX12_laysFits_8 (Nat.le_of_ble_eq_true rfl) (Nat.le_of_ble_eq_true rfl) (fun r_9 b1 H locs hw G => ?_)
  refine zAn3 hw ?_
  intro hbs9 h_7 h_8
  clear hw
  subst hbs9
  have G : zS T A s.heap s [[zAr T 0 m_posts 7 f_posts], [zAr T 0 m_shut 7 f_shut], [zAr T 0 m_was 7 f_was], [zAr T 0 m_keptPosts 7 f_keptPosts], [zAr T 0 m_fitPost 28 g_fitPost_4], [zAr T 0 m_fitEnd 49 g_fitEnd_5], [zO11 mo m_all m_has i_size i_next i_where i_token i_number i_word i_wrong i_farCrossing m_read i_z0 i_crossings i_inns m_posts m_shut m_here i_steps i_done i_at i_gone m_was m_came m_seenAt m_rowWorth m_farBy m_used i_everywhere i_again0 i_d0 i_never i_firstCame i_longRun i_moved i_crowd i_l0 j_fitMany_1 j_fitLeast_2 j_fitMost_3 m_fitPost m_fitEnd m_keptPosts i_x0], [zAr T 0 m_all 3952 f_all]] _ _ := G
  refine lv_istore (lv' := [(4, .int r_9), (3, .int (-2)), (0, .ref mo), (1, .int s_), (2, .int e_)]) hx hb dX12_laysFits_11 hl (by decide) (zLvf_h rfl) (fun ls hl => ?_)
  refine lv_iconst (v := 0) hx hb dX12_laysFits_13 (by decide) ?_
  refine lv_istore (lv' := [(5, .int 0), (4, .int r_9), (3, .int (-2)), (0, .ref mo), (1, .int s_), (2, .int e_)]) hx hb dX12_laysFits_14 hl (by decide) (zLvf_h rfl) (fun ls hl => ?_)
  refine z_lp13 (T := T) 16 (fun (w : Nat) (u : Int32) (xfitMany : Int32) (xfitLeast : Int32) (xfitMost : Int32) (xsteps : Int32) (xat : Int32) (xgone : Int32) (xposts : Nat → Int32) (xwas : Nat → Int32) (xfitPost : Nat → Int32) (xfitEnd : Nat → Int32) (xkeptPosts : Nat → Int32) => [[zAr T 0 m_posts 7 xposts], [zAr T 0 m_shut 7 f_shut], [zAr T 0 m_was 7 xwas], [zAr T 0 m_keptPosts 7 xkeptPosts], [zAr T 0 m_fitPost 28 xfitPost], [zAr T 0 m_fitEnd 49 xfitEnd], [zO11 mo m_all m_has i_size i_next i_where i_token i_number i_word i_wrong i_farCrossing m_read i_z0 i_crossings i_inns m_posts m_shut m_here xsteps i_done xat xgone m_was m_came m_seenAt m_rowWorth m_farBy m_used i_everywhere i_again0 i_d0 i_never i_firstCame i_longRun i_moved i_crowd i_l0 xfitMany xfitLeast xfitMost m_fitPost m_fitEnd m_keptPosts i_x0], [zAr T 0 m_all 3952 f_all]]) (fun (w : Nat) (u : Int32) (xfitMany : Int32) (xfitLeast : Int32) (xfitMost : Int32) (xsteps : Int32) (xat : Int32) (xgone : Int32) (xposts : Nat → Int32) (xwas : Nat → Int32) (xfitPost : Nat → Int32) (xfitEnd : Nat → Int32) (xkeptPosts : Nat → Int32) => [(5, .int (nI w)), (4, .int r_9), (3, .int u), (0, .ref mo), (1, .int s_), (2, .int e_)]) (fun (w : Nat) (u : Int32) (xfitMany : Int32) (xfitLeast : Int32) (xfitMost : Int32) (xsteps : Int32) (xat : Int32) (xgone : Int32) (xposts : Nat → Int32) (xwas : Nat → Int32) (xfitPost : Nat → Int32) (xfitEnd : Nat → Int32) (xkeptPosts : Nat → Int32) => w ≤ 16384 ∧ zMP xposts) (fun (w : Nat) (u : Int32) (xfitMany : Int32) (xfitLeast : Int32) (xfitMost : Int32) (xsteps : Int32) (xat : Int32) (xgone : Int32) (xposts : Nat → Int32) (xwas : Nat → Int32) (xfitPost : Nat → Int32) (xfitEnd : Nat → Int32) (xkeptPosts : Nat → Int32) => 16384 - w) ?_ 0 (-2) j_fitMany_1 j_fitLeast_2 j_fitMost_3 i_steps i_at i_gone f_posts f_was g_fitPost_4 g_fitEnd_5 f_keptPosts (show 0 ≤ 16384 ∧ zMP f_posts from ⟨by omega, (by first | with_reducible assumption | assumption)⟩) G (lv_sub hl [0, 1, 2, 3, 4, 5] rfl)
  intro w u xfitMany xfitLeast xfitMost xsteps xat xgone xposts xwas xfitPost xfitEnd xkeptPosts hI9 ih_16 H locs ls G hl
  replace hI9 : w ≤ 16384 ∧ zMP xposts := hI9
  refine zAn2 hI9 ?_
  intro hww hQ
  clear hI9
  replace G : zS T A s.heap s [[zAr T 0 m_posts 7 xposts], [zAr T 0 m_shut 7 f_shut], [zAr T 0 m_was 7 xwas], [zAr T 0 m_keptPosts 7 xkeptPosts], [zAr T 0 m_fitPost 28 xfitPost], [zAr T 0 m_fitEnd 49 xfitEnd], [zO11 mo m_all m_has i_size i_next i_where i_token i_number i_word i_wrong i_farCrossing m_read i_z0 i_crossings i_inns m_posts m_shut m_here xsteps i_done xat xgone m_was m_came m_seenAt m_rowWorth m_farBy m_used i_everywhere i_again0 i_d0 i_never i_firstCame i_longRun i_moved i_crowd i_l0 xfitMany xfitLeast xfitMost m_fitPost m_fitEnd m_keptPosts i_x0], [zAr T 0 m_all 3952 f_all]] _ _ := G
  replace hl : lv_has ls 7 [(5, .int (nI w)), (4, .int r_9), (3, .int u), (0, .ref mo), (1, .int s_), (2, .int e_)] := hl
  refine lv_iload hx hb dX12_laysFits_16 (lv_at hl 0 rfl) ?_
  refine lv_iload hx hb dX12_laysFits_18 (lv_at hl 1 rfl) ?_
  refine lv_icmp_ge (tgt := 183) hx hb dX12_laysFits_20 (by decide) (fun c_10 => ?_) (fun c_10 => ?_)
  · have c_10n : r_9.toInt ≤ (w : Int) := by have q := (fa_le _ _).mp c_10; rw [nI_toInt (n := w) (by omega)] at q; exact q
    refine lv_iload_n hx hb dX12_laysFits_183 rfl (lv_at hl 2 rfl) ?_
    have G := G.sub (bs' := [[zO11 mo m_all m_has i_size i_next i_where i_token i_number i_word i_wrong i_farCrossing m_read i_z0 i_crossings i_inns m_posts m_shut m_here xsteps i_done xat xgone m_was m_came m_seenAt m_rowWorth m_farBy m_used i_everywhere i_again0 i_d0 i_never i_firstCame i_longRun i_moved i_crowd i_l0 xfitMany xfitLeast xfitMost m_fitPost m_fitEnd m_keptPosts i_x0], [zAr T 0 m_all 3952 f_all], [zAr T 0 m_posts 7 xposts], [zAr T 0 m_shut 7 f_shut], [zAr T 0 m_was 7 xwas], [zAr T 0 m_fitPost 28 xfitPost], [zAr T 0 m_fitEnd 49 xfitEnd], [zAr T 0 m_keptPosts 7 xkeptPosts]]) [6, 7, 0, 1, 2, 4, 5, 3] rfl
    exact z_back hQz_ (z_iret C hr hlocks G (Nat.le_of_ble_eq_true rfl) (Nat.le_of_ble_eq_true rfl) dX12_laysFits_184 ⟨xfitMany, xfitLeast, xfitMost, xsteps, xat, xgone, xposts, xwas, xfitPost, xfitEnd, xkeptPosts, rfl, (by first | with_reducible assumption | omega | trivial | assumption)⟩)
  · have c_10n : ¬ r_9.toInt ≤ (w : Int) := fun q => c_10 ((fa_le _ _).mpr (by rw [nI_toInt (n := w) (by omega)]; exact q))
    refine lv_aload_n hx hb dX12_laysFits_23 rfl (lv_at hl 3 rfl) ?_
    refine lv_iload hx hb dX12_laysFits_24 (lv_at hl 0 rfl) ?_
    have ti_11 : (nI w).toInt = ((w : Nat) : Int) := nI_toInt (by omega)
    refine z_Vv (bc := [[zO11 mo m_all m_has i_size i_next i_where i_token i_number i_word i_wrong i_farCrossing m_read i_z0 i_crossings i_inns m_posts m_shut m_here xsteps i_done xat xgone m_was m_came m_seenAt m_rowWorth m_farBy m_used i_everywhere i_again0 i_d0 i_never i_firstCame i_longRun i_moved i_crowd i_l0 xfitMany xfitLeast xfitMost m_fitPost m_fitEnd m_keptPosts i_x0], [zAr T 0 m_all 3952 f_all], [zAr T 0 m_posts 7 xposts]]) (br := [[zAr T 0 m_shut 7 f_shut], [zAr T 0 m_was 7 xwas], [zAr T 0 m_keptPosts 7 xkeptPosts], [zAr T 0 m_fitPost 28 xfitPost], [zAr T 0 m_fitEnd 49 xfitEnd]]) (As := [.int (nI w)]) (rest := []) C G (c_m_setsWay l T mo m_all m_has i_size i_next i_where i_token i_number i_word i_wrong i_farCrossing m_read i_z0 i_crossings i_inns m_posts m_shut m_here xsteps i_done xat xgone m_was m_came m_seenAt m_rowWorth m_farBy m_used i_everywhere i_again0 i_d0 i_never i_firstCame i_longRun i_moved i_crowd i_l0 xfitMany xfitLeast xfitMost m_fitPost m_fitEnd m_keptPosts i_x0 f_all xposts (nI w) (by first | with_reducible assumption | with_reducible rfl | omega | assumption | rfl | decide) (by first | with_reducible assumption | with_reducible rfl | omega | assumption | rfl | decide) (by first | with_reducible assumption | with_reducible rfl | omega | assumption | rfl | decide)) (kV_RX12_226 C.2.2.2.2 (Nat.le_of_ble_eq_true rfl) (Nat.le_of_ble_eq_true rfl)) [6, 7, 0] [0, 5, 0] rfl rfl (ci := 11) (qc := (RX12, TX12, 43)) rfl rfl (List.mem_flatten.mpr ⟨_, List.mem_of_getElem? (i := 0) rfl, List.mem_cons_self⟩) rfl rfl hl.1 dX12_laysFits_26 (Nat.le_of_ble_eq_true rfl) (Nat.le_of_ble_eq_true rfl) (fun b1 H locs hw G => ?_)
    refine zEx1 hw ?_
    intro g_posts_12
    refine zCu2 ?_
    intro hbs9 h_13
    clear hw
    subst hbs9
    have G : zS T A s.heap s [[zAr T 0 m_shut 7 f_shut], [zAr T 0 m_was 7 xwas], [zAr T 0 m_keptPosts 7 xkeptPosts], [zAr T 0 m_fitPost 28 xfitPost], [zAr T 0 m_fitEnd 49 xfitEnd], [zO11 mo m_all m_has i_size i_next i_where i_token i_number i_word i_wrong i_farCrossing m_read i_z0 i_crossings i_inns m_posts m_shut m_here xsteps i_done xat xgone m_was m_came m_seenAt m_rowWorth m_farBy m_used i_everywhere i_again0 i_d0 i_never i_firstCame i_longRun i_moved i_crowd i_l0 xfitMany xfitLeast xfitMost m_fitPost m_fitEnd m_keptPosts i_x0], [zAr T 0 m_all 3952 f_all], [zAr T 0 m_posts 7 g_posts_12]] _ _ := G
    refine lv_aload_n hx hb dX12_laysFits_29 rfl (lv_at hl 3 rfl) ?_
    refine z_Vi (bc := [[zO11 mo m_all m_has i_size i_next i_where i_token i_number i_word i_wrong i_farCrossing m_read i_z0 i_crossings i_inns m_posts m_shut m_here xsteps i_done xat xgone m_was m_came m_seenAt m_rowWorth m_farBy m_used i_everywhere i_again0 i_d0 i_never i_firstCame i_longRun i_moved i_crowd i_l0 xfitMany xfitLeast xfitMost m_fitPost m_fitEnd m_keptPosts i_x0], [zAr T 0 m_all 3952 f_all], [zAr T 0 m_posts 7 g_posts_12], [zAr T 0 m_shut 7 f_shut], [zAr T 0 m_was 7 xwas]]) (br := [[zAr T 0 m_keptPosts 7 xkeptPosts], [zAr T 0 m_fitPost 28 xfitPost], [zAr T 0 m_fitEnd 49 xfitEnd]]) (As := []) (rest := []) C G (c_m_isSo l T mo m_all m_has i_size i_next i_where i_token i_number i_word i_wrong i_farCrossing m_read i_z0 i_crossings i_inns m_posts m_shut m_here xsteps i_done xat xgone m_was m_came m_seenAt m_rowWorth m_farBy m_used i_everywhere i_again0 i_d0 i_never i_firstCame i_longRun i_moved i_crowd i_l0 xfitMany xfitLeast xfitMost m_fitPost m_fitEnd m_keptPosts i_x0 f_all g_posts_12 f_shut xwas (by first | with_reducible assumption | with_reducible rfl | omega | assumption | rfl | decide) (by first | with_reducible assumption | with_reducible rfl | omega | assumption | rfl | decide) (by first | with_reducible assumption | with_reducible rfl | omega | assumption | rfl | decide)) (kV_RX12_378 C.2.2.2.2 (Nat.le_of_ble_eq_true rfl) (Nat.le_of_ble_eq_true rfl)) [5, 6, 7, 0, 1] [0, 0, 3, 0, 0] rfl rfl (ci := 11) (qc := (RX12, TX12, 43)) rfl rfl (List.mem_flatten.mpr ⟨_, List.mem_of_getElem? (i := 0) rfl, List.mem_cons_self⟩) rfl rfl hl.1 dX12_laysFits_30 (Nat.le_of_ble_eq_true rfl) (Nat.le_of_ble_eq_true rfl) (fun r_22 b1 H locs hw G => ?_)
    refine zEx5 hw ?_
    intro j_steps_15 j_at_16 j_gone_17 g_posts_18 g_was_19
    refine zCu3 ?_
    intro hbs9 h_20 h_21
    clear hw
    subst hbs9
    have G : zS T A s.heap s [[zAr T 0 m_keptPosts 7 xkeptPosts], [zAr T 0 m_fitPost 28 xfitPost], [zAr T 0 m_fitEnd 49 xfitEnd], [zO11 mo m_all m_has i_size i_next i_where i_token i_number i_word i_wrong i_farCrossing m_read i_z0 i_crossings i_inns m_posts m_shut m_here j_steps_15 i_done j_at_16 j_gone_17 m_was m_came m_seenAt m_rowWorth m_farBy m_used i_everywhere i_again0 i_d0 i_never i_firstCame i_longRun i_moved i_crowd i_l0 xfitMany xfitLeast xfitMost m_fitPost m_fitEnd m_keptPosts i_x0], [zAr T 0 m_all 3952 f_all], [zAr T 0 m_posts 7 g_posts_18], [zAr T 0 m_shut 7 f_shut], [zAr T 0 m_was 7 g_was_19]] _ _ := G
    replace h_20 : zHd ((r_22 = 0 ∨ r_22 = 1)) := h_20
    refine lv_if_ne (tgt := 39) hx hb dX12_laysFits_33 (by decide) (fun c_23 => ?_) (fun c_23 => ?_)
    · have c_23n : ¬ r_22.toInt = (0 : Int) := fun q => c_23 ((fa_eq _ _).mpr q)
      refine lv_iload_n hx hb dX12_laysFits_39 rfl (lv_at hl 5 rfl) ?_
      refine lv_if_eq (tgt := 47) hx hb dX12_laysFits_40 (by decide) (fun c_24 => ?_) (fun c_24 => ?_)
      · have c_24n : e_.toInt = (0 : Int) := (fa_eq _ _).mp c_24
        refine lv_aload_n hx hb dX12_laysFits_47 rfl (lv_at hl 3 rfl) ?_
        refine lv_iload hx hb dX12_laysFits_48 (lv_at hl 0 rfl) ?_
        have ti_25 : (nI w).toInt = ((w : Nat) : Int) := nI_toInt (by omega)
        refine z_Vv (bc := [[zO11 mo m_all m_has i_size i_next i_where i_token i_number i_word i_wrong i_farCrossing m_read i_z0 i_crossings i_inns m_posts m_shut m_here j_steps_15 i_done j_at_16 j_gone_17 m_was m_came m_seenAt m_rowWorth m_farBy m_used i_everywhere i_again0 i_d0 i_never i_firstCame i_longRun i_moved i_crowd i_l0 xfitMany xfitLeast xfitMost m_fitPost m_fitEnd m_keptPosts i_x0], [zAr T 0 m_all 3952 f_all], [zAr T 0 m_posts 7 g_posts_18]]) (br := [[zAr T 0 m_keptPosts 7 xkeptPosts], [zAr T 0 m_fitPost 28 xfitPost], [zAr T 0 m_fitEnd 49 xfitEnd], [zAr T 0 m_shut 7 f_shut], [zAr T 0 m_was 7 g_was_19]]) (As := [.int (nI w)]) (rest := []) C G (c_m_setsWay l T mo m_all m_has i_size i_next i_where i_token i_number i_word i_wrong i_farCrossing m_read i_z0 i_crossings i_inns m_posts m_shut m_here j_steps_15 i_done j_at_16 j_gone_17 m_was m_came m_seenAt m_rowWorth m_farBy m_used i_everywhere i_again0 i_d0 i_never i_firstCame i_longRun i_moved i_crowd i_l0 xfitMany xfitLeast xfitMost m_fitPost m_fitEnd m_keptPosts i_x0 f_all g_posts_18 (nI w) (by first | with_reducible assumption | with_reducible rfl | omega | assumption | rfl | decide) (by first | with_reducible assumption | with_reducible rfl | omega | assumption | rfl | decide) (by first | with_reducible assumption | with_reducible rfl | omega | assumption | rfl | decide)) (kV_RX12_226 C.2.2.2.2 (Nat.le_of_ble_eq_true rfl) (Nat.le_of_ble_eq_true rfl)) [3, 4, 5] [3, 0, 0] rfl rfl (ci := 11) (qc := (RX12, TX12, 43)) rfl rfl (List.mem_flatten.mpr ⟨_, List.mem_of_getElem? (i := 0) rfl, List.mem_cons_self⟩) rfl rfl hl.1 dX12_laysFits_50 (Nat.le_of_ble_eq_true rfl) (Nat.le_of_ble_eq_true rfl) (fun b1 H locs hw G => ?_)
        refine zEx1 hw ?_
        intro g_posts_26
        refine zCu2 ?_
        intro hbs9 h_27
        clear hw
        subst hbs9
        have G : zS T A s.heap s [[zAr T 0 m_keptPosts 7 xkeptPosts], [zAr T 0 m_fitPost 28 xfitPost], [zAr T 0 m_fitEnd 49 xfitEnd], [zAr T 0 m_shut 7 f_shut], [zAr T 0 m_was 7 g_was_19], [zO11 mo m_all m_has i_size i_next i_where i_token i_number i_word i_wrong i_farCrossing m_read i_z0 i_crossings i_inns m_posts m_shut m_here j_steps_15 i_done j_at_16 j_gone_17 m_was m_came m_seenAt m_rowWorth m_farBy m_used i_everywhere i_again0 i_d0 i_never i_firstCame i_longRun i_moved i_crowd i_l0 xfitMany xfitLeast xfitMost m_fitPost m_fitEnd m_keptPosts i_x0], [zAr T 0 m_all 3952 f_all], [zAr T 0 m_posts 7 g_posts_26]] _ _ := G
        refine lv_iconst (v := 0) hx hb dX12_laysFits_53 (by decide) ?_
        refine lv_istore (lv' := [(6, .int 0), (5, .int (nI w)), (4, .int r_9), (3, .int u), (0, .ref mo), (1, .int s_), (2, .int e_)]) hx hb dX12_laysFits_54 hl (by decide) (zLvf_h rfl) (fun ls hl => ?_)
        refine z_lp2 (T := T) 56 (fun (t : Nat) (yfitPost : Nat → Int32) => [[zAr T 0 m_keptPosts 7 xkeptPosts], [zAr T 0 m_fitPost 28 yfitPost], [zAr T 0 m_fitEnd 49 xfitEnd], [zAr T 0 m_shut 7 f_shut], [zAr T 0 m_was 7 g_was_19], [zO11 mo m_all m_has i_size i_next i_where i_token i_number i_word i_wrong i_farCrossing m_read i_z0 i_crossings i_inns m_posts m_shut m_here j_steps_15 i_done j_at_16 j_gone_17 m_was m_came m_seenAt m_rowWorth m_farBy m_used i_everywhere i_again0 i_d0 i_never i_firstCame i_longRun i_moved i_crowd i_l0 xfitMany xfitLeast xfitMost m_fitPost m_fitEnd m_keptPosts i_x0], [zAr T 0 m_all 3952 f_all], [zAr T 0 m_posts 7 g_posts_26]]) (fun (t : Nat) (yfitPost : Nat → Int32) => [(6, .int (nI t)), (5, .int (nI w)), (4, .int r_9), (3, .int u), (0, .ref mo), (1, .int s_), (2, .int e_)]) (fun (t : Nat) (yfitPost : Nat → Int32) => t ≤ 7) (fun (t : Nat) (yfitPost : Nat → Int32) => 7 - t) ?_ 0 xfitPost (show 0 ≤ 7 from by omega) G (lv_sub hl [0, 1, 2, 3, 4, 5, 6] rfl)
        intro t yfitPost ht ih_56 H locs ls G hl
        replace ht : t ≤ 7 := ht
        replace G : zS T A s.heap s [[zAr T 0 m_keptPosts 7 xkeptPosts], [zAr T 0 m_fitPost 28 yfitPost], [zAr T 0 m_fitEnd 49 xfitEnd], [zAr T 0 m_shut 7 f_shut], [zAr T 0 m_was 7 g_was_19], [zO11 mo m_all m_has i_size i_next i_where i_token i_number i_word i_wrong i_farCrossing m_read i_z0 i_crossings i_inns m_posts m_shut m_here j_steps_15 i_done j_at_16 j_gone_17 m_was m_came m_seenAt m_rowWorth m_farBy m_used i_everywhere i_again0 i_d0 i_never i_firstCame i_longRun i_moved i_crowd i_l0 xfitMany xfitLeast xfitMost m_fitPost m_fitEnd m_keptPosts i_x0], [zAr T 0 m_all 3952 f_all], [zAr T 0 m_posts 7 g_posts_26]] _ _ := G
        replace hl : lv_has ls 7 [(6, .int (nI t)), (5, .int (nI w)), (4, .int r_9), (3, .int u), (0, .ref mo), (1, .int s_), (2, .int e_)] := hl
        refine lv_iload hx hb dX12_laysFits_56 (lv_at hl 0 rfl) ?_
        refine lv_aload_n hx hb dX12_laysFits_58 rfl (lv_at hl 4 rfl) ?_
        refine z_get C G clX12 5 rfl 12 (by decide) m_fl_RX12_169 rfl dX12_laysFits_59 ?_
        refine lv_icmp_ge (tgt := 92) hx hb dX12_laysFits_62 (by decide) (fun c_29 => ?_) (fun c_29 => ?_)
        · have c_29n : i_crossings.toInt ≤ (t : Int) := by have q := (fa_le _ _).mp c_29; rw [nI_toInt (n := t) (by omega)] at q; exact q
          refine lv_aload_n hx hb dX12_laysFits_92 rfl (lv_at hl 4 rfl) ?_
          refine z_get C G clX12 5 rfl 36 (by decide) m_fl_RX12_366 rfl dX12_laysFits_93 ?_
          refine lv_iload_n hx hb dX12_laysFits_96 rfl (lv_at hl 5 rfl) ?_
          refine lv_icmp_ne (tgt := 107) hx hb dX12_laysFits_97 (by decide) (fun c_30 => ?_) (fun c_30 => ?_)
          · have c_30n : ¬ xfitMany.toInt = s_.toInt := fun q => c_30 ((fa_eq _ _).mpr q)
            refine lv_aload_n hx hb dX12_laysFits_107 rfl (lv_at hl 4 rfl) ?_
            refine lv_aload_n hx hb dX12_laysFits_108 rfl (lv_at hl 4 rfl) ?_
            refine z_get C G clX12 5 rfl 37 (by decide) m_fl_RX12_369 rfl dX12_laysFits_109 ?_
            refine lv_iconst (v := (-1)) hx hb dX12_laysFits_112 (by decide) ?_
            refine lv_icmp_eq (tgt := 127) hx hb dX12_laysFits_113 (by decide) (fun c_31 => ?_) (fun c_31 => ?_)
            · have c_31n : xfitLeast.toInt = (-1 : Int) := (fa_eq _ _).mp c_31
              refine lv_aload_n hx hb dX12_laysFits_127 rfl (lv_at hl 4 rfl) ?_
              refine z_get C G clX12 5 rfl 17 (by decide) m_fl_RX12_196 rfl dX12_laysFits_128 ?_
              refine lv_goto (tgt := 138) hx hb dX12_laysFits_131 (by decide) ?_
              refine z_put C G clX12 5 rfl 37 (by decide) m_fl_RX12_369 rfl rfl rfl (Nat.le_of_ble_eq_true rfl) dX12_laysFits_138 (fun H locs G => ?_)
              have G : zS T A s.heap s [[zAr T 0 m_keptPosts 7 xkeptPosts], [zAr T 0 m_fitPost 28 yfitPost], [zAr T 0 m_fitEnd 49 xfitEnd], [zAr T 0 m_shut 7 f_shut], [zAr T 0 m_was 7 g_was_19], [zO11 mo m_all m_has i_size i_next i_where i_token i_number i_word i_wrong i_farCrossing m_read i_z0 i_crossings i_inns m_posts m_shut m_here j_steps_15 i_done j_at_16 j_gone_17 m_was m_came m_seenAt m_rowWorth m_farBy m_used i_everywhere i_again0 i_d0 i_never i_firstCame i_longRun i_moved i_crowd i_l0 xfitMany j_steps_15 xfitMost m_fitPost m_fitEnd m_keptPosts i_x0], [zAr T 0 m_all 3952 f_all], [zAr T 0 m_posts 7 g_posts_26]] _ _ := G
              refine lv_aload_n hx hb dX12_laysFits_141 rfl (lv_at hl 4 rfl) ?_
              refine lv_aload_n hx hb dX12_laysFits_142 rfl (lv_at hl 4 rfl) ?_
              refine z_get C G clX12 5 rfl 17 (by decide) m_fl_RX12_196 rfl dX12_laysFits_143 ?_
              refine lv_aload_n hx hb dX12_laysFits_146 rfl (lv_at hl 4 rfl) ?_
              refine z_get C G clX12 5 rfl 38 (by decide) m_fl_RX12_372 rfl dX12_laysFits_147 ?_
              refine lv_icmp_le (tgt := 160) hx hb dX12_laysFits_150 (by decide) (fun c_32 => ?_) (fun c_32 => ?_)
              · have c_32n : j_steps_15.toInt ≤ xfitMost.toInt := (fa_le _ _).mp c_32
                refine lv_aload_n hx hb dX12_laysFits_160 rfl (lv_at hl 4 rfl) ?_
                refine z_get C G clX12 5 rfl 38 (by decide) m_fl_RX12_372 rfl dX12_laysFits_161 ?_
                refine z_put C G clX12 5 rfl 38 (by decide) m_fl_RX12_372 rfl rfl rfl (Nat.le_of_ble_eq_true rfl) dX12_laysFits_164 (fun H locs G => ?_)
                have G : zS T A s.heap s [[zAr T 0 m_keptPosts 7 xkeptPosts], [zAr T 0 m_fitPost 28 yfitPost], [zAr T 0 m_fitEnd 49 xfitEnd], [zAr T 0 m_shut 7 f_shut], [zAr T 0 m_was 7 g_was_19], [zO11 mo m_all m_has i_size i_next i_where i_token i_number i_word i_wrong i_farCrossing m_read i_z0 i_crossings i_inns m_posts m_shut m_here j_steps_15 i_done j_at_16 j_gone_17 m_was m_came m_seenAt m_rowWorth m_farBy m_used i_everywhere i_again0 i_d0 i_never i_firstCame i_longRun i_moved i_crowd i_l0 xfitMany j_steps_15 xfitMost m_fitPost m_fitEnd m_keptPosts i_x0], [zAr T 0 m_all 3952 f_all], [zAr T 0 m_posts 7 g_posts_26]] _ _ := G
                refine lv_aload_n hx hb dX12_laysFits_167 rfl (lv_at hl 4 rfl) ?_
                refine lv_dup hx hb dX12_laysFits_168 rfl ?_
                refine z_get C G clX12 5 rfl 36 (by decide) m_fl_RX12_366 rfl dX12_laysFits_169 ?_
                refine lv_iconst (v := 1) hx hb dX12_laysFits_172 (by decide) ?_
                refine lv_iadd hx hb dX12_laysFits_173 ?_
                refine z_put C G clX12 5 rfl 36 (by decide) m_fl_RX12_366 rfl rfl rfl (Nat.le_of_ble_eq_true rfl) dX12_laysFits_174 (fun H locs G => ?_)
                have G : zS T A s.heap s [[zAr T 0 m_keptPosts 7 xkeptPosts], [zAr T 0 m_fitPost 28 yfitPost], [zAr T 0 m_fitEnd 49 xfitEnd], [zAr T 0 m_shut 7 f_shut], [zAr T 0 m_was 7 g_was_19], [zO11 mo m_all m_has i_size i_next i_where i_token i_number i_word i_wrong i_farCrossing m_read i_z0 i_crossings i_inns m_posts m_shut m_here j_steps_15 i_done j_at_16 j_gone_17 m_was m_came m_seenAt m_rowWorth m_farBy m_used i_everywhere i_again0 i_d0 i_never i_firstCame i_longRun i_moved i_crowd i_l0 (xfitMany + 1) j_steps_15 xfitMost m_fitPost m_fitEnd m_keptPosts i_x0], [zAr T 0 m_all 3952 f_all], [zAr T 0 m_posts 7 g_posts_26]] _ _ := G
                refine lv_iinc (v := nI (w + 1)) (lv' := [(5, .int (nI (w + 1))), (6, .int (nI t)), (4, .int r_9), (3, .int u), (0, .ref mo), (1, .int s_), (2, .int e_)]) hx hb dX12_laysFits_177 hl (k := 1) rfl (z_inc w 1) (by decide) (zLvf_h rfl) (fun ls hl => ?_)
                refine lv_goto (tgt := 16) hx hb dX12_laysFits_180 (by decide) ?_
                have G := G.sub (bs' := [[zAr T 0 m_posts 7 g_posts_26], [zAr T 0 m_shut 7 f_shut], [zAr T 0 m_was 7 g_was_19], [zAr T 0 m_keptPosts 7 xkeptPosts], [zAr T 0 m_fitPost 28 yfitPost], [zAr T 0 m_fitEnd 49 xfitEnd], [zO11 mo m_all m_has i_size i_next i_where i_token i_number i_word i_wrong i_farCrossing m_read i_z0 i_crossings i_inns m_posts m_shut m_here j_steps_15 i_done j_at_16 j_gone_17 m_was m_came m_seenAt m_rowWorth m_farBy m_used i_everywhere i_again0 i_d0 i_never i_firstCame i_longRun i_moved i_crowd i_l0 (xfitMany + 1) j_steps_15 xfitMost m_fitPost m_fitEnd m_keptPosts i_x0], [zAr T 0 m_all 3952 f_all]]) [7, 3, 4, 0, 1, 2, 5, 6] rfl
                exact ih_16 (w + 1) u (xfitMany + 1) j_steps_15 xfitMost j_steps_15 j_at_16 j_gone_17 g_posts_26 g_was_19 yfitPost xfitEnd xkeptPosts (show (w + 1) ≤ 16384 ∧ zMP g_posts_26 from ⟨by omega, (by first | with_reducible assumption | assumption)⟩) (show 16384 - (w + 1) < 16384 - w from by omega) _ _ ls G (lv_sub hl [0, 2, 3, 4, 5, 6] rfl)
              · have c_32n : ¬ j_steps_15.toInt ≤ xfitMost.toInt := fun q => c_32 ((fa_le _ _).mpr q)
                refine lv_aload_n hx hb dX12_laysFits_153 rfl (lv_at hl 4 rfl) ?_
                refine z_get C G clX12 5 rfl 17 (by decide) m_fl_RX12_196 rfl dX12_laysFits_154 ?_
                refine lv_goto (tgt := 164) hx hb dX12_laysFits_157 (by decide) ?_
                refine z_put C G clX12 5 rfl 38 (by decide) m_fl_RX12_372 rfl rfl rfl (Nat.le_of_ble_eq_true rfl) dX12_laysFits_164 (fun H locs G => ?_)
                have G : zS T A s.heap s [[zAr T 0 m_keptPosts 7 xkeptPosts], [zAr T 0 m_fitPost 28 yfitPost], [zAr T 0 m_fitEnd 49 xfitEnd], [zAr T 0 m_shut 7 f_shut], [zAr T 0 m_was 7 g_was_19], [zO11 mo m_all m_has i_size i_next i_where i_token i_number i_word i_wrong i_farCrossing m_read i_z0 i_crossings i_inns m_posts m_shut m_here j_steps_15 i_done j_at_16 j_gone_17 m_was m_came m_seenAt m_rowWorth m_farBy m_used i_everywhere i_again0 i_d0 i_never i_firstCame i_longRun i_moved i_crowd i_l0 xfitMany j_steps_15 j_steps_15 m_fitPost m_fitEnd m_keptPosts i_x0], [zAr T 0 m_all 3952 f_all], [zAr T 0 m_posts 7 g_posts_26]] _ _ := G
                refine lv_aload_n hx hb dX12_laysFits_167 rfl (lv_at hl 4 rfl) ?_
                refine lv_dup hx hb dX12_laysFits_168 rfl ?_
                refine z_get C G clX12 5 rfl 36 (by decide) m_fl_RX12_366 rfl dX12_laysFits_169 ?_
                refine lv_iconst (v := 1) hx hb dX12_laysFits_172 (by decide) ?_
                refine lv_iadd hx hb dX12_laysFits_173 ?_
                refine z_put C G clX12 5 rfl 36 (by decide) m_fl_RX12_366 rfl rfl rfl (Nat.le_of_ble_eq_true rfl) dX12_laysFits_174 (fun H locs G => ?_)
                have G : zS T A s.heap s [[zAr T 0 m_keptPosts 7 xkeptPosts], [zAr T 0 m_fitPost 28 yfitPost], [zAr T 0 m_fitEnd 49 xfitEnd], [zAr T 0 m_shut 7 f_shut], [zAr T 0 m_was 7 g_was_19], [zO11 mo m_all m_has i_size i_next i_where i_token i_number i_word i_wrong i_farCrossing m_read i_z0 i_crossings i_inns m_posts m_shut m_here j_steps_15 i_done j_at_16 j_gone_17 m_was m_came m_seenAt m_rowWorth m_farBy m_used i_everywhere i_again0 i_d0 i_never i_firstCame i_longRun i_moved i_crowd i_l0 (xfitMany + 1) j_steps_15 j_steps_15 m_fitPost m_fitEnd m_keptPosts i_x0], [zAr T 0 m_all 3952 f_all], [zAr T 0 m_posts 7 g_posts_26]] _ _ := G
                refine lv_iinc (v := nI (w + 1)) (lv' := [(5, .int (nI (w + 1))), (6, .int (nI t)), (4, .int r_9), (3, .int u), (0, .ref mo), (1, .int s_), (2, .int e_)]) hx hb dX12_laysFits_177 hl (k := 1) rfl (z_inc w 1) (by decide) (zLvf_h rfl) (fun ls hl => ?_)
                refine lv_goto (tgt := 16) hx hb dX12_laysFits_180 (by decide) ?_
                have G := G.sub (bs' := [[zAr T 0 m_posts 7 g_posts_26], [zAr T 0 m_shut 7 f_shut], [zAr T 0 m_was 7 g_was_19], [zAr T 0 m_keptPosts 7 xkeptPosts], [zAr T 0 m_fitPost 28 yfitPost], [zAr T 0 m_fitEnd 49 xfitEnd], [zO11 mo m_all m_has i_size i_next i_where i_token i_number i_word i_wrong i_farCrossing m_read i_z0 i_crossings i_inns m_posts m_shut m_here j_steps_15 i_done j_at_16 j_gone_17 m_was m_came m_seenAt m_rowWorth m_farBy m_used i_everywhere i_again0 i_d0 i_never i_firstCame i_longRun i_moved i_crowd i_l0 (xfitMany + 1) j_steps_15 j_steps_15 m_fitPost m_fitEnd m_keptPosts i_x0], [zAr T 0 m_all 3952 f_all]]) [7, 3, 4, 0, 1, 2, 5, 6] rfl
                exact ih_16 (w + 1) u (xfitMany + 1) j_steps_15 j_steps_15 j_steps_15 j_at_16 j_gone_17 g_posts_26 g_was_19 yfitPost xfitEnd xkeptPosts (show (w + 1) ≤ 16384 ∧ zMP g_posts_26 from ⟨by omega, (by first | with_reducible assumption | assumption)⟩) (show 16384 - (w + 1) < 16384 - w from by omega) _ _ ls G (lv_sub hl [0, 2, 3, 4, 5, 6] rfl)
            · have c_31n : ¬ xfitLeast.toInt = (-1 : Int) := fun q => c_31 ((fa_eq _ _).mpr q)
              refine lv_aload_n hx hb dX12_laysFits_116 rfl (lv_at hl 4 rfl) ?_
              refine z_get C G clX12 5 rfl 17 (by decide) m_fl_RX12_196 rfl dX12_laysFits_117 ?_
              refine lv_aload_n hx hb dX12_laysFits_120 rfl (lv_at hl 4 rfl) ?_
              refine z_get C G clX12 5 rfl 37 (by decide) m_fl_RX12_369 rfl dX12_laysFits_121 ?_
              refine lv_icmp_ge (tgt := 134) hx hb dX12_laysFits_124 (by decide) (fun c_33 => ?_) (fun c_33 => ?_)
              · have c_33n : xfitLeast.toInt ≤ j_steps_15.toInt := (fa_le _ _).mp c_33
                refine lv_aload_n hx hb dX12_laysFits_134 rfl (lv_at hl 4 rfl) ?_
                refine z_get C G clX12 5 rfl 37 (by decide) m_fl_RX12_369 rfl dX12_laysFits_135 ?_
                refine z_put C G clX12 5 rfl 37 (by decide) m_fl_RX12_369 rfl rfl rfl (Nat.le_of_ble_eq_true rfl) dX12_laysFits_138 (fun H locs G => ?_)
                have G : zS T A s.heap s [[zAr T 0 m_keptPosts 7 xkeptPosts], [zAr T 0 m_fitPost 28 yfitPost], [zAr T 0 m_fitEnd 49 xfitEnd], [zAr T 0 m_shut 7 f_shut], [zAr T 0 m_was 7 g_was_19], [zO11 mo m_all m_has i_size i_next i_where i_token i_number i_word i_wrong i_farCrossing m_read i_z0 i_crossings i_inns m_posts m_shut m_here j_steps_15 i_done j_at_16 j_gone_17 m_was m_came m_seenAt m_rowWorth m_farBy m_used i_everywhere i_again0 i_d0 i_never i_firstCame i_longRun i_moved i_crowd i_l0 xfitMany xfitLeast xfitMost m_fitPost m_fitEnd m_keptPosts i_x0], [zAr T 0 m_all 3952 f_all], [zAr T 0 m_posts 7 g_posts_26]] _ _ := G
                refine lv_aload_n hx hb dX12_laysFits_141 rfl (lv_at hl 4 rfl) ?_
                refine lv_aload_n hx hb dX12_laysFits_142 rfl (lv_at hl 4 rfl) ?_
                refine z_get C G clX12 5 rfl 17 (by decide) m_fl_RX12_196 rfl dX12_laysFits_143 ?_
                refine lv_aload_n hx hb dX12_laysFits_146 rfl (lv_at hl 4 rfl) ?_
                refine z_get C G clX12 5 rfl 38 (by decide) m_fl_RX12_372 rfl dX12_laysFits_147 ?_
                refine lv_icmp_le (tgt := 160) hx hb dX12_laysFits_150 (by decide) (fun c_34 => ?_) (fun c_34 => ?_)
                · have c_34n : j_steps_15.toInt ≤ xfitMost.toInt := (fa_le _ _).mp c_34
                  refine lv_aload_n hx hb dX12_laysFits_160 rfl (lv_at hl 4 rfl) ?_
                  refine z_get C G clX12 5 rfl 38 (by decide) m_fl_RX12_372 rfl dX12_laysFits_161 ?_
                  refine z_put C G clX12 5 rfl 38 (by decide) m_fl_RX12_372 rfl rfl rfl (Nat.le_of_ble_eq_true rfl) dX12_laysFits_164 (fun H locs G => ?_)
                  have G : zS T A s.heap s [[zAr T 0 m_keptPosts 7 xkeptPosts], [zAr T 0 m_fitPost 28 yfitPost], [zAr T 0 m_fitEnd 49 xfitEnd], [zAr T 0 m_shut 7 f_shut], [zAr T 0 m_was 7 g_was_19], [zO11 mo m_all m_has i_size i_next i_where i_token i_number i_word i_wrong i_farCrossing m_read i_z0 i_crossings i_inns m_posts m_shut m_here j_steps_15 i_done j_at_16 j_gone_17 m_was m_came m_seenAt m_rowWorth m_farBy m_used i_everywhere i_again0 i_d0 i_never i_firstCame i_longRun i_moved i_crowd i_l0 xfitMany xfitLeast xfitMost m_fitPost m_fitEnd m_keptPosts i_x0], [zAr T 0 m_all 3952 f_all], [zAr T 0 m_posts 7 g_posts_26]] _ _ := G
                  refine lv_aload_n hx hb dX12_laysFits_167 rfl (lv_at hl 4 rfl) ?_
                  refine lv_dup hx hb dX12_laysFits_168 rfl ?_
                  refine z_get C G clX12 5 rfl 36 (by decide) m_fl_RX12_366 rfl dX12_laysFits_169 ?_
                  refine lv_iconst (v := 1) hx hb dX12_laysFits_172 (by decide) ?_
                  refine lv_iadd hx hb dX12_laysFits_173 ?_
                  refine z_put C G clX12 5 rfl 36 (by decide) m_fl_RX12_366 rfl rfl rfl (Nat.le_of_ble_eq_true rfl) dX12_laysFits_174 (fun H locs G => ?_)
                  have G : zS T A s.heap s [[zAr T 0 m_keptPosts 7 xkeptPosts], [zAr T 0 m_fitPost 28 yfitPost], [zAr T 0 m_fitEnd 49 xfitEnd], [zAr T 0 m_shut 7 f_shut], [zAr T 0 m_was 7 g_was_19], [zO11 mo m_all m_has i_size i_next i_where i_token i_number i_word i_wrong i_farCrossing m_read i_z0 i_crossings i_inns m_posts m_shut m_here j_steps_15 i_done j_at_16 j_gone_17 m_was m_came m_seenAt m_rowWorth m_farBy m_used i_everywhere i_again0 i_d0 i_never i_firstCame i_longRun i_moved i_crowd i_l0 (xfitMany + 1) xfitLeast xfitMost m_fitPost m_fitEnd m_keptPosts i_x0], [zAr T 0 m_all 3952 f_all], [zAr T 0 m_posts 7 g_posts_26]] _ _ := G
                  refine lv_iinc (v := nI (w + 1)) (lv' := [(5, .int (nI (w + 1))), (6, .int (nI t)), (4, .int r_9), (3, .int u), (0, .ref mo), (1, .int s_), (2, .int e_)]) hx hb dX12_laysFits_177 hl (k := 1) rfl (z_inc w 1) (by decide) (zLvf_h rfl) (fun ls hl => ?_)
                  refine lv_goto (tgt := 16) hx hb dX12_laysFits_180 (by decide) ?_
                  have G := G.sub (bs' := [[zAr T 0 m_posts 7 g_posts_26], [zAr T 0 m_shut 7 f_shut], [zAr T 0 m_was 7 g_was_19], [zAr T 0 m_keptPosts 7 xkeptPosts], [zAr T 0 m_fitPost 28 yfitPost], [zAr T 0 m_fitEnd 49 xfitEnd], [zO11 mo m_all m_has i_size i_next i_where i_token i_number i_word i_wrong i_farCrossing m_read i_z0 i_crossings i_inns m_posts m_shut m_here j_steps_15 i_done j_at_16 j_gone_17 m_was m_came m_seenAt m_rowWorth m_farBy m_used i_everywhere i_again0 i_d0 i_never i_firstCame i_longRun i_moved i_crowd i_l0 (xfitMany + 1) xfitLeast xfitMost m_fitPost m_fitEnd m_keptPosts i_x0], [zAr T 0 m_all 3952 f_all]]) [7, 3, 4, 0, 1, 2, 5, 6] rfl
                  exact ih_16 (w + 1) u (xfitMany + 1) xfitLeast xfitMost j_steps_15 j_at_16 j_gone_17 g_posts_26 g_was_19 yfitPost xfitEnd xkeptPosts (show (w + 1) ≤ 16384 ∧ zMP g_posts_26 from ⟨by omega, (by first | with_reducible assumption | assumption)⟩) (show 16384 - (w + 1) < 16384 - w from by omega) _ _ ls G (lv_sub hl [0, 2, 3, 4, 5, 6] rfl)
                · have c_34n : ¬ j_steps_15.toInt ≤ xfitMost.toInt := fun q => c_34 ((fa_le _ _).mpr q)
                  refine lv_aload_n hx hb dX12_laysFits_153 rfl (lv_at hl 4 rfl) ?_
                  refine z_get C G clX12 5 rfl 17 (by decide) m_fl_RX12_196 rfl dX12_laysFits_154 ?_
                  refine lv_goto (tgt := 164) hx hb dX12_laysFits_157 (by decide) ?_
                  refine z_put C G clX12 5 rfl 38 (by decide) m_fl_RX12_372 rfl rfl rfl (Nat.le_of_ble_eq_true rfl) dX12_laysFits_164 (fun H locs G => ?_)
                  have G : zS T A s.heap s [[zAr T 0 m_keptPosts 7 xkeptPosts], [zAr T 0 m_fitPost 28 yfitPost], [zAr T 0 m_fitEnd 49 xfitEnd], [zAr T 0 m_shut 7 f_shut], [zAr T 0 m_was 7 g_was_19], [zO11 mo m_all m_has i_size i_next i_where i_token i_number i_word i_wrong i_farCrossing m_read i_z0 i_crossings i_inns m_posts m_shut m_here j_steps_15 i_done j_at_16 j_gone_17 m_was m_came m_seenAt m_rowWorth m_farBy m_used i_everywhere i_again0 i_d0 i_never i_firstCame i_longRun i_moved i_crowd i_l0 xfitMany xfitLeast j_steps_15 m_fitPost m_fitEnd m_keptPosts i_x0], [zAr T 0 m_all 3952 f_all], [zAr T 0 m_posts 7 g_posts_26]] _ _ := G
                  refine lv_aload_n hx hb dX12_laysFits_167 rfl (lv_at hl 4 rfl) ?_
                  refine lv_dup hx hb dX12_laysFits_168 rfl ?_
                  refine z_get C G clX12 5 rfl 36 (by decide) m_fl_RX12_366 rfl dX12_laysFits_169 ?_
                  refine lv_iconst (v := 1) hx hb dX12_laysFits_172 (by decide) ?_
                  refine lv_iadd hx hb dX12_laysFits_173 ?_
                  refine z_put C G clX12 5 rfl 36 (by decide) m_fl_RX12_366 rfl rfl rfl (Nat.le_of_ble_eq_true rfl) dX12_laysFits_174 (fun H locs G => ?_)
                  have G : zS T A s.heap s [[zAr T 0 m_keptPosts 7 xkeptPosts], [zAr T 0 m_fitPost 28 yfitPost], [zAr T 0 m_fitEnd 49 xfitEnd], [zAr T 0 m_shut 7 f_shut], [zAr T 0 m_was 7 g_was_19], [zO11 mo m_all m_has i_size i_next i_where i_token i_number i_word i_wrong i_farCrossing m_read i_z0 i_crossings i_inns m_posts m_shut m_here j_steps_15 i_done j_at_16 j_gone_17 m_was m_came m_seenAt m_rowWorth m_farBy m_used i_everywhere i_again0 i_d0 i_never i_firstCame i_longRun i_moved i_crowd i_l0 (xfitMany + 1) xfitLeast j_steps_15 m_fitPost m_fitEnd m_keptPosts i_x0], [zAr T 0 m_all 3952 f_all], [zAr T 0 m_posts 7 g_posts_26]] _ _ := G
                  refine lv_iinc (v := nI (w + 1)) (lv' := [(5, .int (nI (w + 1))), (6, .int (nI t)), (4, .int r_9), (3, .int u), (0, .ref mo), (1, .int s_), (2, .int e_)]) hx hb dX12_laysFits_177 hl (k := 1) rfl (z_inc w 1) (by decide) (zLvf_h rfl) (fun ls hl => ?_)
                  refine lv_goto (tgt := 16) hx hb dX12_laysFits_180 (by decide) ?_
                  have G := G.sub (bs' := [[zAr T 0 m_posts 7 g_posts_26], [zAr T 0 m_shut 7 f_shut], [zAr T 0 m_was 7 g_was_19], [zAr T 0 m_keptPosts 7 xkeptPosts], [zAr T 0 m_fitPost 28 yfitPost], [zAr T 0 m_fitEnd 49 xfitEnd], [zO11 mo m_all m_has i_size i_next i_where i_token i_number i_word i_wrong i_farCrossing m_read i_z0 i_crossings i_inns m_posts m_shut m_here j_steps_15 i_done j_at_16 j_gone_17 m_was m_came m_seenAt m_rowWorth m_farBy m_used i_everywhere i_again0 i_d0 i_never i_firstCame i_longRun i_moved i_crowd i_l0 (xfitMany + 1) xfitLeast j_steps_15 m_fitPost m_fitEnd m_keptPosts i_x0], [zAr T 0 m_all 3952 f_all]]) [7, 3, 4, 0, 1, 2, 5, 6] rfl
                  exact ih_16 (w + 1) u (xfitMany + 1) xfitLeast j_steps_15 j_steps_15 j_at_16 j_gone_17 g_posts_26 g_was_19 yfitPost xfitEnd xkeptPosts (show (w + 1) ≤ 16384 ∧ zMP g_posts_26 from ⟨by omega, (by first | with_reducible assumption | assumption)⟩) (show 16384 - (w + 1) < 16384 - w from by omega) _ _ ls G (lv_sub hl [0, 2, 3, 4, 5, 6] rfl)
              · have c_33n : ¬ xfitLeast.toInt ≤ j_steps_15.toInt := fun q => c_33 ((fa_le _ _).mpr q)
                refine lv_aload_n hx hb dX12_laysFits_127 rfl (lv_at hl 4 rfl) ?_
                refine z_get C G clX12 5 rfl 17 (by decide) m_fl_RX12_196 rfl dX12_laysFits_128 ?_
                refine lv_goto (tgt := 138) hx hb dX12_laysFits_131 (by decide) ?_
                refine z_put C G clX12 5 rfl 37 (by decide) m_fl_RX12_369 rfl rfl rfl (Nat.le_of_ble_eq_true rfl) dX12_laysFits_138 (fun H locs G => ?_)
                have G : zS T A s.heap s [[zAr T 0 m_keptPosts 7 xkeptPosts], [zAr T 0 m_fitPost 28 yfitPost], [zAr T 0 m_fitEnd 49 xfitEnd], [zAr T 0 m_shut 7 f_shut], [zAr T 0 m_was 7 g_was_19], [zO11 mo m_all m_has i_size i_next i_where i_token i_number i_word i_wrong i_farCrossing m_read i_z0 i_crossings i_inns m_posts m_shut m_here j_steps_15 i_done j_at_16 j_gone_17 m_was m_came m_seenAt m_rowWorth m_farBy m_used i_everywhere i_again0 i_d0 i_never i_firstCame i_longRun i_moved i_crowd i_l0 xfitMany j_steps_15 xfitMost m_fitPost m_fitEnd m_keptPosts i_x0], [zAr T 0 m_all 3952 f_all], [zAr T 0 m_posts 7 g_posts_26]] _ _ := G
                refine lv_aload_n hx hb dX12_laysFits_141 rfl (lv_at hl 4 rfl) ?_
                refine lv_aload_n hx hb dX12_laysFits_142 rfl (lv_at hl 4 rfl) ?_
                refine z_get C G clX12 5 rfl 17 (by decide) m_fl_RX12_196 rfl dX12_laysFits_143 ?_
                refine lv_aload_n hx hb dX12_laysFits_146 rfl (lv_at hl 4 rfl) ?_
                refine z_get C G clX12 5 rfl 38 (by decide) m_fl_RX12_372 rfl dX12_laysFits_147 ?_
                refine lv_icmp_le (tgt := 160) hx hb dX12_laysFits_150 (by decide) (fun c_35 => ?_) (fun c_35 => ?_)
                · have c_35n : j_steps_15.toInt ≤ xfitMost.toInt := (fa_le _ _).mp c_35
                  refine lv_aload_n hx hb dX12_laysFits_160 rfl (lv_at hl 4 rfl) ?_
                  refine z_get C G clX12 5 rfl 38 (by decide) m_fl_RX12_372 rfl dX12_laysFits_161 ?_
                  refine z_put C G clX12 5 rfl 38 (by decide) m_fl_RX12_372 rfl rfl rfl (Nat.le_of_ble_eq_true rfl) dX12_laysFits_164 (fun H locs G => ?_)
                  have G : zS T A s.heap s [[zAr T 0 m_keptPosts 7 xkeptPosts], [zAr T 0 m_fitPost 28 yfitPost], [zAr T 0 m_fitEnd 49 xfitEnd], [zAr T 0 m_shut 7 f_shut], [zAr T 0 m_was 7 g_was_19], [zO11 mo m_all m_has i_size i_next i_where i_token i_number i_word i_wrong i_farCrossing m_read i_z0 i_crossings i_inns m_posts m_shut m_here j_steps_15 i_done j_at_16 j_gone_17 m_was m_came m_seenAt m_rowWorth m_farBy m_used i_everywhere i_again0 i_d0 i_never i_firstCame i_longRun i_moved i_crowd i_l0 xfitMany j_steps_15 xfitMost m_fitPost m_fitEnd m_keptPosts i_x0], [zAr T 0 m_all 3952 f_all], [zAr T 0 m_posts 7 g_posts_26]] _ _ := G
                  refine lv_aload_n hx hb dX12_laysFits_167 rfl (lv_at hl 4 rfl) ?_
                  refine lv_dup hx hb dX12_laysFits_168 rfl ?_
                  refine z_get C G clX12 5 rfl 36 (by decide) m_fl_RX12_366 rfl dX12_laysFits_169 ?_
                  refine lv_iconst (v := 1) hx hb dX12_laysFits_172 (by decide) ?_
                  refine lv_iadd hx hb dX12_laysFits_173 ?_
                  refine z_put C G clX12 5 rfl 36 (by decide) m_fl_RX12_366 rfl rfl rfl (Nat.le_of_ble_eq_true rfl) dX12_laysFits_174 (fun H locs G => ?_)
                  have G : zS T A s.heap s [[zAr T 0 m_keptPosts 7 xkeptPosts], [zAr T 0 m_fitPost 28 yfitPost], [zAr T 0 m_fitEnd 49 xfitEnd], [zAr T 0 m_shut 7 f_shut], [zAr T 0 m_was 7 g_was_19], [zO11 mo m_all m_has i_size i_next i_where i_token i_number i_word i_wrong i_farCrossing m_read i_z0 i_crossings i_inns m_posts m_shut m_here j_steps_15 i_done j_at_16 j_gone_17 m_was m_came m_seenAt m_rowWorth m_farBy m_used i_everywhere i_again0 i_d0 i_never i_firstCame i_longRun i_moved i_crowd i_l0 (xfitMany + 1) j_steps_15 xfitMost m_fitPost m_fitEnd m_keptPosts i_x0], [zAr T 0 m_all 3952 f_all], [zAr T 0 m_posts 7 g_posts_26]] _ _ := G
                  refine lv_iinc (v := nI (w + 1)) (lv' := [(5, .int (nI (w + 1))), (6, .int (nI t)), (4, .int r_9), (3, .int u), (0, .ref mo), (1, .int s_), (2, .int e_)]) hx hb dX12_laysFits_177 hl (k := 1) rfl (z_inc w 1) (by decide) (zLvf_h rfl) (fun ls hl => ?_)
                  refine lv_goto (tgt := 16) hx hb dX12_laysFits_180 (by decide) ?_
                  have G := G.sub (bs' := [[zAr T 0 m_posts 7 g_posts_26], [zAr T 0 m_shut 7 f_shut], [zAr T 0 m_was 7 g_was_19], [zAr T 0 m_keptPosts 7 xkeptPosts], [zAr T 0 m_fitPost 28 yfitPost], [zAr T 0 m_fitEnd 49 xfitEnd], [zO11 mo m_all m_has i_size i_next i_where i_token i_number i_word i_wrong i_farCrossing m_read i_z0 i_crossings i_inns m_posts m_shut m_here j_steps_15 i_done j_at_16 j_gone_17 m_was m_came m_seenAt m_rowWorth m_farBy m_used i_everywhere i_again0 i_d0 i_never i_firstCame i_longRun i_moved i_crowd i_l0 (xfitMany + 1) j_steps_15 xfitMost m_fitPost m_fitEnd m_keptPosts i_x0], [zAr T 0 m_all 3952 f_all]]) [7, 3, 4, 0, 1, 2, 5, 6] rfl
                  exact ih_16 (w + 1) u (xfitMany + 1) j_steps_15 xfitMost j_steps_15 j_at_16 j_gone_17 g_posts_26 g_was_19 yfitPost xfitEnd xkeptPosts (show (w + 1) ≤ 16384 ∧ zMP g_posts_26 from ⟨by omega, (by first | with_reducible assumption | assumption)⟩) (show 16384 - (w + 1) < 16384 - w from by omega) _ _ ls G (lv_sub hl [0, 2, 3, 4, 5, 6] rfl)
                · have c_35n : ¬ j_steps_15.toInt ≤ xfitMost.toInt := fun q => c_35 ((fa_le _ _).mpr q)
                  refine lv_aload_n hx hb dX12_laysFits_153 rfl (lv_at hl 4 rfl) ?_
                  refine z_get C G clX12 5 rfl 17 (by decide) m_fl_RX12_196 rfl dX12_laysFits_154 ?_
                  refine lv_goto (tgt := 164) hx hb dX12_laysFits_157 (by decide) ?_
                  refine z_put C G clX12 5 rfl 38 (by decide) m_fl_RX12_372 rfl rfl rfl (Nat.le_of_ble_eq_true rfl) dX12_laysFits_164 (fun H locs G => ?_)
                  have G : zS T A s.heap s [[zAr T 0 m_keptPosts 7 xkeptPosts], [zAr T 0 m_fitPost 28 yfitPost], [zAr T 0 m_fitEnd 49 xfitEnd], [zAr T 0 m_shut 7 f_shut], [zAr T 0 m_was 7 g_was_19], [zO11 mo m_all m_has i_size i_next i_where i_token i_number i_word i_wrong i_farCrossing m_read i_z0 i_crossings i_inns m_posts m_shut m_here j_steps_15 i_done j_at_16 j_gone_17 m_was m_came m_seenAt m_rowWorth m_farBy m_used i_everywhere i_again0 i_d0 i_never i_firstCame i_longRun i_moved i_crowd i_l0 xfitMany j_steps_15 j_steps_15 m_fitPost m_fitEnd m_keptPosts i_x0], [zAr T 0 m_all 3952 f_all], [zAr T 0 m_posts 7 g_posts_26]] _ _ := G
                  refine lv_aload_n hx hb dX12_laysFits_167 rfl (lv_at hl 4 rfl) ?_
                  refine lv_dup hx hb dX12_laysFits_168 rfl ?_
                  refine z_get C G clX12 5 rfl 36 (by decide) m_fl_RX12_366 rfl dX12_laysFits_169 ?_
                  refine lv_iconst (v := 1) hx hb dX12_laysFits_172 (by decide) ?_
                  refine lv_iadd hx hb dX12_laysFits_173 ?_
                  refine z_put C G clX12 5 rfl 36 (by decide) m_fl_RX12_366 rfl rfl rfl (Nat.le_of_ble_eq_true rfl) dX12_laysFits_174 (fun H locs G => ?_)
                  have G : zS T A s.heap s [[zAr T 0 m_keptPosts 7 xkeptPosts], [zAr T 0 m_fitPost 28 yfitPost], [zAr T 0 m_fitEnd 49 xfitEnd], [zAr T 0 m_shut 7 f_shut], [zAr T 0 m_was 7 g_was_19], [zO11 mo m_all m_has i_size i_next i_where i_token i_number i_word i_wrong i_farCrossing m_read i_z0 i_crossings i_inns m_posts m_shut m_here j_steps_15 i_done j_at_16 j_gone_17 m_was m_came m_seenAt m_rowWorth m_farBy m_used i_everywhere i_again0 i_d0 i_never i_firstCame i_longRun i_moved i_crowd i_l0 (xfitMany + 1) j_steps_15 j_steps_15 m_fitPost m_fitEnd m_keptPosts i_x0], [zAr T 0 m_all 3952 f_all], [zAr T 0 m_posts 7 g_posts_26]] _ _ := G
                  refine lv_iinc (v := nI (w + 1)) (lv' := [(5, .int (nI (w + 1))), (6, .int (nI t)), (4, .int r_9), (3, .int u), (0, .ref mo), (1, .int s_), (2, .int e_)]) hx hb dX12_laysFits_177 hl (k := 1) rfl (z_inc w 1) (by decide) (zLvf_h rfl) (fun ls hl => ?_)
                  refine lv_goto (tgt := 16) hx hb dX12_laysFits_180 (by decide) ?_
                  have G := G.sub (bs' := [[zAr T 0 m_posts 7 g_posts_26], [zAr T 0 m_shut 7 f_shut], [zAr T 0 m_was 7 g_was_19], [zAr T 0 m_keptPosts 7 xkeptPosts], [zAr T 0 m_fitPost 28 yfitPost], [zAr T 0 m_fitEnd 49 xfitEnd], [zO11 mo m_all m_has i_size i_next i_where i_token i_number i_word i_wrong i_farCrossing m_read i_z0 i_crossings i_inns m_posts m_shut m_here j_steps_15 i_done j_at_16 j_gone_17 m_was m_came m_seenAt m_rowWorth m_farBy m_used i_everywhere i_again0 i_d0 i_never i_firstCame i_longRun i_moved i_crowd i_l0 (xfitMany + 1) j_steps_15 j_steps_15 m_fitPost m_fitEnd m_keptPosts i_x0], [zAr T 0 m_all 3952 f_all]]) [7, 3, 4, 0, 1, 2, 5, 6] rfl
                  exact ih_16 (w + 1) u (xfitMany + 1) j_steps_15 j_steps_15 j_steps_15 j_at_16 j_gone_17 g_posts_26 g_was_19 yfitPost xfitEnd xkeptPosts (show (w + 1) ≤ 16384 ∧ zMP g_posts_26 from ⟨by omega, (by first | with_reducible assumption | assumption)⟩) (show 16384 - (w + 1) < 16384 - w from by omega) _ _ ls G (lv_sub hl [0, 2, 3, 4, 5, 6] rfl)
          · have c_30n : xfitMany.toInt = s_.toInt := (fa_eq _ _).mp c_30
            refine lv_aload_n hx hb dX12_laysFits_100 rfl (lv_at hl 4 rfl) ?_
            refine lv_iload hx hb dX12_laysFits_101 (lv_at hl 1 rfl) ?_
            have ti_36 : (nI w).toInt = ((w : Nat) : Int) := nI_toInt (by omega)
            refine z_Vi (bc := [[zO11 mo m_all m_has i_size i_next i_where i_token i_number i_word i_wrong i_farCrossing m_read i_z0 i_crossings i_inns m_posts m_shut m_here j_steps_15 i_done j_at_16 j_gone_17 m_was m_came m_seenAt m_rowWorth m_farBy m_used i_everywhere i_again0 i_d0 i_never i_firstCame i_longRun i_moved i_crowd i_l0 xfitMany xfitLeast xfitMost m_fitPost m_fitEnd m_keptPosts i_x0], [zAr T 0 m_all 3952 f_all], [zAr T 0 m_posts 7 g_posts_26]]) (br := [[zAr T 0 m_keptPosts 7 xkeptPosts], [zAr T 0 m_fitPost 28 yfitPost], [zAr T 0 m_fitEnd 49 xfitEnd], [zAr T 0 m_shut 7 f_shut], [zAr T 0 m_was 7 g_was_19]]) (As := [.int (nI w)]) (rest := []) C G (c_m_numberOf l T mo m_all m_has i_size i_next i_where i_token i_number i_word i_wrong i_farCrossing m_read i_z0 i_crossings i_inns m_posts m_shut m_here j_steps_15 i_done j_at_16 j_gone_17 m_was m_came m_seenAt m_rowWorth m_farBy m_used i_everywhere i_again0 i_d0 i_never i_firstCame i_longRun i_moved i_crowd i_l0 xfitMany xfitLeast xfitMost m_fitPost m_fitEnd m_keptPosts i_x0 f_all g_posts_26 (nI w) (by first | with_reducible assumption | with_reducible rfl | omega | assumption | rfl | decide) (by first | with_reducible assumption | with_reducible rfl | omega | assumption | rfl | decide) (by first | with_reducible assumption | with_reducible rfl | omega | assumption | rfl | decide)) (kV_RX12_299 C.2.2.2.2 (Nat.le_of_ble_eq_true rfl) (Nat.le_of_ble_eq_true rfl)) [5, 6, 7] [5, 0, 0] rfl rfl (ci := 11) (qc := (RX12, TX12, 43)) rfl rfl (List.mem_flatten.mpr ⟨_, List.mem_of_getElem? (i := 0) rfl, List.mem_cons_self⟩) rfl rfl hl.1 dX12_laysFits_103 (Nat.le_of_ble_eq_true rfl) (Nat.le_of_ble_eq_true rfl) (fun r_39 b1 H locs hw G => ?_)
            refine zEx1 hw ?_
            intro g_posts_37
            refine zCu2 ?_
            intro hbs9 h_38
            clear hw
            subst hbs9
            have G : zS T A s.heap s [[zAr T 0 m_keptPosts 7 xkeptPosts], [zAr T 0 m_fitPost 28 yfitPost], [zAr T 0 m_fitEnd 49 xfitEnd], [zAr T 0 m_shut 7 f_shut], [zAr T 0 m_was 7 g_was_19], [zO11 mo m_all m_has i_size i_next i_where i_token i_number i_word i_wrong i_farCrossing m_read i_z0 i_crossings i_inns m_posts m_shut m_here j_steps_15 i_done j_at_16 j_gone_17 m_was m_came m_seenAt m_rowWorth m_farBy m_used i_everywhere i_again0 i_d0 i_never i_firstCame i_longRun i_moved i_crowd i_l0 xfitMany xfitLeast xfitMost m_fitPost m_fitEnd m_keptPosts i_x0], [zAr T 0 m_all 3952 f_all], [zAr T 0 m_posts 7 g_posts_37]] _ _ := G
            refine lv_istore_n (lv' := [(3, .int r_39), (6, .int (nI t)), (5, .int (nI w)), (4, .int r_9), (0, .ref mo), (1, .int s_), (2, .int e_)]) hx hb dX12_laysFits_106 rfl hl (by decide) (zLvf_h rfl) (fun ls hl => ?_)
            refine lv_aload_n hx hb dX12_laysFits_107 rfl (lv_at hl 4 rfl) ?_
            refine lv_aload_n hx hb dX12_laysFits_108 rfl (lv_at hl 4 rfl) ?_
            refine z_get C G clX12 5 rfl 37 (by decide) m_fl_RX12_369 rfl dX12_laysFits_109 ?_
            refine lv_iconst (v := (-1)) hx hb dX12_laysFits_112 (by decide) ?_
            refine lv_icmp_eq (tgt := 127) hx hb dX12_laysFits_113 (by decide) (fun c_40 => ?_) (fun c_40 => ?_)
            · have c_40n : xfitLeast.toInt = (-1 : Int) := (fa_eq _ _).mp c_40
              refine lv_aload_n hx hb dX12_laysFits_127 rfl (lv_at hl 4 rfl) ?_
              refine z_get C G clX12 5 rfl 17 (by decide) m_fl_RX12_196 rfl dX12_laysFits_128 ?_
              refine lv_goto (tgt := 138) hx hb dX12_laysFits_131 (by decide) ?_
              refine z_put C G clX12 5 rfl 37 (by decide) m_fl_RX12_369 rfl rfl rfl (Nat.le_of_ble_eq_true rfl) dX12_laysFits_138 (fun H locs G => ?_)
              have G : zS T A s.heap s [[zAr T 0 m_keptPosts 7 xkeptPosts], [zAr T 0 m_fitPost 28 yfitPost], [zAr T 0 m_fitEnd 49 xfitEnd], [zAr T 0 m_shut 7 f_shut], [zAr T 0 m_was 7 g_was_19], [zO11 mo m_all m_has i_size i_next i_where i_token i_number i_word i_wrong i_farCrossing m_read i_z0 i_crossings i_inns m_posts m_shut m_here j_steps_15 i_done j_at_16 j_gone_17 m_was m_came m_seenAt m_rowWorth m_farBy m_used i_everywhere i_again0 i_d0 i_never i_firstCame i_longRun i_moved i_crowd i_l0 xfitMany j_steps_15 xfitMost m_fitPost m_fitEnd m_keptPosts i_x0], [zAr T 0 m_all 3952 f_all], [zAr T 0 m_posts 7 g_posts_37]] _ _ := G
              refine lv_aload_n hx hb dX12_laysFits_141 rfl (lv_at hl 4 rfl) ?_
              refine lv_aload_n hx hb dX12_laysFits_142 rfl (lv_at hl 4 rfl) ?_
              refine z_get C G clX12 5 rfl 17 (by decide) m_fl_RX12_196 rfl dX12_laysFits_143 ?_
              refine lv_aload_n hx hb dX12_laysFits_146 rfl (lv_at hl 4 rfl) ?_
              refine z_get C G clX12 5 rfl 38 (by decide) m_fl_RX12_372 rfl dX12_laysFits_147 ?_
              refine lv_icmp_le (tgt := 160) hx hb dX12_laysFits_150 (by decide) (fun c_41 => ?_) (fun c_41 => ?_)
              · have c_41n : j_steps_15.toInt ≤ xfitMost.toInt := (fa_le _ _).mp c_41
                refine lv_aload_n hx hb dX12_laysFits_160 rfl (lv_at hl 4 rfl) ?_
                refine z_get C G clX12 5 rfl 38 (by decide) m_fl_RX12_372 rfl dX12_laysFits_161 ?_
                refine z_put C G clX12 5 rfl 38 (by decide) m_fl_RX12_372 rfl rfl rfl (Nat.le_of_ble_eq_true rfl) dX12_laysFits_164 (fun H locs G => ?_)
                have G : zS T A s.heap s [[zAr T 0 m_keptPosts 7 xkeptPosts], [zAr T 0 m_fitPost 28 yfitPost], [zAr T 0 m_fitEnd 49 xfitEnd], [zAr T 0 m_shut 7 f_shut], [zAr T 0 m_was 7 g_was_19], [zO11 mo m_all m_has i_size i_next i_where i_token i_number i_word i_wrong i_farCrossing m_read i_z0 i_crossings i_inns m_posts m_shut m_here j_steps_15 i_done j_at_16 j_gone_17 m_was m_came m_seenAt m_rowWorth m_farBy m_used i_everywhere i_again0 i_d0 i_never i_firstCame i_longRun i_moved i_crowd i_l0 xfitMany j_steps_15 xfitMost m_fitPost m_fitEnd m_keptPosts i_x0], [zAr T 0 m_all 3952 f_all], [zAr T 0 m_posts 7 g_posts_37]] _ _ := G
                refine lv_aload_n hx hb dX12_laysFits_167 rfl (lv_at hl 4 rfl) ?_
                refine lv_dup hx hb dX12_laysFits_168 rfl ?_
                refine z_get C G clX12 5 rfl 36 (by decide) m_fl_RX12_366 rfl dX12_laysFits_169 ?_
                refine lv_iconst (v := 1) hx hb dX12_laysFits_172 (by decide) ?_
                refine lv_iadd hx hb dX12_laysFits_173 ?_
                refine z_put C G clX12 5 rfl 36 (by decide) m_fl_RX12_366 rfl rfl rfl (Nat.le_of_ble_eq_true rfl) dX12_laysFits_174 (fun H locs G => ?_)
                have G : zS T A s.heap s [[zAr T 0 m_keptPosts 7 xkeptPosts], [zAr T 0 m_fitPost 28 yfitPost], [zAr T 0 m_fitEnd 49 xfitEnd], [zAr T 0 m_shut 7 f_shut], [zAr T 0 m_was 7 g_was_19], [zO11 mo m_all m_has i_size i_next i_where i_token i_number i_word i_wrong i_farCrossing m_read i_z0 i_crossings i_inns m_posts m_shut m_here j_steps_15 i_done j_at_16 j_gone_17 m_was m_came m_seenAt m_rowWorth m_farBy m_used i_everywhere i_again0 i_d0 i_never i_firstCame i_longRun i_moved i_crowd i_l0 (xfitMany + 1) j_steps_15 xfitMost m_fitPost m_fitEnd m_keptPosts i_x0], [zAr T 0 m_all 3952 f_all], [zAr T 0 m_posts 7 g_posts_37]] _ _ := G
                refine lv_iinc (v := nI (w + 1)) (lv' := [(5, .int (nI (w + 1))), (3, .int r_39), (6, .int (nI t)), (4, .int r_9), (0, .ref mo), (1, .int s_), (2, .int e_)]) hx hb dX12_laysFits_177 hl (k := 2) rfl (z_inc w 1) (by decide) (zLvf_h rfl) (fun ls hl => ?_)
                refine lv_goto (tgt := 16) hx hb dX12_laysFits_180 (by decide) ?_
                have G := G.sub (bs' := [[zAr T 0 m_posts 7 g_posts_37], [zAr T 0 m_shut 7 f_shut], [zAr T 0 m_was 7 g_was_19], [zAr T 0 m_keptPosts 7 xkeptPosts], [zAr T 0 m_fitPost 28 yfitPost], [zAr T 0 m_fitEnd 49 xfitEnd], [zO11 mo m_all m_has i_size i_next i_where i_token i_number i_word i_wrong i_farCrossing m_read i_z0 i_crossings i_inns m_posts m_shut m_here j_steps_15 i_done j_at_16 j_gone_17 m_was m_came m_seenAt m_rowWorth m_farBy m_used i_everywhere i_again0 i_d0 i_never i_firstCame i_longRun i_moved i_crowd i_l0 (xfitMany + 1) j_steps_15 xfitMost m_fitPost m_fitEnd m_keptPosts i_x0], [zAr T 0 m_all 3952 f_all]]) [7, 3, 4, 0, 1, 2, 5, 6] rfl
                exact ih_16 (w + 1) r_39 (xfitMany + 1) j_steps_15 xfitMost j_steps_15 j_at_16 j_gone_17 g_posts_37 g_was_19 yfitPost xfitEnd xkeptPosts (show (w + 1) ≤ 16384 ∧ zMP g_posts_37 from ⟨by omega, (by first | with_reducible assumption | assumption)⟩) (show 16384 - (w + 1) < 16384 - w from by omega) _ _ ls G (lv_sub hl [0, 3, 1, 4, 5, 6] rfl)
              · have c_41n : ¬ j_steps_15.toInt ≤ xfitMost.toInt := fun q => c_41 ((fa_le _ _).mpr q)
                refine lv_aload_n hx hb dX12_laysFits_153 rfl (lv_at hl 4 rfl) ?_
                refine z_get C G clX12 5 rfl 17 (by decide) m_fl_RX12_196 rfl dX12_laysFits_154 ?_
                refine lv_goto (tgt := 164) hx hb dX12_laysFits_157 (by decide) ?_
                refine z_put C G clX12 5 rfl 38 (by decide) m_fl_RX12_372 rfl rfl rfl (Nat.le_of_ble_eq_true rfl) dX12_laysFits_164 (fun H locs G => ?_)
                have G : zS T A s.heap s [[zAr T 0 m_keptPosts 7 xkeptPosts], [zAr T 0 m_fitPost 28 yfitPost], [zAr T 0 m_fitEnd 49 xfitEnd], [zAr T 0 m_shut 7 f_shut], [zAr T 0 m_was 7 g_was_19], [zO11 mo m_all m_has i_size i_next i_where i_token i_number i_word i_wrong i_farCrossing m_read i_z0 i_crossings i_inns m_posts m_shut m_here j_steps_15 i_done j_at_16 j_gone_17 m_was m_came m_seenAt m_rowWorth m_farBy m_used i_everywhere i_again0 i_d0 i_never i_firstCame i_longRun i_moved i_crowd i_l0 xfitMany j_steps_15 j_steps_15 m_fitPost m_fitEnd m_keptPosts i_x0], [zAr T 0 m_all 3952 f_all], [zAr T 0 m_posts 7 g_posts_37]] _ _ := G
                refine lv_aload_n hx hb dX12_laysFits_167 rfl (lv_at hl 4 rfl) ?_
                refine lv_dup hx hb dX12_laysFits_168 rfl ?_
                refine z_get C G clX12 5 rfl 36 (by decide) m_fl_RX12_366 rfl dX12_laysFits_169 ?_
                refine lv_iconst (v := 1) hx hb dX12_laysFits_172 (by decide) ?_
                refine lv_iadd hx hb dX12_laysFits_173 ?_
                refine z_put C G clX12 5 rfl 36 (by decide) m_fl_RX12_366 rfl rfl rfl (Nat.le_of_ble_eq_true rfl) dX12_laysFits_174 (fun H locs G => ?_)
                have G : zS T A s.heap s [[zAr T 0 m_keptPosts 7 xkeptPosts], [zAr T 0 m_fitPost 28 yfitPost], [zAr T 0 m_fitEnd 49 xfitEnd], [zAr T 0 m_shut 7 f_shut], [zAr T 0 m_was 7 g_was_19], [zO11 mo m_all m_has i_size i_next i_where i_token i_number i_word i_wrong i_farCrossing m_read i_z0 i_crossings i_inns m_posts m_shut m_here j_steps_15 i_done j_at_16 j_gone_17 m_was m_came m_seenAt m_rowWorth m_farBy m_used i_everywhere i_again0 i_d0 i_never i_firstCame i_longRun i_moved i_crowd i_l0 (xfitMany + 1) j_steps_15 j_steps_15 m_fitPost m_fitEnd m_keptPosts i_x0], [zAr T 0 m_all 3952 f_all], [zAr T 0 m_posts 7 g_posts_37]] _ _ := G
                refine lv_iinc (v := nI (w + 1)) (lv' := [(5, .int (nI (w + 1))), (3, .int r_39), (6, .int (nI t)), (4, .int r_9), (0, .ref mo), (1, .int s_), (2, .int e_)]) hx hb dX12_laysFits_177 hl (k := 2) rfl (z_inc w 1) (by decide) (zLvf_h rfl) (fun ls hl => ?_)
                refine lv_goto (tgt := 16) hx hb dX12_laysFits_180 (by decide) ?_
                have G := G.sub (bs' := [[zAr T 0 m_posts 7 g_posts_37], [zAr T 0 m_shut 7 f_shut], [zAr T 0 m_was 7 g_was_19], [zAr T 0 m_keptPosts 7 xkeptPosts], [zAr T 0 m_fitPost 28 yfitPost], [zAr T 0 m_fitEnd 49 xfitEnd], [zO11 mo m_all m_has i_size i_next i_where i_token i_number i_word i_wrong i_farCrossing m_read i_z0 i_crossings i_inns m_posts m_shut m_here j_steps_15 i_done j_at_16 j_gone_17 m_was m_came m_seenAt m_rowWorth m_farBy m_used i_everywhere i_again0 i_d0 i_never i_firstCame i_longRun i_moved i_crowd i_l0 (xfitMany + 1) j_steps_15 j_steps_15 m_fitPost m_fitEnd m_keptPosts i_x0], [zAr T 0 m_all 3952 f_all]]) [7, 3, 4, 0, 1, 2, 5, 6] rfl
                exact ih_16 (w + 1) r_39 (xfitMany + 1) j_steps_15 j_steps_15 j_steps_15 j_at_16 j_gone_17 g_posts_37 g_was_19 yfitPost xfitEnd xkeptPosts (show (w + 1) ≤ 16384 ∧ zMP g_posts_37 from ⟨by omega, (by first | with_reducible assumption | assumption)⟩) (show 16384 - (w + 1) < 16384 - w from by omega) _ _ ls G (lv_sub hl [0, 3, 1, 4, 5, 6] rfl)
            · have c_40n : ¬ xfitLeast.toInt = (-1 : Int) := fun q => c_40 ((fa_eq _ _).mpr q)
              refine lv_aload_n hx hb dX12_laysFits_116 rfl (lv_at hl 4 rfl) ?_
              refine z_get C G clX12 5 rfl 17 (by decide) m_fl_RX12_196 rfl dX12_laysFits_117 ?_
              refine lv_aload_n hx hb dX12_laysFits_120 rfl (lv_at hl 4 rfl) ?_
              refine z_get C G clX12 5 rfl 37 (by decide) m_fl_RX12_369 rfl dX12_laysFits_121 ?_
              refine lv_icmp_ge (tgt := 134) hx hb dX12_laysFits_124 (by decide) (fun c_42 => ?_) (fun c_42 => ?_)
              · have c_42n : xfitLeast.toInt ≤ j_steps_15.toInt := (fa_le _ _).mp c_42
                refine lv_aload_n hx hb dX12_laysFits_134 rfl (lv_at hl 4 rfl) ?_
                refine z_get C G clX12 5 rfl 37 (by decide) m_fl_RX12_369 rfl dX12_laysFits_135 ?_
                refine z_put C G clX12 5 rfl 37 (by decide) m_fl_RX12_369 rfl rfl rfl (Nat.le_of_ble_eq_true rfl) dX12_laysFits_138 (fun H locs G => ?_)
                have G : zS T A s.heap s [[zAr T 0 m_keptPosts 7 xkeptPosts], [zAr T 0 m_fitPost 28 yfitPost], [zAr T 0 m_fitEnd 49 xfitEnd], [zAr T 0 m_shut 7 f_shut], [zAr T 0 m_was 7 g_was_19], [zO11 mo m_all m_has i_size i_next i_where i_token i_number i_word i_wrong i_farCrossing m_read i_z0 i_crossings i_inns m_posts m_shut m_here j_steps_15 i_done j_at_16 j_gone_17 m_was m_came m_seenAt m_rowWorth m_farBy m_used i_everywhere i_again0 i_d0 i_never i_firstCame i_longRun i_moved i_crowd i_l0 xfitMany xfitLeast xfitMost m_fitPost m_fitEnd m_keptPosts i_x0], [zAr T 0 m_all 3952 f_all], [zAr T 0 m_posts 7 g_posts_37]] _ _ := G
                refine lv_aload_n hx hb dX12_laysFits_141 rfl (lv_at hl 4 rfl) ?_
                refine lv_aload_n hx hb dX12_laysFits_142 rfl (lv_at hl 4 rfl) ?_
                refine z_get C G clX12 5 rfl 17 (by decide) m_fl_RX12_196 rfl dX12_laysFits_143 ?_
                refine lv_aload_n hx hb dX12_laysFits_146 rfl (lv_at hl 4 rfl) ?_
                refine z_get C G clX12 5 rfl 38 (by decide) m_fl_RX12_372 rfl dX12_laysFits_147 ?_
                refine lv_icmp_le (tgt := 160) hx hb dX12_laysFits_150 (by decide) (fun c_43 => ?_) (fun c_43 => ?_)
                · have c_43n : j_steps_15.toInt ≤ xfitMost.toInt := (fa_le _ _).mp c_43
                  refine lv_aload_n hx hb dX12_laysFits_160 rfl (lv_at hl 4 rfl) ?_
                  refine z_get C G clX12 5 rfl 38 (by decide) m_fl_RX12_372 rfl dX12_laysFits_161 ?_
                  refine z_put C G clX12 5 rfl 38 (by decide) m_fl_RX12_372 rfl rfl rfl (Nat.le_of_ble_eq_true rfl) dX12_laysFits_164 (fun H locs G => ?_)
                  have G : zS T A s.heap s [[zAr T 0 m_keptPosts 7 xkeptPosts], [zAr T 0 m_fitPost 28 yfitPost], [zAr T 0 m_fitEnd 49 xfitEnd], [zAr T 0 m_shut 7 f_shut], [zAr T 0 m_was 7 g_was_19], [zO11 mo m_all m_has i_size i_next i_where i_token i_number i_word i_wrong i_farCrossing m_read i_z0 i_crossings i_inns m_posts m_shut m_here j_steps_15 i_done j_at_16 j_gone_17 m_was m_came m_seenAt m_rowWorth m_farBy m_used i_everywhere i_again0 i_d0 i_never i_firstCame i_longRun i_moved i_crowd i_l0 xfitMany xfitLeast xfitMost m_fitPost m_fitEnd m_keptPosts i_x0], [zAr T 0 m_all 3952 f_all], [zAr T 0 m_posts 7 g_posts_37]] _ _ := G
                  refine lv_aload_n hx hb dX12_laysFits_167 rfl (lv_at hl 4 rfl) ?_
                  refine lv_dup hx hb dX12_laysFits_168 rfl ?_
                  refine z_get C G clX12 5 rfl 36 (by decide) m_fl_RX12_366 rfl dX12_laysFits_169 ?_
                  refine lv_iconst (v := 1) hx hb dX12_laysFits_172 (by decide) ?_
                  refine lv_iadd hx hb dX12_laysFits_173 ?_
                  refine z_put C G clX12 5 rfl 36 (by decide) m_fl_RX12_366 rfl rfl rfl (Nat.le_of_ble_eq_true rfl) dX12_laysFits_174 (fun H locs G => ?_)
                  have G : zS T A s.heap s [[zAr T 0 m_keptPosts 7 xkeptPosts], [zAr T 0 m_fitPost 28 yfitPost], [zAr T 0 m_fitEnd 49 xfitEnd], [zAr T 0 m_shut 7 f_shut], [zAr T 0 m_was 7 g_was_19], [zO11 mo m_all m_has i_size i_next i_where i_token i_number i_word i_wrong i_farCrossing m_read i_z0 i_crossings i_inns m_posts m_shut m_here j_steps_15 i_done j_at_16 j_gone_17 m_was m_came m_seenAt m_rowWorth m_farBy m_used i_everywhere i_again0 i_d0 i_never i_firstCame i_longRun i_moved i_crowd i_l0 (xfitMany + 1) xfitLeast xfitMost m_fitPost m_fitEnd m_keptPosts i_x0], [zAr T 0 m_all 3952 f_all], [zAr T 0 m_posts 7 g_posts_37]] _ _ := G
                  refine lv_iinc (v := nI (w + 1)) (lv' := [(5, .int (nI (w + 1))), (3, .int r_39), (6, .int (nI t)), (4, .int r_9), (0, .ref mo), (1, .int s_), (2, .int e_)]) hx hb dX12_laysFits_177 hl (k := 2) rfl (z_inc w 1) (by decide) (zLvf_h rfl) (fun ls hl => ?_)
                  refine lv_goto (tgt := 16) hx hb dX12_laysFits_180 (by decide) ?_
                  have G := G.sub (bs' := [[zAr T 0 m_posts 7 g_posts_37], [zAr T 0 m_shut 7 f_shut], [zAr T 0 m_was 7 g_was_19], [zAr T 0 m_keptPosts 7 xkeptPosts], [zAr T 0 m_fitPost 28 yfitPost], [zAr T 0 m_fitEnd 49 xfitEnd], [zO11 mo m_all m_has i_size i_next i_where i_token i_number i_word i_wrong i_farCrossing m_read i_z0 i_crossings i_inns m_posts m_shut m_here j_steps_15 i_done j_at_16 j_gone_17 m_was m_came m_seenAt m_rowWorth m_farBy m_used i_everywhere i_again0 i_d0 i_never i_firstCame i_longRun i_moved i_crowd i_l0 (xfitMany + 1) xfitLeast xfitMost m_fitPost m_fitEnd m_keptPosts i_x0], [zAr T 0 m_all 3952 f_all]]) [7, 3, 4, 0, 1, 2, 5, 6] rfl
                  exact ih_16 (w + 1) r_39 (xfitMany + 1) xfitLeast xfitMost j_steps_15 j_at_16 j_gone_17 g_posts_37 g_was_19 yfitPost xfitEnd xkeptPosts (show (w + 1) ≤ 16384 ∧ zMP g_posts_37 from ⟨by omega, (by first | with_reducible assumption | assumption)⟩) (show 16384 - (w + 1) < 16384 - w from by omega) _ _ ls G (lv_sub hl [0, 3, 1, 4, 5, 6] rfl)
                · have c_43n : ¬ j_steps_15.toInt ≤ xfitMost.toInt := fun q => c_43 ((fa_le _ _).mpr q)
                  refine lv_aload_n hx hb dX12_laysFits_153 rfl (lv_at hl 4 rfl) ?_
                  refine z_get C G clX12 5 rfl 17 (by decide) m_fl_RX12_196 rfl dX12_laysFits_154 ?_
                  refine lv_goto (tgt := 164) hx hb dX12_laysFits_157 (by decide) ?_
                  refine z_put C G clX12 5 rfl 38 (by decide) m_fl_RX12_372 rfl rfl rfl (Nat.le_of_ble_eq_true rfl) dX12_laysFits_164 (fun H locs G => ?_)
                  have G : zS T A s.heap s [[zAr T 0 m_keptPosts 7 xkeptPosts], [zAr T 0 m_fitPost 28 yfitPost], [zAr T 0 m_fitEnd 49 xfitEnd], [zAr T 0 m_shut 7 f_shut], [zAr T 0 m_was 7 g_was_19], [zO11 mo m_all m_has i_size i_next i_where i_token i_number i_word i_wrong i_farCrossing m_read i_z0 i_crossings i_inns m_posts m_shut m_here j_steps_15 i_done j_at_16 j_gone_17 m_was m_came m_seenAt m_rowWorth m_farBy m_used i_everywhere i_again0 i_d0 i_never i_firstCame i_longRun i_moved i_crowd i_l0 xfitMany xfitLeast j_steps_15 m_fitPost m_fitEnd m_keptPosts i_x0], [zAr T 0 m_all 3952 f_all], [zAr T 0 m_posts 7 g_posts_37]] _ _ := G
                  refine lv_aload_n hx hb dX12_laysFits_167 rfl (lv_at hl 4 rfl) ?_
                  refine lv_dup hx hb dX12_laysFits_168 rfl ?_
                  refine z_get C G clX12 5 rfl 36 (by decide) m_fl_RX12_366 rfl dX12_laysFits_169 ?_
                  refine lv_iconst (v := 1) hx hb dX12_laysFits_172 (by decide) ?_
                  refine lv_iadd hx hb dX12_laysFits_173 ?_
                  refine z_put C G clX12 5 rfl 36 (by decide) m_fl_RX12_366 rfl rfl rfl (Nat.le_of_ble_eq_true rfl) dX12_laysFits_174 (fun H locs G => ?_)
                  have G : zS T A s.heap s [[zAr T 0 m_keptPosts 7 xkeptPosts], [zAr T 0 m_fitPost 28 yfitPost], [zAr T 0 m_fitEnd 49 xfitEnd], [zAr T 0 m_shut 7 f_shut], [zAr T 0 m_was 7 g_was_19], [zO11 mo m_all m_has i_size i_next i_where i_token i_number i_word i_wrong i_farCrossing m_read i_z0 i_crossings i_inns m_posts m_shut m_here j_steps_15 i_done j_at_16 j_gone_17 m_was m_came m_seenAt m_rowWorth m_farBy m_used i_everywhere i_again0 i_d0 i_never i_firstCame i_longRun i_moved i_crowd i_l0 (xfitMany + 1) xfitLeast j_steps_15 m_fitPost m_fitEnd m_keptPosts i_x0], [zAr T 0 m_all 3952 f_all], [zAr T 0 m_posts 7 g_posts_37]] _ _ := G
                  refine lv_iinc (v := nI (w + 1)) (lv' := [(5, .int (nI (w + 1))), (3, .int r_39), (6, .int (nI t)), (4, .int r_9), (0, .ref mo), (1, .int s_), (2, .int e_)]) hx hb dX12_laysFits_177 hl (k := 2) rfl (z_inc w 1) (by decide) (zLvf_h rfl) (fun ls hl => ?_)
                  refine lv_goto (tgt := 16) hx hb dX12_laysFits_180 (by decide) ?_
                  have G := G.sub (bs' := [[zAr T 0 m_posts 7 g_posts_37], [zAr T 0 m_shut 7 f_shut], [zAr T 0 m_was 7 g_was_19], [zAr T 0 m_keptPosts 7 xkeptPosts], [zAr T 0 m_fitPost 28 yfitPost], [zAr T 0 m_fitEnd 49 xfitEnd], [zO11 mo m_all m_has i_size i_next i_where i_token i_number i_word i_wrong i_farCrossing m_read i_z0 i_crossings i_inns m_posts m_shut m_here j_steps_15 i_done j_at_16 j_gone_17 m_was m_came m_seenAt m_rowWorth m_farBy m_used i_everywhere i_again0 i_d0 i_never i_firstCame i_longRun i_moved i_crowd i_l0 (xfitMany + 1) xfitLeast j_steps_15 m_fitPost m_fitEnd m_keptPosts i_x0], [zAr T 0 m_all 3952 f_all]]) [7, 3, 4, 0, 1, 2, 5, 6] rfl
                  exact ih_16 (w + 1) r_39 (xfitMany + 1) xfitLeast j_steps_15 j_steps_15 j_at_16 j_gone_17 g_posts_37 g_was_19 yfitPost xfitEnd xkeptPosts (show (w + 1) ≤ 16384 ∧ zMP g_posts_37 from ⟨by omega, (by first | with_reducible assumption | assumption)⟩) (show 16384 - (w + 1) < 16384 - w from by omega) _ _ ls G (lv_sub hl [0, 3, 1, 4, 5, 6] rfl)
              · have c_42n : ¬ xfitLeast.toInt ≤ j_steps_15.toInt := fun q => c_42 ((fa_le _ _).mpr q)
                refine lv_aload_n hx hb dX12_laysFits_127 rfl (lv_at hl 4 rfl) ?_
                refine z_get C G clX12 5 rfl 17 (by decide) m_fl_RX12_196 rfl dX12_laysFits_128 ?_
                refine lv_goto (tgt := 138) hx hb dX12_laysFits_131 (by decide) ?_
                refine z_put C G clX12 5 rfl 37 (by decide) m_fl_RX12_369 rfl rfl rfl (Nat.le_of_ble_eq_true rfl) dX12_laysFits_138 (fun H locs G => ?_)
                have G : zS T A s.heap s [[zAr T 0 m_keptPosts 7 xkeptPosts], [zAr T 0 m_fitPost 28 yfitPost], [zAr T 0 m_fitEnd 49 xfitEnd], [zAr T 0 m_shut 7 f_shut], [zAr T 0 m_was 7 g_was_19], [zO11 mo m_all m_has i_size i_next i_where i_token i_number i_word i_wrong i_farCrossing m_read i_z0 i_crossings i_inns m_posts m_shut m_here j_steps_15 i_done j_at_16 j_gone_17 m_was m_came m_seenAt m_rowWorth m_farBy m_used i_everywhere i_again0 i_d0 i_never i_firstCame i_longRun i_moved i_crowd i_l0 xfitMany j_steps_15 xfitMost m_fitPost m_fitEnd m_keptPosts i_x0], [zAr T 0 m_all 3952 f_all], [zAr T 0 m_posts 7 g_posts_37]] _ _ := G
                refine lv_aload_n hx hb dX12_laysFits_141 rfl (lv_at hl 4 rfl) ?_
                refine lv_aload_n hx hb dX12_laysFits_142 rfl (lv_at hl 4 rfl) ?_
                refine z_get C G clX12 5 rfl 17 (by decide) m_fl_RX12_196 rfl dX12_laysFits_143 ?_
                refine lv_aload_n hx hb dX12_laysFits_146 rfl (lv_at hl 4 rfl) ?_
                refine z_get C G clX12 5 rfl 38 (by decide) m_fl_RX12_372 rfl dX12_laysFits_147 ?_
                refine lv_icmp_le (tgt := 160) hx hb dX12_laysFits_150 (by decide) (fun c_44 => ?_) (fun c_44 => ?_)
                · have c_44n : j_steps_15.toInt ≤ xfitMost.toInt := (fa_le _ _).mp c_44
                  refine lv_aload_n hx hb dX12_laysFits_160 rfl (lv_at hl 4 rfl) ?_
                  refine z_get C G clX12 5 rfl 38 (by decide) m_fl_RX12_372 rfl dX12_laysFits_161 ?_
                  refine z_put C G clX12 5 rfl 38 (by decide) m_fl_RX12_372 rfl rfl rfl (Nat.le_of_ble_eq_true rfl) dX12_laysFits_164 (fun H locs G => ?_)
                  have G : zS T A s.heap s [[zAr T 0 m_keptPosts 7 xkeptPosts], [zAr T 0 m_fitPost 28 yfitPost], [zAr T 0 m_fitEnd 49 xfitEnd], [zAr T 0 m_shut 7 f_shut], [zAr T 0 m_was 7 g_was_19], [zO11 mo m_all m_has i_size i_next i_where i_token i_number i_word i_wrong i_farCrossing m_read i_z0 i_crossings i_inns m_posts m_shut m_here j_steps_15 i_done j_at_16 j_gone_17 m_was m_came m_seenAt m_rowWorth m_farBy m_used i_everywhere i_again0 i_d0 i_never i_firstCame i_longRun i_moved i_crowd i_l0 xfitMany j_steps_15 xfitMost m_fitPost m_fitEnd m_keptPosts i_x0], [zAr T 0 m_all 3952 f_all], [zAr T 0 m_posts 7 g_posts_37]] _ _ := G
                  refine lv_aload_n hx hb dX12_laysFits_167 rfl (lv_at hl 4 rfl) ?_
                  refine lv_dup hx hb dX12_laysFits_168 rfl ?_
                  refine z_get C G clX12 5 rfl 36 (by decide) m_fl_RX12_366 rfl dX12_laysFits_169 ?_
                  refine lv_iconst (v := 1) hx hb dX12_laysFits_172 (by decide) ?_
                  refine lv_iadd hx hb dX12_laysFits_173 ?_
                  refine z_put C G clX12 5 rfl 36 (by decide) m_fl_RX12_366 rfl rfl rfl (Nat.le_of_ble_eq_true rfl) dX12_laysFits_174 (fun H locs G => ?_)
                  have G : zS T A s.heap s [[zAr T 0 m_keptPosts 7 xkeptPosts], [zAr T 0 m_fitPost 28 yfitPost], [zAr T 0 m_fitEnd 49 xfitEnd], [zAr T 0 m_shut 7 f_shut], [zAr T 0 m_was 7 g_was_19], [zO11 mo m_all m_has i_size i_next i_where i_token i_number i_word i_wrong i_farCrossing m_read i_z0 i_crossings i_inns m_posts m_shut m_here j_steps_15 i_done j_at_16 j_gone_17 m_was m_came m_seenAt m_rowWorth m_farBy m_used i_everywhere i_again0 i_d0 i_never i_firstCame i_longRun i_moved i_crowd i_l0 (xfitMany + 1) j_steps_15 xfitMost m_fitPost m_fitEnd m_keptPosts i_x0], [zAr T 0 m_all 3952 f_all], [zAr T 0 m_posts 7 g_posts_37]] _ _ := G
                  refine lv_iinc (v := nI (w + 1)) (lv' := [(5, .int (nI (w + 1))), (3, .int r_39), (6, .int (nI t)), (4, .int r_9), (0, .ref mo), (1, .int s_), (2, .int e_)]) hx hb dX12_laysFits_177 hl (k := 2) rfl (z_inc w 1) (by decide) (zLvf_h rfl) (fun ls hl => ?_)
                  refine lv_goto (tgt := 16) hx hb dX12_laysFits_180 (by decide) ?_
                  have G := G.sub (bs' := [[zAr T 0 m_posts 7 g_posts_37], [zAr T 0 m_shut 7 f_shut], [zAr T 0 m_was 7 g_was_19], [zAr T 0 m_keptPosts 7 xkeptPosts], [zAr T 0 m_fitPost 28 yfitPost], [zAr T 0 m_fitEnd 49 xfitEnd], [zO11 mo m_all m_has i_size i_next i_where i_token i_number i_word i_wrong i_farCrossing m_read i_z0 i_crossings i_inns m_posts m_shut m_here j_steps_15 i_done j_at_16 j_gone_17 m_was m_came m_seenAt m_rowWorth m_farBy m_used i_everywhere i_again0 i_d0 i_never i_firstCame i_longRun i_moved i_crowd i_l0 (xfitMany + 1) j_steps_15 xfitMost m_fitPost m_fitEnd m_keptPosts i_x0], [zAr T 0 m_all 3952 f_all]]) [7, 3, 4, 0, 1, 2, 5, 6] rfl
                  exact ih_16 (w + 1) r_39 (xfitMany + 1) j_steps_15 xfitMost j_steps_15 j_at_16 j_gone_17 g_posts_37 g_was_19 yfitPost xfitEnd xkeptPosts (show (w + 1) ≤ 16384 ∧ zMP g_posts_37 from ⟨by omega, (by first | with_reducible assumption | assumption)⟩) (show 16384 - (w + 1) < 16384 - w from by omega) _ _ ls G (lv_sub hl [0, 3, 1, 4, 5, 6] rfl)
                · have c_44n : ¬ j_steps_15.toInt ≤ xfitMost.toInt := fun q => c_44 ((fa_le _ _).mpr q)
                  refine lv_aload_n hx hb dX12_laysFits_153 rfl (lv_at hl 4 rfl) ?_
                  refine z_get C G clX12 5 rfl 17 (by decide) m_fl_RX12_196 rfl dX12_laysFits_154 ?_
                  refine lv_goto (tgt := 164) hx hb dX12_laysFits_157 (by decide) ?_
                  refine z_put C G clX12 5 rfl 38 (by decide) m_fl_RX12_372 rfl rfl rfl (Nat.le_of_ble_eq_true rfl) dX12_laysFits_164 (fun H locs G => ?_)
                  have G : zS T A s.heap s [[zAr T 0 m_keptPosts 7 xkeptPosts], [zAr T 0 m_fitPost 28 yfitPost], [zAr T 0 m_fitEnd 49 xfitEnd], [zAr T 0 m_shut 7 f_shut], [zAr T 0 m_was 7 g_was_19], [zO11 mo m_all m_has i_size i_next i_where i_token i_number i_word i_wrong i_farCrossing m_read i_z0 i_crossings i_inns m_posts m_shut m_here j_steps_15 i_done j_at_16 j_gone_17 m_was m_came m_seenAt m_rowWorth m_farBy m_used i_everywhere i_again0 i_d0 i_never i_firstCame i_longRun i_moved i_crowd i_l0 xfitMany j_steps_15 j_steps_15 m_fitPost m_fitEnd m_keptPosts i_x0], [zAr T 0 m_all 3952 f_all], [zAr T 0 m_posts 7 g_posts_37]] _ _ := G
                  refine lv_aload_n hx hb dX12_laysFits_167 rfl (lv_at hl 4 rfl) ?_
                  refine lv_dup hx hb dX12_laysFits_168 rfl ?_
                  refine z_get C G clX12 5 rfl 36 (by decide) m_fl_RX12_366 rfl dX12_laysFits_169 ?_
                  refine lv_iconst (v := 1) hx hb dX12_laysFits_172 (by decide) ?_
                  refine lv_iadd hx hb dX12_laysFits_173 ?_
                  refine z_put C G clX12 5 rfl 36 (by decide) m_fl_RX12_366 rfl rfl rfl (Nat.le_of_ble_eq_true rfl) dX12_laysFits_174 (fun H locs G => ?_)
                  have G : zS T A s.heap s [[zAr T 0 m_keptPosts 7 xkeptPosts], [zAr T 0 m_fitPost 28 yfitPost], [zAr T 0 m_fitEnd 49 xfitEnd], [zAr T 0 m_shut 7 f_shut], [zAr T 0 m_was 7 g_was_19], [zO11 mo m_all m_has i_size i_next i_where i_token i_number i_word i_wrong i_farCrossing m_read i_z0 i_crossings i_inns m_posts m_shut m_here j_steps_15 i_done j_at_16 j_gone_17 m_was m_came m_seenAt m_rowWorth m_farBy m_used i_everywhere i_again0 i_d0 i_never i_firstCame i_longRun i_moved i_crowd i_l0 (xfitMany + 1) j_steps_15 j_steps_15 m_fitPost m_fitEnd m_keptPosts i_x0], [zAr T 0 m_all 3952 f_all], [zAr T 0 m_posts 7 g_posts_37]] _ _ := G
                  refine lv_iinc (v := nI (w + 1)) (lv' := [(5, .int (nI (w + 1))), (3, .int r_39), (6, .int (nI t)), (4, .int r_9), (0, .ref mo), (1, .int s_), (2, .int e_)]) hx hb dX12_laysFits_177 hl (k := 2) rfl (z_inc w 1) (by decide) (zLvf_h rfl) (fun ls hl => ?_)
                  refine lv_goto (tgt := 16) hx hb dX12_laysFits_180 (by decide) ?_
                  have G := G.sub (bs' := [[zAr T 0 m_posts 7 g_posts_37], [zAr T 0 m_shut 7 f_shut], [zAr T 0 m_was 7 g_was_19], [zAr T 0 m_keptPosts 7 xkeptPosts], [zAr T 0 m_fitPost 28 yfitPost], [zAr T 0 m_fitEnd 49 xfitEnd], [zO11 mo m_all m_has i_size i_next i_where i_token i_number i_word i_wrong i_farCrossing m_read i_z0 i_crossings i_inns m_posts m_shut m_here j_steps_15 i_done j_at_16 j_gone_17 m_was m_came m_seenAt m_rowWorth m_farBy m_used i_everywhere i_again0 i_d0 i_never i_firstCame i_longRun i_moved i_crowd i_l0 (xfitMany + 1) j_steps_15 j_steps_15 m_fitPost m_fitEnd m_keptPosts i_x0], [zAr T 0 m_all 3952 f_all]]) [7, 3, 4, 0, 1, 2, 5, 6] rfl
                  exact ih_16 (w + 1) r_39 (xfitMany + 1) j_steps_15 j_steps_15 j_steps_15 j_at_16 j_gone_17 g_posts_37 g_was_19 yfitPost xfitEnd xkeptPosts (show (w + 1) ≤ 16384 ∧ zMP g_posts_37 from ⟨by omega, (by first | with_reducible assumption | assumption)⟩) (show 16384 - (w + 1) < 16384 - w from by omega) _ _ ls G (lv_sub hl [0, 3, 1, 4, 5, 6] rfl)
        · have c_29n : ¬ i_crossings.toInt ≤ (t : Int) := fun q => c_29 ((fa_le _ _).mpr (by rw [nI_toInt (n := t) (by omega)]; exact q))
          refine lv_aload_n hx hb dX12_laysFits_65 rfl (lv_at hl 4 rfl) ?_
          refine z_get C G clX12 5 rfl 39 (by decide) m_fl_RX12_47 rfl dX12_laysFits_66 ?_
          refine lv_iconst (v := 4) hx hb dX12_laysFits_69 (by decide) ?_
          refine lv_iload hx hb dX12_laysFits_70 (lv_at hl 0 rfl) ?_
          refine lv_imul hx hb dX12_laysFits_72 ?_
          refine lv_topi (fun y_45 ey_45 => ?_)
          obtain rfl : y_45 = nI (4 * t) := ey_45.trans (z_imuln 4 t rfl rfl)
          refine lv_aload_n hx hb dX12_laysFits_73 rfl (lv_at hl 4 rfl) ?_
          refine z_get C G clX12 5 rfl 14 (by decide) m_fl_RX12_20 rfl dX12_laysFits_74 ?_
          refine lv_iload hx hb dX12_laysFits_77 (lv_at hl 0 rfl) ?_
          have hpt := (show zMP g_posts_26 by first | with_reducible assumption | assumption) t (by omega)
          refine z_ild C G 7 rfl (vp_in_nI (by omega) (by decide)) dX12_laysFits_79 ?_
          refine lv_topi (fun v_46 ev_46 => ?_)
          rw [nI_clamp (by omega)] at ev_46
          subst ev_46
          refine lv_iadd hx hb dX12_laysFits_80 ?_
          refine lv_topi (fun y_47 ey_47 => ?_)
          have ey_47i : y_47.toInt = ((4 * t) : Int) + (g_posts_26 t).toInt := by rw [ey_47]; exact (z_iaddI (x := (nI (4 * t))) (y := (g_posts_26 t)) (by rw [nI_toInt (n := 4 * t) (by omega)]; show -2147483648 ≤ ((4 * t) : Int) + (g_posts_26 t).toInt; omega) (by rw [nI_toInt (n := 4 * t) (by omega)]; show ((4 * t) : Int) + (g_posts_26 t).toInt < 2147483648; omega)).trans (by rw [nI_toInt (n := 4 * t) (by omega)] <;> rfl)
          refine lv_dup2_11 hx hb dX12_laysFits_81 rfl rfl ?_
          refine z_ild C G 1 rfl (vp_in_iff.mpr ⟨by omega, by omega⟩) dX12_laysFits_82 ?_
          refine lv_topi (fun v_48 ev_48 => ?_)
          subst ev_48
          refine lv_iconst (v := 1) hx hb dX12_laysFits_83 (by decide) ?_
          refine lv_iadd hx hb dX12_laysFits_84 ?_
          refine z_ist C G 1 rfl (vp_in_iff.mpr ⟨by omega, by omega⟩) dX12_laysFits_85 (fun H locs G => ?_)
          have G : zS T A s.heap s [[zAr T 0 m_keptPosts 7 xkeptPosts], [zAr T 0 m_fitPost 28 (upd yfitPost y_47.toNatClampNeg ((yfitPost y_47.toNatClampNeg) + 1))], [zAr T 0 m_fitEnd 49 xfitEnd], [zAr T 0 m_shut 7 f_shut], [zAr T 0 m_was 7 g_was_19], [zO11 mo m_all m_has i_size i_next i_where i_token i_number i_word i_wrong i_farCrossing m_read i_z0 i_crossings i_inns m_posts m_shut m_here j_steps_15 i_done j_at_16 j_gone_17 m_was m_came m_seenAt m_rowWorth m_farBy m_used i_everywhere i_again0 i_d0 i_never i_firstCame i_longRun i_moved i_crowd i_l0 xfitMany xfitLeast xfitMost m_fitPost m_fitEnd m_keptPosts i_x0], [zAr T 0 m_all 3952 f_all], [zAr T 0 m_posts 7 g_posts_26]] _ _ := G
          refine lv_iinc (v := nI (t + 1)) (lv' := [(6, .int (nI (t + 1))), (5, .int (nI w)), (4, .int r_9), (3, .int u), (0, .ref mo), (1, .int s_), (2, .int e_)]) hx hb dX12_laysFits_86 hl (k := 0) rfl (z_inc t 1) (by decide) (zLvf_h rfl) (fun ls hl => ?_)
          refine lv_goto (tgt := 56) hx hb dX12_laysFits_89 (by decide) ?_
          exact ih_56 (t + 1) (upd yfitPost y_47.toNatClampNeg ((yfitPost y_47.toNatClampNeg) + 1)) (show (t + 1) ≤ 7 from by omega) (show 7 - (t + 1) < 7 - t from by omega) _ _ ls G (lv_sub hl [0, 1, 2, 3, 4, 5, 6] rfl)
      · have c_24n : ¬ e_.toInt = (0 : Int) := fun q => c_24 ((fa_eq _ _).mpr q)
        refine lv_aload_n hx hb dX12_laysFits_43 rfl (lv_at hl 3 rfl) ?_
        refine z_Vv (bc := [[zO11 mo m_all m_has i_size i_next i_where i_token i_number i_word i_wrong i_farCrossing m_read i_z0 i_crossings i_inns m_posts m_shut m_here j_steps_15 i_done j_at_16 j_gone_17 m_was m_came m_seenAt m_rowWorth m_farBy m_used i_everywhere i_again0 i_d0 i_never i_firstCame i_longRun i_moved i_crowd i_l0 xfitMany xfitLeast xfitMost m_fitPost m_fitEnd m_keptPosts i_x0], [zAr T 0 m_all 3952 f_all], [zAr T 0 m_posts 7 g_posts_18], [zAr T 0 m_shut 7 f_shut], [zAr T 0 m_was 7 g_was_19], [zAr T 0 m_fitEnd 49 xfitEnd], [zAr T 0 m_keptPosts 7 xkeptPosts]]) (br := [[zAr T 0 m_fitPost 28 xfitPost]]) (As := []) (rest := []) C G (c_m_laysEnds l T mo m_all m_has i_size i_next i_where i_token i_number i_word i_wrong i_farCrossing m_read i_z0 i_crossings i_inns m_posts m_shut m_here j_steps_15 i_done j_at_16 j_gone_17 m_was m_came m_seenAt m_rowWorth m_farBy m_used i_everywhere i_again0 i_d0 i_never i_firstCame i_longRun i_moved i_crowd i_l0 xfitMany xfitLeast xfitMost m_fitPost m_fitEnd m_keptPosts i_x0 f_all g_posts_18 f_shut g_was_19 xfitEnd xkeptPosts (by first | with_reducible assumption | with_reducible rfl | omega | assumption | rfl | decide) (by first | with_reducible assumption | with_reducible rfl | omega | assumption | rfl | decide)) (kV_RX12_381 C.2.2.2.2 (Nat.le_of_ble_eq_true rfl) (Nat.le_of_ble_eq_true rfl)) [3, 4, 5, 6, 7, 2, 0] [0, 1, 0, 0, 0, 0, 0] rfl rfl (ci := 11) (qc := (RX12, TX12, 43)) rfl rfl (List.mem_flatten.mpr ⟨_, List.mem_of_getElem? (i := 0) rfl, List.mem_cons_self⟩) rfl rfl hl.1 dX12_laysFits_44 (Nat.le_of_ble_eq_true rfl) (Nat.le_of_ble_eq_true rfl) (fun b1 H locs hw G => ?_)
        refine zEx6 hw ?_
        intro j_at_49 j_gone_50 g_posts_51 g_was_52 g_fitEnd_53 g_keptPosts_54
        refine zCu2 ?_
        intro hbs9 h_55
        clear hw
        subst hbs9
        have G : zS T A s.heap s [[zAr T 0 m_fitPost 28 xfitPost], [zO11 mo m_all m_has i_size i_next i_where i_token i_number i_word i_wrong i_farCrossing m_read i_z0 i_crossings i_inns m_posts m_shut m_here j_steps_15 i_done j_at_49 j_gone_50 m_was m_came m_seenAt m_rowWorth m_farBy m_used i_everywhere i_again0 i_d0 i_never i_firstCame i_longRun i_moved i_crowd i_l0 xfitMany xfitLeast xfitMost m_fitPost m_fitEnd m_keptPosts i_x0], [zAr T 0 m_all 3952 f_all], [zAr T 0 m_posts 7 g_posts_51], [zAr T 0 m_shut 7 f_shut], [zAr T 0 m_was 7 g_was_52], [zAr T 0 m_fitEnd 49 g_fitEnd_53], [zAr T 0 m_keptPosts 7 g_keptPosts_54]] _ _ := G
        refine lv_aload_n hx hb dX12_laysFits_47 rfl (lv_at hl 3 rfl) ?_
        refine lv_iload hx hb dX12_laysFits_48 (lv_at hl 0 rfl) ?_
        have ti_57 : (nI w).toInt = ((w : Nat) : Int) := nI_toInt (by omega)
        refine z_Vv (bc := [[zO11 mo m_all m_has i_size i_next i_where i_token i_number i_word i_wrong i_farCrossing m_read i_z0 i_crossings i_inns m_posts m_shut m_here j_steps_15 i_done j_at_49 j_gone_50 m_was m_came m_seenAt m_rowWorth m_farBy m_used i_everywhere i_again0 i_d0 i_never i_firstCame i_longRun i_moved i_crowd i_l0 xfitMany xfitLeast xfitMost m_fitPost m_fitEnd m_keptPosts i_x0], [zAr T 0 m_all 3952 f_all], [zAr T 0 m_posts 7 g_posts_51]]) (br := [[zAr T 0 m_fitPost 28 xfitPost], [zAr T 0 m_shut 7 f_shut], [zAr T 0 m_was 7 g_was_52], [zAr T 0 m_fitEnd 49 g_fitEnd_53], [zAr T 0 m_keptPosts 7 g_keptPosts_54]]) (As := [.int (nI w)]) (rest := []) C G (c_m_setsWay l T mo m_all m_has i_size i_next i_where i_token i_number i_word i_wrong i_farCrossing m_read i_z0 i_crossings i_inns m_posts m_shut m_here j_steps_15 i_done j_at_49 j_gone_50 m_was m_came m_seenAt m_rowWorth m_farBy m_used i_everywhere i_again0 i_d0 i_never i_firstCame i_longRun i_moved i_crowd i_l0 xfitMany xfitLeast xfitMost m_fitPost m_fitEnd m_keptPosts i_x0 f_all g_posts_51 (nI w) (by first | with_reducible assumption | with_reducible rfl | omega | assumption | rfl | decide) (by first | with_reducible assumption | with_reducible rfl | omega | assumption | rfl | decide) (by first | with_reducible assumption | with_reducible rfl | omega | assumption | rfl | decide)) (kV_RX12_226 C.2.2.2.2 (Nat.le_of_ble_eq_true rfl) (Nat.le_of_ble_eq_true rfl)) [1, 2, 3] [1, 0, 0] rfl rfl (ci := 11) (qc := (RX12, TX12, 43)) rfl rfl (List.mem_flatten.mpr ⟨_, List.mem_of_getElem? (i := 0) rfl, List.mem_cons_self⟩) rfl rfl hl.1 dX12_laysFits_50 (Nat.le_of_ble_eq_true rfl) (Nat.le_of_ble_eq_true rfl) (fun b1 H locs hw G => ?_)
        refine zEx1 hw ?_
        intro g_posts_58
        refine zCu2 ?_
        intro hbs9 h_59
        clear hw
        subst hbs9
        have G : zS T A s.heap s [[zAr T 0 m_fitPost 28 xfitPost], [zAr T 0 m_shut 7 f_shut], [zAr T 0 m_was 7 g_was_52], [zAr T 0 m_fitEnd 49 g_fitEnd_53], [zAr T 0 m_keptPosts 7 g_keptPosts_54], [zO11 mo m_all m_has i_size i_next i_where i_token i_number i_word i_wrong i_farCrossing m_read i_z0 i_crossings i_inns m_posts m_shut m_here j_steps_15 i_done j_at_49 j_gone_50 m_was m_came m_seenAt m_rowWorth m_farBy m_used i_everywhere i_again0 i_d0 i_never i_firstCame i_longRun i_moved i_crowd i_l0 xfitMany xfitLeast xfitMost m_fitPost m_fitEnd m_keptPosts i_x0], [zAr T 0 m_all 3952 f_all], [zAr T 0 m_posts 7 g_posts_58]] _ _ := G
        refine lv_iconst (v := 0) hx hb dX12_laysFits_53 (by decide) ?_
        refine lv_istore (lv' := [(6, .int 0), (5, .int (nI w)), (4, .int r_9), (3, .int u), (0, .ref mo), (1, .int s_), (2, .int e_)]) hx hb dX12_laysFits_54 hl (by decide) (zLvf_h rfl) (fun ls hl => ?_)
        refine z_lp2 (T := T) 56 (fun (t : Nat) (yfitPost : Nat → Int32) => [[zAr T 0 m_fitPost 28 yfitPost], [zAr T 0 m_shut 7 f_shut], [zAr T 0 m_was 7 g_was_52], [zAr T 0 m_fitEnd 49 g_fitEnd_53], [zAr T 0 m_keptPosts 7 g_keptPosts_54], [zO11 mo m_all m_has i_size i_next i_where i_token i_number i_word i_wrong i_farCrossing m_read i_z0 i_crossings i_inns m_posts m_shut m_here j_steps_15 i_done j_at_49 j_gone_50 m_was m_came m_seenAt m_rowWorth m_farBy m_used i_everywhere i_again0 i_d0 i_never i_firstCame i_longRun i_moved i_crowd i_l0 xfitMany xfitLeast xfitMost m_fitPost m_fitEnd m_keptPosts i_x0], [zAr T 0 m_all 3952 f_all], [zAr T 0 m_posts 7 g_posts_58]]) (fun (t : Nat) (yfitPost : Nat → Int32) => [(6, .int (nI t)), (5, .int (nI w)), (4, .int r_9), (3, .int u), (0, .ref mo), (1, .int s_), (2, .int e_)]) (fun (t : Nat) (yfitPost : Nat → Int32) => t ≤ 7) (fun (t : Nat) (yfitPost : Nat → Int32) => 7 - t) ?_ 0 xfitPost (show 0 ≤ 7 from by omega) G (lv_sub hl [0, 1, 2, 3, 4, 5, 6] rfl)
        intro t yfitPost ht ih_56 H locs ls G hl
        replace ht : t ≤ 7 := ht
        replace G : zS T A s.heap s [[zAr T 0 m_fitPost 28 yfitPost], [zAr T 0 m_shut 7 f_shut], [zAr T 0 m_was 7 g_was_52], [zAr T 0 m_fitEnd 49 g_fitEnd_53], [zAr T 0 m_keptPosts 7 g_keptPosts_54], [zO11 mo m_all m_has i_size i_next i_where i_token i_number i_word i_wrong i_farCrossing m_read i_z0 i_crossings i_inns m_posts m_shut m_here j_steps_15 i_done j_at_49 j_gone_50 m_was m_came m_seenAt m_rowWorth m_farBy m_used i_everywhere i_again0 i_d0 i_never i_firstCame i_longRun i_moved i_crowd i_l0 xfitMany xfitLeast xfitMost m_fitPost m_fitEnd m_keptPosts i_x0], [zAr T 0 m_all 3952 f_all], [zAr T 0 m_posts 7 g_posts_58]] _ _ := G
        replace hl : lv_has ls 7 [(6, .int (nI t)), (5, .int (nI w)), (4, .int r_9), (3, .int u), (0, .ref mo), (1, .int s_), (2, .int e_)] := hl
        refine lv_iload hx hb dX12_laysFits_56 (lv_at hl 0 rfl) ?_
        refine lv_aload_n hx hb dX12_laysFits_58 rfl (lv_at hl 4 rfl) ?_
        refine z_get C G clX12 5 rfl 12 (by decide) m_fl_RX12_169 rfl dX12_laysFits_59 ?_
        refine lv_icmp_ge (tgt := 92) hx hb dX12_laysFits_62 (by decide) (fun c_61 => ?_) (fun c_61 => ?_)
        · have c_61n : i_crossings.toInt ≤ (t : Int) := by have q := (fa_le _ _).mp c_61; rw [nI_toInt (n := t) (by omega)] at q; exact q
          refine lv_aload_n hx hb dX12_laysFits_92 rfl (lv_at hl 4 rfl) ?_
          refine z_get C G clX12 5 rfl 36 (by decide) m_fl_RX12_366 rfl dX12_laysFits_93 ?_
          refine lv_iload_n hx hb dX12_laysFits_96 rfl (lv_at hl 5 rfl) ?_
          refine lv_icmp_ne (tgt := 107) hx hb dX12_laysFits_97 (by decide) (fun c_62 => ?_) (fun c_62 => ?_)
          · have c_62n : ¬ xfitMany.toInt = s_.toInt := fun q => c_62 ((fa_eq _ _).mpr q)
            refine lv_aload_n hx hb dX12_laysFits_107 rfl (lv_at hl 4 rfl) ?_
            refine lv_aload_n hx hb dX12_laysFits_108 rfl (lv_at hl 4 rfl) ?_
            refine z_get C G clX12 5 rfl 37 (by decide) m_fl_RX12_369 rfl dX12_laysFits_109 ?_
            refine lv_iconst (v := (-1)) hx hb dX12_laysFits_112 (by decide) ?_
            refine lv_icmp_eq (tgt := 127) hx hb dX12_laysFits_113 (by decide) (fun c_63 => ?_) (fun c_63 => ?_)
            · have c_63n : xfitLeast.toInt = (-1 : Int) := (fa_eq _ _).mp c_63
              refine lv_aload_n hx hb dX12_laysFits_127 rfl (lv_at hl 4 rfl) ?_
              refine z_get C G clX12 5 rfl 17 (by decide) m_fl_RX12_196 rfl dX12_laysFits_128 ?_
              refine lv_goto (tgt := 138) hx hb dX12_laysFits_131 (by decide) ?_
              refine z_put C G clX12 5 rfl 37 (by decide) m_fl_RX12_369 rfl rfl rfl (Nat.le_of_ble_eq_true rfl) dX12_laysFits_138 (fun H locs G => ?_)
              have G : zS T A s.heap s [[zAr T 0 m_fitPost 28 yfitPost], [zAr T 0 m_shut 7 f_shut], [zAr T 0 m_was 7 g_was_52], [zAr T 0 m_fitEnd 49 g_fitEnd_53], [zAr T 0 m_keptPosts 7 g_keptPosts_54], [zO11 mo m_all m_has i_size i_next i_where i_token i_number i_word i_wrong i_farCrossing m_read i_z0 i_crossings i_inns m_posts m_shut m_here j_steps_15 i_done j_at_49 j_gone_50 m_was m_came m_seenAt m_rowWorth m_farBy m_used i_everywhere i_again0 i_d0 i_never i_firstCame i_longRun i_moved i_crowd i_l0 xfitMany j_steps_15 xfitMost m_fitPost m_fitEnd m_keptPosts i_x0], [zAr T 0 m_all 3952 f_all], [zAr T 0 m_posts 7 g_posts_58]] _ _ := G
              refine lv_aload_n hx hb dX12_laysFits_141 rfl (lv_at hl 4 rfl) ?_
              refine lv_aload_n hx hb dX12_laysFits_142 rfl (lv_at hl 4 rfl) ?_
              refine z_get C G clX12 5 rfl 17 (by decide) m_fl_RX12_196 rfl dX12_laysFits_143 ?_
              refine lv_aload_n hx hb dX12_laysFits_146 rfl (lv_at hl 4 rfl) ?_
              refine z_get C G clX12 5 rfl 38 (by decide) m_fl_RX12_372 rfl dX12_laysFits_147 ?_
              refine lv_icmp_le (tgt := 160) hx hb dX12_laysFits_150 (by decide) (fun c_64 => ?_) (fun c_64 => ?_)
              · have c_64n : j_steps_15.toInt ≤ xfitMost.toInt := (fa_le _ _).mp c_64
                refine lv_aload_n hx hb dX12_laysFits_160 rfl (lv_at hl 4 rfl) ?_
                refine z_get C G clX12 5 rfl 38 (by decide) m_fl_RX12_372 rfl dX12_laysFits_161 ?_
                refine z_put C G clX12 5 rfl 38 (by decide) m_fl_RX12_372 rfl rfl rfl (Nat.le_of_ble_eq_true rfl) dX12_laysFits_164 (fun H locs G => ?_)
                have G : zS T A s.heap s [[zAr T 0 m_fitPost 28 yfitPost], [zAr T 0 m_shut 7 f_shut], [zAr T 0 m_was 7 g_was_52], [zAr T 0 m_fitEnd 49 g_fitEnd_53], [zAr T 0 m_keptPosts 7 g_keptPosts_54], [zO11 mo m_all m_has i_size i_next i_where i_token i_number i_word i_wrong i_farCrossing m_read i_z0 i_crossings i_inns m_posts m_shut m_here j_steps_15 i_done j_at_49 j_gone_50 m_was m_came m_seenAt m_rowWorth m_farBy m_used i_everywhere i_again0 i_d0 i_never i_firstCame i_longRun i_moved i_crowd i_l0 xfitMany j_steps_15 xfitMost m_fitPost m_fitEnd m_keptPosts i_x0], [zAr T 0 m_all 3952 f_all], [zAr T 0 m_posts 7 g_posts_58]] _ _ := G
                refine lv_aload_n hx hb dX12_laysFits_167 rfl (lv_at hl 4 rfl) ?_
                refine lv_dup hx hb dX12_laysFits_168 rfl ?_
                refine z_get C G clX12 5 rfl 36 (by decide) m_fl_RX12_366 rfl dX12_laysFits_169 ?_
                refine lv_iconst (v := 1) hx hb dX12_laysFits_172 (by decide) ?_
                refine lv_iadd hx hb dX12_laysFits_173 ?_
                refine z_put C G clX12 5 rfl 36 (by decide) m_fl_RX12_366 rfl rfl rfl (Nat.le_of_ble_eq_true rfl) dX12_laysFits_174 (fun H locs G => ?_)
                have G : zS T A s.heap s [[zAr T 0 m_fitPost 28 yfitPost], [zAr T 0 m_shut 7 f_shut], [zAr T 0 m_was 7 g_was_52], [zAr T 0 m_fitEnd 49 g_fitEnd_53], [zAr T 0 m_keptPosts 7 g_keptPosts_54], [zO11 mo m_all m_has i_size i_next i_where i_token i_number i_word i_wrong i_farCrossing m_read i_z0 i_crossings i_inns m_posts m_shut m_here j_steps_15 i_done j_at_49 j_gone_50 m_was m_came m_seenAt m_rowWorth m_farBy m_used i_everywhere i_again0 i_d0 i_never i_firstCame i_longRun i_moved i_crowd i_l0 (xfitMany + 1) j_steps_15 xfitMost m_fitPost m_fitEnd m_keptPosts i_x0], [zAr T 0 m_all 3952 f_all], [zAr T 0 m_posts 7 g_posts_58]] _ _ := G
                refine lv_iinc (v := nI (w + 1)) (lv' := [(5, .int (nI (w + 1))), (6, .int (nI t)), (4, .int r_9), (3, .int u), (0, .ref mo), (1, .int s_), (2, .int e_)]) hx hb dX12_laysFits_177 hl (k := 1) rfl (z_inc w 1) (by decide) (zLvf_h rfl) (fun ls hl => ?_)
                refine lv_goto (tgt := 16) hx hb dX12_laysFits_180 (by decide) ?_
                have G := G.sub (bs' := [[zAr T 0 m_posts 7 g_posts_58], [zAr T 0 m_shut 7 f_shut], [zAr T 0 m_was 7 g_was_52], [zAr T 0 m_keptPosts 7 g_keptPosts_54], [zAr T 0 m_fitPost 28 yfitPost], [zAr T 0 m_fitEnd 49 g_fitEnd_53], [zO11 mo m_all m_has i_size i_next i_where i_token i_number i_word i_wrong i_farCrossing m_read i_z0 i_crossings i_inns m_posts m_shut m_here j_steps_15 i_done j_at_49 j_gone_50 m_was m_came m_seenAt m_rowWorth m_farBy m_used i_everywhere i_again0 i_d0 i_never i_firstCame i_longRun i_moved i_crowd i_l0 (xfitMany + 1) j_steps_15 xfitMost m_fitPost m_fitEnd m_keptPosts i_x0], [zAr T 0 m_all 3952 f_all]]) [7, 1, 2, 4, 0, 3, 5, 6] rfl
                exact ih_16 (w + 1) u (xfitMany + 1) j_steps_15 xfitMost j_steps_15 j_at_49 j_gone_50 g_posts_58 g_was_52 yfitPost g_fitEnd_53 g_keptPosts_54 (show (w + 1) ≤ 16384 ∧ zMP g_posts_58 from ⟨by omega, (by first | with_reducible assumption | assumption)⟩) (show 16384 - (w + 1) < 16384 - w from by omega) _ _ ls G (lv_sub hl [0, 2, 3, 4, 5, 6] rfl)
              · have c_64n : ¬ j_steps_15.toInt ≤ xfitMost.toInt := fun q => c_64 ((fa_le _ _).mpr q)
                refine lv_aload_n hx hb dX12_laysFits_153 rfl (lv_at hl 4 rfl) ?_
                refine z_get C G clX12 5 rfl 17 (by decide) m_fl_RX12_196 rfl dX12_laysFits_154 ?_
                refine lv_goto (tgt := 164) hx hb dX12_laysFits_157 (by decide) ?_
                refine z_put C G clX12 5 rfl 38 (by decide) m_fl_RX12_372 rfl rfl rfl (Nat.le_of_ble_eq_true rfl) dX12_laysFits_164 (fun H locs G => ?_)
                have G : zS T A s.heap s [[zAr T 0 m_fitPost 28 yfitPost], [zAr T 0 m_shut 7 f_shut], [zAr T 0 m_was 7 g_was_52], [zAr T 0 m_fitEnd 49 g_fitEnd_53], [zAr T 0 m_keptPosts 7 g_keptPosts_54], [zO11 mo m_all m_has i_size i_next i_where i_token i_number i_word i_wrong i_farCrossing m_read i_z0 i_crossings i_inns m_posts m_shut m_here j_steps_15 i_done j_at_49 j_gone_50 m_was m_came m_seenAt m_rowWorth m_farBy m_used i_everywhere i_again0 i_d0 i_never i_firstCame i_longRun i_moved i_crowd i_l0 xfitMany j_steps_15 j_steps_15 m_fitPost m_fitEnd m_keptPosts i_x0], [zAr T 0 m_all 3952 f_all], [zAr T 0 m_posts 7 g_posts_58]] _ _ := G
                refine lv_aload_n hx hb dX12_laysFits_167 rfl (lv_at hl 4 rfl) ?_
                refine lv_dup hx hb dX12_laysFits_168 rfl ?_
                refine z_get C G clX12 5 rfl 36 (by decide) m_fl_RX12_366 rfl dX12_laysFits_169 ?_
                refine lv_iconst (v := 1) hx hb dX12_laysFits_172 (by decide) ?_
                refine lv_iadd hx hb dX12_laysFits_173 ?_
                refine z_put C G clX12 5 rfl 36 (by decide) m_fl_RX12_366 rfl rfl rfl (Nat.le_of_ble_eq_true rfl) dX12_laysFits_174 (fun H locs G => ?_)
                have G : zS T A s.heap s [[zAr T 0 m_fitPost 28 yfitPost], [zAr T 0 m_shut 7 f_shut], [zAr T 0 m_was 7 g_was_52], [zAr T 0 m_fitEnd 49 g_fitEnd_53], [zAr T 0 m_keptPosts 7 g_keptPosts_54], [zO11 mo m_all m_has i_size i_next i_where i_token i_number i_word i_wrong i_farCrossing m_read i_z0 i_crossings i_inns m_posts m_shut m_here j_steps_15 i_done j_at_49 j_gone_50 m_was m_came m_seenAt m_rowWorth m_farBy m_used i_everywhere i_again0 i_d0 i_never i_firstCame i_longRun i_moved i_crowd i_l0 (xfitMany + 1) j_steps_15 j_steps_15 m_fitPost m_fitEnd m_keptPosts i_x0], [zAr T 0 m_all 3952 f_all], [zAr T 0 m_posts 7 g_posts_58]] _ _ := G
                refine lv_iinc (v := nI (w + 1)) (lv' := [(5, .int (nI (w + 1))), (6, .int (nI t)), (4, .int r_9), (3, .int u), (0, .ref mo), (1, .int s_), (2, .int e_)]) hx hb dX12_laysFits_177 hl (k := 1) rfl (z_inc w 1) (by decide) (zLvf_h rfl) (fun ls hl => ?_)
                refine lv_goto (tgt := 16) hx hb dX12_laysFits_180 (by decide) ?_
                have G := G.sub (bs' := [[zAr T 0 m_posts 7 g_posts_58], [zAr T 0 m_shut 7 f_shut], [zAr T 0 m_was 7 g_was_52], [zAr T 0 m_keptPosts 7 g_keptPosts_54], [zAr T 0 m_fitPost 28 yfitPost], [zAr T 0 m_fitEnd 49 g_fitEnd_53], [zO11 mo m_all m_has i_size i_next i_where i_token i_number i_word i_wrong i_farCrossing m_read i_z0 i_crossings i_inns m_posts m_shut m_here j_steps_15 i_done j_at_49 j_gone_50 m_was m_came m_seenAt m_rowWorth m_farBy m_used i_everywhere i_again0 i_d0 i_never i_firstCame i_longRun i_moved i_crowd i_l0 (xfitMany + 1) j_steps_15 j_steps_15 m_fitPost m_fitEnd m_keptPosts i_x0], [zAr T 0 m_all 3952 f_all]]) [7, 1, 2, 4, 0, 3, 5, 6] rfl
                exact ih_16 (w + 1) u (xfitMany + 1) j_steps_15 j_steps_15 j_steps_15 j_at_49 j_gone_50 g_posts_58 g_was_52 yfitPost g_fitEnd_53 g_keptPosts_54 (show (w + 1) ≤ 16384 ∧ zMP g_posts_58 from ⟨by omega, (by first | with_reducible assumption | assumption)⟩) (show 16384 - (w + 1) < 16384 - w from by omega) _ _ ls G (lv_sub hl [0, 2, 3, 4, 5, 6] rfl)
            · have c_63n : ¬ xfitLeast.toInt = (-1 : Int) := fun q => c_63 ((fa_eq _ _).mpr q)
              refine lv_aload_n hx hb dX12_laysFits_116 rfl (lv_at hl 4 rfl) ?_
              refine z_get C G clX12 5 rfl 17 (by decide) m_fl_RX12_196 rfl dX12_laysFits_117 ?_
              refine lv_aload_n hx hb dX12_laysFits_120 rfl (lv_at hl 4 rfl) ?_
              refine z_get C G clX12 5 rfl 37 (by decide) m_fl_RX12_369 rfl dX12_laysFits_121 ?_
              refine lv_icmp_ge (tgt := 134) hx hb dX12_laysFits_124 (by decide) (fun c_65 => ?_) (fun c_65 => ?_)
              · have c_65n : xfitLeast.toInt ≤ j_steps_15.toInt := (fa_le _ _).mp c_65
                refine lv_aload_n hx hb dX12_laysFits_134 rfl (lv_at hl 4 rfl) ?_
                refine z_get C G clX12 5 rfl 37 (by decide) m_fl_RX12_369 rfl dX12_laysFits_135 ?_
                refine z_put C G clX12 5 rfl 37 (by decide) m_fl_RX12_369 rfl rfl rfl (Nat.le_of_ble_eq_true rfl) dX12_laysFits_138 (fun H locs G => ?_)
                have G : zS T A s.heap s [[zAr T 0 m_fitPost 28 yfitPost], [zAr T 0 m_shut 7 f_shut], [zAr T 0 m_was 7 g_was_52], [zAr T 0 m_fitEnd 49 g_fitEnd_53], [zAr T 0 m_keptPosts 7 g_keptPosts_54], [zO11 mo m_all m_has i_size i_next i_where i_token i_number i_word i_wrong i_farCrossing m_read i_z0 i_crossings i_inns m_posts m_shut m_here j_steps_15 i_done j_at_49 j_gone_50 m_was m_came m_seenAt m_rowWorth m_farBy m_used i_everywhere i_again0 i_d0 i_never i_firstCame i_longRun i_moved i_crowd i_l0 xfitMany xfitLeast xfitMost m_fitPost m_fitEnd m_keptPosts i_x0], [zAr T 0 m_all 3952 f_all], [zAr T 0 m_posts 7 g_posts_58]] _ _ := G
                refine lv_aload_n hx hb dX12_laysFits_141 rfl (lv_at hl 4 rfl) ?_
                refine lv_aload_n hx hb dX12_laysFits_142 rfl (lv_at hl 4 rfl) ?_
                refine z_get C G clX12 5 rfl 17 (by decide) m_fl_RX12_196 rfl dX12_laysFits_143 ?_
                refine lv_aload_n hx hb dX12_laysFits_146 rfl (lv_at hl 4 rfl) ?_
                refine z_get C G clX12 5 rfl 38 (by decide) m_fl_RX12_372 rfl dX12_laysFits_147 ?_
                refine lv_icmp_le (tgt := 160) hx hb dX12_laysFits_150 (by decide) (fun c_66 => ?_) (fun c_66 => ?_)
                · have c_66n : j_steps_15.toInt ≤ xfitMost.toInt := (fa_le _ _).mp c_66
                  refine lv_aload_n hx hb dX12_laysFits_160 rfl (lv_at hl 4 rfl) ?_
                  refine z_get C G clX12 5 rfl 38 (by decide) m_fl_RX12_372 rfl dX12_laysFits_161 ?_
                  refine z_put C G clX12 5 rfl 38 (by decide) m_fl_RX12_372 rfl rfl rfl (Nat.le_of_ble_eq_true rfl) dX12_laysFits_164 (fun H locs G => ?_)
                  have G : zS T A s.heap s [[zAr T 0 m_fitPost 28 yfitPost], [zAr T 0 m_shut 7 f_shut], [zAr T 0 m_was 7 g_was_52], [zAr T 0 m_fitEnd 49 g_fitEnd_53], [zAr T 0 m_keptPosts 7 g_keptPosts_54], [zO11 mo m_all m_has i_size i_next i_where i_token i_number i_word i_wrong i_farCrossing m_read i_z0 i_crossings i_inns m_posts m_shut m_here j_steps_15 i_done j_at_49 j_gone_50 m_was m_came m_seenAt m_rowWorth m_farBy m_used i_everywhere i_again0 i_d0 i_never i_firstCame i_longRun i_moved i_crowd i_l0 xfitMany xfitLeast xfitMost m_fitPost m_fitEnd m_keptPosts i_x0], [zAr T 0 m_all 3952 f_all], [zAr T 0 m_posts 7 g_posts_58]] _ _ := G
                  refine lv_aload_n hx hb dX12_laysFits_167 rfl (lv_at hl 4 rfl) ?_
                  refine lv_dup hx hb dX12_laysFits_168 rfl ?_
                  refine z_get C G clX12 5 rfl 36 (by decide) m_fl_RX12_366 rfl dX12_laysFits_169 ?_
                  refine lv_iconst (v := 1) hx hb dX12_laysFits_172 (by decide) ?_
                  refine lv_iadd hx hb dX12_laysFits_173 ?_
                  refine z_put C G clX12 5 rfl 36 (by decide) m_fl_RX12_366 rfl rfl rfl (Nat.le_of_ble_eq_true rfl) dX12_laysFits_174 (fun H locs G => ?_)
                  have G : zS T A s.heap s [[zAr T 0 m_fitPost 28 yfitPost], [zAr T 0 m_shut 7 f_shut], [zAr T 0 m_was 7 g_was_52], [zAr T 0 m_fitEnd 49 g_fitEnd_53], [zAr T 0 m_keptPosts 7 g_keptPosts_54], [zO11 mo m_all m_has i_size i_next i_where i_token i_number i_word i_wrong i_farCrossing m_read i_z0 i_crossings i_inns m_posts m_shut m_here j_steps_15 i_done j_at_49 j_gone_50 m_was m_came m_seenAt m_rowWorth m_farBy m_used i_everywhere i_again0 i_d0 i_never i_firstCame i_longRun i_moved i_crowd i_l0 (xfitMany + 1) xfitLeast xfitMost m_fitPost m_fitEnd m_keptPosts i_x0], [zAr T 0 m_all 3952 f_all], [zAr T 0 m_posts 7 g_posts_58]] _ _ := G
                  refine lv_iinc (v := nI (w + 1)) (lv' := [(5, .int (nI (w + 1))), (6, .int (nI t)), (4, .int r_9), (3, .int u), (0, .ref mo), (1, .int s_), (2, .int e_)]) hx hb dX12_laysFits_177 hl (k := 1) rfl (z_inc w 1) (by decide) (zLvf_h rfl) (fun ls hl => ?_)
                  refine lv_goto (tgt := 16) hx hb dX12_laysFits_180 (by decide) ?_
                  have G := G.sub (bs' := [[zAr T 0 m_posts 7 g_posts_58], [zAr T 0 m_shut 7 f_shut], [zAr T 0 m_was 7 g_was_52], [zAr T 0 m_keptPosts 7 g_keptPosts_54], [zAr T 0 m_fitPost 28 yfitPost], [zAr T 0 m_fitEnd 49 g_fitEnd_53], [zO11 mo m_all m_has i_size i_next i_where i_token i_number i_word i_wrong i_farCrossing m_read i_z0 i_crossings i_inns m_posts m_shut m_here j_steps_15 i_done j_at_49 j_gone_50 m_was m_came m_seenAt m_rowWorth m_farBy m_used i_everywhere i_again0 i_d0 i_never i_firstCame i_longRun i_moved i_crowd i_l0 (xfitMany + 1) xfitLeast xfitMost m_fitPost m_fitEnd m_keptPosts i_x0], [zAr T 0 m_all 3952 f_all]]) [7, 1, 2, 4, 0, 3, 5, 6] rfl
                  exact ih_16 (w + 1) u (xfitMany + 1) xfitLeast xfitMost j_steps_15 j_at_49 j_gone_50 g_posts_58 g_was_52 yfitPost g_fitEnd_53 g_keptPosts_54 (show (w + 1) ≤ 16384 ∧ zMP g_posts_58 from ⟨by omega, (by first | with_reducible assumption | assumption)⟩) (show 16384 - (w + 1) < 16384 - w from by omega) _ _ ls G (lv_sub hl [0, 2, 3, 4, 5, 6] rfl)
                · have c_66n : ¬ j_steps_15.toInt ≤ xfitMost.toInt := fun q => c_66 ((fa_le _ _).mpr q)
                  refine lv_aload_n hx hb dX12_laysFits_153 rfl (lv_at hl 4 rfl) ?_
                  refine z_get C G clX12 5 rfl 17 (by decide) m_fl_RX12_196 rfl dX12_laysFits_154 ?_
                  refine lv_goto (tgt := 164) hx hb dX12_laysFits_157 (by decide) ?_
                  refine z_put C G clX12 5 rfl 38 (by decide) m_fl_RX12_372 rfl rfl rfl (Nat.le_of_ble_eq_true rfl) dX12_laysFits_164 (fun H locs G => ?_)
                  have G : zS T A s.heap s [[zAr T 0 m_fitPost 28 yfitPost], [zAr T 0 m_shut 7 f_shut], [zAr T 0 m_was 7 g_was_52], [zAr T 0 m_fitEnd 49 g_fitEnd_53], [zAr T 0 m_keptPosts 7 g_keptPosts_54], [zO11 mo m_all m_has i_size i_next i_where i_token i_number i_word i_wrong i_farCrossing m_read i_z0 i_crossings i_inns m_posts m_shut m_here j_steps_15 i_done j_at_49 j_gone_50 m_was m_came m_seenAt m_rowWorth m_farBy m_used i_everywhere i_again0 i_d0 i_never i_firstCame i_longRun i_moved i_crowd i_l0 xfitMany xfitLeast j_steps_15 m_fitPost m_fitEnd m_keptPosts i_x0], [zAr T 0 m_all 3952 f_all], [zAr T 0 m_posts 7 g_posts_58]] _ _ := G
                  refine lv_aload_n hx hb dX12_laysFits_167 rfl (lv_at hl 4 rfl) ?_
                  refine lv_dup hx hb dX12_laysFits_168 rfl ?_
                  refine z_get C G clX12 5 rfl 36 (by decide) m_fl_RX12_366 rfl dX12_laysFits_169 ?_
                  refine lv_iconst (v := 1) hx hb dX12_laysFits_172 (by decide) ?_
                  refine lv_iadd hx hb dX12_laysFits_173 ?_
                  refine z_put C G clX12 5 rfl 36 (by decide) m_fl_RX12_366 rfl rfl rfl (Nat.le_of_ble_eq_true rfl) dX12_laysFits_174 (fun H locs G => ?_)
                  have G : zS T A s.heap s [[zAr T 0 m_fitPost 28 yfitPost], [zAr T 0 m_shut 7 f_shut], [zAr T 0 m_was 7 g_was_52], [zAr T 0 m_fitEnd 49 g_fitEnd_53], [zAr T 0 m_keptPosts 7 g_keptPosts_54], [zO11 mo m_all m_has i_size i_next i_where i_token i_number i_word i_wrong i_farCrossing m_read i_z0 i_crossings i_inns m_posts m_shut m_here j_steps_15 i_done j_at_49 j_gone_50 m_was m_came m_seenAt m_rowWorth m_farBy m_used i_everywhere i_again0 i_d0 i_never i_firstCame i_longRun i_moved i_crowd i_l0 (xfitMany + 1) xfitLeast j_steps_15 m_fitPost m_fitEnd m_keptPosts i_x0], [zAr T 0 m_all 3952 f_all], [zAr T 0 m_posts 7 g_posts_58]] _ _ := G
                  refine lv_iinc (v := nI (w + 1)) (lv' := [(5, .int (nI (w + 1))), (6, .int (nI t)), (4, .int r_9), (3, .int u), (0, .ref mo), (1, .int s_), (2, .int e_)]) hx hb dX12_laysFits_177 hl (k := 1) rfl (z_inc w 1) (by decide) (zLvf_h rfl) (fun ls hl => ?_)
                  refine lv_goto (tgt := 16) hx hb dX12_laysFits_180 (by decide) ?_
                  have G := G.sub (bs' := [[zAr T 0 m_posts 7 g_posts_58], [zAr T 0 m_shut 7 f_shut], [zAr T 0 m_was 7 g_was_52], [zAr T 0 m_keptPosts 7 g_keptPosts_54], [zAr T 0 m_fitPost 28 yfitPost], [zAr T 0 m_fitEnd 49 g_fitEnd_53], [zO11 mo m_all m_has i_size i_next i_where i_token i_number i_word i_wrong i_farCrossing m_read i_z0 i_crossings i_inns m_posts m_shut m_here j_steps_15 i_done j_at_49 j_gone_50 m_was m_came m_seenAt m_rowWorth m_farBy m_used i_everywhere i_again0 i_d0 i_never i_firstCame i_longRun i_moved i_crowd i_l0 (xfitMany + 1) xfitLeast j_steps_15 m_fitPost m_fitEnd m_keptPosts i_x0], [zAr T 0 m_all 3952 f_all]]) [7, 1, 2, 4, 0, 3, 5, 6] rfl
                  exact ih_16 (w + 1) u (xfitMany + 1) xfitLeast j_steps_15 j_steps_15 j_at_49 j_gone_50 g_posts_58 g_was_52 yfitPost g_fitEnd_53 g_keptPosts_54 (show (w + 1) ≤ 16384 ∧ zMP g_posts_58 from ⟨by omega, (by first | with_reducible assumption | assumption)⟩) (show 16384 - (w + 1) < 16384 - w from by omega) _ _ ls G (lv_sub hl [0, 2, 3, 4, 5, 6] rfl)
              · have c_65n : ¬ xfitLeast.toInt ≤ j_steps_15.toInt := fun q => c_65 ((fa_le _ _).mpr q)
                refine lv_aload_n hx hb dX12_laysFits_127 rfl (lv_at hl 4 rfl) ?_
                refine z_get C G clX12 5 rfl 17 (by decide) m_fl_RX12_196 rfl dX12_laysFits_128 ?_
                refine lv_goto (tgt := 138) hx hb dX12_laysFits_131 (by decide) ?_
                refine z_put C G clX12 5 rfl 37 (by decide) m_fl_RX12_369 rfl rfl rfl (Nat.le_of_ble_eq_true rfl) dX12_laysFits_138 (fun H locs G => ?_)
                have G : zS T A s.heap s [[zAr T 0 m_fitPost 28 yfitPost], [zAr T 0 m_shut 7 f_shut], [zAr T 0 m_was 7 g_was_52], [zAr T 0 m_fitEnd 49 g_fitEnd_53], [zAr T 0 m_keptPosts 7 g_keptPosts_54], [zO11 mo m_all m_has i_size i_next i_where i_token i_number i_word i_wrong i_farCrossing m_read i_z0 i_crossings i_inns m_posts m_shut m_here j_steps_15 i_done j_at_49 j_gone_50 m_was m_came m_seenAt m_rowWorth m_farBy m_used i_everywhere i_again0 i_d0 i_never i_firstCame i_longRun i_moved i_crowd i_l0 xfitMany j_steps_15 xfitMost m_fitPost m_fitEnd m_keptPosts i_x0], [zAr T 0 m_all 3952 f_all], [zAr T 0 m_posts 7 g_posts_58]] _ _ := G
                refine lv_aload_n hx hb dX12_laysFits_141 rfl (lv_at hl 4 rfl) ?_
                refine lv_aload_n hx hb dX12_laysFits_142 rfl (lv_at hl 4 rfl) ?_
                refine z_get C G clX12 5 rfl 17 (by decide) m_fl_RX12_196 rfl dX12_laysFits_143 ?_
                refine lv_aload_n hx hb dX12_laysFits_146 rfl (lv_at hl 4 rfl) ?_
                refine z_get C G clX12 5 rfl 38 (by decide) m_fl_RX12_372 rfl dX12_laysFits_147 ?_
                refine lv_icmp_le (tgt := 160) hx hb dX12_laysFits_150 (by decide) (fun c_67 => ?_) (fun c_67 => ?_)
                · have c_67n : j_steps_15.toInt ≤ xfitMost.toInt := (fa_le _ _).mp c_67
                  refine lv_aload_n hx hb dX12_laysFits_160 rfl (lv_at hl 4 rfl) ?_
                  refine z_get C G clX12 5 rfl 38 (by decide) m_fl_RX12_372 rfl dX12_laysFits_161 ?_
                  refine z_put C G clX12 5 rfl 38 (by decide) m_fl_RX12_372 rfl rfl rfl (Nat.le_of_ble_eq_true rfl) dX12_laysFits_164 (fun H locs G => ?_)
                  have G : zS T A s.heap s [[zAr T 0 m_fitPost 28 yfitPost], [zAr T 0 m_shut 7 f_shut], [zAr T 0 m_was 7 g_was_52], [zAr T 0 m_fitEnd 49 g_fitEnd_53], [zAr T 0 m_keptPosts 7 g_keptPosts_54], [zO11 mo m_all m_has i_size i_next i_where i_token i_number i_word i_wrong i_farCrossing m_read i_z0 i_crossings i_inns m_posts m_shut m_here j_steps_15 i_done j_at_49 j_gone_50 m_was m_came m_seenAt m_rowWorth m_farBy m_used i_everywhere i_again0 i_d0 i_never i_firstCame i_longRun i_moved i_crowd i_l0 xfitMany j_steps_15 xfitMost m_fitPost m_fitEnd m_keptPosts i_x0], [zAr T 0 m_all 3952 f_all], [zAr T 0 m_posts 7 g_posts_58]] _ _ := G
                  refine lv_aload_n hx hb dX12_laysFits_167 rfl (lv_at hl 4 rfl) ?_
                  refine lv_dup hx hb dX12_laysFits_168 rfl ?_
                  refine z_get C G clX12 5 rfl 36 (by decide) m_fl_RX12_366 rfl dX12_laysFits_169 ?_
                  refine lv_iconst (v := 1) hx hb dX12_laysFits_172 (by decide) ?_
                  refine lv_iadd hx hb dX12_laysFits_173 ?_
                  refine z_put C G clX12 5 rfl 36 (by decide) m_fl_RX12_366 rfl rfl rfl (Nat.le_of_ble_eq_true rfl) dX12_laysFits_174 (fun H locs G => ?_)
                  have G : zS T A s.heap s [[zAr T 0 m_fitPost 28 yfitPost], [zAr T 0 m_shut 7 f_shut], [zAr T 0 m_was 7 g_was_52], [zAr T 0 m_fitEnd 49 g_fitEnd_53], [zAr T 0 m_keptPosts 7 g_keptPosts_54], [zO11 mo m_all m_has i_size i_next i_where i_token i_number i_word i_wrong i_farCrossing m_read i_z0 i_crossings i_inns m_posts m_shut m_here j_steps_15 i_done j_at_49 j_gone_50 m_was m_came m_seenAt m_rowWorth m_farBy m_used i_everywhere i_again0 i_d0 i_never i_firstCame i_longRun i_moved i_crowd i_l0 (xfitMany + 1) j_steps_15 xfitMost m_fitPost m_fitEnd m_keptPosts i_x0], [zAr T 0 m_all 3952 f_all], [zAr T 0 m_posts 7 g_posts_58]] _ _ := G
                  refine lv_iinc (v := nI (w + 1)) (lv' := [(5, .int (nI (w + 1))), (6, .int (nI t)), (4, .int r_9), (3, .int u), (0, .ref mo), (1, .int s_), (2, .int e_)]) hx hb dX12_laysFits_177 hl (k := 1) rfl (z_inc w 1) (by decide) (zLvf_h rfl) (fun ls hl => ?_)
                  refine lv_goto (tgt := 16) hx hb dX12_laysFits_180 (by decide) ?_
                  have G := G.sub (bs' := [[zAr T 0 m_posts 7 g_posts_58], [zAr T 0 m_shut 7 f_shut], [zAr T 0 m_was 7 g_was_52], [zAr T 0 m_keptPosts 7 g_keptPosts_54], [zAr T 0 m_fitPost 28 yfitPost], [zAr T 0 m_fitEnd 49 g_fitEnd_53], [zO11 mo m_all m_has i_size i_next i_where i_token i_number i_word i_wrong i_farCrossing m_read i_z0 i_crossings i_inns m_posts m_shut m_here j_steps_15 i_done j_at_49 j_gone_50 m_was m_came m_seenAt m_rowWorth m_farBy m_used i_everywhere i_again0 i_d0 i_never i_firstCame i_longRun i_moved i_crowd i_l0 (xfitMany + 1) j_steps_15 xfitMost m_fitPost m_fitEnd m_keptPosts i_x0], [zAr T 0 m_all 3952 f_all]]) [7, 1, 2, 4, 0, 3, 5, 6] rfl
                  exact ih_16 (w + 1) u (xfitMany + 1) j_steps_15 xfitMost j_steps_15 j_at_49 j_gone_50 g_posts_58 g_was_52 yfitPost g_fitEnd_53 g_keptPosts_54 (show (w + 1) ≤ 16384 ∧ zMP g_posts_58 from ⟨by omega, (by first | with_reducible assumption | assumption)⟩) (show 16384 - (w + 1) < 16384 - w from by omega) _ _ ls G (lv_sub hl [0, 2, 3, 4, 5, 6] rfl)
                · have c_67n : ¬ j_steps_15.toInt ≤ xfitMost.toInt := fun q => c_67 ((fa_le _ _).mpr q)
                  refine lv_aload_n hx hb dX12_laysFits_153 rfl (lv_at hl 4 rfl) ?_
                  refine z_get C G clX12 5 rfl 17 (by decide) m_fl_RX12_196 rfl dX12_laysFits_154 ?_
                  refine lv_goto (tgt := 164) hx hb dX12_laysFits_157 (by decide) ?_
                  refine z_put C G clX12 5 rfl 38 (by decide) m_fl_RX12_372 rfl rfl rfl (Nat.le_of_ble_eq_true rfl) dX12_laysFits_164 (fun H locs G => ?_)
                  have G : zS T A s.heap s [[zAr T 0 m_fitPost 28 yfitPost], [zAr T 0 m_shut 7 f_shut], [zAr T 0 m_was 7 g_was_52], [zAr T 0 m_fitEnd 49 g_fitEnd_53], [zAr T 0 m_keptPosts 7 g_keptPosts_54], [zO11 mo m_all m_has i_size i_next i_where i_token i_number i_word i_wrong i_farCrossing m_read i_z0 i_crossings i_inns m_posts m_shut m_here j_steps_15 i_done j_at_49 j_gone_50 m_was m_came m_seenAt m_rowWorth m_farBy m_used i_everywhere i_again0 i_d0 i_never i_firstCame i_longRun i_moved i_crowd i_l0 xfitMany j_steps_15 j_steps_15 m_fitPost m_fitEnd m_keptPosts i_x0], [zAr T 0 m_all 3952 f_all], [zAr T 0 m_posts 7 g_posts_58]] _ _ := G
                  refine lv_aload_n hx hb dX12_laysFits_167 rfl (lv_at hl 4 rfl) ?_
                  refine lv_dup hx hb dX12_laysFits_168 rfl ?_
                  refine z_get C G clX12 5 rfl 36 (by decide) m_fl_RX12_366 rfl dX12_laysFits_169 ?_
                  refine lv_iconst (v := 1) hx hb dX12_laysFits_172 (by decide) ?_
                  refine lv_iadd hx hb dX12_laysFits_173 ?_
                  refine z_put C G clX12 5 rfl 36 (by decide) m_fl_RX12_366 rfl rfl rfl (Nat.le_of_ble_eq_true rfl) dX12_laysFits_174 (fun H locs G => ?_)
                  have G : zS T A s.heap s [[zAr T 0 m_fitPost 28 yfitPost], [zAr T 0 m_shut 7 f_shut], [zAr T 0 m_was 7 g_was_52], [zAr T 0 m_fitEnd 49 g_fitEnd_53], [zAr T 0 m_keptPosts 7 g_keptPosts_54], [zO11 mo m_all m_has i_size i_next i_where i_token i_number i_word i_wrong i_farCrossing m_read i_z0 i_crossings i_inns m_posts m_shut m_here j_steps_15 i_done j_at_49 j_gone_50 m_was m_came m_seenAt m_rowWorth m_farBy m_used i_everywhere i_again0 i_d0 i_never i_firstCame i_longRun i_moved i_crowd i_l0 (xfitMany + 1) j_steps_15 j_steps_15 m_fitPost m_fitEnd m_keptPosts i_x0], [zAr T 0 m_all 3952 f_all], [zAr T 0 m_posts 7 g_posts_58]] _ _ := G
                  refine lv_iinc (v := nI (w + 1)) (lv' := [(5, .int (nI (w + 1))), (6, .int (nI t)), (4, .int r_9), (3, .int u), (0, .ref mo), (1, .int s_), (2, .int e_)]) hx hb dX12_laysFits_177 hl (k := 1) rfl (z_inc w 1) (by decide) (zLvf_h rfl) (fun ls hl => ?_)
                  refine lv_goto (tgt := 16) hx hb dX12_laysFits_180 (by decide) ?_
                  have G := G.sub (bs' := [[zAr T 0 m_posts 7 g_posts_58], [zAr T 0 m_shut 7 f_shut], [zAr T 0 m_was 7 g_was_52], [zAr T 0 m_keptPosts 7 g_keptPosts_54], [zAr T 0 m_fitPost 28 yfitPost], [zAr T 0 m_fitEnd 49 g_fitEnd_53], [zO11 mo m_all m_has i_size i_next i_where i_token i_number i_word i_wrong i_farCrossing m_read i_z0 i_crossings i_inns m_posts m_shut m_here j_steps_15 i_done j_at_49 j_gone_50 m_was m_came m_seenAt m_rowWorth m_farBy m_used i_everywhere i_again0 i_d0 i_never i_firstCame i_longRun i_moved i_crowd i_l0 (xfitMany + 1) j_steps_15 j_steps_15 m_fitPost m_fitEnd m_keptPosts i_x0], [zAr T 0 m_all 3952 f_all]]) [7, 1, 2, 4, 0, 3, 5, 6] rfl
                  exact ih_16 (w + 1) u (xfitMany + 1) j_steps_15 j_steps_15 j_steps_15 j_at_49 j_gone_50 g_posts_58 g_was_52 yfitPost g_fitEnd_53 g_keptPosts_54 (show (w + 1) ≤ 16384 ∧ zMP g_posts_58 from ⟨by omega, (by first | with_reducible assumption | assumption)⟩) (show 16384 - (w + 1) < 16384 - w from by omega) _ _ ls G (lv_sub hl [0, 2, 3, 4, 5, 6] rfl)
          · have c_62n : xfitMany.toInt = s_.toInt := (fa_eq _ _).mp c_62
            refine lv_aload_n hx hb dX12_laysFits_100 rfl (lv_at hl 4 rfl) ?_
            refine lv_iload hx hb dX12_laysFits_101 (lv_at hl 1 rfl) ?_
            have ti_68 : (nI w).toInt = ((w : Nat) : Int) := nI_toInt (by omega)
            refine z_Vi (bc := [[zO11 mo m_all m_has i_size i_next i_where i_token i_number i_word i_wrong i_farCrossing m_read i_z0 i_crossings i_inns m_posts m_shut m_here j_steps_15 i_done j_at_49 j_gone_50 m_was m_came m_seenAt m_rowWorth m_farBy m_used i_everywhere i_again0 i_d0 i_never i_firstCame i_longRun i_moved i_crowd i_l0 xfitMany xfitLeast xfitMost m_fitPost m_fitEnd m_keptPosts i_x0], [zAr T 0 m_all 3952 f_all], [zAr T 0 m_posts 7 g_posts_58]]) (br := [[zAr T 0 m_fitPost 28 yfitPost], [zAr T 0 m_shut 7 f_shut], [zAr T 0 m_was 7 g_was_52], [zAr T 0 m_fitEnd 49 g_fitEnd_53], [zAr T 0 m_keptPosts 7 g_keptPosts_54]]) (As := [.int (nI w)]) (rest := []) C G (c_m_numberOf l T mo m_all m_has i_size i_next i_where i_token i_number i_word i_wrong i_farCrossing m_read i_z0 i_crossings i_inns m_posts m_shut m_here j_steps_15 i_done j_at_49 j_gone_50 m_was m_came m_seenAt m_rowWorth m_farBy m_used i_everywhere i_again0 i_d0 i_never i_firstCame i_longRun i_moved i_crowd i_l0 xfitMany xfitLeast xfitMost m_fitPost m_fitEnd m_keptPosts i_x0 f_all g_posts_58 (nI w) (by first | with_reducible assumption | with_reducible rfl | omega | assumption | rfl | decide) (by first | with_reducible assumption | with_reducible rfl | omega | assumption | rfl | decide) (by first | with_reducible assumption | with_reducible rfl | omega | assumption | rfl | decide)) (kV_RX12_299 C.2.2.2.2 (Nat.le_of_ble_eq_true rfl) (Nat.le_of_ble_eq_true rfl)) [5, 6, 7] [5, 0, 0] rfl rfl (ci := 11) (qc := (RX12, TX12, 43)) rfl rfl (List.mem_flatten.mpr ⟨_, List.mem_of_getElem? (i := 0) rfl, List.mem_cons_self⟩) rfl rfl hl.1 dX12_laysFits_103 (Nat.le_of_ble_eq_true rfl) (Nat.le_of_ble_eq_true rfl) (fun r_71 b1 H locs hw G => ?_)
            refine zEx1 hw ?_
            intro g_posts_69
            refine zCu2 ?_
            intro hbs9 h_70
            clear hw
            subst hbs9
            have G : zS T A s.heap s [[zAr T 0 m_fitPost 28 yfitPost], [zAr T 0 m_shut 7 f_shut], [zAr T 0 m_was 7 g_was_52], [zAr T 0 m_fitEnd 49 g_fitEnd_53], [zAr T 0 m_keptPosts 7 g_keptPosts_54], [zO11 mo m_all m_has i_size i_next i_where i_token i_number i_word i_wrong i_farCrossing m_read i_z0 i_crossings i_inns m_posts m_shut m_here j_steps_15 i_done j_at_49 j_gone_50 m_was m_came m_seenAt m_rowWorth m_farBy m_used i_everywhere i_again0 i_d0 i_never i_firstCame i_longRun i_moved i_crowd i_l0 xfitMany xfitLeast xfitMost m_fitPost m_fitEnd m_keptPosts i_x0], [zAr T 0 m_all 3952 f_all], [zAr T 0 m_posts 7 g_posts_69]] _ _ := G
            refine lv_istore_n (lv' := [(3, .int r_71), (6, .int (nI t)), (5, .int (nI w)), (4, .int r_9), (0, .ref mo), (1, .int s_), (2, .int e_)]) hx hb dX12_laysFits_106 rfl hl (by decide) (zLvf_h rfl) (fun ls hl => ?_)
            refine lv_aload_n hx hb dX12_laysFits_107 rfl (lv_at hl 4 rfl) ?_
            refine lv_aload_n hx hb dX12_laysFits_108 rfl (lv_at hl 4 rfl) ?_
            refine z_get C G clX12 5 rfl 37 (by decide) m_fl_RX12_369 rfl dX12_laysFits_109 ?_
            refine lv_iconst (v := (-1)) hx hb dX12_laysFits_112 (by decide) ?_
            refine lv_icmp_eq (tgt := 127) hx hb dX12_laysFits_113 (by decide) (fun c_72 => ?_) (fun c_72 => ?_)
            · have c_72n : xfitLeast.toInt = (-1 : Int) := (fa_eq _ _).mp c_72
              refine lv_aload_n hx hb dX12_laysFits_127 rfl (lv_at hl 4 rfl) ?_
              refine z_get C G clX12 5 rfl 17 (by decide) m_fl_RX12_196 rfl dX12_laysFits_128 ?_
              refine lv_goto (tgt := 138) hx hb dX12_laysFits_131 (by decide) ?_
              refine z_put C G clX12 5 rfl 37 (by decide) m_fl_RX12_369 rfl rfl rfl (Nat.le_of_ble_eq_true rfl) dX12_laysFits_138 (fun H locs G => ?_)
              have G : zS T A s.heap s [[zAr T 0 m_fitPost 28 yfitPost], [zAr T 0 m_shut 7 f_shut], [zAr T 0 m_was 7 g_was_52], [zAr T 0 m_fitEnd 49 g_fitEnd_53], [zAr T 0 m_keptPosts 7 g_keptPosts_54], [zO11 mo m_all m_has i_size i_next i_where i_token i_number i_word i_wrong i_farCrossing m_read i_z0 i_crossings i_inns m_posts m_shut m_here j_steps_15 i_done j_at_49 j_gone_50 m_was m_came m_seenAt m_rowWorth m_farBy m_used i_everywhere i_again0 i_d0 i_never i_firstCame i_longRun i_moved i_crowd i_l0 xfitMany j_steps_15 xfitMost m_fitPost m_fitEnd m_keptPosts i_x0], [zAr T 0 m_all 3952 f_all], [zAr T 0 m_posts 7 g_posts_69]] _ _ := G
              refine lv_aload_n hx hb dX12_laysFits_141 rfl (lv_at hl 4 rfl) ?_
              refine lv_aload_n hx hb dX12_laysFits_142 rfl (lv_at hl 4 rfl) ?_
              refine z_get C G clX12 5 rfl 17 (by decide) m_fl_RX12_196 rfl dX12_laysFits_143 ?_
              refine lv_aload_n hx hb dX12_laysFits_146 rfl (lv_at hl 4 rfl) ?_
              refine z_get C G clX12 5 rfl 38 (by decide) m_fl_RX12_372 rfl dX12_laysFits_147 ?_
              refine lv_icmp_le (tgt := 160) hx hb dX12_laysFits_150 (by decide) (fun c_73 => ?_) (fun c_73 => ?_)
              · have c_73n : j_steps_15.toInt ≤ xfitMost.toInt := (fa_le _ _).mp c_73
                refine lv_aload_n hx hb dX12_laysFits_160 rfl (lv_at hl 4 rfl) ?_
                refine z_get C G clX12 5 rfl 38 (by decide) m_fl_RX12_372 rfl dX12_laysFits_161 ?_
                refine z_put C G clX12 5 rfl 38 (by decide) m_fl_RX12_372 rfl rfl rfl (Nat.le_of_ble_eq_true rfl) dX12_laysFits_164 (fun H locs G => ?_)
                have G : zS T A s.heap s [[zAr T 0 m_fitPost 28 yfitPost], [zAr T 0 m_shut 7 f_shut], [zAr T 0 m_was 7 g_was_52], [zAr T 0 m_fitEnd 49 g_fitEnd_53], [zAr T 0 m_keptPosts 7 g_keptPosts_54], [zO11 mo m_all m_has i_size i_next i_where i_token i_number i_word i_wrong i_farCrossing m_read i_z0 i_crossings i_inns m_posts m_shut m_here j_steps_15 i_done j_at_49 j_gone_50 m_was m_came m_seenAt m_rowWorth m_farBy m_used i_everywhere i_again0 i_d0 i_never i_firstCame i_longRun i_moved i_crowd i_l0 xfitMany j_steps_15 xfitMost m_fitPost m_fitEnd m_keptPosts i_x0], [zAr T 0 m_all 3952 f_all], [zAr T 0 m_posts 7 g_posts_69]] _ _ := G
                refine lv_aload_n hx hb dX12_laysFits_167 rfl (lv_at hl 4 rfl) ?_
                refine lv_dup hx hb dX12_laysFits_168 rfl ?_
                refine z_get C G clX12 5 rfl 36 (by decide) m_fl_RX12_366 rfl dX12_laysFits_169 ?_
                refine lv_iconst (v := 1) hx hb dX12_laysFits_172 (by decide) ?_
                refine lv_iadd hx hb dX12_laysFits_173 ?_
                refine z_put C G clX12 5 rfl 36 (by decide) m_fl_RX12_366 rfl rfl rfl (Nat.le_of_ble_eq_true rfl) dX12_laysFits_174 (fun H locs G => ?_)
                have G : zS T A s.heap s [[zAr T 0 m_fitPost 28 yfitPost], [zAr T 0 m_shut 7 f_shut], [zAr T 0 m_was 7 g_was_52], [zAr T 0 m_fitEnd 49 g_fitEnd_53], [zAr T 0 m_keptPosts 7 g_keptPosts_54], [zO11 mo m_all m_has i_size i_next i_where i_token i_number i_word i_wrong i_farCrossing m_read i_z0 i_crossings i_inns m_posts m_shut m_here j_steps_15 i_done j_at_49 j_gone_50 m_was m_came m_seenAt m_rowWorth m_farBy m_used i_everywhere i_again0 i_d0 i_never i_firstCame i_longRun i_moved i_crowd i_l0 (xfitMany + 1) j_steps_15 xfitMost m_fitPost m_fitEnd m_keptPosts i_x0], [zAr T 0 m_all 3952 f_all], [zAr T 0 m_posts 7 g_posts_69]] _ _ := G
                refine lv_iinc (v := nI (w + 1)) (lv' := [(5, .int (nI (w + 1))), (3, .int r_71), (6, .int (nI t)), (4, .int r_9), (0, .ref mo), (1, .int s_), (2, .int e_)]) hx hb dX12_laysFits_177 hl (k := 2) rfl (z_inc w 1) (by decide) (zLvf_h rfl) (fun ls hl => ?_)
                refine lv_goto (tgt := 16) hx hb dX12_laysFits_180 (by decide) ?_
                have G := G.sub (bs' := [[zAr T 0 m_posts 7 g_posts_69], [zAr T 0 m_shut 7 f_shut], [zAr T 0 m_was 7 g_was_52], [zAr T 0 m_keptPosts 7 g_keptPosts_54], [zAr T 0 m_fitPost 28 yfitPost], [zAr T 0 m_fitEnd 49 g_fitEnd_53], [zO11 mo m_all m_has i_size i_next i_where i_token i_number i_word i_wrong i_farCrossing m_read i_z0 i_crossings i_inns m_posts m_shut m_here j_steps_15 i_done j_at_49 j_gone_50 m_was m_came m_seenAt m_rowWorth m_farBy m_used i_everywhere i_again0 i_d0 i_never i_firstCame i_longRun i_moved i_crowd i_l0 (xfitMany + 1) j_steps_15 xfitMost m_fitPost m_fitEnd m_keptPosts i_x0], [zAr T 0 m_all 3952 f_all]]) [7, 1, 2, 4, 0, 3, 5, 6] rfl
                exact ih_16 (w + 1) r_71 (xfitMany + 1) j_steps_15 xfitMost j_steps_15 j_at_49 j_gone_50 g_posts_69 g_was_52 yfitPost g_fitEnd_53 g_keptPosts_54 (show (w + 1) ≤ 16384 ∧ zMP g_posts_69 from ⟨by omega, (by first | with_reducible assumption | assumption)⟩) (show 16384 - (w + 1) < 16384 - w from by omega) _ _ ls G (lv_sub hl [0, 3, 1, 4, 5, 6] rfl)
              · have c_73n : ¬ j_steps_15.toInt ≤ xfitMost.toInt := fun q => c_73 ((fa_le _ _).mpr q)
                refine lv_aload_n hx hb dX12_laysFits_153 rfl (lv_at hl 4 rfl) ?_
                refine z_get C G clX12 5 rfl 17 (by decide) m_fl_RX12_196 rfl dX12_laysFits_154 ?_
                refine lv_goto (tgt := 164) hx hb dX12_laysFits_157 (by decide) ?_
                refine z_put C G clX12 5 rfl 38 (by decide) m_fl_RX12_372 rfl rfl rfl (Nat.le_of_ble_eq_true rfl) dX12_laysFits_164 (fun H locs G => ?_)
                have G : zS T A s.heap s [[zAr T 0 m_fitPost 28 yfitPost], [zAr T 0 m_shut 7 f_shut], [zAr T 0 m_was 7 g_was_52], [zAr T 0 m_fitEnd 49 g_fitEnd_53], [zAr T 0 m_keptPosts 7 g_keptPosts_54], [zO11 mo m_all m_has i_size i_next i_where i_token i_number i_word i_wrong i_farCrossing m_read i_z0 i_crossings i_inns m_posts m_shut m_here j_steps_15 i_done j_at_49 j_gone_50 m_was m_came m_seenAt m_rowWorth m_farBy m_used i_everywhere i_again0 i_d0 i_never i_firstCame i_longRun i_moved i_crowd i_l0 xfitMany j_steps_15 j_steps_15 m_fitPost m_fitEnd m_keptPosts i_x0], [zAr T 0 m_all 3952 f_all], [zAr T 0 m_posts 7 g_posts_69]] _ _ := G
                refine lv_aload_n hx hb dX12_laysFits_167 rfl (lv_at hl 4 rfl) ?_
                refine lv_dup hx hb dX12_laysFits_168 rfl ?_
                refine z_get C G clX12 5 rfl 36 (by decide) m_fl_RX12_366 rfl dX12_laysFits_169 ?_
                refine lv_iconst (v := 1) hx hb dX12_laysFits_172 (by decide) ?_
                refine lv_iadd hx hb dX12_laysFits_173 ?_
                refine z_put C G clX12 5 rfl 36 (by decide) m_fl_RX12_366 rfl rfl rfl (Nat.le_of_ble_eq_true rfl) dX12_laysFits_174 (fun H locs G => ?_)
                have G : zS T A s.heap s [[zAr T 0 m_fitPost 28 yfitPost], [zAr T 0 m_shut 7 f_shut], [zAr T 0 m_was 7 g_was_52], [zAr T 0 m_fitEnd 49 g_fitEnd_53], [zAr T 0 m_keptPosts 7 g_keptPosts_54], [zO11 mo m_all m_has i_size i_next i_where i_token i_number i_word i_wrong i_farCrossing m_read i_z0 i_crossings i_inns m_posts m_shut m_here j_steps_15 i_done j_at_49 j_gone_50 m_was m_came m_seenAt m_rowWorth m_farBy m_used i_everywhere i_again0 i_d0 i_never i_firstCame i_longRun i_moved i_crowd i_l0 (xfitMany + 1) j_steps_15 j_steps_15 m_fitPost m_fitEnd m_keptPosts i_x0], [zAr T 0 m_all 3952 f_all], [zAr T 0 m_posts 7 g_posts_69]] _ _ := G
                refine lv_iinc (v := nI (w + 1)) (lv' := [(5, .int (nI (w + 1))), (3, .int r_71), (6, .int (nI t)), (4, .int r_9), (0, .ref mo), (1, .int s_), (2, .int e_)]) hx hb dX12_laysFits_177 hl (k := 2) rfl (z_inc w 1) (by decide) (zLvf_h rfl) (fun ls hl => ?_)
                refine lv_goto (tgt := 16) hx hb dX12_laysFits_180 (by decide) ?_
                have G := G.sub (bs' := [[zAr T 0 m_posts 7 g_posts_69], [zAr T 0 m_shut 7 f_shut], [zAr T 0 m_was 7 g_was_52], [zAr T 0 m_keptPosts 7 g_keptPosts_54], [zAr T 0 m_fitPost 28 yfitPost], [zAr T 0 m_fitEnd 49 g_fitEnd_53], [zO11 mo m_all m_has i_size i_next i_where i_token i_number i_word i_wrong i_farCrossing m_read i_z0 i_crossings i_inns m_posts m_shut m_here j_steps_15 i_done j_at_49 j_gone_50 m_was m_came m_seenAt m_rowWorth m_farBy m_used i_everywhere i_again0 i_d0 i_never i_firstCame i_longRun i_moved i_crowd i_l0 (xfitMany + 1) j_steps_15 j_steps_15 m_fitPost m_fitEnd m_keptPosts i_x0], [zAr T 0 m_all 3952 f_all]]) [7, 1, 2, 4, 0, 3, 5, 6] rfl
                exact ih_16 (w + 1) r_71 (xfitMany + 1) j_steps_15 j_steps_15 j_steps_15 j_at_49 j_gone_50 g_posts_69 g_was_52 yfitPost g_fitEnd_53 g_keptPosts_54 (show (w + 1) ≤ 16384 ∧ zMP g_posts_69 from ⟨by omega, (by first | with_reducible assumption | assumption)⟩) (show 16384 - (w + 1) < 16384 - w from by omega) _ _ ls G (lv_sub hl [0, 3, 1, 4, 5, 6] rfl)
            · have c_72n : ¬ xfitLeast.toInt = (-1 : Int) := fun q => c_72 ((fa_eq _ _).mpr q)
              refine lv_aload_n hx hb dX12_laysFits_116 rfl (lv_at hl 4 rfl) ?_
              refine z_get C G clX12 5 rfl 17 (by decide) m_fl_RX12_196 rfl dX12_laysFits_117 ?_
              refine lv_aload_n hx hb dX12_laysFits_120 rfl (lv_at hl 4 rfl) ?_
              refine z_get C G clX12 5 rfl 37 (by decide) m_fl_RX12_369 rfl dX12_laysFits_121 ?_
              refine lv_icmp_ge (tgt := 134) hx hb dX12_laysFits_124 (by decide) (fun c_74 => ?_) (fun c_74 => ?_)
              · have c_74n : xfitLeast.toInt ≤ j_steps_15.toInt := (fa_le _ _).mp c_74
                refine lv_aload_n hx hb dX12_laysFits_134 rfl (lv_at hl 4 rfl) ?_
                refine z_get C G clX12 5 rfl 37 (by decide) m_fl_RX12_369 rfl dX12_laysFits_135 ?_
                refine z_put C G clX12 5 rfl 37 (by decide) m_fl_RX12_369 rfl rfl rfl (Nat.le_of_ble_eq_true rfl) dX12_laysFits_138 (fun H locs G => ?_)
                have G : zS T A s.heap s [[zAr T 0 m_fitPost 28 yfitPost], [zAr T 0 m_shut 7 f_shut], [zAr T 0 m_was 7 g_was_52], [zAr T 0 m_fitEnd 49 g_fitEnd_53], [zAr T 0 m_keptPosts 7 g_keptPosts_54], [zO11 mo m_all m_has i_size i_next i_where i_token i_number i_word i_wrong i_farCrossing m_read i_z0 i_crossings i_inns m_posts m_shut m_here j_steps_15 i_done j_at_49 j_gone_50 m_was m_came m_seenAt m_rowWorth m_farBy m_used i_everywhere i_again0 i_d0 i_never i_firstCame i_longRun i_moved i_crowd i_l0 xfitMany xfitLeast xfitMost m_fitPost m_fitEnd m_keptPosts i_x0], [zAr T 0 m_all 3952 f_all], [zAr T 0 m_posts 7 g_posts_69]] _ _ := G
                refine lv_aload_n hx hb dX12_laysFits_141 rfl (lv_at hl 4 rfl) ?_
                refine lv_aload_n hx hb dX12_laysFits_142 rfl (lv_at hl 4 rfl) ?_
                refine z_get C G clX12 5 rfl 17 (by decide) m_fl_RX12_196 rfl dX12_laysFits_143 ?_
                refine lv_aload_n hx hb dX12_laysFits_146 rfl (lv_at hl 4 rfl) ?_
                refine z_get C G clX12 5 rfl 38 (by decide) m_fl_RX12_372 rfl dX12_laysFits_147 ?_
                refine lv_icmp_le (tgt := 160) hx hb dX12_laysFits_150 (by decide) (fun c_75 => ?_) (fun c_75 => ?_)
                · have c_75n : j_steps_15.toInt ≤ xfitMost.toInt := (fa_le _ _).mp c_75
                  refine lv_aload_n hx hb dX12_laysFits_160 rfl (lv_at hl 4 rfl) ?_
                  refine z_get C G clX12 5 rfl 38 (by decide) m_fl_RX12_372 rfl dX12_laysFits_161 ?_
                  refine z_put C G clX12 5 rfl 38 (by decide) m_fl_RX12_372 rfl rfl rfl (Nat.le_of_ble_eq_true rfl) dX12_laysFits_164 (fun H locs G => ?_)
                  have G : zS T A s.heap s [[zAr T 0 m_fitPost 28 yfitPost], [zAr T 0 m_shut 7 f_shut], [zAr T 0 m_was 7 g_was_52], [zAr T 0 m_fitEnd 49 g_fitEnd_53], [zAr T 0 m_keptPosts 7 g_keptPosts_54], [zO11 mo m_all m_has i_size i_next i_where i_token i_number i_word i_wrong i_farCrossing m_read i_z0 i_crossings i_inns m_posts m_shut m_here j_steps_15 i_done j_at_49 j_gone_50 m_was m_came m_seenAt m_rowWorth m_farBy m_used i_everywhere i_again0 i_d0 i_never i_firstCame i_longRun i_moved i_crowd i_l0 xfitMany xfitLeast xfitMost m_fitPost m_fitEnd m_keptPosts i_x0], [zAr T 0 m_all 3952 f_all], [zAr T 0 m_posts 7 g_posts_69]] _ _ := G
                  refine lv_aload_n hx hb dX12_laysFits_167 rfl (lv_at hl 4 rfl) ?_
                  refine lv_dup hx hb dX12_laysFits_168 rfl ?_
                  refine z_get C G clX12 5 rfl 36 (by decide) m_fl_RX12_366 rfl dX12_laysFits_169 ?_
                  refine lv_iconst (v := 1) hx hb dX12_laysFits_172 (by decide) ?_
                  refine lv_iadd hx hb dX12_laysFits_173 ?_
                  refine z_put C G clX12 5 rfl 36 (by decide) m_fl_RX12_366 rfl rfl rfl (Nat.le_of_ble_eq_true rfl) dX12_laysFits_174 (fun H locs G => ?_)
                  have G : zS T A s.heap s [[zAr T 0 m_fitPost 28 yfitPost], [zAr T 0 m_shut 7 f_shut], [zAr T 0 m_was 7 g_was_52], [zAr T 0 m_fitEnd 49 g_fitEnd_53], [zAr T 0 m_keptPosts 7 g_keptPosts_54], [zO11 mo m_all m_has i_size i_next i_where i_token i_number i_word i_wrong i_farCrossing m_read i_z0 i_crossings i_inns m_posts m_shut m_here j_steps_15 i_done j_at_49 j_gone_50 m_was m_came m_seenAt m_rowWorth m_farBy m_used i_everywhere i_again0 i_d0 i_never i_firstCame i_longRun i_moved i_crowd i_l0 (xfitMany + 1) xfitLeast xfitMost m_fitPost m_fitEnd m_keptPosts i_x0], [zAr T 0 m_all 3952 f_all], [zAr T 0 m_posts 7 g_posts_69]] _ _ := G
                  refine lv_iinc (v := nI (w + 1)) (lv' := [(5, .int (nI (w + 1))), (3, .int r_71), (6, .int (nI t)), (4, .int r_9), (0, .ref mo), (1, .int s_), (2, .int e_)]) hx hb dX12_laysFits_177 hl (k := 2) rfl (z_inc w 1) (by decide) (zLvf_h rfl) (fun ls hl => ?_)
                  refine lv_goto (tgt := 16) hx hb dX12_laysFits_180 (by decide) ?_
                  have G := G.sub (bs' := [[zAr T 0 m_posts 7 g_posts_69], [zAr T 0 m_shut 7 f_shut], [zAr T 0 m_was 7 g_was_52], [zAr T 0 m_keptPosts 7 g_keptPosts_54], [zAr T 0 m_fitPost 28 yfitPost], [zAr T 0 m_fitEnd 49 g_fitEnd_53], [zO11 mo m_all m_has i_size i_next i_where i_token i_number i_word i_wrong i_farCrossing m_read i_z0 i_crossings i_inns m_posts m_shut m_here j_steps_15 i_done j_at_49 j_gone_50 m_was m_came m_seenAt m_rowWorth m_farBy m_used i_everywhere i_again0 i_d0 i_never i_firstCame i_longRun i_moved i_crowd i_l0 (xfitMany + 1) xfitLeast xfitMost m_fitPost m_fitEnd m_keptPosts i_x0], [zAr T 0 m_all 3952 f_all]]) [7, 1, 2, 4, 0, 3, 5, 6] rfl
                  exact ih_16 (w + 1) r_71 (xfitMany + 1) xfitLeast xfitMost j_steps_15 j_at_49 j_gone_50 g_posts_69 g_was_52 yfitPost g_fitEnd_53 g_keptPosts_54 (show (w + 1) ≤ 16384 ∧ zMP g_posts_69 from ⟨by omega, (by first | with_reducible assumption | assumption)⟩) (show 16384 - (w + 1) < 16384 - w from by omega) _ _ ls G (lv_sub hl [0, 3, 1, 4, 5, 6] rfl)
                · have c_75n : ¬ j_steps_15.toInt ≤ xfitMost.toInt := fun q => c_75 ((fa_le _ _).mpr q)
                  refine lv_aload_n hx hb dX12_laysFits_153 rfl (lv_at hl 4 rfl) ?_
                  refine z_get C G clX12 5 rfl 17 (by decide) m_fl_RX12_196 rfl dX12_laysFits_154 ?_
                  refine lv_goto (tgt := 164) hx hb dX12_laysFits_157 (by decide) ?_
                  refine z_put C G clX12 5 rfl 38 (by decide) m_fl_RX12_372 rfl rfl rfl (Nat.le_of_ble_eq_true rfl) dX12_laysFits_164 (fun H locs G => ?_)
                  have G : zS T A s.heap s [[zAr T 0 m_fitPost 28 yfitPost], [zAr T 0 m_shut 7 f_shut], [zAr T 0 m_was 7 g_was_52], [zAr T 0 m_fitEnd 49 g_fitEnd_53], [zAr T 0 m_keptPosts 7 g_keptPosts_54], [zO11 mo m_all m_has i_size i_next i_where i_token i_number i_word i_wrong i_farCrossing m_read i_z0 i_crossings i_inns m_posts m_shut m_here j_steps_15 i_done j_at_49 j_gone_50 m_was m_came m_seenAt m_rowWorth m_farBy m_used i_everywhere i_again0 i_d0 i_never i_firstCame i_longRun i_moved i_crowd i_l0 xfitMany xfitLeast j_steps_15 m_fitPost m_fitEnd m_keptPosts i_x0], [zAr T 0 m_all 3952 f_all], [zAr T 0 m_posts 7 g_posts_69]] _ _ := G
                  refine lv_aload_n hx hb dX12_laysFits_167 rfl (lv_at hl 4 rfl) ?_
                  refine lv_dup hx hb dX12_laysFits_168 rfl ?_
                  refine z_get C G clX12 5 rfl 36 (by decide) m_fl_RX12_366 rfl dX12_laysFits_169 ?_
                  refine lv_iconst (v := 1) hx hb dX12_laysFits_172 (by decide) ?_
                  refine lv_iadd hx hb dX12_laysFits_173 ?_
                  refine z_put C G clX12 5 rfl 36 (by decide) m_fl_RX12_366 rfl rfl rfl (Nat.le_of_ble_eq_true rfl) dX12_laysFits_174 (fun H locs G => ?_)
                  have G : zS T A s.heap s [[zAr T 0 m_fitPost 28 yfitPost], [zAr T 0 m_shut 7 f_shut], [zAr T 0 m_was 7 g_was_52], [zAr T 0 m_fitEnd 49 g_fitEnd_53], [zAr T 0 m_keptPosts 7 g_keptPosts_54], [zO11 mo m_all m_has i_size i_next i_where i_token i_number i_word i_wrong i_farCrossing m_read i_z0 i_crossings i_inns m_posts m_shut m_here j_steps_15 i_done j_at_49 j_gone_50 m_was m_came m_seenAt m_rowWorth m_farBy m_used i_everywhere i_again0 i_d0 i_never i_firstCame i_longRun i_moved i_crowd i_l0 (xfitMany + 1) xfitLeast j_steps_15 m_fitPost m_fitEnd m_keptPosts i_x0], [zAr T 0 m_all 3952 f_all], [zAr T 0 m_posts 7 g_posts_69]] _ _ := G
                  refine lv_iinc (v := nI (w + 1)) (lv' := [(5, .int (nI (w + 1))), (3, .int r_71), (6, .int (nI t)), (4, .int r_9), (0, .ref mo), (1, .int s_), (2, .int e_)]) hx hb dX12_laysFits_177 hl (k := 2) rfl (z_inc w 1) (by decide) (zLvf_h rfl) (fun ls hl => ?_)
                  refine lv_goto (tgt := 16) hx hb dX12_laysFits_180 (by decide) ?_
                  have G := G.sub (bs' := [[zAr T 0 m_posts 7 g_posts_69], [zAr T 0 m_shut 7 f_shut], [zAr T 0 m_was 7 g_was_52], [zAr T 0 m_keptPosts 7 g_keptPosts_54], [zAr T 0 m_fitPost 28 yfitPost], [zAr T 0 m_fitEnd 49 g_fitEnd_53], [zO11 mo m_all m_has i_size i_next i_where i_token i_number i_word i_wrong i_farCrossing m_read i_z0 i_crossings i_inns m_posts m_shut m_here j_steps_15 i_done j_at_49 j_gone_50 m_was m_came m_seenAt m_rowWorth m_farBy m_used i_everywhere i_again0 i_d0 i_never i_firstCame i_longRun i_moved i_crowd i_l0 (xfitMany + 1) xfitLeast j_steps_15 m_fitPost m_fitEnd m_keptPosts i_x0], [zAr T 0 m_all 3952 f_all]]) [7, 1, 2, 4, 0, 3, 5, 6] rfl
                  exact ih_16 (w + 1) r_71 (xfitMany + 1) xfitLeast j_steps_15 j_steps_15 j_at_49 j_gone_50 g_posts_69 g_was_52 yfitPost g_fitEnd_53 g_keptPosts_54 (show (w + 1) ≤ 16384 ∧ zMP g_posts_69 from ⟨by omega, (by first | with_reducible assumption | assumption)⟩) (show 16384 - (w + 1) < 16384 - w from by omega) _ _ ls G (lv_sub hl [0, 3, 1, 4, 5, 6] rfl)
              · have c_74n : ¬ xfitLeast.toInt ≤ j_steps_15.toInt := fun q => c_74 ((fa_le _ _).mpr q)
                refine lv_aload_n hx hb dX12_laysFits_127 rfl (lv_at hl 4 rfl) ?_
                refine z_get C G clX12 5 rfl 17 (by decide) m_fl_RX12_196 rfl dX12_laysFits_128 ?_
                refine lv_goto (tgt := 138) hx hb dX12_laysFits_131 (by decide) ?_
                refine z_put C G clX12 5 rfl 37 (by decide) m_fl_RX12_369 rfl rfl rfl (Nat.le_of_ble_eq_true rfl) dX12_laysFits_138 (fun H locs G => ?_)
                have G : zS T A s.heap s [[zAr T 0 m_fitPost 28 yfitPost], [zAr T 0 m_shut 7 f_shut], [zAr T 0 m_was 7 g_was_52], [zAr T 0 m_fitEnd 49 g_fitEnd_53], [zAr T 0 m_keptPosts 7 g_keptPosts_54], [zO11 mo m_all m_has i_size i_next i_where i_token i_number i_word i_wrong i_farCrossing m_read i_z0 i_crossings i_inns m_posts m_shut m_here j_steps_15 i_done j_at_49 j_gone_50 m_was m_came m_seenAt m_rowWorth m_farBy m_used i_everywhere i_again0 i_d0 i_never i_firstCame i_longRun i_moved i_crowd i_l0 xfitMany j_steps_15 xfitMost m_fitPost m_fitEnd m_keptPosts i_x0], [zAr T 0 m_all 3952 f_all], [zAr T 0 m_posts 7 g_posts_69]] _ _ := G
                refine lv_aload_n hx hb dX12_laysFits_141 rfl (lv_at hl 4 rfl) ?_
                refine lv_aload_n hx hb dX12_laysFits_142 rfl (lv_at hl 4 rfl) ?_
                refine z_get C G clX12 5 rfl 17 (by decide) m_fl_RX12_196 rfl dX12_laysFits_143 ?_
                refine lv_aload_n hx hb dX12_laysFits_146 rfl (lv_at hl 4 rfl) ?_
                refine z_get C G clX12 5 rfl 38 (by decide) m_fl_RX12_372 rfl dX12_laysFits_147 ?_
                refine lv_icmp_le (tgt := 160) hx hb dX12_laysFits_150 (by decide) (fun c_76 => ?_) (fun c_76 => ?_)
                · have c_76n : j_steps_15.toInt ≤ xfitMost.toInt := (fa_le _ _).mp c_76
                  refine lv_aload_n hx hb dX12_laysFits_160 rfl (lv_at hl 4 rfl) ?_
                  refine z_get C G clX12 5 rfl 38 (by decide) m_fl_RX12_372 rfl dX12_laysFits_161 ?_
                  refine z_put C G clX12 5 rfl 38 (by decide) m_fl_RX12_372 rfl rfl rfl (Nat.le_of_ble_eq_true rfl) dX12_laysFits_164 (fun H locs G => ?_)
                  have G : zS T A s.heap s [[zAr T 0 m_fitPost 28 yfitPost], [zAr T 0 m_shut 7 f_shut], [zAr T 0 m_was 7 g_was_52], [zAr T 0 m_fitEnd 49 g_fitEnd_53], [zAr T 0 m_keptPosts 7 g_keptPosts_54], [zO11 mo m_all m_has i_size i_next i_where i_token i_number i_word i_wrong i_farCrossing m_read i_z0 i_crossings i_inns m_posts m_shut m_here j_steps_15 i_done j_at_49 j_gone_50 m_was m_came m_seenAt m_rowWorth m_farBy m_used i_everywhere i_again0 i_d0 i_never i_firstCame i_longRun i_moved i_crowd i_l0 xfitMany j_steps_15 xfitMost m_fitPost m_fitEnd m_keptPosts i_x0], [zAr T 0 m_all 3952 f_all], [zAr T 0 m_posts 7 g_posts_69]] _ _ := G
                  refine lv_aload_n hx hb dX12_laysFits_167 rfl (lv_at hl 4 rfl) ?_
                  refine lv_dup hx hb dX12_laysFits_168 rfl ?_
                  refine z_get C G clX12 5 rfl 36 (by decide) m_fl_RX12_366 rfl dX12_laysFits_169 ?_
                  refine lv_iconst (v := 1) hx hb dX12_laysFits_172 (by decide) ?_
                  refine lv_iadd hx hb dX12_laysFits_173 ?_
                  refine z_put C G clX12 5 rfl 36 (by decide) m_fl_RX12_366 rfl rfl rfl (Nat.le_of_ble_eq_true rfl) dX12_laysFits_174 (fun H locs G => ?_)
                  have G : zS T A s.heap s [[zAr T 0 m_fitPost 28 yfitPost], [zAr T 0 m_shut 7 f_shut], [zAr T 0 m_was 7 g_was_52], [zAr T 0 m_fitEnd 49 g_fitEnd_53], [zAr T 0 m_keptPosts 7 g_keptPosts_54], [zO11 mo m_all m_has i_size i_next i_where i_token i_number i_word i_wrong i_farCrossing m_read i_z0 i_crossings i_inns m_posts m_shut m_here j_steps_15 i_done j_at_49 j_gone_50 m_was m_came m_seenAt m_rowWorth m_farBy m_used i_everywhere i_again0 i_d0 i_never i_firstCame i_longRun i_moved i_crowd i_l0 (xfitMany + 1) j_steps_15 xfitMost m_fitPost m_fitEnd m_keptPosts i_x0], [zAr T 0 m_all 3952 f_all], [zAr T 0 m_posts 7 g_posts_69]] _ _ := G
                  refine lv_iinc (v := nI (w + 1)) (lv' := [(5, .int (nI (w + 1))), (3, .int r_71), (6, .int (nI t)), (4, .int r_9), (0, .ref mo), (1, .int s_), (2, .int e_)]) hx hb dX12_laysFits_177 hl (k := 2) rfl (z_inc w 1) (by decide) (zLvf_h rfl) (fun ls hl => ?_)
                  refine lv_goto (tgt := 16) hx hb dX12_laysFits_180 (by decide) ?_
                  have G := G.sub (bs' := [[zAr T 0 m_posts 7 g_posts_69], [zAr T 0 m_shut 7 f_shut], [zAr T 0 m_was 7 g_was_52], [zAr T 0 m_keptPosts 7 g_keptPosts_54], [zAr T 0 m_fitPost 28 yfitPost], [zAr T 0 m_fitEnd 49 g_fitEnd_53], [zO11 mo m_all m_has i_size i_next i_where i_token i_number i_word i_wrong i_farCrossing m_read i_z0 i_crossings i_inns m_posts m_shut m_here j_steps_15 i_done j_at_49 j_gone_50 m_was m_came m_seenAt m_rowWorth m_farBy m_used i_everywhere i_again0 i_d0 i_never i_firstCame i_longRun i_moved i_crowd i_l0 (xfitMany + 1) j_steps_15 xfitMost m_fitPost m_fitEnd m_keptPosts i_x0], [zAr T 0 m_all 3952 f_all]]) [7, 1, 2, 4, 0, 3, 5, 6] rfl
                  exact ih_16 (w + 1) r_71 (xfitMany + 1) j_steps_15 xfitMost j_steps_15 j_at_49 j_gone_50 g_posts_69 g_was_52 yfitPost g_fitEnd_53 g_keptPosts_54 (show (w + 1) ≤ 16384 ∧ zMP g_posts_69 from ⟨by omega, (by first | with_reducible assumption | assumption)⟩) (show 16384 - (w + 1) < 16384 - w from by omega) _ _ ls G (lv_sub hl [0, 3, 1, 4, 5, 6] rfl)
                · have c_76n : ¬ j_steps_15.toInt ≤ xfitMost.toInt := fun q => c_76 ((fa_le _ _).mpr q)
                  refine lv_aload_n hx hb dX12_laysFits_153 rfl (lv_at hl 4 rfl) ?_
                  refine z_get C G clX12 5 rfl 17 (by decide) m_fl_RX12_196 rfl dX12_laysFits_154 ?_
                  refine lv_goto (tgt := 164) hx hb dX12_laysFits_157 (by decide) ?_
                  refine z_put C G clX12 5 rfl 38 (by decide) m_fl_RX12_372 rfl rfl rfl (Nat.le_of_ble_eq_true rfl) dX12_laysFits_164 (fun H locs G => ?_)
                  have G : zS T A s.heap s [[zAr T 0 m_fitPost 28 yfitPost], [zAr T 0 m_shut 7 f_shut], [zAr T 0 m_was 7 g_was_52], [zAr T 0 m_fitEnd 49 g_fitEnd_53], [zAr T 0 m_keptPosts 7 g_keptPosts_54], [zO11 mo m_all m_has i_size i_next i_where i_token i_number i_word i_wrong i_farCrossing m_read i_z0 i_crossings i_inns m_posts m_shut m_here j_steps_15 i_done j_at_49 j_gone_50 m_was m_came m_seenAt m_rowWorth m_farBy m_used i_everywhere i_again0 i_d0 i_never i_firstCame i_longRun i_moved i_crowd i_l0 xfitMany j_steps_15 j_steps_15 m_fitPost m_fitEnd m_keptPosts i_x0], [zAr T 0 m_all 3952 f_all], [zAr T 0 m_posts 7 g_posts_69]] _ _ := G
                  refine lv_aload_n hx hb dX12_laysFits_167 rfl (lv_at hl 4 rfl) ?_
                  refine lv_dup hx hb dX12_laysFits_168 rfl ?_
                  refine z_get C G clX12 5 rfl 36 (by decide) m_fl_RX12_366 rfl dX12_laysFits_169 ?_
                  refine lv_iconst (v := 1) hx hb dX12_laysFits_172 (by decide) ?_
                  refine lv_iadd hx hb dX12_laysFits_173 ?_
                  refine z_put C G clX12 5 rfl 36 (by decide) m_fl_RX12_366 rfl rfl rfl (Nat.le_of_ble_eq_true rfl) dX12_laysFits_174 (fun H locs G => ?_)
                  have G : zS T A s.heap s [[zAr T 0 m_fitPost 28 yfitPost], [zAr T 0 m_shut 7 f_shut], [zAr T 0 m_was 7 g_was_52], [zAr T 0 m_fitEnd 49 g_fitEnd_53], [zAr T 0 m_keptPosts 7 g_keptPosts_54], [zO11 mo m_all m_has i_size i_next i_where i_token i_number i_word i_wrong i_farCrossing m_read i_z0 i_crossings i_inns m_posts m_shut m_here j_steps_15 i_done j_at_49 j_gone_50 m_was m_came m_seenAt m_rowWorth m_farBy m_used i_everywhere i_again0 i_d0 i_never i_firstCame i_longRun i_moved i_crowd i_l0 (xfitMany + 1) j_steps_15 j_steps_15 m_fitPost m_fitEnd m_keptPosts i_x0], [zAr T 0 m_all 3952 f_all], [zAr T 0 m_posts 7 g_posts_69]] _ _ := G
                  refine lv_iinc (v := nI (w + 1)) (lv' := [(5, .int (nI (w + 1))), (3, .int r_71), (6, .int (nI t)), (4, .int r_9), (0, .ref mo), (1, .int s_), (2, .int e_)]) hx hb dX12_laysFits_177 hl (k := 2) rfl (z_inc w 1) (by decide) (zLvf_h rfl) (fun ls hl => ?_)
                  refine lv_goto (tgt := 16) hx hb dX12_laysFits_180 (by decide) ?_
                  have G := G.sub (bs' := [[zAr T 0 m_posts 7 g_posts_69], [zAr T 0 m_shut 7 f_shut], [zAr T 0 m_was 7 g_was_52], [zAr T 0 m_keptPosts 7 g_keptPosts_54], [zAr T 0 m_fitPost 28 yfitPost], [zAr T 0 m_fitEnd 49 g_fitEnd_53], [zO11 mo m_all m_has i_size i_next i_where i_token i_number i_word i_wrong i_farCrossing m_read i_z0 i_crossings i_inns m_posts m_shut m_here j_steps_15 i_done j_at_49 j_gone_50 m_was m_came m_seenAt m_rowWorth m_farBy m_used i_everywhere i_again0 i_d0 i_never i_firstCame i_longRun i_moved i_crowd i_l0 (xfitMany + 1) j_steps_15 j_steps_15 m_fitPost m_fitEnd m_keptPosts i_x0], [zAr T 0 m_all 3952 f_all]]) [7, 1, 2, 4, 0, 3, 5, 6] rfl
                  exact ih_16 (w + 1) r_71 (xfitMany + 1) j_steps_15 j_steps_15 j_steps_15 j_at_49 j_gone_50 g_posts_69 g_was_52 yfitPost g_fitEnd_53 g_keptPosts_54 (show (w + 1) ≤ 16384 ∧ zMP g_posts_69 from ⟨by omega, (by first | with_reducible assumption | assumption)⟩) (show 16384 - (w + 1) < 16384 - w from by omega) _ _ ls G (lv_sub hl [0, 3, 1, 4, 5, 6] rfl)
        · have c_61n : ¬ i_crossings.toInt ≤ (t : Int) := fun q => c_61 ((fa_le _ _).mpr (by rw [nI_toInt (n := t) (by omega)]; exact q))
          refine lv_aload_n hx hb dX12_laysFits_65 rfl (lv_at hl 4 rfl) ?_
          refine z_get C G clX12 5 rfl 39 (by decide) m_fl_RX12_47 rfl dX12_laysFits_66 ?_
          refine lv_iconst (v := 4) hx hb dX12_laysFits_69 (by decide) ?_
          refine lv_iload hx hb dX12_laysFits_70 (lv_at hl 0 rfl) ?_
          refine lv_imul hx hb dX12_laysFits_72 ?_
          refine lv_topi (fun y_77 ey_77 => ?_)
          obtain rfl : y_77 = nI (4 * t) := ey_77.trans (z_imuln 4 t rfl rfl)
          refine lv_aload_n hx hb dX12_laysFits_73 rfl (lv_at hl 4 rfl) ?_
          refine z_get C G clX12 5 rfl 14 (by decide) m_fl_RX12_20 rfl dX12_laysFits_74 ?_
          refine lv_iload hx hb dX12_laysFits_77 (lv_at hl 0 rfl) ?_
          have hpt := (show zMP g_posts_58 by first | with_reducible assumption | assumption) t (by omega)
          refine z_ild C G 7 rfl (vp_in_nI (by omega) (by decide)) dX12_laysFits_79 ?_
          refine lv_topi (fun v_78 ev_78 => ?_)
          rw [nI_clamp (by omega)] at ev_78
          subst ev_78
          refine lv_iadd hx hb dX12_laysFits_80 ?_
          refine lv_topi (fun y_79 ey_79 => ?_)
          have ey_79i : y_79.toInt = ((4 * t) : Int) + (g_posts_58 t).toInt := by rw [ey_79]; exact (z_iaddI (x := (nI (4 * t))) (y := (g_posts_58 t)) (by rw [nI_toInt (n := 4 * t) (by omega)]; show -2147483648 ≤ ((4 * t) : Int) + (g_posts_58 t).toInt; omega) (by rw [nI_toInt (n := 4 * t) (by omega)]; show ((4 * t) : Int) + (g_posts_58 t).toInt < 2147483648; omega)).trans (by rw [nI_toInt (n := 4 * t) (by omega)] <;> rfl)
          refine lv_dup2_11 hx hb dX12_laysFits_81 rfl rfl ?_
          refine z_ild C G 0 rfl (vp_in_iff.mpr ⟨by omega, by omega⟩) dX12_laysFits_82 ?_
          refine lv_topi (fun v_80 ev_80 => ?_)
          subst ev_80
          refine lv_iconst (v := 1) hx hb dX12_laysFits_83 (by decide) ?_
          refine lv_iadd hx hb dX12_laysFits_84 ?_
          refine z_ist C G 0 rfl (vp_in_iff.mpr ⟨by omega, by omega⟩) dX12_laysFits_85 (fun H locs G => ?_)
          have G : zS T A s.heap s [[zAr T 0 m_fitPost 28 (upd yfitPost y_79.toNatClampNeg ((yfitPost y_79.toNatClampNeg) + 1))], [zAr T 0 m_shut 7 f_shut], [zAr T 0 m_was 7 g_was_52], [zAr T 0 m_fitEnd 49 g_fitEnd_53], [zAr T 0 m_keptPosts 7 g_keptPosts_54], [zO11 mo m_all m_has i_size i_next i_where i_token i_number i_word i_wrong i_farCrossing m_read i_z0 i_crossings i_inns m_posts m_shut m_here j_steps_15 i_done j_at_49 j_gone_50 m_was m_came m_seenAt m_rowWorth m_farBy m_used i_everywhere i_again0 i_d0 i_never i_firstCame i_longRun i_moved i_crowd i_l0 xfitMany xfitLeast xfitMost m_fitPost m_fitEnd m_keptPosts i_x0], [zAr T 0 m_all 3952 f_all], [zAr T 0 m_posts 7 g_posts_58]] _ _ := G
          refine lv_iinc (v := nI (t + 1)) (lv' := [(6, .int (nI (t + 1))), (5, .int (nI w)), (4, .int r_9), (3, .int u), (0, .ref mo), (1, .int s_), (2, .int e_)]) hx hb dX12_laysFits_86 hl (k := 0) rfl (z_inc t 1) (by decide) (zLvf_h rfl) (fun ls hl => ?_)
          refine lv_goto (tgt := 56) hx hb dX12_laysFits_89 (by decide) ?_
          exact ih_56 (t + 1) (upd yfitPost y_79.toNatClampNeg ((yfitPost y_79.toNatClampNeg) + 1)) (show (t + 1) ≤ 7 from by omega) (show 7 - (t + 1) < 7 - t from by omega) _ _ ls G (lv_sub hl [0, 1, 2, 3, 4, 5, 6] rfl)
    · have c_23n : r_22.toInt = (0 : Int) := (fa_eq _ _).mp c_23
      refine lv_goto (tgt := 177) hx hb dX12_laysFits_36 (by decide) ?_
      refine lv_iinc (v := nI (w + 1)) (lv' := [(5, .int (nI (w + 1))), (4, .int r_9), (3, .int u), (0, .ref mo), (1, .int s_), (2, .int e_)]) hx hb dX12_laysFits_177 hl (k := 0) rfl (z_inc w 1) (by decide) (zLvf_h rfl) (fun ls hl => ?_)
      refine lv_goto (tgt := 16) hx hb dX12_laysFits_180 (by decide) ?_
      have G := G.sub (bs' := [[zAr T 0 m_posts 7 g_posts_18], [zAr T 0 m_shut 7 f_shut], [zAr T 0 m_was 7 g_was_19], [zAr T 0 m_keptPosts 7 xkeptPosts], [zAr T 0 m_fitPost 28 xfitPost], [zAr T 0 m_fitEnd 49 xfitEnd], [zO11 mo m_all m_has i_size i_next i_where i_token i_number i_word i_wrong i_farCrossing m_read i_z0 i_crossings i_inns m_posts m_shut m_here j_steps_15 i_done j_at_16 j_gone_17 m_was m_came m_seenAt m_rowWorth m_farBy m_used i_everywhere i_again0 i_d0 i_never i_firstCame i_longRun i_moved i_crowd i_l0 xfitMany xfitLeast xfitMost m_fitPost m_fitEnd m_keptPosts i_x0], [zAr T 0 m_all 3952 f_all]]) [5, 6, 7, 0, 1, 2, 3, 4] rfl
      exact ih_16 (w + 1) u xfitMany xfitLeast xfitMost j_steps_15 j_at_16 j_gone_17 g_posts_18 g_was_19 xfitPost xfitEnd xkeptPosts (show (w + 1) ≤ 16384 ∧ zMP g_posts_18 from ⟨by omega, (by first | with_reducible assumption | assumption)⟩) (show 16384 - (w + 1) < 16384 - w from by omega) _ _ ls G (lv_sub hl [0, 1, 2, 3, 4, 5] rfl)
set_option maxHeartbeats 4000000 in
set_option maxRecDepth 100000 in
/-- c_m_askOf -/
theorem c_m_askOf (l : Launch) (T : zTy) (mo : Nat) (m_all : Nat) (m_has : Nat) (i_size : Int32) (i_next : Int32) (i_where : Int32) (i_token : Int32) (i_number : Int32) (i_word : Int32) (i_wrong : Int32) (i_farCrossing : Int32) (m_read : Nat) (i_z0 : Int32) (i_crossings : Int32) (i_inns : Int32) (m_posts : Nat) (m_shut : Nat) (m_here : Nat) (i_steps : Int32) (i_done : Int32) (i_at : Int32) (i_gone : Int32) (m_was : Nat) (m_came : Nat) (m_seenAt : Nat) (m_rowWorth : Nat) (m_farBy : Nat) (m_used : Nat) (i_everywhere : Int32) (i_again0 : Int32) (i_d0 : Int32) (i_never : Int32) (i_firstCame : Int32) (i_longRun : Int32) (i_moved : Int32) (i_crowd : Int32) (i_l0 : Int32) (i_fitMany : Int32) (i_fitLeast : Int32) (i_fitMost : Int32) (m_fitPost : Nat) (m_fitEnd : Nat) (m_keptPosts : Nat) (i_x0 : Int32) (f_fitEnd : Nat → Int32) (hcr : 0 ≤ i_crossings.toInt ∧ i_crossings.toInt ≤ 7) : zMi l T yX12_askOf cX12_askOf 6 (some .int) 2 0 0 [.ref mo] [[zO11 mo m_all m_has i_size i_next i_where i_token i_number i_word i_wrong i_farCrossing m_read i_z0 i_crossings i_inns m_posts m_shut m_here i_steps i_done i_at i_gone m_was m_came m_seenAt m_rowWorth m_farBy m_used i_everywhere i_again0 i_d0 i_never i_firstCame i_longRun i_moved i_crowd i_l0 i_fitMany i_fitLeast i_fitMost m_fitPost m_fitEnd m_keptPosts i_x0], [zAr T 0 m_fitEnd 49 f_fitEnd]] (fun (r : Int32) bs => bs = [[zO11 mo m_all m_has i_size i_next i_where i_token i_number i_word i_wrong i_farCrossing m_read i_z0 i_crossings i_inns m_posts m_shut m_here i_steps i_done i_at i_gone m_was m_came m_seenAt m_rowWorth m_farBy m_used i_everywhere i_again0 i_d0 i_never i_firstCame i_longRun i_moved i_crowd i_l0 i_fitMany i_fitLeast i_fitMost m_fitPost m_fitEnd m_keptPosts i_x0], [zAr T 0 m_fitEnd 49 f_fitEnd]]) := by
  refine zMi_of (own := RX12) (by decide) rfl (Nat.le_of_ble_eq_true rfl) ?_
  intro p e s m args below meth c A ls C hr hlocks hnm hAe G hl
  refine zHide (fun Qz_ hQz_ => ?_)
  have hx := C.1
  have hb := C.2.1
  have hl : lv_has ls 6 [(0, .ref mo)] := hl
  refine lv_iconst (v := (-1)) hx hb dX12_askOf_0 (by decide) ?_
  refine lv_istore_n (lv' := [(1, .int (-1)), (0, .ref mo)]) hx hb dX12_askOf_1 rfl hl (by decide) (zLvf_h rfl) (fun ls hl => ?_)
  refine lv_ldcw (v := 99999999) hx hb C.2.2.2.1 (C.2.2.2.2 _ m_ko_RX12_384) dX12_askOf_2 ?_
  refine lv_istore_n (lv' := [(2, .int 99999999), (1, .int (-1)), (0, .ref mo)]) hx hb dX12_askOf_5 rfl hl (by decide) (zLvf_h rfl) (fun ls hl => ?_)
  refine lv_iconst (v := 0) hx hb dX12_askOf_6 (by decide) ?_
  refine lv_istore_n (lv' := [(3, .int 0), (2, .int 99999999), (1, .int (-1)), (0, .ref mo)]) hx hb dX12_askOf_7 rfl hl (by decide) (zLvf_h rfl) (fun ls hl => ?_)
  refine z_lp3 (T := T) 8 (fun (i : Nat) (u : Int32) (v : Int32) => [[zO11 mo m_all m_has i_size i_next i_where i_token i_number i_word i_wrong i_farCrossing m_read i_z0 i_crossings i_inns m_posts m_shut m_here i_steps i_done i_at i_gone m_was m_came m_seenAt m_rowWorth m_farBy m_used i_everywhere i_again0 i_d0 i_never i_firstCame i_longRun i_moved i_crowd i_l0 i_fitMany i_fitLeast i_fitMost m_fitPost m_fitEnd m_keptPosts i_x0], [zAr T 0 m_fitEnd 49 f_fitEnd]]) (fun (i : Nat) (u : Int32) (v : Int32) => [(3, .int (nI i)), (2, .int v), (1, .int u), (0, .ref mo)]) (fun (i : Nat) (u : Int32) (v : Int32) => i ≤ 7) (fun (i : Nat) (u : Int32) (v : Int32) => 7 - i) ?_ 0 (-1) 99999999 (show 0 ≤ 7 from by omega) G (lv_sub hl [0, 1, 2, 3] rfl)
  intro i u v hi ih_8 H locs ls G hl
  replace hi : i ≤ 7 := hi
  replace G : zS T A s.heap s [[zO11 mo m_all m_has i_size i_next i_where i_token i_number i_word i_wrong i_farCrossing m_read i_z0 i_crossings i_inns m_posts m_shut m_here i_steps i_done i_at i_gone m_was m_came m_seenAt m_rowWorth m_farBy m_used i_everywhere i_again0 i_d0 i_never i_firstCame i_longRun i_moved i_crowd i_l0 i_fitMany i_fitLeast i_fitMost m_fitPost m_fitEnd m_keptPosts i_x0], [zAr T 0 m_fitEnd 49 f_fitEnd]] _ _ := G
  replace hl : lv_has ls 6 [(3, .int (nI i)), (2, .int v), (1, .int u), (0, .ref mo)] := hl
  refine lv_iload_n hx hb dX12_askOf_8 rfl (lv_at hl 0 rfl) ?_
  refine lv_aload_n hx hb dX12_askOf_9 rfl (lv_at hl 3 rfl) ?_
  refine z_get C G clX12 0 rfl 12 (by decide) m_fl_RX12_169 rfl dX12_askOf_10 ?_
  refine lv_icmp_ge (tgt := 109) hx hb dX12_askOf_13 (by decide) (fun c_1 => ?_) (fun c_1 => ?_)
  · have c_1n : i_crossings.toInt ≤ (i : Int) := by have q := (fa_le _ _).mp c_1; rw [nI_toInt (n := i) (by omega)] at q; exact q
    refine lv_iload_n hx hb dX12_askOf_109 rfl (lv_at hl 2 rfl) ?_
    exact z_back hQz_ (z_iret C hr hlocks G (Nat.le_of_ble_eq_true rfl) (Nat.le_of_ble_eq_true rfl) dX12_askOf_110 rfl)
  · have c_1n : ¬ i_crossings.toInt ≤ (i : Int) := fun q => c_1 ((fa_le _ _).mpr (by rw [nI_toInt (n := i) (by omega)]; exact q))
    refine lv_aload_n hx hb dX12_askOf_16 rfl (lv_at hl 3 rfl) ?_
    refine z_get C G clX12 0 rfl 36 (by decide) m_fl_RX12_366 rfl dX12_askOf_17 ?_
    refine lv_if_le (tgt := 109) hx hb dX12_askOf_20 (by decide) (fun c_2 => ?_) (fun c_2 => ?_)
    · have c_2n : i_fitMany.toInt ≤ (0 : Int) := (fa_le _ _).mp c_2
      refine lv_iload_n hx hb dX12_askOf_109 rfl (lv_at hl 2 rfl) ?_
      exact z_back hQz_ (z_iret C hr hlocks G (Nat.le_of_ble_eq_true rfl) (Nat.le_of_ble_eq_true rfl) dX12_askOf_110 rfl)
    · have c_2n : ¬ i_fitMany.toInt ≤ (0 : Int) := fun q => c_2 ((fa_le _ _).mpr q)
      refine lv_aload_n hx hb dX12_askOf_23 rfl (lv_at hl 3 rfl) ?_
      refine lv_iload_n hx hb dX12_askOf_24 rfl (lv_at hl 0 rfl) ?_
      have ti_3 : (nI i).toInt = ((i : Nat) : Int) := nI_toInt (by omega)
      refine z_Vi (bc := [[zO11 mo m_all m_has i_size i_next i_where i_token i_number i_word i_wrong i_farCrossing m_read i_z0 i_crossings i_inns m_posts m_shut m_here i_steps i_done i_at i_gone m_was m_came m_seenAt m_rowWorth m_farBy m_used i_everywhere i_again0 i_d0 i_never i_firstCame i_longRun i_moved i_crowd i_l0 i_fitMany i_fitLeast i_fitMost m_fitPost m_fitEnd m_keptPosts i_x0]]) (br := [[zAr T 0 m_fitEnd 49 f_fitEnd]]) (As := [.int (nI i)]) (rest := []) C G (c_m_isInn l T mo m_all m_has i_size i_next i_where i_token i_number i_word i_wrong i_farCrossing m_read i_z0 i_crossings i_inns m_posts m_shut m_here i_steps i_done i_at i_gone m_was m_came m_seenAt m_rowWorth m_farBy m_used i_everywhere i_again0 i_d0 i_never i_firstCame i_longRun i_moved i_crowd i_l0 i_fitMany i_fitLeast i_fitMost m_fitPost m_fitEnd m_keptPosts i_x0 (nI i)) (kV_RX12_178 C.2.2.2.2 (Nat.le_of_ble_eq_true rfl) (Nat.le_of_ble_eq_true rfl)) [0] [0] rfl rfl (ci := 11) (qc := (RX12, TX12, 43)) rfl rfl (List.mem_flatten.mpr ⟨_, List.mem_of_getElem? (i := 0) rfl, List.mem_cons_self⟩) rfl rfl hl.1 dX12_askOf_25 (Nat.le_of_ble_eq_true rfl) (Nat.le_of_ble_eq_true rfl) (fun r_5 b1 H locs hw G => ?_)
      refine zAn2 hw ?_
      intro hbs9 hc_4
      clear hw
      subst hbs9
      have G : zS T A s.heap s [[zAr T 0 m_fitEnd 49 f_fitEnd], [zO11 mo m_all m_has i_size i_next i_where i_token i_number i_word i_wrong i_farCrossing m_read i_z0 i_crossings i_inns m_posts m_shut m_here i_steps i_done i_at i_gone m_was m_came m_seenAt m_rowWorth m_farBy m_used i_everywhere i_again0 i_d0 i_never i_firstCame i_longRun i_moved i_crowd i_l0 i_fitMany i_fitLeast i_fitMost m_fitPost m_fitEnd m_keptPosts i_x0]] _ _ := G
      rcases hc_4 with ⟨rfl, h_6⟩ | ⟨rfl, h_7⟩
      · have h_6 : zInn i_inns (nI i) := h_6
        refine lv_if_eq (tgt := 34) hx hb dX12_askOf_28 (by decide) (fun q => absurd q (by decide)) (fun _ => ?_)
        refine lv_goto (tgt := 103) hx hb dX12_askOf_31 (by decide) ?_
        refine lv_iinc (v := nI (i + 1)) (lv' := [(3, .int (nI (i + 1))), (2, .int v), (1, .int u), (0, .ref mo)]) hx hb dX12_askOf_103 hl (k := 0) rfl (z_inc i 1) (by decide) (zLvf_h rfl) (fun ls hl => ?_)
        refine lv_goto (tgt := 8) hx hb dX12_askOf_106 (by decide) ?_
        have G := G.sub (bs' := [[zO11 mo m_all m_has i_size i_next i_where i_token i_number i_word i_wrong i_farCrossing m_read i_z0 i_crossings i_inns m_posts m_shut m_here i_steps i_done i_at i_gone m_was m_came m_seenAt m_rowWorth m_farBy m_used i_everywhere i_again0 i_d0 i_never i_firstCame i_longRun i_moved i_crowd i_l0 i_fitMany i_fitLeast i_fitMost m_fitPost m_fitEnd m_keptPosts i_x0], [zAr T 0 m_fitEnd 49 f_fitEnd]]) [1, 0] rfl
        exact ih_8 (i + 1) u v (show (i + 1) ≤ 7 from by omega) (show 7 - (i + 1) < 7 - i from by omega) _ _ ls G (lv_sub hl [0, 1, 2, 3] rfl)
      · have h_7 : ¬ zInn i_inns (nI i) := h_7
        refine lv_if_eq (tgt := 34) hx hb dX12_askOf_28 (by decide) (fun _ => ?_) (fun q => absurd (by decide) q)
        refine lv_iconst (v := 0) hx hb dX12_askOf_34 (by decide) ?_
        refine lv_istore (lv' := [(4, .int 0), (3, .int (nI i)), (2, .int v), (1, .int u), (0, .ref mo)]) hx hb dX12_askOf_35 hl (by decide) (zLvf_h rfl) (fun ls hl => ?_)
        refine lv_iconst (v := 0) hx hb dX12_askOf_37 (by decide) ?_
        refine lv_istore (lv' := [(5, .int 0), (4, .int 0), (3, .int (nI i)), (2, .int v), (1, .int u), (0, .ref mo)]) hx hb dX12_askOf_38 hl (by decide) (zLvf_h rfl) (fun ls hl => ?_)
        refine z_lp2 (T := T) 40 (fun (k : Nat) (v2 : Int32) => [[zAr T 0 m_fitEnd 49 f_fitEnd], [zO11 mo m_all m_has i_size i_next i_where i_token i_number i_word i_wrong i_farCrossing m_read i_z0 i_crossings i_inns m_posts m_shut m_here i_steps i_done i_at i_gone m_was m_came m_seenAt m_rowWorth m_farBy m_used i_everywhere i_again0 i_d0 i_never i_firstCame i_longRun i_moved i_crowd i_l0 i_fitMany i_fitLeast i_fitMost m_fitPost m_fitEnd m_keptPosts i_x0]]) (fun (k : Nat) (v2 : Int32) => [(5, .int (nI k)), (4, .int v2), (3, .int (nI i)), (2, .int v), (1, .int u), (0, .ref mo)]) (fun (k : Nat) (v2 : Int32) => k ≤ 7) (fun (k : Nat) (v2 : Int32) => 7 - k) ?_ 0 0 (show 0 ≤ 7 from by omega) G (lv_sub hl [0, 1, 2, 3, 4, 5] rfl)
        intro k v2 hk ih_40 H locs ls G hl
        replace hk : k ≤ 7 := hk
        replace G : zS T A s.heap s [[zAr T 0 m_fitEnd 49 f_fitEnd], [zO11 mo m_all m_has i_size i_next i_where i_token i_number i_word i_wrong i_farCrossing m_read i_z0 i_crossings i_inns m_posts m_shut m_here i_steps i_done i_at i_gone m_was m_came m_seenAt m_rowWorth m_farBy m_used i_everywhere i_again0 i_d0 i_never i_firstCame i_longRun i_moved i_crowd i_l0 i_fitMany i_fitLeast i_fitMost m_fitPost m_fitEnd m_keptPosts i_x0]] _ _ := G
        replace hl : lv_has ls 6 [(5, .int (nI k)), (4, .int v2), (3, .int (nI i)), (2, .int v), (1, .int u), (0, .ref mo)] := hl
        refine lv_iload hx hb dX12_askOf_40 (lv_at hl 0 rfl) ?_
        refine lv_bipush (v := 7) hx hb dX12_askOf_42 (by decide) ?_
        refine lv_icmp_ge (tgt := 89) hx hb dX12_askOf_44 (by decide) (fun c_8 => ?_) (fun c_8 => ?_)
        · have c_8n : 7 ≤ k := (nI_leI (a := 7) (b := k) (by omega) (by omega)).mp c_8
          refine lv_iload hx hb dX12_askOf_89 (lv_at hl 1 rfl) ?_
          refine lv_iload_n hx hb dX12_askOf_91 rfl (lv_at hl 3 rfl) ?_
          refine lv_icmp_lt (tgt := 98) hx hb dX12_askOf_92 (by decide) (fun c_9 => ?_) (fun c_9 => ?_)
          · have c_9n : v2.toInt < v.toInt := (fa_lt _ _).mp c_9
            refine lv_iload_n hx hb dX12_askOf_98 rfl (lv_at hl 2 rfl) ?_
            refine lv_istore_n (lv' := [(1, .int (nI i)), (5, .int (nI k)), (4, .int v2), (3, .int (nI i)), (2, .int v), (0, .ref mo)]) hx hb dX12_askOf_99 rfl hl (by decide) (zLvf_h rfl) (fun ls hl => ?_)
            refine lv_iload hx hb dX12_askOf_100 (lv_at hl 2 rfl) ?_
            refine lv_istore_n (lv' := [(2, .int v2), (1, .int (nI i)), (5, .int (nI k)), (4, .int v2), (3, .int (nI i)), (0, .ref mo)]) hx hb dX12_askOf_102 rfl hl (by decide) (zLvf_h rfl) (fun ls hl => ?_)
            refine lv_iinc (v := nI (i + 1)) (lv' := [(3, .int (nI (i + 1))), (2, .int v2), (1, .int (nI i)), (5, .int (nI k)), (4, .int v2), (0, .ref mo)]) hx hb dX12_askOf_103 hl (k := 4) rfl (z_inc i 1) (by decide) (zLvf_h rfl) (fun ls hl => ?_)
            refine lv_goto (tgt := 8) hx hb dX12_askOf_106 (by decide) ?_
            have G := G.sub (bs' := [[zO11 mo m_all m_has i_size i_next i_where i_token i_number i_word i_wrong i_farCrossing m_read i_z0 i_crossings i_inns m_posts m_shut m_here i_steps i_done i_at i_gone m_was m_came m_seenAt m_rowWorth m_farBy m_used i_everywhere i_again0 i_d0 i_never i_firstCame i_longRun i_moved i_crowd i_l0 i_fitMany i_fitLeast i_fitMost m_fitPost m_fitEnd m_keptPosts i_x0], [zAr T 0 m_fitEnd 49 f_fitEnd]]) [1, 0] rfl
            exact ih_8 (i + 1) (nI i) v2 (show (i + 1) ≤ 7 from by omega) (show 7 - (i + 1) < 7 - i from by omega) _ _ ls G (lv_sub hl [0, 1, 2, 5] rfl)
          · have c_9n : ¬ v2.toInt < v.toInt := fun q => c_9 ((fa_lt _ _).mpr q)
            refine lv_goto (tgt := 103) hx hb dX12_askOf_95 (by decide) ?_
            refine lv_iinc (v := nI (i + 1)) (lv' := [(3, .int (nI (i + 1))), (5, .int (nI k)), (4, .int v2), (2, .int v), (1, .int u), (0, .ref mo)]) hx hb dX12_askOf_103 hl (k := 2) rfl (z_inc i 1) (by decide) (zLvf_h rfl) (fun ls hl => ?_)
            refine lv_goto (tgt := 8) hx hb dX12_askOf_106 (by decide) ?_
            have G := G.sub (bs' := [[zO11 mo m_all m_has i_size i_next i_where i_token i_number i_word i_wrong i_farCrossing m_read i_z0 i_crossings i_inns m_posts m_shut m_here i_steps i_done i_at i_gone m_was m_came m_seenAt m_rowWorth m_farBy m_used i_everywhere i_again0 i_d0 i_never i_firstCame i_longRun i_moved i_crowd i_l0 i_fitMany i_fitLeast i_fitMost m_fitPost m_fitEnd m_keptPosts i_x0], [zAr T 0 m_fitEnd 49 f_fitEnd]]) [1, 0] rfl
            exact ih_8 (i + 1) u v (show (i + 1) ≤ 7 from by omega) (show 7 - (i + 1) < 7 - i from by omega) _ _ ls G (lv_sub hl [0, 3, 4, 5] rfl)
        · have c_8n : ¬ 7 ≤ k := fun q => c_8 ((nI_leI (a := 7) (b := k) (by omega) (by omega)).mpr q)
          refine lv_aload_n hx hb dX12_askOf_47 rfl (lv_at hl 5 rfl) ?_
          refine z_get C G clX12 1 rfl 40 (by decide) m_fl_RX12_50 rfl dX12_askOf_48 ?_
          refine lv_bipush (v := 7) hx hb dX12_askOf_51 (by decide) ?_
          refine lv_iload_n hx hb dX12_askOf_53 rfl (lv_at hl 2 rfl) ?_
          refine lv_imul hx hb dX12_askOf_54 ?_
          refine lv_topi (fun y_10 ey_10 => ?_)
          obtain rfl : y_10 = nI (7 * i) := ey_10.trans (z_imuln 7 i rfl rfl)
          refine lv_iload hx hb dX12_askOf_55 (lv_at hl 0 rfl) ?_
          refine lv_iadd hx hb dX12_askOf_57 ?_
          refine lv_topi (fun y_11 ey_11 => ?_)
          obtain rfl : y_11 = nI ((7 * i) + k) := ey_11.trans (z_iaddn (7 * i) k rfl rfl)
          refine z_ild C G 0 rfl (vp_in_nI (by omega) (by decide)) dX12_askOf_58 ?_
          refine lv_topi (fun v_12 ev_12 => ?_)
          rw [nI_clamp (by omega)] at ev_12
          subst ev_12
          refine lv_iload hx hb dX12_askOf_59 (lv_at hl 1 rfl) ?_
          refine lv_icmp_le (tgt := 79) hx hb dX12_askOf_61 (by decide) (fun c_13 => ?_) (fun c_13 => ?_)
          · have c_13n : (f_fitEnd ((7 * i) + k)).toInt ≤ v2.toInt := (fa_le _ _).mp c_13
            refine lv_iload hx hb dX12_askOf_79 (lv_at hl 1 rfl) ?_
            refine lv_istore (lv' := [(4, .int v2), (5, .int (nI k)), (3, .int (nI i)), (2, .int v), (1, .int u), (0, .ref mo)]) hx hb dX12_askOf_81 hl (by decide) (zLvf_h rfl) (fun ls hl => ?_)
            refine lv_iinc (v := nI (k + 1)) (lv' := [(5, .int (nI (k + 1))), (4, .int v2), (3, .int (nI i)), (2, .int v), (1, .int u), (0, .ref mo)]) hx hb dX12_askOf_83 hl (k := 1) rfl (z_inc k 1) (by decide) (zLvf_h rfl) (fun ls hl => ?_)
            refine lv_goto (tgt := 40) hx hb dX12_askOf_86 (by decide) ?_
            exact ih_40 (k + 1) v2 (show (k + 1) ≤ 7 from by omega) (show 7 - (k + 1) < 7 - k from by omega) _ _ ls G (lv_sub hl [0, 1, 2, 3, 4, 5] rfl)
          · have c_13n : ¬ (f_fitEnd ((7 * i) + k)).toInt ≤ v2.toInt := fun q => c_13 ((fa_le _ _).mpr q)
            refine lv_aload_n hx hb dX12_askOf_64 rfl (lv_at hl 5 rfl) ?_
            refine z_get C G clX12 1 rfl 40 (by decide) m_fl_RX12_50 rfl dX12_askOf_65 ?_
            refine lv_bipush (v := 7) hx hb dX12_askOf_68 (by decide) ?_
            refine lv_iload_n hx hb dX12_askOf_70 rfl (lv_at hl 2 rfl) ?_
            refine lv_imul hx hb dX12_askOf_71 ?_
            refine lv_topi (fun y_14 ey_14 => ?_)
            obtain rfl : y_14 = nI (7 * i) := ey_14.trans (z_imuln 7 i rfl rfl)
            refine lv_iload hx hb dX12_askOf_72 (lv_at hl 0 rfl) ?_
            refine lv_iadd hx hb dX12_askOf_74 ?_
            refine lv_topi (fun y_15 ey_15 => ?_)
            obtain rfl : y_15 = nI ((7 * i) + k) := ey_15.trans (z_iaddn (7 * i) k rfl rfl)
            refine z_ild C G 0 rfl (vp_in_nI (by omega) (by decide)) dX12_askOf_75 ?_
            refine lv_topi (fun v_16 ev_16 => ?_)
            rw [nI_clamp (by omega)] at ev_16
            subst ev_16
            refine lv_goto (tgt := 81) hx hb dX12_askOf_76 (by decide) ?_
            refine lv_istore (lv' := [(4, .int (f_fitEnd ((7 * i) + k))), (5, .int (nI k)), (3, .int (nI i)), (2, .int v), (1, .int u), (0, .ref mo)]) hx hb dX12_askOf_81 hl (by decide) (zLvf_h rfl) (fun ls hl => ?_)
            refine lv_iinc (v := nI (k + 1)) (lv' := [(5, .int (nI (k + 1))), (4, .int (f_fitEnd ((7 * i) + k))), (3, .int (nI i)), (2, .int v), (1, .int u), (0, .ref mo)]) hx hb dX12_askOf_83 hl (k := 1) rfl (z_inc k 1) (by decide) (zLvf_h rfl) (fun ls hl => ?_)
            refine lv_goto (tgt := 40) hx hb dX12_askOf_86 (by decide) ?_
            exact ih_40 (k + 1) (f_fitEnd ((7 * i) + k)) (show (k + 1) ≤ 7 from by omega) (show 7 - (k + 1) < 7 - k from by omega) _ _ ls G (lv_sub hl [0, 1, 2, 3, 4, 5] rfl)
set_option maxHeartbeats 4000000 in
set_option maxRecDepth 100000 in
/-- c_m_sureOf -/
theorem c_m_sureOf (l : Launch) (T : zTy) (mo : Nat) (m_all : Nat) (m_has : Nat) (i_size : Int32) (i_next : Int32) (i_where : Int32) (i_token : Int32) (i_number : Int32) (i_word : Int32) (i_wrong : Int32) (i_farCrossing : Int32) (m_read : Nat) (i_z0 : Int32) (i_crossings : Int32) (i_inns : Int32) (m_posts : Nat) (m_shut : Nat) (m_here : Nat) (i_steps : Int32) (i_done : Int32) (i_at : Int32) (i_gone : Int32) (m_was : Nat) (m_came : Nat) (m_seenAt : Nat) (m_rowWorth : Nat) (m_farBy : Nat) (m_used : Nat) (i_everywhere : Int32) (i_again0 : Int32) (i_d0 : Int32) (i_never : Int32) (i_firstCame : Int32) (i_longRun : Int32) (i_moved : Int32) (i_crowd : Int32) (i_l0 : Int32) (i_fitMany : Int32) (i_fitLeast : Int32) (i_fitMost : Int32) (m_fitPost : Nat) (m_fitEnd : Nat) (m_keptPosts : Nat) (i_x0 : Int32) (f_fitPost : Nat → Int32) (c_ : Int32) (hcr : 0 ≤ i_crossings.toInt ∧ i_crossings.toInt ≤ 7) : zMi l T yX12_sureOf cX12_sureOf 3 (some .int) 3 0 0 [.ref mo, .int c_] [[zO11 mo m_all m_has i_size i_next i_where i_token i_number i_word i_wrong i_farCrossing m_read i_z0 i_crossings i_inns m_posts m_shut m_here i_steps i_done i_at i_gone m_was m_came m_seenAt m_rowWorth m_farBy m_used i_everywhere i_again0 i_d0 i_never i_firstCame i_longRun i_moved i_crowd i_l0 i_fitMany i_fitLeast i_fitMost m_fitPost m_fitEnd m_keptPosts i_x0], [zAr T 0 m_fitPost 28 f_fitPost]] (fun (r : Int32) bs => bs = [[zO11 mo m_all m_has i_size i_next i_where i_token i_number i_word i_wrong i_farCrossing m_read i_z0 i_crossings i_inns m_posts m_shut m_here i_steps i_done i_at i_gone m_was m_came m_seenAt m_rowWorth m_farBy m_used i_everywhere i_again0 i_d0 i_never i_firstCame i_longRun i_moved i_crowd i_l0 i_fitMany i_fitLeast i_fitMost m_fitPost m_fitEnd m_keptPosts i_x0], [zAr T 0 m_fitPost 28 f_fitPost]]) := by
  refine zMi_of (own := RX12) (by decide) rfl (Nat.le_of_ble_eq_true rfl) ?_
  intro p e s m args below meth c A ls C hr hlocks hnm hAe G hl
  refine zHide (fun Qz_ hQz_ => ?_)
  have hx := C.1
  have hb := C.2.1
  have hl : lv_has ls 3 [(0, .ref mo), (1, .int c_)] := hl
  refine lv_aload_n hx hb dX12_sureOf_0 rfl (lv_at hl 0 rfl) ?_
  refine lv_iload_n hx hb dX12_sureOf_1 rfl (lv_at hl 1 rfl) ?_
  refine z_Vi (bc := [[zO11 mo m_all m_has i_size i_next i_where i_token i_number i_word i_wrong i_farCrossing m_read i_z0 i_crossings i_inns m_posts m_shut m_here i_steps i_done i_at i_gone m_was m_came m_seenAt m_rowWorth m_farBy m_used i_everywhere i_again0 i_d0 i_never i_firstCame i_longRun i_moved i_crowd i_l0 i_fitMany i_fitLeast i_fitMost m_fitPost m_fitEnd m_keptPosts i_x0]]) (br := [[zAr T 0 m_fitPost 28 f_fitPost]]) (As := [.int c_]) (rest := []) C G (c_m_isCrossing l T mo m_all m_has i_size i_next i_where i_token i_number i_word i_wrong i_farCrossing m_read i_z0 i_crossings i_inns m_posts m_shut m_here i_steps i_done i_at i_gone m_was m_came m_seenAt m_rowWorth m_farBy m_used i_everywhere i_again0 i_d0 i_never i_firstCame i_longRun i_moved i_crowd i_l0 i_fitMany i_fitLeast i_fitMost m_fitPost m_fitEnd m_keptPosts i_x0 c_ (by first | with_reducible assumption | with_reducible rfl | omega | assumption | rfl | decide)) (kV_RX12_187 C.2.2.2.2 (Nat.le_of_ble_eq_true rfl) (Nat.le_of_ble_eq_true rfl)) [0] [0] rfl rfl (ci := 11) (qc := (RX12, TX12, 43)) rfl rfl (List.mem_flatten.mpr ⟨_, List.mem_of_getElem? (i := 0) rfl, List.mem_cons_self⟩) rfl rfl hl.1 dX12_sureOf_2 (Nat.le_of_ble_eq_true rfl) (Nat.le_of_ble_eq_true rfl) (fun r_2 b1 H locs hw G => ?_)
  refine zAn2 hw ?_
  intro hbs9 hc_1
  clear hw
  subst hbs9
  have G : zS T A s.heap s [[zAr T 0 m_fitPost 28 f_fitPost], [zO11 mo m_all m_has i_size i_next i_where i_token i_number i_word i_wrong i_farCrossing m_read i_z0 i_crossings i_inns m_posts m_shut m_here i_steps i_done i_at i_gone m_was m_came m_seenAt m_rowWorth m_farBy m_used i_everywhere i_again0 i_d0 i_never i_firstCame i_longRun i_moved i_crowd i_l0 i_fitMany i_fitLeast i_fitMost m_fitPost m_fitEnd m_keptPosts i_x0]] _ _ := G
  rcases hc_1 with ⟨rfl, h_3, h_4⟩ | ⟨rfl, h_5⟩
  · have h_3 : 0 ≤ c_.toInt := h_3
    have h_4 : c_.toInt < i_crossings.toInt := h_4
    refine lv_if_eq (tgt := 15) hx hb dX12_sureOf_5 (by decide) (fun q => absurd q (by decide)) (fun _ => ?_)
    refine lv_aload_n hx hb dX12_sureOf_8 rfl (lv_at hl 0 rfl) ?_
    refine z_get C G clX12 1 rfl 36 (by decide) m_fl_RX12_366 rfl dX12_sureOf_9 ?_
    refine lv_if_ne (tgt := 17) hx hb dX12_sureOf_12 (by decide) (fun c_6 => ?_) (fun c_6 => ?_)
    · have c_6n : ¬ i_fitMany.toInt = (0 : Int) := fun q => c_6 ((fa_eq _ _).mpr q)
      refine lv_iconst (v := 0) hx hb dX12_sureOf_17 (by decide) ?_
      refine lv_istore_n (lv' := [(2, .int 0), (0, .ref mo), (1, .int c_)]) hx hb dX12_sureOf_18 rfl hl (by decide) (zLvf_h rfl) (fun ls hl => ?_)
      refine z_lp1 (T := T) 19 (fun (k : Nat) => [[zAr T 0 m_fitPost 28 f_fitPost], [zO11 mo m_all m_has i_size i_next i_where i_token i_number i_word i_wrong i_farCrossing m_read i_z0 i_crossings i_inns m_posts m_shut m_here i_steps i_done i_at i_gone m_was m_came m_seenAt m_rowWorth m_farBy m_used i_everywhere i_again0 i_d0 i_never i_firstCame i_longRun i_moved i_crowd i_l0 i_fitMany i_fitLeast i_fitMost m_fitPost m_fitEnd m_keptPosts i_x0]]) (fun (k : Nat) => [(2, .int (nI k)), (0, .ref mo), (1, .int c_)]) (fun (k : Nat) => k ≤ 4) (fun (k : Nat) => 4 - k) ?_ 0 (show 0 ≤ 4 from by omega) G (lv_sub hl [0, 1, 2] rfl)
      intro k hk ih_19 H locs ls G hl
      replace hk : k ≤ 4 := hk
      replace G : zS T A s.heap s [[zAr T 0 m_fitPost 28 f_fitPost], [zO11 mo m_all m_has i_size i_next i_where i_token i_number i_word i_wrong i_farCrossing m_read i_z0 i_crossings i_inns m_posts m_shut m_here i_steps i_done i_at i_gone m_was m_came m_seenAt m_rowWorth m_farBy m_used i_everywhere i_again0 i_d0 i_never i_firstCame i_longRun i_moved i_crowd i_l0 i_fitMany i_fitLeast i_fitMost m_fitPost m_fitEnd m_keptPosts i_x0]] _ _ := G
      replace hl : lv_has ls 3 [(2, .int (nI k)), (0, .ref mo), (1, .int c_)] := hl
      refine lv_iload_n hx hb dX12_sureOf_19 rfl (lv_at hl 0 rfl) ?_
      refine lv_iconst (v := 4) hx hb dX12_sureOf_20 (by decide) ?_
      refine lv_icmp_ge (tgt := 49) hx hb dX12_sureOf_21 (by decide) (fun c_7 => ?_) (fun c_7 => ?_)
      · have c_7n : 4 ≤ k := (nI_leI (a := 4) (b := k) (by omega) (by omega)).mp c_7
        refine lv_iconst (v := (-1)) hx hb dX12_sureOf_49 (by decide) ?_
        have G := G.sub (bs' := [[zO11 mo m_all m_has i_size i_next i_where i_token i_number i_word i_wrong i_farCrossing m_read i_z0 i_crossings i_inns m_posts m_shut m_here i_steps i_done i_at i_gone m_was m_came m_seenAt m_rowWorth m_farBy m_used i_everywhere i_again0 i_d0 i_never i_firstCame i_longRun i_moved i_crowd i_l0 i_fitMany i_fitLeast i_fitMost m_fitPost m_fitEnd m_keptPosts i_x0], [zAr T 0 m_fitPost 28 f_fitPost]]) [1, 0] rfl
        exact z_back hQz_ (z_iret C hr hlocks G (Nat.le_of_ble_eq_true rfl) (Nat.le_of_ble_eq_true rfl) dX12_sureOf_50 rfl)
      · have c_7n : ¬ 4 ≤ k := fun q => c_7 ((nI_leI (a := 4) (b := k) (by omega) (by omega)).mpr q)
        refine lv_aload_n hx hb dX12_sureOf_24 rfl (lv_at hl 1 rfl) ?_
        refine z_get C G clX12 1 rfl 39 (by decide) m_fl_RX12_47 rfl dX12_sureOf_25 ?_
        refine lv_iconst (v := 4) hx hb dX12_sureOf_28 (by decide) ?_
        refine lv_iload_n hx hb dX12_sureOf_29 rfl (lv_at hl 2 rfl) ?_
        refine lv_imul hx hb dX12_sureOf_30 ?_
        refine lv_topi (fun y_8 ey_8 => ?_)
        have ey_8i : y_8.toInt = (4 : Int) * c_.toInt := by rw [ey_8]; exact z_imulI (x := (4 : Int32)) (y := c_) (by show -2147483648 ≤ (4 : Int) * c_.toInt; omega) (by show (4 : Int) * c_.toInt < 2147483648; omega)
        refine lv_iload_n hx hb dX12_sureOf_31 rfl (lv_at hl 0 rfl) ?_
        refine lv_iadd hx hb dX12_sureOf_32 ?_
        refine lv_topi (fun y_9 ey_9 => ?_)
        have ey_9i : y_9.toInt = y_8.toInt + (k : Int) := by rw [ey_9]; exact (z_iaddI (x := y_8) (y := (nI k)) (by rw [nI_toInt (n := k) (by omega)]; show -2147483648 ≤ y_8.toInt + (k : Int); omega) (by rw [nI_toInt (n := k) (by omega)]; show y_8.toInt + (k : Int) < 2147483648; omega)).trans (by rw [nI_toInt (n := k) (by omega)] <;> rfl)
        refine z_ild C G 0 rfl (vp_in_iff.mpr ⟨by omega, by omega⟩) dX12_sureOf_33 ?_
        refine lv_topi (fun v_10 ev_10 => ?_)
        subst ev_10
        refine lv_aload_n hx hb dX12_sureOf_34 rfl (lv_at hl 1 rfl) ?_
        refine z_get C G clX12 1 rfl 36 (by decide) m_fl_RX12_366 rfl dX12_sureOf_35 ?_
        refine lv_icmp_ne (tgt := 43) hx hb dX12_sureOf_38 (by decide) (fun c_11 => ?_) (fun c_11 => ?_)
        · have c_11n : ¬ (f_fitPost y_9.toNatClampNeg).toInt = i_fitMany.toInt := fun q => c_11 ((fa_eq _ _).mpr q)
          refine lv_iinc (v := nI (k + 1)) (lv' := [(2, .int (nI (k + 1))), (0, .ref mo), (1, .int c_)]) hx hb dX12_sureOf_43 hl (k := 0) rfl (z_inc k 1) (by decide) (zLvf_h rfl) (fun ls hl => ?_)
          refine lv_goto (tgt := 19) hx hb dX12_sureOf_46 (by decide) ?_
          exact ih_19 (k + 1) (show (k + 1) ≤ 4 from by omega) (show 4 - (k + 1) < 4 - k from by omega) _ _ ls G (lv_sub hl [0, 1, 2] rfl)
        · have c_11n : (f_fitPost y_9.toNatClampNeg).toInt = i_fitMany.toInt := (fa_eq _ _).mp c_11
          refine lv_iload_n hx hb dX12_sureOf_41 rfl (lv_at hl 0 rfl) ?_
          have G := G.sub (bs' := [[zO11 mo m_all m_has i_size i_next i_where i_token i_number i_word i_wrong i_farCrossing m_read i_z0 i_crossings i_inns m_posts m_shut m_here i_steps i_done i_at i_gone m_was m_came m_seenAt m_rowWorth m_farBy m_used i_everywhere i_again0 i_d0 i_never i_firstCame i_longRun i_moved i_crowd i_l0 i_fitMany i_fitLeast i_fitMost m_fitPost m_fitEnd m_keptPosts i_x0], [zAr T 0 m_fitPost 28 f_fitPost]]) [1, 0] rfl
          exact z_back hQz_ (z_iret C hr hlocks G (Nat.le_of_ble_eq_true rfl) (Nat.le_of_ble_eq_true rfl) dX12_sureOf_42 rfl)
    · have c_6n : i_fitMany.toInt = (0 : Int) := (fa_eq _ _).mp c_6
      refine lv_iconst (v := (-1)) hx hb dX12_sureOf_15 (by decide) ?_
      have G := G.sub (bs' := [[zO11 mo m_all m_has i_size i_next i_where i_token i_number i_word i_wrong i_farCrossing m_read i_z0 i_crossings i_inns m_posts m_shut m_here i_steps i_done i_at i_gone m_was m_came m_seenAt m_rowWorth m_farBy m_used i_everywhere i_again0 i_d0 i_never i_firstCame i_longRun i_moved i_crowd i_l0 i_fitMany i_fitLeast i_fitMost m_fitPost m_fitEnd m_keptPosts i_x0], [zAr T 0 m_fitPost 28 f_fitPost]]) [1, 0] rfl
      exact z_back hQz_ (z_iret C hr hlocks G (Nat.le_of_ble_eq_true rfl) (Nat.le_of_ble_eq_true rfl) dX12_sureOf_16 rfl)
  · have h_5 : (c_.toInt < 0 ∨ i_crossings.toInt ≤ c_.toInt) := h_5
    refine lv_if_eq (tgt := 15) hx hb dX12_sureOf_5 (by decide) (fun _ => ?_) (fun q => absurd (by decide) q)
    refine lv_iconst (v := (-1)) hx hb dX12_sureOf_15 (by decide) ?_
    have G := G.sub (bs' := [[zO11 mo m_all m_has i_size i_next i_where i_token i_number i_word i_wrong i_farCrossing m_read i_z0 i_crossings i_inns m_posts m_shut m_here i_steps i_done i_at i_gone m_was m_came m_seenAt m_rowWorth m_farBy m_used i_everywhere i_again0 i_d0 i_never i_firstCame i_longRun i_moved i_crowd i_l0 i_fitMany i_fitLeast i_fitMost m_fitPost m_fitEnd m_keptPosts i_x0], [zAr T 0 m_fitPost 28 f_fitPost]]) [1, 0] rfl
    exact z_back hQz_ (z_iret C hr hlocks G (Nat.le_of_ble_eq_true rfl) (Nat.le_of_ble_eq_true rfl) dX12_sureOf_16 rfl)
set_option maxHeartbeats 4000000 in
set_option maxRecDepth 100000 in
/-- c_m_fits -/
theorem c_m_fits (l : Launch) (T : zTy) (mo : Nat) (m_all : Nat) (m_has : Nat) (i_size : Int32) (i_next : Int32) (i_where : Int32) (i_token : Int32) (i_number : Int32) (i_word : Int32) (i_wrong : Int32) (i_farCrossing : Int32) (m_read : Nat) (i_z0 : Int32) (i_crossings : Int32) (i_inns : Int32) (m_posts : Nat) (m_shut : Nat) (m_here : Nat) (i_steps : Int32) (i_done : Int32) (i_at : Int32) (i_gone : Int32) (m_was : Nat) (m_came : Nat) (m_seenAt : Nat) (m_rowWorth : Nat) (m_farBy : Nat) (m_used : Nat) (i_everywhere : Int32) (i_again0 : Int32) (i_d0 : Int32) (i_never : Int32) (i_firstCame : Int32) (i_longRun : Int32) (i_moved : Int32) (i_crowd : Int32) (i_l0 : Int32) (i_fitMany : Int32) (i_fitLeast : Int32) (i_fitMost : Int32) (m_fitPost : Nat) (m_fitEnd : Nat) (m_keptPosts : Nat) (i_x0 : Int32) (f_all : Nat → Int32) (f_posts : Nat → Int32) (f_shut : Nat → Int32) (f_here : Nat → Int32) (f_was : Nat → Int32) (f_fitPost : Nat → Int32) (f_fitEnd : Nat → Int32) (f_keptPosts : Nat → Int32) (l_ : Int32) (k_ : Int32) (w_ : Int32) (hB : zBI f_all) : zMi l T yX12_fits cX12_fits 5 (some .int) 7 0 0 [.ref mo, .int l_, .int k_, .int w_] [[zO11 mo m_all m_has i_size i_next i_where i_token i_number i_word i_wrong i_farCrossing m_read i_z0 i_crossings i_inns m_posts m_shut m_here i_steps i_done i_at i_gone m_was m_came m_seenAt m_rowWorth m_farBy m_used i_everywhere i_again0 i_d0 i_never i_firstCame i_longRun i_moved i_crowd i_l0 i_fitMany i_fitLeast i_fitMost m_fitPost m_fitEnd m_keptPosts i_x0], [zAr T 0 m_all 3952 f_all], [zAr T 0 m_posts 7 f_posts], [zAr T 0 m_shut 7 f_shut], [zAr T 0 m_here 7 f_here], [zAr T 0 m_was 7 f_was], [zAr T 0 m_fitPost 28 f_fitPost], [zAr T 0 m_fitEnd 49 f_fitEnd], [zAr T 0 m_keptPosts 7 f_keptPosts]] (fun (r : Int32) bs => ∃ (j_z0 : Int32) (j_crossings : Int32) (j_inns : Int32) (j_steps : Int32) (j_done : Int32) (j_at : Int32) (j_gone : Int32) (j_l0 : Int32) (j_fitMany : Int32) (j_fitLeast : Int32) (j_fitMost : Int32) (g_posts : Nat → Int32) (g_shut : Nat → Int32) (g_here : Nat → Int32) (g_was : Nat → Int32) (g_fitPost : Nat → Int32) (g_fitEnd : Nat → Int32) (g_keptPosts : Nat → Int32), bs = [[zO11 mo m_all m_has i_size i_next i_where i_token i_number i_word i_wrong i_farCrossing m_read j_z0 j_crossings j_inns m_posts m_shut m_here j_steps j_done j_at j_gone m_was m_came m_seenAt m_rowWorth m_farBy m_used i_everywhere i_again0 i_d0 i_never i_firstCame i_longRun i_moved i_crowd j_l0 j_fitMany j_fitLeast j_fitMost m_fitPost m_fitEnd m_keptPosts i_x0], [zAr T 0 m_all 3952 f_all], [zAr T 0 m_posts 7 g_posts], [zAr T 0 m_shut 7 g_shut], [zAr T 0 m_here 7 g_here], [zAr T 0 m_was 7 g_was], [zAr T 0 m_fitPost 28 g_fitPost], [zAr T 0 m_fitEnd 49 g_fitEnd], [zAr T 0 m_keptPosts 7 g_keptPosts]]) := by
  refine zMi_of (own := RX12) (by decide) rfl (Nat.le_of_ble_eq_true rfl) ?_
  intro p e s m args below meth c A ls C hr hlocks hnm hAe G hl
  refine zHide (fun Qz_ hQz_ => ?_)
  have hx := C.1
  have hb := C.2.1
  have hl : lv_has ls 5 [(0, .ref mo), (1, .int l_), (2, .int k_), (3, .int w_)] := hl
  refine lv_aload_n hx hb dX12_fits_0 rfl (lv_at hl 0 rfl) ?_
  refine lv_iload_n hx hb dX12_fits_1 rfl (lv_at hl 1 rfl) ?_
  refine z_Vi (bc := [[zO11 mo m_all m_has i_size i_next i_where i_token i_number i_word i_wrong i_farCrossing m_read i_z0 i_crossings i_inns m_posts m_shut m_here i_steps i_done i_at i_gone m_was m_came m_seenAt m_rowWorth m_farBy m_used i_everywhere i_again0 i_d0 i_never i_firstCame i_longRun i_moved i_crowd i_l0 i_fitMany i_fitLeast i_fitMost m_fitPost m_fitEnd m_keptPosts i_x0], [zAr T 0 m_all 3952 f_all], [zAr T 0 m_posts 7 f_posts], [zAr T 0 m_shut 7 f_shut], [zAr T 0 m_here 7 f_here]]) (br := [[zAr T 0 m_was 7 f_was], [zAr T 0 m_fitPost 28 f_fitPost], [zAr T 0 m_fitEnd 49 f_fitEnd], [zAr T 0 m_keptPosts 7 f_keptPosts]]) (As := [.int l_]) (rest := []) C G (c_m_isLand l T mo m_all m_has i_size i_next i_where i_token i_number i_word i_wrong i_farCrossing m_read i_z0 i_crossings i_inns m_posts m_shut m_here i_steps i_done i_at i_gone m_was m_came m_seenAt m_rowWorth m_farBy m_used i_everywhere i_again0 i_d0 i_never i_firstCame i_longRun i_moved i_crowd i_l0 i_fitMany i_fitLeast i_fitMost m_fitPost m_fitEnd m_keptPosts i_x0 f_all f_posts f_shut f_here l_ (by first | with_reducible assumption | with_reducible rfl | omega | assumption | rfl | decide)) (kV_RX12_184 C.2.2.2.2 (Nat.le_of_ble_eq_true rfl) (Nat.le_of_ble_eq_true rfl)) [0, 1, 2, 3, 4] [0, 0, 0, 0, 0] rfl rfl (ci := 11) (qc := (RX12, TX12, 43)) rfl rfl (List.mem_flatten.mpr ⟨_, List.mem_of_getElem? (i := 0) rfl, List.mem_cons_self⟩) rfl rfl hl.1 dX12_fits_2 (Nat.le_of_ble_eq_true rfl) (Nat.le_of_ble_eq_true rfl) (fun r_10 b1 H locs hw G => ?_)
  refine zEx8 hw ?_
  intro j_z0_1 j_crossings_2 j_inns_3 j_steps_4 j_done_5 g_posts_6 g_shut_7 g_here_8
  refine zCu2 ?_
  intro hbs9 hc_9
  clear hw
  subst hbs9
  have G : zS T A s.heap s [[zAr T 0 m_was 7 f_was], [zAr T 0 m_fitPost 28 f_fitPost], [zAr T 0 m_fitEnd 49 f_fitEnd], [zAr T 0 m_keptPosts 7 f_keptPosts], [zO11 mo m_all m_has i_size i_next i_where i_token i_number i_word i_wrong i_farCrossing m_read j_z0_1 j_crossings_2 j_inns_3 m_posts m_shut m_here j_steps_4 j_done_5 i_at i_gone m_was m_came m_seenAt m_rowWorth m_farBy m_used i_everywhere i_again0 i_d0 i_never i_firstCame i_longRun i_moved i_crowd i_l0 i_fitMany i_fitLeast i_fitMost m_fitPost m_fitEnd m_keptPosts i_x0], [zAr T 0 m_all 3952 f_all], [zAr T 0 m_posts 7 g_posts_6], [zAr T 0 m_shut 7 g_shut_7], [zAr T 0 m_here 7 g_here_8]] _ _ := G
  rcases hc_9 with ⟨rfl, h_11, h_12, h_13, h_14, h_15, h_16, h_17, h_18, h_19, h_20, h_21, h_22⟩ | ⟨rfl, h_23⟩
  · have h_11 : 0 ≤ l_.toInt := h_11
    have h_12 : l_.toInt ≤ 1 := h_12
    have h_13 : l_.toInt < (f_all 0).toInt := h_13
    have h_14 : j_z0_1.toInt = 610 + 51 * l_.toInt := h_14
    have h_15 : zML f_all j_z0_1 j_crossings_2 := h_15
    have h_16 : zMP g_posts_6 := h_16
    have h_17 : j_inns_3 = f_all (j_z0_1.toInt.toNat + 1) := h_17
    have h_18 : j_steps_4 = 0 := h_18
    have h_19 : j_done_5 = 0 := h_19
    have h_20 : (∀ j, j < 7 → g_posts_6 j = zPt f_all j_z0_1 (nI j)) := h_20
    have h_21 : (∀ j, j < 7 → g_shut_7 j = 0) := h_21
    have h_22 : (∀ j, j < 7 → g_here_8 j = zWk f_all j_z0_1 j) := h_22
    have hLx := h_15
    have hcr := hLx.cr
    have hzx := hLx.1
    have hPx := h_16
    refine lv_if_eq (tgt := 26) hx hb dX12_fits_5 (by decide) (fun q => absurd q (by decide)) (fun _ => ?_)
    refine lv_aload_n hx hb dX12_fits_8 rfl (lv_at hl 0 rfl) ?_
    refine lv_iload_n hx hb dX12_fits_9 rfl (lv_at hl 2 rfl) ?_
    refine z_Vi (bc := [[zO11 mo m_all m_has i_size i_next i_where i_token i_number i_word i_wrong i_farCrossing m_read j_z0_1 j_crossings_2 j_inns_3 m_posts m_shut m_here j_steps_4 j_done_5 i_at i_gone m_was m_came m_seenAt m_rowWorth m_farBy m_used i_everywhere i_again0 i_d0 i_never i_firstCame i_longRun i_moved i_crowd i_l0 i_fitMany i_fitLeast i_fitMost m_fitPost m_fitEnd m_keptPosts i_x0], [zAr T 0 m_all 3952 f_all]]) (br := [[zAr T 0 m_was 7 f_was], [zAr T 0 m_fitPost 28 f_fitPost], [zAr T 0 m_fitEnd 49 f_fitEnd], [zAr T 0 m_keptPosts 7 f_keptPosts], [zAr T 0 m_posts 7 g_posts_6], [zAr T 0 m_shut 7 g_shut_7], [zAr T 0 m_here 7 g_here_8]]) (As := [.int k_]) (rest := []) C G (c_m_isLog l T mo m_all m_has i_size i_next i_where i_token i_number i_word i_wrong i_farCrossing m_read j_z0_1 j_crossings_2 j_inns_3 m_posts m_shut m_here j_steps_4 j_done_5 i_at i_gone m_was m_came m_seenAt m_rowWorth m_farBy m_used i_everywhere i_again0 i_d0 i_never i_firstCame i_longRun i_moved i_crowd i_l0 i_fitMany i_fitLeast i_fitMost m_fitPost m_fitEnd m_keptPosts i_x0 f_all k_ (by first | with_reducible assumption | with_reducible rfl | omega | assumption | rfl | decide)) (kV_RX12_363 C.2.2.2.2 (Nat.le_of_ble_eq_true rfl) (Nat.le_of_ble_eq_true rfl)) [4, 5] [4, 0] rfl rfl (ci := 11) (qc := (RX12, TX12, 43)) rfl rfl (List.mem_flatten.mpr ⟨_, List.mem_of_getElem? (i := 0) rfl, List.mem_cons_self⟩) rfl rfl hl.1 dX12_fits_10 (Nat.le_of_ble_eq_true rfl) (Nat.le_of_ble_eq_true rfl) (fun r_26 b1 H locs hw G => ?_)
    refine zEx1 hw ?_
    intro j_l0_24
    refine zCu2 ?_
    intro hbs9 hc_25
    clear hw
    subst hbs9
    have G : zS T A s.heap s [[zAr T 0 m_was 7 f_was], [zAr T 0 m_fitPost 28 f_fitPost], [zAr T 0 m_fitEnd 49 f_fitEnd], [zAr T 0 m_keptPosts 7 f_keptPosts], [zAr T 0 m_posts 7 g_posts_6], [zAr T 0 m_shut 7 g_shut_7], [zAr T 0 m_here 7 g_here_8], [zO11 mo m_all m_has i_size i_next i_where i_token i_number i_word i_wrong i_farCrossing m_read j_z0_1 j_crossings_2 j_inns_3 m_posts m_shut m_here j_steps_4 j_done_5 i_at i_gone m_was m_came m_seenAt m_rowWorth m_farBy m_used i_everywhere i_again0 i_d0 i_never i_firstCame i_longRun i_moved i_crowd j_l0_24 i_fitMany i_fitLeast i_fitMost m_fitPost m_fitEnd m_keptPosts i_x0], [zAr T 0 m_all 3952 f_all]] _ _ := G
    rcases hc_25 with ⟨rfl, h_27, h_28, h_29, h_30⟩ | ⟨rfl, h_31⟩
    · have h_27 : 0 ≤ k_.toInt := h_27
      have h_28 : k_.toInt < (f_all 2).toInt := h_28
      have h_29 : j_l0_24.toInt = 954 + 17 * k_.toInt := h_29
      have h_30 : zMG f_all j_l0_24 := h_30
      have hD := h_30
      have hDa := hD.1
      have hDb := hD.2
      refine lv_if_eq (tgt := 26) hx hb dX12_fits_13 (by decide) (fun q => absurd q (by decide)) (fun _ => ?_)
      refine lv_iload_n hx hb dX12_fits_16 rfl (lv_at hl 3 rfl) ?_
      refine lv_if_lt (tgt := 26) hx hb dX12_fits_17 (by decide) (fun c_32 => ?_) (fun c_32 => ?_)
      · have c_32n : w_.toInt < (0 : Int) := (fa_lt _ _).mp c_32
        refine lv_bipush (v := (-2)) hx hb dX12_fits_26 (by decide) ?_
        have G := G.sub (bs' := [[zO11 mo m_all m_has i_size i_next i_where i_token i_number i_word i_wrong i_farCrossing m_read j_z0_1 j_crossings_2 j_inns_3 m_posts m_shut m_here j_steps_4 j_done_5 i_at i_gone m_was m_came m_seenAt m_rowWorth m_farBy m_used i_everywhere i_again0 i_d0 i_never i_firstCame i_longRun i_moved i_crowd j_l0_24 i_fitMany i_fitLeast i_fitMost m_fitPost m_fitEnd m_keptPosts i_x0], [zAr T 0 m_all 3952 f_all], [zAr T 0 m_posts 7 g_posts_6], [zAr T 0 m_shut 7 g_shut_7], [zAr T 0 m_here 7 g_here_8], [zAr T 0 m_was 7 f_was], [zAr T 0 m_fitPost 28 f_fitPost], [zAr T 0 m_fitEnd 49 f_fitEnd], [zAr T 0 m_keptPosts 7 f_keptPosts]]) [7, 8, 4, 5, 6, 0, 1, 2, 3] rfl
        exact z_back hQz_ (z_iret C hr hlocks G (Nat.le_of_ble_eq_true rfl) (Nat.le_of_ble_eq_true rfl) dX12_fits_28 ⟨j_z0_1, j_crossings_2, j_inns_3, j_steps_4, j_done_5, i_at, i_gone, j_l0_24, i_fitMany, i_fitLeast, i_fitMost, g_posts_6, g_shut_7, g_here_8, f_was, f_fitPost, f_fitEnd, f_keptPosts, rfl⟩)
      · have c_32n : ¬ w_.toInt < (0 : Int) := fun q => c_32 ((fa_lt _ _).mpr q)
        refine lv_iload_n hx hb dX12_fits_20 rfl (lv_at hl 3 rfl) ?_
        refine lv_bipush (v := 9) hx hb dX12_fits_21 (by decide) ?_
        refine lv_icmp_ne (tgt := 29) hx hb dX12_fits_23 (by decide) (fun c_33 => ?_) (fun c_33 => ?_)
        · have c_33n : ¬ w_.toInt = (9 : Int) := fun q => c_33 ((fa_eq _ _).mpr q)
          refine lv_aload_n hx hb dX12_fits_29 rfl (lv_at hl 0 rfl) ?_
          refine lv_iload_n hx hb dX12_fits_30 rfl (lv_at hl 3 rfl) ?_
          refine lv_bipush (v := 10) hx hb dX12_fits_31 (by decide) ?_
          refine lv_isub hx hb dX12_fits_33 ?_
          refine lv_iload_n hx hb dX12_fits_34 rfl (lv_at hl 3 rfl) ?_
          refine lv_iconst (v := 1) hx hb dX12_fits_35 (by decide) ?_
          refine lv_icmp_ne (tgt := 43) hx hb dX12_fits_36 (by decide) (fun c_34 => ?_) (fun c_34 => ?_)
          · have c_34n : ¬ w_.toInt = (1 : Int) := fun q => c_34 ((fa_eq _ _).mpr q)
            refine lv_iconst (v := 0) hx hb dX12_fits_43 (by decide) ?_
            refine z_Vi (bc := [[zO11 mo m_all m_has i_size i_next i_where i_token i_number i_word i_wrong i_farCrossing m_read j_z0_1 j_crossings_2 j_inns_3 m_posts m_shut m_here j_steps_4 j_done_5 i_at i_gone m_was m_came m_seenAt m_rowWorth m_farBy m_used i_everywhere i_again0 i_d0 i_never i_firstCame i_longRun i_moved i_crowd j_l0_24 i_fitMany i_fitLeast i_fitMost m_fitPost m_fitEnd m_keptPosts i_x0], [zAr T 0 m_all 3952 f_all], [zAr T 0 m_posts 7 g_posts_6], [zAr T 0 m_shut 7 g_shut_7], [zAr T 0 m_was 7 f_was], [zAr T 0 m_fitPost 28 f_fitPost], [zAr T 0 m_fitEnd 49 f_fitEnd], [zAr T 0 m_keptPosts 7 f_keptPosts]]) (br := [[zAr T 0 m_here 7 g_here_8]]) (As := [.int (w_ - 10), .int 0]) (rest := []) C G (c_m_laysFits l T mo m_all m_has i_size i_next i_where i_token i_number i_word i_wrong i_farCrossing m_read j_z0_1 j_crossings_2 j_inns_3 m_posts m_shut m_here j_steps_4 j_done_5 i_at i_gone m_was m_came m_seenAt m_rowWorth m_farBy m_used i_everywhere i_again0 i_d0 i_never i_firstCame i_longRun i_moved i_crowd j_l0_24 i_fitMany i_fitLeast i_fitMost m_fitPost m_fitEnd m_keptPosts i_x0 f_all g_posts_6 g_shut_7 f_was f_fitPost f_fitEnd f_keptPosts (w_ - 10) 0 (by first | with_reducible assumption | with_reducible rfl | omega | assumption | rfl | decide) (by first | with_reducible assumption | with_reducible rfl | omega | assumption | rfl | decide) (by first | with_reducible assumption | with_reducible rfl | omega | assumption | rfl | decide)) (kV_RX12_385 C.2.2.2.2 (Nat.le_of_ble_eq_true rfl) (Nat.le_of_ble_eq_true rfl)) [7, 8, 4, 5, 0, 1, 2, 3] [0, 0, 0, 0, 0, 0, 1, 0] rfl rfl (ci := 11) (qc := (RX12, TX12, 43)) rfl rfl (List.mem_flatten.mpr ⟨_, List.mem_of_getElem? (i := 0) rfl, List.mem_cons_self⟩) rfl rfl hl.1 dX12_fits_44 (Nat.le_of_ble_eq_true rfl) (Nat.le_of_ble_eq_true rfl) (fun r_47 b1 H locs hw G => ?_)
            refine zEx11 hw ?_
            intro j_fitMany_35 j_fitLeast_36 j_fitMost_37 j_steps_38 j_at_39 j_gone_40 g_posts_41 g_was_42 g_fitPost_43 g_fitEnd_44 g_keptPosts_45
            refine zCu2 ?_
            intro hbs9 h_46
            clear hw
            subst hbs9
            have G : zS T A s.heap s [[zAr T 0 m_here 7 g_here_8], [zO11 mo m_all m_has i_size i_next i_where i_token i_number i_word i_wrong i_farCrossing m_read j_z0_1 j_crossings_2 j_inns_3 m_posts m_shut m_here j_steps_38 j_done_5 j_at_39 j_gone_40 m_was m_came m_seenAt m_rowWorth m_farBy m_used i_everywhere i_again0 i_d0 i_never i_firstCame i_longRun i_moved i_crowd j_l0_24 j_fitMany_35 j_fitLeast_36 j_fitMost_37 m_fitPost m_fitEnd m_keptPosts i_x0], [zAr T 0 m_all 3952 f_all], [zAr T 0 m_posts 7 g_posts_41], [zAr T 0 m_shut 7 g_shut_7], [zAr T 0 m_was 7 g_was_42], [zAr T 0 m_fitPost 28 g_fitPost_43], [zAr T 0 m_fitEnd 49 g_fitEnd_44], [zAr T 0 m_keptPosts 7 g_keptPosts_45]] _ _ := G
            refine lv_istore (lv' := [(4, .int r_47), (0, .ref mo), (1, .int l_), (2, .int k_), (3, .int w_)]) hx hb dX12_fits_47 hl (by decide) (zLvf_h rfl) (fun ls hl => ?_)
            refine lv_iload_n hx hb dX12_fits_49 rfl (lv_at hl 4 rfl) ?_
            refine lv_if_ne (tgt := 58) hx hb dX12_fits_50 (by decide) (fun c_48 => ?_) (fun c_48 => ?_)
            · have c_48n : ¬ w_.toInt = (0 : Int) := fun q => c_48 ((fa_eq _ _).mpr q)
              refine lv_iload_n hx hb dX12_fits_58 rfl (lv_at hl 4 rfl) ?_
              refine lv_iconst (v := 1) hx hb dX12_fits_59 (by decide) ?_
              refine lv_icmp_ne (tgt := 68) hx hb dX12_fits_60 (by decide) (fun _ => ?_) (fun q => absurd q c_34)
              refine lv_iload_n hx hb dX12_fits_68 rfl (lv_at hl 4 rfl) ?_
              refine lv_bipush (v := 9) hx hb dX12_fits_69 (by decide) ?_
              refine lv_icmp_ge (tgt := 84) hx hb dX12_fits_71 (by decide) (fun c_49 => ?_) (fun c_49 => ?_)
              · have c_49n : (9 : Int) ≤ w_.toInt := (fa_le _ _).mp c_49
                refine lv_iload hx hb dX12_fits_84 (lv_at hl 0 rfl) ?_
                have G := G.sub (bs' := [[zO11 mo m_all m_has i_size i_next i_where i_token i_number i_word i_wrong i_farCrossing m_read j_z0_1 j_crossings_2 j_inns_3 m_posts m_shut m_here j_steps_38 j_done_5 j_at_39 j_gone_40 m_was m_came m_seenAt m_rowWorth m_farBy m_used i_everywhere i_again0 i_d0 i_never i_firstCame i_longRun i_moved i_crowd j_l0_24 j_fitMany_35 j_fitLeast_36 j_fitMost_37 m_fitPost m_fitEnd m_keptPosts i_x0], [zAr T 0 m_all 3952 f_all], [zAr T 0 m_posts 7 g_posts_41], [zAr T 0 m_shut 7 g_shut_7], [zAr T 0 m_here 7 g_here_8], [zAr T 0 m_was 7 g_was_42], [zAr T 0 m_fitPost 28 g_fitPost_43], [zAr T 0 m_fitEnd 49 g_fitEnd_44], [zAr T 0 m_keptPosts 7 g_keptPosts_45]]) [1, 2, 3, 4, 0, 5, 6, 7, 8] rfl
                exact z_back hQz_ (z_iret C hr hlocks G (Nat.le_of_ble_eq_true rfl) (Nat.le_of_ble_eq_true rfl) dX12_fits_86 ⟨j_z0_1, j_crossings_2, j_inns_3, j_steps_38, j_done_5, j_at_39, j_gone_40, j_l0_24, j_fitMany_35, j_fitLeast_36, j_fitMost_37, g_posts_41, g_shut_7, g_here_8, g_was_42, g_fitPost_43, g_fitEnd_44, g_keptPosts_45, rfl⟩)
              · have c_49n : ¬ (9 : Int) ≤ w_.toInt := fun q => c_49 ((fa_le _ _).mpr q)
                refine lv_aload_n hx hb dX12_fits_74 rfl (lv_at hl 1 rfl) ?_
                refine lv_iload_n hx hb dX12_fits_75 rfl (lv_at hl 4 rfl) ?_
                refine lv_iconst (v := 2) hx hb dX12_fits_76 (by decide) ?_
                refine lv_isub hx hb dX12_fits_77 ?_
                refine z_Vi (bc := [[zO11 mo m_all m_has i_size i_next i_where i_token i_number i_word i_wrong i_farCrossing m_read j_z0_1 j_crossings_2 j_inns_3 m_posts m_shut m_here j_steps_38 j_done_5 j_at_39 j_gone_40 m_was m_came m_seenAt m_rowWorth m_farBy m_used i_everywhere i_again0 i_d0 i_never i_firstCame i_longRun i_moved i_crowd j_l0_24 j_fitMany_35 j_fitLeast_36 j_fitMost_37 m_fitPost m_fitEnd m_keptPosts i_x0], [zAr T 0 m_fitPost 28 g_fitPost_43]]) (br := [[zAr T 0 m_here 7 g_here_8], [zAr T 0 m_all 3952 f_all], [zAr T 0 m_posts 7 g_posts_41], [zAr T 0 m_shut 7 g_shut_7], [zAr T 0 m_was 7 g_was_42], [zAr T 0 m_fitEnd 49 g_fitEnd_44], [zAr T 0 m_keptPosts 7 g_keptPosts_45]]) (As := [.int (w_ - 2)]) (rest := []) C G (c_m_sureOf l T mo m_all m_has i_size i_next i_where i_token i_number i_word i_wrong i_farCrossing m_read j_z0_1 j_crossings_2 j_inns_3 m_posts m_shut m_here j_steps_38 j_done_5 j_at_39 j_gone_40 m_was m_came m_seenAt m_rowWorth m_farBy m_used i_everywhere i_again0 i_d0 i_never i_firstCame i_longRun i_moved i_crowd j_l0_24 j_fitMany_35 j_fitLeast_36 j_fitMost_37 m_fitPost m_fitEnd m_keptPosts i_x0 g_fitPost_43 (w_ - 2) (by first | with_reducible assumption | with_reducible rfl | omega | assumption | rfl | decide)) (kV_RX12_391 C.2.2.2.2 (Nat.le_of_ble_eq_true rfl) (Nat.le_of_ble_eq_true rfl)) [1, 6] [1, 4] rfl rfl (ci := 11) (qc := (RX12, TX12, 43)) rfl rfl (List.mem_flatten.mpr ⟨_, List.mem_of_getElem? (i := 0) rfl, List.mem_cons_self⟩) rfl rfl hl.1 dX12_fits_78 (Nat.le_of_ble_eq_true rfl) (Nat.le_of_ble_eq_true rfl) (fun r_50 b1 H locs hw G => ?_)
                obtain rfl := hw
                have G : zS T A s.heap s [[zAr T 0 m_here 7 g_here_8], [zAr T 0 m_all 3952 f_all], [zAr T 0 m_posts 7 g_posts_41], [zAr T 0 m_shut 7 g_shut_7], [zAr T 0 m_was 7 g_was_42], [zAr T 0 m_fitEnd 49 g_fitEnd_44], [zAr T 0 m_keptPosts 7 g_keptPosts_45], [zO11 mo m_all m_has i_size i_next i_where i_token i_number i_word i_wrong i_farCrossing m_read j_z0_1 j_crossings_2 j_inns_3 m_posts m_shut m_here j_steps_38 j_done_5 j_at_39 j_gone_40 m_was m_came m_seenAt m_rowWorth m_farBy m_used i_everywhere i_again0 i_d0 i_never i_firstCame i_longRun i_moved i_crowd j_l0_24 j_fitMany_35 j_fitLeast_36 j_fitMost_37 m_fitPost m_fitEnd m_keptPosts i_x0], [zAr T 0 m_fitPost 28 g_fitPost_43]] _ _ := G
                refine lv_goto (tgt := 86) hx hb dX12_fits_81 (by decide) ?_
                have G := G.sub (bs' := [[zO11 mo m_all m_has i_size i_next i_where i_token i_number i_word i_wrong i_farCrossing m_read j_z0_1 j_crossings_2 j_inns_3 m_posts m_shut m_here j_steps_38 j_done_5 j_at_39 j_gone_40 m_was m_came m_seenAt m_rowWorth m_farBy m_used i_everywhere i_again0 i_d0 i_never i_firstCame i_longRun i_moved i_crowd j_l0_24 j_fitMany_35 j_fitLeast_36 j_fitMost_37 m_fitPost m_fitEnd m_keptPosts i_x0], [zAr T 0 m_all 3952 f_all], [zAr T 0 m_posts 7 g_posts_41], [zAr T 0 m_shut 7 g_shut_7], [zAr T 0 m_here 7 g_here_8], [zAr T 0 m_was 7 g_was_42], [zAr T 0 m_fitPost 28 g_fitPost_43], [zAr T 0 m_fitEnd 49 g_fitEnd_44], [zAr T 0 m_keptPosts 7 g_keptPosts_45]]) [7, 1, 2, 3, 0, 4, 8, 5, 6] rfl
                exact z_back hQz_ (z_iret C hr hlocks G (Nat.le_of_ble_eq_true rfl) (Nat.le_of_ble_eq_true rfl) dX12_fits_86 ⟨j_z0_1, j_crossings_2, j_inns_3, j_steps_38, j_done_5, j_at_39, j_gone_40, j_l0_24, j_fitMany_35, j_fitLeast_36, j_fitMost_37, g_posts_41, g_shut_7, g_here_8, g_was_42, g_fitPost_43, g_fitEnd_44, g_keptPosts_45, rfl⟩)
            · have c_48n : w_.toInt = (0 : Int) := (fa_eq _ _).mp c_48
              refine lv_aload_n hx hb dX12_fits_53 rfl (lv_at hl 1 rfl) ?_
              refine z_get C G clX12 1 rfl 36 (by decide) m_fl_RX12_366 rfl dX12_fits_54 ?_
              have G := G.sub (bs' := [[zO11 mo m_all m_has i_size i_next i_where i_token i_number i_word i_wrong i_farCrossing m_read j_z0_1 j_crossings_2 j_inns_3 m_posts m_shut m_here j_steps_38 j_done_5 j_at_39 j_gone_40 m_was m_came m_seenAt m_rowWorth m_farBy m_used i_everywhere i_again0 i_d0 i_never i_firstCame i_longRun i_moved i_crowd j_l0_24 j_fitMany_35 j_fitLeast_36 j_fitMost_37 m_fitPost m_fitEnd m_keptPosts i_x0], [zAr T 0 m_all 3952 f_all], [zAr T 0 m_posts 7 g_posts_41], [zAr T 0 m_shut 7 g_shut_7], [zAr T 0 m_here 7 g_here_8], [zAr T 0 m_was 7 g_was_42], [zAr T 0 m_fitPost 28 g_fitPost_43], [zAr T 0 m_fitEnd 49 g_fitEnd_44], [zAr T 0 m_keptPosts 7 g_keptPosts_45]]) [1, 2, 3, 4, 0, 5, 6, 7, 8] rfl
              exact z_back hQz_ (z_iret C hr hlocks G (Nat.le_of_ble_eq_true rfl) (Nat.le_of_ble_eq_true rfl) dX12_fits_57 ⟨j_z0_1, j_crossings_2, j_inns_3, j_steps_38, j_done_5, j_at_39, j_gone_40, j_l0_24, j_fitMany_35, j_fitLeast_36, j_fitMost_37, g_posts_41, g_shut_7, g_here_8, g_was_42, g_fitPost_43, g_fitEnd_44, g_keptPosts_45, rfl⟩)
          · have c_34n : w_.toInt = (1 : Int) := (fa_eq _ _).mp c_34
            refine lv_iconst (v := 1) hx hb dX12_fits_39 (by decide) ?_
            refine lv_goto (tgt := 44) hx hb dX12_fits_40 (by decide) ?_
            refine z_Vi (bc := [[zO11 mo m_all m_has i_size i_next i_where i_token i_number i_word i_wrong i_farCrossing m_read j_z0_1 j_crossings_2 j_inns_3 m_posts m_shut m_here j_steps_4 j_done_5 i_at i_gone m_was m_came m_seenAt m_rowWorth m_farBy m_used i_everywhere i_again0 i_d0 i_never i_firstCame i_longRun i_moved i_crowd j_l0_24 i_fitMany i_fitLeast i_fitMost m_fitPost m_fitEnd m_keptPosts i_x0], [zAr T 0 m_all 3952 f_all], [zAr T 0 m_posts 7 g_posts_6], [zAr T 0 m_shut 7 g_shut_7], [zAr T 0 m_was 7 f_was], [zAr T 0 m_fitPost 28 f_fitPost], [zAr T 0 m_fitEnd 49 f_fitEnd], [zAr T 0 m_keptPosts 7 f_keptPosts]]) (br := [[zAr T 0 m_here 7 g_here_8]]) (As := [.int (w_ - 10), .int 1]) (rest := []) C G (c_m_laysFits l T mo m_all m_has i_size i_next i_where i_token i_number i_word i_wrong i_farCrossing m_read j_z0_1 j_crossings_2 j_inns_3 m_posts m_shut m_here j_steps_4 j_done_5 i_at i_gone m_was m_came m_seenAt m_rowWorth m_farBy m_used i_everywhere i_again0 i_d0 i_never i_firstCame i_longRun i_moved i_crowd j_l0_24 i_fitMany i_fitLeast i_fitMost m_fitPost m_fitEnd m_keptPosts i_x0 f_all g_posts_6 g_shut_7 f_was f_fitPost f_fitEnd f_keptPosts (w_ - 10) 1 (by first | with_reducible assumption | with_reducible rfl | omega | assumption | rfl | decide) (by first | with_reducible assumption | with_reducible rfl | omega | assumption | rfl | decide) (by first | with_reducible assumption | with_reducible rfl | omega | assumption | rfl | decide)) (kV_RX12_385 C.2.2.2.2 (Nat.le_of_ble_eq_true rfl) (Nat.le_of_ble_eq_true rfl)) [7, 8, 4, 5, 0, 1, 2, 3] [0, 0, 0, 0, 0, 0, 1, 0] rfl rfl (ci := 11) (qc := (RX12, TX12, 43)) rfl rfl (List.mem_flatten.mpr ⟨_, List.mem_of_getElem? (i := 0) rfl, List.mem_cons_self⟩) rfl rfl hl.1 dX12_fits_44 (Nat.le_of_ble_eq_true rfl) (Nat.le_of_ble_eq_true rfl) (fun r_63 b1 H locs hw G => ?_)
            refine zEx11 hw ?_
            intro j_fitMany_51 j_fitLeast_52 j_fitMost_53 j_steps_54 j_at_55 j_gone_56 g_posts_57 g_was_58 g_fitPost_59 g_fitEnd_60 g_keptPosts_61
            refine zCu2 ?_
            intro hbs9 h_62
            clear hw
            subst hbs9
            have G : zS T A s.heap s [[zAr T 0 m_here 7 g_here_8], [zO11 mo m_all m_has i_size i_next i_where i_token i_number i_word i_wrong i_farCrossing m_read j_z0_1 j_crossings_2 j_inns_3 m_posts m_shut m_here j_steps_54 j_done_5 j_at_55 j_gone_56 m_was m_came m_seenAt m_rowWorth m_farBy m_used i_everywhere i_again0 i_d0 i_never i_firstCame i_longRun i_moved i_crowd j_l0_24 j_fitMany_51 j_fitLeast_52 j_fitMost_53 m_fitPost m_fitEnd m_keptPosts i_x0], [zAr T 0 m_all 3952 f_all], [zAr T 0 m_posts 7 g_posts_57], [zAr T 0 m_shut 7 g_shut_7], [zAr T 0 m_was 7 g_was_58], [zAr T 0 m_fitPost 28 g_fitPost_59], [zAr T 0 m_fitEnd 49 g_fitEnd_60], [zAr T 0 m_keptPosts 7 g_keptPosts_61]] _ _ := G
            refine lv_istore (lv' := [(4, .int r_63), (0, .ref mo), (1, .int l_), (2, .int k_), (3, .int w_)]) hx hb dX12_fits_47 hl (by decide) (zLvf_h rfl) (fun ls hl => ?_)
            refine lv_iload_n hx hb dX12_fits_49 rfl (lv_at hl 4 rfl) ?_
            refine lv_if_ne (tgt := 58) hx hb dX12_fits_50 (by decide) (fun c_64 => ?_) (fun c_64 => ?_)
            · have c_64n : ¬ w_.toInt = (0 : Int) := fun q => c_64 ((fa_eq _ _).mpr q)
              refine lv_iload_n hx hb dX12_fits_58 rfl (lv_at hl 4 rfl) ?_
              refine lv_iconst (v := 1) hx hb dX12_fits_59 (by decide) ?_
              refine lv_icmp_ne (tgt := 68) hx hb dX12_fits_60 (by decide) (fun q => absurd c_34 q) (fun _ => ?_)
              refine lv_aload_n hx hb dX12_fits_63 rfl (lv_at hl 1 rfl) ?_
              refine z_Vi (bc := [[zO11 mo m_all m_has i_size i_next i_where i_token i_number i_word i_wrong i_farCrossing m_read j_z0_1 j_crossings_2 j_inns_3 m_posts m_shut m_here j_steps_54 j_done_5 j_at_55 j_gone_56 m_was m_came m_seenAt m_rowWorth m_farBy m_used i_everywhere i_again0 i_d0 i_never i_firstCame i_longRun i_moved i_crowd j_l0_24 j_fitMany_51 j_fitLeast_52 j_fitMost_53 m_fitPost m_fitEnd m_keptPosts i_x0], [zAr T 0 m_fitEnd 49 g_fitEnd_60]]) (br := [[zAr T 0 m_here 7 g_here_8], [zAr T 0 m_all 3952 f_all], [zAr T 0 m_posts 7 g_posts_57], [zAr T 0 m_shut 7 g_shut_7], [zAr T 0 m_was 7 g_was_58], [zAr T 0 m_fitPost 28 g_fitPost_59], [zAr T 0 m_keptPosts 7 g_keptPosts_61]]) (As := []) (rest := []) C G (c_m_askOf l T mo m_all m_has i_size i_next i_where i_token i_number i_word i_wrong i_farCrossing m_read j_z0_1 j_crossings_2 j_inns_3 m_posts m_shut m_here j_steps_54 j_done_5 j_at_55 j_gone_56 m_was m_came m_seenAt m_rowWorth m_farBy m_used i_everywhere i_again0 i_d0 i_never i_firstCame i_longRun i_moved i_crowd j_l0_24 j_fitMany_51 j_fitLeast_52 j_fitMost_53 m_fitPost m_fitEnd m_keptPosts i_x0 g_fitEnd_60 (by first | with_reducible assumption | with_reducible rfl | omega | assumption | rfl | decide)) (kV_RX12_388 C.2.2.2.2 (Nat.le_of_ble_eq_true rfl) (Nat.le_of_ble_eq_true rfl)) [1, 7] [1, 5] rfl rfl (ci := 11) (qc := (RX12, TX12, 43)) rfl rfl (List.mem_flatten.mpr ⟨_, List.mem_of_getElem? (i := 0) rfl, List.mem_cons_self⟩) rfl rfl hl.1 dX12_fits_64 (Nat.le_of_ble_eq_true rfl) (Nat.le_of_ble_eq_true rfl) (fun r_65 b1 H locs hw G => ?_)
              obtain rfl := hw
              have G : zS T A s.heap s [[zAr T 0 m_here 7 g_here_8], [zAr T 0 m_all 3952 f_all], [zAr T 0 m_posts 7 g_posts_57], [zAr T 0 m_shut 7 g_shut_7], [zAr T 0 m_was 7 g_was_58], [zAr T 0 m_fitPost 28 g_fitPost_59], [zAr T 0 m_keptPosts 7 g_keptPosts_61], [zO11 mo m_all m_has i_size i_next i_where i_token i_number i_word i_wrong i_farCrossing m_read j_z0_1 j_crossings_2 j_inns_3 m_posts m_shut m_here j_steps_54 j_done_5 j_at_55 j_gone_56 m_was m_came m_seenAt m_rowWorth m_farBy m_used i_everywhere i_again0 i_d0 i_never i_firstCame i_longRun i_moved i_crowd j_l0_24 j_fitMany_51 j_fitLeast_52 j_fitMost_53 m_fitPost m_fitEnd m_keptPosts i_x0], [zAr T 0 m_fitEnd 49 g_fitEnd_60]] _ _ := G
              have G := G.sub (bs' := [[zO11 mo m_all m_has i_size i_next i_where i_token i_number i_word i_wrong i_farCrossing m_read j_z0_1 j_crossings_2 j_inns_3 m_posts m_shut m_here j_steps_54 j_done_5 j_at_55 j_gone_56 m_was m_came m_seenAt m_rowWorth m_farBy m_used i_everywhere i_again0 i_d0 i_never i_firstCame i_longRun i_moved i_crowd j_l0_24 j_fitMany_51 j_fitLeast_52 j_fitMost_53 m_fitPost m_fitEnd m_keptPosts i_x0], [zAr T 0 m_all 3952 f_all], [zAr T 0 m_posts 7 g_posts_57], [zAr T 0 m_shut 7 g_shut_7], [zAr T 0 m_here 7 g_here_8], [zAr T 0 m_was 7 g_was_58], [zAr T 0 m_fitPost 28 g_fitPost_59], [zAr T 0 m_fitEnd 49 g_fitEnd_60], [zAr T 0 m_keptPosts 7 g_keptPosts_61]]) [7, 1, 2, 3, 0, 4, 5, 8, 6] rfl
              exact z_back hQz_ (z_iret C hr hlocks G (Nat.le_of_ble_eq_true rfl) (Nat.le_of_ble_eq_true rfl) dX12_fits_67 ⟨j_z0_1, j_crossings_2, j_inns_3, j_steps_54, j_done_5, j_at_55, j_gone_56, j_l0_24, j_fitMany_51, j_fitLeast_52, j_fitMost_53, g_posts_57, g_shut_7, g_here_8, g_was_58, g_fitPost_59, g_fitEnd_60, g_keptPosts_61, rfl⟩)
            · have c_64n : w_.toInt = (0 : Int) := (fa_eq _ _).mp c_64
              refine lv_aload_n hx hb dX12_fits_53 rfl (lv_at hl 1 rfl) ?_
              refine z_get C G clX12 1 rfl 36 (by decide) m_fl_RX12_366 rfl dX12_fits_54 ?_
              have G := G.sub (bs' := [[zO11 mo m_all m_has i_size i_next i_where i_token i_number i_word i_wrong i_farCrossing m_read j_z0_1 j_crossings_2 j_inns_3 m_posts m_shut m_here j_steps_54 j_done_5 j_at_55 j_gone_56 m_was m_came m_seenAt m_rowWorth m_farBy m_used i_everywhere i_again0 i_d0 i_never i_firstCame i_longRun i_moved i_crowd j_l0_24 j_fitMany_51 j_fitLeast_52 j_fitMost_53 m_fitPost m_fitEnd m_keptPosts i_x0], [zAr T 0 m_all 3952 f_all], [zAr T 0 m_posts 7 g_posts_57], [zAr T 0 m_shut 7 g_shut_7], [zAr T 0 m_here 7 g_here_8], [zAr T 0 m_was 7 g_was_58], [zAr T 0 m_fitPost 28 g_fitPost_59], [zAr T 0 m_fitEnd 49 g_fitEnd_60], [zAr T 0 m_keptPosts 7 g_keptPosts_61]]) [1, 2, 3, 4, 0, 5, 6, 7, 8] rfl
              exact z_back hQz_ (z_iret C hr hlocks G (Nat.le_of_ble_eq_true rfl) (Nat.le_of_ble_eq_true rfl) dX12_fits_57 ⟨j_z0_1, j_crossings_2, j_inns_3, j_steps_54, j_done_5, j_at_55, j_gone_56, j_l0_24, j_fitMany_51, j_fitLeast_52, j_fitMost_53, g_posts_57, g_shut_7, g_here_8, g_was_58, g_fitPost_59, g_fitEnd_60, g_keptPosts_61, rfl⟩)
        · have c_33n : w_.toInt = (9 : Int) := (fa_eq _ _).mp c_33
          refine lv_bipush (v := (-2)) hx hb dX12_fits_26 (by decide) ?_
          have G := G.sub (bs' := [[zO11 mo m_all m_has i_size i_next i_where i_token i_number i_word i_wrong i_farCrossing m_read j_z0_1 j_crossings_2 j_inns_3 m_posts m_shut m_here j_steps_4 j_done_5 i_at i_gone m_was m_came m_seenAt m_rowWorth m_farBy m_used i_everywhere i_again0 i_d0 i_never i_firstCame i_longRun i_moved i_crowd j_l0_24 i_fitMany i_fitLeast i_fitMost m_fitPost m_fitEnd m_keptPosts i_x0], [zAr T 0 m_all 3952 f_all], [zAr T 0 m_posts 7 g_posts_6], [zAr T 0 m_shut 7 g_shut_7], [zAr T 0 m_here 7 g_here_8], [zAr T 0 m_was 7 f_was], [zAr T 0 m_fitPost 28 f_fitPost], [zAr T 0 m_fitEnd 49 f_fitEnd], [zAr T 0 m_keptPosts 7 f_keptPosts]]) [7, 8, 4, 5, 6, 0, 1, 2, 3] rfl
          exact z_back hQz_ (z_iret C hr hlocks G (Nat.le_of_ble_eq_true rfl) (Nat.le_of_ble_eq_true rfl) dX12_fits_28 ⟨j_z0_1, j_crossings_2, j_inns_3, j_steps_4, j_done_5, i_at, i_gone, j_l0_24, i_fitMany, i_fitLeast, i_fitMost, g_posts_6, g_shut_7, g_here_8, f_was, f_fitPost, f_fitEnd, f_keptPosts, rfl⟩)
    · have h_31 : (k_.toInt < 0 ∨ (f_all 2).toInt ≤ k_.toInt) := h_31
      refine lv_if_eq (tgt := 26) hx hb dX12_fits_13 (by decide) (fun _ => ?_) (fun q => absurd (by decide) q)
      refine lv_bipush (v := (-2)) hx hb dX12_fits_26 (by decide) ?_
      have G := G.sub (bs' := [[zO11 mo m_all m_has i_size i_next i_where i_token i_number i_word i_wrong i_farCrossing m_read j_z0_1 j_crossings_2 j_inns_3 m_posts m_shut m_here j_steps_4 j_done_5 i_at i_gone m_was m_came m_seenAt m_rowWorth m_farBy m_used i_everywhere i_again0 i_d0 i_never i_firstCame i_longRun i_moved i_crowd j_l0_24 i_fitMany i_fitLeast i_fitMost m_fitPost m_fitEnd m_keptPosts i_x0], [zAr T 0 m_all 3952 f_all], [zAr T 0 m_posts 7 g_posts_6], [zAr T 0 m_shut 7 g_shut_7], [zAr T 0 m_here 7 g_here_8], [zAr T 0 m_was 7 f_was], [zAr T 0 m_fitPost 28 f_fitPost], [zAr T 0 m_fitEnd 49 f_fitEnd], [zAr T 0 m_keptPosts 7 f_keptPosts]]) [7, 8, 4, 5, 6, 0, 1, 2, 3] rfl
      exact z_back hQz_ (z_iret C hr hlocks G (Nat.le_of_ble_eq_true rfl) (Nat.le_of_ble_eq_true rfl) dX12_fits_28 ⟨j_z0_1, j_crossings_2, j_inns_3, j_steps_4, j_done_5, i_at, i_gone, j_l0_24, i_fitMany, i_fitLeast, i_fitMost, g_posts_6, g_shut_7, g_here_8, f_was, f_fitPost, f_fitEnd, f_keptPosts, rfl⟩)
  · have h_23 : (l_.toInt < 0 ∨ (f_all 0).toInt ≤ l_.toInt) := h_23
    refine lv_if_eq (tgt := 26) hx hb dX12_fits_5 (by decide) (fun _ => ?_) (fun q => absurd (by decide) q)
    refine lv_bipush (v := (-2)) hx hb dX12_fits_26 (by decide) ?_
    have G := G.sub (bs' := [[zO11 mo m_all m_has i_size i_next i_where i_token i_number i_word i_wrong i_farCrossing m_read j_z0_1 j_crossings_2 j_inns_3 m_posts m_shut m_here j_steps_4 j_done_5 i_at i_gone m_was m_came m_seenAt m_rowWorth m_farBy m_used i_everywhere i_again0 i_d0 i_never i_firstCame i_longRun i_moved i_crowd i_l0 i_fitMany i_fitLeast i_fitMost m_fitPost m_fitEnd m_keptPosts i_x0], [zAr T 0 m_all 3952 f_all], [zAr T 0 m_posts 7 g_posts_6], [zAr T 0 m_shut 7 g_shut_7], [zAr T 0 m_here 7 g_here_8], [zAr T 0 m_was 7 f_was], [zAr T 0 m_fitPost 28 f_fitPost], [zAr T 0 m_fitEnd 49 f_fitEnd], [zAr T 0 m_keptPosts 7 f_keptPosts]]) [4, 5, 6, 7, 8, 0, 1, 2, 3] rfl
    exact z_back hQz_ (z_iret C hr hlocks G (Nat.le_of_ble_eq_true rfl) (Nat.le_of_ble_eq_true rfl) dX12_fits_28 ⟨j_z0_1, j_crossings_2, j_inns_3, j_steps_4, j_done_5, i_at, i_gone, i_l0, i_fitMany, i_fitLeast, i_fitMost, g_posts_6, g_shut_7, g_here_8, f_was, f_fitPost, f_fitEnd, f_keptPosts, rfl⟩)
set_option maxHeartbeats 4000000 in
set_option maxRecDepth 100000 in
/-- c_m_odds -/
theorem c_m_odds (l : Launch) (T : zTy) (mo : Nat) (m_all : Nat) (m_has : Nat) (i_size : Int32) (i_next : Int32) (i_where : Int32) (i_token : Int32) (i_number : Int32) (i_word : Int32) (i_wrong : Int32) (i_farCrossing : Int32) (m_read : Nat) (i_z0 : Int32) (i_crossings : Int32) (i_inns : Int32) (m_posts : Nat) (m_shut : Nat) (m_here : Nat) (i_steps : Int32) (i_done : Int32) (i_at : Int32) (i_gone : Int32) (m_was : Nat) (m_came : Nat) (m_seenAt : Nat) (m_rowWorth : Nat) (m_farBy : Nat) (m_used : Nat) (i_everywhere : Int32) (i_again0 : Int32) (i_d0 : Int32) (i_never : Int32) (i_firstCame : Int32) (i_longRun : Int32) (i_moved : Int32) (i_crowd : Int32) (i_l0 : Int32) (i_fitMany : Int32) (i_fitLeast : Int32) (i_fitMost : Int32) (m_fitPost : Nat) (m_fitEnd : Nat) (m_keptPosts : Nat) (i_x0 : Int32) (f_all : Nat → Int32) (f_posts : Nat → Int32) (f_shut : Nat → Int32) (f_here : Nat → Int32) (f_was : Nat → Int32) (f_fitPost : Nat → Int32) (f_fitEnd : Nat → Int32) (f_keptPosts : Nat → Int32) (l_ : Int32) (k_ : Int32) (c_ : Int32) (o_ : Int32) (u_ : Int32) (hB : zBI f_all) : zMi l T yX12_odds cX12_odds 6 (some .int) 7 0 0 [.ref mo, .int l_, .int k_, .int c_, .int o_, .int u_] [[zO11 mo m_all m_has i_size i_next i_where i_token i_number i_word i_wrong i_farCrossing m_read i_z0 i_crossings i_inns m_posts m_shut m_here i_steps i_done i_at i_gone m_was m_came m_seenAt m_rowWorth m_farBy m_used i_everywhere i_again0 i_d0 i_never i_firstCame i_longRun i_moved i_crowd i_l0 i_fitMany i_fitLeast i_fitMost m_fitPost m_fitEnd m_keptPosts i_x0], [zAr T 0 m_all 3952 f_all], [zAr T 0 m_posts 7 f_posts], [zAr T 0 m_shut 7 f_shut], [zAr T 0 m_here 7 f_here], [zAr T 0 m_was 7 f_was], [zAr T 0 m_fitPost 28 f_fitPost], [zAr T 0 m_fitEnd 49 f_fitEnd], [zAr T 0 m_keptPosts 7 f_keptPosts]] (fun (r : Int32) bs => ∃ (j_z0 : Int32) (j_crossings : Int32) (j_inns : Int32) (j_steps : Int32) (j_done : Int32) (j_at : Int32) (j_gone : Int32) (j_l0 : Int32) (j_fitMany : Int32) (j_fitLeast : Int32) (j_fitMost : Int32) (g_posts : Nat → Int32) (g_shut : Nat → Int32) (g_here : Nat → Int32) (g_was : Nat → Int32) (g_fitPost : Nat → Int32) (g_fitEnd : Nat → Int32) (g_keptPosts : Nat → Int32), bs = [[zO11 mo m_all m_has i_size i_next i_where i_token i_number i_word i_wrong i_farCrossing m_read j_z0 j_crossings j_inns m_posts m_shut m_here j_steps j_done j_at j_gone m_was m_came m_seenAt m_rowWorth m_farBy m_used i_everywhere i_again0 i_d0 i_never i_firstCame i_longRun i_moved i_crowd j_l0 j_fitMany j_fitLeast j_fitMost m_fitPost m_fitEnd m_keptPosts i_x0], [zAr T 0 m_all 3952 f_all], [zAr T 0 m_posts 7 g_posts], [zAr T 0 m_shut 7 g_shut], [zAr T 0 m_here 7 g_here], [zAr T 0 m_was 7 g_was], [zAr T 0 m_fitPost 28 g_fitPost], [zAr T 0 m_fitEnd 49 g_fitEnd], [zAr T 0 m_keptPosts 7 g_keptPosts]]) := by
  refine zMi_of (own := RX12) (by decide) rfl (Nat.le_of_ble_eq_true rfl) ?_
  intro p e s m args below meth c A ls C hr hlocks hnm hAe G hl
  refine zHide (fun Qz_ hQz_ => ?_)
  have hx := C.1
  have hb := C.2.1
  have hl : lv_has ls 6 [(0, .ref mo), (1, .int l_), (2, .int k_), (3, .int c_), (4, .int o_), (5, .int u_)] := hl
  refine lv_aload_n hx hb dX12_odds_0 rfl (lv_at hl 0 rfl) ?_
  refine lv_iload_n hx hb dX12_odds_1 rfl (lv_at hl 1 rfl) ?_
  refine z_Vi (bc := [[zO11 mo m_all m_has i_size i_next i_where i_token i_number i_word i_wrong i_farCrossing m_read i_z0 i_crossings i_inns m_posts m_shut m_here i_steps i_done i_at i_gone m_was m_came m_seenAt m_rowWorth m_farBy m_used i_everywhere i_again0 i_d0 i_never i_firstCame i_longRun i_moved i_crowd i_l0 i_fitMany i_fitLeast i_fitMost m_fitPost m_fitEnd m_keptPosts i_x0], [zAr T 0 m_all 3952 f_all], [zAr T 0 m_posts 7 f_posts], [zAr T 0 m_shut 7 f_shut], [zAr T 0 m_here 7 f_here]]) (br := [[zAr T 0 m_was 7 f_was], [zAr T 0 m_fitPost 28 f_fitPost], [zAr T 0 m_fitEnd 49 f_fitEnd], [zAr T 0 m_keptPosts 7 f_keptPosts]]) (As := [.int l_]) (rest := []) C G (c_m_isLand l T mo m_all m_has i_size i_next i_where i_token i_number i_word i_wrong i_farCrossing m_read i_z0 i_crossings i_inns m_posts m_shut m_here i_steps i_done i_at i_gone m_was m_came m_seenAt m_rowWorth m_farBy m_used i_everywhere i_again0 i_d0 i_never i_firstCame i_longRun i_moved i_crowd i_l0 i_fitMany i_fitLeast i_fitMost m_fitPost m_fitEnd m_keptPosts i_x0 f_all f_posts f_shut f_here l_ (by first | with_reducible assumption | with_reducible rfl | omega | assumption | rfl | decide)) (kV_RX12_184 C.2.2.2.2 (Nat.le_of_ble_eq_true rfl) (Nat.le_of_ble_eq_true rfl)) [0, 1, 2, 3, 4] [0, 0, 0, 0, 0] rfl rfl (ci := 11) (qc := (RX12, TX12, 43)) rfl rfl (List.mem_flatten.mpr ⟨_, List.mem_of_getElem? (i := 0) rfl, List.mem_cons_self⟩) rfl rfl hl.1 dX12_odds_2 (Nat.le_of_ble_eq_true rfl) (Nat.le_of_ble_eq_true rfl) (fun r_10 b1 H locs hw G => ?_)
  refine zEx8 hw ?_
  intro j_z0_1 j_crossings_2 j_inns_3 j_steps_4 j_done_5 g_posts_6 g_shut_7 g_here_8
  refine zCu2 ?_
  intro hbs9 hc_9
  clear hw
  subst hbs9
  have G : zS T A s.heap s [[zAr T 0 m_was 7 f_was], [zAr T 0 m_fitPost 28 f_fitPost], [zAr T 0 m_fitEnd 49 f_fitEnd], [zAr T 0 m_keptPosts 7 f_keptPosts], [zO11 mo m_all m_has i_size i_next i_where i_token i_number i_word i_wrong i_farCrossing m_read j_z0_1 j_crossings_2 j_inns_3 m_posts m_shut m_here j_steps_4 j_done_5 i_at i_gone m_was m_came m_seenAt m_rowWorth m_farBy m_used i_everywhere i_again0 i_d0 i_never i_firstCame i_longRun i_moved i_crowd i_l0 i_fitMany i_fitLeast i_fitMost m_fitPost m_fitEnd m_keptPosts i_x0], [zAr T 0 m_all 3952 f_all], [zAr T 0 m_posts 7 g_posts_6], [zAr T 0 m_shut 7 g_shut_7], [zAr T 0 m_here 7 g_here_8]] _ _ := G
  rcases hc_9 with ⟨rfl, h_11, h_12, h_13, h_14, h_15, h_16, h_17, h_18, h_19, h_20, h_21, h_22⟩ | ⟨rfl, h_23⟩
  · have h_11 : 0 ≤ l_.toInt := h_11
    have h_12 : l_.toInt ≤ 1 := h_12
    have h_13 : l_.toInt < (f_all 0).toInt := h_13
    have h_14 : j_z0_1.toInt = 610 + 51 * l_.toInt := h_14
    have h_15 : zML f_all j_z0_1 j_crossings_2 := h_15
    have h_16 : zMP g_posts_6 := h_16
    have h_17 : j_inns_3 = f_all (j_z0_1.toInt.toNat + 1) := h_17
    have h_18 : j_steps_4 = 0 := h_18
    have h_19 : j_done_5 = 0 := h_19
    have h_20 : (∀ j, j < 7 → g_posts_6 j = zPt f_all j_z0_1 (nI j)) := h_20
    have h_21 : (∀ j, j < 7 → g_shut_7 j = 0) := h_21
    have h_22 : (∀ j, j < 7 → g_here_8 j = zWk f_all j_z0_1 j) := h_22
    have hLx := h_15
    have hcr := hLx.cr
    have hzx := hLx.1
    have hPx := h_16
    refine lv_if_eq (tgt := 40) hx hb dX12_odds_5 (by decide) (fun q => absurd q (by decide)) (fun _ => ?_)
    refine lv_aload_n hx hb dX12_odds_8 rfl (lv_at hl 0 rfl) ?_
    refine lv_iload_n hx hb dX12_odds_9 rfl (lv_at hl 2 rfl) ?_
    refine z_Vi (bc := [[zO11 mo m_all m_has i_size i_next i_where i_token i_number i_word i_wrong i_farCrossing m_read j_z0_1 j_crossings_2 j_inns_3 m_posts m_shut m_here j_steps_4 j_done_5 i_at i_gone m_was m_came m_seenAt m_rowWorth m_farBy m_used i_everywhere i_again0 i_d0 i_never i_firstCame i_longRun i_moved i_crowd i_l0 i_fitMany i_fitLeast i_fitMost m_fitPost m_fitEnd m_keptPosts i_x0], [zAr T 0 m_all 3952 f_all]]) (br := [[zAr T 0 m_was 7 f_was], [zAr T 0 m_fitPost 28 f_fitPost], [zAr T 0 m_fitEnd 49 f_fitEnd], [zAr T 0 m_keptPosts 7 f_keptPosts], [zAr T 0 m_posts 7 g_posts_6], [zAr T 0 m_shut 7 g_shut_7], [zAr T 0 m_here 7 g_here_8]]) (As := [.int k_]) (rest := []) C G (c_m_isLog l T mo m_all m_has i_size i_next i_where i_token i_number i_word i_wrong i_farCrossing m_read j_z0_1 j_crossings_2 j_inns_3 m_posts m_shut m_here j_steps_4 j_done_5 i_at i_gone m_was m_came m_seenAt m_rowWorth m_farBy m_used i_everywhere i_again0 i_d0 i_never i_firstCame i_longRun i_moved i_crowd i_l0 i_fitMany i_fitLeast i_fitMost m_fitPost m_fitEnd m_keptPosts i_x0 f_all k_ (by first | with_reducible assumption | with_reducible rfl | omega | assumption | rfl | decide)) (kV_RX12_363 C.2.2.2.2 (Nat.le_of_ble_eq_true rfl) (Nat.le_of_ble_eq_true rfl)) [4, 5] [4, 0] rfl rfl (ci := 11) (qc := (RX12, TX12, 43)) rfl rfl (List.mem_flatten.mpr ⟨_, List.mem_of_getElem? (i := 0) rfl, List.mem_cons_self⟩) rfl rfl hl.1 dX12_odds_10 (Nat.le_of_ble_eq_true rfl) (Nat.le_of_ble_eq_true rfl) (fun r_26 b1 H locs hw G => ?_)
    refine zEx1 hw ?_
    intro j_l0_24
    refine zCu2 ?_
    intro hbs9 hc_25
    clear hw
    subst hbs9
    have G : zS T A s.heap s [[zAr T 0 m_was 7 f_was], [zAr T 0 m_fitPost 28 f_fitPost], [zAr T 0 m_fitEnd 49 f_fitEnd], [zAr T 0 m_keptPosts 7 f_keptPosts], [zAr T 0 m_posts 7 g_posts_6], [zAr T 0 m_shut 7 g_shut_7], [zAr T 0 m_here 7 g_here_8], [zO11 mo m_all m_has i_size i_next i_where i_token i_number i_word i_wrong i_farCrossing m_read j_z0_1 j_crossings_2 j_inns_3 m_posts m_shut m_here j_steps_4 j_done_5 i_at i_gone m_was m_came m_seenAt m_rowWorth m_farBy m_used i_everywhere i_again0 i_d0 i_never i_firstCame i_longRun i_moved i_crowd j_l0_24 i_fitMany i_fitLeast i_fitMost m_fitPost m_fitEnd m_keptPosts i_x0], [zAr T 0 m_all 3952 f_all]] _ _ := G
    rcases hc_25 with ⟨rfl, h_27, h_28, h_29, h_30⟩ | ⟨rfl, h_31⟩
    · have h_27 : 0 ≤ k_.toInt := h_27
      have h_28 : k_.toInt < (f_all 2).toInt := h_28
      have h_29 : j_l0_24.toInt = 954 + 17 * k_.toInt := h_29
      have h_30 : zMG f_all j_l0_24 := h_30
      have hD := h_30
      have hDa := hD.1
      have hDb := hD.2
      refine lv_if_eq (tgt := 40) hx hb dX12_odds_13 (by decide) (fun q => absurd q (by decide)) (fun _ => ?_)
      refine lv_aload_n hx hb dX12_odds_16 rfl (lv_at hl 0 rfl) ?_
      refine lv_iload_n hx hb dX12_odds_17 rfl (lv_at hl 3 rfl) ?_
      refine z_Vi (bc := [[zO11 mo m_all m_has i_size i_next i_where i_token i_number i_word i_wrong i_farCrossing m_read j_z0_1 j_crossings_2 j_inns_3 m_posts m_shut m_here j_steps_4 j_done_5 i_at i_gone m_was m_came m_seenAt m_rowWorth m_farBy m_used i_everywhere i_again0 i_d0 i_never i_firstCame i_longRun i_moved i_crowd j_l0_24 i_fitMany i_fitLeast i_fitMost m_fitPost m_fitEnd m_keptPosts i_x0]]) (br := [[zAr T 0 m_was 7 f_was], [zAr T 0 m_fitPost 28 f_fitPost], [zAr T 0 m_fitEnd 49 f_fitEnd], [zAr T 0 m_keptPosts 7 f_keptPosts], [zAr T 0 m_posts 7 g_posts_6], [zAr T 0 m_shut 7 g_shut_7], [zAr T 0 m_here 7 g_here_8], [zAr T 0 m_all 3952 f_all]]) (As := [.int c_]) (rest := []) C G (c_m_isCrossing l T mo m_all m_has i_size i_next i_where i_token i_number i_word i_wrong i_farCrossing m_read j_z0_1 j_crossings_2 j_inns_3 m_posts m_shut m_here j_steps_4 j_done_5 i_at i_gone m_was m_came m_seenAt m_rowWorth m_farBy m_used i_everywhere i_again0 i_d0 i_never i_firstCame i_longRun i_moved i_crowd j_l0_24 i_fitMany i_fitLeast i_fitMost m_fitPost m_fitEnd m_keptPosts i_x0 c_ (by first | with_reducible assumption | with_reducible rfl | omega | assumption | rfl | decide)) (kV_RX12_187 C.2.2.2.2 (Nat.le_of_ble_eq_true rfl) (Nat.le_of_ble_eq_true rfl)) [7] [7] rfl rfl (ci := 11) (qc := (RX12, TX12, 43)) rfl rfl (List.mem_flatten.mpr ⟨_, List.mem_of_getElem? (i := 0) rfl, List.mem_cons_self⟩) rfl rfl hl.1 dX12_odds_18 (Nat.le_of_ble_eq_true rfl) (Nat.le_of_ble_eq_true rfl) (fun r_33 b1 H locs hw G => ?_)
      refine zAn2 hw ?_
      intro hbs9 hc_32
      clear hw
      subst hbs9
      have G : zS T A s.heap s [[zAr T 0 m_was 7 f_was], [zAr T 0 m_fitPost 28 f_fitPost], [zAr T 0 m_fitEnd 49 f_fitEnd], [zAr T 0 m_keptPosts 7 f_keptPosts], [zAr T 0 m_posts 7 g_posts_6], [zAr T 0 m_shut 7 g_shut_7], [zAr T 0 m_here 7 g_here_8], [zAr T 0 m_all 3952 f_all], [zO11 mo m_all m_has i_size i_next i_where i_token i_number i_word i_wrong i_farCrossing m_read j_z0_1 j_crossings_2 j_inns_3 m_posts m_shut m_here j_steps_4 j_done_5 i_at i_gone m_was m_came m_seenAt m_rowWorth m_farBy m_used i_everywhere i_again0 i_d0 i_never i_firstCame i_longRun i_moved i_crowd j_l0_24 i_fitMany i_fitLeast i_fitMost m_fitPost m_fitEnd m_keptPosts i_x0]] _ _ := G
      rcases hc_32 with ⟨rfl, h_34, h_35⟩ | ⟨rfl, h_36⟩
      · have h_34 : 0 ≤ c_.toInt := h_34
        have h_35 : c_.toInt < j_crossings_2.toInt := h_35
        refine lv_if_eq (tgt := 40) hx hb dX12_odds_21 (by decide) (fun q => absurd q (by decide)) (fun _ => ?_)
        refine lv_iload hx hb dX12_odds_24 (lv_at hl 4 rfl) ?_
        refine lv_iconst (v := 0) hx hb dX12_odds_26 (by decide) ?_
        refine lv_aload_n hx hb dX12_odds_27 rfl (lv_at hl 0 rfl) ?_
        refine lv_iload_n hx hb dX12_odds_28 rfl (lv_at hl 3 rfl) ?_
        refine z_Vi (bc := [[zO11 mo m_all m_has i_size i_next i_where i_token i_number i_word i_wrong i_farCrossing m_read j_z0_1 j_crossings_2 j_inns_3 m_posts m_shut m_here j_steps_4 j_done_5 i_at i_gone m_was m_came m_seenAt m_rowWorth m_farBy m_used i_everywhere i_again0 i_d0 i_never i_firstCame i_longRun i_moved i_crowd j_l0_24 i_fitMany i_fitLeast i_fitMost m_fitPost m_fitEnd m_keptPosts i_x0], [zAr T 0 m_all 3952 f_all]]) (br := [[zAr T 0 m_was 7 f_was], [zAr T 0 m_fitPost 28 f_fitPost], [zAr T 0 m_fitEnd 49 f_fitEnd], [zAr T 0 m_keptPosts 7 f_keptPosts], [zAr T 0 m_posts 7 g_posts_6], [zAr T 0 m_shut 7 g_shut_7], [zAr T 0 m_here 7 g_here_8]]) (As := [.int c_]) (rest := [.int 0, .int o_]) C G (c_m_roadsOf l T mo m_all m_has i_size i_next i_where i_token i_number i_word i_wrong i_farCrossing m_read j_z0_1 j_crossings_2 j_inns_3 m_posts m_shut m_here j_steps_4 j_done_5 i_at i_gone m_was m_came m_seenAt m_rowWorth m_farBy m_used i_everywhere i_again0 i_d0 i_never i_firstCame i_longRun i_moved i_crowd j_l0_24 i_fitMany i_fitLeast i_fitMost m_fitPost m_fitEnd m_keptPosts i_x0 f_all c_ (by first | with_reducible assumption | with_reducible rfl | omega | assumption | rfl | decide) (by first | with_reducible assumption | with_reducible rfl | omega | assumption | rfl | decide) (by first | with_reducible assumption | with_reducible rfl | omega | assumption | rfl | decide)) (kV_RX12_181 C.2.2.2.2 (Nat.le_of_ble_eq_true rfl) (Nat.le_of_ble_eq_true rfl)) [8, 7] [7, 0] rfl rfl (ci := 11) (qc := (RX12, TX12, 43)) rfl rfl (List.mem_flatten.mpr ⟨_, List.mem_of_getElem? (i := 0) rfl, List.mem_cons_self⟩) rfl rfl hl.1 dX12_odds_29 (Nat.le_of_ble_eq_true rfl) (Nat.le_of_ble_eq_true rfl) (fun r_40 b1 H locs hw G => ?_)
        refine zAn4 hw ?_
        intro hbs9 h_37 h_38 h_39
        clear hw
        subst hbs9
        have G : zS T A s.heap s [[zAr T 0 m_was 7 f_was], [zAr T 0 m_fitPost 28 f_fitPost], [zAr T 0 m_fitEnd 49 f_fitEnd], [zAr T 0 m_keptPosts 7 f_keptPosts], [zAr T 0 m_posts 7 g_posts_6], [zAr T 0 m_shut 7 g_shut_7], [zAr T 0 m_here 7 g_here_8], [zO11 mo m_all m_has i_size i_next i_where i_token i_number i_word i_wrong i_farCrossing m_read j_z0_1 j_crossings_2 j_inns_3 m_posts m_shut m_here j_steps_4 j_done_5 i_at i_gone m_was m_came m_seenAt m_rowWorth m_farBy m_used i_everywhere i_again0 i_d0 i_never i_firstCame i_longRun i_moved i_crowd j_l0_24 i_fitMany i_fitLeast i_fitMost m_fitPost m_fitEnd m_keptPosts i_x0], [zAr T 0 m_all 3952 f_all]] _ _ := G
        subst h_37
        refine lv_iconst (v := 1) hx hb dX12_odds_32 (by decide) ?_
        refine lv_isub hx hb dX12_odds_33 ?_
        refine lv_topi (fun y_41 ey_41 => ?_)
        have ey_41i : y_41.toInt = (zRd f_all j_z0_1 c_).toInt - (1 : Int) := by rw [ey_41]; exact z_isubI (x := (zRd f_all j_z0_1 c_)) (y := (1 : Int32)) (by show -2147483648 ≤ (zRd f_all j_z0_1 c_).toInt - (1 : Int); omega) (by show (zRd f_all j_z0_1 c_).toInt - (1 : Int) < 2147483648; omega)
        refine z_Si (bc := []) (br := [[zAr T 0 m_was 7 f_was], [zAr T 0 m_fitPost 28 f_fitPost], [zAr T 0 m_fitEnd 49 f_fitEnd], [zAr T 0 m_keptPosts 7 f_keptPosts], [zAr T 0 m_posts 7 g_posts_6], [zAr T 0 m_shut 7 g_shut_7], [zAr T 0 m_here 7 g_here_8], [zO11 mo m_all m_has i_size i_next i_where i_token i_number i_word i_wrong i_farCrossing m_read j_z0_1 j_crossings_2 j_inns_3 m_posts m_shut m_here j_steps_4 j_done_5 i_at i_gone m_was m_came m_seenAt m_rowWorth m_farBy m_used i_everywhere i_again0 i_d0 i_never i_firstCame i_longRun i_moved i_crowd j_l0_24 i_fitMany i_fitLeast i_fitMost m_fitPost m_fitEnd m_keptPosts i_x0], [zAr T 0 m_all 3952 f_all]]) (As := [.int o_, .int 0, .int y_41]) (rest := []) C G (c_m_isIn l T o_ 0 y_41) (kS_RX12_111 C.2.2.2.2 (Nat.le_of_ble_eq_true rfl) (Nat.le_of_ble_eq_true rfl)) [] [] rfl rfl rfl rfl hl.1 dX12_odds_34 (Nat.le_of_ble_eq_true rfl) (Nat.le_of_ble_eq_true rfl) (fun r_43 b1 H locs hw G => ?_)
        refine zAn2 hw ?_
        intro hbs9 hc_42
        clear hw
        subst hbs9
        have G : zS T A s.heap s [[zAr T 0 m_was 7 f_was], [zAr T 0 m_fitPost 28 f_fitPost], [zAr T 0 m_fitEnd 49 f_fitEnd], [zAr T 0 m_keptPosts 7 f_keptPosts], [zAr T 0 m_posts 7 g_posts_6], [zAr T 0 m_shut 7 g_shut_7], [zAr T 0 m_here 7 g_here_8], [zO11 mo m_all m_has i_size i_next i_where i_token i_number i_word i_wrong i_farCrossing m_read j_z0_1 j_crossings_2 j_inns_3 m_posts m_shut m_here j_steps_4 j_done_5 i_at i_gone m_was m_came m_seenAt m_rowWorth m_farBy m_used i_everywhere i_again0 i_d0 i_never i_firstCame i_longRun i_moved i_crowd j_l0_24 i_fitMany i_fitLeast i_fitMost m_fitPost m_fitEnd m_keptPosts i_x0], [zAr T 0 m_all 3952 f_all]] _ _ := G
        rcases hc_42 with ⟨rfl, h_44, h_45⟩ | ⟨rfl, h_46⟩
        · have h_44 : (0 : Int) ≤ o_.toInt := h_44
          have h_45 : o_.toInt ≤ y_41.toInt := h_45
          refine lv_if_ne (tgt := 42) hx hb dX12_odds_37 (by decide) (fun _ => ?_) (fun q => absurd q (by decide))
          refine lv_aload_n hx hb dX12_odds_42 rfl (lv_at hl 0 rfl) ?_
          refine lv_bipush (v := (-2)) hx hb dX12_odds_43 (by decide) ?_
          refine lv_iconst (v := 0) hx hb dX12_odds_45 (by decide) ?_
          refine z_Vi (bc := [[zO11 mo m_all m_has i_size i_next i_where i_token i_number i_word i_wrong i_farCrossing m_read j_z0_1 j_crossings_2 j_inns_3 m_posts m_shut m_here j_steps_4 j_done_5 i_at i_gone m_was m_came m_seenAt m_rowWorth m_farBy m_used i_everywhere i_again0 i_d0 i_never i_firstCame i_longRun i_moved i_crowd j_l0_24 i_fitMany i_fitLeast i_fitMost m_fitPost m_fitEnd m_keptPosts i_x0], [zAr T 0 m_all 3952 f_all], [zAr T 0 m_posts 7 g_posts_6], [zAr T 0 m_shut 7 g_shut_7], [zAr T 0 m_was 7 f_was], [zAr T 0 m_fitPost 28 f_fitPost], [zAr T 0 m_fitEnd 49 f_fitEnd], [zAr T 0 m_keptPosts 7 f_keptPosts]]) (br := [[zAr T 0 m_here 7 g_here_8]]) (As := [.int (-2), .int 0]) (rest := []) C G (c_m_laysFits l T mo m_all m_has i_size i_next i_where i_token i_number i_word i_wrong i_farCrossing m_read j_z0_1 j_crossings_2 j_inns_3 m_posts m_shut m_here j_steps_4 j_done_5 i_at i_gone m_was m_came m_seenAt m_rowWorth m_farBy m_used i_everywhere i_again0 i_d0 i_never i_firstCame i_longRun i_moved i_crowd j_l0_24 i_fitMany i_fitLeast i_fitMost m_fitPost m_fitEnd m_keptPosts i_x0 f_all g_posts_6 g_shut_7 f_was f_fitPost f_fitEnd f_keptPosts (-2) 0 (by first | with_reducible assumption | with_reducible rfl | omega | assumption | rfl | decide) (by first | with_reducible assumption | with_reducible rfl | omega | assumption | rfl | decide) (by first | with_reducible assumption | with_reducible rfl | omega | assumption | rfl | decide)) (kV_RX12_385 C.2.2.2.2 (Nat.le_of_ble_eq_true rfl) (Nat.le_of_ble_eq_true rfl)) [7, 8, 4, 5, 0, 1, 2, 3] [0, 0, 0, 0, 0, 0, 1, 0] rfl rfl (ci := 11) (qc := (RX12, TX12, 43)) rfl rfl (List.mem_flatten.mpr ⟨_, List.mem_of_getElem? (i := 0) rfl, List.mem_cons_self⟩) rfl rfl hl.1 dX12_odds_46 (Nat.le_of_ble_eq_true rfl) (Nat.le_of_ble_eq_true rfl) (fun r_59 b1 H locs hw G => ?_)
          refine zEx11 hw ?_
          intro j_fitMany_47 j_fitLeast_48 j_fitMost_49 j_steps_50 j_at_51 j_gone_52 g_posts_53 g_was_54 g_fitPost_55 g_fitEnd_56 g_keptPosts_57
          refine zCu2 ?_
          intro hbs9 h_58
          clear hw
          subst hbs9
          have G : zS T A s.heap s [[zAr T 0 m_here 7 g_here_8], [zO11 mo m_all m_has i_size i_next i_where i_token i_number i_word i_wrong i_farCrossing m_read j_z0_1 j_crossings_2 j_inns_3 m_posts m_shut m_here j_steps_50 j_done_5 j_at_51 j_gone_52 m_was m_came m_seenAt m_rowWorth m_farBy m_used i_everywhere i_again0 i_d0 i_never i_firstCame i_longRun i_moved i_crowd j_l0_24 j_fitMany_47 j_fitLeast_48 j_fitMost_49 m_fitPost m_fitEnd m_keptPosts i_x0], [zAr T 0 m_all 3952 f_all], [zAr T 0 m_posts 7 g_posts_53], [zAr T 0 m_shut 7 g_shut_7], [zAr T 0 m_was 7 g_was_54], [zAr T 0 m_fitPost 28 g_fitPost_55], [zAr T 0 m_fitEnd 49 g_fitEnd_56], [zAr T 0 m_keptPosts 7 g_keptPosts_57]] _ _ := G
          refine lv_pop hx hb dX12_odds_49 rfl ?_
          refine lv_aload_n hx hb dX12_odds_50 rfl (lv_at hl 0 rfl) ?_
          refine z_get C G clX12 1 rfl 36 (by decide) m_fl_RX12_366 rfl dX12_odds_51 ?_
          refine lv_if_ne (tgt := 61) hx hb dX12_odds_54 (by decide) (fun c_60 => ?_) (fun c_60 => ?_)
          · have c_60n : ¬ j_fitMany_47.toInt = (0 : Int) := fun q => c_60 ((fa_eq _ _).mpr q)
            refine lv_aload_n hx hb dX12_odds_61 rfl (lv_at hl 0 rfl) ?_
            refine z_get C G clX12 1 rfl 39 (by decide) m_fl_RX12_47 rfl dX12_odds_62 ?_
            refine lv_iconst (v := 4) hx hb dX12_odds_65 (by decide) ?_
            refine lv_iload_n hx hb dX12_odds_66 rfl (lv_at hl 3 rfl) ?_
            refine lv_imul hx hb dX12_odds_67 ?_
            refine lv_topi (fun y_61 ey_61 => ?_)
            have ey_61i : y_61.toInt = (4 : Int) * c_.toInt := by rw [ey_61]; exact z_imulI (x := (4 : Int32)) (y := c_) (by show -2147483648 ≤ (4 : Int) * c_.toInt; omega) (by show (4 : Int) * c_.toInt < 2147483648; omega)
            refine lv_iload hx hb dX12_odds_68 (lv_at hl 4 rfl) ?_
            refine lv_iadd hx hb dX12_odds_70 ?_
            refine lv_topi (fun y_62 ey_62 => ?_)
            have ey_62i : y_62.toInt = y_61.toInt + o_.toInt := by rw [ey_62]; exact z_iaddI (x := y_61) (y := o_) (by show -2147483648 ≤ y_61.toInt + o_.toInt; omega) (by show y_61.toInt + o_.toInt < 2147483648; omega)
            refine z_ild C G 6 rfl (vp_in_iff.mpr ⟨by omega, by omega⟩) dX12_odds_71 ?_
            refine lv_topi (fun v_63 ev_63 => ?_)
            subst ev_63
            refine lv_aload_n hx hb dX12_odds_72 rfl (lv_at hl 0 rfl) ?_
            refine z_get C G clX12 1 rfl 36 (by decide) m_fl_RX12_366 rfl dX12_odds_73 ?_
            refine lv_iload hx hb dX12_odds_76 (lv_at hl 5 rfl) ?_
            refine z_Si (bc := []) (br := [[zAr T 0 m_here 7 g_here_8], [zO11 mo m_all m_has i_size i_next i_where i_token i_number i_word i_wrong i_farCrossing m_read j_z0_1 j_crossings_2 j_inns_3 m_posts m_shut m_here j_steps_50 j_done_5 j_at_51 j_gone_52 m_was m_came m_seenAt m_rowWorth m_farBy m_used i_everywhere i_again0 i_d0 i_never i_firstCame i_longRun i_moved i_crowd j_l0_24 j_fitMany_47 j_fitLeast_48 j_fitMost_49 m_fitPost m_fitEnd m_keptPosts i_x0], [zAr T 0 m_all 3952 f_all], [zAr T 0 m_posts 7 g_posts_53], [zAr T 0 m_shut 7 g_shut_7], [zAr T 0 m_was 7 g_was_54], [zAr T 0 m_fitPost 28 g_fitPost_55], [zAr T 0 m_fitEnd 49 g_fitEnd_56], [zAr T 0 m_keptPosts 7 g_keptPosts_57]]) (As := [.int (g_fitPost_55 y_62.toNatClampNeg), .int j_fitMany_47, .int u_]) (rest := []) C G (c_m_parted l T (g_fitPost_55 y_62.toNatClampNeg) j_fitMany_47 u_ (by first | with_reducible assumption | with_reducible rfl | omega | assumption | rfl | decide)) (kS_RX12_244 C.2.2.2.2 (Nat.le_of_ble_eq_true rfl) (Nat.le_of_ble_eq_true rfl)) [] [] rfl rfl rfl rfl hl.1 dX12_odds_78 (Nat.le_of_ble_eq_true rfl) (Nat.le_of_ble_eq_true rfl) (fun r_64 b1 H locs hw G => ?_)
            obtain rfl := hw
            have G : zS T A s.heap s [[zAr T 0 m_here 7 g_here_8], [zO11 mo m_all m_has i_size i_next i_where i_token i_number i_word i_wrong i_farCrossing m_read j_z0_1 j_crossings_2 j_inns_3 m_posts m_shut m_here j_steps_50 j_done_5 j_at_51 j_gone_52 m_was m_came m_seenAt m_rowWorth m_farBy m_used i_everywhere i_again0 i_d0 i_never i_firstCame i_longRun i_moved i_crowd j_l0_24 j_fitMany_47 j_fitLeast_48 j_fitMost_49 m_fitPost m_fitEnd m_keptPosts i_x0], [zAr T 0 m_all 3952 f_all], [zAr T 0 m_posts 7 g_posts_53], [zAr T 0 m_shut 7 g_shut_7], [zAr T 0 m_was 7 g_was_54], [zAr T 0 m_fitPost 28 g_fitPost_55], [zAr T 0 m_fitEnd 49 g_fitEnd_56], [zAr T 0 m_keptPosts 7 g_keptPosts_57]] _ _ := G
            have G := G.sub (bs' := [[zO11 mo m_all m_has i_size i_next i_where i_token i_number i_word i_wrong i_farCrossing m_read j_z0_1 j_crossings_2 j_inns_3 m_posts m_shut m_here j_steps_50 j_done_5 j_at_51 j_gone_52 m_was m_came m_seenAt m_rowWorth m_farBy m_used i_everywhere i_again0 i_d0 i_never i_firstCame i_longRun i_moved i_crowd j_l0_24 j_fitMany_47 j_fitLeast_48 j_fitMost_49 m_fitPost m_fitEnd m_keptPosts i_x0], [zAr T 0 m_all 3952 f_all], [zAr T 0 m_posts 7 g_posts_53], [zAr T 0 m_shut 7 g_shut_7], [zAr T 0 m_here 7 g_here_8], [zAr T 0 m_was 7 g_was_54], [zAr T 0 m_fitPost 28 g_fitPost_55], [zAr T 0 m_fitEnd 49 g_fitEnd_56], [zAr T 0 m_keptPosts 7 g_keptPosts_57]]) [1, 2, 3, 4, 0, 5, 6, 7, 8] rfl
            exact z_back hQz_ (z_iret C hr hlocks G (Nat.le_of_ble_eq_true rfl) (Nat.le_of_ble_eq_true rfl) dX12_odds_81 ⟨j_z0_1, j_crossings_2, j_inns_3, j_steps_50, j_done_5, j_at_51, j_gone_52, j_l0_24, j_fitMany_47, j_fitLeast_48, j_fitMost_49, g_posts_53, g_shut_7, g_here_8, g_was_54, g_fitPost_55, g_fitEnd_56, g_keptPosts_57, rfl⟩)
          · have c_60n : j_fitMany_47.toInt = (0 : Int) := (fa_eq _ _).mp c_60
            refine lv_iconst (v := (-1)) hx hb dX12_odds_57 (by decide) ?_
            refine lv_goto (tgt := 81) hx hb dX12_odds_58 (by decide) ?_
            have G := G.sub (bs' := [[zO11 mo m_all m_has i_size i_next i_where i_token i_number i_word i_wrong i_farCrossing m_read j_z0_1 j_crossings_2 j_inns_3 m_posts m_shut m_here j_steps_50 j_done_5 j_at_51 j_gone_52 m_was m_came m_seenAt m_rowWorth m_farBy m_used i_everywhere i_again0 i_d0 i_never i_firstCame i_longRun i_moved i_crowd j_l0_24 j_fitMany_47 j_fitLeast_48 j_fitMost_49 m_fitPost m_fitEnd m_keptPosts i_x0], [zAr T 0 m_all 3952 f_all], [zAr T 0 m_posts 7 g_posts_53], [zAr T 0 m_shut 7 g_shut_7], [zAr T 0 m_here 7 g_here_8], [zAr T 0 m_was 7 g_was_54], [zAr T 0 m_fitPost 28 g_fitPost_55], [zAr T 0 m_fitEnd 49 g_fitEnd_56], [zAr T 0 m_keptPosts 7 g_keptPosts_57]]) [1, 2, 3, 4, 0, 5, 6, 7, 8] rfl
            exact z_back hQz_ (z_iret C hr hlocks G (Nat.le_of_ble_eq_true rfl) (Nat.le_of_ble_eq_true rfl) dX12_odds_81 ⟨j_z0_1, j_crossings_2, j_inns_3, j_steps_50, j_done_5, j_at_51, j_gone_52, j_l0_24, j_fitMany_47, j_fitLeast_48, j_fitMost_49, g_posts_53, g_shut_7, g_here_8, g_was_54, g_fitPost_55, g_fitEnd_56, g_keptPosts_57, rfl⟩)
        · have h_46 : (o_.toInt < (0 : Int) ∨ y_41.toInt < o_.toInt) := h_46
          refine lv_if_ne (tgt := 42) hx hb dX12_odds_37 (by decide) (fun q => absurd (by decide) q) (fun _ => ?_)
          refine lv_iconst (v := (-1)) hx hb dX12_odds_40 (by decide) ?_
          have G := G.sub (bs' := [[zO11 mo m_all m_has i_size i_next i_where i_token i_number i_word i_wrong i_farCrossing m_read j_z0_1 j_crossings_2 j_inns_3 m_posts m_shut m_here j_steps_4 j_done_5 i_at i_gone m_was m_came m_seenAt m_rowWorth m_farBy m_used i_everywhere i_again0 i_d0 i_never i_firstCame i_longRun i_moved i_crowd j_l0_24 i_fitMany i_fitLeast i_fitMost m_fitPost m_fitEnd m_keptPosts i_x0], [zAr T 0 m_all 3952 f_all], [zAr T 0 m_posts 7 g_posts_6], [zAr T 0 m_shut 7 g_shut_7], [zAr T 0 m_here 7 g_here_8], [zAr T 0 m_was 7 f_was], [zAr T 0 m_fitPost 28 f_fitPost], [zAr T 0 m_fitEnd 49 f_fitEnd], [zAr T 0 m_keptPosts 7 f_keptPosts]]) [7, 8, 4, 5, 6, 0, 1, 2, 3] rfl
          exact z_back hQz_ (z_iret C hr hlocks G (Nat.le_of_ble_eq_true rfl) (Nat.le_of_ble_eq_true rfl) dX12_odds_41 ⟨j_z0_1, j_crossings_2, j_inns_3, j_steps_4, j_done_5, i_at, i_gone, j_l0_24, i_fitMany, i_fitLeast, i_fitMost, g_posts_6, g_shut_7, g_here_8, f_was, f_fitPost, f_fitEnd, f_keptPosts, rfl⟩)
      · have h_36 : (c_.toInt < 0 ∨ j_crossings_2.toInt ≤ c_.toInt) := h_36
        refine lv_if_eq (tgt := 40) hx hb dX12_odds_21 (by decide) (fun _ => ?_) (fun q => absurd (by decide) q)
        refine lv_iconst (v := (-1)) hx hb dX12_odds_40 (by decide) ?_
        have G := G.sub (bs' := [[zO11 mo m_all m_has i_size i_next i_where i_token i_number i_word i_wrong i_farCrossing m_read j_z0_1 j_crossings_2 j_inns_3 m_posts m_shut m_here j_steps_4 j_done_5 i_at i_gone m_was m_came m_seenAt m_rowWorth m_farBy m_used i_everywhere i_again0 i_d0 i_never i_firstCame i_longRun i_moved i_crowd j_l0_24 i_fitMany i_fitLeast i_fitMost m_fitPost m_fitEnd m_keptPosts i_x0], [zAr T 0 m_all 3952 f_all], [zAr T 0 m_posts 7 g_posts_6], [zAr T 0 m_shut 7 g_shut_7], [zAr T 0 m_here 7 g_here_8], [zAr T 0 m_was 7 f_was], [zAr T 0 m_fitPost 28 f_fitPost], [zAr T 0 m_fitEnd 49 f_fitEnd], [zAr T 0 m_keptPosts 7 f_keptPosts]]) [8, 7, 4, 5, 6, 0, 1, 2, 3] rfl
        exact z_back hQz_ (z_iret C hr hlocks G (Nat.le_of_ble_eq_true rfl) (Nat.le_of_ble_eq_true rfl) dX12_odds_41 ⟨j_z0_1, j_crossings_2, j_inns_3, j_steps_4, j_done_5, i_at, i_gone, j_l0_24, i_fitMany, i_fitLeast, i_fitMost, g_posts_6, g_shut_7, g_here_8, f_was, f_fitPost, f_fitEnd, f_keptPosts, rfl⟩)
    · have h_31 : (k_.toInt < 0 ∨ (f_all 2).toInt ≤ k_.toInt) := h_31
      refine lv_if_eq (tgt := 40) hx hb dX12_odds_13 (by decide) (fun _ => ?_) (fun q => absurd (by decide) q)
      refine lv_iconst (v := (-1)) hx hb dX12_odds_40 (by decide) ?_
      have G := G.sub (bs' := [[zO11 mo m_all m_has i_size i_next i_where i_token i_number i_word i_wrong i_farCrossing m_read j_z0_1 j_crossings_2 j_inns_3 m_posts m_shut m_here j_steps_4 j_done_5 i_at i_gone m_was m_came m_seenAt m_rowWorth m_farBy m_used i_everywhere i_again0 i_d0 i_never i_firstCame i_longRun i_moved i_crowd j_l0_24 i_fitMany i_fitLeast i_fitMost m_fitPost m_fitEnd m_keptPosts i_x0], [zAr T 0 m_all 3952 f_all], [zAr T 0 m_posts 7 g_posts_6], [zAr T 0 m_shut 7 g_shut_7], [zAr T 0 m_here 7 g_here_8], [zAr T 0 m_was 7 f_was], [zAr T 0 m_fitPost 28 f_fitPost], [zAr T 0 m_fitEnd 49 f_fitEnd], [zAr T 0 m_keptPosts 7 f_keptPosts]]) [7, 8, 4, 5, 6, 0, 1, 2, 3] rfl
      exact z_back hQz_ (z_iret C hr hlocks G (Nat.le_of_ble_eq_true rfl) (Nat.le_of_ble_eq_true rfl) dX12_odds_41 ⟨j_z0_1, j_crossings_2, j_inns_3, j_steps_4, j_done_5, i_at, i_gone, j_l0_24, i_fitMany, i_fitLeast, i_fitMost, g_posts_6, g_shut_7, g_here_8, f_was, f_fitPost, f_fitEnd, f_keptPosts, rfl⟩)
  · have h_23 : (l_.toInt < 0 ∨ (f_all 0).toInt ≤ l_.toInt) := h_23
    refine lv_if_eq (tgt := 40) hx hb dX12_odds_5 (by decide) (fun _ => ?_) (fun q => absurd (by decide) q)
    refine lv_iconst (v := (-1)) hx hb dX12_odds_40 (by decide) ?_
    have G := G.sub (bs' := [[zO11 mo m_all m_has i_size i_next i_where i_token i_number i_word i_wrong i_farCrossing m_read j_z0_1 j_crossings_2 j_inns_3 m_posts m_shut m_here j_steps_4 j_done_5 i_at i_gone m_was m_came m_seenAt m_rowWorth m_farBy m_used i_everywhere i_again0 i_d0 i_never i_firstCame i_longRun i_moved i_crowd i_l0 i_fitMany i_fitLeast i_fitMost m_fitPost m_fitEnd m_keptPosts i_x0], [zAr T 0 m_all 3952 f_all], [zAr T 0 m_posts 7 g_posts_6], [zAr T 0 m_shut 7 g_shut_7], [zAr T 0 m_here 7 g_here_8], [zAr T 0 m_was 7 f_was], [zAr T 0 m_fitPost 28 f_fitPost], [zAr T 0 m_fitEnd 49 f_fitEnd], [zAr T 0 m_keptPosts 7 f_keptPosts]]) [4, 5, 6, 7, 8, 0, 1, 2, 3] rfl
    exact z_back hQz_ (z_iret C hr hlocks G (Nat.le_of_ble_eq_true rfl) (Nat.le_of_ble_eq_true rfl) dX12_odds_41 ⟨j_z0_1, j_crossings_2, j_inns_3, j_steps_4, j_done_5, i_at, i_gone, i_l0, i_fitMany, i_fitLeast, i_fitMost, g_posts_6, g_shut_7, g_here_8, f_was, f_fitPost, f_fitEnd, f_keptPosts, rfl⟩)
set_option maxHeartbeats 4000000 in
set_option maxRecDepth 100000 in
/-- c_m_least -/
theorem c_m_least (l : Launch) (T : zTy) (mo : Nat) (m_all : Nat) (m_has : Nat) (i_size : Int32) (i_next : Int32) (i_where : Int32) (i_token : Int32) (i_number : Int32) (i_word : Int32) (i_wrong : Int32) (i_farCrossing : Int32) (m_read : Nat) (i_z0 : Int32) (i_crossings : Int32) (i_inns : Int32) (m_posts : Nat) (m_shut : Nat) (m_here : Nat) (i_steps : Int32) (i_done : Int32) (i_at : Int32) (i_gone : Int32) (m_was : Nat) (m_came : Nat) (m_seenAt : Nat) (m_rowWorth : Nat) (m_farBy : Nat) (m_used : Nat) (i_everywhere : Int32) (i_again0 : Int32) (i_d0 : Int32) (i_never : Int32) (i_firstCame : Int32) (i_longRun : Int32) (i_moved : Int32) (i_crowd : Int32) (i_l0 : Int32) (i_fitMany : Int32) (i_fitLeast : Int32) (i_fitMost : Int32) (m_fitPost : Nat) (m_fitEnd : Nat) (m_keptPosts : Nat) (i_x0 : Int32) (f_all : Nat → Int32) (f_posts : Nat → Int32) (f_shut : Nat → Int32) (f_here : Nat → Int32) (f_was : Nat → Int32) (f_fitPost : Nat → Int32) (f_fitEnd : Nat → Int32) (f_keptPosts : Nat → Int32) (l_ : Int32) (k_ : Int32) (u_ : Int32) (hB : zBI f_all) : zMi l T yX12_least cX12_least 4 (some .int) 7 0 0 [.ref mo, .int l_, .int k_, .int u_] [[zO11 mo m_all m_has i_size i_next i_where i_token i_number i_word i_wrong i_farCrossing m_read i_z0 i_crossings i_inns m_posts m_shut m_here i_steps i_done i_at i_gone m_was m_came m_seenAt m_rowWorth m_farBy m_used i_everywhere i_again0 i_d0 i_never i_firstCame i_longRun i_moved i_crowd i_l0 i_fitMany i_fitLeast i_fitMost m_fitPost m_fitEnd m_keptPosts i_x0], [zAr T 0 m_all 3952 f_all], [zAr T 0 m_posts 7 f_posts], [zAr T 0 m_shut 7 f_shut], [zAr T 0 m_here 7 f_here], [zAr T 0 m_was 7 f_was], [zAr T 0 m_fitPost 28 f_fitPost], [zAr T 0 m_fitEnd 49 f_fitEnd], [zAr T 0 m_keptPosts 7 f_keptPosts]] (fun (r : Int32) bs => ∃ (j_z0 : Int32) (j_crossings : Int32) (j_inns : Int32) (j_steps : Int32) (j_done : Int32) (j_at : Int32) (j_gone : Int32) (j_l0 : Int32) (j_fitMany : Int32) (j_fitLeast : Int32) (j_fitMost : Int32) (g_posts : Nat → Int32) (g_shut : Nat → Int32) (g_here : Nat → Int32) (g_was : Nat → Int32) (g_fitPost : Nat → Int32) (g_fitEnd : Nat → Int32) (g_keptPosts : Nat → Int32), bs = [[zO11 mo m_all m_has i_size i_next i_where i_token i_number i_word i_wrong i_farCrossing m_read j_z0 j_crossings j_inns m_posts m_shut m_here j_steps j_done j_at j_gone m_was m_came m_seenAt m_rowWorth m_farBy m_used i_everywhere i_again0 i_d0 i_never i_firstCame i_longRun i_moved i_crowd j_l0 j_fitMany j_fitLeast j_fitMost m_fitPost m_fitEnd m_keptPosts i_x0], [zAr T 0 m_all 3952 f_all], [zAr T 0 m_posts 7 g_posts], [zAr T 0 m_shut 7 g_shut], [zAr T 0 m_here 7 g_here], [zAr T 0 m_was 7 g_was], [zAr T 0 m_fitPost 28 g_fitPost], [zAr T 0 m_fitEnd 49 g_fitEnd], [zAr T 0 m_keptPosts 7 g_keptPosts]]) := by
  refine zMi_of (own := RX12) (by decide) rfl (Nat.le_of_ble_eq_true rfl) ?_
  intro p e s m args below meth c A ls C hr hlocks hnm hAe G hl
  refine zHide (fun Qz_ hQz_ => ?_)
  have hx := C.1
  have hb := C.2.1
  have hl : lv_has ls 4 [(0, .ref mo), (1, .int l_), (2, .int k_), (3, .int u_)] := hl
  refine lv_aload_n hx hb dX12_least_0 rfl (lv_at hl 0 rfl) ?_
  refine lv_iload_n hx hb dX12_least_1 rfl (lv_at hl 1 rfl) ?_
  refine z_Vi (bc := [[zO11 mo m_all m_has i_size i_next i_where i_token i_number i_word i_wrong i_farCrossing m_read i_z0 i_crossings i_inns m_posts m_shut m_here i_steps i_done i_at i_gone m_was m_came m_seenAt m_rowWorth m_farBy m_used i_everywhere i_again0 i_d0 i_never i_firstCame i_longRun i_moved i_crowd i_l0 i_fitMany i_fitLeast i_fitMost m_fitPost m_fitEnd m_keptPosts i_x0], [zAr T 0 m_all 3952 f_all], [zAr T 0 m_posts 7 f_posts], [zAr T 0 m_shut 7 f_shut], [zAr T 0 m_here 7 f_here]]) (br := [[zAr T 0 m_was 7 f_was], [zAr T 0 m_fitPost 28 f_fitPost], [zAr T 0 m_fitEnd 49 f_fitEnd], [zAr T 0 m_keptPosts 7 f_keptPosts]]) (As := [.int l_]) (rest := []) C G (c_m_isLand l T mo m_all m_has i_size i_next i_where i_token i_number i_word i_wrong i_farCrossing m_read i_z0 i_crossings i_inns m_posts m_shut m_here i_steps i_done i_at i_gone m_was m_came m_seenAt m_rowWorth m_farBy m_used i_everywhere i_again0 i_d0 i_never i_firstCame i_longRun i_moved i_crowd i_l0 i_fitMany i_fitLeast i_fitMost m_fitPost m_fitEnd m_keptPosts i_x0 f_all f_posts f_shut f_here l_ (by first | with_reducible assumption | with_reducible rfl | omega | assumption | rfl | decide)) (kV_RX12_184 C.2.2.2.2 (Nat.le_of_ble_eq_true rfl) (Nat.le_of_ble_eq_true rfl)) [0, 1, 2, 3, 4] [0, 0, 0, 0, 0] rfl rfl (ci := 11) (qc := (RX12, TX12, 43)) rfl rfl (List.mem_flatten.mpr ⟨_, List.mem_of_getElem? (i := 0) rfl, List.mem_cons_self⟩) rfl rfl hl.1 dX12_least_2 (Nat.le_of_ble_eq_true rfl) (Nat.le_of_ble_eq_true rfl) (fun r_10 b1 H locs hw G => ?_)
  refine zEx8 hw ?_
  intro j_z0_1 j_crossings_2 j_inns_3 j_steps_4 j_done_5 g_posts_6 g_shut_7 g_here_8
  refine zCu2 ?_
  intro hbs9 hc_9
  clear hw
  subst hbs9
  have G : zS T A s.heap s [[zAr T 0 m_was 7 f_was], [zAr T 0 m_fitPost 28 f_fitPost], [zAr T 0 m_fitEnd 49 f_fitEnd], [zAr T 0 m_keptPosts 7 f_keptPosts], [zO11 mo m_all m_has i_size i_next i_where i_token i_number i_word i_wrong i_farCrossing m_read j_z0_1 j_crossings_2 j_inns_3 m_posts m_shut m_here j_steps_4 j_done_5 i_at i_gone m_was m_came m_seenAt m_rowWorth m_farBy m_used i_everywhere i_again0 i_d0 i_never i_firstCame i_longRun i_moved i_crowd i_l0 i_fitMany i_fitLeast i_fitMost m_fitPost m_fitEnd m_keptPosts i_x0], [zAr T 0 m_all 3952 f_all], [zAr T 0 m_posts 7 g_posts_6], [zAr T 0 m_shut 7 g_shut_7], [zAr T 0 m_here 7 g_here_8]] _ _ := G
  rcases hc_9 with ⟨rfl, h_11, h_12, h_13, h_14, h_15, h_16, h_17, h_18, h_19, h_20, h_21, h_22⟩ | ⟨rfl, h_23⟩
  · have h_11 : 0 ≤ l_.toInt := h_11
    have h_12 : l_.toInt ≤ 1 := h_12
    have h_13 : l_.toInt < (f_all 0).toInt := h_13
    have h_14 : j_z0_1.toInt = 610 + 51 * l_.toInt := h_14
    have h_15 : zML f_all j_z0_1 j_crossings_2 := h_15
    have h_16 : zMP g_posts_6 := h_16
    have h_17 : j_inns_3 = f_all (j_z0_1.toInt.toNat + 1) := h_17
    have h_18 : j_steps_4 = 0 := h_18
    have h_19 : j_done_5 = 0 := h_19
    have h_20 : (∀ j, j < 7 → g_posts_6 j = zPt f_all j_z0_1 (nI j)) := h_20
    have h_21 : (∀ j, j < 7 → g_shut_7 j = 0) := h_21
    have h_22 : (∀ j, j < 7 → g_here_8 j = zWk f_all j_z0_1 j) := h_22
    have hLx := h_15
    have hcr := hLx.cr
    have hzx := hLx.1
    have hPx := h_16
    refine lv_if_eq (tgt := 16) hx hb dX12_least_5 (by decide) (fun q => absurd q (by decide)) (fun _ => ?_)
    refine lv_aload_n hx hb dX12_least_8 rfl (lv_at hl 0 rfl) ?_
    refine lv_iload_n hx hb dX12_least_9 rfl (lv_at hl 2 rfl) ?_
    refine z_Vi (bc := [[zO11 mo m_all m_has i_size i_next i_where i_token i_number i_word i_wrong i_farCrossing m_read j_z0_1 j_crossings_2 j_inns_3 m_posts m_shut m_here j_steps_4 j_done_5 i_at i_gone m_was m_came m_seenAt m_rowWorth m_farBy m_used i_everywhere i_again0 i_d0 i_never i_firstCame i_longRun i_moved i_crowd i_l0 i_fitMany i_fitLeast i_fitMost m_fitPost m_fitEnd m_keptPosts i_x0], [zAr T 0 m_all 3952 f_all]]) (br := [[zAr T 0 m_was 7 f_was], [zAr T 0 m_fitPost 28 f_fitPost], [zAr T 0 m_fitEnd 49 f_fitEnd], [zAr T 0 m_keptPosts 7 f_keptPosts], [zAr T 0 m_posts 7 g_posts_6], [zAr T 0 m_shut 7 g_shut_7], [zAr T 0 m_here 7 g_here_8]]) (As := [.int k_]) (rest := []) C G (c_m_isLog l T mo m_all m_has i_size i_next i_where i_token i_number i_word i_wrong i_farCrossing m_read j_z0_1 j_crossings_2 j_inns_3 m_posts m_shut m_here j_steps_4 j_done_5 i_at i_gone m_was m_came m_seenAt m_rowWorth m_farBy m_used i_everywhere i_again0 i_d0 i_never i_firstCame i_longRun i_moved i_crowd i_l0 i_fitMany i_fitLeast i_fitMost m_fitPost m_fitEnd m_keptPosts i_x0 f_all k_ (by first | with_reducible assumption | with_reducible rfl | omega | assumption | rfl | decide)) (kV_RX12_363 C.2.2.2.2 (Nat.le_of_ble_eq_true rfl) (Nat.le_of_ble_eq_true rfl)) [4, 5] [4, 0] rfl rfl (ci := 11) (qc := (RX12, TX12, 43)) rfl rfl (List.mem_flatten.mpr ⟨_, List.mem_of_getElem? (i := 0) rfl, List.mem_cons_self⟩) rfl rfl hl.1 dX12_least_10 (Nat.le_of_ble_eq_true rfl) (Nat.le_of_ble_eq_true rfl) (fun r_26 b1 H locs hw G => ?_)
    refine zEx1 hw ?_
    intro j_l0_24
    refine zCu2 ?_
    intro hbs9 hc_25
    clear hw
    subst hbs9
    have G : zS T A s.heap s [[zAr T 0 m_was 7 f_was], [zAr T 0 m_fitPost 28 f_fitPost], [zAr T 0 m_fitEnd 49 f_fitEnd], [zAr T 0 m_keptPosts 7 f_keptPosts], [zAr T 0 m_posts 7 g_posts_6], [zAr T 0 m_shut 7 g_shut_7], [zAr T 0 m_here 7 g_here_8], [zO11 mo m_all m_has i_size i_next i_where i_token i_number i_word i_wrong i_farCrossing m_read j_z0_1 j_crossings_2 j_inns_3 m_posts m_shut m_here j_steps_4 j_done_5 i_at i_gone m_was m_came m_seenAt m_rowWorth m_farBy m_used i_everywhere i_again0 i_d0 i_never i_firstCame i_longRun i_moved i_crowd j_l0_24 i_fitMany i_fitLeast i_fitMost m_fitPost m_fitEnd m_keptPosts i_x0], [zAr T 0 m_all 3952 f_all]] _ _ := G
    rcases hc_25 with ⟨rfl, h_27, h_28, h_29, h_30⟩ | ⟨rfl, h_31⟩
    · have h_27 : 0 ≤ k_.toInt := h_27
      have h_28 : k_.toInt < (f_all 2).toInt := h_28
      have h_29 : j_l0_24.toInt = 954 + 17 * k_.toInt := h_29
      have h_30 : zMG f_all j_l0_24 := h_30
      have hD := h_30
      have hDa := hD.1
      have hDb := hD.2
      refine lv_if_ne (tgt := 18) hx hb dX12_least_13 (by decide) (fun _ => ?_) (fun q => absurd q (by decide))
      refine lv_aload_n hx hb dX12_least_18 rfl (lv_at hl 0 rfl) ?_
      refine lv_bipush (v := (-2)) hx hb dX12_least_19 (by decide) ?_
      refine lv_iconst (v := 0) hx hb dX12_least_21 (by decide) ?_
      refine z_Vi (bc := [[zO11 mo m_all m_has i_size i_next i_where i_token i_number i_word i_wrong i_farCrossing m_read j_z0_1 j_crossings_2 j_inns_3 m_posts m_shut m_here j_steps_4 j_done_5 i_at i_gone m_was m_came m_seenAt m_rowWorth m_farBy m_used i_everywhere i_again0 i_d0 i_never i_firstCame i_longRun i_moved i_crowd j_l0_24 i_fitMany i_fitLeast i_fitMost m_fitPost m_fitEnd m_keptPosts i_x0], [zAr T 0 m_all 3952 f_all], [zAr T 0 m_posts 7 g_posts_6], [zAr T 0 m_shut 7 g_shut_7], [zAr T 0 m_was 7 f_was], [zAr T 0 m_fitPost 28 f_fitPost], [zAr T 0 m_fitEnd 49 f_fitEnd], [zAr T 0 m_keptPosts 7 f_keptPosts]]) (br := [[zAr T 0 m_here 7 g_here_8]]) (As := [.int (-2), .int 0]) (rest := []) C G (c_m_laysFits l T mo m_all m_has i_size i_next i_where i_token i_number i_word i_wrong i_farCrossing m_read j_z0_1 j_crossings_2 j_inns_3 m_posts m_shut m_here j_steps_4 j_done_5 i_at i_gone m_was m_came m_seenAt m_rowWorth m_farBy m_used i_everywhere i_again0 i_d0 i_never i_firstCame i_longRun i_moved i_crowd j_l0_24 i_fitMany i_fitLeast i_fitMost m_fitPost m_fitEnd m_keptPosts i_x0 f_all g_posts_6 g_shut_7 f_was f_fitPost f_fitEnd f_keptPosts (-2) 0 (by first | with_reducible assumption | with_reducible rfl | omega | assumption | rfl | decide) (by first | with_reducible assumption | with_reducible rfl | omega | assumption | rfl | decide) (by first | with_reducible assumption | with_reducible rfl | omega | assumption | rfl | decide)) (kV_RX12_385 C.2.2.2.2 (Nat.le_of_ble_eq_true rfl) (Nat.le_of_ble_eq_true rfl)) [7, 8, 4, 5, 0, 1, 2, 3] [0, 0, 0, 0, 0, 0, 1, 0] rfl rfl (ci := 11) (qc := (RX12, TX12, 43)) rfl rfl (List.mem_flatten.mpr ⟨_, List.mem_of_getElem? (i := 0) rfl, List.mem_cons_self⟩) rfl rfl hl.1 dX12_least_22 (Nat.le_of_ble_eq_true rfl) (Nat.le_of_ble_eq_true rfl) (fun r_44 b1 H locs hw G => ?_)
      refine zEx11 hw ?_
      intro j_fitMany_32 j_fitLeast_33 j_fitMost_34 j_steps_35 j_at_36 j_gone_37 g_posts_38 g_was_39 g_fitPost_40 g_fitEnd_41 g_keptPosts_42
      refine zCu2 ?_
      intro hbs9 h_43
      clear hw
      subst hbs9
      have G : zS T A s.heap s [[zAr T 0 m_here 7 g_here_8], [zO11 mo m_all m_has i_size i_next i_where i_token i_number i_word i_wrong i_farCrossing m_read j_z0_1 j_crossings_2 j_inns_3 m_posts m_shut m_here j_steps_35 j_done_5 j_at_36 j_gone_37 m_was m_came m_seenAt m_rowWorth m_farBy m_used i_everywhere i_again0 i_d0 i_never i_firstCame i_longRun i_moved i_crowd j_l0_24 j_fitMany_32 j_fitLeast_33 j_fitMost_34 m_fitPost m_fitEnd m_keptPosts i_x0], [zAr T 0 m_all 3952 f_all], [zAr T 0 m_posts 7 g_posts_38], [zAr T 0 m_shut 7 g_shut_7], [zAr T 0 m_was 7 g_was_39], [zAr T 0 m_fitPost 28 g_fitPost_40], [zAr T 0 m_fitEnd 49 g_fitEnd_41], [zAr T 0 m_keptPosts 7 g_keptPosts_42]] _ _ := G
      refine lv_pop hx hb dX12_least_25 rfl ?_
      refine lv_iload_n hx hb dX12_least_26 rfl (lv_at hl 3 rfl) ?_
      refine lv_if_eq (tgt := 37) hx hb dX12_least_27 (by decide) (fun c_45 => ?_) (fun c_45 => ?_)
      · have c_45n : u_.toInt = (0 : Int) := (fa_eq _ _).mp c_45
        refine lv_aload_n hx hb dX12_least_37 rfl (lv_at hl 0 rfl) ?_
        refine z_get C G clX12 1 rfl 37 (by decide) m_fl_RX12_369 rfl dX12_least_38 ?_
        have G := G.sub (bs' := [[zO11 mo m_all m_has i_size i_next i_where i_token i_number i_word i_wrong i_farCrossing m_read j_z0_1 j_crossings_2 j_inns_3 m_posts m_shut m_here j_steps_35 j_done_5 j_at_36 j_gone_37 m_was m_came m_seenAt m_rowWorth m_farBy m_used i_everywhere i_again0 i_d0 i_never i_firstCame i_longRun i_moved i_crowd j_l0_24 j_fitMany_32 j_fitLeast_33 j_fitMost_34 m_fitPost m_fitEnd m_keptPosts i_x0], [zAr T 0 m_all 3952 f_all], [zAr T 0 m_posts 7 g_posts_38], [zAr T 0 m_shut 7 g_shut_7], [zAr T 0 m_here 7 g_here_8], [zAr T 0 m_was 7 g_was_39], [zAr T 0 m_fitPost 28 g_fitPost_40], [zAr T 0 m_fitEnd 49 g_fitEnd_41], [zAr T 0 m_keptPosts 7 g_keptPosts_42]]) [1, 2, 3, 4, 0, 5, 6, 7, 8] rfl
        exact z_back hQz_ (z_iret C hr hlocks G (Nat.le_of_ble_eq_true rfl) (Nat.le_of_ble_eq_true rfl) dX12_least_41 ⟨j_z0_1, j_crossings_2, j_inns_3, j_steps_35, j_done_5, j_at_36, j_gone_37, j_l0_24, j_fitMany_32, j_fitLeast_33, j_fitMost_34, g_posts_38, g_shut_7, g_here_8, g_was_39, g_fitPost_40, g_fitEnd_41, g_keptPosts_42, rfl⟩)
      · have c_45n : ¬ u_.toInt = (0 : Int) := fun q => c_45 ((fa_eq _ _).mpr q)
        refine lv_aload_n hx hb dX12_least_30 rfl (lv_at hl 0 rfl) ?_
        refine z_get C G clX12 1 rfl 38 (by decide) m_fl_RX12_372 rfl dX12_least_31 ?_
        refine lv_goto (tgt := 41) hx hb dX12_least_34 (by decide) ?_
        have G := G.sub (bs' := [[zO11 mo m_all m_has i_size i_next i_where i_token i_number i_word i_wrong i_farCrossing m_read j_z0_1 j_crossings_2 j_inns_3 m_posts m_shut m_here j_steps_35 j_done_5 j_at_36 j_gone_37 m_was m_came m_seenAt m_rowWorth m_farBy m_used i_everywhere i_again0 i_d0 i_never i_firstCame i_longRun i_moved i_crowd j_l0_24 j_fitMany_32 j_fitLeast_33 j_fitMost_34 m_fitPost m_fitEnd m_keptPosts i_x0], [zAr T 0 m_all 3952 f_all], [zAr T 0 m_posts 7 g_posts_38], [zAr T 0 m_shut 7 g_shut_7], [zAr T 0 m_here 7 g_here_8], [zAr T 0 m_was 7 g_was_39], [zAr T 0 m_fitPost 28 g_fitPost_40], [zAr T 0 m_fitEnd 49 g_fitEnd_41], [zAr T 0 m_keptPosts 7 g_keptPosts_42]]) [1, 2, 3, 4, 0, 5, 6, 7, 8] rfl
        exact z_back hQz_ (z_iret C hr hlocks G (Nat.le_of_ble_eq_true rfl) (Nat.le_of_ble_eq_true rfl) dX12_least_41 ⟨j_z0_1, j_crossings_2, j_inns_3, j_steps_35, j_done_5, j_at_36, j_gone_37, j_l0_24, j_fitMany_32, j_fitLeast_33, j_fitMost_34, g_posts_38, g_shut_7, g_here_8, g_was_39, g_fitPost_40, g_fitEnd_41, g_keptPosts_42, rfl⟩)
    · have h_31 : (k_.toInt < 0 ∨ (f_all 2).toInt ≤ k_.toInt) := h_31
      refine lv_if_ne (tgt := 18) hx hb dX12_least_13 (by decide) (fun q => absurd (by decide) q) (fun _ => ?_)
      refine lv_iconst (v := (-1)) hx hb dX12_least_16 (by decide) ?_
      have G := G.sub (bs' := [[zO11 mo m_all m_has i_size i_next i_where i_token i_number i_word i_wrong i_farCrossing m_read j_z0_1 j_crossings_2 j_inns_3 m_posts m_shut m_here j_steps_4 j_done_5 i_at i_gone m_was m_came m_seenAt m_rowWorth m_farBy m_used i_everywhere i_again0 i_d0 i_never i_firstCame i_longRun i_moved i_crowd j_l0_24 i_fitMany i_fitLeast i_fitMost m_fitPost m_fitEnd m_keptPosts i_x0], [zAr T 0 m_all 3952 f_all], [zAr T 0 m_posts 7 g_posts_6], [zAr T 0 m_shut 7 g_shut_7], [zAr T 0 m_here 7 g_here_8], [zAr T 0 m_was 7 f_was], [zAr T 0 m_fitPost 28 f_fitPost], [zAr T 0 m_fitEnd 49 f_fitEnd], [zAr T 0 m_keptPosts 7 f_keptPosts]]) [7, 8, 4, 5, 6, 0, 1, 2, 3] rfl
      exact z_back hQz_ (z_iret C hr hlocks G (Nat.le_of_ble_eq_true rfl) (Nat.le_of_ble_eq_true rfl) dX12_least_17 ⟨j_z0_1, j_crossings_2, j_inns_3, j_steps_4, j_done_5, i_at, i_gone, j_l0_24, i_fitMany, i_fitLeast, i_fitMost, g_posts_6, g_shut_7, g_here_8, f_was, f_fitPost, f_fitEnd, f_keptPosts, rfl⟩)
  · have h_23 : (l_.toInt < 0 ∨ (f_all 0).toInt ≤ l_.toInt) := h_23
    refine lv_if_eq (tgt := 16) hx hb dX12_least_5 (by decide) (fun _ => ?_) (fun q => absurd (by decide) q)
    refine lv_iconst (v := (-1)) hx hb dX12_least_16 (by decide) ?_
    have G := G.sub (bs' := [[zO11 mo m_all m_has i_size i_next i_where i_token i_number i_word i_wrong i_farCrossing m_read j_z0_1 j_crossings_2 j_inns_3 m_posts m_shut m_here j_steps_4 j_done_5 i_at i_gone m_was m_came m_seenAt m_rowWorth m_farBy m_used i_everywhere i_again0 i_d0 i_never i_firstCame i_longRun i_moved i_crowd i_l0 i_fitMany i_fitLeast i_fitMost m_fitPost m_fitEnd m_keptPosts i_x0], [zAr T 0 m_all 3952 f_all], [zAr T 0 m_posts 7 g_posts_6], [zAr T 0 m_shut 7 g_shut_7], [zAr T 0 m_here 7 g_here_8], [zAr T 0 m_was 7 f_was], [zAr T 0 m_fitPost 28 f_fitPost], [zAr T 0 m_fitEnd 49 f_fitEnd], [zAr T 0 m_keptPosts 7 f_keptPosts]]) [4, 5, 6, 7, 8, 0, 1, 2, 3] rfl
    exact z_back hQz_ (z_iret C hr hlocks G (Nat.le_of_ble_eq_true rfl) (Nat.le_of_ble_eq_true rfl) dX12_least_17 ⟨j_z0_1, j_crossings_2, j_inns_3, j_steps_4, j_done_5, i_at, i_gone, i_l0, i_fitMany, i_fitLeast, i_fitMost, g_posts_6, g_shut_7, g_here_8, f_was, f_fitPost, f_fitEnd, f_keptPosts, rfl⟩)
/-- the end of the run from p of bytes of a kind, below n (k: how many may follow) -/
def zEndF (P : Int32 → Bool) (g : Nat → Int32) (n : Nat) : Nat → Nat → Nat
  | 0, p => p
  | k + 1, p => if p < n ∧ P (g p) = true then zEndF P g n k (p + 1) else p
def zEnd (P : Int32 → Bool) (g : Nat → Int32) (n p : Nat) : Nat := zEndF P g n (n - p) p
def zRun (P : Int32 → Bool) (g : Nat → Int32) (n p q : Nat) : Prop := p ≤ q ∧ (q ≤ n ∨ q = p) ∧ (∀ j, p ≤ j → j < q → P (g j) = true) ∧ (q < n → P (g q) = false)
theorem zEndF_run {P : Int32 → Bool} {g : Nat → Int32} {n : Nat} : ∀ (k p : Nat), n - p ≤ k → zRun P g n p (zEndF P g n k p)
  | 0, p, h => ⟨Nat.le_refl _, Or.inr rfl, fun j h1 h2 => by unfold zEndF at h2; omega, fun h2 => by unfold zEndF at h2; omega⟩
  | k + 1, p, h => by
    unfold zEndF
    by_cases c : p < n ∧ P (g p) = true
    · rw [if_pos c]
      obtain ⟨h1, h2, h3, h4⟩ := zEndF_run (P := P) (g := g) (n := n) k (p + 1) (by omega)
      refine ⟨by omega, Or.inl (by omega), fun j h5 h6 => ?_, h4⟩
      by_cases e : j = p
      · rw [e]; exact c.2
      · exact h3 j (by omega) h6
    · rw [if_neg c]
      refine ⟨Nat.le_refl _, Or.inr rfl, fun j h1 h2 => by omega, fun h2 => ?_⟩
      cases e : P (g p) with
      | false => rfl
      | true => exact absurd ⟨h2, e⟩ c
theorem zRun_uniq {P : Int32 → Bool} {g : Nat → Int32} {n p q r : Nat} (h : zRun P g n p q) (h' : zRun P g n p r) : q = r := by
  obtain ⟨a1, a2, a3, a4⟩ := h
  obtain ⟨b1, b2, b3, b4⟩ := h'
  rcases Nat.lt_trichotomy q r with c | c | c
  · have x := b3 q a1 c
    rw [a4 (by omega)] at x
    cases x
  · exact c
  · have x := a3 r b1 c
    rw [b4 (by omega)] at x
    cases x
theorem zEnd_run (P : Int32 → Bool) (g : Nat → Int32) (n p : Nat) : zRun P g n p (zEnd P g n p) := zEndF_run _ _ (Nat.le_refl _)
theorem zRun_eq {P : Int32 → Bool} {g : Nat → Int32} {n p q : Nat} (h : zRun P g n p q) : q = zEnd P g n p := zRun_uniq h (zEnd_run P g n p)
theorem zRun_cg {P : Int32 → Bool} {g g' : Nat → Int32} {n p q : Nat} (e : ∀ j, j < n → P (g' j) = P (g j)) (h : zRun P g n p q) : zRun P g' n p q := by
  obtain ⟨a1, a2, a3, a4⟩ := h
  exact ⟨a1, a2, fun j h1 h2 => by rw [e j (by omega)]; exact a3 j h1 h2, fun h => by rw [e q h]; exact a4 h⟩
def tkB (x : Int32) : Bool := decide (x.toInt = 10 ∨ x.toInt = 32)
def tkL (x : Int32) : Bool := decide (97 ≤ x.toInt ∧ x.toInt ≤ 122)
def tkD (x : Int32) : Bool := decide (48 ≤ x.toInt ∧ x.toInt ≤ 57)
/-- where the token behind p begins; where it ends -/
def zWh (g : Nat → Int32) (n p : Nat) : Nat := zEnd tkB g n p
def zWI (g : Nat → Int32) (w e i : Nat) : Bool := decide (e - w = zLen.getD i 0 ∧ ∀ j, j < zLen.getD i 0 → g (w + j) = (zByt.getD i []).getD j 0)
/-- which of the twelve words stands from w to e: 1 .. 12 as the reference counts them, 99 none -/
def zWordAt (g : Nat → Int32) (w e : Nat) : Nat := if zWI g w e 0 = true then 1 else if zWI g w e 1 = true then 2 else if zWI g w e 2 = true then 3 else if zWI g w e 3 = true then 4 else if zWI g w e 6 = true then 5 else if zWI g w e 7 = true then 6 else if zWI g w e 8 = true then 7 else if zWI g w e 9 = true then 8 else if zWI g w e 10 = true then 9 else if zWI g w e 11 = true then 10 else if zWI g w e 4 = true then 11 else if zWI g w e 5 = true then 12 else 99

def tkE (g : Nat → Int32) (n p : Nat) : Nat :=
  if n ≤ zWh g n p then zWh g n p
  else if tkL (g (zWh g n p)) = true then zEnd tkL g n (zWh g n p)
  else if tkD (g (zWh g n p)) = true then zEnd tkD g n (zWh g n p)
  else zWh g n p + 1
/-- its kind as the program counts them: 0 end, 1 letters, 2 number, 3 semicolon, 4 none -/
def tkC (g : Nat → Int32) (n p : Nat) : Nat :=
  if n ≤ zWh g n p then 0
  else if tkL (g (zWh g n p)) = true then 1
  else if tkD (g (zWh g n p)) = true then (if tkE g n p - zWh g n p ≤ 2 then 2 else 4)
  else if (g (zWh g n p)).toInt = 59 then 3 else 4
def tkV (g : Nat → Int32) (w e : Nat) : Int := if e ≤ w then 0 else if e = w + 1 then (g w).toInt - 48 else 10 * ((g w).toInt - 48) + ((g (w + 1)).toInt - 48)
abbrev pT : Type := Nat → Nat × Nat × Nat × Nat × Int32
def tkT (g : Nat → Int32) (n : Nat) : pT := fun p => (zWh g n p, tkE g n p, tkC g n p, (if tkC g n p = 1 then zWordAt g (zWh g n p) (tkE g n p) else 0), (if tkC g n p = 2 then Int32.ofInt (tkV g (zWh g n p) (tkE g n p)) else 0))
def pWh (k : pT) (p : Nat) : Nat := (k p).1
def pEn (k : pT) (p : Nat) : Nat := (k p).2.1
def pCl (k : pT) (p : Nat) : Nat := (k p).2.2.1
def pWd (k : pT) (p : Nat) : Nat := (k p).2.2.2.1
def pNm (k : pT) (p : Nat) : Int32 := (k p).2.2.2.2
/-- its kind as the reference counts them: 0 end, 1 number, 2 semicolon, 3 word, 4 none -/
def pTk (k : pT) (p : Nat) : Nat := if pCl k p = 1 then (if pWd k p = 99 then 4 else 3) else if pCl k p = 2 then 1 else if pCl k p = 3 then 2 else pCl k p
section TKS
variable {g : Nat → Int32} {n p w e : Nat}
theorem tk_wh (h : zRun tkB g n p w) : zWh g n p = w := (zRun_eq h).symm
theorem tk_0 (h : zRun tkB g n p w) (hw : n ≤ w) : tkT g n p = (w, w, 0, 0, 0) := by
  have a := tk_wh h
  have hc : tkC g n p = 0 := by unfold tkC; rw [a, if_pos hw]
  have he : tkE g n p = w := by unfold tkE; rw [a, if_pos hw]
  unfold tkT
  rw [a, hc, he]
  rfl
theorem tk_L (h : zRun tkB g n p w) (hw : w < n) (hl : tkL (g w) = true) (hr : zRun tkL g n w e) : tkT g n p = (w, e, 1, zWordAt g w e, 0) := by
  have a := tk_wh h
  have hc : tkC g n p = 1 := by unfold tkC; rw [a, if_neg (by omega), if_pos hl]
  have he : tkE g n p = e := by unfold tkE; rw [a, if_neg (by omega), if_pos hl]; exact (zRun_eq hr).symm
  unfold tkT
  rw [a, hc, he]
  rfl
theorem tk_D (h : zRun tkB g n p w) (hw : w < n) (hl : tkL (g w) = false) (hd : tkD (g w) = true) (hr : zRun tkD g n w e) : tkT g n p = (w, e, (if e - w ≤ 2 then 2 else 4), 0, (if e - w ≤ 2 then Int32.ofInt (tkV g w e) else 0)) := by
  have a := tk_wh h
  have he : tkE g n p = e := by unfold tkE; rw [a, if_neg (by omega), if_neg (by rw [hl]; decide), if_pos hd]; exact (zRun_eq hr).symm
  have hc : tkC g n p = if e - w ≤ 2 then 2 else 4 := by unfold tkC; rw [a, if_neg (by omega), if_neg (by rw [hl]; decide), if_pos hd, he]
  unfold tkT
  rw [a, hc, he]
  by_cases c : e - w ≤ 2
  · rw [if_pos c, if_pos c]; rfl
  · rw [if_neg c, if_neg c]; rfl
theorem tk_S (h : zRun tkB g n p w) (hw : w < n) (hl : tkL (g w) = false) (hd : tkD (g w) = false) : tkT g n p = (w, w + 1, (if (g w).toInt = 59 then 3 else 4), 0, 0) := by
  have a := tk_wh h
  have he : tkE g n p = w + 1 := by unfold tkE; rw [a, if_neg (by omega), if_neg (by rw [hl]; decide), if_neg (by rw [hd]; decide)]
  have hc : tkC g n p = if (g w).toInt = 59 then 3 else 4 := by unfold tkC; rw [a, if_neg (by omega), if_neg (by rw [hl]; decide), if_neg (by rw [hd]; decide)]
  unfold tkT
  rw [a, hc, he]
  by_cases c : (g w).toInt = 59
  · rw [if_pos c]; rfl
  · rw [if_neg c]; rfl
theorem tkL_iff {x : Int32} : tkL x = true ↔ 97 ≤ x.toInt ∧ x.toInt ≤ 122 := by unfold tkL; exact decide_eq_true_iff
theorem tkD_iff {x : Int32} : tkD x = true ↔ 48 ≤ x.toInt ∧ x.toInt ≤ 57 := by unfold tkD; exact decide_eq_true_iff
theorem tkB_iff {x : Int32} : tkB x = true ↔ x.toInt = 10 ∨ x.toInt = 32 := by unfold tkB; exact decide_eq_true_iff
theorem tkL_f {x : Int32} (h : x.toInt < 97 ∨ 122 < x.toInt) : tkL x = false := by unfold tkL; exact decide_eq_false (by omega)
theorem tkD_f {x : Int32} (h : x.toInt < 48 ∨ 57 < x.toInt) : tkD x = false := by unfold tkD; exact decide_eq_false (by omega)
theorem tkB_f {x : Int32} (h1 : ¬ x.toInt = 10) (h2 : ¬ x.toInt = 32) : tkB x = false := by unfold tkB; exact decide_eq_false (by omega)
theorem tkV_0 (h : e = w) : tkV g w e = 0 := by unfold tkV; rw [if_pos (by omega)]
theorem tkV_1 (h : e = w + 1) : tkV g w e = (g w).toInt - 48 := by unfold tkV; rw [if_neg (by omega), if_pos h]
theorem tkV_2 (h : e = w + 2) : tkV g w e = 10 * ((g w).toInt - 48) + ((g (w + 1)).toInt - 48) := by unfold tkV; rw [if_neg (by omega), if_neg (by omega)]
/-- one digit more -/
theorem tkV_s (hw : w ≤ e) (h2 : e < w + 2) : tkV g w (e + 1) = 10 * tkV g w e + ((g e).toInt - 48) := by
  rcases (show e = w ∨ e = w + 1 by omega) with c | c
  · subst c; rw [tkV_1 rfl, tkV_0 rfl]; omega
  · subst c; rw [tkV_2 rfl, tkV_1 rfl]
theorem tkV_bd (h : ∀ j, w ≤ j → j < e → tkD (g j) = true) (hw : w ≤ e) (h2 : e ≤ w + 2) : 0 ≤ tkV g w e ∧ tkV g w e ≤ 99 := by
  rcases (show e = w ∨ e = w + 1 ∨ e = w + 2 by omega) with c | c | c
  · rw [tkV_0 c]; decide
  · have a := tkD_iff.mp (h w (by omega) (by omega)); rw [tkV_1 c]; omega
  · have a := tkD_iff.mp (h w (by omega) (by omega)); have b := tkD_iff.mp (h (w + 1) (by omega) (by omega)); rw [tkV_2 c]; omega
end TKS
theorem tk_of {x : Int32} {v : Int} (h : x.toInt = v) : x = Int32.ofInt v := by rw [← h]; exact (Int32.ofInt_toInt x).symm
/-- what is known of a row of tokens -/
def pOk (k : pT) (n : Nat) : Prop := ∀ p, p ≤ n → (p ≤ pWh k p ∧ pWh k p ≤ pEn k p ∧ pEn k p ≤ n) ∧ pCl k p ≤ 4 ∧ (pCl k p = 0 → pWh k p = n) ∧ (¬ pCl k p = 0 → pWh k p < pEn k p) ∧ (pCl k p = 2 → 0 ≤ (pNm k p).toInt ∧ (pNm k p).toInt ≤ 99) ∧ (pCl k p = 1 → 1 ≤ pWd k p ∧ (pWd k p ≤ 12 ∨ pWd k p = 99))
theorem zIfQ {c : Prop} [Decidable c] {a b : Nat} (ha : 1 ≤ a ∧ (a ≤ 12 ∨ a = 99)) (hb : 1 ≤ b ∧ (b ≤ 12 ∨ b = 99)) : 1 ≤ (if c then a else b) ∧ ((if c then a else b) ≤ 12 ∨ (if c then a else b) = 99) := by
  by_cases h : c
  · rw [if_pos h]; exact ha
  · rw [if_neg h]; exact hb
theorem zWordAt_in (g : Nat → Int32) (w e : Nat) : 1 ≤ zWordAt g w e ∧ (zWordAt g w e ≤ 12 ∨ zWordAt g w e = 99) :=
  zIfQ (by decide) (zIfQ (by decide) (zIfQ (by decide) (zIfQ (by decide) (zIfQ (by decide) (zIfQ (by decide) (zIfQ (by decide) (zIfQ (by decide) (zIfQ (by decide) (zIfQ (by decide) (zIfQ (by decide) (zIfQ (by decide) (by decide))))))))))))
theorem tkT_ok (g : Nat → Int32) (n : Nat) : pOk (tkT g n) n := by
  intro p hp
  have hB := zEnd_run tkB g n p
  generalize zEnd tkB g n p = w at hB
  obtain ⟨b1, b2, b3, b4⟩ := id hB
  unfold pWh pEn pCl pWd pNm
  by_cases c : n ≤ w
  · rw [tk_0 hB c]
    exact ⟨⟨b1, Nat.le_refl _, by show w ≤ n; omega⟩, by simp, fun _ => (by show w = n; omega), by simp, by simp, by simp⟩
  · cases hl : tkL (g w) with
    | true =>
      have hL := zEnd_run tkL g n w
      generalize zEnd tkL g n w = e at hL
      obtain ⟨l1, l2, l3, l4⟩ := id hL
      have hs : w < e := by
        rcases Nat.lt_or_ge w e with q | q
        · exact q
        · have z := l4 (by omega)
          rw [show e = w by omega, hl] at z
          cases z
      rw [tk_L hB (by omega) hl hL]
      exact ⟨⟨b1, l1, by show e ≤ n; omega⟩, by simp, by simp, fun _ => hs, by simp, fun _ => zWordAt_in g w e⟩
    | false =>
      cases hd : tkD (g w) with
      | true =>
        have hL := zEnd_run tkD g n w
        generalize zEnd tkD g n w = e at hL
        obtain ⟨l1, l2, l3, l4⟩ := id hL
        have hs : w < e := by
          rcases Nat.lt_or_ge w e with q | q
          · exact q
          · have z := l4 (by omega)
            rw [show e = w by omega, hd] at z
            cases z
        rw [tk_D hB (by omega) hl hd hL]
        by_cases q : e - w ≤ 2
        · rw [if_pos q, if_pos q]
          have hv := tkV_bd l3 l1 (by omega)
          refine ⟨⟨b1, l1, by show e ≤ n; omega⟩, by simp, by simp, fun _ => hs, fun _ => ?_, by simp⟩
          show 0 ≤ (Int32.ofInt (tkV g w e)).toInt ∧ (Int32.ofInt (tkV g w e)).toInt ≤ 99
          rw [Int32.toInt_ofInt_of_le (by omega) (by omega)]
          exact hv
        · rw [if_neg q, if_neg q]
          exact ⟨⟨b1, l1, by show e ≤ n; omega⟩, by simp, by simp, fun _ => hs, by simp, by simp⟩
      | false =>
        rw [tk_S hB (by omega) hl hd]
        by_cases q : (g w).toInt = 59
        · rw [if_pos q]
          exact ⟨⟨b1, by show w ≤ w + 1; omega, by show w + 1 ≤ n; omega⟩, by simp, by simp, fun _ => (by show w < w + 1; omega), by simp, by simp⟩
        · rw [if_neg q]
          exact ⟨⟨b1, by show w ≤ w + 1; omega, by show w + 1 ≤ n; omega⟩, by simp, by simp, fun _ => (by show w < w + 1; omega), by simp, by simp⟩
/-- bytes with and without sign -/
def zBe (x y : Int32) : Prop := y = x ∧ 0 ≤ x.toInt ∨ x.toInt < 0 ∧ 128 ≤ y.toInt
theorem zBe_c {f g : Nat → Int32} {n : Nat} (h : ∀ j, j < n → zBe (f j) (g j)) (p : Nat) : tkT f n p = tkT g n p := by
  have eB : ∀ j, j < n → tkB (f j) = tkB (g j) := fun j hj => by
    rcases h j hj with ⟨e, -⟩ | ⟨a, b⟩
    · rw [e]
    · rw [tkB_f (by omega) (by omega), tkB_f (by omega) (by omega)]
  have eL : ∀ j, j < n → tkL (f j) = tkL (g j) := fun j hj => by
    rcases h j hj with ⟨e, -⟩ | ⟨a, b⟩
    · rw [e]
    · rw [tkL_f (by omega), tkL_f (by omega)]
  have eD : ∀ j, j < n → tkD (f j) = tkD (g j) := fun j hj => by
    rcases h j hj with ⟨e, -⟩ | ⟨a, b⟩
    · rw [e]
    · rw [tkD_f (by omega), tkD_f (by omega)]
  have up : ∀ j, j < n → (tkL (f j) = true ∨ tkD (f j) = true ∨ (f j).toInt = 59 ∨ (g j).toInt = 59) → g j = f j := fun j hj q => by
    rcases h j hj with ⟨e, -⟩ | ⟨a, b⟩
    · exact e
    · rcases q with q | q | q | q
      · have := tkL_iff.mp q; omega
      · have := tkD_iff.mp q; omega
      · omega
      · omega
  have hB := zEnd_run tkB g n p
  generalize zEnd tkB g n p = w at hB
  have hB' : zRun tkB f n p w := zRun_cg eB hB
  by_cases c : n ≤ w
  · rw [tk_0 hB c, tk_0 hB' c]
  · have hw : w < n := by omega
    cases hl : tkL (g w) with
    | true =>
      have hL := zEnd_run tkL g n w
      generalize zEnd tkL g n w = e at hL
      have hL' : zRun tkL f n w e := zRun_cg eL hL
      rw [tk_L hB hw hl hL, tk_L hB' hw ((eL w hw).trans hl) hL']
      have hen : e ≤ n := by have := hL.2.1; omega
      have ef : ∀ j, w ≤ j → j < e → g j = f j := fun j h1 h2 => up j (by omega) (Or.inl (by rw [eL j (by omega)]; exact hL.2.2.1 j h1 h2))
      have eW : ∀ i, zWI f w e i = zWI g w e i := fun i => by
        unfold zWI
        apply decide_eq_decide.mpr
        constructor
        · rintro ⟨h1, h2⟩
          exact ⟨h1, fun j hj => by rw [ef (w + j) (by omega) (by omega)]; exact h2 j hj⟩
        · rintro ⟨h1, h2⟩
          exact ⟨h1, fun j hj => by rw [← ef (w + j) (by omega) (by omega)]; exact h2 j hj⟩
      have : zWordAt f w e = zWordAt g w e := by unfold zWordAt; simp only [eW]
      rw [this]
    | false =>
      have hl' : tkL (f w) = false := (eL w hw).trans hl
      cases hd : tkD (g w) with
      | true =>
        have hL := zEnd_run tkD g n w
        generalize zEnd tkD g n w = e at hL
        have hL' : zRun tkD f n w e := zRun_cg eD hL
        rw [tk_D hB hw hl hd hL, tk_D hB' hw hl' ((eD w hw).trans hd) hL']
        have hen : e ≤ n := by have := hL.2.1; omega
        have ef : ∀ j, w ≤ j → j < e → g j = f j := fun j h1 h2 => up j (by omega) (Or.inr (Or.inl (by rw [eD j (by omega)]; exact hL.2.2.1 j h1 h2)))
        by_cases q : e - w ≤ 2
        · rw [if_pos q, if_pos q, if_pos q]
          have : tkV f w e = tkV g w e := by
            rcases (show e ≤ w ∨ e = w + 1 ∨ e = w + 2 by omega) with z | z | z
            · unfold tkV; rw [if_pos z, if_pos z]
            · rw [tkV_1 z, tkV_1 z, ef w (by omega) (by omega)]
            · rw [tkV_2 z, tkV_2 z, ef w (by omega) (by omega), ef (w + 1) (by omega) (by omega)]
          rw [this]
        · rw [if_neg q, if_neg q, if_neg q]
      | false =>
        rw [tk_S hB hw hl hd, tk_S hB' hw hl' ((eD w hw).trans hd)]
        by_cases q : (g w).toInt = 59
        · rw [if_pos q, if_pos (by rw [← up w hw (Or.inr (Or.inr (Or.inr q)))]; exact q)]
        · rw [if_neg q, if_neg (fun z => q (by rw [up w hw (Or.inr (Or.inr (Or.inl z)))]; exact z))]
theorem tkT_cg {f g : Nat → Int32} {n : Nat} (h : ∀ j, j < n → zBe (f j) (g j)) : tkT f n = tkT g n := funext (zBe_c h)
def zTokC (k : pT) (p : Nat) (at_ token place value : Int32) : Prop := at_ = nI (pEn k p) ∧ token = nI (pCl k p) ∧ place = nI (pWh k p) ∧ (pCl k p = 2 → value = pNm k p)
def zTokR (k : pT) (p : Nat) (next where_ token number word : Int32) : Prop := next = nI (pEn k p) ∧ where_ = nI (pWh k p) ∧ token = nI (pTk k p) ∧ (pTk k p = 1 → number = pNm k p) ∧ (pTk k p = 3 → word = nI (pWd k p))
theorem zTokC_of {k : pT} {p w e c wd : Nat} {nm v : Int32} (h : k p = (w, e, c, wd, nm)) (hv : c = 2 → v = nm) : zTokC k p (nI e) (nI c) (nI w) v := by
  unfold zTokC pEn pCl pWh pNm
  rw [h]
  exact ⟨rfl, rfl, rfl, hv⟩
theorem zTokR_of {k : pT} {p w e c wd : Nat} {nm v wo : Int32} (t : Nat) (h : k p = (w, e, c, wd, nm)) (ht : t = if c = 1 then (if wd = 99 then 4 else 3) else if c = 2 then 1 else if c = 3 then 2 else c) (hv : t = 1 → c = 2 → v = nm) (hw : t = 3 → wo = nI wd) (hc : c ≤ 4) : zTokR k p (nI e) (nI w) (nI t) v wo := by
  have e0 : pTk k p = t := by unfold pTk pCl pWd; rw [h]; exact ht.symm
  unfold zTokR
  rw [e0]
  unfold pEn pWh pNm pWd
  rw [h]
  refine ⟨rfl, rfl, rfl, fun q => hv q ?_, hw⟩
  rw [q] at ht
  rcases (show c = 0 ∨ c = 1 ∨ c = 2 ∨ c = 3 ∨ c = 4 by omega) with z | z | z | z | z
  · subst z; simp at ht
  · subst z
    rw [if_pos rfl] at ht
    split at ht <;> exact absurd ht (by decide)
  · exact z
  · subst z; simp at ht
  · subst z; simp at ht

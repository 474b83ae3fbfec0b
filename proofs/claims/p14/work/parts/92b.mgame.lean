set_option maxHeartbeats 4000000 in
set_option maxRecDepth 100000 in
/-- c_m_led -/
theorem c_m_led (l : Launch) (T : zTy) (mo : Nat) (m_all : Nat) (m_has : Nat) (i_size : Int32) (i_next : Int32) (i_where : Int32) (i_token : Int32) (i_number : Int32) (i_word : Int32) (i_wrong : Int32) (i_farCrossing : Int32) (m_read : Nat) (i_z0 : Int32) (i_crossings : Int32) (i_inns : Int32) (m_posts : Nat) (m_shut : Nat) (m_here : Nat) (i_steps : Int32) (i_done : Int32) (i_at : Int32) (i_gone : Int32) (m_was : Nat) (m_came : Nat) (m_seenAt : Nat) (m_rowWorth : Nat) (m_farBy : Nat) (m_used : Nat) (i_everywhere : Int32) (i_again0 : Int32) (i_d0 : Int32) (i_never : Int32) (i_firstCame : Int32) (i_longRun : Int32) (i_moved : Int32) (i_crowd : Int32) (i_l0 : Int32) (i_fitMany : Int32) (i_fitLeast : Int32) (i_fitMost : Int32) (m_fitPost : Nat) (m_fitEnd : Nat) (m_keptPosts : Nat) (i_x0 : Int32) (f_all : Nat → Int32) (f_posts : Nat → Int32) (f_shut : Nat → Int32) (f_here : Nat → Int32) (l_ : Int32) (c_ : Int32) (w_ : Int32) (hB : zBI f_all) : zMi l T yX12_led cX12_led 6 (some .int) 6 0 0 [.ref mo, .int l_, .int c_, .int w_] [[zO11 mo m_all m_has i_size i_next i_where i_token i_number i_word i_wrong i_farCrossing m_read i_z0 i_crossings i_inns m_posts m_shut m_here i_steps i_done i_at i_gone m_was m_came m_seenAt m_rowWorth m_farBy m_used i_everywhere i_again0 i_d0 i_never i_firstCame i_longRun i_moved i_crowd i_l0 i_fitMany i_fitLeast i_fitMost m_fitPost m_fitEnd m_keptPosts i_x0], [zAr T 0 m_all 3952 f_all], [zAr T 0 m_posts 7 f_posts], [zAr T 0 m_shut 7 f_shut], [zAr T 0 m_here 7 f_here]] (fun (r : Int32) bs => ∃ (j_z0 : Int32) (j_crossings : Int32) (j_inns : Int32) (j_steps : Int32) (j_done : Int32) (g_posts : Nat → Int32) (g_shut : Nat → Int32) (g_here : Nat → Int32), bs = [[zO11 mo m_all m_has i_size i_next i_where i_token i_number i_word i_wrong i_farCrossing m_read j_z0 j_crossings j_inns m_posts m_shut m_here j_steps j_done i_at i_gone m_was m_came m_seenAt m_rowWorth m_farBy m_used i_everywhere i_again0 i_d0 i_never i_firstCame i_longRun i_moved i_crowd i_l0 i_fitMany i_fitLeast i_fitMost m_fitPost m_fitEnd m_keptPosts i_x0], [zAr T 0 m_all 3952 f_all], [zAr T 0 m_posts 7 g_posts], [zAr T 0 m_shut 7 g_shut], [zAr T 0 m_here 7 g_here]]) := by
  refine zMi_of (own := RX12) (by decide) rfl (Nat.le_of_ble_eq_true rfl) ?_
  intro p e s m args below meth c A ls C hr hlocks hnm hAe G hl
  refine zHide (fun Qz_ hQz_ => ?_)
  have hx := C.1
  have hb := C.2.1
  have hl : lv_has ls 6 [(0, .ref mo), (1, .int l_), (2, .int c_), (3, .int w_)] := hl
  refine lv_aload_n hx hb dX12_led_0 rfl (lv_at hl 0 rfl) ?_
  refine lv_iload_n hx hb dX12_led_1 rfl (lv_at hl 1 rfl) ?_
  refine z_Vi (bc := [[zO11 mo m_all m_has i_size i_next i_where i_token i_number i_word i_wrong i_farCrossing m_read i_z0 i_crossings i_inns m_posts m_shut m_here i_steps i_done i_at i_gone m_was m_came m_seenAt m_rowWorth m_farBy m_used i_everywhere i_again0 i_d0 i_never i_firstCame i_longRun i_moved i_crowd i_l0 i_fitMany i_fitLeast i_fitMost m_fitPost m_fitEnd m_keptPosts i_x0], [zAr T 0 m_all 3952 f_all], [zAr T 0 m_posts 7 f_posts], [zAr T 0 m_shut 7 f_shut], [zAr T 0 m_here 7 f_here]]) (br := []) (As := [.int l_]) (rest := []) C G (c_m_isLand l T mo m_all m_has i_size i_next i_where i_token i_number i_word i_wrong i_farCrossing m_read i_z0 i_crossings i_inns m_posts m_shut m_here i_steps i_done i_at i_gone m_was m_came m_seenAt m_rowWorth m_farBy m_used i_everywhere i_again0 i_d0 i_never i_firstCame i_longRun i_moved i_crowd i_l0 i_fitMany i_fitLeast i_fitMost m_fitPost m_fitEnd m_keptPosts i_x0 f_all f_posts f_shut f_here l_ (by first | with_reducible assumption | with_reducible rfl | omega | assumption | rfl | decide)) (kV_RX12_184 C.2.2.2.2 (Nat.le_of_ble_eq_true rfl) (Nat.le_of_ble_eq_true rfl)) [0, 1, 2, 3, 4] [0, 0, 0, 0, 0] rfl rfl (ci := 11) (qc := (RX12, TX12, 43)) rfl rfl (List.mem_flatten.mpr ⟨_, List.mem_of_getElem? (i := 0) rfl, List.mem_cons_self⟩) rfl rfl hl.1 dX12_led_2 (Nat.le_of_ble_eq_true rfl) (Nat.le_of_ble_eq_true rfl) (fun r_10 b1 H locs hw G => ?_)
  refine zEx8 hw ?_
  intro j_z0_1 j_crossings_2 j_inns_3 j_steps_4 j_done_5 g_posts_6 g_shut_7 g_here_8
  refine zCu2 ?_
  intro hbs9 hc_9
  clear hw
  subst hbs9
  have G : zS T A s.heap s [[zO11 mo m_all m_has i_size i_next i_where i_token i_number i_word i_wrong i_farCrossing m_read j_z0_1 j_crossings_2 j_inns_3 m_posts m_shut m_here j_steps_4 j_done_5 i_at i_gone m_was m_came m_seenAt m_rowWorth m_farBy m_used i_everywhere i_again0 i_d0 i_never i_firstCame i_longRun i_moved i_crowd i_l0 i_fitMany i_fitLeast i_fitMost m_fitPost m_fitEnd m_keptPosts i_x0], [zAr T 0 m_all 3952 f_all], [zAr T 0 m_posts 7 g_posts_6], [zAr T 0 m_shut 7 g_shut_7], [zAr T 0 m_here 7 g_here_8]] _ _ := G
  rcases hc_9 with ⟨rfl, h_11, h_12, h_13, h_14, h_15, h_16, h_17, h_18, h_19, h_20, h_21, h_22⟩ | ⟨rfl, h_23⟩
  · have h_11 : 0 ≤ l_.toInt := h_11
    have h_12 : l_.toInt ≤ 1 := h_12
    have h_13 : l_.toInt < (f_all 0).toInt := h_13
    have h_14 : j_z0_1.toInt = 610 + 51 * l_.toInt := h_14
    have h_15 : zML f_all j_z0_1 j_crossings_2 := h_15
    have h_16 : zMP g_posts_6 := h_16
    have h_17 : j_inns_3 = f_all (j_z0_1.toInt.toNat + 1) := h_17
    have h_18 : j_steps_4 = 0 := h_18
    have h_19 : j_done_5 = 0 := h_19
    have h_20 : (∀ j, j < 7 → g_posts_6 j = zPt f_all j_z0_1 (nI j)) := h_20
    have h_21 : (∀ j, j < 7 → g_shut_7 j = 0) := h_21
    have h_22 : (∀ j, j < 7 → g_here_8 j = zWk f_all j_z0_1 j) := h_22
    have hLx := h_15
    have hcr := hLx.cr
    have hzx := hLx.1
    have hPx := h_16
    refine lv_if_eq (tgt := 25) hx hb dX12_led_5 (by decide) (fun q => absurd q (by decide)) (fun _ => ?_)
    refine lv_aload_n hx hb dX12_led_8 rfl (lv_at hl 0 rfl) ?_
    refine lv_iload_n hx hb dX12_led_9 rfl (lv_at hl 2 rfl) ?_
    refine z_Vi (bc := [[zO11 mo m_all m_has i_size i_next i_where i_token i_number i_word i_wrong i_farCrossing m_read j_z0_1 j_crossings_2 j_inns_3 m_posts m_shut m_here j_steps_4 j_done_5 i_at i_gone m_was m_came m_seenAt m_rowWorth m_farBy m_used i_everywhere i_again0 i_d0 i_never i_firstCame i_longRun i_moved i_crowd i_l0 i_fitMany i_fitLeast i_fitMost m_fitPost m_fitEnd m_keptPosts i_x0]]) (br := [[zAr T 0 m_all 3952 f_all], [zAr T 0 m_posts 7 g_posts_6], [zAr T 0 m_shut 7 g_shut_7], [zAr T 0 m_here 7 g_here_8]]) (As := [.int c_]) (rest := []) C G (c_m_isCrossing l T mo m_all m_has i_size i_next i_where i_token i_number i_word i_wrong i_farCrossing m_read j_z0_1 j_crossings_2 j_inns_3 m_posts m_shut m_here j_steps_4 j_done_5 i_at i_gone m_was m_came m_seenAt m_rowWorth m_farBy m_used i_everywhere i_again0 i_d0 i_never i_firstCame i_longRun i_moved i_crowd i_l0 i_fitMany i_fitLeast i_fitMost m_fitPost m_fitEnd m_keptPosts i_x0 c_ (by first | with_reducible assumption | with_reducible rfl | omega | assumption | rfl | decide)) (kV_RX12_187 C.2.2.2.2 (Nat.le_of_ble_eq_true rfl) (Nat.le_of_ble_eq_true rfl)) [0] [0] rfl rfl (ci := 11) (qc := (RX12, TX12, 43)) rfl rfl (List.mem_flatten.mpr ⟨_, List.mem_of_getElem? (i := 0) rfl, List.mem_cons_self⟩) rfl rfl hl.1 dX12_led_10 (Nat.le_of_ble_eq_true rfl) (Nat.le_of_ble_eq_true rfl) (fun r_25 b1 H locs hw G => ?_)
    refine zAn2 hw ?_
    intro hbs9 hc_24
    clear hw
    subst hbs9
    have G : zS T A s.heap s [[zAr T 0 m_all 3952 f_all], [zAr T 0 m_posts 7 g_posts_6], [zAr T 0 m_shut 7 g_shut_7], [zAr T 0 m_here 7 g_here_8], [zO11 mo m_all m_has i_size i_next i_where i_token i_number i_word i_wrong i_farCrossing m_read j_z0_1 j_crossings_2 j_inns_3 m_posts m_shut m_here j_steps_4 j_done_5 i_at i_gone m_was m_came m_seenAt m_rowWorth m_farBy m_used i_everywhere i_again0 i_d0 i_never i_firstCame i_longRun i_moved i_crowd i_l0 i_fitMany i_fitLeast i_fitMost m_fitPost m_fitEnd m_keptPosts i_x0]] _ _ := G
    rcases hc_24 with ⟨rfl, h_26, h_27⟩ | ⟨rfl, h_28⟩
    · have h_26 : 0 ≤ c_.toInt := h_26
      have h_27 : c_.toInt < j_crossings_2.toInt := h_27
      refine lv_if_eq (tgt := 25) hx hb dX12_led_13 (by decide) (fun q => absurd q (by decide)) (fun _ => ?_)
      refine lv_iload_n hx hb dX12_led_16 rfl (lv_at hl 3 rfl) ?_
      refine lv_iconst (v := 0) hx hb dX12_led_17 (by decide) ?_
      refine lv_iconst (v := 2) hx hb dX12_led_18 (by decide) ?_
      refine z_Si (bc := []) (br := [[zAr T 0 m_all 3952 f_all], [zAr T 0 m_posts 7 g_posts_6], [zAr T 0 m_shut 7 g_shut_7], [zAr T 0 m_here 7 g_here_8], [zO11 mo m_all m_has i_size i_next i_where i_token i_number i_word i_wrong i_farCrossing m_read j_z0_1 j_crossings_2 j_inns_3 m_posts m_shut m_here j_steps_4 j_done_5 i_at i_gone m_was m_came m_seenAt m_rowWorth m_farBy m_used i_everywhere i_again0 i_d0 i_never i_firstCame i_longRun i_moved i_crowd i_l0 i_fitMany i_fitLeast i_fitMost m_fitPost m_fitEnd m_keptPosts i_x0]]) (As := [.int w_, .int 0, .int 2]) (rest := []) C G (c_m_isIn l T w_ 0 2) (kS_RX12_111 C.2.2.2.2 (Nat.le_of_ble_eq_true rfl) (Nat.le_of_ble_eq_true rfl)) [] [] rfl rfl rfl rfl hl.1 dX12_led_19 (Nat.le_of_ble_eq_true rfl) (Nat.le_of_ble_eq_true rfl) (fun r_30 b1 H locs hw G => ?_)
      refine zAn2 hw ?_
      intro hbs9 hc_29
      clear hw
      subst hbs9
      have G : zS T A s.heap s [[zAr T 0 m_all 3952 f_all], [zAr T 0 m_posts 7 g_posts_6], [zAr T 0 m_shut 7 g_shut_7], [zAr T 0 m_here 7 g_here_8], [zO11 mo m_all m_has i_size i_next i_where i_token i_number i_word i_wrong i_farCrossing m_read j_z0_1 j_crossings_2 j_inns_3 m_posts m_shut m_here j_steps_4 j_done_5 i_at i_gone m_was m_came m_seenAt m_rowWorth m_farBy m_used i_everywhere i_again0 i_d0 i_never i_firstCame i_longRun i_moved i_crowd i_l0 i_fitMany i_fitLeast i_fitMost m_fitPost m_fitEnd m_keptPosts i_x0]] _ _ := G
      rcases hc_29 with ⟨rfl, h_31, h_32⟩ | ⟨rfl, h_33⟩
      · have h_31 : (0 : Int) ≤ w_.toInt := h_31
        have h_32 : w_.toInt ≤ (2 : Int) := h_32
        refine lv_if_ne (tgt := 28) hx hb dX12_led_22 (by decide) (fun _ => ?_) (fun q => absurd q (by decide))
        refine lv_aload_n hx hb dX12_led_28 rfl (lv_at hl 0 rfl) ?_
        refine lv_iload_n hx hb dX12_led_29 rfl (lv_at hl 2 rfl) ?_
        refine lv_bipush (v := 7) hx hb dX12_led_30 (by decide) ?_
        refine z_Vi (bc := [[zO11 mo m_all m_has i_size i_next i_where i_token i_number i_word i_wrong i_farCrossing m_read j_z0_1 j_crossings_2 j_inns_3 m_posts m_shut m_here j_steps_4 j_done_5 i_at i_gone m_was m_came m_seenAt m_rowWorth m_farBy m_used i_everywhere i_again0 i_d0 i_never i_firstCame i_longRun i_moved i_crowd i_l0 i_fitMany i_fitLeast i_fitMost m_fitPost m_fitEnd m_keptPosts i_x0], [zAr T 0 m_all 3952 f_all], [zAr T 0 m_posts 7 g_posts_6]]) (br := [[zAr T 0 m_shut 7 g_shut_7], [zAr T 0 m_here 7 g_here_8]]) (As := [.int c_, .int 7]) (rest := []) C G (c_m_ledTo l T mo m_all m_has i_size i_next i_where i_token i_number i_word i_wrong i_farCrossing m_read j_z0_1 j_crossings_2 j_inns_3 m_posts m_shut m_here j_steps_4 j_done_5 i_at i_gone m_was m_came m_seenAt m_rowWorth m_farBy m_used i_everywhere i_again0 i_d0 i_never i_firstCame i_longRun i_moved i_crowd i_l0 i_fitMany i_fitLeast i_fitMost m_fitPost m_fitEnd m_keptPosts i_x0 f_all g_posts_6 c_ 7 (by first | with_reducible assumption | with_reducible rfl | omega | assumption | rfl | decide) (by first | with_reducible assumption | with_reducible rfl | omega | assumption | rfl | decide) (by first | with_reducible assumption | with_reducible rfl | omega | assumption | rfl | decide) (by first | with_reducible assumption | with_reducible rfl | omega | assumption | rfl | decide) (by first | with_reducible assumption | with_reducible rfl | omega | assumption | rfl | decide) (by first | with_reducible assumption | with_reducible rfl | omega | assumption | rfl | decide)) (kV_RX12_248 C.2.2.2.2 (Nat.le_of_ble_eq_true rfl) (Nat.le_of_ble_eq_true rfl)) [4, 0, 1] [0, 0, 2] rfl rfl (ci := 11) (qc := (RX12, TX12, 43)) rfl rfl (List.mem_flatten.mpr ⟨_, List.mem_of_getElem? (i := 0) rfl, List.mem_cons_self⟩) rfl rfl hl.1 dX12_led_32 (Nat.le_of_ble_eq_true rfl) (Nat.le_of_ble_eq_true rfl) (fun r_37 b1 H locs hw G => ?_)
        refine zAn4 hw ?_
        intro hbs9 h_34 h_35 h_36
        clear hw
        subst hbs9
        have G : zS T A s.heap s [[zAr T 0 m_shut 7 g_shut_7], [zAr T 0 m_here 7 g_here_8], [zO11 mo m_all m_has i_size i_next i_where i_token i_number i_word i_wrong i_farCrossing m_read j_z0_1 j_crossings_2 j_inns_3 m_posts m_shut m_here j_steps_4 j_done_5 i_at i_gone m_was m_came m_seenAt m_rowWorth m_farBy m_used i_everywhere i_again0 i_d0 i_never i_firstCame i_longRun i_moved i_crowd i_l0 i_fitMany i_fitLeast i_fitMost m_fitPost m_fitEnd m_keptPosts i_x0], [zAr T 0 m_all 3952 f_all], [zAr T 0 m_posts 7 g_posts_6]] _ _ := G
        subst h_34
        refine lv_istore (lv' := [(4, .int (zLed (zStp f_all j_z0_1 j_inns_3 g_posts_6) (7 : Int32).toNatClampNeg c_)), (0, .ref mo), (1, .int l_), (2, .int c_), (3, .int w_)]) hx hb dX12_led_35 hl (by decide) (zLvf_h rfl) (fun ls hl => ?_)
        refine lv_aload_n hx hb dX12_led_37 rfl (lv_at hl 1 rfl) ?_
        refine lv_iload hx hb dX12_led_38 (lv_at hl 0 rfl) ?_
        refine z_Vi (bc := [[zO11 mo m_all m_has i_size i_next i_where i_token i_number i_word i_wrong i_farCrossing m_read j_z0_1 j_crossings_2 j_inns_3 m_posts m_shut m_here j_steps_4 j_done_5 i_at i_gone m_was m_came m_seenAt m_rowWorth m_farBy m_used i_everywhere i_again0 i_d0 i_never i_firstCame i_longRun i_moved i_crowd i_l0 i_fitMany i_fitLeast i_fitMost m_fitPost m_fitEnd m_keptPosts i_x0], [zAr T 0 m_all 3952 f_all]]) (br := [[zAr T 0 m_shut 7 g_shut_7], [zAr T 0 m_here 7 g_here_8], [zAr T 0 m_posts 7 g_posts_6]]) (As := [.int (zLed (zStp f_all j_z0_1 j_inns_3 g_posts_6) (7 : Int32).toNatClampNeg c_)]) (rest := []) C G (c_m_isFree l T mo m_all m_has i_size i_next i_where i_token i_number i_word i_wrong i_farCrossing m_read j_z0_1 j_crossings_2 j_inns_3 m_posts m_shut m_here j_steps_4 j_done_5 i_at i_gone m_was m_came m_seenAt m_rowWorth m_farBy m_used i_everywhere i_again0 i_d0 i_never i_firstCame i_longRun i_moved i_crowd i_l0 i_fitMany i_fitLeast i_fitMost m_fitPost m_fitEnd m_keptPosts i_x0 f_all (zLed (zStp f_all j_z0_1 j_inns_3 g_posts_6) (7 : Int32).toNatClampNeg c_) (by first | with_reducible assumption | with_reducible rfl | omega | assumption | rfl | decide) (by first | with_reducible assumption | with_reducible rfl | omega | assumption | rfl | decide) (by first | with_reducible assumption | with_reducible rfl | omega | assumption | rfl | decide)) (kV_RX12_223 C.2.2.2.2 (Nat.le_of_ble_eq_true rfl) (Nat.le_of_ble_eq_true rfl)) [2, 3] [2, 0] rfl rfl (ci := 11) (qc := (RX12, TX12, 43)) rfl rfl (List.mem_flatten.mpr ⟨_, List.mem_of_getElem? (i := 0) rfl, List.mem_cons_self⟩) rfl rfl hl.1 dX12_led_40 (Nat.le_of_ble_eq_true rfl) (Nat.le_of_ble_eq_true rfl) (fun r_39 b1 H locs hw G => ?_)
        refine zAn2 hw ?_
        intro hbs9 hc_38
        clear hw
        subst hbs9
        have G : zS T A s.heap s [[zAr T 0 m_shut 7 g_shut_7], [zAr T 0 m_here 7 g_here_8], [zAr T 0 m_posts 7 g_posts_6], [zO11 mo m_all m_has i_size i_next i_where i_token i_number i_word i_wrong i_farCrossing m_read j_z0_1 j_crossings_2 j_inns_3 m_posts m_shut m_here j_steps_4 j_done_5 i_at i_gone m_was m_came m_seenAt m_rowWorth m_farBy m_used i_everywhere i_again0 i_d0 i_never i_firstCame i_longRun i_moved i_crowd i_l0 i_fitMany i_fitLeast i_fitMost m_fitPost m_fitEnd m_keptPosts i_x0], [zAr T 0 m_all 3952 f_all]] _ _ := G
        rcases hc_38 with ⟨rfl, h_40, h_41⟩ | ⟨rfl, h_42⟩
        · have h_40 : ¬ zInn j_inns_3 (zLed (zStp f_all j_z0_1 j_inns_3 g_posts_6) (7 : Int32).toNatClampNeg c_) := h_40
          have h_41 : 0 < (zRd f_all j_z0_1 (zLed (zStp f_all j_z0_1 j_inns_3 g_posts_6) (7 : Int32).toNatClampNeg c_)).toInt := h_41
          refine lv_if_ne (tgt := 88) hx hb dX12_led_43 (by decide) (fun _ => ?_) (fun q => absurd q (by decide))
          refine lv_iconst (v := 1) hx hb dX12_led_88 (by decide) ?_
          refine lv_istore (lv' := [(5, .int 1), (4, .int (zLed (zStp f_all j_z0_1 j_inns_3 g_posts_6) (7 : Int32).toNatClampNeg c_)), (0, .ref mo), (1, .int l_), (2, .int c_), (3, .int w_)]) hx hb dX12_led_89 hl (by decide) (zLvf_h rfl) (fun ls hl => ?_)
          obtain ⟨q9, hq1, hq7, hq9⟩ := zLed_ring (S := (zStp f_all j_z0_1 j_inns_3 g_posts_6)) (c := c_) (fun k => zLed_in hLx hPx (by omega) (by omega) k)
          refine z_lp1 (T := T) 91 (fun (k : Nat) => [[zAr T 0 m_shut 7 g_shut_7], [zAr T 0 m_here 7 g_here_8], [zAr T 0 m_posts 7 g_posts_6], [zO11 mo m_all m_has i_size i_next i_where i_token i_number i_word i_wrong i_farCrossing m_read j_z0_1 j_crossings_2 j_inns_3 m_posts m_shut m_here j_steps_4 j_done_5 i_at i_gone m_was m_came m_seenAt m_rowWorth m_farBy m_used i_everywhere i_again0 i_d0 i_never i_firstCame i_longRun i_moved i_crowd i_l0 i_fitMany i_fitLeast i_fitMost m_fitPost m_fitEnd m_keptPosts i_x0], [zAr T 0 m_all 3952 f_all]]) (fun (k : Nat) => [(5, .int (nI k)), (4, .int (zLed (zStp f_all j_z0_1 j_inns_3 g_posts_6) (7 : Int32).toNatClampNeg c_)), (0, .ref mo), (1, .int l_), (2, .int c_), (3, .int w_)]) (fun (k : Nat) => 1 ≤ k ∧ k ≤ q9) (fun (k : Nat) => q9 - k) ?_ 1 (show 1 ≤ 1 ∧ 1 ≤ q9 from ⟨by omega, by omega⟩) G (lv_sub hl [0, 1, 2, 3, 4, 5] rfl)
          intro k hI9 ih_91 H locs ls G hl
          replace hI9 : 1 ≤ k ∧ k ≤ q9 := hI9
          refine zAn2 hI9 ?_
          intro hk1 hk
          clear hI9
          replace G : zS T A s.heap s [[zAr T 0 m_shut 7 g_shut_7], [zAr T 0 m_here 7 g_here_8], [zAr T 0 m_posts 7 g_posts_6], [zO11 mo m_all m_has i_size i_next i_where i_token i_number i_word i_wrong i_farCrossing m_read j_z0_1 j_crossings_2 j_inns_3 m_posts m_shut m_here j_steps_4 j_done_5 i_at i_gone m_was m_came m_seenAt m_rowWorth m_farBy m_used i_everywhere i_again0 i_d0 i_never i_firstCame i_longRun i_moved i_crowd i_l0 i_fitMany i_fitLeast i_fitMost m_fitPost m_fitEnd m_keptPosts i_x0], [zAr T 0 m_all 3952 f_all]] _ _ := G
          replace hl : lv_has ls 6 [(5, .int (nI k)), (4, .int (zLed (zStp f_all j_z0_1 j_inns_3 g_posts_6) (7 : Int32).toNatClampNeg c_)), (0, .ref mo), (1, .int l_), (2, .int c_), (3, .int w_)] := hl
          refine lv_aload_n hx hb dX12_led_91 rfl (lv_at hl 2 rfl) ?_
          refine lv_iload hx hb dX12_led_92 (lv_at hl 1 rfl) ?_
          refine lv_iload hx hb dX12_led_94 (lv_at hl 0 rfl) ?_
          have ti_43 : (nI k).toInt = ((k : Nat) : Int) := nI_toInt (by omega)
          refine z_Vi (bc := [[zO11 mo m_all m_has i_size i_next i_where i_token i_number i_word i_wrong i_farCrossing m_read j_z0_1 j_crossings_2 j_inns_3 m_posts m_shut m_here j_steps_4 j_done_5 i_at i_gone m_was m_came m_seenAt m_rowWorth m_farBy m_used i_everywhere i_again0 i_d0 i_never i_firstCame i_longRun i_moved i_crowd i_l0 i_fitMany i_fitLeast i_fitMost m_fitPost m_fitEnd m_keptPosts i_x0], [zAr T 0 m_all 3952 f_all], [zAr T 0 m_posts 7 g_posts_6]]) (br := [[zAr T 0 m_shut 7 g_shut_7], [zAr T 0 m_here 7 g_here_8]]) (As := [.int (zLed (zStp f_all j_z0_1 j_inns_3 g_posts_6) (7 : Int32).toNatClampNeg c_), .int (nI k)]) (rest := []) C G (c_m_ledTo l T mo m_all m_has i_size i_next i_where i_token i_number i_word i_wrong i_farCrossing m_read j_z0_1 j_crossings_2 j_inns_3 m_posts m_shut m_here j_steps_4 j_done_5 i_at i_gone m_was m_came m_seenAt m_rowWorth m_farBy m_used i_everywhere i_again0 i_d0 i_never i_firstCame i_longRun i_moved i_crowd i_l0 i_fitMany i_fitLeast i_fitMost m_fitPost m_fitEnd m_keptPosts i_x0 f_all g_posts_6 (zLed (zStp f_all j_z0_1 j_inns_3 g_posts_6) (7 : Int32).toNatClampNeg c_) (nI k) (by first | with_reducible assumption | with_reducible rfl | omega | assumption | rfl | decide) (by first | with_reducible assumption | with_reducible rfl | omega | assumption | rfl | decide) (by first | with_reducible assumption | with_reducible rfl | omega | assumption | rfl | decide) (by first | with_reducible assumption | with_reducible rfl | omega | assumption | rfl | decide) (by first | with_reducible assumption | with_reducible rfl | omega | assumption | rfl | decide) (by first | with_reducible assumption | with_reducible rfl | omega | assumption | rfl | decide)) (kV_RX12_248 C.2.2.2.2 (Nat.le_of_ble_eq_true rfl) (Nat.le_of_ble_eq_true rfl)) [3, 4, 2] [2, 0, 0] rfl rfl (ci := 11) (qc := (RX12, TX12, 43)) rfl rfl (List.mem_flatten.mpr ⟨_, List.mem_of_getElem? (i := 0) rfl, List.mem_cons_self⟩) rfl rfl hl.1 dX12_led_96 (Nat.le_of_ble_eq_true rfl) (Nat.le_of_ble_eq_true rfl) (fun r_47 b1 H locs hw G => ?_)
          refine zAn4 hw ?_
          intro hbs9 h_44 h_45 h_46
          clear hw
          subst hbs9
          have G : zS T A s.heap s [[zAr T 0 m_shut 7 g_shut_7], [zAr T 0 m_here 7 g_here_8], [zO11 mo m_all m_has i_size i_next i_where i_token i_number i_word i_wrong i_farCrossing m_read j_z0_1 j_crossings_2 j_inns_3 m_posts m_shut m_here j_steps_4 j_done_5 i_at i_gone m_was m_came m_seenAt m_rowWorth m_farBy m_used i_everywhere i_again0 i_d0 i_never i_firstCame i_longRun i_moved i_crowd i_l0 i_fitMany i_fitLeast i_fitMost m_fitPost m_fitEnd m_keptPosts i_x0], [zAr T 0 m_all 3952 f_all], [zAr T 0 m_posts 7 g_posts_6]] _ _ := G
          subst h_44
          refine lv_iload hx hb dX12_led_99 (lv_at hl 1 rfl) ?_
          refine lv_icmp_eq (tgt := 110) hx hb dX12_led_101 (by decide) (fun c_48 => ?_) (fun c_48 => ?_)
          · have c_48n : (zLed (zStp f_all j_z0_1 j_inns_3 g_posts_6) (nI k).toNatClampNeg (zLed (zStp f_all j_z0_1 j_inns_3 g_posts_6) (7 : Int32).toNatClampNeg c_)).toInt = (zLed (zStp f_all j_z0_1 j_inns_3 g_posts_6) (7 : Int32).toNatClampNeg c_).toInt := (fa_eq _ _).mp c_48
            refine lv_iload_n hx hb dX12_led_110 rfl (lv_at hl 5 rfl) ?_
            refine lv_iconst (v := 2) hx hb dX12_led_111 (by decide) ?_
            refine lv_icmp_ne (tgt := 120) hx hb dX12_led_112 (by decide) (fun c_49 => ?_) (fun c_49 => ?_)
            · have c_49n : ¬ w_.toInt = (2 : Int) := fun q => c_49 ((fa_eq _ _).mpr q)
              refine lv_iconst (v := (-1)) hx hb dX12_led_120 (by decide) ?_
              have G := G.sub (bs' := [[zO11 mo m_all m_has i_size i_next i_where i_token i_number i_word i_wrong i_farCrossing m_read j_z0_1 j_crossings_2 j_inns_3 m_posts m_shut m_here j_steps_4 j_done_5 i_at i_gone m_was m_came m_seenAt m_rowWorth m_farBy m_used i_everywhere i_again0 i_d0 i_never i_firstCame i_longRun i_moved i_crowd i_l0 i_fitMany i_fitLeast i_fitMost m_fitPost m_fitEnd m_keptPosts i_x0], [zAr T 0 m_all 3952 f_all], [zAr T 0 m_posts 7 g_posts_6], [zAr T 0 m_shut 7 g_shut_7], [zAr T 0 m_here 7 g_here_8]]) [2, 3, 4, 0, 1] rfl
              exact z_back hQz_ (z_iret C hr hlocks G (Nat.le_of_ble_eq_true rfl) (Nat.le_of_ble_eq_true rfl) dX12_led_121 ⟨j_z0_1, j_crossings_2, j_inns_3, j_steps_4, j_done_5, g_posts_6, g_shut_7, g_here_8, rfl⟩)
            · have c_49n : w_.toInt = (2 : Int) := (fa_eq _ _).mp c_49
              refine lv_iload hx hb dX12_led_115 (lv_at hl 0 rfl) ?_
              refine lv_goto (tgt := 121) hx hb dX12_led_117 (by decide) ?_
              have G := G.sub (bs' := [[zO11 mo m_all m_has i_size i_next i_where i_token i_number i_word i_wrong i_farCrossing m_read j_z0_1 j_crossings_2 j_inns_3 m_posts m_shut m_here j_steps_4 j_done_5 i_at i_gone m_was m_came m_seenAt m_rowWorth m_farBy m_used i_everywhere i_again0 i_d0 i_never i_firstCame i_longRun i_moved i_crowd i_l0 i_fitMany i_fitLeast i_fitMost m_fitPost m_fitEnd m_keptPosts i_x0], [zAr T 0 m_all 3952 f_all], [zAr T 0 m_posts 7 g_posts_6], [zAr T 0 m_shut 7 g_shut_7], [zAr T 0 m_here 7 g_here_8]]) [2, 3, 4, 0, 1] rfl
              exact z_back hQz_ (z_iret C hr hlocks G (Nat.le_of_ble_eq_true rfl) (Nat.le_of_ble_eq_true rfl) dX12_led_121 ⟨j_z0_1, j_crossings_2, j_inns_3, j_steps_4, j_done_5, g_posts_6, g_shut_7, g_here_8, rfl⟩)
          · have c_48n : ¬ (zLed (zStp f_all j_z0_1 j_inns_3 g_posts_6) (nI k).toNatClampNeg (zLed (zStp f_all j_z0_1 j_inns_3 g_posts_6) (7 : Int32).toNatClampNeg c_)).toInt = (zLed (zStp f_all j_z0_1 j_inns_3 g_posts_6) (7 : Int32).toNatClampNeg c_).toInt := fun q => c_48 ((fa_eq _ _).mpr q)
            have hkq : ¬ k = q9 := by intro e9; subst e9; exact absurd (show zLed (zStp f_all j_z0_1 j_inns_3 g_posts_6) (nI k).toNatClampNeg (zLed (zStp f_all j_z0_1 j_inns_3 g_posts_6) (7 : Int32).toNatClampNeg c_) = zLed (zStp f_all j_z0_1 j_inns_3 g_posts_6) (7 : Int32).toNatClampNeg c_ from (by rw [nI_clamp (by omega)]; exact hq9)) (by first | with_reducible assumption | assumption)
            refine lv_iinc (v := nI (k + 1)) (lv' := [(5, .int (nI (k + 1))), (4, .int (zLed (zStp f_all j_z0_1 j_inns_3 g_posts_6) (7 : Int32).toNatClampNeg c_)), (0, .ref mo), (1, .int l_), (2, .int c_), (3, .int w_)]) hx hb dX12_led_104 hl (k := 0) rfl (z_inc k 1) (by decide) (zLvf_h rfl) (fun ls hl => ?_)
            refine lv_goto (tgt := 91) hx hb dX12_led_107 (by decide) ?_
            have G := G.sub (bs' := [[zAr T 0 m_shut 7 g_shut_7], [zAr T 0 m_here 7 g_here_8], [zAr T 0 m_posts 7 g_posts_6], [zO11 mo m_all m_has i_size i_next i_where i_token i_number i_word i_wrong i_farCrossing m_read j_z0_1 j_crossings_2 j_inns_3 m_posts m_shut m_here j_steps_4 j_done_5 i_at i_gone m_was m_came m_seenAt m_rowWorth m_farBy m_used i_everywhere i_again0 i_d0 i_never i_firstCame i_longRun i_moved i_crowd i_l0 i_fitMany i_fitLeast i_fitMost m_fitPost m_fitEnd m_keptPosts i_x0], [zAr T 0 m_all 3952 f_all]]) [0, 1, 4, 2, 3] rfl
            exact ih_91 (k + 1) (show 1 ≤ (k + 1) ∧ (k + 1) ≤ q9 from ⟨by omega, by omega⟩) (show q9 - (k + 1) < q9 - k from by omega) _ _ ls G (lv_sub hl [0, 1, 2, 3, 4, 5] rfl)
        · have h_42 : (zInn j_inns_3 (zLed (zStp f_all j_z0_1 j_inns_3 g_posts_6) (7 : Int32).toNatClampNeg c_) ∨ (zRd f_all j_z0_1 (zLed (zStp f_all j_z0_1 j_inns_3 g_posts_6) (7 : Int32).toNatClampNeg c_)).toInt ≤ 0) := h_42
          refine lv_if_ne (tgt := 88) hx hb dX12_led_43 (by decide) (fun q => absurd (by decide) q) (fun _ => ?_)
          refine lv_iconst (v := 0) hx hb dX12_led_46 (by decide) ?_
          refine lv_istore (lv' := [(5, .int 0), (4, .int (zLed (zStp f_all j_z0_1 j_inns_3 g_posts_6) (7 : Int32).toNatClampNeg c_)), (0, .ref mo), (1, .int l_), (2, .int c_), (3, .int w_)]) hx hb dX12_led_47 hl (by decide) (zLvf_h rfl) (fun ls hl => ?_)
          refine z_lp1 (T := T) 49 (fun (k : Nat) => [[zAr T 0 m_shut 7 g_shut_7], [zAr T 0 m_here 7 g_here_8], [zAr T 0 m_posts 7 g_posts_6], [zO11 mo m_all m_has i_size i_next i_where i_token i_number i_word i_wrong i_farCrossing m_read j_z0_1 j_crossings_2 j_inns_3 m_posts m_shut m_here j_steps_4 j_done_5 i_at i_gone m_was m_came m_seenAt m_rowWorth m_farBy m_used i_everywhere i_again0 i_d0 i_never i_firstCame i_longRun i_moved i_crowd i_l0 i_fitMany i_fitLeast i_fitMost m_fitPost m_fitEnd m_keptPosts i_x0], [zAr T 0 m_all 3952 f_all]]) (fun (k : Nat) => [(5, .int (nI k)), (4, .int (zLed (zStp f_all j_z0_1 j_inns_3 g_posts_6) (7 : Int32).toNatClampNeg c_)), (0, .ref mo), (1, .int l_), (2, .int c_), (3, .int w_)]) (fun (k : Nat) => k ≤ 7) (fun (k : Nat) => 7 - k) ?_ 0 (show 0 ≤ 7 from by omega) G (lv_sub hl [0, 1, 2, 3, 4, 5] rfl)
          intro k hk ih_49 H locs ls G hl
          replace hk : k ≤ 7 := hk
          replace G : zS T A s.heap s [[zAr T 0 m_shut 7 g_shut_7], [zAr T 0 m_here 7 g_here_8], [zAr T 0 m_posts 7 g_posts_6], [zO11 mo m_all m_has i_size i_next i_where i_token i_number i_word i_wrong i_farCrossing m_read j_z0_1 j_crossings_2 j_inns_3 m_posts m_shut m_here j_steps_4 j_done_5 i_at i_gone m_was m_came m_seenAt m_rowWorth m_farBy m_used i_everywhere i_again0 i_d0 i_never i_firstCame i_longRun i_moved i_crowd i_l0 i_fitMany i_fitLeast i_fitMost m_fitPost m_fitEnd m_keptPosts i_x0], [zAr T 0 m_all 3952 f_all]] _ _ := G
          replace hl : lv_has ls 6 [(5, .int (nI k)), (4, .int (zLed (zStp f_all j_z0_1 j_inns_3 g_posts_6) (7 : Int32).toNatClampNeg c_)), (0, .ref mo), (1, .int l_), (2, .int c_), (3, .int w_)] := hl
          refine lv_aload_n hx hb dX12_led_49 rfl (lv_at hl 2 rfl) ?_
          refine lv_iload_n hx hb dX12_led_50 rfl (lv_at hl 4 rfl) ?_
          refine lv_iload hx hb dX12_led_51 (lv_at hl 0 rfl) ?_
          have ti_50 : (nI k).toInt = ((k : Nat) : Int) := nI_toInt (by omega)
          refine z_Vi (bc := [[zO11 mo m_all m_has i_size i_next i_where i_token i_number i_word i_wrong i_farCrossing m_read j_z0_1 j_crossings_2 j_inns_3 m_posts m_shut m_here j_steps_4 j_done_5 i_at i_gone m_was m_came m_seenAt m_rowWorth m_farBy m_used i_everywhere i_again0 i_d0 i_never i_firstCame i_longRun i_moved i_crowd i_l0 i_fitMany i_fitLeast i_fitMost m_fitPost m_fitEnd m_keptPosts i_x0], [zAr T 0 m_all 3952 f_all], [zAr T 0 m_posts 7 g_posts_6]]) (br := [[zAr T 0 m_shut 7 g_shut_7], [zAr T 0 m_here 7 g_here_8]]) (As := [.int c_, .int (nI k)]) (rest := []) C G (c_m_ledTo l T mo m_all m_has i_size i_next i_where i_token i_number i_word i_wrong i_farCrossing m_read j_z0_1 j_crossings_2 j_inns_3 m_posts m_shut m_here j_steps_4 j_done_5 i_at i_gone m_was m_came m_seenAt m_rowWorth m_farBy m_used i_everywhere i_again0 i_d0 i_never i_firstCame i_longRun i_moved i_crowd i_l0 i_fitMany i_fitLeast i_fitMost m_fitPost m_fitEnd m_keptPosts i_x0 f_all g_posts_6 c_ (nI k) (by first | with_reducible assumption | with_reducible rfl | omega | assumption | rfl | decide) (by first | with_reducible assumption | with_reducible rfl | omega | assumption | rfl | decide) (by first | with_reducible assumption | with_reducible rfl | omega | assumption | rfl | decide) (by first | with_reducible assumption | with_reducible rfl | omega | assumption | rfl | decide) (by first | with_reducible assumption | with_reducible rfl | omega | assumption | rfl | decide) (by first | with_reducible assumption | with_reducible rfl | omega | assumption | rfl | decide)) (kV_RX12_248 C.2.2.2.2 (Nat.le_of_ble_eq_true rfl) (Nat.le_of_ble_eq_true rfl)) [3, 4, 2] [2, 0, 0] rfl rfl (ci := 11) (qc := (RX12, TX12, 43)) rfl rfl (List.mem_flatten.mpr ⟨_, List.mem_of_getElem? (i := 0) rfl, List.mem_cons_self⟩) rfl rfl hl.1 dX12_led_53 (Nat.le_of_ble_eq_true rfl) (Nat.le_of_ble_eq_true rfl) (fun r_54 b1 H locs hw G => ?_)
          refine zAn4 hw ?_
          intro hbs9 h_51 h_52 h_53
          clear hw
          subst hbs9
          have G : zS T A s.heap s [[zAr T 0 m_shut 7 g_shut_7], [zAr T 0 m_here 7 g_here_8], [zO11 mo m_all m_has i_size i_next i_where i_token i_number i_word i_wrong i_farCrossing m_read j_z0_1 j_crossings_2 j_inns_3 m_posts m_shut m_here j_steps_4 j_done_5 i_at i_gone m_was m_came m_seenAt m_rowWorth m_farBy m_used i_everywhere i_again0 i_d0 i_never i_firstCame i_longRun i_moved i_crowd i_l0 i_fitMany i_fitLeast i_fitMost m_fitPost m_fitEnd m_keptPosts i_x0], [zAr T 0 m_all 3952 f_all], [zAr T 0 m_posts 7 g_posts_6]] _ _ := G
          subst h_51
          refine lv_iload hx hb dX12_led_56 (lv_at hl 1 rfl) ?_
          refine lv_icmp_eq (tgt := 67) hx hb dX12_led_58 (by decide) (fun c_55 => ?_) (fun c_55 => ?_)
          · have c_55n : (zLed (zStp f_all j_z0_1 j_inns_3 g_posts_6) (nI k).toNatClampNeg c_).toInt = (zLed (zStp f_all j_z0_1 j_inns_3 g_posts_6) (7 : Int32).toNatClampNeg c_).toInt := (fa_eq _ _).mp c_55
            refine lv_iload_n hx hb dX12_led_67 rfl (lv_at hl 5 rfl) ?_
            refine lv_if_ne (tgt := 76) hx hb dX12_led_68 (by decide) (fun c_56 => ?_) (fun c_56 => ?_)
            · have c_56n : ¬ w_.toInt = (0 : Int) := fun q => c_56 ((fa_eq _ _).mpr q)
              refine lv_iload_n hx hb dX12_led_76 rfl (lv_at hl 5 rfl) ?_
              refine lv_iconst (v := 1) hx hb dX12_led_77 (by decide) ?_
              refine lv_icmp_ne (tgt := 86) hx hb dX12_led_78 (by decide) (fun c_57 => ?_) (fun c_57 => ?_)
              · have c_57n : ¬ w_.toInt = (1 : Int) := fun q => c_57 ((fa_eq _ _).mpr q)
                refine lv_iconst (v := 0) hx hb dX12_led_86 (by decide) ?_
                have G := G.sub (bs' := [[zO11 mo m_all m_has i_size i_next i_where i_token i_number i_word i_wrong i_farCrossing m_read j_z0_1 j_crossings_2 j_inns_3 m_posts m_shut m_here j_steps_4 j_done_5 i_at i_gone m_was m_came m_seenAt m_rowWorth m_farBy m_used i_everywhere i_again0 i_d0 i_never i_firstCame i_longRun i_moved i_crowd i_l0 i_fitMany i_fitLeast i_fitMost m_fitPost m_fitEnd m_keptPosts i_x0], [zAr T 0 m_all 3952 f_all], [zAr T 0 m_posts 7 g_posts_6], [zAr T 0 m_shut 7 g_shut_7], [zAr T 0 m_here 7 g_here_8]]) [2, 3, 4, 0, 1] rfl
                exact z_back hQz_ (z_iret C hr hlocks G (Nat.le_of_ble_eq_true rfl) (Nat.le_of_ble_eq_true rfl) dX12_led_87 ⟨j_z0_1, j_crossings_2, j_inns_3, j_steps_4, j_done_5, g_posts_6, g_shut_7, g_here_8, rfl⟩)
              · have c_57n : w_.toInt = (1 : Int) := (fa_eq _ _).mp c_57
                refine lv_iload hx hb dX12_led_81 (lv_at hl 1 rfl) ?_
                refine lv_goto (tgt := 87) hx hb dX12_led_83 (by decide) ?_
                have G := G.sub (bs' := [[zO11 mo m_all m_has i_size i_next i_where i_token i_number i_word i_wrong i_farCrossing m_read j_z0_1 j_crossings_2 j_inns_3 m_posts m_shut m_here j_steps_4 j_done_5 i_at i_gone m_was m_came m_seenAt m_rowWorth m_farBy m_used i_everywhere i_again0 i_d0 i_never i_firstCame i_longRun i_moved i_crowd i_l0 i_fitMany i_fitLeast i_fitMost m_fitPost m_fitEnd m_keptPosts i_x0], [zAr T 0 m_all 3952 f_all], [zAr T 0 m_posts 7 g_posts_6], [zAr T 0 m_shut 7 g_shut_7], [zAr T 0 m_here 7 g_here_8]]) [2, 3, 4, 0, 1] rfl
                exact z_back hQz_ (z_iret C hr hlocks G (Nat.le_of_ble_eq_true rfl) (Nat.le_of_ble_eq_true rfl) dX12_led_87 ⟨j_z0_1, j_crossings_2, j_inns_3, j_steps_4, j_done_5, g_posts_6, g_shut_7, g_here_8, rfl⟩)
            · have c_56n : w_.toInt = (0 : Int) := (fa_eq _ _).mp c_56
              refine lv_iload hx hb dX12_led_71 (lv_at hl 0 rfl) ?_
              refine lv_goto (tgt := 87) hx hb dX12_led_73 (by decide) ?_
              have G := G.sub (bs' := [[zO11 mo m_all m_has i_size i_next i_where i_token i_number i_word i_wrong i_farCrossing m_read j_z0_1 j_crossings_2 j_inns_3 m_posts m_shut m_here j_steps_4 j_done_5 i_at i_gone m_was m_came m_seenAt m_rowWorth m_farBy m_used i_everywhere i_again0 i_d0 i_never i_firstCame i_longRun i_moved i_crowd i_l0 i_fitMany i_fitLeast i_fitMost m_fitPost m_fitEnd m_keptPosts i_x0], [zAr T 0 m_all 3952 f_all], [zAr T 0 m_posts 7 g_posts_6], [zAr T 0 m_shut 7 g_shut_7], [zAr T 0 m_here 7 g_here_8]]) [2, 3, 4, 0, 1] rfl
              exact z_back hQz_ (z_iret C hr hlocks G (Nat.le_of_ble_eq_true rfl) (Nat.le_of_ble_eq_true rfl) dX12_led_87 ⟨j_z0_1, j_crossings_2, j_inns_3, j_steps_4, j_done_5, g_posts_6, g_shut_7, g_here_8, rfl⟩)
          · have c_55n : ¬ (zLed (zStp f_all j_z0_1 j_inns_3 g_posts_6) (nI k).toNatClampNeg c_).toInt = (zLed (zStp f_all j_z0_1 j_inns_3 g_posts_6) (7 : Int32).toNatClampNeg c_).toInt := fun q => c_55 ((fa_eq _ _).mpr q)
            have hk7 : ¬ k = 7 := by intro e9; subst e9; exact absurd rfl (by first | with_reducible assumption | assumption)
            refine lv_iinc (v := nI (k + 1)) (lv' := [(5, .int (nI (k + 1))), (4, .int (zLed (zStp f_all j_z0_1 j_inns_3 g_posts_6) (7 : Int32).toNatClampNeg c_)), (0, .ref mo), (1, .int l_), (2, .int c_), (3, .int w_)]) hx hb dX12_led_61 hl (k := 0) rfl (z_inc k 1) (by decide) (zLvf_h rfl) (fun ls hl => ?_)
            refine lv_goto (tgt := 49) hx hb dX12_led_64 (by decide) ?_
            have G := G.sub (bs' := [[zAr T 0 m_shut 7 g_shut_7], [zAr T 0 m_here 7 g_here_8], [zAr T 0 m_posts 7 g_posts_6], [zO11 mo m_all m_has i_size i_next i_where i_token i_number i_word i_wrong i_farCrossing m_read j_z0_1 j_crossings_2 j_inns_3 m_posts m_shut m_here j_steps_4 j_done_5 i_at i_gone m_was m_came m_seenAt m_rowWorth m_farBy m_used i_everywhere i_again0 i_d0 i_never i_firstCame i_longRun i_moved i_crowd i_l0 i_fitMany i_fitLeast i_fitMost m_fitPost m_fitEnd m_keptPosts i_x0], [zAr T 0 m_all 3952 f_all]]) [0, 1, 4, 2, 3] rfl
            exact ih_49 (k + 1) (show (k + 1) ≤ 7 from by omega) (show 7 - (k + 1) < 7 - k from by omega) _ _ ls G (lv_sub hl [0, 1, 2, 3, 4, 5] rfl)
      · have h_33 : (w_.toInt < (0 : Int) ∨ (2 : Int) < w_.toInt) := h_33
        refine lv_if_ne (tgt := 28) hx hb dX12_led_22 (by decide) (fun q => absurd (by decide) q) (fun _ => ?_)
        refine lv_bipush (v := (-2)) hx hb dX12_led_25 (by decide) ?_
        have G := G.sub (bs' := [[zO11 mo m_all m_has i_size i_next i_where i_token i_number i_word i_wrong i_farCrossing m_read j_z0_1 j_crossings_2 j_inns_3 m_posts m_shut m_here j_steps_4 j_done_5 i_at i_gone m_was m_came m_seenAt m_rowWorth m_farBy m_used i_everywhere i_again0 i_d0 i_never i_firstCame i_longRun i_moved i_crowd i_l0 i_fitMany i_fitLeast i_fitMost m_fitPost m_fitEnd m_keptPosts i_x0], [zAr T 0 m_all 3952 f_all], [zAr T 0 m_posts 7 g_posts_6], [zAr T 0 m_shut 7 g_shut_7], [zAr T 0 m_here 7 g_here_8]]) [4, 0, 1, 2, 3] rfl
        exact z_back hQz_ (z_iret C hr hlocks G (Nat.le_of_ble_eq_true rfl) (Nat.le_of_ble_eq_true rfl) dX12_led_27 ⟨j_z0_1, j_crossings_2, j_inns_3, j_steps_4, j_done_5, g_posts_6, g_shut_7, g_here_8, rfl⟩)
    · have h_28 : (c_.toInt < 0 ∨ j_crossings_2.toInt ≤ c_.toInt) := h_28
      refine lv_if_eq (tgt := 25) hx hb dX12_led_13 (by decide) (fun _ => ?_) (fun q => absurd (by decide) q)
      refine lv_bipush (v := (-2)) hx hb dX12_led_25 (by decide) ?_
      have G := G.sub (bs' := [[zO11 mo m_all m_has i_size i_next i_where i_token i_number i_word i_wrong i_farCrossing m_read j_z0_1 j_crossings_2 j_inns_3 m_posts m_shut m_here j_steps_4 j_done_5 i_at i_gone m_was m_came m_seenAt m_rowWorth m_farBy m_used i_everywhere i_again0 i_d0 i_never i_firstCame i_longRun i_moved i_crowd i_l0 i_fitMany i_fitLeast i_fitMost m_fitPost m_fitEnd m_keptPosts i_x0], [zAr T 0 m_all 3952 f_all], [zAr T 0 m_posts 7 g_posts_6], [zAr T 0 m_shut 7 g_shut_7], [zAr T 0 m_here 7 g_here_8]]) [4, 0, 1, 2, 3] rfl
      exact z_back hQz_ (z_iret C hr hlocks G (Nat.le_of_ble_eq_true rfl) (Nat.le_of_ble_eq_true rfl) dX12_led_27 ⟨j_z0_1, j_crossings_2, j_inns_3, j_steps_4, j_done_5, g_posts_6, g_shut_7, g_here_8, rfl⟩)
  · have h_23 : (l_.toInt < 0 ∨ (f_all 0).toInt ≤ l_.toInt) := h_23
    refine lv_if_eq (tgt := 25) hx hb dX12_led_5 (by decide) (fun _ => ?_) (fun q => absurd (by decide) q)
    refine lv_bipush (v := (-2)) hx hb dX12_led_25 (by decide) ?_
    exact z_back hQz_ (z_iret C hr hlocks G (Nat.le_of_ble_eq_true rfl) (Nat.le_of_ble_eq_true rfl) dX12_led_27 ⟨j_z0_1, j_crossings_2, j_inns_3, j_steps_4, j_done_5, g_posts_6, g_shut_7, g_here_8, rfl⟩)
set_option maxHeartbeats 4000000 in
set_option maxRecDepth 100000 in
/-- c_m_gameBy -/
theorem c_m_gameBy (l : Launch) (T : zTy) (mo : Nat) (m_all : Nat) (m_has : Nat) (i_size : Int32) (i_next : Int32) (i_where : Int32) (i_token : Int32) (i_number : Int32) (i_word : Int32) (i_wrong : Int32) (i_farCrossing : Int32) (m_read : Nat) (i_z0 : Int32) (i_crossings : Int32) (i_inns : Int32) (m_posts : Nat) (m_shut : Nat) (m_here : Nat) (i_steps : Int32) (i_done : Int32) (i_at : Int32) (i_gone : Int32) (m_was : Nat) (m_came : Nat) (m_seenAt : Nat) (m_rowWorth : Nat) (m_farBy : Nat) (m_used : Nat) (i_everywhere : Int32) (i_again0 : Int32) (i_d0 : Int32) (i_never : Int32) (i_firstCame : Int32) (i_longRun : Int32) (i_moved : Int32) (i_crowd : Int32) (i_l0 : Int32) (i_fitMany : Int32) (i_fitLeast : Int32) (i_fitMost : Int32) (m_fitPost : Nat) (m_fitEnd : Nat) (m_keptPosts : Nat) (i_x0 : Int32) (f_all : Nat → Int32) (f_posts : Nat → Int32) (f_shut : Nat → Int32) (f_here : Nat → Int32) (f_was : Nat → Int32) (w_ : Int32) (n_ : Int32) (c_ : Int32) (hL : zML f_all i_z0 i_crossings) (hP : zMP f_posts) (hc0 : 0 ≤ c_.toInt) (hc6 : c_.toInt ≤ 6) (hn0 : 0 ≤ n_.toInt) (hn3 : n_.toInt ≤ 3) : zMi l T yX12_gameBy cX12_gameBy 6 (some .int) 5 0 0 [.ref mo, .int w_, .int n_, .int c_] [[zO11 mo m_all m_has i_size i_next i_where i_token i_number i_word i_wrong i_farCrossing m_read i_z0 i_crossings i_inns m_posts m_shut m_here i_steps i_done i_at i_gone m_was m_came m_seenAt m_rowWorth m_farBy m_used i_everywhere i_again0 i_d0 i_never i_firstCame i_longRun i_moved i_crowd i_l0 i_fitMany i_fitLeast i_fitMost m_fitPost m_fitEnd m_keptPosts i_x0], [zAr T 0 m_all 3952 f_all], [zAr T 0 m_posts 7 f_posts], [zAr T 0 m_shut 7 f_shut], [zAr T 0 m_here 7 f_here], [zAr T 0 m_was 7 f_was]] (fun (r : Int32) bs => ∃ (j_at : Int32) (j_gone : Int32) (j_steps : Int32) (j_done : Int32) (g_posts : Nat → Int32) (g_shut : Nat → Int32) (g_here : Nat → Int32) (g_was : Nat → Int32), bs = [[zO11 mo m_all m_has i_size i_next i_where i_token i_number i_word i_wrong i_farCrossing m_read i_z0 i_crossings i_inns m_posts m_shut m_here j_steps j_done j_at j_gone m_was m_came m_seenAt m_rowWorth m_farBy m_used i_everywhere i_again0 i_d0 i_never i_firstCame i_longRun i_moved i_crowd i_l0 i_fitMany i_fitLeast i_fitMost m_fitPost m_fitEnd m_keptPosts i_x0], [zAr T 0 m_all 3952 f_all], [zAr T 0 m_posts 7 g_posts], [zAr T 0 m_shut 7 g_shut], [zAr T 0 m_here 7 g_here], [zAr T 0 m_was 7 g_was]] ∧ zMP g_posts) := by
  refine zMi_of (own := RX12) (by decide) rfl (Nat.le_of_ble_eq_true rfl) ?_
  intro p e s m args below meth c A ls C hr hlocks hnm hAe G hl
  refine zHide (fun Qz_ hQz_ => ?_)
  have hx := C.1
  have hb := C.2.1
  have hl : lv_has ls 6 [(0, .ref mo), (1, .int w_), (2, .int n_), (3, .int c_)] := hl
  have hz := hL.1
  have hcr := hL.cr
  refine lv_aload_n hx hb dX12_gameBy_0 rfl (lv_at hl 0 rfl) ?_
  refine z_Vv (bc := [[zO11 mo m_all m_has i_size i_next i_where i_token i_number i_word i_wrong i_farCrossing m_read i_z0 i_crossings i_inns m_posts m_shut m_here i_steps i_done i_at i_gone m_was m_came m_seenAt m_rowWorth m_farBy m_used i_everywhere i_again0 i_d0 i_never i_firstCame i_longRun i_moved i_crowd i_l0 i_fitMany i_fitLeast i_fitMost m_fitPost m_fitEnd m_keptPosts i_x0], [zAr T 0 m_all 3952 f_all], [zAr T 0 m_posts 7 f_posts], [zAr T 0 m_shut 7 f_shut], [zAr T 0 m_here 7 f_here]]) (br := [[zAr T 0 m_was 7 f_was]]) (As := []) (rest := []) C G (c_m_begins l T mo m_all m_has i_size i_next i_where i_token i_number i_word i_wrong i_farCrossing m_read i_z0 i_crossings i_inns m_posts m_shut m_here i_steps i_done i_at i_gone m_was m_came m_seenAt m_rowWorth m_farBy m_used i_everywhere i_again0 i_d0 i_never i_firstCame i_longRun i_moved i_crowd i_l0 i_fitMany i_fitLeast i_fitMost m_fitPost m_fitEnd m_keptPosts i_x0 f_all f_posts f_shut f_here (by first | with_reducible assumption | with_reducible rfl | omega | assumption | rfl | decide)) (kV_RX12_175 C.2.2.2.2 (Nat.le_of_ble_eq_true rfl) (Nat.le_of_ble_eq_true rfl)) [0, 1, 2, 3, 4] [0, 0, 0, 0, 0] rfl rfl (ci := 11) (qc := (RX12, TX12, 43)) rfl rfl (List.mem_flatten.mpr ⟨_, List.mem_of_getElem? (i := 0) rfl, List.mem_cons_self⟩) rfl rfl hl.1 dX12_gameBy_1 (Nat.le_of_ble_eq_true rfl) (Nat.le_of_ble_eq_true rfl) (fun b1 H locs hw G => ?_)
  refine zEx5 hw ?_
  intro j_steps_1 j_done_2 g_posts_3 g_shut_4 g_here_5
  refine zCu7 ?_
  intro hbs9 h_6 h_7 h_8 h_9 h_10 h_11
  clear hw
  subst hbs9
  have G : zS T A s.heap s [[zAr T 0 m_was 7 f_was], [zO11 mo m_all m_has i_size i_next i_where i_token i_number i_word i_wrong i_farCrossing m_read i_z0 i_crossings i_inns m_posts m_shut m_here j_steps_1 j_done_2 i_at i_gone m_was m_came m_seenAt m_rowWorth m_farBy m_used i_everywhere i_again0 i_d0 i_never i_firstCame i_longRun i_moved i_crowd i_l0 i_fitMany i_fitLeast i_fitMost m_fitPost m_fitEnd m_keptPosts i_x0], [zAr T 0 m_all 3952 f_all], [zAr T 0 m_posts 7 g_posts_3], [zAr T 0 m_shut 7 g_shut_4], [zAr T 0 m_here 7 g_here_5]] _ _ := G
  refine lv_iload_n hx hb dX12_gameBy_4 rfl (lv_at hl 2 rfl) ?_
  refine lv_iconst (v := 1) hx hb dX12_gameBy_5 (by decide) ?_
  refine lv_isub hx hb dX12_gameBy_6 ?_
  refine lv_topi (fun y_13 ey_13 => ?_)
  have ey_13i : y_13.toInt = n_.toInt - (1 : Int) := by rw [ey_13]; exact z_isubI (x := n_) (y := (1 : Int32)) (by show -2147483648 ≤ n_.toInt - (1 : Int); omega) (by show n_.toInt - (1 : Int) < 2147483648; omega)
  refine lv_istore (lv' := [(4, .int y_13), (0, .ref mo), (1, .int w_), (2, .int n_), (3, .int c_)]) hx hb dX12_gameBy_7 hl (by decide) (zLvf_h rfl) (fun ls hl => ?_)
  refine z_lp2 (T := T) 9 (fun (k9 : Int32) (xposts : Nat → Int32) => [[zAr T 0 m_was 7 f_was], [zO11 mo m_all m_has i_size i_next i_where i_token i_number i_word i_wrong i_farCrossing m_read i_z0 i_crossings i_inns m_posts m_shut m_here j_steps_1 j_done_2 i_at i_gone m_was m_came m_seenAt m_rowWorth m_farBy m_used i_everywhere i_again0 i_d0 i_never i_firstCame i_longRun i_moved i_crowd i_l0 i_fitMany i_fitLeast i_fitMost m_fitPost m_fitEnd m_keptPosts i_x0], [zAr T 0 m_all 3952 f_all], [zAr T 0 m_posts 7 xposts], [zAr T 0 m_shut 7 g_shut_4], [zAr T 0 m_here 7 g_here_5]]) (fun (k9 : Int32) (xposts : Nat → Int32) => [(4, .int k9), (0, .ref mo), (1, .int w_), (2, .int n_), (3, .int c_)]) (fun (k9 : Int32) (xposts : Nat → Int32) => -1 ≤ k9.toInt ∧ k9.toInt ≤ 2 ∧ zMP xposts) (fun (k9 : Int32) (xposts : Nat → Int32) => (k9.toInt + 1).toNat) ?_ y_13 g_posts_3 (show -1 ≤ y_13.toInt ∧ y_13.toInt ≤ 2 ∧ zMP g_posts_3 from ⟨by omega, by omega, (by first | with_reducible assumption | assumption)⟩) G (lv_sub hl [0, 1, 2, 3, 4] rfl)
  intro k9 xposts hI9 ih_9 H locs ls G hl
  replace hI9 : -1 ≤ k9.toInt ∧ k9.toInt ≤ 2 ∧ zMP xposts := hI9
  refine zAn3 hI9 ?_
  intro hk1 hk2 hQ
  clear hI9
  replace G : zS T A s.heap s [[zAr T 0 m_was 7 f_was], [zO11 mo m_all m_has i_size i_next i_where i_token i_number i_word i_wrong i_farCrossing m_read i_z0 i_crossings i_inns m_posts m_shut m_here j_steps_1 j_done_2 i_at i_gone m_was m_came m_seenAt m_rowWorth m_farBy m_used i_everywhere i_again0 i_d0 i_never i_firstCame i_longRun i_moved i_crowd i_l0 i_fitMany i_fitLeast i_fitMost m_fitPost m_fitEnd m_keptPosts i_x0], [zAr T 0 m_all 3952 f_all], [zAr T 0 m_posts 7 xposts], [zAr T 0 m_shut 7 g_shut_4], [zAr T 0 m_here 7 g_here_5]] _ _ := G
  replace hl : lv_has ls 6 [(4, .int k9), (0, .ref mo), (1, .int w_), (2, .int n_), (3, .int c_)] := hl
  refine lv_iload hx hb dX12_gameBy_9 (lv_at hl 0 rfl) ?_
  refine lv_if_lt (tgt := 68) hx hb dX12_gameBy_11 (by decide) (fun c_14 => ?_) (fun c_14 => ?_)
  · have c_14n : k9.toInt < (0 : Int) := (fa_lt _ _).mp c_14
    refine lv_aload_n hx hb dX12_gameBy_68 rfl (lv_at hl 1 rfl) ?_
    refine lv_iload_n hx hb dX12_gameBy_69 rfl (lv_at hl 4 rfl) ?_
    refine z_Vi (bc := [[zO11 mo m_all m_has i_size i_next i_where i_token i_number i_word i_wrong i_farCrossing m_read i_z0 i_crossings i_inns m_posts m_shut m_here j_steps_1 j_done_2 i_at i_gone m_was m_came m_seenAt m_rowWorth m_farBy m_used i_everywhere i_again0 i_d0 i_never i_firstCame i_longRun i_moved i_crowd i_l0 i_fitMany i_fitLeast i_fitMost m_fitPost m_fitEnd m_keptPosts i_x0], [zAr T 0 m_all 3952 f_all], [zAr T 0 m_posts 7 xposts], [zAr T 0 m_shut 7 g_shut_4], [zAr T 0 m_was 7 f_was]]) (br := [[zAr T 0 m_here 7 g_here_5]]) (As := [.int c_]) (rest := []) C G (c_m_walks l T mo m_all m_has i_size i_next i_where i_token i_number i_word i_wrong i_farCrossing m_read i_z0 i_crossings i_inns m_posts m_shut m_here j_steps_1 j_done_2 i_at i_gone m_was m_came m_seenAt m_rowWorth m_farBy m_used i_everywhere i_again0 i_d0 i_never i_firstCame i_longRun i_moved i_crowd i_l0 i_fitMany i_fitLeast i_fitMost m_fitPost m_fitEnd m_keptPosts i_x0 f_all xposts g_shut_4 f_was c_ (by first | with_reducible assumption | with_reducible rfl | omega | assumption | rfl | decide) (by first | with_reducible assumption | with_reducible rfl | omega | assumption | rfl | decide) (by first | with_reducible assumption | with_reducible rfl | omega | assumption | rfl | decide) (by first | with_reducible assumption | with_reducible rfl | omega | assumption | rfl | decide)) (kV_RX12_217 C.2.2.2.2 (Nat.le_of_ble_eq_true rfl) (Nat.le_of_ble_eq_true rfl)) [1, 2, 3, 4, 0] [0, 0, 0, 0, 0] rfl rfl (ci := 11) (qc := (RX12, TX12, 43)) rfl rfl (List.mem_flatten.mpr ⟨_, List.mem_of_getElem? (i := 0) rfl, List.mem_cons_self⟩) rfl rfl hl.1 dX12_gameBy_70 (Nat.le_of_ble_eq_true rfl) (Nat.le_of_ble_eq_true rfl) (fun r_25 b1 H locs hw G => ?_)
    refine zEx4 hw ?_
    intro j_at_15 j_gone_16 g_posts_17 g_was_18
    refine zCu7 ?_
    intro hbs9 h_19 h_20 h_21 h_22 h_23 h_24
    clear hw
    subst hbs9
    have G : zS T A s.heap s [[zAr T 0 m_here 7 g_here_5], [zO11 mo m_all m_has i_size i_next i_where i_token i_number i_word i_wrong i_farCrossing m_read i_z0 i_crossings i_inns m_posts m_shut m_here j_steps_1 j_done_2 j_at_15 j_gone_16 m_was m_came m_seenAt m_rowWorth m_farBy m_used i_everywhere i_again0 i_d0 i_never i_firstCame i_longRun i_moved i_crowd i_l0 i_fitMany i_fitLeast i_fitMost m_fitPost m_fitEnd m_keptPosts i_x0], [zAr T 0 m_all 3952 f_all], [zAr T 0 m_posts 7 g_posts_17], [zAr T 0 m_shut 7 g_shut_4], [zAr T 0 m_was 7 g_was_18]] _ _ := G
    replace h_19 : zHd ((r_25 = 0 ∨ r_25 = 1)) := h_19
    refine lv_if_eq (tgt := 83) hx hb dX12_gameBy_73 (by decide) (fun c_26 => ?_) (fun c_26 => ?_)
    · have c_26n : r_25.toInt = (0 : Int) := (fa_eq _ _).mp c_26
      refine lv_sipush (v := 500) hx hb dX12_gameBy_83 (by decide) ?_
      have G := G.sub (bs' := [[zO11 mo m_all m_has i_size i_next i_where i_token i_number i_word i_wrong i_farCrossing m_read i_z0 i_crossings i_inns m_posts m_shut m_here j_steps_1 j_done_2 j_at_15 j_gone_16 m_was m_came m_seenAt m_rowWorth m_farBy m_used i_everywhere i_again0 i_d0 i_never i_firstCame i_longRun i_moved i_crowd i_l0 i_fitMany i_fitLeast i_fitMost m_fitPost m_fitEnd m_keptPosts i_x0], [zAr T 0 m_all 3952 f_all], [zAr T 0 m_posts 7 g_posts_17], [zAr T 0 m_shut 7 g_shut_4], [zAr T 0 m_here 7 g_here_5], [zAr T 0 m_was 7 g_was_18]]) [1, 2, 3, 4, 0, 5] rfl
      exact z_back hQz_ (z_iret C hr hlocks G (Nat.le_of_ble_eq_true rfl) (Nat.le_of_ble_eq_true rfl) dX12_gameBy_86 ⟨j_at_15, j_gone_16, j_steps_1, j_done_2, g_posts_17, g_shut_4, g_here_5, g_was_18, rfl, (by first | with_reducible assumption | omega | trivial | assumption)⟩)
    · have c_26n : ¬ r_25.toInt = (0 : Int) := fun q => c_26 ((fa_eq _ _).mpr q)
      refine lv_aload_n hx hb dX12_gameBy_76 rfl (lv_at hl 1 rfl) ?_
      refine z_get C G clX12 1 rfl 20 (by decide) m_fl_RX12_208 rfl dX12_gameBy_77 ?_
      refine lv_goto (tgt := 86) hx hb dX12_gameBy_80 (by decide) ?_
      have G := G.sub (bs' := [[zO11 mo m_all m_has i_size i_next i_where i_token i_number i_word i_wrong i_farCrossing m_read i_z0 i_crossings i_inns m_posts m_shut m_here j_steps_1 j_done_2 j_at_15 j_gone_16 m_was m_came m_seenAt m_rowWorth m_farBy m_used i_everywhere i_again0 i_d0 i_never i_firstCame i_longRun i_moved i_crowd i_l0 i_fitMany i_fitLeast i_fitMost m_fitPost m_fitEnd m_keptPosts i_x0], [zAr T 0 m_all 3952 f_all], [zAr T 0 m_posts 7 g_posts_17], [zAr T 0 m_shut 7 g_shut_4], [zAr T 0 m_here 7 g_here_5], [zAr T 0 m_was 7 g_was_18]]) [1, 2, 3, 4, 0, 5] rfl
      exact z_back hQz_ (z_iret C hr hlocks G (Nat.le_of_ble_eq_true rfl) (Nat.le_of_ble_eq_true rfl) dX12_gameBy_86 ⟨j_at_15, j_gone_16, j_steps_1, j_done_2, g_posts_17, g_shut_4, g_here_5, g_was_18, rfl, (by first | with_reducible assumption | omega | trivial | assumption)⟩)
  · have c_14n : ¬ k9.toInt < (0 : Int) := fun q => c_14 ((fa_lt _ _).mpr q)
    refine lv_iload_n hx hb dX12_gameBy_14 rfl (lv_at hl 2 rfl) ?_
    refine lv_iconst (v := 3) hx hb dX12_gameBy_15 (by decide) ?_
    refine lv_iload hx hb dX12_gameBy_16 (lv_at hl 0 rfl) ?_
    refine lv_imul hx hb dX12_gameBy_18 ?_
    refine lv_ishr hx hb dX12_gameBy_19 ?_
    refine lv_bipush (v := 7) hx hb dX12_gameBy_20 (by decide) ?_
    refine lv_iand hx hb dX12_gameBy_22 ?_
    refine lv_istore (lv' := [(5, .int ((w_ >>> ((3 * k9) &&& 31)) &&& 7)), (4, .int k9), (0, .ref mo), (1, .int w_), (2, .int n_), (3, .int c_)]) hx hb dX12_gameBy_23 hl (by decide) (zLvf_h rfl) (fun ls hl => ?_)
    refine lv_iload hx hb dX12_gameBy_25 (lv_at hl 0 rfl) ?_
    refine lv_bipush (v := 7) hx hb dX12_gameBy_27 (by decide) ?_
    refine lv_icmp_ne (tgt := 35) hx hb dX12_gameBy_29 (by decide) (fun c_27 => ?_) (fun c_27 => ?_)
    · have c_27n : ¬ ((w_ >>> ((3 * k9) &&& 31)) &&& 7).toInt = (7 : Int) := fun q => c_27 ((fa_eq _ _).mpr q)
      refine lv_aload_n hx hb dX12_gameBy_35 rfl (lv_at hl 2 rfl) ?_
      refine lv_iload hx hb dX12_gameBy_36 (lv_at hl 0 rfl) ?_
      refine z_Vi (bc := [[zO11 mo m_all m_has i_size i_next i_where i_token i_number i_word i_wrong i_farCrossing m_read i_z0 i_crossings i_inns m_posts m_shut m_here j_steps_1 j_done_2 i_at i_gone m_was m_came m_seenAt m_rowWorth m_farBy m_used i_everywhere i_again0 i_d0 i_never i_firstCame i_longRun i_moved i_crowd i_l0 i_fitMany i_fitLeast i_fitMost m_fitPost m_fitEnd m_keptPosts i_x0]]) (br := [[zAr T 0 m_was 7 f_was], [zAr T 0 m_all 3952 f_all], [zAr T 0 m_posts 7 xposts], [zAr T 0 m_shut 7 g_shut_4], [zAr T 0 m_here 7 g_here_5]]) (As := [.int ((w_ >>> ((3 * k9) &&& 31)) &&& 7)]) (rest := []) C G (c_m_isCrossing l T mo m_all m_has i_size i_next i_where i_token i_number i_word i_wrong i_farCrossing m_read i_z0 i_crossings i_inns m_posts m_shut m_here j_steps_1 j_done_2 i_at i_gone m_was m_came m_seenAt m_rowWorth m_farBy m_used i_everywhere i_again0 i_d0 i_never i_firstCame i_longRun i_moved i_crowd i_l0 i_fitMany i_fitLeast i_fitMost m_fitPost m_fitEnd m_keptPosts i_x0 ((w_ >>> ((3 * k9) &&& 31)) &&& 7) (by first | with_reducible assumption | with_reducible rfl | omega | assumption | rfl | decide)) (kV_RX12_187 C.2.2.2.2 (Nat.le_of_ble_eq_true rfl) (Nat.le_of_ble_eq_true rfl)) [1] [1] rfl rfl (ci := 11) (qc := (RX12, TX12, 43)) rfl rfl (List.mem_flatten.mpr ⟨_, List.mem_of_getElem? (i := 0) rfl, List.mem_cons_self⟩) rfl rfl hl.1 dX12_gameBy_38 (Nat.le_of_ble_eq_true rfl) (Nat.le_of_ble_eq_true rfl) (fun r_29 b1 H locs hw G => ?_)
      refine zAn2 hw ?_
      intro hbs9 hc_28
      clear hw
      subst hbs9
      have G : zS T A s.heap s [[zAr T 0 m_was 7 f_was], [zAr T 0 m_all 3952 f_all], [zAr T 0 m_posts 7 xposts], [zAr T 0 m_shut 7 g_shut_4], [zAr T 0 m_here 7 g_here_5], [zO11 mo m_all m_has i_size i_next i_where i_token i_number i_word i_wrong i_farCrossing m_read i_z0 i_crossings i_inns m_posts m_shut m_here j_steps_1 j_done_2 i_at i_gone m_was m_came m_seenAt m_rowWorth m_farBy m_used i_everywhere i_again0 i_d0 i_never i_firstCame i_longRun i_moved i_crowd i_l0 i_fitMany i_fitLeast i_fitMost m_fitPost m_fitEnd m_keptPosts i_x0]] _ _ := G
      rcases hc_28 with ⟨rfl, h_30, h_31⟩ | ⟨rfl, h_32⟩
      · have h_30 : 0 ≤ ((w_ >>> ((3 * k9) &&& 31)) &&& 7).toInt := h_30
        have h_31 : ((w_ >>> ((3 * k9) &&& 31)) &&& 7).toInt < i_crossings.toInt := h_31
        refine lv_if_eq (tgt := 53) hx hb dX12_gameBy_41 (by decide) (fun q => absurd q (by decide)) (fun _ => ?_)
        refine lv_aload_n hx hb dX12_gameBy_44 rfl (lv_at hl 2 rfl) ?_
        refine lv_iload hx hb dX12_gameBy_45 (lv_at hl 0 rfl) ?_
        refine z_Vi (bc := [[zO11 mo m_all m_has i_size i_next i_where i_token i_number i_word i_wrong i_farCrossing m_read i_z0 i_crossings i_inns m_posts m_shut m_here j_steps_1 j_done_2 i_at i_gone m_was m_came m_seenAt m_rowWorth m_farBy m_used i_everywhere i_again0 i_d0 i_never i_firstCame i_longRun i_moved i_crowd i_l0 i_fitMany i_fitLeast i_fitMost m_fitPost m_fitEnd m_keptPosts i_x0], [zAr T 0 m_all 3952 f_all]]) (br := [[zAr T 0 m_was 7 f_was], [zAr T 0 m_posts 7 xposts], [zAr T 0 m_shut 7 g_shut_4], [zAr T 0 m_here 7 g_here_5]]) (As := [.int ((w_ >>> ((3 * k9) &&& 31)) &&& 7)]) (rest := []) C G (c_m_isFree l T mo m_all m_has i_size i_next i_where i_token i_number i_word i_wrong i_farCrossing m_read i_z0 i_crossings i_inns m_posts m_shut m_here j_steps_1 j_done_2 i_at i_gone m_was m_came m_seenAt m_rowWorth m_farBy m_used i_everywhere i_again0 i_d0 i_never i_firstCame i_longRun i_moved i_crowd i_l0 i_fitMany i_fitLeast i_fitMost m_fitPost m_fitEnd m_keptPosts i_x0 f_all ((w_ >>> ((3 * k9) &&& 31)) &&& 7) (by first | with_reducible assumption | with_reducible rfl | omega | assumption | rfl | decide) (by first | with_reducible assumption | with_reducible rfl | omega | assumption | rfl | decide) (by first | with_reducible assumption | with_reducible rfl | omega | assumption | rfl | decide)) (kV_RX12_223 C.2.2.2.2 (Nat.le_of_ble_eq_true rfl) (Nat.le_of_ble_eq_true rfl)) [5, 1] [1, 3] rfl rfl (ci := 11) (qc := (RX12, TX12, 43)) rfl rfl (List.mem_flatten.mpr ⟨_, List.mem_of_getElem? (i := 0) rfl, List.mem_cons_self⟩) rfl rfl hl.1 dX12_gameBy_47 (Nat.le_of_ble_eq_true rfl) (Nat.le_of_ble_eq_true rfl) (fun r_34 b1 H locs hw G => ?_)
        refine zAn2 hw ?_
        intro hbs9 hc_33
        clear hw
        subst hbs9
        have G : zS T A s.heap s [[zAr T 0 m_was 7 f_was], [zAr T 0 m_posts 7 xposts], [zAr T 0 m_shut 7 g_shut_4], [zAr T 0 m_here 7 g_here_5], [zO11 mo m_all m_has i_size i_next i_where i_token i_number i_word i_wrong i_farCrossing m_read i_z0 i_crossings i_inns m_posts m_shut m_here j_steps_1 j_done_2 i_at i_gone m_was m_came m_seenAt m_rowWorth m_farBy m_used i_everywhere i_again0 i_d0 i_never i_firstCame i_longRun i_moved i_crowd i_l0 i_fitMany i_fitLeast i_fitMost m_fitPost m_fitEnd m_keptPosts i_x0], [zAr T 0 m_all 3952 f_all]] _ _ := G
        rcases hc_33 with ⟨rfl, h_35, h_36⟩ | ⟨rfl, h_37⟩
        · have h_35 : ¬ zInn i_inns ((w_ >>> ((3 * k9) &&& 31)) &&& 7) := h_35
          have h_36 : 0 < (zRd f_all i_z0 ((w_ >>> ((3 * k9) &&& 31)) &&& 7)).toInt := h_36
          refine lv_if_ne (tgt := 55) hx hb dX12_gameBy_50 (by decide) (fun _ => ?_) (fun q => absurd q (by decide))
          refine lv_aload_n hx hb dX12_gameBy_55 rfl (lv_at hl 2 rfl) ?_
          refine lv_iload hx hb dX12_gameBy_56 (lv_at hl 0 rfl) ?_
          refine z_Vi (bc := [[zO11 mo m_all m_has i_size i_next i_where i_token i_number i_word i_wrong i_farCrossing m_read i_z0 i_crossings i_inns m_posts m_shut m_here j_steps_1 j_done_2 i_at i_gone m_was m_came m_seenAt m_rowWorth m_farBy m_used i_everywhere i_again0 i_d0 i_never i_firstCame i_longRun i_moved i_crowd i_l0 i_fitMany i_fitLeast i_fitMost m_fitPost m_fitEnd m_keptPosts i_x0], [zAr T 0 m_all 3952 f_all], [zAr T 0 m_posts 7 xposts], [zAr T 0 m_shut 7 g_shut_4]]) (br := [[zAr T 0 m_was 7 f_was], [zAr T 0 m_here 7 g_here_5]]) (As := [.int ((w_ >>> ((3 * k9) &&& 31)) &&& 7)]) (rest := []) C G (c_m_turns l T mo m_all m_has i_size i_next i_where i_token i_number i_word i_wrong i_farCrossing m_read i_z0 i_crossings i_inns m_posts m_shut m_here j_steps_1 j_done_2 i_at i_gone m_was m_came m_seenAt m_rowWorth m_farBy m_used i_everywhere i_again0 i_d0 i_never i_firstCame i_longRun i_moved i_crowd i_l0 i_fitMany i_fitLeast i_fitMost m_fitPost m_fitEnd m_keptPosts i_x0 f_all xposts g_shut_4 ((w_ >>> ((3 * k9) &&& 31)) &&& 7) (by first | with_reducible assumption | with_reducible rfl | omega | assumption | rfl | decide) (by first | with_reducible assumption | with_reducible rfl | omega | assumption | rfl | decide) (by first | with_reducible assumption | with_reducible rfl | omega | assumption | rfl | decide) (by first | with_reducible assumption | with_reducible rfl | omega | assumption | rfl | decide)) (kV_RX12_205 C.2.2.2.2 (Nat.le_of_ble_eq_true rfl) (Nat.le_of_ble_eq_true rfl)) [4, 5, 1, 2] [1, 0, 1, 0] rfl rfl (ci := 11) (qc := (RX12, TX12, 43)) rfl rfl (List.mem_flatten.mpr ⟨_, List.mem_of_getElem? (i := 0) rfl, List.mem_cons_self⟩) rfl rfl hl.1 dX12_gameBy_58 (Nat.le_of_ble_eq_true rfl) (Nat.le_of_ble_eq_true rfl) (fun r_41 b1 H locs hw G => ?_)
          refine zEx1 hw ?_
          intro g_posts_38
          refine zCu3 ?_
          intro hbs9 h_39 hc_40
          clear hw
          subst hbs9
          have G : zS T A s.heap s [[zAr T 0 m_was 7 f_was], [zAr T 0 m_here 7 g_here_5], [zO11 mo m_all m_has i_size i_next i_where i_token i_number i_word i_wrong i_farCrossing m_read i_z0 i_crossings i_inns m_posts m_shut m_here j_steps_1 j_done_2 i_at i_gone m_was m_came m_seenAt m_rowWorth m_farBy m_used i_everywhere i_again0 i_d0 i_never i_firstCame i_longRun i_moved i_crowd i_l0 i_fitMany i_fitLeast i_fitMost m_fitPost m_fitEnd m_keptPosts i_x0], [zAr T 0 m_all 3952 f_all], [zAr T 0 m_posts 7 g_posts_38], [zAr T 0 m_shut 7 g_shut_4]] _ _ := G
          rcases hc_40 with ⟨rfl, h_42⟩ | rfl
          · have h_42 : 0 < (zRd f_all i_z0 ((w_ >>> ((3 * k9) &&& 31)) &&& 7)).toInt := h_42
            refine lv_pop hx hb dX12_gameBy_61 rfl ?_
            obtain ⟨y_43, ey_43⟩ : ∃ q : Int32, q = k9 + (-1) := ⟨_, rfl⟩
            have ey_43i : y_43.toInt = k9.toInt - 1 := by rw [ey_43]; exact z_iaddI (x := k9) (y := (-1)) (by show -2147483648 ≤ k9.toInt + (-1 : Int); omega) (by show k9.toInt + (-1 : Int) < 2147483648; omega)
            refine lv_iinc (v := y_43) (lv' := [(4, .int y_43), (5, .int ((w_ >>> ((3 * k9) &&& 31)) &&& 7)), (0, .ref mo), (1, .int w_), (2, .int n_), (3, .int c_)]) hx hb dX12_gameBy_62 hl (k := 1) rfl ey_43.symm (by decide) (zLvf_h rfl) (fun ls hl => ?_)
            refine lv_goto (tgt := 9) hx hb dX12_gameBy_65 (by decide) ?_
            have G := G.sub (bs' := [[zAr T 0 m_was 7 f_was], [zO11 mo m_all m_has i_size i_next i_where i_token i_number i_word i_wrong i_farCrossing m_read i_z0 i_crossings i_inns m_posts m_shut m_here j_steps_1 j_done_2 i_at i_gone m_was m_came m_seenAt m_rowWorth m_farBy m_used i_everywhere i_again0 i_d0 i_never i_firstCame i_longRun i_moved i_crowd i_l0 i_fitMany i_fitLeast i_fitMost m_fitPost m_fitEnd m_keptPosts i_x0], [zAr T 0 m_all 3952 f_all], [zAr T 0 m_posts 7 g_posts_38], [zAr T 0 m_shut 7 g_shut_4], [zAr T 0 m_here 7 g_here_5]]) [0, 2, 3, 4, 5, 1] rfl
            exact ih_9 y_43 g_posts_38 (show -1 ≤ y_43.toInt ∧ y_43.toInt ≤ 2 ∧ zMP g_posts_38 from ⟨by omega, by omega, (by first | with_reducible assumption | assumption)⟩) (show (y_43.toInt + 1).toNat < (k9.toInt + 1).toNat from by omega) _ _ ls G (lv_sub hl [0, 2, 3, 4, 5] rfl)
          · refine lv_pop hx hb dX12_gameBy_61 rfl ?_
            obtain ⟨y_44, ey_44⟩ : ∃ q : Int32, q = k9 + (-1) := ⟨_, rfl⟩
            have ey_44i : y_44.toInt = k9.toInt - 1 := by rw [ey_44]; exact z_iaddI (x := k9) (y := (-1)) (by show -2147483648 ≤ k9.toInt + (-1 : Int); omega) (by show k9.toInt + (-1 : Int) < 2147483648; omega)
            refine lv_iinc (v := y_44) (lv' := [(4, .int y_44), (5, .int ((w_ >>> ((3 * k9) &&& 31)) &&& 7)), (0, .ref mo), (1, .int w_), (2, .int n_), (3, .int c_)]) hx hb dX12_gameBy_62 hl (k := 1) rfl ey_44.symm (by decide) (zLvf_h rfl) (fun ls hl => ?_)
            refine lv_goto (tgt := 9) hx hb dX12_gameBy_65 (by decide) ?_
            have G := G.sub (bs' := [[zAr T 0 m_was 7 f_was], [zO11 mo m_all m_has i_size i_next i_where i_token i_number i_word i_wrong i_farCrossing m_read i_z0 i_crossings i_inns m_posts m_shut m_here j_steps_1 j_done_2 i_at i_gone m_was m_came m_seenAt m_rowWorth m_farBy m_used i_everywhere i_again0 i_d0 i_never i_firstCame i_longRun i_moved i_crowd i_l0 i_fitMany i_fitLeast i_fitMost m_fitPost m_fitEnd m_keptPosts i_x0], [zAr T 0 m_all 3952 f_all], [zAr T 0 m_posts 7 g_posts_38], [zAr T 0 m_shut 7 g_shut_4], [zAr T 0 m_here 7 g_here_5]]) [0, 2, 3, 4, 5, 1] rfl
            exact ih_9 y_44 g_posts_38 (show -1 ≤ y_44.toInt ∧ y_44.toInt ≤ 2 ∧ zMP g_posts_38 from ⟨by omega, by omega, (by first | with_reducible assumption | assumption)⟩) (show (y_44.toInt + 1).toNat < (k9.toInt + 1).toNat from by omega) _ _ ls G (lv_sub hl [0, 2, 3, 4, 5] rfl)
        · have h_37 : (zInn i_inns ((w_ >>> ((3 * k9) &&& 31)) &&& 7) ∨ (zRd f_all i_z0 ((w_ >>> ((3 * k9) &&& 31)) &&& 7)).toInt ≤ 0) := h_37
          refine lv_if_ne (tgt := 55) hx hb dX12_gameBy_50 (by decide) (fun q => absurd (by decide) q) (fun _ => ?_)
          refine lv_iconst (v := (-1)) hx hb dX12_gameBy_53 (by decide) ?_
          have G := G.sub (bs' := [[zO11 mo m_all m_has i_size i_next i_where i_token i_number i_word i_wrong i_farCrossing m_read i_z0 i_crossings i_inns m_posts m_shut m_here j_steps_1 j_done_2 i_at i_gone m_was m_came m_seenAt m_rowWorth m_farBy m_used i_everywhere i_again0 i_d0 i_never i_firstCame i_longRun i_moved i_crowd i_l0 i_fitMany i_fitLeast i_fitMost m_fitPost m_fitEnd m_keptPosts i_x0], [zAr T 0 m_all 3952 f_all], [zAr T 0 m_posts 7 xposts], [zAr T 0 m_shut 7 g_shut_4], [zAr T 0 m_here 7 g_here_5], [zAr T 0 m_was 7 f_was]]) [4, 5, 1, 2, 3, 0] rfl
          exact z_back hQz_ (z_iret C hr hlocks G (Nat.le_of_ble_eq_true rfl) (Nat.le_of_ble_eq_true rfl) dX12_gameBy_54 ⟨i_at, i_gone, j_steps_1, j_done_2, xposts, g_shut_4, g_here_5, f_was, rfl, (by first | with_reducible assumption | omega | trivial | assumption)⟩)
      · have h_32 : (((w_ >>> ((3 * k9) &&& 31)) &&& 7).toInt < 0 ∨ i_crossings.toInt ≤ ((w_ >>> ((3 * k9) &&& 31)) &&& 7).toInt) := h_32
        refine lv_if_eq (tgt := 53) hx hb dX12_gameBy_41 (by decide) (fun _ => ?_) (fun q => absurd (by decide) q)
        refine lv_iconst (v := (-1)) hx hb dX12_gameBy_53 (by decide) ?_
        have G := G.sub (bs' := [[zO11 mo m_all m_has i_size i_next i_where i_token i_number i_word i_wrong i_farCrossing m_read i_z0 i_crossings i_inns m_posts m_shut m_here j_steps_1 j_done_2 i_at i_gone m_was m_came m_seenAt m_rowWorth m_farBy m_used i_everywhere i_again0 i_d0 i_never i_firstCame i_longRun i_moved i_crowd i_l0 i_fitMany i_fitLeast i_fitMost m_fitPost m_fitEnd m_keptPosts i_x0], [zAr T 0 m_all 3952 f_all], [zAr T 0 m_posts 7 xposts], [zAr T 0 m_shut 7 g_shut_4], [zAr T 0 m_here 7 g_here_5], [zAr T 0 m_was 7 f_was]]) [5, 1, 2, 3, 4, 0] rfl
        exact z_back hQz_ (z_iret C hr hlocks G (Nat.le_of_ble_eq_true rfl) (Nat.le_of_ble_eq_true rfl) dX12_gameBy_54 ⟨i_at, i_gone, j_steps_1, j_done_2, xposts, g_shut_4, g_here_5, f_was, rfl, (by first | with_reducible assumption | omega | trivial | assumption)⟩)
    · have c_27n : ((w_ >>> ((3 * k9) &&& 31)) &&& 7).toInt = (7 : Int) := (fa_eq _ _).mp c_27
      refine lv_goto (tgt := 62) hx hb dX12_gameBy_32 (by decide) ?_
      obtain ⟨y_45, ey_45⟩ : ∃ q : Int32, q = k9 + (-1) := ⟨_, rfl⟩
      have ey_45i : y_45.toInt = k9.toInt - 1 := by rw [ey_45]; exact z_iaddI (x := k9) (y := (-1)) (by show -2147483648 ≤ k9.toInt + (-1 : Int); omega) (by show k9.toInt + (-1 : Int) < 2147483648; omega)
      refine lv_iinc (v := y_45) (lv' := [(4, .int y_45), (5, .int ((w_ >>> ((3 * k9) &&& 31)) &&& 7)), (0, .ref mo), (1, .int w_), (2, .int n_), (3, .int c_)]) hx hb dX12_gameBy_62 hl (k := 1) rfl ey_45.symm (by decide) (zLvf_h rfl) (fun ls hl => ?_)
      refine lv_goto (tgt := 9) hx hb dX12_gameBy_65 (by decide) ?_
      exact ih_9 y_45 xposts (show -1 ≤ y_45.toInt ∧ y_45.toInt ≤ 2 ∧ zMP xposts from ⟨by omega, by omega, (by first | with_reducible assumption | assumption)⟩) (show (y_45.toInt + 1).toNat < (k9.toInt + 1).toNat from by omega) _ _ ls G (lv_sub hl [0, 2, 3, 4, 5] rfl)
set_option maxHeartbeats 4000000 in
set_option maxRecDepth 100000 in
/-- c_m_game -/
theorem c_m_game (l : Launch) (T : zTy) (mo : Nat) (m_all : Nat) (m_has : Nat) (i_size : Int32) (i_next : Int32) (i_where : Int32) (i_token : Int32) (i_number : Int32) (i_word : Int32) (i_wrong : Int32) (i_farCrossing : Int32) (m_read : Nat) (i_z0 : Int32) (i_crossings : Int32) (i_inns : Int32) (m_posts : Nat) (m_shut : Nat) (m_here : Nat) (i_steps : Int32) (i_done : Int32) (i_at : Int32) (i_gone : Int32) (m_was : Nat) (m_came : Nat) (m_seenAt : Nat) (m_rowWorth : Nat) (m_farBy : Nat) (m_used : Nat) (i_everywhere : Int32) (i_again0 : Int32) (i_d0 : Int32) (i_never : Int32) (i_firstCame : Int32) (i_longRun : Int32) (i_moved : Int32) (i_crowd : Int32) (i_l0 : Int32) (i_fitMany : Int32) (i_fitLeast : Int32) (i_fitMost : Int32) (m_fitPost : Nat) (m_fitEnd : Nat) (m_keptPosts : Nat) (i_x0 : Int32) (f_all : Nat → Int32) (f_posts : Nat → Int32) (f_shut : Nat → Int32) (f_here : Nat → Int32) (f_was : Nat → Int32) (f_rowWorth : Nat → Int32) (l_ : Int32) (c_ : Int32) (n_ : Int32) (f_ : Int32) (hB : zBI f_all) : zMi l T yX12_game cX12_game 11 (some .int) 6 0 0 [.ref mo, .int l_, .int c_, .int n_, .int f_] [[zO11 mo m_all m_has i_size i_next i_where i_token i_number i_word i_wrong i_farCrossing m_read i_z0 i_crossings i_inns m_posts m_shut m_here i_steps i_done i_at i_gone m_was m_came m_seenAt m_rowWorth m_farBy m_used i_everywhere i_again0 i_d0 i_never i_firstCame i_longRun i_moved i_crowd i_l0 i_fitMany i_fitLeast i_fitMost m_fitPost m_fitEnd m_keptPosts i_x0], [zAr T 0 m_all 3952 f_all], [zAr T 0 m_posts 7 f_posts], [zAr T 0 m_shut 7 f_shut], [zAr T 0 m_here 7 f_here], [zAr T 0 m_was 7 f_was], [zAr T 0 m_rowWorth 512 f_rowWorth]] (fun (r : Int32) bs => ∃ (j_z0 : Int32) (j_crossings : Int32) (j_inns : Int32) (j_steps : Int32) (j_done : Int32) (j_at : Int32) (j_gone : Int32) (g_posts : Nat → Int32) (g_shut : Nat → Int32) (g_here : Nat → Int32) (g_was : Nat → Int32) (g_rowWorth : Nat → Int32), bs = [[zO11 mo m_all m_has i_size i_next i_where i_token i_number i_word i_wrong i_farCrossing m_read j_z0 j_crossings j_inns m_posts m_shut m_here j_steps j_done j_at j_gone m_was m_came m_seenAt m_rowWorth m_farBy m_used i_everywhere i_again0 i_d0 i_never i_firstCame i_longRun i_moved i_crowd i_l0 i_fitMany i_fitLeast i_fitMost m_fitPost m_fitEnd m_keptPosts i_x0], [zAr T 0 m_all 3952 f_all], [zAr T 0 m_posts 7 g_posts], [zAr T 0 m_shut 7 g_shut], [zAr T 0 m_here 7 g_here], [zAr T 0 m_was 7 g_was], [zAr T 0 m_rowWorth 512 g_rowWorth]]) := by
  refine zMi_of (own := RX12) (by decide) rfl (Nat.le_of_ble_eq_true rfl) ?_
  intro p e s m args below meth c A ls C hr hlocks hnm hAe G hl
  refine zHide (fun Qz_ hQz_ => ?_)
  have hx := C.1
  have hb := C.2.1
  have hl : lv_has ls 11 [(0, .ref mo), (1, .int l_), (2, .int c_), (3, .int n_), (4, .int f_)] := hl
  refine lv_aload_n hx hb dX12_game_0 rfl (lv_at hl 0 rfl) ?_
  refine lv_iload_n hx hb dX12_game_1 rfl (lv_at hl 1 rfl) ?_
  refine z_Vi (bc := [[zO11 mo m_all m_has i_size i_next i_where i_token i_number i_word i_wrong i_farCrossing m_read i_z0 i_crossings i_inns m_posts m_shut m_here i_steps i_done i_at i_gone m_was m_came m_seenAt m_rowWorth m_farBy m_used i_everywhere i_again0 i_d0 i_never i_firstCame i_longRun i_moved i_crowd i_l0 i_fitMany i_fitLeast i_fitMost m_fitPost m_fitEnd m_keptPosts i_x0], [zAr T 0 m_all 3952 f_all], [zAr T 0 m_posts 7 f_posts], [zAr T 0 m_shut 7 f_shut], [zAr T 0 m_here 7 f_here]]) (br := [[zAr T 0 m_was 7 f_was], [zAr T 0 m_rowWorth 512 f_rowWorth]]) (As := [.int l_]) (rest := []) C G (c_m_isLand l T mo m_all m_has i_size i_next i_where i_token i_number i_word i_wrong i_farCrossing m_read i_z0 i_crossings i_inns m_posts m_shut m_here i_steps i_done i_at i_gone m_was m_came m_seenAt m_rowWorth m_farBy m_used i_everywhere i_again0 i_d0 i_never i_firstCame i_longRun i_moved i_crowd i_l0 i_fitMany i_fitLeast i_fitMost m_fitPost m_fitEnd m_keptPosts i_x0 f_all f_posts f_shut f_here l_ (by first | with_reducible assumption | with_reducible rfl | omega | assumption | rfl | decide)) (kV_RX12_184 C.2.2.2.2 (Nat.le_of_ble_eq_true rfl) (Nat.le_of_ble_eq_true rfl)) [0, 1, 2, 3, 4] [0, 0, 0, 0, 0] rfl rfl (ci := 11) (qc := (RX12, TX12, 43)) rfl rfl (List.mem_flatten.mpr ⟨_, List.mem_of_getElem? (i := 0) rfl, List.mem_cons_self⟩) rfl rfl hl.1 dX12_game_2 (Nat.le_of_ble_eq_true rfl) (Nat.le_of_ble_eq_true rfl) (fun r_10 b1 H locs hw G => ?_)
  refine zEx8 hw ?_
  intro j_z0_1 j_crossings_2 j_inns_3 j_steps_4 j_done_5 g_posts_6 g_shut_7 g_here_8
  refine zCu2 ?_
  intro hbs9 hc_9
  clear hw
  subst hbs9
  have G : zS T A s.heap s [[zAr T 0 m_was 7 f_was], [zAr T 0 m_rowWorth 512 f_rowWorth], [zO11 mo m_all m_has i_size i_next i_where i_token i_number i_word i_wrong i_farCrossing m_read j_z0_1 j_crossings_2 j_inns_3 m_posts m_shut m_here j_steps_4 j_done_5 i_at i_gone m_was m_came m_seenAt m_rowWorth m_farBy m_used i_everywhere i_again0 i_d0 i_never i_firstCame i_longRun i_moved i_crowd i_l0 i_fitMany i_fitLeast i_fitMost m_fitPost m_fitEnd m_keptPosts i_x0], [zAr T 0 m_all 3952 f_all], [zAr T 0 m_posts 7 g_posts_6], [zAr T 0 m_shut 7 g_shut_7], [zAr T 0 m_here 7 g_here_8]] _ _ := G
  rcases hc_9 with ⟨rfl, h_11, h_12, h_13, h_14, h_15, h_16, h_17, h_18, h_19, h_20, h_21, h_22⟩ | ⟨rfl, h_23⟩
  · have h_11 : 0 ≤ l_.toInt := h_11
    have h_12 : l_.toInt ≤ 1 := h_12
    have h_13 : l_.toInt < (f_all 0).toInt := h_13
    have h_14 : j_z0_1.toInt = 610 + 51 * l_.toInt := h_14
    have h_15 : zML f_all j_z0_1 j_crossings_2 := h_15
    have h_16 : zMP g_posts_6 := h_16
    have h_17 : j_inns_3 = f_all (j_z0_1.toInt.toNat + 1) := h_17
    have h_18 : j_steps_4 = 0 := h_18
    have h_19 : j_done_5 = 0 := h_19
    have h_20 : (∀ j, j < 7 → g_posts_6 j = zPt f_all j_z0_1 (nI j)) := h_20
    have h_21 : (∀ j, j < 7 → g_shut_7 j = 0) := h_21
    have h_22 : (∀ j, j < 7 → g_here_8 j = zWk f_all j_z0_1 j) := h_22
    have hLx := h_15
    have hcr := hLx.cr
    have hzx := hLx.1
    have hPx := h_16
    refine lv_if_eq (tgt := 25) hx hb dX12_game_5 (by decide) (fun q => absurd q (by decide)) (fun _ => ?_)
    refine lv_aload_n hx hb dX12_game_8 rfl (lv_at hl 0 rfl) ?_
    refine lv_iload_n hx hb dX12_game_9 rfl (lv_at hl 2 rfl) ?_
    refine z_Vi (bc := [[zO11 mo m_all m_has i_size i_next i_where i_token i_number i_word i_wrong i_farCrossing m_read j_z0_1 j_crossings_2 j_inns_3 m_posts m_shut m_here j_steps_4 j_done_5 i_at i_gone m_was m_came m_seenAt m_rowWorth m_farBy m_used i_everywhere i_again0 i_d0 i_never i_firstCame i_longRun i_moved i_crowd i_l0 i_fitMany i_fitLeast i_fitMost m_fitPost m_fitEnd m_keptPosts i_x0]]) (br := [[zAr T 0 m_was 7 f_was], [zAr T 0 m_rowWorth 512 f_rowWorth], [zAr T 0 m_all 3952 f_all], [zAr T 0 m_posts 7 g_posts_6], [zAr T 0 m_shut 7 g_shut_7], [zAr T 0 m_here 7 g_here_8]]) (As := [.int c_]) (rest := []) C G (c_m_isCrossing l T mo m_all m_has i_size i_next i_where i_token i_number i_word i_wrong i_farCrossing m_read j_z0_1 j_crossings_2 j_inns_3 m_posts m_shut m_here j_steps_4 j_done_5 i_at i_gone m_was m_came m_seenAt m_rowWorth m_farBy m_used i_everywhere i_again0 i_d0 i_never i_firstCame i_longRun i_moved i_crowd i_l0 i_fitMany i_fitLeast i_fitMost m_fitPost m_fitEnd m_keptPosts i_x0 c_ (by first | with_reducible assumption | with_reducible rfl | omega | assumption | rfl | decide)) (kV_RX12_187 C.2.2.2.2 (Nat.le_of_ble_eq_true rfl) (Nat.le_of_ble_eq_true rfl)) [2] [2] rfl rfl (ci := 11) (qc := (RX12, TX12, 43)) rfl rfl (List.mem_flatten.mpr ⟨_, List.mem_of_getElem? (i := 0) rfl, List.mem_cons_self⟩) rfl rfl hl.1 dX12_game_10 (Nat.le_of_ble_eq_true rfl) (Nat.le_of_ble_eq_true rfl) (fun r_25 b1 H locs hw G => ?_)
    refine zAn2 hw ?_
    intro hbs9 hc_24
    clear hw
    subst hbs9
    have G : zS T A s.heap s [[zAr T 0 m_was 7 f_was], [zAr T 0 m_rowWorth 512 f_rowWorth], [zAr T 0 m_all 3952 f_all], [zAr T 0 m_posts 7 g_posts_6], [zAr T 0 m_shut 7 g_shut_7], [zAr T 0 m_here 7 g_here_8], [zO11 mo m_all m_has i_size i_next i_where i_token i_number i_word i_wrong i_farCrossing m_read j_z0_1 j_crossings_2 j_inns_3 m_posts m_shut m_here j_steps_4 j_done_5 i_at i_gone m_was m_came m_seenAt m_rowWorth m_farBy m_used i_everywhere i_again0 i_d0 i_never i_firstCame i_longRun i_moved i_crowd i_l0 i_fitMany i_fitLeast i_fitMost m_fitPost m_fitEnd m_keptPosts i_x0]] _ _ := G
    rcases hc_24 with ⟨rfl, h_26, h_27⟩ | ⟨rfl, h_28⟩
    · have h_26 : 0 ≤ c_.toInt := h_26
      have h_27 : c_.toInt < j_crossings_2.toInt := h_27
      refine lv_if_eq (tgt := 25) hx hb dX12_game_13 (by decide) (fun q => absurd q (by decide)) (fun _ => ?_)
      refine lv_iload_n hx hb dX12_game_16 rfl (lv_at hl 3 rfl) ?_
      refine lv_iconst (v := 0) hx hb dX12_game_17 (by decide) ?_
      refine lv_iconst (v := 3) hx hb dX12_game_18 (by decide) ?_
      refine z_Si (bc := []) (br := [[zAr T 0 m_was 7 f_was], [zAr T 0 m_rowWorth 512 f_rowWorth], [zAr T 0 m_all 3952 f_all], [zAr T 0 m_posts 7 g_posts_6], [zAr T 0 m_shut 7 g_shut_7], [zAr T 0 m_here 7 g_here_8], [zO11 mo m_all m_has i_size i_next i_where i_token i_number i_word i_wrong i_farCrossing m_read j_z0_1 j_crossings_2 j_inns_3 m_posts m_shut m_here j_steps_4 j_done_5 i_at i_gone m_was m_came m_seenAt m_rowWorth m_farBy m_used i_everywhere i_again0 i_d0 i_never i_firstCame i_longRun i_moved i_crowd i_l0 i_fitMany i_fitLeast i_fitMost m_fitPost m_fitEnd m_keptPosts i_x0]]) (As := [.int n_, .int 0, .int 3]) (rest := []) C G (c_m_isIn l T n_ 0 3) (kS_RX12_111 C.2.2.2.2 (Nat.le_of_ble_eq_true rfl) (Nat.le_of_ble_eq_true rfl)) [] [] rfl rfl rfl rfl hl.1 dX12_game_19 (Nat.le_of_ble_eq_true rfl) (Nat.le_of_ble_eq_true rfl) (fun r_30 b1 H locs hw G => ?_)
      refine zAn2 hw ?_
      intro hbs9 hc_29
      clear hw
      subst hbs9
      have G : zS T A s.heap s [[zAr T 0 m_was 7 f_was], [zAr T 0 m_rowWorth 512 f_rowWorth], [zAr T 0 m_all 3952 f_all], [zAr T 0 m_posts 7 g_posts_6], [zAr T 0 m_shut 7 g_shut_7], [zAr T 0 m_here 7 g_here_8], [zO11 mo m_all m_has i_size i_next i_where i_token i_number i_word i_wrong i_farCrossing m_read j_z0_1 j_crossings_2 j_inns_3 m_posts m_shut m_here j_steps_4 j_done_5 i_at i_gone m_was m_came m_seenAt m_rowWorth m_farBy m_used i_everywhere i_again0 i_d0 i_never i_firstCame i_longRun i_moved i_crowd i_l0 i_fitMany i_fitLeast i_fitMost m_fitPost m_fitEnd m_keptPosts i_x0]] _ _ := G
      rcases hc_29 with ⟨rfl, h_31, h_32⟩ | ⟨rfl, h_33⟩
      · have h_31 : (0 : Int) ≤ n_.toInt := h_31
        have h_32 : n_.toInt ≤ (3 : Int) := h_32
        refine lv_if_ne (tgt := 28) hx hb dX12_game_22 (by decide) (fun _ => ?_) (fun q => absurd q (by decide))
        rcases (show n_.toInt = 0 ∨ n_.toInt = 1 ∨ n_.toInt = 2 ∨ n_.toInt = 3 from by omega) with hn | hn | hn | hn
        · obtain rfl : n_ = 0 := Int32.toInt_inj.mp hn
          refine lv_iconst (v := 1) hx hb dX12_game_28 (by decide) ?_
          refine lv_iconst (v := 3) hx hb dX12_game_29 (by decide) ?_
          refine lv_iload_n hx hb dX12_game_30 rfl (lv_at hl 3 rfl) ?_
          refine lv_imul hx hb dX12_game_31 ?_
          refine lv_topi (fun y_34 ey_34 => ?_)
          obtain rfl : y_34 = 0 := ey_34.trans (by decide)
          refine lv_ishl hx hb dX12_game_32 ?_
          refine lv_topi (fun y_35 ey_35 => ?_)
          obtain rfl : y_35 = 1 := ey_35.trans (by decide)
          refine lv_istore (lv' := [(5, .int 1), (0, .ref mo), (1, .int l_), (2, .int c_), (3, .int 0), (4, .int f_)]) hx hb dX12_game_33 hl (by decide) (zLvf_h rfl) (fun ls hl => ?_)
          refine lv_iconst (v := 0) hx hb dX12_game_35 (by decide) ?_
          refine lv_istore (lv' := [(6, .int 0), (5, .int 1), (0, .ref mo), (1, .int l_), (2, .int c_), (3, .int 0), (4, .int f_)]) hx hb dX12_game_36 hl (by decide) (zLvf_h rfl) (fun ls hl => ?_)
          refine z_lp10 (T := T) 38 (fun (w : Nat) (xat : Int32) (xgone : Int32) (xsteps : Int32) (xdone : Int32) (xposts : Nat → Int32) (xshut : Nat → Int32) (xhere : Nat → Int32) (xwas : Nat → Int32) (xrowWorth : Nat → Int32) => [[zAr T 0 m_was 7 xwas], [zAr T 0 m_rowWorth 512 xrowWorth], [zAr T 0 m_all 3952 f_all], [zAr T 0 m_posts 7 xposts], [zAr T 0 m_shut 7 xshut], [zAr T 0 m_here 7 xhere], [zO11 mo m_all m_has i_size i_next i_where i_token i_number i_word i_wrong i_farCrossing m_read j_z0_1 j_crossings_2 j_inns_3 m_posts m_shut m_here xsteps xdone xat xgone m_was m_came m_seenAt m_rowWorth m_farBy m_used i_everywhere i_again0 i_d0 i_never i_firstCame i_longRun i_moved i_crowd i_l0 i_fitMany i_fitLeast i_fitMost m_fitPost m_fitEnd m_keptPosts i_x0]]) (fun (w : Nat) (xat : Int32) (xgone : Int32) (xsteps : Int32) (xdone : Int32) (xposts : Nat → Int32) (xshut : Nat → Int32) (xhere : Nat → Int32) (xwas : Nat → Int32) (xrowWorth : Nat → Int32) => [(6, .int (nI w)), (5, .int 1), (0, .ref mo), (1, .int l_), (2, .int c_), (3, .int 0), (4, .int f_)]) (fun (w : Nat) (xat : Int32) (xgone : Int32) (xsteps : Int32) (xdone : Int32) (xposts : Nat → Int32) (xshut : Nat → Int32) (xhere : Nat → Int32) (xwas : Nat → Int32) (xrowWorth : Nat → Int32) => w ≤ 1 ∧ zMP xposts) (fun (w : Nat) (xat : Int32) (xgone : Int32) (xsteps : Int32) (xdone : Int32) (xposts : Nat → Int32) (xshut : Nat → Int32) (xhere : Nat → Int32) (xwas : Nat → Int32) (xrowWorth : Nat → Int32) => 1 - w) ?_ 0 i_at i_gone j_steps_4 j_done_5 g_posts_6 g_shut_7 g_here_8 f_was f_rowWorth (show 0 ≤ 1 ∧ zMP g_posts_6 from ⟨by omega, (by first | with_reducible assumption | assumption)⟩) G (lv_sub hl [0, 1, 2, 3, 4, 5, 6] rfl)
          intro w xat xgone xsteps xdone xposts xshut xhere xwas xrowWorth hI9 ih_38 H locs ls G hl
          replace hI9 : w ≤ 1 ∧ zMP xposts := hI9
          refine zAn2 hI9 ?_
          intro hww hQ
          clear hI9
          replace G : zS T A s.heap s [[zAr T 0 m_was 7 xwas], [zAr T 0 m_rowWorth 512 xrowWorth], [zAr T 0 m_all 3952 f_all], [zAr T 0 m_posts 7 xposts], [zAr T 0 m_shut 7 xshut], [zAr T 0 m_here 7 xhere], [zO11 mo m_all m_has i_size i_next i_where i_token i_number i_word i_wrong i_farCrossing m_read j_z0_1 j_crossings_2 j_inns_3 m_posts m_shut m_here xsteps xdone xat xgone m_was m_came m_seenAt m_rowWorth m_farBy m_used i_everywhere i_again0 i_d0 i_never i_firstCame i_longRun i_moved i_crowd i_l0 i_fitMany i_fitLeast i_fitMost m_fitPost m_fitEnd m_keptPosts i_x0]] _ _ := G
          replace hl : lv_has ls 11 [(6, .int (nI w)), (5, .int 1), (0, .ref mo), (1, .int l_), (2, .int c_), (3, .int 0), (4, .int f_)] := hl
          refine lv_iload hx hb dX12_game_38 (lv_at hl 0 rfl) ?_
          refine lv_iload hx hb dX12_game_40 (lv_at hl 1 rfl) ?_
          refine lv_icmp_ge (tgt := 66) hx hb dX12_game_42 (by decide) (fun c_36 => ?_) (fun c_36 => ?_)
          · have c_36n : 1 ≤ w := (nI_leI (a := 1) (b := w) (by omega) (by omega)).mp c_36
            refine lv_iconst (v := (-1)) hx hb dX12_game_66 (by decide) ?_
            refine lv_istore (lv' := [(6, .int (-1)), (5, .int 1), (0, .ref mo), (1, .int l_), (2, .int c_), (3, .int 0), (4, .int f_)]) hx hb dX12_game_67 hl (by decide) (zLvf_h rfl) (fun ls hl => ?_)
            refine lv_iload_n hx hb dX12_game_69 rfl (lv_at hl 5 rfl) ?_
            refine lv_iconst (v := 1) hx hb dX12_game_70 (by decide) ?_
            refine lv_isub hx hb dX12_game_71 ?_
            refine lv_topi (fun y_37 ey_37 => ?_)
            obtain rfl : y_37 = (-1) := ey_37.trans (by decide)
            refine lv_istore (lv' := [(7, .int (-1)), (6, .int (-1)), (5, .int 1), (0, .ref mo), (1, .int l_), (2, .int c_), (3, .int 0), (4, .int f_)]) hx hb dX12_game_72 hl (by decide) (zLvf_h rfl) (fun ls hl => ?_)
            refine lv_iload hx hb dX12_game_74 (lv_at hl 0 rfl) ?_
            refine lv_if_lt (tgt := 237) hx hb dX12_game_76 (by decide) (fun _ => ?_) (fun q => absurd (by decide) q)
            refine lv_iload hx hb dX12_game_237 (lv_at hl 7 rfl) ?_
            refine lv_if_ne (tgt := 251) hx hb dX12_game_239 (by decide) (fun c_38 => ?_) (fun c_38 => ?_)
            · have c_38n : ¬ f_.toInt = (0 : Int) := fun q => c_38 ((fa_eq _ _).mpr q)
              refine lv_iload hx hb dX12_game_251 (lv_at hl 1 rfl) ?_
              have G := G.sub (bs' := [[zO11 mo m_all m_has i_size i_next i_where i_token i_number i_word i_wrong i_farCrossing m_read j_z0_1 j_crossings_2 j_inns_3 m_posts m_shut m_here xsteps xdone xat xgone m_was m_came m_seenAt m_rowWorth m_farBy m_used i_everywhere i_again0 i_d0 i_never i_firstCame i_longRun i_moved i_crowd i_l0 i_fitMany i_fitLeast i_fitMost m_fitPost m_fitEnd m_keptPosts i_x0], [zAr T 0 m_all 3952 f_all], [zAr T 0 m_posts 7 xposts], [zAr T 0 m_shut 7 xshut], [zAr T 0 m_here 7 xhere], [zAr T 0 m_was 7 xwas], [zAr T 0 m_rowWorth 512 xrowWorth]]) [6, 2, 3, 4, 5, 0, 1] rfl
              exact z_back hQz_ (z_iret C hr hlocks G (Nat.le_of_ble_eq_true rfl) (Nat.le_of_ble_eq_true rfl) dX12_game_253 ⟨j_z0_1, j_crossings_2, j_inns_3, xsteps, xdone, xat, xgone, xposts, xshut, xhere, xwas, xrowWorth, rfl⟩)
            · have c_38n : f_.toInt = (0 : Int) := (fa_eq _ _).mp c_38
              refine lv_aload_n hx hb dX12_game_242 rfl (lv_at hl 3 rfl) ?_
              refine z_get C G clX12 6 rfl 24 (by decide) m_fl_RX12_38 rfl dX12_game_243 ?_
              refine lv_iconst (v := 0) hx hb dX12_game_246 (by decide) ?_
              refine z_ild C G 1 rfl (vp_in_nI (n := 0) (by decide) (by decide)) dX12_game_247 ?_
              refine lv_topi (fun v_39 ev_39 => ?_)
              rw [show ((0 : Int32).toNatClampNeg) = 0 from rfl] at ev_39
              subst ev_39
              refine lv_goto (tgt := 253) hx hb dX12_game_248 (by decide) ?_
              have G := G.sub (bs' := [[zO11 mo m_all m_has i_size i_next i_where i_token i_number i_word i_wrong i_farCrossing m_read j_z0_1 j_crossings_2 j_inns_3 m_posts m_shut m_here xsteps xdone xat xgone m_was m_came m_seenAt m_rowWorth m_farBy m_used i_everywhere i_again0 i_d0 i_never i_firstCame i_longRun i_moved i_crowd i_l0 i_fitMany i_fitLeast i_fitMost m_fitPost m_fitEnd m_keptPosts i_x0], [zAr T 0 m_all 3952 f_all], [zAr T 0 m_posts 7 xposts], [zAr T 0 m_shut 7 xshut], [zAr T 0 m_here 7 xhere], [zAr T 0 m_was 7 xwas], [zAr T 0 m_rowWorth 512 xrowWorth]]) [6, 2, 3, 4, 5, 0, 1] rfl
              exact z_back hQz_ (z_iret C hr hlocks G (Nat.le_of_ble_eq_true rfl) (Nat.le_of_ble_eq_true rfl) dX12_game_253 ⟨j_z0_1, j_crossings_2, j_inns_3, xsteps, xdone, xat, xgone, xposts, xshut, xhere, xwas, xrowWorth, rfl⟩)
          · have c_36n : ¬ 1 ≤ w := fun q => c_36 ((nI_leI (a := 1) (b := w) (by omega) (by omega)).mpr q)
            refine lv_aload_n hx hb dX12_game_45 rfl (lv_at hl 2 rfl) ?_
            refine z_get C G clX12 6 rfl 24 (by decide) m_fl_RX12_38 rfl dX12_game_46 ?_
            refine lv_iload hx hb dX12_game_49 (lv_at hl 0 rfl) ?_
            refine lv_aload_n hx hb dX12_game_51 rfl (lv_at hl 2 rfl) ?_
            refine lv_iload hx hb dX12_game_52 (lv_at hl 0 rfl) ?_
            refine lv_iload_n hx hb dX12_game_54 rfl (lv_at hl 5 rfl) ?_
            refine lv_iload_n hx hb dX12_game_55 rfl (lv_at hl 4 rfl) ?_
            have ti_40 : (nI w).toInt = ((w : Nat) : Int) := nI_toInt (by omega)
            refine z_Vi (bc := [[zO11 mo m_all m_has i_size i_next i_where i_token i_number i_word i_wrong i_farCrossing m_read j_z0_1 j_crossings_2 j_inns_3 m_posts m_shut m_here xsteps xdone xat xgone m_was m_came m_seenAt m_rowWorth m_farBy m_used i_everywhere i_again0 i_d0 i_never i_firstCame i_longRun i_moved i_crowd i_l0 i_fitMany i_fitLeast i_fitMost m_fitPost m_fitEnd m_keptPosts i_x0], [zAr T 0 m_all 3952 f_all], [zAr T 0 m_posts 7 xposts], [zAr T 0 m_shut 7 xshut], [zAr T 0 m_here 7 xhere], [zAr T 0 m_was 7 xwas]]) (br := [[zAr T 0 m_rowWorth 512 xrowWorth]]) (As := [.int (nI w), .int 0, .int c_]) (rest := [.int (nI w), .ref m_rowWorth]) C G (c_m_gameBy l T mo m_all m_has i_size i_next i_where i_token i_number i_word i_wrong i_farCrossing m_read j_z0_1 j_crossings_2 j_inns_3 m_posts m_shut m_here xsteps xdone xat xgone m_was m_came m_seenAt m_rowWorth m_farBy m_used i_everywhere i_again0 i_d0 i_never i_firstCame i_longRun i_moved i_crowd i_l0 i_fitMany i_fitLeast i_fitMost m_fitPost m_fitEnd m_keptPosts i_x0 f_all xposts xshut xhere xwas (nI w) 0 c_ (by first | with_reducible assumption | with_reducible rfl | omega | assumption | rfl | decide) (by first | with_reducible assumption | with_reducible rfl | omega | assumption | rfl | decide) (by first | with_reducible assumption | with_reducible rfl | omega | assumption | rfl | decide) (by first | with_reducible assumption | with_reducible rfl | omega | assumption | rfl | decide) (by first | with_reducible assumption | with_reducible rfl | omega | assumption | rfl | decide) (by first | with_reducible assumption | with_reducible rfl | omega | assumption | rfl | decide)) (kV_RX12_251 C.2.2.2.2 (Nat.le_of_ble_eq_true rfl) (Nat.le_of_ble_eq_true rfl)) [6, 2, 3, 4, 5, 0] [0, 1, 0, 0, 0, 0] rfl rfl (ci := 11) (qc := (RX12, TX12, 43)) rfl rfl (List.mem_flatten.mpr ⟨_, List.mem_of_getElem? (i := 0) rfl, List.mem_cons_self⟩) rfl rfl hl.1 dX12_game_56 (Nat.le_of_ble_eq_true rfl) (Nat.le_of_ble_eq_true rfl) (fun r_50 b1 H locs hw G => ?_)
            refine zEx8 hw ?_
            intro j_at_41 j_gone_42 j_steps_43 j_done_44 g_posts_45 g_shut_46 g_here_47 g_was_48
            refine zCu2 ?_
            intro hbs9 h_49
            clear hw
            subst hbs9
            have G : zS T A s.heap s [[zAr T 0 m_rowWorth 512 xrowWorth], [zO11 mo m_all m_has i_size i_next i_where i_token i_number i_word i_wrong i_farCrossing m_read j_z0_1 j_crossings_2 j_inns_3 m_posts m_shut m_here j_steps_43 j_done_44 j_at_41 j_gone_42 m_was m_came m_seenAt m_rowWorth m_farBy m_used i_everywhere i_again0 i_d0 i_never i_firstCame i_longRun i_moved i_crowd i_l0 i_fitMany i_fitLeast i_fitMost m_fitPost m_fitEnd m_keptPosts i_x0], [zAr T 0 m_all 3952 f_all], [zAr T 0 m_posts 7 g_posts_45], [zAr T 0 m_shut 7 g_shut_46], [zAr T 0 m_here 7 g_here_47], [zAr T 0 m_was 7 g_was_48]] _ _ := G
            refine z_ist C G 0 rfl (vp_in_nI (by omega) (by decide)) dX12_game_59 (fun H locs G => ?_)
            rw [nI_clamp (by omega)] at G
            have G : zS T A s.heap s [[zAr T 0 m_rowWorth 512 (upd xrowWorth w r_50)], [zO11 mo m_all m_has i_size i_next i_where i_token i_number i_word i_wrong i_farCrossing m_read j_z0_1 j_crossings_2 j_inns_3 m_posts m_shut m_here j_steps_43 j_done_44 j_at_41 j_gone_42 m_was m_came m_seenAt m_rowWorth m_farBy m_used i_everywhere i_again0 i_d0 i_never i_firstCame i_longRun i_moved i_crowd i_l0 i_fitMany i_fitLeast i_fitMost m_fitPost m_fitEnd m_keptPosts i_x0], [zAr T 0 m_all 3952 f_all], [zAr T 0 m_posts 7 g_posts_45], [zAr T 0 m_shut 7 g_shut_46], [zAr T 0 m_here 7 g_here_47], [zAr T 0 m_was 7 g_was_48]] _ _ := G
            refine lv_iinc (v := nI (w + 1)) (lv' := [(6, .int (nI (w + 1))), (5, .int 1), (0, .ref mo), (1, .int l_), (2, .int c_), (3, .int 0), (4, .int f_)]) hx hb dX12_game_60 hl (k := 0) rfl (z_inc w 1) (by decide) (zLvf_h rfl) (fun ls hl => ?_)
            refine lv_goto (tgt := 38) hx hb dX12_game_63 (by decide) ?_
            have G := G.sub (bs' := [[zAr T 0 m_was 7 g_was_48], [zAr T 0 m_rowWorth 512 (upd xrowWorth w r_50)], [zAr T 0 m_all 3952 f_all], [zAr T 0 m_posts 7 g_posts_45], [zAr T 0 m_shut 7 g_shut_46], [zAr T 0 m_here 7 g_here_47], [zO11 mo m_all m_has i_size i_next i_where i_token i_number i_word i_wrong i_farCrossing m_read j_z0_1 j_crossings_2 j_inns_3 m_posts m_shut m_here j_steps_43 j_done_44 j_at_41 j_gone_42 m_was m_came m_seenAt m_rowWorth m_farBy m_used i_everywhere i_again0 i_d0 i_never i_firstCame i_longRun i_moved i_crowd i_l0 i_fitMany i_fitLeast i_fitMost m_fitPost m_fitEnd m_keptPosts i_x0]]) [6, 0, 2, 3, 4, 5, 1] rfl
            exact ih_38 (w + 1) j_at_41 j_gone_42 j_steps_43 j_done_44 g_posts_45 g_shut_46 g_here_47 g_was_48 (upd xrowWorth w r_50) (show (w + 1) ≤ 1 ∧ zMP g_posts_45 from ⟨by omega, (by first | with_reducible assumption | assumption)⟩) (show 1 - (w + 1) < 1 - w from by omega) _ _ ls G (lv_sub hl [0, 1, 2, 3, 4, 5, 6] rfl)
        · obtain rfl : n_ = 1 := Int32.toInt_inj.mp hn
          refine lv_iconst (v := 1) hx hb dX12_game_28 (by decide) ?_
          refine lv_iconst (v := 3) hx hb dX12_game_29 (by decide) ?_
          refine lv_iload_n hx hb dX12_game_30 rfl (lv_at hl 3 rfl) ?_
          refine lv_imul hx hb dX12_game_31 ?_
          refine lv_topi (fun y_51 ey_51 => ?_)
          obtain rfl : y_51 = 3 := ey_51.trans (by decide)
          refine lv_ishl hx hb dX12_game_32 ?_
          refine lv_topi (fun y_52 ey_52 => ?_)
          obtain rfl : y_52 = 8 := ey_52.trans (by decide)
          refine lv_istore (lv' := [(5, .int 8), (0, .ref mo), (1, .int l_), (2, .int c_), (3, .int 1), (4, .int f_)]) hx hb dX12_game_33 hl (by decide) (zLvf_h rfl) (fun ls hl => ?_)
          refine lv_iconst (v := 0) hx hb dX12_game_35 (by decide) ?_
          refine lv_istore (lv' := [(6, .int 0), (5, .int 8), (0, .ref mo), (1, .int l_), (2, .int c_), (3, .int 1), (4, .int f_)]) hx hb dX12_game_36 hl (by decide) (zLvf_h rfl) (fun ls hl => ?_)
          refine z_lp10 (T := T) 38 (fun (w : Nat) (xat : Int32) (xgone : Int32) (xsteps : Int32) (xdone : Int32) (xposts : Nat → Int32) (xshut : Nat → Int32) (xhere : Nat → Int32) (xwas : Nat → Int32) (xrowWorth : Nat → Int32) => [[zAr T 0 m_was 7 xwas], [zAr T 0 m_rowWorth 512 xrowWorth], [zAr T 0 m_all 3952 f_all], [zAr T 0 m_posts 7 xposts], [zAr T 0 m_shut 7 xshut], [zAr T 0 m_here 7 xhere], [zO11 mo m_all m_has i_size i_next i_where i_token i_number i_word i_wrong i_farCrossing m_read j_z0_1 j_crossings_2 j_inns_3 m_posts m_shut m_here xsteps xdone xat xgone m_was m_came m_seenAt m_rowWorth m_farBy m_used i_everywhere i_again0 i_d0 i_never i_firstCame i_longRun i_moved i_crowd i_l0 i_fitMany i_fitLeast i_fitMost m_fitPost m_fitEnd m_keptPosts i_x0]]) (fun (w : Nat) (xat : Int32) (xgone : Int32) (xsteps : Int32) (xdone : Int32) (xposts : Nat → Int32) (xshut : Nat → Int32) (xhere : Nat → Int32) (xwas : Nat → Int32) (xrowWorth : Nat → Int32) => [(6, .int (nI w)), (5, .int 8), (0, .ref mo), (1, .int l_), (2, .int c_), (3, .int 1), (4, .int f_)]) (fun (w : Nat) (xat : Int32) (xgone : Int32) (xsteps : Int32) (xdone : Int32) (xposts : Nat → Int32) (xshut : Nat → Int32) (xhere : Nat → Int32) (xwas : Nat → Int32) (xrowWorth : Nat → Int32) => w ≤ 8 ∧ zMP xposts) (fun (w : Nat) (xat : Int32) (xgone : Int32) (xsteps : Int32) (xdone : Int32) (xposts : Nat → Int32) (xshut : Nat → Int32) (xhere : Nat → Int32) (xwas : Nat → Int32) (xrowWorth : Nat → Int32) => 8 - w) ?_ 0 i_at i_gone j_steps_4 j_done_5 g_posts_6 g_shut_7 g_here_8 f_was f_rowWorth (show 0 ≤ 8 ∧ zMP g_posts_6 from ⟨by omega, (by first | with_reducible assumption | assumption)⟩) G (lv_sub hl [0, 1, 2, 3, 4, 5, 6] rfl)
          intro w xat xgone xsteps xdone xposts xshut xhere xwas xrowWorth hI9 ih_38 H locs ls G hl
          replace hI9 : w ≤ 8 ∧ zMP xposts := hI9
          refine zAn2 hI9 ?_
          intro hww hQ
          clear hI9
          replace G : zS T A s.heap s [[zAr T 0 m_was 7 xwas], [zAr T 0 m_rowWorth 512 xrowWorth], [zAr T 0 m_all 3952 f_all], [zAr T 0 m_posts 7 xposts], [zAr T 0 m_shut 7 xshut], [zAr T 0 m_here 7 xhere], [zO11 mo m_all m_has i_size i_next i_where i_token i_number i_word i_wrong i_farCrossing m_read j_z0_1 j_crossings_2 j_inns_3 m_posts m_shut m_here xsteps xdone xat xgone m_was m_came m_seenAt m_rowWorth m_farBy m_used i_everywhere i_again0 i_d0 i_never i_firstCame i_longRun i_moved i_crowd i_l0 i_fitMany i_fitLeast i_fitMost m_fitPost m_fitEnd m_keptPosts i_x0]] _ _ := G
          replace hl : lv_has ls 11 [(6, .int (nI w)), (5, .int 8), (0, .ref mo), (1, .int l_), (2, .int c_), (3, .int 1), (4, .int f_)] := hl
          refine lv_iload hx hb dX12_game_38 (lv_at hl 0 rfl) ?_
          refine lv_iload hx hb dX12_game_40 (lv_at hl 1 rfl) ?_
          refine lv_icmp_ge (tgt := 66) hx hb dX12_game_42 (by decide) (fun c_53 => ?_) (fun c_53 => ?_)
          · have c_53n : 8 ≤ w := (nI_leI (a := 8) (b := w) (by omega) (by omega)).mp c_53
            refine lv_iconst (v := (-1)) hx hb dX12_game_66 (by decide) ?_
            refine lv_istore (lv' := [(6, .int (-1)), (5, .int 8), (0, .ref mo), (1, .int l_), (2, .int c_), (3, .int 1), (4, .int f_)]) hx hb dX12_game_67 hl (by decide) (zLvf_h rfl) (fun ls hl => ?_)
            refine lv_iload_n hx hb dX12_game_69 rfl (lv_at hl 5 rfl) ?_
            refine lv_iconst (v := 1) hx hb dX12_game_70 (by decide) ?_
            refine lv_isub hx hb dX12_game_71 ?_
            refine lv_topi (fun y_54 ey_54 => ?_)
            obtain rfl : y_54 = 0 := ey_54.trans (by decide)
            refine lv_istore (lv' := [(7, .int 0), (6, .int (-1)), (5, .int 8), (0, .ref mo), (1, .int l_), (2, .int c_), (3, .int 1), (4, .int f_)]) hx hb dX12_game_72 hl (by decide) (zLvf_h rfl) (fun ls hl => ?_)
            refine lv_iload hx hb dX12_game_74 (lv_at hl 0 rfl) ?_
            refine lv_if_lt (tgt := 237) hx hb dX12_game_76 (by decide) (fun q => absurd q (by decide)) (fun _ => ?_)
            refine lv_iload hx hb dX12_game_79 (lv_at hl 2 rfl) ?_
            refine lv_bipush (v := 8) hx hb dX12_game_81 (by decide) ?_
            refine lv_idiv hx hb dX12_game_83 (by decide) ?_
            refine lv_topi (fun y_55 ey_55 => ?_)
            obtain rfl : y_55 = 1 := ey_55.trans (by decide)
            refine lv_istore (lv' := [(5, .int 1), (7, .int 0), (6, .int (-1)), (0, .ref mo), (1, .int l_), (2, .int c_), (3, .int 1), (4, .int f_)]) hx hb dX12_game_84 hl (by decide) (zLvf_h rfl) (fun ls hl => ?_)
            refine lv_iconst (v := 0) hx hb dX12_game_86 (by decide) ?_
            refine lv_istore (lv' := [(8, .int 0), (5, .int 1), (7, .int 0), (6, .int (-1)), (0, .ref mo), (1, .int l_), (2, .int c_), (3, .int 1), (4, .int f_)]) hx hb dX12_game_87 hl (by decide) (zLvf_h rfl) (fun ls hl => ?_)
            refine z_lp3 (T := T) 89 (fun (w : Nat) (x : Int32) (xrowWorth : Nat → Int32) => [[zAr T 0 m_was 7 xwas], [zAr T 0 m_rowWorth 512 xrowWorth], [zAr T 0 m_all 3952 f_all], [zAr T 0 m_posts 7 xposts], [zAr T 0 m_shut 7 xshut], [zAr T 0 m_here 7 xhere], [zO11 mo m_all m_has i_size i_next i_where i_token i_number i_word i_wrong i_farCrossing m_read j_z0_1 j_crossings_2 j_inns_3 m_posts m_shut m_here xsteps xdone xat xgone m_was m_came m_seenAt m_rowWorth m_farBy m_used i_everywhere i_again0 i_d0 i_never i_firstCame i_longRun i_moved i_crowd i_l0 i_fitMany i_fitLeast i_fitMost m_fitPost m_fitEnd m_keptPosts i_x0]]) (fun (w : Nat) (x : Int32) (xrowWorth : Nat → Int32) => [(8, .int (nI w)), (5, .int 1), (7, .int 0), (6, .int x), (0, .ref mo), (1, .int l_), (2, .int c_), (3, .int 1), (4, .int f_)]) (fun (w : Nat) (x : Int32) (xrowWorth : Nat → Int32) => w ≤ 1) (fun (w : Nat) (x : Int32) (xrowWorth : Nat → Int32) => 1 - w) ?_ 0 (-1) xrowWorth (show 0 ≤ 1 from by omega) G (lv_sub hl [0, 1, 2, 3, 4, 5, 6, 7, 8] rfl)
            intro w x xrowWorth hww ih_89 H locs ls G hl
            replace hww : w ≤ 1 := hww
            replace G : zS T A s.heap s [[zAr T 0 m_was 7 xwas], [zAr T 0 m_rowWorth 512 xrowWorth], [zAr T 0 m_all 3952 f_all], [zAr T 0 m_posts 7 xposts], [zAr T 0 m_shut 7 xshut], [zAr T 0 m_here 7 xhere], [zO11 mo m_all m_has i_size i_next i_where i_token i_number i_word i_wrong i_farCrossing m_read j_z0_1 j_crossings_2 j_inns_3 m_posts m_shut m_here xsteps xdone xat xgone m_was m_came m_seenAt m_rowWorth m_farBy m_used i_everywhere i_again0 i_d0 i_never i_firstCame i_longRun i_moved i_crowd i_l0 i_fitMany i_fitLeast i_fitMost m_fitPost m_fitEnd m_keptPosts i_x0]] _ _ := G
            replace hl : lv_has ls 11 [(8, .int (nI w)), (5, .int 1), (7, .int 0), (6, .int x), (0, .ref mo), (1, .int l_), (2, .int c_), (3, .int 1), (4, .int f_)] := hl
            refine lv_iload hx hb dX12_game_89 (lv_at hl 0 rfl) ?_
            refine lv_iload hx hb dX12_game_91 (lv_at hl 1 rfl) ?_
            refine lv_icmp_ge (tgt := 231) hx hb dX12_game_93 (by decide) (fun c_56 => ?_) (fun c_56 => ?_)
            · have c_56n : 1 ≤ w := (nI_leI (a := 1) (b := w) (by omega) (by omega)).mp c_56
              refine lv_iinc (v := (-1)) (lv' := [(7, .int (-1)), (8, .int (nI w)), (5, .int 1), (6, .int x), (0, .ref mo), (1, .int l_), (2, .int c_), (3, .int 1), (4, .int f_)]) hx hb dX12_game_231 hl (k := 2) rfl (by decide) (by decide) (zLvf_h rfl) (fun ls hl => ?_)
              refine lv_goto (tgt := 74) hx hb dX12_game_234 (by decide) ?_
              refine lv_iload hx hb dX12_game_74 (lv_at hl 0 rfl) ?_
              refine lv_if_lt (tgt := 237) hx hb dX12_game_76 (by decide) (fun _ => ?_) (fun q => absurd (by decide) q)
              refine lv_iload hx hb dX12_game_237 (lv_at hl 8 rfl) ?_
              refine lv_if_ne (tgt := 251) hx hb dX12_game_239 (by decide) (fun c_57 => ?_) (fun c_57 => ?_)
              · have c_57n : ¬ f_.toInt = (0 : Int) := fun q => c_57 ((fa_eq _ _).mpr q)
                refine lv_iload hx hb dX12_game_251 (lv_at hl 3 rfl) ?_
                have G := G.sub (bs' := [[zO11 mo m_all m_has i_size i_next i_where i_token i_number i_word i_wrong i_farCrossing m_read j_z0_1 j_crossings_2 j_inns_3 m_posts m_shut m_here xsteps xdone xat xgone m_was m_came m_seenAt m_rowWorth m_farBy m_used i_everywhere i_again0 i_d0 i_never i_firstCame i_longRun i_moved i_crowd i_l0 i_fitMany i_fitLeast i_fitMost m_fitPost m_fitEnd m_keptPosts i_x0], [zAr T 0 m_all 3952 f_all], [zAr T 0 m_posts 7 xposts], [zAr T 0 m_shut 7 xshut], [zAr T 0 m_here 7 xhere], [zAr T 0 m_was 7 xwas], [zAr T 0 m_rowWorth 512 xrowWorth]]) [6, 2, 3, 4, 5, 0, 1] rfl
                exact z_back hQz_ (z_iret C hr hlocks G (Nat.le_of_ble_eq_true rfl) (Nat.le_of_ble_eq_true rfl) dX12_game_253 ⟨j_z0_1, j_crossings_2, j_inns_3, xsteps, xdone, xat, xgone, xposts, xshut, xhere, xwas, xrowWorth, rfl⟩)
              · have c_57n : f_.toInt = (0 : Int) := (fa_eq _ _).mp c_57
                refine lv_aload_n hx hb dX12_game_242 rfl (lv_at hl 4 rfl) ?_
                refine z_get C G clX12 6 rfl 24 (by decide) m_fl_RX12_38 rfl dX12_game_243 ?_
                refine lv_iconst (v := 0) hx hb dX12_game_246 (by decide) ?_
                refine z_ild C G 1 rfl (vp_in_nI (n := 0) (by decide) (by decide)) dX12_game_247 ?_
                refine lv_topi (fun v_58 ev_58 => ?_)
                rw [show ((0 : Int32).toNatClampNeg) = 0 from rfl] at ev_58
                subst ev_58
                refine lv_goto (tgt := 253) hx hb dX12_game_248 (by decide) ?_
                have G := G.sub (bs' := [[zO11 mo m_all m_has i_size i_next i_where i_token i_number i_word i_wrong i_farCrossing m_read j_z0_1 j_crossings_2 j_inns_3 m_posts m_shut m_here xsteps xdone xat xgone m_was m_came m_seenAt m_rowWorth m_farBy m_used i_everywhere i_again0 i_d0 i_never i_firstCame i_longRun i_moved i_crowd i_l0 i_fitMany i_fitLeast i_fitMost m_fitPost m_fitEnd m_keptPosts i_x0], [zAr T 0 m_all 3952 f_all], [zAr T 0 m_posts 7 xposts], [zAr T 0 m_shut 7 xshut], [zAr T 0 m_here 7 xhere], [zAr T 0 m_was 7 xwas], [zAr T 0 m_rowWorth 512 xrowWorth]]) [6, 2, 3, 4, 5, 0, 1] rfl
                exact z_back hQz_ (z_iret C hr hlocks G (Nat.le_of_ble_eq_true rfl) (Nat.le_of_ble_eq_true rfl) dX12_game_253 ⟨j_z0_1, j_crossings_2, j_inns_3, xsteps, xdone, xat, xgone, xposts, xshut, xhere, xwas, xrowWorth, rfl⟩)
            · have c_56n : ¬ 1 ≤ w := fun q => c_56 ((nI_leI (a := 1) (b := w) (by omega) (by omega)).mpr q)
              refine lv_iconst (v := (-1)) hx hb dX12_game_96 (by decide) ?_
              refine lv_istore (lv' := [(6, .int (-1)), (8, .int (nI w)), (5, .int 1), (7, .int 0), (0, .ref mo), (1, .int l_), (2, .int c_), (3, .int 1), (4, .int f_)]) hx hb dX12_game_97 hl (by decide) (zLvf_h rfl) (fun ls hl => ?_)
              refine lv_iconst (v := 0) hx hb dX12_game_99 (by decide) ?_
              refine lv_istore (lv' := [(9, .int 0), (6, .int (-1)), (8, .int (nI w)), (5, .int 1), (7, .int 0), (0, .ref mo), (1, .int l_), (2, .int c_), (3, .int 1), (4, .int f_)]) hx hb dX12_game_100 hl (by decide) (zLvf_h rfl) (fun ls hl => ?_)
              refine z_lp2 (T := T) 102 (fun (i : Nat) (x : Int32) => [[zAr T 0 m_was 7 xwas], [zAr T 0 m_rowWorth 512 xrowWorth], [zAr T 0 m_all 3952 f_all], [zAr T 0 m_posts 7 xposts], [zAr T 0 m_shut 7 xshut], [zAr T 0 m_here 7 xhere], [zO11 mo m_all m_has i_size i_next i_where i_token i_number i_word i_wrong i_farCrossing m_read j_z0_1 j_crossings_2 j_inns_3 m_posts m_shut m_here xsteps xdone xat xgone m_was m_came m_seenAt m_rowWorth m_farBy m_used i_everywhere i_again0 i_d0 i_never i_firstCame i_longRun i_moved i_crowd i_l0 i_fitMany i_fitLeast i_fitMost m_fitPost m_fitEnd m_keptPosts i_x0]]) (fun (i : Nat) (x : Int32) => [(9, .int (nI i)), (6, .int x), (8, .int (nI w)), (5, .int 1), (7, .int 0), (0, .ref mo), (1, .int l_), (2, .int c_), (3, .int 1), (4, .int f_)]) (fun (i : Nat) (x : Int32) => i ≤ 8 ∧ (-1 ≤ x.toInt ∧ x.toInt ≤ 7)) (fun (i : Nat) (x : Int32) => 8 - i) ?_ 0 (-1) (show 0 ≤ 8 ∧ (-1 ≤ ((-1) : Int32).toInt ∧ ((-1) : Int32).toInt ≤ 7) from ⟨by omega, by decide⟩) G (lv_sub hl [0, 1, 2, 3, 4, 5, 6, 7, 8, 9] rfl)
              intro i x hI9 ih_102 H locs ls G hl
              replace hI9 : i ≤ 8 ∧ (-1 ≤ x.toInt ∧ x.toInt ≤ 7) := hI9
              refine zAn2 hI9 ?_
              intro hi hxx
              clear hI9
              replace G : zS T A s.heap s [[zAr T 0 m_was 7 xwas], [zAr T 0 m_rowWorth 512 xrowWorth], [zAr T 0 m_all 3952 f_all], [zAr T 0 m_posts 7 xposts], [zAr T 0 m_shut 7 xshut], [zAr T 0 m_here 7 xhere], [zO11 mo m_all m_has i_size i_next i_where i_token i_number i_word i_wrong i_farCrossing m_read j_z0_1 j_crossings_2 j_inns_3 m_posts m_shut m_here xsteps xdone xat xgone m_was m_came m_seenAt m_rowWorth m_farBy m_used i_everywhere i_again0 i_d0 i_never i_firstCame i_longRun i_moved i_crowd i_l0 i_fitMany i_fitLeast i_fitMost m_fitPost m_fitEnd m_keptPosts i_x0]] _ _ := G
              replace hl : lv_has ls 11 [(9, .int (nI i)), (6, .int x), (8, .int (nI w)), (5, .int 1), (7, .int 0), (0, .ref mo), (1, .int l_), (2, .int c_), (3, .int 1), (4, .int f_)] := hl
              refine lv_iload hx hb dX12_game_102 (lv_at hl 0 rfl) ?_
              refine lv_bipush (v := 8) hx hb dX12_game_104 (by decide) ?_
              refine lv_icmp_ge (tgt := 195) hx hb dX12_game_106 (by decide) (fun c_59 => ?_) (fun c_59 => ?_)
              · have c_59n : 8 ≤ i := (nI_leI (a := 8) (b := i) (by omega) (by omega)).mp c_59
                refine lv_aload_n hx hb dX12_game_195 rfl (lv_at hl 5 rfl) ?_
                refine z_get C G clX12 6 rfl 24 (by decide) m_fl_RX12_38 rfl dX12_game_196 ?_
                refine lv_iload hx hb dX12_game_199 (lv_at hl 2 rfl) ?_
                refine lv_iload hx hb dX12_game_201 (lv_at hl 1 rfl) ?_
                refine lv_iconst (v := (-1)) hx hb dX12_game_203 (by decide) ?_
                refine lv_icmp_ne (tgt := 211) hx hb dX12_game_204 (by decide) (fun c_60 => ?_) (fun c_60 => ?_)
                · have c_60n : ¬ x.toInt = (-1 : Int) := fun q => c_60 ((fa_eq _ _).mpr q)
                  refine lv_aload_n hx hb dX12_game_211 rfl (lv_at hl 5 rfl) ?_
                  refine z_get C G clX12 6 rfl 24 (by decide) m_fl_RX12_38 rfl dX12_game_212 ?_
                  refine lv_bipush (v := 8) hx hb dX12_game_215 (by decide) ?_
                  refine lv_iload hx hb dX12_game_217 (lv_at hl 2 rfl) ?_
                  refine lv_imul hx hb dX12_game_219 ?_
                  refine lv_topi (fun y_61 ey_61 => ?_)
                  obtain rfl : y_61 = nI (8 * w) := ey_61.trans (z_imuln 8 w rfl rfl)
                  refine lv_iload hx hb dX12_game_220 (lv_at hl 1 rfl) ?_
                  refine lv_iadd hx hb dX12_game_222 ?_
                  refine lv_topi (fun y_62 ey_62 => ?_)
                  have ey_62i : y_62.toInt = ((8 * w) : Int) + x.toInt := by rw [ey_62]; exact (z_iaddI (x := (nI (8 * w))) (y := x) (by rw [nI_toInt (n := 8 * w) (by omega)]; show -2147483648 ≤ ((8 * w) : Int) + x.toInt; omega) (by rw [nI_toInt (n := 8 * w) (by omega)]; show ((8 * w) : Int) + x.toInt < 2147483648; omega)).trans (by rw [nI_toInt (n := 8 * w) (by omega)] <;> rfl)
                  refine z_ild C G 1 rfl (vp_in_iff.mpr ⟨by omega, by omega⟩) dX12_game_223 ?_
                  refine lv_topi (fun v_63 ev_63 => ?_)
                  subst ev_63
                  refine z_ist C G 1 rfl (vp_in_nI (by omega) (by decide)) dX12_game_224 (fun H locs G => ?_)
                  rw [nI_clamp (by omega)] at G
                  have G : zS T A s.heap s [[zAr T 0 m_was 7 xwas], [zAr T 0 m_rowWorth 512 (upd xrowWorth w (xrowWorth y_62.toNatClampNeg))], [zAr T 0 m_all 3952 f_all], [zAr T 0 m_posts 7 xposts], [zAr T 0 m_shut 7 xshut], [zAr T 0 m_here 7 xhere], [zO11 mo m_all m_has i_size i_next i_where i_token i_number i_word i_wrong i_farCrossing m_read j_z0_1 j_crossings_2 j_inns_3 m_posts m_shut m_here xsteps xdone xat xgone m_was m_came m_seenAt m_rowWorth m_farBy m_used i_everywhere i_again0 i_d0 i_never i_firstCame i_longRun i_moved i_crowd i_l0 i_fitMany i_fitLeast i_fitMost m_fitPost m_fitEnd m_keptPosts i_x0]] _ _ := G
                  refine lv_iinc (v := nI (w + 1)) (lv' := [(8, .int (nI (w + 1))), (9, .int (nI i)), (6, .int x), (5, .int 1), (7, .int 0), (0, .ref mo), (1, .int l_), (2, .int c_), (3, .int 1), (4, .int f_)]) hx hb dX12_game_225 hl (k := 2) rfl (z_inc w 1) (by decide) (zLvf_h rfl) (fun ls hl => ?_)
                  refine lv_goto (tgt := 89) hx hb dX12_game_228 (by decide) ?_
                  exact ih_89 (w + 1) x (upd xrowWorth w (xrowWorth y_62.toNatClampNeg)) (show (w + 1) ≤ 1 from by omega) (show 1 - (w + 1) < 1 - w from by omega) _ _ ls G (lv_sub hl [0, 3, 4, 2, 5, 6, 7, 8, 9] rfl)
                · have c_60n : x.toInt = (-1 : Int) := (fa_eq _ _).mp c_60
                  refine lv_iconst (v := (-1)) hx hb dX12_game_207 (by decide) ?_
                  refine lv_goto (tgt := 224) hx hb dX12_game_208 (by decide) ?_
                  refine z_ist C G 1 rfl (vp_in_nI (by omega) (by decide)) dX12_game_224 (fun H locs G => ?_)
                  rw [nI_clamp (by omega)] at G
                  have G : zS T A s.heap s [[zAr T 0 m_was 7 xwas], [zAr T 0 m_rowWorth 512 (upd xrowWorth w (-1))], [zAr T 0 m_all 3952 f_all], [zAr T 0 m_posts 7 xposts], [zAr T 0 m_shut 7 xshut], [zAr T 0 m_here 7 xhere], [zO11 mo m_all m_has i_size i_next i_where i_token i_number i_word i_wrong i_farCrossing m_read j_z0_1 j_crossings_2 j_inns_3 m_posts m_shut m_here xsteps xdone xat xgone m_was m_came m_seenAt m_rowWorth m_farBy m_used i_everywhere i_again0 i_d0 i_never i_firstCame i_longRun i_moved i_crowd i_l0 i_fitMany i_fitLeast i_fitMost m_fitPost m_fitEnd m_keptPosts i_x0]] _ _ := G
                  refine lv_iinc (v := nI (w + 1)) (lv' := [(8, .int (nI (w + 1))), (9, .int (nI i)), (6, .int x), (5, .int 1), (7, .int 0), (0, .ref mo), (1, .int l_), (2, .int c_), (3, .int 1), (4, .int f_)]) hx hb dX12_game_225 hl (k := 2) rfl (z_inc w 1) (by decide) (zLvf_h rfl) (fun ls hl => ?_)
                  refine lv_goto (tgt := 89) hx hb dX12_game_228 (by decide) ?_
                  exact ih_89 (w + 1) x (upd xrowWorth w (-1)) (show (w + 1) ≤ 1 from by omega) (show 1 - (w + 1) < 1 - w from by omega) _ _ ls G (lv_sub hl [0, 3, 4, 2, 5, 6, 7, 8, 9] rfl)
              · have c_59n : ¬ 8 ≤ i := fun q => c_59 ((nI_leI (a := 8) (b := i) (by omega) (by omega)).mpr q)
                refine lv_aload_n hx hb dX12_game_109 rfl (lv_at hl 5 rfl) ?_
                refine z_get C G clX12 6 rfl 24 (by decide) m_fl_RX12_38 rfl dX12_game_110 ?_
                refine lv_bipush (v := 8) hx hb dX12_game_113 (by decide) ?_
                refine lv_iload hx hb dX12_game_115 (lv_at hl 2 rfl) ?_
                refine lv_imul hx hb dX12_game_117 ?_
                refine lv_topi (fun y_64 ey_64 => ?_)
                obtain rfl : y_64 = nI (8 * w) := ey_64.trans (z_imuln 8 w rfl rfl)
                refine lv_iload hx hb dX12_game_118 (lv_at hl 0 rfl) ?_
                refine lv_iadd hx hb dX12_game_120 ?_
                refine lv_topi (fun y_65 ey_65 => ?_)
                obtain rfl : y_65 = nI ((8 * w) + i) := ey_65.trans (z_iaddn (8 * w) i rfl rfl)
                refine z_ild C G 1 rfl (vp_in_nI (by omega) (by decide)) dX12_game_121 ?_
                refine lv_topi (fun v_66 ev_66 => ?_)
                rw [nI_clamp (by omega)] at ev_66
                subst ev_66
                refine lv_istore (lv' := [(10, .int (xrowWorth ((8 * w) + i))), (9, .int (nI i)), (6, .int x), (8, .int (nI w)), (5, .int 1), (7, .int 0), (0, .ref mo), (1, .int l_), (2, .int c_), (3, .int 1), (4, .int f_)]) hx hb dX12_game_122 hl (by decide) (zLvf_h rfl) (fun ls hl => ?_)
                refine lv_iload hx hb dX12_game_124 (lv_at hl 0 rfl) ?_
                refine lv_iconst (v := (-1)) hx hb dX12_game_126 (by decide) ?_
                refine lv_icmp_eq (tgt := 189) hx hb dX12_game_127 (by decide) (fun c_67 => ?_) (fun c_67 => ?_)
                · have c_67n : (xrowWorth ((8 * w) + i)).toInt = (-1 : Int) := (fa_eq _ _).mp c_67
                  refine lv_iinc (v := nI (i + 1)) (lv' := [(9, .int (nI (i + 1))), (10, .int (xrowWorth ((8 * w) + i))), (6, .int x), (8, .int (nI w)), (5, .int 1), (7, .int 0), (0, .ref mo), (1, .int l_), (2, .int c_), (3, .int 1), (4, .int f_)]) hx hb dX12_game_189 hl (k := 1) rfl (z_inc i 1) (by decide) (zLvf_h rfl) (fun ls hl => ?_)
                  refine lv_goto (tgt := 102) hx hb dX12_game_192 (by decide) ?_
                  exact ih_102 (i + 1) x (show (i + 1) ≤ 8 ∧ (-1 ≤ x.toInt ∧ x.toInt ≤ 7) from ⟨by omega, by have t9 := nI_toInt (n := i) (by omega); omega⟩) (show 8 - (i + 1) < 8 - i from by omega) _ _ ls G (lv_sub hl [0, 2, 3, 4, 5, 6, 7, 8, 9, 10] rfl)
                · have c_67n : ¬ (xrowWorth ((8 * w) + i)).toInt = (-1 : Int) := fun q => c_67 ((fa_eq _ _).mpr q)
                  refine lv_iload hx hb dX12_game_130 (lv_at hl 2 rfl) ?_
                  refine lv_iconst (v := (-1)) hx hb dX12_game_132 (by decide) ?_
                  refine lv_icmp_eq (tgt := 185) hx hb dX12_game_133 (by decide) (fun c_68 => ?_) (fun c_68 => ?_)
                  · have c_68n : x.toInt = (-1 : Int) := (fa_eq _ _).mp c_68
                    refine lv_iload hx hb dX12_game_185 (lv_at hl 1 rfl) ?_
                    refine lv_istore (lv' := [(6, .int (nI i)), (10, .int (xrowWorth ((8 * w) + i))), (9, .int (nI i)), (8, .int (nI w)), (5, .int 1), (7, .int 0), (0, .ref mo), (1, .int l_), (2, .int c_), (3, .int 1), (4, .int f_)]) hx hb dX12_game_187 hl (by decide) (zLvf_h rfl) (fun ls hl => ?_)
                    refine lv_iinc (v := nI (i + 1)) (lv' := [(9, .int (nI (i + 1))), (6, .int (nI i)), (10, .int (xrowWorth ((8 * w) + i))), (8, .int (nI w)), (5, .int 1), (7, .int 0), (0, .ref mo), (1, .int l_), (2, .int c_), (3, .int 1), (4, .int f_)]) hx hb dX12_game_189 hl (k := 2) rfl (z_inc i 1) (by decide) (zLvf_h rfl) (fun ls hl => ?_)
                    refine lv_goto (tgt := 102) hx hb dX12_game_192 (by decide) ?_
                    exact ih_102 (i + 1) (nI i) (show (i + 1) ≤ 8 ∧ (-1 ≤ (nI i).toInt ∧ (nI i).toInt ≤ 7) from ⟨by omega, by have t9 := nI_toInt (n := i) (by omega); omega⟩) (show 8 - (i + 1) < 8 - i from by omega) _ _ ls G (lv_sub hl [0, 1, 3, 4, 5, 6, 7, 8, 9, 10] rfl)
                  · have c_68n : ¬ x.toInt = (-1 : Int) := fun q => c_68 ((fa_eq _ _).mpr q)
                    refine lv_iload hx hb dX12_game_136 (lv_at hl 5 rfl) ?_
                    refine lv_iconst (v := 2) hx hb dX12_game_138 (by decide) ?_
                    refine lv_irem hx hb dX12_game_139 (by decide) ?_
                    refine lv_topi (fun y_69 ey_69 => ?_)
                    obtain rfl : y_69 = 0 := ey_69.trans (by decide)
                    refine lv_if_ne (tgt := 164) hx hb dX12_game_140 (by decide) (fun q => absurd (by decide) q) (fun _ => ?_)
                    refine lv_iload hx hb dX12_game_143 (lv_at hl 0 rfl) ?_
                    refine lv_aload_n hx hb dX12_game_145 rfl (lv_at hl 6 rfl) ?_
                    refine z_get C G clX12 6 rfl 24 (by decide) m_fl_RX12_38 rfl dX12_game_146 ?_
                    refine lv_bipush (v := 8) hx hb dX12_game_149 (by decide) ?_
                    refine lv_iload hx hb dX12_game_151 (lv_at hl 3 rfl) ?_
                    refine lv_imul hx hb dX12_game_153 ?_
                    refine lv_topi (fun y_70 ey_70 => ?_)
                    obtain rfl : y_70 = nI (8 * w) := ey_70.trans (z_imuln 8 w rfl rfl)
                    refine lv_iload hx hb dX12_game_154 (lv_at hl 2 rfl) ?_
                    refine lv_iadd hx hb dX12_game_156 ?_
                    refine lv_topi (fun y_71 ey_71 => ?_)
                    have ey_71i : y_71.toInt = ((8 * w) : Int) + x.toInt := by rw [ey_71]; exact (z_iaddI (x := (nI (8 * w))) (y := x) (by rw [nI_toInt (n := 8 * w) (by omega)]; show -2147483648 ≤ ((8 * w) : Int) + x.toInt; omega) (by rw [nI_toInt (n := 8 * w) (by omega)]; show ((8 * w) : Int) + x.toInt < 2147483648; omega)).trans (by rw [nI_toInt (n := 8 * w) (by omega)] <;> rfl)
                    refine z_ild C G 1 rfl (vp_in_iff.mpr ⟨by omega, by omega⟩) dX12_game_157 ?_
                    refine lv_topi (fun v_72 ev_72 => ?_)
                    subst ev_72
                    refine lv_icmp_lt (tgt := 185) hx hb dX12_game_158 (by decide) (fun c_73 => ?_) (fun c_73 => ?_)
                    · have c_73n : (xrowWorth ((8 * w) + i)).toInt < (xrowWorth y_71.toNatClampNeg).toInt := (fa_lt _ _).mp c_73
                      refine lv_iload hx hb dX12_game_185 (lv_at hl 1 rfl) ?_
                      refine lv_istore (lv' := [(6, .int (nI i)), (10, .int (xrowWorth ((8 * w) + i))), (9, .int (nI i)), (8, .int (nI w)), (5, .int 1), (7, .int 0), (0, .ref mo), (1, .int l_), (2, .int c_), (3, .int 1), (4, .int f_)]) hx hb dX12_game_187 hl (by decide) (zLvf_h rfl) (fun ls hl => ?_)
                      refine lv_iinc (v := nI (i + 1)) (lv' := [(9, .int (nI (i + 1))), (6, .int (nI i)), (10, .int (xrowWorth ((8 * w) + i))), (8, .int (nI w)), (5, .int 1), (7, .int 0), (0, .ref mo), (1, .int l_), (2, .int c_), (3, .int 1), (4, .int f_)]) hx hb dX12_game_189 hl (k := 2) rfl (z_inc i 1) (by decide) (zLvf_h rfl) (fun ls hl => ?_)
                      refine lv_goto (tgt := 102) hx hb dX12_game_192 (by decide) ?_
                      exact ih_102 (i + 1) (nI i) (show (i + 1) ≤ 8 ∧ (-1 ≤ (nI i).toInt ∧ (nI i).toInt ≤ 7) from ⟨by omega, by have t9 := nI_toInt (n := i) (by omega); omega⟩) (show 8 - (i + 1) < 8 - i from by omega) _ _ ls G (lv_sub hl [0, 1, 3, 4, 5, 6, 7, 8, 9, 10] rfl)
                    · have c_73n : ¬ (xrowWorth ((8 * w) + i)).toInt < (xrowWorth y_71.toNatClampNeg).toInt := fun q => c_73 ((fa_lt _ _).mpr q)
                      refine lv_goto (tgt := 189) hx hb dX12_game_161 (by decide) ?_
                      refine lv_iinc (v := nI (i + 1)) (lv' := [(9, .int (nI (i + 1))), (10, .int (xrowWorth ((8 * w) + i))), (6, .int x), (8, .int (nI w)), (5, .int 1), (7, .int 0), (0, .ref mo), (1, .int l_), (2, .int c_), (3, .int 1), (4, .int f_)]) hx hb dX12_game_189 hl (k := 1) rfl (z_inc i 1) (by decide) (zLvf_h rfl) (fun ls hl => ?_)
                      refine lv_goto (tgt := 102) hx hb dX12_game_192 (by decide) ?_
                      exact ih_102 (i + 1) x (show (i + 1) ≤ 8 ∧ (-1 ≤ x.toInt ∧ x.toInt ≤ 7) from ⟨by omega, by have t9 := nI_toInt (n := i) (by omega); omega⟩) (show 8 - (i + 1) < 8 - i from by omega) _ _ ls G (lv_sub hl [0, 2, 3, 4, 5, 6, 7, 8, 9, 10] rfl)
          · have c_53n : ¬ 8 ≤ w := fun q => c_53 ((nI_leI (a := 8) (b := w) (by omega) (by omega)).mpr q)
            refine lv_aload_n hx hb dX12_game_45 rfl (lv_at hl 2 rfl) ?_
            refine z_get C G clX12 6 rfl 24 (by decide) m_fl_RX12_38 rfl dX12_game_46 ?_
            refine lv_iload hx hb dX12_game_49 (lv_at hl 0 rfl) ?_
            refine lv_aload_n hx hb dX12_game_51 rfl (lv_at hl 2 rfl) ?_
            refine lv_iload hx hb dX12_game_52 (lv_at hl 0 rfl) ?_
            refine lv_iload_n hx hb dX12_game_54 rfl (lv_at hl 5 rfl) ?_
            refine lv_iload_n hx hb dX12_game_55 rfl (lv_at hl 4 rfl) ?_
            have ti_74 : (nI w).toInt = ((w : Nat) : Int) := nI_toInt (by omega)
            refine z_Vi (bc := [[zO11 mo m_all m_has i_size i_next i_where i_token i_number i_word i_wrong i_farCrossing m_read j_z0_1 j_crossings_2 j_inns_3 m_posts m_shut m_here xsteps xdone xat xgone m_was m_came m_seenAt m_rowWorth m_farBy m_used i_everywhere i_again0 i_d0 i_never i_firstCame i_longRun i_moved i_crowd i_l0 i_fitMany i_fitLeast i_fitMost m_fitPost m_fitEnd m_keptPosts i_x0], [zAr T 0 m_all 3952 f_all], [zAr T 0 m_posts 7 xposts], [zAr T 0 m_shut 7 xshut], [zAr T 0 m_here 7 xhere], [zAr T 0 m_was 7 xwas]]) (br := [[zAr T 0 m_rowWorth 512 xrowWorth]]) (As := [.int (nI w), .int 1, .int c_]) (rest := [.int (nI w), .ref m_rowWorth]) C G (c_m_gameBy l T mo m_all m_has i_size i_next i_where i_token i_number i_word i_wrong i_farCrossing m_read j_z0_1 j_crossings_2 j_inns_3 m_posts m_shut m_here xsteps xdone xat xgone m_was m_came m_seenAt m_rowWorth m_farBy m_used i_everywhere i_again0 i_d0 i_never i_firstCame i_longRun i_moved i_crowd i_l0 i_fitMany i_fitLeast i_fitMost m_fitPost m_fitEnd m_keptPosts i_x0 f_all xposts xshut xhere xwas (nI w) 1 c_ (by first | with_reducible assumption | with_reducible rfl | omega | assumption | rfl | decide) (by first | with_reducible assumption | with_reducible rfl | omega | assumption | rfl | decide) (by first | with_reducible assumption | with_reducible rfl | omega | assumption | rfl | decide) (by first | with_reducible assumption | with_reducible rfl | omega | assumption | rfl | decide) (by first | with_reducible assumption | with_reducible rfl | omega | assumption | rfl | decide) (by first | with_reducible assumption | with_reducible rfl | omega | assumption | rfl | decide)) (kV_RX12_251 C.2.2.2.2 (Nat.le_of_ble_eq_true rfl) (Nat.le_of_ble_eq_true rfl)) [6, 2, 3, 4, 5, 0] [0, 1, 0, 0, 0, 0] rfl rfl (ci := 11) (qc := (RX12, TX12, 43)) rfl rfl (List.mem_flatten.mpr ⟨_, List.mem_of_getElem? (i := 0) rfl, List.mem_cons_self⟩) rfl rfl hl.1 dX12_game_56 (Nat.le_of_ble_eq_true rfl) (Nat.le_of_ble_eq_true rfl) (fun r_84 b1 H locs hw G => ?_)
            refine zEx8 hw ?_
            intro j_at_75 j_gone_76 j_steps_77 j_done_78 g_posts_79 g_shut_80 g_here_81 g_was_82
            refine zCu2 ?_
            intro hbs9 h_83
            clear hw
            subst hbs9
            have G : zS T A s.heap s [[zAr T 0 m_rowWorth 512 xrowWorth], [zO11 mo m_all m_has i_size i_next i_where i_token i_number i_word i_wrong i_farCrossing m_read j_z0_1 j_crossings_2 j_inns_3 m_posts m_shut m_here j_steps_77 j_done_78 j_at_75 j_gone_76 m_was m_came m_seenAt m_rowWorth m_farBy m_used i_everywhere i_again0 i_d0 i_never i_firstCame i_longRun i_moved i_crowd i_l0 i_fitMany i_fitLeast i_fitMost m_fitPost m_fitEnd m_keptPosts i_x0], [zAr T 0 m_all 3952 f_all], [zAr T 0 m_posts 7 g_posts_79], [zAr T 0 m_shut 7 g_shut_80], [zAr T 0 m_here 7 g_here_81], [zAr T 0 m_was 7 g_was_82]] _ _ := G
            refine z_ist C G 0 rfl (vp_in_nI (by omega) (by decide)) dX12_game_59 (fun H locs G => ?_)
            rw [nI_clamp (by omega)] at G
            have G : zS T A s.heap s [[zAr T 0 m_rowWorth 512 (upd xrowWorth w r_84)], [zO11 mo m_all m_has i_size i_next i_where i_token i_number i_word i_wrong i_farCrossing m_read j_z0_1 j_crossings_2 j_inns_3 m_posts m_shut m_here j_steps_77 j_done_78 j_at_75 j_gone_76 m_was m_came m_seenAt m_rowWorth m_farBy m_used i_everywhere i_again0 i_d0 i_never i_firstCame i_longRun i_moved i_crowd i_l0 i_fitMany i_fitLeast i_fitMost m_fitPost m_fitEnd m_keptPosts i_x0], [zAr T 0 m_all 3952 f_all], [zAr T 0 m_posts 7 g_posts_79], [zAr T 0 m_shut 7 g_shut_80], [zAr T 0 m_here 7 g_here_81], [zAr T 0 m_was 7 g_was_82]] _ _ := G
            refine lv_iinc (v := nI (w + 1)) (lv' := [(6, .int (nI (w + 1))), (5, .int 8), (0, .ref mo), (1, .int l_), (2, .int c_), (3, .int 1), (4, .int f_)]) hx hb dX12_game_60 hl (k := 0) rfl (z_inc w 1) (by decide) (zLvf_h rfl) (fun ls hl => ?_)
            refine lv_goto (tgt := 38) hx hb dX12_game_63 (by decide) ?_
            have G := G.sub (bs' := [[zAr T 0 m_was 7 g_was_82], [zAr T 0 m_rowWorth 512 (upd xrowWorth w r_84)], [zAr T 0 m_all 3952 f_all], [zAr T 0 m_posts 7 g_posts_79], [zAr T 0 m_shut 7 g_shut_80], [zAr T 0 m_here 7 g_here_81], [zO11 mo m_all m_has i_size i_next i_where i_token i_number i_word i_wrong i_farCrossing m_read j_z0_1 j_crossings_2 j_inns_3 m_posts m_shut m_here j_steps_77 j_done_78 j_at_75 j_gone_76 m_was m_came m_seenAt m_rowWorth m_farBy m_used i_everywhere i_again0 i_d0 i_never i_firstCame i_longRun i_moved i_crowd i_l0 i_fitMany i_fitLeast i_fitMost m_fitPost m_fitEnd m_keptPosts i_x0]]) [6, 0, 2, 3, 4, 5, 1] rfl
            exact ih_38 (w + 1) j_at_75 j_gone_76 j_steps_77 j_done_78 g_posts_79 g_shut_80 g_here_81 g_was_82 (upd xrowWorth w r_84) (show (w + 1) ≤ 8 ∧ zMP g_posts_79 from ⟨by omega, (by first | with_reducible assumption | assumption)⟩) (show 8 - (w + 1) < 8 - w from by omega) _ _ ls G (lv_sub hl [0, 1, 2, 3, 4, 5, 6] rfl)
        · obtain rfl : n_ = 2 := Int32.toInt_inj.mp hn
          refine lv_iconst (v := 1) hx hb dX12_game_28 (by decide) ?_
          refine lv_iconst (v := 3) hx hb dX12_game_29 (by decide) ?_
          refine lv_iload_n hx hb dX12_game_30 rfl (lv_at hl 3 rfl) ?_
          refine lv_imul hx hb dX12_game_31 ?_
          refine lv_topi (fun y_85 ey_85 => ?_)
          obtain rfl : y_85 = 6 := ey_85.trans (by decide)
          refine lv_ishl hx hb dX12_game_32 ?_
          refine lv_topi (fun y_86 ey_86 => ?_)
          obtain rfl : y_86 = 64 := ey_86.trans (by decide)
          refine lv_istore (lv' := [(5, .int 64), (0, .ref mo), (1, .int l_), (2, .int c_), (3, .int 2), (4, .int f_)]) hx hb dX12_game_33 hl (by decide) (zLvf_h rfl) (fun ls hl => ?_)
          refine lv_iconst (v := 0) hx hb dX12_game_35 (by decide) ?_
          refine lv_istore (lv' := [(6, .int 0), (5, .int 64), (0, .ref mo), (1, .int l_), (2, .int c_), (3, .int 2), (4, .int f_)]) hx hb dX12_game_36 hl (by decide) (zLvf_h rfl) (fun ls hl => ?_)
          refine z_lp10 (T := T) 38 (fun (w : Nat) (xat : Int32) (xgone : Int32) (xsteps : Int32) (xdone : Int32) (xposts : Nat → Int32) (xshut : Nat → Int32) (xhere : Nat → Int32) (xwas : Nat → Int32) (xrowWorth : Nat → Int32) => [[zAr T 0 m_was 7 xwas], [zAr T 0 m_rowWorth 512 xrowWorth], [zAr T 0 m_all 3952 f_all], [zAr T 0 m_posts 7 xposts], [zAr T 0 m_shut 7 xshut], [zAr T 0 m_here 7 xhere], [zO11 mo m_all m_has i_size i_next i_where i_token i_number i_word i_wrong i_farCrossing m_read j_z0_1 j_crossings_2 j_inns_3 m_posts m_shut m_here xsteps xdone xat xgone m_was m_came m_seenAt m_rowWorth m_farBy m_used i_everywhere i_again0 i_d0 i_never i_firstCame i_longRun i_moved i_crowd i_l0 i_fitMany i_fitLeast i_fitMost m_fitPost m_fitEnd m_keptPosts i_x0]]) (fun (w : Nat) (xat : Int32) (xgone : Int32) (xsteps : Int32) (xdone : Int32) (xposts : Nat → Int32) (xshut : Nat → Int32) (xhere : Nat → Int32) (xwas : Nat → Int32) (xrowWorth : Nat → Int32) => [(6, .int (nI w)), (5, .int 64), (0, .ref mo), (1, .int l_), (2, .int c_), (3, .int 2), (4, .int f_)]) (fun (w : Nat) (xat : Int32) (xgone : Int32) (xsteps : Int32) (xdone : Int32) (xposts : Nat → Int32) (xshut : Nat → Int32) (xhere : Nat → Int32) (xwas : Nat → Int32) (xrowWorth : Nat → Int32) => w ≤ 64 ∧ zMP xposts) (fun (w : Nat) (xat : Int32) (xgone : Int32) (xsteps : Int32) (xdone : Int32) (xposts : Nat → Int32) (xshut : Nat → Int32) (xhere : Nat → Int32) (xwas : Nat → Int32) (xrowWorth : Nat → Int32) => 64 - w) ?_ 0 i_at i_gone j_steps_4 j_done_5 g_posts_6 g_shut_7 g_here_8 f_was f_rowWorth (show 0 ≤ 64 ∧ zMP g_posts_6 from ⟨by omega, (by first | with_reducible assumption | assumption)⟩) G (lv_sub hl [0, 1, 2, 3, 4, 5, 6] rfl)
          intro w xat xgone xsteps xdone xposts xshut xhere xwas xrowWorth hI9 ih_38 H locs ls G hl
          replace hI9 : w ≤ 64 ∧ zMP xposts := hI9
          refine zAn2 hI9 ?_
          intro hww hQ
          clear hI9
          replace G : zS T A s.heap s [[zAr T 0 m_was 7 xwas], [zAr T 0 m_rowWorth 512 xrowWorth], [zAr T 0 m_all 3952 f_all], [zAr T 0 m_posts 7 xposts], [zAr T 0 m_shut 7 xshut], [zAr T 0 m_here 7 xhere], [zO11 mo m_all m_has i_size i_next i_where i_token i_number i_word i_wrong i_farCrossing m_read j_z0_1 j_crossings_2 j_inns_3 m_posts m_shut m_here xsteps xdone xat xgone m_was m_came m_seenAt m_rowWorth m_farBy m_used i_everywhere i_again0 i_d0 i_never i_firstCame i_longRun i_moved i_crowd i_l0 i_fitMany i_fitLeast i_fitMost m_fitPost m_fitEnd m_keptPosts i_x0]] _ _ := G
          replace hl : lv_has ls 11 [(6, .int (nI w)), (5, .int 64), (0, .ref mo), (1, .int l_), (2, .int c_), (3, .int 2), (4, .int f_)] := hl
          refine lv_iload hx hb dX12_game_38 (lv_at hl 0 rfl) ?_
          refine lv_iload hx hb dX12_game_40 (lv_at hl 1 rfl) ?_
          refine lv_icmp_ge (tgt := 66) hx hb dX12_game_42 (by decide) (fun c_87 => ?_) (fun c_87 => ?_)
          · have c_87n : 64 ≤ w := (nI_leI (a := 64) (b := w) (by omega) (by omega)).mp c_87
            refine lv_iconst (v := (-1)) hx hb dX12_game_66 (by decide) ?_
            refine lv_istore (lv' := [(6, .int (-1)), (5, .int 64), (0, .ref mo), (1, .int l_), (2, .int c_), (3, .int 2), (4, .int f_)]) hx hb dX12_game_67 hl (by decide) (zLvf_h rfl) (fun ls hl => ?_)
            refine lv_iload_n hx hb dX12_game_69 rfl (lv_at hl 5 rfl) ?_
            refine lv_iconst (v := 1) hx hb dX12_game_70 (by decide) ?_
            refine lv_isub hx hb dX12_game_71 ?_
            refine lv_topi (fun y_88 ey_88 => ?_)
            obtain rfl : y_88 = 1 := ey_88.trans (by decide)
            refine lv_istore (lv' := [(7, .int 1), (6, .int (-1)), (5, .int 64), (0, .ref mo), (1, .int l_), (2, .int c_), (3, .int 2), (4, .int f_)]) hx hb dX12_game_72 hl (by decide) (zLvf_h rfl) (fun ls hl => ?_)
            refine lv_iload hx hb dX12_game_74 (lv_at hl 0 rfl) ?_
            refine lv_if_lt (tgt := 237) hx hb dX12_game_76 (by decide) (fun q => absurd q (by decide)) (fun _ => ?_)
            refine lv_iload hx hb dX12_game_79 (lv_at hl 2 rfl) ?_
            refine lv_bipush (v := 8) hx hb dX12_game_81 (by decide) ?_
            refine lv_idiv hx hb dX12_game_83 (by decide) ?_
            refine lv_topi (fun y_89 ey_89 => ?_)
            obtain rfl : y_89 = 8 := ey_89.trans (by decide)
            refine lv_istore (lv' := [(5, .int 8), (7, .int 1), (6, .int (-1)), (0, .ref mo), (1, .int l_), (2, .int c_), (3, .int 2), (4, .int f_)]) hx hb dX12_game_84 hl (by decide) (zLvf_h rfl) (fun ls hl => ?_)
            refine lv_iconst (v := 0) hx hb dX12_game_86 (by decide) ?_
            refine lv_istore (lv' := [(8, .int 0), (5, .int 8), (7, .int 1), (6, .int (-1)), (0, .ref mo), (1, .int l_), (2, .int c_), (3, .int 2), (4, .int f_)]) hx hb dX12_game_87 hl (by decide) (zLvf_h rfl) (fun ls hl => ?_)
            refine z_lp3 (T := T) 89 (fun (w : Nat) (x : Int32) (xrowWorth : Nat → Int32) => [[zAr T 0 m_was 7 xwas], [zAr T 0 m_rowWorth 512 xrowWorth], [zAr T 0 m_all 3952 f_all], [zAr T 0 m_posts 7 xposts], [zAr T 0 m_shut 7 xshut], [zAr T 0 m_here 7 xhere], [zO11 mo m_all m_has i_size i_next i_where i_token i_number i_word i_wrong i_farCrossing m_read j_z0_1 j_crossings_2 j_inns_3 m_posts m_shut m_here xsteps xdone xat xgone m_was m_came m_seenAt m_rowWorth m_farBy m_used i_everywhere i_again0 i_d0 i_never i_firstCame i_longRun i_moved i_crowd i_l0 i_fitMany i_fitLeast i_fitMost m_fitPost m_fitEnd m_keptPosts i_x0]]) (fun (w : Nat) (x : Int32) (xrowWorth : Nat → Int32) => [(8, .int (nI w)), (5, .int 8), (7, .int 1), (6, .int x), (0, .ref mo), (1, .int l_), (2, .int c_), (3, .int 2), (4, .int f_)]) (fun (w : Nat) (x : Int32) (xrowWorth : Nat → Int32) => w ≤ 8) (fun (w : Nat) (x : Int32) (xrowWorth : Nat → Int32) => 8 - w) ?_ 0 (-1) xrowWorth (show 0 ≤ 8 from by omega) G (lv_sub hl [0, 1, 2, 3, 4, 5, 6, 7, 8] rfl)
            intro w x xrowWorth hww ih_89 H locs ls G hl
            replace hww : w ≤ 8 := hww
            replace G : zS T A s.heap s [[zAr T 0 m_was 7 xwas], [zAr T 0 m_rowWorth 512 xrowWorth], [zAr T 0 m_all 3952 f_all], [zAr T 0 m_posts 7 xposts], [zAr T 0 m_shut 7 xshut], [zAr T 0 m_here 7 xhere], [zO11 mo m_all m_has i_size i_next i_where i_token i_number i_word i_wrong i_farCrossing m_read j_z0_1 j_crossings_2 j_inns_3 m_posts m_shut m_here xsteps xdone xat xgone m_was m_came m_seenAt m_rowWorth m_farBy m_used i_everywhere i_again0 i_d0 i_never i_firstCame i_longRun i_moved i_crowd i_l0 i_fitMany i_fitLeast i_fitMost m_fitPost m_fitEnd m_keptPosts i_x0]] _ _ := G
            replace hl : lv_has ls 11 [(8, .int (nI w)), (5, .int 8), (7, .int 1), (6, .int x), (0, .ref mo), (1, .int l_), (2, .int c_), (3, .int 2), (4, .int f_)] := hl
            refine lv_iload hx hb dX12_game_89 (lv_at hl 0 rfl) ?_
            refine lv_iload hx hb dX12_game_91 (lv_at hl 1 rfl) ?_
            refine lv_icmp_ge (tgt := 231) hx hb dX12_game_93 (by decide) (fun c_90 => ?_) (fun c_90 => ?_)
            · have c_90n : 8 ≤ w := (nI_leI (a := 8) (b := w) (by omega) (by omega)).mp c_90
              refine lv_iinc (v := 0) (lv' := [(7, .int 0), (8, .int (nI w)), (5, .int 8), (6, .int x), (0, .ref mo), (1, .int l_), (2, .int c_), (3, .int 2), (4, .int f_)]) hx hb dX12_game_231 hl (k := 2) rfl (by decide) (by decide) (zLvf_h rfl) (fun ls hl => ?_)
              refine lv_goto (tgt := 74) hx hb dX12_game_234 (by decide) ?_
              refine lv_iload hx hb dX12_game_74 (lv_at hl 0 rfl) ?_
              refine lv_if_lt (tgt := 237) hx hb dX12_game_76 (by decide) (fun q => absurd q (by decide)) (fun _ => ?_)
              refine lv_iload hx hb dX12_game_79 (lv_at hl 2 rfl) ?_
              refine lv_bipush (v := 8) hx hb dX12_game_81 (by decide) ?_
              refine lv_idiv hx hb dX12_game_83 (by decide) ?_
              refine lv_topi (fun y_91 ey_91 => ?_)
              obtain rfl : y_91 = 1 := ey_91.trans (by decide)
              refine lv_istore (lv' := [(5, .int 1), (7, .int 0), (8, .int (nI w)), (6, .int x), (0, .ref mo), (1, .int l_), (2, .int c_), (3, .int 2), (4, .int f_)]) hx hb dX12_game_84 hl (by decide) (zLvf_h rfl) (fun ls hl => ?_)
              refine lv_iconst (v := 0) hx hb dX12_game_86 (by decide) ?_
              refine lv_istore (lv' := [(8, .int 0), (5, .int 1), (7, .int 0), (6, .int x), (0, .ref mo), (1, .int l_), (2, .int c_), (3, .int 2), (4, .int f_)]) hx hb dX12_game_87 hl (by decide) (zLvf_h rfl) (fun ls hl => ?_)
              refine z_lp3 (T := T) 89 (fun (w : Nat) (x : Int32) (xrowWorth : Nat → Int32) => [[zAr T 0 m_was 7 xwas], [zAr T 0 m_rowWorth 512 xrowWorth], [zAr T 0 m_all 3952 f_all], [zAr T 0 m_posts 7 xposts], [zAr T 0 m_shut 7 xshut], [zAr T 0 m_here 7 xhere], [zO11 mo m_all m_has i_size i_next i_where i_token i_number i_word i_wrong i_farCrossing m_read j_z0_1 j_crossings_2 j_inns_3 m_posts m_shut m_here xsteps xdone xat xgone m_was m_came m_seenAt m_rowWorth m_farBy m_used i_everywhere i_again0 i_d0 i_never i_firstCame i_longRun i_moved i_crowd i_l0 i_fitMany i_fitLeast i_fitMost m_fitPost m_fitEnd m_keptPosts i_x0]]) (fun (w : Nat) (x : Int32) (xrowWorth : Nat → Int32) => [(8, .int (nI w)), (5, .int 1), (7, .int 0), (6, .int x), (0, .ref mo), (1, .int l_), (2, .int c_), (3, .int 2), (4, .int f_)]) (fun (w : Nat) (x : Int32) (xrowWorth : Nat → Int32) => w ≤ 1) (fun (w : Nat) (x : Int32) (xrowWorth : Nat → Int32) => 1 - w) ?_ 0 x xrowWorth (show 0 ≤ 1 from by omega) G (lv_sub hl [0, 1, 2, 3, 4, 5, 6, 7, 8] rfl)
              intro w x xrowWorth hww ih_89 H locs ls G hl
              replace hww : w ≤ 1 := hww
              replace G : zS T A s.heap s [[zAr T 0 m_was 7 xwas], [zAr T 0 m_rowWorth 512 xrowWorth], [zAr T 0 m_all 3952 f_all], [zAr T 0 m_posts 7 xposts], [zAr T 0 m_shut 7 xshut], [zAr T 0 m_here 7 xhere], [zO11 mo m_all m_has i_size i_next i_where i_token i_number i_word i_wrong i_farCrossing m_read j_z0_1 j_crossings_2 j_inns_3 m_posts m_shut m_here xsteps xdone xat xgone m_was m_came m_seenAt m_rowWorth m_farBy m_used i_everywhere i_again0 i_d0 i_never i_firstCame i_longRun i_moved i_crowd i_l0 i_fitMany i_fitLeast i_fitMost m_fitPost m_fitEnd m_keptPosts i_x0]] _ _ := G
              replace hl : lv_has ls 11 [(8, .int (nI w)), (5, .int 1), (7, .int 0), (6, .int x), (0, .ref mo), (1, .int l_), (2, .int c_), (3, .int 2), (4, .int f_)] := hl
              refine lv_iload hx hb dX12_game_89 (lv_at hl 0 rfl) ?_
              refine lv_iload hx hb dX12_game_91 (lv_at hl 1 rfl) ?_
              refine lv_icmp_ge (tgt := 231) hx hb dX12_game_93 (by decide) (fun c_92 => ?_) (fun c_92 => ?_)
              · have c_92n : 1 ≤ w := (nI_leI (a := 1) (b := w) (by omega) (by omega)).mp c_92
                refine lv_iinc (v := (-1)) (lv' := [(7, .int (-1)), (8, .int (nI w)), (5, .int 1), (6, .int x), (0, .ref mo), (1, .int l_), (2, .int c_), (3, .int 2), (4, .int f_)]) hx hb dX12_game_231 hl (k := 2) rfl (by decide) (by decide) (zLvf_h rfl) (fun ls hl => ?_)
                refine lv_goto (tgt := 74) hx hb dX12_game_234 (by decide) ?_
                refine lv_iload hx hb dX12_game_74 (lv_at hl 0 rfl) ?_
                refine lv_if_lt (tgt := 237) hx hb dX12_game_76 (by decide) (fun _ => ?_) (fun q => absurd (by decide) q)
                refine lv_iload hx hb dX12_game_237 (lv_at hl 8 rfl) ?_
                refine lv_if_ne (tgt := 251) hx hb dX12_game_239 (by decide) (fun c_93 => ?_) (fun c_93 => ?_)
                · have c_93n : ¬ f_.toInt = (0 : Int) := fun q => c_93 ((fa_eq _ _).mpr q)
                  refine lv_iload hx hb dX12_game_251 (lv_at hl 3 rfl) ?_
                  have G := G.sub (bs' := [[zO11 mo m_all m_has i_size i_next i_where i_token i_number i_word i_wrong i_farCrossing m_read j_z0_1 j_crossings_2 j_inns_3 m_posts m_shut m_here xsteps xdone xat xgone m_was m_came m_seenAt m_rowWorth m_farBy m_used i_everywhere i_again0 i_d0 i_never i_firstCame i_longRun i_moved i_crowd i_l0 i_fitMany i_fitLeast i_fitMost m_fitPost m_fitEnd m_keptPosts i_x0], [zAr T 0 m_all 3952 f_all], [zAr T 0 m_posts 7 xposts], [zAr T 0 m_shut 7 xshut], [zAr T 0 m_here 7 xhere], [zAr T 0 m_was 7 xwas], [zAr T 0 m_rowWorth 512 xrowWorth]]) [6, 2, 3, 4, 5, 0, 1] rfl
                  exact z_back hQz_ (z_iret C hr hlocks G (Nat.le_of_ble_eq_true rfl) (Nat.le_of_ble_eq_true rfl) dX12_game_253 ⟨j_z0_1, j_crossings_2, j_inns_3, xsteps, xdone, xat, xgone, xposts, xshut, xhere, xwas, xrowWorth, rfl⟩)
                · have c_93n : f_.toInt = (0 : Int) := (fa_eq _ _).mp c_93
                  refine lv_aload_n hx hb dX12_game_242 rfl (lv_at hl 4 rfl) ?_
                  refine z_get C G clX12 6 rfl 24 (by decide) m_fl_RX12_38 rfl dX12_game_243 ?_
                  refine lv_iconst (v := 0) hx hb dX12_game_246 (by decide) ?_
                  refine z_ild C G 1 rfl (vp_in_nI (n := 0) (by decide) (by decide)) dX12_game_247 ?_
                  refine lv_topi (fun v_94 ev_94 => ?_)
                  rw [show ((0 : Int32).toNatClampNeg) = 0 from rfl] at ev_94
                  subst ev_94
                  refine lv_goto (tgt := 253) hx hb dX12_game_248 (by decide) ?_
                  have G := G.sub (bs' := [[zO11 mo m_all m_has i_size i_next i_where i_token i_number i_word i_wrong i_farCrossing m_read j_z0_1 j_crossings_2 j_inns_3 m_posts m_shut m_here xsteps xdone xat xgone m_was m_came m_seenAt m_rowWorth m_farBy m_used i_everywhere i_again0 i_d0 i_never i_firstCame i_longRun i_moved i_crowd i_l0 i_fitMany i_fitLeast i_fitMost m_fitPost m_fitEnd m_keptPosts i_x0], [zAr T 0 m_all 3952 f_all], [zAr T 0 m_posts 7 xposts], [zAr T 0 m_shut 7 xshut], [zAr T 0 m_here 7 xhere], [zAr T 0 m_was 7 xwas], [zAr T 0 m_rowWorth 512 xrowWorth]]) [6, 2, 3, 4, 5, 0, 1] rfl
                  exact z_back hQz_ (z_iret C hr hlocks G (Nat.le_of_ble_eq_true rfl) (Nat.le_of_ble_eq_true rfl) dX12_game_253 ⟨j_z0_1, j_crossings_2, j_inns_3, xsteps, xdone, xat, xgone, xposts, xshut, xhere, xwas, xrowWorth, rfl⟩)
              · have c_92n : ¬ 1 ≤ w := fun q => c_92 ((nI_leI (a := 1) (b := w) (by omega) (by omega)).mpr q)
                refine lv_iconst (v := (-1)) hx hb dX12_game_96 (by decide) ?_
                refine lv_istore (lv' := [(6, .int (-1)), (8, .int (nI w)), (5, .int 1), (7, .int 0), (0, .ref mo), (1, .int l_), (2, .int c_), (3, .int 2), (4, .int f_)]) hx hb dX12_game_97 hl (by decide) (zLvf_h rfl) (fun ls hl => ?_)
                refine lv_iconst (v := 0) hx hb dX12_game_99 (by decide) ?_
                refine lv_istore (lv' := [(9, .int 0), (6, .int (-1)), (8, .int (nI w)), (5, .int 1), (7, .int 0), (0, .ref mo), (1, .int l_), (2, .int c_), (3, .int 2), (4, .int f_)]) hx hb dX12_game_100 hl (by decide) (zLvf_h rfl) (fun ls hl => ?_)
                refine z_lp2 (T := T) 102 (fun (i : Nat) (x : Int32) => [[zAr T 0 m_was 7 xwas], [zAr T 0 m_rowWorth 512 xrowWorth], [zAr T 0 m_all 3952 f_all], [zAr T 0 m_posts 7 xposts], [zAr T 0 m_shut 7 xshut], [zAr T 0 m_here 7 xhere], [zO11 mo m_all m_has i_size i_next i_where i_token i_number i_word i_wrong i_farCrossing m_read j_z0_1 j_crossings_2 j_inns_3 m_posts m_shut m_here xsteps xdone xat xgone m_was m_came m_seenAt m_rowWorth m_farBy m_used i_everywhere i_again0 i_d0 i_never i_firstCame i_longRun i_moved i_crowd i_l0 i_fitMany i_fitLeast i_fitMost m_fitPost m_fitEnd m_keptPosts i_x0]]) (fun (i : Nat) (x : Int32) => [(9, .int (nI i)), (6, .int x), (8, .int (nI w)), (5, .int 1), (7, .int 0), (0, .ref mo), (1, .int l_), (2, .int c_), (3, .int 2), (4, .int f_)]) (fun (i : Nat) (x : Int32) => i ≤ 8 ∧ (-1 ≤ x.toInt ∧ x.toInt ≤ 7)) (fun (i : Nat) (x : Int32) => 8 - i) ?_ 0 (-1) (show 0 ≤ 8 ∧ (-1 ≤ ((-1) : Int32).toInt ∧ ((-1) : Int32).toInt ≤ 7) from ⟨by omega, by decide⟩) G (lv_sub hl [0, 1, 2, 3, 4, 5, 6, 7, 8, 9] rfl)
                intro i x hI9 ih_102 H locs ls G hl
                replace hI9 : i ≤ 8 ∧ (-1 ≤ x.toInt ∧ x.toInt ≤ 7) := hI9
                refine zAn2 hI9 ?_
                intro hi hxx
                clear hI9
                replace G : zS T A s.heap s [[zAr T 0 m_was 7 xwas], [zAr T 0 m_rowWorth 512 xrowWorth], [zAr T 0 m_all 3952 f_all], [zAr T 0 m_posts 7 xposts], [zAr T 0 m_shut 7 xshut], [zAr T 0 m_here 7 xhere], [zO11 mo m_all m_has i_size i_next i_where i_token i_number i_word i_wrong i_farCrossing m_read j_z0_1 j_crossings_2 j_inns_3 m_posts m_shut m_here xsteps xdone xat xgone m_was m_came m_seenAt m_rowWorth m_farBy m_used i_everywhere i_again0 i_d0 i_never i_firstCame i_longRun i_moved i_crowd i_l0 i_fitMany i_fitLeast i_fitMost m_fitPost m_fitEnd m_keptPosts i_x0]] _ _ := G
                replace hl : lv_has ls 11 [(9, .int (nI i)), (6, .int x), (8, .int (nI w)), (5, .int 1), (7, .int 0), (0, .ref mo), (1, .int l_), (2, .int c_), (3, .int 2), (4, .int f_)] := hl
                refine lv_iload hx hb dX12_game_102 (lv_at hl 0 rfl) ?_
                refine lv_bipush (v := 8) hx hb dX12_game_104 (by decide) ?_
                refine lv_icmp_ge (tgt := 195) hx hb dX12_game_106 (by decide) (fun c_95 => ?_) (fun c_95 => ?_)
                · have c_95n : 8 ≤ i := (nI_leI (a := 8) (b := i) (by omega) (by omega)).mp c_95
                  refine lv_aload_n hx hb dX12_game_195 rfl (lv_at hl 5 rfl) ?_
                  refine z_get C G clX12 6 rfl 24 (by decide) m_fl_RX12_38 rfl dX12_game_196 ?_
                  refine lv_iload hx hb dX12_game_199 (lv_at hl 2 rfl) ?_
                  refine lv_iload hx hb dX12_game_201 (lv_at hl 1 rfl) ?_
                  refine lv_iconst (v := (-1)) hx hb dX12_game_203 (by decide) ?_
                  refine lv_icmp_ne (tgt := 211) hx hb dX12_game_204 (by decide) (fun c_96 => ?_) (fun c_96 => ?_)
                  · have c_96n : ¬ x.toInt = (-1 : Int) := fun q => c_96 ((fa_eq _ _).mpr q)
                    refine lv_aload_n hx hb dX12_game_211 rfl (lv_at hl 5 rfl) ?_
                    refine z_get C G clX12 6 rfl 24 (by decide) m_fl_RX12_38 rfl dX12_game_212 ?_
                    refine lv_bipush (v := 8) hx hb dX12_game_215 (by decide) ?_
                    refine lv_iload hx hb dX12_game_217 (lv_at hl 2 rfl) ?_
                    refine lv_imul hx hb dX12_game_219 ?_
                    refine lv_topi (fun y_97 ey_97 => ?_)
                    obtain rfl : y_97 = nI (8 * w) := ey_97.trans (z_imuln 8 w rfl rfl)
                    refine lv_iload hx hb dX12_game_220 (lv_at hl 1 rfl) ?_
                    refine lv_iadd hx hb dX12_game_222 ?_
                    refine lv_topi (fun y_98 ey_98 => ?_)
                    have ey_98i : y_98.toInt = ((8 * w) : Int) + x.toInt := by rw [ey_98]; exact (z_iaddI (x := (nI (8 * w))) (y := x) (by rw [nI_toInt (n := 8 * w) (by omega)]; show -2147483648 ≤ ((8 * w) : Int) + x.toInt; omega) (by rw [nI_toInt (n := 8 * w) (by omega)]; show ((8 * w) : Int) + x.toInt < 2147483648; omega)).trans (by rw [nI_toInt (n := 8 * w) (by omega)] <;> rfl)
                    refine z_ild C G 1 rfl (vp_in_iff.mpr ⟨by omega, by omega⟩) dX12_game_223 ?_
                    refine lv_topi (fun v_99 ev_99 => ?_)
                    subst ev_99
                    refine z_ist C G 1 rfl (vp_in_nI (by omega) (by decide)) dX12_game_224 (fun H locs G => ?_)
                    rw [nI_clamp (by omega)] at G
                    have G : zS T A s.heap s [[zAr T 0 m_was 7 xwas], [zAr T 0 m_rowWorth 512 (upd xrowWorth w (xrowWorth y_98.toNatClampNeg))], [zAr T 0 m_all 3952 f_all], [zAr T 0 m_posts 7 xposts], [zAr T 0 m_shut 7 xshut], [zAr T 0 m_here 7 xhere], [zO11 mo m_all m_has i_size i_next i_where i_token i_number i_word i_wrong i_farCrossing m_read j_z0_1 j_crossings_2 j_inns_3 m_posts m_shut m_here xsteps xdone xat xgone m_was m_came m_seenAt m_rowWorth m_farBy m_used i_everywhere i_again0 i_d0 i_never i_firstCame i_longRun i_moved i_crowd i_l0 i_fitMany i_fitLeast i_fitMost m_fitPost m_fitEnd m_keptPosts i_x0]] _ _ := G
                    refine lv_iinc (v := nI (w + 1)) (lv' := [(8, .int (nI (w + 1))), (9, .int (nI i)), (6, .int x), (5, .int 1), (7, .int 0), (0, .ref mo), (1, .int l_), (2, .int c_), (3, .int 2), (4, .int f_)]) hx hb dX12_game_225 hl (k := 2) rfl (z_inc w 1) (by decide) (zLvf_h rfl) (fun ls hl => ?_)
                    refine lv_goto (tgt := 89) hx hb dX12_game_228 (by decide) ?_
                    exact ih_89 (w + 1) x (upd xrowWorth w (xrowWorth y_98.toNatClampNeg)) (show (w + 1) ≤ 1 from by omega) (show 1 - (w + 1) < 1 - w from by omega) _ _ ls G (lv_sub hl [0, 3, 4, 2, 5, 6, 7, 8, 9] rfl)
                  · have c_96n : x.toInt = (-1 : Int) := (fa_eq _ _).mp c_96
                    refine lv_iconst (v := (-1)) hx hb dX12_game_207 (by decide) ?_
                    refine lv_goto (tgt := 224) hx hb dX12_game_208 (by decide) ?_
                    refine z_ist C G 1 rfl (vp_in_nI (by omega) (by decide)) dX12_game_224 (fun H locs G => ?_)
                    rw [nI_clamp (by omega)] at G
                    have G : zS T A s.heap s [[zAr T 0 m_was 7 xwas], [zAr T 0 m_rowWorth 512 (upd xrowWorth w (-1))], [zAr T 0 m_all 3952 f_all], [zAr T 0 m_posts 7 xposts], [zAr T 0 m_shut 7 xshut], [zAr T 0 m_here 7 xhere], [zO11 mo m_all m_has i_size i_next i_where i_token i_number i_word i_wrong i_farCrossing m_read j_z0_1 j_crossings_2 j_inns_3 m_posts m_shut m_here xsteps xdone xat xgone m_was m_came m_seenAt m_rowWorth m_farBy m_used i_everywhere i_again0 i_d0 i_never i_firstCame i_longRun i_moved i_crowd i_l0 i_fitMany i_fitLeast i_fitMost m_fitPost m_fitEnd m_keptPosts i_x0]] _ _ := G
                    refine lv_iinc (v := nI (w + 1)) (lv' := [(8, .int (nI (w + 1))), (9, .int (nI i)), (6, .int x), (5, .int 1), (7, .int 0), (0, .ref mo), (1, .int l_), (2, .int c_), (3, .int 2), (4, .int f_)]) hx hb dX12_game_225 hl (k := 2) rfl (z_inc w 1) (by decide) (zLvf_h rfl) (fun ls hl => ?_)
                    refine lv_goto (tgt := 89) hx hb dX12_game_228 (by decide) ?_
                    exact ih_89 (w + 1) x (upd xrowWorth w (-1)) (show (w + 1) ≤ 1 from by omega) (show 1 - (w + 1) < 1 - w from by omega) _ _ ls G (lv_sub hl [0, 3, 4, 2, 5, 6, 7, 8, 9] rfl)
                · have c_95n : ¬ 8 ≤ i := fun q => c_95 ((nI_leI (a := 8) (b := i) (by omega) (by omega)).mpr q)
                  refine lv_aload_n hx hb dX12_game_109 rfl (lv_at hl 5 rfl) ?_
                  refine z_get C G clX12 6 rfl 24 (by decide) m_fl_RX12_38 rfl dX12_game_110 ?_
                  refine lv_bipush (v := 8) hx hb dX12_game_113 (by decide) ?_
                  refine lv_iload hx hb dX12_game_115 (lv_at hl 2 rfl) ?_
                  refine lv_imul hx hb dX12_game_117 ?_
                  refine lv_topi (fun y_100 ey_100 => ?_)
                  obtain rfl : y_100 = nI (8 * w) := ey_100.trans (z_imuln 8 w rfl rfl)
                  refine lv_iload hx hb dX12_game_118 (lv_at hl 0 rfl) ?_
                  refine lv_iadd hx hb dX12_game_120 ?_
                  refine lv_topi (fun y_101 ey_101 => ?_)
                  obtain rfl : y_101 = nI ((8 * w) + i) := ey_101.trans (z_iaddn (8 * w) i rfl rfl)
                  refine z_ild C G 1 rfl (vp_in_nI (by omega) (by decide)) dX12_game_121 ?_
                  refine lv_topi (fun v_102 ev_102 => ?_)
                  rw [nI_clamp (by omega)] at ev_102
                  subst ev_102
                  refine lv_istore (lv' := [(10, .int (xrowWorth ((8 * w) + i))), (9, .int (nI i)), (6, .int x), (8, .int (nI w)), (5, .int 1), (7, .int 0), (0, .ref mo), (1, .int l_), (2, .int c_), (3, .int 2), (4, .int f_)]) hx hb dX12_game_122 hl (by decide) (zLvf_h rfl) (fun ls hl => ?_)
                  refine lv_iload hx hb dX12_game_124 (lv_at hl 0 rfl) ?_
                  refine lv_iconst (v := (-1)) hx hb dX12_game_126 (by decide) ?_
                  refine lv_icmp_eq (tgt := 189) hx hb dX12_game_127 (by decide) (fun c_103 => ?_) (fun c_103 => ?_)
                  · have c_103n : (xrowWorth ((8 * w) + i)).toInt = (-1 : Int) := (fa_eq _ _).mp c_103
                    refine lv_iinc (v := nI (i + 1)) (lv' := [(9, .int (nI (i + 1))), (10, .int (xrowWorth ((8 * w) + i))), (6, .int x), (8, .int (nI w)), (5, .int 1), (7, .int 0), (0, .ref mo), (1, .int l_), (2, .int c_), (3, .int 2), (4, .int f_)]) hx hb dX12_game_189 hl (k := 1) rfl (z_inc i 1) (by decide) (zLvf_h rfl) (fun ls hl => ?_)
                    refine lv_goto (tgt := 102) hx hb dX12_game_192 (by decide) ?_
                    exact ih_102 (i + 1) x (show (i + 1) ≤ 8 ∧ (-1 ≤ x.toInt ∧ x.toInt ≤ 7) from ⟨by omega, by have t9 := nI_toInt (n := i) (by omega); omega⟩) (show 8 - (i + 1) < 8 - i from by omega) _ _ ls G (lv_sub hl [0, 2, 3, 4, 5, 6, 7, 8, 9, 10] rfl)
                  · have c_103n : ¬ (xrowWorth ((8 * w) + i)).toInt = (-1 : Int) := fun q => c_103 ((fa_eq _ _).mpr q)
                    refine lv_iload hx hb dX12_game_130 (lv_at hl 2 rfl) ?_
                    refine lv_iconst (v := (-1)) hx hb dX12_game_132 (by decide) ?_
                    refine lv_icmp_eq (tgt := 185) hx hb dX12_game_133 (by decide) (fun c_104 => ?_) (fun c_104 => ?_)
                    · have c_104n : x.toInt = (-1 : Int) := (fa_eq _ _).mp c_104
                      refine lv_iload hx hb dX12_game_185 (lv_at hl 1 rfl) ?_
                      refine lv_istore (lv' := [(6, .int (nI i)), (10, .int (xrowWorth ((8 * w) + i))), (9, .int (nI i)), (8, .int (nI w)), (5, .int 1), (7, .int 0), (0, .ref mo), (1, .int l_), (2, .int c_), (3, .int 2), (4, .int f_)]) hx hb dX12_game_187 hl (by decide) (zLvf_h rfl) (fun ls hl => ?_)
                      refine lv_iinc (v := nI (i + 1)) (lv' := [(9, .int (nI (i + 1))), (6, .int (nI i)), (10, .int (xrowWorth ((8 * w) + i))), (8, .int (nI w)), (5, .int 1), (7, .int 0), (0, .ref mo), (1, .int l_), (2, .int c_), (3, .int 2), (4, .int f_)]) hx hb dX12_game_189 hl (k := 2) rfl (z_inc i 1) (by decide) (zLvf_h rfl) (fun ls hl => ?_)
                      refine lv_goto (tgt := 102) hx hb dX12_game_192 (by decide) ?_
                      exact ih_102 (i + 1) (nI i) (show (i + 1) ≤ 8 ∧ (-1 ≤ (nI i).toInt ∧ (nI i).toInt ≤ 7) from ⟨by omega, by have t9 := nI_toInt (n := i) (by omega); omega⟩) (show 8 - (i + 1) < 8 - i from by omega) _ _ ls G (lv_sub hl [0, 1, 3, 4, 5, 6, 7, 8, 9, 10] rfl)
                    · have c_104n : ¬ x.toInt = (-1 : Int) := fun q => c_104 ((fa_eq _ _).mpr q)
                      refine lv_iload hx hb dX12_game_136 (lv_at hl 5 rfl) ?_
                      refine lv_iconst (v := 2) hx hb dX12_game_138 (by decide) ?_
                      refine lv_irem hx hb dX12_game_139 (by decide) ?_
                      refine lv_topi (fun y_105 ey_105 => ?_)
                      obtain rfl : y_105 = 0 := ey_105.trans (by decide)
                      refine lv_if_ne (tgt := 164) hx hb dX12_game_140 (by decide) (fun q => absurd (by decide) q) (fun _ => ?_)
                      refine lv_iload hx hb dX12_game_143 (lv_at hl 0 rfl) ?_
                      refine lv_aload_n hx hb dX12_game_145 rfl (lv_at hl 6 rfl) ?_
                      refine z_get C G clX12 6 rfl 24 (by decide) m_fl_RX12_38 rfl dX12_game_146 ?_
                      refine lv_bipush (v := 8) hx hb dX12_game_149 (by decide) ?_
                      refine lv_iload hx hb dX12_game_151 (lv_at hl 3 rfl) ?_
                      refine lv_imul hx hb dX12_game_153 ?_
                      refine lv_topi (fun y_106 ey_106 => ?_)
                      obtain rfl : y_106 = nI (8 * w) := ey_106.trans (z_imuln 8 w rfl rfl)
                      refine lv_iload hx hb dX12_game_154 (lv_at hl 2 rfl) ?_
                      refine lv_iadd hx hb dX12_game_156 ?_
                      refine lv_topi (fun y_107 ey_107 => ?_)
                      have ey_107i : y_107.toInt = ((8 * w) : Int) + x.toInt := by rw [ey_107]; exact (z_iaddI (x := (nI (8 * w))) (y := x) (by rw [nI_toInt (n := 8 * w) (by omega)]; show -2147483648 ≤ ((8 * w) : Int) + x.toInt; omega) (by rw [nI_toInt (n := 8 * w) (by omega)]; show ((8 * w) : Int) + x.toInt < 2147483648; omega)).trans (by rw [nI_toInt (n := 8 * w) (by omega)] <;> rfl)
                      refine z_ild C G 1 rfl (vp_in_iff.mpr ⟨by omega, by omega⟩) dX12_game_157 ?_
                      refine lv_topi (fun v_108 ev_108 => ?_)
                      subst ev_108
                      refine lv_icmp_lt (tgt := 185) hx hb dX12_game_158 (by decide) (fun c_109 => ?_) (fun c_109 => ?_)
                      · have c_109n : (xrowWorth ((8 * w) + i)).toInt < (xrowWorth y_107.toNatClampNeg).toInt := (fa_lt _ _).mp c_109
                        refine lv_iload hx hb dX12_game_185 (lv_at hl 1 rfl) ?_
                        refine lv_istore (lv' := [(6, .int (nI i)), (10, .int (xrowWorth ((8 * w) + i))), (9, .int (nI i)), (8, .int (nI w)), (5, .int 1), (7, .int 0), (0, .ref mo), (1, .int l_), (2, .int c_), (3, .int 2), (4, .int f_)]) hx hb dX12_game_187 hl (by decide) (zLvf_h rfl) (fun ls hl => ?_)
                        refine lv_iinc (v := nI (i + 1)) (lv' := [(9, .int (nI (i + 1))), (6, .int (nI i)), (10, .int (xrowWorth ((8 * w) + i))), (8, .int (nI w)), (5, .int 1), (7, .int 0), (0, .ref mo), (1, .int l_), (2, .int c_), (3, .int 2), (4, .int f_)]) hx hb dX12_game_189 hl (k := 2) rfl (z_inc i 1) (by decide) (zLvf_h rfl) (fun ls hl => ?_)
                        refine lv_goto (tgt := 102) hx hb dX12_game_192 (by decide) ?_
                        exact ih_102 (i + 1) (nI i) (show (i + 1) ≤ 8 ∧ (-1 ≤ (nI i).toInt ∧ (nI i).toInt ≤ 7) from ⟨by omega, by have t9 := nI_toInt (n := i) (by omega); omega⟩) (show 8 - (i + 1) < 8 - i from by omega) _ _ ls G (lv_sub hl [0, 1, 3, 4, 5, 6, 7, 8, 9, 10] rfl)
                      · have c_109n : ¬ (xrowWorth ((8 * w) + i)).toInt < (xrowWorth y_107.toNatClampNeg).toInt := fun q => c_109 ((fa_lt _ _).mpr q)
                        refine lv_goto (tgt := 189) hx hb dX12_game_161 (by decide) ?_
                        refine lv_iinc (v := nI (i + 1)) (lv' := [(9, .int (nI (i + 1))), (10, .int (xrowWorth ((8 * w) + i))), (6, .int x), (8, .int (nI w)), (5, .int 1), (7, .int 0), (0, .ref mo), (1, .int l_), (2, .int c_), (3, .int 2), (4, .int f_)]) hx hb dX12_game_189 hl (k := 1) rfl (z_inc i 1) (by decide) (zLvf_h rfl) (fun ls hl => ?_)
                        refine lv_goto (tgt := 102) hx hb dX12_game_192 (by decide) ?_
                        exact ih_102 (i + 1) x (show (i + 1) ≤ 8 ∧ (-1 ≤ x.toInt ∧ x.toInt ≤ 7) from ⟨by omega, by have t9 := nI_toInt (n := i) (by omega); omega⟩) (show 8 - (i + 1) < 8 - i from by omega) _ _ ls G (lv_sub hl [0, 2, 3, 4, 5, 6, 7, 8, 9, 10] rfl)
            · have c_90n : ¬ 8 ≤ w := fun q => c_90 ((nI_leI (a := 8) (b := w) (by omega) (by omega)).mpr q)
              refine lv_iconst (v := (-1)) hx hb dX12_game_96 (by decide) ?_
              refine lv_istore (lv' := [(6, .int (-1)), (8, .int (nI w)), (5, .int 8), (7, .int 1), (0, .ref mo), (1, .int l_), (2, .int c_), (3, .int 2), (4, .int f_)]) hx hb dX12_game_97 hl (by decide) (zLvf_h rfl) (fun ls hl => ?_)
              refine lv_iconst (v := 0) hx hb dX12_game_99 (by decide) ?_
              refine lv_istore (lv' := [(9, .int 0), (6, .int (-1)), (8, .int (nI w)), (5, .int 8), (7, .int 1), (0, .ref mo), (1, .int l_), (2, .int c_), (3, .int 2), (4, .int f_)]) hx hb dX12_game_100 hl (by decide) (zLvf_h rfl) (fun ls hl => ?_)
              refine z_lp2 (T := T) 102 (fun (i : Nat) (x : Int32) => [[zAr T 0 m_was 7 xwas], [zAr T 0 m_rowWorth 512 xrowWorth], [zAr T 0 m_all 3952 f_all], [zAr T 0 m_posts 7 xposts], [zAr T 0 m_shut 7 xshut], [zAr T 0 m_here 7 xhere], [zO11 mo m_all m_has i_size i_next i_where i_token i_number i_word i_wrong i_farCrossing m_read j_z0_1 j_crossings_2 j_inns_3 m_posts m_shut m_here xsteps xdone xat xgone m_was m_came m_seenAt m_rowWorth m_farBy m_used i_everywhere i_again0 i_d0 i_never i_firstCame i_longRun i_moved i_crowd i_l0 i_fitMany i_fitLeast i_fitMost m_fitPost m_fitEnd m_keptPosts i_x0]]) (fun (i : Nat) (x : Int32) => [(9, .int (nI i)), (6, .int x), (8, .int (nI w)), (5, .int 8), (7, .int 1), (0, .ref mo), (1, .int l_), (2, .int c_), (3, .int 2), (4, .int f_)]) (fun (i : Nat) (x : Int32) => i ≤ 8 ∧ (-1 ≤ x.toInt ∧ x.toInt ≤ 7)) (fun (i : Nat) (x : Int32) => 8 - i) ?_ 0 (-1) (show 0 ≤ 8 ∧ (-1 ≤ ((-1) : Int32).toInt ∧ ((-1) : Int32).toInt ≤ 7) from ⟨by omega, by decide⟩) G (lv_sub hl [0, 1, 2, 3, 4, 5, 6, 7, 8, 9] rfl)
              intro i x hI9 ih_102 H locs ls G hl
              replace hI9 : i ≤ 8 ∧ (-1 ≤ x.toInt ∧ x.toInt ≤ 7) := hI9
              refine zAn2 hI9 ?_
              intro hi hxx
              clear hI9
              replace G : zS T A s.heap s [[zAr T 0 m_was 7 xwas], [zAr T 0 m_rowWorth 512 xrowWorth], [zAr T 0 m_all 3952 f_all], [zAr T 0 m_posts 7 xposts], [zAr T 0 m_shut 7 xshut], [zAr T 0 m_here 7 xhere], [zO11 mo m_all m_has i_size i_next i_where i_token i_number i_word i_wrong i_farCrossing m_read j_z0_1 j_crossings_2 j_inns_3 m_posts m_shut m_here xsteps xdone xat xgone m_was m_came m_seenAt m_rowWorth m_farBy m_used i_everywhere i_again0 i_d0 i_never i_firstCame i_longRun i_moved i_crowd i_l0 i_fitMany i_fitLeast i_fitMost m_fitPost m_fitEnd m_keptPosts i_x0]] _ _ := G
              replace hl : lv_has ls 11 [(9, .int (nI i)), (6, .int x), (8, .int (nI w)), (5, .int 8), (7, .int 1), (0, .ref mo), (1, .int l_), (2, .int c_), (3, .int 2), (4, .int f_)] := hl
              refine lv_iload hx hb dX12_game_102 (lv_at hl 0 rfl) ?_
              refine lv_bipush (v := 8) hx hb dX12_game_104 (by decide) ?_
              refine lv_icmp_ge (tgt := 195) hx hb dX12_game_106 (by decide) (fun c_110 => ?_) (fun c_110 => ?_)
              · have c_110n : 8 ≤ i := (nI_leI (a := 8) (b := i) (by omega) (by omega)).mp c_110
                refine lv_aload_n hx hb dX12_game_195 rfl (lv_at hl 5 rfl) ?_
                refine z_get C G clX12 6 rfl 24 (by decide) m_fl_RX12_38 rfl dX12_game_196 ?_
                refine lv_iload hx hb dX12_game_199 (lv_at hl 2 rfl) ?_
                refine lv_iload hx hb dX12_game_201 (lv_at hl 1 rfl) ?_
                refine lv_iconst (v := (-1)) hx hb dX12_game_203 (by decide) ?_
                refine lv_icmp_ne (tgt := 211) hx hb dX12_game_204 (by decide) (fun c_111 => ?_) (fun c_111 => ?_)
                · have c_111n : ¬ x.toInt = (-1 : Int) := fun q => c_111 ((fa_eq _ _).mpr q)
                  refine lv_aload_n hx hb dX12_game_211 rfl (lv_at hl 5 rfl) ?_
                  refine z_get C G clX12 6 rfl 24 (by decide) m_fl_RX12_38 rfl dX12_game_212 ?_
                  refine lv_bipush (v := 8) hx hb dX12_game_215 (by decide) ?_
                  refine lv_iload hx hb dX12_game_217 (lv_at hl 2 rfl) ?_
                  refine lv_imul hx hb dX12_game_219 ?_
                  refine lv_topi (fun y_112 ey_112 => ?_)
                  obtain rfl : y_112 = nI (8 * w) := ey_112.trans (z_imuln 8 w rfl rfl)
                  refine lv_iload hx hb dX12_game_220 (lv_at hl 1 rfl) ?_
                  refine lv_iadd hx hb dX12_game_222 ?_
                  refine lv_topi (fun y_113 ey_113 => ?_)
                  have ey_113i : y_113.toInt = ((8 * w) : Int) + x.toInt := by rw [ey_113]; exact (z_iaddI (x := (nI (8 * w))) (y := x) (by rw [nI_toInt (n := 8 * w) (by omega)]; show -2147483648 ≤ ((8 * w) : Int) + x.toInt; omega) (by rw [nI_toInt (n := 8 * w) (by omega)]; show ((8 * w) : Int) + x.toInt < 2147483648; omega)).trans (by rw [nI_toInt (n := 8 * w) (by omega)] <;> rfl)
                  refine z_ild C G 1 rfl (vp_in_iff.mpr ⟨by omega, by omega⟩) dX12_game_223 ?_
                  refine lv_topi (fun v_114 ev_114 => ?_)
                  subst ev_114
                  refine z_ist C G 1 rfl (vp_in_nI (by omega) (by decide)) dX12_game_224 (fun H locs G => ?_)
                  rw [nI_clamp (by omega)] at G
                  have G : zS T A s.heap s [[zAr T 0 m_was 7 xwas], [zAr T 0 m_rowWorth 512 (upd xrowWorth w (xrowWorth y_113.toNatClampNeg))], [zAr T 0 m_all 3952 f_all], [zAr T 0 m_posts 7 xposts], [zAr T 0 m_shut 7 xshut], [zAr T 0 m_here 7 xhere], [zO11 mo m_all m_has i_size i_next i_where i_token i_number i_word i_wrong i_farCrossing m_read j_z0_1 j_crossings_2 j_inns_3 m_posts m_shut m_here xsteps xdone xat xgone m_was m_came m_seenAt m_rowWorth m_farBy m_used i_everywhere i_again0 i_d0 i_never i_firstCame i_longRun i_moved i_crowd i_l0 i_fitMany i_fitLeast i_fitMost m_fitPost m_fitEnd m_keptPosts i_x0]] _ _ := G
                  refine lv_iinc (v := nI (w + 1)) (lv' := [(8, .int (nI (w + 1))), (9, .int (nI i)), (6, .int x), (5, .int 8), (7, .int 1), (0, .ref mo), (1, .int l_), (2, .int c_), (3, .int 2), (4, .int f_)]) hx hb dX12_game_225 hl (k := 2) rfl (z_inc w 1) (by decide) (zLvf_h rfl) (fun ls hl => ?_)
                  refine lv_goto (tgt := 89) hx hb dX12_game_228 (by decide) ?_
                  exact ih_89 (w + 1) x (upd xrowWorth w (xrowWorth y_113.toNatClampNeg)) (show (w + 1) ≤ 8 from by omega) (show 8 - (w + 1) < 8 - w from by omega) _ _ ls G (lv_sub hl [0, 3, 4, 2, 5, 6, 7, 8, 9] rfl)
                · have c_111n : x.toInt = (-1 : Int) := (fa_eq _ _).mp c_111
                  refine lv_iconst (v := (-1)) hx hb dX12_game_207 (by decide) ?_
                  refine lv_goto (tgt := 224) hx hb dX12_game_208 (by decide) ?_
                  refine z_ist C G 1 rfl (vp_in_nI (by omega) (by decide)) dX12_game_224 (fun H locs G => ?_)
                  rw [nI_clamp (by omega)] at G
                  have G : zS T A s.heap s [[zAr T 0 m_was 7 xwas], [zAr T 0 m_rowWorth 512 (upd xrowWorth w (-1))], [zAr T 0 m_all 3952 f_all], [zAr T 0 m_posts 7 xposts], [zAr T 0 m_shut 7 xshut], [zAr T 0 m_here 7 xhere], [zO11 mo m_all m_has i_size i_next i_where i_token i_number i_word i_wrong i_farCrossing m_read j_z0_1 j_crossings_2 j_inns_3 m_posts m_shut m_here xsteps xdone xat xgone m_was m_came m_seenAt m_rowWorth m_farBy m_used i_everywhere i_again0 i_d0 i_never i_firstCame i_longRun i_moved i_crowd i_l0 i_fitMany i_fitLeast i_fitMost m_fitPost m_fitEnd m_keptPosts i_x0]] _ _ := G
                  refine lv_iinc (v := nI (w + 1)) (lv' := [(8, .int (nI (w + 1))), (9, .int (nI i)), (6, .int x), (5, .int 8), (7, .int 1), (0, .ref mo), (1, .int l_), (2, .int c_), (3, .int 2), (4, .int f_)]) hx hb dX12_game_225 hl (k := 2) rfl (z_inc w 1) (by decide) (zLvf_h rfl) (fun ls hl => ?_)
                  refine lv_goto (tgt := 89) hx hb dX12_game_228 (by decide) ?_
                  exact ih_89 (w + 1) x (upd xrowWorth w (-1)) (show (w + 1) ≤ 8 from by omega) (show 8 - (w + 1) < 8 - w from by omega) _ _ ls G (lv_sub hl [0, 3, 4, 2, 5, 6, 7, 8, 9] rfl)
              · have c_110n : ¬ 8 ≤ i := fun q => c_110 ((nI_leI (a := 8) (b := i) (by omega) (by omega)).mpr q)
                refine lv_aload_n hx hb dX12_game_109 rfl (lv_at hl 5 rfl) ?_
                refine z_get C G clX12 6 rfl 24 (by decide) m_fl_RX12_38 rfl dX12_game_110 ?_
                refine lv_bipush (v := 8) hx hb dX12_game_113 (by decide) ?_
                refine lv_iload hx hb dX12_game_115 (lv_at hl 2 rfl) ?_
                refine lv_imul hx hb dX12_game_117 ?_
                refine lv_topi (fun y_115 ey_115 => ?_)
                obtain rfl : y_115 = nI (8 * w) := ey_115.trans (z_imuln 8 w rfl rfl)
                refine lv_iload hx hb dX12_game_118 (lv_at hl 0 rfl) ?_
                refine lv_iadd hx hb dX12_game_120 ?_
                refine lv_topi (fun y_116 ey_116 => ?_)
                obtain rfl : y_116 = nI ((8 * w) + i) := ey_116.trans (z_iaddn (8 * w) i rfl rfl)
                refine z_ild C G 1 rfl (vp_in_nI (by omega) (by decide)) dX12_game_121 ?_
                refine lv_topi (fun v_117 ev_117 => ?_)
                rw [nI_clamp (by omega)] at ev_117
                subst ev_117
                refine lv_istore (lv' := [(10, .int (xrowWorth ((8 * w) + i))), (9, .int (nI i)), (6, .int x), (8, .int (nI w)), (5, .int 8), (7, .int 1), (0, .ref mo), (1, .int l_), (2, .int c_), (3, .int 2), (4, .int f_)]) hx hb dX12_game_122 hl (by decide) (zLvf_h rfl) (fun ls hl => ?_)
                refine lv_iload hx hb dX12_game_124 (lv_at hl 0 rfl) ?_
                refine lv_iconst (v := (-1)) hx hb dX12_game_126 (by decide) ?_
                refine lv_icmp_eq (tgt := 189) hx hb dX12_game_127 (by decide) (fun c_118 => ?_) (fun c_118 => ?_)
                · have c_118n : (xrowWorth ((8 * w) + i)).toInt = (-1 : Int) := (fa_eq _ _).mp c_118
                  refine lv_iinc (v := nI (i + 1)) (lv' := [(9, .int (nI (i + 1))), (10, .int (xrowWorth ((8 * w) + i))), (6, .int x), (8, .int (nI w)), (5, .int 8), (7, .int 1), (0, .ref mo), (1, .int l_), (2, .int c_), (3, .int 2), (4, .int f_)]) hx hb dX12_game_189 hl (k := 1) rfl (z_inc i 1) (by decide) (zLvf_h rfl) (fun ls hl => ?_)
                  refine lv_goto (tgt := 102) hx hb dX12_game_192 (by decide) ?_
                  exact ih_102 (i + 1) x (show (i + 1) ≤ 8 ∧ (-1 ≤ x.toInt ∧ x.toInt ≤ 7) from ⟨by omega, by have t9 := nI_toInt (n := i) (by omega); omega⟩) (show 8 - (i + 1) < 8 - i from by omega) _ _ ls G (lv_sub hl [0, 2, 3, 4, 5, 6, 7, 8, 9, 10] rfl)
                · have c_118n : ¬ (xrowWorth ((8 * w) + i)).toInt = (-1 : Int) := fun q => c_118 ((fa_eq _ _).mpr q)
                  refine lv_iload hx hb dX12_game_130 (lv_at hl 2 rfl) ?_
                  refine lv_iconst (v := (-1)) hx hb dX12_game_132 (by decide) ?_
                  refine lv_icmp_eq (tgt := 185) hx hb dX12_game_133 (by decide) (fun c_119 => ?_) (fun c_119 => ?_)
                  · have c_119n : x.toInt = (-1 : Int) := (fa_eq _ _).mp c_119
                    refine lv_iload hx hb dX12_game_185 (lv_at hl 1 rfl) ?_
                    refine lv_istore (lv' := [(6, .int (nI i)), (10, .int (xrowWorth ((8 * w) + i))), (9, .int (nI i)), (8, .int (nI w)), (5, .int 8), (7, .int 1), (0, .ref mo), (1, .int l_), (2, .int c_), (3, .int 2), (4, .int f_)]) hx hb dX12_game_187 hl (by decide) (zLvf_h rfl) (fun ls hl => ?_)
                    refine lv_iinc (v := nI (i + 1)) (lv' := [(9, .int (nI (i + 1))), (6, .int (nI i)), (10, .int (xrowWorth ((8 * w) + i))), (8, .int (nI w)), (5, .int 8), (7, .int 1), (0, .ref mo), (1, .int l_), (2, .int c_), (3, .int 2), (4, .int f_)]) hx hb dX12_game_189 hl (k := 2) rfl (z_inc i 1) (by decide) (zLvf_h rfl) (fun ls hl => ?_)
                    refine lv_goto (tgt := 102) hx hb dX12_game_192 (by decide) ?_
                    exact ih_102 (i + 1) (nI i) (show (i + 1) ≤ 8 ∧ (-1 ≤ (nI i).toInt ∧ (nI i).toInt ≤ 7) from ⟨by omega, by have t9 := nI_toInt (n := i) (by omega); omega⟩) (show 8 - (i + 1) < 8 - i from by omega) _ _ ls G (lv_sub hl [0, 1, 3, 4, 5, 6, 7, 8, 9, 10] rfl)
                  · have c_119n : ¬ x.toInt = (-1 : Int) := fun q => c_119 ((fa_eq _ _).mpr q)
                    refine lv_iload hx hb dX12_game_136 (lv_at hl 5 rfl) ?_
                    refine lv_iconst (v := 2) hx hb dX12_game_138 (by decide) ?_
                    refine lv_irem hx hb dX12_game_139 (by decide) ?_
                    refine lv_topi (fun y_120 ey_120 => ?_)
                    obtain rfl : y_120 = 1 := ey_120.trans (by decide)
                    refine lv_if_ne (tgt := 164) hx hb dX12_game_140 (by decide) (fun _ => ?_) (fun q => absurd q (by decide))
                    refine lv_iload hx hb dX12_game_164 (lv_at hl 0 rfl) ?_
                    refine lv_aload_n hx hb dX12_game_166 rfl (lv_at hl 6 rfl) ?_
                    refine z_get C G clX12 6 rfl 24 (by decide) m_fl_RX12_38 rfl dX12_game_167 ?_
                    refine lv_bipush (v := 8) hx hb dX12_game_170 (by decide) ?_
                    refine lv_iload hx hb dX12_game_172 (lv_at hl 3 rfl) ?_
                    refine lv_imul hx hb dX12_game_174 ?_
                    refine lv_topi (fun y_121 ey_121 => ?_)
                    obtain rfl : y_121 = nI (8 * w) := ey_121.trans (z_imuln 8 w rfl rfl)
                    refine lv_iload hx hb dX12_game_175 (lv_at hl 2 rfl) ?_
                    refine lv_iadd hx hb dX12_game_177 ?_
                    refine lv_topi (fun y_122 ey_122 => ?_)
                    have ey_122i : y_122.toInt = ((8 * w) : Int) + x.toInt := by rw [ey_122]; exact (z_iaddI (x := (nI (8 * w))) (y := x) (by rw [nI_toInt (n := 8 * w) (by omega)]; show -2147483648 ≤ ((8 * w) : Int) + x.toInt; omega) (by rw [nI_toInt (n := 8 * w) (by omega)]; show ((8 * w) : Int) + x.toInt < 2147483648; omega)).trans (by rw [nI_toInt (n := 8 * w) (by omega)] <;> rfl)
                    refine z_ild C G 1 rfl (vp_in_iff.mpr ⟨by omega, by omega⟩) dX12_game_178 ?_
                    refine lv_topi (fun v_123 ev_123 => ?_)
                    subst ev_123
                    refine lv_icmp_gt (tgt := 185) hx hb dX12_game_179 (by decide) (fun c_124 => ?_) (fun c_124 => ?_)
                    · have c_124n : (xrowWorth y_122.toNatClampNeg).toInt < (xrowWorth ((8 * w) + i)).toInt := (fa_lt _ _).mp c_124
                      refine lv_iload hx hb dX12_game_185 (lv_at hl 1 rfl) ?_
                      refine lv_istore (lv' := [(6, .int (nI i)), (10, .int (xrowWorth ((8 * w) + i))), (9, .int (nI i)), (8, .int (nI w)), (5, .int 8), (7, .int 1), (0, .ref mo), (1, .int l_), (2, .int c_), (3, .int 2), (4, .int f_)]) hx hb dX12_game_187 hl (by decide) (zLvf_h rfl) (fun ls hl => ?_)
                      refine lv_iinc (v := nI (i + 1)) (lv' := [(9, .int (nI (i + 1))), (6, .int (nI i)), (10, .int (xrowWorth ((8 * w) + i))), (8, .int (nI w)), (5, .int 8), (7, .int 1), (0, .ref mo), (1, .int l_), (2, .int c_), (3, .int 2), (4, .int f_)]) hx hb dX12_game_189 hl (k := 2) rfl (z_inc i 1) (by decide) (zLvf_h rfl) (fun ls hl => ?_)
                      refine lv_goto (tgt := 102) hx hb dX12_game_192 (by decide) ?_
                      exact ih_102 (i + 1) (nI i) (show (i + 1) ≤ 8 ∧ (-1 ≤ (nI i).toInt ∧ (nI i).toInt ≤ 7) from ⟨by omega, by have t9 := nI_toInt (n := i) (by omega); omega⟩) (show 8 - (i + 1) < 8 - i from by omega) _ _ ls G (lv_sub hl [0, 1, 3, 4, 5, 6, 7, 8, 9, 10] rfl)
                    · have c_124n : ¬ (xrowWorth y_122.toNatClampNeg).toInt < (xrowWorth ((8 * w) + i)).toInt := fun q => c_124 ((fa_lt _ _).mpr q)
                      refine lv_goto (tgt := 189) hx hb dX12_game_182 (by decide) ?_
                      refine lv_iinc (v := nI (i + 1)) (lv' := [(9, .int (nI (i + 1))), (10, .int (xrowWorth ((8 * w) + i))), (6, .int x), (8, .int (nI w)), (5, .int 8), (7, .int 1), (0, .ref mo), (1, .int l_), (2, .int c_), (3, .int 2), (4, .int f_)]) hx hb dX12_game_189 hl (k := 1) rfl (z_inc i 1) (by decide) (zLvf_h rfl) (fun ls hl => ?_)
                      refine lv_goto (tgt := 102) hx hb dX12_game_192 (by decide) ?_
                      exact ih_102 (i + 1) x (show (i + 1) ≤ 8 ∧ (-1 ≤ x.toInt ∧ x.toInt ≤ 7) from ⟨by omega, by have t9 := nI_toInt (n := i) (by omega); omega⟩) (show 8 - (i + 1) < 8 - i from by omega) _ _ ls G (lv_sub hl [0, 2, 3, 4, 5, 6, 7, 8, 9, 10] rfl)
          · have c_87n : ¬ 64 ≤ w := fun q => c_87 ((nI_leI (a := 64) (b := w) (by omega) (by omega)).mpr q)
            refine lv_aload_n hx hb dX12_game_45 rfl (lv_at hl 2 rfl) ?_
            refine z_get C G clX12 6 rfl 24 (by decide) m_fl_RX12_38 rfl dX12_game_46 ?_
            refine lv_iload hx hb dX12_game_49 (lv_at hl 0 rfl) ?_
            refine lv_aload_n hx hb dX12_game_51 rfl (lv_at hl 2 rfl) ?_
            refine lv_iload hx hb dX12_game_52 (lv_at hl 0 rfl) ?_
            refine lv_iload_n hx hb dX12_game_54 rfl (lv_at hl 5 rfl) ?_
            refine lv_iload_n hx hb dX12_game_55 rfl (lv_at hl 4 rfl) ?_
            have ti_125 : (nI w).toInt = ((w : Nat) : Int) := nI_toInt (by omega)
            refine z_Vi (bc := [[zO11 mo m_all m_has i_size i_next i_where i_token i_number i_word i_wrong i_farCrossing m_read j_z0_1 j_crossings_2 j_inns_3 m_posts m_shut m_here xsteps xdone xat xgone m_was m_came m_seenAt m_rowWorth m_farBy m_used i_everywhere i_again0 i_d0 i_never i_firstCame i_longRun i_moved i_crowd i_l0 i_fitMany i_fitLeast i_fitMost m_fitPost m_fitEnd m_keptPosts i_x0], [zAr T 0 m_all 3952 f_all], [zAr T 0 m_posts 7 xposts], [zAr T 0 m_shut 7 xshut], [zAr T 0 m_here 7 xhere], [zAr T 0 m_was 7 xwas]]) (br := [[zAr T 0 m_rowWorth 512 xrowWorth]]) (As := [.int (nI w), .int 2, .int c_]) (rest := [.int (nI w), .ref m_rowWorth]) C G (c_m_gameBy l T mo m_all m_has i_size i_next i_where i_token i_number i_word i_wrong i_farCrossing m_read j_z0_1 j_crossings_2 j_inns_3 m_posts m_shut m_here xsteps xdone xat xgone m_was m_came m_seenAt m_rowWorth m_farBy m_used i_everywhere i_again0 i_d0 i_never i_firstCame i_longRun i_moved i_crowd i_l0 i_fitMany i_fitLeast i_fitMost m_fitPost m_fitEnd m_keptPosts i_x0 f_all xposts xshut xhere xwas (nI w) 2 c_ (by first | with_reducible assumption | with_reducible rfl | omega | assumption | rfl | decide) (by first | with_reducible assumption | with_reducible rfl | omega | assumption | rfl | decide) (by first | with_reducible assumption | with_reducible rfl | omega | assumption | rfl | decide) (by first | with_reducible assumption | with_reducible rfl | omega | assumption | rfl | decide) (by first | with_reducible assumption | with_reducible rfl | omega | assumption | rfl | decide) (by first | with_reducible assumption | with_reducible rfl | omega | assumption | rfl | decide)) (kV_RX12_251 C.2.2.2.2 (Nat.le_of_ble_eq_true rfl) (Nat.le_of_ble_eq_true rfl)) [6, 2, 3, 4, 5, 0] [0, 1, 0, 0, 0, 0] rfl rfl (ci := 11) (qc := (RX12, TX12, 43)) rfl rfl (List.mem_flatten.mpr ⟨_, List.mem_of_getElem? (i := 0) rfl, List.mem_cons_self⟩) rfl rfl hl.1 dX12_game_56 (Nat.le_of_ble_eq_true rfl) (Nat.le_of_ble_eq_true rfl) (fun r_135 b1 H locs hw G => ?_)
            refine zEx8 hw ?_
            intro j_at_126 j_gone_127 j_steps_128 j_done_129 g_posts_130 g_shut_131 g_here_132 g_was_133
            refine zCu2 ?_
            intro hbs9 h_134
            clear hw
            subst hbs9
            have G : zS T A s.heap s [[zAr T 0 m_rowWorth 512 xrowWorth], [zO11 mo m_all m_has i_size i_next i_where i_token i_number i_word i_wrong i_farCrossing m_read j_z0_1 j_crossings_2 j_inns_3 m_posts m_shut m_here j_steps_128 j_done_129 j_at_126 j_gone_127 m_was m_came m_seenAt m_rowWorth m_farBy m_used i_everywhere i_again0 i_d0 i_never i_firstCame i_longRun i_moved i_crowd i_l0 i_fitMany i_fitLeast i_fitMost m_fitPost m_fitEnd m_keptPosts i_x0], [zAr T 0 m_all 3952 f_all], [zAr T 0 m_posts 7 g_posts_130], [zAr T 0 m_shut 7 g_shut_131], [zAr T 0 m_here 7 g_here_132], [zAr T 0 m_was 7 g_was_133]] _ _ := G
            refine z_ist C G 0 rfl (vp_in_nI (by omega) (by decide)) dX12_game_59 (fun H locs G => ?_)
            rw [nI_clamp (by omega)] at G
            have G : zS T A s.heap s [[zAr T 0 m_rowWorth 512 (upd xrowWorth w r_135)], [zO11 mo m_all m_has i_size i_next i_where i_token i_number i_word i_wrong i_farCrossing m_read j_z0_1 j_crossings_2 j_inns_3 m_posts m_shut m_here j_steps_128 j_done_129 j_at_126 j_gone_127 m_was m_came m_seenAt m_rowWorth m_farBy m_used i_everywhere i_again0 i_d0 i_never i_firstCame i_longRun i_moved i_crowd i_l0 i_fitMany i_fitLeast i_fitMost m_fitPost m_fitEnd m_keptPosts i_x0], [zAr T 0 m_all 3952 f_all], [zAr T 0 m_posts 7 g_posts_130], [zAr T 0 m_shut 7 g_shut_131], [zAr T 0 m_here 7 g_here_132], [zAr T 0 m_was 7 g_was_133]] _ _ := G
            refine lv_iinc (v := nI (w + 1)) (lv' := [(6, .int (nI (w + 1))), (5, .int 64), (0, .ref mo), (1, .int l_), (2, .int c_), (3, .int 2), (4, .int f_)]) hx hb dX12_game_60 hl (k := 0) rfl (z_inc w 1) (by decide) (zLvf_h rfl) (fun ls hl => ?_)
            refine lv_goto (tgt := 38) hx hb dX12_game_63 (by decide) ?_
            have G := G.sub (bs' := [[zAr T 0 m_was 7 g_was_133], [zAr T 0 m_rowWorth 512 (upd xrowWorth w r_135)], [zAr T 0 m_all 3952 f_all], [zAr T 0 m_posts 7 g_posts_130], [zAr T 0 m_shut 7 g_shut_131], [zAr T 0 m_here 7 g_here_132], [zO11 mo m_all m_has i_size i_next i_where i_token i_number i_word i_wrong i_farCrossing m_read j_z0_1 j_crossings_2 j_inns_3 m_posts m_shut m_here j_steps_128 j_done_129 j_at_126 j_gone_127 m_was m_came m_seenAt m_rowWorth m_farBy m_used i_everywhere i_again0 i_d0 i_never i_firstCame i_longRun i_moved i_crowd i_l0 i_fitMany i_fitLeast i_fitMost m_fitPost m_fitEnd m_keptPosts i_x0]]) [6, 0, 2, 3, 4, 5, 1] rfl
            exact ih_38 (w + 1) j_at_126 j_gone_127 j_steps_128 j_done_129 g_posts_130 g_shut_131 g_here_132 g_was_133 (upd xrowWorth w r_135) (show (w + 1) ≤ 64 ∧ zMP g_posts_130 from ⟨by omega, (by first | with_reducible assumption | assumption)⟩) (show 64 - (w + 1) < 64 - w from by omega) _ _ ls G (lv_sub hl [0, 1, 2, 3, 4, 5, 6] rfl)
        · obtain rfl : n_ = 3 := Int32.toInt_inj.mp hn
          refine lv_iconst (v := 1) hx hb dX12_game_28 (by decide) ?_
          refine lv_iconst (v := 3) hx hb dX12_game_29 (by decide) ?_
          refine lv_iload_n hx hb dX12_game_30 rfl (lv_at hl 3 rfl) ?_
          refine lv_imul hx hb dX12_game_31 ?_
          refine lv_topi (fun y_136 ey_136 => ?_)
          obtain rfl : y_136 = 9 := ey_136.trans (by decide)
          refine lv_ishl hx hb dX12_game_32 ?_
          refine lv_topi (fun y_137 ey_137 => ?_)
          obtain rfl : y_137 = 512 := ey_137.trans (by decide)
          refine lv_istore (lv' := [(5, .int 512), (0, .ref mo), (1, .int l_), (2, .int c_), (3, .int 3), (4, .int f_)]) hx hb dX12_game_33 hl (by decide) (zLvf_h rfl) (fun ls hl => ?_)
          refine lv_iconst (v := 0) hx hb dX12_game_35 (by decide) ?_
          refine lv_istore (lv' := [(6, .int 0), (5, .int 512), (0, .ref mo), (1, .int l_), (2, .int c_), (3, .int 3), (4, .int f_)]) hx hb dX12_game_36 hl (by decide) (zLvf_h rfl) (fun ls hl => ?_)
          refine z_lp10 (T := T) 38 (fun (w : Nat) (xat : Int32) (xgone : Int32) (xsteps : Int32) (xdone : Int32) (xposts : Nat → Int32) (xshut : Nat → Int32) (xhere : Nat → Int32) (xwas : Nat → Int32) (xrowWorth : Nat → Int32) => [[zAr T 0 m_was 7 xwas], [zAr T 0 m_rowWorth 512 xrowWorth], [zAr T 0 m_all 3952 f_all], [zAr T 0 m_posts 7 xposts], [zAr T 0 m_shut 7 xshut], [zAr T 0 m_here 7 xhere], [zO11 mo m_all m_has i_size i_next i_where i_token i_number i_word i_wrong i_farCrossing m_read j_z0_1 j_crossings_2 j_inns_3 m_posts m_shut m_here xsteps xdone xat xgone m_was m_came m_seenAt m_rowWorth m_farBy m_used i_everywhere i_again0 i_d0 i_never i_firstCame i_longRun i_moved i_crowd i_l0 i_fitMany i_fitLeast i_fitMost m_fitPost m_fitEnd m_keptPosts i_x0]]) (fun (w : Nat) (xat : Int32) (xgone : Int32) (xsteps : Int32) (xdone : Int32) (xposts : Nat → Int32) (xshut : Nat → Int32) (xhere : Nat → Int32) (xwas : Nat → Int32) (xrowWorth : Nat → Int32) => [(6, .int (nI w)), (5, .int 512), (0, .ref mo), (1, .int l_), (2, .int c_), (3, .int 3), (4, .int f_)]) (fun (w : Nat) (xat : Int32) (xgone : Int32) (xsteps : Int32) (xdone : Int32) (xposts : Nat → Int32) (xshut : Nat → Int32) (xhere : Nat → Int32) (xwas : Nat → Int32) (xrowWorth : Nat → Int32) => w ≤ 512 ∧ zMP xposts) (fun (w : Nat) (xat : Int32) (xgone : Int32) (xsteps : Int32) (xdone : Int32) (xposts : Nat → Int32) (xshut : Nat → Int32) (xhere : Nat → Int32) (xwas : Nat → Int32) (xrowWorth : Nat → Int32) => 512 - w) ?_ 0 i_at i_gone j_steps_4 j_done_5 g_posts_6 g_shut_7 g_here_8 f_was f_rowWorth (show 0 ≤ 512 ∧ zMP g_posts_6 from ⟨by omega, (by first | with_reducible assumption | assumption)⟩) G (lv_sub hl [0, 1, 2, 3, 4, 5, 6] rfl)
          intro w xat xgone xsteps xdone xposts xshut xhere xwas xrowWorth hI9 ih_38 H locs ls G hl
          replace hI9 : w ≤ 512 ∧ zMP xposts := hI9
          refine zAn2 hI9 ?_
          intro hww hQ
          clear hI9
          replace G : zS T A s.heap s [[zAr T 0 m_was 7 xwas], [zAr T 0 m_rowWorth 512 xrowWorth], [zAr T 0 m_all 3952 f_all], [zAr T 0 m_posts 7 xposts], [zAr T 0 m_shut 7 xshut], [zAr T 0 m_here 7 xhere], [zO11 mo m_all m_has i_size i_next i_where i_token i_number i_word i_wrong i_farCrossing m_read j_z0_1 j_crossings_2 j_inns_3 m_posts m_shut m_here xsteps xdone xat xgone m_was m_came m_seenAt m_rowWorth m_farBy m_used i_everywhere i_again0 i_d0 i_never i_firstCame i_longRun i_moved i_crowd i_l0 i_fitMany i_fitLeast i_fitMost m_fitPost m_fitEnd m_keptPosts i_x0]] _ _ := G
          replace hl : lv_has ls 11 [(6, .int (nI w)), (5, .int 512), (0, .ref mo), (1, .int l_), (2, .int c_), (3, .int 3), (4, .int f_)] := hl
          refine lv_iload hx hb dX12_game_38 (lv_at hl 0 rfl) ?_
          refine lv_iload hx hb dX12_game_40 (lv_at hl 1 rfl) ?_
          refine lv_icmp_ge (tgt := 66) hx hb dX12_game_42 (by decide) (fun c_138 => ?_) (fun c_138 => ?_)
          · have c_138n : 512 ≤ w := (nI_leI (a := 512) (b := w) (by omega) (by omega)).mp c_138
            refine lv_iconst (v := (-1)) hx hb dX12_game_66 (by decide) ?_
            refine lv_istore (lv' := [(6, .int (-1)), (5, .int 512), (0, .ref mo), (1, .int l_), (2, .int c_), (3, .int 3), (4, .int f_)]) hx hb dX12_game_67 hl (by decide) (zLvf_h rfl) (fun ls hl => ?_)
            refine lv_iload_n hx hb dX12_game_69 rfl (lv_at hl 5 rfl) ?_
            refine lv_iconst (v := 1) hx hb dX12_game_70 (by decide) ?_
            refine lv_isub hx hb dX12_game_71 ?_
            refine lv_topi (fun y_139 ey_139 => ?_)
            obtain rfl : y_139 = 2 := ey_139.trans (by decide)
            refine lv_istore (lv' := [(7, .int 2), (6, .int (-1)), (5, .int 512), (0, .ref mo), (1, .int l_), (2, .int c_), (3, .int 3), (4, .int f_)]) hx hb dX12_game_72 hl (by decide) (zLvf_h rfl) (fun ls hl => ?_)
            refine lv_iload hx hb dX12_game_74 (lv_at hl 0 rfl) ?_
            refine lv_if_lt (tgt := 237) hx hb dX12_game_76 (by decide) (fun q => absurd q (by decide)) (fun _ => ?_)
            refine lv_iload hx hb dX12_game_79 (lv_at hl 2 rfl) ?_
            refine lv_bipush (v := 8) hx hb dX12_game_81 (by decide) ?_
            refine lv_idiv hx hb dX12_game_83 (by decide) ?_
            refine lv_topi (fun y_140 ey_140 => ?_)
            obtain rfl : y_140 = 64 := ey_140.trans (by decide)
            refine lv_istore (lv' := [(5, .int 64), (7, .int 2), (6, .int (-1)), (0, .ref mo), (1, .int l_), (2, .int c_), (3, .int 3), (4, .int f_)]) hx hb dX12_game_84 hl (by decide) (zLvf_h rfl) (fun ls hl => ?_)
            refine lv_iconst (v := 0) hx hb dX12_game_86 (by decide) ?_
            refine lv_istore (lv' := [(8, .int 0), (5, .int 64), (7, .int 2), (6, .int (-1)), (0, .ref mo), (1, .int l_), (2, .int c_), (3, .int 3), (4, .int f_)]) hx hb dX12_game_87 hl (by decide) (zLvf_h rfl) (fun ls hl => ?_)
            refine z_lp3 (T := T) 89 (fun (w : Nat) (x : Int32) (xrowWorth : Nat → Int32) => [[zAr T 0 m_was 7 xwas], [zAr T 0 m_rowWorth 512 xrowWorth], [zAr T 0 m_all 3952 f_all], [zAr T 0 m_posts 7 xposts], [zAr T 0 m_shut 7 xshut], [zAr T 0 m_here 7 xhere], [zO11 mo m_all m_has i_size i_next i_where i_token i_number i_word i_wrong i_farCrossing m_read j_z0_1 j_crossings_2 j_inns_3 m_posts m_shut m_here xsteps xdone xat xgone m_was m_came m_seenAt m_rowWorth m_farBy m_used i_everywhere i_again0 i_d0 i_never i_firstCame i_longRun i_moved i_crowd i_l0 i_fitMany i_fitLeast i_fitMost m_fitPost m_fitEnd m_keptPosts i_x0]]) (fun (w : Nat) (x : Int32) (xrowWorth : Nat → Int32) => [(8, .int (nI w)), (5, .int 64), (7, .int 2), (6, .int x), (0, .ref mo), (1, .int l_), (2, .int c_), (3, .int 3), (4, .int f_)]) (fun (w : Nat) (x : Int32) (xrowWorth : Nat → Int32) => w ≤ 64) (fun (w : Nat) (x : Int32) (xrowWorth : Nat → Int32) => 64 - w) ?_ 0 (-1) xrowWorth (show 0 ≤ 64 from by omega) G (lv_sub hl [0, 1, 2, 3, 4, 5, 6, 7, 8] rfl)
            intro w x xrowWorth hww ih_89 H locs ls G hl
            replace hww : w ≤ 64 := hww
            replace G : zS T A s.heap s [[zAr T 0 m_was 7 xwas], [zAr T 0 m_rowWorth 512 xrowWorth], [zAr T 0 m_all 3952 f_all], [zAr T 0 m_posts 7 xposts], [zAr T 0 m_shut 7 xshut], [zAr T 0 m_here 7 xhere], [zO11 mo m_all m_has i_size i_next i_where i_token i_number i_word i_wrong i_farCrossing m_read j_z0_1 j_crossings_2 j_inns_3 m_posts m_shut m_here xsteps xdone xat xgone m_was m_came m_seenAt m_rowWorth m_farBy m_used i_everywhere i_again0 i_d0 i_never i_firstCame i_longRun i_moved i_crowd i_l0 i_fitMany i_fitLeast i_fitMost m_fitPost m_fitEnd m_keptPosts i_x0]] _ _ := G
            replace hl : lv_has ls 11 [(8, .int (nI w)), (5, .int 64), (7, .int 2), (6, .int x), (0, .ref mo), (1, .int l_), (2, .int c_), (3, .int 3), (4, .int f_)] := hl
            refine lv_iload hx hb dX12_game_89 (lv_at hl 0 rfl) ?_
            refine lv_iload hx hb dX12_game_91 (lv_at hl 1 rfl) ?_
            refine lv_icmp_ge (tgt := 231) hx hb dX12_game_93 (by decide) (fun c_141 => ?_) (fun c_141 => ?_)
            · have c_141n : 64 ≤ w := (nI_leI (a := 64) (b := w) (by omega) (by omega)).mp c_141
              refine lv_iinc (v := 1) (lv' := [(7, .int 1), (8, .int (nI w)), (5, .int 64), (6, .int x), (0, .ref mo), (1, .int l_), (2, .int c_), (3, .int 3), (4, .int f_)]) hx hb dX12_game_231 hl (k := 2) rfl (by decide) (by decide) (zLvf_h rfl) (fun ls hl => ?_)
              refine lv_goto (tgt := 74) hx hb dX12_game_234 (by decide) ?_
              refine lv_iload hx hb dX12_game_74 (lv_at hl 0 rfl) ?_
              refine lv_if_lt (tgt := 237) hx hb dX12_game_76 (by decide) (fun q => absurd q (by decide)) (fun _ => ?_)
              refine lv_iload hx hb dX12_game_79 (lv_at hl 2 rfl) ?_
              refine lv_bipush (v := 8) hx hb dX12_game_81 (by decide) ?_
              refine lv_idiv hx hb dX12_game_83 (by decide) ?_
              refine lv_topi (fun y_142 ey_142 => ?_)
              obtain rfl : y_142 = 8 := ey_142.trans (by decide)
              refine lv_istore (lv' := [(5, .int 8), (7, .int 1), (8, .int (nI w)), (6, .int x), (0, .ref mo), (1, .int l_), (2, .int c_), (3, .int 3), (4, .int f_)]) hx hb dX12_game_84 hl (by decide) (zLvf_h rfl) (fun ls hl => ?_)
              refine lv_iconst (v := 0) hx hb dX12_game_86 (by decide) ?_
              refine lv_istore (lv' := [(8, .int 0), (5, .int 8), (7, .int 1), (6, .int x), (0, .ref mo), (1, .int l_), (2, .int c_), (3, .int 3), (4, .int f_)]) hx hb dX12_game_87 hl (by decide) (zLvf_h rfl) (fun ls hl => ?_)
              refine z_lp3 (T := T) 89 (fun (w : Nat) (x : Int32) (xrowWorth : Nat → Int32) => [[zAr T 0 m_was 7 xwas], [zAr T 0 m_rowWorth 512 xrowWorth], [zAr T 0 m_all 3952 f_all], [zAr T 0 m_posts 7 xposts], [zAr T 0 m_shut 7 xshut], [zAr T 0 m_here 7 xhere], [zO11 mo m_all m_has i_size i_next i_where i_token i_number i_word i_wrong i_farCrossing m_read j_z0_1 j_crossings_2 j_inns_3 m_posts m_shut m_here xsteps xdone xat xgone m_was m_came m_seenAt m_rowWorth m_farBy m_used i_everywhere i_again0 i_d0 i_never i_firstCame i_longRun i_moved i_crowd i_l0 i_fitMany i_fitLeast i_fitMost m_fitPost m_fitEnd m_keptPosts i_x0]]) (fun (w : Nat) (x : Int32) (xrowWorth : Nat → Int32) => [(8, .int (nI w)), (5, .int 8), (7, .int 1), (6, .int x), (0, .ref mo), (1, .int l_), (2, .int c_), (3, .int 3), (4, .int f_)]) (fun (w : Nat) (x : Int32) (xrowWorth : Nat → Int32) => w ≤ 8) (fun (w : Nat) (x : Int32) (xrowWorth : Nat → Int32) => 8 - w) ?_ 0 x xrowWorth (show 0 ≤ 8 from by omega) G (lv_sub hl [0, 1, 2, 3, 4, 5, 6, 7, 8] rfl)
              intro w x xrowWorth hww ih_89 H locs ls G hl
              replace hww : w ≤ 8 := hww
              replace G : zS T A s.heap s [[zAr T 0 m_was 7 xwas], [zAr T 0 m_rowWorth 512 xrowWorth], [zAr T 0 m_all 3952 f_all], [zAr T 0 m_posts 7 xposts], [zAr T 0 m_shut 7 xshut], [zAr T 0 m_here 7 xhere], [zO11 mo m_all m_has i_size i_next i_where i_token i_number i_word i_wrong i_farCrossing m_read j_z0_1 j_crossings_2 j_inns_3 m_posts m_shut m_here xsteps xdone xat xgone m_was m_came m_seenAt m_rowWorth m_farBy m_used i_everywhere i_again0 i_d0 i_never i_firstCame i_longRun i_moved i_crowd i_l0 i_fitMany i_fitLeast i_fitMost m_fitPost m_fitEnd m_keptPosts i_x0]] _ _ := G
              replace hl : lv_has ls 11 [(8, .int (nI w)), (5, .int 8), (7, .int 1), (6, .int x), (0, .ref mo), (1, .int l_), (2, .int c_), (3, .int 3), (4, .int f_)] := hl
              refine lv_iload hx hb dX12_game_89 (lv_at hl 0 rfl) ?_
              refine lv_iload hx hb dX12_game_91 (lv_at hl 1 rfl) ?_
              refine lv_icmp_ge (tgt := 231) hx hb dX12_game_93 (by decide) (fun c_143 => ?_) (fun c_143 => ?_)
              · have c_143n : 8 ≤ w := (nI_leI (a := 8) (b := w) (by omega) (by omega)).mp c_143
                refine lv_iinc (v := 0) (lv' := [(7, .int 0), (8, .int (nI w)), (5, .int 8), (6, .int x), (0, .ref mo), (1, .int l_), (2, .int c_), (3, .int 3), (4, .int f_)]) hx hb dX12_game_231 hl (k := 2) rfl (by decide) (by decide) (zLvf_h rfl) (fun ls hl => ?_)
                refine lv_goto (tgt := 74) hx hb dX12_game_234 (by decide) ?_
                refine lv_iload hx hb dX12_game_74 (lv_at hl 0 rfl) ?_
                refine lv_if_lt (tgt := 237) hx hb dX12_game_76 (by decide) (fun q => absurd q (by decide)) (fun _ => ?_)
                refine lv_iload hx hb dX12_game_79 (lv_at hl 2 rfl) ?_
                refine lv_bipush (v := 8) hx hb dX12_game_81 (by decide) ?_
                refine lv_idiv hx hb dX12_game_83 (by decide) ?_
                refine lv_topi (fun y_144 ey_144 => ?_)
                obtain rfl : y_144 = 1 := ey_144.trans (by decide)
                refine lv_istore (lv' := [(5, .int 1), (7, .int 0), (8, .int (nI w)), (6, .int x), (0, .ref mo), (1, .int l_), (2, .int c_), (3, .int 3), (4, .int f_)]) hx hb dX12_game_84 hl (by decide) (zLvf_h rfl) (fun ls hl => ?_)
                refine lv_iconst (v := 0) hx hb dX12_game_86 (by decide) ?_
                refine lv_istore (lv' := [(8, .int 0), (5, .int 1), (7, .int 0), (6, .int x), (0, .ref mo), (1, .int l_), (2, .int c_), (3, .int 3), (4, .int f_)]) hx hb dX12_game_87 hl (by decide) (zLvf_h rfl) (fun ls hl => ?_)
                refine z_lp3 (T := T) 89 (fun (w : Nat) (x : Int32) (xrowWorth : Nat → Int32) => [[zAr T 0 m_was 7 xwas], [zAr T 0 m_rowWorth 512 xrowWorth], [zAr T 0 m_all 3952 f_all], [zAr T 0 m_posts 7 xposts], [zAr T 0 m_shut 7 xshut], [zAr T 0 m_here 7 xhere], [zO11 mo m_all m_has i_size i_next i_where i_token i_number i_word i_wrong i_farCrossing m_read j_z0_1 j_crossings_2 j_inns_3 m_posts m_shut m_here xsteps xdone xat xgone m_was m_came m_seenAt m_rowWorth m_farBy m_used i_everywhere i_again0 i_d0 i_never i_firstCame i_longRun i_moved i_crowd i_l0 i_fitMany i_fitLeast i_fitMost m_fitPost m_fitEnd m_keptPosts i_x0]]) (fun (w : Nat) (x : Int32) (xrowWorth : Nat → Int32) => [(8, .int (nI w)), (5, .int 1), (7, .int 0), (6, .int x), (0, .ref mo), (1, .int l_), (2, .int c_), (3, .int 3), (4, .int f_)]) (fun (w : Nat) (x : Int32) (xrowWorth : Nat → Int32) => w ≤ 1) (fun (w : Nat) (x : Int32) (xrowWorth : Nat → Int32) => 1 - w) ?_ 0 x xrowWorth (show 0 ≤ 1 from by omega) G (lv_sub hl [0, 1, 2, 3, 4, 5, 6, 7, 8] rfl)
                intro w x xrowWorth hww ih_89 H locs ls G hl
                replace hww : w ≤ 1 := hww
                replace G : zS T A s.heap s [[zAr T 0 m_was 7 xwas], [zAr T 0 m_rowWorth 512 xrowWorth], [zAr T 0 m_all 3952 f_all], [zAr T 0 m_posts 7 xposts], [zAr T 0 m_shut 7 xshut], [zAr T 0 m_here 7 xhere], [zO11 mo m_all m_has i_size i_next i_where i_token i_number i_word i_wrong i_farCrossing m_read j_z0_1 j_crossings_2 j_inns_3 m_posts m_shut m_here xsteps xdone xat xgone m_was m_came m_seenAt m_rowWorth m_farBy m_used i_everywhere i_again0 i_d0 i_never i_firstCame i_longRun i_moved i_crowd i_l0 i_fitMany i_fitLeast i_fitMost m_fitPost m_fitEnd m_keptPosts i_x0]] _ _ := G
                replace hl : lv_has ls 11 [(8, .int (nI w)), (5, .int 1), (7, .int 0), (6, .int x), (0, .ref mo), (1, .int l_), (2, .int c_), (3, .int 3), (4, .int f_)] := hl
                refine lv_iload hx hb dX12_game_89 (lv_at hl 0 rfl) ?_
                refine lv_iload hx hb dX12_game_91 (lv_at hl 1 rfl) ?_
                refine lv_icmp_ge (tgt := 231) hx hb dX12_game_93 (by decide) (fun c_145 => ?_) (fun c_145 => ?_)
                · have c_145n : 1 ≤ w := (nI_leI (a := 1) (b := w) (by omega) (by omega)).mp c_145
                  refine lv_iinc (v := (-1)) (lv' := [(7, .int (-1)), (8, .int (nI w)), (5, .int 1), (6, .int x), (0, .ref mo), (1, .int l_), (2, .int c_), (3, .int 3), (4, .int f_)]) hx hb dX12_game_231 hl (k := 2) rfl (by decide) (by decide) (zLvf_h rfl) (fun ls hl => ?_)
                  refine lv_goto (tgt := 74) hx hb dX12_game_234 (by decide) ?_
                  refine lv_iload hx hb dX12_game_74 (lv_at hl 0 rfl) ?_
                  refine lv_if_lt (tgt := 237) hx hb dX12_game_76 (by decide) (fun _ => ?_) (fun q => absurd (by decide) q)
                  refine lv_iload hx hb dX12_game_237 (lv_at hl 8 rfl) ?_
                  refine lv_if_ne (tgt := 251) hx hb dX12_game_239 (by decide) (fun c_146 => ?_) (fun c_146 => ?_)
                  · have c_146n : ¬ f_.toInt = (0 : Int) := fun q => c_146 ((fa_eq _ _).mpr q)
                    refine lv_iload hx hb dX12_game_251 (lv_at hl 3 rfl) ?_
                    have G := G.sub (bs' := [[zO11 mo m_all m_has i_size i_next i_where i_token i_number i_word i_wrong i_farCrossing m_read j_z0_1 j_crossings_2 j_inns_3 m_posts m_shut m_here xsteps xdone xat xgone m_was m_came m_seenAt m_rowWorth m_farBy m_used i_everywhere i_again0 i_d0 i_never i_firstCame i_longRun i_moved i_crowd i_l0 i_fitMany i_fitLeast i_fitMost m_fitPost m_fitEnd m_keptPosts i_x0], [zAr T 0 m_all 3952 f_all], [zAr T 0 m_posts 7 xposts], [zAr T 0 m_shut 7 xshut], [zAr T 0 m_here 7 xhere], [zAr T 0 m_was 7 xwas], [zAr T 0 m_rowWorth 512 xrowWorth]]) [6, 2, 3, 4, 5, 0, 1] rfl
                    exact z_back hQz_ (z_iret C hr hlocks G (Nat.le_of_ble_eq_true rfl) (Nat.le_of_ble_eq_true rfl) dX12_game_253 ⟨j_z0_1, j_crossings_2, j_inns_3, xsteps, xdone, xat, xgone, xposts, xshut, xhere, xwas, xrowWorth, rfl⟩)
                  · have c_146n : f_.toInt = (0 : Int) := (fa_eq _ _).mp c_146
                    refine lv_aload_n hx hb dX12_game_242 rfl (lv_at hl 4 rfl) ?_
                    refine z_get C G clX12 6 rfl 24 (by decide) m_fl_RX12_38 rfl dX12_game_243 ?_
                    refine lv_iconst (v := 0) hx hb dX12_game_246 (by decide) ?_
                    refine z_ild C G 1 rfl (vp_in_nI (n := 0) (by decide) (by decide)) dX12_game_247 ?_
                    refine lv_topi (fun v_147 ev_147 => ?_)
                    rw [show ((0 : Int32).toNatClampNeg) = 0 from rfl] at ev_147
                    subst ev_147
                    refine lv_goto (tgt := 253) hx hb dX12_game_248 (by decide) ?_
                    have G := G.sub (bs' := [[zO11 mo m_all m_has i_size i_next i_where i_token i_number i_word i_wrong i_farCrossing m_read j_z0_1 j_crossings_2 j_inns_3 m_posts m_shut m_here xsteps xdone xat xgone m_was m_came m_seenAt m_rowWorth m_farBy m_used i_everywhere i_again0 i_d0 i_never i_firstCame i_longRun i_moved i_crowd i_l0 i_fitMany i_fitLeast i_fitMost m_fitPost m_fitEnd m_keptPosts i_x0], [zAr T 0 m_all 3952 f_all], [zAr T 0 m_posts 7 xposts], [zAr T 0 m_shut 7 xshut], [zAr T 0 m_here 7 xhere], [zAr T 0 m_was 7 xwas], [zAr T 0 m_rowWorth 512 xrowWorth]]) [6, 2, 3, 4, 5, 0, 1] rfl
                    exact z_back hQz_ (z_iret C hr hlocks G (Nat.le_of_ble_eq_true rfl) (Nat.le_of_ble_eq_true rfl) dX12_game_253 ⟨j_z0_1, j_crossings_2, j_inns_3, xsteps, xdone, xat, xgone, xposts, xshut, xhere, xwas, xrowWorth, rfl⟩)
                · have c_145n : ¬ 1 ≤ w := fun q => c_145 ((nI_leI (a := 1) (b := w) (by omega) (by omega)).mpr q)
                  refine lv_iconst (v := (-1)) hx hb dX12_game_96 (by decide) ?_
                  refine lv_istore (lv' := [(6, .int (-1)), (8, .int (nI w)), (5, .int 1), (7, .int 0), (0, .ref mo), (1, .int l_), (2, .int c_), (3, .int 3), (4, .int f_)]) hx hb dX12_game_97 hl (by decide) (zLvf_h rfl) (fun ls hl => ?_)
                  refine lv_iconst (v := 0) hx hb dX12_game_99 (by decide) ?_
                  refine lv_istore (lv' := [(9, .int 0), (6, .int (-1)), (8, .int (nI w)), (5, .int 1), (7, .int 0), (0, .ref mo), (1, .int l_), (2, .int c_), (3, .int 3), (4, .int f_)]) hx hb dX12_game_100 hl (by decide) (zLvf_h rfl) (fun ls hl => ?_)
                  refine z_lp2 (T := T) 102 (fun (i : Nat) (x : Int32) => [[zAr T 0 m_was 7 xwas], [zAr T 0 m_rowWorth 512 xrowWorth], [zAr T 0 m_all 3952 f_all], [zAr T 0 m_posts 7 xposts], [zAr T 0 m_shut 7 xshut], [zAr T 0 m_here 7 xhere], [zO11 mo m_all m_has i_size i_next i_where i_token i_number i_word i_wrong i_farCrossing m_read j_z0_1 j_crossings_2 j_inns_3 m_posts m_shut m_here xsteps xdone xat xgone m_was m_came m_seenAt m_rowWorth m_farBy m_used i_everywhere i_again0 i_d0 i_never i_firstCame i_longRun i_moved i_crowd i_l0 i_fitMany i_fitLeast i_fitMost m_fitPost m_fitEnd m_keptPosts i_x0]]) (fun (i : Nat) (x : Int32) => [(9, .int (nI i)), (6, .int x), (8, .int (nI w)), (5, .int 1), (7, .int 0), (0, .ref mo), (1, .int l_), (2, .int c_), (3, .int 3), (4, .int f_)]) (fun (i : Nat) (x : Int32) => i ≤ 8 ∧ (-1 ≤ x.toInt ∧ x.toInt ≤ 7)) (fun (i : Nat) (x : Int32) => 8 - i) ?_ 0 (-1) (show 0 ≤ 8 ∧ (-1 ≤ ((-1) : Int32).toInt ∧ ((-1) : Int32).toInt ≤ 7) from ⟨by omega, by decide⟩) G (lv_sub hl [0, 1, 2, 3, 4, 5, 6, 7, 8, 9] rfl)
                  intro i x hI9 ih_102 H locs ls G hl
                  replace hI9 : i ≤ 8 ∧ (-1 ≤ x.toInt ∧ x.toInt ≤ 7) := hI9
                  refine zAn2 hI9 ?_
                  intro hi hxx
                  clear hI9
                  replace G : zS T A s.heap s [[zAr T 0 m_was 7 xwas], [zAr T 0 m_rowWorth 512 xrowWorth], [zAr T 0 m_all 3952 f_all], [zAr T 0 m_posts 7 xposts], [zAr T 0 m_shut 7 xshut], [zAr T 0 m_here 7 xhere], [zO11 mo m_all m_has i_size i_next i_where i_token i_number i_word i_wrong i_farCrossing m_read j_z0_1 j_crossings_2 j_inns_3 m_posts m_shut m_here xsteps xdone xat xgone m_was m_came m_seenAt m_rowWorth m_farBy m_used i_everywhere i_again0 i_d0 i_never i_firstCame i_longRun i_moved i_crowd i_l0 i_fitMany i_fitLeast i_fitMost m_fitPost m_fitEnd m_keptPosts i_x0]] _ _ := G
                  replace hl : lv_has ls 11 [(9, .int (nI i)), (6, .int x), (8, .int (nI w)), (5, .int 1), (7, .int 0), (0, .ref mo), (1, .int l_), (2, .int c_), (3, .int 3), (4, .int f_)] := hl
                  refine lv_iload hx hb dX12_game_102 (lv_at hl 0 rfl) ?_
                  refine lv_bipush (v := 8) hx hb dX12_game_104 (by decide) ?_
                  refine lv_icmp_ge (tgt := 195) hx hb dX12_game_106 (by decide) (fun c_148 => ?_) (fun c_148 => ?_)
                  · have c_148n : 8 ≤ i := (nI_leI (a := 8) (b := i) (by omega) (by omega)).mp c_148
                    refine lv_aload_n hx hb dX12_game_195 rfl (lv_at hl 5 rfl) ?_
                    refine z_get C G clX12 6 rfl 24 (by decide) m_fl_RX12_38 rfl dX12_game_196 ?_
                    refine lv_iload hx hb dX12_game_199 (lv_at hl 2 rfl) ?_
                    refine lv_iload hx hb dX12_game_201 (lv_at hl 1 rfl) ?_
                    refine lv_iconst (v := (-1)) hx hb dX12_game_203 (by decide) ?_
                    refine lv_icmp_ne (tgt := 211) hx hb dX12_game_204 (by decide) (fun c_149 => ?_) (fun c_149 => ?_)
                    · have c_149n : ¬ x.toInt = (-1 : Int) := fun q => c_149 ((fa_eq _ _).mpr q)
                      refine lv_aload_n hx hb dX12_game_211 rfl (lv_at hl 5 rfl) ?_
                      refine z_get C G clX12 6 rfl 24 (by decide) m_fl_RX12_38 rfl dX12_game_212 ?_
                      refine lv_bipush (v := 8) hx hb dX12_game_215 (by decide) ?_
                      refine lv_iload hx hb dX12_game_217 (lv_at hl 2 rfl) ?_
                      refine lv_imul hx hb dX12_game_219 ?_
                      refine lv_topi (fun y_150 ey_150 => ?_)
                      obtain rfl : y_150 = nI (8 * w) := ey_150.trans (z_imuln 8 w rfl rfl)
                      refine lv_iload hx hb dX12_game_220 (lv_at hl 1 rfl) ?_
                      refine lv_iadd hx hb dX12_game_222 ?_
                      refine lv_topi (fun y_151 ey_151 => ?_)
                      have ey_151i : y_151.toInt = ((8 * w) : Int) + x.toInt := by rw [ey_151]; exact (z_iaddI (x := (nI (8 * w))) (y := x) (by rw [nI_toInt (n := 8 * w) (by omega)]; show -2147483648 ≤ ((8 * w) : Int) + x.toInt; omega) (by rw [nI_toInt (n := 8 * w) (by omega)]; show ((8 * w) : Int) + x.toInt < 2147483648; omega)).trans (by rw [nI_toInt (n := 8 * w) (by omega)] <;> rfl)
                      refine z_ild C G 1 rfl (vp_in_iff.mpr ⟨by omega, by omega⟩) dX12_game_223 ?_
                      refine lv_topi (fun v_152 ev_152 => ?_)
                      subst ev_152
                      refine z_ist C G 1 rfl (vp_in_nI (by omega) (by decide)) dX12_game_224 (fun H locs G => ?_)
                      rw [nI_clamp (by omega)] at G
                      have G : zS T A s.heap s [[zAr T 0 m_was 7 xwas], [zAr T 0 m_rowWorth 512 (upd xrowWorth w (xrowWorth y_151.toNatClampNeg))], [zAr T 0 m_all 3952 f_all], [zAr T 0 m_posts 7 xposts], [zAr T 0 m_shut 7 xshut], [zAr T 0 m_here 7 xhere], [zO11 mo m_all m_has i_size i_next i_where i_token i_number i_word i_wrong i_farCrossing m_read j_z0_1 j_crossings_2 j_inns_3 m_posts m_shut m_here xsteps xdone xat xgone m_was m_came m_seenAt m_rowWorth m_farBy m_used i_everywhere i_again0 i_d0 i_never i_firstCame i_longRun i_moved i_crowd i_l0 i_fitMany i_fitLeast i_fitMost m_fitPost m_fitEnd m_keptPosts i_x0]] _ _ := G
                      refine lv_iinc (v := nI (w + 1)) (lv' := [(8, .int (nI (w + 1))), (9, .int (nI i)), (6, .int x), (5, .int 1), (7, .int 0), (0, .ref mo), (1, .int l_), (2, .int c_), (3, .int 3), (4, .int f_)]) hx hb dX12_game_225 hl (k := 2) rfl (z_inc w 1) (by decide) (zLvf_h rfl) (fun ls hl => ?_)
                      refine lv_goto (tgt := 89) hx hb dX12_game_228 (by decide) ?_
                      exact ih_89 (w + 1) x (upd xrowWorth w (xrowWorth y_151.toNatClampNeg)) (show (w + 1) ≤ 1 from by omega) (show 1 - (w + 1) < 1 - w from by omega) _ _ ls G (lv_sub hl [0, 3, 4, 2, 5, 6, 7, 8, 9] rfl)
                    · have c_149n : x.toInt = (-1 : Int) := (fa_eq _ _).mp c_149
                      refine lv_iconst (v := (-1)) hx hb dX12_game_207 (by decide) ?_
                      refine lv_goto (tgt := 224) hx hb dX12_game_208 (by decide) ?_
                      refine z_ist C G 1 rfl (vp_in_nI (by omega) (by decide)) dX12_game_224 (fun H locs G => ?_)
                      rw [nI_clamp (by omega)] at G
                      have G : zS T A s.heap s [[zAr T 0 m_was 7 xwas], [zAr T 0 m_rowWorth 512 (upd xrowWorth w (-1))], [zAr T 0 m_all 3952 f_all], [zAr T 0 m_posts 7 xposts], [zAr T 0 m_shut 7 xshut], [zAr T 0 m_here 7 xhere], [zO11 mo m_all m_has i_size i_next i_where i_token i_number i_word i_wrong i_farCrossing m_read j_z0_1 j_crossings_2 j_inns_3 m_posts m_shut m_here xsteps xdone xat xgone m_was m_came m_seenAt m_rowWorth m_farBy m_used i_everywhere i_again0 i_d0 i_never i_firstCame i_longRun i_moved i_crowd i_l0 i_fitMany i_fitLeast i_fitMost m_fitPost m_fitEnd m_keptPosts i_x0]] _ _ := G
                      refine lv_iinc (v := nI (w + 1)) (lv' := [(8, .int (nI (w + 1))), (9, .int (nI i)), (6, .int x), (5, .int 1), (7, .int 0), (0, .ref mo), (1, .int l_), (2, .int c_), (3, .int 3), (4, .int f_)]) hx hb dX12_game_225 hl (k := 2) rfl (z_inc w 1) (by decide) (zLvf_h rfl) (fun ls hl => ?_)
                      refine lv_goto (tgt := 89) hx hb dX12_game_228 (by decide) ?_
                      exact ih_89 (w + 1) x (upd xrowWorth w (-1)) (show (w + 1) ≤ 1 from by omega) (show 1 - (w + 1) < 1 - w from by omega) _ _ ls G (lv_sub hl [0, 3, 4, 2, 5, 6, 7, 8, 9] rfl)
                  · have c_148n : ¬ 8 ≤ i := fun q => c_148 ((nI_leI (a := 8) (b := i) (by omega) (by omega)).mpr q)
                    refine lv_aload_n hx hb dX12_game_109 rfl (lv_at hl 5 rfl) ?_
                    refine z_get C G clX12 6 rfl 24 (by decide) m_fl_RX12_38 rfl dX12_game_110 ?_
                    refine lv_bipush (v := 8) hx hb dX12_game_113 (by decide) ?_
                    refine lv_iload hx hb dX12_game_115 (lv_at hl 2 rfl) ?_
                    refine lv_imul hx hb dX12_game_117 ?_
                    refine lv_topi (fun y_153 ey_153 => ?_)
                    obtain rfl : y_153 = nI (8 * w) := ey_153.trans (z_imuln 8 w rfl rfl)
                    refine lv_iload hx hb dX12_game_118 (lv_at hl 0 rfl) ?_
                    refine lv_iadd hx hb dX12_game_120 ?_
                    refine lv_topi (fun y_154 ey_154 => ?_)
                    obtain rfl : y_154 = nI ((8 * w) + i) := ey_154.trans (z_iaddn (8 * w) i rfl rfl)
                    refine z_ild C G 1 rfl (vp_in_nI (by omega) (by decide)) dX12_game_121 ?_
                    refine lv_topi (fun v_155 ev_155 => ?_)
                    rw [nI_clamp (by omega)] at ev_155
                    subst ev_155
                    refine lv_istore (lv' := [(10, .int (xrowWorth ((8 * w) + i))), (9, .int (nI i)), (6, .int x), (8, .int (nI w)), (5, .int 1), (7, .int 0), (0, .ref mo), (1, .int l_), (2, .int c_), (3, .int 3), (4, .int f_)]) hx hb dX12_game_122 hl (by decide) (zLvf_h rfl) (fun ls hl => ?_)
                    refine lv_iload hx hb dX12_game_124 (lv_at hl 0 rfl) ?_
                    refine lv_iconst (v := (-1)) hx hb dX12_game_126 (by decide) ?_
                    refine lv_icmp_eq (tgt := 189) hx hb dX12_game_127 (by decide) (fun c_156 => ?_) (fun c_156 => ?_)
                    · have c_156n : (xrowWorth ((8 * w) + i)).toInt = (-1 : Int) := (fa_eq _ _).mp c_156
                      refine lv_iinc (v := nI (i + 1)) (lv' := [(9, .int (nI (i + 1))), (10, .int (xrowWorth ((8 * w) + i))), (6, .int x), (8, .int (nI w)), (5, .int 1), (7, .int 0), (0, .ref mo), (1, .int l_), (2, .int c_), (3, .int 3), (4, .int f_)]) hx hb dX12_game_189 hl (k := 1) rfl (z_inc i 1) (by decide) (zLvf_h rfl) (fun ls hl => ?_)
                      refine lv_goto (tgt := 102) hx hb dX12_game_192 (by decide) ?_
                      exact ih_102 (i + 1) x (show (i + 1) ≤ 8 ∧ (-1 ≤ x.toInt ∧ x.toInt ≤ 7) from ⟨by omega, by have t9 := nI_toInt (n := i) (by omega); omega⟩) (show 8 - (i + 1) < 8 - i from by omega) _ _ ls G (lv_sub hl [0, 2, 3, 4, 5, 6, 7, 8, 9, 10] rfl)
                    · have c_156n : ¬ (xrowWorth ((8 * w) + i)).toInt = (-1 : Int) := fun q => c_156 ((fa_eq _ _).mpr q)
                      refine lv_iload hx hb dX12_game_130 (lv_at hl 2 rfl) ?_
                      refine lv_iconst (v := (-1)) hx hb dX12_game_132 (by decide) ?_
                      refine lv_icmp_eq (tgt := 185) hx hb dX12_game_133 (by decide) (fun c_157 => ?_) (fun c_157 => ?_)
                      · have c_157n : x.toInt = (-1 : Int) := (fa_eq _ _).mp c_157
                        refine lv_iload hx hb dX12_game_185 (lv_at hl 1 rfl) ?_
                        refine lv_istore (lv' := [(6, .int (nI i)), (10, .int (xrowWorth ((8 * w) + i))), (9, .int (nI i)), (8, .int (nI w)), (5, .int 1), (7, .int 0), (0, .ref mo), (1, .int l_), (2, .int c_), (3, .int 3), (4, .int f_)]) hx hb dX12_game_187 hl (by decide) (zLvf_h rfl) (fun ls hl => ?_)
                        refine lv_iinc (v := nI (i + 1)) (lv' := [(9, .int (nI (i + 1))), (6, .int (nI i)), (10, .int (xrowWorth ((8 * w) + i))), (8, .int (nI w)), (5, .int 1), (7, .int 0), (0, .ref mo), (1, .int l_), (2, .int c_), (3, .int 3), (4, .int f_)]) hx hb dX12_game_189 hl (k := 2) rfl (z_inc i 1) (by decide) (zLvf_h rfl) (fun ls hl => ?_)
                        refine lv_goto (tgt := 102) hx hb dX12_game_192 (by decide) ?_
                        exact ih_102 (i + 1) (nI i) (show (i + 1) ≤ 8 ∧ (-1 ≤ (nI i).toInt ∧ (nI i).toInt ≤ 7) from ⟨by omega, by have t9 := nI_toInt (n := i) (by omega); omega⟩) (show 8 - (i + 1) < 8 - i from by omega) _ _ ls G (lv_sub hl [0, 1, 3, 4, 5, 6, 7, 8, 9, 10] rfl)
                      · have c_157n : ¬ x.toInt = (-1 : Int) := fun q => c_157 ((fa_eq _ _).mpr q)
                        refine lv_iload hx hb dX12_game_136 (lv_at hl 5 rfl) ?_
                        refine lv_iconst (v := 2) hx hb dX12_game_138 (by decide) ?_
                        refine lv_irem hx hb dX12_game_139 (by decide) ?_
                        refine lv_topi (fun y_158 ey_158 => ?_)
                        obtain rfl : y_158 = 0 := ey_158.trans (by decide)
                        refine lv_if_ne (tgt := 164) hx hb dX12_game_140 (by decide) (fun q => absurd (by decide) q) (fun _ => ?_)
                        refine lv_iload hx hb dX12_game_143 (lv_at hl 0 rfl) ?_
                        refine lv_aload_n hx hb dX12_game_145 rfl (lv_at hl 6 rfl) ?_
                        refine z_get C G clX12 6 rfl 24 (by decide) m_fl_RX12_38 rfl dX12_game_146 ?_
                        refine lv_bipush (v := 8) hx hb dX12_game_149 (by decide) ?_
                        refine lv_iload hx hb dX12_game_151 (lv_at hl 3 rfl) ?_
                        refine lv_imul hx hb dX12_game_153 ?_
                        refine lv_topi (fun y_159 ey_159 => ?_)
                        obtain rfl : y_159 = nI (8 * w) := ey_159.trans (z_imuln 8 w rfl rfl)
                        refine lv_iload hx hb dX12_game_154 (lv_at hl 2 rfl) ?_
                        refine lv_iadd hx hb dX12_game_156 ?_
                        refine lv_topi (fun y_160 ey_160 => ?_)
                        have ey_160i : y_160.toInt = ((8 * w) : Int) + x.toInt := by rw [ey_160]; exact (z_iaddI (x := (nI (8 * w))) (y := x) (by rw [nI_toInt (n := 8 * w) (by omega)]; show -2147483648 ≤ ((8 * w) : Int) + x.toInt; omega) (by rw [nI_toInt (n := 8 * w) (by omega)]; show ((8 * w) : Int) + x.toInt < 2147483648; omega)).trans (by rw [nI_toInt (n := 8 * w) (by omega)] <;> rfl)
                        refine z_ild C G 1 rfl (vp_in_iff.mpr ⟨by omega, by omega⟩) dX12_game_157 ?_
                        refine lv_topi (fun v_161 ev_161 => ?_)
                        subst ev_161
                        refine lv_icmp_lt (tgt := 185) hx hb dX12_game_158 (by decide) (fun c_162 => ?_) (fun c_162 => ?_)
                        · have c_162n : (xrowWorth ((8 * w) + i)).toInt < (xrowWorth y_160.toNatClampNeg).toInt := (fa_lt _ _).mp c_162
                          refine lv_iload hx hb dX12_game_185 (lv_at hl 1 rfl) ?_
                          refine lv_istore (lv' := [(6, .int (nI i)), (10, .int (xrowWorth ((8 * w) + i))), (9, .int (nI i)), (8, .int (nI w)), (5, .int 1), (7, .int 0), (0, .ref mo), (1, .int l_), (2, .int c_), (3, .int 3), (4, .int f_)]) hx hb dX12_game_187 hl (by decide) (zLvf_h rfl) (fun ls hl => ?_)
                          refine lv_iinc (v := nI (i + 1)) (lv' := [(9, .int (nI (i + 1))), (6, .int (nI i)), (10, .int (xrowWorth ((8 * w) + i))), (8, .int (nI w)), (5, .int 1), (7, .int 0), (0, .ref mo), (1, .int l_), (2, .int c_), (3, .int 3), (4, .int f_)]) hx hb dX12_game_189 hl (k := 2) rfl (z_inc i 1) (by decide) (zLvf_h rfl) (fun ls hl => ?_)
                          refine lv_goto (tgt := 102) hx hb dX12_game_192 (by decide) ?_
                          exact ih_102 (i + 1) (nI i) (show (i + 1) ≤ 8 ∧ (-1 ≤ (nI i).toInt ∧ (nI i).toInt ≤ 7) from ⟨by omega, by have t9 := nI_toInt (n := i) (by omega); omega⟩) (show 8 - (i + 1) < 8 - i from by omega) _ _ ls G (lv_sub hl [0, 1, 3, 4, 5, 6, 7, 8, 9, 10] rfl)
                        · have c_162n : ¬ (xrowWorth ((8 * w) + i)).toInt < (xrowWorth y_160.toNatClampNeg).toInt := fun q => c_162 ((fa_lt _ _).mpr q)
                          refine lv_goto (tgt := 189) hx hb dX12_game_161 (by decide) ?_
                          refine lv_iinc (v := nI (i + 1)) (lv' := [(9, .int (nI (i + 1))), (10, .int (xrowWorth ((8 * w) + i))), (6, .int x), (8, .int (nI w)), (5, .int 1), (7, .int 0), (0, .ref mo), (1, .int l_), (2, .int c_), (3, .int 3), (4, .int f_)]) hx hb dX12_game_189 hl (k := 1) rfl (z_inc i 1) (by decide) (zLvf_h rfl) (fun ls hl => ?_)
                          refine lv_goto (tgt := 102) hx hb dX12_game_192 (by decide) ?_
                          exact ih_102 (i + 1) x (show (i + 1) ≤ 8 ∧ (-1 ≤ x.toInt ∧ x.toInt ≤ 7) from ⟨by omega, by have t9 := nI_toInt (n := i) (by omega); omega⟩) (show 8 - (i + 1) < 8 - i from by omega) _ _ ls G (lv_sub hl [0, 2, 3, 4, 5, 6, 7, 8, 9, 10] rfl)
              · have c_143n : ¬ 8 ≤ w := fun q => c_143 ((nI_leI (a := 8) (b := w) (by omega) (by omega)).mpr q)
                refine lv_iconst (v := (-1)) hx hb dX12_game_96 (by decide) ?_
                refine lv_istore (lv' := [(6, .int (-1)), (8, .int (nI w)), (5, .int 8), (7, .int 1), (0, .ref mo), (1, .int l_), (2, .int c_), (3, .int 3), (4, .int f_)]) hx hb dX12_game_97 hl (by decide) (zLvf_h rfl) (fun ls hl => ?_)
                refine lv_iconst (v := 0) hx hb dX12_game_99 (by decide) ?_
                refine lv_istore (lv' := [(9, .int 0), (6, .int (-1)), (8, .int (nI w)), (5, .int 8), (7, .int 1), (0, .ref mo), (1, .int l_), (2, .int c_), (3, .int 3), (4, .int f_)]) hx hb dX12_game_100 hl (by decide) (zLvf_h rfl) (fun ls hl => ?_)
                refine z_lp2 (T := T) 102 (fun (i : Nat) (x : Int32) => [[zAr T 0 m_was 7 xwas], [zAr T 0 m_rowWorth 512 xrowWorth], [zAr T 0 m_all 3952 f_all], [zAr T 0 m_posts 7 xposts], [zAr T 0 m_shut 7 xshut], [zAr T 0 m_here 7 xhere], [zO11 mo m_all m_has i_size i_next i_where i_token i_number i_word i_wrong i_farCrossing m_read j_z0_1 j_crossings_2 j_inns_3 m_posts m_shut m_here xsteps xdone xat xgone m_was m_came m_seenAt m_rowWorth m_farBy m_used i_everywhere i_again0 i_d0 i_never i_firstCame i_longRun i_moved i_crowd i_l0 i_fitMany i_fitLeast i_fitMost m_fitPost m_fitEnd m_keptPosts i_x0]]) (fun (i : Nat) (x : Int32) => [(9, .int (nI i)), (6, .int x), (8, .int (nI w)), (5, .int 8), (7, .int 1), (0, .ref mo), (1, .int l_), (2, .int c_), (3, .int 3), (4, .int f_)]) (fun (i : Nat) (x : Int32) => i ≤ 8 ∧ (-1 ≤ x.toInt ∧ x.toInt ≤ 7)) (fun (i : Nat) (x : Int32) => 8 - i) ?_ 0 (-1) (show 0 ≤ 8 ∧ (-1 ≤ ((-1) : Int32).toInt ∧ ((-1) : Int32).toInt ≤ 7) from ⟨by omega, by decide⟩) G (lv_sub hl [0, 1, 2, 3, 4, 5, 6, 7, 8, 9] rfl)
                intro i x hI9 ih_102 H locs ls G hl
                replace hI9 : i ≤ 8 ∧ (-1 ≤ x.toInt ∧ x.toInt ≤ 7) := hI9
                refine zAn2 hI9 ?_
                intro hi hxx
                clear hI9
                replace G : zS T A s.heap s [[zAr T 0 m_was 7 xwas], [zAr T 0 m_rowWorth 512 xrowWorth], [zAr T 0 m_all 3952 f_all], [zAr T 0 m_posts 7 xposts], [zAr T 0 m_shut 7 xshut], [zAr T 0 m_here 7 xhere], [zO11 mo m_all m_has i_size i_next i_where i_token i_number i_word i_wrong i_farCrossing m_read j_z0_1 j_crossings_2 j_inns_3 m_posts m_shut m_here xsteps xdone xat xgone m_was m_came m_seenAt m_rowWorth m_farBy m_used i_everywhere i_again0 i_d0 i_never i_firstCame i_longRun i_moved i_crowd i_l0 i_fitMany i_fitLeast i_fitMost m_fitPost m_fitEnd m_keptPosts i_x0]] _ _ := G
                replace hl : lv_has ls 11 [(9, .int (nI i)), (6, .int x), (8, .int (nI w)), (5, .int 8), (7, .int 1), (0, .ref mo), (1, .int l_), (2, .int c_), (3, .int 3), (4, .int f_)] := hl
                refine lv_iload hx hb dX12_game_102 (lv_at hl 0 rfl) ?_
                refine lv_bipush (v := 8) hx hb dX12_game_104 (by decide) ?_
                refine lv_icmp_ge (tgt := 195) hx hb dX12_game_106 (by decide) (fun c_163 => ?_) (fun c_163 => ?_)
                · have c_163n : 8 ≤ i := (nI_leI (a := 8) (b := i) (by omega) (by omega)).mp c_163
                  refine lv_aload_n hx hb dX12_game_195 rfl (lv_at hl 5 rfl) ?_
                  refine z_get C G clX12 6 rfl 24 (by decide) m_fl_RX12_38 rfl dX12_game_196 ?_
                  refine lv_iload hx hb dX12_game_199 (lv_at hl 2 rfl) ?_
                  refine lv_iload hx hb dX12_game_201 (lv_at hl 1 rfl) ?_
                  refine lv_iconst (v := (-1)) hx hb dX12_game_203 (by decide) ?_
                  refine lv_icmp_ne (tgt := 211) hx hb dX12_game_204 (by decide) (fun c_164 => ?_) (fun c_164 => ?_)
                  · have c_164n : ¬ x.toInt = (-1 : Int) := fun q => c_164 ((fa_eq _ _).mpr q)
                    refine lv_aload_n hx hb dX12_game_211 rfl (lv_at hl 5 rfl) ?_
                    refine z_get C G clX12 6 rfl 24 (by decide) m_fl_RX12_38 rfl dX12_game_212 ?_
                    refine lv_bipush (v := 8) hx hb dX12_game_215 (by decide) ?_
                    refine lv_iload hx hb dX12_game_217 (lv_at hl 2 rfl) ?_
                    refine lv_imul hx hb dX12_game_219 ?_
                    refine lv_topi (fun y_165 ey_165 => ?_)
                    obtain rfl : y_165 = nI (8 * w) := ey_165.trans (z_imuln 8 w rfl rfl)
                    refine lv_iload hx hb dX12_game_220 (lv_at hl 1 rfl) ?_
                    refine lv_iadd hx hb dX12_game_222 ?_
                    refine lv_topi (fun y_166 ey_166 => ?_)
                    have ey_166i : y_166.toInt = ((8 * w) : Int) + x.toInt := by rw [ey_166]; exact (z_iaddI (x := (nI (8 * w))) (y := x) (by rw [nI_toInt (n := 8 * w) (by omega)]; show -2147483648 ≤ ((8 * w) : Int) + x.toInt; omega) (by rw [nI_toInt (n := 8 * w) (by omega)]; show ((8 * w) : Int) + x.toInt < 2147483648; omega)).trans (by rw [nI_toInt (n := 8 * w) (by omega)] <;> rfl)
                    refine z_ild C G 1 rfl (vp_in_iff.mpr ⟨by omega, by omega⟩) dX12_game_223 ?_
                    refine lv_topi (fun v_167 ev_167 => ?_)
                    subst ev_167
                    refine z_ist C G 1 rfl (vp_in_nI (by omega) (by decide)) dX12_game_224 (fun H locs G => ?_)
                    rw [nI_clamp (by omega)] at G
                    have G : zS T A s.heap s [[zAr T 0 m_was 7 xwas], [zAr T 0 m_rowWorth 512 (upd xrowWorth w (xrowWorth y_166.toNatClampNeg))], [zAr T 0 m_all 3952 f_all], [zAr T 0 m_posts 7 xposts], [zAr T 0 m_shut 7 xshut], [zAr T 0 m_here 7 xhere], [zO11 mo m_all m_has i_size i_next i_where i_token i_number i_word i_wrong i_farCrossing m_read j_z0_1 j_crossings_2 j_inns_3 m_posts m_shut m_here xsteps xdone xat xgone m_was m_came m_seenAt m_rowWorth m_farBy m_used i_everywhere i_again0 i_d0 i_never i_firstCame i_longRun i_moved i_crowd i_l0 i_fitMany i_fitLeast i_fitMost m_fitPost m_fitEnd m_keptPosts i_x0]] _ _ := G
                    refine lv_iinc (v := nI (w + 1)) (lv' := [(8, .int (nI (w + 1))), (9, .int (nI i)), (6, .int x), (5, .int 8), (7, .int 1), (0, .ref mo), (1, .int l_), (2, .int c_), (3, .int 3), (4, .int f_)]) hx hb dX12_game_225 hl (k := 2) rfl (z_inc w 1) (by decide) (zLvf_h rfl) (fun ls hl => ?_)
                    refine lv_goto (tgt := 89) hx hb dX12_game_228 (by decide) ?_
                    exact ih_89 (w + 1) x (upd xrowWorth w (xrowWorth y_166.toNatClampNeg)) (show (w + 1) ≤ 8 from by omega) (show 8 - (w + 1) < 8 - w from by omega) _ _ ls G (lv_sub hl [0, 3, 4, 2, 5, 6, 7, 8, 9] rfl)
                  · have c_164n : x.toInt = (-1 : Int) := (fa_eq _ _).mp c_164
                    refine lv_iconst (v := (-1)) hx hb dX12_game_207 (by decide) ?_
                    refine lv_goto (tgt := 224) hx hb dX12_game_208 (by decide) ?_
                    refine z_ist C G 1 rfl (vp_in_nI (by omega) (by decide)) dX12_game_224 (fun H locs G => ?_)
                    rw [nI_clamp (by omega)] at G
                    have G : zS T A s.heap s [[zAr T 0 m_was 7 xwas], [zAr T 0 m_rowWorth 512 (upd xrowWorth w (-1))], [zAr T 0 m_all 3952 f_all], [zAr T 0 m_posts 7 xposts], [zAr T 0 m_shut 7 xshut], [zAr T 0 m_here 7 xhere], [zO11 mo m_all m_has i_size i_next i_where i_token i_number i_word i_wrong i_farCrossing m_read j_z0_1 j_crossings_2 j_inns_3 m_posts m_shut m_here xsteps xdone xat xgone m_was m_came m_seenAt m_rowWorth m_farBy m_used i_everywhere i_again0 i_d0 i_never i_firstCame i_longRun i_moved i_crowd i_l0 i_fitMany i_fitLeast i_fitMost m_fitPost m_fitEnd m_keptPosts i_x0]] _ _ := G
                    refine lv_iinc (v := nI (w + 1)) (lv' := [(8, .int (nI (w + 1))), (9, .int (nI i)), (6, .int x), (5, .int 8), (7, .int 1), (0, .ref mo), (1, .int l_), (2, .int c_), (3, .int 3), (4, .int f_)]) hx hb dX12_game_225 hl (k := 2) rfl (z_inc w 1) (by decide) (zLvf_h rfl) (fun ls hl => ?_)
                    refine lv_goto (tgt := 89) hx hb dX12_game_228 (by decide) ?_
                    exact ih_89 (w + 1) x (upd xrowWorth w (-1)) (show (w + 1) ≤ 8 from by omega) (show 8 - (w + 1) < 8 - w from by omega) _ _ ls G (lv_sub hl [0, 3, 4, 2, 5, 6, 7, 8, 9] rfl)
                · have c_163n : ¬ 8 ≤ i := fun q => c_163 ((nI_leI (a := 8) (b := i) (by omega) (by omega)).mpr q)
                  refine lv_aload_n hx hb dX12_game_109 rfl (lv_at hl 5 rfl) ?_
                  refine z_get C G clX12 6 rfl 24 (by decide) m_fl_RX12_38 rfl dX12_game_110 ?_
                  refine lv_bipush (v := 8) hx hb dX12_game_113 (by decide) ?_
                  refine lv_iload hx hb dX12_game_115 (lv_at hl 2 rfl) ?_
                  refine lv_imul hx hb dX12_game_117 ?_
                  refine lv_topi (fun y_168 ey_168 => ?_)
                  obtain rfl : y_168 = nI (8 * w) := ey_168.trans (z_imuln 8 w rfl rfl)
                  refine lv_iload hx hb dX12_game_118 (lv_at hl 0 rfl) ?_
                  refine lv_iadd hx hb dX12_game_120 ?_
                  refine lv_topi (fun y_169 ey_169 => ?_)
                  obtain rfl : y_169 = nI ((8 * w) + i) := ey_169.trans (z_iaddn (8 * w) i rfl rfl)
                  refine z_ild C G 1 rfl (vp_in_nI (by omega) (by decide)) dX12_game_121 ?_
                  refine lv_topi (fun v_170 ev_170 => ?_)
                  rw [nI_clamp (by omega)] at ev_170
                  subst ev_170
                  refine lv_istore (lv' := [(10, .int (xrowWorth ((8 * w) + i))), (9, .int (nI i)), (6, .int x), (8, .int (nI w)), (5, .int 8), (7, .int 1), (0, .ref mo), (1, .int l_), (2, .int c_), (3, .int 3), (4, .int f_)]) hx hb dX12_game_122 hl (by decide) (zLvf_h rfl) (fun ls hl => ?_)
                  refine lv_iload hx hb dX12_game_124 (lv_at hl 0 rfl) ?_
                  refine lv_iconst (v := (-1)) hx hb dX12_game_126 (by decide) ?_
                  refine lv_icmp_eq (tgt := 189) hx hb dX12_game_127 (by decide) (fun c_171 => ?_) (fun c_171 => ?_)
                  · have c_171n : (xrowWorth ((8 * w) + i)).toInt = (-1 : Int) := (fa_eq _ _).mp c_171
                    refine lv_iinc (v := nI (i + 1)) (lv' := [(9, .int (nI (i + 1))), (10, .int (xrowWorth ((8 * w) + i))), (6, .int x), (8, .int (nI w)), (5, .int 8), (7, .int 1), (0, .ref mo), (1, .int l_), (2, .int c_), (3, .int 3), (4, .int f_)]) hx hb dX12_game_189 hl (k := 1) rfl (z_inc i 1) (by decide) (zLvf_h rfl) (fun ls hl => ?_)
                    refine lv_goto (tgt := 102) hx hb dX12_game_192 (by decide) ?_
                    exact ih_102 (i + 1) x (show (i + 1) ≤ 8 ∧ (-1 ≤ x.toInt ∧ x.toInt ≤ 7) from ⟨by omega, by have t9 := nI_toInt (n := i) (by omega); omega⟩) (show 8 - (i + 1) < 8 - i from by omega) _ _ ls G (lv_sub hl [0, 2, 3, 4, 5, 6, 7, 8, 9, 10] rfl)
                  · have c_171n : ¬ (xrowWorth ((8 * w) + i)).toInt = (-1 : Int) := fun q => c_171 ((fa_eq _ _).mpr q)
                    refine lv_iload hx hb dX12_game_130 (lv_at hl 2 rfl) ?_
                    refine lv_iconst (v := (-1)) hx hb dX12_game_132 (by decide) ?_
                    refine lv_icmp_eq (tgt := 185) hx hb dX12_game_133 (by decide) (fun c_172 => ?_) (fun c_172 => ?_)
                    · have c_172n : x.toInt = (-1 : Int) := (fa_eq _ _).mp c_172
                      refine lv_iload hx hb dX12_game_185 (lv_at hl 1 rfl) ?_
                      refine lv_istore (lv' := [(6, .int (nI i)), (10, .int (xrowWorth ((8 * w) + i))), (9, .int (nI i)), (8, .int (nI w)), (5, .int 8), (7, .int 1), (0, .ref mo), (1, .int l_), (2, .int c_), (3, .int 3), (4, .int f_)]) hx hb dX12_game_187 hl (by decide) (zLvf_h rfl) (fun ls hl => ?_)
                      refine lv_iinc (v := nI (i + 1)) (lv' := [(9, .int (nI (i + 1))), (6, .int (nI i)), (10, .int (xrowWorth ((8 * w) + i))), (8, .int (nI w)), (5, .int 8), (7, .int 1), (0, .ref mo), (1, .int l_), (2, .int c_), (3, .int 3), (4, .int f_)]) hx hb dX12_game_189 hl (k := 2) rfl (z_inc i 1) (by decide) (zLvf_h rfl) (fun ls hl => ?_)
                      refine lv_goto (tgt := 102) hx hb dX12_game_192 (by decide) ?_
                      exact ih_102 (i + 1) (nI i) (show (i + 1) ≤ 8 ∧ (-1 ≤ (nI i).toInt ∧ (nI i).toInt ≤ 7) from ⟨by omega, by have t9 := nI_toInt (n := i) (by omega); omega⟩) (show 8 - (i + 1) < 8 - i from by omega) _ _ ls G (lv_sub hl [0, 1, 3, 4, 5, 6, 7, 8, 9, 10] rfl)
                    · have c_172n : ¬ x.toInt = (-1 : Int) := fun q => c_172 ((fa_eq _ _).mpr q)
                      refine lv_iload hx hb dX12_game_136 (lv_at hl 5 rfl) ?_
                      refine lv_iconst (v := 2) hx hb dX12_game_138 (by decide) ?_
                      refine lv_irem hx hb dX12_game_139 (by decide) ?_
                      refine lv_topi (fun y_173 ey_173 => ?_)
                      obtain rfl : y_173 = 1 := ey_173.trans (by decide)
                      refine lv_if_ne (tgt := 164) hx hb dX12_game_140 (by decide) (fun _ => ?_) (fun q => absurd q (by decide))
                      refine lv_iload hx hb dX12_game_164 (lv_at hl 0 rfl) ?_
                      refine lv_aload_n hx hb dX12_game_166 rfl (lv_at hl 6 rfl) ?_
                      refine z_get C G clX12 6 rfl 24 (by decide) m_fl_RX12_38 rfl dX12_game_167 ?_
                      refine lv_bipush (v := 8) hx hb dX12_game_170 (by decide) ?_
                      refine lv_iload hx hb dX12_game_172 (lv_at hl 3 rfl) ?_
                      refine lv_imul hx hb dX12_game_174 ?_
                      refine lv_topi (fun y_174 ey_174 => ?_)
                      obtain rfl : y_174 = nI (8 * w) := ey_174.trans (z_imuln 8 w rfl rfl)
                      refine lv_iload hx hb dX12_game_175 (lv_at hl 2 rfl) ?_
                      refine lv_iadd hx hb dX12_game_177 ?_
                      refine lv_topi (fun y_175 ey_175 => ?_)
                      have ey_175i : y_175.toInt = ((8 * w) : Int) + x.toInt := by rw [ey_175]; exact (z_iaddI (x := (nI (8 * w))) (y := x) (by rw [nI_toInt (n := 8 * w) (by omega)]; show -2147483648 ≤ ((8 * w) : Int) + x.toInt; omega) (by rw [nI_toInt (n := 8 * w) (by omega)]; show ((8 * w) : Int) + x.toInt < 2147483648; omega)).trans (by rw [nI_toInt (n := 8 * w) (by omega)] <;> rfl)
                      refine z_ild C G 1 rfl (vp_in_iff.mpr ⟨by omega, by omega⟩) dX12_game_178 ?_
                      refine lv_topi (fun v_176 ev_176 => ?_)
                      subst ev_176
                      refine lv_icmp_gt (tgt := 185) hx hb dX12_game_179 (by decide) (fun c_177 => ?_) (fun c_177 => ?_)
                      · have c_177n : (xrowWorth y_175.toNatClampNeg).toInt < (xrowWorth ((8 * w) + i)).toInt := (fa_lt _ _).mp c_177
                        refine lv_iload hx hb dX12_game_185 (lv_at hl 1 rfl) ?_
                        refine lv_istore (lv' := [(6, .int (nI i)), (10, .int (xrowWorth ((8 * w) + i))), (9, .int (nI i)), (8, .int (nI w)), (5, .int 8), (7, .int 1), (0, .ref mo), (1, .int l_), (2, .int c_), (3, .int 3), (4, .int f_)]) hx hb dX12_game_187 hl (by decide) (zLvf_h rfl) (fun ls hl => ?_)
                        refine lv_iinc (v := nI (i + 1)) (lv' := [(9, .int (nI (i + 1))), (6, .int (nI i)), (10, .int (xrowWorth ((8 * w) + i))), (8, .int (nI w)), (5, .int 8), (7, .int 1), (0, .ref mo), (1, .int l_), (2, .int c_), (3, .int 3), (4, .int f_)]) hx hb dX12_game_189 hl (k := 2) rfl (z_inc i 1) (by decide) (zLvf_h rfl) (fun ls hl => ?_)
                        refine lv_goto (tgt := 102) hx hb dX12_game_192 (by decide) ?_
                        exact ih_102 (i + 1) (nI i) (show (i + 1) ≤ 8 ∧ (-1 ≤ (nI i).toInt ∧ (nI i).toInt ≤ 7) from ⟨by omega, by have t9 := nI_toInt (n := i) (by omega); omega⟩) (show 8 - (i + 1) < 8 - i from by omega) _ _ ls G (lv_sub hl [0, 1, 3, 4, 5, 6, 7, 8, 9, 10] rfl)
                      · have c_177n : ¬ (xrowWorth y_175.toNatClampNeg).toInt < (xrowWorth ((8 * w) + i)).toInt := fun q => c_177 ((fa_lt _ _).mpr q)
                        refine lv_goto (tgt := 189) hx hb dX12_game_182 (by decide) ?_
                        refine lv_iinc (v := nI (i + 1)) (lv' := [(9, .int (nI (i + 1))), (10, .int (xrowWorth ((8 * w) + i))), (6, .int x), (8, .int (nI w)), (5, .int 8), (7, .int 1), (0, .ref mo), (1, .int l_), (2, .int c_), (3, .int 3), (4, .int f_)]) hx hb dX12_game_189 hl (k := 1) rfl (z_inc i 1) (by decide) (zLvf_h rfl) (fun ls hl => ?_)
                        refine lv_goto (tgt := 102) hx hb dX12_game_192 (by decide) ?_
                        exact ih_102 (i + 1) x (show (i + 1) ≤ 8 ∧ (-1 ≤ x.toInt ∧ x.toInt ≤ 7) from ⟨by omega, by have t9 := nI_toInt (n := i) (by omega); omega⟩) (show 8 - (i + 1) < 8 - i from by omega) _ _ ls G (lv_sub hl [0, 2, 3, 4, 5, 6, 7, 8, 9, 10] rfl)
            · have c_141n : ¬ 64 ≤ w := fun q => c_141 ((nI_leI (a := 64) (b := w) (by omega) (by omega)).mpr q)
              refine lv_iconst (v := (-1)) hx hb dX12_game_96 (by decide) ?_
              refine lv_istore (lv' := [(6, .int (-1)), (8, .int (nI w)), (5, .int 64), (7, .int 2), (0, .ref mo), (1, .int l_), (2, .int c_), (3, .int 3), (4, .int f_)]) hx hb dX12_game_97 hl (by decide) (zLvf_h rfl) (fun ls hl => ?_)
              refine lv_iconst (v := 0) hx hb dX12_game_99 (by decide) ?_
              refine lv_istore (lv' := [(9, .int 0), (6, .int (-1)), (8, .int (nI w)), (5, .int 64), (7, .int 2), (0, .ref mo), (1, .int l_), (2, .int c_), (3, .int 3), (4, .int f_)]) hx hb dX12_game_100 hl (by decide) (zLvf_h rfl) (fun ls hl => ?_)
              refine z_lp2 (T := T) 102 (fun (i : Nat) (x : Int32) => [[zAr T 0 m_was 7 xwas], [zAr T 0 m_rowWorth 512 xrowWorth], [zAr T 0 m_all 3952 f_all], [zAr T 0 m_posts 7 xposts], [zAr T 0 m_shut 7 xshut], [zAr T 0 m_here 7 xhere], [zO11 mo m_all m_has i_size i_next i_where i_token i_number i_word i_wrong i_farCrossing m_read j_z0_1 j_crossings_2 j_inns_3 m_posts m_shut m_here xsteps xdone xat xgone m_was m_came m_seenAt m_rowWorth m_farBy m_used i_everywhere i_again0 i_d0 i_never i_firstCame i_longRun i_moved i_crowd i_l0 i_fitMany i_fitLeast i_fitMost m_fitPost m_fitEnd m_keptPosts i_x0]]) (fun (i : Nat) (x : Int32) => [(9, .int (nI i)), (6, .int x), (8, .int (nI w)), (5, .int 64), (7, .int 2), (0, .ref mo), (1, .int l_), (2, .int c_), (3, .int 3), (4, .int f_)]) (fun (i : Nat) (x : Int32) => i ≤ 8 ∧ (-1 ≤ x.toInt ∧ x.toInt ≤ 7)) (fun (i : Nat) (x : Int32) => 8 - i) ?_ 0 (-1) (show 0 ≤ 8 ∧ (-1 ≤ ((-1) : Int32).toInt ∧ ((-1) : Int32).toInt ≤ 7) from ⟨by omega, by decide⟩) G (lv_sub hl [0, 1, 2, 3, 4, 5, 6, 7, 8, 9] rfl)
              intro i x hI9 ih_102 H locs ls G hl
              replace hI9 : i ≤ 8 ∧ (-1 ≤ x.toInt ∧ x.toInt ≤ 7) := hI9
              refine zAn2 hI9 ?_
              intro hi hxx
              clear hI9
              replace G : zS T A s.heap s [[zAr T 0 m_was 7 xwas], [zAr T 0 m_rowWorth 512 xrowWorth], [zAr T 0 m_all 3952 f_all], [zAr T 0 m_posts 7 xposts], [zAr T 0 m_shut 7 xshut], [zAr T 0 m_here 7 xhere], [zO11 mo m_all m_has i_size i_next i_where i_token i_number i_word i_wrong i_farCrossing m_read j_z0_1 j_crossings_2 j_inns_3 m_posts m_shut m_here xsteps xdone xat xgone m_was m_came m_seenAt m_rowWorth m_farBy m_used i_everywhere i_again0 i_d0 i_never i_firstCame i_longRun i_moved i_crowd i_l0 i_fitMany i_fitLeast i_fitMost m_fitPost m_fitEnd m_keptPosts i_x0]] _ _ := G
              replace hl : lv_has ls 11 [(9, .int (nI i)), (6, .int x), (8, .int (nI w)), (5, .int 64), (7, .int 2), (0, .ref mo), (1, .int l_), (2, .int c_), (3, .int 3), (4, .int f_)] := hl
              refine lv_iload hx hb dX12_game_102 (lv_at hl 0 rfl) ?_
              refine lv_bipush (v := 8) hx hb dX12_game_104 (by decide) ?_
              refine lv_icmp_ge (tgt := 195) hx hb dX12_game_106 (by decide) (fun c_178 => ?_) (fun c_178 => ?_)
              · have c_178n : 8 ≤ i := (nI_leI (a := 8) (b := i) (by omega) (by omega)).mp c_178
                refine lv_aload_n hx hb dX12_game_195 rfl (lv_at hl 5 rfl) ?_
                refine z_get C G clX12 6 rfl 24 (by decide) m_fl_RX12_38 rfl dX12_game_196 ?_
                refine lv_iload hx hb dX12_game_199 (lv_at hl 2 rfl) ?_
                refine lv_iload hx hb dX12_game_201 (lv_at hl 1 rfl) ?_
                refine lv_iconst (v := (-1)) hx hb dX12_game_203 (by decide) ?_
                refine lv_icmp_ne (tgt := 211) hx hb dX12_game_204 (by decide) (fun c_179 => ?_) (fun c_179 => ?_)
                · have c_179n : ¬ x.toInt = (-1 : Int) := fun q => c_179 ((fa_eq _ _).mpr q)
                  refine lv_aload_n hx hb dX12_game_211 rfl (lv_at hl 5 rfl) ?_
                  refine z_get C G clX12 6 rfl 24 (by decide) m_fl_RX12_38 rfl dX12_game_212 ?_
                  refine lv_bipush (v := 8) hx hb dX12_game_215 (by decide) ?_
                  refine lv_iload hx hb dX12_game_217 (lv_at hl 2 rfl) ?_
                  refine lv_imul hx hb dX12_game_219 ?_
                  refine lv_topi (fun y_180 ey_180 => ?_)
                  obtain rfl : y_180 = nI (8 * w) := ey_180.trans (z_imuln 8 w rfl rfl)
                  refine lv_iload hx hb dX12_game_220 (lv_at hl 1 rfl) ?_
                  refine lv_iadd hx hb dX12_game_222 ?_
                  refine lv_topi (fun y_181 ey_181 => ?_)
                  have ey_181i : y_181.toInt = ((8 * w) : Int) + x.toInt := by rw [ey_181]; exact (z_iaddI (x := (nI (8 * w))) (y := x) (by rw [nI_toInt (n := 8 * w) (by omega)]; show -2147483648 ≤ ((8 * w) : Int) + x.toInt; omega) (by rw [nI_toInt (n := 8 * w) (by omega)]; show ((8 * w) : Int) + x.toInt < 2147483648; omega)).trans (by rw [nI_toInt (n := 8 * w) (by omega)] <;> rfl)
                  refine z_ild C G 1 rfl (vp_in_iff.mpr ⟨by omega, by omega⟩) dX12_game_223 ?_
                  refine lv_topi (fun v_182 ev_182 => ?_)
                  subst ev_182
                  refine z_ist C G 1 rfl (vp_in_nI (by omega) (by decide)) dX12_game_224 (fun H locs G => ?_)
                  rw [nI_clamp (by omega)] at G
                  have G : zS T A s.heap s [[zAr T 0 m_was 7 xwas], [zAr T 0 m_rowWorth 512 (upd xrowWorth w (xrowWorth y_181.toNatClampNeg))], [zAr T 0 m_all 3952 f_all], [zAr T 0 m_posts 7 xposts], [zAr T 0 m_shut 7 xshut], [zAr T 0 m_here 7 xhere], [zO11 mo m_all m_has i_size i_next i_where i_token i_number i_word i_wrong i_farCrossing m_read j_z0_1 j_crossings_2 j_inns_3 m_posts m_shut m_here xsteps xdone xat xgone m_was m_came m_seenAt m_rowWorth m_farBy m_used i_everywhere i_again0 i_d0 i_never i_firstCame i_longRun i_moved i_crowd i_l0 i_fitMany i_fitLeast i_fitMost m_fitPost m_fitEnd m_keptPosts i_x0]] _ _ := G
                  refine lv_iinc (v := nI (w + 1)) (lv' := [(8, .int (nI (w + 1))), (9, .int (nI i)), (6, .int x), (5, .int 64), (7, .int 2), (0, .ref mo), (1, .int l_), (2, .int c_), (3, .int 3), (4, .int f_)]) hx hb dX12_game_225 hl (k := 2) rfl (z_inc w 1) (by decide) (zLvf_h rfl) (fun ls hl => ?_)
                  refine lv_goto (tgt := 89) hx hb dX12_game_228 (by decide) ?_
                  exact ih_89 (w + 1) x (upd xrowWorth w (xrowWorth y_181.toNatClampNeg)) (show (w + 1) ≤ 64 from by omega) (show 64 - (w + 1) < 64 - w from by omega) _ _ ls G (lv_sub hl [0, 3, 4, 2, 5, 6, 7, 8, 9] rfl)
                · have c_179n : x.toInt = (-1 : Int) := (fa_eq _ _).mp c_179
                  refine lv_iconst (v := (-1)) hx hb dX12_game_207 (by decide) ?_
                  refine lv_goto (tgt := 224) hx hb dX12_game_208 (by decide) ?_
                  refine z_ist C G 1 rfl (vp_in_nI (by omega) (by decide)) dX12_game_224 (fun H locs G => ?_)
                  rw [nI_clamp (by omega)] at G
                  have G : zS T A s.heap s [[zAr T 0 m_was 7 xwas], [zAr T 0 m_rowWorth 512 (upd xrowWorth w (-1))], [zAr T 0 m_all 3952 f_all], [zAr T 0 m_posts 7 xposts], [zAr T 0 m_shut 7 xshut], [zAr T 0 m_here 7 xhere], [zO11 mo m_all m_has i_size i_next i_where i_token i_number i_word i_wrong i_farCrossing m_read j_z0_1 j_crossings_2 j_inns_3 m_posts m_shut m_here xsteps xdone xat xgone m_was m_came m_seenAt m_rowWorth m_farBy m_used i_everywhere i_again0 i_d0 i_never i_firstCame i_longRun i_moved i_crowd i_l0 i_fitMany i_fitLeast i_fitMost m_fitPost m_fitEnd m_keptPosts i_x0]] _ _ := G
                  refine lv_iinc (v := nI (w + 1)) (lv' := [(8, .int (nI (w + 1))), (9, .int (nI i)), (6, .int x), (5, .int 64), (7, .int 2), (0, .ref mo), (1, .int l_), (2, .int c_), (3, .int 3), (4, .int f_)]) hx hb dX12_game_225 hl (k := 2) rfl (z_inc w 1) (by decide) (zLvf_h rfl) (fun ls hl => ?_)
                  refine lv_goto (tgt := 89) hx hb dX12_game_228 (by decide) ?_
                  exact ih_89 (w + 1) x (upd xrowWorth w (-1)) (show (w + 1) ≤ 64 from by omega) (show 64 - (w + 1) < 64 - w from by omega) _ _ ls G (lv_sub hl [0, 3, 4, 2, 5, 6, 7, 8, 9] rfl)
              · have c_178n : ¬ 8 ≤ i := fun q => c_178 ((nI_leI (a := 8) (b := i) (by omega) (by omega)).mpr q)
                refine lv_aload_n hx hb dX12_game_109 rfl (lv_at hl 5 rfl) ?_
                refine z_get C G clX12 6 rfl 24 (by decide) m_fl_RX12_38 rfl dX12_game_110 ?_
                refine lv_bipush (v := 8) hx hb dX12_game_113 (by decide) ?_
                refine lv_iload hx hb dX12_game_115 (lv_at hl 2 rfl) ?_
                refine lv_imul hx hb dX12_game_117 ?_
                refine lv_topi (fun y_183 ey_183 => ?_)
                obtain rfl : y_183 = nI (8 * w) := ey_183.trans (z_imuln 8 w rfl rfl)
                refine lv_iload hx hb dX12_game_118 (lv_at hl 0 rfl) ?_
                refine lv_iadd hx hb dX12_game_120 ?_
                refine lv_topi (fun y_184 ey_184 => ?_)
                obtain rfl : y_184 = nI ((8 * w) + i) := ey_184.trans (z_iaddn (8 * w) i rfl rfl)
                refine z_ild C G 1 rfl (vp_in_nI (by omega) (by decide)) dX12_game_121 ?_
                refine lv_topi (fun v_185 ev_185 => ?_)
                rw [nI_clamp (by omega)] at ev_185
                subst ev_185
                refine lv_istore (lv' := [(10, .int (xrowWorth ((8 * w) + i))), (9, .int (nI i)), (6, .int x), (8, .int (nI w)), (5, .int 64), (7, .int 2), (0, .ref mo), (1, .int l_), (2, .int c_), (3, .int 3), (4, .int f_)]) hx hb dX12_game_122 hl (by decide) (zLvf_h rfl) (fun ls hl => ?_)
                refine lv_iload hx hb dX12_game_124 (lv_at hl 0 rfl) ?_
                refine lv_iconst (v := (-1)) hx hb dX12_game_126 (by decide) ?_
                refine lv_icmp_eq (tgt := 189) hx hb dX12_game_127 (by decide) (fun c_186 => ?_) (fun c_186 => ?_)
                · have c_186n : (xrowWorth ((8 * w) + i)).toInt = (-1 : Int) := (fa_eq _ _).mp c_186
                  refine lv_iinc (v := nI (i + 1)) (lv' := [(9, .int (nI (i + 1))), (10, .int (xrowWorth ((8 * w) + i))), (6, .int x), (8, .int (nI w)), (5, .int 64), (7, .int 2), (0, .ref mo), (1, .int l_), (2, .int c_), (3, .int 3), (4, .int f_)]) hx hb dX12_game_189 hl (k := 1) rfl (z_inc i 1) (by decide) (zLvf_h rfl) (fun ls hl => ?_)
                  refine lv_goto (tgt := 102) hx hb dX12_game_192 (by decide) ?_
                  exact ih_102 (i + 1) x (show (i + 1) ≤ 8 ∧ (-1 ≤ x.toInt ∧ x.toInt ≤ 7) from ⟨by omega, by have t9 := nI_toInt (n := i) (by omega); omega⟩) (show 8 - (i + 1) < 8 - i from by omega) _ _ ls G (lv_sub hl [0, 2, 3, 4, 5, 6, 7, 8, 9, 10] rfl)
                · have c_186n : ¬ (xrowWorth ((8 * w) + i)).toInt = (-1 : Int) := fun q => c_186 ((fa_eq _ _).mpr q)
                  refine lv_iload hx hb dX12_game_130 (lv_at hl 2 rfl) ?_
                  refine lv_iconst (v := (-1)) hx hb dX12_game_132 (by decide) ?_
                  refine lv_icmp_eq (tgt := 185) hx hb dX12_game_133 (by decide) (fun c_187 => ?_) (fun c_187 => ?_)
                  · have c_187n : x.toInt = (-1 : Int) := (fa_eq _ _).mp c_187
                    refine lv_iload hx hb dX12_game_185 (lv_at hl 1 rfl) ?_
                    refine lv_istore (lv' := [(6, .int (nI i)), (10, .int (xrowWorth ((8 * w) + i))), (9, .int (nI i)), (8, .int (nI w)), (5, .int 64), (7, .int 2), (0, .ref mo), (1, .int l_), (2, .int c_), (3, .int 3), (4, .int f_)]) hx hb dX12_game_187 hl (by decide) (zLvf_h rfl) (fun ls hl => ?_)
                    refine lv_iinc (v := nI (i + 1)) (lv' := [(9, .int (nI (i + 1))), (6, .int (nI i)), (10, .int (xrowWorth ((8 * w) + i))), (8, .int (nI w)), (5, .int 64), (7, .int 2), (0, .ref mo), (1, .int l_), (2, .int c_), (3, .int 3), (4, .int f_)]) hx hb dX12_game_189 hl (k := 2) rfl (z_inc i 1) (by decide) (zLvf_h rfl) (fun ls hl => ?_)
                    refine lv_goto (tgt := 102) hx hb dX12_game_192 (by decide) ?_
                    exact ih_102 (i + 1) (nI i) (show (i + 1) ≤ 8 ∧ (-1 ≤ (nI i).toInt ∧ (nI i).toInt ≤ 7) from ⟨by omega, by have t9 := nI_toInt (n := i) (by omega); omega⟩) (show 8 - (i + 1) < 8 - i from by omega) _ _ ls G (lv_sub hl [0, 1, 3, 4, 5, 6, 7, 8, 9, 10] rfl)
                  · have c_187n : ¬ x.toInt = (-1 : Int) := fun q => c_187 ((fa_eq _ _).mpr q)
                    refine lv_iload hx hb dX12_game_136 (lv_at hl 5 rfl) ?_
                    refine lv_iconst (v := 2) hx hb dX12_game_138 (by decide) ?_
                    refine lv_irem hx hb dX12_game_139 (by decide) ?_
                    refine lv_topi (fun y_188 ey_188 => ?_)
                    obtain rfl : y_188 = 0 := ey_188.trans (by decide)
                    refine lv_if_ne (tgt := 164) hx hb dX12_game_140 (by decide) (fun q => absurd (by decide) q) (fun _ => ?_)
                    refine lv_iload hx hb dX12_game_143 (lv_at hl 0 rfl) ?_
                    refine lv_aload_n hx hb dX12_game_145 rfl (lv_at hl 6 rfl) ?_
                    refine z_get C G clX12 6 rfl 24 (by decide) m_fl_RX12_38 rfl dX12_game_146 ?_
                    refine lv_bipush (v := 8) hx hb dX12_game_149 (by decide) ?_
                    refine lv_iload hx hb dX12_game_151 (lv_at hl 3 rfl) ?_
                    refine lv_imul hx hb dX12_game_153 ?_
                    refine lv_topi (fun y_189 ey_189 => ?_)
                    obtain rfl : y_189 = nI (8 * w) := ey_189.trans (z_imuln 8 w rfl rfl)
                    refine lv_iload hx hb dX12_game_154 (lv_at hl 2 rfl) ?_
                    refine lv_iadd hx hb dX12_game_156 ?_
                    refine lv_topi (fun y_190 ey_190 => ?_)
                    have ey_190i : y_190.toInt = ((8 * w) : Int) + x.toInt := by rw [ey_190]; exact (z_iaddI (x := (nI (8 * w))) (y := x) (by rw [nI_toInt (n := 8 * w) (by omega)]; show -2147483648 ≤ ((8 * w) : Int) + x.toInt; omega) (by rw [nI_toInt (n := 8 * w) (by omega)]; show ((8 * w) : Int) + x.toInt < 2147483648; omega)).trans (by rw [nI_toInt (n := 8 * w) (by omega)] <;> rfl)
                    refine z_ild C G 1 rfl (vp_in_iff.mpr ⟨by omega, by omega⟩) dX12_game_157 ?_
                    refine lv_topi (fun v_191 ev_191 => ?_)
                    subst ev_191
                    refine lv_icmp_lt (tgt := 185) hx hb dX12_game_158 (by decide) (fun c_192 => ?_) (fun c_192 => ?_)
                    · have c_192n : (xrowWorth ((8 * w) + i)).toInt < (xrowWorth y_190.toNatClampNeg).toInt := (fa_lt _ _).mp c_192
                      refine lv_iload hx hb dX12_game_185 (lv_at hl 1 rfl) ?_
                      refine lv_istore (lv' := [(6, .int (nI i)), (10, .int (xrowWorth ((8 * w) + i))), (9, .int (nI i)), (8, .int (nI w)), (5, .int 64), (7, .int 2), (0, .ref mo), (1, .int l_), (2, .int c_), (3, .int 3), (4, .int f_)]) hx hb dX12_game_187 hl (by decide) (zLvf_h rfl) (fun ls hl => ?_)
                      refine lv_iinc (v := nI (i + 1)) (lv' := [(9, .int (nI (i + 1))), (6, .int (nI i)), (10, .int (xrowWorth ((8 * w) + i))), (8, .int (nI w)), (5, .int 64), (7, .int 2), (0, .ref mo), (1, .int l_), (2, .int c_), (3, .int 3), (4, .int f_)]) hx hb dX12_game_189 hl (k := 2) rfl (z_inc i 1) (by decide) (zLvf_h rfl) (fun ls hl => ?_)
                      refine lv_goto (tgt := 102) hx hb dX12_game_192 (by decide) ?_
                      exact ih_102 (i + 1) (nI i) (show (i + 1) ≤ 8 ∧ (-1 ≤ (nI i).toInt ∧ (nI i).toInt ≤ 7) from ⟨by omega, by have t9 := nI_toInt (n := i) (by omega); omega⟩) (show 8 - (i + 1) < 8 - i from by omega) _ _ ls G (lv_sub hl [0, 1, 3, 4, 5, 6, 7, 8, 9, 10] rfl)
                    · have c_192n : ¬ (xrowWorth ((8 * w) + i)).toInt < (xrowWorth y_190.toNatClampNeg).toInt := fun q => c_192 ((fa_lt _ _).mpr q)
                      refine lv_goto (tgt := 189) hx hb dX12_game_161 (by decide) ?_
                      refine lv_iinc (v := nI (i + 1)) (lv' := [(9, .int (nI (i + 1))), (10, .int (xrowWorth ((8 * w) + i))), (6, .int x), (8, .int (nI w)), (5, .int 64), (7, .int 2), (0, .ref mo), (1, .int l_), (2, .int c_), (3, .int 3), (4, .int f_)]) hx hb dX12_game_189 hl (k := 1) rfl (z_inc i 1) (by decide) (zLvf_h rfl) (fun ls hl => ?_)
                      refine lv_goto (tgt := 102) hx hb dX12_game_192 (by decide) ?_
                      exact ih_102 (i + 1) x (show (i + 1) ≤ 8 ∧ (-1 ≤ x.toInt ∧ x.toInt ≤ 7) from ⟨by omega, by have t9 := nI_toInt (n := i) (by omega); omega⟩) (show 8 - (i + 1) < 8 - i from by omega) _ _ ls G (lv_sub hl [0, 2, 3, 4, 5, 6, 7, 8, 9, 10] rfl)
          · have c_138n : ¬ 512 ≤ w := fun q => c_138 ((nI_leI (a := 512) (b := w) (by omega) (by omega)).mpr q)
            refine lv_aload_n hx hb dX12_game_45 rfl (lv_at hl 2 rfl) ?_
            refine z_get C G clX12 6 rfl 24 (by decide) m_fl_RX12_38 rfl dX12_game_46 ?_
            refine lv_iload hx hb dX12_game_49 (lv_at hl 0 rfl) ?_
            refine lv_aload_n hx hb dX12_game_51 rfl (lv_at hl 2 rfl) ?_
            refine lv_iload hx hb dX12_game_52 (lv_at hl 0 rfl) ?_
            refine lv_iload_n hx hb dX12_game_54 rfl (lv_at hl 5 rfl) ?_
            refine lv_iload_n hx hb dX12_game_55 rfl (lv_at hl 4 rfl) ?_
            have ti_193 : (nI w).toInt = ((w : Nat) : Int) := nI_toInt (by omega)
            refine z_Vi (bc := [[zO11 mo m_all m_has i_size i_next i_where i_token i_number i_word i_wrong i_farCrossing m_read j_z0_1 j_crossings_2 j_inns_3 m_posts m_shut m_here xsteps xdone xat xgone m_was m_came m_seenAt m_rowWorth m_farBy m_used i_everywhere i_again0 i_d0 i_never i_firstCame i_longRun i_moved i_crowd i_l0 i_fitMany i_fitLeast i_fitMost m_fitPost m_fitEnd m_keptPosts i_x0], [zAr T 0 m_all 3952 f_all], [zAr T 0 m_posts 7 xposts], [zAr T 0 m_shut 7 xshut], [zAr T 0 m_here 7 xhere], [zAr T 0 m_was 7 xwas]]) (br := [[zAr T 0 m_rowWorth 512 xrowWorth]]) (As := [.int (nI w), .int 3, .int c_]) (rest := [.int (nI w), .ref m_rowWorth]) C G (c_m_gameBy l T mo m_all m_has i_size i_next i_where i_token i_number i_word i_wrong i_farCrossing m_read j_z0_1 j_crossings_2 j_inns_3 m_posts m_shut m_here xsteps xdone xat xgone m_was m_came m_seenAt m_rowWorth m_farBy m_used i_everywhere i_again0 i_d0 i_never i_firstCame i_longRun i_moved i_crowd i_l0 i_fitMany i_fitLeast i_fitMost m_fitPost m_fitEnd m_keptPosts i_x0 f_all xposts xshut xhere xwas (nI w) 3 c_ (by first | with_reducible assumption | with_reducible rfl | omega | assumption | rfl | decide) (by first | with_reducible assumption | with_reducible rfl | omega | assumption | rfl | decide) (by first | with_reducible assumption | with_reducible rfl | omega | assumption | rfl | decide) (by first | with_reducible assumption | with_reducible rfl | omega | assumption | rfl | decide) (by first | with_reducible assumption | with_reducible rfl | omega | assumption | rfl | decide) (by first | with_reducible assumption | with_reducible rfl | omega | assumption | rfl | decide)) (kV_RX12_251 C.2.2.2.2 (Nat.le_of_ble_eq_true rfl) (Nat.le_of_ble_eq_true rfl)) [6, 2, 3, 4, 5, 0] [0, 1, 0, 0, 0, 0] rfl rfl (ci := 11) (qc := (RX12, TX12, 43)) rfl rfl (List.mem_flatten.mpr ⟨_, List.mem_of_getElem? (i := 0) rfl, List.mem_cons_self⟩) rfl rfl hl.1 dX12_game_56 (Nat.le_of_ble_eq_true rfl) (Nat.le_of_ble_eq_true rfl) (fun r_203 b1 H locs hw G => ?_)
            refine zEx8 hw ?_
            intro j_at_194 j_gone_195 j_steps_196 j_done_197 g_posts_198 g_shut_199 g_here_200 g_was_201
            refine zCu2 ?_
            intro hbs9 h_202
            clear hw
            subst hbs9
            have G : zS T A s.heap s [[zAr T 0 m_rowWorth 512 xrowWorth], [zO11 mo m_all m_has i_size i_next i_where i_token i_number i_word i_wrong i_farCrossing m_read j_z0_1 j_crossings_2 j_inns_3 m_posts m_shut m_here j_steps_196 j_done_197 j_at_194 j_gone_195 m_was m_came m_seenAt m_rowWorth m_farBy m_used i_everywhere i_again0 i_d0 i_never i_firstCame i_longRun i_moved i_crowd i_l0 i_fitMany i_fitLeast i_fitMost m_fitPost m_fitEnd m_keptPosts i_x0], [zAr T 0 m_all 3952 f_all], [zAr T 0 m_posts 7 g_posts_198], [zAr T 0 m_shut 7 g_shut_199], [zAr T 0 m_here 7 g_here_200], [zAr T 0 m_was 7 g_was_201]] _ _ := G
            refine z_ist C G 0 rfl (vp_in_nI (by omega) (by decide)) dX12_game_59 (fun H locs G => ?_)
            rw [nI_clamp (by omega)] at G
            have G : zS T A s.heap s [[zAr T 0 m_rowWorth 512 (upd xrowWorth w r_203)], [zO11 mo m_all m_has i_size i_next i_where i_token i_number i_word i_wrong i_farCrossing m_read j_z0_1 j_crossings_2 j_inns_3 m_posts m_shut m_here j_steps_196 j_done_197 j_at_194 j_gone_195 m_was m_came m_seenAt m_rowWorth m_farBy m_used i_everywhere i_again0 i_d0 i_never i_firstCame i_longRun i_moved i_crowd i_l0 i_fitMany i_fitLeast i_fitMost m_fitPost m_fitEnd m_keptPosts i_x0], [zAr T 0 m_all 3952 f_all], [zAr T 0 m_posts 7 g_posts_198], [zAr T 0 m_shut 7 g_shut_199], [zAr T 0 m_here 7 g_here_200], [zAr T 0 m_was 7 g_was_201]] _ _ := G
            refine lv_iinc (v := nI (w + 1)) (lv' := [(6, .int (nI (w + 1))), (5, .int 512), (0, .ref mo), (1, .int l_), (2, .int c_), (3, .int 3), (4, .int f_)]) hx hb dX12_game_60 hl (k := 0) rfl (z_inc w 1) (by decide) (zLvf_h rfl) (fun ls hl => ?_)
            refine lv_goto (tgt := 38) hx hb dX12_game_63 (by decide) ?_
            have G := G.sub (bs' := [[zAr T 0 m_was 7 g_was_201], [zAr T 0 m_rowWorth 512 (upd xrowWorth w r_203)], [zAr T 0 m_all 3952 f_all], [zAr T 0 m_posts 7 g_posts_198], [zAr T 0 m_shut 7 g_shut_199], [zAr T 0 m_here 7 g_here_200], [zO11 mo m_all m_has i_size i_next i_where i_token i_number i_word i_wrong i_farCrossing m_read j_z0_1 j_crossings_2 j_inns_3 m_posts m_shut m_here j_steps_196 j_done_197 j_at_194 j_gone_195 m_was m_came m_seenAt m_rowWorth m_farBy m_used i_everywhere i_again0 i_d0 i_never i_firstCame i_longRun i_moved i_crowd i_l0 i_fitMany i_fitLeast i_fitMost m_fitPost m_fitEnd m_keptPosts i_x0]]) [6, 0, 2, 3, 4, 5, 1] rfl
            exact ih_38 (w + 1) j_at_194 j_gone_195 j_steps_196 j_done_197 g_posts_198 g_shut_199 g_here_200 g_was_201 (upd xrowWorth w r_203) (show (w + 1) ≤ 512 ∧ zMP g_posts_198 from ⟨by omega, (by first | with_reducible assumption | assumption)⟩) (show 512 - (w + 1) < 512 - w from by omega) _ _ ls G (lv_sub hl [0, 1, 2, 3, 4, 5, 6] rfl)
      · have h_33 : (n_.toInt < (0 : Int) ∨ (3 : Int) < n_.toInt) := h_33
        refine lv_if_ne (tgt := 28) hx hb dX12_game_22 (by decide) (fun q => absurd (by decide) q) (fun _ => ?_)
        refine lv_bipush (v := (-9)) hx hb dX12_game_25 (by decide) ?_
        have G := G.sub (bs' := [[zO11 mo m_all m_has i_size i_next i_where i_token i_number i_word i_wrong i_farCrossing m_read j_z0_1 j_crossings_2 j_inns_3 m_posts m_shut m_here j_steps_4 j_done_5 i_at i_gone m_was m_came m_seenAt m_rowWorth m_farBy m_used i_everywhere i_again0 i_d0 i_never i_firstCame i_longRun i_moved i_crowd i_l0 i_fitMany i_fitLeast i_fitMost m_fitPost m_fitEnd m_keptPosts i_x0], [zAr T 0 m_all 3952 f_all], [zAr T 0 m_posts 7 g_posts_6], [zAr T 0 m_shut 7 g_shut_7], [zAr T 0 m_here 7 g_here_8], [zAr T 0 m_was 7 f_was], [zAr T 0 m_rowWorth 512 f_rowWorth]]) [6, 2, 3, 4, 5, 0, 1] rfl
        exact z_back hQz_ (z_iret C hr hlocks G (Nat.le_of_ble_eq_true rfl) (Nat.le_of_ble_eq_true rfl) dX12_game_27 ⟨j_z0_1, j_crossings_2, j_inns_3, j_steps_4, j_done_5, i_at, i_gone, g_posts_6, g_shut_7, g_here_8, f_was, f_rowWorth, rfl⟩)
    · have h_28 : (c_.toInt < 0 ∨ j_crossings_2.toInt ≤ c_.toInt) := h_28
      refine lv_if_eq (tgt := 25) hx hb dX12_game_13 (by decide) (fun _ => ?_) (fun q => absurd (by decide) q)
      refine lv_bipush (v := (-9)) hx hb dX12_game_25 (by decide) ?_
      have G := G.sub (bs' := [[zO11 mo m_all m_has i_size i_next i_where i_token i_number i_word i_wrong i_farCrossing m_read j_z0_1 j_crossings_2 j_inns_3 m_posts m_shut m_here j_steps_4 j_done_5 i_at i_gone m_was m_came m_seenAt m_rowWorth m_farBy m_used i_everywhere i_again0 i_d0 i_never i_firstCame i_longRun i_moved i_crowd i_l0 i_fitMany i_fitLeast i_fitMost m_fitPost m_fitEnd m_keptPosts i_x0], [zAr T 0 m_all 3952 f_all], [zAr T 0 m_posts 7 g_posts_6], [zAr T 0 m_shut 7 g_shut_7], [zAr T 0 m_here 7 g_here_8], [zAr T 0 m_was 7 f_was], [zAr T 0 m_rowWorth 512 f_rowWorth]]) [6, 2, 3, 4, 5, 0, 1] rfl
      exact z_back hQz_ (z_iret C hr hlocks G (Nat.le_of_ble_eq_true rfl) (Nat.le_of_ble_eq_true rfl) dX12_game_27 ⟨j_z0_1, j_crossings_2, j_inns_3, j_steps_4, j_done_5, i_at, i_gone, g_posts_6, g_shut_7, g_here_8, f_was, f_rowWorth, rfl⟩)
  · have h_23 : (l_.toInt < 0 ∨ (f_all 0).toInt ≤ l_.toInt) := h_23
    refine lv_if_eq (tgt := 25) hx hb dX12_game_5 (by decide) (fun _ => ?_) (fun q => absurd (by decide) q)
    refine lv_bipush (v := (-9)) hx hb dX12_game_25 (by decide) ?_
    have G := G.sub (bs' := [[zO11 mo m_all m_has i_size i_next i_where i_token i_number i_word i_wrong i_farCrossing m_read j_z0_1 j_crossings_2 j_inns_3 m_posts m_shut m_here j_steps_4 j_done_5 i_at i_gone m_was m_came m_seenAt m_rowWorth m_farBy m_used i_everywhere i_again0 i_d0 i_never i_firstCame i_longRun i_moved i_crowd i_l0 i_fitMany i_fitLeast i_fitMost m_fitPost m_fitEnd m_keptPosts i_x0], [zAr T 0 m_all 3952 f_all], [zAr T 0 m_posts 7 g_posts_6], [zAr T 0 m_shut 7 g_shut_7], [zAr T 0 m_here 7 g_here_8], [zAr T 0 m_was 7 f_was], [zAr T 0 m_rowWorth 512 f_rowWorth]]) [2, 3, 4, 5, 6, 0, 1] rfl
    exact z_back hQz_ (z_iret C hr hlocks G (Nat.le_of_ble_eq_true rfl) (Nat.le_of_ble_eq_true rfl) dX12_game_27 ⟨j_z0_1, j_crossings_2, j_inns_3, j_steps_4, j_done_5, i_at, i_gone, g_posts_6, g_shut_7, g_here_8, f_was, f_rowWorth, rfl⟩)
theorem m_co_X12_laysFar : Cond.code yX12_laysFar cX12_laysFar 7 none ∈ zT := zmem1 zsub_7 120 rfl rfl
theorem m_ml_RX12_258 : Cond.methodLink RX12 258 yX12_laysFar ∈ zT := zmem1 zsub_7 117 rfl rfl
theorem m_im_X12_laysFar : Cond.instanceMethod yX12_laysFar ∈ zT := zmem1 zsub_7 119 rfl rfl
theorem m_se_X12_laysFar : Cond.selects RX12 yX12_laysFar yX12_laysFar ∈ zT := zmem 78 rfl rfl
theorem m_co_X12_reachOf : Cond.code yX12_reachOf cX12_reachOf 4 (some .int) ∈ zT := zmem1 zsub_7 132 rfl rfl
theorem m_ml_RX12_261 : Cond.methodLink RX12 261 yX12_reachOf ∈ zT := zmem1 zsub_7 129 rfl rfl
theorem m_im_X12_reachOf : Cond.instanceMethod yX12_reachOf ∈ zT := zmem1 zsub_7 131 rfl rfl
theorem m_se_X12_reachOf : Cond.selects RX12 yX12_reachOf yX12_reachOf ∈ zT := zmem 80 rfl rfl
theorem m_co_X12_classOf : Cond.code yX12_classOf cX12_classOf 4 (some .int) ∈ zT := zmem1 zsub_7 144 rfl rfl
theorem m_ml_RX12_264 : Cond.methodLink RX12 264 yX12_classOf ∈ zT := zmem1 zsub_7 141 rfl rfl
theorem m_im_X12_classOf : Cond.instanceMethod yX12_classOf ∈ zT := zmem1 zsub_7 143 rfl rfl
theorem m_se_X12_classOf : Cond.selects RX12 yX12_classOf yX12_classOf ∈ zT := zmem 82 rfl rfl
theorem m_co_X12_leadHere : Cond.code yX12_leadHere cX12_leadHere 6 (some .int) ∈ zT := zmem1 zsub_7 152 rfl rfl
theorem m_ml_RX12_267 : Cond.methodLink RX12 267 yX12_leadHere ∈ zT := zmem1 zsub_7 149 rfl rfl
theorem m_im_X12_leadHere : Cond.instanceMethod yX12_leadHere ∈ zT := zmem1 zsub_7 151 rfl rfl
theorem m_se_X12_leadHere : Cond.selects RX12 yX12_leadHere yX12_leadHere ∈ zT := zmem 84 rfl rfl
theorem m_co_X12_classesOf : Cond.code yX12_classesOf cX12_classesOf 5 (some .int) ∈ zT := zmem1 zsub_7 140 rfl rfl
theorem m_ml_RX12_271 : Cond.methodLink RX12 271 yX12_classesOf ∈ zT := zmem1 zsub_7 137 rfl rfl
theorem m_im_X12_classesOf : Cond.instanceMethod yX12_classesOf ∈ zT := zmem1 zsub_7 139 rfl rfl
theorem m_se_X12_classesOf : Cond.selects RX12 yX12_classesOf yX12_classesOf ∈ zT := zmem 81 rfl rfl
theorem m_co_X12_crossingsOf : Cond.code yX12_crossingsOf cX12_crossingsOf 5 (some .int) ∈ zT := zmem1 zsub_7 148 rfl rfl
theorem m_ml_RX12_275 : Cond.methodLink RX12 275 yX12_crossingsOf ∈ zT := zmem1 zsub_7 145 rfl rfl
theorem m_im_X12_crossingsOf : Cond.instanceMethod yX12_crossingsOf ∈ zT := zmem1 zsub_7 147 rfl rfl
theorem m_se_X12_crossingsOf : Cond.selects RX12 yX12_crossingsOf yX12_crossingsOf ∈ zT := zmem 83 rfl rfl
theorem m_co_X12_loops : Cond.code yX12_loops cX12_loops 6 (some .int) ∈ zT := zmem1 zsub_7 156 rfl rfl
theorem m_ml_RX12_278 : Cond.methodLink RX12 278 yX12_loops ∈ zT := zmem1 zsub_7 153 rfl rfl
theorem m_im_X12_loops : Cond.instanceMethod yX12_loops ∈ zT := zmem1 zsub_7 155 rfl rfl
theorem m_se_X12_loops : Cond.selects RX12 yX12_loops yX12_loops ∈ zT := zmem 85 rfl rfl
theorem m_co_X12_busyOf : Cond.code yX12_busyOf cX12_busyOf 3 (some .int) ∈ zT := zmem1 zsub_7 160 rfl rfl
theorem m_ml_RX12_281 : Cond.methodLink RX12 281 yX12_busyOf ∈ zT := zmem1 zsub_7 157 rfl rfl
theorem m_im_X12_busyOf : Cond.instanceMethod yX12_busyOf ∈ zT := zmem1 zsub_7 159 rfl rfl
theorem m_se_X12_busyOf : Cond.selects RX12 yX12_busyOf yX12_busyOf ∈ zT := zmem 86 rfl rfl
theorem kV_RX12_258 {R : Room} {s : State} {args : Array Value} {d mc ms : Nat} (hts : ∀ w ∈ zT, w.before args s = true) (h1 : d + 1 ≤ R.frames) (h2 : 8 + (7 + 11) + 40 * d ≤ R.locals) : CallW R s args RX12 RX12 258 yX12_laysFar cX12_laysFar 7 none (zW yX12_laysFar cX12_laysFar 7 none) (zR d mc ms) mc ms 0 := z_cwV hts m_co_X12_laysFar m_ml_RX12_258 m_im_X12_laysFar m_se_X12_laysFar m_ii_RX12 (by decide +kernel) h1 h2
theorem kV_RX12_261 {R : Room} {s : State} {args : Array Value} {d mc ms : Nat} (hts : ∀ w ∈ zT, w.before args s = true) (h1 : d + 1 ≤ R.frames) (h2 : 8 + (4 + 11) + 40 * d ≤ R.locals) : CallW R s args RX12 RX12 261 yX12_reachOf cX12_reachOf 4 (some .int) (zW yX12_reachOf cX12_reachOf 4 (some .int)) (zR d mc ms) mc ms 1 := z_cwV hts m_co_X12_reachOf m_ml_RX12_261 m_im_X12_reachOf m_se_X12_reachOf m_ii_RX12 (by decide +kernel) h1 h2
theorem kV_RX12_264 {R : Room} {s : State} {args : Array Value} {d mc ms : Nat} (hts : ∀ w ∈ zT, w.before args s = true) (h1 : d + 1 ≤ R.frames) (h2 : 8 + (4 + 11) + 40 * d ≤ R.locals) : CallW R s args RX12 RX12 264 yX12_classOf cX12_classOf 4 (some .int) (zW yX12_classOf cX12_classOf 4 (some .int)) (zR d mc ms) mc ms 1 := z_cwV hts m_co_X12_classOf m_ml_RX12_264 m_im_X12_classOf m_se_X12_classOf m_ii_RX12 (by decide +kernel) h1 h2
theorem kV_RX12_267 {R : Room} {s : State} {args : Array Value} {d mc ms : Nat} (hts : ∀ w ∈ zT, w.before args s = true) (h1 : d + 1 ≤ R.frames) (h2 : 8 + (6 + 11) + 40 * d ≤ R.locals) : CallW R s args RX12 RX12 267 yX12_leadHere cX12_leadHere 6 (some .int) (zW yX12_leadHere cX12_leadHere 6 (some .int)) (zR d mc ms) mc ms 2 := z_cwV hts m_co_X12_leadHere m_ml_RX12_267 m_im_X12_leadHere m_se_X12_leadHere m_ii_RX12 (by decide +kernel) h1 h2
theorem kV_RX12_271 {R : Room} {s : State} {args : Array Value} {d mc ms : Nat} (hts : ∀ w ∈ zT, w.before args s = true) (h1 : d + 1 ≤ R.frames) (h2 : 8 + (5 + 11) + 40 * d ≤ R.locals) : CallW R s args RX12 RX12 271 yX12_classesOf cX12_classesOf 5 (some .int) (zW yX12_classesOf cX12_classesOf 5 (some .int)) (zR d mc ms) mc ms 1 := z_cwV hts m_co_X12_classesOf m_ml_RX12_271 m_im_X12_classesOf m_se_X12_classesOf m_ii_RX12 (by decide +kernel) h1 h2
theorem kV_RX12_275 {R : Room} {s : State} {args : Array Value} {d mc ms : Nat} (hts : ∀ w ∈ zT, w.before args s = true) (h1 : d + 1 ≤ R.frames) (h2 : 8 + (5 + 11) + 40 * d ≤ R.locals) : CallW R s args RX12 RX12 275 yX12_crossingsOf cX12_crossingsOf 5 (some .int) (zW yX12_crossingsOf cX12_crossingsOf 5 (some .int)) (zR d mc ms) mc ms 1 := z_cwV hts m_co_X12_crossingsOf m_ml_RX12_275 m_im_X12_crossingsOf m_se_X12_crossingsOf m_ii_RX12 (by decide +kernel) h1 h2
theorem kV_RX12_278 {R : Room} {s : State} {args : Array Value} {d mc ms : Nat} (hts : ∀ w ∈ zT, w.before args s = true) (h1 : d + 1 ≤ R.frames) (h2 : 8 + (6 + 11) + 40 * d ≤ R.locals) : CallW R s args RX12 RX12 278 yX12_loops cX12_loops 6 (some .int) (zW yX12_loops cX12_loops 6 (some .int)) (zR d mc ms) mc ms 1 := z_cwV hts m_co_X12_loops m_ml_RX12_278 m_im_X12_loops m_se_X12_loops m_ii_RX12 (by decide +kernel) h1 h2
theorem kV_RX12_281 {R : Room} {s : State} {args : Array Value} {d mc ms : Nat} (hts : ∀ w ∈ zT, w.before args s = true) (h1 : d + 1 ≤ R.frames) (h2 : 8 + (3 + 11) + 40 * d ≤ R.locals) : CallW R s args RX12 RX12 281 yX12_busyOf cX12_busyOf 3 (some .int) (zW yX12_busyOf cX12_busyOf 3 (some .int)) (zR d mc ms) mc ms 0 := z_cwV hts m_co_X12_busyOf m_ml_RX12_281 m_im_X12_busyOf m_se_X12_busyOf m_ii_RX12 (by decide +kernel) h1 h2
theorem dX12_laysFar_0 : decode cX12_laysFar 0 = .ok (.iconst 0, 1) := zo_3 (by decide +kernel)
theorem dX12_laysFar_1 : decode cX12_laysFar 1 = .ok (.istore_n 1, 1) := zo_60 (by decide +kernel)
theorem dX12_laysFar_2 : decode cX12_laysFar 2 = .ok (.iload_n 1, 1) := zo_27 (by decide +kernel)
theorem dX12_laysFar_3 : decode cX12_laysFar 3 = .ok (.bipush 7, 2) := zo_16 (by decide +kernel)
theorem dX12_laysFar_5 : decode cX12_laysFar 5 = .ok (.if_icmp .ge 189, 3) := zo_162 (by decide +kernel)
theorem dX12_laysFar_8 : decode cX12_laysFar 8 = .ok (.iconst 0, 1) := zo_3 (by decide +kernel)
theorem dX12_laysFar_9 : decode cX12_laysFar 9 = .ok (.istore_n 2, 1) := zo_61 (by decide +kernel)
theorem dX12_laysFar_10 : decode cX12_laysFar 10 = .ok (.iload_n 2, 1) := zo_28 (by decide +kernel)
theorem dX12_laysFar_11 : decode cX12_laysFar 11 = .ok (.bipush 7, 2) := zo_16 (by decide +kernel)
theorem dX12_laysFar_13 : decode cX12_laysFar 13 = .ok (.if_icmp .ge 30, 3) := zo_162 (by decide +kernel)
theorem dX12_laysFar_16 : decode cX12_laysFar 16 = .ok (.aload_n 0, 1) := zo_42 (by decide +kernel)
theorem dX12_laysFar_17 : decode cX12_laysFar 17 = .ok (.getfield 41, 3) := zo_180 (by decide +kernel)
theorem dX12_laysFar_20 : decode cX12_laysFar 20 = .ok (.bipush 7, 2) := zo_16 (by decide +kernel)
theorem dX12_laysFar_22 : decode cX12_laysFar 22 = .ok (.iload_n 1, 1) := zo_27 (by decide +kernel)
theorem dX12_laysFar_23 : decode cX12_laysFar 23 = .ok (.imul, 1) := zo_104 (by decide +kernel)
theorem dX12_laysFar_24 : decode cX12_laysFar 24 = .ok (.iload_n 2, 1) := zo_28 (by decide +kernel)
theorem dX12_laysFar_25 : decode cX12_laysFar 25 = .ok (.iadd, 1) := zo_96 (by decide +kernel)
theorem dX12_laysFar_26 : decode cX12_laysFar 26 = .ok (.iload_n 1, 1) := zo_27 (by decide +kernel)
theorem dX12_laysFar_27 : decode cX12_laysFar 27 = .ok (.iload_n 2, 1) := zo_28 (by decide +kernel)
theorem dX12_laysFar_28 : decode cX12_laysFar 28 = .ok (.if_icmp .ne 7, 3) := zo_160 (by decide +kernel)
theorem dX12_laysFar_31 : decode cX12_laysFar 31 = .ok (.iconst 0, 1) := zo_3 (by decide +kernel)
theorem dX12_laysFar_32 : decode cX12_laysFar 32 = .ok (.goto 4, 3) := zo_167 (by decide +kernel)
theorem dX12_laysFar_35 : decode cX12_laysFar 35 = .ok (.iconst (-1), 1) := zo_2 (by decide +kernel)
theorem dX12_laysFar_36 : decode cX12_laysFar 36 = .ok (.iastore, 1) := zo_79 (by decide +kernel)
theorem dX12_laysFar_37 : decode cX12_laysFar 37 = .ok (.iinc 2 1, 3) := zo_132 (by decide +kernel)
theorem dX12_laysFar_40 : decode cX12_laysFar 40 = .ok (.goto (-30), 3) := zo_167 (by decide +kernel)
theorem dX12_laysFar_43 : decode cX12_laysFar 43 = .ok (.iconst 1, 1) := zo_4 (by decide +kernel)
theorem dX12_laysFar_44 : decode cX12_laysFar 44 = .ok (.iload_n 1, 1) := zo_27 (by decide +kernel)
theorem dX12_laysFar_45 : decode cX12_laysFar 45 = .ok (.ishl, 1) := zo_120 (by decide +kernel)
theorem dX12_laysFar_46 : decode cX12_laysFar 46 = .ok (.istore_n 2, 1) := zo_61 (by decide +kernel)
theorem dX12_laysFar_47 : decode cX12_laysFar 47 = .ok (.iconst 1, 1) := zo_4 (by decide +kernel)
theorem dX12_laysFar_48 : decode cX12_laysFar 48 = .ok (.istore_n 3, 1) := zo_62 (by decide +kernel)
theorem dX12_laysFar_49 : decode cX12_laysFar 49 = .ok (.iload_n 3, 1) := zo_29 (by decide +kernel)
theorem dX12_laysFar_50 : decode cX12_laysFar 50 = .ok (.bipush 7, 2) := zo_16 (by decide +kernel)
theorem dX12_laysFar_52 : decode cX12_laysFar 52 = .ok (.if_icmp .ge 136, 3) := zo_162 (by decide +kernel)
theorem dX12_laysFar_55 : decode cX12_laysFar 55 = .ok (.iload_n 1, 1) := zo_27 (by decide +kernel)
theorem dX12_laysFar_56 : decode cX12_laysFar 56 = .ok (.aload_n 0, 1) := zo_42 (by decide +kernel)
theorem dX12_laysFar_57 : decode cX12_laysFar 57 = .ok (.getfield 169, 3) := zo_180 (by decide +kernel)
theorem dX12_laysFar_60 : decode cX12_laysFar 60 = .ok (.if_icmp .ge 128, 3) := zo_162 (by decide +kernel)
theorem dX12_laysFar_63 : decode cX12_laysFar 63 = .ok (.iload_n 2, 1) := zo_28 (by decide +kernel)
theorem dX12_laysFar_64 : decode cX12_laysFar 64 = .ok (.istore 4, 2) := zo_54 (by decide +kernel)
theorem dX12_laysFar_66 : decode cX12_laysFar 66 = .ok (.iconst 0, 1) := zo_3 (by decide +kernel)
theorem dX12_laysFar_67 : decode cX12_laysFar 67 = .ok (.istore 5, 2) := zo_54 (by decide +kernel)
theorem dX12_laysFar_69 : decode cX12_laysFar 69 = .ok (.iload 5, 2) := zo_21 (by decide +kernel)
theorem dX12_laysFar_71 : decode cX12_laysFar 71 = .ok (.aload_n 0, 1) := zo_42 (by decide +kernel)
theorem dX12_laysFar_72 : decode cX12_laysFar 72 = .ok (.getfield 169, 3) := zo_180 (by decide +kernel)
theorem dX12_laysFar_75 : decode cX12_laysFar 75 = .ok (.if_icmp .ge 58, 3) := zo_162 (by decide +kernel)
theorem dX12_laysFar_78 : decode cX12_laysFar 78 = .ok (.iconst 0, 1) := zo_3 (by decide +kernel)
theorem dX12_laysFar_79 : decode cX12_laysFar 79 = .ok (.istore 6, 2) := zo_54 (by decide +kernel)
theorem dX12_laysFar_81 : decode cX12_laysFar 81 = .ok (.iload 6, 2) := zo_21 (by decide +kernel)
theorem dX12_laysFar_83 : decode cX12_laysFar 83 = .ok (.aload_n 0, 1) := zo_42 (by decide +kernel)
theorem dX12_laysFar_84 : decode cX12_laysFar 84 = .ok (.iload 5, 2) := zo_21 (by decide +kernel)
theorem dX12_laysFar_86 : decode cX12_laysFar 86 = .ok (.invokevirtual 255, 3) := zo_182 (by decide +kernel)
theorem dX12_laysFar_89 : decode cX12_laysFar 89 = .ok (.if_icmp .ge 38, 3) := zo_162 (by decide +kernel)
theorem dX12_laysFar_92 : decode cX12_laysFar 92 = .ok (.iload 4, 2) := zo_21 (by decide +kernel)
theorem dX12_laysFar_94 : decode cX12_laysFar 94 = .ok (.iload_n 2, 1) := zo_28 (by decide +kernel)
theorem dX12_laysFar_95 : decode cX12_laysFar 95 = .ok (.iload 5, 2) := zo_21 (by decide +kernel)
theorem dX12_laysFar_97 : decode cX12_laysFar 97 = .ok (.ishr, 1) := zo_122 (by decide +kernel)
theorem dX12_laysFar_98 : decode cX12_laysFar 98 = .ok (.iconst 1, 1) := zo_4 (by decide +kernel)
theorem dX12_laysFar_99 : decode cX12_laysFar 99 = .ok (.iand, 1) := zo_126 (by decide +kernel)
theorem dX12_laysFar_100 : decode cX12_laysFar 100 = .ok (.iconst 1, 1) := zo_4 (by decide +kernel)
theorem dX12_laysFar_101 : decode cX12_laysFar 101 = .ok (.if_icmp .ne 16, 3) := zo_160 (by decide +kernel)
theorem dX12_laysFar_104 : decode cX12_laysFar 104 = .ok (.iconst 1, 1) := zo_4 (by decide +kernel)
theorem dX12_laysFar_105 : decode cX12_laysFar 105 = .ok (.aload_n 0, 1) := zo_42 (by decide +kernel)
theorem dX12_laysFar_106 : decode cX12_laysFar 106 = .ok (.iload 5, 2) := zo_21 (by decide +kernel)
theorem dX12_laysFar_108 : decode cX12_laysFar 108 = .ok (.iload 6, 2) := zo_21 (by decide +kernel)
theorem dX12_laysFar_110 : decode cX12_laysFar 110 = .ok (.invokevirtual 190, 3) := zo_182 (by decide +kernel)
theorem dX12_laysFar_113 : decode cX12_laysFar 113 = .ok (.ishl, 1) := zo_120 (by decide +kernel)
theorem dX12_laysFar_114 : decode cX12_laysFar 114 = .ok (.goto 4, 3) := zo_167 (by decide +kernel)
theorem dX12_laysFar_117 : decode cX12_laysFar 117 = .ok (.iconst 0, 1) := zo_3 (by decide +kernel)
theorem dX12_laysFar_118 : decode cX12_laysFar 118 = .ok (.ior, 1) := zo_128 (by decide +kernel)
theorem dX12_laysFar_119 : decode cX12_laysFar 119 = .ok (.istore 4, 2) := zo_54 (by decide +kernel)
theorem dX12_laysFar_121 : decode cX12_laysFar 121 = .ok (.iinc 6 1, 3) := zo_132 (by decide +kernel)
theorem dX12_laysFar_124 : decode cX12_laysFar 124 = .ok (.goto (-43), 3) := zo_167 (by decide +kernel)
theorem dX12_laysFar_127 : decode cX12_laysFar 127 = .ok (.iinc 5 1, 3) := zo_132 (by decide +kernel)
theorem dX12_laysFar_130 : decode cX12_laysFar 130 = .ok (.goto (-61), 3) := zo_167 (by decide +kernel)
theorem dX12_laysFar_133 : decode cX12_laysFar 133 = .ok (.iconst 0, 1) := zo_3 (by decide +kernel)
theorem dX12_laysFar_134 : decode cX12_laysFar 134 = .ok (.istore 5, 2) := zo_54 (by decide +kernel)
theorem dX12_laysFar_136 : decode cX12_laysFar 136 = .ok (.iload 5, 2) := zo_21 (by decide +kernel)
theorem dX12_laysFar_138 : decode cX12_laysFar 138 = .ok (.aload_n 0, 1) := zo_42 (by decide +kernel)
theorem dX12_laysFar_139 : decode cX12_laysFar 139 = .ok (.getfield 169, 3) := zo_180 (by decide +kernel)
theorem dX12_laysFar_142 : decode cX12_laysFar 142 = .ok (.if_icmp .ge 37, 3) := zo_162 (by decide +kernel)
theorem dX12_laysFar_145 : decode cX12_laysFar 145 = .ok (.iload 4, 2) := zo_21 (by decide +kernel)
theorem dX12_laysFar_147 : decode cX12_laysFar 147 = .ok (.iload_n 2, 1) := zo_28 (by decide +kernel)
theorem dX12_laysFar_148 : decode cX12_laysFar 148 = .ok (.iconst (-1), 1) := zo_2 (by decide +kernel)
theorem dX12_laysFar_149 : decode cX12_laysFar 149 = .ok (.ixor, 1) := zo_130 (by decide +kernel)
theorem dX12_laysFar_150 : decode cX12_laysFar 150 = .ok (.iand, 1) := zo_126 (by decide +kernel)
theorem dX12_laysFar_151 : decode cX12_laysFar 151 = .ok (.iload 5, 2) := zo_21 (by decide +kernel)
theorem dX12_laysFar_153 : decode cX12_laysFar 153 = .ok (.ishr, 1) := zo_122 (by decide +kernel)
theorem dX12_laysFar_154 : decode cX12_laysFar 154 = .ok (.iconst 1, 1) := zo_4 (by decide +kernel)
theorem dX12_laysFar_155 : decode cX12_laysFar 155 = .ok (.iand, 1) := zo_126 (by decide +kernel)
theorem dX12_laysFar_156 : decode cX12_laysFar 156 = .ok (.iconst 1, 1) := zo_4 (by decide +kernel)
theorem dX12_laysFar_157 : decode cX12_laysFar 157 = .ok (.if_icmp .ne 16, 3) := zo_160 (by decide +kernel)
theorem dX12_laysFar_160 : decode cX12_laysFar 160 = .ok (.aload_n 0, 1) := zo_42 (by decide +kernel)
theorem dX12_laysFar_161 : decode cX12_laysFar 161 = .ok (.getfield 41, 3) := zo_180 (by decide +kernel)
theorem dX12_laysFar_164 : decode cX12_laysFar 164 = .ok (.bipush 7, 2) := zo_16 (by decide +kernel)
theorem dX12_laysFar_166 : decode cX12_laysFar 166 = .ok (.iload_n 1, 1) := zo_27 (by decide +kernel)
theorem dX12_laysFar_167 : decode cX12_laysFar 167 = .ok (.imul, 1) := zo_104 (by decide +kernel)
theorem dX12_laysFar_168 : decode cX12_laysFar 168 = .ok (.iload 5, 2) := zo_21 (by decide +kernel)
theorem dX12_laysFar_170 : decode cX12_laysFar 170 = .ok (.iadd, 1) := zo_96 (by decide +kernel)
theorem dX12_laysFar_171 : decode cX12_laysFar 171 = .ok (.iload_n 3, 1) := zo_29 (by decide +kernel)
theorem dX12_laysFar_172 : decode cX12_laysFar 172 = .ok (.iastore, 1) := zo_79 (by decide +kernel)
theorem dX12_laysFar_173 : decode cX12_laysFar 173 = .ok (.iinc 5 1, 3) := zo_132 (by decide +kernel)
theorem dX12_laysFar_176 : decode cX12_laysFar 176 = .ok (.goto (-40), 3) := zo_167 (by decide +kernel)
theorem dX12_laysFar_179 : decode cX12_laysFar 179 = .ok (.iload 4, 2) := zo_21 (by decide +kernel)
theorem dX12_laysFar_181 : decode cX12_laysFar 181 = .ok (.istore_n 2, 1) := zo_61 (by decide +kernel)
theorem dX12_laysFar_182 : decode cX12_laysFar 182 = .ok (.iinc 3 1, 3) := zo_132 (by decide +kernel)
theorem dX12_laysFar_185 : decode cX12_laysFar 185 = .ok (.goto (-136), 3) := zo_167 (by decide +kernel)
theorem dX12_laysFar_188 : decode cX12_laysFar 188 = .ok (.iinc 1 1, 3) := zo_132 (by decide +kernel)
theorem dX12_laysFar_191 : decode cX12_laysFar 191 = .ok (.goto (-189), 3) := zo_167 (by decide +kernel)
theorem dX12_laysFar_194 : decode cX12_laysFar 194 = .ok (.return_, 1) := zo_177 (by decide +kernel)
theorem dX12_reachOf_0 : decode cX12_reachOf 0 = .ok (.iconst 0, 1) := zo_3 (by decide +kernel)
theorem dX12_reachOf_1 : decode cX12_reachOf 1 = .ok (.istore_n 2, 1) := zo_61 (by decide +kernel)
theorem dX12_reachOf_2 : decode cX12_reachOf 2 = .ok (.iconst 0, 1) := zo_3 (by decide +kernel)
theorem dX12_reachOf_3 : decode cX12_reachOf 3 = .ok (.istore_n 3, 1) := zo_62 (by decide +kernel)
theorem dX12_reachOf_4 : decode cX12_reachOf 4 = .ok (.iload_n 3, 1) := zo_29 (by decide +kernel)
theorem dX12_reachOf_5 : decode cX12_reachOf 5 = .ok (.aload_n 0, 1) := zo_42 (by decide +kernel)
theorem dX12_reachOf_6 : decode cX12_reachOf 6 = .ok (.getfield 169, 3) := zo_180 (by decide +kernel)
theorem dX12_reachOf_9 : decode cX12_reachOf 9 = .ok (.if_icmp .ge 34, 3) := zo_162 (by decide +kernel)
theorem dX12_reachOf_12 : decode cX12_reachOf 12 = .ok (.iload_n 2, 1) := zo_28 (by decide +kernel)
theorem dX12_reachOf_13 : decode cX12_reachOf 13 = .ok (.aload_n 0, 1) := zo_42 (by decide +kernel)
theorem dX12_reachOf_14 : decode cX12_reachOf 14 = .ok (.getfield 41, 3) := zo_180 (by decide +kernel)
theorem dX12_reachOf_17 : decode cX12_reachOf 17 = .ok (.bipush 7, 2) := zo_16 (by decide +kernel)
theorem dX12_reachOf_19 : decode cX12_reachOf 19 = .ok (.iload_n 1, 1) := zo_27 (by decide +kernel)
theorem dX12_reachOf_20 : decode cX12_reachOf 20 = .ok (.imul, 1) := zo_104 (by decide +kernel)
theorem dX12_reachOf_21 : decode cX12_reachOf 21 = .ok (.iload_n 3, 1) := zo_29 (by decide +kernel)
theorem dX12_reachOf_22 : decode cX12_reachOf 22 = .ok (.iadd, 1) := zo_96 (by decide +kernel)
theorem dX12_reachOf_23 : decode cX12_reachOf 23 = .ok (.iaload, 1) := zo_46 (by decide +kernel)
theorem dX12_reachOf_24 : decode cX12_reachOf 24 = .ok (.iconst (-1), 1) := zo_2 (by decide +kernel)
theorem dX12_reachOf_25 : decode cX12_reachOf 25 = .ok (.if_icmp .ne 7, 3) := zo_160 (by decide +kernel)
theorem dX12_reachOf_28 : decode cX12_reachOf 28 = .ok (.iconst 0, 1) := zo_3 (by decide +kernel)
theorem dX12_reachOf_29 : decode cX12_reachOf 29 = .ok (.goto 6, 3) := zo_167 (by decide +kernel)
theorem dX12_reachOf_32 : decode cX12_reachOf 32 = .ok (.iconst 1, 1) := zo_4 (by decide +kernel)
theorem dX12_reachOf_33 : decode cX12_reachOf 33 = .ok (.iload_n 3, 1) := zo_29 (by decide +kernel)
theorem dX12_reachOf_34 : decode cX12_reachOf 34 = .ok (.ishl, 1) := zo_120 (by decide +kernel)
theorem dX12_reachOf_35 : decode cX12_reachOf 35 = .ok (.ior, 1) := zo_128 (by decide +kernel)
theorem dX12_reachOf_36 : decode cX12_reachOf 36 = .ok (.istore_n 2, 1) := zo_61 (by decide +kernel)
theorem dX12_reachOf_37 : decode cX12_reachOf 37 = .ok (.iinc 3 1, 3) := zo_132 (by decide +kernel)
theorem dX12_reachOf_40 : decode cX12_reachOf 40 = .ok (.goto (-36), 3) := zo_167 (by decide +kernel)
theorem dX12_reachOf_43 : decode cX12_reachOf 43 = .ok (.iload_n 2, 1) := zo_28 (by decide +kernel)
theorem dX12_reachOf_44 : decode cX12_reachOf 44 = .ok (.ireturn, 1) := zo_172 (by decide +kernel)
theorem dX12_far_0 : decode cX12_far 0 = .ok (.aload_n 0, 1) := zo_42 (by decide +kernel)
theorem dX12_far_1 : decode cX12_far 1 = .ok (.iload_n 1, 1) := zo_27 (by decide +kernel)
theorem dX12_far_2 : decode cX12_far 2 = .ok (.invokevirtual 184, 3) := zo_182 (by decide +kernel)
theorem dX12_far_5 : decode cX12_far 5 = .ok (.ifCond .eq 19, 3) := zo_153 (by decide +kernel)
theorem dX12_far_8 : decode cX12_far 8 = .ok (.aload_n 0, 1) := zo_42 (by decide +kernel)
theorem dX12_far_9 : decode cX12_far 9 = .ok (.iload_n 2, 1) := zo_28 (by decide +kernel)
theorem dX12_far_10 : decode cX12_far 10 = .ok (.invokevirtual 187, 3) := zo_182 (by decide +kernel)
theorem dX12_far_13 : decode cX12_far 13 = .ok (.ifCond .eq 11, 3) := zo_153 (by decide +kernel)
theorem dX12_far_16 : decode cX12_far 16 = .ok (.aload_n 0, 1) := zo_42 (by decide +kernel)
theorem dX12_far_17 : decode cX12_far 17 = .ok (.iload_n 3, 1) := zo_29 (by decide +kernel)
theorem dX12_far_18 : decode cX12_far 18 = .ok (.invokevirtual 187, 3) := zo_182 (by decide +kernel)
theorem dX12_far_21 : decode cX12_far 21 = .ok (.ifCond .ne 5, 3) := zo_154 (by decide +kernel)
theorem dX12_far_24 : decode cX12_far 24 = .ok (.iconst (-1), 1) := zo_2 (by decide +kernel)
theorem dX12_far_25 : decode cX12_far 25 = .ok (.ireturn, 1) := zo_172 (by decide +kernel)
theorem dX12_far_26 : decode cX12_far 26 = .ok (.aload_n 0, 1) := zo_42 (by decide +kernel)
theorem dX12_far_27 : decode cX12_far 27 = .ok (.invokevirtual 258, 3) := zo_182 (by decide +kernel)
theorem dX12_far_30 : decode cX12_far 30 = .ok (.aload_n 0, 1) := zo_42 (by decide +kernel)
theorem dX12_far_31 : decode cX12_far 31 = .ok (.getfield 41, 3) := zo_180 (by decide +kernel)
theorem dX12_far_34 : decode cX12_far 34 = .ok (.bipush 7, 2) := zo_16 (by decide +kernel)
theorem dX12_far_36 : decode cX12_far 36 = .ok (.iload_n 2, 1) := zo_28 (by decide +kernel)
theorem dX12_far_37 : decode cX12_far 37 = .ok (.imul, 1) := zo_104 (by decide +kernel)
theorem dX12_far_38 : decode cX12_far 38 = .ok (.iload_n 3, 1) := zo_29 (by decide +kernel)
theorem dX12_far_39 : decode cX12_far 39 = .ok (.iadd, 1) := zo_96 (by decide +kernel)
theorem dX12_far_40 : decode cX12_far 40 = .ok (.iaload, 1) := zo_46 (by decide +kernel)
theorem dX12_far_41 : decode cX12_far 41 = .ok (.ireturn, 1) := zo_172 (by decide +kernel)
theorem dX12_reach_0 : decode cX12_reach 0 = .ok (.aload_n 0, 1) := zo_42 (by decide +kernel)
theorem dX12_reach_1 : decode cX12_reach 1 = .ok (.iload_n 1, 1) := zo_27 (by decide +kernel)
theorem dX12_reach_2 : decode cX12_reach 2 = .ok (.invokevirtual 184, 3) := zo_182 (by decide +kernel)
theorem dX12_reach_5 : decode cX12_reach 5 = .ok (.ifCond .eq 11, 3) := zo_153 (by decide +kernel)
theorem dX12_reach_8 : decode cX12_reach 8 = .ok (.aload_n 0, 1) := zo_42 (by decide +kernel)
theorem dX12_reach_9 : decode cX12_reach 9 = .ok (.iload_n 2, 1) := zo_28 (by decide +kernel)
theorem dX12_reach_10 : decode cX12_reach 10 = .ok (.invokevirtual 187, 3) := zo_182 (by decide +kernel)
theorem dX12_reach_13 : decode cX12_reach 13 = .ok (.ifCond .ne 6, 3) := zo_154 (by decide +kernel)
theorem dX12_reach_16 : decode cX12_reach 16 = .ok (.bipush (-2), 2) := zo_16 (by decide +kernel)
theorem dX12_reach_18 : decode cX12_reach 18 = .ok (.ireturn, 1) := zo_172 (by decide +kernel)
theorem dX12_reach_19 : decode cX12_reach 19 = .ok (.aload_n 0, 1) := zo_42 (by decide +kernel)
theorem dX12_reach_20 : decode cX12_reach 20 = .ok (.invokevirtual 258, 3) := zo_182 (by decide +kernel)
theorem dX12_reach_23 : decode cX12_reach 23 = .ok (.iload_n 3, 1) := zo_29 (by decide +kernel)
theorem dX12_reach_24 : decode cX12_reach 24 = .ok (.ifCond .ne 9, 3) := zo_154 (by decide +kernel)
theorem dX12_reach_27 : decode cX12_reach 27 = .ok (.aload_n 0, 1) := zo_42 (by decide +kernel)
theorem dX12_reach_28 : decode cX12_reach 28 = .ok (.iload_n 2, 1) := zo_28 (by decide +kernel)
theorem dX12_reach_29 : decode cX12_reach 29 = .ok (.invokevirtual 261, 3) := zo_182 (by decide +kernel)
theorem dX12_reach_32 : decode cX12_reach 32 = .ok (.ireturn, 1) := zo_172 (by decide +kernel)
theorem dX12_reach_33 : decode cX12_reach 33 = .ok (.iload_n 3, 1) := zo_29 (by decide +kernel)
theorem dX12_reach_34 : decode cX12_reach 34 = .ok (.iconst 1, 1) := zo_4 (by decide +kernel)
theorem dX12_reach_35 : decode cX12_reach 35 = .ok (.if_icmp .eq 6, 3) := zo_159 (by decide +kernel)
theorem dX12_reach_38 : decode cX12_reach 38 = .ok (.bipush (-2), 2) := zo_16 (by decide +kernel)
theorem dX12_reach_40 : decode cX12_reach 40 = .ok (.ireturn, 1) := zo_172 (by decide +kernel)
theorem dX12_reach_41 : decode cX12_reach 41 = .ok (.iconst (-1), 1) := zo_2 (by decide +kernel)
theorem dX12_reach_42 : decode cX12_reach 42 = .ok (.istore 4, 2) := zo_54 (by decide +kernel)
theorem dX12_reach_44 : decode cX12_reach 44 = .ok (.iconst 0, 1) := zo_3 (by decide +kernel)
theorem dX12_reach_45 : decode cX12_reach 45 = .ok (.istore 5, 2) := zo_54 (by decide +kernel)
theorem dX12_reach_47 : decode cX12_reach 47 = .ok (.iload 5, 2) := zo_21 (by decide +kernel)
theorem dX12_reach_49 : decode cX12_reach 49 = .ok (.aload_n 0, 1) := zo_42 (by decide +kernel)
theorem dX12_reach_50 : decode cX12_reach 50 = .ok (.getfield 169, 3) := zo_180 (by decide +kernel)
theorem dX12_reach_53 : decode cX12_reach 53 = .ok (.if_icmp .ge 65, 3) := zo_162 (by decide +kernel)
theorem dX12_reach_56 : decode cX12_reach 56 = .ok (.aload_n 0, 1) := zo_42 (by decide +kernel)
theorem dX12_reach_57 : decode cX12_reach 57 = .ok (.getfield 41, 3) := zo_180 (by decide +kernel)
theorem dX12_reach_60 : decode cX12_reach 60 = .ok (.bipush 7, 2) := zo_16 (by decide +kernel)
theorem dX12_reach_62 : decode cX12_reach 62 = .ok (.iload_n 2, 1) := zo_28 (by decide +kernel)
theorem dX12_reach_63 : decode cX12_reach 63 = .ok (.imul, 1) := zo_104 (by decide +kernel)
theorem dX12_reach_64 : decode cX12_reach 64 = .ok (.iload 5, 2) := zo_21 (by decide +kernel)
theorem dX12_reach_66 : decode cX12_reach 66 = .ok (.iadd, 1) := zo_96 (by decide +kernel)
theorem dX12_reach_67 : decode cX12_reach 67 = .ok (.iaload, 1) := zo_46 (by decide +kernel)
theorem dX12_reach_68 : decode cX12_reach 68 = .ok (.istore 6, 2) := zo_54 (by decide +kernel)
theorem dX12_reach_70 : decode cX12_reach 70 = .ok (.aload_n 0, 1) := zo_42 (by decide +kernel)
theorem dX12_reach_71 : decode cX12_reach 71 = .ok (.iload 5, 2) := zo_21 (by decide +kernel)
theorem dX12_reach_73 : decode cX12_reach 73 = .ok (.invokevirtual 178, 3) := zo_182 (by decide +kernel)
theorem dX12_reach_76 : decode cX12_reach 76 = .ok (.ifCond .eq 36, 3) := zo_153 (by decide +kernel)
theorem dX12_reach_79 : decode cX12_reach 79 = .ok (.iload 6, 2) := zo_21 (by decide +kernel)
theorem dX12_reach_81 : decode cX12_reach 81 = .ok (.iconst (-1), 1) := zo_2 (by decide +kernel)
theorem dX12_reach_82 : decode cX12_reach 82 = .ok (.if_icmp .eq 30, 3) := zo_159 (by decide +kernel)
theorem dX12_reach_85 : decode cX12_reach 85 = .ok (.iload 4, 2) := zo_21 (by decide +kernel)
theorem dX12_reach_87 : decode cX12_reach 87 = .ok (.iconst (-1), 1) := zo_2 (by decide +kernel)
theorem dX12_reach_88 : decode cX12_reach 88 = .ok (.if_icmp .eq 20, 3) := zo_159 (by decide +kernel)
theorem dX12_reach_91 : decode cX12_reach 91 = .ok (.iload 6, 2) := zo_21 (by decide +kernel)
theorem dX12_reach_93 : decode cX12_reach 93 = .ok (.aload_n 0, 1) := zo_42 (by decide +kernel)
theorem dX12_reach_94 : decode cX12_reach 94 = .ok (.getfield 41, 3) := zo_180 (by decide +kernel)
theorem dX12_reach_97 : decode cX12_reach 97 = .ok (.bipush 7, 2) := zo_16 (by decide +kernel)
theorem dX12_reach_99 : decode cX12_reach 99 = .ok (.iload_n 2, 1) := zo_28 (by decide +kernel)
theorem dX12_reach_100 : decode cX12_reach 100 = .ok (.imul, 1) := zo_104 (by decide +kernel)
theorem dX12_reach_101 : decode cX12_reach 101 = .ok (.iload 4, 2) := zo_21 (by decide +kernel)
theorem dX12_reach_103 : decode cX12_reach 103 = .ok (.iadd, 1) := zo_96 (by decide +kernel)
theorem dX12_reach_104 : decode cX12_reach 104 = .ok (.iaload, 1) := zo_46 (by decide +kernel)
theorem dX12_reach_105 : decode cX12_reach 105 = .ok (.if_icmp .ge 7, 3) := zo_162 (by decide +kernel)
theorem dX12_reach_108 : decode cX12_reach 108 = .ok (.iload 5, 2) := zo_21 (by decide +kernel)
theorem dX12_reach_110 : decode cX12_reach 110 = .ok (.istore 4, 2) := zo_54 (by decide +kernel)
theorem dX12_reach_112 : decode cX12_reach 112 = .ok (.iinc 5 1, 3) := zo_132 (by decide +kernel)
theorem dX12_reach_115 : decode cX12_reach 115 = .ok (.goto (-68), 3) := zo_167 (by decide +kernel)
theorem dX12_reach_118 : decode cX12_reach 118 = .ok (.iload 4, 2) := zo_21 (by decide +kernel)
theorem dX12_reach_120 : decode cX12_reach 120 = .ok (.ireturn, 1) := zo_172 (by decide +kernel)
theorem dX12_classOf_0 : decode cX12_classOf 0 = .ok (.iconst 0, 1) := zo_3 (by decide +kernel)
theorem dX12_classOf_1 : decode cX12_classOf 1 = .ok (.istore_n 2, 1) := zo_61 (by decide +kernel)
theorem dX12_classOf_2 : decode cX12_classOf 2 = .ok (.iconst 0, 1) := zo_3 (by decide +kernel)
theorem dX12_classOf_3 : decode cX12_classOf 3 = .ok (.istore_n 3, 1) := zo_62 (by decide +kernel)
theorem dX12_classOf_4 : decode cX12_classOf 4 = .ok (.iload_n 3, 1) := zo_29 (by decide +kernel)
theorem dX12_classOf_5 : decode cX12_classOf 5 = .ok (.aload_n 0, 1) := zo_42 (by decide +kernel)
theorem dX12_classOf_6 : decode cX12_classOf 6 = .ok (.getfield 169, 3) := zo_180 (by decide +kernel)
theorem dX12_classOf_9 : decode cX12_classOf 9 = .ok (.if_icmp .ge 49, 3) := zo_162 (by decide +kernel)
theorem dX12_classOf_12 : decode cX12_classOf 12 = .ok (.iload_n 2, 1) := zo_28 (by decide +kernel)
theorem dX12_classOf_13 : decode cX12_classOf 13 = .ok (.aload_n 0, 1) := zo_42 (by decide +kernel)
theorem dX12_classOf_14 : decode cX12_classOf 14 = .ok (.getfield 41, 3) := zo_180 (by decide +kernel)
theorem dX12_classOf_17 : decode cX12_classOf 17 = .ok (.bipush 7, 2) := zo_16 (by decide +kernel)
theorem dX12_classOf_19 : decode cX12_classOf 19 = .ok (.iload_n 1, 1) := zo_27 (by decide +kernel)
theorem dX12_classOf_20 : decode cX12_classOf 20 = .ok (.imul, 1) := zo_104 (by decide +kernel)
theorem dX12_classOf_21 : decode cX12_classOf 21 = .ok (.iload_n 3, 1) := zo_29 (by decide +kernel)
theorem dX12_classOf_22 : decode cX12_classOf 22 = .ok (.iadd, 1) := zo_96 (by decide +kernel)
theorem dX12_classOf_23 : decode cX12_classOf 23 = .ok (.iaload, 1) := zo_46 (by decide +kernel)
theorem dX12_classOf_24 : decode cX12_classOf 24 = .ok (.iconst (-1), 1) := zo_2 (by decide +kernel)
theorem dX12_classOf_25 : decode cX12_classOf 25 = .ok (.if_icmp .eq 24, 3) := zo_159 (by decide +kernel)
theorem dX12_classOf_28 : decode cX12_classOf 28 = .ok (.aload_n 0, 1) := zo_42 (by decide +kernel)
theorem dX12_classOf_29 : decode cX12_classOf 29 = .ok (.getfield 41, 3) := zo_180 (by decide +kernel)
theorem dX12_classOf_32 : decode cX12_classOf 32 = .ok (.bipush 7, 2) := zo_16 (by decide +kernel)
theorem dX12_classOf_34 : decode cX12_classOf 34 = .ok (.iload_n 3, 1) := zo_29 (by decide +kernel)
theorem dX12_classOf_35 : decode cX12_classOf 35 = .ok (.imul, 1) := zo_104 (by decide +kernel)
theorem dX12_classOf_36 : decode cX12_classOf 36 = .ok (.iload_n 1, 1) := zo_27 (by decide +kernel)
theorem dX12_classOf_37 : decode cX12_classOf 37 = .ok (.iadd, 1) := zo_96 (by decide +kernel)
theorem dX12_classOf_38 : decode cX12_classOf 38 = .ok (.iaload, 1) := zo_46 (by decide +kernel)
theorem dX12_classOf_39 : decode cX12_classOf 39 = .ok (.iconst (-1), 1) := zo_2 (by decide +kernel)
theorem dX12_classOf_40 : decode cX12_classOf 40 = .ok (.if_icmp .eq 9, 3) := zo_159 (by decide +kernel)
theorem dX12_classOf_43 : decode cX12_classOf 43 = .ok (.iconst 1, 1) := zo_4 (by decide +kernel)
theorem dX12_classOf_44 : decode cX12_classOf 44 = .ok (.iload_n 3, 1) := zo_29 (by decide +kernel)
theorem dX12_classOf_45 : decode cX12_classOf 45 = .ok (.ishl, 1) := zo_120 (by decide +kernel)
theorem dX12_classOf_46 : decode cX12_classOf 46 = .ok (.goto 4, 3) := zo_167 (by decide +kernel)
theorem dX12_classOf_49 : decode cX12_classOf 49 = .ok (.iconst 0, 1) := zo_3 (by decide +kernel)
theorem dX12_classOf_50 : decode cX12_classOf 50 = .ok (.ior, 1) := zo_128 (by decide +kernel)
theorem dX12_classOf_51 : decode cX12_classOf 51 = .ok (.istore_n 2, 1) := zo_61 (by decide +kernel)
theorem dX12_classOf_52 : decode cX12_classOf 52 = .ok (.iinc 3 1, 3) := zo_132 (by decide +kernel)
theorem dX12_classOf_55 : decode cX12_classOf 55 = .ok (.goto (-51), 3) := zo_167 (by decide +kernel)
theorem dX12_classOf_58 : decode cX12_classOf 58 = .ok (.iload_n 2, 1) := zo_28 (by decide +kernel)
theorem dX12_classOf_59 : decode cX12_classOf 59 = .ok (.ireturn, 1) := zo_172 (by decide +kernel)
theorem dX12_classesOf_0 : decode cX12_classesOf 0 = .ok (.aload_n 0, 1) := zo_42 (by decide +kernel)
theorem dX12_classesOf_1 : decode cX12_classesOf 1 = .ok (.invokevirtual 258, 3) := zo_182 (by decide +kernel)
theorem dX12_classesOf_4 : decode cX12_classesOf 4 = .ok (.iconst 0, 1) := zo_3 (by decide +kernel)
theorem dX12_classesOf_5 : decode cX12_classesOf 5 = .ok (.istore_n 2, 1) := zo_61 (by decide +kernel)
theorem dX12_classesOf_6 : decode cX12_classesOf 6 = .ok (.iconst 0, 1) := zo_3 (by decide +kernel)
theorem dX12_classesOf_7 : decode cX12_classesOf 7 = .ok (.istore_n 3, 1) := zo_62 (by decide +kernel)
theorem dX12_classesOf_8 : decode cX12_classesOf 8 = .ok (.iconst 0, 1) := zo_3 (by decide +kernel)
theorem dX12_classesOf_9 : decode cX12_classesOf 9 = .ok (.istore 4, 2) := zo_54 (by decide +kernel)
theorem dX12_classesOf_11 : decode cX12_classesOf 11 = .ok (.iload 4, 2) := zo_21 (by decide +kernel)
theorem dX12_classesOf_13 : decode cX12_classesOf 13 = .ok (.aload_n 0, 1) := zo_42 (by decide +kernel)
theorem dX12_classesOf_14 : decode cX12_classesOf 14 = .ok (.getfield 169, 3) := zo_180 (by decide +kernel)
theorem dX12_classesOf_17 : decode cX12_classesOf 17 = .ok (.if_icmp .ge 60, 3) := zo_162 (by decide +kernel)
theorem dX12_classesOf_20 : decode cX12_classesOf 20 = .ok (.iload_n 2, 1) := zo_28 (by decide +kernel)
theorem dX12_classesOf_21 : decode cX12_classesOf 21 = .ok (.aload_n 0, 1) := zo_42 (by decide +kernel)
theorem dX12_classesOf_22 : decode cX12_classesOf 22 = .ok (.iload 4, 2) := zo_21 (by decide +kernel)
theorem dX12_classesOf_24 : decode cX12_classesOf 24 = .ok (.invokevirtual 264, 3) := zo_182 (by decide +kernel)
theorem dX12_classesOf_27 : decode cX12_classesOf 27 = .ok (.iconst 1, 1) := zo_4 (by decide +kernel)
theorem dX12_classesOf_28 : decode cX12_classesOf 28 = .ok (.iload 4, 2) := zo_21 (by decide +kernel)
theorem dX12_classesOf_30 : decode cX12_classesOf 30 = .ok (.ishl, 1) := zo_120 (by decide +kernel)
theorem dX12_classesOf_31 : decode cX12_classesOf 31 = .ok (.iconst 1, 1) := zo_4 (by decide +kernel)
theorem dX12_classesOf_32 : decode cX12_classesOf 32 = .ok (.isub, 1) := zo_100 (by decide +kernel)
theorem dX12_classesOf_33 : decode cX12_classesOf 33 = .ok (.iand, 1) := zo_126 (by decide +kernel)
theorem dX12_classesOf_34 : decode cX12_classesOf 34 = .ok (.ifCond .ne 7, 3) := zo_154 (by decide +kernel)
theorem dX12_classesOf_37 : decode cX12_classesOf 37 = .ok (.iconst 1, 1) := zo_4 (by decide +kernel)
theorem dX12_classesOf_38 : decode cX12_classesOf 38 = .ok (.goto 4, 3) := zo_167 (by decide +kernel)
theorem dX12_classesOf_41 : decode cX12_classesOf 41 = .ok (.iconst 0, 1) := zo_3 (by decide +kernel)
theorem dX12_classesOf_42 : decode cX12_classesOf 42 = .ok (.iadd, 1) := zo_96 (by decide +kernel)
theorem dX12_classesOf_43 : decode cX12_classesOf 43 = .ok (.istore_n 2, 1) := zo_61 (by decide +kernel)
theorem dX12_classesOf_44 : decode cX12_classesOf 44 = .ok (.aload_n 0, 1) := zo_42 (by decide +kernel)
theorem dX12_classesOf_45 : decode cX12_classesOf 45 = .ok (.iload 4, 2) := zo_21 (by decide +kernel)
theorem dX12_classesOf_47 : decode cX12_classesOf 47 = .ok (.invokevirtual 264, 3) := zo_182 (by decide +kernel)
theorem dX12_classesOf_50 : decode cX12_classesOf 50 = .ok (.invokestatic 235, 3) := zo_184 (by decide +kernel)
theorem dX12_classesOf_53 : decode cX12_classesOf 53 = .ok (.iload_n 3, 1) := zo_29 (by decide +kernel)
theorem dX12_classesOf_54 : decode cX12_classesOf 54 = .ok (.if_icmp .le 15, 3) := zo_164 (by decide +kernel)
theorem dX12_classesOf_57 : decode cX12_classesOf 57 = .ok (.aload_n 0, 1) := zo_42 (by decide +kernel)
theorem dX12_classesOf_58 : decode cX12_classesOf 58 = .ok (.iload 4, 2) := zo_21 (by decide +kernel)
theorem dX12_classesOf_60 : decode cX12_classesOf 60 = .ok (.invokevirtual 264, 3) := zo_182 (by decide +kernel)
theorem dX12_classesOf_63 : decode cX12_classesOf 63 = .ok (.invokestatic 235, 3) := zo_184 (by decide +kernel)
theorem dX12_classesOf_66 : decode cX12_classesOf 66 = .ok (.goto 4, 3) := zo_167 (by decide +kernel)
theorem dX12_classesOf_69 : decode cX12_classesOf 69 = .ok (.iload_n 3, 1) := zo_29 (by decide +kernel)
theorem dX12_classesOf_70 : decode cX12_classesOf 70 = .ok (.istore_n 3, 1) := zo_62 (by decide +kernel)
theorem dX12_classesOf_71 : decode cX12_classesOf 71 = .ok (.iinc 4 1, 3) := zo_132 (by decide +kernel)
theorem dX12_classesOf_74 : decode cX12_classesOf 74 = .ok (.goto (-63), 3) := zo_167 (by decide +kernel)
theorem dX12_classesOf_77 : decode cX12_classesOf 77 = .ok (.iload_n 1, 1) := zo_27 (by decide +kernel)
theorem dX12_classesOf_78 : decode cX12_classesOf 78 = .ok (.ifCond .eq 7, 3) := zo_153 (by decide +kernel)
theorem dX12_classesOf_81 : decode cX12_classesOf 81 = .ok (.iload_n 3, 1) := zo_29 (by decide +kernel)
theorem dX12_classesOf_82 : decode cX12_classesOf 82 = .ok (.goto 4, 3) := zo_167 (by decide +kernel)
theorem dX12_classesOf_85 : decode cX12_classesOf 85 = .ok (.iload_n 2, 1) := zo_28 (by decide +kernel)
theorem dX12_classesOf_86 : decode cX12_classesOf 86 = .ok (.ireturn, 1) := zo_172 (by decide +kernel)
theorem dX12_leadHere_0 : decode cX12_leadHere 0 = .ok (.iconst 0, 1) := zo_3 (by decide +kernel)
theorem dX12_leadHere_1 : decode cX12_leadHere 1 = .ok (.istore_n 3, 1) := zo_62 (by decide +kernel)
theorem dX12_leadHere_2 : decode cX12_leadHere 2 = .ok (.iconst 0, 1) := zo_3 (by decide +kernel)
theorem dX12_leadHere_3 : decode cX12_leadHere 3 = .ok (.istore 4, 2) := zo_54 (by decide +kernel)
theorem dX12_leadHere_5 : decode cX12_leadHere 5 = .ok (.iload 4, 2) := zo_21 (by decide +kernel)
theorem dX12_leadHere_7 : decode cX12_leadHere 7 = .ok (.aload_n 0, 1) := zo_42 (by decide +kernel)
theorem dX12_leadHere_8 : decode cX12_leadHere 8 = .ok (.getfield 169, 3) := zo_180 (by decide +kernel)
theorem dX12_leadHere_11 : decode cX12_leadHere 11 = .ok (.if_icmp .ge 59, 3) := zo_162 (by decide +kernel)
theorem dX12_leadHere_14 : decode cX12_leadHere 14 = .ok (.iconst 0, 1) := zo_3 (by decide +kernel)
theorem dX12_leadHere_15 : decode cX12_leadHere 15 = .ok (.istore 5, 2) := zo_54 (by decide +kernel)
theorem dX12_leadHere_17 : decode cX12_leadHere 17 = .ok (.iload 5, 2) := zo_21 (by decide +kernel)
theorem dX12_leadHere_19 : decode cX12_leadHere 19 = .ok (.aload_n 0, 1) := zo_42 (by decide +kernel)
theorem dX12_leadHere_20 : decode cX12_leadHere 20 = .ok (.iload 4, 2) := zo_21 (by decide +kernel)
theorem dX12_leadHere_22 : decode cX12_leadHere 22 = .ok (.invokevirtual 255, 3) := zo_182 (by decide +kernel)
theorem dX12_leadHere_25 : decode cX12_leadHere 25 = .ok (.if_icmp .ge 39, 3) := zo_162 (by decide +kernel)
theorem dX12_leadHere_28 : decode cX12_leadHere 28 = .ok (.iload_n 3, 1) := zo_29 (by decide +kernel)
theorem dX12_leadHere_29 : decode cX12_leadHere 29 = .ok (.aload_n 0, 1) := zo_42 (by decide +kernel)
theorem dX12_leadHere_30 : decode cX12_leadHere 30 = .ok (.iload 4, 2) := zo_21 (by decide +kernel)
theorem dX12_leadHere_32 : decode cX12_leadHere 32 = .ok (.iload 5, 2) := zo_21 (by decide +kernel)
theorem dX12_leadHere_34 : decode cX12_leadHere 34 = .ok (.invokevirtual 190, 3) := zo_182 (by decide +kernel)
theorem dX12_leadHere_37 : decode cX12_leadHere 37 = .ok (.iload_n 1, 1) := zo_27 (by decide +kernel)
theorem dX12_leadHere_38 : decode cX12_leadHere 38 = .ok (.if_icmp .ne 17, 3) := zo_160 (by decide +kernel)
theorem dX12_leadHere_41 : decode cX12_leadHere 41 = .ok (.iload_n 2, 1) := zo_28 (by decide +kernel)
theorem dX12_leadHere_42 : decode cX12_leadHere 42 = .ok (.ifCond .ne 9, 3) := zo_154 (by decide +kernel)
theorem dX12_leadHere_45 : decode cX12_leadHere 45 = .ok (.iload 4, 2) := zo_21 (by decide +kernel)
theorem dX12_leadHere_47 : decode cX12_leadHere 47 = .ok (.iload_n 1, 1) := zo_27 (by decide +kernel)
theorem dX12_leadHere_48 : decode cX12_leadHere 48 = .ok (.if_icmp .eq 7, 3) := zo_159 (by decide +kernel)
theorem dX12_leadHere_51 : decode cX12_leadHere 51 = .ok (.iconst 1, 1) := zo_4 (by decide +kernel)
theorem dX12_leadHere_52 : decode cX12_leadHere 52 = .ok (.goto 4, 3) := zo_167 (by decide +kernel)
theorem dX12_leadHere_55 : decode cX12_leadHere 55 = .ok (.iconst 0, 1) := zo_3 (by decide +kernel)
theorem dX12_leadHere_56 : decode cX12_leadHere 56 = .ok (.iadd, 1) := zo_96 (by decide +kernel)
theorem dX12_leadHere_57 : decode cX12_leadHere 57 = .ok (.istore_n 3, 1) := zo_62 (by decide +kernel)
theorem dX12_leadHere_58 : decode cX12_leadHere 58 = .ok (.iinc 5 1, 3) := zo_132 (by decide +kernel)
theorem dX12_leadHere_61 : decode cX12_leadHere 61 = .ok (.goto (-44), 3) := zo_167 (by decide +kernel)
theorem dX12_leadHere_64 : decode cX12_leadHere 64 = .ok (.iinc 4 1, 3) := zo_132 (by decide +kernel)
theorem dX12_leadHere_67 : decode cX12_leadHere 67 = .ok (.goto (-62), 3) := zo_167 (by decide +kernel)
theorem dX12_leadHere_70 : decode cX12_leadHere 70 = .ok (.iload_n 3, 1) := zo_29 (by decide +kernel)
theorem dX12_leadHere_71 : decode cX12_leadHere 71 = .ok (.ireturn, 1) := zo_172 (by decide +kernel)
theorem dX12_crossingsOf_0 : decode cX12_crossingsOf 0 = .ok (.iconst 0, 1) := zo_3 (by decide +kernel)
theorem dX12_crossingsOf_1 : decode cX12_crossingsOf 1 = .ok (.istore_n 2, 1) := zo_61 (by decide +kernel)
theorem dX12_crossingsOf_2 : decode cX12_crossingsOf 2 = .ok (.iconst 0, 1) := zo_3 (by decide +kernel)
theorem dX12_crossingsOf_3 : decode cX12_crossingsOf 3 = .ok (.istore_n 3, 1) := zo_62 (by decide +kernel)
theorem dX12_crossingsOf_4 : decode cX12_crossingsOf 4 = .ok (.iload_n 3, 1) := zo_29 (by decide +kernel)
theorem dX12_crossingsOf_5 : decode cX12_crossingsOf 5 = .ok (.aload_n 0, 1) := zo_42 (by decide +kernel)
theorem dX12_crossingsOf_6 : decode cX12_crossingsOf 6 = .ok (.getfield 169, 3) := zo_180 (by decide +kernel)
theorem dX12_crossingsOf_9 : decode cX12_crossingsOf 9 = .ok (.if_icmp .ge 96, 3) := zo_162 (by decide +kernel)
theorem dX12_crossingsOf_12 : decode cX12_crossingsOf 12 = .ok (.iload_n 1, 1) := zo_27 (by decide +kernel)
theorem dX12_crossingsOf_13 : decode cX12_crossingsOf 13 = .ok (.iconst 2, 1) := zo_5 (by decide +kernel)
theorem dX12_crossingsOf_14 : decode cX12_crossingsOf 14 = .ok (.if_icmp .ne 20, 3) := zo_160 (by decide +kernel)
theorem dX12_crossingsOf_17 : decode cX12_crossingsOf 17 = .ok (.aload_n 0, 1) := zo_42 (by decide +kernel)
theorem dX12_crossingsOf_18 : decode cX12_crossingsOf 18 = .ok (.iload_n 3, 1) := zo_29 (by decide +kernel)
theorem dX12_crossingsOf_19 : decode cX12_crossingsOf 19 = .ok (.iconst 0, 1) := zo_3 (by decide +kernel)
theorem dX12_crossingsOf_20 : decode cX12_crossingsOf 20 = .ok (.invokevirtual 267, 3) := zo_182 (by decide +kernel)
theorem dX12_crossingsOf_23 : decode cX12_crossingsOf 23 = .ok (.ifCond .ne 7, 3) := zo_154 (by decide +kernel)
theorem dX12_crossingsOf_26 : decode cX12_crossingsOf 26 = .ok (.iconst 1, 1) := zo_4 (by decide +kernel)
theorem dX12_crossingsOf_27 : decode cX12_crossingsOf 27 = .ok (.goto 55, 3) := zo_167 (by decide +kernel)
theorem dX12_crossingsOf_30 : decode cX12_crossingsOf 30 = .ok (.iconst 0, 1) := zo_3 (by decide +kernel)
theorem dX12_crossingsOf_31 : decode cX12_crossingsOf 31 = .ok (.goto 51, 3) := zo_167 (by decide +kernel)
theorem dX12_crossingsOf_34 : decode cX12_crossingsOf 34 = .ok (.iload_n 1, 1) := zo_27 (by decide +kernel)
theorem dX12_crossingsOf_35 : decode cX12_crossingsOf 35 = .ok (.iconst 3, 1) := zo_6 (by decide +kernel)
theorem dX12_crossingsOf_36 : decode cX12_crossingsOf 36 = .ok (.if_icmp .ne 27, 3) := zo_160 (by decide +kernel)
theorem dX12_crossingsOf_39 : decode cX12_crossingsOf 39 = .ok (.aload_n 0, 1) := zo_42 (by decide +kernel)
theorem dX12_crossingsOf_40 : decode cX12_crossingsOf 40 = .ok (.iload_n 3, 1) := zo_29 (by decide +kernel)
theorem dX12_crossingsOf_41 : decode cX12_crossingsOf 41 = .ok (.invokevirtual 178, 3) := zo_182 (by decide +kernel)
theorem dX12_crossingsOf_44 : decode cX12_crossingsOf 44 = .ok (.ifCond .ne 15, 3) := zo_154 (by decide +kernel)
theorem dX12_crossingsOf_47 : decode cX12_crossingsOf 47 = .ok (.aload_n 0, 1) := zo_42 (by decide +kernel)
theorem dX12_crossingsOf_48 : decode cX12_crossingsOf 48 = .ok (.iload_n 3, 1) := zo_29 (by decide +kernel)
theorem dX12_crossingsOf_49 : decode cX12_crossingsOf 49 = .ok (.invokevirtual 181, 3) := zo_182 (by decide +kernel)
theorem dX12_crossingsOf_52 : decode cX12_crossingsOf 52 = .ok (.ifCond .ne 7, 3) := zo_154 (by decide +kernel)
theorem dX12_crossingsOf_55 : decode cX12_crossingsOf 55 = .ok (.iconst 1, 1) := zo_4 (by decide +kernel)
theorem dX12_crossingsOf_56 : decode cX12_crossingsOf 56 = .ok (.goto 26, 3) := zo_167 (by decide +kernel)
theorem dX12_crossingsOf_59 : decode cX12_crossingsOf 59 = .ok (.iconst 0, 1) := zo_3 (by decide +kernel)
theorem dX12_crossingsOf_60 : decode cX12_crossingsOf 60 = .ok (.goto 22, 3) := zo_167 (by decide +kernel)
theorem dX12_crossingsOf_63 : decode cX12_crossingsOf 63 = .ok (.aload_n 0, 1) := zo_42 (by decide +kernel)
theorem dX12_crossingsOf_64 : decode cX12_crossingsOf 64 = .ok (.iload_n 3, 1) := zo_29 (by decide +kernel)
theorem dX12_crossingsOf_65 : decode cX12_crossingsOf 65 = .ok (.iconst 1, 1) := zo_4 (by decide +kernel)
theorem dX12_crossingsOf_66 : decode cX12_crossingsOf 66 = .ok (.invokevirtual 267, 3) := zo_182 (by decide +kernel)
theorem dX12_crossingsOf_69 : decode cX12_crossingsOf 69 = .ok (.aload_n 0, 1) := zo_42 (by decide +kernel)
theorem dX12_crossingsOf_70 : decode cX12_crossingsOf 70 = .ok (.iload_n 3, 1) := zo_29 (by decide +kernel)
theorem dX12_crossingsOf_71 : decode cX12_crossingsOf 71 = .ok (.invokevirtual 255, 3) := zo_182 (by decide +kernel)
theorem dX12_crossingsOf_74 : decode cX12_crossingsOf 74 = .ok (.if_icmp .ne 7, 3) := zo_160 (by decide +kernel)
theorem dX12_crossingsOf_77 : decode cX12_crossingsOf 77 = .ok (.iconst 1, 1) := zo_4 (by decide +kernel)
theorem dX12_crossingsOf_78 : decode cX12_crossingsOf 78 = .ok (.goto 4, 3) := zo_167 (by decide +kernel)
theorem dX12_crossingsOf_81 : decode cX12_crossingsOf 81 = .ok (.iconst 0, 1) := zo_3 (by decide +kernel)
theorem dX12_crossingsOf_82 : decode cX12_crossingsOf 82 = .ok (.istore 4, 2) := zo_54 (by decide +kernel)
theorem dX12_crossingsOf_84 : decode cX12_crossingsOf 84 = .ok (.iload_n 2, 1) := zo_28 (by decide +kernel)
theorem dX12_crossingsOf_85 : decode cX12_crossingsOf 85 = .ok (.iload 4, 2) := zo_21 (by decide +kernel)
theorem dX12_crossingsOf_87 : decode cX12_crossingsOf 87 = .ok (.ifCond .eq 9, 3) := zo_153 (by decide +kernel)
theorem dX12_crossingsOf_90 : decode cX12_crossingsOf 90 = .ok (.iconst 1, 1) := zo_4 (by decide +kernel)
theorem dX12_crossingsOf_91 : decode cX12_crossingsOf 91 = .ok (.iload_n 3, 1) := zo_29 (by decide +kernel)
theorem dX12_crossingsOf_92 : decode cX12_crossingsOf 92 = .ok (.ishl, 1) := zo_120 (by decide +kernel)
theorem dX12_crossingsOf_93 : decode cX12_crossingsOf 93 = .ok (.goto 4, 3) := zo_167 (by decide +kernel)
theorem dX12_crossingsOf_96 : decode cX12_crossingsOf 96 = .ok (.iconst 0, 1) := zo_3 (by decide +kernel)
theorem dX12_crossingsOf_97 : decode cX12_crossingsOf 97 = .ok (.ior, 1) := zo_128 (by decide +kernel)
theorem dX12_crossingsOf_98 : decode cX12_crossingsOf 98 = .ok (.istore_n 2, 1) := zo_61 (by decide +kernel)
theorem dX12_crossingsOf_99 : decode cX12_crossingsOf 99 = .ok (.iinc 3 1, 3) := zo_132 (by decide +kernel)
theorem dX12_crossingsOf_102 : decode cX12_crossingsOf 102 = .ok (.goto (-98), 3) := zo_167 (by decide +kernel)
theorem dX12_crossingsOf_105 : decode cX12_crossingsOf 105 = .ok (.iload_n 2, 1) := zo_28 (by decide +kernel)
theorem dX12_crossingsOf_106 : decode cX12_crossingsOf 106 = .ok (.ireturn, 1) := zo_172 (by decide +kernel)
theorem dX12_loops_0 : decode cX12_loops 0 = .ok (.iconst 0, 1) := zo_3 (by decide +kernel)
theorem dX12_loops_1 : decode cX12_loops 1 = .ok (.istore_n 2, 1) := zo_61 (by decide +kernel)
theorem dX12_loops_2 : decode cX12_loops 2 = .ok (.iconst 0, 1) := zo_3 (by decide +kernel)
theorem dX12_loops_3 : decode cX12_loops 3 = .ok (.istore_n 3, 1) := zo_62 (by decide +kernel)
theorem dX12_loops_4 : decode cX12_loops 4 = .ok (.iload_n 3, 1) := zo_29 (by decide +kernel)
theorem dX12_loops_5 : decode cX12_loops 5 = .ok (.aload_n 0, 1) := zo_42 (by decide +kernel)
theorem dX12_loops_6 : decode cX12_loops 6 = .ok (.getfield 169, 3) := zo_180 (by decide +kernel)
theorem dX12_loops_9 : decode cX12_loops 9 = .ok (.if_icmp .ge 96, 3) := zo_162 (by decide +kernel)
theorem dX12_loops_12 : decode cX12_loops 12 = .ok (.iconst 0, 1) := zo_3 (by decide +kernel)
theorem dX12_loops_13 : decode cX12_loops 13 = .ok (.istore 4, 2) := zo_54 (by decide +kernel)
theorem dX12_loops_15 : decode cX12_loops 15 = .ok (.iload 4, 2) := zo_21 (by decide +kernel)
theorem dX12_loops_17 : decode cX12_loops 17 = .ok (.aload_n 0, 1) := zo_42 (by decide +kernel)
theorem dX12_loops_18 : decode cX12_loops 18 = .ok (.iload_n 3, 1) := zo_29 (by decide +kernel)
theorem dX12_loops_19 : decode cX12_loops 19 = .ok (.invokevirtual 255, 3) := zo_182 (by decide +kernel)
theorem dX12_loops_22 : decode cX12_loops 22 = .ok (.if_icmp .ge 77, 3) := zo_162 (by decide +kernel)
theorem dX12_loops_25 : decode cX12_loops 25 = .ok (.iload_n 2, 1) := zo_28 (by decide +kernel)
theorem dX12_loops_26 : decode cX12_loops 26 = .ok (.iload_n 1, 1) := zo_27 (by decide +kernel)
theorem dX12_loops_27 : decode cX12_loops 27 = .ok (.ifCond .ne 18, 3) := zo_154 (by decide +kernel)
theorem dX12_loops_30 : decode cX12_loops 30 = .ok (.aload_n 0, 1) := zo_42 (by decide +kernel)
theorem dX12_loops_31 : decode cX12_loops 31 = .ok (.iload_n 3, 1) := zo_29 (by decide +kernel)
theorem dX12_loops_32 : decode cX12_loops 32 = .ok (.iload 4, 2) := zo_21 (by decide +kernel)
theorem dX12_loops_34 : decode cX12_loops 34 = .ok (.invokevirtual 190, 3) := zo_182 (by decide +kernel)
theorem dX12_loops_37 : decode cX12_loops 37 = .ok (.iload_n 3, 1) := zo_29 (by decide +kernel)
theorem dX12_loops_38 : decode cX12_loops 38 = .ok (.if_icmp .ne 7, 3) := zo_160 (by decide +kernel)
theorem dX12_loops_41 : decode cX12_loops 41 = .ok (.iconst 1, 1) := zo_4 (by decide +kernel)
theorem dX12_loops_42 : decode cX12_loops 42 = .ok (.goto 4, 3) := zo_167 (by decide +kernel)
theorem dX12_loops_45 : decode cX12_loops 45 = .ok (.iconst 0, 1) := zo_3 (by decide +kernel)
theorem dX12_loops_46 : decode cX12_loops 46 = .ok (.iadd, 1) := zo_96 (by decide +kernel)
theorem dX12_loops_47 : decode cX12_loops 47 = .ok (.istore_n 2, 1) := zo_61 (by decide +kernel)
theorem dX12_loops_48 : decode cX12_loops 48 = .ok (.iconst 0, 1) := zo_3 (by decide +kernel)
theorem dX12_loops_49 : decode cX12_loops 49 = .ok (.istore 5, 2) := zo_54 (by decide +kernel)
theorem dX12_loops_51 : decode cX12_loops 51 = .ok (.iload 5, 2) := zo_21 (by decide +kernel)
theorem dX12_loops_53 : decode cX12_loops 53 = .ok (.iload 4, 2) := zo_21 (by decide +kernel)
theorem dX12_loops_55 : decode cX12_loops 55 = .ok (.if_icmp .ge 38, 3) := zo_162 (by decide +kernel)
theorem dX12_loops_58 : decode cX12_loops 58 = .ok (.iload_n 2, 1) := zo_28 (by decide +kernel)
theorem dX12_loops_59 : decode cX12_loops 59 = .ok (.iload_n 1, 1) := zo_27 (by decide +kernel)
theorem dX12_loops_60 : decode cX12_loops 60 = .ok (.ifCond .eq 24, 3) := zo_153 (by decide +kernel)
theorem dX12_loops_63 : decode cX12_loops 63 = .ok (.aload_n 0, 1) := zo_42 (by decide +kernel)
theorem dX12_loops_64 : decode cX12_loops 64 = .ok (.iload_n 3, 1) := zo_29 (by decide +kernel)
theorem dX12_loops_65 : decode cX12_loops 65 = .ok (.iload 4, 2) := zo_21 (by decide +kernel)
theorem dX12_loops_67 : decode cX12_loops 67 = .ok (.invokevirtual 190, 3) := zo_182 (by decide +kernel)
theorem dX12_loops_70 : decode cX12_loops 70 = .ok (.aload_n 0, 1) := zo_42 (by decide +kernel)
theorem dX12_loops_71 : decode cX12_loops 71 = .ok (.iload_n 3, 1) := zo_29 (by decide +kernel)
theorem dX12_loops_72 : decode cX12_loops 72 = .ok (.iload 5, 2) := zo_21 (by decide +kernel)
theorem dX12_loops_74 : decode cX12_loops 74 = .ok (.invokevirtual 190, 3) := zo_182 (by decide +kernel)
theorem dX12_loops_77 : decode cX12_loops 77 = .ok (.if_icmp .ne 7, 3) := zo_160 (by decide +kernel)
theorem dX12_loops_80 : decode cX12_loops 80 = .ok (.iconst 1, 1) := zo_4 (by decide +kernel)
theorem dX12_loops_81 : decode cX12_loops 81 = .ok (.goto 4, 3) := zo_167 (by decide +kernel)
theorem dX12_loops_84 : decode cX12_loops 84 = .ok (.iconst 0, 1) := zo_3 (by decide +kernel)
theorem dX12_loops_85 : decode cX12_loops 85 = .ok (.iadd, 1) := zo_96 (by decide +kernel)
theorem dX12_loops_86 : decode cX12_loops 86 = .ok (.istore_n 2, 1) := zo_61 (by decide +kernel)
theorem dX12_loops_87 : decode cX12_loops 87 = .ok (.iinc 5 1, 3) := zo_132 (by decide +kernel)
theorem dX12_loops_90 : decode cX12_loops 90 = .ok (.goto (-39), 3) := zo_167 (by decide +kernel)
theorem dX12_loops_93 : decode cX12_loops 93 = .ok (.iinc 4 1, 3) := zo_132 (by decide +kernel)
theorem dX12_loops_96 : decode cX12_loops 96 = .ok (.goto (-81), 3) := zo_167 (by decide +kernel)
theorem dX12_loops_99 : decode cX12_loops 99 = .ok (.iinc 3 1, 3) := zo_132 (by decide +kernel)
theorem dX12_loops_102 : decode cX12_loops 102 = .ok (.goto (-98), 3) := zo_167 (by decide +kernel)
theorem dX12_loops_105 : decode cX12_loops 105 = .ok (.iload_n 2, 1) := zo_28 (by decide +kernel)
theorem dX12_loops_106 : decode cX12_loops 106 = .ok (.ireturn, 1) := zo_172 (by decide +kernel)
theorem dX12_busyOf_0 : decode cX12_busyOf 0 = .ok (.aload_n 0, 1) := zo_42 (by decide +kernel)
theorem dX12_busyOf_1 : decode cX12_busyOf 1 = .ok (.getfield 169, 3) := zo_180 (by decide +kernel)
theorem dX12_busyOf_4 : decode cX12_busyOf 4 = .ok (.ifCond .ne 7, 3) := zo_154 (by decide +kernel)
theorem dX12_busyOf_7 : decode cX12_busyOf 7 = .ok (.iconst (-1), 1) := zo_2 (by decide +kernel)
theorem dX12_busyOf_8 : decode cX12_busyOf 8 = .ok (.goto 4, 3) := zo_167 (by decide +kernel)
theorem dX12_busyOf_11 : decode cX12_busyOf 11 = .ok (.iconst 0, 1) := zo_3 (by decide +kernel)
theorem dX12_busyOf_12 : decode cX12_busyOf 12 = .ok (.istore_n 1, 1) := zo_60 (by decide +kernel)
theorem dX12_busyOf_13 : decode cX12_busyOf 13 = .ok (.iconst 1, 1) := zo_4 (by decide +kernel)
theorem dX12_busyOf_14 : decode cX12_busyOf 14 = .ok (.istore_n 2, 1) := zo_61 (by decide +kernel)
theorem dX12_busyOf_15 : decode cX12_busyOf 15 = .ok (.iload_n 2, 1) := zo_28 (by decide +kernel)
theorem dX12_busyOf_16 : decode cX12_busyOf 16 = .ok (.aload_n 0, 1) := zo_42 (by decide +kernel)
theorem dX12_busyOf_17 : decode cX12_busyOf 17 = .ok (.getfield 169, 3) := zo_180 (by decide +kernel)
theorem dX12_busyOf_20 : decode cX12_busyOf 20 = .ok (.if_icmp .ge 30, 3) := zo_162 (by decide +kernel)
theorem dX12_busyOf_23 : decode cX12_busyOf 23 = .ok (.aload_n 0, 1) := zo_42 (by decide +kernel)
theorem dX12_busyOf_24 : decode cX12_busyOf 24 = .ok (.iload_n 2, 1) := zo_28 (by decide +kernel)
theorem dX12_busyOf_25 : decode cX12_busyOf 25 = .ok (.iconst 1, 1) := zo_4 (by decide +kernel)
theorem dX12_busyOf_26 : decode cX12_busyOf 26 = .ok (.invokevirtual 267, 3) := zo_182 (by decide +kernel)
theorem dX12_busyOf_29 : decode cX12_busyOf 29 = .ok (.aload_n 0, 1) := zo_42 (by decide +kernel)
theorem dX12_busyOf_30 : decode cX12_busyOf 30 = .ok (.iload_n 1, 1) := zo_27 (by decide +kernel)
theorem dX12_busyOf_31 : decode cX12_busyOf 31 = .ok (.iconst 1, 1) := zo_4 (by decide +kernel)
theorem dX12_busyOf_32 : decode cX12_busyOf 32 = .ok (.invokevirtual 267, 3) := zo_182 (by decide +kernel)
theorem dX12_busyOf_35 : decode cX12_busyOf 35 = .ok (.if_icmp .le 7, 3) := zo_164 (by decide +kernel)
theorem dX12_busyOf_38 : decode cX12_busyOf 38 = .ok (.iload_n 2, 1) := zo_28 (by decide +kernel)
theorem dX12_busyOf_39 : decode cX12_busyOf 39 = .ok (.goto 4, 3) := zo_167 (by decide +kernel)
theorem dX12_busyOf_42 : decode cX12_busyOf 42 = .ok (.iload_n 1, 1) := zo_27 (by decide +kernel)
theorem dX12_busyOf_43 : decode cX12_busyOf 43 = .ok (.istore_n 1, 1) := zo_60 (by decide +kernel)
theorem dX12_busyOf_44 : decode cX12_busyOf 44 = .ok (.iinc 2 1, 3) := zo_132 (by decide +kernel)
theorem dX12_busyOf_47 : decode cX12_busyOf 47 = .ok (.goto (-32), 3) := zo_167 (by decide +kernel)
theorem dX12_busyOf_50 : decode cX12_busyOf 50 = .ok (.iload_n 1, 1) := zo_27 (by decide +kernel)
theorem dX12_busyOf_51 : decode cX12_busyOf 51 = .ok (.ireturn, 1) := zo_172 (by decide +kernel)
theorem dX12_classes_0 : decode cX12_classes 0 = .ok (.aload_n 0, 1) := zo_42 (by decide +kernel)
theorem dX12_classes_1 : decode cX12_classes 1 = .ok (.iload_n 1, 1) := zo_27 (by decide +kernel)
theorem dX12_classes_2 : decode cX12_classes 2 = .ok (.invokevirtual 184, 3) := zo_182 (by decide +kernel)
theorem dX12_classes_5 : decode cX12_classes 5 = .ok (.ifCond .ne 6, 3) := zo_154 (by decide +kernel)
theorem dX12_classes_8 : decode cX12_classes 8 = .ok (.bipush (-2), 2) := zo_16 (by decide +kernel)
theorem dX12_classes_10 : decode cX12_classes 10 = .ok (.ireturn, 1) := zo_172 (by decide +kernel)
theorem dX12_classes_11 : decode cX12_classes 11 = .ok (.iload_n 2, 1) := zo_28 (by decide +kernel)
theorem dX12_classes_12 : decode cX12_classes 12 = .ok (.tableswitch 89 0 7 #[48, 48, 63, 63, 69, 69, 63, 84], 48) := by decide +kernel
theorem dX12_classes_60 : decode cX12_classes 60 = .ok (.aload_n 0, 1) := zo_42 (by decide +kernel)
theorem dX12_classes_61 : decode cX12_classes 61 = .ok (.iload_n 2, 1) := zo_28 (by decide +kernel)
theorem dX12_classes_62 : decode cX12_classes 62 = .ok (.iconst 1, 1) := zo_4 (by decide +kernel)
theorem dX12_classes_63 : decode cX12_classes 63 = .ok (.if_icmp .ne 7, 3) := zo_160 (by decide +kernel)
theorem dX12_classes_66 : decode cX12_classes 66 = .ok (.iconst 1, 1) := zo_4 (by decide +kernel)
theorem dX12_classes_67 : decode cX12_classes 67 = .ok (.goto 4, 3) := zo_167 (by decide +kernel)
theorem dX12_classes_70 : decode cX12_classes 70 = .ok (.iconst 0, 1) := zo_3 (by decide +kernel)
theorem dX12_classes_71 : decode cX12_classes 71 = .ok (.invokevirtual 271, 3) := zo_182 (by decide +kernel)
theorem dX12_classes_74 : decode cX12_classes 74 = .ok (.ireturn, 1) := zo_172 (by decide +kernel)
theorem dX12_classes_75 : decode cX12_classes 75 = .ok (.aload_n 0, 1) := zo_42 (by decide +kernel)
theorem dX12_classes_76 : decode cX12_classes 76 = .ok (.iload_n 2, 1) := zo_28 (by decide +kernel)
theorem dX12_classes_77 : decode cX12_classes 77 = .ok (.invokevirtual 275, 3) := zo_182 (by decide +kernel)
theorem dX12_classes_80 : decode cX12_classes 80 = .ok (.ireturn, 1) := zo_172 (by decide +kernel)
theorem dX12_classes_81 : decode cX12_classes 81 = .ok (.aload_n 0, 1) := zo_42 (by decide +kernel)
theorem dX12_classes_82 : decode cX12_classes 82 = .ok (.iload_n 2, 1) := zo_28 (by decide +kernel)
theorem dX12_classes_83 : decode cX12_classes 83 = .ok (.iconst 5, 1) := zo_8 (by decide +kernel)
theorem dX12_classes_84 : decode cX12_classes 84 = .ok (.if_icmp .ne 7, 3) := zo_160 (by decide +kernel)
theorem dX12_classes_87 : decode cX12_classes 87 = .ok (.iconst 1, 1) := zo_4 (by decide +kernel)
theorem dX12_classes_88 : decode cX12_classes 88 = .ok (.goto 4, 3) := zo_167 (by decide +kernel)
theorem dX12_classes_91 : decode cX12_classes 91 = .ok (.iconst 0, 1) := zo_3 (by decide +kernel)
theorem dX12_classes_92 : decode cX12_classes 92 = .ok (.invokevirtual 278, 3) := zo_182 (by decide +kernel)
theorem dX12_classes_95 : decode cX12_classes 95 = .ok (.ireturn, 1) := zo_172 (by decide +kernel)
theorem dX12_classes_96 : decode cX12_classes 96 = .ok (.aload_n 0, 1) := zo_42 (by decide +kernel)
theorem dX12_classes_97 : decode cX12_classes 97 = .ok (.invokevirtual 281, 3) := zo_182 (by decide +kernel)
theorem dX12_classes_100 : decode cX12_classes 100 = .ok (.ireturn, 1) := zo_172 (by decide +kernel)
theorem dX12_classes_101 : decode cX12_classes 101 = .ok (.bipush (-2), 2) := zo_16 (by decide +kernel)
theorem dX12_classes_103 : decode cX12_classes 103 = .ok (.ireturn, 1) := zo_172 (by decide +kernel)

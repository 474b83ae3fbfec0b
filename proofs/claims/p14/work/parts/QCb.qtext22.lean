set_option maxHeartbeats 4000000 in
set_option maxRecDepth 100000 in
/-- c_fm_text2 -/
theorem c_fm_text2 (l : Launch) (T : zTy) (mo : Nat) (m_all : Nat) (m_has : Nat) (i_size : Int32) (i_next : Int32) (i_where : Int32) (i_token : Int32) (i_number : Int32) (i_word : Int32) (i_wrong : Int32) (i_farCrossing : Int32) (m_read : Nat) (i_z0 : Int32) (i_crossings : Int32) (i_inns : Int32) (m_posts : Nat) (m_shut : Nat) (m_here : Nat) (i_steps : Int32) (i_done : Int32) (i_at : Int32) (i_gone : Int32) (m_was : Nat) (m_came : Nat) (m_seenAt : Nat) (m_rowWorth : Nat) (m_farBy : Nat) (m_used : Nat) (i_everywhere : Int32) (i_again0 : Int32) (i_d0 : Int32) (i_never : Int32) (i_firstCame : Int32) (i_longRun : Int32) (i_moved : Int32) (i_crowd : Int32) (i_l0 : Int32) (i_fitMany : Int32) (i_fitLeast : Int32) (i_fitMost : Int32) (m_fitPost : Nat) (m_fitEnd : Nat) (m_keptPosts : Nat) (i_x0 : Int32) (f_all : Nat → Int32) (f_read : Nat → Int32) (k : pT) (N : Nat) (at_ : Int32) (hB : zBI f_all) (hsN : f_all 4 = nI N) (hN6 : N ≤ 600) (hk : k = tkT (fun j => f_all (10 + j)) N) (hby : ∀ j, j < N → 0 ≤ (f_all (10 + j)).toInt) : zMi l T yX12_text cX12_text 5 (some .int) 9 0 0 [.ref mo, .int 2, .int at_] [[zO11 mo m_all m_has i_size i_next i_where i_token i_number i_word i_wrong i_farCrossing m_read i_z0 i_crossings i_inns m_posts m_shut m_here i_steps i_done i_at i_gone m_was m_came m_seenAt m_rowWorth m_farBy m_used i_everywhere i_again0 i_d0 i_never i_firstCame i_longRun i_moved i_crowd i_l0 i_fitMany i_fitLeast i_fitMost m_fitPost m_fitEnd m_keptPosts i_x0], [zAr T 0 m_all 3952 f_all], [zAr T 0 m_read 121 f_read]] (fun (r : Int32) bs => ∃ (j_size : Int32) (j_next : Int32) (j_where : Int32) (j_token : Int32) (j_number : Int32) (j_word : Int32) (j_wrong : Int32) (j_farCrossing : Int32) (g_all : Nat → Int32) (g_read : Nat → Int32), bs = [[zO11 mo m_all m_has j_size j_next j_where j_token j_number j_word j_wrong j_farCrossing m_read i_z0 i_crossings i_inns m_posts m_shut m_here i_steps i_done i_at i_gone m_was m_came m_seenAt m_rowWorth m_farBy m_used i_everywhere i_again0 i_d0 i_never i_firstCame i_longRun i_moved i_crowd i_l0 i_fitMany i_fitLeast i_fitMost m_fitPost m_fitEnd m_keptPosts i_x0], [zAr T 0 m_all 3952 g_all], [zAr T 0 m_read 121 g_read]] ∧ zBI g_all ∧ g_all 4 = 0 ∧ (∀ j, 988 ≤ j → g_all j = f_all j) ∧ (zText (pRead k N 2) 2 at_ f_all g_all r)) := by
  refine zMi_of (own := RX12) (by decide) rfl (Nat.le_of_ble_eq_true rfl) ?_
  intro p e s m args below meth c A ls C hr hlocks hnm hAe G hl
  refine zHide (fun Qz_ hQz_ => ?_)
  have hx := C.1
  have hb := C.2.1
  have hl : lv_has ls 5 [(0, .ref mo), (1, .int 2), (2, .int at_)] := hl
  refine lv_aload_n hx hb dX12_text_0 rfl (lv_at hl 0 rfl) ?_
  refine lv_aload_n hx hb dX12_text_1 rfl (lv_at hl 0 rfl) ?_
  refine z_get C G clX12 0 rfl 0 (by decide) m_fl_RX12_7 rfl dX12_text_2 ?_
  refine lv_iconst (v := 4) hx hb dX12_text_5 (by decide) ?_
  refine z_ild C G 1 rfl (vp_in_nI (n := 4) (by decide) (by decide)) dX12_text_6 ?_
  refine lv_topi (fun v_1 ev_1 => ?_)
  rw [show ((4 : Int32).toNatClampNeg) = 4 from rfl] at ev_1
  subst ev_1
  refine z_put C G clX12 0 rfl 2 (by decide) m_fl_RX12_56 rfl rfl rfl (Nat.le_of_ble_eq_true rfl) dX12_text_7 (fun H locs G => ?_)
  have G : zS T A s.heap s [[zO11 mo m_all m_has (f_all 4) i_next i_where i_token i_number i_word i_wrong i_farCrossing m_read i_z0 i_crossings i_inns m_posts m_shut m_here i_steps i_done i_at i_gone m_was m_came m_seenAt m_rowWorth m_farBy m_used i_everywhere i_again0 i_d0 i_never i_firstCame i_longRun i_moved i_crowd i_l0 i_fitMany i_fitLeast i_fitMost m_fitPost m_fitEnd m_keptPosts i_x0], [zAr T 0 m_all 3952 f_all], [zAr T 0 m_read 121 f_read]] _ _ := G
  refine lv_aload_n hx hb dX12_text_10 rfl (lv_at hl 0 rfl) ?_
  refine z_get C G clX12 0 rfl 0 (by decide) m_fl_RX12_7 rfl dX12_text_11 ?_
  refine lv_iconst (v := 4) hx hb dX12_text_14 (by decide) ?_
  refine lv_iconst (v := 0) hx hb dX12_text_15 (by decide) ?_
  refine z_ist C G 1 rfl (vp_in_nI (n := 4) (by decide) (by decide)) dX12_text_16 (fun H locs G => ?_)
  have G : zS T A s.heap s [[zO11 mo m_all m_has (f_all 4) i_next i_where i_token i_number i_word i_wrong i_farCrossing m_read i_z0 i_crossings i_inns m_posts m_shut m_here i_steps i_done i_at i_gone m_was m_came m_seenAt m_rowWorth m_farBy m_used i_everywhere i_again0 i_d0 i_never i_firstCame i_longRun i_moved i_crowd i_l0 i_fitMany i_fitLeast i_fitMost m_fitPost m_fitEnd m_keptPosts i_x0], [zAr T 0 m_all 3952 (upd f_all 4 0)], [zAr T 0 m_read 121 f_read]] _ _ := G
  refine lv_aload_n hx hb dX12_text_17 rfl (lv_at hl 0 rfl) ?_
  refine z_get C G clX12 0 rfl 0 (by decide) m_fl_RX12_7 rfl dX12_text_18 ?_
  refine lv_iconst (v := 5) hx hb dX12_text_21 (by decide) ?_
  refine lv_iconst (v := 0) hx hb dX12_text_22 (by decide) ?_
  refine z_ist C G 1 rfl (vp_in_nI (n := 5) (by decide) (by decide)) dX12_text_23 (fun H locs G => ?_)
  have G : zS T A s.heap s [[zO11 mo m_all m_has (f_all 4) i_next i_where i_token i_number i_word i_wrong i_farCrossing m_read i_z0 i_crossings i_inns m_posts m_shut m_here i_steps i_done i_at i_gone m_was m_came m_seenAt m_rowWorth m_farBy m_used i_everywhere i_again0 i_d0 i_never i_firstCame i_longRun i_moved i_crowd i_l0 i_fitMany i_fitLeast i_fitMost m_fitPost m_fitEnd m_keptPosts i_x0], [zAr T 0 m_all 3952 (upd (upd f_all 4 0) 5 0)], [zAr T 0 m_read 121 f_read]] _ _ := G
  refine lv_aload_n hx hb dX12_text_24 rfl (lv_at hl 0 rfl) ?_
  refine z_get C G clX12 0 rfl 0 (by decide) m_fl_RX12_7 rfl dX12_text_25 ?_
  refine lv_bipush (v := 6) hx hb dX12_text_28 (by decide) ?_
  refine lv_iconst (v := (-1)) hx hb dX12_text_30 (by decide) ?_
  refine z_ist C G 1 rfl (vp_in_nI (n := 6) (by decide) (by decide)) dX12_text_31 (fun H locs G => ?_)
  have G : zS T A s.heap s [[zO11 mo m_all m_has (f_all 4) i_next i_where i_token i_number i_word i_wrong i_farCrossing m_read i_z0 i_crossings i_inns m_posts m_shut m_here i_steps i_done i_at i_gone m_was m_came m_seenAt m_rowWorth m_farBy m_used i_everywhere i_again0 i_d0 i_never i_firstCame i_longRun i_moved i_crowd i_l0 i_fitMany i_fitLeast i_fitMost m_fitPost m_fitEnd m_keptPosts i_x0], [zAr T 0 m_all 3952 (upd (upd (upd f_all 4 0) 5 0) 6 (-1))], [zAr T 0 m_read 121 f_read]] _ _ := G
  have hB4 := hB.1
  have hF : ∀ j, j ≠ 4 → j ≠ 5 → j ≠ 6 → (upd (upd (upd f_all 4 0) 5 0) 6 (-1)) j = f_all j := fun j h1 h2 h3 => by unfold upd; rw [if_neg h3, if_neg h2, if_neg h1]
  refine lv_iload_n hx hb dX12_text_32 rfl (lv_at hl 1 rfl) ?_
  refine lv_iconst (v := 0) hx hb dX12_text_33 (by decide) ?_
  refine lv_iconst (v := 2) hx hb dX12_text_34 (by decide) ?_
  refine z_Si (bc := []) (br := [[zO11 mo m_all m_has (f_all 4) i_next i_where i_token i_number i_word i_wrong i_farCrossing m_read i_z0 i_crossings i_inns m_posts m_shut m_here i_steps i_done i_at i_gone m_was m_came m_seenAt m_rowWorth m_farBy m_used i_everywhere i_again0 i_d0 i_never i_firstCame i_longRun i_moved i_crowd i_l0 i_fitMany i_fitLeast i_fitMost m_fitPost m_fitEnd m_keptPosts i_x0], [zAr T 0 m_all 3952 (upd (upd (upd f_all 4 0) 5 0) 6 (-1))], [zAr T 0 m_read 121 f_read]]) (As := [.int 2, .int 0, .int 2]) (rest := []) C G (c_m_isIn l T 2 0 2) (kS_RX12_111 C.2.2.2.2 (Nat.le_of_ble_eq_true rfl) (Nat.le_of_ble_eq_true rfl)) [] [] rfl rfl rfl rfl hl.1 dX12_text_35 (Nat.le_of_ble_eq_true rfl) (Nat.le_of_ble_eq_true rfl) (fun r_3 b1 H locs hw G => ?_)
  refine zAn2 hw ?_
  intro hbs9 hc_2
  clear hw
  subst hbs9
  have G : zS T A s.heap s [[zO11 mo m_all m_has (f_all 4) i_next i_where i_token i_number i_word i_wrong i_farCrossing m_read i_z0 i_crossings i_inns m_posts m_shut m_here i_steps i_done i_at i_gone m_was m_came m_seenAt m_rowWorth m_farBy m_used i_everywhere i_again0 i_d0 i_never i_firstCame i_longRun i_moved i_crowd i_l0 i_fitMany i_fitLeast i_fitMost m_fitPost m_fitEnd m_keptPosts i_x0], [zAr T 0 m_all 3952 (upd (upd (upd f_all 4 0) 5 0) 6 (-1))], [zAr T 0 m_read 121 f_read]] _ _ := G
  rcases hc_2 with ⟨rfl, h_4, h_5⟩ | ⟨rfl, h_6⟩
  · have h_4 : (0 : Int) ≤ (2 : Int) := h_4
    have h_5 : (2 : Int) ≤ (2 : Int) := h_5
    refine lv_if_eq (tgt := 68) hx hb dX12_text_38 (by decide) (fun q => absurd q (by decide)) (fun _ => ?_)
    rcases (Decidable.em (at_ = -1)) with hne | hne
    · obtain rfl : at_ = -1 := hne
      have hq1 : ((upd (upd (upd f_all 4 0) 5 0) 6 (-1)) 2).toInt = (f_all 2).toInt := rfl
      have hqf : 0 ≤ (f_all 2).toInt ∧ (f_all 2).toInt ≤ 2 := hB.2.1 2 (by decide)
      have hqF : 0 ≤ ((upd (upd (upd f_all 4 0) 5 0) 6 (-1)) 2).toInt ∧ ((upd (upd (upd f_all 4 0) 5 0) 6 (-1)) 2).toInt ≤ 2 := hqf
      have hai : ((-1) : Int32).toInt = -1 := rfl
      have hoi : zHd _ := pOkAt_y (s := 2) (at_ := (-1)) (G := f_all) hai
      refine lv_iload_n hx hb dX12_text_41 rfl (lv_at hl 2 rfl) ?_
      refine lv_iconst (v := (-1)) hx hb dX12_text_42 (by decide) ?_
      refine lv_icmp_ne (tgt := 59) hx hb dX12_text_43 (by decide) (fun q => absurd rfl q) (fun _ => ?_)
      refine lv_aload_n hx hb dX12_text_46 rfl (lv_at hl 0 rfl) ?_
      refine z_get C G clX12 0 rfl 0 (by decide) m_fl_RX12_7 rfl dX12_text_47 ?_
      refine lv_iload_n hx hb dX12_text_50 rfl (lv_at hl 1 rfl) ?_
      refine z_ild C G 1 rfl (vp_in_nI (n := 2) (by decide) (by decide)) dX12_text_51 ?_
      refine lv_topi (fun v_7 ev_7 => ?_)
      rw [show ((2 : Int32).toNatClampNeg) = 2 from rfl] at ev_7
      subst ev_7
      rw [show (upd (upd (upd f_all 4 0) 5 0) 6 (-1)) 2 = f_all 2 from rfl]
      refine lv_iconst (v := 2) hx hb dX12_text_52 (by decide) ?_
      refine lv_icmp_lt (tgt := 71) hx hb dX12_text_53 (by decide) (fun c_8 => ?_) (fun c_8 => ?_)
      · have c_8n : (f_all 2).toInt < (2 : Int) := (fa_lt _ _).mp c_8
        refine lv_aload_n hx hb dX12_text_71 rfl (lv_at hl 0 rfl) ?_
        refine lv_iconst (v := 0) hx hb dX12_text_72 (by decide) ?_
        refine z_put C G clX12 0 rfl 3 (by decide) m_fl_RX12_70 rfl rfl rfl (Nat.le_of_ble_eq_true rfl) dX12_text_73 (fun H locs G => ?_)
        have G : zS T A s.heap s [[zO11 mo m_all m_has (f_all 4) 0 i_where i_token i_number i_word i_wrong i_farCrossing m_read i_z0 i_crossings i_inns m_posts m_shut m_here i_steps i_done i_at i_gone m_was m_came m_seenAt m_rowWorth m_farBy m_used i_everywhere i_again0 i_d0 i_never i_firstCame i_longRun i_moved i_crowd i_l0 i_fitMany i_fitLeast i_fitMost m_fitPost m_fitEnd m_keptPosts i_x0], [zAr T 0 m_all 3952 (upd (upd (upd f_all 4 0) 5 0) 6 (-1))], [zAr T 0 m_read 121 f_read]] _ _ := G
        refine lv_aload_n hx hb dX12_text_76 rfl (lv_at hl 0 rfl) ?_
        refine lv_iconst (v := 0) hx hb dX12_text_77 (by decide) ?_
        refine z_put C G clX12 0 rfl 8 (by decide) m_fl_RX12_104 rfl rfl rfl (Nat.le_of_ble_eq_true rfl) dX12_text_78 (fun H locs G => ?_)
        have G : zS T A s.heap s [[zO11 mo m_all m_has (f_all 4) 0 i_where i_token i_number i_word 0 i_farCrossing m_read i_z0 i_crossings i_inns m_posts m_shut m_here i_steps i_done i_at i_gone m_was m_came m_seenAt m_rowWorth m_farBy m_used i_everywhere i_again0 i_d0 i_never i_firstCame i_longRun i_moved i_crowd i_l0 i_fitMany i_fitLeast i_fitMost m_fitPost m_fitEnd m_keptPosts i_x0], [zAr T 0 m_all 3952 (upd (upd (upd f_all 4 0) 5 0) 6 (-1))], [zAr T 0 m_read 121 f_read]] _ _ := G
        refine lv_aload_n hx hb dX12_text_81 rfl (lv_at hl 0 rfl) ?_
        refine lv_iconst (v := (-1)) hx hb dX12_text_82 (by decide) ?_
        refine z_put C G clX12 0 rfl 9 (by decide) m_fl_RX12_126 rfl rfl rfl (Nat.le_of_ble_eq_true rfl) dX12_text_83 (fun H locs G => ?_)
        have G : zS T A s.heap s [[zO11 mo m_all m_has (f_all 4) 0 i_where i_token i_number i_word 0 (-1) m_read i_z0 i_crossings i_inns m_posts m_shut m_here i_steps i_done i_at i_gone m_was m_came m_seenAt m_rowWorth m_farBy m_used i_everywhere i_again0 i_d0 i_never i_firstCame i_longRun i_moved i_crowd i_l0 i_fitMany i_fitLeast i_fitMost m_fitPost m_fitEnd m_keptPosts i_x0], [zAr T 0 m_all 3952 (upd (upd (upd f_all 4 0) 5 0) 6 (-1))], [zAr T 0 m_read 121 f_read]] _ _ := G
        refine zMt9 (T := T) 237 (fun (xn : Int32) (xw : Int32) (xt : Int32) (xu : Int32) (xo : Int32) (xr : Int32) (xf : Int32) (ga : Nat → Int32) (gr : Nat → Int32) => [[zO11 mo m_all m_has (f_all 4) xn xw xt xu xo xr xf m_read i_z0 i_crossings i_inns m_posts m_shut m_here i_steps i_done i_at i_gone m_was m_came m_seenAt m_rowWorth m_farBy m_used i_everywhere i_again0 i_d0 i_never i_firstCame i_longRun i_moved i_crowd i_l0 i_fitMany i_fitLeast i_fitMost m_fitPost m_fitEnd m_keptPosts i_x0], [zAr T 0 m_all 3952 ga], [zAr T 0 m_read 121 gr]]) (fun (xn : Int32) (xw : Int32) (xt : Int32) (xu : Int32) (xo : Int32) (xr : Int32) (xf : Int32) (ga : Nat → Int32) (gr : Nat → Int32) => [(0, .ref mo), (1, .int 2), (2, .int (-1))]) (fun (xn : Int32) (xw : Int32) (xt : Int32) (xu : Int32) (xo : Int32) (xr : Int32) (xf : Int32) (ga : Nat → Int32) (gr : Nat → Int32) => zCF 8 gr ∧ zPal (upd (upd (upd f_all 4 0) 5 0) 6 (-1)) ga ∧ zRr k N (f_all 4) xn xw xt xu xo xr xf ga (pRead k N 2).1 ∧ (pRead k N 2).2 = gr) G hl ?_ (fun jn_237 => ?_)
        · intro xn xw xt xu xo xr xf ga gr hI9 H locs ls G hl
          replace hI9 : zCF 8 gr ∧ zPal (upd (upd (upd f_all 4 0) 5 0) 6 (-1)) ga ∧ zRr k N (f_all 4) xn xw xt xu xo xr xf ga (pRead k N 2).1 ∧ (pRead k N 2).2 = gr := hI9
          refine zAn4 hI9 ?_
          intro hL hpal hZ1 hZ2
          clear hI9
          replace G : zS T A s.heap s [[zO11 mo m_all m_has (f_all 4) xn xw xt xu xo xr xf m_read i_z0 i_crossings i_inns m_posts m_shut m_here i_steps i_done i_at i_gone m_was m_came m_seenAt m_rowWorth m_farBy m_used i_everywhere i_again0 i_d0 i_never i_firstCame i_longRun i_moved i_crowd i_l0 i_fitMany i_fitLeast i_fitMost m_fitPost m_fitEnd m_keptPosts i_x0], [zAr T 0 m_all 3952 ga], [zAr T 0 m_read 121 gr]] _ _ := G
          replace hl : lv_has ls 5 [(0, .ref mo), (1, .int 2), (2, .int (-1))] := hl
          have hZ5 := hZ1.2.2.2.1
          have hZ6 := hZ1.2.2.2.2.1
          have hZ5i := congrArg Int32.toInt hZ5
          refine lv_aload_n hx hb dX12_text_237 rfl (lv_at hl 0 rfl) ?_
          refine z_get C G clX12 0 rfl 0 (by decide) m_fl_RX12_7 rfl dX12_text_238 ?_
          refine lv_iconst (v := 5) hx hb dX12_text_241 (by decide) ?_
          refine z_ild C G 1 rfl (vp_in_nI (n := 5) (by decide) (by decide)) dX12_text_242 ?_
          refine lv_topi (fun v_9 ev_9 => ?_)
          rw [show ((5 : Int32).toNatClampNeg) = 5 from rfl] at ev_9
          subst ev_9
          refine lv_if_eq (tgt := 248) hx hb dX12_text_243 (by decide) (fun c_10 => ?_) (fun c_10 => ?_)
          · have c_10n : (ga 5).toInt = (0 : Int) := (fa_eq _ _).mp c_10
            refine lv_iload_n hx hb dX12_text_248 rfl (lv_at hl 2 rfl) ?_
            refine lv_iconst (v := (-1)) hx hb dX12_text_249 (by decide) ?_
            refine lv_icmp_ne (tgt := 262) hx hb dX12_text_250 (by decide) (fun q => absurd rfl q) (fun _ => ?_)
            refine lv_aload_n hx hb dX12_text_253 rfl (lv_at hl 0 rfl) ?_
            refine z_get C G clX12 0 rfl 0 (by decide) m_fl_RX12_7 rfl dX12_text_254 ?_
            refine lv_iload_n hx hb dX12_text_257 rfl (lv_at hl 1 rfl) ?_
            refine z_ild C G 1 rfl (vp_in_nI (n := 2) (by decide) (by decide)) dX12_text_258 ?_
            refine lv_topi (fun v_11 ev_11 => ?_)
            rw [show ((2 : Int32).toNatClampNeg) = 2 from rfl] at ev_11
            subst ev_11
            refine lv_goto (tgt := 263) hx hb dX12_text_259 (by decide) ?_
            have hg0 : (ga 2).toInt = (f_all 2).toInt := congrArg Int32.toInt (hpal 2 (by decide) (by decide))
            rcases (show (ga 2).toInt = 0 ∨ (ga 2).toInt = 1 from by omega) with hk | hk
            · rw [show ga 2 = 0 from Int32.toInt_inj.mp hk]
              refine lv_istore_n (lv' := [(3, .int 0), (0, .ref mo), (1, .int 2), (2, .int (-1))]) hx hb dX12_text_263 rfl hl (by decide) (zLvf_h rfl) (fun ls hl => ?_)
              refine lv_iload_n hx hb dX12_text_264 rfl (lv_at hl 3 rfl) ?_
              refine lv_iconst (v := (-1)) hx hb dX12_text_265 (by decide) ?_
              refine lv_icmp_ne (tgt := 279) hx hb dX12_text_266 (by decide) (fun q => absurd rfl q) (fun _ => ?_)
              refine lv_aload_n hx hb dX12_text_269 rfl (lv_at hl 1 rfl) ?_
              refine z_get C G clX12 0 rfl 0 (by decide) m_fl_RX12_7 rfl dX12_text_270 ?_
              refine lv_iload_n hx hb dX12_text_273 rfl (lv_at hl 2 rfl) ?_
              refine lv_dup2_11 hx hb dX12_text_274 rfl rfl ?_
              refine z_ild C G 1 rfl (vp_in_nI (n := 2) (by decide) (by decide)) dX12_text_275 ?_
              refine lv_topi (fun v_12 ev_12 => ?_)
              rw [show ((2 : Int32).toNatClampNeg) = 2 from rfl] at ev_12
              subst ev_12
              refine lv_iconst (v := 1) hx hb dX12_text_276 (by decide) ?_
              refine lv_iadd hx hb dX12_text_277 ?_
              refine lv_topi (fun y_13 ey_13 => ?_)
              have ey_13i : y_13.toInt = (ga 2).toInt + (1 : Int) := by rw [ey_13]; exact z_iaddI (x := (ga 2)) (y := (1 : Int32)) (by show -2147483648 ≤ (ga 2).toInt + (1 : Int); omega) (by show (ga 2).toInt + (1 : Int) < 2147483648; omega)
              refine z_ist C G 1 rfl (vp_in_nI (n := 2) (by decide) (by decide)) dX12_text_278 (fun H locs G => ?_)
              have G : zS T A s.heap s [[zO11 mo m_all m_has (f_all 4) xn xw xt xu xo xr xf m_read i_z0 i_crossings i_inns m_posts m_shut m_here i_steps i_done i_at i_gone m_was m_came m_seenAt m_rowWorth m_farBy m_used i_everywhere i_again0 i_d0 i_never i_firstCame i_longRun i_moved i_crowd i_l0 i_fitMany i_fitLeast i_fitMost m_fitPost m_fitEnd m_keptPosts i_x0], [zAr T 0 m_all 3952 (upd ga 2 y_13)], [zAr T 0 m_read 121 gr]] _ _ := G
              refine lv_iconst (v := 0) hx hb dX12_text_279 (by decide) ?_
              refine lv_istore (lv' := [(4, .int 0), (3, .int 0), (0, .ref mo), (1, .int 2), (2, .int (-1))]) hx hb dX12_text_280 hl (by decide) (zLvf_h rfl) (fun ls hl => ?_)
              refine z_lp2 (T := T) 282 (fun (i : Nat) (x : Nat → Int32) => [[zO11 mo m_all m_has (f_all 4) xn xw xt xu xo xr xf m_read i_z0 i_crossings i_inns m_posts m_shut m_here i_steps i_done i_at i_gone m_was m_came m_seenAt m_rowWorth m_farBy m_used i_everywhere i_again0 i_d0 i_never i_firstCame i_longRun i_moved i_crowd i_l0 i_fitMany i_fitLeast i_fitMost m_fitPost m_fitEnd m_keptPosts i_x0], [zAr T 0 m_all 3952 x], [zAr T 0 m_read 121 gr]]) (fun (i : Nat) (x : Nat → Int32) => [(4, .int (nI i)), (3, .int 0), (0, .ref mo), (1, .int 2), (2, .int (-1))]) (fun (i : Nat) (x : Nat → Int32) => i ≤ 17 ∧ (∀ j, j < i → x (954 + j) = gr j) ∧ (∀ j, (j < 954 ∨ 971 ≤ j) → x j = (upd ga 2 y_13) j)) (fun (i : Nat) (x : Nat → Int32) => 17 - i) ?_ 0 (upd ga 2 y_13) (show 0 ≤ 17 ∧ (∀ j, j < 0 → (upd ga 2 y_13) (954 + j) = gr j) ∧ (∀ j, (j < 954 ∨ 971 ≤ j) → (upd ga 2 y_13) j = (upd ga 2 y_13) j) from ⟨by omega, fun j hj => absurd hj (by omega), fun j _ => rfl⟩) G (lv_sub hl [0, 1, 2, 3, 4] rfl)
              intro i x hI9 ih_282 H locs ls G hl
              replace hI9 : i ≤ 17 ∧ (∀ j, j < i → x (954 + j) = gr j) ∧ (∀ j, (j < 954 ∨ 971 ≤ j) → x j = (upd ga 2 y_13) j) := hI9
              refine zAn3 hI9 ?_
              intro hi hS hO
              clear hI9
              replace G : zS T A s.heap s [[zO11 mo m_all m_has (f_all 4) xn xw xt xu xo xr xf m_read i_z0 i_crossings i_inns m_posts m_shut m_here i_steps i_done i_at i_gone m_was m_came m_seenAt m_rowWorth m_farBy m_used i_everywhere i_again0 i_d0 i_never i_firstCame i_longRun i_moved i_crowd i_l0 i_fitMany i_fitLeast i_fitMost m_fitPost m_fitEnd m_keptPosts i_x0], [zAr T 0 m_all 3952 x], [zAr T 0 m_read 121 gr]] _ _ := G
              replace hl : lv_has ls 5 [(4, .int (nI i)), (3, .int 0), (0, .ref mo), (1, .int 2), (2, .int (-1))] := hl
              refine lv_iload hx hb dX12_text_282 (lv_at hl 0 rfl) ?_
              refine lv_iload_n hx hb dX12_text_284 rfl (lv_at hl 3 rfl) ?_
              refine z_Si (bc := []) (br := [[zO11 mo m_all m_has (f_all 4) xn xw xt xu xo xr xf m_read i_z0 i_crossings i_inns m_posts m_shut m_here i_steps i_done i_at i_gone m_was m_came m_seenAt m_rowWorth m_farBy m_used i_everywhere i_again0 i_d0 i_never i_firstCame i_longRun i_moved i_crowd i_l0 i_fitMany i_fitLeast i_fitMost m_fitPost m_fitEnd m_keptPosts i_x0], [zAr T 0 m_all 3952 x], [zAr T 0 m_read 121 gr]]) (As := [.int 2]) (rest := [.int (nI i)]) C G (c_m_sizeOf2 l T) (kS_RX12_160 C.2.2.2.2 (Nat.le_of_ble_eq_true rfl) (Nat.le_of_ble_eq_true rfl)) [] [] rfl rfl rfl rfl hl.1 dX12_text_285 (Nat.le_of_ble_eq_true rfl) (Nat.le_of_ble_eq_true rfl) (fun r_15 b1 H locs hw G => ?_)
              refine zAn2 hw ?_
              intro hbs9 h_14
              clear hw
              subst hbs9
              have G : zS T A s.heap s [[zO11 mo m_all m_has (f_all 4) xn xw xt xu xo xr xf m_read i_z0 i_crossings i_inns m_posts m_shut m_here i_steps i_done i_at i_gone m_was m_came m_seenAt m_rowWorth m_farBy m_used i_everywhere i_again0 i_d0 i_never i_firstCame i_longRun i_moved i_crowd i_l0 i_fitMany i_fitLeast i_fitMost m_fitPost m_fitEnd m_keptPosts i_x0], [zAr T 0 m_all 3952 x], [zAr T 0 m_read 121 gr]] _ _ := G
              subst h_14
              refine lv_icmp_ge (tgt := 317) hx hb dX12_text_288 (by decide) (fun c_16 => ?_) (fun c_16 => ?_)
              · have c_16n : 17 ≤ i := (nI_leI (a := 17) (b := i) (by omega) (by omega)).mp c_16
                refine lv_iload_n hx hb dX12_text_317 rfl (lv_at hl 1 rfl) ?_
                exact z_back hQz_ (z_iret C hr hlocks G (Nat.le_of_ble_eq_true rfl) (Nat.le_of_ble_eq_true rfl) dX12_text_318 ⟨(f_all 4), xn, xw, xt, xu, xo, xr, xf, x, gr, rfl, (zBI_p2 0 (by decide) hB ((hO 4 (by omega)).trans (hpal 4 (by decide) (by decide))) (fun q hq => by
    rw [hO q (by omega)]
    by_cases e9 : q = 2
    · rw [show upd _ 2 _ q = _ from if_pos e9]; omega
    · rw [show upd _ 2 _ q = _ from if_neg e9, show _ = f_all q from (hpal q (by omega) (by omega)).trans (hF q (by omega) (by omega) (by omega))]; exact hB.2.1 q hq) (fun j hj hj2 => (hO j (by omega)).trans ((show upd _ 2 _ j = _ from if_neg (by omega)).trans ((hpal j (by omega) (by omega)).trans (hF j (by omega) (by omega) (by omega))))) (by first | with_reducible assumption | assumption) (fun j hj => hS j (by omega))), ((hO 4 (by omega)).trans (hpal 4 (by decide) (by decide))), (fun j hj => (hO j (by omega)).trans ((show upd _ 2 _ j = _ from if_neg (by omega)).trans ((hpal j (by omega) (by omega)).trans (hF j (by omega) (by omega) (by omega))))), (zText_k (kk := 0) (A := upd ga 2 y_13) (g := ga) (hoi.mpr (by omega)) (by rw [← hZ5]; omega) ((pNr_y hai).trans (Int32.toInt_inj.mp (by show (f_all 2).toInt = 0; omega))).symm (by rw [pNr_y hai]; show (f_all 2).toInt = 0; omega) hpal hZ5 hZ6 (by rw [pCnt_y hai, ey_13]) (by rw [hZ2]; exact fun j hj => hS j (by have hj : j < 17 := hj; omega)) (fun j hj => hO j (by have hj : j < 954 ∨ 954 + 17 ≤ j := hj; omega)))⟩)
              · have c_16n : ¬ 17 ≤ i := fun q => c_16 ((nI_leI (a := 17) (b := i) (by omega) (by omega)).mpr q)
                refine lv_aload_n hx hb dX12_text_291 rfl (lv_at hl 2 rfl) ?_
                refine z_get C G clX12 0 rfl 0 (by decide) m_fl_RX12_7 rfl dX12_text_292 ?_
                refine lv_iload_n hx hb dX12_text_295 rfl (lv_at hl 3 rfl) ?_
                refine lv_iload_n hx hb dX12_text_296 rfl (lv_at hl 1 rfl) ?_
                refine z_Si (bc := []) (br := [[zO11 mo m_all m_has (f_all 4) xn xw xt xu xo xr xf m_read i_z0 i_crossings i_inns m_posts m_shut m_here i_steps i_done i_at i_gone m_was m_came m_seenAt m_rowWorth m_farBy m_used i_everywhere i_again0 i_d0 i_never i_firstCame i_longRun i_moved i_crowd i_l0 i_fitMany i_fitLeast i_fitMost m_fitPost m_fitEnd m_keptPosts i_x0], [zAr T 0 m_all 3952 x], [zAr T 0 m_read 121 gr]]) (As := [.int 2, .int 0]) (rest := [.ref m_all]) C G (c_m_placeOf20 l T) (kS_RX12_163 C.2.2.2.2 (Nat.le_of_ble_eq_true rfl) (Nat.le_of_ble_eq_true rfl)) [] [] rfl rfl rfl rfl hl.1 dX12_text_297 (Nat.le_of_ble_eq_true rfl) (Nat.le_of_ble_eq_true rfl) (fun r_18 b1 H locs hw G => ?_)
                refine zAn2 hw ?_
                intro hbs9 h_17
                clear hw
                subst hbs9
                have G : zS T A s.heap s [[zO11 mo m_all m_has (f_all 4) xn xw xt xu xo xr xf m_read i_z0 i_crossings i_inns m_posts m_shut m_here i_steps i_done i_at i_gone m_was m_came m_seenAt m_rowWorth m_farBy m_used i_everywhere i_again0 i_d0 i_never i_firstCame i_longRun i_moved i_crowd i_l0 i_fitMany i_fitLeast i_fitMost m_fitPost m_fitEnd m_keptPosts i_x0], [zAr T 0 m_all 3952 x], [zAr T 0 m_read 121 gr]] _ _ := G
                subst h_17
                refine lv_iload hx hb dX12_text_300 (lv_at hl 0 rfl) ?_
                refine lv_iadd hx hb dX12_text_302 ?_
                refine lv_topi (fun y_19 ey_19 => ?_)
                obtain rfl : y_19 = nI (954 + i) := ey_19.trans (z_iaddn 954 i rfl rfl)
                refine lv_aload_n hx hb dX12_text_303 rfl (lv_at hl 2 rfl) ?_
                refine z_get C G clX12 0 rfl 10 (by decide) m_fl_RX12_17 rfl dX12_text_304 ?_
                refine lv_iload hx hb dX12_text_307 (lv_at hl 0 rfl) ?_
                refine z_ild C G 2 rfl (vp_in_nI (by omega) (by decide)) dX12_text_309 ?_
                refine lv_topi (fun v_20 ev_20 => ?_)
                rw [nI_clamp (by omega)] at ev_20
                subst ev_20
                refine z_ist C G 1 rfl (vp_in_nI (by omega) (by decide)) dX12_text_310 (fun H locs G => ?_)
                rw [nI_clamp (by omega)] at G
                have G : zS T A s.heap s [[zO11 mo m_all m_has (f_all 4) xn xw xt xu xo xr xf m_read i_z0 i_crossings i_inns m_posts m_shut m_here i_steps i_done i_at i_gone m_was m_came m_seenAt m_rowWorth m_farBy m_used i_everywhere i_again0 i_d0 i_never i_firstCame i_longRun i_moved i_crowd i_l0 i_fitMany i_fitLeast i_fitMost m_fitPost m_fitEnd m_keptPosts i_x0], [zAr T 0 m_all 3952 (upd x (954 + i) (gr i))], [zAr T 0 m_read 121 gr]] _ _ := G
                refine lv_iinc (v := nI (i + 1)) (lv' := [(4, .int (nI (i + 1))), (3, .int 0), (0, .ref mo), (1, .int 2), (2, .int (-1))]) hx hb dX12_text_311 hl (k := 0) rfl (z_inc i 1) (by decide) (zLvf_h rfl) (fun ls hl => ?_)
                refine lv_goto (tgt := 282) hx hb dX12_text_314 (by decide) ?_
                exact ih_282 (i + 1) (upd x (954 + i) (gr i)) (show (i + 1) ≤ 17 ∧ (∀ j, j < (i + 1) → (upd x (954 + i) (gr i)) (954 + j) = gr j) ∧ (∀ j, (j < 954 ∨ 971 ≤ j) → (upd x (954 + i) (gr i)) j = (upd ga 2 y_13) j) from ⟨by omega, z_upS hS rfl, z_upO hO (by omega)⟩) (show 17 - (i + 1) < 17 - i from by omega) _ _ ls G (lv_sub hl [0, 1, 2, 3, 4] rfl)
            · rw [show ga 2 = 1 from Int32.toInt_inj.mp hk]
              refine lv_istore_n (lv' := [(3, .int 1), (0, .ref mo), (1, .int 2), (2, .int (-1))]) hx hb dX12_text_263 rfl hl (by decide) (zLvf_h rfl) (fun ls hl => ?_)
              refine lv_iload_n hx hb dX12_text_264 rfl (lv_at hl 3 rfl) ?_
              refine lv_iconst (v := (-1)) hx hb dX12_text_265 (by decide) ?_
              refine lv_icmp_ne (tgt := 279) hx hb dX12_text_266 (by decide) (fun q => absurd rfl q) (fun _ => ?_)
              refine lv_aload_n hx hb dX12_text_269 rfl (lv_at hl 1 rfl) ?_
              refine z_get C G clX12 0 rfl 0 (by decide) m_fl_RX12_7 rfl dX12_text_270 ?_
              refine lv_iload_n hx hb dX12_text_273 rfl (lv_at hl 2 rfl) ?_
              refine lv_dup2_11 hx hb dX12_text_274 rfl rfl ?_
              refine z_ild C G 1 rfl (vp_in_nI (n := 2) (by decide) (by decide)) dX12_text_275 ?_
              refine lv_topi (fun v_21 ev_21 => ?_)
              rw [show ((2 : Int32).toNatClampNeg) = 2 from rfl] at ev_21
              subst ev_21
              refine lv_iconst (v := 1) hx hb dX12_text_276 (by decide) ?_
              refine lv_iadd hx hb dX12_text_277 ?_
              refine lv_topi (fun y_22 ey_22 => ?_)
              have ey_22i : y_22.toInt = (ga 2).toInt + (1 : Int) := by rw [ey_22]; exact z_iaddI (x := (ga 2)) (y := (1 : Int32)) (by show -2147483648 ≤ (ga 2).toInt + (1 : Int); omega) (by show (ga 2).toInt + (1 : Int) < 2147483648; omega)
              refine z_ist C G 1 rfl (vp_in_nI (n := 2) (by decide) (by decide)) dX12_text_278 (fun H locs G => ?_)
              have G : zS T A s.heap s [[zO11 mo m_all m_has (f_all 4) xn xw xt xu xo xr xf m_read i_z0 i_crossings i_inns m_posts m_shut m_here i_steps i_done i_at i_gone m_was m_came m_seenAt m_rowWorth m_farBy m_used i_everywhere i_again0 i_d0 i_never i_firstCame i_longRun i_moved i_crowd i_l0 i_fitMany i_fitLeast i_fitMost m_fitPost m_fitEnd m_keptPosts i_x0], [zAr T 0 m_all 3952 (upd ga 2 y_22)], [zAr T 0 m_read 121 gr]] _ _ := G
              refine lv_iconst (v := 0) hx hb dX12_text_279 (by decide) ?_
              refine lv_istore (lv' := [(4, .int 0), (3, .int 1), (0, .ref mo), (1, .int 2), (2, .int (-1))]) hx hb dX12_text_280 hl (by decide) (zLvf_h rfl) (fun ls hl => ?_)
              refine z_lp2 (T := T) 282 (fun (i : Nat) (x : Nat → Int32) => [[zO11 mo m_all m_has (f_all 4) xn xw xt xu xo xr xf m_read i_z0 i_crossings i_inns m_posts m_shut m_here i_steps i_done i_at i_gone m_was m_came m_seenAt m_rowWorth m_farBy m_used i_everywhere i_again0 i_d0 i_never i_firstCame i_longRun i_moved i_crowd i_l0 i_fitMany i_fitLeast i_fitMost m_fitPost m_fitEnd m_keptPosts i_x0], [zAr T 0 m_all 3952 x], [zAr T 0 m_read 121 gr]]) (fun (i : Nat) (x : Nat → Int32) => [(4, .int (nI i)), (3, .int 1), (0, .ref mo), (1, .int 2), (2, .int (-1))]) (fun (i : Nat) (x : Nat → Int32) => i ≤ 17 ∧ (∀ j, j < i → x (971 + j) = gr j) ∧ (∀ j, (j < 971 ∨ 988 ≤ j) → x j = (upd ga 2 y_22) j)) (fun (i : Nat) (x : Nat → Int32) => 17 - i) ?_ 0 (upd ga 2 y_22) (show 0 ≤ 17 ∧ (∀ j, j < 0 → (upd ga 2 y_22) (971 + j) = gr j) ∧ (∀ j, (j < 971 ∨ 988 ≤ j) → (upd ga 2 y_22) j = (upd ga 2 y_22) j) from ⟨by omega, fun j hj => absurd hj (by omega), fun j _ => rfl⟩) G (lv_sub hl [0, 1, 2, 3, 4] rfl)
              intro i x hI9 ih_282 H locs ls G hl
              replace hI9 : i ≤ 17 ∧ (∀ j, j < i → x (971 + j) = gr j) ∧ (∀ j, (j < 971 ∨ 988 ≤ j) → x j = (upd ga 2 y_22) j) := hI9
              refine zAn3 hI9 ?_
              intro hi hS hO
              clear hI9
              replace G : zS T A s.heap s [[zO11 mo m_all m_has (f_all 4) xn xw xt xu xo xr xf m_read i_z0 i_crossings i_inns m_posts m_shut m_here i_steps i_done i_at i_gone m_was m_came m_seenAt m_rowWorth m_farBy m_used i_everywhere i_again0 i_d0 i_never i_firstCame i_longRun i_moved i_crowd i_l0 i_fitMany i_fitLeast i_fitMost m_fitPost m_fitEnd m_keptPosts i_x0], [zAr T 0 m_all 3952 x], [zAr T 0 m_read 121 gr]] _ _ := G
              replace hl : lv_has ls 5 [(4, .int (nI i)), (3, .int 1), (0, .ref mo), (1, .int 2), (2, .int (-1))] := hl
              refine lv_iload hx hb dX12_text_282 (lv_at hl 0 rfl) ?_
              refine lv_iload_n hx hb dX12_text_284 rfl (lv_at hl 3 rfl) ?_
              refine z_Si (bc := []) (br := [[zO11 mo m_all m_has (f_all 4) xn xw xt xu xo xr xf m_read i_z0 i_crossings i_inns m_posts m_shut m_here i_steps i_done i_at i_gone m_was m_came m_seenAt m_rowWorth m_farBy m_used i_everywhere i_again0 i_d0 i_never i_firstCame i_longRun i_moved i_crowd i_l0 i_fitMany i_fitLeast i_fitMost m_fitPost m_fitEnd m_keptPosts i_x0], [zAr T 0 m_all 3952 x], [zAr T 0 m_read 121 gr]]) (As := [.int 2]) (rest := [.int (nI i)]) C G (c_m_sizeOf2 l T) (kS_RX12_160 C.2.2.2.2 (Nat.le_of_ble_eq_true rfl) (Nat.le_of_ble_eq_true rfl)) [] [] rfl rfl rfl rfl hl.1 dX12_text_285 (Nat.le_of_ble_eq_true rfl) (Nat.le_of_ble_eq_true rfl) (fun r_24 b1 H locs hw G => ?_)
              refine zAn2 hw ?_
              intro hbs9 h_23
              clear hw
              subst hbs9
              have G : zS T A s.heap s [[zO11 mo m_all m_has (f_all 4) xn xw xt xu xo xr xf m_read i_z0 i_crossings i_inns m_posts m_shut m_here i_steps i_done i_at i_gone m_was m_came m_seenAt m_rowWorth m_farBy m_used i_everywhere i_again0 i_d0 i_never i_firstCame i_longRun i_moved i_crowd i_l0 i_fitMany i_fitLeast i_fitMost m_fitPost m_fitEnd m_keptPosts i_x0], [zAr T 0 m_all 3952 x], [zAr T 0 m_read 121 gr]] _ _ := G
              subst h_23
              refine lv_icmp_ge (tgt := 317) hx hb dX12_text_288 (by decide) (fun c_25 => ?_) (fun c_25 => ?_)
              · have c_25n : 17 ≤ i := (nI_leI (a := 17) (b := i) (by omega) (by omega)).mp c_25
                refine lv_iload_n hx hb dX12_text_317 rfl (lv_at hl 1 rfl) ?_
                exact z_back hQz_ (z_iret C hr hlocks G (Nat.le_of_ble_eq_true rfl) (Nat.le_of_ble_eq_true rfl) dX12_text_318 ⟨(f_all 4), xn, xw, xt, xu, xo, xr, xf, x, gr, rfl, (zBI_p2 1 (by decide) hB ((hO 4 (by omega)).trans (hpal 4 (by decide) (by decide))) (fun q hq => by
    rw [hO q (by omega)]
    by_cases e9 : q = 2
    · rw [show upd _ 2 _ q = _ from if_pos e9]; omega
    · rw [show upd _ 2 _ q = _ from if_neg e9, show _ = f_all q from (hpal q (by omega) (by omega)).trans (hF q (by omega) (by omega) (by omega))]; exact hB.2.1 q hq) (fun j hj hj2 => (hO j (by omega)).trans ((show upd _ 2 _ j = _ from if_neg (by omega)).trans ((hpal j (by omega) (by omega)).trans (hF j (by omega) (by omega) (by omega))))) (by first | with_reducible assumption | assumption) (fun j hj => hS j (by omega))), ((hO 4 (by omega)).trans (hpal 4 (by decide) (by decide))), (fun j hj => (hO j (by omega)).trans ((show upd _ 2 _ j = _ from if_neg (by omega)).trans ((hpal j (by omega) (by omega)).trans (hF j (by omega) (by omega) (by omega))))), (zText_k (kk := 1) (A := upd ga 2 y_22) (g := ga) (hoi.mpr (by omega)) (by rw [← hZ5]; omega) ((pNr_y hai).trans (Int32.toInt_inj.mp (by show (f_all 2).toInt = 1; omega))).symm (by rw [pNr_y hai]; show (f_all 2).toInt = 1; omega) hpal hZ5 hZ6 (by rw [pCnt_y hai, ey_22]) (by rw [hZ2]; exact fun j hj => hS j (by have hj : j < 17 := hj; omega)) (fun j hj => hO j (by have hj : j < 971 ∨ 971 + 17 ≤ j := hj; omega)))⟩)
              · have c_25n : ¬ 17 ≤ i := fun q => c_25 ((nI_leI (a := 17) (b := i) (by omega) (by omega)).mpr q)
                refine lv_aload_n hx hb dX12_text_291 rfl (lv_at hl 2 rfl) ?_
                refine z_get C G clX12 0 rfl 0 (by decide) m_fl_RX12_7 rfl dX12_text_292 ?_
                refine lv_iload_n hx hb dX12_text_295 rfl (lv_at hl 3 rfl) ?_
                refine lv_iload_n hx hb dX12_text_296 rfl (lv_at hl 1 rfl) ?_
                refine z_Si (bc := []) (br := [[zO11 mo m_all m_has (f_all 4) xn xw xt xu xo xr xf m_read i_z0 i_crossings i_inns m_posts m_shut m_here i_steps i_done i_at i_gone m_was m_came m_seenAt m_rowWorth m_farBy m_used i_everywhere i_again0 i_d0 i_never i_firstCame i_longRun i_moved i_crowd i_l0 i_fitMany i_fitLeast i_fitMost m_fitPost m_fitEnd m_keptPosts i_x0], [zAr T 0 m_all 3952 x], [zAr T 0 m_read 121 gr]]) (As := [.int 2, .int 1]) (rest := [.ref m_all]) C G (c_m_placeOf21 l T) (kS_RX12_163 C.2.2.2.2 (Nat.le_of_ble_eq_true rfl) (Nat.le_of_ble_eq_true rfl)) [] [] rfl rfl rfl rfl hl.1 dX12_text_297 (Nat.le_of_ble_eq_true rfl) (Nat.le_of_ble_eq_true rfl) (fun r_27 b1 H locs hw G => ?_)
                refine zAn2 hw ?_
                intro hbs9 h_26
                clear hw
                subst hbs9
                have G : zS T A s.heap s [[zO11 mo m_all m_has (f_all 4) xn xw xt xu xo xr xf m_read i_z0 i_crossings i_inns m_posts m_shut m_here i_steps i_done i_at i_gone m_was m_came m_seenAt m_rowWorth m_farBy m_used i_everywhere i_again0 i_d0 i_never i_firstCame i_longRun i_moved i_crowd i_l0 i_fitMany i_fitLeast i_fitMost m_fitPost m_fitEnd m_keptPosts i_x0], [zAr T 0 m_all 3952 x], [zAr T 0 m_read 121 gr]] _ _ := G
                subst h_26
                refine lv_iload hx hb dX12_text_300 (lv_at hl 0 rfl) ?_
                refine lv_iadd hx hb dX12_text_302 ?_
                refine lv_topi (fun y_28 ey_28 => ?_)
                obtain rfl : y_28 = nI (971 + i) := ey_28.trans (z_iaddn 971 i rfl rfl)
                refine lv_aload_n hx hb dX12_text_303 rfl (lv_at hl 2 rfl) ?_
                refine z_get C G clX12 0 rfl 10 (by decide) m_fl_RX12_17 rfl dX12_text_304 ?_
                refine lv_iload hx hb dX12_text_307 (lv_at hl 0 rfl) ?_
                refine z_ild C G 2 rfl (vp_in_nI (by omega) (by decide)) dX12_text_309 ?_
                refine lv_topi (fun v_29 ev_29 => ?_)
                rw [nI_clamp (by omega)] at ev_29
                subst ev_29
                refine z_ist C G 1 rfl (vp_in_nI (by omega) (by decide)) dX12_text_310 (fun H locs G => ?_)
                rw [nI_clamp (by omega)] at G
                have G : zS T A s.heap s [[zO11 mo m_all m_has (f_all 4) xn xw xt xu xo xr xf m_read i_z0 i_crossings i_inns m_posts m_shut m_here i_steps i_done i_at i_gone m_was m_came m_seenAt m_rowWorth m_farBy m_used i_everywhere i_again0 i_d0 i_never i_firstCame i_longRun i_moved i_crowd i_l0 i_fitMany i_fitLeast i_fitMost m_fitPost m_fitEnd m_keptPosts i_x0], [zAr T 0 m_all 3952 (upd x (971 + i) (gr i))], [zAr T 0 m_read 121 gr]] _ _ := G
                refine lv_iinc (v := nI (i + 1)) (lv' := [(4, .int (nI (i + 1))), (3, .int 1), (0, .ref mo), (1, .int 2), (2, .int (-1))]) hx hb dX12_text_311 hl (k := 0) rfl (z_inc i 1) (by decide) (zLvf_h rfl) (fun ls hl => ?_)
                refine lv_goto (tgt := 282) hx hb dX12_text_314 (by decide) ?_
                exact ih_282 (i + 1) (upd x (971 + i) (gr i)) (show (i + 1) ≤ 17 ∧ (∀ j, j < (i + 1) → (upd x (971 + i) (gr i)) (971 + j) = gr j) ∧ (∀ j, (j < 971 ∨ 988 ≤ j) → (upd x (971 + i) (gr i)) j = (upd ga 2 y_22) j) from ⟨by omega, z_upS hS rfl, z_upO hO (by omega)⟩) (show 17 - (i + 1) < 17 - i from by omega) _ _ ls G (lv_sub hl [0, 1, 2, 3, 4] rfl)
          · have c_10n : ¬ (ga 5).toInt = (0 : Int) := fun q => c_10 ((fa_eq _ _).mpr q)
            refine lv_iconst (v := (-1)) hx hb dX12_text_246 (by decide) ?_
            exact z_back hQz_ (z_iret C hr hlocks G (Nat.le_of_ble_eq_true rfl) (Nat.le_of_ble_eq_true rfl) dX12_text_247 ⟨(f_all 4), xn, xw, xt, xu, xo, xr, xf, ga, gr, rfl, (zBI_hd hB (hpal 4 (by decide) (by decide)) (fun q hq => by rw [show _ = f_all q from (hpal q (by omega) (by omega)).trans (hF q (by omega) (by omega) (by omega))]; exact hB.2.1 q hq) (fun j hj => (hpal j (by omega) (by omega)).trans (hF j (by omega) (by omega) (by omega)))), (hpal 4 (by decide) (by decide)), (fun j hj => (hpal j (by omega) (by omega)).trans (hF j (by omega) (by omega) (by omega))), (zText_f (hoi.mpr (by omega)) (by rw [← hZ5]; omega) hpal hZ5 hZ6)⟩)
        refine lv_iconst (v := 0) hx hb dX12_text_86 (by decide) ?_
        refine lv_istore_n (lv' := [(3, .int 0), (0, .ref mo), (1, .int 2), (2, .int (-1))]) hx hb dX12_text_87 rfl hl (by decide) (zLvf_h rfl) (fun ls hl => ?_)
        refine z_lp2 (T := T) 88 (fun (k_ : Nat) (z : Nat → Int32) => [[zO11 mo m_all m_has (f_all 4) 0 i_where i_token i_number i_word 0 (-1) m_read i_z0 i_crossings i_inns m_posts m_shut m_here i_steps i_done i_at i_gone m_was m_came m_seenAt m_rowWorth m_farBy m_used i_everywhere i_again0 i_d0 i_never i_firstCame i_longRun i_moved i_crowd i_l0 i_fitMany i_fitLeast i_fitMost m_fitPost m_fitEnd m_keptPosts i_x0], [zAr T 0 m_all 3952 (upd (upd (upd f_all 4 0) 5 0) 6 (-1))], [zAr T 0 m_read 121 z]]) (fun (k_ : Nat) (z : Nat → Int32) => [(3, .int (nI k_)), (0, .ref mo), (1, .int 2), (2, .int (-1))]) (fun (k_ : Nat) (z : Nat → Int32) => k_ ≤ 121 ∧ (∀ j, j < k_ → z j = 0)) (fun (k_ : Nat) (z : Nat → Int32) => 121 - k_) ?_ 0 f_read (show 0 ≤ 121 ∧ (∀ j, j < 0 → f_read j = 0) from ⟨by omega, fun j hj => absurd hj (by omega)⟩) G (lv_sub hl [0, 1, 2, 3] rfl)
        intro k_ z hI9 ih_88 H locs ls G hl
        replace hI9 : k_ ≤ 121 ∧ (∀ j, j < k_ → z j = 0) := hI9
        refine zAn2 hI9 ?_
        intro hk_ hZ
        clear hI9
        replace G : zS T A s.heap s [[zO11 mo m_all m_has (f_all 4) 0 i_where i_token i_number i_word 0 (-1) m_read i_z0 i_crossings i_inns m_posts m_shut m_here i_steps i_done i_at i_gone m_was m_came m_seenAt m_rowWorth m_farBy m_used i_everywhere i_again0 i_d0 i_never i_firstCame i_longRun i_moved i_crowd i_l0 i_fitMany i_fitLeast i_fitMost m_fitPost m_fitEnd m_keptPosts i_x0], [zAr T 0 m_all 3952 (upd (upd (upd f_all 4 0) 5 0) 6 (-1))], [zAr T 0 m_read 121 z]] _ _ := G
        replace hl : lv_has ls 5 [(3, .int (nI k_)), (0, .ref mo), (1, .int 2), (2, .int (-1))] := hl
        refine lv_iload_n hx hb dX12_text_88 rfl (lv_at hl 0 rfl) ?_
        refine lv_bipush (v := 121) hx hb dX12_text_89 (by decide) ?_
        refine lv_icmp_ge (tgt := 107) hx hb dX12_text_91 (by decide) (fun c_30 => ?_) (fun c_30 => ?_)
        · have c_30n : 121 ≤ k_ := (nI_leI (a := 121) (b := k_) (by omega) (by omega)).mp c_30
          have G := z_cg G 2 rfl (fun _ => 0) (fun j hj => hZ j (by omega))
          have G : zS T A s.heap s [[zO11 mo m_all m_has (f_all 4) 0 i_where i_token i_number i_word 0 (-1) m_read i_z0 i_crossings i_inns m_posts m_shut m_here i_steps i_done i_at i_gone m_was m_came m_seenAt m_rowWorth m_farBy m_used i_everywhere i_again0 i_d0 i_never i_firstCame i_longRun i_moved i_crowd i_l0 i_fitMany i_fitLeast i_fitMost m_fitPost m_fitEnd m_keptPosts i_x0], [zAr T 0 m_all 3952 (upd (upd (upd f_all 4 0) 5 0) 6 (-1))], [zAr T 0 m_read 121 (fun _ => 0)]] _ _ := G
          refine lv_aload_n hx hb dX12_text_107 rfl (lv_at hl 1 rfl) ?_
          refine z_Vv (bc := [[zO11 mo m_all m_has (f_all 4) 0 i_where i_token i_number i_word 0 (-1) m_read i_z0 i_crossings i_inns m_posts m_shut m_here i_steps i_done i_at i_gone m_was m_came m_seenAt m_rowWorth m_farBy m_used i_everywhere i_again0 i_d0 i_never i_firstCame i_longRun i_moved i_crowd i_l0 i_fitMany i_fitLeast i_fitMost m_fitPost m_fitEnd m_keptPosts i_x0], [zAr T 0 m_all 3952 (upd (upd (upd f_all 4 0) 5 0) 6 (-1))]]) (br := [[zAr T 0 m_read 121 (fun _ => 0)]]) (As := []) (rest := []) C G (c_fm_advance l T mo m_all m_has (f_all 4) 0 i_where i_token i_number i_word 0 (-1) m_read i_z0 i_crossings i_inns m_posts m_shut m_here i_steps i_done i_at i_gone m_was m_came m_seenAt m_rowWorth m_farBy m_used i_everywhere i_again0 i_d0 i_never i_firstCame i_longRun i_moved i_crowd i_l0 i_fitMany i_fitLeast i_fitMost m_fitPost m_fitEnd m_keptPosts i_x0 (upd (upd (upd f_all 4 0) 5 0) 6 (-1)) 0 N k hsN rfl (Nat.zero_le _) hN6 (hk.trans (congrArg (fun q9 => tkT q9 N) (funext fun j => ((z_ne (by omega)).trans ((z_ne (by omega)).trans (z_ne (by omega)))).symm))) (fun j hj => by rw [z_ne (by omega), z_ne (by omega), z_ne (by omega)]; exact hby j hj)) (kV_RX12_119 C.2.2.2.2 (Nat.le_of_ble_eq_true rfl) (Nat.le_of_ble_eq_true rfl)) [0, 1] [0, 0] rfl rfl (ci := 11) (qc := (RX12, TX12, 43)) rfl rfl (List.mem_flatten.mpr ⟨_, List.mem_of_getElem? (i := 0) rfl, List.mem_cons_self⟩) rfl rfl hl.1 dX12_text_108 (Nat.le_of_ble_eq_true rfl) (Nat.le_of_ble_eq_true rfl) (fun b1 H locs hw G => ?_)
          refine zEx5 hw ?_
          intro j_next_31 j_where_32 j_token_33 j_number_34 j_word_35
          refine zCu8 ?_
          intro hbs9 h_36 h_37 h_38 h_39 h_40 h_41 h_42
          clear hw
          subst hbs9
          have G : zS T A s.heap s [[zAr T 0 m_read 121 (fun _ => 0)], [zO11 mo m_all m_has (f_all 4) j_next_31 j_where_32 j_token_33 j_number_34 j_word_35 0 (-1) m_read i_z0 i_crossings i_inns m_posts m_shut m_here i_steps i_done i_at i_gone m_was m_came m_seenAt m_rowWorth m_farBy m_used i_everywhere i_again0 i_d0 i_never i_firstCame i_longRun i_moved i_crowd i_l0 i_fitMany i_fitLeast i_fitMost m_fitPost m_fitEnd m_keptPosts i_x0], [zAr T 0 m_all 3952 (upd (upd (upd f_all 4 0) 5 0) 6 (-1))]] _ _ := G
          have h_38 : (0 : Int) ≤ j_next_31.toInt := h_38
          have h_39 : (j_token_33.toInt = 0 ∨ (0 : Int) < j_next_31.toInt) := h_39
          refine z_lp11 (T := T) 111 (fun (xn : Int32) (xw : Int32) (xt : Int32) (xu : Int32) (xo : Int32) (xr : Int32) (xf : Int32) (ga : Nat → Int32) (gr : Nat → Int32) (A9 : pS) (j : Nat) => [[zAr T 0 m_read 121 gr], [zO11 mo m_all m_has (f_all 4) xn xw xt xu xo xr xf m_read i_z0 i_crossings i_inns m_posts m_shut m_here i_steps i_done i_at i_gone m_was m_came m_seenAt m_rowWorth m_farBy m_used i_everywhere i_again0 i_d0 i_never i_firstCame i_longRun i_moved i_crowd i_l0 i_fitMany i_fitLeast i_fitMost m_fitPost m_fitEnd m_keptPosts i_x0], [zAr T 0 m_all 3952 ga]]) (fun (xn : Int32) (xw : Int32) (xt : Int32) (xu : Int32) (xo : Int32) (xr : Int32) (xf : Int32) (ga : Nat → Int32) (gr : Nat → Int32) (A9 : pS) (j : Nat) => [(0, .ref mo), (1, .int 2), (2, .int (-1))]) (fun (xn : Int32) (xw : Int32) (xt : Int32) (xu : Int32) (xo : Int32) (xr : Int32) (xf : Int32) (ga : Nat → Int32) (gr : Nat → Int32) (A9 : pS) (j : Nat) => zCF 8 gr ∧ 0 ≤ xn.toInt ∧ xn.toInt ≤ (f_all 4).toInt ∧ zPal (upd (upd (upd f_all 4 0) 5 0) 6 (-1)) ga ∧ zRr k N (f_all 4) xn xw xt xu xo xr xf ga A9 ∧ pLines k 2 (601 - j) A9 gr = pLines k 2 601 (0, 0, 0, -1, -1) (fun _ => 0) ∧ (¬ xr.toInt = 0 ∨ xt.toInt = 0 ∨ (j : Int) < xn.toInt)) (fun (xn : Int32) (xw : Int32) (xt : Int32) (xu : Int32) (xo : Int32) (xr : Int32) (xf : Int32) (ga : Nat → Int32) (gr : Nat → Int32) (A9 : pS) (j : Nat) => zMu xr xt xn (f_all 4)) ?_ j_next_31 j_where_32 j_token_33 j_number_34 j_word_35 0 (-1) (upd (upd (upd f_all 4 0) 5 0) 6 (-1)) (fun _ => 0) (0, 0, 0, -1, -1) 0 (show zCF 8 (fun _ => 0) ∧ 0 ≤ j_next_31.toInt ∧ j_next_31.toInt ≤ (f_all 4).toInt ∧ zPal (upd (upd (upd f_all 4 0) 5 0) 6 (-1)) (upd (upd (upd f_all 4 0) 5 0) 6 (-1)) ∧ zRr k N (f_all 4) j_next_31 j_where_32 j_token_33 j_number_34 j_word_35 0 (-1) (upd (upd (upd f_all 4 0) 5 0) 6 (-1)) (0, 0, 0, -1, -1) ∧ pLines k 2 (601 - 0) (0, 0, 0, -1, -1) (fun _ => 0) = pLines k 2 601 (0, 0, 0, -1, -1) (fun _ => 0) ∧ (¬ (0 : Int32).toInt = 0 ∨ j_token_33.toInt = 0 ∨ (0 : Int) < j_next_31.toInt) from ⟨(zCF_z (by decide) (fun j hj => rfl)), by omega, by omega, (zPal_rf _), (zRr_st hk hby hN6 hsN h_42), rfl, by omega⟩) G (lv_sub hl [1, 2, 3] rfl)
          intro xn xw xt xu xo xr xf ga gr A9 j hI9 ih_111 H locs ls G hl
          replace hI9 : zCF 8 gr ∧ 0 ≤ xn.toInt ∧ xn.toInt ≤ (f_all 4).toInt ∧ zPal (upd (upd (upd f_all 4 0) 5 0) 6 (-1)) ga ∧ zRr k N (f_all 4) xn xw xt xu xo xr xf ga A9 ∧ pLines k 2 (601 - j) A9 gr = pLines k 2 601 (0, 0, 0, -1, -1) (fun _ => 0) ∧ (¬ xr.toInt = 0 ∨ xt.toInt = 0 ∨ (j : Int) < xn.toInt) := hI9
          refine zAn7 hI9 ?_
          intro hL hx1 hx2 hpal hRA hEq hpj
          clear hI9
          replace G : zS T A s.heap s [[zAr T 0 m_read 121 gr], [zO11 mo m_all m_has (f_all 4) xn xw xt xu xo xr xf m_read i_z0 i_crossings i_inns m_posts m_shut m_here i_steps i_done i_at i_gone m_was m_came m_seenAt m_rowWorth m_farBy m_used i_everywhere i_again0 i_d0 i_never i_firstCame i_longRun i_moved i_crowd i_l0 i_fitMany i_fitLeast i_fitMost m_fitPost m_fitEnd m_keptPosts i_x0], [zAr T 0 m_all 3952 ga]] _ _ := G
          replace hl : lv_has ls 5 [(0, .ref mo), (1, .int 2), (2, .int (-1))] := hl
          refine lv_aload_n hx hb dX12_text_111 rfl (lv_at hl 0 rfl) ?_
          have hokA := zRr_ok hRA
          refine zAn6 (id hRA) ?_
          intro hA1A hA6A hA7A hA8A hA9A hA10A
          replace hA7A : zHd _ := hA7A
          have hkaA : zHd _ := hokA A9.1 hA1A.2.2.2.2
          have hkbA := hkaA.1
          have hkcA := hkaA.2.1
          have hT4A := pTk_le hokA hA1A.2.2.2.2
          refine z_get C G clX12 1 rfl 8 (by decide) m_fl_RX12_104 rfl dX12_text_112 ?_
          refine lv_if_ne (tgt := 173) hx hb dX12_text_115 (by decide) (fun c_44 => ?_) (fun c_44 => ?_)
          · have c_44n : ¬ xr.toInt = (0 : Int) := fun q => c_44 ((fa_eq _ _).mpr q)
            have hX := hEq.symm.trans (pLines_x (fun z9 => by first | (exact absurd z9.1 (by rw [← hA6A]; omega)) | (exact z9.2 (by omega))))
            have hRd := pRead_e (n := N) hX
            have hww : zHd (A9.2.1.toInt = 0 → xw = nI N) := fun z9 => by first | (exact absurd z9 (by rw [← hA6A]; omega)) | (rw [t2A, hkaA.2.2.1 (pTk_0.mp (by omega))])
            refine lv_iload_n hx hb dX12_text_173 rfl (lv_at hl 1 rfl) ?_
            refine lv_if_ne (tgt := 208) hx hb dX12_text_174 (by decide) (fun _ => ?_) (fun q => absurd q (by decide))
            refine lv_iload_n hx hb dX12_text_208 rfl (lv_at hl 1 rfl) ?_
            refine lv_if_ne (tgt := 237) hx hb dX12_text_209 (by decide) (fun _ => ?_) (fun q => absurd q (by decide))
            have hZ1 : zRr k N (f_all 4) xn xw xt xu xo xr xf ga (pRead k N 2).1 := by rw [hRd, pFin_s (by decide)]; exact hRA
            have hZ2 : (pRead k N 2).2 = gr := by rw [hRd, pFin_s (by decide)]
            have hZ5 := hZ1.2.2.2.1
            have hZ6 := hZ1.2.2.2.2.1
            have hZ5i := congrArg Int32.toInt hZ5
            have G := G.sub (bs' := [[zO11 mo m_all m_has (f_all 4) xn xw xt xu xo xr xf m_read i_z0 i_crossings i_inns m_posts m_shut m_here i_steps i_done i_at i_gone m_was m_came m_seenAt m_rowWorth m_farBy m_used i_everywhere i_again0 i_d0 i_never i_firstCame i_longRun i_moved i_crowd i_l0 i_fitMany i_fitLeast i_fitMost m_fitPost m_fitEnd m_keptPosts i_x0], [zAr T 0 m_all 3952 ga], [zAr T 0 m_read 121 gr]]) [1, 2, 0] rfl
            exact jn_237 xn xw xt xu xo xr xf ga gr (show zCF 8 gr ∧ zPal (upd (upd (upd f_all 4 0) 5 0) 6 (-1)) ga ∧ zRr k N (f_all 4) xn xw xt xu xo xr xf ga (pRead k N 2).1 ∧ (pRead k N 2).2 = gr from ⟨(by first | with_reducible assumption | assumption), hpal, hZ1, hZ2⟩) _ _ ls G (lv_sub hl [0, 1, 2] rfl)
          · have c_44n : xr.toInt = (0 : Int) := (fa_eq _ _).mp c_44
            have hwA : A9.2.1.toInt = 0 := by rw [← hA6A]; omega
            refine zAn5 (hA7A hwA) ?_
            intro t1A t2A t3A t4A t5A
            replace t4A : zHd _ := t4A
            replace t5A : zHd _ := t5A
            have t3iA : xt.toInt = (pTk k A9.1 : Int) := by rw [t3A]; exact nI_toInt (by omega)
            refine lv_aload_n hx hb dX12_text_118 rfl (lv_at hl 0 rfl) ?_
            refine z_get C G clX12 1 rfl 5 (by decide) m_fl_RX12_80 rfl dX12_text_119 ?_
            refine lv_if_eq (tgt := 173) hx hb dX12_text_122 (by decide) (fun c_45 => ?_) (fun c_45 => ?_)
            · have c_45n : xt.toInt = (0 : Int) := (fa_eq _ _).mp c_45
              have hX := hEq.symm.trans (pLines_x (fun z9 => by first | (exact absurd z9.1 (by rw [← hA6A]; omega)) | (exact z9.2 (by omega))))
              have hRd := pRead_e (n := N) hX
              have hww : zHd (A9.2.1.toInt = 0 → xw = nI N) := fun z9 => by first | (exact absurd z9 (by rw [← hA6A]; omega)) | (rw [t2A, hkaA.2.2.1 (pTk_0.mp (by omega))])
              refine lv_iload_n hx hb dX12_text_173 rfl (lv_at hl 1 rfl) ?_
              refine lv_if_ne (tgt := 208) hx hb dX12_text_174 (by decide) (fun _ => ?_) (fun q => absurd q (by decide))
              refine lv_iload_n hx hb dX12_text_208 rfl (lv_at hl 1 rfl) ?_
              refine lv_if_ne (tgt := 237) hx hb dX12_text_209 (by decide) (fun _ => ?_) (fun q => absurd q (by decide))
              have hZ1 : zRr k N (f_all 4) xn xw xt xu xo xr xf ga (pRead k N 2).1 := by rw [hRd, pFin_s (by decide)]; exact hRA
              have hZ2 : (pRead k N 2).2 = gr := by rw [hRd, pFin_s (by decide)]
              have hZ5 := hZ1.2.2.2.1
              have hZ6 := hZ1.2.2.2.2.1
              have hZ5i := congrArg Int32.toInt hZ5
              have G := G.sub (bs' := [[zO11 mo m_all m_has (f_all 4) xn xw xt xu xo xr xf m_read i_z0 i_crossings i_inns m_posts m_shut m_here i_steps i_done i_at i_gone m_was m_came m_seenAt m_rowWorth m_farBy m_used i_everywhere i_again0 i_d0 i_never i_firstCame i_longRun i_moved i_crowd i_l0 i_fitMany i_fitLeast i_fitMost m_fitPost m_fitEnd m_keptPosts i_x0], [zAr T 0 m_all 3952 ga], [zAr T 0 m_read 121 gr]]) [1, 2, 0] rfl
              exact jn_237 xn xw xt xu xo xr xf ga gr (show zCF 8 gr ∧ zPal (upd (upd (upd f_all 4 0) 5 0) 6 (-1)) ga ∧ zRr k N (f_all 4) xn xw xt xu xo xr xf ga (pRead k N 2).1 ∧ (pRead k N 2).2 = gr from ⟨(by first | with_reducible assumption | assumption), hpal, hZ1, hZ2⟩) _ _ ls G (lv_sub hl [0, 1, 2] rfl)
            · have c_45n : ¬ xt.toInt = (0 : Int) := fun q => c_45 ((fa_eq _ _).mpr q)
              have htA : ¬ pTk k A9.1 = 0 := by omega
              refine lv_iload_n hx hb dX12_text_125 rfl (lv_at hl 1 rfl) ?_
              refine lv_lookup (tgt := 166) hx hb dX12_text_126 (by decide) rfl (by decide) ?_
              refine lv_aload_n hx hb dX12_text_166 rfl (lv_at hl 0 rfl) ?_
              refine z_Vv (bc := [[zO11 mo m_all m_has (f_all 4) xn xw xt xu xo xr xf m_read i_z0 i_crossings i_inns m_posts m_shut m_here i_steps i_done i_at i_gone m_was m_came m_seenAt m_rowWorth m_farBy m_used i_everywhere i_again0 i_d0 i_never i_firstCame i_longRun i_moved i_crowd i_l0 i_fitMany i_fitLeast i_fitMost m_fitPost m_fitEnd m_keptPosts i_x0], [zAr T 0 m_all 3952 ga], [zAr T 0 m_read 121 gr]]) (br := []) (As := []) (rest := []) C G (c_fm_logLine l T mo m_all m_has (f_all 4) xn xw xt xu xo xr xf m_read i_z0 i_crossings i_inns m_posts m_shut m_here i_steps i_done i_at i_gone m_was m_came m_seenAt m_rowWorth m_farBy m_used i_everywhere i_again0 i_d0 i_never i_firstCame i_longRun i_moved i_crowd i_l0 i_fitMany i_fitLeast i_fitMost m_fitPost m_fitEnd m_keptPosts i_x0 ga gr k N A9 (by first | with_reducible assumption | with_reducible rfl | omega | assumption | rfl) (by first | with_reducible assumption | with_reducible rfl | omega | assumption | rfl) (by first | with_reducible assumption | with_reducible rfl | omega | assumption | rfl) (by first | with_reducible assumption | with_reducible rfl | omega | assumption | rfl) hRA hwA) (kV_RX12_153 C.2.2.2.2 (Nat.le_of_ble_eq_true rfl) (Nat.le_of_ble_eq_true rfl)) [1, 2, 0] [0, 0, 0] rfl rfl (ci := 11) (qc := (RX12, TX12, 43)) rfl rfl (List.mem_flatten.mpr ⟨_, List.mem_of_getElem? (i := 0) rfl, List.mem_cons_self⟩) rfl rfl hl.1 dX12_text_167 (Nat.le_of_ble_eq_true rfl) (Nat.le_of_ble_eq_true rfl) (fun b1 H locs hw G => ?_)
              refine zEx8 hw ?_
              intro j_next_46 j_where_47 j_token_48 j_number_49 j_word_50 j_wrong_51 g_all_52 g_read_53
              refine zCu9 ?_
              intro hbs9 h_54 h_55 h_56 h_57 h_58 h_59 h_60 h_61
              clear hw
              subst hbs9
              have G : zS T A s.heap s [[zO11 mo m_all m_has (f_all 4) j_next_46 j_where_47 j_token_48 j_number_49 j_word_50 j_wrong_51 xf m_read i_z0 i_crossings i_inns m_posts m_shut m_here i_steps i_done i_at i_gone m_was m_came m_seenAt m_rowWorth m_farBy m_used i_everywhere i_again0 i_d0 i_never i_firstCame i_longRun i_moved i_crowd i_l0 i_fitMany i_fitLeast i_fitMost m_fitPost m_fitEnd m_keptPosts i_x0], [zAr T 0 m_all 3952 g_all_52], [zAr T 0 m_read 121 g_read_53]] _ _ := G
              have hnR : zRr k N (f_all 4) j_next_46 j_where_47 j_token_48 j_number_49 j_word_50 j_wrong_51 xf g_all_52 (pLine k 2 A9 gr).1 := by rw [pLine_2]; exact h_60
              have hnG : g_read_53 = (pLine k 2 A9 gr).2 := by rw [pLine_2]; exact h_61
              refine lv_goto (tgt := 111) hx hb dX12_text_170 (by decide) ?_
              have G := G.sub (bs' := [[zAr T 0 m_read 121 g_read_53], [zO11 mo m_all m_has (f_all 4) j_next_46 j_where_47 j_token_48 j_number_49 j_word_50 j_wrong_51 xf m_read i_z0 i_crossings i_inns m_posts m_shut m_here i_steps i_done i_at i_gone m_was m_came m_seenAt m_rowWorth m_farBy m_used i_everywhere i_again0 i_d0 i_never i_firstCame i_longRun i_moved i_crowd i_l0 i_fitMany i_fitLeast i_fitMost m_fitPost m_fitEnd m_keptPosts i_x0], [zAr T 0 m_all 3952 g_all_52]]) [2, 0, 1] rfl
              exact ih_111 j_next_46 j_where_47 j_token_48 j_number_49 j_word_50 j_wrong_51 xf g_all_52 g_read_53 ((pLine k 2 A9 gr).1) (j + 1) (show zCF 8 g_read_53 ∧ 0 ≤ j_next_46.toInt ∧ j_next_46.toInt ≤ (f_all 4).toInt ∧ zPal (upd (upd (upd f_all 4 0) 5 0) 6 (-1)) g_all_52 ∧ zRr k N (f_all 4) j_next_46 j_where_47 j_token_48 j_number_49 j_word_50 j_wrong_51 xf g_all_52 ((pLine k 2 A9 gr).1) ∧ pLines k 2 (601 - (j + 1)) ((pLine k 2 A9 gr).1) g_read_53 = pLines k 2 601 (0, 0, 0, -1, -1) (fun _ => 0) ∧ (¬ j_wrong_51.toInt = 0 ∨ j_token_48.toInt = 0 ∨ ((j + 1) : Int) < j_next_46.toInt) from ⟨(by first | with_reducible assumption | assumption), by omega, by omega, (hpal.tr h_58), hnR, (by rw [hnG]; exact pLines_n (by omega) hwA htA hEq), by omega⟩) (show zMu j_wrong_51 j_token_48 j_next_46 (f_all 4) < zMu xr xt xn (f_all 4) from zMu_lt (by omega) (by omega) (by omega) (by omega)) _ _ ls G (lv_sub hl [0, 1, 2] rfl)
        · have c_30n : ¬ 121 ≤ k_ := fun q => c_30 ((nI_leI (a := 121) (b := k_) (by omega) (by omega)).mpr q)
          refine lv_aload_n hx hb dX12_text_94 rfl (lv_at hl 1 rfl) ?_
          refine z_get C G clX12 0 rfl 10 (by decide) m_fl_RX12_17 rfl dX12_text_95 ?_
          refine lv_iload_n hx hb dX12_text_98 rfl (lv_at hl 0 rfl) ?_
          refine lv_iconst (v := 0) hx hb dX12_text_99 (by decide) ?_
          refine z_ist C G 2 rfl (vp_in_nI (by omega) (by decide)) dX12_text_100 (fun H locs G => ?_)
          rw [nI_clamp (by omega)] at G
          have G : zS T A s.heap s [[zO11 mo m_all m_has (f_all 4) 0 i_where i_token i_number i_word 0 (-1) m_read i_z0 i_crossings i_inns m_posts m_shut m_here i_steps i_done i_at i_gone m_was m_came m_seenAt m_rowWorth m_farBy m_used i_everywhere i_again0 i_d0 i_never i_firstCame i_longRun i_moved i_crowd i_l0 i_fitMany i_fitLeast i_fitMost m_fitPost m_fitEnd m_keptPosts i_x0], [zAr T 0 m_all 3952 (upd (upd (upd f_all 4 0) 5 0) 6 (-1))], [zAr T 0 m_read 121 (upd z k_ 0)]] _ _ := G
          refine lv_iinc (v := nI (k_ + 1)) (lv' := [(3, .int (nI (k_ + 1))), (0, .ref mo), (1, .int 2), (2, .int (-1))]) hx hb dX12_text_101 hl (k := 0) rfl (z_inc k_ 1) (by decide) (zLvf_h rfl) (fun ls hl => ?_)
          refine lv_goto (tgt := 88) hx hb dX12_text_104 (by decide) ?_
          exact ih_88 (k_ + 1) (upd z k_ 0) (show (k_ + 1) ≤ 121 ∧ (∀ j, j < (k_ + 1) → (upd z k_ 0) j = 0) from ⟨by omega, z_updE (F := fun _ => 0) hZ rfl⟩) (show 121 - (k_ + 1) < 121 - k_ from by omega) _ _ ls G (lv_sub hl [0, 1, 2, 3] rfl)
      · have c_8n : ¬ (f_all 2).toInt < (2 : Int) := fun q => c_8 ((fa_lt _ _).mpr q)
        refine lv_goto (tgt := 68) hx hb dX12_text_56 (by decide) ?_
        refine lv_bipush (v := (-2)) hx hb dX12_text_68 (by decide) ?_
        exact z_back hQz_ (z_iret C hr hlocks G (Nat.le_of_ble_eq_true rfl) (Nat.le_of_ble_eq_true rfl) dX12_text_70 ⟨(f_all 4), i_next, i_where, i_token, i_number, i_word, i_wrong, i_farCrossing, (upd (upd (upd f_all 4 0) 5 0) 6 (-1)), f_read, rfl, (zBI_hd hB rfl (fun q hq => by rw [hF q (by omega) (by omega) (by omega)]; exact hB.2.1 q hq) (fun j hj => hF j (by omega) (by omega) (by omega))), rfl, (fun j hj => hF j (by omega) (by omega) (by omega)), (zText_b (fun z9 => by have z8 := hoi.mp z9; omega))⟩)
    · have hq1 : ((upd (upd (upd f_all 4 0) 5 0) 6 (-1)) 2).toInt = (f_all 2).toInt := rfl
      have hqf : 0 ≤ (f_all 2).toInt ∧ (f_all 2).toInt ≤ 2 := hB.2.1 2 (by decide)
      have hqF : 0 ≤ ((upd (upd (upd f_all 4 0) 5 0) 6 (-1)) 2).toInt ∧ ((upd (upd (upd f_all 4 0) 5 0) 6 (-1)) 2).toInt ≤ 2 := hqf
      have hai : ¬ at_.toInt = -1 := fun z9 => hne (Int32.toInt_inj.mp z9)
      have hoi : zHd _ := pOkAt_n (s := 2) (at_ := at_) (G := f_all) hai
      refine lv_iload_n hx hb dX12_text_41 rfl (lv_at hl 2 rfl) ?_
      refine lv_iconst (v := (-1)) hx hb dX12_text_42 (by decide) ?_
      refine lv_icmp_ne (tgt := 59) hx hb dX12_text_43 (by decide) (fun _ => ?_) (fun q => absurd q hne)
      refine lv_aload_n hx hb dX12_text_59 rfl (lv_at hl 0 rfl) ?_
      refine lv_iload_n hx hb dX12_text_60 rfl (lv_at hl 1 rfl) ?_
      refine lv_iload_n hx hb dX12_text_61 rfl (lv_at hl 2 rfl) ?_
      refine z_Vi (bc := [[zO11 mo m_all m_has (f_all 4) i_next i_where i_token i_number i_word i_wrong i_farCrossing m_read i_z0 i_crossings i_inns m_posts m_shut m_here i_steps i_done i_at i_gone m_was m_came m_seenAt m_rowWorth m_farBy m_used i_everywhere i_again0 i_d0 i_never i_firstCame i_longRun i_moved i_crowd i_l0 i_fitMany i_fitLeast i_fitMost m_fitPost m_fitEnd m_keptPosts i_x0], [zAr T 0 m_all 3952 (upd (upd (upd f_all 4 0) 5 0) 6 (-1))]]) (br := [[zAr T 0 m_read 121 f_read]]) (As := [.int 2, .int at_]) (rest := []) C G (c_m_isOf2 l T mo m_all m_has (f_all 4) i_next i_where i_token i_number i_word i_wrong i_farCrossing m_read i_z0 i_crossings i_inns m_posts m_shut m_here i_steps i_done i_at i_gone m_was m_came m_seenAt m_rowWorth m_farBy m_used i_everywhere i_again0 i_d0 i_never i_firstCame i_longRun i_moved i_crowd i_l0 i_fitMany i_fitLeast i_fitMost m_fitPost m_fitEnd m_keptPosts i_x0 (upd (upd (upd f_all 4 0) 5 0) 6 (-1)) at_ hqF) (kV_RX12_143 C.2.2.2.2 (Nat.le_of_ble_eq_true rfl) (Nat.le_of_ble_eq_true rfl)) [0, 1] [0, 0] rfl rfl (ci := 11) (qc := (RX12, TX12, 43)) rfl rfl (List.mem_flatten.mpr ⟨_, List.mem_of_getElem? (i := 0) rfl, List.mem_cons_self⟩) rfl rfl hl.1 dX12_text_62 (Nat.le_of_ble_eq_true rfl) (Nat.le_of_ble_eq_true rfl) (fun r_64 b1 H locs hw G => ?_)
      refine zAn2 hw ?_
      intro hbs9 hc_63
      clear hw
      subst hbs9
      have G : zS T A s.heap s [[zAr T 0 m_read 121 f_read], [zO11 mo m_all m_has (f_all 4) i_next i_where i_token i_number i_word i_wrong i_farCrossing m_read i_z0 i_crossings i_inns m_posts m_shut m_here i_steps i_done i_at i_gone m_was m_came m_seenAt m_rowWorth m_farBy m_used i_everywhere i_again0 i_d0 i_never i_firstCame i_longRun i_moved i_crowd i_l0 i_fitMany i_fitLeast i_fitMost m_fitPost m_fitEnd m_keptPosts i_x0], [zAr T 0 m_all 3952 (upd (upd (upd f_all 4 0) 5 0) 6 (-1))]] _ _ := G
      rcases hc_63 with ⟨rfl, h_65, h_66⟩ | ⟨rfl, h_67⟩
      · have h_65 : 0 ≤ at_.toInt := h_65
        have h_66 : at_.toInt < ((upd (upd (upd f_all 4 0) 5 0) 6 (-1)) 2).toInt := h_66
        refine lv_if_ne (tgt := 71) hx hb dX12_text_65 (by decide) (fun _ => ?_) (fun q => absurd q (by decide))
        refine lv_aload_n hx hb dX12_text_71 rfl (lv_at hl 0 rfl) ?_
        refine lv_iconst (v := 0) hx hb dX12_text_72 (by decide) ?_
        refine z_put C G clX12 1 rfl 3 (by decide) m_fl_RX12_70 rfl rfl rfl (Nat.le_of_ble_eq_true rfl) dX12_text_73 (fun H locs G => ?_)
        have G : zS T A s.heap s [[zAr T 0 m_read 121 f_read], [zO11 mo m_all m_has (f_all 4) 0 i_where i_token i_number i_word i_wrong i_farCrossing m_read i_z0 i_crossings i_inns m_posts m_shut m_here i_steps i_done i_at i_gone m_was m_came m_seenAt m_rowWorth m_farBy m_used i_everywhere i_again0 i_d0 i_never i_firstCame i_longRun i_moved i_crowd i_l0 i_fitMany i_fitLeast i_fitMost m_fitPost m_fitEnd m_keptPosts i_x0], [zAr T 0 m_all 3952 (upd (upd (upd f_all 4 0) 5 0) 6 (-1))]] _ _ := G
        refine lv_aload_n hx hb dX12_text_76 rfl (lv_at hl 0 rfl) ?_
        refine lv_iconst (v := 0) hx hb dX12_text_77 (by decide) ?_
        refine z_put C G clX12 1 rfl 8 (by decide) m_fl_RX12_104 rfl rfl rfl (Nat.le_of_ble_eq_true rfl) dX12_text_78 (fun H locs G => ?_)
        have G : zS T A s.heap s [[zAr T 0 m_read 121 f_read], [zO11 mo m_all m_has (f_all 4) 0 i_where i_token i_number i_word 0 i_farCrossing m_read i_z0 i_crossings i_inns m_posts m_shut m_here i_steps i_done i_at i_gone m_was m_came m_seenAt m_rowWorth m_farBy m_used i_everywhere i_again0 i_d0 i_never i_firstCame i_longRun i_moved i_crowd i_l0 i_fitMany i_fitLeast i_fitMost m_fitPost m_fitEnd m_keptPosts i_x0], [zAr T 0 m_all 3952 (upd (upd (upd f_all 4 0) 5 0) 6 (-1))]] _ _ := G
        refine lv_aload_n hx hb dX12_text_81 rfl (lv_at hl 0 rfl) ?_
        refine lv_iconst (v := (-1)) hx hb dX12_text_82 (by decide) ?_
        refine z_put C G clX12 1 rfl 9 (by decide) m_fl_RX12_126 rfl rfl rfl (Nat.le_of_ble_eq_true rfl) dX12_text_83 (fun H locs G => ?_)
        have G : zS T A s.heap s [[zAr T 0 m_read 121 f_read], [zO11 mo m_all m_has (f_all 4) 0 i_where i_token i_number i_word 0 (-1) m_read i_z0 i_crossings i_inns m_posts m_shut m_here i_steps i_done i_at i_gone m_was m_came m_seenAt m_rowWorth m_farBy m_used i_everywhere i_again0 i_d0 i_never i_firstCame i_longRun i_moved i_crowd i_l0 i_fitMany i_fitLeast i_fitMost m_fitPost m_fitEnd m_keptPosts i_x0], [zAr T 0 m_all 3952 (upd (upd (upd f_all 4 0) 5 0) 6 (-1))]] _ _ := G
        refine zMt9 (T := T) 237 (fun (xn : Int32) (xw : Int32) (xt : Int32) (xu : Int32) (xo : Int32) (xr : Int32) (xf : Int32) (ga : Nat → Int32) (gr : Nat → Int32) => [[zAr T 0 m_read 121 gr], [zO11 mo m_all m_has (f_all 4) xn xw xt xu xo xr xf m_read i_z0 i_crossings i_inns m_posts m_shut m_here i_steps i_done i_at i_gone m_was m_came m_seenAt m_rowWorth m_farBy m_used i_everywhere i_again0 i_d0 i_never i_firstCame i_longRun i_moved i_crowd i_l0 i_fitMany i_fitLeast i_fitMost m_fitPost m_fitEnd m_keptPosts i_x0], [zAr T 0 m_all 3952 ga]]) (fun (xn : Int32) (xw : Int32) (xt : Int32) (xu : Int32) (xo : Int32) (xr : Int32) (xf : Int32) (ga : Nat → Int32) (gr : Nat → Int32) => [(0, .ref mo), (1, .int 2), (2, .int at_)]) (fun (xn : Int32) (xw : Int32) (xt : Int32) (xu : Int32) (xo : Int32) (xr : Int32) (xf : Int32) (ga : Nat → Int32) (gr : Nat → Int32) => zCF 8 gr ∧ zPal (upd (upd (upd f_all 4 0) 5 0) 6 (-1)) ga ∧ zRr k N (f_all 4) xn xw xt xu xo xr xf ga (pRead k N 2).1 ∧ (pRead k N 2).2 = gr) G hl ?_ (fun jn_237 => ?_)
        · intro xn xw xt xu xo xr xf ga gr hI9 H locs ls G hl
          replace hI9 : zCF 8 gr ∧ zPal (upd (upd (upd f_all 4 0) 5 0) 6 (-1)) ga ∧ zRr k N (f_all 4) xn xw xt xu xo xr xf ga (pRead k N 2).1 ∧ (pRead k N 2).2 = gr := hI9
          refine zAn4 hI9 ?_
          intro hL hpal hZ1 hZ2
          clear hI9
          replace G : zS T A s.heap s [[zAr T 0 m_read 121 gr], [zO11 mo m_all m_has (f_all 4) xn xw xt xu xo xr xf m_read i_z0 i_crossings i_inns m_posts m_shut m_here i_steps i_done i_at i_gone m_was m_came m_seenAt m_rowWorth m_farBy m_used i_everywhere i_again0 i_d0 i_never i_firstCame i_longRun i_moved i_crowd i_l0 i_fitMany i_fitLeast i_fitMost m_fitPost m_fitEnd m_keptPosts i_x0], [zAr T 0 m_all 3952 ga]] _ _ := G
          replace hl : lv_has ls 5 [(0, .ref mo), (1, .int 2), (2, .int at_)] := hl
          have hZ5 := hZ1.2.2.2.1
          have hZ6 := hZ1.2.2.2.2.1
          have hZ5i := congrArg Int32.toInt hZ5
          refine lv_aload_n hx hb dX12_text_237 rfl (lv_at hl 0 rfl) ?_
          refine z_get C G clX12 1 rfl 0 (by decide) m_fl_RX12_7 rfl dX12_text_238 ?_
          refine lv_iconst (v := 5) hx hb dX12_text_241 (by decide) ?_
          refine z_ild C G 2 rfl (vp_in_nI (n := 5) (by decide) (by decide)) dX12_text_242 ?_
          refine lv_topi (fun v_68 ev_68 => ?_)
          rw [show ((5 : Int32).toNatClampNeg) = 5 from rfl] at ev_68
          subst ev_68
          refine lv_if_eq (tgt := 248) hx hb dX12_text_243 (by decide) (fun c_69 => ?_) (fun c_69 => ?_)
          · have c_69n : (ga 5).toInt = (0 : Int) := (fa_eq _ _).mp c_69
            refine lv_iload_n hx hb dX12_text_248 rfl (lv_at hl 2 rfl) ?_
            refine lv_iconst (v := (-1)) hx hb dX12_text_249 (by decide) ?_
            refine lv_icmp_ne (tgt := 262) hx hb dX12_text_250 (by decide) (fun _ => ?_) (fun q => absurd q hne)
            refine lv_iload_n hx hb dX12_text_262 rfl (lv_at hl 2 rfl) ?_
            rcases (show at_.toInt = 0 ∨ at_.toInt = 1 from by omega) with hk | hk
            · obtain rfl : at_ = 0 := Int32.toInt_inj.mp hk
              refine lv_istore_n (lv' := [(3, .int 0), (0, .ref mo), (1, .int 2), (2, .int 0)]) hx hb dX12_text_263 rfl hl (by decide) (zLvf_h rfl) (fun ls hl => ?_)
              refine lv_iload_n hx hb dX12_text_264 rfl (lv_at hl 3 rfl) ?_
              refine lv_iconst (v := (-1)) hx hb dX12_text_265 (by decide) ?_
              refine lv_icmp_ne (tgt := 279) hx hb dX12_text_266 (by decide) (fun _ => ?_) (fun q => absurd q hne)
              refine lv_iconst (v := 0) hx hb dX12_text_279 (by decide) ?_
              refine lv_istore (lv' := [(4, .int 0), (3, .int 0), (0, .ref mo), (1, .int 2), (2, .int 0)]) hx hb dX12_text_280 hl (by decide) (zLvf_h rfl) (fun ls hl => ?_)
              refine z_lp2 (T := T) 282 (fun (i : Nat) (x : Nat → Int32) => [[zAr T 0 m_read 121 gr], [zO11 mo m_all m_has (f_all 4) xn xw xt xu xo xr xf m_read i_z0 i_crossings i_inns m_posts m_shut m_here i_steps i_done i_at i_gone m_was m_came m_seenAt m_rowWorth m_farBy m_used i_everywhere i_again0 i_d0 i_never i_firstCame i_longRun i_moved i_crowd i_l0 i_fitMany i_fitLeast i_fitMost m_fitPost m_fitEnd m_keptPosts i_x0], [zAr T 0 m_all 3952 x]]) (fun (i : Nat) (x : Nat → Int32) => [(4, .int (nI i)), (3, .int 0), (0, .ref mo), (1, .int 2), (2, .int 0)]) (fun (i : Nat) (x : Nat → Int32) => i ≤ 17 ∧ (∀ j, j < i → x (954 + j) = gr j) ∧ (∀ j, (j < 954 ∨ 971 ≤ j) → x j = ga j)) (fun (i : Nat) (x : Nat → Int32) => 17 - i) ?_ 0 ga (show 0 ≤ 17 ∧ (∀ j, j < 0 → ga (954 + j) = gr j) ∧ (∀ j, (j < 954 ∨ 971 ≤ j) → ga j = ga j) from ⟨by omega, fun j hj => absurd hj (by omega), fun j _ => rfl⟩) G (lv_sub hl [0, 1, 2, 3, 4] rfl)
              intro i x hI9 ih_282 H locs ls G hl
              replace hI9 : i ≤ 17 ∧ (∀ j, j < i → x (954 + j) = gr j) ∧ (∀ j, (j < 954 ∨ 971 ≤ j) → x j = ga j) := hI9
              refine zAn3 hI9 ?_
              intro hi hS hO
              clear hI9
              replace G : zS T A s.heap s [[zAr T 0 m_read 121 gr], [zO11 mo m_all m_has (f_all 4) xn xw xt xu xo xr xf m_read i_z0 i_crossings i_inns m_posts m_shut m_here i_steps i_done i_at i_gone m_was m_came m_seenAt m_rowWorth m_farBy m_used i_everywhere i_again0 i_d0 i_never i_firstCame i_longRun i_moved i_crowd i_l0 i_fitMany i_fitLeast i_fitMost m_fitPost m_fitEnd m_keptPosts i_x0], [zAr T 0 m_all 3952 x]] _ _ := G
              replace hl : lv_has ls 5 [(4, .int (nI i)), (3, .int 0), (0, .ref mo), (1, .int 2), (2, .int 0)] := hl
              refine lv_iload hx hb dX12_text_282 (lv_at hl 0 rfl) ?_
              refine lv_iload_n hx hb dX12_text_284 rfl (lv_at hl 3 rfl) ?_
              refine z_Si (bc := []) (br := [[zAr T 0 m_read 121 gr], [zO11 mo m_all m_has (f_all 4) xn xw xt xu xo xr xf m_read i_z0 i_crossings i_inns m_posts m_shut m_here i_steps i_done i_at i_gone m_was m_came m_seenAt m_rowWorth m_farBy m_used i_everywhere i_again0 i_d0 i_never i_firstCame i_longRun i_moved i_crowd i_l0 i_fitMany i_fitLeast i_fitMost m_fitPost m_fitEnd m_keptPosts i_x0], [zAr T 0 m_all 3952 x]]) (As := [.int 2]) (rest := [.int (nI i)]) C G (c_m_sizeOf2 l T) (kS_RX12_160 C.2.2.2.2 (Nat.le_of_ble_eq_true rfl) (Nat.le_of_ble_eq_true rfl)) [] [] rfl rfl rfl rfl hl.1 dX12_text_285 (Nat.le_of_ble_eq_true rfl) (Nat.le_of_ble_eq_true rfl) (fun r_71 b1 H locs hw G => ?_)
              refine zAn2 hw ?_
              intro hbs9 h_70
              clear hw
              subst hbs9
              have G : zS T A s.heap s [[zAr T 0 m_read 121 gr], [zO11 mo m_all m_has (f_all 4) xn xw xt xu xo xr xf m_read i_z0 i_crossings i_inns m_posts m_shut m_here i_steps i_done i_at i_gone m_was m_came m_seenAt m_rowWorth m_farBy m_used i_everywhere i_again0 i_d0 i_never i_firstCame i_longRun i_moved i_crowd i_l0 i_fitMany i_fitLeast i_fitMost m_fitPost m_fitEnd m_keptPosts i_x0], [zAr T 0 m_all 3952 x]] _ _ := G
              subst h_70
              refine lv_icmp_ge (tgt := 317) hx hb dX12_text_288 (by decide) (fun c_72 => ?_) (fun c_72 => ?_)
              · have c_72n : 17 ≤ i := (nI_leI (a := 17) (b := i) (by omega) (by omega)).mp c_72
                refine lv_iload_n hx hb dX12_text_317 rfl (lv_at hl 1 rfl) ?_
                have G := G.sub (bs' := [[zO11 mo m_all m_has (f_all 4) xn xw xt xu xo xr xf m_read i_z0 i_crossings i_inns m_posts m_shut m_here i_steps i_done i_at i_gone m_was m_came m_seenAt m_rowWorth m_farBy m_used i_everywhere i_again0 i_d0 i_never i_firstCame i_longRun i_moved i_crowd i_l0 i_fitMany i_fitLeast i_fitMost m_fitPost m_fitEnd m_keptPosts i_x0], [zAr T 0 m_all 3952 x], [zAr T 0 m_read 121 gr]]) [1, 2, 0] rfl
                exact z_back hQz_ (z_iret C hr hlocks G (Nat.le_of_ble_eq_true rfl) (Nat.le_of_ble_eq_true rfl) dX12_text_318 ⟨(f_all 4), xn, xw, xt, xu, xo, xr, xf, x, gr, rfl, (zBI_p2 0 (by decide) hB ((hO 4 (by omega)).trans (hpal 4 (by decide) (by decide))) (fun q hq => by rw [hO q (by omega)]; rw [show _ = f_all q from (hpal q (by omega) (by omega)).trans (hF q (by omega) (by omega) (by omega))]; exact hB.2.1 q hq) (fun j hj hj2 => (hO j (by omega)).trans ((hpal j (by omega) (by omega)).trans (hF j (by omega) (by omega) (by omega)))) (by first | with_reducible assumption | assumption) (fun j hj => hS j (by omega))), ((hO 4 (by omega)).trans (hpal 4 (by decide) (by decide))), (fun j hj => (hO j (by omega)).trans ((hpal j (by omega) (by omega)).trans (hF j (by omega) (by omega) (by omega)))), (zText_k (kk := 0) (g := ga) (hoi.mpr (by omega)) (by rw [← hZ5]; omega) (pNr_n (by decide)).symm (by rw [pNr_n (by decide)]; rfl) hpal hZ5 hZ6 (pCnt_n (by decide)).symm (by rw [hZ2]; exact fun j hj => hS j (by have hj : j < 17 := hj; omega)) (fun j hj => hO j (by have hj : j < 954 ∨ 954 + 17 ≤ j := hj; omega)))⟩)
              · have c_72n : ¬ 17 ≤ i := fun q => c_72 ((nI_leI (a := 17) (b := i) (by omega) (by omega)).mpr q)
                refine lv_aload_n hx hb dX12_text_291 rfl (lv_at hl 2 rfl) ?_
                refine z_get C G clX12 1 rfl 0 (by decide) m_fl_RX12_7 rfl dX12_text_292 ?_
                refine lv_iload_n hx hb dX12_text_295 rfl (lv_at hl 3 rfl) ?_
                refine lv_iload_n hx hb dX12_text_296 rfl (lv_at hl 1 rfl) ?_
                refine z_Si (bc := []) (br := [[zAr T 0 m_read 121 gr], [zO11 mo m_all m_has (f_all 4) xn xw xt xu xo xr xf m_read i_z0 i_crossings i_inns m_posts m_shut m_here i_steps i_done i_at i_gone m_was m_came m_seenAt m_rowWorth m_farBy m_used i_everywhere i_again0 i_d0 i_never i_firstCame i_longRun i_moved i_crowd i_l0 i_fitMany i_fitLeast i_fitMost m_fitPost m_fitEnd m_keptPosts i_x0], [zAr T 0 m_all 3952 x]]) (As := [.int 2, .int 0]) (rest := [.ref m_all]) C G (c_m_placeOf20 l T) (kS_RX12_163 C.2.2.2.2 (Nat.le_of_ble_eq_true rfl) (Nat.le_of_ble_eq_true rfl)) [] [] rfl rfl rfl rfl hl.1 dX12_text_297 (Nat.le_of_ble_eq_true rfl) (Nat.le_of_ble_eq_true rfl) (fun r_74 b1 H locs hw G => ?_)
                refine zAn2 hw ?_
                intro hbs9 h_73
                clear hw
                subst hbs9
                have G : zS T A s.heap s [[zAr T 0 m_read 121 gr], [zO11 mo m_all m_has (f_all 4) xn xw xt xu xo xr xf m_read i_z0 i_crossings i_inns m_posts m_shut m_here i_steps i_done i_at i_gone m_was m_came m_seenAt m_rowWorth m_farBy m_used i_everywhere i_again0 i_d0 i_never i_firstCame i_longRun i_moved i_crowd i_l0 i_fitMany i_fitLeast i_fitMost m_fitPost m_fitEnd m_keptPosts i_x0], [zAr T 0 m_all 3952 x]] _ _ := G
                subst h_73
                refine lv_iload hx hb dX12_text_300 (lv_at hl 0 rfl) ?_
                refine lv_iadd hx hb dX12_text_302 ?_
                refine lv_topi (fun y_75 ey_75 => ?_)
                obtain rfl : y_75 = nI (954 + i) := ey_75.trans (z_iaddn 954 i rfl rfl)
                refine lv_aload_n hx hb dX12_text_303 rfl (lv_at hl 2 rfl) ?_
                refine z_get C G clX12 1 rfl 10 (by decide) m_fl_RX12_17 rfl dX12_text_304 ?_
                refine lv_iload hx hb dX12_text_307 (lv_at hl 0 rfl) ?_
                refine z_ild C G 0 rfl (vp_in_nI (by omega) (by decide)) dX12_text_309 ?_
                refine lv_topi (fun v_76 ev_76 => ?_)
                rw [nI_clamp (by omega)] at ev_76
                subst ev_76
                refine z_ist C G 2 rfl (vp_in_nI (by omega) (by decide)) dX12_text_310 (fun H locs G => ?_)
                rw [nI_clamp (by omega)] at G
                have G : zS T A s.heap s [[zAr T 0 m_read 121 gr], [zO11 mo m_all m_has (f_all 4) xn xw xt xu xo xr xf m_read i_z0 i_crossings i_inns m_posts m_shut m_here i_steps i_done i_at i_gone m_was m_came m_seenAt m_rowWorth m_farBy m_used i_everywhere i_again0 i_d0 i_never i_firstCame i_longRun i_moved i_crowd i_l0 i_fitMany i_fitLeast i_fitMost m_fitPost m_fitEnd m_keptPosts i_x0], [zAr T 0 m_all 3952 (upd x (954 + i) (gr i))]] _ _ := G
                refine lv_iinc (v := nI (i + 1)) (lv' := [(4, .int (nI (i + 1))), (3, .int 0), (0, .ref mo), (1, .int 2), (2, .int 0)]) hx hb dX12_text_311 hl (k := 0) rfl (z_inc i 1) (by decide) (zLvf_h rfl) (fun ls hl => ?_)
                refine lv_goto (tgt := 282) hx hb dX12_text_314 (by decide) ?_
                exact ih_282 (i + 1) (upd x (954 + i) (gr i)) (show (i + 1) ≤ 17 ∧ (∀ j, j < (i + 1) → (upd x (954 + i) (gr i)) (954 + j) = gr j) ∧ (∀ j, (j < 954 ∨ 971 ≤ j) → (upd x (954 + i) (gr i)) j = ga j) from ⟨by omega, z_upS hS rfl, z_upO hO (by omega)⟩) (show 17 - (i + 1) < 17 - i from by omega) _ _ ls G (lv_sub hl [0, 1, 2, 3, 4] rfl)
            · obtain rfl : at_ = 1 := Int32.toInt_inj.mp hk
              refine lv_istore_n (lv' := [(3, .int 1), (0, .ref mo), (1, .int 2), (2, .int 1)]) hx hb dX12_text_263 rfl hl (by decide) (zLvf_h rfl) (fun ls hl => ?_)
              refine lv_iload_n hx hb dX12_text_264 rfl (lv_at hl 3 rfl) ?_
              refine lv_iconst (v := (-1)) hx hb dX12_text_265 (by decide) ?_
              refine lv_icmp_ne (tgt := 279) hx hb dX12_text_266 (by decide) (fun _ => ?_) (fun q => absurd q hne)
              refine lv_iconst (v := 0) hx hb dX12_text_279 (by decide) ?_
              refine lv_istore (lv' := [(4, .int 0), (3, .int 1), (0, .ref mo), (1, .int 2), (2, .int 1)]) hx hb dX12_text_280 hl (by decide) (zLvf_h rfl) (fun ls hl => ?_)
              refine z_lp2 (T := T) 282 (fun (i : Nat) (x : Nat → Int32) => [[zAr T 0 m_read 121 gr], [zO11 mo m_all m_has (f_all 4) xn xw xt xu xo xr xf m_read i_z0 i_crossings i_inns m_posts m_shut m_here i_steps i_done i_at i_gone m_was m_came m_seenAt m_rowWorth m_farBy m_used i_everywhere i_again0 i_d0 i_never i_firstCame i_longRun i_moved i_crowd i_l0 i_fitMany i_fitLeast i_fitMost m_fitPost m_fitEnd m_keptPosts i_x0], [zAr T 0 m_all 3952 x]]) (fun (i : Nat) (x : Nat → Int32) => [(4, .int (nI i)), (3, .int 1), (0, .ref mo), (1, .int 2), (2, .int 1)]) (fun (i : Nat) (x : Nat → Int32) => i ≤ 17 ∧ (∀ j, j < i → x (971 + j) = gr j) ∧ (∀ j, (j < 971 ∨ 988 ≤ j) → x j = ga j)) (fun (i : Nat) (x : Nat → Int32) => 17 - i) ?_ 0 ga (show 0 ≤ 17 ∧ (∀ j, j < 0 → ga (971 + j) = gr j) ∧ (∀ j, (j < 971 ∨ 988 ≤ j) → ga j = ga j) from ⟨by omega, fun j hj => absurd hj (by omega), fun j _ => rfl⟩) G (lv_sub hl [0, 1, 2, 3, 4] rfl)
              intro i x hI9 ih_282 H locs ls G hl
              replace hI9 : i ≤ 17 ∧ (∀ j, j < i → x (971 + j) = gr j) ∧ (∀ j, (j < 971 ∨ 988 ≤ j) → x j = ga j) := hI9
              refine zAn3 hI9 ?_
              intro hi hS hO
              clear hI9
              replace G : zS T A s.heap s [[zAr T 0 m_read 121 gr], [zO11 mo m_all m_has (f_all 4) xn xw xt xu xo xr xf m_read i_z0 i_crossings i_inns m_posts m_shut m_here i_steps i_done i_at i_gone m_was m_came m_seenAt m_rowWorth m_farBy m_used i_everywhere i_again0 i_d0 i_never i_firstCame i_longRun i_moved i_crowd i_l0 i_fitMany i_fitLeast i_fitMost m_fitPost m_fitEnd m_keptPosts i_x0], [zAr T 0 m_all 3952 x]] _ _ := G
              replace hl : lv_has ls 5 [(4, .int (nI i)), (3, .int 1), (0, .ref mo), (1, .int 2), (2, .int 1)] := hl
              refine lv_iload hx hb dX12_text_282 (lv_at hl 0 rfl) ?_
              refine lv_iload_n hx hb dX12_text_284 rfl (lv_at hl 3 rfl) ?_
              refine z_Si (bc := []) (br := [[zAr T 0 m_read 121 gr], [zO11 mo m_all m_has (f_all 4) xn xw xt xu xo xr xf m_read i_z0 i_crossings i_inns m_posts m_shut m_here i_steps i_done i_at i_gone m_was m_came m_seenAt m_rowWorth m_farBy m_used i_everywhere i_again0 i_d0 i_never i_firstCame i_longRun i_moved i_crowd i_l0 i_fitMany i_fitLeast i_fitMost m_fitPost m_fitEnd m_keptPosts i_x0], [zAr T 0 m_all 3952 x]]) (As := [.int 2]) (rest := [.int (nI i)]) C G (c_m_sizeOf2 l T) (kS_RX12_160 C.2.2.2.2 (Nat.le_of_ble_eq_true rfl) (Nat.le_of_ble_eq_true rfl)) [] [] rfl rfl rfl rfl hl.1 dX12_text_285 (Nat.le_of_ble_eq_true rfl) (Nat.le_of_ble_eq_true rfl) (fun r_78 b1 H locs hw G => ?_)
              refine zAn2 hw ?_
              intro hbs9 h_77
              clear hw
              subst hbs9
              have G : zS T A s.heap s [[zAr T 0 m_read 121 gr], [zO11 mo m_all m_has (f_all 4) xn xw xt xu xo xr xf m_read i_z0 i_crossings i_inns m_posts m_shut m_here i_steps i_done i_at i_gone m_was m_came m_seenAt m_rowWorth m_farBy m_used i_everywhere i_again0 i_d0 i_never i_firstCame i_longRun i_moved i_crowd i_l0 i_fitMany i_fitLeast i_fitMost m_fitPost m_fitEnd m_keptPosts i_x0], [zAr T 0 m_all 3952 x]] _ _ := G
              subst h_77
              refine lv_icmp_ge (tgt := 317) hx hb dX12_text_288 (by decide) (fun c_79 => ?_) (fun c_79 => ?_)
              · have c_79n : 17 ≤ i := (nI_leI (a := 17) (b := i) (by omega) (by omega)).mp c_79
                refine lv_iload_n hx hb dX12_text_317 rfl (lv_at hl 1 rfl) ?_
                have G := G.sub (bs' := [[zO11 mo m_all m_has (f_all 4) xn xw xt xu xo xr xf m_read i_z0 i_crossings i_inns m_posts m_shut m_here i_steps i_done i_at i_gone m_was m_came m_seenAt m_rowWorth m_farBy m_used i_everywhere i_again0 i_d0 i_never i_firstCame i_longRun i_moved i_crowd i_l0 i_fitMany i_fitLeast i_fitMost m_fitPost m_fitEnd m_keptPosts i_x0], [zAr T 0 m_all 3952 x], [zAr T 0 m_read 121 gr]]) [1, 2, 0] rfl
                exact z_back hQz_ (z_iret C hr hlocks G (Nat.le_of_ble_eq_true rfl) (Nat.le_of_ble_eq_true rfl) dX12_text_318 ⟨(f_all 4), xn, xw, xt, xu, xo, xr, xf, x, gr, rfl, (zBI_p2 1 (by decide) hB ((hO 4 (by omega)).trans (hpal 4 (by decide) (by decide))) (fun q hq => by rw [hO q (by omega)]; rw [show _ = f_all q from (hpal q (by omega) (by omega)).trans (hF q (by omega) (by omega) (by omega))]; exact hB.2.1 q hq) (fun j hj hj2 => (hO j (by omega)).trans ((hpal j (by omega) (by omega)).trans (hF j (by omega) (by omega) (by omega)))) (by first | with_reducible assumption | assumption) (fun j hj => hS j (by omega))), ((hO 4 (by omega)).trans (hpal 4 (by decide) (by decide))), (fun j hj => (hO j (by omega)).trans ((hpal j (by omega) (by omega)).trans (hF j (by omega) (by omega) (by omega)))), (zText_k (kk := 1) (g := ga) (hoi.mpr (by omega)) (by rw [← hZ5]; omega) (pNr_n (by decide)).symm (by rw [pNr_n (by decide)]; rfl) hpal hZ5 hZ6 (pCnt_n (by decide)).symm (by rw [hZ2]; exact fun j hj => hS j (by have hj : j < 17 := hj; omega)) (fun j hj => hO j (by have hj : j < 971 ∨ 971 + 17 ≤ j := hj; omega)))⟩)
              · have c_79n : ¬ 17 ≤ i := fun q => c_79 ((nI_leI (a := 17) (b := i) (by omega) (by omega)).mpr q)
                refine lv_aload_n hx hb dX12_text_291 rfl (lv_at hl 2 rfl) ?_
                refine z_get C G clX12 1 rfl 0 (by decide) m_fl_RX12_7 rfl dX12_text_292 ?_
                refine lv_iload_n hx hb dX12_text_295 rfl (lv_at hl 3 rfl) ?_
                refine lv_iload_n hx hb dX12_text_296 rfl (lv_at hl 1 rfl) ?_
                refine z_Si (bc := []) (br := [[zAr T 0 m_read 121 gr], [zO11 mo m_all m_has (f_all 4) xn xw xt xu xo xr xf m_read i_z0 i_crossings i_inns m_posts m_shut m_here i_steps i_done i_at i_gone m_was m_came m_seenAt m_rowWorth m_farBy m_used i_everywhere i_again0 i_d0 i_never i_firstCame i_longRun i_moved i_crowd i_l0 i_fitMany i_fitLeast i_fitMost m_fitPost m_fitEnd m_keptPosts i_x0], [zAr T 0 m_all 3952 x]]) (As := [.int 2, .int 1]) (rest := [.ref m_all]) C G (c_m_placeOf21 l T) (kS_RX12_163 C.2.2.2.2 (Nat.le_of_ble_eq_true rfl) (Nat.le_of_ble_eq_true rfl)) [] [] rfl rfl rfl rfl hl.1 dX12_text_297 (Nat.le_of_ble_eq_true rfl) (Nat.le_of_ble_eq_true rfl) (fun r_81 b1 H locs hw G => ?_)
                refine zAn2 hw ?_
                intro hbs9 h_80
                clear hw
                subst hbs9
                have G : zS T A s.heap s [[zAr T 0 m_read 121 gr], [zO11 mo m_all m_has (f_all 4) xn xw xt xu xo xr xf m_read i_z0 i_crossings i_inns m_posts m_shut m_here i_steps i_done i_at i_gone m_was m_came m_seenAt m_rowWorth m_farBy m_used i_everywhere i_again0 i_d0 i_never i_firstCame i_longRun i_moved i_crowd i_l0 i_fitMany i_fitLeast i_fitMost m_fitPost m_fitEnd m_keptPosts i_x0], [zAr T 0 m_all 3952 x]] _ _ := G
                subst h_80
                refine lv_iload hx hb dX12_text_300 (lv_at hl 0 rfl) ?_
                refine lv_iadd hx hb dX12_text_302 ?_
                refine lv_topi (fun y_82 ey_82 => ?_)
                obtain rfl : y_82 = nI (971 + i) := ey_82.trans (z_iaddn 971 i rfl rfl)
                refine lv_aload_n hx hb dX12_text_303 rfl (lv_at hl 2 rfl) ?_
                refine z_get C G clX12 1 rfl 10 (by decide) m_fl_RX12_17 rfl dX12_text_304 ?_
                refine lv_iload hx hb dX12_text_307 (lv_at hl 0 rfl) ?_
                refine z_ild C G 0 rfl (vp_in_nI (by omega) (by decide)) dX12_text_309 ?_
                refine lv_topi (fun v_83 ev_83 => ?_)
                rw [nI_clamp (by omega)] at ev_83
                subst ev_83
                refine z_ist C G 2 rfl (vp_in_nI (by omega) (by decide)) dX12_text_310 (fun H locs G => ?_)
                rw [nI_clamp (by omega)] at G
                have G : zS T A s.heap s [[zAr T 0 m_read 121 gr], [zO11 mo m_all m_has (f_all 4) xn xw xt xu xo xr xf m_read i_z0 i_crossings i_inns m_posts m_shut m_here i_steps i_done i_at i_gone m_was m_came m_seenAt m_rowWorth m_farBy m_used i_everywhere i_again0 i_d0 i_never i_firstCame i_longRun i_moved i_crowd i_l0 i_fitMany i_fitLeast i_fitMost m_fitPost m_fitEnd m_keptPosts i_x0], [zAr T 0 m_all 3952 (upd x (971 + i) (gr i))]] _ _ := G
                refine lv_iinc (v := nI (i + 1)) (lv' := [(4, .int (nI (i + 1))), (3, .int 1), (0, .ref mo), (1, .int 2), (2, .int 1)]) hx hb dX12_text_311 hl (k := 0) rfl (z_inc i 1) (by decide) (zLvf_h rfl) (fun ls hl => ?_)
                refine lv_goto (tgt := 282) hx hb dX12_text_314 (by decide) ?_
                exact ih_282 (i + 1) (upd x (971 + i) (gr i)) (show (i + 1) ≤ 17 ∧ (∀ j, j < (i + 1) → (upd x (971 + i) (gr i)) (971 + j) = gr j) ∧ (∀ j, (j < 971 ∨ 988 ≤ j) → (upd x (971 + i) (gr i)) j = ga j) from ⟨by omega, z_upS hS rfl, z_upO hO (by omega)⟩) (show 17 - (i + 1) < 17 - i from by omega) _ _ ls G (lv_sub hl [0, 1, 2, 3, 4] rfl)
          · have c_69n : ¬ (ga 5).toInt = (0 : Int) := fun q => c_69 ((fa_eq _ _).mpr q)
            refine lv_iconst (v := (-1)) hx hb dX12_text_246 (by decide) ?_
            have G := G.sub (bs' := [[zO11 mo m_all m_has (f_all 4) xn xw xt xu xo xr xf m_read i_z0 i_crossings i_inns m_posts m_shut m_here i_steps i_done i_at i_gone m_was m_came m_seenAt m_rowWorth m_farBy m_used i_everywhere i_again0 i_d0 i_never i_firstCame i_longRun i_moved i_crowd i_l0 i_fitMany i_fitLeast i_fitMost m_fitPost m_fitEnd m_keptPosts i_x0], [zAr T 0 m_all 3952 ga], [zAr T 0 m_read 121 gr]]) [1, 2, 0] rfl
            exact z_back hQz_ (z_iret C hr hlocks G (Nat.le_of_ble_eq_true rfl) (Nat.le_of_ble_eq_true rfl) dX12_text_247 ⟨(f_all 4), xn, xw, xt, xu, xo, xr, xf, ga, gr, rfl, (zBI_hd hB (hpal 4 (by decide) (by decide)) (fun q hq => by rw [show _ = f_all q from (hpal q (by omega) (by omega)).trans (hF q (by omega) (by omega) (by omega))]; exact hB.2.1 q hq) (fun j hj => (hpal j (by omega) (by omega)).trans (hF j (by omega) (by omega) (by omega)))), (hpal 4 (by decide) (by decide)), (fun j hj => (hpal j (by omega) (by omega)).trans (hF j (by omega) (by omega) (by omega))), (zText_f (hoi.mpr (by omega)) (by rw [← hZ5]; omega) hpal hZ5 hZ6)⟩)
        refine lv_iconst (v := 0) hx hb dX12_text_86 (by decide) ?_
        refine lv_istore_n (lv' := [(3, .int 0), (0, .ref mo), (1, .int 2), (2, .int at_)]) hx hb dX12_text_87 rfl hl (by decide) (zLvf_h rfl) (fun ls hl => ?_)
        refine z_lp2 (T := T) 88 (fun (k_ : Nat) (z : Nat → Int32) => [[zAr T 0 m_read 121 z], [zO11 mo m_all m_has (f_all 4) 0 i_where i_token i_number i_word 0 (-1) m_read i_z0 i_crossings i_inns m_posts m_shut m_here i_steps i_done i_at i_gone m_was m_came m_seenAt m_rowWorth m_farBy m_used i_everywhere i_again0 i_d0 i_never i_firstCame i_longRun i_moved i_crowd i_l0 i_fitMany i_fitLeast i_fitMost m_fitPost m_fitEnd m_keptPosts i_x0], [zAr T 0 m_all 3952 (upd (upd (upd f_all 4 0) 5 0) 6 (-1))]]) (fun (k_ : Nat) (z : Nat → Int32) => [(3, .int (nI k_)), (0, .ref mo), (1, .int 2), (2, .int at_)]) (fun (k_ : Nat) (z : Nat → Int32) => k_ ≤ 121 ∧ (∀ j, j < k_ → z j = 0)) (fun (k_ : Nat) (z : Nat → Int32) => 121 - k_) ?_ 0 f_read (show 0 ≤ 121 ∧ (∀ j, j < 0 → f_read j = 0) from ⟨by omega, fun j hj => absurd hj (by omega)⟩) G (lv_sub hl [0, 1, 2, 3] rfl)
        intro k_ z hI9 ih_88 H locs ls G hl
        replace hI9 : k_ ≤ 121 ∧ (∀ j, j < k_ → z j = 0) := hI9
        refine zAn2 hI9 ?_
        intro hk_ hZ
        clear hI9
        replace G : zS T A s.heap s [[zAr T 0 m_read 121 z], [zO11 mo m_all m_has (f_all 4) 0 i_where i_token i_number i_word 0 (-1) m_read i_z0 i_crossings i_inns m_posts m_shut m_here i_steps i_done i_at i_gone m_was m_came m_seenAt m_rowWorth m_farBy m_used i_everywhere i_again0 i_d0 i_never i_firstCame i_longRun i_moved i_crowd i_l0 i_fitMany i_fitLeast i_fitMost m_fitPost m_fitEnd m_keptPosts i_x0], [zAr T 0 m_all 3952 (upd (upd (upd f_all 4 0) 5 0) 6 (-1))]] _ _ := G
        replace hl : lv_has ls 5 [(3, .int (nI k_)), (0, .ref mo), (1, .int 2), (2, .int at_)] := hl
        refine lv_iload_n hx hb dX12_text_88 rfl (lv_at hl 0 rfl) ?_
        refine lv_bipush (v := 121) hx hb dX12_text_89 (by decide) ?_
        refine lv_icmp_ge (tgt := 107) hx hb dX12_text_91 (by decide) (fun c_84 => ?_) (fun c_84 => ?_)
        · have c_84n : 121 ≤ k_ := (nI_leI (a := 121) (b := k_) (by omega) (by omega)).mp c_84
          have G := z_cg G 0 rfl (fun _ => 0) (fun j hj => hZ j (by omega))
          have G : zS T A s.heap s [[zAr T 0 m_read 121 (fun _ => 0)], [zO11 mo m_all m_has (f_all 4) 0 i_where i_token i_number i_word 0 (-1) m_read i_z0 i_crossings i_inns m_posts m_shut m_here i_steps i_done i_at i_gone m_was m_came m_seenAt m_rowWorth m_farBy m_used i_everywhere i_again0 i_d0 i_never i_firstCame i_longRun i_moved i_crowd i_l0 i_fitMany i_fitLeast i_fitMost m_fitPost m_fitEnd m_keptPosts i_x0], [zAr T 0 m_all 3952 (upd (upd (upd f_all 4 0) 5 0) 6 (-1))]] _ _ := G
          refine lv_aload_n hx hb dX12_text_107 rfl (lv_at hl 1 rfl) ?_
          refine z_Vv (bc := [[zO11 mo m_all m_has (f_all 4) 0 i_where i_token i_number i_word 0 (-1) m_read i_z0 i_crossings i_inns m_posts m_shut m_here i_steps i_done i_at i_gone m_was m_came m_seenAt m_rowWorth m_farBy m_used i_everywhere i_again0 i_d0 i_never i_firstCame i_longRun i_moved i_crowd i_l0 i_fitMany i_fitLeast i_fitMost m_fitPost m_fitEnd m_keptPosts i_x0], [zAr T 0 m_all 3952 (upd (upd (upd f_all 4 0) 5 0) 6 (-1))]]) (br := [[zAr T 0 m_read 121 (fun _ => 0)]]) (As := []) (rest := []) C G (c_fm_advance l T mo m_all m_has (f_all 4) 0 i_where i_token i_number i_word 0 (-1) m_read i_z0 i_crossings i_inns m_posts m_shut m_here i_steps i_done i_at i_gone m_was m_came m_seenAt m_rowWorth m_farBy m_used i_everywhere i_again0 i_d0 i_never i_firstCame i_longRun i_moved i_crowd i_l0 i_fitMany i_fitLeast i_fitMost m_fitPost m_fitEnd m_keptPosts i_x0 (upd (upd (upd f_all 4 0) 5 0) 6 (-1)) 0 N k hsN rfl (Nat.zero_le _) hN6 (hk.trans (congrArg (fun q9 => tkT q9 N) (funext fun j => ((z_ne (by omega)).trans ((z_ne (by omega)).trans (z_ne (by omega)))).symm))) (fun j hj => by rw [z_ne (by omega), z_ne (by omega), z_ne (by omega)]; exact hby j hj)) (kV_RX12_119 C.2.2.2.2 (Nat.le_of_ble_eq_true rfl) (Nat.le_of_ble_eq_true rfl)) [1, 2] [1, 0] rfl rfl (ci := 11) (qc := (RX12, TX12, 43)) rfl rfl (List.mem_flatten.mpr ⟨_, List.mem_of_getElem? (i := 0) rfl, List.mem_cons_self⟩) rfl rfl hl.1 dX12_text_108 (Nat.le_of_ble_eq_true rfl) (Nat.le_of_ble_eq_true rfl) (fun b1 H locs hw G => ?_)
          refine zEx5 hw ?_
          intro j_next_85 j_where_86 j_token_87 j_number_88 j_word_89
          refine zCu8 ?_
          intro hbs9 h_90 h_91 h_92 h_93 h_94 h_95 h_96
          clear hw
          subst hbs9
          have G : zS T A s.heap s [[zAr T 0 m_read 121 (fun _ => 0)], [zO11 mo m_all m_has (f_all 4) j_next_85 j_where_86 j_token_87 j_number_88 j_word_89 0 (-1) m_read i_z0 i_crossings i_inns m_posts m_shut m_here i_steps i_done i_at i_gone m_was m_came m_seenAt m_rowWorth m_farBy m_used i_everywhere i_again0 i_d0 i_never i_firstCame i_longRun i_moved i_crowd i_l0 i_fitMany i_fitLeast i_fitMost m_fitPost m_fitEnd m_keptPosts i_x0], [zAr T 0 m_all 3952 (upd (upd (upd f_all 4 0) 5 0) 6 (-1))]] _ _ := G
          have h_92 : (0 : Int) ≤ j_next_85.toInt := h_92
          have h_93 : (j_token_87.toInt = 0 ∨ (0 : Int) < j_next_85.toInt) := h_93
          refine z_lp11 (T := T) 111 (fun (xn : Int32) (xw : Int32) (xt : Int32) (xu : Int32) (xo : Int32) (xr : Int32) (xf : Int32) (ga : Nat → Int32) (gr : Nat → Int32) (A9 : pS) (j : Nat) => [[zAr T 0 m_read 121 gr], [zO11 mo m_all m_has (f_all 4) xn xw xt xu xo xr xf m_read i_z0 i_crossings i_inns m_posts m_shut m_here i_steps i_done i_at i_gone m_was m_came m_seenAt m_rowWorth m_farBy m_used i_everywhere i_again0 i_d0 i_never i_firstCame i_longRun i_moved i_crowd i_l0 i_fitMany i_fitLeast i_fitMost m_fitPost m_fitEnd m_keptPosts i_x0], [zAr T 0 m_all 3952 ga]]) (fun (xn : Int32) (xw : Int32) (xt : Int32) (xu : Int32) (xo : Int32) (xr : Int32) (xf : Int32) (ga : Nat → Int32) (gr : Nat → Int32) (A9 : pS) (j : Nat) => [(0, .ref mo), (1, .int 2), (2, .int at_)]) (fun (xn : Int32) (xw : Int32) (xt : Int32) (xu : Int32) (xo : Int32) (xr : Int32) (xf : Int32) (ga : Nat → Int32) (gr : Nat → Int32) (A9 : pS) (j : Nat) => zCF 8 gr ∧ 0 ≤ xn.toInt ∧ xn.toInt ≤ (f_all 4).toInt ∧ zPal (upd (upd (upd f_all 4 0) 5 0) 6 (-1)) ga ∧ zRr k N (f_all 4) xn xw xt xu xo xr xf ga A9 ∧ pLines k 2 (601 - j) A9 gr = pLines k 2 601 (0, 0, 0, -1, -1) (fun _ => 0) ∧ (¬ xr.toInt = 0 ∨ xt.toInt = 0 ∨ (j : Int) < xn.toInt)) (fun (xn : Int32) (xw : Int32) (xt : Int32) (xu : Int32) (xo : Int32) (xr : Int32) (xf : Int32) (ga : Nat → Int32) (gr : Nat → Int32) (A9 : pS) (j : Nat) => zMu xr xt xn (f_all 4)) ?_ j_next_85 j_where_86 j_token_87 j_number_88 j_word_89 0 (-1) (upd (upd (upd f_all 4 0) 5 0) 6 (-1)) (fun _ => 0) (0, 0, 0, -1, -1) 0 (show zCF 8 (fun _ => 0) ∧ 0 ≤ j_next_85.toInt ∧ j_next_85.toInt ≤ (f_all 4).toInt ∧ zPal (upd (upd (upd f_all 4 0) 5 0) 6 (-1)) (upd (upd (upd f_all 4 0) 5 0) 6 (-1)) ∧ zRr k N (f_all 4) j_next_85 j_where_86 j_token_87 j_number_88 j_word_89 0 (-1) (upd (upd (upd f_all 4 0) 5 0) 6 (-1)) (0, 0, 0, -1, -1) ∧ pLines k 2 (601 - 0) (0, 0, 0, -1, -1) (fun _ => 0) = pLines k 2 601 (0, 0, 0, -1, -1) (fun _ => 0) ∧ (¬ (0 : Int32).toInt = 0 ∨ j_token_87.toInt = 0 ∨ (0 : Int) < j_next_85.toInt) from ⟨(zCF_z (by decide) (fun j hj => rfl)), by omega, by omega, (zPal_rf _), (zRr_st hk hby hN6 hsN h_96), rfl, by omega⟩) G (lv_sub hl [1, 2, 3] rfl)
          intro xn xw xt xu xo xr xf ga gr A9 j hI9 ih_111 H locs ls G hl
          replace hI9 : zCF 8 gr ∧ 0 ≤ xn.toInt ∧ xn.toInt ≤ (f_all 4).toInt ∧ zPal (upd (upd (upd f_all 4 0) 5 0) 6 (-1)) ga ∧ zRr k N (f_all 4) xn xw xt xu xo xr xf ga A9 ∧ pLines k 2 (601 - j) A9 gr = pLines k 2 601 (0, 0, 0, -1, -1) (fun _ => 0) ∧ (¬ xr.toInt = 0 ∨ xt.toInt = 0 ∨ (j : Int) < xn.toInt) := hI9
          refine zAn7 hI9 ?_
          intro hL hx1 hx2 hpal hRA hEq hpj
          clear hI9
          replace G : zS T A s.heap s [[zAr T 0 m_read 121 gr], [zO11 mo m_all m_has (f_all 4) xn xw xt xu xo xr xf m_read i_z0 i_crossings i_inns m_posts m_shut m_here i_steps i_done i_at i_gone m_was m_came m_seenAt m_rowWorth m_farBy m_used i_everywhere i_again0 i_d0 i_never i_firstCame i_longRun i_moved i_crowd i_l0 i_fitMany i_fitLeast i_fitMost m_fitPost m_fitEnd m_keptPosts i_x0], [zAr T 0 m_all 3952 ga]] _ _ := G
          replace hl : lv_has ls 5 [(0, .ref mo), (1, .int 2), (2, .int at_)] := hl
          refine lv_aload_n hx hb dX12_text_111 rfl (lv_at hl 0 rfl) ?_
          have hokA := zRr_ok hRA
          refine zAn6 (id hRA) ?_
          intro hA1A hA6A hA7A hA8A hA9A hA10A
          replace hA7A : zHd _ := hA7A
          have hkaA : zHd _ := hokA A9.1 hA1A.2.2.2.2
          have hkbA := hkaA.1
          have hkcA := hkaA.2.1
          have hT4A := pTk_le hokA hA1A.2.2.2.2
          refine z_get C G clX12 1 rfl 8 (by decide) m_fl_RX12_104 rfl dX12_text_112 ?_
          refine lv_if_ne (tgt := 173) hx hb dX12_text_115 (by decide) (fun c_98 => ?_) (fun c_98 => ?_)
          · have c_98n : ¬ xr.toInt = (0 : Int) := fun q => c_98 ((fa_eq _ _).mpr q)
            have hX := hEq.symm.trans (pLines_x (fun z9 => by first | (exact absurd z9.1 (by rw [← hA6A]; omega)) | (exact z9.2 (by omega))))
            have hRd := pRead_e (n := N) hX
            have hww : zHd (A9.2.1.toInt = 0 → xw = nI N) := fun z9 => by first | (exact absurd z9 (by rw [← hA6A]; omega)) | (rw [t2A, hkaA.2.2.1 (pTk_0.mp (by omega))])
            refine lv_iload_n hx hb dX12_text_173 rfl (lv_at hl 1 rfl) ?_
            refine lv_if_ne (tgt := 208) hx hb dX12_text_174 (by decide) (fun _ => ?_) (fun q => absurd q (by decide))
            refine lv_iload_n hx hb dX12_text_208 rfl (lv_at hl 1 rfl) ?_
            refine lv_if_ne (tgt := 237) hx hb dX12_text_209 (by decide) (fun _ => ?_) (fun q => absurd q (by decide))
            have hZ1 : zRr k N (f_all 4) xn xw xt xu xo xr xf ga (pRead k N 2).1 := by rw [hRd, pFin_s (by decide)]; exact hRA
            have hZ2 : (pRead k N 2).2 = gr := by rw [hRd, pFin_s (by decide)]
            have hZ5 := hZ1.2.2.2.1
            have hZ6 := hZ1.2.2.2.2.1
            have hZ5i := congrArg Int32.toInt hZ5
            exact jn_237 xn xw xt xu xo xr xf ga gr (show zCF 8 gr ∧ zPal (upd (upd (upd f_all 4 0) 5 0) 6 (-1)) ga ∧ zRr k N (f_all 4) xn xw xt xu xo xr xf ga (pRead k N 2).1 ∧ (pRead k N 2).2 = gr from ⟨(by first | with_reducible assumption | assumption), hpal, hZ1, hZ2⟩) _ _ ls G (lv_sub hl [0, 1, 2] rfl)
          · have c_98n : xr.toInt = (0 : Int) := (fa_eq _ _).mp c_98
            have hwA : A9.2.1.toInt = 0 := by rw [← hA6A]; omega
            refine zAn5 (hA7A hwA) ?_
            intro t1A t2A t3A t4A t5A
            replace t4A : zHd _ := t4A
            replace t5A : zHd _ := t5A
            have t3iA : xt.toInt = (pTk k A9.1 : Int) := by rw [t3A]; exact nI_toInt (by omega)
            refine lv_aload_n hx hb dX12_text_118 rfl (lv_at hl 0 rfl) ?_
            refine z_get C G clX12 1 rfl 5 (by decide) m_fl_RX12_80 rfl dX12_text_119 ?_
            refine lv_if_eq (tgt := 173) hx hb dX12_text_122 (by decide) (fun c_99 => ?_) (fun c_99 => ?_)
            · have c_99n : xt.toInt = (0 : Int) := (fa_eq _ _).mp c_99
              have hX := hEq.symm.trans (pLines_x (fun z9 => by first | (exact absurd z9.1 (by rw [← hA6A]; omega)) | (exact z9.2 (by omega))))
              have hRd := pRead_e (n := N) hX
              have hww : zHd (A9.2.1.toInt = 0 → xw = nI N) := fun z9 => by first | (exact absurd z9 (by rw [← hA6A]; omega)) | (rw [t2A, hkaA.2.2.1 (pTk_0.mp (by omega))])
              refine lv_iload_n hx hb dX12_text_173 rfl (lv_at hl 1 rfl) ?_
              refine lv_if_ne (tgt := 208) hx hb dX12_text_174 (by decide) (fun _ => ?_) (fun q => absurd q (by decide))
              refine lv_iload_n hx hb dX12_text_208 rfl (lv_at hl 1 rfl) ?_
              refine lv_if_ne (tgt := 237) hx hb dX12_text_209 (by decide) (fun _ => ?_) (fun q => absurd q (by decide))
              have hZ1 : zRr k N (f_all 4) xn xw xt xu xo xr xf ga (pRead k N 2).1 := by rw [hRd, pFin_s (by decide)]; exact hRA
              have hZ2 : (pRead k N 2).2 = gr := by rw [hRd, pFin_s (by decide)]
              have hZ5 := hZ1.2.2.2.1
              have hZ6 := hZ1.2.2.2.2.1
              have hZ5i := congrArg Int32.toInt hZ5
              exact jn_237 xn xw xt xu xo xr xf ga gr (show zCF 8 gr ∧ zPal (upd (upd (upd f_all 4 0) 5 0) 6 (-1)) ga ∧ zRr k N (f_all 4) xn xw xt xu xo xr xf ga (pRead k N 2).1 ∧ (pRead k N 2).2 = gr from ⟨(by first | with_reducible assumption | assumption), hpal, hZ1, hZ2⟩) _ _ ls G (lv_sub hl [0, 1, 2] rfl)
            · have c_99n : ¬ xt.toInt = (0 : Int) := fun q => c_99 ((fa_eq _ _).mpr q)
              have htA : ¬ pTk k A9.1 = 0 := by omega
              refine lv_iload_n hx hb dX12_text_125 rfl (lv_at hl 1 rfl) ?_
              refine lv_lookup (tgt := 166) hx hb dX12_text_126 (by decide) rfl (by decide) ?_
              refine lv_aload_n hx hb dX12_text_166 rfl (lv_at hl 0 rfl) ?_
              refine z_Vv (bc := [[zO11 mo m_all m_has (f_all 4) xn xw xt xu xo xr xf m_read i_z0 i_crossings i_inns m_posts m_shut m_here i_steps i_done i_at i_gone m_was m_came m_seenAt m_rowWorth m_farBy m_used i_everywhere i_again0 i_d0 i_never i_firstCame i_longRun i_moved i_crowd i_l0 i_fitMany i_fitLeast i_fitMost m_fitPost m_fitEnd m_keptPosts i_x0], [zAr T 0 m_all 3952 ga], [zAr T 0 m_read 121 gr]]) (br := []) (As := []) (rest := []) C G (c_fm_logLine l T mo m_all m_has (f_all 4) xn xw xt xu xo xr xf m_read i_z0 i_crossings i_inns m_posts m_shut m_here i_steps i_done i_at i_gone m_was m_came m_seenAt m_rowWorth m_farBy m_used i_everywhere i_again0 i_d0 i_never i_firstCame i_longRun i_moved i_crowd i_l0 i_fitMany i_fitLeast i_fitMost m_fitPost m_fitEnd m_keptPosts i_x0 ga gr k N A9 (by first | with_reducible assumption | with_reducible rfl | omega | assumption | rfl) (by first | with_reducible assumption | with_reducible rfl | omega | assumption | rfl) (by first | with_reducible assumption | with_reducible rfl | omega | assumption | rfl) (by first | with_reducible assumption | with_reducible rfl | omega | assumption | rfl) hRA hwA) (kV_RX12_153 C.2.2.2.2 (Nat.le_of_ble_eq_true rfl) (Nat.le_of_ble_eq_true rfl)) [1, 2, 0] [0, 0, 0] rfl rfl (ci := 11) (qc := (RX12, TX12, 43)) rfl rfl (List.mem_flatten.mpr ⟨_, List.mem_of_getElem? (i := 0) rfl, List.mem_cons_self⟩) rfl rfl hl.1 dX12_text_167 (Nat.le_of_ble_eq_true rfl) (Nat.le_of_ble_eq_true rfl) (fun b1 H locs hw G => ?_)
              refine zEx8 hw ?_
              intro j_next_100 j_where_101 j_token_102 j_number_103 j_word_104 j_wrong_105 g_all_106 g_read_107
              refine zCu9 ?_
              intro hbs9 h_108 h_109 h_110 h_111 h_112 h_113 h_114 h_115
              clear hw
              subst hbs9
              have G : zS T A s.heap s [[zO11 mo m_all m_has (f_all 4) j_next_100 j_where_101 j_token_102 j_number_103 j_word_104 j_wrong_105 xf m_read i_z0 i_crossings i_inns m_posts m_shut m_here i_steps i_done i_at i_gone m_was m_came m_seenAt m_rowWorth m_farBy m_used i_everywhere i_again0 i_d0 i_never i_firstCame i_longRun i_moved i_crowd i_l0 i_fitMany i_fitLeast i_fitMost m_fitPost m_fitEnd m_keptPosts i_x0], [zAr T 0 m_all 3952 g_all_106], [zAr T 0 m_read 121 g_read_107]] _ _ := G
              have hnR : zRr k N (f_all 4) j_next_100 j_where_101 j_token_102 j_number_103 j_word_104 j_wrong_105 xf g_all_106 (pLine k 2 A9 gr).1 := by rw [pLine_2]; exact h_114
              have hnG : g_read_107 = (pLine k 2 A9 gr).2 := by rw [pLine_2]; exact h_115
              refine lv_goto (tgt := 111) hx hb dX12_text_170 (by decide) ?_
              have G := G.sub (bs' := [[zAr T 0 m_read 121 g_read_107], [zO11 mo m_all m_has (f_all 4) j_next_100 j_where_101 j_token_102 j_number_103 j_word_104 j_wrong_105 xf m_read i_z0 i_crossings i_inns m_posts m_shut m_here i_steps i_done i_at i_gone m_was m_came m_seenAt m_rowWorth m_farBy m_used i_everywhere i_again0 i_d0 i_never i_firstCame i_longRun i_moved i_crowd i_l0 i_fitMany i_fitLeast i_fitMost m_fitPost m_fitEnd m_keptPosts i_x0], [zAr T 0 m_all 3952 g_all_106]]) [2, 0, 1] rfl
              exact ih_111 j_next_100 j_where_101 j_token_102 j_number_103 j_word_104 j_wrong_105 xf g_all_106 g_read_107 ((pLine k 2 A9 gr).1) (j + 1) (show zCF 8 g_read_107 ∧ 0 ≤ j_next_100.toInt ∧ j_next_100.toInt ≤ (f_all 4).toInt ∧ zPal (upd (upd (upd f_all 4 0) 5 0) 6 (-1)) g_all_106 ∧ zRr k N (f_all 4) j_next_100 j_where_101 j_token_102 j_number_103 j_word_104 j_wrong_105 xf g_all_106 ((pLine k 2 A9 gr).1) ∧ pLines k 2 (601 - (j + 1)) ((pLine k 2 A9 gr).1) g_read_107 = pLines k 2 601 (0, 0, 0, -1, -1) (fun _ => 0) ∧ (¬ j_wrong_105.toInt = 0 ∨ j_token_102.toInt = 0 ∨ ((j + 1) : Int) < j_next_100.toInt) from ⟨(by first | with_reducible assumption | assumption), by omega, by omega, (hpal.tr h_112), hnR, (by rw [hnG]; exact pLines_n (by omega) hwA htA hEq), by omega⟩) (show zMu j_wrong_105 j_token_102 j_next_100 (f_all 4) < zMu xr xt xn (f_all 4) from zMu_lt (by omega) (by omega) (by omega) (by omega)) _ _ ls G (lv_sub hl [0, 1, 2] rfl)
        · have c_84n : ¬ 121 ≤ k_ := fun q => c_84 ((nI_leI (a := 121) (b := k_) (by omega) (by omega)).mpr q)
          refine lv_aload_n hx hb dX12_text_94 rfl (lv_at hl 1 rfl) ?_
          refine z_get C G clX12 1 rfl 10 (by decide) m_fl_RX12_17 rfl dX12_text_95 ?_
          refine lv_iload_n hx hb dX12_text_98 rfl (lv_at hl 0 rfl) ?_
          refine lv_iconst (v := 0) hx hb dX12_text_99 (by decide) ?_
          refine z_ist C G 0 rfl (vp_in_nI (by omega) (by decide)) dX12_text_100 (fun H locs G => ?_)
          rw [nI_clamp (by omega)] at G
          have G : zS T A s.heap s [[zAr T 0 m_read 121 (upd z k_ 0)], [zO11 mo m_all m_has (f_all 4) 0 i_where i_token i_number i_word 0 (-1) m_read i_z0 i_crossings i_inns m_posts m_shut m_here i_steps i_done i_at i_gone m_was m_came m_seenAt m_rowWorth m_farBy m_used i_everywhere i_again0 i_d0 i_never i_firstCame i_longRun i_moved i_crowd i_l0 i_fitMany i_fitLeast i_fitMost m_fitPost m_fitEnd m_keptPosts i_x0], [zAr T 0 m_all 3952 (upd (upd (upd f_all 4 0) 5 0) 6 (-1))]] _ _ := G
          refine lv_iinc (v := nI (k_ + 1)) (lv' := [(3, .int (nI (k_ + 1))), (0, .ref mo), (1, .int 2), (2, .int at_)]) hx hb dX12_text_101 hl (k := 0) rfl (z_inc k_ 1) (by decide) (zLvf_h rfl) (fun ls hl => ?_)
          refine lv_goto (tgt := 88) hx hb dX12_text_104 (by decide) ?_
          exact ih_88 (k_ + 1) (upd z k_ 0) (show (k_ + 1) ≤ 121 ∧ (∀ j, j < (k_ + 1) → (upd z k_ 0) j = 0) from ⟨by omega, z_updE (F := fun _ => 0) hZ rfl⟩) (show 121 - (k_ + 1) < 121 - k_ from by omega) _ _ ls G (lv_sub hl [0, 1, 2, 3] rfl)
      · have h_67 : (at_.toInt < 0 ∨ ((upd (upd (upd f_all 4 0) 5 0) 6 (-1)) 2).toInt ≤ at_.toInt) := h_67
        refine lv_if_ne (tgt := 71) hx hb dX12_text_65 (by decide) (fun q => absurd (by decide) q) (fun _ => ?_)
        refine lv_bipush (v := (-2)) hx hb dX12_text_68 (by decide) ?_
        have G := G.sub (bs' := [[zO11 mo m_all m_has (f_all 4) i_next i_where i_token i_number i_word i_wrong i_farCrossing m_read i_z0 i_crossings i_inns m_posts m_shut m_here i_steps i_done i_at i_gone m_was m_came m_seenAt m_rowWorth m_farBy m_used i_everywhere i_again0 i_d0 i_never i_firstCame i_longRun i_moved i_crowd i_l0 i_fitMany i_fitLeast i_fitMost m_fitPost m_fitEnd m_keptPosts i_x0], [zAr T 0 m_all 3952 (upd (upd (upd f_all 4 0) 5 0) 6 (-1))], [zAr T 0 m_read 121 f_read]]) [1, 2, 0] rfl
        exact z_back hQz_ (z_iret C hr hlocks G (Nat.le_of_ble_eq_true rfl) (Nat.le_of_ble_eq_true rfl) dX12_text_70 ⟨(f_all 4), i_next, i_where, i_token, i_number, i_word, i_wrong, i_farCrossing, (upd (upd (upd f_all 4 0) 5 0) 6 (-1)), f_read, rfl, (zBI_hd hB rfl (fun q hq => by rw [hF q (by omega) (by omega) (by omega)]; exact hB.2.1 q hq) (fun j hj => hF j (by omega) (by omega) (by omega))), rfl, (fun j hj => hF j (by omega) (by omega) (by omega)), (zText_b (fun z9 => by have z8 := hoi.mp z9; omega))⟩)
  · have h_6 : ((2 : Int) < (0 : Int) ∨ (2 : Int) < (2 : Int)) := h_6
    refine lv_if_eq (tgt := 68) hx hb dX12_text_38 (by decide) (fun _ => ?_) (fun q => absurd (by decide) q)
    refine lv_bipush (v := (-2)) hx hb dX12_text_68 (by decide) ?_
    exact z_back hQz_ (z_iret C hr hlocks G (Nat.le_of_ble_eq_true rfl) (Nat.le_of_ble_eq_true rfl) dX12_text_70 ⟨(f_all 4), i_next, i_where, i_token, i_number, i_word, i_wrong, i_farCrossing, (upd (upd (upd f_all 4 0) 5 0) 6 (-1)), f_read, rfl, (zBI_hd hB rfl (fun q hq => by rw [hF q (by omega) (by omega) (by omega)]; exact hB.2.1 q hq) (fun j hj => hF j (by omega) (by omega) (by omega))), rfl, (fun j hj => hF j (by omega) (by omega) (by omega)), (by exfalso; omega)⟩)
/-! RECORDS: what the class keeps, as the reference keeps it -/
def zLnd (cr inn : Int32) (k1 k2 k3 k4 g : Nat → Int32) : Prop := cr = g 0 ∧ (0 ≤ (g 0).toInt ∧ (g 0).toInt ≤ 7) ∧ inn = g 1 ∧ (∀ j : Nat, j < 7 → k1 j = g (2 + j) ∧ k3 j = g (9 + j) ∧ k4 j = g (16 + j)) ∧ (∀ j : Nat, j < 7 → (g 0).toInt ≤ (j : Int) → k1 j = 0) ∧ (∀ j r : Nat, j < 7 → r < 4 → (r : Int) < (k1 j).toInt → k2 (4 * j + r) = g (23 + 4 * j + r))
def zDyd (dd : Int32) (d1 d2 d3 g : Nat → Int32) : Prop := dd = g 0 ∧ (0 ≤ (g 0).toInt ∧ (g 0).toInt ≤ 40) ∧ ∀ j : Nat, (j : Int) < (g 0).toInt → d1 j = g (1 + 3 * j) ∧ d2 j = g (2 + 3 * j) ∧ d3 j = g (3 + 3 * j)
def zLgd (gg : Int32) (e1 e2 g : Nat → Int32) : Prop := gg = g 0 ∧ (0 ≤ (g 0).toInt ∧ (g 0).toInt ≤ 8) ∧ ∀ j : Nat, (j : Int) < (g 0).toInt → e1 j = g (1 + 2 * j) ∧ e2 j = g (2 + 2 * j)
theorem zLnd_cg {cr inn : Int32} {k1 k2 k3 k4 g g' : Nat → Int32} (h : zLnd cr inn k1 k2 k3 k4 g) (e : ∀ j, j < 51 → g' j = g j) : zLnd cr inn k1 k2 k3 k4 g' := by
  obtain ⟨a, b, c, d, f, i⟩ := h
  have e0 := e 0 (by decide)
  exact ⟨a.trans e0.symm, by rw [e0]; exact b, c.trans (e 1 (by decide)).symm, fun j hj => ⟨(d j hj).1.trans (e _ (by omega)).symm, (d j hj).2.1.trans (e _ (by omega)).symm, (d j hj).2.2.trans (e _ (by omega)).symm⟩, fun j hj hq => f j hj (by rw [← e0]; exact hq), fun j r h1 h2 h3 => (i j r h1 h2 h3).trans (e _ (by omega)).symm⟩
theorem zDyd_cg {dd : Int32} {d1 d2 d3 g g' : Nat → Int32} (h : zDyd dd d1 d2 d3 g) (e : ∀ j, j < 121 → g' j = g j) : zDyd dd d1 d2 d3 g' := by
  obtain ⟨a, b, c⟩ := h
  have e0 := e 0 (by decide)
  refine ⟨a.trans e0.symm, by rw [e0]; exact b, fun j hj => ?_⟩
  rw [e0] at hj
  rw [e _ (by omega), e _ (by omega), e _ (by omega)]
  exact c j hj
theorem zLgd_cg {dd : Int32} {d1 d2 g g' : Nat → Int32} (h : zLgd dd d1 d2 g) (e : ∀ j, j < 17 → g' j = g j) : zLgd dd d1 d2 g' := by
  obtain ⟨a, b, c⟩ := h
  have e0 := e 0 (by decide)
  refine ⟨a.trans e0.symm, by rw [e0]; exact b, fun j hj => ?_⟩
  rw [e0] at hj
  rw [e _ (by omega), e _ (by omega)]
  exact c j hj
/-- rows that agree where they matter -/
theorem zLnd_eq {cr inn : Int32} {k1 k2 k3 k4 s1 s2 s3 s4 g : Nat → Int32} (h : zLnd cr inn k1 k2 k3 k4 g) (hb : ∀ j, j < 7 → (k1 j).toInt ≤ 4) (e1 : ∀ j, j < 7 → s1 j = k1 j) (e2 : ∀ j, j < 28 → s2 j = k2 j) (e3 : ∀ j, j < 7 → s3 j = k3 j) (e4 : ∀ j, j < 7 → s4 j = k4 j) : zLnd cr inn s1 s2 s3 s4 g := by
  obtain ⟨a, b, c, d, f, i⟩ := h
  exact ⟨a, b, c, fun j hj => ⟨(e1 j hj).trans (d j hj).1, (e3 j hj).trans (d j hj).2.1, (e4 j hj).trans (d j hj).2.2⟩, fun j hj hq => (e1 j hj).trans (f j hj hq), fun j r h1 h2 h3 => (e2 _ (by omega)).trans (i j r h1 h2 (by rw [← e1 j h1]; exact h3))⟩
theorem zDyd_eq {dd : Int32} {d1 d2 d3 s1 s2 s3 g : Nat → Int32} (h : zDyd dd d1 d2 d3 g) (e1 : ∀ j, j < 40 → s1 j = d1 j) (e2 : ∀ j, j < 40 → s2 j = d2 j) (e3 : ∀ j, j < 40 → s3 j = d3 j) : zDyd dd s1 s2 s3 g := by
  obtain ⟨a, b, c⟩ := h
  exact ⟨a, b, fun j hj => ⟨(e1 j (by omega)).trans (c j hj).1, (e2 j (by omega)).trans (c j hj).2.1, (e3 j (by omega)).trans (c j hj).2.2⟩⟩
theorem zLgd_eq {dd : Int32} {d1 d2 s1 s2 g : Nat → Int32} (h : zLgd dd d1 d2 g) (e1 : ∀ j, j < 8 → s1 j = d1 j) (e2 : ∀ j, j < 8 → s2 j = d2 j) : zLgd dd s1 s2 g := by
  obtain ⟨a, b, c⟩ := h
  exact ⟨a, b, fun j hj => ⟨(e1 j (by omega)).trans (c j hj).1, (e2 j (by omega)).trans (c j hj).2⟩⟩
theorem zLnd_c {cr inn tof : Int32} {k1 k2 k3 k4 f : Nat → Int32} {a : pS} (h : zLc cr inn k1 k2 k3 k4 tof a f) (q : a.2.2.1.toInt = 0) : zLnd cr inn k1 k2 k3 k4 f := by
  obtain ⟨a, b, c, d, e, f, -⟩ := h q
  exact ⟨a, b, c, d, e, f⟩
theorem zDyd_c {dd : Int32} {d1 d2 d3 f : Nat → Int32} {a : pS} (h : zDc dd d1 d2 d3 a f) (q : a.2.2.1.toInt = 0) : zDyd dd d1 d2 d3 f := h q
theorem zLgd_c {dd : Int32} {d1 d2 f : Nat → Int32} {a : pS} (h : zGc dd d1 d2 a f) (q : a.2.2.1.toInt = 0) : zLgd dd d1 d2 f := h q
theorem z_in {s nr j m : Nat} {row G : Nat → Int32} (h : pBase s nr ≤ j ∧ j < pBase s nr + pSize s) (e : j - pBase s nr = m) : pPut s nr row G j = row m := by
  have : pPut s nr row G j = row (j - pBase s nr) := if_pos h
  rw [this, e]
def zBy (x y : Int32) : Prop := zBe x y ∧ x.toInt8.toInt32 = x
def zTd (ln fl pl : Int32) (ft fk G : Nat → Int32) : Prop := ln = G 4 ∧ fl = G 5 ∧ pl = G 6 ∧ (∀ j, j < 3 → fk j = G j) ∧ ∀ j, j < 600 → zBy (ft j) (G (10 + j))
def zTR (ln : Int32) (fl : Int32) (pl : Int32) (ft : Nat → Int32) (fk : Nat → Int32) (cr_L0 : Int32) (inn_L0 : Int32) (k1_L0 : Nat → Int32) (k2_L0 : Nat → Int32) (k3_L0 : Nat → Int32) (k4_L0 : Nat → Int32) (cr_L1 : Int32) (inn_L1 : Int32) (k1_L1 : Nat → Int32) (k2_L1 : Nat → Int32) (k3_L1 : Nat → Int32) (k4_L1 : Nat → Int32) (dd_D0 : Int32) (p1_D0 : Nat → Int32) (p2_D0 : Nat → Int32) (p3_D0 : Nat → Int32) (dd_D1 : Int32) (p1_D1 : Nat → Int32) (p2_D1 : Nat → Int32) (p3_D1 : Nat → Int32) (gg_G0 : Int32) (q1_G0 : Nat → Int32) (q2_G0 : Nat → Int32) (gg_G1 : Int32) (q1_G1 : Nat → Int32) (q2_G1 : Nat → Int32) (G : Nat → Int32) : Prop := zTd ln fl pl ft fk G ∧ zLnd cr_L0 inn_L0 k1_L0 k2_L0 k3_L0 k4_L0 (fun j => G (610 + j)) ∧ zLnd cr_L1 inn_L1 k1_L1 k2_L1 k3_L1 k4_L1 (fun j => G (661 + j)) ∧ zDyd dd_D0 p1_D0 p2_D0 p3_D0 (fun j => G (712 + j)) ∧ zDyd dd_D1 p1_D1 p2_D1 p3_D1 (fun j => G (833 + j)) ∧ zLgd gg_G0 q1_G0 q2_G0 (fun j => G (954 + j)) ∧ zLgd gg_G1 q1_G1 q2_G1 (fun j => G (971 + j))
section ZTR
variable {ln : Int32} {fl : Int32} {pl : Int32} {ft : Nat → Int32} {fk : Nat → Int32} {cr_L0 : Int32} {inn_L0 : Int32} {k1_L0 : Nat → Int32} {k2_L0 : Nat → Int32} {k3_L0 : Nat → Int32} {k4_L0 : Nat → Int32} {cr_L1 : Int32} {inn_L1 : Int32} {k1_L1 : Nat → Int32} {k2_L1 : Nat → Int32} {k3_L1 : Nat → Int32} {k4_L1 : Nat → Int32} {dd_D0 : Int32} {p1_D0 : Nat → Int32} {p2_D0 : Nat → Int32} {p3_D0 : Nat → Int32} {dd_D1 : Int32} {p1_D1 : Nat → Int32} {p2_D1 : Nat → Int32} {p3_D1 : Nat → Int32} {gg_G0 : Int32} {q1_G0 : Nat → Int32} {q2_G0 : Nat → Int32} {gg_G1 : Int32} {q1_G1 : Nat → Int32} {q2_G1 : Nat → Int32} {G G2 : Nat → Int32}
theorem zTR_cg (h : zTR ln fl pl ft fk cr_L0 inn_L0 k1_L0 k2_L0 k3_L0 k4_L0 cr_L1 inn_L1 k1_L1 k2_L1 k3_L1 k4_L1 dd_D0 p1_D0 p2_D0 p3_D0 dd_D1 p1_D1 p2_D1 p3_D1 gg_G0 q1_G0 q2_G0 gg_G1 q1_G1 q2_G1 G) (e : ∀ j, j < 988 → G2 j = G j) : zTR ln fl pl ft fk cr_L0 inn_L0 k1_L0 k2_L0 k3_L0 k4_L0 cr_L1 inn_L1 k1_L1 k2_L1 k3_L1 k4_L1 dd_D0 p1_D0 p2_D0 p3_D0 dd_D1 p1_D1 p2_D1 p3_D1 gg_G0 q1_G0 q2_G0 gg_G1 q1_G1 q2_G1 G2 := by
  obtain ⟨⟨a, b, c, d, f⟩, h1, h2, h3, h4, h5, h6⟩ := h
  exact ⟨⟨a.trans (e _ (by decide)).symm, b.trans (e _ (by decide)).symm, c.trans (e _ (by decide)).symm, fun j hj => (d j hj).trans (e _ (by omega)).symm, fun j hj => by rw [e _ (by omega)]; exact f j hj⟩, zLnd_cg h1 (fun j hj => e _ (by omega)), zLnd_cg h2 (fun j hj => e _ (by omega)), zDyd_cg h3 (fun j hj => e _ (by omega)), zDyd_cg h4 (fun j hj => e _ (by omega)), zLgd_cg h5 (fun j hj => e _ (by omega)), zLgd_cg h6 (fun j hj => e _ (by omega))⟩
/-- the tape taken, a fault told -/
theorem zTR_hd {fl2 pl2 : Int32} (h : zTR ln fl pl ft fk cr_L0 inn_L0 k1_L0 k2_L0 k3_L0 k4_L0 cr_L1 inn_L1 k1_L1 k2_L1 k3_L1 k4_L1 dd_D0 p1_D0 p2_D0 p3_D0 dd_D1 p1_D1 p2_D1 p3_D1 gg_G0 q1_G0 q2_G0 gg_G1 q1_G1 q2_G1 G) : zTR 0 fl2 pl2 ft fk cr_L0 inn_L0 k1_L0 k2_L0 k3_L0 k4_L0 cr_L1 inn_L1 k1_L1 k2_L1 k3_L1 k4_L1 dd_D0 p1_D0 p2_D0 p3_D0 dd_D1 p1_D1 p2_D1 p3_D1 gg_G0 q1_G0 q2_G0 gg_G1 q1_G1 q2_G1 (pHd G fl2 pl2) := by
  obtain ⟨⟨a, b, c, d, f⟩, h1, h2, h3, h4, h5, h6⟩ := h
  have e : ∀ j, ¬ j = 4 → ¬ j = 5 → ¬ j = 6 → pHd G fl2 pl2 j = G j := fun j a b c => by unfold pHd; rw [z_ne c, z_ne b, z_ne a]
  exact ⟨⟨rfl, rfl, rfl, fun j hj => (d j hj).trans (e _ (by omega) (by omega) (by omega)).symm, fun j hj => by rw [e _ (by omega) (by omega) (by omega)]; exact f j hj⟩, zLnd_cg h1 (fun j hj => e _ (by omega) (by omega) (by omega)), zLnd_cg h2 (fun j hj => e _ (by omega) (by omega) (by omega)), zDyd_cg h3 (fun j hj => e _ (by omega) (by omega) (by omega)), zDyd_cg h4 (fun j hj => e _ (by omega) (by omega) (by omega)), zLgd_cg h5 (fun j hj => e _ (by omega) (by omega) (by omega)), zLgd_cg h6 (fun j hj => e _ (by omega) (by omega) (by omega))⟩
theorem zTR_p00 {cr_L0_n : Int32} {inn_L0_n : Int32} {k1_L0_n : Nat → Int32} {k2_L0_n : Nat → Int32} {k3_L0_n : Nat → Int32} {k4_L0_n : Nat → Int32} {fk2 row : Nat → Int32} (h : zTR ln fl pl ft fk cr_L0 inn_L0 k1_L0 k2_L0 k3_L0 k4_L0 cr_L1 inn_L1 k1_L1 k2_L1 k3_L1 k4_L1 dd_D0 p1_D0 p2_D0 p3_D0 dd_D1 p1_D1 p2_D1 p3_D1 gg_G0 q1_G0 q2_G0 gg_G1 q1_G1 q2_G1 G) (hk : ∀ j, j < 3 → fk2 j = G2 j) (hG : ∀ j, 3 ≤ j → G2 j = G j) (hn : zLnd cr_L0_n inn_L0_n k1_L0_n k2_L0_n k3_L0_n k4_L0_n row) : zTR ln fl pl ft fk2 cr_L0_n inn_L0_n k1_L0_n k2_L0_n k3_L0_n k4_L0_n cr_L1 inn_L1 k1_L1 k2_L1 k3_L1 k4_L1 dd_D0 p1_D0 p2_D0 p3_D0 dd_D1 p1_D1 p2_D1 p3_D1 gg_G0 q1_G0 q2_G0 gg_G1 q1_G1 q2_G1 (pPut 0 0 row G2) := by
  obtain ⟨⟨a, b, c, d, f⟩, h1, h2, h3, h4, h5, h6⟩ := h
  have o : ∀ j, ¬ (610 ≤ j ∧ j < 661) → pPut 0 0 row G2 j = G2 j := fun j q => if_neg q
  have e : ∀ j, 3 ≤ j ∧ ¬ (610 ≤ j ∧ j < 661) → pPut 0 0 row G2 j = G j := fun j q => (o j q.2).trans (hG j q.1)
  exact ⟨⟨a.trans (e _ (by omega)).symm, b.trans (e _ (by omega)).symm, c.trans (e _ (by omega)).symm, fun j hj => (hk j hj).trans (o _ (by omega)).symm, fun j hj => by rw [e _ (by omega)]; exact f j hj⟩, zLnd_cg hn (fun j hj => z_in (by show pBase 0 0 ≤ 610 + j ∧ 610 + j < pBase 0 0 + pSize 0; exact ⟨Nat.le_add_right 610 j, Nat.add_lt_add_left hj 610⟩) (show (610 + j) - 610 = j by omega)), zLnd_cg h2 (fun j hj => e _ (by omega)), zDyd_cg h3 (fun j hj => e _ (by omega)), zDyd_cg h4 (fun j hj => e _ (by omega)), zLgd_cg h5 (fun j hj => e _ (by omega)), zLgd_cg h6 (fun j hj => e _ (by omega))⟩
theorem zTR_p01 {cr_L1_n : Int32} {inn_L1_n : Int32} {k1_L1_n : Nat → Int32} {k2_L1_n : Nat → Int32} {k3_L1_n : Nat → Int32} {k4_L1_n : Nat → Int32} {fk2 row : Nat → Int32} (h : zTR ln fl pl ft fk cr_L0 inn_L0 k1_L0 k2_L0 k3_L0 k4_L0 cr_L1 inn_L1 k1_L1 k2_L1 k3_L1 k4_L1 dd_D0 p1_D0 p2_D0 p3_D0 dd_D1 p1_D1 p2_D1 p3_D1 gg_G0 q1_G0 q2_G0 gg_G1 q1_G1 q2_G1 G) (hk : ∀ j, j < 3 → fk2 j = G2 j) (hG : ∀ j, 3 ≤ j → G2 j = G j) (hn : zLnd cr_L1_n inn_L1_n k1_L1_n k2_L1_n k3_L1_n k4_L1_n row) : zTR ln fl pl ft fk2 cr_L0 inn_L0 k1_L0 k2_L0 k3_L0 k4_L0 cr_L1_n inn_L1_n k1_L1_n k2_L1_n k3_L1_n k4_L1_n dd_D0 p1_D0 p2_D0 p3_D0 dd_D1 p1_D1 p2_D1 p3_D1 gg_G0 q1_G0 q2_G0 gg_G1 q1_G1 q2_G1 (pPut 0 1 row G2) := by
  obtain ⟨⟨a, b, c, d, f⟩, h1, h2, h3, h4, h5, h6⟩ := h
  have o : ∀ j, ¬ (661 ≤ j ∧ j < 712) → pPut 0 1 row G2 j = G2 j := fun j q => if_neg q
  have e : ∀ j, 3 ≤ j ∧ ¬ (661 ≤ j ∧ j < 712) → pPut 0 1 row G2 j = G j := fun j q => (o j q.2).trans (hG j q.1)
  exact ⟨⟨a.trans (e _ (by omega)).symm, b.trans (e _ (by omega)).symm, c.trans (e _ (by omega)).symm, fun j hj => (hk j hj).trans (o _ (by omega)).symm, fun j hj => by rw [e _ (by omega)]; exact f j hj⟩, zLnd_cg h1 (fun j hj => e _ (by omega)), zLnd_cg hn (fun j hj => z_in (by show pBase 0 1 ≤ 661 + j ∧ 661 + j < pBase 0 1 + pSize 0; exact ⟨Nat.le_add_right 661 j, Nat.add_lt_add_left hj 661⟩) (show (661 + j) - 661 = j by omega)), zDyd_cg h3 (fun j hj => e _ (by omega)), zDyd_cg h4 (fun j hj => e _ (by omega)), zLgd_cg h5 (fun j hj => e _ (by omega)), zLgd_cg h6 (fun j hj => e _ (by omega))⟩
theorem zTR_p10 {dd_D0_n : Int32} {p1_D0_n : Nat → Int32} {p2_D0_n : Nat → Int32} {p3_D0_n : Nat → Int32} {fk2 row : Nat → Int32} (h : zTR ln fl pl ft fk cr_L0 inn_L0 k1_L0 k2_L0 k3_L0 k4_L0 cr_L1 inn_L1 k1_L1 k2_L1 k3_L1 k4_L1 dd_D0 p1_D0 p2_D0 p3_D0 dd_D1 p1_D1 p2_D1 p3_D1 gg_G0 q1_G0 q2_G0 gg_G1 q1_G1 q2_G1 G) (hk : ∀ j, j < 3 → fk2 j = G2 j) (hG : ∀ j, 3 ≤ j → G2 j = G j) (hn : zDyd dd_D0_n p1_D0_n p2_D0_n p3_D0_n row) : zTR ln fl pl ft fk2 cr_L0 inn_L0 k1_L0 k2_L0 k3_L0 k4_L0 cr_L1 inn_L1 k1_L1 k2_L1 k3_L1 k4_L1 dd_D0_n p1_D0_n p2_D0_n p3_D0_n dd_D1 p1_D1 p2_D1 p3_D1 gg_G0 q1_G0 q2_G0 gg_G1 q1_G1 q2_G1 (pPut 1 0 row G2) := by
  obtain ⟨⟨a, b, c, d, f⟩, h1, h2, h3, h4, h5, h6⟩ := h
  have o : ∀ j, ¬ (712 ≤ j ∧ j < 833) → pPut 1 0 row G2 j = G2 j := fun j q => if_neg q
  have e : ∀ j, 3 ≤ j ∧ ¬ (712 ≤ j ∧ j < 833) → pPut 1 0 row G2 j = G j := fun j q => (o j q.2).trans (hG j q.1)
  exact ⟨⟨a.trans (e _ (by omega)).symm, b.trans (e _ (by omega)).symm, c.trans (e _ (by omega)).symm, fun j hj => (hk j hj).trans (o _ (by omega)).symm, fun j hj => by rw [e _ (by omega)]; exact f j hj⟩, zLnd_cg h1 (fun j hj => e _ (by omega)), zLnd_cg h2 (fun j hj => e _ (by omega)), zDyd_cg hn (fun j hj => z_in (by show pBase 1 0 ≤ 712 + j ∧ 712 + j < pBase 1 0 + pSize 1; exact ⟨Nat.le_add_right 712 j, Nat.add_lt_add_left hj 712⟩) (show (712 + j) - 712 = j by omega)), zDyd_cg h4 (fun j hj => e _ (by omega)), zLgd_cg h5 (fun j hj => e _ (by omega)), zLgd_cg h6 (fun j hj => e _ (by omega))⟩
theorem zTR_p11 {dd_D1_n : Int32} {p1_D1_n : Nat → Int32} {p2_D1_n : Nat → Int32} {p3_D1_n : Nat → Int32} {fk2 row : Nat → Int32} (h : zTR ln fl pl ft fk cr_L0 inn_L0 k1_L0 k2_L0 k3_L0 k4_L0 cr_L1 inn_L1 k1_L1 k2_L1 k3_L1 k4_L1 dd_D0 p1_D0 p2_D0 p3_D0 dd_D1 p1_D1 p2_D1 p3_D1 gg_G0 q1_G0 q2_G0 gg_G1 q1_G1 q2_G1 G) (hk : ∀ j, j < 3 → fk2 j = G2 j) (hG : ∀ j, 3 ≤ j → G2 j = G j) (hn : zDyd dd_D1_n p1_D1_n p2_D1_n p3_D1_n row) : zTR ln fl pl ft fk2 cr_L0 inn_L0 k1_L0 k2_L0 k3_L0 k4_L0 cr_L1 inn_L1 k1_L1 k2_L1 k3_L1 k4_L1 dd_D0 p1_D0 p2_D0 p3_D0 dd_D1_n p1_D1_n p2_D1_n p3_D1_n gg_G0 q1_G0 q2_G0 gg_G1 q1_G1 q2_G1 (pPut 1 1 row G2) := by
  obtain ⟨⟨a, b, c, d, f⟩, h1, h2, h3, h4, h5, h6⟩ := h
  have o : ∀ j, ¬ (833 ≤ j ∧ j < 954) → pPut 1 1 row G2 j = G2 j := fun j q => if_neg q
  have e : ∀ j, 3 ≤ j ∧ ¬ (833 ≤ j ∧ j < 954) → pPut 1 1 row G2 j = G j := fun j q => (o j q.2).trans (hG j q.1)
  exact ⟨⟨a.trans (e _ (by omega)).symm, b.trans (e _ (by omega)).symm, c.trans (e _ (by omega)).symm, fun j hj => (hk j hj).trans (o _ (by omega)).symm, fun j hj => by rw [e _ (by omega)]; exact f j hj⟩, zLnd_cg h1 (fun j hj => e _ (by omega)), zLnd_cg h2 (fun j hj => e _ (by omega)), zDyd_cg h3 (fun j hj => e _ (by omega)), zDyd_cg hn (fun j hj => z_in (by show pBase 1 1 ≤ 833 + j ∧ 833 + j < pBase 1 1 + pSize 1; exact ⟨Nat.le_add_right 833 j, Nat.add_lt_add_left hj 833⟩) (show (833 + j) - 833 = j by omega)), zLgd_cg h5 (fun j hj => e _ (by omega)), zLgd_cg h6 (fun j hj => e _ (by omega))⟩
theorem zTR_p20 {gg_G0_n : Int32} {q1_G0_n : Nat → Int32} {q2_G0_n : Nat → Int32} {fk2 row : Nat → Int32} (h : zTR ln fl pl ft fk cr_L0 inn_L0 k1_L0 k2_L0 k3_L0 k4_L0 cr_L1 inn_L1 k1_L1 k2_L1 k3_L1 k4_L1 dd_D0 p1_D0 p2_D0 p3_D0 dd_D1 p1_D1 p2_D1 p3_D1 gg_G0 q1_G0 q2_G0 gg_G1 q1_G1 q2_G1 G) (hk : ∀ j, j < 3 → fk2 j = G2 j) (hG : ∀ j, 3 ≤ j → G2 j = G j) (hn : zLgd gg_G0_n q1_G0_n q2_G0_n row) : zTR ln fl pl ft fk2 cr_L0 inn_L0 k1_L0 k2_L0 k3_L0 k4_L0 cr_L1 inn_L1 k1_L1 k2_L1 k3_L1 k4_L1 dd_D0 p1_D0 p2_D0 p3_D0 dd_D1 p1_D1 p2_D1 p3_D1 gg_G0_n q1_G0_n q2_G0_n gg_G1 q1_G1 q2_G1 (pPut 2 0 row G2) := by
  obtain ⟨⟨a, b, c, d, f⟩, h1, h2, h3, h4, h5, h6⟩ := h
  have o : ∀ j, ¬ (954 ≤ j ∧ j < 971) → pPut 2 0 row G2 j = G2 j := fun j q => if_neg q
  have e : ∀ j, 3 ≤ j ∧ ¬ (954 ≤ j ∧ j < 971) → pPut 2 0 row G2 j = G j := fun j q => (o j q.2).trans (hG j q.1)
  exact ⟨⟨a.trans (e _ (by omega)).symm, b.trans (e _ (by omega)).symm, c.trans (e _ (by omega)).symm, fun j hj => (hk j hj).trans (o _ (by omega)).symm, fun j hj => by rw [e _ (by omega)]; exact f j hj⟩, zLnd_cg h1 (fun j hj => e _ (by omega)), zLnd_cg h2 (fun j hj => e _ (by omega)), zDyd_cg h3 (fun j hj => e _ (by omega)), zDyd_cg h4 (fun j hj => e _ (by omega)), zLgd_cg hn (fun j hj => z_in (by show pBase 2 0 ≤ 954 + j ∧ 954 + j < pBase 2 0 + pSize 2; exact ⟨Nat.le_add_right 954 j, Nat.add_lt_add_left hj 954⟩) (show (954 + j) - 954 = j by omega)), zLgd_cg h6 (fun j hj => e _ (by omega))⟩
theorem zTR_p21 {gg_G1_n : Int32} {q1_G1_n : Nat → Int32} {q2_G1_n : Nat → Int32} {fk2 row : Nat → Int32} (h : zTR ln fl pl ft fk cr_L0 inn_L0 k1_L0 k2_L0 k3_L0 k4_L0 cr_L1 inn_L1 k1_L1 k2_L1 k3_L1 k4_L1 dd_D0 p1_D0 p2_D0 p3_D0 dd_D1 p1_D1 p2_D1 p3_D1 gg_G0 q1_G0 q2_G0 gg_G1 q1_G1 q2_G1 G) (hk : ∀ j, j < 3 → fk2 j = G2 j) (hG : ∀ j, 3 ≤ j → G2 j = G j) (hn : zLgd gg_G1_n q1_G1_n q2_G1_n row) : zTR ln fl pl ft fk2 cr_L0 inn_L0 k1_L0 k2_L0 k3_L0 k4_L0 cr_L1 inn_L1 k1_L1 k2_L1 k3_L1 k4_L1 dd_D0 p1_D0 p2_D0 p3_D0 dd_D1 p1_D1 p2_D1 p3_D1 gg_G0 q1_G0 q2_G0 gg_G1_n q1_G1_n q2_G1_n (pPut 2 1 row G2) := by
  obtain ⟨⟨a, b, c, d, f⟩, h1, h2, h3, h4, h5, h6⟩ := h
  have o : ∀ j, ¬ (971 ≤ j ∧ j < 988) → pPut 2 1 row G2 j = G2 j := fun j q => if_neg q
  have e : ∀ j, 3 ≤ j ∧ ¬ (971 ≤ j ∧ j < 988) → pPut 2 1 row G2 j = G j := fun j q => (o j q.2).trans (hG j q.1)
  exact ⟨⟨a.trans (e _ (by omega)).symm, b.trans (e _ (by omega)).symm, c.trans (e _ (by omega)).symm, fun j hj => (hk j hj).trans (o _ (by omega)).symm, fun j hj => by rw [e _ (by omega)]; exact f j hj⟩, zLnd_cg h1 (fun j hj => e _ (by omega)), zLnd_cg h2 (fun j hj => e _ (by omega)), zDyd_cg h3 (fun j hj => e _ (by omega)), zDyd_cg h4 (fun j hj => e _ (by omega)), zLgd_cg h5 (fun j hj => e _ (by omega)), zLgd_cg hn (fun j hj => z_in (by show pBase 2 1 ≤ 971 + j ∧ 971 + j < pBase 2 1 + pSize 2; exact ⟨Nat.le_add_right 971 j, Nat.add_lt_add_left hj 971⟩) (show (971 + j) - 971 = j by omega))⟩
end ZTR
set_option maxHeartbeats 4000000 in
set_option maxRecDepth 100000 in
/-- placeFor 0 -/
theorem c_f_placeFor0 (l : Launch) (T : zTy) (t : Nat) (l0 : Nat) (l1 : Nat) (d0 : Nat) (d1 : Nat) (g0 : Nat) (g1 : Nat) (ln : Int32) (fl : Int32) (pl : Int32) (ft : Nat → Int32) (fk : Nat → Int32) (wt : va_W) (y : Int32) (ht : bTold T t l0 l1 d0 d1 g0 g1 ln fl pl ft fk wt) : zMi l T yX9_placeFor cX9_placeFor 3 (some .int) 1 0 0 [.ref t, .int 0, .int y] [wt] (fun (r : Int32) bs => bs = [wt] ∧ (¬ pOkAt 0 y fk ∧ r.toInt = -2 ∨ pOkAt 0 y fk ∧ r = pNr 0 y fk)) := by
  refine zMi_of (own := RX9) (by decide) rfl (Nat.le_of_ble_eq_true rfl) ?_
  intro p e s m args below meth c A ls C hr hlocks hnm hAe G hl
  refine zHide (fun Qz_ hQz_ => ?_)
  have hx := C.1
  have hb := C.2.1
  have hl : lv_has ls 3 [(0, .ref t), (1, .int 0), (2, .int y)] := hl
  refine lv_iload_n hx hb dX9_placeFor_0 rfl (lv_at hl 1 rfl) ?_
  refine lv_if_lt (tgt := 9) hx hb dX9_placeFor_1 (by decide) (fun q => absurd q (by decide)) (fun _ => ?_)
  refine lv_iload_n hx hb dX9_placeFor_4 rfl (lv_at hl 1 rfl) ?_
  refine lv_iconst (v := 2) hx hb dX9_placeFor_5 (by decide) ?_
  refine lv_icmp_le (tgt := 12) hx hb dX9_placeFor_6 (by decide) (fun _ => ?_) (fun q => absurd (by decide) q)
  refine lv_iload_n hx hb dX9_placeFor_12 rfl (lv_at hl 2 rfl) ?_
  refine lv_iconst (v := (-1)) hx hb dX9_placeFor_13 (by decide) ?_
  refine lv_icmp_ne (tgt := 39) hx hb dX9_placeFor_14 (by decide) (fun c_1 => ?_) (fun c_1 => ?_)
  · have c_1n : ¬ y.toInt = (-1 : Int) := fun q => c_1 ((fa_eq _ _).mpr q)
    refine lv_iload_n hx hb dX9_placeFor_39 rfl (lv_at hl 2 rfl) ?_
    refine lv_if_lt (tgt := 57) hx hb dX9_placeFor_40 (by decide) (fun c_2 => ?_) (fun c_2 => ?_)
    · have c_2n : y.toInt < (0 : Int) := (fa_lt _ _).mp c_2
      refine lv_bipush (v := (-2)) hx hb dX9_placeFor_57 (by decide) ?_
      exact z_back hQz_ (z_iret C hr hlocks G (Nat.le_of_ble_eq_true rfl) (Nat.le_of_ble_eq_true rfl) dX9_placeFor_59 ⟨rfl, (by first | exact Or.inl ⟨fun z9 => by have z8 := (pOkAt_y (by omega)).mp z9; omega, by decide⟩ | exact Or.inl ⟨fun z9 => by have z8 := (pOkAt_n (by omega)).mp z9; omega, by decide⟩)⟩)
    · have c_2n : ¬ y.toInt < (0 : Int) := fun q => c_2 ((fa_lt _ _).mpr q)
      refine lv_iload_n hx hb dX9_placeFor_43 rfl (lv_at hl 2 rfl) ?_
      refine lv_aload_n hx hb dX9_placeFor_44 rfl (lv_at hl 0 rfl) ?_
      refine zEx8 ht ?_
      intro a1_3 a2_4 a3_5 a4_6 a5_7 q1_8 q2_9 q3_10
      refine zCu7 ?_
      intro hbs9 h_11 h_12 h_13 h_14 h_15 h_16
      clear ht
      subst hbs9
      have G : zS T A s.heap s [[zO8 t a1_3 ln fl pl a2_4 a3_5 a4_6 a5_7], [zAr T 1 a1_3 600 ft], [zAr T 0 a2_4 3 fk], [zArq T 3 a3_5 2 q1_8], [zArq T 4 a4_6 2 q2_9], [zArq T 5 a5_7 2 q3_10]] _ _ := G.re rfl
      refine z_get C G clX9 0 rfl 4 (by decide) m_fl_RX9_19 rfl dX9_placeFor_45 ?_
      refine lv_iload_n hx hb dX9_placeFor_48 rfl (lv_at hl 1 rfl) ?_
      refine z_ild C G 2 rfl (vp_in_nI (n := 0) (by decide) (by decide)) dX9_placeFor_49 ?_
      refine lv_topi (fun v_17 ev_17 => ?_)
      rw [show ((0 : Int32).toNatClampNeg) = 0 from rfl] at ev_17
      subst ev_17
      refine lv_icmp_ge (tgt := 57) hx hb dX9_placeFor_50 (by decide) (fun c_18 => ?_) (fun c_18 => ?_)
      · have c_18n : (fk 0).toInt ≤ y.toInt := (fa_le _ _).mp c_18
        refine lv_bipush (v := (-2)) hx hb dX9_placeFor_57 (by decide) ?_
        have hw_19 : bTold T t l0 l1 d0 d1 g0 g1 ln fl pl ft fk [zO8 t a1_3 ln fl pl a2_4 a3_5 a4_6 a5_7, zAr T 1 a1_3 600 ft, zAr T 0 a2_4 3 fk, zArq T 3 a3_5 2 q1_8, zArq T 4 a4_6 2 q2_9, zArq T 5 a5_7 2 q3_10] := ⟨a1_3, a2_4, a3_5, a4_6, a5_7, q1_8, q2_9, q3_10, rfl, h_11, h_12, h_13, h_14, h_15, h_16⟩
        have G : zS T A s.heap s [[zO8 t a1_3 ln fl pl a2_4 a3_5 a4_6 a5_7, zAr T 1 a1_3 600 ft, zAr T 0 a2_4 3 fk, zArq T 3 a3_5 2 q1_8, zArq T 4 a4_6 2 q2_9, zArq T 5 a5_7 2 q3_10]] _ _ := G.re rfl
        exact z_back hQz_ (z_iret C hr hlocks G (Nat.le_of_ble_eq_true rfl) (Nat.le_of_ble_eq_true rfl) dX9_placeFor_59 ⟨rfl, (by first | exact Or.inl ⟨fun z9 => by have z8 := (pOkAt_y (by omega)).mp z9; omega, by decide⟩ | exact Or.inl ⟨fun z9 => by have z8 := (pOkAt_n (by omega)).mp z9; omega, by decide⟩)⟩)
      · have c_18n : ¬ (fk 0).toInt ≤ y.toInt := fun q => c_18 ((fa_le _ _).mpr q)
        refine lv_iload_n hx hb dX9_placeFor_53 rfl (lv_at hl 2 rfl) ?_
        refine lv_goto (tgt := 59) hx hb dX9_placeFor_54 (by decide) ?_
        have hw_20 : bTold T t l0 l1 d0 d1 g0 g1 ln fl pl ft fk [zO8 t a1_3 ln fl pl a2_4 a3_5 a4_6 a5_7, zAr T 1 a1_3 600 ft, zAr T 0 a2_4 3 fk, zArq T 3 a3_5 2 q1_8, zArq T 4 a4_6 2 q2_9, zArq T 5 a5_7 2 q3_10] := ⟨a1_3, a2_4, a3_5, a4_6, a5_7, q1_8, q2_9, q3_10, rfl, h_11, h_12, h_13, h_14, h_15, h_16⟩
        have G : zS T A s.heap s [[zO8 t a1_3 ln fl pl a2_4 a3_5 a4_6 a5_7, zAr T 1 a1_3 600 ft, zAr T 0 a2_4 3 fk, zArq T 3 a3_5 2 q1_8, zArq T 4 a4_6 2 q2_9, zArq T 5 a5_7 2 q3_10]] _ _ := G.re rfl
        exact z_back hQz_ (z_iret C hr hlocks G (Nat.le_of_ble_eq_true rfl) (Nat.le_of_ble_eq_true rfl) dX9_placeFor_59 ⟨rfl, (Or.inr ⟨(pOkAt_n (by omega)).mpr ⟨by omega, by omega⟩, (pNr_n (by omega)).symm⟩)⟩)
  · have c_1n : y.toInt = (-1 : Int) := (fa_eq _ _).mp c_1
    refine lv_aload_n hx hb dX9_placeFor_17 rfl (lv_at hl 0 rfl) ?_
    refine zEx8 ht ?_
    intro a1_21 a2_22 a3_23 a4_24 a5_25 q1_26 q2_27 q3_28
    refine zCu7 ?_
    intro hbs9 h_29 h_30 h_31 h_32 h_33 h_34
    clear ht
    subst hbs9
    have G : zS T A s.heap s [[zO8 t a1_21 ln fl pl a2_22 a3_23 a4_24 a5_25], [zAr T 1 a1_21 600 ft], [zAr T 0 a2_22 3 fk], [zArq T 3 a3_23 2 q1_26], [zArq T 4 a4_24 2 q2_27], [zArq T 5 a5_25 2 q3_28]] _ _ := G.re rfl
    refine z_get C G clX9 0 rfl 4 (by decide) m_fl_RX9_19 rfl dX9_placeFor_18 ?_
    refine lv_iload_n hx hb dX9_placeFor_21 rfl (lv_at hl 1 rfl) ?_
    refine z_ild C G 2 rfl (vp_in_nI (n := 0) (by decide) (by decide)) dX9_placeFor_22 ?_
    refine lv_topi (fun v_35 ev_35 => ?_)
    rw [show ((0 : Int32).toNatClampNeg) = 0 from rfl] at ev_35
    subst ev_35
    refine lv_iconst (v := 2) hx hb dX9_placeFor_23 (by decide) ?_
    refine lv_icmp_ge (tgt := 36) hx hb dX9_placeFor_24 (by decide) (fun c_36 => ?_) (fun c_36 => ?_)
    · have c_36n : (2 : Int) ≤ (fk 0).toInt := (fa_le _ _).mp c_36
      refine lv_bipush (v := (-2)) hx hb dX9_placeFor_36 (by decide) ?_
      have hw_37 : bTold T t l0 l1 d0 d1 g0 g1 ln fl pl ft fk [zO8 t a1_21 ln fl pl a2_22 a3_23 a4_24 a5_25, zAr T 1 a1_21 600 ft, zAr T 0 a2_22 3 fk, zArq T 3 a3_23 2 q1_26, zArq T 4 a4_24 2 q2_27, zArq T 5 a5_25 2 q3_28] := ⟨a1_21, a2_22, a3_23, a4_24, a5_25, q1_26, q2_27, q3_28, rfl, h_29, h_30, h_31, h_32, h_33, h_34⟩
      have G : zS T A s.heap s [[zO8 t a1_21 ln fl pl a2_22 a3_23 a4_24 a5_25, zAr T 1 a1_21 600 ft, zAr T 0 a2_22 3 fk, zArq T 3 a3_23 2 q1_26, zArq T 4 a4_24 2 q2_27, zArq T 5 a5_25 2 q3_28]] _ _ := G.re rfl
      exact z_back hQz_ (z_iret C hr hlocks G (Nat.le_of_ble_eq_true rfl) (Nat.le_of_ble_eq_true rfl) dX9_placeFor_38 ⟨rfl, (by first | exact Or.inl ⟨fun z9 => by have z8 := (pOkAt_y (by omega)).mp z9; omega, by decide⟩ | exact Or.inl ⟨fun z9 => by have z8 := (pOkAt_n (by omega)).mp z9; omega, by decide⟩)⟩)
    · have c_36n : ¬ (2 : Int) ≤ (fk 0).toInt := fun q => c_36 ((fa_le _ _).mpr q)
      refine lv_aload_n hx hb dX9_placeFor_27 rfl (lv_at hl 0 rfl) ?_
      refine z_get C G clX9 0 rfl 4 (by decide) m_fl_RX9_19 rfl dX9_placeFor_28 ?_
      refine lv_iload_n hx hb dX9_placeFor_31 rfl (lv_at hl 1 rfl) ?_
      refine z_ild C G 2 rfl (vp_in_nI (n := 0) (by decide) (by decide)) dX9_placeFor_32 ?_
      refine lv_topi (fun v_38 ev_38 => ?_)
      rw [show ((0 : Int32).toNatClampNeg) = 0 from rfl] at ev_38
      subst ev_38
      refine lv_goto (tgt := 38) hx hb dX9_placeFor_33 (by decide) ?_
      have hw_39 : bTold T t l0 l1 d0 d1 g0 g1 ln fl pl ft fk [zO8 t a1_21 ln fl pl a2_22 a3_23 a4_24 a5_25, zAr T 1 a1_21 600 ft, zAr T 0 a2_22 3 fk, zArq T 3 a3_23 2 q1_26, zArq T 4 a4_24 2 q2_27, zArq T 5 a5_25 2 q3_28] := ⟨a1_21, a2_22, a3_23, a4_24, a5_25, q1_26, q2_27, q3_28, rfl, h_29, h_30, h_31, h_32, h_33, h_34⟩
      have G : zS T A s.heap s [[zO8 t a1_21 ln fl pl a2_22 a3_23 a4_24 a5_25, zAr T 1 a1_21 600 ft, zAr T 0 a2_22 3 fk, zArq T 3 a3_23 2 q1_26, zArq T 4 a4_24 2 q2_27, zArq T 5 a5_25 2 q3_28]] _ _ := G.re rfl
      exact z_back hQz_ (z_iret C hr hlocks G (Nat.le_of_ble_eq_true rfl) (Nat.le_of_ble_eq_true rfl) dX9_placeFor_38 ⟨rfl, (Or.inr ⟨(pOkAt_y (by omega)).mpr (by omega), (pNr_y (by omega)).symm⟩)⟩)
set_option maxHeartbeats 4000000 in
set_option maxRecDepth 100000 in
/-- placeFor 1 -/
theorem c_f_placeFor1 (l : Launch) (T : zTy) (t : Nat) (l0 : Nat) (l1 : Nat) (d0 : Nat) (d1 : Nat) (g0 : Nat) (g1 : Nat) (ln : Int32) (fl : Int32) (pl : Int32) (ft : Nat → Int32) (fk : Nat → Int32) (wt : va_W) (y : Int32) (ht : bTold T t l0 l1 d0 d1 g0 g1 ln fl pl ft fk wt) : zMi l T yX9_placeFor cX9_placeFor 3 (some .int) 1 0 0 [.ref t, .int 1, .int y] [wt] (fun (r : Int32) bs => bs = [wt] ∧ (¬ pOkAt 1 y fk ∧ r.toInt = -2 ∨ pOkAt 1 y fk ∧ r = pNr 1 y fk)) := by
  refine zMi_of (own := RX9) (by decide) rfl (Nat.le_of_ble_eq_true rfl) ?_
  intro p e s m args below meth c A ls C hr hlocks hnm hAe G hl
  refine zHide (fun Qz_ hQz_ => ?_)
  have hx := C.1
  have hb := C.2.1
  have hl : lv_has ls 3 [(0, .ref t), (1, .int 1), (2, .int y)] := hl
  refine lv_iload_n hx hb dX9_placeFor_0 rfl (lv_at hl 1 rfl) ?_
  refine lv_if_lt (tgt := 9) hx hb dX9_placeFor_1 (by decide) (fun q => absurd q (by decide)) (fun _ => ?_)
  refine lv_iload_n hx hb dX9_placeFor_4 rfl (lv_at hl 1 rfl) ?_
  refine lv_iconst (v := 2) hx hb dX9_placeFor_5 (by decide) ?_
  refine lv_icmp_le (tgt := 12) hx hb dX9_placeFor_6 (by decide) (fun _ => ?_) (fun q => absurd (by decide) q)
  refine lv_iload_n hx hb dX9_placeFor_12 rfl (lv_at hl 2 rfl) ?_
  refine lv_iconst (v := (-1)) hx hb dX9_placeFor_13 (by decide) ?_
  refine lv_icmp_ne (tgt := 39) hx hb dX9_placeFor_14 (by decide) (fun c_1 => ?_) (fun c_1 => ?_)
  · have c_1n : ¬ y.toInt = (-1 : Int) := fun q => c_1 ((fa_eq _ _).mpr q)
    refine lv_iload_n hx hb dX9_placeFor_39 rfl (lv_at hl 2 rfl) ?_
    refine lv_if_lt (tgt := 57) hx hb dX9_placeFor_40 (by decide) (fun c_2 => ?_) (fun c_2 => ?_)
    · have c_2n : y.toInt < (0 : Int) := (fa_lt _ _).mp c_2
      refine lv_bipush (v := (-2)) hx hb dX9_placeFor_57 (by decide) ?_
      exact z_back hQz_ (z_iret C hr hlocks G (Nat.le_of_ble_eq_true rfl) (Nat.le_of_ble_eq_true rfl) dX9_placeFor_59 ⟨rfl, (by first | exact Or.inl ⟨fun z9 => by have z8 := (pOkAt_y (by omega)).mp z9; omega, by decide⟩ | exact Or.inl ⟨fun z9 => by have z8 := (pOkAt_n (by omega)).mp z9; omega, by decide⟩)⟩)
    · have c_2n : ¬ y.toInt < (0 : Int) := fun q => c_2 ((fa_lt _ _).mpr q)
      refine lv_iload_n hx hb dX9_placeFor_43 rfl (lv_at hl 2 rfl) ?_
      refine lv_aload_n hx hb dX9_placeFor_44 rfl (lv_at hl 0 rfl) ?_
      refine zEx8 ht ?_
      intro a1_3 a2_4 a3_5 a4_6 a5_7 q1_8 q2_9 q3_10
      refine zCu7 ?_
      intro hbs9 h_11 h_12 h_13 h_14 h_15 h_16
      clear ht
      subst hbs9
      have G : zS T A s.heap s [[zO8 t a1_3 ln fl pl a2_4 a3_5 a4_6 a5_7], [zAr T 1 a1_3 600 ft], [zAr T 0 a2_4 3 fk], [zArq T 3 a3_5 2 q1_8], [zArq T 4 a4_6 2 q2_9], [zArq T 5 a5_7 2 q3_10]] _ _ := G.re rfl
      refine z_get C G clX9 0 rfl 4 (by decide) m_fl_RX9_19 rfl dX9_placeFor_45 ?_
      refine lv_iload_n hx hb dX9_placeFor_48 rfl (lv_at hl 1 rfl) ?_
      refine z_ild C G 2 rfl (vp_in_nI (n := 1) (by decide) (by decide)) dX9_placeFor_49 ?_
      refine lv_topi (fun v_17 ev_17 => ?_)
      rw [show ((1 : Int32).toNatClampNeg) = 1 from rfl] at ev_17
      subst ev_17
      refine lv_icmp_ge (tgt := 57) hx hb dX9_placeFor_50 (by decide) (fun c_18 => ?_) (fun c_18 => ?_)
      · have c_18n : (fk 1).toInt ≤ y.toInt := (fa_le _ _).mp c_18
        refine lv_bipush (v := (-2)) hx hb dX9_placeFor_57 (by decide) ?_
        have hw_19 : bTold T t l0 l1 d0 d1 g0 g1 ln fl pl ft fk [zO8 t a1_3 ln fl pl a2_4 a3_5 a4_6 a5_7, zAr T 1 a1_3 600 ft, zAr T 0 a2_4 3 fk, zArq T 3 a3_5 2 q1_8, zArq T 4 a4_6 2 q2_9, zArq T 5 a5_7 2 q3_10] := ⟨a1_3, a2_4, a3_5, a4_6, a5_7, q1_8, q2_9, q3_10, rfl, h_11, h_12, h_13, h_14, h_15, h_16⟩
        have G : zS T A s.heap s [[zO8 t a1_3 ln fl pl a2_4 a3_5 a4_6 a5_7, zAr T 1 a1_3 600 ft, zAr T 0 a2_4 3 fk, zArq T 3 a3_5 2 q1_8, zArq T 4 a4_6 2 q2_9, zArq T 5 a5_7 2 q3_10]] _ _ := G.re rfl
        exact z_back hQz_ (z_iret C hr hlocks G (Nat.le_of_ble_eq_true rfl) (Nat.le_of_ble_eq_true rfl) dX9_placeFor_59 ⟨rfl, (by first | exact Or.inl ⟨fun z9 => by have z8 := (pOkAt_y (by omega)).mp z9; omega, by decide⟩ | exact Or.inl ⟨fun z9 => by have z8 := (pOkAt_n (by omega)).mp z9; omega, by decide⟩)⟩)
      · have c_18n : ¬ (fk 1).toInt ≤ y.toInt := fun q => c_18 ((fa_le _ _).mpr q)
        refine lv_iload_n hx hb dX9_placeFor_53 rfl (lv_at hl 2 rfl) ?_
        refine lv_goto (tgt := 59) hx hb dX9_placeFor_54 (by decide) ?_
        have hw_20 : bTold T t l0 l1 d0 d1 g0 g1 ln fl pl ft fk [zO8 t a1_3 ln fl pl a2_4 a3_5 a4_6 a5_7, zAr T 1 a1_3 600 ft, zAr T 0 a2_4 3 fk, zArq T 3 a3_5 2 q1_8, zArq T 4 a4_6 2 q2_9, zArq T 5 a5_7 2 q3_10] := ⟨a1_3, a2_4, a3_5, a4_6, a5_7, q1_8, q2_9, q3_10, rfl, h_11, h_12, h_13, h_14, h_15, h_16⟩
        have G : zS T A s.heap s [[zO8 t a1_3 ln fl pl a2_4 a3_5 a4_6 a5_7, zAr T 1 a1_3 600 ft, zAr T 0 a2_4 3 fk, zArq T 3 a3_5 2 q1_8, zArq T 4 a4_6 2 q2_9, zArq T 5 a5_7 2 q3_10]] _ _ := G.re rfl
        exact z_back hQz_ (z_iret C hr hlocks G (Nat.le_of_ble_eq_true rfl) (Nat.le_of_ble_eq_true rfl) dX9_placeFor_59 ⟨rfl, (Or.inr ⟨(pOkAt_n (by omega)).mpr ⟨by omega, by omega⟩, (pNr_n (by omega)).symm⟩)⟩)
  · have c_1n : y.toInt = (-1 : Int) := (fa_eq _ _).mp c_1
    refine lv_aload_n hx hb dX9_placeFor_17 rfl (lv_at hl 0 rfl) ?_
    refine zEx8 ht ?_
    intro a1_21 a2_22 a3_23 a4_24 a5_25 q1_26 q2_27 q3_28
    refine zCu7 ?_
    intro hbs9 h_29 h_30 h_31 h_32 h_33 h_34
    clear ht
    subst hbs9
    have G : zS T A s.heap s [[zO8 t a1_21 ln fl pl a2_22 a3_23 a4_24 a5_25], [zAr T 1 a1_21 600 ft], [zAr T 0 a2_22 3 fk], [zArq T 3 a3_23 2 q1_26], [zArq T 4 a4_24 2 q2_27], [zArq T 5 a5_25 2 q3_28]] _ _ := G.re rfl
    refine z_get C G clX9 0 rfl 4 (by decide) m_fl_RX9_19 rfl dX9_placeFor_18 ?_
    refine lv_iload_n hx hb dX9_placeFor_21 rfl (lv_at hl 1 rfl) ?_
    refine z_ild C G 2 rfl (vp_in_nI (n := 1) (by decide) (by decide)) dX9_placeFor_22 ?_
    refine lv_topi (fun v_35 ev_35 => ?_)
    rw [show ((1 : Int32).toNatClampNeg) = 1 from rfl] at ev_35
    subst ev_35
    refine lv_iconst (v := 2) hx hb dX9_placeFor_23 (by decide) ?_
    refine lv_icmp_ge (tgt := 36) hx hb dX9_placeFor_24 (by decide) (fun c_36 => ?_) (fun c_36 => ?_)
    · have c_36n : (2 : Int) ≤ (fk 1).toInt := (fa_le _ _).mp c_36
      refine lv_bipush (v := (-2)) hx hb dX9_placeFor_36 (by decide) ?_
      have hw_37 : bTold T t l0 l1 d0 d1 g0 g1 ln fl pl ft fk [zO8 t a1_21 ln fl pl a2_22 a3_23 a4_24 a5_25, zAr T 1 a1_21 600 ft, zAr T 0 a2_22 3 fk, zArq T 3 a3_23 2 q1_26, zArq T 4 a4_24 2 q2_27, zArq T 5 a5_25 2 q3_28] := ⟨a1_21, a2_22, a3_23, a4_24, a5_25, q1_26, q2_27, q3_28, rfl, h_29, h_30, h_31, h_32, h_33, h_34⟩
      have G : zS T A s.heap s [[zO8 t a1_21 ln fl pl a2_22 a3_23 a4_24 a5_25, zAr T 1 a1_21 600 ft, zAr T 0 a2_22 3 fk, zArq T 3 a3_23 2 q1_26, zArq T 4 a4_24 2 q2_27, zArq T 5 a5_25 2 q3_28]] _ _ := G.re rfl
      exact z_back hQz_ (z_iret C hr hlocks G (Nat.le_of_ble_eq_true rfl) (Nat.le_of_ble_eq_true rfl) dX9_placeFor_38 ⟨rfl, (by first | exact Or.inl ⟨fun z9 => by have z8 := (pOkAt_y (by omega)).mp z9; omega, by decide⟩ | exact Or.inl ⟨fun z9 => by have z8 := (pOkAt_n (by omega)).mp z9; omega, by decide⟩)⟩)
    · have c_36n : ¬ (2 : Int) ≤ (fk 1).toInt := fun q => c_36 ((fa_le _ _).mpr q)
      refine lv_aload_n hx hb dX9_placeFor_27 rfl (lv_at hl 0 rfl) ?_
      refine z_get C G clX9 0 rfl 4 (by decide) m_fl_RX9_19 rfl dX9_placeFor_28 ?_
      refine lv_iload_n hx hb dX9_placeFor_31 rfl (lv_at hl 1 rfl) ?_
      refine z_ild C G 2 rfl (vp_in_nI (n := 1) (by decide) (by decide)) dX9_placeFor_32 ?_
      refine lv_topi (fun v_38 ev_38 => ?_)
      rw [show ((1 : Int32).toNatClampNeg) = 1 from rfl] at ev_38
      subst ev_38
      refine lv_goto (tgt := 38) hx hb dX9_placeFor_33 (by decide) ?_
      have hw_39 : bTold T t l0 l1 d0 d1 g0 g1 ln fl pl ft fk [zO8 t a1_21 ln fl pl a2_22 a3_23 a4_24 a5_25, zAr T 1 a1_21 600 ft, zAr T 0 a2_22 3 fk, zArq T 3 a3_23 2 q1_26, zArq T 4 a4_24 2 q2_27, zArq T 5 a5_25 2 q3_28] := ⟨a1_21, a2_22, a3_23, a4_24, a5_25, q1_26, q2_27, q3_28, rfl, h_29, h_30, h_31, h_32, h_33, h_34⟩
      have G : zS T A s.heap s [[zO8 t a1_21 ln fl pl a2_22 a3_23 a4_24 a5_25, zAr T 1 a1_21 600 ft, zAr T 0 a2_22 3 fk, zArq T 3 a3_23 2 q1_26, zArq T 4 a4_24 2 q2_27, zArq T 5 a5_25 2 q3_28]] _ _ := G.re rfl
      exact z_back hQz_ (z_iret C hr hlocks G (Nat.le_of_ble_eq_true rfl) (Nat.le_of_ble_eq_true rfl) dX9_placeFor_38 ⟨rfl, (Or.inr ⟨(pOkAt_y (by omega)).mpr (by omega), (pNr_y (by omega)).symm⟩)⟩)
set_option maxHeartbeats 4000000 in
set_option maxRecDepth 100000 in
/-- placeFor 2 -/
theorem c_f_placeFor2 (l : Launch) (T : zTy) (t : Nat) (l0 : Nat) (l1 : Nat) (d0 : Nat) (d1 : Nat) (g0 : Nat) (g1 : Nat) (ln : Int32) (fl : Int32) (pl : Int32) (ft : Nat → Int32) (fk : Nat → Int32) (wt : va_W) (y : Int32) (ht : bTold T t l0 l1 d0 d1 g0 g1 ln fl pl ft fk wt) : zMi l T yX9_placeFor cX9_placeFor 3 (some .int) 1 0 0 [.ref t, .int 2, .int y] [wt] (fun (r : Int32) bs => bs = [wt] ∧ (¬ pOkAt 2 y fk ∧ r.toInt = -2 ∨ pOkAt 2 y fk ∧ r = pNr 2 y fk)) := by
  refine zMi_of (own := RX9) (by decide) rfl (Nat.le_of_ble_eq_true rfl) ?_
  intro p e s m args below meth c A ls C hr hlocks hnm hAe G hl
  refine zHide (fun Qz_ hQz_ => ?_)
  have hx := C.1
  have hb := C.2.1
  have hl : lv_has ls 3 [(0, .ref t), (1, .int 2), (2, .int y)] := hl
  refine lv_iload_n hx hb dX9_placeFor_0 rfl (lv_at hl 1 rfl) ?_
  refine lv_if_lt (tgt := 9) hx hb dX9_placeFor_1 (by decide) (fun q => absurd q (by decide)) (fun _ => ?_)
  refine lv_iload_n hx hb dX9_placeFor_4 rfl (lv_at hl 1 rfl) ?_
  refine lv_iconst (v := 2) hx hb dX9_placeFor_5 (by decide) ?_
  refine lv_icmp_le (tgt := 12) hx hb dX9_placeFor_6 (by decide) (fun _ => ?_) (fun q => absurd (by decide) q)
  refine lv_iload_n hx hb dX9_placeFor_12 rfl (lv_at hl 2 rfl) ?_
  refine lv_iconst (v := (-1)) hx hb dX9_placeFor_13 (by decide) ?_
  refine lv_icmp_ne (tgt := 39) hx hb dX9_placeFor_14 (by decide) (fun c_1 => ?_) (fun c_1 => ?_)
  · have c_1n : ¬ y.toInt = (-1 : Int) := fun q => c_1 ((fa_eq _ _).mpr q)
    refine lv_iload_n hx hb dX9_placeFor_39 rfl (lv_at hl 2 rfl) ?_
    refine lv_if_lt (tgt := 57) hx hb dX9_placeFor_40 (by decide) (fun c_2 => ?_) (fun c_2 => ?_)
    · have c_2n : y.toInt < (0 : Int) := (fa_lt _ _).mp c_2
      refine lv_bipush (v := (-2)) hx hb dX9_placeFor_57 (by decide) ?_
      exact z_back hQz_ (z_iret C hr hlocks G (Nat.le_of_ble_eq_true rfl) (Nat.le_of_ble_eq_true rfl) dX9_placeFor_59 ⟨rfl, (by first | exact Or.inl ⟨fun z9 => by have z8 := (pOkAt_y (by omega)).mp z9; omega, by decide⟩ | exact Or.inl ⟨fun z9 => by have z8 := (pOkAt_n (by omega)).mp z9; omega, by decide⟩)⟩)
    · have c_2n : ¬ y.toInt < (0 : Int) := fun q => c_2 ((fa_lt _ _).mpr q)
      refine lv_iload_n hx hb dX9_placeFor_43 rfl (lv_at hl 2 rfl) ?_
      refine lv_aload_n hx hb dX9_placeFor_44 rfl (lv_at hl 0 rfl) ?_
      refine zEx8 ht ?_
      intro a1_3 a2_4 a3_5 a4_6 a5_7 q1_8 q2_9 q3_10
      refine zCu7 ?_
      intro hbs9 h_11 h_12 h_13 h_14 h_15 h_16
      clear ht
      subst hbs9
      have G : zS T A s.heap s [[zO8 t a1_3 ln fl pl a2_4 a3_5 a4_6 a5_7], [zAr T 1 a1_3 600 ft], [zAr T 0 a2_4 3 fk], [zArq T 3 a3_5 2 q1_8], [zArq T 4 a4_6 2 q2_9], [zArq T 5 a5_7 2 q3_10]] _ _ := G.re rfl
      refine z_get C G clX9 0 rfl 4 (by decide) m_fl_RX9_19 rfl dX9_placeFor_45 ?_
      refine lv_iload_n hx hb dX9_placeFor_48 rfl (lv_at hl 1 rfl) ?_
      refine z_ild C G 2 rfl (vp_in_nI (n := 2) (by decide) (by decide)) dX9_placeFor_49 ?_
      refine lv_topi (fun v_17 ev_17 => ?_)
      rw [show ((2 : Int32).toNatClampNeg) = 2 from rfl] at ev_17
      subst ev_17
      refine lv_icmp_ge (tgt := 57) hx hb dX9_placeFor_50 (by decide) (fun c_18 => ?_) (fun c_18 => ?_)
      · have c_18n : (fk 2).toInt ≤ y.toInt := (fa_le _ _).mp c_18
        refine lv_bipush (v := (-2)) hx hb dX9_placeFor_57 (by decide) ?_
        have hw_19 : bTold T t l0 l1 d0 d1 g0 g1 ln fl pl ft fk [zO8 t a1_3 ln fl pl a2_4 a3_5 a4_6 a5_7, zAr T 1 a1_3 600 ft, zAr T 0 a2_4 3 fk, zArq T 3 a3_5 2 q1_8, zArq T 4 a4_6 2 q2_9, zArq T 5 a5_7 2 q3_10] := ⟨a1_3, a2_4, a3_5, a4_6, a5_7, q1_8, q2_9, q3_10, rfl, h_11, h_12, h_13, h_14, h_15, h_16⟩
        have G : zS T A s.heap s [[zO8 t a1_3 ln fl pl a2_4 a3_5 a4_6 a5_7, zAr T 1 a1_3 600 ft, zAr T 0 a2_4 3 fk, zArq T 3 a3_5 2 q1_8, zArq T 4 a4_6 2 q2_9, zArq T 5 a5_7 2 q3_10]] _ _ := G.re rfl
        exact z_back hQz_ (z_iret C hr hlocks G (Nat.le_of_ble_eq_true rfl) (Nat.le_of_ble_eq_true rfl) dX9_placeFor_59 ⟨rfl, (by first | exact Or.inl ⟨fun z9 => by have z8 := (pOkAt_y (by omega)).mp z9; omega, by decide⟩ | exact Or.inl ⟨fun z9 => by have z8 := (pOkAt_n (by omega)).mp z9; omega, by decide⟩)⟩)
      · have c_18n : ¬ (fk 2).toInt ≤ y.toInt := fun q => c_18 ((fa_le _ _).mpr q)
        refine lv_iload_n hx hb dX9_placeFor_53 rfl (lv_at hl 2 rfl) ?_
        refine lv_goto (tgt := 59) hx hb dX9_placeFor_54 (by decide) ?_
        have hw_20 : bTold T t l0 l1 d0 d1 g0 g1 ln fl pl ft fk [zO8 t a1_3 ln fl pl a2_4 a3_5 a4_6 a5_7, zAr T 1 a1_3 600 ft, zAr T 0 a2_4 3 fk, zArq T 3 a3_5 2 q1_8, zArq T 4 a4_6 2 q2_9, zArq T 5 a5_7 2 q3_10] := ⟨a1_3, a2_4, a3_5, a4_6, a5_7, q1_8, q2_9, q3_10, rfl, h_11, h_12, h_13, h_14, h_15, h_16⟩
        have G : zS T A s.heap s [[zO8 t a1_3 ln fl pl a2_4 a3_5 a4_6 a5_7, zAr T 1 a1_3 600 ft, zAr T 0 a2_4 3 fk, zArq T 3 a3_5 2 q1_8, zArq T 4 a4_6 2 q2_9, zArq T 5 a5_7 2 q3_10]] _ _ := G.re rfl
        exact z_back hQz_ (z_iret C hr hlocks G (Nat.le_of_ble_eq_true rfl) (Nat.le_of_ble_eq_true rfl) dX9_placeFor_59 ⟨rfl, (Or.inr ⟨(pOkAt_n (by omega)).mpr ⟨by omega, by omega⟩, (pNr_n (by omega)).symm⟩)⟩)
  · have c_1n : y.toInt = (-1 : Int) := (fa_eq _ _).mp c_1
    refine lv_aload_n hx hb dX9_placeFor_17 rfl (lv_at hl 0 rfl) ?_
    refine zEx8 ht ?_
    intro a1_21 a2_22 a3_23 a4_24 a5_25 q1_26 q2_27 q3_28
    refine zCu7 ?_
    intro hbs9 h_29 h_30 h_31 h_32 h_33 h_34
    clear ht
    subst hbs9
    have G : zS T A s.heap s [[zO8 t a1_21 ln fl pl a2_22 a3_23 a4_24 a5_25], [zAr T 1 a1_21 600 ft], [zAr T 0 a2_22 3 fk], [zArq T 3 a3_23 2 q1_26], [zArq T 4 a4_24 2 q2_27], [zArq T 5 a5_25 2 q3_28]] _ _ := G.re rfl
    refine z_get C G clX9 0 rfl 4 (by decide) m_fl_RX9_19 rfl dX9_placeFor_18 ?_
    refine lv_iload_n hx hb dX9_placeFor_21 rfl (lv_at hl 1 rfl) ?_
    refine z_ild C G 2 rfl (vp_in_nI (n := 2) (by decide) (by decide)) dX9_placeFor_22 ?_
    refine lv_topi (fun v_35 ev_35 => ?_)
    rw [show ((2 : Int32).toNatClampNeg) = 2 from rfl] at ev_35
    subst ev_35
    refine lv_iconst (v := 2) hx hb dX9_placeFor_23 (by decide) ?_
    refine lv_icmp_ge (tgt := 36) hx hb dX9_placeFor_24 (by decide) (fun c_36 => ?_) (fun c_36 => ?_)
    · have c_36n : (2 : Int) ≤ (fk 2).toInt := (fa_le _ _).mp c_36
      refine lv_bipush (v := (-2)) hx hb dX9_placeFor_36 (by decide) ?_
      have hw_37 : bTold T t l0 l1 d0 d1 g0 g1 ln fl pl ft fk [zO8 t a1_21 ln fl pl a2_22 a3_23 a4_24 a5_25, zAr T 1 a1_21 600 ft, zAr T 0 a2_22 3 fk, zArq T 3 a3_23 2 q1_26, zArq T 4 a4_24 2 q2_27, zArq T 5 a5_25 2 q3_28] := ⟨a1_21, a2_22, a3_23, a4_24, a5_25, q1_26, q2_27, q3_28, rfl, h_29, h_30, h_31, h_32, h_33, h_34⟩
      have G : zS T A s.heap s [[zO8 t a1_21 ln fl pl a2_22 a3_23 a4_24 a5_25, zAr T 1 a1_21 600 ft, zAr T 0 a2_22 3 fk, zArq T 3 a3_23 2 q1_26, zArq T 4 a4_24 2 q2_27, zArq T 5 a5_25 2 q3_28]] _ _ := G.re rfl
      exact z_back hQz_ (z_iret C hr hlocks G (Nat.le_of_ble_eq_true rfl) (Nat.le_of_ble_eq_true rfl) dX9_placeFor_38 ⟨rfl, (by first | exact Or.inl ⟨fun z9 => by have z8 := (pOkAt_y (by omega)).mp z9; omega, by decide⟩ | exact Or.inl ⟨fun z9 => by have z8 := (pOkAt_n (by omega)).mp z9; omega, by decide⟩)⟩)
    · have c_36n : ¬ (2 : Int) ≤ (fk 2).toInt := fun q => c_36 ((fa_le _ _).mpr q)
      refine lv_aload_n hx hb dX9_placeFor_27 rfl (lv_at hl 0 rfl) ?_
      refine z_get C G clX9 0 rfl 4 (by decide) m_fl_RX9_19 rfl dX9_placeFor_28 ?_
      refine lv_iload_n hx hb dX9_placeFor_31 rfl (lv_at hl 1 rfl) ?_
      refine z_ild C G 2 rfl (vp_in_nI (n := 2) (by decide) (by decide)) dX9_placeFor_32 ?_
      refine lv_topi (fun v_38 ev_38 => ?_)
      rw [show ((2 : Int32).toNatClampNeg) = 2 from rfl] at ev_38
      subst ev_38
      refine lv_goto (tgt := 38) hx hb dX9_placeFor_33 (by decide) ?_
      have hw_39 : bTold T t l0 l1 d0 d1 g0 g1 ln fl pl ft fk [zO8 t a1_21 ln fl pl a2_22 a3_23 a4_24 a5_25, zAr T 1 a1_21 600 ft, zAr T 0 a2_22 3 fk, zArq T 3 a3_23 2 q1_26, zArq T 4 a4_24 2 q2_27, zArq T 5 a5_25 2 q3_28] := ⟨a1_21, a2_22, a3_23, a4_24, a5_25, q1_26, q2_27, q3_28, rfl, h_29, h_30, h_31, h_32, h_33, h_34⟩
      have G : zS T A s.heap s [[zO8 t a1_21 ln fl pl a2_22 a3_23 a4_24 a5_25, zAr T 1 a1_21 600 ft, zAr T 0 a2_22 3 fk, zArq T 3 a3_23 2 q1_26, zArq T 4 a4_24 2 q2_27, zArq T 5 a5_25 2 q3_28]] _ _ := G.re rfl
      exact z_back hQz_ (z_iret C hr hlocks G (Nat.le_of_ble_eq_true rfl) (Nat.le_of_ble_eq_true rfl) dX9_placeFor_38 ⟨rfl, (Or.inr ⟨(pOkAt_y (by omega)).mpr (by omega), (pNr_y (by omega)).symm⟩)⟩)
set_option maxHeartbeats 4000000 in
set_option maxRecDepth 100000 in
/-- c_f_keep_00 -/
theorem c_f_keep_00 (l : Launch) (T : zTy) (t : Nat) (l0 : Nat) (l1 : Nat) (d0 : Nat) (d1 : Nat) (g0 : Nat) (g1 : Nat) (ln : Int32) (fl : Int32) (pl : Int32) (ft : Nat → Int32) (fk : Nat → Int32) (wt : va_W) (cr0_ : Int32) (inn0_ : Int32) (k10_ : Nat → Int32) (k20_ : Nat → Int32) (k30_ : Nat → Int32) (k40_ : Nat → Int32) (z0_ : va_W) (rd : Nat) (rl : Nat) (rdd : Nat) (rg : Nat) (tp : Nat) (r0 : Int32) (r1 : Int32) (r2 : Int32) (r3 : Int32) (r4 : Int32) (r5 : Int32) (r6 : Int32) (r7 : Int32) (r8 : Int32) (cr : Int32) (inn : Int32) (k1 : Nat → Int32) (k2 : Nat → Int32) (k3 : Nat → Int32) (k4 : Nat → Int32) (z : va_W) (ht : bTold T t l0 l1 d0 d1 g0 g1 ln fl pl ft fk wt) (hK : zKT fk) (hz0_ : bLand T l0 cr0_ inn0_ k10_ k20_ k30_ k40_ z0_) (hI0_ : zLI cr0_ k10_ k30_) (hz : bLand T rl cr inn k1 k2 k3 k4 z) (hI : zLI cr k1 k3) : zMv l T yX9_keep cX9_keep 4 2 0 0 [.ref t, .int 0, .int 0, .ref rd] [wt, z0_, [zO7 rd rl rdd rg r0 r1 tp r2 r3 r4 r5 r6 r7 r8], z] (fun bs => ∃ (wt2 : va_W) (fk2 : Nat → Int32) (w2_ : va_W) (s1_ : Nat → Int32) (s2_ : Nat → Int32) (s3_ : Nat → Int32) (s4_ : Nat → Int32), bs = [wt2, w2_, [zO7 rd rl rdd rg r0 r1 tp r2 r3 r4 r5 r6 r7 r8], z] ∧ bTold T t l0 l1 d0 d1 g0 g1 ln fl pl ft fk2 wt2 ∧ bLand T l0 cr inn s1_ s2_ s3_ s4_ w2_ ∧ zKT fk2 ∧ zLI cr s1_ s3_ ∧ (∀ j, j < 7 → s1_ j = k1 j) ∧ (∀ j, j < 28 → s2_ j = k2 j) ∧ (∀ j, j < 7 → s3_ j = k3 j) ∧ (∀ j, j < 7 → s4_ j = k4 j) ∧ fk2 = upd fk 0 (if fk 0 < 1 then 1 else fk 0)) := by
  refine zMv_of (own := RX9) (by decide) rfl (Nat.le_of_ble_eq_true rfl) ?_
  intro p e s m args below meth c A ls C hr hlocks hnm hAe G hl
  refine zHide (fun Qz_ hQz_ => ?_)
  have hx := C.1
  have hb := C.2.1
  have hl : lv_has ls 4 [(0, .ref t), (1, .int 0), (2, .int 0), (3, .ref rd)] := hl
  refine lv_iload_n hx hb dX9_keep_0 rfl (lv_at hl 1 rfl) ?_
  refine lv_if_lt (tgt := 18) hx hb dX9_keep_1 (by decide) (fun q => absurd q (by decide)) (fun _ => ?_)
  refine lv_iload_n hx hb dX9_keep_4 rfl (lv_at hl 1 rfl) ?_
  refine lv_iconst (v := 2) hx hb dX9_keep_5 (by decide) ?_
  refine lv_icmp_gt (tgt := 18) hx hb dX9_keep_6 (by decide) (fun q => absurd q (by decide)) (fun _ => ?_)
  refine lv_iload_n hx hb dX9_keep_9 rfl (lv_at hl 2 rfl) ?_
  refine lv_if_lt (tgt := 18) hx hb dX9_keep_10 (by decide) (fun q => absurd q (by decide)) (fun _ => ?_)
  refine lv_iload_n hx hb dX9_keep_13 rfl (lv_at hl 2 rfl) ?_
  refine lv_iconst (v := 2) hx hb dX9_keep_14 (by decide) ?_
  refine lv_icmp_lt (tgt := 19) hx hb dX9_keep_15 (by decide) (fun _ => ?_) (fun q => absurd (by decide) q)
  refine lv_iload_n hx hb dX9_keep_19 rfl (lv_at hl 1 rfl) ?_
  refine lv_if_ne (tgt := 39) hx hb dX9_keep_20 (by decide) (fun q => absurd (by decide) q) (fun _ => ?_)
  refine lv_aload_n hx hb dX9_keep_23 rfl (lv_at hl 0 rfl) ?_
  refine zEx8 ht ?_
  intro a1_1 a2_2 a3_3 a4_4 a5_5 q1_6 q2_7 q3_8
  refine zCu7 ?_
  intro hbs9 h_9 h_10 h_11 h_12 h_13 h_14
  clear ht
  subst hbs9
  have G : zS T A s.heap s [[zO8 t a1_1 ln fl pl a2_2 a3_3 a4_4 a5_5], [zAr T 1 a1_1 600 ft], [zAr T 0 a2_2 3 fk], [zArq T 3 a3_3 2 q1_6], [zArq T 4 a4_4 2 q2_7], [zArq T 5 a5_5 2 q3_8], z0_, [zO7 rd rl rdd rg r0 r1 tp r2 r3 r4 r5 r6 r7 r8], z] _ _ := G.re rfl
  refine z_get C G clX9 0 rfl 5 (by decide) m_fl_RX9_26 rfl dX9_keep_24 ?_
  refine lv_iload_n hx hb dX9_keep_27 rfl (lv_at hl 2 rfl) ?_
  refine z_ald C G 3 3 rfl rfl (vp_in_nI (n := 0) (by decide) (by decide)) dX9_keep_28 ?_
  rw [show q1_6 ((0 : Int32).toNatClampNeg) = some l0 from h_9]
  refine lv_aload_n hx hb dX9_keep_29 rfl (lv_at hl 3 rfl) ?_
  refine z_get C G clX7 7 rfl 0 (by decide) m_fl_RX9_47 rfl dX9_keep_30 ?_
  refine z_Vv (bc := [z0_, z]) (br := [[zO8 t a1_1 ln fl pl a2_2 a3_3 a4_4 a5_5], [zAr T 1 a1_1 600 ft], [zAr T 0 a2_2 3 fk], [zArq T 3 a3_3 2 q1_6], [zArq T 4 a4_4 2 q2_7], [zArq T 5 a5_5 2 q3_8], [zO7 rd rl rdd rg r0 r1 tp r2 r3 r4 r5 r6 r7 r8]]) (As := [.ref rl]) (rest := []) C G (c_Land_takeAll l T l0 rl cr0_ inn0_ k10_ k20_ k30_ k40_ cr inn k1 k2 k3 k4 z0_ z hz0_ hz) (kV_RX9_53 C.2.2.2.2 (Nat.le_of_ble_eq_true rfl) (Nat.le_of_ble_eq_true rfl)) [6, 8] [6, 1] rfl rfl (ci := 4) (qc := (RX4, TX4, 6)) rfl rfl (List.mem_flatten.mpr ⟨_, List.mem_of_getElem? (i := 0) rfl, (bLand_mem hz0_).choose_spec⟩) rfl rfl hl.1 dX9_keep_33 (Nat.le_of_ble_eq_true rfl) (Nat.le_of_ble_eq_true rfl) (fun b1 H locs hw G => ?_)
  refine zEx5 hw ?_
  intro w2_15 g1_16 g2_17 g3_18 g4_19
  refine zCu6 ?_
  intro hbs9 h_20 h_21 h_22 h_23 h_24
  clear hw
  subst hbs9
  have G : zS T A s.heap s [[zO8 t a1_1 ln fl pl a2_2 a3_3 a4_4 a5_5], [zAr T 1 a1_1 600 ft], [zAr T 0 a2_2 3 fk], [zArq T 3 a3_3 2 q1_6], [zArq T 4 a4_4 2 q2_7], [zArq T 5 a5_5 2 q3_8], [zO7 rd rl rdd rg r0 r1 tp r2 r3 r4 r5 r6 r7 r8], w2_15, z] _ _ := G
  refine lv_goto (tgt := 73) hx hb dX9_keep_36 (by decide) ?_
  refine lv_aload_n hx hb dX9_keep_73 rfl (lv_at hl 0 rfl) ?_
  refine z_get C G clX9 0 rfl 4 (by decide) m_fl_RX9_19 rfl dX9_keep_74 ?_
  refine lv_iload_n hx hb dX9_keep_77 rfl (lv_at hl 1 rfl) ?_
  refine lv_aload_n hx hb dX9_keep_78 rfl (lv_at hl 0 rfl) ?_
  refine z_get C G clX9 0 rfl 4 (by decide) m_fl_RX9_19 rfl dX9_keep_79 ?_
  refine lv_iload_n hx hb dX9_keep_82 rfl (lv_at hl 1 rfl) ?_
  refine z_ild C G 2 rfl (vp_in_nI (n := 0) (by decide) (by decide)) dX9_keep_83 ?_
  refine lv_topi (fun v_26 ev_26 => ?_)
  rw [show ((0 : Int32).toNatClampNeg) = 0 from rfl] at ev_26
  subst ev_26
  refine lv_iload_n hx hb dX9_keep_84 rfl (lv_at hl 2 rfl) ?_
  refine lv_iconst (v := 1) hx hb dX9_keep_85 (by decide) ?_
  refine lv_iadd hx hb dX9_keep_86 ?_
  refine lv_topi (fun y_27 ey_27 => ?_)
  obtain rfl : y_27 = 1 := ey_27.trans (by decide)
  refine va_mmax hx hb (C.2.2.1.trans hl.1.symm) C.2.2.2.1 (C.2.2.2.2 _ m_ml_RX9_71) (C.2.2.2.2 _ m_st_math_max) (C.2.2.2.2 _ m_ii_math) (C.2.2.2.2 _ m_co_math_max) (Nat.le_of_ble_eq_true rfl) (Nat.le_of_ble_eq_true rfl) (Nat.le_of_ble_eq_true rfl) (Nat.le_of_ble_eq_true rfl) dX9_keep_87 ?_
  refine lv_topi (fun v_28 ev_28 => ?_)
  subst ev_28
  refine z_ist C G 2 rfl (vp_in_nI (n := 0) (by decide) (by decide)) dX9_keep_90 (fun H locs G => ?_)
  have G : zS T A s.heap s [[zO8 t a1_1 ln fl pl a2_2 a3_3 a4_4 a5_5], [zAr T 1 a1_1 600 ft], [zAr T 0 a2_2 3 (upd fk 0 (if (fk 0) < 1 then 1 else (fk 0)))], [zArq T 3 a3_3 2 q1_6], [zArq T 4 a4_4 2 q2_7], [zArq T 5 a5_5 2 q3_8], [zO7 rd rl rdd rg r0 r1 tp r2 r3 r4 r5 r6 r7 r8], w2_15, z] _ _ := G
  have hw_29 : bTold T t l0 l1 d0 d1 g0 g1 ln fl pl ft (upd fk 0 (if (fk 0) < 1 then 1 else (fk 0))) [zO8 t a1_1 ln fl pl a2_2 a3_3 a4_4 a5_5, zAr T 1 a1_1 600 ft, zAr T 0 a2_2 3 (upd fk 0 (if (fk 0) < 1 then 1 else (fk 0))), zArq T 3 a3_3 2 q1_6, zArq T 4 a4_4 2 q2_7, zArq T 5 a5_5 2 q3_8] := ⟨a1_1, a2_2, a3_3, a4_4, a5_5, q1_6, q2_7, q3_8, rfl, h_9, h_10, h_11, h_12, h_13, h_14⟩
  have G : zS T A s.heap s [[zO8 t a1_1 ln fl pl a2_2 a3_3 a4_4 a5_5, zAr T 1 a1_1 600 ft, zAr T 0 a2_2 3 (upd fk 0 (if (fk 0) < 1 then 1 else (fk 0))), zArq T 3 a3_3 2 q1_6, zArq T 4 a4_4 2 q2_7, zArq T 5 a5_5 2 q3_8], [zO7 rd rl rdd rg r0 r1 tp r2 r3 r4 r5 r6 r7 r8], w2_15, z] _ _ := G.re rfl
  have G := G.sub (bs' := [[zO8 t a1_1 ln fl pl a2_2 a3_3 a4_4 a5_5, zAr T 1 a1_1 600 ft, zAr T 0 a2_2 3 (upd fk 0 (if (fk 0) < 1 then 1 else (fk 0))), zArq T 3 a3_3 2 q1_6, zArq T 4 a4_4 2 q2_7, zArq T 5 a5_5 2 q3_8], w2_15, [zO7 rd rl rdd rg r0 r1 tp r2 r3 r4 r5 r6 r7 r8], z]) [0, 2, 1, 3] rfl
  exact z_back hQz_ (z_vret C hr hlocks G (Nat.le_of_ble_eq_true rfl) (Nat.le_of_ble_eq_true rfl) dX9_keep_91 ⟨([zO8 t a1_1 ln fl pl a2_2 a3_3 a4_4 a5_5, zAr T 1 a1_1 600 ft, zAr T 0 a2_2 3 (upd fk 0 (if (fk 0) < 1 then 1 else (fk 0))), zArq T 3 a3_3 2 q1_6, zArq T 4 a4_4 2 q2_7, zArq T 5 a5_5 2 q3_8]), (upd fk 0 (if (fk 0) < 1 then 1 else (fk 0))), w2_15, g1_16, g2_17, g3_18, g4_19, rfl, hw_29, h_20, (zKT_upd hK 0 (z_maxK (hK 0 (by decide)) (by decide))), (zLI_eq hI h_21 h_23), h_21, h_22, h_23, h_24, rfl⟩)
set_option maxHeartbeats 4000000 in
set_option maxRecDepth 100000 in
/-- c_f_keep_01 -/
theorem c_f_keep_01 (l : Launch) (T : zTy) (t : Nat) (l0 : Nat) (l1 : Nat) (d0 : Nat) (d1 : Nat) (g0 : Nat) (g1 : Nat) (ln : Int32) (fl : Int32) (pl : Int32) (ft : Nat → Int32) (fk : Nat → Int32) (wt : va_W) (cr1_ : Int32) (inn1_ : Int32) (k11_ : Nat → Int32) (k21_ : Nat → Int32) (k31_ : Nat → Int32) (k41_ : Nat → Int32) (z1_ : va_W) (rd : Nat) (rl : Nat) (rdd : Nat) (rg : Nat) (tp : Nat) (r0 : Int32) (r1 : Int32) (r2 : Int32) (r3 : Int32) (r4 : Int32) (r5 : Int32) (r6 : Int32) (r7 : Int32) (r8 : Int32) (cr : Int32) (inn : Int32) (k1 : Nat → Int32) (k2 : Nat → Int32) (k3 : Nat → Int32) (k4 : Nat → Int32) (z : va_W) (ht : bTold T t l0 l1 d0 d1 g0 g1 ln fl pl ft fk wt) (hK : zKT fk) (hz1_ : bLand T l1 cr1_ inn1_ k11_ k21_ k31_ k41_ z1_) (hI1_ : zLI cr1_ k11_ k31_) (hz : bLand T rl cr inn k1 k2 k3 k4 z) (hI : zLI cr k1 k3) : zMv l T yX9_keep cX9_keep 4 2 0 0 [.ref t, .int 0, .int 1, .ref rd] [wt, z1_, [zO7 rd rl rdd rg r0 r1 tp r2 r3 r4 r5 r6 r7 r8], z] (fun bs => ∃ (wt2 : va_W) (fk2 : Nat → Int32) (w2_ : va_W) (s1_ : Nat → Int32) (s2_ : Nat → Int32) (s3_ : Nat → Int32) (s4_ : Nat → Int32), bs = [wt2, w2_, [zO7 rd rl rdd rg r0 r1 tp r2 r3 r4 r5 r6 r7 r8], z] ∧ bTold T t l0 l1 d0 d1 g0 g1 ln fl pl ft fk2 wt2 ∧ bLand T l1 cr inn s1_ s2_ s3_ s4_ w2_ ∧ zKT fk2 ∧ zLI cr s1_ s3_ ∧ (∀ j, j < 7 → s1_ j = k1 j) ∧ (∀ j, j < 28 → s2_ j = k2 j) ∧ (∀ j, j < 7 → s3_ j = k3 j) ∧ (∀ j, j < 7 → s4_ j = k4 j) ∧ fk2 = upd fk 0 (if fk 0 < 2 then 2 else fk 0)) := by
  refine zMv_of (own := RX9) (by decide) rfl (Nat.le_of_ble_eq_true rfl) ?_
  intro p e s m args below meth c A ls C hr hlocks hnm hAe G hl
  refine zHide (fun Qz_ hQz_ => ?_)
  have hx := C.1
  have hb := C.2.1
  have hl : lv_has ls 4 [(0, .ref t), (1, .int 0), (2, .int 1), (3, .ref rd)] := hl
  refine lv_iload_n hx hb dX9_keep_0 rfl (lv_at hl 1 rfl) ?_
  refine lv_if_lt (tgt := 18) hx hb dX9_keep_1 (by decide) (fun q => absurd q (by decide)) (fun _ => ?_)
  refine lv_iload_n hx hb dX9_keep_4 rfl (lv_at hl 1 rfl) ?_
  refine lv_iconst (v := 2) hx hb dX9_keep_5 (by decide) ?_
  refine lv_icmp_gt (tgt := 18) hx hb dX9_keep_6 (by decide) (fun q => absurd q (by decide)) (fun _ => ?_)
  refine lv_iload_n hx hb dX9_keep_9 rfl (lv_at hl 2 rfl) ?_
  refine lv_if_lt (tgt := 18) hx hb dX9_keep_10 (by decide) (fun q => absurd q (by decide)) (fun _ => ?_)
  refine lv_iload_n hx hb dX9_keep_13 rfl (lv_at hl 2 rfl) ?_
  refine lv_iconst (v := 2) hx hb dX9_keep_14 (by decide) ?_
  refine lv_icmp_lt (tgt := 19) hx hb dX9_keep_15 (by decide) (fun _ => ?_) (fun q => absurd (by decide) q)
  refine lv_iload_n hx hb dX9_keep_19 rfl (lv_at hl 1 rfl) ?_
  refine lv_if_ne (tgt := 39) hx hb dX9_keep_20 (by decide) (fun q => absurd (by decide) q) (fun _ => ?_)
  refine lv_aload_n hx hb dX9_keep_23 rfl (lv_at hl 0 rfl) ?_
  refine zEx8 ht ?_
  intro a1_1 a2_2 a3_3 a4_4 a5_5 q1_6 q2_7 q3_8
  refine zCu7 ?_
  intro hbs9 h_9 h_10 h_11 h_12 h_13 h_14
  clear ht
  subst hbs9
  have G : zS T A s.heap s [[zO8 t a1_1 ln fl pl a2_2 a3_3 a4_4 a5_5], [zAr T 1 a1_1 600 ft], [zAr T 0 a2_2 3 fk], [zArq T 3 a3_3 2 q1_6], [zArq T 4 a4_4 2 q2_7], [zArq T 5 a5_5 2 q3_8], z1_, [zO7 rd rl rdd rg r0 r1 tp r2 r3 r4 r5 r6 r7 r8], z] _ _ := G.re rfl
  refine z_get C G clX9 0 rfl 5 (by decide) m_fl_RX9_26 rfl dX9_keep_24 ?_
  refine lv_iload_n hx hb dX9_keep_27 rfl (lv_at hl 2 rfl) ?_
  refine z_ald C G 3 3 rfl rfl (vp_in_nI (n := 1) (by decide) (by decide)) dX9_keep_28 ?_
  rw [show q1_6 ((1 : Int32).toNatClampNeg) = some l1 from h_10]
  refine lv_aload_n hx hb dX9_keep_29 rfl (lv_at hl 3 rfl) ?_
  refine z_get C G clX7 7 rfl 0 (by decide) m_fl_RX9_47 rfl dX9_keep_30 ?_
  refine z_Vv (bc := [z1_, z]) (br := [[zO8 t a1_1 ln fl pl a2_2 a3_3 a4_4 a5_5], [zAr T 1 a1_1 600 ft], [zAr T 0 a2_2 3 fk], [zArq T 3 a3_3 2 q1_6], [zArq T 4 a4_4 2 q2_7], [zArq T 5 a5_5 2 q3_8], [zO7 rd rl rdd rg r0 r1 tp r2 r3 r4 r5 r6 r7 r8]]) (As := [.ref rl]) (rest := []) C G (c_Land_takeAll l T l1 rl cr1_ inn1_ k11_ k21_ k31_ k41_ cr inn k1 k2 k3 k4 z1_ z hz1_ hz) (kV_RX9_53 C.2.2.2.2 (Nat.le_of_ble_eq_true rfl) (Nat.le_of_ble_eq_true rfl)) [6, 8] [6, 1] rfl rfl (ci := 4) (qc := (RX4, TX4, 6)) rfl rfl (List.mem_flatten.mpr ⟨_, List.mem_of_getElem? (i := 0) rfl, (bLand_mem hz1_).choose_spec⟩) rfl rfl hl.1 dX9_keep_33 (Nat.le_of_ble_eq_true rfl) (Nat.le_of_ble_eq_true rfl) (fun b1 H locs hw G => ?_)
  refine zEx5 hw ?_
  intro w2_15 g1_16 g2_17 g3_18 g4_19
  refine zCu6 ?_
  intro hbs9 h_20 h_21 h_22 h_23 h_24
  clear hw
  subst hbs9
  have G : zS T A s.heap s [[zO8 t a1_1 ln fl pl a2_2 a3_3 a4_4 a5_5], [zAr T 1 a1_1 600 ft], [zAr T 0 a2_2 3 fk], [zArq T 3 a3_3 2 q1_6], [zArq T 4 a4_4 2 q2_7], [zArq T 5 a5_5 2 q3_8], [zO7 rd rl rdd rg r0 r1 tp r2 r3 r4 r5 r6 r7 r8], w2_15, z] _ _ := G
  refine lv_goto (tgt := 73) hx hb dX9_keep_36 (by decide) ?_
  refine lv_aload_n hx hb dX9_keep_73 rfl (lv_at hl 0 rfl) ?_
  refine z_get C G clX9 0 rfl 4 (by decide) m_fl_RX9_19 rfl dX9_keep_74 ?_
  refine lv_iload_n hx hb dX9_keep_77 rfl (lv_at hl 1 rfl) ?_
  refine lv_aload_n hx hb dX9_keep_78 rfl (lv_at hl 0 rfl) ?_
  refine z_get C G clX9 0 rfl 4 (by decide) m_fl_RX9_19 rfl dX9_keep_79 ?_
  refine lv_iload_n hx hb dX9_keep_82 rfl (lv_at hl 1 rfl) ?_
  refine z_ild C G 2 rfl (vp_in_nI (n := 0) (by decide) (by decide)) dX9_keep_83 ?_
  refine lv_topi (fun v_26 ev_26 => ?_)
  rw [show ((0 : Int32).toNatClampNeg) = 0 from rfl] at ev_26
  subst ev_26
  refine lv_iload_n hx hb dX9_keep_84 rfl (lv_at hl 2 rfl) ?_
  refine lv_iconst (v := 1) hx hb dX9_keep_85 (by decide) ?_
  refine lv_iadd hx hb dX9_keep_86 ?_
  refine lv_topi (fun y_27 ey_27 => ?_)
  obtain rfl : y_27 = 2 := ey_27.trans (by decide)
  refine va_mmax hx hb (C.2.2.1.trans hl.1.symm) C.2.2.2.1 (C.2.2.2.2 _ m_ml_RX9_71) (C.2.2.2.2 _ m_st_math_max) (C.2.2.2.2 _ m_ii_math) (C.2.2.2.2 _ m_co_math_max) (Nat.le_of_ble_eq_true rfl) (Nat.le_of_ble_eq_true rfl) (Nat.le_of_ble_eq_true rfl) (Nat.le_of_ble_eq_true rfl) dX9_keep_87 ?_
  refine lv_topi (fun v_28 ev_28 => ?_)
  subst ev_28
  refine z_ist C G 2 rfl (vp_in_nI (n := 0) (by decide) (by decide)) dX9_keep_90 (fun H locs G => ?_)
  have G : zS T A s.heap s [[zO8 t a1_1 ln fl pl a2_2 a3_3 a4_4 a5_5], [zAr T 1 a1_1 600 ft], [zAr T 0 a2_2 3 (upd fk 0 (if (fk 0) < 2 then 2 else (fk 0)))], [zArq T 3 a3_3 2 q1_6], [zArq T 4 a4_4 2 q2_7], [zArq T 5 a5_5 2 q3_8], [zO7 rd rl rdd rg r0 r1 tp r2 r3 r4 r5 r6 r7 r8], w2_15, z] _ _ := G
  have hw_29 : bTold T t l0 l1 d0 d1 g0 g1 ln fl pl ft (upd fk 0 (if (fk 0) < 2 then 2 else (fk 0))) [zO8 t a1_1 ln fl pl a2_2 a3_3 a4_4 a5_5, zAr T 1 a1_1 600 ft, zAr T 0 a2_2 3 (upd fk 0 (if (fk 0) < 2 then 2 else (fk 0))), zArq T 3 a3_3 2 q1_6, zArq T 4 a4_4 2 q2_7, zArq T 5 a5_5 2 q3_8] := ⟨a1_1, a2_2, a3_3, a4_4, a5_5, q1_6, q2_7, q3_8, rfl, h_9, h_10, h_11, h_12, h_13, h_14⟩
  have G : zS T A s.heap s [[zO8 t a1_1 ln fl pl a2_2 a3_3 a4_4 a5_5, zAr T 1 a1_1 600 ft, zAr T 0 a2_2 3 (upd fk 0 (if (fk 0) < 2 then 2 else (fk 0))), zArq T 3 a3_3 2 q1_6, zArq T 4 a4_4 2 q2_7, zArq T 5 a5_5 2 q3_8], [zO7 rd rl rdd rg r0 r1 tp r2 r3 r4 r5 r6 r7 r8], w2_15, z] _ _ := G.re rfl
  have G := G.sub (bs' := [[zO8 t a1_1 ln fl pl a2_2 a3_3 a4_4 a5_5, zAr T 1 a1_1 600 ft, zAr T 0 a2_2 3 (upd fk 0 (if (fk 0) < 2 then 2 else (fk 0))), zArq T 3 a3_3 2 q1_6, zArq T 4 a4_4 2 q2_7, zArq T 5 a5_5 2 q3_8], w2_15, [zO7 rd rl rdd rg r0 r1 tp r2 r3 r4 r5 r6 r7 r8], z]) [0, 2, 1, 3] rfl
  exact z_back hQz_ (z_vret C hr hlocks G (Nat.le_of_ble_eq_true rfl) (Nat.le_of_ble_eq_true rfl) dX9_keep_91 ⟨([zO8 t a1_1 ln fl pl a2_2 a3_3 a4_4 a5_5, zAr T 1 a1_1 600 ft, zAr T 0 a2_2 3 (upd fk 0 (if (fk 0) < 2 then 2 else (fk 0))), zArq T 3 a3_3 2 q1_6, zArq T 4 a4_4 2 q2_7, zArq T 5 a5_5 2 q3_8]), (upd fk 0 (if (fk 0) < 2 then 2 else (fk 0))), w2_15, g1_16, g2_17, g3_18, g4_19, rfl, hw_29, h_20, (zKT_upd hK 0 (z_maxK (hK 0 (by decide)) (by decide))), (zLI_eq hI h_21 h_23), h_21, h_22, h_23, h_24, rfl⟩)
set_option maxHeartbeats 4000000 in
set_option maxRecDepth 100000 in
/-- c_f_keep_10 -/
theorem c_f_keep_10 (l : Launch) (T : zTy) (t : Nat) (l0 : Nat) (l1 : Nat) (d0 : Nat) (d1 : Nat) (g0 : Nat) (g1 : Nat) (ln : Int32) (fl : Int32) (pl : Int32) (ft : Nat → Int32) (fk : Nat → Int32) (wt : va_W) (dd0_ : Int32) (p10_ : Nat → Int32) (p20_ : Nat → Int32) (p30_ : Nat → Int32) (wd0_ : va_W) (rd : Nat) (rl : Nat) (rdd : Nat) (rg : Nat) (tp : Nat) (r0 : Int32) (r1 : Int32) (r2 : Int32) (r3 : Int32) (r4 : Int32) (r5 : Int32) (r6 : Int32) (r7 : Int32) (r8 : Int32) (dd : Int32) (v1 : Nat → Int32) (v2 : Nat → Int32) (v3 : Nat → Int32) (wd : va_W) (ht : bTold T t l0 l1 d0 d1 g0 g1 ln fl pl ft fk wt) (hK : zKT fk) (hd0_ : bDay T d0 dd0_ p10_ p20_ p30_ wd0_) (hd : bDay T rdd dd v1 v2 v3 wd) : zMv l T yX9_keep cX9_keep 4 2 0 0 [.ref t, .int 1, .int 0, .ref rd] [wt, wd0_, [zO7 rd rl rdd rg r0 r1 tp r2 r3 r4 r5 r6 r7 r8], wd] (fun bs => ∃ (wt2 : va_W) (fk2 : Nat → Int32) (w2_ : va_W) (s1_ : Nat → Int32) (s2_ : Nat → Int32) (s3_ : Nat → Int32), bs = [wt2, w2_, [zO7 rd rl rdd rg r0 r1 tp r2 r3 r4 r5 r6 r7 r8], wd] ∧ bTold T t l0 l1 d0 d1 g0 g1 ln fl pl ft fk2 wt2 ∧ bDay T d0 dd s1_ s2_ s3_ w2_ ∧ zKT fk2 ∧ (∀ j, j < 40 → s1_ j = v1 j) ∧ (∀ j, j < 40 → s2_ j = v2 j) ∧ (∀ j, j < 40 → s3_ j = v3 j) ∧ fk2 = upd fk 1 (if fk 1 < 1 then 1 else fk 1)) := by
  refine zMv_of (own := RX9) (by decide) rfl (Nat.le_of_ble_eq_true rfl) ?_
  intro p e s m args below meth c A ls C hr hlocks hnm hAe G hl
  refine zHide (fun Qz_ hQz_ => ?_)
  have hx := C.1
  have hb := C.2.1
  have hl : lv_has ls 4 [(0, .ref t), (1, .int 1), (2, .int 0), (3, .ref rd)] := hl
  refine lv_iload_n hx hb dX9_keep_0 rfl (lv_at hl 1 rfl) ?_
  refine lv_if_lt (tgt := 18) hx hb dX9_keep_1 (by decide) (fun q => absurd q (by decide)) (fun _ => ?_)
  refine lv_iload_n hx hb dX9_keep_4 rfl (lv_at hl 1 rfl) ?_
  refine lv_iconst (v := 2) hx hb dX9_keep_5 (by decide) ?_
  refine lv_icmp_gt (tgt := 18) hx hb dX9_keep_6 (by decide) (fun q => absurd q (by decide)) (fun _ => ?_)
  refine lv_iload_n hx hb dX9_keep_9 rfl (lv_at hl 2 rfl) ?_
  refine lv_if_lt (tgt := 18) hx hb dX9_keep_10 (by decide) (fun q => absurd q (by decide)) (fun _ => ?_)
  refine lv_iload_n hx hb dX9_keep_13 rfl (lv_at hl 2 rfl) ?_
  refine lv_iconst (v := 2) hx hb dX9_keep_14 (by decide) ?_
  refine lv_icmp_lt (tgt := 19) hx hb dX9_keep_15 (by decide) (fun _ => ?_) (fun q => absurd (by decide) q)
  refine lv_iload_n hx hb dX9_keep_19 rfl (lv_at hl 1 rfl) ?_
  refine lv_if_ne (tgt := 39) hx hb dX9_keep_20 (by decide) (fun _ => ?_) (fun q => absurd q (by decide))
  refine lv_iload_n hx hb dX9_keep_39 rfl (lv_at hl 1 rfl) ?_
  refine lv_iconst (v := 1) hx hb dX9_keep_40 (by decide) ?_
  refine lv_icmp_ne (tgt := 60) hx hb dX9_keep_41 (by decide) (fun q => absurd (by decide) q) (fun _ => ?_)
  refine lv_aload_n hx hb dX9_keep_44 rfl (lv_at hl 0 rfl) ?_
  refine zEx8 ht ?_
  intro a1_1 a2_2 a3_3 a4_4 a5_5 q1_6 q2_7 q3_8
  refine zCu7 ?_
  intro hbs9 h_9 h_10 h_11 h_12 h_13 h_14
  clear ht
  subst hbs9
  have G : zS T A s.heap s [[zO8 t a1_1 ln fl pl a2_2 a3_3 a4_4 a5_5], [zAr T 1 a1_1 600 ft], [zAr T 0 a2_2 3 fk], [zArq T 3 a3_3 2 q1_6], [zArq T 4 a4_4 2 q2_7], [zArq T 5 a5_5 2 q3_8], wd0_, [zO7 rd rl rdd rg r0 r1 tp r2 r3 r4 r5 r6 r7 r8], wd] _ _ := G.re rfl
  refine z_get C G clX9 0 rfl 6 (by decide) m_fl_RX9_33 rfl dX9_keep_45 ?_
  refine lv_iload_n hx hb dX9_keep_48 rfl (lv_at hl 2 rfl) ?_
  refine z_ald C G 4 4 rfl rfl (vp_in_nI (n := 0) (by decide) (by decide)) dX9_keep_49 ?_
  rw [show q2_7 ((0 : Int32).toNatClampNeg) = some d0 from h_11]
  refine lv_aload_n hx hb dX9_keep_50 rfl (lv_at hl 3 rfl) ?_
  refine z_get C G clX7 7 rfl 1 (by decide) m_fl_RX9_57 rfl dX9_keep_51 ?_
  refine z_Vv (bc := [wd0_, wd]) (br := [[zO8 t a1_1 ln fl pl a2_2 a3_3 a4_4 a5_5], [zAr T 1 a1_1 600 ft], [zAr T 0 a2_2 3 fk], [zArq T 3 a3_3 2 q1_6], [zArq T 4 a4_4 2 q2_7], [zArq T 5 a5_5 2 q3_8], [zO7 rd rl rdd rg r0 r1 tp r2 r3 r4 r5 r6 r7 r8]]) (As := [.ref rdd]) (rest := []) C G (c_Day_takeAll l T d0 rdd dd0_ p10_ p20_ p30_ dd v1 v2 v3 wd0_ wd hd0_ hd) (kV_RX9_61 C.2.2.2.2 (Nat.le_of_ble_eq_true rfl) (Nat.le_of_ble_eq_true rfl)) [6, 8] [6, 1] rfl rfl (ci := 2) (qc := (RX2, TX2, 4)) rfl rfl (List.mem_flatten.mpr ⟨_, List.mem_of_getElem? (i := 0) rfl, (bDay_mem hd0_).choose_spec⟩) rfl rfl hl.1 dX9_keep_54 (Nat.le_of_ble_eq_true rfl) (Nat.le_of_ble_eq_true rfl) (fun b1 H locs hw G => ?_)
  refine zEx4 hw ?_
  intro w2_15 g1_16 g2_17 g3_18
  refine zCu5 ?_
  intro hbs9 h_19 h_20 h_21 h_22
  clear hw
  subst hbs9
  have G : zS T A s.heap s [[zO8 t a1_1 ln fl pl a2_2 a3_3 a4_4 a5_5], [zAr T 1 a1_1 600 ft], [zAr T 0 a2_2 3 fk], [zArq T 3 a3_3 2 q1_6], [zArq T 4 a4_4 2 q2_7], [zArq T 5 a5_5 2 q3_8], [zO7 rd rl rdd rg r0 r1 tp r2 r3 r4 r5 r6 r7 r8], w2_15, wd] _ _ := G
  refine lv_goto (tgt := 73) hx hb dX9_keep_57 (by decide) ?_
  refine lv_aload_n hx hb dX9_keep_73 rfl (lv_at hl 0 rfl) ?_
  refine z_get C G clX9 0 rfl 4 (by decide) m_fl_RX9_19 rfl dX9_keep_74 ?_
  refine lv_iload_n hx hb dX9_keep_77 rfl (lv_at hl 1 rfl) ?_
  refine lv_aload_n hx hb dX9_keep_78 rfl (lv_at hl 0 rfl) ?_
  refine z_get C G clX9 0 rfl 4 (by decide) m_fl_RX9_19 rfl dX9_keep_79 ?_
  refine lv_iload_n hx hb dX9_keep_82 rfl (lv_at hl 1 rfl) ?_
  refine z_ild C G 2 rfl (vp_in_nI (n := 1) (by decide) (by decide)) dX9_keep_83 ?_
  refine lv_topi (fun v_24 ev_24 => ?_)
  rw [show ((1 : Int32).toNatClampNeg) = 1 from rfl] at ev_24
  subst ev_24
  refine lv_iload_n hx hb dX9_keep_84 rfl (lv_at hl 2 rfl) ?_
  refine lv_iconst (v := 1) hx hb dX9_keep_85 (by decide) ?_
  refine lv_iadd hx hb dX9_keep_86 ?_
  refine lv_topi (fun y_25 ey_25 => ?_)
  obtain rfl : y_25 = 1 := ey_25.trans (by decide)
  refine va_mmax hx hb (C.2.2.1.trans hl.1.symm) C.2.2.2.1 (C.2.2.2.2 _ m_ml_RX9_71) (C.2.2.2.2 _ m_st_math_max) (C.2.2.2.2 _ m_ii_math) (C.2.2.2.2 _ m_co_math_max) (Nat.le_of_ble_eq_true rfl) (Nat.le_of_ble_eq_true rfl) (Nat.le_of_ble_eq_true rfl) (Nat.le_of_ble_eq_true rfl) dX9_keep_87 ?_
  refine lv_topi (fun v_26 ev_26 => ?_)
  subst ev_26
  refine z_ist C G 2 rfl (vp_in_nI (n := 1) (by decide) (by decide)) dX9_keep_90 (fun H locs G => ?_)
  have G : zS T A s.heap s [[zO8 t a1_1 ln fl pl a2_2 a3_3 a4_4 a5_5], [zAr T 1 a1_1 600 ft], [zAr T 0 a2_2 3 (upd fk 1 (if (fk 1) < 1 then 1 else (fk 1)))], [zArq T 3 a3_3 2 q1_6], [zArq T 4 a4_4 2 q2_7], [zArq T 5 a5_5 2 q3_8], [zO7 rd rl rdd rg r0 r1 tp r2 r3 r4 r5 r6 r7 r8], w2_15, wd] _ _ := G
  have hw_27 : bTold T t l0 l1 d0 d1 g0 g1 ln fl pl ft (upd fk 1 (if (fk 1) < 1 then 1 else (fk 1))) [zO8 t a1_1 ln fl pl a2_2 a3_3 a4_4 a5_5, zAr T 1 a1_1 600 ft, zAr T 0 a2_2 3 (upd fk 1 (if (fk 1) < 1 then 1 else (fk 1))), zArq T 3 a3_3 2 q1_6, zArq T 4 a4_4 2 q2_7, zArq T 5 a5_5 2 q3_8] := ⟨a1_1, a2_2, a3_3, a4_4, a5_5, q1_6, q2_7, q3_8, rfl, h_9, h_10, h_11, h_12, h_13, h_14⟩
  have G : zS T A s.heap s [[zO8 t a1_1 ln fl pl a2_2 a3_3 a4_4 a5_5, zAr T 1 a1_1 600 ft, zAr T 0 a2_2 3 (upd fk 1 (if (fk 1) < 1 then 1 else (fk 1))), zArq T 3 a3_3 2 q1_6, zArq T 4 a4_4 2 q2_7, zArq T 5 a5_5 2 q3_8], [zO7 rd rl rdd rg r0 r1 tp r2 r3 r4 r5 r6 r7 r8], w2_15, wd] _ _ := G.re rfl
  have G := G.sub (bs' := [[zO8 t a1_1 ln fl pl a2_2 a3_3 a4_4 a5_5, zAr T 1 a1_1 600 ft, zAr T 0 a2_2 3 (upd fk 1 (if (fk 1) < 1 then 1 else (fk 1))), zArq T 3 a3_3 2 q1_6, zArq T 4 a4_4 2 q2_7, zArq T 5 a5_5 2 q3_8], w2_15, [zO7 rd rl rdd rg r0 r1 tp r2 r3 r4 r5 r6 r7 r8], wd]) [0, 2, 1, 3] rfl
  exact z_back hQz_ (z_vret C hr hlocks G (Nat.le_of_ble_eq_true rfl) (Nat.le_of_ble_eq_true rfl) dX9_keep_91 ⟨([zO8 t a1_1 ln fl pl a2_2 a3_3 a4_4 a5_5, zAr T 1 a1_1 600 ft, zAr T 0 a2_2 3 (upd fk 1 (if (fk 1) < 1 then 1 else (fk 1))), zArq T 3 a3_3 2 q1_6, zArq T 4 a4_4 2 q2_7, zArq T 5 a5_5 2 q3_8]), (upd fk 1 (if (fk 1) < 1 then 1 else (fk 1))), w2_15, g1_16, g2_17, g3_18, rfl, hw_27, h_19, (zKT_upd hK 1 (z_maxK (hK 1 (by decide)) (by decide))), h_20, h_21, h_22, rfl⟩)
set_option maxHeartbeats 4000000 in
set_option maxRecDepth 100000 in
/-- c_f_keep_11 -/
theorem c_f_keep_11 (l : Launch) (T : zTy) (t : Nat) (l0 : Nat) (l1 : Nat) (d0 : Nat) (d1 : Nat) (g0 : Nat) (g1 : Nat) (ln : Int32) (fl : Int32) (pl : Int32) (ft : Nat → Int32) (fk : Nat → Int32) (wt : va_W) (dd1_ : Int32) (p11_ : Nat → Int32) (p21_ : Nat → Int32) (p31_ : Nat → Int32) (wd1_ : va_W) (rd : Nat) (rl : Nat) (rdd : Nat) (rg : Nat) (tp : Nat) (r0 : Int32) (r1 : Int32) (r2 : Int32) (r3 : Int32) (r4 : Int32) (r5 : Int32) (r6 : Int32) (r7 : Int32) (r8 : Int32) (dd : Int32) (v1 : Nat → Int32) (v2 : Nat → Int32) (v3 : Nat → Int32) (wd : va_W) (ht : bTold T t l0 l1 d0 d1 g0 g1 ln fl pl ft fk wt) (hK : zKT fk) (hd1_ : bDay T d1 dd1_ p11_ p21_ p31_ wd1_) (hd : bDay T rdd dd v1 v2 v3 wd) : zMv l T yX9_keep cX9_keep 4 2 0 0 [.ref t, .int 1, .int 1, .ref rd] [wt, wd1_, [zO7 rd rl rdd rg r0 r1 tp r2 r3 r4 r5 r6 r7 r8], wd] (fun bs => ∃ (wt2 : va_W) (fk2 : Nat → Int32) (w2_ : va_W) (s1_ : Nat → Int32) (s2_ : Nat → Int32) (s3_ : Nat → Int32), bs = [wt2, w2_, [zO7 rd rl rdd rg r0 r1 tp r2 r3 r4 r5 r6 r7 r8], wd] ∧ bTold T t l0 l1 d0 d1 g0 g1 ln fl pl ft fk2 wt2 ∧ bDay T d1 dd s1_ s2_ s3_ w2_ ∧ zKT fk2 ∧ (∀ j, j < 40 → s1_ j = v1 j) ∧ (∀ j, j < 40 → s2_ j = v2 j) ∧ (∀ j, j < 40 → s3_ j = v3 j) ∧ fk2 = upd fk 1 (if fk 1 < 2 then 2 else fk 1)) := by
  refine zMv_of (own := RX9) (by decide) rfl (Nat.le_of_ble_eq_true rfl) ?_
  intro p e s m args below meth c A ls C hr hlocks hnm hAe G hl
  refine zHide (fun Qz_ hQz_ => ?_)
  have hx := C.1
  have hb := C.2.1
  have hl : lv_has ls 4 [(0, .ref t), (1, .int 1), (2, .int 1), (3, .ref rd)] := hl
  refine lv_iload_n hx hb dX9_keep_0 rfl (lv_at hl 1 rfl) ?_
  refine lv_if_lt (tgt := 18) hx hb dX9_keep_1 (by decide) (fun q => absurd q (by decide)) (fun _ => ?_)
  refine lv_iload_n hx hb dX9_keep_4 rfl (lv_at hl 1 rfl) ?_
  refine lv_iconst (v := 2) hx hb dX9_keep_5 (by decide) ?_
  refine lv_icmp_gt (tgt := 18) hx hb dX9_keep_6 (by decide) (fun q => absurd q (by decide)) (fun _ => ?_)
  refine lv_iload_n hx hb dX9_keep_9 rfl (lv_at hl 2 rfl) ?_
  refine lv_if_lt (tgt := 18) hx hb dX9_keep_10 (by decide) (fun q => absurd q (by decide)) (fun _ => ?_)
  refine lv_iload_n hx hb dX9_keep_13 rfl (lv_at hl 2 rfl) ?_
  refine lv_iconst (v := 2) hx hb dX9_keep_14 (by decide) ?_
  refine lv_icmp_lt (tgt := 19) hx hb dX9_keep_15 (by decide) (fun _ => ?_) (fun q => absurd (by decide) q)
  refine lv_iload_n hx hb dX9_keep_19 rfl (lv_at hl 1 rfl) ?_
  refine lv_if_ne (tgt := 39) hx hb dX9_keep_20 (by decide) (fun _ => ?_) (fun q => absurd q (by decide))
  refine lv_iload_n hx hb dX9_keep_39 rfl (lv_at hl 1 rfl) ?_
  refine lv_iconst (v := 1) hx hb dX9_keep_40 (by decide) ?_
  refine lv_icmp_ne (tgt := 60) hx hb dX9_keep_41 (by decide) (fun q => absurd (by decide) q) (fun _ => ?_)
  refine lv_aload_n hx hb dX9_keep_44 rfl (lv_at hl 0 rfl) ?_
  refine zEx8 ht ?_
  intro a1_1 a2_2 a3_3 a4_4 a5_5 q1_6 q2_7 q3_8
  refine zCu7 ?_
  intro hbs9 h_9 h_10 h_11 h_12 h_13 h_14
  clear ht
  subst hbs9
  have G : zS T A s.heap s [[zO8 t a1_1 ln fl pl a2_2 a3_3 a4_4 a5_5], [zAr T 1 a1_1 600 ft], [zAr T 0 a2_2 3 fk], [zArq T 3 a3_3 2 q1_6], [zArq T 4 a4_4 2 q2_7], [zArq T 5 a5_5 2 q3_8], wd1_, [zO7 rd rl rdd rg r0 r1 tp r2 r3 r4 r5 r6 r7 r8], wd] _ _ := G.re rfl
  refine z_get C G clX9 0 rfl 6 (by decide) m_fl_RX9_33 rfl dX9_keep_45 ?_
  refine lv_iload_n hx hb dX9_keep_48 rfl (lv_at hl 2 rfl) ?_
  refine z_ald C G 4 4 rfl rfl (vp_in_nI (n := 1) (by decide) (by decide)) dX9_keep_49 ?_
  rw [show q2_7 ((1 : Int32).toNatClampNeg) = some d1 from h_12]
  refine lv_aload_n hx hb dX9_keep_50 rfl (lv_at hl 3 rfl) ?_
  refine z_get C G clX7 7 rfl 1 (by decide) m_fl_RX9_57 rfl dX9_keep_51 ?_
  refine z_Vv (bc := [wd1_, wd]) (br := [[zO8 t a1_1 ln fl pl a2_2 a3_3 a4_4 a5_5], [zAr T 1 a1_1 600 ft], [zAr T 0 a2_2 3 fk], [zArq T 3 a3_3 2 q1_6], [zArq T 4 a4_4 2 q2_7], [zArq T 5 a5_5 2 q3_8], [zO7 rd rl rdd rg r0 r1 tp r2 r3 r4 r5 r6 r7 r8]]) (As := [.ref rdd]) (rest := []) C G (c_Day_takeAll l T d1 rdd dd1_ p11_ p21_ p31_ dd v1 v2 v3 wd1_ wd hd1_ hd) (kV_RX9_61 C.2.2.2.2 (Nat.le_of_ble_eq_true rfl) (Nat.le_of_ble_eq_true rfl)) [6, 8] [6, 1] rfl rfl (ci := 2) (qc := (RX2, TX2, 4)) rfl rfl (List.mem_flatten.mpr ⟨_, List.mem_of_getElem? (i := 0) rfl, (bDay_mem hd1_).choose_spec⟩) rfl rfl hl.1 dX9_keep_54 (Nat.le_of_ble_eq_true rfl) (Nat.le_of_ble_eq_true rfl) (fun b1 H locs hw G => ?_)
  refine zEx4 hw ?_
  intro w2_15 g1_16 g2_17 g3_18
  refine zCu5 ?_
  intro hbs9 h_19 h_20 h_21 h_22
  clear hw
  subst hbs9
  have G : zS T A s.heap s [[zO8 t a1_1 ln fl pl a2_2 a3_3 a4_4 a5_5], [zAr T 1 a1_1 600 ft], [zAr T 0 a2_2 3 fk], [zArq T 3 a3_3 2 q1_6], [zArq T 4 a4_4 2 q2_7], [zArq T 5 a5_5 2 q3_8], [zO7 rd rl rdd rg r0 r1 tp r2 r3 r4 r5 r6 r7 r8], w2_15, wd] _ _ := G
  refine lv_goto (tgt := 73) hx hb dX9_keep_57 (by decide) ?_
  refine lv_aload_n hx hb dX9_keep_73 rfl (lv_at hl 0 rfl) ?_
  refine z_get C G clX9 0 rfl 4 (by decide) m_fl_RX9_19 rfl dX9_keep_74 ?_
  refine lv_iload_n hx hb dX9_keep_77 rfl (lv_at hl 1 rfl) ?_
  refine lv_aload_n hx hb dX9_keep_78 rfl (lv_at hl 0 rfl) ?_
  refine z_get C G clX9 0 rfl 4 (by decide) m_fl_RX9_19 rfl dX9_keep_79 ?_
  refine lv_iload_n hx hb dX9_keep_82 rfl (lv_at hl 1 rfl) ?_
  refine z_ild C G 2 rfl (vp_in_nI (n := 1) (by decide) (by decide)) dX9_keep_83 ?_
  refine lv_topi (fun v_24 ev_24 => ?_)
  rw [show ((1 : Int32).toNatClampNeg) = 1 from rfl] at ev_24
  subst ev_24
  refine lv_iload_n hx hb dX9_keep_84 rfl (lv_at hl 2 rfl) ?_
  refine lv_iconst (v := 1) hx hb dX9_keep_85 (by decide) ?_
  refine lv_iadd hx hb dX9_keep_86 ?_
  refine lv_topi (fun y_25 ey_25 => ?_)
  obtain rfl : y_25 = 2 := ey_25.trans (by decide)
  refine va_mmax hx hb (C.2.2.1.trans hl.1.symm) C.2.2.2.1 (C.2.2.2.2 _ m_ml_RX9_71) (C.2.2.2.2 _ m_st_math_max) (C.2.2.2.2 _ m_ii_math) (C.2.2.2.2 _ m_co_math_max) (Nat.le_of_ble_eq_true rfl) (Nat.le_of_ble_eq_true rfl) (Nat.le_of_ble_eq_true rfl) (Nat.le_of_ble_eq_true rfl) dX9_keep_87 ?_
  refine lv_topi (fun v_26 ev_26 => ?_)
  subst ev_26
  refine z_ist C G 2 rfl (vp_in_nI (n := 1) (by decide) (by decide)) dX9_keep_90 (fun H locs G => ?_)
  have G : zS T A s.heap s [[zO8 t a1_1 ln fl pl a2_2 a3_3 a4_4 a5_5], [zAr T 1 a1_1 600 ft], [zAr T 0 a2_2 3 (upd fk 1 (if (fk 1) < 2 then 2 else (fk 1)))], [zArq T 3 a3_3 2 q1_6], [zArq T 4 a4_4 2 q2_7], [zArq T 5 a5_5 2 q3_8], [zO7 rd rl rdd rg r0 r1 tp r2 r3 r4 r5 r6 r7 r8], w2_15, wd] _ _ := G
  have hw_27 : bTold T t l0 l1 d0 d1 g0 g1 ln fl pl ft (upd fk 1 (if (fk 1) < 2 then 2 else (fk 1))) [zO8 t a1_1 ln fl pl a2_2 a3_3 a4_4 a5_5, zAr T 1 a1_1 600 ft, zAr T 0 a2_2 3 (upd fk 1 (if (fk 1) < 2 then 2 else (fk 1))), zArq T 3 a3_3 2 q1_6, zArq T 4 a4_4 2 q2_7, zArq T 5 a5_5 2 q3_8] := ⟨a1_1, a2_2, a3_3, a4_4, a5_5, q1_6, q2_7, q3_8, rfl, h_9, h_10, h_11, h_12, h_13, h_14⟩
  have G : zS T A s.heap s [[zO8 t a1_1 ln fl pl a2_2 a3_3 a4_4 a5_5, zAr T 1 a1_1 600 ft, zAr T 0 a2_2 3 (upd fk 1 (if (fk 1) < 2 then 2 else (fk 1))), zArq T 3 a3_3 2 q1_6, zArq T 4 a4_4 2 q2_7, zArq T 5 a5_5 2 q3_8], [zO7 rd rl rdd rg r0 r1 tp r2 r3 r4 r5 r6 r7 r8], w2_15, wd] _ _ := G.re rfl
  have G := G.sub (bs' := [[zO8 t a1_1 ln fl pl a2_2 a3_3 a4_4 a5_5, zAr T 1 a1_1 600 ft, zAr T 0 a2_2 3 (upd fk 1 (if (fk 1) < 2 then 2 else (fk 1))), zArq T 3 a3_3 2 q1_6, zArq T 4 a4_4 2 q2_7, zArq T 5 a5_5 2 q3_8], w2_15, [zO7 rd rl rdd rg r0 r1 tp r2 r3 r4 r5 r6 r7 r8], wd]) [0, 2, 1, 3] rfl
  exact z_back hQz_ (z_vret C hr hlocks G (Nat.le_of_ble_eq_true rfl) (Nat.le_of_ble_eq_true rfl) dX9_keep_91 ⟨([zO8 t a1_1 ln fl pl a2_2 a3_3 a4_4 a5_5, zAr T 1 a1_1 600 ft, zAr T 0 a2_2 3 (upd fk 1 (if (fk 1) < 2 then 2 else (fk 1))), zArq T 3 a3_3 2 q1_6, zArq T 4 a4_4 2 q2_7, zArq T 5 a5_5 2 q3_8]), (upd fk 1 (if (fk 1) < 2 then 2 else (fk 1))), w2_15, g1_16, g2_17, g3_18, rfl, hw_27, h_19, (zKT_upd hK 1 (z_maxK (hK 1 (by decide)) (by decide))), h_20, h_21, h_22, rfl⟩)
set_option maxHeartbeats 4000000 in
set_option maxRecDepth 100000 in
/-- c_f_keep_20 -/
theorem c_f_keep_20 (l : Launch) (T : zTy) (t : Nat) (l0 : Nat) (l1 : Nat) (d0 : Nat) (d1 : Nat) (g0 : Nat) (g1 : Nat) (ln : Int32) (fl : Int32) (pl : Int32) (ft : Nat → Int32) (fk : Nat → Int32) (wt : va_W) (gg0_ : Int32) (q10_ : Nat → Int32) (q20_ : Nat → Int32) (wg0_ : va_W) (rd : Nat) (rl : Nat) (rdd : Nat) (rg : Nat) (tp : Nat) (r0 : Int32) (r1 : Int32) (r2 : Int32) (r3 : Int32) (r4 : Int32) (r5 : Int32) (r6 : Int32) (r7 : Int32) (r8 : Int32) (gg : Int32) (e1 : Nat → Int32) (e2 : Nat → Int32) (wg : va_W) (ht : bTold T t l0 l1 d0 d1 g0 g1 ln fl pl ft fk wt) (hK : zKT fk) (hg0_ : bLog T g0 gg0_ q10_ q20_ wg0_) (hg : bLog T rg gg e1 e2 wg) : zMv l T yX9_keep cX9_keep 4 2 0 0 [.ref t, .int 2, .int 0, .ref rd] [wt, wg0_, [zO7 rd rl rdd rg r0 r1 tp r2 r3 r4 r5 r6 r7 r8], wg] (fun bs => ∃ (wt2 : va_W) (fk2 : Nat → Int32) (w2_ : va_W) (s1_ : Nat → Int32) (s2_ : Nat → Int32), bs = [wt2, w2_, [zO7 rd rl rdd rg r0 r1 tp r2 r3 r4 r5 r6 r7 r8], wg] ∧ bTold T t l0 l1 d0 d1 g0 g1 ln fl pl ft fk2 wt2 ∧ bLog T g0 gg s1_ s2_ w2_ ∧ zKT fk2 ∧ (∀ j, j < 8 → s1_ j = e1 j) ∧ (∀ j, j < 8 → s2_ j = e2 j) ∧ fk2 = upd fk 2 (if fk 2 < 1 then 1 else fk 2)) := by
  refine zMv_of (own := RX9) (by decide) rfl (Nat.le_of_ble_eq_true rfl) ?_
  intro p e s m args below meth c A ls C hr hlocks hnm hAe G hl
  refine zHide (fun Qz_ hQz_ => ?_)
  have hx := C.1
  have hb := C.2.1
  have hl : lv_has ls 4 [(0, .ref t), (1, .int 2), (2, .int 0), (3, .ref rd)] := hl
  refine lv_iload_n hx hb dX9_keep_0 rfl (lv_at hl 1 rfl) ?_
  refine lv_if_lt (tgt := 18) hx hb dX9_keep_1 (by decide) (fun q => absurd q (by decide)) (fun _ => ?_)
  refine lv_iload_n hx hb dX9_keep_4 rfl (lv_at hl 1 rfl) ?_
  refine lv_iconst (v := 2) hx hb dX9_keep_5 (by decide) ?_
  refine lv_icmp_gt (tgt := 18) hx hb dX9_keep_6 (by decide) (fun q => absurd q (by decide)) (fun _ => ?_)
  refine lv_iload_n hx hb dX9_keep_9 rfl (lv_at hl 2 rfl) ?_
  refine lv_if_lt (tgt := 18) hx hb dX9_keep_10 (by decide) (fun q => absurd q (by decide)) (fun _ => ?_)
  refine lv_iload_n hx hb dX9_keep_13 rfl (lv_at hl 2 rfl) ?_
  refine lv_iconst (v := 2) hx hb dX9_keep_14 (by decide) ?_
  refine lv_icmp_lt (tgt := 19) hx hb dX9_keep_15 (by decide) (fun _ => ?_) (fun q => absurd (by decide) q)
  refine lv_iload_n hx hb dX9_keep_19 rfl (lv_at hl 1 rfl) ?_
  refine lv_if_ne (tgt := 39) hx hb dX9_keep_20 (by decide) (fun _ => ?_) (fun q => absurd q (by decide))
  refine lv_iload_n hx hb dX9_keep_39 rfl (lv_at hl 1 rfl) ?_
  refine lv_iconst (v := 1) hx hb dX9_keep_40 (by decide) ?_
  refine lv_icmp_ne (tgt := 60) hx hb dX9_keep_41 (by decide) (fun _ => ?_) (fun q => absurd q (by decide))
  refine lv_aload_n hx hb dX9_keep_60 rfl (lv_at hl 0 rfl) ?_
  refine zEx8 ht ?_
  intro a1_1 a2_2 a3_3 a4_4 a5_5 q1_6 q2_7 q3_8
  refine zCu7 ?_
  intro hbs9 h_9 h_10 h_11 h_12 h_13 h_14
  clear ht
  subst hbs9
  have G : zS T A s.heap s [[zO8 t a1_1 ln fl pl a2_2 a3_3 a4_4 a5_5], [zAr T 1 a1_1 600 ft], [zAr T 0 a2_2 3 fk], [zArq T 3 a3_3 2 q1_6], [zArq T 4 a4_4 2 q2_7], [zArq T 5 a5_5 2 q3_8], wg0_, [zO7 rd rl rdd rg r0 r1 tp r2 r3 r4 r5 r6 r7 r8], wg] _ _ := G.re rfl
  refine z_get C G clX9 0 rfl 7 (by decide) m_fl_RX9_40 rfl dX9_keep_61 ?_
  refine lv_iload_n hx hb dX9_keep_64 rfl (lv_at hl 2 rfl) ?_
  refine z_ald C G 5 5 rfl rfl (vp_in_nI (n := 0) (by decide) (by decide)) dX9_keep_65 ?_
  rw [show q3_8 ((0 : Int32).toNatClampNeg) = some g0 from h_13]
  refine lv_aload_n hx hb dX9_keep_66 rfl (lv_at hl 3 rfl) ?_
  refine z_get C G clX7 7 rfl 2 (by decide) m_fl_RX9_64 rfl dX9_keep_67 ?_
  refine z_Vv (bc := [wg0_, wg]) (br := [[zO8 t a1_1 ln fl pl a2_2 a3_3 a4_4 a5_5], [zAr T 1 a1_1 600 ft], [zAr T 0 a2_2 3 fk], [zArq T 3 a3_3 2 q1_6], [zArq T 4 a4_4 2 q2_7], [zArq T 5 a5_5 2 q3_8], [zO7 rd rl rdd rg r0 r1 tp r2 r3 r4 r5 r6 r7 r8]]) (As := [.ref rg]) (rest := []) C G (c_Log_takeAll l T g0 rg gg0_ q10_ q20_ gg e1 e2 wg0_ wg hg0_ hg) (kV_RX9_68 C.2.2.2.2 (Nat.le_of_ble_eq_true rfl) (Nat.le_of_ble_eq_true rfl)) [6, 8] [6, 1] rfl rfl (ci := 5) (qc := (RX5, TX5, 3)) rfl rfl (List.mem_flatten.mpr ⟨_, List.mem_of_getElem? (i := 0) rfl, (bLog_mem hg0_).choose_spec⟩) rfl rfl hl.1 dX9_keep_70 (Nat.le_of_ble_eq_true rfl) (Nat.le_of_ble_eq_true rfl) (fun b1 H locs hw G => ?_)
  refine zEx3 hw ?_
  intro w2_15 g1_16 g2_17
  refine zCu4 ?_
  intro hbs9 h_18 h_19 h_20
  clear hw
  subst hbs9
  have G : zS T A s.heap s [[zO8 t a1_1 ln fl pl a2_2 a3_3 a4_4 a5_5], [zAr T 1 a1_1 600 ft], [zAr T 0 a2_2 3 fk], [zArq T 3 a3_3 2 q1_6], [zArq T 4 a4_4 2 q2_7], [zArq T 5 a5_5 2 q3_8], [zO7 rd rl rdd rg r0 r1 tp r2 r3 r4 r5 r6 r7 r8], w2_15, wg] _ _ := G
  refine lv_aload_n hx hb dX9_keep_73 rfl (lv_at hl 0 rfl) ?_
  refine z_get C G clX9 0 rfl 4 (by decide) m_fl_RX9_19 rfl dX9_keep_74 ?_
  refine lv_iload_n hx hb dX9_keep_77 rfl (lv_at hl 1 rfl) ?_
  refine lv_aload_n hx hb dX9_keep_78 rfl (lv_at hl 0 rfl) ?_
  refine z_get C G clX9 0 rfl 4 (by decide) m_fl_RX9_19 rfl dX9_keep_79 ?_
  refine lv_iload_n hx hb dX9_keep_82 rfl (lv_at hl 1 rfl) ?_
  refine z_ild C G 2 rfl (vp_in_nI (n := 2) (by decide) (by decide)) dX9_keep_83 ?_
  refine lv_topi (fun v_22 ev_22 => ?_)
  rw [show ((2 : Int32).toNatClampNeg) = 2 from rfl] at ev_22
  subst ev_22
  refine lv_iload_n hx hb dX9_keep_84 rfl (lv_at hl 2 rfl) ?_
  refine lv_iconst (v := 1) hx hb dX9_keep_85 (by decide) ?_
  refine lv_iadd hx hb dX9_keep_86 ?_
  refine lv_topi (fun y_23 ey_23 => ?_)
  obtain rfl : y_23 = 1 := ey_23.trans (by decide)
  refine va_mmax hx hb (C.2.2.1.trans hl.1.symm) C.2.2.2.1 (C.2.2.2.2 _ m_ml_RX9_71) (C.2.2.2.2 _ m_st_math_max) (C.2.2.2.2 _ m_ii_math) (C.2.2.2.2 _ m_co_math_max) (Nat.le_of_ble_eq_true rfl) (Nat.le_of_ble_eq_true rfl) (Nat.le_of_ble_eq_true rfl) (Nat.le_of_ble_eq_true rfl) dX9_keep_87 ?_
  refine lv_topi (fun v_24 ev_24 => ?_)
  subst ev_24
  refine z_ist C G 2 rfl (vp_in_nI (n := 2) (by decide) (by decide)) dX9_keep_90 (fun H locs G => ?_)
  have G : zS T A s.heap s [[zO8 t a1_1 ln fl pl a2_2 a3_3 a4_4 a5_5], [zAr T 1 a1_1 600 ft], [zAr T 0 a2_2 3 (upd fk 2 (if (fk 2) < 1 then 1 else (fk 2)))], [zArq T 3 a3_3 2 q1_6], [zArq T 4 a4_4 2 q2_7], [zArq T 5 a5_5 2 q3_8], [zO7 rd rl rdd rg r0 r1 tp r2 r3 r4 r5 r6 r7 r8], w2_15, wg] _ _ := G
  have hw_25 : bTold T t l0 l1 d0 d1 g0 g1 ln fl pl ft (upd fk 2 (if (fk 2) < 1 then 1 else (fk 2))) [zO8 t a1_1 ln fl pl a2_2 a3_3 a4_4 a5_5, zAr T 1 a1_1 600 ft, zAr T 0 a2_2 3 (upd fk 2 (if (fk 2) < 1 then 1 else (fk 2))), zArq T 3 a3_3 2 q1_6, zArq T 4 a4_4 2 q2_7, zArq T 5 a5_5 2 q3_8] := ⟨a1_1, a2_2, a3_3, a4_4, a5_5, q1_6, q2_7, q3_8, rfl, h_9, h_10, h_11, h_12, h_13, h_14⟩
  have G : zS T A s.heap s [[zO8 t a1_1 ln fl pl a2_2 a3_3 a4_4 a5_5, zAr T 1 a1_1 600 ft, zAr T 0 a2_2 3 (upd fk 2 (if (fk 2) < 1 then 1 else (fk 2))), zArq T 3 a3_3 2 q1_6, zArq T 4 a4_4 2 q2_7, zArq T 5 a5_5 2 q3_8], [zO7 rd rl rdd rg r0 r1 tp r2 r3 r4 r5 r6 r7 r8], w2_15, wg] _ _ := G.re rfl
  have G := G.sub (bs' := [[zO8 t a1_1 ln fl pl a2_2 a3_3 a4_4 a5_5, zAr T 1 a1_1 600 ft, zAr T 0 a2_2 3 (upd fk 2 (if (fk 2) < 1 then 1 else (fk 2))), zArq T 3 a3_3 2 q1_6, zArq T 4 a4_4 2 q2_7, zArq T 5 a5_5 2 q3_8], w2_15, [zO7 rd rl rdd rg r0 r1 tp r2 r3 r4 r5 r6 r7 r8], wg]) [0, 2, 1, 3] rfl
  exact z_back hQz_ (z_vret C hr hlocks G (Nat.le_of_ble_eq_true rfl) (Nat.le_of_ble_eq_true rfl) dX9_keep_91 ⟨([zO8 t a1_1 ln fl pl a2_2 a3_3 a4_4 a5_5, zAr T 1 a1_1 600 ft, zAr T 0 a2_2 3 (upd fk 2 (if (fk 2) < 1 then 1 else (fk 2))), zArq T 3 a3_3 2 q1_6, zArq T 4 a4_4 2 q2_7, zArq T 5 a5_5 2 q3_8]), (upd fk 2 (if (fk 2) < 1 then 1 else (fk 2))), w2_15, g1_16, g2_17, rfl, hw_25, h_18, (zKT_upd hK 2 (z_maxK (hK 2 (by decide)) (by decide))), h_19, h_20, rfl⟩)
set_option maxHeartbeats 4000000 in
set_option maxRecDepth 100000 in
/-- c_f_keep_21 -/
theorem c_f_keep_21 (l : Launch) (T : zTy) (t : Nat) (l0 : Nat) (l1 : Nat) (d0 : Nat) (d1 : Nat) (g0 : Nat) (g1 : Nat) (ln : Int32) (fl : Int32) (pl : Int32) (ft : Nat → Int32) (fk : Nat → Int32) (wt : va_W) (gg1_ : Int32) (q11_ : Nat → Int32) (q21_ : Nat → Int32) (wg1_ : va_W) (rd : Nat) (rl : Nat) (rdd : Nat) (rg : Nat) (tp : Nat) (r0 : Int32) (r1 : Int32) (r2 : Int32) (r3 : Int32) (r4 : Int32) (r5 : Int32) (r6 : Int32) (r7 : Int32) (r8 : Int32) (gg : Int32) (e1 : Nat → Int32) (e2 : Nat → Int32) (wg : va_W) (ht : bTold T t l0 l1 d0 d1 g0 g1 ln fl pl ft fk wt) (hK : zKT fk) (hg1_ : bLog T g1 gg1_ q11_ q21_ wg1_) (hg : bLog T rg gg e1 e2 wg) : zMv l T yX9_keep cX9_keep 4 2 0 0 [.ref t, .int 2, .int 1, .ref rd] [wt, wg1_, [zO7 rd rl rdd rg r0 r1 tp r2 r3 r4 r5 r6 r7 r8], wg] (fun bs => ∃ (wt2 : va_W) (fk2 : Nat → Int32) (w2_ : va_W) (s1_ : Nat → Int32) (s2_ : Nat → Int32), bs = [wt2, w2_, [zO7 rd rl rdd rg r0 r1 tp r2 r3 r4 r5 r6 r7 r8], wg] ∧ bTold T t l0 l1 d0 d1 g0 g1 ln fl pl ft fk2 wt2 ∧ bLog T g1 gg s1_ s2_ w2_ ∧ zKT fk2 ∧ (∀ j, j < 8 → s1_ j = e1 j) ∧ (∀ j, j < 8 → s2_ j = e2 j) ∧ fk2 = upd fk 2 (if fk 2 < 2 then 2 else fk 2)) := by
  refine zMv_of (own := RX9) (by decide) rfl (Nat.le_of_ble_eq_true rfl) ?_
  intro p e s m args below meth c A ls C hr hlocks hnm hAe G hl
  refine zHide (fun Qz_ hQz_ => ?_)
  have hx := C.1
  have hb := C.2.1
  have hl : lv_has ls 4 [(0, .ref t), (1, .int 2), (2, .int 1), (3, .ref rd)] := hl
  refine lv_iload_n hx hb dX9_keep_0 rfl (lv_at hl 1 rfl) ?_
  refine lv_if_lt (tgt := 18) hx hb dX9_keep_1 (by decide) (fun q => absurd q (by decide)) (fun _ => ?_)
  refine lv_iload_n hx hb dX9_keep_4 rfl (lv_at hl 1 rfl) ?_
  refine lv_iconst (v := 2) hx hb dX9_keep_5 (by decide) ?_
  refine lv_icmp_gt (tgt := 18) hx hb dX9_keep_6 (by decide) (fun q => absurd q (by decide)) (fun _ => ?_)
  refine lv_iload_n hx hb dX9_keep_9 rfl (lv_at hl 2 rfl) ?_
  refine lv_if_lt (tgt := 18) hx hb dX9_keep_10 (by decide) (fun q => absurd q (by decide)) (fun _ => ?_)
  refine lv_iload_n hx hb dX9_keep_13 rfl (lv_at hl 2 rfl) ?_
  refine lv_iconst (v := 2) hx hb dX9_keep_14 (by decide) ?_
  refine lv_icmp_lt (tgt := 19) hx hb dX9_keep_15 (by decide) (fun _ => ?_) (fun q => absurd (by decide) q)
  refine lv_iload_n hx hb dX9_keep_19 rfl (lv_at hl 1 rfl) ?_
  refine lv_if_ne (tgt := 39) hx hb dX9_keep_20 (by decide) (fun _ => ?_) (fun q => absurd q (by decide))
  refine lv_iload_n hx hb dX9_keep_39 rfl (lv_at hl 1 rfl) ?_
  refine lv_iconst (v := 1) hx hb dX9_keep_40 (by decide) ?_
  refine lv_icmp_ne (tgt := 60) hx hb dX9_keep_41 (by decide) (fun _ => ?_) (fun q => absurd q (by decide))
  refine lv_aload_n hx hb dX9_keep_60 rfl (lv_at hl 0 rfl) ?_
  refine zEx8 ht ?_
  intro a1_1 a2_2 a3_3 a4_4 a5_5 q1_6 q2_7 q3_8
  refine zCu7 ?_
  intro hbs9 h_9 h_10 h_11 h_12 h_13 h_14
  clear ht
  subst hbs9
  have G : zS T A s.heap s [[zO8 t a1_1 ln fl pl a2_2 a3_3 a4_4 a5_5], [zAr T 1 a1_1 600 ft], [zAr T 0 a2_2 3 fk], [zArq T 3 a3_3 2 q1_6], [zArq T 4 a4_4 2 q2_7], [zArq T 5 a5_5 2 q3_8], wg1_, [zO7 rd rl rdd rg r0 r1 tp r2 r3 r4 r5 r6 r7 r8], wg] _ _ := G.re rfl
  refine z_get C G clX9 0 rfl 7 (by decide) m_fl_RX9_40 rfl dX9_keep_61 ?_
  refine lv_iload_n hx hb dX9_keep_64 rfl (lv_at hl 2 rfl) ?_
  refine z_ald C G 5 5 rfl rfl (vp_in_nI (n := 1) (by decide) (by decide)) dX9_keep_65 ?_
  rw [show q3_8 ((1 : Int32).toNatClampNeg) = some g1 from h_14]
  refine lv_aload_n hx hb dX9_keep_66 rfl (lv_at hl 3 rfl) ?_
  refine z_get C G clX7 7 rfl 2 (by decide) m_fl_RX9_64 rfl dX9_keep_67 ?_
  refine z_Vv (bc := [wg1_, wg]) (br := [[zO8 t a1_1 ln fl pl a2_2 a3_3 a4_4 a5_5], [zAr T 1 a1_1 600 ft], [zAr T 0 a2_2 3 fk], [zArq T 3 a3_3 2 q1_6], [zArq T 4 a4_4 2 q2_7], [zArq T 5 a5_5 2 q3_8], [zO7 rd rl rdd rg r0 r1 tp r2 r3 r4 r5 r6 r7 r8]]) (As := [.ref rg]) (rest := []) C G (c_Log_takeAll l T g1 rg gg1_ q11_ q21_ gg e1 e2 wg1_ wg hg1_ hg) (kV_RX9_68 C.2.2.2.2 (Nat.le_of_ble_eq_true rfl) (Nat.le_of_ble_eq_true rfl)) [6, 8] [6, 1] rfl rfl (ci := 5) (qc := (RX5, TX5, 3)) rfl rfl (List.mem_flatten.mpr ⟨_, List.mem_of_getElem? (i := 0) rfl, (bLog_mem hg1_).choose_spec⟩) rfl rfl hl.1 dX9_keep_70 (Nat.le_of_ble_eq_true rfl) (Nat.le_of_ble_eq_true rfl) (fun b1 H locs hw G => ?_)
  refine zEx3 hw ?_
  intro w2_15 g1_16 g2_17
  refine zCu4 ?_
  intro hbs9 h_18 h_19 h_20
  clear hw
  subst hbs9
  have G : zS T A s.heap s [[zO8 t a1_1 ln fl pl a2_2 a3_3 a4_4 a5_5], [zAr T 1 a1_1 600 ft], [zAr T 0 a2_2 3 fk], [zArq T 3 a3_3 2 q1_6], [zArq T 4 a4_4 2 q2_7], [zArq T 5 a5_5 2 q3_8], [zO7 rd rl rdd rg r0 r1 tp r2 r3 r4 r5 r6 r7 r8], w2_15, wg] _ _ := G
  refine lv_aload_n hx hb dX9_keep_73 rfl (lv_at hl 0 rfl) ?_
  refine z_get C G clX9 0 rfl 4 (by decide) m_fl_RX9_19 rfl dX9_keep_74 ?_
  refine lv_iload_n hx hb dX9_keep_77 rfl (lv_at hl 1 rfl) ?_
  refine lv_aload_n hx hb dX9_keep_78 rfl (lv_at hl 0 rfl) ?_
  refine z_get C G clX9 0 rfl 4 (by decide) m_fl_RX9_19 rfl dX9_keep_79 ?_
  refine lv_iload_n hx hb dX9_keep_82 rfl (lv_at hl 1 rfl) ?_
  refine z_ild C G 2 rfl (vp_in_nI (n := 2) (by decide) (by decide)) dX9_keep_83 ?_
  refine lv_topi (fun v_22 ev_22 => ?_)
  rw [show ((2 : Int32).toNatClampNeg) = 2 from rfl] at ev_22
  subst ev_22
  refine lv_iload_n hx hb dX9_keep_84 rfl (lv_at hl 2 rfl) ?_
  refine lv_iconst (v := 1) hx hb dX9_keep_85 (by decide) ?_
  refine lv_iadd hx hb dX9_keep_86 ?_
  refine lv_topi (fun y_23 ey_23 => ?_)
  obtain rfl : y_23 = 2 := ey_23.trans (by decide)
  refine va_mmax hx hb (C.2.2.1.trans hl.1.symm) C.2.2.2.1 (C.2.2.2.2 _ m_ml_RX9_71) (C.2.2.2.2 _ m_st_math_max) (C.2.2.2.2 _ m_ii_math) (C.2.2.2.2 _ m_co_math_max) (Nat.le_of_ble_eq_true rfl) (Nat.le_of_ble_eq_true rfl) (Nat.le_of_ble_eq_true rfl) (Nat.le_of_ble_eq_true rfl) dX9_keep_87 ?_
  refine lv_topi (fun v_24 ev_24 => ?_)
  subst ev_24
  refine z_ist C G 2 rfl (vp_in_nI (n := 2) (by decide) (by decide)) dX9_keep_90 (fun H locs G => ?_)
  have G : zS T A s.heap s [[zO8 t a1_1 ln fl pl a2_2 a3_3 a4_4 a5_5], [zAr T 1 a1_1 600 ft], [zAr T 0 a2_2 3 (upd fk 2 (if (fk 2) < 2 then 2 else (fk 2)))], [zArq T 3 a3_3 2 q1_6], [zArq T 4 a4_4 2 q2_7], [zArq T 5 a5_5 2 q3_8], [zO7 rd rl rdd rg r0 r1 tp r2 r3 r4 r5 r6 r7 r8], w2_15, wg] _ _ := G
  have hw_25 : bTold T t l0 l1 d0 d1 g0 g1 ln fl pl ft (upd fk 2 (if (fk 2) < 2 then 2 else (fk 2))) [zO8 t a1_1 ln fl pl a2_2 a3_3 a4_4 a5_5, zAr T 1 a1_1 600 ft, zAr T 0 a2_2 3 (upd fk 2 (if (fk 2) < 2 then 2 else (fk 2))), zArq T 3 a3_3 2 q1_6, zArq T 4 a4_4 2 q2_7, zArq T 5 a5_5 2 q3_8] := ⟨a1_1, a2_2, a3_3, a4_4, a5_5, q1_6, q2_7, q3_8, rfl, h_9, h_10, h_11, h_12, h_13, h_14⟩
  have G : zS T A s.heap s [[zO8 t a1_1 ln fl pl a2_2 a3_3 a4_4 a5_5, zAr T 1 a1_1 600 ft, zAr T 0 a2_2 3 (upd fk 2 (if (fk 2) < 2 then 2 else (fk 2))), zArq T 3 a3_3 2 q1_6, zArq T 4 a4_4 2 q2_7, zArq T 5 a5_5 2 q3_8], [zO7 rd rl rdd rg r0 r1 tp r2 r3 r4 r5 r6 r7 r8], w2_15, wg] _ _ := G.re rfl
  have G := G.sub (bs' := [[zO8 t a1_1 ln fl pl a2_2 a3_3 a4_4 a5_5, zAr T 1 a1_1 600 ft, zAr T 0 a2_2 3 (upd fk 2 (if (fk 2) < 2 then 2 else (fk 2))), zArq T 3 a3_3 2 q1_6, zArq T 4 a4_4 2 q2_7, zArq T 5 a5_5 2 q3_8], w2_15, [zO7 rd rl rdd rg r0 r1 tp r2 r3 r4 r5 r6 r7 r8], wg]) [0, 2, 1, 3] rfl
  exact z_back hQz_ (z_vret C hr hlocks G (Nat.le_of_ble_eq_true rfl) (Nat.le_of_ble_eq_true rfl) dX9_keep_91 ⟨([zO8 t a1_1 ln fl pl a2_2 a3_3 a4_4 a5_5, zAr T 1 a1_1 600 ft, zAr T 0 a2_2 3 (upd fk 2 (if (fk 2) < 2 then 2 else (fk 2))), zArq T 3 a3_3 2 q1_6, zArq T 4 a4_4 2 q2_7, zArq T 5 a5_5 2 q3_8]), (upd fk 2 (if (fk 2) < 2 then 2 else (fk 2))), w2_15, g1_16, g2_17, rfl, hw_25, h_18, (zKT_upd hK 2 (z_maxK (hK 2 (by decide)) (by decide))), h_19, h_20, rfl⟩)
/-! TEXT of the class -/
theorem pOkAt_cg {s : Nat} {at_ : Int32} {G G' : Nat → Int32} (e : G' s = G s) : pOkAt s at_ G' ↔ pOkAt s at_ G := by unfold pOkAt; rw [e]
theorem pNr_cg {s : Nat} {at_ : Int32} {G G' : Nat → Int32} (e : G' s = G s) : pNr s at_ G' = pNr s at_ G := by unfold pNr; rw [e]
theorem pNr_bd {s : Nat} {at_ : Int32} {G : Nat → Int32} (h : pOkAt s at_ G) (hb : 0 ≤ (G s).toInt ∧ (G s).toInt ≤ 2) : 0 ≤ (pNr s at_ G).toInt ∧ (pNr s at_ G).toInt ≤ 1 := by
  by_cases c : at_.toInt = -1
  · rw [pNr_y c]; have := (pOkAt_y c).mp h; omega
  · rw [pNr_n c]; have := (pOkAt_n c).mp h; omega
theorem pCnt_ge {s : Nat} {at_ : Int32} {G : Nat → Int32} (hs : s < 3) : ∀ j, 3 ≤ j → pCnt s at_ G j = G j := by
  intro j hj
  unfold pCnt
  split
  · exact z_ne (by omega)
  · rfl
theorem zCnt {s kk : Nat} {at_ K : Int32} {fk fk2 G : Nat → Int32} (hf : ∀ j, j < 3 → fk j = G j) (hs : s < 3) (hb : 0 ≤ (G s).toInt ∧ (G s).toInt ≤ 2) (hok : pOkAt s at_ G) (hr : (pNr s at_ G).toInt = (kk : Int)) (hK : K.toInt = (kk : Int) + 1) (h2 : fk2 = upd fk s (if fk s < K then K else fk s)) : ∀ j, j < 3 → fk2 j = pCnt s at_ G j := by
  intro j hj
  rw [h2]
  have es := hf s hs
  by_cases c : at_.toInt = -1
  · rw [pNr_y c] at hr
    rw [pCnt_y c, if_pos ((fa_lt _ _).mpr (by rw [es]; omega))]
    by_cases e : j = s
    · rw [z_eq e, z_eq e]
      exact Int32.toInt_inj.mp (by rw [z_p1 (by omega) (by omega)]; omega)
    · rw [z_ne e, z_ne e]; exact hf j hj
  · rw [pNr_n c] at hr
    have ho := (pOkAt_n c).mp hok
    rw [pCnt_n c, if_neg (fun z => by have z2 := (fa_lt _ _).mp z; rw [es] at z2; omega)]
    by_cases e : j = s
    · rw [z_eq e, e]; exact es
    · rw [z_ne e]; exact hf j hj
theorem pHd_lo {G : Nat → Int32} {x y : Int32} {j : Nat} (h : j < 3) : pHd G x y j = G j := by unfold pHd; rw [z_ne (by omega), z_ne (by omega), z_ne (by omega)]
set_option maxHeartbeats 4000000 in
set_option maxRecDepth 100000 in
/-- c_f_text0 -/
theorem c_f_text0 (l : Launch) (T : zTy) (xo : Nat) (t : Nat) (im : Nat) (mk : Nat) (rd : Nat) (po : Nat) (co : Nat) (tr : Nat) (wa : Nat) (wb_ : Nat) (fi : Nat) (cd : Nat) (l0 : Nat) (l1 : Nat) (d0 : Nat) (d1 : Nat) (g0 : Nat) (g1 : Nat) (ln : Int32) (fl : Int32) (pl : Int32) (ft : Nat → Int32) (fk : Nat → Int32) (wt : va_W) (cr0_ : Int32) (inn0_ : Int32) (k10_ : Nat → Int32) (k20_ : Nat → Int32) (k30_ : Nat → Int32) (k40_ : Nat → Int32) (z0_ : va_W) (cr1_ : Int32) (inn1_ : Int32) (k11_ : Nat → Int32) (k21_ : Nat → Int32) (k31_ : Nat → Int32) (k41_ : Nat → Int32) (z1_ : va_W) (dd0_ : Int32) (p10_ : Nat → Int32) (p20_ : Nat → Int32) (p30_ : Nat → Int32) (wd0_ : va_W) (dd1_ : Int32) (p11_ : Nat → Int32) (p21_ : Nat → Int32) (p31_ : Nat → Int32) (wd1_ : va_W) (gg0_ : Int32) (q10_ : Nat → Int32) (q20_ : Nat → Int32) (wg0_ : va_W) (gg1_ : Int32) (q11_ : Nat → Int32) (q21_ : Nat → Int32) (wg1_ : va_W) (rl : Nat) (rdd : Nat) (rg : Nat) (r0 : Int32) (r1 : Int32) (r2 : Int32) (r3 : Int32) (r4 : Int32) (r5 : Int32) (r6 : Int32) (r7 : Int32) (r8 : Int32) (tq : Nat) (cr : Int32) (inn : Int32) (k1 : Nat → Int32) (k2 : Nat → Int32) (k3 : Nat → Int32) (k4 : Nat → Int32) (z : va_W) (dd : Int32) (v1 : Nat → Int32) (v2 : Nat → Int32) (v3 : Nat → Int32) (wd : va_W) (gg : Int32) (e1 : Nat → Int32) (e2 : Nat → Int32) (wg : va_W) (laA : Nat) (mdA : Int32) (wyA : Int32) (pc_A : Int32) (f1A : Nat → Int32) (f2A : Nat → Int32) (f3A : Nat → Int32) (f4A : Nat → Int32) (f5A : Nat → Int32) (f6A : Nat → Int32) (n4A : Nat) (wwA : va_W) (laB : Nat) (mdB : Int32) (wyB : Int32) (pc_B : Int32) (f1B : Nat → Int32) (f2B : Nat → Int32) (f3B : Nat → Int32) (f4B : Nat → Int32) (f5B : Nat → Int32) (f6B : Nat → Int32) (n4B : Nat) (wwB : va_W) (e0f : Int32) (e1f : Int32) (e2f : Int32) (e3f : Int32) (e4f : Int32) (e5f : Int32) (r1f : Nat → Int32) (m1f : Nat) (r2f : Nat → Int32) (wff : va_W) (k : pT) (N : Nat) (Gr : Nat → Int32) (at_ : Int32) (ht : bTold T t l0 l1 d0 d1 g0 g1 ln fl pl ft fk wt) (hK : zKT fk) (hz0_ : bLand T l0 cr0_ inn0_ k10_ k20_ k30_ k40_ z0_) (hI0_ : zLI cr0_ k10_ k30_) (hz1_ : bLand T l1 cr1_ inn1_ k11_ k21_ k31_ k41_ z1_) (hI1_ : zLI cr1_ k11_ k31_) (hd0_ : bDay T d0 dd0_ p10_ p20_ p30_ wd0_) (hd1_ : bDay T d1 dd1_ p11_ p21_ p31_ wd1_) (hg0_ : bLog T g0 gg0_ q10_ q20_ wg0_) (hg1_ : bLog T g1 gg1_ q11_ q21_ wg1_) (hz : bLand T rl cr inn k1 k2 k3 k4 z) (hd : bDay T rdd dd v1 v2 v3 wd) (hg : bLog T rg gg e1 e2 wg) (hwwA : bWays T wa laA mdA wyA pc_A f1A f2A f3A f4A f5A f6A n4A wwA) (hwwB : bWays T wb_ laB mdB wyB pc_B f1B f2B f3B f4B f5B f6B n4B wwB) (hwff : bFit T fi e0f e1f e2f e3f e4f e5f r1f m1f r2f wff) (hT : zTR ln fl pl ft fk cr0_ inn0_ k10_ k20_ k30_ k40_ cr1_ inn1_ k11_ k21_ k31_ k41_ dd0_ p10_ p20_ p30_ dd1_ p11_ p21_ p31_ gg0_ q10_ q20_ gg1_ q11_ q21_ Gr) (hN : ln = nI N) (hN6 : N ≤ 600) (hk : k = tkT ft N) : zMi l T yX11_text cX11_text 5 (some .int) 9 0 0 [.ref xo, .int 0, .int at_] [[zO10 xo t im mk rd po co tr wa wb_ fi cd], wt, z0_, z1_, wd0_, wd1_, wg0_, wg1_, [zO7 rd rl rdd rg r0 r1 tq r2 r3 r4 r5 r6 r7 r8], z, wd, wg, wwA, wwB, wff] (fun (r : Int32) bs => ∃ (ln_2 : Int32) (fl_2 : Int32) (pl_2 : Int32) (ft_2 : Nat → Int32) (fk_2 : Nat → Int32) (wt_2 : va_W) (cr0__2 : Int32) (inn0__2 : Int32) (k10__2 : Nat → Int32) (k20__2 : Nat → Int32) (k30__2 : Nat → Int32) (k40__2 : Nat → Int32) (z0__2 : va_W) (cr1__2 : Int32) (inn1__2 : Int32) (k11__2 : Nat → Int32) (k21__2 : Nat → Int32) (k31__2 : Nat → Int32) (k41__2 : Nat → Int32) (z1__2 : va_W) (dd0__2 : Int32) (p10__2 : Nat → Int32) (p20__2 : Nat → Int32) (p30__2 : Nat → Int32) (wd0__2 : va_W) (dd1__2 : Int32) (p11__2 : Nat → Int32) (p21__2 : Nat → Int32) (p31__2 : Nat → Int32) (wd1__2 : va_W) (gg0__2 : Int32) (q10__2 : Nat → Int32) (q20__2 : Nat → Int32) (wg0__2 : va_W) (gg1__2 : Int32) (q11__2 : Nat → Int32) (q21__2 : Nat → Int32) (wg1__2 : va_W) (s0 : Int32) (s1 : Int32) (s2 : Int32) (s3 : Int32) (s4 : Int32) (s5 : Int32) (s6 : Int32) (s7 : Int32) (s8 : Int32) (tq_2 : Nat) (z2 : va_W) (c2 : Int32) (i2_ : Int32) (j1 : Nat → Int32) (j2 : Nat → Int32) (j3 : Nat → Int32) (j4 : Nat → Int32) (wd2 : va_W) (dd2 : Int32) (b1 : Nat → Int32) (b2 : Nat → Int32) (b3 : Nat → Int32) (wg2 : va_W) (gg2 : Int32) (b4 : Nat → Int32) (b5 : Nat → Int32) (wwA_2 : va_W) (wwB_2 : va_W) (wff_2 : va_W) (mdA_2 : Int32) (mdB_2 : Int32) (e0f_2 : Int32), bs = [[zO10 xo t im mk rd po co tr wa wb_ fi cd], wt_2, z0__2, z1__2, wd0__2, wd1__2, wg0__2, wg1__2, [zO7 rd rl rdd rg s0 s1 tq_2 s2 s3 s4 s5 s6 s7 s8], z2, wd2, wg2, wwA_2, wwB_2, wff_2] ∧ bTold T t l0 l1 d0 d1 g0 g1 ln_2 fl_2 pl_2 ft_2 fk_2 wt_2 ∧ zKT fk_2 ∧ bLand T l0 cr0__2 inn0__2 k10__2 k20__2 k30__2 k40__2 z0__2 ∧ zLI cr0__2 k10__2 k30__2 ∧ bLand T l1 cr1__2 inn1__2 k11__2 k21__2 k31__2 k41__2 z1__2 ∧ zLI cr1__2 k11__2 k31__2 ∧ bDay T d0 dd0__2 p10__2 p20__2 p30__2 wd0__2 ∧ bDay T d1 dd1__2 p11__2 p21__2 p31__2 wd1__2 ∧ bLog T g0 gg0__2 q10__2 q20__2 wg0__2 ∧ bLog T g1 gg1__2 q11__2 q21__2 wg1__2 ∧ bLand T rl c2 i2_ j1 j2 j3 j4 z2 ∧ bDay T rdd dd2 b1 b2 b3 wd2 ∧ bLog T rg gg2 b4 b5 wg2 ∧ bWays T wa laA mdA_2 wyA pc_A f1A f2A f3A f4A f5A f6A n4A wwA_2 ∧ bWays T wb_ laB mdB_2 wyB pc_B f1B f2B f3B f4B f5B f6B n4B wwB_2 ∧ bFit T fi e0f_2 e1f e2f e3f e4f e5f r1f m1f r2f wff_2 ∧ ln_2 = 0 ∧ (mdA_2 = 0 ∧ mdB_2 = 0 ∧ e0f_2 = 0 ∨ mdA_2 = mdA ∧ mdB_2 = mdB ∧ e0f_2 = 0 ∨ mdA_2 = mdA ∧ mdB_2 = mdB ∧ e0f_2 = e0f) ∧ (∃ G2, zText (pRead k N 0) 0 at_ Gr G2 r ∧ zTR ln_2 fl_2 pl_2 ft_2 fk_2 cr0__2 inn0__2 k10__2 k20__2 k30__2 k40__2 cr1__2 inn1__2 k11__2 k21__2 k31__2 k41__2 dd0__2 p10__2 p20__2 p30__2 dd1__2 p11__2 p21__2 p31__2 gg0__2 q10__2 q20__2 gg1__2 q11__2 q21__2 G2) ∧ (r.toInt < 0 ∨ mdA_2 = 0 ∧ mdB_2 = 0 ∧ e0f_2 = 0)) := by
  refine zMi_of (own := RX11) (by decide) rfl (Nat.le_of_ble_eq_true rfl) ?_
  intro p e s m args below meth c A ls C hr hlocks hnm hAe G hl
  refine zHide (fun Qz_ hQz_ => ?_)
  have hx := C.1
  have hb := C.2.1
  have hl : lv_has ls 5 [(0, .ref xo), (1, .int 0), (2, .int at_)] := hl
  refine lv_aload_n hx hb dX11_text_0 rfl (lv_at hl 0 rfl) ?_
  refine z_get C G clX11 0 rfl 0 (by decide) m_fl_RX11_10 rfl dX11_text_1 ?_
  refine lv_iload_n hx hb dX11_text_4 rfl (lv_at hl 1 rfl) ?_
  refine lv_iload_n hx hb dX11_text_5 rfl (lv_at hl 2 rfl) ?_
  refine z_Vi (bc := [wt]) (br := [[zO10 xo t im mk rd po co tr wa wb_ fi cd], z0_, z1_, wd0_, wd1_, wg0_, wg1_, [zO7 rd rl rdd rg r0 r1 tq r2 r3 r4 r5 r6 r7 r8], z, wd, wg, wwA, wwB, wff]) (As := [.int 0, .int at_]) (rest := []) C G (c_f_placeFor0 l T t l0 l1 d0 d1 g0 g1 ln fl pl ft fk wt at_ ht) (kV_RX11_81 C.2.2.2.2 (Nat.le_of_ble_eq_true rfl) (Nat.le_of_ble_eq_true rfl)) [1] [1] rfl rfl (ci := 8) (qc := (RX9, TX9, 8)) rfl rfl (List.mem_flatten.mpr ⟨_, List.mem_of_getElem? (i := 0) rfl, (bTold_mem ht).choose_spec⟩) rfl rfl hl.1 dX11_text_6 (Nat.le_of_ble_eq_true rfl) (Nat.le_of_ble_eq_true rfl) (fun r_2 b1 H locs hw G => ?_)
  refine zAn2 hw ?_
  intro hbs9 h_1
  clear hw
  subst hbs9
  have G : zS T A s.heap s [[zO10 xo t im mk rd po co tr wa wb_ fi cd], z0_, z1_, wd0_, wd1_, wg0_, wg1_, [zO7 rd rl rdd rg r0 r1 tq r2 r3 r4 r5 r6 r7 r8], z, wd, wg, wwA, wwB, wff, wt] _ _ := G
  have hTd := hT.1
  have hGs : Gr 0 = fk 0 := (hTd.2.2.2.1 0 (by decide)).symm
  refine lv_istore_n (lv' := [(3, .int r_2), (0, .ref xo), (1, .int 0), (2, .int at_)]) hx hb dX11_text_9 rfl hl (by decide) (zLvf_h rfl) (fun ls hl => ?_)
  refine lv_aload_n hx hb dX11_text_10 rfl (lv_at hl 1 rfl) ?_
  refine z_get C G clX11 0 rfl 0 (by decide) m_fl_RX11_10 rfl dX11_text_11 ?_
  refine zEx8 ht ?_
  intro a1_3 a2_4 a3_5 a4_6 a5_7 q1_8 q2_9 q3_10
  refine zCu7 ?_
  intro hbs9 h_11 h_12 h_13 h_14 h_15 h_16
  clear ht
  subst hbs9
  have G : zS T A s.heap s [[zO10 xo t im mk rd po co tr wa wb_ fi cd], z0_, z1_, wd0_, wd1_, wg0_, wg1_, [zO7 rd rl rdd rg r0 r1 tq r2 r3 r4 r5 r6 r7 r8], z, wd, wg, wwA, wwB, wff, [zO8 t a1_3 ln fl pl a2_4 a3_5 a4_6 a5_7], [zAr T 1 a1_3 600 ft], [zAr T 0 a2_4 3 fk], [zArq T 3 a3_5 2 q1_8], [zArq T 4 a4_6 2 q2_9], [zArq T 5 a5_7 2 q3_10]] _ _ := G.re rfl
  refine z_get C G clX9 14 rfl 1 (by decide) m_fl_RX11_73 rfl dX11_text_14 ?_
  refine lv_istore (lv' := [(4, .int ln), (3, .int r_2), (0, .ref xo), (1, .int 0), (2, .int at_)]) hx hb dX11_text_17 hl (by decide) (zLvf_h rfl) (fun ls hl => ?_)
  refine lv_aload_n hx hb dX11_text_19 rfl (lv_at hl 2 rfl) ?_
  refine z_get C G clX11 0 rfl 0 (by decide) m_fl_RX11_10 rfl dX11_text_20 ?_
  refine lv_iconst (v := 0) hx hb dX11_text_23 (by decide) ?_
  refine z_put C G clX9 14 rfl 1 (by decide) m_fl_RX11_73 rfl rfl rfl (Nat.le_of_ble_eq_true rfl) dX11_text_24 (fun H locs G => ?_)
  have G : zS T A s.heap s [[zO10 xo t im mk rd po co tr wa wb_ fi cd], z0_, z1_, wd0_, wd1_, wg0_, wg1_, [zO7 rd rl rdd rg r0 r1 tq r2 r3 r4 r5 r6 r7 r8], z, wd, wg, wwA, wwB, wff, [zO8 t a1_3 0 fl pl a2_4 a3_5 a4_6 a5_7], [zAr T 1 a1_3 600 ft], [zAr T 0 a2_4 3 fk], [zArq T 3 a3_5 2 q1_8], [zArq T 4 a4_6 2 q2_9], [zArq T 5 a5_7 2 q3_10]] _ _ := G
  refine lv_aload_n hx hb dX11_text_27 rfl (lv_at hl 2 rfl) ?_
  refine z_get C G clX11 0 rfl 0 (by decide) m_fl_RX11_10 rfl dX11_text_28 ?_
  refine lv_iconst (v := 0) hx hb dX11_text_31 (by decide) ?_
  refine z_put C G clX9 14 rfl 2 (by decide) m_fl_RX11_85 rfl rfl rfl (Nat.le_of_ble_eq_true rfl) dX11_text_32 (fun H locs G => ?_)
  have G : zS T A s.heap s [[zO10 xo t im mk rd po co tr wa wb_ fi cd], z0_, z1_, wd0_, wd1_, wg0_, wg1_, [zO7 rd rl rdd rg r0 r1 tq r2 r3 r4 r5 r6 r7 r8], z, wd, wg, wwA, wwB, wff, [zO8 t a1_3 0 0 pl a2_4 a3_5 a4_6 a5_7], [zAr T 1 a1_3 600 ft], [zAr T 0 a2_4 3 fk], [zArq T 3 a3_5 2 q1_8], [zArq T 4 a4_6 2 q2_9], [zArq T 5 a5_7 2 q3_10]] _ _ := G
  refine lv_aload_n hx hb dX11_text_35 rfl (lv_at hl 2 rfl) ?_
  refine z_get C G clX11 0 rfl 0 (by decide) m_fl_RX11_10 rfl dX11_text_36 ?_
  refine lv_iconst (v := (-1)) hx hb dX11_text_39 (by decide) ?_
  refine z_put C G clX9 14 rfl 3 (by decide) m_fl_RX11_88 rfl rfl rfl (Nat.le_of_ble_eq_true rfl) dX11_text_40 (fun H locs G => ?_)
  have G : zS T A s.heap s [[zO10 xo t im mk rd po co tr wa wb_ fi cd], z0_, z1_, wd0_, wd1_, wg0_, wg1_, [zO7 rd rl rdd rg r0 r1 tq r2 r3 r4 r5 r6 r7 r8], z, wd, wg, wwA, wwB, wff, [zO8 t a1_3 0 0 (-1) a2_4 a3_5 a4_6 a5_7], [zAr T 1 a1_3 600 ft], [zAr T 0 a2_4 3 fk], [zArq T 3 a3_5 2 q1_8], [zArq T 4 a4_6 2 q2_9], [zArq T 5 a5_7 2 q3_10]] _ _ := G
  rcases h_1 with ⟨hno, hm2⟩ | ⟨hok, hnr⟩
  · have hnoG : ¬ pOkAt 0 at_ Gr := fun z9 => hno ((pOkAt_cg (at_ := at_) hGs).mp z9)
    refine lv_iload_n hx hb dX11_text_43 rfl (lv_at hl 1 rfl) ?_
    refine lv_bipush (v := (-2)) hx hb dX11_text_44 (by decide) ?_
    refine lv_icmp_ne (tgt := 52) hx hb dX11_text_46 (by decide) (fun q => absurd ((fa_eq r_2 ((-2) : Int32)).mpr (by show r_2.toInt = (-2 : Int); omega)) q) (fun _ => ?_)
    refine lv_bipush (v := (-2)) hx hb dX11_text_49 (by decide) ?_
    have hw_17 : bTold T t l0 l1 d0 d1 g0 g1 0 0 (-1) ft fk [zO8 t a1_3 0 0 (-1) a2_4 a3_5 a4_6 a5_7, zAr T 1 a1_3 600 ft, zAr T 0 a2_4 3 fk, zArq T 3 a3_5 2 q1_8, zArq T 4 a4_6 2 q2_9, zArq T 5 a5_7 2 q3_10] := ⟨a1_3, a2_4, a3_5, a4_6, a5_7, q1_8, q2_9, q3_10, rfl, h_11, h_12, h_13, h_14, h_15, h_16⟩
    have G : zS T A s.heap s [[zO10 xo t im mk rd po co tr wa wb_ fi cd], z0_, z1_, wd0_, wd1_, wg0_, wg1_, [zO7 rd rl rdd rg r0 r1 tq r2 r3 r4 r5 r6 r7 r8], z, wd, wg, wwA, wwB, wff, [zO8 t a1_3 0 0 (-1) a2_4 a3_5 a4_6 a5_7, zAr T 1 a1_3 600 ft, zAr T 0 a2_4 3 fk, zArq T 3 a3_5 2 q1_8, zArq T 4 a4_6 2 q2_9, zArq T 5 a5_7 2 q3_10]] _ _ := G.re rfl
    have G := G.sub (bs' := [[zO10 xo t im mk rd po co tr wa wb_ fi cd], [zO8 t a1_3 0 0 (-1) a2_4 a3_5 a4_6 a5_7, zAr T 1 a1_3 600 ft, zAr T 0 a2_4 3 fk, zArq T 3 a3_5 2 q1_8, zArq T 4 a4_6 2 q2_9, zArq T 5 a5_7 2 q3_10], z0_, z1_, wd0_, wd1_, wg0_, wg1_, [zO7 rd rl rdd rg r0 r1 tq r2 r3 r4 r5 r6 r7 r8], z, wd, wg, wwA, wwB, wff]) [0, 14, 1, 2, 3, 4, 5, 6, 7, 8, 9, 10, 11, 12, 13] rfl
    exact z_back hQz_ (z_iret C hr hlocks G (Nat.le_of_ble_eq_true rfl) (Nat.le_of_ble_eq_true rfl) dX11_text_51 ⟨0, 0, (-1), ft, fk, ([zO8 t a1_3 0 0 (-1) a2_4 a3_5 a4_6 a5_7, zAr T 1 a1_3 600 ft, zAr T 0 a2_4 3 fk, zArq T 3 a3_5 2 q1_8, zArq T 4 a4_6 2 q2_9, zArq T 5 a5_7 2 q3_10]), cr0_, inn0_, k10_, k20_, k30_, k40_, z0_, cr1_, inn1_, k11_, k21_, k31_, k41_, z1_, dd0_, p10_, p20_, p30_, wd0_, dd1_, p11_, p21_, p31_, wd1_, gg0_, q10_, q20_, wg0_, gg1_, q11_, q21_, wg1_, r0, r1, r2, r3, r4, r5, r6, r7, r8, tq, z, cr, inn, k1, k2, k3, k4, wd, dd, v1, v2, v3, wg, gg, e1, e2, wwA, wwB, wff, mdA, mdB, e0f, rfl, hw_17, (by first | with_reducible assumption | omega | trivial | assumption), hz0_, (by first | with_reducible assumption | omega | trivial | assumption), hz1_, (by first | with_reducible assumption | omega | trivial | assumption), hd0_, hd1_, hg0_, hg1_, hz, hd, hg, hwwA, hwwB, hwff, rfl, (by first | exact Or.inl ⟨rfl, rfl, rfl⟩ | exact Or.inr (Or.inl ⟨rfl, rfl, rfl⟩) | exact Or.inr (Or.inr ⟨rfl, rfl, rfl⟩)), ⟨pHd Gr 0 (-1), Or.inl ⟨hnoG, rfl, fun _ _ => rfl⟩, zTR_hd hT⟩, (by first | exact Or.inl (by decide) | exact Or.inr ⟨rfl, rfl, rfl⟩ | exact Or.inr rfl)⟩)
  · have hokG := (pOkAt_cg (at_ := at_) hGs).mpr hok
    have hrb : 0 ≤ r_2.toInt ∧ r_2.toInt ≤ 1 := by rw [hnr]; exact pNr_bd hok (hK 0 (by decide))
    have hnG : pNr 0 at_ Gr = r_2 := (pNr_cg hGs).trans hnr.symm
    refine lv_iload_n hx hb dX11_text_43 rfl (lv_at hl 1 rfl) ?_
    refine lv_bipush (v := (-2)) hx hb dX11_text_44 (by decide) ?_
    refine lv_icmp_ne (tgt := 52) hx hb dX11_text_46 (by decide) (fun _ => ?_) (fun q => absurd q (fun q2 => absurd (show r_2.toInt = (-2 : Int) from (fa_eq r_2 ((-2) : Int32)).mp q2) (by omega)))
    refine lv_aload_n hx hb dX11_text_52 rfl (lv_at hl 2 rfl) ?_
    refine z_get C G clX11 0 rfl 3 (by decide) m_fl_RX11_27 rfl dX11_text_53 ?_
    refine lv_aload_n hx hb dX11_text_56 rfl (lv_at hl 2 rfl) ?_
    refine z_get C G clX11 0 rfl 0 (by decide) m_fl_RX11_10 rfl dX11_text_57 ?_
    refine z_get C G clX9 14 rfl 0 (by decide) m_fl_RX11_91 rfl dX11_text_60 ?_
    refine lv_iload hx hb dX11_text_63 (lv_at hl 0 rfl) ?_
    refine lv_iload_n hx hb dX11_text_65 rfl (lv_at hl 3 rfl) ?_
    refine z_Vv (bc := [[zO7 rd rl rdd rg r0 r1 tq r2 r3 r4 r5 r6 r7 r8], [zAr T 1 a1_3 600 ft], z, wd, wg]) (br := [[zO10 xo t im mk rd po co tr wa wb_ fi cd], z0_, z1_, wd0_, wd1_, wg0_, wg1_, wwA, wwB, wff, [zO8 t a1_3 0 0 (-1) a2_4 a3_5 a4_6 a5_7], [zAr T 0 a2_4 3 fk], [zArq T 3 a3_5 2 q1_8], [zArq T 4 a4_6 2 q2_9], [zArq T 5 a5_7 2 q3_10]]) (As := [.ref a1_3, .int ln, .int 0]) (rest := []) C G (c_f_read0 l T rd rl rdd rg a1_3 r0 r1 r2 r3 r4 r5 r6 r7 r8 tq ft cr inn k1 k2 k3 k4 z dd v1 v2 v3 wd gg e1 e2 wg ln k N hz hd hg hN hN6 hk) (kV_RX11_95 C.2.2.2.2 (Nat.le_of_ble_eq_true rfl) (Nat.le_of_ble_eq_true rfl)) [7, 15, 8, 9, 10] [7, 0, 0, 0, 4] rfl rfl (ci := 7) (qc := (RX7, TX7, 13)) rfl rfl (List.mem_flatten.mpr ⟨_, List.mem_of_getElem? (i := 0) rfl, List.mem_cons_self⟩) rfl rfl hl.1 dX11_text_66 (Nat.le_of_ble_eq_true rfl) (Nat.le_of_ble_eq_true rfl) (fun b1 H locs hw G => ?_)
    refine zEx18 hw ?_
    intro u2_18 u0_19 u1_20 u3_21 u4_22 u5_23 u6_24 u7_25 u8_26 z2_27 c2_28 i2_29 j1_30 j2_31 j3_32 j4_33 wd2_34 wg2_35
    refine zCu8 ?_
    intro hbs9 h_36 h_37 h_38 h_39 h_40 h_41 h_42
    clear hw
    subst hbs9
    have G : zS T A s.heap s [[zO10 xo t im mk rd po co tr wa wb_ fi cd], z0_, z1_, wd0_, wd1_, wg0_, wg1_, wwA, wwB, wff, [zO8 t a1_3 0 0 (-1) a2_4 a3_5 a4_6 a5_7], [zAr T 0 a2_4 3 fk], [zArq T 3 a3_5 2 q1_8], [zArq T 4 a4_6 2 q2_9], [zArq T 5 a5_7 2 q3_10], [zO7 rd rl rdd rg u0_19 u1_20 a1_3 u2_18 u3_21 u4_22 u5_23 u6_24 u7_25 u8_26], [zAr T 1 a1_3 600 ft], z2_27, wd2_34, wg2_35] _ _ := G
    have hu0i := congrArg Int32.toInt h_40
    refine lv_aload_n hx hb dX11_text_69 rfl (lv_at hl 2 rfl) ?_
    refine z_get C G clX11 0 rfl 0 (by decide) m_fl_RX11_10 rfl dX11_text_70 ?_
    refine lv_aload_n hx hb dX11_text_73 rfl (lv_at hl 2 rfl) ?_
    refine z_get C G clX11 0 rfl 3 (by decide) m_fl_RX11_27 rfl dX11_text_74 ?_
    refine z_get C G clX7 15 rfl 3 (by decide) m_fl_RX11_99 rfl dX11_text_77 ?_
    refine z_put C G clX9 10 rfl 2 (by decide) m_fl_RX11_85 rfl rfl rfl (Nat.le_of_ble_eq_true rfl) dX11_text_80 (fun H locs G => ?_)
    have G : zS T A s.heap s [[zO10 xo t im mk rd po co tr wa wb_ fi cd], z0_, z1_, wd0_, wd1_, wg0_, wg1_, wwA, wwB, wff, [zO8 t a1_3 0 u0_19 (-1) a2_4 a3_5 a4_6 a5_7], [zAr T 0 a2_4 3 fk], [zArq T 3 a3_5 2 q1_8], [zArq T 4 a4_6 2 q2_9], [zArq T 5 a5_7 2 q3_10], [zO7 rd rl rdd rg u0_19 u1_20 a1_3 u2_18 u3_21 u4_22 u5_23 u6_24 u7_25 u8_26], [zAr T 1 a1_3 600 ft], z2_27, wd2_34, wg2_35] _ _ := G
    refine lv_aload_n hx hb dX11_text_83 rfl (lv_at hl 2 rfl) ?_
    refine z_get C G clX11 0 rfl 0 (by decide) m_fl_RX11_10 rfl dX11_text_84 ?_
    refine lv_aload_n hx hb dX11_text_87 rfl (lv_at hl 2 rfl) ?_
    refine z_get C G clX11 0 rfl 3 (by decide) m_fl_RX11_27 rfl dX11_text_88 ?_
    refine z_get C G clX7 15 rfl 4 (by decide) m_fl_RX11_100 rfl dX11_text_91 ?_
    refine z_put C G clX9 10 rfl 3 (by decide) m_fl_RX11_88 rfl rfl rfl (Nat.le_of_ble_eq_true rfl) dX11_text_94 (fun H locs G => ?_)
    have G : zS T A s.heap s [[zO10 xo t im mk rd po co tr wa wb_ fi cd], z0_, z1_, wd0_, wd1_, wg0_, wg1_, wwA, wwB, wff, [zO8 t a1_3 0 u0_19 u1_20 a2_4 a3_5 a4_6 a5_7], [zAr T 0 a2_4 3 fk], [zArq T 3 a3_5 2 q1_8], [zArq T 4 a4_6 2 q2_9], [zArq T 5 a5_7 2 q3_10], [zO7 rd rl rdd rg u0_19 u1_20 a1_3 u2_18 u3_21 u4_22 u5_23 u6_24 u7_25 u8_26], [zAr T 1 a1_3 600 ft], z2_27, wd2_34, wg2_35] _ _ := G
    refine lv_aload_n hx hb dX11_text_97 rfl (lv_at hl 2 rfl) ?_
    refine z_get C G clX11 0 rfl 3 (by decide) m_fl_RX11_27 rfl dX11_text_98 ?_
    refine z_get C G clX7 15 rfl 3 (by decide) m_fl_RX11_99 rfl dX11_text_101 ?_
    refine lv_if_eq (tgt := 109) hx hb dX11_text_104 (by decide) (fun c_44 => ?_) (fun c_44 => ?_)
    · have c_44n : u0_19.toInt = (0 : Int) := (fa_eq _ _).mp c_44
      refine lv_aload_n hx hb dX11_text_109 rfl (lv_at hl 2 rfl) ?_
      refine z_get C G clX11 0 rfl 0 (by decide) m_fl_RX11_10 rfl dX11_text_110 ?_
      refine lv_iload_n hx hb dX11_text_113 rfl (lv_at hl 3 rfl) ?_
      refine lv_iload_n hx hb dX11_text_114 rfl (lv_at hl 1 rfl) ?_
      refine lv_aload_n hx hb dX11_text_115 rfl (lv_at hl 2 rfl) ?_
      refine z_get C G clX11 0 rfl 3 (by decide) m_fl_RX11_27 rfl dX11_text_116 ?_
      rcases (show r_2.toInt = 0 ∨ r_2.toInt = 1 from by omega) with hkk | hkk
      · obtain rfl : r_2 = 0 := Int32.toInt_inj.mp hkk
        have G := G.sub (bs' := [[zO10 xo t im mk rd po co tr wa wb_ fi cd], z0_, z1_, wd0_, wd1_, wg0_, wg1_, wwA, wwB, wff, [zO8 t a1_3 0 u0_19 u1_20 a2_4 a3_5 a4_6 a5_7], [zAr T 1 a1_3 600 ft], [zAr T 0 a2_4 3 fk], [zArq T 3 a3_5 2 q1_8], [zArq T 4 a4_6 2 q2_9], [zArq T 5 a5_7 2 q3_10], [zO7 rd rl rdd rg u0_19 u1_20 a1_3 u2_18 u3_21 u4_22 u5_23 u6_24 u7_25 u8_26], z2_27, wd2_34, wg2_35]) [0, 1, 2, 3, 4, 5, 6, 7, 8, 9, 10, 16, 11, 12, 13, 14, 15, 17, 18, 19] rfl
        have hw_45 : bTold T t l0 l1 d0 d1 g0 g1 0 u0_19 u1_20 ft fk [zO8 t a1_3 0 u0_19 u1_20 a2_4 a3_5 a4_6 a5_7, zAr T 1 a1_3 600 ft, zAr T 0 a2_4 3 fk, zArq T 3 a3_5 2 q1_8, zArq T 4 a4_6 2 q2_9, zArq T 5 a5_7 2 q3_10] := ⟨a1_3, a2_4, a3_5, a4_6, a5_7, q1_8, q2_9, q3_10, rfl, h_11, h_12, h_13, h_14, h_15, h_16⟩
        have G : zS T A s.heap s [[zO10 xo t im mk rd po co tr wa wb_ fi cd], z0_, z1_, wd0_, wd1_, wg0_, wg1_, wwA, wwB, wff, [zO8 t a1_3 0 u0_19 u1_20 a2_4 a3_5 a4_6 a5_7, zAr T 1 a1_3 600 ft, zAr T 0 a2_4 3 fk, zArq T 3 a3_5 2 q1_8, zArq T 4 a4_6 2 q2_9, zArq T 5 a5_7 2 q3_10], [zO7 rd rl rdd rg u0_19 u1_20 a1_3 u2_18 u3_21 u4_22 u5_23 u6_24 u7_25 u8_26], z2_27, wd2_34, wg2_35] _ _ := G.re rfl
        refine z_Vv (bc := [[zO8 t a1_3 0 u0_19 u1_20 a2_4 a3_5 a4_6 a5_7, zAr T 1 a1_3 600 ft, zAr T 0 a2_4 3 fk, zArq T 3 a3_5 2 q1_8, zArq T 4 a4_6 2 q2_9, zArq T 5 a5_7 2 q3_10], z0_, [zO7 rd rl rdd rg u0_19 u1_20 a1_3 u2_18 u3_21 u4_22 u5_23 u6_24 u7_25 u8_26], z2_27]) (br := [[zO10 xo t im mk rd po co tr wa wb_ fi cd], z1_, wd0_, wd1_, wg0_, wg1_, wwA, wwB, wff, wd2_34, wg2_35]) (As := [.int 0, .int 0, .ref rd]) (rest := []) C G (c_f_keep_00 l T t l0 l1 d0 d1 g0 g1 0 u0_19 u1_20 ft fk ([zO8 t a1_3 0 u0_19 u1_20 a2_4 a3_5 a4_6 a5_7, zAr T 1 a1_3 600 ft, zAr T 0 a2_4 3 fk, zArq T 3 a3_5 2 q1_8, zArq T 4 a4_6 2 q2_9, zArq T 5 a5_7 2 q3_10]) cr0_ inn0_ k10_ k20_ k30_ k40_ z0_ rd rl rdd rg a1_3 u0_19 u1_20 u2_18 u3_21 u4_22 u5_23 u6_24 u7_25 u8_26 c2_28 i2_29 j1_30 j2_31 j3_32 j4_33 z2_27 hw_45 (by first | with_reducible assumption | with_reducible rfl | omega | assumption | rfl) hz0_ (by first | with_reducible assumption | with_reducible rfl | omega | assumption | rfl) h_36 (by first | with_reducible assumption | with_reducible rfl | omega | assumption | rfl)) (kV_RX11_101 C.2.2.2.2 (Nat.le_of_ble_eq_true rfl) (Nat.le_of_ble_eq_true rfl)) [10, 1, 11, 12] [1, 8, 0, 0] rfl rfl (ci := 8) (qc := (RX9, TX9, 8)) rfl rfl (List.mem_flatten.mpr ⟨_, List.mem_of_getElem? (i := 0) rfl, (bTold_mem hw_45).choose_spec⟩) rfl rfl hl.1 dX11_text_119 (Nat.le_of_ble_eq_true rfl) (Nat.le_of_ble_eq_true rfl) (fun b1 H locs hw G => ?_)
        refine zEx7 hw ?_
        intro wt2_46 fk2_47 w2__48 s1__49 s2__50 s3__51 s4__52
        refine zCu10 ?_
        intro hbs9 h_53 h_54 h_55 h_56 h_57 h_58 h_59 h_60 h_61
        clear hw
        subst hbs9
        have G : zS T A s.heap s [[zO10 xo t im mk rd po co tr wa wb_ fi cd], z1_, wd0_, wd1_, wg0_, wg1_, wwA, wwB, wff, wd2_34, wg2_35, wt2_46, w2__48, [zO7 rd rl rdd rg u0_19 u1_20 a1_3 u2_18 u3_21 u4_22 u5_23 u6_24 u7_25 u8_26], z2_27] _ _ := G
        refine lv_aload_n hx hb dX11_text_122 rfl (lv_at hl 2 rfl) ?_
        refine lv_iload_n hx hb dX11_text_123 rfl (lv_at hl 3 rfl) ?_
        refine lv_if_ne (tgt := 131) hx hb dX11_text_124 (by decide) (fun q => absurd (by decide) q) (fun _ => ?_)
        refine lv_iconst (v := 1) hx hb dX11_text_127 (by decide) ?_
        refine lv_goto (tgt := 132) hx hb dX11_text_128 (by decide) ?_
        refine z_Vv (bc := [[zO10 xo t im mk rd po co tr wa wb_ fi cd], wwA, wwB, wff]) (br := [z1_, wd0_, wd1_, wg0_, wg1_, wd2_34, wg2_35, wt2_46, w2__48, [zO7 rd rl rdd rg u0_19 u1_20 a1_3 u2_18 u3_21 u4_22 u5_23 u6_24 u7_25 u8_26], z2_27]) (As := [.int 1]) (rest := []) C G (c_forget1 l T xo t im mk rd po co tr wa wb_ fi cd laA mdA wyA pc_A f1A f2A f3A f4A f5A f6A n4A wwA laB mdB wyB pc_B f1B f2B f3B f4B f5B f6B n4B wwB e0f e1f e2f e3f e4f e5f r1f m1f r2f wff hwwA hwwB hwff) (kV_RX11_105 C.2.2.2.2 (Nat.le_of_ble_eq_true rfl) (Nat.le_of_ble_eq_true rfl)) [0, 6, 7, 8] [0, 5, 0, 0] rfl rfl (ci := 10) (qc := (RX11, TX11, 11)) rfl rfl (List.mem_flatten.mpr ⟨_, List.mem_of_getElem? (i := 0) rfl, List.mem_cons_self⟩) rfl rfl hl.1 dX11_text_132 (Nat.le_of_ble_eq_true rfl) (Nat.le_of_ble_eq_true rfl) (fun b1 H locs hw G => ?_)
        refine zEx3 hw ?_
        intro wwA_63 wwB_64 wff_65
        refine zCu4 ?_
        intro hbs9 h_66 h_67 h_68
        clear hw
        subst hbs9
        have G : zS T A s.heap s [z1_, wd0_, wd1_, wg0_, wg1_, wd2_34, wg2_35, wt2_46, w2__48, [zO7 rd rl rdd rg u0_19 u1_20 a1_3 u2_18 u3_21 u4_22 u5_23 u6_24 u7_25 u8_26], z2_27, [zO10 xo t im mk rd po co tr wa wb_ fi cd], wwA_63, wwB_64, wff_65] _ _ := G
        refine lv_iload_n hx hb dX11_text_135 rfl (lv_at hl 1 rfl) ?_
        have G := G.sub (bs' := [[zO10 xo t im mk rd po co tr wa wb_ fi cd], wt2_46, w2__48, z1_, wd0_, wd1_, wg0_, wg1_, [zO7 rd rl rdd rg u0_19 u1_20 a1_3 u2_18 u3_21 u4_22 u5_23 u6_24 u7_25 u8_26], z2_27, wd2_34, wg2_35, wwA_63, wwB_64, wff_65]) [11, 7, 8, 0, 1, 2, 3, 4, 9, 10, 5, 6, 12, 13, 14] rfl
        exact z_back hQz_ (z_iret C hr hlocks G (Nat.le_of_ble_eq_true rfl) (Nat.le_of_ble_eq_true rfl) dX11_text_136 ⟨0, u0_19, u1_20, ft, fk2_47, wt2_46, c2_28, i2_29, s1__49, s2__50, s3__51, s4__52, w2__48, cr1_, inn1_, k11_, k21_, k31_, k41_, z1_, dd0_, p10_, p20_, p30_, wd0_, dd1_, p11_, p21_, p31_, wd1_, gg0_, q10_, q20_, wg0_, gg1_, q11_, q21_, wg1_, u0_19, u1_20, u2_18, u3_21, u4_22, u5_23, u6_24, u7_25, u8_26, a1_3, z2_27, c2_28, i2_29, j1_30, j2_31, j3_32, j4_33, wd2_34, 0, v1, v2, v3, wg2_35, 0, e1, e2, wwA_63, wwB_64, wff_65, 0, 0, 0, rfl, h_53, (by first | with_reducible assumption | omega | trivial | assumption), h_54, (by first | with_reducible assumption | omega | trivial | assumption), hz1_, (by first | with_reducible assumption | omega | trivial | assumption), hd0_, hd1_, hg0_, hg1_, h_36, h_38, h_39, h_66, h_67, h_68, rfl, (by first | exact Or.inl ⟨rfl, rfl, rfl⟩ | exact Or.inr (Or.inl ⟨rfl, rfl, rfl⟩) | exact Or.inr (Or.inr ⟨rfl, rfl, rfl⟩)), ⟨pPut 0 (pNr 0 at_ Gr).toInt.toNat (pRead k N 0).2 (pCnt 0 at_ (pHd Gr (pRead k N 0).1.2.2.1 (pRead k N 0).1.2.2.2.1)), Or.inr (Or.inr ⟨hokG, by omega, hnG.symm, fun _ _ => rfl⟩), by rw [show (pNr 0 at_ Gr).toInt.toNat = 0 by rw [hnG]; rfl, h_40, h_41]; exact zTR_p00 (zTR_hd hT) (zCnt (kk := 0) (K := 1) (fun j hj => (hTd.2.2.2.1 j hj).trans (pHd_lo hj).symm) (by decide) (by rw [pHd_lo (by decide), hGs]; exact hK 0 (by decide)) ((pOkAt_cg (pHd_lo (by decide))).mpr hokG) (by rw [pNr_cg (pHd_lo (by decide)), hnG]; rfl) rfl h_61) (pCnt_ge (by decide)) (zLnd_eq (zLnd_c h_42 (by omega)) (fun j hj => (h_37.2.1 j hj).2) h_57 h_58 h_59 h_60)⟩, (by first | exact Or.inl (by decide) | exact Or.inr ⟨rfl, rfl, rfl⟩ | exact Or.inr rfl)⟩)
      · obtain rfl : r_2 = 1 := Int32.toInt_inj.mp hkk
        have G := G.sub (bs' := [[zO10 xo t im mk rd po co tr wa wb_ fi cd], z0_, z1_, wd0_, wd1_, wg0_, wg1_, wwA, wwB, wff, [zO8 t a1_3 0 u0_19 u1_20 a2_4 a3_5 a4_6 a5_7], [zAr T 1 a1_3 600 ft], [zAr T 0 a2_4 3 fk], [zArq T 3 a3_5 2 q1_8], [zArq T 4 a4_6 2 q2_9], [zArq T 5 a5_7 2 q3_10], [zO7 rd rl rdd rg u0_19 u1_20 a1_3 u2_18 u3_21 u4_22 u5_23 u6_24 u7_25 u8_26], z2_27, wd2_34, wg2_35]) [0, 1, 2, 3, 4, 5, 6, 7, 8, 9, 10, 16, 11, 12, 13, 14, 15, 17, 18, 19] rfl
        have hw_70 : bTold T t l0 l1 d0 d1 g0 g1 0 u0_19 u1_20 ft fk [zO8 t a1_3 0 u0_19 u1_20 a2_4 a3_5 a4_6 a5_7, zAr T 1 a1_3 600 ft, zAr T 0 a2_4 3 fk, zArq T 3 a3_5 2 q1_8, zArq T 4 a4_6 2 q2_9, zArq T 5 a5_7 2 q3_10] := ⟨a1_3, a2_4, a3_5, a4_6, a5_7, q1_8, q2_9, q3_10, rfl, h_11, h_12, h_13, h_14, h_15, h_16⟩
        have G : zS T A s.heap s [[zO10 xo t im mk rd po co tr wa wb_ fi cd], z0_, z1_, wd0_, wd1_, wg0_, wg1_, wwA, wwB, wff, [zO8 t a1_3 0 u0_19 u1_20 a2_4 a3_5 a4_6 a5_7, zAr T 1 a1_3 600 ft, zAr T 0 a2_4 3 fk, zArq T 3 a3_5 2 q1_8, zArq T 4 a4_6 2 q2_9, zArq T 5 a5_7 2 q3_10], [zO7 rd rl rdd rg u0_19 u1_20 a1_3 u2_18 u3_21 u4_22 u5_23 u6_24 u7_25 u8_26], z2_27, wd2_34, wg2_35] _ _ := G.re rfl
        refine z_Vv (bc := [[zO8 t a1_3 0 u0_19 u1_20 a2_4 a3_5 a4_6 a5_7, zAr T 1 a1_3 600 ft, zAr T 0 a2_4 3 fk, zArq T 3 a3_5 2 q1_8, zArq T 4 a4_6 2 q2_9, zArq T 5 a5_7 2 q3_10], z1_, [zO7 rd rl rdd rg u0_19 u1_20 a1_3 u2_18 u3_21 u4_22 u5_23 u6_24 u7_25 u8_26], z2_27]) (br := [[zO10 xo t im mk rd po co tr wa wb_ fi cd], z0_, wd0_, wd1_, wg0_, wg1_, wwA, wwB, wff, wd2_34, wg2_35]) (As := [.int 0, .int 1, .ref rd]) (rest := []) C G (c_f_keep_01 l T t l0 l1 d0 d1 g0 g1 0 u0_19 u1_20 ft fk ([zO8 t a1_3 0 u0_19 u1_20 a2_4 a3_5 a4_6 a5_7, zAr T 1 a1_3 600 ft, zAr T 0 a2_4 3 fk, zArq T 3 a3_5 2 q1_8, zArq T 4 a4_6 2 q2_9, zArq T 5 a5_7 2 q3_10]) cr1_ inn1_ k11_ k21_ k31_ k41_ z1_ rd rl rdd rg a1_3 u0_19 u1_20 u2_18 u3_21 u4_22 u5_23 u6_24 u7_25 u8_26 c2_28 i2_29 j1_30 j2_31 j3_32 j4_33 z2_27 hw_70 (by first | with_reducible assumption | with_reducible rfl | omega | assumption | rfl) hz1_ (by first | with_reducible assumption | with_reducible rfl | omega | assumption | rfl) h_36 (by first | with_reducible assumption | with_reducible rfl | omega | assumption | rfl)) (kV_RX11_101 C.2.2.2.2 (Nat.le_of_ble_eq_true rfl) (Nat.le_of_ble_eq_true rfl)) [10, 2, 11, 12] [2, 7, 0, 0] rfl rfl (ci := 8) (qc := (RX9, TX9, 8)) rfl rfl (List.mem_flatten.mpr ⟨_, List.mem_of_getElem? (i := 0) rfl, (bTold_mem hw_70).choose_spec⟩) rfl rfl hl.1 dX11_text_119 (Nat.le_of_ble_eq_true rfl) (Nat.le_of_ble_eq_true rfl) (fun b1 H locs hw G => ?_)
        refine zEx7 hw ?_
        intro wt2_71 fk2_72 w2__73 s1__74 s2__75 s3__76 s4__77
        refine zCu10 ?_
        intro hbs9 h_78 h_79 h_80 h_81 h_82 h_83 h_84 h_85 h_86
        clear hw
        subst hbs9
        have G : zS T A s.heap s [[zO10 xo t im mk rd po co tr wa wb_ fi cd], z0_, wd0_, wd1_, wg0_, wg1_, wwA, wwB, wff, wd2_34, wg2_35, wt2_71, w2__73, [zO7 rd rl rdd rg u0_19 u1_20 a1_3 u2_18 u3_21 u4_22 u5_23 u6_24 u7_25 u8_26], z2_27] _ _ := G
        refine lv_aload_n hx hb dX11_text_122 rfl (lv_at hl 2 rfl) ?_
        refine lv_iload_n hx hb dX11_text_123 rfl (lv_at hl 3 rfl) ?_
        refine lv_if_ne (tgt := 131) hx hb dX11_text_124 (by decide) (fun q => absurd (by decide) q) (fun _ => ?_)
        refine lv_iconst (v := 1) hx hb dX11_text_127 (by decide) ?_
        refine lv_goto (tgt := 132) hx hb dX11_text_128 (by decide) ?_
        refine z_Vv (bc := [[zO10 xo t im mk rd po co tr wa wb_ fi cd], wwA, wwB, wff]) (br := [z0_, wd0_, wd1_, wg0_, wg1_, wd2_34, wg2_35, wt2_71, w2__73, [zO7 rd rl rdd rg u0_19 u1_20 a1_3 u2_18 u3_21 u4_22 u5_23 u6_24 u7_25 u8_26], z2_27]) (As := [.int 1]) (rest := []) C G (c_forget1 l T xo t im mk rd po co tr wa wb_ fi cd laA mdA wyA pc_A f1A f2A f3A f4A f5A f6A n4A wwA laB mdB wyB pc_B f1B f2B f3B f4B f5B f6B n4B wwB e0f e1f e2f e3f e4f e5f r1f m1f r2f wff hwwA hwwB hwff) (kV_RX11_105 C.2.2.2.2 (Nat.le_of_ble_eq_true rfl) (Nat.le_of_ble_eq_true rfl)) [0, 6, 7, 8] [0, 5, 0, 0] rfl rfl (ci := 10) (qc := (RX11, TX11, 11)) rfl rfl (List.mem_flatten.mpr ⟨_, List.mem_of_getElem? (i := 0) rfl, List.mem_cons_self⟩) rfl rfl hl.1 dX11_text_132 (Nat.le_of_ble_eq_true rfl) (Nat.le_of_ble_eq_true rfl) (fun b1 H locs hw G => ?_)
        refine zEx3 hw ?_
        intro wwA_88 wwB_89 wff_90
        refine zCu4 ?_
        intro hbs9 h_91 h_92 h_93
        clear hw
        subst hbs9
        have G : zS T A s.heap s [z0_, wd0_, wd1_, wg0_, wg1_, wd2_34, wg2_35, wt2_71, w2__73, [zO7 rd rl rdd rg u0_19 u1_20 a1_3 u2_18 u3_21 u4_22 u5_23 u6_24 u7_25 u8_26], z2_27, [zO10 xo t im mk rd po co tr wa wb_ fi cd], wwA_88, wwB_89, wff_90] _ _ := G
        refine lv_iload_n hx hb dX11_text_135 rfl (lv_at hl 1 rfl) ?_
        have G := G.sub (bs' := [[zO10 xo t im mk rd po co tr wa wb_ fi cd], wt2_71, z0_, w2__73, wd0_, wd1_, wg0_, wg1_, [zO7 rd rl rdd rg u0_19 u1_20 a1_3 u2_18 u3_21 u4_22 u5_23 u6_24 u7_25 u8_26], z2_27, wd2_34, wg2_35, wwA_88, wwB_89, wff_90]) [11, 7, 0, 8, 1, 2, 3, 4, 9, 10, 5, 6, 12, 13, 14] rfl
        exact z_back hQz_ (z_iret C hr hlocks G (Nat.le_of_ble_eq_true rfl) (Nat.le_of_ble_eq_true rfl) dX11_text_136 ⟨0, u0_19, u1_20, ft, fk2_72, wt2_71, cr0_, inn0_, k10_, k20_, k30_, k40_, z0_, c2_28, i2_29, s1__74, s2__75, s3__76, s4__77, w2__73, dd0_, p10_, p20_, p30_, wd0_, dd1_, p11_, p21_, p31_, wd1_, gg0_, q10_, q20_, wg0_, gg1_, q11_, q21_, wg1_, u0_19, u1_20, u2_18, u3_21, u4_22, u5_23, u6_24, u7_25, u8_26, a1_3, z2_27, c2_28, i2_29, j1_30, j2_31, j3_32, j4_33, wd2_34, 0, v1, v2, v3, wg2_35, 0, e1, e2, wwA_88, wwB_89, wff_90, 0, 0, 0, rfl, h_78, (by first | with_reducible assumption | omega | trivial | assumption), hz0_, (by first | with_reducible assumption | omega | trivial | assumption), h_79, (by first | with_reducible assumption | omega | trivial | assumption), hd0_, hd1_, hg0_, hg1_, h_36, h_38, h_39, h_91, h_92, h_93, rfl, (by first | exact Or.inl ⟨rfl, rfl, rfl⟩ | exact Or.inr (Or.inl ⟨rfl, rfl, rfl⟩) | exact Or.inr (Or.inr ⟨rfl, rfl, rfl⟩)), ⟨pPut 0 (pNr 0 at_ Gr).toInt.toNat (pRead k N 0).2 (pCnt 0 at_ (pHd Gr (pRead k N 0).1.2.2.1 (pRead k N 0).1.2.2.2.1)), Or.inr (Or.inr ⟨hokG, by omega, hnG.symm, fun _ _ => rfl⟩), by rw [show (pNr 0 at_ Gr).toInt.toNat = 1 by rw [hnG]; rfl, h_40, h_41]; exact zTR_p01 (zTR_hd hT) (zCnt (kk := 1) (K := 2) (fun j hj => (hTd.2.2.2.1 j hj).trans (pHd_lo hj).symm) (by decide) (by rw [pHd_lo (by decide), hGs]; exact hK 0 (by decide)) ((pOkAt_cg (pHd_lo (by decide))).mpr hokG) (by rw [pNr_cg (pHd_lo (by decide)), hnG]; rfl) rfl h_86) (pCnt_ge (by decide)) (zLnd_eq (zLnd_c h_42 (by omega)) (fun j hj => (h_37.2.1 j hj).2) h_82 h_83 h_84 h_85)⟩, (by first | exact Or.inl (by decide) | exact Or.inr ⟨rfl, rfl, rfl⟩ | exact Or.inr rfl)⟩)
    · have c_44n : ¬ u0_19.toInt = (0 : Int) := fun q => c_44 ((fa_eq _ _).mpr q)
      refine lv_iconst (v := (-1)) hx hb dX11_text_107 (by decide) ?_
      have G := G.sub (bs' := [[zO10 xo t im mk rd po co tr wa wb_ fi cd], z0_, z1_, wd0_, wd1_, wg0_, wg1_, wwA, wwB, wff, [zO8 t a1_3 0 u0_19 u1_20 a2_4 a3_5 a4_6 a5_7], [zAr T 1 a1_3 600 ft], [zAr T 0 a2_4 3 fk], [zArq T 3 a3_5 2 q1_8], [zArq T 4 a4_6 2 q2_9], [zArq T 5 a5_7 2 q3_10], [zO7 rd rl rdd rg u0_19 u1_20 a1_3 u2_18 u3_21 u4_22 u5_23 u6_24 u7_25 u8_26], z2_27, wd2_34, wg2_35]) [0, 1, 2, 3, 4, 5, 6, 7, 8, 9, 10, 16, 11, 12, 13, 14, 15, 17, 18, 19] rfl
      have hw_95 : bTold T t l0 l1 d0 d1 g0 g1 0 u0_19 u1_20 ft fk [zO8 t a1_3 0 u0_19 u1_20 a2_4 a3_5 a4_6 a5_7, zAr T 1 a1_3 600 ft, zAr T 0 a2_4 3 fk, zArq T 3 a3_5 2 q1_8, zArq T 4 a4_6 2 q2_9, zArq T 5 a5_7 2 q3_10] := ⟨a1_3, a2_4, a3_5, a4_6, a5_7, q1_8, q2_9, q3_10, rfl, h_11, h_12, h_13, h_14, h_15, h_16⟩
      have G : zS T A s.heap s [[zO10 xo t im mk rd po co tr wa wb_ fi cd], z0_, z1_, wd0_, wd1_, wg0_, wg1_, wwA, wwB, wff, [zO8 t a1_3 0 u0_19 u1_20 a2_4 a3_5 a4_6 a5_7, zAr T 1 a1_3 600 ft, zAr T 0 a2_4 3 fk, zArq T 3 a3_5 2 q1_8, zArq T 4 a4_6 2 q2_9, zArq T 5 a5_7 2 q3_10], [zO7 rd rl rdd rg u0_19 u1_20 a1_3 u2_18 u3_21 u4_22 u5_23 u6_24 u7_25 u8_26], z2_27, wd2_34, wg2_35] _ _ := G.re rfl
      have G := G.sub (bs' := [[zO10 xo t im mk rd po co tr wa wb_ fi cd], [zO8 t a1_3 0 u0_19 u1_20 a2_4 a3_5 a4_6 a5_7, zAr T 1 a1_3 600 ft, zAr T 0 a2_4 3 fk, zArq T 3 a3_5 2 q1_8, zArq T 4 a4_6 2 q2_9, zArq T 5 a5_7 2 q3_10], z0_, z1_, wd0_, wd1_, wg0_, wg1_, [zO7 rd rl rdd rg u0_19 u1_20 a1_3 u2_18 u3_21 u4_22 u5_23 u6_24 u7_25 u8_26], z2_27, wd2_34, wg2_35, wwA, wwB, wff]) [0, 10, 1, 2, 3, 4, 5, 6, 11, 12, 13, 14, 7, 8, 9] rfl
      exact z_back hQz_ (z_iret C hr hlocks G (Nat.le_of_ble_eq_true rfl) (Nat.le_of_ble_eq_true rfl) dX11_text_108 ⟨0, u0_19, u1_20, ft, fk, ([zO8 t a1_3 0 u0_19 u1_20 a2_4 a3_5 a4_6 a5_7, zAr T 1 a1_3 600 ft, zAr T 0 a2_4 3 fk, zArq T 3 a3_5 2 q1_8, zArq T 4 a4_6 2 q2_9, zArq T 5 a5_7 2 q3_10]), cr0_, inn0_, k10_, k20_, k30_, k40_, z0_, cr1_, inn1_, k11_, k21_, k31_, k41_, z1_, dd0_, p10_, p20_, p30_, wd0_, dd1_, p11_, p21_, p31_, wd1_, gg0_, q10_, q20_, wg0_, gg1_, q11_, q21_, wg1_, u0_19, u1_20, u2_18, u3_21, u4_22, u5_23, u6_24, u7_25, u8_26, a1_3, z2_27, c2_28, i2_29, j1_30, j2_31, j3_32, j4_33, wd2_34, 0, v1, v2, v3, wg2_35, 0, e1, e2, wwA, wwB, wff, mdA, mdB, e0f, rfl, hw_95, (by first | with_reducible assumption | omega | trivial | assumption), hz0_, (by first | with_reducible assumption | omega | trivial | assumption), hz1_, (by first | with_reducible assumption | omega | trivial | assumption), hd0_, hd1_, hg0_, hg1_, h_36, h_38, h_39, hwwA, hwwB, hwff, rfl, (by first | exact Or.inl ⟨rfl, rfl, rfl⟩ | exact Or.inr (Or.inl ⟨rfl, rfl, rfl⟩) | exact Or.inr (Or.inr ⟨rfl, rfl, rfl⟩)), ⟨pHd Gr (pRead k N 0).1.2.2.1 (pRead k N 0).1.2.2.2.1, Or.inr (Or.inl ⟨hokG, by omega, rfl, fun _ _ => rfl⟩), by rw [h_40, h_41]; exact zTR_hd hT⟩, (by first | exact Or.inl (by decide) | exact Or.inr ⟨rfl, rfl, rfl⟩ | exact Or.inr rfl)⟩)
set_option maxHeartbeats 4000000 in
set_option maxRecDepth 100000 in
/-- c_f_text1 -/
theorem c_f_text1 (l : Launch) (T : zTy) (xo : Nat) (t : Nat) (im : Nat) (mk : Nat) (rd : Nat) (po : Nat) (co : Nat) (tr : Nat) (wa : Nat) (wb_ : Nat) (fi : Nat) (cd : Nat) (l0 : Nat) (l1 : Nat) (d0 : Nat) (d1 : Nat) (g0 : Nat) (g1 : Nat) (ln : Int32) (fl : Int32) (pl : Int32) (ft : Nat → Int32) (fk : Nat → Int32) (wt : va_W) (cr0_ : Int32) (inn0_ : Int32) (k10_ : Nat → Int32) (k20_ : Nat → Int32) (k30_ : Nat → Int32) (k40_ : Nat → Int32) (z0_ : va_W) (cr1_ : Int32) (inn1_ : Int32) (k11_ : Nat → Int32) (k21_ : Nat → Int32) (k31_ : Nat → Int32) (k41_ : Nat → Int32) (z1_ : va_W) (dd0_ : Int32) (p10_ : Nat → Int32) (p20_ : Nat → Int32) (p30_ : Nat → Int32) (wd0_ : va_W) (dd1_ : Int32) (p11_ : Nat → Int32) (p21_ : Nat → Int32) (p31_ : Nat → Int32) (wd1_ : va_W) (gg0_ : Int32) (q10_ : Nat → Int32) (q20_ : Nat → Int32) (wg0_ : va_W) (gg1_ : Int32) (q11_ : Nat → Int32) (q21_ : Nat → Int32) (wg1_ : va_W) (rl : Nat) (rdd : Nat) (rg : Nat) (r0 : Int32) (r1 : Int32) (r2 : Int32) (r3 : Int32) (r4 : Int32) (r5 : Int32) (r6 : Int32) (r7 : Int32) (r8 : Int32) (tq : Nat) (cr : Int32) (inn : Int32) (k1 : Nat → Int32) (k2 : Nat → Int32) (k3 : Nat → Int32) (k4 : Nat → Int32) (z : va_W) (dd : Int32) (v1 : Nat → Int32) (v2 : Nat → Int32) (v3 : Nat → Int32) (wd : va_W) (gg : Int32) (e1 : Nat → Int32) (e2 : Nat → Int32) (wg : va_W) (laA : Nat) (mdA : Int32) (wyA : Int32) (pc_A : Int32) (f1A : Nat → Int32) (f2A : Nat → Int32) (f3A : Nat → Int32) (f4A : Nat → Int32) (f5A : Nat → Int32) (f6A : Nat → Int32) (n4A : Nat) (wwA : va_W) (laB : Nat) (mdB : Int32) (wyB : Int32) (pc_B : Int32) (f1B : Nat → Int32) (f2B : Nat → Int32) (f3B : Nat → Int32) (f4B : Nat → Int32) (f5B : Nat → Int32) (f6B : Nat → Int32) (n4B : Nat) (wwB : va_W) (e0f : Int32) (e1f : Int32) (e2f : Int32) (e3f : Int32) (e4f : Int32) (e5f : Int32) (r1f : Nat → Int32) (m1f : Nat) (r2f : Nat → Int32) (wff : va_W) (k : pT) (N : Nat) (Gr : Nat → Int32) (at_ : Int32) (ht : bTold T t l0 l1 d0 d1 g0 g1 ln fl pl ft fk wt) (hK : zKT fk) (hz0_ : bLand T l0 cr0_ inn0_ k10_ k20_ k30_ k40_ z0_) (hI0_ : zLI cr0_ k10_ k30_) (hz1_ : bLand T l1 cr1_ inn1_ k11_ k21_ k31_ k41_ z1_) (hI1_ : zLI cr1_ k11_ k31_) (hd0_ : bDay T d0 dd0_ p10_ p20_ p30_ wd0_) (hd1_ : bDay T d1 dd1_ p11_ p21_ p31_ wd1_) (hg0_ : bLog T g0 gg0_ q10_ q20_ wg0_) (hg1_ : bLog T g1 gg1_ q11_ q21_ wg1_) (hz : bLand T rl cr inn k1 k2 k3 k4 z) (hd : bDay T rdd dd v1 v2 v3 wd) (hg : bLog T rg gg e1 e2 wg) (hwwA : bWays T wa laA mdA wyA pc_A f1A f2A f3A f4A f5A f6A n4A wwA) (hwwB : bWays T wb_ laB mdB wyB pc_B f1B f2B f3B f4B f5B f6B n4B wwB) (hwff : bFit T fi e0f e1f e2f e3f e4f e5f r1f m1f r2f wff) (hT : zTR ln fl pl ft fk cr0_ inn0_ k10_ k20_ k30_ k40_ cr1_ inn1_ k11_ k21_ k31_ k41_ dd0_ p10_ p20_ p30_ dd1_ p11_ p21_ p31_ gg0_ q10_ q20_ gg1_ q11_ q21_ Gr) (hN : ln = nI N) (hN6 : N ≤ 600) (hk : k = tkT ft N) : zMi l T yX11_text cX11_text 5 (some .int) 9 0 0 [.ref xo, .int 1, .int at_] [[zO10 xo t im mk rd po co tr wa wb_ fi cd], wt, z0_, z1_, wd0_, wd1_, wg0_, wg1_, [zO7 rd rl rdd rg r0 r1 tq r2 r3 r4 r5 r6 r7 r8], z, wd, wg, wwA, wwB, wff] (fun (r : Int32) bs => ∃ (ln_2 : Int32) (fl_2 : Int32) (pl_2 : Int32) (ft_2 : Nat → Int32) (fk_2 : Nat → Int32) (wt_2 : va_W) (cr0__2 : Int32) (inn0__2 : Int32) (k10__2 : Nat → Int32) (k20__2 : Nat → Int32) (k30__2 : Nat → Int32) (k40__2 : Nat → Int32) (z0__2 : va_W) (cr1__2 : Int32) (inn1__2 : Int32) (k11__2 : Nat → Int32) (k21__2 : Nat → Int32) (k31__2 : Nat → Int32) (k41__2 : Nat → Int32) (z1__2 : va_W) (dd0__2 : Int32) (p10__2 : Nat → Int32) (p20__2 : Nat → Int32) (p30__2 : Nat → Int32) (wd0__2 : va_W) (dd1__2 : Int32) (p11__2 : Nat → Int32) (p21__2 : Nat → Int32) (p31__2 : Nat → Int32) (wd1__2 : va_W) (gg0__2 : Int32) (q10__2 : Nat → Int32) (q20__2 : Nat → Int32) (wg0__2 : va_W) (gg1__2 : Int32) (q11__2 : Nat → Int32) (q21__2 : Nat → Int32) (wg1__2 : va_W) (s0 : Int32) (s1 : Int32) (s2 : Int32) (s3 : Int32) (s4 : Int32) (s5 : Int32) (s6 : Int32) (s7 : Int32) (s8 : Int32) (tq_2 : Nat) (z2 : va_W) (c2 : Int32) (i2_ : Int32) (j1 : Nat → Int32) (j2 : Nat → Int32) (j3 : Nat → Int32) (j4 : Nat → Int32) (wd2 : va_W) (dd2 : Int32) (b1 : Nat → Int32) (b2 : Nat → Int32) (b3 : Nat → Int32) (wg2 : va_W) (gg2 : Int32) (b4 : Nat → Int32) (b5 : Nat → Int32) (wwA_2 : va_W) (wwB_2 : va_W) (wff_2 : va_W) (mdA_2 : Int32) (mdB_2 : Int32) (e0f_2 : Int32), bs = [[zO10 xo t im mk rd po co tr wa wb_ fi cd], wt_2, z0__2, z1__2, wd0__2, wd1__2, wg0__2, wg1__2, [zO7 rd rl rdd rg s0 s1 tq_2 s2 s3 s4 s5 s6 s7 s8], z2, wd2, wg2, wwA_2, wwB_2, wff_2] ∧ bTold T t l0 l1 d0 d1 g0 g1 ln_2 fl_2 pl_2 ft_2 fk_2 wt_2 ∧ zKT fk_2 ∧ bLand T l0 cr0__2 inn0__2 k10__2 k20__2 k30__2 k40__2 z0__2 ∧ zLI cr0__2 k10__2 k30__2 ∧ bLand T l1 cr1__2 inn1__2 k11__2 k21__2 k31__2 k41__2 z1__2 ∧ zLI cr1__2 k11__2 k31__2 ∧ bDay T d0 dd0__2 p10__2 p20__2 p30__2 wd0__2 ∧ bDay T d1 dd1__2 p11__2 p21__2 p31__2 wd1__2 ∧ bLog T g0 gg0__2 q10__2 q20__2 wg0__2 ∧ bLog T g1 gg1__2 q11__2 q21__2 wg1__2 ∧ bLand T rl c2 i2_ j1 j2 j3 j4 z2 ∧ bDay T rdd dd2 b1 b2 b3 wd2 ∧ bLog T rg gg2 b4 b5 wg2 ∧ bWays T wa laA mdA_2 wyA pc_A f1A f2A f3A f4A f5A f6A n4A wwA_2 ∧ bWays T wb_ laB mdB_2 wyB pc_B f1B f2B f3B f4B f5B f6B n4B wwB_2 ∧ bFit T fi e0f_2 e1f e2f e3f e4f e5f r1f m1f r2f wff_2 ∧ ln_2 = 0 ∧ (mdA_2 = 0 ∧ mdB_2 = 0 ∧ e0f_2 = 0 ∨ mdA_2 = mdA ∧ mdB_2 = mdB ∧ e0f_2 = 0 ∨ mdA_2 = mdA ∧ mdB_2 = mdB ∧ e0f_2 = e0f) ∧ (∃ G2, zText (pRead k N 1) 1 at_ Gr G2 r ∧ zTR ln_2 fl_2 pl_2 ft_2 fk_2 cr0__2 inn0__2 k10__2 k20__2 k30__2 k40__2 cr1__2 inn1__2 k11__2 k21__2 k31__2 k41__2 dd0__2 p10__2 p20__2 p30__2 dd1__2 p11__2 p21__2 p31__2 gg0__2 q10__2 q20__2 gg1__2 q11__2 q21__2 G2) ∧ (r.toInt < 0 ∨ e0f_2 = 0)) := by
  refine zMi_of (own := RX11) (by decide) rfl (Nat.le_of_ble_eq_true rfl) ?_
  intro p e s m args below meth c A ls C hr hlocks hnm hAe G hl
  refine zHide (fun Qz_ hQz_ => ?_)
  have hx := C.1
  have hb := C.2.1
  have hl : lv_has ls 5 [(0, .ref xo), (1, .int 1), (2, .int at_)] := hl
  refine lv_aload_n hx hb dX11_text_0 rfl (lv_at hl 0 rfl) ?_
  refine z_get C G clX11 0 rfl 0 (by decide) m_fl_RX11_10 rfl dX11_text_1 ?_
  refine lv_iload_n hx hb dX11_text_4 rfl (lv_at hl 1 rfl) ?_
  refine lv_iload_n hx hb dX11_text_5 rfl (lv_at hl 2 rfl) ?_
  refine z_Vi (bc := [wt]) (br := [[zO10 xo t im mk rd po co tr wa wb_ fi cd], z0_, z1_, wd0_, wd1_, wg0_, wg1_, [zO7 rd rl rdd rg r0 r1 tq r2 r3 r4 r5 r6 r7 r8], z, wd, wg, wwA, wwB, wff]) (As := [.int 1, .int at_]) (rest := []) C G (c_f_placeFor1 l T t l0 l1 d0 d1 g0 g1 ln fl pl ft fk wt at_ ht) (kV_RX11_81 C.2.2.2.2 (Nat.le_of_ble_eq_true rfl) (Nat.le_of_ble_eq_true rfl)) [1] [1] rfl rfl (ci := 8) (qc := (RX9, TX9, 8)) rfl rfl (List.mem_flatten.mpr ⟨_, List.mem_of_getElem? (i := 0) rfl, (bTold_mem ht).choose_spec⟩) rfl rfl hl.1 dX11_text_6 (Nat.le_of_ble_eq_true rfl) (Nat.le_of_ble_eq_true rfl) (fun r_2 b1 H locs hw G => ?_)
  refine zAn2 hw ?_
  intro hbs9 h_1
  clear hw
  subst hbs9
  have G : zS T A s.heap s [[zO10 xo t im mk rd po co tr wa wb_ fi cd], z0_, z1_, wd0_, wd1_, wg0_, wg1_, [zO7 rd rl rdd rg r0 r1 tq r2 r3 r4 r5 r6 r7 r8], z, wd, wg, wwA, wwB, wff, wt] _ _ := G
  have hTd := hT.1
  have hGs : Gr 1 = fk 1 := (hTd.2.2.2.1 1 (by decide)).symm
  refine lv_istore_n (lv' := [(3, .int r_2), (0, .ref xo), (1, .int 1), (2, .int at_)]) hx hb dX11_text_9 rfl hl (by decide) (zLvf_h rfl) (fun ls hl => ?_)
  refine lv_aload_n hx hb dX11_text_10 rfl (lv_at hl 1 rfl) ?_
  refine z_get C G clX11 0 rfl 0 (by decide) m_fl_RX11_10 rfl dX11_text_11 ?_
  refine zEx8 ht ?_
  intro a1_3 a2_4 a3_5 a4_6 a5_7 q1_8 q2_9 q3_10
  refine zCu7 ?_
  intro hbs9 h_11 h_12 h_13 h_14 h_15 h_16
  clear ht
  subst hbs9
  have G : zS T A s.heap s [[zO10 xo t im mk rd po co tr wa wb_ fi cd], z0_, z1_, wd0_, wd1_, wg0_, wg1_, [zO7 rd rl rdd rg r0 r1 tq r2 r3 r4 r5 r6 r7 r8], z, wd, wg, wwA, wwB, wff, [zO8 t a1_3 ln fl pl a2_4 a3_5 a4_6 a5_7], [zAr T 1 a1_3 600 ft], [zAr T 0 a2_4 3 fk], [zArq T 3 a3_5 2 q1_8], [zArq T 4 a4_6 2 q2_9], [zArq T 5 a5_7 2 q3_10]] _ _ := G.re rfl
  refine z_get C G clX9 14 rfl 1 (by decide) m_fl_RX11_73 rfl dX11_text_14 ?_
  refine lv_istore (lv' := [(4, .int ln), (3, .int r_2), (0, .ref xo), (1, .int 1), (2, .int at_)]) hx hb dX11_text_17 hl (by decide) (zLvf_h rfl) (fun ls hl => ?_)
  refine lv_aload_n hx hb dX11_text_19 rfl (lv_at hl 2 rfl) ?_
  refine z_get C G clX11 0 rfl 0 (by decide) m_fl_RX11_10 rfl dX11_text_20 ?_
  refine lv_iconst (v := 0) hx hb dX11_text_23 (by decide) ?_
  refine z_put C G clX9 14 rfl 1 (by decide) m_fl_RX11_73 rfl rfl rfl (Nat.le_of_ble_eq_true rfl) dX11_text_24 (fun H locs G => ?_)
  have G : zS T A s.heap s [[zO10 xo t im mk rd po co tr wa wb_ fi cd], z0_, z1_, wd0_, wd1_, wg0_, wg1_, [zO7 rd rl rdd rg r0 r1 tq r2 r3 r4 r5 r6 r7 r8], z, wd, wg, wwA, wwB, wff, [zO8 t a1_3 0 fl pl a2_4 a3_5 a4_6 a5_7], [zAr T 1 a1_3 600 ft], [zAr T 0 a2_4 3 fk], [zArq T 3 a3_5 2 q1_8], [zArq T 4 a4_6 2 q2_9], [zArq T 5 a5_7 2 q3_10]] _ _ := G
  refine lv_aload_n hx hb dX11_text_27 rfl (lv_at hl 2 rfl) ?_
  refine z_get C G clX11 0 rfl 0 (by decide) m_fl_RX11_10 rfl dX11_text_28 ?_
  refine lv_iconst (v := 0) hx hb dX11_text_31 (by decide) ?_
  refine z_put C G clX9 14 rfl 2 (by decide) m_fl_RX11_85 rfl rfl rfl (Nat.le_of_ble_eq_true rfl) dX11_text_32 (fun H locs G => ?_)
  have G : zS T A s.heap s [[zO10 xo t im mk rd po co tr wa wb_ fi cd], z0_, z1_, wd0_, wd1_, wg0_, wg1_, [zO7 rd rl rdd rg r0 r1 tq r2 r3 r4 r5 r6 r7 r8], z, wd, wg, wwA, wwB, wff, [zO8 t a1_3 0 0 pl a2_4 a3_5 a4_6 a5_7], [zAr T 1 a1_3 600 ft], [zAr T 0 a2_4 3 fk], [zArq T 3 a3_5 2 q1_8], [zArq T 4 a4_6 2 q2_9], [zArq T 5 a5_7 2 q3_10]] _ _ := G
  refine lv_aload_n hx hb dX11_text_35 rfl (lv_at hl 2 rfl) ?_
  refine z_get C G clX11 0 rfl 0 (by decide) m_fl_RX11_10 rfl dX11_text_36 ?_
  refine lv_iconst (v := (-1)) hx hb dX11_text_39 (by decide) ?_
  refine z_put C G clX9 14 rfl 3 (by decide) m_fl_RX11_88 rfl rfl rfl (Nat.le_of_ble_eq_true rfl) dX11_text_40 (fun H locs G => ?_)
  have G : zS T A s.heap s [[zO10 xo t im mk rd po co tr wa wb_ fi cd], z0_, z1_, wd0_, wd1_, wg0_, wg1_, [zO7 rd rl rdd rg r0 r1 tq r2 r3 r4 r5 r6 r7 r8], z, wd, wg, wwA, wwB, wff, [zO8 t a1_3 0 0 (-1) a2_4 a3_5 a4_6 a5_7], [zAr T 1 a1_3 600 ft], [zAr T 0 a2_4 3 fk], [zArq T 3 a3_5 2 q1_8], [zArq T 4 a4_6 2 q2_9], [zArq T 5 a5_7 2 q3_10]] _ _ := G
  rcases h_1 with ⟨hno, hm2⟩ | ⟨hok, hnr⟩
  · have hnoG : ¬ pOkAt 1 at_ Gr := fun z9 => hno ((pOkAt_cg (at_ := at_) hGs).mp z9)
    refine lv_iload_n hx hb dX11_text_43 rfl (lv_at hl 1 rfl) ?_
    refine lv_bipush (v := (-2)) hx hb dX11_text_44 (by decide) ?_
    refine lv_icmp_ne (tgt := 52) hx hb dX11_text_46 (by decide) (fun q => absurd ((fa_eq r_2 ((-2) : Int32)).mpr (by show r_2.toInt = (-2 : Int); omega)) q) (fun _ => ?_)
    refine lv_bipush (v := (-2)) hx hb dX11_text_49 (by decide) ?_
    have hw_17 : bTold T t l0 l1 d0 d1 g0 g1 0 0 (-1) ft fk [zO8 t a1_3 0 0 (-1) a2_4 a3_5 a4_6 a5_7, zAr T 1 a1_3 600 ft, zAr T 0 a2_4 3 fk, zArq T 3 a3_5 2 q1_8, zArq T 4 a4_6 2 q2_9, zArq T 5 a5_7 2 q3_10] := ⟨a1_3, a2_4, a3_5, a4_6, a5_7, q1_8, q2_9, q3_10, rfl, h_11, h_12, h_13, h_14, h_15, h_16⟩
    have G : zS T A s.heap s [[zO10 xo t im mk rd po co tr wa wb_ fi cd], z0_, z1_, wd0_, wd1_, wg0_, wg1_, [zO7 rd rl rdd rg r0 r1 tq r2 r3 r4 r5 r6 r7 r8], z, wd, wg, wwA, wwB, wff, [zO8 t a1_3 0 0 (-1) a2_4 a3_5 a4_6 a5_7, zAr T 1 a1_3 600 ft, zAr T 0 a2_4 3 fk, zArq T 3 a3_5 2 q1_8, zArq T 4 a4_6 2 q2_9, zArq T 5 a5_7 2 q3_10]] _ _ := G.re rfl
    have G := G.sub (bs' := [[zO10 xo t im mk rd po co tr wa wb_ fi cd], [zO8 t a1_3 0 0 (-1) a2_4 a3_5 a4_6 a5_7, zAr T 1 a1_3 600 ft, zAr T 0 a2_4 3 fk, zArq T 3 a3_5 2 q1_8, zArq T 4 a4_6 2 q2_9, zArq T 5 a5_7 2 q3_10], z0_, z1_, wd0_, wd1_, wg0_, wg1_, [zO7 rd rl rdd rg r0 r1 tq r2 r3 r4 r5 r6 r7 r8], z, wd, wg, wwA, wwB, wff]) [0, 14, 1, 2, 3, 4, 5, 6, 7, 8, 9, 10, 11, 12, 13] rfl
    exact z_back hQz_ (z_iret C hr hlocks G (Nat.le_of_ble_eq_true rfl) (Nat.le_of_ble_eq_true rfl) dX11_text_51 ⟨0, 0, (-1), ft, fk, ([zO8 t a1_3 0 0 (-1) a2_4 a3_5 a4_6 a5_7, zAr T 1 a1_3 600 ft, zAr T 0 a2_4 3 fk, zArq T 3 a3_5 2 q1_8, zArq T 4 a4_6 2 q2_9, zArq T 5 a5_7 2 q3_10]), cr0_, inn0_, k10_, k20_, k30_, k40_, z0_, cr1_, inn1_, k11_, k21_, k31_, k41_, z1_, dd0_, p10_, p20_, p30_, wd0_, dd1_, p11_, p21_, p31_, wd1_, gg0_, q10_, q20_, wg0_, gg1_, q11_, q21_, wg1_, r0, r1, r2, r3, r4, r5, r6, r7, r8, tq, z, cr, inn, k1, k2, k3, k4, wd, dd, v1, v2, v3, wg, gg, e1, e2, wwA, wwB, wff, mdA, mdB, e0f, rfl, hw_17, (by first | with_reducible assumption | omega | trivial | assumption), hz0_, (by first | with_reducible assumption | omega | trivial | assumption), hz1_, (by first | with_reducible assumption | omega | trivial | assumption), hd0_, hd1_, hg0_, hg1_, hz, hd, hg, hwwA, hwwB, hwff, rfl, (by first | exact Or.inl ⟨rfl, rfl, rfl⟩ | exact Or.inr (Or.inl ⟨rfl, rfl, rfl⟩) | exact Or.inr (Or.inr ⟨rfl, rfl, rfl⟩)), ⟨pHd Gr 0 (-1), Or.inl ⟨hnoG, rfl, fun _ _ => rfl⟩, zTR_hd hT⟩, (by first | exact Or.inl (by decide) | exact Or.inr ⟨rfl, rfl, rfl⟩ | exact Or.inr rfl)⟩)
  · have hokG := (pOkAt_cg (at_ := at_) hGs).mpr hok
    have hrb : 0 ≤ r_2.toInt ∧ r_2.toInt ≤ 1 := by rw [hnr]; exact pNr_bd hok (hK 1 (by decide))
    have hnG : pNr 1 at_ Gr = r_2 := (pNr_cg hGs).trans hnr.symm
    refine lv_iload_n hx hb dX11_text_43 rfl (lv_at hl 1 rfl) ?_
    refine lv_bipush (v := (-2)) hx hb dX11_text_44 (by decide) ?_
    refine lv_icmp_ne (tgt := 52) hx hb dX11_text_46 (by decide) (fun _ => ?_) (fun q => absurd q (fun q2 => absurd (show r_2.toInt = (-2 : Int) from (fa_eq r_2 ((-2) : Int32)).mp q2) (by omega)))
    refine lv_aload_n hx hb dX11_text_52 rfl (lv_at hl 2 rfl) ?_
    refine z_get C G clX11 0 rfl 3 (by decide) m_fl_RX11_27 rfl dX11_text_53 ?_
    refine lv_aload_n hx hb dX11_text_56 rfl (lv_at hl 2 rfl) ?_
    refine z_get C G clX11 0 rfl 0 (by decide) m_fl_RX11_10 rfl dX11_text_57 ?_
    refine z_get C G clX9 14 rfl 0 (by decide) m_fl_RX11_91 rfl dX11_text_60 ?_
    refine lv_iload hx hb dX11_text_63 (lv_at hl 0 rfl) ?_
    refine lv_iload_n hx hb dX11_text_65 rfl (lv_at hl 3 rfl) ?_
    refine z_Vv (bc := [[zO7 rd rl rdd rg r0 r1 tq r2 r3 r4 r5 r6 r7 r8], [zAr T 1 a1_3 600 ft], z, wd, wg]) (br := [[zO10 xo t im mk rd po co tr wa wb_ fi cd], z0_, z1_, wd0_, wd1_, wg0_, wg1_, wwA, wwB, wff, [zO8 t a1_3 0 0 (-1) a2_4 a3_5 a4_6 a5_7], [zAr T 0 a2_4 3 fk], [zArq T 3 a3_5 2 q1_8], [zArq T 4 a4_6 2 q2_9], [zArq T 5 a5_7 2 q3_10]]) (As := [.ref a1_3, .int ln, .int 1]) (rest := []) C G (c_f_read1 l T rd rl rdd rg a1_3 r0 r1 r2 r3 r4 r5 r6 r7 r8 tq ft cr inn k1 k2 k3 k4 z dd v1 v2 v3 wd gg e1 e2 wg ln k N hz hd hg hN hN6 hk) (kV_RX11_95 C.2.2.2.2 (Nat.le_of_ble_eq_true rfl) (Nat.le_of_ble_eq_true rfl)) [7, 15, 8, 9, 10] [7, 0, 0, 0, 4] rfl rfl (ci := 7) (qc := (RX7, TX7, 13)) rfl rfl (List.mem_flatten.mpr ⟨_, List.mem_of_getElem? (i := 0) rfl, List.mem_cons_self⟩) rfl rfl hl.1 dX11_text_66 (Nat.le_of_ble_eq_true rfl) (Nat.le_of_ble_eq_true rfl) (fun b1 H locs hw G => ?_)
    refine zEx20 hw ?_
    intro u2_18 u0_19 u1_20 u3_21 u4_22 u5_23 u6_24 u7_25 u8_26 z2_27 j1_28 j2_29 j3_30 j4_31 wd2_32 dd2_33 b1_34 b2_35 b3_36 wg2_37
    refine zCu8 ?_
    intro hbs9 h_38 h_39 h_40 h_41 h_42 h_43 h_44
    clear hw
    subst hbs9
    have G : zS T A s.heap s [[zO10 xo t im mk rd po co tr wa wb_ fi cd], z0_, z1_, wd0_, wd1_, wg0_, wg1_, wwA, wwB, wff, [zO8 t a1_3 0 0 (-1) a2_4 a3_5 a4_6 a5_7], [zAr T 0 a2_4 3 fk], [zArq T 3 a3_5 2 q1_8], [zArq T 4 a4_6 2 q2_9], [zArq T 5 a5_7 2 q3_10], [zO7 rd rl rdd rg u0_19 u1_20 a1_3 u2_18 u3_21 u4_22 u5_23 u6_24 u7_25 u8_26], [zAr T 1 a1_3 600 ft], z2_27, wd2_32, wg2_37] _ _ := G
    have hu0i := congrArg Int32.toInt h_42
    refine lv_aload_n hx hb dX11_text_69 rfl (lv_at hl 2 rfl) ?_
    refine z_get C G clX11 0 rfl 0 (by decide) m_fl_RX11_10 rfl dX11_text_70 ?_
    refine lv_aload_n hx hb dX11_text_73 rfl (lv_at hl 2 rfl) ?_
    refine z_get C G clX11 0 rfl 3 (by decide) m_fl_RX11_27 rfl dX11_text_74 ?_
    refine z_get C G clX7 15 rfl 3 (by decide) m_fl_RX11_99 rfl dX11_text_77 ?_
    refine z_put C G clX9 10 rfl 2 (by decide) m_fl_RX11_85 rfl rfl rfl (Nat.le_of_ble_eq_true rfl) dX11_text_80 (fun H locs G => ?_)
    have G : zS T A s.heap s [[zO10 xo t im mk rd po co tr wa wb_ fi cd], z0_, z1_, wd0_, wd1_, wg0_, wg1_, wwA, wwB, wff, [zO8 t a1_3 0 u0_19 (-1) a2_4 a3_5 a4_6 a5_7], [zAr T 0 a2_4 3 fk], [zArq T 3 a3_5 2 q1_8], [zArq T 4 a4_6 2 q2_9], [zArq T 5 a5_7 2 q3_10], [zO7 rd rl rdd rg u0_19 u1_20 a1_3 u2_18 u3_21 u4_22 u5_23 u6_24 u7_25 u8_26], [zAr T 1 a1_3 600 ft], z2_27, wd2_32, wg2_37] _ _ := G
    refine lv_aload_n hx hb dX11_text_83 rfl (lv_at hl 2 rfl) ?_
    refine z_get C G clX11 0 rfl 0 (by decide) m_fl_RX11_10 rfl dX11_text_84 ?_
    refine lv_aload_n hx hb dX11_text_87 rfl (lv_at hl 2 rfl) ?_
    refine z_get C G clX11 0 rfl 3 (by decide) m_fl_RX11_27 rfl dX11_text_88 ?_
    refine z_get C G clX7 15 rfl 4 (by decide) m_fl_RX11_100 rfl dX11_text_91 ?_
    refine z_put C G clX9 10 rfl 3 (by decide) m_fl_RX11_88 rfl rfl rfl (Nat.le_of_ble_eq_true rfl) dX11_text_94 (fun H locs G => ?_)
    have G : zS T A s.heap s [[zO10 xo t im mk rd po co tr wa wb_ fi cd], z0_, z1_, wd0_, wd1_, wg0_, wg1_, wwA, wwB, wff, [zO8 t a1_3 0 u0_19 u1_20 a2_4 a3_5 a4_6 a5_7], [zAr T 0 a2_4 3 fk], [zArq T 3 a3_5 2 q1_8], [zArq T 4 a4_6 2 q2_9], [zArq T 5 a5_7 2 q3_10], [zO7 rd rl rdd rg u0_19 u1_20 a1_3 u2_18 u3_21 u4_22 u5_23 u6_24 u7_25 u8_26], [zAr T 1 a1_3 600 ft], z2_27, wd2_32, wg2_37] _ _ := G
    refine lv_aload_n hx hb dX11_text_97 rfl (lv_at hl 2 rfl) ?_
    refine z_get C G clX11 0 rfl 3 (by decide) m_fl_RX11_27 rfl dX11_text_98 ?_
    refine z_get C G clX7 15 rfl 3 (by decide) m_fl_RX11_99 rfl dX11_text_101 ?_
    refine lv_if_eq (tgt := 109) hx hb dX11_text_104 (by decide) (fun c_46 => ?_) (fun c_46 => ?_)
    · have c_46n : u0_19.toInt = (0 : Int) := (fa_eq _ _).mp c_46
      refine lv_aload_n hx hb dX11_text_109 rfl (lv_at hl 2 rfl) ?_
      refine z_get C G clX11 0 rfl 0 (by decide) m_fl_RX11_10 rfl dX11_text_110 ?_
      refine lv_iload_n hx hb dX11_text_113 rfl (lv_at hl 3 rfl) ?_
      refine lv_iload_n hx hb dX11_text_114 rfl (lv_at hl 1 rfl) ?_
      refine lv_aload_n hx hb dX11_text_115 rfl (lv_at hl 2 rfl) ?_
      refine z_get C G clX11 0 rfl 3 (by decide) m_fl_RX11_27 rfl dX11_text_116 ?_
      rcases (show r_2.toInt = 0 ∨ r_2.toInt = 1 from by omega) with hkk | hkk
      · obtain rfl : r_2 = 0 := Int32.toInt_inj.mp hkk
        have G := G.sub (bs' := [[zO10 xo t im mk rd po co tr wa wb_ fi cd], z0_, z1_, wd0_, wd1_, wg0_, wg1_, wwA, wwB, wff, [zO8 t a1_3 0 u0_19 u1_20 a2_4 a3_5 a4_6 a5_7], [zAr T 1 a1_3 600 ft], [zAr T 0 a2_4 3 fk], [zArq T 3 a3_5 2 q1_8], [zArq T 4 a4_6 2 q2_9], [zArq T 5 a5_7 2 q3_10], [zO7 rd rl rdd rg u0_19 u1_20 a1_3 u2_18 u3_21 u4_22 u5_23 u6_24 u7_25 u8_26], z2_27, wd2_32, wg2_37]) [0, 1, 2, 3, 4, 5, 6, 7, 8, 9, 10, 16, 11, 12, 13, 14, 15, 17, 18, 19] rfl
        have hw_47 : bTold T t l0 l1 d0 d1 g0 g1 0 u0_19 u1_20 ft fk [zO8 t a1_3 0 u0_19 u1_20 a2_4 a3_5 a4_6 a5_7, zAr T 1 a1_3 600 ft, zAr T 0 a2_4 3 fk, zArq T 3 a3_5 2 q1_8, zArq T 4 a4_6 2 q2_9, zArq T 5 a5_7 2 q3_10] := ⟨a1_3, a2_4, a3_5, a4_6, a5_7, q1_8, q2_9, q3_10, rfl, h_11, h_12, h_13, h_14, h_15, h_16⟩
        have G : zS T A s.heap s [[zO10 xo t im mk rd po co tr wa wb_ fi cd], z0_, z1_, wd0_, wd1_, wg0_, wg1_, wwA, wwB, wff, [zO8 t a1_3 0 u0_19 u1_20 a2_4 a3_5 a4_6 a5_7, zAr T 1 a1_3 600 ft, zAr T 0 a2_4 3 fk, zArq T 3 a3_5 2 q1_8, zArq T 4 a4_6 2 q2_9, zArq T 5 a5_7 2 q3_10], [zO7 rd rl rdd rg u0_19 u1_20 a1_3 u2_18 u3_21 u4_22 u5_23 u6_24 u7_25 u8_26], z2_27, wd2_32, wg2_37] _ _ := G.re rfl
        refine z_Vv (bc := [[zO8 t a1_3 0 u0_19 u1_20 a2_4 a3_5 a4_6 a5_7, zAr T 1 a1_3 600 ft, zAr T 0 a2_4 3 fk, zArq T 3 a3_5 2 q1_8, zArq T 4 a4_6 2 q2_9, zArq T 5 a5_7 2 q3_10], wd0_, [zO7 rd rl rdd rg u0_19 u1_20 a1_3 u2_18 u3_21 u4_22 u5_23 u6_24 u7_25 u8_26], wd2_32]) (br := [[zO10 xo t im mk rd po co tr wa wb_ fi cd], z0_, z1_, wd1_, wg0_, wg1_, wwA, wwB, wff, z2_27, wg2_37]) (As := [.int 1, .int 0, .ref rd]) (rest := []) C G (c_f_keep_10 l T t l0 l1 d0 d1 g0 g1 0 u0_19 u1_20 ft fk ([zO8 t a1_3 0 u0_19 u1_20 a2_4 a3_5 a4_6 a5_7, zAr T 1 a1_3 600 ft, zAr T 0 a2_4 3 fk, zArq T 3 a3_5 2 q1_8, zArq T 4 a4_6 2 q2_9, zArq T 5 a5_7 2 q3_10]) dd0_ p10_ p20_ p30_ wd0_ rd rl rdd rg a1_3 u0_19 u1_20 u2_18 u3_21 u4_22 u5_23 u6_24 u7_25 u8_26 dd2_33 b1_34 b2_35 b3_36 wd2_32 hw_47 (by first | with_reducible assumption | with_reducible rfl | omega | assumption | rfl) hd0_ h_40) (kV_RX11_101 C.2.2.2.2 (Nat.le_of_ble_eq_true rfl) (Nat.le_of_ble_eq_true rfl)) [10, 3, 11, 13] [3, 6, 0, 1] rfl rfl (ci := 8) (qc := (RX9, TX9, 8)) rfl rfl (List.mem_flatten.mpr ⟨_, List.mem_of_getElem? (i := 0) rfl, (bTold_mem hw_47).choose_spec⟩) rfl rfl hl.1 dX11_text_119 (Nat.le_of_ble_eq_true rfl) (Nat.le_of_ble_eq_true rfl) (fun b1 H locs hw G => ?_)
        refine zEx6 hw ?_
        intro wt2_48 fk2_49 w2__50 s1__51 s2__52 s3__53
        refine zCu8 ?_
        intro hbs9 h_54 h_55 h_56 h_57 h_58 h_59 h_60
        clear hw
        subst hbs9
        have G : zS T A s.heap s [[zO10 xo t im mk rd po co tr wa wb_ fi cd], z0_, z1_, wd1_, wg0_, wg1_, wwA, wwB, wff, z2_27, wg2_37, wt2_48, w2__50, [zO7 rd rl rdd rg u0_19 u1_20 a1_3 u2_18 u3_21 u4_22 u5_23 u6_24 u7_25 u8_26], wd2_32] _ _ := G
        refine lv_aload_n hx hb dX11_text_122 rfl (lv_at hl 2 rfl) ?_
        refine lv_iload_n hx hb dX11_text_123 rfl (lv_at hl 3 rfl) ?_
        refine lv_if_ne (tgt := 131) hx hb dX11_text_124 (by decide) (fun _ => ?_) (fun q => absurd q (by decide))
        refine lv_iconst (v := 0) hx hb dX11_text_131 (by decide) ?_
        refine z_Vv (bc := [[zO10 xo t im mk rd po co tr wa wb_ fi cd], wwA, wwB, wff]) (br := [z0_, z1_, wd1_, wg0_, wg1_, z2_27, wg2_37, wt2_48, w2__50, [zO7 rd rl rdd rg u0_19 u1_20 a1_3 u2_18 u3_21 u4_22 u5_23 u6_24 u7_25 u8_26], wd2_32]) (As := [.int 0]) (rest := []) C G (c_forget0 l T xo t im mk rd po co tr wa wb_ fi cd laA mdA wyA pc_A f1A f2A f3A f4A f5A f6A n4A wwA laB mdB wyB pc_B f1B f2B f3B f4B f5B f6B n4B wwB e0f e1f e2f e3f e4f e5f r1f m1f r2f wff hwwA hwwB hwff) (kV_RX11_105 C.2.2.2.2 (Nat.le_of_ble_eq_true rfl) (Nat.le_of_ble_eq_true rfl)) [0, 6, 7, 8] [0, 5, 0, 0] rfl rfl (ci := 10) (qc := (RX11, TX11, 11)) rfl rfl (List.mem_flatten.mpr ⟨_, List.mem_of_getElem? (i := 0) rfl, List.mem_cons_self⟩) rfl rfl hl.1 dX11_text_132 (Nat.le_of_ble_eq_true rfl) (Nat.le_of_ble_eq_true rfl) (fun b1 H locs hw G => ?_)
        refine zEx1 hw ?_
        intro wff_62
        refine zCu2 ?_
        intro hbs9 h_63
        clear hw
        subst hbs9
        have G : zS T A s.heap s [z0_, z1_, wd1_, wg0_, wg1_, z2_27, wg2_37, wt2_48, w2__50, [zO7 rd rl rdd rg u0_19 u1_20 a1_3 u2_18 u3_21 u4_22 u5_23 u6_24 u7_25 u8_26], wd2_32, [zO10 xo t im mk rd po co tr wa wb_ fi cd], wwA, wwB, wff_62] _ _ := G
        refine lv_iload_n hx hb dX11_text_135 rfl (lv_at hl 1 rfl) ?_
        have G := G.sub (bs' := [[zO10 xo t im mk rd po co tr wa wb_ fi cd], wt2_48, z0_, z1_, w2__50, wd1_, wg0_, wg1_, [zO7 rd rl rdd rg u0_19 u1_20 a1_3 u2_18 u3_21 u4_22 u5_23 u6_24 u7_25 u8_26], z2_27, wd2_32, wg2_37, wwA, wwB, wff_62]) [11, 7, 0, 1, 8, 2, 3, 4, 9, 5, 10, 6, 12, 13, 14] rfl
        exact z_back hQz_ (z_iret C hr hlocks G (Nat.le_of_ble_eq_true rfl) (Nat.le_of_ble_eq_true rfl) dX11_text_136 ⟨0, u0_19, u1_20, ft, fk2_49, wt2_48, cr0_, inn0_, k10_, k20_, k30_, k40_, z0_, cr1_, inn1_, k11_, k21_, k31_, k41_, z1_, dd2_33, s1__51, s2__52, s3__53, w2__50, dd1_, p11_, p21_, p31_, wd1_, gg0_, q10_, q20_, wg0_, gg1_, q11_, q21_, wg1_, u0_19, u1_20, u2_18, u3_21, u4_22, u5_23, u6_24, u7_25, u8_26, a1_3, z2_27, 0, 0, j1_28, j2_29, j3_30, j4_31, wd2_32, dd2_33, b1_34, b2_35, b3_36, wg2_37, 0, e1, e2, wwA, wwB, wff_62, mdA, mdB, 0, rfl, h_54, (by first | with_reducible assumption | omega | trivial | assumption), hz0_, (by first | with_reducible assumption | omega | trivial | assumption), hz1_, (by first | with_reducible assumption | omega | trivial | assumption), h_55, hd1_, hg0_, hg1_, h_38, h_40, h_41, hwwA, hwwB, h_63, rfl, (by first | exact Or.inl ⟨rfl, rfl, rfl⟩ | exact Or.inr (Or.inl ⟨rfl, rfl, rfl⟩) | exact Or.inr (Or.inr ⟨rfl, rfl, rfl⟩)), ⟨pPut 1 (pNr 1 at_ Gr).toInt.toNat (pRead k N 1).2 (pCnt 1 at_ (pHd Gr (pRead k N 1).1.2.2.1 (pRead k N 1).1.2.2.2.1)), Or.inr (Or.inr ⟨hokG, by omega, hnG.symm, fun _ _ => rfl⟩), by rw [show (pNr 1 at_ Gr).toInt.toNat = 0 by rw [hnG]; rfl, h_42, h_43]; exact zTR_p10 (zTR_hd hT) (zCnt (kk := 0) (K := 1) (fun j hj => (hTd.2.2.2.1 j hj).trans (pHd_lo hj).symm) (by decide) (by rw [pHd_lo (by decide), hGs]; exact hK 1 (by decide)) ((pOkAt_cg (pHd_lo (by decide))).mpr hokG) (by rw [pNr_cg (pHd_lo (by decide)), hnG]; rfl) rfl h_60) (pCnt_ge (by decide)) (zDyd_eq (zDyd_c h_44 (by omega)) h_57 h_58 h_59)⟩, (by first | exact Or.inl (by decide) | exact Or.inr ⟨rfl, rfl, rfl⟩ | exact Or.inr rfl)⟩)
      · obtain rfl : r_2 = 1 := Int32.toInt_inj.mp hkk
        have G := G.sub (bs' := [[zO10 xo t im mk rd po co tr wa wb_ fi cd], z0_, z1_, wd0_, wd1_, wg0_, wg1_, wwA, wwB, wff, [zO8 t a1_3 0 u0_19 u1_20 a2_4 a3_5 a4_6 a5_7], [zAr T 1 a1_3 600 ft], [zAr T 0 a2_4 3 fk], [zArq T 3 a3_5 2 q1_8], [zArq T 4 a4_6 2 q2_9], [zArq T 5 a5_7 2 q3_10], [zO7 rd rl rdd rg u0_19 u1_20 a1_3 u2_18 u3_21 u4_22 u5_23 u6_24 u7_25 u8_26], z2_27, wd2_32, wg2_37]) [0, 1, 2, 3, 4, 5, 6, 7, 8, 9, 10, 16, 11, 12, 13, 14, 15, 17, 18, 19] rfl
        have hw_65 : bTold T t l0 l1 d0 d1 g0 g1 0 u0_19 u1_20 ft fk [zO8 t a1_3 0 u0_19 u1_20 a2_4 a3_5 a4_6 a5_7, zAr T 1 a1_3 600 ft, zAr T 0 a2_4 3 fk, zArq T 3 a3_5 2 q1_8, zArq T 4 a4_6 2 q2_9, zArq T 5 a5_7 2 q3_10] := ⟨a1_3, a2_4, a3_5, a4_6, a5_7, q1_8, q2_9, q3_10, rfl, h_11, h_12, h_13, h_14, h_15, h_16⟩
        have G : zS T A s.heap s [[zO10 xo t im mk rd po co tr wa wb_ fi cd], z0_, z1_, wd0_, wd1_, wg0_, wg1_, wwA, wwB, wff, [zO8 t a1_3 0 u0_19 u1_20 a2_4 a3_5 a4_6 a5_7, zAr T 1 a1_3 600 ft, zAr T 0 a2_4 3 fk, zArq T 3 a3_5 2 q1_8, zArq T 4 a4_6 2 q2_9, zArq T 5 a5_7 2 q3_10], [zO7 rd rl rdd rg u0_19 u1_20 a1_3 u2_18 u3_21 u4_22 u5_23 u6_24 u7_25 u8_26], z2_27, wd2_32, wg2_37] _ _ := G.re rfl
        refine z_Vv (bc := [[zO8 t a1_3 0 u0_19 u1_20 a2_4 a3_5 a4_6 a5_7, zAr T 1 a1_3 600 ft, zAr T 0 a2_4 3 fk, zArq T 3 a3_5 2 q1_8, zArq T 4 a4_6 2 q2_9, zArq T 5 a5_7 2 q3_10], wd1_, [zO7 rd rl rdd rg u0_19 u1_20 a1_3 u2_18 u3_21 u4_22 u5_23 u6_24 u7_25 u8_26], wd2_32]) (br := [[zO10 xo t im mk rd po co tr wa wb_ fi cd], z0_, z1_, wd0_, wg0_, wg1_, wwA, wwB, wff, z2_27, wg2_37]) (As := [.int 1, .int 1, .ref rd]) (rest := []) C G (c_f_keep_11 l T t l0 l1 d0 d1 g0 g1 0 u0_19 u1_20 ft fk ([zO8 t a1_3 0 u0_19 u1_20 a2_4 a3_5 a4_6 a5_7, zAr T 1 a1_3 600 ft, zAr T 0 a2_4 3 fk, zArq T 3 a3_5 2 q1_8, zArq T 4 a4_6 2 q2_9, zArq T 5 a5_7 2 q3_10]) dd1_ p11_ p21_ p31_ wd1_ rd rl rdd rg a1_3 u0_19 u1_20 u2_18 u3_21 u4_22 u5_23 u6_24 u7_25 u8_26 dd2_33 b1_34 b2_35 b3_36 wd2_32 hw_65 (by first | with_reducible assumption | with_reducible rfl | omega | assumption | rfl) hd1_ h_40) (kV_RX11_101 C.2.2.2.2 (Nat.le_of_ble_eq_true rfl) (Nat.le_of_ble_eq_true rfl)) [10, 4, 11, 13] [4, 5, 0, 1] rfl rfl (ci := 8) (qc := (RX9, TX9, 8)) rfl rfl (List.mem_flatten.mpr ⟨_, List.mem_of_getElem? (i := 0) rfl, (bTold_mem hw_65).choose_spec⟩) rfl rfl hl.1 dX11_text_119 (Nat.le_of_ble_eq_true rfl) (Nat.le_of_ble_eq_true rfl) (fun b1 H locs hw G => ?_)
        refine zEx6 hw ?_
        intro wt2_66 fk2_67 w2__68 s1__69 s2__70 s3__71
        refine zCu8 ?_
        intro hbs9 h_72 h_73 h_74 h_75 h_76 h_77 h_78
        clear hw
        subst hbs9
        have G : zS T A s.heap s [[zO10 xo t im mk rd po co tr wa wb_ fi cd], z0_, z1_, wd0_, wg0_, wg1_, wwA, wwB, wff, z2_27, wg2_37, wt2_66, w2__68, [zO7 rd rl rdd rg u0_19 u1_20 a1_3 u2_18 u3_21 u4_22 u5_23 u6_24 u7_25 u8_26], wd2_32] _ _ := G
        refine lv_aload_n hx hb dX11_text_122 rfl (lv_at hl 2 rfl) ?_
        refine lv_iload_n hx hb dX11_text_123 rfl (lv_at hl 3 rfl) ?_
        refine lv_if_ne (tgt := 131) hx hb dX11_text_124 (by decide) (fun _ => ?_) (fun q => absurd q (by decide))
        refine lv_iconst (v := 0) hx hb dX11_text_131 (by decide) ?_
        refine z_Vv (bc := [[zO10 xo t im mk rd po co tr wa wb_ fi cd], wwA, wwB, wff]) (br := [z0_, z1_, wd0_, wg0_, wg1_, z2_27, wg2_37, wt2_66, w2__68, [zO7 rd rl rdd rg u0_19 u1_20 a1_3 u2_18 u3_21 u4_22 u5_23 u6_24 u7_25 u8_26], wd2_32]) (As := [.int 0]) (rest := []) C G (c_forget0 l T xo t im mk rd po co tr wa wb_ fi cd laA mdA wyA pc_A f1A f2A f3A f4A f5A f6A n4A wwA laB mdB wyB pc_B f1B f2B f3B f4B f5B f6B n4B wwB e0f e1f e2f e3f e4f e5f r1f m1f r2f wff hwwA hwwB hwff) (kV_RX11_105 C.2.2.2.2 (Nat.le_of_ble_eq_true rfl) (Nat.le_of_ble_eq_true rfl)) [0, 6, 7, 8] [0, 5, 0, 0] rfl rfl (ci := 10) (qc := (RX11, TX11, 11)) rfl rfl (List.mem_flatten.mpr ⟨_, List.mem_of_getElem? (i := 0) rfl, List.mem_cons_self⟩) rfl rfl hl.1 dX11_text_132 (Nat.le_of_ble_eq_true rfl) (Nat.le_of_ble_eq_true rfl) (fun b1 H locs hw G => ?_)
        refine zEx1 hw ?_
        intro wff_80
        refine zCu2 ?_
        intro hbs9 h_81
        clear hw
        subst hbs9
        have G : zS T A s.heap s [z0_, z1_, wd0_, wg0_, wg1_, z2_27, wg2_37, wt2_66, w2__68, [zO7 rd rl rdd rg u0_19 u1_20 a1_3 u2_18 u3_21 u4_22 u5_23 u6_24 u7_25 u8_26], wd2_32, [zO10 xo t im mk rd po co tr wa wb_ fi cd], wwA, wwB, wff_80] _ _ := G
        refine lv_iload_n hx hb dX11_text_135 rfl (lv_at hl 1 rfl) ?_
        have G := G.sub (bs' := [[zO10 xo t im mk rd po co tr wa wb_ fi cd], wt2_66, z0_, z1_, wd0_, w2__68, wg0_, wg1_, [zO7 rd rl rdd rg u0_19 u1_20 a1_3 u2_18 u3_21 u4_22 u5_23 u6_24 u7_25 u8_26], z2_27, wd2_32, wg2_37, wwA, wwB, wff_80]) [11, 7, 0, 1, 2, 8, 3, 4, 9, 5, 10, 6, 12, 13, 14] rfl
        exact z_back hQz_ (z_iret C hr hlocks G (Nat.le_of_ble_eq_true rfl) (Nat.le_of_ble_eq_true rfl) dX11_text_136 ⟨0, u0_19, u1_20, ft, fk2_67, wt2_66, cr0_, inn0_, k10_, k20_, k30_, k40_, z0_, cr1_, inn1_, k11_, k21_, k31_, k41_, z1_, dd0_, p10_, p20_, p30_, wd0_, dd2_33, s1__69, s2__70, s3__71, w2__68, gg0_, q10_, q20_, wg0_, gg1_, q11_, q21_, wg1_, u0_19, u1_20, u2_18, u3_21, u4_22, u5_23, u6_24, u7_25, u8_26, a1_3, z2_27, 0, 0, j1_28, j2_29, j3_30, j4_31, wd2_32, dd2_33, b1_34, b2_35, b3_36, wg2_37, 0, e1, e2, wwA, wwB, wff_80, mdA, mdB, 0, rfl, h_72, (by first | with_reducible assumption | omega | trivial | assumption), hz0_, (by first | with_reducible assumption | omega | trivial | assumption), hz1_, (by first | with_reducible assumption | omega | trivial | assumption), hd0_, h_73, hg0_, hg1_, h_38, h_40, h_41, hwwA, hwwB, h_81, rfl, (by first | exact Or.inl ⟨rfl, rfl, rfl⟩ | exact Or.inr (Or.inl ⟨rfl, rfl, rfl⟩) | exact Or.inr (Or.inr ⟨rfl, rfl, rfl⟩)), ⟨pPut 1 (pNr 1 at_ Gr).toInt.toNat (pRead k N 1).2 (pCnt 1 at_ (pHd Gr (pRead k N 1).1.2.2.1 (pRead k N 1).1.2.2.2.1)), Or.inr (Or.inr ⟨hokG, by omega, hnG.symm, fun _ _ => rfl⟩), by rw [show (pNr 1 at_ Gr).toInt.toNat = 1 by rw [hnG]; rfl, h_42, h_43]; exact zTR_p11 (zTR_hd hT) (zCnt (kk := 1) (K := 2) (fun j hj => (hTd.2.2.2.1 j hj).trans (pHd_lo hj).symm) (by decide) (by rw [pHd_lo (by decide), hGs]; exact hK 1 (by decide)) ((pOkAt_cg (pHd_lo (by decide))).mpr hokG) (by rw [pNr_cg (pHd_lo (by decide)), hnG]; rfl) rfl h_78) (pCnt_ge (by decide)) (zDyd_eq (zDyd_c h_44 (by omega)) h_75 h_76 h_77)⟩, (by first | exact Or.inl (by decide) | exact Or.inr ⟨rfl, rfl, rfl⟩ | exact Or.inr rfl)⟩)
    · have c_46n : ¬ u0_19.toInt = (0 : Int) := fun q => c_46 ((fa_eq _ _).mpr q)
      refine lv_iconst (v := (-1)) hx hb dX11_text_107 (by decide) ?_
      have G := G.sub (bs' := [[zO10 xo t im mk rd po co tr wa wb_ fi cd], z0_, z1_, wd0_, wd1_, wg0_, wg1_, wwA, wwB, wff, [zO8 t a1_3 0 u0_19 u1_20 a2_4 a3_5 a4_6 a5_7], [zAr T 1 a1_3 600 ft], [zAr T 0 a2_4 3 fk], [zArq T 3 a3_5 2 q1_8], [zArq T 4 a4_6 2 q2_9], [zArq T 5 a5_7 2 q3_10], [zO7 rd rl rdd rg u0_19 u1_20 a1_3 u2_18 u3_21 u4_22 u5_23 u6_24 u7_25 u8_26], z2_27, wd2_32, wg2_37]) [0, 1, 2, 3, 4, 5, 6, 7, 8, 9, 10, 16, 11, 12, 13, 14, 15, 17, 18, 19] rfl
      have hw_83 : bTold T t l0 l1 d0 d1 g0 g1 0 u0_19 u1_20 ft fk [zO8 t a1_3 0 u0_19 u1_20 a2_4 a3_5 a4_6 a5_7, zAr T 1 a1_3 600 ft, zAr T 0 a2_4 3 fk, zArq T 3 a3_5 2 q1_8, zArq T 4 a4_6 2 q2_9, zArq T 5 a5_7 2 q3_10] := ⟨a1_3, a2_4, a3_5, a4_6, a5_7, q1_8, q2_9, q3_10, rfl, h_11, h_12, h_13, h_14, h_15, h_16⟩
      have G : zS T A s.heap s [[zO10 xo t im mk rd po co tr wa wb_ fi cd], z0_, z1_, wd0_, wd1_, wg0_, wg1_, wwA, wwB, wff, [zO8 t a1_3 0 u0_19 u1_20 a2_4 a3_5 a4_6 a5_7, zAr T 1 a1_3 600 ft, zAr T 0 a2_4 3 fk, zArq T 3 a3_5 2 q1_8, zArq T 4 a4_6 2 q2_9, zArq T 5 a5_7 2 q3_10], [zO7 rd rl rdd rg u0_19 u1_20 a1_3 u2_18 u3_21 u4_22 u5_23 u6_24 u7_25 u8_26], z2_27, wd2_32, wg2_37] _ _ := G.re rfl
      have G := G.sub (bs' := [[zO10 xo t im mk rd po co tr wa wb_ fi cd], [zO8 t a1_3 0 u0_19 u1_20 a2_4 a3_5 a4_6 a5_7, zAr T 1 a1_3 600 ft, zAr T 0 a2_4 3 fk, zArq T 3 a3_5 2 q1_8, zArq T 4 a4_6 2 q2_9, zArq T 5 a5_7 2 q3_10], z0_, z1_, wd0_, wd1_, wg0_, wg1_, [zO7 rd rl rdd rg u0_19 u1_20 a1_3 u2_18 u3_21 u4_22 u5_23 u6_24 u7_25 u8_26], z2_27, wd2_32, wg2_37, wwA, wwB, wff]) [0, 10, 1, 2, 3, 4, 5, 6, 11, 12, 13, 14, 7, 8, 9] rfl
      exact z_back hQz_ (z_iret C hr hlocks G (Nat.le_of_ble_eq_true rfl) (Nat.le_of_ble_eq_true rfl) dX11_text_108 ⟨0, u0_19, u1_20, ft, fk, ([zO8 t a1_3 0 u0_19 u1_20 a2_4 a3_5 a4_6 a5_7, zAr T 1 a1_3 600 ft, zAr T 0 a2_4 3 fk, zArq T 3 a3_5 2 q1_8, zArq T 4 a4_6 2 q2_9, zArq T 5 a5_7 2 q3_10]), cr0_, inn0_, k10_, k20_, k30_, k40_, z0_, cr1_, inn1_, k11_, k21_, k31_, k41_, z1_, dd0_, p10_, p20_, p30_, wd0_, dd1_, p11_, p21_, p31_, wd1_, gg0_, q10_, q20_, wg0_, gg1_, q11_, q21_, wg1_, u0_19, u1_20, u2_18, u3_21, u4_22, u5_23, u6_24, u7_25, u8_26, a1_3, z2_27, 0, 0, j1_28, j2_29, j3_30, j4_31, wd2_32, dd2_33, b1_34, b2_35, b3_36, wg2_37, 0, e1, e2, wwA, wwB, wff, mdA, mdB, e0f, rfl, hw_83, (by first | with_reducible assumption | omega | trivial | assumption), hz0_, (by first | with_reducible assumption | omega | trivial | assumption), hz1_, (by first | with_reducible assumption | omega | trivial | assumption), hd0_, hd1_, hg0_, hg1_, h_38, h_40, h_41, hwwA, hwwB, hwff, rfl, (by first | exact Or.inl ⟨rfl, rfl, rfl⟩ | exact Or.inr (Or.inl ⟨rfl, rfl, rfl⟩) | exact Or.inr (Or.inr ⟨rfl, rfl, rfl⟩)), ⟨pHd Gr (pRead k N 1).1.2.2.1 (pRead k N 1).1.2.2.2.1, Or.inr (Or.inl ⟨hokG, by omega, rfl, fun _ _ => rfl⟩), by rw [h_42, h_43]; exact zTR_hd hT⟩, (by first | exact Or.inl (by decide) | exact Or.inr ⟨rfl, rfl, rfl⟩ | exact Or.inr rfl)⟩)
set_option maxHeartbeats 4000000 in
set_option maxRecDepth 100000 in
/-- c_f_text2 -/
theorem c_f_text2 (l : Launch) (T : zTy) (xo : Nat) (t : Nat) (im : Nat) (mk : Nat) (rd : Nat) (po : Nat) (co : Nat) (tr : Nat) (wa : Nat) (wb_ : Nat) (fi : Nat) (cd : Nat) (l0 : Nat) (l1 : Nat) (d0 : Nat) (d1 : Nat) (g0 : Nat) (g1 : Nat) (ln : Int32) (fl : Int32) (pl : Int32) (ft : Nat → Int32) (fk : Nat → Int32) (wt : va_W) (cr0_ : Int32) (inn0_ : Int32) (k10_ : Nat → Int32) (k20_ : Nat → Int32) (k30_ : Nat → Int32) (k40_ : Nat → Int32) (z0_ : va_W) (cr1_ : Int32) (inn1_ : Int32) (k11_ : Nat → Int32) (k21_ : Nat → Int32) (k31_ : Nat → Int32) (k41_ : Nat → Int32) (z1_ : va_W) (dd0_ : Int32) (p10_ : Nat → Int32) (p20_ : Nat → Int32) (p30_ : Nat → Int32) (wd0_ : va_W) (dd1_ : Int32) (p11_ : Nat → Int32) (p21_ : Nat → Int32) (p31_ : Nat → Int32) (wd1_ : va_W) (gg0_ : Int32) (q10_ : Nat → Int32) (q20_ : Nat → Int32) (wg0_ : va_W) (gg1_ : Int32) (q11_ : Nat → Int32) (q21_ : Nat → Int32) (wg1_ : va_W) (rl : Nat) (rdd : Nat) (rg : Nat) (r0 : Int32) (r1 : Int32) (r2 : Int32) (r3 : Int32) (r4 : Int32) (r5 : Int32) (r6 : Int32) (r7 : Int32) (r8 : Int32) (tq : Nat) (cr : Int32) (inn : Int32) (k1 : Nat → Int32) (k2 : Nat → Int32) (k3 : Nat → Int32) (k4 : Nat → Int32) (z : va_W) (dd : Int32) (v1 : Nat → Int32) (v2 : Nat → Int32) (v3 : Nat → Int32) (wd : va_W) (gg : Int32) (e1 : Nat → Int32) (e2 : Nat → Int32) (wg : va_W) (laA : Nat) (mdA : Int32) (wyA : Int32) (pc_A : Int32) (f1A : Nat → Int32) (f2A : Nat → Int32) (f3A : Nat → Int32) (f4A : Nat → Int32) (f5A : Nat → Int32) (f6A : Nat → Int32) (n4A : Nat) (wwA : va_W) (laB : Nat) (mdB : Int32) (wyB : Int32) (pc_B : Int32) (f1B : Nat → Int32) (f2B : Nat → Int32) (f3B : Nat → Int32) (f4B : Nat → Int32) (f5B : Nat → Int32) (f6B : Nat → Int32) (n4B : Nat) (wwB : va_W) (e0f : Int32) (e1f : Int32) (e2f : Int32) (e3f : Int32) (e4f : Int32) (e5f : Int32) (r1f : Nat → Int32) (m1f : Nat) (r2f : Nat → Int32) (wff : va_W) (k : pT) (N : Nat) (Gr : Nat → Int32) (at_ : Int32) (ht : bTold T t l0 l1 d0 d1 g0 g1 ln fl pl ft fk wt) (hK : zKT fk) (hz0_ : bLand T l0 cr0_ inn0_ k10_ k20_ k30_ k40_ z0_) (hI0_ : zLI cr0_ k10_ k30_) (hz1_ : bLand T l1 cr1_ inn1_ k11_ k21_ k31_ k41_ z1_) (hI1_ : zLI cr1_ k11_ k31_) (hd0_ : bDay T d0 dd0_ p10_ p20_ p30_ wd0_) (hd1_ : bDay T d1 dd1_ p11_ p21_ p31_ wd1_) (hg0_ : bLog T g0 gg0_ q10_ q20_ wg0_) (hg1_ : bLog T g1 gg1_ q11_ q21_ wg1_) (hz : bLand T rl cr inn k1 k2 k3 k4 z) (hd : bDay T rdd dd v1 v2 v3 wd) (hg : bLog T rg gg e1 e2 wg) (hwwA : bWays T wa laA mdA wyA pc_A f1A f2A f3A f4A f5A f6A n4A wwA) (hwwB : bWays T wb_ laB mdB wyB pc_B f1B f2B f3B f4B f5B f6B n4B wwB) (hwff : bFit T fi e0f e1f e2f e3f e4f e5f r1f m1f r2f wff) (hT : zTR ln fl pl ft fk cr0_ inn0_ k10_ k20_ k30_ k40_ cr1_ inn1_ k11_ k21_ k31_ k41_ dd0_ p10_ p20_ p30_ dd1_ p11_ p21_ p31_ gg0_ q10_ q20_ gg1_ q11_ q21_ Gr) (hN : ln = nI N) (hN6 : N ≤ 600) (hk : k = tkT ft N) : zMi l T yX11_text cX11_text 5 (some .int) 9 0 0 [.ref xo, .int 2, .int at_] [[zO10 xo t im mk rd po co tr wa wb_ fi cd], wt, z0_, z1_, wd0_, wd1_, wg0_, wg1_, [zO7 rd rl rdd rg r0 r1 tq r2 r3 r4 r5 r6 r7 r8], z, wd, wg, wwA, wwB, wff] (fun (r : Int32) bs => ∃ (ln_2 : Int32) (fl_2 : Int32) (pl_2 : Int32) (ft_2 : Nat → Int32) (fk_2 : Nat → Int32) (wt_2 : va_W) (cr0__2 : Int32) (inn0__2 : Int32) (k10__2 : Nat → Int32) (k20__2 : Nat → Int32) (k30__2 : Nat → Int32) (k40__2 : Nat → Int32) (z0__2 : va_W) (cr1__2 : Int32) (inn1__2 : Int32) (k11__2 : Nat → Int32) (k21__2 : Nat → Int32) (k31__2 : Nat → Int32) (k41__2 : Nat → Int32) (z1__2 : va_W) (dd0__2 : Int32) (p10__2 : Nat → Int32) (p20__2 : Nat → Int32) (p30__2 : Nat → Int32) (wd0__2 : va_W) (dd1__2 : Int32) (p11__2 : Nat → Int32) (p21__2 : Nat → Int32) (p31__2 : Nat → Int32) (wd1__2 : va_W) (gg0__2 : Int32) (q10__2 : Nat → Int32) (q20__2 : Nat → Int32) (wg0__2 : va_W) (gg1__2 : Int32) (q11__2 : Nat → Int32) (q21__2 : Nat → Int32) (wg1__2 : va_W) (s0 : Int32) (s1 : Int32) (s2 : Int32) (s3 : Int32) (s4 : Int32) (s5 : Int32) (s6 : Int32) (s7 : Int32) (s8 : Int32) (tq_2 : Nat) (z2 : va_W) (c2 : Int32) (i2_ : Int32) (j1 : Nat → Int32) (j2 : Nat → Int32) (j3 : Nat → Int32) (j4 : Nat → Int32) (wd2 : va_W) (dd2 : Int32) (b1 : Nat → Int32) (b2 : Nat → Int32) (b3 : Nat → Int32) (wg2 : va_W) (gg2 : Int32) (b4 : Nat → Int32) (b5 : Nat → Int32) (wwA_2 : va_W) (wwB_2 : va_W) (wff_2 : va_W) (mdA_2 : Int32) (mdB_2 : Int32) (e0f_2 : Int32), bs = [[zO10 xo t im mk rd po co tr wa wb_ fi cd], wt_2, z0__2, z1__2, wd0__2, wd1__2, wg0__2, wg1__2, [zO7 rd rl rdd rg s0 s1 tq_2 s2 s3 s4 s5 s6 s7 s8], z2, wd2, wg2, wwA_2, wwB_2, wff_2] ∧ bTold T t l0 l1 d0 d1 g0 g1 ln_2 fl_2 pl_2 ft_2 fk_2 wt_2 ∧ zKT fk_2 ∧ bLand T l0 cr0__2 inn0__2 k10__2 k20__2 k30__2 k40__2 z0__2 ∧ zLI cr0__2 k10__2 k30__2 ∧ bLand T l1 cr1__2 inn1__2 k11__2 k21__2 k31__2 k41__2 z1__2 ∧ zLI cr1__2 k11__2 k31__2 ∧ bDay T d0 dd0__2 p10__2 p20__2 p30__2 wd0__2 ∧ bDay T d1 dd1__2 p11__2 p21__2 p31__2 wd1__2 ∧ bLog T g0 gg0__2 q10__2 q20__2 wg0__2 ∧ bLog T g1 gg1__2 q11__2 q21__2 wg1__2 ∧ bLand T rl c2 i2_ j1 j2 j3 j4 z2 ∧ bDay T rdd dd2 b1 b2 b3 wd2 ∧ bLog T rg gg2 b4 b5 wg2 ∧ bWays T wa laA mdA_2 wyA pc_A f1A f2A f3A f4A f5A f6A n4A wwA_2 ∧ bWays T wb_ laB mdB_2 wyB pc_B f1B f2B f3B f4B f5B f6B n4B wwB_2 ∧ bFit T fi e0f_2 e1f e2f e3f e4f e5f r1f m1f r2f wff_2 ∧ ln_2 = 0 ∧ (mdA_2 = 0 ∧ mdB_2 = 0 ∧ e0f_2 = 0 ∨ mdA_2 = mdA ∧ mdB_2 = mdB ∧ e0f_2 = 0 ∨ mdA_2 = mdA ∧ mdB_2 = mdB ∧ e0f_2 = e0f) ∧ (∃ G2, zText (pRead k N 2) 2 at_ Gr G2 r ∧ zTR ln_2 fl_2 pl_2 ft_2 fk_2 cr0__2 inn0__2 k10__2 k20__2 k30__2 k40__2 cr1__2 inn1__2 k11__2 k21__2 k31__2 k41__2 dd0__2 p10__2 p20__2 p30__2 dd1__2 p11__2 p21__2 p31__2 gg0__2 q10__2 q20__2 gg1__2 q11__2 q21__2 G2) ∧ (r.toInt < 0 ∨ e0f_2 = 0)) := by
  refine zMi_of (own := RX11) (by decide) rfl (Nat.le_of_ble_eq_true rfl) ?_
  intro p e s m args below meth c A ls C hr hlocks hnm hAe G hl
  refine zHide (fun Qz_ hQz_ => ?_)
  have hx := C.1
  have hb := C.2.1
  have hl : lv_has ls 5 [(0, .ref xo), (1, .int 2), (2, .int at_)] := hl
  refine lv_aload_n hx hb dX11_text_0 rfl (lv_at hl 0 rfl) ?_
  refine z_get C G clX11 0 rfl 0 (by decide) m_fl_RX11_10 rfl dX11_text_1 ?_
  refine lv_iload_n hx hb dX11_text_4 rfl (lv_at hl 1 rfl) ?_
  refine lv_iload_n hx hb dX11_text_5 rfl (lv_at hl 2 rfl) ?_
  refine z_Vi (bc := [wt]) (br := [[zO10 xo t im mk rd po co tr wa wb_ fi cd], z0_, z1_, wd0_, wd1_, wg0_, wg1_, [zO7 rd rl rdd rg r0 r1 tq r2 r3 r4 r5 r6 r7 r8], z, wd, wg, wwA, wwB, wff]) (As := [.int 2, .int at_]) (rest := []) C G (c_f_placeFor2 l T t l0 l1 d0 d1 g0 g1 ln fl pl ft fk wt at_ ht) (kV_RX11_81 C.2.2.2.2 (Nat.le_of_ble_eq_true rfl) (Nat.le_of_ble_eq_true rfl)) [1] [1] rfl rfl (ci := 8) (qc := (RX9, TX9, 8)) rfl rfl (List.mem_flatten.mpr ⟨_, List.mem_of_getElem? (i := 0) rfl, (bTold_mem ht).choose_spec⟩) rfl rfl hl.1 dX11_text_6 (Nat.le_of_ble_eq_true rfl) (Nat.le_of_ble_eq_true rfl) (fun r_2 b1 H locs hw G => ?_)
  refine zAn2 hw ?_
  intro hbs9 h_1
  clear hw
  subst hbs9
  have G : zS T A s.heap s [[zO10 xo t im mk rd po co tr wa wb_ fi cd], z0_, z1_, wd0_, wd1_, wg0_, wg1_, [zO7 rd rl rdd rg r0 r1 tq r2 r3 r4 r5 r6 r7 r8], z, wd, wg, wwA, wwB, wff, wt] _ _ := G
  have hTd := hT.1
  have hGs : Gr 2 = fk 2 := (hTd.2.2.2.1 2 (by decide)).symm
  refine lv_istore_n (lv' := [(3, .int r_2), (0, .ref xo), (1, .int 2), (2, .int at_)]) hx hb dX11_text_9 rfl hl (by decide) (zLvf_h rfl) (fun ls hl => ?_)
  refine lv_aload_n hx hb dX11_text_10 rfl (lv_at hl 1 rfl) ?_
  refine z_get C G clX11 0 rfl 0 (by decide) m_fl_RX11_10 rfl dX11_text_11 ?_
  refine zEx8 ht ?_
  intro a1_3 a2_4 a3_5 a4_6 a5_7 q1_8 q2_9 q3_10
  refine zCu7 ?_
  intro hbs9 h_11 h_12 h_13 h_14 h_15 h_16
  clear ht
  subst hbs9
  have G : zS T A s.heap s [[zO10 xo t im mk rd po co tr wa wb_ fi cd], z0_, z1_, wd0_, wd1_, wg0_, wg1_, [zO7 rd rl rdd rg r0 r1 tq r2 r3 r4 r5 r6 r7 r8], z, wd, wg, wwA, wwB, wff, [zO8 t a1_3 ln fl pl a2_4 a3_5 a4_6 a5_7], [zAr T 1 a1_3 600 ft], [zAr T 0 a2_4 3 fk], [zArq T 3 a3_5 2 q1_8], [zArq T 4 a4_6 2 q2_9], [zArq T 5 a5_7 2 q3_10]] _ _ := G.re rfl
  refine z_get C G clX9 14 rfl 1 (by decide) m_fl_RX11_73 rfl dX11_text_14 ?_
  refine lv_istore (lv' := [(4, .int ln), (3, .int r_2), (0, .ref xo), (1, .int 2), (2, .int at_)]) hx hb dX11_text_17 hl (by decide) (zLvf_h rfl) (fun ls hl => ?_)
  refine lv_aload_n hx hb dX11_text_19 rfl (lv_at hl 2 rfl) ?_
  refine z_get C G clX11 0 rfl 0 (by decide) m_fl_RX11_10 rfl dX11_text_20 ?_
  refine lv_iconst (v := 0) hx hb dX11_text_23 (by decide) ?_
  refine z_put C G clX9 14 rfl 1 (by decide) m_fl_RX11_73 rfl rfl rfl (Nat.le_of_ble_eq_true rfl) dX11_text_24 (fun H locs G => ?_)
  have G : zS T A s.heap s [[zO10 xo t im mk rd po co tr wa wb_ fi cd], z0_, z1_, wd0_, wd1_, wg0_, wg1_, [zO7 rd rl rdd rg r0 r1 tq r2 r3 r4 r5 r6 r7 r8], z, wd, wg, wwA, wwB, wff, [zO8 t a1_3 0 fl pl a2_4 a3_5 a4_6 a5_7], [zAr T 1 a1_3 600 ft], [zAr T 0 a2_4 3 fk], [zArq T 3 a3_5 2 q1_8], [zArq T 4 a4_6 2 q2_9], [zArq T 5 a5_7 2 q3_10]] _ _ := G
  refine lv_aload_n hx hb dX11_text_27 rfl (lv_at hl 2 rfl) ?_
  refine z_get C G clX11 0 rfl 0 (by decide) m_fl_RX11_10 rfl dX11_text_28 ?_
  refine lv_iconst (v := 0) hx hb dX11_text_31 (by decide) ?_
  refine z_put C G clX9 14 rfl 2 (by decide) m_fl_RX11_85 rfl rfl rfl (Nat.le_of_ble_eq_true rfl) dX11_text_32 (fun H locs G => ?_)
  have G : zS T A s.heap s [[zO10 xo t im mk rd po co tr wa wb_ fi cd], z0_, z1_, wd0_, wd1_, wg0_, wg1_, [zO7 rd rl rdd rg r0 r1 tq r2 r3 r4 r5 r6 r7 r8], z, wd, wg, wwA, wwB, wff, [zO8 t a1_3 0 0 pl a2_4 a3_5 a4_6 a5_7], [zAr T 1 a1_3 600 ft], [zAr T 0 a2_4 3 fk], [zArq T 3 a3_5 2 q1_8], [zArq T 4 a4_6 2 q2_9], [zArq T 5 a5_7 2 q3_10]] _ _ := G
  refine lv_aload_n hx hb dX11_text_35 rfl (lv_at hl 2 rfl) ?_
  refine z_get C G clX11 0 rfl 0 (by decide) m_fl_RX11_10 rfl dX11_text_36 ?_
  refine lv_iconst (v := (-1)) hx hb dX11_text_39 (by decide) ?_
  refine z_put C G clX9 14 rfl 3 (by decide) m_fl_RX11_88 rfl rfl rfl (Nat.le_of_ble_eq_true rfl) dX11_text_40 (fun H locs G => ?_)
  have G : zS T A s.heap s [[zO10 xo t im mk rd po co tr wa wb_ fi cd], z0_, z1_, wd0_, wd1_, wg0_, wg1_, [zO7 rd rl rdd rg r0 r1 tq r2 r3 r4 r5 r6 r7 r8], z, wd, wg, wwA, wwB, wff, [zO8 t a1_3 0 0 (-1) a2_4 a3_5 a4_6 a5_7], [zAr T 1 a1_3 600 ft], [zAr T 0 a2_4 3 fk], [zArq T 3 a3_5 2 q1_8], [zArq T 4 a4_6 2 q2_9], [zArq T 5 a5_7 2 q3_10]] _ _ := G
  rcases h_1 with ⟨hno, hm2⟩ | ⟨hok, hnr⟩
  · have hnoG : ¬ pOkAt 2 at_ Gr := fun z9 => hno ((pOkAt_cg (at_ := at_) hGs).mp z9)
    refine lv_iload_n hx hb dX11_text_43 rfl (lv_at hl 1 rfl) ?_
    refine lv_bipush (v := (-2)) hx hb dX11_text_44 (by decide) ?_
    refine lv_icmp_ne (tgt := 52) hx hb dX11_text_46 (by decide) (fun q => absurd ((fa_eq r_2 ((-2) : Int32)).mpr (by show r_2.toInt = (-2 : Int); omega)) q) (fun _ => ?_)
    refine lv_bipush (v := (-2)) hx hb dX11_text_49 (by decide) ?_
    have hw_17 : bTold T t l0 l1 d0 d1 g0 g1 0 0 (-1) ft fk [zO8 t a1_3 0 0 (-1) a2_4 a3_5 a4_6 a5_7, zAr T 1 a1_3 600 ft, zAr T 0 a2_4 3 fk, zArq T 3 a3_5 2 q1_8, zArq T 4 a4_6 2 q2_9, zArq T 5 a5_7 2 q3_10] := ⟨a1_3, a2_4, a3_5, a4_6, a5_7, q1_8, q2_9, q3_10, rfl, h_11, h_12, h_13, h_14, h_15, h_16⟩
    have G : zS T A s.heap s [[zO10 xo t im mk rd po co tr wa wb_ fi cd], z0_, z1_, wd0_, wd1_, wg0_, wg1_, [zO7 rd rl rdd rg r0 r1 tq r2 r3 r4 r5 r6 r7 r8], z, wd, wg, wwA, wwB, wff, [zO8 t a1_3 0 0 (-1) a2_4 a3_5 a4_6 a5_7, zAr T 1 a1_3 600 ft, zAr T 0 a2_4 3 fk, zArq T 3 a3_5 2 q1_8, zArq T 4 a4_6 2 q2_9, zArq T 5 a5_7 2 q3_10]] _ _ := G.re rfl
    have G := G.sub (bs' := [[zO10 xo t im mk rd po co tr wa wb_ fi cd], [zO8 t a1_3 0 0 (-1) a2_4 a3_5 a4_6 a5_7, zAr T 1 a1_3 600 ft, zAr T 0 a2_4 3 fk, zArq T 3 a3_5 2 q1_8, zArq T 4 a4_6 2 q2_9, zArq T 5 a5_7 2 q3_10], z0_, z1_, wd0_, wd1_, wg0_, wg1_, [zO7 rd rl rdd rg r0 r1 tq r2 r3 r4 r5 r6 r7 r8], z, wd, wg, wwA, wwB, wff]) [0, 14, 1, 2, 3, 4, 5, 6, 7, 8, 9, 10, 11, 12, 13] rfl
    exact z_back hQz_ (z_iret C hr hlocks G (Nat.le_of_ble_eq_true rfl) (Nat.le_of_ble_eq_true rfl) dX11_text_51 ⟨0, 0, (-1), ft, fk, ([zO8 t a1_3 0 0 (-1) a2_4 a3_5 a4_6 a5_7, zAr T 1 a1_3 600 ft, zAr T 0 a2_4 3 fk, zArq T 3 a3_5 2 q1_8, zArq T 4 a4_6 2 q2_9, zArq T 5 a5_7 2 q3_10]), cr0_, inn0_, k10_, k20_, k30_, k40_, z0_, cr1_, inn1_, k11_, k21_, k31_, k41_, z1_, dd0_, p10_, p20_, p30_, wd0_, dd1_, p11_, p21_, p31_, wd1_, gg0_, q10_, q20_, wg0_, gg1_, q11_, q21_, wg1_, r0, r1, r2, r3, r4, r5, r6, r7, r8, tq, z, cr, inn, k1, k2, k3, k4, wd, dd, v1, v2, v3, wg, gg, e1, e2, wwA, wwB, wff, mdA, mdB, e0f, rfl, hw_17, (by first | with_reducible assumption | omega | trivial | assumption), hz0_, (by first | with_reducible assumption | omega | trivial | assumption), hz1_, (by first | with_reducible assumption | omega | trivial | assumption), hd0_, hd1_, hg0_, hg1_, hz, hd, hg, hwwA, hwwB, hwff, rfl, (by first | exact Or.inl ⟨rfl, rfl, rfl⟩ | exact Or.inr (Or.inl ⟨rfl, rfl, rfl⟩) | exact Or.inr (Or.inr ⟨rfl, rfl, rfl⟩)), ⟨pHd Gr 0 (-1), Or.inl ⟨hnoG, rfl, fun _ _ => rfl⟩, zTR_hd hT⟩, (by first | exact Or.inl (by decide) | exact Or.inr ⟨rfl, rfl, rfl⟩ | exact Or.inr rfl)⟩)
  · have hokG := (pOkAt_cg (at_ := at_) hGs).mpr hok
    have hrb : 0 ≤ r_2.toInt ∧ r_2.toInt ≤ 1 := by rw [hnr]; exact pNr_bd hok (hK 2 (by decide))
    have hnG : pNr 2 at_ Gr = r_2 := (pNr_cg hGs).trans hnr.symm
    refine lv_iload_n hx hb dX11_text_43 rfl (lv_at hl 1 rfl) ?_
    refine lv_bipush (v := (-2)) hx hb dX11_text_44 (by decide) ?_
    refine lv_icmp_ne (tgt := 52) hx hb dX11_text_46 (by decide) (fun _ => ?_) (fun q => absurd q (fun q2 => absurd (show r_2.toInt = (-2 : Int) from (fa_eq r_2 ((-2) : Int32)).mp q2) (by omega)))
    refine lv_aload_n hx hb dX11_text_52 rfl (lv_at hl 2 rfl) ?_
    refine z_get C G clX11 0 rfl 3 (by decide) m_fl_RX11_27 rfl dX11_text_53 ?_
    refine lv_aload_n hx hb dX11_text_56 rfl (lv_at hl 2 rfl) ?_
    refine z_get C G clX11 0 rfl 0 (by decide) m_fl_RX11_10 rfl dX11_text_57 ?_
    refine z_get C G clX9 14 rfl 0 (by decide) m_fl_RX11_91 rfl dX11_text_60 ?_
    refine lv_iload hx hb dX11_text_63 (lv_at hl 0 rfl) ?_
    refine lv_iload_n hx hb dX11_text_65 rfl (lv_at hl 3 rfl) ?_
    refine z_Vv (bc := [[zO7 rd rl rdd rg r0 r1 tq r2 r3 r4 r5 r6 r7 r8], [zAr T 1 a1_3 600 ft], z, wd, wg]) (br := [[zO10 xo t im mk rd po co tr wa wb_ fi cd], z0_, z1_, wd0_, wd1_, wg0_, wg1_, wwA, wwB, wff, [zO8 t a1_3 0 0 (-1) a2_4 a3_5 a4_6 a5_7], [zAr T 0 a2_4 3 fk], [zArq T 3 a3_5 2 q1_8], [zArq T 4 a4_6 2 q2_9], [zArq T 5 a5_7 2 q3_10]]) (As := [.ref a1_3, .int ln, .int 2]) (rest := []) C G (c_f_read2 l T rd rl rdd rg a1_3 r0 r1 r2 r3 r4 r5 r6 r7 r8 tq ft cr inn k1 k2 k3 k4 z dd v1 v2 v3 wd gg e1 e2 wg ln k N hz hd hg hN hN6 hk) (kV_RX11_95 C.2.2.2.2 (Nat.le_of_ble_eq_true rfl) (Nat.le_of_ble_eq_true rfl)) [7, 15, 8, 9, 10] [7, 0, 0, 0, 4] rfl rfl (ci := 7) (qc := (RX7, TX7, 13)) rfl rfl (List.mem_flatten.mpr ⟨_, List.mem_of_getElem? (i := 0) rfl, List.mem_cons_self⟩) rfl rfl hl.1 dX11_text_66 (Nat.le_of_ble_eq_true rfl) (Nat.le_of_ble_eq_true rfl) (fun b1 H locs hw G => ?_)
    refine zEx19 hw ?_
    intro u2_18 u0_19 u1_20 u3_21 u4_22 u5_23 u6_24 u7_25 u8_26 z2_27 j1_28 j2_29 j3_30 j4_31 wd2_32 wg2_33 gg2_34 b4_35 b5_36
    refine zCu8 ?_
    intro hbs9 h_37 h_38 h_39 h_40 h_41 h_42 h_43
    clear hw
    subst hbs9
    have G : zS T A s.heap s [[zO10 xo t im mk rd po co tr wa wb_ fi cd], z0_, z1_, wd0_, wd1_, wg0_, wg1_, wwA, wwB, wff, [zO8 t a1_3 0 0 (-1) a2_4 a3_5 a4_6 a5_7], [zAr T 0 a2_4 3 fk], [zArq T 3 a3_5 2 q1_8], [zArq T 4 a4_6 2 q2_9], [zArq T 5 a5_7 2 q3_10], [zO7 rd rl rdd rg u0_19 u1_20 a1_3 u2_18 u3_21 u4_22 u5_23 u6_24 u7_25 u8_26], [zAr T 1 a1_3 600 ft], z2_27, wd2_32, wg2_33] _ _ := G
    have hu0i := congrArg Int32.toInt h_41
    refine lv_aload_n hx hb dX11_text_69 rfl (lv_at hl 2 rfl) ?_
    refine z_get C G clX11 0 rfl 0 (by decide) m_fl_RX11_10 rfl dX11_text_70 ?_
    refine lv_aload_n hx hb dX11_text_73 rfl (lv_at hl 2 rfl) ?_
    refine z_get C G clX11 0 rfl 3 (by decide) m_fl_RX11_27 rfl dX11_text_74 ?_
    refine z_get C G clX7 15 rfl 3 (by decide) m_fl_RX11_99 rfl dX11_text_77 ?_
    refine z_put C G clX9 10 rfl 2 (by decide) m_fl_RX11_85 rfl rfl rfl (Nat.le_of_ble_eq_true rfl) dX11_text_80 (fun H locs G => ?_)
    have G : zS T A s.heap s [[zO10 xo t im mk rd po co tr wa wb_ fi cd], z0_, z1_, wd0_, wd1_, wg0_, wg1_, wwA, wwB, wff, [zO8 t a1_3 0 u0_19 (-1) a2_4 a3_5 a4_6 a5_7], [zAr T 0 a2_4 3 fk], [zArq T 3 a3_5 2 q1_8], [zArq T 4 a4_6 2 q2_9], [zArq T 5 a5_7 2 q3_10], [zO7 rd rl rdd rg u0_19 u1_20 a1_3 u2_18 u3_21 u4_22 u5_23 u6_24 u7_25 u8_26], [zAr T 1 a1_3 600 ft], z2_27, wd2_32, wg2_33] _ _ := G
    refine lv_aload_n hx hb dX11_text_83 rfl (lv_at hl 2 rfl) ?_
    refine z_get C G clX11 0 rfl 0 (by decide) m_fl_RX11_10 rfl dX11_text_84 ?_
    refine lv_aload_n hx hb dX11_text_87 rfl (lv_at hl 2 rfl) ?_
    refine z_get C G clX11 0 rfl 3 (by decide) m_fl_RX11_27 rfl dX11_text_88 ?_
    refine z_get C G clX7 15 rfl 4 (by decide) m_fl_RX11_100 rfl dX11_text_91 ?_
    refine z_put C G clX9 10 rfl 3 (by decide) m_fl_RX11_88 rfl rfl rfl (Nat.le_of_ble_eq_true rfl) dX11_text_94 (fun H locs G => ?_)
    have G : zS T A s.heap s [[zO10 xo t im mk rd po co tr wa wb_ fi cd], z0_, z1_, wd0_, wd1_, wg0_, wg1_, wwA, wwB, wff, [zO8 t a1_3 0 u0_19 u1_20 a2_4 a3_5 a4_6 a5_7], [zAr T 0 a2_4 3 fk], [zArq T 3 a3_5 2 q1_8], [zArq T 4 a4_6 2 q2_9], [zArq T 5 a5_7 2 q3_10], [zO7 rd rl rdd rg u0_19 u1_20 a1_3 u2_18 u3_21 u4_22 u5_23 u6_24 u7_25 u8_26], [zAr T 1 a1_3 600 ft], z2_27, wd2_32, wg2_33] _ _ := G
    refine lv_aload_n hx hb dX11_text_97 rfl (lv_at hl 2 rfl) ?_
    refine z_get C G clX11 0 rfl 3 (by decide) m_fl_RX11_27 rfl dX11_text_98 ?_
    refine z_get C G clX7 15 rfl 3 (by decide) m_fl_RX11_99 rfl dX11_text_101 ?_
    refine lv_if_eq (tgt := 109) hx hb dX11_text_104 (by decide) (fun c_45 => ?_) (fun c_45 => ?_)
    · have c_45n : u0_19.toInt = (0 : Int) := (fa_eq _ _).mp c_45
      refine lv_aload_n hx hb dX11_text_109 rfl (lv_at hl 2 rfl) ?_
      refine z_get C G clX11 0 rfl 0 (by decide) m_fl_RX11_10 rfl dX11_text_110 ?_
      refine lv_iload_n hx hb dX11_text_113 rfl (lv_at hl 3 rfl) ?_
      refine lv_iload_n hx hb dX11_text_114 rfl (lv_at hl 1 rfl) ?_
      refine lv_aload_n hx hb dX11_text_115 rfl (lv_at hl 2 rfl) ?_
      refine z_get C G clX11 0 rfl 3 (by decide) m_fl_RX11_27 rfl dX11_text_116 ?_
      rcases (show r_2.toInt = 0 ∨ r_2.toInt = 1 from by omega) with hkk | hkk
      · obtain rfl : r_2 = 0 := Int32.toInt_inj.mp hkk
        have G := G.sub (bs' := [[zO10 xo t im mk rd po co tr wa wb_ fi cd], z0_, z1_, wd0_, wd1_, wg0_, wg1_, wwA, wwB, wff, [zO8 t a1_3 0 u0_19 u1_20 a2_4 a3_5 a4_6 a5_7], [zAr T 1 a1_3 600 ft], [zAr T 0 a2_4 3 fk], [zArq T 3 a3_5 2 q1_8], [zArq T 4 a4_6 2 q2_9], [zArq T 5 a5_7 2 q3_10], [zO7 rd rl rdd rg u0_19 u1_20 a1_3 u2_18 u3_21 u4_22 u5_23 u6_24 u7_25 u8_26], z2_27, wd2_32, wg2_33]) [0, 1, 2, 3, 4, 5, 6, 7, 8, 9, 10, 16, 11, 12, 13, 14, 15, 17, 18, 19] rfl
        have hw_46 : bTold T t l0 l1 d0 d1 g0 g1 0 u0_19 u1_20 ft fk [zO8 t a1_3 0 u0_19 u1_20 a2_4 a3_5 a4_6 a5_7, zAr T 1 a1_3 600 ft, zAr T 0 a2_4 3 fk, zArq T 3 a3_5 2 q1_8, zArq T 4 a4_6 2 q2_9, zArq T 5 a5_7 2 q3_10] := ⟨a1_3, a2_4, a3_5, a4_6, a5_7, q1_8, q2_9, q3_10, rfl, h_11, h_12, h_13, h_14, h_15, h_16⟩
        have G : zS T A s.heap s [[zO10 xo t im mk rd po co tr wa wb_ fi cd], z0_, z1_, wd0_, wd1_, wg0_, wg1_, wwA, wwB, wff, [zO8 t a1_3 0 u0_19 u1_20 a2_4 a3_5 a4_6 a5_7, zAr T 1 a1_3 600 ft, zAr T 0 a2_4 3 fk, zArq T 3 a3_5 2 q1_8, zArq T 4 a4_6 2 q2_9, zArq T 5 a5_7 2 q3_10], [zO7 rd rl rdd rg u0_19 u1_20 a1_3 u2_18 u3_21 u4_22 u5_23 u6_24 u7_25 u8_26], z2_27, wd2_32, wg2_33] _ _ := G.re rfl
        refine z_Vv (bc := [[zO8 t a1_3 0 u0_19 u1_20 a2_4 a3_5 a4_6 a5_7, zAr T 1 a1_3 600 ft, zAr T 0 a2_4 3 fk, zArq T 3 a3_5 2 q1_8, zArq T 4 a4_6 2 q2_9, zArq T 5 a5_7 2 q3_10], wg0_, [zO7 rd rl rdd rg u0_19 u1_20 a1_3 u2_18 u3_21 u4_22 u5_23 u6_24 u7_25 u8_26], wg2_33]) (br := [[zO10 xo t im mk rd po co tr wa wb_ fi cd], z0_, z1_, wd0_, wd1_, wg1_, wwA, wwB, wff, z2_27, wd2_32]) (As := [.int 2, .int 0, .ref rd]) (rest := []) C G (c_f_keep_20 l T t l0 l1 d0 d1 g0 g1 0 u0_19 u1_20 ft fk ([zO8 t a1_3 0 u0_19 u1_20 a2_4 a3_5 a4_6 a5_7, zAr T 1 a1_3 600 ft, zAr T 0 a2_4 3 fk, zArq T 3 a3_5 2 q1_8, zArq T 4 a4_6 2 q2_9, zArq T 5 a5_7 2 q3_10]) gg0_ q10_ q20_ wg0_ rd rl rdd rg a1_3 u0_19 u1_20 u2_18 u3_21 u4_22 u5_23 u6_24 u7_25 u8_26 gg2_34 b4_35 b5_36 wg2_33 hw_46 (by first | with_reducible assumption | with_reducible rfl | omega | assumption | rfl) hg0_ h_40) (kV_RX11_101 C.2.2.2.2 (Nat.le_of_ble_eq_true rfl) (Nat.le_of_ble_eq_true rfl)) [10, 5, 11, 14] [5, 4, 0, 2] rfl rfl (ci := 8) (qc := (RX9, TX9, 8)) rfl rfl (List.mem_flatten.mpr ⟨_, List.mem_of_getElem? (i := 0) rfl, (bTold_mem hw_46).choose_spec⟩) rfl rfl hl.1 dX11_text_119 (Nat.le_of_ble_eq_true rfl) (Nat.le_of_ble_eq_true rfl) (fun b1 H locs hw G => ?_)
        refine zEx5 hw ?_
        intro wt2_47 fk2_48 w2__49 s1__50 s2__51
        refine zCu7 ?_
        intro hbs9 h_52 h_53 h_54 h_55 h_56 h_57
        clear hw
        subst hbs9
        have G : zS T A s.heap s [[zO10 xo t im mk rd po co tr wa wb_ fi cd], z0_, z1_, wd0_, wd1_, wg1_, wwA, wwB, wff, z2_27, wd2_32, wt2_47, w2__49, [zO7 rd rl rdd rg u0_19 u1_20 a1_3 u2_18 u3_21 u4_22 u5_23 u6_24 u7_25 u8_26], wg2_33] _ _ := G
        refine lv_aload_n hx hb dX11_text_122 rfl (lv_at hl 2 rfl) ?_
        refine lv_iload_n hx hb dX11_text_123 rfl (lv_at hl 3 rfl) ?_
        refine lv_if_ne (tgt := 131) hx hb dX11_text_124 (by decide) (fun _ => ?_) (fun q => absurd q (by decide))
        refine lv_iconst (v := 0) hx hb dX11_text_131 (by decide) ?_
        refine z_Vv (bc := [[zO10 xo t im mk rd po co tr wa wb_ fi cd], wwA, wwB, wff]) (br := [z0_, z1_, wd0_, wd1_, wg1_, z2_27, wd2_32, wt2_47, w2__49, [zO7 rd rl rdd rg u0_19 u1_20 a1_3 u2_18 u3_21 u4_22 u5_23 u6_24 u7_25 u8_26], wg2_33]) (As := [.int 0]) (rest := []) C G (c_forget0 l T xo t im mk rd po co tr wa wb_ fi cd laA mdA wyA pc_A f1A f2A f3A f4A f5A f6A n4A wwA laB mdB wyB pc_B f1B f2B f3B f4B f5B f6B n4B wwB e0f e1f e2f e3f e4f e5f r1f m1f r2f wff hwwA hwwB hwff) (kV_RX11_105 C.2.2.2.2 (Nat.le_of_ble_eq_true rfl) (Nat.le_of_ble_eq_true rfl)) [0, 6, 7, 8] [0, 5, 0, 0] rfl rfl (ci := 10) (qc := (RX11, TX11, 11)) rfl rfl (List.mem_flatten.mpr ⟨_, List.mem_of_getElem? (i := 0) rfl, List.mem_cons_self⟩) rfl rfl hl.1 dX11_text_132 (Nat.le_of_ble_eq_true rfl) (Nat.le_of_ble_eq_true rfl) (fun b1 H locs hw G => ?_)
        refine zEx1 hw ?_
        intro wff_59
        refine zCu2 ?_
        intro hbs9 h_60
        clear hw
        subst hbs9
        have G : zS T A s.heap s [z0_, z1_, wd0_, wd1_, wg1_, z2_27, wd2_32, wt2_47, w2__49, [zO7 rd rl rdd rg u0_19 u1_20 a1_3 u2_18 u3_21 u4_22 u5_23 u6_24 u7_25 u8_26], wg2_33, [zO10 xo t im mk rd po co tr wa wb_ fi cd], wwA, wwB, wff_59] _ _ := G
        refine lv_iload_n hx hb dX11_text_135 rfl (lv_at hl 1 rfl) ?_
        have G := G.sub (bs' := [[zO10 xo t im mk rd po co tr wa wb_ fi cd], wt2_47, z0_, z1_, wd0_, wd1_, w2__49, wg1_, [zO7 rd rl rdd rg u0_19 u1_20 a1_3 u2_18 u3_21 u4_22 u5_23 u6_24 u7_25 u8_26], z2_27, wd2_32, wg2_33, wwA, wwB, wff_59]) [11, 7, 0, 1, 2, 3, 8, 4, 9, 5, 6, 10, 12, 13, 14] rfl
        exact z_back hQz_ (z_iret C hr hlocks G (Nat.le_of_ble_eq_true rfl) (Nat.le_of_ble_eq_true rfl) dX11_text_136 ⟨0, u0_19, u1_20, ft, fk2_48, wt2_47, cr0_, inn0_, k10_, k20_, k30_, k40_, z0_, cr1_, inn1_, k11_, k21_, k31_, k41_, z1_, dd0_, p10_, p20_, p30_, wd0_, dd1_, p11_, p21_, p31_, wd1_, gg2_34, s1__50, s2__51, w2__49, gg1_, q11_, q21_, wg1_, u0_19, u1_20, u2_18, u3_21, u4_22, u5_23, u6_24, u7_25, u8_26, a1_3, z2_27, 0, 0, j1_28, j2_29, j3_30, j4_31, wd2_32, 0, v1, v2, v3, wg2_33, gg2_34, b4_35, b5_36, wwA, wwB, wff_59, mdA, mdB, 0, rfl, h_52, (by first | with_reducible assumption | omega | trivial | assumption), hz0_, (by first | with_reducible assumption | omega | trivial | assumption), hz1_, (by first | with_reducible assumption | omega | trivial | assumption), hd0_, hd1_, h_53, hg1_, h_37, h_39, h_40, hwwA, hwwB, h_60, rfl, (by first | exact Or.inl ⟨rfl, rfl, rfl⟩ | exact Or.inr (Or.inl ⟨rfl, rfl, rfl⟩) | exact Or.inr (Or.inr ⟨rfl, rfl, rfl⟩)), ⟨pPut 2 (pNr 2 at_ Gr).toInt.toNat (pRead k N 2).2 (pCnt 2 at_ (pHd Gr (pRead k N 2).1.2.2.1 (pRead k N 2).1.2.2.2.1)), Or.inr (Or.inr ⟨hokG, by omega, hnG.symm, fun _ _ => rfl⟩), by rw [show (pNr 2 at_ Gr).toInt.toNat = 0 by rw [hnG]; rfl, h_41, h_42]; exact zTR_p20 (zTR_hd hT) (zCnt (kk := 0) (K := 1) (fun j hj => (hTd.2.2.2.1 j hj).trans (pHd_lo hj).symm) (by decide) (by rw [pHd_lo (by decide), hGs]; exact hK 2 (by decide)) ((pOkAt_cg (pHd_lo (by decide))).mpr hokG) (by rw [pNr_cg (pHd_lo (by decide)), hnG]; rfl) rfl h_57) (pCnt_ge (by decide)) (zLgd_eq (zLgd_c h_43 (by omega)) h_55 h_56)⟩, (by first | exact Or.inl (by decide) | exact Or.inr ⟨rfl, rfl, rfl⟩ | exact Or.inr rfl)⟩)
      · obtain rfl : r_2 = 1 := Int32.toInt_inj.mp hkk
        have G := G.sub (bs' := [[zO10 xo t im mk rd po co tr wa wb_ fi cd], z0_, z1_, wd0_, wd1_, wg0_, wg1_, wwA, wwB, wff, [zO8 t a1_3 0 u0_19 u1_20 a2_4 a3_5 a4_6 a5_7], [zAr T 1 a1_3 600 ft], [zAr T 0 a2_4 3 fk], [zArq T 3 a3_5 2 q1_8], [zArq T 4 a4_6 2 q2_9], [zArq T 5 a5_7 2 q3_10], [zO7 rd rl rdd rg u0_19 u1_20 a1_3 u2_18 u3_21 u4_22 u5_23 u6_24 u7_25 u8_26], z2_27, wd2_32, wg2_33]) [0, 1, 2, 3, 4, 5, 6, 7, 8, 9, 10, 16, 11, 12, 13, 14, 15, 17, 18, 19] rfl
        have hw_62 : bTold T t l0 l1 d0 d1 g0 g1 0 u0_19 u1_20 ft fk [zO8 t a1_3 0 u0_19 u1_20 a2_4 a3_5 a4_6 a5_7, zAr T 1 a1_3 600 ft, zAr T 0 a2_4 3 fk, zArq T 3 a3_5 2 q1_8, zArq T 4 a4_6 2 q2_9, zArq T 5 a5_7 2 q3_10] := ⟨a1_3, a2_4, a3_5, a4_6, a5_7, q1_8, q2_9, q3_10, rfl, h_11, h_12, h_13, h_14, h_15, h_16⟩
        have G : zS T A s.heap s [[zO10 xo t im mk rd po co tr wa wb_ fi cd], z0_, z1_, wd0_, wd1_, wg0_, wg1_, wwA, wwB, wff, [zO8 t a1_3 0 u0_19 u1_20 a2_4 a3_5 a4_6 a5_7, zAr T 1 a1_3 600 ft, zAr T 0 a2_4 3 fk, zArq T 3 a3_5 2 q1_8, zArq T 4 a4_6 2 q2_9, zArq T 5 a5_7 2 q3_10], [zO7 rd rl rdd rg u0_19 u1_20 a1_3 u2_18 u3_21 u4_22 u5_23 u6_24 u7_25 u8_26], z2_27, wd2_32, wg2_33] _ _ := G.re rfl
        refine z_Vv (bc := [[zO8 t a1_3 0 u0_19 u1_20 a2_4 a3_5 a4_6 a5_7, zAr T 1 a1_3 600 ft, zAr T 0 a2_4 3 fk, zArq T 3 a3_5 2 q1_8, zArq T 4 a4_6 2 q2_9, zArq T 5 a5_7 2 q3_10], wg1_, [zO7 rd rl rdd rg u0_19 u1_20 a1_3 u2_18 u3_21 u4_22 u5_23 u6_24 u7_25 u8_26], wg2_33]) (br := [[zO10 xo t im mk rd po co tr wa wb_ fi cd], z0_, z1_, wd0_, wd1_, wg0_, wwA, wwB, wff, z2_27, wd2_32]) (As := [.int 2, .int 1, .ref rd]) (rest := []) C G (c_f_keep_21 l T t l0 l1 d0 d1 g0 g1 0 u0_19 u1_20 ft fk ([zO8 t a1_3 0 u0_19 u1_20 a2_4 a3_5 a4_6 a5_7, zAr T 1 a1_3 600 ft, zAr T 0 a2_4 3 fk, zArq T 3 a3_5 2 q1_8, zArq T 4 a4_6 2 q2_9, zArq T 5 a5_7 2 q3_10]) gg1_ q11_ q21_ wg1_ rd rl rdd rg a1_3 u0_19 u1_20 u2_18 u3_21 u4_22 u5_23 u6_24 u7_25 u8_26 gg2_34 b4_35 b5_36 wg2_33 hw_62 (by first | with_reducible assumption | with_reducible rfl | omega | assumption | rfl) hg1_ h_40) (kV_RX11_101 C.2.2.2.2 (Nat.le_of_ble_eq_true rfl) (Nat.le_of_ble_eq_true rfl)) [10, 6, 11, 14] [6, 3, 0, 2] rfl rfl (ci := 8) (qc := (RX9, TX9, 8)) rfl rfl (List.mem_flatten.mpr ⟨_, List.mem_of_getElem? (i := 0) rfl, (bTold_mem hw_62).choose_spec⟩) rfl rfl hl.1 dX11_text_119 (Nat.le_of_ble_eq_true rfl) (Nat.le_of_ble_eq_true rfl) (fun b1 H locs hw G => ?_)
        refine zEx5 hw ?_
        intro wt2_63 fk2_64 w2__65 s1__66 s2__67
        refine zCu7 ?_
        intro hbs9 h_68 h_69 h_70 h_71 h_72 h_73
        clear hw
        subst hbs9
        have G : zS T A s.heap s [[zO10 xo t im mk rd po co tr wa wb_ fi cd], z0_, z1_, wd0_, wd1_, wg0_, wwA, wwB, wff, z2_27, wd2_32, wt2_63, w2__65, [zO7 rd rl rdd rg u0_19 u1_20 a1_3 u2_18 u3_21 u4_22 u5_23 u6_24 u7_25 u8_26], wg2_33] _ _ := G
        refine lv_aload_n hx hb dX11_text_122 rfl (lv_at hl 2 rfl) ?_
        refine lv_iload_n hx hb dX11_text_123 rfl (lv_at hl 3 rfl) ?_
        refine lv_if_ne (tgt := 131) hx hb dX11_text_124 (by decide) (fun _ => ?_) (fun q => absurd q (by decide))
        refine lv_iconst (v := 0) hx hb dX11_text_131 (by decide) ?_
        refine z_Vv (bc := [[zO10 xo t im mk rd po co tr wa wb_ fi cd], wwA, wwB, wff]) (br := [z0_, z1_, wd0_, wd1_, wg0_, z2_27, wd2_32, wt2_63, w2__65, [zO7 rd rl rdd rg u0_19 u1_20 a1_3 u2_18 u3_21 u4_22 u5_23 u6_24 u7_25 u8_26], wg2_33]) (As := [.int 0]) (rest := []) C G (c_forget0 l T xo t im mk rd po co tr wa wb_ fi cd laA mdA wyA pc_A f1A f2A f3A f4A f5A f6A n4A wwA laB mdB wyB pc_B f1B f2B f3B f4B f5B f6B n4B wwB e0f e1f e2f e3f e4f e5f r1f m1f r2f wff hwwA hwwB hwff) (kV_RX11_105 C.2.2.2.2 (Nat.le_of_ble_eq_true rfl) (Nat.le_of_ble_eq_true rfl)) [0, 6, 7, 8] [0, 5, 0, 0] rfl rfl (ci := 10) (qc := (RX11, TX11, 11)) rfl rfl (List.mem_flatten.mpr ⟨_, List.mem_of_getElem? (i := 0) rfl, List.mem_cons_self⟩) rfl rfl hl.1 dX11_text_132 (Nat.le_of_ble_eq_true rfl) (Nat.le_of_ble_eq_true rfl) (fun b1 H locs hw G => ?_)
        refine zEx1 hw ?_
        intro wff_75
        refine zCu2 ?_
        intro hbs9 h_76
        clear hw
        subst hbs9
        have G : zS T A s.heap s [z0_, z1_, wd0_, wd1_, wg0_, z2_27, wd2_32, wt2_63, w2__65, [zO7 rd rl rdd rg u0_19 u1_20 a1_3 u2_18 u3_21 u4_22 u5_23 u6_24 u7_25 u8_26], wg2_33, [zO10 xo t im mk rd po co tr wa wb_ fi cd], wwA, wwB, wff_75] _ _ := G
        refine lv_iload_n hx hb dX11_text_135 rfl (lv_at hl 1 rfl) ?_
        have G := G.sub (bs' := [[zO10 xo t im mk rd po co tr wa wb_ fi cd], wt2_63, z0_, z1_, wd0_, wd1_, wg0_, w2__65, [zO7 rd rl rdd rg u0_19 u1_20 a1_3 u2_18 u3_21 u4_22 u5_23 u6_24 u7_25 u8_26], z2_27, wd2_32, wg2_33, wwA, wwB, wff_75]) [11, 7, 0, 1, 2, 3, 4, 8, 9, 5, 6, 10, 12, 13, 14] rfl
        exact z_back hQz_ (z_iret C hr hlocks G (Nat.le_of_ble_eq_true rfl) (Nat.le_of_ble_eq_true rfl) dX11_text_136 ⟨0, u0_19, u1_20, ft, fk2_64, wt2_63, cr0_, inn0_, k10_, k20_, k30_, k40_, z0_, cr1_, inn1_, k11_, k21_, k31_, k41_, z1_, dd0_, p10_, p20_, p30_, wd0_, dd1_, p11_, p21_, p31_, wd1_, gg0_, q10_, q20_, wg0_, gg2_34, s1__66, s2__67, w2__65, u0_19, u1_20, u2_18, u3_21, u4_22, u5_23, u6_24, u7_25, u8_26, a1_3, z2_27, 0, 0, j1_28, j2_29, j3_30, j4_31, wd2_32, 0, v1, v2, v3, wg2_33, gg2_34, b4_35, b5_36, wwA, wwB, wff_75, mdA, mdB, 0, rfl, h_68, (by first | with_reducible assumption | omega | trivial | assumption), hz0_, (by first | with_reducible assumption | omega | trivial | assumption), hz1_, (by first | with_reducible assumption | omega | trivial | assumption), hd0_, hd1_, hg0_, h_69, h_37, h_39, h_40, hwwA, hwwB, h_76, rfl, (by first | exact Or.inl ⟨rfl, rfl, rfl⟩ | exact Or.inr (Or.inl ⟨rfl, rfl, rfl⟩) | exact Or.inr (Or.inr ⟨rfl, rfl, rfl⟩)), ⟨pPut 2 (pNr 2 at_ Gr).toInt.toNat (pRead k N 2).2 (pCnt 2 at_ (pHd Gr (pRead k N 2).1.2.2.1 (pRead k N 2).1.2.2.2.1)), Or.inr (Or.inr ⟨hokG, by omega, hnG.symm, fun _ _ => rfl⟩), by rw [show (pNr 2 at_ Gr).toInt.toNat = 1 by rw [hnG]; rfl, h_41, h_42]; exact zTR_p21 (zTR_hd hT) (zCnt (kk := 1) (K := 2) (fun j hj => (hTd.2.2.2.1 j hj).trans (pHd_lo hj).symm) (by decide) (by rw [pHd_lo (by decide), hGs]; exact hK 2 (by decide)) ((pOkAt_cg (pHd_lo (by decide))).mpr hokG) (by rw [pNr_cg (pHd_lo (by decide)), hnG]; rfl) rfl h_73) (pCnt_ge (by decide)) (zLgd_eq (zLgd_c h_43 (by omega)) h_71 h_72)⟩, (by first | exact Or.inl (by decide) | exact Or.inr ⟨rfl, rfl, rfl⟩ | exact Or.inr rfl)⟩)
    · have c_45n : ¬ u0_19.toInt = (0 : Int) := fun q => c_45 ((fa_eq _ _).mpr q)
      refine lv_iconst (v := (-1)) hx hb dX11_text_107 (by decide) ?_
      have G := G.sub (bs' := [[zO10 xo t im mk rd po co tr wa wb_ fi cd], z0_, z1_, wd0_, wd1_, wg0_, wg1_, wwA, wwB, wff, [zO8 t a1_3 0 u0_19 u1_20 a2_4 a3_5 a4_6 a5_7], [zAr T 1 a1_3 600 ft], [zAr T 0 a2_4 3 fk], [zArq T 3 a3_5 2 q1_8], [zArq T 4 a4_6 2 q2_9], [zArq T 5 a5_7 2 q3_10], [zO7 rd rl rdd rg u0_19 u1_20 a1_3 u2_18 u3_21 u4_22 u5_23 u6_24 u7_25 u8_26], z2_27, wd2_32, wg2_33]) [0, 1, 2, 3, 4, 5, 6, 7, 8, 9, 10, 16, 11, 12, 13, 14, 15, 17, 18, 19] rfl
      have hw_78 : bTold T t l0 l1 d0 d1 g0 g1 0 u0_19 u1_20 ft fk [zO8 t a1_3 0 u0_19 u1_20 a2_4 a3_5 a4_6 a5_7, zAr T 1 a1_3 600 ft, zAr T 0 a2_4 3 fk, zArq T 3 a3_5 2 q1_8, zArq T 4 a4_6 2 q2_9, zArq T 5 a5_7 2 q3_10] := ⟨a1_3, a2_4, a3_5, a4_6, a5_7, q1_8, q2_9, q3_10, rfl, h_11, h_12, h_13, h_14, h_15, h_16⟩
      have G : zS T A s.heap s [[zO10 xo t im mk rd po co tr wa wb_ fi cd], z0_, z1_, wd0_, wd1_, wg0_, wg1_, wwA, wwB, wff, [zO8 t a1_3 0 u0_19 u1_20 a2_4 a3_5 a4_6 a5_7, zAr T 1 a1_3 600 ft, zAr T 0 a2_4 3 fk, zArq T 3 a3_5 2 q1_8, zArq T 4 a4_6 2 q2_9, zArq T 5 a5_7 2 q3_10], [zO7 rd rl rdd rg u0_19 u1_20 a1_3 u2_18 u3_21 u4_22 u5_23 u6_24 u7_25 u8_26], z2_27, wd2_32, wg2_33] _ _ := G.re rfl
      have G := G.sub (bs' := [[zO10 xo t im mk rd po co tr wa wb_ fi cd], [zO8 t a1_3 0 u0_19 u1_20 a2_4 a3_5 a4_6 a5_7, zAr T 1 a1_3 600 ft, zAr T 0 a2_4 3 fk, zArq T 3 a3_5 2 q1_8, zArq T 4 a4_6 2 q2_9, zArq T 5 a5_7 2 q3_10], z0_, z1_, wd0_, wd1_, wg0_, wg1_, [zO7 rd rl rdd rg u0_19 u1_20 a1_3 u2_18 u3_21 u4_22 u5_23 u6_24 u7_25 u8_26], z2_27, wd2_32, wg2_33, wwA, wwB, wff]) [0, 10, 1, 2, 3, 4, 5, 6, 11, 12, 13, 14, 7, 8, 9] rfl
      exact z_back hQz_ (z_iret C hr hlocks G (Nat.le_of_ble_eq_true rfl) (Nat.le_of_ble_eq_true rfl) dX11_text_108 ⟨0, u0_19, u1_20, ft, fk, ([zO8 t a1_3 0 u0_19 u1_20 a2_4 a3_5 a4_6 a5_7, zAr T 1 a1_3 600 ft, zAr T 0 a2_4 3 fk, zArq T 3 a3_5 2 q1_8, zArq T 4 a4_6 2 q2_9, zArq T 5 a5_7 2 q3_10]), cr0_, inn0_, k10_, k20_, k30_, k40_, z0_, cr1_, inn1_, k11_, k21_, k31_, k41_, z1_, dd0_, p10_, p20_, p30_, wd0_, dd1_, p11_, p21_, p31_, wd1_, gg0_, q10_, q20_, wg0_, gg1_, q11_, q21_, wg1_, u0_19, u1_20, u2_18, u3_21, u4_22, u5_23, u6_24, u7_25, u8_26, a1_3, z2_27, 0, 0, j1_28, j2_29, j3_30, j4_31, wd2_32, 0, v1, v2, v3, wg2_33, gg2_34, b4_35, b5_36, wwA, wwB, wff, mdA, mdB, e0f, rfl, hw_78, (by first | with_reducible assumption | omega | trivial | assumption), hz0_, (by first | with_reducible assumption | omega | trivial | assumption), hz1_, (by first | with_reducible assumption | omega | trivial | assumption), hd0_, hd1_, hg0_, hg1_, h_37, h_39, h_40, hwwA, hwwB, hwff, rfl, (by first | exact Or.inl ⟨rfl, rfl, rfl⟩ | exact Or.inr (Or.inl ⟨rfl, rfl, rfl⟩) | exact Or.inr (Or.inr ⟨rfl, rfl, rfl⟩)), ⟨pHd Gr (pRead k N 2).1.2.2.1 (pRead k N 2).1.2.2.2.1, Or.inr (Or.inl ⟨hokG, by omega, rfl, fun _ _ => rfl⟩), by rw [h_41, h_42]; exact zTR_hd hT⟩, (by first | exact Or.inl (by decide) | exact Or.inr ⟨rfl, rfl, rfl⟩ | exact Or.inr rfl)⟩)
/-! FEED -/
theorem zBe_b (y : Int32) : zBe y.toInt8.toInt32 (y &&& 255) := by
  have e1 : y.toInt8.toInt32.toInt = y.toInt.bmod 256 := by rw [Int8.toInt_toInt32, Int32.toInt_toInt8]
  have e2 : y &&& 255 = nI (y.toBitVec.toNat % 2 ^ 8) := pk_and y 8 (by decide)
  have e3 : (y &&& 255).toInt = ((y.toBitVec.toNat % 256 : Nat) : Int) := by rw [e2]; exact nI_toInt (by omega)
  have e4 : y.toInt = if 2 * y.toBitVec.toNat < 4294967296 then (y.toBitVec.toNat : Int) else (y.toBitVec.toNat : Int) - 4294967296 := BitVec.toInt_eq_toNat_cond y.toBitVec
  have e5 : y.toInt.bmod 256 = if y.toInt % 256 < 128 then y.toInt % 256 else y.toInt % 256 - 256 := Int.bmod_def y.toInt 256
  have e6 : y.toInt % 256 = ((y.toBitVec.toNat % 256 : Nat) : Int) := by
    rw [e4]
    split <;> omega
  rw [e6] at e5
  unfold zBe
  by_cases c : ((y.toBitVec.toNat % 256 : Nat) : Int) < 128
  · rw [if_pos c] at e5
    exact Or.inl ⟨Int32.toInt_inj.mp (by rw [e3, e1, e5]), by rw [e1, e5]; omega⟩
  · rw [if_neg c] at e5
    exact Or.inr ⟨by rw [e1, e5]; omega, by rw [e3]; omega⟩
def zB8 (x s : Int32) : Int32 := (x >>> (s &&& 31)).toInt8.toInt32
def zApp (p : Nat) (x : Int32) (f : Nat → Int32) : Nat → Int32 := upd (upd (upd (upd f p (zB8 x 24)) (p + 1) (zB8 x 16)) (p + 1 + 1) (zB8 x 8)) (p + 1 + 1 + 1) (zB8 x 0)
def zFeedC (p : Nat) (a b c d e : Int32) (f : Nat → Int32) : Nat → Int32 := zApp (p + 4 + 4 + 4 + 4) e (zApp (p + 4 + 4 + 4) d (zApp (p + 4 + 4) c (zApp (p + 4) b (zApp p a f))))
def pB (a b c d e : Int32) (i : Nat) : Int32 := (if i < 4 then a else if i < 8 then b else if i < 12 then c else if i < 16 then d else e) >>> ((24 - 8 * (nI i - nI i / 4 * 4)) &&& 31)
theorem zApp_o {p j : Nat} {x : Int32} {f : Nat → Int32} (h : j < p ∨ p + 4 ≤ j) : zApp p x f j = f j := by unfold zApp; rw [z_ne (by omega), z_ne (by omega), z_ne (by omega), z_ne (by omega)]
theorem zApp_i {p : Nat} {x : Int32} {f : Nat → Int32} : zApp p x f p = zB8 x 24 ∧ zApp p x f (p + 1) = zB8 x 16 ∧ zApp p x f (p + 2) = zB8 x 8 ∧ zApp p x f (p + 3) = zB8 x 0 := by
  unfold zApp
  refine ⟨?_, ?_, ?_, ?_⟩
  · rw [z_ne (by omega), z_ne (by omega), z_ne (by omega), z_eq rfl]
  · rw [z_ne (by omega), z_ne (by omega), z_eq rfl]
  · rw [z_ne (by omega), z_eq rfl]
  · rw [z_eq rfl]
theorem zFeedC_o {p j : Nat} {a b c d e : Int32} {f : Nat → Int32} (h : j < p ∨ p + 20 ≤ j) : zFeedC p a b c d e f j = f j := by unfold zFeedC; rw [zApp_o (by omega), zApp_o (by omega), zApp_o (by omega), zApp_o (by omega), zApp_o (by omega)]
theorem pB_s : ∀ i, i < 20 → ((24 - 8 * (nI i - nI i / 4 * 4)) &&& 31 : Int32) = ([24, 16, 8, 0] : List Int32).getD (i % 4) 0 &&& 31 := by decide +kernel
/-- the twenty bytes, with sign and without -/
theorem zFeed_be {p i : Nat} {a b c d e : Int32} {f : Nat → Int32} (h : i < 20) : zFeedC p a b c d e f (p + i) = (pB a b c d e i).toInt8.toInt32 := by
  unfold pB
  rw [pB_s i h]
  unfold zFeedC
  have k : ∀ (q m : Nat) (x : Int32) (g : Nat → Int32), m < 4 → zApp q x g (q + m) = (x >>> (([24, 16, 8, 0] : List Int32).getD m 0 &&& 31)).toInt8.toInt32 := by
    intro q m x g hm
    have z := zApp_i (p := q) (x := x) (f := g)
    rcases (show m = 0 ∨ m = 1 ∨ m = 2 ∨ m = 3 by omega) with e | e | e | e <;> subst e
    · exact z.1
    · exact z.2.1
    · exact z.2.2.1
    · exact z.2.2.2
  rcases (show i < 4 ∨ (4 ≤ i ∧ i < 8) ∨ (8 ≤ i ∧ i < 12) ∨ (12 ≤ i ∧ i < 16) ∨ (16 ≤ i ∧ i < 20) by omega) with q | q | q | q | q
  · rw [zApp_o (by omega), zApp_o (by omega), zApp_o (by omega), zApp_o (by omega), k p i a f q, if_pos q, show i % 4 = i by omega]
  · rw [zApp_o (by omega), zApp_o (by omega), zApp_o (by omega), show p + i = p + 4 + (i - 4) by omega, k _ _ _ _ (by omega), if_neg (by omega), if_pos (by omega), show i % 4 = i - 4 by omega]
  · rw [zApp_o (by omega), zApp_o (by omega), show p + i = p + 4 + 4 + (i - 8) by omega, k _ _ _ _ (by omega), if_neg (by omega), if_neg (by omega), if_pos (by omega), show i % 4 = i - 8 by omega]
  · rw [zApp_o (by omega), show p + i = p + 4 + 4 + 4 + (i - 12) by omega, k _ _ _ _ (by omega), if_neg (by omega), if_neg (by omega), if_neg (by omega), if_pos (by omega), show i % 4 = i - 12 by omega]
  · rw [show p + i = p + 4 + 4 + 4 + 4 + (i - 16) by omega, k _ _ _ _ (by omega), if_neg (by omega), if_neg (by omega), if_neg (by omega), if_neg (by omega), show i % 4 = i - 16 by omega]
def zFeedR (p : Nat) (a b c d e : Int32) (f g : Nat → Int32) : Prop := g 4 = nI (p + 20) ∧ (∀ j, j < 20 → g (10 + (p + j)) = pB a b c d e j &&& 255) ∧ ∀ j, (j < 10 + p ∨ 30 + p ≤ j) → ¬ j = 4 → g j = f j
theorem pB_y {a b c d e v x : Int32} {i : Nat} (h : v = (if i < 4 then a else if i < 8 then b else if i < 12 then c else if i < 16 then d else e)) (hx : x = (v >>> ((24 - 8 * (nI i - nI i / 4 * 4)) &&& 31)) &&& 255) : x = pB a b c d e i &&& 255 := by rw [hx, h]; rfl
theorem zFd_s {p i : Nat} {a b c d e v w : Int32} {x : Nat → Int32} (h : ∀ j, j < i → x (10 + (p + j)) = pB a b c d e j &&& 255) (hv : v = pB a b c d e i &&& 255) : ∀ j, j < i + 1 → upd (upd x (10 + (p + i)) v) 4 w (10 + (p + j)) = pB a b c d e j &&& 255 := by
  intro j hj
  rw [z_ne (by omega)]
  by_cases q : j = i
  · rw [q, z_eq rfl]; exact hv
  · rw [z_ne (by omega)]; exact h j (by omega)
theorem zFd_o {p i : Nat} {v w : Int32} {x f : Nat → Int32} (h : ∀ j, (j < 10 + p ∨ 10 + p + i ≤ j) → ¬ j = 4 → x j = f j) : ∀ j, (j < 10 + p ∨ 10 + p + (i + 1) ≤ j) → ¬ j = 4 → upd (upd x (10 + (p + i)) v) 4 w j = f j := by
  intro j h1 h2
  rw [z_ne h2, z_ne (by omega)]
  exact h j (by omega) h2
set_option maxHeartbeats 4000000 in
set_option maxRecDepth 100000 in
/-- append -/
theorem c_f_append (l : Launch) (T : zTy) (t : Nat) (l0 : Nat) (l1 : Nat) (d0 : Nat) (d1 : Nat) (g0 : Nat) (g1 : Nat) (ln : Int32) (fl : Int32) (pl : Int32) (ft : Nat → Int32) (fk : Nat → Int32) (wt : va_W) (x : Int32) (p0 : Nat) (ht : bTold T t l0 l1 d0 d1 g0 g1 ln fl pl ft fk wt) (hp : ln = nI p0) (hp6 : p0 + 4 ≤ 600) : zMv l T yX9_append cX9_append 3 1 0 0 [.ref t, .int x] [wt] (fun bs => ∃ (wt2 : va_W) (u : Int32) (g : Nat → Int32), bs = [wt2] ∧ bTold T t l0 l1 d0 d1 g0 g1 u fl pl g fk wt2 ∧ u = nI (p0 + 4) ∧ g = zApp p0 x ft) := by
  refine zMv_of (own := RX9) (by decide) rfl (Nat.le_of_ble_eq_true rfl) ?_
  intro p e s m args below meth c A ls C hr hlocks hnm hAe G hl
  refine zHide (fun Qz_ hQz_ => ?_)
  have hx := C.1
  have hb := C.2.1
  have hl : lv_has ls 3 [(0, .ref t), (1, .int x)] := hl
  subst hp
  refine lv_bipush (v := 24) hx hb dX9_append_0 (by decide) ?_
  refine lv_istore_n (lv' := [(2, .int 24), (0, .ref t), (1, .int x)]) hx hb dX9_append_2 rfl hl (by decide) (zLvf_h rfl) (fun ls hl => ?_)
  refine lv_iload_n hx hb dX9_append_3 rfl (lv_at hl 0 rfl) ?_
  refine lv_if_lt (tgt := 46) hx hb dX9_append_4 (by decide) (fun q => absurd q (by decide)) (fun _ => ?_)
  refine lv_aload_n hx hb dX9_append_7 rfl (lv_at hl 1 rfl) ?_
  refine zEx8 ht ?_
  intro a1_1 a2_2 a3_3 a4_4 a5_5 q1_6 q2_7 q3_8
  refine zCu7 ?_
  intro hbs9 h_9 h_10 h_11 h_12 h_13 h_14
  clear ht
  subst hbs9
  have G : zS T A s.heap s [[zO8 t a1_1 (nI p0) fl pl a2_2 a3_3 a4_4 a5_5], [zAr T 1 a1_1 600 ft], [zAr T 0 a2_2 3 fk], [zArq T 3 a3_3 2 q1_6], [zArq T 4 a4_4 2 q2_7], [zArq T 5 a5_5 2 q3_8]] _ _ := G.re rfl
  refine z_get C G clX9 0 rfl 1 (by decide) m_fl_RX9_44 rfl dX9_append_8 ?_
  refine lv_sipush (v := 600) hx hb dX9_append_11 (by decide) ?_
  refine lv_icmp_ge (tgt := 40) hx hb dX9_append_14 (by decide) (fun q => absurd q (fun q2 => absurd ((nI_leI (a := 600) (b := p0) (by omega) (by omega)).mp q2) (by omega))) (fun _ => ?_)
  refine lv_aload_n hx hb dX9_append_17 rfl (lv_at hl 1 rfl) ?_
  refine z_get C G clX9 0 rfl 0 (by decide) m_fl_RX9_9 rfl dX9_append_18 ?_
  refine lv_aload_n hx hb dX9_append_21 rfl (lv_at hl 1 rfl) ?_
  refine z_get C G clX9 0 rfl 1 (by decide) m_fl_RX9_44 rfl dX9_append_22 ?_
  refine lv_iload_n hx hb dX9_append_25 rfl (lv_at hl 2 rfl) ?_
  refine lv_iload_n hx hb dX9_append_26 rfl (lv_at hl 0 rfl) ?_
  refine lv_ishr hx hb dX9_append_27 ?_
  refine lv_i2b hx hb dX9_append_28 rfl ?_
  refine z_bst C G 1 rfl (vp_in_nI (by omega) (by decide)) dX9_append_29 (fun H locs G => ?_)
  rw [nI_clamp (by omega)] at G
  have G : zS T A s.heap s [[zO8 t a1_1 (nI p0) fl pl a2_2 a3_3 a4_4 a5_5], [zAr T 1 a1_1 600 (upd ft p0 (vp_nar .byte ((x >>> (24 &&& 31)).toInt8.toInt32)))], [zAr T 0 a2_2 3 fk], [zArq T 3 a3_3 2 q1_6], [zArq T 4 a4_4 2 q2_7], [zArq T 5 a5_5 2 q3_8]] _ _ := G
  refine lv_aload_n hx hb dX9_append_30 rfl (lv_at hl 1 rfl) ?_
  refine lv_dup hx hb dX9_append_31 rfl ?_
  refine z_get C G clX9 0 rfl 1 (by decide) m_fl_RX9_44 rfl dX9_append_32 ?_
  refine lv_iconst (v := 1) hx hb dX9_append_35 (by decide) ?_
  refine lv_iadd hx hb dX9_append_36 ?_
  refine lv_topi (fun y_15 ey_15 => ?_)
  obtain rfl : y_15 = nI (p0 + 1) := ey_15.trans (z_iaddn p0 1 rfl rfl)
  refine z_put C G clX9 0 rfl 1 (by decide) m_fl_RX9_44 rfl rfl rfl (Nat.le_of_ble_eq_true rfl) dX9_append_37 (fun H locs G => ?_)
  have G : zS T A s.heap s [[zO8 t a1_1 (nI (p0 + 1)) fl pl a2_2 a3_3 a4_4 a5_5], [zAr T 1 a1_1 600 (upd ft p0 (vp_nar .byte ((x >>> (24 &&& 31)).toInt8.toInt32)))], [zAr T 0 a2_2 3 fk], [zArq T 3 a3_3 2 q1_6], [zArq T 4 a4_4 2 q2_7], [zArq T 5 a5_5 2 q3_8]] _ _ := G
  refine lv_iinc (v := 16) (lv' := [(2, .int 16), (0, .ref t), (1, .int x)]) hx hb dX9_append_40 hl (k := 0) rfl (by decide) (by decide) (zLvf_h rfl) (fun ls hl => ?_)
  refine lv_goto (tgt := 3) hx hb dX9_append_43 (by decide) ?_
  refine lv_iload_n hx hb dX9_append_3 rfl (lv_at hl 0 rfl) ?_
  refine lv_if_lt (tgt := 46) hx hb dX9_append_4 (by decide) (fun q => absurd q (by decide)) (fun _ => ?_)
  refine lv_aload_n hx hb dX9_append_7 rfl (lv_at hl 1 rfl) ?_
  refine z_get C G clX9 0 rfl 1 (by decide) m_fl_RX9_44 rfl dX9_append_8 ?_
  refine lv_sipush (v := 600) hx hb dX9_append_11 (by decide) ?_
  refine lv_icmp_ge (tgt := 40) hx hb dX9_append_14 (by decide) (fun q => absurd q (fun q2 => absurd ((nI_leI (a := 600) (b := p0 + 1) (by omega) (by omega)).mp q2) (by omega))) (fun _ => ?_)
  refine lv_aload_n hx hb dX9_append_17 rfl (lv_at hl 1 rfl) ?_
  refine z_get C G clX9 0 rfl 0 (by decide) m_fl_RX9_9 rfl dX9_append_18 ?_
  refine lv_aload_n hx hb dX9_append_21 rfl (lv_at hl 1 rfl) ?_
  refine z_get C G clX9 0 rfl 1 (by decide) m_fl_RX9_44 rfl dX9_append_22 ?_
  refine lv_iload_n hx hb dX9_append_25 rfl (lv_at hl 2 rfl) ?_
  refine lv_iload_n hx hb dX9_append_26 rfl (lv_at hl 0 rfl) ?_
  refine lv_ishr hx hb dX9_append_27 ?_
  refine lv_i2b hx hb dX9_append_28 rfl ?_
  refine z_bst C G 1 rfl (vp_in_nI (by omega) (by decide)) dX9_append_29 (fun H locs G => ?_)
  rw [nI_clamp (by omega)] at G
  have G : zS T A s.heap s [[zO8 t a1_1 (nI (p0 + 1)) fl pl a2_2 a3_3 a4_4 a5_5], [zAr T 1 a1_1 600 (upd (upd ft p0 (vp_nar .byte ((x >>> (24 &&& 31)).toInt8.toInt32))) (p0 + 1) (vp_nar .byte ((x >>> (16 &&& 31)).toInt8.toInt32)))], [zAr T 0 a2_2 3 fk], [zArq T 3 a3_3 2 q1_6], [zArq T 4 a4_4 2 q2_7], [zArq T 5 a5_5 2 q3_8]] _ _ := G
  refine lv_aload_n hx hb dX9_append_30 rfl (lv_at hl 1 rfl) ?_
  refine lv_dup hx hb dX9_append_31 rfl ?_
  refine z_get C G clX9 0 rfl 1 (by decide) m_fl_RX9_44 rfl dX9_append_32 ?_
  refine lv_iconst (v := 1) hx hb dX9_append_35 (by decide) ?_
  refine lv_iadd hx hb dX9_append_36 ?_
  refine lv_topi (fun y_16 ey_16 => ?_)
  obtain rfl : y_16 = nI ((p0 + 1) + 1) := ey_16.trans (z_iaddn (p0 + 1) 1 rfl rfl)
  refine z_put C G clX9 0 rfl 1 (by decide) m_fl_RX9_44 rfl rfl rfl (Nat.le_of_ble_eq_true rfl) dX9_append_37 (fun H locs G => ?_)
  have G : zS T A s.heap s [[zO8 t a1_1 (nI ((p0 + 1) + 1)) fl pl a2_2 a3_3 a4_4 a5_5], [zAr T 1 a1_1 600 (upd (upd ft p0 (vp_nar .byte ((x >>> (24 &&& 31)).toInt8.toInt32))) (p0 + 1) (vp_nar .byte ((x >>> (16 &&& 31)).toInt8.toInt32)))], [zAr T 0 a2_2 3 fk], [zArq T 3 a3_3 2 q1_6], [zArq T 4 a4_4 2 q2_7], [zArq T 5 a5_5 2 q3_8]] _ _ := G
  refine lv_iinc (v := 8) (lv' := [(2, .int 8), (0, .ref t), (1, .int x)]) hx hb dX9_append_40 hl (k := 0) rfl (by decide) (by decide) (zLvf_h rfl) (fun ls hl => ?_)
  refine lv_goto (tgt := 3) hx hb dX9_append_43 (by decide) ?_
  refine lv_iload_n hx hb dX9_append_3 rfl (lv_at hl 0 rfl) ?_
  refine lv_if_lt (tgt := 46) hx hb dX9_append_4 (by decide) (fun q => absurd q (by decide)) (fun _ => ?_)
  refine lv_aload_n hx hb dX9_append_7 rfl (lv_at hl 1 rfl) ?_
  refine z_get C G clX9 0 rfl 1 (by decide) m_fl_RX9_44 rfl dX9_append_8 ?_
  refine lv_sipush (v := 600) hx hb dX9_append_11 (by decide) ?_
  refine lv_icmp_ge (tgt := 40) hx hb dX9_append_14 (by decide) (fun q => absurd q (fun q2 => absurd ((nI_leI (a := 600) (b := (p0 + 1) + 1) (by omega) (by omega)).mp q2) (by omega))) (fun _ => ?_)
  refine lv_aload_n hx hb dX9_append_17 rfl (lv_at hl 1 rfl) ?_
  refine z_get C G clX9 0 rfl 0 (by decide) m_fl_RX9_9 rfl dX9_append_18 ?_
  refine lv_aload_n hx hb dX9_append_21 rfl (lv_at hl 1 rfl) ?_
  refine z_get C G clX9 0 rfl 1 (by decide) m_fl_RX9_44 rfl dX9_append_22 ?_
  refine lv_iload_n hx hb dX9_append_25 rfl (lv_at hl 2 rfl) ?_
  refine lv_iload_n hx hb dX9_append_26 rfl (lv_at hl 0 rfl) ?_
  refine lv_ishr hx hb dX9_append_27 ?_
  refine lv_i2b hx hb dX9_append_28 rfl ?_
  refine z_bst C G 1 rfl (vp_in_nI (by omega) (by decide)) dX9_append_29 (fun H locs G => ?_)
  rw [nI_clamp (by omega)] at G
  have G : zS T A s.heap s [[zO8 t a1_1 (nI ((p0 + 1) + 1)) fl pl a2_2 a3_3 a4_4 a5_5], [zAr T 1 a1_1 600 (upd (upd (upd ft p0 (vp_nar .byte ((x >>> (24 &&& 31)).toInt8.toInt32))) (p0 + 1) (vp_nar .byte ((x >>> (16 &&& 31)).toInt8.toInt32))) ((p0 + 1) + 1) (vp_nar .byte ((x >>> (8 &&& 31)).toInt8.toInt32)))], [zAr T 0 a2_2 3 fk], [zArq T 3 a3_3 2 q1_6], [zArq T 4 a4_4 2 q2_7], [zArq T 5 a5_5 2 q3_8]] _ _ := G
  refine lv_aload_n hx hb dX9_append_30 rfl (lv_at hl 1 rfl) ?_
  refine lv_dup hx hb dX9_append_31 rfl ?_
  refine z_get C G clX9 0 rfl 1 (by decide) m_fl_RX9_44 rfl dX9_append_32 ?_
  refine lv_iconst (v := 1) hx hb dX9_append_35 (by decide) ?_
  refine lv_iadd hx hb dX9_append_36 ?_
  refine lv_topi (fun y_17 ey_17 => ?_)
  obtain rfl : y_17 = nI (((p0 + 1) + 1) + 1) := ey_17.trans (z_iaddn ((p0 + 1) + 1) 1 rfl rfl)
  refine z_put C G clX9 0 rfl 1 (by decide) m_fl_RX9_44 rfl rfl rfl (Nat.le_of_ble_eq_true rfl) dX9_append_37 (fun H locs G => ?_)
  have G : zS T A s.heap s [[zO8 t a1_1 (nI (((p0 + 1) + 1) + 1)) fl pl a2_2 a3_3 a4_4 a5_5], [zAr T 1 a1_1 600 (upd (upd (upd ft p0 (vp_nar .byte ((x >>> (24 &&& 31)).toInt8.toInt32))) (p0 + 1) (vp_nar .byte ((x >>> (16 &&& 31)).toInt8.toInt32))) ((p0 + 1) + 1) (vp_nar .byte ((x >>> (8 &&& 31)).toInt8.toInt32)))], [zAr T 0 a2_2 3 fk], [zArq T 3 a3_3 2 q1_6], [zArq T 4 a4_4 2 q2_7], [zArq T 5 a5_5 2 q3_8]] _ _ := G
  refine lv_iinc (v := 0) (lv' := [(2, .int 0), (0, .ref t), (1, .int x)]) hx hb dX9_append_40 hl (k := 0) rfl (by decide) (by decide) (zLvf_h rfl) (fun ls hl => ?_)
  refine lv_goto (tgt := 3) hx hb dX9_append_43 (by decide) ?_
  refine lv_iload_n hx hb dX9_append_3 rfl (lv_at hl 0 rfl) ?_
  refine lv_if_lt (tgt := 46) hx hb dX9_append_4 (by decide) (fun q => absurd q (by decide)) (fun _ => ?_)
  refine lv_aload_n hx hb dX9_append_7 rfl (lv_at hl 1 rfl) ?_
  refine z_get C G clX9 0 rfl 1 (by decide) m_fl_RX9_44 rfl dX9_append_8 ?_
  refine lv_sipush (v := 600) hx hb dX9_append_11 (by decide) ?_
  refine lv_icmp_ge (tgt := 40) hx hb dX9_append_14 (by decide) (fun q => absurd q (fun q2 => absurd ((nI_leI (a := 600) (b := ((p0 + 1) + 1) + 1) (by omega) (by omega)).mp q2) (by omega))) (fun _ => ?_)
  refine lv_aload_n hx hb dX9_append_17 rfl (lv_at hl 1 rfl) ?_
  refine z_get C G clX9 0 rfl 0 (by decide) m_fl_RX9_9 rfl dX9_append_18 ?_
  refine lv_aload_n hx hb dX9_append_21 rfl (lv_at hl 1 rfl) ?_
  refine z_get C G clX9 0 rfl 1 (by decide) m_fl_RX9_44 rfl dX9_append_22 ?_
  refine lv_iload_n hx hb dX9_append_25 rfl (lv_at hl 2 rfl) ?_
  refine lv_iload_n hx hb dX9_append_26 rfl (lv_at hl 0 rfl) ?_
  refine lv_ishr hx hb dX9_append_27 ?_
  refine lv_i2b hx hb dX9_append_28 rfl ?_
  refine z_bst C G 1 rfl (vp_in_nI (by omega) (by decide)) dX9_append_29 (fun H locs G => ?_)
  rw [nI_clamp (by omega)] at G
  have G : zS T A s.heap s [[zO8 t a1_1 (nI (((p0 + 1) + 1) + 1)) fl pl a2_2 a3_3 a4_4 a5_5], [zAr T 1 a1_1 600 (upd (upd (upd (upd ft p0 (vp_nar .byte ((x >>> (24 &&& 31)).toInt8.toInt32))) (p0 + 1) (vp_nar .byte ((x >>> (16 &&& 31)).toInt8.toInt32))) ((p0 + 1) + 1) (vp_nar .byte ((x >>> (8 &&& 31)).toInt8.toInt32))) (((p0 + 1) + 1) + 1) (vp_nar .byte ((x >>> (0 &&& 31)).toInt8.toInt32)))], [zAr T 0 a2_2 3 fk], [zArq T 3 a3_3 2 q1_6], [zArq T 4 a4_4 2 q2_7], [zArq T 5 a5_5 2 q3_8]] _ _ := G
  refine lv_aload_n hx hb dX9_append_30 rfl (lv_at hl 1 rfl) ?_
  refine lv_dup hx hb dX9_append_31 rfl ?_
  refine z_get C G clX9 0 rfl 1 (by decide) m_fl_RX9_44 rfl dX9_append_32 ?_
  refine lv_iconst (v := 1) hx hb dX9_append_35 (by decide) ?_
  refine lv_iadd hx hb dX9_append_36 ?_
  refine lv_topi (fun y_18 ey_18 => ?_)
  obtain rfl : y_18 = nI ((((p0 + 1) + 1) + 1) + 1) := ey_18.trans (z_iaddn (((p0 + 1) + 1) + 1) 1 rfl rfl)
  refine z_put C G clX9 0 rfl 1 (by decide) m_fl_RX9_44 rfl rfl rfl (Nat.le_of_ble_eq_true rfl) dX9_append_37 (fun H locs G => ?_)
  have G : zS T A s.heap s [[zO8 t a1_1 (nI ((((p0 + 1) + 1) + 1) + 1)) fl pl a2_2 a3_3 a4_4 a5_5], [zAr T 1 a1_1 600 (upd (upd (upd (upd ft p0 (vp_nar .byte ((x >>> (24 &&& 31)).toInt8.toInt32))) (p0 + 1) (vp_nar .byte ((x >>> (16 &&& 31)).toInt8.toInt32))) ((p0 + 1) + 1) (vp_nar .byte ((x >>> (8 &&& 31)).toInt8.toInt32))) (((p0 + 1) + 1) + 1) (vp_nar .byte ((x >>> (0 &&& 31)).toInt8.toInt32)))], [zAr T 0 a2_2 3 fk], [zArq T 3 a3_3 2 q1_6], [zArq T 4 a4_4 2 q2_7], [zArq T 5 a5_5 2 q3_8]] _ _ := G
  refine lv_iinc (v := (-8)) (lv' := [(2, .int (-8)), (0, .ref t), (1, .int x)]) hx hb dX9_append_40 hl (k := 0) rfl (by decide) (by decide) (zLvf_h rfl) (fun ls hl => ?_)
  refine lv_goto (tgt := 3) hx hb dX9_append_43 (by decide) ?_
  refine lv_iload_n hx hb dX9_append_3 rfl (lv_at hl 0 rfl) ?_
  refine lv_if_lt (tgt := 46) hx hb dX9_append_4 (by decide) (fun _ => ?_) (fun q => absurd (by decide) q)
  have hw_19 : bTold T t l0 l1 d0 d1 g0 g1 (nI ((((p0 + 1) + 1) + 1) + 1)) fl pl (upd (upd (upd (upd ft p0 (vp_nar .byte ((x >>> (24 &&& 31)).toInt8.toInt32))) (p0 + 1) (vp_nar .byte ((x >>> (16 &&& 31)).toInt8.toInt32))) ((p0 + 1) + 1) (vp_nar .byte ((x >>> (8 &&& 31)).toInt8.toInt32))) (((p0 + 1) + 1) + 1) (vp_nar .byte ((x >>> (0 &&& 31)).toInt8.toInt32))) fk [zO8 t a1_1 (nI ((((p0 + 1) + 1) + 1) + 1)) fl pl a2_2 a3_3 a4_4 a5_5, zAr T 1 a1_1 600 (upd (upd (upd (upd ft p0 (vp_nar .byte ((x >>> (24 &&& 31)).toInt8.toInt32))) (p0 + 1) (vp_nar .byte ((x >>> (16 &&& 31)).toInt8.toInt32))) ((p0 + 1) + 1) (vp_nar .byte ((x >>> (8 &&& 31)).toInt8.toInt32))) (((p0 + 1) + 1) + 1) (vp_nar .byte ((x >>> (0 &&& 31)).toInt8.toInt32))), zAr T 0 a2_2 3 fk, zArq T 3 a3_3 2 q1_6, zArq T 4 a4_4 2 q2_7, zArq T 5 a5_5 2 q3_8] := ⟨a1_1, a2_2, a3_3, a4_4, a5_5, q1_6, q2_7, q3_8, rfl, h_9, h_10, h_11, h_12, h_13, h_14⟩
  have G : zS T A s.heap s [[zO8 t a1_1 (nI ((((p0 + 1) + 1) + 1) + 1)) fl pl a2_2 a3_3 a4_4 a5_5, zAr T 1 a1_1 600 (upd (upd (upd (upd ft p0 (vp_nar .byte ((x >>> (24 &&& 31)).toInt8.toInt32))) (p0 + 1) (vp_nar .byte ((x >>> (16 &&& 31)).toInt8.toInt32))) ((p0 + 1) + 1) (vp_nar .byte ((x >>> (8 &&& 31)).toInt8.toInt32))) (((p0 + 1) + 1) + 1) (vp_nar .byte ((x >>> (0 &&& 31)).toInt8.toInt32))), zAr T 0 a2_2 3 fk, zArq T 3 a3_3 2 q1_6, zArq T 4 a4_4 2 q2_7, zArq T 5 a5_5 2 q3_8]] _ _ := G.re rfl
  exact z_back hQz_ (z_vret C hr hlocks G (Nat.le_of_ble_eq_true rfl) (Nat.le_of_ble_eq_true rfl) dX9_append_46 ⟨([zO8 t a1_1 (nI ((((p0 + 1) + 1) + 1) + 1)) fl pl a2_2 a3_3 a4_4 a5_5, zAr T 1 a1_1 600 (upd (upd (upd (upd ft p0 (vp_nar .byte ((x >>> (24 &&& 31)).toInt8.toInt32))) (p0 + 1) (vp_nar .byte ((x >>> (16 &&& 31)).toInt8.toInt32))) ((p0 + 1) + 1) (vp_nar .byte ((x >>> (8 &&& 31)).toInt8.toInt32))) (((p0 + 1) + 1) + 1) (vp_nar .byte ((x >>> (0 &&& 31)).toInt8.toInt32))), zAr T 0 a2_2 3 fk, zArq T 3 a3_3 2 q1_6, zArq T 4 a4_4 2 q2_7, zArq T 5 a5_5 2 q3_8]), (nI ((((p0 + 1) + 1) + 1) + 1)), (upd (upd (upd (upd ft p0 (vp_nar .byte ((x >>> (24 &&& 31)).toInt8.toInt32))) (p0 + 1) (vp_nar .byte ((x >>> (16 &&& 31)).toInt8.toInt32))) ((p0 + 1) + 1) (vp_nar .byte ((x >>> (8 &&& 31)).toInt8.toInt32))) (((p0 + 1) + 1) + 1) (vp_nar .byte ((x >>> (0 &&& 31)).toInt8.toInt32))), rfl, hw_19, rfl, (by unfold zApp zB8; rw [pk_vb, pk_vb, pk_vb, pk_vb])⟩)
set_option maxHeartbeats 4000000 in
set_option maxRecDepth 100000 in
/-- feed -/
theorem c_f_feed (l : Launch) (T : zTy) (xo : Nat) (t : Nat) (im : Nat) (mk : Nat) (rd : Nat) (po : Nat) (co : Nat) (tr : Nat) (wa : Nat) (wb_ : Nat) (fi : Nat) (cd : Nat) (l0 : Nat) (l1 : Nat) (d0 : Nat) (d1 : Nat) (g0 : Nat) (g1 : Nat) (ln : Int32) (fl : Int32) (pl : Int32) (ft : Nat → Int32) (fk : Nat → Int32) (wt : va_W) (i1 : Int32) (i2 : Int32) (i3 : Int32) (i4 : Int32) (i5 : Int32) (p0 : Nat) (ht : bTold T t l0 l1 d0 d1 g0 g1 ln fl pl ft fk wt) (hK : zKT fk) (hp : ln = nI p0) (hp6 : p0 ≤ 600) : zMi l T yX11_feed cX11_feed 6 (some .int) 2 0 0 [.ref xo, .int i1, .int i2, .int i3, .int i4, .int i5] [[zO10 xo t im mk rd po co tr wa wb_ fi cd], wt] (fun (r : Int32) bs => ∃ (wt_2 : va_W) (u : Int32) (g : Nat → Int32), bs = [[zO10 xo t im mk rd po co tr wa wb_ fi cd], wt_2] ∧ bTold T t l0 l1 d0 d1 g0 g1 u fl pl g fk wt_2 ∧ (580 < p0 ∧ r = -1 ∧ u = nI p0 ∧ g = ft ∨ p0 ≤ 580 ∧ r = nI (p0 + 20) ∧ u = nI (p0 + 20) ∧ g = zFeedC p0 i1 i2 i3 i4 i5 ft)) := by
  refine zMi_of (own := RX11) (by decide) rfl (Nat.le_of_ble_eq_true rfl) ?_
  intro p e s m args below meth c A ls C hr hlocks hnm hAe G hl
  refine zHide (fun Qz_ hQz_ => ?_)
  have hx := C.1
  have hb := C.2.1
  have hl : lv_has ls 6 [(0, .ref xo), (1, .int i1), (2, .int i2), (3, .int i3), (4, .int i4), (5, .int i5)] := hl
  subst hp
  refine lv_aload_n hx hb dX11_feed_0 rfl (lv_at hl 0 rfl) ?_
  refine z_get C G clX11 0 rfl 0 (by decide) m_fl_RX11_10 rfl dX11_feed_1 ?_
  refine zEx8 ht ?_
  intro a1_1 a2_2 a3_3 a4_4 a5_5 q1_6 q2_7 q3_8
  refine zCu7 ?_
  intro hbs9 h_9 h_10 h_11 h_12 h_13 h_14
  clear ht
  subst hbs9
  have G : zS T A s.heap s [[zO10 xo t im mk rd po co tr wa wb_ fi cd], [zO8 t a1_1 (nI p0) fl pl a2_2 a3_3 a4_4 a5_5], [zAr T 1 a1_1 600 ft], [zAr T 0 a2_2 3 fk], [zArq T 3 a3_3 2 q1_6], [zArq T 4 a4_4 2 q2_7], [zArq T 5 a5_5 2 q3_8]] _ _ := G.re rfl
  refine z_get C G clX9 1 rfl 1 (by decide) m_fl_RX11_73 rfl dX11_feed_4 ?_
  refine lv_bipush (v := 20) hx hb dX11_feed_7 (by decide) ?_
  refine lv_iadd hx hb dX11_feed_9 ?_
  refine lv_topi (fun y_15 ey_15 => ?_)
  obtain rfl : y_15 = nI (p0 + 20) := ey_15.trans (z_iaddn p0 20 rfl rfl)
  refine lv_sipush (v := 600) hx hb dX11_feed_10 (by decide) ?_
  refine lv_icmp_le (tgt := 18) hx hb dX11_feed_13 (by decide) (fun c_16 => ?_) (fun c_16 => ?_)
  · have c_16n : p0 + 20 ≤ 600 := (nI_leI (a := p0 + 20) (b := 600) (by omega) (by omega)).mp c_16
    refine lv_aload_n hx hb dX11_feed_18 rfl (lv_at hl 0 rfl) ?_
    refine z_get C G clX11 0 rfl 0 (by decide) m_fl_RX11_10 rfl dX11_feed_19 ?_
    refine lv_iload_n hx hb dX11_feed_22 rfl (lv_at hl 1 rfl) ?_
    have hw_17 : bTold T t l0 l1 d0 d1 g0 g1 (nI p0) fl pl ft fk [zO8 t a1_1 (nI p0) fl pl a2_2 a3_3 a4_4 a5_5, zAr T 1 a1_1 600 ft, zAr T 0 a2_2 3 fk, zArq T 3 a3_3 2 q1_6, zArq T 4 a4_4 2 q2_7, zArq T 5 a5_5 2 q3_8] := ⟨a1_1, a2_2, a3_3, a4_4, a5_5, q1_6, q2_7, q3_8, rfl, h_9, h_10, h_11, h_12, h_13, h_14⟩
    have G : zS T A s.heap s [[zO10 xo t im mk rd po co tr wa wb_ fi cd], [zO8 t a1_1 (nI p0) fl pl a2_2 a3_3 a4_4 a5_5, zAr T 1 a1_1 600 ft, zAr T 0 a2_2 3 fk, zArq T 3 a3_3 2 q1_6, zArq T 4 a4_4 2 q2_7, zArq T 5 a5_5 2 q3_8]] _ _ := G.re rfl
    refine z_Vv (bc := [[zO8 t a1_1 (nI p0) fl pl a2_2 a3_3 a4_4 a5_5, zAr T 1 a1_1 600 ft, zAr T 0 a2_2 3 fk, zArq T 3 a3_3 2 q1_6, zArq T 4 a4_4 2 q2_7, zArq T 5 a5_5 2 q3_8]]) (br := [[zO10 xo t im mk rd po co tr wa wb_ fi cd]]) (As := [.int i1]) (rest := []) C G (c_f_append l T t l0 l1 d0 d1 g0 g1 (nI p0) fl pl ft fk ([zO8 t a1_1 (nI p0) fl pl a2_2 a3_3 a4_4 a5_5, zAr T 1 a1_1 600 ft, zAr T 0 a2_2 3 fk, zArq T 3 a3_3 2 q1_6, zArq T 4 a4_4 2 q2_7, zArq T 5 a5_5 2 q3_8]) i1 p0 hw_17 rfl (by omega)) (kV_RX11_77 C.2.2.2.2 (Nat.le_of_ble_eq_true rfl) (Nat.le_of_ble_eq_true rfl)) [1] [1] rfl rfl (ci := 8) (qc := (RX9, TX9, 8)) rfl rfl (List.mem_flatten.mpr ⟨_, List.mem_of_getElem? (i := 0) rfl, (bTold_mem hw_17).choose_spec⟩) rfl rfl hl.1 dX11_feed_23 (Nat.le_of_ble_eq_true rfl) (Nat.le_of_ble_eq_true rfl) (fun b1 H locs hw G => ?_)
    refine zEx3 hw ?_
    intro wt2_18 u_19 g_20
    refine zCu4 ?_
    intro hbs9 h_21 h_22 h_23
    clear hw
    subst hbs9
    have G : zS T A s.heap s [[zO10 xo t im mk rd po co tr wa wb_ fi cd], wt2_18] _ _ := G
    subst h_22
    refine lv_aload_n hx hb dX11_feed_26 rfl (lv_at hl 0 rfl) ?_
    refine z_get C G clX11 0 rfl 0 (by decide) m_fl_RX11_10 rfl dX11_feed_27 ?_
    refine lv_iload_n hx hb dX11_feed_30 rfl (lv_at hl 2 rfl) ?_
    refine z_Vv (bc := [wt2_18]) (br := [[zO10 xo t im mk rd po co tr wa wb_ fi cd]]) (As := [.int i2]) (rest := []) C G (c_f_append l T t l0 l1 d0 d1 g0 g1 (nI (p0 + 4)) fl pl g_20 fk wt2_18 i2 (p0 + 4) h_21 rfl (by omega)) (kV_RX11_77 C.2.2.2.2 (Nat.le_of_ble_eq_true rfl) (Nat.le_of_ble_eq_true rfl)) [1] [1] rfl rfl (ci := 8) (qc := (RX9, TX9, 8)) rfl rfl (List.mem_flatten.mpr ⟨_, List.mem_of_getElem? (i := 0) rfl, (bTold_mem h_21).choose_spec⟩) rfl rfl hl.1 dX11_feed_31 (Nat.le_of_ble_eq_true rfl) (Nat.le_of_ble_eq_true rfl) (fun b1 H locs hw G => ?_)
    refine zEx3 hw ?_
    intro wt2_25 u_26 g_27
    refine zCu4 ?_
    intro hbs9 h_28 h_29 h_30
    clear hw
    subst hbs9
    have G : zS T A s.heap s [[zO10 xo t im mk rd po co tr wa wb_ fi cd], wt2_25] _ _ := G
    subst h_29
    refine lv_aload_n hx hb dX11_feed_34 rfl (lv_at hl 0 rfl) ?_
    refine z_get C G clX11 0 rfl 0 (by decide) m_fl_RX11_10 rfl dX11_feed_35 ?_
    refine lv_iload_n hx hb dX11_feed_38 rfl (lv_at hl 3 rfl) ?_
    refine z_Vv (bc := [wt2_25]) (br := [[zO10 xo t im mk rd po co tr wa wb_ fi cd]]) (As := [.int i3]) (rest := []) C G (c_f_append l T t l0 l1 d0 d1 g0 g1 (nI (p0 + 4 + 4)) fl pl g_27 fk wt2_25 i3 ((p0 + 4) + 4) h_28 rfl (by omega)) (kV_RX11_77 C.2.2.2.2 (Nat.le_of_ble_eq_true rfl) (Nat.le_of_ble_eq_true rfl)) [1] [1] rfl rfl (ci := 8) (qc := (RX9, TX9, 8)) rfl rfl (List.mem_flatten.mpr ⟨_, List.mem_of_getElem? (i := 0) rfl, (bTold_mem h_28).choose_spec⟩) rfl rfl hl.1 dX11_feed_39 (Nat.le_of_ble_eq_true rfl) (Nat.le_of_ble_eq_true rfl) (fun b1 H locs hw G => ?_)
    refine zEx3 hw ?_
    intro wt2_32 u_33 g_34
    refine zCu4 ?_
    intro hbs9 h_35 h_36 h_37
    clear hw
    subst hbs9
    have G : zS T A s.heap s [[zO10 xo t im mk rd po co tr wa wb_ fi cd], wt2_32] _ _ := G
    subst h_36
    refine lv_aload_n hx hb dX11_feed_42 rfl (lv_at hl 0 rfl) ?_
    refine z_get C G clX11 0 rfl 0 (by decide) m_fl_RX11_10 rfl dX11_feed_43 ?_
    refine lv_iload hx hb dX11_feed_46 (lv_at hl 4 rfl) ?_
    refine z_Vv (bc := [wt2_32]) (br := [[zO10 xo t im mk rd po co tr wa wb_ fi cd]]) (As := [.int i4]) (rest := []) C G (c_f_append l T t l0 l1 d0 d1 g0 g1 (nI ((p0 + 4) + 4 + 4)) fl pl g_34 fk wt2_32 i4 (((p0 + 4) + 4) + 4) h_35 rfl (by omega)) (kV_RX11_77 C.2.2.2.2 (Nat.le_of_ble_eq_true rfl) (Nat.le_of_ble_eq_true rfl)) [1] [1] rfl rfl (ci := 8) (qc := (RX9, TX9, 8)) rfl rfl (List.mem_flatten.mpr ⟨_, List.mem_of_getElem? (i := 0) rfl, (bTold_mem h_35).choose_spec⟩) rfl rfl hl.1 dX11_feed_48 (Nat.le_of_ble_eq_true rfl) (Nat.le_of_ble_eq_true rfl) (fun b1 H locs hw G => ?_)
    refine zEx3 hw ?_
    intro wt2_39 u_40 g_41
    refine zCu4 ?_
    intro hbs9 h_42 h_43 h_44
    clear hw
    subst hbs9
    have G : zS T A s.heap s [[zO10 xo t im mk rd po co tr wa wb_ fi cd], wt2_39] _ _ := G
    subst h_43
    refine lv_aload_n hx hb dX11_feed_51 rfl (lv_at hl 0 rfl) ?_
    refine z_get C G clX11 0 rfl 0 (by decide) m_fl_RX11_10 rfl dX11_feed_52 ?_
    refine lv_iload hx hb dX11_feed_55 (lv_at hl 5 rfl) ?_
    refine z_Vv (bc := [wt2_39]) (br := [[zO10 xo t im mk rd po co tr wa wb_ fi cd]]) (As := [.int i5]) (rest := []) C G (c_f_append l T t l0 l1 d0 d1 g0 g1 (nI (((p0 + 4) + 4) + 4 + 4)) fl pl g_41 fk wt2_39 i5 ((((p0 + 4) + 4) + 4) + 4) h_42 rfl (by omega)) (kV_RX11_77 C.2.2.2.2 (Nat.le_of_ble_eq_true rfl) (Nat.le_of_ble_eq_true rfl)) [1] [1] rfl rfl (ci := 8) (qc := (RX9, TX9, 8)) rfl rfl (List.mem_flatten.mpr ⟨_, List.mem_of_getElem? (i := 0) rfl, (bTold_mem h_42).choose_spec⟩) rfl rfl hl.1 dX11_feed_57 (Nat.le_of_ble_eq_true rfl) (Nat.le_of_ble_eq_true rfl) (fun b1 H locs hw G => ?_)
    refine zEx3 hw ?_
    intro wt2_46 u_47 g_48
    refine zCu4 ?_
    intro hbs9 h_49 h_50 h_51
    clear hw
    subst hbs9
    have G : zS T A s.heap s [[zO10 xo t im mk rd po co tr wa wb_ fi cd], wt2_46] _ _ := G
    subst h_50
    refine lv_aload_n hx hb dX11_feed_60 rfl (lv_at hl 0 rfl) ?_
    refine z_get C G clX11 0 rfl 0 (by decide) m_fl_RX11_10 rfl dX11_feed_61 ?_
    refine zEx8 h_49 ?_
    intro a1_53 a2_54 a3_55 a4_56 a5_57 q1_58 q2_59 q3_60
    refine zCu7 ?_
    intro hbs9 h_61 h_62 h_63 h_64 h_65 h_66
    clear h_49
    subst hbs9
    have G : zS T A s.heap s [[zO10 xo t im mk rd po co tr wa wb_ fi cd], [zO8 t a1_53 (nI ((((p0 + 4) + 4) + 4) + 4 + 4)) fl pl a2_54 a3_55 a4_56 a5_57], [zAr T 1 a1_53 600 g_48], [zAr T 0 a2_54 3 fk], [zArq T 3 a3_55 2 q1_58], [zArq T 4 a4_56 2 q2_59], [zArq T 5 a5_57 2 q3_60]] _ _ := G.re rfl
    refine z_get C G clX9 1 rfl 1 (by decide) m_fl_RX11_73 rfl dX11_feed_64 ?_
    have hw_67 : bTold T t l0 l1 d0 d1 g0 g1 (nI ((((p0 + 4) + 4) + 4) + 4 + 4)) fl pl g_48 fk [zO8 t a1_53 (nI ((((p0 + 4) + 4) + 4) + 4 + 4)) fl pl a2_54 a3_55 a4_56 a5_57, zAr T 1 a1_53 600 g_48, zAr T 0 a2_54 3 fk, zArq T 3 a3_55 2 q1_58, zArq T 4 a4_56 2 q2_59, zArq T 5 a5_57 2 q3_60] := ⟨a1_53, a2_54, a3_55, a4_56, a5_57, q1_58, q2_59, q3_60, rfl, h_61, h_62, h_63, h_64, h_65, h_66⟩
    have G : zS T A s.heap s [[zO10 xo t im mk rd po co tr wa wb_ fi cd], [zO8 t a1_53 (nI ((((p0 + 4) + 4) + 4) + 4 + 4)) fl pl a2_54 a3_55 a4_56 a5_57, zAr T 1 a1_53 600 g_48, zAr T 0 a2_54 3 fk, zArq T 3 a3_55 2 q1_58, zArq T 4 a4_56 2 q2_59, zArq T 5 a5_57 2 q3_60]] _ _ := G.re rfl
    exact z_back hQz_ (z_iret C hr hlocks G (Nat.le_of_ble_eq_true rfl) (Nat.le_of_ble_eq_true rfl) dX11_feed_67 ⟨([zO8 t a1_53 (nI ((((p0 + 4) + 4) + 4) + 4 + 4)) fl pl a2_54 a3_55 a4_56 a5_57, zAr T 1 a1_53 600 g_48, zAr T 0 a2_54 3 fk, zArq T 3 a3_55 2 q1_58, zArq T 4 a4_56 2 q2_59, zArq T 5 a5_57 2 q3_60]), (nI ((((p0 + 4) + 4) + 4) + 4 + 4)), g_48, rfl, hw_67, (Or.inr ⟨by omega, rfl, rfl, by unfold zFeedC; rw [h_51, h_44, h_37, h_30, h_23]⟩)⟩)
  · have c_16n : ¬ p0 + 20 ≤ 600 := fun q => c_16 ((nI_leI (a := p0 + 20) (b := 600) (by omega) (by omega)).mpr q)
    refine lv_iconst (v := (-1)) hx hb dX11_feed_16 (by decide) ?_
    have hw_68 : bTold T t l0 l1 d0 d1 g0 g1 (nI p0) fl pl ft fk [zO8 t a1_1 (nI p0) fl pl a2_2 a3_3 a4_4 a5_5, zAr T 1 a1_1 600 ft, zAr T 0 a2_2 3 fk, zArq T 3 a3_3 2 q1_6, zArq T 4 a4_4 2 q2_7, zArq T 5 a5_5 2 q3_8] := ⟨a1_1, a2_2, a3_3, a4_4, a5_5, q1_6, q2_7, q3_8, rfl, h_9, h_10, h_11, h_12, h_13, h_14⟩
    have G : zS T A s.heap s [[zO10 xo t im mk rd po co tr wa wb_ fi cd], [zO8 t a1_1 (nI p0) fl pl a2_2 a3_3 a4_4 a5_5, zAr T 1 a1_1 600 ft, zAr T 0 a2_2 3 fk, zArq T 3 a3_3 2 q1_6, zArq T 4 a4_4 2 q2_7, zArq T 5 a5_5 2 q3_8]] _ _ := G.re rfl
    exact z_back hQz_ (z_iret C hr hlocks G (Nat.le_of_ble_eq_true rfl) (Nat.le_of_ble_eq_true rfl) dX11_feed_17 ⟨([zO8 t a1_1 (nI p0) fl pl a2_2 a3_3 a4_4 a5_5, zAr T 1 a1_1 600 ft, zAr T 0 a2_2 3 fk, zArq T 3 a3_3 2 q1_6, zArq T 4 a4_4 2 q2_7, zArq T 5 a5_5 2 q3_8]), (nI p0), ft, rfl, hw_68, (Or.inl ⟨by omega, rfl, rfl, rfl⟩)⟩)
set_option maxHeartbeats 4000000 in
set_option maxRecDepth 100000 in
/-- c_fm_feed -/
theorem c_fm_feed (l : Launch) (T : zTy) (mo : Nat) (m_all : Nat) (m_has : Nat) (i_size : Int32) (i_next : Int32) (i_where : Int32) (i_token : Int32) (i_number : Int32) (i_word : Int32) (i_wrong : Int32) (i_farCrossing : Int32) (m_read : Nat) (i_z0 : Int32) (i_crossings : Int32) (i_inns : Int32) (m_posts : Nat) (m_shut : Nat) (m_here : Nat) (i_steps : Int32) (i_done : Int32) (i_at : Int32) (i_gone : Int32) (m_was : Nat) (m_came : Nat) (m_seenAt : Nat) (m_rowWorth : Nat) (m_farBy : Nat) (m_used : Nat) (i_everywhere : Int32) (i_again0 : Int32) (i_d0 : Int32) (i_never : Int32) (i_firstCame : Int32) (i_longRun : Int32) (i_moved : Int32) (i_crowd : Int32) (i_l0 : Int32) (i_fitMany : Int32) (i_fitLeast : Int32) (i_fitMost : Int32) (m_fitPost : Nat) (m_fitEnd : Nat) (m_keptPosts : Nat) (i_x0 : Int32) (f_all : Nat → Int32) (p0 : Nat) (a_ : Int32) (b_ : Int32) (c_ : Int32) (d_ : Int32) (e_ : Int32) (h4 : f_all 4 = nI p0) (hp6 : p0 ≤ 600) : zMi l T yX12_feed cX12_feed 8 (some .int) 1 0 0 [.ref mo, .int a_, .int b_, .int c_, .int d_, .int e_] [[zO11 mo m_all m_has i_size i_next i_where i_token i_number i_word i_wrong i_farCrossing m_read i_z0 i_crossings i_inns m_posts m_shut m_here i_steps i_done i_at i_gone m_was m_came m_seenAt m_rowWorth m_farBy m_used i_everywhere i_again0 i_d0 i_never i_firstCame i_longRun i_moved i_crowd i_l0 i_fitMany i_fitLeast i_fitMost m_fitPost m_fitEnd m_keptPosts i_x0], [zAr T 0 m_all 3952 f_all]] (fun (r : Int32) bs => ∃ (g_all : Nat → Int32), bs = [[zO11 mo m_all m_has i_size i_next i_where i_token i_number i_word i_wrong i_farCrossing m_read i_z0 i_crossings i_inns m_posts m_shut m_here i_steps i_done i_at i_gone m_was m_came m_seenAt m_rowWorth m_farBy m_used i_everywhere i_again0 i_d0 i_never i_firstCame i_longRun i_moved i_crowd i_l0 i_fitMany i_fitLeast i_fitMost m_fitPost m_fitEnd m_keptPosts i_x0], [zAr T 0 m_all 3952 g_all]] ∧ (580 < p0 ∧ r = -1 ∧ g_all = f_all ∨ p0 ≤ 580 ∧ r = nI (p0 + 20) ∧ zFeedR p0 a_ b_ c_ d_ e_ f_all g_all)) := by
  refine zMi_of (own := RX12) (by decide) rfl (Nat.le_of_ble_eq_true rfl) ?_
  intro p e s m args below meth c A ls C hr hlocks hnm hAe G hl
  refine zHide (fun Qz_ hQz_ => ?_)
  have hx := C.1
  have hb := C.2.1
  have hl : lv_has ls 8 [(0, .ref mo), (1, .int a_), (2, .int b_), (3, .int c_), (4, .int d_), (5, .int e_)] := hl
  refine lv_aload_n hx hb dX12_feed_0 rfl (lv_at hl 0 rfl) ?_
  refine z_get C G clX12 0 rfl 0 (by decide) m_fl_RX12_7 rfl dX12_feed_1 ?_
  refine lv_iconst (v := 4) hx hb dX12_feed_4 (by decide) ?_
  refine z_ild C G 1 rfl (vp_in_nI (n := 4) (by decide) (by decide)) dX12_feed_5 ?_
  refine lv_topi (fun v_1 ev_1 => ?_)
  rw [show ((4 : Int32).toNatClampNeg) = 4 from rfl] at ev_1
  subst ev_1
  rw [show f_all 4 = nI p0 from h4]
  refine lv_bipush (v := 20) hx hb dX12_feed_6 (by decide) ?_
  refine lv_iadd hx hb dX12_feed_8 ?_
  refine lv_topi (fun y_2 ey_2 => ?_)
  obtain rfl : y_2 = nI (p0 + 20) := ey_2.trans (z_iaddn p0 20 rfl rfl)
  refine lv_sipush (v := 600) hx hb dX12_feed_9 (by decide) ?_
  refine lv_icmp_le (tgt := 17) hx hb dX12_feed_12 (by decide) (fun c_3 => ?_) (fun c_3 => ?_)
  · have c_3n : p0 + 20 ≤ 600 := (nI_leI (a := p0 + 20) (b := 600) (by omega) (by omega)).mp c_3
    refine lv_iconst (v := 0) hx hb dX12_feed_17 (by decide) ?_
    refine lv_istore (lv' := [(6, .int 0), (0, .ref mo), (1, .int a_), (2, .int b_), (3, .int c_), (4, .int d_), (5, .int e_)]) hx hb dX12_feed_18 hl (by decide) (zLvf_h rfl) (fun ls hl => ?_)
    refine z_lp2 (T := T) 20 (fun (i : Nat) (x : Nat → Int32) => [[zO11 mo m_all m_has i_size i_next i_where i_token i_number i_word i_wrong i_farCrossing m_read i_z0 i_crossings i_inns m_posts m_shut m_here i_steps i_done i_at i_gone m_was m_came m_seenAt m_rowWorth m_farBy m_used i_everywhere i_again0 i_d0 i_never i_firstCame i_longRun i_moved i_crowd i_l0 i_fitMany i_fitLeast i_fitMost m_fitPost m_fitEnd m_keptPosts i_x0], [zAr T 0 m_all 3952 x]]) (fun (i : Nat) (x : Nat → Int32) => [(6, .int (nI i)), (0, .ref mo), (1, .int a_), (2, .int b_), (3, .int c_), (4, .int d_), (5, .int e_)]) (fun (i : Nat) (x : Nat → Int32) => i ≤ 20 ∧ x 4 = nI (p0 + i) ∧ (∀ j, j < i → x (10 + (p0 + j)) = pB a_ b_ c_ d_ e_ j &&& 255) ∧ (∀ j, (j < 10 + p0 ∨ 10 + p0 + i ≤ j) → ¬ j = 4 → x j = f_all j)) (fun (i : Nat) (x : Nat → Int32) => 20 - i) ?_ 0 f_all (show 0 ≤ 20 ∧ f_all 4 = nI (p0 + 0) ∧ (∀ j, j < 0 → f_all (10 + (p0 + j)) = pB a_ b_ c_ d_ e_ j &&& 255) ∧ (∀ j, (j < 10 + p0 ∨ 10 + p0 + 0 ≤ j) → ¬ j = 4 → f_all j = f_all j) from ⟨by omega, h4, (fun j hj => absurd hj (Nat.not_lt_zero _)), (fun j _ _ => rfl)⟩) G (lv_sub hl [0, 1, 2, 3, 4, 5, 6] rfl)
    intro i x hI9 ih_20 H locs ls G hl
    replace hI9 : i ≤ 20 ∧ x 4 = nI (p0 + i) ∧ (∀ j, j < i → x (10 + (p0 + j)) = pB a_ b_ c_ d_ e_ j &&& 255) ∧ (∀ j, (j < 10 + p0 ∨ 10 + p0 + i ≤ j) → ¬ j = 4 → x j = f_all j) := hI9
    refine zAn4 hI9 ?_
    intro hi hx4 hS hO
    clear hI9
    replace G : zS T A s.heap s [[zO11 mo m_all m_has i_size i_next i_where i_token i_number i_word i_wrong i_farCrossing m_read i_z0 i_crossings i_inns m_posts m_shut m_here i_steps i_done i_at i_gone m_was m_came m_seenAt m_rowWorth m_farBy m_used i_everywhere i_again0 i_d0 i_never i_firstCame i_longRun i_moved i_crowd i_l0 i_fitMany i_fitLeast i_fitMost m_fitPost m_fitEnd m_keptPosts i_x0], [zAr T 0 m_all 3952 x]] _ _ := G
    replace hl : lv_has ls 8 [(6, .int (nI i)), (0, .ref mo), (1, .int a_), (2, .int b_), (3, .int c_), (4, .int d_), (5, .int e_)] := hl
    refine lv_iload hx hb dX12_feed_20 (lv_at hl 0 rfl) ?_
    refine lv_bipush (v := 20) hx hb dX12_feed_22 (by decide) ?_
    refine lv_icmp_ge (tgt := 122) hx hb dX12_feed_24 (by decide) (fun c_4 => ?_) (fun c_4 => ?_)
    · have c_4n : 20 ≤ i := (nI_leI (a := 20) (b := i) (by omega) (by omega)).mp c_4
      refine lv_aload_n hx hb dX12_feed_122 rfl (lv_at hl 1 rfl) ?_
      refine z_get C G clX12 0 rfl 0 (by decide) m_fl_RX12_7 rfl dX12_feed_123 ?_
      refine lv_iconst (v := 4) hx hb dX12_feed_126 (by decide) ?_
      refine z_ild C G 1 rfl (vp_in_nI (n := 4) (by decide) (by decide)) dX12_feed_127 ?_
      refine lv_topi (fun v_5 ev_5 => ?_)
      rw [show ((4 : Int32).toNatClampNeg) = 4 from rfl] at ev_5
      subst ev_5
      exact z_back hQz_ (z_iret C hr hlocks G (Nat.le_of_ble_eq_true rfl) (Nat.le_of_ble_eq_true rfl) dX12_feed_128 ⟨x, rfl, (Or.inr ⟨by omega, (by rw [hx4, show i = 20 by omega]), (by rw [hx4, show i = 20 by omega]), fun j hj => hS j (by omega), fun j h1 h2 => hO j (by omega) h2⟩)⟩)
    · have c_4n : ¬ 20 ≤ i := fun q => c_4 ((nI_leI (a := 20) (b := i) (by omega) (by omega)).mpr q)
      refine lv_iload hx hb dX12_feed_27 (lv_at hl 0 rfl) ?_
      refine lv_iconst (v := 4) hx hb dX12_feed_29 (by decide) ?_
      refine lv_icmp_ge (tgt := 37) hx hb dX12_feed_30 (by decide) (fun c_6 => ?_) (fun c_6 => ?_)
      · have c_6n : 4 ≤ i := (nI_leI (a := 4) (b := i) (by omega) (by omega)).mp c_6
        refine lv_iload hx hb dX12_feed_37 (lv_at hl 0 rfl) ?_
        refine lv_bipush (v := 8) hx hb dX12_feed_39 (by decide) ?_
        refine lv_icmp_ge (tgt := 48) hx hb dX12_feed_41 (by decide) (fun c_7 => ?_) (fun c_7 => ?_)
        · have c_7n : 8 ≤ i := (nI_leI (a := 8) (b := i) (by omega) (by omega)).mp c_7
          refine lv_iload hx hb dX12_feed_48 (lv_at hl 0 rfl) ?_
          refine lv_bipush (v := 12) hx hb dX12_feed_50 (by decide) ?_
          refine lv_icmp_ge (tgt := 59) hx hb dX12_feed_52 (by decide) (fun c_8 => ?_) (fun c_8 => ?_)
          · have c_8n : 12 ≤ i := (nI_leI (a := 12) (b := i) (by omega) (by omega)).mp c_8
            refine lv_iload hx hb dX12_feed_59 (lv_at hl 0 rfl) ?_
            refine lv_bipush (v := 16) hx hb dX12_feed_61 (by decide) ?_
            refine lv_icmp_ge (tgt := 71) hx hb dX12_feed_63 (by decide) (fun c_9 => ?_) (fun c_9 => ?_)
            · have c_9n : 16 ≤ i := (nI_leI (a := 16) (b := i) (by omega) (by omega)).mp c_9
              refine lv_iload hx hb dX12_feed_71 (lv_at hl 6 rfl) ?_
              refine lv_istore (lv' := [(7, .int e_), (6, .int (nI i)), (0, .ref mo), (1, .int a_), (2, .int b_), (3, .int c_), (4, .int d_), (5, .int e_)]) hx hb dX12_feed_73 hl (by decide) (zLvf_h rfl) (fun ls hl => ?_)
              refine lv_aload_n hx hb dX12_feed_75 rfl (lv_at hl 2 rfl) ?_
              refine z_get C G clX12 0 rfl 0 (by decide) m_fl_RX12_7 rfl dX12_feed_76 ?_
              refine lv_bipush (v := 10) hx hb dX12_feed_79 (by decide) ?_
              refine lv_aload_n hx hb dX12_feed_81 rfl (lv_at hl 2 rfl) ?_
              refine z_get C G clX12 0 rfl 0 (by decide) m_fl_RX12_7 rfl dX12_feed_82 ?_
              refine lv_iconst (v := 4) hx hb dX12_feed_85 (by decide) ?_
              refine z_ild C G 1 rfl (vp_in_nI (n := 4) (by decide) (by decide)) dX12_feed_86 ?_
              refine lv_topi (fun v_10 ev_10 => ?_)
              rw [show ((4 : Int32).toNatClampNeg) = 4 from rfl] at ev_10
              subst ev_10
              rw [hx4]
              refine lv_iadd hx hb dX12_feed_87 ?_
              refine lv_topi (fun y_11 ey_11 => ?_)
              obtain rfl : y_11 = nI (10 + (p0 + i)) := ey_11.trans (z_iaddn 10 (p0 + i) rfl rfl)
              refine lv_iload hx hb dX12_feed_88 (lv_at hl 0 rfl) ?_
              refine lv_bipush (v := 24) hx hb dX12_feed_90 (by decide) ?_
              refine lv_bipush (v := 8) hx hb dX12_feed_92 (by decide) ?_
              refine lv_iload hx hb dX12_feed_94 (lv_at hl 1 rfl) ?_
              refine lv_iconst (v := 4) hx hb dX12_feed_96 (by decide) ?_
              refine lv_irem hx hb dX12_feed_97 (by decide) ?_
              refine lv_imul hx hb dX12_feed_98 ?_
              refine lv_isub hx hb dX12_feed_99 ?_
              refine lv_ishr hx hb dX12_feed_100 ?_
              refine lv_sipush (v := 255) hx hb dX12_feed_101 (by decide) ?_
              refine lv_iand hx hb dX12_feed_104 ?_
              refine z_ist C G 1 rfl (vp_in_nI (by omega) (by decide)) dX12_feed_105 (fun H locs G => ?_)
              rw [nI_clamp (by omega)] at G
              have G : zS T A s.heap s [[zO11 mo m_all m_has i_size i_next i_where i_token i_number i_word i_wrong i_farCrossing m_read i_z0 i_crossings i_inns m_posts m_shut m_here i_steps i_done i_at i_gone m_was m_came m_seenAt m_rowWorth m_farBy m_used i_everywhere i_again0 i_d0 i_never i_firstCame i_longRun i_moved i_crowd i_l0 i_fitMany i_fitLeast i_fitMost m_fitPost m_fitEnd m_keptPosts i_x0], [zAr T 0 m_all 3952 (upd x (10 + (p0 + i)) ((e_ >>> ((24 - (8 * ((nI i) - (nI i) / 4 * 4))) &&& 31)) &&& 255))]] _ _ := G
              refine lv_aload_n hx hb dX12_feed_106 rfl (lv_at hl 2 rfl) ?_
              refine z_get C G clX12 0 rfl 0 (by decide) m_fl_RX12_7 rfl dX12_feed_107 ?_
              refine lv_iconst (v := 4) hx hb dX12_feed_110 (by decide) ?_
              refine lv_dup2_11 hx hb dX12_feed_111 rfl rfl ?_
              refine z_ild C G 1 rfl (vp_in_nI (n := 4) (by decide) (by decide)) dX12_feed_112 ?_
              refine lv_topi (fun v_12 ev_12 => ?_)
              rw [show ((4 : Int32).toNatClampNeg) = 4 from rfl] at ev_12
              subst ev_12
              rw [show (upd x (10 + (p0 + i)) ((e_ >>> ((24 - (8 * ((nI i) - (nI i) / 4 * 4))) &&& 31)) &&& 255)) 4 = nI (p0 + i) from (z_ne (by omega)).trans hx4]
              refine lv_iconst (v := 1) hx hb dX12_feed_113 (by decide) ?_
              refine lv_iadd hx hb dX12_feed_114 ?_
              refine lv_topi (fun y_13 ey_13 => ?_)
              obtain rfl : y_13 = nI ((p0 + i) + 1) := ey_13.trans (z_iaddn (p0 + i) 1 rfl rfl)
              refine z_ist C G 1 rfl (vp_in_nI (n := 4) (by decide) (by decide)) dX12_feed_115 (fun H locs G => ?_)
              have G : zS T A s.heap s [[zO11 mo m_all m_has i_size i_next i_where i_token i_number i_word i_wrong i_farCrossing m_read i_z0 i_crossings i_inns m_posts m_shut m_here i_steps i_done i_at i_gone m_was m_came m_seenAt m_rowWorth m_farBy m_used i_everywhere i_again0 i_d0 i_never i_firstCame i_longRun i_moved i_crowd i_l0 i_fitMany i_fitLeast i_fitMost m_fitPost m_fitEnd m_keptPosts i_x0], [zAr T 0 m_all 3952 (upd (upd x (10 + (p0 + i)) ((e_ >>> ((24 - (8 * ((nI i) - (nI i) / 4 * 4))) &&& 31)) &&& 255)) 4 (nI ((p0 + i) + 1)))]] _ _ := G
              refine lv_iinc (v := nI (i + 1)) (lv' := [(6, .int (nI (i + 1))), (7, .int e_), (0, .ref mo), (1, .int a_), (2, .int b_), (3, .int c_), (4, .int d_), (5, .int e_)]) hx hb dX12_feed_116 hl (k := 1) rfl (z_inc i 1) (by decide) (zLvf_h rfl) (fun ls hl => ?_)
              refine lv_goto (tgt := 20) hx hb dX12_feed_119 (by decide) ?_
              exact ih_20 (i + 1) (upd (upd x (10 + (p0 + i)) ((e_ >>> ((24 - (8 * ((nI i) - (nI i) / 4 * 4))) &&& 31)) &&& 255)) 4 (nI ((p0 + i) + 1))) (show (i + 1) ≤ 20 ∧ (upd (upd x (10 + (p0 + i)) ((e_ >>> ((24 - (8 * ((nI i) - (nI i) / 4 * 4))) &&& 31)) &&& 255)) 4 (nI ((p0 + i) + 1))) 4 = nI (p0 + (i + 1)) ∧ (∀ j, j < (i + 1) → (upd (upd x (10 + (p0 + i)) ((e_ >>> ((24 - (8 * ((nI i) - (nI i) / 4 * 4))) &&& 31)) &&& 255)) 4 (nI ((p0 + i) + 1))) (10 + (p0 + j)) = pB a_ b_ c_ d_ e_ j &&& 255) ∧ (∀ j, (j < 10 + p0 ∨ 10 + p0 + (i + 1) ≤ j) → ¬ j = 4 → (upd (upd x (10 + (p0 + i)) ((e_ >>> ((24 - (8 * ((nI i) - (nI i) / 4 * 4))) &&& 31)) &&& 255)) 4 (nI ((p0 + i) + 1))) j = f_all j) from ⟨by omega, (z_eq rfl), (zFd_s hS (pB_y (v := e_) (by rw [if_neg (by omega), if_neg (by omega), if_neg (by omega), if_neg (by omega)]) rfl)), (zFd_o hO)⟩) (show 20 - (i + 1) < 20 - i from by omega) _ _ ls G (lv_sub hl [0, 2, 3, 4, 5, 6, 7] rfl)
            · have c_9n : ¬ 16 ≤ i := fun q => c_9 ((nI_leI (a := 16) (b := i) (by omega) (by omega)).mpr q)
              refine lv_iload hx hb dX12_feed_66 (lv_at hl 5 rfl) ?_
              refine lv_goto (tgt := 73) hx hb dX12_feed_68 (by decide) ?_
              refine lv_istore (lv' := [(7, .int d_), (6, .int (nI i)), (0, .ref mo), (1, .int a_), (2, .int b_), (3, .int c_), (4, .int d_), (5, .int e_)]) hx hb dX12_feed_73 hl (by decide) (zLvf_h rfl) (fun ls hl => ?_)
              refine lv_aload_n hx hb dX12_feed_75 rfl (lv_at hl 2 rfl) ?_
              refine z_get C G clX12 0 rfl 0 (by decide) m_fl_RX12_7 rfl dX12_feed_76 ?_
              refine lv_bipush (v := 10) hx hb dX12_feed_79 (by decide) ?_
              refine lv_aload_n hx hb dX12_feed_81 rfl (lv_at hl 2 rfl) ?_
              refine z_get C G clX12 0 rfl 0 (by decide) m_fl_RX12_7 rfl dX12_feed_82 ?_
              refine lv_iconst (v := 4) hx hb dX12_feed_85 (by decide) ?_
              refine z_ild C G 1 rfl (vp_in_nI (n := 4) (by decide) (by decide)) dX12_feed_86 ?_
              refine lv_topi (fun v_14 ev_14 => ?_)
              rw [show ((4 : Int32).toNatClampNeg) = 4 from rfl] at ev_14
              subst ev_14
              rw [hx4]
              refine lv_iadd hx hb dX12_feed_87 ?_
              refine lv_topi (fun y_15 ey_15 => ?_)
              obtain rfl : y_15 = nI (10 + (p0 + i)) := ey_15.trans (z_iaddn 10 (p0 + i) rfl rfl)
              refine lv_iload hx hb dX12_feed_88 (lv_at hl 0 rfl) ?_
              refine lv_bipush (v := 24) hx hb dX12_feed_90 (by decide) ?_
              refine lv_bipush (v := 8) hx hb dX12_feed_92 (by decide) ?_
              refine lv_iload hx hb dX12_feed_94 (lv_at hl 1 rfl) ?_
              refine lv_iconst (v := 4) hx hb dX12_feed_96 (by decide) ?_
              refine lv_irem hx hb dX12_feed_97 (by decide) ?_
              refine lv_imul hx hb dX12_feed_98 ?_
              refine lv_isub hx hb dX12_feed_99 ?_
              refine lv_ishr hx hb dX12_feed_100 ?_
              refine lv_sipush (v := 255) hx hb dX12_feed_101 (by decide) ?_
              refine lv_iand hx hb dX12_feed_104 ?_
              refine z_ist C G 1 rfl (vp_in_nI (by omega) (by decide)) dX12_feed_105 (fun H locs G => ?_)
              rw [nI_clamp (by omega)] at G
              have G : zS T A s.heap s [[zO11 mo m_all m_has i_size i_next i_where i_token i_number i_word i_wrong i_farCrossing m_read i_z0 i_crossings i_inns m_posts m_shut m_here i_steps i_done i_at i_gone m_was m_came m_seenAt m_rowWorth m_farBy m_used i_everywhere i_again0 i_d0 i_never i_firstCame i_longRun i_moved i_crowd i_l0 i_fitMany i_fitLeast i_fitMost m_fitPost m_fitEnd m_keptPosts i_x0], [zAr T 0 m_all 3952 (upd x (10 + (p0 + i)) ((d_ >>> ((24 - (8 * ((nI i) - (nI i) / 4 * 4))) &&& 31)) &&& 255))]] _ _ := G
              refine lv_aload_n hx hb dX12_feed_106 rfl (lv_at hl 2 rfl) ?_
              refine z_get C G clX12 0 rfl 0 (by decide) m_fl_RX12_7 rfl dX12_feed_107 ?_
              refine lv_iconst (v := 4) hx hb dX12_feed_110 (by decide) ?_
              refine lv_dup2_11 hx hb dX12_feed_111 rfl rfl ?_
              refine z_ild C G 1 rfl (vp_in_nI (n := 4) (by decide) (by decide)) dX12_feed_112 ?_
              refine lv_topi (fun v_16 ev_16 => ?_)
              rw [show ((4 : Int32).toNatClampNeg) = 4 from rfl] at ev_16
              subst ev_16
              rw [show (upd x (10 + (p0 + i)) ((d_ >>> ((24 - (8 * ((nI i) - (nI i) / 4 * 4))) &&& 31)) &&& 255)) 4 = nI (p0 + i) from (z_ne (by omega)).trans hx4]
              refine lv_iconst (v := 1) hx hb dX12_feed_113 (by decide) ?_
              refine lv_iadd hx hb dX12_feed_114 ?_
              refine lv_topi (fun y_17 ey_17 => ?_)
              obtain rfl : y_17 = nI ((p0 + i) + 1) := ey_17.trans (z_iaddn (p0 + i) 1 rfl rfl)
              refine z_ist C G 1 rfl (vp_in_nI (n := 4) (by decide) (by decide)) dX12_feed_115 (fun H locs G => ?_)
              have G : zS T A s.heap s [[zO11 mo m_all m_has i_size i_next i_where i_token i_number i_word i_wrong i_farCrossing m_read i_z0 i_crossings i_inns m_posts m_shut m_here i_steps i_done i_at i_gone m_was m_came m_seenAt m_rowWorth m_farBy m_used i_everywhere i_again0 i_d0 i_never i_firstCame i_longRun i_moved i_crowd i_l0 i_fitMany i_fitLeast i_fitMost m_fitPost m_fitEnd m_keptPosts i_x0], [zAr T 0 m_all 3952 (upd (upd x (10 + (p0 + i)) ((d_ >>> ((24 - (8 * ((nI i) - (nI i) / 4 * 4))) &&& 31)) &&& 255)) 4 (nI ((p0 + i) + 1)))]] _ _ := G
              refine lv_iinc (v := nI (i + 1)) (lv' := [(6, .int (nI (i + 1))), (7, .int d_), (0, .ref mo), (1, .int a_), (2, .int b_), (3, .int c_), (4, .int d_), (5, .int e_)]) hx hb dX12_feed_116 hl (k := 1) rfl (z_inc i 1) (by decide) (zLvf_h rfl) (fun ls hl => ?_)
              refine lv_goto (tgt := 20) hx hb dX12_feed_119 (by decide) ?_
              exact ih_20 (i + 1) (upd (upd x (10 + (p0 + i)) ((d_ >>> ((24 - (8 * ((nI i) - (nI i) / 4 * 4))) &&& 31)) &&& 255)) 4 (nI ((p0 + i) + 1))) (show (i + 1) ≤ 20 ∧ (upd (upd x (10 + (p0 + i)) ((d_ >>> ((24 - (8 * ((nI i) - (nI i) / 4 * 4))) &&& 31)) &&& 255)) 4 (nI ((p0 + i) + 1))) 4 = nI (p0 + (i + 1)) ∧ (∀ j, j < (i + 1) → (upd (upd x (10 + (p0 + i)) ((d_ >>> ((24 - (8 * ((nI i) - (nI i) / 4 * 4))) &&& 31)) &&& 255)) 4 (nI ((p0 + i) + 1))) (10 + (p0 + j)) = pB a_ b_ c_ d_ e_ j &&& 255) ∧ (∀ j, (j < 10 + p0 ∨ 10 + p0 + (i + 1) ≤ j) → ¬ j = 4 → (upd (upd x (10 + (p0 + i)) ((d_ >>> ((24 - (8 * ((nI i) - (nI i) / 4 * 4))) &&& 31)) &&& 255)) 4 (nI ((p0 + i) + 1))) j = f_all j) from ⟨by omega, (z_eq rfl), (zFd_s hS (pB_y (v := d_) (by rw [if_neg (by omega), if_neg (by omega), if_neg (by omega), if_pos (by omega)]) rfl)), (zFd_o hO)⟩) (show 20 - (i + 1) < 20 - i from by omega) _ _ ls G (lv_sub hl [0, 2, 3, 4, 5, 6, 7] rfl)
          · have c_8n : ¬ 12 ≤ i := fun q => c_8 ((nI_leI (a := 12) (b := i) (by omega) (by omega)).mpr q)
            refine lv_iload_n hx hb dX12_feed_55 rfl (lv_at hl 4 rfl) ?_
            refine lv_goto (tgt := 73) hx hb dX12_feed_56 (by decide) ?_
            refine lv_istore (lv' := [(7, .int c_), (6, .int (nI i)), (0, .ref mo), (1, .int a_), (2, .int b_), (3, .int c_), (4, .int d_), (5, .int e_)]) hx hb dX12_feed_73 hl (by decide) (zLvf_h rfl) (fun ls hl => ?_)
            refine lv_aload_n hx hb dX12_feed_75 rfl (lv_at hl 2 rfl) ?_
            refine z_get C G clX12 0 rfl 0 (by decide) m_fl_RX12_7 rfl dX12_feed_76 ?_
            refine lv_bipush (v := 10) hx hb dX12_feed_79 (by decide) ?_
            refine lv_aload_n hx hb dX12_feed_81 rfl (lv_at hl 2 rfl) ?_
            refine z_get C G clX12 0 rfl 0 (by decide) m_fl_RX12_7 rfl dX12_feed_82 ?_
            refine lv_iconst (v := 4) hx hb dX12_feed_85 (by decide) ?_
            refine z_ild C G 1 rfl (vp_in_nI (n := 4) (by decide) (by decide)) dX12_feed_86 ?_
            refine lv_topi (fun v_18 ev_18 => ?_)
            rw [show ((4 : Int32).toNatClampNeg) = 4 from rfl] at ev_18
            subst ev_18
            rw [hx4]
            refine lv_iadd hx hb dX12_feed_87 ?_
            refine lv_topi (fun y_19 ey_19 => ?_)
            obtain rfl : y_19 = nI (10 + (p0 + i)) := ey_19.trans (z_iaddn 10 (p0 + i) rfl rfl)
            refine lv_iload hx hb dX12_feed_88 (lv_at hl 0 rfl) ?_
            refine lv_bipush (v := 24) hx hb dX12_feed_90 (by decide) ?_
            refine lv_bipush (v := 8) hx hb dX12_feed_92 (by decide) ?_
            refine lv_iload hx hb dX12_feed_94 (lv_at hl 1 rfl) ?_
            refine lv_iconst (v := 4) hx hb dX12_feed_96 (by decide) ?_
            refine lv_irem hx hb dX12_feed_97 (by decide) ?_
            refine lv_imul hx hb dX12_feed_98 ?_
            refine lv_isub hx hb dX12_feed_99 ?_
            refine lv_ishr hx hb dX12_feed_100 ?_
            refine lv_sipush (v := 255) hx hb dX12_feed_101 (by decide) ?_
            refine lv_iand hx hb dX12_feed_104 ?_
            refine z_ist C G 1 rfl (vp_in_nI (by omega) (by decide)) dX12_feed_105 (fun H locs G => ?_)
            rw [nI_clamp (by omega)] at G
            have G : zS T A s.heap s [[zO11 mo m_all m_has i_size i_next i_where i_token i_number i_word i_wrong i_farCrossing m_read i_z0 i_crossings i_inns m_posts m_shut m_here i_steps i_done i_at i_gone m_was m_came m_seenAt m_rowWorth m_farBy m_used i_everywhere i_again0 i_d0 i_never i_firstCame i_longRun i_moved i_crowd i_l0 i_fitMany i_fitLeast i_fitMost m_fitPost m_fitEnd m_keptPosts i_x0], [zAr T 0 m_all 3952 (upd x (10 + (p0 + i)) ((c_ >>> ((24 - (8 * ((nI i) - (nI i) / 4 * 4))) &&& 31)) &&& 255))]] _ _ := G
            refine lv_aload_n hx hb dX12_feed_106 rfl (lv_at hl 2 rfl) ?_
            refine z_get C G clX12 0 rfl 0 (by decide) m_fl_RX12_7 rfl dX12_feed_107 ?_
            refine lv_iconst (v := 4) hx hb dX12_feed_110 (by decide) ?_
            refine lv_dup2_11 hx hb dX12_feed_111 rfl rfl ?_
            refine z_ild C G 1 rfl (vp_in_nI (n := 4) (by decide) (by decide)) dX12_feed_112 ?_
            refine lv_topi (fun v_20 ev_20 => ?_)
            rw [show ((4 : Int32).toNatClampNeg) = 4 from rfl] at ev_20
            subst ev_20
            rw [show (upd x (10 + (p0 + i)) ((c_ >>> ((24 - (8 * ((nI i) - (nI i) / 4 * 4))) &&& 31)) &&& 255)) 4 = nI (p0 + i) from (z_ne (by omega)).trans hx4]
            refine lv_iconst (v := 1) hx hb dX12_feed_113 (by decide) ?_
            refine lv_iadd hx hb dX12_feed_114 ?_
            refine lv_topi (fun y_21 ey_21 => ?_)
            obtain rfl : y_21 = nI ((p0 + i) + 1) := ey_21.trans (z_iaddn (p0 + i) 1 rfl rfl)
            refine z_ist C G 1 rfl (vp_in_nI (n := 4) (by decide) (by decide)) dX12_feed_115 (fun H locs G => ?_)
            have G : zS T A s.heap s [[zO11 mo m_all m_has i_size i_next i_where i_token i_number i_word i_wrong i_farCrossing m_read i_z0 i_crossings i_inns m_posts m_shut m_here i_steps i_done i_at i_gone m_was m_came m_seenAt m_rowWorth m_farBy m_used i_everywhere i_again0 i_d0 i_never i_firstCame i_longRun i_moved i_crowd i_l0 i_fitMany i_fitLeast i_fitMost m_fitPost m_fitEnd m_keptPosts i_x0], [zAr T 0 m_all 3952 (upd (upd x (10 + (p0 + i)) ((c_ >>> ((24 - (8 * ((nI i) - (nI i) / 4 * 4))) &&& 31)) &&& 255)) 4 (nI ((p0 + i) + 1)))]] _ _ := G
            refine lv_iinc (v := nI (i + 1)) (lv' := [(6, .int (nI (i + 1))), (7, .int c_), (0, .ref mo), (1, .int a_), (2, .int b_), (3, .int c_), (4, .int d_), (5, .int e_)]) hx hb dX12_feed_116 hl (k := 1) rfl (z_inc i 1) (by decide) (zLvf_h rfl) (fun ls hl => ?_)
            refine lv_goto (tgt := 20) hx hb dX12_feed_119 (by decide) ?_
            exact ih_20 (i + 1) (upd (upd x (10 + (p0 + i)) ((c_ >>> ((24 - (8 * ((nI i) - (nI i) / 4 * 4))) &&& 31)) &&& 255)) 4 (nI ((p0 + i) + 1))) (show (i + 1) ≤ 20 ∧ (upd (upd x (10 + (p0 + i)) ((c_ >>> ((24 - (8 * ((nI i) - (nI i) / 4 * 4))) &&& 31)) &&& 255)) 4 (nI ((p0 + i) + 1))) 4 = nI (p0 + (i + 1)) ∧ (∀ j, j < (i + 1) → (upd (upd x (10 + (p0 + i)) ((c_ >>> ((24 - (8 * ((nI i) - (nI i) / 4 * 4))) &&& 31)) &&& 255)) 4 (nI ((p0 + i) + 1))) (10 + (p0 + j)) = pB a_ b_ c_ d_ e_ j &&& 255) ∧ (∀ j, (j < 10 + p0 ∨ 10 + p0 + (i + 1) ≤ j) → ¬ j = 4 → (upd (upd x (10 + (p0 + i)) ((c_ >>> ((24 - (8 * ((nI i) - (nI i) / 4 * 4))) &&& 31)) &&& 255)) 4 (nI ((p0 + i) + 1))) j = f_all j) from ⟨by omega, (z_eq rfl), (zFd_s hS (pB_y (v := c_) (by rw [if_neg (by omega), if_neg (by omega), if_pos (by omega)]) rfl)), (zFd_o hO)⟩) (show 20 - (i + 1) < 20 - i from by omega) _ _ ls G (lv_sub hl [0, 2, 3, 4, 5, 6, 7] rfl)
        · have c_7n : ¬ 8 ≤ i := fun q => c_7 ((nI_leI (a := 8) (b := i) (by omega) (by omega)).mpr q)
          refine lv_iload_n hx hb dX12_feed_44 rfl (lv_at hl 3 rfl) ?_
          refine lv_goto (tgt := 73) hx hb dX12_feed_45 (by decide) ?_
          refine lv_istore (lv' := [(7, .int b_), (6, .int (nI i)), (0, .ref mo), (1, .int a_), (2, .int b_), (3, .int c_), (4, .int d_), (5, .int e_)]) hx hb dX12_feed_73 hl (by decide) (zLvf_h rfl) (fun ls hl => ?_)
          refine lv_aload_n hx hb dX12_feed_75 rfl (lv_at hl 2 rfl) ?_
          refine z_get C G clX12 0 rfl 0 (by decide) m_fl_RX12_7 rfl dX12_feed_76 ?_
          refine lv_bipush (v := 10) hx hb dX12_feed_79 (by decide) ?_
          refine lv_aload_n hx hb dX12_feed_81 rfl (lv_at hl 2 rfl) ?_
          refine z_get C G clX12 0 rfl 0 (by decide) m_fl_RX12_7 rfl dX12_feed_82 ?_
          refine lv_iconst (v := 4) hx hb dX12_feed_85 (by decide) ?_
          refine z_ild C G 1 rfl (vp_in_nI (n := 4) (by decide) (by decide)) dX12_feed_86 ?_
          refine lv_topi (fun v_22 ev_22 => ?_)
          rw [show ((4 : Int32).toNatClampNeg) = 4 from rfl] at ev_22
          subst ev_22
          rw [hx4]
          refine lv_iadd hx hb dX12_feed_87 ?_
          refine lv_topi (fun y_23 ey_23 => ?_)
          obtain rfl : y_23 = nI (10 + (p0 + i)) := ey_23.trans (z_iaddn 10 (p0 + i) rfl rfl)
          refine lv_iload hx hb dX12_feed_88 (lv_at hl 0 rfl) ?_
          refine lv_bipush (v := 24) hx hb dX12_feed_90 (by decide) ?_
          refine lv_bipush (v := 8) hx hb dX12_feed_92 (by decide) ?_
          refine lv_iload hx hb dX12_feed_94 (lv_at hl 1 rfl) ?_
          refine lv_iconst (v := 4) hx hb dX12_feed_96 (by decide) ?_
          refine lv_irem hx hb dX12_feed_97 (by decide) ?_
          refine lv_imul hx hb dX12_feed_98 ?_
          refine lv_isub hx hb dX12_feed_99 ?_
          refine lv_ishr hx hb dX12_feed_100 ?_
          refine lv_sipush (v := 255) hx hb dX12_feed_101 (by decide) ?_
          refine lv_iand hx hb dX12_feed_104 ?_
          refine z_ist C G 1 rfl (vp_in_nI (by omega) (by decide)) dX12_feed_105 (fun H locs G => ?_)
          rw [nI_clamp (by omega)] at G
          have G : zS T A s.heap s [[zO11 mo m_all m_has i_size i_next i_where i_token i_number i_word i_wrong i_farCrossing m_read i_z0 i_crossings i_inns m_posts m_shut m_here i_steps i_done i_at i_gone m_was m_came m_seenAt m_rowWorth m_farBy m_used i_everywhere i_again0 i_d0 i_never i_firstCame i_longRun i_moved i_crowd i_l0 i_fitMany i_fitLeast i_fitMost m_fitPost m_fitEnd m_keptPosts i_x0], [zAr T 0 m_all 3952 (upd x (10 + (p0 + i)) ((b_ >>> ((24 - (8 * ((nI i) - (nI i) / 4 * 4))) &&& 31)) &&& 255))]] _ _ := G
          refine lv_aload_n hx hb dX12_feed_106 rfl (lv_at hl 2 rfl) ?_
          refine z_get C G clX12 0 rfl 0 (by decide) m_fl_RX12_7 rfl dX12_feed_107 ?_
          refine lv_iconst (v := 4) hx hb dX12_feed_110 (by decide) ?_
          refine lv_dup2_11 hx hb dX12_feed_111 rfl rfl ?_
          refine z_ild C G 1 rfl (vp_in_nI (n := 4) (by decide) (by decide)) dX12_feed_112 ?_
          refine lv_topi (fun v_24 ev_24 => ?_)
          rw [show ((4 : Int32).toNatClampNeg) = 4 from rfl] at ev_24
          subst ev_24
          rw [show (upd x (10 + (p0 + i)) ((b_ >>> ((24 - (8 * ((nI i) - (nI i) / 4 * 4))) &&& 31)) &&& 255)) 4 = nI (p0 + i) from (z_ne (by omega)).trans hx4]
          refine lv_iconst (v := 1) hx hb dX12_feed_113 (by decide) ?_
          refine lv_iadd hx hb dX12_feed_114 ?_
          refine lv_topi (fun y_25 ey_25 => ?_)
          obtain rfl : y_25 = nI ((p0 + i) + 1) := ey_25.trans (z_iaddn (p0 + i) 1 rfl rfl)
          refine z_ist C G 1 rfl (vp_in_nI (n := 4) (by decide) (by decide)) dX12_feed_115 (fun H locs G => ?_)
          have G : zS T A s.heap s [[zO11 mo m_all m_has i_size i_next i_where i_token i_number i_word i_wrong i_farCrossing m_read i_z0 i_crossings i_inns m_posts m_shut m_here i_steps i_done i_at i_gone m_was m_came m_seenAt m_rowWorth m_farBy m_used i_everywhere i_again0 i_d0 i_never i_firstCame i_longRun i_moved i_crowd i_l0 i_fitMany i_fitLeast i_fitMost m_fitPost m_fitEnd m_keptPosts i_x0], [zAr T 0 m_all 3952 (upd (upd x (10 + (p0 + i)) ((b_ >>> ((24 - (8 * ((nI i) - (nI i) / 4 * 4))) &&& 31)) &&& 255)) 4 (nI ((p0 + i) + 1)))]] _ _ := G
          refine lv_iinc (v := nI (i + 1)) (lv' := [(6, .int (nI (i + 1))), (7, .int b_), (0, .ref mo), (1, .int a_), (2, .int b_), (3, .int c_), (4, .int d_), (5, .int e_)]) hx hb dX12_feed_116 hl (k := 1) rfl (z_inc i 1) (by decide) (zLvf_h rfl) (fun ls hl => ?_)
          refine lv_goto (tgt := 20) hx hb dX12_feed_119 (by decide) ?_
          exact ih_20 (i + 1) (upd (upd x (10 + (p0 + i)) ((b_ >>> ((24 - (8 * ((nI i) - (nI i) / 4 * 4))) &&& 31)) &&& 255)) 4 (nI ((p0 + i) + 1))) (show (i + 1) ≤ 20 ∧ (upd (upd x (10 + (p0 + i)) ((b_ >>> ((24 - (8 * ((nI i) - (nI i) / 4 * 4))) &&& 31)) &&& 255)) 4 (nI ((p0 + i) + 1))) 4 = nI (p0 + (i + 1)) ∧ (∀ j, j < (i + 1) → (upd (upd x (10 + (p0 + i)) ((b_ >>> ((24 - (8 * ((nI i) - (nI i) / 4 * 4))) &&& 31)) &&& 255)) 4 (nI ((p0 + i) + 1))) (10 + (p0 + j)) = pB a_ b_ c_ d_ e_ j &&& 255) ∧ (∀ j, (j < 10 + p0 ∨ 10 + p0 + (i + 1) ≤ j) → ¬ j = 4 → (upd (upd x (10 + (p0 + i)) ((b_ >>> ((24 - (8 * ((nI i) - (nI i) / 4 * 4))) &&& 31)) &&& 255)) 4 (nI ((p0 + i) + 1))) j = f_all j) from ⟨by omega, (z_eq rfl), (zFd_s hS (pB_y (v := b_) (by rw [if_neg (by omega), if_pos (by omega)]) rfl)), (zFd_o hO)⟩) (show 20 - (i + 1) < 20 - i from by omega) _ _ ls G (lv_sub hl [0, 2, 3, 4, 5, 6, 7] rfl)
      · have c_6n : ¬ 4 ≤ i := fun q => c_6 ((nI_leI (a := 4) (b := i) (by omega) (by omega)).mpr q)
        refine lv_iload_n hx hb dX12_feed_33 rfl (lv_at hl 2 rfl) ?_
        refine lv_goto (tgt := 73) hx hb dX12_feed_34 (by decide) ?_
        refine lv_istore (lv' := [(7, .int a_), (6, .int (nI i)), (0, .ref mo), (1, .int a_), (2, .int b_), (3, .int c_), (4, .int d_), (5, .int e_)]) hx hb dX12_feed_73 hl (by decide) (zLvf_h rfl) (fun ls hl => ?_)
        refine lv_aload_n hx hb dX12_feed_75 rfl (lv_at hl 2 rfl) ?_
        refine z_get C G clX12 0 rfl 0 (by decide) m_fl_RX12_7 rfl dX12_feed_76 ?_
        refine lv_bipush (v := 10) hx hb dX12_feed_79 (by decide) ?_
        refine lv_aload_n hx hb dX12_feed_81 rfl (lv_at hl 2 rfl) ?_
        refine z_get C G clX12 0 rfl 0 (by decide) m_fl_RX12_7 rfl dX12_feed_82 ?_
        refine lv_iconst (v := 4) hx hb dX12_feed_85 (by decide) ?_
        refine z_ild C G 1 rfl (vp_in_nI (n := 4) (by decide) (by decide)) dX12_feed_86 ?_
        refine lv_topi (fun v_26 ev_26 => ?_)
        rw [show ((4 : Int32).toNatClampNeg) = 4 from rfl] at ev_26
        subst ev_26
        rw [hx4]
        refine lv_iadd hx hb dX12_feed_87 ?_
        refine lv_topi (fun y_27 ey_27 => ?_)
        obtain rfl : y_27 = nI (10 + (p0 + i)) := ey_27.trans (z_iaddn 10 (p0 + i) rfl rfl)
        refine lv_iload hx hb dX12_feed_88 (lv_at hl 0 rfl) ?_
        refine lv_bipush (v := 24) hx hb dX12_feed_90 (by decide) ?_
        refine lv_bipush (v := 8) hx hb dX12_feed_92 (by decide) ?_
        refine lv_iload hx hb dX12_feed_94 (lv_at hl 1 rfl) ?_
        refine lv_iconst (v := 4) hx hb dX12_feed_96 (by decide) ?_
        refine lv_irem hx hb dX12_feed_97 (by decide) ?_
        refine lv_imul hx hb dX12_feed_98 ?_
        refine lv_isub hx hb dX12_feed_99 ?_
        refine lv_ishr hx hb dX12_feed_100 ?_
        refine lv_sipush (v := 255) hx hb dX12_feed_101 (by decide) ?_
        refine lv_iand hx hb dX12_feed_104 ?_
        refine z_ist C G 1 rfl (vp_in_nI (by omega) (by decide)) dX12_feed_105 (fun H locs G => ?_)
        rw [nI_clamp (by omega)] at G
        have G : zS T A s.heap s [[zO11 mo m_all m_has i_size i_next i_where i_token i_number i_word i_wrong i_farCrossing m_read i_z0 i_crossings i_inns m_posts m_shut m_here i_steps i_done i_at i_gone m_was m_came m_seenAt m_rowWorth m_farBy m_used i_everywhere i_again0 i_d0 i_never i_firstCame i_longRun i_moved i_crowd i_l0 i_fitMany i_fitLeast i_fitMost m_fitPost m_fitEnd m_keptPosts i_x0], [zAr T 0 m_all 3952 (upd x (10 + (p0 + i)) ((a_ >>> ((24 - (8 * ((nI i) - (nI i) / 4 * 4))) &&& 31)) &&& 255))]] _ _ := G
        refine lv_aload_n hx hb dX12_feed_106 rfl (lv_at hl 2 rfl) ?_
        refine z_get C G clX12 0 rfl 0 (by decide) m_fl_RX12_7 rfl dX12_feed_107 ?_
        refine lv_iconst (v := 4) hx hb dX12_feed_110 (by decide) ?_
        refine lv_dup2_11 hx hb dX12_feed_111 rfl rfl ?_
        refine z_ild C G 1 rfl (vp_in_nI (n := 4) (by decide) (by decide)) dX12_feed_112 ?_
        refine lv_topi (fun v_28 ev_28 => ?_)
        rw [show ((4 : Int32).toNatClampNeg) = 4 from rfl] at ev_28
        subst ev_28
        rw [show (upd x (10 + (p0 + i)) ((a_ >>> ((24 - (8 * ((nI i) - (nI i) / 4 * 4))) &&& 31)) &&& 255)) 4 = nI (p0 + i) from (z_ne (by omega)).trans hx4]
        refine lv_iconst (v := 1) hx hb dX12_feed_113 (by decide) ?_
        refine lv_iadd hx hb dX12_feed_114 ?_
        refine lv_topi (fun y_29 ey_29 => ?_)
        obtain rfl : y_29 = nI ((p0 + i) + 1) := ey_29.trans (z_iaddn (p0 + i) 1 rfl rfl)
        refine z_ist C G 1 rfl (vp_in_nI (n := 4) (by decide) (by decide)) dX12_feed_115 (fun H locs G => ?_)
        have G : zS T A s.heap s [[zO11 mo m_all m_has i_size i_next i_where i_token i_number i_word i_wrong i_farCrossing m_read i_z0 i_crossings i_inns m_posts m_shut m_here i_steps i_done i_at i_gone m_was m_came m_seenAt m_rowWorth m_farBy m_used i_everywhere i_again0 i_d0 i_never i_firstCame i_longRun i_moved i_crowd i_l0 i_fitMany i_fitLeast i_fitMost m_fitPost m_fitEnd m_keptPosts i_x0], [zAr T 0 m_all 3952 (upd (upd x (10 + (p0 + i)) ((a_ >>> ((24 - (8 * ((nI i) - (nI i) / 4 * 4))) &&& 31)) &&& 255)) 4 (nI ((p0 + i) + 1)))]] _ _ := G
        refine lv_iinc (v := nI (i + 1)) (lv' := [(6, .int (nI (i + 1))), (7, .int a_), (0, .ref mo), (1, .int a_), (2, .int b_), (3, .int c_), (4, .int d_), (5, .int e_)]) hx hb dX12_feed_116 hl (k := 1) rfl (z_inc i 1) (by decide) (zLvf_h rfl) (fun ls hl => ?_)
        refine lv_goto (tgt := 20) hx hb dX12_feed_119 (by decide) ?_
        exact ih_20 (i + 1) (upd (upd x (10 + (p0 + i)) ((a_ >>> ((24 - (8 * ((nI i) - (nI i) / 4 * 4))) &&& 31)) &&& 255)) 4 (nI ((p0 + i) + 1))) (show (i + 1) ≤ 20 ∧ (upd (upd x (10 + (p0 + i)) ((a_ >>> ((24 - (8 * ((nI i) - (nI i) / 4 * 4))) &&& 31)) &&& 255)) 4 (nI ((p0 + i) + 1))) 4 = nI (p0 + (i + 1)) ∧ (∀ j, j < (i + 1) → (upd (upd x (10 + (p0 + i)) ((a_ >>> ((24 - (8 * ((nI i) - (nI i) / 4 * 4))) &&& 31)) &&& 255)) 4 (nI ((p0 + i) + 1))) (10 + (p0 + j)) = pB a_ b_ c_ d_ e_ j &&& 255) ∧ (∀ j, (j < 10 + p0 ∨ 10 + p0 + (i + 1) ≤ j) → ¬ j = 4 → (upd (upd x (10 + (p0 + i)) ((a_ >>> ((24 - (8 * ((nI i) - (nI i) / 4 * 4))) &&& 31)) &&& 255)) 4 (nI ((p0 + i) + 1))) j = f_all j) from ⟨by omega, (z_eq rfl), (zFd_s hS (pB_y (v := a_) (by rw [if_pos (by omega)]) rfl)), (zFd_o hO)⟩) (show 20 - (i + 1) < 20 - i from by omega) _ _ ls G (lv_sub hl [0, 2, 3, 4, 5, 6, 7] rfl)
  · have c_3n : ¬ p0 + 20 ≤ 600 := fun q => c_3 ((nI_leI (a := p0 + 20) (b := 600) (by omega) (by omega)).mpr q)
    refine lv_iconst (v := (-1)) hx hb dX12_feed_15 (by decide) ?_
    exact z_back hQz_ (z_iret C hr hlocks G (Nat.le_of_ble_eq_true rfl) (Nat.le_of_ble_eq_true rfl) dX12_feed_16 ⟨f_all, rfl, (Or.inl ⟨by omega, rfl, rfl⟩)⟩)

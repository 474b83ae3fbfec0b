set_option maxHeartbeats 4000000 in
set_option maxRecDepth 100000 in
/-- c_fm_text2 -/
theorem c_fm_text2 (l : Launch) (T : zTy) (mo : Nat) (m_all : Nat) (m_has : Nat) (i_size : Int32) (i_next : Int32) (i_where : Int32) (i_token : Int32) (i_number : Int32) (i_word : Int32) (i_wrong : Int32) (i_farCrossing : Int32) (m_read : Nat) (i_z0 : Int32) (i_crossings : Int32) (i_inns : Int32) (m_posts : Nat) (m_shut : Nat) (m_here : Nat) (i_steps : Int32) (i_done : Int32) (i_at : Int32) (i_gone : Int32) (m_was : Nat) (m_came : Nat) (m_seenAt : Nat) (m_rowWorth : Nat) (m_farBy : Nat) (m_used : Nat) (i_everywhere : Int32) (i_again0 : Int32) (i_d0 : Int32) (i_never : Int32) (i_firstCame : Int32) (i_longRun : Int32) (i_moved : Int32) (i_crowd : Int32) (i_l0 : Int32) (i_fitMany : Int32) (i_fitLeast : Int32) (i_fitMost : Int32) (m_fitPost : Nat) (m_fitEnd : Nat) (m_keptPosts : Nat) (i_x0 : Int32) (f_all : Nat → Int32) (f_read : Nat → Int32) (k : pT) (N : Nat) (at_ : Int32) (hB : zBI f_all) (hsN : f_all 4 = nI N) (hN6 : N ≤ 600) (hk : k = tkT (fun j => f_all (10 + j)) N) (hby : ∀ j, j < N → 0 ≤ (f_all (10 + j)).toInt) : zMi l T yX12_text cX12_text 5 (some .int) 9 0 0 [.ref mo, .int 2, .int at_] [[zO11 mo m_all m_has i_size i_next i_where i_token i_number i_word i_wrong i_farCrossing m_read i_z0 i_crossings i_inns m_posts m_shut m_here i_steps i_done i_at i_gone m_was m_came m_seenAt m_rowWorth m_farBy m_used i_everywhere i_again0 i_d0 i_never i_firstCame i_longRun i_moved i_crowd i_l0 i_fitMany i_fitLeast i_fitMost m_fitPost m_fitEnd m_keptPosts i_x0], [zAr T 0 m_all 3952 f_all], [zAr T 0 m_read 121 f_read]] (fun (r : Int32) bs => ∃ (j_size : Int32) (j_next : Int32) (j_where : Int32) (j_token : Int32) (j_number : Int32) (j_word : Int32) (j_wrong : Int32) (j_farCrossing : Int32) (g_all : Nat → Int32) (g_read : Nat → Int32), bs = [[zO11 mo m_all m_has j_size j_next j_where j_token j_number j_word j_wrong j_farCrossing m_read i_z0 i_crossings i_inns m_posts m_shut m_here i_steps i_done i_at i_gone m_was m_came m_seenAt m_rowWorth m_farBy m_used i_everywhere i_again0 i_d0 i_never i_firstCame i_longRun i_moved i_crowd i_l0 i_fitMany i_fitLeast i_fitMost m_fitPost m_fitEnd m_keptPosts i_x0], [zAr T 0 m_all 3952 g_all], [zAr T 0 m_read 121 g_read]] ∧ zBI g_all ∧ g_all 4 = 0 ∧ (∀ j, 988 ≤ j → g_all j = f_all j) ∧ (zText (pRead k N 2) 2 at_ f_all g_all r)) := by
  refine zMi_of (own := RX12) (by decide) rfl (Nat.le_of_ble_eq_true rfl) ?_
  intro p e s m args below meth c A ls C hr hlocks hnm hAe G hl
  refine zHide (fun Q9 hQ9 => ?_)
  have hx := C.1
  have hb := C.2.1
  have hl : lv_has ls 5 [(0, .ref mo), (1, .int 2), (2, .int at_)] := hl
  refine lv_aload_n hx hb dX12_text_0 rfl (lv_at hl 0 rfl) ?_
  refine lv_aload_n hx hb dX12_text_1 rfl (lv_at hl 0 rfl) ?_
  refine z_get C G clX12 0 rfl 0 (by decide) m_fl_RX12_7 rfl dX12_text_2 ?_
  refine lv_iconst (v := 4) hx hb dX12_text_5 (by decide) ?_
  refine z_ild C G 1 rfl (vp_in_nI (n := 4) (by decide) (by decide)) dX12_text_6 ?_
  refine lv_topi (fun v_1 ev_1 => ?_)
  rw [show ((4 : Int32).toNatClampNeg) = 4 from rfl] at ev_1
  subst ev_1
  refine z_put C G clX12 0 rfl 2 (by decide) m_fl_RX12_56 rfl rfl rfl (Nat.le_of_ble_eq_true rfl) dX12_text_7 (fun H locs G => ?_)
  have G : zS T A s.heap s [[zO11 mo m_all m_has (f_all 4) i_next i_where i_token i_number i_word i_wrong i_farCrossing m_read i_z0 i_crossings i_inns m_posts m_shut m_here i_steps i_done i_at i_gone m_was m_came m_seenAt m_rowWorth m_farBy m_used i_everywhere i_again0 i_d0 i_never i_firstCame i_longRun i_moved i_crowd i_l0 i_fitMany i_fitLeast i_fitMost m_fitPost m_fitEnd m_keptPosts i_x0], [zAr T 0 m_all 3952 f_all], [zAr T 0 m_read 121 f_read]] _ _ := G
  refine lv_aload_n hx hb dX12_text_10 rfl (lv_at hl 0 rfl) ?_
  refine z_get C G clX12 0 rfl 0 (by decide) m_fl_RX12_7 rfl dX12_text_11 ?_
  refine lv_iconst (v := 4) hx hb dX12_text_14 (by decide) ?_
  refine lv_iconst (v := 0) hx hb dX12_text_15 (by decide) ?_
  refine z_ist C G 1 rfl (vp_in_nI (n := 4) (by decide) (by decide)) dX12_text_16 (fun H locs G => ?_)
  have G : zS T A s.heap s [[zO11 mo m_all m_has (f_all 4) i_next i_where i_token i_number i_word i_wrong i_farCrossing m_read i_z0 i_crossings i_inns m_posts m_shut m_here i_steps i_done i_at i_gone m_was m_came m_seenAt m_rowWorth m_farBy m_used i_everywhere i_again0 i_d0 i_never i_firstCame i_longRun i_moved i_crowd i_l0 i_fitMany i_fitLeast i_fitMost m_fitPost m_fitEnd m_keptPosts i_x0], [zAr T 0 m_all 3952 (upd f_all 4 0)], [zAr T 0 m_read 121 f_read]] _ _ := G
  refine lv_aload_n hx hb dX12_text_17 rfl (lv_at hl 0 rfl) ?_
  refine z_get C G clX12 0 rfl 0 (by decide) m_fl_RX12_7 rfl dX12_text_18 ?_
  refine lv_iconst (v := 5) hx hb dX12_text_21 (by decide) ?_
  refine lv_iconst (v := 0) hx hb dX12_text_22 (by decide) ?_
  refine z_ist C G 1 rfl (vp_in_nI (n := 5) (by decide) (by decide)) dX12_text_23 (fun H locs G => ?_)
  have G : zS T A s.heap s [[zO11 mo m_all m_has (f_all 4) i_next i_where i_token i_number i_word i_wrong i_farCrossing m_read i_z0 i_crossings i_inns m_posts m_shut m_here i_steps i_done i_at i_gone m_was m_came m_seenAt m_rowWorth m_farBy m_used i_everywhere i_again0 i_d0 i_never i_firstCame i_longRun i_moved i_crowd i_l0 i_fitMany i_fitLeast i_fitMost m_fitPost m_fitEnd m_keptPosts i_x0], [zAr T 0 m_all 3952 (upd (upd f_all 4 0) 5 0)], [zAr T 0 m_read 121 f_read]] _ _ := G
  refine lv_aload_n hx hb dX12_text_24 rfl (lv_at hl 0 rfl) ?_
  refine z_get C G clX12 0 rfl 0 (by decide) m_fl_RX12_7 rfl dX12_text_25 ?_
  refine lv_bipush (v := 6) hx hb dX12_text_28 (by decide) ?_
  refine lv_iconst (v := (-1)) hx hb dX12_text_30 (by decide) ?_
  refine z_ist C G 1 rfl (vp_in_nI (n := 6) (by decide) (by decide)) dX12_text_31 (fun H locs G => ?_)
  have G : zS T A s.heap s [[zO11 mo m_all m_has (f_all 4) i_next i_where i_token i_number i_word i_wrong i_farCrossing m_read i_z0 i_crossings i_inns m_posts m_shut m_here i_steps i_done i_at i_gone m_was m_came m_seenAt m_rowWorth m_farBy m_used i_everywhere i_again0 i_d0 i_never i_firstCame i_longRun i_moved i_crowd i_l0 i_fitMany i_fitLeast i_fitMost m_fitPost m_fitEnd m_keptPosts i_x0], [zAr T 0 m_all 3952 (upd (upd (upd f_all 4 0) 5 0) 6 (-1))], [zAr T 0 m_read 121 f_read]] _ _ := G
  have hB4 := hB.1
  have hF : ∀ j, j ≠ 4 → j ≠ 5 → j ≠ 6 → (upd (upd (upd f_all 4 0) 5 0) 6 (-1)) j = f_all j := fun j h1 h2 h3 => by unfold upd; rw [if_neg h3, if_neg h2, if_neg h1]
  refine lv_iload_n hx hb dX12_text_32 rfl (lv_at hl 1 rfl) ?_
  refine lv_iconst (v := 0) hx hb dX12_text_33 (by decide) ?_
  refine lv_iconst (v := 2) hx hb dX12_text_34 (by decide) ?_
  refine z_Si (bc := []) (br := [[zO11 mo m_all m_has (f_all 4) i_next i_where i_token i_number i_word i_wrong i_farCrossing m_read i_z0 i_crossings i_inns m_posts m_shut m_here i_steps i_done i_at i_gone m_was m_came m_seenAt m_rowWorth m_farBy m_used i_everywhere i_again0 i_d0 i_never i_firstCame i_longRun i_moved i_crowd i_l0 i_fitMany i_fitLeast i_fitMost m_fitPost m_fitEnd m_keptPosts i_x0], [zAr T 0 m_all 3952 (upd (upd (upd f_all 4 0) 5 0) 6 (-1))], [zAr T 0 m_read 121 f_read]]) (As := [.int 2, .int 0, .int 2]) (rest := []) C G (c_m_isIn l T 2 0 2) (kS_RX12_111 C.2.2.2.2 (Nat.le_of_ble_eq_true rfl) (Nat.le_of_ble_eq_true rfl)) [] [] rfl rfl rfl rfl hl.1 dX12_text_35 (Nat.le_of_ble_eq_true rfl) (Nat.le_of_ble_eq_true rfl) (fun r_3 b1 H locs hw G => ?_)
  refine zAn2 hw ?_
  intro hbs9 hc_2
  clear hw
  subst hbs9
  have G : zS T A s.heap s [[zO11 mo m_all m_has (f_all 4) i_next i_where i_token i_number i_word i_wrong i_farCrossing m_read i_z0 i_crossings i_inns m_posts m_shut m_here i_steps i_done i_at i_gone m_was m_came m_seenAt m_rowWorth m_farBy m_used i_everywhere i_again0 i_d0 i_never i_firstCame i_longRun i_moved i_crowd i_l0 i_fitMany i_fitLeast i_fitMost m_fitPost m_fitEnd m_keptPosts i_x0], [zAr T 0 m_all 3952 (upd (upd (upd f_all 4 0) 5 0) 6 (-1))], [zAr T 0 m_read 121 f_read]] _ _ := G
  rcases hc_2 with ⟨rfl, h_4, h_5⟩ | ⟨rfl, h_6⟩
  · have h_4 : (0 : Int) ≤ (2 : Int) := h_4
    have h_5 : (2 : Int) ≤ (2 : Int) := h_5
    refine lv_if_eq (tgt := 68) hx hb dX12_text_38 (by decide) (fun q => absurd q (by decide)) (fun _ => ?_)
    rcases (Decidable.em (at_ = -1)) with hne | hne
    · obtain rfl : at_ = -1 := hne
      have hq1 : ((upd (upd (upd f_all 4 0) 5 0) 6 (-1)) 2).toInt = (f_all 2).toInt := rfl
      have hqf : 0 ≤ (f_all 2).toInt ∧ (f_all 2).toInt ≤ 2 := hB.2.1 2 (by decide)
      have hqF : 0 ≤ ((upd (upd (upd f_all 4 0) 5 0) 6 (-1)) 2).toInt ∧ ((upd (upd (upd f_all 4 0) 5 0) 6 (-1)) 2).toInt ≤ 2 := hqf
      have hai : ((-1) : Int32).toInt = -1 := rfl
      have hoi : zHd _ := pOkAt_y (s := 2) (at_ := (-1)) (G := f_all) hai
      refine lv_iload_n hx hb dX12_text_41 rfl (lv_at hl 2 rfl) ?_
      refine lv_iconst (v := (-1)) hx hb dX12_text_42 (by decide) ?_
      refine lv_icmp_ne (tgt := 59) hx hb dX12_text_43 (by decide) (fun q => absurd rfl q) (fun _ => ?_)
      refine lv_aload_n hx hb dX12_text_46 rfl (lv_at hl 0 rfl) ?_
      refine z_get C G clX12 0 rfl 0 (by decide) m_fl_RX12_7 rfl dX12_text_47 ?_
      refine lv_iload_n hx hb dX12_text_50 rfl (lv_at hl 1 rfl) ?_
      refine z_ild C G 1 rfl (vp_in_nI (n := 2) (by decide) (by decide)) dX12_text_51 ?_
      refine lv_topi (fun v_7 ev_7 => ?_)
      rw [show ((2 : Int32).toNatClampNeg) = 2 from rfl] at ev_7
      subst ev_7
      rw [show (upd (upd (upd f_all 4 0) 5 0) 6 (-1)) 2 = f_all 2 from rfl]
      refine lv_iconst (v := 2) hx hb dX12_text_52 (by decide) ?_
      refine lv_icmp_lt (tgt := 71) hx hb dX12_text_53 (by decide) (fun c_8 => ?_) (fun c_8 => ?_)
      · have c_8n : (f_all 2).toInt < (2 : Int) := (fa_lt _ _).mp c_8
        refine lv_aload_n hx hb dX12_text_71 rfl (lv_at hl 0 rfl) ?_
        refine lv_iconst (v := 0) hx hb dX12_text_72 (by decide) ?_
        refine z_put C G clX12 0 rfl 3 (by decide) m_fl_RX12_70 rfl rfl rfl (Nat.le_of_ble_eq_true rfl) dX12_text_73 (fun H locs G => ?_)
        have G : zS T A s.heap s [[zO11 mo m_all m_has (f_all 4) 0 i_where i_token i_number i_word i_wrong i_farCrossing m_read i_z0 i_crossings i_inns m_posts m_shut m_here i_steps i_done i_at i_gone m_was m_came m_seenAt m_rowWorth m_farBy m_used i_everywhere i_again0 i_d0 i_never i_firstCame i_longRun i_moved i_crowd i_l0 i_fitMany i_fitLeast i_fitMost m_fitPost m_fitEnd m_keptPosts i_x0], [zAr T 0 m_all 3952 (upd (upd (upd f_all 4 0) 5 0) 6 (-1))], [zAr T 0 m_read 121 f_read]] _ _ := G
        refine lv_aload_n hx hb dX12_text_76 rfl (lv_at hl 0 rfl) ?_
        refine lv_iconst (v := 0) hx hb dX12_text_77 (by decide) ?_
        refine z_put C G clX12 0 rfl 8 (by decide) m_fl_RX12_104 rfl rfl rfl (Nat.le_of_ble_eq_true rfl) dX12_text_78 (fun H locs G => ?_)
        have G : zS T A s.heap s [[zO11 mo m_all m_has (f_all 4) 0 i_where i_token i_number i_word 0 i_farCrossing m_read i_z0 i_crossings i_inns m_posts m_shut m_here i_steps i_done i_at i_gone m_was m_came m_seenAt m_rowWorth m_farBy m_used i_everywhere i_again0 i_d0 i_never i_firstCame i_longRun i_moved i_crowd i_l0 i_fitMany i_fitLeast i_fitMost m_fitPost m_fitEnd m_keptPosts i_x0], [zAr T 0 m_all 3952 (upd (upd (upd f_all 4 0) 5 0) 6 (-1))], [zAr T 0 m_read 121 f_read]] _ _ := G
        refine lv_aload_n hx hb dX12_text_81 rfl (lv_at hl 0 rfl) ?_
        refine lv_iconst (v := (-1)) hx hb dX12_text_82 (by decide) ?_
        refine z_put C G clX12 0 rfl 9 (by decide) m_fl_RX12_126 rfl rfl rfl (Nat.le_of_ble_eq_true rfl) dX12_text_83 (fun H locs G => ?_)
        have G : zS T A s.heap s [[zO11 mo m_all m_has (f_all 4) 0 i_where i_token i_number i_word 0 (-1) m_read i_z0 i_crossings i_inns m_posts m_shut m_here i_steps i_done i_at i_gone m_was m_came m_seenAt m_rowWorth m_farBy m_used i_everywhere i_again0 i_d0 i_never i_firstCame i_longRun i_moved i_crowd i_l0 i_fitMany i_fitLeast i_fitMost m_fitPost m_fitEnd m_keptPosts i_x0], [zAr T 0 m_all 3952 (upd (upd (upd f_all 4 0) 5 0) 6 (-1))], [zAr T 0 m_read 121 f_read]] _ _ := G
        refine zMt9 (T := T) 237 (fun (xn : Int32) (xw : Int32) (xt : Int32) (xu : Int32) (xo : Int32) (xr : Int32) (xf : Int32) (ga : Nat → Int32) (gr : Nat → Int32) => [[zO11 mo m_all m_has (f_all 4) xn xw xt xu xo xr xf m_read i_z0 i_crossings i_inns m_posts m_shut m_here i_steps i_done i_at i_gone m_was m_came m_seenAt m_rowWorth m_farBy m_used i_everywhere i_again0 i_d0 i_never i_firstCame i_longRun i_moved i_crowd i_l0 i_fitMany i_fitLeast i_fitMost m_fitPost m_fitEnd m_keptPosts i_x0], [zAr T 0 m_all 3952 ga], [zAr T 0 m_read 121 gr]]) (fun (xn : Int32) (xw : Int32) (xt : Int32) (xu : Int32) (xo : Int32) (xr : Int32) (xf : Int32) (ga : Nat → Int32) (gr : Nat → Int32) => [(0, .ref mo), (1, .int 2), (2, .int (-1))]) (fun (xn : Int32) (xw : Int32) (xt : Int32) (xu : Int32) (xo : Int32) (xr : Int32) (xf : Int32) (ga : Nat → Int32) (gr : Nat → Int32) => zCF 8 gr ∧ zPal (upd (upd (upd f_all 4 0) 5 0) 6 (-1)) ga ∧ zRr k N (f_all 4) xn xw xt xu xo xr xf ga (pRead k N 2).1 ∧ (pRead k N 2).2 = gr) G hl ?_ (fun jn_237 => ?_)
        · intro xn xw xt xu xo xr xf ga gr hI9 H locs ls G hl
          replace hI9 : zCF 8 gr ∧ zPal (upd (upd (upd f_all 4 0) 5 0) 6 (-1)) ga ∧ zRr k N (f_all 4) xn xw xt xu xo xr xf ga (pRead k N 2).1 ∧ (pRead k N 2).2 = gr := hI9
          refine zAn4 hI9 ?_
          intro hL hpal hZ1 hZ2
          clear hI9
          replace G : zS T A s.heap s [[zO11 mo m_all m_has (f_all 4) xn xw xt xu xo xr xf m_read i_z0 i_crossings i_inns m_posts m_shut m_here i_steps i_done i_at i_gone m_was m_came m_seenAt m_rowWorth m_farBy m_used i_everywhere i_again0 i_d0 i_never i_firstCame i_longRun i_moved i_crowd i_l0 i_fitMany i_fitLeast i_fitMost m_fitPost m_fitEnd m_keptPosts i_x0], [zAr T 0 m_all 3952 ga], [zAr T 0 m_read 121 gr]] _ _ := G
          replace hl : lv_has ls 5 [(0, .ref mo), (1, .int 2), (2, .int (-1))] := hl
          have hZ5 := hZ1.2.2.2.1
          have hZ6 := hZ1.2.2.2.2.1
          have hZ5i := congrArg Int32.toInt hZ5
          refine lv_aload_n hx hb dX12_text_237 rfl (lv_at hl 0 rfl) ?_
          refine z_get C G clX12 0 rfl 0 (by decide) m_fl_RX12_7 rfl dX12_text_238 ?_
          refine lv_iconst (v := 5) hx hb dX12_text_241 (by decide) ?_
          refine z_ild C G 1 rfl (vp_in_nI (n := 5) (by decide) (by decide)) dX12_text_242 ?_
          refine lv_topi (fun v_9 ev_9 => ?_)
          rw [show ((5 : Int32).toNatClampNeg) = 5 from rfl] at ev_9
          subst ev_9
          refine lv_if_eq (tgt := 248) hx hb dX12_text_243 (by decide) (fun c_10 => ?_) (fun c_10 => ?_)
          · have c_10n : (ga 5).toInt = (0 : Int) := (fa_eq _ _).mp c_10
            refine lv_iload_n hx hb dX12_text_248 rfl (lv_at hl 2 rfl) ?_
            refine lv_iconst (v := (-1)) hx hb dX12_text_249 (by decide) ?_
            refine lv_icmp_ne (tgt := 262) hx hb dX12_text_250 (by decide) (fun q => absurd rfl q) (fun _ => ?_)
            refine lv_aload_n hx hb dX12_text_253 rfl (lv_at hl 0 rfl) ?_
            refine z_get C G clX12 0 rfl 0 (by decide) m_fl_RX12_7 rfl dX12_text_254 ?_
            refine lv_iload_n hx hb dX12_text_257 rfl (lv_at hl 1 rfl) ?_
            refine z_ild C G 1 rfl (vp_in_nI (n := 2) (by decide) (by decide)) dX12_text_258 ?_
            refine lv_topi (fun v_11 ev_11 => ?_)
            rw [show ((2 : Int32).toNatClampNeg) = 2 from rfl] at ev_11
            subst ev_11
            refine lv_goto (tgt := 263) hx hb dX12_text_259 (by decide) ?_
            have hg0 : (ga 2).toInt = (f_all 2).toInt := congrArg Int32.toInt (hpal 2 (by decide) (by decide))
            rcases (show (ga 2).toInt = 0 ∨ (ga 2).toInt = 1 from by omega) with hk | hk
            · rw [show ga 2 = 0 from Int32.toInt_inj.mp hk]
              refine lv_istore_n (lv' := [(3, .int 0), (0, .ref mo), (1, .int 2), (2, .int (-1))]) hx hb dX12_text_263 rfl hl (by decide) rfl (fun ls hl => ?_)
              refine lv_iload_n hx hb dX12_text_264 rfl (lv_at hl 3 rfl) ?_
              refine lv_iconst (v := (-1)) hx hb dX12_text_265 (by decide) ?_
              refine lv_icmp_ne (tgt := 279) hx hb dX12_text_266 (by decide) (fun q => absurd rfl q) (fun _ => ?_)
              refine lv_aload_n hx hb dX12_text_269 rfl (lv_at hl 1 rfl) ?_
              refine z_get C G clX12 0 rfl 0 (by decide) m_fl_RX12_7 rfl dX12_text_270 ?_
              refine lv_iload_n hx hb dX12_text_273 rfl (lv_at hl 2 rfl) ?_
              refine lv_dup2_11 hx hb dX12_text_274 rfl rfl ?_
              refine z_ild C G 1 rfl (vp_in_nI (n := 2) (by decide) (by decide)) dX12_text_275 ?_
              refine lv_topi (fun v_12 ev_12 => ?_)
              rw [show ((2 : Int32).toNatClampNeg) = 2 from rfl] at ev_12
              subst ev_12
              refine lv_iconst (v := 1) hx hb dX12_text_276 (by decide) ?_
              refine lv_iadd hx hb dX12_text_277 ?_
              refine lv_topi (fun y_13 ey_13 => ?_)
              have ey_13i : y_13.toInt = (ga 2).toInt + (1 : Int) := by rw [ey_13]; exact z_iaddI (x := (ga 2)) (y := (1 : Int32)) (by show -2147483648 ≤ (ga 2).toInt + (1 : Int); omega) (by show (ga 2).toInt + (1 : Int) < 2147483648; omega)
              refine z_ist C G 1 rfl (vp_in_nI (n := 2) (by decide) (by decide)) dX12_text_278 (fun H locs G => ?_)
              have G : zS T A s.heap s [[zO11 mo m_all m_has (f_all 4) xn xw xt xu xo xr xf m_read i_z0 i_crossings i_inns m_posts m_shut m_here i_steps i_done i_at i_gone m_was m_came m_seenAt m_rowWorth m_farBy m_used i_everywhere i_again0 i_d0 i_never i_firstCame i_longRun i_moved i_crowd i_l0 i_fitMany i_fitLeast i_fitMost m_fitPost m_fitEnd m_keptPosts i_x0], [zAr T 0 m_all 3952 (upd ga 2 y_13)], [zAr T 0 m_read 121 gr]] _ _ := G
              refine lv_iconst (v := 0) hx hb dX12_text_279 (by decide) ?_
              refine lv_istore (lv' := [(4, .int 0), (3, .int 0), (0, .ref mo), (1, .int 2), (2, .int (-1))]) hx hb dX12_text_280 hl (by decide) rfl (fun ls hl => ?_)
              refine z_lp2 (T := T) 282 (fun (i : Nat) (x : Nat → Int32) => [[zO11 mo m_all m_has (f_all 4) xn xw xt xu xo xr xf m_read i_z0 i_crossings i_inns m_posts m_shut m_here i_steps i_done i_at i_gone m_was m_came m_seenAt m_rowWorth m_farBy m_used i_everywhere i_again0 i_d0 i_never i_firstCame i_longRun i_moved i_crowd i_l0 i_fitMany i_fitLeast i_fitMost m_fitPost m_fitEnd m_keptPosts i_x0], [zAr T 0 m_all 3952 x], [zAr T 0 m_read 121 gr]]) (fun (i : Nat) (x : Nat → Int32) => [(4, .int (nI i)), (3, .int 0), (0, .ref mo), (1, .int 2), (2, .int (-1))]) (fun (i : Nat) (x : Nat → Int32) => i ≤ 17 ∧ (∀ j, j < i → x (954 + j) = gr j) ∧ (∀ j, (j < 954 ∨ 971 ≤ j) → x j = (upd ga 2 y_13) j)) (fun (i : Nat) (x : Nat → Int32) => 17 - i) ?_ 0 (upd ga 2 y_13) (show 0 ≤ 17 ∧ (∀ j, j < 0 → (upd ga 2 y_13) (954 + j) = gr j) ∧ (∀ j, (j < 954 ∨ 971 ≤ j) → (upd ga 2 y_13) j = (upd ga 2 y_13) j) from ⟨by omega, fun j hj => absurd hj (by omega), fun j _ => rfl⟩) G (lv_sub hl [0, 1, 2, 3, 4] rfl)
              intro i x hI9 ih_282 H locs ls G hl
              replace hI9 : i ≤ 17 ∧ (∀ j, j < i → x (954 + j) = gr j) ∧ (∀ j, (j < 954 ∨ 971 ≤ j) → x j = (upd ga 2 y_13) j) := hI9
              refine zAn3 hI9 ?_
              intro hi hS hO
              clear hI9
              replace G : zS T A s.heap s [[zO11 mo m_all m_has (f_all 4) xn xw xt xu xo xr xf m_read i_z0 i_crossings i_inns m_posts m_shut m_here i_steps i_done i_at i_gone m_was m_came m_seenAt m_rowWorth m_farBy m_used i_everywhere i_again0 i_d0 i_never i_firstCame i_longRun i_moved i_crowd i_l0 i_fitMany i_fitLeast i_fitMost m_fitPost m_fitEnd m_keptPosts i_x0], [zAr T 0 m_all 3952 x], [zAr T 0 m_read 121 gr]] _ _ := G
              replace hl : lv_has ls 5 [(4, .int (nI i)), (3, .int 0), (0, .ref mo), (1, .int 2), (2, .int (-1))] := hl
              refine lv_iload hx hb dX12_text_282 (lv_at hl 0 rfl) ?_
              refine lv_iload_n hx hb dX12_text_284 rfl (lv_at hl 3 rfl) ?_
              refine z_Si (bc := []) (br := [[zO11 mo m_all m_has (f_all 4) xn xw xt xu xo xr xf m_read i_z0 i_crossings i_inns m_posts m_shut m_here i_steps i_done i_at i_gone m_was m_came m_seenAt m_rowWorth m_farBy m_used i_everywhere i_again0 i_d0 i_never i_firstCame i_longRun i_moved i_crowd i_l0 i_fitMany i_fitLeast i_fitMost m_fitPost m_fitEnd m_keptPosts i_x0], [zAr T 0 m_all 3952 x], [zAr T 0 m_read 121 gr]]) (As := [.int 2]) (rest := [.int (nI i)]) C G (c_m_sizeOf2 l T) (kS_RX12_160 C.2.2.2.2 (Nat.le_of_ble_eq_true rfl) (Nat.le_of_ble_eq_true rfl)) [] [] rfl rfl rfl rfl hl.1 dX12_text_285 (Nat.le_of_ble_eq_true rfl) (Nat.le_of_ble_eq_true rfl) (fun r_15 b1 H locs hw G => ?_)
              refine zAn2 hw ?_
              intro hbs9 h_14
              clear hw
              subst hbs9
              have G : zS T A s.heap s [[zO11 mo m_all m_has (f_all 4) xn xw xt xu xo xr xf m_read i_z0 i_crossings i_inns m_posts m_shut m_here i_steps i_done i_at i_gone m_was m_came m_seenAt m_rowWorth m_farBy m_used i_everywhere i_again0 i_d0 i_never i_firstCame i_longRun i_moved i_crowd i_l0 i_fitMany i_fitLeast i_fitMost m_fitPost m_fitEnd m_keptPosts i_x0], [zAr T 0 m_all 3952 x], [zAr T 0 m_read 121 gr]] _ _ := G
              subst h_14
              refine lv_icmp_ge (tgt := 317) hx hb dX12_text_288 (by decide) (fun c_16 => ?_) (fun c_16 => ?_)
              · have c_16n : 17 ≤ i := (nI_leI (a := 17) (b := i) (by omega) (by omega)).mp c_16
                refine lv_iload_n hx hb dX12_text_317 rfl (lv_at hl 1 rfl) ?_
                exact z_back hQ9 (z_iret C hr hlocks G (Nat.le_of_ble_eq_true rfl) (Nat.le_of_ble_eq_true rfl) dX12_text_318 ⟨(f_all 4), xn, xw, xt, xu, xo, xr, xf, x, gr, rfl, (zBI_p2 0 (by decide) hB ((hO 4 (by omega)).trans (hpal 4 (by decide) (by decide))) (fun q hq => by
    rw [hO q (by omega)]
    by_cases e9 : q = 2
    · rw [show upd _ 2 _ q = _ from if_pos e9]; omega
    · rw [show upd _ 2 _ q = _ from if_neg e9, show _ = f_all q from (hpal q (by omega) (by omega)).trans (hF q (by omega) (by omega) (by omega))]; exact hB.2.1 q hq) (fun j hj hj2 => (hO j (by omega)).trans ((show upd _ 2 _ j = _ from if_neg (by omega)).trans ((hpal j (by omega) (by omega)).trans (hF j (by omega) (by omega) (by omega))))) (by assumption) (fun j hj => hS j (by omega))), ((hO 4 (by omega)).trans (hpal 4 (by decide) (by decide))), (fun j hj => (hO j (by omega)).trans ((show upd _ 2 _ j = _ from if_neg (by omega)).trans ((hpal j (by omega) (by omega)).trans (hF j (by omega) (by omega) (by omega))))), (zText_k (kk := 0) (A := upd ga 2 y_13) (g := ga) (hoi.mpr (by omega)) (by rw [← hZ5]; omega) ((pNr_y hai).trans (Int32.toInt_inj.mp (by show (f_all 2).toInt = 0; omega))).symm (by rw [pNr_y hai]; show (f_all 2).toInt = 0; omega) hpal hZ5 hZ6 (by rw [pCnt_y hai, ey_13]) (by rw [hZ2]; exact fun j hj => hS j (by have hj : j < 17 := hj; omega)) (fun j hj => hO j (by have hj : j < 954 ∨ 954 + 17 ≤ j := hj; omega)))⟩)
              · have c_16n : ¬ 17 ≤ i := fun q => c_16 ((nI_leI (a := 17) (b := i) (by omega) (by omega)).mpr q)
                refine lv_aload_n hx hb dX12_text_291 rfl (lv_at hl 2 rfl) ?_
                refine z_get C G clX12 0 rfl 0 (by decide) m_fl_RX12_7 rfl dX12_text_292 ?_
                refine lv_iload_n hx hb dX12_text_295 rfl (lv_at hl 3 rfl) ?_
                refine lv_iload_n hx hb dX12_text_296 rfl (lv_at hl 1 rfl) ?_
                refine z_Si (bc := []) (br := [[zO11 mo m_all m_has (f_all 4) xn xw xt xu xo xr xf m_read i_z0 i_crossings i_inns m_posts m_shut m_here i_steps i_done i_at i_gone m_was m_came m_seenAt m_rowWorth m_farBy m_used i_everywhere i_again0 i_d0 i_never i_firstCame i_longRun i_moved i_crowd i_l0 i_fitMany i_fitLeast i_fitMost m_fitPost m_fitEnd m_keptPosts i_x0], [zAr T 0 m_all 3952 x], [zAr T 0 m_read 121 gr]]) (As := [.int 2, .int 0]) (rest := [.ref m_all]) C G (c_m_placeOf20 l T) (kS_RX12_163 C.2.2.2.2 (Nat.le_of_ble_eq_true rfl) (Nat.le_of_ble_eq_true rfl)) [] [] rfl rfl rfl rfl hl.1 dX12_text_297 (Nat.le_of_ble_eq_true rfl) (Nat.le_of_ble_eq_true rfl) (fun r_18 b1 H locs hw G => ?_)
                refine zAn2 hw ?_
                intro hbs9 h_17
                clear hw
                subst hbs9
                have G : zS T A s.heap s [[zO11 mo m_all m_has (f_all 4) xn xw xt xu xo xr xf m_read i_z0 i_crossings i_inns m_posts m_shut m_here i_steps i_done i_at i_gone m_was m_came m_seenAt m_rowWorth m_farBy m_used i_everywhere i_again0 i_d0 i_never i_firstCame i_longRun i_moved i_crowd i_l0 i_fitMany i_fitLeast i_fitMost m_fitPost m_fitEnd m_keptPosts i_x0], [zAr T 0 m_all 3952 x], [zAr T 0 m_read 121 gr]] _ _ := G
                subst h_17
                refine lv_iload hx hb dX12_text_300 (lv_at hl 0 rfl) ?_
                refine lv_iadd hx hb dX12_text_302 ?_
                refine lv_topi (fun y_19 ey_19 => ?_)
                obtain rfl : y_19 = nI (954 + i) := ey_19.trans (z_iaddn 954 i rfl rfl)
                refine lv_aload_n hx hb dX12_text_303 rfl (lv_at hl 2 rfl) ?_
                refine z_get C G clX12 0 rfl 10 (by decide) m_fl_RX12_17 rfl dX12_text_304 ?_
                refine lv_iload hx hb dX12_text_307 (lv_at hl 0 rfl) ?_
                refine z_ild C G 2 rfl (vp_in_nI (by omega) (by omega)) dX12_text_309 ?_
                refine lv_topi (fun v_20 ev_20 => ?_)
                rw [nI_clamp (by omega)] at ev_20
                subst ev_20
                refine z_ist C G 1 rfl (vp_in_nI (by omega) (by omega)) dX12_text_310 (fun H locs G => ?_)
                rw [nI_clamp (by omega)] at G
                have G : zS T A s.heap s [[zO11 mo m_all m_has (f_all 4) xn xw xt xu xo xr xf m_read i_z0 i_crossings i_inns m_posts m_shut m_here i_steps i_done i_at i_gone m_was m_came m_seenAt m_rowWorth m_farBy m_used i_everywhere i_again0 i_d0 i_never i_firstCame i_longRun i_moved i_crowd i_l0 i_fitMany i_fitLeast i_fitMost m_fitPost m_fitEnd m_keptPosts i_x0], [zAr T 0 m_all 3952 (upd x (954 + i) (gr i))], [zAr T 0 m_read 121 gr]] _ _ := G
                refine lv_iinc (v := nI (i + 1)) (lv' := [(4, .int (nI (i + 1))), (3, .int 0), (0, .ref mo), (1, .int 2), (2, .int (-1))]) hx hb dX12_text_311 hl (k := 0) rfl (z_inc i 1) (by decide) rfl (fun ls hl => ?_)
                refine lv_goto (tgt := 282) hx hb dX12_text_314 (by decide) ?_
                exact ih_282 (i + 1) (upd x (954 + i) (gr i)) (show (i + 1) ≤ 17 ∧ (∀ j, j < (i + 1) → (upd x (954 + i) (gr i)) (954 + j) = gr j) ∧ (∀ j, (j < 954 ∨ 971 ≤ j) → (upd x (954 + i) (gr i)) j = (upd ga 2 y_13) j) from ⟨by omega, z_upS hS rfl, z_upO hO (by omega)⟩) (show 17 - (i + 1) < 17 - i from by omega) _ _ ls G (lv_sub hl [0, 1, 2, 3, 4] rfl)
            · rw [show ga 2 = 1 from Int32.toInt_inj.mp hk]
              refine lv_istore_n (lv' := [(3, .int 1), (0, .ref mo), (1, .int 2), (2, .int (-1))]) hx hb dX12_text_263 rfl hl (by decide) rfl (fun ls hl => ?_)
              refine lv_iload_n hx hb dX12_text_264 rfl (lv_at hl 3 rfl) ?_
              refine lv_iconst (v := (-1)) hx hb dX12_text_265 (by decide) ?_
              refine lv_icmp_ne (tgt := 279) hx hb dX12_text_266 (by decide) (fun q => absurd rfl q) (fun _ => ?_)
              refine lv_aload_n hx hb dX12_text_269 rfl (lv_at hl 1 rfl) ?_
              refine z_get C G clX12 0 rfl 0 (by decide) m_fl_RX12_7 rfl dX12_text_270 ?_
              refine lv_iload_n hx hb dX12_text_273 rfl (lv_at hl 2 rfl) ?_
              refine lv_dup2_11 hx hb dX12_text_274 rfl rfl ?_
              refine z_ild C G 1 rfl (vp_in_nI (n := 2) (by decide) (by decide)) dX12_text_275 ?_
              refine lv_topi (fun v_21 ev_21 => ?_)
              rw [show ((2 : Int32).toNatClampNeg) = 2 from rfl] at ev_21
              subst ev_21
              refine lv_iconst (v := 1) hx hb dX12_text_276 (by decide) ?_
              refine lv_iadd hx hb dX12_text_277 ?_
              refine lv_topi (fun y_22 ey_22 => ?_)
              have ey_22i : y_22.toInt = (ga 2).toInt + (1 : Int) := by rw [ey_22]; exact z_iaddI (x := (ga 2)) (y := (1 : Int32)) (by show -2147483648 ≤ (ga 2).toInt + (1 : Int); omega) (by show (ga 2).toInt + (1 : Int) < 2147483648; omega)
              refine z_ist C G 1 rfl (vp_in_nI (n := 2) (by decide) (by decide)) dX12_text_278 (fun H locs G => ?_)
              have G : zS T A s.heap s [[zO11 mo m_all m_has (f_all 4) xn xw xt xu xo xr xf m_read i_z0 i_crossings i_inns m_posts m_shut m_here i_steps i_done i_at i_gone m_was m_came m_seenAt m_rowWorth m_farBy m_used i_everywhere i_again0 i_d0 i_never i_firstCame i_longRun i_moved i_crowd i_l0 i_fitMany i_fitLeast i_fitMost m_fitPost m_fitEnd m_keptPosts i_x0], [zAr T 0 m_all 3952 (upd ga 2 y_22)], [zAr T 0 m_read 121 gr]] _ _ := G
              refine lv_iconst (v := 0) hx hb dX12_text_279 (by decide) ?_
              refine lv_istore (lv' := [(4, .int 0), (3, .int 1), (0, .ref mo), (1, .int 2), (2, .int (-1))]) hx hb dX12_text_280 hl (by decide) rfl (fun ls hl => ?_)
              refine z_lp2 (T := T) 282 (fun (i : Nat) (x : Nat → Int32) => [[zO11 mo m_all m_has (f_all 4) xn xw xt xu xo xr xf m_read i_z0 i_crossings i_inns m_posts m_shut m_here i_steps i_done i_at i_gone m_was m_came m_seenAt m_rowWorth m_farBy m_used i_everywhere i_again0 i_d0 i_never i_firstCame i_longRun i_moved i_crowd i_l0 i_fitMany i_fitLeast i_fitMost m_fitPost m_fitEnd m_keptPosts i_x0], [zAr T 0 m_all 3952 x], [zAr T 0 m_read 121 gr]]) (fun (i : Nat) (x : Nat → Int32) => [(4, .int (nI i)), (3, .int 1), (0, .ref mo), (1, .int 2), (2, .int (-1))]) (fun (i : Nat) (x : Nat → Int32) => i ≤ 17 ∧ (∀ j, j < i → x (971 + j) = gr j) ∧ (∀ j, (j < 971 ∨ 988 ≤ j) → x j = (upd ga 2 y_22) j)) (fun (i : Nat) (x : Nat → Int32) => 17 - i) ?_ 0 (upd ga 2 y_22) (show 0 ≤ 17 ∧ (∀ j, j < 0 → (upd ga 2 y_22) (971 + j) = gr j) ∧ (∀ j, (j < 971 ∨ 988 ≤ j) → (upd ga 2 y_22) j = (upd ga 2 y_22) j) from ⟨by omega, fun j hj => absurd hj (by omega), fun j _ => rfl⟩) G (lv_sub hl [0, 1, 2, 3, 4] rfl)
              intro i x hI9 ih_282 H locs ls G hl
              replace hI9 : i ≤ 17 ∧ (∀ j, j < i → x (971 + j) = gr j) ∧ (∀ j, (j < 971 ∨ 988 ≤ j) → x j = (upd ga 2 y_22) j) := hI9
              refine zAn3 hI9 ?_
              intro hi hS hO
              clear hI9
              replace G : zS T A s.heap s [[zO11 mo m_all m_has (f_all 4) xn xw xt xu xo xr xf m_read i_z0 i_crossings i_inns m_posts m_shut m_here i_steps i_done i_at i_gone m_was m_came m_seenAt m_rowWorth m_farBy m_used i_everywhere i_again0 i_d0 i_never i_firstCame i_longRun i_moved i_crowd i_l0 i_fitMany i_fitLeast i_fitMost m_fitPost m_fitEnd m_keptPosts i_x0], [zAr T 0 m_all 3952 x], [zAr T 0 m_read 121 gr]] _ _ := G
              replace hl : lv_has ls 5 [(4, .int (nI i)), (3, .int 1), (0, .ref mo), (1, .int 2), (2, .int (-1))] := hl
              refine lv_iload hx hb dX12_text_282 (lv_at hl 0 rfl) ?_
              refine lv_iload_n hx hb dX12_text_284 rfl (lv_at hl 3 rfl) ?_
              refine z_Si (bc := []) (br := [[zO11 mo m_all m_has (f_all 4) xn xw xt xu xo xr xf m_read i_z0 i_crossings i_inns m_posts m_shut m_here i_steps i_done i_at i_gone m_was m_came m_seenAt m_rowWorth m_farBy m_used i_everywhere i_again0 i_d0 i_never i_firstCame i_longRun i_moved i_crowd i_l0 i_fitMany i_fitLeast i_fitMost m_fitPost m_fitEnd m_keptPosts i_x0], [zAr T 0 m_all 3952 x], [zAr T 0 m_read 121 gr]]) (As := [.int 2]) (rest := [.int (nI i)]) C G (c_m_sizeOf2 l T) (kS_RX12_160 C.2.2.2.2 (Nat.le_of_ble_eq_true rfl) (Nat.le_of_ble_eq_true rfl)) [] [] rfl rfl rfl rfl hl.1 dX12_text_285 (Nat.le_of_ble_eq_true rfl) (Nat.le_of_ble_eq_true rfl) (fun r_24 b1 H locs hw G => ?_)
              refine zAn2 hw ?_
              intro hbs9 h_23
              clear hw
              subst hbs9
              have G : zS T A s.heap s [[zO11 mo m_all m_has (f_all 4) xn xw xt xu xo xr xf m_read i_z0 i_crossings i_inns m_posts m_shut m_here i_steps i_done i_at i_gone m_was m_came m_seenAt m_rowWorth m_farBy m_used i_everywhere i_again0 i_d0 i_never i_firstCame i_longRun i_moved i_crowd i_l0 i_fitMany i_fitLeast i_fitMost m_fitPost m_fitEnd m_keptPosts i_x0], [zAr T 0 m_all 3952 x], [zAr T 0 m_read 121 gr]] _ _ := G
              subst h_23
              refine lv_icmp_ge (tgt := 317) hx hb dX12_text_288 (by decide) (fun c_25 => ?_) (fun c_25 => ?_)
              · have c_25n : 17 ≤ i := (nI_leI (a := 17) (b := i) (by omega) (by omega)).mp c_25
                refine lv_iload_n hx hb dX12_text_317 rfl (lv_at hl 1 rfl) ?_
                exact z_back hQ9 (z_iret C hr hlocks G (Nat.le_of_ble_eq_true rfl) (Nat.le_of_ble_eq_true rfl) dX12_text_318 ⟨(f_all 4), xn, xw, xt, xu, xo, xr, xf, x, gr, rfl, (zBI_p2 1 (by decide) hB ((hO 4 (by omega)).trans (hpal 4 (by decide) (by decide))) (fun q hq => by
    rw [hO q (by omega)]
    by_cases e9 : q = 2
    · rw [show upd _ 2 _ q = _ from if_pos e9]; omega
    · rw [show upd _ 2 _ q = _ from if_neg e9, show _ = f_all q from (hpal q (by omega) (by omega)).trans (hF q (by omega) (by omega) (by omega))]; exact hB.2.1 q hq) (fun j hj hj2 => (hO j (by omega)).trans ((show upd _ 2 _ j = _ from if_neg (by omega)).trans ((hpal j (by omega) (by omega)).trans (hF j (by omega) (by omega) (by omega))))) (by assumption) (fun j hj => hS j (by omega))), ((hO 4 (by omega)).trans (hpal 4 (by decide) (by decide))), (fun j hj => (hO j (by omega)).trans ((show upd _ 2 _ j = _ from if_neg (by omega)).trans ((hpal j (by omega) (by omega)).trans (hF j (by omega) (by omega) (by omega))))), (zText_k (kk := 1) (A := upd ga 2 y_22) (g := ga) (hoi.mpr (by omega)) (by rw [← hZ5]; omega) ((pNr_y hai).trans (Int32.toInt_inj.mp (by show (f_all 2).toInt = 1; omega))).symm (by rw [pNr_y hai]; show (f_all 2).toInt = 1; omega) hpal hZ5 hZ6 (by rw [pCnt_y hai, ey_22]) (by rw [hZ2]; exact fun j hj => hS j (by have hj : j < 17 := hj; omega)) (fun j hj => hO j (by have hj : j < 971 ∨ 971 + 17 ≤ j := hj; omega)))⟩)
              · have c_25n : ¬ 17 ≤ i := fun q => c_25 ((nI_leI (a := 17) (b := i) (by omega) (by omega)).mpr q)
                refine lv_aload_n hx hb dX12_text_291 rfl (lv_at hl 2 rfl) ?_
                refine z_get C G clX12 0 rfl 0 (by decide) m_fl_RX12_7 rfl dX12_text_292 ?_
                refine lv_iload_n hx hb dX12_text_295 rfl (lv_at hl 3 rfl) ?_
                refine lv_iload_n hx hb dX12_text_296 rfl (lv_at hl 1 rfl) ?_
                refine z_Si (bc := []) (br := [[zO11 mo m_all m_has (f_all 4) xn xw xt xu xo xr xf m_read i_z0 i_crossings i_inns m_posts m_shut m_here i_steps i_done i_at i_gone m_was m_came m_seenAt m_rowWorth m_farBy m_used i_everywhere i_again0 i_d0 i_never i_firstCame i_longRun i_moved i_crowd i_l0 i_fitMany i_fitLeast i_fitMost m_fitPost m_fitEnd m_keptPosts i_x0], [zAr T 0 m_all 3952 x], [zAr T 0 m_read 121 gr]]) (As := [.int 2, .int 1]) (rest := [.ref m_all]) C G (c_m_placeOf21 l T) (kS_RX12_163 C.2.2.2.2 (Nat.le_of_ble_eq_true rfl) (Nat.le_of_ble_eq_true rfl)) [] [] rfl rfl rfl rfl hl.1 dX12_text_297 (Nat.le_of_ble_eq_true rfl) (Nat.le_of_ble_eq_true rfl) (fun r_27 b1 H locs hw G => ?_)
                refine zAn2 hw ?_
                intro hbs9 h_26
                clear hw
                subst hbs9
                have G : zS T A s.heap s [[zO11 mo m_all m_has (f_all 4) xn xw xt xu xo xr xf m_read i_z0 i_crossings i_inns m_posts m_shut m_here i_steps i_done i_at i_gone m_was m_came m_seenAt m_rowWorth m_farBy m_used i_everywhere i_again0 i_d0 i_never i_firstCame i_longRun i_moved i_crowd i_l0 i_fitMany i_fitLeast i_fitMost m_fitPost m_fitEnd m_keptPosts i_x0], [zAr T 0 m_all 3952 x], [zAr T 0 m_read 121 gr]] _ _ := G
                subst h_26
                refine lv_iload hx hb dX12_text_300 (lv_at hl 0 rfl) ?_
                refine lv_iadd hx hb dX12_text_302 ?_
                refine lv_topi (fun y_28 ey_28 => ?_)
                obtain rfl : y_28 = nI (971 + i) := ey_28.trans (z_iaddn 971 i rfl rfl)
                refine lv_aload_n hx hb dX12_text_303 rfl (lv_at hl 2 rfl) ?_
                refine z_get C G clX12 0 rfl 10 (by decide) m_fl_RX12_17 rfl dX12_text_304 ?_
                refine lv_iload hx hb dX12_text_307 (lv_at hl 0 rfl) ?_
                refine z_ild C G 2 rfl (vp_in_nI (by omega) (by omega)) dX12_text_309 ?_
                refine lv_topi (fun v_29 ev_29 => ?_)
                rw [nI_clamp (by omega)] at ev_29
                subst ev_29
                refine z_ist C G 1 rfl (vp_in_nI (by omega) (by omega)) dX12_text_310 (fun H locs G => ?_)
                rw [nI_clamp (by omega)] at G
                have G : zS T A s.heap s [[zO11 mo m_all m_has (f_all 4) xn xw xt xu xo xr xf m_read i_z0 i_crossings i_inns m_posts m_shut m_here i_steps i_done i_at i_gone m_was m_came m_seenAt m_rowWorth m_farBy m_used i_everywhere i_again0 i_d0 i_never i_firstCame i_longRun i_moved i_crowd i_l0 i_fitMany i_fitLeast i_fitMost m_fitPost m_fitEnd m_keptPosts i_x0], [zAr T 0 m_all 3952 (upd x (971 + i) (gr i))], [zAr T 0 m_read 121 gr]] _ _ := G
                refine lv_iinc (v := nI (i + 1)) (lv' := [(4, .int (nI (i + 1))), (3, .int 1), (0, .ref mo), (1, .int 2), (2, .int (-1))]) hx hb dX12_text_311 hl (k := 0) rfl (z_inc i 1) (by decide) rfl (fun ls hl => ?_)
                refine lv_goto (tgt := 282) hx hb dX12_text_314 (by decide) ?_
                exact ih_282 (i + 1) (upd x (971 + i) (gr i)) (show (i + 1) ≤ 17 ∧ (∀ j, j < (i + 1) → (upd x (971 + i) (gr i)) (971 + j) = gr j) ∧ (∀ j, (j < 971 ∨ 988 ≤ j) → (upd x (971 + i) (gr i)) j = (upd ga 2 y_22) j) from ⟨by omega, z_upS hS rfl, z_upO hO (by omega)⟩) (show 17 - (i + 1) < 17 - i from by omega) _ _ ls G (lv_sub hl [0, 1, 2, 3, 4] rfl)
          · have c_10n : ¬ (ga 5).toInt = (0 : Int) := fun q => c_10 ((fa_eq _ _).mpr q)
            refine lv_iconst (v := (-1)) hx hb dX12_text_246 (by decide) ?_
            exact z_back hQ9 (z_iret C hr hlocks G (Nat.le_of_ble_eq_true rfl) (Nat.le_of_ble_eq_true rfl) dX12_text_247 ⟨(f_all 4), xn, xw, xt, xu, xo, xr, xf, ga, gr, rfl, (zBI_hd hB (hpal 4 (by decide) (by decide)) (fun q hq => by rw [show _ = f_all q from (hpal q (by omega) (by omega)).trans (hF q (by omega) (by omega) (by omega))]; exact hB.2.1 q hq) (fun j hj => (hpal j (by omega) (by omega)).trans (hF j (by omega) (by omega) (by omega)))), (hpal 4 (by decide) (by decide)), (fun j hj => (hpal j (by omega) (by omega)).trans (hF j (by omega) (by omega) (by omega))), (zText_f (hoi.mpr (by omega)) (by rw [← hZ5]; omega) hpal hZ5 hZ6)⟩)
        refine lv_iconst (v := 0) hx hb dX12_text_86 (by decide) ?_
        refine lv_istore_n (lv' := [(3, .int 0), (0, .ref mo), (1, .int 2), (2, .int (-1))]) hx hb dX12_text_87 rfl hl (by decide) rfl (fun ls hl => ?_)
        refine z_lp2 (T := T) 88 (fun (k_ : Nat) (z : Nat → Int32) => [[zO11 mo m_all m_has (f_all 4) 0 i_where i_token i_number i_word 0 (-1) m_read i_z0 i_crossings i_inns m_posts m_shut m_here i_steps i_done i_at i_gone m_was m_came m_seenAt m_rowWorth m_farBy m_used i_everywhere i_again0 i_d0 i_never i_firstCame i_longRun i_moved i_crowd i_l0 i_fitMany i_fitLeast i_fitMost m_fitPost m_fitEnd m_keptPosts i_x0], [zAr T 0 m_all 3952 (upd (upd (upd f_all 4 0) 5 0) 6 (-1))], [zAr T 0 m_read 121 z]]) (fun (k_ : Nat) (z : Nat → Int32) => [(3, .int (nI k_)), (0, .ref mo), (1, .int 2), (2, .int (-1))]) (fun (k_ : Nat) (z : Nat → Int32) => k_ ≤ 121 ∧ (∀ j, j < k_ → z j = 0)) (fun (k_ : Nat) (z : Nat → Int32) => 121 - k_) ?_ 0 f_read (show 0 ≤ 121 ∧ (∀ j, j < 0 → f_read j = 0) from ⟨by omega, fun j hj => absurd hj (by omega)⟩) G (lv_sub hl [0, 1, 2, 3] rfl)
        intro k_ z hI9 ih_88 H locs ls G hl
        replace hI9 : k_ ≤ 121 ∧ (∀ j, j < k_ → z j = 0) := hI9
        refine zAn2 hI9 ?_
        intro hk_ hZ
        clear hI9
        replace G : zS T A s.heap s [[zO11 mo m_all m_has (f_all 4) 0 i_where i_token i_number i_word 0 (-1) m_read i_z0 i_crossings i_inns m_posts m_shut m_here i_steps i_done i_at i_gone m_was m_came m_seenAt m_rowWorth m_farBy m_used i_everywhere i_again0 i_d0 i_never i_firstCame i_longRun i_moved i_crowd i_l0 i_fitMany i_fitLeast i_fitMost m_fitPost m_fitEnd m_keptPosts i_x0], [zAr T 0 m_all 3952 (upd (upd (upd f_all 4 0) 5 0) 6 (-1))], [zAr T 0 m_read 121 z]] _ _ := G
        replace hl : lv_has ls 5 [(3, .int (nI k_)), (0, .ref mo), (1, .int 2), (2, .int (-1))] := hl
        refine lv_iload_n hx hb dX12_text_88 rfl (lv_at hl 0 rfl) ?_
        refine lv_bipush (v := 121) hx hb dX12_text_89 (by decide) ?_
        refine lv_icmp_ge (tgt := 107) hx hb dX12_text_91 (by decide) (fun c_30 => ?_) (fun c_30 => ?_)
        · have c_30n : 121 ≤ k_ := (nI_leI (a := 121) (b := k_) (by omega) (by omega)).mp c_30
          have G := z_cg G 2 rfl (fun _ => 0) (fun j hj => hZ j (by omega))
          have G : zS T A s.heap s [[zO11 mo m_all m_has (f_all 4) 0 i_where i_token i_number i_word 0 (-1) m_read i_z0 i_crossings i_inns m_posts m_shut m_here i_steps i_done i_at i_gone m_was m_came m_seenAt m_rowWorth m_farBy m_used i_everywhere i_again0 i_d0 i_never i_firstCame i_longRun i_moved i_crowd i_l0 i_fitMany i_fitLeast i_fitMost m_fitPost m_fitEnd m_keptPosts i_x0], [zAr T 0 m_all 3952 (upd (upd (upd f_all 4 0) 5 0) 6 (-1))], [zAr T 0 m_read 121 (fun _ => 0)]] _ _ := G
          refine lv_aload_n hx hb dX12_text_107 rfl (lv_at hl 1 rfl) ?_
          refine z_Vv (bc := [[zO11 mo m_all m_has (f_all 4) 0 i_where i_token i_number i_word 0 (-1) m_read i_z0 i_crossings i_inns m_posts m_shut m_here i_steps i_done i_at i_gone m_was m_came m_seenAt m_rowWorth m_farBy m_used i_everywhere i_again0 i_d0 i_never i_firstCame i_longRun i_moved i_crowd i_l0 i_fitMany i_fitLeast i_fitMost m_fitPost m_fitEnd m_keptPosts i_x0], [zAr T 0 m_all 3952 (upd (upd (upd f_all 4 0) 5 0) 6 (-1))]]) (br := [[zAr T 0 m_read 121 (fun _ => 0)]]) (As := []) (rest := []) C G (c_fm_advance l T mo m_all m_has (f_all 4) 0 i_where i_token i_number i_word 0 (-1) m_read i_z0 i_crossings i_inns m_posts m_shut m_here i_steps i_done i_at i_gone m_was m_came m_seenAt m_rowWorth m_farBy m_used i_everywhere i_again0 i_d0 i_never i_firstCame i_longRun i_moved i_crowd i_l0 i_fitMany i_fitLeast i_fitMost m_fitPost m_fitEnd m_keptPosts i_x0 (upd (upd (upd f_all 4 0) 5 0) 6 (-1)) 0 N k hsN rfl (Nat.zero_le _) hN6 (hk.trans (congrArg (fun q9 => tkT q9 N) (funext fun j => ((z_ne (by omega)).trans ((z_ne (by omega)).trans (z_ne (by omega)))).symm))) (fun j hj => by rw [z_ne (by omega), z_ne (by omega), z_ne (by omega)]; exact hby j hj)) (kV_RX12_119 C.2.2.2.2 (Nat.le_of_ble_eq_true rfl) (Nat.le_of_ble_eq_true rfl)) [0, 1] [0, 0] rfl rfl (ci := 11) (qc := (RX12, TX12, 43)) rfl rfl (List.mem_flatten.mpr ⟨_, List.mem_of_getElem? (i := 0) rfl, List.mem_cons_self⟩) rfl rfl hl.1 dX12_text_108 (Nat.le_of_ble_eq_true rfl) (Nat.le_of_ble_eq_true rfl) (fun b1 H locs hw G => ?_)
          refine zEx5 hw ?_
          intro j_next_31 j_where_32 j_token_33 j_number_34 j_word_35
          refine zCu8 ?_
          intro hbs9 h_36 h_37 h_38 h_39 h_40 h_41 h_42
          clear hw
          subst hbs9
          have G : zS T A s.heap s [[zAr T 0 m_read 121 (fun _ => 0)], [zO11 mo m_all m_has (f_all 4) j_next_31 j_where_32 j_token_33 j_number_34 j_word_35 0 (-1) m_read i_z0 i_crossings i_inns m_posts m_shut m_here i_steps i_done i_at i_gone m_was m_came m_seenAt m_rowWorth m_farBy m_used i_everywhere i_again0 i_d0 i_never i_firstCame i_longRun i_moved i_crowd i_l0 i_fitMany i_fitLeast i_fitMost m_fitPost m_fitEnd m_keptPosts i_x0], [zAr T 0 m_all 3952 (upd (upd (upd f_all 4 0) 5 0) 6 (-1))]] _ _ := G
          have h_38 : (0 : Int) ≤ j_next_31.toInt := h_38
          have h_39 : (j_token_33.toInt = 0 ∨ (0 : Int) < j_next_31.toInt) := h_39
          refine z_lp11 (T := T) 111 (fun (xn : Int32) (xw : Int32) (xt : Int32) (xu : Int32) (xo : Int32) (xr : Int32) (xf : Int32) (ga : Nat → Int32) (gr : Nat → Int32) (A9 : pS) (j : Nat) => [[zAr T 0 m_read 121 gr], [zO11 mo m_all m_has (f_all 4) xn xw xt xu xo xr xf m_read i_z0 i_crossings i_inns m_posts m_shut m_here i_steps i_done i_at i_gone m_was m_came m_seenAt m_rowWorth m_farBy m_used i_everywhere i_again0 i_d0 i_never i_firstCame i_longRun i_moved i_crowd i_l0 i_fitMany i_fitLeast i_fitMost m_fitPost m_fitEnd m_keptPosts i_x0], [zAr T 0 m_all 3952 ga]]) (fun (xn : Int32) (xw : Int32) (xt : Int32) (xu : Int32) (xo : Int32) (xr : Int32) (xf : Int32) (ga : Nat → Int32) (gr : Nat → Int32) (A9 : pS) (j : Nat) => [(0, .ref mo), (1, .int 2), (2, .int (-1))]) (fun (xn : Int32) (xw : Int32) (xt : Int32) (xu : Int32) (xo : Int32) (xr : Int32) (xf : Int32) (ga : Nat → Int32) (gr : Nat → Int32) (A9 : pS) (j : Nat) => zCF 8 gr ∧ 0 ≤ xn.toInt ∧ xn.toInt ≤ (f_all 4).toInt ∧ zPal (upd (upd (upd f_all 4 0) 5 0) 6 (-1)) ga ∧ zRr k N (f_all 4) xn xw xt xu xo xr xf ga A9 ∧ pLines k 2 (601 - j) A9 gr = pLines k 2 601 (0, 0, 0, -1, -1) (fun _ => 0) ∧ (¬ xr.toInt = 0 ∨ xt.toInt = 0 ∨ (j : Int) < xn.toInt)) (fun (xn : Int32) (xw : Int32) (xt : Int32) (xu : Int32) (xo : Int32) (xr : Int32) (xf : Int32) (ga : Nat → Int32) (gr : Nat → Int32) (A9 : pS) (j : Nat) => zMu xr xt xn (f_all 4)) ?_ j_next_31 j_where_32 j_token_33 j_number_34 j_word_35 0 (-1) (upd (upd (upd f_all 4 0) 5 0) 6 (-1)) (fun _ => 0) (0, 0, 0, -1, -1) 0 (show zCF 8 (fun _ => 0) ∧ 0 ≤ j_next_31.toInt ∧ j_next_31.toInt ≤ (f_all 4).toInt ∧ zPal (upd (upd (upd f_all 4 0) 5 0) 6 (-1)) (upd (upd (upd f_all 4 0) 5 0) 6 (-1)) ∧ zRr k N (f_all 4) j_next_31 j_where_32 j_token_33 j_number_34 j_word_35 0 (-1) (upd (upd (upd f_all 4 0) 5 0) 6 (-1)) (0, 0, 0, -1, -1) ∧ pLines k 2 (601 - 0) (0, 0, 0, -1, -1) (fun _ => 0) = pLines k 2 601 (0, 0, 0, -1, -1) (fun _ => 0) ∧ (¬ (0 : Int32).toInt = 0 ∨ j_token_33.toInt = 0 ∨ (0 : Int) < j_next_31.toInt) from ⟨(zCF_z (by decide) (fun j hj => rfl)), by omega, by omega, (zPal_rf _), (zRr_st hk hby hN6 hsN h_42), rfl, by omega⟩) G (lv_sub hl [1, 2, 3] rfl)
          intro xn xw xt xu xo xr xf ga gr A9 j hI9 ih_111 H locs ls G hl
          replace hI9 : zCF 8 gr ∧ 0 ≤ xn.toInt ∧ xn.toInt ≤ (f_all 4).toInt ∧ zPal (upd (upd (upd f_all 4 0) 5 0) 6 (-1)) ga ∧ zRr k N (f_all 4) xn xw xt xu xo xr xf ga A9 ∧ pLines k 2 (601 - j) A9 gr = pLines k 2 601 (0, 0, 0, -1, -1) (fun _ => 0) ∧ (¬ xr.toInt = 0 ∨ xt.toInt = 0 ∨ (j : Int) < xn.toInt) := hI9
          refine zAn7 hI9 ?_
          intro hL hx1 hx2 hpal hRA hEq hpj
          clear hI9
          replace G : zS T A s.heap s [[zAr T 0 m_read 121 gr], [zO11 mo m_all m_has (f_all 4) xn xw xt xu xo xr xf m_read i_z0 i_crossings i_inns m_posts m_shut m_here i_steps i_done i_at i_gone m_was m_came m_seenAt m_rowWorth m_farBy m_used i_everywhere i_again0 i_d0 i_never i_firstCame i_longRun i_moved i_crowd i_l0 i_fitMany i_fitLeast i_fitMost m_fitPost m_fitEnd m_keptPosts i_x0], [zAr T 0 m_all 3952 ga]] _ _ := G
          replace hl : lv_has ls 5 [(0, .ref mo), (1, .int 2), (2, .int (-1))] := hl
          refine lv_aload_n hx hb dX12_text_111 rfl (lv_at hl 0 rfl) ?_
          have hokA := zRr_ok hRA
          refine zAn6 (id hRA) ?_
          intro hA1A hA6A hA7A hA8A hA9A hA10A
          replace hA7A : zHd _ := hA7A
          have hkaA : zHd _ := hokA A9.1 hA1A.2.2.2.2
          have hkbA := hkaA.1
          have hkcA := hkaA.2.1
          have hT4A := pTk_le hokA hA1A.2.2.2.2
          refine z_get C G clX12 1 rfl 8 (by decide) m_fl_RX12_104 rfl dX12_text_112 ?_
          refine lv_if_ne (tgt := 173) hx hb dX12_text_115 (by decide) (fun c_44 => ?_) (fun c_44 => ?_)
          · have c_44n : ¬ xr.toInt = (0 : Int) := fun q => c_44 ((fa_eq _ _).mpr q)
            have hX := hEq.symm.trans (pLines_x (fun z9 => by first | (exact absurd z9.1 (by rw [← hA6A]; omega)) | (exact z9.2 (by omega))))
            have hRd := pRead_e (n := N) hX
            have hww : zHd (A9.2.1.toInt = 0 → xw = nI N) := fun z9 => by first | (exact absurd z9 (by rw [← hA6A]; omega)) | (rw [t2A, hkaA.2.2.1 (pTk_0.mp (by omega))])
            refine lv_iload_n hx hb dX12_text_173 rfl (lv_at hl 1 rfl) ?_
            refine lv_if_ne (tgt := 208) hx hb dX12_text_174 (by decide) (fun _ => ?_) (fun q => absurd q (by decide))
            refine lv_iload_n hx hb dX12_text_208 rfl (lv_at hl 1 rfl) ?_
            refine lv_if_ne (tgt := 237) hx hb dX12_text_209 (by decide) (fun _ => ?_) (fun q => absurd q (by decide))
            have hZ1 : zRr k N (f_all 4) xn xw xt xu xo xr xf ga (pRead k N 2).1 := by rw [hRd, pFin_s (by decide)]; exact hRA
            have hZ2 : (pRead k N 2).2 = gr := by rw [hRd, pFin_s (by decide)]
            have hZ5 := hZ1.2.2.2.1
            have hZ6 := hZ1.2.2.2.2.1
            have hZ5i := congrArg Int32.toInt hZ5
            have G := G.sub (bs' := [[zO11 mo m_all m_has (f_all 4) xn xw xt xu xo xr xf m_read i_z0 i_crossings i_inns m_posts m_shut m_here i_steps i_done i_at i_gone m_was m_came m_seenAt m_rowWorth m_farBy m_used i_everywhere i_again0 i_d0 i_never i_firstCame i_longRun i_moved i_crowd i_l0 i_fitMany i_fitLeast i_fitMost m_fitPost m_fitEnd m_keptPosts i_x0], [zAr T 0 m_all 3952 ga], [zAr T 0 m_read 121 gr]]) [1, 2, 0] rfl
            exact jn_237 xn xw xt xu xo xr xf ga gr (show zCF 8 gr ∧ zPal (upd (upd (upd f_all 4 0) 5 0) 6 (-1)) ga ∧ zRr k N (f_all 4) xn xw xt xu xo xr xf ga (pRead k N 2).1 ∧ (pRead k N 2).2 = gr from ⟨(by assumption), hpal, hZ1, hZ2⟩) _ _ ls G (lv_sub hl [0, 1, 2] rfl)
          · have c_44n : xr.toInt = (0 : Int) := (fa_eq _ _).mp c_44
            have hwA : A9.2.1.toInt = 0 := by rw [← hA6A]; omega
            refine zAn5 (hA7A hwA) ?_
            intro t1A t2A t3A t4A t5A
            replace t4A : zHd _ := t4A
            replace t5A : zHd _ := t5A
            have t3iA : xt.toInt = (pTk k A9.1 : Int) := by rw [t3A]; exact nI_toInt (by omega)
            refine lv_aload_n hx hb dX12_text_118 rfl (lv_at hl 0 rfl) ?_
            refine z_get C G clX12 1 rfl 5 (by decide) m_fl_RX12_80 rfl dX12_text_119 ?_
            refine lv_if_eq (tgt := 173) hx hb dX12_text_122 (by decide) (fun c_45 => ?_) (fun c_45 => ?_)
            · have c_45n : xt.toInt = (0 : Int) := (fa_eq _ _).mp c_45
              have hX := hEq.symm.trans (pLines_x (fun z9 => by first | (exact absurd z9.1 (by rw [← hA6A]; omega)) | (exact z9.2 (by omega))))
              have hRd := pRead_e (n := N) hX
              have hww : zHd (A9.2.1.toInt = 0 → xw = nI N) := fun z9 => by first | (exact absurd z9 (by rw [← hA6A]; omega)) | (rw [t2A, hkaA.2.2.1 (pTk_0.mp (by omega))])
              refine lv_iload_n hx hb dX12_text_173 rfl (lv_at hl 1 rfl) ?_
              refine lv_if_ne (tgt := 208) hx hb dX12_text_174 (by decide) (fun _ => ?_) (fun q => absurd q (by decide))
              refine lv_iload_n hx hb dX12_text_208 rfl (lv_at hl 1 rfl) ?_
              refine lv_if_ne (tgt := 237) hx hb dX12_text_209 (by decide) (fun _ => ?_) (fun q => absurd q (by decide))
              have hZ1 : zRr k N (f_all 4) xn xw xt xu xo xr xf ga (pRead k N 2).1 := by rw [hRd, pFin_s (by decide)]; exact hRA
              have hZ2 : (pRead k N 2).2 = gr := by rw [hRd, pFin_s (by decide)]
              have hZ5 := hZ1.2.2.2.1
              have hZ6 := hZ1.2.2.2.2.1
              have hZ5i := congrArg Int32.toInt hZ5
              have G := G.sub (bs' := [[zO11 mo m_all m_has (f_all 4) xn xw xt xu xo xr xf m_read i_z0 i_crossings i_inns m_posts m_shut m_here i_steps i_done i_at i_gone m_was m_came m_seenAt m_rowWorth m_farBy m_used i_everywhere i_again0 i_d0 i_never i_firstCame i_longRun i_moved i_crowd i_l0 i_fitMany i_fitLeast i_fitMost m_fitPost m_fitEnd m_keptPosts i_x0], [zAr T 0 m_all 3952 ga], [zAr T 0 m_read 121 gr]]) [1, 2, 0] rfl
              exact jn_237 xn xw xt xu xo xr xf ga gr (show zCF 8 gr ∧ zPal (upd (upd (upd f_all 4 0) 5 0) 6 (-1)) ga ∧ zRr k N (f_all 4) xn xw xt xu xo xr xf ga (pRead k N 2).1 ∧ (pRead k N 2).2 = gr from ⟨(by assumption), hpal, hZ1, hZ2⟩) _ _ ls G (lv_sub hl [0, 1, 2] rfl)
            · have c_45n : ¬ xt.toInt = (0 : Int) := fun q => c_45 ((fa_eq _ _).mpr q)
              have htA : ¬ pTk k A9.1 = 0 := by omega
              refine lv_iload_n hx hb dX12_text_125 rfl (lv_at hl 1 rfl) ?_
              refine lv_lookup (tgt := 166) hx hb dX12_text_126 (by decide) rfl (by decide) ?_
              refine lv_aload_n hx hb dX12_text_166 rfl (lv_at hl 0 rfl) ?_
              refine z_Vv (bc := [[zO11 mo m_all m_has (f_all 4) xn xw xt xu xo xr xf m_read i_z0 i_crossings i_inns m_posts m_shut m_here i_steps i_done i_at i_gone m_was m_came m_seenAt m_rowWorth m_farBy m_used i_everywhere i_again0 i_d0 i_never i_firstCame i_longRun i_moved i_crowd i_l0 i_fitMany i_fitLeast i_fitMost m_fitPost m_fitEnd m_keptPosts i_x0], [zAr T 0 m_all 3952 ga], [zAr T 0 m_read 121 gr]]) (br := []) (As := []) (rest := []) C G (c_fm_logLine l T mo m_all m_has (f_all 4) xn xw xt xu xo xr xf m_read i_z0 i_crossings i_inns m_posts m_shut m_here i_steps i_done i_at i_gone m_was m_came m_seenAt m_rowWorth m_farBy m_used i_everywhere i_again0 i_d0 i_never i_firstCame i_longRun i_moved i_crowd i_l0 i_fitMany i_fitLeast i_fitMost m_fitPost m_fitEnd m_keptPosts i_x0 ga gr k N A9 (by first | with_reducible assumption | with_reducible rfl | omega | assumption | rfl) (by first | with_reducible assumption | with_reducible rfl | omega | assumption | rfl) (by first | with_reducible assumption | with_reducible rfl | omega | assumption | rfl) (by first | with_reducible assumption | with_reducible rfl | omega | assumption | rfl) hRA hwA) (kV_RX12_153 C.2.2.2.2 (Nat.le_of_ble_eq_true rfl) (Nat.le_of_ble_eq_true rfl)) [1, 2, 0] [0, 0, 0] rfl rfl (ci := 11) (qc := (RX12, TX12, 43)) rfl rfl (List.mem_flatten.mpr ⟨_, List.mem_of_getElem? (i := 0) rfl, List.mem_cons_self⟩) rfl rfl hl.1 dX12_text_167 (Nat.le_of_ble_eq_true rfl) (Nat.le_of_ble_eq_true rfl) (fun b1 H locs hw G => ?_)
              refine zEx8 hw ?_
              intro j_next_46 j_where_47 j_token_48 j_number_49 j_word_50 j_wrong_51 g_all_52 g_read_53
              refine zCu9 ?_
              intro hbs9 h_54 h_55 h_56 h_57 h_58 h_59 h_60 h_61
              clear hw
              subst hbs9
              have G : zS T A s.heap s [[zO11 mo m_all m_has (f_all 4) j_next_46 j_where_47 j_token_48 j_number_49 j_word_50 j_wrong_51 xf m_read i_z0 i_crossings i_inns m_posts m_shut m_here i_steps i_done i_at i_gone m_was m_came m_seenAt m_rowWorth m_farBy m_used i_everywhere i_again0 i_d0 i_never i_firstCame i_longRun i_moved i_crowd i_l0 i_fitMany i_fitLeast i_fitMost m_fitPost m_fitEnd m_keptPosts i_x0], [zAr T 0 m_all 3952 g_all_52], [zAr T 0 m_read 121 g_read_53]] _ _ := G
              have hnR : zRr k N (f_all 4) j_next_46 j_where_47 j_token_48 j_number_49 j_word_50 j_wrong_51 xf g_all_52 (pLine k 2 A9 gr).1 := by rw [pLine_2]; exact h_60
              have hnG : g_read_53 = (pLine k 2 A9 gr).2 := by rw [pLine_2]; exact h_61
              refine lv_goto (tgt := 111) hx hb dX12_text_170 (by decide) ?_
              have G := G.sub (bs' := [[zAr T 0 m_read 121 g_read_53], [zO11 mo m_all m_has (f_all 4) j_next_46 j_where_47 j_token_48 j_number_49 j_word_50 j_wrong_51 xf m_read i_z0 i_crossings i_inns m_posts m_shut m_here i_steps i_done i_at i_gone m_was m_came m_seenAt m_rowWorth m_farBy m_used i_everywhere i_again0 i_d0 i_never i_firstCame i_longRun i_moved i_crowd i_l0 i_fitMany i_fitLeast i_fitMost m_fitPost m_fitEnd m_keptPosts i_x0], [zAr T 0 m_all 3952 g_all_52]]) [2, 0, 1] rfl
              exact ih_111 j_next_46 j_where_47 j_token_48 j_number_49 j_word_50 j_wrong_51 xf g_all_52 g_read_53 ((pLine k 2 A9 gr).1) (j + 1) (show zCF 8 g_read_53 ∧ 0 ≤ j_next_46.toInt ∧ j_next_46.toInt ≤ (f_all 4).toInt ∧ zPal (upd (upd (upd f_all 4 0) 5 0) 6 (-1)) g_all_52 ∧ zRr k N (f_all 4) j_next_46 j_where_47 j_token_48 j_number_49 j_word_50 j_wrong_51 xf g_all_52 ((pLine k 2 A9 gr).1) ∧ pLines k 2 (601 - (j + 1)) ((pLine k 2 A9 gr).1) g_read_53 = pLines k 2 601 (0, 0, 0, -1, -1) (fun _ => 0) ∧ (¬ j_wrong_51.toInt = 0 ∨ j_token_48.toInt = 0 ∨ ((j + 1) : Int) < j_next_46.toInt) from ⟨(by assumption), by omega, by omega, (hpal.tr h_58), hnR, (by rw [hnG]; exact pLines_n (by omega) hwA htA hEq), by omega⟩) (show zMu j_wrong_51 j_token_48 j_next_46 (f_all 4) < zMu xr xt xn (f_all 4) from zMu_lt (by omega) (by omega) (by omega) (by omega)) _ _ ls G (lv_sub hl [0, 1, 2] rfl)
        · have c_30n : ¬ 121 ≤ k_ := fun q => c_30 ((nI_leI (a := 121) (b := k_) (by omega) (by omega)).mpr q)
          refine lv_aload_n hx hb dX12_text_94 rfl (lv_at hl 1 rfl) ?_
          refine z_get C G clX12 0 rfl 10 (by decide) m_fl_RX12_17 rfl dX12_text_95 ?_
          refine lv_iload_n hx hb dX12_text_98 rfl (lv_at hl 0 rfl) ?_
          refine lv_iconst (v := 0) hx hb dX12_text_99 (by decide) ?_
          refine z_ist C G 2 rfl (vp_in_nI (by omega) (by omega)) dX12_text_100 (fun H locs G => ?_)
          rw [nI_clamp (by omega)] at G
          have G : zS T A s.heap s [[zO11 mo m_all m_has (f_all 4) 0 i_where i_token i_number i_word 0 (-1) m_read i_z0 i_crossings i_inns m_posts m_shut m_here i_steps i_done i_at i_gone m_was m_came m_seenAt m_rowWorth m_farBy m_used i_everywhere i_again0 i_d0 i_never i_firstCame i_longRun i_moved i_crowd i_l0 i_fitMany i_fitLeast i_fitMost m_fitPost m_fitEnd m_keptPosts i_x0], [zAr T 0 m_all 3952 (upd (upd (upd f_all 4 0) 5 0) 6 (-1))], [zAr T 0 m_read 121 (upd z k_ 0)]] _ _ := G
          refine lv_iinc (v := nI (k_ + 1)) (lv' := [(3, .int (nI (k_ + 1))), (0, .ref mo), (1, .int 2), (2, .int (-1))]) hx hb dX12_text_101 hl (k := 0) rfl (z_inc k_ 1) (by decide) rfl (fun ls hl => ?_)
          refine lv_goto (tgt := 88) hx hb dX12_text_104 (by decide) ?_
          exact ih_88 (k_ + 1) (upd z k_ 0) (show (k_ + 1) ≤ 121 ∧ (∀ j, j < (k_ + 1) → (upd z k_ 0) j = 0) from ⟨by omega, z_updE (F := fun _ => 0) hZ rfl⟩) (show 121 - (k_ + 1) < 121 - k_ from by omega) _ _ ls G (lv_sub hl [0, 1, 2, 3] rfl)
      · have c_8n : ¬ (f_all 2).toInt < (2 : Int) := fun q => c_8 ((fa_lt _ _).mpr q)
        refine lv_goto (tgt := 68) hx hb dX12_text_56 (by decide) ?_
        refine lv_bipush (v := (-2)) hx hb dX12_text_68 (by decide) ?_
        exact z_back hQ9 (z_iret C hr hlocks G (Nat.le_of_ble_eq_true rfl) (Nat.le_of_ble_eq_true rfl) dX12_text_70 ⟨(f_all 4), i_next, i_where, i_token, i_number, i_word, i_wrong, i_farCrossing, (upd (upd (upd f_all 4 0) 5 0) 6 (-1)), f_read, rfl, (zBI_hd hB rfl (fun q hq => by rw [hF q (by omega) (by omega) (by omega)]; exact hB.2.1 q hq) (fun j hj => hF j (by omega) (by omega) (by omega))), rfl, (fun j hj => hF j (by omega) (by omega) (by omega)), (zText_b (fun z9 => by have z8 := hoi.mp z9; omega))⟩)
    · have hq1 : ((upd (upd (upd f_all 4 0) 5 0) 6 (-1)) 2).toInt = (f_all 2).toInt := rfl
      have hqf : 0 ≤ (f_all 2).toInt ∧ (f_all 2).toInt ≤ 2 := hB.2.1 2 (by decide)
      have hqF : 0 ≤ ((upd (upd (upd f_all 4 0) 5 0) 6 (-1)) 2).toInt ∧ ((upd (upd (upd f_all 4 0) 5 0) 6 (-1)) 2).toInt ≤ 2 := hqf
      have hai : ¬ at_.toInt = -1 := fun z9 => hne (Int32.toInt_inj.mp z9)
      have hoi : zHd _ := pOkAt_n (s := 2) (at_ := at_) (G := f_all) hai
      refine lv_iload_n hx hb dX12_text_41 rfl (lv_at hl 2 rfl) ?_
      refine lv_iconst (v := (-1)) hx hb dX12_text_42 (by decide) ?_
      refine lv_icmp_ne (tgt := 59) hx hb dX12_text_43 (by decide) (fun _ => ?_) (fun q => absurd q hne)
      refine lv_aload_n hx hb dX12_text_59 rfl (lv_at hl 0 rfl) ?_
      refine lv_iload_n hx hb dX12_text_60 rfl (lv_at hl 1 rfl) ?_
      refine lv_iload_n hx hb dX12_text_61 rfl (lv_at hl 2 rfl) ?_
      refine z_Vi (bc := [[zO11 mo m_all m_has (f_all 4) i_next i_where i_token i_number i_word i_wrong i_farCrossing m_read i_z0 i_crossings i_inns m_posts m_shut m_here i_steps i_done i_at i_gone m_was m_came m_seenAt m_rowWorth m_farBy m_used i_everywhere i_again0 i_d0 i_never i_firstCame i_longRun i_moved i_crowd i_l0 i_fitMany i_fitLeast i_fitMost m_fitPost m_fitEnd m_keptPosts i_x0], [zAr T 0 m_all 3952 (upd (upd (upd f_all 4 0) 5 0) 6 (-1))]]) (br := [[zAr T 0 m_read 121 f_read]]) (As := [.int 2, .int at_]) (rest := []) C G (c_m_isOf2 l T mo m_all m_has (f_all 4) i_next i_where i_token i_number i_word i_wrong i_farCrossing m_read i_z0 i_crossings i_inns m_posts m_shut m_here i_steps i_done i_at i_gone m_was m_came m_seenAt m_rowWorth m_farBy m_used i_everywhere i_again0 i_d0 i_never i_firstCame i_longRun i_moved i_crowd i_l0 i_fitMany i_fitLeast i_fitMost m_fitPost m_fitEnd m_keptPosts i_x0 (upd (upd (upd f_all 4 0) 5 0) 6 (-1)) at_ hqF) (kV_RX12_143 C.2.2.2.2 (Nat.le_of_ble_eq_true rfl) (Nat.le_of_ble_eq_true rfl)) [0, 1] [0, 0] rfl rfl (ci := 11) (qc := (RX12, TX12, 43)) rfl rfl (List.mem_flatten.mpr ⟨_, List.mem_of_getElem? (i := 0) rfl, List.mem_cons_self⟩) rfl rfl hl.1 dX12_text_62 (Nat.le_of_ble_eq_true rfl) (Nat.le_of_ble_eq_true rfl) (fun r_64 b1 H locs hw G => ?_)
      refine zAn2 hw ?_
      intro hbs9 hc_63
      clear hw
      subst hbs9
      have G : zS T A s.heap s [[zAr T 0 m_read 121 f_read], [zO11 mo m_all m_has (f_all 4) i_next i_where i_token i_number i_word i_wrong i_farCrossing m_read i_z0 i_crossings i_inns m_posts m_shut m_here i_steps i_done i_at i_gone m_was m_came m_seenAt m_rowWorth m_farBy m_used i_everywhere i_again0 i_d0 i_never i_firstCame i_longRun i_moved i_crowd i_l0 i_fitMany i_fitLeast i_fitMost m_fitPost m_fitEnd m_keptPosts i_x0], [zAr T 0 m_all 3952 (upd (upd (upd f_all 4 0) 5 0) 6 (-1))]] _ _ := G
      rcases hc_63 with ⟨rfl, h_65, h_66⟩ | ⟨rfl, h_67⟩
      · have h_65 : 0 ≤ at_.toInt := h_65
        have h_66 : at_.toInt < ((upd (upd (upd f_all 4 0) 5 0) 6 (-1)) 2).toInt := h_66
        refine lv_if_ne (tgt := 71) hx hb dX12_text_65 (by decide) (fun _ => ?_) (fun q => absurd q (by decide))
        refine lv_aload_n hx hb dX12_text_71 rfl (lv_at hl 0 rfl) ?_
        refine lv_iconst (v := 0) hx hb dX12_text_72 (by decide) ?_
        refine z_put C G clX12 1 rfl 3 (by decide) m_fl_RX12_70 rfl rfl rfl (Nat.le_of_ble_eq_true rfl) dX12_text_73 (fun H locs G => ?_)
        have G : zS T A s.heap s [[zAr T 0 m_read 121 f_read], [zO11 mo m_all m_has (f_all 4) 0 i_where i_token i_number i_word i_wrong i_farCrossing m_read i_z0 i_crossings i_inns m_posts m_shut m_here i_steps i_done i_at i_gone m_was m_came m_seenAt m_rowWorth m_farBy m_used i_everywhere i_again0 i_d0 i_never i_firstCame i_longRun i_moved i_crowd i_l0 i_fitMany i_fitLeast i_fitMost m_fitPost m_fitEnd m_keptPosts i_x0], [zAr T 0 m_all 3952 (upd (upd (upd f_all 4 0) 5 0) 6 (-1))]] _ _ := G
        refine lv_aload_n hx hb dX12_text_76 rfl (lv_at hl 0 rfl) ?_
        refine lv_iconst (v := 0) hx hb dX12_text_77 (by decide) ?_
        refine z_put C G clX12 1 rfl 8 (by decide) m_fl_RX12_104 rfl rfl rfl (Nat.le_of_ble_eq_true rfl) dX12_text_78 (fun H locs G => ?_)
        have G : zS T A s.heap s [[zAr T 0 m_read 121 f_read], [zO11 mo m_all m_has (f_all 4) 0 i_where i_token i_number i_word 0 i_farCrossing m_read i_z0 i_crossings i_inns m_posts m_shut m_here i_steps i_done i_at i_gone m_was m_came m_seenAt m_rowWorth m_farBy m_used i_everywhere i_again0 i_d0 i_never i_firstCame i_longRun i_moved i_crowd i_l0 i_fitMany i_fitLeast i_fitMost m_fitPost m_fitEnd m_keptPosts i_x0], [zAr T 0 m_all 3952 (upd (upd (upd f_all 4 0) 5 0) 6 (-1))]] _ _ := G
        refine lv_aload_n hx hb dX12_text_81 rfl (lv_at hl 0 rfl) ?_
        refine lv_iconst (v := (-1)) hx hb dX12_text_82 (by decide) ?_
        refine z_put C G clX12 1 rfl 9 (by decide) m_fl_RX12_126 rfl rfl rfl (Nat.le_of_ble_eq_true rfl) dX12_text_83 (fun H locs G => ?_)
        have G : zS T A s.heap s [[zAr T 0 m_read 121 f_read], [zO11 mo m_all m_has (f_all 4) 0 i_where i_token i_number i_word 0 (-1) m_read i_z0 i_crossings i_inns m_posts m_shut m_here i_steps i_done i_at i_gone m_was m_came m_seenAt m_rowWorth m_farBy m_used i_everywhere i_again0 i_d0 i_never i_firstCame i_longRun i_moved i_crowd i_l0 i_fitMany i_fitLeast i_fitMost m_fitPost m_fitEnd m_keptPosts i_x0], [zAr T 0 m_all 3952 (upd (upd (upd f_all 4 0) 5 0) 6 (-1))]] _ _ := G
        refine zMt9 (T := T) 237 (fun (xn : Int32) (xw : Int32) (xt : Int32) (xu : Int32) (xo : Int32) (xr : Int32) (xf : Int32) (ga : Nat → Int32) (gr : Nat → Int32) => [[zAr T 0 m_read 121 gr], [zO11 mo m_all m_has (f_all 4) xn xw xt xu xo xr xf m_read i_z0 i_crossings i_inns m_posts m_shut m_here i_steps i_done i_at i_gone m_was m_came m_seenAt m_rowWorth m_farBy m_used i_everywhere i_again0 i_d0 i_never i_firstCame i_longRun i_moved i_crowd i_l0 i_fitMany i_fitLeast i_fitMost m_fitPost m_fitEnd m_keptPosts i_x0], [zAr T 0 m_all 3952 ga]]) (fun (xn : Int32) (xw : Int32) (xt : Int32) (xu : Int32) (xo : Int32) (xr : Int32) (xf : Int32) (ga : Nat → Int32) (gr : Nat → Int32) => [(0, .ref mo), (1, .int 2), (2, .int at_)]) (fun (xn : Int32) (xw : Int32) (xt : Int32) (xu : Int32) (xo : Int32) (xr : Int32) (xf : Int32) (ga : Nat → Int32) (gr : Nat → Int32) => zCF 8 gr ∧ zPal (upd (upd (upd f_all 4 0) 5 0) 6 (-1)) ga ∧ zRr k N (f_all 4) xn xw xt xu xo xr xf ga (pRead k N 2).1 ∧ (pRead k N 2).2 = gr) G hl ?_ (fun jn_237 => ?_)
        · intro xn xw xt xu xo xr xf ga gr hI9 H locs ls G hl
          replace hI9 : zCF 8 gr ∧ zPal (upd (upd (upd f_all 4 0) 5 0) 6 (-1)) ga ∧ zRr k N (f_all 4) xn xw xt xu xo xr xf ga (pRead k N 2).1 ∧ (pRead k N 2).2 = gr := hI9
          refine zAn4 hI9 ?_
          intro hL hpal hZ1 hZ2
          clear hI9
          replace G : zS T A s.heap s [[zAr T 0 m_read 121 gr], [zO11 mo m_all m_has (f_all 4) xn xw xt xu xo xr xf m_read i_z0 i_crossings i_inns m_posts m_shut m_here i_steps i_done i_at i_gone m_was m_came m_seenAt m_rowWorth m_farBy m_used i_everywhere i_again0 i_d0 i_never i_firstCame i_longRun i_moved i_crowd i_l0 i_fitMany i_fitLeast i_fitMost m_fitPost m_fitEnd m_keptPosts i_x0], [zAr T 0 m_all 3952 ga]] _ _ := G
          replace hl : lv_has ls 5 [(0, .ref mo), (1, .int 2), (2, .int at_)] := hl
          have hZ5 := hZ1.2.2.2.1
          have hZ6 := hZ1.2.2.2.2.1
          have hZ5i := congrArg Int32.toInt hZ5
          refine lv_aload_n hx hb dX12_text_237 rfl (lv_at hl 0 rfl) ?_
          refine z_get C G clX12 1 rfl 0 (by decide) m_fl_RX12_7 rfl dX12_text_238 ?_
          refine lv_iconst (v := 5) hx hb dX12_text_241 (by decide) ?_
          refine z_ild C G 2 rfl (vp_in_nI (n := 5) (by decide) (by decide)) dX12_text_242 ?_
          refine lv_topi (fun v_68 ev_68 => ?_)
          rw [show ((5 : Int32).toNatClampNeg) = 5 from rfl] at ev_68
          subst ev_68
          refine lv_if_eq (tgt := 248) hx hb dX12_text_243 (by decide) (fun c_69 => ?_) (fun c_69 => ?_)
          · have c_69n : (ga 5).toInt = (0 : Int) := (fa_eq _ _).mp c_69
            refine lv_iload_n hx hb dX12_text_248 rfl (lv_at hl 2 rfl) ?_
            refine lv_iconst (v := (-1)) hx hb dX12_text_249 (by decide) ?_
            refine lv_icmp_ne (tgt := 262) hx hb dX12_text_250 (by decide) (fun _ => ?_) (fun q => absurd q hne)
            refine lv_iload_n hx hb dX12_text_262 rfl (lv_at hl 2 rfl) ?_
            rcases (show at_.toInt = 0 ∨ at_.toInt = 1 from by omega) with hk | hk
            · obtain rfl : at_ = 0 := Int32.toInt_inj.mp hk
              refine lv_istore_n (lv' := [(3, .int 0), (0, .ref mo), (1, .int 2), (2, .int 0)]) hx hb dX12_text_263 rfl hl (by decide) rfl (fun ls hl => ?_)
              refine lv_iload_n hx hb dX12_text_264 rfl (lv_at hl 3 rfl) ?_
              refine lv_iconst (v := (-1)) hx hb dX12_text_265 (by decide) ?_
              refine lv_icmp_ne (tgt := 279) hx hb dX12_text_266 (by decide) (fun _ => ?_) (fun q => absurd q hne)
              refine lv_iconst (v := 0) hx hb dX12_text_279 (by decide) ?_
              refine lv_istore (lv' := [(4, .int 0), (3, .int 0), (0, .ref mo), (1, .int 2), (2, .int 0)]) hx hb dX12_text_280 hl (by decide) rfl (fun ls hl => ?_)
              refine z_lp2 (T := T) 282 (fun (i : Nat) (x : Nat → Int32) => [[zAr T 0 m_read 121 gr], [zO11 mo m_all m_has (f_all 4) xn xw xt xu xo xr xf m_read i_z0 i_crossings i_inns m_posts m_shut m_here i_steps i_done i_at i_gone m_was m_came m_seenAt m_rowWorth m_farBy m_used i_everywhere i_again0 i_d0 i_never i_firstCame i_longRun i_moved i_crowd i_l0 i_fitMany i_fitLeast i_fitMost m_fitPost m_fitEnd m_keptPosts i_x0], [zAr T 0 m_all 3952 x]]) (fun (i : Nat) (x : Nat → Int32) => [(4, .int (nI i)), (3, .int 0), (0, .ref mo), (1, .int 2), (2, .int 0)]) (fun (i : Nat) (x : Nat → Int32) => i ≤ 17 ∧ (∀ j, j < i → x (954 + j) = gr j) ∧ (∀ j, (j < 954 ∨ 971 ≤ j) → x j = ga j)) (fun (i : Nat) (x : Nat → Int32) => 17 - i) ?_ 0 ga (show 0 ≤ 17 ∧ (∀ j, j < 0 → ga (954 + j) = gr j) ∧ (∀ j, (j < 954 ∨ 971 ≤ j) → ga j = ga j) from ⟨by omega, fun j hj => absurd hj (by omega), fun j _ => rfl⟩) G (lv_sub hl [0, 1, 2, 3, 4] rfl)
              intro i x hI9 ih_282 H locs ls G hl
              replace hI9 : i ≤ 17 ∧ (∀ j, j < i → x (954 + j) = gr j) ∧ (∀ j, (j < 954 ∨ 971 ≤ j) → x j = ga j) := hI9
              refine zAn3 hI9 ?_
              intro hi hS hO
              clear hI9
              replace G : zS T A s.heap s [[zAr T 0 m_read 121 gr], [zO11 mo m_all m_has (f_all 4) xn xw xt xu xo xr xf m_read i_z0 i_crossings i_inns m_posts m_shut m_here i_steps i_done i_at i_gone m_was m_came m_seenAt m_rowWorth m_farBy m_used i_everywhere i_again0 i_d0 i_never i_firstCame i_longRun i_moved i_crowd i_l0 i_fitMany i_fitLeast i_fitMost m_fitPost m_fitEnd m_keptPosts i_x0], [zAr T 0 m_all 3952 x]] _ _ := G
              replace hl : lv_has ls 5 [(4, .int (nI i)), (3, .int 0), (0, .ref mo), (1, .int 2), (2, .int 0)] := hl
              refine lv_iload hx hb dX12_text_282 (lv_at hl 0 rfl) ?_
              refine lv_iload_n hx hb dX12_text_284 rfl (lv_at hl 3 rfl) ?_
              refine z_Si (bc := []) (br := [[zAr T 0 m_read 121 gr], [zO11 mo m_all m_has (f_all 4) xn xw xt xu xo xr xf m_read i_z0 i_crossings i_inns m_posts m_shut m_here i_steps i_done i_at i_gone m_was m_came m_seenAt m_rowWorth m_farBy m_used i_everywhere i_again0 i_d0 i_never i_firstCame i_longRun i_moved i_crowd i_l0 i_fitMany i_fitLeast i_fitMost m_fitPost m_fitEnd m_keptPosts i_x0], [zAr T 0 m_all 3952 x]]) (As := [.int 2]) (rest := [.int (nI i)]) C G (c_m_sizeOf2 l T) (kS_RX12_160 C.2.2.2.2 (Nat.le_of_ble_eq_true rfl) (Nat.le_of_ble_eq_true rfl)) [] [] rfl rfl rfl rfl hl.1 dX12_text_285 (Nat.le_of_ble_eq_true rfl) (Nat.le_of_ble_eq_true rfl) (fun r_71 b1 H locs hw G => ?_)
              refine zAn2 hw ?_
              intro hbs9 h_70
              clear hw
              subst hbs9
              have G : zS T A s.heap s [[zAr T 0 m_read 121 gr], [zO11 mo m_all m_has (f_all 4) xn xw xt xu xo xr xf m_read i_z0 i_crossings i_inns m_posts m_shut m_here i_steps i_done i_at i_gone m_was m_came m_seenAt m_rowWorth m_farBy m_used i_everywhere i_again0 i_d0 i_never i_firstCame i_longRun i_moved i_crowd i_l0 i_fitMany i_fitLeast i_fitMost m_fitPost m_fitEnd m_keptPosts i_x0], [zAr T 0 m_all 3952 x]] _ _ := G
              subst h_70
              refine lv_icmp_ge (tgt := 317) hx hb dX12_text_288 (by decide) (fun c_72 => ?_) (fun c_72 => ?_)
              · have c_72n : 17 ≤ i := (nI_leI (a := 17) (b := i) (by omega) (by omega)).mp c_72
                refine lv_iload_n hx hb dX12_text_317 rfl (lv_at hl 1 rfl) ?_
                have G := G.sub (bs' := [[zO11 mo m_all m_has (f_all 4) xn xw xt xu xo xr xf m_read i_z0 i_crossings i_inns m_posts m_shut m_here i_steps i_done i_at i_gone m_was m_came m_seenAt m_rowWorth m_farBy m_used i_everywhere i_again0 i_d0 i_never i_firstCame i_longRun i_moved i_crowd i_l0 i_fitMany i_fitLeast i_fitMost m_fitPost m_fitEnd m_keptPosts i_x0], [zAr T 0 m_all 3952 x], [zAr T 0 m_read 121 gr]]) [1, 2, 0] rfl
                exact z_back hQ9 (z_iret C hr hlocks G (Nat.le_of_ble_eq_true rfl) (Nat.le_of_ble_eq_true rfl) dX12_text_318 ⟨(f_all 4), xn, xw, xt, xu, xo, xr, xf, x, gr, rfl, (zBI_p2 0 (by decide) hB ((hO 4 (by omega)).trans (hpal 4 (by decide) (by decide))) (fun q hq => by rw [hO q (by omega)]; rw [show _ = f_all q from (hpal q (by omega) (by omega)).trans (hF q (by omega) (by omega) (by omega))]; exact hB.2.1 q hq) (fun j hj hj2 => (hO j (by omega)).trans ((hpal j (by omega) (by omega)).trans (hF j (by omega) (by omega) (by omega)))) (by assumption) (fun j hj => hS j (by omega))), ((hO 4 (by omega)).trans (hpal 4 (by decide) (by decide))), (fun j hj => (hO j (by omega)).trans ((hpal j (by omega) (by omega)).trans (hF j (by omega) (by omega) (by omega)))), (zText_k (kk := 0) (g := ga) (hoi.mpr (by omega)) (by rw [← hZ5]; omega) (pNr_n (by decide)).symm (by rw [pNr_n (by decide)]; rfl) hpal hZ5 hZ6 (pCnt_n (by decide)).symm (by rw [hZ2]; exact fun j hj => hS j (by have hj : j < 17 := hj; omega)) (fun j hj => hO j (by have hj : j < 954 ∨ 954 + 17 ≤ j := hj; omega)))⟩)
              · have c_72n : ¬ 17 ≤ i := fun q => c_72 ((nI_leI (a := 17) (b := i) (by omega) (by omega)).mpr q)
                refine lv_aload_n hx hb dX12_text_291 rfl (lv_at hl 2 rfl) ?_
                refine z_get C G clX12 1 rfl 0 (by decide) m_fl_RX12_7 rfl dX12_text_292 ?_
                refine lv_iload_n hx hb dX12_text_295 rfl (lv_at hl 3 rfl) ?_
                refine lv_iload_n hx hb dX12_text_296 rfl (lv_at hl 1 rfl) ?_
                refine z_Si (bc := []) (br := [[zAr T 0 m_read 121 gr], [zO11 mo m_all m_has (f_all 4) xn xw xt xu xo xr xf m_read i_z0 i_crossings i_inns m_posts m_shut m_here i_steps i_done i_at i_gone m_was m_came m_seenAt m_rowWorth m_farBy m_used i_everywhere i_again0 i_d0 i_never i_firstCame i_longRun i_moved i_crowd i_l0 i_fitMany i_fitLeast i_fitMost m_fitPost m_fitEnd m_keptPosts i_x0], [zAr T 0 m_all 3952 x]]) (As := [.int 2, .int 0]) (rest := [.ref m_all]) C G (c_m_placeOf20 l T) (kS_RX12_163 C.2.2.2.2 (Nat.le_of_ble_eq_true rfl) (Nat.le_of_ble_eq_true rfl)) [] [] rfl rfl rfl rfl hl.1 dX12_text_297 (Nat.le_of_ble_eq_true rfl) (Nat.le_of_ble_eq_true rfl) (fun r_74 b1 H locs hw G => ?_)
                refine zAn2 hw ?_
                intro hbs9 h_73
                clear hw
                subst hbs9
                have G : zS T A s.heap s [[zAr T 0 m_read 121 gr], [zO11 mo m_all m_has (f_all 4) xn xw xt xu xo xr xf m_read i_z0 i_crossings i_inns m_posts m_shut m_here i_steps i_done i_at i_gone m_was m_came m_seenAt m_rowWorth m_farBy m_used i_everywhere i_again0 i_d0 i_never i_firstCame i_longRun i_moved i_crowd i_l0 i_fitMany i_fitLeast i_fitMost m_fitPost m_fitEnd m_keptPosts i_x0], [zAr T 0 m_all 3952 x]] _ _ := G
                subst h_73
                refine lv_iload hx hb dX12_text_300 (lv_at hl 0 rfl) ?_
                refine lv_iadd hx hb dX12_text_302 ?_
                refine lv_topi (fun y_75 ey_75 => ?_)
                obtain rfl : y_75 = nI (954 + i) := ey_75.trans (z_iaddn 954 i rfl rfl)
                refine lv_aload_n hx hb dX12_text_303 rfl (lv_at hl 2 rfl) ?_
                refine z_get C G clX12 1 rfl 10 (by decide) m_fl_RX12_17 rfl dX12_text_304 ?_
                refine lv_iload hx hb dX12_text_307 (lv_at hl 0 rfl) ?_
                refine z_ild C G 0 rfl (vp_in_nI (by omega) (by omega)) dX12_text_309 ?_
                refine lv_topi (fun v_76 ev_76 => ?_)
                rw [nI_clamp (by omega)] at ev_76
                subst ev_76
                refine z_ist C G 2 rfl (vp_in_nI (by omega) (by omega)) dX12_text_310 (fun H locs G => ?_)
                rw [nI_clamp (by omega)] at G
                have G : zS T A s.heap s [[zAr T 0 m_read 121 gr], [zO11 mo m_all m_has (f_all 4) xn xw xt xu xo xr xf m_read i_z0 i_crossings i_inns m_posts m_shut m_here i_steps i_done i_at i_gone m_was m_came m_seenAt m_rowWorth m_farBy m_used i_everywhere i_again0 i_d0 i_never i_firstCame i_longRun i_moved i_crowd i_l0 i_fitMany i_fitLeast i_fitMost m_fitPost m_fitEnd m_keptPosts i_x0], [zAr T 0 m_all 3952 (upd x (954 + i) (gr i))]] _ _ := G
                refine lv_iinc (v := nI (i + 1)) (lv' := [(4, .int (nI (i + 1))), (3, .int 0), (0, .ref mo), (1, .int 2), (2, .int 0)]) hx hb dX12_text_311 hl (k := 0) rfl (z_inc i 1) (by decide) rfl (fun ls hl => ?_)
                refine lv_goto (tgt := 282) hx hb dX12_text_314 (by decide) ?_
                exact ih_282 (i + 1) (upd x (954 + i) (gr i)) (show (i + 1) ≤ 17 ∧ (∀ j, j < (i + 1) → (upd x (954 + i) (gr i)) (954 + j) = gr j) ∧ (∀ j, (j < 954 ∨ 971 ≤ j) → (upd x (954 + i) (gr i)) j = ga j) from ⟨by omega, z_upS hS rfl, z_upO hO (by omega)⟩) (show 17 - (i + 1) < 17 - i from by omega) _ _ ls G (lv_sub hl [0, 1, 2, 3, 4] rfl)
            · obtain rfl : at_ = 1 := Int32.toInt_inj.mp hk
              refine lv_istore_n (lv' := [(3, .int 1), (0, .ref mo), (1, .int 2), (2, .int 1)]) hx hb dX12_text_263 rfl hl (by decide) rfl (fun ls hl => ?_)
              refine lv_iload_n hx hb dX12_text_264 rfl (lv_at hl 3 rfl) ?_
              refine lv_iconst (v := (-1)) hx hb dX12_text_265 (by decide) ?_
              refine lv_icmp_ne (tgt := 279) hx hb dX12_text_266 (by decide) (fun _ => ?_) (fun q => absurd q hne)
              refine lv_iconst (v := 0) hx hb dX12_text_279 (by decide) ?_
              refine lv_istore (lv' := [(4, .int 0), (3, .int 1), (0, .ref mo), (1, .int 2), (2, .int 1)]) hx hb dX12_text_280 hl (by decide) rfl (fun ls hl => ?_)
              refine z_lp2 (T := T) 282 (fun (i : Nat) (x : Nat → Int32) => [[zAr T 0 m_read 121 gr], [zO11 mo m_all m_has (f_all 4) xn xw xt xu xo xr xf m_read i_z0 i_crossings i_inns m_posts m_shut m_here i_steps i_done i_at i_gone m_was m_came m_seenAt m_rowWorth m_farBy m_used i_everywhere i_again0 i_d0 i_never i_firstCame i_longRun i_moved i_crowd i_l0 i_fitMany i_fitLeast i_fitMost m_fitPost m_fitEnd m_keptPosts i_x0], [zAr T 0 m_all 3952 x]]) (fun (i : Nat) (x : Nat → Int32) => [(4, .int (nI i)), (3, .int 1), (0, .ref mo), (1, .int 2), (2, .int 1)]) (fun (i : Nat) (x : Nat → Int32) => i ≤ 17 ∧ (∀ j, j < i → x (971 + j) = gr j) ∧ (∀ j, (j < 971 ∨ 988 ≤ j) → x j = ga j)) (fun (i : Nat) (x : Nat → Int32) => 17 - i) ?_ 0 ga (show 0 ≤ 17 ∧ (∀ j, j < 0 → ga (971 + j) = gr j) ∧ (∀ j, (j < 971 ∨ 988 ≤ j) → ga j = ga j) from ⟨by omega, fun j hj => absurd hj (by omega), fun j _ => rfl⟩) G (lv_sub hl [0, 1, 2, 3, 4] rfl)
              intro i x hI9 ih_282 H locs ls G hl
              replace hI9 : i ≤ 17 ∧ (∀ j, j < i → x (971 + j) = gr j) ∧ (∀ j, (j < 971 ∨ 988 ≤ j) → x j = ga j) := hI9
              refine zAn3 hI9 ?_
              intro hi hS hO
              clear hI9
              replace G : zS T A s.heap s [[zAr T 0 m_read 121 gr], [zO11 mo m_all m_has (f_all 4) xn xw xt xu xo xr xf m_read i_z0 i_crossings i_inns m_posts m_shut m_here i_steps i_done i_at i_gone m_was m_came m_seenAt m_rowWorth m_farBy m_used i_everywhere i_again0 i_d0 i_never i_firstCame i_longRun i_moved i_crowd i_l0 i_fitMany i_fitLeast i_fitMost m_fitPost m_fitEnd m_keptPosts i_x0], [zAr T 0 m_all 3952 x]] _ _ := G
              replace hl : lv_has ls 5 [(4, .int (nI i)), (3, .int 1), (0, .ref mo), (1, .int 2), (2, .int 1)] := hl
              refine lv_iload hx hb dX12_text_282 (lv_at hl 0 rfl) ?_
              refine lv_iload_n hx hb dX12_text_284 rfl (lv_at hl 3 rfl) ?_
              refine z_Si (bc := []) (br := [[zAr T 0 m_read 121 gr], [zO11 mo m_all m_has (f_all 4) xn xw xt xu xo xr xf m_read i_z0 i_crossings i_inns m_posts m_shut m_here i_steps i_done i_at i_gone m_was m_came m_seenAt m_rowWorth m_farBy m_used i_everywhere i_again0 i_d0 i_never i_firstCame i_longRun i_moved i_crowd i_l0 i_fitMany i_fitLeast i_fitMost m_fitPost m_fitEnd m_keptPosts i_x0], [zAr T 0 m_all 3952 x]]) (As := [.int 2]) (rest := [.int (nI i)]) C G (c_m_sizeOf2 l T) (kS_RX12_160 C.2.2.2.2 (Nat.le_of_ble_eq_true rfl) (Nat.le_of_ble_eq_true rfl)) [] [] rfl rfl rfl rfl hl.1 dX12_text_285 (Nat.le_of_ble_eq_true rfl) (Nat.le_of_ble_eq_true rfl) (fun r_78 b1 H locs hw G => ?_)
              refine zAn2 hw ?_
              intro hbs9 h_77
              clear hw
              subst hbs9
              have G : zS T A s.heap s [[zAr T 0 m_read 121 gr], [zO11 mo m_all m_has (f_all 4) xn xw xt xu xo xr xf m_read i_z0 i_crossings i_inns m_posts m_shut m_here i_steps i_done i_at i_gone m_was m_came m_seenAt m_rowWorth m_farBy m_used i_everywhere i_again0 i_d0 i_never i_firstCame i_longRun i_moved i_crowd i_l0 i_fitMany i_fitLeast i_fitMost m_fitPost m_fitEnd m_keptPosts i_x0], [zAr T 0 m_all 3952 x]] _ _ := G
              subst h_77
              refine lv_icmp_ge (tgt := 317) hx hb dX12_text_288 (by decide) (fun c_79 => ?_) (fun c_79 => ?_)
              · have c_79n : 17 ≤ i := (nI_leI (a := 17) (b := i) (by omega) (by omega)).mp c_79
                refine lv_iload_n hx hb dX12_text_317 rfl (lv_at hl 1 rfl) ?_
                have G := G.sub (bs' := [[zO11 mo m_all m_has (f_all 4) xn xw xt xu xo xr xf m_read i_z0 i_crossings i_inns m_posts m_shut m_here i_steps i_done i_at i_gone m_was m_came m_seenAt m_rowWorth m_farBy m_used i_everywhere i_again0 i_d0 i_never i_firstCame i_longRun i_moved i_crowd i_l0 i_fitMany i_fitLeast i_fitMost m_fitPost m_fitEnd m_keptPosts i_x0], [zAr T 0 m_all 3952 x], [zAr T 0 m_read 121 gr]]) [1, 2, 0] rfl
                exact z_back hQ9 (z_iret C hr hlocks G (Nat.le_of_ble_eq_true rfl) (Nat.le_of_ble_eq_true rfl) dX12_text_318 ⟨(f_all 4), xn, xw, xt, xu, xo, xr, xf, x, gr, rfl, (zBI_p2 1 (by decide) hB ((hO 4 (by omega)).trans (hpal 4 (by decide) (by decide))) (fun q hq => by rw [hO q (by omega)]; rw [show _ = f_all q from (hpal q (by omega) (by omega)).trans (hF q (by omega) (by omega) (by omega))]; exact hB.2.1 q hq) (fun j hj hj2 => (hO j (by omega)).trans ((hpal j (by omega) (by omega)).trans (hF j (by omega) (by omega) (by omega)))) (by assumption) (fun j hj => hS j (by omega))), ((hO 4 (by omega)).trans (hpal 4 (by decide) (by decide))), (fun j hj => (hO j (by omega)).trans ((hpal j (by omega) (by omega)).trans (hF j (by omega) (by omega) (by omega)))), (zText_k (kk := 1) (g := ga) (hoi.mpr (by omega)) (by rw [← hZ5]; omega) (pNr_n (by decide)).symm (by rw [pNr_n (by decide)]; rfl) hpal hZ5 hZ6 (pCnt_n (by decide)).symm (by rw [hZ2]; exact fun j hj => hS j (by have hj : j < 17 := hj; omega)) (fun j hj => hO j (by have hj : j < 971 ∨ 971 + 17 ≤ j := hj; omega)))⟩)
              · have c_79n : ¬ 17 ≤ i := fun q => c_79 ((nI_leI (a := 17) (b := i) (by omega) (by omega)).mpr q)
                refine lv_aload_n hx hb dX12_text_291 rfl (lv_at hl 2 rfl) ?_
                refine z_get C G clX12 1 rfl 0 (by decide) m_fl_RX12_7 rfl dX12_text_292 ?_
                refine lv_iload_n hx hb dX12_text_295 rfl (lv_at hl 3 rfl) ?_
                refine lv_iload_n hx hb dX12_text_296 rfl (lv_at hl 1 rfl) ?_
                refine z_Si (bc := []) (br := [[zAr T 0 m_read 121 gr], [zO11 mo m_all m_has (f_all 4) xn xw xt xu xo xr xf m_read i_z0 i_crossings i_inns m_posts m_shut m_here i_steps i_done i_at i_gone m_was m_came m_seenAt m_rowWorth m_farBy m_used i_everywhere i_again0 i_d0 i_never i_firstCame i_longRun i_moved i_crowd i_l0 i_fitMany i_fitLeast i_fitMost m_fitPost m_fitEnd m_keptPosts i_x0], [zAr T 0 m_all 3952 x]]) (As := [.int 2, .int 1]) (rest := [.ref m_all]) C G (c_m_placeOf21 l T) (kS_RX12_163 C.2.2.2.2 (Nat.le_of_ble_eq_true rfl) (Nat.le_of_ble_eq_true rfl)) [] [] rfl rfl rfl rfl hl.1 dX12_text_297 (Nat.le_of_ble_eq_true rfl) (Nat.le_of_ble_eq_true rfl) (fun r_81 b1 H locs hw G => ?_)
                refine zAn2 hw ?_
                intro hbs9 h_80
                clear hw
                subst hbs9
                have G : zS T A s.heap s [[zAr T 0 m_read 121 gr], [zO11 mo m_all m_has (f_all 4) xn xw xt xu xo xr xf m_read i_z0 i_crossings i_inns m_posts m_shut m_here i_steps i_done i_at i_gone m_was m_came m_seenAt m_rowWorth m_farBy m_used i_everywhere i_again0 i_d0 i_never i_firstCame i_longRun i_moved i_crowd i_l0 i_fitMany i_fitLeast i_fitMost m_fitPost m_fitEnd m_keptPosts i_x0], [zAr T 0 m_all 3952 x]] _ _ := G
                subst h_80
                refine lv_iload hx hb dX12_text_300 (lv_at hl 0 rfl) ?_
                refine lv_iadd hx hb dX12_text_302 ?_
                refine lv_topi (fun y_82 ey_82 => ?_)
                obtain rfl : y_82 = nI (971 + i) := ey_82.trans (z_iaddn 971 i rfl rfl)
                refine lv_aload_n hx hb dX12_text_303 rfl (lv_at hl 2 rfl) ?_
                refine z_get C G clX12 1 rfl 10 (by decide) m_fl_RX12_17 rfl dX12_text_304 ?_
                refine lv_iload hx hb dX12_text_307 (lv_at hl 0 rfl) ?_
                refine z_ild C G 0 rfl (vp_in_nI (by omega) (by omega)) dX12_text_309 ?_
                refine lv_topi (fun v_83 ev_83 => ?_)
                rw [nI_clamp (by omega)] at ev_83
                subst ev_83
                refine z_ist C G 2 rfl (vp_in_nI (by omega) (by omega)) dX12_text_310 (fun H locs G => ?_)
                rw [nI_clamp (by omega)] at G
                have G : zS T A s.heap s [[zAr T 0 m_read 121 gr], [zO11 mo m_all m_has (f_all 4) xn xw xt xu xo xr xf m_read i_z0 i_crossings i_inns m_posts m_shut m_here i_steps i_done i_at i_gone m_was m_came m_seenAt m_rowWorth m_farBy m_used i_everywhere i_again0 i_d0 i_never i_firstCame i_longRun i_moved i_crowd i_l0 i_fitMany i_fitLeast i_fitMost m_fitPost m_fitEnd m_keptPosts i_x0], [zAr T 0 m_all 3952 (upd x (971 + i) (gr i))]] _ _ := G
                refine lv_iinc (v := nI (i + 1)) (lv' := [(4, .int (nI (i + 1))), (3, .int 1), (0, .ref mo), (1, .int 2), (2, .int 1)]) hx hb dX12_text_311 hl (k := 0) rfl (z_inc i 1) (by decide) rfl (fun ls hl => ?_)
                refine lv_goto (tgt := 282) hx hb dX12_text_314 (by decide) ?_
                exact ih_282 (i + 1) (upd x (971 + i) (gr i)) (show (i + 1) ≤ 17 ∧ (∀ j, j < (i + 1) → (upd x (971 + i) (gr i)) (971 + j) = gr j) ∧ (∀ j, (j < 971 ∨ 988 ≤ j) → (upd x (971 + i) (gr i)) j = ga j) from ⟨by omega, z_upS hS rfl, z_upO hO (by omega)⟩) (show 17 - (i + 1) < 17 - i from by omega) _ _ ls G (lv_sub hl [0, 1, 2, 3, 4] rfl)
          · have c_69n : ¬ (ga 5).toInt = (0 : Int) := fun q => c_69 ((fa_eq _ _).mpr q)
            refine lv_iconst (v := (-1)) hx hb dX12_text_246 (by decide) ?_
            have G := G.sub (bs' := [[zO11 mo m_all m_has (f_all 4) xn xw xt xu xo xr xf m_read i_z0 i_crossings i_inns m_posts m_shut m_here i_steps i_done i_at i_gone m_was m_came m_seenAt m_rowWorth m_farBy m_used i_everywhere i_again0 i_d0 i_never i_firstCame i_longRun i_moved i_crowd i_l0 i_fitMany i_fitLeast i_fitMost m_fitPost m_fitEnd m_keptPosts i_x0], [zAr T 0 m_all 3952 ga], [zAr T 0 m_read 121 gr]]) [1, 2, 0] rfl
            exact z_back hQ9 (z_iret C hr hlocks G (Nat.le_of_ble_eq_true rfl) (Nat.le_of_ble_eq_true rfl) dX12_text_247 ⟨(f_all 4), xn, xw, xt, xu, xo, xr, xf, ga, gr, rfl, (zBI_hd hB (hpal 4 (by decide) (by decide)) (fun q hq => by rw [show _ = f_all q from (hpal q (by omega) (by omega)).trans (hF q (by omega) (by omega) (by omega))]; exact hB.2.1 q hq) (fun j hj => (hpal j (by omega) (by omega)).trans (hF j (by omega) (by omega) (by omega)))), (hpal 4 (by decide) (by decide)), (fun j hj => (hpal j (by omega) (by omega)).trans (hF j (by omega) (by omega) (by omega))), (zText_f (hoi.mpr (by omega)) (by rw [← hZ5]; omega) hpal hZ5 hZ6)⟩)
        refine lv_iconst (v := 0) hx hb dX12_text_86 (by decide) ?_
        refine lv_istore_n (lv' := [(3, .int 0), (0, .ref mo), (1, .int 2), (2, .int at_)]) hx hb dX12_text_87 rfl hl (by decide) rfl (fun ls hl => ?_)
        refine z_lp2 (T := T) 88 (fun (k_ : Nat) (z : Nat → Int32) => [[zAr T 0 m_read 121 z], [zO11 mo m_all m_has (f_all 4) 0 i_where i_token i_number i_word 0 (-1) m_read i_z0 i_crossings i_inns m_posts m_shut m_here i_steps i_done i_at i_gone m_was m_came m_seenAt m_rowWorth m_farBy m_used i_everywhere i_again0 i_d0 i_never i_firstCame i_longRun i_moved i_crowd i_l0 i_fitMany i_fitLeast i_fitMost m_fitPost m_fitEnd m_keptPosts i_x0], [zAr T 0 m_all 3952 (upd (upd (upd f_all 4 0) 5 0) 6 (-1))]]) (fun (k_ : Nat) (z : Nat → Int32) => [(3, .int (nI k_)), (0, .ref mo), (1, .int 2), (2, .int at_)]) (fun (k_ : Nat) (z : Nat → Int32) => k_ ≤ 121 ∧ (∀ j, j < k_ → z j = 0)) (fun (k_ : Nat) (z : Nat → Int32) => 121 - k_) ?_ 0 f_read (show 0 ≤ 121 ∧ (∀ j, j < 0 → f_read j = 0) from ⟨by omega, fun j hj => absurd hj (by omega)⟩) G (lv_sub hl [0, 1, 2, 3] rfl)
        intro k_ z hI9 ih_88 H locs ls G hl
        replace hI9 : k_ ≤ 121 ∧ (∀ j, j < k_ → z j = 0) := hI9
        refine zAn2 hI9 ?_
        intro hk_ hZ
        clear hI9
        replace G : zS T A s.heap s [[zAr T 0 m_read 121 z], [zO11 mo m_all m_has (f_all 4) 0 i_where i_token i_number i_word 0 (-1) m_read i_z0 i_crossings i_inns m_posts m_shut m_here i_steps i_done i_at i_gone m_was m_came m_seenAt m_rowWorth m_farBy m_used i_everywhere i_again0 i_d0 i_never i_firstCame i_longRun i_moved i_crowd i_l0 i_fitMany i_fitLeast i_fitMost m_fitPost m_fitEnd m_keptPosts i_x0], [zAr T 0 m_all 3952 (upd (upd (upd f_all 4 0) 5 0) 6 (-1))]] _ _ := G
        replace hl : lv_has ls 5 [(3, .int (nI k_)), (0, .ref mo), (1, .int 2), (2, .int at_)] := hl
        refine lv_iload_n hx hb dX12_text_88 rfl (lv_at hl 0 rfl) ?_
        refine lv_bipush (v := 121) hx hb dX12_text_89 (by decide) ?_
        refine lv_icmp_ge (tgt := 107) hx hb dX12_text_91 (by decide) (fun c_84 => ?_) (fun c_84 => ?_)
        · have c_84n : 121 ≤ k_ := (nI_leI (a := 121) (b := k_) (by omega) (by omega)).mp c_84
          have G := z_cg G 0 rfl (fun _ => 0) (fun j hj => hZ j (by omega))
          have G : zS T A s.heap s [[zAr T 0 m_read 121 (fun _ => 0)], [zO11 mo m_all m_has (f_all 4) 0 i_where i_token i_number i_word 0 (-1) m_read i_z0 i_crossings i_inns m_posts m_shut m_here i_steps i_done i_at i_gone m_was m_came m_seenAt m_rowWorth m_farBy m_used i_everywhere i_again0 i_d0 i_never i_firstCame i_longRun i_moved i_crowd i_l0 i_fitMany i_fitLeast i_fitMost m_fitPost m_fitEnd m_keptPosts i_x0], [zAr T 0 m_all 3952 (upd (upd (upd f_all 4 0) 5 0) 6 (-1))]] _ _ := G
          refine lv_aload_n hx hb dX12_text_107 rfl (lv_at hl 1 rfl) ?_
          refine z_Vv (bc := [[zO11 mo m_all m_has (f_all 4) 0 i_where i_token i_number i_word 0 (-1) m_read i_z0 i_crossings i_inns m_posts m_shut m_here i_steps i_done i_at i_gone m_was m_came m_seenAt m_rowWorth m_farBy m_used i_everywhere i_again0 i_d0 i_never i_firstCame i_longRun i_moved i_crowd i_l0 i_fitMany i_fitLeast i_fitMost m_fitPost m_fitEnd m_keptPosts i_x0], [zAr T 0 m_all 3952 (upd (upd (upd f_all 4 0) 5 0) 6 (-1))]]) (br := [[zAr T 0 m_read 121 (fun _ => 0)]]) (As := []) (rest := []) C G (c_fm_advance l T mo m_all m_has (f_all 4) 0 i_where i_token i_number i_word 0 (-1) m_read i_z0 i_crossings i_inns m_posts m_shut m_here i_steps i_done i_at i_gone m_was m_came m_seenAt m_rowWorth m_farBy m_used i_everywhere i_again0 i_d0 i_never i_firstCame i_longRun i_moved i_crowd i_l0 i_fitMany i_fitLeast i_fitMost m_fitPost m_fitEnd m_keptPosts i_x0 (upd (upd (upd f_all 4 0) 5 0) 6 (-1)) 0 N k hsN rfl (Nat.zero_le _) hN6 (hk.trans (congrArg (fun q9 => tkT q9 N) (funext fun j => ((z_ne (by omega)).trans ((z_ne (by omega)).trans (z_ne (by omega)))).symm))) (fun j hj => by rw [z_ne (by omega), z_ne (by omega), z_ne (by omega)]; exact hby j hj)) (kV_RX12_119 C.2.2.2.2 (Nat.le_of_ble_eq_true rfl) (Nat.le_of_ble_eq_true rfl)) [1, 2] [1, 0] rfl rfl (ci := 11) (qc := (RX12, TX12, 43)) rfl rfl (List.mem_flatten.mpr ⟨_, List.mem_of_getElem? (i := 0) rfl, List.mem_cons_self⟩) rfl rfl hl.1 dX12_text_108 (Nat.le_of_ble_eq_true rfl) (Nat.le_of_ble_eq_true rfl) (fun b1 H locs hw G => ?_)
          refine zEx5 hw ?_
          intro j_next_85 j_where_86 j_token_87 j_number_88 j_word_89
          refine zCu8 ?_
          intro hbs9 h_90 h_91 h_92 h_93 h_94 h_95 h_96
          clear hw
          subst hbs9
          have G : zS T A s.heap s [[zAr T 0 m_read 121 (fun _ => 0)], [zO11 mo m_all m_has (f_all 4) j_next_85 j_where_86 j_token_87 j_number_88 j_word_89 0 (-1) m_read i_z0 i_crossings i_inns m_posts m_shut m_here i_steps i_done i_at i_gone m_was m_came m_seenAt m_rowWorth m_farBy m_used i_everywhere i_again0 i_d0 i_never i_firstCame i_longRun i_moved i_crowd i_l0 i_fitMany i_fitLeast i_fitMost m_fitPost m_fitEnd m_keptPosts i_x0], [zAr T 0 m_all 3952 (upd (upd (upd f_all 4 0) 5 0) 6 (-1))]] _ _ := G
          have h_92 : (0 : Int) ≤ j_next_85.toInt := h_92
          have h_93 : (j_token_87.toInt = 0 ∨ (0 : Int) < j_next_85.toInt) := h_93
          refine z_lp11 (T := T) 111 (fun (xn : Int32) (xw : Int32) (xt : Int32) (xu : Int32) (xo : Int32) (xr : Int32) (xf : Int32) (ga : Nat → Int32) (gr : Nat → Int32) (A9 : pS) (j : Nat) => [[zAr T 0 m_read 121 gr], [zO11 mo m_all m_has (f_all 4) xn xw xt xu xo xr xf m_read i_z0 i_crossings i_inns m_posts m_shut m_here i_steps i_done i_at i_gone m_was m_came m_seenAt m_rowWorth m_farBy m_used i_everywhere i_again0 i_d0 i_never i_firstCame i_longRun i_moved i_crowd i_l0 i_fitMany i_fitLeast i_fitMost m_fitPost m_fitEnd m_keptPosts i_x0], [zAr T 0 m_all 3952 ga]]) (fun (xn : Int32) (xw : Int32) (xt : Int32) (xu : Int32) (xo : Int32) (xr : Int32) (xf : Int32) (ga : Nat → Int32) (gr : Nat → Int32) (A9 : pS) (j : Nat) => [(0, .ref mo), (1, .int 2), (2, .int at_)]) (fun (xn : Int32) (xw : Int32) (xt : Int32) (xu : Int32) (xo : Int32) (xr : Int32) (xf : Int32) (ga : Nat → Int32) (gr : Nat → Int32) (A9 : pS) (j : Nat) => zCF 8 gr ∧ 0 ≤ xn.toInt ∧ xn.toInt ≤ (f_all 4).toInt ∧ zPal (upd (upd (upd f_all 4 0) 5 0) 6 (-1)) ga ∧ zRr k N (f_all 4) xn xw xt xu xo xr xf ga A9 ∧ pLines k 2 (601 - j) A9 gr = pLines k 2 601 (0, 0, 0, -1, -1) (fun _ => 0) ∧ (¬ xr.toInt = 0 ∨ xt.toInt = 0 ∨ (j : Int) < xn.toInt)) (fun (xn : Int32) (xw : Int32) (xt : Int32) (xu : Int32) (xo : Int32) (xr : Int32) (xf : Int32) (ga : Nat → Int32) (gr : Nat → Int32) (A9 : pS) (j : Nat) => zMu xr xt xn (f_all 4)) ?_ j_next_85 j_where_86 j_token_87 j_number_88 j_word_89 0 (-1) (upd (upd (upd f_all 4 0) 5 0) 6 (-1)) (fun _ => 0) (0, 0, 0, -1, -1) 0 (show zCF 8 (fun _ => 0) ∧ 0 ≤ j_next_85.toInt ∧ j_next_85.toInt ≤ (f_all 4).toInt ∧ zPal (upd (upd (upd f_all 4 0) 5 0) 6 (-1)) (upd (upd (upd f_all 4 0) 5 0) 6 (-1)) ∧ zRr k N (f_all 4) j_next_85 j_where_86 j_token_87 j_number_88 j_word_89 0 (-1) (upd (upd (upd f_all 4 0) 5 0) 6 (-1)) (0, 0, 0, -1, -1) ∧ pLines k 2 (601 - 0) (0, 0, 0, -1, -1) (fun _ => 0) = pLines k 2 601 (0, 0, 0, -1, -1) (fun _ => 0) ∧ (¬ (0 : Int32).toInt = 0 ∨ j_token_87.toInt = 0 ∨ (0 : Int) < j_next_85.toInt) from ⟨(zCF_z (by decide) (fun j hj => rfl)), by omega, by omega, (zPal_rf _), (zRr_st hk hby hN6 hsN h_96), rfl, by omega⟩) G (lv_sub hl [1, 2, 3] rfl)
          intro xn xw xt xu xo xr xf ga gr A9 j hI9 ih_111 H locs ls G hl
          replace hI9 : zCF 8 gr ∧ 0 ≤ xn.toInt ∧ xn.toInt ≤ (f_all 4).toInt ∧ zPal (upd (upd (upd f_all 4 0) 5 0) 6 (-1)) ga ∧ zRr k N (f_all 4) xn xw xt xu xo xr xf ga A9 ∧ pLines k 2 (601 - j) A9 gr = pLines k 2 601 (0, 0, 0, -1, -1) (fun _ => 0) ∧ (¬ xr.toInt = 0 ∨ xt.toInt = 0 ∨ (j : Int) < xn.toInt) := hI9
          refine zAn7 hI9 ?_
          intro hL hx1 hx2 hpal hRA hEq hpj
          clear hI9
          replace G : zS T A s.heap s [[zAr T 0 m_read 121 gr], [zO11 mo m_all m_has (f_all 4) xn xw xt xu xo xr xf m_read i_z0 i_crossings i_inns m_posts m_shut m_here i_steps i_done i_at i_gone m_was m_came m_seenAt m_rowWorth m_farBy m_used i_everywhere i_again0 i_d0 i_never i_firstCame i_longRun i_moved i_crowd i_l0 i_fitMany i_fitLeast i_fitMost m_fitPost m_fitEnd m_keptPosts i_x0], [zAr T 0 m_all 3952 ga]] _ _ := G
          replace hl : lv_has ls 5 [(0, .ref mo), (1, .int 2), (2, .int at_)] := hl
          refine lv_aload_n hx hb dX12_text_111 rfl (lv_at hl 0 rfl) ?_
          have hokA := zRr_ok hRA
          refine zAn6 (id hRA) ?_
          intro hA1A hA6A hA7A hA8A hA9A hA10A
          replace hA7A : zHd _ := hA7A
          have hkaA : zHd _ := hokA A9.1 hA1A.2.2.2.2
          have hkbA := hkaA.1
          have hkcA := hkaA.2.1
          have hT4A := pTk_le hokA hA1A.2.2.2.2
          refine z_get C G clX12 1 rfl 8 (by decide) m_fl_RX12_104 rfl dX12_text_112 ?_
          refine lv_if_ne (tgt := 173) hx hb dX12_text_115 (by decide) (fun c_98 => ?_) (fun c_98 => ?_)
          · have c_98n : ¬ xr.toInt = (0 : Int) := fun q => c_98 ((fa_eq _ _).mpr q)
            have hX := hEq.symm.trans (pLines_x (fun z9 => by first | (exact absurd z9.1 (by rw [← hA6A]; omega)) | (exact z9.2 (by omega))))
            have hRd := pRead_e (n := N) hX
            have hww : zHd (A9.2.1.toInt = 0 → xw = nI N) := fun z9 => by first | (exact absurd z9 (by rw [← hA6A]; omega)) | (rw [t2A, hkaA.2.2.1 (pTk_0.mp (by omega))])
            refine lv_iload_n hx hb dX12_text_173 rfl (lv_at hl 1 rfl) ?_
            refine lv_if_ne (tgt := 208) hx hb dX12_text_174 (by decide) (fun _ => ?_) (fun q => absurd q (by decide))
            refine lv_iload_n hx hb dX12_text_208 rfl (lv_at hl 1 rfl) ?_
            refine lv_if_ne (tgt := 237) hx hb dX12_text_209 (by decide) (fun _ => ?_) (fun q => absurd q (by decide))
            have hZ1 : zRr k N (f_all 4) xn xw xt xu xo xr xf ga (pRead k N 2).1 := by rw [hRd, pFin_s (by decide)]; exact hRA
            have hZ2 : (pRead k N 2).2 = gr := by rw [hRd, pFin_s (by decide)]
            have hZ5 := hZ1.2.2.2.1
            have hZ6 := hZ1.2.2.2.2.1
            have hZ5i := congrArg Int32.toInt hZ5
            exact jn_237 xn xw xt xu xo xr xf ga gr (show zCF 8 gr ∧ zPal (upd (upd (upd f_all 4 0) 5 0) 6 (-1)) ga ∧ zRr k N (f_all 4) xn xw xt xu xo xr xf ga (pRead k N 2).1 ∧ (pRead k N 2).2 = gr from ⟨(by assumption), hpal, hZ1, hZ2⟩) _ _ ls G (lv_sub hl [0, 1, 2] rfl)
          · have c_98n : xr.toInt = (0 : Int) := (fa_eq _ _).mp c_98
            have hwA : A9.2.1.toInt = 0 := by rw [← hA6A]; omega
            refine zAn5 (hA7A hwA) ?_
            intro t1A t2A t3A t4A t5A
            replace t4A : zHd _ := t4A
            replace t5A : zHd _ := t5A
            have t3iA : xt.toInt = (pTk k A9.1 : Int) := by rw [t3A]; exact nI_toInt (by omega)
            refine lv_aload_n hx hb dX12_text_118 rfl (lv_at hl 0 rfl) ?_
            refine z_get C G clX12 1 rfl 5 (by decide) m_fl_RX12_80 rfl dX12_text_119 ?_
            refine lv_if_eq (tgt := 173) hx hb dX12_text_122 (by decide) (fun c_99 => ?_) (fun c_99 => ?_)
            · have c_99n : xt.toInt = (0 : Int) := (fa_eq _ _).mp c_99
              have hX := hEq.symm.trans (pLines_x (fun z9 => by first | (exact absurd z9.1 (by rw [← hA6A]; omega)) | (exact z9.2 (by omega))))
              have hRd := pRead_e (n := N) hX
              have hww : zHd (A9.2.1.toInt = 0 → xw = nI N) := fun z9 => by first | (exact absurd z9 (by rw [← hA6A]; omega)) | (rw [t2A, hkaA.2.2.1 (pTk_0.mp (by omega))])
              refine lv_iload_n hx hb dX12_text_173 rfl (lv_at hl 1 rfl) ?_
              refine lv_if_ne (tgt := 208) hx hb dX12_text_174 (by decide) (fun _ => ?_) (fun q => absurd q (by decide))
              refine lv_iload_n hx hb dX12_text_208 rfl (lv_at hl 1 rfl) ?_
              refine lv_if_ne (tgt := 237) hx hb dX12_text_209 (by decide) (fun _ => ?_) (fun q => absurd q (by decide))
              have hZ1 : zRr k N (f_all 4) xn xw xt xu xo xr xf ga (pRead k N 2).1 := by rw [hRd, pFin_s (by decide)]; exact hRA
              have hZ2 : (pRead k N 2).2 = gr := by rw [hRd, pFin_s (by decide)]
              have hZ5 := hZ1.2.2.2.1
              have hZ6 := hZ1.2.2.2.2.1
              have hZ5i := congrArg Int32.toInt hZ5
              exact jn_237 xn xw xt xu xo xr xf ga gr (show zCF 8 gr ∧ zPal (upd (upd (upd f_all 4 0) 5 0) 6 (-1)) ga ∧ zRr k N (f_all 4) xn xw xt xu xo xr xf ga (pRead k N 2).1 ∧ (pRead k N 2).2 = gr from ⟨(by assumption), hpal, hZ1, hZ2⟩) _ _ ls G (lv_sub hl [0, 1, 2] rfl)
            · have c_99n : ¬ xt.toInt = (0 : Int) := fun q => c_99 ((fa_eq _ _).mpr q)
              have htA : ¬ pTk k A9.1 = 0 := by omega
              refine lv_iload_n hx hb dX12_text_125 rfl (lv_at hl 1 rfl) ?_
              refine lv_lookup (tgt := 166) hx hb dX12_text_126 (by decide) rfl (by decide) ?_
              refine lv_aload_n hx hb dX12_text_166 rfl (lv_at hl 0 rfl) ?_
              refine z_Vv (bc := [[zO11 mo m_all m_has (f_all 4) xn xw xt xu xo xr xf m_read i_z0 i_crossings i_inns m_posts m_shut m_here i_steps i_done i_at i_gone m_was m_came m_seenAt m_rowWorth m_farBy m_used i_everywhere i_again0 i_d0 i_never i_firstCame i_longRun i_moved i_crowd i_l0 i_fitMany i_fitLeast i_fitMost m_fitPost m_fitEnd m_keptPosts i_x0], [zAr T 0 m_all 3952 ga], [zAr T 0 m_read 121 gr]]) (br := []) (As := []) (rest := []) C G (c_fm_logLine l T mo m_all m_has (f_all 4) xn xw xt xu xo xr xf m_read i_z0 i_crossings i_inns m_posts m_shut m_here i_steps i_done i_at i_gone m_was m_came m_seenAt m_rowWorth m_farBy m_used i_everywhere i_again0 i_d0 i_never i_firstCame i_longRun i_moved i_crowd i_l0 i_fitMany i_fitLeast i_fitMost m_fitPost m_fitEnd m_keptPosts i_x0 ga gr k N A9 (by first | with_reducible assumption | with_reducible rfl | omega | assumption | rfl) (by first | with_reducible assumption | with_reducible rfl | omega | assumption | rfl) (by first | with_reducible assumption | with_reducible rfl | omega | assumption | rfl) (by first | with_reducible assumption | with_reducible rfl | omega | assumption | rfl) hRA hwA) (kV_RX12_153 C.2.2.2.2 (Nat.le_of_ble_eq_true rfl) (Nat.le_of_ble_eq_true rfl)) [1, 2, 0] [0, 0, 0] rfl rfl (ci := 11) (qc := (RX12, TX12, 43)) rfl rfl (List.mem_flatten.mpr ⟨_, List.mem_of_getElem? (i := 0) rfl, List.mem_cons_self⟩) rfl rfl hl.1 dX12_text_167 (Nat.le_of_ble_eq_true rfl) (Nat.le_of_ble_eq_true rfl) (fun b1 H locs hw G => ?_)
              refine zEx8 hw ?_
              intro j_next_100 j_where_101 j_token_102 j_number_103 j_word_104 j_wrong_105 g_all_106 g_read_107
              refine zCu9 ?_
              intro hbs9 h_108 h_109 h_110 h_111 h_112 h_113 h_114 h_115
              clear hw
              subst hbs9
              have G : zS T A s.heap s [[zO11 mo m_all m_has (f_all 4) j_next_100 j_where_101 j_token_102 j_number_103 j_word_104 j_wrong_105 xf m_read i_z0 i_crossings i_inns m_posts m_shut m_here i_steps i_done i_at i_gone m_was m_came m_seenAt m_rowWorth m_farBy m_used i_everywhere i_again0 i_d0 i_never i_firstCame i_longRun i_moved i_crowd i_l0 i_fitMany i_fitLeast i_fitMost m_fitPost m_fitEnd m_keptPosts i_x0], [zAr T 0 m_all 3952 g_all_106], [zAr T 0 m_read 121 g_read_107]] _ _ := G
              have hnR : zRr k N (f_all 4) j_next_100 j_where_101 j_token_102 j_number_103 j_word_104 j_wrong_105 xf g_all_106 (pLine k 2 A9 gr).1 := by rw [pLine_2]; exact h_114
              have hnG : g_read_107 = (pLine k 2 A9 gr).2 := by rw [pLine_2]; exact h_115
              refine lv_goto (tgt := 111) hx hb dX12_text_170 (by decide) ?_
              have G := G.sub (bs' := [[zAr T 0 m_read 121 g_read_107], [zO11 mo m_all m_has (f_all 4) j_next_100 j_where_101 j_token_102 j_number_103 j_word_104 j_wrong_105 xf m_read i_z0 i_crossings i_inns m_posts m_shut m_here i_steps i_done i_at i_gone m_was m_came m_seenAt m_rowWorth m_farBy m_used i_everywhere i_again0 i_d0 i_never i_firstCame i_longRun i_moved i_crowd i_l0 i_fitMany i_fitLeast i_fitMost m_fitPost m_fitEnd m_keptPosts i_x0], [zAr T 0 m_all 3952 g_all_106]]) [2, 0, 1] rfl
              exact ih_111 j_next_100 j_where_101 j_token_102 j_number_103 j_word_104 j_wrong_105 xf g_all_106 g_read_107 ((pLine k 2 A9 gr).1) (j + 1) (show zCF 8 g_read_107 ∧ 0 ≤ j_next_100.toInt ∧ j_next_100.toInt ≤ (f_all 4).toInt ∧ zPal (upd (upd (upd f_all 4 0) 5 0) 6 (-1)) g_all_106 ∧ zRr k N (f_all 4) j_next_100 j_where_101 j_token_102 j_number_103 j_word_104 j_wrong_105 xf g_all_106 ((pLine k 2 A9 gr).1) ∧ pLines k 2 (601 - (j + 1)) ((pLine k 2 A9 gr).1) g_read_107 = pLines k 2 601 (0, 0, 0, -1, -1) (fun _ => 0) ∧ (¬ j_wrong_105.toInt = 0 ∨ j_token_102.toInt = 0 ∨ ((j + 1) : Int) < j_next_100.toInt) from ⟨(by assumption), by omega, by omega, (hpal.tr h_112), hnR, (by rw [hnG]; exact pLines_n (by omega) hwA htA hEq), by omega⟩) (show zMu j_wrong_105 j_token_102 j_next_100 (f_all 4) < zMu xr xt xn (f_all 4) from zMu_lt (by omega) (by omega) (by omega) (by omega)) _ _ ls G (lv_sub hl [0, 1, 2] rfl)
        · have c_84n : ¬ 121 ≤ k_ := fun q => c_84 ((nI_leI (a := 121) (b := k_) (by omega) (by omega)).mpr q)
          refine lv_aload_n hx hb dX12_text_94 rfl (lv_at hl 1 rfl) ?_
          refine z_get C G clX12 1 rfl 10 (by decide) m_fl_RX12_17 rfl dX12_text_95 ?_
          refine lv_iload_n hx hb dX12_text_98 rfl (lv_at hl 0 rfl) ?_
          refine lv_iconst (v := 0) hx hb dX12_text_99 (by decide) ?_
          refine z_ist C G 0 rfl (vp_in_nI (by omega) (by omega)) dX12_text_100 (fun H locs G => ?_)
          rw [nI_clamp (by omega)] at G
          have G : zS T A s.heap s [[zAr T 0 m_read 121 (upd z k_ 0)], [zO11 mo m_all m_has (f_all 4) 0 i_where i_token i_number i_word 0 (-1) m_read i_z0 i_crossings i_inns m_posts m_shut m_here i_steps i_done i_at i_gone m_was m_came m_seenAt m_rowWorth m_farBy m_used i_everywhere i_again0 i_d0 i_never i_firstCame i_longRun i_moved i_crowd i_l0 i_fitMany i_fitLeast i_fitMost m_fitPost m_fitEnd m_keptPosts i_x0], [zAr T 0 m_all 3952 (upd (upd (upd f_all 4 0) 5 0) 6 (-1))]] _ _ := G
          refine lv_iinc (v := nI (k_ + 1)) (lv' := [(3, .int (nI (k_ + 1))), (0, .ref mo), (1, .int 2), (2, .int at_)]) hx hb dX12_text_101 hl (k := 0) rfl (z_inc k_ 1) (by decide) rfl (fun ls hl => ?_)
          refine lv_goto (tgt := 88) hx hb dX12_text_104 (by decide) ?_
          exact ih_88 (k_ + 1) (upd z k_ 0) (show (k_ + 1) ≤ 121 ∧ (∀ j, j < (k_ + 1) → (upd z k_ 0) j = 0) from ⟨by omega, z_updE (F := fun _ => 0) hZ rfl⟩) (show 121 - (k_ + 1) < 121 - k_ from by omega) _ _ ls G (lv_sub hl [0, 1, 2, 3] rfl)
      · have h_67 : (at_.toInt < 0 ∨ ((upd (upd (upd f_all 4 0) 5 0) 6 (-1)) 2).toInt ≤ at_.toInt) := h_67
        refine lv_if_ne (tgt := 71) hx hb dX12_text_65 (by decide) (fun q => absurd (by decide) q) (fun _ => ?_)
        refine lv_bipush (v := (-2)) hx hb dX12_text_68 (by decide) ?_
        have G := G.sub (bs' := [[zO11 mo m_all m_has (f_all 4) i_next i_where i_token i_number i_word i_wrong i_farCrossing m_read i_z0 i_crossings i_inns m_posts m_shut m_here i_steps i_done i_at i_gone m_was m_came m_seenAt m_rowWorth m_farBy m_used i_everywhere i_again0 i_d0 i_never i_firstCame i_longRun i_moved i_crowd i_l0 i_fitMany i_fitLeast i_fitMost m_fitPost m_fitEnd m_keptPosts i_x0], [zAr T 0 m_all 3952 (upd (upd (upd f_all 4 0) 5 0) 6 (-1))], [zAr T 0 m_read 121 f_read]]) [1, 2, 0] rfl
        exact z_back hQ9 (z_iret C hr hlocks G (Nat.le_of_ble_eq_true rfl) (Nat.le_of_ble_eq_true rfl) dX12_text_70 ⟨(f_all 4), i_next, i_where, i_token, i_number, i_word, i_wrong, i_farCrossing, (upd (upd (upd f_all 4 0) 5 0) 6 (-1)), f_read, rfl, (zBI_hd hB rfl (fun q hq => by rw [hF q (by omega) (by omega) (by omega)]; exact hB.2.1 q hq) (fun j hj => hF j (by omega) (by omega) (by omega))), rfl, (fun j hj => hF j (by omega) (by omega) (by omega)), (zText_b (fun z9 => by have z8 := hoi.mp z9; omega))⟩)
  · have h_6 : ((2 : Int) < (0 : Int) ∨ (2 : Int) < (2 : Int)) := h_6
    refine lv_if_eq (tgt := 68) hx hb dX12_text_38 (by decide) (fun _ => ?_) (fun q => absurd (by decide) q)
    refine lv_bipush (v := (-2)) hx hb dX12_text_68 (by decide) ?_
    exact z_back hQ9 (z_iret C hr hlocks G (Nat.le_of_ble_eq_true rfl) (Nat.le_of_ble_eq_true rfl) dX12_text_70 ⟨(f_all 4), i_next, i_where, i_token, i_number, i_word, i_wrong, i_farCrossing, (upd (upd (upd f_all 4 0) 5 0) 6 (-1)), f_read, rfl, (zBI_hd hB rfl (fun q hq => by rw [hF q (by omega) (by omega) (by omega)]; exact hB.2.1 q hq) (fun j hj => hF j (by omega) (by omega) (by omega))), rfl, (fun j hj => hF j (by omega) (by omega) (by omega)), (by exfalso; omega)⟩)
/-! RECORDS: what the class keeps, as the reference keeps it -/
def zLnd (cr inn : Int32) (k1 k2 k3 k4 g : Nat → Int32) : Prop := cr = g 0 ∧ (0 ≤ (g 0).toInt ∧ (g 0).toInt ≤ 7) ∧ inn = g 1 ∧ (∀ j : Nat, j < 7 → k1 j = g (2 + j) ∧ k3 j = g (9 + j) ∧ k4 j = g (16 + j)) ∧ (∀ j : Nat, j < 7 → (g 0).toInt ≤ (j : Int) → k1 j = 0) ∧ (∀ j r : Nat, j < 7 → r < 4 → (r : Int) < (k1 j).toInt → k2 (4 * j + r) = g (23 + 4 * j + r))
def zDyd (dd : Int32) (d1 d2 d3 g : Nat → Int32) : Prop := dd = g 0 ∧ (0 ≤ (g 0).toInt ∧ (g 0).toInt ≤ 40) ∧ ∀ j : Nat, (j : Int) < (g 0).toInt → d1 j = g (1 + 3 * j) ∧ d2 j = g (2 + 3 * j) ∧ d3 j = g (3 + 3 * j)
def zLgd (gg : Int32) (e1 e2 g : Nat → Int32) : Prop := gg = g 0 ∧ (0 ≤ (g 0).toInt ∧ (g 0).toInt ≤ 8) ∧ ∀ j : Nat, (j : Int) < (g 0).toInt → e1 j = g (1 + 2 * j) ∧ e2 j = g (2 + 2 * j)
theorem zLnd_cg {cr inn : Int32} {k1 k2 k3 k4 g g' : Nat → Int32} (h : zLnd cr inn k1 k2 k3 k4 g) (e : ∀ j, j < 51 → g' j = g j) : zLnd cr inn k1 k2 k3 k4 g' := by
  obtain ⟨a, b, c, d, f, i⟩ := h
  have e0 := e 0 (by decide)
  exact ⟨a.trans e0.symm, by rw [e0]; exact b, c.trans (e 1 (by decide)).symm, fun j hj => ⟨(d j hj).1.trans (e _ (by omega)).symm, (d j hj).2.1.trans (e _ (by omega)).symm, (d j hj).2.2.trans (e _ (by omega)).symm⟩, fun j hj hq => f j hj (by rw [← e0]; exact hq), fun j r h1 h2 h3 => (i j r h1 h2 h3).trans (e _ (by omega)).symm⟩
theorem zDyd_cg {dd : Int32} {d1 d2 d3 g g' : Nat → Int32} (h : zDyd dd d1 d2 d3 g) (e : ∀ j, j < 121 → g' j = g j) : zDyd dd d1 d2 d3 g' := by
  obtain ⟨a, b, c⟩ := h
  have e0 := e 0 (by decide)
  refine ⟨a.trans e0.symm, by rw [e0]; exact b, fun j hj => ?_⟩
  rw [e0] at hj
  rw [e _ (by omega), e _ (by omega), e _ (by omega)]
  exact c j hj
theorem zLgd_cg {dd : Int32} {d1 d2 g g' : Nat → Int32} (h : zLgd dd d1 d2 g) (e : ∀ j, j < 17 → g' j = g j) : zLgd dd d1 d2 g' := by
  obtain ⟨a, b, c⟩ := h
  have e0 := e 0 (by decide)
  refine ⟨a.trans e0.symm, by rw [e0]; exact b, fun j hj => ?_⟩
  rw [e0] at hj
  rw [e _ (by omega), e _ (by omega)]
  exact c j hj
/-- rows that agree where they matter -/
theorem zLnd_eq {cr inn : Int32} {k1 k2 k3 k4 s1 s2 s3 s4 g : Nat → Int32} (h : zLnd cr inn k1 k2 k3 k4 g) (hb : ∀ j, j < 7 → (k1 j).toInt ≤ 4) (e1 : ∀ j, j < 7 → s1 j = k1 j) (e2 : ∀ j, j < 28 → s2 j = k2 j) (e3 : ∀ j, j < 7 → s3 j = k3 j) (e4 : ∀ j, j < 7 → s4 j = k4 j) : zLnd cr inn s1 s2 s3 s4 g := by
  obtain ⟨a, b, c, d, f, i⟩ := h
  exact ⟨a, b, c, fun j hj => ⟨(e1 j hj).trans (d j hj).1, (e3 j hj).trans (d j hj).2.1, (e4 j hj).trans (d j hj).2.2⟩, fun j hj hq => (e1 j hj).trans (f j hj hq), fun j r h1 h2 h3 => (e2 _ (by omega)).trans (i j r h1 h2 (by rw [← e1 j h1]; exact h3))⟩
theorem zDyd_eq {dd : Int32} {d1 d2 d3 s1 s2 s3 g : Nat → Int32} (h : zDyd dd d1 d2 d3 g) (e1 : ∀ j, j < 40 → s1 j = d1 j) (e2 : ∀ j, j < 40 → s2 j = d2 j) (e3 : ∀ j, j < 40 → s3 j = d3 j) : zDyd dd s1 s2 s3 g := by
  obtain ⟨a, b, c⟩ := h
  exact ⟨a, b, fun j hj => ⟨(e1 j (by omega)).trans (c j hj).1, (e2 j (by omega)).trans (c j hj).2.1, (e3 j (by omega)).trans (c j hj).2.2⟩⟩
theorem zLgd_eq {dd : Int32} {d1 d2 s1 s2 g : Nat → Int32} (h : zLgd dd d1 d2 g) (e1 : ∀ j, j < 8 → s1 j = d1 j) (e2 : ∀ j, j < 8 → s2 j = d2 j) : zLgd dd s1 s2 g := by
  obtain ⟨a, b, c⟩ := h
  exact ⟨a, b, fun j hj => ⟨(e1 j (by omega)).trans (c j hj).1, (e2 j (by omega)).trans (c j hj).2⟩⟩
theorem zLnd_c {cr inn tof : Int32} {k1 k2 k3 k4 f : Nat → Int32} {a : pS} (h : zLc cr inn k1 k2 k3 k4 tof a f) (q : a.2.2.1.toInt = 0) : zLnd cr inn k1 k2 k3 k4 f := by
  obtain ⟨a, b, c, d, e, f, -⟩ := h q
  exact ⟨a, b, c, d, e, f⟩
theorem zDyd_c {dd : Int32} {d1 d2 d3 f : Nat → Int32} {a : pS} (h : zDc dd d1 d2 d3 a f) (q : a.2.2.1.toInt = 0) : zDyd dd d1 d2 d3 f := h q
theorem zLgd_c {dd : Int32} {d1 d2 f : Nat → Int32} {a : pS} (h : zGc dd d1 d2 a f) (q : a.2.2.1.toInt = 0) : zLgd dd d1 d2 f := h q
theorem z_in {s nr j m : Nat} {row G : Nat → Int32} (h : pBase s nr ≤ j ∧ j < pBase s nr + pSize s) (e : j - pBase s nr = m) : pPut s nr row G j = row m := by
  have : pPut s nr row G j = row (j - pBase s nr) := if_pos h
  rw [this, e]
def zBy (x y : Int32) : Prop := zBe x y ∧ x.toInt8.toInt32 = x
def zTd (ln fl pl : Int32) (ft fk G : Nat → Int32) : Prop := ln = G 4 ∧ fl = G 5 ∧ pl = G 6 ∧ (∀ j, j < 3 → fk j = G j) ∧ ∀ j, j < 600 → zBy (ft j) (G (10 + j))
def zTR (ln : Int32) (fl : Int32) (pl : Int32) (ft : Nat → Int32) (fk : Nat → Int32) (cr_L0 : Int32) (inn_L0 : Int32) (k1_L0 : Nat → Int32) (k2_L0 : Nat → Int32) (k3_L0 : Nat → Int32) (k4_L0 : Nat → Int32) (cr_L1 : Int32) (inn_L1 : Int32) (k1_L1 : Nat → Int32) (k2_L1 : Nat → Int32) (k3_L1 : Nat → Int32) (k4_L1 : Nat → Int32) (dd_D0 : Int32) (p1_D0 : Nat → Int32) (p2_D0 : Nat → Int32) (p3_D0 : Nat → Int32) (dd_D1 : Int32) (p1_D1 : Nat → Int32) (p2_D1 : Nat → Int32) (p3_D1 : Nat → Int32) (gg_G0 : Int32) (q1_G0 : Nat → Int32) (q2_G0 : Nat → Int32) (gg_G1 : Int32) (q1_G1 : Nat → Int32) (q2_G1 : Nat → Int32) (G : Nat → Int32) : Prop := zTd ln fl pl ft fk G ∧ zLnd cr_L0 inn_L0 k1_L0 k2_L0 k3_L0 k4_L0 (fun j => G (610 + j)) ∧ zLnd cr_L1 inn_L1 k1_L1 k2_L1 k3_L1 k4_L1 (fun j => G (661 + j)) ∧ zDyd dd_D0 p1_D0 p2_D0 p3_D0 (fun j => G (712 + j)) ∧ zDyd dd_D1 p1_D1 p2_D1 p3_D1 (fun j => G (833 + j)) ∧ zLgd gg_G0 q1_G0 q2_G0 (fun j => G (954 + j)) ∧ zLgd gg_G1 q1_G1 q2_G1 (fun j => G (971 + j))
section ZTR
variable {ln : Int32} {fl : Int32} {pl : Int32} {ft : Nat → Int32} {fk : Nat → Int32} {cr_L0 : Int32} {inn_L0 : Int32} {k1_L0 : Nat → Int32} {k2_L0 : Nat → Int32} {k3_L0 : Nat → Int32} {k4_L0 : Nat → Int32} {cr_L1 : Int32} {inn_L1 : Int32} {k1_L1 : Nat → Int32} {k2_L1 : Nat → Int32} {k3_L1 : Nat → Int32} {k4_L1 : Nat → Int32} {dd_D0 : Int32} {p1_D0 : Nat → Int32} {p2_D0 : Nat → Int32} {p3_D0 : Nat → Int32} {dd_D1 : Int32} {p1_D1 : Nat → Int32} {p2_D1 : Nat → Int32} {p3_D1 : Nat → Int32} {gg_G0 : Int32} {q1_G0 : Nat → Int32} {q2_G0 : Nat → Int32} {gg_G1 : Int32} {q1_G1 : Nat → Int32} {q2_G1 : Nat → Int32} {G G2 : Nat → Int32}
theorem zTR_cg (h : zTR ln fl pl ft fk cr_L0 inn_L0 k1_L0 k2_L0 k3_L0 k4_L0 cr_L1 inn_L1 k1_L1 k2_L1 k3_L1 k4_L1 dd_D0 p1_D0 p2_D0 p3_D0 dd_D1 p1_D1 p2_D1 p3_D1 gg_G0 q1_G0 q2_G0 gg_G1 q1_G1 q2_G1 G) (e : ∀ j, j < 988 → G2 j = G j) : zTR ln fl pl ft fk cr_L0 inn_L0 k1_L0 k2_L0 k3_L0 k4_L0 cr_L1 inn_L1 k1_L1 k2_L1 k3_L1 k4_L1 dd_D0 p1_D0 p2_D0 p3_D0 dd_D1 p1_D1 p2_D1 p3_D1 gg_G0 q1_G0 q2_G0 gg_G1 q1_G1 q2_G1 G2 := by
  obtain ⟨⟨a, b, c, d, f⟩, h1, h2, h3, h4, h5, h6⟩ := h
  exact ⟨⟨a.trans (e _ (by decide)).symm, b.trans (e _ (by decide)).symm, c.trans (e _ (by decide)).symm, fun j hj => (d j hj).trans (e _ (by omega)).symm, fun j hj => by rw [e _ (by omega)]; exact f j hj⟩, zLnd_cg h1 (fun j hj => e _ (by omega)), zLnd_cg h2 (fun j hj => e _ (by omega)), zDyd_cg h3 (fun j hj => e _ (by omega)), zDyd_cg h4 (fun j hj => e _ (by omega)), zLgd_cg h5 (fun j hj => e _ (by omega)), zLgd_cg h6 (fun j hj => e _ (by omega))⟩
/-- the tape taken, a fault told -/
theorem zTR_hd {fl2 pl2 : Int32} (h : zTR ln fl pl ft fk cr_L0 inn_L0 k1_L0 k2_L0 k3_L0 k4_L0 cr_L1 inn_L1 k1_L1 k2_L1 k3_L1 k4_L1 dd_D0 p1_D0 p2_D0 p3_D0 dd_D1 p1_D1 p2_D1 p3_D1 gg_G0 q1_G0 q2_G0 gg_G1 q1_G1 q2_G1 G) : zTR 0 fl2 pl2 ft fk cr_L0 inn_L0 k1_L0 k2_L0 k3_L0 k4_L0 cr_L1 inn_L1 k1_L1 k2_L1 k3_L1 k4_L1 dd_D0 p1_D0 p2_D0 p3_D0 dd_D1 p1_D1 p2_D1 p3_D1 gg_G0 q1_G0 q2_G0 gg_G1 q1_G1 q2_G1 (pHd G fl2 pl2) := by
  obtain ⟨⟨a, b, c, d, f⟩, h1, h2, h3, h4, h5, h6⟩ := h
  have e : ∀ j, ¬ j = 4 → ¬ j = 5 → ¬ j = 6 → pHd G fl2 pl2 j = G j := fun j a b c => by unfold pHd; rw [z_ne c, z_ne b, z_ne a]
  exact ⟨⟨rfl, rfl, rfl, fun j hj => (d j hj).trans (e _ (by omega) (by omega) (by omega)).symm, fun j hj => by rw [e _ (by omega) (by omega) (by omega)]; exact f j hj⟩, zLnd_cg h1 (fun j hj => e _ (by omega) (by omega) (by omega)), zLnd_cg h2 (fun j hj => e _ (by omega) (by omega) (by omega)), zDyd_cg h3 (fun j hj => e _ (by omega) (by omega) (by omega)), zDyd_cg h4 (fun j hj => e _ (by omega) (by omega) (by omega)), zLgd_cg h5 (fun j hj => e _ (by omega) (by omega) (by omega)), zLgd_cg h6 (fun j hj => e _ (by omega) (by omega) (by omega))⟩
theorem zTR_p00 {cr_L0_n : Int32} {inn_L0_n : Int32} {k1_L0_n : Nat → Int32} {k2_L0_n : Nat → Int32} {k3_L0_n : Nat → Int32} {k4_L0_n : Nat → Int32} {fk2 row : Nat → Int32} (h : zTR ln fl pl ft fk cr_L0 inn_L0 k1_L0 k2_L0 k3_L0 k4_L0 cr_L1 inn_L1 k1_L1 k2_L1 k3_L1 k4_L1 dd_D0 p1_D0 p2_D0 p3_D0 dd_D1 p1_D1 p2_D1 p3_D1 gg_G0 q1_G0 q2_G0 gg_G1 q1_G1 q2_G1 G) (hk : ∀ j, j < 3 → fk2 j = G2 j) (hG : ∀ j, 3 ≤ j → G2 j = G j) (hn : zLnd cr_L0_n inn_L0_n k1_L0_n k2_L0_n k3_L0_n k4_L0_n row) : zTR ln fl pl ft fk2 cr_L0_n inn_L0_n k1_L0_n k2_L0_n k3_L0_n k4_L0_n cr_L1 inn_L1 k1_L1 k2_L1 k3_L1 k4_L1 dd_D0 p1_D0 p2_D0 p3_D0 dd_D1 p1_D1 p2_D1 p3_D1 gg_G0 q1_G0 q2_G0 gg_G1 q1_G1 q2_G1 (pPut 0 0 row G2) := by
  obtain ⟨⟨a, b, c, d, f⟩, h1, h2, h3, h4, h5, h6⟩ := h
  have o : ∀ j, ¬ (610 ≤ j ∧ j < 661) → pPut 0 0 row G2 j = G2 j := fun j q => if_neg q
  have e : ∀ j, 3 ≤ j ∧ ¬ (610 ≤ j ∧ j < 661) → pPut 0 0 row G2 j = G j := fun j q => (o j q.2).trans (hG j q.1)
  exact ⟨⟨a.trans (e _ (by omega)).symm, b.trans (e _ (by omega)).symm, c.trans (e _ (by omega)).symm, fun j hj => (hk j hj).trans (o _ (by omega)).symm, fun j hj => by rw [e _ (by omega)]; exact f j hj⟩, zLnd_cg hn (fun j hj => z_in (by show pBase 0 0 ≤ 610 + j ∧ 610 + j < pBase 0 0 + pSize 0; exact ⟨Nat.le_add_right 610 j, Nat.add_lt_add_left hj 610⟩) (show (610 + j) - 610 = j by omega)), zLnd_cg h2 (fun j hj => e _ (by omega)), zDyd_cg h3 (fun j hj => e _ (by omega)), zDyd_cg h4 (fun j hj => e _ (by omega)), zLgd_cg h5 (fun j hj => e _ (by omega)), zLgd_cg h6 (fun j hj => e _ (by omega))⟩
theorem zTR_p01 {cr_L1_n : Int32} {inn_L1_n : Int32} {k1_L1_n : Nat → Int32} {k2_L1_n : Nat → Int32} {k3_L1_n : Nat → Int32} {k4_L1_n : Nat → Int32} {fk2 row : Nat → Int32} (h : zTR ln fl pl ft fk cr_L0 inn_L0 k1_L0 k2_L0 k3_L0 k4_L0 cr_L1 inn_L1 k1_L1 k2_L1 k3_L1 k4_L1 dd_D0 p1_D0 p2_D0 p3_D0 dd_D1 p1_D1 p2_D1 p3_D1 gg_G0 q1_G0 q2_G0 gg_G1 q1_G1 q2_G1 G) (hk : ∀ j, j < 3 → fk2 j = G2 j) (hG : ∀ j, 3 ≤ j → G2 j = G j) (hn : zLnd cr_L1_n inn_L1_n k1_L1_n k2_L1_n k3_L1_n k4_L1_n row) : zTR ln fl pl ft fk2 cr_L0 inn_L0 k1_L0 k2_L0 k3_L0 k4_L0 cr_L1_n inn_L1_n k1_L1_n k2_L1_n k3_L1_n k4_L1_n dd_D0 p1_D0 p2_D0 p3_D0 dd_D1 p1_D1 p2_D1 p3_D1 gg_G0 q1_G0 q2_G0 gg_G1 q1_G1 q2_G1 (pPut 0 1 row G2) := by
  obtain ⟨⟨a, b, c, d, f⟩, h1, h2, h3, h4, h5, h6⟩ := h
  have o : ∀ j, ¬ (661 ≤ j ∧ j < 712) → pPut 0 1 row G2 j = G2 j := fun j q => if_neg q
  have e : ∀ j, 3 ≤ j ∧ ¬ (661 ≤ j ∧ j < 712) → pPut 0 1 row G2 j = G j := fun j q => (o j q.2).trans (hG j q.1)
  exact ⟨⟨a.trans (e _ (by omega)).symm, b.trans (e _ (by omega)).symm, c.trans (e _ (by omega)).symm, fun j hj => (hk j hj).trans (o _ (by omega)).symm, fun j hj => by rw [e _ (by omega)]; exact f j hj⟩, zLnd_cg h1 (fun j hj => e _ (by omega)), zLnd_cg hn (fun j hj => z_in (by show pBase 0 1 ≤ 661 + j ∧ 661 + j < pBase 0 1 + pSize 0; exact ⟨Nat.le_add_right 661 j, Nat.add_lt_add_left hj 661⟩) (show (661 + j) - 661 = j by omega)), zDyd_cg h3 (fun j hj => e _ (by omega)), zDyd_cg h4 (fun j hj => e _ (by omega)), zLgd_cg h5 (fun j hj => e _ (by omega)), zLgd_cg h6 (fun j hj => e _ (by omega))⟩
theorem zTR_p10 {dd_D0_n : Int32} {p1_D0_n : Nat → Int32} {p2_D0_n : Nat → Int32} {p3_D0_n : Nat → Int32} {fk2 row : Nat → Int32} (h : zTR ln fl pl ft fk cr_L0 inn_L0 k1_L0 k2_L0 k3_L0 k4_L0 cr_L1 inn_L1 k1_L1 k2_L1 k3_L1 k4_L1 dd_D0 p1_D0 p2_D0 p3_D0 dd_D1 p1_D1 p2_D1 p3_D1 gg_G0 q1_G0 q2_G0 gg_G1 q1_G1 q2_G1 G) (hk : ∀ j, j < 3 → fk2 j = G2 j) (hG : ∀ j, 3 ≤ j → G2 j = G j) (hn : zDyd dd_D0_n p1_D0_n p2_D0_n p3_D0_n row) : zTR ln fl pl ft fk2 cr_L0 inn_L0 k1_L0 k2_L0 k3_L0 k4_L0 cr_L1 inn_L1 k1_L1 k2_L1 k3_L1 k4_L1 dd_D0_n p1_D0_n p2_D0_n p3_D0_n dd_D1 p1_D1 p2_D1 p3_D1 gg_G0 q1_G0 q2_G0 gg_G1 q1_G1 q2_G1 (pPut 1 0 row G2) := by
  obtain ⟨⟨a, b, c, d, f⟩, h1, h2, h3, h4, h5, h6⟩ := h
  have o : ∀ j, ¬ (712 ≤ j ∧ j < 833) → pPut 1 0 row G2 j = G2 j := fun j q => if_neg q
  have e : ∀ j, 3 ≤ j ∧ ¬ (712 ≤ j ∧ j < 833) → pPut 1 0 row G2 j = G j := fun j q => (o j q.2).trans (hG j q.1)
  exact ⟨⟨a.trans (e _ (by omega)).symm, b.trans (e _ (by omega)).symm, c.trans (e _ (by omega)).symm, fun j hj => (hk j hj).trans (o _ (by omega)).symm, fun j hj => by rw [e _ (by omega)]; exact f j hj⟩, zLnd_cg h1 (fun j hj => e _ (by omega)), zLnd_cg h2 (fun j hj => e _ (by omega)), zDyd_cg hn (fun j hj => z_in (by show pBase 1 0 ≤ 712 + j ∧ 712 + j < pBase 1 0 + pSize 1; exact ⟨Nat.le_add_right 712 j, Nat.add_lt_add_left hj 712⟩) (show (712 + j) - 712 = j by omega)), zDyd_cg h4 (fun j hj => e _ (by omega)), zLgd_cg h5 (fun j hj => e _ (by omega)), zLgd_cg h6 (fun j hj => e _ (by omega))⟩
theorem zTR_p11 {dd_D1_n : Int32} {p1_D1_n : Nat → Int32} {p2_D1_n : Nat → Int32} {p3_D1_n : Nat → Int32} {fk2 row : Nat → Int32} (h : zTR ln fl pl ft fk cr_L0 inn_L0 k1_L0 k2_L0 k3_L0 k4_L0 cr_L1 inn_L1 k1_L1 k2_L1 k3_L1 k4_L1 dd_D0 p1_D0 p2_D0 p3_D0 dd_D1 p1_D1 p2_D1 p3_D1 gg_G0 q1_G0 q2_G0 gg_G1 q1_G1 q2_G1 G) (hk : ∀ j, j < 3 → fk2 j = G2 j) (hG : ∀ j, 3 ≤ j → G2 j = G j) (hn : zDyd dd_D1_n p1_D1_n p2_D1_n p3_D1_n row) : zTR ln fl pl ft fk2 cr_L0 inn_L0 k1_L0 k2_L0 k3_L0 k4_L0 cr_L1 inn_L1 k1_L1 k2_L1 k3_L1 k4_L1 dd_D0 p1_D0 p2_D0 p3_D0 dd_D1_n p1_D1_n p2_D1_n p3_D1_n gg_G0 q1_G0 q2_G0 gg_G1 q1_G1 q2_G1 (pPut 1 1 row G2) := by
  obtain ⟨⟨a, b, c, d, f⟩, h1, h2, h3, h4, h5, h6⟩ := h
  have o : ∀ j, ¬ (833 ≤ j ∧ j < 954) → pPut 1 1 row G2 j = G2 j := fun j q => if_neg q
  have e : ∀ j, 3 ≤ j ∧ ¬ (833 ≤ j ∧ j < 954) → pPut 1 1 row G2 j = G j := fun j q => (o j q.2).trans (hG j q.1)
  exact ⟨⟨a.trans (e _ (by omega)).symm, b.trans (e _ (by omega)).symm, c.trans (e _ (by omega)).symm, fun j hj => (hk j hj).trans (o _ (by omega)).symm, fun j hj => by rw [e _ (by omega)]; exact f j hj⟩, zLnd_cg h1 (fun j hj => e _ (by omega)), zLnd_cg h2 (fun j hj => e _ (by omega)), zDyd_cg h3 (fun j hj => e _ (by omega)), zDyd_cg hn (fun j hj => z_in (by show pBase 1 1 ≤ 833 + j ∧ 833 + j < pBase 1 1 + pSize 1; exact ⟨Nat.le_add_right 833 j, Nat.add_lt_add_left hj 833⟩) (show (833 + j) - 833 = j by omega)), zLgd_cg h5 (fun j hj => e _ (by omega)), zLgd_cg h6 (fun j hj => e _ (by omega))⟩
theorem zTR_p20 {gg_G0_n : Int32} {q1_G0_n : Nat → Int32} {q2_G0_n : Nat → Int32} {fk2 row : Nat → Int32} (h : zTR ln fl pl ft fk cr_L0 inn_L0 k1_L0 k2_L0 k3_L0 k4_L0 cr_L1 inn_L1 k1_L1 k2_L1 k3_L1 k4_L1 dd_D0 p1_D0 p2_D0 p3_D0 dd_D1 p1_D1 p2_D1 p3_D1 gg_G0 q1_G0 q2_G0 gg_G1 q1_G1 q2_G1 G) (hk : ∀ j, j < 3 → fk2 j = G2 j) (hG : ∀ j, 3 ≤ j → G2 j = G j) (hn : zLgd gg_G0_n q1_G0_n q2_G0_n row) : zTR ln fl pl ft fk2 cr_L0 inn_L0 k1_L0 k2_L0 k3_L0 k4_L0 cr_L1 inn_L1 k1_L1 k2_L1 k3_L1 k4_L1 dd_D0 p1_D0 p2_D0 p3_D0 dd_D1 p1_D1 p2_D1 p3_D1 gg_G0_n q1_G0_n q2_G0_n gg_G1 q1_G1 q2_G1 (pPut 2 0 row G2) := by
  obtain ⟨⟨a, b, c, d, f⟩, h1, h2, h3, h4, h5, h6⟩ := h
  have o : ∀ j, ¬ (954 ≤ j ∧ j < 971) → pPut 2 0 row G2 j = G2 j := fun j q => if_neg q
  have e : ∀ j, 3 ≤ j ∧ ¬ (954 ≤ j ∧ j < 971) → pPut 2 0 row G2 j = G j := fun j q => (o j q.2).trans (hG j q.1)
  exact ⟨⟨a.trans (e _ (by omega)).symm, b.trans (e _ (by omega)).symm, c.trans (e _ (by omega)).symm, fun j hj => (hk j hj).trans (o _ (by omega)).symm, fun j hj => by rw [e _ (by omega)]; exact f j hj⟩, zLnd_cg h1 (fun j hj => e _ (by omega)), zLnd_cg h2 (fun j hj => e _ (by omega)), zDyd_cg h3 (fun j hj => e _ (by omega)), zDyd_cg h4 (fun j hj => e _ (by omega)), zLgd_cg hn (fun j hj => z_in (by show pBase 2 0 ≤ 954 + j ∧ 954 + j < pBase 2 0 + pSize 2; exact ⟨Nat.le_add_right 954 j, Nat.add_lt_add_left hj 954⟩) (show (954 + j) - 954 = j by omega)), zLgd_cg h6 (fun j hj => e _ (by omega))⟩
theorem zTR_p21 {gg_G1_n : Int32} {q1_G1_n : Nat → Int32} {q2_G1_n : Nat → Int32} {fk2 row : Nat → Int32} (h : zTR ln fl pl ft fk cr_L0 inn_L0 k1_L0 k2_L0 k3_L0 k4_L0 cr_L1 inn_L1 k1_L1 k2_L1 k3_L1 k4_L1 dd_D0 p1_D0 p2_D0 p3_D0 dd_D1 p1_D1 p2_D1 p3_D1 gg_G0 q1_G0 q2_G0 gg_G1 q1_G1 q2_G1 G) (hk : ∀ j, j < 3 → fk2 j = G2 j) (hG : ∀ j, 3 ≤ j → G2 j = G j) (hn : zLgd gg_G1_n q1_G1_n q2_G1_n row) : zTR ln fl pl ft fk2 cr_L0 inn_L0 k1_L0 k2_L0 k3_L0 k4_L0 cr_L1 inn_L1 k1_L1 k2_L1 k3_L1 k4_L1 dd_D0 p1_D0 p2_D0 p3_D0 dd_D1 p1_D1 p2_D1 p3_D1 gg_G0 q1_G0 q2_G0 gg_G1_n q1_G1_n q2_G1_n (pPut 2 1 row G2) := by
  obtain ⟨⟨a, b, c, d, f⟩, h1, h2, h3, h4, h5, h6⟩ := h
  have o : ∀ j, ¬ (971 ≤ j ∧ j < 988) → pPut 2 1 row G2 j = G2 j := fun j q => if_neg q
  have e : ∀ j, 3 ≤ j ∧ ¬ (971 ≤ j ∧ j < 988) → pPut 2 1 row G2 j = G j := fun j q => (o j q.2).trans (hG j q.1)
  exact ⟨⟨a.trans (e _ (by omega)).symm, b.trans (e _ (by omega)).symm, c.trans (e _ (by omega)).symm, fun j hj => (hk j hj).trans (o _ (by omega)).symm, fun j hj => by rw [e _ (by omega)]; exact f j hj⟩, zLnd_cg h1 (fun j hj => e _ (by omega)), zLnd_cg h2 (fun j hj => e _ (by omega)), zDyd_cg h3 (fun j hj => e _ (by omega)), zDyd_cg h4 (fun j hj => e _ (by omega)), zLgd_cg h5 (fun j hj => e _ (by omega)), zLgd_cg hn (fun j hj => z_in (by show pBase 2 1 ≤ 971 + j ∧ 971 + j < pBase 2 1 + pSize 2; exact ⟨Nat.le_add_right 971 j, Nat.add_lt_add_left hj 971⟩) (show (971 + j) - 971 = j by omega))⟩
end ZTR

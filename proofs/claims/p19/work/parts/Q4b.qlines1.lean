set_option maxHeartbeats 4000000 in
set_option maxRecDepth 100000 in
/-- c_fm_ends -/
theorem c_fm_ends (l : Launch) (T : zTy) (mo : Nat) (m_all : Nat) (m_has : Nat) (i_size : Int32) (i_next : Int32) (i_where : Int32) (i_token : Int32) (i_number : Int32) (i_word : Int32) (i_wrong : Int32) (i_farCrossing : Int32) (m_read : Nat) (i_z0 : Int32) (i_crossings : Int32) (i_inns : Int32) (m_posts : Nat) (m_shut : Nat) (m_here : Nat) (i_steps : Int32) (i_done : Int32) (i_at : Int32) (i_gone : Int32) (m_was : Nat) (m_came : Nat) (m_seenAt : Nat) (m_rowWorth : Nat) (m_farBy : Nat) (m_used : Nat) (i_everywhere : Int32) (i_again0 : Int32) (i_d0 : Int32) (i_never : Int32) (i_firstCame : Int32) (i_longRun : Int32) (i_moved : Int32) (i_crowd : Int32) (i_l0 : Int32) (i_fitMany : Int32) (i_fitLeast : Int32) (i_fitMost : Int32) (m_fitPost : Nat) (m_fitEnd : Nat) (m_keptPosts : Nat) (i_x0 : Int32) (f_all : Nat → Int32) : zMv l T yX12_ends cX12_ends 1 1 0 0 [.ref mo] [[zO11 mo m_all m_has i_size i_next i_where i_token i_number i_word i_wrong i_farCrossing m_read i_z0 i_crossings i_inns m_posts m_shut m_here i_steps i_done i_at i_gone m_was m_came m_seenAt m_rowWorth m_farBy m_used i_everywhere i_again0 i_d0 i_never i_firstCame i_longRun i_moved i_crowd i_l0 i_fitMany i_fitLeast i_fitMost m_fitPost m_fitEnd m_keptPosts i_x0], [zAr T 0 m_all 3952 f_all]] (fun bs => ∃ (j_wrong : Int32) (g_all : Nat → Int32), bs = [[zO11 mo m_all m_has i_size i_next i_where i_token i_number i_word j_wrong i_farCrossing m_read i_z0 i_crossings i_inns m_posts m_shut m_here i_steps i_done i_at i_gone m_was m_came m_seenAt m_rowWorth m_farBy m_used i_everywhere i_again0 i_d0 i_never i_firstCame i_longRun i_moved i_crowd i_l0 i_fitMany i_fitLeast i_fitMost m_fitPost m_fitEnd m_keptPosts i_x0], [zAr T 0 m_all 3952 g_all]] ∧ ¬ j_wrong.toInt = 0 ∧ zPal f_all g_all ∧ j_wrong = (if i_wrong.toInt = 0 then 1 else i_wrong) ∧ g_all = (if i_wrong.toInt = 0 then upd (upd f_all 5 1) 6 i_where else f_all)) := by
  refine zMv_of (own := RX12) (by decide) rfl (Nat.le_of_ble_eq_true rfl) ?_
  intro p e s m args below meth c A ls C hr hlocks hnm hAe G hl
  refine zHide (fun Q9 hQ9 => ?_)
  have hx := C.1
  have hb := C.2.1
  have hl : lv_has ls 1 [(0, .ref mo)] := hl
  refine lv_aload_n hx hb dX12_ends_0 rfl (lv_at hl 0 rfl) ?_
  refine z_get C G clX12 0 rfl 8 (by decide) m_fl_RX12_104 rfl dX12_ends_1 ?_
  refine lv_if_eq (tgt := 8) hx hb dX12_ends_4 (by decide) (fun c_1 => ?_) (fun c_1 => ?_)
  · have c_1n : i_wrong.toInt = (0 : Int) := (fa_eq _ _).mp c_1
    refine lv_aload_n hx hb dX12_ends_8 rfl (lv_at hl 0 rfl) ?_
    refine lv_iconst (v := 1) hx hb dX12_ends_9 (by decide) ?_
    refine z_put C G clX12 0 rfl 8 (by decide) m_fl_RX12_104 rfl rfl rfl (Nat.le_of_ble_eq_true rfl) dX12_ends_10 (fun H locs G => ?_)
    have G : zS T A s.heap s [[zO11 mo m_all m_has i_size i_next i_where i_token i_number i_word 1 i_farCrossing m_read i_z0 i_crossings i_inns m_posts m_shut m_here i_steps i_done i_at i_gone m_was m_came m_seenAt m_rowWorth m_farBy m_used i_everywhere i_again0 i_d0 i_never i_firstCame i_longRun i_moved i_crowd i_l0 i_fitMany i_fitLeast i_fitMost m_fitPost m_fitEnd m_keptPosts i_x0], [zAr T 0 m_all 3952 f_all]] _ _ := G
    refine lv_aload_n hx hb dX12_ends_13 rfl (lv_at hl 0 rfl) ?_
    refine z_get C G clX12 0 rfl 0 (by decide) m_fl_RX12_7 rfl dX12_ends_14 ?_
    refine lv_iconst (v := 5) hx hb dX12_ends_17 (by decide) ?_
    refine lv_iconst (v := 1) hx hb dX12_ends_18 (by decide) ?_
    refine z_ist C G 1 rfl (vp_in_nI (n := 5) (by decide) (by decide)) dX12_ends_19 (fun H locs G => ?_)
    have G : zS T A s.heap s [[zO11 mo m_all m_has i_size i_next i_where i_token i_number i_word 1 i_farCrossing m_read i_z0 i_crossings i_inns m_posts m_shut m_here i_steps i_done i_at i_gone m_was m_came m_seenAt m_rowWorth m_farBy m_used i_everywhere i_again0 i_d0 i_never i_firstCame i_longRun i_moved i_crowd i_l0 i_fitMany i_fitLeast i_fitMost m_fitPost m_fitEnd m_keptPosts i_x0], [zAr T 0 m_all 3952 (upd f_all 5 1)]] _ _ := G
    refine lv_aload_n hx hb dX12_ends_20 rfl (lv_at hl 0 rfl) ?_
    refine z_get C G clX12 0 rfl 0 (by decide) m_fl_RX12_7 rfl dX12_ends_21 ?_
    refine lv_bipush (v := 6) hx hb dX12_ends_24 (by decide) ?_
    refine lv_aload_n hx hb dX12_ends_26 rfl (lv_at hl 0 rfl) ?_
    refine z_get C G clX12 0 rfl 4 (by decide) m_fl_RX12_77 rfl dX12_ends_27 ?_
    refine z_ist C G 1 rfl (vp_in_nI (n := 6) (by decide) (by decide)) dX12_ends_30 (fun H locs G => ?_)
    have G : zS T A s.heap s [[zO11 mo m_all m_has i_size i_next i_where i_token i_number i_word 1 i_farCrossing m_read i_z0 i_crossings i_inns m_posts m_shut m_here i_steps i_done i_at i_gone m_was m_came m_seenAt m_rowWorth m_farBy m_used i_everywhere i_again0 i_d0 i_never i_firstCame i_longRun i_moved i_crowd i_l0 i_fitMany i_fitLeast i_fitMost m_fitPost m_fitEnd m_keptPosts i_x0], [zAr T 0 m_all 3952 (upd (upd f_all 5 1) 6 i_where)]] _ _ := G
    exact z_back hQ9 (z_vret C hr hlocks G (Nat.le_of_ble_eq_true rfl) (Nat.le_of_ble_eq_true rfl) dX12_ends_31 ⟨1, (upd (upd f_all 5 1) 6 i_where), rfl, (by decide), (zPal_u6 (zPal_u5 (zPal_rf _))), (by rw [if_pos (by omega)]), (by rw [if_pos (by omega)])⟩)
  · have c_1n : ¬ i_wrong.toInt = (0 : Int) := fun q => c_1 ((fa_eq _ _).mpr q)
    exact z_back hQ9 (z_vret C hr hlocks G (Nat.le_of_ble_eq_true rfl) (Nat.le_of_ble_eq_true rfl) dX12_ends_7 ⟨i_wrong, f_all, rfl, (by first | with_reducible assumption | omega | trivial | assumption), (zPal_rf _), (by rw [if_neg (by omega)]), (by rw [if_neg (by omega)])⟩)
set_option maxHeartbeats 4000000 in
set_option maxRecDepth 100000 in
/-- c_fm_also -/
theorem c_fm_also (l : Launch) (T : zTy) (mo : Nat) (m_all : Nat) (m_has : Nat) (i_size : Int32) (i_next : Int32) (i_where : Int32) (i_token : Int32) (i_number : Int32) (i_word : Int32) (i_wrong : Int32) (i_farCrossing : Int32) (m_read : Nat) (i_z0 : Int32) (i_crossings : Int32) (i_inns : Int32) (m_posts : Nat) (m_shut : Nat) (m_here : Nat) (i_steps : Int32) (i_done : Int32) (i_at : Int32) (i_gone : Int32) (m_was : Nat) (m_came : Nat) (m_seenAt : Nat) (m_rowWorth : Nat) (m_farBy : Nat) (m_used : Nat) (i_everywhere : Int32) (i_again0 : Int32) (i_d0 : Int32) (i_never : Int32) (i_firstCame : Int32) (i_longRun : Int32) (i_moved : Int32) (i_crowd : Int32) (i_l0 : Int32) (i_fitMany : Int32) (i_fitLeast : Int32) (i_fitMost : Int32) (m_fitPost : Nat) (m_fitEnd : Nat) (m_keptPosts : Nat) (i_x0 : Int32) (f_all : Nat → Int32) (kd : Int32) (at_ : Int32) : zMv l T yX12_also cX12_also 3 1 0 0 [.ref mo, .int kd, .int at_] [[zO11 mo m_all m_has i_size i_next i_where i_token i_number i_word i_wrong i_farCrossing m_read i_z0 i_crossings i_inns m_posts m_shut m_here i_steps i_done i_at i_gone m_was m_came m_seenAt m_rowWorth m_farBy m_used i_everywhere i_again0 i_d0 i_never i_firstCame i_longRun i_moved i_crowd i_l0 i_fitMany i_fitLeast i_fitMost m_fitPost m_fitEnd m_keptPosts i_x0], [zAr T 0 m_all 3952 f_all]] (fun bs => ∃ (g_all : Nat → Int32), bs = [[zO11 mo m_all m_has i_size i_next i_where i_token i_number i_word i_wrong i_farCrossing m_read i_z0 i_crossings i_inns m_posts m_shut m_here i_steps i_done i_at i_gone m_was m_came m_seenAt m_rowWorth m_farBy m_used i_everywhere i_again0 i_d0 i_never i_firstCame i_longRun i_moved i_crowd i_l0 i_fitMany i_fitLeast i_fitMost m_fitPost m_fitEnd m_keptPosts i_x0], [zAr T 0 m_all 3952 g_all]] ∧ zPal f_all g_all ∧ g_all = (if ¬ i_wrong.toInt = 0 ∨ (¬ (f_all 5).toInt = 0 ∧ ((f_all 6).toInt < at_.toInt ∨ ((f_all 6).toInt = at_.toInt ∧ (f_all 5).toInt ≤ kd.toInt))) then f_all else upd (upd f_all 5 kd) 6 at_)) := by
  refine zMv_of (own := RX12) (by decide) rfl (Nat.le_of_ble_eq_true rfl) ?_
  intro p e s m args below meth c A ls C hr hlocks hnm hAe G hl
  refine zHide (fun Q9 hQ9 => ?_)
  have hx := C.1
  have hb := C.2.1
  have hl : lv_has ls 3 [(0, .ref mo), (1, .int kd), (2, .int at_)] := hl
  refine lv_aload_n hx hb dX12_also_0 rfl (lv_at hl 0 rfl) ?_
  refine z_get C G clX12 0 rfl 8 (by decide) m_fl_RX12_104 rfl dX12_also_1 ?_
  refine lv_if_ne (tgt := 48) hx hb dX12_also_4 (by decide) (fun c_1 => ?_) (fun c_1 => ?_)
  · have c_1n : ¬ i_wrong.toInt = (0 : Int) := fun q => c_1 ((fa_eq _ _).mpr q)
    exact z_back hQ9 (z_vret C hr hlocks G (Nat.le_of_ble_eq_true rfl) (Nat.le_of_ble_eq_true rfl) dX12_also_48 ⟨f_all, rfl, (zPal_rf _), (by rw [if_pos (by omega)])⟩)
  · have c_1n : i_wrong.toInt = (0 : Int) := (fa_eq _ _).mp c_1
    refine lv_aload_n hx hb dX12_also_7 rfl (lv_at hl 0 rfl) ?_
    refine z_get C G clX12 0 rfl 0 (by decide) m_fl_RX12_7 rfl dX12_also_8 ?_
    refine lv_iconst (v := 5) hx hb dX12_also_11 (by decide) ?_
    refine z_ild C G 1 rfl (vp_in_nI (n := 5) (by decide) (by decide)) dX12_also_12 ?_
    refine lv_topi (fun v_2 ev_2 => ?_)
    rw [show ((5 : Int32).toNatClampNeg) = 5 from rfl] at ev_2
    subst ev_2
    refine lv_if_eq (tgt := 49) hx hb dX12_also_13 (by decide) (fun c_3 => ?_) (fun c_3 => ?_)
    · have c_3n : (f_all 5).toInt = (0 : Int) := (fa_eq _ _).mp c_3
      refine lv_aload_n hx hb dX12_also_49 rfl (lv_at hl 0 rfl) ?_
      refine z_get C G clX12 0 rfl 0 (by decide) m_fl_RX12_7 rfl dX12_also_50 ?_
      refine lv_iconst (v := 5) hx hb dX12_also_53 (by decide) ?_
      refine lv_iload_n hx hb dX12_also_54 rfl (lv_at hl 1 rfl) ?_
      refine z_ist C G 1 rfl (vp_in_nI (n := 5) (by decide) (by decide)) dX12_also_55 (fun H locs G => ?_)
      have G : zS T A s.heap s [[zO11 mo m_all m_has i_size i_next i_where i_token i_number i_word i_wrong i_farCrossing m_read i_z0 i_crossings i_inns m_posts m_shut m_here i_steps i_done i_at i_gone m_was m_came m_seenAt m_rowWorth m_farBy m_used i_everywhere i_again0 i_d0 i_never i_firstCame i_longRun i_moved i_crowd i_l0 i_fitMany i_fitLeast i_fitMost m_fitPost m_fitEnd m_keptPosts i_x0], [zAr T 0 m_all 3952 (upd f_all 5 kd)]] _ _ := G
      refine lv_aload_n hx hb dX12_also_56 rfl (lv_at hl 0 rfl) ?_
      refine z_get C G clX12 0 rfl 0 (by decide) m_fl_RX12_7 rfl dX12_also_57 ?_
      refine lv_bipush (v := 6) hx hb dX12_also_60 (by decide) ?_
      refine lv_iload_n hx hb dX12_also_62 rfl (lv_at hl 2 rfl) ?_
      refine z_ist C G 1 rfl (vp_in_nI (n := 6) (by decide) (by decide)) dX12_also_63 (fun H locs G => ?_)
      have G : zS T A s.heap s [[zO11 mo m_all m_has i_size i_next i_where i_token i_number i_word i_wrong i_farCrossing m_read i_z0 i_crossings i_inns m_posts m_shut m_here i_steps i_done i_at i_gone m_was m_came m_seenAt m_rowWorth m_farBy m_used i_everywhere i_again0 i_d0 i_never i_firstCame i_longRun i_moved i_crowd i_l0 i_fitMany i_fitLeast i_fitMost m_fitPost m_fitEnd m_keptPosts i_x0], [zAr T 0 m_all 3952 (upd (upd f_all 5 kd) 6 at_)]] _ _ := G
      exact z_back hQ9 (z_vret C hr hlocks G (Nat.le_of_ble_eq_true rfl) (Nat.le_of_ble_eq_true rfl) dX12_also_64 ⟨(upd (upd f_all 5 kd) 6 at_), rfl, (zPal_u6 (zPal_u5 (zPal_rf _))), (by rw [if_neg (by omega)])⟩)
    · have c_3n : ¬ (f_all 5).toInt = (0 : Int) := fun q => c_3 ((fa_eq _ _).mpr q)
      refine lv_aload_n hx hb dX12_also_16 rfl (lv_at hl 0 rfl) ?_
      refine z_get C G clX12 0 rfl 0 (by decide) m_fl_RX12_7 rfl dX12_also_17 ?_
      refine lv_bipush (v := 6) hx hb dX12_also_20 (by decide) ?_
      refine z_ild C G 1 rfl (vp_in_nI (n := 6) (by decide) (by decide)) dX12_also_22 ?_
      refine lv_topi (fun v_4 ev_4 => ?_)
      rw [show ((6 : Int32).toNatClampNeg) = 6 from rfl] at ev_4
      subst ev_4
      refine lv_iload_n hx hb dX12_also_23 rfl (lv_at hl 2 rfl) ?_
      refine lv_icmp_lt (tgt := 48) hx hb dX12_also_24 (by decide) (fun c_5 => ?_) (fun c_5 => ?_)
      · have c_5n : (f_all 6).toInt < at_.toInt := (fa_lt _ _).mp c_5
        exact z_back hQ9 (z_vret C hr hlocks G (Nat.le_of_ble_eq_true rfl) (Nat.le_of_ble_eq_true rfl) dX12_also_48 ⟨f_all, rfl, (zPal_rf _), (by rw [if_pos (by omega)])⟩)
      · have c_5n : ¬ (f_all 6).toInt < at_.toInt := fun q => c_5 ((fa_lt _ _).mpr q)
        refine lv_aload_n hx hb dX12_also_27 rfl (lv_at hl 0 rfl) ?_
        refine z_get C G clX12 0 rfl 0 (by decide) m_fl_RX12_7 rfl dX12_also_28 ?_
        refine lv_bipush (v := 6) hx hb dX12_also_31 (by decide) ?_
        refine z_ild C G 1 rfl (vp_in_nI (n := 6) (by decide) (by decide)) dX12_also_33 ?_
        refine lv_topi (fun v_6 ev_6 => ?_)
        rw [show ((6 : Int32).toNatClampNeg) = 6 from rfl] at ev_6
        subst ev_6
        refine lv_iload_n hx hb dX12_also_34 rfl (lv_at hl 2 rfl) ?_
        refine lv_icmp_ne (tgt := 49) hx hb dX12_also_35 (by decide) (fun c_7 => ?_) (fun c_7 => ?_)
        · have c_7n : ¬ (f_all 6).toInt = at_.toInt := fun q => c_7 ((fa_eq _ _).mpr q)
          refine lv_aload_n hx hb dX12_also_49 rfl (lv_at hl 0 rfl) ?_
          refine z_get C G clX12 0 rfl 0 (by decide) m_fl_RX12_7 rfl dX12_also_50 ?_
          refine lv_iconst (v := 5) hx hb dX12_also_53 (by decide) ?_
          refine lv_iload_n hx hb dX12_also_54 rfl (lv_at hl 1 rfl) ?_
          refine z_ist C G 1 rfl (vp_in_nI (n := 5) (by decide) (by decide)) dX12_also_55 (fun H locs G => ?_)
          have G : zS T A s.heap s [[zO11 mo m_all m_has i_size i_next i_where i_token i_number i_word i_wrong i_farCrossing m_read i_z0 i_crossings i_inns m_posts m_shut m_here i_steps i_done i_at i_gone m_was m_came m_seenAt m_rowWorth m_farBy m_used i_everywhere i_again0 i_d0 i_never i_firstCame i_longRun i_moved i_crowd i_l0 i_fitMany i_fitLeast i_fitMost m_fitPost m_fitEnd m_keptPosts i_x0], [zAr T 0 m_all 3952 (upd f_all 5 kd)]] _ _ := G
          refine lv_aload_n hx hb dX12_also_56 rfl (lv_at hl 0 rfl) ?_
          refine z_get C G clX12 0 rfl 0 (by decide) m_fl_RX12_7 rfl dX12_also_57 ?_
          refine lv_bipush (v := 6) hx hb dX12_also_60 (by decide) ?_
          refine lv_iload_n hx hb dX12_also_62 rfl (lv_at hl 2 rfl) ?_
          refine z_ist C G 1 rfl (vp_in_nI (n := 6) (by decide) (by decide)) dX12_also_63 (fun H locs G => ?_)
          have G : zS T A s.heap s [[zO11 mo m_all m_has i_size i_next i_where i_token i_number i_word i_wrong i_farCrossing m_read i_z0 i_crossings i_inns m_posts m_shut m_here i_steps i_done i_at i_gone m_was m_came m_seenAt m_rowWorth m_farBy m_used i_everywhere i_again0 i_d0 i_never i_firstCame i_longRun i_moved i_crowd i_l0 i_fitMany i_fitLeast i_fitMost m_fitPost m_fitEnd m_keptPosts i_x0], [zAr T 0 m_all 3952 (upd (upd f_all 5 kd) 6 at_)]] _ _ := G
          exact z_back hQ9 (z_vret C hr hlocks G (Nat.le_of_ble_eq_true rfl) (Nat.le_of_ble_eq_true rfl) dX12_also_64 ⟨(upd (upd f_all 5 kd) 6 at_), rfl, (zPal_u6 (zPal_u5 (zPal_rf _))), (by rw [if_neg (by omega)])⟩)
        · have c_7n : (f_all 6).toInt = at_.toInt := (fa_eq _ _).mp c_7
          refine lv_aload_n hx hb dX12_also_38 rfl (lv_at hl 0 rfl) ?_
          refine z_get C G clX12 0 rfl 0 (by decide) m_fl_RX12_7 rfl dX12_also_39 ?_
          refine lv_iconst (v := 5) hx hb dX12_also_42 (by decide) ?_
          refine z_ild C G 1 rfl (vp_in_nI (n := 5) (by decide) (by decide)) dX12_also_43 ?_
          refine lv_topi (fun v_8 ev_8 => ?_)
          rw [show ((5 : Int32).toNatClampNeg) = 5 from rfl] at ev_8
          subst ev_8
          refine lv_iload_n hx hb dX12_also_44 rfl (lv_at hl 1 rfl) ?_
          refine lv_icmp_gt (tgt := 49) hx hb dX12_also_45 (by decide) (fun c_9 => ?_) (fun c_9 => ?_)
          · have c_9n : kd.toInt < (f_all 5).toInt := (fa_lt _ _).mp c_9
            refine lv_aload_n hx hb dX12_also_49 rfl (lv_at hl 0 rfl) ?_
            refine z_get C G clX12 0 rfl 0 (by decide) m_fl_RX12_7 rfl dX12_also_50 ?_
            refine lv_iconst (v := 5) hx hb dX12_also_53 (by decide) ?_
            refine lv_iload_n hx hb dX12_also_54 rfl (lv_at hl 1 rfl) ?_
            refine z_ist C G 1 rfl (vp_in_nI (n := 5) (by decide) (by decide)) dX12_also_55 (fun H locs G => ?_)
            have G : zS T A s.heap s [[zO11 mo m_all m_has i_size i_next i_where i_token i_number i_word i_wrong i_farCrossing m_read i_z0 i_crossings i_inns m_posts m_shut m_here i_steps i_done i_at i_gone m_was m_came m_seenAt m_rowWorth m_farBy m_used i_everywhere i_again0 i_d0 i_never i_firstCame i_longRun i_moved i_crowd i_l0 i_fitMany i_fitLeast i_fitMost m_fitPost m_fitEnd m_keptPosts i_x0], [zAr T 0 m_all 3952 (upd f_all 5 kd)]] _ _ := G
            refine lv_aload_n hx hb dX12_also_56 rfl (lv_at hl 0 rfl) ?_
            refine z_get C G clX12 0 rfl 0 (by decide) m_fl_RX12_7 rfl dX12_also_57 ?_
            refine lv_bipush (v := 6) hx hb dX12_also_60 (by decide) ?_
            refine lv_iload_n hx hb dX12_also_62 rfl (lv_at hl 2 rfl) ?_
            refine z_ist C G 1 rfl (vp_in_nI (n := 6) (by decide) (by decide)) dX12_also_63 (fun H locs G => ?_)
            have G : zS T A s.heap s [[zO11 mo m_all m_has i_size i_next i_where i_token i_number i_word i_wrong i_farCrossing m_read i_z0 i_crossings i_inns m_posts m_shut m_here i_steps i_done i_at i_gone m_was m_came m_seenAt m_rowWorth m_farBy m_used i_everywhere i_again0 i_d0 i_never i_firstCame i_longRun i_moved i_crowd i_l0 i_fitMany i_fitLeast i_fitMost m_fitPost m_fitEnd m_keptPosts i_x0], [zAr T 0 m_all 3952 (upd (upd f_all 5 kd) 6 at_)]] _ _ := G
            exact z_back hQ9 (z_vret C hr hlocks G (Nat.le_of_ble_eq_true rfl) (Nat.le_of_ble_eq_true rfl) dX12_also_64 ⟨(upd (upd f_all 5 kd) 6 at_), rfl, (zPal_u6 (zPal_u5 (zPal_rf _))), (by rw [if_neg (by omega)])⟩)
          · have c_9n : ¬ kd.toInt < (f_all 5).toInt := fun q => c_9 ((fa_lt _ _).mpr q)
            exact z_back hQ9 (z_vret C hr hlocks G (Nat.le_of_ble_eq_true rfl) (Nat.le_of_ble_eq_true rfl) dX12_also_48 ⟨f_all, rfl, (zPal_rf _), (by rw [if_pos (by omega)])⟩)
set_option maxHeartbeats 4000000 in
set_option maxRecDepth 100000 in
/-- c_fm_numbered -/
theorem c_fm_numbered (l : Launch) (T : zTy) (mo : Nat) (m_all : Nat) (m_has : Nat) (i_size : Int32) (i_next : Int32) (i_where : Int32) (i_token : Int32) (i_number : Int32) (i_word : Int32) (i_wrong : Int32) (i_farCrossing : Int32) (m_read : Nat) (i_z0 : Int32) (i_crossings : Int32) (i_inns : Int32) (m_posts : Nat) (m_shut : Nat) (m_here : Nat) (i_steps : Int32) (i_done : Int32) (i_at : Int32) (i_gone : Int32) (m_was : Nat) (m_came : Nat) (m_seenAt : Nat) (m_rowWorth : Nat) (m_farBy : Nat) (m_used : Nat) (i_everywhere : Int32) (i_again0 : Int32) (i_d0 : Int32) (i_never : Int32) (i_firstCame : Int32) (i_longRun : Int32) (i_moved : Int32) (i_crowd : Int32) (i_l0 : Int32) (i_fitMany : Int32) (i_fitLeast : Int32) (i_fitMost : Int32) (m_fitPost : Nat) (m_fitEnd : Nat) (m_keptPosts : Nat) (i_x0 : Int32) (f_all : Nat → Int32) (k : pT) (n : Nat) (a : pS) (lo_ : Int32) (hi_ : Int32) (hsz : i_size.toInt ≤ 600) (hn0 : 0 ≤ i_next.toInt) (hns : i_next.toInt ≤ i_size.toInt) (hlh : lo_.toInt ≤ hi_.toInt) (hA : zRr k n i_size i_next i_where i_token i_number i_word i_wrong i_farCrossing f_all a) : zMi l T yX12_numbered cX12_numbered 4 (some .int) 5 0 0 [.ref mo, .int lo_, .int hi_] [[zO11 mo m_all m_has i_size i_next i_where i_token i_number i_word i_wrong i_farCrossing m_read i_z0 i_crossings i_inns m_posts m_shut m_here i_steps i_done i_at i_gone m_was m_came m_seenAt m_rowWorth m_farBy m_used i_everywhere i_again0 i_d0 i_never i_firstCame i_longRun i_moved i_crowd i_l0 i_fitMany i_fitLeast i_fitMost m_fitPost m_fitEnd m_keptPosts i_x0], [zAr T 0 m_all 3952 f_all]] (fun (r : Int32) bs => ∃ (j_next : Int32) (j_where : Int32) (j_token : Int32) (j_number : Int32) (j_word : Int32) (j_wrong : Int32) (g_all : Nat → Int32), bs = [[zO11 mo m_all m_has i_size j_next j_where j_token j_number j_word j_wrong i_farCrossing m_read i_z0 i_crossings i_inns m_posts m_shut m_here i_steps i_done i_at i_gone m_was m_came m_seenAt m_rowWorth m_farBy m_used i_everywhere i_again0 i_d0 i_never i_firstCame i_longRun i_moved i_crowd i_l0 i_fitMany i_fitLeast i_fitMost m_fitPost m_fitEnd m_keptPosts i_x0], [zAr T 0 m_all 3952 g_all]] ∧ 0 ≤ j_next.toInt ∧ j_next.toInt ≤ i_size.toInt ∧ i_next.toInt ≤ j_next.toInt ∧ (¬ j_wrong.toInt = 0 ∨ i_next.toInt < j_next.toInt ∨ j_token.toInt = 0) ∧ zPal f_all g_all ∧ lo_.toInt ≤ r.toInt ∧ r.toInt ≤ hi_.toInt ∧ zRr k n i_size j_next j_where j_token j_number j_word j_wrong i_farCrossing g_all (pNum k lo_ hi_ a).2 ∧ r = (pNum k lo_ hi_ a).1) := by
  refine zMi_of (own := RX12) (by decide) rfl (Nat.le_of_ble_eq_true rfl) ?_
  intro p e s m args below meth c A ls C hr hlocks hnm hAe G hl
  refine zHide (fun Q9 hQ9 => ?_)
  have hx := C.1
  have hb := C.2.1
  have hl : lv_has ls 4 [(0, .ref mo), (1, .int lo_), (2, .int hi_)] := hl
  have hok := zRr_ok hA
  refine zAn6 (id hA) ?_
  intro hA1 hA6 hA7 hA8 hA9 hA10
  replace hA7 : zHd _ := hA7
  have hka : zHd _ := hok a.1 hA1.2.2.2.2
  have hkb := hka.1
  have hkc := hka.2.1
  have hT4 := pTk_le hok hA1.2.2.2.2
  refine lv_aload_n hx hb dX12_numbered_0 rfl (lv_at hl 0 rfl) ?_
  refine z_get C G clX12 0 rfl 8 (by decide) m_fl_RX12_104 rfl dX12_numbered_1 ?_
  refine lv_if_ne (tgt := 15) hx hb dX12_numbered_4 (by decide) (fun c_1 => ?_) (fun c_1 => ?_)
  · have c_1n : ¬ i_wrong.toInt = (0 : Int) := fun q => c_1 ((fa_eq _ _).mpr q)
    refine lv_aload_n hx hb dX12_numbered_15 rfl (lv_at hl 0 rfl) ?_
    refine z_Vv (bc := [[zO11 mo m_all m_has i_size i_next i_where i_token i_number i_word i_wrong i_farCrossing m_read i_z0 i_crossings i_inns m_posts m_shut m_here i_steps i_done i_at i_gone m_was m_came m_seenAt m_rowWorth m_farBy m_used i_everywhere i_again0 i_d0 i_never i_firstCame i_longRun i_moved i_crowd i_l0 i_fitMany i_fitLeast i_fitMost m_fitPost m_fitEnd m_keptPosts i_x0], [zAr T 0 m_all 3952 f_all]]) (br := []) (As := []) (rest := []) C G (c_fm_ends l T mo m_all m_has i_size i_next i_where i_token i_number i_word i_wrong i_farCrossing m_read i_z0 i_crossings i_inns m_posts m_shut m_here i_steps i_done i_at i_gone m_was m_came m_seenAt m_rowWorth m_farBy m_used i_everywhere i_again0 i_d0 i_never i_firstCame i_longRun i_moved i_crowd i_l0 i_fitMany i_fitLeast i_fitMost m_fitPost m_fitEnd m_keptPosts i_x0 f_all) (kV_RX12_108 C.2.2.2.2 (Nat.le_of_ble_eq_true rfl) (Nat.le_of_ble_eq_true rfl)) [0, 1] [0, 0] rfl rfl (ci := 11) (qc := (RX12, TX12, 43)) rfl rfl (List.mem_flatten.mpr ⟨_, List.mem_of_getElem? (i := 0) rfl, List.mem_cons_self⟩) rfl rfl hl.1 dX12_numbered_16 (Nat.le_of_ble_eq_true rfl) (Nat.le_of_ble_eq_true rfl) (fun b1 H locs hw G => ?_)
    refine zEx2 hw ?_
    intro j_wrong_2 g_all_3
    refine zCu5 ?_
    intro hbs9 h_4 h_5 h_6 h_7
    clear hw
    subst hbs9
    have G : zS T A s.heap s [[zO11 mo m_all m_has i_size i_next i_where i_token i_number i_word j_wrong_2 i_farCrossing m_read i_z0 i_crossings i_inns m_posts m_shut m_here i_steps i_done i_at i_gone m_was m_came m_seenAt m_rowWorth m_farBy m_used i_everywhere i_again0 i_d0 i_never i_firstCame i_longRun i_moved i_crowd i_l0 i_fitMany i_fitLeast i_fitMost m_fitPost m_fitEnd m_keptPosts i_x0], [zAr T 0 m_all 3952 g_all_3]] _ _ := G
    refine lv_iload_n hx hb dX12_numbered_19 rfl (lv_at hl 1 rfl) ?_
    exact z_back hQ9 (z_iret C hr hlocks G (Nat.le_of_ble_eq_true rfl) (Nat.le_of_ble_eq_true rfl) dX12_numbered_20 ⟨i_next, i_where, i_token, i_number, i_word, j_wrong_2, g_all_3, rfl, (by first | with_reducible assumption | omega | trivial | assumption), (by first | with_reducible assumption | omega | trivial | assumption), (by first | with_reducible assumption | omega | trivial | assumption), (by first | with_reducible assumption | omega | trivial | assumption), h_5, (by first | with_reducible assumption | omega | trivial | assumption), (by first | with_reducible assumption | omega | trivial | assumption), (by rw [pNum_e (Or.inl (by rw [← hA6]; omega))]; exact zRr_ends hA h_6 h_7), (congrArg Prod.fst (pNum_e (Or.inl (by rw [← hA6]; omega)))).symm⟩)
  · have c_1n : i_wrong.toInt = (0 : Int) := (fa_eq _ _).mp c_1
    have hw : a.2.1.toInt = 0 := by rw [← hA6]; omega
    refine zAn5 (hA7 hw) ?_
    intro t1 t2 t3 t4 t5
    replace t4 : zHd _ := t4
    replace t5 : zHd _ := t5
    have t3i : i_token.toInt = (pTk k a.1 : Int) := by rw [t3]; exact nI_toInt (by omega)
    refine lv_aload_n hx hb dX12_numbered_7 rfl (lv_at hl 0 rfl) ?_
    refine z_get C G clX12 0 rfl 5 (by decide) m_fl_RX12_80 rfl dX12_numbered_8 ?_
    refine lv_iconst (v := 1) hx hb dX12_numbered_11 (by decide) ?_
    refine lv_icmp_eq (tgt := 21) hx hb dX12_numbered_12 (by decide) (fun c_9 => ?_) (fun c_9 => ?_)
    · have c_9n : i_token.toInt = (1 : Int) := (fa_eq _ _).mp c_9
      have htk : pTk k a.1 = 1 := by omega
      have hv := t4 htk
      refine lv_aload_n hx hb dX12_numbered_21 rfl (lv_at hl 0 rfl) ?_
      refine z_get C G clX12 0 rfl 6 (by decide) m_fl_RX12_101 rfl dX12_numbered_22 ?_
      refine lv_istore_n (lv' := [(3, .int i_number), (0, .ref mo), (1, .int lo_), (2, .int hi_)]) hx hb dX12_numbered_25 rfl hl (by decide) rfl (fun ls hl => ?_)
      refine lv_iload_n hx hb dX12_numbered_26 rfl (lv_at hl 0 rfl) ?_
      refine lv_iload_n hx hb dX12_numbered_27 rfl (lv_at hl 2 rfl) ?_
      refine lv_iload_n hx hb dX12_numbered_28 rfl (lv_at hl 3 rfl) ?_
      refine z_Si (bc := []) (br := [[zO11 mo m_all m_has i_size i_next i_where i_token i_number i_word i_wrong i_farCrossing m_read i_z0 i_crossings i_inns m_posts m_shut m_here i_steps i_done i_at i_gone m_was m_came m_seenAt m_rowWorth m_farBy m_used i_everywhere i_again0 i_d0 i_never i_firstCame i_longRun i_moved i_crowd i_l0 i_fitMany i_fitLeast i_fitMost m_fitPost m_fitEnd m_keptPosts i_x0], [zAr T 0 m_all 3952 f_all]]) (As := [.int i_number, .int lo_, .int hi_]) (rest := []) C G (c_m_isIn l T i_number lo_ hi_) (kS_RX12_111 C.2.2.2.2 (Nat.le_of_ble_eq_true rfl) (Nat.le_of_ble_eq_true rfl)) [] [] rfl rfl rfl rfl hl.1 dX12_numbered_29 (Nat.le_of_ble_eq_true rfl) (Nat.le_of_ble_eq_true rfl) (fun r_11 b1 H locs hw G => ?_)
      refine zAn2 hw ?_
      intro hbs9 hc_10
      clear hw
      subst hbs9
      have G : zS T A s.heap s [[zO11 mo m_all m_has i_size i_next i_where i_token i_number i_word i_wrong i_farCrossing m_read i_z0 i_crossings i_inns m_posts m_shut m_here i_steps i_done i_at i_gone m_was m_came m_seenAt m_rowWorth m_farBy m_used i_everywhere i_again0 i_d0 i_never i_firstCame i_longRun i_moved i_crowd i_l0 i_fitMany i_fitLeast i_fitMost m_fitPost m_fitEnd m_keptPosts i_x0], [zAr T 0 m_all 3952 f_all]] _ _ := G
      rcases hc_10 with ⟨rfl, h_12, h_13⟩ | ⟨rfl, h_14⟩
      · have h_12 : lo_.toInt ≤ i_number.toInt := h_12
        have h_13 : i_number.toInt ≤ hi_.toInt := h_13
        refine lv_if_ne (tgt := 44) hx hb dX12_numbered_32 (by decide) (fun _ => ?_) (fun q => absurd q (by decide))
        refine lv_aload_n hx hb dX12_numbered_44 rfl (lv_at hl 1 rfl) ?_
        refine z_Vv (bc := [[zO11 mo m_all m_has i_size i_next i_where i_token i_number i_word i_wrong i_farCrossing m_read i_z0 i_crossings i_inns m_posts m_shut m_here i_steps i_done i_at i_gone m_was m_came m_seenAt m_rowWorth m_farBy m_used i_everywhere i_again0 i_d0 i_never i_firstCame i_longRun i_moved i_crowd i_l0 i_fitMany i_fitLeast i_fitMost m_fitPost m_fitEnd m_keptPosts i_x0], [zAr T 0 m_all 3952 f_all]]) (br := []) (As := []) (rest := []) C G (c_fm_advance l T mo m_all m_has i_size i_next i_where i_token i_number i_word i_wrong i_farCrossing m_read i_z0 i_crossings i_inns m_posts m_shut m_here i_steps i_done i_at i_gone m_was m_came m_seenAt m_rowWorth m_farBy m_used i_everywhere i_again0 i_d0 i_never i_firstCame i_longRun i_moved i_crowd i_l0 i_fitMany i_fitLeast i_fitMost m_fitPost m_fitEnd m_keptPosts i_x0 f_all (pEn k a.1) n k hA1.2.2.2.1 t1 hka.1.2.2 hA1.2.2.1 hA1.1 hA1.2.1) (kV_RX12_119 C.2.2.2.2 (Nat.le_of_ble_eq_true rfl) (Nat.le_of_ble_eq_true rfl)) [0, 1] [0, 0] rfl rfl (ci := 11) (qc := (RX12, TX12, 43)) rfl rfl (List.mem_flatten.mpr ⟨_, List.mem_of_getElem? (i := 0) rfl, List.mem_cons_self⟩) rfl rfl hl.1 dX12_numbered_45 (Nat.le_of_ble_eq_true rfl) (Nat.le_of_ble_eq_true rfl) (fun b1 H locs hw G => ?_)
        refine zEx5 hw ?_
        intro j_next_15 j_where_16 j_token_17 j_number_18 j_word_19
        refine zCu8 ?_
        intro hbs9 h_20 h_21 h_22 h_23 h_24 h_25 h_26
        clear hw
        subst hbs9
        have G : zS T A s.heap s [[zO11 mo m_all m_has i_size j_next_15 j_where_16 j_token_17 j_number_18 j_word_19 i_wrong i_farCrossing m_read i_z0 i_crossings i_inns m_posts m_shut m_here i_steps i_done i_at i_gone m_was m_came m_seenAt m_rowWorth m_farBy m_used i_everywhere i_again0 i_d0 i_never i_firstCame i_longRun i_moved i_crowd i_l0 i_fitMany i_fitLeast i_fitMost m_fitPost m_fitEnd m_keptPosts i_x0], [zAr T 0 m_all 3952 f_all]] _ _ := G
        refine lv_iload_n hx hb dX12_numbered_48 rfl (lv_at hl 0 rfl) ?_
        refine lv_iload_n hx hb dX12_numbered_49 rfl (lv_at hl 2 rfl) ?_
        refine lv_iload_n hx hb dX12_numbered_50 rfl (lv_at hl 3 rfl) ?_
        refine z_Si (bc := []) (br := [[zO11 mo m_all m_has i_size j_next_15 j_where_16 j_token_17 j_number_18 j_word_19 i_wrong i_farCrossing m_read i_z0 i_crossings i_inns m_posts m_shut m_here i_steps i_done i_at i_gone m_was m_came m_seenAt m_rowWorth m_farBy m_used i_everywhere i_again0 i_d0 i_never i_firstCame i_longRun i_moved i_crowd i_l0 i_fitMany i_fitLeast i_fitMost m_fitPost m_fitEnd m_keptPosts i_x0], [zAr T 0 m_all 3952 f_all]]) (As := [.int i_number, .int lo_, .int hi_]) (rest := []) C G (c_m_isIn l T i_number lo_ hi_) (kS_RX12_111 C.2.2.2.2 (Nat.le_of_ble_eq_true rfl) (Nat.le_of_ble_eq_true rfl)) [] [] rfl rfl rfl rfl hl.1 dX12_numbered_51 (Nat.le_of_ble_eq_true rfl) (Nat.le_of_ble_eq_true rfl) (fun r_29 b1 H locs hw G => ?_)
        refine zAn2 hw ?_
        intro hbs9 hc_28
        clear hw
        subst hbs9
        have G : zS T A s.heap s [[zO11 mo m_all m_has i_size j_next_15 j_where_16 j_token_17 j_number_18 j_word_19 i_wrong i_farCrossing m_read i_z0 i_crossings i_inns m_posts m_shut m_here i_steps i_done i_at i_gone m_was m_came m_seenAt m_rowWorth m_farBy m_used i_everywhere i_again0 i_d0 i_never i_firstCame i_longRun i_moved i_crowd i_l0 i_fitMany i_fitLeast i_fitMost m_fitPost m_fitEnd m_keptPosts i_x0], [zAr T 0 m_all 3952 f_all]] _ _ := G
        rcases hc_28 with ⟨rfl, h_30, h_31⟩ | ⟨rfl, h_32⟩
        · have h_30 : lo_.toInt ≤ i_number.toInt := h_30
          have h_31 : i_number.toInt ≤ hi_.toInt := h_31
          refine lv_if_eq (tgt := 61) hx hb dX12_numbered_54 (by decide) (fun q => absurd q (by decide)) (fun _ => ?_)
          refine lv_iload_n hx hb dX12_numbered_57 rfl (lv_at hl 0 rfl) ?_
          refine lv_goto (tgt := 62) hx hb dX12_numbered_58 (by decide) ?_
          exact z_back hQ9 (z_iret C hr hlocks G (Nat.le_of_ble_eq_true rfl) (Nat.le_of_ble_eq_true rfl) dX12_numbered_62 ⟨j_next_15, j_where_16, j_token_17, j_number_18, j_word_19, i_wrong, f_all, rfl, (by first | with_reducible assumption | omega | trivial | assumption), (by first | with_reducible assumption | omega | trivial | assumption), (by first | with_reducible assumption | omega | trivial | assumption), (by first | with_reducible assumption | omega | trivial | assumption), (zPal_rf _), (by first | with_reducible assumption | omega | trivial | assumption), (by first | with_reducible assumption | omega | trivial | assumption), (by rw [pNum_i hw htk (by rw [← hv]; exact ⟨by omega, by omega⟩)]; exact zRr_adv hA h_26), (by first | (exfalso; omega) | exact (show i_number = _ from hv).trans (congrArg Prod.fst (pNum_i hw htk (by rw [← hv]; exact ⟨by omega, by omega⟩))).symm)⟩)
        · have h_32 : (i_number.toInt < lo_.toInt ∨ hi_.toInt < i_number.toInt) := h_32
          refine lv_if_eq (tgt := 61) hx hb dX12_numbered_54 (by decide) (fun _ => ?_) (fun q => absurd (by decide) q)
          refine lv_iload_n hx hb dX12_numbered_61 rfl (lv_at hl 2 rfl) ?_
          exact z_back hQ9 (z_iret C hr hlocks G (Nat.le_of_ble_eq_true rfl) (Nat.le_of_ble_eq_true rfl) dX12_numbered_62 ⟨j_next_15, j_where_16, j_token_17, j_number_18, j_word_19, i_wrong, f_all, rfl, (by first | with_reducible assumption | omega | trivial | assumption), (by first | with_reducible assumption | omega | trivial | assumption), (by first | with_reducible assumption | omega | trivial | assumption), (by first | with_reducible assumption | omega | trivial | assumption), (zPal_rf _), (by first | with_reducible assumption | omega | trivial | assumption), (by first | with_reducible assumption | omega | trivial | assumption), (by rw [pNum_i hw htk (by rw [← hv]; exact ⟨by omega, by omega⟩)]; exact zRr_adv hA h_26), (by first | (exfalso; omega) | exact (show i_number = _ from hv).trans (congrArg Prod.fst (pNum_i hw htk (by rw [← hv]; exact ⟨by omega, by omega⟩))).symm)⟩)
      · have h_14 : (i_number.toInt < lo_.toInt ∨ hi_.toInt < i_number.toInt) := h_14
        refine lv_if_ne (tgt := 44) hx hb dX12_numbered_32 (by decide) (fun q => absurd (by decide) q) (fun _ => ?_)
        refine lv_aload_n hx hb dX12_numbered_35 rfl (lv_at hl 1 rfl) ?_
        refine lv_iconst (v := 2) hx hb dX12_numbered_36 (by decide) ?_
        refine lv_aload_n hx hb dX12_numbered_37 rfl (lv_at hl 1 rfl) ?_
        refine z_get C G clX12 0 rfl 4 (by decide) m_fl_RX12_77 rfl dX12_numbered_38 ?_
        refine z_Vv (bc := [[zO11 mo m_all m_has i_size i_next i_where i_token i_number i_word i_wrong i_farCrossing m_read i_z0 i_crossings i_inns m_posts m_shut m_here i_steps i_done i_at i_gone m_was m_came m_seenAt m_rowWorth m_farBy m_used i_everywhere i_again0 i_d0 i_never i_firstCame i_longRun i_moved i_crowd i_l0 i_fitMany i_fitLeast i_fitMost m_fitPost m_fitEnd m_keptPosts i_x0], [zAr T 0 m_all 3952 f_all]]) (br := []) (As := [.int 2, .int i_where]) (rest := []) C G (c_fm_also l T mo m_all m_has i_size i_next i_where i_token i_number i_word i_wrong i_farCrossing m_read i_z0 i_crossings i_inns m_posts m_shut m_here i_steps i_done i_at i_gone m_was m_came m_seenAt m_rowWorth m_farBy m_used i_everywhere i_again0 i_d0 i_never i_firstCame i_longRun i_moved i_crowd i_l0 i_fitMany i_fitLeast i_fitMost m_fitPost m_fitEnd m_keptPosts i_x0 f_all 2 i_where) (kV_RX12_115 C.2.2.2.2 (Nat.le_of_ble_eq_true rfl) (Nat.le_of_ble_eq_true rfl)) [0, 1] [0, 0] rfl rfl (ci := 11) (qc := (RX12, TX12, 43)) rfl rfl (List.mem_flatten.mpr ⟨_, List.mem_of_getElem? (i := 0) rfl, List.mem_cons_self⟩) rfl rfl hl.1 dX12_numbered_41 (Nat.le_of_ble_eq_true rfl) (Nat.le_of_ble_eq_true rfl) (fun b1 H locs hw G => ?_)
        refine zEx1 hw ?_
        intro g_all_33
        refine zCu3 ?_
        intro hbs9 h_34 h_35
        clear hw
        subst hbs9
        have G : zS T A s.heap s [[zO11 mo m_all m_has i_size i_next i_where i_token i_number i_word i_wrong i_farCrossing m_read i_z0 i_crossings i_inns m_posts m_shut m_here i_steps i_done i_at i_gone m_was m_came m_seenAt m_rowWorth m_farBy m_used i_everywhere i_again0 i_d0 i_never i_firstCame i_longRun i_moved i_crowd i_l0 i_fitMany i_fitLeast i_fitMost m_fitPost m_fitEnd m_keptPosts i_x0], [zAr T 0 m_all 3952 g_all_33]] _ _ := G
        have h_35 : g_all_33 = (if ¬ i_wrong.toInt = 0 ∨ (¬ (f_all 5).toInt = 0 ∧ ((f_all 6).toInt < i_where.toInt ∨ ((f_all 6).toInt = i_where.toInt ∧ (f_all 5).toInt ≤ (2 : Int)))) then f_all else upd (upd f_all 5 2) 6 i_where) := h_35
        have hA2 := zRr_also (kd := 2) (w := i_where) hA h_35
        obtain ⟨hB1, -, -, -, -, -⟩ := id hA2
        refine lv_aload_n hx hb dX12_numbered_44 rfl (lv_at hl 1 rfl) ?_
        refine z_Vv (bc := [[zO11 mo m_all m_has i_size i_next i_where i_token i_number i_word i_wrong i_farCrossing m_read i_z0 i_crossings i_inns m_posts m_shut m_here i_steps i_done i_at i_gone m_was m_came m_seenAt m_rowWorth m_farBy m_used i_everywhere i_again0 i_d0 i_never i_firstCame i_longRun i_moved i_crowd i_l0 i_fitMany i_fitLeast i_fitMost m_fitPost m_fitEnd m_keptPosts i_x0], [zAr T 0 m_all 3952 g_all_33]]) (br := []) (As := []) (rest := []) C G (c_fm_advance l T mo m_all m_has i_size i_next i_where i_token i_number i_word i_wrong i_farCrossing m_read i_z0 i_crossings i_inns m_posts m_shut m_here i_steps i_done i_at i_gone m_was m_came m_seenAt m_rowWorth m_farBy m_used i_everywhere i_again0 i_d0 i_never i_firstCame i_longRun i_moved i_crowd i_l0 i_fitMany i_fitLeast i_fitMost m_fitPost m_fitEnd m_keptPosts i_x0 g_all_33 (pEn k a.1) n k hA1.2.2.2.1 t1 hka.1.2.2 hA1.2.2.1 hB1.1 hB1.2.1) (kV_RX12_119 C.2.2.2.2 (Nat.le_of_ble_eq_true rfl) (Nat.le_of_ble_eq_true rfl)) [0, 1] [0, 0] rfl rfl (ci := 11) (qc := (RX12, TX12, 43)) rfl rfl (List.mem_flatten.mpr ⟨_, List.mem_of_getElem? (i := 0) rfl, List.mem_cons_self⟩) rfl rfl hl.1 dX12_numbered_45 (Nat.le_of_ble_eq_true rfl) (Nat.le_of_ble_eq_true rfl) (fun b1 H locs hw G => ?_)
        refine zEx5 hw ?_
        intro j_next_37 j_where_38 j_token_39 j_number_40 j_word_41
        refine zCu8 ?_
        intro hbs9 h_42 h_43 h_44 h_45 h_46 h_47 h_48
        clear hw
        subst hbs9
        have G : zS T A s.heap s [[zO11 mo m_all m_has i_size j_next_37 j_where_38 j_token_39 j_number_40 j_word_41 i_wrong i_farCrossing m_read i_z0 i_crossings i_inns m_posts m_shut m_here i_steps i_done i_at i_gone m_was m_came m_seenAt m_rowWorth m_farBy m_used i_everywhere i_again0 i_d0 i_never i_firstCame i_longRun i_moved i_crowd i_l0 i_fitMany i_fitLeast i_fitMost m_fitPost m_fitEnd m_keptPosts i_x0], [zAr T 0 m_all 3952 g_all_33]] _ _ := G
        refine lv_iload_n hx hb dX12_numbered_48 rfl (lv_at hl 0 rfl) ?_
        refine lv_iload_n hx hb dX12_numbered_49 rfl (lv_at hl 2 rfl) ?_
        refine lv_iload_n hx hb dX12_numbered_50 rfl (lv_at hl 3 rfl) ?_
        refine z_Si (bc := []) (br := [[zO11 mo m_all m_has i_size j_next_37 j_where_38 j_token_39 j_number_40 j_word_41 i_wrong i_farCrossing m_read i_z0 i_crossings i_inns m_posts m_shut m_here i_steps i_done i_at i_gone m_was m_came m_seenAt m_rowWorth m_farBy m_used i_everywhere i_again0 i_d0 i_never i_firstCame i_longRun i_moved i_crowd i_l0 i_fitMany i_fitLeast i_fitMost m_fitPost m_fitEnd m_keptPosts i_x0], [zAr T 0 m_all 3952 g_all_33]]) (As := [.int i_number, .int lo_, .int hi_]) (rest := []) C G (c_m_isIn l T i_number lo_ hi_) (kS_RX12_111 C.2.2.2.2 (Nat.le_of_ble_eq_true rfl) (Nat.le_of_ble_eq_true rfl)) [] [] rfl rfl rfl rfl hl.1 dX12_numbered_51 (Nat.le_of_ble_eq_true rfl) (Nat.le_of_ble_eq_true rfl) (fun r_51 b1 H locs hw G => ?_)
        refine zAn2 hw ?_
        intro hbs9 hc_50
        clear hw
        subst hbs9
        have G : zS T A s.heap s [[zO11 mo m_all m_has i_size j_next_37 j_where_38 j_token_39 j_number_40 j_word_41 i_wrong i_farCrossing m_read i_z0 i_crossings i_inns m_posts m_shut m_here i_steps i_done i_at i_gone m_was m_came m_seenAt m_rowWorth m_farBy m_used i_everywhere i_again0 i_d0 i_never i_firstCame i_longRun i_moved i_crowd i_l0 i_fitMany i_fitLeast i_fitMost m_fitPost m_fitEnd m_keptPosts i_x0], [zAr T 0 m_all 3952 g_all_33]] _ _ := G
        rcases hc_50 with ⟨rfl, h_52, h_53⟩ | ⟨rfl, h_54⟩
        · have h_52 : lo_.toInt ≤ i_number.toInt := h_52
          have h_53 : i_number.toInt ≤ hi_.toInt := h_53
          refine lv_if_eq (tgt := 61) hx hb dX12_numbered_54 (by decide) (fun q => absurd q (by decide)) (fun _ => ?_)
          refine lv_iload_n hx hb dX12_numbered_57 rfl (lv_at hl 0 rfl) ?_
          refine lv_goto (tgt := 62) hx hb dX12_numbered_58 (by decide) ?_
          exact z_back hQ9 (z_iret C hr hlocks G (Nat.le_of_ble_eq_true rfl) (Nat.le_of_ble_eq_true rfl) dX12_numbered_62 ⟨j_next_37, j_where_38, j_token_39, j_number_40, j_word_41, i_wrong, g_all_33, rfl, (by first | with_reducible assumption | omega | trivial | assumption), (by first | with_reducible assumption | omega | trivial | assumption), (by first | with_reducible assumption | omega | trivial | assumption), (by first | with_reducible assumption | omega | trivial | assumption), h_34, (by first | with_reducible assumption | omega | trivial | assumption), (by first | with_reducible assumption | omega | trivial | assumption), (by rw [pNum_o hw htk (by rw [← hv]; exact fun q9 => by omega), ← t2]; exact zRr_adv hA2 (by rw [pAlso_fa.1]; exact h_48)), (by first | (exfalso; omega) | exact (congrArg Prod.fst (pNum_o hw htk (by rw [← hv]; exact fun q9 => by omega))).symm)⟩)
        · have h_54 : (i_number.toInt < lo_.toInt ∨ hi_.toInt < i_number.toInt) := h_54
          refine lv_if_eq (tgt := 61) hx hb dX12_numbered_54 (by decide) (fun _ => ?_) (fun q => absurd (by decide) q)
          refine lv_iload_n hx hb dX12_numbered_61 rfl (lv_at hl 2 rfl) ?_
          exact z_back hQ9 (z_iret C hr hlocks G (Nat.le_of_ble_eq_true rfl) (Nat.le_of_ble_eq_true rfl) dX12_numbered_62 ⟨j_next_37, j_where_38, j_token_39, j_number_40, j_word_41, i_wrong, g_all_33, rfl, (by first | with_reducible assumption | omega | trivial | assumption), (by first | with_reducible assumption | omega | trivial | assumption), (by first | with_reducible assumption | omega | trivial | assumption), (by first | with_reducible assumption | omega | trivial | assumption), h_34, (by first | with_reducible assumption | omega | trivial | assumption), (by first | with_reducible assumption | omega | trivial | assumption), (by rw [pNum_o hw htk (by rw [← hv]; exact fun q9 => by omega), ← t2]; exact zRr_adv hA2 (by rw [pAlso_fa.1]; exact h_48)), (by first | (exfalso; omega) | exact (congrArg Prod.fst (pNum_o hw htk (by rw [← hv]; exact fun q9 => by omega))).symm)⟩)
    · have c_9n : ¬ i_token.toInt = (1 : Int) := fun q => c_9 ((fa_eq _ _).mpr q)
      refine lv_aload_n hx hb dX12_numbered_15 rfl (lv_at hl 0 rfl) ?_
      refine z_Vv (bc := [[zO11 mo m_all m_has i_size i_next i_where i_token i_number i_word i_wrong i_farCrossing m_read i_z0 i_crossings i_inns m_posts m_shut m_here i_steps i_done i_at i_gone m_was m_came m_seenAt m_rowWorth m_farBy m_used i_everywhere i_again0 i_d0 i_never i_firstCame i_longRun i_moved i_crowd i_l0 i_fitMany i_fitLeast i_fitMost m_fitPost m_fitEnd m_keptPosts i_x0], [zAr T 0 m_all 3952 f_all]]) (br := []) (As := []) (rest := []) C G (c_fm_ends l T mo m_all m_has i_size i_next i_where i_token i_number i_word i_wrong i_farCrossing m_read i_z0 i_crossings i_inns m_posts m_shut m_here i_steps i_done i_at i_gone m_was m_came m_seenAt m_rowWorth m_farBy m_used i_everywhere i_again0 i_d0 i_never i_firstCame i_longRun i_moved i_crowd i_l0 i_fitMany i_fitLeast i_fitMost m_fitPost m_fitEnd m_keptPosts i_x0 f_all) (kV_RX12_108 C.2.2.2.2 (Nat.le_of_ble_eq_true rfl) (Nat.le_of_ble_eq_true rfl)) [0, 1] [0, 0] rfl rfl (ci := 11) (qc := (RX12, TX12, 43)) rfl rfl (List.mem_flatten.mpr ⟨_, List.mem_of_getElem? (i := 0) rfl, List.mem_cons_self⟩) rfl rfl hl.1 dX12_numbered_16 (Nat.le_of_ble_eq_true rfl) (Nat.le_of_ble_eq_true rfl) (fun b1 H locs hw G => ?_)
      refine zEx2 hw ?_
      intro j_wrong_55 g_all_56
      refine zCu5 ?_
      intro hbs9 h_57 h_58 h_59 h_60
      clear hw
      subst hbs9
      have G : zS T A s.heap s [[zO11 mo m_all m_has i_size i_next i_where i_token i_number i_word j_wrong_55 i_farCrossing m_read i_z0 i_crossings i_inns m_posts m_shut m_here i_steps i_done i_at i_gone m_was m_came m_seenAt m_rowWorth m_farBy m_used i_everywhere i_again0 i_d0 i_never i_firstCame i_longRun i_moved i_crowd i_l0 i_fitMany i_fitLeast i_fitMost m_fitPost m_fitEnd m_keptPosts i_x0], [zAr T 0 m_all 3952 g_all_56]] _ _ := G
      refine lv_iload_n hx hb dX12_numbered_19 rfl (lv_at hl 1 rfl) ?_
      exact z_back hQ9 (z_iret C hr hlocks G (Nat.le_of_ble_eq_true rfl) (Nat.le_of_ble_eq_true rfl) dX12_numbered_20 ⟨i_next, i_where, i_token, i_number, i_word, j_wrong_55, g_all_56, rfl, (by first | with_reducible assumption | omega | trivial | assumption), (by first | with_reducible assumption | omega | trivial | assumption), (by first | with_reducible assumption | omega | trivial | assumption), (by first | with_reducible assumption | omega | trivial | assumption), h_58, (by first | with_reducible assumption | omega | trivial | assumption), (by first | with_reducible assumption | omega | trivial | assumption), (by rw [pNum_e (Or.inr (by omega))]; exact zRr_ends hA h_59 h_60), (congrArg Prod.fst (pNum_e (Or.inr (by omega)))).symm⟩)
set_option maxHeartbeats 4000000 in
set_option maxRecDepth 100000 in
/-- c_fm_wordIn -/
theorem c_fm_wordIn (l : Launch) (T : zTy) (mo : Nat) (m_all : Nat) (m_has : Nat) (i_size : Int32) (i_next : Int32) (i_where : Int32) (i_token : Int32) (i_number : Int32) (i_word : Int32) (i_wrong : Int32) (i_farCrossing : Int32) (m_read : Nat) (i_z0 : Int32) (i_crossings : Int32) (i_inns : Int32) (m_posts : Nat) (m_shut : Nat) (m_here : Nat) (i_steps : Int32) (i_done : Int32) (i_at : Int32) (i_gone : Int32) (m_was : Nat) (m_came : Nat) (m_seenAt : Nat) (m_rowWorth : Nat) (m_farBy : Nat) (m_used : Nat) (i_everywhere : Int32) (i_again0 : Int32) (i_d0 : Int32) (i_never : Int32) (i_firstCame : Int32) (i_longRun : Int32) (i_moved : Int32) (i_crowd : Int32) (i_l0 : Int32) (i_fitMany : Int32) (i_fitLeast : Int32) (i_fitMost : Int32) (m_fitPost : Nat) (m_fitEnd : Nat) (m_keptPosts : Nat) (i_x0 : Int32) (f_all : Nat → Int32) (k : pT) (n : Nat) (a : pS) (lo9 : Nat) (hi9 : Nat) (fi_ : Int32) (la_ : Int32) (hsz : i_size.toInt ≤ 600) (hn0 : 0 ≤ i_next.toInt) (hns : i_next.toInt ≤ i_size.toInt) (hA : zRr k n i_size i_next i_where i_token i_number i_word i_wrong i_farCrossing f_all a) (hlo : fi_.toInt = (lo9 : Int)) (hhi : la_.toInt = (hi9 : Int)) : zMi l T yX12_wordIn cX12_wordIn 4 (some .int) 5 0 0 [.ref mo, .int fi_, .int la_] [[zO11 mo m_all m_has i_size i_next i_where i_token i_number i_word i_wrong i_farCrossing m_read i_z0 i_crossings i_inns m_posts m_shut m_here i_steps i_done i_at i_gone m_was m_came m_seenAt m_rowWorth m_farBy m_used i_everywhere i_again0 i_d0 i_never i_firstCame i_longRun i_moved i_crowd i_l0 i_fitMany i_fitLeast i_fitMost m_fitPost m_fitEnd m_keptPosts i_x0], [zAr T 0 m_all 3952 f_all]] (fun (r : Int32) bs => ∃ (j_next : Int32) (j_where : Int32) (j_token : Int32) (j_number : Int32) (j_word : Int32) (j_wrong : Int32) (g_all : Nat → Int32), bs = [[zO11 mo m_all m_has i_size j_next j_where j_token j_number j_word j_wrong i_farCrossing m_read i_z0 i_crossings i_inns m_posts m_shut m_here i_steps i_done i_at i_gone m_was m_came m_seenAt m_rowWorth m_farBy m_used i_everywhere i_again0 i_d0 i_never i_firstCame i_longRun i_moved i_crowd i_l0 i_fitMany i_fitLeast i_fitMost m_fitPost m_fitEnd m_keptPosts i_x0], [zAr T 0 m_all 3952 g_all]] ∧ 0 ≤ j_next.toInt ∧ j_next.toInt ≤ i_size.toInt ∧ i_next.toInt ≤ j_next.toInt ∧ (¬ j_wrong.toInt = 0 ∨ i_next.toInt < j_next.toInt ∨ j_token.toInt = 0) ∧ zPal f_all g_all ∧ (r.toInt = 0 ∨ fi_.toInt ≤ r.toInt ∧ r.toInt ≤ la_.toInt) ∧ zRr k n i_size j_next j_where j_token j_number j_word j_wrong i_farCrossing g_all (pWord k lo9 hi9 a).2 ∧ r = nI (pWord k lo9 hi9 a).1) := by
  refine zMi_of (own := RX12) (by decide) rfl (Nat.le_of_ble_eq_true rfl) ?_
  intro p e s m args below meth c A ls C hr hlocks hnm hAe G hl
  refine zHide (fun Q9 hQ9 => ?_)
  have hx := C.1
  have hb := C.2.1
  have hl : lv_has ls 4 [(0, .ref mo), (1, .int fi_), (2, .int la_)] := hl
  have hok := zRr_ok hA
  refine zAn6 (id hA) ?_
  intro hA1 hA6 hA7 hA8 hA9 hA10
  replace hA7 : zHd _ := hA7
  have hka : zHd _ := hok a.1 hA1.2.2.2.2
  have hkb := hka.1
  have hkc := hka.2.1
  have hT4 := pTk_le hok hA1.2.2.2.2
  refine lv_aload_n hx hb dX12_wordIn_0 rfl (lv_at hl 0 rfl) ?_
  refine z_get C G clX12 0 rfl 8 (by decide) m_fl_RX12_104 rfl dX12_wordIn_1 ?_
  refine lv_if_ne (tgt := 27) hx hb dX12_wordIn_4 (by decide) (fun c_1 => ?_) (fun c_1 => ?_)
  · have c_1n : ¬ i_wrong.toInt = (0 : Int) := fun q => c_1 ((fa_eq _ _).mpr q)
    refine lv_aload_n hx hb dX12_wordIn_27 rfl (lv_at hl 0 rfl) ?_
    refine z_Vv (bc := [[zO11 mo m_all m_has i_size i_next i_where i_token i_number i_word i_wrong i_farCrossing m_read i_z0 i_crossings i_inns m_posts m_shut m_here i_steps i_done i_at i_gone m_was m_came m_seenAt m_rowWorth m_farBy m_used i_everywhere i_again0 i_d0 i_never i_firstCame i_longRun i_moved i_crowd i_l0 i_fitMany i_fitLeast i_fitMost m_fitPost m_fitEnd m_keptPosts i_x0], [zAr T 0 m_all 3952 f_all]]) (br := []) (As := []) (rest := []) C G (c_fm_ends l T mo m_all m_has i_size i_next i_where i_token i_number i_word i_wrong i_farCrossing m_read i_z0 i_crossings i_inns m_posts m_shut m_here i_steps i_done i_at i_gone m_was m_came m_seenAt m_rowWorth m_farBy m_used i_everywhere i_again0 i_d0 i_never i_firstCame i_longRun i_moved i_crowd i_l0 i_fitMany i_fitLeast i_fitMost m_fitPost m_fitEnd m_keptPosts i_x0 f_all) (kV_RX12_108 C.2.2.2.2 (Nat.le_of_ble_eq_true rfl) (Nat.le_of_ble_eq_true rfl)) [0, 1] [0, 0] rfl rfl (ci := 11) (qc := (RX12, TX12, 43)) rfl rfl (List.mem_flatten.mpr ⟨_, List.mem_of_getElem? (i := 0) rfl, List.mem_cons_self⟩) rfl rfl hl.1 dX12_wordIn_28 (Nat.le_of_ble_eq_true rfl) (Nat.le_of_ble_eq_true rfl) (fun b1 H locs hw G => ?_)
    refine zEx2 hw ?_
    intro j_wrong_2 g_all_3
    refine zCu5 ?_
    intro hbs9 h_4 h_5 h_6 h_7
    clear hw
    subst hbs9
    have G : zS T A s.heap s [[zO11 mo m_all m_has i_size i_next i_where i_token i_number i_word j_wrong_2 i_farCrossing m_read i_z0 i_crossings i_inns m_posts m_shut m_here i_steps i_done i_at i_gone m_was m_came m_seenAt m_rowWorth m_farBy m_used i_everywhere i_again0 i_d0 i_never i_firstCame i_longRun i_moved i_crowd i_l0 i_fitMany i_fitLeast i_fitMost m_fitPost m_fitEnd m_keptPosts i_x0], [zAr T 0 m_all 3952 g_all_3]] _ _ := G
    refine lv_iconst (v := 0) hx hb dX12_wordIn_31 (by decide) ?_
    exact z_back hQ9 (z_iret C hr hlocks G (Nat.le_of_ble_eq_true rfl) (Nat.le_of_ble_eq_true rfl) dX12_wordIn_32 ⟨i_next, i_where, i_token, i_number, i_word, j_wrong_2, g_all_3, rfl, (by first | with_reducible assumption | omega | trivial | assumption), (by first | with_reducible assumption | omega | trivial | assumption), (by first | with_reducible assumption | omega | trivial | assumption), (by first | with_reducible assumption | omega | trivial | assumption), h_5, (Or.inl (by decide)), (by rw [pWord_e (Or.inl (by rw [← hA6]; omega))]; exact zRr_ends hA h_6 h_7), (by rw [pWord_e (Or.inl (by rw [← hA6]; omega))]; rfl)⟩)
  · have c_1n : i_wrong.toInt = (0 : Int) := (fa_eq _ _).mp c_1
    have hw : a.2.1.toInt = 0 := by rw [← hA6]; omega
    refine zAn5 (hA7 hw) ?_
    intro t1 t2 t3 t4 t5
    replace t4 : zHd _ := t4
    replace t5 : zHd _ := t5
    have t3i : i_token.toInt = (pTk k a.1 : Int) := by rw [t3]; exact nI_toInt (by omega)
    refine lv_aload_n hx hb dX12_wordIn_7 rfl (lv_at hl 0 rfl) ?_
    refine z_get C G clX12 0 rfl 5 (by decide) m_fl_RX12_80 rfl dX12_wordIn_8 ?_
    refine lv_iconst (v := 3) hx hb dX12_wordIn_11 (by decide) ?_
    refine lv_icmp_ne (tgt := 27) hx hb dX12_wordIn_12 (by decide) (fun c_9 => ?_) (fun c_9 => ?_)
    · have c_9n : ¬ i_token.toInt = (3 : Int) := fun q => c_9 ((fa_eq _ _).mpr q)
      refine lv_aload_n hx hb dX12_wordIn_27 rfl (lv_at hl 0 rfl) ?_
      refine z_Vv (bc := [[zO11 mo m_all m_has i_size i_next i_where i_token i_number i_word i_wrong i_farCrossing m_read i_z0 i_crossings i_inns m_posts m_shut m_here i_steps i_done i_at i_gone m_was m_came m_seenAt m_rowWorth m_farBy m_used i_everywhere i_again0 i_d0 i_never i_firstCame i_longRun i_moved i_crowd i_l0 i_fitMany i_fitLeast i_fitMost m_fitPost m_fitEnd m_keptPosts i_x0], [zAr T 0 m_all 3952 f_all]]) (br := []) (As := []) (rest := []) C G (c_fm_ends l T mo m_all m_has i_size i_next i_where i_token i_number i_word i_wrong i_farCrossing m_read i_z0 i_crossings i_inns m_posts m_shut m_here i_steps i_done i_at i_gone m_was m_came m_seenAt m_rowWorth m_farBy m_used i_everywhere i_again0 i_d0 i_never i_firstCame i_longRun i_moved i_crowd i_l0 i_fitMany i_fitLeast i_fitMost m_fitPost m_fitEnd m_keptPosts i_x0 f_all) (kV_RX12_108 C.2.2.2.2 (Nat.le_of_ble_eq_true rfl) (Nat.le_of_ble_eq_true rfl)) [0, 1] [0, 0] rfl rfl (ci := 11) (qc := (RX12, TX12, 43)) rfl rfl (List.mem_flatten.mpr ⟨_, List.mem_of_getElem? (i := 0) rfl, List.mem_cons_self⟩) rfl rfl hl.1 dX12_wordIn_28 (Nat.le_of_ble_eq_true rfl) (Nat.le_of_ble_eq_true rfl) (fun b1 H locs hw G => ?_)
      refine zEx2 hw ?_
      intro j_wrong_10 g_all_11
      refine zCu5 ?_
      intro hbs9 h_12 h_13 h_14 h_15
      clear hw
      subst hbs9
      have G : zS T A s.heap s [[zO11 mo m_all m_has i_size i_next i_where i_token i_number i_word j_wrong_10 i_farCrossing m_read i_z0 i_crossings i_inns m_posts m_shut m_here i_steps i_done i_at i_gone m_was m_came m_seenAt m_rowWorth m_farBy m_used i_everywhere i_again0 i_d0 i_never i_firstCame i_longRun i_moved i_crowd i_l0 i_fitMany i_fitLeast i_fitMost m_fitPost m_fitEnd m_keptPosts i_x0], [zAr T 0 m_all 3952 g_all_11]] _ _ := G
      refine lv_iconst (v := 0) hx hb dX12_wordIn_31 (by decide) ?_
      exact z_back hQ9 (z_iret C hr hlocks G (Nat.le_of_ble_eq_true rfl) (Nat.le_of_ble_eq_true rfl) dX12_wordIn_32 ⟨i_next, i_where, i_token, i_number, i_word, j_wrong_10, g_all_11, rfl, (by first | with_reducible assumption | omega | trivial | assumption), (by first | with_reducible assumption | omega | trivial | assumption), (by first | with_reducible assumption | omega | trivial | assumption), (by first | with_reducible assumption | omega | trivial | assumption), h_13, (Or.inl (by decide)), (by rw [pWord_e (Or.inr (Or.inl (by omega)))]; exact zRr_ends hA h_14 h_15), (by rw [pWord_e (Or.inr (Or.inl (by omega)))]; rfl)⟩)
    · have c_9n : i_token.toInt = (3 : Int) := (fa_eq _ _).mp c_9
      have htk : pTk k a.1 = 3 := by omega
      have hv := t5 htk
      have hwd := hka.2.2.2.2.2 (pTk_3 htk)
      have hvi : i_word.toInt = (pWd k a.1 : Int) := by rw [hv]; exact nI_toInt (by omega)
      refine lv_aload_n hx hb dX12_wordIn_15 rfl (lv_at hl 0 rfl) ?_
      refine z_get C G clX12 0 rfl 7 (by decide) m_fl_RX12_95 rfl dX12_wordIn_16 ?_
      refine lv_iload_n hx hb dX12_wordIn_19 rfl (lv_at hl 1 rfl) ?_
      refine lv_iload_n hx hb dX12_wordIn_20 rfl (lv_at hl 2 rfl) ?_
      refine z_Si (bc := []) (br := [[zO11 mo m_all m_has i_size i_next i_where i_token i_number i_word i_wrong i_farCrossing m_read i_z0 i_crossings i_inns m_posts m_shut m_here i_steps i_done i_at i_gone m_was m_came m_seenAt m_rowWorth m_farBy m_used i_everywhere i_again0 i_d0 i_never i_firstCame i_longRun i_moved i_crowd i_l0 i_fitMany i_fitLeast i_fitMost m_fitPost m_fitEnd m_keptPosts i_x0], [zAr T 0 m_all 3952 f_all]]) (As := [.int i_word, .int fi_, .int la_]) (rest := []) C G (c_m_isIn l T i_word fi_ la_) (kS_RX12_111 C.2.2.2.2 (Nat.le_of_ble_eq_true rfl) (Nat.le_of_ble_eq_true rfl)) [] [] rfl rfl rfl rfl hl.1 dX12_wordIn_21 (Nat.le_of_ble_eq_true rfl) (Nat.le_of_ble_eq_true rfl) (fun r_18 b1 H locs hw G => ?_)
      refine zAn2 hw ?_
      intro hbs9 hc_17
      clear hw
      subst hbs9
      have G : zS T A s.heap s [[zO11 mo m_all m_has i_size i_next i_where i_token i_number i_word i_wrong i_farCrossing m_read i_z0 i_crossings i_inns m_posts m_shut m_here i_steps i_done i_at i_gone m_was m_came m_seenAt m_rowWorth m_farBy m_used i_everywhere i_again0 i_d0 i_never i_firstCame i_longRun i_moved i_crowd i_l0 i_fitMany i_fitLeast i_fitMost m_fitPost m_fitEnd m_keptPosts i_x0], [zAr T 0 m_all 3952 f_all]] _ _ := G
      rcases hc_17 with ⟨rfl, h_19, h_20⟩ | ⟨rfl, h_21⟩
      · have h_19 : fi_.toInt ≤ i_word.toInt := h_19
        have h_20 : i_word.toInt ≤ la_.toInt := h_20
        refine lv_if_ne (tgt := 33) hx hb dX12_wordIn_24 (by decide) (fun _ => ?_) (fun q => absurd q (by decide))
        refine lv_aload_n hx hb dX12_wordIn_33 rfl (lv_at hl 0 rfl) ?_
        refine z_get C G clX12 0 rfl 7 (by decide) m_fl_RX12_95 rfl dX12_wordIn_34 ?_
        refine lv_istore_n (lv' := [(3, .int i_word), (0, .ref mo), (1, .int fi_), (2, .int la_)]) hx hb dX12_wordIn_37 rfl hl (by decide) rfl (fun ls hl => ?_)
        refine lv_aload_n hx hb dX12_wordIn_38 rfl (lv_at hl 1 rfl) ?_
        refine z_Vv (bc := [[zO11 mo m_all m_has i_size i_next i_where i_token i_number i_word i_wrong i_farCrossing m_read i_z0 i_crossings i_inns m_posts m_shut m_here i_steps i_done i_at i_gone m_was m_came m_seenAt m_rowWorth m_farBy m_used i_everywhere i_again0 i_d0 i_never i_firstCame i_longRun i_moved i_crowd i_l0 i_fitMany i_fitLeast i_fitMost m_fitPost m_fitEnd m_keptPosts i_x0], [zAr T 0 m_all 3952 f_all]]) (br := []) (As := []) (rest := []) C G (c_fm_advance l T mo m_all m_has i_size i_next i_where i_token i_number i_word i_wrong i_farCrossing m_read i_z0 i_crossings i_inns m_posts m_shut m_here i_steps i_done i_at i_gone m_was m_came m_seenAt m_rowWorth m_farBy m_used i_everywhere i_again0 i_d0 i_never i_firstCame i_longRun i_moved i_crowd i_l0 i_fitMany i_fitLeast i_fitMost m_fitPost m_fitEnd m_keptPosts i_x0 f_all (pEn k a.1) n k hA1.2.2.2.1 t1 hka.1.2.2 hA1.2.2.1 hA1.1 hA1.2.1) (kV_RX12_119 C.2.2.2.2 (Nat.le_of_ble_eq_true rfl) (Nat.le_of_ble_eq_true rfl)) [0, 1] [0, 0] rfl rfl (ci := 11) (qc := (RX12, TX12, 43)) rfl rfl (List.mem_flatten.mpr ⟨_, List.mem_of_getElem? (i := 0) rfl, List.mem_cons_self⟩) rfl rfl hl.1 dX12_wordIn_39 (Nat.le_of_ble_eq_true rfl) (Nat.le_of_ble_eq_true rfl) (fun b1 H locs hw G => ?_)
        refine zEx5 hw ?_
        intro j_next_22 j_where_23 j_token_24 j_number_25 j_word_26
        refine zCu8 ?_
        intro hbs9 h_27 h_28 h_29 h_30 h_31 h_32 h_33
        clear hw
        subst hbs9
        have G : zS T A s.heap s [[zO11 mo m_all m_has i_size j_next_22 j_where_23 j_token_24 j_number_25 j_word_26 i_wrong i_farCrossing m_read i_z0 i_crossings i_inns m_posts m_shut m_here i_steps i_done i_at i_gone m_was m_came m_seenAt m_rowWorth m_farBy m_used i_everywhere i_again0 i_d0 i_never i_firstCame i_longRun i_moved i_crowd i_l0 i_fitMany i_fitLeast i_fitMost m_fitPost m_fitEnd m_keptPosts i_x0], [zAr T 0 m_all 3952 f_all]] _ _ := G
        refine lv_iload_n hx hb dX12_wordIn_42 rfl (lv_at hl 0 rfl) ?_
        exact z_back hQ9 (z_iret C hr hlocks G (Nat.le_of_ble_eq_true rfl) (Nat.le_of_ble_eq_true rfl) dX12_wordIn_43 ⟨j_next_22, j_where_23, j_token_24, j_number_25, j_word_26, i_wrong, f_all, rfl, (by first | with_reducible assumption | omega | trivial | assumption), (by first | with_reducible assumption | omega | trivial | assumption), (by first | with_reducible assumption | omega | trivial | assumption), (by first | with_reducible assumption | omega | trivial | assumption), (zPal_rf _), (by first | with_reducible assumption | omega | trivial | assumption), (by rw [pWord_i hw htk ⟨by omega, by omega⟩]; exact zRr_adv hA h_33), (by rw [pWord_i hw htk ⟨by omega, by omega⟩]; exact hv)⟩)
      · have h_21 : (i_word.toInt < fi_.toInt ∨ la_.toInt < i_word.toInt) := h_21
        refine lv_if_ne (tgt := 33) hx hb dX12_wordIn_24 (by decide) (fun q => absurd (by decide) q) (fun _ => ?_)
        refine lv_aload_n hx hb dX12_wordIn_27 rfl (lv_at hl 0 rfl) ?_
        refine z_Vv (bc := [[zO11 mo m_all m_has i_size i_next i_where i_token i_number i_word i_wrong i_farCrossing m_read i_z0 i_crossings i_inns m_posts m_shut m_here i_steps i_done i_at i_gone m_was m_came m_seenAt m_rowWorth m_farBy m_used i_everywhere i_again0 i_d0 i_never i_firstCame i_longRun i_moved i_crowd i_l0 i_fitMany i_fitLeast i_fitMost m_fitPost m_fitEnd m_keptPosts i_x0], [zAr T 0 m_all 3952 f_all]]) (br := []) (As := []) (rest := []) C G (c_fm_ends l T mo m_all m_has i_size i_next i_where i_token i_number i_word i_wrong i_farCrossing m_read i_z0 i_crossings i_inns m_posts m_shut m_here i_steps i_done i_at i_gone m_was m_came m_seenAt m_rowWorth m_farBy m_used i_everywhere i_again0 i_d0 i_never i_firstCame i_longRun i_moved i_crowd i_l0 i_fitMany i_fitLeast i_fitMost m_fitPost m_fitEnd m_keptPosts i_x0 f_all) (kV_RX12_108 C.2.2.2.2 (Nat.le_of_ble_eq_true rfl) (Nat.le_of_ble_eq_true rfl)) [0, 1] [0, 0] rfl rfl (ci := 11) (qc := (RX12, TX12, 43)) rfl rfl (List.mem_flatten.mpr ⟨_, List.mem_of_getElem? (i := 0) rfl, List.mem_cons_self⟩) rfl rfl hl.1 dX12_wordIn_28 (Nat.le_of_ble_eq_true rfl) (Nat.le_of_ble_eq_true rfl) (fun b1 H locs hw G => ?_)
        refine zEx2 hw ?_
        intro j_wrong_35 g_all_36
        refine zCu5 ?_
        intro hbs9 h_37 h_38 h_39 h_40
        clear hw
        subst hbs9
        have G : zS T A s.heap s [[zO11 mo m_all m_has i_size i_next i_where i_token i_number i_word j_wrong_35 i_farCrossing m_read i_z0 i_crossings i_inns m_posts m_shut m_here i_steps i_done i_at i_gone m_was m_came m_seenAt m_rowWorth m_farBy m_used i_everywhere i_again0 i_d0 i_never i_firstCame i_longRun i_moved i_crowd i_l0 i_fitMany i_fitLeast i_fitMost m_fitPost m_fitEnd m_keptPosts i_x0], [zAr T 0 m_all 3952 g_all_36]] _ _ := G
        refine lv_iconst (v := 0) hx hb dX12_wordIn_31 (by decide) ?_
        exact z_back hQ9 (z_iret C hr hlocks G (Nat.le_of_ble_eq_true rfl) (Nat.le_of_ble_eq_true rfl) dX12_wordIn_32 ⟨i_next, i_where, i_token, i_number, i_word, j_wrong_35, g_all_36, rfl, (by first | with_reducible assumption | omega | trivial | assumption), (by first | with_reducible assumption | omega | trivial | assumption), (by first | with_reducible assumption | omega | trivial | assumption), (by first | with_reducible assumption | omega | trivial | assumption), h_38, (Or.inl (by decide)), (by rw [pWord_e (Or.inr (Or.inr (by omega)))]; exact zRr_ends hA h_39 h_40), (by rw [pWord_e (Or.inr (Or.inr (by omega)))]; rfl)⟩)
set_option maxHeartbeats 4000000 in
set_option maxRecDepth 100000 in
/-- c_fm_endsLine -/
theorem c_fm_endsLine (l : Launch) (T : zTy) (mo : Nat) (m_all : Nat) (m_has : Nat) (i_size : Int32) (i_next : Int32) (i_where : Int32) (i_token : Int32) (i_number : Int32) (i_word : Int32) (i_wrong : Int32) (i_farCrossing : Int32) (m_read : Nat) (i_z0 : Int32) (i_crossings : Int32) (i_inns : Int32) (m_posts : Nat) (m_shut : Nat) (m_here : Nat) (i_steps : Int32) (i_done : Int32) (i_at : Int32) (i_gone : Int32) (m_was : Nat) (m_came : Nat) (m_seenAt : Nat) (m_rowWorth : Nat) (m_farBy : Nat) (m_used : Nat) (i_everywhere : Int32) (i_again0 : Int32) (i_d0 : Int32) (i_never : Int32) (i_firstCame : Int32) (i_longRun : Int32) (i_moved : Int32) (i_crowd : Int32) (i_l0 : Int32) (i_fitMany : Int32) (i_fitLeast : Int32) (i_fitMost : Int32) (m_fitPost : Nat) (m_fitEnd : Nat) (m_keptPosts : Nat) (i_x0 : Int32) (f_all : Nat → Int32) (k : pT) (n : Nat) (a : pS) (hsz : i_size.toInt ≤ 600) (hn0 : 0 ≤ i_next.toInt) (hns : i_next.toInt ≤ i_size.toInt) (hA : zRr k n i_size i_next i_where i_token i_number i_word i_wrong i_farCrossing f_all a) : zMv l T yX12_endsLine cX12_endsLine 1 5 0 0 [.ref mo] [[zO11 mo m_all m_has i_size i_next i_where i_token i_number i_word i_wrong i_farCrossing m_read i_z0 i_crossings i_inns m_posts m_shut m_here i_steps i_done i_at i_gone m_was m_came m_seenAt m_rowWorth m_farBy m_used i_everywhere i_again0 i_d0 i_never i_firstCame i_longRun i_moved i_crowd i_l0 i_fitMany i_fitLeast i_fitMost m_fitPost m_fitEnd m_keptPosts i_x0], [zAr T 0 m_all 3952 f_all]] (fun bs => ∃ (j_next : Int32) (j_where : Int32) (j_token : Int32) (j_number : Int32) (j_word : Int32) (j_wrong : Int32) (g_all : Nat → Int32), bs = [[zO11 mo m_all m_has i_size j_next j_where j_token j_number j_word j_wrong i_farCrossing m_read i_z0 i_crossings i_inns m_posts m_shut m_here i_steps i_done i_at i_gone m_was m_came m_seenAt m_rowWorth m_farBy m_used i_everywhere i_again0 i_d0 i_never i_firstCame i_longRun i_moved i_crowd i_l0 i_fitMany i_fitLeast i_fitMost m_fitPost m_fitEnd m_keptPosts i_x0], [zAr T 0 m_all 3952 g_all]] ∧ 0 ≤ j_next.toInt ∧ j_next.toInt ≤ i_size.toInt ∧ i_next.toInt ≤ j_next.toInt ∧ (¬ j_wrong.toInt = 0 ∨ i_next.toInt < j_next.toInt ∨ j_token.toInt = 0) ∧ zPal f_all g_all ∧ zRr k n i_size j_next j_where j_token j_number j_word j_wrong i_farCrossing g_all (pEndL k a)) := by
  refine zMv_of (own := RX12) (by decide) rfl (Nat.le_of_ble_eq_true rfl) ?_
  intro p e s m args below meth c A ls C hr hlocks hnm hAe G hl
  refine zHide (fun Q9 hQ9 => ?_)
  have hx := C.1
  have hb := C.2.1
  have hl : lv_has ls 1 [(0, .ref mo)] := hl
  have hok := zRr_ok hA
  refine zAn6 (id hA) ?_
  intro hA1 hA6 hA7 hA8 hA9 hA10
  replace hA7 : zHd _ := hA7
  have hka : zHd _ := hok a.1 hA1.2.2.2.2
  have hkb := hka.1
  have hkc := hka.2.1
  have hT4 := pTk_le hok hA1.2.2.2.2
  refine lv_aload_n hx hb dX12_endsLine_0 rfl (lv_at hl 0 rfl) ?_
  refine z_get C G clX12 0 rfl 8 (by decide) m_fl_RX12_104 rfl dX12_endsLine_1 ?_
  refine lv_if_ne (tgt := 22) hx hb dX12_endsLine_4 (by decide) (fun c_1 => ?_) (fun c_1 => ?_)
  · have c_1n : ¬ i_wrong.toInt = (0 : Int) := fun q => c_1 ((fa_eq _ _).mpr q)
    refine lv_aload_n hx hb dX12_endsLine_22 rfl (lv_at hl 0 rfl) ?_
    refine z_Vv (bc := [[zO11 mo m_all m_has i_size i_next i_where i_token i_number i_word i_wrong i_farCrossing m_read i_z0 i_crossings i_inns m_posts m_shut m_here i_steps i_done i_at i_gone m_was m_came m_seenAt m_rowWorth m_farBy m_used i_everywhere i_again0 i_d0 i_never i_firstCame i_longRun i_moved i_crowd i_l0 i_fitMany i_fitLeast i_fitMost m_fitPost m_fitEnd m_keptPosts i_x0], [zAr T 0 m_all 3952 f_all]]) (br := []) (As := []) (rest := []) C G (c_fm_ends l T mo m_all m_has i_size i_next i_where i_token i_number i_word i_wrong i_farCrossing m_read i_z0 i_crossings i_inns m_posts m_shut m_here i_steps i_done i_at i_gone m_was m_came m_seenAt m_rowWorth m_farBy m_used i_everywhere i_again0 i_d0 i_never i_firstCame i_longRun i_moved i_crowd i_l0 i_fitMany i_fitLeast i_fitMost m_fitPost m_fitEnd m_keptPosts i_x0 f_all) (kV_RX12_108 C.2.2.2.2 (Nat.le_of_ble_eq_true rfl) (Nat.le_of_ble_eq_true rfl)) [0, 1] [0, 0] rfl rfl (ci := 11) (qc := (RX12, TX12, 43)) rfl rfl (List.mem_flatten.mpr ⟨_, List.mem_of_getElem? (i := 0) rfl, List.mem_cons_self⟩) rfl rfl hl.1 dX12_endsLine_23 (Nat.le_of_ble_eq_true rfl) (Nat.le_of_ble_eq_true rfl) (fun b1 H locs hw G => ?_)
    refine zEx2 hw ?_
    intro j_wrong_2 g_all_3
    refine zCu5 ?_
    intro hbs9 h_4 h_5 h_6 h_7
    clear hw
    subst hbs9
    have G : zS T A s.heap s [[zO11 mo m_all m_has i_size i_next i_where i_token i_number i_word j_wrong_2 i_farCrossing m_read i_z0 i_crossings i_inns m_posts m_shut m_here i_steps i_done i_at i_gone m_was m_came m_seenAt m_rowWorth m_farBy m_used i_everywhere i_again0 i_d0 i_never i_firstCame i_longRun i_moved i_crowd i_l0 i_fitMany i_fitLeast i_fitMost m_fitPost m_fitEnd m_keptPosts i_x0], [zAr T 0 m_all 3952 g_all_3]] _ _ := G
    exact z_back hQ9 (z_vret C hr hlocks G (Nat.le_of_ble_eq_true rfl) (Nat.le_of_ble_eq_true rfl) dX12_endsLine_26 ⟨i_next, i_where, i_token, i_number, i_word, j_wrong_2, g_all_3, rfl, (by first | with_reducible assumption | omega | trivial | assumption), (by first | with_reducible assumption | omega | trivial | assumption), (by first | with_reducible assumption | omega | trivial | assumption), (by first | with_reducible assumption | omega | trivial | assumption), h_5, (by rw [pEndL_e (fun z9 => by first | (exact absurd z9.1 (by rw [← hA6]; omega)) | omega)]; exact zRr_ends hA h_6 h_7)⟩)
  · have c_1n : i_wrong.toInt = (0 : Int) := (fa_eq _ _).mp c_1
    have hw : a.2.1.toInt = 0 := by rw [← hA6]; omega
    refine zAn5 (hA7 hw) ?_
    intro t1 t2 t3 t4 t5
    replace t4 : zHd _ := t4
    replace t5 : zHd _ := t5
    have t3i : i_token.toInt = (pTk k a.1 : Int) := by rw [t3]; exact nI_toInt (by omega)
    refine lv_aload_n hx hb dX12_endsLine_7 rfl (lv_at hl 0 rfl) ?_
    refine z_get C G clX12 0 rfl 5 (by decide) m_fl_RX12_80 rfl dX12_endsLine_8 ?_
    refine lv_iconst (v := 2) hx hb dX12_endsLine_11 (by decide) ?_
    refine lv_icmp_ne (tgt := 22) hx hb dX12_endsLine_12 (by decide) (fun c_9 => ?_) (fun c_9 => ?_)
    · have c_9n : ¬ i_token.toInt = (2 : Int) := fun q => c_9 ((fa_eq _ _).mpr q)
      refine lv_aload_n hx hb dX12_endsLine_22 rfl (lv_at hl 0 rfl) ?_
      refine z_Vv (bc := [[zO11 mo m_all m_has i_size i_next i_where i_token i_number i_word i_wrong i_farCrossing m_read i_z0 i_crossings i_inns m_posts m_shut m_here i_steps i_done i_at i_gone m_was m_came m_seenAt m_rowWorth m_farBy m_used i_everywhere i_again0 i_d0 i_never i_firstCame i_longRun i_moved i_crowd i_l0 i_fitMany i_fitLeast i_fitMost m_fitPost m_fitEnd m_keptPosts i_x0], [zAr T 0 m_all 3952 f_all]]) (br := []) (As := []) (rest := []) C G (c_fm_ends l T mo m_all m_has i_size i_next i_where i_token i_number i_word i_wrong i_farCrossing m_read i_z0 i_crossings i_inns m_posts m_shut m_here i_steps i_done i_at i_gone m_was m_came m_seenAt m_rowWorth m_farBy m_used i_everywhere i_again0 i_d0 i_never i_firstCame i_longRun i_moved i_crowd i_l0 i_fitMany i_fitLeast i_fitMost m_fitPost m_fitEnd m_keptPosts i_x0 f_all) (kV_RX12_108 C.2.2.2.2 (Nat.le_of_ble_eq_true rfl) (Nat.le_of_ble_eq_true rfl)) [0, 1] [0, 0] rfl rfl (ci := 11) (qc := (RX12, TX12, 43)) rfl rfl (List.mem_flatten.mpr ⟨_, List.mem_of_getElem? (i := 0) rfl, List.mem_cons_self⟩) rfl rfl hl.1 dX12_endsLine_23 (Nat.le_of_ble_eq_true rfl) (Nat.le_of_ble_eq_true rfl) (fun b1 H locs hw G => ?_)
      refine zEx2 hw ?_
      intro j_wrong_10 g_all_11
      refine zCu5 ?_
      intro hbs9 h_12 h_13 h_14 h_15
      clear hw
      subst hbs9
      have G : zS T A s.heap s [[zO11 mo m_all m_has i_size i_next i_where i_token i_number i_word j_wrong_10 i_farCrossing m_read i_z0 i_crossings i_inns m_posts m_shut m_here i_steps i_done i_at i_gone m_was m_came m_seenAt m_rowWorth m_farBy m_used i_everywhere i_again0 i_d0 i_never i_firstCame i_longRun i_moved i_crowd i_l0 i_fitMany i_fitLeast i_fitMost m_fitPost m_fitEnd m_keptPosts i_x0], [zAr T 0 m_all 3952 g_all_11]] _ _ := G
      exact z_back hQ9 (z_vret C hr hlocks G (Nat.le_of_ble_eq_true rfl) (Nat.le_of_ble_eq_true rfl) dX12_endsLine_26 ⟨i_next, i_where, i_token, i_number, i_word, j_wrong_10, g_all_11, rfl, (by first | with_reducible assumption | omega | trivial | assumption), (by first | with_reducible assumption | omega | trivial | assumption), (by first | with_reducible assumption | omega | trivial | assumption), (by first | with_reducible assumption | omega | trivial | assumption), h_13, (by rw [pEndL_e (fun z9 => by first | (exact absurd z9.1 (by rw [← hA6]; omega)) | omega)]; exact zRr_ends hA h_14 h_15)⟩)
    · have c_9n : i_token.toInt = (2 : Int) := (fa_eq _ _).mp c_9
      refine lv_aload_n hx hb dX12_endsLine_15 rfl (lv_at hl 0 rfl) ?_
      refine z_Vv (bc := [[zO11 mo m_all m_has i_size i_next i_where i_token i_number i_word i_wrong i_farCrossing m_read i_z0 i_crossings i_inns m_posts m_shut m_here i_steps i_done i_at i_gone m_was m_came m_seenAt m_rowWorth m_farBy m_used i_everywhere i_again0 i_d0 i_never i_firstCame i_longRun i_moved i_crowd i_l0 i_fitMany i_fitLeast i_fitMost m_fitPost m_fitEnd m_keptPosts i_x0], [zAr T 0 m_all 3952 f_all]]) (br := []) (As := []) (rest := []) C G (c_fm_advance l T mo m_all m_has i_size i_next i_where i_token i_number i_word i_wrong i_farCrossing m_read i_z0 i_crossings i_inns m_posts m_shut m_here i_steps i_done i_at i_gone m_was m_came m_seenAt m_rowWorth m_farBy m_used i_everywhere i_again0 i_d0 i_never i_firstCame i_longRun i_moved i_crowd i_l0 i_fitMany i_fitLeast i_fitMost m_fitPost m_fitEnd m_keptPosts i_x0 f_all (pEn k a.1) n k hA1.2.2.2.1 t1 hka.1.2.2 hA1.2.2.1 hA1.1 hA1.2.1) (kV_RX12_119 C.2.2.2.2 (Nat.le_of_ble_eq_true rfl) (Nat.le_of_ble_eq_true rfl)) [0, 1] [0, 0] rfl rfl (ci := 11) (qc := (RX12, TX12, 43)) rfl rfl (List.mem_flatten.mpr ⟨_, List.mem_of_getElem? (i := 0) rfl, List.mem_cons_self⟩) rfl rfl hl.1 dX12_endsLine_16 (Nat.le_of_ble_eq_true rfl) (Nat.le_of_ble_eq_true rfl) (fun b1 H locs hw G => ?_)
      refine zEx5 hw ?_
      intro j_next_17 j_where_18 j_token_19 j_number_20 j_word_21
      refine zCu8 ?_
      intro hbs9 h_22 h_23 h_24 h_25 h_26 h_27 h_28
      clear hw
      subst hbs9
      have G : zS T A s.heap s [[zO11 mo m_all m_has i_size j_next_17 j_where_18 j_token_19 j_number_20 j_word_21 i_wrong i_farCrossing m_read i_z0 i_crossings i_inns m_posts m_shut m_here i_steps i_done i_at i_gone m_was m_came m_seenAt m_rowWorth m_farBy m_used i_everywhere i_again0 i_d0 i_never i_firstCame i_longRun i_moved i_crowd i_l0 i_fitMany i_fitLeast i_fitMost m_fitPost m_fitEnd m_keptPosts i_x0], [zAr T 0 m_all 3952 f_all]] _ _ := G
      refine lv_goto (tgt := 26) hx hb dX12_endsLine_19 (by decide) ?_
      exact z_back hQ9 (z_vret C hr hlocks G (Nat.le_of_ble_eq_true rfl) (Nat.le_of_ble_eq_true rfl) dX12_endsLine_26 ⟨j_next_17, j_where_18, j_token_19, j_number_20, j_word_21, i_wrong, f_all, rfl, (by first | with_reducible assumption | omega | trivial | assumption), (by first | with_reducible assumption | omega | trivial | assumption), (by first | with_reducible assumption | omega | trivial | assumption), (by first | with_reducible assumption | omega | trivial | assumption), (zPal_rf _), (by rw [pEndL_a ⟨hw, by omega⟩]; exact zRr_adv hA h_28)⟩)
set_option maxHeartbeats 4000000 in
set_option maxRecDepth 100000 in
/-- c_fm_crossingTold -/
theorem c_fm_crossingTold (l : Launch) (T : zTy) (mo : Nat) (m_all : Nat) (m_has : Nat) (i_size : Int32) (i_next : Int32) (i_where : Int32) (i_token : Int32) (i_number : Int32) (i_word : Int32) (i_wrong : Int32) (i_farCrossing : Int32) (m_read : Nat) (i_z0 : Int32) (i_crossings : Int32) (i_inns : Int32) (m_posts : Nat) (m_shut : Nat) (m_here : Nat) (i_steps : Int32) (i_done : Int32) (i_at : Int32) (i_gone : Int32) (m_was : Nat) (m_came : Nat) (m_seenAt : Nat) (m_rowWorth : Nat) (m_farBy : Nat) (m_used : Nat) (i_everywhere : Int32) (i_again0 : Int32) (i_d0 : Int32) (i_never : Int32) (i_firstCame : Int32) (i_longRun : Int32) (i_moved : Int32) (i_crowd : Int32) (i_l0 : Int32) (i_fitMany : Int32) (i_fitLeast : Int32) (i_fitMost : Int32) (m_fitPost : Nat) (m_fitEnd : Nat) (m_keptPosts : Nat) (i_x0 : Int32) (f_all : Nat → Int32) (k : pT) (n : Nat) (a : pS) (hsz : i_size.toInt ≤ 600) (hn0 : 0 ≤ i_next.toInt) (hns : i_next.toInt ≤ i_size.toInt) (hA : zRr k n i_size i_next i_where i_token i_number i_word i_wrong i_farCrossing f_all a) : zMi l T yX12_crossingTold cX12_crossingTold 2 (some .int) 6 0 0 [.ref mo] [[zO11 mo m_all m_has i_size i_next i_where i_token i_number i_word i_wrong i_farCrossing m_read i_z0 i_crossings i_inns m_posts m_shut m_here i_steps i_done i_at i_gone m_was m_came m_seenAt m_rowWorth m_farBy m_used i_everywhere i_again0 i_d0 i_never i_firstCame i_longRun i_moved i_crowd i_l0 i_fitMany i_fitLeast i_fitMost m_fitPost m_fitEnd m_keptPosts i_x0], [zAr T 0 m_all 3952 f_all]] (fun (r : Int32) bs => ∃ (j_next : Int32) (j_where : Int32) (j_token : Int32) (j_number : Int32) (j_word : Int32) (j_wrong : Int32) (j_farCrossing : Int32) (g_all : Nat → Int32), bs = [[zO11 mo m_all m_has i_size j_next j_where j_token j_number j_word j_wrong j_farCrossing m_read i_z0 i_crossings i_inns m_posts m_shut m_here i_steps i_done i_at i_gone m_was m_came m_seenAt m_rowWorth m_farBy m_used i_everywhere i_again0 i_d0 i_never i_firstCame i_longRun i_moved i_crowd i_l0 i_fitMany i_fitLeast i_fitMost m_fitPost m_fitEnd m_keptPosts i_x0], [zAr T 0 m_all 3952 g_all]] ∧ 0 ≤ j_next.toInt ∧ j_next.toInt ≤ i_size.toInt ∧ i_next.toInt ≤ j_next.toInt ∧ (¬ j_wrong.toInt = 0 ∨ i_next.toInt < j_next.toInt ∨ j_token.toInt = 0) ∧ zPal f_all g_all ∧ 0 ≤ r.toInt ∧ r.toInt ≤ 6 ∧ zRr k n i_size j_next j_where j_token j_number j_word j_wrong j_farCrossing g_all (pCr k a).2 ∧ r = (pCr k a).1) := by
  refine zMi_of (own := RX12) (by decide) rfl (Nat.le_of_ble_eq_true rfl) ?_
  intro p e s m args below meth c A ls C hr hlocks hnm hAe G hl
  refine zHide (fun Q9 hQ9 => ?_)
  have hx := C.1
  have hb := C.2.1
  have hl : lv_has ls 2 [(0, .ref mo)] := hl
  refine lv_aload_n hx hb dX12_crossingTold_0 rfl (lv_at hl 0 rfl) ?_
  refine lv_iconst (v := 0) hx hb dX12_crossingTold_1 (by decide) ?_
  refine lv_bipush (v := 6) hx hb dX12_crossingTold_2 (by decide) ?_
  refine z_Vi (bc := [[zO11 mo m_all m_has i_size i_next i_where i_token i_number i_word i_wrong i_farCrossing m_read i_z0 i_crossings i_inns m_posts m_shut m_here i_steps i_done i_at i_gone m_was m_came m_seenAt m_rowWorth m_farBy m_used i_everywhere i_again0 i_d0 i_never i_firstCame i_longRun i_moved i_crowd i_l0 i_fitMany i_fitLeast i_fitMost m_fitPost m_fitEnd m_keptPosts i_x0], [zAr T 0 m_all 3952 f_all]]) (br := []) (As := [.int 0, .int 6]) (rest := []) C G (c_fm_numbered l T mo m_all m_has i_size i_next i_where i_token i_number i_word i_wrong i_farCrossing m_read i_z0 i_crossings i_inns m_posts m_shut m_here i_steps i_done i_at i_gone m_was m_came m_seenAt m_rowWorth m_farBy m_used i_everywhere i_again0 i_d0 i_never i_firstCame i_longRun i_moved i_crowd i_l0 i_fitMany i_fitLeast i_fitMost m_fitPost m_fitEnd m_keptPosts i_x0 f_all k n a 0 6 (by first | with_reducible assumption | with_reducible rfl | omega | assumption | rfl) (by first | with_reducible assumption | with_reducible rfl | omega | assumption | rfl) (by first | with_reducible assumption | with_reducible rfl | omega | assumption | rfl) (by decide) hA) (kV_RX12_122 C.2.2.2.2 (Nat.le_of_ble_eq_true rfl) (Nat.le_of_ble_eq_true rfl)) [0, 1] [0, 0] rfl rfl (ci := 11) (qc := (RX12, TX12, 43)) rfl rfl (List.mem_flatten.mpr ⟨_, List.mem_of_getElem? (i := 0) rfl, List.mem_cons_self⟩) rfl rfl hl.1 dX12_crossingTold_4 (Nat.le_of_ble_eq_true rfl) (Nat.le_of_ble_eq_true rfl) (fun r_17 b1 H locs hw G => ?_)
  refine zEx7 hw ?_
  intro j_next_1 j_where_2 j_token_3 j_number_4 j_word_5 j_wrong_6 g_all_7
  refine zCu10 ?_
  intro hbs9 h_8 h_9 h_10 h_11 h_12 h_13 h_14 h_15 h_16
  clear hw
  subst hbs9
  have G : zS T A s.heap s [[zO11 mo m_all m_has i_size j_next_1 j_where_2 j_token_3 j_number_4 j_word_5 j_wrong_6 i_farCrossing m_read i_z0 i_crossings i_inns m_posts m_shut m_here i_steps i_done i_at i_gone m_was m_came m_seenAt m_rowWorth m_farBy m_used i_everywhere i_again0 i_d0 i_never i_firstCame i_longRun i_moved i_crowd i_l0 i_fitMany i_fitLeast i_fitMost m_fitPost m_fitEnd m_keptPosts i_x0], [zAr T 0 m_all 3952 g_all_7]] _ _ := G
  have h_13 : (0 : Int) ≤ r_17.toInt := h_13
  have h_14 : r_17.toInt ≤ (6 : Int) := h_14
  refine lv_istore_n (lv' := [(1, .int r_17), (0, .ref mo)]) hx hb dX12_crossingTold_7 rfl hl (by decide) rfl (fun ls hl => ?_)
  refine lv_aload_n hx hb dX12_crossingTold_8 rfl (lv_at hl 1 rfl) ?_
  refine lv_iload_n hx hb dX12_crossingTold_9 rfl (lv_at hl 0 rfl) ?_
  refine lv_aload_n hx hb dX12_crossingTold_10 rfl (lv_at hl 1 rfl) ?_
  refine z_get C G clX12 0 rfl 9 (by decide) m_fl_RX12_126 rfl dX12_crossingTold_11 ?_
  refine lv_icmp_le (tgt := 21) hx hb dX12_crossingTold_14 (by decide) (fun c_18 => ?_) (fun c_18 => ?_)
  · have c_18n : r_17.toInt ≤ i_farCrossing.toInt := (fa_le _ _).mp c_18
    refine lv_aload_n hx hb dX12_crossingTold_21 rfl (lv_at hl 1 rfl) ?_
    refine z_get C G clX12 0 rfl 9 (by decide) m_fl_RX12_126 rfl dX12_crossingTold_22 ?_
    refine z_put C G clX12 0 rfl 9 (by decide) m_fl_RX12_126 rfl rfl rfl (Nat.le_of_ble_eq_true rfl) dX12_crossingTold_25 (fun H locs G => ?_)
    have G : zS T A s.heap s [[zO11 mo m_all m_has i_size j_next_1 j_where_2 j_token_3 j_number_4 j_word_5 j_wrong_6 i_farCrossing m_read i_z0 i_crossings i_inns m_posts m_shut m_here i_steps i_done i_at i_gone m_was m_came m_seenAt m_rowWorth m_farBy m_used i_everywhere i_again0 i_d0 i_never i_firstCame i_longRun i_moved i_crowd i_l0 i_fitMany i_fitLeast i_fitMost m_fitPost m_fitEnd m_keptPosts i_x0], [zAr T 0 m_all 3952 g_all_7]] _ _ := G
    refine lv_iload_n hx hb dX12_crossingTold_28 rfl (lv_at hl 0 rfl) ?_
    exact z_back hQ9 (z_iret C hr hlocks G (Nat.le_of_ble_eq_true rfl) (Nat.le_of_ble_eq_true rfl) dX12_crossingTold_29 ⟨j_next_1, j_where_2, j_token_3, j_number_4, j_word_5, j_wrong_6, i_farCrossing, g_all_7, rfl, (by first | with_reducible assumption | omega | trivial | assumption), (by first | with_reducible assumption | omega | trivial | assumption), (by first | with_reducible assumption | omega | trivial | assumption), (by first | with_reducible assumption | omega | trivial | assumption), h_12, (by first | with_reducible assumption | omega | trivial | assumption), (by first | with_reducible assumption | omega | trivial | assumption), (zRr_far (c := (pNum k 0 6 a).1) h_15 (by rw [← h_16]; exact (if_neg (by omega)).symm)), h_16⟩)
  · have c_18n : ¬ r_17.toInt ≤ i_farCrossing.toInt := fun q => c_18 ((fa_le _ _).mpr q)
    refine lv_iload_n hx hb dX12_crossingTold_17 rfl (lv_at hl 0 rfl) ?_
    refine lv_goto (tgt := 25) hx hb dX12_crossingTold_18 (by decide) ?_
    refine z_put C G clX12 0 rfl 9 (by decide) m_fl_RX12_126 rfl rfl rfl (Nat.le_of_ble_eq_true rfl) dX12_crossingTold_25 (fun H locs G => ?_)
    have G : zS T A s.heap s [[zO11 mo m_all m_has i_size j_next_1 j_where_2 j_token_3 j_number_4 j_word_5 j_wrong_6 r_17 m_read i_z0 i_crossings i_inns m_posts m_shut m_here i_steps i_done i_at i_gone m_was m_came m_seenAt m_rowWorth m_farBy m_used i_everywhere i_again0 i_d0 i_never i_firstCame i_longRun i_moved i_crowd i_l0 i_fitMany i_fitLeast i_fitMost m_fitPost m_fitEnd m_keptPosts i_x0], [zAr T 0 m_all 3952 g_all_7]] _ _ := G
    refine lv_iload_n hx hb dX12_crossingTold_28 rfl (lv_at hl 0 rfl) ?_
    exact z_back hQ9 (z_iret C hr hlocks G (Nat.le_of_ble_eq_true rfl) (Nat.le_of_ble_eq_true rfl) dX12_crossingTold_29 ⟨j_next_1, j_where_2, j_token_3, j_number_4, j_word_5, j_wrong_6, r_17, g_all_7, rfl, (by first | with_reducible assumption | omega | trivial | assumption), (by first | with_reducible assumption | omega | trivial | assumption), (by first | with_reducible assumption | omega | trivial | assumption), (by first | with_reducible assumption | omega | trivial | assumption), h_12, (by first | with_reducible assumption | omega | trivial | assumption), (by first | with_reducible assumption | omega | trivial | assumption), (zRr_far (c := (pNum k 0 6 a).1) h_15 (by rw [← h_16]; exact (if_pos (by omega)).symm)), h_16⟩)
set_option maxHeartbeats 4000000 in
set_option maxRecDepth 100000 in
/-- c_fm_crossTold -/
theorem c_fm_crossTold (l : Launch) (T : zTy) (mo : Nat) (m_all : Nat) (m_has : Nat) (i_size : Int32) (i_next : Int32) (i_where : Int32) (i_token : Int32) (i_number : Int32) (i_word : Int32) (i_wrong : Int32) (i_farCrossing : Int32) (m_read : Nat) (i_z0 : Int32) (i_crossings : Int32) (i_inns : Int32) (m_posts : Nat) (m_shut : Nat) (m_here : Nat) (i_steps : Int32) (i_done : Int32) (i_at : Int32) (i_gone : Int32) (m_was : Nat) (m_came : Nat) (m_seenAt : Nat) (m_rowWorth : Nat) (m_farBy : Nat) (m_used : Nat) (i_everywhere : Int32) (i_again0 : Int32) (i_d0 : Int32) (i_never : Int32) (i_firstCame : Int32) (i_longRun : Int32) (i_moved : Int32) (i_crowd : Int32) (i_l0 : Int32) (i_fitMany : Int32) (i_fitLeast : Int32) (i_fitMost : Int32) (m_fitPost : Nat) (m_fitEnd : Nat) (m_keptPosts : Nat) (i_x0 : Int32) (f_all : Nat → Int32) (f_read : Nat → Int32) (k : pT) (n : Nat) (a : pS) (at_ : Int32) (hsz : i_size.toInt ≤ 600) (hn0 : 0 ≤ i_next.toInt) (hns : i_next.toInt ≤ i_size.toInt) (hR : zLF f_read) (hA : zRr k n i_size i_next i_where i_token i_number i_word i_wrong i_farCrossing f_all a) : zMv l T yX12_crossTold cX12_crossTold 4 7 0 0 [.ref mo, .int at_] [[zO11 mo m_all m_has i_size i_next i_where i_token i_number i_word i_wrong i_farCrossing m_read i_z0 i_crossings i_inns m_posts m_shut m_here i_steps i_done i_at i_gone m_was m_came m_seenAt m_rowWorth m_farBy m_used i_everywhere i_again0 i_d0 i_never i_firstCame i_longRun i_moved i_crowd i_l0 i_fitMany i_fitLeast i_fitMost m_fitPost m_fitEnd m_keptPosts i_x0], [zAr T 0 m_all 3952 f_all], [zAr T 0 m_read 121 f_read]] (fun bs => ∃ (j_next : Int32) (j_where : Int32) (j_token : Int32) (j_number : Int32) (j_word : Int32) (j_wrong : Int32) (j_farCrossing : Int32) (g_all : Nat → Int32) (g_read : Nat → Int32), bs = [[zO11 mo m_all m_has i_size j_next j_where j_token j_number j_word j_wrong j_farCrossing m_read i_z0 i_crossings i_inns m_posts m_shut m_here i_steps i_done i_at i_gone m_was m_came m_seenAt m_rowWorth m_farBy m_used i_everywhere i_again0 i_d0 i_never i_firstCame i_longRun i_moved i_crowd i_l0 i_fitMany i_fitLeast i_fitMost m_fitPost m_fitEnd m_keptPosts i_x0], [zAr T 0 m_all 3952 g_all], [zAr T 0 m_read 121 g_read]] ∧ 0 ≤ j_next.toInt ∧ j_next.toInt ≤ i_size.toInt ∧ i_next.toInt ≤ j_next.toInt ∧ zPal f_all g_all ∧ zLF g_read ∧ zRr k n i_size j_next j_where j_token j_number j_word j_wrong j_farCrossing g_all (pCross k at_ a f_read).1 ∧ g_read = (pCross k at_ a f_read).2) := by
  refine zMv_of (own := RX12) (by decide) rfl (Nat.le_of_ble_eq_true rfl) ?_
  intro p e s m args below meth c A ls C hr hlocks hnm hAe G hl
  refine zHide (fun Q9 hQ9 => ?_)
  have hx := C.1
  have hb := C.2.1
  have hl : lv_has ls 4 [(0, .ref mo), (1, .int at_)] := hl
  have hok := zRr_ok hA
  refine zAn6 (id hA) ?_
  intro hA1 hA6 hA7 hA8 hA9 hA10
  replace hA7 : zHd _ := hA7
  have hka : zHd _ := hok a.1 hA1.2.2.2.2
  have hkb := hka.1
  have hkc := hka.2.1
  have hT4 := pTk_le hok hA1.2.2.2.2
  have hR0 : 0 ≤ (f_read 0).toInt ∧ (f_read 0).toInt ≤ 7 := hR.1
  refine zMt2 (T := T) 17 (fun (gb : Nat → Int32) (b : pS) => [[zO11 mo m_all m_has i_size i_next i_where i_token i_number i_word i_wrong i_farCrossing m_read i_z0 i_crossings i_inns m_posts m_shut m_here i_steps i_done i_at i_gone m_was m_came m_seenAt m_rowWorth m_farBy m_used i_everywhere i_again0 i_d0 i_never i_firstCame i_longRun i_moved i_crowd i_l0 i_fitMany i_fitLeast i_fitMost m_fitPost m_fitEnd m_keptPosts i_x0], [zAr T 0 m_all 3952 gb], [zAr T 0 m_read 121 f_read]]) (fun (gb : Nat → Int32) (b : pS) => [(0, .ref mo), (1, .int at_)]) (fun (gb : Nat → Int32) (b : pS) => b = pDB 7 at_ f_read a ∧ zRr k n i_size i_next i_where i_token i_number i_word i_wrong i_farCrossing gb b ∧ zPal f_all gb) G hl ?_ (fun jn_17 => ?_)
  · intro gb b hI9 H locs ls G hl
    replace hI9 : b = pDB 7 at_ f_read a ∧ zRr k n i_size i_next i_where i_token i_number i_word i_wrong i_farCrossing gb b ∧ zPal f_all gb := hI9
    refine zAn3 hI9 ?_
    intro hbq hAb hpgb
    clear hI9
    replace G : zS T A s.heap s [[zO11 mo m_all m_has i_size i_next i_where i_token i_number i_word i_wrong i_farCrossing m_read i_z0 i_crossings i_inns m_posts m_shut m_here i_steps i_done i_at i_gone m_was m_came m_seenAt m_rowWorth m_farBy m_used i_everywhere i_again0 i_d0 i_never i_firstCame i_longRun i_moved i_crowd i_l0 i_fitMany i_fitLeast i_fitMost m_fitPost m_fitEnd m_keptPosts i_x0], [zAr T 0 m_all 3952 gb], [zAr T 0 m_read 121 f_read]] _ _ := G
    replace hl : lv_has ls 4 [(0, .ref mo), (1, .int at_)] := hl
    refine lv_iconst (v := 0) hx hb dX12_crossTold_17 (by decide) ?_
    refine lv_istore_n (lv' := [(2, .int 0), (0, .ref mo), (1, .int at_)]) hx hb dX12_crossTold_18 rfl hl (by decide) rfl (fun ls hl => ?_)
    refine z_lp12 (T := T) 19 (fun (xn : Int32) (xw : Int32) (xt : Int32) (xu : Int32) (xo : Int32) (xr : Int32) (xf : Int32) (ga : Nat → Int32) (gr : Nat → Int32) (nn : Nat) (A9 : pS) (j : Nat) => [[zO11 mo m_all m_has i_size xn xw xt xu xo xr xf m_read i_z0 i_crossings i_inns m_posts m_shut m_here i_steps i_done i_at i_gone m_was m_came m_seenAt m_rowWorth m_farBy m_used i_everywhere i_again0 i_d0 i_never i_firstCame i_longRun i_moved i_crowd i_l0 i_fitMany i_fitLeast i_fitMost m_fitPost m_fitEnd m_keptPosts i_x0], [zAr T 0 m_all 3952 ga], [zAr T 0 m_read 121 gr]]) (fun (xn : Int32) (xw : Int32) (xt : Int32) (xu : Int32) (xo : Int32) (xr : Int32) (xf : Int32) (ga : Nat → Int32) (gr : Nat → Int32) (nn : Nat) (A9 : pS) (j : Nat) => [(2, .int (nI nn)), (0, .ref mo), (1, .int at_)]) (fun (xn : Int32) (xw : Int32) (xt : Int32) (xu : Int32) (xo : Int32) (xr : Int32) (xf : Int32) (ga : Nat → Int32) (gr : Nat → Int32) (nn : Nat) (A9 : pS) (j : Nat) => nn ≤ 4 ∧ zLF gr ∧ i_next.toInt ≤ xn.toInt ∧ xn.toInt ≤ i_size.toInt ∧ zPal f_all ga ∧ zRr k n i_size xn xw xt xu xo xr xf ga A9 ∧ nn = min j 4 ∧ j ≤ A9.1 ∧ pRoads k (601 - j) (min j 4) A9 gr = pRoads k 601 0 b f_read ∧ gr 0 = f_read 0) (fun (xn : Int32) (xw : Int32) (xt : Int32) (xu : Int32) (xo : Int32) (xr : Int32) (xf : Int32) (ga : Nat → Int32) (gr : Nat → Int32) (nn : Nat) (A9 : pS) (j : Nat) => zMu xr xt xn i_size) ?_ i_next i_where i_token i_number i_word i_wrong i_farCrossing gb f_read 0 b 0 (show 0 ≤ 4 ∧ zLF f_read ∧ i_next.toInt ≤ i_next.toInt ∧ i_next.toInt ≤ i_size.toInt ∧ zPal f_all gb ∧ zRr k n i_size i_next i_where i_token i_number i_word i_wrong i_farCrossing gb b ∧ 0 = min 0 4 ∧ 0 ≤ b.1 ∧ pRoads k (601 - 0) (min 0 4) b f_read = pRoads k 601 0 b f_read ∧ f_read 0 = f_read 0 from ⟨by omega, hR, by omega, by omega, hpgb, hAb, by omega, (Nat.zero_le _), rfl, rfl⟩) G (lv_sub hl [0, 1, 2] rfl)
    intro xn xw xt xu xo xr xf ga gr nn A9 j hI9 ih_19 H locs ls G hl
    replace hI9 : nn ≤ 4 ∧ zLF gr ∧ i_next.toInt ≤ xn.toInt ∧ xn.toInt ≤ i_size.toInt ∧ zPal f_all ga ∧ zRr k n i_size xn xw xt xu xo xr xf ga A9 ∧ nn = min j 4 ∧ j ≤ A9.1 ∧ pRoads k (601 - j) (min j 4) A9 gr = pRoads k 601 0 b f_read ∧ gr 0 = f_read 0 := hI9
    refine zAn10 hI9 ?_
    intro hn hL hx1 hx2 hpal hRA hnn hpj hEq hf0
    clear hI9
    replace G : zS T A s.heap s [[zO11 mo m_all m_has i_size xn xw xt xu xo xr xf m_read i_z0 i_crossings i_inns m_posts m_shut m_here i_steps i_done i_at i_gone m_was m_came m_seenAt m_rowWorth m_farBy m_used i_everywhere i_again0 i_d0 i_never i_firstCame i_longRun i_moved i_crowd i_l0 i_fitMany i_fitLeast i_fitMost m_fitPost m_fitEnd m_keptPosts i_x0], [zAr T 0 m_all 3952 ga], [zAr T 0 m_read 121 gr]] _ _ := G
    replace hl : lv_has ls 4 [(2, .int (nI nn)), (0, .ref mo), (1, .int at_)] := hl
    refine lv_aload_n hx hb dX12_crossTold_19 rfl (lv_at hl 1 rfl) ?_
    have hL0 : 0 ≤ (gr 0).toInt ∧ (gr 0).toInt ≤ 7 := hL.1
    have hokA := zRr_ok hRA
    refine zAn6 (id hRA) ?_
    intro hA1A hA6A hA7A hA8A hA9A hA10A
    replace hA7A : zHd _ := hA7A
    have hkaA : zHd _ := hokA A9.1 hA1A.2.2.2.2
    have hkbA := hkaA.1
    have hkcA := hkaA.2.1
    have hT4A := pTk_le hokA hA1A.2.2.2.2
    have hnn6 := hA1A.2.2.1
    have hpn9 := hA1A.2.2.2.2
    refine z_get C G clX12 0 rfl 8 (by decide) m_fl_RX12_104 rfl dX12_crossTold_20 ?_
    refine lv_if_ne (tgt := 104) hx hb dX12_crossTold_23 (by decide) (fun c_1 => ?_) (fun c_1 => ?_)
    · have c_1n : ¬ xr.toInt = (0 : Int) := fun q => c_1 ((fa_eq _ _).mpr q)
      have hpc := pCross_e (w := at_) hbq (hEq.symm.trans (pRoads_x (fun z9 => by first | (exact absurd z9.1 (by rw [← hA6A]; omega)) | omega)))
      have hf0i : (gr 0).toInt = (f_read 0).toInt := by rw [hf0]
      refine lv_aload_n hx hb dX12_crossTold_104 rfl (lv_at hl 1 rfl) ?_
      refine z_get C G clX12 0 rfl 10 (by decide) m_fl_RX12_17 rfl dX12_crossTold_105 ?_
      refine lv_iconst (v := 0) hx hb dX12_crossTold_108 (by decide) ?_
      refine z_ild C G 2 rfl (vp_in_nI (n := 0) (by decide) (by decide)) dX12_crossTold_109 ?_
      refine lv_topi (fun v_2 ev_2 => ?_)
      rw [show ((0 : Int32).toNatClampNeg) = 0 from rfl] at ev_2
      subst ev_2
      refine lv_bipush (v := 7) hx hb dX12_crossTold_110 (by decide) ?_
      refine lv_icmp_lt (tgt := 116) hx hb dX12_crossTold_112 (by decide) (fun c_3 => ?_) (fun c_3 => ?_)
      · have c_3n : (gr 0).toInt < (7 : Int) := (fa_lt _ _).mp c_3
        refine lv_aload_n hx hb dX12_crossTold_116 rfl (lv_at hl 1 rfl) ?_
        refine z_get C G clX12 0 rfl 10 (by decide) m_fl_RX12_17 rfl dX12_crossTold_117 ?_
        refine lv_iconst (v := 2) hx hb dX12_crossTold_120 (by decide) ?_
        refine lv_aload_n hx hb dX12_crossTold_121 rfl (lv_at hl 1 rfl) ?_
        refine z_get C G clX12 0 rfl 10 (by decide) m_fl_RX12_17 rfl dX12_crossTold_122 ?_
        refine lv_iconst (v := 0) hx hb dX12_crossTold_125 (by decide) ?_
        refine z_ild C G 2 rfl (vp_in_nI (n := 0) (by decide) (by decide)) dX12_crossTold_126 ?_
        refine lv_topi (fun v_4 ev_4 => ?_)
        rw [show ((0 : Int32).toNatClampNeg) = 0 from rfl] at ev_4
        subst ev_4
        refine lv_iadd hx hb dX12_crossTold_127 ?_
        refine lv_topi (fun y_5 ey_5 => ?_)
        have ey_5i : y_5.toInt = (2 : Int) + (gr 0).toInt := by rw [ey_5]; exact z_iaddI (x := (2 : Int32)) (y := (gr 0)) (by show -2147483648 ≤ (2 : Int) + (gr 0).toInt; omega) (by show (2 : Int) + (gr 0).toInt < 2147483648; omega)
        refine lv_iload_n hx hb dX12_crossTold_128 rfl (lv_at hl 0 rfl) ?_
        refine z_ist C G 2 rfl (vp_in_iff.mpr ⟨by omega, by omega⟩) dX12_crossTold_129 (fun H locs G => ?_)
        have G : zS T A s.heap s [[zO11 mo m_all m_has i_size xn xw xt xu xo xr xf m_read i_z0 i_crossings i_inns m_posts m_shut m_here i_steps i_done i_at i_gone m_was m_came m_seenAt m_rowWorth m_farBy m_used i_everywhere i_again0 i_d0 i_never i_firstCame i_longRun i_moved i_crowd i_l0 i_fitMany i_fitLeast i_fitMost m_fitPost m_fitEnd m_keptPosts i_x0], [zAr T 0 m_all 3952 ga], [zAr T 0 m_read 121 (upd gr y_5.toNatClampNeg (nI nn))]] _ _ := G
        refine lv_aload_n hx hb dX12_crossTold_130 rfl (lv_at hl 1 rfl) ?_
        refine z_get C G clX12 0 rfl 10 (by decide) m_fl_RX12_17 rfl dX12_crossTold_131 ?_
        refine lv_iconst (v := 0) hx hb dX12_crossTold_134 (by decide) ?_
        refine lv_dup2_11 hx hb dX12_crossTold_135 rfl rfl ?_
        refine z_ild C G 2 rfl (vp_in_nI (n := 0) (by decide) (by decide)) dX12_crossTold_136 ?_
        refine lv_topi (fun v_6 ev_6 => ?_)
        rw [show ((0 : Int32).toNatClampNeg) = 0 from rfl] at ev_6
        subst ev_6
        have hcl_y_5 := z_clI (x := y_5) (by omega)
        rw [show (upd gr y_5.toNatClampNeg (nI nn)) 0 = gr 0 from by unfold upd; rw [if_neg (by omega)]]
        refine lv_iconst (v := 1) hx hb dX12_crossTold_137 (by decide) ?_
        refine lv_iadd hx hb dX12_crossTold_138 ?_
        refine lv_topi (fun y_7 ey_7 => ?_)
        have ey_7i : y_7.toInt = (gr 0).toInt + (1 : Int) := by rw [ey_7]; exact z_iaddI (x := (gr 0)) (y := (1 : Int32)) (by show -2147483648 ≤ (gr 0).toInt + (1 : Int); omega) (by show (gr 0).toInt + (1 : Int) < 2147483648; omega)
        refine z_ist C G 2 rfl (vp_in_nI (n := 0) (by decide) (by decide)) dX12_crossTold_139 (fun H locs G => ?_)
        have G : zS T A s.heap s [[zO11 mo m_all m_has i_size xn xw xt xu xo xr xf m_read i_z0 i_crossings i_inns m_posts m_shut m_here i_steps i_done i_at i_gone m_was m_came m_seenAt m_rowWorth m_farBy m_used i_everywhere i_again0 i_d0 i_never i_firstCame i_longRun i_moved i_crowd i_l0 i_fitMany i_fitLeast i_fitMost m_fitPost m_fitEnd m_keptPosts i_x0], [zAr T 0 m_all 3952 ga], [zAr T 0 m_read 121 (upd (upd gr y_5.toNatClampNeg (nI nn)) 0 y_7)]] _ _ := G
        exact z_back hQ9 (z_vret C hr hlocks G (Nat.le_of_ble_eq_true rfl) (Nat.le_of_ble_eq_true rfl) dX12_crossTold_140 ⟨xn, xw, xt, xu, xo, xr, xf, ga, (upd (upd gr y_5.toNatClampNeg (nI nn)) 0 y_7), rfl, (by first | with_reducible assumption | omega | trivial | assumption), (by first | with_reducible assumption | omega | trivial | assumption), (by first | with_reducible assumption | omega | trivial | assumption), hpal, (zLF_upd (k := 0) (v := y_7) (zLF_upd (k := y_5.toNatClampNeg) (v := (nI nn)) (by assumption) (by have q9 := z_clI (x := y_5) (by omega); have t9 := nI_toInt (n := nn) (by omega); omega) (by have q9 := z_clI (x := y_5) (by omega); have t9 := nI_toInt (n := nn) (by omega); omega) (by have q9 := z_clI (x := y_5) (by omega); have t9 := nI_toInt (n := nn) (by omega); omega) (by have q9 := z_clI (x := y_5) (by omega); have t9 := nI_toInt (n := nn) (by omega); omega) (by have q9 := z_clI (x := y_5) (by omega); have t9 := nI_toInt (n := nn) (by omega); omega)) (by omega) (by omega) (by omega) (by omega) (by omega)), (by rw [hpc]; exact hRA), (by rw [hpc]; show _ = (if 7 ≤ (f_read 0).toInt then gr else upd (upd gr (2 + (gr 0).toInt.toNat) (nI (min j 4))) 0 (gr 0 + 1)); rw [if_neg (by omega), ← hnn, ey_7]; exact congrArg (fun q9 => upd (upd gr q9 (nI nn)) 0 (gr 0 + 1)) (by have q9 := z_clI (x := y_5) (by omega); omega))⟩)
      · have c_3n : ¬ (gr 0).toInt < (7 : Int) := fun q => c_3 ((fa_lt _ _).mpr q)
        exact z_back hQ9 (z_vret C hr hlocks G (Nat.le_of_ble_eq_true rfl) (Nat.le_of_ble_eq_true rfl) dX12_crossTold_115 ⟨xn, xw, xt, xu, xo, xr, xf, ga, gr, rfl, (by first | with_reducible assumption | omega | trivial | assumption), (by first | with_reducible assumption | omega | trivial | assumption), (by first | with_reducible assumption | omega | trivial | assumption), hpal, (by first | with_reducible assumption | omega | trivial | assumption), (by rw [hpc]; exact hRA), (by rw [hpc]; exact (if_pos (by omega)).symm)⟩)
    · have c_1n : xr.toInt = (0 : Int) := (fa_eq _ _).mp c_1
      have hwA : A9.2.1.toInt = 0 := by rw [← hA6A]; omega
      refine zAn5 (hA7A hwA) ?_
      intro t1A t2A t3A t4A t5A
      replace t4A : zHd _ := t4A
      replace t5A : zHd _ := t5A
      have t3iA : xt.toInt = (pTk k A9.1 : Int) := by rw [t3A]; exact nI_toInt (by omega)
      refine lv_aload_n hx hb dX12_crossTold_26 rfl (lv_at hl 1 rfl) ?_
      refine z_get C G clX12 0 rfl 5 (by decide) m_fl_RX12_80 rfl dX12_crossTold_27 ?_
      refine lv_iconst (v := 1) hx hb dX12_crossTold_30 (by decide) ?_
      refine lv_icmp_ne (tgt := 104) hx hb dX12_crossTold_31 (by decide) (fun c_8 => ?_) (fun c_8 => ?_)
      · have c_8n : ¬ xt.toInt = (1 : Int) := fun q => c_8 ((fa_eq _ _).mpr q)
        have hpc := pCross_e (w := at_) hbq (hEq.symm.trans (pRoads_x (fun z9 => by first | (exact absurd z9.1 (by rw [← hA6A]; omega)) | omega)))
        have hf0i : (gr 0).toInt = (f_read 0).toInt := by rw [hf0]
        refine lv_aload_n hx hb dX12_crossTold_104 rfl (lv_at hl 1 rfl) ?_
        refine z_get C G clX12 0 rfl 10 (by decide) m_fl_RX12_17 rfl dX12_crossTold_105 ?_
        refine lv_iconst (v := 0) hx hb dX12_crossTold_108 (by decide) ?_
        refine z_ild C G 2 rfl (vp_in_nI (n := 0) (by decide) (by decide)) dX12_crossTold_109 ?_
        refine lv_topi (fun v_9 ev_9 => ?_)
        rw [show ((0 : Int32).toNatClampNeg) = 0 from rfl] at ev_9
        subst ev_9
        refine lv_bipush (v := 7) hx hb dX12_crossTold_110 (by decide) ?_
        refine lv_icmp_lt (tgt := 116) hx hb dX12_crossTold_112 (by decide) (fun c_10 => ?_) (fun c_10 => ?_)
        · have c_10n : (gr 0).toInt < (7 : Int) := (fa_lt _ _).mp c_10
          refine lv_aload_n hx hb dX12_crossTold_116 rfl (lv_at hl 1 rfl) ?_
          refine z_get C G clX12 0 rfl 10 (by decide) m_fl_RX12_17 rfl dX12_crossTold_117 ?_
          refine lv_iconst (v := 2) hx hb dX12_crossTold_120 (by decide) ?_
          refine lv_aload_n hx hb dX12_crossTold_121 rfl (lv_at hl 1 rfl) ?_
          refine z_get C G clX12 0 rfl 10 (by decide) m_fl_RX12_17 rfl dX12_crossTold_122 ?_
          refine lv_iconst (v := 0) hx hb dX12_crossTold_125 (by decide) ?_
          refine z_ild C G 2 rfl (vp_in_nI (n := 0) (by decide) (by decide)) dX12_crossTold_126 ?_
          refine lv_topi (fun v_11 ev_11 => ?_)
          rw [show ((0 : Int32).toNatClampNeg) = 0 from rfl] at ev_11
          subst ev_11
          refine lv_iadd hx hb dX12_crossTold_127 ?_
          refine lv_topi (fun y_12 ey_12 => ?_)
          have ey_12i : y_12.toInt = (2 : Int) + (gr 0).toInt := by rw [ey_12]; exact z_iaddI (x := (2 : Int32)) (y := (gr 0)) (by show -2147483648 ≤ (2 : Int) + (gr 0).toInt; omega) (by show (2 : Int) + (gr 0).toInt < 2147483648; omega)
          refine lv_iload_n hx hb dX12_crossTold_128 rfl (lv_at hl 0 rfl) ?_
          refine z_ist C G 2 rfl (vp_in_iff.mpr ⟨by omega, by omega⟩) dX12_crossTold_129 (fun H locs G => ?_)
          have G : zS T A s.heap s [[zO11 mo m_all m_has i_size xn xw xt xu xo xr xf m_read i_z0 i_crossings i_inns m_posts m_shut m_here i_steps i_done i_at i_gone m_was m_came m_seenAt m_rowWorth m_farBy m_used i_everywhere i_again0 i_d0 i_never i_firstCame i_longRun i_moved i_crowd i_l0 i_fitMany i_fitLeast i_fitMost m_fitPost m_fitEnd m_keptPosts i_x0], [zAr T 0 m_all 3952 ga], [zAr T 0 m_read 121 (upd gr y_12.toNatClampNeg (nI nn))]] _ _ := G
          refine lv_aload_n hx hb dX12_crossTold_130 rfl (lv_at hl 1 rfl) ?_
          refine z_get C G clX12 0 rfl 10 (by decide) m_fl_RX12_17 rfl dX12_crossTold_131 ?_
          refine lv_iconst (v := 0) hx hb dX12_crossTold_134 (by decide) ?_
          refine lv_dup2_11 hx hb dX12_crossTold_135 rfl rfl ?_
          refine z_ild C G 2 rfl (vp_in_nI (n := 0) (by decide) (by decide)) dX12_crossTold_136 ?_
          refine lv_topi (fun v_13 ev_13 => ?_)
          rw [show ((0 : Int32).toNatClampNeg) = 0 from rfl] at ev_13
          subst ev_13
          have hcl_y_12 := z_clI (x := y_12) (by omega)
          rw [show (upd gr y_12.toNatClampNeg (nI nn)) 0 = gr 0 from by unfold upd; rw [if_neg (by omega)]]
          refine lv_iconst (v := 1) hx hb dX12_crossTold_137 (by decide) ?_
          refine lv_iadd hx hb dX12_crossTold_138 ?_
          refine lv_topi (fun y_14 ey_14 => ?_)
          have ey_14i : y_14.toInt = (gr 0).toInt + (1 : Int) := by rw [ey_14]; exact z_iaddI (x := (gr 0)) (y := (1 : Int32)) (by show -2147483648 ≤ (gr 0).toInt + (1 : Int); omega) (by show (gr 0).toInt + (1 : Int) < 2147483648; omega)
          refine z_ist C G 2 rfl (vp_in_nI (n := 0) (by decide) (by decide)) dX12_crossTold_139 (fun H locs G => ?_)
          have G : zS T A s.heap s [[zO11 mo m_all m_has i_size xn xw xt xu xo xr xf m_read i_z0 i_crossings i_inns m_posts m_shut m_here i_steps i_done i_at i_gone m_was m_came m_seenAt m_rowWorth m_farBy m_used i_everywhere i_again0 i_d0 i_never i_firstCame i_longRun i_moved i_crowd i_l0 i_fitMany i_fitLeast i_fitMost m_fitPost m_fitEnd m_keptPosts i_x0], [zAr T 0 m_all 3952 ga], [zAr T 0 m_read 121 (upd (upd gr y_12.toNatClampNeg (nI nn)) 0 y_14)]] _ _ := G
          exact z_back hQ9 (z_vret C hr hlocks G (Nat.le_of_ble_eq_true rfl) (Nat.le_of_ble_eq_true rfl) dX12_crossTold_140 ⟨xn, xw, xt, xu, xo, xr, xf, ga, (upd (upd gr y_12.toNatClampNeg (nI nn)) 0 y_14), rfl, (by first | with_reducible assumption | omega | trivial | assumption), (by first | with_reducible assumption | omega | trivial | assumption), (by first | with_reducible assumption | omega | trivial | assumption), hpal, (zLF_upd (k := 0) (v := y_14) (zLF_upd (k := y_12.toNatClampNeg) (v := (nI nn)) (by assumption) (by have q9 := z_clI (x := y_12) (by omega); have t9 := nI_toInt (n := nn) (by omega); omega) (by have q9 := z_clI (x := y_12) (by omega); have t9 := nI_toInt (n := nn) (by omega); omega) (by have q9 := z_clI (x := y_12) (by omega); have t9 := nI_toInt (n := nn) (by omega); omega) (by have q9 := z_clI (x := y_12) (by omega); have t9 := nI_toInt (n := nn) (by omega); omega) (by have q9 := z_clI (x := y_12) (by omega); have t9 := nI_toInt (n := nn) (by omega); omega)) (by omega) (by omega) (by omega) (by omega) (by omega)), (by rw [hpc]; exact hRA), (by rw [hpc]; show _ = (if 7 ≤ (f_read 0).toInt then gr else upd (upd gr (2 + (gr 0).toInt.toNat) (nI (min j 4))) 0 (gr 0 + 1)); rw [if_neg (by omega), ← hnn, ey_14]; exact congrArg (fun q9 => upd (upd gr q9 (nI nn)) 0 (gr 0 + 1)) (by have q9 := z_clI (x := y_12) (by omega); omega))⟩)
        · have c_10n : ¬ (gr 0).toInt < (7 : Int) := fun q => c_10 ((fa_lt _ _).mpr q)
          exact z_back hQ9 (z_vret C hr hlocks G (Nat.le_of_ble_eq_true rfl) (Nat.le_of_ble_eq_true rfl) dX12_crossTold_115 ⟨xn, xw, xt, xu, xo, xr, xf, ga, gr, rfl, (by first | with_reducible assumption | omega | trivial | assumption), (by first | with_reducible assumption | omega | trivial | assumption), (by first | with_reducible assumption | omega | trivial | assumption), hpal, (by first | with_reducible assumption | omega | trivial | assumption), (by rw [hpc]; exact hRA), (by rw [hpc]; exact (if_pos (by omega)).symm)⟩)
      · have c_8n : xt.toInt = (1 : Int) := (fa_eq _ _).mp c_8
        have htA : pTk k A9.1 = 1 := by omega
        have hst := pStep (f := gr) (g := f_read) hokA hpn9 hwA htA hpj hf0
        refine zMt1 (T := T) 48 (fun (gc : Nat → Int32) => [[zO11 mo m_all m_has i_size xn xw xt xu xo xr xf m_read i_z0 i_crossings i_inns m_posts m_shut m_here i_steps i_done i_at i_gone m_was m_came m_seenAt m_rowWorth m_farBy m_used i_everywhere i_again0 i_d0 i_never i_firstCame i_longRun i_moved i_crowd i_l0 i_fitMany i_fitLeast i_fitMost m_fitPost m_fitEnd m_keptPosts i_x0], [zAr T 0 m_all 3952 gc], [zAr T 0 m_read 121 gr]]) (fun (gc : Nat → Int32) => [(2, .int (nI nn)), (0, .ref mo), (1, .int at_)]) (fun (gc : Nat → Int32) => zRr k n i_size xn xw xt xu xo xr xf gc (pAt k j A9) ∧ zPal f_all gc) G hl ?_ (fun jn_48 => ?_)
        · intro gc hI9 H locs ls G hl
          replace hI9 : zRr k n i_size xn xw xt xu xo xr xf gc (pAt k j A9) ∧ zPal f_all gc := hI9
          refine zAn2 hI9 ?_
          intro hX hpgc
          clear hI9
          replace G : zS T A s.heap s [[zO11 mo m_all m_has i_size xn xw xt xu xo xr xf m_read i_z0 i_crossings i_inns m_posts m_shut m_here i_steps i_done i_at i_gone m_was m_came m_seenAt m_rowWorth m_farBy m_used i_everywhere i_again0 i_d0 i_never i_firstCame i_longRun i_moved i_crowd i_l0 i_fitMany i_fitLeast i_fitMost m_fitPost m_fitEnd m_keptPosts i_x0], [zAr T 0 m_all 3952 gc], [zAr T 0 m_read 121 gr]] _ _ := G
          replace hl : lv_has ls 4 [(2, .int (nI nn)), (0, .ref mo), (1, .int at_)] := hl
          refine lv_aload_n hx hb dX12_crossTold_48 rfl (lv_at hl 1 rfl) ?_
          refine z_Vi (bc := [[zO11 mo m_all m_has i_size xn xw xt xu xo xr xf m_read i_z0 i_crossings i_inns m_posts m_shut m_here i_steps i_done i_at i_gone m_was m_came m_seenAt m_rowWorth m_farBy m_used i_everywhere i_again0 i_d0 i_never i_firstCame i_longRun i_moved i_crowd i_l0 i_fitMany i_fitLeast i_fitMost m_fitPost m_fitEnd m_keptPosts i_x0], [zAr T 0 m_all 3952 gc]]) (br := [[zAr T 0 m_read 121 gr]]) (As := []) (rest := []) C G (c_fm_crossingTold l T mo m_all m_has i_size xn xw xt xu xo xr xf m_read i_z0 i_crossings i_inns m_posts m_shut m_here i_steps i_done i_at i_gone m_was m_came m_seenAt m_rowWorth m_farBy m_used i_everywhere i_again0 i_d0 i_never i_firstCame i_longRun i_moved i_crowd i_l0 i_fitMany i_fitLeast i_fitMost m_fitPost m_fitEnd m_keptPosts i_x0 gc k n (pAt k j A9) (by first | with_reducible assumption | with_reducible rfl | omega | assumption | rfl) (by first | with_reducible assumption | with_reducible rfl | omega | assumption | rfl) (by first | with_reducible assumption | with_reducible rfl | omega | assumption | rfl) hX) (kV_RX12_129 C.2.2.2.2 (Nat.le_of_ble_eq_true rfl) (Nat.le_of_ble_eq_true rfl)) [0, 1] [0, 0] rfl rfl (ci := 11) (qc := (RX12, TX12, 43)) rfl rfl (List.mem_flatten.mpr ⟨_, List.mem_of_getElem? (i := 0) rfl, List.mem_cons_self⟩) rfl rfl hl.1 dX12_crossTold_49 (Nat.le_of_ble_eq_true rfl) (Nat.le_of_ble_eq_true rfl) (fun r_32 b1 H locs hw G => ?_)
          refine zEx8 hw ?_
          intro j_next_15 j_where_16 j_token_17 j_number_18 j_word_19 j_wrong_20 j_farCrossing_21 g_all_22
          refine zCu10 ?_
          intro hbs9 h_23 h_24 h_25 h_26 h_27 h_28 h_29 h_30 h_31
          clear hw
          subst hbs9
          have G : zS T A s.heap s [[zAr T 0 m_read 121 gr], [zO11 mo m_all m_has i_size j_next_15 j_where_16 j_token_17 j_number_18 j_word_19 j_wrong_20 j_farCrossing_21 m_read i_z0 i_crossings i_inns m_posts m_shut m_here i_steps i_done i_at i_gone m_was m_came m_seenAt m_rowWorth m_farBy m_used i_everywhere i_again0 i_d0 i_never i_firstCame i_longRun i_moved i_crowd i_l0 i_fitMany i_fitLeast i_fitMost m_fitPost m_fitEnd m_keptPosts i_x0], [zAr T 0 m_all 3952 g_all_22]] _ _ := G
          refine lv_istore_n (lv' := [(3, .int r_32), (2, .int (nI nn)), (0, .ref mo), (1, .int at_)]) hx hb dX12_crossTold_52 rfl hl (by decide) rfl (fun ls hl => ?_)
          refine zMt1 (T := T) 88 (fun (gx : Nat → Int32) => [[zAr T 0 m_read 121 gx], [zO11 mo m_all m_has i_size j_next_15 j_where_16 j_token_17 j_number_18 j_word_19 j_wrong_20 j_farCrossing_21 m_read i_z0 i_crossings i_inns m_posts m_shut m_here i_steps i_done i_at i_gone m_was m_came m_seenAt m_rowWorth m_farBy m_used i_everywhere i_again0 i_d0 i_never i_firstCame i_longRun i_moved i_crowd i_l0 i_fitMany i_fitLeast i_fitMost m_fitPost m_fitEnd m_keptPosts i_x0], [zAr T 0 m_all 3952 g_all_22]]) (fun (gx : Nat → Int32) => [(3, .int r_32), (2, .int (nI nn)), (0, .ref mo), (1, .int at_)]) (fun (gx : Nat → Int32) => gx = pRow k j A9 gr ∧ zLF gx) G hl ?_ (fun jn_88 => ?_)
          · intro gx hI9 H locs ls G hl
            replace hI9 : gx = pRow k j A9 gr ∧ zLF gx := hI9
            refine zAn2 hI9 ?_
            intro hrow hLx
            clear hI9
            replace G : zS T A s.heap s [[zAr T 0 m_read 121 gx], [zO11 mo m_all m_has i_size j_next_15 j_where_16 j_token_17 j_number_18 j_word_19 j_wrong_20 j_farCrossing_21 m_read i_z0 i_crossings i_inns m_posts m_shut m_here i_steps i_done i_at i_gone m_was m_came m_seenAt m_rowWorth m_farBy m_used i_everywhere i_again0 i_d0 i_never i_firstCame i_longRun i_moved i_crowd i_l0 i_fitMany i_fitLeast i_fitMost m_fitPost m_fitEnd m_keptPosts i_x0], [zAr T 0 m_all 3952 g_all_22]] _ _ := G
            replace hl : lv_has ls 4 [(3, .int r_32), (2, .int (nI nn)), (0, .ref mo), (1, .int at_)] := hl
            refine lv_iload_n hx hb dX12_crossTold_88 rfl (lv_at hl 1 rfl) ?_
            refine lv_iconst (v := 4) hx hb dX12_crossTold_89 (by decide) ?_
            refine lv_icmp_ge (tgt := 99) hx hb dX12_crossTold_90 (by decide) (fun c_33 => ?_) (fun c_33 => ?_)
            · have c_33n : 4 ≤ nn := (nI_leI (a := 4) (b := nn) (by omega) (by omega)).mp c_33
              refine lv_iconst (v := 4) hx hb dX12_crossTold_99 (by decide) ?_
              refine lv_istore_n (lv' := [(2, .int 4), (3, .int r_32), (0, .ref mo), (1, .int at_)]) hx hb dX12_crossTold_100 rfl hl (by decide) rfl (fun ls hl => ?_)
              refine lv_goto (tgt := 19) hx hb dX12_crossTold_101 (by decide) ?_
              have G := G.sub (bs' := [[zO11 mo m_all m_has i_size j_next_15 j_where_16 j_token_17 j_number_18 j_word_19 j_wrong_20 j_farCrossing_21 m_read i_z0 i_crossings i_inns m_posts m_shut m_here i_steps i_done i_at i_gone m_was m_came m_seenAt m_rowWorth m_farBy m_used i_everywhere i_again0 i_d0 i_never i_firstCame i_longRun i_moved i_crowd i_l0 i_fitMany i_fitLeast i_fitMost m_fitPost m_fitEnd m_keptPosts i_x0], [zAr T 0 m_all 3952 g_all_22], [zAr T 0 m_read 121 gx]]) [1, 2, 0] rfl
              exact ih_19 j_next_15 j_where_16 j_token_17 j_number_18 j_word_19 j_wrong_20 j_farCrossing_21 g_all_22 gx 4 ((pCr k (pAt k j A9)).2) (j + 1) (show 4 ≤ 4 ∧ zLF gx ∧ i_next.toInt ≤ j_next_15.toInt ∧ j_next_15.toInt ≤ i_size.toInt ∧ zPal f_all g_all_22 ∧ zRr k n i_size j_next_15 j_where_16 j_token_17 j_number_18 j_word_19 j_wrong_20 j_farCrossing_21 g_all_22 ((pCr k (pAt k j A9)).2) ∧ 4 = min (j + 1) 4 ∧ (j + 1) ≤ ((pCr k (pAt k j A9)).2).1 ∧ pRoads k (601 - (j + 1)) (min (j + 1) 4) ((pCr k (pAt k j A9)).2) gx = pRoads k 601 0 b f_read ∧ gx 0 = f_read 0 from ⟨by omega, (by assumption), by omega, by omega, (hpgc.tr h_27), h_30, by omega, hst.2.1, (by rw [hrow]; exact pRoads_n (by omega) hwA htA hEq), (by rw [hrow]; exact hst.2.2)⟩) (show zMu j_wrong_20 j_token_17 j_next_15 i_size < zMu xr xt xn i_size from zMu_lt (by omega) (by omega) (by omega) (by omega)) _ _ ls G (lv_sub hl [0, 2, 3] rfl)
            · have c_33n : ¬ 4 ≤ nn := fun q => c_33 ((nI_leI (a := 4) (b := nn) (by omega) (by omega)).mpr q)
              refine lv_iload_n hx hb dX12_crossTold_93 rfl (lv_at hl 1 rfl) ?_
              refine lv_iconst (v := 1) hx hb dX12_crossTold_94 (by decide) ?_
              refine lv_iadd hx hb dX12_crossTold_95 ?_
              refine lv_topi (fun y_34 ey_34 => ?_)
              obtain rfl : y_34 = nI (nn + 1) := ey_34.trans (z_iaddn nn 1 rfl rfl)
              refine lv_goto (tgt := 100) hx hb dX12_crossTold_96 (by decide) ?_
              refine lv_istore_n (lv' := [(2, .int (nI (nn + 1))), (3, .int r_32), (0, .ref mo), (1, .int at_)]) hx hb dX12_crossTold_100 rfl hl (by decide) rfl (fun ls hl => ?_)
              refine lv_goto (tgt := 19) hx hb dX12_crossTold_101 (by decide) ?_
              have G := G.sub (bs' := [[zO11 mo m_all m_has i_size j_next_15 j_where_16 j_token_17 j_number_18 j_word_19 j_wrong_20 j_farCrossing_21 m_read i_z0 i_crossings i_inns m_posts m_shut m_here i_steps i_done i_at i_gone m_was m_came m_seenAt m_rowWorth m_farBy m_used i_everywhere i_again0 i_d0 i_never i_firstCame i_longRun i_moved i_crowd i_l0 i_fitMany i_fitLeast i_fitMost m_fitPost m_fitEnd m_keptPosts i_x0], [zAr T 0 m_all 3952 g_all_22], [zAr T 0 m_read 121 gx]]) [1, 2, 0] rfl
              exact ih_19 j_next_15 j_where_16 j_token_17 j_number_18 j_word_19 j_wrong_20 j_farCrossing_21 g_all_22 gx (nn + 1) ((pCr k (pAt k j A9)).2) (j + 1) (show (nn + 1) ≤ 4 ∧ zLF gx ∧ i_next.toInt ≤ j_next_15.toInt ∧ j_next_15.toInt ≤ i_size.toInt ∧ zPal f_all g_all_22 ∧ zRr k n i_size j_next_15 j_where_16 j_token_17 j_number_18 j_word_19 j_wrong_20 j_farCrossing_21 g_all_22 ((pCr k (pAt k j A9)).2) ∧ (nn + 1) = min (j + 1) 4 ∧ (j + 1) ≤ ((pCr k (pAt k j A9)).2).1 ∧ pRoads k (601 - (j + 1)) (min (j + 1) 4) ((pCr k (pAt k j A9)).2) gx = pRoads k 601 0 b f_read ∧ gx 0 = f_read 0 from ⟨by omega, (by assumption), by omega, by omega, (hpgc.tr h_27), h_30, by omega, hst.2.1, (by rw [hrow]; exact pRoads_n (by omega) hwA htA hEq), (by rw [hrow]; exact hst.2.2)⟩) (show zMu j_wrong_20 j_token_17 j_next_15 i_size < zMu xr xt xn i_size from zMu_lt (by omega) (by omega) (by omega) (by omega)) _ _ ls G (lv_sub hl [0, 2, 3] rfl)
          refine lv_aload_n hx hb dX12_crossTold_53 rfl (lv_at hl 2 rfl) ?_
          refine z_get C G clX12 1 rfl 10 (by decide) m_fl_RX12_17 rfl dX12_crossTold_54 ?_
          refine lv_iconst (v := 0) hx hb dX12_crossTold_57 (by decide) ?_
          refine z_ild C G 0 rfl (vp_in_nI (n := 0) (by decide) (by decide)) dX12_crossTold_58 ?_
          refine lv_topi (fun v_35 ev_35 => ?_)
          rw [show ((0 : Int32).toNatClampNeg) = 0 from rfl] at ev_35
          subst ev_35
          refine lv_bipush (v := 7) hx hb dX12_crossTold_59 (by decide) ?_
          refine lv_icmp_ge (tgt := 88) hx hb dX12_crossTold_61 (by decide) (fun c_36 => ?_) (fun c_36 => ?_)
          · have c_36n : (7 : Int) ≤ (gr 0).toInt := (fa_le _ _).mp c_36
            have hrow : gr = pRow k j A9 gr := pRow_n (by omega)
            exact jn_88 gr (show gr = pRow k j A9 gr ∧ zLF gr from ⟨hrow, (by assumption)⟩) _ _ ls G (lv_sub hl [0, 1, 2, 3] rfl)
          · have c_36n : ¬ (7 : Int) ≤ (gr 0).toInt := fun q => c_36 ((fa_le _ _).mpr q)
            refine lv_iload_n hx hb dX12_crossTold_64 rfl (lv_at hl 1 rfl) ?_
            refine lv_iconst (v := 4) hx hb dX12_crossTold_65 (by decide) ?_
            refine lv_icmp_ge (tgt := 88) hx hb dX12_crossTold_66 (by decide) (fun c_37 => ?_) (fun c_37 => ?_)
            · have c_37n : 4 ≤ nn := (nI_leI (a := 4) (b := nn) (by omega) (by omega)).mp c_37
              have hrow : gr = pRow k j A9 gr := pRow_n (by omega)
              exact jn_88 gr (show gr = pRow k j A9 gr ∧ zLF gr from ⟨hrow, (by assumption)⟩) _ _ ls G (lv_sub hl [0, 1, 2, 3] rfl)
            · have c_37n : ¬ 4 ≤ nn := fun q => c_37 ((nI_leI (a := 4) (b := nn) (by omega) (by omega)).mpr q)
              refine lv_aload_n hx hb dX12_crossTold_69 rfl (lv_at hl 2 rfl) ?_
              refine z_get C G clX12 1 rfl 10 (by decide) m_fl_RX12_17 rfl dX12_crossTold_70 ?_
              refine lv_bipush (v := 23) hx hb dX12_crossTold_73 (by decide) ?_
              refine lv_iconst (v := 4) hx hb dX12_crossTold_75 (by decide) ?_
              refine lv_aload_n hx hb dX12_crossTold_76 rfl (lv_at hl 2 rfl) ?_
              refine z_get C G clX12 1 rfl 10 (by decide) m_fl_RX12_17 rfl dX12_crossTold_77 ?_
              refine lv_iconst (v := 0) hx hb dX12_crossTold_80 (by decide) ?_
              refine z_ild C G 0 rfl (vp_in_nI (n := 0) (by decide) (by decide)) dX12_crossTold_81 ?_
              refine lv_topi (fun v_38 ev_38 => ?_)
              rw [show ((0 : Int32).toNatClampNeg) = 0 from rfl] at ev_38
              subst ev_38
              refine lv_imul hx hb dX12_crossTold_82 ?_
              refine lv_topi (fun y_39 ey_39 => ?_)
              have ey_39i : y_39.toInt = (4 : Int) * (gr 0).toInt := by rw [ey_39]; exact z_imulI (x := (4 : Int32)) (y := (gr 0)) (by show -2147483648 ≤ (4 : Int) * (gr 0).toInt; omega) (by show (4 : Int) * (gr 0).toInt < 2147483648; omega)
              refine lv_iadd hx hb dX12_crossTold_83 ?_
              refine lv_topi (fun y_40 ey_40 => ?_)
              have ey_40i : y_40.toInt = (23 : Int) + y_39.toInt := by rw [ey_40]; exact z_iaddI (x := (23 : Int32)) (y := y_39) (by show -2147483648 ≤ (23 : Int) + y_39.toInt; omega) (by show (23 : Int) + y_39.toInt < 2147483648; omega)
              refine lv_iload_n hx hb dX12_crossTold_84 rfl (lv_at hl 1 rfl) ?_
              refine lv_iadd hx hb dX12_crossTold_85 ?_
              refine lv_topi (fun y_41 ey_41 => ?_)
              have ey_41i : y_41.toInt = y_40.toInt + (nn : Int) := by rw [ey_41]; exact (z_iaddI (x := y_40) (y := (nI nn)) (by rw [nI_toInt (n := nn) (by omega)]; show -2147483648 ≤ y_40.toInt + (nn : Int); omega) (by rw [nI_toInt (n := nn) (by omega)]; show y_40.toInt + (nn : Int) < 2147483648; omega)).trans (by rw [nI_toInt (n := nn) (by omega)] <;> rfl)
              refine lv_iload_n hx hb dX12_crossTold_86 rfl (lv_at hl 0 rfl) ?_
              refine z_ist C G 0 rfl (vp_in_iff.mpr ⟨by omega, by omega⟩) dX12_crossTold_87 (fun H locs G => ?_)
              have G : zS T A s.heap s [[zAr T 0 m_read 121 (upd gr y_41.toNatClampNeg r_32)], [zO11 mo m_all m_has i_size j_next_15 j_where_16 j_token_17 j_number_18 j_word_19 j_wrong_20 j_farCrossing_21 m_read i_z0 i_crossings i_inns m_posts m_shut m_here i_steps i_done i_at i_gone m_was m_came m_seenAt m_rowWorth m_farBy m_used i_everywhere i_again0 i_d0 i_never i_firstCame i_longRun i_moved i_crowd i_l0 i_fitMany i_fitLeast i_fitMost m_fitPost m_fitEnd m_keptPosts i_x0], [zAr T 0 m_all 3952 g_all_22]] _ _ := G
              have hcl9 := z_clI (x := y_41) (by omega)
              have hrow : upd gr y_41.toNatClampNeg r_32 = pRow k j A9 gr := pRow_y (by omega) (by omega) (by omega) h_31
              exact jn_88 (upd gr y_41.toNatClampNeg r_32) (show (upd gr y_41.toNatClampNeg r_32) = pRow k j A9 gr ∧ zLF (upd gr y_41.toNatClampNeg r_32) from ⟨hrow, (zLF_upd (k := y_41.toNatClampNeg) (v := r_32) (by assumption) (by have q9 := z_clI (x := y_41) (by omega); omega) (by have q9 := z_clI (x := y_41) (by omega); omega) (by have q9 := z_clI (x := y_41) (by omega); omega) (by have q9 := z_clI (x := y_41) (by omega); omega) (by have q9 := z_clI (x := y_41) (by omega); omega))⟩) _ _ ls G (lv_sub hl [0, 1, 2, 3] rfl)
        refine lv_iload_n hx hb dX12_crossTold_34 rfl (lv_at hl 0 rfl) ?_
        refine lv_iconst (v := 4) hx hb dX12_crossTold_35 (by decide) ?_
        refine lv_icmp_ne (tgt := 48) hx hb dX12_crossTold_36 (by decide) (fun c_42 => ?_) (fun c_42 => ?_)
        · have c_42n : ¬ nn = 4 := fun q => c_42 ((nI_eq (a := nn) (b := 4) (by omega) (by omega)).mpr q)
          have hX : zRr k n i_size xn xw xt xu xo xr xf ga (pAt k j A9) := by rw [pAt_n (by omega)]; exact hRA
          exact jn_48 ga (show zRr k n i_size xn xw xt xu xo xr xf ga (pAt k j A9) ∧ zPal f_all ga from ⟨hX, hpal⟩) _ _ ls G (lv_sub hl [0, 1, 2] rfl)
        · have c_42n : nn = 4 := (nI_eq (a := nn) (b := 4) (by omega) (by omega)).mp c_42
          refine lv_aload_n hx hb dX12_crossTold_39 rfl (lv_at hl 1 rfl) ?_
          refine lv_iconst (v := 3) hx hb dX12_crossTold_40 (by decide) ?_
          refine lv_aload_n hx hb dX12_crossTold_41 rfl (lv_at hl 1 rfl) ?_
          refine z_get C G clX12 0 rfl 4 (by decide) m_fl_RX12_77 rfl dX12_crossTold_42 ?_
          refine z_Vv (bc := [[zO11 mo m_all m_has i_size xn xw xt xu xo xr xf m_read i_z0 i_crossings i_inns m_posts m_shut m_here i_steps i_done i_at i_gone m_was m_came m_seenAt m_rowWorth m_farBy m_used i_everywhere i_again0 i_d0 i_never i_firstCame i_longRun i_moved i_crowd i_l0 i_fitMany i_fitLeast i_fitMost m_fitPost m_fitEnd m_keptPosts i_x0], [zAr T 0 m_all 3952 ga]]) (br := [[zAr T 0 m_read 121 gr]]) (As := [.int 3, .int xw]) (rest := []) C G (c_fm_also l T mo m_all m_has i_size xn xw xt xu xo xr xf m_read i_z0 i_crossings i_inns m_posts m_shut m_here i_steps i_done i_at i_gone m_was m_came m_seenAt m_rowWorth m_farBy m_used i_everywhere i_again0 i_d0 i_never i_firstCame i_longRun i_moved i_crowd i_l0 i_fitMany i_fitLeast i_fitMost m_fitPost m_fitEnd m_keptPosts i_x0 ga 3 xw) (kV_RX12_115 C.2.2.2.2 (Nat.le_of_ble_eq_true rfl) (Nat.le_of_ble_eq_true rfl)) [0, 1] [0, 0] rfl rfl (ci := 11) (qc := (RX12, TX12, 43)) rfl rfl (List.mem_flatten.mpr ⟨_, List.mem_of_getElem? (i := 0) rfl, List.mem_cons_self⟩) rfl rfl hl.1 dX12_crossTold_45 (Nat.le_of_ble_eq_true rfl) (Nat.le_of_ble_eq_true rfl) (fun b1 H locs hw G => ?_)
          refine zEx1 hw ?_
          intro g_all_43
          refine zCu3 ?_
          intro hbs9 h_44 h_45
          clear hw
          subst hbs9
          have G : zS T A s.heap s [[zAr T 0 m_read 121 gr], [zO11 mo m_all m_has i_size xn xw xt xu xo xr xf m_read i_z0 i_crossings i_inns m_posts m_shut m_here i_steps i_done i_at i_gone m_was m_came m_seenAt m_rowWorth m_farBy m_used i_everywhere i_again0 i_d0 i_never i_firstCame i_longRun i_moved i_crowd i_l0 i_fitMany i_fitLeast i_fitMost m_fitPost m_fitEnd m_keptPosts i_x0], [zAr T 0 m_all 3952 g_all_43]] _ _ := G
          have h_45 : g_all_43 = (if ¬ xr.toInt = 0 ∨ (¬ (ga 5).toInt = 0 ∧ ((ga 6).toInt < xw.toInt ∨ ((ga 6).toInt = xw.toInt ∧ (ga 5).toInt ≤ (3 : Int)))) then ga else upd (upd ga 5 3) 6 xw) := h_45
          have hX : zRr k n i_size xn xw xt xu xo xr xf g_all_43 (pAt k j A9) := by rw [pAt_y (by omega), ← t2A]; exact zRr_also (kd := 3) (w := xw) hRA h_45
          have G := G.sub (bs' := [[zO11 mo m_all m_has i_size xn xw xt xu xo xr xf m_read i_z0 i_crossings i_inns m_posts m_shut m_here i_steps i_done i_at i_gone m_was m_came m_seenAt m_rowWorth m_farBy m_used i_everywhere i_again0 i_d0 i_never i_firstCame i_longRun i_moved i_crowd i_l0 i_fitMany i_fitLeast i_fitMost m_fitPost m_fitEnd m_keptPosts i_x0], [zAr T 0 m_all 3952 g_all_43], [zAr T 0 m_read 121 gr]]) [1, 2, 0] rfl
          exact jn_48 g_all_43 (show zRr k n i_size xn xw xt xu xo xr xf g_all_43 (pAt k j A9) ∧ zPal f_all g_all_43 from ⟨hX, (hpal.tr h_44)⟩) _ _ ls G (lv_sub hl [0, 1, 2] rfl)
  refine lv_aload_n hx hb dX12_crossTold_0 rfl (lv_at hl 0 rfl) ?_
  refine z_get C G clX12 0 rfl 10 (by decide) m_fl_RX12_17 rfl dX12_crossTold_1 ?_
  refine lv_iconst (v := 0) hx hb dX12_crossTold_4 (by decide) ?_
  refine z_ild C G 2 rfl (vp_in_nI (n := 0) (by decide) (by decide)) dX12_crossTold_5 ?_
  refine lv_topi (fun v_47 ev_47 => ?_)
  rw [show ((0 : Int32).toNatClampNeg) = 0 from rfl] at ev_47
  subst ev_47
  refine lv_bipush (v := 7) hx hb dX12_crossTold_6 (by decide) ?_
  refine lv_icmp_lt (tgt := 17) hx hb dX12_crossTold_8 (by decide) (fun c_48 => ?_) (fun c_48 => ?_)
  · have c_48n : (f_read 0).toInt < (7 : Int) := (fa_lt _ _).mp c_48
    obtain ⟨b, hbq⟩ : ∃ b, b = pDB 7 at_ f_read a := ⟨_, rfl⟩
    have hAb : zRr k n i_size i_next i_where i_token i_number i_word i_wrong i_farCrossing f_all b := by rw [hbq]; unfold pDB; rw [if_neg (by omega)]; exact hA
    exact jn_17 f_all b (show b = pDB 7 at_ f_read a ∧ zRr k n i_size i_next i_where i_token i_number i_word i_wrong i_farCrossing f_all b ∧ zPal f_all f_all from ⟨hbq, hAb, (zPal_rf _)⟩) _ _ ls G (lv_sub hl [0, 1] rfl)
  · have c_48n : ¬ (f_read 0).toInt < (7 : Int) := fun q => c_48 ((fa_lt _ _).mpr q)
    refine lv_aload_n hx hb dX12_crossTold_11 rfl (lv_at hl 0 rfl) ?_
    refine lv_iconst (v := 3) hx hb dX12_crossTold_12 (by decide) ?_
    refine lv_iload_n hx hb dX12_crossTold_13 rfl (lv_at hl 1 rfl) ?_
    refine z_Vv (bc := [[zO11 mo m_all m_has i_size i_next i_where i_token i_number i_word i_wrong i_farCrossing m_read i_z0 i_crossings i_inns m_posts m_shut m_here i_steps i_done i_at i_gone m_was m_came m_seenAt m_rowWorth m_farBy m_used i_everywhere i_again0 i_d0 i_never i_firstCame i_longRun i_moved i_crowd i_l0 i_fitMany i_fitLeast i_fitMost m_fitPost m_fitEnd m_keptPosts i_x0], [zAr T 0 m_all 3952 f_all]]) (br := [[zAr T 0 m_read 121 f_read]]) (As := [.int 3, .int at_]) (rest := []) C G (c_fm_also l T mo m_all m_has i_size i_next i_where i_token i_number i_word i_wrong i_farCrossing m_read i_z0 i_crossings i_inns m_posts m_shut m_here i_steps i_done i_at i_gone m_was m_came m_seenAt m_rowWorth m_farBy m_used i_everywhere i_again0 i_d0 i_never i_firstCame i_longRun i_moved i_crowd i_l0 i_fitMany i_fitLeast i_fitMost m_fitPost m_fitEnd m_keptPosts i_x0 f_all 3 at_) (kV_RX12_115 C.2.2.2.2 (Nat.le_of_ble_eq_true rfl) (Nat.le_of_ble_eq_true rfl)) [0, 1] [0, 0] rfl rfl (ci := 11) (qc := (RX12, TX12, 43)) rfl rfl (List.mem_flatten.mpr ⟨_, List.mem_of_getElem? (i := 0) rfl, List.mem_cons_self⟩) rfl rfl hl.1 dX12_crossTold_14 (Nat.le_of_ble_eq_true rfl) (Nat.le_of_ble_eq_true rfl) (fun b1 H locs hw G => ?_)
    refine zEx1 hw ?_
    intro g_all_49
    refine zCu3 ?_
    intro hbs9 h_50 h_51
    clear hw
    subst hbs9
    have G : zS T A s.heap s [[zAr T 0 m_read 121 f_read], [zO11 mo m_all m_has i_size i_next i_where i_token i_number i_word i_wrong i_farCrossing m_read i_z0 i_crossings i_inns m_posts m_shut m_here i_steps i_done i_at i_gone m_was m_came m_seenAt m_rowWorth m_farBy m_used i_everywhere i_again0 i_d0 i_never i_firstCame i_longRun i_moved i_crowd i_l0 i_fitMany i_fitLeast i_fitMost m_fitPost m_fitEnd m_keptPosts i_x0], [zAr T 0 m_all 3952 g_all_49]] _ _ := G
    have h_51 : g_all_49 = (if ¬ i_wrong.toInt = 0 ∨ (¬ (f_all 5).toInt = 0 ∧ ((f_all 6).toInt < at_.toInt ∨ ((f_all 6).toInt = at_.toInt ∧ (f_all 5).toInt ≤ (3 : Int)))) then f_all else upd (upd f_all 5 3) 6 at_) := h_51
    obtain ⟨b, hbq⟩ : ∃ b, b = pDB 7 at_ f_read a := ⟨_, rfl⟩
    have hAb : zRr k n i_size i_next i_where i_token i_number i_word i_wrong i_farCrossing g_all_49 b := by rw [hbq]; unfold pDB; rw [if_pos (by omega)]; exact zRr_also (kd := 3) (w := at_) hA h_51
    have G := G.sub (bs' := [[zO11 mo m_all m_has i_size i_next i_where i_token i_number i_word i_wrong i_farCrossing m_read i_z0 i_crossings i_inns m_posts m_shut m_here i_steps i_done i_at i_gone m_was m_came m_seenAt m_rowWorth m_farBy m_used i_everywhere i_again0 i_d0 i_never i_firstCame i_longRun i_moved i_crowd i_l0 i_fitMany i_fitLeast i_fitMost m_fitPost m_fitEnd m_keptPosts i_x0], [zAr T 0 m_all 3952 g_all_49], [zAr T 0 m_read 121 f_read]]) [1, 2, 0] rfl
    exact jn_17 g_all_49 b (show b = pDB 7 at_ f_read a ∧ zRr k n i_size i_next i_where i_token i_number i_word i_wrong i_farCrossing g_all_49 b ∧ zPal f_all g_all_49 from ⟨hbq, hAb, h_50⟩) _ _ ls G (lv_sub hl [0, 1] rfl)

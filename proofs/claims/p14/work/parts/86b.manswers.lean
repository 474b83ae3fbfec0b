set_option maxHeartbeats 4000000 in
set_option maxRecDepth 100000 in
/-- c_m_land -/
theorem c_m_land (l : Launch) (T : zTy) (mo : Nat) (m_all : Nat) (m_has : Nat) (i_size : Int32) (i_next : Int32) (i_where : Int32) (i_token : Int32) (i_number : Int32) (i_word : Int32) (i_wrong : Int32) (i_farCrossing : Int32) (m_read : Nat) (i_z0 : Int32) (i_crossings : Int32) (i_inns : Int32) (m_posts : Nat) (m_shut : Nat) (m_here : Nat) (i_steps : Int32) (i_done : Int32) (i_at : Int32) (i_gone : Int32) (m_was : Nat) (m_came : Nat) (m_seenAt : Nat) (m_rowWorth : Nat) (m_farBy : Nat) (m_used : Nat) (i_everywhere : Int32) (i_again0 : Int32) (i_d0 : Int32) (i_never : Int32) (i_firstCame : Int32) (i_longRun : Int32) (i_moved : Int32) (i_crowd : Int32) (i_l0 : Int32) (i_fitMany : Int32) (i_fitLeast : Int32) (i_fitMost : Int32) (m_fitPost : Nat) (m_fitEnd : Nat) (m_keptPosts : Nat) (i_x0 : Int32) (f_all : Nat → Int32) (f_posts : Nat → Int32) (f_shut : Nat → Int32) (f_here : Nat → Int32) (l_ : Int32) (w_ : Int32) (hB : zBI f_all) : zMi l T yX12_land cX12_land 4 (some .int) 5 0 0 [.ref mo, .int l_, .int w_] [[zO11 mo m_all m_has i_size i_next i_where i_token i_number i_word i_wrong i_farCrossing m_read i_z0 i_crossings i_inns m_posts m_shut m_here i_steps i_done i_at i_gone m_was m_came m_seenAt m_rowWorth m_farBy m_used i_everywhere i_again0 i_d0 i_never i_firstCame i_longRun i_moved i_crowd i_l0 i_fitMany i_fitLeast i_fitMost m_fitPost m_fitEnd m_keptPosts i_x0], [zAr T 0 m_all 3952 f_all], [zAr T 0 m_posts 7 f_posts], [zAr T 0 m_shut 7 f_shut], [zAr T 0 m_here 7 f_here]] (fun (r : Int32) bs => ∃ (j_z0 : Int32) (j_crossings : Int32) (j_inns : Int32) (j_steps : Int32) (j_done : Int32) (g_posts : Nat → Int32) (g_shut : Nat → Int32) (g_here : Nat → Int32), bs = [[zO11 mo m_all m_has i_size i_next i_where i_token i_number i_word i_wrong i_farCrossing m_read j_z0 j_crossings j_inns m_posts m_shut m_here j_steps j_done i_at i_gone m_was m_came m_seenAt m_rowWorth m_farBy m_used i_everywhere i_again0 i_d0 i_never i_firstCame i_longRun i_moved i_crowd i_l0 i_fitMany i_fitLeast i_fitMost m_fitPost m_fitEnd m_keptPosts i_x0], [zAr T 0 m_all 3952 f_all], [zAr T 0 m_posts 7 g_posts], [zAr T 0 m_shut 7 g_shut], [zAr T 0 m_here 7 g_here]]) := by
  refine zMi_of (own := RX12) (by decide) rfl (Nat.le_of_ble_eq_true rfl) ?_
  intro p e s m args below meth c A ls C hr hlocks hnm hAe G hl
  refine zHide (fun Qz_ hQz_ => ?_)
  have hx := C.1
  have hb := C.2.1
  have hl : lv_has ls 4 [(0, .ref mo), (1, .int l_), (2, .int w_)] := hl
  refine lv_aload_n hx hb dX12_land_0 rfl (lv_at hl 0 rfl) ?_
  refine lv_iload_n hx hb dX12_land_1 rfl (lv_at hl 1 rfl) ?_
  refine z_Vi (bc := [[zO11 mo m_all m_has i_size i_next i_where i_token i_number i_word i_wrong i_farCrossing m_read i_z0 i_crossings i_inns m_posts m_shut m_here i_steps i_done i_at i_gone m_was m_came m_seenAt m_rowWorth m_farBy m_used i_everywhere i_again0 i_d0 i_never i_firstCame i_longRun i_moved i_crowd i_l0 i_fitMany i_fitLeast i_fitMost m_fitPost m_fitEnd m_keptPosts i_x0], [zAr T 0 m_all 3952 f_all], [zAr T 0 m_posts 7 f_posts], [zAr T 0 m_shut 7 f_shut], [zAr T 0 m_here 7 f_here]]) (br := []) (As := [.int l_]) (rest := []) C G (c_m_isLand l T mo m_all m_has i_size i_next i_where i_token i_number i_word i_wrong i_farCrossing m_read i_z0 i_crossings i_inns m_posts m_shut m_here i_steps i_done i_at i_gone m_was m_came m_seenAt m_rowWorth m_farBy m_used i_everywhere i_again0 i_d0 i_never i_firstCame i_longRun i_moved i_crowd i_l0 i_fitMany i_fitLeast i_fitMost m_fitPost m_fitEnd m_keptPosts i_x0 f_all f_posts f_shut f_here l_ (by first | with_reducible assumption | with_reducible rfl | omega | assumption | rfl | decide)) (kV_RX12_184 C.2.2.2.2 (Nat.le_of_ble_eq_true rfl) (Nat.le_of_ble_eq_true rfl)) [0, 1, 2, 3, 4] [0, 0, 0, 0, 0] rfl rfl (ci := 11) (qc := (RX12, TX12, 43)) rfl rfl (List.mem_flatten.mpr ⟨_, List.mem_of_getElem? (i := 0) rfl, List.mem_cons_self⟩) rfl rfl hl.1 dX12_land_2 (Nat.le_of_ble_eq_true rfl) (Nat.le_of_ble_eq_true rfl) (fun r_10 b1 H locs hw G => ?_)
  refine zEx8 hw ?_
  intro j_z0_1 j_crossings_2 j_inns_3 j_steps_4 j_done_5 g_posts_6 g_shut_7 g_here_8
  refine zCu2 ?_
  intro hbs9 hc_9
  clear hw
  subst hbs9
  have G : zS T A s.heap s [[zO11 mo m_all m_has i_size i_next i_where i_token i_number i_word i_wrong i_farCrossing m_read j_z0_1 j_crossings_2 j_inns_3 m_posts m_shut m_here j_steps_4 j_done_5 i_at i_gone m_was m_came m_seenAt m_rowWorth m_farBy m_used i_everywhere i_again0 i_d0 i_never i_firstCame i_longRun i_moved i_crowd i_l0 i_fitMany i_fitLeast i_fitMost m_fitPost m_fitEnd m_keptPosts i_x0], [zAr T 0 m_all 3952 f_all], [zAr T 0 m_posts 7 g_posts_6], [zAr T 0 m_shut 7 g_shut_7], [zAr T 0 m_here 7 g_here_8]] _ _ := G
  rcases hc_9 with ⟨rfl, h_11, h_12, h_13, h_14, h_15, h_16, h_17, h_18, h_19, h_20, h_21, h_22⟩ | ⟨rfl, h_23⟩
  · have h_11 : 0 ≤ l_.toInt := h_11
    have h_12 : l_.toInt ≤ 1 := h_12
    have h_13 : l_.toInt < (f_all 0).toInt := h_13
    have h_14 : j_z0_1.toInt = 610 + 51 * l_.toInt := h_14
    have h_15 : zML f_all j_z0_1 j_crossings_2 := h_15
    have h_16 : zMP g_posts_6 := h_16
    have h_17 : j_inns_3 = f_all (j_z0_1.toInt.toNat + 1) := h_17
    have h_18 : j_steps_4 = 0 := h_18
    have h_19 : j_done_5 = 0 := h_19
    have h_20 : (∀ j, j < 7 → g_posts_6 j = zPt f_all j_z0_1 (nI j)) := h_20
    have h_21 : (∀ j, j < 7 → g_shut_7 j = 0) := h_21
    have h_22 : (∀ j, j < 7 → g_here_8 j = zWk f_all j_z0_1 j) := h_22
    have hLx := h_15
    have hcr := hLx.cr
    have hzx := hLx.1
    have hPx := h_16
    refine lv_if_eq (tgt := 12) hx hb dX12_land_5 (by decide) (fun q => absurd q (by decide)) (fun _ => ?_)
    refine lv_iload_n hx hb dX12_land_8 rfl (lv_at hl 2 rfl) ?_
    refine lv_if_ge (tgt := 14) hx hb dX12_land_9 (by decide) (fun c_24 => ?_) (fun c_24 => ?_)
    · have c_24n : (0 : Int) ≤ w_.toInt := (fa_le _ _).mp c_24
      refine lv_iload_n hx hb dX12_land_14 rfl (lv_at hl 2 rfl) ?_
      refine lv_iconst (v := 2) hx hb dX12_land_15 (by decide) ?_
      refine lv_icmp_ge (tgt := 31) hx hb dX12_land_16 (by decide) (fun c_25 => ?_) (fun c_25 => ?_)
      · have c_25n : (2 : Int) ≤ w_.toInt := (fa_le _ _).mp c_25
        refine lv_iload_n hx hb dX12_land_31 rfl (lv_at hl 2 rfl) ?_
        refine lv_bipush (v := 10) hx hb dX12_land_32 (by decide) ?_
        refine lv_irem hx hb dX12_land_34 (by decide) ?_
        have hrm := zRem (x := w_) (y := 10) (by omega) (by decide)
        have hdv : 0 ≤ (w_ / 10).toInt := zDiv0 (by omega) (by decide)
        have hdl := Int32.toInt_lt (w_ / 10)
        refine lv_istore_n (lv' := [(3, .int (w_ - w_ / 10 * 10)), (0, .ref mo), (1, .int l_), (2, .int w_)]) hx hb dX12_land_35 rfl hl (by decide) (zLvf_h rfl) (fun ls hl => ?_)
        refine lv_iload_n hx hb dX12_land_36 rfl (lv_at hl 3 rfl) ?_
        refine lv_bipush (v := 100) hx hb dX12_land_37 (by decide) ?_
        refine lv_icmp_lt (tgt := 88) hx hb dX12_land_39 (by decide) (fun c_26 => ?_) (fun c_26 => ?_)
        · have c_26n : w_.toInt < (100 : Int) := (fa_lt _ _).mp c_26
          refine lv_iload_n hx hb dX12_land_88 rfl (lv_at hl 3 rfl) ?_
          refine lv_bipush (v := 10) hx hb dX12_land_89 (by decide) ?_
          refine lv_bipush (v := 39) hx hb dX12_land_91 (by decide) ?_
          refine z_Si (bc := []) (br := [[zO11 mo m_all m_has i_size i_next i_where i_token i_number i_word i_wrong i_farCrossing m_read j_z0_1 j_crossings_2 j_inns_3 m_posts m_shut m_here j_steps_4 j_done_5 i_at i_gone m_was m_came m_seenAt m_rowWorth m_farBy m_used i_everywhere i_again0 i_d0 i_never i_firstCame i_longRun i_moved i_crowd i_l0 i_fitMany i_fitLeast i_fitMost m_fitPost m_fitEnd m_keptPosts i_x0], [zAr T 0 m_all 3952 f_all], [zAr T 0 m_posts 7 g_posts_6], [zAr T 0 m_shut 7 g_shut_7], [zAr T 0 m_here 7 g_here_8]]) (As := [.int w_, .int 10, .int 39]) (rest := []) C G (c_m_isIn l T w_ 10 39) (kS_RX12_111 C.2.2.2.2 (Nat.le_of_ble_eq_true rfl) (Nat.le_of_ble_eq_true rfl)) [] [] rfl rfl rfl rfl hl.1 dX12_land_93 (Nat.le_of_ble_eq_true rfl) (Nat.le_of_ble_eq_true rfl) (fun r_28 b1 H locs hw G => ?_)
          refine zAn2 hw ?_
          intro hbs9 hc_27
          clear hw
          subst hbs9
          have G : zS T A s.heap s [[zO11 mo m_all m_has i_size i_next i_where i_token i_number i_word i_wrong i_farCrossing m_read j_z0_1 j_crossings_2 j_inns_3 m_posts m_shut m_here j_steps_4 j_done_5 i_at i_gone m_was m_came m_seenAt m_rowWorth m_farBy m_used i_everywhere i_again0 i_d0 i_never i_firstCame i_longRun i_moved i_crowd i_l0 i_fitMany i_fitLeast i_fitMost m_fitPost m_fitEnd m_keptPosts i_x0], [zAr T 0 m_all 3952 f_all], [zAr T 0 m_posts 7 g_posts_6], [zAr T 0 m_shut 7 g_shut_7], [zAr T 0 m_here 7 g_here_8]] _ _ := G
          rcases hc_27 with ⟨rfl, h_29, h_30⟩ | ⟨rfl, h_31⟩
          · have h_29 : (10 : Int) ≤ w_.toInt := h_29
            have h_30 : w_.toInt ≤ (39 : Int) := h_30
            refine lv_if_eq (tgt := 107) hx hb dX12_land_96 (by decide) (fun q => absurd q (by decide)) (fun _ => ?_)
            refine lv_aload_n hx hb dX12_land_99 rfl (lv_at hl 1 rfl) ?_
            refine lv_iload_n hx hb dX12_land_100 rfl (lv_at hl 0 rfl) ?_
            refine z_Vi (bc := [[zO11 mo m_all m_has i_size i_next i_where i_token i_number i_word i_wrong i_farCrossing m_read j_z0_1 j_crossings_2 j_inns_3 m_posts m_shut m_here j_steps_4 j_done_5 i_at i_gone m_was m_came m_seenAt m_rowWorth m_farBy m_used i_everywhere i_again0 i_d0 i_never i_firstCame i_longRun i_moved i_crowd i_l0 i_fitMany i_fitLeast i_fitMost m_fitPost m_fitEnd m_keptPosts i_x0]]) (br := [[zAr T 0 m_all 3952 f_all], [zAr T 0 m_posts 7 g_posts_6], [zAr T 0 m_shut 7 g_shut_7], [zAr T 0 m_here 7 g_here_8]]) (As := [.int (w_ - w_ / 10 * 10)]) (rest := []) C G (c_m_isCrossing l T mo m_all m_has i_size i_next i_where i_token i_number i_word i_wrong i_farCrossing m_read j_z0_1 j_crossings_2 j_inns_3 m_posts m_shut m_here j_steps_4 j_done_5 i_at i_gone m_was m_came m_seenAt m_rowWorth m_farBy m_used i_everywhere i_again0 i_d0 i_never i_firstCame i_longRun i_moved i_crowd i_l0 i_fitMany i_fitLeast i_fitMost m_fitPost m_fitEnd m_keptPosts i_x0 (w_ - w_ / 10 * 10) (by first | with_reducible assumption | with_reducible rfl | omega | assumption | rfl | decide)) (kV_RX12_187 C.2.2.2.2 (Nat.le_of_ble_eq_true rfl) (Nat.le_of_ble_eq_true rfl)) [0] [0] rfl rfl (ci := 11) (qc := (RX12, TX12, 43)) rfl rfl (List.mem_flatten.mpr ⟨_, List.mem_of_getElem? (i := 0) rfl, List.mem_cons_self⟩) rfl rfl hl.1 dX12_land_101 (Nat.le_of_ble_eq_true rfl) (Nat.le_of_ble_eq_true rfl) (fun r_33 b1 H locs hw G => ?_)
            refine zAn2 hw ?_
            intro hbs9 hc_32
            clear hw
            subst hbs9
            have G : zS T A s.heap s [[zAr T 0 m_all 3952 f_all], [zAr T 0 m_posts 7 g_posts_6], [zAr T 0 m_shut 7 g_shut_7], [zAr T 0 m_here 7 g_here_8], [zO11 mo m_all m_has i_size i_next i_where i_token i_number i_word i_wrong i_farCrossing m_read j_z0_1 j_crossings_2 j_inns_3 m_posts m_shut m_here j_steps_4 j_done_5 i_at i_gone m_was m_came m_seenAt m_rowWorth m_farBy m_used i_everywhere i_again0 i_d0 i_never i_firstCame i_longRun i_moved i_crowd i_l0 i_fitMany i_fitLeast i_fitMost m_fitPost m_fitEnd m_keptPosts i_x0]] _ _ := G
            rcases hc_32 with ⟨rfl, h_34, h_35⟩ | ⟨rfl, h_36⟩
            · have h_34 : 0 ≤ (w_ - w_ / 10 * 10).toInt := h_34
              have h_35 : (w_ - w_ / 10 * 10).toInt < j_crossings_2.toInt := h_35
              refine lv_if_ne (tgt := 109) hx hb dX12_land_104 (by decide) (fun _ => ?_) (fun q => absurd q (by decide))
              refine lv_iload_n hx hb dX12_land_109 rfl (lv_at hl 3 rfl) ?_
              refine lv_bipush (v := 20) hx hb dX12_land_110 (by decide) ?_
              refine lv_icmp_ge (tgt := 123) hx hb dX12_land_112 (by decide) (fun c_37 => ?_) (fun c_37 => ?_)
              · have c_37n : (20 : Int) ≤ w_.toInt := (fa_le _ _).mp c_37
                refine lv_iload_n hx hb dX12_land_123 rfl (lv_at hl 3 rfl) ?_
                refine lv_bipush (v := 30) hx hb dX12_land_124 (by decide) ?_
                refine lv_icmp_ge (tgt := 137) hx hb dX12_land_126 (by decide) (fun c_38 => ?_) (fun c_38 => ?_)
                · have c_38n : (30 : Int) ≤ w_.toInt := (fa_le _ _).mp c_38
                  refine lv_aload_n hx hb dX12_land_137 rfl (lv_at hl 1 rfl) ?_
                  refine z_get C G clX12 4 rfl 0 (by decide) m_fl_RX12_7 rfl dX12_land_138 ?_
                  refine lv_aload_n hx hb dX12_land_141 rfl (lv_at hl 1 rfl) ?_
                  refine z_get C G clX12 4 rfl 11 (by decide) m_fl_RX12_166 rfl dX12_land_142 ?_
                  refine lv_bipush (v := 16) hx hb dX12_land_145 (by decide) ?_
                  refine lv_iadd hx hb dX12_land_147 ?_
                  refine lv_topi (fun y_39 ey_39 => ?_)
                  have ey_39i : y_39.toInt = j_z0_1.toInt + (16 : Int) := by rw [ey_39]; exact z_iaddI (x := j_z0_1) (y := (16 : Int32)) (by show -2147483648 ≤ j_z0_1.toInt + (16 : Int); omega) (by show j_z0_1.toInt + (16 : Int) < 2147483648; omega)
                  refine lv_iload_n hx hb dX12_land_148 rfl (lv_at hl 0 rfl) ?_
                  refine lv_iadd hx hb dX12_land_149 ?_
                  refine lv_topi (fun y_40 ey_40 => ?_)
                  have ey_40i : y_40.toInt = y_39.toInt + (w_ - w_ / 10 * 10).toInt := by rw [ey_40]; exact z_iaddI (x := y_39) (y := (w_ - w_ / 10 * 10)) (by show -2147483648 ≤ y_39.toInt + (w_ - w_ / 10 * 10).toInt; omega) (by show y_39.toInt + (w_ - w_ / 10 * 10).toInt < 2147483648; omega)
                  refine z_ild C G 0 rfl (vp_in_iff.mpr ⟨by omega, by omega⟩) dX12_land_150 ?_
                  refine lv_topi (fun v_41 ev_41 => ?_)
                  subst ev_41
                  have G := G.sub (bs' := [[zO11 mo m_all m_has i_size i_next i_where i_token i_number i_word i_wrong i_farCrossing m_read j_z0_1 j_crossings_2 j_inns_3 m_posts m_shut m_here j_steps_4 j_done_5 i_at i_gone m_was m_came m_seenAt m_rowWorth m_farBy m_used i_everywhere i_again0 i_d0 i_never i_firstCame i_longRun i_moved i_crowd i_l0 i_fitMany i_fitLeast i_fitMost m_fitPost m_fitEnd m_keptPosts i_x0], [zAr T 0 m_all 3952 f_all], [zAr T 0 m_posts 7 g_posts_6], [zAr T 0 m_shut 7 g_shut_7], [zAr T 0 m_here 7 g_here_8]]) [4, 0, 1, 2, 3] rfl
                  exact z_back hQz_ (z_iret C hr hlocks G (Nat.le_of_ble_eq_true rfl) (Nat.le_of_ble_eq_true rfl) dX12_land_151 ⟨j_z0_1, j_crossings_2, j_inns_3, j_steps_4, j_done_5, g_posts_6, g_shut_7, g_here_8, rfl⟩)
                · have c_38n : ¬ (30 : Int) ≤ w_.toInt := fun q => c_38 ((fa_le _ _).mpr q)
                  refine lv_aload_n hx hb dX12_land_129 rfl (lv_at hl 1 rfl) ?_
                  refine lv_iload_n hx hb dX12_land_130 rfl (lv_at hl 0 rfl) ?_
                  refine z_Vi (bc := [[zO11 mo m_all m_has i_size i_next i_where i_token i_number i_word i_wrong i_farCrossing m_read j_z0_1 j_crossings_2 j_inns_3 m_posts m_shut m_here j_steps_4 j_done_5 i_at i_gone m_was m_came m_seenAt m_rowWorth m_farBy m_used i_everywhere i_again0 i_d0 i_never i_firstCame i_longRun i_moved i_crowd i_l0 i_fitMany i_fitLeast i_fitMost m_fitPost m_fitEnd m_keptPosts i_x0], [zAr T 0 m_all 3952 f_all]]) (br := [[zAr T 0 m_posts 7 g_posts_6], [zAr T 0 m_shut 7 g_shut_7], [zAr T 0 m_here 7 g_here_8]]) (As := [.int (w_ - w_ / 10 * 10)]) (rest := []) C G (c_m_postTold l T mo m_all m_has i_size i_next i_where i_token i_number i_word i_wrong i_farCrossing m_read j_z0_1 j_crossings_2 j_inns_3 m_posts m_shut m_here j_steps_4 j_done_5 i_at i_gone m_was m_came m_seenAt m_rowWorth m_farBy m_used i_everywhere i_again0 i_d0 i_never i_firstCame i_longRun i_moved i_crowd i_l0 i_fitMany i_fitLeast i_fitMost m_fitPost m_fitEnd m_keptPosts i_x0 f_all (w_ - w_ / 10 * 10) (by first | with_reducible assumption | with_reducible rfl | omega | assumption | rfl | decide) (by first | with_reducible assumption | with_reducible rfl | omega | assumption | rfl | decide) (by first | with_reducible assumption | with_reducible rfl | omega | assumption | rfl | decide)) (kV_RX12_193 C.2.2.2.2 (Nat.le_of_ble_eq_true rfl) (Nat.le_of_ble_eq_true rfl)) [4, 0] [0, 3] rfl rfl (ci := 11) (qc := (RX12, TX12, 43)) rfl rfl (List.mem_flatten.mpr ⟨_, List.mem_of_getElem? (i := 0) rfl, List.mem_cons_self⟩) rfl rfl hl.1 dX12_land_131 (Nat.le_of_ble_eq_true rfl) (Nat.le_of_ble_eq_true rfl) (fun r_45 b1 H locs hw G => ?_)
                  refine zAn4 hw ?_
                  intro hbs9 h_42 h_43 h_44
                  clear hw
                  subst hbs9
                  have G : zS T A s.heap s [[zAr T 0 m_posts 7 g_posts_6], [zAr T 0 m_shut 7 g_shut_7], [zAr T 0 m_here 7 g_here_8], [zO11 mo m_all m_has i_size i_next i_where i_token i_number i_word i_wrong i_farCrossing m_read j_z0_1 j_crossings_2 j_inns_3 m_posts m_shut m_here j_steps_4 j_done_5 i_at i_gone m_was m_came m_seenAt m_rowWorth m_farBy m_used i_everywhere i_again0 i_d0 i_never i_firstCame i_longRun i_moved i_crowd i_l0 i_fitMany i_fitLeast i_fitMost m_fitPost m_fitEnd m_keptPosts i_x0], [zAr T 0 m_all 3952 f_all]] _ _ := G
                  subst h_42
                  refine lv_goto (tgt := 151) hx hb dX12_land_134 (by decide) ?_
                  have G := G.sub (bs' := [[zO11 mo m_all m_has i_size i_next i_where i_token i_number i_word i_wrong i_farCrossing m_read j_z0_1 j_crossings_2 j_inns_3 m_posts m_shut m_here j_steps_4 j_done_5 i_at i_gone m_was m_came m_seenAt m_rowWorth m_farBy m_used i_everywhere i_again0 i_d0 i_never i_firstCame i_longRun i_moved i_crowd i_l0 i_fitMany i_fitLeast i_fitMost m_fitPost m_fitEnd m_keptPosts i_x0], [zAr T 0 m_all 3952 f_all], [zAr T 0 m_posts 7 g_posts_6], [zAr T 0 m_shut 7 g_shut_7], [zAr T 0 m_here 7 g_here_8]]) [3, 4, 0, 1, 2] rfl
                  exact z_back hQz_ (z_iret C hr hlocks G (Nat.le_of_ble_eq_true rfl) (Nat.le_of_ble_eq_true rfl) dX12_land_151 ⟨j_z0_1, j_crossings_2, j_inns_3, j_steps_4, j_done_5, g_posts_6, g_shut_7, g_here_8, rfl⟩)
              · have c_37n : ¬ (20 : Int) ≤ w_.toInt := fun q => c_37 ((fa_le _ _).mpr q)
                refine lv_aload_n hx hb dX12_land_115 rfl (lv_at hl 1 rfl) ?_
                refine lv_iload_n hx hb dX12_land_116 rfl (lv_at hl 0 rfl) ?_
                refine z_Vi (bc := [[zO11 mo m_all m_has i_size i_next i_where i_token i_number i_word i_wrong i_farCrossing m_read j_z0_1 j_crossings_2 j_inns_3 m_posts m_shut m_here j_steps_4 j_done_5 i_at i_gone m_was m_came m_seenAt m_rowWorth m_farBy m_used i_everywhere i_again0 i_d0 i_never i_firstCame i_longRun i_moved i_crowd i_l0 i_fitMany i_fitLeast i_fitMost m_fitPost m_fitEnd m_keptPosts i_x0], [zAr T 0 m_all 3952 f_all]]) (br := [[zAr T 0 m_posts 7 g_posts_6], [zAr T 0 m_shut 7 g_shut_7], [zAr T 0 m_here 7 g_here_8]]) (As := [.int (w_ - w_ / 10 * 10)]) (rest := []) C G (c_m_roadsOf l T mo m_all m_has i_size i_next i_where i_token i_number i_word i_wrong i_farCrossing m_read j_z0_1 j_crossings_2 j_inns_3 m_posts m_shut m_here j_steps_4 j_done_5 i_at i_gone m_was m_came m_seenAt m_rowWorth m_farBy m_used i_everywhere i_again0 i_d0 i_never i_firstCame i_longRun i_moved i_crowd i_l0 i_fitMany i_fitLeast i_fitMost m_fitPost m_fitEnd m_keptPosts i_x0 f_all (w_ - w_ / 10 * 10) (by first | with_reducible assumption | with_reducible rfl | omega | assumption | rfl | decide) (by first | with_reducible assumption | with_reducible rfl | omega | assumption | rfl | decide) (by first | with_reducible assumption | with_reducible rfl | omega | assumption | rfl | decide)) (kV_RX12_181 C.2.2.2.2 (Nat.le_of_ble_eq_true rfl) (Nat.le_of_ble_eq_true rfl)) [4, 0] [0, 3] rfl rfl (ci := 11) (qc := (RX12, TX12, 43)) rfl rfl (List.mem_flatten.mpr ⟨_, List.mem_of_getElem? (i := 0) rfl, List.mem_cons_self⟩) rfl rfl hl.1 dX12_land_117 (Nat.le_of_ble_eq_true rfl) (Nat.le_of_ble_eq_true rfl) (fun r_49 b1 H locs hw G => ?_)
                refine zAn4 hw ?_
                intro hbs9 h_46 h_47 h_48
                clear hw
                subst hbs9
                have G : zS T A s.heap s [[zAr T 0 m_posts 7 g_posts_6], [zAr T 0 m_shut 7 g_shut_7], [zAr T 0 m_here 7 g_here_8], [zO11 mo m_all m_has i_size i_next i_where i_token i_number i_word i_wrong i_farCrossing m_read j_z0_1 j_crossings_2 j_inns_3 m_posts m_shut m_here j_steps_4 j_done_5 i_at i_gone m_was m_came m_seenAt m_rowWorth m_farBy m_used i_everywhere i_again0 i_d0 i_never i_firstCame i_longRun i_moved i_crowd i_l0 i_fitMany i_fitLeast i_fitMost m_fitPost m_fitEnd m_keptPosts i_x0], [zAr T 0 m_all 3952 f_all]] _ _ := G
                subst h_46
                refine lv_goto (tgt := 151) hx hb dX12_land_120 (by decide) ?_
                have G := G.sub (bs' := [[zO11 mo m_all m_has i_size i_next i_where i_token i_number i_word i_wrong i_farCrossing m_read j_z0_1 j_crossings_2 j_inns_3 m_posts m_shut m_here j_steps_4 j_done_5 i_at i_gone m_was m_came m_seenAt m_rowWorth m_farBy m_used i_everywhere i_again0 i_d0 i_never i_firstCame i_longRun i_moved i_crowd i_l0 i_fitMany i_fitLeast i_fitMost m_fitPost m_fitEnd m_keptPosts i_x0], [zAr T 0 m_all 3952 f_all], [zAr T 0 m_posts 7 g_posts_6], [zAr T 0 m_shut 7 g_shut_7], [zAr T 0 m_here 7 g_here_8]]) [3, 4, 0, 1, 2] rfl
                exact z_back hQz_ (z_iret C hr hlocks G (Nat.le_of_ble_eq_true rfl) (Nat.le_of_ble_eq_true rfl) dX12_land_151 ⟨j_z0_1, j_crossings_2, j_inns_3, j_steps_4, j_done_5, g_posts_6, g_shut_7, g_here_8, rfl⟩)
            · have h_36 : ((w_ - w_ / 10 * 10).toInt < 0 ∨ j_crossings_2.toInt ≤ (w_ - w_ / 10 * 10).toInt) := h_36
              refine lv_if_ne (tgt := 109) hx hb dX12_land_104 (by decide) (fun q => absurd (by decide) q) (fun _ => ?_)
              refine lv_iconst (v := (-1)) hx hb dX12_land_107 (by decide) ?_
              have G := G.sub (bs' := [[zO11 mo m_all m_has i_size i_next i_where i_token i_number i_word i_wrong i_farCrossing m_read j_z0_1 j_crossings_2 j_inns_3 m_posts m_shut m_here j_steps_4 j_done_5 i_at i_gone m_was m_came m_seenAt m_rowWorth m_farBy m_used i_everywhere i_again0 i_d0 i_never i_firstCame i_longRun i_moved i_crowd i_l0 i_fitMany i_fitLeast i_fitMost m_fitPost m_fitEnd m_keptPosts i_x0], [zAr T 0 m_all 3952 f_all], [zAr T 0 m_posts 7 g_posts_6], [zAr T 0 m_shut 7 g_shut_7], [zAr T 0 m_here 7 g_here_8]]) [4, 0, 1, 2, 3] rfl
              exact z_back hQz_ (z_iret C hr hlocks G (Nat.le_of_ble_eq_true rfl) (Nat.le_of_ble_eq_true rfl) dX12_land_108 ⟨j_z0_1, j_crossings_2, j_inns_3, j_steps_4, j_done_5, g_posts_6, g_shut_7, g_here_8, rfl⟩)
          · have h_31 : (w_.toInt < (10 : Int) ∨ (39 : Int) < w_.toInt) := h_31
            refine lv_if_eq (tgt := 107) hx hb dX12_land_96 (by decide) (fun _ => ?_) (fun q => absurd (by decide) q)
            refine lv_iconst (v := (-1)) hx hb dX12_land_107 (by decide) ?_
            exact z_back hQz_ (z_iret C hr hlocks G (Nat.le_of_ble_eq_true rfl) (Nat.le_of_ble_eq_true rfl) dX12_land_108 ⟨j_z0_1, j_crossings_2, j_inns_3, j_steps_4, j_done_5, g_posts_6, g_shut_7, g_here_8, rfl⟩)
        · have c_26n : ¬ w_.toInt < (100 : Int) := fun q => c_26 ((fa_lt _ _).mpr q)
          refine lv_aload_n hx hb dX12_land_42 rfl (lv_at hl 1 rfl) ?_
          refine lv_iload_n hx hb dX12_land_43 rfl (lv_at hl 3 rfl) ?_
          refine lv_bipush (v := 10) hx hb dX12_land_44 (by decide) ?_
          refine lv_idiv hx hb dX12_land_46 (by decide) ?_
          refine lv_bipush (v := 10) hx hb dX12_land_47 (by decide) ?_
          refine lv_isub hx hb dX12_land_49 ?_
          refine lv_topi (fun y_50 ey_50 => ?_)
          have ey_50i : y_50.toInt = (w_ / 10).toInt - (10 : Int) := by rw [ey_50]; exact z_isubI (x := (w_ / 10)) (y := (10 : Int32)) (by show -2147483648 ≤ (w_ / 10).toInt - (10 : Int); omega) (by show (w_ / 10).toInt - (10 : Int) < 2147483648; omega)
          refine z_Vi (bc := [[zO11 mo m_all m_has i_size i_next i_where i_token i_number i_word i_wrong i_farCrossing m_read j_z0_1 j_crossings_2 j_inns_3 m_posts m_shut m_here j_steps_4 j_done_5 i_at i_gone m_was m_came m_seenAt m_rowWorth m_farBy m_used i_everywhere i_again0 i_d0 i_never i_firstCame i_longRun i_moved i_crowd i_l0 i_fitMany i_fitLeast i_fitMost m_fitPost m_fitEnd m_keptPosts i_x0]]) (br := [[zAr T 0 m_all 3952 f_all], [zAr T 0 m_posts 7 g_posts_6], [zAr T 0 m_shut 7 g_shut_7], [zAr T 0 m_here 7 g_here_8]]) (As := [.int y_50]) (rest := []) C G (c_m_isCrossing l T mo m_all m_has i_size i_next i_where i_token i_number i_word i_wrong i_farCrossing m_read j_z0_1 j_crossings_2 j_inns_3 m_posts m_shut m_here j_steps_4 j_done_5 i_at i_gone m_was m_came m_seenAt m_rowWorth m_farBy m_used i_everywhere i_again0 i_d0 i_never i_firstCame i_longRun i_moved i_crowd i_l0 i_fitMany i_fitLeast i_fitMost m_fitPost m_fitEnd m_keptPosts i_x0 y_50 (by first | with_reducible assumption | with_reducible rfl | omega | assumption | rfl | decide)) (kV_RX12_187 C.2.2.2.2 (Nat.le_of_ble_eq_true rfl) (Nat.le_of_ble_eq_true rfl)) [0] [0] rfl rfl (ci := 11) (qc := (RX12, TX12, 43)) rfl rfl (List.mem_flatten.mpr ⟨_, List.mem_of_getElem? (i := 0) rfl, List.mem_cons_self⟩) rfl rfl hl.1 dX12_land_50 (Nat.le_of_ble_eq_true rfl) (Nat.le_of_ble_eq_true rfl) (fun r_52 b1 H locs hw G => ?_)
          refine zAn2 hw ?_
          intro hbs9 hc_51
          clear hw
          subst hbs9
          have G : zS T A s.heap s [[zAr T 0 m_all 3952 f_all], [zAr T 0 m_posts 7 g_posts_6], [zAr T 0 m_shut 7 g_shut_7], [zAr T 0 m_here 7 g_here_8], [zO11 mo m_all m_has i_size i_next i_where i_token i_number i_word i_wrong i_farCrossing m_read j_z0_1 j_crossings_2 j_inns_3 m_posts m_shut m_here j_steps_4 j_done_5 i_at i_gone m_was m_came m_seenAt m_rowWorth m_farBy m_used i_everywhere i_again0 i_d0 i_never i_firstCame i_longRun i_moved i_crowd i_l0 i_fitMany i_fitLeast i_fitMost m_fitPost m_fitEnd m_keptPosts i_x0]] _ _ := G
          rcases hc_51 with ⟨rfl, h_53, h_54⟩ | ⟨rfl, h_55⟩
          · have h_53 : 0 ≤ y_50.toInt := h_53
            have h_54 : y_50.toInt < j_crossings_2.toInt := h_54
            refine lv_if_eq (tgt := 86) hx hb dX12_land_53 (by decide) (fun q => absurd q (by decide)) (fun _ => ?_)
            refine lv_iload_n hx hb dX12_land_56 rfl (lv_at hl 0 rfl) ?_
            refine lv_aload_n hx hb dX12_land_57 rfl (lv_at hl 1 rfl) ?_
            refine lv_iload_n hx hb dX12_land_58 rfl (lv_at hl 3 rfl) ?_
            refine lv_bipush (v := 10) hx hb dX12_land_59 (by decide) ?_
            refine lv_idiv hx hb dX12_land_61 (by decide) ?_
            refine lv_bipush (v := 10) hx hb dX12_land_62 (by decide) ?_
            refine lv_isub hx hb dX12_land_64 ?_
            refine lv_topi (fun y_56 ey_56 => ?_)
            have ey_56i : y_56.toInt = (w_ / 10).toInt - (10 : Int) := by rw [ey_56]; exact z_isubI (x := (w_ / 10)) (y := (10 : Int32)) (by show -2147483648 ≤ (w_ / 10).toInt - (10 : Int); omega) (by show (w_ / 10).toInt - (10 : Int) < 2147483648; omega)
            refine z_Vi (bc := [[zO11 mo m_all m_has i_size i_next i_where i_token i_number i_word i_wrong i_farCrossing m_read j_z0_1 j_crossings_2 j_inns_3 m_posts m_shut m_here j_steps_4 j_done_5 i_at i_gone m_was m_came m_seenAt m_rowWorth m_farBy m_used i_everywhere i_again0 i_d0 i_never i_firstCame i_longRun i_moved i_crowd i_l0 i_fitMany i_fitLeast i_fitMost m_fitPost m_fitEnd m_keptPosts i_x0], [zAr T 0 m_all 3952 f_all]]) (br := [[zAr T 0 m_posts 7 g_posts_6], [zAr T 0 m_shut 7 g_shut_7], [zAr T 0 m_here 7 g_here_8]]) (As := [.int y_56]) (rest := [.int (w_ - w_ / 10 * 10)]) C G (c_m_roadsOf l T mo m_all m_has i_size i_next i_where i_token i_number i_word i_wrong i_farCrossing m_read j_z0_1 j_crossings_2 j_inns_3 m_posts m_shut m_here j_steps_4 j_done_5 i_at i_gone m_was m_came m_seenAt m_rowWorth m_farBy m_used i_everywhere i_again0 i_d0 i_never i_firstCame i_longRun i_moved i_crowd i_l0 i_fitMany i_fitLeast i_fitMost m_fitPost m_fitEnd m_keptPosts i_x0 f_all y_56 (by first | with_reducible assumption | with_reducible rfl | omega | assumption | rfl | decide) (by first | with_reducible assumption | with_reducible rfl | omega | assumption | rfl | decide) (by first | with_reducible assumption | with_reducible rfl | omega | assumption | rfl | decide)) (kV_RX12_181 C.2.2.2.2 (Nat.le_of_ble_eq_true rfl) (Nat.le_of_ble_eq_true rfl)) [4, 0] [0, 3] rfl rfl (ci := 11) (qc := (RX12, TX12, 43)) rfl rfl (List.mem_flatten.mpr ⟨_, List.mem_of_getElem? (i := 0) rfl, List.mem_cons_self⟩) rfl rfl hl.1 dX12_land_65 (Nat.le_of_ble_eq_true rfl) (Nat.le_of_ble_eq_true rfl) (fun r_60 b1 H locs hw G => ?_)
            refine zAn4 hw ?_
            intro hbs9 h_57 h_58 h_59
            clear hw
            subst hbs9
            have G : zS T A s.heap s [[zAr T 0 m_posts 7 g_posts_6], [zAr T 0 m_shut 7 g_shut_7], [zAr T 0 m_here 7 g_here_8], [zO11 mo m_all m_has i_size i_next i_where i_token i_number i_word i_wrong i_farCrossing m_read j_z0_1 j_crossings_2 j_inns_3 m_posts m_shut m_here j_steps_4 j_done_5 i_at i_gone m_was m_came m_seenAt m_rowWorth m_farBy m_used i_everywhere i_again0 i_d0 i_never i_firstCame i_longRun i_moved i_crowd i_l0 i_fitMany i_fitLeast i_fitMost m_fitPost m_fitEnd m_keptPosts i_x0], [zAr T 0 m_all 3952 f_all]] _ _ := G
            subst h_57
            refine lv_icmp_ge (tgt := 86) hx hb dX12_land_68 (by decide) (fun c_61 => ?_) (fun c_61 => ?_)
            · have c_61n : (zRd f_all j_z0_1 y_56).toInt ≤ (w_ - w_ / 10 * 10).toInt := (fa_le _ _).mp c_61
              refine lv_iconst (v := (-1)) hx hb dX12_land_86 (by decide) ?_
              have G := G.sub (bs' := [[zO11 mo m_all m_has i_size i_next i_where i_token i_number i_word i_wrong i_farCrossing m_read j_z0_1 j_crossings_2 j_inns_3 m_posts m_shut m_here j_steps_4 j_done_5 i_at i_gone m_was m_came m_seenAt m_rowWorth m_farBy m_used i_everywhere i_again0 i_d0 i_never i_firstCame i_longRun i_moved i_crowd i_l0 i_fitMany i_fitLeast i_fitMost m_fitPost m_fitEnd m_keptPosts i_x0], [zAr T 0 m_all 3952 f_all], [zAr T 0 m_posts 7 g_posts_6], [zAr T 0 m_shut 7 g_shut_7], [zAr T 0 m_here 7 g_here_8]]) [3, 4, 0, 1, 2] rfl
              exact z_back hQz_ (z_iret C hr hlocks G (Nat.le_of_ble_eq_true rfl) (Nat.le_of_ble_eq_true rfl) dX12_land_87 ⟨j_z0_1, j_crossings_2, j_inns_3, j_steps_4, j_done_5, g_posts_6, g_shut_7, g_here_8, rfl⟩)
            · have c_61n : ¬ (zRd f_all j_z0_1 y_56).toInt ≤ (w_ - w_ / 10 * 10).toInt := fun q => c_61 ((fa_le _ _).mpr q)
              refine lv_aload_n hx hb dX12_land_71 rfl (lv_at hl 1 rfl) ?_
              refine lv_iload_n hx hb dX12_land_72 rfl (lv_at hl 3 rfl) ?_
              refine lv_bipush (v := 10) hx hb dX12_land_73 (by decide) ?_
              refine lv_idiv hx hb dX12_land_75 (by decide) ?_
              refine lv_bipush (v := 10) hx hb dX12_land_76 (by decide) ?_
              refine lv_isub hx hb dX12_land_78 ?_
              refine lv_topi (fun y_62 ey_62 => ?_)
              have ey_62i : y_62.toInt = (w_ / 10).toInt - (10 : Int) := by rw [ey_62]; exact z_isubI (x := (w_ / 10)) (y := (10 : Int32)) (by show -2147483648 ≤ (w_ / 10).toInt - (10 : Int); omega) (by show (w_ / 10).toInt - (10 : Int) < 2147483648; omega)
              refine lv_iload_n hx hb dX12_land_79 rfl (lv_at hl 0 rfl) ?_
              refine z_Vi (bc := [[zO11 mo m_all m_has i_size i_next i_where i_token i_number i_word i_wrong i_farCrossing m_read j_z0_1 j_crossings_2 j_inns_3 m_posts m_shut m_here j_steps_4 j_done_5 i_at i_gone m_was m_came m_seenAt m_rowWorth m_farBy m_used i_everywhere i_again0 i_d0 i_never i_firstCame i_longRun i_moved i_crowd i_l0 i_fitMany i_fitLeast i_fitMost m_fitPost m_fitEnd m_keptPosts i_x0], [zAr T 0 m_all 3952 f_all]]) (br := [[zAr T 0 m_posts 7 g_posts_6], [zAr T 0 m_shut 7 g_shut_7], [zAr T 0 m_here 7 g_here_8]]) (As := [.int y_62, .int (w_ - w_ / 10 * 10)]) (rest := []) C G (c_m_leadsTo l T mo m_all m_has i_size i_next i_where i_token i_number i_word i_wrong i_farCrossing m_read j_z0_1 j_crossings_2 j_inns_3 m_posts m_shut m_here j_steps_4 j_done_5 i_at i_gone m_was m_came m_seenAt m_rowWorth m_farBy m_used i_everywhere i_again0 i_d0 i_never i_firstCame i_longRun i_moved i_crowd i_l0 i_fitMany i_fitLeast i_fitMost m_fitPost m_fitEnd m_keptPosts i_x0 f_all y_62 (w_ - w_ / 10 * 10) (by first | with_reducible assumption | with_reducible rfl | omega | assumption | rfl | decide) (by first | with_reducible assumption | with_reducible rfl | omega | assumption | rfl | decide) (by first | with_reducible assumption | with_reducible rfl | omega | assumption | rfl | decide) (by first | with_reducible assumption | with_reducible rfl | omega | assumption | rfl | decide) (by first | with_reducible assumption | with_reducible rfl | omega | assumption | rfl | decide)) (kV_RX12_190 C.2.2.2.2 (Nat.le_of_ble_eq_true rfl) (Nat.le_of_ble_eq_true rfl)) [3, 4] [3, 0] rfl rfl (ci := 11) (qc := (RX12, TX12, 43)) rfl rfl (List.mem_flatten.mpr ⟨_, List.mem_of_getElem? (i := 0) rfl, List.mem_cons_self⟩) rfl rfl hl.1 dX12_land_80 (Nat.le_of_ble_eq_true rfl) (Nat.le_of_ble_eq_true rfl) (fun r_66 b1 H locs hw G => ?_)
              refine zAn4 hw ?_
              intro hbs9 h_63 h_64 h_65
              clear hw
              subst hbs9
              have G : zS T A s.heap s [[zAr T 0 m_posts 7 g_posts_6], [zAr T 0 m_shut 7 g_shut_7], [zAr T 0 m_here 7 g_here_8], [zO11 mo m_all m_has i_size i_next i_where i_token i_number i_word i_wrong i_farCrossing m_read j_z0_1 j_crossings_2 j_inns_3 m_posts m_shut m_here j_steps_4 j_done_5 i_at i_gone m_was m_came m_seenAt m_rowWorth m_farBy m_used i_everywhere i_again0 i_d0 i_never i_firstCame i_longRun i_moved i_crowd i_l0 i_fitMany i_fitLeast i_fitMost m_fitPost m_fitEnd m_keptPosts i_x0], [zAr T 0 m_all 3952 f_all]] _ _ := G
              subst h_63
              refine lv_goto (tgt := 87) hx hb dX12_land_83 (by decide) ?_
              have G := G.sub (bs' := [[zO11 mo m_all m_has i_size i_next i_where i_token i_number i_word i_wrong i_farCrossing m_read j_z0_1 j_crossings_2 j_inns_3 m_posts m_shut m_here j_steps_4 j_done_5 i_at i_gone m_was m_came m_seenAt m_rowWorth m_farBy m_used i_everywhere i_again0 i_d0 i_never i_firstCame i_longRun i_moved i_crowd i_l0 i_fitMany i_fitLeast i_fitMost m_fitPost m_fitEnd m_keptPosts i_x0], [zAr T 0 m_all 3952 f_all], [zAr T 0 m_posts 7 g_posts_6], [zAr T 0 m_shut 7 g_shut_7], [zAr T 0 m_here 7 g_here_8]]) [3, 4, 0, 1, 2] rfl
              exact z_back hQz_ (z_iret C hr hlocks G (Nat.le_of_ble_eq_true rfl) (Nat.le_of_ble_eq_true rfl) dX12_land_87 ⟨j_z0_1, j_crossings_2, j_inns_3, j_steps_4, j_done_5, g_posts_6, g_shut_7, g_here_8, rfl⟩)
          · have h_55 : (y_50.toInt < 0 ∨ j_crossings_2.toInt ≤ y_50.toInt) := h_55
            refine lv_if_eq (tgt := 86) hx hb dX12_land_53 (by decide) (fun _ => ?_) (fun q => absurd (by decide) q)
            refine lv_iconst (v := (-1)) hx hb dX12_land_86 (by decide) ?_
            have G := G.sub (bs' := [[zO11 mo m_all m_has i_size i_next i_where i_token i_number i_word i_wrong i_farCrossing m_read j_z0_1 j_crossings_2 j_inns_3 m_posts m_shut m_here j_steps_4 j_done_5 i_at i_gone m_was m_came m_seenAt m_rowWorth m_farBy m_used i_everywhere i_again0 i_d0 i_never i_firstCame i_longRun i_moved i_crowd i_l0 i_fitMany i_fitLeast i_fitMost m_fitPost m_fitEnd m_keptPosts i_x0], [zAr T 0 m_all 3952 f_all], [zAr T 0 m_posts 7 g_posts_6], [zAr T 0 m_shut 7 g_shut_7], [zAr T 0 m_here 7 g_here_8]]) [4, 0, 1, 2, 3] rfl
            exact z_back hQz_ (z_iret C hr hlocks G (Nat.le_of_ble_eq_true rfl) (Nat.le_of_ble_eq_true rfl) dX12_land_87 ⟨j_z0_1, j_crossings_2, j_inns_3, j_steps_4, j_done_5, g_posts_6, g_shut_7, g_here_8, rfl⟩)
      · have c_25n : ¬ (2 : Int) ≤ w_.toInt := fun q => c_25 ((fa_le _ _).mpr q)
        refine lv_aload_n hx hb dX12_land_19 rfl (lv_at hl 0 rfl) ?_
        refine z_get C G clX12 0 rfl 0 (by decide) m_fl_RX12_7 rfl dX12_land_20 ?_
        refine lv_aload_n hx hb dX12_land_23 rfl (lv_at hl 0 rfl) ?_
        refine z_get C G clX12 0 rfl 11 (by decide) m_fl_RX12_166 rfl dX12_land_24 ?_
        refine lv_iload_n hx hb dX12_land_27 rfl (lv_at hl 2 rfl) ?_
        refine lv_iadd hx hb dX12_land_28 ?_
        refine lv_topi (fun y_67 ey_67 => ?_)
        have ey_67i : y_67.toInt = j_z0_1.toInt + w_.toInt := by rw [ey_67]; exact z_iaddI (x := j_z0_1) (y := w_) (by show -2147483648 ≤ j_z0_1.toInt + w_.toInt; omega) (by show j_z0_1.toInt + w_.toInt < 2147483648; omega)
        refine z_ild C G 1 rfl (vp_in_iff.mpr ⟨by omega, by omega⟩) dX12_land_29 ?_
        refine lv_topi (fun v_68 ev_68 => ?_)
        subst ev_68
        exact z_back hQz_ (z_iret C hr hlocks G (Nat.le_of_ble_eq_true rfl) (Nat.le_of_ble_eq_true rfl) dX12_land_30 ⟨j_z0_1, j_crossings_2, j_inns_3, j_steps_4, j_done_5, g_posts_6, g_shut_7, g_here_8, rfl⟩)
    · have c_24n : ¬ (0 : Int) ≤ w_.toInt := fun q => c_24 ((fa_le _ _).mpr q)
      refine lv_iconst (v := (-1)) hx hb dX12_land_12 (by decide) ?_
      exact z_back hQz_ (z_iret C hr hlocks G (Nat.le_of_ble_eq_true rfl) (Nat.le_of_ble_eq_true rfl) dX12_land_13 ⟨j_z0_1, j_crossings_2, j_inns_3, j_steps_4, j_done_5, g_posts_6, g_shut_7, g_here_8, rfl⟩)
  · have h_23 : (l_.toInt < 0 ∨ (f_all 0).toInt ≤ l_.toInt) := h_23
    refine lv_if_eq (tgt := 12) hx hb dX12_land_5 (by decide) (fun _ => ?_) (fun q => absurd (by decide) q)
    refine lv_iconst (v := (-1)) hx hb dX12_land_12 (by decide) ?_
    exact z_back hQz_ (z_iret C hr hlocks G (Nat.le_of_ble_eq_true rfl) (Nat.le_of_ble_eq_true rfl) dX12_land_13 ⟨j_z0_1, j_crossings_2, j_inns_3, j_steps_4, j_done_5, g_posts_6, g_shut_7, g_here_8, rfl⟩)
set_option maxHeartbeats 4000000 in
set_option maxRecDepth 100000 in
/-- c_m_walk -/
theorem c_m_walk (l : Launch) (T : zTy) (mo : Nat) (m_all : Nat) (m_has : Nat) (i_size : Int32) (i_next : Int32) (i_where : Int32) (i_token : Int32) (i_number : Int32) (i_word : Int32) (i_wrong : Int32) (i_farCrossing : Int32) (m_read : Nat) (i_z0 : Int32) (i_crossings : Int32) (i_inns : Int32) (m_posts : Nat) (m_shut : Nat) (m_here : Nat) (i_steps : Int32) (i_done : Int32) (i_at : Int32) (i_gone : Int32) (m_was : Nat) (m_came : Nat) (m_seenAt : Nat) (m_rowWorth : Nat) (m_farBy : Nat) (m_used : Nat) (i_everywhere : Int32) (i_again0 : Int32) (i_d0 : Int32) (i_never : Int32) (i_firstCame : Int32) (i_longRun : Int32) (i_moved : Int32) (i_crowd : Int32) (i_l0 : Int32) (i_fitMany : Int32) (i_fitLeast : Int32) (i_fitMost : Int32) (m_fitPost : Nat) (m_fitEnd : Nat) (m_keptPosts : Nat) (i_x0 : Int32) (f_all : Nat → Int32) (f_posts : Nat → Int32) (f_shut : Nat → Int32) (f_here : Nat → Int32) (f_was : Nat → Int32) (l_ : Int32) (c_ : Int32) (w_ : Int32) (hB : zBI f_all) : zMi l T yX12_walk cX12_walk 5 (some .int) 5 0 0 [.ref mo, .int l_, .int c_, .int w_] [[zO11 mo m_all m_has i_size i_next i_where i_token i_number i_word i_wrong i_farCrossing m_read i_z0 i_crossings i_inns m_posts m_shut m_here i_steps i_done i_at i_gone m_was m_came m_seenAt m_rowWorth m_farBy m_used i_everywhere i_again0 i_d0 i_never i_firstCame i_longRun i_moved i_crowd i_l0 i_fitMany i_fitLeast i_fitMost m_fitPost m_fitEnd m_keptPosts i_x0], [zAr T 0 m_all 3952 f_all], [zAr T 0 m_posts 7 f_posts], [zAr T 0 m_shut 7 f_shut], [zAr T 0 m_here 7 f_here], [zAr T 0 m_was 7 f_was]] (fun (r : Int32) bs => ∃ (j_z0 : Int32) (j_crossings : Int32) (j_inns : Int32) (j_steps : Int32) (j_done : Int32) (j_at : Int32) (j_gone : Int32) (g_posts : Nat → Int32) (g_shut : Nat → Int32) (g_here : Nat → Int32) (g_was : Nat → Int32), bs = [[zO11 mo m_all m_has i_size i_next i_where i_token i_number i_word i_wrong i_farCrossing m_read j_z0 j_crossings j_inns m_posts m_shut m_here j_steps j_done j_at j_gone m_was m_came m_seenAt m_rowWorth m_farBy m_used i_everywhere i_again0 i_d0 i_never i_firstCame i_longRun i_moved i_crowd i_l0 i_fitMany i_fitLeast i_fitMost m_fitPost m_fitEnd m_keptPosts i_x0], [zAr T 0 m_all 3952 f_all], [zAr T 0 m_posts 7 g_posts], [zAr T 0 m_shut 7 g_shut], [zAr T 0 m_here 7 g_here], [zAr T 0 m_was 7 g_was]]) := by
  refine zMi_of (own := RX12) (by decide) rfl (Nat.le_of_ble_eq_true rfl) ?_
  intro p e s m args below meth c A ls C hr hlocks hnm hAe G hl
  refine zHide (fun Qz_ hQz_ => ?_)
  have hx := C.1
  have hb := C.2.1
  have hl : lv_has ls 5 [(0, .ref mo), (1, .int l_), (2, .int c_), (3, .int w_)] := hl
  refine lv_aload_n hx hb dX12_walk_0 rfl (lv_at hl 0 rfl) ?_
  refine lv_iload_n hx hb dX12_walk_1 rfl (lv_at hl 1 rfl) ?_
  refine z_Vi (bc := [[zO11 mo m_all m_has i_size i_next i_where i_token i_number i_word i_wrong i_farCrossing m_read i_z0 i_crossings i_inns m_posts m_shut m_here i_steps i_done i_at i_gone m_was m_came m_seenAt m_rowWorth m_farBy m_used i_everywhere i_again0 i_d0 i_never i_firstCame i_longRun i_moved i_crowd i_l0 i_fitMany i_fitLeast i_fitMost m_fitPost m_fitEnd m_keptPosts i_x0], [zAr T 0 m_all 3952 f_all], [zAr T 0 m_posts 7 f_posts], [zAr T 0 m_shut 7 f_shut], [zAr T 0 m_here 7 f_here]]) (br := [[zAr T 0 m_was 7 f_was]]) (As := [.int l_]) (rest := []) C G (c_m_isLand l T mo m_all m_has i_size i_next i_where i_token i_number i_word i_wrong i_farCrossing m_read i_z0 i_crossings i_inns m_posts m_shut m_here i_steps i_done i_at i_gone m_was m_came m_seenAt m_rowWorth m_farBy m_used i_everywhere i_again0 i_d0 i_never i_firstCame i_longRun i_moved i_crowd i_l0 i_fitMany i_fitLeast i_fitMost m_fitPost m_fitEnd m_keptPosts i_x0 f_all f_posts f_shut f_here l_ (by first | with_reducible assumption | with_reducible rfl | omega | assumption | rfl | decide)) (kV_RX12_184 C.2.2.2.2 (Nat.le_of_ble_eq_true rfl) (Nat.le_of_ble_eq_true rfl)) [0, 1, 2, 3, 4] [0, 0, 0, 0, 0] rfl rfl (ci := 11) (qc := (RX12, TX12, 43)) rfl rfl (List.mem_flatten.mpr ⟨_, List.mem_of_getElem? (i := 0) rfl, List.mem_cons_self⟩) rfl rfl hl.1 dX12_walk_2 (Nat.le_of_ble_eq_true rfl) (Nat.le_of_ble_eq_true rfl) (fun r_10 b1 H locs hw G => ?_)
  refine zEx8 hw ?_
  intro j_z0_1 j_crossings_2 j_inns_3 j_steps_4 j_done_5 g_posts_6 g_shut_7 g_here_8
  refine zCu2 ?_
  intro hbs9 hc_9
  clear hw
  subst hbs9
  have G : zS T A s.heap s [[zAr T 0 m_was 7 f_was], [zO11 mo m_all m_has i_size i_next i_where i_token i_number i_word i_wrong i_farCrossing m_read j_z0_1 j_crossings_2 j_inns_3 m_posts m_shut m_here j_steps_4 j_done_5 i_at i_gone m_was m_came m_seenAt m_rowWorth m_farBy m_used i_everywhere i_again0 i_d0 i_never i_firstCame i_longRun i_moved i_crowd i_l0 i_fitMany i_fitLeast i_fitMost m_fitPost m_fitEnd m_keptPosts i_x0], [zAr T 0 m_all 3952 f_all], [zAr T 0 m_posts 7 g_posts_6], [zAr T 0 m_shut 7 g_shut_7], [zAr T 0 m_here 7 g_here_8]] _ _ := G
  rcases hc_9 with ⟨rfl, h_11, h_12, h_13, h_14, h_15, h_16, h_17, h_18, h_19, h_20, h_21, h_22⟩ | ⟨rfl, h_23⟩
  · have h_11 : 0 ≤ l_.toInt := h_11
    have h_12 : l_.toInt ≤ 1 := h_12
    have h_13 : l_.toInt < (f_all 0).toInt := h_13
    have h_14 : j_z0_1.toInt = 610 + 51 * l_.toInt := h_14
    have h_15 : zML f_all j_z0_1 j_crossings_2 := h_15
    have h_16 : zMP g_posts_6 := h_16
    have h_17 : j_inns_3 = f_all (j_z0_1.toInt.toNat + 1) := h_17
    have h_18 : j_steps_4 = 0 := h_18
    have h_19 : j_done_5 = 0 := h_19
    have h_20 : (∀ j, j < 7 → g_posts_6 j = zPt f_all j_z0_1 (nI j)) := h_20
    have h_21 : (∀ j, j < 7 → g_shut_7 j = 0) := h_21
    have h_22 : (∀ j, j < 7 → g_here_8 j = zWk f_all j_z0_1 j) := h_22
    have hLx := h_15
    have hcr := hLx.cr
    have hzx := hLx.1
    have hPx := h_16
    refine lv_if_eq (tgt := 16) hx hb dX12_walk_5 (by decide) (fun q => absurd q (by decide)) (fun _ => ?_)
    refine lv_aload_n hx hb dX12_walk_8 rfl (lv_at hl 0 rfl) ?_
    refine lv_iload_n hx hb dX12_walk_9 rfl (lv_at hl 2 rfl) ?_
    refine z_Vi (bc := [[zO11 mo m_all m_has i_size i_next i_where i_token i_number i_word i_wrong i_farCrossing m_read j_z0_1 j_crossings_2 j_inns_3 m_posts m_shut m_here j_steps_4 j_done_5 i_at i_gone m_was m_came m_seenAt m_rowWorth m_farBy m_used i_everywhere i_again0 i_d0 i_never i_firstCame i_longRun i_moved i_crowd i_l0 i_fitMany i_fitLeast i_fitMost m_fitPost m_fitEnd m_keptPosts i_x0]]) (br := [[zAr T 0 m_was 7 f_was], [zAr T 0 m_all 3952 f_all], [zAr T 0 m_posts 7 g_posts_6], [zAr T 0 m_shut 7 g_shut_7], [zAr T 0 m_here 7 g_here_8]]) (As := [.int c_]) (rest := []) C G (c_m_isCrossing l T mo m_all m_has i_size i_next i_where i_token i_number i_word i_wrong i_farCrossing m_read j_z0_1 j_crossings_2 j_inns_3 m_posts m_shut m_here j_steps_4 j_done_5 i_at i_gone m_was m_came m_seenAt m_rowWorth m_farBy m_used i_everywhere i_again0 i_d0 i_never i_firstCame i_longRun i_moved i_crowd i_l0 i_fitMany i_fitLeast i_fitMost m_fitPost m_fitEnd m_keptPosts i_x0 c_ (by first | with_reducible assumption | with_reducible rfl | omega | assumption | rfl | decide)) (kV_RX12_187 C.2.2.2.2 (Nat.le_of_ble_eq_true rfl) (Nat.le_of_ble_eq_true rfl)) [1] [1] rfl rfl (ci := 11) (qc := (RX12, TX12, 43)) rfl rfl (List.mem_flatten.mpr ⟨_, List.mem_of_getElem? (i := 0) rfl, List.mem_cons_self⟩) rfl rfl hl.1 dX12_walk_10 (Nat.le_of_ble_eq_true rfl) (Nat.le_of_ble_eq_true rfl) (fun r_25 b1 H locs hw G => ?_)
    refine zAn2 hw ?_
    intro hbs9 hc_24
    clear hw
    subst hbs9
    have G : zS T A s.heap s [[zAr T 0 m_was 7 f_was], [zAr T 0 m_all 3952 f_all], [zAr T 0 m_posts 7 g_posts_6], [zAr T 0 m_shut 7 g_shut_7], [zAr T 0 m_here 7 g_here_8], [zO11 mo m_all m_has i_size i_next i_where i_token i_number i_word i_wrong i_farCrossing m_read j_z0_1 j_crossings_2 j_inns_3 m_posts m_shut m_here j_steps_4 j_done_5 i_at i_gone m_was m_came m_seenAt m_rowWorth m_farBy m_used i_everywhere i_again0 i_d0 i_never i_firstCame i_longRun i_moved i_crowd i_l0 i_fitMany i_fitLeast i_fitMost m_fitPost m_fitEnd m_keptPosts i_x0]] _ _ := G
    rcases hc_24 with ⟨rfl, h_26, h_27⟩ | ⟨rfl, h_28⟩
    · have h_26 : 0 ≤ c_.toInt := h_26
      have h_27 : c_.toInt < j_crossings_2.toInt := h_27
      refine lv_if_ne (tgt := 19) hx hb dX12_walk_13 (by decide) (fun _ => ?_) (fun q => absurd q (by decide))
      refine lv_aload_n hx hb dX12_walk_19 rfl (lv_at hl 0 rfl) ?_
      refine lv_iload_n hx hb dX12_walk_20 rfl (lv_at hl 2 rfl) ?_
      refine z_Vi (bc := [[zO11 mo m_all m_has i_size i_next i_where i_token i_number i_word i_wrong i_farCrossing m_read j_z0_1 j_crossings_2 j_inns_3 m_posts m_shut m_here j_steps_4 j_done_5 i_at i_gone m_was m_came m_seenAt m_rowWorth m_farBy m_used i_everywhere i_again0 i_d0 i_never i_firstCame i_longRun i_moved i_crowd i_l0 i_fitMany i_fitLeast i_fitMost m_fitPost m_fitEnd m_keptPosts i_x0], [zAr T 0 m_all 3952 f_all], [zAr T 0 m_posts 7 g_posts_6], [zAr T 0 m_shut 7 g_shut_7], [zAr T 0 m_was 7 f_was]]) (br := [[zAr T 0 m_here 7 g_here_8]]) (As := [.int c_]) (rest := []) C G (c_m_walks l T mo m_all m_has i_size i_next i_where i_token i_number i_word i_wrong i_farCrossing m_read j_z0_1 j_crossings_2 j_inns_3 m_posts m_shut m_here j_steps_4 j_done_5 i_at i_gone m_was m_came m_seenAt m_rowWorth m_farBy m_used i_everywhere i_again0 i_d0 i_never i_firstCame i_longRun i_moved i_crowd i_l0 i_fitMany i_fitLeast i_fitMost m_fitPost m_fitEnd m_keptPosts i_x0 f_all g_posts_6 g_shut_7 f_was c_ (by first | with_reducible assumption | with_reducible rfl | omega | assumption | rfl | decide) (by first | with_reducible assumption | with_reducible rfl | omega | assumption | rfl | decide) (by first | with_reducible assumption | with_reducible rfl | omega | assumption | rfl | decide) (by first | with_reducible assumption | with_reducible rfl | omega | assumption | rfl | decide)) (kV_RX12_217 C.2.2.2.2 (Nat.le_of_ble_eq_true rfl) (Nat.le_of_ble_eq_true rfl)) [5, 1, 2, 3, 0] [0, 0, 0, 0, 1] rfl rfl (ci := 11) (qc := (RX12, TX12, 43)) rfl rfl (List.mem_flatten.mpr ⟨_, List.mem_of_getElem? (i := 0) rfl, List.mem_cons_self⟩) rfl rfl hl.1 dX12_walk_21 (Nat.le_of_ble_eq_true rfl) (Nat.le_of_ble_eq_true rfl) (fun r_39 b1 H locs hw G => ?_)
      refine zEx4 hw ?_
      intro j_at_29 j_gone_30 g_posts_31 g_was_32
      refine zCu7 ?_
      intro hbs9 h_33 h_34 h_35 h_36 h_37 h_38
      clear hw
      subst hbs9
      have G : zS T A s.heap s [[zAr T 0 m_here 7 g_here_8], [zO11 mo m_all m_has i_size i_next i_where i_token i_number i_word i_wrong i_farCrossing m_read j_z0_1 j_crossings_2 j_inns_3 m_posts m_shut m_here j_steps_4 j_done_5 j_at_29 j_gone_30 m_was m_came m_seenAt m_rowWorth m_farBy m_used i_everywhere i_again0 i_d0 i_never i_firstCame i_longRun i_moved i_crowd i_l0 i_fitMany i_fitLeast i_fitMost m_fitPost m_fitEnd m_keptPosts i_x0], [zAr T 0 m_all 3952 f_all], [zAr T 0 m_posts 7 g_posts_31], [zAr T 0 m_shut 7 g_shut_7], [zAr T 0 m_was 7 g_was_32]] _ _ := G
      replace h_33 : zHd ((r_39 = 0 ∨ r_39 = 1)) := h_33
      refine lv_istore (lv' := [(4, .int r_39), (0, .ref mo), (1, .int l_), (2, .int c_), (3, .int w_)]) hx hb dX12_walk_24 hl (by decide) (zLvf_h rfl) (fun ls hl => ?_)
      refine lv_iload_n hx hb dX12_walk_26 rfl (lv_at hl 4 rfl) ?_
      by_cases c_40o : w_.toInt < 0 ∨ 2 < w_.toInt
      · refine lv_tableOut (tgt := 73) hx hb dX12_walk_27 c_40o (by decide) ?_
        refine lv_iload_n hx hb dX12_walk_73 rfl (lv_at hl 4 rfl) ?_
        refine lv_bipush (v := 10) hx hb dX12_walk_74 (by decide) ?_
        refine lv_bipush (v := 16) hx hb dX12_walk_76 (by decide) ?_
        refine z_Si (bc := []) (br := [[zAr T 0 m_here 7 g_here_8], [zO11 mo m_all m_has i_size i_next i_where i_token i_number i_word i_wrong i_farCrossing m_read j_z0_1 j_crossings_2 j_inns_3 m_posts m_shut m_here j_steps_4 j_done_5 j_at_29 j_gone_30 m_was m_came m_seenAt m_rowWorth m_farBy m_used i_everywhere i_again0 i_d0 i_never i_firstCame i_longRun i_moved i_crowd i_l0 i_fitMany i_fitLeast i_fitMost m_fitPost m_fitEnd m_keptPosts i_x0], [zAr T 0 m_all 3952 f_all], [zAr T 0 m_posts 7 g_posts_31], [zAr T 0 m_shut 7 g_shut_7], [zAr T 0 m_was 7 g_was_32]]) (As := [.int w_, .int 10, .int 16]) (rest := []) C G (c_m_isIn l T w_ 10 16) (kS_RX12_111 C.2.2.2.2 (Nat.le_of_ble_eq_true rfl) (Nat.le_of_ble_eq_true rfl)) [] [] rfl rfl rfl rfl hl.1 dX12_walk_78 (Nat.le_of_ble_eq_true rfl) (Nat.le_of_ble_eq_true rfl) (fun r_42 b1 H locs hw G => ?_)
        refine zAn2 hw ?_
        intro hbs9 hc_41
        clear hw
        subst hbs9
        have G : zS T A s.heap s [[zAr T 0 m_here 7 g_here_8], [zO11 mo m_all m_has i_size i_next i_where i_token i_number i_word i_wrong i_farCrossing m_read j_z0_1 j_crossings_2 j_inns_3 m_posts m_shut m_here j_steps_4 j_done_5 j_at_29 j_gone_30 m_was m_came m_seenAt m_rowWorth m_farBy m_used i_everywhere i_again0 i_d0 i_never i_firstCame i_longRun i_moved i_crowd i_l0 i_fitMany i_fitLeast i_fitMost m_fitPost m_fitEnd m_keptPosts i_x0], [zAr T 0 m_all 3952 f_all], [zAr T 0 m_posts 7 g_posts_31], [zAr T 0 m_shut 7 g_shut_7], [zAr T 0 m_was 7 g_was_32]] _ _ := G
        rcases hc_41 with ⟨rfl, h_43, h_44⟩ | ⟨rfl, h_45⟩
        · have h_43 : (10 : Int) ≤ w_.toInt := h_43
          have h_44 : w_.toInt ≤ (16 : Int) := h_44
          refine lv_if_eq (tgt := 107) hx hb dX12_walk_81 (by decide) (fun q => absurd q (by decide)) (fun _ => ?_)
          refine lv_aload_n hx hb dX12_walk_84 rfl (lv_at hl 1 rfl) ?_
          refine lv_iload_n hx hb dX12_walk_85 rfl (lv_at hl 4 rfl) ?_
          refine lv_bipush (v := 10) hx hb dX12_walk_86 (by decide) ?_
          refine lv_isub hx hb dX12_walk_88 ?_
          refine lv_topi (fun y_46 ey_46 => ?_)
          have ey_46i : y_46.toInt = w_.toInt - (10 : Int) := by rw [ey_46]; exact z_isubI (x := w_) (y := (10 : Int32)) (by show -2147483648 ≤ w_.toInt - (10 : Int); omega) (by show w_.toInt - (10 : Int) < 2147483648; omega)
          refine z_Vi (bc := [[zO11 mo m_all m_has i_size i_next i_where i_token i_number i_word i_wrong i_farCrossing m_read j_z0_1 j_crossings_2 j_inns_3 m_posts m_shut m_here j_steps_4 j_done_5 j_at_29 j_gone_30 m_was m_came m_seenAt m_rowWorth m_farBy m_used i_everywhere i_again0 i_d0 i_never i_firstCame i_longRun i_moved i_crowd i_l0 i_fitMany i_fitLeast i_fitMost m_fitPost m_fitEnd m_keptPosts i_x0]]) (br := [[zAr T 0 m_here 7 g_here_8], [zAr T 0 m_all 3952 f_all], [zAr T 0 m_posts 7 g_posts_31], [zAr T 0 m_shut 7 g_shut_7], [zAr T 0 m_was 7 g_was_32]]) (As := [.int y_46]) (rest := []) C G (c_m_isCrossing l T mo m_all m_has i_size i_next i_where i_token i_number i_word i_wrong i_farCrossing m_read j_z0_1 j_crossings_2 j_inns_3 m_posts m_shut m_here j_steps_4 j_done_5 j_at_29 j_gone_30 m_was m_came m_seenAt m_rowWorth m_farBy m_used i_everywhere i_again0 i_d0 i_never i_firstCame i_longRun i_moved i_crowd i_l0 i_fitMany i_fitLeast i_fitMost m_fitPost m_fitEnd m_keptPosts i_x0 y_46 (by first | with_reducible assumption | with_reducible rfl | omega | assumption | rfl | decide)) (kV_RX12_187 C.2.2.2.2 (Nat.le_of_ble_eq_true rfl) (Nat.le_of_ble_eq_true rfl)) [1] [1] rfl rfl (ci := 11) (qc := (RX12, TX12, 43)) rfl rfl (List.mem_flatten.mpr ⟨_, List.mem_of_getElem? (i := 0) rfl, List.mem_cons_self⟩) rfl rfl hl.1 dX12_walk_89 (Nat.le_of_ble_eq_true rfl) (Nat.le_of_ble_eq_true rfl) (fun r_48 b1 H locs hw G => ?_)
          refine zAn2 hw ?_
          intro hbs9 hc_47
          clear hw
          subst hbs9
          have G : zS T A s.heap s [[zAr T 0 m_here 7 g_here_8], [zAr T 0 m_all 3952 f_all], [zAr T 0 m_posts 7 g_posts_31], [zAr T 0 m_shut 7 g_shut_7], [zAr T 0 m_was 7 g_was_32], [zO11 mo m_all m_has i_size i_next i_where i_token i_number i_word i_wrong i_farCrossing m_read j_z0_1 j_crossings_2 j_inns_3 m_posts m_shut m_here j_steps_4 j_done_5 j_at_29 j_gone_30 m_was m_came m_seenAt m_rowWorth m_farBy m_used i_everywhere i_again0 i_d0 i_never i_firstCame i_longRun i_moved i_crowd i_l0 i_fitMany i_fitLeast i_fitMost m_fitPost m_fitEnd m_keptPosts i_x0]] _ _ := G
          rcases hc_47 with ⟨rfl, h_49, h_50⟩ | ⟨rfl, h_51⟩
          · have h_49 : 0 ≤ y_46.toInt := h_49
            have h_50 : y_46.toInt < j_crossings_2.toInt := h_50
            refine lv_if_eq (tgt := 107) hx hb dX12_walk_92 (by decide) (fun q => absurd q (by decide)) (fun _ => ?_)
            refine lv_aload_n hx hb dX12_walk_95 rfl (lv_at hl 1 rfl) ?_
            refine z_get C G clX12 5 rfl 21 (by decide) m_fl_RX12_29 rfl dX12_walk_96 ?_
            refine lv_iload_n hx hb dX12_walk_99 rfl (lv_at hl 4 rfl) ?_
            refine lv_bipush (v := 10) hx hb dX12_walk_100 (by decide) ?_
            refine lv_isub hx hb dX12_walk_102 ?_
            refine lv_topi (fun y_52 ey_52 => ?_)
            have ey_52i : y_52.toInt = w_.toInt - (10 : Int) := by rw [ey_52]; exact z_isubI (x := w_) (y := (10 : Int32)) (by show -2147483648 ≤ w_.toInt - (10 : Int); omega) (by show w_.toInt - (10 : Int) < 2147483648; omega)
            refine z_ild C G 4 rfl (vp_in_iff.mpr ⟨by omega, by omega⟩) dX12_walk_103 ?_
            refine lv_topi (fun v_53 ev_53 => ?_)
            subst ev_53
            refine lv_goto (tgt := 109) hx hb dX12_walk_104 (by decide) ?_
            have G := G.sub (bs' := [[zO11 mo m_all m_has i_size i_next i_where i_token i_number i_word i_wrong i_farCrossing m_read j_z0_1 j_crossings_2 j_inns_3 m_posts m_shut m_here j_steps_4 j_done_5 j_at_29 j_gone_30 m_was m_came m_seenAt m_rowWorth m_farBy m_used i_everywhere i_again0 i_d0 i_never i_firstCame i_longRun i_moved i_crowd i_l0 i_fitMany i_fitLeast i_fitMost m_fitPost m_fitEnd m_keptPosts i_x0], [zAr T 0 m_all 3952 f_all], [zAr T 0 m_posts 7 g_posts_31], [zAr T 0 m_shut 7 g_shut_7], [zAr T 0 m_here 7 g_here_8], [zAr T 0 m_was 7 g_was_32]]) [5, 1, 2, 3, 0, 4] rfl
            exact z_back hQz_ (z_iret C hr hlocks G (Nat.le_of_ble_eq_true rfl) (Nat.le_of_ble_eq_true rfl) dX12_walk_109 ⟨j_z0_1, j_crossings_2, j_inns_3, j_steps_4, j_done_5, j_at_29, j_gone_30, g_posts_31, g_shut_7, g_here_8, g_was_32, rfl⟩)
          · have h_51 : (y_46.toInt < 0 ∨ j_crossings_2.toInt ≤ y_46.toInt) := h_51
            refine lv_if_eq (tgt := 107) hx hb dX12_walk_92 (by decide) (fun _ => ?_) (fun q => absurd (by decide) q)
            refine lv_bipush (v := (-2)) hx hb dX12_walk_107 (by decide) ?_
            have G := G.sub (bs' := [[zO11 mo m_all m_has i_size i_next i_where i_token i_number i_word i_wrong i_farCrossing m_read j_z0_1 j_crossings_2 j_inns_3 m_posts m_shut m_here j_steps_4 j_done_5 j_at_29 j_gone_30 m_was m_came m_seenAt m_rowWorth m_farBy m_used i_everywhere i_again0 i_d0 i_never i_firstCame i_longRun i_moved i_crowd i_l0 i_fitMany i_fitLeast i_fitMost m_fitPost m_fitEnd m_keptPosts i_x0], [zAr T 0 m_all 3952 f_all], [zAr T 0 m_posts 7 g_posts_31], [zAr T 0 m_shut 7 g_shut_7], [zAr T 0 m_here 7 g_here_8], [zAr T 0 m_was 7 g_was_32]]) [5, 1, 2, 3, 0, 4] rfl
            exact z_back hQz_ (z_iret C hr hlocks G (Nat.le_of_ble_eq_true rfl) (Nat.le_of_ble_eq_true rfl) dX12_walk_109 ⟨j_z0_1, j_crossings_2, j_inns_3, j_steps_4, j_done_5, j_at_29, j_gone_30, g_posts_31, g_shut_7, g_here_8, g_was_32, rfl⟩)
        · have h_45 : (w_.toInt < (10 : Int) ∨ (16 : Int) < w_.toInt) := h_45
          refine lv_if_eq (tgt := 107) hx hb dX12_walk_81 (by decide) (fun _ => ?_) (fun q => absurd (by decide) q)
          refine lv_bipush (v := (-2)) hx hb dX12_walk_107 (by decide) ?_
          have G := G.sub (bs' := [[zO11 mo m_all m_has i_size i_next i_where i_token i_number i_word i_wrong i_farCrossing m_read j_z0_1 j_crossings_2 j_inns_3 m_posts m_shut m_here j_steps_4 j_done_5 j_at_29 j_gone_30 m_was m_came m_seenAt m_rowWorth m_farBy m_used i_everywhere i_again0 i_d0 i_never i_firstCame i_longRun i_moved i_crowd i_l0 i_fitMany i_fitLeast i_fitMost m_fitPost m_fitEnd m_keptPosts i_x0], [zAr T 0 m_all 3952 f_all], [zAr T 0 m_posts 7 g_posts_31], [zAr T 0 m_shut 7 g_shut_7], [zAr T 0 m_here 7 g_here_8], [zAr T 0 m_was 7 g_was_32]]) [1, 2, 3, 4, 0, 5] rfl
          exact z_back hQz_ (z_iret C hr hlocks G (Nat.le_of_ble_eq_true rfl) (Nat.le_of_ble_eq_true rfl) dX12_walk_109 ⟨j_z0_1, j_crossings_2, j_inns_3, j_steps_4, j_done_5, j_at_29, j_gone_30, g_posts_31, g_shut_7, g_here_8, g_was_32, rfl⟩)
      · have c_40r : w_.toInt = 0 ∨ w_.toInt = 1 ∨ w_.toInt = 2 := by omega
        rcases c_40r with c_40 | c_40 | c_40
        · refine lv_tableIn (tgt := 52) hx hb dX12_walk_27 (by first | (rw [c_40]; decide) | omega) (by first | (rw [c_40]; decide) | omega) (by rw [c_40]; rfl) (by decide) ?_
          refine lv_aload_n hx hb dX12_walk_52 rfl (lv_at hl 1 rfl) ?_
          refine z_get C G clX12 1 rfl 20 (by decide) m_fl_RX12_208 rfl dX12_walk_53 ?_
          have G := G.sub (bs' := [[zO11 mo m_all m_has i_size i_next i_where i_token i_number i_word i_wrong i_farCrossing m_read j_z0_1 j_crossings_2 j_inns_3 m_posts m_shut m_here j_steps_4 j_done_5 j_at_29 j_gone_30 m_was m_came m_seenAt m_rowWorth m_farBy m_used i_everywhere i_again0 i_d0 i_never i_firstCame i_longRun i_moved i_crowd i_l0 i_fitMany i_fitLeast i_fitMost m_fitPost m_fitEnd m_keptPosts i_x0], [zAr T 0 m_all 3952 f_all], [zAr T 0 m_posts 7 g_posts_31], [zAr T 0 m_shut 7 g_shut_7], [zAr T 0 m_here 7 g_here_8], [zAr T 0 m_was 7 g_was_32]]) [1, 2, 3, 4, 0, 5] rfl
          exact z_back hQz_ (z_iret C hr hlocks G (Nat.le_of_ble_eq_true rfl) (Nat.le_of_ble_eq_true rfl) dX12_walk_56 ⟨j_z0_1, j_crossings_2, j_inns_3, j_steps_4, j_done_5, j_at_29, j_gone_30, g_posts_31, g_shut_7, g_here_8, g_was_32, rfl⟩)
        · refine lv_tableIn (tgt := 57) hx hb dX12_walk_27 (by first | (rw [c_40]; decide) | omega) (by first | (rw [c_40]; decide) | omega) (by rw [c_40]; rfl) (by decide) ?_
          refine lv_aload_n hx hb dX12_walk_57 rfl (lv_at hl 1 rfl) ?_
          refine z_get C G clX12 1 rfl 19 (by decide) m_fl_RX12_202 rfl dX12_walk_58 ?_
          have G := G.sub (bs' := [[zO11 mo m_all m_has i_size i_next i_where i_token i_number i_word i_wrong i_farCrossing m_read j_z0_1 j_crossings_2 j_inns_3 m_posts m_shut m_here j_steps_4 j_done_5 j_at_29 j_gone_30 m_was m_came m_seenAt m_rowWorth m_farBy m_used i_everywhere i_again0 i_d0 i_never i_firstCame i_longRun i_moved i_crowd i_l0 i_fitMany i_fitLeast i_fitMost m_fitPost m_fitEnd m_keptPosts i_x0], [zAr T 0 m_all 3952 f_all], [zAr T 0 m_posts 7 g_posts_31], [zAr T 0 m_shut 7 g_shut_7], [zAr T 0 m_here 7 g_here_8], [zAr T 0 m_was 7 g_was_32]]) [1, 2, 3, 4, 0, 5] rfl
          exact z_back hQz_ (z_iret C hr hlocks G (Nat.le_of_ble_eq_true rfl) (Nat.le_of_ble_eq_true rfl) dX12_walk_61 ⟨j_z0_1, j_crossings_2, j_inns_3, j_steps_4, j_done_5, j_at_29, j_gone_30, g_posts_31, g_shut_7, g_here_8, g_was_32, rfl⟩)
        · refine lv_tableIn (tgt := 62) hx hb dX12_walk_27 (by first | (rw [c_40]; decide) | omega) (by first | (rw [c_40]; decide) | omega) (by rw [c_40]; rfl) (by decide) ?_
          refine lv_iload hx hb dX12_walk_62 (lv_at hl 0 rfl) ?_
          refine lv_if_eq (tgt := 71) hx hb dX12_walk_64 (by decide) (fun c_54 => ?_) (fun c_54 => ?_)
          · have c_54n : r_39.toInt = (0 : Int) := (fa_eq _ _).mp c_54
            refine lv_iconst (v := 0) hx hb dX12_walk_71 (by decide) ?_
            have G := G.sub (bs' := [[zO11 mo m_all m_has i_size i_next i_where i_token i_number i_word i_wrong i_farCrossing m_read j_z0_1 j_crossings_2 j_inns_3 m_posts m_shut m_here j_steps_4 j_done_5 j_at_29 j_gone_30 m_was m_came m_seenAt m_rowWorth m_farBy m_used i_everywhere i_again0 i_d0 i_never i_firstCame i_longRun i_moved i_crowd i_l0 i_fitMany i_fitLeast i_fitMost m_fitPost m_fitEnd m_keptPosts i_x0], [zAr T 0 m_all 3952 f_all], [zAr T 0 m_posts 7 g_posts_31], [zAr T 0 m_shut 7 g_shut_7], [zAr T 0 m_here 7 g_here_8], [zAr T 0 m_was 7 g_was_32]]) [1, 2, 3, 4, 0, 5] rfl
            exact z_back hQz_ (z_iret C hr hlocks G (Nat.le_of_ble_eq_true rfl) (Nat.le_of_ble_eq_true rfl) dX12_walk_72 ⟨j_z0_1, j_crossings_2, j_inns_3, j_steps_4, j_done_5, j_at_29, j_gone_30, g_posts_31, g_shut_7, g_here_8, g_was_32, rfl⟩)
          · have c_54n : ¬ r_39.toInt = (0 : Int) := fun q => c_54 ((fa_eq _ _).mpr q)
            refine lv_iconst (v := 1) hx hb dX12_walk_67 (by decide) ?_
            refine lv_goto (tgt := 72) hx hb dX12_walk_68 (by decide) ?_
            have G := G.sub (bs' := [[zO11 mo m_all m_has i_size i_next i_where i_token i_number i_word i_wrong i_farCrossing m_read j_z0_1 j_crossings_2 j_inns_3 m_posts m_shut m_here j_steps_4 j_done_5 j_at_29 j_gone_30 m_was m_came m_seenAt m_rowWorth m_farBy m_used i_everywhere i_again0 i_d0 i_never i_firstCame i_longRun i_moved i_crowd i_l0 i_fitMany i_fitLeast i_fitMost m_fitPost m_fitEnd m_keptPosts i_x0], [zAr T 0 m_all 3952 f_all], [zAr T 0 m_posts 7 g_posts_31], [zAr T 0 m_shut 7 g_shut_7], [zAr T 0 m_here 7 g_here_8], [zAr T 0 m_was 7 g_was_32]]) [1, 2, 3, 4, 0, 5] rfl
            exact z_back hQz_ (z_iret C hr hlocks G (Nat.le_of_ble_eq_true rfl) (Nat.le_of_ble_eq_true rfl) dX12_walk_72 ⟨j_z0_1, j_crossings_2, j_inns_3, j_steps_4, j_done_5, j_at_29, j_gone_30, g_posts_31, g_shut_7, g_here_8, g_was_32, rfl⟩)
    · have h_28 : (c_.toInt < 0 ∨ j_crossings_2.toInt ≤ c_.toInt) := h_28
      refine lv_if_ne (tgt := 19) hx hb dX12_walk_13 (by decide) (fun q => absurd (by decide) q) (fun _ => ?_)
      refine lv_bipush (v := (-2)) hx hb dX12_walk_16 (by decide) ?_
      have G := G.sub (bs' := [[zO11 mo m_all m_has i_size i_next i_where i_token i_number i_word i_wrong i_farCrossing m_read j_z0_1 j_crossings_2 j_inns_3 m_posts m_shut m_here j_steps_4 j_done_5 i_at i_gone m_was m_came m_seenAt m_rowWorth m_farBy m_used i_everywhere i_again0 i_d0 i_never i_firstCame i_longRun i_moved i_crowd i_l0 i_fitMany i_fitLeast i_fitMost m_fitPost m_fitEnd m_keptPosts i_x0], [zAr T 0 m_all 3952 f_all], [zAr T 0 m_posts 7 g_posts_6], [zAr T 0 m_shut 7 g_shut_7], [zAr T 0 m_here 7 g_here_8], [zAr T 0 m_was 7 f_was]]) [5, 1, 2, 3, 4, 0] rfl
      exact z_back hQz_ (z_iret C hr hlocks G (Nat.le_of_ble_eq_true rfl) (Nat.le_of_ble_eq_true rfl) dX12_walk_18 ⟨j_z0_1, j_crossings_2, j_inns_3, j_steps_4, j_done_5, i_at, i_gone, g_posts_6, g_shut_7, g_here_8, f_was, rfl⟩)
  · have h_23 : (l_.toInt < 0 ∨ (f_all 0).toInt ≤ l_.toInt) := h_23
    refine lv_if_eq (tgt := 16) hx hb dX12_walk_5 (by decide) (fun _ => ?_) (fun q => absurd (by decide) q)
    refine lv_bipush (v := (-2)) hx hb dX12_walk_16 (by decide) ?_
    have G := G.sub (bs' := [[zO11 mo m_all m_has i_size i_next i_where i_token i_number i_word i_wrong i_farCrossing m_read j_z0_1 j_crossings_2 j_inns_3 m_posts m_shut m_here j_steps_4 j_done_5 i_at i_gone m_was m_came m_seenAt m_rowWorth m_farBy m_used i_everywhere i_again0 i_d0 i_never i_firstCame i_longRun i_moved i_crowd i_l0 i_fitMany i_fitLeast i_fitMost m_fitPost m_fitEnd m_keptPosts i_x0], [zAr T 0 m_all 3952 f_all], [zAr T 0 m_posts 7 g_posts_6], [zAr T 0 m_shut 7 g_shut_7], [zAr T 0 m_here 7 g_here_8], [zAr T 0 m_was 7 f_was]]) [1, 2, 3, 4, 5, 0] rfl
    exact z_back hQz_ (z_iret C hr hlocks G (Nat.le_of_ble_eq_true rfl) (Nat.le_of_ble_eq_true rfl) dX12_walk_18 ⟨j_z0_1, j_crossings_2, j_inns_3, j_steps_4, j_done_5, i_at, i_gone, g_posts_6, g_shut_7, g_here_8, f_was, rfl⟩)
set_option maxHeartbeats 4000000 in
set_option maxRecDepth 100000 in
/-- c_m_come -/
theorem c_m_come (l : Launch) (T : zTy) (mo : Nat) (m_all : Nat) (m_has : Nat) (i_size : Int32) (i_next : Int32) (i_where : Int32) (i_token : Int32) (i_number : Int32) (i_word : Int32) (i_wrong : Int32) (i_farCrossing : Int32) (m_read : Nat) (i_z0 : Int32) (i_crossings : Int32) (i_inns : Int32) (m_posts : Nat) (m_shut : Nat) (m_here : Nat) (i_steps : Int32) (i_done : Int32) (i_at : Int32) (i_gone : Int32) (m_was : Nat) (m_came : Nat) (m_seenAt : Nat) (m_rowWorth : Nat) (m_farBy : Nat) (m_used : Nat) (i_everywhere : Int32) (i_again0 : Int32) (i_d0 : Int32) (i_never : Int32) (i_firstCame : Int32) (i_longRun : Int32) (i_moved : Int32) (i_crowd : Int32) (i_l0 : Int32) (i_fitMany : Int32) (i_fitLeast : Int32) (i_fitMost : Int32) (m_fitPost : Nat) (m_fitEnd : Nat) (m_keptPosts : Nat) (i_x0 : Int32) (f_all : Nat → Int32) (f_posts : Nat → Int32) (f_shut : Nat → Int32) (f_here : Nat → Int32) (f_was : Nat → Int32) (l_ : Int32) (c_ : Int32) (k_ : Int32) (hB : zBI f_all) : zMi l T yX12_come cX12_come 5 (some .int) 5 0 0 [.ref mo, .int l_, .int c_, .int k_] [[zO11 mo m_all m_has i_size i_next i_where i_token i_number i_word i_wrong i_farCrossing m_read i_z0 i_crossings i_inns m_posts m_shut m_here i_steps i_done i_at i_gone m_was m_came m_seenAt m_rowWorth m_farBy m_used i_everywhere i_again0 i_d0 i_never i_firstCame i_longRun i_moved i_crowd i_l0 i_fitMany i_fitLeast i_fitMost m_fitPost m_fitEnd m_keptPosts i_x0], [zAr T 0 m_all 3952 f_all], [zAr T 0 m_posts 7 f_posts], [zAr T 0 m_shut 7 f_shut], [zAr T 0 m_here 7 f_here], [zAr T 0 m_was 7 f_was]] (fun (r : Int32) bs => ∃ (j_z0 : Int32) (j_crossings : Int32) (j_inns : Int32) (j_steps : Int32) (j_done : Int32) (j_at : Int32) (j_gone : Int32) (g_posts : Nat → Int32) (g_shut : Nat → Int32) (g_here : Nat → Int32) (g_was : Nat → Int32), bs = [[zO11 mo m_all m_has i_size i_next i_where i_token i_number i_word i_wrong i_farCrossing m_read j_z0 j_crossings j_inns m_posts m_shut m_here j_steps j_done j_at j_gone m_was m_came m_seenAt m_rowWorth m_farBy m_used i_everywhere i_again0 i_d0 i_never i_firstCame i_longRun i_moved i_crowd i_l0 i_fitMany i_fitLeast i_fitMost m_fitPost m_fitEnd m_keptPosts i_x0], [zAr T 0 m_all 3952 f_all], [zAr T 0 m_posts 7 g_posts], [zAr T 0 m_shut 7 g_shut], [zAr T 0 m_here 7 g_here], [zAr T 0 m_was 7 g_was]]) := by
  refine zMi_of (own := RX12) (by decide) rfl (Nat.le_of_ble_eq_true rfl) ?_
  intro p e s m args below meth c A ls C hr hlocks hnm hAe G hl
  refine zHide (fun Qz_ hQz_ => ?_)
  have hx := C.1
  have hb := C.2.1
  have hl : lv_has ls 5 [(0, .ref mo), (1, .int l_), (2, .int c_), (3, .int k_)] := hl
  refine lv_aload_n hx hb dX12_come_0 rfl (lv_at hl 0 rfl) ?_
  refine lv_iload_n hx hb dX12_come_1 rfl (lv_at hl 1 rfl) ?_
  refine z_Vi (bc := [[zO11 mo m_all m_has i_size i_next i_where i_token i_number i_word i_wrong i_farCrossing m_read i_z0 i_crossings i_inns m_posts m_shut m_here i_steps i_done i_at i_gone m_was m_came m_seenAt m_rowWorth m_farBy m_used i_everywhere i_again0 i_d0 i_never i_firstCame i_longRun i_moved i_crowd i_l0 i_fitMany i_fitLeast i_fitMost m_fitPost m_fitEnd m_keptPosts i_x0], [zAr T 0 m_all 3952 f_all], [zAr T 0 m_posts 7 f_posts], [zAr T 0 m_shut 7 f_shut], [zAr T 0 m_here 7 f_here]]) (br := [[zAr T 0 m_was 7 f_was]]) (As := [.int l_]) (rest := []) C G (c_m_isLand l T mo m_all m_has i_size i_next i_where i_token i_number i_word i_wrong i_farCrossing m_read i_z0 i_crossings i_inns m_posts m_shut m_here i_steps i_done i_at i_gone m_was m_came m_seenAt m_rowWorth m_farBy m_used i_everywhere i_again0 i_d0 i_never i_firstCame i_longRun i_moved i_crowd i_l0 i_fitMany i_fitLeast i_fitMost m_fitPost m_fitEnd m_keptPosts i_x0 f_all f_posts f_shut f_here l_ (by first | with_reducible assumption | with_reducible rfl | omega | assumption | rfl | decide)) (kV_RX12_184 C.2.2.2.2 (Nat.le_of_ble_eq_true rfl) (Nat.le_of_ble_eq_true rfl)) [0, 1, 2, 3, 4] [0, 0, 0, 0, 0] rfl rfl (ci := 11) (qc := (RX12, TX12, 43)) rfl rfl (List.mem_flatten.mpr ⟨_, List.mem_of_getElem? (i := 0) rfl, List.mem_cons_self⟩) rfl rfl hl.1 dX12_come_2 (Nat.le_of_ble_eq_true rfl) (Nat.le_of_ble_eq_true rfl) (fun r_10 b1 H locs hw G => ?_)
  refine zEx8 hw ?_
  intro j_z0_1 j_crossings_2 j_inns_3 j_steps_4 j_done_5 g_posts_6 g_shut_7 g_here_8
  refine zCu2 ?_
  intro hbs9 hc_9
  clear hw
  subst hbs9
  have G : zS T A s.heap s [[zAr T 0 m_was 7 f_was], [zO11 mo m_all m_has i_size i_next i_where i_token i_number i_word i_wrong i_farCrossing m_read j_z0_1 j_crossings_2 j_inns_3 m_posts m_shut m_here j_steps_4 j_done_5 i_at i_gone m_was m_came m_seenAt m_rowWorth m_farBy m_used i_everywhere i_again0 i_d0 i_never i_firstCame i_longRun i_moved i_crowd i_l0 i_fitMany i_fitLeast i_fitMost m_fitPost m_fitEnd m_keptPosts i_x0], [zAr T 0 m_all 3952 f_all], [zAr T 0 m_posts 7 g_posts_6], [zAr T 0 m_shut 7 g_shut_7], [zAr T 0 m_here 7 g_here_8]] _ _ := G
  rcases hc_9 with ⟨rfl, h_11, h_12, h_13, h_14, h_15, h_16, h_17, h_18, h_19, h_20, h_21, h_22⟩ | ⟨rfl, h_23⟩
  · have h_11 : 0 ≤ l_.toInt := h_11
    have h_12 : l_.toInt ≤ 1 := h_12
    have h_13 : l_.toInt < (f_all 0).toInt := h_13
    have h_14 : j_z0_1.toInt = 610 + 51 * l_.toInt := h_14
    have h_15 : zML f_all j_z0_1 j_crossings_2 := h_15
    have h_16 : zMP g_posts_6 := h_16
    have h_17 : j_inns_3 = f_all (j_z0_1.toInt.toNat + 1) := h_17
    have h_18 : j_steps_4 = 0 := h_18
    have h_19 : j_done_5 = 0 := h_19
    have h_20 : (∀ j, j < 7 → g_posts_6 j = zPt f_all j_z0_1 (nI j)) := h_20
    have h_21 : (∀ j, j < 7 → g_shut_7 j = 0) := h_21
    have h_22 : (∀ j, j < 7 → g_here_8 j = zWk f_all j_z0_1 j) := h_22
    have hLx := h_15
    have hcr := hLx.cr
    have hzx := hLx.1
    have hPx := h_16
    refine lv_if_eq (tgt := 26) hx hb dX12_come_5 (by decide) (fun q => absurd q (by decide)) (fun _ => ?_)
    refine lv_aload_n hx hb dX12_come_8 rfl (lv_at hl 0 rfl) ?_
    refine lv_iload_n hx hb dX12_come_9 rfl (lv_at hl 2 rfl) ?_
    refine z_Vi (bc := [[zO11 mo m_all m_has i_size i_next i_where i_token i_number i_word i_wrong i_farCrossing m_read j_z0_1 j_crossings_2 j_inns_3 m_posts m_shut m_here j_steps_4 j_done_5 i_at i_gone m_was m_came m_seenAt m_rowWorth m_farBy m_used i_everywhere i_again0 i_d0 i_never i_firstCame i_longRun i_moved i_crowd i_l0 i_fitMany i_fitLeast i_fitMost m_fitPost m_fitEnd m_keptPosts i_x0]]) (br := [[zAr T 0 m_was 7 f_was], [zAr T 0 m_all 3952 f_all], [zAr T 0 m_posts 7 g_posts_6], [zAr T 0 m_shut 7 g_shut_7], [zAr T 0 m_here 7 g_here_8]]) (As := [.int c_]) (rest := []) C G (c_m_isCrossing l T mo m_all m_has i_size i_next i_where i_token i_number i_word i_wrong i_farCrossing m_read j_z0_1 j_crossings_2 j_inns_3 m_posts m_shut m_here j_steps_4 j_done_5 i_at i_gone m_was m_came m_seenAt m_rowWorth m_farBy m_used i_everywhere i_again0 i_d0 i_never i_firstCame i_longRun i_moved i_crowd i_l0 i_fitMany i_fitLeast i_fitMost m_fitPost m_fitEnd m_keptPosts i_x0 c_ (by first | with_reducible assumption | with_reducible rfl | omega | assumption | rfl | decide)) (kV_RX12_187 C.2.2.2.2 (Nat.le_of_ble_eq_true rfl) (Nat.le_of_ble_eq_true rfl)) [1] [1] rfl rfl (ci := 11) (qc := (RX12, TX12, 43)) rfl rfl (List.mem_flatten.mpr ⟨_, List.mem_of_getElem? (i := 0) rfl, List.mem_cons_self⟩) rfl rfl hl.1 dX12_come_10 (Nat.le_of_ble_eq_true rfl) (Nat.le_of_ble_eq_true rfl) (fun r_25 b1 H locs hw G => ?_)
    refine zAn2 hw ?_
    intro hbs9 hc_24
    clear hw
    subst hbs9
    have G : zS T A s.heap s [[zAr T 0 m_was 7 f_was], [zAr T 0 m_all 3952 f_all], [zAr T 0 m_posts 7 g_posts_6], [zAr T 0 m_shut 7 g_shut_7], [zAr T 0 m_here 7 g_here_8], [zO11 mo m_all m_has i_size i_next i_where i_token i_number i_word i_wrong i_farCrossing m_read j_z0_1 j_crossings_2 j_inns_3 m_posts m_shut m_here j_steps_4 j_done_5 i_at i_gone m_was m_came m_seenAt m_rowWorth m_farBy m_used i_everywhere i_again0 i_d0 i_never i_firstCame i_longRun i_moved i_crowd i_l0 i_fitMany i_fitLeast i_fitMost m_fitPost m_fitEnd m_keptPosts i_x0]] _ _ := G
    rcases hc_24 with ⟨rfl, h_26, h_27⟩ | ⟨rfl, h_28⟩
    · have h_26 : 0 ≤ c_.toInt := h_26
      have h_27 : c_.toInt < j_crossings_2.toInt := h_27
      refine lv_if_eq (tgt := 26) hx hb dX12_come_13 (by decide) (fun q => absurd q (by decide)) (fun _ => ?_)
      refine lv_iload_n hx hb dX12_come_16 rfl (lv_at hl 3 rfl) ?_
      refine lv_iconst (v := 1) hx hb dX12_come_17 (by decide) ?_
      refine lv_bipush (v := 99) hx hb dX12_come_18 (by decide) ?_
      refine z_Si (bc := []) (br := [[zAr T 0 m_was 7 f_was], [zAr T 0 m_all 3952 f_all], [zAr T 0 m_posts 7 g_posts_6], [zAr T 0 m_shut 7 g_shut_7], [zAr T 0 m_here 7 g_here_8], [zO11 mo m_all m_has i_size i_next i_where i_token i_number i_word i_wrong i_farCrossing m_read j_z0_1 j_crossings_2 j_inns_3 m_posts m_shut m_here j_steps_4 j_done_5 i_at i_gone m_was m_came m_seenAt m_rowWorth m_farBy m_used i_everywhere i_again0 i_d0 i_never i_firstCame i_longRun i_moved i_crowd i_l0 i_fitMany i_fitLeast i_fitMost m_fitPost m_fitEnd m_keptPosts i_x0]]) (As := [.int k_, .int 1, .int 99]) (rest := []) C G (c_m_isIn l T k_ 1 99) (kS_RX12_111 C.2.2.2.2 (Nat.le_of_ble_eq_true rfl) (Nat.le_of_ble_eq_true rfl)) [] [] rfl rfl rfl rfl hl.1 dX12_come_20 (Nat.le_of_ble_eq_true rfl) (Nat.le_of_ble_eq_true rfl) (fun r_30 b1 H locs hw G => ?_)
      refine zAn2 hw ?_
      intro hbs9 hc_29
      clear hw
      subst hbs9
      have G : zS T A s.heap s [[zAr T 0 m_was 7 f_was], [zAr T 0 m_all 3952 f_all], [zAr T 0 m_posts 7 g_posts_6], [zAr T 0 m_shut 7 g_shut_7], [zAr T 0 m_here 7 g_here_8], [zO11 mo m_all m_has i_size i_next i_where i_token i_number i_word i_wrong i_farCrossing m_read j_z0_1 j_crossings_2 j_inns_3 m_posts m_shut m_here j_steps_4 j_done_5 i_at i_gone m_was m_came m_seenAt m_rowWorth m_farBy m_used i_everywhere i_again0 i_d0 i_never i_firstCame i_longRun i_moved i_crowd i_l0 i_fitMany i_fitLeast i_fitMost m_fitPost m_fitEnd m_keptPosts i_x0]] _ _ := G
      rcases hc_29 with ⟨rfl, h_31, h_32⟩ | ⟨rfl, h_33⟩
      · have h_31 : (1 : Int) ≤ k_.toInt := h_31
        have h_32 : k_.toInt ≤ (99 : Int) := h_32
        refine lv_if_ne (tgt := 28) hx hb dX12_come_23 (by decide) (fun _ => ?_) (fun q => absurd q (by decide))
        refine lv_iconst (v := 0) hx hb dX12_come_28 (by decide) ?_
        refine lv_istore (lv' := [(4, .int 0), (0, .ref mo), (1, .int l_), (2, .int c_), (3, .int k_)]) hx hb dX12_come_29 hl (by decide) (zLvf_h rfl) (fun ls hl => ?_)
        refine z_lp5 (T := T) 31 (fun (i : Nat) (xat : Int32) (xgone : Int32) (xposts : Nat → Int32) (xwas : Nat → Int32) => [[zAr T 0 m_was 7 xwas], [zAr T 0 m_all 3952 f_all], [zAr T 0 m_posts 7 xposts], [zAr T 0 m_shut 7 g_shut_7], [zAr T 0 m_here 7 g_here_8], [zO11 mo m_all m_has i_size i_next i_where i_token i_number i_word i_wrong i_farCrossing m_read j_z0_1 j_crossings_2 j_inns_3 m_posts m_shut m_here j_steps_4 j_done_5 xat xgone m_was m_came m_seenAt m_rowWorth m_farBy m_used i_everywhere i_again0 i_d0 i_never i_firstCame i_longRun i_moved i_crowd i_l0 i_fitMany i_fitLeast i_fitMost m_fitPost m_fitEnd m_keptPosts i_x0]]) (fun (i : Nat) (xat : Int32) (xgone : Int32) (xposts : Nat → Int32) (xwas : Nat → Int32) => [(4, .int (nI i)), (0, .ref mo), (1, .int l_), (2, .int c_), (3, .int k_)]) (fun (i : Nat) (xat : Int32) (xgone : Int32) (xposts : Nat → Int32) (xwas : Nat → Int32) => i ≤ 99 ∧ zMP xposts) (fun (i : Nat) (xat : Int32) (xgone : Int32) (xposts : Nat → Int32) (xwas : Nat → Int32) => 99 - i) ?_ 0 i_at i_gone g_posts_6 f_was (show 0 ≤ 99 ∧ zMP g_posts_6 from ⟨by omega, (by first | with_reducible assumption | assumption)⟩) G (lv_sub hl [0, 1, 2, 3, 4] rfl)
        intro i xat xgone xposts xwas hI9 ih_31 H locs ls G hl
        replace hI9 : i ≤ 99 ∧ zMP xposts := hI9
        refine zAn2 hI9 ?_
        intro hi hQ
        clear hI9
        replace G : zS T A s.heap s [[zAr T 0 m_was 7 xwas], [zAr T 0 m_all 3952 f_all], [zAr T 0 m_posts 7 xposts], [zAr T 0 m_shut 7 g_shut_7], [zAr T 0 m_here 7 g_here_8], [zO11 mo m_all m_has i_size i_next i_where i_token i_number i_word i_wrong i_farCrossing m_read j_z0_1 j_crossings_2 j_inns_3 m_posts m_shut m_here j_steps_4 j_done_5 xat xgone m_was m_came m_seenAt m_rowWorth m_farBy m_used i_everywhere i_again0 i_d0 i_never i_firstCame i_longRun i_moved i_crowd i_l0 i_fitMany i_fitLeast i_fitMost m_fitPost m_fitEnd m_keptPosts i_x0]] _ _ := G
        replace hl : lv_has ls 5 [(4, .int (nI i)), (0, .ref mo), (1, .int l_), (2, .int c_), (3, .int k_)] := hl
        refine lv_iload hx hb dX12_come_31 (lv_at hl 0 rfl) ?_
        refine lv_iload_n hx hb dX12_come_33 rfl (lv_at hl 4 rfl) ?_
        refine lv_icmp_ge (tgt := 49) hx hb dX12_come_34 (by decide) (fun c_34 => ?_) (fun c_34 => ?_)
        · have c_34n : k_.toInt ≤ (i : Int) := by have q := (fa_le _ _).mp c_34; rw [nI_toInt (n := i) (by omega)] at q; exact q
          refine lv_aload_n hx hb dX12_come_49 rfl (lv_at hl 1 rfl) ?_
          refine z_get C G clX12 5 rfl 19 (by decide) m_fl_RX12_202 rfl dX12_come_50 ?_
          have G := G.sub (bs' := [[zO11 mo m_all m_has i_size i_next i_where i_token i_number i_word i_wrong i_farCrossing m_read j_z0_1 j_crossings_2 j_inns_3 m_posts m_shut m_here j_steps_4 j_done_5 xat xgone m_was m_came m_seenAt m_rowWorth m_farBy m_used i_everywhere i_again0 i_d0 i_never i_firstCame i_longRun i_moved i_crowd i_l0 i_fitMany i_fitLeast i_fitMost m_fitPost m_fitEnd m_keptPosts i_x0], [zAr T 0 m_all 3952 f_all], [zAr T 0 m_posts 7 xposts], [zAr T 0 m_shut 7 g_shut_7], [zAr T 0 m_here 7 g_here_8], [zAr T 0 m_was 7 xwas]]) [5, 1, 2, 3, 4, 0] rfl
          exact z_back hQz_ (z_iret C hr hlocks G (Nat.le_of_ble_eq_true rfl) (Nat.le_of_ble_eq_true rfl) dX12_come_53 ⟨j_z0_1, j_crossings_2, j_inns_3, j_steps_4, j_done_5, xat, xgone, xposts, g_shut_7, g_here_8, xwas, rfl⟩)
        · have c_34n : ¬ k_.toInt ≤ (i : Int) := fun q => c_34 ((fa_le _ _).mpr (by rw [nI_toInt (n := i) (by omega)]; exact q))
          refine lv_aload_n hx hb dX12_come_37 rfl (lv_at hl 1 rfl) ?_
          refine lv_iload_n hx hb dX12_come_38 rfl (lv_at hl 3 rfl) ?_
          refine z_Vi (bc := [[zO11 mo m_all m_has i_size i_next i_where i_token i_number i_word i_wrong i_farCrossing m_read j_z0_1 j_crossings_2 j_inns_3 m_posts m_shut m_here j_steps_4 j_done_5 xat xgone m_was m_came m_seenAt m_rowWorth m_farBy m_used i_everywhere i_again0 i_d0 i_never i_firstCame i_longRun i_moved i_crowd i_l0 i_fitMany i_fitLeast i_fitMost m_fitPost m_fitEnd m_keptPosts i_x0], [zAr T 0 m_all 3952 f_all], [zAr T 0 m_posts 7 xposts], [zAr T 0 m_shut 7 g_shut_7], [zAr T 0 m_was 7 xwas]]) (br := [[zAr T 0 m_here 7 g_here_8]]) (As := [.int c_]) (rest := []) C G (c_m_walks l T mo m_all m_has i_size i_next i_where i_token i_number i_word i_wrong i_farCrossing m_read j_z0_1 j_crossings_2 j_inns_3 m_posts m_shut m_here j_steps_4 j_done_5 xat xgone m_was m_came m_seenAt m_rowWorth m_farBy m_used i_everywhere i_again0 i_d0 i_never i_firstCame i_longRun i_moved i_crowd i_l0 i_fitMany i_fitLeast i_fitMost m_fitPost m_fitEnd m_keptPosts i_x0 f_all xposts g_shut_7 xwas c_ (by first | with_reducible assumption | with_reducible rfl | omega | assumption | rfl | decide) (by first | with_reducible assumption | with_reducible rfl | omega | assumption | rfl | decide) (by first | with_reducible assumption | with_reducible rfl | omega | assumption | rfl | decide) (by first | with_reducible assumption | with_reducible rfl | omega | assumption | rfl | decide)) (kV_RX12_217 C.2.2.2.2 (Nat.le_of_ble_eq_true rfl) (Nat.le_of_ble_eq_true rfl)) [5, 1, 2, 3, 0] [0, 0, 0, 0, 1] rfl rfl (ci := 11) (qc := (RX12, TX12, 43)) rfl rfl (List.mem_flatten.mpr ⟨_, List.mem_of_getElem? (i := 0) rfl, List.mem_cons_self⟩) rfl rfl hl.1 dX12_come_39 (Nat.le_of_ble_eq_true rfl) (Nat.le_of_ble_eq_true rfl) (fun r_45 b1 H locs hw G => ?_)
          refine zEx4 hw ?_
          intro j_at_35 j_gone_36 g_posts_37 g_was_38
          refine zCu7 ?_
          intro hbs9 h_39 h_40 h_41 h_42 h_43 h_44
          clear hw
          subst hbs9
          have G : zS T A s.heap s [[zAr T 0 m_here 7 g_here_8], [zO11 mo m_all m_has i_size i_next i_where i_token i_number i_word i_wrong i_farCrossing m_read j_z0_1 j_crossings_2 j_inns_3 m_posts m_shut m_here j_steps_4 j_done_5 j_at_35 j_gone_36 m_was m_came m_seenAt m_rowWorth m_farBy m_used i_everywhere i_again0 i_d0 i_never i_firstCame i_longRun i_moved i_crowd i_l0 i_fitMany i_fitLeast i_fitMost m_fitPost m_fitEnd m_keptPosts i_x0], [zAr T 0 m_all 3952 f_all], [zAr T 0 m_posts 7 g_posts_37], [zAr T 0 m_shut 7 g_shut_7], [zAr T 0 m_was 7 g_was_38]] _ _ := G
          replace h_39 : zHd ((r_45 = 0 ∨ r_45 = 1)) := h_39
          refine lv_pop hx hb dX12_come_42 rfl ?_
          refine lv_iinc (v := nI (i + 1)) (lv' := [(4, .int (nI (i + 1))), (0, .ref mo), (1, .int l_), (2, .int c_), (3, .int k_)]) hx hb dX12_come_43 hl (k := 0) rfl (z_inc i 1) (by decide) (zLvf_h rfl) (fun ls hl => ?_)
          refine lv_goto (tgt := 31) hx hb dX12_come_46 (by decide) ?_
          have G := G.sub (bs' := [[zAr T 0 m_was 7 g_was_38], [zAr T 0 m_all 3952 f_all], [zAr T 0 m_posts 7 g_posts_37], [zAr T 0 m_shut 7 g_shut_7], [zAr T 0 m_here 7 g_here_8], [zO11 mo m_all m_has i_size i_next i_where i_token i_number i_word i_wrong i_farCrossing m_read j_z0_1 j_crossings_2 j_inns_3 m_posts m_shut m_here j_steps_4 j_done_5 j_at_35 j_gone_36 m_was m_came m_seenAt m_rowWorth m_farBy m_used i_everywhere i_again0 i_d0 i_never i_firstCame i_longRun i_moved i_crowd i_l0 i_fitMany i_fitLeast i_fitMost m_fitPost m_fitEnd m_keptPosts i_x0]]) [5, 2, 3, 4, 0, 1] rfl
          exact ih_31 (i + 1) j_at_35 j_gone_36 g_posts_37 g_was_38 (show (i + 1) ≤ 99 ∧ zMP g_posts_37 from ⟨by omega, (by first | with_reducible assumption | assumption)⟩) (show 99 - (i + 1) < 99 - i from by omega) _ _ ls G (lv_sub hl [0, 1, 2, 3, 4] rfl)
      · have h_33 : (k_.toInt < (1 : Int) ∨ (99 : Int) < k_.toInt) := h_33
        refine lv_if_ne (tgt := 28) hx hb dX12_come_23 (by decide) (fun q => absurd (by decide) q) (fun _ => ?_)
        refine lv_iconst (v := (-1)) hx hb dX12_come_26 (by decide) ?_
        have G := G.sub (bs' := [[zO11 mo m_all m_has i_size i_next i_where i_token i_number i_word i_wrong i_farCrossing m_read j_z0_1 j_crossings_2 j_inns_3 m_posts m_shut m_here j_steps_4 j_done_5 i_at i_gone m_was m_came m_seenAt m_rowWorth m_farBy m_used i_everywhere i_again0 i_d0 i_never i_firstCame i_longRun i_moved i_crowd i_l0 i_fitMany i_fitLeast i_fitMost m_fitPost m_fitEnd m_keptPosts i_x0], [zAr T 0 m_all 3952 f_all], [zAr T 0 m_posts 7 g_posts_6], [zAr T 0 m_shut 7 g_shut_7], [zAr T 0 m_here 7 g_here_8], [zAr T 0 m_was 7 f_was]]) [5, 1, 2, 3, 4, 0] rfl
        exact z_back hQz_ (z_iret C hr hlocks G (Nat.le_of_ble_eq_true rfl) (Nat.le_of_ble_eq_true rfl) dX12_come_27 ⟨j_z0_1, j_crossings_2, j_inns_3, j_steps_4, j_done_5, i_at, i_gone, g_posts_6, g_shut_7, g_here_8, f_was, rfl⟩)
    · have h_28 : (c_.toInt < 0 ∨ j_crossings_2.toInt ≤ c_.toInt) := h_28
      refine lv_if_eq (tgt := 26) hx hb dX12_come_13 (by decide) (fun _ => ?_) (fun q => absurd (by decide) q)
      refine lv_iconst (v := (-1)) hx hb dX12_come_26 (by decide) ?_
      have G := G.sub (bs' := [[zO11 mo m_all m_has i_size i_next i_where i_token i_number i_word i_wrong i_farCrossing m_read j_z0_1 j_crossings_2 j_inns_3 m_posts m_shut m_here j_steps_4 j_done_5 i_at i_gone m_was m_came m_seenAt m_rowWorth m_farBy m_used i_everywhere i_again0 i_d0 i_never i_firstCame i_longRun i_moved i_crowd i_l0 i_fitMany i_fitLeast i_fitMost m_fitPost m_fitEnd m_keptPosts i_x0], [zAr T 0 m_all 3952 f_all], [zAr T 0 m_posts 7 g_posts_6], [zAr T 0 m_shut 7 g_shut_7], [zAr T 0 m_here 7 g_here_8], [zAr T 0 m_was 7 f_was]]) [5, 1, 2, 3, 4, 0] rfl
      exact z_back hQz_ (z_iret C hr hlocks G (Nat.le_of_ble_eq_true rfl) (Nat.le_of_ble_eq_true rfl) dX12_come_27 ⟨j_z0_1, j_crossings_2, j_inns_3, j_steps_4, j_done_5, i_at, i_gone, g_posts_6, g_shut_7, g_here_8, f_was, rfl⟩)
  · have h_23 : (l_.toInt < 0 ∨ (f_all 0).toInt ≤ l_.toInt) := h_23
    refine lv_if_eq (tgt := 26) hx hb dX12_come_5 (by decide) (fun _ => ?_) (fun q => absurd (by decide) q)
    refine lv_iconst (v := (-1)) hx hb dX12_come_26 (by decide) ?_
    have G := G.sub (bs' := [[zO11 mo m_all m_has i_size i_next i_where i_token i_number i_word i_wrong i_farCrossing m_read j_z0_1 j_crossings_2 j_inns_3 m_posts m_shut m_here j_steps_4 j_done_5 i_at i_gone m_was m_came m_seenAt m_rowWorth m_farBy m_used i_everywhere i_again0 i_d0 i_never i_firstCame i_longRun i_moved i_crowd i_l0 i_fitMany i_fitLeast i_fitMost m_fitPost m_fitEnd m_keptPosts i_x0], [zAr T 0 m_all 3952 f_all], [zAr T 0 m_posts 7 g_posts_6], [zAr T 0 m_shut 7 g_shut_7], [zAr T 0 m_here 7 g_here_8], [zAr T 0 m_was 7 f_was]]) [1, 2, 3, 4, 5, 0] rfl
    exact z_back hQz_ (z_iret C hr hlocks G (Nat.le_of_ble_eq_true rfl) (Nat.le_of_ble_eq_true rfl) dX12_come_27 ⟨j_z0_1, j_crossings_2, j_inns_3, j_steps_4, j_done_5, i_at, i_gone, g_posts_6, g_shut_7, g_here_8, f_was, rfl⟩)
set_option maxHeartbeats 4000000 in
set_option maxRecDepth 100000 in
/-- c_m_share -/
theorem c_m_share (l : Launch) (T : zTy) (mo : Nat) (m_all : Nat) (m_has : Nat) (i_size : Int32) (i_next : Int32) (i_where : Int32) (i_token : Int32) (i_number : Int32) (i_word : Int32) (i_wrong : Int32) (i_farCrossing : Int32) (m_read : Nat) (i_z0 : Int32) (i_crossings : Int32) (i_inns : Int32) (m_posts : Nat) (m_shut : Nat) (m_here : Nat) (i_steps : Int32) (i_done : Int32) (i_at : Int32) (i_gone : Int32) (m_was : Nat) (m_came : Nat) (m_seenAt : Nat) (m_rowWorth : Nat) (m_farBy : Nat) (m_used : Nat) (i_everywhere : Int32) (i_again0 : Int32) (i_d0 : Int32) (i_never : Int32) (i_firstCame : Int32) (i_longRun : Int32) (i_moved : Int32) (i_crowd : Int32) (i_l0 : Int32) (i_fitMany : Int32) (i_fitLeast : Int32) (i_fitMost : Int32) (m_fitPost : Nat) (m_fitEnd : Nat) (m_keptPosts : Nat) (i_x0 : Int32) (f_all : Nat → Int32) (f_posts : Nat → Int32) (f_shut : Nat → Int32) (f_here : Nat → Int32) (f_was : Nat → Int32) (l_ : Int32) (c_ : Int32) (k_ : Int32) (n_ : Int32) (hB : zBI f_all) : zMi l T yX12_share cX12_share 7 (some .int) 5 0 0 [.ref mo, .int l_, .int c_, .int k_, .int n_] [[zO11 mo m_all m_has i_size i_next i_where i_token i_number i_word i_wrong i_farCrossing m_read i_z0 i_crossings i_inns m_posts m_shut m_here i_steps i_done i_at i_gone m_was m_came m_seenAt m_rowWorth m_farBy m_used i_everywhere i_again0 i_d0 i_never i_firstCame i_longRun i_moved i_crowd i_l0 i_fitMany i_fitLeast i_fitMost m_fitPost m_fitEnd m_keptPosts i_x0], [zAr T 0 m_all 3952 f_all], [zAr T 0 m_posts 7 f_posts], [zAr T 0 m_shut 7 f_shut], [zAr T 0 m_here 7 f_here], [zAr T 0 m_was 7 f_was]] (fun (r : Int32) bs => ∃ (j_z0 : Int32) (j_crossings : Int32) (j_inns : Int32) (j_steps : Int32) (j_done : Int32) (j_at : Int32) (j_gone : Int32) (g_posts : Nat → Int32) (g_shut : Nat → Int32) (g_here : Nat → Int32) (g_was : Nat → Int32), bs = [[zO11 mo m_all m_has i_size i_next i_where i_token i_number i_word i_wrong i_farCrossing m_read j_z0 j_crossings j_inns m_posts m_shut m_here j_steps j_done j_at j_gone m_was m_came m_seenAt m_rowWorth m_farBy m_used i_everywhere i_again0 i_d0 i_never i_firstCame i_longRun i_moved i_crowd i_l0 i_fitMany i_fitLeast i_fitMost m_fitPost m_fitEnd m_keptPosts i_x0], [zAr T 0 m_all 3952 f_all], [zAr T 0 m_posts 7 g_posts], [zAr T 0 m_shut 7 g_shut], [zAr T 0 m_here 7 g_here], [zAr T 0 m_was 7 g_was]]) := by
  refine zMi_of (own := RX12) (by decide) rfl (Nat.le_of_ble_eq_true rfl) ?_
  intro p e s m args below meth c A ls C hr hlocks hnm hAe G hl
  refine zHide (fun Qz_ hQz_ => ?_)
  have hx := C.1
  have hb := C.2.1
  have hl : lv_has ls 7 [(0, .ref mo), (1, .int l_), (2, .int c_), (3, .int k_), (4, .int n_)] := hl
  refine lv_aload_n hx hb dX12_share_0 rfl (lv_at hl 0 rfl) ?_
  refine lv_iload_n hx hb dX12_share_1 rfl (lv_at hl 1 rfl) ?_
  refine z_Vi (bc := [[zO11 mo m_all m_has i_size i_next i_where i_token i_number i_word i_wrong i_farCrossing m_read i_z0 i_crossings i_inns m_posts m_shut m_here i_steps i_done i_at i_gone m_was m_came m_seenAt m_rowWorth m_farBy m_used i_everywhere i_again0 i_d0 i_never i_firstCame i_longRun i_moved i_crowd i_l0 i_fitMany i_fitLeast i_fitMost m_fitPost m_fitEnd m_keptPosts i_x0], [zAr T 0 m_all 3952 f_all], [zAr T 0 m_posts 7 f_posts], [zAr T 0 m_shut 7 f_shut], [zAr T 0 m_here 7 f_here]]) (br := [[zAr T 0 m_was 7 f_was]]) (As := [.int l_]) (rest := []) C G (c_m_isLand l T mo m_all m_has i_size i_next i_where i_token i_number i_word i_wrong i_farCrossing m_read i_z0 i_crossings i_inns m_posts m_shut m_here i_steps i_done i_at i_gone m_was m_came m_seenAt m_rowWorth m_farBy m_used i_everywhere i_again0 i_d0 i_never i_firstCame i_longRun i_moved i_crowd i_l0 i_fitMany i_fitLeast i_fitMost m_fitPost m_fitEnd m_keptPosts i_x0 f_all f_posts f_shut f_here l_ (by first | with_reducible assumption | with_reducible rfl | omega | assumption | rfl | decide)) (kV_RX12_184 C.2.2.2.2 (Nat.le_of_ble_eq_true rfl) (Nat.le_of_ble_eq_true rfl)) [0, 1, 2, 3, 4] [0, 0, 0, 0, 0] rfl rfl (ci := 11) (qc := (RX12, TX12, 43)) rfl rfl (List.mem_flatten.mpr ⟨_, List.mem_of_getElem? (i := 0) rfl, List.mem_cons_self⟩) rfl rfl hl.1 dX12_share_2 (Nat.le_of_ble_eq_true rfl) (Nat.le_of_ble_eq_true rfl) (fun r_10 b1 H locs hw G => ?_)
  refine zEx8 hw ?_
  intro j_z0_1 j_crossings_2 j_inns_3 j_steps_4 j_done_5 g_posts_6 g_shut_7 g_here_8
  refine zCu2 ?_
  intro hbs9 hc_9
  clear hw
  subst hbs9
  have G : zS T A s.heap s [[zAr T 0 m_was 7 f_was], [zO11 mo m_all m_has i_size i_next i_where i_token i_number i_word i_wrong i_farCrossing m_read j_z0_1 j_crossings_2 j_inns_3 m_posts m_shut m_here j_steps_4 j_done_5 i_at i_gone m_was m_came m_seenAt m_rowWorth m_farBy m_used i_everywhere i_again0 i_d0 i_never i_firstCame i_longRun i_moved i_crowd i_l0 i_fitMany i_fitLeast i_fitMost m_fitPost m_fitEnd m_keptPosts i_x0], [zAr T 0 m_all 3952 f_all], [zAr T 0 m_posts 7 g_posts_6], [zAr T 0 m_shut 7 g_shut_7], [zAr T 0 m_here 7 g_here_8]] _ _ := G
  rcases hc_9 with ⟨rfl, h_11, h_12, h_13, h_14, h_15, h_16, h_17, h_18, h_19, h_20, h_21, h_22⟩ | ⟨rfl, h_23⟩
  · have h_11 : 0 ≤ l_.toInt := h_11
    have h_12 : l_.toInt ≤ 1 := h_12
    have h_13 : l_.toInt < (f_all 0).toInt := h_13
    have h_14 : j_z0_1.toInt = 610 + 51 * l_.toInt := h_14
    have h_15 : zML f_all j_z0_1 j_crossings_2 := h_15
    have h_16 : zMP g_posts_6 := h_16
    have h_17 : j_inns_3 = f_all (j_z0_1.toInt.toNat + 1) := h_17
    have h_18 : j_steps_4 = 0 := h_18
    have h_19 : j_done_5 = 0 := h_19
    have h_20 : (∀ j, j < 7 → g_posts_6 j = zPt f_all j_z0_1 (nI j)) := h_20
    have h_21 : (∀ j, j < 7 → g_shut_7 j = 0) := h_21
    have h_22 : (∀ j, j < 7 → g_here_8 j = zWk f_all j_z0_1 j) := h_22
    have hLx := h_15
    have hcr := hLx.cr
    have hzx := hLx.1
    have hPx := h_16
    refine lv_if_eq (tgt := 44) hx hb dX12_share_5 (by decide) (fun q => absurd q (by decide)) (fun _ => ?_)
    refine lv_aload_n hx hb dX12_share_8 rfl (lv_at hl 0 rfl) ?_
    refine lv_iload_n hx hb dX12_share_9 rfl (lv_at hl 2 rfl) ?_
    refine z_Vi (bc := [[zO11 mo m_all m_has i_size i_next i_where i_token i_number i_word i_wrong i_farCrossing m_read j_z0_1 j_crossings_2 j_inns_3 m_posts m_shut m_here j_steps_4 j_done_5 i_at i_gone m_was m_came m_seenAt m_rowWorth m_farBy m_used i_everywhere i_again0 i_d0 i_never i_firstCame i_longRun i_moved i_crowd i_l0 i_fitMany i_fitLeast i_fitMost m_fitPost m_fitEnd m_keptPosts i_x0]]) (br := [[zAr T 0 m_was 7 f_was], [zAr T 0 m_all 3952 f_all], [zAr T 0 m_posts 7 g_posts_6], [zAr T 0 m_shut 7 g_shut_7], [zAr T 0 m_here 7 g_here_8]]) (As := [.int c_]) (rest := []) C G (c_m_isCrossing l T mo m_all m_has i_size i_next i_where i_token i_number i_word i_wrong i_farCrossing m_read j_z0_1 j_crossings_2 j_inns_3 m_posts m_shut m_here j_steps_4 j_done_5 i_at i_gone m_was m_came m_seenAt m_rowWorth m_farBy m_used i_everywhere i_again0 i_d0 i_never i_firstCame i_longRun i_moved i_crowd i_l0 i_fitMany i_fitLeast i_fitMost m_fitPost m_fitEnd m_keptPosts i_x0 c_ (by first | with_reducible assumption | with_reducible rfl | omega | assumption | rfl | decide)) (kV_RX12_187 C.2.2.2.2 (Nat.le_of_ble_eq_true rfl) (Nat.le_of_ble_eq_true rfl)) [1] [1] rfl rfl (ci := 11) (qc := (RX12, TX12, 43)) rfl rfl (List.mem_flatten.mpr ⟨_, List.mem_of_getElem? (i := 0) rfl, List.mem_cons_self⟩) rfl rfl hl.1 dX12_share_10 (Nat.le_of_ble_eq_true rfl) (Nat.le_of_ble_eq_true rfl) (fun r_25 b1 H locs hw G => ?_)
    refine zAn2 hw ?_
    intro hbs9 hc_24
    clear hw
    subst hbs9
    have G : zS T A s.heap s [[zAr T 0 m_was 7 f_was], [zAr T 0 m_all 3952 f_all], [zAr T 0 m_posts 7 g_posts_6], [zAr T 0 m_shut 7 g_shut_7], [zAr T 0 m_here 7 g_here_8], [zO11 mo m_all m_has i_size i_next i_where i_token i_number i_word i_wrong i_farCrossing m_read j_z0_1 j_crossings_2 j_inns_3 m_posts m_shut m_here j_steps_4 j_done_5 i_at i_gone m_was m_came m_seenAt m_rowWorth m_farBy m_used i_everywhere i_again0 i_d0 i_never i_firstCame i_longRun i_moved i_crowd i_l0 i_fitMany i_fitLeast i_fitMost m_fitPost m_fitEnd m_keptPosts i_x0]] _ _ := G
    rcases hc_24 with ⟨rfl, h_26, h_27⟩ | ⟨rfl, h_28⟩
    · have h_26 : 0 ≤ c_.toInt := h_26
      have h_27 : c_.toInt < j_crossings_2.toInt := h_27
      refine lv_if_eq (tgt := 44) hx hb dX12_share_13 (by decide) (fun q => absurd q (by decide)) (fun _ => ?_)
      refine lv_iload_n hx hb dX12_share_16 rfl (lv_at hl 3 rfl) ?_
      refine lv_iconst (v := 0) hx hb dX12_share_17 (by decide) ?_
      refine lv_bipush (v := 99) hx hb dX12_share_18 (by decide) ?_
      refine z_Si (bc := []) (br := [[zAr T 0 m_was 7 f_was], [zAr T 0 m_all 3952 f_all], [zAr T 0 m_posts 7 g_posts_6], [zAr T 0 m_shut 7 g_shut_7], [zAr T 0 m_here 7 g_here_8], [zO11 mo m_all m_has i_size i_next i_where i_token i_number i_word i_wrong i_farCrossing m_read j_z0_1 j_crossings_2 j_inns_3 m_posts m_shut m_here j_steps_4 j_done_5 i_at i_gone m_was m_came m_seenAt m_rowWorth m_farBy m_used i_everywhere i_again0 i_d0 i_never i_firstCame i_longRun i_moved i_crowd i_l0 i_fitMany i_fitLeast i_fitMost m_fitPost m_fitEnd m_keptPosts i_x0]]) (As := [.int k_, .int 0, .int 99]) (rest := []) C G (c_m_isIn l T k_ 0 99) (kS_RX12_111 C.2.2.2.2 (Nat.le_of_ble_eq_true rfl) (Nat.le_of_ble_eq_true rfl)) [] [] rfl rfl rfl rfl hl.1 dX12_share_20 (Nat.le_of_ble_eq_true rfl) (Nat.le_of_ble_eq_true rfl) (fun r_30 b1 H locs hw G => ?_)
      refine zAn2 hw ?_
      intro hbs9 hc_29
      clear hw
      subst hbs9
      have G : zS T A s.heap s [[zAr T 0 m_was 7 f_was], [zAr T 0 m_all 3952 f_all], [zAr T 0 m_posts 7 g_posts_6], [zAr T 0 m_shut 7 g_shut_7], [zAr T 0 m_here 7 g_here_8], [zO11 mo m_all m_has i_size i_next i_where i_token i_number i_word i_wrong i_farCrossing m_read j_z0_1 j_crossings_2 j_inns_3 m_posts m_shut m_here j_steps_4 j_done_5 i_at i_gone m_was m_came m_seenAt m_rowWorth m_farBy m_used i_everywhere i_again0 i_d0 i_never i_firstCame i_longRun i_moved i_crowd i_l0 i_fitMany i_fitLeast i_fitMost m_fitPost m_fitEnd m_keptPosts i_x0]] _ _ := G
      rcases hc_29 with ⟨rfl, h_31, h_32⟩ | ⟨rfl, h_33⟩
      · have h_31 : (0 : Int) ≤ k_.toInt := h_31
        have h_32 : k_.toInt ≤ (99 : Int) := h_32
        refine lv_if_eq (tgt := 44) hx hb dX12_share_23 (by decide) (fun q => absurd q (by decide)) (fun _ => ?_)
        refine lv_aload_n hx hb dX12_share_26 rfl (lv_at hl 0 rfl) ?_
        refine lv_iload hx hb dX12_share_27 (lv_at hl 4 rfl) ?_
        refine z_Vi (bc := [[zO11 mo m_all m_has i_size i_next i_where i_token i_number i_word i_wrong i_farCrossing m_read j_z0_1 j_crossings_2 j_inns_3 m_posts m_shut m_here j_steps_4 j_done_5 i_at i_gone m_was m_came m_seenAt m_rowWorth m_farBy m_used i_everywhere i_again0 i_d0 i_never i_firstCame i_longRun i_moved i_crowd i_l0 i_fitMany i_fitLeast i_fitMost m_fitPost m_fitEnd m_keptPosts i_x0]]) (br := [[zAr T 0 m_was 7 f_was], [zAr T 0 m_all 3952 f_all], [zAr T 0 m_posts 7 g_posts_6], [zAr T 0 m_shut 7 g_shut_7], [zAr T 0 m_here 7 g_here_8]]) (As := [.int n_]) (rest := []) C G (c_m_isCrossing l T mo m_all m_has i_size i_next i_where i_token i_number i_word i_wrong i_farCrossing m_read j_z0_1 j_crossings_2 j_inns_3 m_posts m_shut m_here j_steps_4 j_done_5 i_at i_gone m_was m_came m_seenAt m_rowWorth m_farBy m_used i_everywhere i_again0 i_d0 i_never i_firstCame i_longRun i_moved i_crowd i_l0 i_fitMany i_fitLeast i_fitMost m_fitPost m_fitEnd m_keptPosts i_x0 n_ (by first | with_reducible assumption | with_reducible rfl | omega | assumption | rfl | decide)) (kV_RX12_187 C.2.2.2.2 (Nat.le_of_ble_eq_true rfl) (Nat.le_of_ble_eq_true rfl)) [5] [5] rfl rfl (ci := 11) (qc := (RX12, TX12, 43)) rfl rfl (List.mem_flatten.mpr ⟨_, List.mem_of_getElem? (i := 0) rfl, List.mem_cons_self⟩) rfl rfl hl.1 dX12_share_29 (Nat.le_of_ble_eq_true rfl) (Nat.le_of_ble_eq_true rfl) (fun r_35 b1 H locs hw G => ?_)
        refine zAn2 hw ?_
        intro hbs9 hc_34
        clear hw
        subst hbs9
        have G : zS T A s.heap s [[zAr T 0 m_was 7 f_was], [zAr T 0 m_all 3952 f_all], [zAr T 0 m_posts 7 g_posts_6], [zAr T 0 m_shut 7 g_shut_7], [zAr T 0 m_here 7 g_here_8], [zO11 mo m_all m_has i_size i_next i_where i_token i_number i_word i_wrong i_farCrossing m_read j_z0_1 j_crossings_2 j_inns_3 m_posts m_shut m_here j_steps_4 j_done_5 i_at i_gone m_was m_came m_seenAt m_rowWorth m_farBy m_used i_everywhere i_again0 i_d0 i_never i_firstCame i_longRun i_moved i_crowd i_l0 i_fitMany i_fitLeast i_fitMost m_fitPost m_fitEnd m_keptPosts i_x0]] _ _ := G
        rcases hc_34 with ⟨rfl, h_36, h_37⟩ | ⟨rfl, h_38⟩
        · have h_36 : 0 ≤ n_.toInt := h_36
          have h_37 : n_.toInt < j_crossings_2.toInt := h_37
          refine lv_if_eq (tgt := 44) hx hb dX12_share_32 (by decide) (fun q => absurd q (by decide)) (fun _ => ?_)
          refine lv_aload_n hx hb dX12_share_35 rfl (lv_at hl 0 rfl) ?_
          refine lv_iload hx hb dX12_share_36 (lv_at hl 4 rfl) ?_
          refine z_Vi (bc := [[zO11 mo m_all m_has i_size i_next i_where i_token i_number i_word i_wrong i_farCrossing m_read j_z0_1 j_crossings_2 j_inns_3 m_posts m_shut m_here j_steps_4 j_done_5 i_at i_gone m_was m_came m_seenAt m_rowWorth m_farBy m_used i_everywhere i_again0 i_d0 i_never i_firstCame i_longRun i_moved i_crowd i_l0 i_fitMany i_fitLeast i_fitMost m_fitPost m_fitEnd m_keptPosts i_x0]]) (br := [[zAr T 0 m_was 7 f_was], [zAr T 0 m_all 3952 f_all], [zAr T 0 m_posts 7 g_posts_6], [zAr T 0 m_shut 7 g_shut_7], [zAr T 0 m_here 7 g_here_8]]) (As := [.int n_]) (rest := []) C G (c_m_isInn l T mo m_all m_has i_size i_next i_where i_token i_number i_word i_wrong i_farCrossing m_read j_z0_1 j_crossings_2 j_inns_3 m_posts m_shut m_here j_steps_4 j_done_5 i_at i_gone m_was m_came m_seenAt m_rowWorth m_farBy m_used i_everywhere i_again0 i_d0 i_never i_firstCame i_longRun i_moved i_crowd i_l0 i_fitMany i_fitLeast i_fitMost m_fitPost m_fitEnd m_keptPosts i_x0 n_) (kV_RX12_178 C.2.2.2.2 (Nat.le_of_ble_eq_true rfl) (Nat.le_of_ble_eq_true rfl)) [5] [5] rfl rfl (ci := 11) (qc := (RX12, TX12, 43)) rfl rfl (List.mem_flatten.mpr ⟨_, List.mem_of_getElem? (i := 0) rfl, List.mem_cons_self⟩) rfl rfl hl.1 dX12_share_38 (Nat.le_of_ble_eq_true rfl) (Nat.le_of_ble_eq_true rfl) (fun r_40 b1 H locs hw G => ?_)
          refine zAn2 hw ?_
          intro hbs9 hc_39
          clear hw
          subst hbs9
          have G : zS T A s.heap s [[zAr T 0 m_was 7 f_was], [zAr T 0 m_all 3952 f_all], [zAr T 0 m_posts 7 g_posts_6], [zAr T 0 m_shut 7 g_shut_7], [zAr T 0 m_here 7 g_here_8], [zO11 mo m_all m_has i_size i_next i_where i_token i_number i_word i_wrong i_farCrossing m_read j_z0_1 j_crossings_2 j_inns_3 m_posts m_shut m_here j_steps_4 j_done_5 i_at i_gone m_was m_came m_seenAt m_rowWorth m_farBy m_used i_everywhere i_again0 i_d0 i_never i_firstCame i_longRun i_moved i_crowd i_l0 i_fitMany i_fitLeast i_fitMost m_fitPost m_fitEnd m_keptPosts i_x0]] _ _ := G
          rcases hc_39 with ⟨rfl, h_41⟩ | ⟨rfl, h_42⟩
          · have h_41 : zInn j_inns_3 n_ := h_41
            refine lv_if_ne (tgt := 46) hx hb dX12_share_41 (by decide) (fun _ => ?_) (fun q => absurd q (by decide))
            refine lv_iconst (v := 0) hx hb dX12_share_46 (by decide) ?_
            refine lv_istore (lv' := [(5, .int 0), (0, .ref mo), (1, .int l_), (2, .int c_), (3, .int k_), (4, .int n_)]) hx hb dX12_share_47 hl (by decide) (zLvf_h rfl) (fun ls hl => ?_)
            refine lv_iconst (v := 0) hx hb dX12_share_49 (by decide) ?_
            refine lv_istore (lv' := [(6, .int 0), (5, .int 0), (0, .ref mo), (1, .int l_), (2, .int c_), (3, .int k_), (4, .int n_)]) hx hb dX12_share_50 hl (by decide) (zLvf_h rfl) (fun ls hl => ?_)
            refine z_lp6 (T := T) 52 (fun (i : Nat) (u : Int32) (xat : Int32) (xgone : Int32) (xposts : Nat → Int32) (xwas : Nat → Int32) => [[zAr T 0 m_was 7 xwas], [zAr T 0 m_all 3952 f_all], [zAr T 0 m_posts 7 xposts], [zAr T 0 m_shut 7 g_shut_7], [zAr T 0 m_here 7 g_here_8], [zO11 mo m_all m_has i_size i_next i_where i_token i_number i_word i_wrong i_farCrossing m_read j_z0_1 j_crossings_2 j_inns_3 m_posts m_shut m_here j_steps_4 j_done_5 xat xgone m_was m_came m_seenAt m_rowWorth m_farBy m_used i_everywhere i_again0 i_d0 i_never i_firstCame i_longRun i_moved i_crowd i_l0 i_fitMany i_fitLeast i_fitMost m_fitPost m_fitEnd m_keptPosts i_x0]]) (fun (i : Nat) (u : Int32) (xat : Int32) (xgone : Int32) (xposts : Nat → Int32) (xwas : Nat → Int32) => [(6, .int (nI i)), (5, .int u), (0, .ref mo), (1, .int l_), (2, .int c_), (3, .int k_), (4, .int n_)]) (fun (i : Nat) (u : Int32) (xat : Int32) (xgone : Int32) (xposts : Nat → Int32) (xwas : Nat → Int32) => i ≤ 99 ∧ zMP xposts) (fun (i : Nat) (u : Int32) (xat : Int32) (xgone : Int32) (xposts : Nat → Int32) (xwas : Nat → Int32) => 99 - i) ?_ 0 0 i_at i_gone g_posts_6 f_was (show 0 ≤ 99 ∧ zMP g_posts_6 from ⟨by omega, (by first | with_reducible assumption | assumption)⟩) G (lv_sub hl [0, 1, 2, 3, 4, 5, 6] rfl)
            intro i u xat xgone xposts xwas hI9 ih_52 H locs ls G hl
            replace hI9 : i ≤ 99 ∧ zMP xposts := hI9
            refine zAn2 hI9 ?_
            intro hi hQ
            clear hI9
            replace G : zS T A s.heap s [[zAr T 0 m_was 7 xwas], [zAr T 0 m_all 3952 f_all], [zAr T 0 m_posts 7 xposts], [zAr T 0 m_shut 7 g_shut_7], [zAr T 0 m_here 7 g_here_8], [zO11 mo m_all m_has i_size i_next i_where i_token i_number i_word i_wrong i_farCrossing m_read j_z0_1 j_crossings_2 j_inns_3 m_posts m_shut m_here j_steps_4 j_done_5 xat xgone m_was m_came m_seenAt m_rowWorth m_farBy m_used i_everywhere i_again0 i_d0 i_never i_firstCame i_longRun i_moved i_crowd i_l0 i_fitMany i_fitLeast i_fitMost m_fitPost m_fitEnd m_keptPosts i_x0]] _ _ := G
            replace hl : lv_has ls 7 [(6, .int (nI i)), (5, .int u), (0, .ref mo), (1, .int l_), (2, .int c_), (3, .int k_), (4, .int n_)] := hl
            refine lv_iload hx hb dX12_share_52 (lv_at hl 0 rfl) ?_
            refine lv_iload_n hx hb dX12_share_54 rfl (lv_at hl 5 rfl) ?_
            refine lv_icmp_ge (tgt := 89) hx hb dX12_share_55 (by decide) (fun c_43 => ?_) (fun c_43 => ?_)
            · have c_43n : k_.toInt ≤ (i : Int) := by have q := (fa_le _ _).mp c_43; rw [nI_toInt (n := i) (by omega)] at q; exact q
              refine lv_iload hx hb dX12_share_89 (lv_at hl 1 rfl) ?_
              have G := G.sub (bs' := [[zO11 mo m_all m_has i_size i_next i_where i_token i_number i_word i_wrong i_farCrossing m_read j_z0_1 j_crossings_2 j_inns_3 m_posts m_shut m_here j_steps_4 j_done_5 xat xgone m_was m_came m_seenAt m_rowWorth m_farBy m_used i_everywhere i_again0 i_d0 i_never i_firstCame i_longRun i_moved i_crowd i_l0 i_fitMany i_fitLeast i_fitMost m_fitPost m_fitEnd m_keptPosts i_x0], [zAr T 0 m_all 3952 f_all], [zAr T 0 m_posts 7 xposts], [zAr T 0 m_shut 7 g_shut_7], [zAr T 0 m_here 7 g_here_8], [zAr T 0 m_was 7 xwas]]) [5, 1, 2, 3, 4, 0] rfl
              exact z_back hQz_ (z_iret C hr hlocks G (Nat.le_of_ble_eq_true rfl) (Nat.le_of_ble_eq_true rfl) dX12_share_91 ⟨j_z0_1, j_crossings_2, j_inns_3, j_steps_4, j_done_5, xat, xgone, xposts, g_shut_7, g_here_8, xwas, rfl⟩)
            · have c_43n : ¬ k_.toInt ≤ (i : Int) := fun q => c_43 ((fa_le _ _).mpr (by rw [nI_toInt (n := i) (by omega)]; exact q))
              refine lv_aload_n hx hb dX12_share_58 rfl (lv_at hl 2 rfl) ?_
              refine lv_iload_n hx hb dX12_share_59 rfl (lv_at hl 4 rfl) ?_
              refine z_Vi (bc := [[zO11 mo m_all m_has i_size i_next i_where i_token i_number i_word i_wrong i_farCrossing m_read j_z0_1 j_crossings_2 j_inns_3 m_posts m_shut m_here j_steps_4 j_done_5 xat xgone m_was m_came m_seenAt m_rowWorth m_farBy m_used i_everywhere i_again0 i_d0 i_never i_firstCame i_longRun i_moved i_crowd i_l0 i_fitMany i_fitLeast i_fitMost m_fitPost m_fitEnd m_keptPosts i_x0], [zAr T 0 m_all 3952 f_all], [zAr T 0 m_posts 7 xposts], [zAr T 0 m_shut 7 g_shut_7], [zAr T 0 m_was 7 xwas]]) (br := [[zAr T 0 m_here 7 g_here_8]]) (As := [.int c_]) (rest := []) C G (c_m_walks l T mo m_all m_has i_size i_next i_where i_token i_number i_word i_wrong i_farCrossing m_read j_z0_1 j_crossings_2 j_inns_3 m_posts m_shut m_here j_steps_4 j_done_5 xat xgone m_was m_came m_seenAt m_rowWorth m_farBy m_used i_everywhere i_again0 i_d0 i_never i_firstCame i_longRun i_moved i_crowd i_l0 i_fitMany i_fitLeast i_fitMost m_fitPost m_fitEnd m_keptPosts i_x0 f_all xposts g_shut_7 xwas c_ (by first | with_reducible assumption | with_reducible rfl | omega | assumption | rfl | decide) (by first | with_reducible assumption | with_reducible rfl | omega | assumption | rfl | decide) (by first | with_reducible assumption | with_reducible rfl | omega | assumption | rfl | decide) (by first | with_reducible assumption | with_reducible rfl | omega | assumption | rfl | decide)) (kV_RX12_217 C.2.2.2.2 (Nat.le_of_ble_eq_true rfl) (Nat.le_of_ble_eq_true rfl)) [5, 1, 2, 3, 0] [0, 0, 0, 0, 1] rfl rfl (ci := 11) (qc := (RX12, TX12, 43)) rfl rfl (List.mem_flatten.mpr ⟨_, List.mem_of_getElem? (i := 0) rfl, List.mem_cons_self⟩) rfl rfl hl.1 dX12_share_60 (Nat.le_of_ble_eq_true rfl) (Nat.le_of_ble_eq_true rfl) (fun r_54 b1 H locs hw G => ?_)
              refine zEx4 hw ?_
              intro j_at_44 j_gone_45 g_posts_46 g_was_47
              refine zCu7 ?_
              intro hbs9 h_48 h_49 h_50 h_51 h_52 h_53
              clear hw
              subst hbs9
              have G : zS T A s.heap s [[zAr T 0 m_here 7 g_here_8], [zO11 mo m_all m_has i_size i_next i_where i_token i_number i_word i_wrong i_farCrossing m_read j_z0_1 j_crossings_2 j_inns_3 m_posts m_shut m_here j_steps_4 j_done_5 j_at_44 j_gone_45 m_was m_came m_seenAt m_rowWorth m_farBy m_used i_everywhere i_again0 i_d0 i_never i_firstCame i_longRun i_moved i_crowd i_l0 i_fitMany i_fitLeast i_fitMost m_fitPost m_fitEnd m_keptPosts i_x0], [zAr T 0 m_all 3952 f_all], [zAr T 0 m_posts 7 g_posts_46], [zAr T 0 m_shut 7 g_shut_7], [zAr T 0 m_was 7 g_was_47]] _ _ := G
              replace h_48 : zHd ((r_54 = 0 ∨ r_54 = 1)) := h_48
              refine lv_pop hx hb dX12_share_63 rfl ?_
              refine lv_iload hx hb dX12_share_64 (lv_at hl 1 rfl) ?_
              refine lv_aload_n hx hb dX12_share_66 rfl (lv_at hl 2 rfl) ?_
              refine z_get C G clX12 1 rfl 19 (by decide) m_fl_RX12_202 rfl dX12_share_67 ?_
              refine lv_iload hx hb dX12_share_70 (lv_at hl 6 rfl) ?_
              refine lv_icmp_ne (tgt := 79) hx hb dX12_share_72 (by decide) (fun c_55 => ?_) (fun c_55 => ?_)
              · have c_55n : ¬ j_at_44.toInt = n_.toInt := fun q => c_55 ((fa_eq _ _).mpr q)
                refine lv_iconst (v := 0) hx hb dX12_share_79 (by decide) ?_
                refine lv_iadd hx hb dX12_share_80 ?_
                refine lv_istore (lv' := [(5, .int (u + 0)), (6, .int (nI i)), (0, .ref mo), (1, .int l_), (2, .int c_), (3, .int k_), (4, .int n_)]) hx hb dX12_share_81 hl (by decide) (zLvf_h rfl) (fun ls hl => ?_)
                refine lv_iinc (v := nI (i + 1)) (lv' := [(6, .int (nI (i + 1))), (5, .int (u + 0)), (0, .ref mo), (1, .int l_), (2, .int c_), (3, .int k_), (4, .int n_)]) hx hb dX12_share_83 hl (k := 1) rfl (z_inc i 1) (by decide) (zLvf_h rfl) (fun ls hl => ?_)
                refine lv_goto (tgt := 52) hx hb dX12_share_86 (by decide) ?_
                have G := G.sub (bs' := [[zAr T 0 m_was 7 g_was_47], [zAr T 0 m_all 3952 f_all], [zAr T 0 m_posts 7 g_posts_46], [zAr T 0 m_shut 7 g_shut_7], [zAr T 0 m_here 7 g_here_8], [zO11 mo m_all m_has i_size i_next i_where i_token i_number i_word i_wrong i_farCrossing m_read j_z0_1 j_crossings_2 j_inns_3 m_posts m_shut m_here j_steps_4 j_done_5 j_at_44 j_gone_45 m_was m_came m_seenAt m_rowWorth m_farBy m_used i_everywhere i_again0 i_d0 i_never i_firstCame i_longRun i_moved i_crowd i_l0 i_fitMany i_fitLeast i_fitMost m_fitPost m_fitEnd m_keptPosts i_x0]]) [5, 2, 3, 4, 0, 1] rfl
                exact ih_52 (i + 1) (u + 0) j_at_44 j_gone_45 g_posts_46 g_was_47 (show (i + 1) ≤ 99 ∧ zMP g_posts_46 from ⟨by omega, (by first | with_reducible assumption | assumption)⟩) (show 99 - (i + 1) < 99 - i from by omega) _ _ ls G (lv_sub hl [0, 1, 2, 3, 4, 5, 6] rfl)
              · have c_55n : j_at_44.toInt = n_.toInt := (fa_eq _ _).mp c_55
                refine lv_iconst (v := 1) hx hb dX12_share_75 (by decide) ?_
                refine lv_goto (tgt := 80) hx hb dX12_share_76 (by decide) ?_
                refine lv_iadd hx hb dX12_share_80 ?_
                refine lv_istore (lv' := [(5, .int (u + 1)), (6, .int (nI i)), (0, .ref mo), (1, .int l_), (2, .int c_), (3, .int k_), (4, .int n_)]) hx hb dX12_share_81 hl (by decide) (zLvf_h rfl) (fun ls hl => ?_)
                refine lv_iinc (v := nI (i + 1)) (lv' := [(6, .int (nI (i + 1))), (5, .int (u + 1)), (0, .ref mo), (1, .int l_), (2, .int c_), (3, .int k_), (4, .int n_)]) hx hb dX12_share_83 hl (k := 1) rfl (z_inc i 1) (by decide) (zLvf_h rfl) (fun ls hl => ?_)
                refine lv_goto (tgt := 52) hx hb dX12_share_86 (by decide) ?_
                have G := G.sub (bs' := [[zAr T 0 m_was 7 g_was_47], [zAr T 0 m_all 3952 f_all], [zAr T 0 m_posts 7 g_posts_46], [zAr T 0 m_shut 7 g_shut_7], [zAr T 0 m_here 7 g_here_8], [zO11 mo m_all m_has i_size i_next i_where i_token i_number i_word i_wrong i_farCrossing m_read j_z0_1 j_crossings_2 j_inns_3 m_posts m_shut m_here j_steps_4 j_done_5 j_at_44 j_gone_45 m_was m_came m_seenAt m_rowWorth m_farBy m_used i_everywhere i_again0 i_d0 i_never i_firstCame i_longRun i_moved i_crowd i_l0 i_fitMany i_fitLeast i_fitMost m_fitPost m_fitEnd m_keptPosts i_x0]]) [5, 2, 3, 4, 0, 1] rfl
                exact ih_52 (i + 1) (u + 1) j_at_44 j_gone_45 g_posts_46 g_was_47 (show (i + 1) ≤ 99 ∧ zMP g_posts_46 from ⟨by omega, (by first | with_reducible assumption | assumption)⟩) (show 99 - (i + 1) < 99 - i from by omega) _ _ ls G (lv_sub hl [0, 1, 2, 3, 4, 5, 6] rfl)
          · have h_42 : ¬ zInn j_inns_3 n_ := h_42
            refine lv_if_ne (tgt := 46) hx hb dX12_share_41 (by decide) (fun q => absurd (by decide) q) (fun _ => ?_)
            refine lv_iconst (v := (-1)) hx hb dX12_share_44 (by decide) ?_
            have G := G.sub (bs' := [[zO11 mo m_all m_has i_size i_next i_where i_token i_number i_word i_wrong i_farCrossing m_read j_z0_1 j_crossings_2 j_inns_3 m_posts m_shut m_here j_steps_4 j_done_5 i_at i_gone m_was m_came m_seenAt m_rowWorth m_farBy m_used i_everywhere i_again0 i_d0 i_never i_firstCame i_longRun i_moved i_crowd i_l0 i_fitMany i_fitLeast i_fitMost m_fitPost m_fitEnd m_keptPosts i_x0], [zAr T 0 m_all 3952 f_all], [zAr T 0 m_posts 7 g_posts_6], [zAr T 0 m_shut 7 g_shut_7], [zAr T 0 m_here 7 g_here_8], [zAr T 0 m_was 7 f_was]]) [5, 1, 2, 3, 4, 0] rfl
            exact z_back hQz_ (z_iret C hr hlocks G (Nat.le_of_ble_eq_true rfl) (Nat.le_of_ble_eq_true rfl) dX12_share_45 ⟨j_z0_1, j_crossings_2, j_inns_3, j_steps_4, j_done_5, i_at, i_gone, g_posts_6, g_shut_7, g_here_8, f_was, rfl⟩)
        · have h_38 : (n_.toInt < 0 ∨ j_crossings_2.toInt ≤ n_.toInt) := h_38
          refine lv_if_eq (tgt := 44) hx hb dX12_share_32 (by decide) (fun _ => ?_) (fun q => absurd (by decide) q)
          refine lv_iconst (v := (-1)) hx hb dX12_share_44 (by decide) ?_
          have G := G.sub (bs' := [[zO11 mo m_all m_has i_size i_next i_where i_token i_number i_word i_wrong i_farCrossing m_read j_z0_1 j_crossings_2 j_inns_3 m_posts m_shut m_here j_steps_4 j_done_5 i_at i_gone m_was m_came m_seenAt m_rowWorth m_farBy m_used i_everywhere i_again0 i_d0 i_never i_firstCame i_longRun i_moved i_crowd i_l0 i_fitMany i_fitLeast i_fitMost m_fitPost m_fitEnd m_keptPosts i_x0], [zAr T 0 m_all 3952 f_all], [zAr T 0 m_posts 7 g_posts_6], [zAr T 0 m_shut 7 g_shut_7], [zAr T 0 m_here 7 g_here_8], [zAr T 0 m_was 7 f_was]]) [5, 1, 2, 3, 4, 0] rfl
          exact z_back hQz_ (z_iret C hr hlocks G (Nat.le_of_ble_eq_true rfl) (Nat.le_of_ble_eq_true rfl) dX12_share_45 ⟨j_z0_1, j_crossings_2, j_inns_3, j_steps_4, j_done_5, i_at, i_gone, g_posts_6, g_shut_7, g_here_8, f_was, rfl⟩)
      · have h_33 : (k_.toInt < (0 : Int) ∨ (99 : Int) < k_.toInt) := h_33
        refine lv_if_eq (tgt := 44) hx hb dX12_share_23 (by decide) (fun _ => ?_) (fun q => absurd (by decide) q)
        refine lv_iconst (v := (-1)) hx hb dX12_share_44 (by decide) ?_
        have G := G.sub (bs' := [[zO11 mo m_all m_has i_size i_next i_where i_token i_number i_word i_wrong i_farCrossing m_read j_z0_1 j_crossings_2 j_inns_3 m_posts m_shut m_here j_steps_4 j_done_5 i_at i_gone m_was m_came m_seenAt m_rowWorth m_farBy m_used i_everywhere i_again0 i_d0 i_never i_firstCame i_longRun i_moved i_crowd i_l0 i_fitMany i_fitLeast i_fitMost m_fitPost m_fitEnd m_keptPosts i_x0], [zAr T 0 m_all 3952 f_all], [zAr T 0 m_posts 7 g_posts_6], [zAr T 0 m_shut 7 g_shut_7], [zAr T 0 m_here 7 g_here_8], [zAr T 0 m_was 7 f_was]]) [5, 1, 2, 3, 4, 0] rfl
        exact z_back hQz_ (z_iret C hr hlocks G (Nat.le_of_ble_eq_true rfl) (Nat.le_of_ble_eq_true rfl) dX12_share_45 ⟨j_z0_1, j_crossings_2, j_inns_3, j_steps_4, j_done_5, i_at, i_gone, g_posts_6, g_shut_7, g_here_8, f_was, rfl⟩)
    · have h_28 : (c_.toInt < 0 ∨ j_crossings_2.toInt ≤ c_.toInt) := h_28
      refine lv_if_eq (tgt := 44) hx hb dX12_share_13 (by decide) (fun _ => ?_) (fun q => absurd (by decide) q)
      refine lv_iconst (v := (-1)) hx hb dX12_share_44 (by decide) ?_
      have G := G.sub (bs' := [[zO11 mo m_all m_has i_size i_next i_where i_token i_number i_word i_wrong i_farCrossing m_read j_z0_1 j_crossings_2 j_inns_3 m_posts m_shut m_here j_steps_4 j_done_5 i_at i_gone m_was m_came m_seenAt m_rowWorth m_farBy m_used i_everywhere i_again0 i_d0 i_never i_firstCame i_longRun i_moved i_crowd i_l0 i_fitMany i_fitLeast i_fitMost m_fitPost m_fitEnd m_keptPosts i_x0], [zAr T 0 m_all 3952 f_all], [zAr T 0 m_posts 7 g_posts_6], [zAr T 0 m_shut 7 g_shut_7], [zAr T 0 m_here 7 g_here_8], [zAr T 0 m_was 7 f_was]]) [5, 1, 2, 3, 4, 0] rfl
      exact z_back hQz_ (z_iret C hr hlocks G (Nat.le_of_ble_eq_true rfl) (Nat.le_of_ble_eq_true rfl) dX12_share_45 ⟨j_z0_1, j_crossings_2, j_inns_3, j_steps_4, j_done_5, i_at, i_gone, g_posts_6, g_shut_7, g_here_8, f_was, rfl⟩)
  · have h_23 : (l_.toInt < 0 ∨ (f_all 0).toInt ≤ l_.toInt) := h_23
    refine lv_if_eq (tgt := 44) hx hb dX12_share_5 (by decide) (fun _ => ?_) (fun q => absurd (by decide) q)
    refine lv_iconst (v := (-1)) hx hb dX12_share_44 (by decide) ?_
    have G := G.sub (bs' := [[zO11 mo m_all m_has i_size i_next i_where i_token i_number i_word i_wrong i_farCrossing m_read j_z0_1 j_crossings_2 j_inns_3 m_posts m_shut m_here j_steps_4 j_done_5 i_at i_gone m_was m_came m_seenAt m_rowWorth m_farBy m_used i_everywhere i_again0 i_d0 i_never i_firstCame i_longRun i_moved i_crowd i_l0 i_fitMany i_fitLeast i_fitMost m_fitPost m_fitEnd m_keptPosts i_x0], [zAr T 0 m_all 3952 f_all], [zAr T 0 m_posts 7 g_posts_6], [zAr T 0 m_shut 7 g_shut_7], [zAr T 0 m_here 7 g_here_8], [zAr T 0 m_was 7 f_was]]) [1, 2, 3, 4, 5, 0] rfl
    exact z_back hQz_ (z_iret C hr hlocks G (Nat.le_of_ble_eq_true rfl) (Nat.le_of_ble_eq_true rfl) dX12_share_45 ⟨j_z0_1, j_crossings_2, j_inns_3, j_steps_4, j_done_5, i_at, i_gone, g_posts_6, g_shut_7, g_here_8, f_was, rfl⟩)
set_option maxHeartbeats 4000000 in
set_option maxRecDepth 100000 in
/-- c_m_endOf -/
theorem c_m_endOf (l : Launch) (T : zTy) (mo : Nat) (m_all : Nat) (m_has : Nat) (i_size : Int32) (i_next : Int32) (i_where : Int32) (i_token : Int32) (i_number : Int32) (i_word : Int32) (i_wrong : Int32) (i_farCrossing : Int32) (m_read : Nat) (i_z0 : Int32) (i_crossings : Int32) (i_inns : Int32) (m_posts : Nat) (m_shut : Nat) (m_here : Nat) (i_steps : Int32) (i_done : Int32) (i_at : Int32) (i_gone : Int32) (m_was : Nat) (m_came : Nat) (m_seenAt : Nat) (m_rowWorth : Nat) (m_farBy : Nat) (m_used : Nat) (i_everywhere : Int32) (i_again0 : Int32) (i_d0 : Int32) (i_never : Int32) (i_firstCame : Int32) (i_longRun : Int32) (i_moved : Int32) (i_crowd : Int32) (i_l0 : Int32) (i_fitMany : Int32) (i_fitLeast : Int32) (i_fitMost : Int32) (m_fitPost : Nat) (m_fitEnd : Nat) (m_keptPosts : Nat) (i_x0 : Int32) (f_all : Nat → Int32) (f_posts : Nat → Int32) (f_shut : Nat → Int32) (f_here : Nat → Int32) (f_was : Nat → Int32) (f_came : Nat → Int32) (l_ : Int32) (w_ : Int32) (hB : zBI f_all) : zMi l T yX12_endOf cX12_endOf 5 (some .int) 5 0 0 [.ref mo, .int l_, .int w_] [[zO11 mo m_all m_has i_size i_next i_where i_token i_number i_word i_wrong i_farCrossing m_read i_z0 i_crossings i_inns m_posts m_shut m_here i_steps i_done i_at i_gone m_was m_came m_seenAt m_rowWorth m_farBy m_used i_everywhere i_again0 i_d0 i_never i_firstCame i_longRun i_moved i_crowd i_l0 i_fitMany i_fitLeast i_fitMost m_fitPost m_fitEnd m_keptPosts i_x0], [zAr T 0 m_all 3952 f_all], [zAr T 0 m_posts 7 f_posts], [zAr T 0 m_shut 7 f_shut], [zAr T 0 m_here 7 f_here], [zAr T 0 m_was 7 f_was], [zAr T 0 m_came 7 f_came]] (fun (r : Int32) bs => ∃ (j_z0 : Int32) (j_crossings : Int32) (j_inns : Int32) (j_steps : Int32) (j_done : Int32) (j_at : Int32) (j_gone : Int32) (g_posts : Nat → Int32) (g_shut : Nat → Int32) (g_here : Nat → Int32) (g_was : Nat → Int32) (g_came : Nat → Int32), bs = [[zO11 mo m_all m_has i_size i_next i_where i_token i_number i_word i_wrong i_farCrossing m_read j_z0 j_crossings j_inns m_posts m_shut m_here j_steps j_done j_at j_gone m_was m_came m_seenAt m_rowWorth m_farBy m_used i_everywhere i_again0 i_d0 i_never i_firstCame i_longRun i_moved i_crowd i_l0 i_fitMany i_fitLeast i_fitMost m_fitPost m_fitEnd m_keptPosts i_x0], [zAr T 0 m_all 3952 f_all], [zAr T 0 m_posts 7 g_posts], [zAr T 0 m_shut 7 g_shut], [zAr T 0 m_here 7 g_here], [zAr T 0 m_was 7 g_was], [zAr T 0 m_came 7 g_came]]) := by
  refine zMi_of (own := RX12) (by decide) rfl (Nat.le_of_ble_eq_true rfl) ?_
  intro p e s m args below meth c A ls C hr hlocks hnm hAe G hl
  refine zHide (fun Qz_ hQz_ => ?_)
  have hx := C.1
  have hb := C.2.1
  have hl : lv_has ls 5 [(0, .ref mo), (1, .int l_), (2, .int w_)] := hl
  refine lv_aload_n hx hb dX12_endOf_0 rfl (lv_at hl 0 rfl) ?_
  refine lv_iload_n hx hb dX12_endOf_1 rfl (lv_at hl 1 rfl) ?_
  refine z_Vi (bc := [[zO11 mo m_all m_has i_size i_next i_where i_token i_number i_word i_wrong i_farCrossing m_read i_z0 i_crossings i_inns m_posts m_shut m_here i_steps i_done i_at i_gone m_was m_came m_seenAt m_rowWorth m_farBy m_used i_everywhere i_again0 i_d0 i_never i_firstCame i_longRun i_moved i_crowd i_l0 i_fitMany i_fitLeast i_fitMost m_fitPost m_fitEnd m_keptPosts i_x0], [zAr T 0 m_all 3952 f_all], [zAr T 0 m_posts 7 f_posts], [zAr T 0 m_shut 7 f_shut], [zAr T 0 m_here 7 f_here]]) (br := [[zAr T 0 m_was 7 f_was], [zAr T 0 m_came 7 f_came]]) (As := [.int l_]) (rest := []) C G (c_m_isLand l T mo m_all m_has i_size i_next i_where i_token i_number i_word i_wrong i_farCrossing m_read i_z0 i_crossings i_inns m_posts m_shut m_here i_steps i_done i_at i_gone m_was m_came m_seenAt m_rowWorth m_farBy m_used i_everywhere i_again0 i_d0 i_never i_firstCame i_longRun i_moved i_crowd i_l0 i_fitMany i_fitLeast i_fitMost m_fitPost m_fitEnd m_keptPosts i_x0 f_all f_posts f_shut f_here l_ (by first | with_reducible assumption | with_reducible rfl | omega | assumption | rfl | decide)) (kV_RX12_184 C.2.2.2.2 (Nat.le_of_ble_eq_true rfl) (Nat.le_of_ble_eq_true rfl)) [0, 1, 2, 3, 4] [0, 0, 0, 0, 0] rfl rfl (ci := 11) (qc := (RX12, TX12, 43)) rfl rfl (List.mem_flatten.mpr ⟨_, List.mem_of_getElem? (i := 0) rfl, List.mem_cons_self⟩) rfl rfl hl.1 dX12_endOf_2 (Nat.le_of_ble_eq_true rfl) (Nat.le_of_ble_eq_true rfl) (fun r_10 b1 H locs hw G => ?_)
  refine zEx8 hw ?_
  intro j_z0_1 j_crossings_2 j_inns_3 j_steps_4 j_done_5 g_posts_6 g_shut_7 g_here_8
  refine zCu2 ?_
  intro hbs9 hc_9
  clear hw
  subst hbs9
  have G : zS T A s.heap s [[zAr T 0 m_was 7 f_was], [zAr T 0 m_came 7 f_came], [zO11 mo m_all m_has i_size i_next i_where i_token i_number i_word i_wrong i_farCrossing m_read j_z0_1 j_crossings_2 j_inns_3 m_posts m_shut m_here j_steps_4 j_done_5 i_at i_gone m_was m_came m_seenAt m_rowWorth m_farBy m_used i_everywhere i_again0 i_d0 i_never i_firstCame i_longRun i_moved i_crowd i_l0 i_fitMany i_fitLeast i_fitMost m_fitPost m_fitEnd m_keptPosts i_x0], [zAr T 0 m_all 3952 f_all], [zAr T 0 m_posts 7 g_posts_6], [zAr T 0 m_shut 7 g_shut_7], [zAr T 0 m_here 7 g_here_8]] _ _ := G
  rcases hc_9 with ⟨rfl, h_11, h_12, h_13, h_14, h_15, h_16, h_17, h_18, h_19, h_20, h_21, h_22⟩ | ⟨rfl, h_23⟩
  · have h_11 : 0 ≤ l_.toInt := h_11
    have h_12 : l_.toInt ≤ 1 := h_12
    have h_13 : l_.toInt < (f_all 0).toInt := h_13
    have h_14 : j_z0_1.toInt = 610 + 51 * l_.toInt := h_14
    have h_15 : zML f_all j_z0_1 j_crossings_2 := h_15
    have h_16 : zMP g_posts_6 := h_16
    have h_17 : j_inns_3 = f_all (j_z0_1.toInt.toNat + 1) := h_17
    have h_18 : j_steps_4 = 0 := h_18
    have h_19 : j_done_5 = 0 := h_19
    have h_20 : (∀ j, j < 7 → g_posts_6 j = zPt f_all j_z0_1 (nI j)) := h_20
    have h_21 : (∀ j, j < 7 → g_shut_7 j = 0) := h_21
    have h_22 : (∀ j, j < 7 → g_here_8 j = zWk f_all j_z0_1 j) := h_22
    have hLx := h_15
    have hcr := hLx.cr
    have hzx := hLx.1
    have hPx := h_16
    refine lv_if_ne (tgt := 11) hx hb dX12_endOf_5 (by decide) (fun _ => ?_) (fun q => absurd q (by decide))
    refine lv_iconst (v := 0) hx hb dX12_endOf_11 (by decide) ?_
    refine lv_istore_n (lv' := [(3, .int 0), (0, .ref mo), (1, .int l_), (2, .int w_)]) hx hb dX12_endOf_12 rfl hl (by decide) (zLvf_h rfl) (fun ls hl => ?_)
    refine z_lp2 (T := T) 13 (fun (i : Nat) (xcame : Nat → Int32) => [[zAr T 0 m_was 7 f_was], [zAr T 0 m_came 7 xcame], [zO11 mo m_all m_has i_size i_next i_where i_token i_number i_word i_wrong i_farCrossing m_read j_z0_1 j_crossings_2 j_inns_3 m_posts m_shut m_here j_steps_4 j_done_5 i_at i_gone m_was m_came m_seenAt m_rowWorth m_farBy m_used i_everywhere i_again0 i_d0 i_never i_firstCame i_longRun i_moved i_crowd i_l0 i_fitMany i_fitLeast i_fitMost m_fitPost m_fitEnd m_keptPosts i_x0], [zAr T 0 m_all 3952 f_all], [zAr T 0 m_posts 7 g_posts_6], [zAr T 0 m_shut 7 g_shut_7], [zAr T 0 m_here 7 g_here_8]]) (fun (i : Nat) (xcame : Nat → Int32) => [(3, .int (nI i)), (0, .ref mo), (1, .int l_), (2, .int w_)]) (fun (i : Nat) (xcame : Nat → Int32) => i ≤ 7) (fun (i : Nat) (xcame : Nat → Int32) => 7 - i) ?_ 0 f_came (show 0 ≤ 7 from by omega) G (lv_sub hl [0, 1, 2, 3] rfl)
    intro i xcame hi ih_13 H locs ls G hl
    replace hi : i ≤ 7 := hi
    replace G : zS T A s.heap s [[zAr T 0 m_was 7 f_was], [zAr T 0 m_came 7 xcame], [zO11 mo m_all m_has i_size i_next i_where i_token i_number i_word i_wrong i_farCrossing m_read j_z0_1 j_crossings_2 j_inns_3 m_posts m_shut m_here j_steps_4 j_done_5 i_at i_gone m_was m_came m_seenAt m_rowWorth m_farBy m_used i_everywhere i_again0 i_d0 i_never i_firstCame i_longRun i_moved i_crowd i_l0 i_fitMany i_fitLeast i_fitMost m_fitPost m_fitEnd m_keptPosts i_x0], [zAr T 0 m_all 3952 f_all], [zAr T 0 m_posts 7 g_posts_6], [zAr T 0 m_shut 7 g_shut_7], [zAr T 0 m_here 7 g_here_8]] _ _ := G
    replace hl : lv_has ls 5 [(3, .int (nI i)), (0, .ref mo), (1, .int l_), (2, .int w_)] := hl
    refine lv_iload_n hx hb dX12_endOf_13 rfl (lv_at hl 0 rfl) ?_
    refine lv_bipush (v := 7) hx hb dX12_endOf_14 (by decide) ?_
    refine lv_icmp_ge (tgt := 32) hx hb dX12_endOf_16 (by decide) (fun c_24 => ?_) (fun c_24 => ?_)
    · have c_24n : 7 ≤ i := (nI_leI (a := 7) (b := i) (by omega) (by omega)).mp c_24
      refine lv_iconst (v := 0) hx hb dX12_endOf_32 (by decide) ?_
      refine lv_istore_n (lv' := [(3, .int 0), (0, .ref mo), (1, .int l_), (2, .int w_)]) hx hb dX12_endOf_33 rfl hl (by decide) (zLvf_h rfl) (fun ls hl => ?_)
      refine z_lp7 (T := T) 34 (fun (i : Nat) (xat : Int32) (xgone : Int32) (xsteps : Int32) (xposts : Nat → Int32) (xwas : Nat → Int32) (xcame : Nat → Int32) => [[zAr T 0 m_was 7 xwas], [zAr T 0 m_came 7 xcame], [zO11 mo m_all m_has i_size i_next i_where i_token i_number i_word i_wrong i_farCrossing m_read j_z0_1 j_crossings_2 j_inns_3 m_posts m_shut m_here xsteps j_done_5 xat xgone m_was m_came m_seenAt m_rowWorth m_farBy m_used i_everywhere i_again0 i_d0 i_never i_firstCame i_longRun i_moved i_crowd i_l0 i_fitMany i_fitLeast i_fitMost m_fitPost m_fitEnd m_keptPosts i_x0], [zAr T 0 m_all 3952 f_all], [zAr T 0 m_posts 7 xposts], [zAr T 0 m_shut 7 g_shut_7], [zAr T 0 m_here 7 g_here_8]]) (fun (i : Nat) (xat : Int32) (xgone : Int32) (xsteps : Int32) (xposts : Nat → Int32) (xwas : Nat → Int32) (xcame : Nat → Int32) => [(3, .int (nI i)), (0, .ref mo), (1, .int l_), (2, .int w_)]) (fun (i : Nat) (xat : Int32) (xgone : Int32) (xsteps : Int32) (xposts : Nat → Int32) (xwas : Nat → Int32) (xcame : Nat → Int32) => i ≤ 7 ∧ zMP xposts) (fun (i : Nat) (xat : Int32) (xgone : Int32) (xsteps : Int32) (xposts : Nat → Int32) (xwas : Nat → Int32) (xcame : Nat → Int32) => 7 - i) ?_ 0 i_at i_gone j_steps_4 g_posts_6 f_was xcame (show 0 ≤ 7 ∧ zMP g_posts_6 from ⟨by omega, (by first | with_reducible assumption | assumption)⟩) G (lv_sub hl [0, 1, 2, 3] rfl)
      intro i xat xgone xsteps xposts xwas xcame hI9 ih_34 H locs ls G hl
      replace hI9 : i ≤ 7 ∧ zMP xposts := hI9
      refine zAn2 hI9 ?_
      intro hi hQ
      clear hI9
      replace G : zS T A s.heap s [[zAr T 0 m_was 7 xwas], [zAr T 0 m_came 7 xcame], [zO11 mo m_all m_has i_size i_next i_where i_token i_number i_word i_wrong i_farCrossing m_read j_z0_1 j_crossings_2 j_inns_3 m_posts m_shut m_here xsteps j_done_5 xat xgone m_was m_came m_seenAt m_rowWorth m_farBy m_used i_everywhere i_again0 i_d0 i_never i_firstCame i_longRun i_moved i_crowd i_l0 i_fitMany i_fitLeast i_fitMost m_fitPost m_fitEnd m_keptPosts i_x0], [zAr T 0 m_all 3952 f_all], [zAr T 0 m_posts 7 xposts], [zAr T 0 m_shut 7 g_shut_7], [zAr T 0 m_here 7 g_here_8]] _ _ := G
      replace hl : lv_has ls 5 [(3, .int (nI i)), (0, .ref mo), (1, .int l_), (2, .int w_)] := hl
      refine lv_iload_n hx hb dX12_endOf_34 rfl (lv_at hl 0 rfl) ?_
      refine lv_aload_n hx hb dX12_endOf_35 rfl (lv_at hl 1 rfl) ?_
      refine z_get C G clX12 2 rfl 12 (by decide) m_fl_RX12_169 rfl dX12_endOf_36 ?_
      refine lv_icmp_ge (tgt := 100) hx hb dX12_endOf_39 (by decide) (fun c_25 => ?_) (fun c_25 => ?_)
      · have c_25n : j_crossings_2.toInt ≤ (i : Int) := by have q := (fa_le _ _).mp c_25; rw [nI_toInt (n := i) (by omega)] at q; exact q
        refine lv_iload_n hx hb dX12_endOf_100 rfl (lv_at hl 3 rfl) ?_
        refine lv_if_ne (tgt := 109) hx hb dX12_endOf_101 (by decide) (fun c_26 => ?_) (fun c_26 => ?_)
        · have c_26n : ¬ w_.toInt = (0 : Int) := fun q => c_26 ((fa_eq _ _).mpr q)
          refine lv_iload_n hx hb dX12_endOf_109 rfl (lv_at hl 3 rfl) ?_
          refine lv_bipush (v := 10) hx hb dX12_endOf_110 (by decide) ?_
          refine lv_irem hx hb dX12_endOf_112 (by decide) ?_
          refine lv_istore_n (lv' := [(3, .int (w_ - w_ / 10 * 10)), (0, .ref mo), (1, .int l_), (2, .int w_)]) hx hb dX12_endOf_113 rfl hl (by decide) (zLvf_h rfl) (fun ls hl => ?_)
          refine lv_iload_n hx hb dX12_endOf_114 rfl (lv_at hl 3 rfl) ?_
          refine lv_bipush (v := 10) hx hb dX12_endOf_115 (by decide) ?_
          refine lv_bipush (v := 29) hx hb dX12_endOf_117 (by decide) ?_
          refine z_Si (bc := []) (br := [[zAr T 0 m_was 7 xwas], [zAr T 0 m_came 7 xcame], [zO11 mo m_all m_has i_size i_next i_where i_token i_number i_word i_wrong i_farCrossing m_read j_z0_1 j_crossings_2 j_inns_3 m_posts m_shut m_here xsteps j_done_5 xat xgone m_was m_came m_seenAt m_rowWorth m_farBy m_used i_everywhere i_again0 i_d0 i_never i_firstCame i_longRun i_moved i_crowd i_l0 i_fitMany i_fitLeast i_fitMost m_fitPost m_fitEnd m_keptPosts i_x0], [zAr T 0 m_all 3952 f_all], [zAr T 0 m_posts 7 xposts], [zAr T 0 m_shut 7 g_shut_7], [zAr T 0 m_here 7 g_here_8]]) (As := [.int w_, .int 10, .int 29]) (rest := []) C G (c_m_isIn l T w_ 10 29) (kS_RX12_111 C.2.2.2.2 (Nat.le_of_ble_eq_true rfl) (Nat.le_of_ble_eq_true rfl)) [] [] rfl rfl rfl rfl hl.1 dX12_endOf_119 (Nat.le_of_ble_eq_true rfl) (Nat.le_of_ble_eq_true rfl) (fun r_28 b1 H locs hw G => ?_)
          refine zAn2 hw ?_
          intro hbs9 hc_27
          clear hw
          subst hbs9
          have G : zS T A s.heap s [[zAr T 0 m_was 7 xwas], [zAr T 0 m_came 7 xcame], [zO11 mo m_all m_has i_size i_next i_where i_token i_number i_word i_wrong i_farCrossing m_read j_z0_1 j_crossings_2 j_inns_3 m_posts m_shut m_here xsteps j_done_5 xat xgone m_was m_came m_seenAt m_rowWorth m_farBy m_used i_everywhere i_again0 i_d0 i_never i_firstCame i_longRun i_moved i_crowd i_l0 i_fitMany i_fitLeast i_fitMost m_fitPost m_fitEnd m_keptPosts i_x0], [zAr T 0 m_all 3952 f_all], [zAr T 0 m_posts 7 xposts], [zAr T 0 m_shut 7 g_shut_7], [zAr T 0 m_here 7 g_here_8]] _ _ := G
          rcases hc_27 with ⟨rfl, h_29, h_30⟩ | ⟨rfl, h_31⟩
          · have h_29 : (10 : Int) ≤ w_.toInt := h_29
            have h_30 : w_.toInt ≤ (29 : Int) := h_30
            refine lv_if_eq (tgt := 133) hx hb dX12_endOf_122 (by decide) (fun q => absurd q (by decide)) (fun _ => ?_)
            refine lv_aload_n hx hb dX12_endOf_125 rfl (lv_at hl 1 rfl) ?_
            refine lv_iload_n hx hb dX12_endOf_126 rfl (lv_at hl 0 rfl) ?_
            refine z_Vi (bc := [[zO11 mo m_all m_has i_size i_next i_where i_token i_number i_word i_wrong i_farCrossing m_read j_z0_1 j_crossings_2 j_inns_3 m_posts m_shut m_here xsteps j_done_5 xat xgone m_was m_came m_seenAt m_rowWorth m_farBy m_used i_everywhere i_again0 i_d0 i_never i_firstCame i_longRun i_moved i_crowd i_l0 i_fitMany i_fitLeast i_fitMost m_fitPost m_fitEnd m_keptPosts i_x0]]) (br := [[zAr T 0 m_was 7 xwas], [zAr T 0 m_came 7 xcame], [zAr T 0 m_all 3952 f_all], [zAr T 0 m_posts 7 xposts], [zAr T 0 m_shut 7 g_shut_7], [zAr T 0 m_here 7 g_here_8]]) (As := [.int (w_ - w_ / 10 * 10)]) (rest := []) C G (c_m_isCrossing l T mo m_all m_has i_size i_next i_where i_token i_number i_word i_wrong i_farCrossing m_read j_z0_1 j_crossings_2 j_inns_3 m_posts m_shut m_here xsteps j_done_5 xat xgone m_was m_came m_seenAt m_rowWorth m_farBy m_used i_everywhere i_again0 i_d0 i_never i_firstCame i_longRun i_moved i_crowd i_l0 i_fitMany i_fitLeast i_fitMost m_fitPost m_fitEnd m_keptPosts i_x0 (w_ - w_ / 10 * 10) (by first | with_reducible assumption | with_reducible rfl | omega | assumption | rfl | decide)) (kV_RX12_187 C.2.2.2.2 (Nat.le_of_ble_eq_true rfl) (Nat.le_of_ble_eq_true rfl)) [2] [2] rfl rfl (ci := 11) (qc := (RX12, TX12, 43)) rfl rfl (List.mem_flatten.mpr ⟨_, List.mem_of_getElem? (i := 0) rfl, List.mem_cons_self⟩) rfl rfl hl.1 dX12_endOf_127 (Nat.le_of_ble_eq_true rfl) (Nat.le_of_ble_eq_true rfl) (fun r_33 b1 H locs hw G => ?_)
            refine zAn2 hw ?_
            intro hbs9 hc_32
            clear hw
            subst hbs9
            have G : zS T A s.heap s [[zAr T 0 m_was 7 xwas], [zAr T 0 m_came 7 xcame], [zAr T 0 m_all 3952 f_all], [zAr T 0 m_posts 7 xposts], [zAr T 0 m_shut 7 g_shut_7], [zAr T 0 m_here 7 g_here_8], [zO11 mo m_all m_has i_size i_next i_where i_token i_number i_word i_wrong i_farCrossing m_read j_z0_1 j_crossings_2 j_inns_3 m_posts m_shut m_here xsteps j_done_5 xat xgone m_was m_came m_seenAt m_rowWorth m_farBy m_used i_everywhere i_again0 i_d0 i_never i_firstCame i_longRun i_moved i_crowd i_l0 i_fitMany i_fitLeast i_fitMost m_fitPost m_fitEnd m_keptPosts i_x0]] _ _ := G
            rcases hc_32 with ⟨rfl, h_34, h_35⟩ | ⟨rfl, h_36⟩
            · have h_34 : 0 ≤ (w_ - w_ / 10 * 10).toInt := h_34
              have h_35 : (w_ - w_ / 10 * 10).toInt < j_crossings_2.toInt := h_35
              refine lv_if_ne (tgt := 138) hx hb dX12_endOf_130 (by decide) (fun _ => ?_) (fun q => absurd q (by decide))
              refine lv_iload_n hx hb dX12_endOf_138 rfl (lv_at hl 3 rfl) ?_
              refine lv_bipush (v := 20) hx hb dX12_endOf_139 (by decide) ?_
              refine lv_icmp_ge (tgt := 153) hx hb dX12_endOf_141 (by decide) (fun c_37 => ?_) (fun c_37 => ?_)
              · have c_37n : (20 : Int) ≤ w_.toInt := (fa_le _ _).mp c_37
                refine lv_aload_n hx hb dX12_endOf_153 rfl (lv_at hl 1 rfl) ?_
                refine z_get C G clX12 6 rfl 14 (by decide) m_fl_RX12_20 rfl dX12_endOf_154 ?_
                refine lv_iload_n hx hb dX12_endOf_157 rfl (lv_at hl 0 rfl) ?_
                refine z_ild C G 3 rfl (vp_in_iff.mpr ⟨by omega, by omega⟩) dX12_endOf_158 ?_
                refine lv_topi (fun v_38 ev_38 => ?_)
                subst ev_38
                have G := G.sub (bs' := [[zO11 mo m_all m_has i_size i_next i_where i_token i_number i_word i_wrong i_farCrossing m_read j_z0_1 j_crossings_2 j_inns_3 m_posts m_shut m_here xsteps j_done_5 xat xgone m_was m_came m_seenAt m_rowWorth m_farBy m_used i_everywhere i_again0 i_d0 i_never i_firstCame i_longRun i_moved i_crowd i_l0 i_fitMany i_fitLeast i_fitMost m_fitPost m_fitEnd m_keptPosts i_x0], [zAr T 0 m_all 3952 f_all], [zAr T 0 m_posts 7 xposts], [zAr T 0 m_shut 7 g_shut_7], [zAr T 0 m_here 7 g_here_8], [zAr T 0 m_was 7 xwas], [zAr T 0 m_came 7 xcame]]) [6, 2, 3, 4, 5, 0, 1] rfl
                exact z_back hQz_ (z_iret C hr hlocks G (Nat.le_of_ble_eq_true rfl) (Nat.le_of_ble_eq_true rfl) dX12_endOf_159 ⟨j_z0_1, j_crossings_2, j_inns_3, xsteps, j_done_5, xat, xgone, xposts, g_shut_7, g_here_8, xwas, xcame, rfl⟩)
              · have c_37n : ¬ (20 : Int) ≤ w_.toInt := fun q => c_37 ((fa_le _ _).mpr q)
                refine lv_aload_n hx hb dX12_endOf_144 rfl (lv_at hl 1 rfl) ?_
                refine z_get C G clX12 6 rfl 22 (by decide) m_fl_RX12_32 rfl dX12_endOf_145 ?_
                refine lv_iload_n hx hb dX12_endOf_148 rfl (lv_at hl 0 rfl) ?_
                refine z_ild C G 1 rfl (vp_in_iff.mpr ⟨by omega, by omega⟩) dX12_endOf_149 ?_
                refine lv_topi (fun v_39 ev_39 => ?_)
                subst ev_39
                refine lv_goto (tgt := 159) hx hb dX12_endOf_150 (by decide) ?_
                have G := G.sub (bs' := [[zO11 mo m_all m_has i_size i_next i_where i_token i_number i_word i_wrong i_farCrossing m_read j_z0_1 j_crossings_2 j_inns_3 m_posts m_shut m_here xsteps j_done_5 xat xgone m_was m_came m_seenAt m_rowWorth m_farBy m_used i_everywhere i_again0 i_d0 i_never i_firstCame i_longRun i_moved i_crowd i_l0 i_fitMany i_fitLeast i_fitMost m_fitPost m_fitEnd m_keptPosts i_x0], [zAr T 0 m_all 3952 f_all], [zAr T 0 m_posts 7 xposts], [zAr T 0 m_shut 7 g_shut_7], [zAr T 0 m_here 7 g_here_8], [zAr T 0 m_was 7 xwas], [zAr T 0 m_came 7 xcame]]) [6, 2, 3, 4, 5, 0, 1] rfl
                exact z_back hQz_ (z_iret C hr hlocks G (Nat.le_of_ble_eq_true rfl) (Nat.le_of_ble_eq_true rfl) dX12_endOf_159 ⟨j_z0_1, j_crossings_2, j_inns_3, xsteps, j_done_5, xat, xgone, xposts, g_shut_7, g_here_8, xwas, xcame, rfl⟩)
            · have h_36 : ((w_ - w_ / 10 * 10).toInt < 0 ∨ j_crossings_2.toInt ≤ (w_ - w_ / 10 * 10).toInt) := h_36
              refine lv_if_ne (tgt := 138) hx hb dX12_endOf_130 (by decide) (fun q => absurd (by decide) q) (fun _ => ?_)
              refine lv_bipush (v := (-2)) hx hb dX12_endOf_133 (by decide) ?_
              refine lv_goto (tgt := 159) hx hb dX12_endOf_135 (by decide) ?_
              have G := G.sub (bs' := [[zO11 mo m_all m_has i_size i_next i_where i_token i_number i_word i_wrong i_farCrossing m_read j_z0_1 j_crossings_2 j_inns_3 m_posts m_shut m_here xsteps j_done_5 xat xgone m_was m_came m_seenAt m_rowWorth m_farBy m_used i_everywhere i_again0 i_d0 i_never i_firstCame i_longRun i_moved i_crowd i_l0 i_fitMany i_fitLeast i_fitMost m_fitPost m_fitEnd m_keptPosts i_x0], [zAr T 0 m_all 3952 f_all], [zAr T 0 m_posts 7 xposts], [zAr T 0 m_shut 7 g_shut_7], [zAr T 0 m_here 7 g_here_8], [zAr T 0 m_was 7 xwas], [zAr T 0 m_came 7 xcame]]) [6, 2, 3, 4, 5, 0, 1] rfl
              exact z_back hQz_ (z_iret C hr hlocks G (Nat.le_of_ble_eq_true rfl) (Nat.le_of_ble_eq_true rfl) dX12_endOf_159 ⟨j_z0_1, j_crossings_2, j_inns_3, xsteps, j_done_5, xat, xgone, xposts, g_shut_7, g_here_8, xwas, xcame, rfl⟩)
          · have h_31 : (w_.toInt < (10 : Int) ∨ (29 : Int) < w_.toInt) := h_31
            refine lv_if_eq (tgt := 133) hx hb dX12_endOf_122 (by decide) (fun _ => ?_) (fun q => absurd (by decide) q)
            refine lv_bipush (v := (-2)) hx hb dX12_endOf_133 (by decide) ?_
            refine lv_goto (tgt := 159) hx hb dX12_endOf_135 (by decide) ?_
            have G := G.sub (bs' := [[zO11 mo m_all m_has i_size i_next i_where i_token i_number i_word i_wrong i_farCrossing m_read j_z0_1 j_crossings_2 j_inns_3 m_posts m_shut m_here xsteps j_done_5 xat xgone m_was m_came m_seenAt m_rowWorth m_farBy m_used i_everywhere i_again0 i_d0 i_never i_firstCame i_longRun i_moved i_crowd i_l0 i_fitMany i_fitLeast i_fitMost m_fitPost m_fitEnd m_keptPosts i_x0], [zAr T 0 m_all 3952 f_all], [zAr T 0 m_posts 7 xposts], [zAr T 0 m_shut 7 g_shut_7], [zAr T 0 m_here 7 g_here_8], [zAr T 0 m_was 7 xwas], [zAr T 0 m_came 7 xcame]]) [2, 3, 4, 5, 6, 0, 1] rfl
            exact z_back hQz_ (z_iret C hr hlocks G (Nat.le_of_ble_eq_true rfl) (Nat.le_of_ble_eq_true rfl) dX12_endOf_159 ⟨j_z0_1, j_crossings_2, j_inns_3, xsteps, j_done_5, xat, xgone, xposts, g_shut_7, g_here_8, xwas, xcame, rfl⟩)
        · have c_26n : w_.toInt = (0 : Int) := (fa_eq _ _).mp c_26
          refine lv_aload_n hx hb dX12_endOf_104 rfl (lv_at hl 1 rfl) ?_
          refine z_get C G clX12 2 rfl 17 (by decide) m_fl_RX12_196 rfl dX12_endOf_105 ?_
          have G := G.sub (bs' := [[zO11 mo m_all m_has i_size i_next i_where i_token i_number i_word i_wrong i_farCrossing m_read j_z0_1 j_crossings_2 j_inns_3 m_posts m_shut m_here xsteps j_done_5 xat xgone m_was m_came m_seenAt m_rowWorth m_farBy m_used i_everywhere i_again0 i_d0 i_never i_firstCame i_longRun i_moved i_crowd i_l0 i_fitMany i_fitLeast i_fitMost m_fitPost m_fitEnd m_keptPosts i_x0], [zAr T 0 m_all 3952 f_all], [zAr T 0 m_posts 7 xposts], [zAr T 0 m_shut 7 g_shut_7], [zAr T 0 m_here 7 g_here_8], [zAr T 0 m_was 7 xwas], [zAr T 0 m_came 7 xcame]]) [2, 3, 4, 5, 6, 0, 1] rfl
          exact z_back hQz_ (z_iret C hr hlocks G (Nat.le_of_ble_eq_true rfl) (Nat.le_of_ble_eq_true rfl) dX12_endOf_108 ⟨j_z0_1, j_crossings_2, j_inns_3, xsteps, j_done_5, xat, xgone, xposts, g_shut_7, g_here_8, xwas, xcame, rfl⟩)
      · have c_25n : ¬ j_crossings_2.toInt ≤ (i : Int) := fun q => c_25 ((fa_le _ _).mpr (by rw [nI_toInt (n := i) (by omega)]; exact q))
        refine lv_iconst (v := 0) hx hb dX12_endOf_42 (by decide) ?_
        refine lv_istore (lv' := [(4, .int 0), (3, .int (nI i)), (0, .ref mo), (1, .int l_), (2, .int w_)]) hx hb dX12_endOf_43 hl (by decide) (zLvf_h rfl) (fun ls hl => ?_)
        have hxl := Int32.toInt_lt (g_here_8 i)
        refine z_lp7 (T := T) 45 (fun (k : Nat) (yat : Int32) (ygone : Int32) (ysteps : Int32) (yposts : Nat → Int32) (ywas : Nat → Int32) (ycame : Nat → Int32) => [[zAr T 0 m_was 7 ywas], [zAr T 0 m_came 7 ycame], [zO11 mo m_all m_has i_size i_next i_where i_token i_number i_word i_wrong i_farCrossing m_read j_z0_1 j_crossings_2 j_inns_3 m_posts m_shut m_here ysteps j_done_5 yat ygone m_was m_came m_seenAt m_rowWorth m_farBy m_used i_everywhere i_again0 i_d0 i_never i_firstCame i_longRun i_moved i_crowd i_l0 i_fitMany i_fitLeast i_fitMost m_fitPost m_fitEnd m_keptPosts i_x0], [zAr T 0 m_all 3952 f_all], [zAr T 0 m_posts 7 yposts], [zAr T 0 m_shut 7 g_shut_7], [zAr T 0 m_here 7 g_here_8]]) (fun (k : Nat) (yat : Int32) (ygone : Int32) (ysteps : Int32) (yposts : Nat → Int32) (ywas : Nat → Int32) (ycame : Nat → Int32) => [(4, .int (nI k)), (3, .int (nI i)), (0, .ref mo), (1, .int l_), (2, .int w_)]) (fun (k : Nat) (yat : Int32) (ygone : Int32) (ysteps : Int32) (yposts : Nat → Int32) (ywas : Nat → Int32) (ycame : Nat → Int32) => (k = 0 ∨ (k : Int) ≤ (g_here_8 i).toInt) ∧ zMP yposts) (fun (k : Nat) (yat : Int32) (ygone : Int32) (ysteps : Int32) (yposts : Nat → Int32) (ywas : Nat → Int32) (ycame : Nat → Int32) => ((g_here_8 i).toInt - k).toNat) ?_ 0 xat xgone xsteps xposts xwas xcame (show (0 = 0 ∨ (0 : Int) ≤ (g_here_8 i).toInt) ∧ zMP xposts from ⟨by omega, (by first | with_reducible assumption | assumption)⟩) G (lv_sub hl [0, 1, 2, 3, 4] rfl)
        intro k yat ygone ysteps yposts ywas ycame hI9 ih_45 H locs ls G hl
        replace hI9 : (k = 0 ∨ (k : Int) ≤ (g_here_8 i).toInt) ∧ zMP yposts := hI9
        refine zAn2 hI9 ?_
        intro hk hQ2
        clear hI9
        replace G : zS T A s.heap s [[zAr T 0 m_was 7 ywas], [zAr T 0 m_came 7 ycame], [zO11 mo m_all m_has i_size i_next i_where i_token i_number i_word i_wrong i_farCrossing m_read j_z0_1 j_crossings_2 j_inns_3 m_posts m_shut m_here ysteps j_done_5 yat ygone m_was m_came m_seenAt m_rowWorth m_farBy m_used i_everywhere i_again0 i_d0 i_never i_firstCame i_longRun i_moved i_crowd i_l0 i_fitMany i_fitLeast i_fitMost m_fitPost m_fitEnd m_keptPosts i_x0], [zAr T 0 m_all 3952 f_all], [zAr T 0 m_posts 7 yposts], [zAr T 0 m_shut 7 g_shut_7], [zAr T 0 m_here 7 g_here_8]] _ _ := G
        replace hl : lv_has ls 5 [(4, .int (nI k)), (3, .int (nI i)), (0, .ref mo), (1, .int l_), (2, .int w_)] := hl
        refine lv_iload hx hb dX12_endOf_45 (lv_at hl 0 rfl) ?_
        refine lv_aload_n hx hb dX12_endOf_47 rfl (lv_at hl 2 rfl) ?_
        refine z_get C G clX12 2 rfl 16 (by decide) m_fl_RX12_26 rfl dX12_endOf_48 ?_
        refine lv_iload_n hx hb dX12_endOf_51 rfl (lv_at hl 1 rfl) ?_
        refine z_ild C G 6 rfl (vp_in_nI (by omega) (by decide)) dX12_endOf_52 ?_
        refine lv_topi (fun v_40 ev_40 => ?_)
        rw [nI_clamp (by omega)] at ev_40
        subst ev_40
        refine lv_icmp_ge (tgt := 94) hx hb dX12_endOf_53 (by decide) (fun c_41 => ?_) (fun c_41 => ?_)
        · have c_41n : (g_here_8 i).toInt ≤ (k : Int) := by have q := (fa_le _ _).mp c_41; rw [nI_toInt (n := k) (by omega)] at q; exact q
          refine lv_iinc (v := nI (i + 1)) (lv' := [(3, .int (nI (i + 1))), (4, .int (nI k)), (0, .ref mo), (1, .int l_), (2, .int w_)]) hx hb dX12_endOf_94 hl (k := 1) rfl (z_inc i 1) (by decide) (zLvf_h rfl) (fun ls hl => ?_)
          refine lv_goto (tgt := 34) hx hb dX12_endOf_97 (by decide) ?_
          exact ih_34 (i + 1) yat ygone ysteps yposts ywas ycame (show (i + 1) ≤ 7 ∧ zMP yposts from ⟨by omega, (by first | with_reducible assumption | assumption)⟩) (show 7 - (i + 1) < 7 - i from by omega) _ _ ls G (lv_sub hl [0, 2, 3, 4] rfl)
        · have c_41n : ¬ (g_here_8 i).toInt ≤ (k : Int) := fun q => c_41 ((fa_le _ _).mpr (by rw [nI_toInt (n := k) (by omega)]; exact q))
          refine lv_aload_n hx hb dX12_endOf_56 rfl (lv_at hl 2 rfl) ?_
          refine lv_iload_n hx hb dX12_endOf_57 rfl (lv_at hl 1 rfl) ?_
          have ti_42 : (nI i).toInt = ((i : Nat) : Int) := nI_toInt (by omega)
          refine z_Vi (bc := [[zO11 mo m_all m_has i_size i_next i_where i_token i_number i_word i_wrong i_farCrossing m_read j_z0_1 j_crossings_2 j_inns_3 m_posts m_shut m_here ysteps j_done_5 yat ygone m_was m_came m_seenAt m_rowWorth m_farBy m_used i_everywhere i_again0 i_d0 i_never i_firstCame i_longRun i_moved i_crowd i_l0 i_fitMany i_fitLeast i_fitMost m_fitPost m_fitEnd m_keptPosts i_x0], [zAr T 0 m_all 3952 f_all], [zAr T 0 m_posts 7 yposts], [zAr T 0 m_shut 7 g_shut_7], [zAr T 0 m_was 7 ywas]]) (br := [[zAr T 0 m_came 7 ycame], [zAr T 0 m_here 7 g_here_8]]) (As := [.int (nI i)]) (rest := []) C G (c_m_walks l T mo m_all m_has i_size i_next i_where i_token i_number i_word i_wrong i_farCrossing m_read j_z0_1 j_crossings_2 j_inns_3 m_posts m_shut m_here ysteps j_done_5 yat ygone m_was m_came m_seenAt m_rowWorth m_farBy m_used i_everywhere i_again0 i_d0 i_never i_firstCame i_longRun i_moved i_crowd i_l0 i_fitMany i_fitLeast i_fitMost m_fitPost m_fitEnd m_keptPosts i_x0 f_all yposts g_shut_7 ywas (nI i) (by first | with_reducible assumption | with_reducible rfl | omega | assumption | rfl | decide) (by first | with_reducible assumption | with_reducible rfl | omega | assumption | rfl | decide) (by first | with_reducible assumption | with_reducible rfl | omega | assumption | rfl | decide) (by first | with_reducible assumption | with_reducible rfl | omega | assumption | rfl | decide)) (kV_RX12_217 C.2.2.2.2 (Nat.le_of_ble_eq_true rfl) (Nat.le_of_ble_eq_true rfl)) [2, 3, 4, 5, 0] [0, 1, 0, 0, 0] rfl rfl (ci := 11) (qc := (RX12, TX12, 43)) rfl rfl (List.mem_flatten.mpr ⟨_, List.mem_of_getElem? (i := 0) rfl, List.mem_cons_self⟩) rfl rfl hl.1 dX12_endOf_58 (Nat.le_of_ble_eq_true rfl) (Nat.le_of_ble_eq_true rfl) (fun r_53 b1 H locs hw G => ?_)
          refine zEx4 hw ?_
          intro j_at_43 j_gone_44 g_posts_45 g_was_46
          refine zCu7 ?_
          intro hbs9 h_47 h_48 h_49 h_50 h_51 h_52
          clear hw
          subst hbs9
          have G : zS T A s.heap s [[zAr T 0 m_came 7 ycame], [zAr T 0 m_here 7 g_here_8], [zO11 mo m_all m_has i_size i_next i_where i_token i_number i_word i_wrong i_farCrossing m_read j_z0_1 j_crossings_2 j_inns_3 m_posts m_shut m_here ysteps j_done_5 j_at_43 j_gone_44 m_was m_came m_seenAt m_rowWorth m_farBy m_used i_everywhere i_again0 i_d0 i_never i_firstCame i_longRun i_moved i_crowd i_l0 i_fitMany i_fitLeast i_fitMost m_fitPost m_fitEnd m_keptPosts i_x0], [zAr T 0 m_all 3952 f_all], [zAr T 0 m_posts 7 g_posts_45], [zAr T 0 m_shut 7 g_shut_7], [zAr T 0 m_was 7 g_was_46]] _ _ := G
          replace h_47 : zHd ((r_53 = 0 ∨ r_53 = 1)) := h_47
          refine lv_pop hx hb dX12_endOf_61 rfl ?_
          refine lv_aload_n hx hb dX12_endOf_62 rfl (lv_at hl 2 rfl) ?_
          refine lv_dup hx hb dX12_endOf_63 rfl ?_
          refine z_get C G clX12 2 rfl 17 (by decide) m_fl_RX12_196 rfl dX12_endOf_64 ?_
          refine lv_aload_n hx hb dX12_endOf_67 rfl (lv_at hl 2 rfl) ?_
          refine z_get C G clX12 2 rfl 20 (by decide) m_fl_RX12_208 rfl dX12_endOf_68 ?_
          refine lv_iadd hx hb dX12_endOf_71 ?_
          refine z_put C G clX12 2 rfl 17 (by decide) m_fl_RX12_196 rfl rfl rfl (Nat.le_of_ble_eq_true rfl) dX12_endOf_72 (fun H locs G => ?_)
          have G : zS T A s.heap s [[zAr T 0 m_came 7 ycame], [zAr T 0 m_here 7 g_here_8], [zO11 mo m_all m_has i_size i_next i_where i_token i_number i_word i_wrong i_farCrossing m_read j_z0_1 j_crossings_2 j_inns_3 m_posts m_shut m_here (ysteps + j_gone_44) j_done_5 j_at_43 j_gone_44 m_was m_came m_seenAt m_rowWorth m_farBy m_used i_everywhere i_again0 i_d0 i_never i_firstCame i_longRun i_moved i_crowd i_l0 i_fitMany i_fitLeast i_fitMost m_fitPost m_fitEnd m_keptPosts i_x0], [zAr T 0 m_all 3952 f_all], [zAr T 0 m_posts 7 g_posts_45], [zAr T 0 m_shut 7 g_shut_7], [zAr T 0 m_was 7 g_was_46]] _ _ := G
          refine lv_aload_n hx hb dX12_endOf_75 rfl (lv_at hl 2 rfl) ?_
          refine z_get C G clX12 2 rfl 22 (by decide) m_fl_RX12_32 rfl dX12_endOf_76 ?_
          refine lv_aload_n hx hb dX12_endOf_79 rfl (lv_at hl 2 rfl) ?_
          refine z_get C G clX12 2 rfl 19 (by decide) m_fl_RX12_202 rfl dX12_endOf_80 ?_
          refine lv_dup2_11 hx hb dX12_endOf_83 rfl rfl ?_
          refine z_ild C G 0 rfl (vp_in_iff.mpr ⟨by omega, by omega⟩) dX12_endOf_84 ?_
          refine lv_topi (fun v_54 ev_54 => ?_)
          subst ev_54
          refine lv_iconst (v := 1) hx hb dX12_endOf_85 (by decide) ?_
          refine lv_iadd hx hb dX12_endOf_86 ?_
          refine z_ist C G 0 rfl (vp_in_iff.mpr ⟨by omega, by omega⟩) dX12_endOf_87 (fun H locs G => ?_)
          have G : zS T A s.heap s [[zAr T 0 m_came 7 (upd ycame j_at_43.toNatClampNeg ((ycame j_at_43.toNatClampNeg) + 1))], [zAr T 0 m_here 7 g_here_8], [zO11 mo m_all m_has i_size i_next i_where i_token i_number i_word i_wrong i_farCrossing m_read j_z0_1 j_crossings_2 j_inns_3 m_posts m_shut m_here (ysteps + j_gone_44) j_done_5 j_at_43 j_gone_44 m_was m_came m_seenAt m_rowWorth m_farBy m_used i_everywhere i_again0 i_d0 i_never i_firstCame i_longRun i_moved i_crowd i_l0 i_fitMany i_fitLeast i_fitMost m_fitPost m_fitEnd m_keptPosts i_x0], [zAr T 0 m_all 3952 f_all], [zAr T 0 m_posts 7 g_posts_45], [zAr T 0 m_shut 7 g_shut_7], [zAr T 0 m_was 7 g_was_46]] _ _ := G
          refine lv_iinc (v := nI (k + 1)) (lv' := [(4, .int (nI (k + 1))), (3, .int (nI i)), (0, .ref mo), (1, .int l_), (2, .int w_)]) hx hb dX12_endOf_88 hl (k := 0) rfl (z_inc k 1) (by decide) (zLvf_h rfl) (fun ls hl => ?_)
          refine lv_goto (tgt := 45) hx hb dX12_endOf_91 (by decide) ?_
          have hxl := Int32.toInt_lt (g_here_8 i)
          have G := G.sub (bs' := [[zAr T 0 m_was 7 g_was_46], [zAr T 0 m_came 7 (upd ycame j_at_43.toNatClampNeg ((ycame j_at_43.toNatClampNeg) + 1))], [zO11 mo m_all m_has i_size i_next i_where i_token i_number i_word i_wrong i_farCrossing m_read j_z0_1 j_crossings_2 j_inns_3 m_posts m_shut m_here (ysteps + j_gone_44) j_done_5 j_at_43 j_gone_44 m_was m_came m_seenAt m_rowWorth m_farBy m_used i_everywhere i_again0 i_d0 i_never i_firstCame i_longRun i_moved i_crowd i_l0 i_fitMany i_fitLeast i_fitMost m_fitPost m_fitEnd m_keptPosts i_x0], [zAr T 0 m_all 3952 f_all], [zAr T 0 m_posts 7 g_posts_45], [zAr T 0 m_shut 7 g_shut_7], [zAr T 0 m_here 7 g_here_8]]) [6, 0, 2, 3, 4, 5, 1] rfl
          exact ih_45 (k + 1) j_at_43 j_gone_44 (ysteps + j_gone_44) g_posts_45 g_was_46 (upd ycame j_at_43.toNatClampNeg ((ycame j_at_43.toNatClampNeg) + 1)) (show ((k + 1) = 0 ∨ ((k + 1) : Int) ≤ (g_here_8 i).toInt) ∧ zMP g_posts_45 from ⟨by omega, (by first | with_reducible assumption | assumption)⟩) (show ((g_here_8 i).toInt - (k + 1)).toNat < ((g_here_8 i).toInt - k).toNat from by omega) _ _ ls G (lv_sub hl [0, 1, 2, 3, 4] rfl)
    · have c_24n : ¬ 7 ≤ i := fun q => c_24 ((nI_leI (a := 7) (b := i) (by omega) (by omega)).mpr q)
      refine lv_aload_n hx hb dX12_endOf_19 rfl (lv_at hl 1 rfl) ?_
      refine z_get C G clX12 2 rfl 22 (by decide) m_fl_RX12_32 rfl dX12_endOf_20 ?_
      refine lv_iload_n hx hb dX12_endOf_23 rfl (lv_at hl 0 rfl) ?_
      refine lv_iconst (v := 0) hx hb dX12_endOf_24 (by decide) ?_
      refine z_ist C G 1 rfl (vp_in_nI (by omega) (by decide)) dX12_endOf_25 (fun H locs G => ?_)
      rw [nI_clamp (by omega)] at G
      have G : zS T A s.heap s [[zAr T 0 m_was 7 f_was], [zAr T 0 m_came 7 (upd xcame i 0)], [zO11 mo m_all m_has i_size i_next i_where i_token i_number i_word i_wrong i_farCrossing m_read j_z0_1 j_crossings_2 j_inns_3 m_posts m_shut m_here j_steps_4 j_done_5 i_at i_gone m_was m_came m_seenAt m_rowWorth m_farBy m_used i_everywhere i_again0 i_d0 i_never i_firstCame i_longRun i_moved i_crowd i_l0 i_fitMany i_fitLeast i_fitMost m_fitPost m_fitEnd m_keptPosts i_x0], [zAr T 0 m_all 3952 f_all], [zAr T 0 m_posts 7 g_posts_6], [zAr T 0 m_shut 7 g_shut_7], [zAr T 0 m_here 7 g_here_8]] _ _ := G
      refine lv_iinc (v := nI (i + 1)) (lv' := [(3, .int (nI (i + 1))), (0, .ref mo), (1, .int l_), (2, .int w_)]) hx hb dX12_endOf_26 hl (k := 0) rfl (z_inc i 1) (by decide) (zLvf_h rfl) (fun ls hl => ?_)
      refine lv_goto (tgt := 13) hx hb dX12_endOf_29 (by decide) ?_
      exact ih_13 (i + 1) (upd xcame i 0) (show (i + 1) ≤ 7 from by omega) (show 7 - (i + 1) < 7 - i from by omega) _ _ ls G (lv_sub hl [0, 1, 2, 3] rfl)
  · have h_23 : (l_.toInt < 0 ∨ (f_all 0).toInt ≤ l_.toInt) := h_23
    refine lv_if_ne (tgt := 11) hx hb dX12_endOf_5 (by decide) (fun q => absurd (by decide) q) (fun _ => ?_)
    refine lv_bipush (v := (-2)) hx hb dX12_endOf_8 (by decide) ?_
    have G := G.sub (bs' := [[zO11 mo m_all m_has i_size i_next i_where i_token i_number i_word i_wrong i_farCrossing m_read j_z0_1 j_crossings_2 j_inns_3 m_posts m_shut m_here j_steps_4 j_done_5 i_at i_gone m_was m_came m_seenAt m_rowWorth m_farBy m_used i_everywhere i_again0 i_d0 i_never i_firstCame i_longRun i_moved i_crowd i_l0 i_fitMany i_fitLeast i_fitMost m_fitPost m_fitEnd m_keptPosts i_x0], [zAr T 0 m_all 3952 f_all], [zAr T 0 m_posts 7 g_posts_6], [zAr T 0 m_shut 7 g_shut_7], [zAr T 0 m_here 7 g_here_8], [zAr T 0 m_was 7 f_was], [zAr T 0 m_came 7 f_came]]) [2, 3, 4, 5, 6, 0, 1] rfl
    exact z_back hQz_ (z_iret C hr hlocks G (Nat.le_of_ble_eq_true rfl) (Nat.le_of_ble_eq_true rfl) dX12_endOf_10 ⟨j_z0_1, j_crossings_2, j_inns_3, j_steps_4, j_done_5, i_at, i_gone, g_posts_6, g_shut_7, g_here_8, f_was, f_came, rfl⟩)
set_option maxHeartbeats 4000000 in
set_option maxRecDepth 100000 in
/-- c_m_period -/
theorem c_m_period (l : Launch) (T : zTy) (mo : Nat) (m_all : Nat) (m_has : Nat) (i_size : Int32) (i_next : Int32) (i_where : Int32) (i_token : Int32) (i_number : Int32) (i_word : Int32) (i_wrong : Int32) (i_farCrossing : Int32) (m_read : Nat) (i_z0 : Int32) (i_crossings : Int32) (i_inns : Int32) (m_posts : Nat) (m_shut : Nat) (m_here : Nat) (i_steps : Int32) (i_done : Int32) (i_at : Int32) (i_gone : Int32) (m_was : Nat) (m_came : Nat) (m_seenAt : Nat) (m_rowWorth : Nat) (m_farBy : Nat) (m_used : Nat) (i_everywhere : Int32) (i_again0 : Int32) (i_d0 : Int32) (i_never : Int32) (i_firstCame : Int32) (i_longRun : Int32) (i_moved : Int32) (i_crowd : Int32) (i_l0 : Int32) (i_fitMany : Int32) (i_fitLeast : Int32) (i_fitMost : Int32) (m_fitPost : Nat) (m_fitEnd : Nat) (m_keptPosts : Nat) (i_x0 : Int32) (f_all : Nat → Int32) (f_posts : Nat → Int32) (f_shut : Nat → Int32) (f_here : Nat → Int32) (f_was : Nat → Int32) (f_seenAt : Nat → Int32) (l_ : Int32) (c_ : Int32) (w_ : Int32) (hB : zBI f_all) : zMi l T yX12_period cX12_period 6 (some .int) 5 0 0 [.ref mo, .int l_, .int c_, .int w_] [[zO11 mo m_all m_has i_size i_next i_where i_token i_number i_word i_wrong i_farCrossing m_read i_z0 i_crossings i_inns m_posts m_shut m_here i_steps i_done i_at i_gone m_was m_came m_seenAt m_rowWorth m_farBy m_used i_everywhere i_again0 i_d0 i_never i_firstCame i_longRun i_moved i_crowd i_l0 i_fitMany i_fitLeast i_fitMost m_fitPost m_fitEnd m_keptPosts i_x0], [zAr T 0 m_all 3952 f_all], [zAr T 0 m_posts 7 f_posts], [zAr T 0 m_shut 7 f_shut], [zAr T 0 m_here 7 f_here], [zAr T 0 m_was 7 f_was], [zAr T 0 m_seenAt 16384 f_seenAt]] (fun (r : Int32) bs => ∃ (j_z0 : Int32) (j_crossings : Int32) (j_inns : Int32) (j_steps : Int32) (j_done : Int32) (j_at : Int32) (j_gone : Int32) (g_posts : Nat → Int32) (g_shut : Nat → Int32) (g_here : Nat → Int32) (g_was : Nat → Int32) (g_seenAt : Nat → Int32), bs = [[zO11 mo m_all m_has i_size i_next i_where i_token i_number i_word i_wrong i_farCrossing m_read j_z0 j_crossings j_inns m_posts m_shut m_here j_steps j_done j_at j_gone m_was m_came m_seenAt m_rowWorth m_farBy m_used i_everywhere i_again0 i_d0 i_never i_firstCame i_longRun i_moved i_crowd i_l0 i_fitMany i_fitLeast i_fitMost m_fitPost m_fitEnd m_keptPosts i_x0], [zAr T 0 m_all 3952 f_all], [zAr T 0 m_posts 7 g_posts], [zAr T 0 m_shut 7 g_shut], [zAr T 0 m_here 7 g_here], [zAr T 0 m_was 7 g_was], [zAr T 0 m_seenAt 16384 g_seenAt]]) := by
  refine zMi_of (own := RX12) (by decide) rfl (Nat.le_of_ble_eq_true rfl) ?_
  intro p e s m args below meth c A ls C hr hlocks hnm hAe G hl
  refine zHide (fun Qz_ hQz_ => ?_)
  have hx := C.1
  have hb := C.2.1
  have hl : lv_has ls 6 [(0, .ref mo), (1, .int l_), (2, .int c_), (3, .int w_)] := hl
  refine lv_aload_n hx hb dX12_period_0 rfl (lv_at hl 0 rfl) ?_
  refine lv_iload_n hx hb dX12_period_1 rfl (lv_at hl 1 rfl) ?_
  refine z_Vi (bc := [[zO11 mo m_all m_has i_size i_next i_where i_token i_number i_word i_wrong i_farCrossing m_read i_z0 i_crossings i_inns m_posts m_shut m_here i_steps i_done i_at i_gone m_was m_came m_seenAt m_rowWorth m_farBy m_used i_everywhere i_again0 i_d0 i_never i_firstCame i_longRun i_moved i_crowd i_l0 i_fitMany i_fitLeast i_fitMost m_fitPost m_fitEnd m_keptPosts i_x0], [zAr T 0 m_all 3952 f_all], [zAr T 0 m_posts 7 f_posts], [zAr T 0 m_shut 7 f_shut], [zAr T 0 m_here 7 f_here]]) (br := [[zAr T 0 m_was 7 f_was], [zAr T 0 m_seenAt 16384 f_seenAt]]) (As := [.int l_]) (rest := []) C G (c_m_isLand l T mo m_all m_has i_size i_next i_where i_token i_number i_word i_wrong i_farCrossing m_read i_z0 i_crossings i_inns m_posts m_shut m_here i_steps i_done i_at i_gone m_was m_came m_seenAt m_rowWorth m_farBy m_used i_everywhere i_again0 i_d0 i_never i_firstCame i_longRun i_moved i_crowd i_l0 i_fitMany i_fitLeast i_fitMost m_fitPost m_fitEnd m_keptPosts i_x0 f_all f_posts f_shut f_here l_ (by first | with_reducible assumption | with_reducible rfl | omega | assumption | rfl | decide)) (kV_RX12_184 C.2.2.2.2 (Nat.le_of_ble_eq_true rfl) (Nat.le_of_ble_eq_true rfl)) [0, 1, 2, 3, 4] [0, 0, 0, 0, 0] rfl rfl (ci := 11) (qc := (RX12, TX12, 43)) rfl rfl (List.mem_flatten.mpr ⟨_, List.mem_of_getElem? (i := 0) rfl, List.mem_cons_self⟩) rfl rfl hl.1 dX12_period_2 (Nat.le_of_ble_eq_true rfl) (Nat.le_of_ble_eq_true rfl) (fun r_10 b1 H locs hw G => ?_)
  refine zEx8 hw ?_
  intro j_z0_1 j_crossings_2 j_inns_3 j_steps_4 j_done_5 g_posts_6 g_shut_7 g_here_8
  refine zCu2 ?_
  intro hbs9 hc_9
  clear hw
  subst hbs9
  have G : zS T A s.heap s [[zAr T 0 m_was 7 f_was], [zAr T 0 m_seenAt 16384 f_seenAt], [zO11 mo m_all m_has i_size i_next i_where i_token i_number i_word i_wrong i_farCrossing m_read j_z0_1 j_crossings_2 j_inns_3 m_posts m_shut m_here j_steps_4 j_done_5 i_at i_gone m_was m_came m_seenAt m_rowWorth m_farBy m_used i_everywhere i_again0 i_d0 i_never i_firstCame i_longRun i_moved i_crowd i_l0 i_fitMany i_fitLeast i_fitMost m_fitPost m_fitEnd m_keptPosts i_x0], [zAr T 0 m_all 3952 f_all], [zAr T 0 m_posts 7 g_posts_6], [zAr T 0 m_shut 7 g_shut_7], [zAr T 0 m_here 7 g_here_8]] _ _ := G
  rcases hc_9 with ⟨rfl, h_11, h_12, h_13, h_14, h_15, h_16, h_17, h_18, h_19, h_20, h_21, h_22⟩ | ⟨rfl, h_23⟩
  · have h_11 : 0 ≤ l_.toInt := h_11
    have h_12 : l_.toInt ≤ 1 := h_12
    have h_13 : l_.toInt < (f_all 0).toInt := h_13
    have h_14 : j_z0_1.toInt = 610 + 51 * l_.toInt := h_14
    have h_15 : zML f_all j_z0_1 j_crossings_2 := h_15
    have h_16 : zMP g_posts_6 := h_16
    have h_17 : j_inns_3 = f_all (j_z0_1.toInt.toNat + 1) := h_17
    have h_18 : j_steps_4 = 0 := h_18
    have h_19 : j_done_5 = 0 := h_19
    have h_20 : (∀ j, j < 7 → g_posts_6 j = zPt f_all j_z0_1 (nI j)) := h_20
    have h_21 : (∀ j, j < 7 → g_shut_7 j = 0) := h_21
    have h_22 : (∀ j, j < 7 → g_here_8 j = zWk f_all j_z0_1 j) := h_22
    have hLx := h_15
    have hcr := hLx.cr
    have hzx := hLx.1
    have hPx := h_16
    refine lv_if_eq (tgt := 16) hx hb dX12_period_5 (by decide) (fun q => absurd q (by decide)) (fun _ => ?_)
    refine lv_aload_n hx hb dX12_period_8 rfl (lv_at hl 0 rfl) ?_
    refine lv_iload_n hx hb dX12_period_9 rfl (lv_at hl 2 rfl) ?_
    refine z_Vi (bc := [[zO11 mo m_all m_has i_size i_next i_where i_token i_number i_word i_wrong i_farCrossing m_read j_z0_1 j_crossings_2 j_inns_3 m_posts m_shut m_here j_steps_4 j_done_5 i_at i_gone m_was m_came m_seenAt m_rowWorth m_farBy m_used i_everywhere i_again0 i_d0 i_never i_firstCame i_longRun i_moved i_crowd i_l0 i_fitMany i_fitLeast i_fitMost m_fitPost m_fitEnd m_keptPosts i_x0]]) (br := [[zAr T 0 m_was 7 f_was], [zAr T 0 m_seenAt 16384 f_seenAt], [zAr T 0 m_all 3952 f_all], [zAr T 0 m_posts 7 g_posts_6], [zAr T 0 m_shut 7 g_shut_7], [zAr T 0 m_here 7 g_here_8]]) (As := [.int c_]) (rest := []) C G (c_m_isCrossing l T mo m_all m_has i_size i_next i_where i_token i_number i_word i_wrong i_farCrossing m_read j_z0_1 j_crossings_2 j_inns_3 m_posts m_shut m_here j_steps_4 j_done_5 i_at i_gone m_was m_came m_seenAt m_rowWorth m_farBy m_used i_everywhere i_again0 i_d0 i_never i_firstCame i_longRun i_moved i_crowd i_l0 i_fitMany i_fitLeast i_fitMost m_fitPost m_fitEnd m_keptPosts i_x0 c_ (by first | with_reducible assumption | with_reducible rfl | omega | assumption | rfl | decide)) (kV_RX12_187 C.2.2.2.2 (Nat.le_of_ble_eq_true rfl) (Nat.le_of_ble_eq_true rfl)) [2] [2] rfl rfl (ci := 11) (qc := (RX12, TX12, 43)) rfl rfl (List.mem_flatten.mpr ⟨_, List.mem_of_getElem? (i := 0) rfl, List.mem_cons_self⟩) rfl rfl hl.1 dX12_period_10 (Nat.le_of_ble_eq_true rfl) (Nat.le_of_ble_eq_true rfl) (fun r_25 b1 H locs hw G => ?_)
    refine zAn2 hw ?_
    intro hbs9 hc_24
    clear hw
    subst hbs9
    have G : zS T A s.heap s [[zAr T 0 m_was 7 f_was], [zAr T 0 m_seenAt 16384 f_seenAt], [zAr T 0 m_all 3952 f_all], [zAr T 0 m_posts 7 g_posts_6], [zAr T 0 m_shut 7 g_shut_7], [zAr T 0 m_here 7 g_here_8], [zO11 mo m_all m_has i_size i_next i_where i_token i_number i_word i_wrong i_farCrossing m_read j_z0_1 j_crossings_2 j_inns_3 m_posts m_shut m_here j_steps_4 j_done_5 i_at i_gone m_was m_came m_seenAt m_rowWorth m_farBy m_used i_everywhere i_again0 i_d0 i_never i_firstCame i_longRun i_moved i_crowd i_l0 i_fitMany i_fitLeast i_fitMost m_fitPost m_fitEnd m_keptPosts i_x0]] _ _ := G
    rcases hc_24 with ⟨rfl, h_26, h_27⟩ | ⟨rfl, h_28⟩
    · have h_26 : 0 ≤ c_.toInt := h_26
      have h_27 : c_.toInt < j_crossings_2.toInt := h_27
      refine lv_if_ne (tgt := 18) hx hb dX12_period_13 (by decide) (fun _ => ?_) (fun q => absurd q (by decide))
      refine lv_iconst (v := 0) hx hb dX12_period_18 (by decide) ?_
      refine lv_istore (lv' := [(4, .int 0), (0, .ref mo), (1, .int l_), (2, .int c_), (3, .int w_)]) hx hb dX12_period_19 hl (by decide) (zLvf_h rfl) (fun ls hl => ?_)
      refine z_lp2 (T := T) 21 (fun (i : Nat) (xseenAt : Nat → Int32) => [[zAr T 0 m_was 7 f_was], [zAr T 0 m_seenAt 16384 xseenAt], [zAr T 0 m_all 3952 f_all], [zAr T 0 m_posts 7 g_posts_6], [zAr T 0 m_shut 7 g_shut_7], [zAr T 0 m_here 7 g_here_8], [zO11 mo m_all m_has i_size i_next i_where i_token i_number i_word i_wrong i_farCrossing m_read j_z0_1 j_crossings_2 j_inns_3 m_posts m_shut m_here j_steps_4 j_done_5 i_at i_gone m_was m_came m_seenAt m_rowWorth m_farBy m_used i_everywhere i_again0 i_d0 i_never i_firstCame i_longRun i_moved i_crowd i_l0 i_fitMany i_fitLeast i_fitMost m_fitPost m_fitEnd m_keptPosts i_x0]]) (fun (i : Nat) (xseenAt : Nat → Int32) => [(4, .int (nI i)), (0, .ref mo), (1, .int l_), (2, .int c_), (3, .int w_)]) (fun (i : Nat) (xseenAt : Nat → Int32) => i ≤ 16384) (fun (i : Nat) (xseenAt : Nat → Int32) => 16384 - i) ?_ 0 f_seenAt (show 0 ≤ 16384 from by omega) G (lv_sub hl [0, 1, 2, 3, 4] rfl)
      intro i xseenAt hi ih_21 H locs ls G hl
      replace hi : i ≤ 16384 := hi
      replace G : zS T A s.heap s [[zAr T 0 m_was 7 f_was], [zAr T 0 m_seenAt 16384 xseenAt], [zAr T 0 m_all 3952 f_all], [zAr T 0 m_posts 7 g_posts_6], [zAr T 0 m_shut 7 g_shut_7], [zAr T 0 m_here 7 g_here_8], [zO11 mo m_all m_has i_size i_next i_where i_token i_number i_word i_wrong i_farCrossing m_read j_z0_1 j_crossings_2 j_inns_3 m_posts m_shut m_here j_steps_4 j_done_5 i_at i_gone m_was m_came m_seenAt m_rowWorth m_farBy m_used i_everywhere i_again0 i_d0 i_never i_firstCame i_longRun i_moved i_crowd i_l0 i_fitMany i_fitLeast i_fitMost m_fitPost m_fitEnd m_keptPosts i_x0]] _ _ := G
      replace hl : lv_has ls 6 [(4, .int (nI i)), (0, .ref mo), (1, .int l_), (2, .int c_), (3, .int w_)] := hl
      refine lv_iload hx hb dX12_period_21 (lv_at hl 0 rfl) ?_
      refine lv_sipush (v := 16384) hx hb dX12_period_23 (by decide) ?_
      refine lv_icmp_ge (tgt := 43) hx hb dX12_period_26 (by decide) (fun c_29 => ?_) (fun c_29 => ?_)
      · have c_29n : 16384 ≤ i := (nI_leI (a := 16384) (b := i) (by omega) (by omega)).mp c_29
        refine lv_aload_n hx hb dX12_period_43 rfl (lv_at hl 1 rfl) ?_
        refine z_get C G clX12 6 rfl 23 (by decide) m_fl_RX12_35 rfl dX12_period_44 ?_
        refine lv_aload_n hx hb dX12_period_47 rfl (lv_at hl 1 rfl) ?_
        refine z_Vi (bc := [[zO11 mo m_all m_has i_size i_next i_where i_token i_number i_word i_wrong i_farCrossing m_read j_z0_1 j_crossings_2 j_inns_3 m_posts m_shut m_here j_steps_4 j_done_5 i_at i_gone m_was m_came m_seenAt m_rowWorth m_farBy m_used i_everywhere i_again0 i_d0 i_never i_firstCame i_longRun i_moved i_crowd i_l0 i_fitMany i_fitLeast i_fitMost m_fitPost m_fitEnd m_keptPosts i_x0], [zAr T 0 m_posts 7 g_posts_6]]) (br := [[zAr T 0 m_was 7 f_was], [zAr T 0 m_seenAt 16384 xseenAt], [zAr T 0 m_all 3952 f_all], [zAr T 0 m_shut 7 g_shut_7], [zAr T 0 m_here 7 g_here_8]]) (As := []) (rest := [.ref m_seenAt]) C G (c_m_postsNow l T mo m_all m_has i_size i_next i_where i_token i_number i_word i_wrong i_farCrossing m_read j_z0_1 j_crossings_2 j_inns_3 m_posts m_shut m_here j_steps_4 j_done_5 i_at i_gone m_was m_came m_seenAt m_rowWorth m_farBy m_used i_everywhere i_again0 i_d0 i_never i_firstCame i_longRun i_moved i_crowd i_l0 i_fitMany i_fitLeast i_fitMost m_fitPost m_fitEnd m_keptPosts i_x0 g_posts_6 (by first | with_reducible assumption | with_reducible rfl | omega | assumption | rfl | decide) (by first | with_reducible assumption | with_reducible rfl | omega | assumption | rfl | decide)) (kV_RX12_220 C.2.2.2.2 (Nat.le_of_ble_eq_true rfl) (Nat.le_of_ble_eq_true rfl)) [6, 3] [3, 2] rfl rfl (ci := 11) (qc := (RX12, TX12, 43)) rfl rfl (List.mem_flatten.mpr ⟨_, List.mem_of_getElem? (i := 0) rfl, List.mem_cons_self⟩) rfl rfl hl.1 dX12_period_48 (Nat.le_of_ble_eq_true rfl) (Nat.le_of_ble_eq_true rfl) (fun r_32 b1 H locs hw G => ?_)
        refine zAn3 hw ?_
        intro hbs9 h_30 h_31
        clear hw
        subst hbs9
        have G : zS T A s.heap s [[zAr T 0 m_was 7 f_was], [zAr T 0 m_seenAt 16384 xseenAt], [zAr T 0 m_all 3952 f_all], [zAr T 0 m_shut 7 g_shut_7], [zAr T 0 m_here 7 g_here_8], [zO11 mo m_all m_has i_size i_next i_where i_token i_number i_word i_wrong i_farCrossing m_read j_z0_1 j_crossings_2 j_inns_3 m_posts m_shut m_here j_steps_4 j_done_5 i_at i_gone m_was m_came m_seenAt m_rowWorth m_farBy m_used i_everywhere i_again0 i_d0 i_never i_firstCame i_longRun i_moved i_crowd i_l0 i_fitMany i_fitLeast i_fitMost m_fitPost m_fitEnd m_keptPosts i_x0], [zAr T 0 m_posts 7 g_posts_6]] _ _ := G
        refine lv_iconst (v := 1) hx hb dX12_period_51 (by decide) ?_
        refine z_ist C G 1 rfl (vp_in_iff.mpr ⟨by omega, by omega⟩) dX12_period_52 (fun H locs G => ?_)
        have G : zS T A s.heap s [[zAr T 0 m_was 7 f_was], [zAr T 0 m_seenAt 16384 (upd xseenAt r_32.toNatClampNeg 1)], [zAr T 0 m_all 3952 f_all], [zAr T 0 m_shut 7 g_shut_7], [zAr T 0 m_here 7 g_here_8], [zO11 mo m_all m_has i_size i_next i_where i_token i_number i_word i_wrong i_farCrossing m_read j_z0_1 j_crossings_2 j_inns_3 m_posts m_shut m_here j_steps_4 j_done_5 i_at i_gone m_was m_came m_seenAt m_rowWorth m_farBy m_used i_everywhere i_again0 i_d0 i_never i_firstCame i_longRun i_moved i_crowd i_l0 i_fitMany i_fitLeast i_fitMost m_fitPost m_fitEnd m_keptPosts i_x0], [zAr T 0 m_posts 7 g_posts_6]] _ _ := G
        refine lv_iconst (v := 1) hx hb dX12_period_53 (by decide) ?_
        refine lv_istore (lv' := [(4, .int 1), (0, .ref mo), (1, .int l_), (2, .int c_), (3, .int w_)]) hx hb dX12_period_54 hl (by decide) (zLvf_h rfl) (fun ls hl => ?_)
        refine z_lp6 (T := T) 56 (fun (i : Nat) (xat : Int32) (xgone : Int32) (xposts : Nat → Int32) (xwas : Nat → Int32) (xseenAt : Nat → Int32) => [[zAr T 0 m_was 7 xwas], [zAr T 0 m_seenAt 16384 xseenAt], [zAr T 0 m_all 3952 f_all], [zAr T 0 m_shut 7 g_shut_7], [zAr T 0 m_here 7 g_here_8], [zO11 mo m_all m_has i_size i_next i_where i_token i_number i_word i_wrong i_farCrossing m_read j_z0_1 j_crossings_2 j_inns_3 m_posts m_shut m_here j_steps_4 j_done_5 xat xgone m_was m_came m_seenAt m_rowWorth m_farBy m_used i_everywhere i_again0 i_d0 i_never i_firstCame i_longRun i_moved i_crowd i_l0 i_fitMany i_fitLeast i_fitMost m_fitPost m_fitEnd m_keptPosts i_x0], [zAr T 0 m_posts 7 xposts]]) (fun (i : Nat) (xat : Int32) (xgone : Int32) (xposts : Nat → Int32) (xwas : Nat → Int32) (xseenAt : Nat → Int32) => [(4, .int (nI i)), (0, .ref mo), (1, .int l_), (2, .int c_), (3, .int w_)]) (fun (i : Nat) (xat : Int32) (xgone : Int32) (xposts : Nat → Int32) (xwas : Nat → Int32) (xseenAt : Nat → Int32) => i ≤ 1000 ∧ zMP xposts) (fun (i : Nat) (xat : Int32) (xgone : Int32) (xposts : Nat → Int32) (xwas : Nat → Int32) (xseenAt : Nat → Int32) => 1000 - i) ?_ 1 i_at i_gone g_posts_6 f_was (upd xseenAt r_32.toNatClampNeg 1) (show 1 ≤ 1000 ∧ zMP g_posts_6 from ⟨by omega, (by first | with_reducible assumption | assumption)⟩) G (lv_sub hl [0, 1, 2, 3, 4] rfl)
        intro i xat xgone xposts xwas xseenAt hI9 ih_56 H locs ls G hl
        replace hI9 : i ≤ 1000 ∧ zMP xposts := hI9
        refine zAn2 hI9 ?_
        intro hi hQ
        clear hI9
        replace G : zS T A s.heap s [[zAr T 0 m_was 7 xwas], [zAr T 0 m_seenAt 16384 xseenAt], [zAr T 0 m_all 3952 f_all], [zAr T 0 m_shut 7 g_shut_7], [zAr T 0 m_here 7 g_here_8], [zO11 mo m_all m_has i_size i_next i_where i_token i_number i_word i_wrong i_farCrossing m_read j_z0_1 j_crossings_2 j_inns_3 m_posts m_shut m_here j_steps_4 j_done_5 xat xgone m_was m_came m_seenAt m_rowWorth m_farBy m_used i_everywhere i_again0 i_d0 i_never i_firstCame i_longRun i_moved i_crowd i_l0 i_fitMany i_fitLeast i_fitMost m_fitPost m_fitEnd m_keptPosts i_x0], [zAr T 0 m_posts 7 xposts]] _ _ := G
        replace hl : lv_has ls 6 [(4, .int (nI i)), (0, .ref mo), (1, .int l_), (2, .int c_), (3, .int w_)] := hl
        refine lv_iload hx hb dX12_period_56 (lv_at hl 0 rfl) ?_
        refine lv_sipush (v := 1000) hx hb dX12_period_58 (by decide) ?_
        refine lv_icmp_ge (tgt := 124) hx hb dX12_period_61 (by decide) (fun c_33 => ?_) (fun c_33 => ?_)
        · have c_33n : 1000 ≤ i := (nI_leI (a := 1000) (b := i) (by omega) (by omega)).mp c_33
          refine lv_iconst (v := (-1)) hx hb dX12_period_124 (by decide) ?_
          have G := G.sub (bs' := [[zO11 mo m_all m_has i_size i_next i_where i_token i_number i_word i_wrong i_farCrossing m_read j_z0_1 j_crossings_2 j_inns_3 m_posts m_shut m_here j_steps_4 j_done_5 xat xgone m_was m_came m_seenAt m_rowWorth m_farBy m_used i_everywhere i_again0 i_d0 i_never i_firstCame i_longRun i_moved i_crowd i_l0 i_fitMany i_fitLeast i_fitMost m_fitPost m_fitEnd m_keptPosts i_x0], [zAr T 0 m_all 3952 f_all], [zAr T 0 m_posts 7 xposts], [zAr T 0 m_shut 7 g_shut_7], [zAr T 0 m_here 7 g_here_8], [zAr T 0 m_was 7 xwas], [zAr T 0 m_seenAt 16384 xseenAt]]) [5, 2, 6, 3, 4, 0, 1] rfl
          exact z_back hQz_ (z_iret C hr hlocks G (Nat.le_of_ble_eq_true rfl) (Nat.le_of_ble_eq_true rfl) dX12_period_125 ⟨j_z0_1, j_crossings_2, j_inns_3, j_steps_4, j_done_5, xat, xgone, xposts, g_shut_7, g_here_8, xwas, xseenAt, rfl⟩)
        · have c_33n : ¬ 1000 ≤ i := fun q => c_33 ((nI_leI (a := 1000) (b := i) (by omega) (by omega)).mpr q)
          refine lv_aload_n hx hb dX12_period_64 rfl (lv_at hl 1 rfl) ?_
          refine lv_iload_n hx hb dX12_period_65 rfl (lv_at hl 3 rfl) ?_
          refine z_Vi (bc := [[zO11 mo m_all m_has i_size i_next i_where i_token i_number i_word i_wrong i_farCrossing m_read j_z0_1 j_crossings_2 j_inns_3 m_posts m_shut m_here j_steps_4 j_done_5 xat xgone m_was m_came m_seenAt m_rowWorth m_farBy m_used i_everywhere i_again0 i_d0 i_never i_firstCame i_longRun i_moved i_crowd i_l0 i_fitMany i_fitLeast i_fitMost m_fitPost m_fitEnd m_keptPosts i_x0], [zAr T 0 m_all 3952 f_all], [zAr T 0 m_posts 7 xposts], [zAr T 0 m_shut 7 g_shut_7], [zAr T 0 m_was 7 xwas]]) (br := [[zAr T 0 m_seenAt 16384 xseenAt], [zAr T 0 m_here 7 g_here_8]]) (As := [.int c_]) (rest := []) C G (c_m_walks l T mo m_all m_has i_size i_next i_where i_token i_number i_word i_wrong i_farCrossing m_read j_z0_1 j_crossings_2 j_inns_3 m_posts m_shut m_here j_steps_4 j_done_5 xat xgone m_was m_came m_seenAt m_rowWorth m_farBy m_used i_everywhere i_again0 i_d0 i_never i_firstCame i_longRun i_moved i_crowd i_l0 i_fitMany i_fitLeast i_fitMost m_fitPost m_fitEnd m_keptPosts i_x0 f_all xposts g_shut_7 xwas c_ (by first | with_reducible assumption | with_reducible rfl | omega | assumption | rfl | decide) (by first | with_reducible assumption | with_reducible rfl | omega | assumption | rfl | decide) (by first | with_reducible assumption | with_reducible rfl | omega | assumption | rfl | decide) (by first | with_reducible assumption | with_reducible rfl | omega | assumption | rfl | decide)) (kV_RX12_217 C.2.2.2.2 (Nat.le_of_ble_eq_true rfl) (Nat.le_of_ble_eq_true rfl)) [5, 2, 6, 3, 0] [0, 1, 0, 1, 0] rfl rfl (ci := 11) (qc := (RX12, TX12, 43)) rfl rfl (List.mem_flatten.mpr ⟨_, List.mem_of_getElem? (i := 0) rfl, List.mem_cons_self⟩) rfl rfl hl.1 dX12_period_66 (Nat.le_of_ble_eq_true rfl) (Nat.le_of_ble_eq_true rfl) (fun r_44 b1 H locs hw G => ?_)
          refine zEx4 hw ?_
          intro j_at_34 j_gone_35 g_posts_36 g_was_37
          refine zCu7 ?_
          intro hbs9 h_38 h_39 h_40 h_41 h_42 h_43
          clear hw
          subst hbs9
          have G : zS T A s.heap s [[zAr T 0 m_seenAt 16384 xseenAt], [zAr T 0 m_here 7 g_here_8], [zO11 mo m_all m_has i_size i_next i_where i_token i_number i_word i_wrong i_farCrossing m_read j_z0_1 j_crossings_2 j_inns_3 m_posts m_shut m_here j_steps_4 j_done_5 j_at_34 j_gone_35 m_was m_came m_seenAt m_rowWorth m_farBy m_used i_everywhere i_again0 i_d0 i_never i_firstCame i_longRun i_moved i_crowd i_l0 i_fitMany i_fitLeast i_fitMost m_fitPost m_fitEnd m_keptPosts i_x0], [zAr T 0 m_all 3952 f_all], [zAr T 0 m_posts 7 g_posts_36], [zAr T 0 m_shut 7 g_shut_7], [zAr T 0 m_was 7 g_was_37]] _ _ := G
          replace h_38 : zHd ((r_44 = 0 ∨ r_44 = 1)) := h_38
          refine lv_pop hx hb dX12_period_69 rfl ?_
          refine lv_aload_n hx hb dX12_period_70 rfl (lv_at hl 1 rfl) ?_
          refine z_get C G clX12 2 rfl 23 (by decide) m_fl_RX12_35 rfl dX12_period_71 ?_
          refine lv_aload_n hx hb dX12_period_74 rfl (lv_at hl 1 rfl) ?_
          refine z_Vi (bc := [[zO11 mo m_all m_has i_size i_next i_where i_token i_number i_word i_wrong i_farCrossing m_read j_z0_1 j_crossings_2 j_inns_3 m_posts m_shut m_here j_steps_4 j_done_5 j_at_34 j_gone_35 m_was m_came m_seenAt m_rowWorth m_farBy m_used i_everywhere i_again0 i_d0 i_never i_firstCame i_longRun i_moved i_crowd i_l0 i_fitMany i_fitLeast i_fitMost m_fitPost m_fitEnd m_keptPosts i_x0], [zAr T 0 m_posts 7 g_posts_36]]) (br := [[zAr T 0 m_seenAt 16384 xseenAt], [zAr T 0 m_here 7 g_here_8], [zAr T 0 m_all 3952 f_all], [zAr T 0 m_shut 7 g_shut_7], [zAr T 0 m_was 7 g_was_37]]) (As := []) (rest := [.ref m_seenAt]) C G (c_m_postsNow l T mo m_all m_has i_size i_next i_where i_token i_number i_word i_wrong i_farCrossing m_read j_z0_1 j_crossings_2 j_inns_3 m_posts m_shut m_here j_steps_4 j_done_5 j_at_34 j_gone_35 m_was m_came m_seenAt m_rowWorth m_farBy m_used i_everywhere i_again0 i_d0 i_never i_firstCame i_longRun i_moved i_crowd i_l0 i_fitMany i_fitLeast i_fitMost m_fitPost m_fitEnd m_keptPosts i_x0 g_posts_36 (by first | with_reducible assumption | with_reducible rfl | omega | assumption | rfl | decide) (by first | with_reducible assumption | with_reducible rfl | omega | assumption | rfl | decide)) (kV_RX12_220 C.2.2.2.2 (Nat.le_of_ble_eq_true rfl) (Nat.le_of_ble_eq_true rfl)) [2, 4] [2, 1] rfl rfl (ci := 11) (qc := (RX12, TX12, 43)) rfl rfl (List.mem_flatten.mpr ⟨_, List.mem_of_getElem? (i := 0) rfl, List.mem_cons_self⟩) rfl rfl hl.1 dX12_period_75 (Nat.le_of_ble_eq_true rfl) (Nat.le_of_ble_eq_true rfl) (fun r_47 b1 H locs hw G => ?_)
          refine zAn3 hw ?_
          intro hbs9 h_45 h_46
          clear hw
          subst hbs9
          have G : zS T A s.heap s [[zAr T 0 m_seenAt 16384 xseenAt], [zAr T 0 m_here 7 g_here_8], [zAr T 0 m_all 3952 f_all], [zAr T 0 m_shut 7 g_shut_7], [zAr T 0 m_was 7 g_was_37], [zO11 mo m_all m_has i_size i_next i_where i_token i_number i_word i_wrong i_farCrossing m_read j_z0_1 j_crossings_2 j_inns_3 m_posts m_shut m_here j_steps_4 j_done_5 j_at_34 j_gone_35 m_was m_came m_seenAt m_rowWorth m_farBy m_used i_everywhere i_again0 i_d0 i_never i_firstCame i_longRun i_moved i_crowd i_l0 i_fitMany i_fitLeast i_fitMost m_fitPost m_fitEnd m_keptPosts i_x0], [zAr T 0 m_posts 7 g_posts_36]] _ _ := G
          refine z_ild C G 0 rfl (vp_in_iff.mpr ⟨by omega, by omega⟩) dX12_period_78 ?_
          refine lv_topi (fun v_48 ev_48 => ?_)
          subst ev_48
          refine lv_istore (lv' := [(5, .int (xseenAt r_47.toNatClampNeg)), (4, .int (nI i)), (0, .ref mo), (1, .int l_), (2, .int c_), (3, .int w_)]) hx hb dX12_period_79 hl (by decide) (zLvf_h rfl) (fun ls hl => ?_)
          refine lv_iload hx hb dX12_period_81 (lv_at hl 0 rfl) ?_
          refine lv_if_le (tgt := 105) hx hb dX12_period_83 (by decide) (fun c_49 => ?_) (fun c_49 => ?_)
          · have c_49n : (xseenAt r_47.toNatClampNeg).toInt ≤ (0 : Int) := (fa_le _ _).mp c_49
            refine lv_aload_n hx hb dX12_period_105 rfl (lv_at hl 2 rfl) ?_
            refine z_get C G clX12 5 rfl 23 (by decide) m_fl_RX12_35 rfl dX12_period_106 ?_
            refine lv_aload_n hx hb dX12_period_109 rfl (lv_at hl 2 rfl) ?_
            refine z_Vi (bc := [[zO11 mo m_all m_has i_size i_next i_where i_token i_number i_word i_wrong i_farCrossing m_read j_z0_1 j_crossings_2 j_inns_3 m_posts m_shut m_here j_steps_4 j_done_5 j_at_34 j_gone_35 m_was m_came m_seenAt m_rowWorth m_farBy m_used i_everywhere i_again0 i_d0 i_never i_firstCame i_longRun i_moved i_crowd i_l0 i_fitMany i_fitLeast i_fitMost m_fitPost m_fitEnd m_keptPosts i_x0], [zAr T 0 m_posts 7 g_posts_36]]) (br := [[zAr T 0 m_seenAt 16384 xseenAt], [zAr T 0 m_here 7 g_here_8], [zAr T 0 m_all 3952 f_all], [zAr T 0 m_shut 7 g_shut_7], [zAr T 0 m_was 7 g_was_37]]) (As := []) (rest := [.ref m_seenAt]) C G (c_m_postsNow l T mo m_all m_has i_size i_next i_where i_token i_number i_word i_wrong i_farCrossing m_read j_z0_1 j_crossings_2 j_inns_3 m_posts m_shut m_here j_steps_4 j_done_5 j_at_34 j_gone_35 m_was m_came m_seenAt m_rowWorth m_farBy m_used i_everywhere i_again0 i_d0 i_never i_firstCame i_longRun i_moved i_crowd i_l0 i_fitMany i_fitLeast i_fitMost m_fitPost m_fitEnd m_keptPosts i_x0 g_posts_36 (by first | with_reducible assumption | with_reducible rfl | omega | assumption | rfl | decide) (by first | with_reducible assumption | with_reducible rfl | omega | assumption | rfl | decide)) (kV_RX12_220 C.2.2.2.2 (Nat.le_of_ble_eq_true rfl) (Nat.le_of_ble_eq_true rfl)) [5, 6] [5, 0] rfl rfl (ci := 11) (qc := (RX12, TX12, 43)) rfl rfl (List.mem_flatten.mpr ⟨_, List.mem_of_getElem? (i := 0) rfl, List.mem_cons_self⟩) rfl rfl hl.1 dX12_period_110 (Nat.le_of_ble_eq_true rfl) (Nat.le_of_ble_eq_true rfl) (fun r_52 b1 H locs hw G => ?_)
            refine zAn3 hw ?_
            intro hbs9 h_50 h_51
            clear hw
            subst hbs9
            have G : zS T A s.heap s [[zAr T 0 m_seenAt 16384 xseenAt], [zAr T 0 m_here 7 g_here_8], [zAr T 0 m_all 3952 f_all], [zAr T 0 m_shut 7 g_shut_7], [zAr T 0 m_was 7 g_was_37], [zO11 mo m_all m_has i_size i_next i_where i_token i_number i_word i_wrong i_farCrossing m_read j_z0_1 j_crossings_2 j_inns_3 m_posts m_shut m_here j_steps_4 j_done_5 j_at_34 j_gone_35 m_was m_came m_seenAt m_rowWorth m_farBy m_used i_everywhere i_again0 i_d0 i_never i_firstCame i_longRun i_moved i_crowd i_l0 i_fitMany i_fitLeast i_fitMost m_fitPost m_fitEnd m_keptPosts i_x0], [zAr T 0 m_posts 7 g_posts_36]] _ _ := G
            refine lv_iload hx hb dX12_period_113 (lv_at hl 1 rfl) ?_
            refine lv_iconst (v := 1) hx hb dX12_period_115 (by decide) ?_
            refine lv_iadd hx hb dX12_period_116 ?_
            refine lv_topi (fun y_53 ey_53 => ?_)
            obtain rfl : y_53 = nI (i + 1) := ey_53.trans (z_iaddn i 1 rfl rfl)
            refine z_ist C G 0 rfl (vp_in_iff.mpr ⟨by omega, by omega⟩) dX12_period_117 (fun H locs G => ?_)
            have G : zS T A s.heap s [[zAr T 0 m_seenAt 16384 (upd xseenAt r_52.toNatClampNeg (nI (i + 1)))], [zAr T 0 m_here 7 g_here_8], [zAr T 0 m_all 3952 f_all], [zAr T 0 m_shut 7 g_shut_7], [zAr T 0 m_was 7 g_was_37], [zO11 mo m_all m_has i_size i_next i_where i_token i_number i_word i_wrong i_farCrossing m_read j_z0_1 j_crossings_2 j_inns_3 m_posts m_shut m_here j_steps_4 j_done_5 j_at_34 j_gone_35 m_was m_came m_seenAt m_rowWorth m_farBy m_used i_everywhere i_again0 i_d0 i_never i_firstCame i_longRun i_moved i_crowd i_l0 i_fitMany i_fitLeast i_fitMost m_fitPost m_fitEnd m_keptPosts i_x0], [zAr T 0 m_posts 7 g_posts_36]] _ _ := G
            refine lv_iinc (v := nI (i + 1)) (lv' := [(4, .int (nI (i + 1))), (5, .int (xseenAt r_47.toNatClampNeg)), (0, .ref mo), (1, .int l_), (2, .int c_), (3, .int w_)]) hx hb dX12_period_118 hl (k := 1) rfl (z_inc i 1) (by decide) (zLvf_h rfl) (fun ls hl => ?_)
            refine lv_goto (tgt := 56) hx hb dX12_period_121 (by decide) ?_
            have G := G.sub (bs' := [[zAr T 0 m_was 7 g_was_37], [zAr T 0 m_seenAt 16384 (upd xseenAt r_52.toNatClampNeg (nI (i + 1)))], [zAr T 0 m_all 3952 f_all], [zAr T 0 m_shut 7 g_shut_7], [zAr T 0 m_here 7 g_here_8], [zO11 mo m_all m_has i_size i_next i_where i_token i_number i_word i_wrong i_farCrossing m_read j_z0_1 j_crossings_2 j_inns_3 m_posts m_shut m_here j_steps_4 j_done_5 j_at_34 j_gone_35 m_was m_came m_seenAt m_rowWorth m_farBy m_used i_everywhere i_again0 i_d0 i_never i_firstCame i_longRun i_moved i_crowd i_l0 i_fitMany i_fitLeast i_fitMost m_fitPost m_fitEnd m_keptPosts i_x0], [zAr T 0 m_posts 7 g_posts_36]]) [4, 0, 2, 3, 1, 5, 6] rfl
            exact ih_56 (i + 1) j_at_34 j_gone_35 g_posts_36 g_was_37 (upd xseenAt r_52.toNatClampNeg (nI (i + 1))) (show (i + 1) ≤ 1000 ∧ zMP g_posts_36 from ⟨by omega, (by first | with_reducible assumption | assumption)⟩) (show 1000 - (i + 1) < 1000 - i from by omega) _ _ ls G (lv_sub hl [0, 2, 3, 4, 5] rfl)
          · have c_49n : ¬ (xseenAt r_47.toNatClampNeg).toInt ≤ (0 : Int) := fun q => c_49 ((fa_le _ _).mpr q)
            refine lv_iload_n hx hb dX12_period_86 rfl (lv_at hl 5 rfl) ?_
            refine lv_if_eq (tgt := 97) hx hb dX12_period_87 (by decide) (fun c_54 => ?_) (fun c_54 => ?_)
            · have c_54n : w_.toInt = (0 : Int) := (fa_eq _ _).mp c_54
              refine lv_iload hx hb dX12_period_97 (lv_at hl 1 rfl) ?_
              refine lv_iconst (v := 1) hx hb dX12_period_99 (by decide) ?_
              refine lv_iadd hx hb dX12_period_100 ?_
              refine lv_topi (fun y_55 ey_55 => ?_)
              obtain rfl : y_55 = nI (i + 1) := ey_55.trans (z_iaddn i 1 rfl rfl)
              refine lv_iload hx hb dX12_period_101 (lv_at hl 0 rfl) ?_
              refine lv_isub hx hb dX12_period_103 ?_
              have G := G.sub (bs' := [[zO11 mo m_all m_has i_size i_next i_where i_token i_number i_word i_wrong i_farCrossing m_read j_z0_1 j_crossings_2 j_inns_3 m_posts m_shut m_here j_steps_4 j_done_5 j_at_34 j_gone_35 m_was m_came m_seenAt m_rowWorth m_farBy m_used i_everywhere i_again0 i_d0 i_never i_firstCame i_longRun i_moved i_crowd i_l0 i_fitMany i_fitLeast i_fitMost m_fitPost m_fitEnd m_keptPosts i_x0], [zAr T 0 m_all 3952 f_all], [zAr T 0 m_posts 7 g_posts_36], [zAr T 0 m_shut 7 g_shut_7], [zAr T 0 m_here 7 g_here_8], [zAr T 0 m_was 7 g_was_37], [zAr T 0 m_seenAt 16384 xseenAt]]) [5, 2, 6, 3, 1, 4, 0] rfl
              exact z_back hQz_ (z_iret C hr hlocks G (Nat.le_of_ble_eq_true rfl) (Nat.le_of_ble_eq_true rfl) dX12_period_104 ⟨j_z0_1, j_crossings_2, j_inns_3, j_steps_4, j_done_5, j_at_34, j_gone_35, g_posts_36, g_shut_7, g_here_8, g_was_37, xseenAt, rfl⟩)
            · have c_54n : ¬ w_.toInt = (0 : Int) := fun q => c_54 ((fa_eq _ _).mpr q)
              refine lv_iload hx hb dX12_period_90 (lv_at hl 0 rfl) ?_
              refine lv_iconst (v := 1) hx hb dX12_period_92 (by decide) ?_
              refine lv_isub hx hb dX12_period_93 ?_
              refine lv_goto (tgt := 104) hx hb dX12_period_94 (by decide) ?_
              have G := G.sub (bs' := [[zO11 mo m_all m_has i_size i_next i_where i_token i_number i_word i_wrong i_farCrossing m_read j_z0_1 j_crossings_2 j_inns_3 m_posts m_shut m_here j_steps_4 j_done_5 j_at_34 j_gone_35 m_was m_came m_seenAt m_rowWorth m_farBy m_used i_everywhere i_again0 i_d0 i_never i_firstCame i_longRun i_moved i_crowd i_l0 i_fitMany i_fitLeast i_fitMost m_fitPost m_fitEnd m_keptPosts i_x0], [zAr T 0 m_all 3952 f_all], [zAr T 0 m_posts 7 g_posts_36], [zAr T 0 m_shut 7 g_shut_7], [zAr T 0 m_here 7 g_here_8], [zAr T 0 m_was 7 g_was_37], [zAr T 0 m_seenAt 16384 xseenAt]]) [5, 2, 6, 3, 1, 4, 0] rfl
              exact z_back hQz_ (z_iret C hr hlocks G (Nat.le_of_ble_eq_true rfl) (Nat.le_of_ble_eq_true rfl) dX12_period_104 ⟨j_z0_1, j_crossings_2, j_inns_3, j_steps_4, j_done_5, j_at_34, j_gone_35, g_posts_36, g_shut_7, g_here_8, g_was_37, xseenAt, rfl⟩)
      · have c_29n : ¬ 16384 ≤ i := fun q => c_29 ((nI_leI (a := 16384) (b := i) (by omega) (by omega)).mpr q)
        refine lv_aload_n hx hb dX12_period_29 rfl (lv_at hl 1 rfl) ?_
        refine z_get C G clX12 6 rfl 23 (by decide) m_fl_RX12_35 rfl dX12_period_30 ?_
        refine lv_iload hx hb dX12_period_33 (lv_at hl 0 rfl) ?_
        refine lv_iconst (v := 0) hx hb dX12_period_35 (by decide) ?_
        refine z_ist C G 1 rfl (vp_in_nI (by omega) (by decide)) dX12_period_36 (fun H locs G => ?_)
        rw [nI_clamp (by omega)] at G
        have G : zS T A s.heap s [[zAr T 0 m_was 7 f_was], [zAr T 0 m_seenAt 16384 (upd xseenAt i 0)], [zAr T 0 m_all 3952 f_all], [zAr T 0 m_posts 7 g_posts_6], [zAr T 0 m_shut 7 g_shut_7], [zAr T 0 m_here 7 g_here_8], [zO11 mo m_all m_has i_size i_next i_where i_token i_number i_word i_wrong i_farCrossing m_read j_z0_1 j_crossings_2 j_inns_3 m_posts m_shut m_here j_steps_4 j_done_5 i_at i_gone m_was m_came m_seenAt m_rowWorth m_farBy m_used i_everywhere i_again0 i_d0 i_never i_firstCame i_longRun i_moved i_crowd i_l0 i_fitMany i_fitLeast i_fitMost m_fitPost m_fitEnd m_keptPosts i_x0]] _ _ := G
        refine lv_iinc (v := nI (i + 1)) (lv' := [(4, .int (nI (i + 1))), (0, .ref mo), (1, .int l_), (2, .int c_), (3, .int w_)]) hx hb dX12_period_37 hl (k := 0) rfl (z_inc i 1) (by decide) (zLvf_h rfl) (fun ls hl => ?_)
        refine lv_goto (tgt := 21) hx hb dX12_period_40 (by decide) ?_
        exact ih_21 (i + 1) (upd xseenAt i 0) (show (i + 1) ≤ 16384 from by omega) (show 16384 - (i + 1) < 16384 - i from by omega) _ _ ls G (lv_sub hl [0, 1, 2, 3, 4] rfl)
    · have h_28 : (c_.toInt < 0 ∨ j_crossings_2.toInt ≤ c_.toInt) := h_28
      refine lv_if_ne (tgt := 18) hx hb dX12_period_13 (by decide) (fun q => absurd (by decide) q) (fun _ => ?_)
      refine lv_iconst (v := (-1)) hx hb dX12_period_16 (by decide) ?_
      have G := G.sub (bs' := [[zO11 mo m_all m_has i_size i_next i_where i_token i_number i_word i_wrong i_farCrossing m_read j_z0_1 j_crossings_2 j_inns_3 m_posts m_shut m_here j_steps_4 j_done_5 i_at i_gone m_was m_came m_seenAt m_rowWorth m_farBy m_used i_everywhere i_again0 i_d0 i_never i_firstCame i_longRun i_moved i_crowd i_l0 i_fitMany i_fitLeast i_fitMost m_fitPost m_fitEnd m_keptPosts i_x0], [zAr T 0 m_all 3952 f_all], [zAr T 0 m_posts 7 g_posts_6], [zAr T 0 m_shut 7 g_shut_7], [zAr T 0 m_here 7 g_here_8], [zAr T 0 m_was 7 f_was], [zAr T 0 m_seenAt 16384 f_seenAt]]) [6, 2, 3, 4, 5, 0, 1] rfl
      exact z_back hQz_ (z_iret C hr hlocks G (Nat.le_of_ble_eq_true rfl) (Nat.le_of_ble_eq_true rfl) dX12_period_17 ⟨j_z0_1, j_crossings_2, j_inns_3, j_steps_4, j_done_5, i_at, i_gone, g_posts_6, g_shut_7, g_here_8, f_was, f_seenAt, rfl⟩)
  · have h_23 : (l_.toInt < 0 ∨ (f_all 0).toInt ≤ l_.toInt) := h_23
    refine lv_if_eq (tgt := 16) hx hb dX12_period_5 (by decide) (fun _ => ?_) (fun q => absurd (by decide) q)
    refine lv_iconst (v := (-1)) hx hb dX12_period_16 (by decide) ?_
    have G := G.sub (bs' := [[zO11 mo m_all m_has i_size i_next i_where i_token i_number i_word i_wrong i_farCrossing m_read j_z0_1 j_crossings_2 j_inns_3 m_posts m_shut m_here j_steps_4 j_done_5 i_at i_gone m_was m_came m_seenAt m_rowWorth m_farBy m_used i_everywhere i_again0 i_d0 i_never i_firstCame i_longRun i_moved i_crowd i_l0 i_fitMany i_fitLeast i_fitMost m_fitPost m_fitEnd m_keptPosts i_x0], [zAr T 0 m_all 3952 f_all], [zAr T 0 m_posts 7 g_posts_6], [zAr T 0 m_shut 7 g_shut_7], [zAr T 0 m_here 7 g_here_8], [zAr T 0 m_was 7 f_was], [zAr T 0 m_seenAt 16384 f_seenAt]]) [2, 3, 4, 5, 6, 0, 1] rfl
    exact z_back hQz_ (z_iret C hr hlocks G (Nat.le_of_ble_eq_true rfl) (Nat.le_of_ble_eq_true rfl) dX12_period_17 ⟨j_z0_1, j_crossings_2, j_inns_3, j_steps_4, j_done_5, i_at, i_gone, g_posts_6, g_shut_7, g_here_8, f_was, f_seenAt, rfl⟩)
theorem m_co_X12_setsWay : Cond.code yX12_setsWay cX12_setsWay 4 none ∈ zT := zmem1 zsub_7 75 rfl rfl
theorem m_ml_RX12_226 : Cond.methodLink RX12 226 yX12_setsWay ∈ zT := zmem1 zsub_7 72 rfl rfl
theorem m_im_X12_setsWay : Cond.instanceMethod yX12_setsWay ∈ zT := zmem1 zsub_7 74 rfl rfl
theorem m_se_X12_setsWay : Cond.selects RX12 yX12_setsWay yX12_setsWay ∈ zT := zmem 74 rfl rfl
theorem m_co_X12_waysMany : Cond.code yX12_waysMany cX12_waysMany 3 (some .int) ∈ zT := zmem1 zsub_7 67 rfl rfl
theorem m_ml_RX12_229 : Cond.methodLink RX12 229 yX12_waysMany ∈ zT := zmem1 zsub_7 64 rfl rfl
theorem m_im_X12_waysMany : Cond.instanceMethod yX12_waysMany ∈ zT := zmem1 zsub_7 66 rfl rfl
theorem m_se_X12_waysMany : Cond.selects RX12 yX12_waysMany yX12_waysMany ∈ zT := zmem 72 rfl rfl
theorem m_co_X12_unlikeTold : Cond.code yX12_unlikeTold cX12_unlikeTold 3 (some .int) ∈ zT := zmem1 zsub_7 79 rfl rfl
theorem m_ml_RX12_232 : Cond.methodLink RX12 232 yX12_unlikeTold ∈ zT := zmem1 zsub_7 76 rfl rfl
theorem m_im_X12_unlikeTold : Cond.instanceMethod yX12_unlikeTold ∈ zT := zmem1 zsub_7 78 rfl rfl
theorem m_se_X12_unlikeTold : Cond.selects RX12 yX12_unlikeTold yX12_unlikeTold ∈ zT := zmem 75 rfl rfl
theorem m_co_X12_bitsOf : Cond.code yX12_bitsOf cX12_bitsOf 3 (some .int) ∈ zT := zmem1 zsub_7 82 rfl rfl
theorem m_ml_RX12_235 : Cond.methodLink RX12 235 yX12_bitsOf ∈ zT := zmem1 zsub_7 80 rfl rfl
theorem m_st_X12_bitsOf : Cond.static yX12_bitsOf ∈ zT := zmem1 zsub_7 81 rfl rfl
theorem m_co_X12_setBy : Cond.code yX12_setBy cX12_setBy 9 (some .int) ∈ zT := zmem1 zsub_7 63 rfl rfl
theorem m_ml_RX12_238 : Cond.methodLink RX12 238 yX12_setBy ∈ zT := zmem1 zsub_7 60 rfl rfl
theorem m_im_X12_setBy : Cond.instanceMethod yX12_setBy ∈ zT := zmem1 zsub_7 62 rfl rfl
theorem m_se_X12_setBy : Cond.selects RX12 yX12_setBy yX12_setBy ∈ zT := zmem 71 rfl rfl
theorem m_co_X12_common : Cond.code yX12_common cX12_common 5 (some .int) ∈ zT := zmem1 zsub_7 92 rfl rfl
theorem m_ml_RX12_241 : Cond.methodLink RX12 241 yX12_common ∈ zT := zmem1 zsub_7 90 rfl rfl
theorem m_st_X12_common : Cond.static yX12_common ∈ zT := zmem1 zsub_7 91 rfl rfl
theorem m_co_X12_parted : Cond.code yX12_parted cX12_parted 3 (some .int) ∈ zT := zmem1 zsub_7 89 rfl rfl
theorem m_ml_RX12_244 : Cond.methodLink RX12 244 yX12_parted ∈ zT := zmem1 zsub_7 87 rfl rfl
theorem m_st_X12_parted : Cond.static yX12_parted ∈ zT := zmem1 zsub_7 88 rfl rfl
theorem m_co_X12_numberOf : Cond.code yX12_numberOf cX12_numberOf 4 (some .int) ∈ zT := zmem1 zsub_7 188 rfl rfl
theorem m_ml_RX12_299 : Cond.methodLink RX12 299 yX12_numberOf ∈ zT := zmem1 zsub_7 185 rfl rfl
theorem m_im_X12_numberOf : Cond.instanceMethod yX12_numberOf ∈ zT := zmem1 zsub_7 187 rfl rfl
theorem m_se_X12_numberOf : Cond.selects RX12 yX12_numberOf yX12_numberOf ∈ zT := zmem 90 rfl rfl
theorem m_co_X12_roads5 : Cond.code yX12_roads5 cX12_roads5 2 (some .int) ∈ zT := zmem1 zsub_7 124 rfl rfl
theorem m_ml_RX12_255 : Cond.methodLink RX12 255 yX12_roads5 ∈ zT := zmem1 zsub_7 121 rfl rfl
theorem m_im_X12_roads5 : Cond.instanceMethod yX12_roads5 ∈ zT := zmem1 zsub_7 123 rfl rfl
theorem m_se_X12_roads5 : Cond.selects RX12 yX12_roads5 yX12_roads5 ∈ zT := zmem 79 rfl rfl
theorem kV_RX12_226 {R : Room} {s : State} {args : Array Value} {d mc ms : Nat} (hts : ∀ w ∈ zT, w.before args s = true) (h1 : d + 1 ≤ R.frames) (h2 : 8 + (4 + 11) + 40 * d ≤ R.locals) : CallW R s args RX12 RX12 226 yX12_setsWay cX12_setsWay 4 none (zW yX12_setsWay cX12_setsWay 4 none) (zR d mc ms) mc ms 1 := z_cwV hts m_co_X12_setsWay m_ml_RX12_226 m_im_X12_setsWay m_se_X12_setsWay m_ii_RX12 (by decide +kernel) h1 h2
theorem kV_RX12_229 {R : Room} {s : State} {args : Array Value} {d mc ms : Nat} (hts : ∀ w ∈ zT, w.before args s = true) (h1 : d + 1 ≤ R.frames) (h2 : 8 + (3 + 11) + 40 * d ≤ R.locals) : CallW R s args RX12 RX12 229 yX12_waysMany cX12_waysMany 3 (some .int) (zW yX12_waysMany cX12_waysMany 3 (some .int)) (zR d mc ms) mc ms 0 := z_cwV hts m_co_X12_waysMany m_ml_RX12_229 m_im_X12_waysMany m_se_X12_waysMany m_ii_RX12 (by decide +kernel) h1 h2
theorem kV_RX12_232 {R : Room} {s : State} {args : Array Value} {d mc ms : Nat} (hts : ∀ w ∈ zT, w.before args s = true) (h1 : d + 1 ≤ R.frames) (h2 : 8 + (3 + 11) + 40 * d ≤ R.locals) : CallW R s args RX12 RX12 232 yX12_unlikeTold cX12_unlikeTold 3 (some .int) (zW yX12_unlikeTold cX12_unlikeTold 3 (some .int)) (zR d mc ms) mc ms 0 := z_cwV hts m_co_X12_unlikeTold m_ml_RX12_232 m_im_X12_unlikeTold m_se_X12_unlikeTold m_ii_RX12 (by decide +kernel) h1 h2
theorem kS_RX12_235 {R : Room} {s : State} {args : Array Value} {d mc ms : Nat} (hts : ∀ w ∈ zT, w.before args s = true) (h1 : d + 1 ≤ R.frames) (h2 : 8 + (3 + 11) + 40 * d ≤ R.locals) : CallB R s args RX12 235 yX12_bitsOf cX12_bitsOf 3 (some .int) (zW yX12_bitsOf cX12_bitsOf 3 (some .int)) (zR d mc ms) mc ms 1 ∧ (Cond.static yX12_bitsOf).before args s = true := z_cwS hts m_co_X12_bitsOf m_ml_RX12_235 m_st_X12_bitsOf m_ii_RX12 (by decide +kernel) h1 h2
theorem kV_RX12_238 {R : Room} {s : State} {args : Array Value} {d mc ms : Nat} (hts : ∀ w ∈ zT, w.before args s = true) (h1 : d + 1 ≤ R.frames) (h2 : 8 + (9 + 11) + 40 * d ≤ R.locals) : CallW R s args RX12 RX12 238 yX12_setBy cX12_setBy 9 (some .int) (zW yX12_setBy cX12_setBy 9 (some .int)) (zR d mc ms) mc ms 2 := z_cwV hts m_co_X12_setBy m_ml_RX12_238 m_im_X12_setBy m_se_X12_setBy m_ii_RX12 (by decide +kernel) h1 h2
theorem kS_RX12_241 {R : Room} {s : State} {args : Array Value} {d mc ms : Nat} (hts : ∀ w ∈ zT, w.before args s = true) (h1 : d + 1 ≤ R.frames) (h2 : 8 + (5 + 11) + 40 * d ≤ R.locals) : CallB R s args RX12 241 yX12_common cX12_common 5 (some .int) (zW yX12_common cX12_common 5 (some .int)) (zR d mc ms) mc ms 2 ∧ (Cond.static yX12_common).before args s = true := z_cwS hts m_co_X12_common m_ml_RX12_241 m_st_X12_common m_ii_RX12 (by decide +kernel) h1 h2
theorem kS_RX12_244 {R : Room} {s : State} {args : Array Value} {d mc ms : Nat} (hts : ∀ w ∈ zT, w.before args s = true) (h1 : d + 1 ≤ R.frames) (h2 : 8 + (3 + 11) + 40 * d ≤ R.locals) : CallB R s args RX12 244 yX12_parted cX12_parted 3 (some .int) (zW yX12_parted cX12_parted 3 (some .int)) (zR d mc ms) mc ms 3 ∧ (Cond.static yX12_parted).before args s = true := z_cwS hts m_co_X12_parted m_ml_RX12_244 m_st_X12_parted m_ii_RX12 (by decide +kernel) h1 h2
theorem kV_RX12_299 {R : Room} {s : State} {args : Array Value} {d mc ms : Nat} (hts : ∀ w ∈ zT, w.before args s = true) (h1 : d + 1 ≤ R.frames) (h2 : 8 + (4 + 11) + 40 * d ≤ R.locals) : CallW R s args RX12 RX12 299 yX12_numberOf cX12_numberOf 4 (some .int) (zW yX12_numberOf cX12_numberOf 4 (some .int)) (zR d mc ms) mc ms 1 := z_cwV hts m_co_X12_numberOf m_ml_RX12_299 m_im_X12_numberOf m_se_X12_numberOf m_ii_RX12 (by decide +kernel) h1 h2
theorem kV_RX12_255 {R : Room} {s : State} {args : Array Value} {d mc ms : Nat} (hts : ∀ w ∈ zT, w.before args s = true) (h1 : d + 1 ≤ R.frames) (h2 : 8 + (2 + 11) + 40 * d ≤ R.locals) : CallW R s args RX12 RX12 255 yX12_roads5 cX12_roads5 2 (some .int) (zW yX12_roads5 cX12_roads5 2 (some .int)) (zR d mc ms) mc ms 1 := z_cwV hts m_co_X12_roads5 m_ml_RX12_255 m_im_X12_roads5 m_se_X12_roads5 m_ii_RX12 (by decide +kernel) h1 h2
theorem dX12_unlikeTold_0 : decode cX12_unlikeTold 0 = .ok (.iconst 0, 1) := zo_3 (by decide +kernel)
theorem dX12_unlikeTold_1 : decode cX12_unlikeTold 1 = .ok (.istore_n 1, 1) := zo_60 (by decide +kernel)
theorem dX12_unlikeTold_2 : decode cX12_unlikeTold 2 = .ok (.iconst 0, 1) := zo_3 (by decide +kernel)
theorem dX12_unlikeTold_3 : decode cX12_unlikeTold 3 = .ok (.istore_n 2, 1) := zo_61 (by decide +kernel)
theorem dX12_unlikeTold_4 : decode cX12_unlikeTold 4 = .ok (.iload_n 2, 1) := zo_28 (by decide +kernel)
theorem dX12_unlikeTold_5 : decode cX12_unlikeTold 5 = .ok (.aload_n 0, 1) := zo_42 (by decide +kernel)
theorem dX12_unlikeTold_6 : decode cX12_unlikeTold 6 = .ok (.getfield 169, 3) := zo_180 (by decide +kernel)
theorem dX12_unlikeTold_9 : decode cX12_unlikeTold 9 = .ok (.if_icmp .ge 41, 3) := zo_162 (by decide +kernel)
theorem dX12_unlikeTold_12 : decode cX12_unlikeTold 12 = .ok (.iload_n 1, 1) := zo_27 (by decide +kernel)
theorem dX12_unlikeTold_13 : decode cX12_unlikeTold 13 = .ok (.aload_n 0, 1) := zo_42 (by decide +kernel)
theorem dX12_unlikeTold_14 : decode cX12_unlikeTold 14 = .ok (.iload_n 2, 1) := zo_28 (by decide +kernel)
theorem dX12_unlikeTold_15 : decode cX12_unlikeTold 15 = .ok (.invokevirtual 223, 3) := zo_182 (by decide +kernel)
theorem dX12_unlikeTold_18 : decode cX12_unlikeTold 18 = .ok (.ifCond .eq 23, 3) := zo_153 (by decide +kernel)
theorem dX12_unlikeTold_21 : decode cX12_unlikeTold 21 = .ok (.aload_n 0, 1) := zo_42 (by decide +kernel)
theorem dX12_unlikeTold_22 : decode cX12_unlikeTold 22 = .ok (.getfield 20, 3) := zo_180 (by decide +kernel)
theorem dX12_unlikeTold_25 : decode cX12_unlikeTold 25 = .ok (.iload_n 2, 1) := zo_28 (by decide +kernel)
theorem dX12_unlikeTold_26 : decode cX12_unlikeTold 26 = .ok (.iaload, 1) := zo_46 (by decide +kernel)
theorem dX12_unlikeTold_27 : decode cX12_unlikeTold 27 = .ok (.aload_n 0, 1) := zo_42 (by decide +kernel)
theorem dX12_unlikeTold_28 : decode cX12_unlikeTold 28 = .ok (.iload_n 2, 1) := zo_28 (by decide +kernel)
theorem dX12_unlikeTold_29 : decode cX12_unlikeTold 29 = .ok (.invokevirtual 193, 3) := zo_182 (by decide +kernel)
theorem dX12_unlikeTold_32 : decode cX12_unlikeTold 32 = .ok (.if_icmp .eq 9, 3) := zo_159 (by decide +kernel)
theorem dX12_unlikeTold_35 : decode cX12_unlikeTold 35 = .ok (.iconst 1, 1) := zo_4 (by decide +kernel)
theorem dX12_unlikeTold_36 : decode cX12_unlikeTold 36 = .ok (.iload_n 2, 1) := zo_28 (by decide +kernel)
theorem dX12_unlikeTold_37 : decode cX12_unlikeTold 37 = .ok (.ishl, 1) := zo_120 (by decide +kernel)
theorem dX12_unlikeTold_38 : decode cX12_unlikeTold 38 = .ok (.goto 4, 3) := zo_167 (by decide +kernel)
theorem dX12_unlikeTold_41 : decode cX12_unlikeTold 41 = .ok (.iconst 0, 1) := zo_3 (by decide +kernel)
theorem dX12_unlikeTold_42 : decode cX12_unlikeTold 42 = .ok (.ior, 1) := zo_128 (by decide +kernel)
theorem dX12_unlikeTold_43 : decode cX12_unlikeTold 43 = .ok (.istore_n 1, 1) := zo_60 (by decide +kernel)
theorem dX12_unlikeTold_44 : decode cX12_unlikeTold 44 = .ok (.iinc 2 1, 3) := zo_132 (by decide +kernel)
theorem dX12_unlikeTold_47 : decode cX12_unlikeTold 47 = .ok (.goto (-43), 3) := zo_167 (by decide +kernel)
theorem dX12_unlikeTold_50 : decode cX12_unlikeTold 50 = .ok (.iload_n 1, 1) := zo_27 (by decide +kernel)
theorem dX12_unlikeTold_51 : decode cX12_unlikeTold 51 = .ok (.ireturn, 1) := zo_172 (by decide +kernel)
theorem dX12_bitsOf_0 : decode cX12_bitsOf 0 = .ok (.iconst 0, 1) := zo_3 (by decide +kernel)
theorem dX12_bitsOf_1 : decode cX12_bitsOf 1 = .ok (.istore_n 1, 1) := zo_60 (by decide +kernel)
theorem dX12_bitsOf_2 : decode cX12_bitsOf 2 = .ok (.iconst 0, 1) := zo_3 (by decide +kernel)
theorem dX12_bitsOf_3 : decode cX12_bitsOf 3 = .ok (.istore_n 2, 1) := zo_61 (by decide +kernel)
theorem dX12_bitsOf_4 : decode cX12_bitsOf 4 = .ok (.iload_n 2, 1) := zo_28 (by decide +kernel)
theorem dX12_bitsOf_5 : decode cX12_bitsOf 5 = .ok (.bipush 12, 2) := zo_16 (by decide +kernel)
theorem dX12_bitsOf_7 : decode cX12_bitsOf 7 = .ok (.if_icmp .ge 17, 3) := zo_162 (by decide +kernel)
theorem dX12_bitsOf_10 : decode cX12_bitsOf 10 = .ok (.iload_n 1, 1) := zo_27 (by decide +kernel)
theorem dX12_bitsOf_11 : decode cX12_bitsOf 11 = .ok (.iload_n 0, 1) := zo_26 (by decide +kernel)
theorem dX12_bitsOf_12 : decode cX12_bitsOf 12 = .ok (.iload_n 2, 1) := zo_28 (by decide +kernel)
theorem dX12_bitsOf_13 : decode cX12_bitsOf 13 = .ok (.ishr, 1) := zo_122 (by decide +kernel)
theorem dX12_bitsOf_14 : decode cX12_bitsOf 14 = .ok (.iconst 1, 1) := zo_4 (by decide +kernel)
theorem dX12_bitsOf_15 : decode cX12_bitsOf 15 = .ok (.iand, 1) := zo_126 (by decide +kernel)
theorem dX12_bitsOf_16 : decode cX12_bitsOf 16 = .ok (.iadd, 1) := zo_96 (by decide +kernel)
theorem dX12_bitsOf_17 : decode cX12_bitsOf 17 = .ok (.istore_n 1, 1) := zo_60 (by decide +kernel)
theorem dX12_bitsOf_18 : decode cX12_bitsOf 18 = .ok (.iinc 2 1, 3) := zo_132 (by decide +kernel)
theorem dX12_bitsOf_21 : decode cX12_bitsOf 21 = .ok (.goto (-17), 3) := zo_167 (by decide +kernel)
theorem dX12_bitsOf_24 : decode cX12_bitsOf 24 = .ok (.iload_n 1, 1) := zo_27 (by decide +kernel)
theorem dX12_bitsOf_25 : decode cX12_bitsOf 25 = .ok (.ireturn, 1) := zo_172 (by decide +kernel)
theorem dX12_numberOf_0 : decode cX12_numberOf 0 = .ok (.aload_n 0, 1) := zo_42 (by decide +kernel)
theorem dX12_numberOf_1 : decode cX12_numberOf 1 = .ok (.iload_n 1, 1) := zo_27 (by decide +kernel)
theorem dX12_numberOf_2 : decode cX12_numberOf 2 = .ok (.invokevirtual 226, 3) := zo_182 (by decide +kernel)
theorem dX12_numberOf_5 : decode cX12_numberOf 5 = .ok (.iconst 1, 1) := zo_4 (by decide +kernel)
theorem dX12_numberOf_6 : decode cX12_numberOf 6 = .ok (.istore_n 2, 1) := zo_61 (by decide +kernel)
theorem dX12_numberOf_7 : decode cX12_numberOf 7 = .ok (.iconst 0, 1) := zo_3 (by decide +kernel)
theorem dX12_numberOf_8 : decode cX12_numberOf 8 = .ok (.istore_n 3, 1) := zo_62 (by decide +kernel)
theorem dX12_numberOf_9 : decode cX12_numberOf 9 = .ok (.iload_n 3, 1) := zo_29 (by decide +kernel)
theorem dX12_numberOf_10 : decode cX12_numberOf 10 = .ok (.aload_n 0, 1) := zo_42 (by decide +kernel)
theorem dX12_numberOf_11 : decode cX12_numberOf 11 = .ok (.getfield 169, 3) := zo_180 (by decide +kernel)
theorem dX12_numberOf_14 : decode cX12_numberOf 14 = .ok (.if_icmp .ge 21, 3) := zo_162 (by decide +kernel)
theorem dX12_numberOf_17 : decode cX12_numberOf 17 = .ok (.bipush 10, 2) := zo_16 (by decide +kernel)
theorem dX12_numberOf_19 : decode cX12_numberOf 19 = .ok (.iload_n 2, 1) := zo_28 (by decide +kernel)
theorem dX12_numberOf_20 : decode cX12_numberOf 20 = .ok (.imul, 1) := zo_104 (by decide +kernel)
theorem dX12_numberOf_21 : decode cX12_numberOf 21 = .ok (.aload_n 0, 1) := zo_42 (by decide +kernel)
theorem dX12_numberOf_22 : decode cX12_numberOf 22 = .ok (.getfield 20, 3) := zo_180 (by decide +kernel)
theorem dX12_numberOf_25 : decode cX12_numberOf 25 = .ok (.iload_n 3, 1) := zo_29 (by decide +kernel)
theorem dX12_numberOf_26 : decode cX12_numberOf 26 = .ok (.iaload, 1) := zo_46 (by decide +kernel)
theorem dX12_numberOf_27 : decode cX12_numberOf 27 = .ok (.iadd, 1) := zo_96 (by decide +kernel)
theorem dX12_numberOf_28 : decode cX12_numberOf 28 = .ok (.istore_n 2, 1) := zo_61 (by decide +kernel)
theorem dX12_numberOf_29 : decode cX12_numberOf 29 = .ok (.iinc 3 1, 3) := zo_132 (by decide +kernel)
theorem dX12_numberOf_32 : decode cX12_numberOf 32 = .ok (.goto (-23), 3) := zo_167 (by decide +kernel)
theorem dX12_numberOf_35 : decode cX12_numberOf 35 = .ok (.iload_n 2, 1) := zo_28 (by decide +kernel)
theorem dX12_numberOf_36 : decode cX12_numberOf 36 = .ok (.ireturn, 1) := zo_172 (by decide +kernel)
theorem dX12_setBy_0 : decode cX12_setBy 0 = .ok (.iconst (-1), 1) := zo_2 (by decide +kernel)
theorem dX12_setBy_1 : decode cX12_setBy 1 = .ok (.istore_n 3, 1) := zo_62 (by decide +kernel)
theorem dX12_setBy_2 : decode cX12_setBy 2 = .ok (.iconst 0, 1) := zo_3 (by decide +kernel)
theorem dX12_setBy_3 : decode cX12_setBy 3 = .ok (.istore 4, 2) := zo_54 (by decide +kernel)
theorem dX12_setBy_5 : decode cX12_setBy 5 = .ok (.aload_n 0, 1) := zo_42 (by decide +kernel)
theorem dX12_setBy_6 : decode cX12_setBy 6 = .ok (.invokevirtual 229, 3) := zo_182 (by decide +kernel)
theorem dX12_setBy_9 : decode cX12_setBy 9 = .ok (.istore 5, 2) := zo_54 (by decide +kernel)
theorem dX12_setBy_11 : decode cX12_setBy 11 = .ok (.iconst 0, 1) := zo_3 (by decide +kernel)
theorem dX12_setBy_12 : decode cX12_setBy 12 = .ok (.istore 6, 2) := zo_54 (by decide +kernel)
theorem dX12_setBy_14 : decode cX12_setBy 14 = .ok (.iload 6, 2) := zo_21 (by decide +kernel)
theorem dX12_setBy_16 : decode cX12_setBy 16 = .ok (.iload 5, 2) := zo_21 (by decide +kernel)
theorem dX12_setBy_18 : decode cX12_setBy 18 = .ok (.if_icmp .ge 98, 3) := zo_162 (by decide +kernel)
theorem dX12_setBy_21 : decode cX12_setBy 21 = .ok (.aload_n 0, 1) := zo_42 (by decide +kernel)
theorem dX12_setBy_22 : decode cX12_setBy 22 = .ok (.iload 6, 2) := zo_21 (by decide +kernel)
theorem dX12_setBy_24 : decode cX12_setBy 24 = .ok (.invokevirtual 226, 3) := zo_182 (by decide +kernel)
theorem dX12_setBy_27 : decode cX12_setBy 27 = .ok (.aload_n 0, 1) := zo_42 (by decide +kernel)
theorem dX12_setBy_28 : decode cX12_setBy 28 = .ok (.invokevirtual 232, 3) := zo_182 (by decide +kernel)
theorem dX12_setBy_31 : decode cX12_setBy 31 = .ok (.istore 7, 2) := zo_54 (by decide +kernel)
theorem dX12_setBy_33 : decode cX12_setBy 33 = .ok (.iload_n 3, 1) := zo_29 (by decide +kernel)
theorem dX12_setBy_34 : decode cX12_setBy 34 = .ok (.iconst (-1), 1) := zo_2 (by decide +kernel)
theorem dX12_setBy_35 : decode cX12_setBy 35 = .ok (.if_icmp .eq 36, 3) := zo_159 (by decide +kernel)
theorem dX12_setBy_38 : decode cX12_setBy 38 = .ok (.iload 7, 2) := zo_21 (by decide +kernel)
theorem dX12_setBy_40 : decode cX12_setBy 40 = .ok (.invokestatic 235, 3) := zo_184 (by decide +kernel)
theorem dX12_setBy_43 : decode cX12_setBy 43 = .ok (.iload 4, 2) := zo_21 (by decide +kernel)
theorem dX12_setBy_45 : decode cX12_setBy 45 = .ok (.invokestatic 235, 3) := zo_184 (by decide +kernel)
theorem dX12_setBy_48 : decode cX12_setBy 48 = .ok (.if_icmp .lt 23, 3) := zo_161 (by decide +kernel)
theorem dX12_setBy_51 : decode cX12_setBy 51 = .ok (.iload 7, 2) := zo_21 (by decide +kernel)
theorem dX12_setBy_53 : decode cX12_setBy 53 = .ok (.invokestatic 235, 3) := zo_184 (by decide +kernel)
theorem dX12_setBy_56 : decode cX12_setBy 56 = .ok (.iload 4, 2) := zo_21 (by decide +kernel)
theorem dX12_setBy_58 : decode cX12_setBy 58 = .ok (.invokestatic 235, 3) := zo_184 (by decide +kernel)
theorem dX12_setBy_61 : decode cX12_setBy 61 = .ok (.if_icmp .ne 14, 3) := zo_160 (by decide +kernel)
theorem dX12_setBy_64 : decode cX12_setBy 64 = .ok (.iload 7, 2) := zo_21 (by decide +kernel)
theorem dX12_setBy_66 : decode cX12_setBy 66 = .ok (.iload 4, 2) := zo_21 (by decide +kernel)
theorem dX12_setBy_68 : decode cX12_setBy 68 = .ok (.if_icmp .ge 7, 3) := zo_162 (by decide +kernel)
theorem dX12_setBy_71 : decode cX12_setBy 71 = .ok (.iconst 1, 1) := zo_4 (by decide +kernel)
theorem dX12_setBy_72 : decode cX12_setBy 72 = .ok (.goto 4, 3) := zo_167 (by decide +kernel)
theorem dX12_setBy_75 : decode cX12_setBy 75 = .ok (.iconst 0, 1) := zo_3 (by decide +kernel)
theorem dX12_setBy_76 : decode cX12_setBy 76 = .ok (.istore 8, 2) := zo_54 (by decide +kernel)
theorem dX12_setBy_78 : decode cX12_setBy 78 = .ok (.iload 8, 2) := zo_21 (by decide +kernel)
theorem dX12_setBy_80 : decode cX12_setBy 80 = .ok (.ifCond .ne 6, 3) := zo_154 (by decide +kernel)
theorem dX12_setBy_83 : decode cX12_setBy 83 = .ok (.goto 27, 3) := zo_167 (by decide +kernel)
theorem dX12_setBy_86 : decode cX12_setBy 86 = .ok (.aload_n 0, 1) := zo_42 (by decide +kernel)
theorem dX12_setBy_87 : decode cX12_setBy 87 = .ok (.iload_n 1, 1) := zo_27 (by decide +kernel)
theorem dX12_setBy_88 : decode cX12_setBy 88 = .ok (.invokevirtual 217, 3) := zo_182 (by decide +kernel)
theorem dX12_setBy_91 : decode cX12_setBy 91 = .ok (.pop, 1) := zo_87 (by decide +kernel)
theorem dX12_setBy_92 : decode cX12_setBy 92 = .ok (.aload_n 0, 1) := zo_42 (by decide +kernel)
theorem dX12_setBy_93 : decode cX12_setBy 93 = .ok (.getfield 202, 3) := zo_180 (by decide +kernel)
theorem dX12_setBy_96 : decode cX12_setBy 96 = .ok (.iload_n 2, 1) := zo_28 (by decide +kernel)
theorem dX12_setBy_97 : decode cX12_setBy 97 = .ok (.if_icmp .eq 6, 3) := zo_159 (by decide +kernel)
theorem dX12_setBy_100 : decode cX12_setBy 100 = .ok (.goto 10, 3) := zo_167 (by decide +kernel)
theorem dX12_setBy_103 : decode cX12_setBy 103 = .ok (.iload 6, 2) := zo_21 (by decide +kernel)
theorem dX12_setBy_105 : decode cX12_setBy 105 = .ok (.istore_n 3, 1) := zo_62 (by decide +kernel)
theorem dX12_setBy_106 : decode cX12_setBy 106 = .ok (.iload 7, 2) := zo_21 (by decide +kernel)
theorem dX12_setBy_108 : decode cX12_setBy 108 = .ok (.istore 4, 2) := zo_54 (by decide +kernel)
theorem dX12_setBy_110 : decode cX12_setBy 110 = .ok (.iinc 6 1, 3) := zo_132 (by decide +kernel)
theorem dX12_setBy_113 : decode cX12_setBy 113 = .ok (.goto (-99), 3) := zo_167 (by decide +kernel)
theorem dX12_setBy_116 : decode cX12_setBy 116 = .ok (.iload_n 3, 1) := zo_29 (by decide +kernel)
theorem dX12_setBy_117 : decode cX12_setBy 117 = .ok (.ireturn, 1) := zo_172 (by decide +kernel)
theorem dX12_set_0 : decode cX12_set 0 = .ok (.aload_n 0, 1) := zo_42 (by decide +kernel)
theorem dX12_set_1 : decode cX12_set 1 = .ok (.iload_n 1, 1) := zo_27 (by decide +kernel)
theorem dX12_set_2 : decode cX12_set 2 = .ok (.invokevirtual 184, 3) := zo_182 (by decide +kernel)
theorem dX12_set_5 : decode cX12_set 5 = .ok (.ifCond .eq 27, 3) := zo_153 (by decide +kernel)
theorem dX12_set_8 : decode cX12_set 8 = .ok (.aload_n 0, 1) := zo_42 (by decide +kernel)
theorem dX12_set_9 : decode cX12_set 9 = .ok (.iload_n 2, 1) := zo_28 (by decide +kernel)
theorem dX12_set_10 : decode cX12_set 10 = .ok (.invokevirtual 187, 3) := zo_182 (by decide +kernel)
theorem dX12_set_13 : decode cX12_set 13 = .ok (.ifCond .eq 19, 3) := zo_153 (by decide +kernel)
theorem dX12_set_16 : decode cX12_set 16 = .ok (.aload_n 0, 1) := zo_42 (by decide +kernel)
theorem dX12_set_17 : decode cX12_set 17 = .ok (.iload_n 3, 1) := zo_29 (by decide +kernel)
theorem dX12_set_18 : decode cX12_set 18 = .ok (.invokevirtual 187, 3) := zo_182 (by decide +kernel)
theorem dX12_set_21 : decode cX12_set 21 = .ok (.ifCond .eq 11, 3) := zo_153 (by decide +kernel)
theorem dX12_set_24 : decode cX12_set 24 = .ok (.aload_n 0, 1) := zo_42 (by decide +kernel)
theorem dX12_set_25 : decode cX12_set 25 = .ok (.iload_n 3, 1) := zo_29 (by decide +kernel)
theorem dX12_set_26 : decode cX12_set 26 = .ok (.invokevirtual 178, 3) := zo_182 (by decide +kernel)
theorem dX12_set_29 : decode cX12_set 29 = .ok (.ifCond .ne 5, 3) := zo_154 (by decide +kernel)
theorem dX12_set_32 : decode cX12_set 32 = .ok (.iconst (-1), 1) := zo_2 (by decide +kernel)
theorem dX12_set_33 : decode cX12_set 33 = .ok (.ireturn, 1) := zo_172 (by decide +kernel)
theorem dX12_set_34 : decode cX12_set 34 = .ok (.aload_n 0, 1) := zo_42 (by decide +kernel)
theorem dX12_set_35 : decode cX12_set 35 = .ok (.iload_n 2, 1) := zo_28 (by decide +kernel)
theorem dX12_set_36 : decode cX12_set 36 = .ok (.iload_n 3, 1) := zo_29 (by decide +kernel)
theorem dX12_set_37 : decode cX12_set 37 = .ok (.invokevirtual 238, 3) := zo_182 (by decide +kernel)
theorem dX12_set_40 : decode cX12_set 40 = .ok (.istore 5, 2) := zo_54 (by decide +kernel)
theorem dX12_set_42 : decode cX12_set 42 = .ok (.iload 5, 2) := zo_21 (by decide +kernel)
theorem dX12_set_44 : decode cX12_set 44 = .ok (.iconst (-1), 1) := zo_2 (by decide +kernel)
theorem dX12_set_45 : decode cX12_set 45 = .ok (.if_icmp .ne 5, 3) := zo_160 (by decide +kernel)
theorem dX12_set_48 : decode cX12_set 48 = .ok (.iconst (-1), 1) := zo_2 (by decide +kernel)
theorem dX12_set_49 : decode cX12_set 49 = .ok (.ireturn, 1) := zo_172 (by decide +kernel)
theorem dX12_set_50 : decode cX12_set 50 = .ok (.aload_n 0, 1) := zo_42 (by decide +kernel)
theorem dX12_set_51 : decode cX12_set 51 = .ok (.iload 5, 2) := zo_21 (by decide +kernel)
theorem dX12_set_53 : decode cX12_set 53 = .ok (.invokevirtual 226, 3) := zo_182 (by decide +kernel)
theorem dX12_set_56 : decode cX12_set 56 = .ok (.iload 4, 2) := zo_21 (by decide +kernel)
theorem dX12_set_58 : decode cX12_set 58 = .ok (.ifCond .eq 9, 3) := zo_153 (by decide +kernel)
theorem dX12_set_61 : decode cX12_set 61 = .ok (.iload 4, 2) := zo_21 (by decide +kernel)
theorem dX12_set_63 : decode cX12_set 63 = .ok (.iconst 1, 1) := zo_4 (by decide +kernel)
theorem dX12_set_64 : decode cX12_set 64 = .ok (.if_icmp .ne 23, 3) := zo_160 (by decide +kernel)
theorem dX12_set_67 : decode cX12_set 67 = .ok (.iload 4, 2) := zo_21 (by decide +kernel)
theorem dX12_set_69 : decode cX12_set 69 = .ok (.ifCond .ne 13, 3) := zo_154 (by decide +kernel)
theorem dX12_set_72 : decode cX12_set 72 = .ok (.aload_n 0, 1) := zo_42 (by decide +kernel)
theorem dX12_set_73 : decode cX12_set 73 = .ok (.invokevirtual 232, 3) := zo_182 (by decide +kernel)
theorem dX12_set_76 : decode cX12_set 76 = .ok (.invokestatic 235, 3) := zo_184 (by decide +kernel)
theorem dX12_set_79 : decode cX12_set 79 = .ok (.goto 7, 3) := zo_167 (by decide +kernel)
theorem dX12_set_82 : decode cX12_set 82 = .ok (.aload_n 0, 1) := zo_42 (by decide +kernel)
theorem dX12_set_83 : decode cX12_set 83 = .ok (.invokevirtual 232, 3) := zo_182 (by decide +kernel)
theorem dX12_set_86 : decode cX12_set 86 = .ok (.ireturn, 1) := zo_172 (by decide +kernel)
theorem dX12_set_87 : decode cX12_set 87 = .ok (.iload 4, 2) := zo_21 (by decide +kernel)
theorem dX12_set_89 : decode cX12_set 89 = .ok (.bipush 10, 2) := zo_16 (by decide +kernel)
theorem dX12_set_91 : decode cX12_set 91 = .ok (.isub, 1) := zo_100 (by decide +kernel)
theorem dX12_set_92 : decode cX12_set 92 = .ok (.istore 6, 2) := zo_54 (by decide +kernel)
theorem dX12_set_94 : decode cX12_set 94 = .ok (.iload 4, 2) := zo_21 (by decide +kernel)
theorem dX12_set_96 : decode cX12_set 96 = .ok (.bipush 10, 2) := zo_16 (by decide +kernel)
theorem dX12_set_98 : decode cX12_set 98 = .ok (.bipush 16, 2) := zo_16 (by decide +kernel)
theorem dX12_set_100 : decode cX12_set 100 = .ok (.invokestatic 111, 3) := zo_184 (by decide +kernel)
theorem dX12_set_103 : decode cX12_set 103 = .ok (.ifCond .eq 12, 3) := zo_153 (by decide +kernel)
theorem dX12_set_106 : decode cX12_set 106 = .ok (.aload_n 0, 1) := zo_42 (by decide +kernel)
theorem dX12_set_107 : decode cX12_set 107 = .ok (.iload 6, 2) := zo_21 (by decide +kernel)
theorem dX12_set_109 : decode cX12_set 109 = .ok (.invokevirtual 187, 3) := zo_182 (by decide +kernel)
theorem dX12_set_112 : decode cX12_set 112 = .ok (.ifCond .ne 7, 3) := zo_154 (by decide +kernel)
theorem dX12_set_115 : decode cX12_set 115 = .ok (.iconst (-1), 1) := zo_2 (by decide +kernel)
theorem dX12_set_116 : decode cX12_set 116 = .ok (.goto 28, 3) := zo_167 (by decide +kernel)
theorem dX12_set_119 : decode cX12_set 119 = .ok (.aload_n 0, 1) := zo_42 (by decide +kernel)
theorem dX12_set_120 : decode cX12_set 120 = .ok (.iload 6, 2) := zo_21 (by decide +kernel)
theorem dX12_set_122 : decode cX12_set 122 = .ok (.invokevirtual 223, 3) := zo_182 (by decide +kernel)
theorem dX12_set_125 : decode cX12_set 125 = .ok (.ifCond .eq 13, 3) := zo_153 (by decide +kernel)
theorem dX12_set_128 : decode cX12_set 128 = .ok (.aload_n 0, 1) := zo_42 (by decide +kernel)
theorem dX12_set_129 : decode cX12_set 129 = .ok (.getfield 20, 3) := zo_180 (by decide +kernel)
theorem dX12_set_132 : decode cX12_set 132 = .ok (.iload 6, 2) := zo_21 (by decide +kernel)
theorem dX12_set_134 : decode cX12_set 134 = .ok (.iaload, 1) := zo_46 (by decide +kernel)
theorem dX12_set_135 : decode cX12_set 135 = .ok (.goto 9, 3) := zo_167 (by decide +kernel)
theorem dX12_set_138 : decode cX12_set 138 = .ok (.aload_n 0, 1) := zo_42 (by decide +kernel)
theorem dX12_set_139 : decode cX12_set 139 = .ok (.iload 6, 2) := zo_21 (by decide +kernel)
theorem dX12_set_141 : decode cX12_set 141 = .ok (.invokevirtual 193, 3) := zo_182 (by decide +kernel)
theorem dX12_set_144 : decode cX12_set 144 = .ok (.ireturn, 1) := zo_172 (by decide +kernel)
theorem dX12_common_0 : decode cX12_common 0 = .ok (.iload_n 0, 1) := zo_26 (by decide +kernel)
theorem dX12_common_1 : decode cX12_common 1 = .ok (.istore_n 2, 1) := zo_61 (by decide +kernel)
theorem dX12_common_2 : decode cX12_common 2 = .ok (.iload_n 1, 1) := zo_27 (by decide +kernel)
theorem dX12_common_3 : decode cX12_common 3 = .ok (.istore_n 3, 1) := zo_62 (by decide +kernel)
theorem dX12_common_4 : decode cX12_common 4 = .ok (.iload_n 3, 1) := zo_29 (by decide +kernel)
theorem dX12_common_5 : decode cX12_common 5 = .ok (.ifCond .eq 16, 3) := zo_153 (by decide +kernel)
theorem dX12_common_8 : decode cX12_common 8 = .ok (.iload_n 2, 1) := zo_28 (by decide +kernel)
theorem dX12_common_9 : decode cX12_common 9 = .ok (.iload_n 3, 1) := zo_29 (by decide +kernel)
theorem dX12_common_10 : decode cX12_common 10 = .ok (.irem, 1) := zo_112 (by decide +kernel)
theorem dX12_common_11 : decode cX12_common 11 = .ok (.istore 4, 2) := zo_54 (by decide +kernel)
theorem dX12_common_13 : decode cX12_common 13 = .ok (.iload_n 3, 1) := zo_29 (by decide +kernel)
theorem dX12_common_14 : decode cX12_common 14 = .ok (.istore_n 2, 1) := zo_61 (by decide +kernel)
theorem dX12_common_15 : decode cX12_common 15 = .ok (.iload 4, 2) := zo_21 (by decide +kernel)
theorem dX12_common_17 : decode cX12_common 17 = .ok (.istore_n 3, 1) := zo_62 (by decide +kernel)
theorem dX12_common_18 : decode cX12_common 18 = .ok (.goto (-14), 3) := zo_167 (by decide +kernel)
theorem dX12_common_21 : decode cX12_common 21 = .ok (.iload_n 2, 1) := zo_28 (by decide +kernel)
theorem dX12_common_22 : decode cX12_common 22 = .ok (.ireturn, 1) := zo_172 (by decide +kernel)
theorem dX12_parted_0 : decode cX12_parted 0 = .ok (.iload_n 2, 1) := zo_28 (by decide +kernel)
theorem dX12_parted_1 : decode cX12_parted 1 = .ok (.ifCond .eq 7, 3) := zo_153 (by decide +kernel)
theorem dX12_parted_4 : decode cX12_parted 4 = .ok (.iload_n 1, 1) := zo_27 (by decide +kernel)
theorem dX12_parted_5 : decode cX12_parted 5 = .ok (.goto 4, 3) := zo_167 (by decide +kernel)
theorem dX12_parted_8 : decode cX12_parted 8 = .ok (.iload_n 0, 1) := zo_26 (by decide +kernel)
theorem dX12_parted_9 : decode cX12_parted 9 = .ok (.iload_n 0, 1) := zo_26 (by decide +kernel)
theorem dX12_parted_10 : decode cX12_parted 10 = .ok (.iload_n 1, 1) := zo_27 (by decide +kernel)
theorem dX12_parted_11 : decode cX12_parted 11 = .ok (.invokestatic 241, 3) := zo_184 (by decide +kernel)
theorem dX12_parted_14 : decode cX12_parted 14 = .ok (.idiv, 1) := zo_108 (by decide +kernel)
theorem dX12_parted_15 : decode cX12_parted 15 = .ok (.ireturn, 1) := zo_172 (by decide +kernel)
theorem dX12_lot_0 : decode cX12_lot 0 = .ok (.aload_n 0, 1) := zo_42 (by decide +kernel)
theorem dX12_lot_1 : decode cX12_lot 1 = .ok (.iload_n 1, 1) := zo_27 (by decide +kernel)
theorem dX12_lot_2 : decode cX12_lot 2 = .ok (.invokevirtual 184, 3) := zo_182 (by decide +kernel)
theorem dX12_lot_5 : decode cX12_lot 5 = .ok (.ifCond .eq 27, 3) := zo_153 (by decide +kernel)
theorem dX12_lot_8 : decode cX12_lot 8 = .ok (.aload_n 0, 1) := zo_42 (by decide +kernel)
theorem dX12_lot_9 : decode cX12_lot 9 = .ok (.iload_n 2, 1) := zo_28 (by decide +kernel)
theorem dX12_lot_10 : decode cX12_lot 10 = .ok (.invokevirtual 187, 3) := zo_182 (by decide +kernel)
theorem dX12_lot_13 : decode cX12_lot 13 = .ok (.ifCond .eq 19, 3) := zo_153 (by decide +kernel)
theorem dX12_lot_16 : decode cX12_lot 16 = .ok (.aload_n 0, 1) := zo_42 (by decide +kernel)
theorem dX12_lot_17 : decode cX12_lot 17 = .ok (.iload_n 3, 1) := zo_29 (by decide +kernel)
theorem dX12_lot_18 : decode cX12_lot 18 = .ok (.invokevirtual 187, 3) := zo_182 (by decide +kernel)
theorem dX12_lot_21 : decode cX12_lot 21 = .ok (.ifCond .eq 11, 3) := zo_153 (by decide +kernel)
theorem dX12_lot_24 : decode cX12_lot 24 = .ok (.aload_n 0, 1) := zo_42 (by decide +kernel)
theorem dX12_lot_25 : decode cX12_lot 25 = .ok (.iload_n 3, 1) := zo_29 (by decide +kernel)
theorem dX12_lot_26 : decode cX12_lot 26 = .ok (.invokevirtual 178, 3) := zo_182 (by decide +kernel)
theorem dX12_lot_29 : decode cX12_lot 29 = .ok (.ifCond .ne 5, 3) := zo_154 (by decide +kernel)
theorem dX12_lot_32 : decode cX12_lot 32 = .ok (.iconst (-1), 1) := zo_2 (by decide +kernel)
theorem dX12_lot_33 : decode cX12_lot 33 = .ok (.ireturn, 1) := zo_172 (by decide +kernel)
theorem dX12_lot_34 : decode cX12_lot 34 = .ok (.aload_n 0, 1) := zo_42 (by decide +kernel)
theorem dX12_lot_35 : decode cX12_lot 35 = .ok (.invokevirtual 229, 3) := zo_182 (by decide +kernel)
theorem dX12_lot_38 : decode cX12_lot 38 = .ok (.istore 5, 2) := zo_54 (by decide +kernel)
theorem dX12_lot_40 : decode cX12_lot 40 = .ok (.iconst 0, 1) := zo_3 (by decide +kernel)
theorem dX12_lot_41 : decode cX12_lot 41 = .ok (.istore 6, 2) := zo_54 (by decide +kernel)
theorem dX12_lot_43 : decode cX12_lot 43 = .ok (.iconst 0, 1) := zo_3 (by decide +kernel)
theorem dX12_lot_44 : decode cX12_lot 44 = .ok (.istore 7, 2) := zo_54 (by decide +kernel)
theorem dX12_lot_46 : decode cX12_lot 46 = .ok (.iload 7, 2) := zo_21 (by decide +kernel)
theorem dX12_lot_48 : decode cX12_lot 48 = .ok (.iload 5, 2) := zo_21 (by decide +kernel)
theorem dX12_lot_50 : decode cX12_lot 50 = .ok (.if_icmp .ge 39, 3) := zo_162 (by decide +kernel)
theorem dX12_lot_53 : decode cX12_lot 53 = .ok (.aload_n 0, 1) := zo_42 (by decide +kernel)
theorem dX12_lot_54 : decode cX12_lot 54 = .ok (.iload 7, 2) := zo_21 (by decide +kernel)
theorem dX12_lot_56 : decode cX12_lot 56 = .ok (.invokevirtual 226, 3) := zo_182 (by decide +kernel)
theorem dX12_lot_59 : decode cX12_lot 59 = .ok (.aload_n 0, 1) := zo_42 (by decide +kernel)
theorem dX12_lot_60 : decode cX12_lot 60 = .ok (.iload_n 2, 1) := zo_28 (by decide +kernel)
theorem dX12_lot_61 : decode cX12_lot 61 = .ok (.invokevirtual 217, 3) := zo_182 (by decide +kernel)
theorem dX12_lot_64 : decode cX12_lot 64 = .ok (.pop, 1) := zo_87 (by decide +kernel)
theorem dX12_lot_65 : decode cX12_lot 65 = .ok (.iload 6, 2) := zo_21 (by decide +kernel)
theorem dX12_lot_67 : decode cX12_lot 67 = .ok (.aload_n 0, 1) := zo_42 (by decide +kernel)
theorem dX12_lot_68 : decode cX12_lot 68 = .ok (.getfield 202, 3) := zo_180 (by decide +kernel)
theorem dX12_lot_71 : decode cX12_lot 71 = .ok (.iload_n 3, 1) := zo_29 (by decide +kernel)
theorem dX12_lot_72 : decode cX12_lot 72 = .ok (.if_icmp .ne 7, 3) := zo_160 (by decide +kernel)
theorem dX12_lot_75 : decode cX12_lot 75 = .ok (.iconst 1, 1) := zo_4 (by decide +kernel)
theorem dX12_lot_76 : decode cX12_lot 76 = .ok (.goto 4, 3) := zo_167 (by decide +kernel)
theorem dX12_lot_79 : decode cX12_lot 79 = .ok (.iconst 0, 1) := zo_3 (by decide +kernel)
theorem dX12_lot_80 : decode cX12_lot 80 = .ok (.iadd, 1) := zo_96 (by decide +kernel)
theorem dX12_lot_81 : decode cX12_lot 81 = .ok (.istore 6, 2) := zo_54 (by decide +kernel)
theorem dX12_lot_83 : decode cX12_lot 83 = .ok (.iinc 7 1, 3) := zo_132 (by decide +kernel)
theorem dX12_lot_86 : decode cX12_lot 86 = .ok (.goto (-40), 3) := zo_167 (by decide +kernel)
theorem dX12_lot_89 : decode cX12_lot 89 = .ok (.iload 6, 2) := zo_21 (by decide +kernel)
theorem dX12_lot_91 : decode cX12_lot 91 = .ok (.iload 5, 2) := zo_21 (by decide +kernel)
theorem dX12_lot_93 : decode cX12_lot 93 = .ok (.iload 4, 2) := zo_21 (by decide +kernel)
theorem dX12_lot_95 : decode cX12_lot 95 = .ok (.invokestatic 244, 3) := zo_184 (by decide +kernel)
theorem dX12_lot_98 : decode cX12_lot 98 = .ok (.ireturn, 1) := zo_172 (by decide +kernel)
theorem dX12_mean_0 : decode cX12_mean 0 = .ok (.aload_n 0, 1) := zo_42 (by decide +kernel)
theorem dX12_mean_1 : decode cX12_mean 1 = .ok (.iload_n 1, 1) := zo_27 (by decide +kernel)
theorem dX12_mean_2 : decode cX12_mean 2 = .ok (.invokevirtual 184, 3) := zo_182 (by decide +kernel)
theorem dX12_mean_5 : decode cX12_mean 5 = .ok (.ifCond .eq 11, 3) := zo_153 (by decide +kernel)
theorem dX12_mean_8 : decode cX12_mean 8 = .ok (.aload_n 0, 1) := zo_42 (by decide +kernel)
theorem dX12_mean_9 : decode cX12_mean 9 = .ok (.iload_n 2, 1) := zo_28 (by decide +kernel)
theorem dX12_mean_10 : decode cX12_mean 10 = .ok (.invokevirtual 187, 3) := zo_182 (by decide +kernel)
theorem dX12_mean_13 : decode cX12_mean 13 = .ok (.ifCond .ne 5, 3) := zo_154 (by decide +kernel)
theorem dX12_mean_16 : decode cX12_mean 16 = .ok (.iconst (-1), 1) := zo_2 (by decide +kernel)
theorem dX12_mean_17 : decode cX12_mean 17 = .ok (.ireturn, 1) := zo_172 (by decide +kernel)
theorem dX12_mean_18 : decode cX12_mean 18 = .ok (.aload_n 0, 1) := zo_42 (by decide +kernel)
theorem dX12_mean_19 : decode cX12_mean 19 = .ok (.invokevirtual 229, 3) := zo_182 (by decide +kernel)
theorem dX12_mean_22 : decode cX12_mean 22 = .ok (.istore 4, 2) := zo_54 (by decide +kernel)
theorem dX12_mean_24 : decode cX12_mean 24 = .ok (.iconst 0, 1) := zo_3 (by decide +kernel)
theorem dX12_mean_25 : decode cX12_mean 25 = .ok (.istore 5, 2) := zo_54 (by decide +kernel)
theorem dX12_mean_27 : decode cX12_mean 27 = .ok (.iconst 0, 1) := zo_3 (by decide +kernel)
theorem dX12_mean_28 : decode cX12_mean 28 = .ok (.istore 6, 2) := zo_54 (by decide +kernel)
theorem dX12_mean_30 : decode cX12_mean 30 = .ok (.iload 6, 2) := zo_21 (by decide +kernel)
theorem dX12_mean_32 : decode cX12_mean 32 = .ok (.iload 4, 2) := zo_21 (by decide +kernel)
theorem dX12_mean_34 : decode cX12_mean 34 = .ok (.if_icmp .ge 34, 3) := zo_162 (by decide +kernel)
theorem dX12_mean_37 : decode cX12_mean 37 = .ok (.aload_n 0, 1) := zo_42 (by decide +kernel)
theorem dX12_mean_38 : decode cX12_mean 38 = .ok (.iload 6, 2) := zo_21 (by decide +kernel)
theorem dX12_mean_40 : decode cX12_mean 40 = .ok (.invokevirtual 226, 3) := zo_182 (by decide +kernel)
theorem dX12_mean_43 : decode cX12_mean 43 = .ok (.aload_n 0, 1) := zo_42 (by decide +kernel)
theorem dX12_mean_44 : decode cX12_mean 44 = .ok (.iload_n 2, 1) := zo_28 (by decide +kernel)
theorem dX12_mean_45 : decode cX12_mean 45 = .ok (.invokevirtual 217, 3) := zo_182 (by decide +kernel)
theorem dX12_mean_48 : decode cX12_mean 48 = .ok (.ifCond .ne 5, 3) := zo_154 (by decide +kernel)
theorem dX12_mean_51 : decode cX12_mean 51 = .ok (.iconst (-1), 1) := zo_2 (by decide +kernel)
theorem dX12_mean_52 : decode cX12_mean 52 = .ok (.ireturn, 1) := zo_172 (by decide +kernel)
theorem dX12_mean_53 : decode cX12_mean 53 = .ok (.iload 5, 2) := zo_21 (by decide +kernel)
theorem dX12_mean_55 : decode cX12_mean 55 = .ok (.aload_n 0, 1) := zo_42 (by decide +kernel)
theorem dX12_mean_56 : decode cX12_mean 56 = .ok (.getfield 208, 3) := zo_180 (by decide +kernel)
theorem dX12_mean_59 : decode cX12_mean 59 = .ok (.iadd, 1) := zo_96 (by decide +kernel)
theorem dX12_mean_60 : decode cX12_mean 60 = .ok (.istore 5, 2) := zo_54 (by decide +kernel)
theorem dX12_mean_62 : decode cX12_mean 62 = .ok (.iinc 6 1, 3) := zo_132 (by decide +kernel)
theorem dX12_mean_65 : decode cX12_mean 65 = .ok (.goto (-35), 3) := zo_167 (by decide +kernel)
theorem dX12_mean_68 : decode cX12_mean 68 = .ok (.iload 5, 2) := zo_21 (by decide +kernel)
theorem dX12_mean_70 : decode cX12_mean 70 = .ok (.iload 4, 2) := zo_21 (by decide +kernel)
theorem dX12_mean_72 : decode cX12_mean 72 = .ok (.iload_n 3, 1) := zo_29 (by decide +kernel)
theorem dX12_mean_73 : decode cX12_mean 73 = .ok (.invokestatic 244, 3) := zo_184 (by decide +kernel)
theorem dX12_mean_76 : decode cX12_mean 76 = .ok (.ireturn, 1) := zo_172 (by decide +kernel)
theorem dX12_longest_0 : decode cX12_longest 0 = .ok (.aload_n 0, 1) := zo_42 (by decide +kernel)
theorem dX12_longest_1 : decode cX12_longest 1 = .ok (.iload_n 1, 1) := zo_27 (by decide +kernel)
theorem dX12_longest_2 : decode cX12_longest 2 = .ok (.invokevirtual 184, 3) := zo_182 (by decide +kernel)
theorem dX12_longest_5 : decode cX12_longest 5 = .ok (.ifCond .eq 11, 3) := zo_153 (by decide +kernel)
theorem dX12_longest_8 : decode cX12_longest 8 = .ok (.aload_n 0, 1) := zo_42 (by decide +kernel)
theorem dX12_longest_9 : decode cX12_longest 9 = .ok (.iload_n 2, 1) := zo_28 (by decide +kernel)
theorem dX12_longest_10 : decode cX12_longest 10 = .ok (.invokevirtual 187, 3) := zo_182 (by decide +kernel)
theorem dX12_longest_13 : decode cX12_longest 13 = .ok (.ifCond .ne 5, 3) := zo_154 (by decide +kernel)
theorem dX12_longest_16 : decode cX12_longest 16 = .ok (.iconst (-1), 1) := zo_2 (by decide +kernel)
theorem dX12_longest_17 : decode cX12_longest 17 = .ok (.ireturn, 1) := zo_172 (by decide +kernel)
theorem dX12_longest_18 : decode cX12_longest 18 = .ok (.aload_n 0, 1) := zo_42 (by decide +kernel)
theorem dX12_longest_19 : decode cX12_longest 19 = .ok (.invokevirtual 229, 3) := zo_182 (by decide +kernel)
theorem dX12_longest_22 : decode cX12_longest 22 = .ok (.istore 5, 2) := zo_54 (by decide +kernel)
theorem dX12_longest_24 : decode cX12_longest 24 = .ok (.iconst (-1), 1) := zo_2 (by decide +kernel)
theorem dX12_longest_25 : decode cX12_longest 25 = .ok (.istore 6, 2) := zo_54 (by decide +kernel)
theorem dX12_longest_27 : decode cX12_longest 27 = .ok (.iconst 0, 1) := zo_3 (by decide +kernel)
theorem dX12_longest_28 : decode cX12_longest 28 = .ok (.istore 7, 2) := zo_54 (by decide +kernel)
theorem dX12_longest_30 : decode cX12_longest 30 = .ok (.iconst 0, 1) := zo_3 (by decide +kernel)
theorem dX12_longest_31 : decode cX12_longest 31 = .ok (.istore 8, 2) := zo_54 (by decide +kernel)
theorem dX12_longest_33 : decode cX12_longest 33 = .ok (.iload 8, 2) := zo_21 (by decide +kernel)
theorem dX12_longest_35 : decode cX12_longest 35 = .ok (.iload 5, 2) := zo_21 (by decide +kernel)
theorem dX12_longest_37 : decode cX12_longest 37 = .ok (.if_icmp .ge 67, 3) := zo_162 (by decide +kernel)
theorem dX12_longest_40 : decode cX12_longest 40 = .ok (.aload_n 0, 1) := zo_42 (by decide +kernel)
theorem dX12_longest_41 : decode cX12_longest 41 = .ok (.iload 8, 2) := zo_21 (by decide +kernel)
theorem dX12_longest_43 : decode cX12_longest 43 = .ok (.invokevirtual 226, 3) := zo_182 (by decide +kernel)
theorem dX12_longest_46 : decode cX12_longest 46 = .ok (.aload_n 0, 1) := zo_42 (by decide +kernel)
theorem dX12_longest_47 : decode cX12_longest 47 = .ok (.iload_n 2, 1) := zo_28 (by decide +kernel)
theorem dX12_longest_48 : decode cX12_longest 48 = .ok (.invokevirtual 217, 3) := zo_182 (by decide +kernel)
theorem dX12_longest_51 : decode cX12_longest 51 = .ok (.ifCond .eq 47, 3) := zo_153 (by decide +kernel)
theorem dX12_longest_54 : decode cX12_longest 54 = .ok (.iload 6, 2) := zo_21 (by decide +kernel)
theorem dX12_longest_56 : decode cX12_longest 56 = .ok (.iconst (-1), 1) := zo_2 (by decide +kernel)
theorem dX12_longest_57 : decode cX12_longest 57 = .ok (.if_icmp .eq 31, 3) := zo_159 (by decide +kernel)
theorem dX12_longest_60 : decode cX12_longest 60 = .ok (.iload_n 3, 1) := zo_29 (by decide +kernel)
theorem dX12_longest_61 : decode cX12_longest 61 = .ok (.ifCond .eq 15, 3) := zo_153 (by decide +kernel)
theorem dX12_longest_64 : decode cX12_longest 64 = .ok (.aload_n 0, 1) := zo_42 (by decide +kernel)
theorem dX12_longest_65 : decode cX12_longest 65 = .ok (.getfield 208, 3) := zo_180 (by decide +kernel)
theorem dX12_longest_68 : decode cX12_longest 68 = .ok (.iload 7, 2) := zo_21 (by decide +kernel)
theorem dX12_longest_70 : decode cX12_longest 70 = .ok (.if_icmp .lt 18, 3) := zo_161 (by decide +kernel)
theorem dX12_longest_73 : decode cX12_longest 73 = .ok (.goto 25, 3) := zo_167 (by decide +kernel)
theorem dX12_longest_76 : decode cX12_longest 76 = .ok (.aload_n 0, 1) := zo_42 (by decide +kernel)
theorem dX12_longest_77 : decode cX12_longest 77 = .ok (.getfield 208, 3) := zo_180 (by decide +kernel)
theorem dX12_longest_80 : decode cX12_longest 80 = .ok (.iload 7, 2) := zo_21 (by decide +kernel)
theorem dX12_longest_82 : decode cX12_longest 82 = .ok (.if_icmp .gt 6, 3) := zo_163 (by decide +kernel)
theorem dX12_longest_85 : decode cX12_longest 85 = .ok (.goto 13, 3) := zo_167 (by decide +kernel)
theorem dX12_longest_88 : decode cX12_longest 88 = .ok (.iload 8, 2) := zo_21 (by decide +kernel)
theorem dX12_longest_90 : decode cX12_longest 90 = .ok (.istore 6, 2) := zo_54 (by decide +kernel)
theorem dX12_longest_92 : decode cX12_longest 92 = .ok (.aload_n 0, 1) := zo_42 (by decide +kernel)
theorem dX12_longest_93 : decode cX12_longest 93 = .ok (.getfield 208, 3) := zo_180 (by decide +kernel)
theorem dX12_longest_96 : decode cX12_longest 96 = .ok (.istore 7, 2) := zo_54 (by decide +kernel)
theorem dX12_longest_98 : decode cX12_longest 98 = .ok (.iinc 8 1, 3) := zo_132 (by decide +kernel)
theorem dX12_longest_101 : decode cX12_longest 101 = .ok (.goto (-68), 3) := zo_167 (by decide +kernel)
theorem dX12_longest_104 : decode cX12_longest 104 = .ok (.iload 6, 2) := zo_21 (by decide +kernel)
theorem dX12_longest_106 : decode cX12_longest 106 = .ok (.iconst (-1), 1) := zo_2 (by decide +kernel)
theorem dX12_longest_107 : decode cX12_longest 107 = .ok (.if_icmp .ne 7, 3) := zo_160 (by decide +kernel)
theorem dX12_longest_110 : decode cX12_longest 110 = .ok (.iconst (-1), 1) := zo_2 (by decide +kernel)
theorem dX12_longest_111 : decode cX12_longest 111 = .ok (.goto 19, 3) := zo_167 (by decide +kernel)
theorem dX12_longest_114 : decode cX12_longest 114 = .ok (.iload 4, 2) := zo_21 (by decide +kernel)
theorem dX12_longest_116 : decode cX12_longest 116 = .ok (.ifCond .eq 12, 3) := zo_153 (by decide +kernel)
theorem dX12_longest_119 : decode cX12_longest 119 = .ok (.aload_n 0, 1) := zo_42 (by decide +kernel)
theorem dX12_longest_120 : decode cX12_longest 120 = .ok (.iload 6, 2) := zo_21 (by decide +kernel)
theorem dX12_longest_122 : decode cX12_longest 122 = .ok (.invokevirtual 299, 3) := zo_182 (by decide +kernel)
theorem dX12_longest_125 : decode cX12_longest 125 = .ok (.goto 5, 3) := zo_167 (by decide +kernel)
theorem dX12_longest_128 : decode cX12_longest 128 = .ok (.iload 7, 2) := zo_21 (by decide +kernel)
theorem dX12_longest_130 : decode cX12_longest 130 = .ok (.ireturn, 1) := zo_172 (by decide +kernel)
theorem dX12_back_0 : decode cX12_back 0 = .ok (.aload_n 0, 1) := zo_42 (by decide +kernel)
theorem dX12_back_1 : decode cX12_back 1 = .ok (.iload_n 1, 1) := zo_27 (by decide +kernel)
theorem dX12_back_2 : decode cX12_back 2 = .ok (.invokevirtual 184, 3) := zo_182 (by decide +kernel)
theorem dX12_back_5 : decode cX12_back 5 = .ok (.ifCond .eq 11, 3) := zo_153 (by decide +kernel)
theorem dX12_back_8 : decode cX12_back 8 = .ok (.aload_n 0, 1) := zo_42 (by decide +kernel)
theorem dX12_back_9 : decode cX12_back 9 = .ok (.iload_n 2, 1) := zo_28 (by decide +kernel)
theorem dX12_back_10 : decode cX12_back 10 = .ok (.invokevirtual 187, 3) := zo_182 (by decide +kernel)
theorem dX12_back_13 : decode cX12_back 13 = .ok (.ifCond .ne 5, 3) := zo_154 (by decide +kernel)
theorem dX12_back_16 : decode cX12_back 16 = .ok (.iconst (-1), 1) := zo_2 (by decide +kernel)
theorem dX12_back_17 : decode cX12_back 17 = .ok (.ireturn, 1) := zo_172 (by decide +kernel)
theorem dX12_back_18 : decode cX12_back 18 = .ok (.aload_n 0, 1) := zo_42 (by decide +kernel)
theorem dX12_back_19 : decode cX12_back 19 = .ok (.invokevirtual 229, 3) := zo_182 (by decide +kernel)
theorem dX12_back_22 : decode cX12_back 22 = .ok (.istore_n 3, 1) := zo_62 (by decide +kernel)
theorem dX12_back_23 : decode cX12_back 23 = .ok (.iconst 0, 1) := zo_3 (by decide +kernel)
theorem dX12_back_24 : decode cX12_back 24 = .ok (.istore 4, 2) := zo_54 (by decide +kernel)
theorem dX12_back_26 : decode cX12_back 26 = .ok (.iconst 0, 1) := zo_3 (by decide +kernel)
theorem dX12_back_27 : decode cX12_back 27 = .ok (.istore 5, 2) := zo_54 (by decide +kernel)
theorem dX12_back_29 : decode cX12_back 29 = .ok (.iload 5, 2) := zo_21 (by decide +kernel)
theorem dX12_back_31 : decode cX12_back 31 = .ok (.iload_n 3, 1) := zo_29 (by decide +kernel)
theorem dX12_back_32 : decode cX12_back 32 = .ok (.if_icmp .ge 38, 3) := zo_162 (by decide +kernel)
theorem dX12_back_35 : decode cX12_back 35 = .ok (.aload_n 0, 1) := zo_42 (by decide +kernel)
theorem dX12_back_36 : decode cX12_back 36 = .ok (.iload 5, 2) := zo_21 (by decide +kernel)
theorem dX12_back_38 : decode cX12_back 38 = .ok (.invokevirtual 226, 3) := zo_182 (by decide +kernel)
theorem dX12_back_41 : decode cX12_back 41 = .ok (.aload_n 0, 1) := zo_42 (by decide +kernel)
theorem dX12_back_42 : decode cX12_back 42 = .ok (.iload_n 2, 1) := zo_28 (by decide +kernel)
theorem dX12_back_43 : decode cX12_back 43 = .ok (.invokevirtual 217, 3) := zo_182 (by decide +kernel)
theorem dX12_back_46 : decode cX12_back 46 = .ok (.pop, 1) := zo_87 (by decide +kernel)
theorem dX12_back_47 : decode cX12_back 47 = .ok (.iload 4, 2) := zo_21 (by decide +kernel)
theorem dX12_back_49 : decode cX12_back 49 = .ok (.aload_n 0, 1) := zo_42 (by decide +kernel)
theorem dX12_back_50 : decode cX12_back 50 = .ok (.invokevirtual 232, 3) := zo_182 (by decide +kernel)
theorem dX12_back_53 : decode cX12_back 53 = .ok (.ifCond .ne 7, 3) := zo_154 (by decide +kernel)
theorem dX12_back_56 : decode cX12_back 56 = .ok (.iconst 1, 1) := zo_4 (by decide +kernel)
theorem dX12_back_57 : decode cX12_back 57 = .ok (.goto 4, 3) := zo_167 (by decide +kernel)
theorem dX12_back_60 : decode cX12_back 60 = .ok (.iconst 0, 1) := zo_3 (by decide +kernel)
theorem dX12_back_61 : decode cX12_back 61 = .ok (.iadd, 1) := zo_96 (by decide +kernel)
theorem dX12_back_62 : decode cX12_back 62 = .ok (.istore 4, 2) := zo_54 (by decide +kernel)
theorem dX12_back_64 : decode cX12_back 64 = .ok (.iinc 5 1, 3) := zo_132 (by decide +kernel)
theorem dX12_back_67 : decode cX12_back 67 = .ok (.goto (-38), 3) := zo_167 (by decide +kernel)
theorem dX12_back_70 : decode cX12_back 70 = .ok (.iload 4, 2) := zo_21 (by decide +kernel)
theorem dX12_back_72 : decode cX12_back 72 = .ok (.ireturn, 1) := zo_172 (by decide +kernel)
theorem dX12_roads5_0 : decode cX12_roads5 0 = .ok (.aload_n 0, 1) := zo_42 (by decide +kernel)
theorem dX12_roads5_1 : decode cX12_roads5 1 = .ok (.iload_n 1, 1) := zo_27 (by decide +kernel)
theorem dX12_roads5_2 : decode cX12_roads5 2 = .ok (.invokevirtual 178, 3) := zo_182 (by decide +kernel)
theorem dX12_roads5_5 : decode cX12_roads5 5 = .ok (.ifCond .eq 7, 3) := zo_153 (by decide +kernel)
theorem dX12_roads5_8 : decode cX12_roads5 8 = .ok (.iconst 0, 1) := zo_3 (by decide +kernel)
theorem dX12_roads5_9 : decode cX12_roads5 9 = .ok (.goto 8, 3) := zo_167 (by decide +kernel)
theorem dX12_roads5_12 : decode cX12_roads5 12 = .ok (.aload_n 0, 1) := zo_42 (by decide +kernel)
theorem dX12_roads5_13 : decode cX12_roads5 13 = .ok (.iload_n 1, 1) := zo_27 (by decide +kernel)
theorem dX12_roads5_14 : decode cX12_roads5 14 = .ok (.invokevirtual 181, 3) := zo_182 (by decide +kernel)
theorem dX12_roads5_17 : decode cX12_roads5 17 = .ok (.ireturn, 1) := zo_172 (by decide +kernel)
theorem dX12_keys_0 : decode cX12_keys 0 = .ok (.aload_n 0, 1) := zo_42 (by decide +kernel)
theorem dX12_keys_1 : decode cX12_keys 1 = .ok (.iload_n 1, 1) := zo_27 (by decide +kernel)
theorem dX12_keys_2 : decode cX12_keys 2 = .ok (.invokevirtual 184, 3) := zo_182 (by decide +kernel)
theorem dX12_keys_5 : decode cX12_keys 5 = .ok (.ifCond .eq 19, 3) := zo_153 (by decide +kernel)
theorem dX12_keys_8 : decode cX12_keys 8 = .ok (.aload_n 0, 1) := zo_42 (by decide +kernel)
theorem dX12_keys_9 : decode cX12_keys 9 = .ok (.iload_n 2, 1) := zo_28 (by decide +kernel)
theorem dX12_keys_10 : decode cX12_keys 10 = .ok (.invokevirtual 187, 3) := zo_182 (by decide +kernel)
theorem dX12_keys_13 : decode cX12_keys 13 = .ok (.ifCond .eq 11, 3) := zo_153 (by decide +kernel)
theorem dX12_keys_16 : decode cX12_keys 16 = .ok (.aload_n 0, 1) := zo_42 (by decide +kernel)
theorem dX12_keys_17 : decode cX12_keys 17 = .ok (.iload_n 2, 1) := zo_28 (by decide +kernel)
theorem dX12_keys_18 : decode cX12_keys 18 = .ok (.invokevirtual 217, 3) := zo_182 (by decide +kernel)
theorem dX12_keys_21 : decode cX12_keys 21 = .ok (.ifCond .ne 6, 3) := zo_154 (by decide +kernel)
theorem dX12_keys_24 : decode cX12_keys 24 = .ok (.bipush (-2), 2) := zo_16 (by decide +kernel)
theorem dX12_keys_26 : decode cX12_keys 26 = .ok (.ireturn, 1) := zo_172 (by decide +kernel)
theorem dX12_keys_27 : decode cX12_keys 27 = .ok (.iconst 0, 1) := zo_3 (by decide +kernel)
theorem dX12_keys_28 : decode cX12_keys 28 = .ok (.istore 4, 2) := zo_54 (by decide +kernel)
theorem dX12_keys_30 : decode cX12_keys 30 = .ok (.iconst (-1), 1) := zo_2 (by decide +kernel)
theorem dX12_keys_31 : decode cX12_keys 31 = .ok (.istore 5, 2) := zo_54 (by decide +kernel)
theorem dX12_keys_33 : decode cX12_keys 33 = .ok (.aload_n 0, 1) := zo_42 (by decide +kernel)
theorem dX12_keys_34 : decode cX12_keys 34 = .ok (.getfield 169, 3) := zo_180 (by decide +kernel)
theorem dX12_keys_37 : decode cX12_keys 37 = .ok (.iconst 1, 1) := zo_4 (by decide +kernel)
theorem dX12_keys_38 : decode cX12_keys 38 = .ok (.isub, 1) := zo_100 (by decide +kernel)
theorem dX12_keys_39 : decode cX12_keys 39 = .ok (.istore 6, 2) := zo_54 (by decide +kernel)
theorem dX12_keys_41 : decode cX12_keys 41 = .ok (.iload 6, 2) := zo_21 (by decide +kernel)
theorem dX12_keys_43 : decode cX12_keys 43 = .ok (.ifCond .lt 69, 3) := zo_155 (by decide +kernel)
theorem dX12_keys_46 : decode cX12_keys 46 = .ok (.aload_n 0, 1) := zo_42 (by decide +kernel)
theorem dX12_keys_47 : decode cX12_keys 47 = .ok (.iload 6, 2) := zo_21 (by decide +kernel)
theorem dX12_keys_49 : decode cX12_keys 49 = .ok (.invokevirtual 255, 3) := zo_182 (by decide +kernel)
theorem dX12_keys_52 : decode cX12_keys 52 = .ok (.iconst 1, 1) := zo_4 (by decide +kernel)
theorem dX12_keys_53 : decode cX12_keys 53 = .ok (.isub, 1) := zo_100 (by decide +kernel)
theorem dX12_keys_54 : decode cX12_keys 54 = .ok (.istore 7, 2) := zo_54 (by decide +kernel)
theorem dX12_keys_56 : decode cX12_keys 56 = .ok (.iload 7, 2) := zo_21 (by decide +kernel)
theorem dX12_keys_58 : decode cX12_keys 58 = .ok (.ifCond .lt 48, 3) := zo_155 (by decide +kernel)
theorem dX12_keys_61 : decode cX12_keys 61 = .ok (.aload_n 0, 1) := zo_42 (by decide +kernel)
theorem dX12_keys_62 : decode cX12_keys 62 = .ok (.invokevirtual 175, 3) := zo_182 (by decide +kernel)
theorem dX12_keys_65 : decode cX12_keys 65 = .ok (.aload_n 0, 1) := zo_42 (by decide +kernel)
theorem dX12_keys_66 : decode cX12_keys 66 = .ok (.getfield 23, 3) := zo_180 (by decide +kernel)
theorem dX12_keys_69 : decode cX12_keys 69 = .ok (.iload 6, 2) := zo_21 (by decide +kernel)
theorem dX12_keys_71 : decode cX12_keys 71 = .ok (.iconst 1, 1) := zo_4 (by decide +kernel)
theorem dX12_keys_72 : decode cX12_keys 72 = .ok (.iload 7, 2) := zo_21 (by decide +kernel)
theorem dX12_keys_74 : decode cX12_keys 74 = .ok (.ishl, 1) := zo_120 (by decide +kernel)
theorem dX12_keys_75 : decode cX12_keys 75 = .ok (.iastore, 1) := zo_79 (by decide +kernel)
theorem dX12_keys_76 : decode cX12_keys 76 = .ok (.aload_n 0, 1) := zo_42 (by decide +kernel)
theorem dX12_keys_77 : decode cX12_keys 77 = .ok (.iload_n 2, 1) := zo_28 (by decide +kernel)
theorem dX12_keys_78 : decode cX12_keys 78 = .ok (.invokevirtual 217, 3) := zo_182 (by decide +kernel)
theorem dX12_keys_81 : decode cX12_keys 81 = .ok (.ifCond .eq 6, 3) := zo_153 (by decide +kernel)
theorem dX12_keys_84 : decode cX12_keys 84 = .ok (.goto 16, 3) := zo_167 (by decide +kernel)
theorem dX12_keys_87 : decode cX12_keys 87 = .ok (.iinc 4 1, 3) := zo_132 (by decide +kernel)
theorem dX12_keys_90 : decode cX12_keys 90 = .ok (.bipush 10, 2) := zo_16 (by decide +kernel)
theorem dX12_keys_92 : decode cX12_keys 92 = .ok (.iload 6, 2) := zo_21 (by decide +kernel)
theorem dX12_keys_94 : decode cX12_keys 94 = .ok (.imul, 1) := zo_104 (by decide +kernel)
theorem dX12_keys_95 : decode cX12_keys 95 = .ok (.iload 7, 2) := zo_21 (by decide +kernel)
theorem dX12_keys_97 : decode cX12_keys 97 = .ok (.iadd, 1) := zo_96 (by decide +kernel)
theorem dX12_keys_98 : decode cX12_keys 98 = .ok (.istore 5, 2) := zo_54 (by decide +kernel)
theorem dX12_keys_100 : decode cX12_keys 100 = .ok (.iinc 7 (-1), 3) := zo_132 (by decide +kernel)
theorem dX12_keys_103 : decode cX12_keys 103 = .ok (.goto (-47), 3) := zo_167 (by decide +kernel)
theorem dX12_keys_106 : decode cX12_keys 106 = .ok (.iinc 6 (-1), 3) := zo_132 (by decide +kernel)
theorem dX12_keys_109 : decode cX12_keys 109 = .ok (.goto (-68), 3) := zo_167 (by decide +kernel)
theorem dX12_keys_112 : decode cX12_keys 112 = .ok (.iload_n 3, 1) := zo_29 (by decide +kernel)
theorem dX12_keys_113 : decode cX12_keys 113 = .ok (.ifCond .eq 8, 3) := zo_153 (by decide +kernel)
theorem dX12_keys_116 : decode cX12_keys 116 = .ok (.iload 5, 2) := zo_21 (by decide +kernel)
theorem dX12_keys_118 : decode cX12_keys 118 = .ok (.goto 5, 3) := zo_167 (by decide +kernel)
theorem dX12_keys_121 : decode cX12_keys 121 = .ok (.iload 4, 2) := zo_21 (by decide +kernel)
theorem dX12_keys_123 : decode cX12_keys 123 = .ok (.ireturn, 1) := zo_172 (by decide +kernel)

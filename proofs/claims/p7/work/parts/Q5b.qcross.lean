set_option maxHeartbeats 4000000 in
set_option maxRecDepth 100000 in
/-- c_fm_crossTold -/
theorem c_fm_crossTold (l : Launch) (T : zTy) (mo : Nat) (m_all : Nat) (m_has : Nat) (i_size : Int32) (i_next : Int32) (i_where : Int32) (i_token : Int32) (i_number : Int32) (i_word : Int32) (i_wrong : Int32) (i_farCrossing : Int32) (m_read : Nat) (i_z0 : Int32) (i_crossings : Int32) (i_inns : Int32) (m_posts : Nat) (m_shut : Nat) (m_here : Nat) (i_steps : Int32) (i_done : Int32) (i_at : Int32) (i_gone : Int32) (m_was : Nat) (m_came : Nat) (m_seenAt : Nat) (m_rowWorth : Nat) (m_farBy : Nat) (m_used : Nat) (i_everywhere : Int32) (i_again0 : Int32) (i_d0 : Int32) (i_never : Int32) (i_firstCame : Int32) (i_longRun : Int32) (i_moved : Int32) (i_crowd : Int32) (i_l0 : Int32) (i_fitMany : Int32) (i_fitLeast : Int32) (i_fitMost : Int32) (m_fitPost : Nat) (m_fitEnd : Nat) (m_keptPosts : Nat) (i_x0 : Int32) (f_all : Nat → Int32) (f_read : Nat → Int32) (k : pT) (n : Nat) (a : pS) (at_ : Int32) (hsz : i_size.toInt ≤ 600) (hn0 : 0 ≤ i_next.toInt) (hns : i_next.toInt ≤ i_size.toInt) (hR : zLF f_read) (hA : zRr k n i_size i_next i_where i_token i_number i_word i_wrong i_farCrossing f_all a) : zMv l T yX12_crossTold cX12_crossTold 4 7 0 0 [.ref mo, .int at_] [[(mo, .inr (11, [.ref m_all, .ref m_has, .int i_size, .int i_next, .int i_where, .int i_token, .int i_number, .int i_word, .int i_wrong, .int i_farCrossing, .ref m_read, .int i_z0, .int i_crossings, .int i_inns, .ref m_posts, .ref m_shut, .ref m_here, .int i_steps, .int i_done, .int i_at, .int i_gone, .ref m_was, .ref m_came, .ref m_seenAt, .ref m_rowWorth, .ref m_farBy, .ref m_used, .int i_everywhere, .int i_again0, .int i_d0, .int i_never, .int i_firstCame, .int i_longRun, .int i_moved, .int i_crowd, .int i_l0, .int i_fitMany, .int i_fitLeast, .int i_fitMost, .ref m_fitPost, .ref m_fitEnd, .ref m_keptPosts, .int i_x0]))], [(m_all, .inl (T.2 0, 3952, .inl f_all))], [(m_read, .inl (T.2 0, 121, .inl f_read))]] (fun bs => ∃ (j_next : Int32) (j_where : Int32) (j_token : Int32) (j_number : Int32) (j_word : Int32) (j_wrong : Int32) (j_farCrossing : Int32) (g_all : Nat → Int32) (g_read : Nat → Int32), bs = [[(mo, .inr (11, [.ref m_all, .ref m_has, .int i_size, .int j_next, .int j_where, .int j_token, .int j_number, .int j_word, .int j_wrong, .int j_farCrossing, .ref m_read, .int i_z0, .int i_crossings, .int i_inns, .ref m_posts, .ref m_shut, .ref m_here, .int i_steps, .int i_done, .int i_at, .int i_gone, .ref m_was, .ref m_came, .ref m_seenAt, .ref m_rowWorth, .ref m_farBy, .ref m_used, .int i_everywhere, .int i_again0, .int i_d0, .int i_never, .int i_firstCame, .int i_longRun, .int i_moved, .int i_crowd, .int i_l0, .int i_fitMany, .int i_fitLeast, .int i_fitMost, .ref m_fitPost, .ref m_fitEnd, .ref m_keptPosts, .int i_x0]))], [(m_all, .inl (T.2 0, 3952, .inl g_all))], [(m_read, .inl (T.2 0, 121, .inl g_read))]] ∧ 0 ≤ j_next.toInt ∧ j_next.toInt ≤ i_size.toInt ∧ i_next.toInt ≤ j_next.toInt ∧ zPal f_all g_all ∧ zLF g_read ∧ zRr k n i_size j_next j_where j_token j_number j_word j_wrong j_farCrossing g_all (pCross k at_ a f_read).1 ∧ g_read = (pCross k at_ a f_read).2) := by
  refine zMv_of (own := RX12) (by decide) rfl (Nat.le_of_ble_eq_true rfl) ?_
  intro p e s m args below meth c A ls C hr hlocks hnm hAe G hl
  have hx := C.1
  have hb := C.2.1
  have hl : lv_has ls 4 [(0, .ref mo), (1, .int at_)] := hl
  have hok := zRr_ok hA
  refine zAn6 (id hA) ?_
  intro hA1 hA6 hA7 hA8 hA9 hA10
  replace hA7 : zHd _ := hA7
  have hka : zHd _ := hok a.1 hA1.2.2.2.2
  have hkb := hka.1
  have hkc := hka.2.1
  have hT4 := pTk_le hok hA1.2.2.2.2
  have hR0 : 0 ≤ (f_read 0).toInt ∧ (f_read 0).toInt ≤ 7 := hR.1
  refine zMt2 (T := T) 17 (fun (gb : Nat → Int32) (b : pS) => [[(mo, .inr (11, [.ref m_all, .ref m_has, .int i_size, .int i_next, .int i_where, .int i_token, .int i_number, .int i_word, .int i_wrong, .int i_farCrossing, .ref m_read, .int i_z0, .int i_crossings, .int i_inns, .ref m_posts, .ref m_shut, .ref m_here, .int i_steps, .int i_done, .int i_at, .int i_gone, .ref m_was, .ref m_came, .ref m_seenAt, .ref m_rowWorth, .ref m_farBy, .ref m_used, .int i_everywhere, .int i_again0, .int i_d0, .int i_never, .int i_firstCame, .int i_longRun, .int i_moved, .int i_crowd, .int i_l0, .int i_fitMany, .int i_fitLeast, .int i_fitMost, .ref m_fitPost, .ref m_fitEnd, .ref m_keptPosts, .int i_x0]))], [(m_all, .inl (T.2 0, 3952, .inl gb))], [(m_read, .inl (T.2 0, 121, .inl f_read))]]) (fun (gb : Nat → Int32) (b : pS) => [(0, .ref mo), (1, .int at_)]) (fun (gb : Nat → Int32) (b : pS) => b = pDB 7 at_ f_read a ∧ zRr k n i_size i_next i_where i_token i_number i_word i_wrong i_farCrossing gb b ∧ zPal f_all gb) G hl ?_ (fun jn_17 => ?_)
  · intro gb b hI9 H locs ls G hl
    replace hI9 : b = pDB 7 at_ f_read a ∧ zRr k n i_size i_next i_where i_token i_number i_word i_wrong i_farCrossing gb b ∧ zPal f_all gb := hI9
    refine zAn3 hI9 ?_
    intro hbq hAb hpgb
    clear hI9
    replace G : zS T A s.heap s [[(mo, .inr (11, [.ref m_all, .ref m_has, .int i_size, .int i_next, .int i_where, .int i_token, .int i_number, .int i_word, .int i_wrong, .int i_farCrossing, .ref m_read, .int i_z0, .int i_crossings, .int i_inns, .ref m_posts, .ref m_shut, .ref m_here, .int i_steps, .int i_done, .int i_at, .int i_gone, .ref m_was, .ref m_came, .ref m_seenAt, .ref m_rowWorth, .ref m_farBy, .ref m_used, .int i_everywhere, .int i_again0, .int i_d0, .int i_never, .int i_firstCame, .int i_longRun, .int i_moved, .int i_crowd, .int i_l0, .int i_fitMany, .int i_fitLeast, .int i_fitMost, .ref m_fitPost, .ref m_fitEnd, .ref m_keptPosts, .int i_x0]))], [(m_all, .inl (T.2 0, 3952, .inl gb))], [(m_read, .inl (T.2 0, 121, .inl f_read))]] _ _ := G
    replace hl : lv_has ls 4 [(0, .ref mo), (1, .int at_)] := hl
    refine lv_iconst (v := 0) hx hb dX12_crossTold_17 (by decide) ?_
    refine lv_istore_n (lv' := [(2, .int 0), (0, .ref mo), (1, .int at_)]) hx hb dX12_crossTold_18 rfl hl (by decide) rfl (fun ls hl => ?_)
    refine z_lp12 (T := T) 19 (fun (xn : Int32) (xw : Int32) (xt : Int32) (xu : Int32) (xo : Int32) (xr : Int32) (xf : Int32) (ga : Nat → Int32) (gr : Nat → Int32) (nn : Nat) (A9 : pS) (j : Nat) => [[(mo, .inr (11, [.ref m_all, .ref m_has, .int i_size, .int xn, .int xw, .int xt, .int xu, .int xo, .int xr, .int xf, .ref m_read, .int i_z0, .int i_crossings, .int i_inns, .ref m_posts, .ref m_shut, .ref m_here, .int i_steps, .int i_done, .int i_at, .int i_gone, .ref m_was, .ref m_came, .ref m_seenAt, .ref m_rowWorth, .ref m_farBy, .ref m_used, .int i_everywhere, .int i_again0, .int i_d0, .int i_never, .int i_firstCame, .int i_longRun, .int i_moved, .int i_crowd, .int i_l0, .int i_fitMany, .int i_fitLeast, .int i_fitMost, .ref m_fitPost, .ref m_fitEnd, .ref m_keptPosts, .int i_x0]))], [(m_all, .inl (T.2 0, 3952, .inl ga))], [(m_read, .inl (T.2 0, 121, .inl gr))]]) (fun (xn : Int32) (xw : Int32) (xt : Int32) (xu : Int32) (xo : Int32) (xr : Int32) (xf : Int32) (ga : Nat → Int32) (gr : Nat → Int32) (nn : Nat) (A9 : pS) (j : Nat) => [(2, .int (nI nn)), (0, .ref mo), (1, .int at_)]) (fun (xn : Int32) (xw : Int32) (xt : Int32) (xu : Int32) (xo : Int32) (xr : Int32) (xf : Int32) (ga : Nat → Int32) (gr : Nat → Int32) (nn : Nat) (A9 : pS) (j : Nat) => nn ≤ 4 ∧ zLF gr ∧ i_next.toInt ≤ xn.toInt ∧ xn.toInt ≤ i_size.toInt ∧ zPal f_all ga ∧ zRr k n i_size xn xw xt xu xo xr xf ga A9 ∧ nn = min j 4 ∧ j ≤ A9.1 ∧ pRoads k (601 - j) (min j 4) A9 gr = pRoads k 601 0 b f_read ∧ gr 0 = f_read 0) (fun (xn : Int32) (xw : Int32) (xt : Int32) (xu : Int32) (xo : Int32) (xr : Int32) (xf : Int32) (ga : Nat → Int32) (gr : Nat → Int32) (nn : Nat) (A9 : pS) (j : Nat) => zMu xr xt xn i_size) ?_ i_next i_where i_token i_number i_word i_wrong i_farCrossing gb f_read 0 b 0 (show 0 ≤ 4 ∧ zLF f_read ∧ i_next.toInt ≤ i_next.toInt ∧ i_next.toInt ≤ i_size.toInt ∧ zPal f_all gb ∧ zRr k n i_size i_next i_where i_token i_number i_word i_wrong i_farCrossing gb b ∧ 0 = min 0 4 ∧ 0 ≤ b.1 ∧ pRoads k (601 - 0) (min 0 4) b f_read = pRoads k 601 0 b f_read ∧ f_read 0 = f_read 0 from ⟨by omega, hR, by omega, by omega, hpgb, hAb, by omega, (Nat.zero_le _), rfl, rfl⟩) G (lv_sub hl [0, 1, 2] rfl)
    intro xn xw xt xu xo xr xf ga gr nn A9 j hI9 ih_19 H locs ls G hl
    replace hI9 : nn ≤ 4 ∧ zLF gr ∧ i_next.toInt ≤ xn.toInt ∧ xn.toInt ≤ i_size.toInt ∧ zPal f_all ga ∧ zRr k n i_size xn xw xt xu xo xr xf ga A9 ∧ nn = min j 4 ∧ j ≤ A9.1 ∧ pRoads k (601 - j) (min j 4) A9 gr = pRoads k 601 0 b f_read ∧ gr 0 = f_read 0 := hI9
    refine zAn10 hI9 ?_
    intro hn hL hx1 hx2 hpal hRA hnn hpj hEq hf0
    clear hI9
    replace G : zS T A s.heap s [[(mo, .inr (11, [.ref m_all, .ref m_has, .int i_size, .int xn, .int xw, .int xt, .int xu, .int xo, .int xr, .int xf, .ref m_read, .int i_z0, .int i_crossings, .int i_inns, .ref m_posts, .ref m_shut, .ref m_here, .int i_steps, .int i_done, .int i_at, .int i_gone, .ref m_was, .ref m_came, .ref m_seenAt, .ref m_rowWorth, .ref m_farBy, .ref m_used, .int i_everywhere, .int i_again0, .int i_d0, .int i_never, .int i_firstCame, .int i_longRun, .int i_moved, .int i_crowd, .int i_l0, .int i_fitMany, .int i_fitLeast, .int i_fitMost, .ref m_fitPost, .ref m_fitEnd, .ref m_keptPosts, .int i_x0]))], [(m_all, .inl (T.2 0, 3952, .inl ga))], [(m_read, .inl (T.2 0, 121, .inl gr))]] _ _ := G
    replace hl : lv_has ls 4 [(2, .int (nI nn)), (0, .ref mo), (1, .int at_)] := hl
    refine lv_aload_n hx hb dX12_crossTold_19 rfl (lv_at hl 1 rfl) ?_
    have hL0 : 0 ≤ (gr 0).toInt ∧ (gr 0).toInt ≤ 7 := hL.1
    have hokA := zRr_ok hRA
    refine zAn6 (id hRA) ?_
    intro hA1A hA6A hA7A hA8A hA9A hA10A
    replace hA7A : zHd _ := hA7A
    have hkaA : zHd _ := hokA A9.1 hA1A.2.2.2.2
    have hkbA := hkaA.1
    have hkcA := hkaA.2.1
    have hT4A := pTk_le hokA hA1A.2.2.2.2
    have hnn6 := hA1A.2.2.1
    have hpn9 := hA1A.2.2.2.2
    refine z_get C G clX12 0 rfl 8 (by decide) m_fl_RX12_104 rfl dX12_crossTold_20 ?_
    refine lv_if_ne (tgt := 104) hx hb dX12_crossTold_23 (by decide) (fun c_1 => ?_) (fun c_1 => ?_)
    · have c_1n : ¬ xr.toInt = (0 : Int) := fun q => c_1 ((fa_eq _ _).mpr q)
      have hpc := pCross_e (w := at_) hbq (hEq.symm.trans (pRoads_x (fun z9 => by first | (exact absurd z9.1 (by rw [← hA6A]; omega)) | omega)))
      have hf0i : (gr 0).toInt = (f_read 0).toInt := by rw [hf0]
      refine lv_aload_n hx hb dX12_crossTold_104 rfl (lv_at hl 1 rfl) ?_
      refine z_get C G clX12 0 rfl 10 (by decide) m_fl_RX12_17 rfl dX12_crossTold_105 ?_
      refine lv_iconst (v := 0) hx hb dX12_crossTold_108 (by decide) ?_
      refine z_ild C G 2 rfl (vp_in_nI (n := 0) (by decide) (by decide)) dX12_crossTold_109 ?_
      refine lv_topi (fun v_2 ev_2 => ?_)
      rw [show ((0 : Int32).toNatClampNeg) = 0 from rfl] at ev_2
      subst ev_2
      refine lv_bipush (v := 7) hx hb dX12_crossTold_110 (by decide) ?_
      refine lv_icmp_lt (tgt := 116) hx hb dX12_crossTold_112 (by decide) (fun c_3 => ?_) (fun c_3 => ?_)
      · have c_3n : (gr 0).toInt < (7 : Int) := (fa_lt _ _).mp c_3
        refine lv_aload_n hx hb dX12_crossTold_116 rfl (lv_at hl 1 rfl) ?_
        refine z_get C G clX12 0 rfl 10 (by decide) m_fl_RX12_17 rfl dX12_crossTold_117 ?_
        refine lv_iconst (v := 2) hx hb dX12_crossTold_120 (by decide) ?_
        refine lv_aload_n hx hb dX12_crossTold_121 rfl (lv_at hl 1 rfl) ?_
        refine z_get C G clX12 0 rfl 10 (by decide) m_fl_RX12_17 rfl dX12_crossTold_122 ?_
        refine lv_iconst (v := 0) hx hb dX12_crossTold_125 (by decide) ?_
        refine z_ild C G 2 rfl (vp_in_nI (n := 0) (by decide) (by decide)) dX12_crossTold_126 ?_
        refine lv_topi (fun v_4 ev_4 => ?_)
        rw [show ((0 : Int32).toNatClampNeg) = 0 from rfl] at ev_4
        subst ev_4
        refine lv_iadd hx hb dX12_crossTold_127 ?_
        refine lv_topi (fun y_5 ey_5 => ?_)
        have ey_5i : y_5.toInt = (2 : Int) + (gr 0).toInt := by rw [ey_5]; exact z_iaddI (x := (2 : Int32)) (y := (gr 0)) (by show -2147483648 ≤ (2 : Int) + (gr 0).toInt; omega) (by show (2 : Int) + (gr 0).toInt < 2147483648; omega)
        refine lv_iload_n hx hb dX12_crossTold_128 rfl (lv_at hl 0 rfl) ?_
        refine z_ist C G 2 rfl (vp_in_iff.mpr ⟨by omega, by omega⟩) dX12_crossTold_129 (fun H locs G => ?_)
        have G : zS T A s.heap s [[(mo, .inr (11, [.ref m_all, .ref m_has, .int i_size, .int xn, .int xw, .int xt, .int xu, .int xo, .int xr, .int xf, .ref m_read, .int i_z0, .int i_crossings, .int i_inns, .ref m_posts, .ref m_shut, .ref m_here, .int i_steps, .int i_done, .int i_at, .int i_gone, .ref m_was, .ref m_came, .ref m_seenAt, .ref m_rowWorth, .ref m_farBy, .ref m_used, .int i_everywhere, .int i_again0, .int i_d0, .int i_never, .int i_firstCame, .int i_longRun, .int i_moved, .int i_crowd, .int i_l0, .int i_fitMany, .int i_fitLeast, .int i_fitMost, .ref m_fitPost, .ref m_fitEnd, .ref m_keptPosts, .int i_x0]))], [(m_all, .inl (T.2 0, 3952, .inl ga))], [(m_read, .inl (T.2 0, 121, .inl (upd gr y_5.toNatClampNeg (nI nn))))]] _ _ := G
        refine lv_aload_n hx hb dX12_crossTold_130 rfl (lv_at hl 1 rfl) ?_
        refine z_get C G clX12 0 rfl 10 (by decide) m_fl_RX12_17 rfl dX12_crossTold_131 ?_
        refine lv_iconst (v := 0) hx hb dX12_crossTold_134 (by decide) ?_
        refine lv_dup2_11 hx hb dX12_crossTold_135 rfl rfl ?_
        refine z_ild C G 2 rfl (vp_in_nI (n := 0) (by decide) (by decide)) dX12_crossTold_136 ?_
        refine lv_topi (fun v_6 ev_6 => ?_)
        rw [show ((0 : Int32).toNatClampNeg) = 0 from rfl] at ev_6
        subst ev_6
        have hcl_y_5 := z_clI (x := y_5) (by omega)
        rw [show (upd gr y_5.toNatClampNeg (nI nn)) 0 = gr 0 from by unfold upd; rw [if_neg (by omega)]]
        refine lv_iconst (v := 1) hx hb dX12_crossTold_137 (by decide) ?_
        refine lv_iadd hx hb dX12_crossTold_138 ?_
        refine lv_topi (fun y_7 ey_7 => ?_)
        have ey_7i : y_7.toInt = (gr 0).toInt + (1 : Int) := by rw [ey_7]; exact z_iaddI (x := (gr 0)) (y := (1 : Int32)) (by show -2147483648 ≤ (gr 0).toInt + (1 : Int); omega) (by show (gr 0).toInt + (1 : Int) < 2147483648; omega)
        refine z_ist C G 2 rfl (vp_in_nI (n := 0) (by decide) (by decide)) dX12_crossTold_139 (fun H locs G => ?_)
        have G : zS T A s.heap s [[(mo, .inr (11, [.ref m_all, .ref m_has, .int i_size, .int xn, .int xw, .int xt, .int xu, .int xo, .int xr, .int xf, .ref m_read, .int i_z0, .int i_crossings, .int i_inns, .ref m_posts, .ref m_shut, .ref m_here, .int i_steps, .int i_done, .int i_at, .int i_gone, .ref m_was, .ref m_came, .ref m_seenAt, .ref m_rowWorth, .ref m_farBy, .ref m_used, .int i_everywhere, .int i_again0, .int i_d0, .int i_never, .int i_firstCame, .int i_longRun, .int i_moved, .int i_crowd, .int i_l0, .int i_fitMany, .int i_fitLeast, .int i_fitMost, .ref m_fitPost, .ref m_fitEnd, .ref m_keptPosts, .int i_x0]))], [(m_all, .inl (T.2 0, 3952, .inl ga))], [(m_read, .inl (T.2 0, 121, .inl (upd (upd gr y_5.toNatClampNeg (nI nn)) 0 y_7)))]] _ _ := G
        exact z_vret C hr hlocks G (Nat.le_of_ble_eq_true rfl) (Nat.le_of_ble_eq_true rfl) dX12_crossTold_140 ⟨xn, xw, xt, xu, xo, xr, xf, ga, (upd (upd gr y_5.toNatClampNeg (nI nn)) 0 y_7), rfl, (by first | with_reducible assumption | omega | trivial | assumption), (by first | with_reducible assumption | omega | trivial | assumption), (by first | with_reducible assumption | omega | trivial | assumption), hpal, (zLF_upd (k := 0) (v := y_7) (zLF_upd (k := y_5.toNatClampNeg) (v := (nI nn)) (by assumption) (by have q9 := z_clI (x := y_5) (by omega); have t9 := nI_toInt (n := nn) (by omega); omega) (by have q9 := z_clI (x := y_5) (by omega); have t9 := nI_toInt (n := nn) (by omega); omega) (by have q9 := z_clI (x := y_5) (by omega); have t9 := nI_toInt (n := nn) (by omega); omega) (by have q9 := z_clI (x := y_5) (by omega); have t9 := nI_toInt (n := nn) (by omega); omega) (by have q9 := z_clI (x := y_5) (by omega); have t9 := nI_toInt (n := nn) (by omega); omega)) (by omega) (by omega) (by omega) (by omega) (by omega)), (by rw [hpc]; exact hRA), (by rw [hpc]; show _ = (if 7 ≤ (f_read 0).toInt then gr else upd (upd gr (2 + (gr 0).toInt.toNat) (nI (min j 4))) 0 (gr 0 + 1)); rw [if_neg (by omega), ← hnn, ey_7]; exact congrArg (fun q9 => upd (upd gr q9 (nI nn)) 0 (gr 0 + 1)) (by have q9 := z_clI (x := y_5) (by omega); omega))⟩
      · have c_3n : ¬ (gr 0).toInt < (7 : Int) := fun q => c_3 ((fa_lt _ _).mpr q)
        exact z_vret C hr hlocks G (Nat.le_of_ble_eq_true rfl) (Nat.le_of_ble_eq_true rfl) dX12_crossTold_115 ⟨xn, xw, xt, xu, xo, xr, xf, ga, gr, rfl, (by first | with_reducible assumption | omega | trivial | assumption), (by first | with_reducible assumption | omega | trivial | assumption), (by first | with_reducible assumption | omega | trivial | assumption), hpal, (by first | with_reducible assumption | omega | trivial | assumption), (by rw [hpc]; exact hRA), (by rw [hpc]; exact (if_pos (by omega)).symm)⟩
    · have c_1n : xr.toInt = (0 : Int) := (fa_eq _ _).mp c_1
      have hwA : A9.2.1.toInt = 0 := by rw [← hA6A]; omega
      refine zAn5 (hA7A hwA) ?_
      intro t1A t2A t3A t4A t5A
      replace t4A : zHd _ := t4A
      replace t5A : zHd _ := t5A
      have t3iA : xt.toInt = (pTk k A9.1 : Int) := by rw [t3A]; exact nI_toInt (by omega)
      refine lv_aload_n hx hb dX12_crossTold_26 rfl (lv_at hl 1 rfl) ?_
      refine z_get C G clX12 0 rfl 5 (by decide) m_fl_RX12_80 rfl dX12_crossTold_27 ?_
      refine lv_iconst (v := 1) hx hb dX12_crossTold_30 (by decide) ?_
      refine lv_icmp_ne (tgt := 104) hx hb dX12_crossTold_31 (by decide) (fun c_8 => ?_) (fun c_8 => ?_)
      · have c_8n : ¬ xt.toInt = (1 : Int) := fun q => c_8 ((fa_eq _ _).mpr q)
        have hpc := pCross_e (w := at_) hbq (hEq.symm.trans (pRoads_x (fun z9 => by first | (exact absurd z9.1 (by rw [← hA6A]; omega)) | omega)))
        have hf0i : (gr 0).toInt = (f_read 0).toInt := by rw [hf0]
        refine lv_aload_n hx hb dX12_crossTold_104 rfl (lv_at hl 1 rfl) ?_
        refine z_get C G clX12 0 rfl 10 (by decide) m_fl_RX12_17 rfl dX12_crossTold_105 ?_
        refine lv_iconst (v := 0) hx hb dX12_crossTold_108 (by decide) ?_
        refine z_ild C G 2 rfl (vp_in_nI (n := 0) (by decide) (by decide)) dX12_crossTold_109 ?_
        refine lv_topi (fun v_9 ev_9 => ?_)
        rw [show ((0 : Int32).toNatClampNeg) = 0 from rfl] at ev_9
        subst ev_9
        refine lv_bipush (v := 7) hx hb dX12_crossTold_110 (by decide) ?_
        refine lv_icmp_lt (tgt := 116) hx hb dX12_crossTold_112 (by decide) (fun c_10 => ?_) (fun c_10 => ?_)
        · have c_10n : (gr 0).toInt < (7 : Int) := (fa_lt _ _).mp c_10
          refine lv_aload_n hx hb dX12_crossTold_116 rfl (lv_at hl 1 rfl) ?_
          refine z_get C G clX12 0 rfl 10 (by decide) m_fl_RX12_17 rfl dX12_crossTold_117 ?_
          refine lv_iconst (v := 2) hx hb dX12_crossTold_120 (by decide) ?_
          refine lv_aload_n hx hb dX12_crossTold_121 rfl (lv_at hl 1 rfl) ?_
          refine z_get C G clX12 0 rfl 10 (by decide) m_fl_RX12_17 rfl dX12_crossTold_122 ?_
          refine lv_iconst (v := 0) hx hb dX12_crossTold_125 (by decide) ?_
          refine z_ild C G 2 rfl (vp_in_nI (n := 0) (by decide) (by decide)) dX12_crossTold_126 ?_
          refine lv_topi (fun v_11 ev_11 => ?_)
          rw [show ((0 : Int32).toNatClampNeg) = 0 from rfl] at ev_11
          subst ev_11
          refine lv_iadd hx hb dX12_crossTold_127 ?_
          refine lv_topi (fun y_12 ey_12 => ?_)
          have ey_12i : y_12.toInt = (2 : Int) + (gr 0).toInt := by rw [ey_12]; exact z_iaddI (x := (2 : Int32)) (y := (gr 0)) (by show -2147483648 ≤ (2 : Int) + (gr 0).toInt; omega) (by show (2 : Int) + (gr 0).toInt < 2147483648; omega)
          refine lv_iload_n hx hb dX12_crossTold_128 rfl (lv_at hl 0 rfl) ?_
          refine z_ist C G 2 rfl (vp_in_iff.mpr ⟨by omega, by omega⟩) dX12_crossTold_129 (fun H locs G => ?_)
          have G : zS T A s.heap s [[(mo, .inr (11, [.ref m_all, .ref m_has, .int i_size, .int xn, .int xw, .int xt, .int xu, .int xo, .int xr, .int xf, .ref m_read, .int i_z0, .int i_crossings, .int i_inns, .ref m_posts, .ref m_shut, .ref m_here, .int i_steps, .int i_done, .int i_at, .int i_gone, .ref m_was, .ref m_came, .ref m_seenAt, .ref m_rowWorth, .ref m_farBy, .ref m_used, .int i_everywhere, .int i_again0, .int i_d0, .int i_never, .int i_firstCame, .int i_longRun, .int i_moved, .int i_crowd, .int i_l0, .int i_fitMany, .int i_fitLeast, .int i_fitMost, .ref m_fitPost, .ref m_fitEnd, .ref m_keptPosts, .int i_x0]))], [(m_all, .inl (T.2 0, 3952, .inl ga))], [(m_read, .inl (T.2 0, 121, .inl (upd gr y_12.toNatClampNeg (nI nn))))]] _ _ := G
          refine lv_aload_n hx hb dX12_crossTold_130 rfl (lv_at hl 1 rfl) ?_
          refine z_get C G clX12 0 rfl 10 (by decide) m_fl_RX12_17 rfl dX12_crossTold_131 ?_
          refine lv_iconst (v := 0) hx hb dX12_crossTold_134 (by decide) ?_
          refine lv_dup2_11 hx hb dX12_crossTold_135 rfl rfl ?_
          refine z_ild C G 2 rfl (vp_in_nI (n := 0) (by decide) (by decide)) dX12_crossTold_136 ?_
          refine lv_topi (fun v_13 ev_13 => ?_)
          rw [show ((0 : Int32).toNatClampNeg) = 0 from rfl] at ev_13
          subst ev_13
          have hcl_y_12 := z_clI (x := y_12) (by omega)
          rw [show (upd gr y_12.toNatClampNeg (nI nn)) 0 = gr 0 from by unfold upd; rw [if_neg (by omega)]]
          refine lv_iconst (v := 1) hx hb dX12_crossTold_137 (by decide) ?_
          refine lv_iadd hx hb dX12_crossTold_138 ?_
          refine lv_topi (fun y_14 ey_14 => ?_)
          have ey_14i : y_14.toInt = (gr 0).toInt + (1 : Int) := by rw [ey_14]; exact z_iaddI (x := (gr 0)) (y := (1 : Int32)) (by show -2147483648 ≤ (gr 0).toInt + (1 : Int); omega) (by show (gr 0).toInt + (1 : Int) < 2147483648; omega)
          refine z_ist C G 2 rfl (vp_in_nI (n := 0) (by decide) (by decide)) dX12_crossTold_139 (fun H locs G => ?_)
          have G : zS T A s.heap s [[(mo, .inr (11, [.ref m_all, .ref m_has, .int i_size, .int xn, .int xw, .int xt, .int xu, .int xo, .int xr, .int xf, .ref m_read, .int i_z0, .int i_crossings, .int i_inns, .ref m_posts, .ref m_shut, .ref m_here, .int i_steps, .int i_done, .int i_at, .int i_gone, .ref m_was, .ref m_came, .ref m_seenAt, .ref m_rowWorth, .ref m_farBy, .ref m_used, .int i_everywhere, .int i_again0, .int i_d0, .int i_never, .int i_firstCame, .int i_longRun, .int i_moved, .int i_crowd, .int i_l0, .int i_fitMany, .int i_fitLeast, .int i_fitMost, .ref m_fitPost, .ref m_fitEnd, .ref m_keptPosts, .int i_x0]))], [(m_all, .inl (T.2 0, 3952, .inl ga))], [(m_read, .inl (T.2 0, 121, .inl (upd (upd gr y_12.toNatClampNeg (nI nn)) 0 y_14)))]] _ _ := G
          exact z_vret C hr hlocks G (Nat.le_of_ble_eq_true rfl) (Nat.le_of_ble_eq_true rfl) dX12_crossTold_140 ⟨xn, xw, xt, xu, xo, xr, xf, ga, (upd (upd gr y_12.toNatClampNeg (nI nn)) 0 y_14), rfl, (by first | with_reducible assumption | omega | trivial | assumption), (by first | with_reducible assumption | omega | trivial | assumption), (by first | with_reducible assumption | omega | trivial | assumption), hpal, (zLF_upd (k := 0) (v := y_14) (zLF_upd (k := y_12.toNatClampNeg) (v := (nI nn)) (by assumption) (by have q9 := z_clI (x := y_12) (by omega); have t9 := nI_toInt (n := nn) (by omega); omega) (by have q9 := z_clI (x := y_12) (by omega); have t9 := nI_toInt (n := nn) (by omega); omega) (by have q9 := z_clI (x := y_12) (by omega); have t9 := nI_toInt (n := nn) (by omega); omega) (by have q9 := z_clI (x := y_12) (by omega); have t9 := nI_toInt (n := nn) (by omega); omega) (by have q9 := z_clI (x := y_12) (by omega); have t9 := nI_toInt (n := nn) (by omega); omega)) (by omega) (by omega) (by omega) (by omega) (by omega)), (by rw [hpc]; exact hRA), (by rw [hpc]; show _ = (if 7 ≤ (f_read 0).toInt then gr else upd (upd gr (2 + (gr 0).toInt.toNat) (nI (min j 4))) 0 (gr 0 + 1)); rw [if_neg (by omega), ← hnn, ey_14]; exact congrArg (fun q9 => upd (upd gr q9 (nI nn)) 0 (gr 0 + 1)) (by have q9 := z_clI (x := y_12) (by omega); omega))⟩
        · have c_10n : ¬ (gr 0).toInt < (7 : Int) := fun q => c_10 ((fa_lt _ _).mpr q)
          exact z_vret C hr hlocks G (Nat.le_of_ble_eq_true rfl) (Nat.le_of_ble_eq_true rfl) dX12_crossTold_115 ⟨xn, xw, xt, xu, xo, xr, xf, ga, gr, rfl, (by first | with_reducible assumption | omega | trivial | assumption), (by first | with_reducible assumption | omega | trivial | assumption), (by first | with_reducible assumption | omega | trivial | assumption), hpal, (by first | with_reducible assumption | omega | trivial | assumption), (by rw [hpc]; exact hRA), (by rw [hpc]; exact (if_pos (by omega)).symm)⟩
      · have c_8n : xt.toInt = (1 : Int) := (fa_eq _ _).mp c_8
        have htA : pTk k A9.1 = 1 := by omega
        have hst := pStep (f := gr) (g := f_read) hokA hpn9 hwA htA hpj hf0
        refine zMt1 (T := T) 48 (fun (gc : Nat → Int32) => [[(mo, .inr (11, [.ref m_all, .ref m_has, .int i_size, .int xn, .int xw, .int xt, .int xu, .int xo, .int xr, .int xf, .ref m_read, .int i_z0, .int i_crossings, .int i_inns, .ref m_posts, .ref m_shut, .ref m_here, .int i_steps, .int i_done, .int i_at, .int i_gone, .ref m_was, .ref m_came, .ref m_seenAt, .ref m_rowWorth, .ref m_farBy, .ref m_used, .int i_everywhere, .int i_again0, .int i_d0, .int i_never, .int i_firstCame, .int i_longRun, .int i_moved, .int i_crowd, .int i_l0, .int i_fitMany, .int i_fitLeast, .int i_fitMost, .ref m_fitPost, .ref m_fitEnd, .ref m_keptPosts, .int i_x0]))], [(m_all, .inl (T.2 0, 3952, .inl gc))], [(m_read, .inl (T.2 0, 121, .inl gr))]]) (fun (gc : Nat → Int32) => [(2, .int (nI nn)), (0, .ref mo), (1, .int at_)]) (fun (gc : Nat → Int32) => zRr k n i_size xn xw xt xu xo xr xf gc (pAt k j A9) ∧ zPal f_all gc) G hl ?_ (fun jn_48 => ?_)
        · intro gc hI9 H locs ls G hl
          replace hI9 : zRr k n i_size xn xw xt xu xo xr xf gc (pAt k j A9) ∧ zPal f_all gc := hI9
          refine zAn2 hI9 ?_
          intro hX hpgc
          clear hI9
          replace G : zS T A s.heap s [[(mo, .inr (11, [.ref m_all, .ref m_has, .int i_size, .int xn, .int xw, .int xt, .int xu, .int xo, .int xr, .int xf, .ref m_read, .int i_z0, .int i_crossings, .int i_inns, .ref m_posts, .ref m_shut, .ref m_here, .int i_steps, .int i_done, .int i_at, .int i_gone, .ref m_was, .ref m_came, .ref m_seenAt, .ref m_rowWorth, .ref m_farBy, .ref m_used, .int i_everywhere, .int i_again0, .int i_d0, .int i_never, .int i_firstCame, .int i_longRun, .int i_moved, .int i_crowd, .int i_l0, .int i_fitMany, .int i_fitLeast, .int i_fitMost, .ref m_fitPost, .ref m_fitEnd, .ref m_keptPosts, .int i_x0]))], [(m_all, .inl (T.2 0, 3952, .inl gc))], [(m_read, .inl (T.2 0, 121, .inl gr))]] _ _ := G
          replace hl : lv_has ls 4 [(2, .int (nI nn)), (0, .ref mo), (1, .int at_)] := hl
          refine lv_aload_n hx hb dX12_crossTold_48 rfl (lv_at hl 1 rfl) ?_
          refine z_Vi (bc := [[(mo, .inr (11, [.ref m_all, .ref m_has, .int i_size, .int xn, .int xw, .int xt, .int xu, .int xo, .int xr, .int xf, .ref m_read, .int i_z0, .int i_crossings, .int i_inns, .ref m_posts, .ref m_shut, .ref m_here, .int i_steps, .int i_done, .int i_at, .int i_gone, .ref m_was, .ref m_came, .ref m_seenAt, .ref m_rowWorth, .ref m_farBy, .ref m_used, .int i_everywhere, .int i_again0, .int i_d0, .int i_never, .int i_firstCame, .int i_longRun, .int i_moved, .int i_crowd, .int i_l0, .int i_fitMany, .int i_fitLeast, .int i_fitMost, .ref m_fitPost, .ref m_fitEnd, .ref m_keptPosts, .int i_x0]))], [(m_all, .inl (T.2 0, 3952, .inl gc))]]) (br := [[(m_read, .inl (T.2 0, 121, .inl gr))]]) (As := []) (rest := []) C G (c_fm_crossingTold l T mo m_all m_has i_size xn xw xt xu xo xr xf m_read i_z0 i_crossings i_inns m_posts m_shut m_here i_steps i_done i_at i_gone m_was m_came m_seenAt m_rowWorth m_farBy m_used i_everywhere i_again0 i_d0 i_never i_firstCame i_longRun i_moved i_crowd i_l0 i_fitMany i_fitLeast i_fitMost m_fitPost m_fitEnd m_keptPosts i_x0 gc k n (pAt k j A9) (by first | with_reducible assumption | with_reducible rfl | omega | assumption | rfl) (by first | with_reducible assumption | with_reducible rfl | omega | assumption | rfl) (by first | with_reducible assumption | with_reducible rfl | omega | assumption | rfl) hX) (kV_RX12_129 C.2.2.2.2 (Nat.le_of_ble_eq_true rfl) (Nat.le_of_ble_eq_true rfl)) [0, 1] [2] rfl rfl (ci := 11) (qc := (RX12, TX12, 43)) rfl rfl (List.mem_flatten.mpr ⟨_, List.mem_of_getElem? (i := 0) rfl, List.mem_cons_self⟩) rfl rfl hl.1 dX12_crossTold_49 (Nat.le_of_ble_eq_true rfl) (Nat.le_of_ble_eq_true rfl) (fun r_32 b1 H locs hw G => ?_)
          refine zEx8 hw ?_
          intro j_next_15 j_where_16 j_token_17 j_number_18 j_word_19 j_wrong_20 j_farCrossing_21 g_all_22
          refine zCu10 ?_
          intro hbs9 h_23 h_24 h_25 h_26 h_27 h_28 h_29 h_30 h_31
          clear hw
          subst hbs9
          have G : zS T A s.heap s [[(m_read, .inl (T.2 0, 121, .inl gr))], [(mo, .inr (11, [.ref m_all, .ref m_has, .int i_size, .int j_next_15, .int j_where_16, .int j_token_17, .int j_number_18, .int j_word_19, .int j_wrong_20, .int j_farCrossing_21, .ref m_read, .int i_z0, .int i_crossings, .int i_inns, .ref m_posts, .ref m_shut, .ref m_here, .int i_steps, .int i_done, .int i_at, .int i_gone, .ref m_was, .ref m_came, .ref m_seenAt, .ref m_rowWorth, .ref m_farBy, .ref m_used, .int i_everywhere, .int i_again0, .int i_d0, .int i_never, .int i_firstCame, .int i_longRun, .int i_moved, .int i_crowd, .int i_l0, .int i_fitMany, .int i_fitLeast, .int i_fitMost, .ref m_fitPost, .ref m_fitEnd, .ref m_keptPosts, .int i_x0]))], [(m_all, .inl (T.2 0, 3952, .inl g_all_22))]] _ _ := G
          refine lv_istore_n (lv' := [(3, .int r_32), (2, .int (nI nn)), (0, .ref mo), (1, .int at_)]) hx hb dX12_crossTold_52 rfl hl (by decide) rfl (fun ls hl => ?_)
          refine zMt1 (T := T) 88 (fun (gx : Nat → Int32) => [[(m_read, .inl (T.2 0, 121, .inl gx))], [(mo, .inr (11, [.ref m_all, .ref m_has, .int i_size, .int j_next_15, .int j_where_16, .int j_token_17, .int j_number_18, .int j_word_19, .int j_wrong_20, .int j_farCrossing_21, .ref m_read, .int i_z0, .int i_crossings, .int i_inns, .ref m_posts, .ref m_shut, .ref m_here, .int i_steps, .int i_done, .int i_at, .int i_gone, .ref m_was, .ref m_came, .ref m_seenAt, .ref m_rowWorth, .ref m_farBy, .ref m_used, .int i_everywhere, .int i_again0, .int i_d0, .int i_never, .int i_firstCame, .int i_longRun, .int i_moved, .int i_crowd, .int i_l0, .int i_fitMany, .int i_fitLeast, .int i_fitMost, .ref m_fitPost, .ref m_fitEnd, .ref m_keptPosts, .int i_x0]))], [(m_all, .inl (T.2 0, 3952, .inl g_all_22))]]) (fun (gx : Nat → Int32) => [(3, .int r_32), (2, .int (nI nn)), (0, .ref mo), (1, .int at_)]) (fun (gx : Nat → Int32) => gx = pRow k j A9 gr ∧ zLF gx) G hl ?_ (fun jn_88 => ?_)
          · intro gx hI9 H locs ls G hl
            replace hI9 : gx = pRow k j A9 gr ∧ zLF gx := hI9
            refine zAn2 hI9 ?_
            intro hrow hLx
            clear hI9
            replace G : zS T A s.heap s [[(m_read, .inl (T.2 0, 121, .inl gx))], [(mo, .inr (11, [.ref m_all, .ref m_has, .int i_size, .int j_next_15, .int j_where_16, .int j_token_17, .int j_number_18, .int j_word_19, .int j_wrong_20, .int j_farCrossing_21, .ref m_read, .int i_z0, .int i_crossings, .int i_inns, .ref m_posts, .ref m_shut, .ref m_here, .int i_steps, .int i_done, .int i_at, .int i_gone, .ref m_was, .ref m_came, .ref m_seenAt, .ref m_rowWorth, .ref m_farBy, .ref m_used, .int i_everywhere, .int i_again0, .int i_d0, .int i_never, .int i_firstCame, .int i_longRun, .int i_moved, .int i_crowd, .int i_l0, .int i_fitMany, .int i_fitLeast, .int i_fitMost, .ref m_fitPost, .ref m_fitEnd, .ref m_keptPosts, .int i_x0]))], [(m_all, .inl (T.2 0, 3952, .inl g_all_22))]] _ _ := G
            replace hl : lv_has ls 4 [(3, .int r_32), (2, .int (nI nn)), (0, .ref mo), (1, .int at_)] := hl
            refine lv_iload_n hx hb dX12_crossTold_88 rfl (lv_at hl 1 rfl) ?_
            refine lv_iconst (v := 4) hx hb dX12_crossTold_89 (by decide) ?_
            refine lv_icmp_ge (tgt := 99) hx hb dX12_crossTold_90 (by decide) (fun c_33 => ?_) (fun c_33 => ?_)
            · have c_33n : 4 ≤ nn := (nI_leI (a := 4) (b := nn) (by omega) (by omega)).mp c_33
              refine lv_iconst (v := 4) hx hb dX12_crossTold_99 (by decide) ?_
              refine lv_istore_n (lv' := [(2, .int 4), (3, .int r_32), (0, .ref mo), (1, .int at_)]) hx hb dX12_crossTold_100 rfl hl (by decide) rfl (fun ls hl => ?_)
              refine lv_goto (tgt := 19) hx hb dX12_crossTold_101 (by decide) ?_
              have G := G.sub (bs' := [[(mo, .inr (11, [.ref m_all, .ref m_has, .int i_size, .int j_next_15, .int j_where_16, .int j_token_17, .int j_number_18, .int j_word_19, .int j_wrong_20, .int j_farCrossing_21, .ref m_read, .int i_z0, .int i_crossings, .int i_inns, .ref m_posts, .ref m_shut, .ref m_here, .int i_steps, .int i_done, .int i_at, .int i_gone, .ref m_was, .ref m_came, .ref m_seenAt, .ref m_rowWorth, .ref m_farBy, .ref m_used, .int i_everywhere, .int i_again0, .int i_d0, .int i_never, .int i_firstCame, .int i_longRun, .int i_moved, .int i_crowd, .int i_l0, .int i_fitMany, .int i_fitLeast, .int i_fitMost, .ref m_fitPost, .ref m_fitEnd, .ref m_keptPosts, .int i_x0]))], [(m_all, .inl (T.2 0, 3952, .inl g_all_22))], [(m_read, .inl (T.2 0, 121, .inl gx))]]) [1, 2, 0] rfl
              exact ih_19 j_next_15 j_where_16 j_token_17 j_number_18 j_word_19 j_wrong_20 j_farCrossing_21 g_all_22 gx 4 ((pCr k (pAt k j A9)).2) (j + 1) (show 4 ≤ 4 ∧ zLF gx ∧ i_next.toInt ≤ j_next_15.toInt ∧ j_next_15.toInt ≤ i_size.toInt ∧ zPal f_all g_all_22 ∧ zRr k n i_size j_next_15 j_where_16 j_token_17 j_number_18 j_word_19 j_wrong_20 j_farCrossing_21 g_all_22 ((pCr k (pAt k j A9)).2) ∧ 4 = min (j + 1) 4 ∧ (j + 1) ≤ ((pCr k (pAt k j A9)).2).1 ∧ pRoads k (601 - (j + 1)) (min (j + 1) 4) ((pCr k (pAt k j A9)).2) gx = pRoads k 601 0 b f_read ∧ gx 0 = f_read 0 from ⟨by omega, (by assumption), by omega, by omega, (hpgc.tr h_27), h_30, by omega, hst.2.1, (by rw [hrow]; exact pRoads_n (by omega) hwA htA hEq), (by rw [hrow]; exact hst.2.2)⟩) (show zMu j_wrong_20 j_token_17 j_next_15 i_size < zMu xr xt xn i_size from zMu_lt (by omega) (by omega) (by omega) (by omega)) _ _ ls G (lv_sub hl [0, 2, 3] rfl)
            · have c_33n : ¬ 4 ≤ nn := fun q => c_33 ((nI_leI (a := 4) (b := nn) (by omega) (by omega)).mpr q)
              refine lv_iload_n hx hb dX12_crossTold_93 rfl (lv_at hl 1 rfl) ?_
              refine lv_iconst (v := 1) hx hb dX12_crossTold_94 (by decide) ?_
              refine lv_iadd hx hb dX12_crossTold_95 ?_
              refine lv_topi (fun y_34 ey_34 => ?_)
              obtain rfl : y_34 = nI (nn + 1) := ey_34.trans (z_iaddn nn 1 rfl rfl)
              refine lv_goto (tgt := 100) hx hb dX12_crossTold_96 (by decide) ?_
              refine lv_istore_n (lv' := [(2, .int (nI (nn + 1))), (3, .int r_32), (0, .ref mo), (1, .int at_)]) hx hb dX12_crossTold_100 rfl hl (by decide) rfl (fun ls hl => ?_)
              refine lv_goto (tgt := 19) hx hb dX12_crossTold_101 (by decide) ?_
              have G := G.sub (bs' := [[(mo, .inr (11, [.ref m_all, .ref m_has, .int i_size, .int j_next_15, .int j_where_16, .int j_token_17, .int j_number_18, .int j_word_19, .int j_wrong_20, .int j_farCrossing_21, .ref m_read, .int i_z0, .int i_crossings, .int i_inns, .ref m_posts, .ref m_shut, .ref m_here, .int i_steps, .int i_done, .int i_at, .int i_gone, .ref m_was, .ref m_came, .ref m_seenAt, .ref m_rowWorth, .ref m_farBy, .ref m_used, .int i_everywhere, .int i_again0, .int i_d0, .int i_never, .int i_firstCame, .int i_longRun, .int i_moved, .int i_crowd, .int i_l0, .int i_fitMany, .int i_fitLeast, .int i_fitMost, .ref m_fitPost, .ref m_fitEnd, .ref m_keptPosts, .int i_x0]))], [(m_all, .inl (T.2 0, 3952, .inl g_all_22))], [(m_read, .inl (T.2 0, 121, .inl gx))]]) [1, 2, 0] rfl
              exact ih_19 j_next_15 j_where_16 j_token_17 j_number_18 j_word_19 j_wrong_20 j_farCrossing_21 g_all_22 gx (nn + 1) ((pCr k (pAt k j A9)).2) (j + 1) (show (nn + 1) ≤ 4 ∧ zLF gx ∧ i_next.toInt ≤ j_next_15.toInt ∧ j_next_15.toInt ≤ i_size.toInt ∧ zPal f_all g_all_22 ∧ zRr k n i_size j_next_15 j_where_16 j_token_17 j_number_18 j_word_19 j_wrong_20 j_farCrossing_21 g_all_22 ((pCr k (pAt k j A9)).2) ∧ (nn + 1) = min (j + 1) 4 ∧ (j + 1) ≤ ((pCr k (pAt k j A9)).2).1 ∧ pRoads k (601 - (j + 1)) (min (j + 1) 4) ((pCr k (pAt k j A9)).2) gx = pRoads k 601 0 b f_read ∧ gx 0 = f_read 0 from ⟨by omega, (by assumption), by omega, by omega, (hpgc.tr h_27), h_30, by omega, hst.2.1, (by rw [hrow]; exact pRoads_n (by omega) hwA htA hEq), (by rw [hrow]; exact hst.2.2)⟩) (show zMu j_wrong_20 j_token_17 j_next_15 i_size < zMu xr xt xn i_size from zMu_lt (by omega) (by omega) (by omega) (by omega)) _ _ ls G (lv_sub hl [0, 2, 3] rfl)
          refine lv_aload_n hx hb dX12_crossTold_53 rfl (lv_at hl 2 rfl) ?_
          refine z_get C G clX12 1 rfl 10 (by decide) m_fl_RX12_17 rfl dX12_crossTold_54 ?_
          refine lv_iconst (v := 0) hx hb dX12_crossTold_57 (by decide) ?_
          refine z_ild C G 0 rfl (vp_in_nI (n := 0) (by decide) (by decide)) dX12_crossTold_58 ?_
          refine lv_topi (fun v_35 ev_35 => ?_)
          rw [show ((0 : Int32).toNatClampNeg) = 0 from rfl] at ev_35
          subst ev_35
          refine lv_bipush (v := 7) hx hb dX12_crossTold_59 (by decide) ?_
          refine lv_icmp_ge (tgt := 88) hx hb dX12_crossTold_61 (by decide) (fun c_36 => ?_) (fun c_36 => ?_)
          · have c_36n : (7 : Int) ≤ (gr 0).toInt := (fa_le _ _).mp c_36
            have hrow : gr = pRow k j A9 gr := pRow_n (by omega)
            exact jn_88 gr (show gr = pRow k j A9 gr ∧ zLF gr from ⟨hrow, (by assumption)⟩) _ _ ls G (lv_sub hl [0, 1, 2, 3] rfl)
          · have c_36n : ¬ (7 : Int) ≤ (gr 0).toInt := fun q => c_36 ((fa_le _ _).mpr q)
            refine lv_iload_n hx hb dX12_crossTold_64 rfl (lv_at hl 1 rfl) ?_
            refine lv_iconst (v := 4) hx hb dX12_crossTold_65 (by decide) ?_
            refine lv_icmp_ge (tgt := 88) hx hb dX12_crossTold_66 (by decide) (fun c_37 => ?_) (fun c_37 => ?_)
            · have c_37n : 4 ≤ nn := (nI_leI (a := 4) (b := nn) (by omega) (by omega)).mp c_37
              have hrow : gr = pRow k j A9 gr := pRow_n (by omega)
              exact jn_88 gr (show gr = pRow k j A9 gr ∧ zLF gr from ⟨hrow, (by assumption)⟩) _ _ ls G (lv_sub hl [0, 1, 2, 3] rfl)
            · have c_37n : ¬ 4 ≤ nn := fun q => c_37 ((nI_leI (a := 4) (b := nn) (by omega) (by omega)).mpr q)
              refine lv_aload_n hx hb dX12_crossTold_69 rfl (lv_at hl 2 rfl) ?_
              refine z_get C G clX12 1 rfl 10 (by decide) m_fl_RX12_17 rfl dX12_crossTold_70 ?_
              refine lv_bipush (v := 23) hx hb dX12_crossTold_73 (by decide) ?_
              refine lv_iconst (v := 4) hx hb dX12_crossTold_75 (by decide) ?_
              refine lv_aload_n hx hb dX12_crossTold_76 rfl (lv_at hl 2 rfl) ?_
              refine z_get C G clX12 1 rfl 10 (by decide) m_fl_RX12_17 rfl dX12_crossTold_77 ?_
              refine lv_iconst (v := 0) hx hb dX12_crossTold_80 (by decide) ?_
              refine z_ild C G 0 rfl (vp_in_nI (n := 0) (by decide) (by decide)) dX12_crossTold_81 ?_
              refine lv_topi (fun v_38 ev_38 => ?_)
              rw [show ((0 : Int32).toNatClampNeg) = 0 from rfl] at ev_38
              subst ev_38
              refine lv_imul hx hb dX12_crossTold_82 ?_
              refine lv_topi (fun y_39 ey_39 => ?_)
              have ey_39i : y_39.toInt = (4 : Int) * (gr 0).toInt := by rw [ey_39]; exact z_imulI (x := (4 : Int32)) (y := (gr 0)) (by show -2147483648 ≤ (4 : Int) * (gr 0).toInt; omega) (by show (4 : Int) * (gr 0).toInt < 2147483648; omega)
              refine lv_iadd hx hb dX12_crossTold_83 ?_
              refine lv_topi (fun y_40 ey_40 => ?_)
              have ey_40i : y_40.toInt = (23 : Int) + y_39.toInt := by rw [ey_40]; exact z_iaddI (x := (23 : Int32)) (y := y_39) (by show -2147483648 ≤ (23 : Int) + y_39.toInt; omega) (by show (23 : Int) + y_39.toInt < 2147483648; omega)
              refine lv_iload_n hx hb dX12_crossTold_84 rfl (lv_at hl 1 rfl) ?_
              refine lv_iadd hx hb dX12_crossTold_85 ?_
              refine lv_topi (fun y_41 ey_41 => ?_)
              have ey_41i : y_41.toInt = y_40.toInt + (nn : Int) := by rw [ey_41]; exact (z_iaddI (x := y_40) (y := (nI nn)) (by rw [nI_toInt (n := nn) (by omega)]; show -2147483648 ≤ y_40.toInt + (nn : Int); omega) (by rw [nI_toInt (n := nn) (by omega)]; show y_40.toInt + (nn : Int) < 2147483648; omega)).trans (by rw [nI_toInt (n := nn) (by omega)] <;> rfl)
              refine lv_iload_n hx hb dX12_crossTold_86 rfl (lv_at hl 0 rfl) ?_
              refine z_ist C G 0 rfl (vp_in_iff.mpr ⟨by omega, by omega⟩) dX12_crossTold_87 (fun H locs G => ?_)
              have G : zS T A s.heap s [[(m_read, .inl (T.2 0, 121, .inl (upd gr y_41.toNatClampNeg r_32)))], [(mo, .inr (11, [.ref m_all, .ref m_has, .int i_size, .int j_next_15, .int j_where_16, .int j_token_17, .int j_number_18, .int j_word_19, .int j_wrong_20, .int j_farCrossing_21, .ref m_read, .int i_z0, .int i_crossings, .int i_inns, .ref m_posts, .ref m_shut, .ref m_here, .int i_steps, .int i_done, .int i_at, .int i_gone, .ref m_was, .ref m_came, .ref m_seenAt, .ref m_rowWorth, .ref m_farBy, .ref m_used, .int i_everywhere, .int i_again0, .int i_d0, .int i_never, .int i_firstCame, .int i_longRun, .int i_moved, .int i_crowd, .int i_l0, .int i_fitMany, .int i_fitLeast, .int i_fitMost, .ref m_fitPost, .ref m_fitEnd, .ref m_keptPosts, .int i_x0]))], [(m_all, .inl (T.2 0, 3952, .inl g_all_22))]] _ _ := G
              have hcl9 := z_clI (x := y_41) (by omega)
              have hrow : upd gr y_41.toNatClampNeg r_32 = pRow k j A9 gr := pRow_y (by omega) (by omega) (by omega) h_31
              exact jn_88 (upd gr y_41.toNatClampNeg r_32) (show (upd gr y_41.toNatClampNeg r_32) = pRow k j A9 gr ∧ zLF (upd gr y_41.toNatClampNeg r_32) from ⟨hrow, (zLF_upd (k := y_41.toNatClampNeg) (v := r_32) (by assumption) (by have q9 := z_clI (x := y_41) (by omega); omega) (by have q9 := z_clI (x := y_41) (by omega); omega) (by have q9 := z_clI (x := y_41) (by omega); omega) (by have q9 := z_clI (x := y_41) (by omega); omega) (by have q9 := z_clI (x := y_41) (by omega); omega))⟩) _ _ ls G (lv_sub hl [0, 1, 2, 3] rfl)
        refine lv_iload_n hx hb dX12_crossTold_34 rfl (lv_at hl 0 rfl) ?_
        refine lv_iconst (v := 4) hx hb dX12_crossTold_35 (by decide) ?_
        refine lv_icmp_ne (tgt := 48) hx hb dX12_crossTold_36 (by decide) (fun c_42 => ?_) (fun c_42 => ?_)
        · have c_42n : ¬ nn = 4 := fun q => c_42 ((nI_eq (a := nn) (b := 4) (by omega) (by omega)).mpr q)
          have hX : zRr k n i_size xn xw xt xu xo xr xf ga (pAt k j A9) := by rw [pAt_n (by omega)]; exact hRA
          exact jn_48 ga (show zRr k n i_size xn xw xt xu xo xr xf ga (pAt k j A9) ∧ zPal f_all ga from ⟨hX, hpal⟩) _ _ ls G (lv_sub hl [0, 1, 2] rfl)
        · have c_42n : nn = 4 := (nI_eq (a := nn) (b := 4) (by omega) (by omega)).mp c_42
          refine lv_aload_n hx hb dX12_crossTold_39 rfl (lv_at hl 1 rfl) ?_
          refine lv_iconst (v := 3) hx hb dX12_crossTold_40 (by decide) ?_
          refine lv_aload_n hx hb dX12_crossTold_41 rfl (lv_at hl 1 rfl) ?_
          refine z_get C G clX12 0 rfl 4 (by decide) m_fl_RX12_77 rfl dX12_crossTold_42 ?_
          refine z_Vv (bc := [[(mo, .inr (11, [.ref m_all, .ref m_has, .int i_size, .int xn, .int xw, .int xt, .int xu, .int xo, .int xr, .int xf, .ref m_read, .int i_z0, .int i_crossings, .int i_inns, .ref m_posts, .ref m_shut, .ref m_here, .int i_steps, .int i_done, .int i_at, .int i_gone, .ref m_was, .ref m_came, .ref m_seenAt, .ref m_rowWorth, .ref m_farBy, .ref m_used, .int i_everywhere, .int i_again0, .int i_d0, .int i_never, .int i_firstCame, .int i_longRun, .int i_moved, .int i_crowd, .int i_l0, .int i_fitMany, .int i_fitLeast, .int i_fitMost, .ref m_fitPost, .ref m_fitEnd, .ref m_keptPosts, .int i_x0]))], [(m_all, .inl (T.2 0, 3952, .inl ga))]]) (br := [[(m_read, .inl (T.2 0, 121, .inl gr))]]) (As := [.int 3, .int xw]) (rest := []) C G (c_fm_also l T mo m_all m_has i_size xn xw xt xu xo xr xf m_read i_z0 i_crossings i_inns m_posts m_shut m_here i_steps i_done i_at i_gone m_was m_came m_seenAt m_rowWorth m_farBy m_used i_everywhere i_again0 i_d0 i_never i_firstCame i_longRun i_moved i_crowd i_l0 i_fitMany i_fitLeast i_fitMost m_fitPost m_fitEnd m_keptPosts i_x0 ga 3 xw) (kV_RX12_115 C.2.2.2.2 (Nat.le_of_ble_eq_true rfl) (Nat.le_of_ble_eq_true rfl)) [0, 1] [2] rfl rfl (ci := 11) (qc := (RX12, TX12, 43)) rfl rfl (List.mem_flatten.mpr ⟨_, List.mem_of_getElem? (i := 0) rfl, List.mem_cons_self⟩) rfl rfl hl.1 dX12_crossTold_45 (Nat.le_of_ble_eq_true rfl) (Nat.le_of_ble_eq_true rfl) (fun b1 H locs hw G => ?_)
          refine zEx1 hw ?_
          intro g_all_43
          refine zCu3 ?_
          intro hbs9 h_44 h_45
          clear hw
          subst hbs9
          have G : zS T A s.heap s [[(m_read, .inl (T.2 0, 121, .inl gr))], [(mo, .inr (11, [.ref m_all, .ref m_has, .int i_size, .int xn, .int xw, .int xt, .int xu, .int xo, .int xr, .int xf, .ref m_read, .int i_z0, .int i_crossings, .int i_inns, .ref m_posts, .ref m_shut, .ref m_here, .int i_steps, .int i_done, .int i_at, .int i_gone, .ref m_was, .ref m_came, .ref m_seenAt, .ref m_rowWorth, .ref m_farBy, .ref m_used, .int i_everywhere, .int i_again0, .int i_d0, .int i_never, .int i_firstCame, .int i_longRun, .int i_moved, .int i_crowd, .int i_l0, .int i_fitMany, .int i_fitLeast, .int i_fitMost, .ref m_fitPost, .ref m_fitEnd, .ref m_keptPosts, .int i_x0]))], [(m_all, .inl (T.2 0, 3952, .inl g_all_43))]] _ _ := G
          have h_45 : g_all_43 = (if ¬ xr.toInt = 0 ∨ (¬ (ga 5).toInt = 0 ∧ ((ga 6).toInt < xw.toInt ∨ ((ga 6).toInt = xw.toInt ∧ (ga 5).toInt ≤ (3 : Int)))) then ga else upd (upd ga 5 3) 6 xw) := h_45
          have hX : zRr k n i_size xn xw xt xu xo xr xf g_all_43 (pAt k j A9) := by rw [pAt_y (by omega), ← t2A]; exact zRr_also (kd := 3) (w := xw) hRA h_45
          have G := G.sub (bs' := [[(mo, .inr (11, [.ref m_all, .ref m_has, .int i_size, .int xn, .int xw, .int xt, .int xu, .int xo, .int xr, .int xf, .ref m_read, .int i_z0, .int i_crossings, .int i_inns, .ref m_posts, .ref m_shut, .ref m_here, .int i_steps, .int i_done, .int i_at, .int i_gone, .ref m_was, .ref m_came, .ref m_seenAt, .ref m_rowWorth, .ref m_farBy, .ref m_used, .int i_everywhere, .int i_again0, .int i_d0, .int i_never, .int i_firstCame, .int i_longRun, .int i_moved, .int i_crowd, .int i_l0, .int i_fitMany, .int i_fitLeast, .int i_fitMost, .ref m_fitPost, .ref m_fitEnd, .ref m_keptPosts, .int i_x0]))], [(m_all, .inl (T.2 0, 3952, .inl g_all_43))], [(m_read, .inl (T.2 0, 121, .inl gr))]]) [1, 2, 0] rfl
          exact jn_48 g_all_43 (show zRr k n i_size xn xw xt xu xo xr xf g_all_43 (pAt k j A9) ∧ zPal f_all g_all_43 from ⟨hX, (hpal.tr h_44)⟩) _ _ ls G (lv_sub hl [0, 1, 2] rfl)
  refine lv_aload_n hx hb dX12_crossTold_0 rfl (lv_at hl 0 rfl) ?_
  refine z_get C G clX12 0 rfl 10 (by decide) m_fl_RX12_17 rfl dX12_crossTold_1 ?_
  refine lv_iconst (v := 0) hx hb dX12_crossTold_4 (by decide) ?_
  refine z_ild C G 2 rfl (vp_in_nI (n := 0) (by decide) (by decide)) dX12_crossTold_5 ?_
  refine lv_topi (fun v_47 ev_47 => ?_)
  rw [show ((0 : Int32).toNatClampNeg) = 0 from rfl] at ev_47
  subst ev_47
  refine lv_bipush (v := 7) hx hb dX12_crossTold_6 (by decide) ?_
  refine lv_icmp_lt (tgt := 17) hx hb dX12_crossTold_8 (by decide) (fun c_48 => ?_) (fun c_48 => ?_)
  · have c_48n : (f_read 0).toInt < (7 : Int) := (fa_lt _ _).mp c_48
    obtain ⟨b, hbq⟩ : ∃ b, b = pDB 7 at_ f_read a := ⟨_, rfl⟩
    have hAb : zRr k n i_size i_next i_where i_token i_number i_word i_wrong i_farCrossing f_all b := by rw [hbq]; unfold pDB; rw [if_neg (by omega)]; exact hA
    exact jn_17 f_all b (show b = pDB 7 at_ f_read a ∧ zRr k n i_size i_next i_where i_token i_number i_word i_wrong i_farCrossing f_all b ∧ zPal f_all f_all from ⟨hbq, hAb, (zPal_rf _)⟩) _ _ ls G (lv_sub hl [0, 1] rfl)
  · have c_48n : ¬ (f_read 0).toInt < (7 : Int) := fun q => c_48 ((fa_lt _ _).mpr q)
    refine lv_aload_n hx hb dX12_crossTold_11 rfl (lv_at hl 0 rfl) ?_
    refine lv_iconst (v := 3) hx hb dX12_crossTold_12 (by decide) ?_
    refine lv_iload_n hx hb dX12_crossTold_13 rfl (lv_at hl 1 rfl) ?_
    refine z_Vv (bc := [[(mo, .inr (11, [.ref m_all, .ref m_has, .int i_size, .int i_next, .int i_where, .int i_token, .int i_number, .int i_word, .int i_wrong, .int i_farCrossing, .ref m_read, .int i_z0, .int i_crossings, .int i_inns, .ref m_posts, .ref m_shut, .ref m_here, .int i_steps, .int i_done, .int i_at, .int i_gone, .ref m_was, .ref m_came, .ref m_seenAt, .ref m_rowWorth, .ref m_farBy, .ref m_used, .int i_everywhere, .int i_again0, .int i_d0, .int i_never, .int i_firstCame, .int i_longRun, .int i_moved, .int i_crowd, .int i_l0, .int i_fitMany, .int i_fitLeast, .int i_fitMost, .ref m_fitPost, .ref m_fitEnd, .ref m_keptPosts, .int i_x0]))], [(m_all, .inl (T.2 0, 3952, .inl f_all))]]) (br := [[(m_read, .inl (T.2 0, 121, .inl f_read))]]) (As := [.int 3, .int at_]) (rest := []) C G (c_fm_also l T mo m_all m_has i_size i_next i_where i_token i_number i_word i_wrong i_farCrossing m_read i_z0 i_crossings i_inns m_posts m_shut m_here i_steps i_done i_at i_gone m_was m_came m_seenAt m_rowWorth m_farBy m_used i_everywhere i_again0 i_d0 i_never i_firstCame i_longRun i_moved i_crowd i_l0 i_fitMany i_fitLeast i_fitMost m_fitPost m_fitEnd m_keptPosts i_x0 f_all 3 at_) (kV_RX12_115 C.2.2.2.2 (Nat.le_of_ble_eq_true rfl) (Nat.le_of_ble_eq_true rfl)) [0, 1] [2] rfl rfl (ci := 11) (qc := (RX12, TX12, 43)) rfl rfl (List.mem_flatten.mpr ⟨_, List.mem_of_getElem? (i := 0) rfl, List.mem_cons_self⟩) rfl rfl hl.1 dX12_crossTold_14 (Nat.le_of_ble_eq_true rfl) (Nat.le_of_ble_eq_true rfl) (fun b1 H locs hw G => ?_)
    refine zEx1 hw ?_
    intro g_all_49
    refine zCu3 ?_
    intro hbs9 h_50 h_51
    clear hw
    subst hbs9
    have G : zS T A s.heap s [[(m_read, .inl (T.2 0, 121, .inl f_read))], [(mo, .inr (11, [.ref m_all, .ref m_has, .int i_size, .int i_next, .int i_where, .int i_token, .int i_number, .int i_word, .int i_wrong, .int i_farCrossing, .ref m_read, .int i_z0, .int i_crossings, .int i_inns, .ref m_posts, .ref m_shut, .ref m_here, .int i_steps, .int i_done, .int i_at, .int i_gone, .ref m_was, .ref m_came, .ref m_seenAt, .ref m_rowWorth, .ref m_farBy, .ref m_used, .int i_everywhere, .int i_again0, .int i_d0, .int i_never, .int i_firstCame, .int i_longRun, .int i_moved, .int i_crowd, .int i_l0, .int i_fitMany, .int i_fitLeast, .int i_fitMost, .ref m_fitPost, .ref m_fitEnd, .ref m_keptPosts, .int i_x0]))], [(m_all, .inl (T.2 0, 3952, .inl g_all_49))]] _ _ := G
    have h_51 : g_all_49 = (if ¬ i_wrong.toInt = 0 ∨ (¬ (f_all 5).toInt = 0 ∧ ((f_all 6).toInt < at_.toInt ∨ ((f_all 6).toInt = at_.toInt ∧ (f_all 5).toInt ≤ (3 : Int)))) then f_all else upd (upd f_all 5 3) 6 at_) := h_51
    obtain ⟨b, hbq⟩ : ∃ b, b = pDB 7 at_ f_read a := ⟨_, rfl⟩
    have hAb : zRr k n i_size i_next i_where i_token i_number i_word i_wrong i_farCrossing g_all_49 b := by rw [hbq]; unfold pDB; rw [if_pos (by omega)]; exact zRr_also (kd := 3) (w := at_) hA h_51
    have G := G.sub (bs' := [[(mo, .inr (11, [.ref m_all, .ref m_has, .int i_size, .int i_next, .int i_where, .int i_token, .int i_number, .int i_word, .int i_wrong, .int i_farCrossing, .ref m_read, .int i_z0, .int i_crossings, .int i_inns, .ref m_posts, .ref m_shut, .ref m_here, .int i_steps, .int i_done, .int i_at, .int i_gone, .ref m_was, .ref m_came, .ref m_seenAt, .ref m_rowWorth, .ref m_farBy, .ref m_used, .int i_everywhere, .int i_again0, .int i_d0, .int i_never, .int i_firstCame, .int i_longRun, .int i_moved, .int i_crowd, .int i_l0, .int i_fitMany, .int i_fitLeast, .int i_fitMost, .ref m_fitPost, .ref m_fitEnd, .ref m_keptPosts, .int i_x0]))], [(m_all, .inl (T.2 0, 3952, .inl g_all_49))], [(m_read, .inl (T.2 0, 121, .inl f_read))]]) [1, 2, 0] rfl
    exact jn_17 g_all_49 b (show b = pDB 7 at_ f_read a ∧ zRr k n i_size i_next i_where i_token i_number i_word i_wrong i_farCrossing g_all_49 b ∧ zPal f_all g_all_49 from ⟨hbq, hAb, h_50⟩) _ _ ls G (lv_sub hl [0, 1] rfl)
set_option maxHeartbeats 4000000 in
set_option maxRecDepth 100000 in
/-- c_fm_landLine -/
theorem c_fm_landLine (l : Launch) (T : zTy) (mo : Nat) (m_all : Nat) (m_has : Nat) (i_size : Int32) (i_next : Int32) (i_where : Int32) (i_token : Int32) (i_number : Int32) (i_word : Int32) (i_wrong : Int32) (i_farCrossing : Int32) (m_read : Nat) (i_z0 : Int32) (i_crossings : Int32) (i_inns : Int32) (m_posts : Nat) (m_shut : Nat) (m_here : Nat) (i_steps : Int32) (i_done : Int32) (i_at : Int32) (i_gone : Int32) (m_was : Nat) (m_came : Nat) (m_seenAt : Nat) (m_rowWorth : Nat) (m_farBy : Nat) (m_used : Nat) (i_everywhere : Int32) (i_again0 : Int32) (i_d0 : Int32) (i_never : Int32) (i_firstCame : Int32) (i_longRun : Int32) (i_moved : Int32) (i_crowd : Int32) (i_l0 : Int32) (i_fitMany : Int32) (i_fitLeast : Int32) (i_fitMost : Int32) (m_fitPost : Nat) (m_fitEnd : Nat) (m_keptPosts : Nat) (i_x0 : Int32) (f_all : Nat → Int32) (f_read : Nat → Int32) (k : pT) (n : Nat) (a : pS) (hsz : i_size.toInt ≤ 600) (hn0 : 0 ≤ i_next.toInt) (hns : i_next.toInt ≤ i_size.toInt) (hR : zLF f_read) (hA : zRr k n i_size i_next i_where i_token i_number i_word i_wrong i_farCrossing f_all a) (hw : a.2.1.toInt = 0) : zMv l T yX12_landLine cX12_landLine 4 8 0 0 [.ref mo] [[(mo, .inr (11, [.ref m_all, .ref m_has, .int i_size, .int i_next, .int i_where, .int i_token, .int i_number, .int i_word, .int i_wrong, .int i_farCrossing, .ref m_read, .int i_z0, .int i_crossings, .int i_inns, .ref m_posts, .ref m_shut, .ref m_here, .int i_steps, .int i_done, .int i_at, .int i_gone, .ref m_was, .ref m_came, .ref m_seenAt, .ref m_rowWorth, .ref m_farBy, .ref m_used, .int i_everywhere, .int i_again0, .int i_d0, .int i_never, .int i_firstCame, .int i_longRun, .int i_moved, .int i_crowd, .int i_l0, .int i_fitMany, .int i_fitLeast, .int i_fitMost, .ref m_fitPost, .ref m_fitEnd, .ref m_keptPosts, .int i_x0]))], [(m_all, .inl (T.2 0, 3952, .inl f_all))], [(m_read, .inl (T.2 0, 121, .inl f_read))]] (fun bs => ∃ (j_next : Int32) (j_where : Int32) (j_token : Int32) (j_number : Int32) (j_word : Int32) (j_wrong : Int32) (j_farCrossing : Int32) (g_all : Nat → Int32) (g_read : Nat → Int32), bs = [[(mo, .inr (11, [.ref m_all, .ref m_has, .int i_size, .int j_next, .int j_where, .int j_token, .int j_number, .int j_word, .int j_wrong, .int j_farCrossing, .ref m_read, .int i_z0, .int i_crossings, .int i_inns, .ref m_posts, .ref m_shut, .ref m_here, .int i_steps, .int i_done, .int i_at, .int i_gone, .ref m_was, .ref m_came, .ref m_seenAt, .ref m_rowWorth, .ref m_farBy, .ref m_used, .int i_everywhere, .int i_again0, .int i_d0, .int i_never, .int i_firstCame, .int i_longRun, .int i_moved, .int i_crowd, .int i_l0, .int i_fitMany, .int i_fitLeast, .int i_fitMost, .ref m_fitPost, .ref m_fitEnd, .ref m_keptPosts, .int i_x0]))], [(m_all, .inl (T.2 0, 3952, .inl g_all))], [(m_read, .inl (T.2 0, 121, .inl g_read))]] ∧ 0 ≤ j_next.toInt ∧ j_next.toInt ≤ i_size.toInt ∧ i_next.toInt ≤ j_next.toInt ∧ (¬ j_wrong.toInt = 0 ∨ i_next.toInt < j_next.toInt ∨ j_token.toInt = 0) ∧ zPal f_all g_all ∧ zLF g_read ∧ zRr k n i_size j_next j_where j_token j_number j_word j_wrong j_farCrossing g_all (pLand k a f_read).1 ∧ g_read = (pLand k a f_read).2) := by
  refine zMv_of (own := RX12) (by decide) rfl (Nat.le_of_ble_eq_true rfl) ?_
  intro p e s m args below meth c A ls C hr hlocks hnm hAe G hl
  have hx := C.1
  have hb := C.2.1
  have hl : lv_has ls 4 [(0, .ref mo)] := hl
  have hok := zRr_ok hA
  refine zAn6 (id hA) ?_
  intro hA1 hA6 hA7 hA8 hA9 hA10
  replace hA7 : zHd _ := hA7
  have hka : zHd _ := hok a.1 hA1.2.2.2.2
  have hkb := hka.1
  have hkc := hka.2.1
  have hT4 := pTk_le hok hA1.2.2.2.2
  refine zAn5 (hA7 hw) ?_
  intro t1 t2 t3 t4 t5
  replace t4 : zHd _ := t4
  replace t5 : zHd _ := t5
  have t3i : i_token.toInt = (pTk k a.1 : Int) := by rw [t3]; exact nI_toInt (by omega)
  refine lv_aload_n hx hb dX12_landLine_0 rfl (lv_at hl 0 rfl) ?_
  refine z_get C G clX12 0 rfl 4 (by decide) m_fl_RX12_77 rfl dX12_landLine_1 ?_
  refine lv_istore_n (lv' := [(1, .int i_where), (0, .ref mo)]) hx hb dX12_landLine_4 rfl hl (by decide) rfl (fun ls hl => ?_)
  refine lv_aload_n hx hb dX12_landLine_5 rfl (lv_at hl 1 rfl) ?_
  refine lv_iconst (v := 1) hx hb dX12_landLine_6 (by decide) ?_
  refine lv_iconst (v := 4) hx hb dX12_landLine_7 (by decide) ?_
  refine z_Vi (bc := [[(mo, .inr (11, [.ref m_all, .ref m_has, .int i_size, .int i_next, .int i_where, .int i_token, .int i_number, .int i_word, .int i_wrong, .int i_farCrossing, .ref m_read, .int i_z0, .int i_crossings, .int i_inns, .ref m_posts, .ref m_shut, .ref m_here, .int i_steps, .int i_done, .int i_at, .int i_gone, .ref m_was, .ref m_came, .ref m_seenAt, .ref m_rowWorth, .ref m_farBy, .ref m_used, .int i_everywhere, .int i_again0, .int i_d0, .int i_never, .int i_firstCame, .int i_longRun, .int i_moved, .int i_crowd, .int i_l0, .int i_fitMany, .int i_fitLeast, .int i_fitMost, .ref m_fitPost, .ref m_fitEnd, .ref m_keptPosts, .int i_x0]))], [(m_all, .inl (T.2 0, 3952, .inl f_all))]]) (br := [[(m_read, .inl (T.2 0, 121, .inl f_read))]]) (As := [.int 1, .int 4]) (rest := []) C G (c_fm_wordIn l T mo m_all m_has i_size i_next i_where i_token i_number i_word i_wrong i_farCrossing m_read i_z0 i_crossings i_inns m_posts m_shut m_here i_steps i_done i_at i_gone m_was m_came m_seenAt m_rowWorth m_farBy m_used i_everywhere i_again0 i_d0 i_never i_firstCame i_longRun i_moved i_crowd i_l0 i_fitMany i_fitLeast i_fitMost m_fitPost m_fitEnd m_keptPosts i_x0 f_all k n a 1 4 1 4 (by first | with_reducible assumption | with_reducible rfl | omega | assumption | rfl) (by first | with_reducible assumption | with_reducible rfl | omega | assumption | rfl) (by first | with_reducible assumption | with_reducible rfl | omega | assumption | rfl) hA rfl rfl) (kV_RX12_133 C.2.2.2.2 (Nat.le_of_ble_eq_true rfl) (Nat.le_of_ble_eq_true rfl)) [0, 1] [2] rfl rfl (ci := 11) (qc := (RX12, TX12, 43)) rfl rfl (List.mem_flatten.mpr ⟨_, List.mem_of_getElem? (i := 0) rfl, List.mem_cons_self⟩) rfl rfl hl.1 dX12_landLine_8 (Nat.le_of_ble_eq_true rfl) (Nat.le_of_ble_eq_true rfl) (fun r_16 b1 H locs hw G => ?_)
  refine zEx7 hw ?_
  intro j_next_1 j_where_2 j_token_3 j_number_4 j_word_5 j_wrong_6 g_all_7
  refine zCu9 ?_
  intro hbs9 h_8 h_9 h_10 h_11 h_12 h_13 h_14 h_15
  clear hw
  subst hbs9
  have G : zS T A s.heap s [[(m_read, .inl (T.2 0, 121, .inl f_read))], [(mo, .inr (11, [.ref m_all, .ref m_has, .int i_size, .int j_next_1, .int j_where_2, .int j_token_3, .int j_number_4, .int j_word_5, .int j_wrong_6, .int i_farCrossing, .ref m_read, .int i_z0, .int i_crossings, .int i_inns, .ref m_posts, .ref m_shut, .ref m_here, .int i_steps, .int i_done, .int i_at, .int i_gone, .ref m_was, .ref m_came, .ref m_seenAt, .ref m_rowWorth, .ref m_farBy, .ref m_used, .int i_everywhere, .int i_again0, .int i_d0, .int i_never, .int i_firstCame, .int i_longRun, .int i_moved, .int i_crowd, .int i_l0, .int i_fitMany, .int i_fitLeast, .int i_fitMost, .ref m_fitPost, .ref m_fitEnd, .ref m_keptPosts, .int i_x0]))], [(m_all, .inl (T.2 0, 3952, .inl g_all_7))]] _ _ := G
  have h_13 : (r_16.toInt = 0 ∨ (1 : Int) ≤ r_16.toInt ∧ r_16.toInt ≤ (4 : Int)) := h_13
  obtain ⟨d1, d2, hd⟩ : ∃ (d1 : Nat) (d2 : pS), pWord k 1 4 a = (d1, d2) := ⟨_, _, rfl⟩
  have hRd : zRr k n i_size j_next_1 j_where_2 j_token_3 j_number_4 j_word_5 j_wrong_6 i_farCrossing g_all_7 d2 := by have q9 := h_14; rw [hd] at q9; exact q9
  have hvd : r_16 = nI d1 := by have q9 := h_15; rw [hd] at q9; exact q9
  have hokD := zRr_ok hRd
  refine zAn6 (id hRd) ?_
  intro hA1D hA6D hA7D hA8D hA9D hA10D
  replace hA7D : zHd _ := hA7D
  have hkaD : zHd _ := hokD d2.1 hA1D.2.2.2.2
  have hkbD := hkaD.1
  have hkcD := hkaD.2.1
  have hT4D := pTk_le hokD hA1D.2.2.2.2
  have hdr : d2.2.1.toInt = 0 → 1 ≤ d1 ∧ d1 ≤ 4 := fun q9 => by have q8 := pWord_r (k := k) (lo := 1) (hi := 4) (a := a) (by rw [hd]; exact q9); have q6 := q8.2.2.2; rw [hd] at q6; have q7 : d1 = pWd k a.1 := congrArg Prod.fst q6; omega
  have hd4 : d1 ≤ 4 := by have q9 := pWord_1 k 1 4 a; rw [hd] at q9; exact q9
  have hdi : (r_16).toInt = (d1 : Int) := by rw [hvd]; exact nI_toInt (by omega)
  refine lv_istore_n (lv' := [(2, .int r_16), (1, .int i_where), (0, .ref mo)]) hx hb dX12_landLine_11 rfl hl (by decide) rfl (fun ls hl => ?_)
  refine lv_aload_n hx hb dX12_landLine_12 rfl (lv_at hl 2 rfl) ?_
  refine z_get C G clX12 1 rfl 8 (by decide) m_fl_RX12_104 rfl dX12_landLine_13 ?_
  refine lv_if_eq (tgt := 23) hx hb dX12_landLine_16 (by decide) (fun c_17 => ?_) (fun c_17 => ?_)
  · have c_17n : j_wrong_6.toInt = (0 : Int) := (fa_eq _ _).mp c_17
    have hwD : d2.2.1.toInt = 0 := by rw [← hA6D]; omega
    refine lv_iload_n hx hb dX12_landLine_23 rfl (lv_at hl 0 rfl) ?_
    by_cases c_18o : r_16.toInt < 1 ∨ 4 < r_16.toInt
    · refine lv_tableOut (tgt := 129) hx hb dX12_landLine_24 c_18o (by decide) ?_
      refine lv_aload_n hx hb dX12_landLine_129 rfl (lv_at hl 2 rfl) ?_
      refine z_Vv (bc := [[(mo, .inr (11, [.ref m_all, .ref m_has, .int i_size, .int j_next_1, .int j_where_2, .int j_token_3, .int j_number_4, .int j_word_5, .int j_wrong_6, .int i_farCrossing, .ref m_read, .int i_z0, .int i_crossings, .int i_inns, .ref m_posts, .ref m_shut, .ref m_here, .int i_steps, .int i_done, .int i_at, .int i_gone, .ref m_was, .ref m_came, .ref m_seenAt, .ref m_rowWorth, .ref m_farBy, .ref m_used, .int i_everywhere, .int i_again0, .int i_d0, .int i_never, .int i_firstCame, .int i_longRun, .int i_moved, .int i_crowd, .int i_l0, .int i_fitMany, .int i_fitLeast, .int i_fitMost, .ref m_fitPost, .ref m_fitEnd, .ref m_keptPosts, .int i_x0]))], [(m_all, .inl (T.2 0, 3952, .inl g_all_7))]]) (br := [[(m_read, .inl (T.2 0, 121, .inl f_read))]]) (As := []) (rest := []) C G (c_fm_endsLine l T mo m_all m_has i_size j_next_1 j_where_2 j_token_3 j_number_4 j_word_5 j_wrong_6 i_farCrossing m_read i_z0 i_crossings i_inns m_posts m_shut m_here i_steps i_done i_at i_gone m_was m_came m_seenAt m_rowWorth m_farBy m_used i_everywhere i_again0 i_d0 i_never i_firstCame i_longRun i_moved i_crowd i_l0 i_fitMany i_fitLeast i_fitMost m_fitPost m_fitEnd m_keptPosts i_x0 g_all_7 k n d2 (by first | with_reducible assumption | with_reducible rfl | omega | assumption | rfl) (by first | with_reducible assumption | with_reducible rfl | omega | assumption | rfl) (by first | with_reducible assumption | with_reducible rfl | omega | assumption | rfl) hRd) (kV_RX12_140 C.2.2.2.2 (Nat.le_of_ble_eq_true rfl) (Nat.le_of_ble_eq_true rfl)) [1, 2] [0] rfl rfl (ci := 11) (qc := (RX12, TX12, 43)) rfl rfl (List.mem_flatten.mpr ⟨_, List.mem_of_getElem? (i := 0) rfl, List.mem_cons_self⟩) rfl rfl hl.1 dX12_landLine_130 (Nat.le_of_ble_eq_true rfl) (Nat.le_of_ble_eq_true rfl) (fun b1 H locs hw G => ?_)
      refine zEx7 hw ?_
      intro j_next_19 j_where_20 j_token_21 j_number_22 j_word_23 j_wrong_24 g_all_25
      refine zCu7 ?_
      intro hbs9 h_26 h_27 h_28 h_29 h_30 h_31
      clear hw
      subst hbs9
      have G : zS T A s.heap s [[(m_read, .inl (T.2 0, 121, .inl f_read))], [(mo, .inr (11, [.ref m_all, .ref m_has, .int i_size, .int j_next_19, .int j_where_20, .int j_token_21, .int j_number_22, .int j_word_23, .int j_wrong_24, .int i_farCrossing, .ref m_read, .int i_z0, .int i_crossings, .int i_inns, .ref m_posts, .ref m_shut, .ref m_here, .int i_steps, .int i_done, .int i_at, .int i_gone, .ref m_was, .ref m_came, .ref m_seenAt, .ref m_rowWorth, .ref m_farBy, .ref m_used, .int i_everywhere, .int i_again0, .int i_d0, .int i_never, .int i_firstCame, .int i_longRun, .int i_moved, .int i_crowd, .int i_l0, .int i_fitMany, .int i_fitLeast, .int i_fitMost, .ref m_fitPost, .ref m_fitEnd, .ref m_keptPosts, .int i_x0]))], [(m_all, .inl (T.2 0, 3952, .inl g_all_25))]] _ _ := G
      have G := G.sub (bs' := [[(mo, .inr (11, [.ref m_all, .ref m_has, .int i_size, .int j_next_19, .int j_where_20, .int j_token_21, .int j_number_22, .int j_word_23, .int j_wrong_24, .int i_farCrossing, .ref m_read, .int i_z0, .int i_crossings, .int i_inns, .ref m_posts, .ref m_shut, .ref m_here, .int i_steps, .int i_done, .int i_at, .int i_gone, .ref m_was, .ref m_came, .ref m_seenAt, .ref m_rowWorth, .ref m_farBy, .ref m_used, .int i_everywhere, .int i_again0, .int i_d0, .int i_never, .int i_firstCame, .int i_longRun, .int i_moved, .int i_crowd, .int i_l0, .int i_fitMany, .int i_fitLeast, .int i_fitMost, .ref m_fitPost, .ref m_fitEnd, .ref m_keptPosts, .int i_x0]))], [(m_all, .inl (T.2 0, 3952, .inl g_all_25))], [(m_read, .inl (T.2 0, 121, .inl f_read))]]) [1, 2, 0] rfl
      exact z_vret C hr hlocks G (Nat.le_of_ble_eq_true rfl) (Nat.le_of_ble_eq_true rfl) dX12_landLine_133 ⟨j_next_19, j_where_20, j_token_21, j_number_22, j_word_23, j_wrong_24, i_farCrossing, g_all_25, f_read, rfl, (by first | with_reducible assumption | omega | trivial | assumption), (by first | with_reducible assumption | omega | trivial | assumption), (by first | with_reducible assumption | omega | trivial | assumption), (by first | with_reducible assumption | omega | trivial | assumption), (h_12.tr h_30), (by assumption), (by rw [pLand_w hd (by first | (exact fun z9 => by have := hdr z9; omega) | (rw [← hA6D]; omega))]; exact h_31), (by rw [pLand_w hd (by first | (exact fun z9 => by have := hdr z9; omega) | (rw [← hA6D]; omega))])⟩
    · have c_18r : r_16.toInt = 1 ∨ r_16.toInt = 2 ∨ r_16.toInt = 3 ∨ r_16.toInt = 4 := by omega
      rcases c_18r with c_18 | c_18 | c_18 | c_18
      · refine lv_tableIn (tgt := 56) hx hb dX12_landLine_24 (by omega) (by omega) (by rw [c_18]; rfl) (by decide) ?_
        refine lv_aload_n hx hb dX12_landLine_56 rfl (lv_at hl 2 rfl) ?_
        refine lv_iload_n hx hb dX12_landLine_57 rfl (lv_at hl 1 rfl) ?_
        refine z_Vv (bc := [[(mo, .inr (11, [.ref m_all, .ref m_has, .int i_size, .int j_next_1, .int j_where_2, .int j_token_3, .int j_number_4, .int j_word_5, .int j_wrong_6, .int i_farCrossing, .ref m_read, .int i_z0, .int i_crossings, .int i_inns, .ref m_posts, .ref m_shut, .ref m_here, .int i_steps, .int i_done, .int i_at, .int i_gone, .ref m_was, .ref m_came, .ref m_seenAt, .ref m_rowWorth, .ref m_farBy, .ref m_used, .int i_everywhere, .int i_again0, .int i_d0, .int i_never, .int i_firstCame, .int i_longRun, .int i_moved, .int i_crowd, .int i_l0, .int i_fitMany, .int i_fitLeast, .int i_fitMost, .ref m_fitPost, .ref m_fitEnd, .ref m_keptPosts, .int i_x0]))], [(m_all, .inl (T.2 0, 3952, .inl g_all_7))], [(m_read, .inl (T.2 0, 121, .inl f_read))]]) (br := []) (As := [.int i_where]) (rest := []) C G (c_fm_crossTold l T mo m_all m_has i_size j_next_1 j_where_2 j_token_3 j_number_4 j_word_5 j_wrong_6 i_farCrossing m_read i_z0 i_crossings i_inns m_posts m_shut m_here i_steps i_done i_at i_gone m_was m_came m_seenAt m_rowWorth m_farBy m_used i_everywhere i_again0 i_d0 i_never i_firstCame i_longRun i_moved i_crowd i_l0 i_fitMany i_fitLeast i_fitMost m_fitPost m_fitEnd m_keptPosts i_x0 g_all_7 f_read k n d2 i_where (by first | with_reducible assumption | with_reducible rfl | omega | assumption | rfl) (by first | with_reducible assumption | with_reducible rfl | omega | assumption | rfl) (by first | with_reducible assumption | with_reducible rfl | omega | assumption | rfl) hR hRd) (kV_RX12_136 C.2.2.2.2 (Nat.le_of_ble_eq_true rfl) (Nat.le_of_ble_eq_true rfl)) [1, 2, 0] [] rfl rfl (ci := 11) (qc := (RX12, TX12, 43)) rfl rfl (List.mem_flatten.mpr ⟨_, List.mem_of_getElem? (i := 0) rfl, List.mem_cons_self⟩) rfl rfl hl.1 dX12_landLine_58 (Nat.le_of_ble_eq_true rfl) (Nat.le_of_ble_eq_true rfl) (fun b1 H locs hw G => ?_)
        refine zEx9 hw ?_
        intro j_next_33 j_where_34 j_token_35 j_number_36 j_word_37 j_wrong_38 j_farCrossing_39 g_all_40 g_read_41
        refine zCu8 ?_
        intro hbs9 h_42 h_43 h_44 h_45 h_46 h_47 h_48
        clear hw
        subst hbs9
        have G : zS T A s.heap s [[(mo, .inr (11, [.ref m_all, .ref m_has, .int i_size, .int j_next_33, .int j_where_34, .int j_token_35, .int j_number_36, .int j_word_37, .int j_wrong_38, .int j_farCrossing_39, .ref m_read, .int i_z0, .int i_crossings, .int i_inns, .ref m_posts, .ref m_shut, .ref m_here, .int i_steps, .int i_done, .int i_at, .int i_gone, .ref m_was, .ref m_came, .ref m_seenAt, .ref m_rowWorth, .ref m_farBy, .ref m_used, .int i_everywhere, .int i_again0, .int i_d0, .int i_never, .int i_firstCame, .int i_longRun, .int i_moved, .int i_crowd, .int i_l0, .int i_fitMany, .int i_fitLeast, .int i_fitMost, .ref m_fitPost, .ref m_fitEnd, .ref m_keptPosts, .int i_x0]))], [(m_all, .inl (T.2 0, 3952, .inl g_all_40))], [(m_read, .inl (T.2 0, 121, .inl g_read_41))]] _ _ := G
        refine lv_goto (tgt := 129) hx hb dX12_landLine_61 (by decide) ?_
        refine lv_aload_n hx hb dX12_landLine_129 rfl (lv_at hl 2 rfl) ?_
        refine z_Vv (bc := [[(mo, .inr (11, [.ref m_all, .ref m_has, .int i_size, .int j_next_33, .int j_where_34, .int j_token_35, .int j_number_36, .int j_word_37, .int j_wrong_38, .int j_farCrossing_39, .ref m_read, .int i_z0, .int i_crossings, .int i_inns, .ref m_posts, .ref m_shut, .ref m_here, .int i_steps, .int i_done, .int i_at, .int i_gone, .ref m_was, .ref m_came, .ref m_seenAt, .ref m_rowWorth, .ref m_farBy, .ref m_used, .int i_everywhere, .int i_again0, .int i_d0, .int i_never, .int i_firstCame, .int i_longRun, .int i_moved, .int i_crowd, .int i_l0, .int i_fitMany, .int i_fitLeast, .int i_fitMost, .ref m_fitPost, .ref m_fitEnd, .ref m_keptPosts, .int i_x0]))], [(m_all, .inl (T.2 0, 3952, .inl g_all_40))]]) (br := [[(m_read, .inl (T.2 0, 121, .inl g_read_41))]]) (As := []) (rest := []) C G (c_fm_endsLine l T mo m_all m_has i_size j_next_33 j_where_34 j_token_35 j_number_36 j_word_37 j_wrong_38 j_farCrossing_39 m_read i_z0 i_crossings i_inns m_posts m_shut m_here i_steps i_done i_at i_gone m_was m_came m_seenAt m_rowWorth m_farBy m_used i_everywhere i_again0 i_d0 i_never i_firstCame i_longRun i_moved i_crowd i_l0 i_fitMany i_fitLeast i_fitMost m_fitPost m_fitEnd m_keptPosts i_x0 g_all_40 k n ((pCross k i_where d2 f_read).1) (by first | with_reducible assumption | with_reducible rfl | omega | assumption | rfl) (by first | with_reducible assumption | with_reducible rfl | omega | assumption | rfl) (by first | with_reducible assumption | with_reducible rfl | omega | assumption | rfl) h_47) (kV_RX12_140 C.2.2.2.2 (Nat.le_of_ble_eq_true rfl) (Nat.le_of_ble_eq_true rfl)) [0, 1] [2] rfl rfl (ci := 11) (qc := (RX12, TX12, 43)) rfl rfl (List.mem_flatten.mpr ⟨_, List.mem_of_getElem? (i := 0) rfl, List.mem_cons_self⟩) rfl rfl hl.1 dX12_landLine_130 (Nat.le_of_ble_eq_true rfl) (Nat.le_of_ble_eq_true rfl) (fun b1 H locs hw G => ?_)
        refine zEx7 hw ?_
        intro j_next_50 j_where_51 j_token_52 j_number_53 j_word_54 j_wrong_55 g_all_56
        refine zCu7 ?_
        intro hbs9 h_57 h_58 h_59 h_60 h_61 h_62
        clear hw
        subst hbs9
        have G : zS T A s.heap s [[(m_read, .inl (T.2 0, 121, .inl g_read_41))], [(mo, .inr (11, [.ref m_all, .ref m_has, .int i_size, .int j_next_50, .int j_where_51, .int j_token_52, .int j_number_53, .int j_word_54, .int j_wrong_55, .int j_farCrossing_39, .ref m_read, .int i_z0, .int i_crossings, .int i_inns, .ref m_posts, .ref m_shut, .ref m_here, .int i_steps, .int i_done, .int i_at, .int i_gone, .ref m_was, .ref m_came, .ref m_seenAt, .ref m_rowWorth, .ref m_farBy, .ref m_used, .int i_everywhere, .int i_again0, .int i_d0, .int i_never, .int i_firstCame, .int i_longRun, .int i_moved, .int i_crowd, .int i_l0, .int i_fitMany, .int i_fitLeast, .int i_fitMost, .ref m_fitPost, .ref m_fitEnd, .ref m_keptPosts, .int i_x0]))], [(m_all, .inl (T.2 0, 3952, .inl g_all_56))]] _ _ := G
        have G := G.sub (bs' := [[(mo, .inr (11, [.ref m_all, .ref m_has, .int i_size, .int j_next_50, .int j_where_51, .int j_token_52, .int j_number_53, .int j_word_54, .int j_wrong_55, .int j_farCrossing_39, .ref m_read, .int i_z0, .int i_crossings, .int i_inns, .ref m_posts, .ref m_shut, .ref m_here, .int i_steps, .int i_done, .int i_at, .int i_gone, .ref m_was, .ref m_came, .ref m_seenAt, .ref m_rowWorth, .ref m_farBy, .ref m_used, .int i_everywhere, .int i_again0, .int i_d0, .int i_never, .int i_firstCame, .int i_longRun, .int i_moved, .int i_crowd, .int i_l0, .int i_fitMany, .int i_fitLeast, .int i_fitMost, .ref m_fitPost, .ref m_fitEnd, .ref m_keptPosts, .int i_x0]))], [(m_all, .inl (T.2 0, 3952, .inl g_all_56))], [(m_read, .inl (T.2 0, 121, .inl g_read_41))]]) [1, 2, 0] rfl
        exact z_vret C hr hlocks G (Nat.le_of_ble_eq_true rfl) (Nat.le_of_ble_eq_true rfl) dX12_landLine_133 ⟨j_next_50, j_where_51, j_token_52, j_number_53, j_word_54, j_wrong_55, j_farCrossing_39, g_all_56, g_read_41, rfl, (by first | with_reducible assumption | omega | trivial | assumption), (by first | with_reducible assumption | omega | trivial | assumption), (by first | with_reducible assumption | omega | trivial | assumption), (by first | with_reducible assumption | omega | trivial | assumption), (h_12.tr (h_45.tr h_61)), h_46, (by rw [pLand_c hd hwD (by omega), ← t2]; exact h_62), (by rw [pLand_c hd hwD (by omega), ← t2]; exact h_48)⟩
      · refine lv_tableIn (tgt := 64) hx hb dX12_landLine_24 (by omega) (by omega) (by rw [c_18]; rfl) (by decide) ?_
        refine lv_aload_n hx hb dX12_landLine_64 rfl (lv_at hl 2 rfl) ?_
        refine z_Vi (bc := [[(mo, .inr (11, [.ref m_all, .ref m_has, .int i_size, .int j_next_1, .int j_where_2, .int j_token_3, .int j_number_4, .int j_word_5, .int j_wrong_6, .int i_farCrossing, .ref m_read, .int i_z0, .int i_crossings, .int i_inns, .ref m_posts, .ref m_shut, .ref m_here, .int i_steps, .int i_done, .int i_at, .int i_gone, .ref m_was, .ref m_came, .ref m_seenAt, .ref m_rowWorth, .ref m_farBy, .ref m_used, .int i_everywhere, .int i_again0, .int i_d0, .int i_never, .int i_firstCame, .int i_longRun, .int i_moved, .int i_crowd, .int i_l0, .int i_fitMany, .int i_fitLeast, .int i_fitMost, .ref m_fitPost, .ref m_fitEnd, .ref m_keptPosts, .int i_x0]))], [(m_all, .inl (T.2 0, 3952, .inl g_all_7))]]) (br := [[(m_read, .inl (T.2 0, 121, .inl f_read))]]) (As := []) (rest := []) C G (c_fm_crossingTold l T mo m_all m_has i_size j_next_1 j_where_2 j_token_3 j_number_4 j_word_5 j_wrong_6 i_farCrossing m_read i_z0 i_crossings i_inns m_posts m_shut m_here i_steps i_done i_at i_gone m_was m_came m_seenAt m_rowWorth m_farBy m_used i_everywhere i_again0 i_d0 i_never i_firstCame i_longRun i_moved i_crowd i_l0 i_fitMany i_fitLeast i_fitMost m_fitPost m_fitEnd m_keptPosts i_x0 g_all_7 k n d2 (by first | with_reducible assumption | with_reducible rfl | omega | assumption | rfl) (by first | with_reducible assumption | with_reducible rfl | omega | assumption | rfl) (by first | with_reducible assumption | with_reducible rfl | omega | assumption | rfl) hRd) (kV_RX12_129 C.2.2.2.2 (Nat.le_of_ble_eq_true rfl) (Nat.le_of_ble_eq_true rfl)) [1, 2] [0] rfl rfl (ci := 11) (qc := (RX12, TX12, 43)) rfl rfl (List.mem_flatten.mpr ⟨_, List.mem_of_getElem? (i := 0) rfl, List.mem_cons_self⟩) rfl rfl hl.1 dX12_landLine_65 (Nat.le_of_ble_eq_true rfl) (Nat.le_of_ble_eq_true rfl) (fun r_81 b1 H locs hw G => ?_)
        refine zEx8 hw ?_
        intro j_next_64 j_where_65 j_token_66 j_number_67 j_word_68 j_wrong_69 j_farCrossing_70 g_all_71
        refine zCu10 ?_
        intro hbs9 h_72 h_73 h_74 h_75 h_76 h_77 h_78 h_79 h_80
        clear hw
        subst hbs9
        have G : zS T A s.heap s [[(m_read, .inl (T.2 0, 121, .inl f_read))], [(mo, .inr (11, [.ref m_all, .ref m_has, .int i_size, .int j_next_64, .int j_where_65, .int j_token_66, .int j_number_67, .int j_word_68, .int j_wrong_69, .int j_farCrossing_70, .ref m_read, .int i_z0, .int i_crossings, .int i_inns, .ref m_posts, .ref m_shut, .ref m_here, .int i_steps, .int i_done, .int i_at, .int i_gone, .ref m_was, .ref m_came, .ref m_seenAt, .ref m_rowWorth, .ref m_farBy, .ref m_used, .int i_everywhere, .int i_again0, .int i_d0, .int i_never, .int i_firstCame, .int i_longRun, .int i_moved, .int i_crowd, .int i_l0, .int i_fitMany, .int i_fitLeast, .int i_fitMost, .ref m_fitPost, .ref m_fitEnd, .ref m_keptPosts, .int i_x0]))], [(m_all, .inl (T.2 0, 3952, .inl g_all_71))]] _ _ := G
        refine lv_istore_n (lv' := [(3, .int r_81), (2, .int r_16), (1, .int i_where), (0, .ref mo)]) hx hb dX12_landLine_68 rfl hl (by decide) rfl (fun ls hl => ?_)
        refine lv_aload_n hx hb dX12_landLine_69 rfl (lv_at hl 3 rfl) ?_
        refine z_get C G clX12 1 rfl 10 (by decide) m_fl_RX12_17 rfl dX12_landLine_70 ?_
        refine lv_bipush (v := 9) hx hb dX12_landLine_73 (by decide) ?_
        refine lv_iload_n hx hb dX12_landLine_75 rfl (lv_at hl 0 rfl) ?_
        refine lv_iadd hx hb dX12_landLine_76 ?_
        refine lv_topi (fun y_82 ey_82 => ?_)
        have ey_82i : y_82.toInt = (9 : Int) + r_81.toInt := by rw [ey_82]; exact z_iaddI (x := (9 : Int32)) (y := r_81) (by show -2147483648 ≤ (9 : Int) + r_81.toInt; omega) (by show (9 : Int) + r_81.toInt < 2147483648; omega)
        refine lv_aload_n hx hb dX12_landLine_77 rfl (lv_at hl 3 rfl) ?_
        refine lv_iconst (v := 0) hx hb dX12_landLine_78 (by decide) ?_
        refine lv_iconst (v := 3) hx hb dX12_landLine_79 (by decide) ?_
        refine z_Vi (bc := [[(mo, .inr (11, [.ref m_all, .ref m_has, .int i_size, .int j_next_64, .int j_where_65, .int j_token_66, .int j_number_67, .int j_word_68, .int j_wrong_69, .int j_farCrossing_70, .ref m_read, .int i_z0, .int i_crossings, .int i_inns, .ref m_posts, .ref m_shut, .ref m_here, .int i_steps, .int i_done, .int i_at, .int i_gone, .ref m_was, .ref m_came, .ref m_seenAt, .ref m_rowWorth, .ref m_farBy, .ref m_used, .int i_everywhere, .int i_again0, .int i_d0, .int i_never, .int i_firstCame, .int i_longRun, .int i_moved, .int i_crowd, .int i_l0, .int i_fitMany, .int i_fitLeast, .int i_fitMost, .ref m_fitPost, .ref m_fitEnd, .ref m_keptPosts, .int i_x0]))], [(m_all, .inl (T.2 0, 3952, .inl g_all_71))]]) (br := [[(m_read, .inl (T.2 0, 121, .inl f_read))]]) (As := [.int 0, .int 3]) (rest := [.int y_82, .ref m_read]) C G (c_fm_numbered l T mo m_all m_has i_size j_next_64 j_where_65 j_token_66 j_number_67 j_word_68 j_wrong_69 j_farCrossing_70 m_read i_z0 i_crossings i_inns m_posts m_shut m_here i_steps i_done i_at i_gone m_was m_came m_seenAt m_rowWorth m_farBy m_used i_everywhere i_again0 i_d0 i_never i_firstCame i_longRun i_moved i_crowd i_l0 i_fitMany i_fitLeast i_fitMost m_fitPost m_fitEnd m_keptPosts i_x0 g_all_71 k n ((pCr k d2).2) 0 3 (by first | with_reducible assumption | with_reducible rfl | omega | assumption | rfl) (by first | with_reducible assumption | with_reducible rfl | omega | assumption | rfl) (by first | with_reducible assumption | with_reducible rfl | omega | assumption | rfl) (by decide) h_79) (kV_RX12_122 C.2.2.2.2 (Nat.le_of_ble_eq_true rfl) (Nat.le_of_ble_eq_true rfl)) [1, 2] [0] rfl rfl (ci := 11) (qc := (RX12, TX12, 43)) rfl rfl (List.mem_flatten.mpr ⟨_, List.mem_of_getElem? (i := 0) rfl, List.mem_cons_self⟩) rfl rfl hl.1 dX12_landLine_80 (Nat.le_of_ble_eq_true rfl) (Nat.le_of_ble_eq_true rfl) (fun r_99 b1 H locs hw G => ?_)
        refine zEx7 hw ?_
        intro j_next_83 j_where_84 j_token_85 j_number_86 j_word_87 j_wrong_88 g_all_89
        refine zCu10 ?_
        intro hbs9 h_90 h_91 h_92 h_93 h_94 h_95 h_96 h_97 h_98
        clear hw
        subst hbs9
        have G : zS T A s.heap s [[(m_read, .inl (T.2 0, 121, .inl f_read))], [(mo, .inr (11, [.ref m_all, .ref m_has, .int i_size, .int j_next_83, .int j_where_84, .int j_token_85, .int j_number_86, .int j_word_87, .int j_wrong_88, .int j_farCrossing_70, .ref m_read, .int i_z0, .int i_crossings, .int i_inns, .ref m_posts, .ref m_shut, .ref m_here, .int i_steps, .int i_done, .int i_at, .int i_gone, .ref m_was, .ref m_came, .ref m_seenAt, .ref m_rowWorth, .ref m_farBy, .ref m_used, .int i_everywhere, .int i_again0, .int i_d0, .int i_never, .int i_firstCame, .int i_longRun, .int i_moved, .int i_crowd, .int i_l0, .int i_fitMany, .int i_fitLeast, .int i_fitMost, .ref m_fitPost, .ref m_fitEnd, .ref m_keptPosts, .int i_x0]))], [(m_all, .inl (T.2 0, 3952, .inl g_all_89))]] _ _ := G
        have h_95 : (0 : Int) ≤ r_99.toInt := h_95
        have h_96 : r_99.toInt ≤ (3 : Int) := h_96
        refine z_ist C G 0 rfl (vp_in_iff.mpr ⟨by omega, by omega⟩) dX12_landLine_83 (fun H locs G => ?_)
        have G : zS T A s.heap s [[(m_read, .inl (T.2 0, 121, .inl (upd f_read y_82.toNatClampNeg r_99)))], [(mo, .inr (11, [.ref m_all, .ref m_has, .int i_size, .int j_next_83, .int j_where_84, .int j_token_85, .int j_number_86, .int j_word_87, .int j_wrong_88, .int j_farCrossing_70, .ref m_read, .int i_z0, .int i_crossings, .int i_inns, .ref m_posts, .ref m_shut, .ref m_here, .int i_steps, .int i_done, .int i_at, .int i_gone, .ref m_was, .ref m_came, .ref m_seenAt, .ref m_rowWorth, .ref m_farBy, .ref m_used, .int i_everywhere, .int i_again0, .int i_d0, .int i_never, .int i_firstCame, .int i_longRun, .int i_moved, .int i_crowd, .int i_l0, .int i_fitMany, .int i_fitLeast, .int i_fitMost, .ref m_fitPost, .ref m_fitEnd, .ref m_keptPosts, .int i_x0]))], [(m_all, .inl (T.2 0, 3952, .inl g_all_89))]] _ _ := G
        refine lv_goto (tgt := 129) hx hb dX12_landLine_84 (by decide) ?_
        refine lv_aload_n hx hb dX12_landLine_129 rfl (lv_at hl 3 rfl) ?_
        refine z_Vv (bc := [[(mo, .inr (11, [.ref m_all, .ref m_has, .int i_size, .int j_next_83, .int j_where_84, .int j_token_85, .int j_number_86, .int j_word_87, .int j_wrong_88, .int j_farCrossing_70, .ref m_read, .int i_z0, .int i_crossings, .int i_inns, .ref m_posts, .ref m_shut, .ref m_here, .int i_steps, .int i_done, .int i_at, .int i_gone, .ref m_was, .ref m_came, .ref m_seenAt, .ref m_rowWorth, .ref m_farBy, .ref m_used, .int i_everywhere, .int i_again0, .int i_d0, .int i_never, .int i_firstCame, .int i_longRun, .int i_moved, .int i_crowd, .int i_l0, .int i_fitMany, .int i_fitLeast, .int i_fitMost, .ref m_fitPost, .ref m_fitEnd, .ref m_keptPosts, .int i_x0]))], [(m_all, .inl (T.2 0, 3952, .inl g_all_89))]]) (br := [[(m_read, .inl (T.2 0, 121, .inl (upd f_read y_82.toNatClampNeg r_99)))]]) (As := []) (rest := []) C G (c_fm_endsLine l T mo m_all m_has i_size j_next_83 j_where_84 j_token_85 j_number_86 j_word_87 j_wrong_88 j_farCrossing_70 m_read i_z0 i_crossings i_inns m_posts m_shut m_here i_steps i_done i_at i_gone m_was m_came m_seenAt m_rowWorth m_farBy m_used i_everywhere i_again0 i_d0 i_never i_firstCame i_longRun i_moved i_crowd i_l0 i_fitMany i_fitLeast i_fitMost m_fitPost m_fitEnd m_keptPosts i_x0 g_all_89 k n ((pNum k 0 3 (pCr k d2).2).2) (by first | with_reducible assumption | with_reducible rfl | omega | assumption | rfl) (by first | with_reducible assumption | with_reducible rfl | omega | assumption | rfl) (by first | with_reducible assumption | with_reducible rfl | omega | assumption | rfl) h_97) (kV_RX12_140 C.2.2.2.2 (Nat.le_of_ble_eq_true rfl) (Nat.le_of_ble_eq_true rfl)) [1, 2] [0] rfl rfl (ci := 11) (qc := (RX12, TX12, 43)) rfl rfl (List.mem_flatten.mpr ⟨_, List.mem_of_getElem? (i := 0) rfl, List.mem_cons_self⟩) rfl rfl hl.1 dX12_landLine_130 (Nat.le_of_ble_eq_true rfl) (Nat.le_of_ble_eq_true rfl) (fun b1 H locs hw G => ?_)
        refine zEx7 hw ?_
        intro j_next_100 j_where_101 j_token_102 j_number_103 j_word_104 j_wrong_105 g_all_106
        refine zCu7 ?_
        intro hbs9 h_107 h_108 h_109 h_110 h_111 h_112
        clear hw
        subst hbs9
        have G : zS T A s.heap s [[(m_read, .inl (T.2 0, 121, .inl (upd f_read y_82.toNatClampNeg r_99)))], [(mo, .inr (11, [.ref m_all, .ref m_has, .int i_size, .int j_next_100, .int j_where_101, .int j_token_102, .int j_number_103, .int j_word_104, .int j_wrong_105, .int j_farCrossing_70, .ref m_read, .int i_z0, .int i_crossings, .int i_inns, .ref m_posts, .ref m_shut, .ref m_here, .int i_steps, .int i_done, .int i_at, .int i_gone, .ref m_was, .ref m_came, .ref m_seenAt, .ref m_rowWorth, .ref m_farBy, .ref m_used, .int i_everywhere, .int i_again0, .int i_d0, .int i_never, .int i_firstCame, .int i_longRun, .int i_moved, .int i_crowd, .int i_l0, .int i_fitMany, .int i_fitLeast, .int i_fitMost, .ref m_fitPost, .ref m_fitEnd, .ref m_keptPosts, .int i_x0]))], [(m_all, .inl (T.2 0, 3952, .inl g_all_106))]] _ _ := G
        have G := G.sub (bs' := [[(mo, .inr (11, [.ref m_all, .ref m_has, .int i_size, .int j_next_100, .int j_where_101, .int j_token_102, .int j_number_103, .int j_word_104, .int j_wrong_105, .int j_farCrossing_70, .ref m_read, .int i_z0, .int i_crossings, .int i_inns, .ref m_posts, .ref m_shut, .ref m_here, .int i_steps, .int i_done, .int i_at, .int i_gone, .ref m_was, .ref m_came, .ref m_seenAt, .ref m_rowWorth, .ref m_farBy, .ref m_used, .int i_everywhere, .int i_again0, .int i_d0, .int i_never, .int i_firstCame, .int i_longRun, .int i_moved, .int i_crowd, .int i_l0, .int i_fitMany, .int i_fitLeast, .int i_fitMost, .ref m_fitPost, .ref m_fitEnd, .ref m_keptPosts, .int i_x0]))], [(m_all, .inl (T.2 0, 3952, .inl g_all_106))], [(m_read, .inl (T.2 0, 121, .inl (upd f_read y_82.toNatClampNeg r_99)))]]) [1, 2, 0] rfl
        exact z_vret C hr hlocks G (Nat.le_of_ble_eq_true rfl) (Nat.le_of_ble_eq_true rfl) dX12_landLine_133 ⟨j_next_100, j_where_101, j_token_102, j_number_103, j_word_104, j_wrong_105, j_farCrossing_70, g_all_106, (upd f_read y_82.toNatClampNeg r_99), rfl, (by first | with_reducible assumption | omega | trivial | assumption), (by first | with_reducible assumption | omega | trivial | assumption), (by first | with_reducible assumption | omega | trivial | assumption), (by first | with_reducible assumption | omega | trivial | assumption), (h_12.tr (h_76.tr (h_94.tr h_111))), (zLF_upd (k := y_82.toNatClampNeg) (v := r_99) (by assumption) (by have q9 := z_clI (x := y_82) (by omega); omega) (by have q9 := z_clI (x := y_82) (by omega); omega) (by have q9 := z_clI (x := y_82) (by omega); omega) (by have q9 := z_clI (x := y_82) (by omega); omega) (by have q9 := z_clI (x := y_82) (by omega); omega)), (by rw [pLand_p hd hwD (by omega)]; unfold pPW; rw [show (if d1 = 2 then (3 : Int32) else 9) = 3 from if_pos (by omega)]; exact h_112), (by rw [pLand_p hd hwD (by omega)]; unfold pPW; rw [show (if d1 = 2 then (3 : Int32) else 9) = 3 from if_pos (by omega), show (if d1 = 2 then 9 else 16) = 9 from if_pos (by omega), ← h_80, ← h_98]; exact congrArg (fun q9 => upd f_read q9 r_99) (by have q9 := z_clI (x := y_82) (by omega); omega))⟩
      · refine lv_tableIn (tgt := 87) hx hb dX12_landLine_24 (by omega) (by omega) (by rw [c_18]; rfl) (by decide) ?_
        refine lv_aload_n hx hb dX12_landLine_87 rfl (lv_at hl 2 rfl) ?_
        refine z_Vi (bc := [[(mo, .inr (11, [.ref m_all, .ref m_has, .int i_size, .int j_next_1, .int j_where_2, .int j_token_3, .int j_number_4, .int j_word_5, .int j_wrong_6, .int i_farCrossing, .ref m_read, .int i_z0, .int i_crossings, .int i_inns, .ref m_posts, .ref m_shut, .ref m_here, .int i_steps, .int i_done, .int i_at, .int i_gone, .ref m_was, .ref m_came, .ref m_seenAt, .ref m_rowWorth, .ref m_farBy, .ref m_used, .int i_everywhere, .int i_again0, .int i_d0, .int i_never, .int i_firstCame, .int i_longRun, .int i_moved, .int i_crowd, .int i_l0, .int i_fitMany, .int i_fitLeast, .int i_fitMost, .ref m_fitPost, .ref m_fitEnd, .ref m_keptPosts, .int i_x0]))], [(m_all, .inl (T.2 0, 3952, .inl g_all_7))]]) (br := [[(m_read, .inl (T.2 0, 121, .inl f_read))]]) (As := []) (rest := []) C G (c_fm_crossingTold l T mo m_all m_has i_size j_next_1 j_where_2 j_token_3 j_number_4 j_word_5 j_wrong_6 i_farCrossing m_read i_z0 i_crossings i_inns m_posts m_shut m_here i_steps i_done i_at i_gone m_was m_came m_seenAt m_rowWorth m_farBy m_used i_everywhere i_again0 i_d0 i_never i_firstCame i_longRun i_moved i_crowd i_l0 i_fitMany i_fitLeast i_fitMost m_fitPost m_fitEnd m_keptPosts i_x0 g_all_7 k n d2 (by first | with_reducible assumption | with_reducible rfl | omega | assumption | rfl) (by first | with_reducible assumption | with_reducible rfl | omega | assumption | rfl) (by first | with_reducible assumption | with_reducible rfl | omega | assumption | rfl) hRd) (kV_RX12_129 C.2.2.2.2 (Nat.le_of_ble_eq_true rfl) (Nat.le_of_ble_eq_true rfl)) [1, 2] [0] rfl rfl (ci := 11) (qc := (RX12, TX12, 43)) rfl rfl (List.mem_flatten.mpr ⟨_, List.mem_of_getElem? (i := 0) rfl, List.mem_cons_self⟩) rfl rfl hl.1 dX12_landLine_88 (Nat.le_of_ble_eq_true rfl) (Nat.le_of_ble_eq_true rfl) (fun r_131 b1 H locs hw G => ?_)
        refine zEx8 hw ?_
        intro j_next_114 j_where_115 j_token_116 j_number_117 j_word_118 j_wrong_119 j_farCrossing_120 g_all_121
        refine zCu10 ?_
        intro hbs9 h_122 h_123 h_124 h_125 h_126 h_127 h_128 h_129 h_130
        clear hw
        subst hbs9
        have G : zS T A s.heap s [[(m_read, .inl (T.2 0, 121, .inl f_read))], [(mo, .inr (11, [.ref m_all, .ref m_has, .int i_size, .int j_next_114, .int j_where_115, .int j_token_116, .int j_number_117, .int j_word_118, .int j_wrong_119, .int j_farCrossing_120, .ref m_read, .int i_z0, .int i_crossings, .int i_inns, .ref m_posts, .ref m_shut, .ref m_here, .int i_steps, .int i_done, .int i_at, .int i_gone, .ref m_was, .ref m_came, .ref m_seenAt, .ref m_rowWorth, .ref m_farBy, .ref m_used, .int i_everywhere, .int i_again0, .int i_d0, .int i_never, .int i_firstCame, .int i_longRun, .int i_moved, .int i_crowd, .int i_l0, .int i_fitMany, .int i_fitLeast, .int i_fitMost, .ref m_fitPost, .ref m_fitEnd, .ref m_keptPosts, .int i_x0]))], [(m_all, .inl (T.2 0, 3952, .inl g_all_121))]] _ _ := G
        refine lv_istore_n (lv' := [(3, .int r_131), (2, .int r_16), (1, .int i_where), (0, .ref mo)]) hx hb dX12_landLine_91 rfl hl (by decide) rfl (fun ls hl => ?_)
        refine lv_aload_n hx hb dX12_landLine_92 rfl (lv_at hl 3 rfl) ?_
        refine z_get C G clX12 1 rfl 10 (by decide) m_fl_RX12_17 rfl dX12_landLine_93 ?_
        refine lv_bipush (v := 16) hx hb dX12_landLine_96 (by decide) ?_
        refine lv_iload_n hx hb dX12_landLine_98 rfl (lv_at hl 0 rfl) ?_
        refine lv_iadd hx hb dX12_landLine_99 ?_
        refine lv_topi (fun y_132 ey_132 => ?_)
        have ey_132i : y_132.toInt = (16 : Int) + r_131.toInt := by rw [ey_132]; exact z_iaddI (x := (16 : Int32)) (y := r_131) (by show -2147483648 ≤ (16 : Int) + r_131.toInt; omega) (by show (16 : Int) + r_131.toInt < 2147483648; omega)
        refine lv_aload_n hx hb dX12_landLine_100 rfl (lv_at hl 3 rfl) ?_
        refine lv_iconst (v := 0) hx hb dX12_landLine_101 (by decide) ?_
        refine lv_bipush (v := 9) hx hb dX12_landLine_102 (by decide) ?_
        refine z_Vi (bc := [[(mo, .inr (11, [.ref m_all, .ref m_has, .int i_size, .int j_next_114, .int j_where_115, .int j_token_116, .int j_number_117, .int j_word_118, .int j_wrong_119, .int j_farCrossing_120, .ref m_read, .int i_z0, .int i_crossings, .int i_inns, .ref m_posts, .ref m_shut, .ref m_here, .int i_steps, .int i_done, .int i_at, .int i_gone, .ref m_was, .ref m_came, .ref m_seenAt, .ref m_rowWorth, .ref m_farBy, .ref m_used, .int i_everywhere, .int i_again0, .int i_d0, .int i_never, .int i_firstCame, .int i_longRun, .int i_moved, .int i_crowd, .int i_l0, .int i_fitMany, .int i_fitLeast, .int i_fitMost, .ref m_fitPost, .ref m_fitEnd, .ref m_keptPosts, .int i_x0]))], [(m_all, .inl (T.2 0, 3952, .inl g_all_121))]]) (br := [[(m_read, .inl (T.2 0, 121, .inl f_read))]]) (As := [.int 0, .int 9]) (rest := [.int y_132, .ref m_read]) C G (c_fm_numbered l T mo m_all m_has i_size j_next_114 j_where_115 j_token_116 j_number_117 j_word_118 j_wrong_119 j_farCrossing_120 m_read i_z0 i_crossings i_inns m_posts m_shut m_here i_steps i_done i_at i_gone m_was m_came m_seenAt m_rowWorth m_farBy m_used i_everywhere i_again0 i_d0 i_never i_firstCame i_longRun i_moved i_crowd i_l0 i_fitMany i_fitLeast i_fitMost m_fitPost m_fitEnd m_keptPosts i_x0 g_all_121 k n ((pCr k d2).2) 0 9 (by first | with_reducible assumption | with_reducible rfl | omega | assumption | rfl) (by first | with_reducible assumption | with_reducible rfl | omega | assumption | rfl) (by first | with_reducible assumption | with_reducible rfl | omega | assumption | rfl) (by decide) h_129) (kV_RX12_122 C.2.2.2.2 (Nat.le_of_ble_eq_true rfl) (Nat.le_of_ble_eq_true rfl)) [1, 2] [0] rfl rfl (ci := 11) (qc := (RX12, TX12, 43)) rfl rfl (List.mem_flatten.mpr ⟨_, List.mem_of_getElem? (i := 0) rfl, List.mem_cons_self⟩) rfl rfl hl.1 dX12_landLine_104 (Nat.le_of_ble_eq_true rfl) (Nat.le_of_ble_eq_true rfl) (fun r_149 b1 H locs hw G => ?_)
        refine zEx7 hw ?_
        intro j_next_133 j_where_134 j_token_135 j_number_136 j_word_137 j_wrong_138 g_all_139
        refine zCu10 ?_
        intro hbs9 h_140 h_141 h_142 h_143 h_144 h_145 h_146 h_147 h_148
        clear hw
        subst hbs9
        have G : zS T A s.heap s [[(m_read, .inl (T.2 0, 121, .inl f_read))], [(mo, .inr (11, [.ref m_all, .ref m_has, .int i_size, .int j_next_133, .int j_where_134, .int j_token_135, .int j_number_136, .int j_word_137, .int j_wrong_138, .int j_farCrossing_120, .ref m_read, .int i_z0, .int i_crossings, .int i_inns, .ref m_posts, .ref m_shut, .ref m_here, .int i_steps, .int i_done, .int i_at, .int i_gone, .ref m_was, .ref m_came, .ref m_seenAt, .ref m_rowWorth, .ref m_farBy, .ref m_used, .int i_everywhere, .int i_again0, .int i_d0, .int i_never, .int i_firstCame, .int i_longRun, .int i_moved, .int i_crowd, .int i_l0, .int i_fitMany, .int i_fitLeast, .int i_fitMost, .ref m_fitPost, .ref m_fitEnd, .ref m_keptPosts, .int i_x0]))], [(m_all, .inl (T.2 0, 3952, .inl g_all_139))]] _ _ := G
        have h_145 : (0 : Int) ≤ r_149.toInt := h_145
        have h_146 : r_149.toInt ≤ (9 : Int) := h_146
        refine z_ist C G 0 rfl (vp_in_iff.mpr ⟨by omega, by omega⟩) dX12_landLine_107 (fun H locs G => ?_)
        have G : zS T A s.heap s [[(m_read, .inl (T.2 0, 121, .inl (upd f_read y_132.toNatClampNeg r_149)))], [(mo, .inr (11, [.ref m_all, .ref m_has, .int i_size, .int j_next_133, .int j_where_134, .int j_token_135, .int j_number_136, .int j_word_137, .int j_wrong_138, .int j_farCrossing_120, .ref m_read, .int i_z0, .int i_crossings, .int i_inns, .ref m_posts, .ref m_shut, .ref m_here, .int i_steps, .int i_done, .int i_at, .int i_gone, .ref m_was, .ref m_came, .ref m_seenAt, .ref m_rowWorth, .ref m_farBy, .ref m_used, .int i_everywhere, .int i_again0, .int i_d0, .int i_never, .int i_firstCame, .int i_longRun, .int i_moved, .int i_crowd, .int i_l0, .int i_fitMany, .int i_fitLeast, .int i_fitMost, .ref m_fitPost, .ref m_fitEnd, .ref m_keptPosts, .int i_x0]))], [(m_all, .inl (T.2 0, 3952, .inl g_all_139))]] _ _ := G
        refine lv_goto (tgt := 129) hx hb dX12_landLine_108 (by decide) ?_
        refine lv_aload_n hx hb dX12_landLine_129 rfl (lv_at hl 3 rfl) ?_
        refine z_Vv (bc := [[(mo, .inr (11, [.ref m_all, .ref m_has, .int i_size, .int j_next_133, .int j_where_134, .int j_token_135, .int j_number_136, .int j_word_137, .int j_wrong_138, .int j_farCrossing_120, .ref m_read, .int i_z0, .int i_crossings, .int i_inns, .ref m_posts, .ref m_shut, .ref m_here, .int i_steps, .int i_done, .int i_at, .int i_gone, .ref m_was, .ref m_came, .ref m_seenAt, .ref m_rowWorth, .ref m_farBy, .ref m_used, .int i_everywhere, .int i_again0, .int i_d0, .int i_never, .int i_firstCame, .int i_longRun, .int i_moved, .int i_crowd, .int i_l0, .int i_fitMany, .int i_fitLeast, .int i_fitMost, .ref m_fitPost, .ref m_fitEnd, .ref m_keptPosts, .int i_x0]))], [(m_all, .inl (T.2 0, 3952, .inl g_all_139))]]) (br := [[(m_read, .inl (T.2 0, 121, .inl (upd f_read y_132.toNatClampNeg r_149)))]]) (As := []) (rest := []) C G (c_fm_endsLine l T mo m_all m_has i_size j_next_133 j_where_134 j_token_135 j_number_136 j_word_137 j_wrong_138 j_farCrossing_120 m_read i_z0 i_crossings i_inns m_posts m_shut m_here i_steps i_done i_at i_gone m_was m_came m_seenAt m_rowWorth m_farBy m_used i_everywhere i_again0 i_d0 i_never i_firstCame i_longRun i_moved i_crowd i_l0 i_fitMany i_fitLeast i_fitMost m_fitPost m_fitEnd m_keptPosts i_x0 g_all_139 k n ((pNum k 0 9 (pCr k d2).2).2) (by first | with_reducible assumption | with_reducible rfl | omega | assumption | rfl) (by first | with_reducible assumption | with_reducible rfl | omega | assumption | rfl) (by first | with_reducible assumption | with_reducible rfl | omega | assumption | rfl) h_147) (kV_RX12_140 C.2.2.2.2 (Nat.le_of_ble_eq_true rfl) (Nat.le_of_ble_eq_true rfl)) [1, 2] [0] rfl rfl (ci := 11) (qc := (RX12, TX12, 43)) rfl rfl (List.mem_flatten.mpr ⟨_, List.mem_of_getElem? (i := 0) rfl, List.mem_cons_self⟩) rfl rfl hl.1 dX12_landLine_130 (Nat.le_of_ble_eq_true rfl) (Nat.le_of_ble_eq_true rfl) (fun b1 H locs hw G => ?_)
        refine zEx7 hw ?_
        intro j_next_150 j_where_151 j_token_152 j_number_153 j_word_154 j_wrong_155 g_all_156
        refine zCu7 ?_
        intro hbs9 h_157 h_158 h_159 h_160 h_161 h_162
        clear hw
        subst hbs9
        have G : zS T A s.heap s [[(m_read, .inl (T.2 0, 121, .inl (upd f_read y_132.toNatClampNeg r_149)))], [(mo, .inr (11, [.ref m_all, .ref m_has, .int i_size, .int j_next_150, .int j_where_151, .int j_token_152, .int j_number_153, .int j_word_154, .int j_wrong_155, .int j_farCrossing_120, .ref m_read, .int i_z0, .int i_crossings, .int i_inns, .ref m_posts, .ref m_shut, .ref m_here, .int i_steps, .int i_done, .int i_at, .int i_gone, .ref m_was, .ref m_came, .ref m_seenAt, .ref m_rowWorth, .ref m_farBy, .ref m_used, .int i_everywhere, .int i_again0, .int i_d0, .int i_never, .int i_firstCame, .int i_longRun, .int i_moved, .int i_crowd, .int i_l0, .int i_fitMany, .int i_fitLeast, .int i_fitMost, .ref m_fitPost, .ref m_fitEnd, .ref m_keptPosts, .int i_x0]))], [(m_all, .inl (T.2 0, 3952, .inl g_all_156))]] _ _ := G
        have G := G.sub (bs' := [[(mo, .inr (11, [.ref m_all, .ref m_has, .int i_size, .int j_next_150, .int j_where_151, .int j_token_152, .int j_number_153, .int j_word_154, .int j_wrong_155, .int j_farCrossing_120, .ref m_read, .int i_z0, .int i_crossings, .int i_inns, .ref m_posts, .ref m_shut, .ref m_here, .int i_steps, .int i_done, .int i_at, .int i_gone, .ref m_was, .ref m_came, .ref m_seenAt, .ref m_rowWorth, .ref m_farBy, .ref m_used, .int i_everywhere, .int i_again0, .int i_d0, .int i_never, .int i_firstCame, .int i_longRun, .int i_moved, .int i_crowd, .int i_l0, .int i_fitMany, .int i_fitLeast, .int i_fitMost, .ref m_fitPost, .ref m_fitEnd, .ref m_keptPosts, .int i_x0]))], [(m_all, .inl (T.2 0, 3952, .inl g_all_156))], [(m_read, .inl (T.2 0, 121, .inl (upd f_read y_132.toNatClampNeg r_149)))]]) [1, 2, 0] rfl
        exact z_vret C hr hlocks G (Nat.le_of_ble_eq_true rfl) (Nat.le_of_ble_eq_true rfl) dX12_landLine_133 ⟨j_next_150, j_where_151, j_token_152, j_number_153, j_word_154, j_wrong_155, j_farCrossing_120, g_all_156, (upd f_read y_132.toNatClampNeg r_149), rfl, (by first | with_reducible assumption | omega | trivial | assumption), (by first | with_reducible assumption | omega | trivial | assumption), (by first | with_reducible assumption | omega | trivial | assumption), (by first | with_reducible assumption | omega | trivial | assumption), (h_12.tr (h_126.tr (h_144.tr h_161))), (zLF_upd (k := y_132.toNatClampNeg) (v := r_149) (by assumption) (by have q9 := z_clI (x := y_132) (by omega); omega) (by have q9 := z_clI (x := y_132) (by omega); omega) (by have q9 := z_clI (x := y_132) (by omega); omega) (by have q9 := z_clI (x := y_132) (by omega); omega) (by have q9 := z_clI (x := y_132) (by omega); omega)), (by rw [pLand_p hd hwD (by omega)]; unfold pPW; rw [show (if d1 = 2 then (3 : Int32) else 9) = 9 from if_neg (by omega)]; exact h_162), (by rw [pLand_p hd hwD (by omega)]; unfold pPW; rw [show (if d1 = 2 then (3 : Int32) else 9) = 9 from if_neg (by omega), show (if d1 = 2 then 9 else 16) = 16 from if_neg (by omega), ← h_130, ← h_148]; exact congrArg (fun q9 => upd f_read q9 r_149) (by have q9 := z_clI (x := y_132) (by omega); omega))⟩
      · refine lv_tableIn (tgt := 111) hx hb dX12_landLine_24 (by omega) (by omega) (by rw [c_18]; rfl) (by decide) ?_
        refine lv_aload_n hx hb dX12_landLine_111 rfl (lv_at hl 2 rfl) ?_
        refine z_get C G clX12 1 rfl 10 (by decide) m_fl_RX12_17 rfl dX12_landLine_112 ?_
        refine lv_iconst (v := 1) hx hb dX12_landLine_115 (by decide) ?_
        refine lv_dup2_11 hx hb dX12_landLine_116 rfl rfl ?_
        refine z_ild C G 0 rfl (vp_in_nI (n := 1) (by decide) (by decide)) dX12_landLine_117 ?_
        refine lv_topi (fun v_164 ev_164 => ?_)
        rw [show ((1 : Int32).toNatClampNeg) = 1 from rfl] at ev_164
        subst ev_164
        refine lv_iconst (v := 1) hx hb dX12_landLine_118 (by decide) ?_
        refine lv_aload_n hx hb dX12_landLine_119 rfl (lv_at hl 2 rfl) ?_
        refine z_Vi (bc := [[(mo, .inr (11, [.ref m_all, .ref m_has, .int i_size, .int j_next_1, .int j_where_2, .int j_token_3, .int j_number_4, .int j_word_5, .int j_wrong_6, .int i_farCrossing, .ref m_read, .int i_z0, .int i_crossings, .int i_inns, .ref m_posts, .ref m_shut, .ref m_here, .int i_steps, .int i_done, .int i_at, .int i_gone, .ref m_was, .ref m_came, .ref m_seenAt, .ref m_rowWorth, .ref m_farBy, .ref m_used, .int i_everywhere, .int i_again0, .int i_d0, .int i_never, .int i_firstCame, .int i_longRun, .int i_moved, .int i_crowd, .int i_l0, .int i_fitMany, .int i_fitLeast, .int i_fitMost, .ref m_fitPost, .ref m_fitEnd, .ref m_keptPosts, .int i_x0]))], [(m_all, .inl (T.2 0, 3952, .inl g_all_7))]]) (br := [[(m_read, .inl (T.2 0, 121, .inl f_read))]]) (As := []) (rest := [.int 1, .int (f_read 1), .int 1, .ref m_read]) C G (c_fm_crossingTold l T mo m_all m_has i_size j_next_1 j_where_2 j_token_3 j_number_4 j_word_5 j_wrong_6 i_farCrossing m_read i_z0 i_crossings i_inns m_posts m_shut m_here i_steps i_done i_at i_gone m_was m_came m_seenAt m_rowWorth m_farBy m_used i_everywhere i_again0 i_d0 i_never i_firstCame i_longRun i_moved i_crowd i_l0 i_fitMany i_fitLeast i_fitMost m_fitPost m_fitEnd m_keptPosts i_x0 g_all_7 k n d2 (by first | with_reducible assumption | with_reducible rfl | omega | assumption | rfl) (by first | with_reducible assumption | with_reducible rfl | omega | assumption | rfl) (by first | with_reducible assumption | with_reducible rfl | omega | assumption | rfl) hRd) (kV_RX12_129 C.2.2.2.2 (Nat.le_of_ble_eq_true rfl) (Nat.le_of_ble_eq_true rfl)) [1, 2] [0] rfl rfl (ci := 11) (qc := (RX12, TX12, 43)) rfl rfl (List.mem_flatten.mpr ⟨_, List.mem_of_getElem? (i := 0) rfl, List.mem_cons_self⟩) rfl rfl hl.1 dX12_landLine_120 (Nat.le_of_ble_eq_true rfl) (Nat.le_of_ble_eq_true rfl) (fun r_182 b1 H locs hw G => ?_)
        refine zEx8 hw ?_
        intro j_next_165 j_where_166 j_token_167 j_number_168 j_word_169 j_wrong_170 j_farCrossing_171 g_all_172
        refine zCu10 ?_
        intro hbs9 h_173 h_174 h_175 h_176 h_177 h_178 h_179 h_180 h_181
        clear hw
        subst hbs9
        have G : zS T A s.heap s [[(m_read, .inl (T.2 0, 121, .inl f_read))], [(mo, .inr (11, [.ref m_all, .ref m_has, .int i_size, .int j_next_165, .int j_where_166, .int j_token_167, .int j_number_168, .int j_word_169, .int j_wrong_170, .int j_farCrossing_171, .ref m_read, .int i_z0, .int i_crossings, .int i_inns, .ref m_posts, .ref m_shut, .ref m_here, .int i_steps, .int i_done, .int i_at, .int i_gone, .ref m_was, .ref m_came, .ref m_seenAt, .ref m_rowWorth, .ref m_farBy, .ref m_used, .int i_everywhere, .int i_again0, .int i_d0, .int i_never, .int i_firstCame, .int i_longRun, .int i_moved, .int i_crowd, .int i_l0, .int i_fitMany, .int i_fitLeast, .int i_fitMost, .ref m_fitPost, .ref m_fitEnd, .ref m_keptPosts, .int i_x0]))], [(m_all, .inl (T.2 0, 3952, .inl g_all_172))]] _ _ := G
        refine lv_ishl hx hb dX12_landLine_123 ?_
        refine lv_ior hx hb dX12_landLine_124 ?_
        refine z_ist C G 0 rfl (vp_in_nI (n := 1) (by decide) (by decide)) dX12_landLine_125 (fun H locs G => ?_)
        have G : zS T A s.heap s [[(m_read, .inl (T.2 0, 121, .inl (upd f_read 1 ((f_read 1) ||| (1 <<< (r_182 &&& 31))))))], [(mo, .inr (11, [.ref m_all, .ref m_has, .int i_size, .int j_next_165, .int j_where_166, .int j_token_167, .int j_number_168, .int j_word_169, .int j_wrong_170, .int j_farCrossing_171, .ref m_read, .int i_z0, .int i_crossings, .int i_inns, .ref m_posts, .ref m_shut, .ref m_here, .int i_steps, .int i_done, .int i_at, .int i_gone, .ref m_was, .ref m_came, .ref m_seenAt, .ref m_rowWorth, .ref m_farBy, .ref m_used, .int i_everywhere, .int i_again0, .int i_d0, .int i_never, .int i_firstCame, .int i_longRun, .int i_moved, .int i_crowd, .int i_l0, .int i_fitMany, .int i_fitLeast, .int i_fitMost, .ref m_fitPost, .ref m_fitEnd, .ref m_keptPosts, .int i_x0]))], [(m_all, .inl (T.2 0, 3952, .inl g_all_172))]] _ _ := G
        refine lv_goto (tgt := 129) hx hb dX12_landLine_126 (by decide) ?_
        refine lv_aload_n hx hb dX12_landLine_129 rfl (lv_at hl 2 rfl) ?_
        refine z_Vv (bc := [[(mo, .inr (11, [.ref m_all, .ref m_has, .int i_size, .int j_next_165, .int j_where_166, .int j_token_167, .int j_number_168, .int j_word_169, .int j_wrong_170, .int j_farCrossing_171, .ref m_read, .int i_z0, .int i_crossings, .int i_inns, .ref m_posts, .ref m_shut, .ref m_here, .int i_steps, .int i_done, .int i_at, .int i_gone, .ref m_was, .ref m_came, .ref m_seenAt, .ref m_rowWorth, .ref m_farBy, .ref m_used, .int i_everywhere, .int i_again0, .int i_d0, .int i_never, .int i_firstCame, .int i_longRun, .int i_moved, .int i_crowd, .int i_l0, .int i_fitMany, .int i_fitLeast, .int i_fitMost, .ref m_fitPost, .ref m_fitEnd, .ref m_keptPosts, .int i_x0]))], [(m_all, .inl (T.2 0, 3952, .inl g_all_172))]]) (br := [[(m_read, .inl (T.2 0, 121, .inl (upd f_read 1 ((f_read 1) ||| (1 <<< (r_182 &&& 31))))))]]) (As := []) (rest := []) C G (c_fm_endsLine l T mo m_all m_has i_size j_next_165 j_where_166 j_token_167 j_number_168 j_word_169 j_wrong_170 j_farCrossing_171 m_read i_z0 i_crossings i_inns m_posts m_shut m_here i_steps i_done i_at i_gone m_was m_came m_seenAt m_rowWorth m_farBy m_used i_everywhere i_again0 i_d0 i_never i_firstCame i_longRun i_moved i_crowd i_l0 i_fitMany i_fitLeast i_fitMost m_fitPost m_fitEnd m_keptPosts i_x0 g_all_172 k n ((pCr k d2).2) (by first | with_reducible assumption | with_reducible rfl | omega | assumption | rfl) (by first | with_reducible assumption | with_reducible rfl | omega | assumption | rfl) (by first | with_reducible assumption | with_reducible rfl | omega | assumption | rfl) h_180) (kV_RX12_140 C.2.2.2.2 (Nat.le_of_ble_eq_true rfl) (Nat.le_of_ble_eq_true rfl)) [1, 2] [0] rfl rfl (ci := 11) (qc := (RX12, TX12, 43)) rfl rfl (List.mem_flatten.mpr ⟨_, List.mem_of_getElem? (i := 0) rfl, List.mem_cons_self⟩) rfl rfl hl.1 dX12_landLine_130 (Nat.le_of_ble_eq_true rfl) (Nat.le_of_ble_eq_true rfl) (fun b1 H locs hw G => ?_)
        refine zEx7 hw ?_
        intro j_next_183 j_where_184 j_token_185 j_number_186 j_word_187 j_wrong_188 g_all_189
        refine zCu7 ?_
        intro hbs9 h_190 h_191 h_192 h_193 h_194 h_195
        clear hw
        subst hbs9
        have G : zS T A s.heap s [[(m_read, .inl (T.2 0, 121, .inl (upd f_read 1 ((f_read 1) ||| (1 <<< (r_182 &&& 31))))))], [(mo, .inr (11, [.ref m_all, .ref m_has, .int i_size, .int j_next_183, .int j_where_184, .int j_token_185, .int j_number_186, .int j_word_187, .int j_wrong_188, .int j_farCrossing_171, .ref m_read, .int i_z0, .int i_crossings, .int i_inns, .ref m_posts, .ref m_shut, .ref m_here, .int i_steps, .int i_done, .int i_at, .int i_gone, .ref m_was, .ref m_came, .ref m_seenAt, .ref m_rowWorth, .ref m_farBy, .ref m_used, .int i_everywhere, .int i_again0, .int i_d0, .int i_never, .int i_firstCame, .int i_longRun, .int i_moved, .int i_crowd, .int i_l0, .int i_fitMany, .int i_fitLeast, .int i_fitMost, .ref m_fitPost, .ref m_fitEnd, .ref m_keptPosts, .int i_x0]))], [(m_all, .inl (T.2 0, 3952, .inl g_all_189))]] _ _ := G
        have G := G.sub (bs' := [[(mo, .inr (11, [.ref m_all, .ref m_has, .int i_size, .int j_next_183, .int j_where_184, .int j_token_185, .int j_number_186, .int j_word_187, .int j_wrong_188, .int j_farCrossing_171, .ref m_read, .int i_z0, .int i_crossings, .int i_inns, .ref m_posts, .ref m_shut, .ref m_here, .int i_steps, .int i_done, .int i_at, .int i_gone, .ref m_was, .ref m_came, .ref m_seenAt, .ref m_rowWorth, .ref m_farBy, .ref m_used, .int i_everywhere, .int i_again0, .int i_d0, .int i_never, .int i_firstCame, .int i_longRun, .int i_moved, .int i_crowd, .int i_l0, .int i_fitMany, .int i_fitLeast, .int i_fitMost, .ref m_fitPost, .ref m_fitEnd, .ref m_keptPosts, .int i_x0]))], [(m_all, .inl (T.2 0, 3952, .inl g_all_189))], [(m_read, .inl (T.2 0, 121, .inl (upd f_read 1 ((f_read 1) ||| (1 <<< (r_182 &&& 31))))))]]) [1, 2, 0] rfl
        exact z_vret C hr hlocks G (Nat.le_of_ble_eq_true rfl) (Nat.le_of_ble_eq_true rfl) dX12_landLine_133 ⟨j_next_183, j_where_184, j_token_185, j_number_186, j_word_187, j_wrong_188, j_farCrossing_171, g_all_189, (upd f_read 1 ((f_read 1) ||| (1 <<< (r_182 &&& 31)))), rfl, (by first | with_reducible assumption | omega | trivial | assumption), (by first | with_reducible assumption | omega | trivial | assumption), (by first | with_reducible assumption | omega | trivial | assumption), (by first | with_reducible assumption | omega | trivial | assumption), (h_12.tr (h_177.tr h_194)), (zLF_upd (k := 1) (v := ((f_read 1) ||| (1 <<< (r_182 &&& 31)))) (by assumption) (by omega) (by omega) (by omega) (by omega) (by omega)), (by rw [pLand_i hd hwD (by omega)]; exact h_195), (by rw [pLand_i hd hwD (by omega)]; unfold pInn; rw [← h_181])⟩
  · have c_17n : ¬ j_wrong_6.toInt = (0 : Int) := fun q => c_17 ((fa_eq _ _).mpr q)
    refine lv_iconst (v := 0) hx hb dX12_landLine_19 (by decide) ?_
    refine lv_goto (tgt := 24) hx hb dX12_landLine_20 (by decide) ?_
    refine lv_tableOut (tgt := 129) hx hb dX12_landLine_24 (by decide) (by decide) ?_
    refine lv_aload_n hx hb dX12_landLine_129 rfl (lv_at hl 2 rfl) ?_
    refine z_Vv (bc := [[(mo, .inr (11, [.ref m_all, .ref m_has, .int i_size, .int j_next_1, .int j_where_2, .int j_token_3, .int j_number_4, .int j_word_5, .int j_wrong_6, .int i_farCrossing, .ref m_read, .int i_z0, .int i_crossings, .int i_inns, .ref m_posts, .ref m_shut, .ref m_here, .int i_steps, .int i_done, .int i_at, .int i_gone, .ref m_was, .ref m_came, .ref m_seenAt, .ref m_rowWorth, .ref m_farBy, .ref m_used, .int i_everywhere, .int i_again0, .int i_d0, .int i_never, .int i_firstCame, .int i_longRun, .int i_moved, .int i_crowd, .int i_l0, .int i_fitMany, .int i_fitLeast, .int i_fitMost, .ref m_fitPost, .ref m_fitEnd, .ref m_keptPosts, .int i_x0]))], [(m_all, .inl (T.2 0, 3952, .inl g_all_7))]]) (br := [[(m_read, .inl (T.2 0, 121, .inl f_read))]]) (As := []) (rest := []) C G (c_fm_endsLine l T mo m_all m_has i_size j_next_1 j_where_2 j_token_3 j_number_4 j_word_5 j_wrong_6 i_farCrossing m_read i_z0 i_crossings i_inns m_posts m_shut m_here i_steps i_done i_at i_gone m_was m_came m_seenAt m_rowWorth m_farBy m_used i_everywhere i_again0 i_d0 i_never i_firstCame i_longRun i_moved i_crowd i_l0 i_fitMany i_fitLeast i_fitMost m_fitPost m_fitEnd m_keptPosts i_x0 g_all_7 k n d2 (by first | with_reducible assumption | with_reducible rfl | omega | assumption | rfl) (by first | with_reducible assumption | with_reducible rfl | omega | assumption | rfl) (by first | with_reducible assumption | with_reducible rfl | omega | assumption | rfl) hRd) (kV_RX12_140 C.2.2.2.2 (Nat.le_of_ble_eq_true rfl) (Nat.le_of_ble_eq_true rfl)) [1, 2] [0] rfl rfl (ci := 11) (qc := (RX12, TX12, 43)) rfl rfl (List.mem_flatten.mpr ⟨_, List.mem_of_getElem? (i := 0) rfl, List.mem_cons_self⟩) rfl rfl hl.1 dX12_landLine_130 (Nat.le_of_ble_eq_true rfl) (Nat.le_of_ble_eq_true rfl) (fun b1 H locs hw G => ?_)
    refine zEx7 hw ?_
    intro j_next_197 j_where_198 j_token_199 j_number_200 j_word_201 j_wrong_202 g_all_203
    refine zCu7 ?_
    intro hbs9 h_204 h_205 h_206 h_207 h_208 h_209
    clear hw
    subst hbs9
    have G : zS T A s.heap s [[(m_read, .inl (T.2 0, 121, .inl f_read))], [(mo, .inr (11, [.ref m_all, .ref m_has, .int i_size, .int j_next_197, .int j_where_198, .int j_token_199, .int j_number_200, .int j_word_201, .int j_wrong_202, .int i_farCrossing, .ref m_read, .int i_z0, .int i_crossings, .int i_inns, .ref m_posts, .ref m_shut, .ref m_here, .int i_steps, .int i_done, .int i_at, .int i_gone, .ref m_was, .ref m_came, .ref m_seenAt, .ref m_rowWorth, .ref m_farBy, .ref m_used, .int i_everywhere, .int i_again0, .int i_d0, .int i_never, .int i_firstCame, .int i_longRun, .int i_moved, .int i_crowd, .int i_l0, .int i_fitMany, .int i_fitLeast, .int i_fitMost, .ref m_fitPost, .ref m_fitEnd, .ref m_keptPosts, .int i_x0]))], [(m_all, .inl (T.2 0, 3952, .inl g_all_203))]] _ _ := G
    have G := G.sub (bs' := [[(mo, .inr (11, [.ref m_all, .ref m_has, .int i_size, .int j_next_197, .int j_where_198, .int j_token_199, .int j_number_200, .int j_word_201, .int j_wrong_202, .int i_farCrossing, .ref m_read, .int i_z0, .int i_crossings, .int i_inns, .ref m_posts, .ref m_shut, .ref m_here, .int i_steps, .int i_done, .int i_at, .int i_gone, .ref m_was, .ref m_came, .ref m_seenAt, .ref m_rowWorth, .ref m_farBy, .ref m_used, .int i_everywhere, .int i_again0, .int i_d0, .int i_never, .int i_firstCame, .int i_longRun, .int i_moved, .int i_crowd, .int i_l0, .int i_fitMany, .int i_fitLeast, .int i_fitMost, .ref m_fitPost, .ref m_fitEnd, .ref m_keptPosts, .int i_x0]))], [(m_all, .inl (T.2 0, 3952, .inl g_all_203))], [(m_read, .inl (T.2 0, 121, .inl f_read))]]) [1, 2, 0] rfl
    exact z_vret C hr hlocks G (Nat.le_of_ble_eq_true rfl) (Nat.le_of_ble_eq_true rfl) dX12_landLine_133 ⟨j_next_197, j_where_198, j_token_199, j_number_200, j_word_201, j_wrong_202, i_farCrossing, g_all_203, f_read, rfl, (by first | with_reducible assumption | omega | trivial | assumption), (by first | with_reducible assumption | omega | trivial | assumption), (by first | with_reducible assumption | omega | trivial | assumption), (by first | with_reducible assumption | omega | trivial | assumption), (h_12.tr h_208), (by assumption), (by rw [pLand_w hd (by first | (exact fun z9 => by have := hdr z9; omega) | (rw [← hA6D]; omega))]; exact h_209), (by rw [pLand_w hd (by first | (exact fun z9 => by have := hdr z9; omega) | (rw [← hA6D]; omega))])⟩
set_option maxHeartbeats 4000000 in
set_option maxRecDepth 100000 in
/-- c_fm_dayLine -/
theorem c_fm_dayLine (l : Launch) (T : zTy) (mo : Nat) (m_all : Nat) (m_has : Nat) (i_size : Int32) (i_next : Int32) (i_where : Int32) (i_token : Int32) (i_number : Int32) (i_word : Int32) (i_wrong : Int32) (i_farCrossing : Int32) (m_read : Nat) (i_z0 : Int32) (i_crossings : Int32) (i_inns : Int32) (m_posts : Nat) (m_shut : Nat) (m_here : Nat) (i_steps : Int32) (i_done : Int32) (i_at : Int32) (i_gone : Int32) (m_was : Nat) (m_came : Nat) (m_seenAt : Nat) (m_rowWorth : Nat) (m_farBy : Nat) (m_used : Nat) (i_everywhere : Int32) (i_again0 : Int32) (i_d0 : Int32) (i_never : Int32) (i_firstCame : Int32) (i_longRun : Int32) (i_moved : Int32) (i_crowd : Int32) (i_l0 : Int32) (i_fitMany : Int32) (i_fitLeast : Int32) (i_fitMost : Int32) (m_fitPost : Nat) (m_fitEnd : Nat) (m_keptPosts : Nat) (i_x0 : Int32) (f_all : Nat → Int32) (f_read : Nat → Int32) (k : pT) (n : Nat) (a : pS) (hsz : i_size.toInt ≤ 600) (hn0 : 0 ≤ i_next.toInt) (hns : i_next.toInt ≤ i_size.toInt) (hR : zCF 40 f_read) (hA : zRr k n i_size i_next i_where i_token i_number i_word i_wrong i_farCrossing f_all a) (hw : a.2.1.toInt = 0) : zMv l T yX12_dayLine cX12_dayLine 6 6 0 0 [.ref mo] [[(mo, .inr (11, [.ref m_all, .ref m_has, .int i_size, .int i_next, .int i_where, .int i_token, .int i_number, .int i_word, .int i_wrong, .int i_farCrossing, .ref m_read, .int i_z0, .int i_crossings, .int i_inns, .ref m_posts, .ref m_shut, .ref m_here, .int i_steps, .int i_done, .int i_at, .int i_gone, .ref m_was, .ref m_came, .ref m_seenAt, .ref m_rowWorth, .ref m_farBy, .ref m_used, .int i_everywhere, .int i_again0, .int i_d0, .int i_never, .int i_firstCame, .int i_longRun, .int i_moved, .int i_crowd, .int i_l0, .int i_fitMany, .int i_fitLeast, .int i_fitMost, .ref m_fitPost, .ref m_fitEnd, .ref m_keptPosts, .int i_x0]))], [(m_all, .inl (T.2 0, 3952, .inl f_all))], [(m_read, .inl (T.2 0, 121, .inl f_read))]] (fun bs => ∃ (j_next : Int32) (j_where : Int32) (j_token : Int32) (j_number : Int32) (j_word : Int32) (j_wrong : Int32) (g_all : Nat → Int32) (g_read : Nat → Int32), bs = [[(mo, .inr (11, [.ref m_all, .ref m_has, .int i_size, .int j_next, .int j_where, .int j_token, .int j_number, .int j_word, .int j_wrong, .int i_farCrossing, .ref m_read, .int i_z0, .int i_crossings, .int i_inns, .ref m_posts, .ref m_shut, .ref m_here, .int i_steps, .int i_done, .int i_at, .int i_gone, .ref m_was, .ref m_came, .ref m_seenAt, .ref m_rowWorth, .ref m_farBy, .ref m_used, .int i_everywhere, .int i_again0, .int i_d0, .int i_never, .int i_firstCame, .int i_longRun, .int i_moved, .int i_crowd, .int i_l0, .int i_fitMany, .int i_fitLeast, .int i_fitMost, .ref m_fitPost, .ref m_fitEnd, .ref m_keptPosts, .int i_x0]))], [(m_all, .inl (T.2 0, 3952, .inl g_all))], [(m_read, .inl (T.2 0, 121, .inl g_read))]] ∧ 0 ≤ j_next.toInt ∧ j_next.toInt ≤ i_size.toInt ∧ i_next.toInt ≤ j_next.toInt ∧ (¬ j_wrong.toInt = 0 ∨ i_next.toInt < j_next.toInt ∨ j_token.toInt = 0) ∧ zPal f_all g_all ∧ zCF 40 g_read ∧ zRr k n i_size j_next j_where j_token j_number j_word j_wrong i_farCrossing g_all (pDay k a f_read).1 ∧ g_read = (pDay k a f_read).2) := by
  refine zMv_of (own := RX12) (by decide) rfl (Nat.le_of_ble_eq_true rfl) ?_
  intro p e s m args below meth c A ls C hr hlocks hnm hAe G hl
  have hx := C.1
  have hb := C.2.1
  have hl : lv_has ls 6 [(0, .ref mo)] := hl
  have hok := zRr_ok hA
  refine zAn6 (id hA) ?_
  intro hA1 hA6 hA7 hA8 hA9 hA10
  replace hA7 : zHd _ := hA7
  have hka : zHd _ := hok a.1 hA1.2.2.2.2
  have hkb := hka.1
  have hkc := hka.2.1
  have hT4 := pTk_le hok hA1.2.2.2.2
  refine zAn5 (hA7 hw) ?_
  intro t1 t2 t3 t4 t5
  replace t4 : zHd _ := t4
  replace t5 : zHd _ := t5
  have t3i : i_token.toInt = (pTk k a.1 : Int) := by rw [t3]; exact nI_toInt (by omega)
  have hR0 : 0 ≤ (f_read 0).toInt ∧ (f_read 0).toInt ≤ 40 := hR
  refine lv_aload_n hx hb dX12_dayLine_0 rfl (lv_at hl 0 rfl) ?_
  refine z_get C G clX12 0 rfl 4 (by decide) m_fl_RX12_77 rfl dX12_dayLine_1 ?_
  refine lv_istore_n (lv' := [(1, .int i_where), (0, .ref mo)]) hx hb dX12_dayLine_4 rfl hl (by decide) rfl (fun ls hl => ?_)
  refine lv_aload_n hx hb dX12_dayLine_5 rfl (lv_at hl 1 rfl) ?_
  refine lv_iconst (v := 5) hx hb dX12_dayLine_6 (by decide) ?_
  refine lv_bipush (v := 10) hx hb dX12_dayLine_7 (by decide) ?_
  refine z_Vi (bc := [[(mo, .inr (11, [.ref m_all, .ref m_has, .int i_size, .int i_next, .int i_where, .int i_token, .int i_number, .int i_word, .int i_wrong, .int i_farCrossing, .ref m_read, .int i_z0, .int i_crossings, .int i_inns, .ref m_posts, .ref m_shut, .ref m_here, .int i_steps, .int i_done, .int i_at, .int i_gone, .ref m_was, .ref m_came, .ref m_seenAt, .ref m_rowWorth, .ref m_farBy, .ref m_used, .int i_everywhere, .int i_again0, .int i_d0, .int i_never, .int i_firstCame, .int i_longRun, .int i_moved, .int i_crowd, .int i_l0, .int i_fitMany, .int i_fitLeast, .int i_fitMost, .ref m_fitPost, .ref m_fitEnd, .ref m_keptPosts, .int i_x0]))], [(m_all, .inl (T.2 0, 3952, .inl f_all))]]) (br := [[(m_read, .inl (T.2 0, 121, .inl f_read))]]) (As := [.int 5, .int 10]) (rest := []) C G (c_fm_wordIn l T mo m_all m_has i_size i_next i_where i_token i_number i_word i_wrong i_farCrossing m_read i_z0 i_crossings i_inns m_posts m_shut m_here i_steps i_done i_at i_gone m_was m_came m_seenAt m_rowWorth m_farBy m_used i_everywhere i_again0 i_d0 i_never i_firstCame i_longRun i_moved i_crowd i_l0 i_fitMany i_fitLeast i_fitMost m_fitPost m_fitEnd m_keptPosts i_x0 f_all k n a 5 10 5 10 (by first | with_reducible assumption | with_reducible rfl | omega | assumption | rfl) (by first | with_reducible assumption | with_reducible rfl | omega | assumption | rfl) (by first | with_reducible assumption | with_reducible rfl | omega | assumption | rfl) hA rfl rfl) (kV_RX12_133 C.2.2.2.2 (Nat.le_of_ble_eq_true rfl) (Nat.le_of_ble_eq_true rfl)) [0, 1] [2] rfl rfl (ci := 11) (qc := (RX12, TX12, 43)) rfl rfl (List.mem_flatten.mpr ⟨_, List.mem_of_getElem? (i := 0) rfl, List.mem_cons_self⟩) rfl rfl hl.1 dX12_dayLine_9 (Nat.le_of_ble_eq_true rfl) (Nat.le_of_ble_eq_true rfl) (fun r_16 b1 H locs hw G => ?_)
  refine zEx7 hw ?_
  intro j_next_1 j_where_2 j_token_3 j_number_4 j_word_5 j_wrong_6 g_all_7
  refine zCu9 ?_
  intro hbs9 h_8 h_9 h_10 h_11 h_12 h_13 h_14 h_15
  clear hw
  subst hbs9
  have G : zS T A s.heap s [[(m_read, .inl (T.2 0, 121, .inl f_read))], [(mo, .inr (11, [.ref m_all, .ref m_has, .int i_size, .int j_next_1, .int j_where_2, .int j_token_3, .int j_number_4, .int j_word_5, .int j_wrong_6, .int i_farCrossing, .ref m_read, .int i_z0, .int i_crossings, .int i_inns, .ref m_posts, .ref m_shut, .ref m_here, .int i_steps, .int i_done, .int i_at, .int i_gone, .ref m_was, .ref m_came, .ref m_seenAt, .ref m_rowWorth, .ref m_farBy, .ref m_used, .int i_everywhere, .int i_again0, .int i_d0, .int i_never, .int i_firstCame, .int i_longRun, .int i_moved, .int i_crowd, .int i_l0, .int i_fitMany, .int i_fitLeast, .int i_fitMost, .ref m_fitPost, .ref m_fitEnd, .ref m_keptPosts, .int i_x0]))], [(m_all, .inl (T.2 0, 3952, .inl g_all_7))]] _ _ := G
  have h_13 : (r_16.toInt = 0 ∨ (5 : Int) ≤ r_16.toInt ∧ r_16.toInt ≤ (10 : Int)) := h_13
  obtain ⟨d1, d2, hd⟩ : ∃ (d1 : Nat) (d2 : pS), pWord k 5 10 a = (d1, d2) := ⟨_, _, rfl⟩
  have hRd : zRr k n i_size j_next_1 j_where_2 j_token_3 j_number_4 j_word_5 j_wrong_6 i_farCrossing g_all_7 d2 := by have q9 := h_14; rw [hd] at q9; exact q9
  have hvd : r_16 = nI d1 := by have q9 := h_15; rw [hd] at q9; exact q9
  have hokD := zRr_ok hRd
  refine zAn6 (id hRd) ?_
  intro hA1D hA6D hA7D hA8D hA9D hA10D
  replace hA7D : zHd _ := hA7D
  have hkaD : zHd _ := hokD d2.1 hA1D.2.2.2.2
  have hkbD := hkaD.1
  have hkcD := hkaD.2.1
  have hT4D := pTk_le hokD hA1D.2.2.2.2
  have hdr : d2.2.1.toInt = 0 → 5 ≤ d1 ∧ d1 ≤ 10 := fun q9 => by have q8 := pWord_r (k := k) (lo := 5) (hi := 10) (a := a) (by rw [hd]; exact q9); have q6 := q8.2.2.2; rw [hd] at q6; have q7 : d1 = pWd k a.1 := congrArg Prod.fst q6; omega
  have hd4 : d1 ≤ 10 := by have q9 := pWord_1 k 5 10 a; rw [hd] at q9; exact q9
  have hdi : (r_16).toInt = (d1 : Int) := by rw [hvd]; exact nI_toInt (by omega)
  refine lv_iconst (v := 5) hx hb dX12_dayLine_12 (by decide) ?_
  refine lv_isub hx hb dX12_dayLine_13 ?_
  refine lv_topi (fun y_17 ey_17 => ?_)
  have ey_17i : y_17.toInt = r_16.toInt - (5 : Int) := by rw [ey_17]; exact z_isubI (x := r_16) (y := (5 : Int32)) (by show -2147483648 ≤ r_16.toInt - (5 : Int); omega) (by show r_16.toInt - (5 : Int) < 2147483648; omega)
  refine lv_istore_n (lv' := [(2, .int y_17), (1, .int i_where), (0, .ref mo)]) hx hb dX12_dayLine_14 rfl hl (by decide) rfl (fun ls hl => ?_)
  refine zMt2 (T := T) 39 (fun (gb : Nat → Int32) (b : pS) => [[(m_read, .inl (T.2 0, 121, .inl f_read))], [(mo, .inr (11, [.ref m_all, .ref m_has, .int i_size, .int j_next_1, .int j_where_2, .int j_token_3, .int j_number_4, .int j_word_5, .int j_wrong_6, .int i_farCrossing, .ref m_read, .int i_z0, .int i_crossings, .int i_inns, .ref m_posts, .ref m_shut, .ref m_here, .int i_steps, .int i_done, .int i_at, .int i_gone, .ref m_was, .ref m_came, .ref m_seenAt, .ref m_rowWorth, .ref m_farBy, .ref m_used, .int i_everywhere, .int i_again0, .int i_d0, .int i_never, .int i_firstCame, .int i_longRun, .int i_moved, .int i_crowd, .int i_l0, .int i_fitMany, .int i_fitLeast, .int i_fitMost, .ref m_fitPost, .ref m_fitEnd, .ref m_keptPosts, .int i_x0]))], [(m_all, .inl (T.2 0, 3952, .inl gb))]]) (fun (gb : Nat → Int32) (b : pS) => [(2, .int y_17), (1, .int i_where), (0, .ref mo)]) (fun (gb : Nat → Int32) (b : pS) => b = pDB 40 i_where f_read d2 ∧ zRr k n i_size j_next_1 j_where_2 j_token_3 j_number_4 j_word_5 j_wrong_6 i_farCrossing gb b ∧ zPal f_all gb) G hl ?_ (fun jn_39 => ?_)
  · intro gb b hI9 H locs ls G hl
    replace hI9 : b = pDB 40 i_where f_read d2 ∧ zRr k n i_size j_next_1 j_where_2 j_token_3 j_number_4 j_word_5 j_wrong_6 i_farCrossing gb b ∧ zPal f_all gb := hI9
    refine zAn3 hI9 ?_
    intro hbq hRb hpgb
    clear hI9
    replace G : zS T A s.heap s [[(m_read, .inl (T.2 0, 121, .inl f_read))], [(mo, .inr (11, [.ref m_all, .ref m_has, .int i_size, .int j_next_1, .int j_where_2, .int j_token_3, .int j_number_4, .int j_word_5, .int j_wrong_6, .int i_farCrossing, .ref m_read, .int i_z0, .int i_crossings, .int i_inns, .ref m_posts, .ref m_shut, .ref m_here, .int i_steps, .int i_done, .int i_at, .int i_gone, .ref m_was, .ref m_came, .ref m_seenAt, .ref m_rowWorth, .ref m_farBy, .ref m_used, .int i_everywhere, .int i_again0, .int i_d0, .int i_never, .int i_firstCame, .int i_longRun, .int i_moved, .int i_crowd, .int i_l0, .int i_fitMany, .int i_fitLeast, .int i_fitMost, .ref m_fitPost, .ref m_fitEnd, .ref m_keptPosts, .int i_x0]))], [(m_all, .inl (T.2 0, 3952, .inl gb))]] _ _ := G
    replace hl : lv_has ls 6 [(2, .int y_17), (1, .int i_where), (0, .ref mo)] := hl
    refine lv_aload_n hx hb dX12_dayLine_39 rfl (lv_at hl 2 rfl) ?_
    refine lv_iconst (v := 0) hx hb dX12_dayLine_40 (by decide) ?_
    refine lv_bipush (v := 6) hx hb dX12_dayLine_41 (by decide) ?_
    refine z_Vi (bc := [[(mo, .inr (11, [.ref m_all, .ref m_has, .int i_size, .int j_next_1, .int j_where_2, .int j_token_3, .int j_number_4, .int j_word_5, .int j_wrong_6, .int i_farCrossing, .ref m_read, .int i_z0, .int i_crossings, .int i_inns, .ref m_posts, .ref m_shut, .ref m_here, .int i_steps, .int i_done, .int i_at, .int i_gone, .ref m_was, .ref m_came, .ref m_seenAt, .ref m_rowWorth, .ref m_farBy, .ref m_used, .int i_everywhere, .int i_again0, .int i_d0, .int i_never, .int i_firstCame, .int i_longRun, .int i_moved, .int i_crowd, .int i_l0, .int i_fitMany, .int i_fitLeast, .int i_fitMost, .ref m_fitPost, .ref m_fitEnd, .ref m_keptPosts, .int i_x0]))], [(m_all, .inl (T.2 0, 3952, .inl gb))]]) (br := [[(m_read, .inl (T.2 0, 121, .inl f_read))]]) (As := [.int 0, .int 6]) (rest := []) C G (c_fm_numbered l T mo m_all m_has i_size j_next_1 j_where_2 j_token_3 j_number_4 j_word_5 j_wrong_6 i_farCrossing m_read i_z0 i_crossings i_inns m_posts m_shut m_here i_steps i_done i_at i_gone m_was m_came m_seenAt m_rowWorth m_farBy m_used i_everywhere i_again0 i_d0 i_never i_firstCame i_longRun i_moved i_crowd i_l0 i_fitMany i_fitLeast i_fitMost m_fitPost m_fitEnd m_keptPosts i_x0 gb k n b 0 6 (by first | with_reducible assumption | with_reducible rfl | omega | assumption | rfl) (by first | with_reducible assumption | with_reducible rfl | omega | assumption | rfl) (by first | with_reducible assumption | with_reducible rfl | omega | assumption | rfl) (by decide) hRb) (kV_RX12_122 C.2.2.2.2 (Nat.le_of_ble_eq_true rfl) (Nat.le_of_ble_eq_true rfl)) [1, 2] [0] rfl rfl (ci := 11) (qc := (RX12, TX12, 43)) rfl rfl (List.mem_flatten.mpr ⟨_, List.mem_of_getElem? (i := 0) rfl, List.mem_cons_self⟩) rfl rfl hl.1 dX12_dayLine_43 (Nat.le_of_ble_eq_true rfl) (Nat.le_of_ble_eq_true rfl) (fun r_34 b1 H locs hw G => ?_)
    refine zEx7 hw ?_
    intro j_next_18 j_where_19 j_token_20 j_number_21 j_word_22 j_wrong_23 g_all_24
    refine zCu10 ?_
    intro hbs9 h_25 h_26 h_27 h_28 h_29 h_30 h_31 h_32 h_33
    clear hw
    subst hbs9
    have G : zS T A s.heap s [[(m_read, .inl (T.2 0, 121, .inl f_read))], [(mo, .inr (11, [.ref m_all, .ref m_has, .int i_size, .int j_next_18, .int j_where_19, .int j_token_20, .int j_number_21, .int j_word_22, .int j_wrong_23, .int i_farCrossing, .ref m_read, .int i_z0, .int i_crossings, .int i_inns, .ref m_posts, .ref m_shut, .ref m_here, .int i_steps, .int i_done, .int i_at, .int i_gone, .ref m_was, .ref m_came, .ref m_seenAt, .ref m_rowWorth, .ref m_farBy, .ref m_used, .int i_everywhere, .int i_again0, .int i_d0, .int i_never, .int i_firstCame, .int i_longRun, .int i_moved, .int i_crowd, .int i_l0, .int i_fitMany, .int i_fitLeast, .int i_fitMost, .ref m_fitPost, .ref m_fitEnd, .ref m_keptPosts, .int i_x0]))], [(m_all, .inl (T.2 0, 3952, .inl g_all_24))]] _ _ := G
    have h_30 : (0 : Int) ≤ r_34.toInt := h_30
    have h_31 : r_34.toInt ≤ (6 : Int) := h_31
    refine lv_istore_n (lv' := [(3, .int r_34), (2, .int y_17), (1, .int i_where), (0, .ref mo)]) hx hb dX12_dayLine_46 rfl hl (by decide) rfl (fun ls hl => ?_)
    refine lv_iload_n hx hb dX12_dayLine_47 rfl (lv_at hl 1 rfl) ?_
    refine lv_iconst (v := 3) hx hb dX12_dayLine_48 (by decide) ?_
    refine lv_icmp_le (tgt := 61) hx hb dX12_dayLine_49 (by decide) (fun c_35 => ?_) (fun c_35 => ?_)
    · have c_35n : y_17.toInt ≤ (3 : Int) := (fa_le _ _).mp c_35
      refine lv_iconst (v := (-1)) hx hb dX12_dayLine_61 (by decide) ?_
      refine lv_istore (lv' := [(4, .int (-1)), (3, .int r_34), (2, .int y_17), (1, .int i_where), (0, .ref mo)]) hx hb dX12_dayLine_62 hl (by decide) rfl (fun ls hl => ?_)
      refine lv_aload_n hx hb dX12_dayLine_64 rfl (lv_at hl 4 rfl) ?_
      refine z_get C G clX12 1 rfl 10 (by decide) m_fl_RX12_17 rfl dX12_dayLine_65 ?_
      refine lv_iconst (v := 0) hx hb dX12_dayLine_68 (by decide) ?_
      refine z_ild C G 0 rfl (vp_in_nI (n := 0) (by decide) (by decide)) dX12_dayLine_69 ?_
      refine lv_topi (fun v_36 ev_36 => ?_)
      rw [show ((0 : Int32).toNatClampNeg) = 0 from rfl] at ev_36
      subst ev_36
      refine lv_bipush (v := 40) hx hb dX12_dayLine_70 (by decide) ?_
      refine lv_icmp_ge (tgt := 126) hx hb dX12_dayLine_72 (by decide) (fun c_37 => ?_) (fun c_37 => ?_)
      · have c_37n : (40 : Int) ≤ (f_read 0).toInt := (fa_le _ _).mp c_37
        refine lv_aload_n hx hb dX12_dayLine_126 rfl (lv_at hl 4 rfl) ?_
        refine z_Vv (bc := [[(mo, .inr (11, [.ref m_all, .ref m_has, .int i_size, .int j_next_18, .int j_where_19, .int j_token_20, .int j_number_21, .int j_word_22, .int j_wrong_23, .int i_farCrossing, .ref m_read, .int i_z0, .int i_crossings, .int i_inns, .ref m_posts, .ref m_shut, .ref m_here, .int i_steps, .int i_done, .int i_at, .int i_gone, .ref m_was, .ref m_came, .ref m_seenAt, .ref m_rowWorth, .ref m_farBy, .ref m_used, .int i_everywhere, .int i_again0, .int i_d0, .int i_never, .int i_firstCame, .int i_longRun, .int i_moved, .int i_crowd, .int i_l0, .int i_fitMany, .int i_fitLeast, .int i_fitMost, .ref m_fitPost, .ref m_fitEnd, .ref m_keptPosts, .int i_x0]))], [(m_all, .inl (T.2 0, 3952, .inl g_all_24))]]) (br := [[(m_read, .inl (T.2 0, 121, .inl f_read))]]) (As := []) (rest := []) C G (c_fm_endsLine l T mo m_all m_has i_size j_next_18 j_where_19 j_token_20 j_number_21 j_word_22 j_wrong_23 i_farCrossing m_read i_z0 i_crossings i_inns m_posts m_shut m_here i_steps i_done i_at i_gone m_was m_came m_seenAt m_rowWorth m_farBy m_used i_everywhere i_again0 i_d0 i_never i_firstCame i_longRun i_moved i_crowd i_l0 i_fitMany i_fitLeast i_fitMost m_fitPost m_fitEnd m_keptPosts i_x0 g_all_24 k n ((pNum k 0 6 b).2) (by first | with_reducible assumption | with_reducible rfl | omega | assumption | rfl) (by first | with_reducible assumption | with_reducible rfl | omega | assumption | rfl) (by first | with_reducible assumption | with_reducible rfl | omega | assumption | rfl) h_32) (kV_RX12_140 C.2.2.2.2 (Nat.le_of_ble_eq_true rfl) (Nat.le_of_ble_eq_true rfl)) [1, 2] [0] rfl rfl (ci := 11) (qc := (RX12, TX12, 43)) rfl rfl (List.mem_flatten.mpr ⟨_, List.mem_of_getElem? (i := 0) rfl, List.mem_cons_self⟩) rfl rfl hl.1 dX12_dayLine_127 (Nat.le_of_ble_eq_true rfl) (Nat.le_of_ble_eq_true rfl) (fun b1 H locs hw G => ?_)
        refine zEx7 hw ?_
        intro j_next_38 j_where_39 j_token_40 j_number_41 j_word_42 j_wrong_43 g_all_44
        refine zCu7 ?_
        intro hbs9 h_45 h_46 h_47 h_48 h_49 h_50
        clear hw
        subst hbs9
        have G : zS T A s.heap s [[(m_read, .inl (T.2 0, 121, .inl f_read))], [(mo, .inr (11, [.ref m_all, .ref m_has, .int i_size, .int j_next_38, .int j_where_39, .int j_token_40, .int j_number_41, .int j_word_42, .int j_wrong_43, .int i_farCrossing, .ref m_read, .int i_z0, .int i_crossings, .int i_inns, .ref m_posts, .ref m_shut, .ref m_here, .int i_steps, .int i_done, .int i_at, .int i_gone, .ref m_was, .ref m_came, .ref m_seenAt, .ref m_rowWorth, .ref m_farBy, .ref m_used, .int i_everywhere, .int i_again0, .int i_d0, .int i_never, .int i_firstCame, .int i_longRun, .int i_moved, .int i_crowd, .int i_l0, .int i_fitMany, .int i_fitLeast, .int i_fitMost, .ref m_fitPost, .ref m_fitEnd, .ref m_keptPosts, .int i_x0]))], [(m_all, .inl (T.2 0, 3952, .inl g_all_44))]] _ _ := G
        have G := G.sub (bs' := [[(mo, .inr (11, [.ref m_all, .ref m_has, .int i_size, .int j_next_38, .int j_where_39, .int j_token_40, .int j_number_41, .int j_word_42, .int j_wrong_43, .int i_farCrossing, .ref m_read, .int i_z0, .int i_crossings, .int i_inns, .ref m_posts, .ref m_shut, .ref m_here, .int i_steps, .int i_done, .int i_at, .int i_gone, .ref m_was, .ref m_came, .ref m_seenAt, .ref m_rowWorth, .ref m_farBy, .ref m_used, .int i_everywhere, .int i_again0, .int i_d0, .int i_never, .int i_firstCame, .int i_longRun, .int i_moved, .int i_crowd, .int i_l0, .int i_fitMany, .int i_fitLeast, .int i_fitMost, .ref m_fitPost, .ref m_fitEnd, .ref m_keptPosts, .int i_x0]))], [(m_all, .inl (T.2 0, 3952, .inl g_all_44))], [(m_read, .inl (T.2 0, 121, .inl f_read))]]) [1, 2, 0] rfl
        exact z_vret C hr hlocks G (Nat.le_of_ble_eq_true rfl) (Nat.le_of_ble_eq_true rfl) dX12_dayLine_130 ⟨j_next_38, j_where_39, j_token_40, j_number_41, j_word_42, j_wrong_43, g_all_44, f_read, rfl, (by first | with_reducible assumption | omega | trivial | assumption), (by first | with_reducible assumption | omega | trivial | assumption), (by first | with_reducible assumption | omega | trivial | assumption), (by first | with_reducible assumption | omega | trivial | assumption), (hpgb.tr (h_29.tr h_49)), (by first | with_reducible assumption | omega | trivial | assumption), (by unfold pDay; rw [hd]; show zRr _ _ _ _ _ _ _ _ _ _ _ (pEndL k (pDeed k d1 (nI (pWh k a.1)) d2 f_read).1); rw [← t2, pDeed_1 hbq, pDY_lo (by omega)]; exact h_50), (by unfold pDay; rw [hd]; show _ = (pDeed k d1 (nI (pWh k a.1)) d2 f_read).2; rw [← t2]; unfold pDeed; rw [← hbq]; exact (if_neg (by omega)).symm)⟩
      · have c_37n : ¬ (40 : Int) ≤ (f_read 0).toInt := fun q => c_37 ((fa_le _ _).mpr q)
        refine lv_iconst (v := 1) hx hb dX12_dayLine_75 (by decide) ?_
        refine lv_iconst (v := 3) hx hb dX12_dayLine_76 (by decide) ?_
        refine lv_aload_n hx hb dX12_dayLine_77 rfl (lv_at hl 4 rfl) ?_
        refine z_get C G clX12 1 rfl 10 (by decide) m_fl_RX12_17 rfl dX12_dayLine_78 ?_
        refine lv_iconst (v := 0) hx hb dX12_dayLine_81 (by decide) ?_
        refine z_ild C G 0 rfl (vp_in_nI (n := 0) (by decide) (by decide)) dX12_dayLine_82 ?_
        refine lv_topi (fun v_52 ev_52 => ?_)
        rw [show ((0 : Int32).toNatClampNeg) = 0 from rfl] at ev_52
        subst ev_52
        refine lv_imul hx hb dX12_dayLine_83 ?_
        refine lv_topi (fun y_53 ey_53 => ?_)
        have ey_53i : y_53.toInt = (3 : Int) * (f_read 0).toInt := by rw [ey_53]; exact z_imulI (x := (3 : Int32)) (y := (f_read 0)) (by show -2147483648 ≤ (3 : Int) * (f_read 0).toInt; omega) (by show (3 : Int) * (f_read 0).toInt < 2147483648; omega)
        refine lv_iadd hx hb dX12_dayLine_84 ?_
        refine lv_topi (fun y_54 ey_54 => ?_)
        have ey_54i : y_54.toInt = (1 : Int) + y_53.toInt := by rw [ey_54]; exact z_iaddI (x := (1 : Int32)) (y := y_53) (by show -2147483648 ≤ (1 : Int) + y_53.toInt; omega) (by show (1 : Int) + y_53.toInt < 2147483648; omega)
        refine lv_istore (lv' := [(5, .int y_54), (4, .int (-1)), (3, .int r_34), (2, .int y_17), (1, .int i_where), (0, .ref mo)]) hx hb dX12_dayLine_85 hl (by decide) rfl (fun ls hl => ?_)
        refine lv_aload_n hx hb dX12_dayLine_87 rfl (lv_at hl 5 rfl) ?_
        refine z_get C G clX12 1 rfl 10 (by decide) m_fl_RX12_17 rfl dX12_dayLine_88 ?_
        refine lv_iload hx hb dX12_dayLine_91 (lv_at hl 0 rfl) ?_
        refine lv_iload_n hx hb dX12_dayLine_93 rfl (lv_at hl 3 rfl) ?_
        refine z_ist C G 0 rfl (vp_in_iff.mpr ⟨by omega, by omega⟩) dX12_dayLine_94 (fun H locs G => ?_)
        have G : zS T A s.heap s [[(m_read, .inl (T.2 0, 121, .inl (upd f_read y_54.toNatClampNeg y_17)))], [(mo, .inr (11, [.ref m_all, .ref m_has, .int i_size, .int j_next_18, .int j_where_19, .int j_token_20, .int j_number_21, .int j_word_22, .int j_wrong_23, .int i_farCrossing, .ref m_read, .int i_z0, .int i_crossings, .int i_inns, .ref m_posts, .ref m_shut, .ref m_here, .int i_steps, .int i_done, .int i_at, .int i_gone, .ref m_was, .ref m_came, .ref m_seenAt, .ref m_rowWorth, .ref m_farBy, .ref m_used, .int i_everywhere, .int i_again0, .int i_d0, .int i_never, .int i_firstCame, .int i_longRun, .int i_moved, .int i_crowd, .int i_l0, .int i_fitMany, .int i_fitLeast, .int i_fitMost, .ref m_fitPost, .ref m_fitEnd, .ref m_keptPosts, .int i_x0]))], [(m_all, .inl (T.2 0, 3952, .inl g_all_24))]] _ _ := G
        refine lv_aload_n hx hb dX12_dayLine_95 rfl (lv_at hl 5 rfl) ?_
        refine z_get C G clX12 1 rfl 10 (by decide) m_fl_RX12_17 rfl dX12_dayLine_96 ?_
        refine lv_iload hx hb dX12_dayLine_99 (lv_at hl 0 rfl) ?_
        refine lv_iconst (v := 1) hx hb dX12_dayLine_101 (by decide) ?_
        refine lv_iadd hx hb dX12_dayLine_102 ?_
        refine lv_topi (fun y_55 ey_55 => ?_)
        have ey_55i : y_55.toInt = y_54.toInt + (1 : Int) := by rw [ey_55]; exact z_iaddI (x := y_54) (y := (1 : Int32)) (by show -2147483648 ≤ y_54.toInt + (1 : Int); omega) (by show y_54.toInt + (1 : Int) < 2147483648; omega)
        refine lv_iload_n hx hb dX12_dayLine_103 rfl (lv_at hl 2 rfl) ?_
        refine z_ist C G 0 rfl (vp_in_iff.mpr ⟨by omega, by omega⟩) dX12_dayLine_104 (fun H locs G => ?_)
        have G : zS T A s.heap s [[(m_read, .inl (T.2 0, 121, .inl (upd (upd f_read y_54.toNatClampNeg y_17) y_55.toNatClampNeg r_34)))], [(mo, .inr (11, [.ref m_all, .ref m_has, .int i_size, .int j_next_18, .int j_where_19, .int j_token_20, .int j_number_21, .int j_word_22, .int j_wrong_23, .int i_farCrossing, .ref m_read, .int i_z0, .int i_crossings, .int i_inns, .ref m_posts, .ref m_shut, .ref m_here, .int i_steps, .int i_done, .int i_at, .int i_gone, .ref m_was, .ref m_came, .ref m_seenAt, .ref m_rowWorth, .ref m_farBy, .ref m_used, .int i_everywhere, .int i_again0, .int i_d0, .int i_never, .int i_firstCame, .int i_longRun, .int i_moved, .int i_crowd, .int i_l0, .int i_fitMany, .int i_fitLeast, .int i_fitMost, .ref m_fitPost, .ref m_fitEnd, .ref m_keptPosts, .int i_x0]))], [(m_all, .inl (T.2 0, 3952, .inl g_all_24))]] _ _ := G
        refine lv_aload_n hx hb dX12_dayLine_105 rfl (lv_at hl 5 rfl) ?_
        refine z_get C G clX12 1 rfl 10 (by decide) m_fl_RX12_17 rfl dX12_dayLine_106 ?_
        refine lv_iload hx hb dX12_dayLine_109 (lv_at hl 0 rfl) ?_
        refine lv_iconst (v := 2) hx hb dX12_dayLine_111 (by decide) ?_
        refine lv_iadd hx hb dX12_dayLine_112 ?_
        refine lv_topi (fun y_56 ey_56 => ?_)
        have ey_56i : y_56.toInt = y_54.toInt + (2 : Int) := by rw [ey_56]; exact z_iaddI (x := y_54) (y := (2 : Int32)) (by show -2147483648 ≤ y_54.toInt + (2 : Int); omega) (by show y_54.toInt + (2 : Int) < 2147483648; omega)
        refine lv_iload hx hb dX12_dayLine_113 (lv_at hl 1 rfl) ?_
        refine z_ist C G 0 rfl (vp_in_iff.mpr ⟨by omega, by omega⟩) dX12_dayLine_115 (fun H locs G => ?_)
        have G : zS T A s.heap s [[(m_read, .inl (T.2 0, 121, .inl (upd (upd (upd f_read y_54.toNatClampNeg y_17) y_55.toNatClampNeg r_34) y_56.toNatClampNeg (-1))))], [(mo, .inr (11, [.ref m_all, .ref m_has, .int i_size, .int j_next_18, .int j_where_19, .int j_token_20, .int j_number_21, .int j_word_22, .int j_wrong_23, .int i_farCrossing, .ref m_read, .int i_z0, .int i_crossings, .int i_inns, .ref m_posts, .ref m_shut, .ref m_here, .int i_steps, .int i_done, .int i_at, .int i_gone, .ref m_was, .ref m_came, .ref m_seenAt, .ref m_rowWorth, .ref m_farBy, .ref m_used, .int i_everywhere, .int i_again0, .int i_d0, .int i_never, .int i_firstCame, .int i_longRun, .int i_moved, .int i_crowd, .int i_l0, .int i_fitMany, .int i_fitLeast, .int i_fitMost, .ref m_fitPost, .ref m_fitEnd, .ref m_keptPosts, .int i_x0]))], [(m_all, .inl (T.2 0, 3952, .inl g_all_24))]] _ _ := G
        refine lv_aload_n hx hb dX12_dayLine_116 rfl (lv_at hl 5 rfl) ?_
        refine z_get C G clX12 1 rfl 10 (by decide) m_fl_RX12_17 rfl dX12_dayLine_117 ?_
        refine lv_iconst (v := 0) hx hb dX12_dayLine_120 (by decide) ?_
        refine lv_dup2_11 hx hb dX12_dayLine_121 rfl rfl ?_
        refine z_ild C G 0 rfl (vp_in_nI (n := 0) (by decide) (by decide)) dX12_dayLine_122 ?_
        refine lv_topi (fun v_57 ev_57 => ?_)
        rw [show ((0 : Int32).toNatClampNeg) = 0 from rfl] at ev_57
        subst ev_57
        refine lv_iconst (v := 1) hx hb dX12_dayLine_123 (by decide) ?_
        have hcl_y_56 := z_clI (x := y_56) (by omega)
        have hcl_y_55 := z_clI (x := y_55) (by omega)
        have hcl_y_54 := z_clI (x := y_54) (by omega)
        rw [show (upd (upd (upd f_read y_54.toNatClampNeg y_17) y_55.toNatClampNeg r_34) y_56.toNatClampNeg (-1)) 0 = f_read 0 from by unfold upd; rw [if_neg (by omega), if_neg (by omega), if_neg (by omega)]]
        refine lv_iadd hx hb dX12_dayLine_124 ?_
        refine lv_topi (fun y_58 ey_58 => ?_)
        have ey_58i : y_58.toInt = (f_read 0).toInt + (1 : Int) := by rw [ey_58]; exact z_iaddI (x := (f_read 0)) (y := (1 : Int32)) (by show -2147483648 ≤ (f_read 0).toInt + (1 : Int); omega) (by show (f_read 0).toInt + (1 : Int) < 2147483648; omega)
        refine z_ist C G 0 rfl (vp_in_nI (n := 0) (by decide) (by decide)) dX12_dayLine_125 (fun H locs G => ?_)
        have G : zS T A s.heap s [[(m_read, .inl (T.2 0, 121, .inl (upd (upd (upd (upd f_read y_54.toNatClampNeg y_17) y_55.toNatClampNeg r_34) y_56.toNatClampNeg (-1)) 0 y_58)))], [(mo, .inr (11, [.ref m_all, .ref m_has, .int i_size, .int j_next_18, .int j_where_19, .int j_token_20, .int j_number_21, .int j_word_22, .int j_wrong_23, .int i_farCrossing, .ref m_read, .int i_z0, .int i_crossings, .int i_inns, .ref m_posts, .ref m_shut, .ref m_here, .int i_steps, .int i_done, .int i_at, .int i_gone, .ref m_was, .ref m_came, .ref m_seenAt, .ref m_rowWorth, .ref m_farBy, .ref m_used, .int i_everywhere, .int i_again0, .int i_d0, .int i_never, .int i_firstCame, .int i_longRun, .int i_moved, .int i_crowd, .int i_l0, .int i_fitMany, .int i_fitLeast, .int i_fitMost, .ref m_fitPost, .ref m_fitEnd, .ref m_keptPosts, .int i_x0]))], [(m_all, .inl (T.2 0, 3952, .inl g_all_24))]] _ _ := G
        refine lv_aload_n hx hb dX12_dayLine_126 rfl (lv_at hl 5 rfl) ?_
        refine z_Vv (bc := [[(mo, .inr (11, [.ref m_all, .ref m_has, .int i_size, .int j_next_18, .int j_where_19, .int j_token_20, .int j_number_21, .int j_word_22, .int j_wrong_23, .int i_farCrossing, .ref m_read, .int i_z0, .int i_crossings, .int i_inns, .ref m_posts, .ref m_shut, .ref m_here, .int i_steps, .int i_done, .int i_at, .int i_gone, .ref m_was, .ref m_came, .ref m_seenAt, .ref m_rowWorth, .ref m_farBy, .ref m_used, .int i_everywhere, .int i_again0, .int i_d0, .int i_never, .int i_firstCame, .int i_longRun, .int i_moved, .int i_crowd, .int i_l0, .int i_fitMany, .int i_fitLeast, .int i_fitMost, .ref m_fitPost, .ref m_fitEnd, .ref m_keptPosts, .int i_x0]))], [(m_all, .inl (T.2 0, 3952, .inl g_all_24))]]) (br := [[(m_read, .inl (T.2 0, 121, .inl (upd (upd (upd (upd f_read y_54.toNatClampNeg y_17) y_55.toNatClampNeg r_34) y_56.toNatClampNeg (-1)) 0 y_58)))]]) (As := []) (rest := []) C G (c_fm_endsLine l T mo m_all m_has i_size j_next_18 j_where_19 j_token_20 j_number_21 j_word_22 j_wrong_23 i_farCrossing m_read i_z0 i_crossings i_inns m_posts m_shut m_here i_steps i_done i_at i_gone m_was m_came m_seenAt m_rowWorth m_farBy m_used i_everywhere i_again0 i_d0 i_never i_firstCame i_longRun i_moved i_crowd i_l0 i_fitMany i_fitLeast i_fitMost m_fitPost m_fitEnd m_keptPosts i_x0 g_all_24 k n ((pNum k 0 6 b).2) (by first | with_reducible assumption | with_reducible rfl | omega | assumption | rfl) (by first | with_reducible assumption | with_reducible rfl | omega | assumption | rfl) (by first | with_reducible assumption | with_reducible rfl | omega | assumption | rfl) h_32) (kV_RX12_140 C.2.2.2.2 (Nat.le_of_ble_eq_true rfl) (Nat.le_of_ble_eq_true rfl)) [1, 2] [0] rfl rfl (ci := 11) (qc := (RX12, TX12, 43)) rfl rfl (List.mem_flatten.mpr ⟨_, List.mem_of_getElem? (i := 0) rfl, List.mem_cons_self⟩) rfl rfl hl.1 dX12_dayLine_127 (Nat.le_of_ble_eq_true rfl) (Nat.le_of_ble_eq_true rfl) (fun b1 H locs hw G => ?_)
        refine zEx7 hw ?_
        intro j_next_59 j_where_60 j_token_61 j_number_62 j_word_63 j_wrong_64 g_all_65
        refine zCu7 ?_
        intro hbs9 h_66 h_67 h_68 h_69 h_70 h_71
        clear hw
        subst hbs9
        have G : zS T A s.heap s [[(m_read, .inl (T.2 0, 121, .inl (upd (upd (upd (upd f_read y_54.toNatClampNeg y_17) y_55.toNatClampNeg r_34) y_56.toNatClampNeg (-1)) 0 y_58)))], [(mo, .inr (11, [.ref m_all, .ref m_has, .int i_size, .int j_next_59, .int j_where_60, .int j_token_61, .int j_number_62, .int j_word_63, .int j_wrong_64, .int i_farCrossing, .ref m_read, .int i_z0, .int i_crossings, .int i_inns, .ref m_posts, .ref m_shut, .ref m_here, .int i_steps, .int i_done, .int i_at, .int i_gone, .ref m_was, .ref m_came, .ref m_seenAt, .ref m_rowWorth, .ref m_farBy, .ref m_used, .int i_everywhere, .int i_again0, .int i_d0, .int i_never, .int i_firstCame, .int i_longRun, .int i_moved, .int i_crowd, .int i_l0, .int i_fitMany, .int i_fitLeast, .int i_fitMost, .ref m_fitPost, .ref m_fitEnd, .ref m_keptPosts, .int i_x0]))], [(m_all, .inl (T.2 0, 3952, .inl g_all_65))]] _ _ := G
        have G := G.sub (bs' := [[(mo, .inr (11, [.ref m_all, .ref m_has, .int i_size, .int j_next_59, .int j_where_60, .int j_token_61, .int j_number_62, .int j_word_63, .int j_wrong_64, .int i_farCrossing, .ref m_read, .int i_z0, .int i_crossings, .int i_inns, .ref m_posts, .ref m_shut, .ref m_here, .int i_steps, .int i_done, .int i_at, .int i_gone, .ref m_was, .ref m_came, .ref m_seenAt, .ref m_rowWorth, .ref m_farBy, .ref m_used, .int i_everywhere, .int i_again0, .int i_d0, .int i_never, .int i_firstCame, .int i_longRun, .int i_moved, .int i_crowd, .int i_l0, .int i_fitMany, .int i_fitLeast, .int i_fitMost, .ref m_fitPost, .ref m_fitEnd, .ref m_keptPosts, .int i_x0]))], [(m_all, .inl (T.2 0, 3952, .inl g_all_65))], [(m_read, .inl (T.2 0, 121, .inl (upd (upd (upd (upd f_read y_54.toNatClampNeg y_17) y_55.toNatClampNeg r_34) y_56.toNatClampNeg (-1)) 0 y_58)))]]) [1, 2, 0] rfl
        exact z_vret C hr hlocks G (Nat.le_of_ble_eq_true rfl) (Nat.le_of_ble_eq_true rfl) dX12_dayLine_130 ⟨j_next_59, j_where_60, j_token_61, j_number_62, j_word_63, j_wrong_64, g_all_65, (upd (upd (upd (upd f_read y_54.toNatClampNeg y_17) y_55.toNatClampNeg r_34) y_56.toNatClampNeg (-1)) 0 y_58), rfl, (by first | with_reducible assumption | omega | trivial | assumption), (by first | with_reducible assumption | omega | trivial | assumption), (by first | with_reducible assumption | omega | trivial | assumption), (by first | with_reducible assumption | omega | trivial | assumption), (hpgb.tr (h_29.tr h_70)), (zCF_upd (k := 0) (v := y_58) (zCF_upd (k := y_56.toNatClampNeg) (v := (-1)) (zCF_upd (k := y_55.toNatClampNeg) (v := r_34) (zCF_upd (k := y_54.toNatClampNeg) (v := y_17) (by assumption) (by have q9 := z_clI (x := y_54) (by omega); omega)) (by have q9 := z_clI (x := y_55) (by omega); omega)) (by have q9 := z_clI (x := y_56) (by omega); have t9 : ((-1) : Int32).toInt = -1 := rfl; omega)) (by omega)), (by unfold pDay; rw [hd]; show zRr _ _ _ _ _ _ _ _ _ _ _ (pEndL k (pDeed k d1 (nI (pWh k a.1)) d2 f_read).1); rw [← t2, pDeed_1 hbq, pDY_lo (by omega)]; exact h_71), (by unfold pDay; rw [hd]; show _ = (pDeed k d1 (nI (pWh k a.1)) d2 f_read).2; rw [← t2]; unfold pDeed; rw [← hbq]; rw [if_pos (by omega)]; have hy2 : (pDY k d1 (pNum k 0 6 b).2).1 = -1 := (congrArg Prod.fst (pDY_lo (by omega))); have qy_56 := z_clI (x := y_56) (by omega); have qy_55 := z_clI (x := y_55) (by omega); have qy_54 := z_clI (x := y_54) (by omega); rw [hy2, ← h_33, show y_56.toNatClampNeg = 3 + 3 * (f_read 0).toInt.toNat by omega, show y_55.toNatClampNeg = 2 + 3 * (f_read 0).toInt.toNat by omega, show y_54.toNatClampNeg = 1 + 3 * (f_read 0).toInt.toNat by omega, ey_58, ey_17, hvd])⟩
    · have c_35n : ¬ y_17.toInt ≤ (3 : Int) := fun q => c_35 ((fa_le _ _).mpr q)
      refine lv_aload_n hx hb dX12_dayLine_52 rfl (lv_at hl 3 rfl) ?_
      refine lv_iconst (v := 0) hx hb dX12_dayLine_53 (by decide) ?_
      refine lv_iconst (v := 3) hx hb dX12_dayLine_54 (by decide) ?_
      refine z_Vi (bc := [[(mo, .inr (11, [.ref m_all, .ref m_has, .int i_size, .int j_next_18, .int j_where_19, .int j_token_20, .int j_number_21, .int j_word_22, .int j_wrong_23, .int i_farCrossing, .ref m_read, .int i_z0, .int i_crossings, .int i_inns, .ref m_posts, .ref m_shut, .ref m_here, .int i_steps, .int i_done, .int i_at, .int i_gone, .ref m_was, .ref m_came, .ref m_seenAt, .ref m_rowWorth, .ref m_farBy, .ref m_used, .int i_everywhere, .int i_again0, .int i_d0, .int i_never, .int i_firstCame, .int i_longRun, .int i_moved, .int i_crowd, .int i_l0, .int i_fitMany, .int i_fitLeast, .int i_fitMost, .ref m_fitPost, .ref m_fitEnd, .ref m_keptPosts, .int i_x0]))], [(m_all, .inl (T.2 0, 3952, .inl g_all_24))]]) (br := [[(m_read, .inl (T.2 0, 121, .inl f_read))]]) (As := [.int 0, .int 3]) (rest := []) C G (c_fm_numbered l T mo m_all m_has i_size j_next_18 j_where_19 j_token_20 j_number_21 j_word_22 j_wrong_23 i_farCrossing m_read i_z0 i_crossings i_inns m_posts m_shut m_here i_steps i_done i_at i_gone m_was m_came m_seenAt m_rowWorth m_farBy m_used i_everywhere i_again0 i_d0 i_never i_firstCame i_longRun i_moved i_crowd i_l0 i_fitMany i_fitLeast i_fitMost m_fitPost m_fitEnd m_keptPosts i_x0 g_all_24 k n ((pNum k 0 6 b).2) 0 3 (by first | with_reducible assumption | with_reducible rfl | omega | assumption | rfl) (by first | with_reducible assumption | with_reducible rfl | omega | assumption | rfl) (by first | with_reducible assumption | with_reducible rfl | omega | assumption | rfl) (by decide) h_32) (kV_RX12_122 C.2.2.2.2 (Nat.le_of_ble_eq_true rfl) (Nat.le_of_ble_eq_true rfl)) [1, 2] [0] rfl rfl (ci := 11) (qc := (RX12, TX12, 43)) rfl rfl (List.mem_flatten.mpr ⟨_, List.mem_of_getElem? (i := 0) rfl, List.mem_cons_self⟩) rfl rfl hl.1 dX12_dayLine_55 (Nat.le_of_ble_eq_true rfl) (Nat.le_of_ble_eq_true rfl) (fun r_89 b1 H locs hw G => ?_)
      refine zEx7 hw ?_
      intro j_next_73 j_where_74 j_token_75 j_number_76 j_word_77 j_wrong_78 g_all_79
      refine zCu10 ?_
      intro hbs9 h_80 h_81 h_82 h_83 h_84 h_85 h_86 h_87 h_88
      clear hw
      subst hbs9
      have G : zS T A s.heap s [[(m_read, .inl (T.2 0, 121, .inl f_read))], [(mo, .inr (11, [.ref m_all, .ref m_has, .int i_size, .int j_next_73, .int j_where_74, .int j_token_75, .int j_number_76, .int j_word_77, .int j_wrong_78, .int i_farCrossing, .ref m_read, .int i_z0, .int i_crossings, .int i_inns, .ref m_posts, .ref m_shut, .ref m_here, .int i_steps, .int i_done, .int i_at, .int i_gone, .ref m_was, .ref m_came, .ref m_seenAt, .ref m_rowWorth, .ref m_farBy, .ref m_used, .int i_everywhere, .int i_again0, .int i_d0, .int i_never, .int i_firstCame, .int i_longRun, .int i_moved, .int i_crowd, .int i_l0, .int i_fitMany, .int i_fitLeast, .int i_fitMost, .ref m_fitPost, .ref m_fitEnd, .ref m_keptPosts, .int i_x0]))], [(m_all, .inl (T.2 0, 3952, .inl g_all_79))]] _ _ := G
      have h_85 : (0 : Int) ≤ r_89.toInt := h_85
      have h_86 : r_89.toInt ≤ (3 : Int) := h_86
      refine lv_goto (tgt := 62) hx hb dX12_dayLine_58 (by decide) ?_
      refine lv_istore (lv' := [(4, .int r_89), (3, .int r_34), (2, .int y_17), (1, .int i_where), (0, .ref mo)]) hx hb dX12_dayLine_62 hl (by decide) rfl (fun ls hl => ?_)
      refine lv_aload_n hx hb dX12_dayLine_64 rfl (lv_at hl 4 rfl) ?_
      refine z_get C G clX12 1 rfl 10 (by decide) m_fl_RX12_17 rfl dX12_dayLine_65 ?_
      refine lv_iconst (v := 0) hx hb dX12_dayLine_68 (by decide) ?_
      refine z_ild C G 0 rfl (vp_in_nI (n := 0) (by decide) (by decide)) dX12_dayLine_69 ?_
      refine lv_topi (fun v_90 ev_90 => ?_)
      rw [show ((0 : Int32).toNatClampNeg) = 0 from rfl] at ev_90
      subst ev_90
      refine lv_bipush (v := 40) hx hb dX12_dayLine_70 (by decide) ?_
      refine lv_icmp_ge (tgt := 126) hx hb dX12_dayLine_72 (by decide) (fun c_91 => ?_) (fun c_91 => ?_)
      · have c_91n : (40 : Int) ≤ (f_read 0).toInt := (fa_le _ _).mp c_91
        refine lv_aload_n hx hb dX12_dayLine_126 rfl (lv_at hl 4 rfl) ?_
        refine z_Vv (bc := [[(mo, .inr (11, [.ref m_all, .ref m_has, .int i_size, .int j_next_73, .int j_where_74, .int j_token_75, .int j_number_76, .int j_word_77, .int j_wrong_78, .int i_farCrossing, .ref m_read, .int i_z0, .int i_crossings, .int i_inns, .ref m_posts, .ref m_shut, .ref m_here, .int i_steps, .int i_done, .int i_at, .int i_gone, .ref m_was, .ref m_came, .ref m_seenAt, .ref m_rowWorth, .ref m_farBy, .ref m_used, .int i_everywhere, .int i_again0, .int i_d0, .int i_never, .int i_firstCame, .int i_longRun, .int i_moved, .int i_crowd, .int i_l0, .int i_fitMany, .int i_fitLeast, .int i_fitMost, .ref m_fitPost, .ref m_fitEnd, .ref m_keptPosts, .int i_x0]))], [(m_all, .inl (T.2 0, 3952, .inl g_all_79))]]) (br := [[(m_read, .inl (T.2 0, 121, .inl f_read))]]) (As := []) (rest := []) C G (c_fm_endsLine l T mo m_all m_has i_size j_next_73 j_where_74 j_token_75 j_number_76 j_word_77 j_wrong_78 i_farCrossing m_read i_z0 i_crossings i_inns m_posts m_shut m_here i_steps i_done i_at i_gone m_was m_came m_seenAt m_rowWorth m_farBy m_used i_everywhere i_again0 i_d0 i_never i_firstCame i_longRun i_moved i_crowd i_l0 i_fitMany i_fitLeast i_fitMost m_fitPost m_fitEnd m_keptPosts i_x0 g_all_79 k n ((pNum k 0 3 (pNum k 0 6 b).2).2) (by first | with_reducible assumption | with_reducible rfl | omega | assumption | rfl) (by first | with_reducible assumption | with_reducible rfl | omega | assumption | rfl) (by first | with_reducible assumption | with_reducible rfl | omega | assumption | rfl) h_87) (kV_RX12_140 C.2.2.2.2 (Nat.le_of_ble_eq_true rfl) (Nat.le_of_ble_eq_true rfl)) [1, 2] [0] rfl rfl (ci := 11) (qc := (RX12, TX12, 43)) rfl rfl (List.mem_flatten.mpr ⟨_, List.mem_of_getElem? (i := 0) rfl, List.mem_cons_self⟩) rfl rfl hl.1 dX12_dayLine_127 (Nat.le_of_ble_eq_true rfl) (Nat.le_of_ble_eq_true rfl) (fun b1 H locs hw G => ?_)
        refine zEx7 hw ?_
        intro j_next_92 j_where_93 j_token_94 j_number_95 j_word_96 j_wrong_97 g_all_98
        refine zCu7 ?_
        intro hbs9 h_99 h_100 h_101 h_102 h_103 h_104
        clear hw
        subst hbs9
        have G : zS T A s.heap s [[(m_read, .inl (T.2 0, 121, .inl f_read))], [(mo, .inr (11, [.ref m_all, .ref m_has, .int i_size, .int j_next_92, .int j_where_93, .int j_token_94, .int j_number_95, .int j_word_96, .int j_wrong_97, .int i_farCrossing, .ref m_read, .int i_z0, .int i_crossings, .int i_inns, .ref m_posts, .ref m_shut, .ref m_here, .int i_steps, .int i_done, .int i_at, .int i_gone, .ref m_was, .ref m_came, .ref m_seenAt, .ref m_rowWorth, .ref m_farBy, .ref m_used, .int i_everywhere, .int i_again0, .int i_d0, .int i_never, .int i_firstCame, .int i_longRun, .int i_moved, .int i_crowd, .int i_l0, .int i_fitMany, .int i_fitLeast, .int i_fitMost, .ref m_fitPost, .ref m_fitEnd, .ref m_keptPosts, .int i_x0]))], [(m_all, .inl (T.2 0, 3952, .inl g_all_98))]] _ _ := G
        have G := G.sub (bs' := [[(mo, .inr (11, [.ref m_all, .ref m_has, .int i_size, .int j_next_92, .int j_where_93, .int j_token_94, .int j_number_95, .int j_word_96, .int j_wrong_97, .int i_farCrossing, .ref m_read, .int i_z0, .int i_crossings, .int i_inns, .ref m_posts, .ref m_shut, .ref m_here, .int i_steps, .int i_done, .int i_at, .int i_gone, .ref m_was, .ref m_came, .ref m_seenAt, .ref m_rowWorth, .ref m_farBy, .ref m_used, .int i_everywhere, .int i_again0, .int i_d0, .int i_never, .int i_firstCame, .int i_longRun, .int i_moved, .int i_crowd, .int i_l0, .int i_fitMany, .int i_fitLeast, .int i_fitMost, .ref m_fitPost, .ref m_fitEnd, .ref m_keptPosts, .int i_x0]))], [(m_all, .inl (T.2 0, 3952, .inl g_all_98))], [(m_read, .inl (T.2 0, 121, .inl f_read))]]) [1, 2, 0] rfl
        exact z_vret C hr hlocks G (Nat.le_of_ble_eq_true rfl) (Nat.le_of_ble_eq_true rfl) dX12_dayLine_130 ⟨j_next_92, j_where_93, j_token_94, j_number_95, j_word_96, j_wrong_97, g_all_98, f_read, rfl, (by first | with_reducible assumption | omega | trivial | assumption), (by first | with_reducible assumption | omega | trivial | assumption), (by first | with_reducible assumption | omega | trivial | assumption), (by first | with_reducible assumption | omega | trivial | assumption), (hpgb.tr (h_29.tr (h_84.tr h_103))), (by first | with_reducible assumption | omega | trivial | assumption), (by unfold pDay; rw [hd]; show zRr _ _ _ _ _ _ _ _ _ _ _ (pEndL k (pDeed k d1 (nI (pWh k a.1)) d2 f_read).1); rw [← t2, pDeed_1 hbq, pDY_hi (by omega)]; exact h_104), (by unfold pDay; rw [hd]; show _ = (pDeed k d1 (nI (pWh k a.1)) d2 f_read).2; rw [← t2]; unfold pDeed; rw [← hbq]; exact (if_neg (by omega)).symm)⟩
      · have c_91n : ¬ (40 : Int) ≤ (f_read 0).toInt := fun q => c_91 ((fa_le _ _).mpr q)
        refine lv_iconst (v := 1) hx hb dX12_dayLine_75 (by decide) ?_
        refine lv_iconst (v := 3) hx hb dX12_dayLine_76 (by decide) ?_
        refine lv_aload_n hx hb dX12_dayLine_77 rfl (lv_at hl 4 rfl) ?_
        refine z_get C G clX12 1 rfl 10 (by decide) m_fl_RX12_17 rfl dX12_dayLine_78 ?_
        refine lv_iconst (v := 0) hx hb dX12_dayLine_81 (by decide) ?_
        refine z_ild C G 0 rfl (vp_in_nI (n := 0) (by decide) (by decide)) dX12_dayLine_82 ?_
        refine lv_topi (fun v_106 ev_106 => ?_)
        rw [show ((0 : Int32).toNatClampNeg) = 0 from rfl] at ev_106
        subst ev_106
        refine lv_imul hx hb dX12_dayLine_83 ?_
        refine lv_topi (fun y_107 ey_107 => ?_)
        have ey_107i : y_107.toInt = (3 : Int) * (f_read 0).toInt := by rw [ey_107]; exact z_imulI (x := (3 : Int32)) (y := (f_read 0)) (by show -2147483648 ≤ (3 : Int) * (f_read 0).toInt; omega) (by show (3 : Int) * (f_read 0).toInt < 2147483648; omega)
        refine lv_iadd hx hb dX12_dayLine_84 ?_
        refine lv_topi (fun y_108 ey_108 => ?_)
        have ey_108i : y_108.toInt = (1 : Int) + y_107.toInt := by rw [ey_108]; exact z_iaddI (x := (1 : Int32)) (y := y_107) (by show -2147483648 ≤ (1 : Int) + y_107.toInt; omega) (by show (1 : Int) + y_107.toInt < 2147483648; omega)
        refine lv_istore (lv' := [(5, .int y_108), (4, .int r_89), (3, .int r_34), (2, .int y_17), (1, .int i_where), (0, .ref mo)]) hx hb dX12_dayLine_85 hl (by decide) rfl (fun ls hl => ?_)
        refine lv_aload_n hx hb dX12_dayLine_87 rfl (lv_at hl 5 rfl) ?_
        refine z_get C G clX12 1 rfl 10 (by decide) m_fl_RX12_17 rfl dX12_dayLine_88 ?_
        refine lv_iload hx hb dX12_dayLine_91 (lv_at hl 0 rfl) ?_
        refine lv_iload_n hx hb dX12_dayLine_93 rfl (lv_at hl 3 rfl) ?_
        refine z_ist C G 0 rfl (vp_in_iff.mpr ⟨by omega, by omega⟩) dX12_dayLine_94 (fun H locs G => ?_)
        have G : zS T A s.heap s [[(m_read, .inl (T.2 0, 121, .inl (upd f_read y_108.toNatClampNeg y_17)))], [(mo, .inr (11, [.ref m_all, .ref m_has, .int i_size, .int j_next_73, .int j_where_74, .int j_token_75, .int j_number_76, .int j_word_77, .int j_wrong_78, .int i_farCrossing, .ref m_read, .int i_z0, .int i_crossings, .int i_inns, .ref m_posts, .ref m_shut, .ref m_here, .int i_steps, .int i_done, .int i_at, .int i_gone, .ref m_was, .ref m_came, .ref m_seenAt, .ref m_rowWorth, .ref m_farBy, .ref m_used, .int i_everywhere, .int i_again0, .int i_d0, .int i_never, .int i_firstCame, .int i_longRun, .int i_moved, .int i_crowd, .int i_l0, .int i_fitMany, .int i_fitLeast, .int i_fitMost, .ref m_fitPost, .ref m_fitEnd, .ref m_keptPosts, .int i_x0]))], [(m_all, .inl (T.2 0, 3952, .inl g_all_79))]] _ _ := G
        refine lv_aload_n hx hb dX12_dayLine_95 rfl (lv_at hl 5 rfl) ?_
        refine z_get C G clX12 1 rfl 10 (by decide) m_fl_RX12_17 rfl dX12_dayLine_96 ?_
        refine lv_iload hx hb dX12_dayLine_99 (lv_at hl 0 rfl) ?_
        refine lv_iconst (v := 1) hx hb dX12_dayLine_101 (by decide) ?_
        refine lv_iadd hx hb dX12_dayLine_102 ?_
        refine lv_topi (fun y_109 ey_109 => ?_)
        have ey_109i : y_109.toInt = y_108.toInt + (1 : Int) := by rw [ey_109]; exact z_iaddI (x := y_108) (y := (1 : Int32)) (by show -2147483648 ≤ y_108.toInt + (1 : Int); omega) (by show y_108.toInt + (1 : Int) < 2147483648; omega)
        refine lv_iload_n hx hb dX12_dayLine_103 rfl (lv_at hl 2 rfl) ?_
        refine z_ist C G 0 rfl (vp_in_iff.mpr ⟨by omega, by omega⟩) dX12_dayLine_104 (fun H locs G => ?_)
        have G : zS T A s.heap s [[(m_read, .inl (T.2 0, 121, .inl (upd (upd f_read y_108.toNatClampNeg y_17) y_109.toNatClampNeg r_34)))], [(mo, .inr (11, [.ref m_all, .ref m_has, .int i_size, .int j_next_73, .int j_where_74, .int j_token_75, .int j_number_76, .int j_word_77, .int j_wrong_78, .int i_farCrossing, .ref m_read, .int i_z0, .int i_crossings, .int i_inns, .ref m_posts, .ref m_shut, .ref m_here, .int i_steps, .int i_done, .int i_at, .int i_gone, .ref m_was, .ref m_came, .ref m_seenAt, .ref m_rowWorth, .ref m_farBy, .ref m_used, .int i_everywhere, .int i_again0, .int i_d0, .int i_never, .int i_firstCame, .int i_longRun, .int i_moved, .int i_crowd, .int i_l0, .int i_fitMany, .int i_fitLeast, .int i_fitMost, .ref m_fitPost, .ref m_fitEnd, .ref m_keptPosts, .int i_x0]))], [(m_all, .inl (T.2 0, 3952, .inl g_all_79))]] _ _ := G
        refine lv_aload_n hx hb dX12_dayLine_105 rfl (lv_at hl 5 rfl) ?_
        refine z_get C G clX12 1 rfl 10 (by decide) m_fl_RX12_17 rfl dX12_dayLine_106 ?_
        refine lv_iload hx hb dX12_dayLine_109 (lv_at hl 0 rfl) ?_
        refine lv_iconst (v := 2) hx hb dX12_dayLine_111 (by decide) ?_
        refine lv_iadd hx hb dX12_dayLine_112 ?_
        refine lv_topi (fun y_110 ey_110 => ?_)
        have ey_110i : y_110.toInt = y_108.toInt + (2 : Int) := by rw [ey_110]; exact z_iaddI (x := y_108) (y := (2 : Int32)) (by show -2147483648 ≤ y_108.toInt + (2 : Int); omega) (by show y_108.toInt + (2 : Int) < 2147483648; omega)
        refine lv_iload hx hb dX12_dayLine_113 (lv_at hl 1 rfl) ?_
        refine z_ist C G 0 rfl (vp_in_iff.mpr ⟨by omega, by omega⟩) dX12_dayLine_115 (fun H locs G => ?_)
        have G : zS T A s.heap s [[(m_read, .inl (T.2 0, 121, .inl (upd (upd (upd f_read y_108.toNatClampNeg y_17) y_109.toNatClampNeg r_34) y_110.toNatClampNeg r_89)))], [(mo, .inr (11, [.ref m_all, .ref m_has, .int i_size, .int j_next_73, .int j_where_74, .int j_token_75, .int j_number_76, .int j_word_77, .int j_wrong_78, .int i_farCrossing, .ref m_read, .int i_z0, .int i_crossings, .int i_inns, .ref m_posts, .ref m_shut, .ref m_here, .int i_steps, .int i_done, .int i_at, .int i_gone, .ref m_was, .ref m_came, .ref m_seenAt, .ref m_rowWorth, .ref m_farBy, .ref m_used, .int i_everywhere, .int i_again0, .int i_d0, .int i_never, .int i_firstCame, .int i_longRun, .int i_moved, .int i_crowd, .int i_l0, .int i_fitMany, .int i_fitLeast, .int i_fitMost, .ref m_fitPost, .ref m_fitEnd, .ref m_keptPosts, .int i_x0]))], [(m_all, .inl (T.2 0, 3952, .inl g_all_79))]] _ _ := G
        refine lv_aload_n hx hb dX12_dayLine_116 rfl (lv_at hl 5 rfl) ?_
        refine z_get C G clX12 1 rfl 10 (by decide) m_fl_RX12_17 rfl dX12_dayLine_117 ?_
        refine lv_iconst (v := 0) hx hb dX12_dayLine_120 (by decide) ?_
        refine lv_dup2_11 hx hb dX12_dayLine_121 rfl rfl ?_
        refine z_ild C G 0 rfl (vp_in_nI (n := 0) (by decide) (by decide)) dX12_dayLine_122 ?_
        refine lv_topi (fun v_111 ev_111 => ?_)
        rw [show ((0 : Int32).toNatClampNeg) = 0 from rfl] at ev_111
        subst ev_111
        refine lv_iconst (v := 1) hx hb dX12_dayLine_123 (by decide) ?_
        have hcl_y_110 := z_clI (x := y_110) (by omega)
        have hcl_y_109 := z_clI (x := y_109) (by omega)
        have hcl_y_108 := z_clI (x := y_108) (by omega)
        rw [show (upd (upd (upd f_read y_108.toNatClampNeg y_17) y_109.toNatClampNeg r_34) y_110.toNatClampNeg r_89) 0 = f_read 0 from by unfold upd; rw [if_neg (by omega), if_neg (by omega), if_neg (by omega)]]
        refine lv_iadd hx hb dX12_dayLine_124 ?_
        refine lv_topi (fun y_112 ey_112 => ?_)
        have ey_112i : y_112.toInt = (f_read 0).toInt + (1 : Int) := by rw [ey_112]; exact z_iaddI (x := (f_read 0)) (y := (1 : Int32)) (by show -2147483648 ≤ (f_read 0).toInt + (1 : Int); omega) (by show (f_read 0).toInt + (1 : Int) < 2147483648; omega)
        refine z_ist C G 0 rfl (vp_in_nI (n := 0) (by decide) (by decide)) dX12_dayLine_125 (fun H locs G => ?_)
        have G : zS T A s.heap s [[(m_read, .inl (T.2 0, 121, .inl (upd (upd (upd (upd f_read y_108.toNatClampNeg y_17) y_109.toNatClampNeg r_34) y_110.toNatClampNeg r_89) 0 y_112)))], [(mo, .inr (11, [.ref m_all, .ref m_has, .int i_size, .int j_next_73, .int j_where_74, .int j_token_75, .int j_number_76, .int j_word_77, .int j_wrong_78, .int i_farCrossing, .ref m_read, .int i_z0, .int i_crossings, .int i_inns, .ref m_posts, .ref m_shut, .ref m_here, .int i_steps, .int i_done, .int i_at, .int i_gone, .ref m_was, .ref m_came, .ref m_seenAt, .ref m_rowWorth, .ref m_farBy, .ref m_used, .int i_everywhere, .int i_again0, .int i_d0, .int i_never, .int i_firstCame, .int i_longRun, .int i_moved, .int i_crowd, .int i_l0, .int i_fitMany, .int i_fitLeast, .int i_fitMost, .ref m_fitPost, .ref m_fitEnd, .ref m_keptPosts, .int i_x0]))], [(m_all, .inl (T.2 0, 3952, .inl g_all_79))]] _ _ := G
        refine lv_aload_n hx hb dX12_dayLine_126 rfl (lv_at hl 5 rfl) ?_
        refine z_Vv (bc := [[(mo, .inr (11, [.ref m_all, .ref m_has, .int i_size, .int j_next_73, .int j_where_74, .int j_token_75, .int j_number_76, .int j_word_77, .int j_wrong_78, .int i_farCrossing, .ref m_read, .int i_z0, .int i_crossings, .int i_inns, .ref m_posts, .ref m_shut, .ref m_here, .int i_steps, .int i_done, .int i_at, .int i_gone, .ref m_was, .ref m_came, .ref m_seenAt, .ref m_rowWorth, .ref m_farBy, .ref m_used, .int i_everywhere, .int i_again0, .int i_d0, .int i_never, .int i_firstCame, .int i_longRun, .int i_moved, .int i_crowd, .int i_l0, .int i_fitMany, .int i_fitLeast, .int i_fitMost, .ref m_fitPost, .ref m_fitEnd, .ref m_keptPosts, .int i_x0]))], [(m_all, .inl (T.2 0, 3952, .inl g_all_79))]]) (br := [[(m_read, .inl (T.2 0, 121, .inl (upd (upd (upd (upd f_read y_108.toNatClampNeg y_17) y_109.toNatClampNeg r_34) y_110.toNatClampNeg r_89) 0 y_112)))]]) (As := []) (rest := []) C G (c_fm_endsLine l T mo m_all m_has i_size j_next_73 j_where_74 j_token_75 j_number_76 j_word_77 j_wrong_78 i_farCrossing m_read i_z0 i_crossings i_inns m_posts m_shut m_here i_steps i_done i_at i_gone m_was m_came m_seenAt m_rowWorth m_farBy m_used i_everywhere i_again0 i_d0 i_never i_firstCame i_longRun i_moved i_crowd i_l0 i_fitMany i_fitLeast i_fitMost m_fitPost m_fitEnd m_keptPosts i_x0 g_all_79 k n ((pNum k 0 3 (pNum k 0 6 b).2).2) (by first | with_reducible assumption | with_reducible rfl | omega | assumption | rfl) (by first | with_reducible assumption | with_reducible rfl | omega | assumption | rfl) (by first | with_reducible assumption | with_reducible rfl | omega | assumption | rfl) h_87) (kV_RX12_140 C.2.2.2.2 (Nat.le_of_ble_eq_true rfl) (Nat.le_of_ble_eq_true rfl)) [1, 2] [0] rfl rfl (ci := 11) (qc := (RX12, TX12, 43)) rfl rfl (List.mem_flatten.mpr ⟨_, List.mem_of_getElem? (i := 0) rfl, List.mem_cons_self⟩) rfl rfl hl.1 dX12_dayLine_127 (Nat.le_of_ble_eq_true rfl) (Nat.le_of_ble_eq_true rfl) (fun b1 H locs hw G => ?_)
        refine zEx7 hw ?_
        intro j_next_113 j_where_114 j_token_115 j_number_116 j_word_117 j_wrong_118 g_all_119
        refine zCu7 ?_
        intro hbs9 h_120 h_121 h_122 h_123 h_124 h_125
        clear hw
        subst hbs9
        have G : zS T A s.heap s [[(m_read, .inl (T.2 0, 121, .inl (upd (upd (upd (upd f_read y_108.toNatClampNeg y_17) y_109.toNatClampNeg r_34) y_110.toNatClampNeg r_89) 0 y_112)))], [(mo, .inr (11, [.ref m_all, .ref m_has, .int i_size, .int j_next_113, .int j_where_114, .int j_token_115, .int j_number_116, .int j_word_117, .int j_wrong_118, .int i_farCrossing, .ref m_read, .int i_z0, .int i_crossings, .int i_inns, .ref m_posts, .ref m_shut, .ref m_here, .int i_steps, .int i_done, .int i_at, .int i_gone, .ref m_was, .ref m_came, .ref m_seenAt, .ref m_rowWorth, .ref m_farBy, .ref m_used, .int i_everywhere, .int i_again0, .int i_d0, .int i_never, .int i_firstCame, .int i_longRun, .int i_moved, .int i_crowd, .int i_l0, .int i_fitMany, .int i_fitLeast, .int i_fitMost, .ref m_fitPost, .ref m_fitEnd, .ref m_keptPosts, .int i_x0]))], [(m_all, .inl (T.2 0, 3952, .inl g_all_119))]] _ _ := G
        have G := G.sub (bs' := [[(mo, .inr (11, [.ref m_all, .ref m_has, .int i_size, .int j_next_113, .int j_where_114, .int j_token_115, .int j_number_116, .int j_word_117, .int j_wrong_118, .int i_farCrossing, .ref m_read, .int i_z0, .int i_crossings, .int i_inns, .ref m_posts, .ref m_shut, .ref m_here, .int i_steps, .int i_done, .int i_at, .int i_gone, .ref m_was, .ref m_came, .ref m_seenAt, .ref m_rowWorth, .ref m_farBy, .ref m_used, .int i_everywhere, .int i_again0, .int i_d0, .int i_never, .int i_firstCame, .int i_longRun, .int i_moved, .int i_crowd, .int i_l0, .int i_fitMany, .int i_fitLeast, .int i_fitMost, .ref m_fitPost, .ref m_fitEnd, .ref m_keptPosts, .int i_x0]))], [(m_all, .inl (T.2 0, 3952, .inl g_all_119))], [(m_read, .inl (T.2 0, 121, .inl (upd (upd (upd (upd f_read y_108.toNatClampNeg y_17) y_109.toNatClampNeg r_34) y_110.toNatClampNeg r_89) 0 y_112)))]]) [1, 2, 0] rfl
        exact z_vret C hr hlocks G (Nat.le_of_ble_eq_true rfl) (Nat.le_of_ble_eq_true rfl) dX12_dayLine_130 ⟨j_next_113, j_where_114, j_token_115, j_number_116, j_word_117, j_wrong_118, g_all_119, (upd (upd (upd (upd f_read y_108.toNatClampNeg y_17) y_109.toNatClampNeg r_34) y_110.toNatClampNeg r_89) 0 y_112), rfl, (by first | with_reducible assumption | omega | trivial | assumption), (by first | with_reducible assumption | omega | trivial | assumption), (by first | with_reducible assumption | omega | trivial | assumption), (by first | with_reducible assumption | omega | trivial | assumption), (hpgb.tr (h_29.tr (h_84.tr h_124))), (zCF_upd (k := 0) (v := y_112) (zCF_upd (k := y_110.toNatClampNeg) (v := r_89) (zCF_upd (k := y_109.toNatClampNeg) (v := r_34) (zCF_upd (k := y_108.toNatClampNeg) (v := y_17) (by assumption) (by have q9 := z_clI (x := y_108) (by omega); omega)) (by have q9 := z_clI (x := y_109) (by omega); omega)) (by have q9 := z_clI (x := y_110) (by omega); omega)) (by omega)), (by unfold pDay; rw [hd]; show zRr _ _ _ _ _ _ _ _ _ _ _ (pEndL k (pDeed k d1 (nI (pWh k a.1)) d2 f_read).1); rw [← t2, pDeed_1 hbq, pDY_hi (by omega)]; exact h_125), (by unfold pDay; rw [hd]; show _ = (pDeed k d1 (nI (pWh k a.1)) d2 f_read).2; rw [← t2]; unfold pDeed; rw [← hbq]; rw [if_pos (by omega)]; have hy2 : (pDY k d1 (pNum k 0 6 b).2).1 = r_89 := (congrArg Prod.fst (pDY_hi (by omega))).trans h_88.symm; have qy_110 := z_clI (x := y_110) (by omega); have qy_109 := z_clI (x := y_109) (by omega); have qy_108 := z_clI (x := y_108) (by omega); rw [hy2, ← h_33, show y_110.toNatClampNeg = 3 + 3 * (f_read 0).toInt.toNat by omega, show y_109.toNatClampNeg = 2 + 3 * (f_read 0).toInt.toNat by omega, show y_108.toNatClampNeg = 1 + 3 * (f_read 0).toInt.toNat by omega, ey_112, ey_17, hvd])⟩
  refine lv_aload_n hx hb dX12_dayLine_15 rfl (lv_at hl 2 rfl) ?_
  refine z_get C G clX12 1 rfl 8 (by decide) m_fl_RX12_104 rfl dX12_dayLine_16 ?_
  refine lv_if_ne (tgt := 39) hx hb dX12_dayLine_19 (by decide) (fun c_127 => ?_) (fun c_127 => ?_)
  · have c_127n : ¬ j_wrong_6.toInt = (0 : Int) := fun q => c_127 ((fa_eq _ _).mpr q)
    obtain ⟨b, hbq⟩ : ∃ b, b = pDB 40 i_where f_read d2 := ⟨_, rfl⟩
    have hRb : zRr k n i_size j_next_1 j_where_2 j_token_3 j_number_4 j_word_5 j_wrong_6 i_farCrossing g_all_7 b := by rw [hbq]; first | (rw [pDB_b (by rw [← hA6D]; omega)]; exact hRd) | (unfold pDB; rw [if_neg (by omega)]; exact hRd)
    exact jn_39 g_all_7 b (show b = pDB 40 i_where f_read d2 ∧ zRr k n i_size j_next_1 j_where_2 j_token_3 j_number_4 j_word_5 j_wrong_6 i_farCrossing g_all_7 b ∧ zPal f_all g_all_7 from ⟨hbq, hRb, h_12⟩) _ _ ls G (lv_sub hl [0, 1, 2] rfl)
  · have c_127n : j_wrong_6.toInt = (0 : Int) := (fa_eq _ _).mp c_127
    refine lv_aload_n hx hb dX12_dayLine_22 rfl (lv_at hl 2 rfl) ?_
    refine z_get C G clX12 1 rfl 10 (by decide) m_fl_RX12_17 rfl dX12_dayLine_23 ?_
    refine lv_iconst (v := 0) hx hb dX12_dayLine_26 (by decide) ?_
    refine z_ild C G 0 rfl (vp_in_nI (n := 0) (by decide) (by decide)) dX12_dayLine_27 ?_
    refine lv_topi (fun v_128 ev_128 => ?_)
    rw [show ((0 : Int32).toNatClampNeg) = 0 from rfl] at ev_128
    subst ev_128
    refine lv_bipush (v := 40) hx hb dX12_dayLine_28 (by decide) ?_
    refine lv_icmp_lt (tgt := 39) hx hb dX12_dayLine_30 (by decide) (fun c_129 => ?_) (fun c_129 => ?_)
    · have c_129n : (f_read 0).toInt < (40 : Int) := (fa_lt _ _).mp c_129
      obtain ⟨b, hbq⟩ : ∃ b, b = pDB 40 i_where f_read d2 := ⟨_, rfl⟩
      have hRb : zRr k n i_size j_next_1 j_where_2 j_token_3 j_number_4 j_word_5 j_wrong_6 i_farCrossing g_all_7 b := by rw [hbq]; first | (rw [pDB_b (by rw [← hA6D]; omega)]; exact hRd) | (unfold pDB; rw [if_neg (by omega)]; exact hRd)
      exact jn_39 g_all_7 b (show b = pDB 40 i_where f_read d2 ∧ zRr k n i_size j_next_1 j_where_2 j_token_3 j_number_4 j_word_5 j_wrong_6 i_farCrossing g_all_7 b ∧ zPal f_all g_all_7 from ⟨hbq, hRb, h_12⟩) _ _ ls G (lv_sub hl [0, 1, 2] rfl)
    · have c_129n : ¬ (f_read 0).toInt < (40 : Int) := fun q => c_129 ((fa_lt _ _).mpr q)
      refine lv_aload_n hx hb dX12_dayLine_33 rfl (lv_at hl 2 rfl) ?_
      refine lv_iconst (v := 3) hx hb dX12_dayLine_34 (by decide) ?_
      refine lv_iload_n hx hb dX12_dayLine_35 rfl (lv_at hl 1 rfl) ?_
      refine z_Vv (bc := [[(mo, .inr (11, [.ref m_all, .ref m_has, .int i_size, .int j_next_1, .int j_where_2, .int j_token_3, .int j_number_4, .int j_word_5, .int j_wrong_6, .int i_farCrossing, .ref m_read, .int i_z0, .int i_crossings, .int i_inns, .ref m_posts, .ref m_shut, .ref m_here, .int i_steps, .int i_done, .int i_at, .int i_gone, .ref m_was, .ref m_came, .ref m_seenAt, .ref m_rowWorth, .ref m_farBy, .ref m_used, .int i_everywhere, .int i_again0, .int i_d0, .int i_never, .int i_firstCame, .int i_longRun, .int i_moved, .int i_crowd, .int i_l0, .int i_fitMany, .int i_fitLeast, .int i_fitMost, .ref m_fitPost, .ref m_fitEnd, .ref m_keptPosts, .int i_x0]))], [(m_all, .inl (T.2 0, 3952, .inl g_all_7))]]) (br := [[(m_read, .inl (T.2 0, 121, .inl f_read))]]) (As := [.int 3, .int i_where]) (rest := []) C G (c_fm_also l T mo m_all m_has i_size j_next_1 j_where_2 j_token_3 j_number_4 j_word_5 j_wrong_6 i_farCrossing m_read i_z0 i_crossings i_inns m_posts m_shut m_here i_steps i_done i_at i_gone m_was m_came m_seenAt m_rowWorth m_farBy m_used i_everywhere i_again0 i_d0 i_never i_firstCame i_longRun i_moved i_crowd i_l0 i_fitMany i_fitLeast i_fitMost m_fitPost m_fitEnd m_keptPosts i_x0 g_all_7 3 i_where) (kV_RX12_115 C.2.2.2.2 (Nat.le_of_ble_eq_true rfl) (Nat.le_of_ble_eq_true rfl)) [1, 2] [0] rfl rfl (ci := 11) (qc := (RX12, TX12, 43)) rfl rfl (List.mem_flatten.mpr ⟨_, List.mem_of_getElem? (i := 0) rfl, List.mem_cons_self⟩) rfl rfl hl.1 dX12_dayLine_36 (Nat.le_of_ble_eq_true rfl) (Nat.le_of_ble_eq_true rfl) (fun b1 H locs hw G => ?_)
      refine zEx1 hw ?_
      intro g_all_130
      refine zCu3 ?_
      intro hbs9 h_131 h_132
      clear hw
      subst hbs9
      have G : zS T A s.heap s [[(m_read, .inl (T.2 0, 121, .inl f_read))], [(mo, .inr (11, [.ref m_all, .ref m_has, .int i_size, .int j_next_1, .int j_where_2, .int j_token_3, .int j_number_4, .int j_word_5, .int j_wrong_6, .int i_farCrossing, .ref m_read, .int i_z0, .int i_crossings, .int i_inns, .ref m_posts, .ref m_shut, .ref m_here, .int i_steps, .int i_done, .int i_at, .int i_gone, .ref m_was, .ref m_came, .ref m_seenAt, .ref m_rowWorth, .ref m_farBy, .ref m_used, .int i_everywhere, .int i_again0, .int i_d0, .int i_never, .int i_firstCame, .int i_longRun, .int i_moved, .int i_crowd, .int i_l0, .int i_fitMany, .int i_fitLeast, .int i_fitMost, .ref m_fitPost, .ref m_fitEnd, .ref m_keptPosts, .int i_x0]))], [(m_all, .inl (T.2 0, 3952, .inl g_all_130))]] _ _ := G
      have h_132 : g_all_130 = (if ¬ j_wrong_6.toInt = 0 ∨ (¬ (g_all_7 5).toInt = 0 ∧ ((g_all_7 6).toInt < i_where.toInt ∨ ((g_all_7 6).toInt = i_where.toInt ∧ (g_all_7 5).toInt ≤ (3 : Int)))) then g_all_7 else upd (upd g_all_7 5 3) 6 i_where) := h_132
      obtain ⟨b, hbq⟩ : ∃ b, b = pDB 40 i_where f_read d2 := ⟨_, rfl⟩
      have hRb : zRr k n i_size j_next_1 j_where_2 j_token_3 j_number_4 j_word_5 j_wrong_6 i_farCrossing g_all_130 b := by rw [hbq]; unfold pDB; rw [if_pos (by omega)]; exact zRr_also (kd := 3) (w := i_where) hRd h_132
      exact jn_39 g_all_130 b (show b = pDB 40 i_where f_read d2 ∧ zRr k n i_size j_next_1 j_where_2 j_token_3 j_number_4 j_word_5 j_wrong_6 i_farCrossing g_all_130 b ∧ zPal f_all g_all_130 from ⟨hbq, hRb, (h_12.tr h_131)⟩) _ _ ls G (lv_sub hl [0, 1, 2] rfl)
set_option maxHeartbeats 4000000 in
set_option maxRecDepth 100000 in
/-- c_fm_logLine -/
theorem c_fm_logLine (l : Launch) (T : zTy) (mo : Nat) (m_all : Nat) (m_has : Nat) (i_size : Int32) (i_next : Int32) (i_where : Int32) (i_token : Int32) (i_number : Int32) (i_word : Int32) (i_wrong : Int32) (i_farCrossing : Int32) (m_read : Nat) (i_z0 : Int32) (i_crossings : Int32) (i_inns : Int32) (m_posts : Nat) (m_shut : Nat) (m_here : Nat) (i_steps : Int32) (i_done : Int32) (i_at : Int32) (i_gone : Int32) (m_was : Nat) (m_came : Nat) (m_seenAt : Nat) (m_rowWorth : Nat) (m_farBy : Nat) (m_used : Nat) (i_everywhere : Int32) (i_again0 : Int32) (i_d0 : Int32) (i_never : Int32) (i_firstCame : Int32) (i_longRun : Int32) (i_moved : Int32) (i_crowd : Int32) (i_l0 : Int32) (i_fitMany : Int32) (i_fitLeast : Int32) (i_fitMost : Int32) (m_fitPost : Nat) (m_fitEnd : Nat) (m_keptPosts : Nat) (i_x0 : Int32) (f_all : Nat → Int32) (f_read : Nat → Int32) (k : pT) (n : Nat) (a : pS) (hsz : i_size.toInt ≤ 600) (hn0 : 0 ≤ i_next.toInt) (hns : i_next.toInt ≤ i_size.toInt) (hR : zCF 8 f_read) (hA : zRr k n i_size i_next i_where i_token i_number i_word i_wrong i_farCrossing f_all a) (hw : a.2.1.toInt = 0) : zMv l T yX12_logLine cX12_logLine 5 6 0 0 [.ref mo] [[(mo, .inr (11, [.ref m_all, .ref m_has, .int i_size, .int i_next, .int i_where, .int i_token, .int i_number, .int i_word, .int i_wrong, .int i_farCrossing, .ref m_read, .int i_z0, .int i_crossings, .int i_inns, .ref m_posts, .ref m_shut, .ref m_here, .int i_steps, .int i_done, .int i_at, .int i_gone, .ref m_was, .ref m_came, .ref m_seenAt, .ref m_rowWorth, .ref m_farBy, .ref m_used, .int i_everywhere, .int i_again0, .int i_d0, .int i_never, .int i_firstCame, .int i_longRun, .int i_moved, .int i_crowd, .int i_l0, .int i_fitMany, .int i_fitLeast, .int i_fitMost, .ref m_fitPost, .ref m_fitEnd, .ref m_keptPosts, .int i_x0]))], [(m_all, .inl (T.2 0, 3952, .inl f_all))], [(m_read, .inl (T.2 0, 121, .inl f_read))]] (fun bs => ∃ (j_next : Int32) (j_where : Int32) (j_token : Int32) (j_number : Int32) (j_word : Int32) (j_wrong : Int32) (g_all : Nat → Int32) (g_read : Nat → Int32), bs = [[(mo, .inr (11, [.ref m_all, .ref m_has, .int i_size, .int j_next, .int j_where, .int j_token, .int j_number, .int j_word, .int j_wrong, .int i_farCrossing, .ref m_read, .int i_z0, .int i_crossings, .int i_inns, .ref m_posts, .ref m_shut, .ref m_here, .int i_steps, .int i_done, .int i_at, .int i_gone, .ref m_was, .ref m_came, .ref m_seenAt, .ref m_rowWorth, .ref m_farBy, .ref m_used, .int i_everywhere, .int i_again0, .int i_d0, .int i_never, .int i_firstCame, .int i_longRun, .int i_moved, .int i_crowd, .int i_l0, .int i_fitMany, .int i_fitLeast, .int i_fitMost, .ref m_fitPost, .ref m_fitEnd, .ref m_keptPosts, .int i_x0]))], [(m_all, .inl (T.2 0, 3952, .inl g_all))], [(m_read, .inl (T.2 0, 121, .inl g_read))]] ∧ 0 ≤ j_next.toInt ∧ j_next.toInt ≤ i_size.toInt ∧ i_next.toInt ≤ j_next.toInt ∧ (¬ j_wrong.toInt = 0 ∨ i_next.toInt < j_next.toInt ∨ j_token.toInt = 0) ∧ zPal f_all g_all ∧ zCF 8 g_read ∧ zRr k n i_size j_next j_where j_token j_number j_word j_wrong i_farCrossing g_all (pLog k a f_read).1 ∧ g_read = (pLog k a f_read).2) := by
  refine zMv_of (own := RX12) (by decide) rfl (Nat.le_of_ble_eq_true rfl) ?_
  intro p e s m args below meth c A ls C hr hlocks hnm hAe G hl
  have hx := C.1
  have hb := C.2.1
  have hl : lv_has ls 5 [(0, .ref mo)] := hl
  have hok := zRr_ok hA
  refine zAn6 (id hA) ?_
  intro hA1 hA6 hA7 hA8 hA9 hA10
  replace hA7 : zHd _ := hA7
  have hka : zHd _ := hok a.1 hA1.2.2.2.2
  have hkb := hka.1
  have hkc := hka.2.1
  have hT4 := pTk_le hok hA1.2.2.2.2
  refine zAn5 (hA7 hw) ?_
  intro t1 t2 t3 t4 t5
  replace t4 : zHd _ := t4
  replace t5 : zHd _ := t5
  have t3i : i_token.toInt = (pTk k a.1 : Int) := by rw [t3]; exact nI_toInt (by omega)
  have hR0 : 0 ≤ (f_read 0).toInt ∧ (f_read 0).toInt ≤ 8 := hR
  refine lv_aload_n hx hb dX12_logLine_0 rfl (lv_at hl 0 rfl) ?_
  refine z_get C G clX12 0 rfl 4 (by decide) m_fl_RX12_77 rfl dX12_logLine_1 ?_
  refine lv_istore_n (lv' := [(1, .int i_where), (0, .ref mo)]) hx hb dX12_logLine_4 rfl hl (by decide) rfl (fun ls hl => ?_)
  refine lv_aload_n hx hb dX12_logLine_5 rfl (lv_at hl 1 rfl) ?_
  refine lv_bipush (v := 11) hx hb dX12_logLine_6 (by decide) ?_
  refine lv_bipush (v := 12) hx hb dX12_logLine_8 (by decide) ?_
  refine z_Vi (bc := [[(mo, .inr (11, [.ref m_all, .ref m_has, .int i_size, .int i_next, .int i_where, .int i_token, .int i_number, .int i_word, .int i_wrong, .int i_farCrossing, .ref m_read, .int i_z0, .int i_crossings, .int i_inns, .ref m_posts, .ref m_shut, .ref m_here, .int i_steps, .int i_done, .int i_at, .int i_gone, .ref m_was, .ref m_came, .ref m_seenAt, .ref m_rowWorth, .ref m_farBy, .ref m_used, .int i_everywhere, .int i_again0, .int i_d0, .int i_never, .int i_firstCame, .int i_longRun, .int i_moved, .int i_crowd, .int i_l0, .int i_fitMany, .int i_fitLeast, .int i_fitMost, .ref m_fitPost, .ref m_fitEnd, .ref m_keptPosts, .int i_x0]))], [(m_all, .inl (T.2 0, 3952, .inl f_all))]]) (br := [[(m_read, .inl (T.2 0, 121, .inl f_read))]]) (As := [.int 11, .int 12]) (rest := []) C G (c_fm_wordIn l T mo m_all m_has i_size i_next i_where i_token i_number i_word i_wrong i_farCrossing m_read i_z0 i_crossings i_inns m_posts m_shut m_here i_steps i_done i_at i_gone m_was m_came m_seenAt m_rowWorth m_farBy m_used i_everywhere i_again0 i_d0 i_never i_firstCame i_longRun i_moved i_crowd i_l0 i_fitMany i_fitLeast i_fitMost m_fitPost m_fitEnd m_keptPosts i_x0 f_all k n a 11 12 11 12 (by first | with_reducible assumption | with_reducible rfl | omega | assumption | rfl) (by first | with_reducible assumption | with_reducible rfl | omega | assumption | rfl) (by first | with_reducible assumption | with_reducible rfl | omega | assumption | rfl) hA rfl rfl) (kV_RX12_133 C.2.2.2.2 (Nat.le_of_ble_eq_true rfl) (Nat.le_of_ble_eq_true rfl)) [0, 1] [2] rfl rfl (ci := 11) (qc := (RX12, TX12, 43)) rfl rfl (List.mem_flatten.mpr ⟨_, List.mem_of_getElem? (i := 0) rfl, List.mem_cons_self⟩) rfl rfl hl.1 dX12_logLine_10 (Nat.le_of_ble_eq_true rfl) (Nat.le_of_ble_eq_true rfl) (fun r_16 b1 H locs hw G => ?_)
  refine zEx7 hw ?_
  intro j_next_1 j_where_2 j_token_3 j_number_4 j_word_5 j_wrong_6 g_all_7
  refine zCu9 ?_
  intro hbs9 h_8 h_9 h_10 h_11 h_12 h_13 h_14 h_15
  clear hw
  subst hbs9
  have G : zS T A s.heap s [[(m_read, .inl (T.2 0, 121, .inl f_read))], [(mo, .inr (11, [.ref m_all, .ref m_has, .int i_size, .int j_next_1, .int j_where_2, .int j_token_3, .int j_number_4, .int j_word_5, .int j_wrong_6, .int i_farCrossing, .ref m_read, .int i_z0, .int i_crossings, .int i_inns, .ref m_posts, .ref m_shut, .ref m_here, .int i_steps, .int i_done, .int i_at, .int i_gone, .ref m_was, .ref m_came, .ref m_seenAt, .ref m_rowWorth, .ref m_farBy, .ref m_used, .int i_everywhere, .int i_again0, .int i_d0, .int i_never, .int i_firstCame, .int i_longRun, .int i_moved, .int i_crowd, .int i_l0, .int i_fitMany, .int i_fitLeast, .int i_fitMost, .ref m_fitPost, .ref m_fitEnd, .ref m_keptPosts, .int i_x0]))], [(m_all, .inl (T.2 0, 3952, .inl g_all_7))]] _ _ := G
  have h_13 : (r_16.toInt = 0 ∨ (11 : Int) ≤ r_16.toInt ∧ r_16.toInt ≤ (12 : Int)) := h_13
  obtain ⟨d1, d2, hd⟩ : ∃ (d1 : Nat) (d2 : pS), pWord k 11 12 a = (d1, d2) := ⟨_, _, rfl⟩
  have hRd : zRr k n i_size j_next_1 j_where_2 j_token_3 j_number_4 j_word_5 j_wrong_6 i_farCrossing g_all_7 d2 := by have q9 := h_14; rw [hd] at q9; exact q9
  have hvd : r_16 = nI d1 := by have q9 := h_15; rw [hd] at q9; exact q9
  have hokD := zRr_ok hRd
  refine zAn6 (id hRd) ?_
  intro hA1D hA6D hA7D hA8D hA9D hA10D
  replace hA7D : zHd _ := hA7D
  have hkaD : zHd _ := hokD d2.1 hA1D.2.2.2.2
  have hkbD := hkaD.1
  have hkcD := hkaD.2.1
  have hT4D := pTk_le hokD hA1D.2.2.2.2
  have hdr : d2.2.1.toInt = 0 → 11 ≤ d1 ∧ d1 ≤ 12 := fun q9 => by have q8 := pWord_r (k := k) (lo := 11) (hi := 12) (a := a) (by rw [hd]; exact q9); have q6 := q8.2.2.2; rw [hd] at q6; have q7 : d1 = pWd k a.1 := congrArg Prod.fst q6; omega
  have hd4 : d1 ≤ 12 := by have q9 := pWord_1 k 11 12 a; rw [hd] at q9; exact q9
  have hdi : (r_16).toInt = (d1 : Int) := by rw [hvd]; exact nI_toInt (by omega)
  refine lv_bipush (v := 11) hx hb dX12_logLine_13 (by decide) ?_
  refine lv_icmp_ne (tgt := 22) hx hb dX12_logLine_15 (by decide) (fun c_17 => ?_) (fun c_17 => ?_)
  · have c_17n : ¬ r_16.toInt = (11 : Int) := fun q => c_17 ((fa_eq _ _).mpr q)
    refine lv_iconst (v := 0) hx hb dX12_logLine_22 (by decide) ?_
    refine lv_istore_n (lv' := [(2, .int 0), (1, .int i_where), (0, .ref mo)]) hx hb dX12_logLine_23 rfl hl (by decide) rfl (fun ls hl => ?_)
    refine zMt2 (T := T) 48 (fun (gb : Nat → Int32) (b : pS) => [[(m_read, .inl (T.2 0, 121, .inl f_read))], [(mo, .inr (11, [.ref m_all, .ref m_has, .int i_size, .int j_next_1, .int j_where_2, .int j_token_3, .int j_number_4, .int j_word_5, .int j_wrong_6, .int i_farCrossing, .ref m_read, .int i_z0, .int i_crossings, .int i_inns, .ref m_posts, .ref m_shut, .ref m_here, .int i_steps, .int i_done, .int i_at, .int i_gone, .ref m_was, .ref m_came, .ref m_seenAt, .ref m_rowWorth, .ref m_farBy, .ref m_used, .int i_everywhere, .int i_again0, .int i_d0, .int i_never, .int i_firstCame, .int i_longRun, .int i_moved, .int i_crowd, .int i_l0, .int i_fitMany, .int i_fitLeast, .int i_fitMost, .ref m_fitPost, .ref m_fitEnd, .ref m_keptPosts, .int i_x0]))], [(m_all, .inl (T.2 0, 3952, .inl gb))]]) (fun (gb : Nat → Int32) (b : pS) => [(2, .int 0), (1, .int i_where), (0, .ref mo)]) (fun (gb : Nat → Int32) (b : pS) => b = pDB 8 i_where f_read d2 ∧ zRr k n i_size j_next_1 j_where_2 j_token_3 j_number_4 j_word_5 j_wrong_6 i_farCrossing gb b ∧ zPal f_all gb) G hl ?_ (fun jn_48 => ?_)
    · intro gb b hI9 H locs ls G hl
      replace hI9 : b = pDB 8 i_where f_read d2 ∧ zRr k n i_size j_next_1 j_where_2 j_token_3 j_number_4 j_word_5 j_wrong_6 i_farCrossing gb b ∧ zPal f_all gb := hI9
      refine zAn3 hI9 ?_
      intro hbq hRb hpgb
      clear hI9
      replace G : zS T A s.heap s [[(m_read, .inl (T.2 0, 121, .inl f_read))], [(mo, .inr (11, [.ref m_all, .ref m_has, .int i_size, .int j_next_1, .int j_where_2, .int j_token_3, .int j_number_4, .int j_word_5, .int j_wrong_6, .int i_farCrossing, .ref m_read, .int i_z0, .int i_crossings, .int i_inns, .ref m_posts, .ref m_shut, .ref m_here, .int i_steps, .int i_done, .int i_at, .int i_gone, .ref m_was, .ref m_came, .ref m_seenAt, .ref m_rowWorth, .ref m_farBy, .ref m_used, .int i_everywhere, .int i_again0, .int i_d0, .int i_never, .int i_firstCame, .int i_longRun, .int i_moved, .int i_crowd, .int i_l0, .int i_fitMany, .int i_fitLeast, .int i_fitMost, .ref m_fitPost, .ref m_fitEnd, .ref m_keptPosts, .int i_x0]))], [(m_all, .inl (T.2 0, 3952, .inl gb))]] _ _ := G
      replace hl : lv_has ls 5 [(2, .int 0), (1, .int i_where), (0, .ref mo)] := hl
      refine lv_aload_n hx hb dX12_logLine_48 rfl (lv_at hl 2 rfl) ?_
      refine lv_iconst (v := 0) hx hb dX12_logLine_49 (by decide) ?_
      refine lv_bipush (v := 6) hx hb dX12_logLine_50 (by decide) ?_
      refine z_Vi (bc := [[(mo, .inr (11, [.ref m_all, .ref m_has, .int i_size, .int j_next_1, .int j_where_2, .int j_token_3, .int j_number_4, .int j_word_5, .int j_wrong_6, .int i_farCrossing, .ref m_read, .int i_z0, .int i_crossings, .int i_inns, .ref m_posts, .ref m_shut, .ref m_here, .int i_steps, .int i_done, .int i_at, .int i_gone, .ref m_was, .ref m_came, .ref m_seenAt, .ref m_rowWorth, .ref m_farBy, .ref m_used, .int i_everywhere, .int i_again0, .int i_d0, .int i_never, .int i_firstCame, .int i_longRun, .int i_moved, .int i_crowd, .int i_l0, .int i_fitMany, .int i_fitLeast, .int i_fitMost, .ref m_fitPost, .ref m_fitEnd, .ref m_keptPosts, .int i_x0]))], [(m_all, .inl (T.2 0, 3952, .inl gb))]]) (br := [[(m_read, .inl (T.2 0, 121, .inl f_read))]]) (As := [.int 0, .int 6]) (rest := []) C G (c_fm_numbered l T mo m_all m_has i_size j_next_1 j_where_2 j_token_3 j_number_4 j_word_5 j_wrong_6 i_farCrossing m_read i_z0 i_crossings i_inns m_posts m_shut m_here i_steps i_done i_at i_gone m_was m_came m_seenAt m_rowWorth m_farBy m_used i_everywhere i_again0 i_d0 i_never i_firstCame i_longRun i_moved i_crowd i_l0 i_fitMany i_fitLeast i_fitMost m_fitPost m_fitEnd m_keptPosts i_x0 gb k n b 0 6 (by first | with_reducible assumption | with_reducible rfl | omega | assumption | rfl) (by first | with_reducible assumption | with_reducible rfl | omega | assumption | rfl) (by first | with_reducible assumption | with_reducible rfl | omega | assumption | rfl) (by decide) hRb) (kV_RX12_122 C.2.2.2.2 (Nat.le_of_ble_eq_true rfl) (Nat.le_of_ble_eq_true rfl)) [1, 2] [0] rfl rfl (ci := 11) (qc := (RX12, TX12, 43)) rfl rfl (List.mem_flatten.mpr ⟨_, List.mem_of_getElem? (i := 0) rfl, List.mem_cons_self⟩) rfl rfl hl.1 dX12_logLine_52 (Nat.le_of_ble_eq_true rfl) (Nat.le_of_ble_eq_true rfl) (fun r_34 b1 H locs hw G => ?_)
      refine zEx7 hw ?_
      intro j_next_18 j_where_19 j_token_20 j_number_21 j_word_22 j_wrong_23 g_all_24
      refine zCu10 ?_
      intro hbs9 h_25 h_26 h_27 h_28 h_29 h_30 h_31 h_32 h_33
      clear hw
      subst hbs9
      have G : zS T A s.heap s [[(m_read, .inl (T.2 0, 121, .inl f_read))], [(mo, .inr (11, [.ref m_all, .ref m_has, .int i_size, .int j_next_18, .int j_where_19, .int j_token_20, .int j_number_21, .int j_word_22, .int j_wrong_23, .int i_farCrossing, .ref m_read, .int i_z0, .int i_crossings, .int i_inns, .ref m_posts, .ref m_shut, .ref m_here, .int i_steps, .int i_done, .int i_at, .int i_gone, .ref m_was, .ref m_came, .ref m_seenAt, .ref m_rowWorth, .ref m_farBy, .ref m_used, .int i_everywhere, .int i_again0, .int i_d0, .int i_never, .int i_firstCame, .int i_longRun, .int i_moved, .int i_crowd, .int i_l0, .int i_fitMany, .int i_fitLeast, .int i_fitMost, .ref m_fitPost, .ref m_fitEnd, .ref m_keptPosts, .int i_x0]))], [(m_all, .inl (T.2 0, 3952, .inl g_all_24))]] _ _ := G
      have h_30 : (0 : Int) ≤ r_34.toInt := h_30
      have h_31 : r_34.toInt ≤ (6 : Int) := h_31
      refine lv_istore_n (lv' := [(3, .int r_34), (2, .int 0), (1, .int i_where), (0, .ref mo)]) hx hb dX12_logLine_55 rfl hl (by decide) rfl (fun ls hl => ?_)
      refine lv_iload_n hx hb dX12_logLine_56 rfl (lv_at hl 1 rfl) ?_
      refine lv_if_eq (tgt := 70) hx hb dX12_logLine_57 (by decide) (fun _ => ?_) (fun q => absurd (by decide) q)
      refine lv_iconst (v := (-1)) hx hb dX12_logLine_70 (by decide) ?_
      refine lv_istore (lv' := [(4, .int (-1)), (3, .int r_34), (2, .int 0), (1, .int i_where), (0, .ref mo)]) hx hb dX12_logLine_71 hl (by decide) rfl (fun ls hl => ?_)
      refine lv_aload_n hx hb dX12_logLine_73 rfl (lv_at hl 4 rfl) ?_
      refine z_get C G clX12 1 rfl 10 (by decide) m_fl_RX12_17 rfl dX12_logLine_74 ?_
      refine lv_iconst (v := 0) hx hb dX12_logLine_77 (by decide) ?_
      refine z_ild C G 0 rfl (vp_in_nI (n := 0) (by decide) (by decide)) dX12_logLine_78 ?_
      refine lv_topi (fun v_35 ev_35 => ?_)
      rw [show ((0 : Int32).toNatClampNeg) = 0 from rfl] at ev_35
      subst ev_35
      refine lv_bipush (v := 8) hx hb dX12_logLine_79 (by decide) ?_
      refine lv_icmp_ge (tgt := 127) hx hb dX12_logLine_81 (by decide) (fun c_36 => ?_) (fun c_36 => ?_)
      · have c_36n : (8 : Int) ≤ (f_read 0).toInt := (fa_le _ _).mp c_36
        refine lv_aload_n hx hb dX12_logLine_127 rfl (lv_at hl 4 rfl) ?_
        refine z_Vv (bc := [[(mo, .inr (11, [.ref m_all, .ref m_has, .int i_size, .int j_next_18, .int j_where_19, .int j_token_20, .int j_number_21, .int j_word_22, .int j_wrong_23, .int i_farCrossing, .ref m_read, .int i_z0, .int i_crossings, .int i_inns, .ref m_posts, .ref m_shut, .ref m_here, .int i_steps, .int i_done, .int i_at, .int i_gone, .ref m_was, .ref m_came, .ref m_seenAt, .ref m_rowWorth, .ref m_farBy, .ref m_used, .int i_everywhere, .int i_again0, .int i_d0, .int i_never, .int i_firstCame, .int i_longRun, .int i_moved, .int i_crowd, .int i_l0, .int i_fitMany, .int i_fitLeast, .int i_fitMost, .ref m_fitPost, .ref m_fitEnd, .ref m_keptPosts, .int i_x0]))], [(m_all, .inl (T.2 0, 3952, .inl g_all_24))]]) (br := [[(m_read, .inl (T.2 0, 121, .inl f_read))]]) (As := []) (rest := []) C G (c_fm_endsLine l T mo m_all m_has i_size j_next_18 j_where_19 j_token_20 j_number_21 j_word_22 j_wrong_23 i_farCrossing m_read i_z0 i_crossings i_inns m_posts m_shut m_here i_steps i_done i_at i_gone m_was m_came m_seenAt m_rowWorth m_farBy m_used i_everywhere i_again0 i_d0 i_never i_firstCame i_longRun i_moved i_crowd i_l0 i_fitMany i_fitLeast i_fitMost m_fitPost m_fitEnd m_keptPosts i_x0 g_all_24 k n ((pNum k 0 6 b).2) (by first | with_reducible assumption | with_reducible rfl | omega | assumption | rfl) (by first | with_reducible assumption | with_reducible rfl | omega | assumption | rfl) (by first | with_reducible assumption | with_reducible rfl | omega | assumption | rfl) h_32) (kV_RX12_140 C.2.2.2.2 (Nat.le_of_ble_eq_true rfl) (Nat.le_of_ble_eq_true rfl)) [1, 2] [0] rfl rfl (ci := 11) (qc := (RX12, TX12, 43)) rfl rfl (List.mem_flatten.mpr ⟨_, List.mem_of_getElem? (i := 0) rfl, List.mem_cons_self⟩) rfl rfl hl.1 dX12_logLine_128 (Nat.le_of_ble_eq_true rfl) (Nat.le_of_ble_eq_true rfl) (fun b1 H locs hw G => ?_)
        refine zEx7 hw ?_
        intro j_next_37 j_where_38 j_token_39 j_number_40 j_word_41 j_wrong_42 g_all_43
        refine zCu7 ?_
        intro hbs9 h_44 h_45 h_46 h_47 h_48 h_49
        clear hw
        subst hbs9
        have G : zS T A s.heap s [[(m_read, .inl (T.2 0, 121, .inl f_read))], [(mo, .inr (11, [.ref m_all, .ref m_has, .int i_size, .int j_next_37, .int j_where_38, .int j_token_39, .int j_number_40, .int j_word_41, .int j_wrong_42, .int i_farCrossing, .ref m_read, .int i_z0, .int i_crossings, .int i_inns, .ref m_posts, .ref m_shut, .ref m_here, .int i_steps, .int i_done, .int i_at, .int i_gone, .ref m_was, .ref m_came, .ref m_seenAt, .ref m_rowWorth, .ref m_farBy, .ref m_used, .int i_everywhere, .int i_again0, .int i_d0, .int i_never, .int i_firstCame, .int i_longRun, .int i_moved, .int i_crowd, .int i_l0, .int i_fitMany, .int i_fitLeast, .int i_fitMost, .ref m_fitPost, .ref m_fitEnd, .ref m_keptPosts, .int i_x0]))], [(m_all, .inl (T.2 0, 3952, .inl g_all_43))]] _ _ := G
        have G := G.sub (bs' := [[(mo, .inr (11, [.ref m_all, .ref m_has, .int i_size, .int j_next_37, .int j_where_38, .int j_token_39, .int j_number_40, .int j_word_41, .int j_wrong_42, .int i_farCrossing, .ref m_read, .int i_z0, .int i_crossings, .int i_inns, .ref m_posts, .ref m_shut, .ref m_here, .int i_steps, .int i_done, .int i_at, .int i_gone, .ref m_was, .ref m_came, .ref m_seenAt, .ref m_rowWorth, .ref m_farBy, .ref m_used, .int i_everywhere, .int i_again0, .int i_d0, .int i_never, .int i_firstCame, .int i_longRun, .int i_moved, .int i_crowd, .int i_l0, .int i_fitMany, .int i_fitLeast, .int i_fitMost, .ref m_fitPost, .ref m_fitEnd, .ref m_keptPosts, .int i_x0]))], [(m_all, .inl (T.2 0, 3952, .inl g_all_43))], [(m_read, .inl (T.2 0, 121, .inl f_read))]]) [1, 2, 0] rfl
        exact z_vret C hr hlocks G (Nat.le_of_ble_eq_true rfl) (Nat.le_of_ble_eq_true rfl) dX12_logLine_131 ⟨j_next_37, j_where_38, j_token_39, j_number_40, j_word_41, j_wrong_42, g_all_43, f_read, rfl, (by first | with_reducible assumption | omega | trivial | assumption), (by first | with_reducible assumption | omega | trivial | assumption), (by first | with_reducible assumption | omega | trivial | assumption), (by first | with_reducible assumption | omega | trivial | assumption), (hpgb.tr (h_29.tr h_48)), (by first | with_reducible assumption | omega | trivial | assumption), (by unfold pLog; rw [hd]; show zRr _ _ _ _ _ _ _ _ _ _ _ (pEndL k (pFact k d1 (nI (pWh k a.1)) d2 f_read).1); rw [← t2, pFact_1 hbq, pGY_lo (by omega)]; exact h_49), (by unfold pLog; rw [hd]; show _ = (pFact k d1 (nI (pWh k a.1)) d2 f_read).2; rw [← t2]; unfold pFact; rw [← hbq]; exact (if_neg (by omega)).symm)⟩
      · have c_36n : ¬ (8 : Int) ≤ (f_read 0).toInt := fun q => c_36 ((fa_le _ _).mpr q)
        refine lv_aload_n hx hb dX12_logLine_84 rfl (lv_at hl 4 rfl) ?_
        refine z_get C G clX12 1 rfl 10 (by decide) m_fl_RX12_17 rfl dX12_logLine_85 ?_
        refine lv_iconst (v := 1) hx hb dX12_logLine_88 (by decide) ?_
        refine lv_iconst (v := 2) hx hb dX12_logLine_89 (by decide) ?_
        refine lv_aload_n hx hb dX12_logLine_90 rfl (lv_at hl 4 rfl) ?_
        refine z_get C G clX12 1 rfl 10 (by decide) m_fl_RX12_17 rfl dX12_logLine_91 ?_
        refine lv_iconst (v := 0) hx hb dX12_logLine_94 (by decide) ?_
        refine z_ild C G 0 rfl (vp_in_nI (n := 0) (by decide) (by decide)) dX12_logLine_95 ?_
        refine lv_topi (fun v_51 ev_51 => ?_)
        rw [show ((0 : Int32).toNatClampNeg) = 0 from rfl] at ev_51
        subst ev_51
        refine lv_imul hx hb dX12_logLine_96 ?_
        refine lv_topi (fun y_52 ey_52 => ?_)
        have ey_52i : y_52.toInt = (2 : Int) * (f_read 0).toInt := by rw [ey_52]; exact z_imulI (x := (2 : Int32)) (y := (f_read 0)) (by show -2147483648 ≤ (2 : Int) * (f_read 0).toInt; omega) (by show (2 : Int) * (f_read 0).toInt < 2147483648; omega)
        refine lv_iadd hx hb dX12_logLine_97 ?_
        refine lv_topi (fun y_53 ey_53 => ?_)
        have ey_53i : y_53.toInt = (1 : Int) + y_52.toInt := by rw [ey_53]; exact z_iaddI (x := (1 : Int32)) (y := y_52) (by show -2147483648 ≤ (1 : Int) + y_52.toInt; omega) (by show (1 : Int) + y_52.toInt < 2147483648; omega)
        refine lv_iload_n hx hb dX12_logLine_98 rfl (lv_at hl 1 rfl) ?_
        refine z_ist C G 0 rfl (vp_in_iff.mpr ⟨by omega, by omega⟩) dX12_logLine_99 (fun H locs G => ?_)
        have G : zS T A s.heap s [[(m_read, .inl (T.2 0, 121, .inl (upd f_read y_53.toNatClampNeg r_34)))], [(mo, .inr (11, [.ref m_all, .ref m_has, .int i_size, .int j_next_18, .int j_where_19, .int j_token_20, .int j_number_21, .int j_word_22, .int j_wrong_23, .int i_farCrossing, .ref m_read, .int i_z0, .int i_crossings, .int i_inns, .ref m_posts, .ref m_shut, .ref m_here, .int i_steps, .int i_done, .int i_at, .int i_gone, .ref m_was, .ref m_came, .ref m_seenAt, .ref m_rowWorth, .ref m_farBy, .ref m_used, .int i_everywhere, .int i_again0, .int i_d0, .int i_never, .int i_firstCame, .int i_longRun, .int i_moved, .int i_crowd, .int i_l0, .int i_fitMany, .int i_fitLeast, .int i_fitMost, .ref m_fitPost, .ref m_fitEnd, .ref m_keptPosts, .int i_x0]))], [(m_all, .inl (T.2 0, 3952, .inl g_all_24))]] _ _ := G
        refine lv_aload_n hx hb dX12_logLine_100 rfl (lv_at hl 4 rfl) ?_
        refine z_get C G clX12 1 rfl 10 (by decide) m_fl_RX12_17 rfl dX12_logLine_101 ?_
        refine lv_iconst (v := 2) hx hb dX12_logLine_104 (by decide) ?_
        refine lv_iconst (v := 2) hx hb dX12_logLine_105 (by decide) ?_
        refine lv_aload_n hx hb dX12_logLine_106 rfl (lv_at hl 4 rfl) ?_
        refine z_get C G clX12 1 rfl 10 (by decide) m_fl_RX12_17 rfl dX12_logLine_107 ?_
        refine lv_iconst (v := 0) hx hb dX12_logLine_110 (by decide) ?_
        refine z_ild C G 0 rfl (vp_in_nI (n := 0) (by decide) (by decide)) dX12_logLine_111 ?_
        refine lv_topi (fun v_54 ev_54 => ?_)
        rw [show ((0 : Int32).toNatClampNeg) = 0 from rfl] at ev_54
        subst ev_54
        have hcl_y_53 := z_clI (x := y_53) (by omega)
        rw [show (upd f_read y_53.toNatClampNeg r_34) 0 = f_read 0 from by unfold upd; rw [if_neg (by omega)]]
        refine lv_imul hx hb dX12_logLine_112 ?_
        refine lv_topi (fun y_55 ey_55 => ?_)
        have ey_55i : y_55.toInt = (2 : Int) * (f_read 0).toInt := by rw [ey_55]; exact z_imulI (x := (2 : Int32)) (y := (f_read 0)) (by show -2147483648 ≤ (2 : Int) * (f_read 0).toInt; omega) (by show (2 : Int) * (f_read 0).toInt < 2147483648; omega)
        refine lv_iadd hx hb dX12_logLine_113 ?_
        refine lv_topi (fun y_56 ey_56 => ?_)
        have ey_56i : y_56.toInt = (2 : Int) + y_55.toInt := by rw [ey_56]; exact z_iaddI (x := (2 : Int32)) (y := y_55) (by show -2147483648 ≤ (2 : Int) + y_55.toInt; omega) (by show (2 : Int) + y_55.toInt < 2147483648; omega)
        refine lv_iload hx hb dX12_logLine_114 (lv_at hl 0 rfl) ?_
        refine z_ist C G 0 rfl (vp_in_iff.mpr ⟨by omega, by omega⟩) dX12_logLine_116 (fun H locs G => ?_)
        have G : zS T A s.heap s [[(m_read, .inl (T.2 0, 121, .inl (upd (upd f_read y_53.toNatClampNeg r_34) y_56.toNatClampNeg (-1))))], [(mo, .inr (11, [.ref m_all, .ref m_has, .int i_size, .int j_next_18, .int j_where_19, .int j_token_20, .int j_number_21, .int j_word_22, .int j_wrong_23, .int i_farCrossing, .ref m_read, .int i_z0, .int i_crossings, .int i_inns, .ref m_posts, .ref m_shut, .ref m_here, .int i_steps, .int i_done, .int i_at, .int i_gone, .ref m_was, .ref m_came, .ref m_seenAt, .ref m_rowWorth, .ref m_farBy, .ref m_used, .int i_everywhere, .int i_again0, .int i_d0, .int i_never, .int i_firstCame, .int i_longRun, .int i_moved, .int i_crowd, .int i_l0, .int i_fitMany, .int i_fitLeast, .int i_fitMost, .ref m_fitPost, .ref m_fitEnd, .ref m_keptPosts, .int i_x0]))], [(m_all, .inl (T.2 0, 3952, .inl g_all_24))]] _ _ := G
        refine lv_aload_n hx hb dX12_logLine_117 rfl (lv_at hl 4 rfl) ?_
        refine z_get C G clX12 1 rfl 10 (by decide) m_fl_RX12_17 rfl dX12_logLine_118 ?_
        refine lv_iconst (v := 0) hx hb dX12_logLine_121 (by decide) ?_
        refine lv_dup2_11 hx hb dX12_logLine_122 rfl rfl ?_
        refine z_ild C G 0 rfl (vp_in_nI (n := 0) (by decide) (by decide)) dX12_logLine_123 ?_
        refine lv_topi (fun v_57 ev_57 => ?_)
        rw [show ((0 : Int32).toNatClampNeg) = 0 from rfl] at ev_57
        subst ev_57
        refine lv_iconst (v := 1) hx hb dX12_logLine_124 (by decide) ?_
        have hcl_y_56 := z_clI (x := y_56) (by omega)
        have hcl_y_53 := z_clI (x := y_53) (by omega)
        rw [show (upd (upd f_read y_53.toNatClampNeg r_34) y_56.toNatClampNeg (-1)) 0 = f_read 0 from by unfold upd; rw [if_neg (by omega), if_neg (by omega)]]
        refine lv_iadd hx hb dX12_logLine_125 ?_
        refine lv_topi (fun y_58 ey_58 => ?_)
        have ey_58i : y_58.toInt = (f_read 0).toInt + (1 : Int) := by rw [ey_58]; exact z_iaddI (x := (f_read 0)) (y := (1 : Int32)) (by show -2147483648 ≤ (f_read 0).toInt + (1 : Int); omega) (by show (f_read 0).toInt + (1 : Int) < 2147483648; omega)
        refine z_ist C G 0 rfl (vp_in_nI (n := 0) (by decide) (by decide)) dX12_logLine_126 (fun H locs G => ?_)
        have G : zS T A s.heap s [[(m_read, .inl (T.2 0, 121, .inl (upd (upd (upd f_read y_53.toNatClampNeg r_34) y_56.toNatClampNeg (-1)) 0 y_58)))], [(mo, .inr (11, [.ref m_all, .ref m_has, .int i_size, .int j_next_18, .int j_where_19, .int j_token_20, .int j_number_21, .int j_word_22, .int j_wrong_23, .int i_farCrossing, .ref m_read, .int i_z0, .int i_crossings, .int i_inns, .ref m_posts, .ref m_shut, .ref m_here, .int i_steps, .int i_done, .int i_at, .int i_gone, .ref m_was, .ref m_came, .ref m_seenAt, .ref m_rowWorth, .ref m_farBy, .ref m_used, .int i_everywhere, .int i_again0, .int i_d0, .int i_never, .int i_firstCame, .int i_longRun, .int i_moved, .int i_crowd, .int i_l0, .int i_fitMany, .int i_fitLeast, .int i_fitMost, .ref m_fitPost, .ref m_fitEnd, .ref m_keptPosts, .int i_x0]))], [(m_all, .inl (T.2 0, 3952, .inl g_all_24))]] _ _ := G
        refine lv_aload_n hx hb dX12_logLine_127 rfl (lv_at hl 4 rfl) ?_
        refine z_Vv (bc := [[(mo, .inr (11, [.ref m_all, .ref m_has, .int i_size, .int j_next_18, .int j_where_19, .int j_token_20, .int j_number_21, .int j_word_22, .int j_wrong_23, .int i_farCrossing, .ref m_read, .int i_z0, .int i_crossings, .int i_inns, .ref m_posts, .ref m_shut, .ref m_here, .int i_steps, .int i_done, .int i_at, .int i_gone, .ref m_was, .ref m_came, .ref m_seenAt, .ref m_rowWorth, .ref m_farBy, .ref m_used, .int i_everywhere, .int i_again0, .int i_d0, .int i_never, .int i_firstCame, .int i_longRun, .int i_moved, .int i_crowd, .int i_l0, .int i_fitMany, .int i_fitLeast, .int i_fitMost, .ref m_fitPost, .ref m_fitEnd, .ref m_keptPosts, .int i_x0]))], [(m_all, .inl (T.2 0, 3952, .inl g_all_24))]]) (br := [[(m_read, .inl (T.2 0, 121, .inl (upd (upd (upd f_read y_53.toNatClampNeg r_34) y_56.toNatClampNeg (-1)) 0 y_58)))]]) (As := []) (rest := []) C G (c_fm_endsLine l T mo m_all m_has i_size j_next_18 j_where_19 j_token_20 j_number_21 j_word_22 j_wrong_23 i_farCrossing m_read i_z0 i_crossings i_inns m_posts m_shut m_here i_steps i_done i_at i_gone m_was m_came m_seenAt m_rowWorth m_farBy m_used i_everywhere i_again0 i_d0 i_never i_firstCame i_longRun i_moved i_crowd i_l0 i_fitMany i_fitLeast i_fitMost m_fitPost m_fitEnd m_keptPosts i_x0 g_all_24 k n ((pNum k 0 6 b).2) (by first | with_reducible assumption | with_reducible rfl | omega | assumption | rfl) (by first | with_reducible assumption | with_reducible rfl | omega | assumption | rfl) (by first | with_reducible assumption | with_reducible rfl | omega | assumption | rfl) h_32) (kV_RX12_140 C.2.2.2.2 (Nat.le_of_ble_eq_true rfl) (Nat.le_of_ble_eq_true rfl)) [1, 2] [0] rfl rfl (ci := 11) (qc := (RX12, TX12, 43)) rfl rfl (List.mem_flatten.mpr ⟨_, List.mem_of_getElem? (i := 0) rfl, List.mem_cons_self⟩) rfl rfl hl.1 dX12_logLine_128 (Nat.le_of_ble_eq_true rfl) (Nat.le_of_ble_eq_true rfl) (fun b1 H locs hw G => ?_)
        refine zEx7 hw ?_
        intro j_next_59 j_where_60 j_token_61 j_number_62 j_word_63 j_wrong_64 g_all_65
        refine zCu7 ?_
        intro hbs9 h_66 h_67 h_68 h_69 h_70 h_71
        clear hw
        subst hbs9
        have G : zS T A s.heap s [[(m_read, .inl (T.2 0, 121, .inl (upd (upd (upd f_read y_53.toNatClampNeg r_34) y_56.toNatClampNeg (-1)) 0 y_58)))], [(mo, .inr (11, [.ref m_all, .ref m_has, .int i_size, .int j_next_59, .int j_where_60, .int j_token_61, .int j_number_62, .int j_word_63, .int j_wrong_64, .int i_farCrossing, .ref m_read, .int i_z0, .int i_crossings, .int i_inns, .ref m_posts, .ref m_shut, .ref m_here, .int i_steps, .int i_done, .int i_at, .int i_gone, .ref m_was, .ref m_came, .ref m_seenAt, .ref m_rowWorth, .ref m_farBy, .ref m_used, .int i_everywhere, .int i_again0, .int i_d0, .int i_never, .int i_firstCame, .int i_longRun, .int i_moved, .int i_crowd, .int i_l0, .int i_fitMany, .int i_fitLeast, .int i_fitMost, .ref m_fitPost, .ref m_fitEnd, .ref m_keptPosts, .int i_x0]))], [(m_all, .inl (T.2 0, 3952, .inl g_all_65))]] _ _ := G
        have G := G.sub (bs' := [[(mo, .inr (11, [.ref m_all, .ref m_has, .int i_size, .int j_next_59, .int j_where_60, .int j_token_61, .int j_number_62, .int j_word_63, .int j_wrong_64, .int i_farCrossing, .ref m_read, .int i_z0, .int i_crossings, .int i_inns, .ref m_posts, .ref m_shut, .ref m_here, .int i_steps, .int i_done, .int i_at, .int i_gone, .ref m_was, .ref m_came, .ref m_seenAt, .ref m_rowWorth, .ref m_farBy, .ref m_used, .int i_everywhere, .int i_again0, .int i_d0, .int i_never, .int i_firstCame, .int i_longRun, .int i_moved, .int i_crowd, .int i_l0, .int i_fitMany, .int i_fitLeast, .int i_fitMost, .ref m_fitPost, .ref m_fitEnd, .ref m_keptPosts, .int i_x0]))], [(m_all, .inl (T.2 0, 3952, .inl g_all_65))], [(m_read, .inl (T.2 0, 121, .inl (upd (upd (upd f_read y_53.toNatClampNeg r_34) y_56.toNatClampNeg (-1)) 0 y_58)))]]) [1, 2, 0] rfl
        exact z_vret C hr hlocks G (Nat.le_of_ble_eq_true rfl) (Nat.le_of_ble_eq_true rfl) dX12_logLine_131 ⟨j_next_59, j_where_60, j_token_61, j_number_62, j_word_63, j_wrong_64, g_all_65, (upd (upd (upd f_read y_53.toNatClampNeg r_34) y_56.toNatClampNeg (-1)) 0 y_58), rfl, (by first | with_reducible assumption | omega | trivial | assumption), (by first | with_reducible assumption | omega | trivial | assumption), (by first | with_reducible assumption | omega | trivial | assumption), (by first | with_reducible assumption | omega | trivial | assumption), (hpgb.tr (h_29.tr h_70)), (zCF_upd (k := 0) (v := y_58) (zCF_upd (k := y_56.toNatClampNeg) (v := (-1)) (zCF_upd (k := y_53.toNatClampNeg) (v := r_34) (by assumption) (by have q9 := z_clI (x := y_53) (by omega); omega)) (by have q9 := z_clI (x := y_56) (by omega); have t9 : ((-1) : Int32).toInt = -1 := rfl; omega)) (by omega)), (by unfold pLog; rw [hd]; show zRr _ _ _ _ _ _ _ _ _ _ _ (pEndL k (pFact k d1 (nI (pWh k a.1)) d2 f_read).1); rw [← t2, pFact_1 hbq, pGY_lo (by omega)]; exact h_71), (by unfold pLog; rw [hd]; show _ = (pFact k d1 (nI (pWh k a.1)) d2 f_read).2; rw [← t2]; unfold pFact; rw [← hbq]; rw [if_pos (by omega)]; have hy2 : (pGY k d1 (pNum k 0 6 b).2).1 = -1 := (congrArg Prod.fst (pGY_lo (by omega))); have qy_56 := z_clI (x := y_56) (by omega); have qy_53 := z_clI (x := y_53) (by omega); rw [hy2, ← h_33, show y_56.toNatClampNeg = 2 + 2 * (f_read 0).toInt.toNat by omega, show y_53.toNatClampNeg = 1 + 2 * (f_read 0).toInt.toNat by omega, ey_58])⟩
    refine lv_aload_n hx hb dX12_logLine_24 rfl (lv_at hl 2 rfl) ?_
    refine z_get C G clX12 1 rfl 8 (by decide) m_fl_RX12_104 rfl dX12_logLine_25 ?_
    refine lv_if_ne (tgt := 48) hx hb dX12_logLine_28 (by decide) (fun c_73 => ?_) (fun c_73 => ?_)
    · have c_73n : ¬ j_wrong_6.toInt = (0 : Int) := fun q => c_73 ((fa_eq _ _).mpr q)
      obtain ⟨b, hbq⟩ : ∃ b, b = pDB 8 i_where f_read d2 := ⟨_, rfl⟩
      have hRb : zRr k n i_size j_next_1 j_where_2 j_token_3 j_number_4 j_word_5 j_wrong_6 i_farCrossing g_all_7 b := by rw [hbq]; first | (rw [pDB_b (by rw [← hA6D]; omega)]; exact hRd) | (unfold pDB; rw [if_neg (by omega)]; exact hRd)
      exact jn_48 g_all_7 b (show b = pDB 8 i_where f_read d2 ∧ zRr k n i_size j_next_1 j_where_2 j_token_3 j_number_4 j_word_5 j_wrong_6 i_farCrossing g_all_7 b ∧ zPal f_all g_all_7 from ⟨hbq, hRb, h_12⟩) _ _ ls G (lv_sub hl [0, 1, 2] rfl)
    · have c_73n : j_wrong_6.toInt = (0 : Int) := (fa_eq _ _).mp c_73
      refine lv_aload_n hx hb dX12_logLine_31 rfl (lv_at hl 2 rfl) ?_
      refine z_get C G clX12 1 rfl 10 (by decide) m_fl_RX12_17 rfl dX12_logLine_32 ?_
      refine lv_iconst (v := 0) hx hb dX12_logLine_35 (by decide) ?_
      refine z_ild C G 0 rfl (vp_in_nI (n := 0) (by decide) (by decide)) dX12_logLine_36 ?_
      refine lv_topi (fun v_74 ev_74 => ?_)
      rw [show ((0 : Int32).toNatClampNeg) = 0 from rfl] at ev_74
      subst ev_74
      refine lv_bipush (v := 8) hx hb dX12_logLine_37 (by decide) ?_
      refine lv_icmp_lt (tgt := 48) hx hb dX12_logLine_39 (by decide) (fun c_75 => ?_) (fun c_75 => ?_)
      · have c_75n : (f_read 0).toInt < (8 : Int) := (fa_lt _ _).mp c_75
        obtain ⟨b, hbq⟩ : ∃ b, b = pDB 8 i_where f_read d2 := ⟨_, rfl⟩
        have hRb : zRr k n i_size j_next_1 j_where_2 j_token_3 j_number_4 j_word_5 j_wrong_6 i_farCrossing g_all_7 b := by rw [hbq]; first | (rw [pDB_b (by rw [← hA6D]; omega)]; exact hRd) | (unfold pDB; rw [if_neg (by omega)]; exact hRd)
        exact jn_48 g_all_7 b (show b = pDB 8 i_where f_read d2 ∧ zRr k n i_size j_next_1 j_where_2 j_token_3 j_number_4 j_word_5 j_wrong_6 i_farCrossing g_all_7 b ∧ zPal f_all g_all_7 from ⟨hbq, hRb, h_12⟩) _ _ ls G (lv_sub hl [0, 1, 2] rfl)
      · have c_75n : ¬ (f_read 0).toInt < (8 : Int) := fun q => c_75 ((fa_lt _ _).mpr q)
        refine lv_aload_n hx hb dX12_logLine_42 rfl (lv_at hl 2 rfl) ?_
        refine lv_iconst (v := 3) hx hb dX12_logLine_43 (by decide) ?_
        refine lv_iload_n hx hb dX12_logLine_44 rfl (lv_at hl 1 rfl) ?_
        refine z_Vv (bc := [[(mo, .inr (11, [.ref m_all, .ref m_has, .int i_size, .int j_next_1, .int j_where_2, .int j_token_3, .int j_number_4, .int j_word_5, .int j_wrong_6, .int i_farCrossing, .ref m_read, .int i_z0, .int i_crossings, .int i_inns, .ref m_posts, .ref m_shut, .ref m_here, .int i_steps, .int i_done, .int i_at, .int i_gone, .ref m_was, .ref m_came, .ref m_seenAt, .ref m_rowWorth, .ref m_farBy, .ref m_used, .int i_everywhere, .int i_again0, .int i_d0, .int i_never, .int i_firstCame, .int i_longRun, .int i_moved, .int i_crowd, .int i_l0, .int i_fitMany, .int i_fitLeast, .int i_fitMost, .ref m_fitPost, .ref m_fitEnd, .ref m_keptPosts, .int i_x0]))], [(m_all, .inl (T.2 0, 3952, .inl g_all_7))]]) (br := [[(m_read, .inl (T.2 0, 121, .inl f_read))]]) (As := [.int 3, .int i_where]) (rest := []) C G (c_fm_also l T mo m_all m_has i_size j_next_1 j_where_2 j_token_3 j_number_4 j_word_5 j_wrong_6 i_farCrossing m_read i_z0 i_crossings i_inns m_posts m_shut m_here i_steps i_done i_at i_gone m_was m_came m_seenAt m_rowWorth m_farBy m_used i_everywhere i_again0 i_d0 i_never i_firstCame i_longRun i_moved i_crowd i_l0 i_fitMany i_fitLeast i_fitMost m_fitPost m_fitEnd m_keptPosts i_x0 g_all_7 3 i_where) (kV_RX12_115 C.2.2.2.2 (Nat.le_of_ble_eq_true rfl) (Nat.le_of_ble_eq_true rfl)) [1, 2] [0] rfl rfl (ci := 11) (qc := (RX12, TX12, 43)) rfl rfl (List.mem_flatten.mpr ⟨_, List.mem_of_getElem? (i := 0) rfl, List.mem_cons_self⟩) rfl rfl hl.1 dX12_logLine_45 (Nat.le_of_ble_eq_true rfl) (Nat.le_of_ble_eq_true rfl) (fun b1 H locs hw G => ?_)
        refine zEx1 hw ?_
        intro g_all_76
        refine zCu3 ?_
        intro hbs9 h_77 h_78
        clear hw
        subst hbs9
        have G : zS T A s.heap s [[(m_read, .inl (T.2 0, 121, .inl f_read))], [(mo, .inr (11, [.ref m_all, .ref m_has, .int i_size, .int j_next_1, .int j_where_2, .int j_token_3, .int j_number_4, .int j_word_5, .int j_wrong_6, .int i_farCrossing, .ref m_read, .int i_z0, .int i_crossings, .int i_inns, .ref m_posts, .ref m_shut, .ref m_here, .int i_steps, .int i_done, .int i_at, .int i_gone, .ref m_was, .ref m_came, .ref m_seenAt, .ref m_rowWorth, .ref m_farBy, .ref m_used, .int i_everywhere, .int i_again0, .int i_d0, .int i_never, .int i_firstCame, .int i_longRun, .int i_moved, .int i_crowd, .int i_l0, .int i_fitMany, .int i_fitLeast, .int i_fitMost, .ref m_fitPost, .ref m_fitEnd, .ref m_keptPosts, .int i_x0]))], [(m_all, .inl (T.2 0, 3952, .inl g_all_76))]] _ _ := G
        have h_78 : g_all_76 = (if ¬ j_wrong_6.toInt = 0 ∨ (¬ (g_all_7 5).toInt = 0 ∧ ((g_all_7 6).toInt < i_where.toInt ∨ ((g_all_7 6).toInt = i_where.toInt ∧ (g_all_7 5).toInt ≤ (3 : Int)))) then g_all_7 else upd (upd g_all_7 5 3) 6 i_where) := h_78
        obtain ⟨b, hbq⟩ : ∃ b, b = pDB 8 i_where f_read d2 := ⟨_, rfl⟩
        have hRb : zRr k n i_size j_next_1 j_where_2 j_token_3 j_number_4 j_word_5 j_wrong_6 i_farCrossing g_all_76 b := by rw [hbq]; unfold pDB; rw [if_pos (by omega)]; exact zRr_also (kd := 3) (w := i_where) hRd h_78
        exact jn_48 g_all_76 b (show b = pDB 8 i_where f_read d2 ∧ zRr k n i_size j_next_1 j_where_2 j_token_3 j_number_4 j_word_5 j_wrong_6 i_farCrossing g_all_76 b ∧ zPal f_all g_all_76 from ⟨hbq, hRb, (h_12.tr h_77)⟩) _ _ ls G (lv_sub hl [0, 1, 2] rfl)
  · have c_17n : r_16.toInt = (11 : Int) := (fa_eq _ _).mp c_17
    refine lv_iconst (v := 1) hx hb dX12_logLine_18 (by decide) ?_
    refine lv_goto (tgt := 23) hx hb dX12_logLine_19 (by decide) ?_
    refine lv_istore_n (lv' := [(2, .int 1), (1, .int i_where), (0, .ref mo)]) hx hb dX12_logLine_23 rfl hl (by decide) rfl (fun ls hl => ?_)
    refine zMt2 (T := T) 48 (fun (gb : Nat → Int32) (b : pS) => [[(m_read, .inl (T.2 0, 121, .inl f_read))], [(mo, .inr (11, [.ref m_all, .ref m_has, .int i_size, .int j_next_1, .int j_where_2, .int j_token_3, .int j_number_4, .int j_word_5, .int j_wrong_6, .int i_farCrossing, .ref m_read, .int i_z0, .int i_crossings, .int i_inns, .ref m_posts, .ref m_shut, .ref m_here, .int i_steps, .int i_done, .int i_at, .int i_gone, .ref m_was, .ref m_came, .ref m_seenAt, .ref m_rowWorth, .ref m_farBy, .ref m_used, .int i_everywhere, .int i_again0, .int i_d0, .int i_never, .int i_firstCame, .int i_longRun, .int i_moved, .int i_crowd, .int i_l0, .int i_fitMany, .int i_fitLeast, .int i_fitMost, .ref m_fitPost, .ref m_fitEnd, .ref m_keptPosts, .int i_x0]))], [(m_all, .inl (T.2 0, 3952, .inl gb))]]) (fun (gb : Nat → Int32) (b : pS) => [(2, .int 1), (1, .int i_where), (0, .ref mo)]) (fun (gb : Nat → Int32) (b : pS) => b = pDB 8 i_where f_read d2 ∧ zRr k n i_size j_next_1 j_where_2 j_token_3 j_number_4 j_word_5 j_wrong_6 i_farCrossing gb b ∧ zPal f_all gb) G hl ?_ (fun jn_48 => ?_)
    · intro gb b hI9 H locs ls G hl
      replace hI9 : b = pDB 8 i_where f_read d2 ∧ zRr k n i_size j_next_1 j_where_2 j_token_3 j_number_4 j_word_5 j_wrong_6 i_farCrossing gb b ∧ zPal f_all gb := hI9
      refine zAn3 hI9 ?_
      intro hbq hRb hpgb
      clear hI9
      replace G : zS T A s.heap s [[(m_read, .inl (T.2 0, 121, .inl f_read))], [(mo, .inr (11, [.ref m_all, .ref m_has, .int i_size, .int j_next_1, .int j_where_2, .int j_token_3, .int j_number_4, .int j_word_5, .int j_wrong_6, .int i_farCrossing, .ref m_read, .int i_z0, .int i_crossings, .int i_inns, .ref m_posts, .ref m_shut, .ref m_here, .int i_steps, .int i_done, .int i_at, .int i_gone, .ref m_was, .ref m_came, .ref m_seenAt, .ref m_rowWorth, .ref m_farBy, .ref m_used, .int i_everywhere, .int i_again0, .int i_d0, .int i_never, .int i_firstCame, .int i_longRun, .int i_moved, .int i_crowd, .int i_l0, .int i_fitMany, .int i_fitLeast, .int i_fitMost, .ref m_fitPost, .ref m_fitEnd, .ref m_keptPosts, .int i_x0]))], [(m_all, .inl (T.2 0, 3952, .inl gb))]] _ _ := G
      replace hl : lv_has ls 5 [(2, .int 1), (1, .int i_where), (0, .ref mo)] := hl
      refine lv_aload_n hx hb dX12_logLine_48 rfl (lv_at hl 2 rfl) ?_
      refine lv_iconst (v := 0) hx hb dX12_logLine_49 (by decide) ?_
      refine lv_bipush (v := 6) hx hb dX12_logLine_50 (by decide) ?_
      refine z_Vi (bc := [[(mo, .inr (11, [.ref m_all, .ref m_has, .int i_size, .int j_next_1, .int j_where_2, .int j_token_3, .int j_number_4, .int j_word_5, .int j_wrong_6, .int i_farCrossing, .ref m_read, .int i_z0, .int i_crossings, .int i_inns, .ref m_posts, .ref m_shut, .ref m_here, .int i_steps, .int i_done, .int i_at, .int i_gone, .ref m_was, .ref m_came, .ref m_seenAt, .ref m_rowWorth, .ref m_farBy, .ref m_used, .int i_everywhere, .int i_again0, .int i_d0, .int i_never, .int i_firstCame, .int i_longRun, .int i_moved, .int i_crowd, .int i_l0, .int i_fitMany, .int i_fitLeast, .int i_fitMost, .ref m_fitPost, .ref m_fitEnd, .ref m_keptPosts, .int i_x0]))], [(m_all, .inl (T.2 0, 3952, .inl gb))]]) (br := [[(m_read, .inl (T.2 0, 121, .inl f_read))]]) (As := [.int 0, .int 6]) (rest := []) C G (c_fm_numbered l T mo m_all m_has i_size j_next_1 j_where_2 j_token_3 j_number_4 j_word_5 j_wrong_6 i_farCrossing m_read i_z0 i_crossings i_inns m_posts m_shut m_here i_steps i_done i_at i_gone m_was m_came m_seenAt m_rowWorth m_farBy m_used i_everywhere i_again0 i_d0 i_never i_firstCame i_longRun i_moved i_crowd i_l0 i_fitMany i_fitLeast i_fitMost m_fitPost m_fitEnd m_keptPosts i_x0 gb k n b 0 6 (by first | with_reducible assumption | with_reducible rfl | omega | assumption | rfl) (by first | with_reducible assumption | with_reducible rfl | omega | assumption | rfl) (by first | with_reducible assumption | with_reducible rfl | omega | assumption | rfl) (by decide) hRb) (kV_RX12_122 C.2.2.2.2 (Nat.le_of_ble_eq_true rfl) (Nat.le_of_ble_eq_true rfl)) [1, 2] [0] rfl rfl (ci := 11) (qc := (RX12, TX12, 43)) rfl rfl (List.mem_flatten.mpr ⟨_, List.mem_of_getElem? (i := 0) rfl, List.mem_cons_self⟩) rfl rfl hl.1 dX12_logLine_52 (Nat.le_of_ble_eq_true rfl) (Nat.le_of_ble_eq_true rfl) (fun r_96 b1 H locs hw G => ?_)
      refine zEx7 hw ?_
      intro j_next_80 j_where_81 j_token_82 j_number_83 j_word_84 j_wrong_85 g_all_86
      refine zCu10 ?_
      intro hbs9 h_87 h_88 h_89 h_90 h_91 h_92 h_93 h_94 h_95
      clear hw
      subst hbs9
      have G : zS T A s.heap s [[(m_read, .inl (T.2 0, 121, .inl f_read))], [(mo, .inr (11, [.ref m_all, .ref m_has, .int i_size, .int j_next_80, .int j_where_81, .int j_token_82, .int j_number_83, .int j_word_84, .int j_wrong_85, .int i_farCrossing, .ref m_read, .int i_z0, .int i_crossings, .int i_inns, .ref m_posts, .ref m_shut, .ref m_here, .int i_steps, .int i_done, .int i_at, .int i_gone, .ref m_was, .ref m_came, .ref m_seenAt, .ref m_rowWorth, .ref m_farBy, .ref m_used, .int i_everywhere, .int i_again0, .int i_d0, .int i_never, .int i_firstCame, .int i_longRun, .int i_moved, .int i_crowd, .int i_l0, .int i_fitMany, .int i_fitLeast, .int i_fitMost, .ref m_fitPost, .ref m_fitEnd, .ref m_keptPosts, .int i_x0]))], [(m_all, .inl (T.2 0, 3952, .inl g_all_86))]] _ _ := G
      have h_92 : (0 : Int) ≤ r_96.toInt := h_92
      have h_93 : r_96.toInt ≤ (6 : Int) := h_93
      refine lv_istore_n (lv' := [(3, .int r_96), (2, .int 1), (1, .int i_where), (0, .ref mo)]) hx hb dX12_logLine_55 rfl hl (by decide) rfl (fun ls hl => ?_)
      refine lv_iload_n hx hb dX12_logLine_56 rfl (lv_at hl 1 rfl) ?_
      refine lv_if_eq (tgt := 70) hx hb dX12_logLine_57 (by decide) (fun q => absurd q (by decide)) (fun _ => ?_)
      refine lv_aload_n hx hb dX12_logLine_60 rfl (lv_at hl 3 rfl) ?_
      refine lv_iconst (v := 0) hx hb dX12_logLine_61 (by decide) ?_
      refine lv_bipush (v := 6) hx hb dX12_logLine_62 (by decide) ?_
      refine z_Vi (bc := [[(mo, .inr (11, [.ref m_all, .ref m_has, .int i_size, .int j_next_80, .int j_where_81, .int j_token_82, .int j_number_83, .int j_word_84, .int j_wrong_85, .int i_farCrossing, .ref m_read, .int i_z0, .int i_crossings, .int i_inns, .ref m_posts, .ref m_shut, .ref m_here, .int i_steps, .int i_done, .int i_at, .int i_gone, .ref m_was, .ref m_came, .ref m_seenAt, .ref m_rowWorth, .ref m_farBy, .ref m_used, .int i_everywhere, .int i_again0, .int i_d0, .int i_never, .int i_firstCame, .int i_longRun, .int i_moved, .int i_crowd, .int i_l0, .int i_fitMany, .int i_fitLeast, .int i_fitMost, .ref m_fitPost, .ref m_fitEnd, .ref m_keptPosts, .int i_x0]))], [(m_all, .inl (T.2 0, 3952, .inl g_all_86))]]) (br := [[(m_read, .inl (T.2 0, 121, .inl f_read))]]) (As := [.int 0, .int 6]) (rest := []) C G (c_fm_numbered l T mo m_all m_has i_size j_next_80 j_where_81 j_token_82 j_number_83 j_word_84 j_wrong_85 i_farCrossing m_read i_z0 i_crossings i_inns m_posts m_shut m_here i_steps i_done i_at i_gone m_was m_came m_seenAt m_rowWorth m_farBy m_used i_everywhere i_again0 i_d0 i_never i_firstCame i_longRun i_moved i_crowd i_l0 i_fitMany i_fitLeast i_fitMost m_fitPost m_fitEnd m_keptPosts i_x0 g_all_86 k n ((pNum k 0 6 b).2) 0 6 (by first | with_reducible assumption | with_reducible rfl | omega | assumption | rfl) (by first | with_reducible assumption | with_reducible rfl | omega | assumption | rfl) (by first | with_reducible assumption | with_reducible rfl | omega | assumption | rfl) (by decide) h_94) (kV_RX12_122 C.2.2.2.2 (Nat.le_of_ble_eq_true rfl) (Nat.le_of_ble_eq_true rfl)) [1, 2] [0] rfl rfl (ci := 11) (qc := (RX12, TX12, 43)) rfl rfl (List.mem_flatten.mpr ⟨_, List.mem_of_getElem? (i := 0) rfl, List.mem_cons_self⟩) rfl rfl hl.1 dX12_logLine_64 (Nat.le_of_ble_eq_true rfl) (Nat.le_of_ble_eq_true rfl) (fun r_113 b1 H locs hw G => ?_)
      refine zEx7 hw ?_
      intro j_next_97 j_where_98 j_token_99 j_number_100 j_word_101 j_wrong_102 g_all_103
      refine zCu10 ?_
      intro hbs9 h_104 h_105 h_106 h_107 h_108 h_109 h_110 h_111 h_112
      clear hw
      subst hbs9
      have G : zS T A s.heap s [[(m_read, .inl (T.2 0, 121, .inl f_read))], [(mo, .inr (11, [.ref m_all, .ref m_has, .int i_size, .int j_next_97, .int j_where_98, .int j_token_99, .int j_number_100, .int j_word_101, .int j_wrong_102, .int i_farCrossing, .ref m_read, .int i_z0, .int i_crossings, .int i_inns, .ref m_posts, .ref m_shut, .ref m_here, .int i_steps, .int i_done, .int i_at, .int i_gone, .ref m_was, .ref m_came, .ref m_seenAt, .ref m_rowWorth, .ref m_farBy, .ref m_used, .int i_everywhere, .int i_again0, .int i_d0, .int i_never, .int i_firstCame, .int i_longRun, .int i_moved, .int i_crowd, .int i_l0, .int i_fitMany, .int i_fitLeast, .int i_fitMost, .ref m_fitPost, .ref m_fitEnd, .ref m_keptPosts, .int i_x0]))], [(m_all, .inl (T.2 0, 3952, .inl g_all_103))]] _ _ := G
      have h_109 : (0 : Int) ≤ r_113.toInt := h_109
      have h_110 : r_113.toInt ≤ (6 : Int) := h_110
      refine lv_goto (tgt := 71) hx hb dX12_logLine_67 (by decide) ?_
      refine lv_istore (lv' := [(4, .int r_113), (3, .int r_96), (2, .int 1), (1, .int i_where), (0, .ref mo)]) hx hb dX12_logLine_71 hl (by decide) rfl (fun ls hl => ?_)
      refine lv_aload_n hx hb dX12_logLine_73 rfl (lv_at hl 4 rfl) ?_
      refine z_get C G clX12 1 rfl 10 (by decide) m_fl_RX12_17 rfl dX12_logLine_74 ?_
      refine lv_iconst (v := 0) hx hb dX12_logLine_77 (by decide) ?_
      refine z_ild C G 0 rfl (vp_in_nI (n := 0) (by decide) (by decide)) dX12_logLine_78 ?_
      refine lv_topi (fun v_114 ev_114 => ?_)
      rw [show ((0 : Int32).toNatClampNeg) = 0 from rfl] at ev_114
      subst ev_114
      refine lv_bipush (v := 8) hx hb dX12_logLine_79 (by decide) ?_
      refine lv_icmp_ge (tgt := 127) hx hb dX12_logLine_81 (by decide) (fun c_115 => ?_) (fun c_115 => ?_)
      · have c_115n : (8 : Int) ≤ (f_read 0).toInt := (fa_le _ _).mp c_115
        refine lv_aload_n hx hb dX12_logLine_127 rfl (lv_at hl 4 rfl) ?_
        refine z_Vv (bc := [[(mo, .inr (11, [.ref m_all, .ref m_has, .int i_size, .int j_next_97, .int j_where_98, .int j_token_99, .int j_number_100, .int j_word_101, .int j_wrong_102, .int i_farCrossing, .ref m_read, .int i_z0, .int i_crossings, .int i_inns, .ref m_posts, .ref m_shut, .ref m_here, .int i_steps, .int i_done, .int i_at, .int i_gone, .ref m_was, .ref m_came, .ref m_seenAt, .ref m_rowWorth, .ref m_farBy, .ref m_used, .int i_everywhere, .int i_again0, .int i_d0, .int i_never, .int i_firstCame, .int i_longRun, .int i_moved, .int i_crowd, .int i_l0, .int i_fitMany, .int i_fitLeast, .int i_fitMost, .ref m_fitPost, .ref m_fitEnd, .ref m_keptPosts, .int i_x0]))], [(m_all, .inl (T.2 0, 3952, .inl g_all_103))]]) (br := [[(m_read, .inl (T.2 0, 121, .inl f_read))]]) (As := []) (rest := []) C G (c_fm_endsLine l T mo m_all m_has i_size j_next_97 j_where_98 j_token_99 j_number_100 j_word_101 j_wrong_102 i_farCrossing m_read i_z0 i_crossings i_inns m_posts m_shut m_here i_steps i_done i_at i_gone m_was m_came m_seenAt m_rowWorth m_farBy m_used i_everywhere i_again0 i_d0 i_never i_firstCame i_longRun i_moved i_crowd i_l0 i_fitMany i_fitLeast i_fitMost m_fitPost m_fitEnd m_keptPosts i_x0 g_all_103 k n ((pNum k 0 6 (pNum k 0 6 b).2).2) (by first | with_reducible assumption | with_reducible rfl | omega | assumption | rfl) (by first | with_reducible assumption | with_reducible rfl | omega | assumption | rfl) (by first | with_reducible assumption | with_reducible rfl | omega | assumption | rfl) h_111) (kV_RX12_140 C.2.2.2.2 (Nat.le_of_ble_eq_true rfl) (Nat.le_of_ble_eq_true rfl)) [1, 2] [0] rfl rfl (ci := 11) (qc := (RX12, TX12, 43)) rfl rfl (List.mem_flatten.mpr ⟨_, List.mem_of_getElem? (i := 0) rfl, List.mem_cons_self⟩) rfl rfl hl.1 dX12_logLine_128 (Nat.le_of_ble_eq_true rfl) (Nat.le_of_ble_eq_true rfl) (fun b1 H locs hw G => ?_)
        refine zEx7 hw ?_
        intro j_next_116 j_where_117 j_token_118 j_number_119 j_word_120 j_wrong_121 g_all_122
        refine zCu7 ?_
        intro hbs9 h_123 h_124 h_125 h_126 h_127 h_128
        clear hw
        subst hbs9
        have G : zS T A s.heap s [[(m_read, .inl (T.2 0, 121, .inl f_read))], [(mo, .inr (11, [.ref m_all, .ref m_has, .int i_size, .int j_next_116, .int j_where_117, .int j_token_118, .int j_number_119, .int j_word_120, .int j_wrong_121, .int i_farCrossing, .ref m_read, .int i_z0, .int i_crossings, .int i_inns, .ref m_posts, .ref m_shut, .ref m_here, .int i_steps, .int i_done, .int i_at, .int i_gone, .ref m_was, .ref m_came, .ref m_seenAt, .ref m_rowWorth, .ref m_farBy, .ref m_used, .int i_everywhere, .int i_again0, .int i_d0, .int i_never, .int i_firstCame, .int i_longRun, .int i_moved, .int i_crowd, .int i_l0, .int i_fitMany, .int i_fitLeast, .int i_fitMost, .ref m_fitPost, .ref m_fitEnd, .ref m_keptPosts, .int i_x0]))], [(m_all, .inl (T.2 0, 3952, .inl g_all_122))]] _ _ := G
        have G := G.sub (bs' := [[(mo, .inr (11, [.ref m_all, .ref m_has, .int i_size, .int j_next_116, .int j_where_117, .int j_token_118, .int j_number_119, .int j_word_120, .int j_wrong_121, .int i_farCrossing, .ref m_read, .int i_z0, .int i_crossings, .int i_inns, .ref m_posts, .ref m_shut, .ref m_here, .int i_steps, .int i_done, .int i_at, .int i_gone, .ref m_was, .ref m_came, .ref m_seenAt, .ref m_rowWorth, .ref m_farBy, .ref m_used, .int i_everywhere, .int i_again0, .int i_d0, .int i_never, .int i_firstCame, .int i_longRun, .int i_moved, .int i_crowd, .int i_l0, .int i_fitMany, .int i_fitLeast, .int i_fitMost, .ref m_fitPost, .ref m_fitEnd, .ref m_keptPosts, .int i_x0]))], [(m_all, .inl (T.2 0, 3952, .inl g_all_122))], [(m_read, .inl (T.2 0, 121, .inl f_read))]]) [1, 2, 0] rfl
        exact z_vret C hr hlocks G (Nat.le_of_ble_eq_true rfl) (Nat.le_of_ble_eq_true rfl) dX12_logLine_131 ⟨j_next_116, j_where_117, j_token_118, j_number_119, j_word_120, j_wrong_121, g_all_122, f_read, rfl, (by first | with_reducible assumption | omega | trivial | assumption), (by first | with_reducible assumption | omega | trivial | assumption), (by first | with_reducible assumption | omega | trivial | assumption), (by first | with_reducible assumption | omega | trivial | assumption), (hpgb.tr (h_91.tr (h_108.tr h_127))), (by first | with_reducible assumption | omega | trivial | assumption), (by unfold pLog; rw [hd]; show zRr _ _ _ _ _ _ _ _ _ _ _ (pEndL k (pFact k d1 (nI (pWh k a.1)) d2 f_read).1); rw [← t2, pFact_1 hbq, pGY_hi (by omega)]; exact h_128), (by unfold pLog; rw [hd]; show _ = (pFact k d1 (nI (pWh k a.1)) d2 f_read).2; rw [← t2]; unfold pFact; rw [← hbq]; exact (if_neg (by omega)).symm)⟩
      · have c_115n : ¬ (8 : Int) ≤ (f_read 0).toInt := fun q => c_115 ((fa_le _ _).mpr q)
        refine lv_aload_n hx hb dX12_logLine_84 rfl (lv_at hl 4 rfl) ?_
        refine z_get C G clX12 1 rfl 10 (by decide) m_fl_RX12_17 rfl dX12_logLine_85 ?_
        refine lv_iconst (v := 1) hx hb dX12_logLine_88 (by decide) ?_
        refine lv_iconst (v := 2) hx hb dX12_logLine_89 (by decide) ?_
        refine lv_aload_n hx hb dX12_logLine_90 rfl (lv_at hl 4 rfl) ?_
        refine z_get C G clX12 1 rfl 10 (by decide) m_fl_RX12_17 rfl dX12_logLine_91 ?_
        refine lv_iconst (v := 0) hx hb dX12_logLine_94 (by decide) ?_
        refine z_ild C G 0 rfl (vp_in_nI (n := 0) (by decide) (by decide)) dX12_logLine_95 ?_
        refine lv_topi (fun v_130 ev_130 => ?_)
        rw [show ((0 : Int32).toNatClampNeg) = 0 from rfl] at ev_130
        subst ev_130
        refine lv_imul hx hb dX12_logLine_96 ?_
        refine lv_topi (fun y_131 ey_131 => ?_)
        have ey_131i : y_131.toInt = (2 : Int) * (f_read 0).toInt := by rw [ey_131]; exact z_imulI (x := (2 : Int32)) (y := (f_read 0)) (by show -2147483648 ≤ (2 : Int) * (f_read 0).toInt; omega) (by show (2 : Int) * (f_read 0).toInt < 2147483648; omega)
        refine lv_iadd hx hb dX12_logLine_97 ?_
        refine lv_topi (fun y_132 ey_132 => ?_)
        have ey_132i : y_132.toInt = (1 : Int) + y_131.toInt := by rw [ey_132]; exact z_iaddI (x := (1 : Int32)) (y := y_131) (by show -2147483648 ≤ (1 : Int) + y_131.toInt; omega) (by show (1 : Int) + y_131.toInt < 2147483648; omega)
        refine lv_iload_n hx hb dX12_logLine_98 rfl (lv_at hl 1 rfl) ?_
        refine z_ist C G 0 rfl (vp_in_iff.mpr ⟨by omega, by omega⟩) dX12_logLine_99 (fun H locs G => ?_)
        have G : zS T A s.heap s [[(m_read, .inl (T.2 0, 121, .inl (upd f_read y_132.toNatClampNeg r_96)))], [(mo, .inr (11, [.ref m_all, .ref m_has, .int i_size, .int j_next_97, .int j_where_98, .int j_token_99, .int j_number_100, .int j_word_101, .int j_wrong_102, .int i_farCrossing, .ref m_read, .int i_z0, .int i_crossings, .int i_inns, .ref m_posts, .ref m_shut, .ref m_here, .int i_steps, .int i_done, .int i_at, .int i_gone, .ref m_was, .ref m_came, .ref m_seenAt, .ref m_rowWorth, .ref m_farBy, .ref m_used, .int i_everywhere, .int i_again0, .int i_d0, .int i_never, .int i_firstCame, .int i_longRun, .int i_moved, .int i_crowd, .int i_l0, .int i_fitMany, .int i_fitLeast, .int i_fitMost, .ref m_fitPost, .ref m_fitEnd, .ref m_keptPosts, .int i_x0]))], [(m_all, .inl (T.2 0, 3952, .inl g_all_103))]] _ _ := G
        refine lv_aload_n hx hb dX12_logLine_100 rfl (lv_at hl 4 rfl) ?_
        refine z_get C G clX12 1 rfl 10 (by decide) m_fl_RX12_17 rfl dX12_logLine_101 ?_
        refine lv_iconst (v := 2) hx hb dX12_logLine_104 (by decide) ?_
        refine lv_iconst (v := 2) hx hb dX12_logLine_105 (by decide) ?_
        refine lv_aload_n hx hb dX12_logLine_106 rfl (lv_at hl 4 rfl) ?_
        refine z_get C G clX12 1 rfl 10 (by decide) m_fl_RX12_17 rfl dX12_logLine_107 ?_
        refine lv_iconst (v := 0) hx hb dX12_logLine_110 (by decide) ?_
        refine z_ild C G 0 rfl (vp_in_nI (n := 0) (by decide) (by decide)) dX12_logLine_111 ?_
        refine lv_topi (fun v_133 ev_133 => ?_)
        rw [show ((0 : Int32).toNatClampNeg) = 0 from rfl] at ev_133
        subst ev_133
        have hcl_y_132 := z_clI (x := y_132) (by omega)
        rw [show (upd f_read y_132.toNatClampNeg r_96) 0 = f_read 0 from by unfold upd; rw [if_neg (by omega)]]
        refine lv_imul hx hb dX12_logLine_112 ?_
        refine lv_topi (fun y_134 ey_134 => ?_)
        have ey_134i : y_134.toInt = (2 : Int) * (f_read 0).toInt := by rw [ey_134]; exact z_imulI (x := (2 : Int32)) (y := (f_read 0)) (by show -2147483648 ≤ (2 : Int) * (f_read 0).toInt; omega) (by show (2 : Int) * (f_read 0).toInt < 2147483648; omega)
        refine lv_iadd hx hb dX12_logLine_113 ?_
        refine lv_topi (fun y_135 ey_135 => ?_)
        have ey_135i : y_135.toInt = (2 : Int) + y_134.toInt := by rw [ey_135]; exact z_iaddI (x := (2 : Int32)) (y := y_134) (by show -2147483648 ≤ (2 : Int) + y_134.toInt; omega) (by show (2 : Int) + y_134.toInt < 2147483648; omega)
        refine lv_iload hx hb dX12_logLine_114 (lv_at hl 0 rfl) ?_
        refine z_ist C G 0 rfl (vp_in_iff.mpr ⟨by omega, by omega⟩) dX12_logLine_116 (fun H locs G => ?_)
        have G : zS T A s.heap s [[(m_read, .inl (T.2 0, 121, .inl (upd (upd f_read y_132.toNatClampNeg r_96) y_135.toNatClampNeg r_113)))], [(mo, .inr (11, [.ref m_all, .ref m_has, .int i_size, .int j_next_97, .int j_where_98, .int j_token_99, .int j_number_100, .int j_word_101, .int j_wrong_102, .int i_farCrossing, .ref m_read, .int i_z0, .int i_crossings, .int i_inns, .ref m_posts, .ref m_shut, .ref m_here, .int i_steps, .int i_done, .int i_at, .int i_gone, .ref m_was, .ref m_came, .ref m_seenAt, .ref m_rowWorth, .ref m_farBy, .ref m_used, .int i_everywhere, .int i_again0, .int i_d0, .int i_never, .int i_firstCame, .int i_longRun, .int i_moved, .int i_crowd, .int i_l0, .int i_fitMany, .int i_fitLeast, .int i_fitMost, .ref m_fitPost, .ref m_fitEnd, .ref m_keptPosts, .int i_x0]))], [(m_all, .inl (T.2 0, 3952, .inl g_all_103))]] _ _ := G
        refine lv_aload_n hx hb dX12_logLine_117 rfl (lv_at hl 4 rfl) ?_
        refine z_get C G clX12 1 rfl 10 (by decide) m_fl_RX12_17 rfl dX12_logLine_118 ?_
        refine lv_iconst (v := 0) hx hb dX12_logLine_121 (by decide) ?_
        refine lv_dup2_11 hx hb dX12_logLine_122 rfl rfl ?_
        refine z_ild C G 0 rfl (vp_in_nI (n := 0) (by decide) (by decide)) dX12_logLine_123 ?_
        refine lv_topi (fun v_136 ev_136 => ?_)
        rw [show ((0 : Int32).toNatClampNeg) = 0 from rfl] at ev_136
        subst ev_136
        refine lv_iconst (v := 1) hx hb dX12_logLine_124 (by decide) ?_
        have hcl_y_135 := z_clI (x := y_135) (by omega)
        have hcl_y_132 := z_clI (x := y_132) (by omega)
        rw [show (upd (upd f_read y_132.toNatClampNeg r_96) y_135.toNatClampNeg r_113) 0 = f_read 0 from by unfold upd; rw [if_neg (by omega), if_neg (by omega)]]
        refine lv_iadd hx hb dX12_logLine_125 ?_
        refine lv_topi (fun y_137 ey_137 => ?_)
        have ey_137i : y_137.toInt = (f_read 0).toInt + (1 : Int) := by rw [ey_137]; exact z_iaddI (x := (f_read 0)) (y := (1 : Int32)) (by show -2147483648 ≤ (f_read 0).toInt + (1 : Int); omega) (by show (f_read 0).toInt + (1 : Int) < 2147483648; omega)
        refine z_ist C G 0 rfl (vp_in_nI (n := 0) (by decide) (by decide)) dX12_logLine_126 (fun H locs G => ?_)
        have G : zS T A s.heap s [[(m_read, .inl (T.2 0, 121, .inl (upd (upd (upd f_read y_132.toNatClampNeg r_96) y_135.toNatClampNeg r_113) 0 y_137)))], [(mo, .inr (11, [.ref m_all, .ref m_has, .int i_size, .int j_next_97, .int j_where_98, .int j_token_99, .int j_number_100, .int j_word_101, .int j_wrong_102, .int i_farCrossing, .ref m_read, .int i_z0, .int i_crossings, .int i_inns, .ref m_posts, .ref m_shut, .ref m_here, .int i_steps, .int i_done, .int i_at, .int i_gone, .ref m_was, .ref m_came, .ref m_seenAt, .ref m_rowWorth, .ref m_farBy, .ref m_used, .int i_everywhere, .int i_again0, .int i_d0, .int i_never, .int i_firstCame, .int i_longRun, .int i_moved, .int i_crowd, .int i_l0, .int i_fitMany, .int i_fitLeast, .int i_fitMost, .ref m_fitPost, .ref m_fitEnd, .ref m_keptPosts, .int i_x0]))], [(m_all, .inl (T.2 0, 3952, .inl g_all_103))]] _ _ := G
        refine lv_aload_n hx hb dX12_logLine_127 rfl (lv_at hl 4 rfl) ?_
        refine z_Vv (bc := [[(mo, .inr (11, [.ref m_all, .ref m_has, .int i_size, .int j_next_97, .int j_where_98, .int j_token_99, .int j_number_100, .int j_word_101, .int j_wrong_102, .int i_farCrossing, .ref m_read, .int i_z0, .int i_crossings, .int i_inns, .ref m_posts, .ref m_shut, .ref m_here, .int i_steps, .int i_done, .int i_at, .int i_gone, .ref m_was, .ref m_came, .ref m_seenAt, .ref m_rowWorth, .ref m_farBy, .ref m_used, .int i_everywhere, .int i_again0, .int i_d0, .int i_never, .int i_firstCame, .int i_longRun, .int i_moved, .int i_crowd, .int i_l0, .int i_fitMany, .int i_fitLeast, .int i_fitMost, .ref m_fitPost, .ref m_fitEnd, .ref m_keptPosts, .int i_x0]))], [(m_all, .inl (T.2 0, 3952, .inl g_all_103))]]) (br := [[(m_read, .inl (T.2 0, 121, .inl (upd (upd (upd f_read y_132.toNatClampNeg r_96) y_135.toNatClampNeg r_113) 0 y_137)))]]) (As := []) (rest := []) C G (c_fm_endsLine l T mo m_all m_has i_size j_next_97 j_where_98 j_token_99 j_number_100 j_word_101 j_wrong_102 i_farCrossing m_read i_z0 i_crossings i_inns m_posts m_shut m_here i_steps i_done i_at i_gone m_was m_came m_seenAt m_rowWorth m_farBy m_used i_everywhere i_again0 i_d0 i_never i_firstCame i_longRun i_moved i_crowd i_l0 i_fitMany i_fitLeast i_fitMost m_fitPost m_fitEnd m_keptPosts i_x0 g_all_103 k n ((pNum k 0 6 (pNum k 0 6 b).2).2) (by first | with_reducible assumption | with_reducible rfl | omega | assumption | rfl) (by first | with_reducible assumption | with_reducible rfl | omega | assumption | rfl) (by first | with_reducible assumption | with_reducible rfl | omega | assumption | rfl) h_111) (kV_RX12_140 C.2.2.2.2 (Nat.le_of_ble_eq_true rfl) (Nat.le_of_ble_eq_true rfl)) [1, 2] [0] rfl rfl (ci := 11) (qc := (RX12, TX12, 43)) rfl rfl (List.mem_flatten.mpr ⟨_, List.mem_of_getElem? (i := 0) rfl, List.mem_cons_self⟩) rfl rfl hl.1 dX12_logLine_128 (Nat.le_of_ble_eq_true rfl) (Nat.le_of_ble_eq_true rfl) (fun b1 H locs hw G => ?_)
        refine zEx7 hw ?_
        intro j_next_138 j_where_139 j_token_140 j_number_141 j_word_142 j_wrong_143 g_all_144
        refine zCu7 ?_
        intro hbs9 h_145 h_146 h_147 h_148 h_149 h_150
        clear hw
        subst hbs9
        have G : zS T A s.heap s [[(m_read, .inl (T.2 0, 121, .inl (upd (upd (upd f_read y_132.toNatClampNeg r_96) y_135.toNatClampNeg r_113) 0 y_137)))], [(mo, .inr (11, [.ref m_all, .ref m_has, .int i_size, .int j_next_138, .int j_where_139, .int j_token_140, .int j_number_141, .int j_word_142, .int j_wrong_143, .int i_farCrossing, .ref m_read, .int i_z0, .int i_crossings, .int i_inns, .ref m_posts, .ref m_shut, .ref m_here, .int i_steps, .int i_done, .int i_at, .int i_gone, .ref m_was, .ref m_came, .ref m_seenAt, .ref m_rowWorth, .ref m_farBy, .ref m_used, .int i_everywhere, .int i_again0, .int i_d0, .int i_never, .int i_firstCame, .int i_longRun, .int i_moved, .int i_crowd, .int i_l0, .int i_fitMany, .int i_fitLeast, .int i_fitMost, .ref m_fitPost, .ref m_fitEnd, .ref m_keptPosts, .int i_x0]))], [(m_all, .inl (T.2 0, 3952, .inl g_all_144))]] _ _ := G
        have G := G.sub (bs' := [[(mo, .inr (11, [.ref m_all, .ref m_has, .int i_size, .int j_next_138, .int j_where_139, .int j_token_140, .int j_number_141, .int j_word_142, .int j_wrong_143, .int i_farCrossing, .ref m_read, .int i_z0, .int i_crossings, .int i_inns, .ref m_posts, .ref m_shut, .ref m_here, .int i_steps, .int i_done, .int i_at, .int i_gone, .ref m_was, .ref m_came, .ref m_seenAt, .ref m_rowWorth, .ref m_farBy, .ref m_used, .int i_everywhere, .int i_again0, .int i_d0, .int i_never, .int i_firstCame, .int i_longRun, .int i_moved, .int i_crowd, .int i_l0, .int i_fitMany, .int i_fitLeast, .int i_fitMost, .ref m_fitPost, .ref m_fitEnd, .ref m_keptPosts, .int i_x0]))], [(m_all, .inl (T.2 0, 3952, .inl g_all_144))], [(m_read, .inl (T.2 0, 121, .inl (upd (upd (upd f_read y_132.toNatClampNeg r_96) y_135.toNatClampNeg r_113) 0 y_137)))]]) [1, 2, 0] rfl
        exact z_vret C hr hlocks G (Nat.le_of_ble_eq_true rfl) (Nat.le_of_ble_eq_true rfl) dX12_logLine_131 ⟨j_next_138, j_where_139, j_token_140, j_number_141, j_word_142, j_wrong_143, g_all_144, (upd (upd (upd f_read y_132.toNatClampNeg r_96) y_135.toNatClampNeg r_113) 0 y_137), rfl, (by first | with_reducible assumption | omega | trivial | assumption), (by first | with_reducible assumption | omega | trivial | assumption), (by first | with_reducible assumption | omega | trivial | assumption), (by first | with_reducible assumption | omega | trivial | assumption), (hpgb.tr (h_91.tr (h_108.tr h_149))), (zCF_upd (k := 0) (v := y_137) (zCF_upd (k := y_135.toNatClampNeg) (v := r_113) (zCF_upd (k := y_132.toNatClampNeg) (v := r_96) (by assumption) (by have q9 := z_clI (x := y_132) (by omega); omega)) (by have q9 := z_clI (x := y_135) (by omega); omega)) (by omega)), (by unfold pLog; rw [hd]; show zRr _ _ _ _ _ _ _ _ _ _ _ (pEndL k (pFact k d1 (nI (pWh k a.1)) d2 f_read).1); rw [← t2, pFact_1 hbq, pGY_hi (by omega)]; exact h_150), (by unfold pLog; rw [hd]; show _ = (pFact k d1 (nI (pWh k a.1)) d2 f_read).2; rw [← t2]; unfold pFact; rw [← hbq]; rw [if_pos (by omega)]; have hy2 : (pGY k d1 (pNum k 0 6 b).2).1 = r_113 := (congrArg Prod.fst (pGY_hi (by omega))).trans h_112.symm; have qy_135 := z_clI (x := y_135) (by omega); have qy_132 := z_clI (x := y_132) (by omega); rw [hy2, ← h_95, show y_135.toNatClampNeg = 2 + 2 * (f_read 0).toInt.toNat by omega, show y_132.toNatClampNeg = 1 + 2 * (f_read 0).toInt.toNat by omega, ey_137])⟩
    refine lv_aload_n hx hb dX12_logLine_24 rfl (lv_at hl 2 rfl) ?_
    refine z_get C G clX12 1 rfl 8 (by decide) m_fl_RX12_104 rfl dX12_logLine_25 ?_
    refine lv_if_ne (tgt := 48) hx hb dX12_logLine_28 (by decide) (fun c_152 => ?_) (fun c_152 => ?_)
    · have c_152n : ¬ j_wrong_6.toInt = (0 : Int) := fun q => c_152 ((fa_eq _ _).mpr q)
      obtain ⟨b, hbq⟩ : ∃ b, b = pDB 8 i_where f_read d2 := ⟨_, rfl⟩
      have hRb : zRr k n i_size j_next_1 j_where_2 j_token_3 j_number_4 j_word_5 j_wrong_6 i_farCrossing g_all_7 b := by rw [hbq]; first | (rw [pDB_b (by rw [← hA6D]; omega)]; exact hRd) | (unfold pDB; rw [if_neg (by omega)]; exact hRd)
      exact jn_48 g_all_7 b (show b = pDB 8 i_where f_read d2 ∧ zRr k n i_size j_next_1 j_where_2 j_token_3 j_number_4 j_word_5 j_wrong_6 i_farCrossing g_all_7 b ∧ zPal f_all g_all_7 from ⟨hbq, hRb, h_12⟩) _ _ ls G (lv_sub hl [0, 1, 2] rfl)
    · have c_152n : j_wrong_6.toInt = (0 : Int) := (fa_eq _ _).mp c_152
      refine lv_aload_n hx hb dX12_logLine_31 rfl (lv_at hl 2 rfl) ?_
      refine z_get C G clX12 1 rfl 10 (by decide) m_fl_RX12_17 rfl dX12_logLine_32 ?_
      refine lv_iconst (v := 0) hx hb dX12_logLine_35 (by decide) ?_
      refine z_ild C G 0 rfl (vp_in_nI (n := 0) (by decide) (by decide)) dX12_logLine_36 ?_
      refine lv_topi (fun v_153 ev_153 => ?_)
      rw [show ((0 : Int32).toNatClampNeg) = 0 from rfl] at ev_153
      subst ev_153
      refine lv_bipush (v := 8) hx hb dX12_logLine_37 (by decide) ?_
      refine lv_icmp_lt (tgt := 48) hx hb dX12_logLine_39 (by decide) (fun c_154 => ?_) (fun c_154 => ?_)
      · have c_154n : (f_read 0).toInt < (8 : Int) := (fa_lt _ _).mp c_154
        obtain ⟨b, hbq⟩ : ∃ b, b = pDB 8 i_where f_read d2 := ⟨_, rfl⟩
        have hRb : zRr k n i_size j_next_1 j_where_2 j_token_3 j_number_4 j_word_5 j_wrong_6 i_farCrossing g_all_7 b := by rw [hbq]; first | (rw [pDB_b (by rw [← hA6D]; omega)]; exact hRd) | (unfold pDB; rw [if_neg (by omega)]; exact hRd)
        exact jn_48 g_all_7 b (show b = pDB 8 i_where f_read d2 ∧ zRr k n i_size j_next_1 j_where_2 j_token_3 j_number_4 j_word_5 j_wrong_6 i_farCrossing g_all_7 b ∧ zPal f_all g_all_7 from ⟨hbq, hRb, h_12⟩) _ _ ls G (lv_sub hl [0, 1, 2] rfl)
      · have c_154n : ¬ (f_read 0).toInt < (8 : Int) := fun q => c_154 ((fa_lt _ _).mpr q)
        refine lv_aload_n hx hb dX12_logLine_42 rfl (lv_at hl 2 rfl) ?_
        refine lv_iconst (v := 3) hx hb dX12_logLine_43 (by decide) ?_
        refine lv_iload_n hx hb dX12_logLine_44 rfl (lv_at hl 1 rfl) ?_
        refine z_Vv (bc := [[(mo, .inr (11, [.ref m_all, .ref m_has, .int i_size, .int j_next_1, .int j_where_2, .int j_token_3, .int j_number_4, .int j_word_5, .int j_wrong_6, .int i_farCrossing, .ref m_read, .int i_z0, .int i_crossings, .int i_inns, .ref m_posts, .ref m_shut, .ref m_here, .int i_steps, .int i_done, .int i_at, .int i_gone, .ref m_was, .ref m_came, .ref m_seenAt, .ref m_rowWorth, .ref m_farBy, .ref m_used, .int i_everywhere, .int i_again0, .int i_d0, .int i_never, .int i_firstCame, .int i_longRun, .int i_moved, .int i_crowd, .int i_l0, .int i_fitMany, .int i_fitLeast, .int i_fitMost, .ref m_fitPost, .ref m_fitEnd, .ref m_keptPosts, .int i_x0]))], [(m_all, .inl (T.2 0, 3952, .inl g_all_7))]]) (br := [[(m_read, .inl (T.2 0, 121, .inl f_read))]]) (As := [.int 3, .int i_where]) (rest := []) C G (c_fm_also l T mo m_all m_has i_size j_next_1 j_where_2 j_token_3 j_number_4 j_word_5 j_wrong_6 i_farCrossing m_read i_z0 i_crossings i_inns m_posts m_shut m_here i_steps i_done i_at i_gone m_was m_came m_seenAt m_rowWorth m_farBy m_used i_everywhere i_again0 i_d0 i_never i_firstCame i_longRun i_moved i_crowd i_l0 i_fitMany i_fitLeast i_fitMost m_fitPost m_fitEnd m_keptPosts i_x0 g_all_7 3 i_where) (kV_RX12_115 C.2.2.2.2 (Nat.le_of_ble_eq_true rfl) (Nat.le_of_ble_eq_true rfl)) [1, 2] [0] rfl rfl (ci := 11) (qc := (RX12, TX12, 43)) rfl rfl (List.mem_flatten.mpr ⟨_, List.mem_of_getElem? (i := 0) rfl, List.mem_cons_self⟩) rfl rfl hl.1 dX12_logLine_45 (Nat.le_of_ble_eq_true rfl) (Nat.le_of_ble_eq_true rfl) (fun b1 H locs hw G => ?_)
        refine zEx1 hw ?_
        intro g_all_155
        refine zCu3 ?_
        intro hbs9 h_156 h_157
        clear hw
        subst hbs9
        have G : zS T A s.heap s [[(m_read, .inl (T.2 0, 121, .inl f_read))], [(mo, .inr (11, [.ref m_all, .ref m_has, .int i_size, .int j_next_1, .int j_where_2, .int j_token_3, .int j_number_4, .int j_word_5, .int j_wrong_6, .int i_farCrossing, .ref m_read, .int i_z0, .int i_crossings, .int i_inns, .ref m_posts, .ref m_shut, .ref m_here, .int i_steps, .int i_done, .int i_at, .int i_gone, .ref m_was, .ref m_came, .ref m_seenAt, .ref m_rowWorth, .ref m_farBy, .ref m_used, .int i_everywhere, .int i_again0, .int i_d0, .int i_never, .int i_firstCame, .int i_longRun, .int i_moved, .int i_crowd, .int i_l0, .int i_fitMany, .int i_fitLeast, .int i_fitMost, .ref m_fitPost, .ref m_fitEnd, .ref m_keptPosts, .int i_x0]))], [(m_all, .inl (T.2 0, 3952, .inl g_all_155))]] _ _ := G
        have h_157 : g_all_155 = (if ¬ j_wrong_6.toInt = 0 ∨ (¬ (g_all_7 5).toInt = 0 ∧ ((g_all_7 6).toInt < i_where.toInt ∨ ((g_all_7 6).toInt = i_where.toInt ∧ (g_all_7 5).toInt ≤ (3 : Int)))) then g_all_7 else upd (upd g_all_7 5 3) 6 i_where) := h_157
        obtain ⟨b, hbq⟩ : ∃ b, b = pDB 8 i_where f_read d2 := ⟨_, rfl⟩
        have hRb : zRr k n i_size j_next_1 j_where_2 j_token_3 j_number_4 j_word_5 j_wrong_6 i_farCrossing g_all_155 b := by rw [hbq]; unfold pDB; rw [if_pos (by omega)]; exact zRr_also (kd := 3) (w := i_where) hRd h_157
        exact jn_48 g_all_155 b (show b = pDB 8 i_where f_read d2 ∧ zRr k n i_size j_next_1 j_where_2 j_token_3 j_number_4 j_word_5 j_wrong_6 i_farCrossing g_all_155 b ∧ zPal f_all g_all_155 from ⟨hbq, hRb, (h_12.tr h_156)⟩) _ _ ls G (lv_sub hl [0, 1, 2] rfl)
/-! TEXT: the record of all that is told, behind a text -/
theorem z_cgA {cA : ClassId} {n : Nat} {f g : Nat → Int32} (e : ∀ j, j < n → f j = g j) : vp_cell cA (n, .inl f) = vp_cell cA (n, .inl g) := by
  rw [vp_cell_i, vp_cell_i]
  unfold arrV
  have : (fun j : Fin n => Value.int (f j.val)) = fun j : Fin n => Value.int (g j.val) := funext fun j => by rw [e j.val j.isLt]
  rw [this]
theorem z_cg {T : zTy} {A : Nat → Prop} {H0 H : Heap} {s : State} {bs : List va_W} {locs : List Loc} (G : zS T A H0 s bs H locs) (i : Nat) {a n : Nat} {cA : ClassId} {f : Nat → Int32} (ha : bs[i]? = some [(a, .inl (cA, n, .inl f))]) (g : Nat → Int32) (e : ∀ j, j < n → f j = g j) : zS T A H0 s (bs.set i [(a, .inl (cA, n, .inl g))]) H locs := by
  obtain ⟨k, hk, hset⟩ := zfl ha
  obtain ⟨g1, g2, g3, g4⟩ := G
  have key : ∀ (m : Nat) (q : Nat × va_E), (bs.flatten.set k (a, .inl (cA, n, .inl g)))[m]? = some q → m = k ∧ q = (a, .inl (cA, n, .inl g)) ∨ ¬ m = k ∧ bs.flatten[m]? = some q := by
    intro m q h
    rw [List.getElem?_set] at h
    by_cases c : k = m
    · rw [if_pos c] at h
      split at h
      · exact Or.inl ⟨c.symm, (Option.some.inj h).symm⟩
      · cases h
    · rw [if_neg c] at h
      exact Or.inr ⟨fun z => c z.symm, h⟩
  refine ⟨g1, ?_, ?_, g4⟩
  · rw [hset]
    intro m q h
    rcases key m q h with ⟨c1, c2⟩ | ⟨c1, c2⟩
    · have h0 := g2 k _ hk
      rw [c2]
      have h1 : H[a]? = some (vp_cell cA (n, .inl f)) := h0
      show H[a]? = some (vp_cell cA (n, .inl g))
      rw [← z_cgA e]
      exact h1
    · exact g2 m q c2
  · rw [hset]
    have ad : ∀ (m : Nat) (q : Nat × va_E), (bs.flatten.set k (a, .inl (cA, n, .inl g)))[m]? = some q → ∃ q', bs.flatten[m]? = some q' ∧ q'.1 = q.1 := by
      intro m q h
      rcases key m q h with ⟨c1, c2⟩ | ⟨c1, c2⟩
      · exact ⟨_, by rw [c1]; exact hk, by rw [c2]⟩
      · exact ⟨q, c2, rfl⟩
    refine ⟨fun i j p q hi hj e => ?_, fun m q h => ?_⟩
    · obtain ⟨p', a1, a2⟩ := ad i p hi
      obtain ⟨q', b1, b2⟩ := ad j q hj
      exact g3.1 i j p' q' a1 b1 (by rw [a2, b2]; exact e)
    · obtain ⟨q', b1, b2⟩ := ad m q h
      rw [← b2]
      exact g3.2 m q' b1
def zGd (f : Nat → Int32) (c : Nat) : Prop := (f (9 + c)).toInt = 0 ∨ (f (9 + c)).toInt < (f (2 + c)).toInt
theorem zGd_s {f : Nat → Int32} {i : Nat} (h : ∀ c, c < i → zGd f c) (hi : zGd f i) : ∀ c, c < i + 1 → zGd f c := by
  intro c hc
  by_cases e : c = i
  · rw [e]; exact hi
  · exact h c (by omega)
theorem zGd_e {f : Nat → Int32} {i : Nat} (h : ∃ c, c < i ∧ ¬ zGd f c) : ∃ c, c < i + 1 ∧ ¬ zGd f c := by
  obtain ⟨c, a, b⟩ := h
  exact ⟨c, by omega, b⟩
theorem zGd_p {f : Nat → Int32} (h : ∀ c, c < 7 → zGd f c) : pPosts f = true := pPosts_t.mpr h
theorem zGd_n {f : Nat → Int32} (h : ∃ c, c < 7 ∧ ¬ zGd f c) : pPosts f = false := by
  obtain ⟨c, a, b⟩ := h
  cases z : pPosts f with
  | false => rfl
  | true => exact absurd (pPosts_t.mp z c a) b
def pHd (G : Nat → Int32) (flt fpl : Int32) : Nat → Int32 := upd (upd (upd G 4 0) 5 flt) 6 fpl
def pOkAt (s : Nat) (at_ : Int32) (G : Nat → Int32) : Prop := if at_.toInt = -1 then (G s).toInt < 2 else 0 ≤ at_.toInt ∧ at_.toInt < (G s).toInt
def pNr (s : Nat) (at_ : Int32) (G : Nat → Int32) : Int32 := if at_.toInt = -1 then G s else at_
def pBase (s nr : Nat) : Nat := if s = 0 then 610 + 51 * nr else if s = 1 then 712 + 121 * nr else 954 + 17 * nr
def pSize (s : Nat) : Nat := if s = 0 then 51 else if s = 1 then 121 else 17
def pPut (s nr : Nat) (row G : Nat → Int32) : Nat → Int32 := fun j => if pBase s nr ≤ j ∧ j < pBase s nr + pSize s then row (j - pBase s nr) else G j
def pCnt (s : Nat) (at_ : Int32) (G : Nat → Int32) : Nat → Int32 := if at_.toInt = -1 then upd G s (G s + 1) else G
def zText (z : pS × (Nat → Int32)) (s : Nat) (at_ : Int32) (G G' : Nat → Int32) (r : Int32) : Prop :=
  (¬ pOkAt s at_ G ∧ r = -2 ∧ ∀ j, j < 988 → G' j = pHd G 0 (-1) j) ∨ (pOkAt s at_ G ∧ ¬ z.1.2.2.1.toInt = 0 ∧ r = -1 ∧ ∀ j, j < 988 → G' j = pHd G z.1.2.2.1 z.1.2.2.2.1 j) ∨ (pOkAt s at_ G ∧ z.1.2.2.1.toInt = 0 ∧ r = pNr s at_ G ∧ ∀ j, j < 988 → G' j = pPut s (pNr s at_ G).toInt.toNat z.2 (pCnt s at_ (pHd G z.1.2.2.1 z.1.2.2.2.1)) j)
theorem zRr_st {k : pT} {n : Nat} {sz nx wh tk nu wo : Int32} {f : Nat → Int32} (hk : k = tkT (fun j => f (10 + j)) n) (hb : ∀ j, j < n → 0 ≤ (f (10 + j)).toInt) (hn : n ≤ 600) (hs : sz = nI n) (hT : zTokR k 0 nx wh tk nu wo) : zRr k n sz nx wh tk nu wo 0 (-1) (upd (upd (upd f 4 0) 5 0) 6 (-1)) (0, 0, 0, -1, -1) := by
  have e : ∀ j, upd (upd (upd f 4 0) 5 0) 6 (-1) (10 + j) = f (10 + j) := fun j => by rw [z_ne (by omega), z_ne (by omega), z_ne (by omega)]
  exact ⟨⟨hk.trans (congrArg (fun q => tkT q n) (funext fun j => (e j).symm)), fun j hj => by rw [e j]; exact hb j hj, hn, hs, Nat.zero_le _⟩, rfl, fun _ => hT, rfl, rfl, rfl⟩
theorem pAlso_w {kd w w' : Int32} {a : pS} (h : a.2.1.toInt = 0 → w = w') : pAlso kd w a = pAlso kd w' a := by
  by_cases c : a.2.1.toInt = 0
  · rw [h c]
  · rw [pAlso_n (Or.inl c), pAlso_n (Or.inl c)]
theorem zHd_all {G g : Nat → Int32} {flt fpl : Int32} (hp : zPal (upd (upd (upd G 4 0) 5 0) 6 (-1)) g) (h5 : g 5 = flt) (h6 : g 6 = fpl) : g = pHd G flt fpl := by
  funext j
  unfold pHd
  by_cases c6 : j = 6
  · rw [c6, z_eq rfl]; exact h6
  · rw [z_ne c6]
    by_cases c5 : j = 5
    · rw [c5, z_eq rfl]; exact h5
    · rw [z_ne c5, hp j c5 c6, z_ne c6, z_ne c5]
theorem zText_b {z : pS × (Nat → Int32)} {s : Nat} {at_ : Int32} {G : Nat → Int32} (h : ¬ pOkAt s at_ G) : zText z s at_ G (upd (upd (upd G 4 0) 5 0) 6 (-1)) (-2) := Or.inl ⟨h, rfl, fun j hj => rfl⟩
theorem zText_f {z : pS × (Nat → Int32)} {s : Nat} {at_ : Int32} {G g : Nat → Int32} (h : pOkAt s at_ G) (hf : ¬ z.1.2.2.1.toInt = 0) (hp : zPal (upd (upd (upd G 4 0) 5 0) 6 (-1)) g) (h5 : g 5 = z.1.2.2.1) (h6 : g 6 = z.1.2.2.2.1) : zText z s at_ G g (-1) := Or.inr (Or.inl ⟨h, hf, rfl, fun j hj => by rw [zHd_all hp h5 h6]⟩)
theorem zText_k {z : pS × (Nat → Int32)} {s kk : Nat} {at_ r : Int32} {G g A x : Nat → Int32} (h : pOkAt s at_ G) (hf : z.1.2.2.1.toInt = 0) (hr : r = pNr s at_ G) (hk : (pNr s at_ G).toInt = (kk : Int)) (hp : zPal (upd (upd (upd G 4 0) 5 0) 6 (-1)) g) (h5 : g 5 = z.1.2.2.1) (h6 : g 6 = z.1.2.2.2.1) (hA : A = pCnt s at_ g) (hS : ∀ j, j < pSize s → x (pBase s kk + j) = z.2 j) (hO : ∀ j, (j < pBase s kk ∨ pBase s kk + pSize s ≤ j) → x j = A j) : zText z s at_ G x r := by
  refine Or.inr (Or.inr ⟨h, hf, hr, fun j hj => ?_⟩)
  have e : (pNr s at_ G).toInt.toNat = kk := by omega
  rw [e]
  unfold pPut
  split
  · rename_i c
    have := hS (j - pBase s kk) (by omega)
    rw [show pBase s kk + (j - pBase s kk) = j by omega] at this
    exact this
  · rename_i c
    rw [hO j (by omega), hA, zHd_all hp h5 h6]
theorem pCnt_y {s : Nat} {at_ : Int32} {g : Nat → Int32} (h : at_.toInt = -1) : pCnt s at_ g = upd g s (g s + 1) := if_pos h
theorem pCnt_n {s : Nat} {at_ : Int32} {g : Nat → Int32} (h : ¬ at_.toInt = -1) : pCnt s at_ g = g := if_neg h
theorem pNr_y {s : Nat} {at_ : Int32} {g : Nat → Int32} (h : at_.toInt = -1) : pNr s at_ g = g s := if_pos h
theorem pNr_n {s : Nat} {at_ : Int32} {g : Nat → Int32} (h : ¬ at_.toInt = -1) : pNr s at_ g = at_ := if_neg h
theorem pOkAt_y {s : Nat} {at_ : Int32} {G : Nat → Int32} (h : at_.toInt = -1) : pOkAt s at_ G ↔ (G s).toInt < 2 := by unfold pOkAt; rw [if_pos h]
theorem pOkAt_n {s : Nat} {at_ : Int32} {G : Nat → Int32} (h : ¬ at_.toInt = -1) : pOkAt s at_ G ↔ (0 ≤ at_.toInt ∧ at_.toInt < (G s).toInt) := by unfold pOkAt; rw [if_neg h]

set_option maxHeartbeats 4000000 in
set_option maxRecDepth 100000 in
/-- c_fm_crossTold -/
theorem xx_fm_crossTold (l : Launch) (T : zTy) (mo : Nat) (m_all : Nat) (m_has : Nat) (i_size : Int32) (i_next : Int32) (i_where : Int32) (i_token : Int32) (i_number : Int32) (i_word : Int32) (i_wrong : Int32) (i_farCrossing : Int32) (m_read : Nat) (i_z0 : Int32) (i_crossings : Int32) (i_inns : Int32) (m_posts : Nat) (m_shut : Nat) (m_here : Nat) (i_steps : Int32) (i_done : Int32) (i_at : Int32) (i_gone : Int32) (m_was : Nat) (m_came : Nat) (m_seenAt : Nat) (m_rowWorth : Nat) (m_farBy : Nat) (m_used : Nat) (i_everywhere : Int32) (i_again0 : Int32) (i_d0 : Int32) (i_never : Int32) (i_firstCame : Int32) (i_longRun : Int32) (i_moved : Int32) (i_crowd : Int32) (i_l0 : Int32) (i_fitMany : Int32) (i_fitLeast : Int32) (i_fitMost : Int32) (m_fitPost : Nat) (m_fitEnd : Nat) (m_keptPosts : Nat) (i_x0 : Int32) (f_all : Nat → Int32) (f_read : Nat → Int32) (k : pT) (n : Nat) (a : pS) (at_ : Int32) (hsz : i_size.toInt ≤ 600) (hn0 : 0 ≤ i_next.toInt) (hns : i_next.toInt ≤ i_size.toInt) (hR : zLF f_read) (hA : zRr k n i_size i_next i_where i_token i_number i_word i_wrong i_farCrossing f_all a) : zMv l T yX12_crossTold cX12_crossTold 4 7 0 0 [.ref mo, .int at_] [[(mo, .inr (11, [.ref m_all, .ref m_has, .int i_size, .int i_next, .int i_where, .int i_token, .int i_number, .int i_word, .int i_wrong, .int i_farCrossing, .ref m_read, .int i_z0, .int i_crossings, .int i_inns, .ref m_posts, .ref m_shut, .ref m_here, .int i_steps, .int i_done, .int i_at, .int i_gone, .ref m_was, .ref m_came, .ref m_seenAt, .ref m_rowWorth, .ref m_farBy, .ref m_used, .int i_everywhere, .int i_again0, .int i_d0, .int i_never, .int i_firstCame, .int i_longRun, .int i_moved, .int i_crowd, .int i_l0, .int i_fitMany, .int i_fitLeast, .int i_fitMost, .ref m_fitPost, .ref m_fitEnd, .ref m_keptPosts, .int i_x0]))], [(m_all, .inl (T.2 0, 3952, .inl f_all))], [(m_read, .inl (T.2 0, 121, .inl f_read))]] (fun bs => ∃ (j_next : Int32) (j_where : Int32) (j_token : Int32) (j_number : Int32) (j_word : Int32) (j_wrong : Int32) (j_farCrossing : Int32) (g_all : Nat → Int32) (g_read : Nat → Int32), bs = [[(mo, .inr (11, [.ref m_all, .ref m_has, .int i_size, .int j_next, .int j_where, .int j_token, .int j_number, .int j_word, .int j_wrong, .int j_farCrossing, .ref m_read, .int i_z0, .int i_crossings, .int i_inns, .ref m_posts, .ref m_shut, .ref m_here, .int i_steps, .int i_done, .int i_at, .int i_gone, .ref m_was, .ref m_came, .ref m_seenAt, .ref m_rowWorth, .ref m_farBy, .ref m_used, .int i_everywhere, .int i_again0, .int i_d0, .int i_never, .int i_firstCame, .int i_longRun, .int i_moved, .int i_crowd, .int i_l0, .int i_fitMany, .int i_fitLeast, .int i_fitMost, .ref m_fitPost, .ref m_fitEnd, .ref m_keptPosts, .int i_x0]))], [(m_all, .inl (T.2 0, 3952, .inl g_all))], [(m_read, .inl (T.2 0, 121, .inl g_read))]] ∧ 0 ≤ j_next.toInt ∧ j_next.toInt ≤ i_size.toInt ∧ i_next.toInt ≤ j_next.toInt ∧ zPal f_all g_all ∧ zLF g_read ∧ zRr k n i_size j_next j_where j_token j_number j_word j_wrong j_farCrossing g_all (pCross k at_ a f_read).1 ∧ g_read = (pCross k at_ a f_read).2) := by
  refine zMv_of (own := RX12) (by decide) rfl (Nat.le_of_ble_eq_true rfl) ?_
  intro p e s m args below meth c A ls C hr hlocks hnm hAe G hl
  have hx := C.1
  have hb := C.2.1
  have hl : lv_has ls 4 [(0, .ref mo), (1, .int at_)] := hl
  have hok := zRr_ok hA
  refine (id hA).elim fun hA1 w90 => w90.elim fun hA6 w91 => w91.elim fun hA7 w92 => w92.elim fun hA8 w93 => w93.elim fun hA9 hA10 => ?_
  clear w90 w91 w92 w93
  replace hA7 : zHd _ := hA7
  have hka : zHd _ := hok a.1 hA1.2.2.2.2
  have hkb := hka.1
  have hkc := hka.2.1
  have hT4 := pTk_le hok hA1.2.2.2.2
  have hR0 : 0 ≤ (f_read 0).toInt ∧ (f_read 0).toInt ≤ 7 := hR.1
  refine zMt2 (T := T) 17 (fun (gb : Nat → Int32) (b : pS) => [[(mo, .inr (11, [.ref m_all, .ref m_has, .int i_size, .int i_next, .int i_where, .int i_token, .int i_number, .int i_word, .int i_wrong, .int i_farCrossing, .ref m_read, .int i_z0, .int i_crossings, .int i_inns, .ref m_posts, .ref m_shut, .ref m_here, .int i_steps, .int i_done, .int i_at, .int i_gone, .ref m_was, .ref m_came, .ref m_seenAt, .ref m_rowWorth, .ref m_farBy, .ref m_used, .int i_everywhere, .int i_again0, .int i_d0, .int i_never, .int i_firstCame, .int i_longRun, .int i_moved, .int i_crowd, .int i_l0, .int i_fitMany, .int i_fitLeast, .int i_fitMost, .ref m_fitPost, .ref m_fitEnd, .ref m_keptPosts, .int i_x0]))], [(m_all, .inl (T.2 0, 3952, .inl gb))], [(m_read, .inl (T.2 0, 121, .inl f_read))]]) (fun (gb : Nat → Int32) (b : pS) => [(0, .ref mo), (1, .int at_)]) (fun (gb : Nat → Int32) (b : pS) => b = pDB 7 at_ f_read a ∧ zRr k n i_size i_next i_where i_token i_number i_word i_wrong i_farCrossing gb b ∧ zPal f_all gb) G hl ?_ (fun jn_17 => ?_)
  · intro gb b hI9 H locs ls G hl
    replace hI9 : b = pDB 7 at_ f_read a ∧ zRr k n i_size i_next i_where i_token i_number i_word i_wrong i_farCrossing gb b ∧ zPal f_all gb := hI9
    refine hI9.elim fun hbq w90 => w90.elim fun hAb hpgb => ?_
    clear hI9 w90
    replace G : zS T A s.heap s [[(mo, .inr (11, [.ref m_all, .ref m_has, .int i_size, .int i_next, .int i_where, .int i_token, .int i_number, .int i_word, .int i_wrong, .int i_farCrossing, .ref m_read, .int i_z0, .int i_crossings, .int i_inns, .ref m_posts, .ref m_shut, .ref m_here, .int i_steps, .int i_done, .int i_at, .int i_gone, .ref m_was, .ref m_came, .ref m_seenAt, .ref m_rowWorth, .ref m_farBy, .ref m_used, .int i_everywhere, .int i_again0, .int i_d0, .int i_never, .int i_firstCame, .int i_longRun, .int i_moved, .int i_crowd, .int i_l0, .int i_fitMany, .int i_fitLeast, .int i_fitMost, .ref m_fitPost, .ref m_fitEnd, .ref m_keptPosts, .int i_x0]))], [(m_all, .inl (T.2 0, 3952, .inl gb))], [(m_read, .inl (T.2 0, 121, .inl f_read))]] _ _ := G
    replace hl : lv_has ls 4 [(0, .ref mo), (1, .int at_)] := hl
    refine lv_iconst (v := 0) hx hb dX12_crossTold_17 (by decide) ?_
    refine lv_istore_n (lv' := [(2, .int 0), (0, .ref mo), (1, .int at_)]) hx hb dX12_crossTold_18 rfl hl (by decide) rfl (fun ls hl => ?_)
    refine z_lp12 (T := T) 19 (fun (xn : Int32) (xw : Int32) (xt : Int32) (xu : Int32) (xo : Int32) (xr : Int32) (xf : Int32) (ga : Nat → Int32) (gr : Nat → Int32) (nn : Nat) (A9 : pS) (j : Nat) => [[(mo, .inr (11, [.ref m_all, .ref m_has, .int i_size, .int xn, .int xw, .int xt, .int xu, .int xo, .int xr, .int xf, .ref m_read, .int i_z0, .int i_crossings, .int i_inns, .ref m_posts, .ref m_shut, .ref m_here, .int i_steps, .int i_done, .int i_at, .int i_gone, .ref m_was, .ref m_came, .ref m_seenAt, .ref m_rowWorth, .ref m_farBy, .ref m_used, .int i_everywhere, .int i_again0, .int i_d0, .int i_never, .int i_firstCame, .int i_longRun, .int i_moved, .int i_crowd, .int i_l0, .int i_fitMany, .int i_fitLeast, .int i_fitMost, .ref m_fitPost, .ref m_fitEnd, .ref m_keptPosts, .int i_x0]))], [(m_all, .inl (T.2 0, 3952, .inl ga))], [(m_read, .inl (T.2 0, 121, .inl gr))]]) (fun (xn : Int32) (xw : Int32) (xt : Int32) (xu : Int32) (xo : Int32) (xr : Int32) (xf : Int32) (ga : Nat → Int32) (gr : Nat → Int32) (nn : Nat) (A9 : pS) (j : Nat) => [(2, .int (nI nn)), (0, .ref mo), (1, .int at_)]) (fun (xn : Int32) (xw : Int32) (xt : Int32) (xu : Int32) (xo : Int32) (xr : Int32) (xf : Int32) (ga : Nat → Int32) (gr : Nat → Int32) (nn : Nat) (A9 : pS) (j : Nat) => nn ≤ 4 ∧ zLF gr ∧ i_next.toInt ≤ xn.toInt ∧ xn.toInt ≤ i_size.toInt ∧ zPal f_all ga ∧ zRr k n i_size xn xw xt xu xo xr xf ga A9 ∧ nn = min j 4 ∧ j ≤ A9.1 ∧ pRoads k (601 - j) (min j 4) A9 gr = pRoads k 601 0 b f_read ∧ gr 0 = f_read 0) (fun (xn : Int32) (xw : Int32) (xt : Int32) (xu : Int32) (xo : Int32) (xr : Int32) (xf : Int32) (ga : Nat → Int32) (gr : Nat → Int32) (nn : Nat) (A9 : pS) (j : Nat) => zMu xr xt xn i_size) ?_ i_next i_where i_token i_number i_word i_wrong i_farCrossing gb f_read 0 b 0 (show 0 ≤ 4 ∧ zLF f_read ∧ i_next.toInt ≤ i_next.toInt ∧ i_next.toInt ≤ i_size.toInt ∧ zPal f_all gb ∧ zRr k n i_size i_next i_where i_token i_number i_word i_wrong i_farCrossing gb b ∧ 0 = min 0 4 ∧ 0 ≤ b.1 ∧ pRoads k (601 - 0) (min 0 4) b f_read = pRoads k 601 0 b f_read ∧ f_read 0 = f_read 0 from ⟨by omega, hR, by omega, by omega, hpgb, hAb, by omega, (Nat.zero_le _), rfl, rfl⟩) G (lv_sub hl [0, 1, 2] rfl)
    intro xn xw xt xu xo xr xf ga gr nn A9 j hI9 ih_19 H locs ls G hl
    replace hI9 : nn ≤ 4 ∧ zLF gr ∧ i_next.toInt ≤ xn.toInt ∧ xn.toInt ≤ i_size.toInt ∧ zPal f_all ga ∧ zRr k n i_size xn xw xt xu xo xr xf ga A9 ∧ nn = min j 4 ∧ j ≤ A9.1 ∧ pRoads k (601 - j) (min j 4) A9 gr = pRoads k 601 0 b f_read ∧ gr 0 = f_read 0 := hI9
    refine hI9.elim fun hn w90 => w90.elim fun hL w91 => w91.elim fun hx1 w92 => w92.elim fun hx2 w93 => w93.elim fun hpal w94 => w94.elim fun hRA w95 => w95.elim fun hnn w96 => w96.elim fun hpj w97 => w97.elim fun hEq hf0 => ?_
    clear hI9 w90 w91 w92 w93 w94 w95 w96 w97
    replace G : zS T A s.heap s [[(mo, .inr (11, [.ref m_all, .ref m_has, .int i_size, .int xn, .int xw, .int xt, .int xu, .int xo, .int xr, .int xf, .ref m_read, .int i_z0, .int i_crossings, .int i_inns, .ref m_posts, .ref m_shut, .ref m_here, .int i_steps, .int i_done, .int i_at, .int i_gone, .ref m_was, .ref m_came, .ref m_seenAt, .ref m_rowWorth, .ref m_farBy, .ref m_used, .int i_everywhere, .int i_again0, .int i_d0, .int i_never, .int i_firstCame, .int i_longRun, .int i_moved, .int i_crowd, .int i_l0, .int i_fitMany, .int i_fitLeast, .int i_fitMost, .ref m_fitPost, .ref m_fitEnd, .ref m_keptPosts, .int i_x0]))], [(m_all, .inl (T.2 0, 3952, .inl ga))], [(m_read, .inl (T.2 0, 121, .inl gr))]] _ _ := G
    replace hl : lv_has ls 4 [(2, .int (nI nn)), (0, .ref mo), (1, .int at_)] := hl
    refine lv_aload_n hx hb dX12_crossTold_19 rfl (lv_at hl 1 rfl) ?_
    have hL0 : 0 ≤ (gr 0).toInt ∧ (gr 0).toInt ≤ 7 := hL.1
    have hokA := zRr_ok hRA
    refine (id hRA).elim fun hA1A w90 => w90.elim fun hA6A w91 => w91.elim fun hA7A w92 => w92.elim fun hA8A w93 => w93.elim fun hA9A hA10A => ?_
    clear w90 w91 w92 w93
    replace hA7A : zHd _ := hA7A
    have hkaA : zHd _ := hokA A9.1 hA1A.2.2.2.2
    have hkbA := hkaA.1
    have hkcA := hkaA.2.1
    have hT4A := pTk_le hokA hA1A.2.2.2.2
    have hnn6 := hA1A.2.2.1
    have hpn9 := hA1A.2.2.2.2
    refine z_get C G clX12 0 rfl 8 (by decide) m_fl_RX12_104 rfl dX12_crossTold_20 ?_
    refine lv_if_ne (tgt := 104) hx hb dX12_crossTold_23 (by decide) (fun c_1 => ?_) (fun c_1 => ?_)
    · have c_1n : ¬ xr.toInt = (0 : Int) := fun q => c_1 ((fa_eq _ _).mpr q)
      have hpc := pCross_e (w := at_) hbq (hEq.symm.trans (pRoads_x (fun z9 => by first | (exact absurd z9.1 (by rw [← hA6A]; omega)) | omega)))
      have hf0i : (gr 0).toInt = (f_read 0).toInt := by rw [hf0]
      refine lv_aload_n hx hb dX12_crossTold_104 rfl (lv_at hl 1 rfl) ?_
      refine z_get C G clX12 0 rfl 10 (by decide) m_fl_RX12_17 rfl dX12_crossTold_105 ?_
      refine lv_iconst (v := 0) hx hb dX12_crossTold_108 (by decide) ?_
      refine z_ild C G 2 rfl (vp_in_nI (n := 0) (by decide) (by decide)) dX12_crossTold_109 ?_
      refine lv_topi (fun v_2 ev_2 => ?_)
      rw [show ((0 : Int32).toNatClampNeg) = 0 from rfl] at ev_2
      subst ev_2
      refine lv_bipush (v := 7) hx hb dX12_crossTold_110 (by decide) ?_
      refine lv_icmp_lt (tgt := 116) hx hb dX12_crossTold_112 (by decide) (fun c_3 => ?_) (fun c_3 => ?_)
      · have c_3n : (gr 0).toInt < (7 : Int) := (fa_lt _ _).mp c_3
        refine lv_aload_n hx hb dX12_crossTold_116 rfl (lv_at hl 1 rfl) ?_
        refine z_get C G clX12 0 rfl 10 (by decide) m_fl_RX12_17 rfl dX12_crossTold_117 ?_
        refine lv_iconst (v := 2) hx hb dX12_crossTold_120 (by decide) ?_
        refine lv_aload_n hx hb dX12_crossTold_121 rfl (lv_at hl 1 rfl) ?_
        refine z_get C G clX12 0 rfl 10 (by decide) m_fl_RX12_17 rfl dX12_crossTold_122 ?_
        refine lv_iconst (v := 0) hx hb dX12_crossTold_125 (by decide) ?_
        refine z_ild C G 2 rfl (vp_in_nI (n := 0) (by decide) (by decide)) dX12_crossTold_126 ?_
        refine lv_topi (fun v_4 ev_4 => ?_)
        rw [show ((0 : Int32).toNatClampNeg) = 0 from rfl] at ev_4
        subst ev_4
        refine lv_iadd hx hb dX12_crossTold_127 ?_
        refine lv_topi (fun y_5 ey_5 => ?_)
        have ey_5i : y_5.toInt = (2 : Int) + (gr 0).toInt := by rw [ey_5]; exact z_iaddI (x := (2 : Int32)) (y := (gr 0)) (by show -2147483648 ≤ (2 : Int) + (gr 0).toInt; omega) (by show (2 : Int) + (gr 0).toInt < 2147483648; omega)
        refine lv_iload_n hx hb dX12_crossTold_128 rfl (lv_at hl 0 rfl) ?_
        refine z_ist C G 2 rfl (vp_in_iff.mpr ⟨by omega, by omega⟩) dX12_crossTold_129 (fun H locs G => ?_)
        have G : zS T A s.heap s [[(mo, .inr (11, [.ref m_all, .ref m_has, .int i_size, .int xn, .int xw, .int xt, .int xu, .int xo, .int xr, .int xf, .ref m_read, .int i_z0, .int i_crossings, .int i_inns, .ref m_posts, .ref m_shut, .ref m_here, .int i_steps, .int i_done, .int i_at, .int i_gone, .ref m_was, .ref m_came, .ref m_seenAt, .ref m_rowWorth, .ref m_farBy, .ref m_used, .int i_everywhere, .int i_again0, .int i_d0, .int i_never, .int i_firstCame, .int i_longRun, .int i_moved, .int i_crowd, .int i_l0, .int i_fitMany, .int i_fitLeast, .int i_fitMost, .ref m_fitPost, .ref m_fitEnd, .ref m_keptPosts, .int i_x0]))], [(m_all, .inl (T.2 0, 3952, .inl ga))], [(m_read, .inl (T.2 0, 121, .inl (upd gr y_5.toNatClampNeg (nI nn))))]] _ _ := G
        refine lv_aload_n hx hb dX12_crossTold_130 rfl (lv_at hl 1 rfl) ?_
        refine z_get C G clX12 0 rfl 10 (by decide) m_fl_RX12_17 rfl dX12_crossTold_131 ?_
        refine lv_iconst (v := 0) hx hb dX12_crossTold_134 (by decide) ?_
        refine lv_dup2_11 hx hb dX12_crossTold_135 rfl rfl ?_
        refine z_ild C G 2 rfl (vp_in_nI (n := 0) (by decide) (by decide)) dX12_crossTold_136 ?_
        refine lv_topi (fun v_6 ev_6 => ?_)
        rw [show ((0 : Int32).toNatClampNeg) = 0 from rfl] at ev_6
        subst ev_6
        have hcl_y_5 := z_clI (x := y_5) (by omega)
        rw [show (upd gr y_5.toNatClampNeg (nI nn)) 0 = gr 0 from by unfold upd; rw [if_neg (by omega)]]
        refine lv_iconst (v := 1) hx hb dX12_crossTold_137 (by decide) ?_
        refine lv_iadd hx hb dX12_crossTold_138 ?_
        refine lv_topi (fun y_7 ey_7 => ?_)
        have ey_7i : y_7.toInt = (gr 0).toInt + (1 : Int) := by rw [ey_7]; exact z_iaddI (x := (gr 0)) (y := (1 : Int32)) (by show -2147483648 ≤ (gr 0).toInt + (1 : Int); omega) (by show (gr 0).toInt + (1 : Int) < 2147483648; omega)
        refine z_ist C G 2 rfl (vp_in_nI (n := 0) (by decide) (by decide)) dX12_crossTold_139 (fun H locs G => ?_)
        have G : zS T A s.heap s [[(mo, .inr (11, [.ref m_all, .ref m_has, .int i_size, .int xn, .int xw, .int xt, .int xu, .int xo, .int xr, .int xf, .ref m_read, .int i_z0, .int i_crossings, .int i_inns, .ref m_posts, .ref m_shut, .ref m_here, .int i_steps, .int i_done, .int i_at, .int i_gone, .ref m_was, .ref m_came, .ref m_seenAt, .ref m_rowWorth, .ref m_farBy, .ref m_used, .int i_everywhere, .int i_again0, .int i_d0, .int i_never, .int i_firstCame, .int i_longRun, .int i_moved, .int i_crowd, .int i_l0, .int i_fitMany, .int i_fitLeast, .int i_fitMost, .ref m_fitPost, .ref m_fitEnd, .ref m_keptPosts, .int i_x0]))], [(m_all, .inl (T.2 0, 3952, .inl ga))], [(m_read, .inl (T.2 0, 121, .inl (upd (upd gr y_5.toNatClampNeg (nI nn)) 0 y_7)))]] _ _ := G
        exact z_vret C hr hlocks G (Nat.le_of_ble_eq_true rfl) (Nat.le_of_ble_eq_true rfl) dX12_crossTold_140 ⟨xn, xw, xt, xu, xo, xr, xf, ga, (upd (upd gr y_5.toNatClampNeg (nI nn)) 0 y_7), rfl, (by first | with_reducible assumption | omega | trivial | assumption), (by first | with_reducible assumption | omega | trivial | assumption), (by first | with_reducible assumption | omega | trivial | assumption), hpal, (zLF_upd (k := 0) (v := y_7) (zLF_upd (k := y_5.toNatClampNeg) (v := (nI nn)) (by assumption) (by have q9 := z_clI (x := y_5) (by omega); have t9 := nI_toInt (n := nn) (by omega); omega) (by have q9 := z_clI (x := y_5) (by omega); have t9 := nI_toInt (n := nn) (by omega); omega) (by have q9 := z_clI (x := y_5) (by omega); have t9 := nI_toInt (n := nn) (by omega); omega) (by have q9 := z_clI (x := y_5) (by omega); have t9 := nI_toInt (n := nn) (by omega); omega) (by have q9 := z_clI (x := y_5) (by omega); have t9 := nI_toInt (n := nn) (by omega); omega)) (by omega) (by omega) (by omega) (by omega) (by omega)), (by rw [hpc]; exact hRA), (by rw [hpc]; show _ = (if 7 ≤ (f_read 0).toInt then gr else upd (upd gr (2 + (gr 0).toInt.toNat) (nI (min j 4))) 0 (gr 0 + 1)); rw [if_neg (by omega), ← hnn, ey_7]; exact congrArg (fun q9 => upd (upd gr q9 (nI nn)) 0 (gr 0 + 1)) (by have q9 := z_clI (x := y_5) (by omega); omega))⟩
      · have c_3n : ¬ (gr 0).toInt < (7 : Int) := fun q => c_3 ((fa_lt _ _).mpr q)
        exact z_vret C hr hlocks G (Nat.le_of_ble_eq_true rfl) (Nat.le_of_ble_eq_true rfl) dX12_crossTold_115 ⟨xn, xw, xt, xu, xo, xr, xf, ga, gr, rfl, (by first | with_reducible assumption | omega | trivial | assumption), (by first | with_reducible assumption | omega | trivial | assumption), (by first | with_reducible assumption | omega | trivial | assumption), hpal, (by first | with_reducible assumption | omega | trivial | assumption), (by rw [hpc]; exact hRA), (by rw [hpc]; exact (if_pos (by omega)).symm)⟩
    · have c_1n : xr.toInt = (0 : Int) := (fa_eq _ _).mp c_1
      have hwA : A9.2.1.toInt = 0 := by rw [← hA6A]; omega
      refine (hA7A hwA).elim fun t1A w90 => w90.elim fun t2A w91 => w91.elim fun t3A w92 => w92.elim fun t4A t5A => ?_
      clear w90 w91 w92
      replace t4A : zHd _ := t4A
      replace t5A : zHd _ := t5A
      have t3iA : xt.toInt = (pTk k A9.1 : Int) := by rw [t3A]; exact nI_toInt (by omega)
      refine lv_aload_n hx hb dX12_crossTold_26 rfl (lv_at hl 1 rfl) ?_
      refine z_get C G clX12 0 rfl 5 (by decide) m_fl_RX12_80 rfl dX12_crossTold_27 ?_
      refine lv_iconst (v := 1) hx hb dX12_crossTold_30 (by decide) ?_
      refine lv_icmp_ne (tgt := 104) hx hb dX12_crossTold_31 (by decide) (fun c_8 => ?_) (fun c_8 => ?_)
      · have c_8n : ¬ xt.toInt = (1 : Int) := fun q => c_8 ((fa_eq _ _).mpr q)
        have hpc := pCross_e (w := at_) hbq (hEq.symm.trans (pRoads_x (fun z9 => by first | (exact absurd z9.1 (by rw [← hA6A]; omega)) | omega)))
        have hf0i : (gr 0).toInt = (f_read 0).toInt := by rw [hf0]
        refine lv_aload_n hx hb dX12_crossTold_104 rfl (lv_at hl 1 rfl) ?_
        refine z_get C G clX12 0 rfl 10 (by decide) m_fl_RX12_17 rfl dX12_crossTold_105 ?_
        refine lv_iconst (v := 0) hx hb dX12_crossTold_108 (by decide) ?_
        refine z_ild C G 2 rfl (vp_in_nI (n := 0) (by decide) (by decide)) dX12_crossTold_109 ?_
        refine lv_topi (fun v_9 ev_9 => ?_)
        rw [show ((0 : Int32).toNatClampNeg) = 0 from rfl] at ev_9
        subst ev_9
        refine lv_bipush (v := 7) hx hb dX12_crossTold_110 (by decide) ?_
        refine lv_icmp_lt (tgt := 116) hx hb dX12_crossTold_112 (by decide) (fun c_10 => ?_) (fun c_10 => ?_)
        · have c_10n : (gr 0).toInt < (7 : Int) := (fa_lt _ _).mp c_10
          refine lv_aload_n hx hb dX12_crossTold_116 rfl (lv_at hl 1 rfl) ?_
          refine z_get C G clX12 0 rfl 10 (by decide) m_fl_RX12_17 rfl dX12_crossTold_117 ?_
          refine lv_iconst (v := 2) hx hb dX12_crossTold_120 (by decide) ?_
          refine lv_aload_n hx hb dX12_crossTold_121 rfl (lv_at hl 1 rfl) ?_
          refine z_get C G clX12 0 rfl 10 (by decide) m_fl_RX12_17 rfl dX12_crossTold_122 ?_
          refine lv_iconst (v := 0) hx hb dX12_crossTold_125 (by decide) ?_
          refine z_ild C G 2 rfl (vp_in_nI (n := 0) (by decide) (by decide)) dX12_crossTold_126 ?_
          refine lv_topi (fun v_11 ev_11 => ?_)
          rw [show ((0 : Int32).toNatClampNeg) = 0 from rfl] at ev_11
          subst ev_11
          refine lv_iadd hx hb dX12_crossTold_127 ?_
          refine lv_topi (fun y_12 ey_12 => ?_)
          have ey_12i : y_12.toInt = (2 : Int) + (gr 0).toInt := by rw [ey_12]; exact z_iaddI (x := (2 : Int32)) (y := (gr 0)) (by show -2147483648 ≤ (2 : Int) + (gr 0).toInt; omega) (by show (2 : Int) + (gr 0).toInt < 2147483648; omega)
          refine lv_iload_n hx hb dX12_crossTold_128 rfl (lv_at hl 0 rfl) ?_
          refine z_ist C G 2 rfl (vp_in_iff.mpr ⟨by omega, by omega⟩) dX12_crossTold_129 (fun H locs G => ?_)
          have G : zS T A s.heap s [[(mo, .inr (11, [.ref m_all, .ref m_has, .int i_size, .int xn, .int xw, .int xt, .int xu, .int xo, .int xr, .int xf, .ref m_read, .int i_z0, .int i_crossings, .int i_inns, .ref m_posts, .ref m_shut, .ref m_here, .int i_steps, .int i_done, .int i_at, .int i_gone, .ref m_was, .ref m_came, .ref m_seenAt, .ref m_rowWorth, .ref m_farBy, .ref m_used, .int i_everywhere, .int i_again0, .int i_d0, .int i_never, .int i_firstCame, .int i_longRun, .int i_moved, .int i_crowd, .int i_l0, .int i_fitMany, .int i_fitLeast, .int i_fitMost, .ref m_fitPost, .ref m_fitEnd, .ref m_keptPosts, .int i_x0]))], [(m_all, .inl (T.2 0, 3952, .inl ga))], [(m_read, .inl (T.2 0, 121, .inl (upd gr y_12.toNatClampNeg (nI nn))))]] _ _ := G
          refine lv_aload_n hx hb dX12_crossTold_130 rfl (lv_at hl 1 rfl) ?_
          refine z_get C G clX12 0 rfl 10 (by decide) m_fl_RX12_17 rfl dX12_crossTold_131 ?_
          refine lv_iconst (v := 0) hx hb dX12_crossTold_134 (by decide) ?_
          refine lv_dup2_11 hx hb dX12_crossTold_135 rfl rfl ?_
          refine z_ild C G 2 rfl (vp_in_nI (n := 0) (by decide) (by decide)) dX12_crossTold_136 ?_
          refine lv_topi (fun v_13 ev_13 => ?_)
          rw [show ((0 : Int32).toNatClampNeg) = 0 from rfl] at ev_13
          subst ev_13
          have hcl_y_12 := z_clI (x := y_12) (by omega)
          rw [show (upd gr y_12.toNatClampNeg (nI nn)) 0 = gr 0 from by unfold upd; rw [if_neg (by omega)]]
          refine lv_iconst (v := 1) hx hb dX12_crossTold_137 (by decide) ?_
          refine lv_iadd hx hb dX12_crossTold_138 ?_
          refine lv_topi (fun y_14 ey_14 => ?_)
          have ey_14i : y_14.toInt = (gr 0).toInt + (1 : Int) := by rw [ey_14]; exact z_iaddI (x := (gr 0)) (y := (1 : Int32)) (by show -2147483648 ≤ (gr 0).toInt + (1 : Int); omega) (by show (gr 0).toInt + (1 : Int) < 2147483648; omega)
          refine z_ist C G 2 rfl (vp_in_nI (n := 0) (by decide) (by decide)) dX12_crossTold_139 (fun H locs G => ?_)
          have G : zS T A s.heap s [[(mo, .inr (11, [.ref m_all, .ref m_has, .int i_size, .int xn, .int xw, .int xt, .int xu, .int xo, .int xr, .int xf, .ref m_read, .int i_z0, .int i_crossings, .int i_inns, .ref m_posts, .ref m_shut, .ref m_here, .int i_steps, .int i_done, .int i_at, .int i_gone, .ref m_was, .ref m_came, .ref m_seenAt, .ref m_rowWorth, .ref m_farBy, .ref m_used, .int i_everywhere, .int i_again0, .int i_d0, .int i_never, .int i_firstCame, .int i_longRun, .int i_moved, .int i_crowd, .int i_l0, .int i_fitMany, .int i_fitLeast, .int i_fitMost, .ref m_fitPost, .ref m_fitEnd, .ref m_keptPosts, .int i_x0]))], [(m_all, .inl (T.2 0, 3952, .inl ga))], [(m_read, .inl (T.2 0, 121, .inl (upd (upd gr y_12.toNatClampNeg (nI nn)) 0 y_14)))]] _ _ := G
          exact z_vret C hr hlocks G (Nat.le_of_ble_eq_true rfl) (Nat.le_of_ble_eq_true rfl) dX12_crossTold_140 ⟨xn, xw, xt, xu, xo, xr, xf, ga, (upd (upd gr y_12.toNatClampNeg (nI nn)) 0 y_14), rfl, (by first | with_reducible assumption | omega | trivial | assumption), (by first | with_reducible assumption | omega | trivial | assumption), (by first | with_reducible assumption | omega | trivial | assumption), hpal, (zLF_upd (k := 0) (v := y_14) (zLF_upd (k := y_12.toNatClampNeg) (v := (nI nn)) (by assumption) (by have q9 := z_clI (x := y_12) (by omega); have t9 := nI_toInt (n := nn) (by omega); omega) (by have q9 := z_clI (x := y_12) (by omega); have t9 := nI_toInt (n := nn) (by omega); omega) (by have q9 := z_clI (x := y_12) (by omega); have t9 := nI_toInt (n := nn) (by omega); omega) (by have q9 := z_clI (x := y_12) (by omega); have t9 := nI_toInt (n := nn) (by omega); omega) (by have q9 := z_clI (x := y_12) (by omega); have t9 := nI_toInt (n := nn) (by omega); omega)) (by omega) (by omega) (by omega) (by omega) (by omega)), (by rw [hpc]; exact hRA), (by rw [hpc]; show _ = (if 7 ≤ (f_read 0).toInt then gr else upd (upd gr (2 + (gr 0).toInt.toNat) (nI (min j 4))) 0 (gr 0 + 1)); rw [if_neg (by omega), ← hnn, ey_14]; exact congrArg (fun q9 => upd (upd gr q9 (nI nn)) 0 (gr 0 + 1)) (by have q9 := z_clI (x := y_12) (by omega); omega))⟩
        · have c_10n : ¬ (gr 0).toInt < (7 : Int) := fun q => c_10 ((fa_lt _ _).mpr q)
          exact z_vret C hr hlocks G (Nat.le_of_ble_eq_true rfl) (Nat.le_of_ble_eq_true rfl) dX12_crossTold_115 ⟨xn, xw, xt, xu, xo, xr, xf, ga, gr, rfl, (by first | with_reducible assumption | omega | trivial | assumption), (by first | with_reducible assumption | omega | trivial | assumption), (by first | with_reducible assumption | omega | trivial | assumption), hpal, (by first | with_reducible assumption | omega | trivial | assumption), (by rw [hpc]; exact hRA), (by rw [hpc]; exact (if_pos (by omega)).symm)⟩
      · have c_8n : xt.toInt = (1 : Int) := (fa_eq _ _).mp c_8
        have htA : pTk k A9.1 = 1 := by omega
        have hst := pStep (f := gr) (g := f_read) hokA hpn9 hwA htA hpj hf0
        refine zMt1 (T := T) 48 (fun (gc : Nat → Int32) => [[(mo, .inr (11, [.ref m_all, .ref m_has, .int i_size, .int xn, .int xw, .int xt, .int xu, .int xo, .int xr, .int xf, .ref m_read, .int i_z0, .int i_crossings, .int i_inns, .ref m_posts, .ref m_shut, .ref m_here, .int i_steps, .int i_done, .int i_at, .int i_gone, .ref m_was, .ref m_came, .ref m_seenAt, .ref m_rowWorth, .ref m_farBy, .ref m_used, .int i_everywhere, .int i_again0, .int i_d0, .int i_never, .int i_firstCame, .int i_longRun, .int i_moved, .int i_crowd, .int i_l0, .int i_fitMany, .int i_fitLeast, .int i_fitMost, .ref m_fitPost, .ref m_fitEnd, .ref m_keptPosts, .int i_x0]))], [(m_all, .inl (T.2 0, 3952, .inl gc))], [(m_read, .inl (T.2 0, 121, .inl gr))]]) (fun (gc : Nat → Int32) => [(2, .int (nI nn)), (0, .ref mo), (1, .int at_)]) (fun (gc : Nat → Int32) => zRr k n i_size xn xw xt xu xo xr xf gc (pAt k j A9) ∧ zPal f_all gc) G hl ?_ (fun jn_48 => ?_)
        · intro gc hI9 H locs ls G hl
          replace hI9 : zRr k n i_size xn xw xt xu xo xr xf gc (pAt k j A9) ∧ zPal f_all gc := hI9
          refine hI9.elim fun hX hpgc => ?_
          clear hI9
          replace G : zS T A s.heap s [[(mo, .inr (11, [.ref m_all, .ref m_has, .int i_size, .int xn, .int xw, .int xt, .int xu, .int xo, .int xr, .int xf, .ref m_read, .int i_z0, .int i_crossings, .int i_inns, .ref m_posts, .ref m_shut, .ref m_here, .int i_steps, .int i_done, .int i_at, .int i_gone, .ref m_was, .ref m_came, .ref m_seenAt, .ref m_rowWorth, .ref m_farBy, .ref m_used, .int i_everywhere, .int i_again0, .int i_d0, .int i_never, .int i_firstCame, .int i_longRun, .int i_moved, .int i_crowd, .int i_l0, .int i_fitMany, .int i_fitLeast, .int i_fitMost, .ref m_fitPost, .ref m_fitEnd, .ref m_keptPosts, .int i_x0]))], [(m_all, .inl (T.2 0, 3952, .inl gc))], [(m_read, .inl (T.2 0, 121, .inl gr))]] _ _ := G
          replace hl : lv_has ls 4 [(2, .int (nI nn)), (0, .ref mo), (1, .int at_)] := hl
          refine lv_aload_n hx hb dX12_crossTold_48 rfl (lv_at hl 1 rfl) ?_
          refine z_Vi (bc := [[(mo, .inr (11, [.ref m_all, .ref m_has, .int i_size, .int xn, .int xw, .int xt, .int xu, .int xo, .int xr, .int xf, .ref m_read, .int i_z0, .int i_crossings, .int i_inns, .ref m_posts, .ref m_shut, .ref m_here, .int i_steps, .int i_done, .int i_at, .int i_gone, .ref m_was, .ref m_came, .ref m_seenAt, .ref m_rowWorth, .ref m_farBy, .ref m_used, .int i_everywhere, .int i_again0, .int i_d0, .int i_never, .int i_firstCame, .int i_longRun, .int i_moved, .int i_crowd, .int i_l0, .int i_fitMany, .int i_fitLeast, .int i_fitMost, .ref m_fitPost, .ref m_fitEnd, .ref m_keptPosts, .int i_x0]))], [(m_all, .inl (T.2 0, 3952, .inl gc))]]) (br := [[(m_read, .inl (T.2 0, 121, .inl gr))]]) (As := []) (rest := []) C G (c_fm_crossingTold l T mo m_all m_has i_size xn xw xt xu xo xr xf m_read i_z0 i_crossings i_inns m_posts m_shut m_here i_steps i_done i_at i_gone m_was m_came m_seenAt m_rowWorth m_farBy m_used i_everywhere i_again0 i_d0 i_never i_firstCame i_longRun i_moved i_crowd i_l0 i_fitMany i_fitLeast i_fitMost m_fitPost m_fitEnd m_keptPosts i_x0 gc k n (pAt k j A9) (by first | with_reducible assumption | with_reducible rfl | omega | assumption | rfl) (by first | with_reducible assumption | with_reducible rfl | omega | assumption | rfl) (by first | with_reducible assumption | with_reducible rfl | omega | assumption | rfl) hX) (kV_RX12_129 C.2.2.2.2 (Nat.le_of_ble_eq_true rfl) (Nat.le_of_ble_eq_true rfl)) [0, 1] [2] rfl rfl (ci := 11) (qc := (RX12, TX12, 43)) rfl rfl (List.mem_flatten.mpr ⟨_, List.mem_of_getElem? (i := 0) rfl, List.mem_cons_self⟩) rfl rfl hl.1 dX12_crossTold_49 (Nat.le_of_ble_eq_true rfl) (Nat.le_of_ble_eq_true rfl) (fun r_32 b1 H locs hw G => ?_)
          refine hw.elim fun j_next_15 w90 => w90.elim fun j_where_16 w91 => w91.elim fun j_token_17 w92 => w92.elim fun j_number_18 w93 => w93.elim fun j_word_19 w94 => w94.elim fun j_wrong_20 w95 => w95.elim fun j_farCrossing_21 w96 => w96.elim fun g_all_22 w97 => w97.elim fun hbs9 w98 => w98.elim fun h_23 w99 => w99.elim fun h_24 w910 => w910.elim fun h_25 w911 => w911.elim fun h_26 w912 => w912.elim fun h_27 w913 => w913.elim fun h_28 w914 => w914.elim fun h_29 w915 => w915.elim fun h_30 h_31 => ?_
          clear hw w90 w91 w92 w93 w94 w95 w96 w97 w98 w99 w910 w911 w912 w913 w914 w915
          subst hbs9
          have G : zS T A s.heap s [[(m_read, .inl (T.2 0, 121, .inl gr))], [(mo, .inr (11, [.ref m_all, .ref m_has, .int i_size, .int j_next_15, .int j_where_16, .int j_token_17, .int j_number_18, .int j_word_19, .int j_wrong_20, .int j_farCrossing_21, .ref m_read, .int i_z0, .int i_crossings, .int i_inns, .ref m_posts, .ref m_shut, .ref m_here, .int i_steps, .int i_done, .int i_at, .int i_gone, .ref m_was, .ref m_came, .ref m_seenAt, .ref m_rowWorth, .ref m_farBy, .ref m_used, .int i_everywhere, .int i_again0, .int i_d0, .int i_never, .int i_firstCame, .int i_longRun, .int i_moved, .int i_crowd, .int i_l0, .int i_fitMany, .int i_fitLeast, .int i_fitMost, .ref m_fitPost, .ref m_fitEnd, .ref m_keptPosts, .int i_x0]))], [(m_all, .inl (T.2 0, 3952, .inl g_all_22))]] _ _ := G
          refine lv_istore_n (lv' := [(3, .int r_32), (2, .int (nI nn)), (0, .ref mo), (1, .int at_)]) hx hb dX12_crossTold_52 rfl hl (by decide) rfl (fun ls hl => ?_)
          refine zMt1 (T := T) 88 (fun (gx : Nat → Int32) => [[(m_read, .inl (T.2 0, 121, .inl gx))], [(mo, .inr (11, [.ref m_all, .ref m_has, .int i_size, .int j_next_15, .int j_where_16, .int j_token_17, .int j_number_18, .int j_word_19, .int j_wrong_20, .int j_farCrossing_21, .ref m_read, .int i_z0, .int i_crossings, .int i_inns, .ref m_posts, .ref m_shut, .ref m_here, .int i_steps, .int i_done, .int i_at, .int i_gone, .ref m_was, .ref m_came, .ref m_seenAt, .ref m_rowWorth, .ref m_farBy, .ref m_used, .int i_everywhere, .int i_again0, .int i_d0, .int i_never, .int i_firstCame, .int i_longRun, .int i_moved, .int i_crowd, .int i_l0, .int i_fitMany, .int i_fitLeast, .int i_fitMost, .ref m_fitPost, .ref m_fitEnd, .ref m_keptPosts, .int i_x0]))], [(m_all, .inl (T.2 0, 3952, .inl g_all_22))]]) (fun (gx : Nat → Int32) => [(3, .int r_32), (2, .int (nI nn)), (0, .ref mo), (1, .int at_)]) (fun (gx : Nat → Int32) => gx = pRow k j A9 gr ∧ zLF gx) G hl ?_ (fun jn_88 => ?_)
          · intro gx hI9 H locs ls G hl
            replace hI9 : gx = pRow k j A9 gr ∧ zLF gx := hI9
            refine hI9.elim fun hrow hLx => ?_
            clear hI9
            replace G : zS T A s.heap s [[(m_read, .inl (T.2 0, 121, .inl gx))], [(mo, .inr (11, [.ref m_all, .ref m_has, .int i_size, .int j_next_15, .int j_where_16, .int j_token_17, .int j_number_18, .int j_word_19, .int j_wrong_20, .int j_farCrossing_21, .ref m_read, .int i_z0, .int i_crossings, .int i_inns, .ref m_posts, .ref m_shut, .ref m_here, .int i_steps, .int i_done, .int i_at, .int i_gone, .ref m_was, .ref m_came, .ref m_seenAt, .ref m_rowWorth, .ref m_farBy, .ref m_used, .int i_everywhere, .int i_again0, .int i_d0, .int i_never, .int i_firstCame, .int i_longRun, .int i_moved, .int i_crowd, .int i_l0, .int i_fitMany, .int i_fitLeast, .int i_fitMost, .ref m_fitPost, .ref m_fitEnd, .ref m_keptPosts, .int i_x0]))], [(m_all, .inl (T.2 0, 3952, .inl g_all_22))]] _ _ := G
            replace hl : lv_has ls 4 [(3, .int r_32), (2, .int (nI nn)), (0, .ref mo), (1, .int at_)] := hl
            refine lv_iload_n hx hb dX12_crossTold_88 rfl (lv_at hl 1 rfl) ?_
            refine lv_iconst (v := 4) hx hb dX12_crossTold_89 (by decide) ?_
            refine lv_icmp_ge (tgt := 99) hx hb dX12_crossTold_90 (by decide) (fun c_33 => ?_) (fun c_33 => ?_)
            · have c_33n : 4 ≤ nn := (nI_leI (a := 4) (b := nn) (by omega) (by omega)).mp c_33
              refine lv_iconst (v := 4) hx hb dX12_crossTold_99 (by decide) ?_
              refine lv_istore_n (lv' := [(2, .int 4), (3, .int r_32), (0, .ref mo), (1, .int at_)]) hx hb dX12_crossTold_100 rfl hl (by decide) rfl (fun ls hl => ?_)
              refine lv_goto (tgt := 19) hx hb dX12_crossTold_101 (by decide) ?_
              have G := G.sub (bs' := [[(mo, .inr (11, [.ref m_all, .ref m_has, .int i_size, .int j_next_15, .int j_where_16, .int j_token_17, .int j_number_18, .int j_word_19, .int j_wrong_20, .int j_farCrossing_21, .ref m_read, .int i_z0, .int i_crossings, .int i_inns, .ref m_posts, .ref m_shut, .ref m_here, .int i_steps, .int i_done, .int i_at, .int i_gone, .ref m_was, .ref m_came, .ref m_seenAt, .ref m_rowWorth, .ref m_farBy, .ref m_used, .int i_everywhere, .int i_again0, .int i_d0, .int i_never, .int i_firstCame, .int i_longRun, .int i_moved, .int i_crowd, .int i_l0, .int i_fitMany, .int i_fitLeast, .int i_fitMost, .ref m_fitPost, .ref m_fitEnd, .ref m_keptPosts, .int i_x0]))], [(m_all, .inl (T.2 0, 3952, .inl g_all_22))], [(m_read, .inl (T.2 0, 121, .inl gx))]]) [1, 2, 0] rfl
              exact ih_19 j_next_15 j_where_16 j_token_17 j_number_18 j_word_19 j_wrong_20 j_farCrossing_21 g_all_22 gx 4 ((pCr k (pAt k j A9)).2) (j + 1) (show 4 ≤ 4 ∧ zLF gx ∧ i_next.toInt ≤ j_next_15.toInt ∧ j_next_15.toInt ≤ i_size.toInt ∧ zPal f_all g_all_22 ∧ zRr k n i_size j_next_15 j_where_16 j_token_17 j_number_18 j_word_19 j_wrong_20 j_farCrossing_21 g_all_22 ((pCr k (pAt k j A9)).2) ∧ 4 = min (j + 1) 4 ∧ (j + 1) ≤ ((pCr k (pAt k j A9)).2).1 ∧ pRoads k (601 - (j + 1)) (min (j + 1) 4) ((pCr k (pAt k j A9)).2) gx = pRoads k 601 0 b f_read ∧ gx 0 = f_read 0 from ⟨by omega, (by assumption), by omega, by omega, (hpgc.tr h_27), h_30, by omega, hst.2.1, (by rw [hrow]; exact pRoads_n (by omega) hwA htA hEq), (by rw [hrow]; exact hst.2.2)⟩) (show zMu j_wrong_20 j_token_17 j_next_15 i_size < zMu xr xt xn i_size from zMu_lt (by omega) (by omega) (by omega) (by omega)) _ _ ls G (lv_sub hl [0, 2, 3] rfl)
            · have c_33n : ¬ 4 ≤ nn := fun q => c_33 ((nI_leI (a := 4) (b := nn) (by omega) (by omega)).mpr q)
              refine lv_iload_n hx hb dX12_crossTold_93 rfl (lv_at hl 1 rfl) ?_
              refine lv_iconst (v := 1) hx hb dX12_crossTold_94 (by decide) ?_
              refine lv_iadd hx hb dX12_crossTold_95 ?_
              refine lv_topi (fun y_34 ey_34 => ?_)
              obtain rfl : y_34 = nI (nn + 1) := ey_34.trans (z_iaddn nn 1 rfl rfl)
              refine lv_goto (tgt := 100) hx hb dX12_crossTold_96 (by decide) ?_
              refine lv_istore_n (lv' := [(2, .int (nI (nn + 1))), (3, .int r_32), (0, .ref mo), (1, .int at_)]) hx hb dX12_crossTold_100 rfl hl (by decide) rfl (fun ls hl => ?_)
              refine lv_goto (tgt := 19) hx hb dX12_crossTold_101 (by decide) ?_
              have G := G.sub (bs' := [[(mo, .inr (11, [.ref m_all, .ref m_has, .int i_size, .int j_next_15, .int j_where_16, .int j_token_17, .int j_number_18, .int j_word_19, .int j_wrong_20, .int j_farCrossing_21, .ref m_read, .int i_z0, .int i_crossings, .int i_inns, .ref m_posts, .ref m_shut, .ref m_here, .int i_steps, .int i_done, .int i_at, .int i_gone, .ref m_was, .ref m_came, .ref m_seenAt, .ref m_rowWorth, .ref m_farBy, .ref m_used, .int i_everywhere, .int i_again0, .int i_d0, .int i_never, .int i_firstCame, .int i_longRun, .int i_moved, .int i_crowd, .int i_l0, .int i_fitMany, .int i_fitLeast, .int i_fitMost, .ref m_fitPost, .ref m_fitEnd, .ref m_keptPosts, .int i_x0]))], [(m_all, .inl (T.2 0, 3952, .inl g_all_22))], [(m_read, .inl (T.2 0, 121, .inl gx))]]) [1, 2, 0] rfl
              exact ih_19 j_next_15 j_where_16 j_token_17 j_number_18 j_word_19 j_wrong_20 j_farCrossing_21 g_all_22 gx (nn + 1) ((pCr k (pAt k j A9)).2) (j + 1) (show (nn + 1) ≤ 4 ∧ zLF gx ∧ i_next.toInt ≤ j_next_15.toInt ∧ j_next_15.toInt ≤ i_size.toInt ∧ zPal f_all g_all_22 ∧ zRr k n i_size j_next_15 j_where_16 j_token_17 j_number_18 j_word_19 j_wrong_20 j_farCrossing_21 g_all_22 ((pCr k (pAt k j A9)).2) ∧ (nn + 1) = min (j + 1) 4 ∧ (j + 1) ≤ ((pCr k (pAt k j A9)).2).1 ∧ pRoads k (601 - (j + 1)) (min (j + 1) 4) ((pCr k (pAt k j A9)).2) gx = pRoads k 601 0 b f_read ∧ gx 0 = f_read 0 from ⟨by omega, (by assumption), by omega, by omega, (hpgc.tr h_27), h_30, by omega, hst.2.1, (by rw [hrow]; exact pRoads_n (by omega) hwA htA hEq), (by rw [hrow]; exact hst.2.2)⟩) (show zMu j_wrong_20 j_token_17 j_next_15 i_size < zMu xr xt xn i_size from zMu_lt (by omega) (by omega) (by omega) (by omega)) _ _ ls G (lv_sub hl [0, 2, 3] rfl)
          refine lv_aload_n hx hb dX12_crossTold_53 rfl (lv_at hl 2 rfl) ?_
          refine z_get C G clX12 1 rfl 10 (by decide) m_fl_RX12_17 rfl dX12_crossTold_54 ?_
          refine lv_iconst (v := 0) hx hb dX12_crossTold_57 (by decide) ?_
          refine z_ild C G 0 rfl (vp_in_nI (n := 0) (by decide) (by decide)) dX12_crossTold_58 ?_
          refine lv_topi (fun v_35 ev_35 => ?_)
          rw [show ((0 : Int32).toNatClampNeg) = 0 from rfl] at ev_35
          subst ev_35
          refine lv_bipush (v := 7) hx hb dX12_crossTold_59 (by decide) ?_
          refine lv_icmp_ge (tgt := 88) hx hb dX12_crossTold_61 (by decide) (fun c_36 => ?_) (fun c_36 => ?_)
          · have c_36n : (7 : Int) ≤ (gr 0).toInt := (fa_le _ _).mp c_36
            have hrow : gr = pRow k j A9 gr := pRow_n (by omega)
            exact jn_88 gr (show gr = pRow k j A9 gr ∧ zLF gr from ⟨hrow, (by assumption)⟩) _ _ ls G (lv_sub hl [0, 1, 2, 3] rfl)
          · have c_36n : ¬ (7 : Int) ≤ (gr 0).toInt := fun q => c_36 ((fa_le _ _).mpr q)
            refine lv_iload_n hx hb dX12_crossTold_64 rfl (lv_at hl 1 rfl) ?_
            refine lv_iconst (v := 4) hx hb dX12_crossTold_65 (by decide) ?_
            refine lv_icmp_ge (tgt := 88) hx hb dX12_crossTold_66 (by decide) (fun c_37 => ?_) (fun c_37 => ?_)
            · have c_37n : 4 ≤ nn := (nI_leI (a := 4) (b := nn) (by omega) (by omega)).mp c_37
              have hrow : gr = pRow k j A9 gr := pRow_n (by omega)
              exact jn_88 gr (show gr = pRow k j A9 gr ∧ zLF gr from ⟨hrow, (by assumption)⟩) _ _ ls G (lv_sub hl [0, 1, 2, 3] rfl)
            · have c_37n : ¬ 4 ≤ nn := fun q => c_37 ((nI_leI (a := 4) (b := nn) (by omega) (by omega)).mpr q)
              refine lv_aload_n hx hb dX12_crossTold_69 rfl (lv_at hl 2 rfl) ?_
              refine z_get C G clX12 1 rfl 10 (by decide) m_fl_RX12_17 rfl dX12_crossTold_70 ?_
              refine lv_bipush (v := 23) hx hb dX12_crossTold_73 (by decide) ?_
              refine lv_iconst (v := 4) hx hb dX12_crossTold_75 (by decide) ?_
              refine lv_aload_n hx hb dX12_crossTold_76 rfl (lv_at hl 2 rfl) ?_
              refine z_get C G clX12 1 rfl 10 (by decide) m_fl_RX12_17 rfl dX12_crossTold_77 ?_
              refine lv_iconst (v := 0) hx hb dX12_crossTold_80 (by decide) ?_
              refine z_ild C G 0 rfl (vp_in_nI (n := 0) (by decide) (by decide)) dX12_crossTold_81 ?_
              refine lv_topi (fun v_38 ev_38 => ?_)
              rw [show ((0 : Int32).toNatClampNeg) = 0 from rfl] at ev_38
              subst ev_38
              refine lv_imul hx hb dX12_crossTold_82 ?_
              refine lv_topi (fun y_39 ey_39 => ?_)
              have ey_39i : y_39.toInt = (4 : Int) * (gr 0).toInt := by rw [ey_39]; exact z_imulI (x := (4 : Int32)) (y := (gr 0)) (by show -2147483648 ≤ (4 : Int) * (gr 0).toInt; omega) (by show (4 : Int) * (gr 0).toInt < 2147483648; omega)
              refine lv_iadd hx hb dX12_crossTold_83 ?_
              refine lv_topi (fun y_40 ey_40 => ?_)
              have ey_40i : y_40.toInt = (23 : Int) + y_39.toInt := by rw [ey_40]; exact z_iaddI (x := (23 : Int32)) (y := y_39) (by show -2147483648 ≤ (23 : Int) + y_39.toInt; omega) (by show (23 : Int) + y_39.toInt < 2147483648; omega)
              refine lv_iload_n hx hb dX12_crossTold_84 rfl (lv_at hl 1 rfl) ?_
              refine lv_iadd hx hb dX12_crossTold_85 ?_
              refine lv_topi (fun y_41 ey_41 => ?_)
              have ey_41i : y_41.toInt = y_40.toInt + (nn : Int) := by rw [ey_41]; exact (z_iaddI (x := y_40) (y := (nI nn)) (by rw [nI_toInt (n := nn) (by omega)]; show -2147483648 ≤ y_40.toInt + (nn : Int); omega) (by rw [nI_toInt (n := nn) (by omega)]; show y_40.toInt + (nn : Int) < 2147483648; omega)).trans (by rw [nI_toInt (n := nn) (by omega)] <;> rfl)
              refine lv_iload_n hx hb dX12_crossTold_86 rfl (lv_at hl 0 rfl) ?_
              refine z_ist C G 0 rfl (vp_in_iff.mpr ⟨by omega, by omega⟩) dX12_crossTold_87 (fun H locs G => ?_)
              have G : zS T A s.heap s [[(m_read, .inl (T.2 0, 121, .inl (upd gr y_41.toNatClampNeg r_32)))], [(mo, .inr (11, [.ref m_all, .ref m_has, .int i_size, .int j_next_15, .int j_where_16, .int j_token_17, .int j_number_18, .int j_word_19, .int j_wrong_20, .int j_farCrossing_21, .ref m_read, .int i_z0, .int i_crossings, .int i_inns, .ref m_posts, .ref m_shut, .ref m_here, .int i_steps, .int i_done, .int i_at, .int i_gone, .ref m_was, .ref m_came, .ref m_seenAt, .ref m_rowWorth, .ref m_farBy, .ref m_used, .int i_everywhere, .int i_again0, .int i_d0, .int i_never, .int i_firstCame, .int i_longRun, .int i_moved, .int i_crowd, .int i_l0, .int i_fitMany, .int i_fitLeast, .int i_fitMost, .ref m_fitPost, .ref m_fitEnd, .ref m_keptPosts, .int i_x0]))], [(m_all, .inl (T.2 0, 3952, .inl g_all_22))]] _ _ := G
              have hcl9 := z_clI (x := y_41) (by omega)
              have hrow : upd gr y_41.toNatClampNeg r_32 = pRow k j A9 gr := pRow_y (by omega) (by omega) (by omega) h_31
              exact jn_88 (upd gr y_41.toNatClampNeg r_32) (show (upd gr y_41.toNatClampNeg r_32) = pRow k j A9 gr ∧ zLF (upd gr y_41.toNatClampNeg r_32) from ⟨hrow, (zLF_upd (k := y_41.toNatClampNeg) (v := r_32) (by assumption) (by have q9 := z_clI (x := y_41) (by omega); omega) (by have q9 := z_clI (x := y_41) (by omega); omega) (by have q9 := z_clI (x := y_41) (by omega); omega) (by have q9 := z_clI (x := y_41) (by omega); omega) (by have q9 := z_clI (x := y_41) (by omega); omega))⟩) _ _ ls G (lv_sub hl [0, 1, 2, 3] rfl)
        refine lv_iload_n hx hb dX12_crossTold_34 rfl (lv_at hl 0 rfl) ?_
        refine lv_iconst (v := 4) hx hb dX12_crossTold_35 (by decide) ?_
        refine lv_icmp_ne (tgt := 48) hx hb dX12_crossTold_36 (by decide) (fun c_42 => ?_) (fun c_42 => ?_)
        · have c_42n : ¬ nn = 4 := fun q => c_42 ((nI_eq (a := nn) (b := 4) (by omega) (by omega)).mpr q)
          have hX : zRr k n i_size xn xw xt xu xo xr xf ga (pAt k j A9) := by rw [pAt_n (by omega)]; exact hRA
          exact jn_48 ga (show zRr k n i_size xn xw xt xu xo xr xf ga (pAt k j A9) ∧ zPal f_all ga from ⟨hX, hpal⟩) _ _ ls G (lv_sub hl [0, 1, 2] rfl)
        · have c_42n : nn = 4 := (nI_eq (a := nn) (b := 4) (by omega) (by omega)).mp c_42
          refine lv_aload_n hx hb dX12_crossTold_39 rfl (lv_at hl 1 rfl) ?_
          refine lv_iconst (v := 3) hx hb dX12_crossTold_40 (by decide) ?_
          refine lv_aload_n hx hb dX12_crossTold_41 rfl (lv_at hl 1 rfl) ?_
          refine z_get C G clX12 0 rfl 4 (by decide) m_fl_RX12_77 rfl dX12_crossTold_42 ?_
          refine z_Vv (bc := [[(mo, .inr (11, [.ref m_all, .ref m_has, .int i_size, .int xn, .int xw, .int xt, .int xu, .int xo, .int xr, .int xf, .ref m_read, .int i_z0, .int i_crossings, .int i_inns, .ref m_posts, .ref m_shut, .ref m_here, .int i_steps, .int i_done, .int i_at, .int i_gone, .ref m_was, .ref m_came, .ref m_seenAt, .ref m_rowWorth, .ref m_farBy, .ref m_used, .int i_everywhere, .int i_again0, .int i_d0, .int i_never, .int i_firstCame, .int i_longRun, .int i_moved, .int i_crowd, .int i_l0, .int i_fitMany, .int i_fitLeast, .int i_fitMost, .ref m_fitPost, .ref m_fitEnd, .ref m_keptPosts, .int i_x0]))], [(m_all, .inl (T.2 0, 3952, .inl ga))]]) (br := [[(m_read, .inl (T.2 0, 121, .inl gr))]]) (As := [.int 3, .int xw]) (rest := []) C G (c_fm_also l T mo m_all m_has i_size xn xw xt xu xo xr xf m_read i_z0 i_crossings i_inns m_posts m_shut m_here i_steps i_done i_at i_gone m_was m_came m_seenAt m_rowWorth m_farBy m_used i_everywhere i_again0 i_d0 i_never i_firstCame i_longRun i_moved i_crowd i_l0 i_fitMany i_fitLeast i_fitMost m_fitPost m_fitEnd m_keptPosts i_x0 ga 3 xw) (kV_RX12_115 C.2.2.2.2 (Nat.le_of_ble_eq_true rfl) (Nat.le_of_ble_eq_true rfl)) [0, 1] [2] rfl rfl (ci := 11) (qc := (RX12, TX12, 43)) rfl rfl (List.mem_flatten.mpr ⟨_, List.mem_of_getElem? (i := 0) rfl, List.mem_cons_self⟩) rfl rfl hl.1 dX12_crossTold_45 (Nat.le_of_ble_eq_true rfl) (Nat.le_of_ble_eq_true rfl) (fun b1 H locs hw G => ?_)
          refine hw.elim fun g_all_43 w90 => w90.elim fun hbs9 w91 => w91.elim fun h_44 h_45 => ?_
          clear hw w90 w91
          subst hbs9
          have G : zS T A s.heap s [[(m_read, .inl (T.2 0, 121, .inl gr))], [(mo, .inr (11, [.ref m_all, .ref m_has, .int i_size, .int xn, .int xw, .int xt, .int xu, .int xo, .int xr, .int xf, .ref m_read, .int i_z0, .int i_crossings, .int i_inns, .ref m_posts, .ref m_shut, .ref m_here, .int i_steps, .int i_done, .int i_at, .int i_gone, .ref m_was, .ref m_came, .ref m_seenAt, .ref m_rowWorth, .ref m_farBy, .ref m_used, .int i_everywhere, .int i_again0, .int i_d0, .int i_never, .int i_firstCame, .int i_longRun, .int i_moved, .int i_crowd, .int i_l0, .int i_fitMany, .int i_fitLeast, .int i_fitMost, .ref m_fitPost, .ref m_fitEnd, .ref m_keptPosts, .int i_x0]))], [(m_all, .inl (T.2 0, 3952, .inl g_all_43))]] _ _ := G
          have h_45 : g_all_43 = (if ¬ xr.toInt = 0 ∨ (¬ (ga 5).toInt = 0 ∧ ((ga 6).toInt < xw.toInt ∨ ((ga 6).toInt = xw.toInt ∧ (ga 5).toInt ≤ (3 : Int)))) then ga else upd (upd ga 5 3) 6 xw) := h_45
          have hX : zRr k n i_size xn xw xt xu xo xr xf g_all_43 (pAt k j A9) := by rw [pAt_y (by omega), ← t2A]; exact zRr_also (kd := 3) (w := xw) hRA h_45
          have G := G.sub (bs' := [[(mo, .inr (11, [.ref m_all, .ref m_has, .int i_size, .int xn, .int xw, .int xt, .int xu, .int xo, .int xr, .int xf, .ref m_read, .int i_z0, .int i_crossings, .int i_inns, .ref m_posts, .ref m_shut, .ref m_here, .int i_steps, .int i_done, .int i_at, .int i_gone, .ref m_was, .ref m_came, .ref m_seenAt, .ref m_rowWorth, .ref m_farBy, .ref m_used, .int i_everywhere, .int i_again0, .int i_d0, .int i_never, .int i_firstCame, .int i_longRun, .int i_moved, .int i_crowd, .int i_l0, .int i_fitMany, .int i_fitLeast, .int i_fitMost, .ref m_fitPost, .ref m_fitEnd, .ref m_keptPosts, .int i_x0]))], [(m_all, .inl (T.2 0, 3952, .inl g_all_43))], [(m_read, .inl (T.2 0, 121, .inl gr))]]) [1, 2, 0] rfl
          exact jn_48 g_all_43 (show zRr k n i_size xn xw xt xu xo xr xf g_all_43 (pAt k j A9) ∧ zPal f_all g_all_43 from ⟨hX, (hpal.tr h_44)⟩) _ _ ls G (lv_sub hl [0, 1, 2] rfl)
  refine lv_aload_n hx hb dX12_crossTold_0 rfl (lv_at hl 0 rfl) ?_
  refine z_get C G clX12 0 rfl 10 (by decide) m_fl_RX12_17 rfl dX12_crossTold_1 ?_
  refine lv_iconst (v := 0) hx hb dX12_crossTold_4 (by decide) ?_
  refine z_ild C G 2 rfl (vp_in_nI (n := 0) (by decide) (by decide)) dX12_crossTold_5 ?_
  refine lv_topi (fun v_47 ev_47 => ?_)
  rw [show ((0 : Int32).toNatClampNeg) = 0 from rfl] at ev_47
  subst ev_47
  refine lv_bipush (v := 7) hx hb dX12_crossTold_6 (by decide) ?_
  refine lv_icmp_lt (tgt := 17) hx hb dX12_crossTold_8 (by decide) (fun c_48 => ?_) (fun c_48 => ?_)
  · have c_48n : (f_read 0).toInt < (7 : Int) := (fa_lt _ _).mp c_48
    obtain ⟨b, hbq⟩ : ∃ b, b = pDB 7 at_ f_read a := ⟨_, rfl⟩
    have hAb : zRr k n i_size i_next i_where i_token i_number i_word i_wrong i_farCrossing f_all b := by rw [hbq]; unfold pDB; rw [if_neg (by omega)]; exact hA
    exact jn_17 f_all b (show b = pDB 7 at_ f_read a ∧ zRr k n i_size i_next i_where i_token i_number i_word i_wrong i_farCrossing f_all b ∧ zPal f_all f_all from ⟨hbq, hAb, (zPal_rf _)⟩) _ _ ls G (lv_sub hl [0, 1] rfl)
  · have c_48n : ¬ (f_read 0).toInt < (7 : Int) := fun q => c_48 ((fa_lt _ _).mpr q)
    refine lv_aload_n hx hb dX12_crossTold_11 rfl (lv_at hl 0 rfl) ?_
    refine lv_iconst (v := 3) hx hb dX12_crossTold_12 (by decide) ?_
    refine lv_iload_n hx hb dX12_crossTold_13 rfl (lv_at hl 1 rfl) ?_
    refine z_Vv (bc := [[(mo, .inr (11, [.ref m_all, .ref m_has, .int i_size, .int i_next, .int i_where, .int i_token, .int i_number, .int i_word, .int i_wrong, .int i_farCrossing, .ref m_read, .int i_z0, .int i_crossings, .int i_inns, .ref m_posts, .ref m_shut, .ref m_here, .int i_steps, .int i_done, .int i_at, .int i_gone, .ref m_was, .ref m_came, .ref m_seenAt, .ref m_rowWorth, .ref m_farBy, .ref m_used, .int i_everywhere, .int i_again0, .int i_d0, .int i_never, .int i_firstCame, .int i_longRun, .int i_moved, .int i_crowd, .int i_l0, .int i_fitMany, .int i_fitLeast, .int i_fitMost, .ref m_fitPost, .ref m_fitEnd, .ref m_keptPosts, .int i_x0]))], [(m_all, .inl (T.2 0, 3952, .inl f_all))]]) (br := [[(m_read, .inl (T.2 0, 121, .inl f_read))]]) (As := [.int 3, .int at_]) (rest := []) C G (c_fm_also l T mo m_all m_has i_size i_next i_where i_token i_number i_word i_wrong i_farCrossing m_read i_z0 i_crossings i_inns m_posts m_shut m_here i_steps i_done i_at i_gone m_was m_came m_seenAt m_rowWorth m_farBy m_used i_everywhere i_again0 i_d0 i_never i_firstCame i_longRun i_moved i_crowd i_l0 i_fitMany i_fitLeast i_fitMost m_fitPost m_fitEnd m_keptPosts i_x0 f_all 3 at_) (kV_RX12_115 C.2.2.2.2 (Nat.le_of_ble_eq_true rfl) (Nat.le_of_ble_eq_true rfl)) [0, 1] [2] rfl rfl (ci := 11) (qc := (RX12, TX12, 43)) rfl rfl (List.mem_flatten.mpr ⟨_, List.mem_of_getElem? (i := 0) rfl, List.mem_cons_self⟩) rfl rfl hl.1 dX12_crossTold_14 (Nat.le_of_ble_eq_true rfl) (Nat.le_of_ble_eq_true rfl) (fun b1 H locs hw G => ?_)
    refine hw.elim fun g_all_49 w90 => w90.elim fun hbs9 w91 => w91.elim fun h_50 h_51 => ?_
    clear hw w90 w91
    subst hbs9
    have G : zS T A s.heap s [[(m_read, .inl (T.2 0, 121, .inl f_read))], [(mo, .inr (11, [.ref m_all, .ref m_has, .int i_size, .int i_next, .int i_where, .int i_token, .int i_number, .int i_word, .int i_wrong, .int i_farCrossing, .ref m_read, .int i_z0, .int i_crossings, .int i_inns, .ref m_posts, .ref m_shut, .ref m_here, .int i_steps, .int i_done, .int i_at, .int i_gone, .ref m_was, .ref m_came, .ref m_seenAt, .ref m_rowWorth, .ref m_farBy, .ref m_used, .int i_everywhere, .int i_again0, .int i_d0, .int i_never, .int i_firstCame, .int i_longRun, .int i_moved, .int i_crowd, .int i_l0, .int i_fitMany, .int i_fitLeast, .int i_fitMost, .ref m_fitPost, .ref m_fitEnd, .ref m_keptPosts, .int i_x0]))], [(m_all, .inl (T.2 0, 3952, .inl g_all_49))]] _ _ := G
    have h_51 : g_all_49 = (if ¬ i_wrong.toInt = 0 ∨ (¬ (f_all 5).toInt = 0 ∧ ((f_all 6).toInt < at_.toInt ∨ ((f_all 6).toInt = at_.toInt ∧ (f_all 5).toInt ≤ (3 : Int)))) then f_all else upd (upd f_all 5 3) 6 at_) := h_51
    obtain ⟨b, hbq⟩ : ∃ b, b = pDB 7 at_ f_read a := ⟨_, rfl⟩
    have hAb : zRr k n i_size i_next i_where i_token i_number i_word i_wrong i_farCrossing g_all_49 b := by rw [hbq]; unfold pDB; rw [if_pos (by omega)]; exact zRr_also (kd := 3) (w := at_) hA h_51
    have G := G.sub (bs' := [[(mo, .inr (11, [.ref m_all, .ref m_has, .int i_size, .int i_next, .int i_where, .int i_token, .int i_number, .int i_word, .int i_wrong, .int i_farCrossing, .ref m_read, .int i_z0, .int i_crossings, .int i_inns, .ref m_posts, .ref m_shut, .ref m_here, .int i_steps, .int i_done, .int i_at, .int i_gone, .ref m_was, .ref m_came, .ref m_seenAt, .ref m_rowWorth, .ref m_farBy, .ref m_used, .int i_everywhere, .int i_again0, .int i_d0, .int i_never, .int i_firstCame, .int i_longRun, .int i_moved, .int i_crowd, .int i_l0, .int i_fitMany, .int i_fitLeast, .int i_fitMost, .ref m_fitPost, .ref m_fitEnd, .ref m_keptPosts, .int i_x0]))], [(m_all, .inl (T.2 0, 3952, .inl g_all_49))], [(m_read, .inl (T.2 0, 121, .inl f_read))]]) [1, 2, 0] rfl
    exact jn_17 g_all_49 b (show b = pDB 7 at_ f_read a ∧ zRr k n i_size i_next i_where i_token i_number i_word i_wrong i_farCrossing g_all_49 b ∧ zPal f_all g_all_49 from ⟨hbq, hAb, h_50⟩) _ _ ls G (lv_sub hl [0, 1] rfl)


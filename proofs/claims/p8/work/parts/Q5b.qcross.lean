set_option maxHeartbeats 4000000 in
set_option maxRecDepth 100000 in
/-- c_fm_crossTold -/
theorem c_fm_crossTold (l : Launch) (T : zTy) (mo : Nat) (m_all : Nat) (m_has : Nat) (i_size : Int32) (i_next : Int32) (i_where : Int32) (i_token : Int32) (i_number : Int32) (i_word : Int32) (i_wrong : Int32) (i_farCrossing : Int32) (m_read : Nat) (i_z0 : Int32) (i_crossings : Int32) (i_inns : Int32) (m_posts : Nat) (m_shut : Nat) (m_here : Nat) (i_steps : Int32) (i_done : Int32) (i_at : Int32) (i_gone : Int32) (m_was : Nat) (m_came : Nat) (m_seenAt : Nat) (m_rowWorth : Nat) (m_farBy : Nat) (m_used : Nat) (i_everywhere : Int32) (i_again0 : Int32) (i_d0 : Int32) (i_never : Int32) (i_firstCame : Int32) (i_longRun : Int32) (i_moved : Int32) (i_crowd : Int32) (i_l0 : Int32) (i_fitMany : Int32) (i_fitLeast : Int32) (i_fitMost : Int32) (m_fitPost : Nat) (m_fitEnd : Nat) (m_keptPosts : Nat) (i_x0 : Int32) (f_all : Nat → Int32) (f_read : Nat → Int32) (k : pT) (n : Nat) (a : pS) (at_ : Int32) (hsz : i_size.toInt ≤ 600) (hn0 : 0 ≤ i_next.toInt) (hns : i_next.toInt ≤ i_size.toInt) (hR : zLF f_read) (hA : zRr k n i_size i_next i_where i_token i_number i_word i_wrong i_farCrossing f_all a) : zMv l T yX12_crossTold cX12_crossTold 4 7 0 0 [.ref mo, .int at_] [[(mo, .inr (11, [.ref m_all, .ref m_has, .int i_size, .int i_next, .int i_where, .int i_token, .int i_number, .int i_word, .int i_wrong, .int i_farCrossing, .ref m_read, .int i_z0, .int i_crossings, .int i_inns, .ref m_posts, .ref m_shut, .ref m_here, .int i_steps, .int i_done, .int i_at, .int i_gone, .ref m_was, .ref m_came, .ref m_seenAt, .ref m_rowWorth, .ref m_farBy, .ref m_used, .int i_everywhere, .int i_again0, .int i_d0, .int i_never, .int i_firstCame, .int i_longRun, .int i_moved, .int i_crowd, .int i_l0, .int i_fitMany, .int i_fitLeast, .int i_fitMost, .ref m_fitPost, .ref m_fitEnd, .ref m_keptPosts, .int i_x0]))], [(m_all, .inl (T.2 0, 3952, .inl f_all))], [(m_read, .inl (T.2 0, 121, .inl f_read))]] (fun bs => ∃ (j_next : Int32) (j_where : Int32) (j_token : Int32) (j_number : Int32) (j_word : Int32) (j_wrong : Int32) (j_farCrossing : Int32) (g_all : Nat → Int32) (g_read : Nat → Int32), bs = [[(mo, .inr (11, [.ref m_all, .ref m_has, .int i_size, .int j_next, .int j_where, .int j_token, .int j_number, .int j_word, .int j_wrong, .int j_farCrossing, .ref m_read, .int i_z0, .int i_crossings, .int i_inns, .ref m_posts, .ref m_shut, .ref m_here, .int i_steps, .int i_done, .int i_at, .int i_gone, .ref m_was, .ref m_came, .ref m_seenAt, .ref m_rowWorth, .ref m_farBy, .ref m_used, .int i_everywhere, .int i_again0, .int i_d0, .int i_never, .int i_firstCame, .int i_longRun, .int i_moved, .int i_crowd, .int i_l0, .int i_fitMany, .int i_fitLeast, .int i_fitMost, .ref m_fitPost, .ref m_fitEnd, .ref m_keptPosts, .int i_x0]))], [(m_all, .inl (T.2 0, 3952, .inl g_all))], [(m_read, .inl (T.2 0, 121, .inl g_read))]] ∧ 0 ≤ j_next.toInt ∧ j_next.toInt ≤ i_size.toInt ∧ i_next.toInt ≤ j_next.toInt ∧ zPal f_all g_all ∧ zLF g_read ∧ zRr k n i_size j_next j_where j_token j_number j_word j_wrong j_farCrossing g_all (pCross k at_ a f_read).1 ∧ g_read = (pCross k at_ a f_read).2) := by
  refine zMv_of (own := RX12) (by decide) rfl (Nat.le_of_ble_eq_true rfl) ?_
  intro p e s m args below meth c A ls C hr hlocks hnm hAe G hl
  have hx := C.1
  have hb := C.2.1
  have hl : lv_has ls 4 [(0, .ref mo), (1, .int at_)] := hl
  have hok := zRr_ok hA
  obtain ⟨hA1, hA6, hA7, hA8, hA9, hA10⟩ := id hA
  have hka := hok a.1 hA1.2.2.2.2
  have hT4 := pTk_le hok hA1.2.2.2.2
  have hR0 : 0 ≤ (f_read 0).toInt ∧ (f_read 0).toInt ≤ 7 := hR.1
  refine lv_aload_n hx hb dX12_crossTold_0 rfl (lv_at hl 0 rfl) ?_
  refine z_get C G clX12 0 rfl 10 (by decide) m_fl_RX12_17 rfl dX12_crossTold_1 ?_
  refine lv_iconst (v := 0) hx hb dX12_crossTold_4 (by decide) ?_
  refine z_ild C G 2 rfl (vp_in_nI (n := 0) (by decide) (by decide)) dX12_crossTold_5 ?_
  refine lv_topi (fun v_1 ev_1 => ?_)
  rw [show ((0 : Int32).toNatClampNeg) = 0 from rfl] at ev_1
  subst ev_1
  refine lv_bipush (v := 7) hx hb dX12_crossTold_6 (by decide) ?_
  refine lv_icmp_lt (tgt := 17) hx hb dX12_crossTold_8 (by decide) (fun c_2 => ?_) (fun c_2 => ?_)
  · have c_2n : (f_read 0).toInt < (7 : Int) := (fa_lt _ _).mp c_2
    obtain ⟨b, hbq⟩ : ∃ b, b = pDB 7 at_ f_read a := ⟨_, rfl⟩
    have hAb : zRr k n i_size i_next i_where i_token i_number i_word i_wrong i_farCrossing f_all b := by rw [hbq]; unfold pDB; rw [if_neg (by omega)]; exact hA
    refine lv_iconst (v := 0) hx hb dX12_crossTold_17 (by decide) ?_
    refine lv_istore_n (lv' := [(2, .int 0), (0, .ref mo), (1, .int at_)]) hx hb dX12_crossTold_18 rfl hl (by decide) rfl (fun ls hl => ?_)
    refine z_loop (T := T) (α := Int32 × Int32 × Int32 × Int32 × Int32 × Int32 × Int32 × (Nat → Int32) × (Nat → Int32) × Nat × pS × Nat) 19 (fun (xn, xw, xt, xu, xo, xr, xf, ga, gr, nn, A9, j) => [[(mo, .inr (11, [.ref m_all, .ref m_has, .int i_size, .int xn, .int xw, .int xt, .int xu, .int xo, .int xr, .int xf, .ref m_read, .int i_z0, .int i_crossings, .int i_inns, .ref m_posts, .ref m_shut, .ref m_here, .int i_steps, .int i_done, .int i_at, .int i_gone, .ref m_was, .ref m_came, .ref m_seenAt, .ref m_rowWorth, .ref m_farBy, .ref m_used, .int i_everywhere, .int i_again0, .int i_d0, .int i_never, .int i_firstCame, .int i_longRun, .int i_moved, .int i_crowd, .int i_l0, .int i_fitMany, .int i_fitLeast, .int i_fitMost, .ref m_fitPost, .ref m_fitEnd, .ref m_keptPosts, .int i_x0]))], [(m_all, .inl (T.2 0, 3952, .inl ga))], [(m_read, .inl (T.2 0, 121, .inl gr))]]) (fun (xn, xw, xt, xu, xo, xr, xf, ga, gr, nn, A9, j) => [(2, .int (nI nn)), (0, .ref mo), (1, .int at_)]) (fun (xn, xw, xt, xu, xo, xr, xf, ga, gr, nn, A9, j) => nn ≤ 4 ∧ zLF gr ∧ i_next.toInt ≤ xn.toInt ∧ xn.toInt ≤ i_size.toInt ∧ zPal f_all ga ∧ zRr k n i_size xn xw xt xu xo xr xf ga A9 ∧ nn = min j 4 ∧ j ≤ A9.1 ∧ pRoads k (601 - j) (min j 4) A9 gr = pRoads k 601 0 b f_read ∧ gr 0 = f_read 0) (fun (xn, xw, xt, xu, xo, xr, xf, ga, gr, nn, A9, j) => zMu xr xt xn i_size) ?_ (i_next, i_where, i_token, i_number, i_word, i_wrong, i_farCrossing, f_all, f_read, 0, b, 0) (show 0 ≤ 4 ∧ zLF f_read ∧ i_next.toInt ≤ i_next.toInt ∧ i_next.toInt ≤ i_size.toInt ∧ zPal f_all f_all ∧ zRr k n i_size i_next i_where i_token i_number i_word i_wrong i_farCrossing f_all b ∧ 0 = min 0 4 ∧ 0 ≤ b.1 ∧ pRoads k (601 - 0) (min 0 4) b f_read = pRoads k 601 0 b f_read ∧ f_read 0 = f_read 0 from ⟨by omega, hR, by omega, by omega, (zPal_rf _), hAb, by omega, (Nat.zero_le _), rfl, rfl⟩) G (lv_sub hl [0, 1, 2] rfl)
    rintro ⟨xn, xw, xt, xu, xo, xr, xf, ga, gr, nn, A9, j⟩ ⟨hn, hL, hx1, hx2, hpal, hRA, hnn, hpj, hEq, hf0⟩ ih_19 H locs ls G hl
    replace hn : nn ≤ 4 := hn
    replace hL : zLF gr := hL
    replace hx1 : i_next.toInt ≤ xn.toInt := hx1
    replace hx2 : xn.toInt ≤ i_size.toInt := hx2
    replace hpal : zPal f_all ga := hpal
    replace hRA : zRr k n i_size xn xw xt xu xo xr xf ga A9 := hRA
    replace hnn : nn = min j 4 := hnn
    replace hpj : j ≤ A9.1 := hpj
    replace hEq : pRoads k (601 - j) (min j 4) A9 gr = pRoads k 601 0 b f_read := hEq
    replace hf0 : gr 0 = f_read 0 := hf0
    replace G : zS T A s.heap s [[(mo, .inr (11, [.ref m_all, .ref m_has, .int i_size, .int xn, .int xw, .int xt, .int xu, .int xo, .int xr, .int xf, .ref m_read, .int i_z0, .int i_crossings, .int i_inns, .ref m_posts, .ref m_shut, .ref m_here, .int i_steps, .int i_done, .int i_at, .int i_gone, .ref m_was, .ref m_came, .ref m_seenAt, .ref m_rowWorth, .ref m_farBy, .ref m_used, .int i_everywhere, .int i_again0, .int i_d0, .int i_never, .int i_firstCame, .int i_longRun, .int i_moved, .int i_crowd, .int i_l0, .int i_fitMany, .int i_fitLeast, .int i_fitMost, .ref m_fitPost, .ref m_fitEnd, .ref m_keptPosts, .int i_x0]))], [(m_all, .inl (T.2 0, 3952, .inl ga))], [(m_read, .inl (T.2 0, 121, .inl gr))]] _ _ := G
    replace hl : lv_has ls 4 [(2, .int (nI nn)), (0, .ref mo), (1, .int at_)] := hl
    refine lv_aload_n hx hb dX12_crossTold_19 rfl (lv_at hl 1 rfl) ?_
    have hL0 : 0 ≤ (gr 0).toInt ∧ (gr 0).toInt ≤ 7 := hL.1
    have hokA := zRr_ok hRA
    obtain ⟨hA1A, hA6A, hA7A, hA8A, hA9A, hA10A⟩ := id hRA
    have hkaA := hokA A9.1 hA1A.2.2.2.2
    have hT4A := pTk_le hokA hA1A.2.2.2.2
    have hnn6 := hA1A.2.2.1
    have hpn9 := hA1A.2.2.2.2
    refine z_get C G clX12 0 rfl 8 (by decide) m_fl_RX12_104 rfl dX12_crossTold_20 ?_
    refine lv_if_ne (tgt := 104) hx hb dX12_crossTold_23 (by decide) (fun c_3 => ?_) (fun c_3 => ?_)
    · have c_3n : ¬ xr.toInt = (0 : Int) := fun q => c_3 ((fa_eq _ _).mpr q)
      have hpc := pCross_e (w := at_) hbq (hEq.symm.trans (pRoads_x (fun z9 => by first | (exact absurd z9.1 (by rw [← hA6A]; omega)) | omega)))
      have hf0i : (gr 0).toInt = (f_read 0).toInt := by rw [hf0]
      refine lv_aload_n hx hb dX12_crossTold_104 rfl (lv_at hl 1 rfl) ?_
      refine z_get C G clX12 0 rfl 10 (by decide) m_fl_RX12_17 rfl dX12_crossTold_105 ?_
      refine lv_iconst (v := 0) hx hb dX12_crossTold_108 (by decide) ?_
      refine z_ild C G 2 rfl (vp_in_nI (n := 0) (by decide) (by decide)) dX12_crossTold_109 ?_
      refine lv_topi (fun v_4 ev_4 => ?_)
      rw [show ((0 : Int32).toNatClampNeg) = 0 from rfl] at ev_4
      subst ev_4
      refine lv_bipush (v := 7) hx hb dX12_crossTold_110 (by decide) ?_
      refine lv_icmp_lt (tgt := 116) hx hb dX12_crossTold_112 (by decide) (fun c_5 => ?_) (fun c_5 => ?_)
      · have c_5n : (gr 0).toInt < (7 : Int) := (fa_lt _ _).mp c_5
        refine lv_aload_n hx hb dX12_crossTold_116 rfl (lv_at hl 1 rfl) ?_
        refine z_get C G clX12 0 rfl 10 (by decide) m_fl_RX12_17 rfl dX12_crossTold_117 ?_
        refine lv_iconst (v := 2) hx hb dX12_crossTold_120 (by decide) ?_
        refine lv_aload_n hx hb dX12_crossTold_121 rfl (lv_at hl 1 rfl) ?_
        refine z_get C G clX12 0 rfl 10 (by decide) m_fl_RX12_17 rfl dX12_crossTold_122 ?_
        refine lv_iconst (v := 0) hx hb dX12_crossTold_125 (by decide) ?_
        refine z_ild C G 2 rfl (vp_in_nI (n := 0) (by decide) (by decide)) dX12_crossTold_126 ?_
        refine lv_topi (fun v_6 ev_6 => ?_)
        rw [show ((0 : Int32).toNatClampNeg) = 0 from rfl] at ev_6
        subst ev_6
        refine lv_iadd hx hb dX12_crossTold_127 ?_
        refine lv_topi (fun y_7 ey_7 => ?_)
        have ey_7i : y_7.toInt = (2 : Int) + (gr 0).toInt := by rw [ey_7]; exact z_iaddI (x := (2 : Int32)) (y := (gr 0)) (by show -2147483648 ≤ (2 : Int) + (gr 0).toInt; omega) (by show (2 : Int) + (gr 0).toInt < 2147483648; omega)
        refine lv_iload_n hx hb dX12_crossTold_128 rfl (lv_at hl 0 rfl) ?_
        refine z_ist C G 2 rfl (vp_in_iff.mpr ⟨by omega, by omega⟩) dX12_crossTold_129 (fun H locs G => ?_)
        have G : zS T A s.heap s [[(mo, .inr (11, [.ref m_all, .ref m_has, .int i_size, .int xn, .int xw, .int xt, .int xu, .int xo, .int xr, .int xf, .ref m_read, .int i_z0, .int i_crossings, .int i_inns, .ref m_posts, .ref m_shut, .ref m_here, .int i_steps, .int i_done, .int i_at, .int i_gone, .ref m_was, .ref m_came, .ref m_seenAt, .ref m_rowWorth, .ref m_farBy, .ref m_used, .int i_everywhere, .int i_again0, .int i_d0, .int i_never, .int i_firstCame, .int i_longRun, .int i_moved, .int i_crowd, .int i_l0, .int i_fitMany, .int i_fitLeast, .int i_fitMost, .ref m_fitPost, .ref m_fitEnd, .ref m_keptPosts, .int i_x0]))], [(m_all, .inl (T.2 0, 3952, .inl ga))], [(m_read, .inl (T.2 0, 121, .inl (upd gr y_7.toNatClampNeg (nI nn))))]] _ _ := G
        refine lv_aload_n hx hb dX12_crossTold_130 rfl (lv_at hl 1 rfl) ?_
        refine z_get C G clX12 0 rfl 10 (by decide) m_fl_RX12_17 rfl dX12_crossTold_131 ?_
        refine lv_iconst (v := 0) hx hb dX12_crossTold_134 (by decide) ?_
        refine lv_dup2_11 hx hb dX12_crossTold_135 rfl rfl ?_
        refine z_ild C G 2 rfl (vp_in_nI (n := 0) (by decide) (by decide)) dX12_crossTold_136 ?_
        refine lv_topi (fun v_8 ev_8 => ?_)
        rw [show ((0 : Int32).toNatClampNeg) = 0 from rfl] at ev_8
        subst ev_8
        have hcl_y_7 := z_clI (x := y_7) (by omega)
        rw [show (upd gr y_7.toNatClampNeg (nI nn)) 0 = gr 0 from by unfold upd; rw [if_neg (by omega)]]
        refine lv_iconst (v := 1) hx hb dX12_crossTold_137 (by decide) ?_
        refine lv_iadd hx hb dX12_crossTold_138 ?_
        refine lv_topi (fun y_9 ey_9 => ?_)
        have ey_9i : y_9.toInt = (gr 0).toInt + (1 : Int) := by rw [ey_9]; exact z_iaddI (x := (gr 0)) (y := (1 : Int32)) (by show -2147483648 ≤ (gr 0).toInt + (1 : Int); omega) (by show (gr 0).toInt + (1 : Int) < 2147483648; omega)
        refine z_ist C G 2 rfl (vp_in_nI (n := 0) (by decide) (by decide)) dX12_crossTold_139 (fun H locs G => ?_)
        have G : zS T A s.heap s [[(mo, .inr (11, [.ref m_all, .ref m_has, .int i_size, .int xn, .int xw, .int xt, .int xu, .int xo, .int xr, .int xf, .ref m_read, .int i_z0, .int i_crossings, .int i_inns, .ref m_posts, .ref m_shut, .ref m_here, .int i_steps, .int i_done, .int i_at, .int i_gone, .ref m_was, .ref m_came, .ref m_seenAt, .ref m_rowWorth, .ref m_farBy, .ref m_used, .int i_everywhere, .int i_again0, .int i_d0, .int i_never, .int i_firstCame, .int i_longRun, .int i_moved, .int i_crowd, .int i_l0, .int i_fitMany, .int i_fitLeast, .int i_fitMost, .ref m_fitPost, .ref m_fitEnd, .ref m_keptPosts, .int i_x0]))], [(m_all, .inl (T.2 0, 3952, .inl ga))], [(m_read, .inl (T.2 0, 121, .inl (upd (upd gr y_7.toNatClampNeg (nI nn)) 0 y_9)))]] _ _ := G
        exact z_vret C hr hlocks G (Nat.le_of_ble_eq_true rfl) (Nat.le_of_ble_eq_true rfl) dX12_crossTold_140 ⟨xn, xw, xt, xu, xo, xr, xf, ga, (upd (upd gr y_7.toNatClampNeg (nI nn)) 0 y_9), rfl, (by first | trivial | assumption | omega), (by first | trivial | assumption | omega), (by first | trivial | assumption | omega), hpal, (zLF_upd (k := 0) (v := y_9) (zLF_upd (k := y_7.toNatClampNeg) (v := (nI nn)) (by assumption) (by have q9 := z_clI (x := y_7) (by omega); have t9 := nI_toInt (n := nn) (by omega); omega) (by have q9 := z_clI (x := y_7) (by omega); have t9 := nI_toInt (n := nn) (by omega); omega) (by have q9 := z_clI (x := y_7) (by omega); have t9 := nI_toInt (n := nn) (by omega); omega) (by have q9 := z_clI (x := y_7) (by omega); have t9 := nI_toInt (n := nn) (by omega); omega) (by have q9 := z_clI (x := y_7) (by omega); have t9 := nI_toInt (n := nn) (by omega); omega)) (by omega) (by omega) (by omega) (by omega) (by omega)), (by rw [hpc]; exact hRA), (by rw [hpc]; show _ = (if 7 ≤ (f_read 0).toInt then gr else upd (upd gr (2 + (gr 0).toInt.toNat) (nI (min j 4))) 0 (gr 0 + 1)); rw [if_neg (by omega), ← hnn, ey_9]; exact congrArg (fun q9 => upd (upd gr q9 (nI nn)) 0 (gr 0 + 1)) (by have q9 := z_clI (x := y_7) (by omega); omega))⟩
      · have c_5n : ¬ (gr 0).toInt < (7 : Int) := fun q => c_5 ((fa_lt _ _).mpr q)
        exact z_vret C hr hlocks G (Nat.le_of_ble_eq_true rfl) (Nat.le_of_ble_eq_true rfl) dX12_crossTold_115 ⟨xn, xw, xt, xu, xo, xr, xf, ga, gr, rfl, (by first | trivial | assumption | omega), (by first | trivial | assumption | omega), (by first | trivial | assumption | omega), hpal, (by first | trivial | assumption | omega), (by rw [hpc]; exact hRA), (by rw [hpc]; exact (if_pos (by omega)).symm)⟩
    · have c_3n : xr.toInt = (0 : Int) := (fa_eq _ _).mp c_3
      have hwA : A9.2.1.toInt = 0 := by rw [← hA6A]; omega
      obtain ⟨t1A, t2A, t3A, t4A, t5A⟩ := hA7A hwA
      have t3iA : xt.toInt = (pTk k A9.1 : Int) := by rw [t3A]; exact nI_toInt (by omega)
      refine lv_aload_n hx hb dX12_crossTold_26 rfl (lv_at hl 1 rfl) ?_
      refine z_get C G clX12 0 rfl 5 (by decide) m_fl_RX12_80 rfl dX12_crossTold_27 ?_
      refine lv_iconst (v := 1) hx hb dX12_crossTold_30 (by decide) ?_
      refine lv_icmp_ne (tgt := 104) hx hb dX12_crossTold_31 (by decide) (fun c_10 => ?_) (fun c_10 => ?_)
      · have c_10n : ¬ xt.toInt = (1 : Int) := fun q => c_10 ((fa_eq _ _).mpr q)
        have hpc := pCross_e (w := at_) hbq (hEq.symm.trans (pRoads_x (fun z9 => by first | (exact absurd z9.1 (by rw [← hA6A]; omega)) | omega)))
        have hf0i : (gr 0).toInt = (f_read 0).toInt := by rw [hf0]
        refine lv_aload_n hx hb dX12_crossTold_104 rfl (lv_at hl 1 rfl) ?_
        refine z_get C G clX12 0 rfl 10 (by decide) m_fl_RX12_17 rfl dX12_crossTold_105 ?_
        refine lv_iconst (v := 0) hx hb dX12_crossTold_108 (by decide) ?_
        refine z_ild C G 2 rfl (vp_in_nI (n := 0) (by decide) (by decide)) dX12_crossTold_109 ?_
        refine lv_topi (fun v_11 ev_11 => ?_)
        rw [show ((0 : Int32).toNatClampNeg) = 0 from rfl] at ev_11
        subst ev_11
        refine lv_bipush (v := 7) hx hb dX12_crossTold_110 (by decide) ?_
        refine lv_icmp_lt (tgt := 116) hx hb dX12_crossTold_112 (by decide) (fun c_12 => ?_) (fun c_12 => ?_)
        · have c_12n : (gr 0).toInt < (7 : Int) := (fa_lt _ _).mp c_12
          refine lv_aload_n hx hb dX12_crossTold_116 rfl (lv_at hl 1 rfl) ?_
          refine z_get C G clX12 0 rfl 10 (by decide) m_fl_RX12_17 rfl dX12_crossTold_117 ?_
          refine lv_iconst (v := 2) hx hb dX12_crossTold_120 (by decide) ?_
          refine lv_aload_n hx hb dX12_crossTold_121 rfl (lv_at hl 1 rfl) ?_
          refine z_get C G clX12 0 rfl 10 (by decide) m_fl_RX12_17 rfl dX12_crossTold_122 ?_
          refine lv_iconst (v := 0) hx hb dX12_crossTold_125 (by decide) ?_
          refine z_ild C G 2 rfl (vp_in_nI (n := 0) (by decide) (by decide)) dX12_crossTold_126 ?_
          refine lv_topi (fun v_13 ev_13 => ?_)
          rw [show ((0 : Int32).toNatClampNeg) = 0 from rfl] at ev_13
          subst ev_13
          refine lv_iadd hx hb dX12_crossTold_127 ?_
          refine lv_topi (fun y_14 ey_14 => ?_)
          have ey_14i : y_14.toInt = (2 : Int) + (gr 0).toInt := by rw [ey_14]; exact z_iaddI (x := (2 : Int32)) (y := (gr 0)) (by show -2147483648 ≤ (2 : Int) + (gr 0).toInt; omega) (by show (2 : Int) + (gr 0).toInt < 2147483648; omega)
          refine lv_iload_n hx hb dX12_crossTold_128 rfl (lv_at hl 0 rfl) ?_
          refine z_ist C G 2 rfl (vp_in_iff.mpr ⟨by omega, by omega⟩) dX12_crossTold_129 (fun H locs G => ?_)
          have G : zS T A s.heap s [[(mo, .inr (11, [.ref m_all, .ref m_has, .int i_size, .int xn, .int xw, .int xt, .int xu, .int xo, .int xr, .int xf, .ref m_read, .int i_z0, .int i_crossings, .int i_inns, .ref m_posts, .ref m_shut, .ref m_here, .int i_steps, .int i_done, .int i_at, .int i_gone, .ref m_was, .ref m_came, .ref m_seenAt, .ref m_rowWorth, .ref m_farBy, .ref m_used, .int i_everywhere, .int i_again0, .int i_d0, .int i_never, .int i_firstCame, .int i_longRun, .int i_moved, .int i_crowd, .int i_l0, .int i_fitMany, .int i_fitLeast, .int i_fitMost, .ref m_fitPost, .ref m_fitEnd, .ref m_keptPosts, .int i_x0]))], [(m_all, .inl (T.2 0, 3952, .inl ga))], [(m_read, .inl (T.2 0, 121, .inl (upd gr y_14.toNatClampNeg (nI nn))))]] _ _ := G
          refine lv_aload_n hx hb dX12_crossTold_130 rfl (lv_at hl 1 rfl) ?_
          refine z_get C G clX12 0 rfl 10 (by decide) m_fl_RX12_17 rfl dX12_crossTold_131 ?_
          refine lv_iconst (v := 0) hx hb dX12_crossTold_134 (by decide) ?_
          refine lv_dup2_11 hx hb dX12_crossTold_135 rfl rfl ?_
          refine z_ild C G 2 rfl (vp_in_nI (n := 0) (by decide) (by decide)) dX12_crossTold_136 ?_
          refine lv_topi (fun v_15 ev_15 => ?_)
          rw [show ((0 : Int32).toNatClampNeg) = 0 from rfl] at ev_15
          subst ev_15
          have hcl_y_14 := z_clI (x := y_14) (by omega)
          rw [show (upd gr y_14.toNatClampNeg (nI nn)) 0 = gr 0 from by unfold upd; rw [if_neg (by omega)]]
          refine lv_iconst (v := 1) hx hb dX12_crossTold_137 (by decide) ?_
          refine lv_iadd hx hb dX12_crossTold_138 ?_
          refine lv_topi (fun y_16 ey_16 => ?_)
          have ey_16i : y_16.toInt = (gr 0).toInt + (1 : Int) := by rw [ey_16]; exact z_iaddI (x := (gr 0)) (y := (1 : Int32)) (by show -2147483648 ≤ (gr 0).toInt + (1 : Int); omega) (by show (gr 0).toInt + (1 : Int) < 2147483648; omega)
          refine z_ist C G 2 rfl (vp_in_nI (n := 0) (by decide) (by decide)) dX12_crossTold_139 (fun H locs G => ?_)
          have G : zS T A s.heap s [[(mo, .inr (11, [.ref m_all, .ref m_has, .int i_size, .int xn, .int xw, .int xt, .int xu, .int xo, .int xr, .int xf, .ref m_read, .int i_z0, .int i_crossings, .int i_inns, .ref m_posts, .ref m_shut, .ref m_here, .int i_steps, .int i_done, .int i_at, .int i_gone, .ref m_was, .ref m_came, .ref m_seenAt, .ref m_rowWorth, .ref m_farBy, .ref m_used, .int i_everywhere, .int i_again0, .int i_d0, .int i_never, .int i_firstCame, .int i_longRun, .int i_moved, .int i_crowd, .int i_l0, .int i_fitMany, .int i_fitLeast, .int i_fitMost, .ref m_fitPost, .ref m_fitEnd, .ref m_keptPosts, .int i_x0]))], [(m_all, .inl (T.2 0, 3952, .inl ga))], [(m_read, .inl (T.2 0, 121, .inl (upd (upd gr y_14.toNatClampNeg (nI nn)) 0 y_16)))]] _ _ := G
          exact z_vret C hr hlocks G (Nat.le_of_ble_eq_true rfl) (Nat.le_of_ble_eq_true rfl) dX12_crossTold_140 ⟨xn, xw, xt, xu, xo, xr, xf, ga, (upd (upd gr y_14.toNatClampNeg (nI nn)) 0 y_16), rfl, (by first | trivial | assumption | omega), (by first | trivial | assumption | omega), (by first | trivial | assumption | omega), hpal, (zLF_upd (k := 0) (v := y_16) (zLF_upd (k := y_14.toNatClampNeg) (v := (nI nn)) (by assumption) (by have q9 := z_clI (x := y_14) (by omega); have t9 := nI_toInt (n := nn) (by omega); omega) (by have q9 := z_clI (x := y_14) (by omega); have t9 := nI_toInt (n := nn) (by omega); omega) (by have q9 := z_clI (x := y_14) (by omega); have t9 := nI_toInt (n := nn) (by omega); omega) (by have q9 := z_clI (x := y_14) (by omega); have t9 := nI_toInt (n := nn) (by omega); omega) (by have q9 := z_clI (x := y_14) (by omega); have t9 := nI_toInt (n := nn) (by omega); omega)) (by omega) (by omega) (by omega) (by omega) (by omega)), (by rw [hpc]; exact hRA), (by rw [hpc]; show _ = (if 7 ≤ (f_read 0).toInt then gr else upd (upd gr (2 + (gr 0).toInt.toNat) (nI (min j 4))) 0 (gr 0 + 1)); rw [if_neg (by omega), ← hnn, ey_16]; exact congrArg (fun q9 => upd (upd gr q9 (nI nn)) 0 (gr 0 + 1)) (by have q9 := z_clI (x := y_14) (by omega); omega))⟩
        · have c_12n : ¬ (gr 0).toInt < (7 : Int) := fun q => c_12 ((fa_lt _ _).mpr q)
          exact z_vret C hr hlocks G (Nat.le_of_ble_eq_true rfl) (Nat.le_of_ble_eq_true rfl) dX12_crossTold_115 ⟨xn, xw, xt, xu, xo, xr, xf, ga, gr, rfl, (by first | trivial | assumption | omega), (by first | trivial | assumption | omega), (by first | trivial | assumption | omega), hpal, (by first | trivial | assumption | omega), (by rw [hpc]; exact hRA), (by rw [hpc]; exact (if_pos (by omega)).symm)⟩
      · have c_10n : xt.toInt = (1 : Int) := (fa_eq _ _).mp c_10
        have htA : pTk k A9.1 = 1 := by omega
        have hst := pStep (f := gr) (g := f_read) hokA hpn9 hwA htA hpj hf0
        refine lv_iload_n hx hb dX12_crossTold_34 rfl (lv_at hl 0 rfl) ?_
        refine lv_iconst (v := 4) hx hb dX12_crossTold_35 (by decide) ?_
        refine lv_icmp_ne (tgt := 48) hx hb dX12_crossTold_36 (by decide) (fun c_17 => ?_) (fun c_17 => ?_)
        · have c_17n : ¬ nn = 4 := fun q => c_17 ((nI_eq (a := nn) (b := 4) (by omega) (by omega)).mpr q)
          have hX : zRr k n i_size xn xw xt xu xo xr xf ga (pAt k j A9) := by rw [pAt_n (by omega)]; exact hRA
          refine lv_aload_n hx hb dX12_crossTold_48 rfl (lv_at hl 1 rfl) ?_
          refine z_Vi (bc := [[(mo, .inr (11, [.ref m_all, .ref m_has, .int i_size, .int xn, .int xw, .int xt, .int xu, .int xo, .int xr, .int xf, .ref m_read, .int i_z0, .int i_crossings, .int i_inns, .ref m_posts, .ref m_shut, .ref m_here, .int i_steps, .int i_done, .int i_at, .int i_gone, .ref m_was, .ref m_came, .ref m_seenAt, .ref m_rowWorth, .ref m_farBy, .ref m_used, .int i_everywhere, .int i_again0, .int i_d0, .int i_never, .int i_firstCame, .int i_longRun, .int i_moved, .int i_crowd, .int i_l0, .int i_fitMany, .int i_fitLeast, .int i_fitMost, .ref m_fitPost, .ref m_fitEnd, .ref m_keptPosts, .int i_x0]))], [(m_all, .inl (T.2 0, 3952, .inl ga))]]) (br := [[(m_read, .inl (T.2 0, 121, .inl gr))]]) (As := []) (rest := []) C G (c_fm_crossingTold l T mo m_all m_has i_size xn xw xt xu xo xr xf m_read i_z0 i_crossings i_inns m_posts m_shut m_here i_steps i_done i_at i_gone m_was m_came m_seenAt m_rowWorth m_farBy m_used i_everywhere i_again0 i_d0 i_never i_firstCame i_longRun i_moved i_crowd i_l0 i_fitMany i_fitLeast i_fitMost m_fitPost m_fitEnd m_keptPosts i_x0 ga k n (pAt k j A9) (by first | assumption | omega | rfl) (by first | assumption | omega | rfl) (by first | assumption | omega | rfl) hX) (kV_RX12_129 C.2.2.2.2 (Nat.le_of_ble_eq_true rfl) (Nat.le_of_ble_eq_true rfl)) [0, 1] [2] rfl rfl (ci := 11) (qc := (RX12, TX12, 43)) rfl rfl (List.mem_flatten.mpr ⟨_, List.mem_of_getElem? (i := 0) rfl, List.mem_cons_self⟩) rfl rfl hl.1 dX12_crossTold_49 (Nat.le_of_ble_eq_true rfl) (Nat.le_of_ble_eq_true rfl) (fun r_35 b1 H locs hw G => ?_)
          obtain ⟨j_next_18, j_where_19, j_token_20, j_number_21, j_word_22, j_wrong_23, j_farCrossing_24, g_all_25, rfl, h_26, h_27, h_28, h_29, h_30, h_31, h_32, h_33, h_34⟩ := hw
          have G : zS T A s.heap s [[(m_read, .inl (T.2 0, 121, .inl gr))], [(mo, .inr (11, [.ref m_all, .ref m_has, .int i_size, .int j_next_18, .int j_where_19, .int j_token_20, .int j_number_21, .int j_word_22, .int j_wrong_23, .int j_farCrossing_24, .ref m_read, .int i_z0, .int i_crossings, .int i_inns, .ref m_posts, .ref m_shut, .ref m_here, .int i_steps, .int i_done, .int i_at, .int i_gone, .ref m_was, .ref m_came, .ref m_seenAt, .ref m_rowWorth, .ref m_farBy, .ref m_used, .int i_everywhere, .int i_again0, .int i_d0, .int i_never, .int i_firstCame, .int i_longRun, .int i_moved, .int i_crowd, .int i_l0, .int i_fitMany, .int i_fitLeast, .int i_fitMost, .ref m_fitPost, .ref m_fitEnd, .ref m_keptPosts, .int i_x0]))], [(m_all, .inl (T.2 0, 3952, .inl g_all_25))]] _ _ := G
          refine lv_istore_n (lv' := [(3, .int r_35), (2, .int (nI nn)), (0, .ref mo), (1, .int at_)]) hx hb dX12_crossTold_52 rfl hl (by decide) rfl (fun ls hl => ?_)
          refine lv_aload_n hx hb dX12_crossTold_53 rfl (lv_at hl 2 rfl) ?_
          refine z_get C G clX12 1 rfl 10 (by decide) m_fl_RX12_17 rfl dX12_crossTold_54 ?_
          refine lv_iconst (v := 0) hx hb dX12_crossTold_57 (by decide) ?_
          refine z_ild C G 0 rfl (vp_in_nI (n := 0) (by decide) (by decide)) dX12_crossTold_58 ?_
          refine lv_topi (fun v_36 ev_36 => ?_)
          rw [show ((0 : Int32).toNatClampNeg) = 0 from rfl] at ev_36
          subst ev_36
          refine lv_bipush (v := 7) hx hb dX12_crossTold_59 (by decide) ?_
          refine lv_icmp_ge (tgt := 88) hx hb dX12_crossTold_61 (by decide) (fun c_37 => ?_) (fun c_37 => ?_)
          · have c_37n : (7 : Int) ≤ (gr 0).toInt := (fa_le _ _).mp c_37
            have hrow : gr = pRow k j A9 gr := pRow_n (by omega)
            refine lv_iload_n hx hb dX12_crossTold_88 rfl (lv_at hl 1 rfl) ?_
            refine lv_iconst (v := 4) hx hb dX12_crossTold_89 (by decide) ?_
            refine lv_icmp_ge (tgt := 99) hx hb dX12_crossTold_90 (by decide) (fun c_38 => ?_) (fun c_38 => ?_)
            · have c_38n : 4 ≤ nn := (nI_leI (a := 4) (b := nn) (by omega) (by omega)).mp c_38
              refine lv_iconst (v := 4) hx hb dX12_crossTold_99 (by decide) ?_
              refine lv_istore_n (lv' := [(2, .int 4), (3, .int r_35), (0, .ref mo), (1, .int at_)]) hx hb dX12_crossTold_100 rfl hl (by decide) rfl (fun ls hl => ?_)
              refine lv_goto (tgt := 19) hx hb dX12_crossTold_101 (by decide) ?_
              have G := G.sub (bs' := [[(mo, .inr (11, [.ref m_all, .ref m_has, .int i_size, .int j_next_18, .int j_where_19, .int j_token_20, .int j_number_21, .int j_word_22, .int j_wrong_23, .int j_farCrossing_24, .ref m_read, .int i_z0, .int i_crossings, .int i_inns, .ref m_posts, .ref m_shut, .ref m_here, .int i_steps, .int i_done, .int i_at, .int i_gone, .ref m_was, .ref m_came, .ref m_seenAt, .ref m_rowWorth, .ref m_farBy, .ref m_used, .int i_everywhere, .int i_again0, .int i_d0, .int i_never, .int i_firstCame, .int i_longRun, .int i_moved, .int i_crowd, .int i_l0, .int i_fitMany, .int i_fitLeast, .int i_fitMost, .ref m_fitPost, .ref m_fitEnd, .ref m_keptPosts, .int i_x0]))], [(m_all, .inl (T.2 0, 3952, .inl g_all_25))], [(m_read, .inl (T.2 0, 121, .inl gr))]]) [1, 2, 0] rfl
              exact ih_19 (j_next_18, j_where_19, j_token_20, j_number_21, j_word_22, j_wrong_23, j_farCrossing_24, g_all_25, gr, 4, ((pCr k (pAt k j A9)).2), (j + 1)) (show 4 ≤ 4 ∧ zLF gr ∧ i_next.toInt ≤ j_next_18.toInt ∧ j_next_18.toInt ≤ i_size.toInt ∧ zPal f_all g_all_25 ∧ zRr k n i_size j_next_18 j_where_19 j_token_20 j_number_21 j_word_22 j_wrong_23 j_farCrossing_24 g_all_25 ((pCr k (pAt k j A9)).2) ∧ 4 = min (j + 1) 4 ∧ (j + 1) ≤ ((pCr k (pAt k j A9)).2).1 ∧ pRoads k (601 - (j + 1)) (min (j + 1) 4) ((pCr k (pAt k j A9)).2) gr = pRoads k 601 0 b f_read ∧ gr 0 = f_read 0 from ⟨by omega, (by assumption), by omega, by omega, (hpal.tr h_30), h_33, by omega, hst.2.1, (by rw [hrow]; exact pRoads_n (by omega) hwA htA hEq), (by rw [hrow]; exact hst.2.2)⟩) (show zMu j_wrong_23 j_token_20 j_next_18 i_size < zMu xr xt xn i_size from zMu_lt (by omega) (by omega) (by omega) (by omega)) _ _ ls G (lv_sub hl [0, 2, 3] rfl)
            · have c_38n : ¬ 4 ≤ nn := fun q => c_38 ((nI_leI (a := 4) (b := nn) (by omega) (by omega)).mpr q)
              refine lv_iload_n hx hb dX12_crossTold_93 rfl (lv_at hl 1 rfl) ?_
              refine lv_iconst (v := 1) hx hb dX12_crossTold_94 (by decide) ?_
              refine lv_iadd hx hb dX12_crossTold_95 ?_
              refine lv_topi (fun y_39 ey_39 => ?_)
              obtain rfl : y_39 = nI (nn + 1) := ey_39.trans (z_iaddn nn 1 rfl rfl)
              refine lv_goto (tgt := 100) hx hb dX12_crossTold_96 (by decide) ?_
              refine lv_istore_n (lv' := [(2, .int (nI (nn + 1))), (3, .int r_35), (0, .ref mo), (1, .int at_)]) hx hb dX12_crossTold_100 rfl hl (by decide) rfl (fun ls hl => ?_)
              refine lv_goto (tgt := 19) hx hb dX12_crossTold_101 (by decide) ?_
              have G := G.sub (bs' := [[(mo, .inr (11, [.ref m_all, .ref m_has, .int i_size, .int j_next_18, .int j_where_19, .int j_token_20, .int j_number_21, .int j_word_22, .int j_wrong_23, .int j_farCrossing_24, .ref m_read, .int i_z0, .int i_crossings, .int i_inns, .ref m_posts, .ref m_shut, .ref m_here, .int i_steps, .int i_done, .int i_at, .int i_gone, .ref m_was, .ref m_came, .ref m_seenAt, .ref m_rowWorth, .ref m_farBy, .ref m_used, .int i_everywhere, .int i_again0, .int i_d0, .int i_never, .int i_firstCame, .int i_longRun, .int i_moved, .int i_crowd, .int i_l0, .int i_fitMany, .int i_fitLeast, .int i_fitMost, .ref m_fitPost, .ref m_fitEnd, .ref m_keptPosts, .int i_x0]))], [(m_all, .inl (T.2 0, 3952, .inl g_all_25))], [(m_read, .inl (T.2 0, 121, .inl gr))]]) [1, 2, 0] rfl
              exact ih_19 (j_next_18, j_where_19, j_token_20, j_number_21, j_word_22, j_wrong_23, j_farCrossing_24, g_all_25, gr, (nn + 1), ((pCr k (pAt k j A9)).2), (j + 1)) (show (nn + 1) ≤ 4 ∧ zLF gr ∧ i_next.toInt ≤ j_next_18.toInt ∧ j_next_18.toInt ≤ i_size.toInt ∧ zPal f_all g_all_25 ∧ zRr k n i_size j_next_18 j_where_19 j_token_20 j_number_21 j_word_22 j_wrong_23 j_farCrossing_24 g_all_25 ((pCr k (pAt k j A9)).2) ∧ (nn + 1) = min (j + 1) 4 ∧ (j + 1) ≤ ((pCr k (pAt k j A9)).2).1 ∧ pRoads k (601 - (j + 1)) (min (j + 1) 4) ((pCr k (pAt k j A9)).2) gr = pRoads k 601 0 b f_read ∧ gr 0 = f_read 0 from ⟨by omega, (by assumption), by omega, by omega, (hpal.tr h_30), h_33, by omega, hst.2.1, (by rw [hrow]; exact pRoads_n (by omega) hwA htA hEq), (by rw [hrow]; exact hst.2.2)⟩) (show zMu j_wrong_23 j_token_20 j_next_18 i_size < zMu xr xt xn i_size from zMu_lt (by omega) (by omega) (by omega) (by omega)) _ _ ls G (lv_sub hl [0, 2, 3] rfl)
          · have c_37n : ¬ (7 : Int) ≤ (gr 0).toInt := fun q => c_37 ((fa_le _ _).mpr q)
            refine lv_iload_n hx hb dX12_crossTold_64 rfl (lv_at hl 1 rfl) ?_
            refine lv_iconst (v := 4) hx hb dX12_crossTold_65 (by decide) ?_
            refine lv_icmp_ge (tgt := 88) hx hb dX12_crossTold_66 (by decide) (fun c_40 => ?_) (fun c_40 => ?_)
            · have c_40n : 4 ≤ nn := (nI_leI (a := 4) (b := nn) (by omega) (by omega)).mp c_40
              have hrow : gr = pRow k j A9 gr := pRow_n (by omega)
              refine lv_iload_n hx hb dX12_crossTold_88 rfl (lv_at hl 1 rfl) ?_
              refine lv_iconst (v := 4) hx hb dX12_crossTold_89 (by decide) ?_
              refine lv_icmp_ge (tgt := 99) hx hb dX12_crossTold_90 (by decide) (fun _ => ?_) (fun q => absurd c_40 q)
              refine lv_iconst (v := 4) hx hb dX12_crossTold_99 (by decide) ?_
              refine lv_istore_n (lv' := [(2, .int 4), (3, .int r_35), (0, .ref mo), (1, .int at_)]) hx hb dX12_crossTold_100 rfl hl (by decide) rfl (fun ls hl => ?_)
              refine lv_goto (tgt := 19) hx hb dX12_crossTold_101 (by decide) ?_
              have G := G.sub (bs' := [[(mo, .inr (11, [.ref m_all, .ref m_has, .int i_size, .int j_next_18, .int j_where_19, .int j_token_20, .int j_number_21, .int j_word_22, .int j_wrong_23, .int j_farCrossing_24, .ref m_read, .int i_z0, .int i_crossings, .int i_inns, .ref m_posts, .ref m_shut, .ref m_here, .int i_steps, .int i_done, .int i_at, .int i_gone, .ref m_was, .ref m_came, .ref m_seenAt, .ref m_rowWorth, .ref m_farBy, .ref m_used, .int i_everywhere, .int i_again0, .int i_d0, .int i_never, .int i_firstCame, .int i_longRun, .int i_moved, .int i_crowd, .int i_l0, .int i_fitMany, .int i_fitLeast, .int i_fitMost, .ref m_fitPost, .ref m_fitEnd, .ref m_keptPosts, .int i_x0]))], [(m_all, .inl (T.2 0, 3952, .inl g_all_25))], [(m_read, .inl (T.2 0, 121, .inl gr))]]) [1, 2, 0] rfl
              exact ih_19 (j_next_18, j_where_19, j_token_20, j_number_21, j_word_22, j_wrong_23, j_farCrossing_24, g_all_25, gr, 4, ((pCr k (pAt k j A9)).2), (j + 1)) (show 4 ≤ 4 ∧ zLF gr ∧ i_next.toInt ≤ j_next_18.toInt ∧ j_next_18.toInt ≤ i_size.toInt ∧ zPal f_all g_all_25 ∧ zRr k n i_size j_next_18 j_where_19 j_token_20 j_number_21 j_word_22 j_wrong_23 j_farCrossing_24 g_all_25 ((pCr k (pAt k j A9)).2) ∧ 4 = min (j + 1) 4 ∧ (j + 1) ≤ ((pCr k (pAt k j A9)).2).1 ∧ pRoads k (601 - (j + 1)) (min (j + 1) 4) ((pCr k (pAt k j A9)).2) gr = pRoads k 601 0 b f_read ∧ gr 0 = f_read 0 from ⟨by omega, (by assumption), by omega, by omega, (hpal.tr h_30), h_33, by omega, hst.2.1, (by rw [hrow]; exact pRoads_n (by omega) hwA htA hEq), (by rw [hrow]; exact hst.2.2)⟩) (show zMu j_wrong_23 j_token_20 j_next_18 i_size < zMu xr xt xn i_size from zMu_lt (by omega) (by omega) (by omega) (by omega)) _ _ ls G (lv_sub hl [0, 2, 3] rfl)
            · have c_40n : ¬ 4 ≤ nn := fun q => c_40 ((nI_leI (a := 4) (b := nn) (by omega) (by omega)).mpr q)
              refine lv_aload_n hx hb dX12_crossTold_69 rfl (lv_at hl 2 rfl) ?_
              refine z_get C G clX12 1 rfl 10 (by decide) m_fl_RX12_17 rfl dX12_crossTold_70 ?_
              refine lv_bipush (v := 23) hx hb dX12_crossTold_73 (by decide) ?_
              refine lv_iconst (v := 4) hx hb dX12_crossTold_75 (by decide) ?_
              refine lv_aload_n hx hb dX12_crossTold_76 rfl (lv_at hl 2 rfl) ?_
              refine z_get C G clX12 1 rfl 10 (by decide) m_fl_RX12_17 rfl dX12_crossTold_77 ?_
              refine lv_iconst (v := 0) hx hb dX12_crossTold_80 (by decide) ?_
              refine z_ild C G 0 rfl (vp_in_nI (n := 0) (by decide) (by decide)) dX12_crossTold_81 ?_
              refine lv_topi (fun v_41 ev_41 => ?_)
              rw [show ((0 : Int32).toNatClampNeg) = 0 from rfl] at ev_41
              subst ev_41
              refine lv_imul hx hb dX12_crossTold_82 ?_
              refine lv_topi (fun y_42 ey_42 => ?_)
              have ey_42i : y_42.toInt = (4 : Int) * (gr 0).toInt := by rw [ey_42]; exact z_imulI (x := (4 : Int32)) (y := (gr 0)) (by show -2147483648 ≤ (4 : Int) * (gr 0).toInt; omega) (by show (4 : Int) * (gr 0).toInt < 2147483648; omega)
              refine lv_iadd hx hb dX12_crossTold_83 ?_
              refine lv_topi (fun y_43 ey_43 => ?_)
              have ey_43i : y_43.toInt = (23 : Int) + y_42.toInt := by rw [ey_43]; exact z_iaddI (x := (23 : Int32)) (y := y_42) (by show -2147483648 ≤ (23 : Int) + y_42.toInt; omega) (by show (23 : Int) + y_42.toInt < 2147483648; omega)
              refine lv_iload_n hx hb dX12_crossTold_84 rfl (lv_at hl 1 rfl) ?_
              refine lv_iadd hx hb dX12_crossTold_85 ?_
              refine lv_topi (fun y_44 ey_44 => ?_)
              have ey_44i : y_44.toInt = y_43.toInt + (nn : Int) := by rw [ey_44]; exact (z_iaddI (x := y_43) (y := (nI nn)) (by rw [nI_toInt (n := nn) (by omega)]; show -2147483648 ≤ y_43.toInt + (nn : Int); omega) (by rw [nI_toInt (n := nn) (by omega)]; show y_43.toInt + (nn : Int) < 2147483648; omega)).trans (by rw [nI_toInt (n := nn) (by omega)] <;> rfl)
              refine lv_iload_n hx hb dX12_crossTold_86 rfl (lv_at hl 0 rfl) ?_
              refine z_ist C G 0 rfl (vp_in_iff.mpr ⟨by omega, by omega⟩) dX12_crossTold_87 (fun H locs G => ?_)
              have G : zS T A s.heap s [[(m_read, .inl (T.2 0, 121, .inl (upd gr y_44.toNatClampNeg r_35)))], [(mo, .inr (11, [.ref m_all, .ref m_has, .int i_size, .int j_next_18, .int j_where_19, .int j_token_20, .int j_number_21, .int j_word_22, .int j_wrong_23, .int j_farCrossing_24, .ref m_read, .int i_z0, .int i_crossings, .int i_inns, .ref m_posts, .ref m_shut, .ref m_here, .int i_steps, .int i_done, .int i_at, .int i_gone, .ref m_was, .ref m_came, .ref m_seenAt, .ref m_rowWorth, .ref m_farBy, .ref m_used, .int i_everywhere, .int i_again0, .int i_d0, .int i_never, .int i_firstCame, .int i_longRun, .int i_moved, .int i_crowd, .int i_l0, .int i_fitMany, .int i_fitLeast, .int i_fitMost, .ref m_fitPost, .ref m_fitEnd, .ref m_keptPosts, .int i_x0]))], [(m_all, .inl (T.2 0, 3952, .inl g_all_25))]] _ _ := G
              have hcl9 := z_clI (x := y_44) (by omega)
              have hrow : upd gr y_44.toNatClampNeg r_35 = pRow k j A9 gr := pRow_y (by omega) (by omega) (by omega) h_34
              refine lv_iload_n hx hb dX12_crossTold_88 rfl (lv_at hl 1 rfl) ?_
              refine lv_iconst (v := 4) hx hb dX12_crossTold_89 (by decide) ?_
              refine lv_icmp_ge (tgt := 99) hx hb dX12_crossTold_90 (by decide) (fun q => absurd q c_40) (fun _ => ?_)
              refine lv_iload_n hx hb dX12_crossTold_93 rfl (lv_at hl 1 rfl) ?_
              refine lv_iconst (v := 1) hx hb dX12_crossTold_94 (by decide) ?_
              refine lv_iadd hx hb dX12_crossTold_95 ?_
              refine lv_topi (fun y_45 ey_45 => ?_)
              obtain rfl : y_45 = nI (nn + 1) := ey_45.trans (z_iaddn nn 1 rfl rfl)
              refine lv_goto (tgt := 100) hx hb dX12_crossTold_96 (by decide) ?_
              refine lv_istore_n (lv' := [(2, .int (nI (nn + 1))), (3, .int r_35), (0, .ref mo), (1, .int at_)]) hx hb dX12_crossTold_100 rfl hl (by decide) rfl (fun ls hl => ?_)
              refine lv_goto (tgt := 19) hx hb dX12_crossTold_101 (by decide) ?_
              have G := G.sub (bs' := [[(mo, .inr (11, [.ref m_all, .ref m_has, .int i_size, .int j_next_18, .int j_where_19, .int j_token_20, .int j_number_21, .int j_word_22, .int j_wrong_23, .int j_farCrossing_24, .ref m_read, .int i_z0, .int i_crossings, .int i_inns, .ref m_posts, .ref m_shut, .ref m_here, .int i_steps, .int i_done, .int i_at, .int i_gone, .ref m_was, .ref m_came, .ref m_seenAt, .ref m_rowWorth, .ref m_farBy, .ref m_used, .int i_everywhere, .int i_again0, .int i_d0, .int i_never, .int i_firstCame, .int i_longRun, .int i_moved, .int i_crowd, .int i_l0, .int i_fitMany, .int i_fitLeast, .int i_fitMost, .ref m_fitPost, .ref m_fitEnd, .ref m_keptPosts, .int i_x0]))], [(m_all, .inl (T.2 0, 3952, .inl g_all_25))], [(m_read, .inl (T.2 0, 121, .inl (upd gr y_44.toNatClampNeg r_35)))]]) [1, 2, 0] rfl
              exact ih_19 (j_next_18, j_where_19, j_token_20, j_number_21, j_word_22, j_wrong_23, j_farCrossing_24, g_all_25, (upd gr y_44.toNatClampNeg r_35), (nn + 1), ((pCr k (pAt k j A9)).2), (j + 1)) (show (nn + 1) ≤ 4 ∧ zLF (upd gr y_44.toNatClampNeg r_35) ∧ i_next.toInt ≤ j_next_18.toInt ∧ j_next_18.toInt ≤ i_size.toInt ∧ zPal f_all g_all_25 ∧ zRr k n i_size j_next_18 j_where_19 j_token_20 j_number_21 j_word_22 j_wrong_23 j_farCrossing_24 g_all_25 ((pCr k (pAt k j A9)).2) ∧ (nn + 1) = min (j + 1) 4 ∧ (j + 1) ≤ ((pCr k (pAt k j A9)).2).1 ∧ pRoads k (601 - (j + 1)) (min (j + 1) 4) ((pCr k (pAt k j A9)).2) (upd gr y_44.toNatClampNeg r_35) = pRoads k 601 0 b f_read ∧ (upd gr y_44.toNatClampNeg r_35) 0 = f_read 0 from ⟨by omega, (zLF_upd (k := y_44.toNatClampNeg) (v := r_35) (by assumption) (by have q9 := z_clI (x := y_44) (by omega); omega) (by have q9 := z_clI (x := y_44) (by omega); omega) (by have q9 := z_clI (x := y_44) (by omega); omega) (by have q9 := z_clI (x := y_44) (by omega); omega) (by have q9 := z_clI (x := y_44) (by omega); omega)), by omega, by omega, (hpal.tr h_30), h_33, by omega, hst.2.1, (by rw [hrow]; exact pRoads_n (by omega) hwA htA hEq), (by rw [hrow]; exact hst.2.2)⟩) (show zMu j_wrong_23 j_token_20 j_next_18 i_size < zMu xr xt xn i_size from zMu_lt (by omega) (by omega) (by omega) (by omega)) _ _ ls G (lv_sub hl [0, 2, 3] rfl)
        · have c_17n : nn = 4 := (nI_eq (a := nn) (b := 4) (by omega) (by omega)).mp c_17
          refine lv_aload_n hx hb dX12_crossTold_39 rfl (lv_at hl 1 rfl) ?_
          refine lv_iconst (v := 3) hx hb dX12_crossTold_40 (by decide) ?_
          refine lv_aload_n hx hb dX12_crossTold_41 rfl (lv_at hl 1 rfl) ?_
          refine z_get C G clX12 0 rfl 4 (by decide) m_fl_RX12_77 rfl dX12_crossTold_42 ?_
          refine z_Vv (bc := [[(mo, .inr (11, [.ref m_all, .ref m_has, .int i_size, .int xn, .int xw, .int xt, .int xu, .int xo, .int xr, .int xf, .ref m_read, .int i_z0, .int i_crossings, .int i_inns, .ref m_posts, .ref m_shut, .ref m_here, .int i_steps, .int i_done, .int i_at, .int i_gone, .ref m_was, .ref m_came, .ref m_seenAt, .ref m_rowWorth, .ref m_farBy, .ref m_used, .int i_everywhere, .int i_again0, .int i_d0, .int i_never, .int i_firstCame, .int i_longRun, .int i_moved, .int i_crowd, .int i_l0, .int i_fitMany, .int i_fitLeast, .int i_fitMost, .ref m_fitPost, .ref m_fitEnd, .ref m_keptPosts, .int i_x0]))], [(m_all, .inl (T.2 0, 3952, .inl ga))]]) (br := [[(m_read, .inl (T.2 0, 121, .inl gr))]]) (As := [.int 3, .int xw]) (rest := []) C G (c_fm_also l T mo m_all m_has i_size xn xw xt xu xo xr xf m_read i_z0 i_crossings i_inns m_posts m_shut m_here i_steps i_done i_at i_gone m_was m_came m_seenAt m_rowWorth m_farBy m_used i_everywhere i_again0 i_d0 i_never i_firstCame i_longRun i_moved i_crowd i_l0 i_fitMany i_fitLeast i_fitMost m_fitPost m_fitEnd m_keptPosts i_x0 ga 3 xw) (kV_RX12_115 C.2.2.2.2 (Nat.le_of_ble_eq_true rfl) (Nat.le_of_ble_eq_true rfl)) [0, 1] [2] rfl rfl (ci := 11) (qc := (RX12, TX12, 43)) rfl rfl (List.mem_flatten.mpr ⟨_, List.mem_of_getElem? (i := 0) rfl, List.mem_cons_self⟩) rfl rfl hl.1 dX12_crossTold_45 (Nat.le_of_ble_eq_true rfl) (Nat.le_of_ble_eq_true rfl) (fun b1 H locs hw G => ?_)
          obtain ⟨g_all_46, rfl, h_47, h_48⟩ := hw
          have G : zS T A s.heap s [[(m_read, .inl (T.2 0, 121, .inl gr))], [(mo, .inr (11, [.ref m_all, .ref m_has, .int i_size, .int xn, .int xw, .int xt, .int xu, .int xo, .int xr, .int xf, .ref m_read, .int i_z0, .int i_crossings, .int i_inns, .ref m_posts, .ref m_shut, .ref m_here, .int i_steps, .int i_done, .int i_at, .int i_gone, .ref m_was, .ref m_came, .ref m_seenAt, .ref m_rowWorth, .ref m_farBy, .ref m_used, .int i_everywhere, .int i_again0, .int i_d0, .int i_never, .int i_firstCame, .int i_longRun, .int i_moved, .int i_crowd, .int i_l0, .int i_fitMany, .int i_fitLeast, .int i_fitMost, .ref m_fitPost, .ref m_fitEnd, .ref m_keptPosts, .int i_x0]))], [(m_all, .inl (T.2 0, 3952, .inl g_all_46))]] _ _ := G
          have h_48 : g_all_46 = (if ¬ xr.toInt = 0 ∨ (¬ (ga 5).toInt = 0 ∧ ((ga 6).toInt < xw.toInt ∨ ((ga 6).toInt = xw.toInt ∧ (ga 5).toInt ≤ (3 : Int)))) then ga else upd (upd ga 5 3) 6 xw) := h_48
          have hX : zRr k n i_size xn xw xt xu xo xr xf g_all_46 (pAt k j A9) := by rw [pAt_y (by omega), ← t2A]; exact zRr_also (kd := 3) (w := xw) hRA h_48
          refine lv_aload_n hx hb dX12_crossTold_48 rfl (lv_at hl 1 rfl) ?_
          refine z_Vi (bc := [[(mo, .inr (11, [.ref m_all, .ref m_has, .int i_size, .int xn, .int xw, .int xt, .int xu, .int xo, .int xr, .int xf, .ref m_read, .int i_z0, .int i_crossings, .int i_inns, .ref m_posts, .ref m_shut, .ref m_here, .int i_steps, .int i_done, .int i_at, .int i_gone, .ref m_was, .ref m_came, .ref m_seenAt, .ref m_rowWorth, .ref m_farBy, .ref m_used, .int i_everywhere, .int i_again0, .int i_d0, .int i_never, .int i_firstCame, .int i_longRun, .int i_moved, .int i_crowd, .int i_l0, .int i_fitMany, .int i_fitLeast, .int i_fitMost, .ref m_fitPost, .ref m_fitEnd, .ref m_keptPosts, .int i_x0]))], [(m_all, .inl (T.2 0, 3952, .inl g_all_46))]]) (br := [[(m_read, .inl (T.2 0, 121, .inl gr))]]) (As := []) (rest := []) C G (c_fm_crossingTold l T mo m_all m_has i_size xn xw xt xu xo xr xf m_read i_z0 i_crossings i_inns m_posts m_shut m_here i_steps i_done i_at i_gone m_was m_came m_seenAt m_rowWorth m_farBy m_used i_everywhere i_again0 i_d0 i_never i_firstCame i_longRun i_moved i_crowd i_l0 i_fitMany i_fitLeast i_fitMost m_fitPost m_fitEnd m_keptPosts i_x0 g_all_46 k n (pAt k j A9) (by first | assumption | omega | rfl) (by first | assumption | omega | rfl) (by first | assumption | omega | rfl) hX) (kV_RX12_129 C.2.2.2.2 (Nat.le_of_ble_eq_true rfl) (Nat.le_of_ble_eq_true rfl)) [1, 2] [0] rfl rfl (ci := 11) (qc := (RX12, TX12, 43)) rfl rfl (List.mem_flatten.mpr ⟨_, List.mem_of_getElem? (i := 0) rfl, List.mem_cons_self⟩) rfl rfl hl.1 dX12_crossTold_49 (Nat.le_of_ble_eq_true rfl) (Nat.le_of_ble_eq_true rfl) (fun r_67 b1 H locs hw G => ?_)
          obtain ⟨j_next_50, j_where_51, j_token_52, j_number_53, j_word_54, j_wrong_55, j_farCrossing_56, g_all_57, rfl, h_58, h_59, h_60, h_61, h_62, h_63, h_64, h_65, h_66⟩ := hw
          have G : zS T A s.heap s [[(m_read, .inl (T.2 0, 121, .inl gr))], [(mo, .inr (11, [.ref m_all, .ref m_has, .int i_size, .int j_next_50, .int j_where_51, .int j_token_52, .int j_number_53, .int j_word_54, .int j_wrong_55, .int j_farCrossing_56, .ref m_read, .int i_z0, .int i_crossings, .int i_inns, .ref m_posts, .ref m_shut, .ref m_here, .int i_steps, .int i_done, .int i_at, .int i_gone, .ref m_was, .ref m_came, .ref m_seenAt, .ref m_rowWorth, .ref m_farBy, .ref m_used, .int i_everywhere, .int i_again0, .int i_d0, .int i_never, .int i_firstCame, .int i_longRun, .int i_moved, .int i_crowd, .int i_l0, .int i_fitMany, .int i_fitLeast, .int i_fitMost, .ref m_fitPost, .ref m_fitEnd, .ref m_keptPosts, .int i_x0]))], [(m_all, .inl (T.2 0, 3952, .inl g_all_57))]] _ _ := G
          refine lv_istore_n (lv' := [(3, .int r_67), (2, .int (nI nn)), (0, .ref mo), (1, .int at_)]) hx hb dX12_crossTold_52 rfl hl (by decide) rfl (fun ls hl => ?_)
          refine lv_aload_n hx hb dX12_crossTold_53 rfl (lv_at hl 2 rfl) ?_
          refine z_get C G clX12 1 rfl 10 (by decide) m_fl_RX12_17 rfl dX12_crossTold_54 ?_
          refine lv_iconst (v := 0) hx hb dX12_crossTold_57 (by decide) ?_
          refine z_ild C G 0 rfl (vp_in_nI (n := 0) (by decide) (by decide)) dX12_crossTold_58 ?_
          refine lv_topi (fun v_68 ev_68 => ?_)
          rw [show ((0 : Int32).toNatClampNeg) = 0 from rfl] at ev_68
          subst ev_68
          refine lv_bipush (v := 7) hx hb dX12_crossTold_59 (by decide) ?_
          refine lv_icmp_ge (tgt := 88) hx hb dX12_crossTold_61 (by decide) (fun c_69 => ?_) (fun c_69 => ?_)
          · have c_69n : (7 : Int) ≤ (gr 0).toInt := (fa_le _ _).mp c_69
            have hrow : gr = pRow k j A9 gr := pRow_n (by omega)
            refine lv_iload_n hx hb dX12_crossTold_88 rfl (lv_at hl 1 rfl) ?_
            refine lv_iconst (v := 4) hx hb dX12_crossTold_89 (by decide) ?_
            refine lv_icmp_ge (tgt := 99) hx hb dX12_crossTold_90 (by decide) (fun c_70 => ?_) (fun c_70 => ?_)
            · have c_70n : 4 ≤ nn := (nI_leI (a := 4) (b := nn) (by omega) (by omega)).mp c_70
              refine lv_iconst (v := 4) hx hb dX12_crossTold_99 (by decide) ?_
              refine lv_istore_n (lv' := [(2, .int 4), (3, .int r_67), (0, .ref mo), (1, .int at_)]) hx hb dX12_crossTold_100 rfl hl (by decide) rfl (fun ls hl => ?_)
              refine lv_goto (tgt := 19) hx hb dX12_crossTold_101 (by decide) ?_
              have G := G.sub (bs' := [[(mo, .inr (11, [.ref m_all, .ref m_has, .int i_size, .int j_next_50, .int j_where_51, .int j_token_52, .int j_number_53, .int j_word_54, .int j_wrong_55, .int j_farCrossing_56, .ref m_read, .int i_z0, .int i_crossings, .int i_inns, .ref m_posts, .ref m_shut, .ref m_here, .int i_steps, .int i_done, .int i_at, .int i_gone, .ref m_was, .ref m_came, .ref m_seenAt, .ref m_rowWorth, .ref m_farBy, .ref m_used, .int i_everywhere, .int i_again0, .int i_d0, .int i_never, .int i_firstCame, .int i_longRun, .int i_moved, .int i_crowd, .int i_l0, .int i_fitMany, .int i_fitLeast, .int i_fitMost, .ref m_fitPost, .ref m_fitEnd, .ref m_keptPosts, .int i_x0]))], [(m_all, .inl (T.2 0, 3952, .inl g_all_57))], [(m_read, .inl (T.2 0, 121, .inl gr))]]) [1, 2, 0] rfl
              exact ih_19 (j_next_50, j_where_51, j_token_52, j_number_53, j_word_54, j_wrong_55, j_farCrossing_56, g_all_57, gr, 4, ((pCr k (pAt k j A9)).2), (j + 1)) (show 4 ≤ 4 ∧ zLF gr ∧ i_next.toInt ≤ j_next_50.toInt ∧ j_next_50.toInt ≤ i_size.toInt ∧ zPal f_all g_all_57 ∧ zRr k n i_size j_next_50 j_where_51 j_token_52 j_number_53 j_word_54 j_wrong_55 j_farCrossing_56 g_all_57 ((pCr k (pAt k j A9)).2) ∧ 4 = min (j + 1) 4 ∧ (j + 1) ≤ ((pCr k (pAt k j A9)).2).1 ∧ pRoads k (601 - (j + 1)) (min (j + 1) 4) ((pCr k (pAt k j A9)).2) gr = pRoads k 601 0 b f_read ∧ gr 0 = f_read 0 from ⟨by omega, (by assumption), by omega, by omega, (hpal.tr (h_47.tr h_62)), h_65, by omega, hst.2.1, (by rw [hrow]; exact pRoads_n (by omega) hwA htA hEq), (by rw [hrow]; exact hst.2.2)⟩) (show zMu j_wrong_55 j_token_52 j_next_50 i_size < zMu xr xt xn i_size from zMu_lt (by omega) (by omega) (by omega) (by omega)) _ _ ls G (lv_sub hl [0, 2, 3] rfl)
            · have c_70n : ¬ 4 ≤ nn := fun q => c_70 ((nI_leI (a := 4) (b := nn) (by omega) (by omega)).mpr q)
              refine lv_iload_n hx hb dX12_crossTold_93 rfl (lv_at hl 1 rfl) ?_
              refine lv_iconst (v := 1) hx hb dX12_crossTold_94 (by decide) ?_
              refine lv_iadd hx hb dX12_crossTold_95 ?_
              refine lv_topi (fun y_71 ey_71 => ?_)
              obtain rfl : y_71 = nI (nn + 1) := ey_71.trans (z_iaddn nn 1 rfl rfl)
              refine lv_goto (tgt := 100) hx hb dX12_crossTold_96 (by decide) ?_
              refine lv_istore_n (lv' := [(2, .int (nI (nn + 1))), (3, .int r_67), (0, .ref mo), (1, .int at_)]) hx hb dX12_crossTold_100 rfl hl (by decide) rfl (fun ls hl => ?_)
              refine lv_goto (tgt := 19) hx hb dX12_crossTold_101 (by decide) ?_
              have G := G.sub (bs' := [[(mo, .inr (11, [.ref m_all, .ref m_has, .int i_size, .int j_next_50, .int j_where_51, .int j_token_52, .int j_number_53, .int j_word_54, .int j_wrong_55, .int j_farCrossing_56, .ref m_read, .int i_z0, .int i_crossings, .int i_inns, .ref m_posts, .ref m_shut, .ref m_here, .int i_steps, .int i_done, .int i_at, .int i_gone, .ref m_was, .ref m_came, .ref m_seenAt, .ref m_rowWorth, .ref m_farBy, .ref m_used, .int i_everywhere, .int i_again0, .int i_d0, .int i_never, .int i_firstCame, .int i_longRun, .int i_moved, .int i_crowd, .int i_l0, .int i_fitMany, .int i_fitLeast, .int i_fitMost, .ref m_fitPost, .ref m_fitEnd, .ref m_keptPosts, .int i_x0]))], [(m_all, .inl (T.2 0, 3952, .inl g_all_57))], [(m_read, .inl (T.2 0, 121, .inl gr))]]) [1, 2, 0] rfl
              exact ih_19 (j_next_50, j_where_51, j_token_52, j_number_53, j_word_54, j_wrong_55, j_farCrossing_56, g_all_57, gr, (nn + 1), ((pCr k (pAt k j A9)).2), (j + 1)) (show (nn + 1) ≤ 4 ∧ zLF gr ∧ i_next.toInt ≤ j_next_50.toInt ∧ j_next_50.toInt ≤ i_size.toInt ∧ zPal f_all g_all_57 ∧ zRr k n i_size j_next_50 j_where_51 j_token_52 j_number_53 j_word_54 j_wrong_55 j_farCrossing_56 g_all_57 ((pCr k (pAt k j A9)).2) ∧ (nn + 1) = min (j + 1) 4 ∧ (j + 1) ≤ ((pCr k (pAt k j A9)).2).1 ∧ pRoads k (601 - (j + 1)) (min (j + 1) 4) ((pCr k (pAt k j A9)).2) gr = pRoads k 601 0 b f_read ∧ gr 0 = f_read 0 from ⟨by omega, (by assumption), by omega, by omega, (hpal.tr (h_47.tr h_62)), h_65, by omega, hst.2.1, (by rw [hrow]; exact pRoads_n (by omega) hwA htA hEq), (by rw [hrow]; exact hst.2.2)⟩) (show zMu j_wrong_55 j_token_52 j_next_50 i_size < zMu xr xt xn i_size from zMu_lt (by omega) (by omega) (by omega) (by omega)) _ _ ls G (lv_sub hl [0, 2, 3] rfl)
          · have c_69n : ¬ (7 : Int) ≤ (gr 0).toInt := fun q => c_69 ((fa_le _ _).mpr q)
            refine lv_iload_n hx hb dX12_crossTold_64 rfl (lv_at hl 1 rfl) ?_
            refine lv_iconst (v := 4) hx hb dX12_crossTold_65 (by decide) ?_
            refine lv_icmp_ge (tgt := 88) hx hb dX12_crossTold_66 (by decide) (fun c_72 => ?_) (fun c_72 => ?_)
            · have c_72n : 4 ≤ nn := (nI_leI (a := 4) (b := nn) (by omega) (by omega)).mp c_72
              have hrow : gr = pRow k j A9 gr := pRow_n (by omega)
              refine lv_iload_n hx hb dX12_crossTold_88 rfl (lv_at hl 1 rfl) ?_
              refine lv_iconst (v := 4) hx hb dX12_crossTold_89 (by decide) ?_
              refine lv_icmp_ge (tgt := 99) hx hb dX12_crossTold_90 (by decide) (fun _ => ?_) (fun q => absurd c_72 q)
              refine lv_iconst (v := 4) hx hb dX12_crossTold_99 (by decide) ?_
              refine lv_istore_n (lv' := [(2, .int 4), (3, .int r_67), (0, .ref mo), (1, .int at_)]) hx hb dX12_crossTold_100 rfl hl (by decide) rfl (fun ls hl => ?_)
              refine lv_goto (tgt := 19) hx hb dX12_crossTold_101 (by decide) ?_
              have G := G.sub (bs' := [[(mo, .inr (11, [.ref m_all, .ref m_has, .int i_size, .int j_next_50, .int j_where_51, .int j_token_52, .int j_number_53, .int j_word_54, .int j_wrong_55, .int j_farCrossing_56, .ref m_read, .int i_z0, .int i_crossings, .int i_inns, .ref m_posts, .ref m_shut, .ref m_here, .int i_steps, .int i_done, .int i_at, .int i_gone, .ref m_was, .ref m_came, .ref m_seenAt, .ref m_rowWorth, .ref m_farBy, .ref m_used, .int i_everywhere, .int i_again0, .int i_d0, .int i_never, .int i_firstCame, .int i_longRun, .int i_moved, .int i_crowd, .int i_l0, .int i_fitMany, .int i_fitLeast, .int i_fitMost, .ref m_fitPost, .ref m_fitEnd, .ref m_keptPosts, .int i_x0]))], [(m_all, .inl (T.2 0, 3952, .inl g_all_57))], [(m_read, .inl (T.2 0, 121, .inl gr))]]) [1, 2, 0] rfl
              exact ih_19 (j_next_50, j_where_51, j_token_52, j_number_53, j_word_54, j_wrong_55, j_farCrossing_56, g_all_57, gr, 4, ((pCr k (pAt k j A9)).2), (j + 1)) (show 4 ≤ 4 ∧ zLF gr ∧ i_next.toInt ≤ j_next_50.toInt ∧ j_next_50.toInt ≤ i_size.toInt ∧ zPal f_all g_all_57 ∧ zRr k n i_size j_next_50 j_where_51 j_token_52 j_number_53 j_word_54 j_wrong_55 j_farCrossing_56 g_all_57 ((pCr k (pAt k j A9)).2) ∧ 4 = min (j + 1) 4 ∧ (j + 1) ≤ ((pCr k (pAt k j A9)).2).1 ∧ pRoads k (601 - (j + 1)) (min (j + 1) 4) ((pCr k (pAt k j A9)).2) gr = pRoads k 601 0 b f_read ∧ gr 0 = f_read 0 from ⟨by omega, (by assumption), by omega, by omega, (hpal.tr (h_47.tr h_62)), h_65, by omega, hst.2.1, (by rw [hrow]; exact pRoads_n (by omega) hwA htA hEq), (by rw [hrow]; exact hst.2.2)⟩) (show zMu j_wrong_55 j_token_52 j_next_50 i_size < zMu xr xt xn i_size from zMu_lt (by omega) (by omega) (by omega) (by omega)) _ _ ls G (lv_sub hl [0, 2, 3] rfl)
            · have c_72n : ¬ 4 ≤ nn := fun q => c_72 ((nI_leI (a := 4) (b := nn) (by omega) (by omega)).mpr q)
              refine lv_aload_n hx hb dX12_crossTold_69 rfl (lv_at hl 2 rfl) ?_
              refine z_get C G clX12 1 rfl 10 (by decide) m_fl_RX12_17 rfl dX12_crossTold_70 ?_
              refine lv_bipush (v := 23) hx hb dX12_crossTold_73 (by decide) ?_
              refine lv_iconst (v := 4) hx hb dX12_crossTold_75 (by decide) ?_
              refine lv_aload_n hx hb dX12_crossTold_76 rfl (lv_at hl 2 rfl) ?_
              refine z_get C G clX12 1 rfl 10 (by decide) m_fl_RX12_17 rfl dX12_crossTold_77 ?_
              refine lv_iconst (v := 0) hx hb dX12_crossTold_80 (by decide) ?_
              refine z_ild C G 0 rfl (vp_in_nI (n := 0) (by decide) (by decide)) dX12_crossTold_81 ?_
              refine lv_topi (fun v_73 ev_73 => ?_)
              rw [show ((0 : Int32).toNatClampNeg) = 0 from rfl] at ev_73
              subst ev_73
              refine lv_imul hx hb dX12_crossTold_82 ?_
              refine lv_topi (fun y_74 ey_74 => ?_)
              have ey_74i : y_74.toInt = (4 : Int) * (gr 0).toInt := by rw [ey_74]; exact z_imulI (x := (4 : Int32)) (y := (gr 0)) (by show -2147483648 ≤ (4 : Int) * (gr 0).toInt; omega) (by show (4 : Int) * (gr 0).toInt < 2147483648; omega)
              refine lv_iadd hx hb dX12_crossTold_83 ?_
              refine lv_topi (fun y_75 ey_75 => ?_)
              have ey_75i : y_75.toInt = (23 : Int) + y_74.toInt := by rw [ey_75]; exact z_iaddI (x := (23 : Int32)) (y := y_74) (by show -2147483648 ≤ (23 : Int) + y_74.toInt; omega) (by show (23 : Int) + y_74.toInt < 2147483648; omega)
              refine lv_iload_n hx hb dX12_crossTold_84 rfl (lv_at hl 1 rfl) ?_
              refine lv_iadd hx hb dX12_crossTold_85 ?_
              refine lv_topi (fun y_76 ey_76 => ?_)
              have ey_76i : y_76.toInt = y_75.toInt + (nn : Int) := by rw [ey_76]; exact (z_iaddI (x := y_75) (y := (nI nn)) (by rw [nI_toInt (n := nn) (by omega)]; show -2147483648 ≤ y_75.toInt + (nn : Int); omega) (by rw [nI_toInt (n := nn) (by omega)]; show y_75.toInt + (nn : Int) < 2147483648; omega)).trans (by rw [nI_toInt (n := nn) (by omega)] <;> rfl)
              refine lv_iload_n hx hb dX12_crossTold_86 rfl (lv_at hl 0 rfl) ?_
              refine z_ist C G 0 rfl (vp_in_iff.mpr ⟨by omega, by omega⟩) dX12_crossTold_87 (fun H locs G => ?_)
              have G : zS T A s.heap s [[(m_read, .inl (T.2 0, 121, .inl (upd gr y_76.toNatClampNeg r_67)))], [(mo, .inr (11, [.ref m_all, .ref m_has, .int i_size, .int j_next_50, .int j_where_51, .int j_token_52, .int j_number_53, .int j_word_54, .int j_wrong_55, .int j_farCrossing_56, .ref m_read, .int i_z0, .int i_crossings, .int i_inns, .ref m_posts, .ref m_shut, .ref m_here, .int i_steps, .int i_done, .int i_at, .int i_gone, .ref m_was, .ref m_came, .ref m_seenAt, .ref m_rowWorth, .ref m_farBy, .ref m_used, .int i_everywhere, .int i_again0, .int i_d0, .int i_never, .int i_firstCame, .int i_longRun, .int i_moved, .int i_crowd, .int i_l0, .int i_fitMany, .int i_fitLeast, .int i_fitMost, .ref m_fitPost, .ref m_fitEnd, .ref m_keptPosts, .int i_x0]))], [(m_all, .inl (T.2 0, 3952, .inl g_all_57))]] _ _ := G
              have hcl9 := z_clI (x := y_76) (by omega)
              have hrow : upd gr y_76.toNatClampNeg r_67 = pRow k j A9 gr := pRow_y (by omega) (by omega) (by omega) h_66
              refine lv_iload_n hx hb dX12_crossTold_88 rfl (lv_at hl 1 rfl) ?_
              refine lv_iconst (v := 4) hx hb dX12_crossTold_89 (by decide) ?_
              refine lv_icmp_ge (tgt := 99) hx hb dX12_crossTold_90 (by decide) (fun q => absurd q c_72) (fun _ => ?_)
              refine lv_iload_n hx hb dX12_crossTold_93 rfl (lv_at hl 1 rfl) ?_
              refine lv_iconst (v := 1) hx hb dX12_crossTold_94 (by decide) ?_
              refine lv_iadd hx hb dX12_crossTold_95 ?_
              refine lv_topi (fun y_77 ey_77 => ?_)
              obtain rfl : y_77 = nI (nn + 1) := ey_77.trans (z_iaddn nn 1 rfl rfl)
              refine lv_goto (tgt := 100) hx hb dX12_crossTold_96 (by decide) ?_
              refine lv_istore_n (lv' := [(2, .int (nI (nn + 1))), (3, .int r_67), (0, .ref mo), (1, .int at_)]) hx hb dX12_crossTold_100 rfl hl (by decide) rfl (fun ls hl => ?_)
              refine lv_goto (tgt := 19) hx hb dX12_crossTold_101 (by decide) ?_
              have G := G.sub (bs' := [[(mo, .inr (11, [.ref m_all, .ref m_has, .int i_size, .int j_next_50, .int j_where_51, .int j_token_52, .int j_number_53, .int j_word_54, .int j_wrong_55, .int j_farCrossing_56, .ref m_read, .int i_z0, .int i_crossings, .int i_inns, .ref m_posts, .ref m_shut, .ref m_here, .int i_steps, .int i_done, .int i_at, .int i_gone, .ref m_was, .ref m_came, .ref m_seenAt, .ref m_rowWorth, .ref m_farBy, .ref m_used, .int i_everywhere, .int i_again0, .int i_d0, .int i_never, .int i_firstCame, .int i_longRun, .int i_moved, .int i_crowd, .int i_l0, .int i_fitMany, .int i_fitLeast, .int i_fitMost, .ref m_fitPost, .ref m_fitEnd, .ref m_keptPosts, .int i_x0]))], [(m_all, .inl (T.2 0, 3952, .inl g_all_57))], [(m_read, .inl (T.2 0, 121, .inl (upd gr y_76.toNatClampNeg r_67)))]]) [1, 2, 0] rfl
              exact ih_19 (j_next_50, j_where_51, j_token_52, j_number_53, j_word_54, j_wrong_55, j_farCrossing_56, g_all_57, (upd gr y_76.toNatClampNeg r_67), (nn + 1), ((pCr k (pAt k j A9)).2), (j + 1)) (show (nn + 1) ≤ 4 ∧ zLF (upd gr y_76.toNatClampNeg r_67) ∧ i_next.toInt ≤ j_next_50.toInt ∧ j_next_50.toInt ≤ i_size.toInt ∧ zPal f_all g_all_57 ∧ zRr k n i_size j_next_50 j_where_51 j_token_52 j_number_53 j_word_54 j_wrong_55 j_farCrossing_56 g_all_57 ((pCr k (pAt k j A9)).2) ∧ (nn + 1) = min (j + 1) 4 ∧ (j + 1) ≤ ((pCr k (pAt k j A9)).2).1 ∧ pRoads k (601 - (j + 1)) (min (j + 1) 4) ((pCr k (pAt k j A9)).2) (upd gr y_76.toNatClampNeg r_67) = pRoads k 601 0 b f_read ∧ (upd gr y_76.toNatClampNeg r_67) 0 = f_read 0 from ⟨by omega, (zLF_upd (k := y_76.toNatClampNeg) (v := r_67) (by assumption) (by have q9 := z_clI (x := y_76) (by omega); omega) (by have q9 := z_clI (x := y_76) (by omega); omega) (by have q9 := z_clI (x := y_76) (by omega); omega) (by have q9 := z_clI (x := y_76) (by omega); omega) (by have q9 := z_clI (x := y_76) (by omega); omega)), by omega, by omega, (hpal.tr (h_47.tr h_62)), h_65, by omega, hst.2.1, (by rw [hrow]; exact pRoads_n (by omega) hwA htA hEq), (by rw [hrow]; exact hst.2.2)⟩) (show zMu j_wrong_55 j_token_52 j_next_50 i_size < zMu xr xt xn i_size from zMu_lt (by omega) (by omega) (by omega) (by omega)) _ _ ls G (lv_sub hl [0, 2, 3] rfl)
  · have c_2n : ¬ (f_read 0).toInt < (7 : Int) := fun q => c_2 ((fa_lt _ _).mpr q)
    refine lv_aload_n hx hb dX12_crossTold_11 rfl (lv_at hl 0 rfl) ?_
    refine lv_iconst (v := 3) hx hb dX12_crossTold_12 (by decide) ?_
    refine lv_iload_n hx hb dX12_crossTold_13 rfl (lv_at hl 1 rfl) ?_
    refine z_Vv (bc := [[(mo, .inr (11, [.ref m_all, .ref m_has, .int i_size, .int i_next, .int i_where, .int i_token, .int i_number, .int i_word, .int i_wrong, .int i_farCrossing, .ref m_read, .int i_z0, .int i_crossings, .int i_inns, .ref m_posts, .ref m_shut, .ref m_here, .int i_steps, .int i_done, .int i_at, .int i_gone, .ref m_was, .ref m_came, .ref m_seenAt, .ref m_rowWorth, .ref m_farBy, .ref m_used, .int i_everywhere, .int i_again0, .int i_d0, .int i_never, .int i_firstCame, .int i_longRun, .int i_moved, .int i_crowd, .int i_l0, .int i_fitMany, .int i_fitLeast, .int i_fitMost, .ref m_fitPost, .ref m_fitEnd, .ref m_keptPosts, .int i_x0]))], [(m_all, .inl (T.2 0, 3952, .inl f_all))]]) (br := [[(m_read, .inl (T.2 0, 121, .inl f_read))]]) (As := [.int 3, .int at_]) (rest := []) C G (c_fm_also l T mo m_all m_has i_size i_next i_where i_token i_number i_word i_wrong i_farCrossing m_read i_z0 i_crossings i_inns m_posts m_shut m_here i_steps i_done i_at i_gone m_was m_came m_seenAt m_rowWorth m_farBy m_used i_everywhere i_again0 i_d0 i_never i_firstCame i_longRun i_moved i_crowd i_l0 i_fitMany i_fitLeast i_fitMost m_fitPost m_fitEnd m_keptPosts i_x0 f_all 3 at_) (kV_RX12_115 C.2.2.2.2 (Nat.le_of_ble_eq_true rfl) (Nat.le_of_ble_eq_true rfl)) [0, 1] [2] rfl rfl (ci := 11) (qc := (RX12, TX12, 43)) rfl rfl (List.mem_flatten.mpr ⟨_, List.mem_of_getElem? (i := 0) rfl, List.mem_cons_self⟩) rfl rfl hl.1 dX12_crossTold_14 (Nat.le_of_ble_eq_true rfl) (Nat.le_of_ble_eq_true rfl) (fun b1 H locs hw G => ?_)
    obtain ⟨g_all_78, rfl, h_79, h_80⟩ := hw
    have G : zS T A s.heap s [[(m_read, .inl (T.2 0, 121, .inl f_read))], [(mo, .inr (11, [.ref m_all, .ref m_has, .int i_size, .int i_next, .int i_where, .int i_token, .int i_number, .int i_word, .int i_wrong, .int i_farCrossing, .ref m_read, .int i_z0, .int i_crossings, .int i_inns, .ref m_posts, .ref m_shut, .ref m_here, .int i_steps, .int i_done, .int i_at, .int i_gone, .ref m_was, .ref m_came, .ref m_seenAt, .ref m_rowWorth, .ref m_farBy, .ref m_used, .int i_everywhere, .int i_again0, .int i_d0, .int i_never, .int i_firstCame, .int i_longRun, .int i_moved, .int i_crowd, .int i_l0, .int i_fitMany, .int i_fitLeast, .int i_fitMost, .ref m_fitPost, .ref m_fitEnd, .ref m_keptPosts, .int i_x0]))], [(m_all, .inl (T.2 0, 3952, .inl g_all_78))]] _ _ := G
    have h_80 : g_all_78 = (if ¬ i_wrong.toInt = 0 ∨ (¬ (f_all 5).toInt = 0 ∧ ((f_all 6).toInt < at_.toInt ∨ ((f_all 6).toInt = at_.toInt ∧ (f_all 5).toInt ≤ (3 : Int)))) then f_all else upd (upd f_all 5 3) 6 at_) := h_80
    obtain ⟨b, hbq⟩ : ∃ b, b = pDB 7 at_ f_read a := ⟨_, rfl⟩
    have hAb : zRr k n i_size i_next i_where i_token i_number i_word i_wrong i_farCrossing g_all_78 b := by rw [hbq]; unfold pDB; rw [if_pos (by omega)]; exact zRr_also (kd := 3) (w := at_) hA h_80
    refine lv_iconst (v := 0) hx hb dX12_crossTold_17 (by decide) ?_
    refine lv_istore_n (lv' := [(2, .int 0), (0, .ref mo), (1, .int at_)]) hx hb dX12_crossTold_18 rfl hl (by decide) rfl (fun ls hl => ?_)
    refine z_loop (T := T) (α := Int32 × Int32 × Int32 × Int32 × Int32 × Int32 × Int32 × (Nat → Int32) × (Nat → Int32) × Nat × pS × Nat) 19 (fun (xn, xw, xt, xu, xo, xr, xf, ga, gr, nn, A9, j) => [[(m_read, .inl (T.2 0, 121, .inl gr))], [(mo, .inr (11, [.ref m_all, .ref m_has, .int i_size, .int xn, .int xw, .int xt, .int xu, .int xo, .int xr, .int xf, .ref m_read, .int i_z0, .int i_crossings, .int i_inns, .ref m_posts, .ref m_shut, .ref m_here, .int i_steps, .int i_done, .int i_at, .int i_gone, .ref m_was, .ref m_came, .ref m_seenAt, .ref m_rowWorth, .ref m_farBy, .ref m_used, .int i_everywhere, .int i_again0, .int i_d0, .int i_never, .int i_firstCame, .int i_longRun, .int i_moved, .int i_crowd, .int i_l0, .int i_fitMany, .int i_fitLeast, .int i_fitMost, .ref m_fitPost, .ref m_fitEnd, .ref m_keptPosts, .int i_x0]))], [(m_all, .inl (T.2 0, 3952, .inl ga))]]) (fun (xn, xw, xt, xu, xo, xr, xf, ga, gr, nn, A9, j) => [(2, .int (nI nn)), (0, .ref mo), (1, .int at_)]) (fun (xn, xw, xt, xu, xo, xr, xf, ga, gr, nn, A9, j) => nn ≤ 4 ∧ zLF gr ∧ i_next.toInt ≤ xn.toInt ∧ xn.toInt ≤ i_size.toInt ∧ zPal f_all ga ∧ zRr k n i_size xn xw xt xu xo xr xf ga A9 ∧ nn = min j 4 ∧ j ≤ A9.1 ∧ pRoads k (601 - j) (min j 4) A9 gr = pRoads k 601 0 b f_read ∧ gr 0 = f_read 0) (fun (xn, xw, xt, xu, xo, xr, xf, ga, gr, nn, A9, j) => zMu xr xt xn i_size) ?_ (i_next, i_where, i_token, i_number, i_word, i_wrong, i_farCrossing, g_all_78, f_read, 0, b, 0) (show 0 ≤ 4 ∧ zLF f_read ∧ i_next.toInt ≤ i_next.toInt ∧ i_next.toInt ≤ i_size.toInt ∧ zPal f_all g_all_78 ∧ zRr k n i_size i_next i_where i_token i_number i_word i_wrong i_farCrossing g_all_78 b ∧ 0 = min 0 4 ∧ 0 ≤ b.1 ∧ pRoads k (601 - 0) (min 0 4) b f_read = pRoads k 601 0 b f_read ∧ f_read 0 = f_read 0 from ⟨by omega, hR, by omega, by omega, h_79, hAb, by omega, (Nat.zero_le _), rfl, rfl⟩) G (lv_sub hl [0, 1, 2] rfl)
    rintro ⟨xn, xw, xt, xu, xo, xr, xf, ga, gr, nn, A9, j⟩ ⟨hn, hL, hx1, hx2, hpal, hRA, hnn, hpj, hEq, hf0⟩ ih_19 H locs ls G hl
    replace hn : nn ≤ 4 := hn
    replace hL : zLF gr := hL
    replace hx1 : i_next.toInt ≤ xn.toInt := hx1
    replace hx2 : xn.toInt ≤ i_size.toInt := hx2
    replace hpal : zPal f_all ga := hpal
    replace hRA : zRr k n i_size xn xw xt xu xo xr xf ga A9 := hRA
    replace hnn : nn = min j 4 := hnn
    replace hpj : j ≤ A9.1 := hpj
    replace hEq : pRoads k (601 - j) (min j 4) A9 gr = pRoads k 601 0 b f_read := hEq
    replace hf0 : gr 0 = f_read 0 := hf0
    replace G : zS T A s.heap s [[(m_read, .inl (T.2 0, 121, .inl gr))], [(mo, .inr (11, [.ref m_all, .ref m_has, .int i_size, .int xn, .int xw, .int xt, .int xu, .int xo, .int xr, .int xf, .ref m_read, .int i_z0, .int i_crossings, .int i_inns, .ref m_posts, .ref m_shut, .ref m_here, .int i_steps, .int i_done, .int i_at, .int i_gone, .ref m_was, .ref m_came, .ref m_seenAt, .ref m_rowWorth, .ref m_farBy, .ref m_used, .int i_everywhere, .int i_again0, .int i_d0, .int i_never, .int i_firstCame, .int i_longRun, .int i_moved, .int i_crowd, .int i_l0, .int i_fitMany, .int i_fitLeast, .int i_fitMost, .ref m_fitPost, .ref m_fitEnd, .ref m_keptPosts, .int i_x0]))], [(m_all, .inl (T.2 0, 3952, .inl ga))]] _ _ := G
    replace hl : lv_has ls 4 [(2, .int (nI nn)), (0, .ref mo), (1, .int at_)] := hl
    refine lv_aload_n hx hb dX12_crossTold_19 rfl (lv_at hl 1 rfl) ?_
    have hL0 : 0 ≤ (gr 0).toInt ∧ (gr 0).toInt ≤ 7 := hL.1
    have hokA := zRr_ok hRA
    obtain ⟨hA1A, hA6A, hA7A, hA8A, hA9A, hA10A⟩ := id hRA
    have hkaA := hokA A9.1 hA1A.2.2.2.2
    have hT4A := pTk_le hokA hA1A.2.2.2.2
    have hnn6 := hA1A.2.2.1
    have hpn9 := hA1A.2.2.2.2
    refine z_get C G clX12 1 rfl 8 (by decide) m_fl_RX12_104 rfl dX12_crossTold_20 ?_
    refine lv_if_ne (tgt := 104) hx hb dX12_crossTold_23 (by decide) (fun c_82 => ?_) (fun c_82 => ?_)
    · have c_82n : ¬ xr.toInt = (0 : Int) := fun q => c_82 ((fa_eq _ _).mpr q)
      have hpc := pCross_e (w := at_) hbq (hEq.symm.trans (pRoads_x (fun z9 => by first | (exact absurd z9.1 (by rw [← hA6A]; omega)) | omega)))
      have hf0i : (gr 0).toInt = (f_read 0).toInt := by rw [hf0]
      refine lv_aload_n hx hb dX12_crossTold_104 rfl (lv_at hl 1 rfl) ?_
      refine z_get C G clX12 1 rfl 10 (by decide) m_fl_RX12_17 rfl dX12_crossTold_105 ?_
      refine lv_iconst (v := 0) hx hb dX12_crossTold_108 (by decide) ?_
      refine z_ild C G 0 rfl (vp_in_nI (n := 0) (by decide) (by decide)) dX12_crossTold_109 ?_
      refine lv_topi (fun v_83 ev_83 => ?_)
      rw [show ((0 : Int32).toNatClampNeg) = 0 from rfl] at ev_83
      subst ev_83
      refine lv_bipush (v := 7) hx hb dX12_crossTold_110 (by decide) ?_
      refine lv_icmp_lt (tgt := 116) hx hb dX12_crossTold_112 (by decide) (fun c_84 => ?_) (fun c_84 => ?_)
      · have c_84n : (gr 0).toInt < (7 : Int) := (fa_lt _ _).mp c_84
        refine lv_aload_n hx hb dX12_crossTold_116 rfl (lv_at hl 1 rfl) ?_
        refine z_get C G clX12 1 rfl 10 (by decide) m_fl_RX12_17 rfl dX12_crossTold_117 ?_
        refine lv_iconst (v := 2) hx hb dX12_crossTold_120 (by decide) ?_
        refine lv_aload_n hx hb dX12_crossTold_121 rfl (lv_at hl 1 rfl) ?_
        refine z_get C G clX12 1 rfl 10 (by decide) m_fl_RX12_17 rfl dX12_crossTold_122 ?_
        refine lv_iconst (v := 0) hx hb dX12_crossTold_125 (by decide) ?_
        refine z_ild C G 0 rfl (vp_in_nI (n := 0) (by decide) (by decide)) dX12_crossTold_126 ?_
        refine lv_topi (fun v_85 ev_85 => ?_)
        rw [show ((0 : Int32).toNatClampNeg) = 0 from rfl] at ev_85
        subst ev_85
        refine lv_iadd hx hb dX12_crossTold_127 ?_
        refine lv_topi (fun y_86 ey_86 => ?_)
        have ey_86i : y_86.toInt = (2 : Int) + (gr 0).toInt := by rw [ey_86]; exact z_iaddI (x := (2 : Int32)) (y := (gr 0)) (by show -2147483648 ≤ (2 : Int) + (gr 0).toInt; omega) (by show (2 : Int) + (gr 0).toInt < 2147483648; omega)
        refine lv_iload_n hx hb dX12_crossTold_128 rfl (lv_at hl 0 rfl) ?_
        refine z_ist C G 0 rfl (vp_in_iff.mpr ⟨by omega, by omega⟩) dX12_crossTold_129 (fun H locs G => ?_)
        have G : zS T A s.heap s [[(m_read, .inl (T.2 0, 121, .inl (upd gr y_86.toNatClampNeg (nI nn))))], [(mo, .inr (11, [.ref m_all, .ref m_has, .int i_size, .int xn, .int xw, .int xt, .int xu, .int xo, .int xr, .int xf, .ref m_read, .int i_z0, .int i_crossings, .int i_inns, .ref m_posts, .ref m_shut, .ref m_here, .int i_steps, .int i_done, .int i_at, .int i_gone, .ref m_was, .ref m_came, .ref m_seenAt, .ref m_rowWorth, .ref m_farBy, .ref m_used, .int i_everywhere, .int i_again0, .int i_d0, .int i_never, .int i_firstCame, .int i_longRun, .int i_moved, .int i_crowd, .int i_l0, .int i_fitMany, .int i_fitLeast, .int i_fitMost, .ref m_fitPost, .ref m_fitEnd, .ref m_keptPosts, .int i_x0]))], [(m_all, .inl (T.2 0, 3952, .inl ga))]] _ _ := G
        refine lv_aload_n hx hb dX12_crossTold_130 rfl (lv_at hl 1 rfl) ?_
        refine z_get C G clX12 1 rfl 10 (by decide) m_fl_RX12_17 rfl dX12_crossTold_131 ?_
        refine lv_iconst (v := 0) hx hb dX12_crossTold_134 (by decide) ?_
        refine lv_dup2_11 hx hb dX12_crossTold_135 rfl rfl ?_
        refine z_ild C G 0 rfl (vp_in_nI (n := 0) (by decide) (by decide)) dX12_crossTold_136 ?_
        refine lv_topi (fun v_87 ev_87 => ?_)
        rw [show ((0 : Int32).toNatClampNeg) = 0 from rfl] at ev_87
        subst ev_87
        have hcl_y_86 := z_clI (x := y_86) (by omega)
        rw [show (upd gr y_86.toNatClampNeg (nI nn)) 0 = gr 0 from by unfold upd; rw [if_neg (by omega)]]
        refine lv_iconst (v := 1) hx hb dX12_crossTold_137 (by decide) ?_
        refine lv_iadd hx hb dX12_crossTold_138 ?_
        refine lv_topi (fun y_88 ey_88 => ?_)
        have ey_88i : y_88.toInt = (gr 0).toInt + (1 : Int) := by rw [ey_88]; exact z_iaddI (x := (gr 0)) (y := (1 : Int32)) (by show -2147483648 ≤ (gr 0).toInt + (1 : Int); omega) (by show (gr 0).toInt + (1 : Int) < 2147483648; omega)
        refine z_ist C G 0 rfl (vp_in_nI (n := 0) (by decide) (by decide)) dX12_crossTold_139 (fun H locs G => ?_)
        have G : zS T A s.heap s [[(m_read, .inl (T.2 0, 121, .inl (upd (upd gr y_86.toNatClampNeg (nI nn)) 0 y_88)))], [(mo, .inr (11, [.ref m_all, .ref m_has, .int i_size, .int xn, .int xw, .int xt, .int xu, .int xo, .int xr, .int xf, .ref m_read, .int i_z0, .int i_crossings, .int i_inns, .ref m_posts, .ref m_shut, .ref m_here, .int i_steps, .int i_done, .int i_at, .int i_gone, .ref m_was, .ref m_came, .ref m_seenAt, .ref m_rowWorth, .ref m_farBy, .ref m_used, .int i_everywhere, .int i_again0, .int i_d0, .int i_never, .int i_firstCame, .int i_longRun, .int i_moved, .int i_crowd, .int i_l0, .int i_fitMany, .int i_fitLeast, .int i_fitMost, .ref m_fitPost, .ref m_fitEnd, .ref m_keptPosts, .int i_x0]))], [(m_all, .inl (T.2 0, 3952, .inl ga))]] _ _ := G
        have G := G.sub (bs' := [[(mo, .inr (11, [.ref m_all, .ref m_has, .int i_size, .int xn, .int xw, .int xt, .int xu, .int xo, .int xr, .int xf, .ref m_read, .int i_z0, .int i_crossings, .int i_inns, .ref m_posts, .ref m_shut, .ref m_here, .int i_steps, .int i_done, .int i_at, .int i_gone, .ref m_was, .ref m_came, .ref m_seenAt, .ref m_rowWorth, .ref m_farBy, .ref m_used, .int i_everywhere, .int i_again0, .int i_d0, .int i_never, .int i_firstCame, .int i_longRun, .int i_moved, .int i_crowd, .int i_l0, .int i_fitMany, .int i_fitLeast, .int i_fitMost, .ref m_fitPost, .ref m_fitEnd, .ref m_keptPosts, .int i_x0]))], [(m_all, .inl (T.2 0, 3952, .inl ga))], [(m_read, .inl (T.2 0, 121, .inl (upd (upd gr y_86.toNatClampNeg (nI nn)) 0 y_88)))]]) [1, 2, 0] rfl
        exact z_vret C hr hlocks G (Nat.le_of_ble_eq_true rfl) (Nat.le_of_ble_eq_true rfl) dX12_crossTold_140 ⟨xn, xw, xt, xu, xo, xr, xf, ga, (upd (upd gr y_86.toNatClampNeg (nI nn)) 0 y_88), rfl, (by first | trivial | assumption | omega), (by first | trivial | assumption | omega), (by first | trivial | assumption | omega), hpal, (zLF_upd (k := 0) (v := y_88) (zLF_upd (k := y_86.toNatClampNeg) (v := (nI nn)) (by assumption) (by have q9 := z_clI (x := y_86) (by omega); have t9 := nI_toInt (n := nn) (by omega); omega) (by have q9 := z_clI (x := y_86) (by omega); have t9 := nI_toInt (n := nn) (by omega); omega) (by have q9 := z_clI (x := y_86) (by omega); have t9 := nI_toInt (n := nn) (by omega); omega) (by have q9 := z_clI (x := y_86) (by omega); have t9 := nI_toInt (n := nn) (by omega); omega) (by have q9 := z_clI (x := y_86) (by omega); have t9 := nI_toInt (n := nn) (by omega); omega)) (by omega) (by omega) (by omega) (by omega) (by omega)), (by rw [hpc]; exact hRA), (by rw [hpc]; show _ = (if 7 ≤ (f_read 0).toInt then gr else upd (upd gr (2 + (gr 0).toInt.toNat) (nI (min j 4))) 0 (gr 0 + 1)); rw [if_neg (by omega), ← hnn, ey_88]; exact congrArg (fun q9 => upd (upd gr q9 (nI nn)) 0 (gr 0 + 1)) (by have q9 := z_clI (x := y_86) (by omega); omega))⟩
      · have c_84n : ¬ (gr 0).toInt < (7 : Int) := fun q => c_84 ((fa_lt _ _).mpr q)
        have G := G.sub (bs' := [[(mo, .inr (11, [.ref m_all, .ref m_has, .int i_size, .int xn, .int xw, .int xt, .int xu, .int xo, .int xr, .int xf, .ref m_read, .int i_z0, .int i_crossings, .int i_inns, .ref m_posts, .ref m_shut, .ref m_here, .int i_steps, .int i_done, .int i_at, .int i_gone, .ref m_was, .ref m_came, .ref m_seenAt, .ref m_rowWorth, .ref m_farBy, .ref m_used, .int i_everywhere, .int i_again0, .int i_d0, .int i_never, .int i_firstCame, .int i_longRun, .int i_moved, .int i_crowd, .int i_l0, .int i_fitMany, .int i_fitLeast, .int i_fitMost, .ref m_fitPost, .ref m_fitEnd, .ref m_keptPosts, .int i_x0]))], [(m_all, .inl (T.2 0, 3952, .inl ga))], [(m_read, .inl (T.2 0, 121, .inl gr))]]) [1, 2, 0] rfl
        exact z_vret C hr hlocks G (Nat.le_of_ble_eq_true rfl) (Nat.le_of_ble_eq_true rfl) dX12_crossTold_115 ⟨xn, xw, xt, xu, xo, xr, xf, ga, gr, rfl, (by first | trivial | assumption | omega), (by first | trivial | assumption | omega), (by first | trivial | assumption | omega), hpal, (by first | trivial | assumption | omega), (by rw [hpc]; exact hRA), (by rw [hpc]; exact (if_pos (by omega)).symm)⟩
    · have c_82n : xr.toInt = (0 : Int) := (fa_eq _ _).mp c_82
      have hwA : A9.2.1.toInt = 0 := by rw [← hA6A]; omega
      obtain ⟨t1A, t2A, t3A, t4A, t5A⟩ := hA7A hwA
      have t3iA : xt.toInt = (pTk k A9.1 : Int) := by rw [t3A]; exact nI_toInt (by omega)
      refine lv_aload_n hx hb dX12_crossTold_26 rfl (lv_at hl 1 rfl) ?_
      refine z_get C G clX12 1 rfl 5 (by decide) m_fl_RX12_80 rfl dX12_crossTold_27 ?_
      refine lv_iconst (v := 1) hx hb dX12_crossTold_30 (by decide) ?_
      refine lv_icmp_ne (tgt := 104) hx hb dX12_crossTold_31 (by decide) (fun c_89 => ?_) (fun c_89 => ?_)
      · have c_89n : ¬ xt.toInt = (1 : Int) := fun q => c_89 ((fa_eq _ _).mpr q)
        have hpc := pCross_e (w := at_) hbq (hEq.symm.trans (pRoads_x (fun z9 => by first | (exact absurd z9.1 (by rw [← hA6A]; omega)) | omega)))
        have hf0i : (gr 0).toInt = (f_read 0).toInt := by rw [hf0]
        refine lv_aload_n hx hb dX12_crossTold_104 rfl (lv_at hl 1 rfl) ?_
        refine z_get C G clX12 1 rfl 10 (by decide) m_fl_RX12_17 rfl dX12_crossTold_105 ?_
        refine lv_iconst (v := 0) hx hb dX12_crossTold_108 (by decide) ?_
        refine z_ild C G 0 rfl (vp_in_nI (n := 0) (by decide) (by decide)) dX12_crossTold_109 ?_
        refine lv_topi (fun v_90 ev_90 => ?_)
        rw [show ((0 : Int32).toNatClampNeg) = 0 from rfl] at ev_90
        subst ev_90
        refine lv_bipush (v := 7) hx hb dX12_crossTold_110 (by decide) ?_
        refine lv_icmp_lt (tgt := 116) hx hb dX12_crossTold_112 (by decide) (fun c_91 => ?_) (fun c_91 => ?_)
        · have c_91n : (gr 0).toInt < (7 : Int) := (fa_lt _ _).mp c_91
          refine lv_aload_n hx hb dX12_crossTold_116 rfl (lv_at hl 1 rfl) ?_
          refine z_get C G clX12 1 rfl 10 (by decide) m_fl_RX12_17 rfl dX12_crossTold_117 ?_
          refine lv_iconst (v := 2) hx hb dX12_crossTold_120 (by decide) ?_
          refine lv_aload_n hx hb dX12_crossTold_121 rfl (lv_at hl 1 rfl) ?_
          refine z_get C G clX12 1 rfl 10 (by decide) m_fl_RX12_17 rfl dX12_crossTold_122 ?_
          refine lv_iconst (v := 0) hx hb dX12_crossTold_125 (by decide) ?_
          refine z_ild C G 0 rfl (vp_in_nI (n := 0) (by decide) (by decide)) dX12_crossTold_126 ?_
          refine lv_topi (fun v_92 ev_92 => ?_)
          rw [show ((0 : Int32).toNatClampNeg) = 0 from rfl] at ev_92
          subst ev_92
          refine lv_iadd hx hb dX12_crossTold_127 ?_
          refine lv_topi (fun y_93 ey_93 => ?_)
          have ey_93i : y_93.toInt = (2 : Int) + (gr 0).toInt := by rw [ey_93]; exact z_iaddI (x := (2 : Int32)) (y := (gr 0)) (by show -2147483648 ≤ (2 : Int) + (gr 0).toInt; omega) (by show (2 : Int) + (gr 0).toInt < 2147483648; omega)
          refine lv_iload_n hx hb dX12_crossTold_128 rfl (lv_at hl 0 rfl) ?_
          refine z_ist C G 0 rfl (vp_in_iff.mpr ⟨by omega, by omega⟩) dX12_crossTold_129 (fun H locs G => ?_)
          have G : zS T A s.heap s [[(m_read, .inl (T.2 0, 121, .inl (upd gr y_93.toNatClampNeg (nI nn))))], [(mo, .inr (11, [.ref m_all, .ref m_has, .int i_size, .int xn, .int xw, .int xt, .int xu, .int xo, .int xr, .int xf, .ref m_read, .int i_z0, .int i_crossings, .int i_inns, .ref m_posts, .ref m_shut, .ref m_here, .int i_steps, .int i_done, .int i_at, .int i_gone, .ref m_was, .ref m_came, .ref m_seenAt, .ref m_rowWorth, .ref m_farBy, .ref m_used, .int i_everywhere, .int i_again0, .int i_d0, .int i_never, .int i_firstCame, .int i_longRun, .int i_moved, .int i_crowd, .int i_l0, .int i_fitMany, .int i_fitLeast, .int i_fitMost, .ref m_fitPost, .ref m_fitEnd, .ref m_keptPosts, .int i_x0]))], [(m_all, .inl (T.2 0, 3952, .inl ga))]] _ _ := G
          refine lv_aload_n hx hb dX12_crossTold_130 rfl (lv_at hl 1 rfl) ?_
          refine z_get C G clX12 1 rfl 10 (by decide) m_fl_RX12_17 rfl dX12_crossTold_131 ?_
          refine lv_iconst (v := 0) hx hb dX12_crossTold_134 (by decide) ?_
          refine lv_dup2_11 hx hb dX12_crossTold_135 rfl rfl ?_
          refine z_ild C G 0 rfl (vp_in_nI (n := 0) (by decide) (by decide)) dX12_crossTold_136 ?_
          refine lv_topi (fun v_94 ev_94 => ?_)
          rw [show ((0 : Int32).toNatClampNeg) = 0 from rfl] at ev_94
          subst ev_94
          have hcl_y_93 := z_clI (x := y_93) (by omega)
          rw [show (upd gr y_93.toNatClampNeg (nI nn)) 0 = gr 0 from by unfold upd; rw [if_neg (by omega)]]
          refine lv_iconst (v := 1) hx hb dX12_crossTold_137 (by decide) ?_
          refine lv_iadd hx hb dX12_crossTold_138 ?_
          refine lv_topi (fun y_95 ey_95 => ?_)
          have ey_95i : y_95.toInt = (gr 0).toInt + (1 : Int) := by rw [ey_95]; exact z_iaddI (x := (gr 0)) (y := (1 : Int32)) (by show -2147483648 ≤ (gr 0).toInt + (1 : Int); omega) (by show (gr 0).toInt + (1 : Int) < 2147483648; omega)
          refine z_ist C G 0 rfl (vp_in_nI (n := 0) (by decide) (by decide)) dX12_crossTold_139 (fun H locs G => ?_)
          have G : zS T A s.heap s [[(m_read, .inl (T.2 0, 121, .inl (upd (upd gr y_93.toNatClampNeg (nI nn)) 0 y_95)))], [(mo, .inr (11, [.ref m_all, .ref m_has, .int i_size, .int xn, .int xw, .int xt, .int xu, .int xo, .int xr, .int xf, .ref m_read, .int i_z0, .int i_crossings, .int i_inns, .ref m_posts, .ref m_shut, .ref m_here, .int i_steps, .int i_done, .int i_at, .int i_gone, .ref m_was, .ref m_came, .ref m_seenAt, .ref m_rowWorth, .ref m_farBy, .ref m_used, .int i_everywhere, .int i_again0, .int i_d0, .int i_never, .int i_firstCame, .int i_longRun, .int i_moved, .int i_crowd, .int i_l0, .int i_fitMany, .int i_fitLeast, .int i_fitMost, .ref m_fitPost, .ref m_fitEnd, .ref m_keptPosts, .int i_x0]))], [(m_all, .inl (T.2 0, 3952, .inl ga))]] _ _ := G
          have G := G.sub (bs' := [[(mo, .inr (11, [.ref m_all, .ref m_has, .int i_size, .int xn, .int xw, .int xt, .int xu, .int xo, .int xr, .int xf, .ref m_read, .int i_z0, .int i_crossings, .int i_inns, .ref m_posts, .ref m_shut, .ref m_here, .int i_steps, .int i_done, .int i_at, .int i_gone, .ref m_was, .ref m_came, .ref m_seenAt, .ref m_rowWorth, .ref m_farBy, .ref m_used, .int i_everywhere, .int i_again0, .int i_d0, .int i_never, .int i_firstCame, .int i_longRun, .int i_moved, .int i_crowd, .int i_l0, .int i_fitMany, .int i_fitLeast, .int i_fitMost, .ref m_fitPost, .ref m_fitEnd, .ref m_keptPosts, .int i_x0]))], [(m_all, .inl (T.2 0, 3952, .inl ga))], [(m_read, .inl (T.2 0, 121, .inl (upd (upd gr y_93.toNatClampNeg (nI nn)) 0 y_95)))]]) [1, 2, 0] rfl
          exact z_vret C hr hlocks G (Nat.le_of_ble_eq_true rfl) (Nat.le_of_ble_eq_true rfl) dX12_crossTold_140 ⟨xn, xw, xt, xu, xo, xr, xf, ga, (upd (upd gr y_93.toNatClampNeg (nI nn)) 0 y_95), rfl, (by first | trivial | assumption | omega), (by first | trivial | assumption | omega), (by first | trivial | assumption | omega), hpal, (zLF_upd (k := 0) (v := y_95) (zLF_upd (k := y_93.toNatClampNeg) (v := (nI nn)) (by assumption) (by have q9 := z_clI (x := y_93) (by omega); have t9 := nI_toInt (n := nn) (by omega); omega) (by have q9 := z_clI (x := y_93) (by omega); have t9 := nI_toInt (n := nn) (by omega); omega) (by have q9 := z_clI (x := y_93) (by omega); have t9 := nI_toInt (n := nn) (by omega); omega) (by have q9 := z_clI (x := y_93) (by omega); have t9 := nI_toInt (n := nn) (by omega); omega) (by have q9 := z_clI (x := y_93) (by omega); have t9 := nI_toInt (n := nn) (by omega); omega)) (by omega) (by omega) (by omega) (by omega) (by omega)), (by rw [hpc]; exact hRA), (by rw [hpc]; show _ = (if 7 ≤ (f_read 0).toInt then gr else upd (upd gr (2 + (gr 0).toInt.toNat) (nI (min j 4))) 0 (gr 0 + 1)); rw [if_neg (by omega), ← hnn, ey_95]; exact congrArg (fun q9 => upd (upd gr q9 (nI nn)) 0 (gr 0 + 1)) (by have q9 := z_clI (x := y_93) (by omega); omega))⟩
        · have c_91n : ¬ (gr 0).toInt < (7 : Int) := fun q => c_91 ((fa_lt _ _).mpr q)
          have G := G.sub (bs' := [[(mo, .inr (11, [.ref m_all, .ref m_has, .int i_size, .int xn, .int xw, .int xt, .int xu, .int xo, .int xr, .int xf, .ref m_read, .int i_z0, .int i_crossings, .int i_inns, .ref m_posts, .ref m_shut, .ref m_here, .int i_steps, .int i_done, .int i_at, .int i_gone, .ref m_was, .ref m_came, .ref m_seenAt, .ref m_rowWorth, .ref m_farBy, .ref m_used, .int i_everywhere, .int i_again0, .int i_d0, .int i_never, .int i_firstCame, .int i_longRun, .int i_moved, .int i_crowd, .int i_l0, .int i_fitMany, .int i_fitLeast, .int i_fitMost, .ref m_fitPost, .ref m_fitEnd, .ref m_keptPosts, .int i_x0]))], [(m_all, .inl (T.2 0, 3952, .inl ga))], [(m_read, .inl (T.2 0, 121, .inl gr))]]) [1, 2, 0] rfl
          exact z_vret C hr hlocks G (Nat.le_of_ble_eq_true rfl) (Nat.le_of_ble_eq_true rfl) dX12_crossTold_115 ⟨xn, xw, xt, xu, xo, xr, xf, ga, gr, rfl, (by first | trivial | assumption | omega), (by first | trivial | assumption | omega), (by first | trivial | assumption | omega), hpal, (by first | trivial | assumption | omega), (by rw [hpc]; exact hRA), (by rw [hpc]; exact (if_pos (by omega)).symm)⟩
      · have c_89n : xt.toInt = (1 : Int) := (fa_eq _ _).mp c_89
        have htA : pTk k A9.1 = 1 := by omega
        have hst := pStep (f := gr) (g := f_read) hokA hpn9 hwA htA hpj hf0
        refine lv_iload_n hx hb dX12_crossTold_34 rfl (lv_at hl 0 rfl) ?_
        refine lv_iconst (v := 4) hx hb dX12_crossTold_35 (by decide) ?_
        refine lv_icmp_ne (tgt := 48) hx hb dX12_crossTold_36 (by decide) (fun c_96 => ?_) (fun c_96 => ?_)
        · have c_96n : ¬ nn = 4 := fun q => c_96 ((nI_eq (a := nn) (b := 4) (by omega) (by omega)).mpr q)
          have hX : zRr k n i_size xn xw xt xu xo xr xf ga (pAt k j A9) := by rw [pAt_n (by omega)]; exact hRA
          refine lv_aload_n hx hb dX12_crossTold_48 rfl (lv_at hl 1 rfl) ?_
          refine z_Vi (bc := [[(mo, .inr (11, [.ref m_all, .ref m_has, .int i_size, .int xn, .int xw, .int xt, .int xu, .int xo, .int xr, .int xf, .ref m_read, .int i_z0, .int i_crossings, .int i_inns, .ref m_posts, .ref m_shut, .ref m_here, .int i_steps, .int i_done, .int i_at, .int i_gone, .ref m_was, .ref m_came, .ref m_seenAt, .ref m_rowWorth, .ref m_farBy, .ref m_used, .int i_everywhere, .int i_again0, .int i_d0, .int i_never, .int i_firstCame, .int i_longRun, .int i_moved, .int i_crowd, .int i_l0, .int i_fitMany, .int i_fitLeast, .int i_fitMost, .ref m_fitPost, .ref m_fitEnd, .ref m_keptPosts, .int i_x0]))], [(m_all, .inl (T.2 0, 3952, .inl ga))]]) (br := [[(m_read, .inl (T.2 0, 121, .inl gr))]]) (As := []) (rest := []) C G (c_fm_crossingTold l T mo m_all m_has i_size xn xw xt xu xo xr xf m_read i_z0 i_crossings i_inns m_posts m_shut m_here i_steps i_done i_at i_gone m_was m_came m_seenAt m_rowWorth m_farBy m_used i_everywhere i_again0 i_d0 i_never i_firstCame i_longRun i_moved i_crowd i_l0 i_fitMany i_fitLeast i_fitMost m_fitPost m_fitEnd m_keptPosts i_x0 ga k n (pAt k j A9) (by first | assumption | omega | rfl) (by first | assumption | omega | rfl) (by first | assumption | omega | rfl) hX) (kV_RX12_129 C.2.2.2.2 (Nat.le_of_ble_eq_true rfl) (Nat.le_of_ble_eq_true rfl)) [1, 2] [0] rfl rfl (ci := 11) (qc := (RX12, TX12, 43)) rfl rfl (List.mem_flatten.mpr ⟨_, List.mem_of_getElem? (i := 0) rfl, List.mem_cons_self⟩) rfl rfl hl.1 dX12_crossTold_49 (Nat.le_of_ble_eq_true rfl) (Nat.le_of_ble_eq_true rfl) (fun r_114 b1 H locs hw G => ?_)
          obtain ⟨j_next_97, j_where_98, j_token_99, j_number_100, j_word_101, j_wrong_102, j_farCrossing_103, g_all_104, rfl, h_105, h_106, h_107, h_108, h_109, h_110, h_111, h_112, h_113⟩ := hw
          have G : zS T A s.heap s [[(m_read, .inl (T.2 0, 121, .inl gr))], [(mo, .inr (11, [.ref m_all, .ref m_has, .int i_size, .int j_next_97, .int j_where_98, .int j_token_99, .int j_number_100, .int j_word_101, .int j_wrong_102, .int j_farCrossing_103, .ref m_read, .int i_z0, .int i_crossings, .int i_inns, .ref m_posts, .ref m_shut, .ref m_here, .int i_steps, .int i_done, .int i_at, .int i_gone, .ref m_was, .ref m_came, .ref m_seenAt, .ref m_rowWorth, .ref m_farBy, .ref m_used, .int i_everywhere, .int i_again0, .int i_d0, .int i_never, .int i_firstCame, .int i_longRun, .int i_moved, .int i_crowd, .int i_l0, .int i_fitMany, .int i_fitLeast, .int i_fitMost, .ref m_fitPost, .ref m_fitEnd, .ref m_keptPosts, .int i_x0]))], [(m_all, .inl (T.2 0, 3952, .inl g_all_104))]] _ _ := G
          refine lv_istore_n (lv' := [(3, .int r_114), (2, .int (nI nn)), (0, .ref mo), (1, .int at_)]) hx hb dX12_crossTold_52 rfl hl (by decide) rfl (fun ls hl => ?_)
          refine lv_aload_n hx hb dX12_crossTold_53 rfl (lv_at hl 2 rfl) ?_
          refine z_get C G clX12 1 rfl 10 (by decide) m_fl_RX12_17 rfl dX12_crossTold_54 ?_
          refine lv_iconst (v := 0) hx hb dX12_crossTold_57 (by decide) ?_
          refine z_ild C G 0 rfl (vp_in_nI (n := 0) (by decide) (by decide)) dX12_crossTold_58 ?_
          refine lv_topi (fun v_115 ev_115 => ?_)
          rw [show ((0 : Int32).toNatClampNeg) = 0 from rfl] at ev_115
          subst ev_115
          refine lv_bipush (v := 7) hx hb dX12_crossTold_59 (by decide) ?_
          refine lv_icmp_ge (tgt := 88) hx hb dX12_crossTold_61 (by decide) (fun c_116 => ?_) (fun c_116 => ?_)
          · have c_116n : (7 : Int) ≤ (gr 0).toInt := (fa_le _ _).mp c_116
            have hrow : gr = pRow k j A9 gr := pRow_n (by omega)
            refine lv_iload_n hx hb dX12_crossTold_88 rfl (lv_at hl 1 rfl) ?_
            refine lv_iconst (v := 4) hx hb dX12_crossTold_89 (by decide) ?_
            refine lv_icmp_ge (tgt := 99) hx hb dX12_crossTold_90 (by decide) (fun c_117 => ?_) (fun c_117 => ?_)
            · have c_117n : 4 ≤ nn := (nI_leI (a := 4) (b := nn) (by omega) (by omega)).mp c_117
              refine lv_iconst (v := 4) hx hb dX12_crossTold_99 (by decide) ?_
              refine lv_istore_n (lv' := [(2, .int 4), (3, .int r_114), (0, .ref mo), (1, .int at_)]) hx hb dX12_crossTold_100 rfl hl (by decide) rfl (fun ls hl => ?_)
              refine lv_goto (tgt := 19) hx hb dX12_crossTold_101 (by decide) ?_
              exact ih_19 (j_next_97, j_where_98, j_token_99, j_number_100, j_word_101, j_wrong_102, j_farCrossing_103, g_all_104, gr, 4, ((pCr k (pAt k j A9)).2), (j + 1)) (show 4 ≤ 4 ∧ zLF gr ∧ i_next.toInt ≤ j_next_97.toInt ∧ j_next_97.toInt ≤ i_size.toInt ∧ zPal f_all g_all_104 ∧ zRr k n i_size j_next_97 j_where_98 j_token_99 j_number_100 j_word_101 j_wrong_102 j_farCrossing_103 g_all_104 ((pCr k (pAt k j A9)).2) ∧ 4 = min (j + 1) 4 ∧ (j + 1) ≤ ((pCr k (pAt k j A9)).2).1 ∧ pRoads k (601 - (j + 1)) (min (j + 1) 4) ((pCr k (pAt k j A9)).2) gr = pRoads k 601 0 b f_read ∧ gr 0 = f_read 0 from ⟨by omega, (by assumption), by omega, by omega, (hpal.tr h_109), h_112, by omega, hst.2.1, (by rw [hrow]; exact pRoads_n (by omega) hwA htA hEq), (by rw [hrow]; exact hst.2.2)⟩) (show zMu j_wrong_102 j_token_99 j_next_97 i_size < zMu xr xt xn i_size from zMu_lt (by omega) (by omega) (by omega) (by omega)) _ _ ls G (lv_sub hl [0, 2, 3] rfl)
            · have c_117n : ¬ 4 ≤ nn := fun q => c_117 ((nI_leI (a := 4) (b := nn) (by omega) (by omega)).mpr q)
              refine lv_iload_n hx hb dX12_crossTold_93 rfl (lv_at hl 1 rfl) ?_
              refine lv_iconst (v := 1) hx hb dX12_crossTold_94 (by decide) ?_
              refine lv_iadd hx hb dX12_crossTold_95 ?_
              refine lv_topi (fun y_118 ey_118 => ?_)
              obtain rfl : y_118 = nI (nn + 1) := ey_118.trans (z_iaddn nn 1 rfl rfl)
              refine lv_goto (tgt := 100) hx hb dX12_crossTold_96 (by decide) ?_
              refine lv_istore_n (lv' := [(2, .int (nI (nn + 1))), (3, .int r_114), (0, .ref mo), (1, .int at_)]) hx hb dX12_crossTold_100 rfl hl (by decide) rfl (fun ls hl => ?_)
              refine lv_goto (tgt := 19) hx hb dX12_crossTold_101 (by decide) ?_
              exact ih_19 (j_next_97, j_where_98, j_token_99, j_number_100, j_word_101, j_wrong_102, j_farCrossing_103, g_all_104, gr, (nn + 1), ((pCr k (pAt k j A9)).2), (j + 1)) (show (nn + 1) ≤ 4 ∧ zLF gr ∧ i_next.toInt ≤ j_next_97.toInt ∧ j_next_97.toInt ≤ i_size.toInt ∧ zPal f_all g_all_104 ∧ zRr k n i_size j_next_97 j_where_98 j_token_99 j_number_100 j_word_101 j_wrong_102 j_farCrossing_103 g_all_104 ((pCr k (pAt k j A9)).2) ∧ (nn + 1) = min (j + 1) 4 ∧ (j + 1) ≤ ((pCr k (pAt k j A9)).2).1 ∧ pRoads k (601 - (j + 1)) (min (j + 1) 4) ((pCr k (pAt k j A9)).2) gr = pRoads k 601 0 b f_read ∧ gr 0 = f_read 0 from ⟨by omega, (by assumption), by omega, by omega, (hpal.tr h_109), h_112, by omega, hst.2.1, (by rw [hrow]; exact pRoads_n (by omega) hwA htA hEq), (by rw [hrow]; exact hst.2.2)⟩) (show zMu j_wrong_102 j_token_99 j_next_97 i_size < zMu xr xt xn i_size from zMu_lt (by omega) (by omega) (by omega) (by omega)) _ _ ls G (lv_sub hl [0, 2, 3] rfl)
          · have c_116n : ¬ (7 : Int) ≤ (gr 0).toInt := fun q => c_116 ((fa_le _ _).mpr q)
            refine lv_iload_n hx hb dX12_crossTold_64 rfl (lv_at hl 1 rfl) ?_
            refine lv_iconst (v := 4) hx hb dX12_crossTold_65 (by decide) ?_
            refine lv_icmp_ge (tgt := 88) hx hb dX12_crossTold_66 (by decide) (fun c_119 => ?_) (fun c_119 => ?_)
            · have c_119n : 4 ≤ nn := (nI_leI (a := 4) (b := nn) (by omega) (by omega)).mp c_119
              have hrow : gr = pRow k j A9 gr := pRow_n (by omega)
              refine lv_iload_n hx hb dX12_crossTold_88 rfl (lv_at hl 1 rfl) ?_
              refine lv_iconst (v := 4) hx hb dX12_crossTold_89 (by decide) ?_
              refine lv_icmp_ge (tgt := 99) hx hb dX12_crossTold_90 (by decide) (fun _ => ?_) (fun q => absurd c_119 q)
              refine lv_iconst (v := 4) hx hb dX12_crossTold_99 (by decide) ?_
              refine lv_istore_n (lv' := [(2, .int 4), (3, .int r_114), (0, .ref mo), (1, .int at_)]) hx hb dX12_crossTold_100 rfl hl (by decide) rfl (fun ls hl => ?_)
              refine lv_goto (tgt := 19) hx hb dX12_crossTold_101 (by decide) ?_
              exact ih_19 (j_next_97, j_where_98, j_token_99, j_number_100, j_word_101, j_wrong_102, j_farCrossing_103, g_all_104, gr, 4, ((pCr k (pAt k j A9)).2), (j + 1)) (show 4 ≤ 4 ∧ zLF gr ∧ i_next.toInt ≤ j_next_97.toInt ∧ j_next_97.toInt ≤ i_size.toInt ∧ zPal f_all g_all_104 ∧ zRr k n i_size j_next_97 j_where_98 j_token_99 j_number_100 j_word_101 j_wrong_102 j_farCrossing_103 g_all_104 ((pCr k (pAt k j A9)).2) ∧ 4 = min (j + 1) 4 ∧ (j + 1) ≤ ((pCr k (pAt k j A9)).2).1 ∧ pRoads k (601 - (j + 1)) (min (j + 1) 4) ((pCr k (pAt k j A9)).2) gr = pRoads k 601 0 b f_read ∧ gr 0 = f_read 0 from ⟨by omega, (by assumption), by omega, by omega, (hpal.tr h_109), h_112, by omega, hst.2.1, (by rw [hrow]; exact pRoads_n (by omega) hwA htA hEq), (by rw [hrow]; exact hst.2.2)⟩) (show zMu j_wrong_102 j_token_99 j_next_97 i_size < zMu xr xt xn i_size from zMu_lt (by omega) (by omega) (by omega) (by omega)) _ _ ls G (lv_sub hl [0, 2, 3] rfl)
            · have c_119n : ¬ 4 ≤ nn := fun q => c_119 ((nI_leI (a := 4) (b := nn) (by omega) (by omega)).mpr q)
              refine lv_aload_n hx hb dX12_crossTold_69 rfl (lv_at hl 2 rfl) ?_
              refine z_get C G clX12 1 rfl 10 (by decide) m_fl_RX12_17 rfl dX12_crossTold_70 ?_
              refine lv_bipush (v := 23) hx hb dX12_crossTold_73 (by decide) ?_
              refine lv_iconst (v := 4) hx hb dX12_crossTold_75 (by decide) ?_
              refine lv_aload_n hx hb dX12_crossTold_76 rfl (lv_at hl 2 rfl) ?_
              refine z_get C G clX12 1 rfl 10 (by decide) m_fl_RX12_17 rfl dX12_crossTold_77 ?_
              refine lv_iconst (v := 0) hx hb dX12_crossTold_80 (by decide) ?_
              refine z_ild C G 0 rfl (vp_in_nI (n := 0) (by decide) (by decide)) dX12_crossTold_81 ?_
              refine lv_topi (fun v_120 ev_120 => ?_)
              rw [show ((0 : Int32).toNatClampNeg) = 0 from rfl] at ev_120
              subst ev_120
              refine lv_imul hx hb dX12_crossTold_82 ?_
              refine lv_topi (fun y_121 ey_121 => ?_)
              have ey_121i : y_121.toInt = (4 : Int) * (gr 0).toInt := by rw [ey_121]; exact z_imulI (x := (4 : Int32)) (y := (gr 0)) (by show -2147483648 ≤ (4 : Int) * (gr 0).toInt; omega) (by show (4 : Int) * (gr 0).toInt < 2147483648; omega)
              refine lv_iadd hx hb dX12_crossTold_83 ?_
              refine lv_topi (fun y_122 ey_122 => ?_)
              have ey_122i : y_122.toInt = (23 : Int) + y_121.toInt := by rw [ey_122]; exact z_iaddI (x := (23 : Int32)) (y := y_121) (by show -2147483648 ≤ (23 : Int) + y_121.toInt; omega) (by show (23 : Int) + y_121.toInt < 2147483648; omega)
              refine lv_iload_n hx hb dX12_crossTold_84 rfl (lv_at hl 1 rfl) ?_
              refine lv_iadd hx hb dX12_crossTold_85 ?_
              refine lv_topi (fun y_123 ey_123 => ?_)
              have ey_123i : y_123.toInt = y_122.toInt + (nn : Int) := by rw [ey_123]; exact (z_iaddI (x := y_122) (y := (nI nn)) (by rw [nI_toInt (n := nn) (by omega)]; show -2147483648 ≤ y_122.toInt + (nn : Int); omega) (by rw [nI_toInt (n := nn) (by omega)]; show y_122.toInt + (nn : Int) < 2147483648; omega)).trans (by rw [nI_toInt (n := nn) (by omega)] <;> rfl)
              refine lv_iload_n hx hb dX12_crossTold_86 rfl (lv_at hl 0 rfl) ?_
              refine z_ist C G 0 rfl (vp_in_iff.mpr ⟨by omega, by omega⟩) dX12_crossTold_87 (fun H locs G => ?_)
              have G : zS T A s.heap s [[(m_read, .inl (T.2 0, 121, .inl (upd gr y_123.toNatClampNeg r_114)))], [(mo, .inr (11, [.ref m_all, .ref m_has, .int i_size, .int j_next_97, .int j_where_98, .int j_token_99, .int j_number_100, .int j_word_101, .int j_wrong_102, .int j_farCrossing_103, .ref m_read, .int i_z0, .int i_crossings, .int i_inns, .ref m_posts, .ref m_shut, .ref m_here, .int i_steps, .int i_done, .int i_at, .int i_gone, .ref m_was, .ref m_came, .ref m_seenAt, .ref m_rowWorth, .ref m_farBy, .ref m_used, .int i_everywhere, .int i_again0, .int i_d0, .int i_never, .int i_firstCame, .int i_longRun, .int i_moved, .int i_crowd, .int i_l0, .int i_fitMany, .int i_fitLeast, .int i_fitMost, .ref m_fitPost, .ref m_fitEnd, .ref m_keptPosts, .int i_x0]))], [(m_all, .inl (T.2 0, 3952, .inl g_all_104))]] _ _ := G
              have hcl9 := z_clI (x := y_123) (by omega)
              have hrow : upd gr y_123.toNatClampNeg r_114 = pRow k j A9 gr := pRow_y (by omega) (by omega) (by omega) h_113
              refine lv_iload_n hx hb dX12_crossTold_88 rfl (lv_at hl 1 rfl) ?_
              refine lv_iconst (v := 4) hx hb dX12_crossTold_89 (by decide) ?_
              refine lv_icmp_ge (tgt := 99) hx hb dX12_crossTold_90 (by decide) (fun q => absurd q c_119) (fun _ => ?_)
              refine lv_iload_n hx hb dX12_crossTold_93 rfl (lv_at hl 1 rfl) ?_
              refine lv_iconst (v := 1) hx hb dX12_crossTold_94 (by decide) ?_
              refine lv_iadd hx hb dX12_crossTold_95 ?_
              refine lv_topi (fun y_124 ey_124 => ?_)
              obtain rfl : y_124 = nI (nn + 1) := ey_124.trans (z_iaddn nn 1 rfl rfl)
              refine lv_goto (tgt := 100) hx hb dX12_crossTold_96 (by decide) ?_
              refine lv_istore_n (lv' := [(2, .int (nI (nn + 1))), (3, .int r_114), (0, .ref mo), (1, .int at_)]) hx hb dX12_crossTold_100 rfl hl (by decide) rfl (fun ls hl => ?_)
              refine lv_goto (tgt := 19) hx hb dX12_crossTold_101 (by decide) ?_
              exact ih_19 (j_next_97, j_where_98, j_token_99, j_number_100, j_word_101, j_wrong_102, j_farCrossing_103, g_all_104, (upd gr y_123.toNatClampNeg r_114), (nn + 1), ((pCr k (pAt k j A9)).2), (j + 1)) (show (nn + 1) ≤ 4 ∧ zLF (upd gr y_123.toNatClampNeg r_114) ∧ i_next.toInt ≤ j_next_97.toInt ∧ j_next_97.toInt ≤ i_size.toInt ∧ zPal f_all g_all_104 ∧ zRr k n i_size j_next_97 j_where_98 j_token_99 j_number_100 j_word_101 j_wrong_102 j_farCrossing_103 g_all_104 ((pCr k (pAt k j A9)).2) ∧ (nn + 1) = min (j + 1) 4 ∧ (j + 1) ≤ ((pCr k (pAt k j A9)).2).1 ∧ pRoads k (601 - (j + 1)) (min (j + 1) 4) ((pCr k (pAt k j A9)).2) (upd gr y_123.toNatClampNeg r_114) = pRoads k 601 0 b f_read ∧ (upd gr y_123.toNatClampNeg r_114) 0 = f_read 0 from ⟨by omega, (zLF_upd (k := y_123.toNatClampNeg) (v := r_114) (by assumption) (by have q9 := z_clI (x := y_123) (by omega); omega) (by have q9 := z_clI (x := y_123) (by omega); omega) (by have q9 := z_clI (x := y_123) (by omega); omega) (by have q9 := z_clI (x := y_123) (by omega); omega) (by have q9 := z_clI (x := y_123) (by omega); omega)), by omega, by omega, (hpal.tr h_109), h_112, by omega, hst.2.1, (by rw [hrow]; exact pRoads_n (by omega) hwA htA hEq), (by rw [hrow]; exact hst.2.2)⟩) (show zMu j_wrong_102 j_token_99 j_next_97 i_size < zMu xr xt xn i_size from zMu_lt (by omega) (by omega) (by omega) (by omega)) _ _ ls G (lv_sub hl [0, 2, 3] rfl)
        · have c_96n : nn = 4 := (nI_eq (a := nn) (b := 4) (by omega) (by omega)).mp c_96
          refine lv_aload_n hx hb dX12_crossTold_39 rfl (lv_at hl 1 rfl) ?_
          refine lv_iconst (v := 3) hx hb dX12_crossTold_40 (by decide) ?_
          refine lv_aload_n hx hb dX12_crossTold_41 rfl (lv_at hl 1 rfl) ?_
          refine z_get C G clX12 1 rfl 4 (by decide) m_fl_RX12_77 rfl dX12_crossTold_42 ?_
          refine z_Vv (bc := [[(mo, .inr (11, [.ref m_all, .ref m_has, .int i_size, .int xn, .int xw, .int xt, .int xu, .int xo, .int xr, .int xf, .ref m_read, .int i_z0, .int i_crossings, .int i_inns, .ref m_posts, .ref m_shut, .ref m_here, .int i_steps, .int i_done, .int i_at, .int i_gone, .ref m_was, .ref m_came, .ref m_seenAt, .ref m_rowWorth, .ref m_farBy, .ref m_used, .int i_everywhere, .int i_again0, .int i_d0, .int i_never, .int i_firstCame, .int i_longRun, .int i_moved, .int i_crowd, .int i_l0, .int i_fitMany, .int i_fitLeast, .int i_fitMost, .ref m_fitPost, .ref m_fitEnd, .ref m_keptPosts, .int i_x0]))], [(m_all, .inl (T.2 0, 3952, .inl ga))]]) (br := [[(m_read, .inl (T.2 0, 121, .inl gr))]]) (As := [.int 3, .int xw]) (rest := []) C G (c_fm_also l T mo m_all m_has i_size xn xw xt xu xo xr xf m_read i_z0 i_crossings i_inns m_posts m_shut m_here i_steps i_done i_at i_gone m_was m_came m_seenAt m_rowWorth m_farBy m_used i_everywhere i_again0 i_d0 i_never i_firstCame i_longRun i_moved i_crowd i_l0 i_fitMany i_fitLeast i_fitMost m_fitPost m_fitEnd m_keptPosts i_x0 ga 3 xw) (kV_RX12_115 C.2.2.2.2 (Nat.le_of_ble_eq_true rfl) (Nat.le_of_ble_eq_true rfl)) [1, 2] [0] rfl rfl (ci := 11) (qc := (RX12, TX12, 43)) rfl rfl (List.mem_flatten.mpr ⟨_, List.mem_of_getElem? (i := 0) rfl, List.mem_cons_self⟩) rfl rfl hl.1 dX12_crossTold_45 (Nat.le_of_ble_eq_true rfl) (Nat.le_of_ble_eq_true rfl) (fun b1 H locs hw G => ?_)
          obtain ⟨g_all_125, rfl, h_126, h_127⟩ := hw
          have G : zS T A s.heap s [[(m_read, .inl (T.2 0, 121, .inl gr))], [(mo, .inr (11, [.ref m_all, .ref m_has, .int i_size, .int xn, .int xw, .int xt, .int xu, .int xo, .int xr, .int xf, .ref m_read, .int i_z0, .int i_crossings, .int i_inns, .ref m_posts, .ref m_shut, .ref m_here, .int i_steps, .int i_done, .int i_at, .int i_gone, .ref m_was, .ref m_came, .ref m_seenAt, .ref m_rowWorth, .ref m_farBy, .ref m_used, .int i_everywhere, .int i_again0, .int i_d0, .int i_never, .int i_firstCame, .int i_longRun, .int i_moved, .int i_crowd, .int i_l0, .int i_fitMany, .int i_fitLeast, .int i_fitMost, .ref m_fitPost, .ref m_fitEnd, .ref m_keptPosts, .int i_x0]))], [(m_all, .inl (T.2 0, 3952, .inl g_all_125))]] _ _ := G
          have h_127 : g_all_125 = (if ¬ xr.toInt = 0 ∨ (¬ (ga 5).toInt = 0 ∧ ((ga 6).toInt < xw.toInt ∨ ((ga 6).toInt = xw.toInt ∧ (ga 5).toInt ≤ (3 : Int)))) then ga else upd (upd ga 5 3) 6 xw) := h_127
          have hX : zRr k n i_size xn xw xt xu xo xr xf g_all_125 (pAt k j A9) := by rw [pAt_y (by omega), ← t2A]; exact zRr_also (kd := 3) (w := xw) hRA h_127
          refine lv_aload_n hx hb dX12_crossTold_48 rfl (lv_at hl 1 rfl) ?_
          refine z_Vi (bc := [[(mo, .inr (11, [.ref m_all, .ref m_has, .int i_size, .int xn, .int xw, .int xt, .int xu, .int xo, .int xr, .int xf, .ref m_read, .int i_z0, .int i_crossings, .int i_inns, .ref m_posts, .ref m_shut, .ref m_here, .int i_steps, .int i_done, .int i_at, .int i_gone, .ref m_was, .ref m_came, .ref m_seenAt, .ref m_rowWorth, .ref m_farBy, .ref m_used, .int i_everywhere, .int i_again0, .int i_d0, .int i_never, .int i_firstCame, .int i_longRun, .int i_moved, .int i_crowd, .int i_l0, .int i_fitMany, .int i_fitLeast, .int i_fitMost, .ref m_fitPost, .ref m_fitEnd, .ref m_keptPosts, .int i_x0]))], [(m_all, .inl (T.2 0, 3952, .inl g_all_125))]]) (br := [[(m_read, .inl (T.2 0, 121, .inl gr))]]) (As := []) (rest := []) C G (c_fm_crossingTold l T mo m_all m_has i_size xn xw xt xu xo xr xf m_read i_z0 i_crossings i_inns m_posts m_shut m_here i_steps i_done i_at i_gone m_was m_came m_seenAt m_rowWorth m_farBy m_used i_everywhere i_again0 i_d0 i_never i_firstCame i_longRun i_moved i_crowd i_l0 i_fitMany i_fitLeast i_fitMost m_fitPost m_fitEnd m_keptPosts i_x0 g_all_125 k n (pAt k j A9) (by first | assumption | omega | rfl) (by first | assumption | omega | rfl) (by first | assumption | omega | rfl) hX) (kV_RX12_129 C.2.2.2.2 (Nat.le_of_ble_eq_true rfl) (Nat.le_of_ble_eq_true rfl)) [1, 2] [0] rfl rfl (ci := 11) (qc := (RX12, TX12, 43)) rfl rfl (List.mem_flatten.mpr ⟨_, List.mem_of_getElem? (i := 0) rfl, List.mem_cons_self⟩) rfl rfl hl.1 dX12_crossTold_49 (Nat.le_of_ble_eq_true rfl) (Nat.le_of_ble_eq_true rfl) (fun r_146 b1 H locs hw G => ?_)
          obtain ⟨j_next_129, j_where_130, j_token_131, j_number_132, j_word_133, j_wrong_134, j_farCrossing_135, g_all_136, rfl, h_137, h_138, h_139, h_140, h_141, h_142, h_143, h_144, h_145⟩ := hw
          have G : zS T A s.heap s [[(m_read, .inl (T.2 0, 121, .inl gr))], [(mo, .inr (11, [.ref m_all, .ref m_has, .int i_size, .int j_next_129, .int j_where_130, .int j_token_131, .int j_number_132, .int j_word_133, .int j_wrong_134, .int j_farCrossing_135, .ref m_read, .int i_z0, .int i_crossings, .int i_inns, .ref m_posts, .ref m_shut, .ref m_here, .int i_steps, .int i_done, .int i_at, .int i_gone, .ref m_was, .ref m_came, .ref m_seenAt, .ref m_rowWorth, .ref m_farBy, .ref m_used, .int i_everywhere, .int i_again0, .int i_d0, .int i_never, .int i_firstCame, .int i_longRun, .int i_moved, .int i_crowd, .int i_l0, .int i_fitMany, .int i_fitLeast, .int i_fitMost, .ref m_fitPost, .ref m_fitEnd, .ref m_keptPosts, .int i_x0]))], [(m_all, .inl (T.2 0, 3952, .inl g_all_136))]] _ _ := G
          refine lv_istore_n (lv' := [(3, .int r_146), (2, .int (nI nn)), (0, .ref mo), (1, .int at_)]) hx hb dX12_crossTold_52 rfl hl (by decide) rfl (fun ls hl => ?_)
          refine lv_aload_n hx hb dX12_crossTold_53 rfl (lv_at hl 2 rfl) ?_
          refine z_get C G clX12 1 rfl 10 (by decide) m_fl_RX12_17 rfl dX12_crossTold_54 ?_
          refine lv_iconst (v := 0) hx hb dX12_crossTold_57 (by decide) ?_
          refine z_ild C G 0 rfl (vp_in_nI (n := 0) (by decide) (by decide)) dX12_crossTold_58 ?_
          refine lv_topi (fun v_147 ev_147 => ?_)
          rw [show ((0 : Int32).toNatClampNeg) = 0 from rfl] at ev_147
          subst ev_147
          refine lv_bipush (v := 7) hx hb dX12_crossTold_59 (by decide) ?_
          refine lv_icmp_ge (tgt := 88) hx hb dX12_crossTold_61 (by decide) (fun c_148 => ?_) (fun c_148 => ?_)
          · have c_148n : (7 : Int) ≤ (gr 0).toInt := (fa_le _ _).mp c_148
            have hrow : gr = pRow k j A9 gr := pRow_n (by omega)
            refine lv_iload_n hx hb dX12_crossTold_88 rfl (lv_at hl 1 rfl) ?_
            refine lv_iconst (v := 4) hx hb dX12_crossTold_89 (by decide) ?_
            refine lv_icmp_ge (tgt := 99) hx hb dX12_crossTold_90 (by decide) (fun c_149 => ?_) (fun c_149 => ?_)
            · have c_149n : 4 ≤ nn := (nI_leI (a := 4) (b := nn) (by omega) (by omega)).mp c_149
              refine lv_iconst (v := 4) hx hb dX12_crossTold_99 (by decide) ?_
              refine lv_istore_n (lv' := [(2, .int 4), (3, .int r_146), (0, .ref mo), (1, .int at_)]) hx hb dX12_crossTold_100 rfl hl (by decide) rfl (fun ls hl => ?_)
              refine lv_goto (tgt := 19) hx hb dX12_crossTold_101 (by decide) ?_
              exact ih_19 (j_next_129, j_where_130, j_token_131, j_number_132, j_word_133, j_wrong_134, j_farCrossing_135, g_all_136, gr, 4, ((pCr k (pAt k j A9)).2), (j + 1)) (show 4 ≤ 4 ∧ zLF gr ∧ i_next.toInt ≤ j_next_129.toInt ∧ j_next_129.toInt ≤ i_size.toInt ∧ zPal f_all g_all_136 ∧ zRr k n i_size j_next_129 j_where_130 j_token_131 j_number_132 j_word_133 j_wrong_134 j_farCrossing_135 g_all_136 ((pCr k (pAt k j A9)).2) ∧ 4 = min (j + 1) 4 ∧ (j + 1) ≤ ((pCr k (pAt k j A9)).2).1 ∧ pRoads k (601 - (j + 1)) (min (j + 1) 4) ((pCr k (pAt k j A9)).2) gr = pRoads k 601 0 b f_read ∧ gr 0 = f_read 0 from ⟨by omega, (by assumption), by omega, by omega, (hpal.tr (h_126.tr h_141)), h_144, by omega, hst.2.1, (by rw [hrow]; exact pRoads_n (by omega) hwA htA hEq), (by rw [hrow]; exact hst.2.2)⟩) (show zMu j_wrong_134 j_token_131 j_next_129 i_size < zMu xr xt xn i_size from zMu_lt (by omega) (by omega) (by omega) (by omega)) _ _ ls G (lv_sub hl [0, 2, 3] rfl)
            · have c_149n : ¬ 4 ≤ nn := fun q => c_149 ((nI_leI (a := 4) (b := nn) (by omega) (by omega)).mpr q)
              refine lv_iload_n hx hb dX12_crossTold_93 rfl (lv_at hl 1 rfl) ?_
              refine lv_iconst (v := 1) hx hb dX12_crossTold_94 (by decide) ?_
              refine lv_iadd hx hb dX12_crossTold_95 ?_
              refine lv_topi (fun y_150 ey_150 => ?_)
              obtain rfl : y_150 = nI (nn + 1) := ey_150.trans (z_iaddn nn 1 rfl rfl)
              refine lv_goto (tgt := 100) hx hb dX12_crossTold_96 (by decide) ?_
              refine lv_istore_n (lv' := [(2, .int (nI (nn + 1))), (3, .int r_146), (0, .ref mo), (1, .int at_)]) hx hb dX12_crossTold_100 rfl hl (by decide) rfl (fun ls hl => ?_)
              refine lv_goto (tgt := 19) hx hb dX12_crossTold_101 (by decide) ?_
              exact ih_19 (j_next_129, j_where_130, j_token_131, j_number_132, j_word_133, j_wrong_134, j_farCrossing_135, g_all_136, gr, (nn + 1), ((pCr k (pAt k j A9)).2), (j + 1)) (show (nn + 1) ≤ 4 ∧ zLF gr ∧ i_next.toInt ≤ j_next_129.toInt ∧ j_next_129.toInt ≤ i_size.toInt ∧ zPal f_all g_all_136 ∧ zRr k n i_size j_next_129 j_where_130 j_token_131 j_number_132 j_word_133 j_wrong_134 j_farCrossing_135 g_all_136 ((pCr k (pAt k j A9)).2) ∧ (nn + 1) = min (j + 1) 4 ∧ (j + 1) ≤ ((pCr k (pAt k j A9)).2).1 ∧ pRoads k (601 - (j + 1)) (min (j + 1) 4) ((pCr k (pAt k j A9)).2) gr = pRoads k 601 0 b f_read ∧ gr 0 = f_read 0 from ⟨by omega, (by assumption), by omega, by omega, (hpal.tr (h_126.tr h_141)), h_144, by omega, hst.2.1, (by rw [hrow]; exact pRoads_n (by omega) hwA htA hEq), (by rw [hrow]; exact hst.2.2)⟩) (show zMu j_wrong_134 j_token_131 j_next_129 i_size < zMu xr xt xn i_size from zMu_lt (by omega) (by omega) (by omega) (by omega)) _ _ ls G (lv_sub hl [0, 2, 3] rfl)
          · have c_148n : ¬ (7 : Int) ≤ (gr 0).toInt := fun q => c_148 ((fa_le _ _).mpr q)
            refine lv_iload_n hx hb dX12_crossTold_64 rfl (lv_at hl 1 rfl) ?_
            refine lv_iconst (v := 4) hx hb dX12_crossTold_65 (by decide) ?_
            refine lv_icmp_ge (tgt := 88) hx hb dX12_crossTold_66 (by decide) (fun c_151 => ?_) (fun c_151 => ?_)
            · have c_151n : 4 ≤ nn := (nI_leI (a := 4) (b := nn) (by omega) (by omega)).mp c_151
              have hrow : gr = pRow k j A9 gr := pRow_n (by omega)
              refine lv_iload_n hx hb dX12_crossTold_88 rfl (lv_at hl 1 rfl) ?_
              refine lv_iconst (v := 4) hx hb dX12_crossTold_89 (by decide) ?_
              refine lv_icmp_ge (tgt := 99) hx hb dX12_crossTold_90 (by decide) (fun _ => ?_) (fun q => absurd c_151 q)
              refine lv_iconst (v := 4) hx hb dX12_crossTold_99 (by decide) ?_
              refine lv_istore_n (lv' := [(2, .int 4), (3, .int r_146), (0, .ref mo), (1, .int at_)]) hx hb dX12_crossTold_100 rfl hl (by decide) rfl (fun ls hl => ?_)
              refine lv_goto (tgt := 19) hx hb dX12_crossTold_101 (by decide) ?_
              exact ih_19 (j_next_129, j_where_130, j_token_131, j_number_132, j_word_133, j_wrong_134, j_farCrossing_135, g_all_136, gr, 4, ((pCr k (pAt k j A9)).2), (j + 1)) (show 4 ≤ 4 ∧ zLF gr ∧ i_next.toInt ≤ j_next_129.toInt ∧ j_next_129.toInt ≤ i_size.toInt ∧ zPal f_all g_all_136 ∧ zRr k n i_size j_next_129 j_where_130 j_token_131 j_number_132 j_word_133 j_wrong_134 j_farCrossing_135 g_all_136 ((pCr k (pAt k j A9)).2) ∧ 4 = min (j + 1) 4 ∧ (j + 1) ≤ ((pCr k (pAt k j A9)).2).1 ∧ pRoads k (601 - (j + 1)) (min (j + 1) 4) ((pCr k (pAt k j A9)).2) gr = pRoads k 601 0 b f_read ∧ gr 0 = f_read 0 from ⟨by omega, (by assumption), by omega, by omega, (hpal.tr (h_126.tr h_141)), h_144, by omega, hst.2.1, (by rw [hrow]; exact pRoads_n (by omega) hwA htA hEq), (by rw [hrow]; exact hst.2.2)⟩) (show zMu j_wrong_134 j_token_131 j_next_129 i_size < zMu xr xt xn i_size from zMu_lt (by omega) (by omega) (by omega) (by omega)) _ _ ls G (lv_sub hl [0, 2, 3] rfl)
            · have c_151n : ¬ 4 ≤ nn := fun q => c_151 ((nI_leI (a := 4) (b := nn) (by omega) (by omega)).mpr q)
              refine lv_aload_n hx hb dX12_crossTold_69 rfl (lv_at hl 2 rfl) ?_
              refine z_get C G clX12 1 rfl 10 (by decide) m_fl_RX12_17 rfl dX12_crossTold_70 ?_
              refine lv_bipush (v := 23) hx hb dX12_crossTold_73 (by decide) ?_
              refine lv_iconst (v := 4) hx hb dX12_crossTold_75 (by decide) ?_
              refine lv_aload_n hx hb dX12_crossTold_76 rfl (lv_at hl 2 rfl) ?_
              refine z_get C G clX12 1 rfl 10 (by decide) m_fl_RX12_17 rfl dX12_crossTold_77 ?_
              refine lv_iconst (v := 0) hx hb dX12_crossTold_80 (by decide) ?_
              refine z_ild C G 0 rfl (vp_in_nI (n := 0) (by decide) (by decide)) dX12_crossTold_81 ?_
              refine lv_topi (fun v_152 ev_152 => ?_)
              rw [show ((0 : Int32).toNatClampNeg) = 0 from rfl] at ev_152
              subst ev_152
              refine lv_imul hx hb dX12_crossTold_82 ?_
              refine lv_topi (fun y_153 ey_153 => ?_)
              have ey_153i : y_153.toInt = (4 : Int) * (gr 0).toInt := by rw [ey_153]; exact z_imulI (x := (4 : Int32)) (y := (gr 0)) (by show -2147483648 ≤ (4 : Int) * (gr 0).toInt; omega) (by show (4 : Int) * (gr 0).toInt < 2147483648; omega)
              refine lv_iadd hx hb dX12_crossTold_83 ?_
              refine lv_topi (fun y_154 ey_154 => ?_)
              have ey_154i : y_154.toInt = (23 : Int) + y_153.toInt := by rw [ey_154]; exact z_iaddI (x := (23 : Int32)) (y := y_153) (by show -2147483648 ≤ (23 : Int) + y_153.toInt; omega) (by show (23 : Int) + y_153.toInt < 2147483648; omega)
              refine lv_iload_n hx hb dX12_crossTold_84 rfl (lv_at hl 1 rfl) ?_
              refine lv_iadd hx hb dX12_crossTold_85 ?_
              refine lv_topi (fun y_155 ey_155 => ?_)
              have ey_155i : y_155.toInt = y_154.toInt + (nn : Int) := by rw [ey_155]; exact (z_iaddI (x := y_154) (y := (nI nn)) (by rw [nI_toInt (n := nn) (by omega)]; show -2147483648 ≤ y_154.toInt + (nn : Int); omega) (by rw [nI_toInt (n := nn) (by omega)]; show y_154.toInt + (nn : Int) < 2147483648; omega)).trans (by rw [nI_toInt (n := nn) (by omega)] <;> rfl)
              refine lv_iload_n hx hb dX12_crossTold_86 rfl (lv_at hl 0 rfl) ?_
              refine z_ist C G 0 rfl (vp_in_iff.mpr ⟨by omega, by omega⟩) dX12_crossTold_87 (fun H locs G => ?_)
              have G : zS T A s.heap s [[(m_read, .inl (T.2 0, 121, .inl (upd gr y_155.toNatClampNeg r_146)))], [(mo, .inr (11, [.ref m_all, .ref m_has, .int i_size, .int j_next_129, .int j_where_130, .int j_token_131, .int j_number_132, .int j_word_133, .int j_wrong_134, .int j_farCrossing_135, .ref m_read, .int i_z0, .int i_crossings, .int i_inns, .ref m_posts, .ref m_shut, .ref m_here, .int i_steps, .int i_done, .int i_at, .int i_gone, .ref m_was, .ref m_came, .ref m_seenAt, .ref m_rowWorth, .ref m_farBy, .ref m_used, .int i_everywhere, .int i_again0, .int i_d0, .int i_never, .int i_firstCame, .int i_longRun, .int i_moved, .int i_crowd, .int i_l0, .int i_fitMany, .int i_fitLeast, .int i_fitMost, .ref m_fitPost, .ref m_fitEnd, .ref m_keptPosts, .int i_x0]))], [(m_all, .inl (T.2 0, 3952, .inl g_all_136))]] _ _ := G
              have hcl9 := z_clI (x := y_155) (by omega)
              have hrow : upd gr y_155.toNatClampNeg r_146 = pRow k j A9 gr := pRow_y (by omega) (by omega) (by omega) h_145
              refine lv_iload_n hx hb dX12_crossTold_88 rfl (lv_at hl 1 rfl) ?_
              refine lv_iconst (v := 4) hx hb dX12_crossTold_89 (by decide) ?_
              refine lv_icmp_ge (tgt := 99) hx hb dX12_crossTold_90 (by decide) (fun q => absurd q c_151) (fun _ => ?_)
              refine lv_iload_n hx hb dX12_crossTold_93 rfl (lv_at hl 1 rfl) ?_
              refine lv_iconst (v := 1) hx hb dX12_crossTold_94 (by decide) ?_
              refine lv_iadd hx hb dX12_crossTold_95 ?_
              refine lv_topi (fun y_156 ey_156 => ?_)
              obtain rfl : y_156 = nI (nn + 1) := ey_156.trans (z_iaddn nn 1 rfl rfl)
              refine lv_goto (tgt := 100) hx hb dX12_crossTold_96 (by decide) ?_
              refine lv_istore_n (lv' := [(2, .int (nI (nn + 1))), (3, .int r_146), (0, .ref mo), (1, .int at_)]) hx hb dX12_crossTold_100 rfl hl (by decide) rfl (fun ls hl => ?_)
              refine lv_goto (tgt := 19) hx hb dX12_crossTold_101 (by decide) ?_
              exact ih_19 (j_next_129, j_where_130, j_token_131, j_number_132, j_word_133, j_wrong_134, j_farCrossing_135, g_all_136, (upd gr y_155.toNatClampNeg r_146), (nn + 1), ((pCr k (pAt k j A9)).2), (j + 1)) (show (nn + 1) ≤ 4 ∧ zLF (upd gr y_155.toNatClampNeg r_146) ∧ i_next.toInt ≤ j_next_129.toInt ∧ j_next_129.toInt ≤ i_size.toInt ∧ zPal f_all g_all_136 ∧ zRr k n i_size j_next_129 j_where_130 j_token_131 j_number_132 j_word_133 j_wrong_134 j_farCrossing_135 g_all_136 ((pCr k (pAt k j A9)).2) ∧ (nn + 1) = min (j + 1) 4 ∧ (j + 1) ≤ ((pCr k (pAt k j A9)).2).1 ∧ pRoads k (601 - (j + 1)) (min (j + 1) 4) ((pCr k (pAt k j A9)).2) (upd gr y_155.toNatClampNeg r_146) = pRoads k 601 0 b f_read ∧ (upd gr y_155.toNatClampNeg r_146) 0 = f_read 0 from ⟨by omega, (zLF_upd (k := y_155.toNatClampNeg) (v := r_146) (by assumption) (by have q9 := z_clI (x := y_155) (by omega); omega) (by have q9 := z_clI (x := y_155) (by omega); omega) (by have q9 := z_clI (x := y_155) (by omega); omega) (by have q9 := z_clI (x := y_155) (by omega); omega) (by have q9 := z_clI (x := y_155) (by omega); omega)), by omega, by omega, (hpal.tr (h_126.tr h_141)), h_144, by omega, hst.2.1, (by rw [hrow]; exact pRoads_n (by omega) hwA htA hEq), (by rw [hrow]; exact hst.2.2)⟩) (show zMu j_wrong_134 j_token_131 j_next_129 i_size < zMu xr xt xn i_size from zMu_lt (by omega) (by omega) (by omega) (by omega)) _ _ ls G (lv_sub hl [0, 2, 3] rfl)


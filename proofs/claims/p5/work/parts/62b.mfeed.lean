set_option maxHeartbeats 4000000 in
set_option maxRecDepth 100000 in
/-- c_m_feed -/
theorem c_m_feed (l : Launch) (T : zTy) (mo : Nat) (m_all : Nat) (m_has : Nat) (i_size : Int32) (i_next : Int32) (i_where : Int32) (i_token : Int32) (i_number : Int32) (i_word : Int32) (i_wrong : Int32) (i_farCrossing : Int32) (m_read : Nat) (i_z0 : Int32) (i_crossings : Int32) (i_inns : Int32) (m_posts : Nat) (m_shut : Nat) (m_here : Nat) (i_steps : Int32) (i_done : Int32) (i_at : Int32) (i_gone : Int32) (m_was : Nat) (m_came : Nat) (m_seenAt : Nat) (m_rowWorth : Nat) (m_farBy : Nat) (m_used : Nat) (i_everywhere : Int32) (i_again0 : Int32) (i_d0 : Int32) (i_never : Int32) (i_firstCame : Int32) (i_longRun : Int32) (i_moved : Int32) (i_crowd : Int32) (i_l0 : Int32) (i_fitMany : Int32) (i_fitLeast : Int32) (i_fitMost : Int32) (m_fitPost : Nat) (m_fitEnd : Nat) (m_keptPosts : Nat) (i_x0 : Int32) (f_all : Nat → Int32) (a_ : Int32) (b_ : Int32) (c_ : Int32) (d_ : Int32) (e_ : Int32) (h4 : 0 ≤ (f_all 4).toInt ∧ (f_all 4).toInt ≤ 600) : zMi l T yX12_feed cX12_feed 8 (some .int) 1 0 0 [.ref mo, .int a_, .int b_, .int c_, .int d_, .int e_] [[(mo, .inr (11, [.ref m_all, .ref m_has, .int i_size, .int i_next, .int i_where, .int i_token, .int i_number, .int i_word, .int i_wrong, .int i_farCrossing, .ref m_read, .int i_z0, .int i_crossings, .int i_inns, .ref m_posts, .ref m_shut, .ref m_here, .int i_steps, .int i_done, .int i_at, .int i_gone, .ref m_was, .ref m_came, .ref m_seenAt, .ref m_rowWorth, .ref m_farBy, .ref m_used, .int i_everywhere, .int i_again0, .int i_d0, .int i_never, .int i_firstCame, .int i_longRun, .int i_moved, .int i_crowd, .int i_l0, .int i_fitMany, .int i_fitLeast, .int i_fitMost, .ref m_fitPost, .ref m_fitEnd, .ref m_keptPosts, .int i_x0]))], [(m_all, .inl (T.2 0, 3952, .inl f_all))]] (fun (r : Int32) bs => ∃ (g_all : Nat → Int32), bs = [[(mo, .inr (11, [.ref m_all, .ref m_has, .int i_size, .int i_next, .int i_where, .int i_token, .int i_number, .int i_word, .int i_wrong, .int i_farCrossing, .ref m_read, .int i_z0, .int i_crossings, .int i_inns, .ref m_posts, .ref m_shut, .ref m_here, .int i_steps, .int i_done, .int i_at, .int i_gone, .ref m_was, .ref m_came, .ref m_seenAt, .ref m_rowWorth, .ref m_farBy, .ref m_used, .int i_everywhere, .int i_again0, .int i_d0, .int i_never, .int i_firstCame, .int i_longRun, .int i_moved, .int i_crowd, .int i_l0, .int i_fitMany, .int i_fitLeast, .int i_fitMost, .ref m_fitPost, .ref m_fitEnd, .ref m_keptPosts, .int i_x0]))], [(m_all, .inl (T.2 0, 3952, .inl g_all))]] ∧ (r.toInt = -1 ∧ 580 < (f_all 4).toInt ∧ g_all 4 = f_all 4 ∨ (f_all 4).toInt ≤ 580 ∧ (g_all 4).toInt = (f_all 4).toInt + 20 ∧ r = g_all 4) ∧ (∀ j, (j < 10 ∨ 610 ≤ j) → j ≠ 4 → g_all j = f_all j)) := by
  refine zMi_of (own := RX12) (by decide) rfl (Nat.le_of_ble_eq_true rfl) ?_
  intro p e s m args below meth c A ls C hr hlocks hnm hAe G hl
  have hx := C.1
  have hb := C.2.1
  have hl : lv_has ls 8 [(0, .ref mo), (1, .int a_), (2, .int b_), (3, .int c_), (4, .int d_), (5, .int e_)] := hl
  refine lv_aload_n hx hb dX12_feed_0 rfl (lv_at hl 0 rfl) ?_
  refine z_get C G clX12 0 rfl 0 (by decide) m_fl_RX12_7 rfl dX12_feed_1 ?_
  refine lv_iconst (v := 4) hx hb dX12_feed_4 (by decide) ?_
  refine z_ild C G 1 rfl (vp_in_nI (n := 4) (by decide) (by decide)) dX12_feed_5 ?_
  refine lv_topi (fun v_1 ev_1 => ?_)
  rw [show ((4 : Int32).toNatClampNeg) = 4 from rfl] at ev_1
  subst ev_1
  refine lv_bipush (v := 20) hx hb dX12_feed_6 (by decide) ?_
  refine lv_iadd hx hb dX12_feed_8 ?_
  refine lv_topi (fun y_2 ey_2 => ?_)
  have ey_2i : y_2.toInt = (f_all 4).toInt + (20 : Int) := by rw [ey_2]; exact z_iaddI (x := (f_all 4)) (y := (20 : Int32)) (by show -2147483648 ≤ (f_all 4).toInt + (20 : Int); omega) (by show (f_all 4).toInt + (20 : Int) < 2147483648; omega)
  refine lv_sipush (v := 600) hx hb dX12_feed_9 (by decide) ?_
  refine lv_icmp_le (tgt := 17) hx hb dX12_feed_12 (by decide) (fun c_3 => ?_) (fun c_3 => ?_)
  · have c_3n : y_2.toInt ≤ (600 : Int) := (fa_le _ _).mp c_3
    refine lv_iconst (v := 0) hx hb dX12_feed_17 (by decide) ?_
    refine lv_istore (lv' := [(6, .int 0), (0, .ref mo), (1, .int a_), (2, .int b_), (3, .int c_), (4, .int d_), (5, .int e_)]) hx hb dX12_feed_18 hl (by decide) rfl (fun ls hl => ?_)
    refine z_loop (T := T) (α := Nat × (Nat → Int32)) 20 (fun (i, x) => [[(mo, .inr (11, [.ref m_all, .ref m_has, .int i_size, .int i_next, .int i_where, .int i_token, .int i_number, .int i_word, .int i_wrong, .int i_farCrossing, .ref m_read, .int i_z0, .int i_crossings, .int i_inns, .ref m_posts, .ref m_shut, .ref m_here, .int i_steps, .int i_done, .int i_at, .int i_gone, .ref m_was, .ref m_came, .ref m_seenAt, .ref m_rowWorth, .ref m_farBy, .ref m_used, .int i_everywhere, .int i_again0, .int i_d0, .int i_never, .int i_firstCame, .int i_longRun, .int i_moved, .int i_crowd, .int i_l0, .int i_fitMany, .int i_fitLeast, .int i_fitMost, .ref m_fitPost, .ref m_fitEnd, .ref m_keptPosts, .int i_x0]))], [(m_all, .inl (T.2 0, 3952, .inl x))]]) (fun (i, x) => [(6, .int (nI i)), (0, .ref mo), (1, .int a_), (2, .int b_), (3, .int c_), (4, .int d_), (5, .int e_)]) (fun (i, x) => i ≤ 20 ∧ (x 4).toInt = (f_all 4).toInt + i ∧ (∀ j, (j < 10 ∨ 610 ≤ j) → j ≠ 4 → x j = f_all j)) (fun (i, x) => 20 - i) ?_ (0, f_all) (show 0 ≤ 20 ∧ (f_all 4).toInt = (f_all 4).toInt + 0 ∧ (∀ j, (j < 10 ∨ 610 ≤ j) → j ≠ 4 → f_all j = f_all j) from ⟨by omega, by omega, fun j _ _ => rfl⟩) G (lv_sub hl [0, 1, 2, 3, 4, 5, 6] rfl)
    rintro ⟨i, x⟩ ⟨hi, hx4, hxk⟩ ih_20 H locs ls G hl
    replace hi : i ≤ 20 := hi
    replace hx4 : (x 4).toInt = (f_all 4).toInt + i := hx4
    replace hxk : (∀ j, (j < 10 ∨ 610 ≤ j) → j ≠ 4 → x j = f_all j) := hxk
    replace G : zS T A s.heap s [[(mo, .inr (11, [.ref m_all, .ref m_has, .int i_size, .int i_next, .int i_where, .int i_token, .int i_number, .int i_word, .int i_wrong, .int i_farCrossing, .ref m_read, .int i_z0, .int i_crossings, .int i_inns, .ref m_posts, .ref m_shut, .ref m_here, .int i_steps, .int i_done, .int i_at, .int i_gone, .ref m_was, .ref m_came, .ref m_seenAt, .ref m_rowWorth, .ref m_farBy, .ref m_used, .int i_everywhere, .int i_again0, .int i_d0, .int i_never, .int i_firstCame, .int i_longRun, .int i_moved, .int i_crowd, .int i_l0, .int i_fitMany, .int i_fitLeast, .int i_fitMost, .ref m_fitPost, .ref m_fitEnd, .ref m_keptPosts, .int i_x0]))], [(m_all, .inl (T.2 0, 3952, .inl x))]] _ _ := G
    replace hl : lv_has ls 8 [(6, .int (nI i)), (0, .ref mo), (1, .int a_), (2, .int b_), (3, .int c_), (4, .int d_), (5, .int e_)] := hl
    refine lv_iload hx hb dX12_feed_20 (lv_at hl 0 rfl) ?_
    refine lv_bipush (v := 20) hx hb dX12_feed_22 (by decide) ?_
    refine lv_icmp_ge (tgt := 122) hx hb dX12_feed_24 (by decide) (fun c_4 => ?_) (fun c_4 => ?_)
    · have c_4n : 20 ≤ i := (nI_leI (a := 20) (b := i) (by omega) (by omega)).mp c_4
      refine lv_aload_n hx hb dX12_feed_122 rfl (lv_at hl 1 rfl) ?_
      refine z_get C G clX12 0 rfl 0 (by decide) m_fl_RX12_7 rfl dX12_feed_123 ?_
      refine lv_iconst (v := 4) hx hb dX12_feed_126 (by decide) ?_
      refine z_ild C G 1 rfl (vp_in_nI (n := 4) (by decide) (by decide)) dX12_feed_127 ?_
      refine lv_topi (fun v_5 ev_5 => ?_)
      rw [show ((4 : Int32).toNatClampNeg) = 4 from rfl] at ev_5
      subst ev_5
      exact z_iret C hr hlocks G (Nat.le_of_ble_eq_true rfl) (Nat.le_of_ble_eq_true rfl) dX12_feed_128 ⟨x, rfl, (Or.inr ⟨by omega, by omega, rfl⟩), (fun j h1 h2 => hxk j h1 h2)⟩
    · have c_4n : ¬ 20 ≤ i := fun q => c_4 ((nI_leI (a := 20) (b := i) (by omega) (by omega)).mpr q)
      refine lv_iload hx hb dX12_feed_27 (lv_at hl 0 rfl) ?_
      refine lv_iconst (v := 4) hx hb dX12_feed_29 (by decide) ?_
      refine lv_icmp_ge (tgt := 37) hx hb dX12_feed_30 (by decide) (fun c_6 => ?_) (fun c_6 => ?_)
      · have c_6n : 4 ≤ i := (nI_leI (a := 4) (b := i) (by omega) (by omega)).mp c_6
        refine lv_iload hx hb dX12_feed_37 (lv_at hl 0 rfl) ?_
        refine lv_bipush (v := 8) hx hb dX12_feed_39 (by decide) ?_
        refine lv_icmp_ge (tgt := 48) hx hb dX12_feed_41 (by decide) (fun c_7 => ?_) (fun c_7 => ?_)
        · have c_7n : 8 ≤ i := (nI_leI (a := 8) (b := i) (by omega) (by omega)).mp c_7
          refine lv_iload hx hb dX12_feed_48 (lv_at hl 0 rfl) ?_
          refine lv_bipush (v := 12) hx hb dX12_feed_50 (by decide) ?_
          refine lv_icmp_ge (tgt := 59) hx hb dX12_feed_52 (by decide) (fun c_8 => ?_) (fun c_8 => ?_)
          · have c_8n : 12 ≤ i := (nI_leI (a := 12) (b := i) (by omega) (by omega)).mp c_8
            refine lv_iload hx hb dX12_feed_59 (lv_at hl 0 rfl) ?_
            refine lv_bipush (v := 16) hx hb dX12_feed_61 (by decide) ?_
            refine lv_icmp_ge (tgt := 71) hx hb dX12_feed_63 (by decide) (fun c_9 => ?_) (fun c_9 => ?_)
            · have c_9n : 16 ≤ i := (nI_leI (a := 16) (b := i) (by omega) (by omega)).mp c_9
              refine lv_iload hx hb dX12_feed_71 (lv_at hl 6 rfl) ?_
              refine lv_istore (lv' := [(7, .int e_), (6, .int (nI i)), (0, .ref mo), (1, .int a_), (2, .int b_), (3, .int c_), (4, .int d_), (5, .int e_)]) hx hb dX12_feed_73 hl (by decide) rfl (fun ls hl => ?_)
              refine lv_aload_n hx hb dX12_feed_75 rfl (lv_at hl 2 rfl) ?_
              refine z_get C G clX12 0 rfl 0 (by decide) m_fl_RX12_7 rfl dX12_feed_76 ?_
              refine lv_bipush (v := 10) hx hb dX12_feed_79 (by decide) ?_
              refine lv_aload_n hx hb dX12_feed_81 rfl (lv_at hl 2 rfl) ?_
              refine z_get C G clX12 0 rfl 0 (by decide) m_fl_RX12_7 rfl dX12_feed_82 ?_
              refine lv_iconst (v := 4) hx hb dX12_feed_85 (by decide) ?_
              refine z_ild C G 1 rfl (vp_in_nI (n := 4) (by decide) (by decide)) dX12_feed_86 ?_
              refine lv_topi (fun v_10 ev_10 => ?_)
              rw [show ((4 : Int32).toNatClampNeg) = 4 from rfl] at ev_10
              subst ev_10
              refine lv_iadd hx hb dX12_feed_87 ?_
              refine lv_topi (fun y_11 ey_11 => ?_)
              have ey_11i : y_11.toInt = (10 : Int) + (x 4).toInt := by rw [ey_11]; exact z_iaddI (x := (10 : Int32)) (y := (x 4)) (by show -2147483648 ≤ (10 : Int) + (x 4).toInt; omega) (by show (10 : Int) + (x 4).toInt < 2147483648; omega)
              refine lv_iload hx hb dX12_feed_88 (lv_at hl 0 rfl) ?_
              refine lv_bipush (v := 24) hx hb dX12_feed_90 (by decide) ?_
              refine lv_bipush (v := 8) hx hb dX12_feed_92 (by decide) ?_
              refine lv_iload hx hb dX12_feed_94 (lv_at hl 1 rfl) ?_
              refine lv_iconst (v := 4) hx hb dX12_feed_96 (by decide) ?_
              refine lv_irem hx hb dX12_feed_97 (by decide) ?_
              refine lv_imul hx hb dX12_feed_98 ?_
              refine lv_isub hx hb dX12_feed_99 ?_
              refine lv_ishr hx hb dX12_feed_100 ?_
              refine lv_sipush (v := 255) hx hb dX12_feed_101 (by decide) ?_
              refine lv_iand hx hb dX12_feed_104 ?_
              refine z_ist C G 1 rfl (vp_in_iff.mpr ⟨by omega, by omega⟩) dX12_feed_105 (fun H locs G => ?_)
              have G : zS T A s.heap s [[(mo, .inr (11, [.ref m_all, .ref m_has, .int i_size, .int i_next, .int i_where, .int i_token, .int i_number, .int i_word, .int i_wrong, .int i_farCrossing, .ref m_read, .int i_z0, .int i_crossings, .int i_inns, .ref m_posts, .ref m_shut, .ref m_here, .int i_steps, .int i_done, .int i_at, .int i_gone, .ref m_was, .ref m_came, .ref m_seenAt, .ref m_rowWorth, .ref m_farBy, .ref m_used, .int i_everywhere, .int i_again0, .int i_d0, .int i_never, .int i_firstCame, .int i_longRun, .int i_moved, .int i_crowd, .int i_l0, .int i_fitMany, .int i_fitLeast, .int i_fitMost, .ref m_fitPost, .ref m_fitEnd, .ref m_keptPosts, .int i_x0]))], [(m_all, .inl (T.2 0, 3952, .inl (upd x y_11.toNatClampNeg ((e_ >>> ((24 - (8 * ((nI i) - (nI i) / 4 * 4))) &&& 31)) &&& 255))))]] _ _ := G
              refine lv_aload_n hx hb dX12_feed_106 rfl (lv_at hl 2 rfl) ?_
              refine z_get C G clX12 0 rfl 0 (by decide) m_fl_RX12_7 rfl dX12_feed_107 ?_
              refine lv_iconst (v := 4) hx hb dX12_feed_110 (by decide) ?_
              refine lv_dup2_11 hx hb dX12_feed_111 rfl rfl ?_
              refine z_ild C G 1 rfl (vp_in_nI (n := 4) (by decide) (by decide)) dX12_feed_112 ?_
              refine lv_topi (fun v_12 ev_12 => ?_)
              rw [show ((4 : Int32).toNatClampNeg) = 4 from rfl] at ev_12
              subst ev_12
              have hcl := z_clI (x := y_11) (by omega)
              rw [show (upd x y_11.toNatClampNeg ((e_ >>> ((24 - (8 * ((nI i) - (nI i) / 4 * 4))) &&& 31)) &&& 255)) 4 = x 4 from by unfold upd; rw [if_neg (by omega)]]
              refine lv_iconst (v := 1) hx hb dX12_feed_113 (by decide) ?_
              refine lv_iadd hx hb dX12_feed_114 ?_
              refine lv_topi (fun y_13 ey_13 => ?_)
              have ey_13i : y_13.toInt = (x 4).toInt + (1 : Int) := by rw [ey_13]; exact z_iaddI (x := (x 4)) (y := (1 : Int32)) (by show -2147483648 ≤ (x 4).toInt + (1 : Int); omega) (by show (x 4).toInt + (1 : Int) < 2147483648; omega)
              refine z_ist C G 1 rfl (vp_in_nI (n := 4) (by decide) (by decide)) dX12_feed_115 (fun H locs G => ?_)
              have G : zS T A s.heap s [[(mo, .inr (11, [.ref m_all, .ref m_has, .int i_size, .int i_next, .int i_where, .int i_token, .int i_number, .int i_word, .int i_wrong, .int i_farCrossing, .ref m_read, .int i_z0, .int i_crossings, .int i_inns, .ref m_posts, .ref m_shut, .ref m_here, .int i_steps, .int i_done, .int i_at, .int i_gone, .ref m_was, .ref m_came, .ref m_seenAt, .ref m_rowWorth, .ref m_farBy, .ref m_used, .int i_everywhere, .int i_again0, .int i_d0, .int i_never, .int i_firstCame, .int i_longRun, .int i_moved, .int i_crowd, .int i_l0, .int i_fitMany, .int i_fitLeast, .int i_fitMost, .ref m_fitPost, .ref m_fitEnd, .ref m_keptPosts, .int i_x0]))], [(m_all, .inl (T.2 0, 3952, .inl (upd (upd x y_11.toNatClampNeg ((e_ >>> ((24 - (8 * ((nI i) - (nI i) / 4 * 4))) &&& 31)) &&& 255)) 4 y_13)))]] _ _ := G
              refine lv_iinc (v := nI (i + 1)) (lv' := [(6, .int (nI (i + 1))), (7, .int e_), (0, .ref mo), (1, .int a_), (2, .int b_), (3, .int c_), (4, .int d_), (5, .int e_)]) hx hb dX12_feed_116 hl (k := 1) rfl (z_inc i 1) (by decide) rfl (fun ls hl => ?_)
              refine lv_goto (tgt := 20) hx hb dX12_feed_119 (by decide) ?_
              exact ih_20 ((i + 1), (upd (upd x y_11.toNatClampNeg ((e_ >>> ((24 - (8 * ((nI i) - (nI i) / 4 * 4))) &&& 31)) &&& 255)) 4 y_13)) (show (i + 1) ≤ 20 ∧ ((upd (upd x y_11.toNatClampNeg ((e_ >>> ((24 - (8 * ((nI i) - (nI i) / 4 * 4))) &&& 31)) &&& 255)) 4 y_13) 4).toInt = (f_all 4).toInt + (i + 1) ∧ (∀ j, (j < 10 ∨ 610 ≤ j) → j ≠ 4 → (upd (upd x y_11.toNatClampNeg ((e_ >>> ((24 - (8 * ((nI i) - (nI i) / 4 * 4))) &&& 31)) &&& 255)) 4 y_13) j = f_all j) from ⟨by omega, (by rw [show upd _ 4 _ 4 = _ from if_pos rfl]; omega), (fun j h1 h2 => by unfold upd; rw [if_neg h2, if_neg (by omega)]; exact hxk j h1 h2)⟩) (show 20 - (i + 1) < 20 - i from by omega) _ _ ls G (lv_sub hl [0, 2, 3, 4, 5, 6, 7] rfl)
            · have c_9n : ¬ 16 ≤ i := fun q => c_9 ((nI_leI (a := 16) (b := i) (by omega) (by omega)).mpr q)
              refine lv_iload hx hb dX12_feed_66 (lv_at hl 5 rfl) ?_
              refine lv_goto (tgt := 73) hx hb dX12_feed_68 (by decide) ?_
              refine lv_istore (lv' := [(7, .int d_), (6, .int (nI i)), (0, .ref mo), (1, .int a_), (2, .int b_), (3, .int c_), (4, .int d_), (5, .int e_)]) hx hb dX12_feed_73 hl (by decide) rfl (fun ls hl => ?_)
              refine lv_aload_n hx hb dX12_feed_75 rfl (lv_at hl 2 rfl) ?_
              refine z_get C G clX12 0 rfl 0 (by decide) m_fl_RX12_7 rfl dX12_feed_76 ?_
              refine lv_bipush (v := 10) hx hb dX12_feed_79 (by decide) ?_
              refine lv_aload_n hx hb dX12_feed_81 rfl (lv_at hl 2 rfl) ?_
              refine z_get C G clX12 0 rfl 0 (by decide) m_fl_RX12_7 rfl dX12_feed_82 ?_
              refine lv_iconst (v := 4) hx hb dX12_feed_85 (by decide) ?_
              refine z_ild C G 1 rfl (vp_in_nI (n := 4) (by decide) (by decide)) dX12_feed_86 ?_
              refine lv_topi (fun v_14 ev_14 => ?_)
              rw [show ((4 : Int32).toNatClampNeg) = 4 from rfl] at ev_14
              subst ev_14
              refine lv_iadd hx hb dX12_feed_87 ?_
              refine lv_topi (fun y_15 ey_15 => ?_)
              have ey_15i : y_15.toInt = (10 : Int) + (x 4).toInt := by rw [ey_15]; exact z_iaddI (x := (10 : Int32)) (y := (x 4)) (by show -2147483648 ≤ (10 : Int) + (x 4).toInt; omega) (by show (10 : Int) + (x 4).toInt < 2147483648; omega)
              refine lv_iload hx hb dX12_feed_88 (lv_at hl 0 rfl) ?_
              refine lv_bipush (v := 24) hx hb dX12_feed_90 (by decide) ?_
              refine lv_bipush (v := 8) hx hb dX12_feed_92 (by decide) ?_
              refine lv_iload hx hb dX12_feed_94 (lv_at hl 1 rfl) ?_
              refine lv_iconst (v := 4) hx hb dX12_feed_96 (by decide) ?_
              refine lv_irem hx hb dX12_feed_97 (by decide) ?_
              refine lv_imul hx hb dX12_feed_98 ?_
              refine lv_isub hx hb dX12_feed_99 ?_
              refine lv_ishr hx hb dX12_feed_100 ?_
              refine lv_sipush (v := 255) hx hb dX12_feed_101 (by decide) ?_
              refine lv_iand hx hb dX12_feed_104 ?_
              refine z_ist C G 1 rfl (vp_in_iff.mpr ⟨by omega, by omega⟩) dX12_feed_105 (fun H locs G => ?_)
              have G : zS T A s.heap s [[(mo, .inr (11, [.ref m_all, .ref m_has, .int i_size, .int i_next, .int i_where, .int i_token, .int i_number, .int i_word, .int i_wrong, .int i_farCrossing, .ref m_read, .int i_z0, .int i_crossings, .int i_inns, .ref m_posts, .ref m_shut, .ref m_here, .int i_steps, .int i_done, .int i_at, .int i_gone, .ref m_was, .ref m_came, .ref m_seenAt, .ref m_rowWorth, .ref m_farBy, .ref m_used, .int i_everywhere, .int i_again0, .int i_d0, .int i_never, .int i_firstCame, .int i_longRun, .int i_moved, .int i_crowd, .int i_l0, .int i_fitMany, .int i_fitLeast, .int i_fitMost, .ref m_fitPost, .ref m_fitEnd, .ref m_keptPosts, .int i_x0]))], [(m_all, .inl (T.2 0, 3952, .inl (upd x y_15.toNatClampNeg ((d_ >>> ((24 - (8 * ((nI i) - (nI i) / 4 * 4))) &&& 31)) &&& 255))))]] _ _ := G
              refine lv_aload_n hx hb dX12_feed_106 rfl (lv_at hl 2 rfl) ?_
              refine z_get C G clX12 0 rfl 0 (by decide) m_fl_RX12_7 rfl dX12_feed_107 ?_
              refine lv_iconst (v := 4) hx hb dX12_feed_110 (by decide) ?_
              refine lv_dup2_11 hx hb dX12_feed_111 rfl rfl ?_
              refine z_ild C G 1 rfl (vp_in_nI (n := 4) (by decide) (by decide)) dX12_feed_112 ?_
              refine lv_topi (fun v_16 ev_16 => ?_)
              rw [show ((4 : Int32).toNatClampNeg) = 4 from rfl] at ev_16
              subst ev_16
              have hcl := z_clI (x := y_15) (by omega)
              rw [show (upd x y_15.toNatClampNeg ((d_ >>> ((24 - (8 * ((nI i) - (nI i) / 4 * 4))) &&& 31)) &&& 255)) 4 = x 4 from by unfold upd; rw [if_neg (by omega)]]
              refine lv_iconst (v := 1) hx hb dX12_feed_113 (by decide) ?_
              refine lv_iadd hx hb dX12_feed_114 ?_
              refine lv_topi (fun y_17 ey_17 => ?_)
              have ey_17i : y_17.toInt = (x 4).toInt + (1 : Int) := by rw [ey_17]; exact z_iaddI (x := (x 4)) (y := (1 : Int32)) (by show -2147483648 ≤ (x 4).toInt + (1 : Int); omega) (by show (x 4).toInt + (1 : Int) < 2147483648; omega)
              refine z_ist C G 1 rfl (vp_in_nI (n := 4) (by decide) (by decide)) dX12_feed_115 (fun H locs G => ?_)
              have G : zS T A s.heap s [[(mo, .inr (11, [.ref m_all, .ref m_has, .int i_size, .int i_next, .int i_where, .int i_token, .int i_number, .int i_word, .int i_wrong, .int i_farCrossing, .ref m_read, .int i_z0, .int i_crossings, .int i_inns, .ref m_posts, .ref m_shut, .ref m_here, .int i_steps, .int i_done, .int i_at, .int i_gone, .ref m_was, .ref m_came, .ref m_seenAt, .ref m_rowWorth, .ref m_farBy, .ref m_used, .int i_everywhere, .int i_again0, .int i_d0, .int i_never, .int i_firstCame, .int i_longRun, .int i_moved, .int i_crowd, .int i_l0, .int i_fitMany, .int i_fitLeast, .int i_fitMost, .ref m_fitPost, .ref m_fitEnd, .ref m_keptPosts, .int i_x0]))], [(m_all, .inl (T.2 0, 3952, .inl (upd (upd x y_15.toNatClampNeg ((d_ >>> ((24 - (8 * ((nI i) - (nI i) / 4 * 4))) &&& 31)) &&& 255)) 4 y_17)))]] _ _ := G
              refine lv_iinc (v := nI (i + 1)) (lv' := [(6, .int (nI (i + 1))), (7, .int d_), (0, .ref mo), (1, .int a_), (2, .int b_), (3, .int c_), (4, .int d_), (5, .int e_)]) hx hb dX12_feed_116 hl (k := 1) rfl (z_inc i 1) (by decide) rfl (fun ls hl => ?_)
              refine lv_goto (tgt := 20) hx hb dX12_feed_119 (by decide) ?_
              exact ih_20 ((i + 1), (upd (upd x y_15.toNatClampNeg ((d_ >>> ((24 - (8 * ((nI i) - (nI i) / 4 * 4))) &&& 31)) &&& 255)) 4 y_17)) (show (i + 1) ≤ 20 ∧ ((upd (upd x y_15.toNatClampNeg ((d_ >>> ((24 - (8 * ((nI i) - (nI i) / 4 * 4))) &&& 31)) &&& 255)) 4 y_17) 4).toInt = (f_all 4).toInt + (i + 1) ∧ (∀ j, (j < 10 ∨ 610 ≤ j) → j ≠ 4 → (upd (upd x y_15.toNatClampNeg ((d_ >>> ((24 - (8 * ((nI i) - (nI i) / 4 * 4))) &&& 31)) &&& 255)) 4 y_17) j = f_all j) from ⟨by omega, (by rw [show upd _ 4 _ 4 = _ from if_pos rfl]; omega), (fun j h1 h2 => by unfold upd; rw [if_neg h2, if_neg (by omega)]; exact hxk j h1 h2)⟩) (show 20 - (i + 1) < 20 - i from by omega) _ _ ls G (lv_sub hl [0, 2, 3, 4, 5, 6, 7] rfl)
          · have c_8n : ¬ 12 ≤ i := fun q => c_8 ((nI_leI (a := 12) (b := i) (by omega) (by omega)).mpr q)
            refine lv_iload_n hx hb dX12_feed_55 rfl (lv_at hl 4 rfl) ?_
            refine lv_goto (tgt := 73) hx hb dX12_feed_56 (by decide) ?_
            refine lv_istore (lv' := [(7, .int c_), (6, .int (nI i)), (0, .ref mo), (1, .int a_), (2, .int b_), (3, .int c_), (4, .int d_), (5, .int e_)]) hx hb dX12_feed_73 hl (by decide) rfl (fun ls hl => ?_)
            refine lv_aload_n hx hb dX12_feed_75 rfl (lv_at hl 2 rfl) ?_
            refine z_get C G clX12 0 rfl 0 (by decide) m_fl_RX12_7 rfl dX12_feed_76 ?_
            refine lv_bipush (v := 10) hx hb dX12_feed_79 (by decide) ?_
            refine lv_aload_n hx hb dX12_feed_81 rfl (lv_at hl 2 rfl) ?_
            refine z_get C G clX12 0 rfl 0 (by decide) m_fl_RX12_7 rfl dX12_feed_82 ?_
            refine lv_iconst (v := 4) hx hb dX12_feed_85 (by decide) ?_
            refine z_ild C G 1 rfl (vp_in_nI (n := 4) (by decide) (by decide)) dX12_feed_86 ?_
            refine lv_topi (fun v_18 ev_18 => ?_)
            rw [show ((4 : Int32).toNatClampNeg) = 4 from rfl] at ev_18
            subst ev_18
            refine lv_iadd hx hb dX12_feed_87 ?_
            refine lv_topi (fun y_19 ey_19 => ?_)
            have ey_19i : y_19.toInt = (10 : Int) + (x 4).toInt := by rw [ey_19]; exact z_iaddI (x := (10 : Int32)) (y := (x 4)) (by show -2147483648 ≤ (10 : Int) + (x 4).toInt; omega) (by show (10 : Int) + (x 4).toInt < 2147483648; omega)
            refine lv_iload hx hb dX12_feed_88 (lv_at hl 0 rfl) ?_
            refine lv_bipush (v := 24) hx hb dX12_feed_90 (by decide) ?_
            refine lv_bipush (v := 8) hx hb dX12_feed_92 (by decide) ?_
            refine lv_iload hx hb dX12_feed_94 (lv_at hl 1 rfl) ?_
            refine lv_iconst (v := 4) hx hb dX12_feed_96 (by decide) ?_
            refine lv_irem hx hb dX12_feed_97 (by decide) ?_
            refine lv_imul hx hb dX12_feed_98 ?_
            refine lv_isub hx hb dX12_feed_99 ?_
            refine lv_ishr hx hb dX12_feed_100 ?_
            refine lv_sipush (v := 255) hx hb dX12_feed_101 (by decide) ?_
            refine lv_iand hx hb dX12_feed_104 ?_
            refine z_ist C G 1 rfl (vp_in_iff.mpr ⟨by omega, by omega⟩) dX12_feed_105 (fun H locs G => ?_)
            have G : zS T A s.heap s [[(mo, .inr (11, [.ref m_all, .ref m_has, .int i_size, .int i_next, .int i_where, .int i_token, .int i_number, .int i_word, .int i_wrong, .int i_farCrossing, .ref m_read, .int i_z0, .int i_crossings, .int i_inns, .ref m_posts, .ref m_shut, .ref m_here, .int i_steps, .int i_done, .int i_at, .int i_gone, .ref m_was, .ref m_came, .ref m_seenAt, .ref m_rowWorth, .ref m_farBy, .ref m_used, .int i_everywhere, .int i_again0, .int i_d0, .int i_never, .int i_firstCame, .int i_longRun, .int i_moved, .int i_crowd, .int i_l0, .int i_fitMany, .int i_fitLeast, .int i_fitMost, .ref m_fitPost, .ref m_fitEnd, .ref m_keptPosts, .int i_x0]))], [(m_all, .inl (T.2 0, 3952, .inl (upd x y_19.toNatClampNeg ((c_ >>> ((24 - (8 * ((nI i) - (nI i) / 4 * 4))) &&& 31)) &&& 255))))]] _ _ := G
            refine lv_aload_n hx hb dX12_feed_106 rfl (lv_at hl 2 rfl) ?_
            refine z_get C G clX12 0 rfl 0 (by decide) m_fl_RX12_7 rfl dX12_feed_107 ?_
            refine lv_iconst (v := 4) hx hb dX12_feed_110 (by decide) ?_
            refine lv_dup2_11 hx hb dX12_feed_111 rfl rfl ?_
            refine z_ild C G 1 rfl (vp_in_nI (n := 4) (by decide) (by decide)) dX12_feed_112 ?_
            refine lv_topi (fun v_20 ev_20 => ?_)
            rw [show ((4 : Int32).toNatClampNeg) = 4 from rfl] at ev_20
            subst ev_20
            have hcl := z_clI (x := y_19) (by omega)
            rw [show (upd x y_19.toNatClampNeg ((c_ >>> ((24 - (8 * ((nI i) - (nI i) / 4 * 4))) &&& 31)) &&& 255)) 4 = x 4 from by unfold upd; rw [if_neg (by omega)]]
            refine lv_iconst (v := 1) hx hb dX12_feed_113 (by decide) ?_
            refine lv_iadd hx hb dX12_feed_114 ?_
            refine lv_topi (fun y_21 ey_21 => ?_)
            have ey_21i : y_21.toInt = (x 4).toInt + (1 : Int) := by rw [ey_21]; exact z_iaddI (x := (x 4)) (y := (1 : Int32)) (by show -2147483648 ≤ (x 4).toInt + (1 : Int); omega) (by show (x 4).toInt + (1 : Int) < 2147483648; omega)
            refine z_ist C G 1 rfl (vp_in_nI (n := 4) (by decide) (by decide)) dX12_feed_115 (fun H locs G => ?_)
            have G : zS T A s.heap s [[(mo, .inr (11, [.ref m_all, .ref m_has, .int i_size, .int i_next, .int i_where, .int i_token, .int i_number, .int i_word, .int i_wrong, .int i_farCrossing, .ref m_read, .int i_z0, .int i_crossings, .int i_inns, .ref m_posts, .ref m_shut, .ref m_here, .int i_steps, .int i_done, .int i_at, .int i_gone, .ref m_was, .ref m_came, .ref m_seenAt, .ref m_rowWorth, .ref m_farBy, .ref m_used, .int i_everywhere, .int i_again0, .int i_d0, .int i_never, .int i_firstCame, .int i_longRun, .int i_moved, .int i_crowd, .int i_l0, .int i_fitMany, .int i_fitLeast, .int i_fitMost, .ref m_fitPost, .ref m_fitEnd, .ref m_keptPosts, .int i_x0]))], [(m_all, .inl (T.2 0, 3952, .inl (upd (upd x y_19.toNatClampNeg ((c_ >>> ((24 - (8 * ((nI i) - (nI i) / 4 * 4))) &&& 31)) &&& 255)) 4 y_21)))]] _ _ := G
            refine lv_iinc (v := nI (i + 1)) (lv' := [(6, .int (nI (i + 1))), (7, .int c_), (0, .ref mo), (1, .int a_), (2, .int b_), (3, .int c_), (4, .int d_), (5, .int e_)]) hx hb dX12_feed_116 hl (k := 1) rfl (z_inc i 1) (by decide) rfl (fun ls hl => ?_)
            refine lv_goto (tgt := 20) hx hb dX12_feed_119 (by decide) ?_
            exact ih_20 ((i + 1), (upd (upd x y_19.toNatClampNeg ((c_ >>> ((24 - (8 * ((nI i) - (nI i) / 4 * 4))) &&& 31)) &&& 255)) 4 y_21)) (show (i + 1) ≤ 20 ∧ ((upd (upd x y_19.toNatClampNeg ((c_ >>> ((24 - (8 * ((nI i) - (nI i) / 4 * 4))) &&& 31)) &&& 255)) 4 y_21) 4).toInt = (f_all 4).toInt + (i + 1) ∧ (∀ j, (j < 10 ∨ 610 ≤ j) → j ≠ 4 → (upd (upd x y_19.toNatClampNeg ((c_ >>> ((24 - (8 * ((nI i) - (nI i) / 4 * 4))) &&& 31)) &&& 255)) 4 y_21) j = f_all j) from ⟨by omega, (by rw [show upd _ 4 _ 4 = _ from if_pos rfl]; omega), (fun j h1 h2 => by unfold upd; rw [if_neg h2, if_neg (by omega)]; exact hxk j h1 h2)⟩) (show 20 - (i + 1) < 20 - i from by omega) _ _ ls G (lv_sub hl [0, 2, 3, 4, 5, 6, 7] rfl)
        · have c_7n : ¬ 8 ≤ i := fun q => c_7 ((nI_leI (a := 8) (b := i) (by omega) (by omega)).mpr q)
          refine lv_iload_n hx hb dX12_feed_44 rfl (lv_at hl 3 rfl) ?_
          refine lv_goto (tgt := 73) hx hb dX12_feed_45 (by decide) ?_
          refine lv_istore (lv' := [(7, .int b_), (6, .int (nI i)), (0, .ref mo), (1, .int a_), (2, .int b_), (3, .int c_), (4, .int d_), (5, .int e_)]) hx hb dX12_feed_73 hl (by decide) rfl (fun ls hl => ?_)
          refine lv_aload_n hx hb dX12_feed_75 rfl (lv_at hl 2 rfl) ?_
          refine z_get C G clX12 0 rfl 0 (by decide) m_fl_RX12_7 rfl dX12_feed_76 ?_
          refine lv_bipush (v := 10) hx hb dX12_feed_79 (by decide) ?_
          refine lv_aload_n hx hb dX12_feed_81 rfl (lv_at hl 2 rfl) ?_
          refine z_get C G clX12 0 rfl 0 (by decide) m_fl_RX12_7 rfl dX12_feed_82 ?_
          refine lv_iconst (v := 4) hx hb dX12_feed_85 (by decide) ?_
          refine z_ild C G 1 rfl (vp_in_nI (n := 4) (by decide) (by decide)) dX12_feed_86 ?_
          refine lv_topi (fun v_22 ev_22 => ?_)
          rw [show ((4 : Int32).toNatClampNeg) = 4 from rfl] at ev_22
          subst ev_22
          refine lv_iadd hx hb dX12_feed_87 ?_
          refine lv_topi (fun y_23 ey_23 => ?_)
          have ey_23i : y_23.toInt = (10 : Int) + (x 4).toInt := by rw [ey_23]; exact z_iaddI (x := (10 : Int32)) (y := (x 4)) (by show -2147483648 ≤ (10 : Int) + (x 4).toInt; omega) (by show (10 : Int) + (x 4).toInt < 2147483648; omega)
          refine lv_iload hx hb dX12_feed_88 (lv_at hl 0 rfl) ?_
          refine lv_bipush (v := 24) hx hb dX12_feed_90 (by decide) ?_
          refine lv_bipush (v := 8) hx hb dX12_feed_92 (by decide) ?_
          refine lv_iload hx hb dX12_feed_94 (lv_at hl 1 rfl) ?_
          refine lv_iconst (v := 4) hx hb dX12_feed_96 (by decide) ?_
          refine lv_irem hx hb dX12_feed_97 (by decide) ?_
          refine lv_imul hx hb dX12_feed_98 ?_
          refine lv_isub hx hb dX12_feed_99 ?_
          refine lv_ishr hx hb dX12_feed_100 ?_
          refine lv_sipush (v := 255) hx hb dX12_feed_101 (by decide) ?_
          refine lv_iand hx hb dX12_feed_104 ?_
          refine z_ist C G 1 rfl (vp_in_iff.mpr ⟨by omega, by omega⟩) dX12_feed_105 (fun H locs G => ?_)
          have G : zS T A s.heap s [[(mo, .inr (11, [.ref m_all, .ref m_has, .int i_size, .int i_next, .int i_where, .int i_token, .int i_number, .int i_word, .int i_wrong, .int i_farCrossing, .ref m_read, .int i_z0, .int i_crossings, .int i_inns, .ref m_posts, .ref m_shut, .ref m_here, .int i_steps, .int i_done, .int i_at, .int i_gone, .ref m_was, .ref m_came, .ref m_seenAt, .ref m_rowWorth, .ref m_farBy, .ref m_used, .int i_everywhere, .int i_again0, .int i_d0, .int i_never, .int i_firstCame, .int i_longRun, .int i_moved, .int i_crowd, .int i_l0, .int i_fitMany, .int i_fitLeast, .int i_fitMost, .ref m_fitPost, .ref m_fitEnd, .ref m_keptPosts, .int i_x0]))], [(m_all, .inl (T.2 0, 3952, .inl (upd x y_23.toNatClampNeg ((b_ >>> ((24 - (8 * ((nI i) - (nI i) / 4 * 4))) &&& 31)) &&& 255))))]] _ _ := G
          refine lv_aload_n hx hb dX12_feed_106 rfl (lv_at hl 2 rfl) ?_
          refine z_get C G clX12 0 rfl 0 (by decide) m_fl_RX12_7 rfl dX12_feed_107 ?_
          refine lv_iconst (v := 4) hx hb dX12_feed_110 (by decide) ?_
          refine lv_dup2_11 hx hb dX12_feed_111 rfl rfl ?_
          refine z_ild C G 1 rfl (vp_in_nI (n := 4) (by decide) (by decide)) dX12_feed_112 ?_
          refine lv_topi (fun v_24 ev_24 => ?_)
          rw [show ((4 : Int32).toNatClampNeg) = 4 from rfl] at ev_24
          subst ev_24
          have hcl := z_clI (x := y_23) (by omega)
          rw [show (upd x y_23.toNatClampNeg ((b_ >>> ((24 - (8 * ((nI i) - (nI i) / 4 * 4))) &&& 31)) &&& 255)) 4 = x 4 from by unfold upd; rw [if_neg (by omega)]]
          refine lv_iconst (v := 1) hx hb dX12_feed_113 (by decide) ?_
          refine lv_iadd hx hb dX12_feed_114 ?_
          refine lv_topi (fun y_25 ey_25 => ?_)
          have ey_25i : y_25.toInt = (x 4).toInt + (1 : Int) := by rw [ey_25]; exact z_iaddI (x := (x 4)) (y := (1 : Int32)) (by show -2147483648 ≤ (x 4).toInt + (1 : Int); omega) (by show (x 4).toInt + (1 : Int) < 2147483648; omega)
          refine z_ist C G 1 rfl (vp_in_nI (n := 4) (by decide) (by decide)) dX12_feed_115 (fun H locs G => ?_)
          have G : zS T A s.heap s [[(mo, .inr (11, [.ref m_all, .ref m_has, .int i_size, .int i_next, .int i_where, .int i_token, .int i_number, .int i_word, .int i_wrong, .int i_farCrossing, .ref m_read, .int i_z0, .int i_crossings, .int i_inns, .ref m_posts, .ref m_shut, .ref m_here, .int i_steps, .int i_done, .int i_at, .int i_gone, .ref m_was, .ref m_came, .ref m_seenAt, .ref m_rowWorth, .ref m_farBy, .ref m_used, .int i_everywhere, .int i_again0, .int i_d0, .int i_never, .int i_firstCame, .int i_longRun, .int i_moved, .int i_crowd, .int i_l0, .int i_fitMany, .int i_fitLeast, .int i_fitMost, .ref m_fitPost, .ref m_fitEnd, .ref m_keptPosts, .int i_x0]))], [(m_all, .inl (T.2 0, 3952, .inl (upd (upd x y_23.toNatClampNeg ((b_ >>> ((24 - (8 * ((nI i) - (nI i) / 4 * 4))) &&& 31)) &&& 255)) 4 y_25)))]] _ _ := G
          refine lv_iinc (v := nI (i + 1)) (lv' := [(6, .int (nI (i + 1))), (7, .int b_), (0, .ref mo), (1, .int a_), (2, .int b_), (3, .int c_), (4, .int d_), (5, .int e_)]) hx hb dX12_feed_116 hl (k := 1) rfl (z_inc i 1) (by decide) rfl (fun ls hl => ?_)
          refine lv_goto (tgt := 20) hx hb dX12_feed_119 (by decide) ?_
          exact ih_20 ((i + 1), (upd (upd x y_23.toNatClampNeg ((b_ >>> ((24 - (8 * ((nI i) - (nI i) / 4 * 4))) &&& 31)) &&& 255)) 4 y_25)) (show (i + 1) ≤ 20 ∧ ((upd (upd x y_23.toNatClampNeg ((b_ >>> ((24 - (8 * ((nI i) - (nI i) / 4 * 4))) &&& 31)) &&& 255)) 4 y_25) 4).toInt = (f_all 4).toInt + (i + 1) ∧ (∀ j, (j < 10 ∨ 610 ≤ j) → j ≠ 4 → (upd (upd x y_23.toNatClampNeg ((b_ >>> ((24 - (8 * ((nI i) - (nI i) / 4 * 4))) &&& 31)) &&& 255)) 4 y_25) j = f_all j) from ⟨by omega, (by rw [show upd _ 4 _ 4 = _ from if_pos rfl]; omega), (fun j h1 h2 => by unfold upd; rw [if_neg h2, if_neg (by omega)]; exact hxk j h1 h2)⟩) (show 20 - (i + 1) < 20 - i from by omega) _ _ ls G (lv_sub hl [0, 2, 3, 4, 5, 6, 7] rfl)
      · have c_6n : ¬ 4 ≤ i := fun q => c_6 ((nI_leI (a := 4) (b := i) (by omega) (by omega)).mpr q)
        refine lv_iload_n hx hb dX12_feed_33 rfl (lv_at hl 2 rfl) ?_
        refine lv_goto (tgt := 73) hx hb dX12_feed_34 (by decide) ?_
        refine lv_istore (lv' := [(7, .int a_), (6, .int (nI i)), (0, .ref mo), (1, .int a_), (2, .int b_), (3, .int c_), (4, .int d_), (5, .int e_)]) hx hb dX12_feed_73 hl (by decide) rfl (fun ls hl => ?_)
        refine lv_aload_n hx hb dX12_feed_75 rfl (lv_at hl 2 rfl) ?_
        refine z_get C G clX12 0 rfl 0 (by decide) m_fl_RX12_7 rfl dX12_feed_76 ?_
        refine lv_bipush (v := 10) hx hb dX12_feed_79 (by decide) ?_
        refine lv_aload_n hx hb dX12_feed_81 rfl (lv_at hl 2 rfl) ?_
        refine z_get C G clX12 0 rfl 0 (by decide) m_fl_RX12_7 rfl dX12_feed_82 ?_
        refine lv_iconst (v := 4) hx hb dX12_feed_85 (by decide) ?_
        refine z_ild C G 1 rfl (vp_in_nI (n := 4) (by decide) (by decide)) dX12_feed_86 ?_
        refine lv_topi (fun v_26 ev_26 => ?_)
        rw [show ((4 : Int32).toNatClampNeg) = 4 from rfl] at ev_26
        subst ev_26
        refine lv_iadd hx hb dX12_feed_87 ?_
        refine lv_topi (fun y_27 ey_27 => ?_)
        have ey_27i : y_27.toInt = (10 : Int) + (x 4).toInt := by rw [ey_27]; exact z_iaddI (x := (10 : Int32)) (y := (x 4)) (by show -2147483648 ≤ (10 : Int) + (x 4).toInt; omega) (by show (10 : Int) + (x 4).toInt < 2147483648; omega)
        refine lv_iload hx hb dX12_feed_88 (lv_at hl 0 rfl) ?_
        refine lv_bipush (v := 24) hx hb dX12_feed_90 (by decide) ?_
        refine lv_bipush (v := 8) hx hb dX12_feed_92 (by decide) ?_
        refine lv_iload hx hb dX12_feed_94 (lv_at hl 1 rfl) ?_
        refine lv_iconst (v := 4) hx hb dX12_feed_96 (by decide) ?_
        refine lv_irem hx hb dX12_feed_97 (by decide) ?_
        refine lv_imul hx hb dX12_feed_98 ?_
        refine lv_isub hx hb dX12_feed_99 ?_
        refine lv_ishr hx hb dX12_feed_100 ?_
        refine lv_sipush (v := 255) hx hb dX12_feed_101 (by decide) ?_
        refine lv_iand hx hb dX12_feed_104 ?_
        refine z_ist C G 1 rfl (vp_in_iff.mpr ⟨by omega, by omega⟩) dX12_feed_105 (fun H locs G => ?_)
        have G : zS T A s.heap s [[(mo, .inr (11, [.ref m_all, .ref m_has, .int i_size, .int i_next, .int i_where, .int i_token, .int i_number, .int i_word, .int i_wrong, .int i_farCrossing, .ref m_read, .int i_z0, .int i_crossings, .int i_inns, .ref m_posts, .ref m_shut, .ref m_here, .int i_steps, .int i_done, .int i_at, .int i_gone, .ref m_was, .ref m_came, .ref m_seenAt, .ref m_rowWorth, .ref m_farBy, .ref m_used, .int i_everywhere, .int i_again0, .int i_d0, .int i_never, .int i_firstCame, .int i_longRun, .int i_moved, .int i_crowd, .int i_l0, .int i_fitMany, .int i_fitLeast, .int i_fitMost, .ref m_fitPost, .ref m_fitEnd, .ref m_keptPosts, .int i_x0]))], [(m_all, .inl (T.2 0, 3952, .inl (upd x y_27.toNatClampNeg ((a_ >>> ((24 - (8 * ((nI i) - (nI i) / 4 * 4))) &&& 31)) &&& 255))))]] _ _ := G
        refine lv_aload_n hx hb dX12_feed_106 rfl (lv_at hl 2 rfl) ?_
        refine z_get C G clX12 0 rfl 0 (by decide) m_fl_RX12_7 rfl dX12_feed_107 ?_
        refine lv_iconst (v := 4) hx hb dX12_feed_110 (by decide) ?_
        refine lv_dup2_11 hx hb dX12_feed_111 rfl rfl ?_
        refine z_ild C G 1 rfl (vp_in_nI (n := 4) (by decide) (by decide)) dX12_feed_112 ?_
        refine lv_topi (fun v_28 ev_28 => ?_)
        rw [show ((4 : Int32).toNatClampNeg) = 4 from rfl] at ev_28
        subst ev_28
        have hcl := z_clI (x := y_27) (by omega)
        rw [show (upd x y_27.toNatClampNeg ((a_ >>> ((24 - (8 * ((nI i) - (nI i) / 4 * 4))) &&& 31)) &&& 255)) 4 = x 4 from by unfold upd; rw [if_neg (by omega)]]
        refine lv_iconst (v := 1) hx hb dX12_feed_113 (by decide) ?_
        refine lv_iadd hx hb dX12_feed_114 ?_
        refine lv_topi (fun y_29 ey_29 => ?_)
        have ey_29i : y_29.toInt = (x 4).toInt + (1 : Int) := by rw [ey_29]; exact z_iaddI (x := (x 4)) (y := (1 : Int32)) (by show -2147483648 ≤ (x 4).toInt + (1 : Int); omega) (by show (x 4).toInt + (1 : Int) < 2147483648; omega)
        refine z_ist C G 1 rfl (vp_in_nI (n := 4) (by decide) (by decide)) dX12_feed_115 (fun H locs G => ?_)
        have G : zS T A s.heap s [[(mo, .inr (11, [.ref m_all, .ref m_has, .int i_size, .int i_next, .int i_where, .int i_token, .int i_number, .int i_word, .int i_wrong, .int i_farCrossing, .ref m_read, .int i_z0, .int i_crossings, .int i_inns, .ref m_posts, .ref m_shut, .ref m_here, .int i_steps, .int i_done, .int i_at, .int i_gone, .ref m_was, .ref m_came, .ref m_seenAt, .ref m_rowWorth, .ref m_farBy, .ref m_used, .int i_everywhere, .int i_again0, .int i_d0, .int i_never, .int i_firstCame, .int i_longRun, .int i_moved, .int i_crowd, .int i_l0, .int i_fitMany, .int i_fitLeast, .int i_fitMost, .ref m_fitPost, .ref m_fitEnd, .ref m_keptPosts, .int i_x0]))], [(m_all, .inl (T.2 0, 3952, .inl (upd (upd x y_27.toNatClampNeg ((a_ >>> ((24 - (8 * ((nI i) - (nI i) / 4 * 4))) &&& 31)) &&& 255)) 4 y_29)))]] _ _ := G
        refine lv_iinc (v := nI (i + 1)) (lv' := [(6, .int (nI (i + 1))), (7, .int a_), (0, .ref mo), (1, .int a_), (2, .int b_), (3, .int c_), (4, .int d_), (5, .int e_)]) hx hb dX12_feed_116 hl (k := 1) rfl (z_inc i 1) (by decide) rfl (fun ls hl => ?_)
        refine lv_goto (tgt := 20) hx hb dX12_feed_119 (by decide) ?_
        exact ih_20 ((i + 1), (upd (upd x y_27.toNatClampNeg ((a_ >>> ((24 - (8 * ((nI i) - (nI i) / 4 * 4))) &&& 31)) &&& 255)) 4 y_29)) (show (i + 1) ≤ 20 ∧ ((upd (upd x y_27.toNatClampNeg ((a_ >>> ((24 - (8 * ((nI i) - (nI i) / 4 * 4))) &&& 31)) &&& 255)) 4 y_29) 4).toInt = (f_all 4).toInt + (i + 1) ∧ (∀ j, (j < 10 ∨ 610 ≤ j) → j ≠ 4 → (upd (upd x y_27.toNatClampNeg ((a_ >>> ((24 - (8 * ((nI i) - (nI i) / 4 * 4))) &&& 31)) &&& 255)) 4 y_29) j = f_all j) from ⟨by omega, (by rw [show upd _ 4 _ 4 = _ from if_pos rfl]; omega), (fun j h1 h2 => by unfold upd; rw [if_neg h2, if_neg (by omega)]; exact hxk j h1 h2)⟩) (show 20 - (i + 1) < 20 - i from by omega) _ _ ls G (lv_sub hl [0, 2, 3, 4, 5, 6, 7] rfl)
  · have c_3n : ¬ y_2.toInt ≤ (600 : Int) := fun q => c_3 ((fa_le _ _).mpr q)
    refine lv_iconst (v := (-1)) hx hb dX12_feed_15 (by decide) ?_
    exact z_iret C hr hlocks G (Nat.le_of_ble_eq_true rfl) (Nat.le_of_ble_eq_true rfl) dX12_feed_16 ⟨f_all, rfl, (Or.inl ⟨by decide, by omega, rfl⟩), (fun j _ _ => rfl)⟩

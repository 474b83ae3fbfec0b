set_option maxHeartbeats 4000000 in
set_option maxRecDepth 100000 in
/-- c_m_again -/
theorem c_m_again (l : Launch) (T : zTy) (mo : Nat) (m_all : Nat) (m_has : Nat) (i_size : Int32) (i_next : Int32) (i_where : Int32) (i_token : Int32) (i_number : Int32) (i_word : Int32) (i_wrong : Int32) (i_farCrossing : Int32) (m_read : Nat) (i_z0 : Int32) (i_crossings : Int32) (i_inns : Int32) (m_posts : Nat) (m_shut : Nat) (m_here : Nat) (i_steps : Int32) (i_done : Int32) (i_at : Int32) (i_gone : Int32) (m_was : Nat) (m_came : Nat) (m_seenAt : Nat) (m_rowWorth : Nat) (m_farBy : Nat) (m_used : Nat) (i_everywhere : Int32) (i_again0 : Int32) (i_d0 : Int32) (i_never : Int32) (i_firstCame : Int32) (i_longRun : Int32) (i_moved : Int32) (i_crowd : Int32) (i_l0 : Int32) (i_fitMany : Int32) (i_fitLeast : Int32) (i_fitMost : Int32) (m_fitPost : Nat) (m_fitEnd : Nat) (m_keptPosts : Nat) (i_x0 : Int32) (f_all : Nat → Int32) (f_has : Nat → Int32) (k_ : Int32) : zMi l T yX12_again cX12_again 3 (some .boolean) 2 0 0 [.ref mo, .int k_] [[(mo, .inr (11, [.ref m_all, .ref m_has, .int i_size, .int i_next, .int i_where, .int i_token, .int i_number, .int i_word, .int i_wrong, .int i_farCrossing, .ref m_read, .int i_z0, .int i_crossings, .int i_inns, .ref m_posts, .ref m_shut, .ref m_here, .int i_steps, .int i_done, .int i_at, .int i_gone, .ref m_was, .ref m_came, .ref m_seenAt, .ref m_rowWorth, .ref m_farBy, .ref m_used, .int i_everywhere, .int i_again0, .int i_d0, .int i_never, .int i_firstCame, .int i_longRun, .int i_moved, .int i_crowd, .int i_l0, .int i_fitMany, .int i_fitLeast, .int i_fitMost, .ref m_fitPost, .ref m_fitEnd, .ref m_keptPosts, .int i_x0]))], [(m_all, .inl (T.2 0, 3952, .inl f_all))], [(m_has, .inl (T.2 2, 3, .inl f_has))]] (fun (r : Int32) bs => ∃ (g_all : Nat → Int32), bs = [[(mo, .inr (11, [.ref m_all, .ref m_has, .int i_size, .int i_next, .int i_where, .int i_token, .int i_number, .int i_word, .int i_wrong, .int i_farCrossing, .ref m_read, .int i_z0, .int i_crossings, .int i_inns, .ref m_posts, .ref m_shut, .ref m_here, .int i_steps, .int i_done, .int i_at, .int i_gone, .ref m_was, .ref m_came, .ref m_seenAt, .ref m_rowWorth, .ref m_farBy, .ref m_used, .int i_everywhere, .int i_again0, .int i_d0, .int i_never, .int i_firstCame, .int i_longRun, .int i_moved, .int i_crowd, .int i_l0, .int i_fitMany, .int i_fitLeast, .int i_fitMost, .ref m_fitPost, .ref m_fitEnd, .ref m_keptPosts, .int i_x0]))], [(m_all, .inl (T.2 0, 3952, .inl g_all))], [(m_has, .inl (T.2 2, 3, .inl f_has))]] ∧ (r = 0 ∧ (k_.toInt < 0 ∨ 3 ≤ k_.toInt ∨ f_has k_.toNatClampNeg = 0) ∧ g_all = f_all ∨ r = 1 ∧ (0 ≤ k_.toInt ∧ k_.toInt < 3) ∧ ¬ f_has k_.toNatClampNeg = 0 ∧ (∀ j, j < 988 → g_all j = f_all (988 * (k_.toNatClampNeg + 1) + j)) ∧ (∀ j, 988 ≤ j → g_all j = f_all j))) := by
  refine zMi_of (own := RX12) (by decide) rfl (Nat.le_of_ble_eq_true rfl) ?_
  intro p e s m args below meth c A ls C hr hlocks hnm hAe G hl
  have hx := C.1
  have hb := C.2.1
  have hl : lv_has ls 3 [(0, .ref mo), (1, .int k_)] := hl
  refine lv_iload_n hx hb dX12_again_0 rfl (lv_at hl 1 rfl) ?_
  refine lv_iconst (v := 0) hx hb dX12_again_1 (by decide) ?_
  refine lv_iconst (v := 2) hx hb dX12_again_2 (by decide) ?_
  refine z_Si (bc := []) (br := [[(mo, .inr (11, [.ref m_all, .ref m_has, .int i_size, .int i_next, .int i_where, .int i_token, .int i_number, .int i_word, .int i_wrong, .int i_farCrossing, .ref m_read, .int i_z0, .int i_crossings, .int i_inns, .ref m_posts, .ref m_shut, .ref m_here, .int i_steps, .int i_done, .int i_at, .int i_gone, .ref m_was, .ref m_came, .ref m_seenAt, .ref m_rowWorth, .ref m_farBy, .ref m_used, .int i_everywhere, .int i_again0, .int i_d0, .int i_never, .int i_firstCame, .int i_longRun, .int i_moved, .int i_crowd, .int i_l0, .int i_fitMany, .int i_fitLeast, .int i_fitMost, .ref m_fitPost, .ref m_fitEnd, .ref m_keptPosts, .int i_x0]))], [(m_all, .inl (T.2 0, 3952, .inl f_all))], [(m_has, .inl (T.2 2, 3, .inl f_has))]]) (As := [.int k_, .int 0, .int 2]) (rest := []) C G (c_m_isIn l T k_ 0 2) (kS_RX12_111 C.2.2.2.2 (Nat.le_of_ble_eq_true rfl) (Nat.le_of_ble_eq_true rfl)) [] [0, 1, 2] rfl rfl rfl rfl hl.1 dX12_again_3 (Nat.le_of_ble_eq_true rfl) (Nat.le_of_ble_eq_true rfl) (fun r_2 b1 H locs hw G => ?_)
  obtain ⟨rfl, hc_1⟩ := hw
  have G : zS T A s.heap s [[(mo, .inr (11, [.ref m_all, .ref m_has, .int i_size, .int i_next, .int i_where, .int i_token, .int i_number, .int i_word, .int i_wrong, .int i_farCrossing, .ref m_read, .int i_z0, .int i_crossings, .int i_inns, .ref m_posts, .ref m_shut, .ref m_here, .int i_steps, .int i_done, .int i_at, .int i_gone, .ref m_was, .ref m_came, .ref m_seenAt, .ref m_rowWorth, .ref m_farBy, .ref m_used, .int i_everywhere, .int i_again0, .int i_d0, .int i_never, .int i_firstCame, .int i_longRun, .int i_moved, .int i_crowd, .int i_l0, .int i_fitMany, .int i_fitLeast, .int i_fitMost, .ref m_fitPost, .ref m_fitEnd, .ref m_keptPosts, .int i_x0]))], [(m_all, .inl (T.2 0, 3952, .inl f_all))], [(m_has, .inl (T.2 2, 3, .inl f_has))]] _ _ := G
  rcases hc_1 with ⟨rfl, h_3, h_4⟩ | ⟨rfl, h_5⟩
  · have h_3 : (0 : Int) ≤ k_.toInt := h_3
    have h_4 : k_.toInt ≤ (2 : Int) := h_4
    refine lv_if_eq (tgt := 18) hx hb dX12_again_6 (by decide) (fun q => absurd q (by decide)) (fun _ => ?_)
    refine lv_aload_n hx hb dX12_again_9 rfl (lv_at hl 0 rfl) ?_
    refine z_get C G clX12 0 rfl 1 (by decide) m_fl_RX12_13 rfl dX12_again_10 ?_
    refine lv_iload_n hx hb dX12_again_13 rfl (lv_at hl 1 rfl) ?_
    refine z_zld C G 2 rfl (vp_in_iff.mpr ⟨by omega, by omega⟩) dX12_again_14 ?_
    refine lv_topi (fun v_6 ev_6 => ?_)
    subst ev_6
    refine lv_if_ne (tgt := 20) hx hb dX12_again_15 (by decide) (fun c_7 => ?_) (fun c_7 => ?_)
    · have c_7n : ¬ (f_has k_.toNatClampNeg).toInt = (0 : Int) := fun q => c_7 ((fa_eq _ _).mpr q)
      rcases (show k_.toInt = 0 ∨ k_.toInt = 1 ∨ k_.toInt = 2 from by omega) with hk | hk | hk
      · obtain rfl : k_ = 0 := Int32.toInt_inj.mp hk
        refine lv_iconst (v := 0) hx hb dX12_again_20 (by decide) ?_
        refine lv_istore_n (lv' := [(2, .int 0), (0, .ref mo), (1, .int 0)]) hx hb dX12_again_21 rfl hl (by decide) rfl (fun ls hl => ?_)
        refine z_loop (T := T) (α := Nat × (Nat → Int32)) 22 (fun (i, x) => [[(mo, .inr (11, [.ref m_all, .ref m_has, .int i_size, .int i_next, .int i_where, .int i_token, .int i_number, .int i_word, .int i_wrong, .int i_farCrossing, .ref m_read, .int i_z0, .int i_crossings, .int i_inns, .ref m_posts, .ref m_shut, .ref m_here, .int i_steps, .int i_done, .int i_at, .int i_gone, .ref m_was, .ref m_came, .ref m_seenAt, .ref m_rowWorth, .ref m_farBy, .ref m_used, .int i_everywhere, .int i_again0, .int i_d0, .int i_never, .int i_firstCame, .int i_longRun, .int i_moved, .int i_crowd, .int i_l0, .int i_fitMany, .int i_fitLeast, .int i_fitMost, .ref m_fitPost, .ref m_fitEnd, .ref m_keptPosts, .int i_x0]))], [(m_all, .inl (T.2 0, 3952, .inl x))], [(m_has, .inl (T.2 2, 3, .inl f_has))]]) (fun (i, x) => [(2, .int (nI i)), (0, .ref mo), (1, .int 0)]) (fun (i, x) => i ≤ 988 ∧ (∀ j, j < i → x j = f_all (988 + j)) ∧ (∀ j, i ≤ j → x j = f_all j)) (fun (i, x) => 988 - i) ?_ (0, f_all) (show 0 ≤ 988 ∧ (∀ j, j < 0 → f_all j = f_all (988 + j)) ∧ (∀ j, 0 ≤ j → f_all j = f_all j) from ⟨by omega, fun j hj => absurd hj (by omega), fun j _ => rfl⟩) G (lv_sub hl [0, 1, 2] rfl)
        rintro ⟨i, x⟩ ⟨hi, hS, hO⟩ ih_22 H locs ls G hl
        replace hi : i ≤ 988 := hi
        replace hS : (∀ j, j < i → x j = f_all (988 + j)) := hS
        replace hO : (∀ j, i ≤ j → x j = f_all j) := hO
        replace G : zS T A s.heap s [[(mo, .inr (11, [.ref m_all, .ref m_has, .int i_size, .int i_next, .int i_where, .int i_token, .int i_number, .int i_word, .int i_wrong, .int i_farCrossing, .ref m_read, .int i_z0, .int i_crossings, .int i_inns, .ref m_posts, .ref m_shut, .ref m_here, .int i_steps, .int i_done, .int i_at, .int i_gone, .ref m_was, .ref m_came, .ref m_seenAt, .ref m_rowWorth, .ref m_farBy, .ref m_used, .int i_everywhere, .int i_again0, .int i_d0, .int i_never, .int i_firstCame, .int i_longRun, .int i_moved, .int i_crowd, .int i_l0, .int i_fitMany, .int i_fitLeast, .int i_fitMost, .ref m_fitPost, .ref m_fitEnd, .ref m_keptPosts, .int i_x0]))], [(m_all, .inl (T.2 0, 3952, .inl x))], [(m_has, .inl (T.2 2, 3, .inl f_has))]] _ _ := G
        replace hl : lv_has ls 3 [(2, .int (nI i)), (0, .ref mo), (1, .int 0)] := hl
        refine lv_iload_n hx hb dX12_again_22 rfl (lv_at hl 0 rfl) ?_
        refine lv_sipush (v := 988) hx hb dX12_again_23 (by decide) ?_
        refine lv_icmp_ge (tgt := 55) hx hb dX12_again_26 (by decide) (fun c_8 => ?_) (fun c_8 => ?_)
        · have c_8n : 988 ≤ i := (nI_leI (a := 988) (b := i) (by omega) (by omega)).mp c_8
          refine lv_iconst (v := 1) hx hb dX12_again_55 (by decide) ?_
          exact z_zret C hr hlocks G (Nat.le_of_ble_eq_true rfl) (Nat.le_of_ble_eq_true rfl) dX12_again_56 rfl ⟨x, rfl, (Or.inr ⟨rfl, by decide, by assumption, fun j hj => hS j (by omega), fun j hj => hO j (by omega)⟩)⟩
        · have c_8n : ¬ 988 ≤ i := fun q => c_8 ((nI_leI (a := 988) (b := i) (by omega) (by omega)).mpr q)
          refine lv_aload_n hx hb dX12_again_29 rfl (lv_at hl 1 rfl) ?_
          refine z_get C G clX12 0 rfl 0 (by decide) m_fl_RX12_7 rfl dX12_again_30 ?_
          refine lv_iload_n hx hb dX12_again_33 rfl (lv_at hl 0 rfl) ?_
          refine lv_aload_n hx hb dX12_again_34 rfl (lv_at hl 1 rfl) ?_
          refine z_get C G clX12 0 rfl 0 (by decide) m_fl_RX12_7 rfl dX12_again_35 ?_
          refine lv_sipush (v := 988) hx hb dX12_again_38 (by decide) ?_
          refine lv_iload_n hx hb dX12_again_41 rfl (lv_at hl 2 rfl) ?_
          refine lv_iconst (v := 1) hx hb dX12_again_42 (by decide) ?_
          refine lv_iadd hx hb dX12_again_43 ?_
          refine lv_topi (fun y_9 ey_9 => ?_)
          obtain rfl : y_9 = 1 := ey_9.trans (by decide)
          refine lv_imul hx hb dX12_again_44 ?_
          refine lv_topi (fun y_10 ey_10 => ?_)
          obtain rfl : y_10 = 988 := ey_10.trans (by decide)
          refine lv_iload_n hx hb dX12_again_45 rfl (lv_at hl 0 rfl) ?_
          refine lv_iadd hx hb dX12_again_46 ?_
          refine lv_topi (fun y_11 ey_11 => ?_)
          obtain rfl : y_11 = nI (988 + i) := ey_11.trans (z_iaddn 988 i rfl rfl)
          refine z_ild C G 1 rfl (vp_in_nI (by omega) (by omega)) dX12_again_47 ?_
          refine lv_topi (fun v_12 ev_12 => ?_)
          rw [nI_clamp (by omega)] at ev_12
          subst ev_12
          refine z_ist C G 1 rfl (vp_in_nI (by omega) (by omega)) dX12_again_48 (fun H locs G => ?_)
          rw [nI_clamp (by omega)] at G
          have G : zS T A s.heap s [[(mo, .inr (11, [.ref m_all, .ref m_has, .int i_size, .int i_next, .int i_where, .int i_token, .int i_number, .int i_word, .int i_wrong, .int i_farCrossing, .ref m_read, .int i_z0, .int i_crossings, .int i_inns, .ref m_posts, .ref m_shut, .ref m_here, .int i_steps, .int i_done, .int i_at, .int i_gone, .ref m_was, .ref m_came, .ref m_seenAt, .ref m_rowWorth, .ref m_farBy, .ref m_used, .int i_everywhere, .int i_again0, .int i_d0, .int i_never, .int i_firstCame, .int i_longRun, .int i_moved, .int i_crowd, .int i_l0, .int i_fitMany, .int i_fitLeast, .int i_fitMost, .ref m_fitPost, .ref m_fitEnd, .ref m_keptPosts, .int i_x0]))], [(m_all, .inl (T.2 0, 3952, .inl (upd x i (x (988 + i)))))], [(m_has, .inl (T.2 2, 3, .inl f_has))]] _ _ := G
          refine lv_iinc (v := nI (i + 1)) (lv' := [(2, .int (nI (i + 1))), (0, .ref mo), (1, .int 0)]) hx hb dX12_again_49 hl (k := 0) rfl (z_inc i 1) (by decide) rfl (fun ls hl => ?_)
          refine lv_goto (tgt := 22) hx hb dX12_again_52 (by decide) ?_
          exact ih_22 ((i + 1), (upd x i (x (988 + i)))) (show (i + 1) ≤ 988 ∧ (∀ j, j < (i + 1) → (upd x i (x (988 + i))) j = f_all (988 + j)) ∧ (∀ j, (i + 1) ≤ j → (upd x i (x (988 + i))) j = f_all j) from ⟨by omega, z_updE (F := fun j => f_all (988 + j)) hS (hO (988 + i) (by omega)), fun j hj => (pk_un (by omega)).trans (hO j (by omega))⟩) (show 988 - (i + 1) < 988 - i from by omega) _ _ ls G (lv_sub hl [0, 1, 2] rfl)
      · obtain rfl : k_ = 1 := Int32.toInt_inj.mp hk
        refine lv_iconst (v := 0) hx hb dX12_again_20 (by decide) ?_
        refine lv_istore_n (lv' := [(2, .int 0), (0, .ref mo), (1, .int 1)]) hx hb dX12_again_21 rfl hl (by decide) rfl (fun ls hl => ?_)
        refine z_loop (T := T) (α := Nat × (Nat → Int32)) 22 (fun (i, x) => [[(mo, .inr (11, [.ref m_all, .ref m_has, .int i_size, .int i_next, .int i_where, .int i_token, .int i_number, .int i_word, .int i_wrong, .int i_farCrossing, .ref m_read, .int i_z0, .int i_crossings, .int i_inns, .ref m_posts, .ref m_shut, .ref m_here, .int i_steps, .int i_done, .int i_at, .int i_gone, .ref m_was, .ref m_came, .ref m_seenAt, .ref m_rowWorth, .ref m_farBy, .ref m_used, .int i_everywhere, .int i_again0, .int i_d0, .int i_never, .int i_firstCame, .int i_longRun, .int i_moved, .int i_crowd, .int i_l0, .int i_fitMany, .int i_fitLeast, .int i_fitMost, .ref m_fitPost, .ref m_fitEnd, .ref m_keptPosts, .int i_x0]))], [(m_all, .inl (T.2 0, 3952, .inl x))], [(m_has, .inl (T.2 2, 3, .inl f_has))]]) (fun (i, x) => [(2, .int (nI i)), (0, .ref mo), (1, .int 1)]) (fun (i, x) => i ≤ 988 ∧ (∀ j, j < i → x j = f_all (1976 + j)) ∧ (∀ j, i ≤ j → x j = f_all j)) (fun (i, x) => 988 - i) ?_ (0, f_all) (show 0 ≤ 988 ∧ (∀ j, j < 0 → f_all j = f_all (1976 + j)) ∧ (∀ j, 0 ≤ j → f_all j = f_all j) from ⟨by omega, fun j hj => absurd hj (by omega), fun j _ => rfl⟩) G (lv_sub hl [0, 1, 2] rfl)
        rintro ⟨i, x⟩ ⟨hi, hS, hO⟩ ih_22 H locs ls G hl
        replace hi : i ≤ 988 := hi
        replace hS : (∀ j, j < i → x j = f_all (1976 + j)) := hS
        replace hO : (∀ j, i ≤ j → x j = f_all j) := hO
        replace G : zS T A s.heap s [[(mo, .inr (11, [.ref m_all, .ref m_has, .int i_size, .int i_next, .int i_where, .int i_token, .int i_number, .int i_word, .int i_wrong, .int i_farCrossing, .ref m_read, .int i_z0, .int i_crossings, .int i_inns, .ref m_posts, .ref m_shut, .ref m_here, .int i_steps, .int i_done, .int i_at, .int i_gone, .ref m_was, .ref m_came, .ref m_seenAt, .ref m_rowWorth, .ref m_farBy, .ref m_used, .int i_everywhere, .int i_again0, .int i_d0, .int i_never, .int i_firstCame, .int i_longRun, .int i_moved, .int i_crowd, .int i_l0, .int i_fitMany, .int i_fitLeast, .int i_fitMost, .ref m_fitPost, .ref m_fitEnd, .ref m_keptPosts, .int i_x0]))], [(m_all, .inl (T.2 0, 3952, .inl x))], [(m_has, .inl (T.2 2, 3, .inl f_has))]] _ _ := G
        replace hl : lv_has ls 3 [(2, .int (nI i)), (0, .ref mo), (1, .int 1)] := hl
        refine lv_iload_n hx hb dX12_again_22 rfl (lv_at hl 0 rfl) ?_
        refine lv_sipush (v := 988) hx hb dX12_again_23 (by decide) ?_
        refine lv_icmp_ge (tgt := 55) hx hb dX12_again_26 (by decide) (fun c_13 => ?_) (fun c_13 => ?_)
        · have c_13n : 988 ≤ i := (nI_leI (a := 988) (b := i) (by omega) (by omega)).mp c_13
          refine lv_iconst (v := 1) hx hb dX12_again_55 (by decide) ?_
          exact z_zret C hr hlocks G (Nat.le_of_ble_eq_true rfl) (Nat.le_of_ble_eq_true rfl) dX12_again_56 rfl ⟨x, rfl, (Or.inr ⟨rfl, by decide, by assumption, fun j hj => hS j (by omega), fun j hj => hO j (by omega)⟩)⟩
        · have c_13n : ¬ 988 ≤ i := fun q => c_13 ((nI_leI (a := 988) (b := i) (by omega) (by omega)).mpr q)
          refine lv_aload_n hx hb dX12_again_29 rfl (lv_at hl 1 rfl) ?_
          refine z_get C G clX12 0 rfl 0 (by decide) m_fl_RX12_7 rfl dX12_again_30 ?_
          refine lv_iload_n hx hb dX12_again_33 rfl (lv_at hl 0 rfl) ?_
          refine lv_aload_n hx hb dX12_again_34 rfl (lv_at hl 1 rfl) ?_
          refine z_get C G clX12 0 rfl 0 (by decide) m_fl_RX12_7 rfl dX12_again_35 ?_
          refine lv_sipush (v := 988) hx hb dX12_again_38 (by decide) ?_
          refine lv_iload_n hx hb dX12_again_41 rfl (lv_at hl 2 rfl) ?_
          refine lv_iconst (v := 1) hx hb dX12_again_42 (by decide) ?_
          refine lv_iadd hx hb dX12_again_43 ?_
          refine lv_topi (fun y_14 ey_14 => ?_)
          obtain rfl : y_14 = 2 := ey_14.trans (by decide)
          refine lv_imul hx hb dX12_again_44 ?_
          refine lv_topi (fun y_15 ey_15 => ?_)
          obtain rfl : y_15 = 1976 := ey_15.trans (by decide)
          refine lv_iload_n hx hb dX12_again_45 rfl (lv_at hl 0 rfl) ?_
          refine lv_iadd hx hb dX12_again_46 ?_
          refine lv_topi (fun y_16 ey_16 => ?_)
          obtain rfl : y_16 = nI (1976 + i) := ey_16.trans (z_iaddn 1976 i rfl rfl)
          refine z_ild C G 1 rfl (vp_in_nI (by omega) (by omega)) dX12_again_47 ?_
          refine lv_topi (fun v_17 ev_17 => ?_)
          rw [nI_clamp (by omega)] at ev_17
          subst ev_17
          refine z_ist C G 1 rfl (vp_in_nI (by omega) (by omega)) dX12_again_48 (fun H locs G => ?_)
          rw [nI_clamp (by omega)] at G
          have G : zS T A s.heap s [[(mo, .inr (11, [.ref m_all, .ref m_has, .int i_size, .int i_next, .int i_where, .int i_token, .int i_number, .int i_word, .int i_wrong, .int i_farCrossing, .ref m_read, .int i_z0, .int i_crossings, .int i_inns, .ref m_posts, .ref m_shut, .ref m_here, .int i_steps, .int i_done, .int i_at, .int i_gone, .ref m_was, .ref m_came, .ref m_seenAt, .ref m_rowWorth, .ref m_farBy, .ref m_used, .int i_everywhere, .int i_again0, .int i_d0, .int i_never, .int i_firstCame, .int i_longRun, .int i_moved, .int i_crowd, .int i_l0, .int i_fitMany, .int i_fitLeast, .int i_fitMost, .ref m_fitPost, .ref m_fitEnd, .ref m_keptPosts, .int i_x0]))], [(m_all, .inl (T.2 0, 3952, .inl (upd x i (x (1976 + i)))))], [(m_has, .inl (T.2 2, 3, .inl f_has))]] _ _ := G
          refine lv_iinc (v := nI (i + 1)) (lv' := [(2, .int (nI (i + 1))), (0, .ref mo), (1, .int 1)]) hx hb dX12_again_49 hl (k := 0) rfl (z_inc i 1) (by decide) rfl (fun ls hl => ?_)
          refine lv_goto (tgt := 22) hx hb dX12_again_52 (by decide) ?_
          exact ih_22 ((i + 1), (upd x i (x (1976 + i)))) (show (i + 1) ≤ 988 ∧ (∀ j, j < (i + 1) → (upd x i (x (1976 + i))) j = f_all (1976 + j)) ∧ (∀ j, (i + 1) ≤ j → (upd x i (x (1976 + i))) j = f_all j) from ⟨by omega, z_updE (F := fun j => f_all (1976 + j)) hS (hO (1976 + i) (by omega)), fun j hj => (pk_un (by omega)).trans (hO j (by omega))⟩) (show 988 - (i + 1) < 988 - i from by omega) _ _ ls G (lv_sub hl [0, 1, 2] rfl)
      · obtain rfl : k_ = 2 := Int32.toInt_inj.mp hk
        refine lv_iconst (v := 0) hx hb dX12_again_20 (by decide) ?_
        refine lv_istore_n (lv' := [(2, .int 0), (0, .ref mo), (1, .int 2)]) hx hb dX12_again_21 rfl hl (by decide) rfl (fun ls hl => ?_)
        refine z_loop (T := T) (α := Nat × (Nat → Int32)) 22 (fun (i, x) => [[(mo, .inr (11, [.ref m_all, .ref m_has, .int i_size, .int i_next, .int i_where, .int i_token, .int i_number, .int i_word, .int i_wrong, .int i_farCrossing, .ref m_read, .int i_z0, .int i_crossings, .int i_inns, .ref m_posts, .ref m_shut, .ref m_here, .int i_steps, .int i_done, .int i_at, .int i_gone, .ref m_was, .ref m_came, .ref m_seenAt, .ref m_rowWorth, .ref m_farBy, .ref m_used, .int i_everywhere, .int i_again0, .int i_d0, .int i_never, .int i_firstCame, .int i_longRun, .int i_moved, .int i_crowd, .int i_l0, .int i_fitMany, .int i_fitLeast, .int i_fitMost, .ref m_fitPost, .ref m_fitEnd, .ref m_keptPosts, .int i_x0]))], [(m_all, .inl (T.2 0, 3952, .inl x))], [(m_has, .inl (T.2 2, 3, .inl f_has))]]) (fun (i, x) => [(2, .int (nI i)), (0, .ref mo), (1, .int 2)]) (fun (i, x) => i ≤ 988 ∧ (∀ j, j < i → x j = f_all (2964 + j)) ∧ (∀ j, i ≤ j → x j = f_all j)) (fun (i, x) => 988 - i) ?_ (0, f_all) (show 0 ≤ 988 ∧ (∀ j, j < 0 → f_all j = f_all (2964 + j)) ∧ (∀ j, 0 ≤ j → f_all j = f_all j) from ⟨by omega, fun j hj => absurd hj (by omega), fun j _ => rfl⟩) G (lv_sub hl [0, 1, 2] rfl)
        rintro ⟨i, x⟩ ⟨hi, hS, hO⟩ ih_22 H locs ls G hl
        replace hi : i ≤ 988 := hi
        replace hS : (∀ j, j < i → x j = f_all (2964 + j)) := hS
        replace hO : (∀ j, i ≤ j → x j = f_all j) := hO
        replace G : zS T A s.heap s [[(mo, .inr (11, [.ref m_all, .ref m_has, .int i_size, .int i_next, .int i_where, .int i_token, .int i_number, .int i_word, .int i_wrong, .int i_farCrossing, .ref m_read, .int i_z0, .int i_crossings, .int i_inns, .ref m_posts, .ref m_shut, .ref m_here, .int i_steps, .int i_done, .int i_at, .int i_gone, .ref m_was, .ref m_came, .ref m_seenAt, .ref m_rowWorth, .ref m_farBy, .ref m_used, .int i_everywhere, .int i_again0, .int i_d0, .int i_never, .int i_firstCame, .int i_longRun, .int i_moved, .int i_crowd, .int i_l0, .int i_fitMany, .int i_fitLeast, .int i_fitMost, .ref m_fitPost, .ref m_fitEnd, .ref m_keptPosts, .int i_x0]))], [(m_all, .inl (T.2 0, 3952, .inl x))], [(m_has, .inl (T.2 2, 3, .inl f_has))]] _ _ := G
        replace hl : lv_has ls 3 [(2, .int (nI i)), (0, .ref mo), (1, .int 2)] := hl
        refine lv_iload_n hx hb dX12_again_22 rfl (lv_at hl 0 rfl) ?_
        refine lv_sipush (v := 988) hx hb dX12_again_23 (by decide) ?_
        refine lv_icmp_ge (tgt := 55) hx hb dX12_again_26 (by decide) (fun c_18 => ?_) (fun c_18 => ?_)
        · have c_18n : 988 ≤ i := (nI_leI (a := 988) (b := i) (by omega) (by omega)).mp c_18
          refine lv_iconst (v := 1) hx hb dX12_again_55 (by decide) ?_
          exact z_zret C hr hlocks G (Nat.le_of_ble_eq_true rfl) (Nat.le_of_ble_eq_true rfl) dX12_again_56 rfl ⟨x, rfl, (Or.inr ⟨rfl, by decide, by assumption, fun j hj => hS j (by omega), fun j hj => hO j (by omega)⟩)⟩
        · have c_18n : ¬ 988 ≤ i := fun q => c_18 ((nI_leI (a := 988) (b := i) (by omega) (by omega)).mpr q)
          refine lv_aload_n hx hb dX12_again_29 rfl (lv_at hl 1 rfl) ?_
          refine z_get C G clX12 0 rfl 0 (by decide) m_fl_RX12_7 rfl dX12_again_30 ?_
          refine lv_iload_n hx hb dX12_again_33 rfl (lv_at hl 0 rfl) ?_
          refine lv_aload_n hx hb dX12_again_34 rfl (lv_at hl 1 rfl) ?_
          refine z_get C G clX12 0 rfl 0 (by decide) m_fl_RX12_7 rfl dX12_again_35 ?_
          refine lv_sipush (v := 988) hx hb dX12_again_38 (by decide) ?_
          refine lv_iload_n hx hb dX12_again_41 rfl (lv_at hl 2 rfl) ?_
          refine lv_iconst (v := 1) hx hb dX12_again_42 (by decide) ?_
          refine lv_iadd hx hb dX12_again_43 ?_
          refine lv_topi (fun y_19 ey_19 => ?_)
          obtain rfl : y_19 = 3 := ey_19.trans (by decide)
          refine lv_imul hx hb dX12_again_44 ?_
          refine lv_topi (fun y_20 ey_20 => ?_)
          obtain rfl : y_20 = 2964 := ey_20.trans (by decide)
          refine lv_iload_n hx hb dX12_again_45 rfl (lv_at hl 0 rfl) ?_
          refine lv_iadd hx hb dX12_again_46 ?_
          refine lv_topi (fun y_21 ey_21 => ?_)
          obtain rfl : y_21 = nI (2964 + i) := ey_21.trans (z_iaddn 2964 i rfl rfl)
          refine z_ild C G 1 rfl (vp_in_nI (by omega) (by omega)) dX12_again_47 ?_
          refine lv_topi (fun v_22 ev_22 => ?_)
          rw [nI_clamp (by omega)] at ev_22
          subst ev_22
          refine z_ist C G 1 rfl (vp_in_nI (by omega) (by omega)) dX12_again_48 (fun H locs G => ?_)
          rw [nI_clamp (by omega)] at G
          have G : zS T A s.heap s [[(mo, .inr (11, [.ref m_all, .ref m_has, .int i_size, .int i_next, .int i_where, .int i_token, .int i_number, .int i_word, .int i_wrong, .int i_farCrossing, .ref m_read, .int i_z0, .int i_crossings, .int i_inns, .ref m_posts, .ref m_shut, .ref m_here, .int i_steps, .int i_done, .int i_at, .int i_gone, .ref m_was, .ref m_came, .ref m_seenAt, .ref m_rowWorth, .ref m_farBy, .ref m_used, .int i_everywhere, .int i_again0, .int i_d0, .int i_never, .int i_firstCame, .int i_longRun, .int i_moved, .int i_crowd, .int i_l0, .int i_fitMany, .int i_fitLeast, .int i_fitMost, .ref m_fitPost, .ref m_fitEnd, .ref m_keptPosts, .int i_x0]))], [(m_all, .inl (T.2 0, 3952, .inl (upd x i (x (2964 + i)))))], [(m_has, .inl (T.2 2, 3, .inl f_has))]] _ _ := G
          refine lv_iinc (v := nI (i + 1)) (lv' := [(2, .int (nI (i + 1))), (0, .ref mo), (1, .int 2)]) hx hb dX12_again_49 hl (k := 0) rfl (z_inc i 1) (by decide) rfl (fun ls hl => ?_)
          refine lv_goto (tgt := 22) hx hb dX12_again_52 (by decide) ?_
          exact ih_22 ((i + 1), (upd x i (x (2964 + i)))) (show (i + 1) ≤ 988 ∧ (∀ j, j < (i + 1) → (upd x i (x (2964 + i))) j = f_all (2964 + j)) ∧ (∀ j, (i + 1) ≤ j → (upd x i (x (2964 + i))) j = f_all j) from ⟨by omega, z_updE (F := fun j => f_all (2964 + j)) hS (hO (2964 + i) (by omega)), fun j hj => (pk_un (by omega)).trans (hO j (by omega))⟩) (show 988 - (i + 1) < 988 - i from by omega) _ _ ls G (lv_sub hl [0, 1, 2] rfl)
    · have c_7n : (f_has k_.toNatClampNeg).toInt = (0 : Int) := (fa_eq _ _).mp c_7
      refine lv_iconst (v := 0) hx hb dX12_again_18 (by decide) ?_
      exact z_zret C hr hlocks G (Nat.le_of_ble_eq_true rfl) (Nat.le_of_ble_eq_true rfl) dX12_again_19 rfl ⟨f_all, rfl, (Or.inl ⟨rfl, by first | exact Or.inr (Or.inr (by assumption)) | omega, rfl⟩)⟩
  · have h_5 : (k_.toInt < (0 : Int) ∨ (2 : Int) < k_.toInt) := h_5
    refine lv_if_eq (tgt := 18) hx hb dX12_again_6 (by decide) (fun _ => ?_) (fun q => absurd (by decide) q)
    refine lv_iconst (v := 0) hx hb dX12_again_18 (by decide) ?_
    exact z_zret C hr hlocks G (Nat.le_of_ble_eq_true rfl) (Nat.le_of_ble_eq_true rfl) dX12_again_19 rfl ⟨f_all, rfl, (Or.inl ⟨rfl, by first | exact Or.inr (Or.inr (by assumption)) | omega, rfl⟩)⟩


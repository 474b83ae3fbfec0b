set_option maxHeartbeats 4000000 in
set_option maxRecDepth 100000 in
/-- c_m_isIn -/
theorem c_m_isIn (l : Launch) (T : zTy) (x : Int32) (y : Int32) (z : Int32) : zMi l T yX12_isIn cX12_isIn 3 (some .boolean) 1 0 0 [.int x, .int y, .int z] [] (fun (r : Int32) bs => bs = [] ∧ ((r = 1 ∧ y.toInt ≤ x.toInt ∧ x.toInt ≤ z.toInt) ∨ (r = 0 ∧ (x.toInt < y.toInt ∨ z.toInt < x.toInt)))) := by
  refine zMi_of (own := RX12) (by decide) rfl (Nat.le_of_ble_eq_true rfl) ?_
  intro p e s m args below meth c A ls C hr hlocks hnm hAe G hl
  have hx := C.1
  have hb := C.2.1
  have hl : lv_has ls 3 [(0, .int x), (1, .int y), (2, .int z)] := hl
  refine lv_iload_n hx hb dX12_isIn_0 rfl (lv_at hl 0 rfl) ?_
  refine lv_iload_n hx hb dX12_isIn_1 rfl (lv_at hl 1 rfl) ?_
  refine lv_icmp_lt (tgt := 14) hx hb dX12_isIn_2 (by decide) (fun c_1 => ?_) (fun c_1 => ?_)
  · have c_1n : x.toInt < y.toInt := (fa_lt _ _).mp c_1
    refine lv_iconst (v := 0) hx hb dX12_isIn_14 (by decide) ?_
    exact z_zret C hr hlocks G (Nat.le_of_ble_eq_true rfl) (Nat.le_of_ble_eq_true rfl) dX12_isIn_15 rfl ⟨rfl, (Or.inr (⟨rfl, (by first | assumption | omega)⟩))⟩
  · have c_1n : ¬ x.toInt < y.toInt := fun q => c_1 ((fa_lt _ _).mpr q)
    refine lv_iload_n hx hb dX12_isIn_5 rfl (lv_at hl 0 rfl) ?_
    refine lv_iload_n hx hb dX12_isIn_6 rfl (lv_at hl 2 rfl) ?_
    refine lv_icmp_gt (tgt := 14) hx hb dX12_isIn_7 (by decide) (fun c_2 => ?_) (fun c_2 => ?_)
    · have c_2n : z.toInt < x.toInt := (fa_lt _ _).mp c_2
      refine lv_iconst (v := 0) hx hb dX12_isIn_14 (by decide) ?_
      exact z_zret C hr hlocks G (Nat.le_of_ble_eq_true rfl) (Nat.le_of_ble_eq_true rfl) dX12_isIn_15 rfl ⟨rfl, (Or.inr (⟨rfl, (by first | assumption | omega)⟩))⟩
    · have c_2n : ¬ z.toInt < x.toInt := fun q => c_2 ((fa_lt _ _).mpr q)
      refine lv_iconst (v := 1) hx hb dX12_isIn_10 (by decide) ?_
      refine lv_goto (tgt := 15) hx hb dX12_isIn_11 (by decide) ?_
      exact z_zret C hr hlocks G (Nat.le_of_ble_eq_true rfl) (Nat.le_of_ble_eq_true rfl) dX12_isIn_15 rfl ⟨rfl, (Or.inl (⟨rfl, (by first | assumption | omega), (by first | assumption | omega)⟩))⟩
theorem z_upS {x f : Nat → Int32} {b i : Nat} {v : Int32} (h : ∀ j, j < i → x (b + j) = f j) (hv : v = f i) : ∀ j, j < i + 1 → upd x (b + i) v (b + j) = f j := by
  intro j hj
  unfold upd
  split
  · rename_i e
    rw [show j = i by omega]
    exact hv
  · exact h j (by omega)
theorem z_upO {x f : Nat → Int32} {p : Nat → Prop} {i : Nat} {v : Int32} (h : ∀ j, p j → x j = f j) (hi : ¬ p i) : ∀ j, p j → upd x i v j = f j := by
  intro j hj
  unfold upd
  split
  · rename_i e
    exact absurd (e ▸ hj) hi
  · exact h j hj
set_option maxHeartbeats 4000000 in
set_option maxRecDepth 100000 in
/-- c_m_image -/
theorem c_m_image (l : Launch) (T : zTy) (mo : Nat) (m_all : Nat) (m_has : Nat) (i_size : Int32) (i_next : Int32) (i_where : Int32) (i_token : Int32) (i_number : Int32) (i_word : Int32) (i_wrong : Int32) (i_farCrossing : Int32) (m_read : Nat) (i_z0 : Int32) (i_crossings : Int32) (i_inns : Int32) (m_posts : Nat) (m_shut : Nat) (m_here : Nat) (i_steps : Int32) (i_done : Int32) (i_at : Int32) (i_gone : Int32) (m_was : Nat) (m_came : Nat) (m_seenAt : Nat) (m_rowWorth : Nat) (m_farBy : Nat) (m_used : Nat) (i_everywhere : Int32) (i_again0 : Int32) (i_d0 : Int32) (i_never : Int32) (i_firstCame : Int32) (i_longRun : Int32) (i_moved : Int32) (i_crowd : Int32) (i_l0 : Int32) (i_fitMany : Int32) (i_fitLeast : Int32) (i_fitMost : Int32) (m_fitPost : Nat) (m_fitEnd : Nat) (m_keptPosts : Nat) (i_x0 : Int32) (f_all : Nat → Int32) (f_has : Nat → Int32) (k_ : Int32) : zMi l T yX12_image cX12_image 3 (some .boolean) 2 0 0 [.ref mo, .int k_] [[(mo, .inr (11, [.ref m_all, .ref m_has, .int i_size, .int i_next, .int i_where, .int i_token, .int i_number, .int i_word, .int i_wrong, .int i_farCrossing, .ref m_read, .int i_z0, .int i_crossings, .int i_inns, .ref m_posts, .ref m_shut, .ref m_here, .int i_steps, .int i_done, .int i_at, .int i_gone, .ref m_was, .ref m_came, .ref m_seenAt, .ref m_rowWorth, .ref m_farBy, .ref m_used, .int i_everywhere, .int i_again0, .int i_d0, .int i_never, .int i_firstCame, .int i_longRun, .int i_moved, .int i_crowd, .int i_l0, .int i_fitMany, .int i_fitLeast, .int i_fitMost, .ref m_fitPost, .ref m_fitEnd, .ref m_keptPosts, .int i_x0]))], [(m_all, .inl (T.2 0, 3952, .inl f_all))], [(m_has, .inl (T.2 2, 3, .inl f_has))]] (fun (r : Int32) bs => ∃ (g_all : Nat → Int32) (g_has : Nat → Int32), bs = [[(mo, .inr (11, [.ref m_all, .ref m_has, .int i_size, .int i_next, .int i_where, .int i_token, .int i_number, .int i_word, .int i_wrong, .int i_farCrossing, .ref m_read, .int i_z0, .int i_crossings, .int i_inns, .ref m_posts, .ref m_shut, .ref m_here, .int i_steps, .int i_done, .int i_at, .int i_gone, .ref m_was, .ref m_came, .ref m_seenAt, .ref m_rowWorth, .ref m_farBy, .ref m_used, .int i_everywhere, .int i_again0, .int i_d0, .int i_never, .int i_firstCame, .int i_longRun, .int i_moved, .int i_crowd, .int i_l0, .int i_fitMany, .int i_fitLeast, .int i_fitMost, .ref m_fitPost, .ref m_fitEnd, .ref m_keptPosts, .int i_x0]))], [(m_all, .inl (T.2 0, 3952, .inl g_all))], [(m_has, .inl (T.2 2, 3, .inl g_has))]] ∧ (r = 0 ∧ (k_.toInt < 0 ∨ 3 ≤ k_.toInt) ∧ g_all = f_all ∧ g_has = f_has ∨ r = 1 ∧ (0 ≤ k_.toInt ∧ k_.toInt < 3) ∧ (∀ j, j < 988 → g_all (988 * (k_.toNatClampNeg + 1) + j) = f_all j) ∧ (∀ j, (j < 988 * (k_.toNatClampNeg + 1) ∨ 988 * (k_.toNatClampNeg + 1) + 988 ≤ j) → g_all j = f_all j) ∧ g_has = upd f_has k_.toNatClampNeg 1)) := by
  refine zMi_of (own := RX12) (by decide) rfl (Nat.le_of_ble_eq_true rfl) ?_
  intro p e s m args below meth c A ls C hr hlocks hnm hAe G hl
  have hx := C.1
  have hb := C.2.1
  have hl : lv_has ls 3 [(0, .ref mo), (1, .int k_)] := hl
  refine lv_iload_n hx hb dX12_image_0 rfl (lv_at hl 1 rfl) ?_
  refine lv_iconst (v := 0) hx hb dX12_image_1 (by decide) ?_
  refine lv_iconst (v := 2) hx hb dX12_image_2 (by decide) ?_
  refine z_Si (bc := []) (br := [[(mo, .inr (11, [.ref m_all, .ref m_has, .int i_size, .int i_next, .int i_where, .int i_token, .int i_number, .int i_word, .int i_wrong, .int i_farCrossing, .ref m_read, .int i_z0, .int i_crossings, .int i_inns, .ref m_posts, .ref m_shut, .ref m_here, .int i_steps, .int i_done, .int i_at, .int i_gone, .ref m_was, .ref m_came, .ref m_seenAt, .ref m_rowWorth, .ref m_farBy, .ref m_used, .int i_everywhere, .int i_again0, .int i_d0, .int i_never, .int i_firstCame, .int i_longRun, .int i_moved, .int i_crowd, .int i_l0, .int i_fitMany, .int i_fitLeast, .int i_fitMost, .ref m_fitPost, .ref m_fitEnd, .ref m_keptPosts, .int i_x0]))], [(m_all, .inl (T.2 0, 3952, .inl f_all))], [(m_has, .inl (T.2 2, 3, .inl f_has))]]) (As := [.int k_, .int 0, .int 2]) (rest := []) C G (c_m_isIn l T k_ 0 2) (kS_RX12_111 C.2.2.2.2 (Nat.le_of_ble_eq_true rfl) (Nat.le_of_ble_eq_true rfl)) [] [0, 1, 2] rfl rfl rfl rfl hl.1 dX12_image_3 (Nat.le_of_ble_eq_true rfl) (Nat.le_of_ble_eq_true rfl) (fun r_2 b1 H locs hw G => ?_)
  obtain ⟨rfl, hc_1⟩ := hw
  have G : zS T A s.heap s [[(mo, .inr (11, [.ref m_all, .ref m_has, .int i_size, .int i_next, .int i_where, .int i_token, .int i_number, .int i_word, .int i_wrong, .int i_farCrossing, .ref m_read, .int i_z0, .int i_crossings, .int i_inns, .ref m_posts, .ref m_shut, .ref m_here, .int i_steps, .int i_done, .int i_at, .int i_gone, .ref m_was, .ref m_came, .ref m_seenAt, .ref m_rowWorth, .ref m_farBy, .ref m_used, .int i_everywhere, .int i_again0, .int i_d0, .int i_never, .int i_firstCame, .int i_longRun, .int i_moved, .int i_crowd, .int i_l0, .int i_fitMany, .int i_fitLeast, .int i_fitMost, .ref m_fitPost, .ref m_fitEnd, .ref m_keptPosts, .int i_x0]))], [(m_all, .inl (T.2 0, 3952, .inl f_all))], [(m_has, .inl (T.2 2, 3, .inl f_has))]] _ _ := G
  rcases hc_1 with ⟨rfl, h_3, h_4⟩ | ⟨rfl, h_5⟩
  · have h_3 : (0 : Int) ≤ k_.toInt := h_3
    have h_4 : k_.toInt ≤ (2 : Int) := h_4
    refine lv_if_ne (tgt := 11) hx hb dX12_image_6 (by decide) (fun _ => ?_) (fun q => absurd q (by decide))
    rcases (show k_.toInt = 0 ∨ k_.toInt = 1 ∨ k_.toInt = 2 from by omega) with hk | hk | hk
    · obtain rfl : k_ = 0 := Int32.toInt_inj.mp hk
      refine lv_aload_n hx hb dX12_image_11 rfl (lv_at hl 0 rfl) ?_
      refine z_get C G clX12 0 rfl 1 (by decide) m_fl_RX12_13 rfl dX12_image_12 ?_
      refine lv_iload_n hx hb dX12_image_15 rfl (lv_at hl 1 rfl) ?_
      refine lv_iconst (v := 1) hx hb dX12_image_16 (by decide) ?_
      refine z_zst C G 2 rfl (vp_in_nI (n := 0) (by decide) (by decide)) dX12_image_17 (fun H locs G => ?_)
      have G : zS T A s.heap s [[(mo, .inr (11, [.ref m_all, .ref m_has, .int i_size, .int i_next, .int i_where, .int i_token, .int i_number, .int i_word, .int i_wrong, .int i_farCrossing, .ref m_read, .int i_z0, .int i_crossings, .int i_inns, .ref m_posts, .ref m_shut, .ref m_here, .int i_steps, .int i_done, .int i_at, .int i_gone, .ref m_was, .ref m_came, .ref m_seenAt, .ref m_rowWorth, .ref m_farBy, .ref m_used, .int i_everywhere, .int i_again0, .int i_d0, .int i_never, .int i_firstCame, .int i_longRun, .int i_moved, .int i_crowd, .int i_l0, .int i_fitMany, .int i_fitLeast, .int i_fitMost, .ref m_fitPost, .ref m_fitEnd, .ref m_keptPosts, .int i_x0]))], [(m_all, .inl (T.2 0, 3952, .inl f_all))], [(m_has, .inl (T.2 2, 3, .inl (upd f_has 0 (vp_nar .boolean 1))))]] _ _ := G
      refine lv_iconst (v := 0) hx hb dX12_image_18 (by decide) ?_
      refine lv_istore_n (lv' := [(2, .int 0), (0, .ref mo), (1, .int 0)]) hx hb dX12_image_19 rfl hl (by decide) rfl (fun ls hl => ?_)
      refine z_loop (T := T) (α := Nat × (Nat → Int32)) 20 (fun (i, x) => [[(mo, .inr (11, [.ref m_all, .ref m_has, .int i_size, .int i_next, .int i_where, .int i_token, .int i_number, .int i_word, .int i_wrong, .int i_farCrossing, .ref m_read, .int i_z0, .int i_crossings, .int i_inns, .ref m_posts, .ref m_shut, .ref m_here, .int i_steps, .int i_done, .int i_at, .int i_gone, .ref m_was, .ref m_came, .ref m_seenAt, .ref m_rowWorth, .ref m_farBy, .ref m_used, .int i_everywhere, .int i_again0, .int i_d0, .int i_never, .int i_firstCame, .int i_longRun, .int i_moved, .int i_crowd, .int i_l0, .int i_fitMany, .int i_fitLeast, .int i_fitMost, .ref m_fitPost, .ref m_fitEnd, .ref m_keptPosts, .int i_x0]))], [(m_all, .inl (T.2 0, 3952, .inl x))], [(m_has, .inl (T.2 2, 3, .inl (upd f_has 0 (vp_nar .boolean 1))))]]) (fun (i, x) => [(2, .int (nI i)), (0, .ref mo), (1, .int 0)]) (fun (i, x) => i ≤ 988 ∧ (∀ j, j < i → x (988 + j) = f_all j) ∧ (∀ j, (j < 988 ∨ 1976 ≤ j) → x j = f_all j)) (fun (i, x) => 988 - i) ?_ (0, f_all) (show 0 ≤ 988 ∧ (∀ j, j < 0 → f_all (988 + j) = f_all j) ∧ (∀ j, (j < 988 ∨ 1976 ≤ j) → f_all j = f_all j) from ⟨by omega, fun j hj => absurd hj (by omega), fun j _ => rfl⟩) G (lv_sub hl [0, 1, 2] rfl)
      rintro ⟨i, x⟩ ⟨hi, hS, hO⟩ ih_20 H locs ls G hl
      replace hi : i ≤ 988 := hi
      replace hS : (∀ j, j < i → x (988 + j) = f_all j) := hS
      replace hO : (∀ j, (j < 988 ∨ 1976 ≤ j) → x j = f_all j) := hO
      replace G : zS T A s.heap s [[(mo, .inr (11, [.ref m_all, .ref m_has, .int i_size, .int i_next, .int i_where, .int i_token, .int i_number, .int i_word, .int i_wrong, .int i_farCrossing, .ref m_read, .int i_z0, .int i_crossings, .int i_inns, .ref m_posts, .ref m_shut, .ref m_here, .int i_steps, .int i_done, .int i_at, .int i_gone, .ref m_was, .ref m_came, .ref m_seenAt, .ref m_rowWorth, .ref m_farBy, .ref m_used, .int i_everywhere, .int i_again0, .int i_d0, .int i_never, .int i_firstCame, .int i_longRun, .int i_moved, .int i_crowd, .int i_l0, .int i_fitMany, .int i_fitLeast, .int i_fitMost, .ref m_fitPost, .ref m_fitEnd, .ref m_keptPosts, .int i_x0]))], [(m_all, .inl (T.2 0, 3952, .inl x))], [(m_has, .inl (T.2 2, 3, .inl (upd f_has 0 (vp_nar .boolean 1))))]] _ _ := G
      replace hl : lv_has ls 3 [(2, .int (nI i)), (0, .ref mo), (1, .int 0)] := hl
      refine lv_iload_n hx hb dX12_image_20 rfl (lv_at hl 0 rfl) ?_
      refine lv_sipush (v := 988) hx hb dX12_image_21 (by decide) ?_
      refine lv_icmp_ge (tgt := 53) hx hb dX12_image_24 (by decide) (fun c_6 => ?_) (fun c_6 => ?_)
      · have c_6n : 988 ≤ i := (nI_leI (a := 988) (b := i) (by omega) (by omega)).mp c_6
        refine lv_iconst (v := 1) hx hb dX12_image_53 (by decide) ?_
        exact z_zret C hr hlocks G (Nat.le_of_ble_eq_true rfl) (Nat.le_of_ble_eq_true rfl) dX12_image_54 rfl ⟨x, (upd f_has 0 (vp_nar .boolean 1)), rfl, (Or.inr ⟨rfl, by decide, fun j hj => hS j (by omega), hO, rfl⟩)⟩
      · have c_6n : ¬ 988 ≤ i := fun q => c_6 ((nI_leI (a := 988) (b := i) (by omega) (by omega)).mpr q)
        refine lv_aload_n hx hb dX12_image_27 rfl (lv_at hl 1 rfl) ?_
        refine z_get C G clX12 0 rfl 0 (by decide) m_fl_RX12_7 rfl dX12_image_28 ?_
        refine lv_sipush (v := 988) hx hb dX12_image_31 (by decide) ?_
        refine lv_iload_n hx hb dX12_image_34 rfl (lv_at hl 2 rfl) ?_
        refine lv_iconst (v := 1) hx hb dX12_image_35 (by decide) ?_
        refine lv_iadd hx hb dX12_image_36 ?_
        refine lv_topi (fun y_7 ey_7 => ?_)
        obtain rfl : y_7 = 1 := ey_7.trans (by decide)
        refine lv_imul hx hb dX12_image_37 ?_
        refine lv_topi (fun y_8 ey_8 => ?_)
        obtain rfl : y_8 = 988 := ey_8.trans (by decide)
        refine lv_iload_n hx hb dX12_image_38 rfl (lv_at hl 0 rfl) ?_
        refine lv_iadd hx hb dX12_image_39 ?_
        refine lv_topi (fun y_9 ey_9 => ?_)
        obtain rfl : y_9 = nI (988 + i) := ey_9.trans (z_iaddn 988 i rfl rfl)
        refine lv_aload_n hx hb dX12_image_40 rfl (lv_at hl 1 rfl) ?_
        refine z_get C G clX12 0 rfl 0 (by decide) m_fl_RX12_7 rfl dX12_image_41 ?_
        refine lv_iload_n hx hb dX12_image_44 rfl (lv_at hl 0 rfl) ?_
        refine z_ild C G 1 rfl (vp_in_nI (by omega) (by omega)) dX12_image_45 ?_
        refine lv_topi (fun v_10 ev_10 => ?_)
        rw [nI_clamp (by omega)] at ev_10
        subst ev_10
        refine z_ist C G 1 rfl (vp_in_nI (by omega) (by omega)) dX12_image_46 (fun H locs G => ?_)
        rw [nI_clamp (by omega)] at G
        have G : zS T A s.heap s [[(mo, .inr (11, [.ref m_all, .ref m_has, .int i_size, .int i_next, .int i_where, .int i_token, .int i_number, .int i_word, .int i_wrong, .int i_farCrossing, .ref m_read, .int i_z0, .int i_crossings, .int i_inns, .ref m_posts, .ref m_shut, .ref m_here, .int i_steps, .int i_done, .int i_at, .int i_gone, .ref m_was, .ref m_came, .ref m_seenAt, .ref m_rowWorth, .ref m_farBy, .ref m_used, .int i_everywhere, .int i_again0, .int i_d0, .int i_never, .int i_firstCame, .int i_longRun, .int i_moved, .int i_crowd, .int i_l0, .int i_fitMany, .int i_fitLeast, .int i_fitMost, .ref m_fitPost, .ref m_fitEnd, .ref m_keptPosts, .int i_x0]))], [(m_all, .inl (T.2 0, 3952, .inl (upd x (988 + i) (x i))))], [(m_has, .inl (T.2 2, 3, .inl (upd f_has 0 (vp_nar .boolean 1))))]] _ _ := G
        refine lv_iinc (v := nI (i + 1)) (lv' := [(2, .int (nI (i + 1))), (0, .ref mo), (1, .int 0)]) hx hb dX12_image_47 hl (k := 0) rfl (z_inc i 1) (by decide) rfl (fun ls hl => ?_)
        refine lv_goto (tgt := 20) hx hb dX12_image_50 (by decide) ?_
        exact ih_20 ((i + 1), (upd x (988 + i) (x i))) (show (i + 1) ≤ 988 ∧ (∀ j, j < (i + 1) → (upd x (988 + i) (x i)) (988 + j) = f_all j) ∧ (∀ j, (j < 988 ∨ 1976 ≤ j) → (upd x (988 + i) (x i)) j = f_all j) from ⟨by omega, z_upS hS (hO i (by omega)), z_upO hO (by omega)⟩) (show 988 - (i + 1) < 988 - i from by omega) _ _ ls G (lv_sub hl [0, 1, 2] rfl)
    · obtain rfl : k_ = 1 := Int32.toInt_inj.mp hk
      refine lv_aload_n hx hb dX12_image_11 rfl (lv_at hl 0 rfl) ?_
      refine z_get C G clX12 0 rfl 1 (by decide) m_fl_RX12_13 rfl dX12_image_12 ?_
      refine lv_iload_n hx hb dX12_image_15 rfl (lv_at hl 1 rfl) ?_
      refine lv_iconst (v := 1) hx hb dX12_image_16 (by decide) ?_
      refine z_zst C G 2 rfl (vp_in_nI (n := 1) (by decide) (by decide)) dX12_image_17 (fun H locs G => ?_)
      have G : zS T A s.heap s [[(mo, .inr (11, [.ref m_all, .ref m_has, .int i_size, .int i_next, .int i_where, .int i_token, .int i_number, .int i_word, .int i_wrong, .int i_farCrossing, .ref m_read, .int i_z0, .int i_crossings, .int i_inns, .ref m_posts, .ref m_shut, .ref m_here, .int i_steps, .int i_done, .int i_at, .int i_gone, .ref m_was, .ref m_came, .ref m_seenAt, .ref m_rowWorth, .ref m_farBy, .ref m_used, .int i_everywhere, .int i_again0, .int i_d0, .int i_never, .int i_firstCame, .int i_longRun, .int i_moved, .int i_crowd, .int i_l0, .int i_fitMany, .int i_fitLeast, .int i_fitMost, .ref m_fitPost, .ref m_fitEnd, .ref m_keptPosts, .int i_x0]))], [(m_all, .inl (T.2 0, 3952, .inl f_all))], [(m_has, .inl (T.2 2, 3, .inl (upd f_has 1 (vp_nar .boolean 1))))]] _ _ := G
      refine lv_iconst (v := 0) hx hb dX12_image_18 (by decide) ?_
      refine lv_istore_n (lv' := [(2, .int 0), (0, .ref mo), (1, .int 1)]) hx hb dX12_image_19 rfl hl (by decide) rfl (fun ls hl => ?_)
      refine z_loop (T := T) (α := Nat × (Nat → Int32)) 20 (fun (i, x) => [[(mo, .inr (11, [.ref m_all, .ref m_has, .int i_size, .int i_next, .int i_where, .int i_token, .int i_number, .int i_word, .int i_wrong, .int i_farCrossing, .ref m_read, .int i_z0, .int i_crossings, .int i_inns, .ref m_posts, .ref m_shut, .ref m_here, .int i_steps, .int i_done, .int i_at, .int i_gone, .ref m_was, .ref m_came, .ref m_seenAt, .ref m_rowWorth, .ref m_farBy, .ref m_used, .int i_everywhere, .int i_again0, .int i_d0, .int i_never, .int i_firstCame, .int i_longRun, .int i_moved, .int i_crowd, .int i_l0, .int i_fitMany, .int i_fitLeast, .int i_fitMost, .ref m_fitPost, .ref m_fitEnd, .ref m_keptPosts, .int i_x0]))], [(m_all, .inl (T.2 0, 3952, .inl x))], [(m_has, .inl (T.2 2, 3, .inl (upd f_has 1 (vp_nar .boolean 1))))]]) (fun (i, x) => [(2, .int (nI i)), (0, .ref mo), (1, .int 1)]) (fun (i, x) => i ≤ 988 ∧ (∀ j, j < i → x (1976 + j) = f_all j) ∧ (∀ j, (j < 1976 ∨ 2964 ≤ j) → x j = f_all j)) (fun (i, x) => 988 - i) ?_ (0, f_all) (show 0 ≤ 988 ∧ (∀ j, j < 0 → f_all (1976 + j) = f_all j) ∧ (∀ j, (j < 1976 ∨ 2964 ≤ j) → f_all j = f_all j) from ⟨by omega, fun j hj => absurd hj (by omega), fun j _ => rfl⟩) G (lv_sub hl [0, 1, 2] rfl)
      rintro ⟨i, x⟩ ⟨hi, hS, hO⟩ ih_20 H locs ls G hl
      replace hi : i ≤ 988 := hi
      replace hS : (∀ j, j < i → x (1976 + j) = f_all j) := hS
      replace hO : (∀ j, (j < 1976 ∨ 2964 ≤ j) → x j = f_all j) := hO
      replace G : zS T A s.heap s [[(mo, .inr (11, [.ref m_all, .ref m_has, .int i_size, .int i_next, .int i_where, .int i_token, .int i_number, .int i_word, .int i_wrong, .int i_farCrossing, .ref m_read, .int i_z0, .int i_crossings, .int i_inns, .ref m_posts, .ref m_shut, .ref m_here, .int i_steps, .int i_done, .int i_at, .int i_gone, .ref m_was, .ref m_came, .ref m_seenAt, .ref m_rowWorth, .ref m_farBy, .ref m_used, .int i_everywhere, .int i_again0, .int i_d0, .int i_never, .int i_firstCame, .int i_longRun, .int i_moved, .int i_crowd, .int i_l0, .int i_fitMany, .int i_fitLeast, .int i_fitMost, .ref m_fitPost, .ref m_fitEnd, .ref m_keptPosts, .int i_x0]))], [(m_all, .inl (T.2 0, 3952, .inl x))], [(m_has, .inl (T.2 2, 3, .inl (upd f_has 1 (vp_nar .boolean 1))))]] _ _ := G
      replace hl : lv_has ls 3 [(2, .int (nI i)), (0, .ref mo), (1, .int 1)] := hl
      refine lv_iload_n hx hb dX12_image_20 rfl (lv_at hl 0 rfl) ?_
      refine lv_sipush (v := 988) hx hb dX12_image_21 (by decide) ?_
      refine lv_icmp_ge (tgt := 53) hx hb dX12_image_24 (by decide) (fun c_11 => ?_) (fun c_11 => ?_)
      · have c_11n : 988 ≤ i := (nI_leI (a := 988) (b := i) (by omega) (by omega)).mp c_11
        refine lv_iconst (v := 1) hx hb dX12_image_53 (by decide) ?_
        exact z_zret C hr hlocks G (Nat.le_of_ble_eq_true rfl) (Nat.le_of_ble_eq_true rfl) dX12_image_54 rfl ⟨x, (upd f_has 1 (vp_nar .boolean 1)), rfl, (Or.inr ⟨rfl, by decide, fun j hj => hS j (by omega), hO, rfl⟩)⟩
      · have c_11n : ¬ 988 ≤ i := fun q => c_11 ((nI_leI (a := 988) (b := i) (by omega) (by omega)).mpr q)
        refine lv_aload_n hx hb dX12_image_27 rfl (lv_at hl 1 rfl) ?_
        refine z_get C G clX12 0 rfl 0 (by decide) m_fl_RX12_7 rfl dX12_image_28 ?_
        refine lv_sipush (v := 988) hx hb dX12_image_31 (by decide) ?_
        refine lv_iload_n hx hb dX12_image_34 rfl (lv_at hl 2 rfl) ?_
        refine lv_iconst (v := 1) hx hb dX12_image_35 (by decide) ?_
        refine lv_iadd hx hb dX12_image_36 ?_
        refine lv_topi (fun y_12 ey_12 => ?_)
        obtain rfl : y_12 = 2 := ey_12.trans (by decide)
        refine lv_imul hx hb dX12_image_37 ?_
        refine lv_topi (fun y_13 ey_13 => ?_)
        obtain rfl : y_13 = 1976 := ey_13.trans (by decide)
        refine lv_iload_n hx hb dX12_image_38 rfl (lv_at hl 0 rfl) ?_
        refine lv_iadd hx hb dX12_image_39 ?_
        refine lv_topi (fun y_14 ey_14 => ?_)
        obtain rfl : y_14 = nI (1976 + i) := ey_14.trans (z_iaddn 1976 i rfl rfl)
        refine lv_aload_n hx hb dX12_image_40 rfl (lv_at hl 1 rfl) ?_
        refine z_get C G clX12 0 rfl 0 (by decide) m_fl_RX12_7 rfl dX12_image_41 ?_
        refine lv_iload_n hx hb dX12_image_44 rfl (lv_at hl 0 rfl) ?_
        refine z_ild C G 1 rfl (vp_in_nI (by omega) (by omega)) dX12_image_45 ?_
        refine lv_topi (fun v_15 ev_15 => ?_)
        rw [nI_clamp (by omega)] at ev_15
        subst ev_15
        refine z_ist C G 1 rfl (vp_in_nI (by omega) (by omega)) dX12_image_46 (fun H locs G => ?_)
        rw [nI_clamp (by omega)] at G
        have G : zS T A s.heap s [[(mo, .inr (11, [.ref m_all, .ref m_has, .int i_size, .int i_next, .int i_where, .int i_token, .int i_number, .int i_word, .int i_wrong, .int i_farCrossing, .ref m_read, .int i_z0, .int i_crossings, .int i_inns, .ref m_posts, .ref m_shut, .ref m_here, .int i_steps, .int i_done, .int i_at, .int i_gone, .ref m_was, .ref m_came, .ref m_seenAt, .ref m_rowWorth, .ref m_farBy, .ref m_used, .int i_everywhere, .int i_again0, .int i_d0, .int i_never, .int i_firstCame, .int i_longRun, .int i_moved, .int i_crowd, .int i_l0, .int i_fitMany, .int i_fitLeast, .int i_fitMost, .ref m_fitPost, .ref m_fitEnd, .ref m_keptPosts, .int i_x0]))], [(m_all, .inl (T.2 0, 3952, .inl (upd x (1976 + i) (x i))))], [(m_has, .inl (T.2 2, 3, .inl (upd f_has 1 (vp_nar .boolean 1))))]] _ _ := G
        refine lv_iinc (v := nI (i + 1)) (lv' := [(2, .int (nI (i + 1))), (0, .ref mo), (1, .int 1)]) hx hb dX12_image_47 hl (k := 0) rfl (z_inc i 1) (by decide) rfl (fun ls hl => ?_)
        refine lv_goto (tgt := 20) hx hb dX12_image_50 (by decide) ?_
        exact ih_20 ((i + 1), (upd x (1976 + i) (x i))) (show (i + 1) ≤ 988 ∧ (∀ j, j < (i + 1) → (upd x (1976 + i) (x i)) (1976 + j) = f_all j) ∧ (∀ j, (j < 1976 ∨ 2964 ≤ j) → (upd x (1976 + i) (x i)) j = f_all j) from ⟨by omega, z_upS hS (hO i (by omega)), z_upO hO (by omega)⟩) (show 988 - (i + 1) < 988 - i from by omega) _ _ ls G (lv_sub hl [0, 1, 2] rfl)
    · obtain rfl : k_ = 2 := Int32.toInt_inj.mp hk
      refine lv_aload_n hx hb dX12_image_11 rfl (lv_at hl 0 rfl) ?_
      refine z_get C G clX12 0 rfl 1 (by decide) m_fl_RX12_13 rfl dX12_image_12 ?_
      refine lv_iload_n hx hb dX12_image_15 rfl (lv_at hl 1 rfl) ?_
      refine lv_iconst (v := 1) hx hb dX12_image_16 (by decide) ?_
      refine z_zst C G 2 rfl (vp_in_nI (n := 2) (by decide) (by decide)) dX12_image_17 (fun H locs G => ?_)
      have G : zS T A s.heap s [[(mo, .inr (11, [.ref m_all, .ref m_has, .int i_size, .int i_next, .int i_where, .int i_token, .int i_number, .int i_word, .int i_wrong, .int i_farCrossing, .ref m_read, .int i_z0, .int i_crossings, .int i_inns, .ref m_posts, .ref m_shut, .ref m_here, .int i_steps, .int i_done, .int i_at, .int i_gone, .ref m_was, .ref m_came, .ref m_seenAt, .ref m_rowWorth, .ref m_farBy, .ref m_used, .int i_everywhere, .int i_again0, .int i_d0, .int i_never, .int i_firstCame, .int i_longRun, .int i_moved, .int i_crowd, .int i_l0, .int i_fitMany, .int i_fitLeast, .int i_fitMost, .ref m_fitPost, .ref m_fitEnd, .ref m_keptPosts, .int i_x0]))], [(m_all, .inl (T.2 0, 3952, .inl f_all))], [(m_has, .inl (T.2 2, 3, .inl (upd f_has 2 (vp_nar .boolean 1))))]] _ _ := G
      refine lv_iconst (v := 0) hx hb dX12_image_18 (by decide) ?_
      refine lv_istore_n (lv' := [(2, .int 0), (0, .ref mo), (1, .int 2)]) hx hb dX12_image_19 rfl hl (by decide) rfl (fun ls hl => ?_)
      refine z_loop (T := T) (α := Nat × (Nat → Int32)) 20 (fun (i, x) => [[(mo, .inr (11, [.ref m_all, .ref m_has, .int i_size, .int i_next, .int i_where, .int i_token, .int i_number, .int i_word, .int i_wrong, .int i_farCrossing, .ref m_read, .int i_z0, .int i_crossings, .int i_inns, .ref m_posts, .ref m_shut, .ref m_here, .int i_steps, .int i_done, .int i_at, .int i_gone, .ref m_was, .ref m_came, .ref m_seenAt, .ref m_rowWorth, .ref m_farBy, .ref m_used, .int i_everywhere, .int i_again0, .int i_d0, .int i_never, .int i_firstCame, .int i_longRun, .int i_moved, .int i_crowd, .int i_l0, .int i_fitMany, .int i_fitLeast, .int i_fitMost, .ref m_fitPost, .ref m_fitEnd, .ref m_keptPosts, .int i_x0]))], [(m_all, .inl (T.2 0, 3952, .inl x))], [(m_has, .inl (T.2 2, 3, .inl (upd f_has 2 (vp_nar .boolean 1))))]]) (fun (i, x) => [(2, .int (nI i)), (0, .ref mo), (1, .int 2)]) (fun (i, x) => i ≤ 988 ∧ (∀ j, j < i → x (2964 + j) = f_all j) ∧ (∀ j, (j < 2964 ∨ 3952 ≤ j) → x j = f_all j)) (fun (i, x) => 988 - i) ?_ (0, f_all) (show 0 ≤ 988 ∧ (∀ j, j < 0 → f_all (2964 + j) = f_all j) ∧ (∀ j, (j < 2964 ∨ 3952 ≤ j) → f_all j = f_all j) from ⟨by omega, fun j hj => absurd hj (by omega), fun j _ => rfl⟩) G (lv_sub hl [0, 1, 2] rfl)
      rintro ⟨i, x⟩ ⟨hi, hS, hO⟩ ih_20 H locs ls G hl
      replace hi : i ≤ 988 := hi
      replace hS : (∀ j, j < i → x (2964 + j) = f_all j) := hS
      replace hO : (∀ j, (j < 2964 ∨ 3952 ≤ j) → x j = f_all j) := hO
      replace G : zS T A s.heap s [[(mo, .inr (11, [.ref m_all, .ref m_has, .int i_size, .int i_next, .int i_where, .int i_token, .int i_number, .int i_word, .int i_wrong, .int i_farCrossing, .ref m_read, .int i_z0, .int i_crossings, .int i_inns, .ref m_posts, .ref m_shut, .ref m_here, .int i_steps, .int i_done, .int i_at, .int i_gone, .ref m_was, .ref m_came, .ref m_seenAt, .ref m_rowWorth, .ref m_farBy, .ref m_used, .int i_everywhere, .int i_again0, .int i_d0, .int i_never, .int i_firstCame, .int i_longRun, .int i_moved, .int i_crowd, .int i_l0, .int i_fitMany, .int i_fitLeast, .int i_fitMost, .ref m_fitPost, .ref m_fitEnd, .ref m_keptPosts, .int i_x0]))], [(m_all, .inl (T.2 0, 3952, .inl x))], [(m_has, .inl (T.2 2, 3, .inl (upd f_has 2 (vp_nar .boolean 1))))]] _ _ := G
      replace hl : lv_has ls 3 [(2, .int (nI i)), (0, .ref mo), (1, .int 2)] := hl
      refine lv_iload_n hx hb dX12_image_20 rfl (lv_at hl 0 rfl) ?_
      refine lv_sipush (v := 988) hx hb dX12_image_21 (by decide) ?_
      refine lv_icmp_ge (tgt := 53) hx hb dX12_image_24 (by decide) (fun c_16 => ?_) (fun c_16 => ?_)
      · have c_16n : 988 ≤ i := (nI_leI (a := 988) (b := i) (by omega) (by omega)).mp c_16
        refine lv_iconst (v := 1) hx hb dX12_image_53 (by decide) ?_
        exact z_zret C hr hlocks G (Nat.le_of_ble_eq_true rfl) (Nat.le_of_ble_eq_true rfl) dX12_image_54 rfl ⟨x, (upd f_has 2 (vp_nar .boolean 1)), rfl, (Or.inr ⟨rfl, by decide, fun j hj => hS j (by omega), hO, rfl⟩)⟩
      · have c_16n : ¬ 988 ≤ i := fun q => c_16 ((nI_leI (a := 988) (b := i) (by omega) (by omega)).mpr q)
        refine lv_aload_n hx hb dX12_image_27 rfl (lv_at hl 1 rfl) ?_
        refine z_get C G clX12 0 rfl 0 (by decide) m_fl_RX12_7 rfl dX12_image_28 ?_
        refine lv_sipush (v := 988) hx hb dX12_image_31 (by decide) ?_
        refine lv_iload_n hx hb dX12_image_34 rfl (lv_at hl 2 rfl) ?_
        refine lv_iconst (v := 1) hx hb dX12_image_35 (by decide) ?_
        refine lv_iadd hx hb dX12_image_36 ?_
        refine lv_topi (fun y_17 ey_17 => ?_)
        obtain rfl : y_17 = 3 := ey_17.trans (by decide)
        refine lv_imul hx hb dX12_image_37 ?_
        refine lv_topi (fun y_18 ey_18 => ?_)
        obtain rfl : y_18 = 2964 := ey_18.trans (by decide)
        refine lv_iload_n hx hb dX12_image_38 rfl (lv_at hl 0 rfl) ?_
        refine lv_iadd hx hb dX12_image_39 ?_
        refine lv_topi (fun y_19 ey_19 => ?_)
        obtain rfl : y_19 = nI (2964 + i) := ey_19.trans (z_iaddn 2964 i rfl rfl)
        refine lv_aload_n hx hb dX12_image_40 rfl (lv_at hl 1 rfl) ?_
        refine z_get C G clX12 0 rfl 0 (by decide) m_fl_RX12_7 rfl dX12_image_41 ?_
        refine lv_iload_n hx hb dX12_image_44 rfl (lv_at hl 0 rfl) ?_
        refine z_ild C G 1 rfl (vp_in_nI (by omega) (by omega)) dX12_image_45 ?_
        refine lv_topi (fun v_20 ev_20 => ?_)
        rw [nI_clamp (by omega)] at ev_20
        subst ev_20
        refine z_ist C G 1 rfl (vp_in_nI (by omega) (by omega)) dX12_image_46 (fun H locs G => ?_)
        rw [nI_clamp (by omega)] at G
        have G : zS T A s.heap s [[(mo, .inr (11, [.ref m_all, .ref m_has, .int i_size, .int i_next, .int i_where, .int i_token, .int i_number, .int i_word, .int i_wrong, .int i_farCrossing, .ref m_read, .int i_z0, .int i_crossings, .int i_inns, .ref m_posts, .ref m_shut, .ref m_here, .int i_steps, .int i_done, .int i_at, .int i_gone, .ref m_was, .ref m_came, .ref m_seenAt, .ref m_rowWorth, .ref m_farBy, .ref m_used, .int i_everywhere, .int i_again0, .int i_d0, .int i_never, .int i_firstCame, .int i_longRun, .int i_moved, .int i_crowd, .int i_l0, .int i_fitMany, .int i_fitLeast, .int i_fitMost, .ref m_fitPost, .ref m_fitEnd, .ref m_keptPosts, .int i_x0]))], [(m_all, .inl (T.2 0, 3952, .inl (upd x (2964 + i) (x i))))], [(m_has, .inl (T.2 2, 3, .inl (upd f_has 2 (vp_nar .boolean 1))))]] _ _ := G
        refine lv_iinc (v := nI (i + 1)) (lv' := [(2, .int (nI (i + 1))), (0, .ref mo), (1, .int 2)]) hx hb dX12_image_47 hl (k := 0) rfl (z_inc i 1) (by decide) rfl (fun ls hl => ?_)
        refine lv_goto (tgt := 20) hx hb dX12_image_50 (by decide) ?_
        exact ih_20 ((i + 1), (upd x (2964 + i) (x i))) (show (i + 1) ≤ 988 ∧ (∀ j, j < (i + 1) → (upd x (2964 + i) (x i)) (2964 + j) = f_all j) ∧ (∀ j, (j < 2964 ∨ 3952 ≤ j) → (upd x (2964 + i) (x i)) j = f_all j) from ⟨by omega, z_upS hS (hO i (by omega)), z_upO hO (by omega)⟩) (show 988 - (i + 1) < 988 - i from by omega) _ _ ls G (lv_sub hl [0, 1, 2] rfl)
  · have h_5 : (k_.toInt < (0 : Int) ∨ (2 : Int) < k_.toInt) := h_5
    refine lv_if_ne (tgt := 11) hx hb dX12_image_6 (by decide) (fun q => absurd (by decide) q) (fun _ => ?_)
    refine lv_iconst (v := 0) hx hb dX12_image_9 (by decide) ?_
    exact z_zret C hr hlocks G (Nat.le_of_ble_eq_true rfl) (Nat.le_of_ble_eq_true rfl) dX12_image_10 rfl ⟨f_all, f_has, rfl, (Or.inl ⟨rfl, by omega, rfl, rfl⟩)⟩


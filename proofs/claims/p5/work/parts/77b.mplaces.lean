set_option maxHeartbeats 4000000 in
set_option maxRecDepth 100000 in
/-- c_m_placeOf00 -/
theorem c_m_placeOf00 (l : Launch) (T : zTy) : zMi l T yX12_placeOf cX12_placeOf 2 (some .int) 1 0 0 [.int 0, .int 0] [] (fun (r : Int32) bs => bs = [] ∧ r = 610) := by
  refine zMi_of (own := RX12) (by decide) rfl (Nat.le_of_ble_eq_true rfl) ?_
  intro p e s m args below meth c A ls C hr hlocks hnm hAe G hl
  have hx := C.1
  have hb := C.2.1
  have hl : lv_has ls 2 [(0, .int 0), (1, .int 0)] := hl
  refine lv_iload_n hx hb dX12_placeOf_0 rfl (lv_at hl 0 rfl) ?_
  refine lv_if_ne (tgt := 15) hx hb dX12_placeOf_1 (by decide) (fun q => absurd (by decide) q) (fun _ => ?_)
  refine lv_sipush (v := 610) hx hb dX12_placeOf_4 (by decide) ?_
  refine lv_bipush (v := 51) hx hb dX12_placeOf_7 (by decide) ?_
  refine lv_iload_n hx hb dX12_placeOf_9 rfl (lv_at hl 1 rfl) ?_
  refine lv_imul hx hb dX12_placeOf_10 ?_
  refine lv_topi (fun y_1 ey_1 => ?_)
  obtain rfl : y_1 = 0 := ey_1.trans (by decide)
  refine lv_iadd hx hb dX12_placeOf_11 ?_
  refine lv_topi (fun y_2 ey_2 => ?_)
  obtain rfl : y_2 = 610 := ey_2.trans (by decide)
  refine lv_goto (tgt := 39) hx hb dX12_placeOf_12 (by decide) ?_
  exact z_iret C hr hlocks G (Nat.le_of_ble_eq_true rfl) (Nat.le_of_ble_eq_true rfl) dX12_placeOf_39 ⟨rfl, rfl⟩
set_option maxHeartbeats 4000000 in
set_option maxRecDepth 100000 in
/-- c_m_placeOf01 -/
theorem c_m_placeOf01 (l : Launch) (T : zTy) : zMi l T yX12_placeOf cX12_placeOf 2 (some .int) 1 0 0 [.int 0, .int 1] [] (fun (r : Int32) bs => bs = [] ∧ r = 661) := by
  refine zMi_of (own := RX12) (by decide) rfl (Nat.le_of_ble_eq_true rfl) ?_
  intro p e s m args below meth c A ls C hr hlocks hnm hAe G hl
  have hx := C.1
  have hb := C.2.1
  have hl : lv_has ls 2 [(0, .int 0), (1, .int 1)] := hl
  refine lv_iload_n hx hb dX12_placeOf_0 rfl (lv_at hl 0 rfl) ?_
  refine lv_if_ne (tgt := 15) hx hb dX12_placeOf_1 (by decide) (fun q => absurd (by decide) q) (fun _ => ?_)
  refine lv_sipush (v := 610) hx hb dX12_placeOf_4 (by decide) ?_
  refine lv_bipush (v := 51) hx hb dX12_placeOf_7 (by decide) ?_
  refine lv_iload_n hx hb dX12_placeOf_9 rfl (lv_at hl 1 rfl) ?_
  refine lv_imul hx hb dX12_placeOf_10 ?_
  refine lv_topi (fun y_1 ey_1 => ?_)
  obtain rfl : y_1 = 51 := ey_1.trans (by decide)
  refine lv_iadd hx hb dX12_placeOf_11 ?_
  refine lv_topi (fun y_2 ey_2 => ?_)
  obtain rfl : y_2 = 661 := ey_2.trans (by decide)
  refine lv_goto (tgt := 39) hx hb dX12_placeOf_12 (by decide) ?_
  exact z_iret C hr hlocks G (Nat.le_of_ble_eq_true rfl) (Nat.le_of_ble_eq_true rfl) dX12_placeOf_39 ⟨rfl, rfl⟩
set_option maxHeartbeats 4000000 in
set_option maxRecDepth 100000 in
/-- c_m_sizeOf0 -/
theorem c_m_sizeOf0 (l : Launch) (T : zTy) : zMi l T yX12_sizeOf cX12_sizeOf 1 (some .int) 1 0 0 [.int 0] [] (fun (r : Int32) bs => bs = [] ∧ r = 51) := by
  refine zMi_of (own := RX12) (by decide) rfl (Nat.le_of_ble_eq_true rfl) ?_
  intro p e s m args below meth c A ls C hr hlocks hnm hAe G hl
  have hx := C.1
  have hb := C.2.1
  have hl : lv_has ls 1 [(0, .int 0)] := hl
  refine lv_iload_n hx hb dX12_sizeOf_0 rfl (lv_at hl 0 rfl) ?_
  refine lv_if_ne (tgt := 9) hx hb dX12_sizeOf_1 (by decide) (fun q => absurd (by decide) q) (fun _ => ?_)
  refine lv_bipush (v := 51) hx hb dX12_sizeOf_4 (by decide) ?_
  refine lv_goto (tgt := 21) hx hb dX12_sizeOf_6 (by decide) ?_
  exact z_iret C hr hlocks G (Nat.le_of_ble_eq_true rfl) (Nat.le_of_ble_eq_true rfl) dX12_sizeOf_21 ⟨rfl, rfl⟩
set_option maxHeartbeats 4000000 in
set_option maxRecDepth 100000 in
/-- c_m_placeOf10 -/
theorem c_m_placeOf10 (l : Launch) (T : zTy) : zMi l T yX12_placeOf cX12_placeOf 2 (some .int) 1 0 0 [.int 1, .int 0] [] (fun (r : Int32) bs => bs = [] ∧ r = 712) := by
  refine zMi_of (own := RX12) (by decide) rfl (Nat.le_of_ble_eq_true rfl) ?_
  intro p e s m args below meth c A ls C hr hlocks hnm hAe G hl
  have hx := C.1
  have hb := C.2.1
  have hl : lv_has ls 2 [(0, .int 1), (1, .int 0)] := hl
  refine lv_iload_n hx hb dX12_placeOf_0 rfl (lv_at hl 0 rfl) ?_
  refine lv_if_ne (tgt := 15) hx hb dX12_placeOf_1 (by decide) (fun _ => ?_) (fun q => absurd q (by decide))
  refine lv_iload_n hx hb dX12_placeOf_15 rfl (lv_at hl 0 rfl) ?_
  refine lv_iconst (v := 1) hx hb dX12_placeOf_16 (by decide) ?_
  refine lv_icmp_ne (tgt := 31) hx hb dX12_placeOf_17 (by decide) (fun q => absurd (by decide) q) (fun _ => ?_)
  refine lv_sipush (v := 712) hx hb dX12_placeOf_20 (by decide) ?_
  refine lv_bipush (v := 121) hx hb dX12_placeOf_23 (by decide) ?_
  refine lv_iload_n hx hb dX12_placeOf_25 rfl (lv_at hl 1 rfl) ?_
  refine lv_imul hx hb dX12_placeOf_26 ?_
  refine lv_topi (fun y_1 ey_1 => ?_)
  obtain rfl : y_1 = 0 := ey_1.trans (by decide)
  refine lv_iadd hx hb dX12_placeOf_27 ?_
  refine lv_topi (fun y_2 ey_2 => ?_)
  obtain rfl : y_2 = 712 := ey_2.trans (by decide)
  refine lv_goto (tgt := 39) hx hb dX12_placeOf_28 (by decide) ?_
  exact z_iret C hr hlocks G (Nat.le_of_ble_eq_true rfl) (Nat.le_of_ble_eq_true rfl) dX12_placeOf_39 ⟨rfl, rfl⟩
set_option maxHeartbeats 4000000 in
set_option maxRecDepth 100000 in
/-- c_m_placeOf11 -/
theorem c_m_placeOf11 (l : Launch) (T : zTy) : zMi l T yX12_placeOf cX12_placeOf 2 (some .int) 1 0 0 [.int 1, .int 1] [] (fun (r : Int32) bs => bs = [] ∧ r = 833) := by
  refine zMi_of (own := RX12) (by decide) rfl (Nat.le_of_ble_eq_true rfl) ?_
  intro p e s m args below meth c A ls C hr hlocks hnm hAe G hl
  have hx := C.1
  have hb := C.2.1
  have hl : lv_has ls 2 [(0, .int 1), (1, .int 1)] := hl
  refine lv_iload_n hx hb dX12_placeOf_0 rfl (lv_at hl 0 rfl) ?_
  refine lv_if_ne (tgt := 15) hx hb dX12_placeOf_1 (by decide) (fun _ => ?_) (fun q => absurd q (by decide))
  refine lv_iload_n hx hb dX12_placeOf_15 rfl (lv_at hl 0 rfl) ?_
  refine lv_iconst (v := 1) hx hb dX12_placeOf_16 (by decide) ?_
  refine lv_icmp_ne (tgt := 31) hx hb dX12_placeOf_17 (by decide) (fun q => absurd (by decide) q) (fun _ => ?_)
  refine lv_sipush (v := 712) hx hb dX12_placeOf_20 (by decide) ?_
  refine lv_bipush (v := 121) hx hb dX12_placeOf_23 (by decide) ?_
  refine lv_iload_n hx hb dX12_placeOf_25 rfl (lv_at hl 1 rfl) ?_
  refine lv_imul hx hb dX12_placeOf_26 ?_
  refine lv_topi (fun y_1 ey_1 => ?_)
  obtain rfl : y_1 = 121 := ey_1.trans (by decide)
  refine lv_iadd hx hb dX12_placeOf_27 ?_
  refine lv_topi (fun y_2 ey_2 => ?_)
  obtain rfl : y_2 = 833 := ey_2.trans (by decide)
  refine lv_goto (tgt := 39) hx hb dX12_placeOf_28 (by decide) ?_
  exact z_iret C hr hlocks G (Nat.le_of_ble_eq_true rfl) (Nat.le_of_ble_eq_true rfl) dX12_placeOf_39 ⟨rfl, rfl⟩
set_option maxHeartbeats 4000000 in
set_option maxRecDepth 100000 in
/-- c_m_sizeOf1 -/
theorem c_m_sizeOf1 (l : Launch) (T : zTy) : zMi l T yX12_sizeOf cX12_sizeOf 1 (some .int) 1 0 0 [.int 1] [] (fun (r : Int32) bs => bs = [] ∧ r = 121) := by
  refine zMi_of (own := RX12) (by decide) rfl (Nat.le_of_ble_eq_true rfl) ?_
  intro p e s m args below meth c A ls C hr hlocks hnm hAe G hl
  have hx := C.1
  have hb := C.2.1
  have hl : lv_has ls 1 [(0, .int 1)] := hl
  refine lv_iload_n hx hb dX12_sizeOf_0 rfl (lv_at hl 0 rfl) ?_
  refine lv_if_ne (tgt := 9) hx hb dX12_sizeOf_1 (by decide) (fun _ => ?_) (fun q => absurd q (by decide))
  refine lv_iload_n hx hb dX12_sizeOf_9 rfl (lv_at hl 0 rfl) ?_
  refine lv_iconst (v := 1) hx hb dX12_sizeOf_10 (by decide) ?_
  refine lv_icmp_ne (tgt := 19) hx hb dX12_sizeOf_11 (by decide) (fun q => absurd (by decide) q) (fun _ => ?_)
  refine lv_bipush (v := 121) hx hb dX12_sizeOf_14 (by decide) ?_
  refine lv_goto (tgt := 21) hx hb dX12_sizeOf_16 (by decide) ?_
  exact z_iret C hr hlocks G (Nat.le_of_ble_eq_true rfl) (Nat.le_of_ble_eq_true rfl) dX12_sizeOf_21 ⟨rfl, rfl⟩
set_option maxHeartbeats 4000000 in
set_option maxRecDepth 100000 in
/-- c_m_placeOf20 -/
theorem c_m_placeOf20 (l : Launch) (T : zTy) : zMi l T yX12_placeOf cX12_placeOf 2 (some .int) 1 0 0 [.int 2, .int 0] [] (fun (r : Int32) bs => bs = [] ∧ r = 954) := by
  refine zMi_of (own := RX12) (by decide) rfl (Nat.le_of_ble_eq_true rfl) ?_
  intro p e s m args below meth c A ls C hr hlocks hnm hAe G hl
  have hx := C.1
  have hb := C.2.1
  have hl : lv_has ls 2 [(0, .int 2), (1, .int 0)] := hl
  refine lv_iload_n hx hb dX12_placeOf_0 rfl (lv_at hl 0 rfl) ?_
  refine lv_if_ne (tgt := 15) hx hb dX12_placeOf_1 (by decide) (fun _ => ?_) (fun q => absurd q (by decide))
  refine lv_iload_n hx hb dX12_placeOf_15 rfl (lv_at hl 0 rfl) ?_
  refine lv_iconst (v := 1) hx hb dX12_placeOf_16 (by decide) ?_
  refine lv_icmp_ne (tgt := 31) hx hb dX12_placeOf_17 (by decide) (fun _ => ?_) (fun q => absurd q (by decide))
  refine lv_sipush (v := 954) hx hb dX12_placeOf_31 (by decide) ?_
  refine lv_bipush (v := 17) hx hb dX12_placeOf_34 (by decide) ?_
  refine lv_iload_n hx hb dX12_placeOf_36 rfl (lv_at hl 1 rfl) ?_
  refine lv_imul hx hb dX12_placeOf_37 ?_
  refine lv_topi (fun y_1 ey_1 => ?_)
  obtain rfl : y_1 = 0 := ey_1.trans (by decide)
  refine lv_iadd hx hb dX12_placeOf_38 ?_
  refine lv_topi (fun y_2 ey_2 => ?_)
  obtain rfl : y_2 = 954 := ey_2.trans (by decide)
  exact z_iret C hr hlocks G (Nat.le_of_ble_eq_true rfl) (Nat.le_of_ble_eq_true rfl) dX12_placeOf_39 ⟨rfl, rfl⟩
set_option maxHeartbeats 4000000 in
set_option maxRecDepth 100000 in
/-- c_m_placeOf21 -/
theorem c_m_placeOf21 (l : Launch) (T : zTy) : zMi l T yX12_placeOf cX12_placeOf 2 (some .int) 1 0 0 [.int 2, .int 1] [] (fun (r : Int32) bs => bs = [] ∧ r = 971) := by
  refine zMi_of (own := RX12) (by decide) rfl (Nat.le_of_ble_eq_true rfl) ?_
  intro p e s m args below meth c A ls C hr hlocks hnm hAe G hl
  have hx := C.1
  have hb := C.2.1
  have hl : lv_has ls 2 [(0, .int 2), (1, .int 1)] := hl
  refine lv_iload_n hx hb dX12_placeOf_0 rfl (lv_at hl 0 rfl) ?_
  refine lv_if_ne (tgt := 15) hx hb dX12_placeOf_1 (by decide) (fun _ => ?_) (fun q => absurd q (by decide))
  refine lv_iload_n hx hb dX12_placeOf_15 rfl (lv_at hl 0 rfl) ?_
  refine lv_iconst (v := 1) hx hb dX12_placeOf_16 (by decide) ?_
  refine lv_icmp_ne (tgt := 31) hx hb dX12_placeOf_17 (by decide) (fun _ => ?_) (fun q => absurd q (by decide))
  refine lv_sipush (v := 954) hx hb dX12_placeOf_31 (by decide) ?_
  refine lv_bipush (v := 17) hx hb dX12_placeOf_34 (by decide) ?_
  refine lv_iload_n hx hb dX12_placeOf_36 rfl (lv_at hl 1 rfl) ?_
  refine lv_imul hx hb dX12_placeOf_37 ?_
  refine lv_topi (fun y_1 ey_1 => ?_)
  obtain rfl : y_1 = 17 := ey_1.trans (by decide)
  refine lv_iadd hx hb dX12_placeOf_38 ?_
  refine lv_topi (fun y_2 ey_2 => ?_)
  obtain rfl : y_2 = 971 := ey_2.trans (by decide)
  exact z_iret C hr hlocks G (Nat.le_of_ble_eq_true rfl) (Nat.le_of_ble_eq_true rfl) dX12_placeOf_39 ⟨rfl, rfl⟩
set_option maxHeartbeats 4000000 in
set_option maxRecDepth 100000 in
/-- c_m_sizeOf2 -/
theorem c_m_sizeOf2 (l : Launch) (T : zTy) : zMi l T yX12_sizeOf cX12_sizeOf 1 (some .int) 1 0 0 [.int 2] [] (fun (r : Int32) bs => bs = [] ∧ r = 17) := by
  refine zMi_of (own := RX12) (by decide) rfl (Nat.le_of_ble_eq_true rfl) ?_
  intro p e s m args below meth c A ls C hr hlocks hnm hAe G hl
  have hx := C.1
  have hb := C.2.1
  have hl : lv_has ls 1 [(0, .int 2)] := hl
  refine lv_iload_n hx hb dX12_sizeOf_0 rfl (lv_at hl 0 rfl) ?_
  refine lv_if_ne (tgt := 9) hx hb dX12_sizeOf_1 (by decide) (fun _ => ?_) (fun q => absurd q (by decide))
  refine lv_iload_n hx hb dX12_sizeOf_9 rfl (lv_at hl 0 rfl) ?_
  refine lv_iconst (v := 1) hx hb dX12_sizeOf_10 (by decide) ?_
  refine lv_icmp_ne (tgt := 19) hx hb dX12_sizeOf_11 (by decide) (fun _ => ?_) (fun q => absurd q (by decide))
  refine lv_bipush (v := 17) hx hb dX12_sizeOf_19 (by decide) ?_
  exact z_iret C hr hlocks G (Nat.le_of_ble_eq_true rfl) (Nat.le_of_ble_eq_true rfl) dX12_sizeOf_21 ⟨rfl, rfl⟩
set_option maxHeartbeats 4000000 in
set_option maxRecDepth 100000 in
/-- isOf -/
theorem c_m_isOf (l : Launch) (T : zTy) (mo : Nat) (m_all : Nat) (m_has : Nat) (i_size : Int32) (i_next : Int32) (i_where : Int32) (i_token : Int32) (i_number : Int32) (i_word : Int32) (i_wrong : Int32) (i_farCrossing : Int32) (m_read : Nat) (i_z0 : Int32) (i_crossings : Int32) (i_inns : Int32) (m_posts : Nat) (m_shut : Nat) (m_here : Nat) (i_steps : Int32) (i_done : Int32) (i_at : Int32) (i_gone : Int32) (m_was : Nat) (m_came : Nat) (m_seenAt : Nat) (m_rowWorth : Nat) (m_farBy : Nat) (m_used : Nat) (i_everywhere : Int32) (i_again0 : Int32) (i_d0 : Int32) (i_never : Int32) (i_firstCame : Int32) (i_longRun : Int32) (i_moved : Int32) (i_crowd : Int32) (i_l0 : Int32) (i_fitMany : Int32) (i_fitLeast : Int32) (i_fitMost : Int32) (m_fitPost : Nat) (m_fitEnd : Nat) (m_keptPosts : Nat) (i_x0 : Int32) (f_all : Nat → Int32) (so_ : Int32) (k_ : Int32) (hs0 : 0 ≤ so_.toInt) (hs2 : so_.toInt ≤ 2) (hc : 0 ≤ (f_all so_.toNatClampNeg).toInt ∧ (f_all so_.toNatClampNeg).toInt ≤ 2) : zMi l T yX12_isOf cX12_isOf 3 (some .boolean) 2 0 0 [.ref mo, .int so_, .int k_] [[(mo, .inr (11, [.ref m_all, .ref m_has, .int i_size, .int i_next, .int i_where, .int i_token, .int i_number, .int i_word, .int i_wrong, .int i_farCrossing, .ref m_read, .int i_z0, .int i_crossings, .int i_inns, .ref m_posts, .ref m_shut, .ref m_here, .int i_steps, .int i_done, .int i_at, .int i_gone, .ref m_was, .ref m_came, .ref m_seenAt, .ref m_rowWorth, .ref m_farBy, .ref m_used, .int i_everywhere, .int i_again0, .int i_d0, .int i_never, .int i_firstCame, .int i_longRun, .int i_moved, .int i_crowd, .int i_l0, .int i_fitMany, .int i_fitLeast, .int i_fitMost, .ref m_fitPost, .ref m_fitEnd, .ref m_keptPosts, .int i_x0]))], [(m_all, .inl (T.2 0, 3952, .inl f_all))]] (fun (r : Int32) bs => bs = [[(mo, .inr (11, [.ref m_all, .ref m_has, .int i_size, .int i_next, .int i_where, .int i_token, .int i_number, .int i_word, .int i_wrong, .int i_farCrossing, .ref m_read, .int i_z0, .int i_crossings, .int i_inns, .ref m_posts, .ref m_shut, .ref m_here, .int i_steps, .int i_done, .int i_at, .int i_gone, .ref m_was, .ref m_came, .ref m_seenAt, .ref m_rowWorth, .ref m_farBy, .ref m_used, .int i_everywhere, .int i_again0, .int i_d0, .int i_never, .int i_firstCame, .int i_longRun, .int i_moved, .int i_crowd, .int i_l0, .int i_fitMany, .int i_fitLeast, .int i_fitMost, .ref m_fitPost, .ref m_fitEnd, .ref m_keptPosts, .int i_x0]))], [(m_all, .inl (T.2 0, 3952, .inl f_all))]] ∧ ((r = 1 ∧ 0 ≤ k_.toInt ∧ k_.toInt < (f_all so_.toNatClampNeg).toInt) ∨ (r = 0 ∧ (k_.toInt < 0 ∨ (f_all so_.toNatClampNeg).toInt ≤ k_.toInt)))) := by
  refine zMi_of (own := RX12) (by decide) rfl (Nat.le_of_ble_eq_true rfl) ?_
  intro p e s m args below meth c A ls C hr hlocks hnm hAe G hl
  have hx := C.1
  have hb := C.2.1
  have hl : lv_has ls 3 [(0, .ref mo), (1, .int so_), (2, .int k_)] := hl
  refine lv_iload_n hx hb dX12_isOf_0 rfl (lv_at hl 2 rfl) ?_
  refine lv_iconst (v := 0) hx hb dX12_isOf_1 (by decide) ?_
  refine lv_aload_n hx hb dX12_isOf_2 rfl (lv_at hl 0 rfl) ?_
  refine z_get C G clX12 0 rfl 0 (by decide) m_fl_RX12_7 rfl dX12_isOf_3 ?_
  refine lv_iload_n hx hb dX12_isOf_6 rfl (lv_at hl 1 rfl) ?_
  refine z_ild C G 1 rfl (vp_in_iff.mpr ⟨by omega, by omega⟩) dX12_isOf_7 ?_
  refine lv_topi (fun v_1 ev_1 => ?_)
  subst ev_1
  refine lv_iconst (v := 1) hx hb dX12_isOf_8 (by decide) ?_
  refine lv_isub hx hb dX12_isOf_9 ?_
  refine lv_topi (fun y_2 ey_2 => ?_)
  have ey_2i : y_2.toInt = (f_all so_.toNatClampNeg).toInt - (1 : Int) := by rw [ey_2]; exact z_isubI (x := (f_all so_.toNatClampNeg)) (y := (1 : Int32)) (by show -2147483648 ≤ (f_all so_.toNatClampNeg).toInt - (1 : Int); omega) (by show (f_all so_.toNatClampNeg).toInt - (1 : Int) < 2147483648; omega)
  refine z_Si (bc := []) (br := [[(mo, .inr (11, [.ref m_all, .ref m_has, .int i_size, .int i_next, .int i_where, .int i_token, .int i_number, .int i_word, .int i_wrong, .int i_farCrossing, .ref m_read, .int i_z0, .int i_crossings, .int i_inns, .ref m_posts, .ref m_shut, .ref m_here, .int i_steps, .int i_done, .int i_at, .int i_gone, .ref m_was, .ref m_came, .ref m_seenAt, .ref m_rowWorth, .ref m_farBy, .ref m_used, .int i_everywhere, .int i_again0, .int i_d0, .int i_never, .int i_firstCame, .int i_longRun, .int i_moved, .int i_crowd, .int i_l0, .int i_fitMany, .int i_fitLeast, .int i_fitMost, .ref m_fitPost, .ref m_fitEnd, .ref m_keptPosts, .int i_x0]))], [(m_all, .inl (T.2 0, 3952, .inl f_all))]]) (As := [.int k_, .int 0, .int y_2]) (rest := []) C G (c_m_isIn l T k_ 0 y_2) (kS_RX12_111 C.2.2.2.2 (Nat.le_of_ble_eq_true rfl) (Nat.le_of_ble_eq_true rfl)) [] [0, 1] rfl rfl rfl rfl hl.1 dX12_isOf_10 (Nat.le_of_ble_eq_true rfl) (Nat.le_of_ble_eq_true rfl) (fun r_4 b1 H locs hw G => ?_)
  obtain ⟨rfl, hc_3⟩ := hw
  have G : zS T A s.heap s [[(mo, .inr (11, [.ref m_all, .ref m_has, .int i_size, .int i_next, .int i_where, .int i_token, .int i_number, .int i_word, .int i_wrong, .int i_farCrossing, .ref m_read, .int i_z0, .int i_crossings, .int i_inns, .ref m_posts, .ref m_shut, .ref m_here, .int i_steps, .int i_done, .int i_at, .int i_gone, .ref m_was, .ref m_came, .ref m_seenAt, .ref m_rowWorth, .ref m_farBy, .ref m_used, .int i_everywhere, .int i_again0, .int i_d0, .int i_never, .int i_firstCame, .int i_longRun, .int i_moved, .int i_crowd, .int i_l0, .int i_fitMany, .int i_fitLeast, .int i_fitMost, .ref m_fitPost, .ref m_fitEnd, .ref m_keptPosts, .int i_x0]))], [(m_all, .inl (T.2 0, 3952, .inl f_all))]] _ _ := G
  rcases hc_3 with ⟨rfl, h_5, h_6⟩ | ⟨rfl, h_7⟩
  · have h_5 : (0 : Int) ≤ k_.toInt := h_5
    have h_6 : k_.toInt ≤ y_2.toInt := h_6
    exact z_zret C hr hlocks G (Nat.le_of_ble_eq_true rfl) (Nat.le_of_ble_eq_true rfl) dX12_isOf_13 rfl ⟨rfl, (Or.inl (⟨rfl, (by first | assumption | omega), (by first | assumption | omega)⟩))⟩
  · have h_7 : (k_.toInt < (0 : Int) ∨ y_2.toInt < k_.toInt) := h_7
    exact z_zret C hr hlocks G (Nat.le_of_ble_eq_true rfl) (Nat.le_of_ble_eq_true rfl) dX12_isOf_13 rfl ⟨rfl, (Or.inr (⟨rfl, (by first | assumption | omega)⟩))⟩
set_option maxHeartbeats 4000000 in
set_option maxRecDepth 100000 in
/-- isOf 0 -/
theorem c_m_isOf0 (l : Launch) (T : zTy) (mo : Nat) (m_all : Nat) (m_has : Nat) (i_size : Int32) (i_next : Int32) (i_where : Int32) (i_token : Int32) (i_number : Int32) (i_word : Int32) (i_wrong : Int32) (i_farCrossing : Int32) (m_read : Nat) (i_z0 : Int32) (i_crossings : Int32) (i_inns : Int32) (m_posts : Nat) (m_shut : Nat) (m_here : Nat) (i_steps : Int32) (i_done : Int32) (i_at : Int32) (i_gone : Int32) (m_was : Nat) (m_came : Nat) (m_seenAt : Nat) (m_rowWorth : Nat) (m_farBy : Nat) (m_used : Nat) (i_everywhere : Int32) (i_again0 : Int32) (i_d0 : Int32) (i_never : Int32) (i_firstCame : Int32) (i_longRun : Int32) (i_moved : Int32) (i_crowd : Int32) (i_l0 : Int32) (i_fitMany : Int32) (i_fitLeast : Int32) (i_fitMost : Int32) (m_fitPost : Nat) (m_fitEnd : Nat) (m_keptPosts : Nat) (i_x0 : Int32) (f_all : Nat → Int32) (k_ : Int32) (hc : 0 ≤ (f_all 0).toInt ∧ (f_all 0).toInt ≤ 2) : zMi l T yX12_isOf cX12_isOf 3 (some .boolean) 2 0 0 [.ref mo, .int 0, .int k_] [[(mo, .inr (11, [.ref m_all, .ref m_has, .int i_size, .int i_next, .int i_where, .int i_token, .int i_number, .int i_word, .int i_wrong, .int i_farCrossing, .ref m_read, .int i_z0, .int i_crossings, .int i_inns, .ref m_posts, .ref m_shut, .ref m_here, .int i_steps, .int i_done, .int i_at, .int i_gone, .ref m_was, .ref m_came, .ref m_seenAt, .ref m_rowWorth, .ref m_farBy, .ref m_used, .int i_everywhere, .int i_again0, .int i_d0, .int i_never, .int i_firstCame, .int i_longRun, .int i_moved, .int i_crowd, .int i_l0, .int i_fitMany, .int i_fitLeast, .int i_fitMost, .ref m_fitPost, .ref m_fitEnd, .ref m_keptPosts, .int i_x0]))], [(m_all, .inl (T.2 0, 3952, .inl f_all))]] (fun (r : Int32) bs => bs = [[(mo, .inr (11, [.ref m_all, .ref m_has, .int i_size, .int i_next, .int i_where, .int i_token, .int i_number, .int i_word, .int i_wrong, .int i_farCrossing, .ref m_read, .int i_z0, .int i_crossings, .int i_inns, .ref m_posts, .ref m_shut, .ref m_here, .int i_steps, .int i_done, .int i_at, .int i_gone, .ref m_was, .ref m_came, .ref m_seenAt, .ref m_rowWorth, .ref m_farBy, .ref m_used, .int i_everywhere, .int i_again0, .int i_d0, .int i_never, .int i_firstCame, .int i_longRun, .int i_moved, .int i_crowd, .int i_l0, .int i_fitMany, .int i_fitLeast, .int i_fitMost, .ref m_fitPost, .ref m_fitEnd, .ref m_keptPosts, .int i_x0]))], [(m_all, .inl (T.2 0, 3952, .inl f_all))]] ∧ ((r = 1 ∧ 0 ≤ k_.toInt ∧ k_.toInt < (f_all 0).toInt) ∨ (r = 0 ∧ (k_.toInt < 0 ∨ (f_all 0).toInt ≤ k_.toInt)))) := by
  refine zMi_of (own := RX12) (by decide) rfl (Nat.le_of_ble_eq_true rfl) ?_
  intro p e s m args below meth c A ls C hr hlocks hnm hAe G hl
  have hx := C.1
  have hb := C.2.1
  have hl : lv_has ls 3 [(0, .ref mo), (1, .int 0), (2, .int k_)] := hl
  refine lv_iload_n hx hb dX12_isOf_0 rfl (lv_at hl 2 rfl) ?_
  refine lv_iconst (v := 0) hx hb dX12_isOf_1 (by decide) ?_
  refine lv_aload_n hx hb dX12_isOf_2 rfl (lv_at hl 0 rfl) ?_
  refine z_get C G clX12 0 rfl 0 (by decide) m_fl_RX12_7 rfl dX12_isOf_3 ?_
  refine lv_iload_n hx hb dX12_isOf_6 rfl (lv_at hl 1 rfl) ?_
  refine z_ild C G 1 rfl (vp_in_nI (n := 0) (by decide) (by decide)) dX12_isOf_7 ?_
  refine lv_topi (fun v_1 ev_1 => ?_)
  rw [show ((0 : Int32).toNatClampNeg) = 0 from rfl] at ev_1
  subst ev_1
  refine lv_iconst (v := 1) hx hb dX12_isOf_8 (by decide) ?_
  refine lv_isub hx hb dX12_isOf_9 ?_
  refine lv_topi (fun y_2 ey_2 => ?_)
  have ey_2i : y_2.toInt = (f_all 0).toInt - (1 : Int) := by rw [ey_2]; exact z_isubI (x := (f_all 0)) (y := (1 : Int32)) (by show -2147483648 ≤ (f_all 0).toInt - (1 : Int); omega) (by show (f_all 0).toInt - (1 : Int) < 2147483648; omega)
  refine z_Si (bc := []) (br := [[(mo, .inr (11, [.ref m_all, .ref m_has, .int i_size, .int i_next, .int i_where, .int i_token, .int i_number, .int i_word, .int i_wrong, .int i_farCrossing, .ref m_read, .int i_z0, .int i_crossings, .int i_inns, .ref m_posts, .ref m_shut, .ref m_here, .int i_steps, .int i_done, .int i_at, .int i_gone, .ref m_was, .ref m_came, .ref m_seenAt, .ref m_rowWorth, .ref m_farBy, .ref m_used, .int i_everywhere, .int i_again0, .int i_d0, .int i_never, .int i_firstCame, .int i_longRun, .int i_moved, .int i_crowd, .int i_l0, .int i_fitMany, .int i_fitLeast, .int i_fitMost, .ref m_fitPost, .ref m_fitEnd, .ref m_keptPosts, .int i_x0]))], [(m_all, .inl (T.2 0, 3952, .inl f_all))]]) (As := [.int k_, .int 0, .int y_2]) (rest := []) C G (c_m_isIn l T k_ 0 y_2) (kS_RX12_111 C.2.2.2.2 (Nat.le_of_ble_eq_true rfl) (Nat.le_of_ble_eq_true rfl)) [] [0, 1] rfl rfl rfl rfl hl.1 dX12_isOf_10 (Nat.le_of_ble_eq_true rfl) (Nat.le_of_ble_eq_true rfl) (fun r_4 b1 H locs hw G => ?_)
  obtain ⟨rfl, hc_3⟩ := hw
  have G : zS T A s.heap s [[(mo, .inr (11, [.ref m_all, .ref m_has, .int i_size, .int i_next, .int i_where, .int i_token, .int i_number, .int i_word, .int i_wrong, .int i_farCrossing, .ref m_read, .int i_z0, .int i_crossings, .int i_inns, .ref m_posts, .ref m_shut, .ref m_here, .int i_steps, .int i_done, .int i_at, .int i_gone, .ref m_was, .ref m_came, .ref m_seenAt, .ref m_rowWorth, .ref m_farBy, .ref m_used, .int i_everywhere, .int i_again0, .int i_d0, .int i_never, .int i_firstCame, .int i_longRun, .int i_moved, .int i_crowd, .int i_l0, .int i_fitMany, .int i_fitLeast, .int i_fitMost, .ref m_fitPost, .ref m_fitEnd, .ref m_keptPosts, .int i_x0]))], [(m_all, .inl (T.2 0, 3952, .inl f_all))]] _ _ := G
  rcases hc_3 with ⟨rfl, h_5, h_6⟩ | ⟨rfl, h_7⟩
  · have h_5 : (0 : Int) ≤ k_.toInt := h_5
    have h_6 : k_.toInt ≤ y_2.toInt := h_6
    exact z_zret C hr hlocks G (Nat.le_of_ble_eq_true rfl) (Nat.le_of_ble_eq_true rfl) dX12_isOf_13 rfl ⟨rfl, (Or.inl (⟨rfl, (by first | assumption | omega), (by first | assumption | omega)⟩))⟩
  · have h_7 : (k_.toInt < (0 : Int) ∨ y_2.toInt < k_.toInt) := h_7
    exact z_zret C hr hlocks G (Nat.le_of_ble_eq_true rfl) (Nat.le_of_ble_eq_true rfl) dX12_isOf_13 rfl ⟨rfl, (Or.inr (⟨rfl, (by first | assumption | omega)⟩))⟩
set_option maxHeartbeats 4000000 in
set_option maxRecDepth 100000 in
/-- isOf 1 -/
theorem c_m_isOf1 (l : Launch) (T : zTy) (mo : Nat) (m_all : Nat) (m_has : Nat) (i_size : Int32) (i_next : Int32) (i_where : Int32) (i_token : Int32) (i_number : Int32) (i_word : Int32) (i_wrong : Int32) (i_farCrossing : Int32) (m_read : Nat) (i_z0 : Int32) (i_crossings : Int32) (i_inns : Int32) (m_posts : Nat) (m_shut : Nat) (m_here : Nat) (i_steps : Int32) (i_done : Int32) (i_at : Int32) (i_gone : Int32) (m_was : Nat) (m_came : Nat) (m_seenAt : Nat) (m_rowWorth : Nat) (m_farBy : Nat) (m_used : Nat) (i_everywhere : Int32) (i_again0 : Int32) (i_d0 : Int32) (i_never : Int32) (i_firstCame : Int32) (i_longRun : Int32) (i_moved : Int32) (i_crowd : Int32) (i_l0 : Int32) (i_fitMany : Int32) (i_fitLeast : Int32) (i_fitMost : Int32) (m_fitPost : Nat) (m_fitEnd : Nat) (m_keptPosts : Nat) (i_x0 : Int32) (f_all : Nat → Int32) (k_ : Int32) (hc : 0 ≤ (f_all 1).toInt ∧ (f_all 1).toInt ≤ 2) : zMi l T yX12_isOf cX12_isOf 3 (some .boolean) 2 0 0 [.ref mo, .int 1, .int k_] [[(mo, .inr (11, [.ref m_all, .ref m_has, .int i_size, .int i_next, .int i_where, .int i_token, .int i_number, .int i_word, .int i_wrong, .int i_farCrossing, .ref m_read, .int i_z0, .int i_crossings, .int i_inns, .ref m_posts, .ref m_shut, .ref m_here, .int i_steps, .int i_done, .int i_at, .int i_gone, .ref m_was, .ref m_came, .ref m_seenAt, .ref m_rowWorth, .ref m_farBy, .ref m_used, .int i_everywhere, .int i_again0, .int i_d0, .int i_never, .int i_firstCame, .int i_longRun, .int i_moved, .int i_crowd, .int i_l0, .int i_fitMany, .int i_fitLeast, .int i_fitMost, .ref m_fitPost, .ref m_fitEnd, .ref m_keptPosts, .int i_x0]))], [(m_all, .inl (T.2 0, 3952, .inl f_all))]] (fun (r : Int32) bs => bs = [[(mo, .inr (11, [.ref m_all, .ref m_has, .int i_size, .int i_next, .int i_where, .int i_token, .int i_number, .int i_word, .int i_wrong, .int i_farCrossing, .ref m_read, .int i_z0, .int i_crossings, .int i_inns, .ref m_posts, .ref m_shut, .ref m_here, .int i_steps, .int i_done, .int i_at, .int i_gone, .ref m_was, .ref m_came, .ref m_seenAt, .ref m_rowWorth, .ref m_farBy, .ref m_used, .int i_everywhere, .int i_again0, .int i_d0, .int i_never, .int i_firstCame, .int i_longRun, .int i_moved, .int i_crowd, .int i_l0, .int i_fitMany, .int i_fitLeast, .int i_fitMost, .ref m_fitPost, .ref m_fitEnd, .ref m_keptPosts, .int i_x0]))], [(m_all, .inl (T.2 0, 3952, .inl f_all))]] ∧ ((r = 1 ∧ 0 ≤ k_.toInt ∧ k_.toInt < (f_all 1).toInt) ∨ (r = 0 ∧ (k_.toInt < 0 ∨ (f_all 1).toInt ≤ k_.toInt)))) := by
  refine zMi_of (own := RX12) (by decide) rfl (Nat.le_of_ble_eq_true rfl) ?_
  intro p e s m args below meth c A ls C hr hlocks hnm hAe G hl
  have hx := C.1
  have hb := C.2.1
  have hl : lv_has ls 3 [(0, .ref mo), (1, .int 1), (2, .int k_)] := hl
  refine lv_iload_n hx hb dX12_isOf_0 rfl (lv_at hl 2 rfl) ?_
  refine lv_iconst (v := 0) hx hb dX12_isOf_1 (by decide) ?_
  refine lv_aload_n hx hb dX12_isOf_2 rfl (lv_at hl 0 rfl) ?_
  refine z_get C G clX12 0 rfl 0 (by decide) m_fl_RX12_7 rfl dX12_isOf_3 ?_
  refine lv_iload_n hx hb dX12_isOf_6 rfl (lv_at hl 1 rfl) ?_
  refine z_ild C G 1 rfl (vp_in_nI (n := 1) (by decide) (by decide)) dX12_isOf_7 ?_
  refine lv_topi (fun v_1 ev_1 => ?_)
  rw [show ((1 : Int32).toNatClampNeg) = 1 from rfl] at ev_1
  subst ev_1
  refine lv_iconst (v := 1) hx hb dX12_isOf_8 (by decide) ?_
  refine lv_isub hx hb dX12_isOf_9 ?_
  refine lv_topi (fun y_2 ey_2 => ?_)
  have ey_2i : y_2.toInt = (f_all 1).toInt - (1 : Int) := by rw [ey_2]; exact z_isubI (x := (f_all 1)) (y := (1 : Int32)) (by show -2147483648 ≤ (f_all 1).toInt - (1 : Int); omega) (by show (f_all 1).toInt - (1 : Int) < 2147483648; omega)
  refine z_Si (bc := []) (br := [[(mo, .inr (11, [.ref m_all, .ref m_has, .int i_size, .int i_next, .int i_where, .int i_token, .int i_number, .int i_word, .int i_wrong, .int i_farCrossing, .ref m_read, .int i_z0, .int i_crossings, .int i_inns, .ref m_posts, .ref m_shut, .ref m_here, .int i_steps, .int i_done, .int i_at, .int i_gone, .ref m_was, .ref m_came, .ref m_seenAt, .ref m_rowWorth, .ref m_farBy, .ref m_used, .int i_everywhere, .int i_again0, .int i_d0, .int i_never, .int i_firstCame, .int i_longRun, .int i_moved, .int i_crowd, .int i_l0, .int i_fitMany, .int i_fitLeast, .int i_fitMost, .ref m_fitPost, .ref m_fitEnd, .ref m_keptPosts, .int i_x0]))], [(m_all, .inl (T.2 0, 3952, .inl f_all))]]) (As := [.int k_, .int 0, .int y_2]) (rest := []) C G (c_m_isIn l T k_ 0 y_2) (kS_RX12_111 C.2.2.2.2 (Nat.le_of_ble_eq_true rfl) (Nat.le_of_ble_eq_true rfl)) [] [0, 1] rfl rfl rfl rfl hl.1 dX12_isOf_10 (Nat.le_of_ble_eq_true rfl) (Nat.le_of_ble_eq_true rfl) (fun r_4 b1 H locs hw G => ?_)
  obtain ⟨rfl, hc_3⟩ := hw
  have G : zS T A s.heap s [[(mo, .inr (11, [.ref m_all, .ref m_has, .int i_size, .int i_next, .int i_where, .int i_token, .int i_number, .int i_word, .int i_wrong, .int i_farCrossing, .ref m_read, .int i_z0, .int i_crossings, .int i_inns, .ref m_posts, .ref m_shut, .ref m_here, .int i_steps, .int i_done, .int i_at, .int i_gone, .ref m_was, .ref m_came, .ref m_seenAt, .ref m_rowWorth, .ref m_farBy, .ref m_used, .int i_everywhere, .int i_again0, .int i_d0, .int i_never, .int i_firstCame, .int i_longRun, .int i_moved, .int i_crowd, .int i_l0, .int i_fitMany, .int i_fitLeast, .int i_fitMost, .ref m_fitPost, .ref m_fitEnd, .ref m_keptPosts, .int i_x0]))], [(m_all, .inl (T.2 0, 3952, .inl f_all))]] _ _ := G
  rcases hc_3 with ⟨rfl, h_5, h_6⟩ | ⟨rfl, h_7⟩
  · have h_5 : (0 : Int) ≤ k_.toInt := h_5
    have h_6 : k_.toInt ≤ y_2.toInt := h_6
    exact z_zret C hr hlocks G (Nat.le_of_ble_eq_true rfl) (Nat.le_of_ble_eq_true rfl) dX12_isOf_13 rfl ⟨rfl, (Or.inl (⟨rfl, (by first | assumption | omega), (by first | assumption | omega)⟩))⟩
  · have h_7 : (k_.toInt < (0 : Int) ∨ y_2.toInt < k_.toInt) := h_7
    exact z_zret C hr hlocks G (Nat.le_of_ble_eq_true rfl) (Nat.le_of_ble_eq_true rfl) dX12_isOf_13 rfl ⟨rfl, (Or.inr (⟨rfl, (by first | assumption | omega)⟩))⟩
set_option maxHeartbeats 4000000 in
set_option maxRecDepth 100000 in
/-- isOf 2 -/
theorem c_m_isOf2 (l : Launch) (T : zTy) (mo : Nat) (m_all : Nat) (m_has : Nat) (i_size : Int32) (i_next : Int32) (i_where : Int32) (i_token : Int32) (i_number : Int32) (i_word : Int32) (i_wrong : Int32) (i_farCrossing : Int32) (m_read : Nat) (i_z0 : Int32) (i_crossings : Int32) (i_inns : Int32) (m_posts : Nat) (m_shut : Nat) (m_here : Nat) (i_steps : Int32) (i_done : Int32) (i_at : Int32) (i_gone : Int32) (m_was : Nat) (m_came : Nat) (m_seenAt : Nat) (m_rowWorth : Nat) (m_farBy : Nat) (m_used : Nat) (i_everywhere : Int32) (i_again0 : Int32) (i_d0 : Int32) (i_never : Int32) (i_firstCame : Int32) (i_longRun : Int32) (i_moved : Int32) (i_crowd : Int32) (i_l0 : Int32) (i_fitMany : Int32) (i_fitLeast : Int32) (i_fitMost : Int32) (m_fitPost : Nat) (m_fitEnd : Nat) (m_keptPosts : Nat) (i_x0 : Int32) (f_all : Nat → Int32) (k_ : Int32) (hc : 0 ≤ (f_all 2).toInt ∧ (f_all 2).toInt ≤ 2) : zMi l T yX12_isOf cX12_isOf 3 (some .boolean) 2 0 0 [.ref mo, .int 2, .int k_] [[(mo, .inr (11, [.ref m_all, .ref m_has, .int i_size, .int i_next, .int i_where, .int i_token, .int i_number, .int i_word, .int i_wrong, .int i_farCrossing, .ref m_read, .int i_z0, .int i_crossings, .int i_inns, .ref m_posts, .ref m_shut, .ref m_here, .int i_steps, .int i_done, .int i_at, .int i_gone, .ref m_was, .ref m_came, .ref m_seenAt, .ref m_rowWorth, .ref m_farBy, .ref m_used, .int i_everywhere, .int i_again0, .int i_d0, .int i_never, .int i_firstCame, .int i_longRun, .int i_moved, .int i_crowd, .int i_l0, .int i_fitMany, .int i_fitLeast, .int i_fitMost, .ref m_fitPost, .ref m_fitEnd, .ref m_keptPosts, .int i_x0]))], [(m_all, .inl (T.2 0, 3952, .inl f_all))]] (fun (r : Int32) bs => bs = [[(mo, .inr (11, [.ref m_all, .ref m_has, .int i_size, .int i_next, .int i_where, .int i_token, .int i_number, .int i_word, .int i_wrong, .int i_farCrossing, .ref m_read, .int i_z0, .int i_crossings, .int i_inns, .ref m_posts, .ref m_shut, .ref m_here, .int i_steps, .int i_done, .int i_at, .int i_gone, .ref m_was, .ref m_came, .ref m_seenAt, .ref m_rowWorth, .ref m_farBy, .ref m_used, .int i_everywhere, .int i_again0, .int i_d0, .int i_never, .int i_firstCame, .int i_longRun, .int i_moved, .int i_crowd, .int i_l0, .int i_fitMany, .int i_fitLeast, .int i_fitMost, .ref m_fitPost, .ref m_fitEnd, .ref m_keptPosts, .int i_x0]))], [(m_all, .inl (T.2 0, 3952, .inl f_all))]] ∧ ((r = 1 ∧ 0 ≤ k_.toInt ∧ k_.toInt < (f_all 2).toInt) ∨ (r = 0 ∧ (k_.toInt < 0 ∨ (f_all 2).toInt ≤ k_.toInt)))) := by
  refine zMi_of (own := RX12) (by decide) rfl (Nat.le_of_ble_eq_true rfl) ?_
  intro p e s m args below meth c A ls C hr hlocks hnm hAe G hl
  have hx := C.1
  have hb := C.2.1
  have hl : lv_has ls 3 [(0, .ref mo), (1, .int 2), (2, .int k_)] := hl
  refine lv_iload_n hx hb dX12_isOf_0 rfl (lv_at hl 2 rfl) ?_
  refine lv_iconst (v := 0) hx hb dX12_isOf_1 (by decide) ?_
  refine lv_aload_n hx hb dX12_isOf_2 rfl (lv_at hl 0 rfl) ?_
  refine z_get C G clX12 0 rfl 0 (by decide) m_fl_RX12_7 rfl dX12_isOf_3 ?_
  refine lv_iload_n hx hb dX12_isOf_6 rfl (lv_at hl 1 rfl) ?_
  refine z_ild C G 1 rfl (vp_in_nI (n := 2) (by decide) (by decide)) dX12_isOf_7 ?_
  refine lv_topi (fun v_1 ev_1 => ?_)
  rw [show ((2 : Int32).toNatClampNeg) = 2 from rfl] at ev_1
  subst ev_1
  refine lv_iconst (v := 1) hx hb dX12_isOf_8 (by decide) ?_
  refine lv_isub hx hb dX12_isOf_9 ?_
  refine lv_topi (fun y_2 ey_2 => ?_)
  have ey_2i : y_2.toInt = (f_all 2).toInt - (1 : Int) := by rw [ey_2]; exact z_isubI (x := (f_all 2)) (y := (1 : Int32)) (by show -2147483648 ≤ (f_all 2).toInt - (1 : Int); omega) (by show (f_all 2).toInt - (1 : Int) < 2147483648; omega)
  refine z_Si (bc := []) (br := [[(mo, .inr (11, [.ref m_all, .ref m_has, .int i_size, .int i_next, .int i_where, .int i_token, .int i_number, .int i_word, .int i_wrong, .int i_farCrossing, .ref m_read, .int i_z0, .int i_crossings, .int i_inns, .ref m_posts, .ref m_shut, .ref m_here, .int i_steps, .int i_done, .int i_at, .int i_gone, .ref m_was, .ref m_came, .ref m_seenAt, .ref m_rowWorth, .ref m_farBy, .ref m_used, .int i_everywhere, .int i_again0, .int i_d0, .int i_never, .int i_firstCame, .int i_longRun, .int i_moved, .int i_crowd, .int i_l0, .int i_fitMany, .int i_fitLeast, .int i_fitMost, .ref m_fitPost, .ref m_fitEnd, .ref m_keptPosts, .int i_x0]))], [(m_all, .inl (T.2 0, 3952, .inl f_all))]]) (As := [.int k_, .int 0, .int y_2]) (rest := []) C G (c_m_isIn l T k_ 0 y_2) (kS_RX12_111 C.2.2.2.2 (Nat.le_of_ble_eq_true rfl) (Nat.le_of_ble_eq_true rfl)) [] [0, 1] rfl rfl rfl rfl hl.1 dX12_isOf_10 (Nat.le_of_ble_eq_true rfl) (Nat.le_of_ble_eq_true rfl) (fun r_4 b1 H locs hw G => ?_)
  obtain ⟨rfl, hc_3⟩ := hw
  have G : zS T A s.heap s [[(mo, .inr (11, [.ref m_all, .ref m_has, .int i_size, .int i_next, .int i_where, .int i_token, .int i_number, .int i_word, .int i_wrong, .int i_farCrossing, .ref m_read, .int i_z0, .int i_crossings, .int i_inns, .ref m_posts, .ref m_shut, .ref m_here, .int i_steps, .int i_done, .int i_at, .int i_gone, .ref m_was, .ref m_came, .ref m_seenAt, .ref m_rowWorth, .ref m_farBy, .ref m_used, .int i_everywhere, .int i_again0, .int i_d0, .int i_never, .int i_firstCame, .int i_longRun, .int i_moved, .int i_crowd, .int i_l0, .int i_fitMany, .int i_fitLeast, .int i_fitMost, .ref m_fitPost, .ref m_fitEnd, .ref m_keptPosts, .int i_x0]))], [(m_all, .inl (T.2 0, 3952, .inl f_all))]] _ _ := G
  rcases hc_3 with ⟨rfl, h_5, h_6⟩ | ⟨rfl, h_7⟩
  · have h_5 : (0 : Int) ≤ k_.toInt := h_5
    have h_6 : k_.toInt ≤ y_2.toInt := h_6
    exact z_zret C hr hlocks G (Nat.le_of_ble_eq_true rfl) (Nat.le_of_ble_eq_true rfl) dX12_isOf_13 rfl ⟨rfl, (Or.inl (⟨rfl, (by first | assumption | omega), (by first | assumption | omega)⟩))⟩
  · have h_7 : (k_.toInt < (0 : Int) ∨ y_2.toInt < k_.toInt) := h_7
    exact z_zret C hr hlocks G (Nat.le_of_ble_eq_true rfl) (Nat.le_of_ble_eq_true rfl) dX12_isOf_13 rfl ⟨rfl, (Or.inr (⟨rfl, (by first | assumption | omega)⟩))⟩
set_option maxHeartbeats 4000000 in
set_option maxRecDepth 100000 in
/-- postsAreThere -/
theorem c_m_postsAreThere (l : Launch) (T : zTy) (mo : Nat) (m_all : Nat) (m_has : Nat) (i_size : Int32) (i_next : Int32) (i_where : Int32) (i_token : Int32) (i_number : Int32) (i_word : Int32) (i_wrong : Int32) (i_farCrossing : Int32) (m_read : Nat) (i_z0 : Int32) (i_crossings : Int32) (i_inns : Int32) (m_posts : Nat) (m_shut : Nat) (m_here : Nat) (i_steps : Int32) (i_done : Int32) (i_at : Int32) (i_gone : Int32) (m_was : Nat) (m_came : Nat) (m_seenAt : Nat) (m_rowWorth : Nat) (m_farBy : Nat) (m_used : Nat) (i_everywhere : Int32) (i_again0 : Int32) (i_d0 : Int32) (i_never : Int32) (i_firstCame : Int32) (i_longRun : Int32) (i_moved : Int32) (i_crowd : Int32) (i_l0 : Int32) (i_fitMany : Int32) (i_fitLeast : Int32) (i_fitMost : Int32) (m_fitPost : Nat) (m_fitEnd : Nat) (m_keptPosts : Nat) (i_x0 : Int32) (f_read : Nat → Int32) : zMi l T yX12_postsAreThere cX12_postsAreThere 3 (some .boolean) 1 0 0 [.ref mo] [[(mo, .inr (11, [.ref m_all, .ref m_has, .int i_size, .int i_next, .int i_where, .int i_token, .int i_number, .int i_word, .int i_wrong, .int i_farCrossing, .ref m_read, .int i_z0, .int i_crossings, .int i_inns, .ref m_posts, .ref m_shut, .ref m_here, .int i_steps, .int i_done, .int i_at, .int i_gone, .ref m_was, .ref m_came, .ref m_seenAt, .ref m_rowWorth, .ref m_farBy, .ref m_used, .int i_everywhere, .int i_again0, .int i_d0, .int i_never, .int i_firstCame, .int i_longRun, .int i_moved, .int i_crowd, .int i_l0, .int i_fitMany, .int i_fitLeast, .int i_fitMost, .ref m_fitPost, .ref m_fitEnd, .ref m_keptPosts, .int i_x0]))], [(m_read, .inl (T.2 0, 121, .inl f_read))]] (fun (r : Int32) bs => bs = [[(mo, .inr (11, [.ref m_all, .ref m_has, .int i_size, .int i_next, .int i_where, .int i_token, .int i_number, .int i_word, .int i_wrong, .int i_farCrossing, .ref m_read, .int i_z0, .int i_crossings, .int i_inns, .ref m_posts, .ref m_shut, .ref m_here, .int i_steps, .int i_done, .int i_at, .int i_gone, .ref m_was, .ref m_came, .ref m_seenAt, .ref m_rowWorth, .ref m_farBy, .ref m_used, .int i_everywhere, .int i_again0, .int i_d0, .int i_never, .int i_firstCame, .int i_longRun, .int i_moved, .int i_crowd, .int i_l0, .int i_fitMany, .int i_fitLeast, .int i_fitMost, .ref m_fitPost, .ref m_fitEnd, .ref m_keptPosts, .int i_x0]))], [(m_read, .inl (T.2 0, 121, .inl f_read))]] ∧ ((r = 1) ∨ (r = 0))) := by
  refine zMi_of (own := RX12) (by decide) rfl (Nat.le_of_ble_eq_true rfl) ?_
  intro p e s m args below meth c A ls C hr hlocks hnm hAe G hl
  have hx := C.1
  have hb := C.2.1
  have hl : lv_has ls 3 [(0, .ref mo)] := hl
  refine lv_iconst (v := 1) hx hb dX12_postsAreThere_0 (by decide) ?_
  refine lv_istore_n (lv' := [(1, .int 1), (0, .ref mo)]) hx hb dX12_postsAreThere_1 rfl hl (by decide) rfl (fun ls hl => ?_)
  refine lv_iconst (v := 0) hx hb dX12_postsAreThere_2 (by decide) ?_
  refine lv_istore_n (lv' := [(2, .int 0), (1, .int 1), (0, .ref mo)]) hx hb dX12_postsAreThere_3 rfl hl (by decide) rfl (fun ls hl => ?_)
  refine z_loop (T := T) (α := Int32 × Nat) 4 (fun (b, i) => [[(mo, .inr (11, [.ref m_all, .ref m_has, .int i_size, .int i_next, .int i_where, .int i_token, .int i_number, .int i_word, .int i_wrong, .int i_farCrossing, .ref m_read, .int i_z0, .int i_crossings, .int i_inns, .ref m_posts, .ref m_shut, .ref m_here, .int i_steps, .int i_done, .int i_at, .int i_gone, .ref m_was, .ref m_came, .ref m_seenAt, .ref m_rowWorth, .ref m_farBy, .ref m_used, .int i_everywhere, .int i_again0, .int i_d0, .int i_never, .int i_firstCame, .int i_longRun, .int i_moved, .int i_crowd, .int i_l0, .int i_fitMany, .int i_fitLeast, .int i_fitMost, .ref m_fitPost, .ref m_fitEnd, .ref m_keptPosts, .int i_x0]))], [(m_read, .inl (T.2 0, 121, .inl f_read))]]) (fun (b, i) => [(2, .int (nI i)), (1, .int b), (0, .ref mo)]) (fun (b, i) => i ≤ 7 ∧ (b = 1 ∨ b = 0)) (fun (b, i) => 7 - i) ?_ (1, 0) (show 0 ≤ 7 ∧ (1 = 1 ∨ 1 = 0) from ⟨by omega, Or.inl rfl⟩) G (lv_sub hl [0, 1, 2] rfl)
  rintro ⟨b, i⟩ ⟨hi, hbb⟩ ih_4 H locs ls G hl
  replace hi : i ≤ 7 := hi
  replace hbb : (b = 1 ∨ b = 0) := hbb
  replace G : zS T A s.heap s [[(mo, .inr (11, [.ref m_all, .ref m_has, .int i_size, .int i_next, .int i_where, .int i_token, .int i_number, .int i_word, .int i_wrong, .int i_farCrossing, .ref m_read, .int i_z0, .int i_crossings, .int i_inns, .ref m_posts, .ref m_shut, .ref m_here, .int i_steps, .int i_done, .int i_at, .int i_gone, .ref m_was, .ref m_came, .ref m_seenAt, .ref m_rowWorth, .ref m_farBy, .ref m_used, .int i_everywhere, .int i_again0, .int i_d0, .int i_never, .int i_firstCame, .int i_longRun, .int i_moved, .int i_crowd, .int i_l0, .int i_fitMany, .int i_fitLeast, .int i_fitMost, .ref m_fitPost, .ref m_fitEnd, .ref m_keptPosts, .int i_x0]))], [(m_read, .inl (T.2 0, 121, .inl f_read))]] _ _ := G
  replace hl : lv_has ls 3 [(2, .int (nI i)), (1, .int b), (0, .ref mo)] := hl
  refine lv_iload_n hx hb dX12_postsAreThere_4 rfl (lv_at hl 0 rfl) ?_
  refine lv_bipush (v := 7) hx hb dX12_postsAreThere_5 (by decide) ?_
  refine lv_icmp_ge (tgt := 58) hx hb dX12_postsAreThere_7 (by decide) (fun c_1 => ?_) (fun c_1 => ?_)
  · have c_1n : 7 ≤ i := (nI_leI (a := 7) (b := i) (by omega) (by omega)).mp c_1
    rcases hbb with rfl | rfl
    · refine lv_iload_n hx hb dX12_postsAreThere_58 rfl (lv_at hl 1 rfl) ?_
      exact z_zret C hr hlocks G (Nat.le_of_ble_eq_true rfl) (Nat.le_of_ble_eq_true rfl) dX12_postsAreThere_59 rfl ⟨rfl, (Or.inl rfl)⟩
    · refine lv_iload_n hx hb dX12_postsAreThere_58 rfl (lv_at hl 1 rfl) ?_
      exact z_zret C hr hlocks G (Nat.le_of_ble_eq_true rfl) (Nat.le_of_ble_eq_true rfl) dX12_postsAreThere_59 rfl ⟨rfl, (Or.inr rfl)⟩
  · have c_1n : ¬ 7 ≤ i := fun q => c_1 ((nI_leI (a := 7) (b := i) (by omega) (by omega)).mpr q)
    refine lv_iload_n hx hb dX12_postsAreThere_10 rfl (lv_at hl 1 rfl) ?_
    refine lv_if_eq (tgt := 50) hx hb dX12_postsAreThere_11 (by decide) (fun c_2 => ?_) (fun c_2 => ?_)
    · have c_2n : b.toInt = (0 : Int) := (fa_eq _ _).mp c_2
      refine lv_iconst (v := 0) hx hb dX12_postsAreThere_50 (by decide) ?_
      refine lv_istore_n (lv' := [(1, .int 0), (2, .int (nI i)), (0, .ref mo)]) hx hb dX12_postsAreThere_51 rfl hl (by decide) rfl (fun ls hl => ?_)
      refine lv_iinc (v := nI (i + 1)) (lv' := [(2, .int (nI (i + 1))), (1, .int 0), (0, .ref mo)]) hx hb dX12_postsAreThere_52 hl (k := 1) rfl (z_inc i 1) (by decide) rfl (fun ls hl => ?_)
      refine lv_goto (tgt := 4) hx hb dX12_postsAreThere_55 (by decide) ?_
      exact ih_4 (0, (i + 1)) (show (i + 1) ≤ 7 ∧ (0 = 1 ∨ 0 = 0) from ⟨by omega, Or.inr rfl⟩) (show 7 - (i + 1) < 7 - i from by omega) _ _ ls G (lv_sub hl [0, 1, 2] rfl)
    · have c_2n : ¬ b.toInt = (0 : Int) := fun q => c_2 ((fa_eq _ _).mpr q)
      refine lv_aload_n hx hb dX12_postsAreThere_14 rfl (lv_at hl 2 rfl) ?_
      refine z_get C G clX12 0 rfl 10 (by decide) m_fl_RX12_17 rfl dX12_postsAreThere_15 ?_
      refine lv_bipush (v := 9) hx hb dX12_postsAreThere_18 (by decide) ?_
      refine lv_iload_n hx hb dX12_postsAreThere_20 rfl (lv_at hl 0 rfl) ?_
      refine lv_iadd hx hb dX12_postsAreThere_21 ?_
      refine lv_topi (fun y_3 ey_3 => ?_)
      obtain rfl : y_3 = nI (9 + i) := ey_3.trans (z_iaddn 9 i rfl rfl)
      refine z_ild C G 1 rfl (vp_in_nI (by omega) (by omega)) dX12_postsAreThere_22 ?_
      refine lv_topi (fun v_4 ev_4 => ?_)
      rw [nI_clamp (by omega)] at ev_4
      subst ev_4
      refine lv_if_eq (tgt := 46) hx hb dX12_postsAreThere_23 (by decide) (fun c_5 => ?_) (fun c_5 => ?_)
      · have c_5n : (f_read (9 + i)).toInt = (0 : Int) := (fa_eq _ _).mp c_5
        refine lv_iconst (v := 1) hx hb dX12_postsAreThere_46 (by decide) ?_
        refine lv_goto (tgt := 51) hx hb dX12_postsAreThere_47 (by decide) ?_
        refine lv_istore_n (lv' := [(1, .int 1), (2, .int (nI i)), (0, .ref mo)]) hx hb dX12_postsAreThere_51 rfl hl (by decide) rfl (fun ls hl => ?_)
        refine lv_iinc (v := nI (i + 1)) (lv' := [(2, .int (nI (i + 1))), (1, .int 1), (0, .ref mo)]) hx hb dX12_postsAreThere_52 hl (k := 1) rfl (z_inc i 1) (by decide) rfl (fun ls hl => ?_)
        refine lv_goto (tgt := 4) hx hb dX12_postsAreThere_55 (by decide) ?_
        exact ih_4 (1, (i + 1)) (show (i + 1) ≤ 7 ∧ (1 = 1 ∨ 1 = 0) from ⟨by omega, Or.inl rfl⟩) (show 7 - (i + 1) < 7 - i from by omega) _ _ ls G (lv_sub hl [0, 1, 2] rfl)
      · have c_5n : ¬ (f_read (9 + i)).toInt = (0 : Int) := fun q => c_5 ((fa_eq _ _).mpr q)
        refine lv_aload_n hx hb dX12_postsAreThere_26 rfl (lv_at hl 2 rfl) ?_
        refine z_get C G clX12 0 rfl 10 (by decide) m_fl_RX12_17 rfl dX12_postsAreThere_27 ?_
        refine lv_bipush (v := 9) hx hb dX12_postsAreThere_30 (by decide) ?_
        refine lv_iload_n hx hb dX12_postsAreThere_32 rfl (lv_at hl 0 rfl) ?_
        refine lv_iadd hx hb dX12_postsAreThere_33 ?_
        refine lv_topi (fun y_6 ey_6 => ?_)
        obtain rfl : y_6 = nI (9 + i) := ey_6.trans (z_iaddn 9 i rfl rfl)
        refine z_ild C G 1 rfl (vp_in_nI (by omega) (by omega)) dX12_postsAreThere_34 ?_
        refine lv_topi (fun v_7 ev_7 => ?_)
        rw [nI_clamp (by omega)] at ev_7
        subst ev_7
        refine lv_aload_n hx hb dX12_postsAreThere_35 rfl (lv_at hl 2 rfl) ?_
        refine z_get C G clX12 0 rfl 10 (by decide) m_fl_RX12_17 rfl dX12_postsAreThere_36 ?_
        refine lv_iconst (v := 2) hx hb dX12_postsAreThere_39 (by decide) ?_
        refine lv_iload_n hx hb dX12_postsAreThere_40 rfl (lv_at hl 0 rfl) ?_
        refine lv_iadd hx hb dX12_postsAreThere_41 ?_
        refine lv_topi (fun y_8 ey_8 => ?_)
        obtain rfl : y_8 = nI (2 + i) := ey_8.trans (z_iaddn 2 i rfl rfl)
        refine z_ild C G 1 rfl (vp_in_nI (by omega) (by omega)) dX12_postsAreThere_42 ?_
        refine lv_topi (fun v_9 ev_9 => ?_)
        rw [nI_clamp (by omega)] at ev_9
        subst ev_9
        refine lv_icmp_ge (tgt := 50) hx hb dX12_postsAreThere_43 (by decide) (fun c_10 => ?_) (fun c_10 => ?_)
        · have c_10n : (f_read (2 + i)).toInt ≤ (f_read (9 + i)).toInt := (fa_le _ _).mp c_10
          refine lv_iconst (v := 0) hx hb dX12_postsAreThere_50 (by decide) ?_
          refine lv_istore_n (lv' := [(1, .int 0), (2, .int (nI i)), (0, .ref mo)]) hx hb dX12_postsAreThere_51 rfl hl (by decide) rfl (fun ls hl => ?_)
          refine lv_iinc (v := nI (i + 1)) (lv' := [(2, .int (nI (i + 1))), (1, .int 0), (0, .ref mo)]) hx hb dX12_postsAreThere_52 hl (k := 1) rfl (z_inc i 1) (by decide) rfl (fun ls hl => ?_)
          refine lv_goto (tgt := 4) hx hb dX12_postsAreThere_55 (by decide) ?_
          exact ih_4 (0, (i + 1)) (show (i + 1) ≤ 7 ∧ (0 = 1 ∨ 0 = 0) from ⟨by omega, Or.inr rfl⟩) (show 7 - (i + 1) < 7 - i from by omega) _ _ ls G (lv_sub hl [0, 1, 2] rfl)
        · have c_10n : ¬ (f_read (2 + i)).toInt ≤ (f_read (9 + i)).toInt := fun q => c_10 ((fa_le _ _).mpr q)
          refine lv_iconst (v := 1) hx hb dX12_postsAreThere_46 (by decide) ?_
          refine lv_goto (tgt := 51) hx hb dX12_postsAreThere_47 (by decide) ?_
          refine lv_istore_n (lv' := [(1, .int 1), (2, .int (nI i)), (0, .ref mo)]) hx hb dX12_postsAreThere_51 rfl hl (by decide) rfl (fun ls hl => ?_)
          refine lv_iinc (v := nI (i + 1)) (lv' := [(2, .int (nI (i + 1))), (1, .int 1), (0, .ref mo)]) hx hb dX12_postsAreThere_52 hl (k := 1) rfl (z_inc i 1) (by decide) rfl (fun ls hl => ?_)
          refine lv_goto (tgt := 4) hx hb dX12_postsAreThere_55 (by decide) ?_
          exact ih_4 (1, (i + 1)) (show (i + 1) ≤ 7 ∧ (1 = 1 ∨ 1 = 0) from ⟨by omega, Or.inl rfl⟩) (show 7 - (i + 1) < 7 - i from by omega) _ _ ls G (lv_sub hl [0, 1, 2] rfl)
